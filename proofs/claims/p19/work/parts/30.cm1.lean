def rmC_cutQuotient : Room := { frames := 0, cells := 0, slots := 0, locals := 0 }
set_option maxHeartbeats 1000000 in
set_option maxRecDepth 100000 in
theorem cC_cutQuotient (l : Launch) (D : va_G) (cA : Nat → ClassId) (A : Nat → Prop) (g : Nat → Nat) (w : zk_W) (n d : Int64) : zM l yX4_cutQuotient wsX4_cutQuotient rmC_cutQuotient D (zt cA) A g [.long n, .long d] (w) (zQl (fun r w' => (if d = 0 then 0 else n / d) = r ∧ w = w')) := by
  refine zM_of (cc := cX4_cutQuotient) (maxL := 4) (ret := (some .long)) (own := RX4) (by decide +kernel) rfl (Nat.le_of_ble_eq_true rfl) rfl ?_
  intro p e s m below meth c C hr hnm H locs ls hH hS hl
  obtain ⟨⟨hx, hb, hml, hown, hts⟩, hG, hlk⟩ := id C
  have hl : lv_has ls 4 [(0, .long n), (2, .long d)] := hl
  refine lv_lload_n hx hb dX4_cutQuotient_0 rfl (lv_at hl 1 rfl) ?_
  refine lv_lconst (v := 0) hx hb dX4_cutQuotient_1 (by decide) ?_
  refine zl_cmp_ne (tgt := 10) hx hb dX4_cutQuotient_2 dX4_cutQuotient_3 (by decide) (fun c_1 => ?_) (fun c_1 => ?_)
  · refine lv_lload_n hx hb dX4_cutQuotient_10 rfl (lv_at hl 0 rfl) ?_
    refine lv_lload_n hx hb dX4_cutQuotient_11 rfl (lv_at hl 1 rfl) ?_
    refine lv_ldiv hx hb dX4_cutQuotient_12 (c_1) ?_
    refine zr_lret C hr ?_ hH hS (Nat.le_of_ble_eq_true rfl) (Nat.le_of_ble_eq_true rfl) dX4_cutQuotient_13
    exact ⟨if_neg c_1, rfl⟩
  · refine lv_lconst (v := 0) hx hb dX4_cutQuotient_6 (by decide) ?_
    refine lv_goto (tgt := 13) hx hb dX4_cutQuotient_7 (by decide) ?_
    refine zr_lret C hr ?_ hH hS (Nat.le_of_ble_eq_true rfl) (Nat.le_of_ble_eq_true rfl) dX4_cutQuotient_13
    exact ⟨if_pos c_1, rfl⟩
def rmC_costsOf : Room := { frames := 0, cells := 0, slots := 0, locals := 0 }
set_option maxHeartbeats 1000000 in
set_option maxRecDepth 100000 in
theorem cC_costsOf (l : Launch) (D : va_G) (cA : Nat → ClassId) (A : Nat → Prop) (g : Nat → Nat) (w : zk_W) (x : Int64) : zM l yX4_costsOf wsX4_costsOf rmC_costsOf D (zt cA) A g [.long x] (w) (zQl (fun r w' => costL x = r ∧ w = w')) := by
  refine zM_of (cc := cX4_costsOf) (maxL := 3) (ret := (some .long)) (own := RX4) (by decide +kernel) rfl (Nat.le_of_ble_eq_true rfl) rfl ?_
  intro p e s m below meth c C hr hnm H locs ls hH hS hl
  obtain ⟨⟨hx, hb, hml, hown, hts⟩, hG, hlk⟩ := id C
  have hl : lv_has ls 3 [(0, .long x)] := hl
  refine lv_lload_n hx hb dX4_costsOf_0 rfl (lv_at hl 0 rfl) ?_
  refine lv_ldc2 (v := 10000) hx hb hown (hts (.constantLong RX4 240 10000) (by decide +kernel)) dX4_costsOf_1 ?_
  refine zl_cmp_ge (tgt := 13) hx hb dX4_costsOf_4 dX4_costsOf_5 (by decide) (fun c_1 => ?_) (fun c_1 => ?_)
  · refine lv_lload_n hx hb dX4_costsOf_13 rfl (lv_at hl 0 rfl) ?_
    refine lv_ldc2 (v := 100000) hx hb hown (hts (.constantLong RX4 242 100000) (by decide +kernel)) dX4_costsOf_14 ?_
    refine zl_cmp_ge (tgt := 26) hx hb dX4_costsOf_17 dX4_costsOf_18 (by decide) (fun c_2 => ?_) (fun c_2 => ?_)
    · refine lv_bipush (v := 20) hx hb dX4_costsOf_26 (by decide) ?_
      refine lv_istore_n (lv' := [(2, .int 20), (0, .long x)]) hx hb dX4_costsOf_28 rfl hl (by decide) rfl (fun ls hl_3 => ?_)
      refine lv_lload_n hx hb dX4_costsOf_29 rfl (lv_at hl_3 1 rfl) ?_
      refine lv_iload_n hx hb dX4_costsOf_30 rfl (lv_at hl_3 0 rfl) ?_
      refine lv_i2l (v := Int32.toInt64 20) hx hb dX4_costsOf_31 rfl ?_
      refine lv_lmul hx hb dX4_costsOf_32 ?_
      refine lv_ldc2 (v := 10000) hx hb hown (hts (.constantLong RX4 240 10000) (by decide +kernel)) dX4_costsOf_33 ?_
      refine lv_ldiv hx hb dX4_costsOf_36 (by decide) ?_
      refine zr_lret C hr ?_ hH hS (Nat.le_of_ble_eq_true rfl) (Nat.le_of_ble_eq_true rfl) dX4_costsOf_37
      exact ⟨by unfold costL; first | (rw [if_pos (by assumption)]; rfl) | (rw [if_neg (by assumption), if_pos (by assumption)]; rfl) | (rw [if_neg (by assumption), if_neg (by assumption)]; rfl), rfl⟩
    · refine lv_bipush (v := 50) hx hb dX4_costsOf_21 (by decide) ?_
      refine lv_goto (tgt := 28) hx hb dX4_costsOf_23 (by decide) ?_
      refine lv_istore_n (lv' := [(2, .int 50), (0, .long x)]) hx hb dX4_costsOf_28 rfl hl (by decide) rfl (fun ls hl_4 => ?_)
      refine lv_lload_n hx hb dX4_costsOf_29 rfl (lv_at hl_4 1 rfl) ?_
      refine lv_iload_n hx hb dX4_costsOf_30 rfl (lv_at hl_4 0 rfl) ?_
      refine lv_i2l (v := Int32.toInt64 50) hx hb dX4_costsOf_31 rfl ?_
      refine lv_lmul hx hb dX4_costsOf_32 ?_
      refine lv_ldc2 (v := 10000) hx hb hown (hts (.constantLong RX4 240 10000) (by decide +kernel)) dX4_costsOf_33 ?_
      refine lv_ldiv hx hb dX4_costsOf_36 (by decide) ?_
      refine zr_lret C hr ?_ hH hS (Nat.le_of_ble_eq_true rfl) (Nat.le_of_ble_eq_true rfl) dX4_costsOf_37
      exact ⟨by unfold costL; first | (rw [if_pos (by assumption)]; rfl) | (rw [if_neg (by assumption), if_pos (by assumption)]; rfl) | (rw [if_neg (by assumption), if_neg (by assumption)]; rfl), rfl⟩
  · refine lv_bipush (v := 100) hx hb dX4_costsOf_8 (by decide) ?_
    refine lv_goto (tgt := 28) hx hb dX4_costsOf_10 (by decide) ?_
    refine lv_istore_n (lv' := [(2, .int 100), (0, .long x)]) hx hb dX4_costsOf_28 rfl hl (by decide) rfl (fun ls hl_5 => ?_)
    refine lv_lload_n hx hb dX4_costsOf_29 rfl (lv_at hl_5 1 rfl) ?_
    refine lv_iload_n hx hb dX4_costsOf_30 rfl (lv_at hl_5 0 rfl) ?_
    refine lv_i2l (v := Int32.toInt64 100) hx hb dX4_costsOf_31 rfl ?_
    refine lv_lmul hx hb dX4_costsOf_32 ?_
    refine lv_ldc2 (v := 10000) hx hb hown (hts (.constantLong RX4 240 10000) (by decide +kernel)) dX4_costsOf_33 ?_
    refine lv_ldiv hx hb dX4_costsOf_36 (by decide) ?_
    refine zr_lret C hr ?_ hH hS (Nat.le_of_ble_eq_true rfl) (Nat.le_of_ble_eq_true rfl) dX4_costsOf_37
    exact ⟨by unfold costL; first | (rw [if_pos (by assumption)]; rfl) | (rw [if_neg (by assumption), if_pos (by assumption)]; rfl) | (rw [if_neg (by assumption), if_neg (by assumption)]; rfl), rfl⟩
def rmC_partsFor : Room := { frames := 1, cells := 0, slots := 0, locals := 23 }
set_option maxHeartbeats 1000000 in
set_option maxRecDepth 100000 in
theorem cC_partsFor (l : Launch) (D : va_G) (cA : Nat → ClassId) (A : Nat → Prop) (g : Nat → Nat) (ad : zk_K → Nat) (nc nt dy : Nat) (mo : Int64) (I : zIA) (L : zLA) (f : Nat) (x : Int64) (hf : f < 6) (hpr : ∀ f, f < 6 → ¬ Int32.toInt64 (I 1 f) = 0) : zM l yX4_partsFor wsX4_partsFor rmC_partsFor D (zt cA) A g [.long x, .ref (ad (7, f, 0))] (cw cA (g 0) ad 6 nc nc 6 nt dy mo I L) (zQl (fun r w' => partsL I f x = r ∧ cw cA (g 0) ad 6 nc nc 6 nt dy mo I L = w')) := by
  refine zM_of (cc := cX4_partsFor) (maxL := 3) (ret := (some .long)) (own := RX4) (by decide +kernel) rfl (Nat.le_of_ble_eq_true rfl) rfl ?_
  intro p e s m below meth c C hr hnm H locs ls hH hS hl
  obtain ⟨⟨hx, hb, hml, hown, hts⟩, hG, hlk⟩ := id C
  have hinX1 : ∀ w ∈ wsX10, w ∈ wsX4_partsFor := by decide +kernel
  have hl : lv_has ls 3 [(0, .long x), (2, .ref (ad (7, f, 0)))] := hl
  refine lv_lload_n hx hb dX4_partsFor_0 rfl (lv_at hl 0 rfl) ?_
  refine lv_ldc2 (v := 1000) hx hb hown (hts (.constantLong RX4 234 1000) (by decide +kernel)) dX4_partsFor_1 ?_
  refine lv_lmul hx hb dX4_partsFor_4 ?_
  refine lv_aload_n hx hb dX4_partsFor_5 rfl (lv_at hl 1 rfl) ?_
  refine zr_getA (ref := RX1) C hinX1 (ci := 2) rfl hH (7, f, 0) (cl_7 (by omega)) rfl 1 (by decide) (by decide +kernel) (fun _ h => h) rfl dX4_partsFor_6 ?_ rfl
  refine lv_i2l (v := Int32.toInt64 (I 1 f)) hx hb dX4_partsFor_9 rfl ?_
  refine zk_cl (zk_rS (As := [.long (x * 1000), .long (Int32.toInt64 (I 1 f))]) (rest := []) (n := 2) C (cC_cutQuotient l D cA A g (cw cA (g 0) ad 6 nc nc 6 nt dy mo I L) (x * 1000) (Int32.toInt64 (I 1 f))) hH hS gX4_partsFor_X4_cutQuotient rfl rfl (by decide +kernel) ⟨Nat.le_of_ble_eq_true rfl, Nat.le_of_ble_eq_true rfl⟩ hl rfl (Nat.le_of_ble_eq_true rfl) dX4_partsFor_10 ⟨Nat.le_of_ble_eq_true rfl, Nat.le_of_ble_eq_true rfl⟩) hS (fun r_1 w_2 H locs hP hH_3 hS_4 => ?_)
  obtain ⟨rfl, rfl⟩ := hP
  rw [if_neg (hpr f hf)]
  refine zr_lret C hr ?_ hH_3 hS_4 (Nat.le_of_ble_eq_true rfl) (Nat.le_of_ble_eq_true rfl) dX4_partsFor_13
  exact ⟨rfl, rfl⟩
def rmC_amountFor : Room := { frames := 0, cells := 0, slots := 0, locals := 0 }
set_option maxHeartbeats 1000000 in
set_option maxRecDepth 100000 in
theorem cC_amountFor (l : Launch) (D : va_G) (cA : Nat → ClassId) (A : Nat → Prop) (g : Nat → Nat) (ad : zk_K → Nat) (nc nt dy : Nat) (mo : Int64) (I : zIA) (L : zLA) (f : Nat) (x : Int64) (hf : f < 6) : zM l yX4_amountFor wsX4_amountFor rmC_amountFor D (zt cA) A g [.long x, .ref (ad (7, f, 0))] (cw cA (g 0) ad 6 nc nc 6 nt dy mo I L) (zQl (fun r w' => amountL I f x = r ∧ cw cA (g 0) ad 6 nc nc 6 nt dy mo I L = w')) := by
  refine zM_of (cc := cX4_amountFor) (maxL := 3) (ret := (some .long)) (own := RX4) (by decide +kernel) rfl (Nat.le_of_ble_eq_true rfl) rfl ?_
  intro p e s m below meth c C hr hnm H locs ls hH hS hl
  obtain ⟨⟨hx, hb, hml, hown, hts⟩, hG, hlk⟩ := id C
  have hinX1 : ∀ w ∈ wsX10, w ∈ wsX4_amountFor := by decide +kernel
  have hl : lv_has ls 3 [(0, .long x), (2, .ref (ad (7, f, 0)))] := hl
  refine lv_lload_n hx hb dX4_amountFor_0 rfl (lv_at hl 0 rfl) ?_
  refine lv_aload_n hx hb dX4_amountFor_1 rfl (lv_at hl 1 rfl) ?_
  refine zr_getA (ref := RX1) C hinX1 (ci := 2) rfl hH (7, f, 0) (cl_7 (by omega)) rfl 1 (by decide) (by decide +kernel) (fun _ h => h) rfl dX4_amountFor_2 ?_ rfl
  refine lv_i2l (v := Int32.toInt64 (I 1 f)) hx hb dX4_amountFor_5 rfl ?_
  refine lv_lmul hx hb dX4_amountFor_6 ?_
  refine lv_ldc2 (v := 1000) hx hb hown (hts (.constantLong RX4 234 1000) (by decide +kernel)) dX4_amountFor_7 ?_
  refine lv_ldiv hx hb dX4_amountFor_10 (by decide) ?_
  refine zr_lret C hr ?_ hH hS (Nat.le_of_ble_eq_true rfl) (Nat.le_of_ble_eq_true rfl) dX4_amountFor_11
  exact ⟨rfl, rfl⟩
def rmC_worthOf : Room := { frames := 1, cells := 0, slots := 0, locals := 22 }
set_option maxHeartbeats 1000000 in
set_option maxRecDepth 100000 in
theorem cC_worthOf (l : Launch) (D : va_G) (cA : Nat → ClassId) (A : Nat → Prop) (g : Nat → Nat) (ad : zk_K → Nat) (nc nt dy : Nat) (mo : Int64) (I : zIA) (L : zLA) (cc f : Nat) (hc : cc < nc) (hf : f < 6) : zM l yX4_worthOf wsX4_worthOf rmC_worthOf D (zt cA) A g [.ref (ad (13, cc, f))] (cw cA (g 0) ad 6 nc nc 6 nt dy mo I L) (zQl (fun r w' => valueL I L cc f = r ∧ cw cA (g 0) ad 6 nc nc 6 nt dy mo I L = w')) := by
  refine zM_of (cc := cX4_worthOf) (maxL := 1) (ret := (some .long)) (own := RX4) (by decide +kernel) rfl (Nat.le_of_ble_eq_true rfl) rfl ?_
  intro p e s m below meth c C hr hnm H locs ls hH hS hl
  obtain ⟨⟨hx, hb, hml, hown, hts⟩, hG, hlk⟩ := id C
  have hinX2 : ∀ w ∈ wsX20, w ∈ wsX4_worthOf := by decide +kernel
  have hl : lv_has ls 1 [(0, .ref (ad (13, cc, f)))] := hl
  refine lv_aload_n hx hb dX4_worthOf_0 rfl (lv_at hl 0 rfl) ?_
  refine zr_getA (ref := RX2) C hinX2 (ci := 3) rfl hH (13, cc, f) (cl_13 (by omega) (by omega)) rfl 2 (by decide) (by decide +kernel) (fun _ h => h) rfl dX4_worthOf_1 ?_ rfl
  refine lv_aload_n hx hb dX4_worthOf_4 rfl (lv_at hl 0 rfl) ?_
  refine zr_getA (ref := RX2) C hinX2 (ci := 3) rfl hH (13, cc, f) (cl_13 (by omega) (by omega)) rfl 1 (by decide) (by decide +kernel) (fun _ h => h) rfl dX4_worthOf_5 ?_ rfl
  refine zk_cl (zk_rS (As := [.long (L 8 (6 * cc + f)), .ref (ad (7, f, 0))]) (rest := []) (n := 2) C (cC_amountFor l D cA A g ad nc nt dy mo I L f (L 8 (6 * cc + f)) (by omega)) hH hS gX4_worthOf_X4_amountFor rfl rfl (by decide +kernel) ⟨Nat.le_of_ble_eq_true rfl, Nat.le_of_ble_eq_true rfl⟩ hl rfl (Nat.le_of_ble_eq_true rfl) dX4_worthOf_8 ⟨Nat.le_of_ble_eq_true rfl, Nat.le_of_ble_eq_true rfl⟩) hS (fun r_1 w_2 H locs hP hH_3 hS_4 => ?_)
  obtain ⟨rfl, rfl⟩ := hP
  refine zr_lret C hr ?_ hH_3 hS_4 (Nat.le_of_ble_eq_true rfl) (Nat.le_of_ble_eq_true rfl) dX4_worthOf_11
  exact ⟨rfl, rfl⟩
def rmC_wealthOf : Room := { frames := 3, cells := 0, slots := 0, locals := 64 }
set_option maxHeartbeats 1000000 in
set_option maxRecDepth 100000 in
theorem cC_wealthOf (l : Launch) (D : va_G) (cA : Nat → ClassId) (A : Nat → Prop) (g : Nat → Nat) (ad : zk_K → Nat) (nc nt dy : Nat) (mo : Int64) (I : zIA) (L : zLA) (cc : Nat) (hc : cc < nc) : zM l yX4_wealthOf wsX4_wealthOf rmC_wealthOf D (zt cA) A g [.ref (ad (8, cc, 0))] (cw cA (g 0) ad 6 nc nc 6 nt dy mo I L) (zQl (fun r w' => wealthL I L cc 6 = r ∧ cw cA (g 0) ad 6 nc nc 6 nt dy mo I L = w')) := by
  refine zM_of (cc := cX4_wealthOf) (maxL := 4) (ret := (some .long)) (own := RX4) (by decide +kernel) rfl (Nat.le_of_ble_eq_true rfl) rfl ?_
  intro p e s m below meth c C hr hnm H locs ls hH hS hl
  obtain ⟨⟨hx, hb, hml, hown, hts⟩, hG, hlk⟩ := id C
  have hinX0 : ∀ w ∈ wsX00, w ∈ wsX4_wealthOf := by decide +kernel
  have hl : lv_has ls 4 [(0, .ref (ad (8, cc, 0)))] := hl
  refine lv_aload_n hx hb dX4_wealthOf_0 rfl (lv_at hl 0 rfl) ?_
  refine zr_getA (ref := RX0) C hinX0 (ci := 1) rfl hH (8, cc, 0) (cl_8 (by omega)) rfl 4 (by decide) (by decide +kernel) (fun _ h => h) rfl dX4_wealthOf_1 ?_ rfl
  refine lv_lstore_n (lv' := [(1, .long (L 6 cc)), (0, .ref (ad (8, cc, 0)))]) hx hb dX4_wealthOf_4 rfl hl (by decide) rfl (fun ls hl_1 => ?_)
  refine lv_iconst (v := 0) hx hb dX4_wealthOf_5 (by decide) ?_
  refine lv_istore_n (lv' := [(3, .int 0), (1, .long (L 6 cc)), (0, .ref (ad (8, cc, 0)))]) hx hb dX4_wealthOf_6 rfl hl_1 (by decide) rfl (fun ls hl_2 => ?_)
  refine z_at (n := 6) (P := fun i_3 => zL p l e rmC_wealthOf s m _ below meth c 4 D A _ (cw cA (g 0) ad 6 nc nc 6 nt dy mo I L) 0 0 7 [(0, .ref (ad (8, cc, 0))), (1, .long (wealthL I L cc i_3)), (3, .int (nI i_3))] []) 0 (Nat.zero_le _) (fun h => h _ _ _ hH hS (lv_sub hl_2 [2, 1, 0] rfl)) ?_ ?_
  · intro H locs ls hH_5 hS_6 hl_7
    refine lv_iload_n hx hb dX4_wealthOf_7 rfl (lv_at hl_7 2 rfl) ?_
    refine lv_aload_n hx hb dX4_wealthOf_8 rfl (lv_at hl_7 0 rfl) ?_
    refine zr_getA (ref := RX0) C hinX0 (ci := 1) rfl hH_5 (8, cc, 0) (cl_8 (by omega)) rfl 1 (by decide) (by decide +kernel) (fun _ h => h) rfl dX4_wealthOf_9 ?_ rfl
    refine zk_ci (zk_rV (As := []) (rest := [.int (nI 6)]) (n := 0) (k := (9, cc, 0)) C (cC_size l D cA A g (cw cA (g 0) ad 6 nc nc 6 nt dy mo I L) (9, cc, 0) (10, cc, 0) 6 (g0 := g 0) (cl_9 (by omega)) cl_e9) hH_5 hS_6 (cl_9 (by omega)) rfl rfl gX4_wealthOf_Jx4a65c_size_8abf5 rfl rfl (by decide +kernel) ⟨Nat.le_of_ble_eq_true rfl, Nat.le_of_ble_eq_true rfl⟩ hl_7 rfl (Nat.le_of_ble_eq_true rfl) dX4_wealthOf_12 ⟨Nat.le_of_ble_eq_true rfl, Nat.le_of_ble_eq_true rfl⟩) hS_6 (fun r_ w_ H locs hP hH_8 hS_9 => ?_)
    obtain ⟨rfl, rfl⟩ := hP
    refine lv_icmp_ge (tgt := 41) hx hb dX4_wealthOf_15 (by decide) (fun c_10 => ?_) (fun c_10 => absurd (Int32.le_refl _) c_10)
    refine lv_lload_n hx hb dX4_wealthOf_41 rfl (lv_at hl_7 1 rfl) ?_
    refine zr_lret C hr ?_ hH_8 hS_9 (Nat.le_of_ble_eq_true rfl) (Nat.le_of_ble_eq_true rfl) dX4_wealthOf_42
    exact ⟨rfl, rfl⟩
  · intro i_3 hi_3 ih_4 H locs ls hH_11 hS_12 hl_13
    refine lv_iload_n hx hb dX4_wealthOf_7 rfl (lv_at hl_13 2 rfl) ?_
    refine lv_aload_n hx hb dX4_wealthOf_8 rfl (lv_at hl_13 0 rfl) ?_
    refine zr_getA (ref := RX0) C hinX0 (ci := 1) rfl hH_11 (8, cc, 0) (cl_8 (by omega)) rfl 1 (by decide) (by decide +kernel) (fun _ h => h) rfl dX4_wealthOf_9 ?_ rfl
    refine zk_ci (zk_rV (As := []) (rest := [.int (nI i_3)]) (n := 0) (k := (9, cc, 0)) C (cC_size l D cA A g (cw cA (g 0) ad 6 nc nc 6 nt dy mo I L) (9, cc, 0) (10, cc, 0) 6 (g0 := g 0) (cl_9 (by omega)) cl_e9) hH_11 hS_12 (cl_9 (by omega)) rfl rfl gX4_wealthOf_Jx4a65c_size_8abf5 rfl rfl (by decide +kernel) ⟨Nat.le_of_ble_eq_true rfl, Nat.le_of_ble_eq_true rfl⟩ hl_13 rfl (Nat.le_of_ble_eq_true rfl) dX4_wealthOf_12 ⟨Nat.le_of_ble_eq_true rfl, Nat.le_of_ble_eq_true rfl⟩) hS_12 (fun r_ w_ H locs hP hH_14 hS_15 => ?_)
    obtain ⟨rfl, rfl⟩ := hP
    refine lv_icmp_ge (tgt := 41) hx hb dX4_wealthOf_15 (by decide) (fun c_16 => absurd c_16 (nI_ge hi_3 (by first | decide | omega))) (fun c_16 => ?_)
    refine lv_lload_n hx hb dX4_wealthOf_18 rfl (lv_at hl_13 1 rfl) ?_
    refine lv_aload_n hx hb dX4_wealthOf_19 rfl (lv_at hl_13 0 rfl) ?_
    refine zr_getA (ref := RX0) C hinX0 (ci := 1) rfl hH_14 (8, cc, 0) (cl_8 (by omega)) rfl 1 (by decide) (by decide +kernel) (fun _ h => h) rfl dX4_wealthOf_20 ?_ rfl
    refine lv_iload_n hx hb dX4_wealthOf_23 rfl (lv_at hl_13 2 rfl) ?_
    refine zk_cr (zk_rV (As := [.int (nI i_3)]) (rest := [.long (wealthL I L cc i_3)]) (n := 1) (k := (9, cc, 0)) C (cC_get l D cA A g (cw cA (g 0) ad 6 nc nc 6 nt dy mo I L) (9, cc, 0) (10, cc, 0) (fun j => (13, cc, j)) 6 i_3 (g0 := g 0) (cl_9 (by omega)) cl_e9 (cl_10 (by omega)) cl_e10 (by omega) (by omega)) hH_14 hS_15 (cl_9 (by omega)) rfl rfl gX4_wealthOf_Jx4a65c_get_915e3 rfl rfl (by decide +kernel) ⟨Nat.le_of_ble_eq_true rfl, Nat.le_of_ble_eq_true rfl⟩ hl_13 rfl (Nat.le_of_ble_eq_true rfl) dX4_wealthOf_24 ⟨Nat.le_of_ble_eq_true rfl, Nat.le_of_ble_eq_true rfl⟩) hS_15 (fun r_ w_ H locs hP hH_17 hS_18 => ?_)
    obtain ⟨rfl, rfl⟩ := hP
    refine W.eq (g2 := F0 m 27 ls [.ref (ad (13, cc, i_3)), .long (wealthL I L cc i_3)]) rfl ?_
    refine zr_castC C (by decide +kernel) (ci := 3) rfl hH_17 (13, cc, i_3) (cl_13 (by omega) (by omega)) rfl rfl dX4_wealthOf_27 ?_
    refine zk_cl (zk_rS (As := [.ref (ad (13, cc, i_3))]) (rest := [.long (wealthL I L cc i_3)]) (n := 1) C (cC_worthOf l D cA A g ad nc nt dy mo I L cc i_3 (by omega) (by omega)) hH_17 hS_18 gX4_wealthOf_X4_worthOf rfl rfl (by decide +kernel) ⟨Nat.le_of_ble_eq_true rfl, Nat.le_of_ble_eq_true rfl⟩ hl_13 rfl (Nat.le_of_ble_eq_true rfl) dX4_wealthOf_30 ⟨Nat.le_of_ble_eq_true rfl, Nat.le_of_ble_eq_true rfl⟩) hS_18 (fun r_19 w_20 H locs hP hH_21 hS_22 => ?_)
    obtain ⟨rfl, rfl⟩ := hP
    refine lv_ladd hx hb dX4_wealthOf_33 ?_
    refine lv_lstore_n (lv' := [(1, .long ((wealthL I L cc i_3) + (valueL I L cc i_3))), (0, .ref (ad (8, cc, 0))), (3, .int (nI i_3))]) hx hb dX4_wealthOf_34 rfl hl_13 (by decide) rfl (fun ls hl_23 => ?_)
    refine lv_iinc (v := nI (i_3 + 1)) (lv' := [(3, .int (nI (i_3 + 1))), (1, .long ((wealthL I L cc i_3) + (valueL I L cc i_3))), (0, .ref (ad (8, cc, 0)))]) hx hb dX4_wealthOf_35 hl_23 (k := 2) rfl (nI_1 i_3) (by decide) rfl (fun ls hl_24 => ?_)
    refine lv_goto (tgt := 7) hx hb dX4_wealthOf_38 (by decide) ?_
    exact ih_4 _ _ _ hH_21 hS_22 (lv_sub hl_24 [2, 1, 0] rfl)
def rmC_targetOf : Room := { frames := 0, cells := 0, slots := 0, locals := 0 }
set_option maxHeartbeats 1000000 in
set_option maxRecDepth 100000 in
theorem cC_targetOf (l : Launch) (D : va_G) (cA : Nat → ClassId) (A : Nat → Prop) (g : Nat → Nat) (ad : zk_K → Nat) (nc nt dy : Nat) (mo : Int64) (I : zIA) (L : zLA) (cc f : Nat) (all : Int64) (hc : cc < nc) (hf : f < 6) : zM l yX4_targetOf wsX4_targetOf rmC_targetOf D (zt cA) A g [.ref (ad (13, cc, f)), .long all] (cw cA (g 0) ad 6 nc nc 6 nt dy mo I L) (zQl (fun r w' => dueL I all cc f = r ∧ cw cA (g 0) ad 6 nc nc 6 nt dy mo I L = w')) := by
  refine zM_of (cc := cX4_targetOf) (maxL := 3) (ret := (some .long)) (own := RX4) (by decide +kernel) rfl (Nat.le_of_ble_eq_true rfl) rfl ?_
  intro p e s m below meth c C hr hnm H locs ls hH hS hl
  obtain ⟨⟨hx, hb, hml, hown, hts⟩, hG, hlk⟩ := id C
  have hinX2 : ∀ w ∈ wsX20, w ∈ wsX4_targetOf := by decide +kernel
  have hl : lv_has ls 3 [(0, .ref (ad (13, cc, f))), (1, .long all)] := hl
  refine lv_lload_n hx hb dX4_targetOf_0 rfl (lv_at hl 1 rfl) ?_
  refine lv_aload_n hx hb dX4_targetOf_1 rfl (lv_at hl 0 rfl) ?_
  refine zr_getA (ref := RX2) C hinX2 (ci := 3) rfl hH (13, cc, f) (cl_13 (by omega) (by omega)) rfl 3 (by decide) (by decide +kernel) (fun _ h => h) rfl dX4_targetOf_2 ?_ rfl
  refine lv_i2l (v := Int32.toInt64 (I 7 (6 * cc + f))) hx hb dX4_targetOf_5 rfl ?_
  refine lv_lmul hx hb dX4_targetOf_6 ?_
  refine lv_ldc2 (v := 100) hx hb hown (hts (.constantLong RX4 248 100) (by decide +kernel)) dX4_targetOf_7 ?_
  refine lv_ldiv hx hb dX4_targetOf_10 (by decide) ?_
  refine zr_lret C hr ?_ hH hS (Nat.le_of_ble_eq_true rfl) (Nat.le_of_ble_eq_true rfl) dX4_targetOf_11
  exact ⟨rfl, rfl⟩
def rmC_fundAt : Room := { frames := 7, cells := 1, slots := 6, locals := 118 }
set_option maxHeartbeats 1000000 in
set_option maxRecDepth 100000 in
theorem cC_fundAt (l : Launch) (hst : l.stackTraces = false) (D : va_G) (cA : Nat → ClassId) (A : Nat → Prop) (g : Nat → Nat) (ad : zk_K → Nat) (nc nt dy : Nat) (mo : Int64) (I : zIA) (L : zLA) (f : Int32) : zX l yX4_fundAt wsX4_fundAt rmC_fundAt D (zt cA) A g [.ref (ad (0, 0, 0)), .int f] (cw cA (g 0) ad 6 nc nc 6 nt dy mo I L) (zQr (fun r w' => ∃ j, j < 6 ∧ f = nI j ∧ ad (7, j, 0) = r ∧ cw cA (g 0) ad 6 nc nc 6 nt dy mo I L = w')) (fun E w' => E = xI ∧ ¬ zIn f 6 ∧ cw cA (g 0) ad 6 nc nc 6 nt dy mo I L = w') := by
  refine zX_of (cc := cX4_fundAt) (maxL := 2) (ret := (some (.object "SavingsHall$Fund"))) (own := RX4) (by decide +kernel) rfl (Nat.le_of_ble_eq_true rfl) rfl ?_
  intro p e s m below meth c C hr hnm hex H locs ls hH hS hl
  obtain ⟨⟨hx, hb, hml, hown, hts⟩, hG, hlk⟩ := id C
  have hinX4 : ∀ w ∈ wsX40, w ∈ wsX4_fundAt := by decide +kernel
  have hl : lv_has ls 2 [(0, .ref (ad (0, 0, 0))), (1, .int f)] := hl
  refine lv_iload_n hx hb dX4_fundAt_0 rfl (lv_at hl 1 rfl) ?_
  refine lv_if_lt (tgt := 19) hx hb dX4_fundAt_1 (by decide) (fun c_1 => ?_) (fun c_1 => ?_)
  · refine lv_iconst (v := 0) hx hb dX4_fundAt_19 (by decide) ?_
    exact zx_c (zx_rS (As := [.int 0]) (rest := []) (n := 1) C (cC_exists0 l hst D cA A g (cw cA (g 0) ad 6 nc nc 6 nt dy mo I L)) hH hS gX4_fundAt_X4_checkExists rfl rfl (by decide +kernel) ⟨Nat.le_of_ble_eq_true rfl, Nat.le_of_ble_eq_true rfl⟩ hl rfl (Nat.le_of_ble_eq_true rfl) dX4_fundAt_20 ⟨Nat.le_of_ble_eq_true rfl, Nat.le_of_ble_eq_true rfl⟩) hS (zx_go C hex (fun E w' h => ⟨h.1, zIn_o1 (by decide) c_1, h.2⟩) (Nat.le_of_ble_eq_true rfl) (Nat.le_of_ble_eq_true rfl)) (fun v w' H1 l1 hP => hP.elim)
  · refine lv_iload_n hx hb dX4_fundAt_4 rfl (lv_at hl 1 rfl) ?_
    refine lv_aload_n hx hb dX4_fundAt_5 rfl (lv_at hl 0 rfl) ?_
    refine zr_getA (ref := RX4) C hinX4 (ci := 5) rfl hH (0, 0, 0) rfl rfl 0 (by decide) (by decide +kernel) (fun _ h => h) rfl dX4_fundAt_6 ?_ rfl
    refine zk_ci (zk_rV (As := []) (rest := [.int f]) (n := 0) (k := (1, 0, 0)) C (cC_size l D cA A g (cw cA (g 0) ad 6 nc nc 6 nt dy mo I L) (1, 0, 0) (4, 0, 0) 6 (g0 := g 0) rfl rfl) hH hS rfl rfl rfl gX4_fundAt_Jx4a65c_size_8abf5 rfl rfl (by decide +kernel) ⟨Nat.le_of_ble_eq_true rfl, Nat.le_of_ble_eq_true rfl⟩ hl rfl (Nat.le_of_ble_eq_true rfl) dX4_fundAt_9 ⟨Nat.le_of_ble_eq_true rfl, Nat.le_of_ble_eq_true rfl⟩) hS (fun r_ w_ H locs hP hH_2 hS_3 => ?_)
    obtain ⟨rfl, rfl⟩ := hP
    refine lv_icmp_ge (tgt := 19) hx hb dX4_fundAt_12 (by decide) (fun c_4 => ?_) (fun c_4 => ?_)
    · refine lv_iconst (v := 0) hx hb dX4_fundAt_19 (by decide) ?_
      exact zx_c (zx_rS (As := [.int 0]) (rest := []) (n := 1) C (cC_exists0 l hst D cA A g (cw cA (g 0) ad 6 nc nc 6 nt dy mo I L)) hH_2 hS_3 gX4_fundAt_X4_checkExists rfl rfl (by decide +kernel) ⟨Nat.le_of_ble_eq_true rfl, Nat.le_of_ble_eq_true rfl⟩ hl rfl (Nat.le_of_ble_eq_true rfl) dX4_fundAt_20 ⟨Nat.le_of_ble_eq_true rfl, Nat.le_of_ble_eq_true rfl⟩) hS_3 (zx_go C hex (fun E w' h => ⟨h.1, zIn_o2 (by decide) c_4, h.2⟩) (Nat.le_of_ble_eq_true rfl) (Nat.le_of_ble_eq_true rfl)) (fun v w' H1 l1 hP => hP.elim)
    · refine lv_iconst (v := 1) hx hb dX4_fundAt_15 (by decide) ?_
      refine lv_goto (tgt := 20) hx hb dX4_fundAt_16 (by decide) ?_
      refine zk_cv (zk_rS (As := [.int 1]) (rest := []) (n := 1) C (cC_exists1 l D cA A g (cw cA (g 0) ad 6 nc nc 6 nt dy mo I L)) hH_2 hS_3 gX4_fundAt_X4_checkExists rfl rfl (by decide +kernel) ⟨Nat.le_of_ble_eq_true rfl, Nat.le_of_ble_eq_true rfl⟩ hl rfl (Nat.le_of_ble_eq_true rfl) dX4_fundAt_20 ⟨Nat.le_of_ble_eq_true rfl, Nat.le_of_ble_eq_true rfl⟩) hS_3 (fun w_ H locs hP hH_5 hS_6 => ?_)
      subst hP
      obtain ⟨fj, hfj, rfl⟩ : zIn f 6 := zIn_b c_1 c_4
      refine lv_aload_n hx hb dX4_fundAt_23 rfl (lv_at hl 0 rfl) ?_
      refine zr_getA (ref := RX4) C hinX4 (ci := 5) rfl hH_5 (0, 0, 0) rfl rfl 0 (by decide) (by decide +kernel) (fun _ h => h) rfl dX4_fundAt_24 ?_ rfl
      refine lv_iload_n hx hb dX4_fundAt_27 rfl (lv_at hl 1 rfl) ?_
      refine zk_cr (zk_rV (As := [.int (nI fj)]) (rest := []) (n := 1) (k := (1, 0, 0)) C (cC_get l D cA A g (cw cA (g 0) ad 6 nc nc 6 nt dy mo I L) (1, 0, 0) (4, 0, 0) (fun j => (7, j, 0)) 6 fj (g0 := g 0) rfl rfl (cl_4 (by omega)) rfl (by omega) (by omega)) hH_5 hS_6 rfl rfl rfl gX4_fundAt_Jx4a65c_get_915e3 rfl rfl (by decide +kernel) ⟨Nat.le_of_ble_eq_true rfl, Nat.le_of_ble_eq_true rfl⟩ hl rfl (Nat.le_of_ble_eq_true rfl) dX4_fundAt_28 ⟨Nat.le_of_ble_eq_true rfl, Nat.le_of_ble_eq_true rfl⟩) hS_6 (fun r_ w_ H locs hP hH_7 hS_8 => ?_)
      obtain ⟨rfl, rfl⟩ := hP
      refine W.eq (g2 := F0 m 31 ls [.ref (ad (7, fj, 0))]) rfl ?_
      refine zr_castC C (by decide +kernel) (ci := 2) rfl hH_7 (7, fj, 0) (cl_7 (by omega)) rfl rfl dX4_fundAt_31 ?_
      refine vx_ret (zr_aret C hr (Or.inl ⟨_, rfl⟩) ?_ hH_7 hS_8 (Nat.le_of_ble_eq_true rfl) (Nat.le_of_ble_eq_true rfl) dX4_fundAt_34)
      exact ⟨fj, hfj, rfl, rfl, rfl⟩
def rmC_clientAt : Room := { frames := 7, cells := 1, slots := 6, locals := 118 }
set_option maxHeartbeats 1000000 in
set_option maxRecDepth 100000 in
theorem cC_clientAt (l : Launch) (hst : l.stackTraces = false) (D : va_G) (cA : Nat → ClassId) (A : Nat → Prop) (g : Nat → Nat) (ad : zk_K → Nat) (nc nt dy : Nat) (mo : Int64) (I : zIA) (L : zLA) (cx : Int32) (hnc : nc ≤ 12) : zX l yX4_clientAt wsX4_clientAt rmC_clientAt D (zt cA) A g [.ref (ad (0, 0, 0)), .int cx] (cw cA (g 0) ad 6 nc nc 6 nt dy mo I L) (zQr (fun r w' => ∃ j, j < nc ∧ cx = nI j ∧ ad (8, j, 0) = r ∧ cw cA (g 0) ad 6 nc nc 6 nt dy mo I L = w')) (fun E w' => E = xI ∧ ¬ zIn cx nc ∧ cw cA (g 0) ad 6 nc nc 6 nt dy mo I L = w') := by
  refine zX_of (cc := cX4_clientAt) (maxL := 2) (ret := (some (.object "SavingsHall$Client"))) (own := RX4) (by decide +kernel) rfl (Nat.le_of_ble_eq_true rfl) rfl ?_
  intro p e s m below meth c C hr hnm hex H locs ls hH hS hl
  obtain ⟨⟨hx, hb, hml, hown, hts⟩, hG, hlk⟩ := id C
  have hinX4 : ∀ w ∈ wsX40, w ∈ wsX4_clientAt := by decide +kernel
  have hl : lv_has ls 2 [(0, .ref (ad (0, 0, 0))), (1, .int cx)] := hl
  refine lv_iload_n hx hb dX4_clientAt_0 rfl (lv_at hl 1 rfl) ?_
  refine lv_if_lt (tgt := 19) hx hb dX4_clientAt_1 (by decide) (fun c_1 => ?_) (fun c_1 => ?_)
  · refine lv_iconst (v := 0) hx hb dX4_clientAt_19 (by decide) ?_
    exact zx_c (zx_rS (As := [.int 0]) (rest := []) (n := 1) C (cC_exists0 l hst D cA A g (cw cA (g 0) ad 6 nc nc 6 nt dy mo I L)) hH hS gX4_clientAt_X4_checkExists rfl rfl (by decide +kernel) ⟨Nat.le_of_ble_eq_true rfl, Nat.le_of_ble_eq_true rfl⟩ hl rfl (Nat.le_of_ble_eq_true rfl) dX4_clientAt_20 ⟨Nat.le_of_ble_eq_true rfl, Nat.le_of_ble_eq_true rfl⟩) hS (zx_go C hex (fun E w' h => ⟨h.1, zIn_o1 (by omega) c_1, h.2⟩) (Nat.le_of_ble_eq_true rfl) (Nat.le_of_ble_eq_true rfl)) (fun v w' H1 l1 hP => hP.elim)
  · refine lv_iload_n hx hb dX4_clientAt_4 rfl (lv_at hl 1 rfl) ?_
    refine lv_aload_n hx hb dX4_clientAt_5 rfl (lv_at hl 0 rfl) ?_
    refine zr_getA (ref := RX4) C hinX4 (ci := 5) rfl hH (0, 0, 0) rfl rfl 1 (by decide) (by decide +kernel) (fun _ h => h) rfl dX4_clientAt_6 ?_ rfl
    refine zk_ci (zk_rV (As := []) (rest := [.int cx]) (n := 0) (k := (2, 0, 0)) C (cC_size l D cA A g (cw cA (g 0) ad 6 nc nc 6 nt dy mo I L) (2, 0, 0) (5, 0, 0) nc (g0 := g 0) rfl rfl) hH hS rfl rfl rfl gX4_clientAt_Jx4a65c_size_8abf5 rfl rfl (by decide +kernel) ⟨Nat.le_of_ble_eq_true rfl, Nat.le_of_ble_eq_true rfl⟩ hl rfl (Nat.le_of_ble_eq_true rfl) dX4_clientAt_9 ⟨Nat.le_of_ble_eq_true rfl, Nat.le_of_ble_eq_true rfl⟩) hS (fun r_ w_ H locs hP hH_2 hS_3 => ?_)
    obtain ⟨rfl, rfl⟩ := hP
    refine lv_icmp_ge (tgt := 19) hx hb dX4_clientAt_12 (by decide) (fun c_4 => ?_) (fun c_4 => ?_)
    · refine lv_iconst (v := 0) hx hb dX4_clientAt_19 (by decide) ?_
      exact zx_c (zx_rS (As := [.int 0]) (rest := []) (n := 1) C (cC_exists0 l hst D cA A g (cw cA (g 0) ad 6 nc nc 6 nt dy mo I L)) hH_2 hS_3 gX4_clientAt_X4_checkExists rfl rfl (by decide +kernel) ⟨Nat.le_of_ble_eq_true rfl, Nat.le_of_ble_eq_true rfl⟩ hl rfl (Nat.le_of_ble_eq_true rfl) dX4_clientAt_20 ⟨Nat.le_of_ble_eq_true rfl, Nat.le_of_ble_eq_true rfl⟩) hS_3 (zx_go C hex (fun E w' h => ⟨h.1, zIn_o2 (by omega) c_4, h.2⟩) (Nat.le_of_ble_eq_true rfl) (Nat.le_of_ble_eq_true rfl)) (fun v w' H1 l1 hP => hP.elim)
    · refine lv_iconst (v := 1) hx hb dX4_clientAt_15 (by decide) ?_
      refine lv_goto (tgt := 20) hx hb dX4_clientAt_16 (by decide) ?_
      refine zk_cv (zk_rS (As := [.int 1]) (rest := []) (n := 1) C (cC_exists1 l D cA A g (cw cA (g 0) ad 6 nc nc 6 nt dy mo I L)) hH_2 hS_3 gX4_clientAt_X4_checkExists rfl rfl (by decide +kernel) ⟨Nat.le_of_ble_eq_true rfl, Nat.le_of_ble_eq_true rfl⟩ hl rfl (Nat.le_of_ble_eq_true rfl) dX4_clientAt_20 ⟨Nat.le_of_ble_eq_true rfl, Nat.le_of_ble_eq_true rfl⟩) hS_3 (fun w_ H locs hP hH_5 hS_6 => ?_)
      subst hP
      obtain ⟨cxj, hcxj, rfl⟩ : zIn cx nc := zIn_b c_1 c_4
      refine lv_aload_n hx hb dX4_clientAt_23 rfl (lv_at hl 0 rfl) ?_
      refine zr_getA (ref := RX4) C hinX4 (ci := 5) rfl hH_5 (0, 0, 0) rfl rfl 1 (by decide) (by decide +kernel) (fun _ h => h) rfl dX4_clientAt_24 ?_ rfl
      refine lv_iload_n hx hb dX4_clientAt_27 rfl (lv_at hl 1 rfl) ?_
      refine zk_cr (zk_rV (As := [.int (nI cxj)]) (rest := []) (n := 1) (k := (2, 0, 0)) C (cC_get l D cA A g (cw cA (g 0) ad 6 nc nc 6 nt dy mo I L) (2, 0, 0) (5, 0, 0) (fun j => (8, j, 0)) nc cxj (g0 := g 0) rfl rfl (cl_5 (by omega)) rfl (by omega) (by omega)) hH_5 hS_6 rfl rfl rfl gX4_clientAt_Jx4a65c_get_915e3 rfl rfl (by decide +kernel) ⟨Nat.le_of_ble_eq_true rfl, Nat.le_of_ble_eq_true rfl⟩ hl rfl (Nat.le_of_ble_eq_true rfl) dX4_clientAt_28 ⟨Nat.le_of_ble_eq_true rfl, Nat.le_of_ble_eq_true rfl⟩) hS_6 (fun r_ w_ H locs hP hH_7 hS_8 => ?_)
      obtain ⟨rfl, rfl⟩ := hP
      refine W.eq (g2 := F0 m 31 ls [.ref (ad (8, cxj, 0))]) rfl ?_
      refine zr_castC C (by decide +kernel) (ci := 1) rfl hH_7 (8, cxj, 0) (cl_8 (by omega)) rfl rfl dX4_clientAt_31 ?_
      refine vx_ret (zr_aret C hr (Or.inl ⟨_, rfl⟩) ?_ hH_7 hS_8 (Nat.le_of_ble_eq_true rfl) (Nat.le_of_ble_eq_true rfl) dX4_clientAt_34)
      exact ⟨cxj, hcxj, rfl, rfl, rfl⟩
def rmC_tradeAt : Room := { frames := 7, cells := 1, slots := 6, locals := 118 }
set_option maxHeartbeats 1000000 in
set_option maxRecDepth 100000 in
theorem cC_tradeAt (l : Launch) (hst : l.stackTraces = false) (D : va_G) (cA : Nat → ClassId) (A : Nat → Prop) (g : Nat → Nat) (ad : zk_K → Nat) (nc nt dy : Nat) (mo : Int64) (I : zIA) (L : zLA) (tx : Int32) (hnt : nt ≤ 120) : zX l yX4_tradeAt wsX4_tradeAt rmC_tradeAt D (zt cA) A g [.ref (ad (0, 0, 0)), .int tx] (cw cA (g 0) ad 6 nc nc 6 nt dy mo I L) (zQr (fun r w' => ∃ j, j < nt ∧ tx = nI j ∧ ad (14, j, 0) = r ∧ cw cA (g 0) ad 6 nc nc 6 nt dy mo I L = w')) (fun E w' => E = xI ∧ ¬ zIn tx nt ∧ cw cA (g 0) ad 6 nc nc 6 nt dy mo I L = w') := by
  refine zX_of (cc := cX4_tradeAt) (maxL := 2) (ret := (some (.object "SavingsHall$Trade"))) (own := RX4) (by decide +kernel) rfl (Nat.le_of_ble_eq_true rfl) rfl ?_
  intro p e s m below meth c C hr hnm hex H locs ls hH hS hl
  obtain ⟨⟨hx, hb, hml, hown, hts⟩, hG, hlk⟩ := id C
  have hinX4 : ∀ w ∈ wsX40, w ∈ wsX4_tradeAt := by decide +kernel
  have hl : lv_has ls 2 [(0, .ref (ad (0, 0, 0))), (1, .int tx)] := hl
  refine lv_iload_n hx hb dX4_tradeAt_0 rfl (lv_at hl 1 rfl) ?_
  refine lv_if_lt (tgt := 19) hx hb dX4_tradeAt_1 (by decide) (fun c_1 => ?_) (fun c_1 => ?_)
  · refine lv_iconst (v := 0) hx hb dX4_tradeAt_19 (by decide) ?_
    exact zx_c (zx_rS (As := [.int 0]) (rest := []) (n := 1) C (cC_exists0 l hst D cA A g (cw cA (g 0) ad 6 nc nc 6 nt dy mo I L)) hH hS gX4_tradeAt_X4_checkExists rfl rfl (by decide +kernel) ⟨Nat.le_of_ble_eq_true rfl, Nat.le_of_ble_eq_true rfl⟩ hl rfl (Nat.le_of_ble_eq_true rfl) dX4_tradeAt_20 ⟨Nat.le_of_ble_eq_true rfl, Nat.le_of_ble_eq_true rfl⟩) hS (zx_go C hex (fun E w' h => ⟨h.1, zIn_o1 (by omega) c_1, h.2⟩) (Nat.le_of_ble_eq_true rfl) (Nat.le_of_ble_eq_true rfl)) (fun v w' H1 l1 hP => hP.elim)
  · refine lv_iload_n hx hb dX4_tradeAt_4 rfl (lv_at hl 1 rfl) ?_
    refine lv_aload_n hx hb dX4_tradeAt_5 rfl (lv_at hl 0 rfl) ?_
    refine zr_getA (ref := RX4) C hinX4 (ci := 5) rfl hH (0, 0, 0) rfl rfl 2 (by decide) (by decide +kernel) (fun _ h => h) rfl dX4_tradeAt_6 ?_ rfl
    refine zk_ci (zk_rV (As := []) (rest := [.int tx]) (n := 0) (k := (3, 0, 0)) C (cC_size l D cA A g (cw cA (g 0) ad 6 nc nc 6 nt dy mo I L) (3, 0, 0) (6, 0, 0) nt (g0 := g 0) rfl rfl) hH hS rfl rfl rfl gX4_tradeAt_Jx4a65c_size_8abf5 rfl rfl (by decide +kernel) ⟨Nat.le_of_ble_eq_true rfl, Nat.le_of_ble_eq_true rfl⟩ hl rfl (Nat.le_of_ble_eq_true rfl) dX4_tradeAt_9 ⟨Nat.le_of_ble_eq_true rfl, Nat.le_of_ble_eq_true rfl⟩) hS (fun r_ w_ H locs hP hH_2 hS_3 => ?_)
    obtain ⟨rfl, rfl⟩ := hP
    refine lv_icmp_ge (tgt := 19) hx hb dX4_tradeAt_12 (by decide) (fun c_4 => ?_) (fun c_4 => ?_)
    · refine lv_iconst (v := 0) hx hb dX4_tradeAt_19 (by decide) ?_
      exact zx_c (zx_rS (As := [.int 0]) (rest := []) (n := 1) C (cC_exists0 l hst D cA A g (cw cA (g 0) ad 6 nc nc 6 nt dy mo I L)) hH_2 hS_3 gX4_tradeAt_X4_checkExists rfl rfl (by decide +kernel) ⟨Nat.le_of_ble_eq_true rfl, Nat.le_of_ble_eq_true rfl⟩ hl rfl (Nat.le_of_ble_eq_true rfl) dX4_tradeAt_20 ⟨Nat.le_of_ble_eq_true rfl, Nat.le_of_ble_eq_true rfl⟩) hS_3 (zx_go C hex (fun E w' h => ⟨h.1, zIn_o2 (by omega) c_4, h.2⟩) (Nat.le_of_ble_eq_true rfl) (Nat.le_of_ble_eq_true rfl)) (fun v w' H1 l1 hP => hP.elim)
    · refine lv_iconst (v := 1) hx hb dX4_tradeAt_15 (by decide) ?_
      refine lv_goto (tgt := 20) hx hb dX4_tradeAt_16 (by decide) ?_
      refine zk_cv (zk_rS (As := [.int 1]) (rest := []) (n := 1) C (cC_exists1 l D cA A g (cw cA (g 0) ad 6 nc nc 6 nt dy mo I L)) hH_2 hS_3 gX4_tradeAt_X4_checkExists rfl rfl (by decide +kernel) ⟨Nat.le_of_ble_eq_true rfl, Nat.le_of_ble_eq_true rfl⟩ hl rfl (Nat.le_of_ble_eq_true rfl) dX4_tradeAt_20 ⟨Nat.le_of_ble_eq_true rfl, Nat.le_of_ble_eq_true rfl⟩) hS_3 (fun w_ H locs hP hH_5 hS_6 => ?_)
      subst hP
      obtain ⟨txj, htxj, rfl⟩ : zIn tx nt := zIn_b c_1 c_4
      refine lv_aload_n hx hb dX4_tradeAt_23 rfl (lv_at hl 0 rfl) ?_
      refine zr_getA (ref := RX4) C hinX4 (ci := 5) rfl hH_5 (0, 0, 0) rfl rfl 2 (by decide) (by decide +kernel) (fun _ h => h) rfl dX4_tradeAt_24 ?_ rfl
      refine lv_iload_n hx hb dX4_tradeAt_27 rfl (lv_at hl 1 rfl) ?_
      refine zk_cr (zk_rV (As := [.int (nI txj)]) (rest := []) (n := 1) (k := (3, 0, 0)) C (cC_get l D cA A g (cw cA (g 0) ad 6 nc nc 6 nt dy mo I L) (3, 0, 0) (6, 0, 0) (fun j => (14, j, 0)) nt txj (g0 := g 0) rfl rfl (cl_6 (by omega)) rfl (by omega) (by omega)) hH_5 hS_6 rfl rfl rfl gX4_tradeAt_Jx4a65c_get_915e3 rfl rfl (by decide +kernel) ⟨Nat.le_of_ble_eq_true rfl, Nat.le_of_ble_eq_true rfl⟩ hl rfl (Nat.le_of_ble_eq_true rfl) dX4_tradeAt_28 ⟨Nat.le_of_ble_eq_true rfl, Nat.le_of_ble_eq_true rfl⟩) hS_6 (fun r_ w_ H locs hP hH_7 hS_8 => ?_)
      obtain ⟨rfl, rfl⟩ := hP
      refine W.eq (g2 := F0 m 31 ls [.ref (ad (14, txj, 0))]) rfl ?_
      refine zr_castC C (by decide +kernel) (ci := 4) rfl hH_7 (14, txj, 0) (cl_14 (by omega)) rfl rfl dX4_tradeAt_31 ?_
      refine vx_ret (zr_aret C hr (Or.inl ⟨_, rfl⟩) ?_ hH_7 hS_8 (Nat.le_of_ble_eq_true rfl) (Nat.le_of_ble_eq_true rfl) dX4_tradeAt_34)
      exact ⟨txj, htxj, rfl, rfl, rfl⟩
