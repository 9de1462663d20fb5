def rmC_isSale : Room := { frames := 0, cells := 0, slots := 0, locals := 0 }
set_option maxHeartbeats 1000000 in
set_option maxRecDepth 100000 in
theorem cC_isSale (l : Launch) (D : va_G) (cA : Nat → ClassId) (A : Nat → Prop) (g : Nat → Nat) (ad : zk_K → Nat) (nc nt dy : Nat) (mo : Int64) (I : zIA) (L : zLA) (t : Nat) (ht : t < nt) : zM l yX3_isSale wsX3_isSale rmC_isSale D (zt cA) A g [.ref (ad (14, t, 0))] (cw cA (g 0) ad 6 nc nc 6 nt dy mo I L) (zQi (fun r w' => cw cA (g 0) ad 6 nc nc 6 nt dy mo I L = w' ∧ ((r = 1 ∧ L 13 t < 0) ∨ (r = 0 ∧ ¬ L 13 t < 0)))) := by
  refine zM_of (cc := cX3_isSale) (maxL := 1) (ret := (some .boolean)) (own := RX3) (by decide +kernel) rfl (Nat.le_of_ble_eq_true rfl) rfl ?_
  intro p e s m below meth c C hr hnm H locs ls hH hS hl
  obtain ⟨⟨hx, hb, hml, hown, hts⟩, hG, hlk⟩ := id C
  have hinX3 : ∀ w ∈ wsX30, w ∈ wsX3_isSale := by decide +kernel
  have hl : lv_has ls 1 [(0, .ref (ad (14, t, 0)))] := hl
  refine lv_aload_n hx hb dX3_isSale_0 rfl (lv_at hl 0 rfl) ?_
  refine zr_getA (ref := RX3) C hinX3 (ci := 4) rfl hH (14, t, 0) (cl_14 (by omega)) rfl 3 (by decide) (by decide +kernel) (fun _ h => h) rfl dX3_isSale_1 ?_ rfl
  refine lv_lconst (v := 0) hx hb dX3_isSale_4 (by decide) ?_
  refine zl_cmp_ge (tgt := 13) hx hb dX3_isSale_5 dX3_isSale_6 (by decide) (fun c_1 => ?_) (fun c_1 => ?_)
  · refine lv_iconst (v := 0) hx hb dX3_isSale_13 (by decide) ?_
    refine zr_zret C hr (Or.inl rfl) ?_ hH hS (Nat.le_of_ble_eq_true rfl) (Nat.le_of_ble_eq_true rfl) dX3_isSale_14
    exact ⟨rfl, Or.inr ⟨rfl, by assumption⟩⟩
  · refine lv_iconst (v := 1) hx hb dX3_isSale_9 (by decide) ?_
    refine lv_goto (tgt := 14) hx hb dX3_isSale_10 (by decide) ?_
    refine zr_zret C hr (Or.inr rfl) ?_ hH hS (Nat.le_of_ble_eq_true rfl) (Nat.le_of_ble_eq_true rfl) dX3_isSale_14
    exact ⟨rfl, Or.inl ⟨rfl, by assumption⟩⟩
def rmC_paid : Room := { frames := 1, cells := 0, slots := 0, locals := 20 }
set_option maxHeartbeats 1000000 in
set_option maxRecDepth 100000 in
theorem cC_paid (l : Launch) (D : va_G) (cA : Nat → ClassId) (A : Nat → Prop) (g : Nat → Nat) (ad : zk_K → Nat) (nc nt dy : Nat) (mo : Int64) (I : zIA) (L : zLA) (t : Nat) (ht : t < nt) : zM l yX3_paid wsX3_paid rmC_paid D (zt cA) A g [.ref (ad (14, t, 0))] (cw cA (g 0) ad 6 nc nc 6 nt dy mo I L) (zQl (fun r w' => payT L t = r ∧ cw cA (g 0) ad 6 nc nc 6 nt dy mo I L = w')) := by
  refine zM_of (cc := cX3_paid) (maxL := 1) (ret := (some .long)) (own := RX3) (by decide +kernel) rfl (Nat.le_of_ble_eq_true rfl) rfl ?_
  intro p e s m below meth c C hr hnm H locs ls hH hS hl
  obtain ⟨⟨hx, hb, hml, hown, hts⟩, hG, hlk⟩ := id C
  have hinX3 : ∀ w ∈ wsX30, w ∈ wsX3_paid := by decide +kernel
  have hl : lv_has ls 1 [(0, .ref (ad (14, t, 0)))] := hl
  refine lv_aload_n hx hb dX3_paid_0 rfl (lv_at hl 0 rfl) ?_
  refine zk_ci (zk_rV (As := []) (rest := []) (n := 0) (k := (14, t, 0)) C (cC_isSale l D cA A g ad nc nt dy mo I L t (by omega)) hH hS (cl_14 (by omega)) rfl rfl gX3_paid_X3_isSale rfl rfl (by decide +kernel) ⟨Nat.le_of_ble_eq_true rfl, Nat.le_of_ble_eq_true rfl⟩ hl rfl (Nat.le_of_ble_eq_true rfl) dX3_paid_1 ⟨Nat.le_of_ble_eq_true rfl, Nat.le_of_ble_eq_true rfl⟩) hS (fun r_1 w_2 H locs hP hH_3 hS_4 => ?_)
  obtain ⟨rfl, (⟨rfl, h_r_1⟩ | ⟨rfl, h_r_1⟩)⟩ := hP
  · refine lv_if_eq (tgt := 19) hx hb dX3_paid_4 (by decide) (fun c_5 => absurd c_5 (by decide)) (fun c_5 => ?_)
    refine lv_aload_n hx hb dX3_paid_7 rfl (lv_at hl 0 rfl) ?_
    refine zr_getA (ref := RX3) C hinX3 (ci := 4) rfl hH_3 (14, t, 0) (cl_14 (by omega)) rfl 5 (by decide) (by decide +kernel) (fun _ h => h) rfl dX3_paid_8 ?_ rfl
    refine lv_aload_n hx hb dX3_paid_11 rfl (lv_at hl 0 rfl) ?_
    refine zr_getA (ref := RX3) C hinX3 (ci := 4) rfl hH_3 (14, t, 0) (cl_14 (by omega)) rfl 4 (by decide) (by decide +kernel) (fun _ h => h) rfl dX3_paid_12 ?_ rfl
    refine lv_lsub hx hb dX3_paid_15 ?_
    refine lv_goto (tgt := 28) hx hb dX3_paid_16 (by decide) ?_
    refine zr_lret C hr ?_ hH_3 hS_4 (Nat.le_of_ble_eq_true rfl) (Nat.le_of_ble_eq_true rfl) dX3_paid_28
    exact ⟨if_pos h_r_1, rfl⟩
  · refine lv_if_eq (tgt := 19) hx hb dX3_paid_4 (by decide) (fun c_6 => ?_) (fun c_6 => absurd c_6 (by decide))
    refine lv_aload_n hx hb dX3_paid_19 rfl (lv_at hl 0 rfl) ?_
    refine zr_getA (ref := RX3) C hinX3 (ci := 4) rfl hH_3 (14, t, 0) (cl_14 (by omega)) rfl 5 (by decide) (by decide +kernel) (fun _ h => h) rfl dX3_paid_20 ?_ rfl
    refine lv_aload_n hx hb dX3_paid_23 rfl (lv_at hl 0 rfl) ?_
    refine zr_getA (ref := RX3) C hinX3 (ci := 4) rfl hH_3 (14, t, 0) (cl_14 (by omega)) rfl 4 (by decide) (by decide +kernel) (fun _ h => h) rfl dX3_paid_24 ?_ rfl
    refine lv_ladd hx hb dX3_paid_27 ?_
    refine zr_lret C hr ?_ hH_3 hS_4 (Nat.le_of_ble_eq_true rfl) (Nat.le_of_ble_eq_true rfl) dX3_paid_28
    exact ⟨if_neg h_r_1, rfl⟩
def rmC_tradeOf : Room := { frames := 8, cells := 2, slots := 12, locals := 139 }
set_option maxHeartbeats 1000000 in
set_option maxRecDepth 100000 in
theorem cC_tradeOf (l : Launch) (hst : l.stackTraces = false) (D : va_G) (cA : Nat → ClassId) (A : Nat → Prop) (g : Nat → Nat) (ad : zk_K → Nat) (nc nt dy : Nat) (mo : Int64) (I : zIA) (L : zLA) (tx what : Int32) (hnt : nt ≤ 120) (h11 : ∀ t, t < nt → zD (I 11 t) nc) (h12 : ∀ t, t < nt → zD (I 12 t) 6) : zX l yX4_tradeOf wsX4_tradeOf rmC_tradeOf D (zt cA) A g [.ref (ad (0, 0, 0)), .int tx, .int what] (cw cA (g 0) ad 6 nc nc 6 nt dy mo I L) (zQl (fun r w' => ∃ t k, t < nt ∧ tx = nI t ∧ k ≤ 6 ∧ what = nI k ∧ trV I L t k = r ∧ cw cA (g 0) ad 6 nc nc 6 nt dy mo I L = w')) (fun E w' => cw cA (g 0) ad 6 nc nc 6 nt dy mo I L = w' ∧ ((¬ zIn tx nt ∧ E = xI) ∨ (zIn tx nt ∧ ¬ zR what 0 6 ∧ E = xA))) := by
  refine zX_of (cc := cX4_tradeOf) (maxL := 4) (ret := (some .long)) (own := RX4) (by decide +kernel) rfl (Nat.le_of_ble_eq_true rfl) rfl ?_
  intro p e s m below meth c C hr hnm hex H locs ls hH hS hl
  obtain ⟨⟨hx, hb, hml, hown, hts⟩, hG, hlk⟩ := id C
  have hinX0 : ∀ w ∈ wsX00, w ∈ wsX4_tradeOf := by decide +kernel
  have hinX1 : ∀ w ∈ wsX10, w ∈ wsX4_tradeOf := by decide +kernel
  have hinX2 : ∀ w ∈ wsX20, w ∈ wsX4_tradeOf := by decide +kernel
  have hinX3 : ∀ w ∈ wsX30, w ∈ wsX4_tradeOf := by decide +kernel
  have hl : lv_has ls 4 [(0, .ref (ad (0, 0, 0))), (1, .int tx), (2, .int what)] := hl
  refine lv_aload_n hx hb dX4_tradeOf_0 rfl (lv_at hl 0 rfl) ?_
  refine lv_iload_n hx hb dX4_tradeOf_1 rfl (lv_at hl 1 rfl) ?_
  refine zx_cr (zx_rV (As := [.int tx]) (rest := []) (n := 1) (k := (0, 0, 0)) C (cC_tradeAt l hst D cA A g ad nc nt dy mo I L tx hnt) hH hS rfl rfl rfl gX4_tradeOf_X4_tradeAt rfl rfl (by decide +kernel) ⟨Nat.le_of_ble_eq_true rfl, Nat.le_of_ble_eq_true rfl⟩ hl rfl (Nat.le_of_ble_eq_true rfl) dX4_tradeOf_2 ⟨Nat.le_of_ble_eq_true rfl, Nat.le_of_ble_eq_true rfl⟩) hS (zx_go C hex (fun E w' h => ⟨h.2.2, Or.inl ⟨h.2.1, h.1⟩⟩) (Nat.le_of_ble_eq_true rfl) (Nat.le_of_ble_eq_true rfl)) (fun r_1 w_2 H locs hP hH_3 hS_4 => ?_)
  obtain ⟨txj, htxj, rfl, rfl, rfl⟩ := hP
  refine lv_astore_n (lv' := [(3, .ref (ad (14, txj, 0))), (0, .ref (ad (0, 0, 0))), (1, .int (nI txj)), (2, .int what)]) hx hb dX4_tradeOf_5 rfl hl (by decide) rfl (fun ls hl_5 => ?_)
  refine lv_iload_n hx hb dX4_tradeOf_6 rfl (lv_at hl_5 3 rfl) ?_
  refine lv_iconst (v := 0) hx hb dX4_tradeOf_7 (by decide) ?_
  refine lv_bipush (v := 6) hx hb dX4_tradeOf_8 (by decide) ?_
  by_cases hz_6 : zR what 0 6
  · refine zk_cv (zk_rS (As := [.int what, .int 0, .int 6]) (rest := []) (n := 3) C (cC_range1 l D cA A g (cw cA (g 0) ad 6 nc nc 6 nt dy mo I L) what 0 6 hz_6) hH_3 hS_4 gX4_tradeOf_X4_checkRange rfl rfl (by decide +kernel) ⟨Nat.le_of_ble_eq_true rfl, Nat.le_of_ble_eq_true rfl⟩ hl_5 rfl (Nat.le_of_ble_eq_true rfl) dX4_tradeOf_10 ⟨Nat.le_of_ble_eq_true rfl, Nat.le_of_ble_eq_true rfl⟩) hS_4 (fun w_ H locs hP hH_7 hS_8 => ?_)
    subst hP
    obtain (rfl | rfl | rfl | rfl | rfl | rfl | rfl) := zR_06 hz_6
    · refine lv_iload_n hx hb dX4_tradeOf_13 rfl (lv_at hl_5 3 rfl) ?_
      refine lv_tableIn (off := 38) (tgt := 52) hx hb dX4_tradeOf_14 (by decide) (by decide) (by decide) (by decide) ?_
      refine lv_aload_n hx hb dX4_tradeOf_52 rfl (lv_at hl_5 0 rfl) ?_
      refine zr_getA (ref := RX3) C hinX3 (ci := 4) rfl hH_7 (14, txj, 0) (cl_14 (by omega)) rfl 1 (by decide) (by decide +kernel) (fun _ h => h) rfl dX4_tradeOf_53 ?_ rfl
      have h11_9 := (h11 txj (by omega)).2
      have h12_10 := (h12 txj (by omega)).2
      refine zr_getA (ref := RX2) C hinX2 (ci := 3) rfl hH_7 (13, (dN (I 11 txj)), (dN (I 12 txj))) (cl_13 (by omega) (by omega)) rfl 0 (by decide) (by decide +kernel) (fun _ h => h) rfl dX4_tradeOf_56 ?_ rfl
      refine zr_getA (ref := RX0) C hinX0 (ci := 1) rfl hH_7 (8, (dN (I 11 txj)), 0) (cl_8 (by omega)) rfl 0 (by decide) (by decide +kernel) (fun _ h => h) rfl dX4_tradeOf_59 ?_ rfl
      refine lv_i2l (v := Int32.toInt64 (nI (dN (I 11 txj)))) hx hb dX4_tradeOf_62 rfl ?_
      refine vx_ret (zr_lret C hr ?_ hH_7 hS_8 (Nat.le_of_ble_eq_true rfl) (Nat.le_of_ble_eq_true rfl) dX4_tradeOf_63)
      exact ⟨txj, 0, htxj, rfl, by decide, rfl, congrArg Int32.toInt64 (h11 txj htxj).1, rfl⟩
    · refine lv_iload_n hx hb dX4_tradeOf_13 rfl (lv_at hl_5 3 rfl) ?_
      refine lv_tableIn (off := 50) (tgt := 64) hx hb dX4_tradeOf_14 (by decide) (by decide) (by decide) (by decide) ?_
      refine lv_aload_n hx hb dX4_tradeOf_64 rfl (lv_at hl_5 0 rfl) ?_
      refine zr_getA (ref := RX3) C hinX3 (ci := 4) rfl hH_7 (14, txj, 0) (cl_14 (by omega)) rfl 1 (by decide) (by decide +kernel) (fun _ h => h) rfl dX4_tradeOf_65 ?_ rfl
      have h11_11 := (h11 txj (by omega)).2
      have h12_12 := (h12 txj (by omega)).2
      refine zr_getA (ref := RX2) C hinX2 (ci := 3) rfl hH_7 (13, (dN (I 11 txj)), (dN (I 12 txj))) (cl_13 (by omega) (by omega)) rfl 1 (by decide) (by decide +kernel) (fun _ h => h) rfl dX4_tradeOf_68 ?_ rfl
      refine zr_getA (ref := RX1) C hinX1 (ci := 2) rfl hH_7 (7, (dN (I 12 txj)), 0) (cl_7 (by omega)) rfl 0 (by decide) (by decide +kernel) (fun _ h => h) rfl dX4_tradeOf_71 ?_ rfl
      refine lv_i2l (v := Int32.toInt64 (nI (dN (I 12 txj)))) hx hb dX4_tradeOf_74 rfl ?_
      refine vx_ret (zr_lret C hr ?_ hH_7 hS_8 (Nat.le_of_ble_eq_true rfl) (Nat.le_of_ble_eq_true rfl) dX4_tradeOf_75)
      exact ⟨txj, 1, htxj, rfl, by decide, rfl, congrArg Int32.toInt64 (h12 txj htxj).1, rfl⟩
    · refine lv_iload_n hx hb dX4_tradeOf_13 rfl (lv_at hl_5 3 rfl) ?_
      refine lv_tableIn (off := 62) (tgt := 76) hx hb dX4_tradeOf_14 (by decide) (by decide) (by decide) (by decide) ?_
      refine lv_aload_n hx hb dX4_tradeOf_76 rfl (lv_at hl_5 0 rfl) ?_
      refine zr_getA (ref := RX3) C hinX3 (ci := 4) rfl hH_7 (14, txj, 0) (cl_14 (by omega)) rfl 3 (by decide) (by decide +kernel) (fun _ h => h) rfl dX4_tradeOf_77 ?_ rfl
      refine vx_ret (zr_lret C hr ?_ hH_7 hS_8 (Nat.le_of_ble_eq_true rfl) (Nat.le_of_ble_eq_true rfl) dX4_tradeOf_80)
      exact ⟨txj, 2, htxj, rfl, by decide, rfl, rfl, rfl⟩
    · refine lv_iload_n hx hb dX4_tradeOf_13 rfl (lv_at hl_5 3 rfl) ?_
      refine lv_tableIn (off := 67) (tgt := 81) hx hb dX4_tradeOf_14 (by decide) (by decide) (by decide) (by decide) ?_
      refine lv_aload_n hx hb dX4_tradeOf_81 rfl (lv_at hl_5 0 rfl) ?_
      refine zr_getA (ref := RX3) C hinX3 (ci := 4) rfl hH_7 (14, txj, 0) (cl_14 (by omega)) rfl 4 (by decide) (by decide +kernel) (fun _ h => h) rfl dX4_tradeOf_82 ?_ rfl
      refine vx_ret (zr_lret C hr ?_ hH_7 hS_8 (Nat.le_of_ble_eq_true rfl) (Nat.le_of_ble_eq_true rfl) dX4_tradeOf_85)
      exact ⟨txj, 3, htxj, rfl, by decide, rfl, rfl, rfl⟩
    · refine lv_iload_n hx hb dX4_tradeOf_13 rfl (lv_at hl_5 3 rfl) ?_
      refine lv_tableIn (off := 72) (tgt := 86) hx hb dX4_tradeOf_14 (by decide) (by decide) (by decide) (by decide) ?_
      refine lv_aload_n hx hb dX4_tradeOf_86 rfl (lv_at hl_5 0 rfl) ?_
      refine zr_getA (ref := RX3) C hinX3 (ci := 4) rfl hH_7 (14, txj, 0) (cl_14 (by omega)) rfl 5 (by decide) (by decide +kernel) (fun _ h => h) rfl dX4_tradeOf_87 ?_ rfl
      refine vx_ret (zr_lret C hr ?_ hH_7 hS_8 (Nat.le_of_ble_eq_true rfl) (Nat.le_of_ble_eq_true rfl) dX4_tradeOf_90)
      exact ⟨txj, 4, htxj, rfl, by decide, rfl, rfl, rfl⟩
    · refine lv_iload_n hx hb dX4_tradeOf_13 rfl (lv_at hl_5 3 rfl) ?_
      refine lv_tableIn (off := 77) (tgt := 91) hx hb dX4_tradeOf_14 (by decide) (by decide) (by decide) (by decide) ?_
      refine lv_aload_n hx hb dX4_tradeOf_91 rfl (lv_at hl_5 0 rfl) ?_
      refine zr_getA (ref := RX3) C hinX3 (ci := 4) rfl hH_7 (14, txj, 0) (cl_14 (by omega)) rfl 2 (by decide) (by decide +kernel) (fun _ h => h) rfl dX4_tradeOf_92 ?_ rfl
      refine lv_i2l (v := Int32.toInt64 (I 16 txj)) hx hb dX4_tradeOf_95 rfl ?_
      refine vx_ret (zr_lret C hr ?_ hH_7 hS_8 (Nat.le_of_ble_eq_true rfl) (Nat.le_of_ble_eq_true rfl) dX4_tradeOf_96)
      exact ⟨txj, 5, htxj, rfl, by decide, rfl, rfl, rfl⟩
    · refine lv_iload_n hx hb dX4_tradeOf_13 rfl (lv_at hl_5 3 rfl) ?_
      refine lv_tableOut (tgt := 97) hx hb dX4_tradeOf_14 (by decide) (by decide) ?_
      refine lv_aload_n hx hb dX4_tradeOf_97 rfl (lv_at hl_5 0 rfl) ?_
      refine zr_getA (ref := RX3) C hinX3 (ci := 4) rfl hH_7 (14, txj, 0) (cl_14 (by omega)) rfl 6 (by decide) (by decide +kernel) (fun _ h => h) rfl dX4_tradeOf_98 ?_ rfl
      refine lv_if_eq (tgt := 108) hx hb dX4_tradeOf_101 (by decide) (fun c_13 => ?_) (fun c_13 => ?_)
      · refine lv_lconst (v := 0) hx hb dX4_tradeOf_108 (by decide) ?_
        refine vx_ret (zr_lret C hr ?_ hH_7 hS_8 (Nat.le_of_ble_eq_true rfl) (Nat.le_of_ble_eq_true rfl) dX4_tradeOf_109)
        exact ⟨txj, 6, htxj, rfl, by decide, rfl, if_pos c_13, rfl⟩
      · refine lv_lconst (v := 1) hx hb dX4_tradeOf_104 (by decide) ?_
        refine lv_goto (tgt := 109) hx hb dX4_tradeOf_105 (by decide) ?_
        refine vx_ret (zr_lret C hr ?_ hH_7 hS_8 (Nat.le_of_ble_eq_true rfl) (Nat.le_of_ble_eq_true rfl) dX4_tradeOf_109)
        exact ⟨txj, 6, htxj, rfl, by decide, rfl, if_neg c_13, rfl⟩
  · exact zx_c (zx_rS (As := [.int what, .int 0, .int 6]) (rest := []) (n := 3) C (cC_range0 l hst D cA A g (cw cA (g 0) ad 6 nc nc 6 nt dy mo I L) what 0 6 hz_6) hH_3 hS_4 gX4_tradeOf_X4_checkRange rfl rfl (by decide +kernel) ⟨Nat.le_of_ble_eq_true rfl, Nat.le_of_ble_eq_true rfl⟩ hl_5 rfl (Nat.le_of_ble_eq_true rfl) dX4_tradeOf_10 ⟨Nat.le_of_ble_eq_true rfl, Nat.le_of_ble_eq_true rfl⟩) hS_4 (zx_go C hex (fun E w' h => ⟨h.2, Or.inr ⟨⟨txj, htxj, rfl⟩, hz_6, h.1⟩⟩) (Nat.le_of_ble_eq_true rfl) (Nat.le_of_ble_eq_true rfl)) (fun v w' H1 l1 hP => hP.elim)
def rmC_year : Room := { frames := 8, cells := 2, slots := 12, locals := 139 }
set_option maxHeartbeats 1000000 in
set_option maxRecDepth 100000 in
theorem cC_year (l : Launch) (hst : l.stackTraces = false) (D : va_G) (cA : Nat → ClassId) (A : Nat → Prop) (g : Nat → Nat) (ad : zk_K → Nat) (nc nt dy : Nat) (mo : Int64) (I : zIA) (L : zLA) (cx y what : Int32) (hnc : nc ≤ 12) : zX l yX4_year wsX4_year rmC_year D (zt cA) A g [.ref (ad (0, 0, 0)), .int cx, .int y, .int what] (cw cA (g 0) ad 6 nc nc 6 nt dy mo I L) (zQl (fun r w' => ∃ j y' k, j < nc ∧ cx = nI j ∧ y' < 21 ∧ y = nI y' ∧ k ≤ 3 ∧ what = nI k ∧ ycV L j y' k = r ∧ cw cA (g 0) ad 6 nc nc 6 nt dy mo I L = w')) (fun E w' => cw cA (g 0) ad 6 nc nc 6 nt dy mo I L = w' ∧ ((¬ (zIn cx nc ∧ zIn y 21) ∧ E = xI) ∨ (zIn cx nc ∧ zIn y 21 ∧ ¬ zR what 0 3 ∧ E = xA))) := by
  refine zX_of (cc := cX4_year) (maxL := 5) (ret := (some .long)) (own := RX4) (by decide +kernel) rfl (Nat.le_of_ble_eq_true rfl) rfl ?_
  intro p e s m below meth c C hr hnm hex H locs ls hH hS hl
  obtain ⟨⟨hx, hb, hml, hown, hts⟩, hG, hlk⟩ := id C
  have hinX0 : ∀ w ∈ wsX00, w ∈ wsX4_year := by decide +kernel
  have hl : lv_has ls 5 [(0, .ref (ad (0, 0, 0))), (1, .int cx), (2, .int y), (3, .int what)] := hl
  refine lv_aload_n hx hb dX4_year_0 rfl (lv_at hl 0 rfl) ?_
  refine lv_iload_n hx hb dX4_year_1 rfl (lv_at hl 1 rfl) ?_
  refine zx_cr (zx_rV (As := [.int cx]) (rest := []) (n := 1) (k := (0, 0, 0)) C (cC_clientAt l hst D cA A g ad nc nt dy mo I L cx hnc) hH hS rfl rfl rfl gX4_year_X4_clientAt rfl rfl (by decide +kernel) ⟨Nat.le_of_ble_eq_true rfl, Nat.le_of_ble_eq_true rfl⟩ hl rfl (Nat.le_of_ble_eq_true rfl) dX4_year_2 ⟨Nat.le_of_ble_eq_true rfl, Nat.le_of_ble_eq_true rfl⟩) hS (zx_go C hex (fun E w' h => ⟨h.2.2, Or.inl ⟨fun z => h.2.1 z.1, h.1⟩⟩) (Nat.le_of_ble_eq_true rfl) (Nat.le_of_ble_eq_true rfl)) (fun r_1 w_2 H locs hP hH_3 hS_4 => ?_)
  obtain ⟨cxj, hcxj, rfl, rfl, rfl⟩ := hP
  refine lv_astore (lv' := [(4, .ref (ad (8, cxj, 0))), (0, .ref (ad (0, 0, 0))), (1, .int (nI cxj)), (2, .int y), (3, .int what)]) hx hb dX4_year_5 hl (by decide) rfl (fun ls hl_5 => ?_)
  refine lv_iload_n hx hb dX4_year_7 rfl (lv_at hl_5 3 rfl) ?_
  refine lv_if_lt (tgt := 35) hx hb dX4_year_8 (by decide) (fun c_6 => ?_) (fun c_6 => ?_)
  · refine lv_iconst (v := 0) hx hb dX4_year_35 (by decide) ?_
    exact zx_c (zx_rS (As := [.int 0]) (rest := []) (n := 1) C (cC_exists0 l hst D cA A g (cw cA (g 0) ad 6 nc nc 6 nt dy mo I L)) hH_3 hS_4 gX4_year_X4_checkExists rfl rfl (by decide +kernel) ⟨Nat.le_of_ble_eq_true rfl, Nat.le_of_ble_eq_true rfl⟩ hl_5 rfl (Nat.le_of_ble_eq_true rfl) dX4_year_36 ⟨Nat.le_of_ble_eq_true rfl, Nat.le_of_ble_eq_true rfl⟩) hS_4 (zx_go C hex (fun E w' h => ⟨h.2, Or.inl ⟨fun z => zIn_o1 (by decide) c_6 z.2, h.1⟩⟩) (Nat.le_of_ble_eq_true rfl) (Nat.le_of_ble_eq_true rfl)) (fun v w' H1 l1 hP => hP.elim)
  · refine lv_iload_n hx hb dX4_year_11 rfl (lv_at hl_5 3 rfl) ?_
    refine lv_aload hx hb dX4_year_12 (lv_at hl_5 0 rfl) ?_
    refine zr_getA (ref := RX0) C hinX0 (ci := 1) rfl hH_3 (8, cxj, 0) (cl_8 (by omega)) rfl 2 (by decide) (by decide +kernel) (fun _ h => h) rfl dX4_year_14 ?_ rfl
    refine zc_yln C hH_3 (k := cxj) (by decide) (by omega) rfl dX4_year_17 ?_
    refine lv_icmp_ge (tgt := 35) hx hb dX4_year_18 (by decide) (fun c_7 => ?_) (fun c_7 => ?_)
    · refine lv_iconst (v := 0) hx hb dX4_year_35 (by decide) ?_
      exact zx_c (zx_rS (As := [.int 0]) (rest := []) (n := 1) C (cC_exists0 l hst D cA A g (cw cA (g 0) ad 6 nc nc 6 nt dy mo I L)) hH_3 hS_4 gX4_year_X4_checkExists rfl rfl (by decide +kernel) ⟨Nat.le_of_ble_eq_true rfl, Nat.le_of_ble_eq_true rfl⟩ hl_5 rfl (Nat.le_of_ble_eq_true rfl) dX4_year_36 ⟨Nat.le_of_ble_eq_true rfl, Nat.le_of_ble_eq_true rfl⟩) hS_4 (zx_go C hex (fun E w' h => ⟨h.2, Or.inl ⟨fun z => zIn_o2 (by decide) c_7 z.2, h.1⟩⟩) (Nat.le_of_ble_eq_true rfl) (Nat.le_of_ble_eq_true rfl)) (fun v w' H1 l1 hP => hP.elim)
    · refine lv_iload_n hx hb dX4_year_21 rfl (lv_at hl_5 3 rfl) ?_
      refine lv_aload hx hb dX4_year_22 (lv_at hl_5 0 rfl) ?_
      refine zr_getA (ref := RX0) C hinX0 (ci := 1) rfl hH_3 (8, cxj, 0) (cl_8 (by omega)) rfl 3 (by decide) (by decide +kernel) (fun _ h => h) rfl dX4_year_24 ?_ rfl
      refine zc_yln C hH_3 (k := cxj) (by decide) (by omega) rfl dX4_year_27 ?_
      refine lv_icmp_ge (tgt := 35) hx hb dX4_year_28 (by decide) (fun c_8 => absurd c_8 (c_7)) (fun c_8 => ?_)
      refine lv_iconst (v := 1) hx hb dX4_year_31 (by decide) ?_
      refine lv_goto (tgt := 36) hx hb dX4_year_32 (by decide) ?_
      refine zk_cv (zk_rS (As := [.int 1]) (rest := []) (n := 1) C (cC_exists1 l D cA A g (cw cA (g 0) ad 6 nc nc 6 nt dy mo I L)) hH_3 hS_4 gX4_year_X4_checkExists rfl rfl (by decide +kernel) ⟨Nat.le_of_ble_eq_true rfl, Nat.le_of_ble_eq_true rfl⟩ hl_5 rfl (Nat.le_of_ble_eq_true rfl) dX4_year_36 ⟨Nat.le_of_ble_eq_true rfl, Nat.le_of_ble_eq_true rfl⟩) hS_4 (fun w_ H locs hP hH_9 hS_10 => ?_)
      subst hP
      obtain ⟨yj, hyj, rfl⟩ : zIn y 21 := zIn_b c_6 c_7
      refine lv_iload_n hx hb dX4_year_39 rfl (lv_at hl_5 4 rfl) ?_
      refine lv_iconst (v := 0) hx hb dX4_year_40 (by decide) ?_
      refine lv_iconst (v := 3) hx hb dX4_year_41 (by decide) ?_
      by_cases hz_11 : zR what 0 3
      · refine zk_cv (zk_rS (As := [.int what, .int 0, .int 3]) (rest := []) (n := 3) C (cC_range1 l D cA A g (cw cA (g 0) ad 6 nc nc 6 nt dy mo I L) what 0 3 hz_11) hH_9 hS_10 gX4_year_X4_checkRange rfl rfl (by decide +kernel) ⟨Nat.le_of_ble_eq_true rfl, Nat.le_of_ble_eq_true rfl⟩ hl_5 rfl (Nat.le_of_ble_eq_true rfl) dX4_year_42 ⟨Nat.le_of_ble_eq_true rfl, Nat.le_of_ble_eq_true rfl⟩) hS_10 (fun w_ H locs hP hH_12 hS_13 => ?_)
        subst hP
        obtain (rfl | rfl | rfl | rfl) := zR_03 hz_11
        · refine lv_iload_n hx hb dX4_year_45 rfl (lv_at hl_5 4 rfl) ?_
          refine lv_tableIn (off := 26) (tgt := 72) hx hb dX4_year_46 (by decide) (by decide) (by decide) (by decide) ?_
          refine lv_aload hx hb dX4_year_72 (lv_at hl_5 0 rfl) ?_
          refine zr_getA (ref := RX0) C hinX0 (ci := 1) rfl hH_12 (8, cxj, 0) (cl_8 (by omega)) rfl 2 (by decide) (by decide +kernel) (fun _ h => h) rfl dX4_year_74 ?_ rfl
          refine lv_iload_n hx hb dX4_year_77 rfl (lv_at hl_5 3 rfl) ?_
          refine zc_gld C hH_12 (k := cxj) (by omega) (j := yj) rfl (by omega) rfl dX4_year_78 ?_
          refine vx_ret (zr_lret C hr ?_ hH_12 hS_13 (Nat.le_of_ble_eq_true rfl) (Nat.le_of_ble_eq_true rfl) dX4_year_79)
          exact ⟨cxj, yj, 0, hcxj, rfl, hyj, rfl, by decide, rfl, rfl, rfl⟩
        · refine lv_iload_n hx hb dX4_year_45 rfl (lv_at hl_5 4 rfl) ?_
          refine lv_tableIn (off := 34) (tgt := 80) hx hb dX4_year_46 (by decide) (by decide) (by decide) (by decide) ?_
          refine lv_aload hx hb dX4_year_80 (lv_at hl_5 0 rfl) ?_
          refine lv_iload_n hx hb dX4_year_82 rfl (lv_at hl_5 3 rfl) ?_
          refine zk_cl (zk_rS (As := [.ref (ad (8, cxj, 0)), .int (nI yj)]) (rest := []) (n := 2) C (cC_baseOf l D cA A g ad nc nt dy mo I L cxj yj (by omega) (by omega)) hH_12 hS_13 gX4_year_X4_baseOf rfl rfl (by decide +kernel) ⟨Nat.le_of_ble_eq_true rfl, Nat.le_of_ble_eq_true rfl⟩ hl_5 rfl (Nat.le_of_ble_eq_true rfl) dX4_year_83 ⟨Nat.le_of_ble_eq_true rfl, Nat.le_of_ble_eq_true rfl⟩) hS_13 (fun r_14 w_15 H locs hP hH_16 hS_17 => ?_)
          obtain ⟨rfl, rfl⟩ := hP
          refine vx_ret (zr_lret C hr ?_ hH_16 hS_17 (Nat.le_of_ble_eq_true rfl) (Nat.le_of_ble_eq_true rfl) dX4_year_86)
          exact ⟨cxj, yj, 1, hcxj, rfl, hyj, rfl, by decide, rfl, rfl, rfl⟩
        · refine lv_iload_n hx hb dX4_year_45 rfl (lv_at hl_5 4 rfl) ?_
          refine lv_tableIn (off := 41) (tgt := 87) hx hb dX4_year_46 (by decide) (by decide) (by decide) (by decide) ?_
          refine lv_aload hx hb dX4_year_87 (lv_at hl_5 0 rfl) ?_
          refine lv_iload_n hx hb dX4_year_89 rfl (lv_at hl_5 3 rfl) ?_
          refine zk_cl (zk_rS (As := [.ref (ad (8, cxj, 0)), .int (nI yj)]) (rest := []) (n := 2) C (cC_baseOf l D cA A g ad nc nt dy mo I L cxj yj (by omega) (by omega)) hH_12 hS_13 gX4_year_X4_baseOf rfl rfl (by decide +kernel) ⟨Nat.le_of_ble_eq_true rfl, Nat.le_of_ble_eq_true rfl⟩ hl_5 rfl (Nat.le_of_ble_eq_true rfl) dX4_year_90 ⟨Nat.le_of_ble_eq_true rfl, Nat.le_of_ble_eq_true rfl⟩) hS_13 (fun r_18 w_19 H locs hP hH_20 hS_21 => ?_)
          obtain ⟨rfl, rfl⟩ := hP
          refine lv_ldc2 (v := 4) hx hb hown (hts (.constantLong RX4 215 4) (by decide +kernel)) dX4_year_93 ?_
          refine lv_ldiv hx hb dX4_year_96 (by decide) ?_
          refine vx_ret (zr_lret C hr ?_ hH_20 hS_21 (Nat.le_of_ble_eq_true rfl) (Nat.le_of_ble_eq_true rfl) dX4_year_97)
          exact ⟨cxj, yj, 2, hcxj, rfl, hyj, rfl, by decide, rfl, rfl, rfl⟩
        · refine lv_iload_n hx hb dX4_year_45 rfl (lv_at hl_5 4 rfl) ?_
          refine lv_tableOut (tgt := 98) hx hb dX4_year_46 (by decide) (by decide) ?_
          refine lv_aload hx hb dX4_year_98 (lv_at hl_5 0 rfl) ?_
          refine zr_getA (ref := RX0) C hinX0 (ci := 1) rfl hH_12 (8, cxj, 0) (cl_8 (by omega)) rfl 3 (by decide) (by decide +kernel) (fun _ h => h) rfl dX4_year_100 ?_ rfl
          refine lv_iload_n hx hb dX4_year_103 rfl (lv_at hl_5 3 rfl) ?_
          refine zc_tld C hH_12 (k := cxj) (by omega) (j := yj) rfl (by omega) rfl dX4_year_104 ?_
          refine vx_ret (zr_lret C hr ?_ hH_12 hS_13 (Nat.le_of_ble_eq_true rfl) (Nat.le_of_ble_eq_true rfl) dX4_year_105)
          exact ⟨cxj, yj, 3, hcxj, rfl, hyj, rfl, by decide, rfl, rfl, rfl⟩
      · exact zx_c (zx_rS (As := [.int what, .int 0, .int 3]) (rest := []) (n := 3) C (cC_range0 l hst D cA A g (cw cA (g 0) ad 6 nc nc 6 nt dy mo I L) what 0 3 hz_11) hH_9 hS_10 gX4_year_X4_checkRange rfl rfl (by decide +kernel) ⟨Nat.le_of_ble_eq_true rfl, Nat.le_of_ble_eq_true rfl⟩ hl_5 rfl (Nat.le_of_ble_eq_true rfl) dX4_year_42 ⟨Nat.le_of_ble_eq_true rfl, Nat.le_of_ble_eq_true rfl⟩) hS_10 (zx_go C hex (fun E w' h => ⟨h.2, Or.inr ⟨⟨cxj, hcxj, rfl⟩, ⟨yj, hyj, rfl⟩, hz_11, h.1⟩⟩) (Nat.le_of_ble_eq_true rfl) (Nat.le_of_ble_eq_true rfl)) (fun v w' H1 l1 hP => hP.elim)
def rmC_endDay : Room := { frames := 3, cells := 0, slots := 0, locals := 82 }
set_option maxHeartbeats 1000000 in
set_option maxRecDepth 100000 in
theorem cC_endDay (l : Launch) (D : va_G) (cA : Nat → ClassId) (A : Nat → Prop) (g : Nat → Nat) (ad : zk_K → Nat) (nc nt dy : Nat) (mo : Int64) (I : zIA) (L : zLA) (hnc : nc ≤ 12) (hdy : dy < 7200) : zM l yX4_endDay wsX4_endDay rmC_endDay D (zt cA) A g [.ref (ad (0, 0, 0))] (cw cA (g 0) ad 6 nc nc 6 nt dy mo I L) (zQv (fun w' => cw cA (g 0) ad 6 nc nc 6 nt (dy + 1) ((edD nc dy I mo L).1) I ((edD nc dy I mo L).2) = w')) := by
  obtain ⟨n6, hn6⟩ : ∃ n : Nat, n = 6 := ⟨6, rfl⟩
  refine zM_of (cc := cX4_endDay) (maxL := 3) (ret := none) (own := RX4) (by decide +kernel) rfl (Nat.le_of_ble_eq_true rfl) rfl ?_
  intro p e s m below meth c C hr hnm H locs ls hH hS hl
  obtain ⟨⟨hx, hb, hml, hown, hts⟩, hG, hlk⟩ := id C
  have hinX1 : ∀ w ∈ wsX10, w ∈ wsX4_endDay := by decide +kernel
  have hinX4 : ∀ w ∈ wsX40, w ∈ wsX4_endDay := by decide +kernel
  have hl : lv_has ls 3 [(0, .ref (ad (0, 0, 0)))] := hl
  refine lv_iconst (v := 0) hx hb dX4_endDay_0 (by decide) ?_
  refine lv_istore_n (lv' := [(1, .int 0), (0, .ref (ad (0, 0, 0)))]) hx hb dX4_endDay_1 rfl hl (by decide) rfl (fun ls hl_1 => ?_)
  refine z_at (n := n6) (P := fun i_2 => zL p l e rmC_endDay s m _ below meth c 3 D A _ (cw cA (g 0) ad 6 nc nc 6 nt dy ((edS I mo L i_2).1) I ((edS I mo L i_2).2)) 0 0 2 [(0, .ref (ad (0, 0, 0))), (1, .int (nI i_2))] []) 0 (Nat.zero_le _) (fun h => h _ _ _ hH hS (lv_sub hl_1 [1, 0] rfl)) ?_ ?_
  · intro H locs ls hH_4 hS_5 hl_6
    refine lv_iload_n hx hb dX4_endDay_2 rfl (lv_at hl_6 1 rfl) ?_
    refine lv_aload_n hx hb dX4_endDay_3 rfl (lv_at hl_6 0 rfl) ?_
    refine zr_getA (ref := RX4) C hinX4 (ci := 5) rfl hH_4 (0, 0, 0) rfl rfl 0 (by decide) (by decide +kernel) (fun _ h => h) rfl dX4_endDay_4 ?_ rfl
    refine zk_ci (zk_rV (As := []) (rest := [.int (nI n6)]) (n := 0) (k := (1, 0, 0)) C (cC_size l D cA A g (cw cA (g 0) ad 6 nc nc 6 nt dy ((edS I mo L n6).1) I ((edS I mo L n6).2)) (1, 0, 0) (4, 0, 0) 6 (g0 := g 0) rfl rfl) hH_4 hS_5 rfl rfl rfl gX4_endDay_Jx4a65c_size_8abf5 rfl rfl (by decide +kernel) ⟨Nat.le_of_ble_eq_true rfl, Nat.le_of_ble_eq_true rfl⟩ hl_6 rfl (Nat.le_of_ble_eq_true rfl) dX4_endDay_7 ⟨Nat.le_of_ble_eq_true rfl, Nat.le_of_ble_eq_true rfl⟩) hS_5 (fun r_ w_ H locs hP hH_7 hS_8 => ?_)
    obtain ⟨rfl, rfl⟩ := hP
    refine lv_icmp_ge (tgt := 45) hx hb dX4_endDay_10 (by decide) (fun c_9 => ?_) (fun c_9 => absurd (by rw [hn6]; exact Int32.le_refl _) c_9)
    refine lv_aload_n hx hb dX4_endDay_45 rfl (lv_at hl_6 0 rfl) ?_
    refine lv_dup hx hb dX4_endDay_46 rfl ?_
    refine zr_getA (ref := RX4) C hinX4 (ci := 5) rfl hH_7 (0, 0, 0) rfl rfl 4 (by decide) (by decide +kernel) (fun _ h => h) rfl dX4_endDay_47 ?_ rfl
    refine lv_iconst (v := 1) hx hb dX4_endDay_50 (by decide) ?_
    refine lv_iadd hx hb dX4_endDay_51 ?_
    refine W.eq (g2 := F0 m 52 ls [.int (nI (dy + 1)), .ref (ad (0, 0, 0))]) (by rw [show ((nI dy) + 1 : Int32) = nI (dy + 1) from (zi_add rfl rfl)]) ?_
    refine zr_putA (ref := RX4) C hinX4 (ci := 5) rfl tyX4 tyX4_ok nmX4 hH_7 hS_8 (0, 0, 0) rfl rfl 4 (by decide) (by decide +kernel) (fun _ h => h) rfl rfl rfl (show 4 < 5 by decide) dX4_endDay_52 (cw cA (g 0) ad 6 nc nc 6 nt (dy + 1) ((edS I mo L n6).1) I ((edS I mo L n6).2)) (cu_dy _) (fun H locs hH_10 hS_11 => ?_) rfl
    refine lv_aload_n hx hb dX4_endDay_55 rfl (lv_at hl_6 0 rfl) ?_
    refine zr_getA (ref := RX4) C hinX4 (ci := 5) rfl hH_10 (0, 0, 0) rfl rfl 4 (by decide) (by decide +kernel) (fun _ h => h) rfl dX4_endDay_56 ?_ rfl
    refine lv_sipush (v := 360) hx hb dX4_endDay_59 (by decide) ?_
    refine lv_irem hx hb dX4_endDay_62 (by decide) ?_
    refine W.eq (g2 := F0 m 63 ls [.int (nI ((dy + 1) % 360))]) (by rw [show ((nI (dy + 1)) - (nI (dy + 1)) / 360 * 360 : Int32) = nI ((dy + 1) % 360) from (zi_rem rfl (b := 360) rfl (by omega) (by decide) (by decide))]) ?_
    refine lv_if_ne (tgt := 101) hx hb dX4_endDay_63 (by decide) (fun c_12 => ?_) (fun c_12 => ?_)
    · refine zr_vret C hr ?_ hH_10 hS_11 (Nat.le_of_ble_eq_true rfl) (Nat.le_of_ble_eq_true rfl) dX4_endDay_101
      rw [edD_n hn6 c_12]
    · refine lv_iconst (v := 0) hx hb dX4_endDay_66 (by decide) ?_
      refine lv_istore_n (lv' := [(1, .int 0), (0, .ref (ad (0, 0, 0)))]) hx hb dX4_endDay_67 rfl hl_6 (by decide) rfl (fun ls hl_13 => ?_)
      refine z_at (n := nc) (P := fun i_14 => zL p l e rmC_endDay s m _ below meth c 3 D A _ (cw cA (g 0) ad 6 nc nc 6 nt (dy + 1) ((edS I mo L n6).1) I (ecS (edS I mo L n6).2 ((dy + 1) / 360) i_14)) 0 0 68 [(0, .ref (ad (0, 0, 0))), (1, .int (nI i_14))] []) 0 (Nat.zero_le _) (fun h => h _ _ _ hH_10 hS_11 (lv_sub hl_13 [1, 0] rfl)) ?_ ?_
      · intro H locs ls hH_16 hS_17 hl_18
        refine lv_iload_n hx hb dX4_endDay_68 rfl (lv_at hl_18 1 rfl) ?_
        refine lv_aload_n hx hb dX4_endDay_69 rfl (lv_at hl_18 0 rfl) ?_
        refine zr_getA (ref := RX4) C hinX4 (ci := 5) rfl hH_16 (0, 0, 0) rfl rfl 1 (by decide) (by decide +kernel) (fun _ h => h) rfl dX4_endDay_70 ?_ rfl
        refine zk_ci (zk_rV (As := []) (rest := [.int (nI nc)]) (n := 0) (k := (2, 0, 0)) C (cC_size l D cA A g (cw cA (g 0) ad 6 nc nc 6 nt (dy + 1) ((edS I mo L n6).1) I (ecS (edS I mo L n6).2 ((dy + 1) / 360) nc)) (2, 0, 0) (5, 0, 0) nc (g0 := g 0) rfl rfl) hH_16 hS_17 rfl rfl rfl gX4_endDay_Jx4a65c_size_8abf5 rfl rfl (by decide +kernel) ⟨Nat.le_of_ble_eq_true rfl, Nat.le_of_ble_eq_true rfl⟩ hl_18 rfl (Nat.le_of_ble_eq_true rfl) dX4_endDay_73 ⟨Nat.le_of_ble_eq_true rfl, Nat.le_of_ble_eq_true rfl⟩) hS_17 (fun r_ w_ H locs hP hH_19 hS_20 => ?_)
        obtain ⟨rfl, rfl⟩ := hP
        refine lv_icmp_ge (tgt := 101) hx hb dX4_endDay_76 (by decide) (fun c_21 => ?_) (fun c_21 => absurd (Int32.le_refl _) c_21)
        refine zr_vret C hr ?_ hH_19 hS_20 (Nat.le_of_ble_eq_true rfl) (Nat.le_of_ble_eq_true rfl) dX4_endDay_101
        rw [edD_p hn6 c_12]
      · intro i_14 hi_14 ih_15 H locs ls hH_22 hS_23 hl_24
        refine lv_iload_n hx hb dX4_endDay_68 rfl (lv_at hl_24 1 rfl) ?_
        refine lv_aload_n hx hb dX4_endDay_69 rfl (lv_at hl_24 0 rfl) ?_
        refine zr_getA (ref := RX4) C hinX4 (ci := 5) rfl hH_22 (0, 0, 0) rfl rfl 1 (by decide) (by decide +kernel) (fun _ h => h) rfl dX4_endDay_70 ?_ rfl
        refine zk_ci (zk_rV (As := []) (rest := [.int (nI i_14)]) (n := 0) (k := (2, 0, 0)) C (cC_size l D cA A g (cw cA (g 0) ad 6 nc nc 6 nt (dy + 1) ((edS I mo L n6).1) I (ecS (edS I mo L n6).2 ((dy + 1) / 360) i_14)) (2, 0, 0) (5, 0, 0) nc (g0 := g 0) rfl rfl) hH_22 hS_23 rfl rfl rfl gX4_endDay_Jx4a65c_size_8abf5 rfl rfl (by decide +kernel) ⟨Nat.le_of_ble_eq_true rfl, Nat.le_of_ble_eq_true rfl⟩ hl_24 rfl (Nat.le_of_ble_eq_true rfl) dX4_endDay_73 ⟨Nat.le_of_ble_eq_true rfl, Nat.le_of_ble_eq_true rfl⟩) hS_23 (fun r_ w_ H locs hP hH_25 hS_26 => ?_)
        obtain ⟨rfl, rfl⟩ := hP
        refine lv_icmp_ge (tgt := 101) hx hb dX4_endDay_76 (by decide) (fun c_27 => absurd c_27 (nI_ge hi_14 (by first | decide | omega))) (fun c_27 => ?_)
        refine lv_aload_n hx hb dX4_endDay_79 rfl (lv_at hl_24 0 rfl) ?_
        refine lv_aload_n hx hb dX4_endDay_80 rfl (lv_at hl_24 0 rfl) ?_
        refine zr_getA (ref := RX4) C hinX4 (ci := 5) rfl hH_25 (0, 0, 0) rfl rfl 1 (by decide) (by decide +kernel) (fun _ h => h) rfl dX4_endDay_81 ?_ rfl
        refine lv_iload_n hx hb dX4_endDay_84 rfl (lv_at hl_24 1 rfl) ?_
        refine zk_cr (zk_rV (As := [.int (nI i_14)]) (rest := [.ref (ad (0, 0, 0))]) (n := 1) (k := (2, 0, 0)) C (cC_get l D cA A g (cw cA (g 0) ad 6 nc nc 6 nt (dy + 1) ((edS I mo L n6).1) I (ecS (edS I mo L n6).2 ((dy + 1) / 360) i_14)) (2, 0, 0) (5, 0, 0) (fun j => (8, j, 0)) nc i_14 (g0 := g 0) rfl rfl (cl_5 (by omega)) rfl (by omega) (by omega)) hH_25 hS_26 rfl rfl rfl gX4_endDay_Jx4a65c_get_915e3 rfl rfl (by decide +kernel) ⟨Nat.le_of_ble_eq_true rfl, Nat.le_of_ble_eq_true rfl⟩ hl_24 rfl (Nat.le_of_ble_eq_true rfl) dX4_endDay_85 ⟨Nat.le_of_ble_eq_true rfl, Nat.le_of_ble_eq_true rfl⟩) hS_26 (fun r_ w_ H locs hP hH_28 hS_29 => ?_)
        obtain ⟨rfl, rfl⟩ := hP
        refine W.eq (g2 := F0 m 88 ls [.ref (ad (8, i_14, 0)), .ref (ad (0, 0, 0))]) rfl ?_
        refine zr_castC C (by decide +kernel) (ci := 1) rfl hH_28 (8, i_14, 0) (cl_8 (by omega)) rfl rfl dX4_endDay_88 ?_
        refine zk_cl (zk_rV (As := [.ref (ad (8, i_14, 0))]) (rest := []) (n := 1) (k := (0, 0, 0)) C (cC_settleTaxes l D cA A g ad nc nt (dy + 1) ((edS I mo L n6).1) I (ecS (edS I mo L n6).2 ((dy + 1) / 360) i_14) i_14 (by omega) (by omega)) hH_28 hS_29 rfl rfl rfl gX4_endDay_X4_settleTaxes rfl rfl (by decide +kernel) ⟨Nat.le_of_ble_eq_true rfl, Nat.le_of_ble_eq_true rfl⟩ hl_24 rfl (Nat.le_of_ble_eq_true rfl) dX4_endDay_91 ⟨Nat.le_of_ble_eq_true rfl, Nat.le_of_ble_eq_true rfl⟩) hS_29 (fun r_30 w_31 H locs hP hH_32 hS_33 => ?_)
        obtain ⟨rfl, rfl⟩ := hP
        refine lv_pop2_2 hx hb dX4_endDay_94 rfl ?_
        refine lv_iinc (v := nI (i_14 + 1)) (lv' := [(1, .int (nI (i_14 + 1))), (0, .ref (ad (0, 0, 0)))]) hx hb dX4_endDay_95 hl_24 (k := 1) rfl (nI_1 i_14) (by decide) rfl (fun ls hl_34 => ?_)
        refine lv_goto (tgt := 68) hx hb dX4_endDay_98 (by decide) ?_
        exact ih_15 _ _ _ hH_32 hS_33 (lv_sub hl_34 [1, 0] rfl)
  · intro i_2 hi_2 ih_3 H locs ls hH_35 hS_36 hl_37
    refine lv_iload_n hx hb dX4_endDay_2 rfl (lv_at hl_37 1 rfl) ?_
    refine lv_aload_n hx hb dX4_endDay_3 rfl (lv_at hl_37 0 rfl) ?_
    refine zr_getA (ref := RX4) C hinX4 (ci := 5) rfl hH_35 (0, 0, 0) rfl rfl 0 (by decide) (by decide +kernel) (fun _ h => h) rfl dX4_endDay_4 ?_ rfl
    refine zk_ci (zk_rV (As := []) (rest := [.int (nI i_2)]) (n := 0) (k := (1, 0, 0)) C (cC_size l D cA A g (cw cA (g 0) ad 6 nc nc 6 nt dy ((edS I mo L i_2).1) I ((edS I mo L i_2).2)) (1, 0, 0) (4, 0, 0) 6 (g0 := g 0) rfl rfl) hH_35 hS_36 rfl rfl rfl gX4_endDay_Jx4a65c_size_8abf5 rfl rfl (by decide +kernel) ⟨Nat.le_of_ble_eq_true rfl, Nat.le_of_ble_eq_true rfl⟩ hl_37 rfl (Nat.le_of_ble_eq_true rfl) dX4_endDay_7 ⟨Nat.le_of_ble_eq_true rfl, Nat.le_of_ble_eq_true rfl⟩) hS_36 (fun r_ w_ H locs hP hH_38 hS_39 => ?_)
    obtain ⟨rfl, rfl⟩ := hP
    refine lv_icmp_ge (tgt := 45) hx hb dX4_endDay_10 (by decide) (fun c_40 => absurd c_40 (nI_ge (b := 6) (by omega) (by omega))) (fun c_40 => ?_)
    refine lv_aload_n hx hb dX4_endDay_13 rfl (lv_at hl_37 0 rfl) ?_
    refine zr_getA (ref := RX4) C hinX4 (ci := 5) rfl hH_38 (0, 0, 0) rfl rfl 0 (by decide) (by decide +kernel) (fun _ h => h) rfl dX4_endDay_14 ?_ rfl
    refine lv_iload_n hx hb dX4_endDay_17 rfl (lv_at hl_37 1 rfl) ?_
    refine zk_cr (zk_rV (As := [.int (nI i_2)]) (rest := []) (n := 1) (k := (1, 0, 0)) C (cC_get l D cA A g (cw cA (g 0) ad 6 nc nc 6 nt dy ((edS I mo L i_2).1) I ((edS I mo L i_2).2)) (1, 0, 0) (4, 0, 0) (fun j => (7, j, 0)) 6 i_2 (g0 := g 0) rfl rfl (cl_4 (by omega)) rfl (by omega) (by omega)) hH_38 hS_39 rfl rfl rfl gX4_endDay_Jx4a65c_get_915e3 rfl rfl (by decide +kernel) ⟨Nat.le_of_ble_eq_true rfl, Nat.le_of_ble_eq_true rfl⟩ hl_37 rfl (Nat.le_of_ble_eq_true rfl) dX4_endDay_18 ⟨Nat.le_of_ble_eq_true rfl, Nat.le_of_ble_eq_true rfl⟩) hS_39 (fun r_ w_ H locs hP hH_41 hS_42 => ?_)
    obtain ⟨rfl, rfl⟩ := hP
    refine W.eq (g2 := F0 m 21 ls [.ref (ad (7, i_2, 0))]) rfl ?_
    refine zr_castC C (by decide +kernel) (ci := 2) rfl hH_41 (7, i_2, 0) (cl_7 (by omega)) rfl rfl dX4_endDay_21 ?_
    refine lv_astore_n (lv' := [(2, .ref (ad (7, i_2, 0))), (0, .ref (ad (0, 0, 0))), (1, .int (nI i_2))]) hx hb dX4_endDay_24 rfl hl_37 (by decide) rfl (fun ls hl_43 => ?_)
    refine lv_aload_n hx hb dX4_endDay_25 rfl (lv_at hl_43 1 rfl) ?_
    refine lv_aload_n hx hb dX4_endDay_26 rfl (lv_at hl_43 0 rfl) ?_
    refine lv_aload_n hx hb dX4_endDay_27 rfl (lv_at hl_43 0 rfl) ?_
    refine zr_getA (ref := RX1) C hinX1 (ci := 2) rfl hH_41 (7, i_2, 0) (cl_7 (by omega)) rfl 3 (by decide) (by decide +kernel) (fun _ h => h) rfl dX4_endDay_28 ?_ rfl
    refine lv_ldc2 (v := 1000) hx hb hown (hts (.constantLong RX4 234 1000) (by decide +kernel)) dX4_endDay_31 ?_
    refine lv_ldiv hx hb dX4_endDay_34 (by decide) ?_
    refine lv_lneg hx hb dX4_endDay_35 ?_
    refine zk_cv (zk_rV (As := [.ref (ad (7, i_2, 0)), .long (-((((edS I mo L i_2).2) 3 i_2) / 1000))]) (rest := []) (n := 2) (k := (0, 0, 0)) C (cC_tradeUnits l D cA A g ad nc nt dy ((edS I mo L i_2).1) I ((edS I mo L i_2).2) i_2 (-((((edS I mo L i_2).2) 3 i_2) / 1000)) (by omega)) hH_41 hS_42 rfl rfl rfl gX4_endDay_X4_tradeUnits rfl rfl (by decide +kernel) ⟨Nat.le_of_ble_eq_true rfl, Nat.le_of_ble_eq_true rfl⟩ hl_43 rfl (Nat.le_of_ble_eq_true rfl) dX4_endDay_36 ⟨Nat.le_of_ble_eq_true rfl, Nat.le_of_ble_eq_true rfl⟩) hS_42 (fun w_45 H locs hP hH_46 hS_47 => ?_)
    subst hP
    refine lv_iinc (v := nI (i_2 + 1)) (lv' := [(1, .int (nI (i_2 + 1))), (2, .ref (ad (7, i_2, 0))), (0, .ref (ad (0, 0, 0)))]) hx hb dX4_endDay_39 hl_43 (k := 2) rfl (nI_1 i_2) (by decide) rfl (fun ls hl_48 => ?_)
    refine lv_goto (tgt := 2) hx hb dX4_endDay_42 (by decide) ?_
    exact ih_3 _ _ _ hH_46 hS_47 (lv_sub hl_48 [2, 0] rfl)
def rmC_pass : Room := { frames := 7, cells := 1, slots := 6, locals := 118 }
set_option maxHeartbeats 1000000 in
set_option maxRecDepth 100000 in
theorem cC_pass (l : Launch) (hst : l.stackTraces = false) (D : va_G) (cA : Nat → ClassId) (A : Nat → Prop) (g : Nat → Nat) (ad : zk_K → Nat) (nc nt dy : Nat) (mo : Int64) (I : zIA) (L : zLA) (days : Int32) (hnc : nc ≤ 12) (hdy : dy ≤ 7200) : zX l yX4_pass wsX4_pass rmC_pass D (zt cA) A g [.ref (ad (0, 0, 0)), .int days] (cw cA (g 0) ad 6 nc nc 6 nt dy mo I L) (zQi (fun r w' => ∃ j, 1 ≤ j ∧ j ≤ 400 ∧ days = nI j ∧ dy + j ≤ 7200 ∧ nI (dy + j) = r ∧ cw cA (g 0) ad 6 nc nc 6 nt (dy + j) ((epN nc dy I mo L j).2.1) I ((epN nc dy I mo L j).2.2) = w')) (fun E w' => cw cA (g 0) ad 6 nc nc 6 nt dy mo I L = w' ∧ ((¬ zR days 1 400 ∧ E = xA) ∨ (∃ j, 1 ≤ j ∧ j ≤ 400 ∧ days = nI j ∧ 7200 < dy + j ∧ E = xS))) := by
  refine zX_of (cc := cX4_pass) (maxL := 3) (ret := (some .int)) (own := RX4) (by decide +kernel) rfl (Nat.le_of_ble_eq_true rfl) rfl ?_
  intro p e s m below meth c C hr hnm hex H locs ls hH hS hl
  obtain ⟨⟨hx, hb, hml, hown, hts⟩, hG, hlk⟩ := id C
  have hinX4 : ∀ w ∈ wsX40, w ∈ wsX4_pass := by decide +kernel
  have hl : lv_has ls 3 [(0, .ref (ad (0, 0, 0))), (1, .int days)] := hl
  refine lv_iload_n hx hb dX4_pass_0 rfl (lv_at hl 1 rfl) ?_
  refine lv_iconst (v := 1) hx hb dX4_pass_1 (by decide) ?_
  refine lv_sipush (v := 400) hx hb dX4_pass_2 (by decide) ?_
  by_cases hz_1 : zR days 1 400
  · refine zk_cv (zk_rS (As := [.int days, .int 1, .int 400]) (rest := []) (n := 3) C (cC_range1 l D cA A g (cw cA (g 0) ad 6 nc nc 6 nt dy mo I L) days 1 400 hz_1) hH hS gX4_pass_X4_checkRange rfl rfl (by decide +kernel) ⟨Nat.le_of_ble_eq_true rfl, Nat.le_of_ble_eq_true rfl⟩ hl rfl (Nat.le_of_ble_eq_true rfl) dX4_pass_5 ⟨Nat.le_of_ble_eq_true rfl, Nat.le_of_ble_eq_true rfl⟩) hS (fun w_ H locs hP hH_2 hS_3 => ?_)
    subst hP
    obtain ⟨dj, hd1, hd2, rfl⟩ := zR_nat (a := 1) (b := 400) (n := 1) (m := 400) (by decide) hz_1 rfl rfl
    refine lv_aload_n hx hb dX4_pass_8 rfl (lv_at hl 0 rfl) ?_
    refine zr_getA (ref := RX4) C hinX4 (ci := 5) rfl hH_2 (0, 0, 0) rfl rfl 4 (by decide) (by decide +kernel) (fun _ h => h) rfl dX4_pass_9 ?_ rfl
    refine lv_iload_n hx hb dX4_pass_12 rfl (lv_at hl 1 rfl) ?_
    refine lv_iadd hx hb dX4_pass_13 ?_
    refine W.eq (g2 := F0 m 14 ls [.int (nI (dy + dj))]) (by rw [show ((nI dy) + (nI dj) : Int32) = nI (dy + dj) from (zi_add rfl rfl)]) ?_
    refine lv_sipush (v := 7200) hx hb dX4_pass_14 (by decide) ?_
    refine lv_icmp_gt (tgt := 24) hx hb dX4_pass_17 (by decide) (fun c_4 => ?_) (fun c_4 => ?_)
    · have hgt : 7200 < dy + dj := Nat.lt_of_not_le (fun z => absurd c_4 (Int32.not_lt.mpr ((nI_leI (by omega) (by decide)).mpr z)))
      refine lv_iconst (v := 0) hx hb dX4_pass_24 (by decide) ?_
      exact zx_c (zx_rS (As := [.int 0]) (rest := []) (n := 1) C (cC_possible0 l hst D cA A g (cw cA (g 0) ad 6 nc nc 6 nt dy mo I L)) hH_2 hS_3 gX4_pass_X4_checkPossible rfl rfl (by decide +kernel) ⟨Nat.le_of_ble_eq_true rfl, Nat.le_of_ble_eq_true rfl⟩ hl rfl (Nat.le_of_ble_eq_true rfl) dX4_pass_25 ⟨Nat.le_of_ble_eq_true rfl, Nat.le_of_ble_eq_true rfl⟩) hS_3 (zx_go C hex (fun E w' h => ⟨h.2, Or.inr ⟨dj, hd1, hd2, rfl, hgt, h.1⟩⟩) (Nat.le_of_ble_eq_true rfl) (Nat.le_of_ble_eq_true rfl)) (fun v w' H1 l1 hP => hP.elim)
    · have hle : dy + dj ≤ 7200 := (nI_leI (by omega) (by decide)).mp (Int32.not_lt.mp c_4)
      refine lv_iconst (v := 1) hx hb dX4_pass_20 (by decide) ?_
      refine lv_goto (tgt := 25) hx hb dX4_pass_21 (by decide) ?_
      refine zk_cv (zk_rS (As := [.int 1]) (rest := []) (n := 1) C (cC_possible1 l D cA A g (cw cA (g 0) ad 6 nc nc 6 nt dy mo I L)) hH_2 hS_3 gX4_pass_X4_checkPossible rfl rfl (by decide +kernel) ⟨Nat.le_of_ble_eq_true rfl, Nat.le_of_ble_eq_true rfl⟩ hl rfl (Nat.le_of_ble_eq_true rfl) dX4_pass_25 ⟨Nat.le_of_ble_eq_true rfl, Nat.le_of_ble_eq_true rfl⟩) hS_3 (fun w_ H locs hP hH_5 hS_6 => ?_)
      subst hP
      refine lv_iconst (v := 0) hx hb dX4_pass_28 (by decide) ?_
      refine lv_istore_n (lv' := [(2, .int 0), (0, .ref (ad (0, 0, 0))), (1, .int (nI dj))]) hx hb dX4_pass_29 rfl hl (by decide) rfl (fun ls hl_7 => ?_)
      refine z_at (n := dj) (P := fun i_8 => zL p l e rmC_pass s m _ below meth c 3 D A _ (cw cA (g 0) ad 6 nc nc 6 nt ((epN nc dy I mo L i_8).1) ((epN nc dy I mo L i_8).2.1) I ((epN nc dy I mo L i_8).2.2)) 0 0 30 [(0, .ref (ad (0, 0, 0))), (1, .int (nI dj)), (2, .int (nI i_8))] []) 0 (Nat.zero_le _) (fun h => h _ _ _ hH_5 hS_6 (lv_sub hl_7 [1, 2, 0] rfl)) ?_ ?_
      · intro H locs ls hH_10 hS_11 hl_12
        refine lv_iload_n hx hb dX4_pass_30 rfl (lv_at hl_12 2 rfl) ?_
        refine lv_iload_n hx hb dX4_pass_31 rfl (lv_at hl_12 1 rfl) ?_
        refine lv_icmp_ge (tgt := 45) hx hb dX4_pass_32 (by decide) (fun c_13 => ?_) (fun c_13 => absurd (Int32.le_refl _) c_13)
        refine lv_aload_n hx hb dX4_pass_45 rfl (lv_at hl_12 0 rfl) ?_
        refine zr_getA (ref := RX4) C hinX4 (ci := 5) rfl hH_10 (0, 0, 0) rfl rfl 4 (by decide) (by decide +kernel) (fun _ h => h) rfl dX4_pass_46 ?_ rfl
        refine vx_ret (zr_iret C hr ?_ hH_10 hS_11 (Nat.le_of_ble_eq_true rfl) (Nat.le_of_ble_eq_true rfl) dX4_pass_49)
        exact ⟨dj, hd1, hd2, rfl, hle, by rw [epN_dy], by rw [← epN_dy (nc := nc) (I := I) (mo := mo) (L := L) dj]⟩
      · intro i_8 hi_8 ih_9 H locs ls hH_14 hS_15 hl_16
        refine lv_iload_n hx hb dX4_pass_30 rfl (lv_at hl_16 2 rfl) ?_
        refine lv_iload_n hx hb dX4_pass_31 rfl (lv_at hl_16 1 rfl) ?_
        refine lv_icmp_ge (tgt := 45) hx hb dX4_pass_32 (by decide) (fun c_17 => absurd c_17 (nI_ge hi_8 (by first | decide | omega))) (fun c_17 => ?_)
        have hdk : (epN nc dy I mo L i_8).1 < 7200 := by rw [epN_dy]; show dy + i_8 < 7200; omega
        refine lv_aload_n hx hb dX4_pass_35 rfl (lv_at hl_16 0 rfl) ?_
        refine zk_cv (zk_rV (As := []) (rest := []) (n := 0) (k := (0, 0, 0)) C (cC_endDay l D cA A g ad nc nt ((epN nc dy I mo L i_8).1) ((epN nc dy I mo L i_8).2.1) I ((epN nc dy I mo L i_8).2.2) hnc hdk) hH_14 hS_15 rfl rfl rfl gX4_pass_X4_endDay rfl rfl (by decide +kernel) ⟨Nat.le_of_ble_eq_true rfl, Nat.le_of_ble_eq_true rfl⟩ hl_16 rfl (Nat.le_of_ble_eq_true rfl) dX4_pass_36 ⟨Nat.le_of_ble_eq_true rfl, Nat.le_of_ble_eq_true rfl⟩) hS_15 (fun w_19 H locs hP hH_20 hS_21 => ?_)
        subst hP
        refine lv_iinc (v := nI (i_8 + 1)) (lv' := [(2, .int (nI (i_8 + 1))), (0, .ref (ad (0, 0, 0))), (1, .int (nI dj))]) hx hb dX4_pass_39 hl_16 (k := 2) rfl (nI_1 i_8) (by decide) rfl (fun ls hl_22 => ?_)
        refine lv_goto (tgt := 30) hx hb dX4_pass_42 (by decide) ?_
        exact ih_9 _ _ _ hH_20 hS_21 (lv_sub hl_22 [1, 2, 0] rfl)
  · exact zx_c (zx_rS (As := [.int days, .int 1, .int 400]) (rest := []) (n := 3) C (cC_range0 l hst D cA A g (cw cA (g 0) ad 6 nc nc 6 nt dy mo I L) days 1 400 hz_1) hH hS gX4_pass_X4_checkRange rfl rfl (by decide +kernel) ⟨Nat.le_of_ble_eq_true rfl, Nat.le_of_ble_eq_true rfl⟩ hl rfl (Nat.le_of_ble_eq_true rfl) dX4_pass_5 ⟨Nat.le_of_ble_eq_true rfl, Nat.le_of_ble_eq_true rfl⟩) hS (zx_go C hex (fun E w' h => ⟨h.2, Or.inl ⟨hz_1, h.1⟩⟩) (Nat.le_of_ble_eq_true rfl) (Nat.le_of_ble_eq_true rfl)) (fun v w' H1 l1 hP => hP.elim)
