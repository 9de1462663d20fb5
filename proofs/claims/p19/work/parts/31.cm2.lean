def rmC_holdingAt : Room := { frames := 8, cells := 2, slots := 12, locals := 139 }
set_option maxHeartbeats 1000000 in
set_option maxRecDepth 100000 in
theorem cC_holdingAt (l : Launch) (hst : l.stackTraces = false) (D : va_G) (cA : Nat → ClassId) (A : Nat → Prop) (g : Nat → Nat) (ad : zk_K → Nat) (nc nt dy : Nat) (mo : Int64) (I : zIA) (L : zLA) (cx f : Int32) (hnc : nc ≤ 12) : zX l yX4_holdingAt wsX4_holdingAt rmC_holdingAt D (zt cA) A g [.ref (ad (0, 0, 0)), .int cx, .int f] (cw cA (g 0) ad 6 nc nc 6 nt dy mo I L) (zQr (fun r w' => ∃ j k, j < nc ∧ cx = nI j ∧ k < 6 ∧ f = nI k ∧ ad (13, j, k) = r ∧ cw cA (g 0) ad 6 nc nc 6 nt dy mo I L = w')) (fun E w' => E = xI ∧ ¬ (zIn cx nc ∧ zIn f 6) ∧ cw cA (g 0) ad 6 nc nc 6 nt dy mo I L = w') := by
  refine zX_of (cc := cX4_holdingAt) (maxL := 4) (ret := (some (.object "SavingsHall$Holding"))) (own := RX4) (by decide +kernel) rfl (Nat.le_of_ble_eq_true rfl) rfl ?_
  intro p e s m below meth c C hr hnm hex H locs ls hH hS hl
  obtain ⟨⟨hx, hb, hml, hown, hts⟩, hG, hlk⟩ := id C
  have hinX0 : ∀ w ∈ wsX00, w ∈ wsX4_holdingAt := by decide +kernel
  have hl : lv_has ls 4 [(0, .ref (ad (0, 0, 0))), (1, .int cx), (2, .int f)] := hl
  refine lv_aload_n hx hb dX4_holdingAt_0 rfl (lv_at hl 0 rfl) ?_
  refine lv_iload_n hx hb dX4_holdingAt_1 rfl (lv_at hl 1 rfl) ?_
  refine zx_cr (zx_rV (As := [.int cx]) (rest := []) (n := 1) (k := (0, 0, 0)) C (cC_clientAt l hst D cA A g ad nc nt dy mo I L cx hnc) hH hS rfl rfl rfl gX4_holdingAt_X4_clientAt rfl rfl (by decide +kernel) ⟨Nat.le_of_ble_eq_true rfl, Nat.le_of_ble_eq_true rfl⟩ hl rfl (Nat.le_of_ble_eq_true rfl) dX4_holdingAt_2 ⟨Nat.le_of_ble_eq_true rfl, Nat.le_of_ble_eq_true rfl⟩) hS (zx_go C hex (fun E w' h => ⟨h.1, fun z => h.2.1 z.1, h.2.2⟩) (Nat.le_of_ble_eq_true rfl) (Nat.le_of_ble_eq_true rfl)) (fun r_1 w_2 H locs hP hH_3 hS_4 => ?_)
  obtain ⟨cxj, hcxj, rfl, rfl, rfl⟩ := hP
  refine lv_astore_n (lv' := [(3, .ref (ad (8, cxj, 0))), (0, .ref (ad (0, 0, 0))), (1, .int (nI cxj)), (2, .int f)]) hx hb dX4_holdingAt_5 rfl hl (by decide) rfl (fun ls hl_5 => ?_)
  refine lv_iload_n hx hb dX4_holdingAt_6 rfl (lv_at hl_5 3 rfl) ?_
  refine lv_if_lt (tgt := 25) hx hb dX4_holdingAt_7 (by decide) (fun c_6 => ?_) (fun c_6 => ?_)
  · refine lv_iconst (v := 0) hx hb dX4_holdingAt_25 (by decide) ?_
    exact zx_c (zx_rS (As := [.int 0]) (rest := []) (n := 1) C (cC_exists0 l hst D cA A g (cw cA (g 0) ad 6 nc nc 6 nt dy mo I L)) hH_3 hS_4 gX4_holdingAt_X4_checkExists rfl rfl (by decide +kernel) ⟨Nat.le_of_ble_eq_true rfl, Nat.le_of_ble_eq_true rfl⟩ hl_5 rfl (Nat.le_of_ble_eq_true rfl) dX4_holdingAt_26 ⟨Nat.le_of_ble_eq_true rfl, Nat.le_of_ble_eq_true rfl⟩) hS_4 (zx_go C hex (fun E w' h => ⟨h.1, fun z => zIn_o1 (by decide) c_6 z.2, h.2⟩) (Nat.le_of_ble_eq_true rfl) (Nat.le_of_ble_eq_true rfl)) (fun v w' H1 l1 hP => hP.elim)
  · refine lv_iload_n hx hb dX4_holdingAt_10 rfl (lv_at hl_5 3 rfl) ?_
    refine lv_aload_n hx hb dX4_holdingAt_11 rfl (lv_at hl_5 0 rfl) ?_
    refine zr_getA (ref := RX0) C hinX0 (ci := 1) rfl hH_3 (8, cxj, 0) (cl_8 (by omega)) rfl 1 (by decide) (by decide +kernel) (fun _ h => h) rfl dX4_holdingAt_12 ?_ rfl
    refine zk_ci (zk_rV (As := []) (rest := [.int f]) (n := 0) (k := (9, cxj, 0)) C (cC_size l D cA A g (cw cA (g 0) ad 6 nc nc 6 nt dy mo I L) (9, cxj, 0) (10, cxj, 0) 6 (g0 := g 0) (cl_9 (by omega)) cl_e9) hH_3 hS_4 (cl_9 (by omega)) rfl rfl gX4_holdingAt_Jx4a65c_size_8abf5 rfl rfl (by decide +kernel) ⟨Nat.le_of_ble_eq_true rfl, Nat.le_of_ble_eq_true rfl⟩ hl_5 rfl (Nat.le_of_ble_eq_true rfl) dX4_holdingAt_15 ⟨Nat.le_of_ble_eq_true rfl, Nat.le_of_ble_eq_true rfl⟩) hS_4 (fun r_ w_ H locs hP hH_7 hS_8 => ?_)
    obtain ⟨rfl, rfl⟩ := hP
    refine lv_icmp_ge (tgt := 25) hx hb dX4_holdingAt_18 (by decide) (fun c_9 => ?_) (fun c_9 => ?_)
    · refine lv_iconst (v := 0) hx hb dX4_holdingAt_25 (by decide) ?_
      exact zx_c (zx_rS (As := [.int 0]) (rest := []) (n := 1) C (cC_exists0 l hst D cA A g (cw cA (g 0) ad 6 nc nc 6 nt dy mo I L)) hH_7 hS_8 gX4_holdingAt_X4_checkExists rfl rfl (by decide +kernel) ⟨Nat.le_of_ble_eq_true rfl, Nat.le_of_ble_eq_true rfl⟩ hl_5 rfl (Nat.le_of_ble_eq_true rfl) dX4_holdingAt_26 ⟨Nat.le_of_ble_eq_true rfl, Nat.le_of_ble_eq_true rfl⟩) hS_8 (zx_go C hex (fun E w' h => ⟨h.1, fun z => zIn_o2 (by decide) c_9 z.2, h.2⟩) (Nat.le_of_ble_eq_true rfl) (Nat.le_of_ble_eq_true rfl)) (fun v w' H1 l1 hP => hP.elim)
    · refine lv_iconst (v := 1) hx hb dX4_holdingAt_21 (by decide) ?_
      refine lv_goto (tgt := 26) hx hb dX4_holdingAt_22 (by decide) ?_
      refine zk_cv (zk_rS (As := [.int 1]) (rest := []) (n := 1) C (cC_exists1 l D cA A g (cw cA (g 0) ad 6 nc nc 6 nt dy mo I L)) hH_7 hS_8 gX4_holdingAt_X4_checkExists rfl rfl (by decide +kernel) ⟨Nat.le_of_ble_eq_true rfl, Nat.le_of_ble_eq_true rfl⟩ hl_5 rfl (Nat.le_of_ble_eq_true rfl) dX4_holdingAt_26 ⟨Nat.le_of_ble_eq_true rfl, Nat.le_of_ble_eq_true rfl⟩) hS_8 (fun w_ H locs hP hH_10 hS_11 => ?_)
      subst hP
      obtain ⟨fj, hfj, rfl⟩ : zIn f 6 := zIn_b c_6 c_9
      refine lv_aload_n hx hb dX4_holdingAt_29 rfl (lv_at hl_5 0 rfl) ?_
      refine zr_getA (ref := RX0) C hinX0 (ci := 1) rfl hH_10 (8, cxj, 0) (cl_8 (by omega)) rfl 1 (by decide) (by decide +kernel) (fun _ h => h) rfl dX4_holdingAt_30 ?_ rfl
      refine lv_iload_n hx hb dX4_holdingAt_33 rfl (lv_at hl_5 3 rfl) ?_
      refine zk_cr (zk_rV (As := [.int (nI fj)]) (rest := []) (n := 1) (k := (9, cxj, 0)) C (cC_get l D cA A g (cw cA (g 0) ad 6 nc nc 6 nt dy mo I L) (9, cxj, 0) (10, cxj, 0) (fun j => (13, cxj, j)) 6 fj (g0 := g 0) (cl_9 (by omega)) cl_e9 (cl_10 (by omega)) cl_e10 (by omega) (by omega)) hH_10 hS_11 (cl_9 (by omega)) rfl rfl gX4_holdingAt_Jx4a65c_get_915e3 rfl rfl (by decide +kernel) ⟨Nat.le_of_ble_eq_true rfl, Nat.le_of_ble_eq_true rfl⟩ hl_5 rfl (Nat.le_of_ble_eq_true rfl) dX4_holdingAt_34 ⟨Nat.le_of_ble_eq_true rfl, Nat.le_of_ble_eq_true rfl⟩) hS_11 (fun r_ w_ H locs hP hH_12 hS_13 => ?_)
      obtain ⟨rfl, rfl⟩ := hP
      refine W.eq (g2 := F0 m 37 ls [.ref (ad (13, cxj, fj))]) rfl ?_
      refine zr_castC C (by decide +kernel) (ci := 3) rfl hH_12 (13, cxj, fj) (cl_13 (by omega) (by omega)) rfl rfl dX4_holdingAt_37 ?_
      refine vx_ret (zr_aret C hr (Or.inl ⟨_, rfl⟩) ?_ hH_12 hS_13 (Nat.le_of_ble_eq_true rfl) (Nat.le_of_ble_eq_true rfl) dX4_holdingAt_40)
      exact ⟨cxj, fj, hcxj, rfl, hfj, rfl, rfl, rfl⟩
def rmC_hundredthsTogether : Room := { frames := 3, cells := 0, slots := 0, locals := 64 }
set_option maxHeartbeats 1000000 in
set_option maxRecDepth 100000 in
theorem cC_hundredthsTogether (l : Launch) (D : va_G) (cA : Nat → ClassId) (A : Nat → Prop) (g : Nat → Nat) (ad : zk_K → Nat) (nc nt dy : Nat) (mo : Int64) (I : zIA) (L : zLA) (cc : Nat) (hc : cc < nc) : zM l yX4_hundredthsTogether wsX4_hundredthsTogether rmC_hundredthsTogether D (zt cA) A g [.ref (ad (8, cc, 0))] (cw cA (g 0) ad 6 nc nc 6 nt dy mo I L) (zQi (fun r w' => hunT I cc 6 = r ∧ cw cA (g 0) ad 6 nc nc 6 nt dy mo I L = w')) := by
  refine zM_of (cc := cX4_hundredthsTogether) (maxL := 3) (ret := (some .int)) (own := RX4) (by decide +kernel) rfl (Nat.le_of_ble_eq_true rfl) rfl ?_
  intro p e s m below meth c C hr hnm H locs ls hH hS hl
  obtain ⟨⟨hx, hb, hml, hown, hts⟩, hG, hlk⟩ := id C
  have hinX0 : ∀ w ∈ wsX00, w ∈ wsX4_hundredthsTogether := by decide +kernel
  have hinX2 : ∀ w ∈ wsX20, w ∈ wsX4_hundredthsTogether := by decide +kernel
  have hl : lv_has ls 3 [(0, .ref (ad (8, cc, 0)))] := hl
  refine lv_iconst (v := 0) hx hb dX4_hundredthsTogether_0 (by decide) ?_
  refine lv_istore_n (lv' := [(1, .int 0), (0, .ref (ad (8, cc, 0)))]) hx hb dX4_hundredthsTogether_1 rfl hl (by decide) rfl (fun ls hl_1 => ?_)
  refine lv_iconst (v := 0) hx hb dX4_hundredthsTogether_2 (by decide) ?_
  refine lv_istore_n (lv' := [(2, .int 0), (1, .int 0), (0, .ref (ad (8, cc, 0)))]) hx hb dX4_hundredthsTogether_3 rfl hl_1 (by decide) rfl (fun ls hl_2 => ?_)
  refine z_at (n := 6) (P := fun i_3 => zL p l e rmC_hundredthsTogether s m _ below meth c 3 D A _ (cw cA (g 0) ad 6 nc nc 6 nt dy mo I L) 0 0 4 [(0, .ref (ad (8, cc, 0))), (1, .int (hunT I cc i_3)), (2, .int (nI i_3))] []) 0 (Nat.zero_le _) (fun h => h _ _ _ hH hS (lv_sub hl_2 [2, 1, 0] rfl)) ?_ ?_
  · intro H locs ls hH_5 hS_6 hl_7
    refine lv_iload_n hx hb dX4_hundredthsTogether_4 rfl (lv_at hl_7 2 rfl) ?_
    refine lv_aload_n hx hb dX4_hundredthsTogether_5 rfl (lv_at hl_7 0 rfl) ?_
    refine zr_getA (ref := RX0) C hinX0 (ci := 1) rfl hH_5 (8, cc, 0) (cl_8 (by omega)) rfl 1 (by decide) (by decide +kernel) (fun _ h => h) rfl dX4_hundredthsTogether_6 ?_ rfl
    refine zk_ci (zk_rV (As := []) (rest := [.int (nI 6)]) (n := 0) (k := (9, cc, 0)) C (cC_size l D cA A g (cw cA (g 0) ad 6 nc nc 6 nt dy mo I L) (9, cc, 0) (10, cc, 0) 6 (g0 := g 0) (cl_9 (by omega)) cl_e9) hH_5 hS_6 (cl_9 (by omega)) rfl rfl gX4_hundredthsTogether_Jx4a65c_size_8abf5 rfl rfl (by decide +kernel) ⟨Nat.le_of_ble_eq_true rfl, Nat.le_of_ble_eq_true rfl⟩ hl_7 rfl (Nat.le_of_ble_eq_true rfl) dX4_hundredthsTogether_9 ⟨Nat.le_of_ble_eq_true rfl, Nat.le_of_ble_eq_true rfl⟩) hS_6 (fun r_ w_ H locs hP hH_8 hS_9 => ?_)
    obtain ⟨rfl, rfl⟩ := hP
    refine lv_icmp_ge (tgt := 38) hx hb dX4_hundredthsTogether_12 (by decide) (fun c_10 => ?_) (fun c_10 => absurd (Int32.le_refl _) c_10)
    refine lv_iload_n hx hb dX4_hundredthsTogether_38 rfl (lv_at hl_7 1 rfl) ?_
    refine zr_iret C hr ?_ hH_8 hS_9 (Nat.le_of_ble_eq_true rfl) (Nat.le_of_ble_eq_true rfl) dX4_hundredthsTogether_39
    exact ⟨rfl, rfl⟩
  · intro i_3 hi_3 ih_4 H locs ls hH_11 hS_12 hl_13
    refine lv_iload_n hx hb dX4_hundredthsTogether_4 rfl (lv_at hl_13 2 rfl) ?_
    refine lv_aload_n hx hb dX4_hundredthsTogether_5 rfl (lv_at hl_13 0 rfl) ?_
    refine zr_getA (ref := RX0) C hinX0 (ci := 1) rfl hH_11 (8, cc, 0) (cl_8 (by omega)) rfl 1 (by decide) (by decide +kernel) (fun _ h => h) rfl dX4_hundredthsTogether_6 ?_ rfl
    refine zk_ci (zk_rV (As := []) (rest := [.int (nI i_3)]) (n := 0) (k := (9, cc, 0)) C (cC_size l D cA A g (cw cA (g 0) ad 6 nc nc 6 nt dy mo I L) (9, cc, 0) (10, cc, 0) 6 (g0 := g 0) (cl_9 (by omega)) cl_e9) hH_11 hS_12 (cl_9 (by omega)) rfl rfl gX4_hundredthsTogether_Jx4a65c_size_8abf5 rfl rfl (by decide +kernel) ⟨Nat.le_of_ble_eq_true rfl, Nat.le_of_ble_eq_true rfl⟩ hl_13 rfl (Nat.le_of_ble_eq_true rfl) dX4_hundredthsTogether_9 ⟨Nat.le_of_ble_eq_true rfl, Nat.le_of_ble_eq_true rfl⟩) hS_12 (fun r_ w_ H locs hP hH_14 hS_15 => ?_)
    obtain ⟨rfl, rfl⟩ := hP
    refine lv_icmp_ge (tgt := 38) hx hb dX4_hundredthsTogether_12 (by decide) (fun c_16 => absurd c_16 (nI_ge hi_3 (by first | decide | omega))) (fun c_16 => ?_)
    refine lv_iload_n hx hb dX4_hundredthsTogether_15 rfl (lv_at hl_13 1 rfl) ?_
    refine lv_aload_n hx hb dX4_hundredthsTogether_16 rfl (lv_at hl_13 0 rfl) ?_
    refine zr_getA (ref := RX0) C hinX0 (ci := 1) rfl hH_14 (8, cc, 0) (cl_8 (by omega)) rfl 1 (by decide) (by decide +kernel) (fun _ h => h) rfl dX4_hundredthsTogether_17 ?_ rfl
    refine lv_iload_n hx hb dX4_hundredthsTogether_20 rfl (lv_at hl_13 2 rfl) ?_
    refine zk_cr (zk_rV (As := [.int (nI i_3)]) (rest := [.int (hunT I cc i_3)]) (n := 1) (k := (9, cc, 0)) C (cC_get l D cA A g (cw cA (g 0) ad 6 nc nc 6 nt dy mo I L) (9, cc, 0) (10, cc, 0) (fun j => (13, cc, j)) 6 i_3 (g0 := g 0) (cl_9 (by omega)) cl_e9 (cl_10 (by omega)) cl_e10 (by omega) (by omega)) hH_14 hS_15 (cl_9 (by omega)) rfl rfl gX4_hundredthsTogether_Jx4a65c_get_915e3 rfl rfl (by decide +kernel) ⟨Nat.le_of_ble_eq_true rfl, Nat.le_of_ble_eq_true rfl⟩ hl_13 rfl (Nat.le_of_ble_eq_true rfl) dX4_hundredthsTogether_21 ⟨Nat.le_of_ble_eq_true rfl, Nat.le_of_ble_eq_true rfl⟩) hS_15 (fun r_ w_ H locs hP hH_17 hS_18 => ?_)
    obtain ⟨rfl, rfl⟩ := hP
    refine W.eq (g2 := F0 m 24 ls [.ref (ad (13, cc, i_3)), .int (hunT I cc i_3)]) rfl ?_
    refine zr_castC C (by decide +kernel) (ci := 3) rfl hH_17 (13, cc, i_3) (cl_13 (by omega) (by omega)) rfl rfl dX4_hundredthsTogether_24 ?_
    refine zr_getA (ref := RX2) C hinX2 (ci := 3) rfl hH_17 (13, cc, i_3) (cl_13 (by omega) (by omega)) rfl 3 (by decide) (by decide +kernel) (fun _ h => h) rfl dX4_hundredthsTogether_27 ?_ rfl
    refine lv_iadd hx hb dX4_hundredthsTogether_30 ?_
    refine lv_istore_n (lv' := [(1, .int ((hunT I cc i_3) + (I 7 (6 * cc + i_3)))), (0, .ref (ad (8, cc, 0))), (2, .int (nI i_3))]) hx hb dX4_hundredthsTogether_31 rfl hl_13 (by decide) rfl (fun ls hl_19 => ?_)
    refine lv_iinc (v := nI (i_3 + 1)) (lv' := [(2, .int (nI (i_3 + 1))), (1, .int ((hunT I cc i_3) + (I 7 (6 * cc + i_3)))), (0, .ref (ad (8, cc, 0)))]) hx hb dX4_hundredthsTogether_32 hl_19 (k := 2) rfl (nI_1 i_3) (by decide) rfl (fun ls hl_20 => ?_)
    refine lv_goto (tgt := 4) hx hb dX4_hundredthsTogether_35 (by decide) ?_
    exact ih_4 _ _ _ hH_17 hS_18 (lv_sub hl_20 [2, 1, 0] rfl)
def rmC_tradeUnits : Room := { frames := 0, cells := 0, slots := 0, locals := 0 }
set_option maxHeartbeats 1000000 in
set_option maxRecDepth 100000 in
theorem cC_tradeUnits (l : Launch) (D : va_G) (cA : Nat → ClassId) (A : Nat → Prop) (g : Nat → Nat) (ad : zk_K → Nat) (nc nt dy : Nat) (mo : Int64) (I : zIA) (L : zLA) (f : Nat) (u : Int64) (hf : f < 6) : zM l yX4_tradeUnits wsX4_tradeUnits rmC_tradeUnits D (zt cA) A g [.ref (ad (0, 0, 0)), .ref (ad (7, f, 0)), .long u] (cw cA (g 0) ad 6 nc nc 6 nt dy mo I L) (zQv (fun w' => cw cA (g 0) ad 6 nc nc 6 nt dy (mo - u * Int32.toInt64 (I 1 f)) I (tuL L f u) = w')) := by
  refine zM_of (cc := cX4_tradeUnits) (maxL := 4) (ret := none) (own := RX4) (by decide +kernel) rfl (Nat.le_of_ble_eq_true rfl) rfl ?_
  intro p e s m below meth c C hr hnm H locs ls hH hS hl
  obtain ⟨⟨hx, hb, hml, hown, hts⟩, hG, hlk⟩ := id C
  have hinX1 : ∀ w ∈ wsX10, w ∈ wsX4_tradeUnits := by decide +kernel
  have hinX4 : ∀ w ∈ wsX40, w ∈ wsX4_tradeUnits := by decide +kernel
  have hl : lv_has ls 4 [(0, .ref (ad (0, 0, 0))), (1, .ref (ad (7, f, 0))), (2, .long u)] := hl
  refine lv_aload_n hx hb dX4_tradeUnits_0 rfl (lv_at hl 1 rfl) ?_
  refine lv_dup hx hb dX4_tradeUnits_1 rfl ?_
  refine zr_getA (ref := RX1) C hinX1 (ci := 2) rfl hH (7, f, 0) (cl_7 (by omega)) rfl 2 (by decide) (by decide +kernel) (fun _ h => h) rfl dX4_tradeUnits_2 ?_ rfl
  refine lv_lload_n hx hb dX4_tradeUnits_5 rfl (lv_at hl 2 rfl) ?_
  refine lv_ladd hx hb dX4_tradeUnits_6 ?_
  refine zr_putA (ref := RX1) C hinX1 (ci := 2) rfl tyX1 tyX1_ok nmX1 hH hS (7, f, 0) (cl_7 (by omega)) rfl 2 (by decide) (by decide +kernel) (fun _ h => h) rfl rfl rfl (show 2 < 4 by decide) dX4_tradeUnits_7 (cw cA (g 0) ad 6 nc nc 6 nt dy mo I (up2 L 2 f ((L 2 f) + u))) (cu_units _ _) (fun H locs hH_1 hS_2 => ?_) rfl
  refine lv_aload_n hx hb dX4_tradeUnits_10 rfl (lv_at hl 1 rfl) ?_
  refine lv_dup hx hb dX4_tradeUnits_11 rfl ?_
  refine zr_getA (ref := RX1) C hinX1 (ci := 2) rfl hH_1 (7, f, 0) (cl_7 (by omega)) rfl 3 (by decide) (by decide +kernel) (fun _ h => h) rfl dX4_tradeUnits_12 ?_ rfl
  rw [up2_ne (show (3 : Nat) ≠ 2 by decide)]
  refine lv_lload_n hx hb dX4_tradeUnits_15 rfl (lv_at hl 2 rfl) ?_
  refine lv_ldc2 (v := 1000) hx hb hown (hts (.constantLong RX4 234 1000) (by decide +kernel)) dX4_tradeUnits_16 ?_
  refine lv_lmul hx hb dX4_tradeUnits_19 ?_
  refine lv_ladd hx hb dX4_tradeUnits_20 ?_
  refine zr_putA (ref := RX1) C hinX1 (ci := 2) rfl tyX1 tyX1_ok nmX1 hH_1 hS_2 (7, f, 0) (cl_7 (by omega)) rfl 3 (by decide) (by decide +kernel) (fun _ h => h) rfl rfl rfl (show 3 < 4 by decide) dX4_tradeUnits_21 (cw cA (g 0) ad 6 nc nc 6 nt dy mo I (up2 (up2 L 2 f ((L 2 f) + u)) 3 f ((L 3 f) + (u * 1000)))) (cu_stock _ _) (fun H locs hH_3 hS_4 => ?_) rfl
  refine lv_aload_n hx hb dX4_tradeUnits_24 rfl (lv_at hl 0 rfl) ?_
  refine lv_dup hx hb dX4_tradeUnits_25 rfl ?_
  refine zr_getA (ref := RX4) C hinX4 (ci := 5) rfl hH_3 (0, 0, 0) rfl rfl 3 (by decide) (by decide +kernel) (fun _ h => h) rfl dX4_tradeUnits_26 ?_ rfl
  refine lv_lload_n hx hb dX4_tradeUnits_29 rfl (lv_at hl 2 rfl) ?_
  refine lv_aload_n hx hb dX4_tradeUnits_30 rfl (lv_at hl 1 rfl) ?_
  refine zr_getA (ref := RX1) C hinX1 (ci := 2) rfl hH_3 (7, f, 0) (cl_7 (by omega)) rfl 1 (by decide) (by decide +kernel) (fun _ h => h) rfl dX4_tradeUnits_31 ?_ rfl
  refine lv_i2l (v := Int32.toInt64 (I 1 f)) hx hb dX4_tradeUnits_34 rfl ?_
  refine lv_lmul hx hb dX4_tradeUnits_35 ?_
  refine lv_lsub hx hb dX4_tradeUnits_36 ?_
  refine zr_putA (ref := RX4) C hinX4 (ci := 5) rfl tyX4 tyX4_ok nmX4 hH_3 hS_4 (0, 0, 0) rfl rfl 3 (by decide) (by decide +kernel) (fun _ h => h) rfl rfl rfl (show 3 < 5 by decide) dX4_tradeUnits_37 (cw cA (g 0) ad 6 nc nc 6 nt dy (mo - (u * (Int32.toInt64 (I 1 f)))) I (up2 (up2 L 2 f ((L 2 f) + u)) 3 f ((L 3 f) + (u * 1000)))) (cu_mo _) (fun H locs hH_5 hS_6 => ?_) rfl
  refine zr_vret C hr ?_ hH_5 hS_6 (Nat.le_of_ble_eq_true rfl) (Nat.le_of_ble_eq_true rfl) dX4_tradeUnits_40
  rfl
def rmC_exchange : Room := { frames := 1, cells := 0, slots := 0, locals := 23 }
set_option maxHeartbeats 1000000 in
set_option maxRecDepth 100000 in
theorem cC_exchange (l : Launch) (D : va_G) (cA : Nat → ClassId) (A : Nat → Prop) (g : Nat → Nat) (ad : zk_K → Nat) (nc nt dy : Nat) (mo : Int64) (I : zIA) (L : zLA) (cc f : Nat) (q x : Int64) (hc : cc < nc) (hf : f < 6) : zM l yX4_exchange wsX4_exchange rmC_exchange D (zt cA) A g [.ref (ad (0, 0, 0)), .ref (ad (13, cc, f)), .long q, .long x] (cw cA (g 0) ad 6 nc nc 6 nt dy mo I L) (zQv (fun w' => cw cA (g 0) ad 6 nc nc 6 nt dy (exM I L f q x mo) I (exL L cc f q x) = w')) := by
  refine zM_of (cc := cX4_exchange) (maxL := 7) (ret := none) (own := RX4) (by decide +kernel) rfl (Nat.le_of_ble_eq_true rfl) rfl ?_
  intro p e s m below meth c C hr hnm H locs ls hH hS hl
  obtain ⟨⟨hx, hb, hml, hown, hts⟩, hG, hlk⟩ := id C
  have hinX0 : ∀ w ∈ wsX00, w ∈ wsX4_exchange := by decide +kernel
  have hinX1 : ∀ w ∈ wsX10, w ∈ wsX4_exchange := by decide +kernel
  have hinX2 : ∀ w ∈ wsX20, w ∈ wsX4_exchange := by decide +kernel
  have hinX4 : ∀ w ∈ wsX40, w ∈ wsX4_exchange := by decide +kernel
  have hl : lv_has ls 7 [(0, .ref (ad (0, 0, 0))), (1, .ref (ad (13, cc, f))), (2, .long q), (4, .long x)] := hl
  refine lv_aload_n hx hb dX4_exchange_0 rfl (lv_at hl 1 rfl) ?_
  refine zr_getA (ref := RX2) C hinX2 (ci := 3) rfl hH (13, cc, f) (cl_13 (by omega) (by omega)) rfl 1 (by decide) (by decide +kernel) (fun _ h => h) rfl dX4_exchange_1 ?_ rfl
  refine lv_astore (lv' := [(6, .ref (ad (7, f, 0))), (0, .ref (ad (0, 0, 0))), (1, .ref (ad (13, cc, f))), (2, .long q), (4, .long x)]) hx hb dX4_exchange_4 hl (by decide) rfl (fun ls hl_1 => ?_)
  refine lv_aload_n hx hb dX4_exchange_6 rfl (lv_at hl_1 2 rfl) ?_
  refine zr_getA (ref := RX2) C hinX2 (ci := 3) rfl hH (13, cc, f) (cl_13 (by omega) (by omega)) rfl 0 (by decide) (by decide +kernel) (fun _ h => h) rfl dX4_exchange_7 ?_ rfl
  refine lv_dup hx hb dX4_exchange_10 rfl ?_
  refine zr_getA (ref := RX0) C hinX0 (ci := 1) rfl hH (8, cc, 0) (cl_8 (by omega)) rfl 4 (by decide) (by decide +kernel) (fun _ h => h) rfl dX4_exchange_11 ?_ rfl
  refine lv_lload hx hb dX4_exchange_14 (lv_at hl_1 4 rfl) ?_
  refine lv_lsub hx hb dX4_exchange_16 ?_
  refine zr_putA (ref := RX0) C hinX0 (ci := 1) rfl tyX0 tyX0_ok nmX0 hH hS (8, cc, 0) (cl_8 (by omega)) rfl 4 (by decide) (by decide +kernel) (fun _ h => h) rfl rfl rfl (show 4 < 5 by decide) dX4_exchange_17 (cw cA (g 0) ad 6 nc nc 6 nt dy mo I (up2 L 6 cc ((L 6 cc) - x))) (cu_cash _ _) (fun H locs hH_2 hS_3 => ?_) rfl
  refine lv_aload_n hx hb dX4_exchange_20 rfl (lv_at hl_1 1 rfl) ?_
  refine lv_dup hx hb dX4_exchange_21 rfl ?_
  refine zr_getA (ref := RX4) C hinX4 (ci := 5) rfl hH_2 (0, 0, 0) rfl rfl 3 (by decide) (by decide +kernel) (fun _ h => h) rfl dX4_exchange_22 ?_ rfl
  refine lv_lload hx hb dX4_exchange_25 (lv_at hl_1 4 rfl) ?_
  refine lv_ladd hx hb dX4_exchange_27 ?_
  refine zr_putA (ref := RX4) C hinX4 (ci := 5) rfl tyX4 tyX4_ok nmX4 hH_2 hS_3 (0, 0, 0) rfl rfl 3 (by decide) (by decide +kernel) (fun _ h => h) rfl rfl rfl (show 3 < 5 by decide) dX4_exchange_28 (cw cA (g 0) ad 6 nc nc 6 nt dy (mo + x) I (up2 L 6 cc ((L 6 cc) - x))) (cu_mo _) (fun H locs hH_4 hS_5 => ?_) rfl
  refine lv_aload_n hx hb dX4_exchange_31 rfl (lv_at hl_1 2 rfl) ?_
  refine lv_dup hx hb dX4_exchange_32 rfl ?_
  refine zr_getA (ref := RX2) C hinX2 (ci := 3) rfl hH_4 (13, cc, f) (cl_13 (by omega) (by omega)) rfl 2 (by decide) (by decide +kernel) (fun _ h => h) rfl dX4_exchange_33 ?_ rfl
  rw [up2_ne (show (8 : Nat) ≠ 6 by decide)]
  refine lv_lload_n hx hb dX4_exchange_36 rfl (lv_at hl_1 3 rfl) ?_
  refine lv_ladd hx hb dX4_exchange_37 ?_
  refine zr_putA (ref := RX2) C hinX2 (ci := 3) rfl tyX2 tyX2_ok nmX2 hH_4 hS_5 (13, cc, f) (cl_13 (by omega) (by omega)) rfl 2 (by decide) (by decide +kernel) (fun _ h => h) rfl rfl rfl (show 2 < 4 by decide) dX4_exchange_38 (cw cA (g 0) ad 6 nc nc 6 nt dy (mo + x) I (up2 (up2 L 6 cc ((L 6 cc) - x)) 8 (6 * cc + f) ((L 8 (6 * cc + f)) + q))) (cu_parts _ _ _ (by omega) (Nat.le_refl 6)) (fun H locs hH_6 hS_7 => ?_) rfl
  refine lv_aload hx hb dX4_exchange_41 (lv_at hl_1 0 rfl) ?_
  refine lv_dup hx hb dX4_exchange_43 rfl ?_
  refine zr_getA (ref := RX1) C hinX1 (ci := 2) rfl hH_6 (7, f, 0) (cl_7 (by omega)) rfl 3 (by decide) (by decide +kernel) (fun _ h => h) rfl dX4_exchange_44 ?_ rfl
  rw [up2_ne (show (3 : Nat) ≠ 8 by decide)]
  rw [up2_ne (show (3 : Nat) ≠ 6 by decide)]
  refine lv_lload_n hx hb dX4_exchange_47 rfl (lv_at hl_1 3 rfl) ?_
  refine lv_lsub hx hb dX4_exchange_48 ?_
  refine zr_putA (ref := RX1) C hinX1 (ci := 2) rfl tyX1 tyX1_ok nmX1 hH_6 hS_7 (7, f, 0) (cl_7 (by omega)) rfl 3 (by decide) (by decide +kernel) (fun _ h => h) rfl rfl rfl (show 3 < 4 by decide) dX4_exchange_49 (cw cA (g 0) ad 6 nc nc 6 nt dy (mo + x) I (up2 (up2 (up2 L 6 cc ((L 6 cc) - x)) 8 (6 * cc + f) ((L 8 (6 * cc + f)) + q)) 3 f ((L 3 f) - q))) (cu_stock _ _) (fun H locs hH_8 hS_9 => ?_) rfl
  refine lv_aload hx hb dX4_exchange_52 (lv_at hl_1 0 rfl) ?_
  refine zr_getA (ref := RX1) C hinX1 (ci := 2) rfl hH_8 (7, f, 0) (cl_7 (by omega)) rfl 3 (by decide) (by decide +kernel) (fun _ h => h) rfl dX4_exchange_54 ?_ rfl
  rw [up2_s]
  refine lv_lconst (v := 0) hx hb dX4_exchange_57 (by decide) ?_
  refine zl_cmp_ge (tgt := 81) hx hb dX4_exchange_58 dX4_exchange_59 (by decide) (fun c_10 => ?_) (fun c_10 => ?_)
  · refine zr_vret C hr ?_ hH_8 hS_9 (Nat.le_of_ble_eq_true rfl) (Nat.le_of_ble_eq_true rfl) dX4_exchange_81
    unfold exM exL
    rw [if_neg (by assumption), if_neg (by assumption)]
    rfl
  · refine lv_aload_n hx hb dX4_exchange_62 rfl (lv_at hl_1 1 rfl) ?_
    refine lv_aload hx hb dX4_exchange_63 (lv_at hl_1 0 rfl) ?_
    refine lv_ldc2 (v := 999) hx hb hown (hts (.constantLong RX4 266 999) (by decide +kernel)) dX4_exchange_65 ?_
    refine lv_aload hx hb dX4_exchange_68 (lv_at hl_1 0 rfl) ?_
    refine zr_getA (ref := RX1) C hinX1 (ci := 2) rfl hH_8 (7, f, 0) (cl_7 (by omega)) rfl 3 (by decide) (by decide +kernel) (fun _ h => h) rfl dX4_exchange_70 ?_ rfl
    rw [up2_s]
    refine lv_lsub hx hb dX4_exchange_73 ?_
    refine lv_ldc2 (v := 1000) hx hb hown (hts (.constantLong RX4 234 1000) (by decide +kernel)) dX4_exchange_74 ?_
    refine lv_ldiv hx hb dX4_exchange_77 (by decide) ?_
    refine zk_cv (zk_rV (As := [.ref (ad (7, f, 0)), .long ((999 - ((L 3 f) - q)) / 1000)]) (rest := []) (n := 2) (k := (0, 0, 0)) C (cC_tradeUnits l D cA A g ad nc nt dy (mo + x) I (up2 (up2 (up2 L 6 cc ((L 6 cc) - x)) 8 (6 * cc + f) ((L 8 (6 * cc + f)) + q)) 3 f ((L 3 f) - q)) f ((999 - ((L 3 f) - q)) / 1000) (by omega)) hH_8 hS_9 rfl rfl rfl gX4_exchange_X4_tradeUnits rfl rfl (by decide +kernel) ⟨Nat.le_of_ble_eq_true rfl, Nat.le_of_ble_eq_true rfl⟩ hl_1 rfl (Nat.le_of_ble_eq_true rfl) dX4_exchange_78 ⟨Nat.le_of_ble_eq_true rfl, Nat.le_of_ble_eq_true rfl⟩) hS_9 (fun w_12 H locs hP hH_13 hS_14 => ?_)
    subst hP
    refine zr_vret C hr ?_ hH_13 hS_14 (Nat.le_of_ble_eq_true rfl) (Nat.le_of_ble_eq_true rfl) dX4_exchange_81
    unfold exM exL exU
    rw [if_pos (by assumption), if_pos (by assumption)]
    rfl
def rmC_yearOf : Room := { frames := 0, cells := 0, slots := 0, locals := 0 }
set_option maxHeartbeats 1000000 in
set_option maxRecDepth 100000 in
theorem cC_yearOf (l : Launch) (D : va_G) (cA : Nat → ClassId) (A : Nat → Prop) (g : Nat → Nat) (w : zk_W) (d : Nat) (hd : d < 2 ^ 30) : zM l yX4_yearOf wsX4_yearOf rmC_yearOf D (zt cA) A g [.int (nI d)] (w) (zQi (fun r w' => nI (d / 360) = r ∧ w = w')) := by
  refine zM_of (cc := cX4_yearOf) (maxL := 1) (ret := (some .int)) (own := RX4) (by decide +kernel) rfl (Nat.le_of_ble_eq_true rfl) rfl ?_
  intro p e s m below meth c C hr hnm H locs ls hH hS hl
  obtain ⟨⟨hx, hb, hml, hown, hts⟩, hG, hlk⟩ := id C
  have hl : lv_has ls 1 [(0, .int (nI d))] := hl
  refine lv_iload_n hx hb dX4_yearOf_0 rfl (lv_at hl 0 rfl) ?_
  refine lv_sipush (v := 360) hx hb dX4_yearOf_1 (by decide) ?_
  refine lv_idiv hx hb dX4_yearOf_4 (by decide) ?_
  refine W.eq (g2 := F0 m 5 ls [.int (nI (d / 360))]) (by rw [show ((nI d) / 360 : Int32) = nI (d / 360) from (zi_div rfl (b := 360) rfl (by omega) (by decide) (by decide))]) ?_
  refine zr_iret C hr ?_ hH hS (Nat.le_of_ble_eq_true rfl) (Nat.le_of_ble_eq_true rfl) dX4_yearOf_5
  exact ⟨rfl, rfl⟩
def rmC_addGain : Room := { frames := 0, cells := 0, slots := 0, locals := 0 }
set_option maxHeartbeats 1000000 in
set_option maxRecDepth 100000 in
theorem cC_addGain (l : Launch) (D : va_G) (cA : Nat → ClassId) (A : Nat → Prop) (g : Nat → Nat) (ad : zk_K → Nat) (nc nt dy : Nat) (mo : Int64) (I : zIA) (L : zLA) (cc y : Nat) (x : Int64) (hc : cc < nc) (hy : y < 21) : zM l yX4_addGain wsX4_addGain rmC_addGain D (zt cA) A g [.ref (ad (8, cc, 0)), .int (nI y), .long x] (cw cA (g 0) ad 6 nc nc 6 nt dy mo I L) (zQv (fun w' => cw cA (g 0) ad 6 nc nc 6 nt dy mo I (up2 L 30 (21 * cc + y) (L 30 (21 * cc + y) + x)) = w')) := by
  refine zM_of (cc := cX4_addGain) (maxL := 4) (ret := none) (own := RX4) (by decide +kernel) rfl (Nat.le_of_ble_eq_true rfl) rfl ?_
  intro p e s m below meth c C hr hnm H locs ls hH hS hl
  obtain ⟨⟨hx, hb, hml, hown, hts⟩, hG, hlk⟩ := id C
  have hinX0 : ∀ w ∈ wsX00, w ∈ wsX4_addGain := by decide +kernel
  have hl : lv_has ls 4 [(0, .ref (ad (8, cc, 0))), (1, .int (nI y)), (2, .long x)] := hl
  refine lv_iload_n hx hb dX4_addGain_0 rfl (lv_at hl 1 rfl) ?_
  refine lv_if_lt (tgt := 23) hx hb dX4_addGain_1 (by decide) (fun c_1 => absurd c_1 (nI_pos (by omega))) (fun c_1 => ?_)
  refine lv_iload_n hx hb dX4_addGain_4 rfl (lv_at hl 1 rfl) ?_
  refine lv_aload_n hx hb dX4_addGain_5 rfl (lv_at hl 0 rfl) ?_
  refine zr_getA (ref := RX0) C hinX0 (ci := 1) rfl hH (8, cc, 0) (cl_8 (by omega)) rfl 2 (by decide) (by decide +kernel) (fun _ h => h) rfl dX4_addGain_6 ?_ rfl
  refine zc_yln C hH (k := cc) (by decide) (by omega) rfl dX4_addGain_9 ?_
  refine lv_icmp_ge (tgt := 23) hx hb dX4_addGain_10 (by decide) (fun c_2 => absurd c_2 (nI_ge hy (by decide))) (fun c_2 => ?_)
  refine lv_aload_n hx hb dX4_addGain_13 rfl (lv_at hl 0 rfl) ?_
  refine zr_getA (ref := RX0) C hinX0 (ci := 1) rfl hH (8, cc, 0) (cl_8 (by omega)) rfl 2 (by decide) (by decide +kernel) (fun _ h => h) rfl dX4_addGain_14 ?_ rfl
  refine lv_iload_n hx hb dX4_addGain_17 rfl (lv_at hl 1 rfl) ?_
  refine lv_dup2_11 hx hb dX4_addGain_18 rfl rfl ?_
  refine zc_gld C hH (k := cc) (by omega) (j := y) rfl (by omega) rfl dX4_addGain_19 ?_
  refine lv_lload_n hx hb dX4_addGain_20 rfl (lv_at hl 2 rfl) ?_
  refine lv_ladd hx hb dX4_addGain_21 ?_
  refine zc_gst C hH hS (k := cc) (by omega) (j := y) rfl (by omega) rfl dX4_addGain_22 (fun H locs hH_3 hS_4 => ?_)
  refine zr_vret C hr ?_ hH_3 hS_4 (Nat.le_of_ble_eq_true rfl) (Nat.le_of_ble_eq_true rfl) dX4_addGain_23
  rfl
def rmC_baseOf : Room := { frames := 1, cells := 0, slots := 0, locals := 32 }
set_option maxHeartbeats 1000000 in
set_option maxRecDepth 100000 in
theorem cC_baseOf (l : Launch) (D : va_G) (cA : Nat → ClassId) (A : Nat → Prop) (g : Nat → Nat) (ad : zk_K → Nat) (nc nt dy : Nat) (mo : Int64) (I : zIA) (L : zLA) (cc y : Nat) (hc : cc < nc) (hy : y < 21) : zM l yX4_baseOf wsX4_baseOf rmC_baseOf D (zt cA) A g [.ref (ad (8, cc, 0)), .int (nI y)] (cw cA (g 0) ad 6 nc nc 6 nt dy mo I L) (zQl (fun r w' => bsV L cc y = r ∧ cw cA (g 0) ad 6 nc nc 6 nt dy mo I L = w')) := by
  refine zM_of (cc := cX4_baseOf) (maxL := 5) (ret := (some .long)) (own := RX4) (by decide +kernel) rfl (Nat.le_of_ble_eq_true rfl) rfl ?_
  intro p e s m below meth c C hr hnm H locs ls hH hS hl
  obtain ⟨⟨hx, hb, hml, hown, hts⟩, hG, hlk⟩ := id C
  have hinX0 : ∀ w ∈ wsX00, w ∈ wsX4_baseOf := by decide +kernel
  have hl : lv_has ls 5 [(0, .ref (ad (8, cc, 0))), (1, .int (nI y))] := hl
  refine lv_lconst (v := 0) hx hb dX4_baseOf_0 (by decide) ?_
  refine lv_lstore_n (lv' := [(2, .long 0), (0, .ref (ad (8, cc, 0))), (1, .int (nI y))]) hx hb dX4_baseOf_1 rfl hl (by decide) rfl (fun ls hl_1 => ?_)
  refine lv_iconst (v := 0) hx hb dX4_baseOf_2 (by decide) ?_
  refine lv_istore (lv' := [(4, .int 0), (2, .long 0), (0, .ref (ad (8, cc, 0))), (1, .int (nI y))]) hx hb dX4_baseOf_3 hl_1 (by decide) rfl (fun ls hl_2 => ?_)
  refine z_at (n := (y + 1)) (P := fun i_3 => zL p l e rmC_baseOf s m _ below meth c 5 D A _ (cw cA (g 0) ad 6 nc nc 6 nt dy mo I L) 0 0 5 [(0, .ref (ad (8, cc, 0))), (1, .int (nI y)), (2, .long (bsS L cc i_3)), (4, .int (nI i_3))] []) 0 (Nat.zero_le _) (fun h => h _ _ _ hH hS (lv_sub hl_2 [2, 3, 1, 0] rfl)) ?_ ?_
  · intro H locs ls hH_5 hS_6 hl_7
    refine lv_iload hx hb dX4_baseOf_5 (lv_at hl_7 3 rfl) ?_
    refine lv_iload_n hx hb dX4_baseOf_7 rfl (lv_at hl_7 1 rfl) ?_
    refine lv_icmp_gt (tgt := 41) hx hb dX4_baseOf_8 (by decide) (fun c_8 => ?_) (fun c_8 => absurd (nI_lt (Nat.lt_succ_self y) (by omega)) c_8)
    refine lv_lload_n hx hb dX4_baseOf_41 rfl (lv_at hl_7 2 rfl) ?_
    refine lv_lconst (v := 0) hx hb dX4_baseOf_42 (by decide) ?_
    refine va_mmax_long hx hb (by rw [hml]; exact hl_7.1.symm) hown (hts (.methodLink RX4 294 Lib.MathLoose.max_long.x) (by decide +kernel)) (hts (.static Lib.MathLoose.max_long.x) (by decide +kernel)) (hts (.initialized "java/lang/Math") (by decide +kernel)) (hts (.code Lib.MathLoose.max_long.x Lib.MathLoose.max_long.code 4 (some .long)) (by decide +kernel)) (Nat.le_of_ble_eq_true rfl) (Nat.le_of_ble_eq_true rfl) (Nat.le_of_ble_eq_true rfl) (Nat.le_of_ble_eq_true rfl) dX4_baseOf_43 ?_
    refine zr_lret C hr ?_ hH_5 hS_6 (Nat.le_of_ble_eq_true rfl) (Nat.le_of_ble_eq_true rfl) dX4_baseOf_46
    exact ⟨rfl, rfl⟩
  · intro i_3 hi_3 ih_4 H locs ls hH_9 hS_10 hl_11
    refine lv_iload hx hb dX4_baseOf_5 (lv_at hl_11 3 rfl) ?_
    refine lv_iload_n hx hb dX4_baseOf_7 rfl (lv_at hl_11 1 rfl) ?_
    refine lv_icmp_gt (tgt := 41) hx hb dX4_baseOf_8 (by decide) (fun c_12 => absurd c_12 (nI_nlt (Nat.le_of_lt_succ hi_3) (by omega))) (fun c_12 => ?_)
    refine lv_iload hx hb dX4_baseOf_11 (lv_at hl_11 3 rfl) ?_
    refine lv_aload_n hx hb dX4_baseOf_13 rfl (lv_at hl_11 0 rfl) ?_
    refine zr_getA (ref := RX0) C hinX0 (ci := 1) rfl hH_9 (8, cc, 0) (cl_8 (by omega)) rfl 2 (by decide) (by decide +kernel) (fun _ h => h) rfl dX4_baseOf_14 ?_ rfl
    refine zc_yln C hH_9 (k := cc) (by decide) (by omega) rfl dX4_baseOf_17 ?_
    refine lv_icmp_ge (tgt := 41) hx hb dX4_baseOf_18 (by decide) (fun c_13 => absurd c_13 (nI_ge (by omega) (by decide))) (fun c_13 => ?_)
    refine lv_lload_n hx hb dX4_baseOf_21 rfl (lv_at hl_11 2 rfl) ?_
    refine lv_lconst (v := 0) hx hb dX4_baseOf_22 (by decide) ?_
    refine va_mmin_long hx hb (by rw [hml]; exact hl_11.1.symm) hown (hts (.methodLink RX4 254 Lib.MathLoose.min_long.x) (by decide +kernel)) (hts (.static Lib.MathLoose.min_long.x) (by decide +kernel)) (hts (.initialized "java/lang/Math") (by decide +kernel)) (hts (.code Lib.MathLoose.min_long.x Lib.MathLoose.min_long.code 4 (some .long)) (by decide +kernel)) (Nat.le_of_ble_eq_true rfl) (Nat.le_of_ble_eq_true rfl) (Nat.le_of_ble_eq_true rfl) (Nat.le_of_ble_eq_true rfl) dX4_baseOf_23 ?_
    refine lv_aload_n hx hb dX4_baseOf_26 rfl (lv_at hl_11 0 rfl) ?_
    refine zr_getA (ref := RX0) C hinX0 (ci := 1) rfl hH_9 (8, cc, 0) (cl_8 (by omega)) rfl 2 (by decide) (by decide +kernel) (fun _ h => h) rfl dX4_baseOf_27 ?_ rfl
    refine lv_iload hx hb dX4_baseOf_30 (lv_at hl_11 3 rfl) ?_
    refine zc_gld C hH_9 (k := cc) (by omega) (j := i_3) rfl (by omega) rfl dX4_baseOf_32 ?_
    refine lv_ladd hx hb dX4_baseOf_33 ?_
    refine lv_lstore_n (lv' := [(2, .long ((if 0 < (bsS L cc i_3) then 0 else bsS L cc i_3) + (L 30 (21 * cc + i_3)))), (0, .ref (ad (8, cc, 0))), (1, .int (nI y)), (4, .int (nI i_3))]) hx hb dX4_baseOf_34 rfl hl_11 (by decide) rfl (fun ls hl_14 => ?_)
    refine lv_iinc (v := nI (i_3 + 1)) (lv' := [(4, .int (nI (i_3 + 1))), (2, .long ((if 0 < (bsS L cc i_3) then 0 else bsS L cc i_3) + (L 30 (21 * cc + i_3)))), (0, .ref (ad (8, cc, 0))), (1, .int (nI y))]) hx hb dX4_baseOf_35 hl_14 (k := 3) rfl (nI_1 i_3) (by decide) rfl (fun ls hl_15 => ?_)
    refine lv_goto (tgt := 5) hx hb dX4_baseOf_38 (by decide) ?_
    exact ih_4 _ _ _ hH_9 hS_10 (lv_sub hl_15 [2, 3, 1, 0] rfl)
def rmC_settleTaxes : Room := { frames := 2, cells := 0, slots := 0, locals := 56 }
set_option maxHeartbeats 1000000 in
set_option maxRecDepth 100000 in
theorem cC_settleTaxes (l : Launch) (D : va_G) (cA : Nat → ClassId) (A : Nat → Prop) (g : Nat → Nat) (ad : zk_K → Nat) (nc nt dy : Nat) (mo : Int64) (I : zIA) (L : zLA) (cc : Nat) (hc : cc < nc) (hdy : dy ≤ 7200) : zM l yX4_settleTaxes wsX4_settleTaxes rmC_settleTaxes D (zt cA) A g [.ref (ad (0, 0, 0)), .ref (ad (8, cc, 0))] (cw cA (g 0) ad 6 nc nc 6 nt dy mo I L) (zQl (fun r w' => (stS L cc (dy / 360)).1 = r ∧ cw cA (g 0) ad 6 nc nc 6 nt dy mo I (stL L cc (dy / 360)) = w')) := by
  refine zM_of (cc := cX4_settleTaxes) (maxL := 7) (ret := (some .long)) (own := RX4) (by decide +kernel) rfl (Nat.le_of_ble_eq_true rfl) rfl ?_
  intro p e s m below meth c C hr hnm H locs ls hH hS hl
  obtain ⟨⟨hx, hb, hml, hown, hts⟩, hG, hlk⟩ := id C
  have hinX0 : ∀ w ∈ wsX00, w ∈ wsX4_settleTaxes := by decide +kernel
  have hinX4 : ∀ w ∈ wsX40, w ∈ wsX4_settleTaxes := by decide +kernel
  have hl : lv_has ls 7 [(0, .ref (ad (0, 0, 0))), (1, .ref (ad (8, cc, 0)))] := hl
  refine lv_lconst (v := 0) hx hb dX4_settleTaxes_0 (by decide) ?_
  refine lv_lstore_n (lv' := [(2, .long 0), (0, .ref (ad (0, 0, 0))), (1, .ref (ad (8, cc, 0)))]) hx hb dX4_settleTaxes_1 rfl hl (by decide) rfl (fun ls hl_1 => ?_)
  refine lv_iconst (v := 0) hx hb dX4_settleTaxes_2 (by decide) ?_
  refine lv_istore (lv' := [(4, .int 0), (2, .long 0), (0, .ref (ad (0, 0, 0))), (1, .ref (ad (8, cc, 0)))]) hx hb dX4_settleTaxes_3 hl_1 (by decide) rfl (fun ls hl_2 => ?_)
  refine z_at (n := (dy / 360)) (P := fun i_3 => zL p l e rmC_settleTaxes s m _ below meth c 7 D A _ (cw cA (g 0) ad 6 nc nc 6 nt dy mo I ((stS L cc i_3).2)) 0 0 5 [(0, .ref (ad (0, 0, 0))), (1, .ref (ad (8, cc, 0))), (2, .long ((stS L cc i_3).1)), (4, .int (nI i_3))] []) 0 (Nat.zero_le _) (fun h => h _ _ _ hH hS (lv_sub hl_2 [2, 3, 1, 0] rfl)) ?_ ?_
  · intro H locs ls hH_5 hS_6 hl_7
    refine lv_iload hx hb dX4_settleTaxes_5 (lv_at hl_7 3 rfl) ?_
    refine lv_aload_n hx hb dX4_settleTaxes_7 rfl (lv_at hl_7 0 rfl) ?_
    refine zr_getA (ref := RX4) C hinX4 (ci := 5) rfl hH_5 (0, 0, 0) rfl rfl 4 (by decide) (by decide +kernel) (fun _ h => h) rfl dX4_settleTaxes_8 ?_ rfl
    refine zk_ci (zk_rS (As := [.int (nI dy)]) (rest := [.int (nI (dy / 360))]) (n := 1) C (cC_yearOf l D cA A g (cw cA (g 0) ad 6 nc nc 6 nt dy mo I ((stS L cc (dy / 360)).2)) dy (by omega)) hH_5 hS_6 gX4_settleTaxes_X4_yearOf rfl rfl (by decide +kernel) ⟨Nat.le_of_ble_eq_true rfl, Nat.le_of_ble_eq_true rfl⟩ hl_7 rfl (Nat.le_of_ble_eq_true rfl) dX4_settleTaxes_11 ⟨Nat.le_of_ble_eq_true rfl, Nat.le_of_ble_eq_true rfl⟩) hS_6 (fun r_8 w_9 H locs hP hH_10 hS_11 => ?_)
    obtain ⟨rfl, rfl⟩ := hP
    refine lv_icmp_ge (tgt := 67) hx hb dX4_settleTaxes_14 (by decide) (fun c_12 => ?_) (fun c_12 => absurd (Int32.le_refl _) c_12)
    refine lv_aload_n hx hb dX4_settleTaxes_67 rfl (lv_at hl_7 1 rfl) ?_
    refine lv_dup hx hb dX4_settleTaxes_68 rfl ?_
    refine zr_getA (ref := RX0) C hinX0 (ci := 1) rfl hH_10 (8, cc, 0) (cl_8 (by omega)) rfl 4 (by decide) (by decide +kernel) (fun _ h => h) rfl dX4_settleTaxes_69 ?_ rfl
    refine lv_lload_n hx hb dX4_settleTaxes_72 rfl (lv_at hl_7 2 rfl) ?_
    refine lv_ladd hx hb dX4_settleTaxes_73 ?_
    refine zr_putA (ref := RX0) C hinX0 (ci := 1) rfl tyX0 tyX0_ok nmX0 hH_10 hS_11 (8, cc, 0) (cl_8 (by omega)) rfl 4 (by decide) (by decide +kernel) (fun _ h => h) rfl rfl rfl (show 4 < 5 by decide) dX4_settleTaxes_74 (cw cA (g 0) ad 6 nc nc 6 nt dy mo I (up2 ((stS L cc (dy / 360)).2) 6 cc ((((stS L cc (dy / 360)).2) 6 cc) + ((stS L cc (dy / 360)).1)))) (cu_cash _ _) (fun H locs hH_13 hS_14 => ?_) rfl
    refine lv_lload_n hx hb dX4_settleTaxes_77 rfl (lv_at hl_7 2 rfl) ?_
    refine zr_lret C hr ?_ hH_13 hS_14 (Nat.le_of_ble_eq_true rfl) (Nat.le_of_ble_eq_true rfl) dX4_settleTaxes_78
    exact ⟨rfl, rfl⟩
  · intro i_3 hi_3 ih_4 H locs ls hH_15 hS_16 hl_17
    refine lv_iload hx hb dX4_settleTaxes_5 (lv_at hl_17 3 rfl) ?_
    refine lv_aload_n hx hb dX4_settleTaxes_7 rfl (lv_at hl_17 0 rfl) ?_
    refine zr_getA (ref := RX4) C hinX4 (ci := 5) rfl hH_15 (0, 0, 0) rfl rfl 4 (by decide) (by decide +kernel) (fun _ h => h) rfl dX4_settleTaxes_8 ?_ rfl
    refine zk_ci (zk_rS (As := [.int (nI dy)]) (rest := [.int (nI i_3)]) (n := 1) C (cC_yearOf l D cA A g (cw cA (g 0) ad 6 nc nc 6 nt dy mo I ((stS L cc i_3).2)) dy (by omega)) hH_15 hS_16 gX4_settleTaxes_X4_yearOf rfl rfl (by decide +kernel) ⟨Nat.le_of_ble_eq_true rfl, Nat.le_of_ble_eq_true rfl⟩ hl_17 rfl (Nat.le_of_ble_eq_true rfl) dX4_settleTaxes_11 ⟨Nat.le_of_ble_eq_true rfl, Nat.le_of_ble_eq_true rfl⟩) hS_16 (fun r_18 w_19 H locs hP hH_20 hS_21 => ?_)
    obtain ⟨rfl, rfl⟩ := hP
    refine lv_icmp_ge (tgt := 67) hx hb dX4_settleTaxes_14 (by decide) (fun c_22 => absurd c_22 (nI_ge hi_3 (by first | decide | omega))) (fun c_22 => ?_)
    refine lv_iload hx hb dX4_settleTaxes_17 (lv_at hl_17 3 rfl) ?_
    refine lv_aload_n hx hb dX4_settleTaxes_19 rfl (lv_at hl_17 1 rfl) ?_
    refine zr_getA (ref := RX0) C hinX0 (ci := 1) rfl hH_20 (8, cc, 0) (cl_8 (by omega)) rfl 3 (by decide) (by decide +kernel) (fun _ h => h) rfl dX4_settleTaxes_20 ?_ rfl
    refine zc_yln C hH_20 (k := cc) (by decide) (by omega) rfl dX4_settleTaxes_23 ?_
    refine lv_icmp_ge (tgt := 67) hx hb dX4_settleTaxes_24 (by decide) (fun c_23 => absurd c_23 (nI_ge (by omega) (by decide))) (fun c_23 => ?_)
    refine lv_aload_n hx hb dX4_settleTaxes_27 rfl (lv_at hl_17 1 rfl) ?_
    refine lv_iload hx hb dX4_settleTaxes_28 (lv_at hl_17 3 rfl) ?_
    refine zk_cl (zk_rS (As := [.ref (ad (8, cc, 0)), .int (nI i_3)]) (rest := []) (n := 2) C (cC_baseOf l D cA A g ad nc nt dy mo I ((stS L cc i_3).2) cc i_3 (by omega) (by omega)) hH_20 hS_21 gX4_settleTaxes_X4_baseOf rfl rfl (by decide +kernel) ⟨Nat.le_of_ble_eq_true rfl, Nat.le_of_ble_eq_true rfl⟩ hl_17 rfl (Nat.le_of_ble_eq_true rfl) dX4_settleTaxes_30 ⟨Nat.le_of_ble_eq_true rfl, Nat.le_of_ble_eq_true rfl⟩) hS_21 (fun r_24 w_25 H locs hP hH_26 hS_27 => ?_)
    obtain ⟨rfl, rfl⟩ := hP
    refine lv_ldc2 (v := 4) hx hb hown (hts (.constantLong RX4 215 4) (by decide +kernel)) dX4_settleTaxes_33 ?_
    refine lv_ldiv hx hb dX4_settleTaxes_36 (by decide) ?_
    refine lv_lstore (lv' := [(5, .long ((bsV ((stS L cc i_3).2) cc i_3) / 4)), (0, .ref (ad (0, 0, 0))), (1, .ref (ad (8, cc, 0))), (2, .long ((stS L cc i_3).1)), (4, .int (nI i_3))]) hx hb dX4_settleTaxes_37 hl_17 (by decide) rfl (fun ls hl_28 => ?_)
    refine lv_lload_n hx hb dX4_settleTaxes_39 rfl (lv_at hl_28 3 rfl) ?_
    refine lv_aload_n hx hb dX4_settleTaxes_40 rfl (lv_at hl_28 2 rfl) ?_
    refine zr_getA (ref := RX0) C hinX0 (ci := 1) rfl hH_26 (8, cc, 0) (cl_8 (by omega)) rfl 3 (by decide) (by decide +kernel) (fun _ h => h) rfl dX4_settleTaxes_41 ?_ rfl
    refine lv_iload hx hb dX4_settleTaxes_44 (lv_at hl_28 4 rfl) ?_
    refine zc_tld C hH_26 (k := cc) (by omega) (j := i_3) rfl (by omega) rfl dX4_settleTaxes_46 ?_
    refine lv_lload hx hb dX4_settleTaxes_47 (lv_at hl_28 0 rfl) ?_
    refine lv_lsub hx hb dX4_settleTaxes_49 ?_
    refine lv_ladd hx hb dX4_settleTaxes_50 ?_
    refine lv_lstore_n (lv' := [(2, .long (((stS L cc i_3).1) + ((((stS L cc i_3).2) 9 (21 * cc + i_3)) - ((bsV ((stS L cc i_3).2) cc i_3) / 4)))), (5, .long ((bsV ((stS L cc i_3).2) cc i_3) / 4)), (0, .ref (ad (0, 0, 0))), (1, .ref (ad (8, cc, 0))), (4, .int (nI i_3))]) hx hb dX4_settleTaxes_51 rfl hl_28 (by decide) rfl (fun ls hl_29 => ?_)
    refine lv_aload_n hx hb dX4_settleTaxes_52 rfl (lv_at hl_29 3 rfl) ?_
    refine zr_getA (ref := RX0) C hinX0 (ci := 1) rfl hH_26 (8, cc, 0) (cl_8 (by omega)) rfl 3 (by decide) (by decide +kernel) (fun _ h => h) rfl dX4_settleTaxes_53 ?_ rfl
    refine lv_iload hx hb dX4_settleTaxes_56 (lv_at hl_29 4 rfl) ?_
    refine lv_lload hx hb dX4_settleTaxes_58 (lv_at hl_29 1 rfl) ?_
    refine zc_tst C hH_26 hS_27 (k := cc) (by omega) (j := i_3) rfl (by omega) rfl dX4_settleTaxes_60 (fun H locs hH_30 hS_31 => ?_)
    refine lv_iinc (v := nI (i_3 + 1)) (lv' := [(4, .int (nI (i_3 + 1))), (2, .long (((stS L cc i_3).1) + ((((stS L cc i_3).2) 9 (21 * cc + i_3)) - ((bsV ((stS L cc i_3).2) cc i_3) / 4)))), (5, .long ((bsV ((stS L cc i_3).2) cc i_3) / 4)), (0, .ref (ad (0, 0, 0))), (1, .ref (ad (8, cc, 0)))]) hx hb dX4_settleTaxes_61 hl_29 (k := 4) rfl (nI_1 i_3) (by decide) rfl (fun ls hl_32 => ?_)
    refine lv_goto (tgt := 5) hx hb dX4_settleTaxes_64 (by decide) ?_
    exact ih_4 _ _ _ hH_30 hS_31 (lv_sub hl_32 [3, 4, 1, 0] rfl)
def rmC_price : Room := { frames := 8, cells := 2, slots := 12, locals := 139 }
set_option maxHeartbeats 1000000 in
set_option maxRecDepth 100000 in
theorem cC_price (l : Launch) (hst : l.stackTraces = false) (D : va_G) (cA : Nat → ClassId) (A : Nat → Prop) (g : Nat → Nat) (ad : zk_K → Nat) (nc nt dy : Nat) (mo : Int64) (I : zIA) (L : zLA) (f its : Int32) : zX l yX4_price wsX4_price rmC_price D (zt cA) A g [.ref (ad (0, 0, 0)), .int f, .int its] (cw cA (g 0) ad 6 nc nc 6 nt dy mo I L) (zQi (fun r w' => ∃ j, j < 6 ∧ f = nI j ∧ zR its 10 1000000 ∧ I 1 j = r ∧ cw cA (g 0) ad 6 nc nc 6 nt dy mo (up2 I 1 j its) L = w')) (fun E w' => cw cA (g 0) ad 6 nc nc 6 nt dy mo I L = w' ∧ ((¬ zIn f 6 ∧ E = xI) ∨ (zIn f 6 ∧ ¬ zR its 10 1000000 ∧ E = xA))) := by
  refine zX_of (cc := cX4_price) (maxL := 5) (ret := (some .int)) (own := RX4) (by decide +kernel) rfl (Nat.le_of_ble_eq_true rfl) rfl ?_
  intro p e s m below meth c C hr hnm hex H locs ls hH hS hl
  obtain ⟨⟨hx, hb, hml, hown, hts⟩, hG, hlk⟩ := id C
  have hinX1 : ∀ w ∈ wsX10, w ∈ wsX4_price := by decide +kernel
  have hl : lv_has ls 5 [(0, .ref (ad (0, 0, 0))), (1, .int f), (2, .int its)] := hl
  refine lv_aload_n hx hb dX4_price_0 rfl (lv_at hl 0 rfl) ?_
  refine lv_iload_n hx hb dX4_price_1 rfl (lv_at hl 1 rfl) ?_
  refine zx_cr (zx_rV (As := [.int f]) (rest := []) (n := 1) (k := (0, 0, 0)) C (cC_fundAt l hst D cA A g ad nc nt dy mo I L f) hH hS rfl rfl rfl gX4_price_X4_fundAt rfl rfl (by decide +kernel) ⟨Nat.le_of_ble_eq_true rfl, Nat.le_of_ble_eq_true rfl⟩ hl rfl (Nat.le_of_ble_eq_true rfl) dX4_price_2 ⟨Nat.le_of_ble_eq_true rfl, Nat.le_of_ble_eq_true rfl⟩) hS (zx_go C hex (fun E w' h => ⟨h.2.2, Or.inl ⟨h.2.1, h.1⟩⟩) (Nat.le_of_ble_eq_true rfl) (Nat.le_of_ble_eq_true rfl)) (fun r_1 w_2 H locs hP hH_3 hS_4 => ?_)
  obtain ⟨fj, hfj, rfl, rfl, rfl⟩ := hP
  refine lv_astore_n (lv' := [(3, .ref (ad (7, fj, 0))), (0, .ref (ad (0, 0, 0))), (1, .int (nI fj)), (2, .int its)]) hx hb dX4_price_5 rfl hl (by decide) rfl (fun ls hl_5 => ?_)
  refine lv_iload_n hx hb dX4_price_6 rfl (lv_at hl_5 3 rfl) ?_
  refine lv_bipush (v := 10) hx hb dX4_price_7 (by decide) ?_
  refine lv_ldc (v := 1000000) hx hb hown (hts (.constant RX4 35 1000000) (by decide +kernel)) dX4_price_9 ?_
  by_cases hz_6 : zR its 10 1000000
  · refine zk_cv (zk_rS (As := [.int its, .int 10, .int 1000000]) (rest := []) (n := 3) C (cC_range1 l D cA A g (cw cA (g 0) ad 6 nc nc 6 nt dy mo I L) its 10 1000000 hz_6) hH_3 hS_4 gX4_price_X4_checkRange rfl rfl (by decide +kernel) ⟨Nat.le_of_ble_eq_true rfl, Nat.le_of_ble_eq_true rfl⟩ hl_5 rfl (Nat.le_of_ble_eq_true rfl) dX4_price_11 ⟨Nat.le_of_ble_eq_true rfl, Nat.le_of_ble_eq_true rfl⟩) hS_4 (fun w_ H locs hP hH_7 hS_8 => ?_)
    subst hP
    refine lv_aload_n hx hb dX4_price_14 rfl (lv_at hl_5 0 rfl) ?_
    refine zr_getA (ref := RX1) C hinX1 (ci := 2) rfl hH_7 (7, fj, 0) (cl_7 (by omega)) rfl 1 (by decide) (by decide +kernel) (fun _ h => h) rfl dX4_price_15 ?_ rfl
    refine lv_istore (lv' := [(4, .int (I 1 fj)), (3, .ref (ad (7, fj, 0))), (0, .ref (ad (0, 0, 0))), (1, .int (nI fj)), (2, .int its)]) hx hb dX4_price_18 hl_5 (by decide) rfl (fun ls hl_9 => ?_)
    refine lv_aload_n hx hb dX4_price_20 rfl (lv_at hl_9 1 rfl) ?_
    refine lv_iload_n hx hb dX4_price_21 rfl (lv_at hl_9 4 rfl) ?_
    refine zr_putA (ref := RX1) C hinX1 (ci := 2) rfl tyX1 tyX1_ok nmX1 hH_7 hS_8 (7, fj, 0) (cl_7 (by omega)) rfl 1 (by decide) (by decide +kernel) (fun _ h => h) rfl rfl rfl (show 1 < 4 by decide) dX4_price_22 (cw cA (g 0) ad 6 nc nc 6 nt dy mo (up2 I 1 fj its) L) (cu_price _ _) (fun H locs hH_10 hS_11 => ?_) rfl
    refine lv_iload hx hb dX4_price_25 (lv_at hl_9 0 rfl) ?_
    refine vx_ret (zr_iret C hr ?_ hH_10 hS_11 (Nat.le_of_ble_eq_true rfl) (Nat.le_of_ble_eq_true rfl) dX4_price_27)
    exact ⟨fj, hfj, rfl, hz_6, rfl, rfl⟩
  · exact zx_c (zx_rS (As := [.int its, .int 10, .int 1000000]) (rest := []) (n := 3) C (cC_range0 l hst D cA A g (cw cA (g 0) ad 6 nc nc 6 nt dy mo I L) its 10 1000000 hz_6) hH_3 hS_4 gX4_price_X4_checkRange rfl rfl (by decide +kernel) ⟨Nat.le_of_ble_eq_true rfl, Nat.le_of_ble_eq_true rfl⟩ hl_5 rfl (Nat.le_of_ble_eq_true rfl) dX4_price_11 ⟨Nat.le_of_ble_eq_true rfl, Nat.le_of_ble_eq_true rfl⟩) hS_4 (zx_go C hex (fun E w' h => ⟨h.2, Or.inr ⟨⟨fj, hfj, rfl⟩, hz_6, h.1⟩⟩) (Nat.le_of_ble_eq_true rfl) (Nat.le_of_ble_eq_true rfl)) (fun v w' H1 l1 hP => hP.elim)
def rmC_pay : Room := { frames := 8, cells := 2, slots := 12, locals := 139 }
set_option maxHeartbeats 1000000 in
set_option maxRecDepth 100000 in
theorem cC_pay (l : Launch) (hst : l.stackTraces = false) (D : va_G) (cA : Nat → ClassId) (A : Nat → Prop) (g : Nat → Nat) (ad : zk_K → Nat) (nc nt dy : Nat) (mo : Int64) (I : zIA) (L : zLA) (cx cents : Int32) (hnc : nc ≤ 12) : zX l yX4_pay wsX4_pay rmC_pay D (zt cA) A g [.ref (ad (0, 0, 0)), .int cx, .int cents] (cw cA (g 0) ad 6 nc nc 6 nt dy mo I L) (zQl (fun r w' => ∃ j, j < nc ∧ cx = nI j ∧ zR cents (-10000000) 10000000 ∧ ¬ (cents < 0 ∧ L 6 j + Int32.toInt64 cents < 0) ∧ L 6 j + Int32.toInt64 cents = r ∧ cw cA (g 0) ad 6 nc nc 6 nt dy mo I (up2 L 6 j (L 6 j + Int32.toInt64 cents)) = w')) (fun E w' => cw cA (g 0) ad 6 nc nc 6 nt dy mo I L = w' ∧ ((¬ zIn cx nc ∧ E = xI) ∨ (zIn cx nc ∧ ¬ zR cents (-10000000) 10000000 ∧ E = xA) ∨ (∃ j, j < nc ∧ cx = nI j ∧ zR cents (-10000000) 10000000 ∧ cents < 0 ∧ L 6 j + Int32.toInt64 cents < 0 ∧ E = xS))) := by
  refine zX_of (cc := cX4_pay) (maxL := 4) (ret := (some .long)) (own := RX4) (by decide +kernel) rfl (Nat.le_of_ble_eq_true rfl) rfl ?_
  intro p e s m below meth c C hr hnm hex H locs ls hH hS hl
  obtain ⟨⟨hx, hb, hml, hown, hts⟩, hG, hlk⟩ := id C
  have hinX0 : ∀ w ∈ wsX00, w ∈ wsX4_pay := by decide +kernel
  have hl : lv_has ls 4 [(0, .ref (ad (0, 0, 0))), (1, .int cx), (2, .int cents)] := hl
  refine lv_aload_n hx hb dX4_pay_0 rfl (lv_at hl 0 rfl) ?_
  refine lv_iload_n hx hb dX4_pay_1 rfl (lv_at hl 1 rfl) ?_
  refine zx_cr (zx_rV (As := [.int cx]) (rest := []) (n := 1) (k := (0, 0, 0)) C (cC_clientAt l hst D cA A g ad nc nt dy mo I L cx hnc) hH hS rfl rfl rfl gX4_pay_X4_clientAt rfl rfl (by decide +kernel) ⟨Nat.le_of_ble_eq_true rfl, Nat.le_of_ble_eq_true rfl⟩ hl rfl (Nat.le_of_ble_eq_true rfl) dX4_pay_2 ⟨Nat.le_of_ble_eq_true rfl, Nat.le_of_ble_eq_true rfl⟩) hS (zx_go C hex (fun E w' h => ⟨h.2.2, Or.inl ⟨h.2.1, h.1⟩⟩) (Nat.le_of_ble_eq_true rfl) (Nat.le_of_ble_eq_true rfl)) (fun r_1 w_2 H locs hP hH_3 hS_4 => ?_)
  obtain ⟨cxj, hcxj, rfl, rfl, rfl⟩ := hP
  refine lv_astore_n (lv' := [(3, .ref (ad (8, cxj, 0))), (0, .ref (ad (0, 0, 0))), (1, .int (nI cxj)), (2, .int cents)]) hx hb dX4_pay_5 rfl hl (by decide) rfl (fun ls hl_5 => ?_)
  refine lv_iload_n hx hb dX4_pay_6 rfl (lv_at hl_5 3 rfl) ?_
  refine lv_ldc (v := (-10000000)) hx hb hown (hts (.constant RX4 71 (-10000000)) (by decide +kernel)) dX4_pay_7 ?_
  refine lv_ldc (v := 10000000) hx hb hown (hts (.constant RX4 72 10000000) (by decide +kernel)) dX4_pay_9 ?_
  by_cases hz_6 : zR cents (-10000000) 10000000
  · refine zk_cv (zk_rS (As := [.int cents, .int (-10000000), .int 10000000]) (rest := []) (n := 3) C (cC_range1 l D cA A g (cw cA (g 0) ad 6 nc nc 6 nt dy mo I L) cents (-10000000) 10000000 hz_6) hH_3 hS_4 gX4_pay_X4_checkRange rfl rfl (by decide +kernel) ⟨Nat.le_of_ble_eq_true rfl, Nat.le_of_ble_eq_true rfl⟩ hl_5 rfl (Nat.le_of_ble_eq_true rfl) dX4_pay_11 ⟨Nat.le_of_ble_eq_true rfl, Nat.le_of_ble_eq_true rfl⟩) hS_4 (fun w_ H locs hP hH_7 hS_8 => ?_)
    subst hP
    refine lv_iload_n hx hb dX4_pay_14 rfl (lv_at hl_5 3 rfl) ?_
    refine lv_if_ge (tgt := 30) hx hb dX4_pay_15 (by decide) (fun c_9 => ?_) (fun c_9 => ?_)
    · refine lv_iconst (v := 1) hx hb dX4_pay_30 (by decide) ?_
      refine lv_goto (tgt := 35) hx hb dX4_pay_31 (by decide) ?_
      refine zk_cv (zk_rS (As := [.int 1]) (rest := []) (n := 1) C (cC_possible1 l D cA A g (cw cA (g 0) ad 6 nc nc 6 nt dy mo I L)) hH_7 hS_8 gX4_pay_X4_checkPossible rfl rfl (by decide +kernel) ⟨Nat.le_of_ble_eq_true rfl, Nat.le_of_ble_eq_true rfl⟩ hl_5 rfl (Nat.le_of_ble_eq_true rfl) dX4_pay_35 ⟨Nat.le_of_ble_eq_true rfl, Nat.le_of_ble_eq_true rfl⟩) hS_8 (fun w_ H locs hP hH_10 hS_11 => ?_)
      subst hP
      refine lv_aload_n hx hb dX4_pay_38 rfl (lv_at hl_5 0 rfl) ?_
      refine lv_dup hx hb dX4_pay_39 rfl ?_
      refine zr_getA (ref := RX0) C hinX0 (ci := 1) rfl hH_10 (8, cxj, 0) (cl_8 (by omega)) rfl 4 (by decide) (by decide +kernel) (fun _ h => h) rfl dX4_pay_40 ?_ rfl
      refine lv_iload_n hx hb dX4_pay_43 rfl (lv_at hl_5 3 rfl) ?_
      refine lv_i2l (v := Int32.toInt64 cents) hx hb dX4_pay_44 rfl ?_
      refine lv_ladd hx hb dX4_pay_45 ?_
      refine zr_putA (ref := RX0) C hinX0 (ci := 1) rfl tyX0 tyX0_ok nmX0 hH_10 hS_11 (8, cxj, 0) (cl_8 (by omega)) rfl 4 (by decide) (by decide +kernel) (fun _ h => h) rfl rfl rfl (show 4 < 5 by decide) dX4_pay_46 (cw cA (g 0) ad 6 nc nc 6 nt dy mo I (up2 L 6 cxj ((L 6 cxj) + (Int32.toInt64 cents)))) (cu_cash _ _) (fun H locs hH_12 hS_13 => ?_) rfl
      refine lv_aload_n hx hb dX4_pay_49 rfl (lv_at hl_5 0 rfl) ?_
      refine zr_getA (ref := RX0) C hinX0 (ci := 1) rfl hH_12 (8, cxj, 0) (cl_8 (by omega)) rfl 4 (by decide) (by decide +kernel) (fun _ h => h) rfl dX4_pay_50 ?_ rfl
      rw [up2_s]
      refine vx_ret (zr_lret C hr ?_ hH_12 hS_13 (Nat.le_of_ble_eq_true rfl) (Nat.le_of_ble_eq_true rfl) dX4_pay_53)
      exact ⟨cxj, hcxj, rfl, hz_6, fun z => by first | exact absurd z.2 (by assumption) | exact absurd z.1 (Int32.not_lt.mpr (by assumption)), rfl, rfl⟩
    · refine lv_aload_n hx hb dX4_pay_18 rfl (lv_at hl_5 0 rfl) ?_
      refine zr_getA (ref := RX0) C hinX0 (ci := 1) rfl hH_7 (8, cxj, 0) (cl_8 (by omega)) rfl 4 (by decide) (by decide +kernel) (fun _ h => h) rfl dX4_pay_19 ?_ rfl
      refine lv_iload_n hx hb dX4_pay_22 rfl (lv_at hl_5 3 rfl) ?_
      refine lv_i2l (v := Int32.toInt64 cents) hx hb dX4_pay_23 rfl ?_
      refine lv_ladd hx hb dX4_pay_24 ?_
      refine lv_lconst (v := 0) hx hb dX4_pay_25 (by decide) ?_
      refine zl_cmp_lt (tgt := 34) hx hb dX4_pay_26 dX4_pay_27 (by decide) (fun c_14 => ?_) (fun c_14 => ?_)
      · refine lv_iconst (v := 0) hx hb dX4_pay_34 (by decide) ?_
        exact zx_c (zx_rS (As := [.int 0]) (rest := []) (n := 1) C (cC_possible0 l hst D cA A g (cw cA (g 0) ad 6 nc nc 6 nt dy mo I L)) hH_7 hS_8 gX4_pay_X4_checkPossible rfl rfl (by decide +kernel) ⟨Nat.le_of_ble_eq_true rfl, Nat.le_of_ble_eq_true rfl⟩ hl_5 rfl (Nat.le_of_ble_eq_true rfl) dX4_pay_35 ⟨Nat.le_of_ble_eq_true rfl, Nat.le_of_ble_eq_true rfl⟩) hS_8 (zx_go C hex (fun E w' h => ⟨h.2, Or.inr (Or.inr ⟨cxj, hcxj, rfl, hz_6, Int32.not_le.mp (by assumption), by assumption, h.1⟩)⟩) (Nat.le_of_ble_eq_true rfl) (Nat.le_of_ble_eq_true rfl)) (fun v w' H1 l1 hP => hP.elim)
      · refine lv_iconst (v := 1) hx hb dX4_pay_30 (by decide) ?_
        refine lv_goto (tgt := 35) hx hb dX4_pay_31 (by decide) ?_
        refine zk_cv (zk_rS (As := [.int 1]) (rest := []) (n := 1) C (cC_possible1 l D cA A g (cw cA (g 0) ad 6 nc nc 6 nt dy mo I L)) hH_7 hS_8 gX4_pay_X4_checkPossible rfl rfl (by decide +kernel) ⟨Nat.le_of_ble_eq_true rfl, Nat.le_of_ble_eq_true rfl⟩ hl_5 rfl (Nat.le_of_ble_eq_true rfl) dX4_pay_35 ⟨Nat.le_of_ble_eq_true rfl, Nat.le_of_ble_eq_true rfl⟩) hS_8 (fun w_ H locs hP hH_15 hS_16 => ?_)
        subst hP
        refine lv_aload_n hx hb dX4_pay_38 rfl (lv_at hl_5 0 rfl) ?_
        refine lv_dup hx hb dX4_pay_39 rfl ?_
        refine zr_getA (ref := RX0) C hinX0 (ci := 1) rfl hH_15 (8, cxj, 0) (cl_8 (by omega)) rfl 4 (by decide) (by decide +kernel) (fun _ h => h) rfl dX4_pay_40 ?_ rfl
        refine lv_iload_n hx hb dX4_pay_43 rfl (lv_at hl_5 3 rfl) ?_
        refine lv_i2l (v := Int32.toInt64 cents) hx hb dX4_pay_44 rfl ?_
        refine lv_ladd hx hb dX4_pay_45 ?_
        refine zr_putA (ref := RX0) C hinX0 (ci := 1) rfl tyX0 tyX0_ok nmX0 hH_15 hS_16 (8, cxj, 0) (cl_8 (by omega)) rfl 4 (by decide) (by decide +kernel) (fun _ h => h) rfl rfl rfl (show 4 < 5 by decide) dX4_pay_46 (cw cA (g 0) ad 6 nc nc 6 nt dy mo I (up2 L 6 cxj ((L 6 cxj) + (Int32.toInt64 cents)))) (cu_cash _ _) (fun H locs hH_17 hS_18 => ?_) rfl
        refine lv_aload_n hx hb dX4_pay_49 rfl (lv_at hl_5 0 rfl) ?_
        refine zr_getA (ref := RX0) C hinX0 (ci := 1) rfl hH_17 (8, cxj, 0) (cl_8 (by omega)) rfl 4 (by decide) (by decide +kernel) (fun _ h => h) rfl dX4_pay_50 ?_ rfl
        rw [up2_s]
        refine vx_ret (zr_lret C hr ?_ hH_17 hS_18 (Nat.le_of_ble_eq_true rfl) (Nat.le_of_ble_eq_true rfl) dX4_pay_53)
        exact ⟨cxj, hcxj, rfl, hz_6, fun z => by first | exact absurd z.2 (by assumption) | exact absurd z.1 (Int32.not_lt.mpr (by assumption)), rfl, rfl⟩
  · exact zx_c (zx_rS (As := [.int cents, .int (-10000000), .int 10000000]) (rest := []) (n := 3) C (cC_range0 l hst D cA A g (cw cA (g 0) ad 6 nc nc 6 nt dy mo I L) cents (-10000000) 10000000 hz_6) hH_3 hS_4 gX4_pay_X4_checkRange rfl rfl (by decide +kernel) ⟨Nat.le_of_ble_eq_true rfl, Nat.le_of_ble_eq_true rfl⟩ hl_5 rfl (Nat.le_of_ble_eq_true rfl) dX4_pay_11 ⟨Nat.le_of_ble_eq_true rfl, Nat.le_of_ble_eq_true rfl⟩) hS_4 (zx_go C hex (fun E w' h => ⟨h.2, Or.inr (Or.inl ⟨⟨cxj, hcxj, rfl⟩, hz_6, h.1⟩)⟩) (Nat.le_of_ble_eq_true rfl) (Nat.le_of_ble_eq_true rfl)) (fun v w' H1 l1 hP => hP.elim)
def rmC_goal : Room := { frames := 9, cells := 3, slots := 18, locals := 162 }
set_option maxHeartbeats 1000000 in
set_option maxRecDepth 100000 in
theorem cC_goal (l : Launch) (hst : l.stackTraces = false) (D : va_G) (cA : Nat → ClassId) (A : Nat → Prop) (g : Nat → Nat) (ad : zk_K → Nat) (nc nt dy : Nat) (mo : Int64) (I : zIA) (L : zLA) (cx f its : Int32) (hnc : nc ≤ 12) : zX l yX4_goal wsX4_goal rmC_goal D (zt cA) A g [.ref (ad (0, 0, 0)), .int cx, .int f, .int its] (cw cA (g 0) ad 6 nc nc 6 nt dy mo I L) (zQi (fun r w' => ∃ j k, j < nc ∧ cx = nI j ∧ k < 6 ∧ f = nI k ∧ zR its 0 100 ∧ ¬ 100 < hunT I j 6 - I 7 (6 * j + k) + its ∧ hunT I j 6 - I 7 (6 * j + k) + its = r ∧ cw cA (g 0) ad 6 nc nc 6 nt dy mo (up2 I 7 (6 * j + k) its) L = w')) (fun E w' => cw cA (g 0) ad 6 nc nc 6 nt dy mo I L = w' ∧ ((¬ (zIn cx nc ∧ zIn f 6) ∧ E = xI) ∨ (zIn cx nc ∧ zIn f 6 ∧ ¬ zR its 0 100 ∧ E = xA) ∨ (∃ j k, j < nc ∧ cx = nI j ∧ k < 6 ∧ f = nI k ∧ zR its 0 100 ∧ 100 < hunT I j 6 - I 7 (6 * j + k) + its ∧ E = xS))) := by
  refine zX_of (cc := cX4_goal) (maxL := 6) (ret := (some .int)) (own := RX4) (by decide +kernel) rfl (Nat.le_of_ble_eq_true rfl) rfl ?_
  intro p e s m below meth c C hr hnm hex H locs ls hH hS hl
  obtain ⟨⟨hx, hb, hml, hown, hts⟩, hG, hlk⟩ := id C
  have hinX2 : ∀ w ∈ wsX20, w ∈ wsX4_goal := by decide +kernel
  have hl : lv_has ls 6 [(0, .ref (ad (0, 0, 0))), (1, .int cx), (2, .int f), (3, .int its)] := hl
  refine lv_aload_n hx hb dX4_goal_0 rfl (lv_at hl 0 rfl) ?_
  refine lv_iload_n hx hb dX4_goal_1 rfl (lv_at hl 1 rfl) ?_
  refine lv_iload_n hx hb dX4_goal_2 rfl (lv_at hl 2 rfl) ?_
  refine zx_cr (zx_rV (As := [.int cx, .int f]) (rest := []) (n := 2) (k := (0, 0, 0)) C (cC_holdingAt l hst D cA A g ad nc nt dy mo I L cx f hnc) hH hS rfl rfl rfl gX4_goal_X4_holdingAt rfl rfl (by decide +kernel) ⟨Nat.le_of_ble_eq_true rfl, Nat.le_of_ble_eq_true rfl⟩ hl rfl (Nat.le_of_ble_eq_true rfl) dX4_goal_3 ⟨Nat.le_of_ble_eq_true rfl, Nat.le_of_ble_eq_true rfl⟩) hS (zx_go C hex (fun E w' h => ⟨h.2.2, Or.inl ⟨h.2.1, h.1⟩⟩) (Nat.le_of_ble_eq_true rfl) (Nat.le_of_ble_eq_true rfl)) (fun r_1 w_2 H locs hP hH_3 hS_4 => ?_)
  obtain ⟨cxj, fj, hcxj, rfl, hfj, rfl, rfl, rfl⟩ := hP
  refine lv_astore (lv' := [(4, .ref (ad (13, cxj, fj))), (0, .ref (ad (0, 0, 0))), (1, .int (nI cxj)), (2, .int (nI fj)), (3, .int its)]) hx hb dX4_goal_6 hl (by decide) rfl (fun ls hl_5 => ?_)
  refine lv_iload_n hx hb dX4_goal_8 rfl (lv_at hl_5 4 rfl) ?_
  refine lv_iconst (v := 0) hx hb dX4_goal_9 (by decide) ?_
  refine lv_bipush (v := 100) hx hb dX4_goal_10 (by decide) ?_
  by_cases hz_6 : zR its 0 100
  · refine zk_cv (zk_rS (As := [.int its, .int 0, .int 100]) (rest := []) (n := 3) C (cC_range1 l D cA A g (cw cA (g 0) ad 6 nc nc 6 nt dy mo I L) its 0 100 hz_6) hH_3 hS_4 gX4_goal_X4_checkRange rfl rfl (by decide +kernel) ⟨Nat.le_of_ble_eq_true rfl, Nat.le_of_ble_eq_true rfl⟩ hl_5 rfl (Nat.le_of_ble_eq_true rfl) dX4_goal_12 ⟨Nat.le_of_ble_eq_true rfl, Nat.le_of_ble_eq_true rfl⟩) hS_4 (fun w_ H locs hP hH_7 hS_8 => ?_)
    subst hP
    refine lv_aload hx hb dX4_goal_15 (lv_at hl_5 0 rfl) ?_
    refine zr_getA (ref := RX2) C hinX2 (ci := 3) rfl hH_7 (13, cxj, fj) (cl_13 (by omega) (by omega)) rfl 0 (by decide) (by decide +kernel) (fun _ h => h) rfl dX4_goal_17 ?_ rfl
    refine zk_ci (zk_rS (As := [.ref (ad (8, cxj, 0))]) (rest := []) (n := 1) C (cC_hundredthsTogether l D cA A g ad nc nt dy mo I L cxj (by omega)) hH_7 hS_8 gX4_goal_X4_hundredthsTogether rfl rfl (by decide +kernel) ⟨Nat.le_of_ble_eq_true rfl, Nat.le_of_ble_eq_true rfl⟩ hl_5 rfl (Nat.le_of_ble_eq_true rfl) dX4_goal_20 ⟨Nat.le_of_ble_eq_true rfl, Nat.le_of_ble_eq_true rfl⟩) hS_8 (fun r_9 w_10 H locs hP hH_11 hS_12 => ?_)
    obtain ⟨rfl, rfl⟩ := hP
    refine lv_aload hx hb dX4_goal_23 (lv_at hl_5 0 rfl) ?_
    refine zr_getA (ref := RX2) C hinX2 (ci := 3) rfl hH_11 (13, cxj, fj) (cl_13 (by omega) (by omega)) rfl 3 (by decide) (by decide +kernel) (fun _ h => h) rfl dX4_goal_25 ?_ rfl
    refine lv_isub hx hb dX4_goal_28 ?_
    refine lv_iload_n hx hb dX4_goal_29 rfl (lv_at hl_5 4 rfl) ?_
    refine lv_iadd hx hb dX4_goal_30 ?_
    refine lv_istore (lv' := [(5, .int (((hunT I cxj 6) - (I 7 (6 * cxj + fj))) + its)), (4, .ref (ad (13, cxj, fj))), (0, .ref (ad (0, 0, 0))), (1, .int (nI cxj)), (2, .int (nI fj)), (3, .int its)]) hx hb dX4_goal_31 hl_5 (by decide) rfl (fun ls hl_13 => ?_)
    refine lv_iload hx hb dX4_goal_33 (lv_at hl_13 0 rfl) ?_
    refine lv_bipush (v := 100) hx hb dX4_goal_35 (by decide) ?_
    refine lv_icmp_gt (tgt := 44) hx hb dX4_goal_37 (by decide) (fun c_14 => ?_) (fun c_14 => ?_)
    · refine lv_iconst (v := 0) hx hb dX4_goal_44 (by decide) ?_
      exact zx_c (zx_rS (As := [.int 0]) (rest := []) (n := 1) C (cC_possible0 l hst D cA A g (cw cA (g 0) ad 6 nc nc 6 nt dy mo I L)) hH_11 hS_12 gX4_goal_X4_checkPossible rfl rfl (by decide +kernel) ⟨Nat.le_of_ble_eq_true rfl, Nat.le_of_ble_eq_true rfl⟩ hl_13 rfl (Nat.le_of_ble_eq_true rfl) dX4_goal_45 ⟨Nat.le_of_ble_eq_true rfl, Nat.le_of_ble_eq_true rfl⟩) hS_12 (zx_go C hex (fun E w' h => ⟨h.2, Or.inr (Or.inr ⟨cxj, fj, hcxj, rfl, hfj, rfl, hz_6, by assumption, h.1⟩)⟩) (Nat.le_of_ble_eq_true rfl) (Nat.le_of_ble_eq_true rfl)) (fun v w' H1 l1 hP => hP.elim)
    · refine lv_iconst (v := 1) hx hb dX4_goal_40 (by decide) ?_
      refine lv_goto (tgt := 45) hx hb dX4_goal_41 (by decide) ?_
      refine zk_cv (zk_rS (As := [.int 1]) (rest := []) (n := 1) C (cC_possible1 l D cA A g (cw cA (g 0) ad 6 nc nc 6 nt dy mo I L)) hH_11 hS_12 gX4_goal_X4_checkPossible rfl rfl (by decide +kernel) ⟨Nat.le_of_ble_eq_true rfl, Nat.le_of_ble_eq_true rfl⟩ hl_13 rfl (Nat.le_of_ble_eq_true rfl) dX4_goal_45 ⟨Nat.le_of_ble_eq_true rfl, Nat.le_of_ble_eq_true rfl⟩) hS_12 (fun w_ H locs hP hH_15 hS_16 => ?_)
      subst hP
      refine lv_aload hx hb dX4_goal_48 (lv_at hl_13 1 rfl) ?_
      refine lv_iload_n hx hb dX4_goal_50 rfl (lv_at hl_13 5 rfl) ?_
      refine zr_putA (ref := RX2) C hinX2 (ci := 3) rfl tyX2 tyX2_ok nmX2 hH_15 hS_16 (13, cxj, fj) (cl_13 (by omega) (by omega)) rfl 3 (by decide) (by decide +kernel) (fun _ h => h) rfl rfl rfl (show 3 < 4 by decide) dX4_goal_51 (cw cA (g 0) ad 6 nc nc 6 nt dy mo (up2 I 7 (6 * cxj + fj) its) L) (cu_hund _ _ _ (by omega) (Nat.le_refl 6)) (fun H locs hH_17 hS_18 => ?_) rfl
      refine lv_iload hx hb dX4_goal_54 (lv_at hl_13 0 rfl) ?_
      refine vx_ret (zr_iret C hr ?_ hH_17 hS_18 (Nat.le_of_ble_eq_true rfl) (Nat.le_of_ble_eq_true rfl) dX4_goal_56)
      exact ⟨cxj, fj, hcxj, rfl, hfj, rfl, hz_6, by assumption, rfl, rfl⟩
  · exact zx_c (zx_rS (As := [.int its, .int 0, .int 100]) (rest := []) (n := 3) C (cC_range0 l hst D cA A g (cw cA (g 0) ad 6 nc nc 6 nt dy mo I L) its 0 100 hz_6) hH_3 hS_4 gX4_goal_X4_checkRange rfl rfl (by decide +kernel) ⟨Nat.le_of_ble_eq_true rfl, Nat.le_of_ble_eq_true rfl⟩ hl_5 rfl (Nat.le_of_ble_eq_true rfl) dX4_goal_12 ⟨Nat.le_of_ble_eq_true rfl, Nat.le_of_ble_eq_true rfl⟩) hS_4 (zx_go C hex (fun E w' h => ⟨h.2, Or.inr (Or.inl ⟨⟨cxj, hcxj, rfl⟩, ⟨fj, hfj, rfl⟩, hz_6, h.1⟩)⟩) (Nat.le_of_ble_eq_true rfl) (Nat.le_of_ble_eq_true rfl)) (fun v w' H1 l1 hP => hP.elim)
def rmC_cash : Room := { frames := 8, cells := 1, slots := 6, locals := 139 }
set_option maxHeartbeats 1000000 in
set_option maxRecDepth 100000 in
theorem cC_cash (l : Launch) (hst : l.stackTraces = false) (D : va_G) (cA : Nat → ClassId) (A : Nat → Prop) (g : Nat → Nat) (ad : zk_K → Nat) (nc nt dy : Nat) (mo : Int64) (I : zIA) (L : zLA) (cx : Int32) (hnc : nc ≤ 12) : zX l yX4_cash wsX4_cash rmC_cash D (zt cA) A g [.ref (ad (0, 0, 0)), .int cx] (cw cA (g 0) ad 6 nc nc 6 nt dy mo I L) (zQl (fun r w' => (cx = -1 ∧ mo = r ∧ cw cA (g 0) ad 6 nc nc 6 nt dy mo I L = w') ∨ (∃ j, j < nc ∧ cx = nI j ∧ L 6 j = r ∧ cw cA (g 0) ad 6 nc nc 6 nt dy mo I L = w'))) (fun E w' => cw cA (g 0) ad 6 nc nc 6 nt dy mo I L = w' ∧ (¬ (cx = -1 ∨ zIn cx nc) ∧ E = xI)) := by
  refine zX_of (cc := cX4_cash) (maxL := 2) (ret := (some .long)) (own := RX4) (by decide +kernel) rfl (Nat.le_of_ble_eq_true rfl) rfl ?_
  intro p e s m below meth c C hr hnm hex H locs ls hH hS hl
  obtain ⟨⟨hx, hb, hml, hown, hts⟩, hG, hlk⟩ := id C
  have hinX0 : ∀ w ∈ wsX00, w ∈ wsX4_cash := by decide +kernel
  have hinX4 : ∀ w ∈ wsX40, w ∈ wsX4_cash := by decide +kernel
  have hl : lv_has ls 2 [(0, .ref (ad (0, 0, 0))), (1, .int cx)] := hl
  refine lv_iload_n hx hb dX4_cash_0 rfl (lv_at hl 1 rfl) ?_
  refine lv_iconst (v := (-1)) hx hb dX4_cash_1 (by decide) ?_
  refine lv_icmp_ne (tgt := 10) hx hb dX4_cash_2 (by decide) (fun c_1 => ?_) (fun c_1 => ?_)
  · refine lv_aload_n hx hb dX4_cash_10 rfl (lv_at hl 0 rfl) ?_
    refine lv_iload_n hx hb dX4_cash_11 rfl (lv_at hl 1 rfl) ?_
    refine zx_cr (zx_rV (As := [.int cx]) (rest := []) (n := 1) (k := (0, 0, 0)) C (cC_clientAt l hst D cA A g ad nc nt dy mo I L cx hnc) hH hS rfl rfl rfl gX4_cash_X4_clientAt rfl rfl (by decide +kernel) ⟨Nat.le_of_ble_eq_true rfl, Nat.le_of_ble_eq_true rfl⟩ hl rfl (Nat.le_of_ble_eq_true rfl) dX4_cash_12 ⟨Nat.le_of_ble_eq_true rfl, Nat.le_of_ble_eq_true rfl⟩) hS (zx_go C hex (fun E w' h => ⟨h.2.2, fun z => z.elim (by assumption) h.2.1, h.1⟩) (Nat.le_of_ble_eq_true rfl) (Nat.le_of_ble_eq_true rfl)) (fun r_2 w_3 H locs hP hH_4 hS_5 => ?_)
    obtain ⟨cxj, hcxj, rfl, rfl, rfl⟩ := hP
    refine zr_getA (ref := RX0) C hinX0 (ci := 1) rfl hH_4 (8, cxj, 0) (cl_8 (by omega)) rfl 4 (by decide) (by decide +kernel) (fun _ h => h) rfl dX4_cash_15 ?_ rfl
    refine vx_ret (zr_lret C hr ?_ hH_4 hS_5 (Nat.le_of_ble_eq_true rfl) (Nat.le_of_ble_eq_true rfl) dX4_cash_18)
    exact Or.inr ⟨cxj, hcxj, rfl, rfl, rfl⟩
  · refine lv_aload_n hx hb dX4_cash_5 rfl (lv_at hl 0 rfl) ?_
    refine zr_getA (ref := RX4) C hinX4 (ci := 5) rfl hH (0, 0, 0) rfl rfl 3 (by decide) (by decide +kernel) (fun _ h => h) rfl dX4_cash_6 ?_ rfl
    refine vx_ret (zr_lret C hr ?_ hH hS (Nat.le_of_ble_eq_true rfl) (Nat.le_of_ble_eq_true rfl) dX4_cash_9)
    exact Or.inl ⟨by assumption, rfl, rfl⟩
def rmC_parts : Room := { frames := 9, cells := 2, slots := 12, locals := 162 }
set_option maxHeartbeats 1000000 in
set_option maxRecDepth 100000 in
theorem cC_parts (l : Launch) (hst : l.stackTraces = false) (D : va_G) (cA : Nat → ClassId) (A : Nat → Prop) (g : Nat → Nat) (ad : zk_K → Nat) (nc nt dy : Nat) (mo : Int64) (I : zIA) (L : zLA) (cx f : Int32) (hnc : nc ≤ 12) : zX l yX4_parts wsX4_parts rmC_parts D (zt cA) A g [.ref (ad (0, 0, 0)), .int cx, .int f] (cw cA (g 0) ad 6 nc nc 6 nt dy mo I L) (zQl (fun r w' => ∃ k, k < 6 ∧ f = nI k ∧ ((cx = -1 ∧ L 3 k = r ∧ cw cA (g 0) ad 6 nc nc 6 nt dy mo I L = w') ∨ (∃ j, j < nc ∧ cx = nI j ∧ L 8 (6 * j + k) = r ∧ cw cA (g 0) ad 6 nc nc 6 nt dy mo I L = w')))) (fun E w' => cw cA (g 0) ad 6 nc nc 6 nt dy mo I L = w' ∧ (¬ ((cx = -1 ∨ zIn cx nc) ∧ zIn f 6) ∧ E = xI)) := by
  refine zX_of (cc := cX4_parts) (maxL := 3) (ret := (some .long)) (own := RX4) (by decide +kernel) rfl (Nat.le_of_ble_eq_true rfl) rfl ?_
  intro p e s m below meth c C hr hnm hex H locs ls hH hS hl
  obtain ⟨⟨hx, hb, hml, hown, hts⟩, hG, hlk⟩ := id C
  have hinX1 : ∀ w ∈ wsX10, w ∈ wsX4_parts := by decide +kernel
  have hinX2 : ∀ w ∈ wsX20, w ∈ wsX4_parts := by decide +kernel
  have hl : lv_has ls 3 [(0, .ref (ad (0, 0, 0))), (1, .int cx), (2, .int f)] := hl
  refine lv_iload_n hx hb dX4_parts_0 rfl (lv_at hl 1 rfl) ?_
  refine lv_iconst (v := (-1)) hx hb dX4_parts_1 (by decide) ?_
  refine lv_icmp_ne (tgt := 14) hx hb dX4_parts_2 (by decide) (fun c_1 => ?_) (fun c_1 => ?_)
  · refine lv_aload_n hx hb dX4_parts_14 rfl (lv_at hl 0 rfl) ?_
    refine lv_iload_n hx hb dX4_parts_15 rfl (lv_at hl 1 rfl) ?_
    refine lv_iload_n hx hb dX4_parts_16 rfl (lv_at hl 2 rfl) ?_
    refine zx_cr (zx_rV (As := [.int cx, .int f]) (rest := []) (n := 2) (k := (0, 0, 0)) C (cC_holdingAt l hst D cA A g ad nc nt dy mo I L cx f hnc) hH hS rfl rfl rfl gX4_parts_X4_holdingAt rfl rfl (by decide +kernel) ⟨Nat.le_of_ble_eq_true rfl, Nat.le_of_ble_eq_true rfl⟩ hl rfl (Nat.le_of_ble_eq_true rfl) dX4_parts_17 ⟨Nat.le_of_ble_eq_true rfl, Nat.le_of_ble_eq_true rfl⟩) hS (zx_go C hex (fun E w' h => ⟨h.2.2, fun z => z.1.elim (by assumption) (fun q => h.2.1 ⟨q, z.2⟩), h.1⟩) (Nat.le_of_ble_eq_true rfl) (Nat.le_of_ble_eq_true rfl)) (fun r_2 w_3 H locs hP hH_4 hS_5 => ?_)
    obtain ⟨cxj, fj, hcxj, rfl, hfj, rfl, rfl, rfl⟩ := hP
    refine zr_getA (ref := RX2) C hinX2 (ci := 3) rfl hH_4 (13, cxj, fj) (cl_13 (by omega) (by omega)) rfl 2 (by decide) (by decide +kernel) (fun _ h => h) rfl dX4_parts_20 ?_ rfl
    refine vx_ret (zr_lret C hr ?_ hH_4 hS_5 (Nat.le_of_ble_eq_true rfl) (Nat.le_of_ble_eq_true rfl) dX4_parts_23)
    exact ⟨fj, hfj, rfl, Or.inr ⟨cxj, hcxj, rfl, rfl, rfl⟩⟩
  · refine lv_aload_n hx hb dX4_parts_5 rfl (lv_at hl 0 rfl) ?_
    refine lv_iload_n hx hb dX4_parts_6 rfl (lv_at hl 2 rfl) ?_
    refine zx_cr (zx_rV (As := [.int f]) (rest := []) (n := 1) (k := (0, 0, 0)) C (cC_fundAt l hst D cA A g ad nc nt dy mo I L f) hH hS rfl rfl rfl gX4_parts_X4_fundAt rfl rfl (by decide +kernel) ⟨Nat.le_of_ble_eq_true rfl, Nat.le_of_ble_eq_true rfl⟩ hl rfl (Nat.le_of_ble_eq_true rfl) dX4_parts_7 ⟨Nat.le_of_ble_eq_true rfl, Nat.le_of_ble_eq_true rfl⟩) hS (zx_go C hex (fun E w' h => ⟨h.2.2, fun z => h.2.1 z.2, h.1⟩) (Nat.le_of_ble_eq_true rfl) (Nat.le_of_ble_eq_true rfl)) (fun r_6 w_7 H locs hP hH_8 hS_9 => ?_)
    obtain ⟨fj, hfj, rfl, rfl, rfl⟩ := hP
    refine zr_getA (ref := RX1) C hinX1 (ci := 2) rfl hH_8 (7, fj, 0) (cl_7 (by omega)) rfl 3 (by decide) (by decide +kernel) (fun _ h => h) rfl dX4_parts_10 ?_ rfl
    refine vx_ret (zr_lret C hr ?_ hH_8 hS_9 (Nat.le_of_ble_eq_true rfl) (Nat.le_of_ble_eq_true rfl) dX4_parts_13)
    exact ⟨fj, hfj, rfl, Or.inl ⟨by assumption, rfl, rfl⟩⟩
def rmC_units : Room := { frames := 8, cells := 1, slots := 6, locals := 139 }
set_option maxHeartbeats 1000000 in
set_option maxRecDepth 100000 in
theorem cC_units (l : Launch) (hst : l.stackTraces = false) (D : va_G) (cA : Nat → ClassId) (A : Nat → Prop) (g : Nat → Nat) (ad : zk_K → Nat) (nc nt dy : Nat) (mo : Int64) (I : zIA) (L : zLA) (f : Int32) : zX l yX4_units wsX4_units rmC_units D (zt cA) A g [.ref (ad (0, 0, 0)), .int f] (cw cA (g 0) ad 6 nc nc 6 nt dy mo I L) (zQl (fun r w' => ∃ k, k < 6 ∧ f = nI k ∧ L 2 k = r ∧ cw cA (g 0) ad 6 nc nc 6 nt dy mo I L = w')) (fun E w' => cw cA (g 0) ad 6 nc nc 6 nt dy mo I L = w' ∧ (¬ zIn f 6 ∧ E = xI)) := by
  refine zX_of (cc := cX4_units) (maxL := 2) (ret := (some .long)) (own := RX4) (by decide +kernel) rfl (Nat.le_of_ble_eq_true rfl) rfl ?_
  intro p e s m below meth c C hr hnm hex H locs ls hH hS hl
  obtain ⟨⟨hx, hb, hml, hown, hts⟩, hG, hlk⟩ := id C
  have hinX1 : ∀ w ∈ wsX10, w ∈ wsX4_units := by decide +kernel
  have hl : lv_has ls 2 [(0, .ref (ad (0, 0, 0))), (1, .int f)] := hl
  refine lv_aload_n hx hb dX4_units_0 rfl (lv_at hl 0 rfl) ?_
  refine lv_iload_n hx hb dX4_units_1 rfl (lv_at hl 1 rfl) ?_
  refine zx_cr (zx_rV (As := [.int f]) (rest := []) (n := 1) (k := (0, 0, 0)) C (cC_fundAt l hst D cA A g ad nc nt dy mo I L f) hH hS rfl rfl rfl gX4_units_X4_fundAt rfl rfl (by decide +kernel) ⟨Nat.le_of_ble_eq_true rfl, Nat.le_of_ble_eq_true rfl⟩ hl rfl (Nat.le_of_ble_eq_true rfl) dX4_units_2 ⟨Nat.le_of_ble_eq_true rfl, Nat.le_of_ble_eq_true rfl⟩) hS (zx_go C hex (fun E w' h => ⟨h.2.2, h.2.1, h.1⟩) (Nat.le_of_ble_eq_true rfl) (Nat.le_of_ble_eq_true rfl)) (fun r_1 w_2 H locs hP hH_3 hS_4 => ?_)
  obtain ⟨fj, hfj, rfl, rfl, rfl⟩ := hP
  refine zr_getA (ref := RX1) C hinX1 (ci := 2) rfl hH_3 (7, fj, 0) (cl_7 (by omega)) rfl 2 (by decide) (by decide +kernel) (fun _ h => h) rfl dX4_units_5 ?_ rfl
  refine vx_ret (zr_lret C hr ?_ hH_3 hS_4 (Nat.le_of_ble_eq_true rfl) (Nat.le_of_ble_eq_true rfl) dX4_units_8)
  exact ⟨fj, hfj, rfl, rfl, rfl⟩
def rmC_wealth : Room := { frames := 8, cells := 1, slots := 6, locals := 139 }
set_option maxHeartbeats 1000000 in
set_option maxRecDepth 100000 in
theorem cC_wealth (l : Launch) (hst : l.stackTraces = false) (D : va_G) (cA : Nat → ClassId) (A : Nat → Prop) (g : Nat → Nat) (ad : zk_K → Nat) (nc nt dy : Nat) (mo : Int64) (I : zIA) (L : zLA) (cx : Int32) (hnc : nc ≤ 12) : zX l yX4_wealth wsX4_wealth rmC_wealth D (zt cA) A g [.ref (ad (0, 0, 0)), .int cx] (cw cA (g 0) ad 6 nc nc 6 nt dy mo I L) (zQl (fun r w' => ∃ j, j < nc ∧ cx = nI j ∧ wealthL I L j 6 = r ∧ cw cA (g 0) ad 6 nc nc 6 nt dy mo I L = w')) (fun E w' => cw cA (g 0) ad 6 nc nc 6 nt dy mo I L = w' ∧ (¬ zIn cx nc ∧ E = xI)) := by
  refine zX_of (cc := cX4_wealth) (maxL := 2) (ret := (some .long)) (own := RX4) (by decide +kernel) rfl (Nat.le_of_ble_eq_true rfl) rfl ?_
  intro p e s m below meth c C hr hnm hex H locs ls hH hS hl
  obtain ⟨⟨hx, hb, hml, hown, hts⟩, hG, hlk⟩ := id C
  have hl : lv_has ls 2 [(0, .ref (ad (0, 0, 0))), (1, .int cx)] := hl
  refine lv_aload_n hx hb dX4_wealth_0 rfl (lv_at hl 0 rfl) ?_
  refine lv_iload_n hx hb dX4_wealth_1 rfl (lv_at hl 1 rfl) ?_
  refine zx_cr (zx_rV (As := [.int cx]) (rest := []) (n := 1) (k := (0, 0, 0)) C (cC_clientAt l hst D cA A g ad nc nt dy mo I L cx hnc) hH hS rfl rfl rfl gX4_wealth_X4_clientAt rfl rfl (by decide +kernel) ⟨Nat.le_of_ble_eq_true rfl, Nat.le_of_ble_eq_true rfl⟩ hl rfl (Nat.le_of_ble_eq_true rfl) dX4_wealth_2 ⟨Nat.le_of_ble_eq_true rfl, Nat.le_of_ble_eq_true rfl⟩) hS (zx_go C hex (fun E w' h => ⟨h.2.2, h.2.1, h.1⟩) (Nat.le_of_ble_eq_true rfl) (Nat.le_of_ble_eq_true rfl)) (fun r_1 w_2 H locs hP hH_3 hS_4 => ?_)
  obtain ⟨cxj, hcxj, rfl, rfl, rfl⟩ := hP
  refine zk_cl (zk_rS (As := [.ref (ad (8, cxj, 0))]) (rest := []) (n := 1) C (cC_wealthOf l D cA A g ad nc nt dy mo I L cxj (by omega)) hH_3 hS_4 gX4_wealth_X4_wealthOf rfl rfl (by decide +kernel) ⟨Nat.le_of_ble_eq_true rfl, Nat.le_of_ble_eq_true rfl⟩ hl rfl (Nat.le_of_ble_eq_true rfl) dX4_wealth_5 ⟨Nat.le_of_ble_eq_true rfl, Nat.le_of_ble_eq_true rfl⟩) hS_4 (fun r_5 w_6 H locs hP hH_7 hS_8 => ?_)
  obtain ⟨rfl, rfl⟩ := hP
  refine vx_ret (zr_lret C hr ?_ hH_7 hS_8 (Nat.le_of_ble_eq_true rfl) (Nat.le_of_ble_eq_true rfl) dX4_wealth_8)
  exact ⟨cxj, hcxj, rfl, rfl, rfl⟩
