def rmC_complain : Room := { frames := 8, cells := 2, slots := 12, locals := 139 }
set_option maxHeartbeats 1000000 in
set_option maxRecDepth 100000 in
theorem cC_complain (l : Launch) (hst : l.stackTraces = false) (D : va_G) (cA : Nat → ClassId) (A : Nat → Prop) (g : Nat → Nat) (ad : zk_K → Nat) (nc nt dy : Nat) (mo : Int64) (I : zIA) (L : zLA) (tx : Int32) (hdy : dy ≤ 7200) (hnt : nt ≤ 120) (hnc : nc ≤ 12) (h11 : ∀ t, t < nt → zD (I 11 t) nc) (h12 : ∀ t, t < nt → zD (I 12 t) 6) (h16 : ∀ t, t < nt → zD (I 16 t) 7201) : zX l yX4_complain wsX4_complain rmC_complain D (zt cA) A g [.ref (ad (0, 0, 0)), .int tx] (cw cA (g 0) ad 6 nc nc 6 nt dy mo I L) (zQl (fun r w' => ∃ t, t < nt ∧ tx = nI t ∧ canS I L nt t ∧ (stS (cmL I L nt t) (dN (I 11 t)) (dy / 360)).1 = r ∧ cw cA (g 0) ad 6 nc nc 6 nt dy (exM (up2 I 17 t 0) L (dN (I 12 t)) (-(L 13 t)) (-(payT L t)) mo) (up2 I 17 t 0) (stL (cmL I L nt t) (dN (I 11 t)) (dy / 360)) = w')) (fun E w' => cw cA (g 0) ad 6 nc nc 6 nt dy mo I L = w' ∧ ((¬ zIn tx nt ∧ E = xI) ∨ (∃ t, t < nt ∧ tx = nI t ∧ ¬ canS I L nt t ∧ E = xS))) := by
  refine zX_of (cc := cX4_complain) (maxL := 4) (ret := (some .long)) (own := RX4) (by decide +kernel) rfl (Nat.le_of_ble_eq_true rfl) rfl ?_
  intro p e s m below meth c C hr hnm hex H locs ls hH hS hl
  obtain ⟨⟨hx, hb, hml, hown, hts⟩, hG, hlk⟩ := id C
  have hinX2 : ∀ w ∈ wsX20, w ∈ wsX4_complain := by decide +kernel
  have hinX3 : ∀ w ∈ wsX30, w ∈ wsX4_complain := by decide +kernel
  have hl : lv_has ls 4 [(0, .ref (ad (0, 0, 0))), (1, .int tx)] := hl
  refine lv_aload_n hx hb dX4_complain_0 rfl (lv_at hl 0 rfl) ?_
  refine lv_iload_n hx hb dX4_complain_1 rfl (lv_at hl 1 rfl) ?_
  refine zx_cr (zx_rV (As := [.int tx]) (rest := []) (n := 1) (k := (0, 0, 0)) C (cC_tradeAt l hst D cA A g ad nc nt dy mo I L tx hnt) hH hS rfl rfl rfl gX4_complain_X4_tradeAt rfl rfl (by decide +kernel) ⟨Nat.le_of_ble_eq_true rfl, Nat.le_of_ble_eq_true rfl⟩ hl rfl (Nat.le_of_ble_eq_true rfl) dX4_complain_2 ⟨Nat.le_of_ble_eq_true rfl, Nat.le_of_ble_eq_true rfl⟩) hS (zx_go C hex (fun E w' h => ⟨h.2.2, Or.inl ⟨h.2.1, h.1⟩⟩) (Nat.le_of_ble_eq_true rfl) (Nat.le_of_ble_eq_true rfl)) (fun r_1 w_2 H locs hP hH_3 hS_4 => ?_)
  obtain ⟨txj, htxj, rfl, rfl, rfl⟩ := hP
  refine lv_astore_n (lv' := [(2, .ref (ad (14, txj, 0))), (0, .ref (ad (0, 0, 0))), (1, .int (nI txj))]) hx hb dX4_complain_5 rfl hl (by decide) rfl (fun ls hl_5 => ?_)
  refine lv_aload_n hx hb dX4_complain_6 rfl (lv_at hl_5 0 rfl) ?_
  refine zr_getA (ref := RX3) C hinX3 (ci := 4) rfl hH_3 (14, txj, 0) (cl_14 (by omega)) rfl 6 (by decide) (by decide +kernel) (fun _ h => h) rfl dX4_complain_7 ?_ rfl
  refine lv_if_eq (tgt := 25) hx hb dX4_complain_10 (by decide) (fun c_6 => ?_) (fun c_6 => ?_)
  · refine lv_iconst (v := 0) hx hb dX4_complain_25 (by decide) ?_
    exact zx_c (zx_rS (As := [.int 0]) (rest := []) (n := 1) C (cC_possible0 l hst D cA A g (cw cA (g 0) ad 6 nc nc 6 nt dy mo I L)) hH_3 hS_4 gX4_complain_X4_checkPossible rfl rfl (by decide +kernel) ⟨Nat.le_of_ble_eq_true rfl, Nat.le_of_ble_eq_true rfl⟩ hl_5 rfl (Nat.le_of_ble_eq_true rfl) dX4_complain_26 ⟨Nat.le_of_ble_eq_true rfl, Nat.le_of_ble_eq_true rfl⟩) hS_4 (zx_go C hex (fun E w' h => ⟨h.2, Or.inr ⟨txj, htxj, rfl, fun z => z.1 c_6, h.1⟩⟩) (Nat.le_of_ble_eq_true rfl) (Nat.le_of_ble_eq_true rfl)) (fun v w' H1 l1 hP => hP.elim)
  · refine lv_aload_n hx hb dX4_complain_13 rfl (lv_at hl_5 1 rfl) ?_
    refine lv_aload_n hx hb dX4_complain_14 rfl (lv_at hl_5 0 rfl) ?_
    refine zk_ci (zk_rV (As := [.ref (ad (14, txj, 0))]) (rest := []) (n := 1) (k := (0, 0, 0)) C (cC_salesKeepTheirParts l D cA A g ad nc nt dy mo I L txj (by omega) hnt hnc h11 h12) hH_3 hS_4 rfl rfl rfl gX4_complain_X4_salesKeepTheirParts rfl rfl (by decide +kernel) ⟨Nat.le_of_ble_eq_true rfl, Nat.le_of_ble_eq_true rfl⟩ hl_5 rfl (Nat.le_of_ble_eq_true rfl) dX4_complain_15 ⟨Nat.le_of_ble_eq_true rfl, Nat.le_of_ble_eq_true rfl⟩) hS_4 (fun r_7 w_8 H locs hP hH_9 hS_10 => ?_)
    obtain ⟨rfl, rfl⟩ := hP
    refine lv_if_eq (tgt := 25) hx hb dX4_complain_18 (by decide) (fun c_11 => ?_) (fun c_11 => ?_)
    · refine lv_iconst (v := 0) hx hb dX4_complain_25 (by decide) ?_
      exact zx_c (zx_rS (As := [.int 0]) (rest := []) (n := 1) C (cC_possible0 l hst D cA A g (cw cA (g 0) ad 6 nc nc 6 nt dy mo I L)) hH_9 hS_10 gX4_complain_X4_checkPossible rfl rfl (by decide +kernel) ⟨Nat.le_of_ble_eq_true rfl, Nat.le_of_ble_eq_true rfl⟩ hl_5 rfl (Nat.le_of_ble_eq_true rfl) dX4_complain_26 ⟨Nat.le_of_ble_eq_true rfl, Nat.le_of_ble_eq_true rfl⟩) hS_10 (zx_go C hex (fun E w' h => ⟨h.2, Or.inr ⟨txj, htxj, rfl, fun z => z.2 c_11, h.1⟩⟩) (Nat.le_of_ble_eq_true rfl) (Nat.le_of_ble_eq_true rfl)) (fun v w' H1 l1 hP => hP.elim)
    · refine lv_iconst (v := 1) hx hb dX4_complain_21 (by decide) ?_
      refine lv_goto (tgt := 26) hx hb dX4_complain_22 (by decide) ?_
      refine zk_cv (zk_rS (As := [.int 1]) (rest := []) (n := 1) C (cC_possible1 l D cA A g (cw cA (g 0) ad 6 nc nc 6 nt dy mo I L)) hH_9 hS_10 gX4_complain_X4_checkPossible rfl rfl (by decide +kernel) ⟨Nat.le_of_ble_eq_true rfl, Nat.le_of_ble_eq_true rfl⟩ hl_5 rfl (Nat.le_of_ble_eq_true rfl) dX4_complain_26 ⟨Nat.le_of_ble_eq_true rfl, Nat.le_of_ble_eq_true rfl⟩) hS_10 (fun w_ H locs hP hH_12 hS_13 => ?_)
      subst hP
      refine lv_aload_n hx hb dX4_complain_29 rfl (lv_at hl_5 0 rfl) ?_
      refine zr_getA (ref := RX3) C hinX3 (ci := 4) rfl hH_12 (14, txj, 0) (cl_14 (by omega)) rfl 1 (by decide) (by decide +kernel) (fun _ h => h) rfl dX4_complain_30 ?_ rfl
      have h11_14 := (h11 txj (by omega)).2
      have h12_15 := (h12 txj (by omega)).2
      refine zr_getA (ref := RX2) C hinX2 (ci := 3) rfl hH_12 (13, (dN (I 11 txj)), (dN (I 12 txj))) (cl_13 (by omega) (by omega)) rfl 0 (by decide) (by decide +kernel) (fun _ h => h) rfl dX4_complain_33 ?_ rfl
      refine lv_astore_n (lv' := [(3, .ref (ad (8, (dN (I 11 txj)), 0))), (2, .ref (ad (14, txj, 0))), (0, .ref (ad (0, 0, 0))), (1, .int (nI txj))]) hx hb dX4_complain_36 rfl hl_5 (by decide) rfl (fun ls hl_16 => ?_)
      refine lv_aload_n hx hb dX4_complain_37 rfl (lv_at hl_16 1 rfl) ?_
      refine lv_iconst (v := 0) hx hb dX4_complain_38 (by decide) ?_
      refine zr_putA (ref := RX3) C hinX3 (ci := 4) rfl tyX3 tyX3_ok nmX3 hH_12 hS_13 (14, txj, 0) (cl_14 (by omega)) rfl 6 (by decide) (by decide +kernel) (fun _ h => h) rfl rfl rfl (show 6 < 9 by decide) dX4_complain_39 (cw cA (g 0) ad 6 nc nc 6 nt dy mo (up2 I 17 txj 0) L) (cu_stands _ _) (fun H locs hH_17 hS_18 => ?_) rfl
      refine lv_aload_n hx hb dX4_complain_42 rfl (lv_at hl_16 2 rfl) ?_
      refine lv_aload_n hx hb dX4_complain_43 rfl (lv_at hl_16 1 rfl) ?_
      refine zr_getA (ref := RX3) C hinX3 (ci := 4) rfl hH_17 (14, txj, 0) (cl_14 (by omega)) rfl 1 (by decide) (by decide +kernel) (fun _ h => h) rfl dX4_complain_44 ?_ rfl
      rw [up2_ne (show (11 : Nat) ≠ 17 by decide), up2_ne (show (12 : Nat) ≠ 17 by decide)]
      have h11_19 := (h11 txj (by omega)).2
      have h12_20 := (h12 txj (by omega)).2
      refine lv_aload_n hx hb dX4_complain_47 rfl (lv_at hl_16 1 rfl) ?_
      refine zr_getA (ref := RX3) C hinX3 (ci := 4) rfl hH_17 (14, txj, 0) (cl_14 (by omega)) rfl 3 (by decide) (by decide +kernel) (fun _ h => h) rfl dX4_complain_48 ?_ rfl
      refine lv_lneg hx hb dX4_complain_51 ?_
      refine lv_aload_n hx hb dX4_complain_52 rfl (lv_at hl_16 1 rfl) ?_
      refine zk_cl (zk_rV (As := []) (rest := [.long (-(L 13 txj)), .ref (ad (13, (dN (I 11 txj)), (dN (I 12 txj)))), .ref (ad (0, 0, 0))]) (n := 0) (k := (14, txj, 0)) C (cC_paid l D cA A g ad nc nt dy mo (up2 I 17 txj 0) L txj (by omega)) hH_17 hS_18 (cl_14 (by omega)) rfl rfl gX4_complain_X3_paid rfl rfl (by decide +kernel) ⟨Nat.le_of_ble_eq_true rfl, Nat.le_of_ble_eq_true rfl⟩ hl_16 rfl (Nat.le_of_ble_eq_true rfl) dX4_complain_53 ⟨Nat.le_of_ble_eq_true rfl, Nat.le_of_ble_eq_true rfl⟩) hS_18 (fun r_21 w_22 H locs hP hH_23 hS_24 => ?_)
      obtain ⟨rfl, rfl⟩ := hP
      refine lv_lneg hx hb dX4_complain_56 ?_
      refine zk_cv (zk_rV (As := [.ref (ad (13, (dN (I 11 txj)), (dN (I 12 txj)))), .long (-(L 13 txj)), .long (-(payT L txj))]) (rest := []) (n := 3) (k := (0, 0, 0)) C (cC_exchange l D cA A g ad nc nt dy mo (up2 I 17 txj 0) L (dN (I 11 txj)) (dN (I 12 txj)) (-(L 13 txj)) (-(payT L txj)) (by omega) (by omega)) hH_23 hS_24 rfl rfl rfl gX4_complain_X4_exchange rfl rfl (by decide +kernel) ⟨Nat.le_of_ble_eq_true rfl, Nat.le_of_ble_eq_true rfl⟩ hl_16 rfl (Nat.le_of_ble_eq_true rfl) dX4_complain_57 ⟨Nat.le_of_ble_eq_true rfl, Nat.le_of_ble_eq_true rfl⟩) hS_24 (fun w_26 H locs hP hH_27 hS_28 => ?_)
      subst hP
      refine lv_aload_n hx hb dX4_complain_60 rfl (lv_at hl_16 2 rfl) ?_
      refine lv_aload_n hx hb dX4_complain_61 rfl (lv_at hl_16 0 rfl) ?_
      refine zk_cv (zk_rV (As := [.ref (ad (8, (dN (I 11 txj)), 0))]) (rest := []) (n := 1) (k := (0, 0, 0)) C (cC_findLotsAnew l D cA A g ad nc nt dy (exM (up2 I 17 txj 0) L (dN (I 12 txj)) (-(L 13 txj)) (-(payT L txj)) mo) (up2 I 17 txj 0) (exL L (dN (I 11 txj)) (dN (I 12 txj)) (-(L 13 txj)) (-(payT L txj))) (dN (I 11 txj)) (by omega) hnt hnc (fun t ht => by rw [up2_ne (show (11 : Nat) ≠ 17 by decide)]; exact h11 t ht) (fun t ht => by rw [up2_ne (show (12 : Nat) ≠ 17 by decide)]; exact h12 t ht) (fun t ht => by rw [up2_ne (show (16 : Nat) ≠ 17 by decide)]; exact h16 t ht)) hH_27 hS_28 rfl rfl rfl gX4_complain_X4_findLotsAnew rfl rfl (by decide +kernel) ⟨Nat.le_of_ble_eq_true rfl, Nat.le_of_ble_eq_true rfl⟩ hl_16 rfl (Nat.le_of_ble_eq_true rfl) dX4_complain_62 ⟨Nat.le_of_ble_eq_true rfl, Nat.le_of_ble_eq_true rfl⟩) hS_28 (fun w_30 H locs hP hH_31 hS_32 => ?_)
      subst hP
      refine lv_aload_n hx hb dX4_complain_65 rfl (lv_at hl_16 2 rfl) ?_
      refine lv_aload_n hx hb dX4_complain_66 rfl (lv_at hl_16 0 rfl) ?_
      refine zk_cl (zk_rV (As := [.ref (ad (8, (dN (I 11 txj)), 0))]) (rest := []) (n := 1) (k := (0, 0, 0)) C (cC_settleTaxes l D cA A g ad nc nt dy (exM (up2 I 17 txj 0) L (dN (I 12 txj)) (-(L 13 txj)) (-(payT L txj)) mo) (up2 I 17 txj 0) (flS (up2 I 17 txj 0) (exL L (dN (I 11 txj)) (dN (I 12 txj)) (-(L 13 txj)) (-(payT L txj))) (dN (I 11 txj)) nt) (dN (I 11 txj)) (by omega) (by omega)) hH_31 hS_32 rfl rfl rfl gX4_complain_X4_settleTaxes rfl rfl (by decide +kernel) ⟨Nat.le_of_ble_eq_true rfl, Nat.le_of_ble_eq_true rfl⟩ hl_16 rfl (Nat.le_of_ble_eq_true rfl) dX4_complain_67 ⟨Nat.le_of_ble_eq_true rfl, Nat.le_of_ble_eq_true rfl⟩) hS_32 (fun r_33 w_34 H locs hP hH_35 hS_36 => ?_)
      obtain ⟨rfl, rfl⟩ := hP
      refine vx_ret (zr_lret C hr ?_ hH_35 hS_36 (Nat.le_of_ble_eq_true rfl) (Nat.le_of_ble_eq_true rfl) dX4_complain_70)
      exact ⟨txj, htxj, rfl, ⟨c_6, c_11⟩, rfl, rfl⟩
def rmC_lot : Room := { frames := 9, cells := 3, slots := 18, locals := 162 }
set_option maxHeartbeats 1000000 in
set_option maxRecDepth 100000 in
theorem cC_lot (l : Launch) (hst : l.stackTraces = false) (D : va_G) (cA : Nat → ClassId) (A : Nat → Prop) (g : Nat → Nat) (ad : zk_K → Nat) (nc nt dy : Nat) (mo : Int64) (I : zIA) (L : zLA) (cx f rank what : Int32) (hnt : nt ≤ 120) (hnc : nc ≤ 12) (h11 : ∀ t, t < nt → zD (I 11 t) nc) (h12 : ∀ t, t < nt → zD (I 12 t) 6) : zX l yX4_lot wsX4_lot rmC_lot D (zt cA) A g [.ref (ad (0, 0, 0)), .int cx, .int f, .int rank, .int what] (cw cA (g 0) ad 6 nc nc 6 nt dy mo I L) (zQl (fun r w' => ∃ j k, j < nc ∧ cx = nI j ∧ k < 6 ∧ f = nI k ∧ ¬ rank < 0 ∧ zR what 0 2 ∧ (lfS I L j k rank what nt).getD (-1) = r ∧ cw cA (g 0) ad 6 nc nc 6 nt dy mo I L = w')) (fun E w' => cw cA (g 0) ad 6 nc nc 6 nt dy mo I L = w' ∧ ((¬ (zIn cx nc ∧ zIn f 6 ∧ ¬ rank < 0) ∧ E = xI) ∨ (zIn cx nc ∧ zIn f 6 ∧ ¬ rank < 0 ∧ ¬ zR what 0 2 ∧ E = xA))) := by
  refine zX_of (cc := cX4_lot) (maxL := 9) (ret := (some .long)) (own := RX4) (by decide +kernel) rfl (Nat.le_of_ble_eq_true rfl) rfl ?_
  intro p e s m below meth c C hr hnm hex H locs ls hH hS hl
  obtain ⟨⟨hx, hb, hml, hown, hts⟩, hG, hlk⟩ := id C
  have hinX3 : ∀ w ∈ wsX30, w ∈ wsX4_lot := by decide +kernel
  have hinX4 : ∀ w ∈ wsX40, w ∈ wsX4_lot := by decide +kernel
  have hl : lv_has ls 9 [(0, .ref (ad (0, 0, 0))), (1, .int cx), (2, .int f), (3, .int rank), (4, .int what)] := hl
  refine lv_aload_n hx hb dX4_lot_0 rfl (lv_at hl 0 rfl) ?_
  refine lv_iload_n hx hb dX4_lot_1 rfl (lv_at hl 1 rfl) ?_
  refine lv_iload_n hx hb dX4_lot_2 rfl (lv_at hl 2 rfl) ?_
  refine zx_cr (zx_rV (As := [.int cx, .int f]) (rest := []) (n := 2) (k := (0, 0, 0)) C (cC_holdingAt l hst D cA A g ad nc nt dy mo I L cx f hnc) hH hS rfl rfl rfl gX4_lot_X4_holdingAt rfl rfl (by decide +kernel) ⟨Nat.le_of_ble_eq_true rfl, Nat.le_of_ble_eq_true rfl⟩ hl rfl (Nat.le_of_ble_eq_true rfl) dX4_lot_3 ⟨Nat.le_of_ble_eq_true rfl, Nat.le_of_ble_eq_true rfl⟩) hS (zx_go C hex (fun E w' h => ⟨h.2.2, Or.inl ⟨fun z => h.2.1 ⟨z.1, z.2.1⟩, h.1⟩⟩) (Nat.le_of_ble_eq_true rfl) (Nat.le_of_ble_eq_true rfl)) (fun r_1 w_2 H locs hP hH_3 hS_4 => ?_)
  obtain ⟨cxj, fj, hcxj, rfl, hfj, rfl, rfl, rfl⟩ := hP
  refine lv_astore (lv' := [(5, .ref (ad (13, cxj, fj))), (0, .ref (ad (0, 0, 0))), (1, .int (nI cxj)), (2, .int (nI fj)), (3, .int rank), (4, .int what)]) hx hb dX4_lot_6 hl (by decide) rfl (fun ls hl_5 => ?_)
  refine lv_iload_n hx hb dX4_lot_8 rfl (lv_at hl_5 4 rfl) ?_
  refine lv_if_lt (tgt := 16) hx hb dX4_lot_9 (by decide) (fun c_6 => ?_) (fun c_6 => ?_)
  · refine lv_iconst (v := 0) hx hb dX4_lot_16 (by decide) ?_
    exact zx_c (zx_rS (As := [.int 0]) (rest := []) (n := 1) C (cC_exists0 l hst D cA A g (cw cA (g 0) ad 6 nc nc 6 nt dy mo I L)) hH_3 hS_4 gX4_lot_X4_checkExists rfl rfl (by decide +kernel) ⟨Nat.le_of_ble_eq_true rfl, Nat.le_of_ble_eq_true rfl⟩ hl_5 rfl (Nat.le_of_ble_eq_true rfl) dX4_lot_17 ⟨Nat.le_of_ble_eq_true rfl, Nat.le_of_ble_eq_true rfl⟩) hS_4 (zx_go C hex (fun E w' h => ⟨h.2, Or.inl ⟨fun z => z.2.2 c_6, h.1⟩⟩) (Nat.le_of_ble_eq_true rfl) (Nat.le_of_ble_eq_true rfl)) (fun v w' H1 l1 hP => hP.elim)
  · refine lv_iconst (v := 1) hx hb dX4_lot_12 (by decide) ?_
    refine lv_goto (tgt := 17) hx hb dX4_lot_13 (by decide) ?_
    refine zk_cv (zk_rS (As := [.int 1]) (rest := []) (n := 1) C (cC_exists1 l D cA A g (cw cA (g 0) ad 6 nc nc 6 nt dy mo I L)) hH_3 hS_4 gX4_lot_X4_checkExists rfl rfl (by decide +kernel) ⟨Nat.le_of_ble_eq_true rfl, Nat.le_of_ble_eq_true rfl⟩ hl_5 rfl (Nat.le_of_ble_eq_true rfl) dX4_lot_17 ⟨Nat.le_of_ble_eq_true rfl, Nat.le_of_ble_eq_true rfl⟩) hS_4 (fun w_ H locs hP hH_7 hS_8 => ?_)
    subst hP
    refine lv_iload hx hb dX4_lot_20 (lv_at hl_5 5 rfl) ?_
    refine lv_iconst (v := 0) hx hb dX4_lot_22 (by decide) ?_
    refine lv_iconst (v := 2) hx hb dX4_lot_23 (by decide) ?_
    by_cases hz_9 : zR what 0 2
    · refine zk_cv (zk_rS (As := [.int what, .int 0, .int 2]) (rest := []) (n := 3) C (cC_range1 l D cA A g (cw cA (g 0) ad 6 nc nc 6 nt dy mo I L) what 0 2 hz_9) hH_7 hS_8 gX4_lot_X4_checkRange rfl rfl (by decide +kernel) ⟨Nat.le_of_ble_eq_true rfl, Nat.le_of_ble_eq_true rfl⟩ hl_5 rfl (Nat.le_of_ble_eq_true rfl) dX4_lot_24 ⟨Nat.le_of_ble_eq_true rfl, Nat.le_of_ble_eq_true rfl⟩) hS_8 (fun w_ H locs hP hH_10 hS_11 => ?_)
      subst hP
      refine lv_iconst (v := 0) hx hb dX4_lot_27 (by decide) ?_
      refine lv_istore (lv' := [(6, .int 0), (5, .ref (ad (13, cxj, fj))), (0, .ref (ad (0, 0, 0))), (1, .int (nI cxj)), (2, .int (nI fj)), (3, .int rank), (4, .int what)]) hx hb dX4_lot_28 hl_5 (by decide) rfl (fun ls hl_12 => ?_)
      refine lv_iconst (v := 0) hx hb dX4_lot_30 (by decide) ?_
      refine lv_istore (lv' := [(7, .int 0), (6, .int 0), (5, .ref (ad (13, cxj, fj))), (0, .ref (ad (0, 0, 0))), (1, .int (nI cxj)), (2, .int (nI fj)), (3, .int rank), (4, .int what)]) hx hb dX4_lot_31 hl_12 (by decide) rfl (fun ls hl_13 => ?_)
      refine z_at (n := nt) (P := fun i_14 => lfS I L cxj fj rank what i_14 = none → zL p l e rmC_lot s m _ below meth c 9 D A _ (cw cA (g 0) ad 6 nc nc 6 nt dy mo I L) 2 12 33 [(0, .ref (ad (0, 0, 0))), (3, .int rank), (4, .int what), (5, .ref (ad (13, cxj, fj))), (6, .int (nI (lcN I L cxj fj i_14))), (7, .int (nI i_14))] []) 0 (Nat.zero_le _) (fun h => h rfl _ _ _ hH_10 hS_11 (lv_sub hl_13 [3, 6, 7, 2, 1, 0] rfl)) ?_ ?_
      · intro hp_16 H locs ls hH_17 hS_18 hl_19
        refine lv_iload hx hb dX4_lot_33 (lv_at hl_19 5 rfl) ?_
        refine lv_aload_n hx hb dX4_lot_35 rfl (lv_at hl_19 0 rfl) ?_
        refine zr_getA (ref := RX4) C hinX4 (ci := 5) rfl hH_17 (0, 0, 0) rfl rfl 2 (by decide) (by decide +kernel) (fun _ h => h) rfl dX4_lot_36 ?_ rfl
        refine zk_ci (zk_rV (As := []) (rest := [.int (nI nt)]) (n := 0) (k := (3, 0, 0)) C (cC_size l D cA A g (cw cA (g 0) ad 6 nc nc 6 nt dy mo I L) (3, 0, 0) (6, 0, 0) nt (g0 := g 0) rfl rfl) hH_17 hS_18 rfl rfl rfl gX4_lot_Jx4a65c_size_8abf5 rfl rfl (by decide +kernel) ⟨Nat.le_of_ble_eq_true rfl, Nat.le_of_ble_eq_true rfl⟩ hl_19 rfl (Nat.le_of_ble_eq_true rfl) dX4_lot_39 ⟨Nat.le_of_ble_eq_true rfl, Nat.le_of_ble_eq_true rfl⟩) hS_18 (fun r_ w_ H locs hP hH_20 hS_21 => ?_)
        obtain ⟨rfl, rfl⟩ := hP
        refine lv_icmp_ge (tgt := 128) hx hb dX4_lot_42 (by decide) (fun c_22 => ?_) (fun c_22 => absurd (Int32.le_refl _) c_22)
        refine lv_ldc2 (v := (-1)) hx hb hown (hts (.constantLong RX4 202 (-1)) (by decide +kernel)) dX4_lot_128 ?_
        refine vx_ret (zr_lret C hr ?_ hH_20 hS_21 (Nat.le_of_ble_eq_true rfl) (Nat.le_of_ble_eq_true rfl) dX4_lot_131)
        exact ⟨cxj, fj, hcxj, rfl, hfj, rfl, c_6, hz_9, by rw [hp_16]; rfl, rfl⟩
      · intro i_14 hi_14 ih_15 hp_23 H locs ls hH_24 hS_25 hl_26
        refine lv_iload hx hb dX4_lot_33 (lv_at hl_26 5 rfl) ?_
        refine lv_aload_n hx hb dX4_lot_35 rfl (lv_at hl_26 0 rfl) ?_
        refine zr_getA (ref := RX4) C hinX4 (ci := 5) rfl hH_24 (0, 0, 0) rfl rfl 2 (by decide) (by decide +kernel) (fun _ h => h) rfl dX4_lot_36 ?_ rfl
        refine zk_ci (zk_rV (As := []) (rest := [.int (nI i_14)]) (n := 0) (k := (3, 0, 0)) C (cC_size l D cA A g (cw cA (g 0) ad 6 nc nc 6 nt dy mo I L) (3, 0, 0) (6, 0, 0) nt (g0 := g 0) rfl rfl) hH_24 hS_25 rfl rfl rfl gX4_lot_Jx4a65c_size_8abf5 rfl rfl (by decide +kernel) ⟨Nat.le_of_ble_eq_true rfl, Nat.le_of_ble_eq_true rfl⟩ hl_26 rfl (Nat.le_of_ble_eq_true rfl) dX4_lot_39 ⟨Nat.le_of_ble_eq_true rfl, Nat.le_of_ble_eq_true rfl⟩) hS_25 (fun r_ w_ H locs hP hH_27 hS_28 => ?_)
        obtain ⟨rfl, rfl⟩ := hP
        refine lv_icmp_ge (tgt := 128) hx hb dX4_lot_42 (by decide) (fun c_29 => absurd c_29 (nI_ge hi_14 (by first | decide | omega))) (fun c_29 => ?_)
        refine lv_aload_n hx hb dX4_lot_45 rfl (lv_at hl_26 0 rfl) ?_
        refine zr_getA (ref := RX4) C hinX4 (ci := 5) rfl hH_27 (0, 0, 0) rfl rfl 2 (by decide) (by decide +kernel) (fun _ h => h) rfl dX4_lot_46 ?_ rfl
        refine lv_iload hx hb dX4_lot_49 (lv_at hl_26 5 rfl) ?_
        refine zk_cr (zk_rV (As := [.int (nI i_14)]) (rest := []) (n := 1) (k := (3, 0, 0)) C (cC_get l D cA A g (cw cA (g 0) ad 6 nc nc 6 nt dy mo I L) (3, 0, 0) (6, 0, 0) (fun j => (14, j, 0)) nt i_14 (g0 := g 0) rfl rfl (cl_6 (by omega)) rfl (by omega) (by omega)) hH_27 hS_28 rfl rfl rfl gX4_lot_Jx4a65c_get_915e3 rfl rfl (by decide +kernel) ⟨Nat.le_of_ble_eq_true rfl, Nat.le_of_ble_eq_true rfl⟩ hl_26 rfl (Nat.le_of_ble_eq_true rfl) dX4_lot_51 ⟨Nat.le_of_ble_eq_true rfl, Nat.le_of_ble_eq_true rfl⟩) hS_28 (fun r_ w_ H locs hP hH_30 hS_31 => ?_)
        obtain ⟨rfl, rfl⟩ := hP
        refine W.eq (g2 := F0 m 54 ls [.ref (ad (14, i_14, 0))]) rfl ?_
        refine zr_castC C (by decide +kernel) (ci := 4) rfl hH_30 (14, i_14, 0) (cl_14 (by omega)) rfl rfl dX4_lot_54 ?_
        refine lv_astore (lv' := [(8, .ref (ad (14, i_14, 0))), (0, .ref (ad (0, 0, 0))), (3, .int rank), (4, .int what), (5, .ref (ad (13, cxj, fj))), (6, .int (nI (lcN I L cxj fj i_14))), (7, .int (nI i_14))]) hx hb dX4_lot_57 hl_26 (by decide) rfl (fun ls hl_32 => ?_)
        refine lv_aload hx hb dX4_lot_59 (lv_at hl_32 0 rfl) ?_
        refine zr_getA (ref := RX3) C hinX3 (ci := 4) rfl hH_30 (14, i_14, 0) (cl_14 (by omega)) rfl 1 (by decide) (by decide +kernel) (fun _ h => h) rfl dX4_lot_61 ?_ rfl
        have h11_33 := (h11 i_14 (by omega)).2
        have h12_34 := (h12 i_14 (by omega)).2
        refine lv_aload hx hb dX4_lot_64 (lv_at hl_32 4 rfl) ?_
        refine lv_acmp_ne (rx := some (ad (13, (dN (I 11 i_14)), (dN (I 12 i_14))))) (ry := some (ad (13, cxj, fj))) (tgt := 122) hx hb dX4_lot_66 (by decide) (fun c_35 => ?_) (fun c_35 => ?_)
        · have hk_36 : ¬ ((dN (I 11 i_14)) = cxj ∧ (dN (I 12 i_14)) = fj) := fun z => c_35 (congrArg some (by rw [z.1, z.2]))
          refine lv_iinc (v := nI (i_14 + 1)) (lv' := [(7, .int (nI (i_14 + 1))), (8, .ref (ad (14, i_14, 0))), (0, .ref (ad (0, 0, 0))), (3, .int rank), (4, .int what), (5, .ref (ad (13, cxj, fj))), (6, .int (nI (lcN I L cxj fj i_14)))]) hx hb dX4_lot_122 hl_32 (k := 6) rfl (nI_1 i_14) (by decide) rfl (fun ls hl_37 => ?_)
          refine lv_goto (tgt := 33) hx hb dX4_lot_125 (by decide) ?_
          exact ih_15 (lfS_n hp_23 (fun z => (fun z => hk_36 z.1) z.1)) _ _ _ hH_30 hS_31 (by rw [lcN_n (fun z => hk_36 z.1)]; exact lv_sub hl_37 [2, 3, 4, 5, 6, 0] rfl)
        · have hk_38 := key13 (hH_30.inj (k := (13, (dN (I 11 i_14)), (dN (I 12 i_14)))) (k' := (13, cxj, fj)) (cl_13 (by omega) (by omega)) (cl_13 (by omega) (by omega)) (Option.some.inj c_35))
          refine lv_aload hx hb dX4_lot_69 (lv_at hl_32 0 rfl) ?_
          refine zr_getA (ref := RX3) C hinX3 (ci := 4) rfl hH_30 (14, i_14, 0) (cl_14 (by omega)) rfl 7 (by decide) (by decide +kernel) (fun _ h => h) rfl dX4_lot_71 ?_ rfl
          refine lv_lconst (v := 0) hx hb dX4_lot_74 (by decide) ?_
          refine zl_cmp_le (tgt := 122) hx hb dX4_lot_75 dX4_lot_76 (by decide) (fun c_39 => ?_) (fun c_39 => ?_)
          · refine lv_iinc (v := nI (i_14 + 1)) (lv' := [(7, .int (nI (i_14 + 1))), (8, .ref (ad (14, i_14, 0))), (0, .ref (ad (0, 0, 0))), (3, .int rank), (4, .int what), (5, .ref (ad (13, cxj, fj))), (6, .int (nI (lcN I L cxj fj i_14)))]) hx hb dX4_lot_122 hl_32 (k := 6) rfl (nI_1 i_14) (by decide) rfl (fun ls hl_40 => ?_)
            refine lv_goto (tgt := 33) hx hb dX4_lot_125 (by decide) ?_
            exact ih_15 (lfS_n hp_23 (fun z => (fun z => c_39 z.2) z.1)) _ _ _ hH_30 hS_31 (by rw [lcN_n (fun z => c_39 z.2)]; exact lv_sub hl_40 [2, 3, 4, 5, 6, 0] rfl)
          · refine lv_iload hx hb dX4_lot_79 (lv_at hl_32 5 rfl) ?_
            refine lv_iload_n hx hb dX4_lot_81 rfl (lv_at hl_32 2 rfl) ?_
            refine lv_icmp_ne (tgt := 119) hx hb dX4_lot_82 (by decide) (fun c_41 => ?_) (fun c_41 => ?_)
            · refine lv_iinc (v := nI ((lcN I L cxj fj i_14) + 1)) (lv' := [(6, .int (nI ((lcN I L cxj fj i_14) + 1))), (8, .ref (ad (14, i_14, 0))), (0, .ref (ad (0, 0, 0))), (3, .int rank), (4, .int what), (5, .ref (ad (13, cxj, fj))), (7, .int (nI i_14))]) hx hb dX4_lot_119 hl_32 (k := 5) rfl (nI_1 (lcN I L cxj fj i_14)) (by decide) rfl (fun ls hl_42 => ?_)
              refine lv_iinc (v := nI (i_14 + 1)) (lv' := [(7, .int (nI (i_14 + 1))), (6, .int (nI ((lcN I L cxj fj i_14) + 1))), (8, .ref (ad (14, i_14, 0))), (0, .ref (ad (0, 0, 0))), (3, .int rank), (4, .int what), (5, .ref (ad (13, cxj, fj)))]) hx hb dX4_lot_122 hl_42 (k := 6) rfl (nI_1 i_14) (by decide) rfl (fun ls hl_43 => ?_)
              refine lv_goto (tgt := 33) hx hb dX4_lot_125 (by decide) ?_
              exact ih_15 (lfS_n hp_23 (fun z => c_41 z.2)) _ _ _ hH_30 hS_31 (by rw [lcN_p ⟨hk_38, c_39⟩]; exact lv_sub hl_43 [3, 4, 5, 6, 1, 0] rfl)
            · refine lv_iload hx hb dX4_lot_85 (lv_at hl_32 3 rfl) ?_
              refine lv_if_ne (tgt := 99) hx hb dX4_lot_87 (by decide) (fun c_44 => ?_) (fun c_44 => ?_)
              · refine lv_iload hx hb dX4_lot_99 (lv_at hl_32 3 rfl) ?_
                refine lv_iconst (v := 1) hx hb dX4_lot_101 (by decide) ?_
                refine lv_icmp_ne (tgt := 113) hx hb dX4_lot_102 (by decide) (fun c_45 => ?_) (fun c_45 => ?_)
                · refine lv_aload hx hb dX4_lot_113 (lv_at hl_32 0 rfl) ?_
                  refine zr_getA (ref := RX3) C hinX3 (ci := 4) rfl hH_30 (14, i_14, 0) (cl_14 (by omega)) rfl 8 (by decide) (by decide +kernel) (fun _ h => h) rfl dX4_lot_115 ?_ rfl
                  refine vx_ret (zr_lret C hr ?_ hH_30 hS_31 (Nat.le_of_ble_eq_true rfl) (Nat.le_of_ble_eq_true rfl) dX4_lot_118)
                  have hm := lfS_mono (lfS_s (what := what) hp_23 ⟨hk_38, c_39⟩ c_41) hi_14
                  exact ⟨cxj, fj, hcxj, rfl, hfj, rfl, c_6, hz_9, by rw [hm]; exact (if_neg c_44).trans (if_neg c_45), rfl⟩
                · refine lv_aload hx hb dX4_lot_105 (lv_at hl_32 0 rfl) ?_
                  refine zr_getA (ref := RX3) C hinX3 (ci := 4) rfl hH_30 (14, i_14, 0) (cl_14 (by omega)) rfl 7 (by decide) (by decide +kernel) (fun _ h => h) rfl dX4_lot_107 ?_ rfl
                  refine lv_goto (tgt := 118) hx hb dX4_lot_110 (by decide) ?_
                  refine vx_ret (zr_lret C hr ?_ hH_30 hS_31 (Nat.le_of_ble_eq_true rfl) (Nat.le_of_ble_eq_true rfl) dX4_lot_118)
                  have hm := lfS_mono (lfS_s (what := what) hp_23 ⟨hk_38, c_39⟩ c_41) hi_14
                  exact ⟨cxj, fj, hcxj, rfl, hfj, rfl, c_6, hz_9, by rw [hm]; exact (if_neg c_44).trans (if_pos c_45), rfl⟩
              · refine lv_aload hx hb dX4_lot_90 (lv_at hl_32 0 rfl) ?_
                refine zr_getA (ref := RX3) C hinX3 (ci := 4) rfl hH_30 (14, i_14, 0) (cl_14 (by omega)) rfl 0 (by decide) (by decide +kernel) (fun _ h => h) rfl dX4_lot_92 ?_ rfl
                refine W.eq (g2 := F0 m 95 ls [.int (nI i_14)]) (rfl) ?_
                refine lv_i2l (v := Int32.toInt64 (nI i_14)) hx hb dX4_lot_95 rfl ?_
                refine lv_goto (tgt := 118) hx hb dX4_lot_96 (by decide) ?_
                refine vx_ret (zr_lret C hr ?_ hH_30 hS_31 (Nat.le_of_ble_eq_true rfl) (Nat.le_of_ble_eq_true rfl) dX4_lot_118)
                have hm := lfS_mono (lfS_s (what := what) hp_23 ⟨hk_38, c_39⟩ c_41) hi_14
                exact ⟨cxj, fj, hcxj, rfl, hfj, rfl, c_6, hz_9, by rw [hm]; exact if_pos c_44, rfl⟩
    · exact zx_c (zx_rS (As := [.int what, .int 0, .int 2]) (rest := []) (n := 3) C (cC_range0 l hst D cA A g (cw cA (g 0) ad 6 nc nc 6 nt dy mo I L) what 0 2 hz_9) hH_7 hS_8 gX4_lot_X4_checkRange rfl rfl (by decide +kernel) ⟨Nat.le_of_ble_eq_true rfl, Nat.le_of_ble_eq_true rfl⟩ hl_5 rfl (Nat.le_of_ble_eq_true rfl) dX4_lot_24 ⟨Nat.le_of_ble_eq_true rfl, Nat.le_of_ble_eq_true rfl⟩) hS_8 (zx_go C hex (fun E w' h => ⟨h.2, Or.inr ⟨⟨cxj, hcxj, rfl⟩, ⟨fj, hfj, rfl⟩, c_6, hz_9, h.1⟩⟩) (Nat.le_of_ble_eq_true rfl) (Nat.le_of_ble_eq_true rfl)) (fun v w' H1 l1 hP => hP.elim)
