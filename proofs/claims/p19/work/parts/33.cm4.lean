def rmC_salesKeepTheirParts : Room := { frames := 3, cells := 0, slots := 0, locals := 64 }
set_option maxHeartbeats 1000000 in
set_option maxRecDepth 100000 in
theorem cC_salesKeepTheirParts (l : Launch) (D : va_G) (cA : Nat → ClassId) (A : Nat → Prop) (g : Nat → Nat) (ad : zk_K → Nat) (nc nt dy : Nat) (mo : Int64) (I : zIA) (L : zLA) (t : Nat) (ht : t < nt) (hnt : nt ≤ 120) (hnc : nc ≤ 12) (h11 : ∀ t, t < nt → zD (I 11 t) nc) (h12 : ∀ t, t < nt → zD (I 12 t) 6) : zM l yX4_salesKeepTheirParts wsX4_salesKeepTheirParts rmC_salesKeepTheirParts D (zt cA) A g [.ref (ad (0, 0, 0)), .ref (ad (14, t, 0))] (cw cA (g 0) ad 6 nc nc 6 nt dy mo I L) (zQi (fun r w' => (enS (up2 I 17 t 0) L (dN (I 11 t)) (dN (I 12 t)) nt).1 = r ∧ cw cA (g 0) ad 6 nc nc 6 nt dy mo I L = w')) := by
  refine zM_of (cc := cX4_salesKeepTheirParts) (maxL := 6) (ret := (some .boolean)) (own := RX4) (by decide +kernel) rfl (Nat.le_of_ble_eq_true rfl) rfl ?_
  intro p e s m below meth c C hr hnm H locs ls hH hS hl
  obtain ⟨⟨hx, hb, hml, hown, hts⟩, hG, hlk⟩ := id C
  have hinX3 : ∀ w ∈ wsX30, w ∈ wsX4_salesKeepTheirParts := by decide +kernel
  have hinX4 : ∀ w ∈ wsX40, w ∈ wsX4_salesKeepTheirParts := by decide +kernel
  have hl : lv_has ls 6 [(0, .ref (ad (0, 0, 0))), (1, .ref (ad (14, t, 0)))] := hl
  refine lv_lconst (v := 0) hx hb dX4_salesKeepTheirParts_0 (by decide) ?_
  refine lv_lstore_n (lv' := [(2, .long 0), (0, .ref (ad (0, 0, 0))), (1, .ref (ad (14, t, 0)))]) hx hb dX4_salesKeepTheirParts_1 rfl hl (by decide) rfl (fun ls hl_1 => ?_)
  refine lv_iconst (v := 0) hx hb dX4_salesKeepTheirParts_2 (by decide) ?_
  refine lv_istore (lv' := [(4, .int 0), (2, .long 0), (0, .ref (ad (0, 0, 0))), (1, .ref (ad (14, t, 0)))]) hx hb dX4_salesKeepTheirParts_3 hl_1 (by decide) rfl (fun ls hl_2 => ?_)
  refine z_at (n := nt) (P := fun i_3 => ¬ (enS (up2 I 17 t 0) L (dN (I 11 t)) (dN (I 12 t)) i_3).1 = 0 ∧ ¬ (enS (up2 I 17 t 0) L (dN (I 11 t)) (dN (I 12 t)) i_3).2 < 0 → zL p l e rmC_salesKeepTheirParts s m _ below meth c 6 D A _ (cw cA (g 0) ad 6 nc nc 6 nt dy mo I L) 0 0 5 [(0, .ref (ad (0, 0, 0))), (1, .ref (ad (14, t, 0))), (2, .long ((enS (up2 I 17 t 0) L (dN (I 11 t)) (dN (I 12 t)) i_3).2)), (4, .int (nI i_3))] []) 0 (Nat.zero_le _) (fun h => h ⟨(show ¬ (1 : Int32) = 0 by decide), Int64.lt_irrefl⟩ _ _ _ hH hS (lv_sub hl_2 [2, 3, 1, 0] rfl)) ?_ ?_
  · intro hp_5 H locs ls hH_6 hS_7 hl_8
    refine lv_iload hx hb dX4_salesKeepTheirParts_5 (lv_at hl_8 3 rfl) ?_
    refine lv_aload_n hx hb dX4_salesKeepTheirParts_7 rfl (lv_at hl_8 0 rfl) ?_
    refine zr_getA (ref := RX4) C hinX4 (ci := 5) rfl hH_6 (0, 0, 0) rfl rfl 2 (by decide) (by decide +kernel) (fun _ h => h) rfl dX4_salesKeepTheirParts_8 ?_ rfl
    refine zk_ci (zk_rV (As := []) (rest := [.int (nI nt)]) (n := 0) (k := (3, 0, 0)) C (cC_size l D cA A g (cw cA (g 0) ad 6 nc nc 6 nt dy mo I L) (3, 0, 0) (6, 0, 0) nt (g0 := g 0) rfl rfl) hH_6 hS_7 rfl rfl rfl gX4_salesKeepTheirParts_Jx4a65c_size_8abf5 rfl rfl (by decide +kernel) ⟨Nat.le_of_ble_eq_true rfl, Nat.le_of_ble_eq_true rfl⟩ hl_8 rfl (Nat.le_of_ble_eq_true rfl) dX4_salesKeepTheirParts_11 ⟨Nat.le_of_ble_eq_true rfl, Nat.le_of_ble_eq_true rfl⟩) hS_7 (fun r_ w_ H locs hP hH_9 hS_10 => ?_)
    obtain ⟨rfl, rfl⟩ := hP
    refine lv_icmp_ge (tgt := 79) hx hb dX4_salesKeepTheirParts_14 (by decide) (fun c_11 => ?_) (fun c_11 => absurd (Int32.le_refl _) c_11)
    refine lv_iconst (v := 1) hx hb dX4_salesKeepTheirParts_79 (by decide) ?_
    refine zr_zret C hr (Or.inr rfl) ?_ hH_9 hS_10 (Nat.le_of_ble_eq_true rfl) (Nat.le_of_ble_eq_true rfl) dX4_salesKeepTheirParts_80
    exact ⟨((enS_01 nt).resolve_left hp_5.1), rfl⟩
  · intro i_3 hi_3 ih_4 hp_12 H locs ls hH_13 hS_14 hl_15
    refine lv_iload hx hb dX4_salesKeepTheirParts_5 (lv_at hl_15 3 rfl) ?_
    refine lv_aload_n hx hb dX4_salesKeepTheirParts_7 rfl (lv_at hl_15 0 rfl) ?_
    refine zr_getA (ref := RX4) C hinX4 (ci := 5) rfl hH_13 (0, 0, 0) rfl rfl 2 (by decide) (by decide +kernel) (fun _ h => h) rfl dX4_salesKeepTheirParts_8 ?_ rfl
    refine zk_ci (zk_rV (As := []) (rest := [.int (nI i_3)]) (n := 0) (k := (3, 0, 0)) C (cC_size l D cA A g (cw cA (g 0) ad 6 nc nc 6 nt dy mo I L) (3, 0, 0) (6, 0, 0) nt (g0 := g 0) rfl rfl) hH_13 hS_14 rfl rfl rfl gX4_salesKeepTheirParts_Jx4a65c_size_8abf5 rfl rfl (by decide +kernel) ⟨Nat.le_of_ble_eq_true rfl, Nat.le_of_ble_eq_true rfl⟩ hl_15 rfl (Nat.le_of_ble_eq_true rfl) dX4_salesKeepTheirParts_11 ⟨Nat.le_of_ble_eq_true rfl, Nat.le_of_ble_eq_true rfl⟩) hS_14 (fun r_ w_ H locs hP hH_16 hS_17 => ?_)
    obtain ⟨rfl, rfl⟩ := hP
    refine lv_icmp_ge (tgt := 79) hx hb dX4_salesKeepTheirParts_14 (by decide) (fun c_18 => absurd c_18 (nI_ge hi_3 (by first | decide | omega))) (fun c_18 => ?_)
    refine lv_aload_n hx hb dX4_salesKeepTheirParts_17 rfl (lv_at hl_15 0 rfl) ?_
    refine zr_getA (ref := RX4) C hinX4 (ci := 5) rfl hH_16 (0, 0, 0) rfl rfl 2 (by decide) (by decide +kernel) (fun _ h => h) rfl dX4_salesKeepTheirParts_18 ?_ rfl
    refine lv_iload hx hb dX4_salesKeepTheirParts_21 (lv_at hl_15 3 rfl) ?_
    refine zk_cr (zk_rV (As := [.int (nI i_3)]) (rest := []) (n := 1) (k := (3, 0, 0)) C (cC_get l D cA A g (cw cA (g 0) ad 6 nc nc 6 nt dy mo I L) (3, 0, 0) (6, 0, 0) (fun j => (14, j, 0)) nt i_3 (g0 := g 0) rfl rfl (cl_6 (by omega)) rfl (by omega) (by omega)) hH_16 hS_17 rfl rfl rfl gX4_salesKeepTheirParts_Jx4a65c_get_915e3 rfl rfl (by decide +kernel) ⟨Nat.le_of_ble_eq_true rfl, Nat.le_of_ble_eq_true rfl⟩ hl_15 rfl (Nat.le_of_ble_eq_true rfl) dX4_salesKeepTheirParts_23 ⟨Nat.le_of_ble_eq_true rfl, Nat.le_of_ble_eq_true rfl⟩) hS_17 (fun r_ w_ H locs hP hH_19 hS_20 => ?_)
    obtain ⟨rfl, rfl⟩ := hP
    refine W.eq (g2 := F0 m 26 ls [.ref (ad (14, i_3, 0))]) rfl ?_
    refine zr_castC C (by decide +kernel) (ci := 4) rfl hH_19 (14, i_3, 0) (cl_14 (by omega)) rfl rfl dX4_salesKeepTheirParts_26 ?_
    refine lv_astore (lv' := [(5, .ref (ad (14, i_3, 0))), (0, .ref (ad (0, 0, 0))), (1, .ref (ad (14, t, 0))), (2, .long ((enS (up2 I 17 t 0) L (dN (I 11 t)) (dN (I 12 t)) i_3).2)), (4, .int (nI i_3))]) hx hb dX4_salesKeepTheirParts_29 hl_15 (by decide) rfl (fun ls hl_21 => ?_)
    refine lv_aload hx hb dX4_salesKeepTheirParts_31 (lv_at hl_21 0 rfl) ?_
    refine zr_getA (ref := RX3) C hinX3 (ci := 4) rfl hH_19 (14, i_3, 0) (cl_14 (by omega)) rfl 1 (by decide) (by decide +kernel) (fun _ h => h) rfl dX4_salesKeepTheirParts_33 ?_ rfl
    have h11_22 := (h11 i_3 (by omega)).2
    have h12_23 := (h12 i_3 (by omega)).2
    refine lv_aload_n hx hb dX4_salesKeepTheirParts_36 rfl (lv_at hl_21 2 rfl) ?_
    refine zr_getA (ref := RX3) C hinX3 (ci := 4) rfl hH_19 (14, t, 0) (cl_14 (by omega)) rfl 1 (by decide) (by decide +kernel) (fun _ h => h) rfl dX4_salesKeepTheirParts_37 ?_ rfl
    have h11_24 := (h11 t (by omega)).2
    have h12_25 := (h12 t (by omega)).2
    refine lv_acmp_ne (rx := some (ad (13, (dN (I 11 i_3)), (dN (I 12 i_3))))) (ry := some (ad (13, (dN (I 11 t)), (dN (I 12 t))))) (tgt := 73) hx hb dX4_salesKeepTheirParts_40 (by decide) (fun c_26 => ?_) (fun c_26 => ?_)
    · have hk_27 : ¬ ((dN (I 11 i_3)) = (dN (I 11 t)) ∧ (dN (I 12 i_3)) = (dN (I 12 t))) := fun z => c_26 (congrArg some (by rw [z.1, z.2]))
      refine lv_iinc (v := nI (i_3 + 1)) (lv' := [(4, .int (nI (i_3 + 1))), (5, .ref (ad (14, i_3, 0))), (0, .ref (ad (0, 0, 0))), (1, .ref (ad (14, t, 0))), (2, .long ((enS (up2 I 17 t 0) L (dN (I 11 t)) (dN (I 12 t)) i_3).2))]) hx hb dX4_salesKeepTheirParts_73 hl_21 (k := 4) rfl (nI_1 i_3) (by decide) rfl (fun ls hl_28 => ?_)
      refine lv_goto (tgt := 5) hx hb dX4_salesKeepTheirParts_76 (by decide) ?_
      have he := enS_keep hp_12 (if_neg (fun z => hk_27 ⟨(zD_eq (h11 i_3 hi_3) (by omega)).mp (by rw [← z.2.1, up2_ne (show (11 : Nat) ≠ 17 by decide)]), (zD_eq (h12 i_3 hi_3) (by omega)).mp (by rw [← z.2.2, up2_ne (show (12 : Nat) ≠ 17 by decide)])⟩))
      exact ih_4 (by rw [he]; exact ⟨(show ¬ (1 : Int32) = 0 by decide), hp_12.2⟩) _ _ _ hH_19 hS_20 (by rw [he]; exact lv_sub hl_28 [2, 3, 4, 0] rfl)
    · have hk_29 := key13 (hH_19.inj (k := (13, (dN (I 11 i_3)), (dN (I 12 i_3)))) (k' := (13, (dN (I 11 t)), (dN (I 12 t)))) (cl_13 (by omega) (by omega)) (cl_13 (by omega) (by omega)) (Option.some.inj c_26))
      refine lv_aload hx hb dX4_salesKeepTheirParts_43 (lv_at hl_21 0 rfl) ?_
      refine zr_getA (ref := RX3) C hinX3 (ci := 4) rfl hH_19 (14, i_3, 0) (cl_14 (by omega)) rfl 6 (by decide) (by decide +kernel) (fun _ h => h) rfl dX4_salesKeepTheirParts_45 ?_ rfl
      refine lv_if_eq (tgt := 73) hx hb dX4_salesKeepTheirParts_48 (by decide) (fun c_30 => ?_) (fun c_30 => ?_)
      · refine lv_iinc (v := nI (i_3 + 1)) (lv' := [(4, .int (nI (i_3 + 1))), (5, .ref (ad (14, i_3, 0))), (0, .ref (ad (0, 0, 0))), (1, .ref (ad (14, t, 0))), (2, .long ((enS (up2 I 17 t 0) L (dN (I 11 t)) (dN (I 12 t)) i_3).2))]) hx hb dX4_salesKeepTheirParts_73 hl_21 (k := 4) rfl (nI_1 i_3) (by decide) rfl (fun ls hl_31 => ?_)
        refine lv_goto (tgt := 5) hx hb dX4_salesKeepTheirParts_76 (by decide) ?_
        have he := enS_keep hp_12 (if_neg (fun z => z.1 (show (if _ then _ else _) = _ by split <;> first | rfl | exact c_30)))
        exact ih_4 (by rw [he]; exact ⟨(show ¬ (1 : Int32) = 0 by decide), hp_12.2⟩) _ _ _ hH_19 hS_20 (by rw [he]; exact lv_sub hl_31 [2, 3, 4, 0] rfl)
      · refine lv_aload hx hb dX4_salesKeepTheirParts_51 (lv_at hl_21 0 rfl) ?_
        refine lv_aload_n hx hb dX4_salesKeepTheirParts_53 rfl (lv_at hl_21 2 rfl) ?_
        refine lv_acmp_eq (rx := some (ad (14, i_3, 0))) (ry := some (ad (14, t, 0))) (tgt := 73) hx hb dX4_salesKeepTheirParts_54 (by decide) (fun c_32 => ?_) (fun c_32 => ?_)
        · have hk_33 := key14 (hH_19.inj (k := (14, i_3, 0)) (k' := (14, t, 0)) (cl_14 (by omega)) (cl_14 (by omega)) (Option.some.inj c_32))
          refine lv_iinc (v := nI (i_3 + 1)) (lv' := [(4, .int (nI (i_3 + 1))), (5, .ref (ad (14, i_3, 0))), (0, .ref (ad (0, 0, 0))), (1, .ref (ad (14, t, 0))), (2, .long ((enS (up2 I 17 t 0) L (dN (I 11 t)) (dN (I 12 t)) i_3).2))]) hx hb dX4_salesKeepTheirParts_73 hl_21 (k := 4) rfl (nI_1 i_3) (by decide) rfl (fun ls hl_34 => ?_)
          refine lv_goto (tgt := 5) hx hb dX4_salesKeepTheirParts_76 (by decide) ?_
          have he := enS_keep hp_12 (if_neg (fun z => z.1 (by rw [hk_33]; exact up2_s _ _ _ _)))
          exact ih_4 (by rw [he]; exact ⟨(show ¬ (1 : Int32) = 0 by decide), hp_12.2⟩) _ _ _ hH_19 hS_20 (by rw [he]; exact lv_sub hl_34 [2, 3, 4, 0] rfl)
        · have hk_35 : ¬ (i_3 = t) := fun z => c_32 (congrArg some (by rw [z]))
          refine lv_lload_n hx hb dX4_salesKeepTheirParts_57 rfl (lv_at hl_21 3 rfl) ?_
          refine lv_aload hx hb dX4_salesKeepTheirParts_58 (lv_at hl_21 0 rfl) ?_
          refine zr_getA (ref := RX3) C hinX3 (ci := 4) rfl hH_19 (14, i_3, 0) (cl_14 (by omega)) rfl 3 (by decide) (by decide +kernel) (fun _ h => h) rfl dX4_salesKeepTheirParts_60 ?_ rfl
          refine lv_ladd hx hb dX4_salesKeepTheirParts_63 ?_
          refine lv_lstore_n (lv' := [(2, .long (((enS (up2 I 17 t 0) L (dN (I 11 t)) (dN (I 12 t)) i_3).2) + (L 13 i_3))), (5, .ref (ad (14, i_3, 0))), (0, .ref (ad (0, 0, 0))), (1, .ref (ad (14, t, 0))), (4, .int (nI i_3))]) hx hb dX4_salesKeepTheirParts_64 rfl hl_21 (by decide) rfl (fun ls hl_36 => ?_)
          refine lv_lload_n hx hb dX4_salesKeepTheirParts_65 rfl (lv_at hl_36 0 rfl) ?_
          refine lv_lconst (v := 0) hx hb dX4_salesKeepTheirParts_66 (by decide) ?_
          refine zl_cmp_ge (tgt := 73) hx hb dX4_salesKeepTheirParts_67 dX4_salesKeepTheirParts_68 (by decide) (fun c_37 => ?_) (fun c_37 => ?_)
          · refine lv_iinc (v := nI (i_3 + 1)) (lv' := [(4, .int (nI (i_3 + 1))), (2, .long (((enS (up2 I 17 t 0) L (dN (I 11 t)) (dN (I 12 t)) i_3).2) + (L 13 i_3))), (5, .ref (ad (14, i_3, 0))), (0, .ref (ad (0, 0, 0))), (1, .ref (ad (14, t, 0)))]) hx hb dX4_salesKeepTheirParts_73 hl_36 (k := 4) rfl (nI_1 i_3) (by decide) rfl (fun ls hl_38 => ?_)
            refine lv_goto (tgt := 5) hx hb dX4_salesKeepTheirParts_76 (by decide) ?_
            have he := enS_p (if_pos ⟨by rw [up2_i hk_35]; exact c_30, by rw [up2_ne (show (11 : Nat) ≠ 17 by decide)]; exact (zD_eq (h11 i_3 hi_3) (by omega)).mpr hk_29.1, by rw [up2_ne (show (12 : Nat) ≠ 17 by decide)]; exact (zD_eq (h12 i_3 hi_3) (by omega)).mpr hk_29.2⟩) ⟨hp_12.1, c_37⟩
            exact ih_4 (by rw [he]; exact ⟨(show ¬ (1 : Int32) = 0 by decide), c_37⟩) _ _ _ hH_19 hS_20 (by rw [he]; exact lv_sub hl_38 [3, 4, 1, 0] rfl)
          · refine lv_iconst (v := 0) hx hb dX4_salesKeepTheirParts_71 (by decide) ?_
            refine zr_zret C hr (Or.inl rfl) ?_ hH_19 hS_20 (Nat.le_of_ble_eq_true rfl) (Nat.le_of_ble_eq_true rfl) dX4_salesKeepTheirParts_72
            have he := enS_n (if_pos ⟨by rw [up2_i hk_35]; exact c_30, by rw [up2_ne (show (11 : Nat) ≠ 17 by decide)]; exact (zD_eq (h11 i_3 hi_3) (by omega)).mpr hk_29.1, by rw [up2_ne (show (12 : Nat) ≠ 17 by decide)]; exact (zD_eq (h12 i_3 hi_3) (by omega)).mpr hk_29.2⟩) (fun z => z.2 c_37)
            exact ⟨enS_stay' (by rw [he]) hi_3, rfl⟩
def rmC_takeCostFromLots : Room := { frames := 3, cells := 0, slots := 0, locals := 64 }
set_option maxHeartbeats 1000000 in
set_option maxRecDepth 100000 in
theorem cC_takeCostFromLots (l : Launch) (D : va_G) (cA : Nat → ClassId) (A : Nat → Prop) (g : Nat → Nat) (ad : zk_K → Nat) (nc nt dy : Nat) (mo : Int64) (I : zIA) (L : zLA) (t : Nat) (ht : t < nt) (hnt : nt ≤ 120) (hnc : nc ≤ 12) (h11 : ∀ t, t < nt → zD (I 11 t) nc) (h12 : ∀ t, t < nt → zD (I 12 t) 6) : zM l yX4_takeCostFromLots wsX4_takeCostFromLots rmC_takeCostFromLots D (zt cA) A g [.ref (ad (0, 0, 0)), .ref (ad (14, t, 0))] (cw cA (g 0) ad 6 nc nc 6 nt dy mo I L) (zQl (fun r w' => (tcS I L (dN (I 11 t)) (dN (I 12 t)) (-(L 13 t)) t).1 = r ∧ cw cA (g 0) ad 6 nc nc 6 nt dy mo I ((tcS I L (dN (I 11 t)) (dN (I 12 t)) (-(L 13 t)) t).2.2) = w')) := by
  refine zM_of (cc := cX4_takeCostFromLots) (maxL := 12) (ret := (some .long)) (own := RX4) (by decide +kernel) rfl (Nat.le_of_ble_eq_true rfl) rfl ?_
  intro p e s m below meth c C hr hnm H locs ls hH hS hl
  obtain ⟨⟨hx, hb, hml, hown, hts⟩, hG, hlk⟩ := id C
  have hinX3 : ∀ w ∈ wsX30, w ∈ wsX4_takeCostFromLots := by decide +kernel
  have hinX4 : ∀ w ∈ wsX40, w ∈ wsX4_takeCostFromLots := by decide +kernel
  have hl : lv_has ls 12 [(0, .ref (ad (0, 0, 0))), (1, .ref (ad (14, t, 0)))] := hl
  refine lv_aload_n hx hb dX4_takeCostFromLots_0 rfl (lv_at hl 1 rfl) ?_
  refine zr_getA (ref := RX3) C hinX3 (ci := 4) rfl hH (14, t, 0) (cl_14 (by omega)) rfl 3 (by decide) (by decide +kernel) (fun _ h => h) rfl dX4_takeCostFromLots_1 ?_ rfl
  refine lv_lneg hx hb dX4_takeCostFromLots_4 ?_
  refine lv_lstore_n (lv' := [(2, .long (-(L 13 t))), (0, .ref (ad (0, 0, 0))), (1, .ref (ad (14, t, 0)))]) hx hb dX4_takeCostFromLots_5 rfl hl (by decide) rfl (fun ls hl_1 => ?_)
  refine lv_lconst (v := 0) hx hb dX4_takeCostFromLots_6 (by decide) ?_
  refine lv_lstore (lv' := [(4, .long 0), (2, .long (-(L 13 t))), (0, .ref (ad (0, 0, 0))), (1, .ref (ad (14, t, 0)))]) hx hb dX4_takeCostFromLots_7 hl_1 (by decide) rfl (fun ls hl_2 => ?_)
  refine lv_iconst (v := 0) hx hb dX4_takeCostFromLots_9 (by decide) ?_
  refine lv_istore (lv' := [(6, .int 0), (4, .long 0), (2, .long (-(L 13 t))), (0, .ref (ad (0, 0, 0))), (1, .ref (ad (14, t, 0)))]) hx hb dX4_takeCostFromLots_10 hl_2 (by decide) rfl (fun ls hl_3 => ?_)
  refine z_at (n := t) (P := fun i_4 => zL p l e rmC_takeCostFromLots s m _ below meth c 12 D A _ (cw cA (g 0) ad 6 nc nc 6 nt dy mo I ((tcS I L (dN (I 11 t)) (dN (I 12 t)) (-(L 13 t)) i_4).2.2)) 0 0 12 [(0, .ref (ad (0, 0, 0))), (1, .ref (ad (14, t, 0))), (2, .long ((tcS I L (dN (I 11 t)) (dN (I 12 t)) (-(L 13 t)) i_4).2.1)), (4, .long ((tcS I L (dN (I 11 t)) (dN (I 12 t)) (-(L 13 t)) i_4).1)), (6, .int (nI i_4))] []) 0 (Nat.zero_le _) (fun h => h _ _ _ hH hS (lv_sub hl_3 [3, 4, 2, 1, 0] rfl)) ?_ ?_
  · intro H locs ls hH_6 hS_7 hl_8
    refine lv_iload hx hb dX4_takeCostFromLots_12 (lv_at hl_8 4 rfl) ?_
    refine lv_aload_n hx hb dX4_takeCostFromLots_14 rfl (lv_at hl_8 1 rfl) ?_
    refine zr_getA (ref := RX3) C hinX3 (ci := 4) rfl hH_6 (14, t, 0) (cl_14 (by omega)) rfl 0 (by decide) (by decide +kernel) (fun _ h => h) rfl dX4_takeCostFromLots_15 ?_ rfl
    refine W.eq (g2 := F0 m 18 ls [.int (nI t), .int (nI t)]) (rfl) ?_
    refine lv_icmp_ge (tgt := 146) hx hb dX4_takeCostFromLots_18 (by decide) (fun c_9 => ?_) (fun c_9 => absurd (Int32.le_refl _) c_9)
    refine lv_lload hx hb dX4_takeCostFromLots_146 (lv_at hl_8 3 rfl) ?_
    refine zr_lret C hr ?_ hH_6 hS_7 (Nat.le_of_ble_eq_true rfl) (Nat.le_of_ble_eq_true rfl) dX4_takeCostFromLots_148
    exact ⟨rfl, rfl⟩
  · intro i_4 hi_4 ih_5 H locs ls hH_10 hS_11 hl_12
    refine lv_iload hx hb dX4_takeCostFromLots_12 (lv_at hl_12 4 rfl) ?_
    refine lv_aload_n hx hb dX4_takeCostFromLots_14 rfl (lv_at hl_12 1 rfl) ?_
    refine zr_getA (ref := RX3) C hinX3 (ci := 4) rfl hH_10 (14, t, 0) (cl_14 (by omega)) rfl 0 (by decide) (by decide +kernel) (fun _ h => h) rfl dX4_takeCostFromLots_15 ?_ rfl
    refine W.eq (g2 := F0 m 18 ls [.int (nI t), .int (nI i_4)]) (rfl) ?_
    refine lv_icmp_ge (tgt := 146) hx hb dX4_takeCostFromLots_18 (by decide) (fun c_13 => absurd c_13 (nI_ge hi_4 (by first | decide | omega))) (fun c_13 => ?_)
    refine lv_iload hx hb dX4_takeCostFromLots_21 (lv_at hl_12 4 rfl) ?_
    refine lv_aload_n hx hb dX4_takeCostFromLots_23 rfl (lv_at hl_12 0 rfl) ?_
    refine zr_getA (ref := RX4) C hinX4 (ci := 5) rfl hH_10 (0, 0, 0) rfl rfl 2 (by decide) (by decide +kernel) (fun _ h => h) rfl dX4_takeCostFromLots_24 ?_ rfl
    refine zk_ci (zk_rV (As := []) (rest := [.int (nI i_4)]) (n := 0) (k := (3, 0, 0)) C (cC_size l D cA A g (cw cA (g 0) ad 6 nc nc 6 nt dy mo I ((tcS I L (dN (I 11 t)) (dN (I 12 t)) (-(L 13 t)) i_4).2.2)) (3, 0, 0) (6, 0, 0) nt (g0 := g 0) rfl rfl) hH_10 hS_11 rfl rfl rfl gX4_takeCostFromLots_Jx4a65c_size_8abf5 rfl rfl (by decide +kernel) ⟨Nat.le_of_ble_eq_true rfl, Nat.le_of_ble_eq_true rfl⟩ hl_12 rfl (Nat.le_of_ble_eq_true rfl) dX4_takeCostFromLots_27 ⟨Nat.le_of_ble_eq_true rfl, Nat.le_of_ble_eq_true rfl⟩) hS_11 (fun r_ w_ H locs hP hH_14 hS_15 => ?_)
    obtain ⟨rfl, rfl⟩ := hP
    refine lv_icmp_ge (tgt := 146) hx hb dX4_takeCostFromLots_30 (by decide) (fun c_16 => absurd c_16 (nI_ge (by omega) (by omega))) (fun c_16 => ?_)
    refine lv_lload_n hx hb dX4_takeCostFromLots_33 rfl (lv_at hl_12 2 rfl) ?_
    refine lv_lconst (v := 0) hx hb dX4_takeCostFromLots_34 (by decide) ?_
    refine zl_cmp_le (tgt := 146) hx hb dX4_takeCostFromLots_35 dX4_takeCostFromLots_36 (by decide) (fun c_17 => ?_) (fun c_17 => ?_)
    · refine lv_lload hx hb dX4_takeCostFromLots_146 (lv_at hl_12 3 rfl) ?_
      refine zr_lret C hr ?_ hH_14 hS_15 (Nat.le_of_ble_eq_true rfl) (Nat.le_of_ble_eq_true rfl) dX4_takeCostFromLots_148
      have he := tcS_stop' (i := i_4) c_17 (Nat.le_of_lt hi_4)
      exact ⟨by rw [he], by rw [he]⟩
    · refine lv_aload_n hx hb dX4_takeCostFromLots_39 rfl (lv_at hl_12 0 rfl) ?_
      refine zr_getA (ref := RX4) C hinX4 (ci := 5) rfl hH_14 (0, 0, 0) rfl rfl 2 (by decide) (by decide +kernel) (fun _ h => h) rfl dX4_takeCostFromLots_40 ?_ rfl
      refine lv_iload hx hb dX4_takeCostFromLots_43 (lv_at hl_12 4 rfl) ?_
      refine zk_cr (zk_rV (As := [.int (nI i_4)]) (rest := []) (n := 1) (k := (3, 0, 0)) C (cC_get l D cA A g (cw cA (g 0) ad 6 nc nc 6 nt dy mo I ((tcS I L (dN (I 11 t)) (dN (I 12 t)) (-(L 13 t)) i_4).2.2)) (3, 0, 0) (6, 0, 0) (fun j => (14, j, 0)) nt i_4 (g0 := g 0) rfl rfl (cl_6 (by omega)) rfl (by omega) (by omega)) hH_14 hS_15 rfl rfl rfl gX4_takeCostFromLots_Jx4a65c_get_915e3 rfl rfl (by decide +kernel) ⟨Nat.le_of_ble_eq_true rfl, Nat.le_of_ble_eq_true rfl⟩ hl_12 rfl (Nat.le_of_ble_eq_true rfl) dX4_takeCostFromLots_45 ⟨Nat.le_of_ble_eq_true rfl, Nat.le_of_ble_eq_true rfl⟩) hS_15 (fun r_ w_ H locs hP hH_18 hS_19 => ?_)
      obtain ⟨rfl, rfl⟩ := hP
      refine W.eq (g2 := F0 m 48 ls [.ref (ad (14, i_4, 0))]) rfl ?_
      refine zr_castC C (by decide +kernel) (ci := 4) rfl hH_18 (14, i_4, 0) (cl_14 (by omega)) rfl rfl dX4_takeCostFromLots_48 ?_
      refine lv_astore (lv' := [(7, .ref (ad (14, i_4, 0))), (0, .ref (ad (0, 0, 0))), (1, .ref (ad (14, t, 0))), (2, .long ((tcS I L (dN (I 11 t)) (dN (I 12 t)) (-(L 13 t)) i_4).2.1)), (4, .long ((tcS I L (dN (I 11 t)) (dN (I 12 t)) (-(L 13 t)) i_4).1)), (6, .int (nI i_4))]) hx hb dX4_takeCostFromLots_51 hl_12 (by decide) rfl (fun ls hl_20 => ?_)
      refine lv_aload hx hb dX4_takeCostFromLots_53 (lv_at hl_20 0 rfl) ?_
      refine zr_getA (ref := RX3) C hinX3 (ci := 4) rfl hH_18 (14, i_4, 0) (cl_14 (by omega)) rfl 1 (by decide) (by decide +kernel) (fun _ h => h) rfl dX4_takeCostFromLots_55 ?_ rfl
      have h11_21 := (h11 i_4 (by omega)).2
      have h12_22 := (h12 i_4 (by omega)).2
      refine lv_aload_n hx hb dX4_takeCostFromLots_58 rfl (lv_at hl_20 2 rfl) ?_
      refine zr_getA (ref := RX3) C hinX3 (ci := 4) rfl hH_18 (14, t, 0) (cl_14 (by omega)) rfl 1 (by decide) (by decide +kernel) (fun _ h => h) rfl dX4_takeCostFromLots_59 ?_ rfl
      have h11_23 := (h11 t (by omega)).2
      have h12_24 := (h12 t (by omega)).2
      refine lv_acmp_ne (rx := some (ad (13, (dN (I 11 i_4)), (dN (I 12 i_4))))) (ry := some (ad (13, (dN (I 11 t)), (dN (I 12 t))))) (tgt := 140) hx hb dX4_takeCostFromLots_62 (by decide) (fun c_25 => ?_) (fun c_25 => ?_)
      · have hk_26 : ¬ ((dN (I 11 i_4)) = (dN (I 11 t)) ∧ (dN (I 12 i_4)) = (dN (I 12 t))) := fun z => c_25 (congrArg some (by rw [z.1, z.2]))
        refine lv_iinc (v := nI (i_4 + 1)) (lv' := [(6, .int (nI (i_4 + 1))), (7, .ref (ad (14, i_4, 0))), (0, .ref (ad (0, 0, 0))), (1, .ref (ad (14, t, 0))), (2, .long ((tcS I L (dN (I 11 t)) (dN (I 12 t)) (-(L 13 t)) i_4).2.1)), (4, .long ((tcS I L (dN (I 11 t)) (dN (I 12 t)) (-(L 13 t)) i_4).1))]) hx hb dX4_takeCostFromLots_140 hl_20 (k := 5) rfl (nI_1 i_4) (by decide) rfl (fun ls hl_27 => ?_)
        refine lv_goto (tgt := 12) hx hb dX4_takeCostFromLots_143 (by decide) ?_
        exact ih_5 _ _ _ (by rw [tcS_n (fun z => hk_26 z.2.1)]; exact hH_18) hS_19 (by rw [tcS_n (fun z => hk_26 z.2.1)]; exact lv_sub hl_27 [2, 3, 4, 5, 0] rfl)
      · have hk_28 := key13 (hH_18.inj (k := (13, (dN (I 11 i_4)), (dN (I 12 i_4)))) (k' := (13, (dN (I 11 t)), (dN (I 12 t)))) (cl_13 (by omega) (by omega)) (cl_13 (by omega) (by omega)) (Option.some.inj c_25))
        refine lv_aload hx hb dX4_takeCostFromLots_65 (lv_at hl_20 0 rfl) ?_
        refine zr_getA (ref := RX3) C hinX3 (ci := 4) rfl hH_18 (14, i_4, 0) (cl_14 (by omega)) rfl 7 (by decide) (by decide +kernel) (fun _ h => h) rfl dX4_takeCostFromLots_67 ?_ rfl
        refine lv_lconst (v := 0) hx hb dX4_takeCostFromLots_70 (by decide) ?_
        refine zl_cmp_le (tgt := 140) hx hb dX4_takeCostFromLots_71 dX4_takeCostFromLots_72 (by decide) (fun c_29 => ?_) (fun c_29 => ?_)
        · refine lv_iinc (v := nI (i_4 + 1)) (lv' := [(6, .int (nI (i_4 + 1))), (7, .ref (ad (14, i_4, 0))), (0, .ref (ad (0, 0, 0))), (1, .ref (ad (14, t, 0))), (2, .long ((tcS I L (dN (I 11 t)) (dN (I 12 t)) (-(L 13 t)) i_4).2.1)), (4, .long ((tcS I L (dN (I 11 t)) (dN (I 12 t)) (-(L 13 t)) i_4).1))]) hx hb dX4_takeCostFromLots_140 hl_20 (k := 5) rfl (nI_1 i_4) (by decide) rfl (fun ls hl_30 => ?_)
          refine lv_goto (tgt := 12) hx hb dX4_takeCostFromLots_143 (by decide) ?_
          exact ih_5 _ _ _ (by rw [tcS_n (fun z => c_29 z.2.2)]; exact hH_18) hS_19 (by rw [tcS_n (fun z => c_29 z.2.2)]; exact lv_sub hl_30 [2, 3, 4, 5, 0] rfl)
        · refine lv_lload_n hx hb dX4_takeCostFromLots_75 rfl (lv_at hl_20 3 rfl) ?_
          refine lv_aload hx hb dX4_takeCostFromLots_76 (lv_at hl_20 0 rfl) ?_
          refine zr_getA (ref := RX3) C hinX3 (ci := 4) rfl hH_18 (14, i_4, 0) (cl_14 (by omega)) rfl 7 (by decide) (by decide +kernel) (fun _ h => h) rfl dX4_takeCostFromLots_78 ?_ rfl
          refine va_mmin_long hx hb (by rw [hml]; exact hl_20.1.symm) hown (hts (.methodLink RX4 254 Lib.MathLoose.min_long.x) (by decide +kernel)) (hts (.static Lib.MathLoose.min_long.x) (by decide +kernel)) (hts (.initialized "java/lang/Math") (by decide +kernel)) (hts (.code Lib.MathLoose.min_long.x Lib.MathLoose.min_long.code 4 (some .long)) (by decide +kernel)) (Nat.le_of_ble_eq_true rfl) (Nat.le_of_ble_eq_true rfl) (Nat.le_of_ble_eq_true rfl) (Nat.le_of_ble_eq_true rfl) dX4_takeCostFromLots_81 ?_
          refine lv_lstore (lv' := [(8, .long (if (((tcS I L (dN (I 11 t)) (dN (I 12 t)) (-(L 13 t)) i_4).2.2) 31 i_4) < ((tcS I L (dN (I 11 t)) (dN (I 12 t)) (-(L 13 t)) i_4).2.1) then ((tcS I L (dN (I 11 t)) (dN (I 12 t)) (-(L 13 t)) i_4).2.2) 31 i_4 else (tcS I L (dN (I 11 t)) (dN (I 12 t)) (-(L 13 t)) i_4).2.1)), (7, .ref (ad (14, i_4, 0))), (0, .ref (ad (0, 0, 0))), (1, .ref (ad (14, t, 0))), (2, .long ((tcS I L (dN (I 11 t)) (dN (I 12 t)) (-(L 13 t)) i_4).2.1)), (4, .long ((tcS I L (dN (I 11 t)) (dN (I 12 t)) (-(L 13 t)) i_4).1)), (6, .int (nI i_4))]) hx hb dX4_takeCostFromLots_84 hl_20 (by decide) rfl (fun ls hl_31 => ?_)
          refine lv_aload hx hb dX4_takeCostFromLots_86 (lv_at hl_31 1 rfl) ?_
          refine zr_getA (ref := RX3) C hinX3 (ci := 4) rfl hH_18 (14, i_4, 0) (cl_14 (by omega)) rfl 8 (by decide) (by decide +kernel) (fun _ h => h) rfl dX4_takeCostFromLots_88 ?_ rfl
          refine lv_lload hx hb dX4_takeCostFromLots_91 (lv_at hl_31 0 rfl) ?_
          refine lv_lmul hx hb dX4_takeCostFromLots_93 ?_
          refine lv_aload hx hb dX4_takeCostFromLots_94 (lv_at hl_31 1 rfl) ?_
          refine zr_getA (ref := RX3) C hinX3 (ci := 4) rfl hH_18 (14, i_4, 0) (cl_14 (by omega)) rfl 7 (by decide) (by decide +kernel) (fun _ h => h) rfl dX4_takeCostFromLots_96 ?_ rfl
          refine zk_cl (zk_rS (As := [.long ((((tcS I L (dN (I 11 t)) (dN (I 12 t)) (-(L 13 t)) i_4).2.2) 32 i_4) * (if (((tcS I L (dN (I 11 t)) (dN (I 12 t)) (-(L 13 t)) i_4).2.2) 31 i_4) < ((tcS I L (dN (I 11 t)) (dN (I 12 t)) (-(L 13 t)) i_4).2.1) then ((tcS I L (dN (I 11 t)) (dN (I 12 t)) (-(L 13 t)) i_4).2.2) 31 i_4 else (tcS I L (dN (I 11 t)) (dN (I 12 t)) (-(L 13 t)) i_4).2.1)), .long (((tcS I L (dN (I 11 t)) (dN (I 12 t)) (-(L 13 t)) i_4).2.2) 31 i_4)]) (rest := []) (n := 2) C (cC_cutQuotient l D cA A g (cw cA (g 0) ad 6 nc nc 6 nt dy mo I ((tcS I L (dN (I 11 t)) (dN (I 12 t)) (-(L 13 t)) i_4).2.2)) ((((tcS I L (dN (I 11 t)) (dN (I 12 t)) (-(L 13 t)) i_4).2.2) 32 i_4) * (if (((tcS I L (dN (I 11 t)) (dN (I 12 t)) (-(L 13 t)) i_4).2.2) 31 i_4) < ((tcS I L (dN (I 11 t)) (dN (I 12 t)) (-(L 13 t)) i_4).2.1) then ((tcS I L (dN (I 11 t)) (dN (I 12 t)) (-(L 13 t)) i_4).2.2) 31 i_4 else (tcS I L (dN (I 11 t)) (dN (I 12 t)) (-(L 13 t)) i_4).2.1)) (((tcS I L (dN (I 11 t)) (dN (I 12 t)) (-(L 13 t)) i_4).2.2) 31 i_4)) hH_18 hS_19 gX4_takeCostFromLots_X4_cutQuotient rfl rfl (by decide +kernel) ⟨Nat.le_of_ble_eq_true rfl, Nat.le_of_ble_eq_true rfl⟩ hl_31 rfl (Nat.le_of_ble_eq_true rfl) dX4_takeCostFromLots_99 ⟨Nat.le_of_ble_eq_true rfl, Nat.le_of_ble_eq_true rfl⟩) hS_19 (fun r_32 w_33 H locs hP hH_34 hS_35 => ?_)
          obtain ⟨rfl, rfl⟩ := hP
          rw [if_neg (fun z => by have hq := c_29; rw [z] at hq; exact absurd hq Int64.lt_irrefl)]
          refine lv_lstore (lv' := [(10, .long (((((tcS I L (dN (I 11 t)) (dN (I 12 t)) (-(L 13 t)) i_4).2.2) 32 i_4) * (if (((tcS I L (dN (I 11 t)) (dN (I 12 t)) (-(L 13 t)) i_4).2.2) 31 i_4) < ((tcS I L (dN (I 11 t)) (dN (I 12 t)) (-(L 13 t)) i_4).2.1) then ((tcS I L (dN (I 11 t)) (dN (I 12 t)) (-(L 13 t)) i_4).2.2) 31 i_4 else (tcS I L (dN (I 11 t)) (dN (I 12 t)) (-(L 13 t)) i_4).2.1)) / (((tcS I L (dN (I 11 t)) (dN (I 12 t)) (-(L 13 t)) i_4).2.2) 31 i_4))), (8, .long (if (((tcS I L (dN (I 11 t)) (dN (I 12 t)) (-(L 13 t)) i_4).2.2) 31 i_4) < ((tcS I L (dN (I 11 t)) (dN (I 12 t)) (-(L 13 t)) i_4).2.1) then ((tcS I L (dN (I 11 t)) (dN (I 12 t)) (-(L 13 t)) i_4).2.2) 31 i_4 else (tcS I L (dN (I 11 t)) (dN (I 12 t)) (-(L 13 t)) i_4).2.1)), (7, .ref (ad (14, i_4, 0))), (0, .ref (ad (0, 0, 0))), (1, .ref (ad (14, t, 0))), (2, .long ((tcS I L (dN (I 11 t)) (dN (I 12 t)) (-(L 13 t)) i_4).2.1)), (4, .long ((tcS I L (dN (I 11 t)) (dN (I 12 t)) (-(L 13 t)) i_4).1)), (6, .int (nI i_4))]) hx hb dX4_takeCostFromLots_102 hl_31 (by decide) rfl (fun ls hl_36 => ?_)
          refine lv_aload hx hb dX4_takeCostFromLots_104 (lv_at hl_36 2 rfl) ?_
          refine lv_dup hx hb dX4_takeCostFromLots_106 rfl ?_
          refine zr_getA (ref := RX3) C hinX3 (ci := 4) rfl hH_34 (14, i_4, 0) (cl_14 (by omega)) rfl 7 (by decide) (by decide +kernel) (fun _ h => h) rfl dX4_takeCostFromLots_107 ?_ rfl
          refine lv_lload hx hb dX4_takeCostFromLots_110 (lv_at hl_36 1 rfl) ?_
          refine lv_lsub hx hb dX4_takeCostFromLots_112 ?_
          refine zr_putA (ref := RX3) C hinX3 (ci := 4) rfl tyX3 tyX3_ok nmX3 hH_34 hS_35 (14, i_4, 0) (cl_14 (by omega)) rfl 7 (by decide) (by decide +kernel) (fun _ h => h) rfl rfl rfl (show 7 < 9 by decide) dX4_takeCostFromLots_113 (cw cA (g 0) ad 6 nc nc 6 nt dy mo I (up2 ((tcS I L (dN (I 11 t)) (dN (I 12 t)) (-(L 13 t)) i_4).2.2) 31 i_4 ((((tcS I L (dN (I 11 t)) (dN (I 12 t)) (-(L 13 t)) i_4).2.2) 31 i_4) - (if (((tcS I L (dN (I 11 t)) (dN (I 12 t)) (-(L 13 t)) i_4).2.2) 31 i_4) < ((tcS I L (dN (I 11 t)) (dN (I 12 t)) (-(L 13 t)) i_4).2.1) then ((tcS I L (dN (I 11 t)) (dN (I 12 t)) (-(L 13 t)) i_4).2.2) 31 i_4 else (tcS I L (dN (I 11 t)) (dN (I 12 t)) (-(L 13 t)) i_4).2.1)))) (cu_pl _ _) (fun H locs hH_37 hS_38 => ?_) rfl
          refine lv_aload hx hb dX4_takeCostFromLots_116 (lv_at hl_36 2 rfl) ?_
          refine lv_dup hx hb dX4_takeCostFromLots_118 rfl ?_
          refine zr_getA (ref := RX3) C hinX3 (ci := 4) rfl hH_37 (14, i_4, 0) (cl_14 (by omega)) rfl 8 (by decide) (by decide +kernel) (fun _ h => h) rfl dX4_takeCostFromLots_119 ?_ rfl
          rw [up2_ne (show (32 : Nat) ≠ 31 by decide)]
          refine lv_lload hx hb dX4_takeCostFromLots_122 (lv_at hl_36 0 rfl) ?_
          refine lv_lsub hx hb dX4_takeCostFromLots_124 ?_
          refine zr_putA (ref := RX3) C hinX3 (ci := 4) rfl tyX3 tyX3_ok nmX3 hH_37 hS_38 (14, i_4, 0) (cl_14 (by omega)) rfl 8 (by decide) (by decide +kernel) (fun _ h => h) rfl rfl rfl (show 8 < 9 by decide) dX4_takeCostFromLots_125 (cw cA (g 0) ad 6 nc nc 6 nt dy mo I (up2 (up2 ((tcS I L (dN (I 11 t)) (dN (I 12 t)) (-(L 13 t)) i_4).2.2) 31 i_4 ((((tcS I L (dN (I 11 t)) (dN (I 12 t)) (-(L 13 t)) i_4).2.2) 31 i_4) - (if (((tcS I L (dN (I 11 t)) (dN (I 12 t)) (-(L 13 t)) i_4).2.2) 31 i_4) < ((tcS I L (dN (I 11 t)) (dN (I 12 t)) (-(L 13 t)) i_4).2.1) then ((tcS I L (dN (I 11 t)) (dN (I 12 t)) (-(L 13 t)) i_4).2.2) 31 i_4 else (tcS I L (dN (I 11 t)) (dN (I 12 t)) (-(L 13 t)) i_4).2.1))) 32 i_4 ((((tcS I L (dN (I 11 t)) (dN (I 12 t)) (-(L 13 t)) i_4).2.2) 32 i_4) - (((((tcS I L (dN (I 11 t)) (dN (I 12 t)) (-(L 13 t)) i_4).2.2) 32 i_4) * (if (((tcS I L (dN (I 11 t)) (dN (I 12 t)) (-(L 13 t)) i_4).2.2) 31 i_4) < ((tcS I L (dN (I 11 t)) (dN (I 12 t)) (-(L 13 t)) i_4).2.1) then ((tcS I L (dN (I 11 t)) (dN (I 12 t)) (-(L 13 t)) i_4).2.2) 31 i_4 else (tcS I L (dN (I 11 t)) (dN (I 12 t)) (-(L 13 t)) i_4).2.1)) / (((tcS I L (dN (I 11 t)) (dN (I 12 t)) (-(L 13 t)) i_4).2.2) 31 i_4))))) (cu_cl _ _) (fun H locs hH_39 hS_40 => ?_) rfl
          refine lv_lload_n hx hb dX4_takeCostFromLots_128 rfl (lv_at hl_36 5 rfl) ?_
          refine lv_lload hx hb dX4_takeCostFromLots_129 (lv_at hl_36 1 rfl) ?_
          refine lv_lsub hx hb dX4_takeCostFromLots_131 ?_
          refine lv_lstore_n (lv' := [(2, .long (((tcS I L (dN (I 11 t)) (dN (I 12 t)) (-(L 13 t)) i_4).2.1) - (if (((tcS I L (dN (I 11 t)) (dN (I 12 t)) (-(L 13 t)) i_4).2.2) 31 i_4) < ((tcS I L (dN (I 11 t)) (dN (I 12 t)) (-(L 13 t)) i_4).2.1) then ((tcS I L (dN (I 11 t)) (dN (I 12 t)) (-(L 13 t)) i_4).2.2) 31 i_4 else (tcS I L (dN (I 11 t)) (dN (I 12 t)) (-(L 13 t)) i_4).2.1))), (10, .long (((((tcS I L (dN (I 11 t)) (dN (I 12 t)) (-(L 13 t)) i_4).2.2) 32 i_4) * (if (((tcS I L (dN (I 11 t)) (dN (I 12 t)) (-(L 13 t)) i_4).2.2) 31 i_4) < ((tcS I L (dN (I 11 t)) (dN (I 12 t)) (-(L 13 t)) i_4).2.1) then ((tcS I L (dN (I 11 t)) (dN (I 12 t)) (-(L 13 t)) i_4).2.2) 31 i_4 else (tcS I L (dN (I 11 t)) (dN (I 12 t)) (-(L 13 t)) i_4).2.1)) / (((tcS I L (dN (I 11 t)) (dN (I 12 t)) (-(L 13 t)) i_4).2.2) 31 i_4))), (8, .long (if (((tcS I L (dN (I 11 t)) (dN (I 12 t)) (-(L 13 t)) i_4).2.2) 31 i_4) < ((tcS I L (dN (I 11 t)) (dN (I 12 t)) (-(L 13 t)) i_4).2.1) then ((tcS I L (dN (I 11 t)) (dN (I 12 t)) (-(L 13 t)) i_4).2.2) 31 i_4 else (tcS I L (dN (I 11 t)) (dN (I 12 t)) (-(L 13 t)) i_4).2.1)), (7, .ref (ad (14, i_4, 0))), (0, .ref (ad (0, 0, 0))), (1, .ref (ad (14, t, 0))), (4, .long ((tcS I L (dN (I 11 t)) (dN (I 12 t)) (-(L 13 t)) i_4).1)), (6, .int (nI i_4))]) hx hb dX4_takeCostFromLots_132 rfl hl_36 (by decide) rfl (fun ls hl_41 => ?_)
          refine lv_lload hx hb dX4_takeCostFromLots_133 (lv_at hl_41 6 rfl) ?_
          refine lv_lload hx hb dX4_takeCostFromLots_135 (lv_at hl_41 1 rfl) ?_
          refine lv_ladd hx hb dX4_takeCostFromLots_137 ?_
          refine lv_lstore (lv' := [(4, .long (((tcS I L (dN (I 11 t)) (dN (I 12 t)) (-(L 13 t)) i_4).1) + (((((tcS I L (dN (I 11 t)) (dN (I 12 t)) (-(L 13 t)) i_4).2.2) 32 i_4) * (if (((tcS I L (dN (I 11 t)) (dN (I 12 t)) (-(L 13 t)) i_4).2.2) 31 i_4) < ((tcS I L (dN (I 11 t)) (dN (I 12 t)) (-(L 13 t)) i_4).2.1) then ((tcS I L (dN (I 11 t)) (dN (I 12 t)) (-(L 13 t)) i_4).2.2) 31 i_4 else (tcS I L (dN (I 11 t)) (dN (I 12 t)) (-(L 13 t)) i_4).2.1)) / (((tcS I L (dN (I 11 t)) (dN (I 12 t)) (-(L 13 t)) i_4).2.2) 31 i_4)))), (2, .long (((tcS I L (dN (I 11 t)) (dN (I 12 t)) (-(L 13 t)) i_4).2.1) - (if (((tcS I L (dN (I 11 t)) (dN (I 12 t)) (-(L 13 t)) i_4).2.2) 31 i_4) < ((tcS I L (dN (I 11 t)) (dN (I 12 t)) (-(L 13 t)) i_4).2.1) then ((tcS I L (dN (I 11 t)) (dN (I 12 t)) (-(L 13 t)) i_4).2.2) 31 i_4 else (tcS I L (dN (I 11 t)) (dN (I 12 t)) (-(L 13 t)) i_4).2.1))), (10, .long (((((tcS I L (dN (I 11 t)) (dN (I 12 t)) (-(L 13 t)) i_4).2.2) 32 i_4) * (if (((tcS I L (dN (I 11 t)) (dN (I 12 t)) (-(L 13 t)) i_4).2.2) 31 i_4) < ((tcS I L (dN (I 11 t)) (dN (I 12 t)) (-(L 13 t)) i_4).2.1) then ((tcS I L (dN (I 11 t)) (dN (I 12 t)) (-(L 13 t)) i_4).2.2) 31 i_4 else (tcS I L (dN (I 11 t)) (dN (I 12 t)) (-(L 13 t)) i_4).2.1)) / (((tcS I L (dN (I 11 t)) (dN (I 12 t)) (-(L 13 t)) i_4).2.2) 31 i_4))), (8, .long (if (((tcS I L (dN (I 11 t)) (dN (I 12 t)) (-(L 13 t)) i_4).2.2) 31 i_4) < ((tcS I L (dN (I 11 t)) (dN (I 12 t)) (-(L 13 t)) i_4).2.1) then ((tcS I L (dN (I 11 t)) (dN (I 12 t)) (-(L 13 t)) i_4).2.2) 31 i_4 else (tcS I L (dN (I 11 t)) (dN (I 12 t)) (-(L 13 t)) i_4).2.1)), (7, .ref (ad (14, i_4, 0))), (0, .ref (ad (0, 0, 0))), (1, .ref (ad (14, t, 0))), (6, .int (nI i_4))]) hx hb dX4_takeCostFromLots_138 hl_41 (by decide) rfl (fun ls hl_42 => ?_)
          refine lv_iinc (v := nI (i_4 + 1)) (lv' := [(6, .int (nI (i_4 + 1))), (4, .long (((tcS I L (dN (I 11 t)) (dN (I 12 t)) (-(L 13 t)) i_4).1) + (((((tcS I L (dN (I 11 t)) (dN (I 12 t)) (-(L 13 t)) i_4).2.2) 32 i_4) * (if (((tcS I L (dN (I 11 t)) (dN (I 12 t)) (-(L 13 t)) i_4).2.2) 31 i_4) < ((tcS I L (dN (I 11 t)) (dN (I 12 t)) (-(L 13 t)) i_4).2.1) then ((tcS I L (dN (I 11 t)) (dN (I 12 t)) (-(L 13 t)) i_4).2.2) 31 i_4 else (tcS I L (dN (I 11 t)) (dN (I 12 t)) (-(L 13 t)) i_4).2.1)) / (((tcS I L (dN (I 11 t)) (dN (I 12 t)) (-(L 13 t)) i_4).2.2) 31 i_4)))), (2, .long (((tcS I L (dN (I 11 t)) (dN (I 12 t)) (-(L 13 t)) i_4).2.1) - (if (((tcS I L (dN (I 11 t)) (dN (I 12 t)) (-(L 13 t)) i_4).2.2) 31 i_4) < ((tcS I L (dN (I 11 t)) (dN (I 12 t)) (-(L 13 t)) i_4).2.1) then ((tcS I L (dN (I 11 t)) (dN (I 12 t)) (-(L 13 t)) i_4).2.2) 31 i_4 else (tcS I L (dN (I 11 t)) (dN (I 12 t)) (-(L 13 t)) i_4).2.1))), (10, .long (((((tcS I L (dN (I 11 t)) (dN (I 12 t)) (-(L 13 t)) i_4).2.2) 32 i_4) * (if (((tcS I L (dN (I 11 t)) (dN (I 12 t)) (-(L 13 t)) i_4).2.2) 31 i_4) < ((tcS I L (dN (I 11 t)) (dN (I 12 t)) (-(L 13 t)) i_4).2.1) then ((tcS I L (dN (I 11 t)) (dN (I 12 t)) (-(L 13 t)) i_4).2.2) 31 i_4 else (tcS I L (dN (I 11 t)) (dN (I 12 t)) (-(L 13 t)) i_4).2.1)) / (((tcS I L (dN (I 11 t)) (dN (I 12 t)) (-(L 13 t)) i_4).2.2) 31 i_4))), (8, .long (if (((tcS I L (dN (I 11 t)) (dN (I 12 t)) (-(L 13 t)) i_4).2.2) 31 i_4) < ((tcS I L (dN (I 11 t)) (dN (I 12 t)) (-(L 13 t)) i_4).2.1) then ((tcS I L (dN (I 11 t)) (dN (I 12 t)) (-(L 13 t)) i_4).2.2) 31 i_4 else (tcS I L (dN (I 11 t)) (dN (I 12 t)) (-(L 13 t)) i_4).2.1)), (7, .ref (ad (14, i_4, 0))), (0, .ref (ad (0, 0, 0))), (1, .ref (ad (14, t, 0)))]) hx hb dX4_takeCostFromLots_140 hl_42 (k := 7) rfl (nI_1 i_4) (by decide) rfl (fun ls hl_43 => ?_)
          refine lv_goto (tgt := 12) hx hb dX4_takeCostFromLots_143 (by decide) ?_
          exact ih_5 _ _ _ (by rw [tcS_p ⟨c_17, hk_28, c_29⟩]; exact hH_39) hS_40 (by rw [tcS_p ⟨c_17, hk_28, c_29⟩]; exact lv_sub hl_43 [6, 7, 2, 1, 0] rfl)
def rmC_enterIntoLots : Room := { frames := 4, cells := 0, slots := 0, locals := 95 }
set_option maxHeartbeats 1000000 in
set_option maxRecDepth 100000 in
theorem cC_enterIntoLots (l : Launch) (D : va_G) (cA : Nat → ClassId) (A : Nat → Prop) (g : Nat → Nat) (ad : zk_K → Nat) (nc nt dy : Nat) (mo : Int64) (I : zIA) (L : zLA) (t : Nat) (ht : t < nt) (hnt : nt ≤ 120) (hnc : nc ≤ 12) (h11 : ∀ t, t < nt → zD (I 11 t) nc) (h12 : ∀ t, t < nt → zD (I 12 t) 6) (h16 : ∀ t, t < nt → zD (I 16 t) 7201) : zM l yX4_enterIntoLots wsX4_enterIntoLots rmC_enterIntoLots D (zt cA) A g [.ref (ad (0, 0, 0)), .ref (ad (14, t, 0))] (cw cA (g 0) ad 6 nc nc 6 nt dy mo I L) (zQv (fun w' => cw cA (g 0) ad 6 nc nc 6 nt dy mo I (elS I L t) = w')) := by
  refine zM_of (cc := cX4_enterIntoLots) (maxL := 2) (ret := none) (own := RX4) (by decide +kernel) rfl (Nat.le_of_ble_eq_true rfl) rfl ?_
  intro p e s m below meth c C hr hnm H locs ls hH hS hl
  obtain ⟨⟨hx, hb, hml, hown, hts⟩, hG, hlk⟩ := id C
  have hinX2 : ∀ w ∈ wsX20, w ∈ wsX4_enterIntoLots := by decide +kernel
  have hinX3 : ∀ w ∈ wsX30, w ∈ wsX4_enterIntoLots := by decide +kernel
  have hl : lv_has ls 2 [(0, .ref (ad (0, 0, 0))), (1, .ref (ad (14, t, 0)))] := hl
  refine lv_aload_n hx hb dX4_enterIntoLots_0 rfl (lv_at hl 1 rfl) ?_
  refine zk_ci (zk_rV (As := []) (rest := []) (n := 0) (k := (14, t, 0)) C (cC_isSale l D cA A g ad nc nt dy mo I L t (by omega)) hH hS (cl_14 (by omega)) rfl rfl gX4_enterIntoLots_X3_isSale rfl rfl (by decide +kernel) ⟨Nat.le_of_ble_eq_true rfl, Nat.le_of_ble_eq_true rfl⟩ hl rfl (Nat.le_of_ble_eq_true rfl) dX4_enterIntoLots_1 ⟨Nat.le_of_ble_eq_true rfl, Nat.le_of_ble_eq_true rfl⟩) hS (fun r_1 w_2 H locs hP hH_3 hS_4 => ?_)
  obtain ⟨rfl, (⟨rfl, h_r_1⟩ | ⟨rfl, h_r_1⟩)⟩ := hP
  · refine lv_if_eq (tgt := 38) hx hb dX4_enterIntoLots_4 (by decide) (fun c_5 => absurd c_5 (by decide)) (fun c_5 => ?_)
    refine lv_aload_n hx hb dX4_enterIntoLots_7 rfl (lv_at hl 1 rfl) ?_
    refine zr_getA (ref := RX3) C hinX3 (ci := 4) rfl hH_3 (14, t, 0) (cl_14 (by omega)) rfl 1 (by decide) (by decide +kernel) (fun _ h => h) rfl dX4_enterIntoLots_8 ?_ rfl
    have h11_6 := (h11 t (by omega)).2
    have h12_7 := (h12 t (by omega)).2
    refine zr_getA (ref := RX2) C hinX2 (ci := 3) rfl hH_3 (13, (dN (I 11 t)), (dN (I 12 t))) (cl_13 (by omega) (by omega)) rfl 0 (by decide) (by decide +kernel) (fun _ h => h) rfl dX4_enterIntoLots_11 ?_ rfl
    refine lv_aload_n hx hb dX4_enterIntoLots_14 rfl (lv_at hl 1 rfl) ?_
    refine zr_getA (ref := RX3) C hinX3 (ci := 4) rfl hH_3 (14, t, 0) (cl_14 (by omega)) rfl 2 (by decide) (by decide +kernel) (fun _ h => h) rfl dX4_enterIntoLots_15 ?_ rfl
    have hd_8 := h16 t (by omega)
    have hd_8b := hd_8.2
    refine W.eq (g2 := F0 m 18 ls [.int (nI (dN (I 16 t))), .ref (ad (8, (dN (I 11 t)), 0))]) (by rw [← hd_8.1]) ?_
    refine zk_ci (zk_rS (As := [.int (nI (dN (I 16 t)))]) (rest := [.ref (ad (8, (dN (I 11 t)), 0))]) (n := 1) C (cC_yearOf l D cA A g (cw cA (g 0) ad 6 nc nc 6 nt dy mo I L) (dN (I 16 t)) (by omega)) hH_3 hS_4 gX4_enterIntoLots_X4_yearOf rfl rfl (by decide +kernel) ⟨Nat.le_of_ble_eq_true rfl, Nat.le_of_ble_eq_true rfl⟩ hl rfl (Nat.le_of_ble_eq_true rfl) dX4_enterIntoLots_18 ⟨Nat.le_of_ble_eq_true rfl, Nat.le_of_ble_eq_true rfl⟩) hS_4 (fun r_9 w_10 H locs hP hH_11 hS_12 => ?_)
    obtain ⟨rfl, rfl⟩ := hP
    refine lv_aload_n hx hb dX4_enterIntoLots_21 rfl (lv_at hl 1 rfl) ?_
    refine zk_cl (zk_rV (As := []) (rest := [.int (nI ((dN (I 16 t)) / 360)), .ref (ad (8, (dN (I 11 t)), 0))]) (n := 0) (k := (14, t, 0)) C (cC_paid l D cA A g ad nc nt dy mo I L t (by omega)) hH_11 hS_12 (cl_14 (by omega)) rfl rfl gX4_enterIntoLots_X3_paid rfl rfl (by decide +kernel) ⟨Nat.le_of_ble_eq_true rfl, Nat.le_of_ble_eq_true rfl⟩ hl rfl (Nat.le_of_ble_eq_true rfl) dX4_enterIntoLots_22 ⟨Nat.le_of_ble_eq_true rfl, Nat.le_of_ble_eq_true rfl⟩) hS_12 (fun r_13 w_14 H locs hP hH_15 hS_16 => ?_)
    obtain ⟨rfl, rfl⟩ := hP
    refine lv_lneg hx hb dX4_enterIntoLots_25 ?_
    refine lv_aload_n hx hb dX4_enterIntoLots_26 rfl (lv_at hl 0 rfl) ?_
    refine lv_aload_n hx hb dX4_enterIntoLots_27 rfl (lv_at hl 1 rfl) ?_
    refine zk_cl (zk_rV (As := [.ref (ad (14, t, 0))]) (rest := [.long (-(payT L t)), .int (nI ((dN (I 16 t)) / 360)), .ref (ad (8, (dN (I 11 t)), 0))]) (n := 1) (k := (0, 0, 0)) C (cC_takeCostFromLots l D cA A g ad nc nt dy mo I L t (by omega) hnt hnc h11 h12) hH_15 hS_16 rfl rfl rfl gX4_enterIntoLots_X4_takeCostFromLots rfl rfl (by decide +kernel) ⟨Nat.le_of_ble_eq_true rfl, Nat.le_of_ble_eq_true rfl⟩ hl rfl (Nat.le_of_ble_eq_true rfl) dX4_enterIntoLots_28 ⟨Nat.le_of_ble_eq_true rfl, Nat.le_of_ble_eq_true rfl⟩) hS_16 (fun r_17 w_18 H locs hP hH_19 hS_20 => ?_)
    obtain ⟨rfl, rfl⟩ := hP
    refine lv_lsub hx hb dX4_enterIntoLots_31 ?_
    refine zk_cv (zk_rS (As := [.ref (ad (8, (dN (I 11 t)), 0)), .int (nI ((dN (I 16 t)) / 360)), .long ((-(payT L t)) - ((tcS I L (dN (I 11 t)) (dN (I 12 t)) (-(L 13 t)) t).1))]) (rest := []) (n := 3) C (cC_addGain l D cA A g ad nc nt dy mo I ((tcS I L (dN (I 11 t)) (dN (I 12 t)) (-(L 13 t)) t).2.2) (dN (I 11 t)) ((dN (I 16 t)) / 360) ((-(payT L t)) - ((tcS I L (dN (I 11 t)) (dN (I 12 t)) (-(L 13 t)) t).1)) (by omega) (by omega)) hH_19 hS_20 gX4_enterIntoLots_X4_addGain rfl rfl (by decide +kernel) ⟨Nat.le_of_ble_eq_true rfl, Nat.le_of_ble_eq_true rfl⟩ hl rfl (Nat.le_of_ble_eq_true rfl) dX4_enterIntoLots_32 ⟨Nat.le_of_ble_eq_true rfl, Nat.le_of_ble_eq_true rfl⟩) hS_20 (fun w_22 H locs hP hH_23 hS_24 => ?_)
    subst hP
    refine lv_goto (tgt := 54) hx hb dX4_enterIntoLots_35 (by decide) ?_
    refine zr_vret C hr ?_ hH_23 hS_24 (Nat.le_of_ble_eq_true rfl) (Nat.le_of_ble_eq_true rfl) dX4_enterIntoLots_54
    unfold elS
    rw [if_pos h_r_1]
  · refine lv_if_eq (tgt := 38) hx hb dX4_enterIntoLots_4 (by decide) (fun c_25 => ?_) (fun c_25 => absurd c_25 (by decide))
    refine lv_aload_n hx hb dX4_enterIntoLots_38 rfl (lv_at hl 1 rfl) ?_
    refine lv_aload_n hx hb dX4_enterIntoLots_39 rfl (lv_at hl 1 rfl) ?_
    refine zr_getA (ref := RX3) C hinX3 (ci := 4) rfl hH_3 (14, t, 0) (cl_14 (by omega)) rfl 3 (by decide) (by decide +kernel) (fun _ h => h) rfl dX4_enterIntoLots_40 ?_ rfl
    refine zr_putA (ref := RX3) C hinX3 (ci := 4) rfl tyX3 tyX3_ok nmX3 hH_3 hS_4 (14, t, 0) (cl_14 (by omega)) rfl 7 (by decide) (by decide +kernel) (fun _ h => h) rfl rfl rfl (show 7 < 9 by decide) dX4_enterIntoLots_43 (cw cA (g 0) ad 6 nc nc 6 nt dy mo I (up2 L 31 t (L 13 t))) (cu_pl _ _) (fun H locs hH_26 hS_27 => ?_) rfl
    refine lv_aload_n hx hb dX4_enterIntoLots_46 rfl (lv_at hl 1 rfl) ?_
    refine lv_aload_n hx hb dX4_enterIntoLots_47 rfl (lv_at hl 1 rfl) ?_
    refine zk_cl (zk_rV (As := []) (rest := [.ref (ad (14, t, 0))]) (n := 0) (k := (14, t, 0)) C (cC_paid l D cA A g ad nc nt dy mo I (up2 L 31 t (L 13 t)) t (by omega)) hH_26 hS_27 (cl_14 (by omega)) rfl rfl gX4_enterIntoLots_X3_paid rfl rfl (by decide +kernel) ⟨Nat.le_of_ble_eq_true rfl, Nat.le_of_ble_eq_true rfl⟩ hl rfl (Nat.le_of_ble_eq_true rfl) dX4_enterIntoLots_48 ⟨Nat.le_of_ble_eq_true rfl, Nat.le_of_ble_eq_true rfl⟩) hS_27 (fun r_28 w_29 H locs hP hH_30 hS_31 => ?_)
    obtain ⟨rfl, rfl⟩ := hP
    refine zr_putA (ref := RX3) C hinX3 (ci := 4) rfl tyX3 tyX3_ok nmX3 hH_30 hS_31 (14, t, 0) (cl_14 (by omega)) rfl 8 (by decide) (by decide +kernel) (fun _ h => h) rfl rfl rfl (show 8 < 9 by decide) dX4_enterIntoLots_51 (cw cA (g 0) ad 6 nc nc 6 nt dy mo I (up2 (up2 L 31 t (L 13 t)) 32 t (payT (up2 L 31 t (L 13 t)) t))) (cu_cl _ _) (fun H locs hH_32 hS_33 => ?_) rfl
    refine zr_vret C hr ?_ hH_32 hS_33 (Nat.le_of_ble_eq_true rfl) (Nat.le_of_ble_eq_true rfl) dX4_enterIntoLots_54
    unfold elS
    rw [if_neg h_r_1, payT_31]
def rmC_findLotsAnew : Room := { frames := 5, cells := 0, slots := 0, locals := 116 }
set_option maxHeartbeats 1000000 in
set_option maxRecDepth 100000 in
theorem cC_findLotsAnew (l : Launch) (D : va_G) (cA : Nat → ClassId) (A : Nat → Prop) (g : Nat → Nat) (ad : zk_K → Nat) (nc nt dy : Nat) (mo : Int64) (I : zIA) (L : zLA) (cc : Nat) (hc : cc < nc) (hnt : nt ≤ 120) (hnc : nc ≤ 12) (h11 : ∀ t, t < nt → zD (I 11 t) nc) (h12 : ∀ t, t < nt → zD (I 12 t) 6) (h16 : ∀ t, t < nt → zD (I 16 t) 7201) : zM l yX4_findLotsAnew wsX4_findLotsAnew rmC_findLotsAnew D (zt cA) A g [.ref (ad (0, 0, 0)), .ref (ad (8, cc, 0))] (cw cA (g 0) ad 6 nc nc 6 nt dy mo I L) (zQv (fun w' => cw cA (g 0) ad 6 nc nc 6 nt dy mo I (flS I L cc nt) = w')) := by
  refine zM_of (cc := cX4_findLotsAnew) (maxL := 4) (ret := none) (own := RX4) (by decide +kernel) rfl (Nat.le_of_ble_eq_true rfl) rfl ?_
  intro p e s m below meth c C hr hnm H locs ls hH hS hl
  obtain ⟨⟨hx, hb, hml, hown, hts⟩, hG, hlk⟩ := id C
  have hinX0 : ∀ w ∈ wsX00, w ∈ wsX4_findLotsAnew := by decide +kernel
  have hinX2 : ∀ w ∈ wsX20, w ∈ wsX4_findLotsAnew := by decide +kernel
  have hinX3 : ∀ w ∈ wsX30, w ∈ wsX4_findLotsAnew := by decide +kernel
  have hinX4 : ∀ w ∈ wsX40, w ∈ wsX4_findLotsAnew := by decide +kernel
  have hl : lv_has ls 4 [(0, .ref (ad (0, 0, 0))), (1, .ref (ad (8, cc, 0)))] := hl
  refine lv_aload_n hx hb dX4_findLotsAnew_0 rfl (lv_at hl 1 rfl) ?_
  refine zr_getA (ref := RX0) C hinX0 (ci := 1) rfl hH (8, cc, 0) (cl_8 (by omega)) rfl 2 (by decide) (by decide +kernel) (fun _ h => h) rfl dX4_findLotsAnew_1 ?_ rfl
  refine lv_lconst (v := 0) hx hb dX4_findLotsAnew_4 (by decide) ?_
  refine zk_cv (zk_rS (As := [.ref (ad (11, cc, 0)), .long 0]) (rest := []) (n := 2) C (cJ_fill l D cA A g (cw cA (g 0) ad 6 nc nc 6 nt dy mo I L) (11, cc, 0) (cl_11 (by omega)) 21 (by decide) (f := fun y => if y < 21 then L 30 (21 * cc + y) else 0) 0 rfl) hH hS gX4_findLotsAnew_J7_fill_d0a16 rfl rfl (by decide +kernel) ⟨Nat.le_of_ble_eq_true rfl, Nat.le_of_ble_eq_true rfl⟩ hl rfl (Nat.le_of_ble_eq_true rfl) dX4_findLotsAnew_5 ⟨Nat.le_of_ble_eq_true rfl, Nat.le_of_ble_eq_true rfl⟩) hS (fun w_ H locs hP hH_1 hS_2 => ?_)
  subst hP
  have hZ := hH_1.sb (cf_fill cc)
  refine lv_iconst (v := 0) hx hb dX4_findLotsAnew_8 (by decide) ?_
  refine lv_istore_n (lv' := [(2, .int 0), (0, .ref (ad (0, 0, 0))), (1, .ref (ad (8, cc, 0)))]) hx hb dX4_findLotsAnew_9 rfl hl (by decide) rfl (fun ls hl_3 => ?_)
  refine z_at (n := nt) (P := fun i_4 => zL p l e rmC_findLotsAnew s m _ below meth c 4 D A _ (cw cA (g 0) ad 6 nc nc 6 nt dy mo I (flS I L cc i_4)) 0 0 10 [(0, .ref (ad (0, 0, 0))), (1, .ref (ad (8, cc, 0))), (2, .int (nI i_4))] []) 0 (Nat.zero_le _) (fun h => h _ _ _ hZ hS_2 (lv_sub hl_3 [1, 2, 0] rfl)) ?_ ?_
  · intro H locs ls hH_6 hS_7 hl_8
    refine lv_iload_n hx hb dX4_findLotsAnew_10 rfl (lv_at hl_8 2 rfl) ?_
    refine lv_aload_n hx hb dX4_findLotsAnew_11 rfl (lv_at hl_8 0 rfl) ?_
    refine zr_getA (ref := RX4) C hinX4 (ci := 5) rfl hH_6 (0, 0, 0) rfl rfl 2 (by decide) (by decide +kernel) (fun _ h => h) rfl dX4_findLotsAnew_12 ?_ rfl
    refine zk_ci (zk_rV (As := []) (rest := [.int (nI nt)]) (n := 0) (k := (3, 0, 0)) C (cC_size l D cA A g (cw cA (g 0) ad 6 nc nc 6 nt dy mo I (flS I L cc nt)) (3, 0, 0) (6, 0, 0) nt (g0 := g 0) rfl rfl) hH_6 hS_7 rfl rfl rfl gX4_findLotsAnew_Jx4a65c_size_8abf5 rfl rfl (by decide +kernel) ⟨Nat.le_of_ble_eq_true rfl, Nat.le_of_ble_eq_true rfl⟩ hl_8 rfl (Nat.le_of_ble_eq_true rfl) dX4_findLotsAnew_15 ⟨Nat.le_of_ble_eq_true rfl, Nat.le_of_ble_eq_true rfl⟩) hS_7 (fun r_ w_ H locs hP hH_9 hS_10 => ?_)
    obtain ⟨rfl, rfl⟩ := hP
    refine lv_icmp_ge (tgt := 72) hx hb dX4_findLotsAnew_18 (by decide) (fun c_11 => ?_) (fun c_11 => absurd (Int32.le_refl _) c_11)
    refine zr_vret C hr ?_ hH_9 hS_10 (Nat.le_of_ble_eq_true rfl) (Nat.le_of_ble_eq_true rfl) dX4_findLotsAnew_72
    rfl
  · intro i_4 hi_4 ih_5 H locs ls hH_12 hS_13 hl_14
    refine lv_iload_n hx hb dX4_findLotsAnew_10 rfl (lv_at hl_14 2 rfl) ?_
    refine lv_aload_n hx hb dX4_findLotsAnew_11 rfl (lv_at hl_14 0 rfl) ?_
    refine zr_getA (ref := RX4) C hinX4 (ci := 5) rfl hH_12 (0, 0, 0) rfl rfl 2 (by decide) (by decide +kernel) (fun _ h => h) rfl dX4_findLotsAnew_12 ?_ rfl
    refine zk_ci (zk_rV (As := []) (rest := [.int (nI i_4)]) (n := 0) (k := (3, 0, 0)) C (cC_size l D cA A g (cw cA (g 0) ad 6 nc nc 6 nt dy mo I (flS I L cc i_4)) (3, 0, 0) (6, 0, 0) nt (g0 := g 0) rfl rfl) hH_12 hS_13 rfl rfl rfl gX4_findLotsAnew_Jx4a65c_size_8abf5 rfl rfl (by decide +kernel) ⟨Nat.le_of_ble_eq_true rfl, Nat.le_of_ble_eq_true rfl⟩ hl_14 rfl (Nat.le_of_ble_eq_true rfl) dX4_findLotsAnew_15 ⟨Nat.le_of_ble_eq_true rfl, Nat.le_of_ble_eq_true rfl⟩) hS_13 (fun r_ w_ H locs hP hH_15 hS_16 => ?_)
    obtain ⟨rfl, rfl⟩ := hP
    refine lv_icmp_ge (tgt := 72) hx hb dX4_findLotsAnew_18 (by decide) (fun c_17 => absurd c_17 (nI_ge hi_4 (by first | decide | omega))) (fun c_17 => ?_)
    refine lv_aload_n hx hb dX4_findLotsAnew_21 rfl (lv_at hl_14 0 rfl) ?_
    refine zr_getA (ref := RX4) C hinX4 (ci := 5) rfl hH_15 (0, 0, 0) rfl rfl 2 (by decide) (by decide +kernel) (fun _ h => h) rfl dX4_findLotsAnew_22 ?_ rfl
    refine lv_iload_n hx hb dX4_findLotsAnew_25 rfl (lv_at hl_14 2 rfl) ?_
    refine zk_cr (zk_rV (As := [.int (nI i_4)]) (rest := []) (n := 1) (k := (3, 0, 0)) C (cC_get l D cA A g (cw cA (g 0) ad 6 nc nc 6 nt dy mo I (flS I L cc i_4)) (3, 0, 0) (6, 0, 0) (fun j => (14, j, 0)) nt i_4 (g0 := g 0) rfl rfl (cl_6 (by omega)) rfl (by omega) (by omega)) hH_15 hS_16 rfl rfl rfl gX4_findLotsAnew_Jx4a65c_get_915e3 rfl rfl (by decide +kernel) ⟨Nat.le_of_ble_eq_true rfl, Nat.le_of_ble_eq_true rfl⟩ hl_14 rfl (Nat.le_of_ble_eq_true rfl) dX4_findLotsAnew_26 ⟨Nat.le_of_ble_eq_true rfl, Nat.le_of_ble_eq_true rfl⟩) hS_16 (fun r_ w_ H locs hP hH_18 hS_19 => ?_)
    obtain ⟨rfl, rfl⟩ := hP
    refine W.eq (g2 := F0 m 29 ls [.ref (ad (14, i_4, 0))]) rfl ?_
    refine zr_castC C (by decide +kernel) (ci := 4) rfl hH_18 (14, i_4, 0) (cl_14 (by omega)) rfl rfl dX4_findLotsAnew_29 ?_
    refine lv_astore_n (lv' := [(3, .ref (ad (14, i_4, 0))), (0, .ref (ad (0, 0, 0))), (1, .ref (ad (8, cc, 0))), (2, .int (nI i_4))]) hx hb dX4_findLotsAnew_32 rfl hl_14 (by decide) rfl (fun ls hl_20 => ?_)
    refine lv_aload_n hx hb dX4_findLotsAnew_33 rfl (lv_at hl_20 0 rfl) ?_
    refine zr_getA (ref := RX3) C hinX3 (ci := 4) rfl hH_18 (14, i_4, 0) (cl_14 (by omega)) rfl 1 (by decide) (by decide +kernel) (fun _ h => h) rfl dX4_findLotsAnew_34 ?_ rfl
    have h11_21 := (h11 i_4 (by omega)).2
    have h12_22 := (h12 i_4 (by omega)).2
    refine zr_getA (ref := RX2) C hinX2 (ci := 3) rfl hH_18 (13, (dN (I 11 i_4)), (dN (I 12 i_4))) (cl_13 (by omega) (by omega)) rfl 0 (by decide) (by decide +kernel) (fun _ h => h) rfl dX4_findLotsAnew_37 ?_ rfl
    refine lv_aload_n hx hb dX4_findLotsAnew_40 rfl (lv_at hl_20 2 rfl) ?_
    refine lv_acmp_ne (rx := some (ad (8, (dN (I 11 i_4)), 0))) (ry := some (ad (8, cc, 0))) (tgt := 66) hx hb dX4_findLotsAnew_41 (by decide) (fun c_23 => ?_) (fun c_23 => ?_)
    · have hk_24 : ¬ ((dN (I 11 i_4)) = cc) := fun z => c_23 (congrArg some (by rw [z]))
      refine lv_iinc (v := nI (i_4 + 1)) (lv' := [(2, .int (nI (i_4 + 1))), (3, .ref (ad (14, i_4, 0))), (0, .ref (ad (0, 0, 0))), (1, .ref (ad (8, cc, 0)))]) hx hb dX4_findLotsAnew_66 hl_20 (k := 3) rfl (nI_1 i_4) (by decide) rfl (fun ls hl_25 => ?_)
      refine lv_goto (tgt := 10) hx hb dX4_findLotsAnew_69 (by decide) ?_
      exact ih_5 _ _ _ (by rw [flS_n hk_24]; exact hH_18) hS_19 (lv_sub hl_25 [2, 3, 0] rfl)
    · have hk_26 := key8 (hH_18.inj (k := (8, (dN (I 11 i_4)), 0)) (k' := (8, cc, 0)) (cl_8 (by omega)) (cl_8 (by omega)) (Option.some.inj c_23))
      refine lv_aload_n hx hb dX4_findLotsAnew_44 rfl (lv_at hl_20 0 rfl) ?_
      refine lv_lconst (v := 0) hx hb dX4_findLotsAnew_45 (by decide) ?_
      refine zr_putA (ref := RX3) C hinX3 (ci := 4) rfl tyX3 tyX3_ok nmX3 hH_18 hS_19 (14, i_4, 0) (cl_14 (by omega)) rfl 7 (by decide) (by decide +kernel) (fun _ h => h) rfl rfl rfl (show 7 < 9 by decide) dX4_findLotsAnew_46 (cw cA (g 0) ad 6 nc nc 6 nt dy mo I (up2 (flS I L cc i_4) 31 i_4 0)) (cu_pl _ _) (fun H locs hH_27 hS_28 => ?_) rfl
      refine lv_aload_n hx hb dX4_findLotsAnew_49 rfl (lv_at hl_20 0 rfl) ?_
      refine lv_lconst (v := 0) hx hb dX4_findLotsAnew_50 (by decide) ?_
      refine zr_putA (ref := RX3) C hinX3 (ci := 4) rfl tyX3 tyX3_ok nmX3 hH_27 hS_28 (14, i_4, 0) (cl_14 (by omega)) rfl 8 (by decide) (by decide +kernel) (fun _ h => h) rfl rfl rfl (show 8 < 9 by decide) dX4_findLotsAnew_51 (cw cA (g 0) ad 6 nc nc 6 nt dy mo I (up2 (up2 (flS I L cc i_4) 31 i_4 0) 32 i_4 0)) (cu_cl _ _) (fun H locs hH_29 hS_30 => ?_) rfl
      refine lv_aload_n hx hb dX4_findLotsAnew_54 rfl (lv_at hl_20 0 rfl) ?_
      refine zr_getA (ref := RX3) C hinX3 (ci := 4) rfl hH_29 (14, i_4, 0) (cl_14 (by omega)) rfl 6 (by decide) (by decide +kernel) (fun _ h => h) rfl dX4_findLotsAnew_55 ?_ rfl
      refine lv_if_eq (tgt := 66) hx hb dX4_findLotsAnew_58 (by decide) (fun c_31 => ?_) (fun c_31 => ?_)
      · refine lv_iinc (v := nI (i_4 + 1)) (lv' := [(2, .int (nI (i_4 + 1))), (3, .ref (ad (14, i_4, 0))), (0, .ref (ad (0, 0, 0))), (1, .ref (ad (8, cc, 0)))]) hx hb dX4_findLotsAnew_66 hl_20 (k := 3) rfl (nI_1 i_4) (by decide) rfl (fun ls hl_32 => ?_)
        refine lv_goto (tgt := 10) hx hb dX4_findLotsAnew_69 (by decide) ?_
        exact ih_5 _ _ _ (by rw [flS_0 hk_26 c_31]; exact hH_29) hS_30 (lv_sub hl_32 [2, 3, 0] rfl)
      · refine lv_aload_n hx hb dX4_findLotsAnew_61 rfl (lv_at hl_20 1 rfl) ?_
        refine lv_aload_n hx hb dX4_findLotsAnew_62 rfl (lv_at hl_20 0 rfl) ?_
        refine zk_cv (zk_rV (As := [.ref (ad (14, i_4, 0))]) (rest := []) (n := 1) (k := (0, 0, 0)) C (cC_enterIntoLots l D cA A g ad nc nt dy mo I (up2 (up2 (flS I L cc i_4) 31 i_4 0) 32 i_4 0) i_4 (by omega) hnt hnc h11 h12 h16) hH_29 hS_30 rfl rfl rfl gX4_findLotsAnew_X4_enterIntoLots rfl rfl (by decide +kernel) ⟨Nat.le_of_ble_eq_true rfl, Nat.le_of_ble_eq_true rfl⟩ hl_20 rfl (Nat.le_of_ble_eq_true rfl) dX4_findLotsAnew_63 ⟨Nat.le_of_ble_eq_true rfl, Nat.le_of_ble_eq_true rfl⟩) hS_30 (fun w_34 H locs hP hH_35 hS_36 => ?_)
        subst hP
        refine lv_iinc (v := nI (i_4 + 1)) (lv' := [(2, .int (nI (i_4 + 1))), (3, .ref (ad (14, i_4, 0))), (0, .ref (ad (0, 0, 0))), (1, .ref (ad (8, cc, 0)))]) hx hb dX4_findLotsAnew_66 hl_20 (k := 3) rfl (nI_1 i_4) (by decide) rfl (fun ls hl_37 => ?_)
        refine lv_goto (tgt := 10) hx hb dX4_findLotsAnew_69 (by decide) ?_
        exact ih_5 _ _ _ (by rw [flS_1 hk_26 c_31]; exact hH_35) hS_36 (lv_sub hl_37 [2, 3, 0] rfl)
