def rmC_init : Room := { frames := 7, cells := 15, slots := 1011, locals := 195 }
set_option maxHeartbeats 1000000 in
set_option maxRecDepth 100000 in
theorem cC_init (l : Launch) (D : va_G) (cA : Nat → ClassId) (A : Nat → Prop) (g : Nat → Nat) (ad : zk_K → Nat) (I : zIA) (L : zLA) (h1 : ∀ f, f < 6 → I 1 f = 10000) (h2 : ∀ f, f < 6 → L 2 f = 0 ∧ L 3 f = 0) : zM l yX4_init wsX4_init rmC_init D (zt cA) A g [.ref (ad (0, 0, 0))] (hallW ad) (zQv (fun w' => ∃ ad' : zk_K → Nat, ad' (0, 0, 0) = ad (0, 0, 0) ∧ cw cA (g 0) ad' 6 0 0 6 0 0 0 I L = w')) := by
  refine zM_of (cc := cX4_init) (maxL := 2) (ret := none) (own := RX4) (by decide +kernel) rfl (Nat.le_of_ble_eq_true rfl) rfl ?_
  intro p e s m below meth c C hr hnm H locs ls hH hS hl
  obtain ⟨⟨hx, hb, hml, hown, hts⟩, hG, hlk⟩ := id C
  have hinX1 : ∀ w ∈ wsX10, w ∈ wsX4_init := by decide +kernel
  have hinX4 : ∀ w ∈ wsX40, w ∈ wsX4_init := by decide +kernel
  have hl : lv_has ls 2 [(0, .ref (ad (0, 0, 0)))] := hl
  refine lv_aload_n hx hb dX4_init_0 rfl (lv_at hl 0 rfl) ?_
  refine W.objInit hx hb hown (hts (.methodLink RX4 1 objectInit) (by decide +kernel)) (hts (.instanceMethod objectInit) (by decide +kernel)) (hts _ (by decide +kernel)) rfl (by rw [hml]; exact hl.1) rfl dX4_init_1 (Nat.le_of_ble_eq_true rfl) (Nat.le_of_ble_eq_true rfl) ?_
  refine W.eq (g2 := F0 m 4 ls []) rfl ?_
  refine lv_aload_n hx hb dX4_init_4 rfl (lv_at hl 0 rfl) ?_
  have hinJ : ∀ w ∈ wsJx4a65c0, w ∈ wsX4_init := by decide +kernel
  refine zr_new C hinJ (ci := 0) rfl tyJx4a65c tyJx4a65c_ok (by decide +kernel) (by decide +kernel) (by decide +kernel) hH hS (fs := [.int 0, .null, .int 0]) (fun j hj => by match j, hj with | 0, _ => rfl | 1, _ => rfl | 2, _ => rfl) (Nat.le_of_ble_eq_true rfl) (Nat.le_of_ble_eq_true rfl) dX4_init_5 (1, 0, 0) (fun o1 => zk_ext (hallW ad) (1, 0, 0) o1 (.inr (0, [.int 0, .null, .int 0]))) (fun o1 => zk_ext_nw _ _ _ _) (fun o1 H hH_1 hS_2 => ?_)
  refine lv_dup hx hb dX4_init_8 rfl ?_
  have hi1 := cJ_lInit l D cA A g (zk_ext (hallW ad) (1, 0, 0) o1 (.inr (0, [.int 0, .null, .int 0]))) (1, 0, 0) (Or.inl rfl) (zk_ext_s _ _ _ _)
  rw [zk_ext_a] at hi1
  refine zk_cv (zk_rI (As := []) (rest := [.ref o1, .ref (ad (0, 0, 0))]) (n := 0) (b := o1) C hi1 hH_1 hS_2 gX4_init_Jx4a65c_init_da8c8 rfl (by decide +kernel) (by decide +kernel) (by decide +kernel) rfl rfl (by decide +kernel) ⟨Nat.le_of_ble_eq_true rfl, Nat.le_of_ble_eq_true rfl⟩ hl rfl (Nat.le_of_ble_eq_true rfl) dX4_init_9 ⟨Nat.le_of_ble_eq_true rfl, Nat.le_of_ble_eq_true rfl⟩) hS_2 (fun w_ H locs hP hH_3 hS_4 => ?_)
  subst hP
  refine zr_putFA (ref := RX4) C hinX4 (ci := 5) rfl tyX4 tyX4_ok nmX4 hH_3 hS_4 (0, 0, 0) (Or.inr rfl) rfl 0 (by decide) (by decide +kernel) (fun _ h => h) rfl hnm rfl rfl rfl (show 0 < 5 by decide) dX4_init_12 (zk_se (zk_se (zk_ext (hallW ad) (1, 0, 0) o1 (.inr (0, [.int 0, .null, .int 0]))) (1, 0, 0) (zLo 0 (g 0) 0)) (0, 0, 0) (.inr (5, [.ref o1, .null, .null, .long 0, .int 0]))) (zk_se_up _ _ _) (fun H locs hH_5 hS_6 => ?_) rfl
  refine lv_aload_n hx hb dX4_init_15 rfl (lv_at hl 0 rfl) ?_
  refine zr_new C hinJ (ci := 0) rfl tyJx4a65c tyJx4a65c_ok (by decide +kernel) (by decide +kernel) (by decide +kernel) hH_5 hS_6 (fs := [.int 0, .null, .int 0]) (fun j hj => by match j, hj with | 0, _ => rfl | 1, _ => rfl | 2, _ => rfl) (Nat.le_of_ble_eq_true rfl) (Nat.le_of_ble_eq_true rfl) dX4_init_16 (2, 0, 0) (fun o2 => zk_ext (zk_se (zk_se (zk_ext (hallW ad) (1, 0, 0) o1 (.inr (0, [.int 0, .null, .int 0]))) (1, 0, 0) (zLo 0 (g 0) 0)) (0, 0, 0) (.inr (5, [.ref o1, .null, .null, .long 0, .int 0]))) (2, 0, 0) o2 (.inr (0, [.int 0, .null, .int 0]))) (fun o2 => zk_ext_nw _ _ _ _) (fun o2 H hH_7 hS_8 => ?_)
  refine lv_dup hx hb dX4_init_19 rfl ?_
  have hi2 := cJ_lInit l D cA A g (zk_ext (zk_se (zk_se (zk_ext (hallW ad) (1, 0, 0) o1 (.inr (0, [.int 0, .null, .int 0]))) (1, 0, 0) (zLo 0 (g 0) 0)) (0, 0, 0) (.inr (5, [.ref o1, .null, .null, .long 0, .int 0]))) (2, 0, 0) o2 (.inr (0, [.int 0, .null, .int 0]))) (2, 0, 0) (Or.inl rfl) (zk_ext_s _ _ _ _)
  rw [zk_ext_a] at hi2
  refine zk_cv (zk_rI (As := []) (rest := [.ref o2, .ref (ad (0, 0, 0))]) (n := 0) (b := o2) C hi2 hH_7 hS_8 gX4_init_Jx4a65c_init_da8c8 rfl (by decide +kernel) (by decide +kernel) (by decide +kernel) rfl rfl (by decide +kernel) ⟨Nat.le_of_ble_eq_true rfl, Nat.le_of_ble_eq_true rfl⟩ hl rfl (Nat.le_of_ble_eq_true rfl) dX4_init_20 ⟨Nat.le_of_ble_eq_true rfl, Nat.le_of_ble_eq_true rfl⟩) hS_8 (fun w_ H locs hP hH_9 hS_10 => ?_)
  subst hP
  refine zr_putFA (ref := RX4) C hinX4 (ci := 5) rfl tyX4 tyX4_ok nmX4 hH_9 hS_10 (0, 0, 0) (Or.inr (Or.inr rfl)) rfl 1 (by decide) (by decide +kernel) (fun _ h => h) rfl hnm rfl rfl rfl (show 1 < 5 by decide) dX4_init_23 (zk_se (zk_se (zk_ext (zk_se (zk_se (zk_ext (hallW ad) (1, 0, 0) o1 (.inr (0, [.int 0, .null, .int 0]))) (1, 0, 0) (zLo 0 (g 0) 0)) (0, 0, 0) (.inr (5, [.ref o1, .null, .null, .long 0, .int 0]))) (2, 0, 0) o2 (.inr (0, [.int 0, .null, .int 0]))) (2, 0, 0) (zLo 0 (g 0) 0)) (0, 0, 0) (.inr (5, [.ref o1, .ref o2, .null, .long 0, .int 0]))) (zk_se_up _ _ _) (fun H locs hH_11 hS_12 => ?_) rfl
  refine lv_aload_n hx hb dX4_init_26 rfl (lv_at hl 0 rfl) ?_
  refine zr_new C hinJ (ci := 0) rfl tyJx4a65c tyJx4a65c_ok (by decide +kernel) (by decide +kernel) (by decide +kernel) hH_11 hS_12 (fs := [.int 0, .null, .int 0]) (fun j hj => by match j, hj with | 0, _ => rfl | 1, _ => rfl | 2, _ => rfl) (Nat.le_of_ble_eq_true rfl) (Nat.le_of_ble_eq_true rfl) dX4_init_27 (3, 0, 0) (fun o3 => zk_ext (zk_se (zk_se (zk_ext (zk_se (zk_se (zk_ext (hallW ad) (1, 0, 0) o1 (.inr (0, [.int 0, .null, .int 0]))) (1, 0, 0) (zLo 0 (g 0) 0)) (0, 0, 0) (.inr (5, [.ref o1, .null, .null, .long 0, .int 0]))) (2, 0, 0) o2 (.inr (0, [.int 0, .null, .int 0]))) (2, 0, 0) (zLo 0 (g 0) 0)) (0, 0, 0) (.inr (5, [.ref o1, .ref o2, .null, .long 0, .int 0]))) (3, 0, 0) o3 (.inr (0, [.int 0, .null, .int 0]))) (fun o3 => zk_ext_nw _ _ _ _) (fun o3 H hH_13 hS_14 => ?_)
  refine lv_dup hx hb dX4_init_30 rfl ?_
  have hi3 := cJ_lInit l D cA A g (zk_ext (zk_se (zk_se (zk_ext (zk_se (zk_se (zk_ext (hallW ad) (1, 0, 0) o1 (.inr (0, [.int 0, .null, .int 0]))) (1, 0, 0) (zLo 0 (g 0) 0)) (0, 0, 0) (.inr (5, [.ref o1, .null, .null, .long 0, .int 0]))) (2, 0, 0) o2 (.inr (0, [.int 0, .null, .int 0]))) (2, 0, 0) (zLo 0 (g 0) 0)) (0, 0, 0) (.inr (5, [.ref o1, .ref o2, .null, .long 0, .int 0]))) (3, 0, 0) o3 (.inr (0, [.int 0, .null, .int 0]))) (3, 0, 0) (Or.inl rfl) (zk_ext_s _ _ _ _)
  rw [zk_ext_a] at hi3
  refine zk_cv (zk_rI (As := []) (rest := [.ref o3, .ref (ad (0, 0, 0))]) (n := 0) (b := o3) C hi3 hH_13 hS_14 gX4_init_Jx4a65c_init_da8c8 rfl (by decide +kernel) (by decide +kernel) (by decide +kernel) rfl rfl (by decide +kernel) ⟨Nat.le_of_ble_eq_true rfl, Nat.le_of_ble_eq_true rfl⟩ hl rfl (Nat.le_of_ble_eq_true rfl) dX4_init_31 ⟨Nat.le_of_ble_eq_true rfl, Nat.le_of_ble_eq_true rfl⟩) hS_14 (fun w_ H locs hP hH_15 hS_16 => ?_)
  subst hP
  refine zr_putFA (ref := RX4) C hinX4 (ci := 5) rfl tyX4 tyX4_ok nmX4 hH_15 hS_16 (0, 0, 0) (Or.inr (Or.inr (Or.inr rfl))) rfl 2 (by decide) (by decide +kernel) (fun _ h => h) rfl hnm rfl rfl rfl (show 2 < 5 by decide) dX4_init_34 (zk_se (zk_se (zk_ext (zk_se (zk_se (zk_ext (zk_se (zk_se (zk_ext (hallW ad) (1, 0, 0) o1 (.inr (0, [.int 0, .null, .int 0]))) (1, 0, 0) (zLo 0 (g 0) 0)) (0, 0, 0) (.inr (5, [.ref o1, .null, .null, .long 0, .int 0]))) (2, 0, 0) o2 (.inr (0, [.int 0, .null, .int 0]))) (2, 0, 0) (zLo 0 (g 0) 0)) (0, 0, 0) (.inr (5, [.ref o1, .ref o2, .null, .long 0, .int 0]))) (3, 0, 0) o3 (.inr (0, [.int 0, .null, .int 0]))) (3, 0, 0) (zLo 0 (g 0) 0)) (0, 0, 0) (.inr (5, [.ref o1, .ref o2, .ref o3, .long 0, .int 0]))) (zk_se_up _ _ _) (fun H locs hH_17 hS_18 => ?_) rfl
  have hZ := hH_17.sb (hl_new (cA := cA) (I := I) (L := L))
  obtain ⟨ad2, had2⟩ : ∃ z, z = zk_ad (zk_ad (zk_ad ad (1, 0, 0) o1) (2, 0, 0) o2) (3, 0, 0) o3 := ⟨_, rfl⟩
  rw [← had2] at hZ
  have hA2 : ad2 (0, 0, 0) = ad (0, 0, 0) := by rw [had2, zk_ad_n (by decide), zk_ad_n (by decide), zk_ad_n (by decide)]
  have hl2 := hl
  rw [← hA2] at hl2
  refine lv_iconst (v := 0) hx hb dX4_init_37 (by decide) ?_
  refine lv_istore_n (lv' := [(1, .int 0), (0, .ref (ad2 (0, 0, 0)))]) hx hb dX4_init_38 rfl hl2 (by decide) rfl (fun ls hl_19 => ?_)
  refine z_at (n := 6) (P := fun i_20 => ∀ ad3 : zk_K → Nat, ad3 (0, 0, 0) = ad (0, 0, 0) → zL p l e rmC_init s m _ below meth c 2 D A _ (cw cA (g 0) ad3 i_20 0 0 6 0 0 0 I L) (3 + 2 * i_20) (9 + 167 * i_20) 39 [(0, .ref (ad3 (0, 0, 0))), (1, .int (nI i_20))] []) 0 (Nat.zero_le _) (fun h => h ad2 hA2 _ _ _ hZ hS_18 (lv_sub hl_19 [1, 0] rfl)) ?_ ?_
  · intro ad3 hp_22 H locs ls hH_23 hS_24 hl_25
    refine lv_iload_n hx hb dX4_init_39 rfl (lv_at hl_25 1 rfl) ?_
    refine lv_bipush (v := 6) hx hb dX4_init_40 (by decide) ?_
    refine lv_icmp_ge (tgt := 67) hx hb dX4_init_42 (by decide) (fun c_26 => ?_) (fun c_26 => absurd (Int32.le_refl _) c_26)
    refine zr_vret C hr ?_ hH_23 hS_24 (Nat.le_of_ble_eq_true rfl) (Nat.le_of_ble_eq_true rfl) dX4_init_67
    exact ⟨_, hp_22, rfl⟩
  · intro i_20 hi_20 ih_21 ad3 hp_27 H locs ls hH_28 hS_29 hl_30
    refine lv_iload_n hx hb dX4_init_39 rfl (lv_at hl_30 1 rfl) ?_
    refine lv_bipush (v := 6) hx hb dX4_init_40 (by decide) ?_
    refine lv_icmp_ge (tgt := 67) hx hb dX4_init_42 (by decide) (fun c_31 => absurd c_31 (nI_ge hi_20 (by first | decide | omega))) (fun c_31 => ?_)
    refine lv_aload_n hx hb dX4_init_45 rfl (lv_at hl_30 0 rfl) ?_
    refine zr_getA (ref := RX4) C hinX4 (ci := 5) rfl hH_28 (0, 0, 0) rfl rfl 0 (by decide) (by decide +kernel) (fun _ h => h) rfl dX4_init_46 ?_ rfl
    refine zr_new C hinX1 (ci := 2) rfl tyX1 tyX1_ok (by decide +kernel) (by decide +kernel) (by decide +kernel) hH_28 hS_29 (fs := [.int 0, .int 0, .long 0, .long 0]) (fun j hj => by match j, hj with | 0, _ => rfl | 1, _ => rfl | 2, _ => rfl | 3, _ => rfl) (by simp only [rmJ_size, rmJ_get, rmJ_add1B, rmC_init, rmC_initX1]; omega) (by simp only [rmJ_size, rmJ_get, rmJ_add1B, rmC_init, rmC_initX1]; omega) dX4_init_49 (7, i_20, 0) (fun o => zk_ext (cw cA (g 0) ad3 i_20 0 0 6 0 0 0 I L) (7, i_20, 0) o (.inr (2, [.int 0, .int 0, .long 0, .long 0]))) (fun o => zk_ext_nw _ _ _ _) (fun o H hH_32 hS_33 => ?_)
    refine lv_dup hx hb dX4_init_52 rfl ?_
    refine lv_iload_n hx hb dX4_init_53 rfl (lv_at hl_30 1 rfl) ?_
    have hi4 := cC_initX1 l D cA A g (zk_ext (cw cA (g 0) ad3 i_20 0 0 6 0 0 0 I L) (7, i_20, 0) o (.inr (2, [.int 0, .int 0, .long 0, .long 0]))) (7, i_20, 0) (Or.inl rfl) (zk_ext_s _ _ _ _) (nI i_20)
    rw [zk_ext_a] at hi4
    refine zk_cv (zk_rI (As := [.int (nI i_20)]) (rest := [.ref o, .ref (ad3 (1, 0, 0))]) (n := 1) (b := o) C hi4 hH_32 hS_33 gX4_init_X1_init rfl (by decide +kernel) (by decide +kernel) (by decide +kernel) rfl rfl (by decide +kernel) ⟨Nat.le_of_ble_eq_true rfl, Nat.le_of_ble_eq_true rfl⟩ hl_30 rfl (Nat.le_of_ble_eq_true rfl) dX4_init_54 ⟨by simp only [rmJ_size, rmJ_get, rmJ_add1B, rmC_init, rmC_initX1]; omega, by simp only [rmJ_size, rmJ_get, rmJ_add1B, rmC_init, rmC_initX1]; omega⟩) hS_33 (fun w_ H locs hP hH_34 hS_35 => ?_)
    subst hP
    have hT : zk_H D A (fdW cA (g 0) ad3 i_20 0 0 I L o (.inr (2, [.int 0, .int 0, .long 0, .long 0]))) H := hH_34
    have hkt : ¬ (fdW cA (g 0) ad3 i_20 0 0 I L o (.inr (2, [.int 0, .int 0, .long 0, .long 0]))).2.1 (99, 0, 0) := fun z => z.elim (fun z => absurd (show (99 : Nat) = 7 from congrArg Prod.fst z) (by decide)) (fun z => z)
    refine zk_ci (zk_rV (As := [.ref o]) (rest := []) (n := 1) (k := (1, 0, 0)) C (cJ_add l D cA A g (fdW cA (g 0) ad3 i_20 0 0 I L o (.inr (2, [.int 0, .int 0, .long 0, .long 0]))) (1, 0, 0) (4, 0, 0) (99, 0, 0) i_20 (capL i_20) (fdW_lst (by omega)) hkt (capL_n (by omega)) capL_m o fdW_el) hT hS_35 (Or.inr rfl) rfl rfl gX4_init_Jx4a65c_add_9ea2d rfl rfl (by decide +kernel) ⟨Nat.le_of_ble_eq_true rfl, Nat.le_of_ble_eq_true rfl⟩ hl_30 rfl (Nat.le_of_ble_eq_true rfl) dX4_init_57 ⟨by simp only [rmJ_size, rmJ_get, rmJ_add1B, rmC_init, rmC_initX1]; omega, by simp only [rmJ_size, rmJ_get, rmJ_add1B, rmC_init, rmC_initX1]; omega⟩) hS_35 (fun r_ w_ H locs hP hH_36 hS_37 => ?_)
    obtain ⟨rfl, q2, -, rfl⟩ := hP
    have hZ3 := hH_36.sb (fdW_add (by omega) (h1 i_20 (by omega)) (h2 i_20 (by omega)).1 (h2 i_20 (by omega)).2)
    obtain ⟨ad4, had4⟩ : ∃ z, z = zk_ad (zk_ad ad3 (7, i_20, 0) o) (4, 0, 0) q2 := ⟨_, rfl⟩
    rw [← had4] at hZ3
    have hA4 : ad4 (0, 0, 0) = ad3 (0, 0, 0) := by rw [had4, zk_ad_n (zne (by omega)), zk_ad_n (zne (by omega))]
    have hl4 := hl_30
    rw [← hA4] at hl4
    refine lv_pop hx hb dX4_init_60 rfl ?_
    refine lv_iinc (v := nI (i_20 + 1)) (lv' := [(1, .int (nI (i_20 + 1))), (0, .ref (ad4 (0, 0, 0)))]) hx hb dX4_init_61 hl4 (k := 1) rfl (nI_1 i_20) (by decide) rfl (fun ls hl_38 => ?_)
    refine lv_goto (tgt := 39) hx hb dX4_init_64 (by decide) ?_
    exact ih_21 ad4 (hA4.trans hp_27) _ _ _ hZ3 hS_37 (lv_sub hl_38 [1, 0] rfl)
