def rmC_client : Room := { frames := 7, cells := 17, slots := 1215, locals := 195 }
set_option maxHeartbeats 1000000 in
set_option maxRecDepth 100000 in
theorem cC_client (l : Launch) (hst : l.stackTraces = false) (D : va_G) (cA : Nat → ClassId) (A : Nat → Prop) (g : Nat → Nat) (ad : zk_K → Nat) (nc nt dy : Nat) (mo : Int64) (I : zIA) (L : zLA) (hnc : nc ≤ 12) (hB : zBey nc I L) (h11 : ∀ t, t < nt → dN (I 11 t) < nc) : zX l yX4_client wsX4_client rmC_client D (zt cA) A g [.ref (ad (0, 0, 0))] (cw cA (g 0) ad 6 nc nc 6 nt dy mo I L) (zQi (fun r w' => nc < 12 ∧ nI nc = r ∧ ∃ ad' : zk_K → Nat, ad' (0, 0, 0) = ad (0, 0, 0) ∧ cw cA (g 0) ad' 6 (nc + 1) (nc + 1) 6 nt dy mo I L = w')) (fun E w' => cw cA (g 0) ad 6 nc nc 6 nt dy mo I L = w' ∧ (nc = 12 ∧ E = xS)) := by
  refine zX_of (cc := cX4_client) (maxL := 4) (ret := (some .int)) (own := RX4) (by decide +kernel) rfl (Nat.le_of_ble_eq_true rfl) rfl ?_
  intro p e s m below meth c C hr hnm hex H locs ls hH hS hl
  obtain ⟨⟨hx, hb, hml, hown, hts⟩, hG, hlk⟩ := id C
  have hinX0 : ∀ w ∈ wsX00, w ∈ wsX4_client := by decide +kernel
  have hinX2 : ∀ w ∈ wsX20, w ∈ wsX4_client := by decide +kernel
  have hinX4 : ∀ w ∈ wsX40, w ∈ wsX4_client := by decide +kernel
  have hl : lv_has ls 4 [(0, .ref (ad (0, 0, 0)))] := hl
  refine lv_aload_n hx hb dX4_client_0 rfl (lv_at hl 0 rfl) ?_
  refine zr_getA (ref := RX4) C hinX4 (ci := 5) rfl hH (0, 0, 0) rfl rfl 1 (by decide) (by decide +kernel) (fun _ h => h) rfl dX4_client_1 ?_ rfl
  refine zk_ci (zk_rV (As := []) (rest := []) (n := 0) (k := (2, 0, 0)) C (cC_size l D cA A g (cw cA (g 0) ad 6 nc nc 6 nt dy mo I L) (2, 0, 0) (5, 0, 0) nc (g0 := g 0) rfl rfl) hH hS rfl rfl rfl gX4_client_Jx4a65c_size_8abf5 rfl rfl (by decide +kernel) ⟨Nat.le_of_ble_eq_true rfl, Nat.le_of_ble_eq_true rfl⟩ hl rfl (Nat.le_of_ble_eq_true rfl) dX4_client_4 ⟨Nat.le_of_ble_eq_true rfl, Nat.le_of_ble_eq_true rfl⟩) hS (fun r_ w_ H locs hP hH_1 hS_2 => ?_)
  obtain ⟨rfl, rfl⟩ := hP
  refine lv_istore_n (lv' := [(1, .int (nI nc)), (0, .ref (ad (0, 0, 0)))]) hx hb dX4_client_7 rfl hl (by decide) rfl (fun ls hl_3 => ?_)
  refine lv_iload_n hx hb dX4_client_8 rfl (lv_at hl_3 0 rfl) ?_
  refine lv_bipush (v := 12) hx hb dX4_client_9 (by decide) ?_
  refine lv_icmp_ge (tgt := 18) hx hb dX4_client_11 (by decide) (fun c_4 => ?_) (fun c_4 => ?_)
  · have hn1 : nc = 12 := Nat.le_antisymm hnc (Nat.le_of_not_lt (fun z => absurd c_4 (nI_ge z (by decide))))
    refine lv_iconst (v := 0) hx hb dX4_client_18 (by decide) ?_
    exact zx_c (zx_rS (As := [.int 0]) (rest := []) (n := 1) C (cC_possible0 l hst D cA A g (cw cA (g 0) ad 6 nc nc 6 nt dy mo I L)) hH_1 hS_2 gX4_client_X4_checkPossible rfl rfl (by decide +kernel) ⟨Nat.le_of_ble_eq_true rfl, Nat.le_of_ble_eq_true rfl⟩ hl_3 rfl (Nat.le_of_ble_eq_true rfl) dX4_client_19 ⟨Nat.le_of_ble_eq_true rfl, Nat.le_of_ble_eq_true rfl⟩) hS_2 (zx_go C hex (fun E w' h => ⟨h.2, hn1, h.1⟩) (Nat.le_of_ble_eq_true rfl) (Nat.le_of_ble_eq_true rfl)) (fun v w' H1 l1 hP => hP.elim)
  · have hn0 : nc < 12 := Nat.lt_of_not_le (fun z => c_4 (nI_le z (by omega)))
    refine lv_iconst (v := 1) hx hb dX4_client_14 (by decide) ?_
    refine lv_goto (tgt := 19) hx hb dX4_client_15 (by decide) ?_
    refine zk_cv (zk_rS (As := [.int 1]) (rest := []) (n := 1) C (cC_possible1 l D cA A g (cw cA (g 0) ad 6 nc nc 6 nt dy mo I L)) hH_1 hS_2 gX4_client_X4_checkPossible rfl rfl (by decide +kernel) ⟨Nat.le_of_ble_eq_true rfl, Nat.le_of_ble_eq_true rfl⟩ hl_3 rfl (Nat.le_of_ble_eq_true rfl) dX4_client_19 ⟨Nat.le_of_ble_eq_true rfl, Nat.le_of_ble_eq_true rfl⟩) hS_2 (fun w_ H locs hP hH_5 hS_6 => ?_)
    subst hP
    refine zr_new C hinX0 (ci := 1) rfl tyX0 tyX0_ok (by decide +kernel) (by decide +kernel) (by decide +kernel) hH_5 hS_6 (fs := [.int 0, .null, .null, .null, .long 0]) (fun j hj => by match j, hj with | 0, _ => rfl | 1, _ => rfl | 2, _ => rfl | 3, _ => rfl | 4, _ => rfl) (Nat.le_of_ble_eq_true rfl) (Nat.le_of_ble_eq_true rfl) dX4_client_22 (8, nc, 0) (fun o => zk_ext (cw cA (g 0) ad 6 nc nc 6 nt dy mo I L) (8, nc, 0) o (.inr (1, [.int 0, .null, .null, .null, .long 0]))) (fun o => zk_ext_nw _ _ _ _) (fun o H hH_7 hS_8 => ?_)
    refine lv_dup hx hb dX4_client_25 rfl ?_
    refine lv_iload_n hx hb dX4_client_26 rfl (lv_at hl_3 0 rfl) ?_
    have hi0 := cC_initX0 l D cA A g (zk_ext (cw cA (g 0) ad 6 nc nc 6 nt dy mo I L) (8, nc, 0) o (.inr (1, [.int 0, .null, .null, .null, .long 0]))) (8, nc, 0) (9, nc, 0) (11, nc, 0) (12, nc, 0) (Or.inl rfl) (zne (by omega)) (zne (by omega)) (zne (by omega)) (zk_ext_s _ _ _ _) (nI nc)
    rw [zk_ext_a] at hi0
    refine zk_cv (zk_rI (As := [.int (nI nc)]) (rest := [.ref o]) (n := 1) (b := o) C hi0 hH_7 hS_8 gX4_client_X0_init rfl (by decide +kernel) (by decide +kernel) (by decide +kernel) rfl rfl (by decide +kernel) ⟨Nat.le_of_ble_eq_true rfl, Nat.le_of_ble_eq_true rfl⟩ hl_3 rfl (Nat.le_of_ble_eq_true rfl) dX4_client_27 ⟨Nat.le_of_ble_eq_true rfl, Nat.le_of_ble_eq_true rfl⟩) hS_8 (fun w_ H locs hP hH_9 hS_10 => ?_)
    obtain ⟨o1, o2, o3, rfl⟩ := hP
    have hZ := hH_9.sb (cl_new hB)
    obtain ⟨ad2, had2⟩ : ∃ z, z = zk_ad (zk_ad (zk_ad (zk_ad ad (8, nc, 0) o) (9, nc, 0) o1) (11, nc, 0) o2) (12, nc, 0) o3 := ⟨_, rfl⟩
    rw [← had2] at hZ
    have hA2 : ad2 (0, 0, 0) = ad (0, 0, 0) := by rw [had2, zk_ad_n (zne (by omega)), zk_ad_n (zne (by omega)), zk_ad_n (zne (by omega)), zk_ad_n (zne (by omega))]
    have hO2 : ad2 (8, nc, 0) = o := by rw [had2, zk_ad_n (zne (by omega)), zk_ad_n (zne (by omega)), zk_ad_n (zne (by omega)), zk_ad_s]
    have hl2 := hl_3
    rw [← hA2] at hl2
    refine W.eq (g2 := F0 m 30 ls [.ref (ad2 (8, nc, 0))]) (by rw [hO2]) ?_
    refine lv_astore_n (lv' := [(2, .ref (ad2 (8, nc, 0))), (1, .int (nI nc)), (0, .ref (ad2 (0, 0, 0)))]) hx hb dX4_client_30 rfl hl2 (by decide) rfl (fun ls hl_11 => ?_)
    refine lv_iconst (v := 0) hx hb dX4_client_31 (by decide) ?_
    refine lv_istore_n (lv' := [(3, .int 0), (2, .ref (ad2 (8, nc, 0))), (1, .int (nI nc)), (0, .ref (ad2 (0, 0, 0)))]) hx hb dX4_client_32 rfl hl_11 (by decide) rfl (fun ls hl_12 => ?_)
    refine z_at (n := 6) (P := fun i_13 => ∀ ad3 : zk_K → Nat, ad3 (0, 0, 0) = ad (0, 0, 0) → zL p l e rmC_client s m _ below meth c 4 D A _ (cw cA (g 0) ad3 6 (nc + 1) nc i_13 nt dy mo I L) (4 + 2 * i_13) (50 + 167 * i_13) 33 [(0, .ref (ad3 (0, 0, 0))), (1, .int (nI nc)), (2, .ref (ad3 (8, nc, 0))), (3, .int (nI i_13))] []) 0 (Nat.zero_le _) (fun h => h ad2 hA2 _ _ _ hZ hS_10 (lv_sub hl_12 [3, 2, 1, 0] rfl)) ?_ ?_
    · intro ad3 hp_15 H locs ls hH_16 hS_17 hl_18
      refine lv_iload_n hx hb dX4_client_33 rfl (lv_at hl_18 3 rfl) ?_
      refine lv_aload_n hx hb dX4_client_34 rfl (lv_at hl_18 0 rfl) ?_
      refine zr_getA (ref := RX4) C hinX4 (ci := 5) rfl hH_16 (0, 0, 0) rfl rfl 0 (by decide) (by decide +kernel) (fun _ h => h) rfl dX4_client_35 ?_ rfl
      refine zk_ci (zk_rV (As := []) (rest := [.int (nI 6)]) (n := 0) (k := (1, 0, 0)) C (cC_size l D cA A g (cw cA (g 0) ad3 6 (nc + 1) nc 6 nt dy mo I L) (1, 0, 0) (4, 0, 0) 6 (g0 := g 0) rfl rfl) hH_16 hS_17 rfl rfl rfl gX4_client_Jx4a65c_size_8abf5 rfl rfl (by decide +kernel) ⟨Nat.le_of_ble_eq_true rfl, Nat.le_of_ble_eq_true rfl⟩ hl_18 rfl (Nat.le_of_ble_eq_true rfl) dX4_client_38 ⟨by simp only [rmJ_size, rmJ_get, rmJ_add1B, rmC_client, rmC_initX2]; omega, by simp only [rmJ_size, rmJ_get, rmJ_add1B, rmC_client, rmC_initX2]; omega⟩) hS_17 (fun r_ w_ H locs hP hH_19 hS_20 => ?_)
      obtain ⟨rfl, rfl⟩ := hP
      refine lv_icmp_ge (tgt := 77) hx hb dX4_client_41 (by decide) (fun c_21 => ?_) (fun c_21 => absurd (Int32.le_refl _) c_21)
      refine lv_aload_n hx hb dX4_client_77 rfl (lv_at hl_18 0 rfl) ?_
      refine zr_getA (ref := RX4) C hinX4 (ci := 5) rfl hH_19 (0, 0, 0) rfl rfl 1 (by decide) (by decide +kernel) (fun _ h => h) rfl dX4_client_78 ?_ rfl
      refine lv_aload_n hx hb dX4_client_81 rfl (lv_at hl_18 2 rfl) ?_
      refine zk_ci (zk_rV (As := [.ref (ad3 (8, nc, 0))]) (rest := []) (n := 1) (k := (2, 0, 0)) C (cJ_add l D cA A g (cw cA (g 0) ad3 6 (nc + 1) nc 6 nt dy mo I L) (2, 0, 0) (5, 0, 0) (99, 0, 0) nc (capL nc) (cl_lst (by omega)) (fun z => z) (capL_n (by omega)) capL_m (ad3 (8, nc, 0)) ⟨(8, nc, 0), 1, [.int (nI nc), .ref (ad3 (9, nc, 0)), .ref (ad3 (11, nc, 0)), .ref (ad3 (12, nc, 0)), .long (L 6 nc)], ⟨Nat.lt_succ_self _, rfl⟩, rfl, rfl, Or.inl rfl⟩) hH_19 hS_20 rfl rfl rfl gX4_client_Jx4a65c_add_9ea2d rfl rfl (by decide +kernel) ⟨Nat.le_of_ble_eq_true rfl, Nat.le_of_ble_eq_true rfl⟩ hl_18 rfl (Nat.le_of_ble_eq_true rfl) dX4_client_82 ⟨Nat.le_of_ble_eq_true rfl, Nat.le_of_ble_eq_true rfl⟩) hS_20 (fun r_ w_ H locs hP hH_22 hS_23 => ?_)
      obtain ⟨rfl, q2, -, rfl⟩ := hP
      have hZ5 := hH_22.sb (cl_add (by omega))
      refine lv_pop hx hb dX4_client_85 rfl ?_
      refine lv_iload_n hx hb dX4_client_86 rfl (lv_at hl_18 1 rfl) ?_
      refine vx_ret (zr_iret C hr ?_ hZ5 hS_23 (Nat.le_of_ble_eq_true rfl) (Nat.le_of_ble_eq_true rfl) dX4_client_87)
      exact ⟨hn0, rfl, _, (zk_ad_n (zne (by omega))).trans hp_15, rfl⟩
    · intro i_13 hi_13 ih_14 ad3 hp_24 H locs ls hH_25 hS_26 hl_27
      refine lv_iload_n hx hb dX4_client_33 rfl (lv_at hl_27 3 rfl) ?_
      refine lv_aload_n hx hb dX4_client_34 rfl (lv_at hl_27 0 rfl) ?_
      refine zr_getA (ref := RX4) C hinX4 (ci := 5) rfl hH_25 (0, 0, 0) rfl rfl 0 (by decide) (by decide +kernel) (fun _ h => h) rfl dX4_client_35 ?_ rfl
      refine zk_ci (zk_rV (As := []) (rest := [.int (nI i_13)]) (n := 0) (k := (1, 0, 0)) C (cC_size l D cA A g (cw cA (g 0) ad3 6 (nc + 1) nc i_13 nt dy mo I L) (1, 0, 0) (4, 0, 0) 6 (g0 := g 0) rfl rfl) hH_25 hS_26 rfl rfl rfl gX4_client_Jx4a65c_size_8abf5 rfl rfl (by decide +kernel) ⟨Nat.le_of_ble_eq_true rfl, Nat.le_of_ble_eq_true rfl⟩ hl_27 rfl (Nat.le_of_ble_eq_true rfl) dX4_client_38 ⟨by simp only [rmJ_size, rmJ_get, rmJ_add1B, rmC_client, rmC_initX2]; omega, by simp only [rmJ_size, rmJ_get, rmJ_add1B, rmC_client, rmC_initX2]; omega⟩) hS_26 (fun r_ w_ H locs hP hH_28 hS_29 => ?_)
      obtain ⟨rfl, rfl⟩ := hP
      refine lv_icmp_ge (tgt := 77) hx hb dX4_client_41 (by decide) (fun c_30 => absurd c_30 (nI_ge hi_13 (by first | decide | omega))) (fun c_30 => ?_)
      refine lv_aload_n hx hb dX4_client_44 rfl (lv_at hl_27 2 rfl) ?_
      refine zr_getA (ref := RX0) C hinX0 (ci := 1) rfl hH_28 (8, nc, 0) ⟨Nat.lt_succ_self _, rfl⟩ rfl 1 (by decide) (by decide +kernel) (fun _ h => h) rfl dX4_client_45 ?_ rfl
      refine zr_new C hinX2 (ci := 3) rfl tyX2 tyX2_ok (by decide +kernel) (by decide +kernel) (by decide +kernel) hH_28 hS_29 (fs := [.null, .null, .long 0, .int 0]) (fun j hj => by match j, hj with | 0, _ => rfl | 1, _ => rfl | 2, _ => rfl | 3, _ => rfl) (by simp only [rmJ_size, rmJ_get, rmJ_add1B, rmC_client, rmC_initX2]; omega) (by simp only [rmJ_size, rmJ_get, rmJ_add1B, rmC_client, rmC_initX2]; omega) dX4_client_48 (13, nc, i_13) (fun o => zk_ext (cw cA (g 0) ad3 6 (nc + 1) nc i_13 nt dy mo I L) (13, nc, i_13) o (.inr (3, [.null, .null, .long 0, .int 0]))) (fun o => zk_ext_nw _ _ _ _) (fun o H hH_31 hS_32 => ?_)
      refine lv_dup hx hb dX4_client_51 rfl ?_
      refine lv_aload_n hx hb dX4_client_52 rfl (lv_at hl_27 2 rfl) ?_
      refine lv_aload_n hx hb dX4_client_53 rfl (lv_at hl_27 0 rfl) ?_
      refine zr_getA (ref := RX4) C hinX4 (ci := 5) rfl hH_31 (0, 0, 0) (Or.inr rfl) rfl 0 (by decide) (by decide +kernel) (fun _ h => h) rfl dX4_client_54 ?_ rfl
      refine lv_iload_n hx hb dX4_client_57 rfl (lv_at hl_27 3 rfl) ?_
      refine zk_cr (zk_rV (As := [.int (nI i_13)]) (rest := [.ref (ad3 (8, nc, 0)), .ref o, .ref o, .ref (ad3 (9, nc, 0))]) (n := 1) (k := (1, 0, 0)) C (cC_get l D cA A g (zk_ext (cw cA (g 0) ad3 6 (nc + 1) nc i_13 nt dy mo I L) (13, nc, i_13) o (.inr (3, [.null, .null, .long 0, .int 0]))) (1, 0, 0) (4, 0, 0) (fun j => (7, j, 0)) 6 i_13 (g0 := g 0) (Or.inr rfl) rfl (Or.inr ⟨rfl, by decide⟩) rfl (by omega) (by omega)) hH_31 hS_32 (Or.inr rfl) rfl rfl gX4_client_Jx4a65c_get_915e3 rfl rfl (by decide +kernel) ⟨Nat.le_of_ble_eq_true rfl, Nat.le_of_ble_eq_true rfl⟩ hl_27 rfl (Nat.le_of_ble_eq_true rfl) dX4_client_58 ⟨by simp only [rmJ_size, rmJ_get, rmJ_add1B, rmC_client, rmC_initX2]; omega, by simp only [rmJ_size, rmJ_get, rmJ_add1B, rmC_client, rmC_initX2]; omega⟩) hS_32 (fun r_ w_ H locs hP hH_33 hS_34 => ?_)
      obtain ⟨rfl, rfl⟩ := hP
      refine W.eq (g2 := F0 m 61 ls [.ref (ad3 (7, i_13, 0)), .ref (ad3 (8, nc, 0)), .ref o, .ref o, .ref (ad3 (9, nc, 0))]) rfl ?_
      refine zr_castC C (by decide +kernel) (ci := 2) rfl hH_33 (7, i_13, 0) (Or.inr ⟨by omega, rfl⟩) rfl rfl dX4_client_61 ?_
      have hi2 := cC_initX2 l D cA A g (zk_ext (cw cA (g 0) ad3 6 (nc + 1) nc i_13 nt dy mo I L) (13, nc, i_13) o (.inr (3, [.null, .null, .long 0, .int 0]))) (13, nc, i_13) (Or.inl rfl) (zk_ext_s _ _ _ _) (ad3 (8, nc, 0)) (ad3 (7, i_13, 0))
      rw [zk_ext_a] at hi2
      refine zk_cv (zk_rI (As := [.ref (ad3 (8, nc, 0)), .ref (ad3 (7, i_13, 0))]) (rest := [.ref o, .ref (ad3 (9, nc, 0))]) (n := 2) (b := o) C hi2 hH_33 hS_34 gX4_client_X2_init rfl (by decide +kernel) (by decide +kernel) (by decide +kernel) rfl rfl (by decide +kernel) ⟨Nat.le_of_ble_eq_true rfl, Nat.le_of_ble_eq_true rfl⟩ hl_27 rfl (Nat.le_of_ble_eq_true rfl) dX4_client_64 ⟨by simp only [rmJ_size, rmJ_get, rmJ_add1B, rmC_client, rmC_initX2]; omega, by simp only [rmJ_size, rmJ_get, rmJ_add1B, rmC_client, rmC_initX2]; omega⟩) hS_34 (fun w_ H locs hP hH_35 hS_36 => ?_)
      subst hP
      have hT : zk_H D A (hdW cA (g 0) ad3 nc i_13 nt dy mo I L o (.inr (3, [.null, .null, .long 0, .int 0]))) H := hH_35
      have hkt : ¬ (hdW cA (g 0) ad3 nc i_13 nt dy mo I L o (.inr (3, [.null, .null, .long 0, .int 0]))).2.1 (99, 0, 0) := fun z => z.elim (fun z => absurd (show (99 : Nat) = 13 from congrArg Prod.fst z) (by decide)) (fun z => z)
      refine zk_ci (zk_rV (As := [.ref o]) (rest := []) (n := 1) (k := (9, nc, 0)) C (cJ_add l D cA A g (hdW cA (g 0) ad3 nc i_13 nt dy mo I L o (.inr (3, [.null, .null, .long 0, .int 0]))) (9, nc, 0) (10, nc, 0) (99, 0, 0) i_13 (capL i_13) (hdW_lst (by omega)) hkt (capL_n (by omega)) capL_m o hdW_el) hT hS_36 (Or.inr ⟨Nat.lt_succ_self _, rfl⟩) rfl rfl gX4_client_Jx4a65c_add_9ea2d rfl rfl (by decide +kernel) ⟨Nat.le_of_ble_eq_true rfl, Nat.le_of_ble_eq_true rfl⟩ hl_27 rfl (Nat.le_of_ble_eq_true rfl) dX4_client_67 ⟨by simp only [rmJ_size, rmJ_get, rmJ_add1B, rmC_client, rmC_initX2]; omega, by simp only [rmJ_size, rmJ_get, rmJ_add1B, rmC_client, rmC_initX2]; omega⟩) hS_36 (fun r_ w_ H locs hP hH_37 hS_38 => ?_)
      obtain ⟨rfl, q2, -, rfl⟩ := hP
      have hZ3 := hH_37.sb (hdW_add (by omega) hB h11)
      obtain ⟨ad4, had4⟩ : ∃ z, z = zk_ad (zk_ad ad3 (13, nc, i_13) o) (10, nc, 0) q2 := ⟨_, rfl⟩
      rw [← had4] at hZ3
      have hA4 : ad4 (0, 0, 0) = ad3 (0, 0, 0) := by rw [had4, zk_ad_n (zne (by omega)), zk_ad_n (zne (by omega))]
      have hB4 : ad4 (8, nc, 0) = ad3 (8, nc, 0) := by rw [had4, zk_ad_n (zne (by omega)), zk_ad_n (zne (by omega))]
      have hl4 := hl_27
      rw [← hA4, ← hB4] at hl4
      refine lv_pop hx hb dX4_client_70 rfl ?_
      refine lv_iinc (v := nI (i_13 + 1)) (lv' := [(3, .int (nI (i_13 + 1))), (0, .ref (ad4 (0, 0, 0))), (1, .int (nI nc)), (2, .ref (ad4 (8, nc, 0)))]) hx hb dX4_client_71 hl4 (k := 3) rfl (nI_1 i_13) (by decide) rfl (fun ls hl_39 => ?_)
      refine lv_goto (tgt := 33) hx hb dX4_client_74 (by decide) ?_
      exact ih_14 ad4 (hA4.trans hp_24) _ _ _ hZ3 hS_38 (lv_sub hl_39 [1, 2, 3, 0] rfl)
