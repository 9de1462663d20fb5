def rmM_goal : Room := { frames := 2, cells := 0, slots := 0, locals := 43 }
set_option maxHeartbeats 4000000 in
set_option maxRecDepth 100000 in
theorem cM_goal (l : Launch) (D : va_G) (cA : Nat → ClassId) (A : Nat → Prop) (g : Nat → Nat) (ad : zk_K → Nat) (dy nc nt nl : Nat) (th : Int32) (mo : Int64) (I : zIA) (L : zLA) (cx f its : Int32) (hnc : nc ≤ 12) : zM l yX5_goal wsX5_goal rmM_goal D (zt cA) A g [.ref (ad (0, 0, 0)), .int cx, .int f, .int its] (mw cA ad dy nc nt nl th mo I L) (zQi (fun r w' => (¬ (zIn cx nc ∧ zIn f 6) ∧ mw cA ad dy nc nt nl 1 mo I L = w') ∨ (∃ c k, c < nc ∧ cx = nI c ∧ k < 6 ∧ f = nI k ∧ ((¬ zR its 0 100 ∧ mw cA ad dy nc nt nl 2 mo I L = w') ∨ (zR its 0 100 ∧ 100 < sumG I c k its 6 ∧ mw cA ad dy nc nt nl 3 mo I L = w') ∨ (zR its 0 100 ∧ ¬ 100 < sumG I c k its 6 ∧ sumG I c k its 6 = r ∧ mw cA ad dy nc nt nl 0 mo (up2 I 7 (6 * c + k) its) L = w'))))) := by
  refine zM_of (cc := cX5_goal) (maxL := 7) (ret := (some .int)) (own := RX5) (by decide +kernel) rfl (Nat.le_of_ble_eq_true rfl) rfl ?_
  intro p e s m below meth c C hr hnm H locs ls hH hS hl
  obtain ⟨⟨hx, hb, hml, hown, hts⟩, hG, hlk⟩ := id C
  have hin : ∀ w ∈ wsX50, w ∈ wsX5_goal := by decide +kernel
  have hl : lv_has ls 7 [(0, .ref (ad (0, 0, 0))), (1, .int cx), (2, .int f), (3, .int its)] := hl
  refine lv_aload_n hx hb dX5_goal_0 rfl (lv_at hl 0 rfl) ?_
  refine lv_iload_n hx hb dX5_goal_1 rfl (lv_at hl 1 rfl) ?_
  refine zk_ci (zk_rV (As := [.int cx]) (rest := []) (n := 1) (k := (0, 0, 0)) C (cM_isClient l D cA A g ad dy nc nt nl th mo I L cx hnc) hH hS mL_o rfl rfl gX5_goal_X5_isClient rfl rfl (by decide +kernel) ⟨Nat.le_of_ble_eq_true rfl, Nat.le_of_ble_eq_true rfl⟩ hl rfl (Nat.le_of_ble_eq_true rfl) dX5_goal_2 ⟨Nat.le_of_ble_eq_true rfl, Nat.le_of_ble_eq_true rfl⟩) hS (fun r_1 w_2 H locs hP hH_3 hS_4 => ?_)
  obtain ⟨rfl, (⟨rfl, h_r_1⟩ | ⟨rfl, h_r_1⟩)⟩ := hP
  · obtain ⟨cxj, hcxj, rfl⟩ := h_r_1
    refine lv_if_eq (tgt := 19) hx hb dX5_goal_5 (by decide) (fun c_5 => absurd c_5 (by decide)) (fun c_5 => ?_)
    refine lv_iload_n hx hb dX5_goal_8 rfl (lv_at hl 2 rfl) ?_
    refine zk_ci (zk_rS (As := [.int f]) (rest := []) (n := 1) C (cM_isFund l D cA A g _ f) hH_3 hS_4 gX5_goal_X5_isFund rfl rfl (by decide +kernel) ⟨Nat.le_of_ble_eq_true rfl, Nat.le_of_ble_eq_true rfl⟩ hl rfl (Nat.le_of_ble_eq_true rfl) dX5_goal_9 ⟨Nat.le_of_ble_eq_true rfl, Nat.le_of_ble_eq_true rfl⟩) hS_4 (fun r_6 w_7 H locs hP hH_8 hS_9 => ?_)
    obtain ⟨rfl, (⟨rfl, h_r_6⟩ | ⟨rfl, h_r_6⟩)⟩ := hP
    · obtain ⟨fj, hfj, rfl⟩ := h_r_6
      refine lv_if_eq (tgt := 19) hx hb dX5_goal_12 (by decide) (fun c_10 => absurd c_10 (by decide)) (fun c_10 => ?_)
      refine lv_iconst (v := 1) hx hb dX5_goal_15 (by decide) ?_
      refine lv_goto (tgt := 20) hx hb dX5_goal_16 (by decide) ?_
      refine lv_istore (lv' := [(4, .int 1), (0, .ref (ad (0, 0, 0))), (1, .int (nI cxj)), (2, .int (nI fj)), (3, .int its)]) hx hb dX5_goal_20 hl (by decide) rfl (fun ls hl_11 => ?_)
      refine lv_iload_n hx hb dX5_goal_22 rfl (lv_at hl_11 4 rfl) ?_
      refine lv_istore (lv' := [(5, .int its), (4, .int 1), (0, .ref (ad (0, 0, 0))), (1, .int (nI cxj)), (2, .int (nI fj)), (3, .int its)]) hx hb dX5_goal_23 hl_11 (by decide) rfl (fun ls hl_12 => ?_)
      refine lv_iconst (v := 0) hx hb dX5_goal_25 (by decide) ?_
      refine lv_istore (lv' := [(6, .int 0), (5, .int its), (4, .int 1), (0, .ref (ad (0, 0, 0))), (1, .int (nI cxj)), (2, .int (nI fj)), (3, .int its)]) hx hb dX5_goal_26 hl_12 (by decide) rfl (fun ls hl_13 => ?_)
      refine z_at (n := 6) (P := fun i_14 => zL p l e _ s m _ below meth c 7 D A _ (mw cA ad dy nc nt nl th mo I L) 0 0 28 [(0, .ref (ad (0, 0, 0))), (1, .int (nI cxj)), (2, .int (nI fj)), (3, .int its), (4, .int 1), (5, .int (sumG I cxj fj its i_14)), (6, .int (nI i_14))] []) 0 (Nat.zero_le _) (fun h => h _ _ _ hH_8 hS_9 (lv_sub hl_13 [3, 4, 5, 6, 2, 1, 0] rfl)) ?_ ?_
      · intro H locs ls hH_16 hS_17 hl_18
        refine lv_iload hx hb dX5_goal_28 (lv_at hl_18 6 rfl) ?_
        refine lv_bipush (v := 6) hx hb dX5_goal_30 (by decide) ?_
        refine lv_icmp_ge (tgt := 73) hx hb dX5_goal_32 (by decide) (fun c_19 => ?_) (fun c_19 => absurd (Int32.le_refl _) c_19)
        refine lv_aload_n hx hb dX5_goal_73 rfl (lv_at hl_18 0 rfl) ?_
        refine lv_iload hx hb dX5_goal_74 (lv_at hl_18 4 rfl) ?_
        refine lv_if_ne (tgt := 83) hx hb dX5_goal_76 (by decide) (fun c_20 => ?_) (fun c_20 => absurd c_20 (by decide))
        refine lv_iload_n hx hb dX5_goal_83 rfl (lv_at hl_18 3 rfl) ?_
        refine lv_iconst (v := 0) hx hb dX5_goal_84 (by decide) ?_
        refine lv_bipush (v := 100) hx hb dX5_goal_85 (by decide) ?_
        refine zk_ci (zk_rS (As := [.int its, .int 0, .int 100]) (rest := [.ref (ad (0, 0, 0))]) (n := 3) C (cM_isIn l D cA A g _ its 0 100) hH_16 hS_17 gX5_goal_X5_isIn rfl rfl (by decide +kernel) ⟨Nat.le_of_ble_eq_true rfl, Nat.le_of_ble_eq_true rfl⟩ hl_18 rfl (Nat.le_of_ble_eq_true rfl) dX5_goal_87 ⟨Nat.le_of_ble_eq_true rfl, Nat.le_of_ble_eq_true rfl⟩) hS_17 (fun r_21 w_22 H locs hP hH_23 hS_24 => ?_)
        obtain ⟨rfl, (⟨rfl, h_r_21⟩ | ⟨rfl, h_r_21⟩)⟩ := hP
        · refine lv_if_ne (tgt := 97) hx hb dX5_goal_90 (by decide) (fun c_25 => ?_) (fun c_25 => absurd c_25 (by decide))
          refine lv_iload hx hb dX5_goal_97 (lv_at hl_18 5 rfl) ?_
          refine lv_bipush (v := 100) hx hb dX5_goal_99 (by decide) ?_
          refine lv_icmp_le (tgt := 108) hx hb dX5_goal_101 (by decide) (fun c_26 => ?_) (fun c_26 => ?_)
          · refine lv_iconst (v := 0) hx hb dX5_goal_108 (by decide) ?_
            refine zk_ci (zk_rV (As := [.int 0]) (rest := []) (n := 1) (k := (0, 0, 0)) C (cM_fails l D cA A g ad dy nc nt nl th mo I L 0) hH_23 hS_24 mL_o rfl rfl gX5_goal_X5_fails rfl rfl (by decide +kernel) ⟨Nat.le_of_ble_eq_true rfl, Nat.le_of_ble_eq_true rfl⟩ hl_18 rfl (Nat.le_of_ble_eq_true rfl) dX5_goal_109 ⟨Nat.le_of_ble_eq_true rfl, Nat.le_of_ble_eq_true rfl⟩) hS_24 (fun r_27 w_28 H locs hP hH_29 hS_30 => ?_)
            obtain ⟨rfl, rfl⟩ := hP
            refine lv_if_eq (tgt := 117) hx hb dX5_goal_112 (by decide) (fun c_31 => ?_) (fun c_31 => absurd c_31 (by decide))
            refine lv_aload_n hx hb dX5_goal_117 rfl (lv_at hl_18 0 rfl) ?_
            refine zm_get C hin hH_29 7 (by decide) (by decide +kernel) rfl dX5_goal_118 ?_
            refine lv_bipush (v := 6) hx hb dX5_goal_121 (by decide) ?_
            refine lv_iload_n hx hb dX5_goal_123 rfl (lv_at hl_18 1 rfl) ?_
            refine lv_imul hx hb dX5_goal_124 ?_
            refine lv_iload_n hx hb dX5_goal_125 rfl (lv_at hl_18 2 rfl) ?_
            refine lv_iadd hx hb dX5_goal_126 ?_
            refine lv_iload_n hx hb dX5_goal_127 rfl (lv_at hl_18 3 rfl) ?_
            refine zm_ist C hH_29 hS_30 7 (by decide) rfl (j := ((6 * cxj) + fj)) (zi_add (zi_mul rfl rfl) rfl) (show ((6 * cxj) + fj) < 72 by omega) dX5_goal_128 (fun H locs hH_32 hS_33 => ?_)
            refine lv_iload hx hb dX5_goal_129 (lv_at hl_18 5 rfl) ?_
            refine zr_iret C hr ?_ hH_32 hS_33 (Nat.le_of_ble_eq_true rfl) (Nat.le_of_ble_eq_true rfl) dX5_goal_131
            exact Or.inr ⟨cxj, fj, hcxj, rfl, hfj, rfl, Or.inr (Or.inr ⟨by assumption, Int32.not_lt.mpr (by assumption), rfl, rfl⟩)⟩
          · refine lv_iconst (v := 3) hx hb dX5_goal_104 (by decide) ?_
            refine lv_goto (tgt := 109) hx hb dX5_goal_105 (by decide) ?_
            refine zk_ci (zk_rV (As := [.int 3]) (rest := []) (n := 1) (k := (0, 0, 0)) C (cM_fails l D cA A g ad dy nc nt nl th mo I L 3) hH_23 hS_24 mL_o rfl rfl gX5_goal_X5_fails rfl rfl (by decide +kernel) ⟨Nat.le_of_ble_eq_true rfl, Nat.le_of_ble_eq_true rfl⟩ hl_18 rfl (Nat.le_of_ble_eq_true rfl) dX5_goal_109 ⟨Nat.le_of_ble_eq_true rfl, Nat.le_of_ble_eq_true rfl⟩) hS_24 (fun r_34 w_35 H locs hP hH_36 hS_37 => ?_)
            obtain ⟨rfl, rfl⟩ := hP
            refine lv_if_eq (tgt := 117) hx hb dX5_goal_112 (by decide) (fun c_38 => absurd c_38 (by decide)) (fun c_38 => ?_)
            refine lv_iconst (v := 0) hx hb dX5_goal_115 (by decide) ?_
            refine zr_iret C hr ?_ hH_36 hS_37 (Nat.le_of_ble_eq_true rfl) (Nat.le_of_ble_eq_true rfl) dX5_goal_116
            exact Or.inr ⟨cxj, fj, hcxj, rfl, hfj, rfl, Or.inr (Or.inl ⟨by assumption, Int32.not_le.mp (by assumption), rfl⟩)⟩
        · refine lv_if_ne (tgt := 97) hx hb dX5_goal_90 (by decide) (fun c_39 => absurd c_39 (by decide)) (fun c_39 => ?_)
          refine lv_iconst (v := 2) hx hb dX5_goal_93 (by decide) ?_
          refine lv_goto (tgt := 109) hx hb dX5_goal_94 (by decide) ?_
          refine zk_ci (zk_rV (As := [.int 2]) (rest := []) (n := 1) (k := (0, 0, 0)) C (cM_fails l D cA A g ad dy nc nt nl th mo I L 2) hH_23 hS_24 mL_o rfl rfl gX5_goal_X5_fails rfl rfl (by decide +kernel) ⟨Nat.le_of_ble_eq_true rfl, Nat.le_of_ble_eq_true rfl⟩ hl_18 rfl (Nat.le_of_ble_eq_true rfl) dX5_goal_109 ⟨Nat.le_of_ble_eq_true rfl, Nat.le_of_ble_eq_true rfl⟩) hS_24 (fun r_40 w_41 H locs hP hH_42 hS_43 => ?_)
          obtain ⟨rfl, rfl⟩ := hP
          refine lv_if_eq (tgt := 117) hx hb dX5_goal_112 (by decide) (fun c_44 => absurd c_44 (by decide)) (fun c_44 => ?_)
          refine lv_iconst (v := 0) hx hb dX5_goal_115 (by decide) ?_
          refine zr_iret C hr ?_ hH_42 hS_43 (Nat.le_of_ble_eq_true rfl) (Nat.le_of_ble_eq_true rfl) dX5_goal_116
          exact Or.inr ⟨cxj, fj, hcxj, rfl, hfj, rfl, Or.inl ⟨by assumption, rfl⟩⟩
      · intro i_14 hi_14 ih_15 H locs ls hH_45 hS_46 hl_47
        refine lv_iload hx hb dX5_goal_28 (lv_at hl_47 6 rfl) ?_
        refine lv_bipush (v := 6) hx hb dX5_goal_30 (by decide) ?_
        refine lv_icmp_ge (tgt := 73) hx hb dX5_goal_32 (by decide) (fun c_48 => absurd c_48 (nI_ge hi_14 (by decide))) (fun c_48 => ?_)
        refine lv_iload hx hb dX5_goal_35 (lv_at hl_47 4 rfl) ?_
        refine lv_if_eq (tgt := 73) hx hb dX5_goal_37 (by decide) (fun c_49 => absurd c_49 (by decide)) (fun c_49 => ?_)
        refine lv_iload hx hb dX5_goal_40 (lv_at hl_47 5 rfl) ?_
        refine lv_iload hx hb dX5_goal_42 (lv_at hl_47 6 rfl) ?_
        refine lv_iload_n hx hb dX5_goal_44 rfl (lv_at hl_47 2 rfl) ?_
        refine lv_icmp_ne (tgt := 52) hx hb dX5_goal_45 (by decide) (fun c_50 => ?_) (fun c_50 => ?_)
        · have c_50e := fun z => c_50 ((nI_eq (by omega) (by omega)).mpr z)
          refine lv_aload_n hx hb dX5_goal_52 rfl (lv_at hl_47 0 rfl) ?_
          refine zm_get C hin hH_45 7 (by decide) (by decide +kernel) rfl dX5_goal_53 ?_
          refine lv_bipush (v := 6) hx hb dX5_goal_56 (by decide) ?_
          refine lv_iload_n hx hb dX5_goal_58 rfl (lv_at hl_47 1 rfl) ?_
          refine lv_imul hx hb dX5_goal_59 ?_
          refine lv_iload hx hb dX5_goal_60 (lv_at hl_47 6 rfl) ?_
          refine lv_iadd hx hb dX5_goal_62 ?_
          refine zm_ild C hH_45 7 (by decide) rfl (j := ((6 * cxj) + i_14)) (zi_add (zi_mul rfl rfl) rfl) (show ((6 * cxj) + i_14) < 72 by omega) dX5_goal_63 ?_
          refine lv_iadd hx hb dX5_goal_64 ?_
          refine lv_istore (lv' := [(5, .int ((sumG I cxj fj its i_14) + (I 7 ((6 * cxj) + i_14)))), (0, .ref (ad (0, 0, 0))), (1, .int (nI cxj)), (2, .int (nI fj)), (3, .int its), (4, .int 1), (6, .int (nI i_14))]) hx hb dX5_goal_65 hl_47 (by decide) rfl (fun ls hl_51 => ?_)
          refine lv_iinc (v := nI (i_14 + 1)) (lv' := [(6, .int (nI (i_14 + 1))), (5, .int ((sumG I cxj fj its i_14) + (I 7 ((6 * cxj) + i_14)))), (0, .ref (ad (0, 0, 0))), (1, .int (nI cxj)), (2, .int (nI fj)), (3, .int its), (4, .int 1)]) hx hb dX5_goal_67 hl_51 (k := 6) rfl (nI_1 i_14) (by decide) rfl (fun ls hl_52 => ?_)
          refine lv_goto (tgt := 28) hx hb dX5_goal_70 (by decide) ?_
          refine ih_15 _ _ _ hH_45 hS_46 ?_
          rw [sumG_n c_50e]
          exact lv_sub hl_52 [2, 3, 4, 5, 6, 1, 0] rfl
        · have c_50e := (nI_eq (by omega) (by omega)).mp c_50
          refine lv_iconst (v := 0) hx hb dX5_goal_48 (by decide) ?_
          refine lv_goto (tgt := 64) hx hb dX5_goal_49 (by decide) ?_
          refine lv_iadd hx hb dX5_goal_64 ?_
          refine lv_istore (lv' := [(5, .int ((sumG I cxj fj its i_14) + 0)), (0, .ref (ad (0, 0, 0))), (1, .int (nI cxj)), (2, .int (nI fj)), (3, .int its), (4, .int 1), (6, .int (nI i_14))]) hx hb dX5_goal_65 hl_47 (by decide) rfl (fun ls hl_53 => ?_)
          refine lv_iinc (v := nI (i_14 + 1)) (lv' := [(6, .int (nI (i_14 + 1))), (5, .int ((sumG I cxj fj its i_14) + 0)), (0, .ref (ad (0, 0, 0))), (1, .int (nI cxj)), (2, .int (nI fj)), (3, .int its), (4, .int 1)]) hx hb dX5_goal_67 hl_53 (k := 6) rfl (nI_1 i_14) (by decide) rfl (fun ls hl_54 => ?_)
          refine lv_goto (tgt := 28) hx hb dX5_goal_70 (by decide) ?_
          refine ih_15 _ _ _ hH_45 hS_46 ?_
          rw [sumG_p c_50e]
          exact lv_sub hl_54 [2, 3, 4, 5, 6, 1, 0] rfl
    · refine lv_if_eq (tgt := 19) hx hb dX5_goal_12 (by decide) (fun c_55 => ?_) (fun c_55 => absurd c_55 (by decide))
      refine lv_iconst (v := 0) hx hb dX5_goal_19 (by decide) ?_
      refine lv_istore (lv' := [(4, .int 0), (0, .ref (ad (0, 0, 0))), (1, .int (nI cxj)), (2, .int f), (3, .int its)]) hx hb dX5_goal_20 hl (by decide) rfl (fun ls hl_56 => ?_)
      refine lv_iload_n hx hb dX5_goal_22 rfl (lv_at hl_56 4 rfl) ?_
      refine lv_istore (lv' := [(5, .int its), (4, .int 0), (0, .ref (ad (0, 0, 0))), (1, .int (nI cxj)), (2, .int f), (3, .int its)]) hx hb dX5_goal_23 hl_56 (by decide) rfl (fun ls hl_57 => ?_)
      refine lv_iconst (v := 0) hx hb dX5_goal_25 (by decide) ?_
      refine lv_istore (lv' := [(6, .int 0), (5, .int its), (4, .int 0), (0, .ref (ad (0, 0, 0))), (1, .int (nI cxj)), (2, .int f), (3, .int its)]) hx hb dX5_goal_26 hl_57 (by decide) rfl (fun ls hl_58 => ?_)
      refine lv_iload hx hb dX5_goal_28 (lv_at hl_58 0 rfl) ?_
      refine lv_bipush (v := 6) hx hb dX5_goal_30 (by decide) ?_
      refine lv_icmp_ge (tgt := 73) hx hb dX5_goal_32 (by decide) (fun c_59 => absurd c_59 (by decide)) (fun c_59 => ?_)
      refine lv_iload hx hb dX5_goal_35 (lv_at hl_58 2 rfl) ?_
      refine lv_if_eq (tgt := 73) hx hb dX5_goal_37 (by decide) (fun c_60 => ?_) (fun c_60 => absurd c_60 (by decide))
      refine lv_aload_n hx hb dX5_goal_73 rfl (lv_at hl_58 3 rfl) ?_
      refine lv_iload hx hb dX5_goal_74 (lv_at hl_58 2 rfl) ?_
      refine lv_if_ne (tgt := 83) hx hb dX5_goal_76 (by decide) (fun c_61 => absurd c_61 (by decide)) (fun c_61 => ?_)
      refine lv_iconst (v := 1) hx hb dX5_goal_79 (by decide) ?_
      refine lv_goto (tgt := 109) hx hb dX5_goal_80 (by decide) ?_
      refine zk_ci (zk_rV (As := [.int 1]) (rest := []) (n := 1) (k := (0, 0, 0)) C (cM_fails l D cA A g ad dy nc nt nl th mo I L 1) hH_8 hS_9 mL_o rfl rfl gX5_goal_X5_fails rfl rfl (by decide +kernel) ⟨Nat.le_of_ble_eq_true rfl, Nat.le_of_ble_eq_true rfl⟩ hl_58 rfl (Nat.le_of_ble_eq_true rfl) dX5_goal_109 ⟨Nat.le_of_ble_eq_true rfl, Nat.le_of_ble_eq_true rfl⟩) hS_9 (fun r_62 w_63 H locs hP hH_64 hS_65 => ?_)
      obtain ⟨rfl, rfl⟩ := hP
      refine lv_if_eq (tgt := 117) hx hb dX5_goal_112 (by decide) (fun c_66 => absurd c_66 (by decide)) (fun c_66 => ?_)
      refine lv_iconst (v := 0) hx hb dX5_goal_115 (by decide) ?_
      refine zr_iret C hr ?_ hH_64 hS_65 (Nat.le_of_ble_eq_true rfl) (Nat.le_of_ble_eq_true rfl) dX5_goal_116
      exact Or.inl ⟨fun z => by first | exact absurd z.1 (by assumption) | exact absurd z.2 (by assumption), rfl⟩
  · refine lv_if_eq (tgt := 19) hx hb dX5_goal_5 (by decide) (fun c_67 => ?_) (fun c_67 => absurd c_67 (by decide))
    refine lv_iconst (v := 0) hx hb dX5_goal_19 (by decide) ?_
    refine lv_istore (lv' := [(4, .int 0), (0, .ref (ad (0, 0, 0))), (1, .int cx), (2, .int f), (3, .int its)]) hx hb dX5_goal_20 hl (by decide) rfl (fun ls hl_68 => ?_)
    refine lv_iload_n hx hb dX5_goal_22 rfl (lv_at hl_68 4 rfl) ?_
    refine lv_istore (lv' := [(5, .int its), (4, .int 0), (0, .ref (ad (0, 0, 0))), (1, .int cx), (2, .int f), (3, .int its)]) hx hb dX5_goal_23 hl_68 (by decide) rfl (fun ls hl_69 => ?_)
    refine lv_iconst (v := 0) hx hb dX5_goal_25 (by decide) ?_
    refine lv_istore (lv' := [(6, .int 0), (5, .int its), (4, .int 0), (0, .ref (ad (0, 0, 0))), (1, .int cx), (2, .int f), (3, .int its)]) hx hb dX5_goal_26 hl_69 (by decide) rfl (fun ls hl_70 => ?_)
    refine lv_iload hx hb dX5_goal_28 (lv_at hl_70 0 rfl) ?_
    refine lv_bipush (v := 6) hx hb dX5_goal_30 (by decide) ?_
    refine lv_icmp_ge (tgt := 73) hx hb dX5_goal_32 (by decide) (fun c_71 => absurd c_71 (by decide)) (fun c_71 => ?_)
    refine lv_iload hx hb dX5_goal_35 (lv_at hl_70 2 rfl) ?_
    refine lv_if_eq (tgt := 73) hx hb dX5_goal_37 (by decide) (fun c_72 => ?_) (fun c_72 => absurd c_72 (by decide))
    refine lv_aload_n hx hb dX5_goal_73 rfl (lv_at hl_70 3 rfl) ?_
    refine lv_iload hx hb dX5_goal_74 (lv_at hl_70 2 rfl) ?_
    refine lv_if_ne (tgt := 83) hx hb dX5_goal_76 (by decide) (fun c_73 => absurd c_73 (by decide)) (fun c_73 => ?_)
    refine lv_iconst (v := 1) hx hb dX5_goal_79 (by decide) ?_
    refine lv_goto (tgt := 109) hx hb dX5_goal_80 (by decide) ?_
    refine zk_ci (zk_rV (As := [.int 1]) (rest := []) (n := 1) (k := (0, 0, 0)) C (cM_fails l D cA A g ad dy nc nt nl th mo I L 1) hH_3 hS_4 mL_o rfl rfl gX5_goal_X5_fails rfl rfl (by decide +kernel) ⟨Nat.le_of_ble_eq_true rfl, Nat.le_of_ble_eq_true rfl⟩ hl_70 rfl (Nat.le_of_ble_eq_true rfl) dX5_goal_109 ⟨Nat.le_of_ble_eq_true rfl, Nat.le_of_ble_eq_true rfl⟩) hS_4 (fun r_74 w_75 H locs hP hH_76 hS_77 => ?_)
    obtain ⟨rfl, rfl⟩ := hP
    refine lv_if_eq (tgt := 117) hx hb dX5_goal_112 (by decide) (fun c_78 => absurd c_78 (by decide)) (fun c_78 => ?_)
    refine lv_iconst (v := 0) hx hb dX5_goal_115 (by decide) ?_
    refine zr_iret C hr ?_ hH_76 hS_77 (Nat.le_of_ble_eq_true rfl) (Nat.le_of_ble_eq_true rfl) dX5_goal_116
    exact Or.inl ⟨fun z => by first | exact absurd z.1 (by assumption) | exact absurd z.2 (by assumption), rfl⟩
def rmM_moves : Room := { frames := 0, cells := 0, slots := 0, locals := 0 }
set_option maxHeartbeats 4000000 in
set_option maxRecDepth 100000 in
theorem cM_moves (l : Launch) (D : va_G) (cA : Nat → ClassId) (A : Nat → Prop) (g : Nat → Nat) (ad : zk_K → Nat) (dy nc nt nl : Nat) (th : Int32) (mo : Int64) (I : zIA) (L : zLA) (cc f : Nat) (many : Int64) (hc : cc < 12) (hf : f < 6) : zM l yX5_moves wsX5_moves rmM_moves D (zt cA) A g [.ref (ad (0, 0, 0)), .int (nI cc), .int (nI f), .long many] (mw cA ad dy nc nt nl th mo I L) (zQv (fun w' => mw cA ad dy nc nt nl th (moveM I L f many mo) I (moveL L cc f many) = w')) := by
  refine zM_of (cc := cX5_moves) (maxL := 7) (ret := none) (own := RX5) (by decide +kernel) rfl (Nat.le_of_ble_eq_true rfl) rfl ?_
  intro p e s m below meth c C hr hnm H locs ls hH hS hl
  obtain ⟨⟨hx, hb, hml, hown, hts⟩, hG, hlk⟩ := id C
  have hin : ∀ w ∈ wsX50, w ∈ wsX5_moves := by decide +kernel
  have hl : lv_has ls 7 [(0, .ref (ad (0, 0, 0))), (1, .int (nI cc)), (2, .int (nI f)), (3, .long many)] := hl
  refine lv_lload_n hx hb dX5_moves_0 rfl (lv_at hl 3 rfl) ?_
  refine lv_aload_n hx hb dX5_moves_1 rfl (lv_at hl 0 rfl) ?_
  refine zm_get C hin hH 3 (by decide) (by decide +kernel) rfl dX5_moves_2 ?_
  refine lv_iload_n hx hb dX5_moves_5 rfl (lv_at hl 2 rfl) ?_
  refine zm_lld C hH 3 rfl (j := f) rfl (show f < 6 by omega) dX5_moves_6 ?_
  refine zl_cmp_le (tgt := 76) hx hb dX5_moves_7 dX5_moves_8 (by decide) (fun c_1 => ?_) (fun c_1 => ?_)
  · refine lv_aload_n hx hb dX5_moves_76 rfl (lv_at hl 0 rfl) ?_
    refine zm_get C hin hH 3 (by decide) (by decide +kernel) rfl dX5_moves_77 ?_
    refine lv_iload_n hx hb dX5_moves_80 rfl (lv_at hl 2 rfl) ?_
    refine lv_dup2_11 hx hb dX5_moves_81 rfl rfl ?_
    refine zm_lld C hH 3 rfl (j := f) rfl (show f < 6 by omega) dX5_moves_82 ?_
    refine lv_lload_n hx hb dX5_moves_83 rfl (lv_at hl 3 rfl) ?_
    refine lv_lsub hx hb dX5_moves_84 ?_
    refine zm_lst C hH hS 3 rfl (j := f) rfl (show f < 6 by omega) dX5_moves_85 (fun H locs hH_2 hS_3 => ?_)
    refine lv_aload_n hx hb dX5_moves_86 rfl (lv_at hl 0 rfl) ?_
    refine zm_get C hin hH_2 8 (by decide) (by decide +kernel) rfl dX5_moves_87 ?_
    refine lv_bipush (v := 6) hx hb dX5_moves_90 (by decide) ?_
    refine lv_iload_n hx hb dX5_moves_92 rfl (lv_at hl 1 rfl) ?_
    refine lv_imul hx hb dX5_moves_93 ?_
    refine lv_iload_n hx hb dX5_moves_94 rfl (lv_at hl 2 rfl) ?_
    refine lv_iadd hx hb dX5_moves_95 ?_
    refine lv_dup2_11 hx hb dX5_moves_96 rfl rfl ?_
    refine zm_lld C hH_2 8 rfl (j := ((6 * cc) + f)) (zi_add (zi_mul rfl rfl) rfl) (show ((6 * cc) + f) < 72 by omega) dX5_moves_97 ?_
    refine lv_lload_n hx hb dX5_moves_98 rfl (lv_at hl 3 rfl) ?_
    refine lv_ladd hx hb dX5_moves_99 ?_
    refine zm_lst C hH_2 hS_3 8 rfl (j := ((6 * cc) + f)) (zi_add (zi_mul rfl rfl) rfl) (show ((6 * cc) + f) < 72 by omega) dX5_moves_100 (fun H locs hH_4 hS_5 => ?_)
    refine zr_vret C hr ?_ hH_4 hS_5 (Nat.le_of_ble_eq_true rfl) (Nat.le_of_ble_eq_true rfl) dX5_moves_101
    simp only [moveL, moveM, moveS, moreL, if_neg c_1, up2_s, up2_ne (show (3 : Nat) ≠ 2 by decide), up2_ne (show (8 : Nat) ≠ 3 by decide), up2_ne (show (8 : Nat) ≠ 2 by decide), up2_ne (show (1 : Nat) ≠ 17 by decide), up2_ne (show (1 : Nat) ≠ 16 by decide), up2_ne (show (1 : Nat) ≠ 12 by decide), up2_ne (show (1 : Nat) ≠ 11 by decide), up2_ne (show (3 : Nat) ≠ 6 by decide), up2_ne (show (3 : Nat) ≠ 13 by decide), up2_ne (show (3 : Nat) ≠ 14 by decide), up2_ne (show (3 : Nat) ≠ 15 by decide)]
  · refine lv_lload_n hx hb dX5_moves_11 rfl (lv_at hl 3 rfl) ?_
    refine lv_aload_n hx hb dX5_moves_12 rfl (lv_at hl 0 rfl) ?_
    refine zm_get C hin hH 3 (by decide) (by decide +kernel) rfl dX5_moves_13 ?_
    refine lv_iload_n hx hb dX5_moves_16 rfl (lv_at hl 2 rfl) ?_
    refine zm_lld C hH 3 rfl (j := f) rfl (show f < 6 by omega) dX5_moves_17 ?_
    refine lv_lsub hx hb dX5_moves_18 ?_
    refine lv_ldc2 (v := 1000) hx hb hown (hts (.constantLong RX5 103 1000) (by decide +kernel)) dX5_moves_19 ?_
    refine lv_ladd hx hb dX5_moves_22 ?_
    refine lv_lconst (v := 1) hx hb dX5_moves_23 (by decide) ?_
    refine lv_lsub hx hb dX5_moves_24 ?_
    refine lv_ldc2 (v := 1000) hx hb hown (hts (.constantLong RX5 103 1000) (by decide +kernel)) dX5_moves_25 ?_
    refine lv_ldiv hx hb dX5_moves_28 (by decide) ?_
    refine lv_lstore (lv' := [(5, .long ((((many - (L 3 f)) + 1000) - 1) / 1000)), (0, .ref (ad (0, 0, 0))), (1, .int (nI cc)), (2, .int (nI f)), (3, .long many)]) hx hb dX5_moves_29 hl (by decide) rfl (fun ls hl_6 => ?_)
    refine lv_aload_n hx hb dX5_moves_31 rfl (lv_at hl_6 1 rfl) ?_
    refine zm_get C hin hH 2 (by decide) (by decide +kernel) rfl dX5_moves_32 ?_
    refine lv_iload_n hx hb dX5_moves_35 rfl (lv_at hl_6 3 rfl) ?_
    refine lv_dup2_11 hx hb dX5_moves_36 rfl rfl ?_
    refine zm_lld C hH 2 rfl (j := f) rfl (show f < 6 by omega) dX5_moves_37 ?_
    refine lv_lload hx hb dX5_moves_38 (lv_at hl_6 0 rfl) ?_
    refine lv_ladd hx hb dX5_moves_40 ?_
    refine zm_lst C hH hS 2 rfl (j := f) rfl (show f < 6 by omega) dX5_moves_41 (fun H locs hH_7 hS_8 => ?_)
    refine lv_aload_n hx hb dX5_moves_42 rfl (lv_at hl_6 1 rfl) ?_
    refine zm_get C hin hH_7 3 (by decide) (by decide +kernel) rfl dX5_moves_43 ?_
    refine lv_iload_n hx hb dX5_moves_46 rfl (lv_at hl_6 3 rfl) ?_
    refine lv_dup2_11 hx hb dX5_moves_47 rfl rfl ?_
    refine zm_lld C hH_7 3 rfl (j := f) rfl (show f < 6 by omega) dX5_moves_48 ?_
    refine lv_lload hx hb dX5_moves_49 (lv_at hl_6 0 rfl) ?_
    refine lv_ldc2 (v := 1000) hx hb hown (hts (.constantLong RX5 103 1000) (by decide +kernel)) dX5_moves_51 ?_
    refine lv_lmul hx hb dX5_moves_54 ?_
    refine lv_ladd hx hb dX5_moves_55 ?_
    refine zm_lst C hH_7 hS_8 3 rfl (j := f) rfl (show f < 6 by omega) dX5_moves_56 (fun H locs hH_9 hS_10 => ?_)
    refine lv_aload_n hx hb dX5_moves_57 rfl (lv_at hl_6 1 rfl) ?_
    refine lv_dup hx hb dX5_moves_58 rfl ?_
    refine zm_get C hin hH_9 4 (by decide) (by decide +kernel) rfl dX5_moves_59 ?_
    refine lv_lload hx hb dX5_moves_62 (lv_at hl_6 0 rfl) ?_
    refine lv_aload_n hx hb dX5_moves_64 rfl (lv_at hl_6 1 rfl) ?_
    refine zm_get C hin hH_9 1 (by decide) (by decide +kernel) rfl dX5_moves_65 ?_
    refine lv_iload_n hx hb dX5_moves_68 rfl (lv_at hl_6 3 rfl) ?_
    refine zm_ild C hH_9 1 (by decide) rfl (j := f) rfl (show f < 6 by omega) dX5_moves_69 ?_
    refine lv_i2l (v := Int32.toInt64 (I 1 f)) hx hb dX5_moves_70 rfl ?_
    refine lv_lmul hx hb dX5_moves_71 ?_
    refine lv_lsub hx hb dX5_moves_72 ?_
    refine zm_put C hin hH_9 hS_10 4 (by decide) (by decide +kernel) rfl rfl rfl dX5_moves_73 dy nc nt nl th (mo - (((((many - (L 3 f)) + 1000) - 1) / 1000) * (Int32.toInt64 (I 1 f)))) rfl (fun H locs hH_11 hS_12 => ?_)
    refine lv_aload_n hx hb dX5_moves_76 rfl (lv_at hl_6 1 rfl) ?_
    refine zm_get C hin hH_11 3 (by decide) (by decide +kernel) rfl dX5_moves_77 ?_
    refine lv_iload_n hx hb dX5_moves_80 rfl (lv_at hl_6 3 rfl) ?_
    refine lv_dup2_11 hx hb dX5_moves_81 rfl rfl ?_
    refine zm_lld C hH_11 3 rfl (j := f) rfl (show f < 6 by omega) dX5_moves_82 ?_
    refine lv_lload_n hx hb dX5_moves_83 rfl (lv_at hl_6 4 rfl) ?_
    refine lv_lsub hx hb dX5_moves_84 ?_
    refine zm_lst C hH_11 hS_12 3 rfl (j := f) rfl (show f < 6 by omega) dX5_moves_85 (fun H locs hH_13 hS_14 => ?_)
    refine lv_aload_n hx hb dX5_moves_86 rfl (lv_at hl_6 1 rfl) ?_
    refine zm_get C hin hH_13 8 (by decide) (by decide +kernel) rfl dX5_moves_87 ?_
    refine lv_bipush (v := 6) hx hb dX5_moves_90 (by decide) ?_
    refine lv_iload_n hx hb dX5_moves_92 rfl (lv_at hl_6 2 rfl) ?_
    refine lv_imul hx hb dX5_moves_93 ?_
    refine lv_iload_n hx hb dX5_moves_94 rfl (lv_at hl_6 3 rfl) ?_
    refine lv_iadd hx hb dX5_moves_95 ?_
    refine lv_dup2_11 hx hb dX5_moves_96 rfl rfl ?_
    refine zm_lld C hH_13 8 rfl (j := ((6 * cc) + f)) (zi_add (zi_mul rfl rfl) rfl) (show ((6 * cc) + f) < 72 by omega) dX5_moves_97 ?_
    refine lv_lload_n hx hb dX5_moves_98 rfl (lv_at hl_6 4 rfl) ?_
    refine lv_ladd hx hb dX5_moves_99 ?_
    refine zm_lst C hH_13 hS_14 8 rfl (j := ((6 * cc) + f)) (zi_add (zi_mul rfl rfl) rfl) (show ((6 * cc) + f) < 72 by omega) dX5_moves_100 (fun H locs hH_15 hS_16 => ?_)
    refine zr_vret C hr ?_ hH_15 hS_16 (Nat.le_of_ble_eq_true rfl) (Nat.le_of_ble_eq_true rfl) dX5_moves_101
    simp only [moveL, moveM, moveS, moreL, if_pos c_1, up2_s, up2_ne (show (3 : Nat) ≠ 2 by decide), up2_ne (show (8 : Nat) ≠ 3 by decide), up2_ne (show (8 : Nat) ≠ 2 by decide), up2_ne (show (1 : Nat) ≠ 17 by decide), up2_ne (show (1 : Nat) ≠ 16 by decide), up2_ne (show (1 : Nat) ≠ 12 by decide), up2_ne (show (1 : Nat) ≠ 11 by decide), up2_ne (show (3 : Nat) ≠ 6 by decide), up2_ne (show (3 : Nat) ≠ 13 by decide), up2_ne (show (3 : Nat) ≠ 14 by decide), up2_ne (show (3 : Nat) ≠ 15 by decide)]
def rmM_pays : Room := { frames := 0, cells := 0, slots := 0, locals := 0 }
set_option maxHeartbeats 4000000 in
set_option maxRecDepth 100000 in
theorem cM_pays (l : Launch) (D : va_G) (cA : Nat → ClassId) (A : Nat → Prop) (g : Nat → Nat) (ad : zk_K → Nat) (dy nc nt nl : Nat) (th : Int32) (mo : Int64) (I : zIA) (L : zLA) (cc : Nat) (its : Int64) (hc : cc < 12) : zM l yX5_pays wsX5_pays rmM_pays D (zt cA) A g [.ref (ad (0, 0, 0)), .int (nI cc), .long its] (mw cA ad dy nc nt nl th mo I L) (zQv (fun w' => mw cA ad dy nc nt nl th (mo + its) I (payL L cc its) = w')) := by
  refine zM_of (cc := cX5_pays) (maxL := 4) (ret := none) (own := RX5) (by decide +kernel) rfl (Nat.le_of_ble_eq_true rfl) rfl ?_
  intro p e s m below meth c C hr hnm H locs ls hH hS hl
  obtain ⟨⟨hx, hb, hml, hown, hts⟩, hG, hlk⟩ := id C
  have hin : ∀ w ∈ wsX50, w ∈ wsX5_pays := by decide +kernel
  have hl : lv_has ls 4 [(0, .ref (ad (0, 0, 0))), (1, .int (nI cc)), (2, .long its)] := hl
  refine lv_aload_n hx hb dX5_pays_0 rfl (lv_at hl 0 rfl) ?_
  refine zm_get C hin hH 6 (by decide) (by decide +kernel) rfl dX5_pays_1 ?_
  refine lv_iload_n hx hb dX5_pays_4 rfl (lv_at hl 1 rfl) ?_
  refine lv_dup2_11 hx hb dX5_pays_5 rfl rfl ?_
  refine zm_lld C hH 6 rfl (j := cc) rfl (show cc < 12 by omega) dX5_pays_6 ?_
  refine lv_lload_n hx hb dX5_pays_7 rfl (lv_at hl 2 rfl) ?_
  refine lv_lsub hx hb dX5_pays_8 ?_
  refine zm_lst C hH hS 6 rfl (j := cc) rfl (show cc < 12 by omega) dX5_pays_9 (fun H locs hH_1 hS_2 => ?_)
  refine lv_aload_n hx hb dX5_pays_10 rfl (lv_at hl 0 rfl) ?_
  refine lv_dup hx hb dX5_pays_11 rfl ?_
  refine zm_get C hin hH_1 4 (by decide) (by decide +kernel) rfl dX5_pays_12 ?_
  refine lv_lload_n hx hb dX5_pays_15 rfl (lv_at hl 2 rfl) ?_
  refine lv_ladd hx hb dX5_pays_16 ?_
  refine zm_put C hin hH_1 hS_2 4 (by decide) (by decide +kernel) rfl rfl rfl dX5_pays_17 dy nc nt nl th (mo + its) rfl (fun H locs hH_3 hS_4 => ?_)
  refine zr_vret C hr ?_ hH_3 hS_4 (Nat.le_of_ble_eq_true rfl) (Nat.le_of_ble_eq_true rfl) dX5_pays_20
  rfl
def rmM_notes : Room := { frames := 1, cells := 0, slots := 0, locals := 26 }
set_option maxHeartbeats 4000000 in
set_option maxRecDepth 100000 in
theorem cM_notes (l : Launch) (D : va_G) (cA : Nat → ClassId) (A : Nat → Prop) (g : Nat → Nat) (ad : zk_K → Nat) (dy nc nt nl : Nat) (th : Int32) (mo : Int64) (I : zIA) (L : zLA) (cc f : Nat) (many its : Int64) (hc : cc < 12) (hf : f < 6) (hnt : nt < 120) : zM l yX5_notes wsX5_notes rmM_notes D (zt cA) A g [.ref (ad (0, 0, 0)), .int (nI cc), .int (nI f), .long many, .long its] (mw cA ad dy nc nt nl th mo I L) (zQi (fun r w' => nI nt = r ∧ mw cA ad dy nc (nt + 1) nl th (noteM I L f many its mo) (noteI I nt dy cc f) (noteL L nt cc f many its) = w')) := by
  refine zM_of (cc := cX5_notes) (maxL := 7) (ret := (some .int)) (own := RX5) (by decide +kernel) rfl (Nat.le_of_ble_eq_true rfl) rfl ?_
  intro p e s m below meth c C hr hnm H locs ls hH hS hl
  obtain ⟨⟨hx, hb, hml, hown, hts⟩, hG, hlk⟩ := id C
  have hin : ∀ w ∈ wsX50, w ∈ wsX5_notes := by decide +kernel
  have hl : lv_has ls 7 [(0, .ref (ad (0, 0, 0))), (1, .int (nI cc)), (2, .int (nI f)), (3, .long many), (5, .long its)] := hl
  refine lv_aload_n hx hb dX5_notes_0 rfl (lv_at hl 0 rfl) ?_
  refine zm_get C hin hH 11 (by decide) (by decide +kernel) rfl dX5_notes_1 ?_
  refine lv_aload_n hx hb dX5_notes_4 rfl (lv_at hl 0 rfl) ?_
  refine zm_get C hin hH 10 (by decide) (by decide +kernel) rfl dX5_notes_5 ?_
  refine lv_iload_n hx hb dX5_notes_8 rfl (lv_at hl 1 rfl) ?_
  refine zm_ist C hH hS 11 (by decide) rfl (j := nt) rfl (show nt < 120 by omega) dX5_notes_9 (fun H locs hH_1 hS_2 => ?_)
  refine lv_aload_n hx hb dX5_notes_10 rfl (lv_at hl 0 rfl) ?_
  refine zm_get C hin hH_1 12 (by decide) (by decide +kernel) rfl dX5_notes_11 ?_
  refine lv_aload_n hx hb dX5_notes_14 rfl (lv_at hl 0 rfl) ?_
  refine zm_get C hin hH_1 10 (by decide) (by decide +kernel) rfl dX5_notes_15 ?_
  refine lv_iload_n hx hb dX5_notes_18 rfl (lv_at hl 2 rfl) ?_
  refine zm_ist C hH_1 hS_2 12 (by decide) rfl (j := nt) rfl (show nt < 120 by omega) dX5_notes_19 (fun H locs hH_3 hS_4 => ?_)
  refine lv_aload_n hx hb dX5_notes_20 rfl (lv_at hl 0 rfl) ?_
  refine zm_get C hin hH_3 13 (by decide) (by decide +kernel) rfl dX5_notes_21 ?_
  refine lv_aload_n hx hb dX5_notes_24 rfl (lv_at hl 0 rfl) ?_
  refine zm_get C hin hH_3 10 (by decide) (by decide +kernel) rfl dX5_notes_25 ?_
  refine lv_lload_n hx hb dX5_notes_28 rfl (lv_at hl 3 rfl) ?_
  refine zm_lst C hH_3 hS_4 13 rfl (j := nt) rfl (show nt < 120 by omega) dX5_notes_29 (fun H locs hH_5 hS_6 => ?_)
  refine lv_aload_n hx hb dX5_notes_30 rfl (lv_at hl 0 rfl) ?_
  refine zm_get C hin hH_5 14 (by decide) (by decide +kernel) rfl dX5_notes_31 ?_
  refine lv_aload_n hx hb dX5_notes_34 rfl (lv_at hl 0 rfl) ?_
  refine zm_get C hin hH_5 10 (by decide) (by decide +kernel) rfl dX5_notes_35 ?_
  refine lv_lload hx hb dX5_notes_38 (lv_at hl 4 rfl) ?_
  refine zm_lst C hH_5 hS_6 14 rfl (j := nt) rfl (show nt < 120 by omega) dX5_notes_40 (fun H locs hH_7 hS_8 => ?_)
  refine lv_aload_n hx hb dX5_notes_41 rfl (lv_at hl 0 rfl) ?_
  refine zm_get C hin hH_7 15 (by decide) (by decide +kernel) rfl dX5_notes_42 ?_
  refine lv_aload_n hx hb dX5_notes_45 rfl (lv_at hl 0 rfl) ?_
  refine zm_get C hin hH_7 10 (by decide) (by decide +kernel) rfl dX5_notes_46 ?_
  refine lv_lload hx hb dX5_notes_49 (lv_at hl 4 rfl) ?_
  refine zk_cl (zk_rS (As := [.long its]) (rest := [.int (nI nt), .ref (ad (15, 0, 0))]) (n := 1) C (cM_costOf l D cA A g _ its) hH_7 hS_8 gX5_notes_X5_costOf rfl rfl (by decide +kernel) ⟨Nat.le_of_ble_eq_true rfl, Nat.le_of_ble_eq_true rfl⟩ hl rfl (Nat.le_of_ble_eq_true rfl) dX5_notes_51 ⟨Nat.le_of_ble_eq_true rfl, Nat.le_of_ble_eq_true rfl⟩) hS_8 (fun r_9 w_10 H locs hP hH_11 hS_12 => ?_)
  obtain ⟨rfl, rfl⟩ := hP
  refine zm_lst C hH_11 hS_12 15 rfl (j := nt) rfl (show nt < 120 by omega) dX5_notes_54 (fun H locs hH_13 hS_14 => ?_)
  refine lv_aload_n hx hb dX5_notes_55 rfl (lv_at hl 0 rfl) ?_
  refine zm_get C hin hH_13 16 (by decide) (by decide +kernel) rfl dX5_notes_56 ?_
  refine lv_aload_n hx hb dX5_notes_59 rfl (lv_at hl 0 rfl) ?_
  refine zm_get C hin hH_13 10 (by decide) (by decide +kernel) rfl dX5_notes_60 ?_
  refine lv_aload_n hx hb dX5_notes_63 rfl (lv_at hl 0 rfl) ?_
  refine zm_get C hin hH_13 0 (by decide) (by decide +kernel) rfl dX5_notes_64 ?_
  refine zm_ist C hH_13 hS_14 16 (by decide) rfl (j := nt) rfl (show nt < 120 by omega) dX5_notes_67 (fun H locs hH_15 hS_16 => ?_)
  refine lv_aload_n hx hb dX5_notes_68 rfl (lv_at hl 0 rfl) ?_
  refine zm_get C hin hH_15 17 (by decide) (by decide +kernel) rfl dX5_notes_69 ?_
  refine lv_aload_n hx hb dX5_notes_72 rfl (lv_at hl 0 rfl) ?_
  refine zm_get C hin hH_15 10 (by decide) (by decide +kernel) rfl dX5_notes_73 ?_
  refine lv_iconst (v := 1) hx hb dX5_notes_76 (by decide) ?_
  refine zm_zst C hH_15 hS_16 17 (by decide) rfl (Or.inr rfl) (j := nt) rfl (show nt < 120 by omega) dX5_notes_77 (fun H locs hH_17 hS_18 => ?_)
  refine lv_aload_n hx hb dX5_notes_78 rfl (lv_at hl 0 rfl) ?_
  refine lv_iload_n hx hb dX5_notes_79 rfl (lv_at hl 1 rfl) ?_
  refine lv_lload_n hx hb dX5_notes_80 rfl (lv_at hl 3 rfl) ?_
  refine lv_lconst (v := 0) hx hb dX5_notes_81 (by decide) ?_
  refine zl_cmp_le (tgt := 101) hx hb dX5_notes_82 dX5_notes_83 (by decide) (fun c_19 => ?_) (fun c_19 => ?_)
  · refine lv_aload_n hx hb dX5_notes_101 rfl (lv_at hl 0 rfl) ?_
    refine zm_get C hin hH_17 15 (by decide) (by decide +kernel) rfl dX5_notes_102 ?_
    refine lv_aload_n hx hb dX5_notes_105 rfl (lv_at hl 0 rfl) ?_
    refine zm_get C hin hH_17 10 (by decide) (by decide +kernel) rfl dX5_notes_106 ?_
    refine zm_lld C hH_17 15 rfl (j := nt) rfl (show nt < 120 by omega) dX5_notes_109 ?_
    refine lv_lload hx hb dX5_notes_110 (lv_at hl 4 rfl) ?_
    refine lv_lsub hx hb dX5_notes_112 ?_
    refine zk_cv (zk_rV (As := [.int (nI cc), .long (((up2 (up2 (up2 L 13 nt many) 14 nt its) 15 nt (costL its)) 15 nt) - its)]) (rest := []) (n := 2) (k := (0, 0, 0)) C (cM_pays l D cA A g ad dy nc nt nl th mo (up2 (up2 (up2 (up2 I 11 nt (nI cc)) 12 nt (nI f)) 16 nt (nI dy)) 17 nt 1) (up2 (up2 (up2 L 13 nt many) 14 nt its) 15 nt (costL its)) cc (((up2 (up2 (up2 L 13 nt many) 14 nt its) 15 nt (costL its)) 15 nt) - its) (by omega)) hH_17 hS_18 mL_o rfl rfl gX5_notes_X5_pays rfl rfl (by decide +kernel) ⟨Nat.le_of_ble_eq_true rfl, Nat.le_of_ble_eq_true rfl⟩ hl rfl (Nat.le_of_ble_eq_true rfl) dX5_notes_113 ⟨Nat.le_of_ble_eq_true rfl, Nat.le_of_ble_eq_true rfl⟩) hS_18 (fun w_21 H locs hP hH_22 hS_23 => ?_)
    subst hP
    refine lv_aload_n hx hb dX5_notes_116 rfl (lv_at hl 0 rfl) ?_
    refine lv_iload_n hx hb dX5_notes_117 rfl (lv_at hl 1 rfl) ?_
    refine lv_iload_n hx hb dX5_notes_118 rfl (lv_at hl 2 rfl) ?_
    refine lv_lload_n hx hb dX5_notes_119 rfl (lv_at hl 3 rfl) ?_
    refine zk_cv (zk_rV (As := [.int (nI cc), .int (nI f), .long many]) (rest := []) (n := 3) (k := (0, 0, 0)) C (cM_moves l D cA A g ad dy nc nt nl th (mo + (((up2 (up2 (up2 L 13 nt many) 14 nt its) 15 nt (costL its)) 15 nt) - its)) (up2 (up2 (up2 (up2 I 11 nt (nI cc)) 12 nt (nI f)) 16 nt (nI dy)) 17 nt 1) (payL (up2 (up2 (up2 L 13 nt many) 14 nt its) 15 nt (costL its)) cc (((up2 (up2 (up2 L 13 nt many) 14 nt its) 15 nt (costL its)) 15 nt) - its)) cc f many (by omega) (by omega)) hH_22 hS_23 mL_o rfl rfl gX5_notes_X5_moves rfl rfl (by decide +kernel) ⟨Nat.le_of_ble_eq_true rfl, Nat.le_of_ble_eq_true rfl⟩ hl rfl (Nat.le_of_ble_eq_true rfl) dX5_notes_120 ⟨Nat.le_of_ble_eq_true rfl, Nat.le_of_ble_eq_true rfl⟩) hS_23 (fun w_25 H locs hP hH_26 hS_27 => ?_)
    subst hP
    refine lv_aload_n hx hb dX5_notes_123 rfl (lv_at hl 0 rfl) ?_
    refine lv_dup hx hb dX5_notes_124 rfl ?_
    refine zm_get C hin hH_26 10 (by decide) (by decide +kernel) rfl dX5_notes_125 ?_
    refine lv_iconst (v := 1) hx hb dX5_notes_128 (by decide) ?_
    refine lv_iadd hx hb dX5_notes_129 ?_
    refine zm_put C hin hH_26 hS_27 10 (by decide) (by decide +kernel) rfl rfl rfl dX5_notes_130 dy nc (nt + 1) nl th (moveM (up2 (up2 (up2 (up2 I 11 nt (nI cc)) 12 nt (nI f)) 16 nt (nI dy)) 17 nt 1) (payL (up2 (up2 (up2 L 13 nt many) 14 nt its) 15 nt (costL its)) cc (((up2 (up2 (up2 L 13 nt many) 14 nt its) 15 nt (costL its)) 15 nt) - its)) f many (mo + (((up2 (up2 (up2 L 13 nt many) 14 nt its) 15 nt (costL its)) 15 nt) - its))) (by rw [show ((nI nt) + 1 : Int32) = nI (nt + 1) from (zi_add rfl rfl)]; rfl) (fun H locs hH_28 hS_29 => ?_)
    refine lv_aload_n hx hb dX5_notes_133 rfl (lv_at hl 0 rfl) ?_
    refine zm_get C hin hH_28 10 (by decide) (by decide +kernel) rfl dX5_notes_134 ?_
    refine lv_iconst (v := 1) hx hb dX5_notes_137 (by decide) ?_
    refine lv_isub hx hb dX5_notes_138 ?_
    refine zr_iret C hr ?_ hH_28 hS_29 (Nat.le_of_ble_eq_true rfl) (Nat.le_of_ble_eq_true rfl) dX5_notes_139
    refine ⟨by rw [show (1 : Int32) = nI 1 from rfl, pk_sub (Nat.le_add_left 1 nt), Nat.add_sub_cancel], ?_⟩
    simp only [noteI, noteL, noteM, noteR, paidL, payL, moveM, moreL, if_neg c_19, up2_s, up2_ne (show (3 : Nat) ≠ 2 by decide), up2_ne (show (8 : Nat) ≠ 3 by decide), up2_ne (show (8 : Nat) ≠ 2 by decide), up2_ne (show (1 : Nat) ≠ 17 by decide), up2_ne (show (1 : Nat) ≠ 16 by decide), up2_ne (show (1 : Nat) ≠ 12 by decide), up2_ne (show (1 : Nat) ≠ 11 by decide), up2_ne (show (3 : Nat) ≠ 6 by decide), up2_ne (show (3 : Nat) ≠ 13 by decide), up2_ne (show (3 : Nat) ≠ 14 by decide), up2_ne (show (3 : Nat) ≠ 15 by decide)]
  · refine lv_lload hx hb dX5_notes_86 (lv_at hl 4 rfl) ?_
    refine lv_aload_n hx hb dX5_notes_88 rfl (lv_at hl 0 rfl) ?_
    refine zm_get C hin hH_17 15 (by decide) (by decide +kernel) rfl dX5_notes_89 ?_
    refine lv_aload_n hx hb dX5_notes_92 rfl (lv_at hl 0 rfl) ?_
    refine zm_get C hin hH_17 10 (by decide) (by decide +kernel) rfl dX5_notes_93 ?_
    refine zm_lld C hH_17 15 rfl (j := nt) rfl (show nt < 120 by omega) dX5_notes_96 ?_
    refine lv_ladd hx hb dX5_notes_97 ?_
    refine lv_goto (tgt := 113) hx hb dX5_notes_98 (by decide) ?_
    refine zk_cv (zk_rV (As := [.int (nI cc), .long (its + ((up2 (up2 (up2 L 13 nt many) 14 nt its) 15 nt (costL its)) 15 nt))]) (rest := []) (n := 2) (k := (0, 0, 0)) C (cM_pays l D cA A g ad dy nc nt nl th mo (up2 (up2 (up2 (up2 I 11 nt (nI cc)) 12 nt (nI f)) 16 nt (nI dy)) 17 nt 1) (up2 (up2 (up2 L 13 nt many) 14 nt its) 15 nt (costL its)) cc (its + ((up2 (up2 (up2 L 13 nt many) 14 nt its) 15 nt (costL its)) 15 nt)) (by omega)) hH_17 hS_18 mL_o rfl rfl gX5_notes_X5_pays rfl rfl (by decide +kernel) ⟨Nat.le_of_ble_eq_true rfl, Nat.le_of_ble_eq_true rfl⟩ hl rfl (Nat.le_of_ble_eq_true rfl) dX5_notes_113 ⟨Nat.le_of_ble_eq_true rfl, Nat.le_of_ble_eq_true rfl⟩) hS_18 (fun w_31 H locs hP hH_32 hS_33 => ?_)
    subst hP
    refine lv_aload_n hx hb dX5_notes_116 rfl (lv_at hl 0 rfl) ?_
    refine lv_iload_n hx hb dX5_notes_117 rfl (lv_at hl 1 rfl) ?_
    refine lv_iload_n hx hb dX5_notes_118 rfl (lv_at hl 2 rfl) ?_
    refine lv_lload_n hx hb dX5_notes_119 rfl (lv_at hl 3 rfl) ?_
    refine zk_cv (zk_rV (As := [.int (nI cc), .int (nI f), .long many]) (rest := []) (n := 3) (k := (0, 0, 0)) C (cM_moves l D cA A g ad dy nc nt nl th (mo + (its + ((up2 (up2 (up2 L 13 nt many) 14 nt its) 15 nt (costL its)) 15 nt))) (up2 (up2 (up2 (up2 I 11 nt (nI cc)) 12 nt (nI f)) 16 nt (nI dy)) 17 nt 1) (payL (up2 (up2 (up2 L 13 nt many) 14 nt its) 15 nt (costL its)) cc (its + ((up2 (up2 (up2 L 13 nt many) 14 nt its) 15 nt (costL its)) 15 nt))) cc f many (by omega) (by omega)) hH_32 hS_33 mL_o rfl rfl gX5_notes_X5_moves rfl rfl (by decide +kernel) ⟨Nat.le_of_ble_eq_true rfl, Nat.le_of_ble_eq_true rfl⟩ hl rfl (Nat.le_of_ble_eq_true rfl) dX5_notes_120 ⟨Nat.le_of_ble_eq_true rfl, Nat.le_of_ble_eq_true rfl⟩) hS_33 (fun w_35 H locs hP hH_36 hS_37 => ?_)
    subst hP
    refine lv_aload_n hx hb dX5_notes_123 rfl (lv_at hl 0 rfl) ?_
    refine lv_dup hx hb dX5_notes_124 rfl ?_
    refine zm_get C hin hH_36 10 (by decide) (by decide +kernel) rfl dX5_notes_125 ?_
    refine lv_iconst (v := 1) hx hb dX5_notes_128 (by decide) ?_
    refine lv_iadd hx hb dX5_notes_129 ?_
    refine zm_put C hin hH_36 hS_37 10 (by decide) (by decide +kernel) rfl rfl rfl dX5_notes_130 dy nc (nt + 1) nl th (moveM (up2 (up2 (up2 (up2 I 11 nt (nI cc)) 12 nt (nI f)) 16 nt (nI dy)) 17 nt 1) (payL (up2 (up2 (up2 L 13 nt many) 14 nt its) 15 nt (costL its)) cc (its + ((up2 (up2 (up2 L 13 nt many) 14 nt its) 15 nt (costL its)) 15 nt))) f many (mo + (its + ((up2 (up2 (up2 L 13 nt many) 14 nt its) 15 nt (costL its)) 15 nt)))) (by rw [show ((nI nt) + 1 : Int32) = nI (nt + 1) from (zi_add rfl rfl)]; rfl) (fun H locs hH_38 hS_39 => ?_)
    refine lv_aload_n hx hb dX5_notes_133 rfl (lv_at hl 0 rfl) ?_
    refine zm_get C hin hH_38 10 (by decide) (by decide +kernel) rfl dX5_notes_134 ?_
    refine lv_iconst (v := 1) hx hb dX5_notes_137 (by decide) ?_
    refine lv_isub hx hb dX5_notes_138 ?_
    refine zr_iret C hr ?_ hH_38 hS_39 (Nat.le_of_ble_eq_true rfl) (Nat.le_of_ble_eq_true rfl) dX5_notes_139
    refine ⟨by rw [show (1 : Int32) = nI 1 from rfl, pk_sub (Nat.le_add_left 1 nt), Nat.add_sub_cancel], ?_⟩
    simp only [noteI, noteL, noteM, noteR, paidL, payL, moveM, moreL, if_pos c_19, up2_s, up2_ne (show (3 : Nat) ≠ 2 by decide), up2_ne (show (8 : Nat) ≠ 3 by decide), up2_ne (show (8 : Nat) ≠ 2 by decide), up2_ne (show (1 : Nat) ≠ 17 by decide), up2_ne (show (1 : Nat) ≠ 16 by decide), up2_ne (show (1 : Nat) ≠ 12 by decide), up2_ne (show (1 : Nat) ≠ 11 by decide), up2_ne (show (3 : Nat) ≠ 6 by decide), up2_ne (show (3 : Nat) ≠ 13 by decide), up2_ne (show (3 : Nat) ≠ 14 by decide), up2_ne (show (3 : Nat) ≠ 15 by decide)]
