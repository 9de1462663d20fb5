def rmM_buy : Room := { frames := 2, cells := 0, slots := 0, locals := 52 }
set_option maxHeartbeats 4000000 in
set_option maxRecDepth 100000 in
theorem cM_buy (l : Launch) (D : va_G) (cA : Nat → ClassId) (A : Nat → Prop) (g : Nat → Nat) (ad : zk_K → Nat) (dy nc nt nl : Nat) (th : Int32) (mo : Int64) (I : zIA) (L : zLA) (cx f its : Int32) (hnc : nc ≤ 12) (hnt : nt ≤ 120) (hpr : ∀ f, f < 6 → ¬ Int32.toInt64 (I 1 f) = 0) : zM l yX5_buy wsX5_buy rmM_buy D (zt cA) A g [.ref (ad (0, 0, 0)), .int cx, .int f, .int its] (mw cA ad dy nc nt nl th mo I L) (zQi (fun r w' => (¬ (zIn cx nc ∧ zIn f 6) ∧ mw cA ad dy nc nt nl 1 mo I L = w') ∨ (∃ c k, c < nc ∧ cx = nI c ∧ k < 6 ∧ f = nI k ∧ ((¬ zR its 1 10000000 ∧ mw cA ad dy nc nt nl 2 mo I L = w') ∨ (zR its 1 10000000 ∧ ¬ (nt < 120 ∧ 0 < partsL I k (Int32.toInt64 its) ∧ ¬ L 6 c < Int32.toInt64 its + costL (Int32.toInt64 its)) ∧ mw cA ad dy nc nt nl 3 mo I L = w') ∨ (zR its 1 10000000 ∧ (nt < 120 ∧ 0 < partsL I k (Int32.toInt64 its) ∧ ¬ L 6 c < Int32.toInt64 its + costL (Int32.toInt64 its)) ∧ nI nt = r ∧ mw cA ad dy nc (nt + 1) nl 0 (noteM I L k (partsL I k (Int32.toInt64 its)) (Int32.toInt64 its) mo) (noteI I nt dy c k) (noteL L nt c k (partsL I k (Int32.toInt64 its)) (Int32.toInt64 its)) = w'))))) := by
  refine zM_of (cc := cX5_buy) (maxL := 7) (ret := (some .int)) (own := RX5) (by decide +kernel) rfl (Nat.le_of_ble_eq_true rfl) rfl ?_
  intro p e s m below meth c C hr hnm H locs ls hH hS hl
  obtain ⟨⟨hx, hb, hml, hown, hts⟩, hG, hlk⟩ := id C
  have hin : ∀ w ∈ wsX50, w ∈ wsX5_buy := by decide +kernel
  have hl : lv_has ls 7 [(0, .ref (ad (0, 0, 0))), (1, .int cx), (2, .int f), (3, .int its)] := hl
  refine lv_aload_n hx hb dX5_buy_0 rfl (lv_at hl 0 rfl) ?_
  refine lv_iload_n hx hb dX5_buy_1 rfl (lv_at hl 1 rfl) ?_
  refine zk_ci (zk_rV (As := [.int cx]) (rest := []) (n := 1) (k := (0, 0, 0)) C (cM_isClient l D cA A g ad dy nc nt nl th mo I L cx hnc) hH hS mL_o rfl rfl gX5_buy_X5_isClient rfl rfl (by decide +kernel) ⟨Nat.le_of_ble_eq_true rfl, Nat.le_of_ble_eq_true rfl⟩ hl rfl (Nat.le_of_ble_eq_true rfl) dX5_buy_2 ⟨Nat.le_of_ble_eq_true rfl, Nat.le_of_ble_eq_true rfl⟩) hS (fun r_1 w_2 H locs hP hH_3 hS_4 => ?_)
  obtain ⟨rfl, (⟨rfl, h_r_1⟩ | ⟨rfl, h_r_1⟩)⟩ := hP
  · obtain ⟨cxj, hcxj, rfl⟩ := h_r_1
    refine lv_if_eq (tgt := 19) hx hb dX5_buy_5 (by decide) (fun c_5 => absurd c_5 (by decide)) (fun c_5 => ?_)
    refine lv_iload_n hx hb dX5_buy_8 rfl (lv_at hl 2 rfl) ?_
    refine zk_ci (zk_rS (As := [.int f]) (rest := []) (n := 1) C (cM_isFund l D cA A g _ f) hH_3 hS_4 gX5_buy_X5_isFund rfl rfl (by decide +kernel) ⟨Nat.le_of_ble_eq_true rfl, Nat.le_of_ble_eq_true rfl⟩ hl rfl (Nat.le_of_ble_eq_true rfl) dX5_buy_9 ⟨Nat.le_of_ble_eq_true rfl, Nat.le_of_ble_eq_true rfl⟩) hS_4 (fun r_6 w_7 H locs hP hH_8 hS_9 => ?_)
    obtain ⟨rfl, (⟨rfl, h_r_6⟩ | ⟨rfl, h_r_6⟩)⟩ := hP
    · obtain ⟨fj, hfj, rfl⟩ := h_r_6
      refine lv_if_eq (tgt := 19) hx hb dX5_buy_12 (by decide) (fun c_10 => absurd c_10 (by decide)) (fun c_10 => ?_)
      refine lv_iconst (v := 1) hx hb dX5_buy_15 (by decide) ?_
      refine lv_goto (tgt := 20) hx hb dX5_buy_16 (by decide) ?_
      refine lv_istore (lv' := [(4, .int 1), (0, .ref (ad (0, 0, 0))), (1, .int (nI cxj)), (2, .int (nI fj)), (3, .int its)]) hx hb dX5_buy_20 hl (by decide) rfl (fun ls hl_11 => ?_)
      refine lv_iload_n hx hb dX5_buy_22 rfl (lv_at hl_11 4 rfl) ?_
      refine lv_iconst (v := 1) hx hb dX5_buy_23 (by decide) ?_
      refine lv_ldc (v := 10000000) hx hb hown (hts (.constant RX5 89 10000000) (by decide +kernel)) dX5_buy_24 ?_
      refine zk_ci (zk_rS (As := [.int its, .int 1, .int 10000000]) (rest := []) (n := 3) C (cM_isIn l D cA A g _ its 1 10000000) hH_8 hS_9 gX5_buy_X5_isIn rfl rfl (by decide +kernel) ⟨Nat.le_of_ble_eq_true rfl, Nat.le_of_ble_eq_true rfl⟩ hl_11 rfl (Nat.le_of_ble_eq_true rfl) dX5_buy_26 ⟨Nat.le_of_ble_eq_true rfl, Nat.le_of_ble_eq_true rfl⟩) hS_9 (fun r_12 w_13 H locs hP hH_14 hS_15 => ?_)
      obtain ⟨rfl, (⟨rfl, h_r_12⟩ | ⟨rfl, h_r_12⟩)⟩ := hP
      · refine lv_istore (lv' := [(5, .int 1), (4, .int 1), (0, .ref (ad (0, 0, 0))), (1, .int (nI cxj)), (2, .int (nI fj)), (3, .int its)]) hx hb dX5_buy_29 hl_11 (by decide) rfl (fun ls hl_16 => ?_)
        refine lv_iload hx hb dX5_buy_31 (lv_at hl_16 1 rfl) ?_
        refine lv_if_eq (tgt := 84) hx hb dX5_buy_33 (by decide) (fun c_17 => absurd c_17 (by decide)) (fun c_17 => ?_)
        refine lv_iload hx hb dX5_buy_36 (lv_at hl_16 0 rfl) ?_
        refine lv_if_eq (tgt := 84) hx hb dX5_buy_38 (by decide) (fun c_18 => absurd c_18 (by decide)) (fun c_18 => ?_)
        refine lv_aload_n hx hb dX5_buy_41 rfl (lv_at hl_16 2 rfl) ?_
        refine zm_get C hin hH_14 10 (by decide) (by decide +kernel) rfl dX5_buy_42 ?_
        refine lv_bipush (v := 120) hx hb dX5_buy_45 (by decide) ?_
        refine lv_icmp_ge (tgt := 84) hx hb dX5_buy_47 (by decide) (fun c_19 => ?_) (fun c_19 => ?_)
        · refine lv_iconst (v := 0) hx hb dX5_buy_84 (by decide) ?_
          refine lv_istore (lv' := [(6, .int 0), (5, .int 1), (4, .int 1), (0, .ref (ad (0, 0, 0))), (1, .int (nI cxj)), (2, .int (nI fj)), (3, .int its)]) hx hb dX5_buy_85 hl_16 (by decide) rfl (fun ls hl_20 => ?_)
          refine lv_aload_n hx hb dX5_buy_87 rfl (lv_at hl_20 3 rfl) ?_
          refine lv_iload hx hb dX5_buy_88 (lv_at hl_20 2 rfl) ?_
          refine lv_if_ne (tgt := 97) hx hb dX5_buy_90 (by decide) (fun c_21 => ?_) (fun c_21 => absurd c_21 (by decide))
          refine lv_iload hx hb dX5_buy_97 (lv_at hl_20 1 rfl) ?_
          refine lv_if_ne (tgt := 106) hx hb dX5_buy_99 (by decide) (fun c_22 => ?_) (fun c_22 => absurd c_22 (by decide))
          refine lv_iload hx hb dX5_buy_106 (lv_at hl_20 0 rfl) ?_
          refine lv_if_eq (tgt := 115) hx hb dX5_buy_108 (by decide) (fun c_23 => ?_) (fun c_23 => absurd c_23 (by decide))
          refine lv_iconst (v := 3) hx hb dX5_buy_115 (by decide) ?_
          refine zk_ci (zk_rV (As := [.int 3]) (rest := []) (n := 1) (k := (0, 0, 0)) C (cM_fails l D cA A g ad dy nc nt nl th mo I L 3) hH_14 hS_15 mL_o rfl rfl gX5_buy_X5_fails rfl rfl (by decide +kernel) ⟨Nat.le_of_ble_eq_true rfl, Nat.le_of_ble_eq_true rfl⟩ hl_20 rfl (Nat.le_of_ble_eq_true rfl) dX5_buy_116 ⟨Nat.le_of_ble_eq_true rfl, Nat.le_of_ble_eq_true rfl⟩) hS_15 (fun r_24 w_25 H locs hP hH_26 hS_27 => ?_)
          obtain ⟨rfl, rfl⟩ := hP
          refine lv_if_eq (tgt := 124) hx hb dX5_buy_119 (by decide) (fun c_28 => absurd c_28 (by decide)) (fun c_28 => ?_)
          refine lv_iconst (v := 0) hx hb dX5_buy_122 (by decide) ?_
          refine zr_iret C hr ?_ hH_26 hS_27 (Nat.le_of_ble_eq_true rfl) (Nat.le_of_ble_eq_true rfl) dX5_buy_123
          exact Or.inr ⟨cxj, fj, hcxj, rfl, hfj, rfl, Or.inr (Or.inl ⟨by assumption, fun z => by first | exact absurd (by assumption) (nI_ge z.1 (by decide)) | exact absurd z.2.1 (by assumption) | exact absurd (by assumption) z.2.2 | exact absurd (by assumption) z.2.1 | exact absurd z.2.2.1 (by assumption) | exact absurd (by assumption) z.2.2.2, rfl⟩)⟩
        · have hnt2 : nt < 120 := Nat.lt_of_not_le (fun z => c_19 (nI_le z (by omega)))
          refine lv_aload_n hx hb dX5_buy_50 rfl (lv_at hl_16 2 rfl) ?_
          refine lv_iload_n hx hb dX5_buy_51 rfl (lv_at hl_16 4 rfl) ?_
          refine lv_iload_n hx hb dX5_buy_52 rfl (lv_at hl_16 5 rfl) ?_
          refine lv_i2l (v := Int32.toInt64 its) hx hb dX5_buy_53 rfl ?_
          refine zk_cl (zk_rV (As := [.int (nI fj), .long (Int32.toInt64 its)]) (rest := []) (n := 2) (k := (0, 0, 0)) C (cM_partsFor l D cA A g ad dy nc nt nl th mo I L fj (Int32.toInt64 its) (by omega) hpr) hH_14 hS_15 mL_o rfl rfl gX5_buy_X5_partsFor rfl rfl (by decide +kernel) ⟨Nat.le_of_ble_eq_true rfl, Nat.le_of_ble_eq_true rfl⟩ hl_16 rfl (Nat.le_of_ble_eq_true rfl) dX5_buy_54 ⟨Nat.le_of_ble_eq_true rfl, Nat.le_of_ble_eq_true rfl⟩) hS_15 (fun r_29 w_30 H locs hP hH_31 hS_32 => ?_)
          obtain ⟨rfl, rfl⟩ := hP
          refine lv_lconst (v := 0) hx hb dX5_buy_57 (by decide) ?_
          refine zl_cmp_le (tgt := 84) hx hb dX5_buy_58 dX5_buy_59 (by decide) (fun c_33 => ?_) (fun c_33 => ?_)
          · refine lv_iconst (v := 0) hx hb dX5_buy_84 (by decide) ?_
            refine lv_istore (lv' := [(6, .int 0), (5, .int 1), (4, .int 1), (0, .ref (ad (0, 0, 0))), (1, .int (nI cxj)), (2, .int (nI fj)), (3, .int its)]) hx hb dX5_buy_85 hl_16 (by decide) rfl (fun ls hl_34 => ?_)
            refine lv_aload_n hx hb dX5_buy_87 rfl (lv_at hl_34 3 rfl) ?_
            refine lv_iload hx hb dX5_buy_88 (lv_at hl_34 2 rfl) ?_
            refine lv_if_ne (tgt := 97) hx hb dX5_buy_90 (by decide) (fun c_35 => ?_) (fun c_35 => absurd c_35 (by decide))
            refine lv_iload hx hb dX5_buy_97 (lv_at hl_34 1 rfl) ?_
            refine lv_if_ne (tgt := 106) hx hb dX5_buy_99 (by decide) (fun c_36 => ?_) (fun c_36 => absurd c_36 (by decide))
            refine lv_iload hx hb dX5_buy_106 (lv_at hl_34 0 rfl) ?_
            refine lv_if_eq (tgt := 115) hx hb dX5_buy_108 (by decide) (fun c_37 => ?_) (fun c_37 => absurd c_37 (by decide))
            refine lv_iconst (v := 3) hx hb dX5_buy_115 (by decide) ?_
            refine zk_ci (zk_rV (As := [.int 3]) (rest := []) (n := 1) (k := (0, 0, 0)) C (cM_fails l D cA A g ad dy nc nt nl th mo I L 3) hH_31 hS_32 mL_o rfl rfl gX5_buy_X5_fails rfl rfl (by decide +kernel) ⟨Nat.le_of_ble_eq_true rfl, Nat.le_of_ble_eq_true rfl⟩ hl_34 rfl (Nat.le_of_ble_eq_true rfl) dX5_buy_116 ⟨Nat.le_of_ble_eq_true rfl, Nat.le_of_ble_eq_true rfl⟩) hS_32 (fun r_38 w_39 H locs hP hH_40 hS_41 => ?_)
            obtain ⟨rfl, rfl⟩ := hP
            refine lv_if_eq (tgt := 124) hx hb dX5_buy_119 (by decide) (fun c_42 => absurd c_42 (by decide)) (fun c_42 => ?_)
            refine lv_iconst (v := 0) hx hb dX5_buy_122 (by decide) ?_
            refine zr_iret C hr ?_ hH_40 hS_41 (Nat.le_of_ble_eq_true rfl) (Nat.le_of_ble_eq_true rfl) dX5_buy_123
            exact Or.inr ⟨cxj, fj, hcxj, rfl, hfj, rfl, Or.inr (Or.inl ⟨by assumption, fun z => by first | exact absurd (by assumption) (nI_ge z.1 (by decide)) | exact absurd z.2.1 (by assumption) | exact absurd (by assumption) z.2.2 | exact absurd (by assumption) z.2.1 | exact absurd z.2.2.1 (by assumption) | exact absurd (by assumption) z.2.2.2, rfl⟩)⟩
          · refine lv_iload_n hx hb dX5_buy_62 rfl (lv_at hl_16 5 rfl) ?_
            refine lv_i2l (v := Int32.toInt64 its) hx hb dX5_buy_63 rfl ?_
            refine lv_iload_n hx hb dX5_buy_64 rfl (lv_at hl_16 5 rfl) ?_
            refine lv_i2l (v := Int32.toInt64 its) hx hb dX5_buy_65 rfl ?_
            refine zk_cl (zk_rS (As := [.long (Int32.toInt64 its)]) (rest := [.long (Int32.toInt64 its)]) (n := 1) C (cM_costOf l D cA A g _ (Int32.toInt64 its)) hH_31 hS_32 gX5_buy_X5_costOf rfl rfl (by decide +kernel) ⟨Nat.le_of_ble_eq_true rfl, Nat.le_of_ble_eq_true rfl⟩ hl_16 rfl (Nat.le_of_ble_eq_true rfl) dX5_buy_66 ⟨Nat.le_of_ble_eq_true rfl, Nat.le_of_ble_eq_true rfl⟩) hS_32 (fun r_43 w_44 H locs hP hH_45 hS_46 => ?_)
            obtain ⟨rfl, rfl⟩ := hP
            refine lv_ladd hx hb dX5_buy_69 ?_
            refine lv_aload_n hx hb dX5_buy_70 rfl (lv_at hl_16 2 rfl) ?_
            refine zm_get C hin hH_45 6 (by decide) (by decide +kernel) rfl dX5_buy_71 ?_
            refine lv_iload_n hx hb dX5_buy_74 rfl (lv_at hl_16 3 rfl) ?_
            refine zm_lld C hH_45 6 rfl (j := cxj) rfl (show cxj < 12 by omega) dX5_buy_75 ?_
            refine zl_cmp_gt (tgt := 84) hx hb dX5_buy_76 dX5_buy_77 (by decide) (fun c_47 => ?_) (fun c_47 => ?_)
            · refine lv_iconst (v := 0) hx hb dX5_buy_84 (by decide) ?_
              refine lv_istore (lv' := [(6, .int 0), (5, .int 1), (4, .int 1), (0, .ref (ad (0, 0, 0))), (1, .int (nI cxj)), (2, .int (nI fj)), (3, .int its)]) hx hb dX5_buy_85 hl_16 (by decide) rfl (fun ls hl_48 => ?_)
              refine lv_aload_n hx hb dX5_buy_87 rfl (lv_at hl_48 3 rfl) ?_
              refine lv_iload hx hb dX5_buy_88 (lv_at hl_48 2 rfl) ?_
              refine lv_if_ne (tgt := 97) hx hb dX5_buy_90 (by decide) (fun c_49 => ?_) (fun c_49 => absurd c_49 (by decide))
              refine lv_iload hx hb dX5_buy_97 (lv_at hl_48 1 rfl) ?_
              refine lv_if_ne (tgt := 106) hx hb dX5_buy_99 (by decide) (fun c_50 => ?_) (fun c_50 => absurd c_50 (by decide))
              refine lv_iload hx hb dX5_buy_106 (lv_at hl_48 0 rfl) ?_
              refine lv_if_eq (tgt := 115) hx hb dX5_buy_108 (by decide) (fun c_51 => ?_) (fun c_51 => absurd c_51 (by decide))
              refine lv_iconst (v := 3) hx hb dX5_buy_115 (by decide) ?_
              refine zk_ci (zk_rV (As := [.int 3]) (rest := []) (n := 1) (k := (0, 0, 0)) C (cM_fails l D cA A g ad dy nc nt nl th mo I L 3) hH_45 hS_46 mL_o rfl rfl gX5_buy_X5_fails rfl rfl (by decide +kernel) ⟨Nat.le_of_ble_eq_true rfl, Nat.le_of_ble_eq_true rfl⟩ hl_48 rfl (Nat.le_of_ble_eq_true rfl) dX5_buy_116 ⟨Nat.le_of_ble_eq_true rfl, Nat.le_of_ble_eq_true rfl⟩) hS_46 (fun r_52 w_53 H locs hP hH_54 hS_55 => ?_)
              obtain ⟨rfl, rfl⟩ := hP
              refine lv_if_eq (tgt := 124) hx hb dX5_buy_119 (by decide) (fun c_56 => absurd c_56 (by decide)) (fun c_56 => ?_)
              refine lv_iconst (v := 0) hx hb dX5_buy_122 (by decide) ?_
              refine zr_iret C hr ?_ hH_54 hS_55 (Nat.le_of_ble_eq_true rfl) (Nat.le_of_ble_eq_true rfl) dX5_buy_123
              exact Or.inr ⟨cxj, fj, hcxj, rfl, hfj, rfl, Or.inr (Or.inl ⟨by assumption, fun z => by first | exact absurd (by assumption) (nI_ge z.1 (by decide)) | exact absurd z.2.1 (by assumption) | exact absurd (by assumption) z.2.2 | exact absurd (by assumption) z.2.1 | exact absurd z.2.2.1 (by assumption) | exact absurd (by assumption) z.2.2.2, rfl⟩)⟩
            · refine lv_iconst (v := 1) hx hb dX5_buy_80 (by decide) ?_
              refine lv_goto (tgt := 85) hx hb dX5_buy_81 (by decide) ?_
              refine lv_istore (lv' := [(6, .int 1), (5, .int 1), (4, .int 1), (0, .ref (ad (0, 0, 0))), (1, .int (nI cxj)), (2, .int (nI fj)), (3, .int its)]) hx hb dX5_buy_85 hl_16 (by decide) rfl (fun ls hl_57 => ?_)
              refine lv_aload_n hx hb dX5_buy_87 rfl (lv_at hl_57 3 rfl) ?_
              refine lv_iload hx hb dX5_buy_88 (lv_at hl_57 2 rfl) ?_
              refine lv_if_ne (tgt := 97) hx hb dX5_buy_90 (by decide) (fun c_58 => ?_) (fun c_58 => absurd c_58 (by decide))
              refine lv_iload hx hb dX5_buy_97 (lv_at hl_57 1 rfl) ?_
              refine lv_if_ne (tgt := 106) hx hb dX5_buy_99 (by decide) (fun c_59 => ?_) (fun c_59 => absurd c_59 (by decide))
              refine lv_iload hx hb dX5_buy_106 (lv_at hl_57 0 rfl) ?_
              refine lv_if_eq (tgt := 115) hx hb dX5_buy_108 (by decide) (fun c_60 => absurd c_60 (by decide)) (fun c_60 => ?_)
              refine lv_iconst (v := 0) hx hb dX5_buy_111 (by decide) ?_
              refine lv_goto (tgt := 116) hx hb dX5_buy_112 (by decide) ?_
              refine zk_ci (zk_rV (As := [.int 0]) (rest := []) (n := 1) (k := (0, 0, 0)) C (cM_fails l D cA A g ad dy nc nt nl th mo I L 0) hH_45 hS_46 mL_o rfl rfl gX5_buy_X5_fails rfl rfl (by decide +kernel) ⟨Nat.le_of_ble_eq_true rfl, Nat.le_of_ble_eq_true rfl⟩ hl_57 rfl (Nat.le_of_ble_eq_true rfl) dX5_buy_116 ⟨Nat.le_of_ble_eq_true rfl, Nat.le_of_ble_eq_true rfl⟩) hS_46 (fun r_61 w_62 H locs hP hH_63 hS_64 => ?_)
              obtain ⟨rfl, rfl⟩ := hP
              refine lv_if_eq (tgt := 124) hx hb dX5_buy_119 (by decide) (fun c_65 => ?_) (fun c_65 => absurd c_65 (by decide))
              refine lv_aload_n hx hb dX5_buy_124 rfl (lv_at hl_57 3 rfl) ?_
              refine lv_iload_n hx hb dX5_buy_125 rfl (lv_at hl_57 4 rfl) ?_
              refine lv_iload_n hx hb dX5_buy_126 rfl (lv_at hl_57 5 rfl) ?_
              refine lv_aload_n hx hb dX5_buy_127 rfl (lv_at hl_57 3 rfl) ?_
              refine lv_iload_n hx hb dX5_buy_128 rfl (lv_at hl_57 5 rfl) ?_
              refine lv_iload_n hx hb dX5_buy_129 rfl (lv_at hl_57 6 rfl) ?_
              refine lv_i2l (v := Int32.toInt64 its) hx hb dX5_buy_130 rfl ?_
              refine zk_cl (zk_rV (As := [.int (nI fj), .long (Int32.toInt64 its)]) (rest := [.int (nI fj), .int (nI cxj), .ref (ad (0, 0, 0))]) (n := 2) (k := (0, 0, 0)) C (cM_partsFor l D cA A g ad dy nc nt nl 0 mo I L fj (Int32.toInt64 its) (by omega) hpr) hH_63 hS_64 mL_o rfl rfl gX5_buy_X5_partsFor rfl rfl (by decide +kernel) ⟨Nat.le_of_ble_eq_true rfl, Nat.le_of_ble_eq_true rfl⟩ hl_57 rfl (Nat.le_of_ble_eq_true rfl) dX5_buy_131 ⟨Nat.le_of_ble_eq_true rfl, Nat.le_of_ble_eq_true rfl⟩) hS_64 (fun r_66 w_67 H locs hP hH_68 hS_69 => ?_)
              obtain ⟨rfl, rfl⟩ := hP
              refine lv_iload_n hx hb dX5_buy_134 rfl (lv_at hl_57 6 rfl) ?_
              refine lv_i2l (v := Int32.toInt64 its) hx hb dX5_buy_135 rfl ?_
              refine zk_ci (zk_rV (As := [.int (nI cxj), .int (nI fj), .long (partsL I fj (Int32.toInt64 its)), .long (Int32.toInt64 its)]) (rest := []) (n := 4) (k := (0, 0, 0)) C (cM_notes l D cA A g ad dy nc nt nl 0 mo I L cxj fj (partsL I fj (Int32.toInt64 its)) (Int32.toInt64 its) (by omega) (by omega) (by omega)) hH_68 hS_69 mL_o rfl rfl gX5_buy_X5_notes rfl rfl (by decide +kernel) ⟨Nat.le_of_ble_eq_true rfl, Nat.le_of_ble_eq_true rfl⟩ hl_57 rfl (Nat.le_of_ble_eq_true rfl) dX5_buy_136 ⟨Nat.le_of_ble_eq_true rfl, Nat.le_of_ble_eq_true rfl⟩) hS_69 (fun r_70 w_71 H locs hP hH_72 hS_73 => ?_)
              obtain ⟨rfl, rfl⟩ := hP
              refine zr_iret C hr ?_ hH_72 hS_73 (Nat.le_of_ble_eq_true rfl) (Nat.le_of_ble_eq_true rfl) dX5_buy_139
              exact Or.inr ⟨cxj, fj, hcxj, rfl, hfj, rfl, Or.inr (Or.inr ⟨by assumption, ⟨hnt2, by assumption, by assumption⟩, rfl, rfl⟩)⟩
      · refine lv_istore (lv' := [(5, .int 0), (4, .int 1), (0, .ref (ad (0, 0, 0))), (1, .int (nI cxj)), (2, .int (nI fj)), (3, .int its)]) hx hb dX5_buy_29 hl_11 (by decide) rfl (fun ls hl_74 => ?_)
        refine lv_iload hx hb dX5_buy_31 (lv_at hl_74 1 rfl) ?_
        refine lv_if_eq (tgt := 84) hx hb dX5_buy_33 (by decide) (fun c_75 => absurd c_75 (by decide)) (fun c_75 => ?_)
        refine lv_iload hx hb dX5_buy_36 (lv_at hl_74 0 rfl) ?_
        refine lv_if_eq (tgt := 84) hx hb dX5_buy_38 (by decide) (fun c_76 => ?_) (fun c_76 => absurd c_76 (by decide))
        refine lv_iconst (v := 0) hx hb dX5_buy_84 (by decide) ?_
        refine lv_istore (lv' := [(6, .int 0), (5, .int 0), (4, .int 1), (0, .ref (ad (0, 0, 0))), (1, .int (nI cxj)), (2, .int (nI fj)), (3, .int its)]) hx hb dX5_buy_85 hl_74 (by decide) rfl (fun ls hl_77 => ?_)
        refine lv_aload_n hx hb dX5_buy_87 rfl (lv_at hl_77 3 rfl) ?_
        refine lv_iload hx hb dX5_buy_88 (lv_at hl_77 2 rfl) ?_
        refine lv_if_ne (tgt := 97) hx hb dX5_buy_90 (by decide) (fun c_78 => ?_) (fun c_78 => absurd c_78 (by decide))
        refine lv_iload hx hb dX5_buy_97 (lv_at hl_77 1 rfl) ?_
        refine lv_if_ne (tgt := 106) hx hb dX5_buy_99 (by decide) (fun c_79 => absurd c_79 (by decide)) (fun c_79 => ?_)
        refine lv_iconst (v := 2) hx hb dX5_buy_102 (by decide) ?_
        refine lv_goto (tgt := 116) hx hb dX5_buy_103 (by decide) ?_
        refine zk_ci (zk_rV (As := [.int 2]) (rest := []) (n := 1) (k := (0, 0, 0)) C (cM_fails l D cA A g ad dy nc nt nl th mo I L 2) hH_14 hS_15 mL_o rfl rfl gX5_buy_X5_fails rfl rfl (by decide +kernel) ⟨Nat.le_of_ble_eq_true rfl, Nat.le_of_ble_eq_true rfl⟩ hl_77 rfl (Nat.le_of_ble_eq_true rfl) dX5_buy_116 ⟨Nat.le_of_ble_eq_true rfl, Nat.le_of_ble_eq_true rfl⟩) hS_15 (fun r_80 w_81 H locs hP hH_82 hS_83 => ?_)
        obtain ⟨rfl, rfl⟩ := hP
        refine lv_if_eq (tgt := 124) hx hb dX5_buy_119 (by decide) (fun c_84 => absurd c_84 (by decide)) (fun c_84 => ?_)
        refine lv_iconst (v := 0) hx hb dX5_buy_122 (by decide) ?_
        refine zr_iret C hr ?_ hH_82 hS_83 (Nat.le_of_ble_eq_true rfl) (Nat.le_of_ble_eq_true rfl) dX5_buy_123
        exact Or.inr ⟨cxj, fj, hcxj, rfl, hfj, rfl, Or.inl ⟨by assumption, rfl⟩⟩
    · refine lv_if_eq (tgt := 19) hx hb dX5_buy_12 (by decide) (fun c_85 => ?_) (fun c_85 => absurd c_85 (by decide))
      refine lv_iconst (v := 0) hx hb dX5_buy_19 (by decide) ?_
      refine lv_istore (lv' := [(4, .int 0), (0, .ref (ad (0, 0, 0))), (1, .int (nI cxj)), (2, .int f), (3, .int its)]) hx hb dX5_buy_20 hl (by decide) rfl (fun ls hl_86 => ?_)
      refine lv_iload_n hx hb dX5_buy_22 rfl (lv_at hl_86 4 rfl) ?_
      refine lv_iconst (v := 1) hx hb dX5_buy_23 (by decide) ?_
      refine lv_ldc (v := 10000000) hx hb hown (hts (.constant RX5 89 10000000) (by decide +kernel)) dX5_buy_24 ?_
      refine zk_ci (zk_rS (As := [.int its, .int 1, .int 10000000]) (rest := []) (n := 3) C (cM_isIn l D cA A g _ its 1 10000000) hH_8 hS_9 gX5_buy_X5_isIn rfl rfl (by decide +kernel) ⟨Nat.le_of_ble_eq_true rfl, Nat.le_of_ble_eq_true rfl⟩ hl_86 rfl (Nat.le_of_ble_eq_true rfl) dX5_buy_26 ⟨Nat.le_of_ble_eq_true rfl, Nat.le_of_ble_eq_true rfl⟩) hS_9 (fun r_87 w_88 H locs hP hH_89 hS_90 => ?_)
      obtain ⟨rfl, (⟨rfl, h_r_87⟩ | ⟨rfl, h_r_87⟩)⟩ := hP
      · refine lv_istore (lv' := [(5, .int 1), (4, .int 0), (0, .ref (ad (0, 0, 0))), (1, .int (nI cxj)), (2, .int f), (3, .int its)]) hx hb dX5_buy_29 hl_86 (by decide) rfl (fun ls hl_91 => ?_)
        refine lv_iload hx hb dX5_buy_31 (lv_at hl_91 1 rfl) ?_
        refine lv_if_eq (tgt := 84) hx hb dX5_buy_33 (by decide) (fun c_92 => ?_) (fun c_92 => absurd c_92 (by decide))
        refine lv_iconst (v := 0) hx hb dX5_buy_84 (by decide) ?_
        refine lv_istore (lv' := [(6, .int 0), (5, .int 1), (4, .int 0), (0, .ref (ad (0, 0, 0))), (1, .int (nI cxj)), (2, .int f), (3, .int its)]) hx hb dX5_buy_85 hl_91 (by decide) rfl (fun ls hl_93 => ?_)
        refine lv_aload_n hx hb dX5_buy_87 rfl (lv_at hl_93 3 rfl) ?_
        refine lv_iload hx hb dX5_buy_88 (lv_at hl_93 2 rfl) ?_
        refine lv_if_ne (tgt := 97) hx hb dX5_buy_90 (by decide) (fun c_94 => absurd c_94 (by decide)) (fun c_94 => ?_)
        refine lv_iconst (v := 1) hx hb dX5_buy_93 (by decide) ?_
        refine lv_goto (tgt := 116) hx hb dX5_buy_94 (by decide) ?_
        refine zk_ci (zk_rV (As := [.int 1]) (rest := []) (n := 1) (k := (0, 0, 0)) C (cM_fails l D cA A g ad dy nc nt nl th mo I L 1) hH_89 hS_90 mL_o rfl rfl gX5_buy_X5_fails rfl rfl (by decide +kernel) ⟨Nat.le_of_ble_eq_true rfl, Nat.le_of_ble_eq_true rfl⟩ hl_93 rfl (Nat.le_of_ble_eq_true rfl) dX5_buy_116 ⟨Nat.le_of_ble_eq_true rfl, Nat.le_of_ble_eq_true rfl⟩) hS_90 (fun r_95 w_96 H locs hP hH_97 hS_98 => ?_)
        obtain ⟨rfl, rfl⟩ := hP
        refine lv_if_eq (tgt := 124) hx hb dX5_buy_119 (by decide) (fun c_99 => absurd c_99 (by decide)) (fun c_99 => ?_)
        refine lv_iconst (v := 0) hx hb dX5_buy_122 (by decide) ?_
        refine zr_iret C hr ?_ hH_97 hS_98 (Nat.le_of_ble_eq_true rfl) (Nat.le_of_ble_eq_true rfl) dX5_buy_123
        exact Or.inl ⟨fun z => by first | exact absurd z.1 (by assumption) | exact absurd z.2 (by assumption), rfl⟩
      · refine lv_istore (lv' := [(5, .int 0), (4, .int 0), (0, .ref (ad (0, 0, 0))), (1, .int (nI cxj)), (2, .int f), (3, .int its)]) hx hb dX5_buy_29 hl_86 (by decide) rfl (fun ls hl_100 => ?_)
        refine lv_iload hx hb dX5_buy_31 (lv_at hl_100 1 rfl) ?_
        refine lv_if_eq (tgt := 84) hx hb dX5_buy_33 (by decide) (fun c_101 => ?_) (fun c_101 => absurd c_101 (by decide))
        refine lv_iconst (v := 0) hx hb dX5_buy_84 (by decide) ?_
        refine lv_istore (lv' := [(6, .int 0), (5, .int 0), (4, .int 0), (0, .ref (ad (0, 0, 0))), (1, .int (nI cxj)), (2, .int f), (3, .int its)]) hx hb dX5_buy_85 hl_100 (by decide) rfl (fun ls hl_102 => ?_)
        refine lv_aload_n hx hb dX5_buy_87 rfl (lv_at hl_102 3 rfl) ?_
        refine lv_iload hx hb dX5_buy_88 (lv_at hl_102 2 rfl) ?_
        refine lv_if_ne (tgt := 97) hx hb dX5_buy_90 (by decide) (fun c_103 => absurd c_103 (by decide)) (fun c_103 => ?_)
        refine lv_iconst (v := 1) hx hb dX5_buy_93 (by decide) ?_
        refine lv_goto (tgt := 116) hx hb dX5_buy_94 (by decide) ?_
        refine zk_ci (zk_rV (As := [.int 1]) (rest := []) (n := 1) (k := (0, 0, 0)) C (cM_fails l D cA A g ad dy nc nt nl th mo I L 1) hH_89 hS_90 mL_o rfl rfl gX5_buy_X5_fails rfl rfl (by decide +kernel) ⟨Nat.le_of_ble_eq_true rfl, Nat.le_of_ble_eq_true rfl⟩ hl_102 rfl (Nat.le_of_ble_eq_true rfl) dX5_buy_116 ⟨Nat.le_of_ble_eq_true rfl, Nat.le_of_ble_eq_true rfl⟩) hS_90 (fun r_104 w_105 H locs hP hH_106 hS_107 => ?_)
        obtain ⟨rfl, rfl⟩ := hP
        refine lv_if_eq (tgt := 124) hx hb dX5_buy_119 (by decide) (fun c_108 => absurd c_108 (by decide)) (fun c_108 => ?_)
        refine lv_iconst (v := 0) hx hb dX5_buy_122 (by decide) ?_
        refine zr_iret C hr ?_ hH_106 hS_107 (Nat.le_of_ble_eq_true rfl) (Nat.le_of_ble_eq_true rfl) dX5_buy_123
        exact Or.inl ⟨fun z => by first | exact absurd z.1 (by assumption) | exact absurd z.2 (by assumption), rfl⟩
  · refine lv_if_eq (tgt := 19) hx hb dX5_buy_5 (by decide) (fun c_109 => ?_) (fun c_109 => absurd c_109 (by decide))
    refine lv_iconst (v := 0) hx hb dX5_buy_19 (by decide) ?_
    refine lv_istore (lv' := [(4, .int 0), (0, .ref (ad (0, 0, 0))), (1, .int cx), (2, .int f), (3, .int its)]) hx hb dX5_buy_20 hl (by decide) rfl (fun ls hl_110 => ?_)
    refine lv_iload_n hx hb dX5_buy_22 rfl (lv_at hl_110 4 rfl) ?_
    refine lv_iconst (v := 1) hx hb dX5_buy_23 (by decide) ?_
    refine lv_ldc (v := 10000000) hx hb hown (hts (.constant RX5 89 10000000) (by decide +kernel)) dX5_buy_24 ?_
    refine zk_ci (zk_rS (As := [.int its, .int 1, .int 10000000]) (rest := []) (n := 3) C (cM_isIn l D cA A g _ its 1 10000000) hH_3 hS_4 gX5_buy_X5_isIn rfl rfl (by decide +kernel) ⟨Nat.le_of_ble_eq_true rfl, Nat.le_of_ble_eq_true rfl⟩ hl_110 rfl (Nat.le_of_ble_eq_true rfl) dX5_buy_26 ⟨Nat.le_of_ble_eq_true rfl, Nat.le_of_ble_eq_true rfl⟩) hS_4 (fun r_111 w_112 H locs hP hH_113 hS_114 => ?_)
    obtain ⟨rfl, (⟨rfl, h_r_111⟩ | ⟨rfl, h_r_111⟩)⟩ := hP
    · refine lv_istore (lv' := [(5, .int 1), (4, .int 0), (0, .ref (ad (0, 0, 0))), (1, .int cx), (2, .int f), (3, .int its)]) hx hb dX5_buy_29 hl_110 (by decide) rfl (fun ls hl_115 => ?_)
      refine lv_iload hx hb dX5_buy_31 (lv_at hl_115 1 rfl) ?_
      refine lv_if_eq (tgt := 84) hx hb dX5_buy_33 (by decide) (fun c_116 => ?_) (fun c_116 => absurd c_116 (by decide))
      refine lv_iconst (v := 0) hx hb dX5_buy_84 (by decide) ?_
      refine lv_istore (lv' := [(6, .int 0), (5, .int 1), (4, .int 0), (0, .ref (ad (0, 0, 0))), (1, .int cx), (2, .int f), (3, .int its)]) hx hb dX5_buy_85 hl_115 (by decide) rfl (fun ls hl_117 => ?_)
      refine lv_aload_n hx hb dX5_buy_87 rfl (lv_at hl_117 3 rfl) ?_
      refine lv_iload hx hb dX5_buy_88 (lv_at hl_117 2 rfl) ?_
      refine lv_if_ne (tgt := 97) hx hb dX5_buy_90 (by decide) (fun c_118 => absurd c_118 (by decide)) (fun c_118 => ?_)
      refine lv_iconst (v := 1) hx hb dX5_buy_93 (by decide) ?_
      refine lv_goto (tgt := 116) hx hb dX5_buy_94 (by decide) ?_
      refine zk_ci (zk_rV (As := [.int 1]) (rest := []) (n := 1) (k := (0, 0, 0)) C (cM_fails l D cA A g ad dy nc nt nl th mo I L 1) hH_113 hS_114 mL_o rfl rfl gX5_buy_X5_fails rfl rfl (by decide +kernel) ⟨Nat.le_of_ble_eq_true rfl, Nat.le_of_ble_eq_true rfl⟩ hl_117 rfl (Nat.le_of_ble_eq_true rfl) dX5_buy_116 ⟨Nat.le_of_ble_eq_true rfl, Nat.le_of_ble_eq_true rfl⟩) hS_114 (fun r_119 w_120 H locs hP hH_121 hS_122 => ?_)
      obtain ⟨rfl, rfl⟩ := hP
      refine lv_if_eq (tgt := 124) hx hb dX5_buy_119 (by decide) (fun c_123 => absurd c_123 (by decide)) (fun c_123 => ?_)
      refine lv_iconst (v := 0) hx hb dX5_buy_122 (by decide) ?_
      refine zr_iret C hr ?_ hH_121 hS_122 (Nat.le_of_ble_eq_true rfl) (Nat.le_of_ble_eq_true rfl) dX5_buy_123
      exact Or.inl ⟨fun z => by first | exact absurd z.1 (by assumption) | exact absurd z.2 (by assumption), rfl⟩
    · refine lv_istore (lv' := [(5, .int 0), (4, .int 0), (0, .ref (ad (0, 0, 0))), (1, .int cx), (2, .int f), (3, .int its)]) hx hb dX5_buy_29 hl_110 (by decide) rfl (fun ls hl_124 => ?_)
      refine lv_iload hx hb dX5_buy_31 (lv_at hl_124 1 rfl) ?_
      refine lv_if_eq (tgt := 84) hx hb dX5_buy_33 (by decide) (fun c_125 => ?_) (fun c_125 => absurd c_125 (by decide))
      refine lv_iconst (v := 0) hx hb dX5_buy_84 (by decide) ?_
      refine lv_istore (lv' := [(6, .int 0), (5, .int 0), (4, .int 0), (0, .ref (ad (0, 0, 0))), (1, .int cx), (2, .int f), (3, .int its)]) hx hb dX5_buy_85 hl_124 (by decide) rfl (fun ls hl_126 => ?_)
      refine lv_aload_n hx hb dX5_buy_87 rfl (lv_at hl_126 3 rfl) ?_
      refine lv_iload hx hb dX5_buy_88 (lv_at hl_126 2 rfl) ?_
      refine lv_if_ne (tgt := 97) hx hb dX5_buy_90 (by decide) (fun c_127 => absurd c_127 (by decide)) (fun c_127 => ?_)
      refine lv_iconst (v := 1) hx hb dX5_buy_93 (by decide) ?_
      refine lv_goto (tgt := 116) hx hb dX5_buy_94 (by decide) ?_
      refine zk_ci (zk_rV (As := [.int 1]) (rest := []) (n := 1) (k := (0, 0, 0)) C (cM_fails l D cA A g ad dy nc nt nl th mo I L 1) hH_113 hS_114 mL_o rfl rfl gX5_buy_X5_fails rfl rfl (by decide +kernel) ⟨Nat.le_of_ble_eq_true rfl, Nat.le_of_ble_eq_true rfl⟩ hl_126 rfl (Nat.le_of_ble_eq_true rfl) dX5_buy_116 ⟨Nat.le_of_ble_eq_true rfl, Nat.le_of_ble_eq_true rfl⟩) hS_114 (fun r_128 w_129 H locs hP hH_130 hS_131 => ?_)
      obtain ⟨rfl, rfl⟩ := hP
      refine lv_if_eq (tgt := 124) hx hb dX5_buy_119 (by decide) (fun c_132 => absurd c_132 (by decide)) (fun c_132 => ?_)
      refine lv_iconst (v := 0) hx hb dX5_buy_122 (by decide) ?_
      refine zr_iret C hr ?_ hH_130 hS_131 (Nat.le_of_ble_eq_true rfl) (Nat.le_of_ble_eq_true rfl) dX5_buy_123
      exact Or.inl ⟨fun z => by first | exact absurd z.1 (by assumption) | exact absurd z.2 (by assumption), rfl⟩
def rmM_sell : Room := { frames := 2, cells := 0, slots := 0, locals := 52 }
set_option maxHeartbeats 4000000 in
set_option maxRecDepth 100000 in
theorem cM_sell (l : Launch) (D : va_G) (cA : Nat → ClassId) (A : Nat → Prop) (g : Nat → Nat) (ad : zk_K → Nat) (dy nc nt nl : Nat) (th : Int32) (mo : Int64) (I : zIA) (L : zLA) (cx f its : Int32) (hnc : nc ≤ 12) (hnt : nt ≤ 120) : zM l yX5_sell wsX5_sell rmM_sell D (zt cA) A g [.ref (ad (0, 0, 0)), .int cx, .int f, .int its] (mw cA ad dy nc nt nl th mo I L) (zQi (fun r w' => (¬ (zIn cx nc ∧ zIn f 6) ∧ mw cA ad dy nc nt nl 1 mo I L = w') ∨ (∃ c k, c < nc ∧ cx = nI c ∧ k < 6 ∧ f = nI k ∧ ((¬ zR its 1 1000000000 ∧ mw cA ad dy nc nt nl 2 mo I L = w') ∨ (zR its 1 1000000000 ∧ ¬ (nt < 120 ∧ ¬ L 8 (6 * c + k) < Int32.toInt64 its ∧ 0 < amountL I k (Int32.toInt64 its) ∧ ¬ 1000000000 < amountL I k (Int32.toInt64 its)) ∧ mw cA ad dy nc nt nl 3 mo I L = w') ∨ (zR its 1 1000000000 ∧ (nt < 120 ∧ ¬ L 8 (6 * c + k) < Int32.toInt64 its ∧ 0 < amountL I k (Int32.toInt64 its) ∧ ¬ 1000000000 < amountL I k (Int32.toInt64 its)) ∧ nI nt = r ∧ mw cA ad dy nc (nt + 1) nl 0 (noteM I L k (Int32.toInt64 (-its)) (amountL I k (Int32.toInt64 its)) mo) (noteI I nt dy c k) (noteL L nt c k (Int32.toInt64 (-its)) (amountL I k (Int32.toInt64 its))) = w'))))) := by
  refine zM_of (cc := cX5_sell) (maxL := 9) (ret := (some .int)) (own := RX5) (by decide +kernel) rfl (Nat.le_of_ble_eq_true rfl) rfl ?_
  intro p e s m below meth c C hr hnm H locs ls hH hS hl
  obtain ⟨⟨hx, hb, hml, hown, hts⟩, hG, hlk⟩ := id C
  have hin : ∀ w ∈ wsX50, w ∈ wsX5_sell := by decide +kernel
  have hl : lv_has ls 9 [(0, .ref (ad (0, 0, 0))), (1, .int cx), (2, .int f), (3, .int its)] := hl
  refine lv_aload_n hx hb dX5_sell_0 rfl (lv_at hl 0 rfl) ?_
  refine lv_iload_n hx hb dX5_sell_1 rfl (lv_at hl 1 rfl) ?_
  refine zk_ci (zk_rV (As := [.int cx]) (rest := []) (n := 1) (k := (0, 0, 0)) C (cM_isClient l D cA A g ad dy nc nt nl th mo I L cx hnc) hH hS mL_o rfl rfl gX5_sell_X5_isClient rfl rfl (by decide +kernel) ⟨Nat.le_of_ble_eq_true rfl, Nat.le_of_ble_eq_true rfl⟩ hl rfl (Nat.le_of_ble_eq_true rfl) dX5_sell_2 ⟨Nat.le_of_ble_eq_true rfl, Nat.le_of_ble_eq_true rfl⟩) hS (fun r_1 w_2 H locs hP hH_3 hS_4 => ?_)
  obtain ⟨rfl, (⟨rfl, h_r_1⟩ | ⟨rfl, h_r_1⟩)⟩ := hP
  · obtain ⟨cxj, hcxj, rfl⟩ := h_r_1
    refine lv_if_eq (tgt := 19) hx hb dX5_sell_5 (by decide) (fun c_5 => absurd c_5 (by decide)) (fun c_5 => ?_)
    refine lv_iload_n hx hb dX5_sell_8 rfl (lv_at hl 2 rfl) ?_
    refine zk_ci (zk_rS (As := [.int f]) (rest := []) (n := 1) C (cM_isFund l D cA A g _ f) hH_3 hS_4 gX5_sell_X5_isFund rfl rfl (by decide +kernel) ⟨Nat.le_of_ble_eq_true rfl, Nat.le_of_ble_eq_true rfl⟩ hl rfl (Nat.le_of_ble_eq_true rfl) dX5_sell_9 ⟨Nat.le_of_ble_eq_true rfl, Nat.le_of_ble_eq_true rfl⟩) hS_4 (fun r_6 w_7 H locs hP hH_8 hS_9 => ?_)
    obtain ⟨rfl, (⟨rfl, h_r_6⟩ | ⟨rfl, h_r_6⟩)⟩ := hP
    · obtain ⟨fj, hfj, rfl⟩ := h_r_6
      refine lv_if_eq (tgt := 19) hx hb dX5_sell_12 (by decide) (fun c_10 => absurd c_10 (by decide)) (fun c_10 => ?_)
      refine lv_iconst (v := 1) hx hb dX5_sell_15 (by decide) ?_
      refine lv_goto (tgt := 20) hx hb dX5_sell_16 (by decide) ?_
      refine lv_istore (lv' := [(4, .int 1), (0, .ref (ad (0, 0, 0))), (1, .int (nI cxj)), (2, .int (nI fj)), (3, .int its)]) hx hb dX5_sell_20 hl (by decide) rfl (fun ls hl_11 => ?_)
      refine lv_iload_n hx hb dX5_sell_22 rfl (lv_at hl_11 4 rfl) ?_
      refine lv_iconst (v := 1) hx hb dX5_sell_23 (by decide) ?_
      refine lv_ldc (v := 1000000000) hx hb hown (hts (.constant RX5 135 1000000000) (by decide +kernel)) dX5_sell_24 ?_
      refine zk_ci (zk_rS (As := [.int its, .int 1, .int 1000000000]) (rest := []) (n := 3) C (cM_isIn l D cA A g _ its 1 1000000000) hH_8 hS_9 gX5_sell_X5_isIn rfl rfl (by decide +kernel) ⟨Nat.le_of_ble_eq_true rfl, Nat.le_of_ble_eq_true rfl⟩ hl_11 rfl (Nat.le_of_ble_eq_true rfl) dX5_sell_26 ⟨Nat.le_of_ble_eq_true rfl, Nat.le_of_ble_eq_true rfl⟩) hS_9 (fun r_12 w_13 H locs hP hH_14 hS_15 => ?_)
      obtain ⟨rfl, (⟨rfl, h_r_12⟩ | ⟨rfl, h_r_12⟩)⟩ := hP
      · refine lv_istore (lv' := [(5, .int 1), (4, .int 1), (0, .ref (ad (0, 0, 0))), (1, .int (nI cxj)), (2, .int (nI fj)), (3, .int its)]) hx hb dX5_sell_29 hl_11 (by decide) rfl (fun ls hl_16 => ?_)
        refine lv_iload hx hb dX5_sell_31 (lv_at hl_16 1 rfl) ?_
        refine lv_if_eq (tgt := 46) hx hb dX5_sell_33 (by decide) (fun c_17 => absurd c_17 (by decide)) (fun c_17 => ?_)
        refine lv_aload_n hx hb dX5_sell_36 rfl (lv_at hl_16 2 rfl) ?_
        refine lv_iload_n hx hb dX5_sell_37 rfl (lv_at hl_16 4 rfl) ?_
        refine lv_iload_n hx hb dX5_sell_38 rfl (lv_at hl_16 5 rfl) ?_
        refine lv_i2l (v := Int32.toInt64 its) hx hb dX5_sell_39 rfl ?_
        refine zk_cl (zk_rV (As := [.int (nI fj), .long (Int32.toInt64 its)]) (rest := []) (n := 2) (k := (0, 0, 0)) C (cM_amountOf l D cA A g ad dy nc nt nl th mo I L fj (Int32.toInt64 its) (by omega)) hH_14 hS_15 mL_o rfl rfl gX5_sell_X5_amountOf rfl rfl (by decide +kernel) ⟨Nat.le_of_ble_eq_true rfl, Nat.le_of_ble_eq_true rfl⟩ hl_16 rfl (Nat.le_of_ble_eq_true rfl) dX5_sell_40 ⟨Nat.le_of_ble_eq_true rfl, Nat.le_of_ble_eq_true rfl⟩) hS_15 (fun r_18 w_19 H locs hP hH_20 hS_21 => ?_)
        obtain ⟨rfl, rfl⟩ := hP
        refine lv_goto (tgt := 47) hx hb dX5_sell_43 (by decide) ?_
        refine lv_lstore (lv' := [(6, .long (amountL I fj (Int32.toInt64 its))), (5, .int 1), (4, .int 1), (0, .ref (ad (0, 0, 0))), (1, .int (nI cxj)), (2, .int (nI fj)), (3, .int its)]) hx hb dX5_sell_47 hl_16 (by decide) rfl (fun ls hl_22 => ?_)
        refine lv_iload hx hb dX5_sell_49 (lv_at hl_22 2 rfl) ?_
        refine lv_if_eq (tgt := 100) hx hb dX5_sell_51 (by decide) (fun c_23 => absurd c_23 (by decide)) (fun c_23 => ?_)
        refine lv_aload_n hx hb dX5_sell_54 rfl (lv_at hl_22 3 rfl) ?_
        refine zm_get C hin hH_20 10 (by decide) (by decide +kernel) rfl dX5_sell_55 ?_
        refine lv_bipush (v := 120) hx hb dX5_sell_58 (by decide) ?_
        refine lv_icmp_ge (tgt := 100) hx hb dX5_sell_60 (by decide) (fun c_24 => ?_) (fun c_24 => ?_)
        · refine lv_iconst (v := 0) hx hb dX5_sell_100 (by decide) ?_
          refine lv_istore (lv' := [(8, .int 0), (6, .long (amountL I fj (Int32.toInt64 its))), (5, .int 1), (4, .int 1), (0, .ref (ad (0, 0, 0))), (1, .int (nI cxj)), (2, .int (nI fj)), (3, .int its)]) hx hb dX5_sell_101 hl_22 (by decide) rfl (fun ls hl_25 => ?_)
          refine lv_aload_n hx hb dX5_sell_103 rfl (lv_at hl_25 4 rfl) ?_
          refine lv_iload hx hb dX5_sell_104 (lv_at hl_25 3 rfl) ?_
          refine lv_if_ne (tgt := 113) hx hb dX5_sell_106 (by decide) (fun c_26 => ?_) (fun c_26 => absurd c_26 (by decide))
          refine lv_iload hx hb dX5_sell_113 (lv_at hl_25 2 rfl) ?_
          refine lv_if_ne (tgt := 122) hx hb dX5_sell_115 (by decide) (fun c_27 => ?_) (fun c_27 => absurd c_27 (by decide))
          refine lv_iload hx hb dX5_sell_122 (lv_at hl_25 0 rfl) ?_
          refine lv_if_eq (tgt := 131) hx hb dX5_sell_124 (by decide) (fun c_28 => ?_) (fun c_28 => absurd c_28 (by decide))
          refine lv_iconst (v := 3) hx hb dX5_sell_131 (by decide) ?_
          refine zk_ci (zk_rV (As := [.int 3]) (rest := []) (n := 1) (k := (0, 0, 0)) C (cM_fails l D cA A g ad dy nc nt nl th mo I L 3) hH_20 hS_21 mL_o rfl rfl gX5_sell_X5_fails rfl rfl (by decide +kernel) ⟨Nat.le_of_ble_eq_true rfl, Nat.le_of_ble_eq_true rfl⟩ hl_25 rfl (Nat.le_of_ble_eq_true rfl) dX5_sell_132 ⟨Nat.le_of_ble_eq_true rfl, Nat.le_of_ble_eq_true rfl⟩) hS_21 (fun r_29 w_30 H locs hP hH_31 hS_32 => ?_)
          obtain ⟨rfl, rfl⟩ := hP
          refine lv_if_eq (tgt := 140) hx hb dX5_sell_135 (by decide) (fun c_33 => absurd c_33 (by decide)) (fun c_33 => ?_)
          refine lv_iconst (v := 0) hx hb dX5_sell_138 (by decide) ?_
          refine zr_iret C hr ?_ hH_31 hS_32 (Nat.le_of_ble_eq_true rfl) (Nat.le_of_ble_eq_true rfl) dX5_sell_139
          exact Or.inr ⟨cxj, fj, hcxj, rfl, hfj, rfl, Or.inr (Or.inl ⟨by assumption, fun z => by first | exact absurd (by assumption) (nI_ge z.1 (by decide)) | exact absurd z.2.1 (by assumption) | exact absurd (by assumption) z.2.2 | exact absurd (by assumption) z.2.1 | exact absurd z.2.2.1 (by assumption) | exact absurd (by assumption) z.2.2.2, rfl⟩)⟩
        · have hnt2 : nt < 120 := Nat.lt_of_not_le (fun z => c_24 (nI_le z (by omega)))
          refine lv_aload_n hx hb dX5_sell_63 rfl (lv_at hl_22 3 rfl) ?_
          refine zm_get C hin hH_20 8 (by decide) (by decide +kernel) rfl dX5_sell_64 ?_
          refine lv_bipush (v := 6) hx hb dX5_sell_67 (by decide) ?_
          refine lv_iload_n hx hb dX5_sell_69 rfl (lv_at hl_22 4 rfl) ?_
          refine lv_imul hx hb dX5_sell_70 ?_
          refine lv_iload_n hx hb dX5_sell_71 rfl (lv_at hl_22 5 rfl) ?_
          refine lv_iadd hx hb dX5_sell_72 ?_
          refine zm_lld C hH_20 8 rfl (j := ((6 * cxj) + fj)) (zi_add (zi_mul rfl rfl) rfl) (show ((6 * cxj) + fj) < 72 by omega) dX5_sell_73 ?_
          refine lv_iload_n hx hb dX5_sell_74 rfl (lv_at hl_22 6 rfl) ?_
          refine lv_i2l (v := Int32.toInt64 its) hx hb dX5_sell_75 rfl ?_
          refine zl_cmp_lt (tgt := 100) hx hb dX5_sell_76 dX5_sell_77 (by decide) (fun c_34 => ?_) (fun c_34 => ?_)
          · refine lv_iconst (v := 0) hx hb dX5_sell_100 (by decide) ?_
            refine lv_istore (lv' := [(8, .int 0), (6, .long (amountL I fj (Int32.toInt64 its))), (5, .int 1), (4, .int 1), (0, .ref (ad (0, 0, 0))), (1, .int (nI cxj)), (2, .int (nI fj)), (3, .int its)]) hx hb dX5_sell_101 hl_22 (by decide) rfl (fun ls hl_35 => ?_)
            refine lv_aload_n hx hb dX5_sell_103 rfl (lv_at hl_35 4 rfl) ?_
            refine lv_iload hx hb dX5_sell_104 (lv_at hl_35 3 rfl) ?_
            refine lv_if_ne (tgt := 113) hx hb dX5_sell_106 (by decide) (fun c_36 => ?_) (fun c_36 => absurd c_36 (by decide))
            refine lv_iload hx hb dX5_sell_113 (lv_at hl_35 2 rfl) ?_
            refine lv_if_ne (tgt := 122) hx hb dX5_sell_115 (by decide) (fun c_37 => ?_) (fun c_37 => absurd c_37 (by decide))
            refine lv_iload hx hb dX5_sell_122 (lv_at hl_35 0 rfl) ?_
            refine lv_if_eq (tgt := 131) hx hb dX5_sell_124 (by decide) (fun c_38 => ?_) (fun c_38 => absurd c_38 (by decide))
            refine lv_iconst (v := 3) hx hb dX5_sell_131 (by decide) ?_
            refine zk_ci (zk_rV (As := [.int 3]) (rest := []) (n := 1) (k := (0, 0, 0)) C (cM_fails l D cA A g ad dy nc nt nl th mo I L 3) hH_20 hS_21 mL_o rfl rfl gX5_sell_X5_fails rfl rfl (by decide +kernel) ⟨Nat.le_of_ble_eq_true rfl, Nat.le_of_ble_eq_true rfl⟩ hl_35 rfl (Nat.le_of_ble_eq_true rfl) dX5_sell_132 ⟨Nat.le_of_ble_eq_true rfl, Nat.le_of_ble_eq_true rfl⟩) hS_21 (fun r_39 w_40 H locs hP hH_41 hS_42 => ?_)
            obtain ⟨rfl, rfl⟩ := hP
            refine lv_if_eq (tgt := 140) hx hb dX5_sell_135 (by decide) (fun c_43 => absurd c_43 (by decide)) (fun c_43 => ?_)
            refine lv_iconst (v := 0) hx hb dX5_sell_138 (by decide) ?_
            refine zr_iret C hr ?_ hH_41 hS_42 (Nat.le_of_ble_eq_true rfl) (Nat.le_of_ble_eq_true rfl) dX5_sell_139
            exact Or.inr ⟨cxj, fj, hcxj, rfl, hfj, rfl, Or.inr (Or.inl ⟨by assumption, fun z => by first | exact absurd (by assumption) (nI_ge z.1 (by decide)) | exact absurd z.2.1 (by assumption) | exact absurd (by assumption) z.2.2 | exact absurd (by assumption) z.2.1 | exact absurd z.2.2.1 (by assumption) | exact absurd (by assumption) z.2.2.2, rfl⟩)⟩
          · refine lv_lload hx hb dX5_sell_80 (lv_at hl_22 0 rfl) ?_
            refine lv_lconst (v := 0) hx hb dX5_sell_82 (by decide) ?_
            refine zl_cmp_le (tgt := 100) hx hb dX5_sell_83 dX5_sell_84 (by decide) (fun c_44 => ?_) (fun c_44 => ?_)
            · refine lv_iconst (v := 0) hx hb dX5_sell_100 (by decide) ?_
              refine lv_istore (lv' := [(8, .int 0), (6, .long (amountL I fj (Int32.toInt64 its))), (5, .int 1), (4, .int 1), (0, .ref (ad (0, 0, 0))), (1, .int (nI cxj)), (2, .int (nI fj)), (3, .int its)]) hx hb dX5_sell_101 hl_22 (by decide) rfl (fun ls hl_45 => ?_)
              refine lv_aload_n hx hb dX5_sell_103 rfl (lv_at hl_45 4 rfl) ?_
              refine lv_iload hx hb dX5_sell_104 (lv_at hl_45 3 rfl) ?_
              refine lv_if_ne (tgt := 113) hx hb dX5_sell_106 (by decide) (fun c_46 => ?_) (fun c_46 => absurd c_46 (by decide))
              refine lv_iload hx hb dX5_sell_113 (lv_at hl_45 2 rfl) ?_
              refine lv_if_ne (tgt := 122) hx hb dX5_sell_115 (by decide) (fun c_47 => ?_) (fun c_47 => absurd c_47 (by decide))
              refine lv_iload hx hb dX5_sell_122 (lv_at hl_45 0 rfl) ?_
              refine lv_if_eq (tgt := 131) hx hb dX5_sell_124 (by decide) (fun c_48 => ?_) (fun c_48 => absurd c_48 (by decide))
              refine lv_iconst (v := 3) hx hb dX5_sell_131 (by decide) ?_
              refine zk_ci (zk_rV (As := [.int 3]) (rest := []) (n := 1) (k := (0, 0, 0)) C (cM_fails l D cA A g ad dy nc nt nl th mo I L 3) hH_20 hS_21 mL_o rfl rfl gX5_sell_X5_fails rfl rfl (by decide +kernel) ⟨Nat.le_of_ble_eq_true rfl, Nat.le_of_ble_eq_true rfl⟩ hl_45 rfl (Nat.le_of_ble_eq_true rfl) dX5_sell_132 ⟨Nat.le_of_ble_eq_true rfl, Nat.le_of_ble_eq_true rfl⟩) hS_21 (fun r_49 w_50 H locs hP hH_51 hS_52 => ?_)
              obtain ⟨rfl, rfl⟩ := hP
              refine lv_if_eq (tgt := 140) hx hb dX5_sell_135 (by decide) (fun c_53 => absurd c_53 (by decide)) (fun c_53 => ?_)
              refine lv_iconst (v := 0) hx hb dX5_sell_138 (by decide) ?_
              refine zr_iret C hr ?_ hH_51 hS_52 (Nat.le_of_ble_eq_true rfl) (Nat.le_of_ble_eq_true rfl) dX5_sell_139
              exact Or.inr ⟨cxj, fj, hcxj, rfl, hfj, rfl, Or.inr (Or.inl ⟨by assumption, fun z => by first | exact absurd (by assumption) (nI_ge z.1 (by decide)) | exact absurd z.2.1 (by assumption) | exact absurd (by assumption) z.2.2 | exact absurd (by assumption) z.2.1 | exact absurd z.2.2.1 (by assumption) | exact absurd (by assumption) z.2.2.2, rfl⟩)⟩
            · refine lv_lload hx hb dX5_sell_87 (lv_at hl_22 0 rfl) ?_
              refine lv_ldc2 (v := 1000000000) hx hb hown (hts (.constantLong RX5 139 1000000000) (by decide +kernel)) dX5_sell_89 ?_
              refine zl_cmp_gt (tgt := 100) hx hb dX5_sell_92 dX5_sell_93 (by decide) (fun c_54 => ?_) (fun c_54 => ?_)
              · refine lv_iconst (v := 0) hx hb dX5_sell_100 (by decide) ?_
                refine lv_istore (lv' := [(8, .int 0), (6, .long (amountL I fj (Int32.toInt64 its))), (5, .int 1), (4, .int 1), (0, .ref (ad (0, 0, 0))), (1, .int (nI cxj)), (2, .int (nI fj)), (3, .int its)]) hx hb dX5_sell_101 hl_22 (by decide) rfl (fun ls hl_55 => ?_)
                refine lv_aload_n hx hb dX5_sell_103 rfl (lv_at hl_55 4 rfl) ?_
                refine lv_iload hx hb dX5_sell_104 (lv_at hl_55 3 rfl) ?_
                refine lv_if_ne (tgt := 113) hx hb dX5_sell_106 (by decide) (fun c_56 => ?_) (fun c_56 => absurd c_56 (by decide))
                refine lv_iload hx hb dX5_sell_113 (lv_at hl_55 2 rfl) ?_
                refine lv_if_ne (tgt := 122) hx hb dX5_sell_115 (by decide) (fun c_57 => ?_) (fun c_57 => absurd c_57 (by decide))
                refine lv_iload hx hb dX5_sell_122 (lv_at hl_55 0 rfl) ?_
                refine lv_if_eq (tgt := 131) hx hb dX5_sell_124 (by decide) (fun c_58 => ?_) (fun c_58 => absurd c_58 (by decide))
                refine lv_iconst (v := 3) hx hb dX5_sell_131 (by decide) ?_
                refine zk_ci (zk_rV (As := [.int 3]) (rest := []) (n := 1) (k := (0, 0, 0)) C (cM_fails l D cA A g ad dy nc nt nl th mo I L 3) hH_20 hS_21 mL_o rfl rfl gX5_sell_X5_fails rfl rfl (by decide +kernel) ⟨Nat.le_of_ble_eq_true rfl, Nat.le_of_ble_eq_true rfl⟩ hl_55 rfl (Nat.le_of_ble_eq_true rfl) dX5_sell_132 ⟨Nat.le_of_ble_eq_true rfl, Nat.le_of_ble_eq_true rfl⟩) hS_21 (fun r_59 w_60 H locs hP hH_61 hS_62 => ?_)
                obtain ⟨rfl, rfl⟩ := hP
                refine lv_if_eq (tgt := 140) hx hb dX5_sell_135 (by decide) (fun c_63 => absurd c_63 (by decide)) (fun c_63 => ?_)
                refine lv_iconst (v := 0) hx hb dX5_sell_138 (by decide) ?_
                refine zr_iret C hr ?_ hH_61 hS_62 (Nat.le_of_ble_eq_true rfl) (Nat.le_of_ble_eq_true rfl) dX5_sell_139
                exact Or.inr ⟨cxj, fj, hcxj, rfl, hfj, rfl, Or.inr (Or.inl ⟨by assumption, fun z => by first | exact absurd (by assumption) (nI_ge z.1 (by decide)) | exact absurd z.2.1 (by assumption) | exact absurd (by assumption) z.2.2 | exact absurd (by assumption) z.2.1 | exact absurd z.2.2.1 (by assumption) | exact absurd (by assumption) z.2.2.2, rfl⟩)⟩
              · refine lv_iconst (v := 1) hx hb dX5_sell_96 (by decide) ?_
                refine lv_goto (tgt := 101) hx hb dX5_sell_97 (by decide) ?_
                refine lv_istore (lv' := [(8, .int 1), (6, .long (amountL I fj (Int32.toInt64 its))), (5, .int 1), (4, .int 1), (0, .ref (ad (0, 0, 0))), (1, .int (nI cxj)), (2, .int (nI fj)), (3, .int its)]) hx hb dX5_sell_101 hl_22 (by decide) rfl (fun ls hl_64 => ?_)
                refine lv_aload_n hx hb dX5_sell_103 rfl (lv_at hl_64 4 rfl) ?_
                refine lv_iload hx hb dX5_sell_104 (lv_at hl_64 3 rfl) ?_
                refine lv_if_ne (tgt := 113) hx hb dX5_sell_106 (by decide) (fun c_65 => ?_) (fun c_65 => absurd c_65 (by decide))
                refine lv_iload hx hb dX5_sell_113 (lv_at hl_64 2 rfl) ?_
                refine lv_if_ne (tgt := 122) hx hb dX5_sell_115 (by decide) (fun c_66 => ?_) (fun c_66 => absurd c_66 (by decide))
                refine lv_iload hx hb dX5_sell_122 (lv_at hl_64 0 rfl) ?_
                refine lv_if_eq (tgt := 131) hx hb dX5_sell_124 (by decide) (fun c_67 => absurd c_67 (by decide)) (fun c_67 => ?_)
                refine lv_iconst (v := 0) hx hb dX5_sell_127 (by decide) ?_
                refine lv_goto (tgt := 132) hx hb dX5_sell_128 (by decide) ?_
                refine zk_ci (zk_rV (As := [.int 0]) (rest := []) (n := 1) (k := (0, 0, 0)) C (cM_fails l D cA A g ad dy nc nt nl th mo I L 0) hH_20 hS_21 mL_o rfl rfl gX5_sell_X5_fails rfl rfl (by decide +kernel) ⟨Nat.le_of_ble_eq_true rfl, Nat.le_of_ble_eq_true rfl⟩ hl_64 rfl (Nat.le_of_ble_eq_true rfl) dX5_sell_132 ⟨Nat.le_of_ble_eq_true rfl, Nat.le_of_ble_eq_true rfl⟩) hS_21 (fun r_68 w_69 H locs hP hH_70 hS_71 => ?_)
                obtain ⟨rfl, rfl⟩ := hP
                refine lv_if_eq (tgt := 140) hx hb dX5_sell_135 (by decide) (fun c_72 => ?_) (fun c_72 => absurd c_72 (by decide))
                refine lv_aload_n hx hb dX5_sell_140 rfl (lv_at hl_64 4 rfl) ?_
                refine lv_iload_n hx hb dX5_sell_141 rfl (lv_at hl_64 5 rfl) ?_
                refine lv_iload_n hx hb dX5_sell_142 rfl (lv_at hl_64 6 rfl) ?_
                refine lv_iload_n hx hb dX5_sell_143 rfl (lv_at hl_64 7 rfl) ?_
                refine lv_ineg hx hb dX5_sell_144 ?_
                refine lv_i2l (v := Int32.toInt64 (-its)) hx hb dX5_sell_145 rfl ?_
                refine lv_lload hx hb dX5_sell_146 (lv_at hl_64 1 rfl) ?_
                refine zk_ci (zk_rV (As := [.int (nI cxj), .int (nI fj), .long (Int32.toInt64 (-its)), .long (amountL I fj (Int32.toInt64 its))]) (rest := []) (n := 4) (k := (0, 0, 0)) C (cM_notes l D cA A g ad dy nc nt nl 0 mo I L cxj fj (Int32.toInt64 (-its)) (amountL I fj (Int32.toInt64 its)) (by omega) (by omega) (by omega)) hH_70 hS_71 mL_o rfl rfl gX5_sell_X5_notes rfl rfl (by decide +kernel) ⟨Nat.le_of_ble_eq_true rfl, Nat.le_of_ble_eq_true rfl⟩ hl_64 rfl (Nat.le_of_ble_eq_true rfl) dX5_sell_148 ⟨Nat.le_of_ble_eq_true rfl, Nat.le_of_ble_eq_true rfl⟩) hS_71 (fun r_73 w_74 H locs hP hH_75 hS_76 => ?_)
                obtain ⟨rfl, rfl⟩ := hP
                refine zr_iret C hr ?_ hH_75 hS_76 (Nat.le_of_ble_eq_true rfl) (Nat.le_of_ble_eq_true rfl) dX5_sell_151
                exact Or.inr ⟨cxj, fj, hcxj, rfl, hfj, rfl, Or.inr (Or.inr ⟨by assumption, ⟨hnt2, by assumption, by assumption, by assumption⟩, rfl, rfl⟩)⟩
      · refine lv_istore (lv' := [(5, .int 0), (4, .int 1), (0, .ref (ad (0, 0, 0))), (1, .int (nI cxj)), (2, .int (nI fj)), (3, .int its)]) hx hb dX5_sell_29 hl_11 (by decide) rfl (fun ls hl_77 => ?_)
        refine lv_iload hx hb dX5_sell_31 (lv_at hl_77 1 rfl) ?_
        refine lv_if_eq (tgt := 46) hx hb dX5_sell_33 (by decide) (fun c_78 => absurd c_78 (by decide)) (fun c_78 => ?_)
        refine lv_aload_n hx hb dX5_sell_36 rfl (lv_at hl_77 2 rfl) ?_
        refine lv_iload_n hx hb dX5_sell_37 rfl (lv_at hl_77 4 rfl) ?_
        refine lv_iload_n hx hb dX5_sell_38 rfl (lv_at hl_77 5 rfl) ?_
        refine lv_i2l (v := Int32.toInt64 its) hx hb dX5_sell_39 rfl ?_
        refine zk_cl (zk_rV (As := [.int (nI fj), .long (Int32.toInt64 its)]) (rest := []) (n := 2) (k := (0, 0, 0)) C (cM_amountOf l D cA A g ad dy nc nt nl th mo I L fj (Int32.toInt64 its) (by omega)) hH_14 hS_15 mL_o rfl rfl gX5_sell_X5_amountOf rfl rfl (by decide +kernel) ⟨Nat.le_of_ble_eq_true rfl, Nat.le_of_ble_eq_true rfl⟩ hl_77 rfl (Nat.le_of_ble_eq_true rfl) dX5_sell_40 ⟨Nat.le_of_ble_eq_true rfl, Nat.le_of_ble_eq_true rfl⟩) hS_15 (fun r_79 w_80 H locs hP hH_81 hS_82 => ?_)
        obtain ⟨rfl, rfl⟩ := hP
        refine lv_goto (tgt := 47) hx hb dX5_sell_43 (by decide) ?_
        refine lv_lstore (lv' := [(6, .long (amountL I fj (Int32.toInt64 its))), (5, .int 0), (4, .int 1), (0, .ref (ad (0, 0, 0))), (1, .int (nI cxj)), (2, .int (nI fj)), (3, .int its)]) hx hb dX5_sell_47 hl_77 (by decide) rfl (fun ls hl_83 => ?_)
        refine lv_iload hx hb dX5_sell_49 (lv_at hl_83 2 rfl) ?_
        refine lv_if_eq (tgt := 100) hx hb dX5_sell_51 (by decide) (fun c_84 => absurd c_84 (by decide)) (fun c_84 => ?_)
        refine lv_aload_n hx hb dX5_sell_54 rfl (lv_at hl_83 3 rfl) ?_
        refine zm_get C hin hH_81 10 (by decide) (by decide +kernel) rfl dX5_sell_55 ?_
        refine lv_bipush (v := 120) hx hb dX5_sell_58 (by decide) ?_
        refine lv_icmp_ge (tgt := 100) hx hb dX5_sell_60 (by decide) (fun c_85 => ?_) (fun c_85 => ?_)
        · refine lv_iconst (v := 0) hx hb dX5_sell_100 (by decide) ?_
          refine lv_istore (lv' := [(8, .int 0), (6, .long (amountL I fj (Int32.toInt64 its))), (5, .int 0), (4, .int 1), (0, .ref (ad (0, 0, 0))), (1, .int (nI cxj)), (2, .int (nI fj)), (3, .int its)]) hx hb dX5_sell_101 hl_83 (by decide) rfl (fun ls hl_86 => ?_)
          refine lv_aload_n hx hb dX5_sell_103 rfl (lv_at hl_86 4 rfl) ?_
          refine lv_iload hx hb dX5_sell_104 (lv_at hl_86 3 rfl) ?_
          refine lv_if_ne (tgt := 113) hx hb dX5_sell_106 (by decide) (fun c_87 => ?_) (fun c_87 => absurd c_87 (by decide))
          refine lv_iload hx hb dX5_sell_113 (lv_at hl_86 2 rfl) ?_
          refine lv_if_ne (tgt := 122) hx hb dX5_sell_115 (by decide) (fun c_88 => absurd c_88 (by decide)) (fun c_88 => ?_)
          refine lv_iconst (v := 2) hx hb dX5_sell_118 (by decide) ?_
          refine lv_goto (tgt := 132) hx hb dX5_sell_119 (by decide) ?_
          refine zk_ci (zk_rV (As := [.int 2]) (rest := []) (n := 1) (k := (0, 0, 0)) C (cM_fails l D cA A g ad dy nc nt nl th mo I L 2) hH_81 hS_82 mL_o rfl rfl gX5_sell_X5_fails rfl rfl (by decide +kernel) ⟨Nat.le_of_ble_eq_true rfl, Nat.le_of_ble_eq_true rfl⟩ hl_86 rfl (Nat.le_of_ble_eq_true rfl) dX5_sell_132 ⟨Nat.le_of_ble_eq_true rfl, Nat.le_of_ble_eq_true rfl⟩) hS_82 (fun r_89 w_90 H locs hP hH_91 hS_92 => ?_)
          obtain ⟨rfl, rfl⟩ := hP
          refine lv_if_eq (tgt := 140) hx hb dX5_sell_135 (by decide) (fun c_93 => absurd c_93 (by decide)) (fun c_93 => ?_)
          refine lv_iconst (v := 0) hx hb dX5_sell_138 (by decide) ?_
          refine zr_iret C hr ?_ hH_91 hS_92 (Nat.le_of_ble_eq_true rfl) (Nat.le_of_ble_eq_true rfl) dX5_sell_139
          exact Or.inr ⟨cxj, fj, hcxj, rfl, hfj, rfl, Or.inl ⟨by assumption, rfl⟩⟩
        · have hnt2 : nt < 120 := Nat.lt_of_not_le (fun z => c_85 (nI_le z (by omega)))
          refine lv_aload_n hx hb dX5_sell_63 rfl (lv_at hl_83 3 rfl) ?_
          refine zm_get C hin hH_81 8 (by decide) (by decide +kernel) rfl dX5_sell_64 ?_
          refine lv_bipush (v := 6) hx hb dX5_sell_67 (by decide) ?_
          refine lv_iload_n hx hb dX5_sell_69 rfl (lv_at hl_83 4 rfl) ?_
          refine lv_imul hx hb dX5_sell_70 ?_
          refine lv_iload_n hx hb dX5_sell_71 rfl (lv_at hl_83 5 rfl) ?_
          refine lv_iadd hx hb dX5_sell_72 ?_
          refine zm_lld C hH_81 8 rfl (j := ((6 * cxj) + fj)) (zi_add (zi_mul rfl rfl) rfl) (show ((6 * cxj) + fj) < 72 by omega) dX5_sell_73 ?_
          refine lv_iload_n hx hb dX5_sell_74 rfl (lv_at hl_83 6 rfl) ?_
          refine lv_i2l (v := Int32.toInt64 its) hx hb dX5_sell_75 rfl ?_
          refine zl_cmp_lt (tgt := 100) hx hb dX5_sell_76 dX5_sell_77 (by decide) (fun c_94 => ?_) (fun c_94 => ?_)
          · refine lv_iconst (v := 0) hx hb dX5_sell_100 (by decide) ?_
            refine lv_istore (lv' := [(8, .int 0), (6, .long (amountL I fj (Int32.toInt64 its))), (5, .int 0), (4, .int 1), (0, .ref (ad (0, 0, 0))), (1, .int (nI cxj)), (2, .int (nI fj)), (3, .int its)]) hx hb dX5_sell_101 hl_83 (by decide) rfl (fun ls hl_95 => ?_)
            refine lv_aload_n hx hb dX5_sell_103 rfl (lv_at hl_95 4 rfl) ?_
            refine lv_iload hx hb dX5_sell_104 (lv_at hl_95 3 rfl) ?_
            refine lv_if_ne (tgt := 113) hx hb dX5_sell_106 (by decide) (fun c_96 => ?_) (fun c_96 => absurd c_96 (by decide))
            refine lv_iload hx hb dX5_sell_113 (lv_at hl_95 2 rfl) ?_
            refine lv_if_ne (tgt := 122) hx hb dX5_sell_115 (by decide) (fun c_97 => absurd c_97 (by decide)) (fun c_97 => ?_)
            refine lv_iconst (v := 2) hx hb dX5_sell_118 (by decide) ?_
            refine lv_goto (tgt := 132) hx hb dX5_sell_119 (by decide) ?_
            refine zk_ci (zk_rV (As := [.int 2]) (rest := []) (n := 1) (k := (0, 0, 0)) C (cM_fails l D cA A g ad dy nc nt nl th mo I L 2) hH_81 hS_82 mL_o rfl rfl gX5_sell_X5_fails rfl rfl (by decide +kernel) ⟨Nat.le_of_ble_eq_true rfl, Nat.le_of_ble_eq_true rfl⟩ hl_95 rfl (Nat.le_of_ble_eq_true rfl) dX5_sell_132 ⟨Nat.le_of_ble_eq_true rfl, Nat.le_of_ble_eq_true rfl⟩) hS_82 (fun r_98 w_99 H locs hP hH_100 hS_101 => ?_)
            obtain ⟨rfl, rfl⟩ := hP
            refine lv_if_eq (tgt := 140) hx hb dX5_sell_135 (by decide) (fun c_102 => absurd c_102 (by decide)) (fun c_102 => ?_)
            refine lv_iconst (v := 0) hx hb dX5_sell_138 (by decide) ?_
            refine zr_iret C hr ?_ hH_100 hS_101 (Nat.le_of_ble_eq_true rfl) (Nat.le_of_ble_eq_true rfl) dX5_sell_139
            exact Or.inr ⟨cxj, fj, hcxj, rfl, hfj, rfl, Or.inl ⟨by assumption, rfl⟩⟩
          · refine lv_lload hx hb dX5_sell_80 (lv_at hl_83 0 rfl) ?_
            refine lv_lconst (v := 0) hx hb dX5_sell_82 (by decide) ?_
            refine zl_cmp_le (tgt := 100) hx hb dX5_sell_83 dX5_sell_84 (by decide) (fun c_103 => ?_) (fun c_103 => ?_)
            · refine lv_iconst (v := 0) hx hb dX5_sell_100 (by decide) ?_
              refine lv_istore (lv' := [(8, .int 0), (6, .long (amountL I fj (Int32.toInt64 its))), (5, .int 0), (4, .int 1), (0, .ref (ad (0, 0, 0))), (1, .int (nI cxj)), (2, .int (nI fj)), (3, .int its)]) hx hb dX5_sell_101 hl_83 (by decide) rfl (fun ls hl_104 => ?_)
              refine lv_aload_n hx hb dX5_sell_103 rfl (lv_at hl_104 4 rfl) ?_
              refine lv_iload hx hb dX5_sell_104 (lv_at hl_104 3 rfl) ?_
              refine lv_if_ne (tgt := 113) hx hb dX5_sell_106 (by decide) (fun c_105 => ?_) (fun c_105 => absurd c_105 (by decide))
              refine lv_iload hx hb dX5_sell_113 (lv_at hl_104 2 rfl) ?_
              refine lv_if_ne (tgt := 122) hx hb dX5_sell_115 (by decide) (fun c_106 => absurd c_106 (by decide)) (fun c_106 => ?_)
              refine lv_iconst (v := 2) hx hb dX5_sell_118 (by decide) ?_
              refine lv_goto (tgt := 132) hx hb dX5_sell_119 (by decide) ?_
              refine zk_ci (zk_rV (As := [.int 2]) (rest := []) (n := 1) (k := (0, 0, 0)) C (cM_fails l D cA A g ad dy nc nt nl th mo I L 2) hH_81 hS_82 mL_o rfl rfl gX5_sell_X5_fails rfl rfl (by decide +kernel) ⟨Nat.le_of_ble_eq_true rfl, Nat.le_of_ble_eq_true rfl⟩ hl_104 rfl (Nat.le_of_ble_eq_true rfl) dX5_sell_132 ⟨Nat.le_of_ble_eq_true rfl, Nat.le_of_ble_eq_true rfl⟩) hS_82 (fun r_107 w_108 H locs hP hH_109 hS_110 => ?_)
              obtain ⟨rfl, rfl⟩ := hP
              refine lv_if_eq (tgt := 140) hx hb dX5_sell_135 (by decide) (fun c_111 => absurd c_111 (by decide)) (fun c_111 => ?_)
              refine lv_iconst (v := 0) hx hb dX5_sell_138 (by decide) ?_
              refine zr_iret C hr ?_ hH_109 hS_110 (Nat.le_of_ble_eq_true rfl) (Nat.le_of_ble_eq_true rfl) dX5_sell_139
              exact Or.inr ⟨cxj, fj, hcxj, rfl, hfj, rfl, Or.inl ⟨by assumption, rfl⟩⟩
            · refine lv_lload hx hb dX5_sell_87 (lv_at hl_83 0 rfl) ?_
              refine lv_ldc2 (v := 1000000000) hx hb hown (hts (.constantLong RX5 139 1000000000) (by decide +kernel)) dX5_sell_89 ?_
              refine zl_cmp_gt (tgt := 100) hx hb dX5_sell_92 dX5_sell_93 (by decide) (fun c_112 => ?_) (fun c_112 => ?_)
              · refine lv_iconst (v := 0) hx hb dX5_sell_100 (by decide) ?_
                refine lv_istore (lv' := [(8, .int 0), (6, .long (amountL I fj (Int32.toInt64 its))), (5, .int 0), (4, .int 1), (0, .ref (ad (0, 0, 0))), (1, .int (nI cxj)), (2, .int (nI fj)), (3, .int its)]) hx hb dX5_sell_101 hl_83 (by decide) rfl (fun ls hl_113 => ?_)
                refine lv_aload_n hx hb dX5_sell_103 rfl (lv_at hl_113 4 rfl) ?_
                refine lv_iload hx hb dX5_sell_104 (lv_at hl_113 3 rfl) ?_
                refine lv_if_ne (tgt := 113) hx hb dX5_sell_106 (by decide) (fun c_114 => ?_) (fun c_114 => absurd c_114 (by decide))
                refine lv_iload hx hb dX5_sell_113 (lv_at hl_113 2 rfl) ?_
                refine lv_if_ne (tgt := 122) hx hb dX5_sell_115 (by decide) (fun c_115 => absurd c_115 (by decide)) (fun c_115 => ?_)
                refine lv_iconst (v := 2) hx hb dX5_sell_118 (by decide) ?_
                refine lv_goto (tgt := 132) hx hb dX5_sell_119 (by decide) ?_
                refine zk_ci (zk_rV (As := [.int 2]) (rest := []) (n := 1) (k := (0, 0, 0)) C (cM_fails l D cA A g ad dy nc nt nl th mo I L 2) hH_81 hS_82 mL_o rfl rfl gX5_sell_X5_fails rfl rfl (by decide +kernel) ⟨Nat.le_of_ble_eq_true rfl, Nat.le_of_ble_eq_true rfl⟩ hl_113 rfl (Nat.le_of_ble_eq_true rfl) dX5_sell_132 ⟨Nat.le_of_ble_eq_true rfl, Nat.le_of_ble_eq_true rfl⟩) hS_82 (fun r_116 w_117 H locs hP hH_118 hS_119 => ?_)
                obtain ⟨rfl, rfl⟩ := hP
                refine lv_if_eq (tgt := 140) hx hb dX5_sell_135 (by decide) (fun c_120 => absurd c_120 (by decide)) (fun c_120 => ?_)
                refine lv_iconst (v := 0) hx hb dX5_sell_138 (by decide) ?_
                refine zr_iret C hr ?_ hH_118 hS_119 (Nat.le_of_ble_eq_true rfl) (Nat.le_of_ble_eq_true rfl) dX5_sell_139
                exact Or.inr ⟨cxj, fj, hcxj, rfl, hfj, rfl, Or.inl ⟨by assumption, rfl⟩⟩
              · refine lv_iconst (v := 1) hx hb dX5_sell_96 (by decide) ?_
                refine lv_goto (tgt := 101) hx hb dX5_sell_97 (by decide) ?_
                refine lv_istore (lv' := [(8, .int 1), (6, .long (amountL I fj (Int32.toInt64 its))), (5, .int 0), (4, .int 1), (0, .ref (ad (0, 0, 0))), (1, .int (nI cxj)), (2, .int (nI fj)), (3, .int its)]) hx hb dX5_sell_101 hl_83 (by decide) rfl (fun ls hl_121 => ?_)
                refine lv_aload_n hx hb dX5_sell_103 rfl (lv_at hl_121 4 rfl) ?_
                refine lv_iload hx hb dX5_sell_104 (lv_at hl_121 3 rfl) ?_
                refine lv_if_ne (tgt := 113) hx hb dX5_sell_106 (by decide) (fun c_122 => ?_) (fun c_122 => absurd c_122 (by decide))
                refine lv_iload hx hb dX5_sell_113 (lv_at hl_121 2 rfl) ?_
                refine lv_if_ne (tgt := 122) hx hb dX5_sell_115 (by decide) (fun c_123 => absurd c_123 (by decide)) (fun c_123 => ?_)
                refine lv_iconst (v := 2) hx hb dX5_sell_118 (by decide) ?_
                refine lv_goto (tgt := 132) hx hb dX5_sell_119 (by decide) ?_
                refine zk_ci (zk_rV (As := [.int 2]) (rest := []) (n := 1) (k := (0, 0, 0)) C (cM_fails l D cA A g ad dy nc nt nl th mo I L 2) hH_81 hS_82 mL_o rfl rfl gX5_sell_X5_fails rfl rfl (by decide +kernel) ⟨Nat.le_of_ble_eq_true rfl, Nat.le_of_ble_eq_true rfl⟩ hl_121 rfl (Nat.le_of_ble_eq_true rfl) dX5_sell_132 ⟨Nat.le_of_ble_eq_true rfl, Nat.le_of_ble_eq_true rfl⟩) hS_82 (fun r_124 w_125 H locs hP hH_126 hS_127 => ?_)
                obtain ⟨rfl, rfl⟩ := hP
                refine lv_if_eq (tgt := 140) hx hb dX5_sell_135 (by decide) (fun c_128 => absurd c_128 (by decide)) (fun c_128 => ?_)
                refine lv_iconst (v := 0) hx hb dX5_sell_138 (by decide) ?_
                refine zr_iret C hr ?_ hH_126 hS_127 (Nat.le_of_ble_eq_true rfl) (Nat.le_of_ble_eq_true rfl) dX5_sell_139
                exact Or.inr ⟨cxj, fj, hcxj, rfl, hfj, rfl, Or.inl ⟨by assumption, rfl⟩⟩
    · refine lv_if_eq (tgt := 19) hx hb dX5_sell_12 (by decide) (fun c_129 => ?_) (fun c_129 => absurd c_129 (by decide))
      refine lv_iconst (v := 0) hx hb dX5_sell_19 (by decide) ?_
      refine lv_istore (lv' := [(4, .int 0), (0, .ref (ad (0, 0, 0))), (1, .int (nI cxj)), (2, .int f), (3, .int its)]) hx hb dX5_sell_20 hl (by decide) rfl (fun ls hl_130 => ?_)
      refine lv_iload_n hx hb dX5_sell_22 rfl (lv_at hl_130 4 rfl) ?_
      refine lv_iconst (v := 1) hx hb dX5_sell_23 (by decide) ?_
      refine lv_ldc (v := 1000000000) hx hb hown (hts (.constant RX5 135 1000000000) (by decide +kernel)) dX5_sell_24 ?_
      refine zk_ci (zk_rS (As := [.int its, .int 1, .int 1000000000]) (rest := []) (n := 3) C (cM_isIn l D cA A g _ its 1 1000000000) hH_8 hS_9 gX5_sell_X5_isIn rfl rfl (by decide +kernel) ⟨Nat.le_of_ble_eq_true rfl, Nat.le_of_ble_eq_true rfl⟩ hl_130 rfl (Nat.le_of_ble_eq_true rfl) dX5_sell_26 ⟨Nat.le_of_ble_eq_true rfl, Nat.le_of_ble_eq_true rfl⟩) hS_9 (fun r_131 w_132 H locs hP hH_133 hS_134 => ?_)
      obtain ⟨rfl, (⟨rfl, h_r_131⟩ | ⟨rfl, h_r_131⟩)⟩ := hP
      · refine lv_istore (lv' := [(5, .int 1), (4, .int 0), (0, .ref (ad (0, 0, 0))), (1, .int (nI cxj)), (2, .int f), (3, .int its)]) hx hb dX5_sell_29 hl_130 (by decide) rfl (fun ls hl_135 => ?_)
        refine lv_iload hx hb dX5_sell_31 (lv_at hl_135 1 rfl) ?_
        refine lv_if_eq (tgt := 46) hx hb dX5_sell_33 (by decide) (fun c_136 => ?_) (fun c_136 => absurd c_136 (by decide))
        refine lv_lconst (v := 0) hx hb dX5_sell_46 (by decide) ?_
        refine lv_lstore (lv' := [(6, .long 0), (5, .int 1), (4, .int 0), (0, .ref (ad (0, 0, 0))), (1, .int (nI cxj)), (2, .int f), (3, .int its)]) hx hb dX5_sell_47 hl_135 (by decide) rfl (fun ls hl_137 => ?_)
        refine lv_iload hx hb dX5_sell_49 (lv_at hl_137 2 rfl) ?_
        refine lv_if_eq (tgt := 100) hx hb dX5_sell_51 (by decide) (fun c_138 => ?_) (fun c_138 => absurd c_138 (by decide))
        refine lv_iconst (v := 0) hx hb dX5_sell_100 (by decide) ?_
        refine lv_istore (lv' := [(8, .int 0), (6, .long 0), (5, .int 1), (4, .int 0), (0, .ref (ad (0, 0, 0))), (1, .int (nI cxj)), (2, .int f), (3, .int its)]) hx hb dX5_sell_101 hl_137 (by decide) rfl (fun ls hl_139 => ?_)
        refine lv_aload_n hx hb dX5_sell_103 rfl (lv_at hl_139 4 rfl) ?_
        refine lv_iload hx hb dX5_sell_104 (lv_at hl_139 3 rfl) ?_
        refine lv_if_ne (tgt := 113) hx hb dX5_sell_106 (by decide) (fun c_140 => absurd c_140 (by decide)) (fun c_140 => ?_)
        refine lv_iconst (v := 1) hx hb dX5_sell_109 (by decide) ?_
        refine lv_goto (tgt := 132) hx hb dX5_sell_110 (by decide) ?_
        refine zk_ci (zk_rV (As := [.int 1]) (rest := []) (n := 1) (k := (0, 0, 0)) C (cM_fails l D cA A g ad dy nc nt nl th mo I L 1) hH_133 hS_134 mL_o rfl rfl gX5_sell_X5_fails rfl rfl (by decide +kernel) ⟨Nat.le_of_ble_eq_true rfl, Nat.le_of_ble_eq_true rfl⟩ hl_139 rfl (Nat.le_of_ble_eq_true rfl) dX5_sell_132 ⟨Nat.le_of_ble_eq_true rfl, Nat.le_of_ble_eq_true rfl⟩) hS_134 (fun r_141 w_142 H locs hP hH_143 hS_144 => ?_)
        obtain ⟨rfl, rfl⟩ := hP
        refine lv_if_eq (tgt := 140) hx hb dX5_sell_135 (by decide) (fun c_145 => absurd c_145 (by decide)) (fun c_145 => ?_)
        refine lv_iconst (v := 0) hx hb dX5_sell_138 (by decide) ?_
        refine zr_iret C hr ?_ hH_143 hS_144 (Nat.le_of_ble_eq_true rfl) (Nat.le_of_ble_eq_true rfl) dX5_sell_139
        exact Or.inl ⟨fun z => by first | exact absurd z.1 (by assumption) | exact absurd z.2 (by assumption), rfl⟩
      · refine lv_istore (lv' := [(5, .int 0), (4, .int 0), (0, .ref (ad (0, 0, 0))), (1, .int (nI cxj)), (2, .int f), (3, .int its)]) hx hb dX5_sell_29 hl_130 (by decide) rfl (fun ls hl_146 => ?_)
        refine lv_iload hx hb dX5_sell_31 (lv_at hl_146 1 rfl) ?_
        refine lv_if_eq (tgt := 46) hx hb dX5_sell_33 (by decide) (fun c_147 => ?_) (fun c_147 => absurd c_147 (by decide))
        refine lv_lconst (v := 0) hx hb dX5_sell_46 (by decide) ?_
        refine lv_lstore (lv' := [(6, .long 0), (5, .int 0), (4, .int 0), (0, .ref (ad (0, 0, 0))), (1, .int (nI cxj)), (2, .int f), (3, .int its)]) hx hb dX5_sell_47 hl_146 (by decide) rfl (fun ls hl_148 => ?_)
        refine lv_iload hx hb dX5_sell_49 (lv_at hl_148 2 rfl) ?_
        refine lv_if_eq (tgt := 100) hx hb dX5_sell_51 (by decide) (fun c_149 => ?_) (fun c_149 => absurd c_149 (by decide))
        refine lv_iconst (v := 0) hx hb dX5_sell_100 (by decide) ?_
        refine lv_istore (lv' := [(8, .int 0), (6, .long 0), (5, .int 0), (4, .int 0), (0, .ref (ad (0, 0, 0))), (1, .int (nI cxj)), (2, .int f), (3, .int its)]) hx hb dX5_sell_101 hl_148 (by decide) rfl (fun ls hl_150 => ?_)
        refine lv_aload_n hx hb dX5_sell_103 rfl (lv_at hl_150 4 rfl) ?_
        refine lv_iload hx hb dX5_sell_104 (lv_at hl_150 3 rfl) ?_
        refine lv_if_ne (tgt := 113) hx hb dX5_sell_106 (by decide) (fun c_151 => absurd c_151 (by decide)) (fun c_151 => ?_)
        refine lv_iconst (v := 1) hx hb dX5_sell_109 (by decide) ?_
        refine lv_goto (tgt := 132) hx hb dX5_sell_110 (by decide) ?_
        refine zk_ci (zk_rV (As := [.int 1]) (rest := []) (n := 1) (k := (0, 0, 0)) C (cM_fails l D cA A g ad dy nc nt nl th mo I L 1) hH_133 hS_134 mL_o rfl rfl gX5_sell_X5_fails rfl rfl (by decide +kernel) ⟨Nat.le_of_ble_eq_true rfl, Nat.le_of_ble_eq_true rfl⟩ hl_150 rfl (Nat.le_of_ble_eq_true rfl) dX5_sell_132 ⟨Nat.le_of_ble_eq_true rfl, Nat.le_of_ble_eq_true rfl⟩) hS_134 (fun r_152 w_153 H locs hP hH_154 hS_155 => ?_)
        obtain ⟨rfl, rfl⟩ := hP
        refine lv_if_eq (tgt := 140) hx hb dX5_sell_135 (by decide) (fun c_156 => absurd c_156 (by decide)) (fun c_156 => ?_)
        refine lv_iconst (v := 0) hx hb dX5_sell_138 (by decide) ?_
        refine zr_iret C hr ?_ hH_154 hS_155 (Nat.le_of_ble_eq_true rfl) (Nat.le_of_ble_eq_true rfl) dX5_sell_139
        exact Or.inl ⟨fun z => by first | exact absurd z.1 (by assumption) | exact absurd z.2 (by assumption), rfl⟩
  · refine lv_if_eq (tgt := 19) hx hb dX5_sell_5 (by decide) (fun c_157 => ?_) (fun c_157 => absurd c_157 (by decide))
    refine lv_iconst (v := 0) hx hb dX5_sell_19 (by decide) ?_
    refine lv_istore (lv' := [(4, .int 0), (0, .ref (ad (0, 0, 0))), (1, .int cx), (2, .int f), (3, .int its)]) hx hb dX5_sell_20 hl (by decide) rfl (fun ls hl_158 => ?_)
    refine lv_iload_n hx hb dX5_sell_22 rfl (lv_at hl_158 4 rfl) ?_
    refine lv_iconst (v := 1) hx hb dX5_sell_23 (by decide) ?_
    refine lv_ldc (v := 1000000000) hx hb hown (hts (.constant RX5 135 1000000000) (by decide +kernel)) dX5_sell_24 ?_
    refine zk_ci (zk_rS (As := [.int its, .int 1, .int 1000000000]) (rest := []) (n := 3) C (cM_isIn l D cA A g _ its 1 1000000000) hH_3 hS_4 gX5_sell_X5_isIn rfl rfl (by decide +kernel) ⟨Nat.le_of_ble_eq_true rfl, Nat.le_of_ble_eq_true rfl⟩ hl_158 rfl (Nat.le_of_ble_eq_true rfl) dX5_sell_26 ⟨Nat.le_of_ble_eq_true rfl, Nat.le_of_ble_eq_true rfl⟩) hS_4 (fun r_159 w_160 H locs hP hH_161 hS_162 => ?_)
    obtain ⟨rfl, (⟨rfl, h_r_159⟩ | ⟨rfl, h_r_159⟩)⟩ := hP
    · refine lv_istore (lv' := [(5, .int 1), (4, .int 0), (0, .ref (ad (0, 0, 0))), (1, .int cx), (2, .int f), (3, .int its)]) hx hb dX5_sell_29 hl_158 (by decide) rfl (fun ls hl_163 => ?_)
      refine lv_iload hx hb dX5_sell_31 (lv_at hl_163 1 rfl) ?_
      refine lv_if_eq (tgt := 46) hx hb dX5_sell_33 (by decide) (fun c_164 => ?_) (fun c_164 => absurd c_164 (by decide))
      refine lv_lconst (v := 0) hx hb dX5_sell_46 (by decide) ?_
      refine lv_lstore (lv' := [(6, .long 0), (5, .int 1), (4, .int 0), (0, .ref (ad (0, 0, 0))), (1, .int cx), (2, .int f), (3, .int its)]) hx hb dX5_sell_47 hl_163 (by decide) rfl (fun ls hl_165 => ?_)
      refine lv_iload hx hb dX5_sell_49 (lv_at hl_165 2 rfl) ?_
      refine lv_if_eq (tgt := 100) hx hb dX5_sell_51 (by decide) (fun c_166 => ?_) (fun c_166 => absurd c_166 (by decide))
      refine lv_iconst (v := 0) hx hb dX5_sell_100 (by decide) ?_
      refine lv_istore (lv' := [(8, .int 0), (6, .long 0), (5, .int 1), (4, .int 0), (0, .ref (ad (0, 0, 0))), (1, .int cx), (2, .int f), (3, .int its)]) hx hb dX5_sell_101 hl_165 (by decide) rfl (fun ls hl_167 => ?_)
      refine lv_aload_n hx hb dX5_sell_103 rfl (lv_at hl_167 4 rfl) ?_
      refine lv_iload hx hb dX5_sell_104 (lv_at hl_167 3 rfl) ?_
      refine lv_if_ne (tgt := 113) hx hb dX5_sell_106 (by decide) (fun c_168 => absurd c_168 (by decide)) (fun c_168 => ?_)
      refine lv_iconst (v := 1) hx hb dX5_sell_109 (by decide) ?_
      refine lv_goto (tgt := 132) hx hb dX5_sell_110 (by decide) ?_
      refine zk_ci (zk_rV (As := [.int 1]) (rest := []) (n := 1) (k := (0, 0, 0)) C (cM_fails l D cA A g ad dy nc nt nl th mo I L 1) hH_161 hS_162 mL_o rfl rfl gX5_sell_X5_fails rfl rfl (by decide +kernel) ⟨Nat.le_of_ble_eq_true rfl, Nat.le_of_ble_eq_true rfl⟩ hl_167 rfl (Nat.le_of_ble_eq_true rfl) dX5_sell_132 ⟨Nat.le_of_ble_eq_true rfl, Nat.le_of_ble_eq_true rfl⟩) hS_162 (fun r_169 w_170 H locs hP hH_171 hS_172 => ?_)
      obtain ⟨rfl, rfl⟩ := hP
      refine lv_if_eq (tgt := 140) hx hb dX5_sell_135 (by decide) (fun c_173 => absurd c_173 (by decide)) (fun c_173 => ?_)
      refine lv_iconst (v := 0) hx hb dX5_sell_138 (by decide) ?_
      refine zr_iret C hr ?_ hH_171 hS_172 (Nat.le_of_ble_eq_true rfl) (Nat.le_of_ble_eq_true rfl) dX5_sell_139
      exact Or.inl ⟨fun z => by first | exact absurd z.1 (by assumption) | exact absurd z.2 (by assumption), rfl⟩
    · refine lv_istore (lv' := [(5, .int 0), (4, .int 0), (0, .ref (ad (0, 0, 0))), (1, .int cx), (2, .int f), (3, .int its)]) hx hb dX5_sell_29 hl_158 (by decide) rfl (fun ls hl_174 => ?_)
      refine lv_iload hx hb dX5_sell_31 (lv_at hl_174 1 rfl) ?_
      refine lv_if_eq (tgt := 46) hx hb dX5_sell_33 (by decide) (fun c_175 => ?_) (fun c_175 => absurd c_175 (by decide))
      refine lv_lconst (v := 0) hx hb dX5_sell_46 (by decide) ?_
      refine lv_lstore (lv' := [(6, .long 0), (5, .int 0), (4, .int 0), (0, .ref (ad (0, 0, 0))), (1, .int cx), (2, .int f), (3, .int its)]) hx hb dX5_sell_47 hl_174 (by decide) rfl (fun ls hl_176 => ?_)
      refine lv_iload hx hb dX5_sell_49 (lv_at hl_176 2 rfl) ?_
      refine lv_if_eq (tgt := 100) hx hb dX5_sell_51 (by decide) (fun c_177 => ?_) (fun c_177 => absurd c_177 (by decide))
      refine lv_iconst (v := 0) hx hb dX5_sell_100 (by decide) ?_
      refine lv_istore (lv' := [(8, .int 0), (6, .long 0), (5, .int 0), (4, .int 0), (0, .ref (ad (0, 0, 0))), (1, .int cx), (2, .int f), (3, .int its)]) hx hb dX5_sell_101 hl_176 (by decide) rfl (fun ls hl_178 => ?_)
      refine lv_aload_n hx hb dX5_sell_103 rfl (lv_at hl_178 4 rfl) ?_
      refine lv_iload hx hb dX5_sell_104 (lv_at hl_178 3 rfl) ?_
      refine lv_if_ne (tgt := 113) hx hb dX5_sell_106 (by decide) (fun c_179 => absurd c_179 (by decide)) (fun c_179 => ?_)
      refine lv_iconst (v := 1) hx hb dX5_sell_109 (by decide) ?_
      refine lv_goto (tgt := 132) hx hb dX5_sell_110 (by decide) ?_
      refine zk_ci (zk_rV (As := [.int 1]) (rest := []) (n := 1) (k := (0, 0, 0)) C (cM_fails l D cA A g ad dy nc nt nl th mo I L 1) hH_161 hS_162 mL_o rfl rfl gX5_sell_X5_fails rfl rfl (by decide +kernel) ⟨Nat.le_of_ble_eq_true rfl, Nat.le_of_ble_eq_true rfl⟩ hl_178 rfl (Nat.le_of_ble_eq_true rfl) dX5_sell_132 ⟨Nat.le_of_ble_eq_true rfl, Nat.le_of_ble_eq_true rfl⟩) hS_162 (fun r_180 w_181 H locs hP hH_182 hS_183 => ?_)
      obtain ⟨rfl, rfl⟩ := hP
      refine lv_if_eq (tgt := 140) hx hb dX5_sell_135 (by decide) (fun c_184 => absurd c_184 (by decide)) (fun c_184 => ?_)
      refine lv_iconst (v := 0) hx hb dX5_sell_138 (by decide) ?_
      refine zr_iret C hr ?_ hH_182 hS_183 (Nat.le_of_ble_eq_true rfl) (Nat.le_of_ble_eq_true rfl) dX5_sell_139
      exact Or.inl ⟨fun z => by first | exact absurd z.1 (by assumption) | exact absurd z.2 (by assumption), rfl⟩
def rmM_sells : Room := { frames := 2, cells := 0, slots := 0, locals := 52 }
set_option maxHeartbeats 4000000 in
set_option maxRecDepth 100000 in
theorem cM_sells (l : Launch) (D : va_G) (cA : Nat → ClassId) (A : Nat → Prop) (g : Nat → Nat) (ad : zk_K → Nat) (dy nc nt nl : Nat) (th : Int32) (mo : Int64) (I : zIA) (L : zLA) (cc f : Nat) (due : Int64) (hc : cc < 12) (hf : f < 6) (hnt : nt < 120) (hpr : ∀ f, f < 6 → ¬ Int32.toInt64 (I 1 f) = 0) : zM l yX5_sells wsX5_sells rmM_sells D (zt cA) A g [.ref (ad (0, 0, 0)), .int (nI cc), .int (nI f), .long due] (mw cA ad dy nc nt nl th mo I L) (zQi (fun r w' => (sellNo I L cc f due ∧ 0 = r ∧ mw cA ad dy nc nt nl th mo I L = w') ∨ (¬ sellNo I L cc f due ∧ 1 = r ∧ mw cA ad dy nc (nt + 1) nl th (noteM I L f (-sellMany I L cc f due) (amountL I f (sellMany I L cc f due)) mo) (noteI I nt dy cc f) (noteL L nt cc f (-sellMany I L cc f due) (amountL I f (sellMany I L cc f due))) = w'))) := by
  refine zM_of (cc := cX5_sells) (maxL := 9) (ret := (some .int)) (own := RX5) (by decide +kernel) rfl (Nat.le_of_ble_eq_true rfl) rfl ?_
  intro p e s m below meth c C hr hnm H locs ls hH hS hl
  obtain ⟨⟨hx, hb, hml, hown, hts⟩, hG, hlk⟩ := id C
  have hl : lv_has ls 9 [(0, .ref (ad (0, 0, 0))), (1, .int (nI cc)), (2, .int (nI f)), (3, .long due)] := hl
  refine lv_aload_n hx hb dX5_sells_0 rfl (lv_at hl 0 rfl) ?_
  refine lv_iload_n hx hb dX5_sells_1 rfl (lv_at hl 1 rfl) ?_
  refine lv_iload_n hx hb dX5_sells_2 rfl (lv_at hl 2 rfl) ?_
  refine zk_cl (zk_rV (As := [.int (nI cc), .int (nI f)]) (rest := []) (n := 2) (k := (0, 0, 0)) C (cM_valueOf l D cA A g ad dy nc nt nl th mo I L cc f (by omega) (by omega)) hH hS mL_o rfl rfl gX5_sells_X5_valueOf rfl rfl (by decide +kernel) ⟨Nat.le_of_ble_eq_true rfl, Nat.le_of_ble_eq_true rfl⟩ hl rfl (Nat.le_of_ble_eq_true rfl) dX5_sells_3 ⟨Nat.le_of_ble_eq_true rfl, Nat.le_of_ble_eq_true rfl⟩) hS (fun r_1 w_2 H locs hP hH_3 hS_4 => ?_)
  obtain ⟨rfl, rfl⟩ := hP
  refine lv_lload_n hx hb dX5_sells_6 rfl (lv_at hl 3 rfl) ?_
  refine lv_lsub hx hb dX5_sells_7 ?_
  refine lv_lstore (lv' := [(5, .long ((valueL I L cc f) - due)), (0, .ref (ad (0, 0, 0))), (1, .int (nI cc)), (2, .int (nI f)), (3, .long due)]) hx hb dX5_sells_8 hl (by decide) rfl (fun ls hl_5 => ?_)
  refine lv_lload hx hb dX5_sells_10 (lv_at hl_5 0 rfl) ?_
  refine lv_lconst (v := 0) hx hb dX5_sells_12 (by decide) ?_
  refine zl_cmp_le (tgt := 27) hx hb dX5_sells_13 dX5_sells_14 (by decide) (fun c_6 => ?_) (fun c_6 => ?_)
  · refine lv_lconst (v := 0) hx hb dX5_sells_27 (by decide) ?_
    refine lv_lstore (lv' := [(7, .long 0), (5, .long ((valueL I L cc f) - due)), (0, .ref (ad (0, 0, 0))), (1, .int (nI cc)), (2, .int (nI f)), (3, .long due)]) hx hb dX5_sells_28 hl_5 (by decide) rfl (fun ls hl_7 => ?_)
    refine lv_lload hx hb dX5_sells_30 (lv_at hl_7 0 rfl) ?_
    refine lv_lconst (v := 0) hx hb dX5_sells_32 (by decide) ?_
    refine zl_cmp_eq (tgt := 49) hx hb dX5_sells_33 dX5_sells_34 (by decide) (fun c_8 => ?_) (fun c_8 => absurd c_8 (by decide))
    refine lv_iconst (v := 0) hx hb dX5_sells_49 (by decide) ?_
    refine zr_iret C hr ?_ hH_3 hS_4 (Nat.le_of_ble_eq_true rfl) (Nat.le_of_ble_eq_true rfl) dX5_sells_50
    exact Or.inl ⟨Or.inl (if_neg c_6), rfl, rfl⟩
  · refine lv_aload_n hx hb dX5_sells_17 rfl (lv_at hl_5 1 rfl) ?_
    refine lv_iload_n hx hb dX5_sells_18 rfl (lv_at hl_5 3 rfl) ?_
    refine lv_lload hx hb dX5_sells_19 (lv_at hl_5 0 rfl) ?_
    refine zk_cl (zk_rV (As := [.int (nI f), .long ((valueL I L cc f) - due)]) (rest := []) (n := 2) (k := (0, 0, 0)) C (cM_partsFor l D cA A g ad dy nc nt nl th mo I L f ((valueL I L cc f) - due) (by omega) hpr) hH_3 hS_4 mL_o rfl rfl gX5_sells_X5_partsFor rfl rfl (by decide +kernel) ⟨Nat.le_of_ble_eq_true rfl, Nat.le_of_ble_eq_true rfl⟩ hl_5 rfl (Nat.le_of_ble_eq_true rfl) dX5_sells_21 ⟨Nat.le_of_ble_eq_true rfl, Nat.le_of_ble_eq_true rfl⟩) hS_4 (fun r_9 w_10 H locs hP hH_11 hS_12 => ?_)
    obtain ⟨rfl, rfl⟩ := hP
    refine lv_goto (tgt := 28) hx hb dX5_sells_24 (by decide) ?_
    refine lv_lstore (lv' := [(7, .long (partsL I f ((valueL I L cc f) - due))), (5, .long ((valueL I L cc f) - due)), (0, .ref (ad (0, 0, 0))), (1, .int (nI cc)), (2, .int (nI f)), (3, .long due)]) hx hb dX5_sells_28 hl_5 (by decide) rfl (fun ls hl_13 => ?_)
    refine lv_lload hx hb dX5_sells_30 (lv_at hl_13 0 rfl) ?_
    refine lv_lconst (v := 0) hx hb dX5_sells_32 (by decide) ?_
    refine zl_cmp_eq (tgt := 49) hx hb dX5_sells_33 dX5_sells_34 (by decide) (fun c_14 => ?_) (fun c_14 => ?_)
    · refine lv_iconst (v := 0) hx hb dX5_sells_49 (by decide) ?_
      refine zr_iret C hr ?_ hH_11 hS_12 (Nat.le_of_ble_eq_true rfl) (Nat.le_of_ble_eq_true rfl) dX5_sells_50
      exact Or.inl ⟨by unfold sellNo sellMany; rw [if_pos c_6]; first | exact Or.inl (by assumption) | exact Or.inr (by assumption), rfl, rfl⟩
    · refine lv_aload_n hx hb dX5_sells_37 rfl (lv_at hl_13 2 rfl) ?_
      refine lv_iload_n hx hb dX5_sells_38 rfl (lv_at hl_13 4 rfl) ?_
      refine lv_lload hx hb dX5_sells_39 (lv_at hl_13 0 rfl) ?_
      refine zk_cl (zk_rV (As := [.int (nI f), .long (partsL I f ((valueL I L cc f) - due))]) (rest := []) (n := 2) (k := (0, 0, 0)) C (cM_amountOf l D cA A g ad dy nc nt nl th mo I L f (partsL I f ((valueL I L cc f) - due)) (by omega)) hH_11 hS_12 mL_o rfl rfl gX5_sells_X5_amountOf rfl rfl (by decide +kernel) ⟨Nat.le_of_ble_eq_true rfl, Nat.le_of_ble_eq_true rfl⟩ hl_13 rfl (Nat.le_of_ble_eq_true rfl) dX5_sells_41 ⟨Nat.le_of_ble_eq_true rfl, Nat.le_of_ble_eq_true rfl⟩) hS_12 (fun r_15 w_16 H locs hP hH_17 hS_18 => ?_)
      obtain ⟨rfl, rfl⟩ := hP
      refine lv_lconst (v := 0) hx hb dX5_sells_44 (by decide) ?_
      refine zl_cmp_ne (tgt := 51) hx hb dX5_sells_45 dX5_sells_46 (by decide) (fun c_19 => ?_) (fun c_19 => ?_)
      · refine lv_aload_n hx hb dX5_sells_51 rfl (lv_at hl_13 2 rfl) ?_
        refine lv_iload_n hx hb dX5_sells_52 rfl (lv_at hl_13 3 rfl) ?_
        refine lv_iload_n hx hb dX5_sells_53 rfl (lv_at hl_13 4 rfl) ?_
        refine lv_lload hx hb dX5_sells_54 (lv_at hl_13 0 rfl) ?_
        refine lv_lneg hx hb dX5_sells_56 ?_
        refine lv_aload_n hx hb dX5_sells_57 rfl (lv_at hl_13 2 rfl) ?_
        refine lv_iload_n hx hb dX5_sells_58 rfl (lv_at hl_13 4 rfl) ?_
        refine lv_lload hx hb dX5_sells_59 (lv_at hl_13 0 rfl) ?_
        refine zk_cl (zk_rV (As := [.int (nI f), .long (partsL I f ((valueL I L cc f) - due))]) (rest := [.long (-(partsL I f ((valueL I L cc f) - due))), .int (nI f), .int (nI cc), .ref (ad (0, 0, 0))]) (n := 2) (k := (0, 0, 0)) C (cM_amountOf l D cA A g ad dy nc nt nl th mo I L f (partsL I f ((valueL I L cc f) - due)) (by omega)) hH_17 hS_18 mL_o rfl rfl gX5_sells_X5_amountOf rfl rfl (by decide +kernel) ⟨Nat.le_of_ble_eq_true rfl, Nat.le_of_ble_eq_true rfl⟩ hl_13 rfl (Nat.le_of_ble_eq_true rfl) dX5_sells_61 ⟨Nat.le_of_ble_eq_true rfl, Nat.le_of_ble_eq_true rfl⟩) hS_18 (fun r_20 w_21 H locs hP hH_22 hS_23 => ?_)
        obtain ⟨rfl, rfl⟩ := hP
        refine zk_ci (zk_rV (As := [.int (nI cc), .int (nI f), .long (-(partsL I f ((valueL I L cc f) - due))), .long (amountL I f (partsL I f ((valueL I L cc f) - due)))]) (rest := []) (n := 4) (k := (0, 0, 0)) C (cM_notes l D cA A g ad dy nc nt nl th mo I L cc f (-(partsL I f ((valueL I L cc f) - due))) (amountL I f (partsL I f ((valueL I L cc f) - due))) (by omega) (by omega) (by omega)) hH_22 hS_23 mL_o rfl rfl gX5_sells_X5_notes rfl rfl (by decide +kernel) ⟨Nat.le_of_ble_eq_true rfl, Nat.le_of_ble_eq_true rfl⟩ hl_13 rfl (Nat.le_of_ble_eq_true rfl) dX5_sells_64 ⟨Nat.le_of_ble_eq_true rfl, Nat.le_of_ble_eq_true rfl⟩) hS_23 (fun r_24 w_25 H locs hP hH_26 hS_27 => ?_)
        obtain ⟨rfl, rfl⟩ := hP
        refine lv_pop hx hb dX5_sells_67 rfl ?_
        refine lv_iconst (v := 1) hx hb dX5_sells_68 (by decide) ?_
        refine zr_iret C hr ?_ hH_26 hS_27 (Nat.le_of_ble_eq_true rfl) (Nat.le_of_ble_eq_true rfl) dX5_sells_69
        have e1 : sellMany I L cc f due = partsL I f (valueL I L cc f - due) := if_pos c_6
        exact Or.inr ⟨by unfold sellNo; rw [e1]; exact fun z => z.elim (by assumption) (by assumption), rfl, by rw [e1]⟩
      · refine lv_iconst (v := 0) hx hb dX5_sells_49 (by decide) ?_
        refine zr_iret C hr ?_ hH_17 hS_18 (Nat.le_of_ble_eq_true rfl) (Nat.le_of_ble_eq_true rfl) dX5_sells_50
        exact Or.inl ⟨by unfold sellNo sellMany; rw [if_pos c_6]; first | exact Or.inl (by assumption) | exact Or.inr (by assumption), rfl, rfl⟩
def rmM_buys : Room := { frames := 2, cells := 0, slots := 0, locals := 52 }
set_option maxHeartbeats 4000000 in
set_option maxRecDepth 100000 in
theorem cM_buys (l : Launch) (D : va_G) (cA : Nat → ClassId) (A : Nat → Prop) (g : Nat → Nat) (ad : zk_K → Nat) (dy nc nt nl : Nat) (th : Int32) (mo : Int64) (I : zIA) (L : zLA) (cc f : Nat) (due : Int64) (hc : cc < 12) (hf : f < 6) (hnt : nt < 120) (hpr : ∀ f, f < 6 → ¬ Int32.toInt64 (I 1 f) = 0) : zM l yX5_buys wsX5_buys rmM_buys D (zt cA) A g [.ref (ad (0, 0, 0)), .int (nI cc), .int (nI f), .long due] (mw cA ad dy nc nt nl th mo I L) (zQi (fun r w' => (buyNo I L cc f due ∧ 0 = r ∧ mw cA ad dy nc nt nl th mo I L = w') ∨ (¬ buyNo I L cc f due ∧ 1 = r ∧ mw cA ad dy nc (nt + 1) nl th (noteM I L f (partsL I f (buyIts I L cc f due)) (buyIts I L cc f due) mo) (noteI I nt dy cc f) (noteL L nt cc f (partsL I f (buyIts I L cc f due)) (buyIts I L cc f due)) = w'))) := by
  refine zM_of (cc := cX5_buys) (maxL := 11) (ret := (some .int)) (own := RX5) (by decide +kernel) rfl (Nat.le_of_ble_eq_true rfl) rfl ?_
  intro p e s m below meth c C hr hnm H locs ls hH hS hl
  obtain ⟨⟨hx, hb, hml, hown, hts⟩, hG, hlk⟩ := id C
  have hin : ∀ w ∈ wsX50, w ∈ wsX5_buys := by decide +kernel
  have hl : lv_has ls 11 [(0, .ref (ad (0, 0, 0))), (1, .int (nI cc)), (2, .int (nI f)), (3, .long due)] := hl
  refine lv_lload_n hx hb dX5_buys_0 rfl (lv_at hl 3 rfl) ?_
  refine lv_aload_n hx hb dX5_buys_1 rfl (lv_at hl 0 rfl) ?_
  refine lv_iload_n hx hb dX5_buys_2 rfl (lv_at hl 1 rfl) ?_
  refine lv_iload_n hx hb dX5_buys_3 rfl (lv_at hl 2 rfl) ?_
  refine zk_cl (zk_rV (As := [.int (nI cc), .int (nI f)]) (rest := [.long due]) (n := 2) (k := (0, 0, 0)) C (cM_valueOf l D cA A g ad dy nc nt nl th mo I L cc f (by omega) (by omega)) hH hS mL_o rfl rfl gX5_buys_X5_valueOf rfl rfl (by decide +kernel) ⟨Nat.le_of_ble_eq_true rfl, Nat.le_of_ble_eq_true rfl⟩ hl rfl (Nat.le_of_ble_eq_true rfl) dX5_buys_4 ⟨Nat.le_of_ble_eq_true rfl, Nat.le_of_ble_eq_true rfl⟩) hS (fun r_1 w_2 H locs hP hH_3 hS_4 => ?_)
  obtain ⟨rfl, rfl⟩ := hP
  refine lv_lsub hx hb dX5_buys_7 ?_
  refine lv_lstore (lv' := [(5, .long (due - (valueL I L cc f))), (0, .ref (ad (0, 0, 0))), (1, .int (nI cc)), (2, .int (nI f)), (3, .long due)]) hx hb dX5_buys_8 hl (by decide) rfl (fun ls hl_5 => ?_)
  refine lv_aload_n hx hb dX5_buys_10 rfl (lv_at hl_5 1 rfl) ?_
  refine zm_get C hin hH_3 6 (by decide) (by decide +kernel) rfl dX5_buys_11 ?_
  refine lv_iload_n hx hb dX5_buys_14 rfl (lv_at hl_5 2 rfl) ?_
  refine zm_lld C hH_3 6 rfl (j := cc) rfl (show cc < 12 by omega) dX5_buys_15 ?_
  refine lv_aload_n hx hb dX5_buys_16 rfl (lv_at hl_5 1 rfl) ?_
  refine zm_get C hin hH_3 6 (by decide) (by decide +kernel) rfl dX5_buys_17 ?_
  refine lv_iload_n hx hb dX5_buys_20 rfl (lv_at hl_5 2 rfl) ?_
  refine zm_lld C hH_3 6 rfl (j := cc) rfl (show cc < 12 by omega) dX5_buys_21 ?_
  refine lv_ldc2 (v := 100) hx hb hown (hts (.constantLong RX5 95 100) (by decide +kernel)) dX5_buys_22 ?_
  refine lv_ldiv hx hb dX5_buys_25 (by decide) ?_
  refine lv_lsub hx hb dX5_buys_26 ?_
  refine lv_lstore (lv' := [(7, .long ((L 6 cc) - ((L 6 cc) / 100))), (5, .long (due - (valueL I L cc f))), (0, .ref (ad (0, 0, 0))), (1, .int (nI cc)), (2, .int (nI f)), (3, .long due)]) hx hb dX5_buys_27 hl_5 (by decide) rfl (fun ls hl_6 => ?_)
  refine lv_lload hx hb dX5_buys_29 (lv_at hl_6 1 rfl) ?_
  refine lv_lload hx hb dX5_buys_31 (lv_at hl_6 0 rfl) ?_
  refine zl_cmp_ge (tgt := 42) hx hb dX5_buys_33 dX5_buys_34 (by decide) (fun c_7 => ?_) (fun c_7 => ?_)
  · refine lv_lload hx hb dX5_buys_42 (lv_at hl_6 0 rfl) ?_
    refine lv_lstore (lv' := [(9, .long ((L 6 cc) - ((L 6 cc) / 100))), (7, .long ((L 6 cc) - ((L 6 cc) / 100))), (5, .long (due - (valueL I L cc f))), (0, .ref (ad (0, 0, 0))), (1, .int (nI cc)), (2, .int (nI f)), (3, .long due)]) hx hb dX5_buys_44 hl_6 (by decide) rfl (fun ls hl_8 => ?_)
    refine lv_lload hx hb dX5_buys_46 (lv_at hl_8 0 rfl) ?_
    refine lv_lconst (v := 0) hx hb dX5_buys_48 (by decide) ?_
    refine zl_cmp_le (tgt := 65) hx hb dX5_buys_49 dX5_buys_50 (by decide) (fun c_9 => ?_) (fun c_9 => ?_)
    · refine lv_iconst (v := 0) hx hb dX5_buys_65 (by decide) ?_
      refine zr_iret C hr ?_ hH_3 hS_4 (Nat.le_of_ble_eq_true rfl) (Nat.le_of_ble_eq_true rfl) dX5_buys_66
      have e1 : buyIts I L cc f due = L 6 cc - L 6 cc / 100 := if_neg c_7
      exact Or.inl ⟨by unfold buyNo; rw [e1]; first | exact Or.inl (by assumption) | exact Or.inr (by assumption), rfl, rfl⟩
    · refine lv_aload_n hx hb dX5_buys_53 rfl (lv_at hl_8 3 rfl) ?_
      refine lv_iload_n hx hb dX5_buys_54 rfl (lv_at hl_8 5 rfl) ?_
      refine lv_lload hx hb dX5_buys_55 (lv_at hl_8 0 rfl) ?_
      refine zk_cl (zk_rV (As := [.int (nI f), .long ((L 6 cc) - ((L 6 cc) / 100))]) (rest := []) (n := 2) (k := (0, 0, 0)) C (cM_partsFor l D cA A g ad dy nc nt nl th mo I L f ((L 6 cc) - ((L 6 cc) / 100)) (by omega) hpr) hH_3 hS_4 mL_o rfl rfl gX5_buys_X5_partsFor rfl rfl (by decide +kernel) ⟨Nat.le_of_ble_eq_true rfl, Nat.le_of_ble_eq_true rfl⟩ hl_8 rfl (Nat.le_of_ble_eq_true rfl) dX5_buys_57 ⟨Nat.le_of_ble_eq_true rfl, Nat.le_of_ble_eq_true rfl⟩) hS_4 (fun r_10 w_11 H locs hP hH_12 hS_13 => ?_)
      obtain ⟨rfl, rfl⟩ := hP
      refine lv_lconst (v := 0) hx hb dX5_buys_60 (by decide) ?_
      refine zl_cmp_ne (tgt := 67) hx hb dX5_buys_61 dX5_buys_62 (by decide) (fun c_14 => ?_) (fun c_14 => ?_)
      · refine lv_aload_n hx hb dX5_buys_67 rfl (lv_at hl_8 3 rfl) ?_
        refine lv_iload_n hx hb dX5_buys_68 rfl (lv_at hl_8 4 rfl) ?_
        refine lv_iload_n hx hb dX5_buys_69 rfl (lv_at hl_8 5 rfl) ?_
        refine lv_aload_n hx hb dX5_buys_70 rfl (lv_at hl_8 3 rfl) ?_
        refine lv_iload_n hx hb dX5_buys_71 rfl (lv_at hl_8 5 rfl) ?_
        refine lv_lload hx hb dX5_buys_72 (lv_at hl_8 0 rfl) ?_
        refine zk_cl (zk_rV (As := [.int (nI f), .long ((L 6 cc) - ((L 6 cc) / 100))]) (rest := [.int (nI f), .int (nI cc), .ref (ad (0, 0, 0))]) (n := 2) (k := (0, 0, 0)) C (cM_partsFor l D cA A g ad dy nc nt nl th mo I L f ((L 6 cc) - ((L 6 cc) / 100)) (by omega) hpr) hH_12 hS_13 mL_o rfl rfl gX5_buys_X5_partsFor rfl rfl (by decide +kernel) ⟨Nat.le_of_ble_eq_true rfl, Nat.le_of_ble_eq_true rfl⟩ hl_8 rfl (Nat.le_of_ble_eq_true rfl) dX5_buys_74 ⟨Nat.le_of_ble_eq_true rfl, Nat.le_of_ble_eq_true rfl⟩) hS_13 (fun r_15 w_16 H locs hP hH_17 hS_18 => ?_)
        obtain ⟨rfl, rfl⟩ := hP
        refine lv_lload hx hb dX5_buys_77 (lv_at hl_8 0 rfl) ?_
        refine zk_ci (zk_rV (As := [.int (nI cc), .int (nI f), .long (partsL I f ((L 6 cc) - ((L 6 cc) / 100))), .long ((L 6 cc) - ((L 6 cc) / 100))]) (rest := []) (n := 4) (k := (0, 0, 0)) C (cM_notes l D cA A g ad dy nc nt nl th mo I L cc f (partsL I f ((L 6 cc) - ((L 6 cc) / 100))) ((L 6 cc) - ((L 6 cc) / 100)) (by omega) (by omega) (by omega)) hH_17 hS_18 mL_o rfl rfl gX5_buys_X5_notes rfl rfl (by decide +kernel) ⟨Nat.le_of_ble_eq_true rfl, Nat.le_of_ble_eq_true rfl⟩ hl_8 rfl (Nat.le_of_ble_eq_true rfl) dX5_buys_79 ⟨Nat.le_of_ble_eq_true rfl, Nat.le_of_ble_eq_true rfl⟩) hS_18 (fun r_19 w_20 H locs hP hH_21 hS_22 => ?_)
        obtain ⟨rfl, rfl⟩ := hP
        refine lv_pop hx hb dX5_buys_82 rfl ?_
        refine lv_iconst (v := 1) hx hb dX5_buys_83 (by decide) ?_
        refine zr_iret C hr ?_ hH_21 hS_22 (Nat.le_of_ble_eq_true rfl) (Nat.le_of_ble_eq_true rfl) dX5_buys_84
        have e1 : buyIts I L cc f due = L 6 cc - L 6 cc / 100 := if_neg c_7
        exact Or.inr ⟨by unfold buyNo; rw [e1]; exact fun z => z.elim (fun q => q (by assumption)) (by assumption), rfl, by rw [e1]⟩
      · refine lv_iconst (v := 0) hx hb dX5_buys_65 (by decide) ?_
        refine zr_iret C hr ?_ hH_12 hS_13 (Nat.le_of_ble_eq_true rfl) (Nat.le_of_ble_eq_true rfl) dX5_buys_66
        have e1 : buyIts I L cc f due = L 6 cc - L 6 cc / 100 := if_neg c_7
        exact Or.inl ⟨by unfold buyNo; rw [e1]; first | exact Or.inl (by assumption) | exact Or.inr (by assumption), rfl, rfl⟩
  · refine lv_lload hx hb dX5_buys_37 (lv_at hl_6 1 rfl) ?_
    refine lv_goto (tgt := 44) hx hb dX5_buys_39 (by decide) ?_
    refine lv_lstore (lv' := [(9, .long (due - (valueL I L cc f))), (7, .long ((L 6 cc) - ((L 6 cc) / 100))), (5, .long (due - (valueL I L cc f))), (0, .ref (ad (0, 0, 0))), (1, .int (nI cc)), (2, .int (nI f)), (3, .long due)]) hx hb dX5_buys_44 hl_6 (by decide) rfl (fun ls hl_23 => ?_)
    refine lv_lload hx hb dX5_buys_46 (lv_at hl_23 0 rfl) ?_
    refine lv_lconst (v := 0) hx hb dX5_buys_48 (by decide) ?_
    refine zl_cmp_le (tgt := 65) hx hb dX5_buys_49 dX5_buys_50 (by decide) (fun c_24 => ?_) (fun c_24 => ?_)
    · refine lv_iconst (v := 0) hx hb dX5_buys_65 (by decide) ?_
      refine zr_iret C hr ?_ hH_3 hS_4 (Nat.le_of_ble_eq_true rfl) (Nat.le_of_ble_eq_true rfl) dX5_buys_66
      have e1 : buyIts I L cc f due = due - valueL I L cc f := if_pos c_7
      exact Or.inl ⟨by unfold buyNo; rw [e1]; first | exact Or.inl (by assumption) | exact Or.inr (by assumption), rfl, rfl⟩
    · refine lv_aload_n hx hb dX5_buys_53 rfl (lv_at hl_23 3 rfl) ?_
      refine lv_iload_n hx hb dX5_buys_54 rfl (lv_at hl_23 5 rfl) ?_
      refine lv_lload hx hb dX5_buys_55 (lv_at hl_23 0 rfl) ?_
      refine zk_cl (zk_rV (As := [.int (nI f), .long (due - (valueL I L cc f))]) (rest := []) (n := 2) (k := (0, 0, 0)) C (cM_partsFor l D cA A g ad dy nc nt nl th mo I L f (due - (valueL I L cc f)) (by omega) hpr) hH_3 hS_4 mL_o rfl rfl gX5_buys_X5_partsFor rfl rfl (by decide +kernel) ⟨Nat.le_of_ble_eq_true rfl, Nat.le_of_ble_eq_true rfl⟩ hl_23 rfl (Nat.le_of_ble_eq_true rfl) dX5_buys_57 ⟨Nat.le_of_ble_eq_true rfl, Nat.le_of_ble_eq_true rfl⟩) hS_4 (fun r_25 w_26 H locs hP hH_27 hS_28 => ?_)
      obtain ⟨rfl, rfl⟩ := hP
      refine lv_lconst (v := 0) hx hb dX5_buys_60 (by decide) ?_
      refine zl_cmp_ne (tgt := 67) hx hb dX5_buys_61 dX5_buys_62 (by decide) (fun c_29 => ?_) (fun c_29 => ?_)
      · refine lv_aload_n hx hb dX5_buys_67 rfl (lv_at hl_23 3 rfl) ?_
        refine lv_iload_n hx hb dX5_buys_68 rfl (lv_at hl_23 4 rfl) ?_
        refine lv_iload_n hx hb dX5_buys_69 rfl (lv_at hl_23 5 rfl) ?_
        refine lv_aload_n hx hb dX5_buys_70 rfl (lv_at hl_23 3 rfl) ?_
        refine lv_iload_n hx hb dX5_buys_71 rfl (lv_at hl_23 5 rfl) ?_
        refine lv_lload hx hb dX5_buys_72 (lv_at hl_23 0 rfl) ?_
        refine zk_cl (zk_rV (As := [.int (nI f), .long (due - (valueL I L cc f))]) (rest := [.int (nI f), .int (nI cc), .ref (ad (0, 0, 0))]) (n := 2) (k := (0, 0, 0)) C (cM_partsFor l D cA A g ad dy nc nt nl th mo I L f (due - (valueL I L cc f)) (by omega) hpr) hH_27 hS_28 mL_o rfl rfl gX5_buys_X5_partsFor rfl rfl (by decide +kernel) ⟨Nat.le_of_ble_eq_true rfl, Nat.le_of_ble_eq_true rfl⟩ hl_23 rfl (Nat.le_of_ble_eq_true rfl) dX5_buys_74 ⟨Nat.le_of_ble_eq_true rfl, Nat.le_of_ble_eq_true rfl⟩) hS_28 (fun r_30 w_31 H locs hP hH_32 hS_33 => ?_)
        obtain ⟨rfl, rfl⟩ := hP
        refine lv_lload hx hb dX5_buys_77 (lv_at hl_23 0 rfl) ?_
        refine zk_ci (zk_rV (As := [.int (nI cc), .int (nI f), .long (partsL I f (due - (valueL I L cc f))), .long (due - (valueL I L cc f))]) (rest := []) (n := 4) (k := (0, 0, 0)) C (cM_notes l D cA A g ad dy nc nt nl th mo I L cc f (partsL I f (due - (valueL I L cc f))) (due - (valueL I L cc f)) (by omega) (by omega) (by omega)) hH_32 hS_33 mL_o rfl rfl gX5_buys_X5_notes rfl rfl (by decide +kernel) ⟨Nat.le_of_ble_eq_true rfl, Nat.le_of_ble_eq_true rfl⟩ hl_23 rfl (Nat.le_of_ble_eq_true rfl) dX5_buys_79 ⟨Nat.le_of_ble_eq_true rfl, Nat.le_of_ble_eq_true rfl⟩) hS_33 (fun r_34 w_35 H locs hP hH_36 hS_37 => ?_)
        obtain ⟨rfl, rfl⟩ := hP
        refine lv_pop hx hb dX5_buys_82 rfl ?_
        refine lv_iconst (v := 1) hx hb dX5_buys_83 (by decide) ?_
        refine zr_iret C hr ?_ hH_36 hS_37 (Nat.le_of_ble_eq_true rfl) (Nat.le_of_ble_eq_true rfl) dX5_buys_84
        have e1 : buyIts I L cc f due = due - valueL I L cc f := if_pos c_7
        exact Or.inr ⟨by unfold buyNo; rw [e1]; exact fun z => z.elim (fun q => q (by assumption)) (by assumption), rfl, by rw [e1]⟩
      · refine lv_iconst (v := 0) hx hb dX5_buys_65 (by decide) ?_
        refine zr_iret C hr ?_ hH_27 hS_28 (Nat.le_of_ble_eq_true rfl) (Nat.le_of_ble_eq_true rfl) dX5_buys_66
        have e1 : buyIts I L cc f due = due - valueL I L cc f := if_pos c_7
        exact Or.inl ⟨by unfold buyNo; rw [e1]; first | exact Or.inl (by assumption) | exact Or.inr (by assumption), rfl, rfl⟩
def rmM_balance : Room := { frames := 3, cells := 0, slots := 0, locals := 82 }
set_option maxHeartbeats 4000000 in
set_option maxRecDepth 100000 in
theorem cM_balance (l : Launch) (D : va_G) (cA : Nat → ClassId) (A : Nat → Prop) (g : Nat → Nat) (ad : zk_K → Nat) (dy nc nt nl : Nat) (th : Int32) (mo : Int64) (I : zIA) (L : zLA) (cx : Int32) (hnc : nc ≤ 12) (hnt : nt ≤ 120) (hpr : ∀ f, f < 6 → ¬ Int32.toInt64 (I 1 f) = 0) : zM l yX5_balance wsX5_balance rmM_balance D (zt cA) A g [.ref (ad (0, 0, 0)), .int cx] (mw cA ad dy nc nt nl th mo I L) (zQi (fun r w' => (¬ zIn cx nc ∧ mw cA ad dy nc nt nl 1 mo I L = w') ∨ (∃ c, c < nc ∧ cx = nI c ∧ (((¬ nt ≤ 108 ∨ wealthL I L c 6 < 0 ∨ 100000000 < wealthL I L c 6) ∧ mw cA ad dy nc nt nl 2 mo I L = w') ∨ (nt ≤ 108 ∧ ¬ wealthL I L c 6 < 0 ∧ ¬ 100000000 < wealthL I L c 6 ∧ ∃ s : zS, s = buyS dy c (wealthL I L c 6) (selS dy c (wealthL I L c 6) (0, nt, mo, I, L) 6) 6 ∧ nI s.1 = r ∧ mw cA ad dy nc s.2.1 nl 0 s.2.2.1 s.2.2.2.1 s.2.2.2.2 = w'))))) := by
  refine zM_of (cc := cX5_balance) (maxL := 6) (ret := (some .int)) (own := RX5) (by decide +kernel) rfl (Nat.le_of_ble_eq_true rfl) rfl ?_
  intro p e s m below meth c C hr hnm H locs ls hH hS hl
  obtain ⟨⟨hx, hb, hml, hown, hts⟩, hG, hlk⟩ := id C
  have hin : ∀ w ∈ wsX50, w ∈ wsX5_balance := by decide +kernel
  have hl : lv_has ls 6 [(0, .ref (ad (0, 0, 0))), (1, .int cx)] := hl
  refine lv_aload_n hx hb dX5_balance_0 rfl (lv_at hl 0 rfl) ?_
  refine lv_iload_n hx hb dX5_balance_1 rfl (lv_at hl 1 rfl) ?_
  refine zk_ci (zk_rV (As := [.int cx]) (rest := []) (n := 1) (k := (0, 0, 0)) C (cM_isClient l D cA A g ad dy nc nt nl th mo I L cx hnc) hH hS mL_o rfl rfl gX5_balance_X5_isClient rfl rfl (by decide +kernel) ⟨Nat.le_of_ble_eq_true rfl, Nat.le_of_ble_eq_true rfl⟩ hl rfl (Nat.le_of_ble_eq_true rfl) dX5_balance_2 ⟨Nat.le_of_ble_eq_true rfl, Nat.le_of_ble_eq_true rfl⟩) hS (fun r_1 w_2 H locs hP hH_3 hS_4 => ?_)
  obtain ⟨rfl, (⟨rfl, h_r_1⟩ | ⟨rfl, h_r_1⟩)⟩ := hP
  · obtain ⟨cxj, hcxj, rfl⟩ := h_r_1
    refine lv_if_eq (tgt := 16) hx hb dX5_balance_5 (by decide) (fun c_5 => absurd c_5 (by decide)) (fun c_5 => ?_)
    refine lv_aload_n hx hb dX5_balance_8 rfl (lv_at hl 0 rfl) ?_
    refine lv_iload_n hx hb dX5_balance_9 rfl (lv_at hl 1 rfl) ?_
    refine zk_cl (zk_rV (As := [.int (nI cxj)]) (rest := []) (n := 1) (k := (0, 0, 0)) C (cM_wealthOf l D cA A g ad dy nc nt nl th mo I L cxj (by omega)) hH_3 hS_4 mL_o rfl rfl gX5_balance_X5_wealthOf rfl rfl (by decide +kernel) ⟨Nat.le_of_ble_eq_true rfl, Nat.le_of_ble_eq_true rfl⟩ hl rfl (Nat.le_of_ble_eq_true rfl) dX5_balance_10 ⟨Nat.le_of_ble_eq_true rfl, Nat.le_of_ble_eq_true rfl⟩) hS_4 (fun r_6 w_7 H locs hP hH_8 hS_9 => ?_)
    obtain ⟨rfl, rfl⟩ := hP
    refine lv_goto (tgt := 17) hx hb dX5_balance_13 (by decide) ?_
    refine lv_lstore_n (lv' := [(2, .long (wealthL I L cxj 6)), (0, .ref (ad (0, 0, 0))), (1, .int (nI cxj))]) hx hb dX5_balance_17 rfl hl (by decide) rfl (fun ls hl_10 => ?_)
    refine lv_aload_n hx hb dX5_balance_18 rfl (lv_at hl_10 1 rfl) ?_
    refine lv_aload_n hx hb dX5_balance_19 rfl (lv_at hl_10 1 rfl) ?_
    refine lv_iload_n hx hb dX5_balance_20 rfl (lv_at hl_10 2 rfl) ?_
    refine zk_ci (zk_rV (As := [.int (nI cxj)]) (rest := [.ref (ad (0, 0, 0))]) (n := 1) (k := (0, 0, 0)) C (cM_isClient l D cA A g ad dy nc nt nl th mo I L (nI cxj) hnc) hH_8 hS_9 mL_o rfl rfl gX5_balance_X5_isClient rfl rfl (by decide +kernel) ⟨Nat.le_of_ble_eq_true rfl, Nat.le_of_ble_eq_true rfl⟩ hl_10 rfl (Nat.le_of_ble_eq_true rfl) dX5_balance_21 ⟨Nat.le_of_ble_eq_true rfl, Nat.le_of_ble_eq_true rfl⟩) hS_9 (fun r_11 w_12 H locs hP hH_13 hS_14 => ?_)
    obtain ⟨rfl, (⟨rfl, h_r_11⟩ | ⟨rfl, h_r_11⟩)⟩ := hP
    · refine lv_if_ne (tgt := 31) hx hb dX5_balance_24 (by decide) (fun c_15 => ?_) (fun c_15 => absurd c_15 (by decide))
      refine lv_aload_n hx hb dX5_balance_31 rfl (lv_at hl_10 1 rfl) ?_
      refine zm_get C hin hH_13 10 (by decide) (by decide +kernel) rfl dX5_balance_32 ?_
      refine lv_bipush (v := 108) hx hb dX5_balance_35 (by decide) ?_
      refine lv_icmp_gt (tgt := 54) hx hb dX5_balance_37 (by decide) (fun c_16 => ?_) (fun c_16 => ?_)
      · refine lv_iconst (v := 2) hx hb dX5_balance_54 (by decide) ?_
        refine lv_goto (tgt := 59) hx hb dX5_balance_55 (by decide) ?_
        refine zk_ci (zk_rV (As := [.int 2]) (rest := []) (n := 1) (k := (0, 0, 0)) C (cM_fails l D cA A g ad dy nc nt nl th mo I L 2) hH_13 hS_14 mL_o rfl rfl gX5_balance_X5_fails rfl rfl (by decide +kernel) ⟨Nat.le_of_ble_eq_true rfl, Nat.le_of_ble_eq_true rfl⟩ hl_10 rfl (Nat.le_of_ble_eq_true rfl) dX5_balance_59 ⟨Nat.le_of_ble_eq_true rfl, Nat.le_of_ble_eq_true rfl⟩) hS_14 (fun r_17 w_18 H locs hP hH_19 hS_20 => ?_)
        obtain ⟨rfl, rfl⟩ := hP
        refine lv_if_eq (tgt := 67) hx hb dX5_balance_62 (by decide) (fun c_21 => absurd c_21 (by decide)) (fun c_21 => ?_)
        refine lv_iconst (v := 0) hx hb dX5_balance_65 (by decide) ?_
        refine zr_iret C hr ?_ hH_19 hS_20 (Nat.le_of_ble_eq_true rfl) (Nat.le_of_ble_eq_true rfl) dX5_balance_66
        exact Or.inr ⟨cxj, hcxj, rfl, Or.inl ⟨by first | exact Or.inl (fun z => absurd (by assumption) (nI_nlt z (by decide))) | exact Or.inr (Or.inl (by assumption)) | exact Or.inr (Or.inr (by assumption)), rfl⟩⟩
      · have hnt2 : nt ≤ 108 := Nat.le_of_not_lt (fun z => c_16 (nI_lt z (by omega)))
        refine lv_lload_n hx hb dX5_balance_40 rfl (lv_at hl_10 0 rfl) ?_
        refine lv_lconst (v := 0) hx hb dX5_balance_41 (by decide) ?_
        refine zl_cmp_lt (tgt := 54) hx hb dX5_balance_42 dX5_balance_43 (by decide) (fun c_22 => ?_) (fun c_22 => ?_)
        · refine lv_iconst (v := 2) hx hb dX5_balance_54 (by decide) ?_
          refine lv_goto (tgt := 59) hx hb dX5_balance_55 (by decide) ?_
          refine zk_ci (zk_rV (As := [.int 2]) (rest := []) (n := 1) (k := (0, 0, 0)) C (cM_fails l D cA A g ad dy nc nt nl th mo I L 2) hH_13 hS_14 mL_o rfl rfl gX5_balance_X5_fails rfl rfl (by decide +kernel) ⟨Nat.le_of_ble_eq_true rfl, Nat.le_of_ble_eq_true rfl⟩ hl_10 rfl (Nat.le_of_ble_eq_true rfl) dX5_balance_59 ⟨Nat.le_of_ble_eq_true rfl, Nat.le_of_ble_eq_true rfl⟩) hS_14 (fun r_23 w_24 H locs hP hH_25 hS_26 => ?_)
          obtain ⟨rfl, rfl⟩ := hP
          refine lv_if_eq (tgt := 67) hx hb dX5_balance_62 (by decide) (fun c_27 => absurd c_27 (by decide)) (fun c_27 => ?_)
          refine lv_iconst (v := 0) hx hb dX5_balance_65 (by decide) ?_
          refine zr_iret C hr ?_ hH_25 hS_26 (Nat.le_of_ble_eq_true rfl) (Nat.le_of_ble_eq_true rfl) dX5_balance_66
          exact Or.inr ⟨cxj, hcxj, rfl, Or.inl ⟨by first | exact Or.inl (fun z => absurd (by assumption) (nI_nlt z (by decide))) | exact Or.inr (Or.inl (by assumption)) | exact Or.inr (Or.inr (by assumption)), rfl⟩⟩
        · refine lv_lload_n hx hb dX5_balance_46 rfl (lv_at hl_10 0 rfl) ?_
          refine lv_ldc2 (v := 100000000) hx hb hown (hts (.constantLong RX5 149 100000000) (by decide +kernel)) dX5_balance_47 ?_
          refine zl_cmp_le (tgt := 58) hx hb dX5_balance_50 dX5_balance_51 (by decide) (fun c_28 => ?_) (fun c_28 => ?_)
          · refine lv_iconst (v := 0) hx hb dX5_balance_58 (by decide) ?_
            refine zk_ci (zk_rV (As := [.int 0]) (rest := []) (n := 1) (k := (0, 0, 0)) C (cM_fails l D cA A g ad dy nc nt nl th mo I L 0) hH_13 hS_14 mL_o rfl rfl gX5_balance_X5_fails rfl rfl (by decide +kernel) ⟨Nat.le_of_ble_eq_true rfl, Nat.le_of_ble_eq_true rfl⟩ hl_10 rfl (Nat.le_of_ble_eq_true rfl) dX5_balance_59 ⟨Nat.le_of_ble_eq_true rfl, Nat.le_of_ble_eq_true rfl⟩) hS_14 (fun r_29 w_30 H locs hP hH_31 hS_32 => ?_)
            obtain ⟨rfl, rfl⟩ := hP
            refine lv_if_eq (tgt := 67) hx hb dX5_balance_62 (by decide) (fun c_33 => ?_) (fun c_33 => absurd c_33 (by decide))
            refine lv_iconst (v := 0) hx hb dX5_balance_67 (by decide) ?_
            refine lv_istore (lv' := [(4, .int 0), (2, .long (wealthL I L cxj 6)), (0, .ref (ad (0, 0, 0))), (1, .int (nI cxj))]) hx hb dX5_balance_68 hl_10 (by decide) rfl (fun ls hl_34 => ?_)
            refine lv_iconst (v := 0) hx hb dX5_balance_70 (by decide) ?_
            refine lv_istore (lv' := [(5, .int 0), (4, .int 0), (2, .long (wealthL I L cxj 6)), (0, .ref (ad (0, 0, 0))), (1, .int (nI cxj))]) hx hb dX5_balance_71 hl_34 (by decide) rfl (fun ls hl_35 => ?_)
            refine z_at (n := 6) (P := fun i_36 => zL p l e rmM_balance s m _ below meth c 6 D A _ (mw cA ad dy nc ((selS dy cxj (wealthL I L cxj 6) (0, nt, mo, I, L) i_36).2.1) nl 0 ((selS dy cxj (wealthL I L cxj 6) (0, nt, mo, I, L) i_36).2.2.1) ((selS dy cxj (wealthL I L cxj 6) (0, nt, mo, I, L) i_36).2.2.2.1) ((selS dy cxj (wealthL I L cxj 6) (0, nt, mo, I, L) i_36).2.2.2.2)) 0 0 73 [(0, .ref (ad (0, 0, 0))), (1, .int (nI cxj)), (2, .long (wealthL I L cxj 6)), (4, .int (nI ((selS dy cxj (wealthL I L cxj 6) (0, nt, mo, I, L) i_36).1))), (5, .int (nI i_36))] []) 0 (Nat.zero_le _) (fun h => h _ _ _ hH_31 hS_32 (lv_sub hl_35 [3, 4, 2, 1, 0] rfl)) ?_ ?_
            · intro H locs ls hH_38 hS_39 hl_40
              refine lv_iload hx hb dX5_balance_73 (lv_at hl_40 4 rfl) ?_
              refine lv_bipush (v := 6) hx hb dX5_balance_75 (by decide) ?_
              refine lv_icmp_ge (tgt := 117) hx hb dX5_balance_77 (by decide) (fun c_41 => ?_) (fun c_41 => absurd (Int32.le_refl _) c_41)
              refine lv_iconst (v := 0) hx hb dX5_balance_117 (by decide) ?_
              refine lv_istore (lv' := [(5, .int 0), (0, .ref (ad (0, 0, 0))), (1, .int (nI cxj)), (2, .long (wealthL I L cxj 6)), (4, .int (nI ((selS dy cxj (wealthL I L cxj 6) (0, nt, mo, I, L) 6).1)))]) hx hb dX5_balance_118 hl_40 (by decide) rfl (fun ls hl_42 => ?_)
              refine z_at (n := 6) (P := fun i_43 => zL p l e rmM_balance s m _ below meth c 6 D A _ (mw cA ad dy nc ((buyS dy cxj (wealthL I L cxj 6) (selS dy cxj (wealthL I L cxj 6) (0, nt, mo, I, L) 6) i_43).2.1) nl 0 ((buyS dy cxj (wealthL I L cxj 6) (selS dy cxj (wealthL I L cxj 6) (0, nt, mo, I, L) 6) i_43).2.2.1) ((buyS dy cxj (wealthL I L cxj 6) (selS dy cxj (wealthL I L cxj 6) (0, nt, mo, I, L) 6) i_43).2.2.2.1) ((buyS dy cxj (wealthL I L cxj 6) (selS dy cxj (wealthL I L cxj 6) (0, nt, mo, I, L) 6) i_43).2.2.2.2)) 0 0 120 [(0, .ref (ad (0, 0, 0))), (1, .int (nI cxj)), (2, .long (wealthL I L cxj 6)), (4, .int (nI ((buyS dy cxj (wealthL I L cxj 6) (selS dy cxj (wealthL I L cxj 6) (0, nt, mo, I, L) 6) i_43).1))), (5, .int (nI i_43))] []) 0 (Nat.zero_le _) (fun h => h _ _ _ hH_38 hS_39 (lv_sub hl_42 [1, 2, 3, 4, 0] rfl)) ?_ ?_
              · intro H locs ls hH_45 hS_46 hl_47
                refine lv_iload hx hb dX5_balance_120 (lv_at hl_47 4 rfl) ?_
                refine lv_bipush (v := 6) hx hb dX5_balance_122 (by decide) ?_
                refine lv_icmp_ge (tgt := 164) hx hb dX5_balance_124 (by decide) (fun c_48 => ?_) (fun c_48 => absurd (Int32.le_refl _) c_48)
                refine lv_iload hx hb dX5_balance_164 (lv_at hl_47 3 rfl) ?_
                refine zr_iret C hr ?_ hH_45 hS_46 (Nat.le_of_ble_eq_true rfl) (Nat.le_of_ble_eq_true rfl) dX5_balance_166
                exact Or.inr ⟨cxj, hcxj, rfl, Or.inr ⟨hnt2, by assumption, by assumption, _, rfl, rfl, rfl⟩⟩
              · intro i_43 hi_43 ih_44 H locs ls hH_49 hS_50 hl_51
                refine lv_iload hx hb dX5_balance_120 (lv_at hl_51 4 rfl) ?_
                refine lv_bipush (v := 6) hx hb dX5_balance_122 (by decide) ?_
                refine lv_icmp_ge (tgt := 164) hx hb dX5_balance_124 (by decide) (fun c_52 => absurd c_52 (nI_ge hi_43 (by first | decide | omega))) (fun c_52 => ?_)
                refine lv_iload hx hb dX5_balance_127 (lv_at hl_51 3 rfl) ?_
                refine lv_aload_n hx hb dX5_balance_129 rfl (lv_at hl_51 0 rfl) ?_
                refine lv_iload_n hx hb dX5_balance_130 rfl (lv_at hl_51 1 rfl) ?_
                refine lv_iload hx hb dX5_balance_131 (lv_at hl_51 4 rfl) ?_
                refine lv_lload_n hx hb dX5_balance_133 rfl (lv_at hl_51 2 rfl) ?_
                refine lv_aload_n hx hb dX5_balance_134 rfl (lv_at hl_51 0 rfl) ?_
                refine zm_get C hin hH_49 7 (by decide) (by decide +kernel) rfl dX5_balance_135 ?_
                refine lv_bipush (v := 6) hx hb dX5_balance_138 (by decide) ?_
                refine lv_iload_n hx hb dX5_balance_140 rfl (lv_at hl_51 1 rfl) ?_
                refine lv_imul hx hb dX5_balance_141 ?_
                refine lv_iload hx hb dX5_balance_142 (lv_at hl_51 4 rfl) ?_
                refine lv_iadd hx hb dX5_balance_144 ?_
                refine zm_ild C hH_49 7 (by decide) rfl (j := ((6 * cxj) + i_43)) (zi_add (zi_mul rfl rfl) rfl) (show ((6 * cxj) + i_43) < 72 by omega) dX5_balance_145 ?_
                refine lv_i2l (v := Int32.toInt64 (((buyS dy cxj (wealthL I L cxj 6) (selS dy cxj (wealthL I L cxj 6) (0, nt, mo, I, L) 6) i_43).2.2.2.1) 7 ((6 * cxj) + i_43))) hx hb dX5_balance_146 rfl ?_
                refine lv_lmul hx hb dX5_balance_147 ?_
                refine lv_ldc2 (v := 100) hx hb hown (hts (.constantLong RX5 95 100) (by decide +kernel)) dX5_balance_148 ?_
                refine lv_ldiv hx hb dX5_balance_151 (by decide) ?_
                refine zk_ci (zk_rV (As := [.int (nI cxj), .int (nI i_43), .long (((wealthL I L cxj 6) * (Int32.toInt64 (((buyS dy cxj (wealthL I L cxj 6) (selS dy cxj (wealthL I L cxj 6) (0, nt, mo, I, L) 6) i_43).2.2.2.1) 7 ((6 * cxj) + i_43)))) / 100)]) (rest := [.int (nI ((buyS dy cxj (wealthL I L cxj 6) (selS dy cxj (wealthL I L cxj 6) (0, nt, mo, I, L) 6) i_43).1))]) (n := 3) (k := (0, 0, 0)) C (cM_buys l D cA A g ad dy nc ((buyS dy cxj (wealthL I L cxj 6) (selS dy cxj (wealthL I L cxj 6) (0, nt, mo, I, L) 6) i_43).2.1) nl 0 ((buyS dy cxj (wealthL I L cxj 6) (selS dy cxj (wealthL I L cxj 6) (0, nt, mo, I, L) 6) i_43).2.2.1) ((buyS dy cxj (wealthL I L cxj 6) (selS dy cxj (wealthL I L cxj 6) (0, nt, mo, I, L) 6) i_43).2.2.2.1) ((buyS dy cxj (wealthL I L cxj 6) (selS dy cxj (wealthL I L cxj 6) (0, nt, mo, I, L) 6) i_43).2.2.2.2) cxj i_43 (((wealthL I L cxj 6) * (Int32.toInt64 (((buyS dy cxj (wealthL I L cxj 6) (selS dy cxj (wealthL I L cxj 6) (0, nt, mo, I, L) 6) i_43).2.2.2.1) 7 ((6 * cxj) + i_43)))) / 100) (by omega) (by omega) (by have h := (show (buyS dy cxj (wealthL I L cxj 6) (selS dy cxj (wealthL I L cxj 6) (0, nt, mo, I, L) 6) i_43).2.1 ≤ nt + 6 + i_43 from Nat.le_trans (buyS_nt (dy := dy) (c := cxj) (all := (wealthL I L cxj 6)) (s := (selS dy cxj (wealthL I L cxj 6) (0, nt, mo, I, L) 6)) i_43) (Nat.add_le_add_right (selS_nt (dy := dy) (c := cxj) (all := (wealthL I L cxj 6)) (s := (0, nt, mo, I, L)) 6) i_43)); omega) (fun f hf => by rw [buyS_1, selS_1]; exact hpr f hf)) hH_49 hS_50 mL_o rfl rfl gX5_balance_X5_buys rfl rfl (by decide +kernel) ⟨Nat.le_of_ble_eq_true rfl, Nat.le_of_ble_eq_true rfl⟩ hl_51 rfl (Nat.le_of_ble_eq_true rfl) dX5_balance_152 ⟨Nat.le_of_ble_eq_true rfl, Nat.le_of_ble_eq_true rfl⟩) hS_50 (fun r_53 w_54 H locs hP hH_55 hS_56 => ?_)
                obtain (⟨h_r_53, rfl, rfl⟩ | ⟨h_r_53, rfl, rfl⟩) := hP
                · refine lv_iadd hx hb dX5_balance_155 ?_
                  rw [Int32.add_zero]
                  refine lv_istore (lv' := [(4, .int (nI ((buyS dy cxj (wealthL I L cxj 6) (selS dy cxj (wealthL I L cxj 6) (0, nt, mo, I, L) 6) i_43).1))), (0, .ref (ad (0, 0, 0))), (1, .int (nI cxj)), (2, .long (wealthL I L cxj 6)), (5, .int (nI i_43))]) hx hb dX5_balance_156 hl_51 (by decide) rfl (fun ls hl_57 => ?_)
                  refine lv_iinc (v := nI (i_43 + 1)) (lv' := [(5, .int (nI (i_43 + 1))), (4, .int (nI ((buyS dy cxj (wealthL I L cxj 6) (selS dy cxj (wealthL I L cxj 6) (0, nt, mo, I, L) 6) i_43).1))), (0, .ref (ad (0, 0, 0))), (1, .int (nI cxj)), (2, .long (wealthL I L cxj 6))]) hx hb dX5_balance_158 hl_57 (k := 4) rfl (nI_1 i_43) (by decide) rfl (fun ls hl_58 => ?_)
                  refine lv_goto (tgt := 120) hx hb dX5_balance_161 (by decide) ?_
                  exact ih_44 _ _ _ (by rw [buyS_p h_r_53]; exact hH_55) hS_56 (by rw [buyS_p h_r_53]; exact lv_sub hl_58 [2, 3, 4, 1, 0] rfl)
                · refine lv_iadd hx hb dX5_balance_155 ?_
                  rw [nI_1]
                  refine lv_istore (lv' := [(4, .int (nI ((buyS dy cxj (wealthL I L cxj 6) (selS dy cxj (wealthL I L cxj 6) (0, nt, mo, I, L) 6) i_43).1 + 1))), (0, .ref (ad (0, 0, 0))), (1, .int (nI cxj)), (2, .long (wealthL I L cxj 6)), (5, .int (nI i_43))]) hx hb dX5_balance_156 hl_51 (by decide) rfl (fun ls hl_59 => ?_)
                  refine lv_iinc (v := nI (i_43 + 1)) (lv' := [(5, .int (nI (i_43 + 1))), (4, .int (nI ((buyS dy cxj (wealthL I L cxj 6) (selS dy cxj (wealthL I L cxj 6) (0, nt, mo, I, L) 6) i_43).1 + 1))), (0, .ref (ad (0, 0, 0))), (1, .int (nI cxj)), (2, .long (wealthL I L cxj 6))]) hx hb dX5_balance_158 hl_59 (k := 4) rfl (nI_1 i_43) (by decide) rfl (fun ls hl_60 => ?_)
                  refine lv_goto (tgt := 120) hx hb dX5_balance_161 (by decide) ?_
                  exact ih_44 _ _ _ (by rw [buyS_n h_r_53]; exact hH_55) hS_56 (by rw [buyS_n h_r_53]; exact lv_sub hl_60 [2, 3, 4, 1, 0] rfl)
            · intro i_36 hi_36 ih_37 H locs ls hH_61 hS_62 hl_63
              refine lv_iload hx hb dX5_balance_73 (lv_at hl_63 4 rfl) ?_
              refine lv_bipush (v := 6) hx hb dX5_balance_75 (by decide) ?_
              refine lv_icmp_ge (tgt := 117) hx hb dX5_balance_77 (by decide) (fun c_64 => absurd c_64 (nI_ge hi_36 (by first | decide | omega))) (fun c_64 => ?_)
              refine lv_iload hx hb dX5_balance_80 (lv_at hl_63 3 rfl) ?_
              refine lv_aload_n hx hb dX5_balance_82 rfl (lv_at hl_63 0 rfl) ?_
              refine lv_iload_n hx hb dX5_balance_83 rfl (lv_at hl_63 1 rfl) ?_
              refine lv_iload hx hb dX5_balance_84 (lv_at hl_63 4 rfl) ?_
              refine lv_lload_n hx hb dX5_balance_86 rfl (lv_at hl_63 2 rfl) ?_
              refine lv_aload_n hx hb dX5_balance_87 rfl (lv_at hl_63 0 rfl) ?_
              refine zm_get C hin hH_61 7 (by decide) (by decide +kernel) rfl dX5_balance_88 ?_
              refine lv_bipush (v := 6) hx hb dX5_balance_91 (by decide) ?_
              refine lv_iload_n hx hb dX5_balance_93 rfl (lv_at hl_63 1 rfl) ?_
              refine lv_imul hx hb dX5_balance_94 ?_
              refine lv_iload hx hb dX5_balance_95 (lv_at hl_63 4 rfl) ?_
              refine lv_iadd hx hb dX5_balance_97 ?_
              refine zm_ild C hH_61 7 (by decide) rfl (j := ((6 * cxj) + i_36)) (zi_add (zi_mul rfl rfl) rfl) (show ((6 * cxj) + i_36) < 72 by omega) dX5_balance_98 ?_
              refine lv_i2l (v := Int32.toInt64 (((selS dy cxj (wealthL I L cxj 6) (0, nt, mo, I, L) i_36).2.2.2.1) 7 ((6 * cxj) + i_36))) hx hb dX5_balance_99 rfl ?_
              refine lv_lmul hx hb dX5_balance_100 ?_
              refine lv_ldc2 (v := 100) hx hb hown (hts (.constantLong RX5 95 100) (by decide +kernel)) dX5_balance_101 ?_
              refine lv_ldiv hx hb dX5_balance_104 (by decide) ?_
              refine zk_ci (zk_rV (As := [.int (nI cxj), .int (nI i_36), .long (((wealthL I L cxj 6) * (Int32.toInt64 (((selS dy cxj (wealthL I L cxj 6) (0, nt, mo, I, L) i_36).2.2.2.1) 7 ((6 * cxj) + i_36)))) / 100)]) (rest := [.int (nI ((selS dy cxj (wealthL I L cxj 6) (0, nt, mo, I, L) i_36).1))]) (n := 3) (k := (0, 0, 0)) C (cM_sells l D cA A g ad dy nc ((selS dy cxj (wealthL I L cxj 6) (0, nt, mo, I, L) i_36).2.1) nl 0 ((selS dy cxj (wealthL I L cxj 6) (0, nt, mo, I, L) i_36).2.2.1) ((selS dy cxj (wealthL I L cxj 6) (0, nt, mo, I, L) i_36).2.2.2.1) ((selS dy cxj (wealthL I L cxj 6) (0, nt, mo, I, L) i_36).2.2.2.2) cxj i_36 (((wealthL I L cxj 6) * (Int32.toInt64 (((selS dy cxj (wealthL I L cxj 6) (0, nt, mo, I, L) i_36).2.2.2.1) 7 ((6 * cxj) + i_36)))) / 100) (by omega) (by omega) (by have h := (show (selS dy cxj (wealthL I L cxj 6) (0, nt, mo, I, L) i_36).2.1 ≤ nt + i_36 from selS_nt (dy := dy) (c := cxj) (all := (wealthL I L cxj 6)) (s := (0, nt, mo, I, L)) i_36); omega) (fun f hf => by rw [selS_1]; exact hpr f hf)) hH_61 hS_62 mL_o rfl rfl gX5_balance_X5_sells rfl rfl (by decide +kernel) ⟨Nat.le_of_ble_eq_true rfl, Nat.le_of_ble_eq_true rfl⟩ hl_63 rfl (Nat.le_of_ble_eq_true rfl) dX5_balance_105 ⟨Nat.le_of_ble_eq_true rfl, Nat.le_of_ble_eq_true rfl⟩) hS_62 (fun r_65 w_66 H locs hP hH_67 hS_68 => ?_)
              obtain (⟨h_r_65, rfl, rfl⟩ | ⟨h_r_65, rfl, rfl⟩) := hP
              · refine lv_iadd hx hb dX5_balance_108 ?_
                rw [Int32.add_zero]
                refine lv_istore (lv' := [(4, .int (nI ((selS dy cxj (wealthL I L cxj 6) (0, nt, mo, I, L) i_36).1))), (0, .ref (ad (0, 0, 0))), (1, .int (nI cxj)), (2, .long (wealthL I L cxj 6)), (5, .int (nI i_36))]) hx hb dX5_balance_109 hl_63 (by decide) rfl (fun ls hl_69 => ?_)
                refine lv_iinc (v := nI (i_36 + 1)) (lv' := [(5, .int (nI (i_36 + 1))), (4, .int (nI ((selS dy cxj (wealthL I L cxj 6) (0, nt, mo, I, L) i_36).1))), (0, .ref (ad (0, 0, 0))), (1, .int (nI cxj)), (2, .long (wealthL I L cxj 6))]) hx hb dX5_balance_111 hl_69 (k := 4) rfl (nI_1 i_36) (by decide) rfl (fun ls hl_70 => ?_)
                refine lv_goto (tgt := 73) hx hb dX5_balance_114 (by decide) ?_
                exact ih_37 _ _ _ (by rw [selS_p h_r_65]; exact hH_67) hS_68 (by rw [selS_p h_r_65]; exact lv_sub hl_70 [2, 3, 4, 1, 0] rfl)
              · refine lv_iadd hx hb dX5_balance_108 ?_
                rw [nI_1]
                refine lv_istore (lv' := [(4, .int (nI ((selS dy cxj (wealthL I L cxj 6) (0, nt, mo, I, L) i_36).1 + 1))), (0, .ref (ad (0, 0, 0))), (1, .int (nI cxj)), (2, .long (wealthL I L cxj 6)), (5, .int (nI i_36))]) hx hb dX5_balance_109 hl_63 (by decide) rfl (fun ls hl_71 => ?_)
                refine lv_iinc (v := nI (i_36 + 1)) (lv' := [(5, .int (nI (i_36 + 1))), (4, .int (nI ((selS dy cxj (wealthL I L cxj 6) (0, nt, mo, I, L) i_36).1 + 1))), (0, .ref (ad (0, 0, 0))), (1, .int (nI cxj)), (2, .long (wealthL I L cxj 6))]) hx hb dX5_balance_111 hl_71 (k := 4) rfl (nI_1 i_36) (by decide) rfl (fun ls hl_72 => ?_)
                refine lv_goto (tgt := 73) hx hb dX5_balance_114 (by decide) ?_
                exact ih_37 _ _ _ (by rw [selS_n h_r_65]; exact hH_67) hS_68 (by rw [selS_n h_r_65]; exact lv_sub hl_72 [2, 3, 4, 1, 0] rfl)
          · refine lv_iconst (v := 2) hx hb dX5_balance_54 (by decide) ?_
            refine lv_goto (tgt := 59) hx hb dX5_balance_55 (by decide) ?_
            refine zk_ci (zk_rV (As := [.int 2]) (rest := []) (n := 1) (k := (0, 0, 0)) C (cM_fails l D cA A g ad dy nc nt nl th mo I L 2) hH_13 hS_14 mL_o rfl rfl gX5_balance_X5_fails rfl rfl (by decide +kernel) ⟨Nat.le_of_ble_eq_true rfl, Nat.le_of_ble_eq_true rfl⟩ hl_10 rfl (Nat.le_of_ble_eq_true rfl) dX5_balance_59 ⟨Nat.le_of_ble_eq_true rfl, Nat.le_of_ble_eq_true rfl⟩) hS_14 (fun r_73 w_74 H locs hP hH_75 hS_76 => ?_)
            obtain ⟨rfl, rfl⟩ := hP
            refine lv_if_eq (tgt := 67) hx hb dX5_balance_62 (by decide) (fun c_77 => absurd c_77 (by decide)) (fun c_77 => ?_)
            refine lv_iconst (v := 0) hx hb dX5_balance_65 (by decide) ?_
            refine zr_iret C hr ?_ hH_75 hS_76 (Nat.le_of_ble_eq_true rfl) (Nat.le_of_ble_eq_true rfl) dX5_balance_66
            exact Or.inr ⟨cxj, hcxj, rfl, Or.inl ⟨by first | exact Or.inl (fun z => absurd (by assumption) (nI_nlt z (by decide))) | exact Or.inr (Or.inl (by assumption)) | exact Or.inr (Or.inr (by assumption)), rfl⟩⟩
    · exact absurd ⟨cxj, hcxj, rfl⟩ h_r_11
  · refine lv_if_eq (tgt := 16) hx hb dX5_balance_5 (by decide) (fun c_78 => ?_) (fun c_78 => absurd c_78 (by decide))
    refine lv_lconst (v := 0) hx hb dX5_balance_16 (by decide) ?_
    refine lv_lstore_n (lv' := [(2, .long 0), (0, .ref (ad (0, 0, 0))), (1, .int cx)]) hx hb dX5_balance_17 rfl hl (by decide) rfl (fun ls hl_79 => ?_)
    refine lv_aload_n hx hb dX5_balance_18 rfl (lv_at hl_79 1 rfl) ?_
    refine lv_aload_n hx hb dX5_balance_19 rfl (lv_at hl_79 1 rfl) ?_
    refine lv_iload_n hx hb dX5_balance_20 rfl (lv_at hl_79 2 rfl) ?_
    refine zk_ci (zk_rV (As := [.int cx]) (rest := [.ref (ad (0, 0, 0))]) (n := 1) (k := (0, 0, 0)) C (cM_isClient l D cA A g ad dy nc nt nl th mo I L cx hnc) hH_3 hS_4 mL_o rfl rfl gX5_balance_X5_isClient rfl rfl (by decide +kernel) ⟨Nat.le_of_ble_eq_true rfl, Nat.le_of_ble_eq_true rfl⟩ hl_79 rfl (Nat.le_of_ble_eq_true rfl) dX5_balance_21 ⟨Nat.le_of_ble_eq_true rfl, Nat.le_of_ble_eq_true rfl⟩) hS_4 (fun r_80 w_81 H locs hP hH_82 hS_83 => ?_)
    obtain ⟨rfl, (⟨rfl, h_r_80⟩ | ⟨rfl, h_r_80⟩)⟩ := hP
    · exact absurd h_r_80 h_r_1
    · refine lv_if_ne (tgt := 31) hx hb dX5_balance_24 (by decide) (fun c_84 => absurd c_84 (by decide)) (fun c_84 => ?_)
      refine lv_iconst (v := 1) hx hb dX5_balance_27 (by decide) ?_
      refine lv_goto (tgt := 59) hx hb dX5_balance_28 (by decide) ?_
      refine zk_ci (zk_rV (As := [.int 1]) (rest := []) (n := 1) (k := (0, 0, 0)) C (cM_fails l D cA A g ad dy nc nt nl th mo I L 1) hH_82 hS_83 mL_o rfl rfl gX5_balance_X5_fails rfl rfl (by decide +kernel) ⟨Nat.le_of_ble_eq_true rfl, Nat.le_of_ble_eq_true rfl⟩ hl_79 rfl (Nat.le_of_ble_eq_true rfl) dX5_balance_59 ⟨Nat.le_of_ble_eq_true rfl, Nat.le_of_ble_eq_true rfl⟩) hS_83 (fun r_85 w_86 H locs hP hH_87 hS_88 => ?_)
      obtain ⟨rfl, rfl⟩ := hP
      refine lv_if_eq (tgt := 67) hx hb dX5_balance_62 (by decide) (fun c_89 => absurd c_89 (by decide)) (fun c_89 => ?_)
      refine lv_iconst (v := 0) hx hb dX5_balance_65 (by decide) ?_
      refine zr_iret C hr ?_ hH_87 hS_88 (Nat.le_of_ble_eq_true rfl) (Nat.le_of_ble_eq_true rfl) dX5_balance_66
      exact Or.inl ⟨by assumption, rfl⟩
def rmM_share : Room := { frames := 0, cells := 0, slots := 0, locals := 0 }
set_option maxHeartbeats 4000000 in
set_option maxRecDepth 100000 in
theorem cM_share (l : Launch) (D : va_G) (cA : Nat → ClassId) (A : Nat → Prop) (g : Nat → Nat) (w : zk_W) (its part whole : Int64) (hw : ¬ whole = 0) : zM l yX5_share wsX5_share rmM_share D (zt cA) A g [.long its, .long part, .long whole] (w) (zQl (fun r w' => shareV its part whole = r ∧ w = w')) := by
  refine zM_of (cc := cX5_share) (maxL := 11) (ret := (some .long)) (own := RX5) (by decide +kernel) rfl (Nat.le_of_ble_eq_true rfl) rfl ?_
  intro p e s m below meth c C hr hnm H locs ls hH hS hl
  obtain ⟨⟨hx, hb, hml, hown, hts⟩, hG, hlk⟩ := id C
  have hl : lv_has ls 11 [(0, .long its), (2, .long part), (4, .long whole)] := hl
  refine lv_lconst (v := 0) hx hb dX5_share_0 (by decide) ?_
  refine lv_lstore (lv' := [(6, .long 0), (0, .long its), (2, .long part), (4, .long whole)]) hx hb dX5_share_1 hl (by decide) rfl (fun ls hl_1 => ?_)
  refine lv_lconst (v := 0) hx hb dX5_share_3 (by decide) ?_
  refine lv_lstore (lv' := [(8, .long 0), (6, .long 0), (0, .long its), (2, .long part), (4, .long whole)]) hx hb dX5_share_4 hl_1 (by decide) rfl (fun ls hl_2 => ?_)
  refine lv_bipush (v := 50) hx hb dX5_share_6 (by decide) ?_
  refine lv_istore (lv' := [(10, .int 50), (8, .long 0), (6, .long 0), (0, .long its), (2, .long part), (4, .long whole)]) hx hb dX5_share_8 hl_2 (by decide) rfl (fun ls hl_3 => ?_)
  refine z_at (n := 51) (P := fun i_4 => zL p l e rmM_share s m _ below meth c 11 D A _ (w) 0 0 10 [(0, .long its), (2, .long part), (4, .long whole), (6, .long ((shF its part whole i_4).1)), (8, .long ((shF its part whole i_4).2)), (10, .int (shK i_4))] []) 0 (Nat.zero_le _) (fun h => h _ _ _ hH hS (lv_sub hl_3 [3, 4, 5, 2, 1, 0] rfl)) ?_ ?_
  · intro H locs ls hH_6 hS_7 hl_8
    refine lv_iload hx hb dX5_share_10 (lv_at hl_8 5 rfl) ?_
    refine lv_if_lt (tgt := 59) hx hb dX5_share_12 (by decide) (fun c_9 => ?_) (fun c_9 => absurd (show shK 51 < 0 by decide) c_9)
    refine lv_lload hx hb dX5_share_59 (lv_at hl_8 3 rfl) ?_
    refine zr_lret C hr ?_ hH_6 hS_7 (Nat.le_of_ble_eq_true rfl) (Nat.le_of_ble_eq_true rfl) dX5_share_61
    exact ⟨rfl, rfl⟩
  · intro i_4 hi_4 ih_5 H locs ls hH_10 hS_11 hl_12
    refine lv_iload hx hb dX5_share_10 (lv_at hl_12 5 rfl) ?_
    refine lv_if_lt (tgt := 59) hx hb dX5_share_12 (by decide) (fun c_13 => absurd c_13 (shK_nn hi_4)) (fun c_13 => ?_)
    refine lv_ldc2 (v := 2) hx hb hown (hts (.constantLong RX5 158 2) (by decide +kernel)) dX5_share_15 ?_
    refine lv_lload hx hb dX5_share_18 (lv_at hl_12 4 rfl) ?_
    refine lv_lmul hx hb dX5_share_20 ?_
    refine lv_lload_n hx hb dX5_share_21 rfl (lv_at hl_12 0 rfl) ?_
    refine lv_iload hx hb dX5_share_22 (lv_at hl_12 5 rfl) ?_
    refine lv_lshr (v := its >>> ((Int32.toInt64 (shK i_4)) &&& 63)) hx hb dX5_share_24 rfl ?_
    refine lv_lconst (v := 1) hx hb dX5_share_25 (by decide) ?_
    refine lv_land hx hb dX5_share_26 ?_
    refine lv_lload_n hx hb dX5_share_27 rfl (lv_at hl_12 1 rfl) ?_
    refine lv_lmul hx hb dX5_share_28 ?_
    refine lv_ladd hx hb dX5_share_29 ?_
    refine lv_lstore (lv' := [(8, .long ((2 * ((shF its part whole i_4).2)) + (((its >>> ((Int32.toInt64 (shK i_4)) &&& 63)) &&& 1) * part))), (0, .long its), (2, .long part), (4, .long whole), (6, .long ((shF its part whole i_4).1)), (10, .int (shK i_4))]) hx hb dX5_share_30 hl_12 (by decide) rfl (fun ls hl_14 => ?_)
    refine lv_ldc2 (v := 2) hx hb hown (hts (.constantLong RX5 158 2) (by decide +kernel)) dX5_share_32 ?_
    refine lv_lload hx hb dX5_share_35 (lv_at hl_14 4 rfl) ?_
    refine lv_lmul hx hb dX5_share_37 ?_
    refine lv_lload hx hb dX5_share_38 (lv_at hl_14 0 rfl) ?_
    refine lv_lload hx hb dX5_share_40 (lv_at hl_14 3 rfl) ?_
    refine lv_ldiv hx hb dX5_share_42 (hw) ?_
    refine lv_ladd hx hb dX5_share_43 ?_
    refine lv_lstore (lv' := [(6, .long ((2 * ((shF its part whole i_4).1)) + (((2 * ((shF its part whole i_4).2)) + (((its >>> ((Int32.toInt64 (shK i_4)) &&& 63)) &&& 1) * part)) / whole))), (8, .long ((2 * ((shF its part whole i_4).2)) + (((its >>> ((Int32.toInt64 (shK i_4)) &&& 63)) &&& 1) * part))), (0, .long its), (2, .long part), (4, .long whole), (10, .int (shK i_4))]) hx hb dX5_share_44 hl_14 (by decide) rfl (fun ls hl_15 => ?_)
    refine lv_lload hx hb dX5_share_46 (lv_at hl_15 1 rfl) ?_
    refine lv_lload hx hb dX5_share_48 (lv_at hl_15 4 rfl) ?_
    refine lv_lrem hx hb dX5_share_50 (hw) ?_
    refine lv_lstore (lv' := [(8, .long (((2 * ((shF its part whole i_4).2)) + (((its >>> ((Int32.toInt64 (shK i_4)) &&& 63)) &&& 1) * part)) - ((2 * ((shF its part whole i_4).2)) + (((its >>> ((Int32.toInt64 (shK i_4)) &&& 63)) &&& 1) * part)) / whole * whole)), (6, .long ((2 * ((shF its part whole i_4).1)) + (((2 * ((shF its part whole i_4).2)) + (((its >>> ((Int32.toInt64 (shK i_4)) &&& 63)) &&& 1) * part)) / whole))), (0, .long its), (2, .long part), (4, .long whole), (10, .int (shK i_4))]) hx hb dX5_share_51 hl_15 (by decide) rfl (fun ls hl_16 => ?_)
    refine lv_iinc (v := shK (i_4 + 1)) (lv' := [(10, .int (shK (i_4 + 1))), (8, .long (((2 * ((shF its part whole i_4).2)) + (((its >>> ((Int32.toInt64 (shK i_4)) &&& 63)) &&& 1) * part)) - ((2 * ((shF its part whole i_4).2)) + (((its >>> ((Int32.toInt64 (shK i_4)) &&& 63)) &&& 1) * part)) / whole * whole)), (6, .long ((2 * ((shF its part whole i_4).1)) + (((2 * ((shF its part whole i_4).2)) + (((its >>> ((Int32.toInt64 (shK i_4)) &&& 63)) &&& 1) * part)) / whole))), (0, .long its), (2, .long part), (4, .long whole)]) hx hb dX5_share_53 hl_16 (k := 5) rfl (shK_s i_4) (by decide) rfl (fun ls hl_17 => ?_)
    refine lv_goto (tgt := 10) hx hb dX5_share_56 (by decide) ?_
    exact ih_5 _ _ _ hH_10 hS_11 (lv_sub hl_17 [3, 4, 5, 2, 1, 0] rfl)
def rmM_takes : Room := { frames := 1, cells := 0, slots := 0, locals := 30 }
set_option maxHeartbeats 4000000 in
set_option maxRecDepth 100000 in
theorem cM_takes (l : Launch) (D : va_G) (cA : Nat → ClassId) (A : Nat → Prop) (g : Nat → Nat) (ad : zk_K → Nat) (dy nc nt nl : Nat) (th : Int32) (mo : Int64) (I : zIA) (L : zLA) (many : Int64) (hnl : nl ≤ 120) : zM l yX5_takes wsX5_takes rmM_takes D (zt cA) A g [.ref (ad (0, 0, 0)), .long many] (mw cA ad dy nc nt nl th mo I L) (zQl (fun r w' => (tkS L many nl).1 = r ∧ mw cA ad dy nc nt nl th mo I ((tkS L many nl).2.2) = w')) := by
  refine zM_of (cc := cX5_takes) (maxL := 12) (ret := (some .long)) (own := RX5) (by decide +kernel) rfl (Nat.le_of_ble_eq_true rfl) rfl ?_
  intro p e s m below meth c C hr hnm H locs ls hH hS hl
  obtain ⟨⟨hx, hb, hml, hown, hts⟩, hG, hlk⟩ := id C
  have hin : ∀ w ∈ wsX50, w ∈ wsX5_takes := by decide +kernel
  have hl : lv_has ls 12 [(0, .ref (ad (0, 0, 0))), (1, .long many)] := hl
  refine lv_lconst (v := 0) hx hb dX5_takes_0 (by decide) ?_
  refine lv_lstore_n (lv' := [(3, .long 0), (0, .ref (ad (0, 0, 0))), (1, .long many)]) hx hb dX5_takes_1 rfl hl (by decide) rfl (fun ls hl_1 => ?_)
  refine lv_lload_n hx hb dX5_takes_2 rfl (lv_at hl_1 2 rfl) ?_
  refine lv_lstore (lv' := [(5, .long many), (3, .long 0), (0, .ref (ad (0, 0, 0))), (1, .long many)]) hx hb dX5_takes_3 hl_1 (by decide) rfl (fun ls hl_2 => ?_)
  refine lv_iconst (v := 0) hx hb dX5_takes_5 (by decide) ?_
  refine lv_istore (lv' := [(7, .int 0), (5, .long many), (3, .long 0), (0, .ref (ad (0, 0, 0))), (1, .long many)]) hx hb dX5_takes_6 hl_2 (by decide) rfl (fun ls hl_3 => ?_)
  refine z_at (n := nl) (P := fun i_4 => zL p l e rmM_takes s m _ below meth c 12 D A _ (mw cA ad dy nc nt nl th mo I ((tkS L many i_4).2.2)) 0 0 8 [(0, .ref (ad (0, 0, 0))), (1, .long many), (3, .long ((tkS L many i_4).1)), (5, .long ((tkS L many i_4).2.1)), (7, .int (nI i_4))] []) 0 (Nat.zero_le _) (fun h => h _ _ _ hH hS (lv_sub hl_3 [3, 4, 2, 1, 0] rfl)) ?_ ?_
  · intro H locs ls hH_6 hS_7 hl_8
    refine lv_iload hx hb dX5_takes_8 (lv_at hl_8 4 rfl) ?_
    refine lv_aload_n hx hb dX5_takes_10 rfl (lv_at hl_8 0 rfl) ?_
    refine zm_get C hin hH_6 18 (by decide) (by decide +kernel) rfl dX5_takes_11 ?_
    refine lv_icmp_ge (tgt := 137) hx hb dX5_takes_14 (by decide) (fun c_9 => ?_) (fun c_9 => absurd (Int32.le_refl _) c_9)
    refine lv_lload_n hx hb dX5_takes_137 rfl (lv_at hl_8 2 rfl) ?_
    refine zr_lret C hr ?_ hH_6 hS_7 (Nat.le_of_ble_eq_true rfl) (Nat.le_of_ble_eq_true rfl) dX5_takes_138
    exact ⟨rfl, rfl⟩
  · intro i_4 hi_4 ih_5 H locs ls hH_10 hS_11 hl_12
    refine lv_iload hx hb dX5_takes_8 (lv_at hl_12 4 rfl) ?_
    refine lv_aload_n hx hb dX5_takes_10 rfl (lv_at hl_12 0 rfl) ?_
    refine zm_get C hin hH_10 18 (by decide) (by decide +kernel) rfl dX5_takes_11 ?_
    refine lv_icmp_ge (tgt := 137) hx hb dX5_takes_14 (by decide) (fun c_13 => absurd c_13 (nI_ge hi_4 (by first | decide | omega))) (fun c_13 => ?_)
    refine lv_lload hx hb dX5_takes_17 (lv_at hl_12 3 rfl) ?_
    refine lv_aload_n hx hb dX5_takes_19 rfl (lv_at hl_12 0 rfl) ?_
    refine zm_get C hin hH_10 20 (by decide) (by decide +kernel) rfl dX5_takes_20 ?_
    refine lv_iload hx hb dX5_takes_23 (lv_at hl_12 4 rfl) ?_
    refine zm_lld C hH_10 20 rfl (j := i_4) rfl (show i_4 < 120 by omega) dX5_takes_25 ?_
    refine zl_cmp_ge (tgt := 35) hx hb dX5_takes_26 dX5_takes_27 (by decide) (fun c_14 => ?_) (fun c_14 => ?_)
    · refine lv_aload_n hx hb dX5_takes_35 rfl (lv_at hl_12 0 rfl) ?_
      refine zm_get C hin hH_10 20 (by decide) (by decide +kernel) rfl dX5_takes_36 ?_
      refine lv_iload hx hb dX5_takes_39 (lv_at hl_12 4 rfl) ?_
      refine zm_lld C hH_10 20 rfl (j := i_4) rfl (show i_4 < 120 by omega) dX5_takes_41 ?_
      refine lv_lstore (lv' := [(8, .long (((tkS L many i_4).2.2) 20 i_4)), (0, .ref (ad (0, 0, 0))), (1, .long many), (3, .long ((tkS L many i_4).1)), (5, .long ((tkS L many i_4).2.1)), (7, .int (nI i_4))]) hx hb dX5_takes_42 hl_12 (by decide) rfl (fun ls hl_15 => ?_)
      refine lv_lload hx hb dX5_takes_44 (lv_at hl_15 0 rfl) ?_
      refine lv_lconst (v := 0) hx hb dX5_takes_46 (by decide) ?_
      refine zl_cmp_le (tgt := 131) hx hb dX5_takes_47 dX5_takes_48 (by decide) (fun c_16 => ?_) (fun c_16 => ?_)
      · refine lv_iinc (v := nI (i_4 + 1)) (lv' := [(7, .int (nI (i_4 + 1))), (8, .long (((tkS L many i_4).2.2) 20 i_4)), (0, .ref (ad (0, 0, 0))), (1, .long many), (3, .long ((tkS L many i_4).1)), (5, .long ((tkS L many i_4).2.1))]) hx hb dX5_takes_131 hl_15 (k := 5) rfl (nI_1 i_4) (by decide) rfl (fun ls hl_17 => ?_)
        refine lv_goto (tgt := 8) hx hb dX5_takes_134 (by decide) ?_
        exact ih_5 _ _ _ (by rw [tkS_n (if_neg c_14) c_16]; exact hH_10) hS_11 (by rw [tkS_n (if_neg c_14) c_16]; exact lv_sub hl_17 [2, 3, 4, 5, 0] rfl)
      · refine lv_lload hx hb dX5_takes_51 (lv_at hl_15 0 rfl) ?_
        refine lv_aload_n hx hb dX5_takes_53 rfl (lv_at hl_15 1 rfl) ?_
        refine zm_get C hin hH_10 20 (by decide) (by decide +kernel) rfl dX5_takes_54 ?_
        refine lv_iload hx hb dX5_takes_57 (lv_at hl_15 5 rfl) ?_
        refine zm_lld C hH_10 20 rfl (j := i_4) rfl (show i_4 < 120 by omega) dX5_takes_59 ?_
        refine zl_cmp_ne (tgt := 74) hx hb dX5_takes_60 dX5_takes_61 (by decide) (fun c_18 => ?_) (fun c_18 => ?_)
        · exact absurd rfl c_18
        · refine lv_aload_n hx hb dX5_takes_64 rfl (lv_at hl_15 1 rfl) ?_
          refine zm_get C hin hH_10 21 (by decide) (by decide +kernel) rfl dX5_takes_65 ?_
          refine lv_iload hx hb dX5_takes_68 (lv_at hl_15 5 rfl) ?_
          refine zm_lld C hH_10 21 rfl (j := i_4) rfl (show i_4 < 120 by omega) dX5_takes_70 ?_
          refine lv_goto (tgt := 93) hx hb dX5_takes_71 (by decide) ?_
          refine lv_lstore (lv' := [(10, .long (((tkS L many i_4).2.2) 21 i_4)), (8, .long (((tkS L many i_4).2.2) 20 i_4)), (0, .ref (ad (0, 0, 0))), (1, .long many), (3, .long ((tkS L many i_4).1)), (5, .long ((tkS L many i_4).2.1)), (7, .int (nI i_4))]) hx hb dX5_takes_93 hl_15 (by decide) rfl (fun ls hl_19 => ?_)
          refine lv_lload_n hx hb dX5_takes_95 rfl (lv_at hl_19 4 rfl) ?_
          refine lv_lload hx hb dX5_takes_96 (lv_at hl_19 0 rfl) ?_
          refine lv_ladd hx hb dX5_takes_98 ?_
          refine lv_lstore_n (lv' := [(3, .long (((tkS L many i_4).1) + (((tkS L many i_4).2.2) 21 i_4))), (10, .long (((tkS L many i_4).2.2) 21 i_4)), (8, .long (((tkS L many i_4).2.2) 20 i_4)), (0, .ref (ad (0, 0, 0))), (1, .long many), (5, .long ((tkS L many i_4).2.1)), (7, .int (nI i_4))]) hx hb dX5_takes_99 rfl hl_19 (by decide) rfl (fun ls hl_20 => ?_)
          refine lv_aload_n hx hb dX5_takes_100 rfl (lv_at hl_20 3 rfl) ?_
          refine zm_get C hin hH_10 21 (by decide) (by decide +kernel) rfl dX5_takes_101 ?_
          refine lv_iload hx hb dX5_takes_104 (lv_at hl_20 6 rfl) ?_
          refine lv_dup2_11 hx hb dX5_takes_106 rfl rfl ?_
          refine zm_lld C hH_10 21 rfl (j := i_4) rfl (show i_4 < 120 by omega) dX5_takes_107 ?_
          refine lv_lload hx hb dX5_takes_108 (lv_at hl_20 1 rfl) ?_
          refine lv_lsub hx hb dX5_takes_110 ?_
          refine zm_lst C hH_10 hS_11 21 rfl (j := i_4) rfl (show i_4 < 120 by omega) dX5_takes_111 (fun H locs hH_21 hS_22 => ?_)
          refine lv_aload_n hx hb dX5_takes_112 rfl (lv_at hl_20 3 rfl) ?_
          refine zm_get C hin hH_21 20 (by decide) (by decide +kernel) rfl dX5_takes_113 ?_
          refine lv_iload hx hb dX5_takes_116 (lv_at hl_20 6 rfl) ?_
          refine lv_dup2_11 hx hb dX5_takes_118 rfl rfl ?_
          refine zm_lld C hH_21 20 rfl (j := i_4) rfl (show i_4 < 120 by omega) dX5_takes_119 ?_
          refine lv_lload hx hb dX5_takes_120 (lv_at hl_20 2 rfl) ?_
          refine lv_lsub hx hb dX5_takes_122 ?_
          refine zm_lst C hH_21 hS_22 20 rfl (j := i_4) rfl (show i_4 < 120 by omega) dX5_takes_123 (fun H locs hH_23 hS_24 => ?_)
          refine lv_lload hx hb dX5_takes_124 (lv_at hl_20 5 rfl) ?_
          refine lv_lload hx hb dX5_takes_126 (lv_at hl_20 2 rfl) ?_
          refine lv_lsub hx hb dX5_takes_128 ?_
          refine lv_lstore (lv' := [(5, .long (((tkS L many i_4).2.1) - (((tkS L many i_4).2.2) 20 i_4))), (3, .long (((tkS L many i_4).1) + (((tkS L many i_4).2.2) 21 i_4))), (10, .long (((tkS L many i_4).2.2) 21 i_4)), (8, .long (((tkS L many i_4).2.2) 20 i_4)), (0, .ref (ad (0, 0, 0))), (1, .long many), (7, .int (nI i_4))]) hx hb dX5_takes_129 hl_20 (by decide) rfl (fun ls hl_25 => ?_)
          refine lv_iinc (v := nI (i_4 + 1)) (lv' := [(7, .int (nI (i_4 + 1))), (5, .long (((tkS L many i_4).2.1) - (((tkS L many i_4).2.2) 20 i_4))), (3, .long (((tkS L many i_4).1) + (((tkS L many i_4).2.2) 21 i_4))), (10, .long (((tkS L many i_4).2.2) 21 i_4)), (8, .long (((tkS L many i_4).2.2) 20 i_4)), (0, .ref (ad (0, 0, 0))), (1, .long many)]) hx hb dX5_takes_131 hl_25 (k := 6) rfl (nI_1 i_4) (by decide) rfl (fun ls hl_26 => ?_)
          refine lv_goto (tgt := 8) hx hb dX5_takes_134 (by decide) ?_
          exact ih_5 _ _ _ (by rw [tkS_p (if_neg c_14) c_16 (if_pos c_18)]; exact hH_23) hS_24 (by rw [tkS_p (if_neg c_14) c_16 (if_pos c_18)]; exact lv_sub hl_26 [5, 6, 2, 1, 0] rfl)
    · refine lv_lload hx hb dX5_takes_30 (lv_at hl_12 3 rfl) ?_
      refine lv_goto (tgt := 42) hx hb dX5_takes_32 (by decide) ?_
      refine lv_lstore (lv' := [(8, .long ((tkS L many i_4).2.1)), (0, .ref (ad (0, 0, 0))), (1, .long many), (3, .long ((tkS L many i_4).1)), (5, .long ((tkS L many i_4).2.1)), (7, .int (nI i_4))]) hx hb dX5_takes_42 hl_12 (by decide) rfl (fun ls hl_27 => ?_)
      refine lv_lload hx hb dX5_takes_44 (lv_at hl_27 0 rfl) ?_
      refine lv_lconst (v := 0) hx hb dX5_takes_46 (by decide) ?_
      refine zl_cmp_le (tgt := 131) hx hb dX5_takes_47 dX5_takes_48 (by decide) (fun c_28 => ?_) (fun c_28 => ?_)
      · refine lv_iinc (v := nI (i_4 + 1)) (lv' := [(7, .int (nI (i_4 + 1))), (8, .long ((tkS L many i_4).2.1)), (0, .ref (ad (0, 0, 0))), (1, .long many), (3, .long ((tkS L many i_4).1)), (5, .long ((tkS L many i_4).2.1))]) hx hb dX5_takes_131 hl_27 (k := 5) rfl (nI_1 i_4) (by decide) rfl (fun ls hl_29 => ?_)
        refine lv_goto (tgt := 8) hx hb dX5_takes_134 (by decide) ?_
        exact ih_5 _ _ _ (by rw [tkS_n (if_pos c_14) c_28]; exact hH_10) hS_11 (by rw [tkS_n (if_pos c_14) c_28]; exact lv_sub hl_29 [2, 3, 4, 5, 0] rfl)
      · refine lv_lload hx hb dX5_takes_51 (lv_at hl_27 0 rfl) ?_
        refine lv_aload_n hx hb dX5_takes_53 rfl (lv_at hl_27 1 rfl) ?_
        refine zm_get C hin hH_10 20 (by decide) (by decide +kernel) rfl dX5_takes_54 ?_
        refine lv_iload hx hb dX5_takes_57 (lv_at hl_27 5 rfl) ?_
        refine zm_lld C hH_10 20 rfl (j := i_4) rfl (show i_4 < 120 by omega) dX5_takes_59 ?_
        refine zl_cmp_ne (tgt := 74) hx hb dX5_takes_60 dX5_takes_61 (by decide) (fun c_30 => ?_) (fun c_30 => ?_)
        · refine lv_aload_n hx hb dX5_takes_74 rfl (lv_at hl_27 1 rfl) ?_
          refine zm_get C hin hH_10 21 (by decide) (by decide +kernel) rfl dX5_takes_75 ?_
          refine lv_iload hx hb dX5_takes_78 (lv_at hl_27 5 rfl) ?_
          refine zm_lld C hH_10 21 rfl (j := i_4) rfl (show i_4 < 120 by omega) dX5_takes_80 ?_
          refine lv_lload hx hb dX5_takes_81 (lv_at hl_27 0 rfl) ?_
          refine lv_aload_n hx hb dX5_takes_83 rfl (lv_at hl_27 1 rfl) ?_
          refine zm_get C hin hH_10 20 (by decide) (by decide +kernel) rfl dX5_takes_84 ?_
          refine lv_iload hx hb dX5_takes_87 (lv_at hl_27 5 rfl) ?_
          refine zm_lld C hH_10 20 rfl (j := i_4) rfl (show i_4 < 120 by omega) dX5_takes_89 ?_
          refine zk_cl (zk_rS (As := [.long (((tkS L many i_4).2.2) 21 i_4), .long ((tkS L many i_4).2.1), .long (((tkS L many i_4).2.2) 20 i_4)]) (rest := []) (n := 3) C (cM_share l D cA A g _ (((tkS L many i_4).2.2) 21 i_4) ((tkS L many i_4).2.1) (((tkS L many i_4).2.2) 20 i_4) (by intro z; have h := Int64.lt_trans c_28 c_14; rw [z] at h; exact absurd h Int64.lt_irrefl)) hH_10 hS_11 gX5_takes_X5_share rfl rfl (by decide +kernel) ⟨Nat.le_of_ble_eq_true rfl, Nat.le_of_ble_eq_true rfl⟩ hl_27 rfl (Nat.le_of_ble_eq_true rfl) dX5_takes_90 ⟨Nat.le_of_ble_eq_true rfl, Nat.le_of_ble_eq_true rfl⟩) hS_11 (fun r_31 w_32 H locs hP hH_33 hS_34 => ?_)
          obtain ⟨rfl, rfl⟩ := hP
          refine lv_lstore (lv' := [(10, .long (shareV (((tkS L many i_4).2.2) 21 i_4) ((tkS L many i_4).2.1) (((tkS L many i_4).2.2) 20 i_4))), (8, .long ((tkS L many i_4).2.1)), (0, .ref (ad (0, 0, 0))), (1, .long many), (3, .long ((tkS L many i_4).1)), (5, .long ((tkS L many i_4).2.1)), (7, .int (nI i_4))]) hx hb dX5_takes_93 hl_27 (by decide) rfl (fun ls hl_35 => ?_)
          refine lv_lload_n hx hb dX5_takes_95 rfl (lv_at hl_35 4 rfl) ?_
          refine lv_lload hx hb dX5_takes_96 (lv_at hl_35 0 rfl) ?_
          refine lv_ladd hx hb dX5_takes_98 ?_
          refine lv_lstore_n (lv' := [(3, .long (((tkS L many i_4).1) + (shareV (((tkS L many i_4).2.2) 21 i_4) ((tkS L many i_4).2.1) (((tkS L many i_4).2.2) 20 i_4)))), (10, .long (shareV (((tkS L many i_4).2.2) 21 i_4) ((tkS L many i_4).2.1) (((tkS L many i_4).2.2) 20 i_4))), (8, .long ((tkS L many i_4).2.1)), (0, .ref (ad (0, 0, 0))), (1, .long many), (5, .long ((tkS L many i_4).2.1)), (7, .int (nI i_4))]) hx hb dX5_takes_99 rfl hl_35 (by decide) rfl (fun ls hl_36 => ?_)
          refine lv_aload_n hx hb dX5_takes_100 rfl (lv_at hl_36 3 rfl) ?_
          refine zm_get C hin hH_33 21 (by decide) (by decide +kernel) rfl dX5_takes_101 ?_
          refine lv_iload hx hb dX5_takes_104 (lv_at hl_36 6 rfl) ?_
          refine lv_dup2_11 hx hb dX5_takes_106 rfl rfl ?_
          refine zm_lld C hH_33 21 rfl (j := i_4) rfl (show i_4 < 120 by omega) dX5_takes_107 ?_
          refine lv_lload hx hb dX5_takes_108 (lv_at hl_36 1 rfl) ?_
          refine lv_lsub hx hb dX5_takes_110 ?_
          refine zm_lst C hH_33 hS_34 21 rfl (j := i_4) rfl (show i_4 < 120 by omega) dX5_takes_111 (fun H locs hH_37 hS_38 => ?_)
          refine lv_aload_n hx hb dX5_takes_112 rfl (lv_at hl_36 3 rfl) ?_
          refine zm_get C hin hH_37 20 (by decide) (by decide +kernel) rfl dX5_takes_113 ?_
          refine lv_iload hx hb dX5_takes_116 (lv_at hl_36 6 rfl) ?_
          refine lv_dup2_11 hx hb dX5_takes_118 rfl rfl ?_
          refine zm_lld C hH_37 20 rfl (j := i_4) rfl (show i_4 < 120 by omega) dX5_takes_119 ?_
          refine lv_lload hx hb dX5_takes_120 (lv_at hl_36 2 rfl) ?_
          refine lv_lsub hx hb dX5_takes_122 ?_
          refine zm_lst C hH_37 hS_38 20 rfl (j := i_4) rfl (show i_4 < 120 by omega) dX5_takes_123 (fun H locs hH_39 hS_40 => ?_)
          refine lv_lload hx hb dX5_takes_124 (lv_at hl_36 5 rfl) ?_
          refine lv_lload hx hb dX5_takes_126 (lv_at hl_36 2 rfl) ?_
          refine lv_lsub hx hb dX5_takes_128 ?_
          refine lv_lstore (lv' := [(5, .long (((tkS L many i_4).2.1) - ((tkS L many i_4).2.1))), (3, .long (((tkS L many i_4).1) + (shareV (((tkS L many i_4).2.2) 21 i_4) ((tkS L many i_4).2.1) (((tkS L many i_4).2.2) 20 i_4)))), (10, .long (shareV (((tkS L many i_4).2.2) 21 i_4) ((tkS L many i_4).2.1) (((tkS L many i_4).2.2) 20 i_4))), (8, .long ((tkS L many i_4).2.1)), (0, .ref (ad (0, 0, 0))), (1, .long many), (7, .int (nI i_4))]) hx hb dX5_takes_129 hl_36 (by decide) rfl (fun ls hl_41 => ?_)
          refine lv_iinc (v := nI (i_4 + 1)) (lv' := [(7, .int (nI (i_4 + 1))), (5, .long (((tkS L many i_4).2.1) - ((tkS L many i_4).2.1))), (3, .long (((tkS L many i_4).1) + (shareV (((tkS L many i_4).2.2) 21 i_4) ((tkS L many i_4).2.1) (((tkS L many i_4).2.2) 20 i_4)))), (10, .long (shareV (((tkS L many i_4).2.2) 21 i_4) ((tkS L many i_4).2.1) (((tkS L many i_4).2.2) 20 i_4))), (8, .long ((tkS L many i_4).2.1)), (0, .ref (ad (0, 0, 0))), (1, .long many)]) hx hb dX5_takes_131 hl_41 (k := 6) rfl (nI_1 i_4) (by decide) rfl (fun ls hl_42 => ?_)
          refine lv_goto (tgt := 8) hx hb dX5_takes_134 (by decide) ?_
          exact ih_5 _ _ _ (by rw [tkS_p (if_pos c_14) c_28 (if_neg c_30)]; exact hH_39) hS_40 (by rw [tkS_p (if_pos c_14) c_28 (if_neg c_30)]; exact lv_sub hl_42 [5, 6, 2, 1, 0] rfl)
        · refine lv_aload_n hx hb dX5_takes_64 rfl (lv_at hl_27 1 rfl) ?_
          refine zm_get C hin hH_10 21 (by decide) (by decide +kernel) rfl dX5_takes_65 ?_
          refine lv_iload hx hb dX5_takes_68 (lv_at hl_27 5 rfl) ?_
          refine zm_lld C hH_10 21 rfl (j := i_4) rfl (show i_4 < 120 by omega) dX5_takes_70 ?_
          refine lv_goto (tgt := 93) hx hb dX5_takes_71 (by decide) ?_
          refine lv_lstore (lv' := [(10, .long (((tkS L many i_4).2.2) 21 i_4)), (8, .long ((tkS L many i_4).2.1)), (0, .ref (ad (0, 0, 0))), (1, .long many), (3, .long ((tkS L many i_4).1)), (5, .long ((tkS L many i_4).2.1)), (7, .int (nI i_4))]) hx hb dX5_takes_93 hl_27 (by decide) rfl (fun ls hl_43 => ?_)
          refine lv_lload_n hx hb dX5_takes_95 rfl (lv_at hl_43 4 rfl) ?_
          refine lv_lload hx hb dX5_takes_96 (lv_at hl_43 0 rfl) ?_
          refine lv_ladd hx hb dX5_takes_98 ?_
          refine lv_lstore_n (lv' := [(3, .long (((tkS L many i_4).1) + (((tkS L many i_4).2.2) 21 i_4))), (10, .long (((tkS L many i_4).2.2) 21 i_4)), (8, .long ((tkS L many i_4).2.1)), (0, .ref (ad (0, 0, 0))), (1, .long many), (5, .long ((tkS L many i_4).2.1)), (7, .int (nI i_4))]) hx hb dX5_takes_99 rfl hl_43 (by decide) rfl (fun ls hl_44 => ?_)
          refine lv_aload_n hx hb dX5_takes_100 rfl (lv_at hl_44 3 rfl) ?_
          refine zm_get C hin hH_10 21 (by decide) (by decide +kernel) rfl dX5_takes_101 ?_
          refine lv_iload hx hb dX5_takes_104 (lv_at hl_44 6 rfl) ?_
          refine lv_dup2_11 hx hb dX5_takes_106 rfl rfl ?_
          refine zm_lld C hH_10 21 rfl (j := i_4) rfl (show i_4 < 120 by omega) dX5_takes_107 ?_
          refine lv_lload hx hb dX5_takes_108 (lv_at hl_44 1 rfl) ?_
          refine lv_lsub hx hb dX5_takes_110 ?_
          refine zm_lst C hH_10 hS_11 21 rfl (j := i_4) rfl (show i_4 < 120 by omega) dX5_takes_111 (fun H locs hH_45 hS_46 => ?_)
          refine lv_aload_n hx hb dX5_takes_112 rfl (lv_at hl_44 3 rfl) ?_
          refine zm_get C hin hH_45 20 (by decide) (by decide +kernel) rfl dX5_takes_113 ?_
          refine lv_iload hx hb dX5_takes_116 (lv_at hl_44 6 rfl) ?_
          refine lv_dup2_11 hx hb dX5_takes_118 rfl rfl ?_
          refine zm_lld C hH_45 20 rfl (j := i_4) rfl (show i_4 < 120 by omega) dX5_takes_119 ?_
          refine lv_lload hx hb dX5_takes_120 (lv_at hl_44 2 rfl) ?_
          refine lv_lsub hx hb dX5_takes_122 ?_
          refine zm_lst C hH_45 hS_46 20 rfl (j := i_4) rfl (show i_4 < 120 by omega) dX5_takes_123 (fun H locs hH_47 hS_48 => ?_)
          refine lv_lload hx hb dX5_takes_124 (lv_at hl_44 5 rfl) ?_
          refine lv_lload hx hb dX5_takes_126 (lv_at hl_44 2 rfl) ?_
          refine lv_lsub hx hb dX5_takes_128 ?_
          refine lv_lstore (lv' := [(5, .long (((tkS L many i_4).2.1) - ((tkS L many i_4).2.1))), (3, .long (((tkS L many i_4).1) + (((tkS L many i_4).2.2) 21 i_4))), (10, .long (((tkS L many i_4).2.2) 21 i_4)), (8, .long ((tkS L many i_4).2.1)), (0, .ref (ad (0, 0, 0))), (1, .long many), (7, .int (nI i_4))]) hx hb dX5_takes_129 hl_44 (by decide) rfl (fun ls hl_49 => ?_)
          refine lv_iinc (v := nI (i_4 + 1)) (lv' := [(7, .int (nI (i_4 + 1))), (5, .long (((tkS L many i_4).2.1) - ((tkS L many i_4).2.1))), (3, .long (((tkS L many i_4).1) + (((tkS L many i_4).2.2) 21 i_4))), (10, .long (((tkS L many i_4).2.2) 21 i_4)), (8, .long ((tkS L many i_4).2.1)), (0, .ref (ad (0, 0, 0))), (1, .long many)]) hx hb dX5_takes_131 hl_49 (k := 6) rfl (nI_1 i_4) (by decide) rfl (fun ls hl_50 => ?_)
          refine lv_goto (tgt := 8) hx hb dX5_takes_134 (by decide) ?_
          exact ih_5 _ _ _ (by rw [tkS_p (if_pos c_14) c_28 (if_pos c_30)]; exact hH_47) hS_48 (by rw [tkS_p (if_pos c_14) c_28 (if_pos c_30)]; exact lv_sub hl_50 [5, 6, 2, 1, 0] rfl)
