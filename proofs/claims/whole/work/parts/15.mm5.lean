def rmM_cash : Room := { frames := 2, cells := 0, slots := 0, locals := 43 }
set_option maxHeartbeats 600000 in
set_option maxRecDepth 100000 in
theorem cM_cash (l : Launch) (D : va_G) (cA : Nat → ClassId) (A : Nat → Prop) (g : Nat → Nat) (ad : zk_K → Nat) (dy nc nt nl : Nat) (th : Int32) (mo : Int64) (I : zIA) (L : zLA) (cx : Int32) (hnc : nc ≤ 12) : zM l yX5_cash wsX5_cash rmM_cash D (zt cA) A g [.ref (ad (0, 0, 0)), .int cx] (mw cA ad dy nc nt nl th mo I L) (zQl (fun r w' => (¬ (cx = -1 ∨ zIn cx nc) ∧ mw cA ad dy nc nt nl 1 mo I L = w') ∨ (cx = -1 ∧ mo = r ∧ mw cA ad dy nc nt nl 0 mo I L = w') ∨ (∃ c, c < nc ∧ cx = nI c ∧ L 6 c = r ∧ mw cA ad dy nc nt nl 0 mo I L = w'))) := by
  refine zM_of (cc := cX5_cash) (maxL := 2) (ret := (some .long)) (own := RX5) (by decide +kernel) rfl (Nat.le_of_ble_eq_true rfl) rfl ?_
  intro p e s m below meth c C hr hnm H locs ls hH hS hl
  obtain ⟨⟨hx, hb, hml, hown, hts⟩, hG, hlk⟩ := id C
  have hin : ∀ w ∈ wsX50, w ∈ wsX5_cash := by decide +kernel
  have hl : lv_has ls 2 [(0, .ref (ad (0, 0, 0))), (1, .int cx)] := hl
  refine lv_aload_n hx hb dX5_cash_0 rfl (lv_at hl 0 rfl) ?_
  refine lv_iload_n hx hb dX5_cash_1 rfl (lv_at hl 1 rfl) ?_
  refine lv_iconst (v := (-1)) hx hb dX5_cash_2 (by decide) ?_
  refine lv_icmp_eq (tgt := 14) hx hb dX5_cash_3 (by decide) (fun c_1 => ?_) (fun c_1 => ?_)
  · refine lv_iconst (v := 0) hx hb dX5_cash_14 (by decide) ?_
    refine lv_goto (tgt := 19) hx hb dX5_cash_15 (by decide) ?_
    refine zk_ci (zk_rV (As := [.int 0]) (rest := []) (n := 1) (k := (0, 0, 0)) C (cM_fails l D cA A g ad dy nc nt nl th mo I L 0) hH hS mL_o rfl rfl gX5_cash_X5_fails rfl rfl (by decide +kernel) ⟨Nat.le_of_ble_eq_true rfl, Nat.le_of_ble_eq_true rfl⟩ hl rfl (Nat.le_of_ble_eq_true rfl) dX5_cash_19 ⟨Nat.le_of_ble_eq_true rfl, Nat.le_of_ble_eq_true rfl⟩) hS (fun r_2 w_3 H locs hP hH_4 hS_5 => ?_)
    obtain ⟨rfl, rfl⟩ := hP
    refine lv_if_eq (tgt := 29) hx hb dX5_cash_22 (by decide) (fun c_6 => ?_) (fun c_6 => absurd c_6 (by decide))
    refine lv_iload_n hx hb dX5_cash_29 rfl (lv_at hl 1 rfl) ?_
    refine lv_iconst (v := (-1)) hx hb dX5_cash_30 (by decide) ?_
    refine lv_icmp_ne (tgt := 41) hx hb dX5_cash_31 (by decide) (fun c_7 => absurd c_1 c_7) (fun c_7 => ?_)
    refine lv_aload_n hx hb dX5_cash_34 rfl (lv_at hl 0 rfl) ?_
    refine zm_get C hin hH_4 4 (by decide) (by decide +kernel) rfl dX5_cash_35 ?_
    refine lv_goto (tgt := 47) hx hb dX5_cash_38 (by decide) ?_
    refine zr_lret C hr ?_ hH_4 hS_5 (Nat.le_of_ble_eq_true rfl) (Nat.le_of_ble_eq_true rfl) dX5_cash_47
    exact Or.inr (Or.inl ⟨by assumption, rfl, rfl⟩)
  · refine lv_aload_n hx hb dX5_cash_6 rfl (lv_at hl 0 rfl) ?_
    refine lv_iload_n hx hb dX5_cash_7 rfl (lv_at hl 1 rfl) ?_
    refine zk_ci (zk_rV (As := [.int cx]) (rest := [.ref (ad (0, 0, 0))]) (n := 1) (k := (0, 0, 0)) C (cM_isClient l D cA A g ad dy nc nt nl th mo I L cx hnc) hH hS mL_o rfl rfl gX5_cash_X5_isClient rfl rfl (by decide +kernel) ⟨Nat.le_of_ble_eq_true rfl, Nat.le_of_ble_eq_true rfl⟩ hl rfl (Nat.le_of_ble_eq_true rfl) dX5_cash_8 ⟨Nat.le_of_ble_eq_true rfl, Nat.le_of_ble_eq_true rfl⟩) hS (fun r_8 w_9 H locs hP hH_10 hS_11 => ?_)
    obtain ⟨rfl, (⟨rfl, h_r_8⟩ | ⟨rfl, h_r_8⟩)⟩ := hP
    · obtain ⟨cxj, hcxj, rfl⟩ := h_r_8
      refine lv_if_eq (tgt := 18) hx hb dX5_cash_11 (by decide) (fun c_12 => absurd c_12 (by decide)) (fun c_12 => ?_)
      refine lv_iconst (v := 0) hx hb dX5_cash_14 (by decide) ?_
      refine lv_goto (tgt := 19) hx hb dX5_cash_15 (by decide) ?_
      refine zk_ci (zk_rV (As := [.int 0]) (rest := []) (n := 1) (k := (0, 0, 0)) C (cM_fails l D cA A g ad dy nc nt nl th mo I L 0) hH_10 hS_11 mL_o rfl rfl gX5_cash_X5_fails rfl rfl (by decide +kernel) ⟨Nat.le_of_ble_eq_true rfl, Nat.le_of_ble_eq_true rfl⟩ hl rfl (Nat.le_of_ble_eq_true rfl) dX5_cash_19 ⟨Nat.le_of_ble_eq_true rfl, Nat.le_of_ble_eq_true rfl⟩) hS_11 (fun r_13 w_14 H locs hP hH_15 hS_16 => ?_)
      obtain ⟨rfl, rfl⟩ := hP
      refine lv_if_eq (tgt := 29) hx hb dX5_cash_22 (by decide) (fun c_17 => ?_) (fun c_17 => absurd c_17 (by decide))
      refine lv_iload_n hx hb dX5_cash_29 rfl (lv_at hl 1 rfl) ?_
      refine lv_iconst (v := (-1)) hx hb dX5_cash_30 (by decide) ?_
      refine lv_icmp_ne (tgt := 41) hx hb dX5_cash_31 (by decide) (fun c_18 => ?_) (fun c_18 => absurd c_18 (c_1))
      refine lv_aload_n hx hb dX5_cash_41 rfl (lv_at hl 0 rfl) ?_
      refine zm_get C hin hH_15 6 (by decide) (by decide +kernel) rfl dX5_cash_42 ?_
      refine lv_iload_n hx hb dX5_cash_45 rfl (lv_at hl 1 rfl) ?_
      refine zm_lld C hH_15 6 rfl (j := cxj) rfl (show cxj < 12 by omega) dX5_cash_46 ?_
      refine zr_lret C hr ?_ hH_15 hS_16 (Nat.le_of_ble_eq_true rfl) (Nat.le_of_ble_eq_true rfl) dX5_cash_47
      exact Or.inr (Or.inr ⟨cxj, hcxj, rfl, rfl, rfl⟩)
    · refine lv_if_eq (tgt := 18) hx hb dX5_cash_11 (by decide) (fun c_19 => ?_) (fun c_19 => absurd c_19 (by decide))
      refine lv_iconst (v := 1) hx hb dX5_cash_18 (by decide) ?_
      refine zk_ci (zk_rV (As := [.int 1]) (rest := []) (n := 1) (k := (0, 0, 0)) C (cM_fails l D cA A g ad dy nc nt nl th mo I L 1) hH_10 hS_11 mL_o rfl rfl gX5_cash_X5_fails rfl rfl (by decide +kernel) ⟨Nat.le_of_ble_eq_true rfl, Nat.le_of_ble_eq_true rfl⟩ hl rfl (Nat.le_of_ble_eq_true rfl) dX5_cash_19 ⟨Nat.le_of_ble_eq_true rfl, Nat.le_of_ble_eq_true rfl⟩) hS_11 (fun r_20 w_21 H locs hP hH_22 hS_23 => ?_)
      obtain ⟨rfl, rfl⟩ := hP
      refine lv_if_eq (tgt := 29) hx hb dX5_cash_22 (by decide) (fun c_24 => absurd c_24 (by decide)) (fun c_24 => ?_)
      refine lv_lconst (v := 0) hx hb dX5_cash_25 (by decide) ?_
      refine lv_goto (tgt := 47) hx hb dX5_cash_26 (by decide) ?_
      refine zr_lret C hr ?_ hH_22 hS_23 (Nat.le_of_ble_eq_true rfl) (Nat.le_of_ble_eq_true rfl) dX5_cash_47
      exact Or.inl ⟨fun z => by first | exact absurd z (by assumption) | exact z.elim (by assumption) (by assumption) | exact absurd z.1 (by assumption) | exact absurd z.2 (by assumption) | exact z.1.elim (by assumption) (by assumption) | exact absurd z.2.1 (by assumption) | exact absurd (by assumption) z.2.2 | exact absurd z.2.2 (by assumption), rfl⟩
def rmM_parts : Room := { frames := 2, cells := 0, slots := 0, locals := 43 }
set_option maxHeartbeats 600000 in
set_option maxRecDepth 100000 in
theorem cM_parts (l : Launch) (D : va_G) (cA : Nat → ClassId) (A : Nat → Prop) (g : Nat → Nat) (ad : zk_K → Nat) (dy nc nt nl : Nat) (th : Int32) (mo : Int64) (I : zIA) (L : zLA) (cx f : Int32) (hnc : nc ≤ 12) : zM l yX5_parts wsX5_parts rmM_parts D (zt cA) A g [.ref (ad (0, 0, 0)), .int cx, .int f] (mw cA ad dy nc nt nl th mo I L) (zQl (fun r w' => (¬ ((cx = -1 ∨ zIn cx nc) ∧ zIn f 6) ∧ mw cA ad dy nc nt nl 1 mo I L = w') ∨ (∃ k, k < 6 ∧ f = nI k ∧ ((cx = -1 ∧ L 3 k = r ∧ mw cA ad dy nc nt nl 0 mo I L = w') ∨ (∃ c, c < nc ∧ cx = nI c ∧ L 8 (6 * c + k) = r ∧ mw cA ad dy nc nt nl 0 mo I L = w'))))) := by
  refine zM_of (cc := cX5_parts) (maxL := 4) (ret := (some .long)) (own := RX5) (by decide +kernel) rfl (Nat.le_of_ble_eq_true rfl) rfl ?_
  intro p e s m below meth c C hr hnm H locs ls hH hS hl
  obtain ⟨⟨hx, hb, hml, hown, hts⟩, hG, hlk⟩ := id C
  have hin : ∀ w ∈ wsX50, w ∈ wsX5_parts := by decide +kernel
  have hl : lv_has ls 4 [(0, .ref (ad (0, 0, 0))), (1, .int cx), (2, .int f)] := hl
  refine lv_iload_n hx hb dX5_parts_0 rfl (lv_at hl 1 rfl) ?_
  refine lv_iconst (v := (-1)) hx hb dX5_parts_1 (by decide) ?_
  refine lv_icmp_eq (tgt := 13) hx hb dX5_parts_2 (by decide) (fun c_1 => ?_) (fun c_1 => ?_)
  · refine lv_iload_n hx hb dX5_parts_13 rfl (lv_at hl 2 rfl) ?_
    refine zk_ci (zk_rS (As := [.int f]) (rest := []) (n := 1) C (cM_isFund l D cA A g _ f) hH hS gX5_parts_X5_isFund rfl rfl (by decide +kernel) ⟨Nat.le_of_ble_eq_true rfl, Nat.le_of_ble_eq_true rfl⟩ hl rfl (Nat.le_of_ble_eq_true rfl) dX5_parts_14 ⟨Nat.le_of_ble_eq_true rfl, Nat.le_of_ble_eq_true rfl⟩) hS (fun r_2 w_3 H locs hP hH_4 hS_5 => ?_)
    obtain ⟨rfl, (⟨rfl, h_r_2⟩ | ⟨rfl, h_r_2⟩)⟩ := hP
    · obtain ⟨fj, hfj, rfl⟩ := h_r_2
      refine lv_if_eq (tgt := 24) hx hb dX5_parts_17 (by decide) (fun c_6 => absurd c_6 (by decide)) (fun c_6 => ?_)
      refine lv_iconst (v := 1) hx hb dX5_parts_20 (by decide) ?_
      refine lv_goto (tgt := 25) hx hb dX5_parts_21 (by decide) ?_
      refine lv_istore_n (lv' := [(3, .int 1), (0, .ref (ad (0, 0, 0))), (1, .int cx), (2, .int (nI fj))]) hx hb dX5_parts_25 rfl hl (by decide) rfl (fun ls hl_7 => ?_)
      refine lv_aload_n hx hb dX5_parts_26 rfl (lv_at hl_7 1 rfl) ?_
      refine lv_iload_n hx hb dX5_parts_27 rfl (lv_at hl_7 0 rfl) ?_
      refine lv_if_eq (tgt := 35) hx hb dX5_parts_28 (by decide) (fun c_8 => absurd c_8 (by decide)) (fun c_8 => ?_)
      refine lv_iconst (v := 0) hx hb dX5_parts_31 (by decide) ?_
      refine lv_goto (tgt := 36) hx hb dX5_parts_32 (by decide) ?_
      refine zk_ci (zk_rV (As := [.int 0]) (rest := []) (n := 1) (k := (0, 0, 0)) C (cM_fails l D cA A g ad dy nc nt nl th mo I L 0) hH_4 hS_5 mL_o rfl rfl gX5_parts_X5_fails rfl rfl (by decide +kernel) ⟨Nat.le_of_ble_eq_true rfl, Nat.le_of_ble_eq_true rfl⟩ hl_7 rfl (Nat.le_of_ble_eq_true rfl) dX5_parts_36 ⟨Nat.le_of_ble_eq_true rfl, Nat.le_of_ble_eq_true rfl⟩) hS_5 (fun r_9 w_10 H locs hP hH_11 hS_12 => ?_)
      obtain ⟨rfl, rfl⟩ := hP
      refine lv_if_eq (tgt := 46) hx hb dX5_parts_39 (by decide) (fun c_13 => ?_) (fun c_13 => absurd c_13 (by decide))
      refine lv_iload_n hx hb dX5_parts_46 rfl (lv_at hl_7 2 rfl) ?_
      refine lv_iconst (v := (-1)) hx hb dX5_parts_47 (by decide) ?_
      refine lv_icmp_ne (tgt := 60) hx hb dX5_parts_48 (by decide) (fun c_14 => absurd c_1 c_14) (fun c_14 => ?_)
      refine lv_aload_n hx hb dX5_parts_51 rfl (lv_at hl_7 1 rfl) ?_
      refine zm_get C hin hH_11 3 (by decide) (by decide +kernel) rfl dX5_parts_52 ?_
      refine lv_iload_n hx hb dX5_parts_55 rfl (lv_at hl_7 3 rfl) ?_
      refine zm_lld C hH_11 3 rfl (j := fj) rfl (show fj < 6 by omega) dX5_parts_56 ?_
      refine lv_goto (tgt := 71) hx hb dX5_parts_57 (by decide) ?_
      refine zr_lret C hr ?_ hH_11 hS_12 (Nat.le_of_ble_eq_true rfl) (Nat.le_of_ble_eq_true rfl) dX5_parts_71
      exact Or.inr ⟨fj, hfj, rfl, Or.inl ⟨by assumption, rfl, rfl⟩⟩
    · refine lv_if_eq (tgt := 24) hx hb dX5_parts_17 (by decide) (fun c_15 => ?_) (fun c_15 => absurd c_15 (by decide))
      refine lv_iconst (v := 0) hx hb dX5_parts_24 (by decide) ?_
      refine lv_istore_n (lv' := [(3, .int 0), (0, .ref (ad (0, 0, 0))), (1, .int cx), (2, .int f)]) hx hb dX5_parts_25 rfl hl (by decide) rfl (fun ls hl_16 => ?_)
      refine lv_aload_n hx hb dX5_parts_26 rfl (lv_at hl_16 1 rfl) ?_
      refine lv_iload_n hx hb dX5_parts_27 rfl (lv_at hl_16 0 rfl) ?_
      refine lv_if_eq (tgt := 35) hx hb dX5_parts_28 (by decide) (fun c_17 => ?_) (fun c_17 => absurd c_17 (by decide))
      refine lv_iconst (v := 1) hx hb dX5_parts_35 (by decide) ?_
      refine zk_ci (zk_rV (As := [.int 1]) (rest := []) (n := 1) (k := (0, 0, 0)) C (cM_fails l D cA A g ad dy nc nt nl th mo I L 1) hH_4 hS_5 mL_o rfl rfl gX5_parts_X5_fails rfl rfl (by decide +kernel) ⟨Nat.le_of_ble_eq_true rfl, Nat.le_of_ble_eq_true rfl⟩ hl_16 rfl (Nat.le_of_ble_eq_true rfl) dX5_parts_36 ⟨Nat.le_of_ble_eq_true rfl, Nat.le_of_ble_eq_true rfl⟩) hS_5 (fun r_18 w_19 H locs hP hH_20 hS_21 => ?_)
      obtain ⟨rfl, rfl⟩ := hP
      refine lv_if_eq (tgt := 46) hx hb dX5_parts_39 (by decide) (fun c_22 => absurd c_22 (by decide)) (fun c_22 => ?_)
      refine lv_lconst (v := 0) hx hb dX5_parts_42 (by decide) ?_
      refine lv_goto (tgt := 71) hx hb dX5_parts_43 (by decide) ?_
      refine zr_lret C hr ?_ hH_20 hS_21 (Nat.le_of_ble_eq_true rfl) (Nat.le_of_ble_eq_true rfl) dX5_parts_71
      exact Or.inl ⟨fun z => by first | exact absurd z (by assumption) | exact z.elim (by assumption) (by assumption) | exact absurd z.1 (by assumption) | exact absurd z.2 (by assumption) | exact z.1.elim (by assumption) (by assumption) | exact absurd z.2.1 (by assumption) | exact absurd (by assumption) z.2.2 | exact absurd z.2.2 (by assumption), rfl⟩
  · refine lv_aload_n hx hb dX5_parts_5 rfl (lv_at hl 0 rfl) ?_
    refine lv_iload_n hx hb dX5_parts_6 rfl (lv_at hl 1 rfl) ?_
    refine zk_ci (zk_rV (As := [.int cx]) (rest := []) (n := 1) (k := (0, 0, 0)) C (cM_isClient l D cA A g ad dy nc nt nl th mo I L cx hnc) hH hS mL_o rfl rfl gX5_parts_X5_isClient rfl rfl (by decide +kernel) ⟨Nat.le_of_ble_eq_true rfl, Nat.le_of_ble_eq_true rfl⟩ hl rfl (Nat.le_of_ble_eq_true rfl) dX5_parts_7 ⟨Nat.le_of_ble_eq_true rfl, Nat.le_of_ble_eq_true rfl⟩) hS (fun r_23 w_24 H locs hP hH_25 hS_26 => ?_)
    obtain ⟨rfl, (⟨rfl, h_r_23⟩ | ⟨rfl, h_r_23⟩)⟩ := hP
    · obtain ⟨cxj, hcxj, rfl⟩ := h_r_23
      refine lv_if_eq (tgt := 24) hx hb dX5_parts_10 (by decide) (fun c_27 => absurd c_27 (by decide)) (fun c_27 => ?_)
      refine lv_iload_n hx hb dX5_parts_13 rfl (lv_at hl 2 rfl) ?_
      refine zk_ci (zk_rS (As := [.int f]) (rest := []) (n := 1) C (cM_isFund l D cA A g _ f) hH_25 hS_26 gX5_parts_X5_isFund rfl rfl (by decide +kernel) ⟨Nat.le_of_ble_eq_true rfl, Nat.le_of_ble_eq_true rfl⟩ hl rfl (Nat.le_of_ble_eq_true rfl) dX5_parts_14 ⟨Nat.le_of_ble_eq_true rfl, Nat.le_of_ble_eq_true rfl⟩) hS_26 (fun r_28 w_29 H locs hP hH_30 hS_31 => ?_)
      obtain ⟨rfl, (⟨rfl, h_r_28⟩ | ⟨rfl, h_r_28⟩)⟩ := hP
      · obtain ⟨fj, hfj, rfl⟩ := h_r_28
        refine lv_if_eq (tgt := 24) hx hb dX5_parts_17 (by decide) (fun c_32 => absurd c_32 (by decide)) (fun c_32 => ?_)
        refine lv_iconst (v := 1) hx hb dX5_parts_20 (by decide) ?_
        refine lv_goto (tgt := 25) hx hb dX5_parts_21 (by decide) ?_
        refine lv_istore_n (lv' := [(3, .int 1), (0, .ref (ad (0, 0, 0))), (1, .int (nI cxj)), (2, .int (nI fj))]) hx hb dX5_parts_25 rfl hl (by decide) rfl (fun ls hl_33 => ?_)
        refine lv_aload_n hx hb dX5_parts_26 rfl (lv_at hl_33 1 rfl) ?_
        refine lv_iload_n hx hb dX5_parts_27 rfl (lv_at hl_33 0 rfl) ?_
        refine lv_if_eq (tgt := 35) hx hb dX5_parts_28 (by decide) (fun c_34 => absurd c_34 (by decide)) (fun c_34 => ?_)
        refine lv_iconst (v := 0) hx hb dX5_parts_31 (by decide) ?_
        refine lv_goto (tgt := 36) hx hb dX5_parts_32 (by decide) ?_
        refine zk_ci (zk_rV (As := [.int 0]) (rest := []) (n := 1) (k := (0, 0, 0)) C (cM_fails l D cA A g ad dy nc nt nl th mo I L 0) hH_30 hS_31 mL_o rfl rfl gX5_parts_X5_fails rfl rfl (by decide +kernel) ⟨Nat.le_of_ble_eq_true rfl, Nat.le_of_ble_eq_true rfl⟩ hl_33 rfl (Nat.le_of_ble_eq_true rfl) dX5_parts_36 ⟨Nat.le_of_ble_eq_true rfl, Nat.le_of_ble_eq_true rfl⟩) hS_31 (fun r_35 w_36 H locs hP hH_37 hS_38 => ?_)
        obtain ⟨rfl, rfl⟩ := hP
        refine lv_if_eq (tgt := 46) hx hb dX5_parts_39 (by decide) (fun c_39 => ?_) (fun c_39 => absurd c_39 (by decide))
        refine lv_iload_n hx hb dX5_parts_46 rfl (lv_at hl_33 2 rfl) ?_
        refine lv_iconst (v := (-1)) hx hb dX5_parts_47 (by decide) ?_
        refine lv_icmp_ne (tgt := 60) hx hb dX5_parts_48 (by decide) (fun c_40 => ?_) (fun c_40 => absurd c_40 (c_1))
        refine lv_aload_n hx hb dX5_parts_60 rfl (lv_at hl_33 1 rfl) ?_
        refine zm_get C hin hH_37 8 (by decide) (by decide +kernel) rfl dX5_parts_61 ?_
        refine lv_bipush (v := 6) hx hb dX5_parts_64 (by decide) ?_
        refine lv_iload_n hx hb dX5_parts_66 rfl (lv_at hl_33 2 rfl) ?_
        refine lv_imul hx hb dX5_parts_67 ?_
        refine lv_iload_n hx hb dX5_parts_68 rfl (lv_at hl_33 3 rfl) ?_
        refine lv_iadd hx hb dX5_parts_69 ?_
        refine zm_lld C hH_37 8 rfl (j := ((6 * cxj) + fj)) (zi_add (zi_mul rfl rfl) rfl) (show ((6 * cxj) + fj) < 72 by omega) dX5_parts_70 ?_
        refine zr_lret C hr ?_ hH_37 hS_38 (Nat.le_of_ble_eq_true rfl) (Nat.le_of_ble_eq_true rfl) dX5_parts_71
        exact Or.inr ⟨fj, hfj, rfl, Or.inr ⟨cxj, hcxj, rfl, rfl, rfl⟩⟩
      · refine lv_if_eq (tgt := 24) hx hb dX5_parts_17 (by decide) (fun c_41 => ?_) (fun c_41 => absurd c_41 (by decide))
        refine lv_iconst (v := 0) hx hb dX5_parts_24 (by decide) ?_
        refine lv_istore_n (lv' := [(3, .int 0), (0, .ref (ad (0, 0, 0))), (1, .int (nI cxj)), (2, .int f)]) hx hb dX5_parts_25 rfl hl (by decide) rfl (fun ls hl_42 => ?_)
        refine lv_aload_n hx hb dX5_parts_26 rfl (lv_at hl_42 1 rfl) ?_
        refine lv_iload_n hx hb dX5_parts_27 rfl (lv_at hl_42 0 rfl) ?_
        refine lv_if_eq (tgt := 35) hx hb dX5_parts_28 (by decide) (fun c_43 => ?_) (fun c_43 => absurd c_43 (by decide))
        refine lv_iconst (v := 1) hx hb dX5_parts_35 (by decide) ?_
        refine zk_ci (zk_rV (As := [.int 1]) (rest := []) (n := 1) (k := (0, 0, 0)) C (cM_fails l D cA A g ad dy nc nt nl th mo I L 1) hH_30 hS_31 mL_o rfl rfl gX5_parts_X5_fails rfl rfl (by decide +kernel) ⟨Nat.le_of_ble_eq_true rfl, Nat.le_of_ble_eq_true rfl⟩ hl_42 rfl (Nat.le_of_ble_eq_true rfl) dX5_parts_36 ⟨Nat.le_of_ble_eq_true rfl, Nat.le_of_ble_eq_true rfl⟩) hS_31 (fun r_44 w_45 H locs hP hH_46 hS_47 => ?_)
        obtain ⟨rfl, rfl⟩ := hP
        refine lv_if_eq (tgt := 46) hx hb dX5_parts_39 (by decide) (fun c_48 => absurd c_48 (by decide)) (fun c_48 => ?_)
        refine lv_lconst (v := 0) hx hb dX5_parts_42 (by decide) ?_
        refine lv_goto (tgt := 71) hx hb dX5_parts_43 (by decide) ?_
        refine zr_lret C hr ?_ hH_46 hS_47 (Nat.le_of_ble_eq_true rfl) (Nat.le_of_ble_eq_true rfl) dX5_parts_71
        exact Or.inl ⟨fun z => by first | exact absurd z (by assumption) | exact z.elim (by assumption) (by assumption) | exact absurd z.1 (by assumption) | exact absurd z.2 (by assumption) | exact z.1.elim (by assumption) (by assumption) | exact absurd z.2.1 (by assumption) | exact absurd (by assumption) z.2.2 | exact absurd z.2.2 (by assumption), rfl⟩
    · refine lv_if_eq (tgt := 24) hx hb dX5_parts_10 (by decide) (fun c_49 => ?_) (fun c_49 => absurd c_49 (by decide))
      refine lv_iconst (v := 0) hx hb dX5_parts_24 (by decide) ?_
      refine lv_istore_n (lv' := [(3, .int 0), (0, .ref (ad (0, 0, 0))), (1, .int cx), (2, .int f)]) hx hb dX5_parts_25 rfl hl (by decide) rfl (fun ls hl_50 => ?_)
      refine lv_aload_n hx hb dX5_parts_26 rfl (lv_at hl_50 1 rfl) ?_
      refine lv_iload_n hx hb dX5_parts_27 rfl (lv_at hl_50 0 rfl) ?_
      refine lv_if_eq (tgt := 35) hx hb dX5_parts_28 (by decide) (fun c_51 => ?_) (fun c_51 => absurd c_51 (by decide))
      refine lv_iconst (v := 1) hx hb dX5_parts_35 (by decide) ?_
      refine zk_ci (zk_rV (As := [.int 1]) (rest := []) (n := 1) (k := (0, 0, 0)) C (cM_fails l D cA A g ad dy nc nt nl th mo I L 1) hH_25 hS_26 mL_o rfl rfl gX5_parts_X5_fails rfl rfl (by decide +kernel) ⟨Nat.le_of_ble_eq_true rfl, Nat.le_of_ble_eq_true rfl⟩ hl_50 rfl (Nat.le_of_ble_eq_true rfl) dX5_parts_36 ⟨Nat.le_of_ble_eq_true rfl, Nat.le_of_ble_eq_true rfl⟩) hS_26 (fun r_52 w_53 H locs hP hH_54 hS_55 => ?_)
      obtain ⟨rfl, rfl⟩ := hP
      refine lv_if_eq (tgt := 46) hx hb dX5_parts_39 (by decide) (fun c_56 => absurd c_56 (by decide)) (fun c_56 => ?_)
      refine lv_lconst (v := 0) hx hb dX5_parts_42 (by decide) ?_
      refine lv_goto (tgt := 71) hx hb dX5_parts_43 (by decide) ?_
      refine zr_lret C hr ?_ hH_54 hS_55 (Nat.le_of_ble_eq_true rfl) (Nat.le_of_ble_eq_true rfl) dX5_parts_71
      exact Or.inl ⟨fun z => by first | exact absurd z (by assumption) | exact z.elim (by assumption) (by assumption) | exact absurd z.1 (by assumption) | exact absurd z.2 (by assumption) | exact z.1.elim (by assumption) (by assumption) | exact absurd z.2.1 (by assumption) | exact absurd (by assumption) z.2.2 | exact absurd z.2.2 (by assumption), rfl⟩
def rmM_units : Room := { frames := 2, cells := 0, slots := 0, locals := 42 }
set_option maxHeartbeats 600000 in
set_option maxRecDepth 100000 in
theorem cM_units (l : Launch) (D : va_G) (cA : Nat → ClassId) (A : Nat → Prop) (g : Nat → Nat) (ad : zk_K → Nat) (dy nc nt nl : Nat) (th : Int32) (mo : Int64) (I : zIA) (L : zLA) (f : Int32) : zM l yX5_units wsX5_units rmM_units D (zt cA) A g [.ref (ad (0, 0, 0)), .int f] (mw cA ad dy nc nt nl th mo I L) (zQl (fun r w' => (¬ zIn f 6 ∧ mw cA ad dy nc nt nl 1 mo I L = w') ∨ (∃ k, k < 6 ∧ f = nI k ∧ L 2 k = r ∧ mw cA ad dy nc nt nl 0 mo I L = w'))) := by
  refine zM_of (cc := cX5_units) (maxL := 2) (ret := (some .long)) (own := RX5) (by decide +kernel) rfl (Nat.le_of_ble_eq_true rfl) rfl ?_
  intro p e s m below meth c C hr hnm H locs ls hH hS hl
  obtain ⟨⟨hx, hb, hml, hown, hts⟩, hG, hlk⟩ := id C
  have hin : ∀ w ∈ wsX50, w ∈ wsX5_units := by decide +kernel
  have hl : lv_has ls 2 [(0, .ref (ad (0, 0, 0))), (1, .int f)] := hl
  refine lv_aload_n hx hb dX5_units_0 rfl (lv_at hl 0 rfl) ?_
  refine lv_iload_n hx hb dX5_units_1 rfl (lv_at hl 1 rfl) ?_
  refine zk_ci (zk_rS (As := [.int f]) (rest := [.ref (ad (0, 0, 0))]) (n := 1) C (cM_isFund l D cA A g _ f) hH hS gX5_units_X5_isFund rfl rfl (by decide +kernel) ⟨Nat.le_of_ble_eq_true rfl, Nat.le_of_ble_eq_true rfl⟩ hl rfl (Nat.le_of_ble_eq_true rfl) dX5_units_2 ⟨Nat.le_of_ble_eq_true rfl, Nat.le_of_ble_eq_true rfl⟩) hS (fun r_1 w_2 H locs hP hH_3 hS_4 => ?_)
  obtain ⟨rfl, (⟨rfl, h_r_1⟩ | ⟨rfl, h_r_1⟩)⟩ := hP
  · obtain ⟨fj, hfj, rfl⟩ := h_r_1
    refine lv_if_eq (tgt := 12) hx hb dX5_units_5 (by decide) (fun c_5 => absurd c_5 (by decide)) (fun c_5 => ?_)
    refine lv_iconst (v := 0) hx hb dX5_units_8 (by decide) ?_
    refine lv_goto (tgt := 13) hx hb dX5_units_9 (by decide) ?_
    refine zk_ci (zk_rV (As := [.int 0]) (rest := []) (n := 1) (k := (0, 0, 0)) C (cM_fails l D cA A g ad dy nc nt nl th mo I L 0) hH_3 hS_4 mL_o rfl rfl gX5_units_X5_fails rfl rfl (by decide +kernel) ⟨Nat.le_of_ble_eq_true rfl, Nat.le_of_ble_eq_true rfl⟩ hl rfl (Nat.le_of_ble_eq_true rfl) dX5_units_13 ⟨Nat.le_of_ble_eq_true rfl, Nat.le_of_ble_eq_true rfl⟩) hS_4 (fun r_6 w_7 H locs hP hH_8 hS_9 => ?_)
    obtain ⟨rfl, rfl⟩ := hP
    refine lv_if_eq (tgt := 23) hx hb dX5_units_16 (by decide) (fun c_10 => ?_) (fun c_10 => absurd c_10 (by decide))
    refine lv_aload_n hx hb dX5_units_23 rfl (lv_at hl 0 rfl) ?_
    refine zm_get C hin hH_8 2 (by decide) (by decide +kernel) rfl dX5_units_24 ?_
    refine lv_iload_n hx hb dX5_units_27 rfl (lv_at hl 1 rfl) ?_
    refine zm_lld C hH_8 2 rfl (j := fj) rfl (show fj < 6 by omega) dX5_units_28 ?_
    refine zr_lret C hr ?_ hH_8 hS_9 (Nat.le_of_ble_eq_true rfl) (Nat.le_of_ble_eq_true rfl) dX5_units_29
    exact Or.inr ⟨fj, hfj, rfl, rfl, rfl⟩
  · refine lv_if_eq (tgt := 12) hx hb dX5_units_5 (by decide) (fun c_11 => ?_) (fun c_11 => absurd c_11 (by decide))
    refine lv_iconst (v := 1) hx hb dX5_units_12 (by decide) ?_
    refine zk_ci (zk_rV (As := [.int 1]) (rest := []) (n := 1) (k := (0, 0, 0)) C (cM_fails l D cA A g ad dy nc nt nl th mo I L 1) hH_3 hS_4 mL_o rfl rfl gX5_units_X5_fails rfl rfl (by decide +kernel) ⟨Nat.le_of_ble_eq_true rfl, Nat.le_of_ble_eq_true rfl⟩ hl rfl (Nat.le_of_ble_eq_true rfl) dX5_units_13 ⟨Nat.le_of_ble_eq_true rfl, Nat.le_of_ble_eq_true rfl⟩) hS_4 (fun r_12 w_13 H locs hP hH_14 hS_15 => ?_)
    obtain ⟨rfl, rfl⟩ := hP
    refine lv_if_eq (tgt := 23) hx hb dX5_units_16 (by decide) (fun c_16 => absurd c_16 (by decide)) (fun c_16 => ?_)
    refine lv_lconst (v := 0) hx hb dX5_units_19 (by decide) ?_
    refine lv_goto (tgt := 29) hx hb dX5_units_20 (by decide) ?_
    refine zr_lret C hr ?_ hH_14 hS_15 (Nat.le_of_ble_eq_true rfl) (Nat.le_of_ble_eq_true rfl) dX5_units_29
    exact Or.inl ⟨by assumption, rfl⟩
def rmM_wealth : Room := { frames := 3, cells := 0, slots := 0, locals := 69 }
set_option maxHeartbeats 600000 in
set_option maxRecDepth 100000 in
theorem cM_wealth (l : Launch) (D : va_G) (cA : Nat → ClassId) (A : Nat → Prop) (g : Nat → Nat) (ad : zk_K → Nat) (dy nc nt nl : Nat) (th : Int32) (mo : Int64) (I : zIA) (L : zLA) (cx : Int32) (hnc : nc ≤ 12) : zM l yX5_wealth wsX5_wealth rmM_wealth D (zt cA) A g [.ref (ad (0, 0, 0)), .int cx] (mw cA ad dy nc nt nl th mo I L) (zQl (fun r w' => (¬ zIn cx nc ∧ mw cA ad dy nc nt nl 1 mo I L = w') ∨ (∃ c, c < nc ∧ cx = nI c ∧ wealthL I L c 6 = r ∧ mw cA ad dy nc nt nl 0 mo I L = w'))) := by
  refine zM_of (cc := cX5_wealth) (maxL := 2) (ret := (some .long)) (own := RX5) (by decide +kernel) rfl (Nat.le_of_ble_eq_true rfl) rfl ?_
  intro p e s m below meth c C hr hnm H locs ls hH hS hl
  obtain ⟨⟨hx, hb, hml, hown, hts⟩, hG, hlk⟩ := id C
  have hl : lv_has ls 2 [(0, .ref (ad (0, 0, 0))), (1, .int cx)] := hl
  refine lv_aload_n hx hb dX5_wealth_0 rfl (lv_at hl 0 rfl) ?_
  refine lv_aload_n hx hb dX5_wealth_1 rfl (lv_at hl 0 rfl) ?_
  refine lv_iload_n hx hb dX5_wealth_2 rfl (lv_at hl 1 rfl) ?_
  refine zk_ci (zk_rV (As := [.int cx]) (rest := [.ref (ad (0, 0, 0))]) (n := 1) (k := (0, 0, 0)) C (cM_isClient l D cA A g ad dy nc nt nl th mo I L cx hnc) hH hS mL_o rfl rfl gX5_wealth_X5_isClient rfl rfl (by decide +kernel) ⟨Nat.le_of_ble_eq_true rfl, Nat.le_of_ble_eq_true rfl⟩ hl rfl (Nat.le_of_ble_eq_true rfl) dX5_wealth_3 ⟨Nat.le_of_ble_eq_true rfl, Nat.le_of_ble_eq_true rfl⟩) hS (fun r_1 w_2 H locs hP hH_3 hS_4 => ?_)
  obtain ⟨rfl, (⟨rfl, h_r_1⟩ | ⟨rfl, h_r_1⟩)⟩ := hP
  · obtain ⟨cxj, hcxj, rfl⟩ := h_r_1
    refine lv_if_eq (tgt := 13) hx hb dX5_wealth_6 (by decide) (fun c_5 => absurd c_5 (by decide)) (fun c_5 => ?_)
    refine lv_iconst (v := 0) hx hb dX5_wealth_9 (by decide) ?_
    refine lv_goto (tgt := 14) hx hb dX5_wealth_10 (by decide) ?_
    refine zk_ci (zk_rV (As := [.int 0]) (rest := []) (n := 1) (k := (0, 0, 0)) C (cM_fails l D cA A g ad dy nc nt nl th mo I L 0) hH_3 hS_4 mL_o rfl rfl gX5_wealth_X5_fails rfl rfl (by decide +kernel) ⟨Nat.le_of_ble_eq_true rfl, Nat.le_of_ble_eq_true rfl⟩ hl rfl (Nat.le_of_ble_eq_true rfl) dX5_wealth_14 ⟨Nat.le_of_ble_eq_true rfl, Nat.le_of_ble_eq_true rfl⟩) hS_4 (fun r_6 w_7 H locs hP hH_8 hS_9 => ?_)
    obtain ⟨rfl, rfl⟩ := hP
    refine lv_if_eq (tgt := 24) hx hb dX5_wealth_17 (by decide) (fun c_10 => ?_) (fun c_10 => absurd c_10 (by decide))
    refine lv_aload_n hx hb dX5_wealth_24 rfl (lv_at hl 0 rfl) ?_
    refine lv_iload_n hx hb dX5_wealth_25 rfl (lv_at hl 1 rfl) ?_
    refine zk_cl (zk_rV (As := [.int (nI cxj)]) (rest := []) (n := 1) (k := (0, 0, 0)) C (cM_wealthOf l D cA A g ad dy nc nt nl 0 mo I L cxj (by omega)) hH_8 hS_9 mL_o rfl rfl gX5_wealth_X5_wealthOf rfl rfl (by decide +kernel) ⟨Nat.le_of_ble_eq_true rfl, Nat.le_of_ble_eq_true rfl⟩ hl rfl (Nat.le_of_ble_eq_true rfl) dX5_wealth_26 ⟨Nat.le_of_ble_eq_true rfl, Nat.le_of_ble_eq_true rfl⟩) hS_9 (fun r_11 w_12 H locs hP hH_13 hS_14 => ?_)
    obtain ⟨rfl, rfl⟩ := hP
    refine zr_lret C hr ?_ hH_13 hS_14 (Nat.le_of_ble_eq_true rfl) (Nat.le_of_ble_eq_true rfl) dX5_wealth_29
    exact Or.inr ⟨cxj, hcxj, rfl, rfl, rfl⟩
  · refine lv_if_eq (tgt := 13) hx hb dX5_wealth_6 (by decide) (fun c_15 => ?_) (fun c_15 => absurd c_15 (by decide))
    refine lv_iconst (v := 1) hx hb dX5_wealth_13 (by decide) ?_
    refine zk_ci (zk_rV (As := [.int 1]) (rest := []) (n := 1) (k := (0, 0, 0)) C (cM_fails l D cA A g ad dy nc nt nl th mo I L 1) hH_3 hS_4 mL_o rfl rfl gX5_wealth_X5_fails rfl rfl (by decide +kernel) ⟨Nat.le_of_ble_eq_true rfl, Nat.le_of_ble_eq_true rfl⟩ hl rfl (Nat.le_of_ble_eq_true rfl) dX5_wealth_14 ⟨Nat.le_of_ble_eq_true rfl, Nat.le_of_ble_eq_true rfl⟩) hS_4 (fun r_16 w_17 H locs hP hH_18 hS_19 => ?_)
    obtain ⟨rfl, rfl⟩ := hP
    refine lv_if_eq (tgt := 24) hx hb dX5_wealth_17 (by decide) (fun c_20 => absurd c_20 (by decide)) (fun c_20 => ?_)
    refine lv_lconst (v := 0) hx hb dX5_wealth_20 (by decide) ?_
    refine lv_goto (tgt := 29) hx hb dX5_wealth_21 (by decide) ?_
    refine zr_lret C hr ?_ hH_18 hS_19 (Nat.le_of_ble_eq_true rfl) (Nat.le_of_ble_eq_true rfl) dX5_wealth_29
    exact Or.inl ⟨by assumption, rfl⟩
def rmM_tradeOf : Room := { frames := 2, cells := 0, slots := 0, locals := 43 }
set_option maxHeartbeats 600000 in
set_option maxRecDepth 100000 in
theorem cM_tradeOf (l : Launch) (D : va_G) (cA : Nat → ClassId) (A : Nat → Prop) (g : Nat → Nat) (ad : zk_K → Nat) (dy nc nt nl : Nat) (th : Int32) (mo : Int64) (I : zIA) (L : zLA) (tx what : Int32) (hnt : nt ≤ 120) : zM l yX5_tradeOf wsX5_tradeOf rmM_tradeOf D (zt cA) A g [.ref (ad (0, 0, 0)), .int tx, .int what] (mw cA ad dy nc nt nl th mo I L) (zQl (fun r w' => (¬ zIn tx nt ∧ mw cA ad dy nc nt nl 1 mo I L = w') ∨ (zIn tx nt ∧ ¬ zR what 0 6 ∧ mw cA ad dy nc nt nl 2 mo I L = w') ∨ (∃ t k, t < nt ∧ tx = nI t ∧ k ≤ 6 ∧ what = nI k ∧ trV I L t k = r ∧ mw cA ad dy nc nt nl 0 mo I L = w'))) := by
  refine zM_of (cc := cX5_tradeOf) (maxL := 3) (ret := (some .long)) (own := RX5) (by decide +kernel) rfl (Nat.le_of_ble_eq_true rfl) rfl ?_
  intro p e s m below meth c C hr hnm H locs ls hH hS hl
  obtain ⟨⟨hx, hb, hml, hown, hts⟩, hG, hlk⟩ := id C
  have hin : ∀ w ∈ wsX50, w ∈ wsX5_tradeOf := by decide +kernel
  have hl : lv_has ls 3 [(0, .ref (ad (0, 0, 0))), (1, .int tx), (2, .int what)] := hl
  refine lv_aload_n hx hb dX5_tradeOf_0 rfl (lv_at hl 0 rfl) ?_
  refine lv_aload_n hx hb dX5_tradeOf_1 rfl (lv_at hl 0 rfl) ?_
  refine lv_iload_n hx hb dX5_tradeOf_2 rfl (lv_at hl 1 rfl) ?_
  refine zk_ci (zk_rV (As := [.int tx]) (rest := [.ref (ad (0, 0, 0))]) (n := 1) (k := (0, 0, 0)) C (cM_isTrade l D cA A g ad dy nc nt nl th mo I L tx hnt) hH hS mL_o rfl rfl gX5_tradeOf_X5_isTrade rfl rfl (by decide +kernel) ⟨Nat.le_of_ble_eq_true rfl, Nat.le_of_ble_eq_true rfl⟩ hl rfl (Nat.le_of_ble_eq_true rfl) dX5_tradeOf_3 ⟨Nat.le_of_ble_eq_true rfl, Nat.le_of_ble_eq_true rfl⟩) hS (fun r_1 w_2 H locs hP hH_3 hS_4 => ?_)
  obtain ⟨rfl, (⟨rfl, h_r_1⟩ | ⟨rfl, h_r_1⟩)⟩ := hP
  · obtain ⟨txj, htxj, rfl⟩ := h_r_1
    refine lv_if_ne (tgt := 13) hx hb dX5_tradeOf_6 (by decide) (fun c_5 => ?_) (fun c_5 => absurd c_5 (by decide))
    refine lv_iload_n hx hb dX5_tradeOf_13 rfl (lv_at hl 2 rfl) ?_
    refine lv_iconst (v := 0) hx hb dX5_tradeOf_14 (by decide) ?_
    refine lv_bipush (v := 6) hx hb dX5_tradeOf_15 (by decide) ?_
    refine zk_ci (zk_rS (As := [.int what, .int 0, .int 6]) (rest := [.ref (ad (0, 0, 0))]) (n := 3) C (cM_isIn l D cA A g _ what 0 6) hH_3 hS_4 gX5_tradeOf_X5_isIn rfl rfl (by decide +kernel) ⟨Nat.le_of_ble_eq_true rfl, Nat.le_of_ble_eq_true rfl⟩ hl rfl (Nat.le_of_ble_eq_true rfl) dX5_tradeOf_17 ⟨Nat.le_of_ble_eq_true rfl, Nat.le_of_ble_eq_true rfl⟩) hS_4 (fun r_6 w_7 H locs hP hH_8 hS_9 => ?_)
    obtain ⟨rfl, (⟨rfl, h_r_6⟩ | ⟨rfl, h_r_6⟩)⟩ := hP
    · obtain (rfl | rfl | rfl | rfl | rfl | rfl | rfl) := zR_06 h_r_6
      · refine lv_if_eq (tgt := 27) hx hb dX5_tradeOf_20 (by decide) (fun c_10 => absurd c_10 (by decide)) (fun c_10 => ?_)
        refine lv_iconst (v := 0) hx hb dX5_tradeOf_23 (by decide) ?_
        refine lv_goto (tgt := 28) hx hb dX5_tradeOf_24 (by decide) ?_
        refine zk_ci (zk_rV (As := [.int 0]) (rest := []) (n := 1) (k := (0, 0, 0)) C (cM_fails l D cA A g ad dy nc nt nl th mo I L 0) hH_8 hS_9 mL_o rfl rfl gX5_tradeOf_X5_fails rfl rfl (by decide +kernel) ⟨Nat.le_of_ble_eq_true rfl, Nat.le_of_ble_eq_true rfl⟩ hl rfl (Nat.le_of_ble_eq_true rfl) dX5_tradeOf_28 ⟨Nat.le_of_ble_eq_true rfl, Nat.le_of_ble_eq_true rfl⟩) hS_9 (fun r_11 w_12 H locs hP hH_13 hS_14 => ?_)
        obtain ⟨rfl, rfl⟩ := hP
        refine lv_if_eq (tgt := 36) hx hb dX5_tradeOf_31 (by decide) (fun c_15 => ?_) (fun c_15 => absurd c_15 (by decide))
        refine lv_iload_n hx hb dX5_tradeOf_36 rfl (lv_at hl 2 rfl) ?_
        refine lv_tableIn (off := 39) (tgt := 76) hx hb dX5_tradeOf_37 (by decide) (by decide) (by decide) (by decide) ?_
        refine lv_aload_n hx hb dX5_tradeOf_76 rfl (lv_at hl 0 rfl) ?_
        refine zm_get C hin hH_13 11 (by decide) (by decide +kernel) rfl dX5_tradeOf_77 ?_
        refine lv_iload_n hx hb dX5_tradeOf_80 rfl (lv_at hl 1 rfl) ?_
        refine zm_ild C hH_13 11 (by decide) rfl (j := txj) rfl (show txj < 120 by omega) dX5_tradeOf_81 ?_
        refine lv_i2l (v := Int32.toInt64 (I 11 txj)) hx hb dX5_tradeOf_82 rfl ?_
        refine zr_lret C hr ?_ hH_13 hS_14 (Nat.le_of_ble_eq_true rfl) (Nat.le_of_ble_eq_true rfl) dX5_tradeOf_83
        exact Or.inr (Or.inr ⟨txj, 0, htxj, rfl, by decide, rfl, rfl, rfl⟩)
      · refine lv_if_eq (tgt := 27) hx hb dX5_tradeOf_20 (by decide) (fun c_16 => absurd c_16 (by decide)) (fun c_16 => ?_)
        refine lv_iconst (v := 0) hx hb dX5_tradeOf_23 (by decide) ?_
        refine lv_goto (tgt := 28) hx hb dX5_tradeOf_24 (by decide) ?_
        refine zk_ci (zk_rV (As := [.int 0]) (rest := []) (n := 1) (k := (0, 0, 0)) C (cM_fails l D cA A g ad dy nc nt nl th mo I L 0) hH_8 hS_9 mL_o rfl rfl gX5_tradeOf_X5_fails rfl rfl (by decide +kernel) ⟨Nat.le_of_ble_eq_true rfl, Nat.le_of_ble_eq_true rfl⟩ hl rfl (Nat.le_of_ble_eq_true rfl) dX5_tradeOf_28 ⟨Nat.le_of_ble_eq_true rfl, Nat.le_of_ble_eq_true rfl⟩) hS_9 (fun r_17 w_18 H locs hP hH_19 hS_20 => ?_)
        obtain ⟨rfl, rfl⟩ := hP
        refine lv_if_eq (tgt := 36) hx hb dX5_tradeOf_31 (by decide) (fun c_21 => ?_) (fun c_21 => absurd c_21 (by decide))
        refine lv_iload_n hx hb dX5_tradeOf_36 rfl (lv_at hl 2 rfl) ?_
        refine lv_tableIn (off := 47) (tgt := 84) hx hb dX5_tradeOf_37 (by decide) (by decide) (by decide) (by decide) ?_
        refine lv_aload_n hx hb dX5_tradeOf_84 rfl (lv_at hl 0 rfl) ?_
        refine zm_get C hin hH_19 12 (by decide) (by decide +kernel) rfl dX5_tradeOf_85 ?_
        refine lv_iload_n hx hb dX5_tradeOf_88 rfl (lv_at hl 1 rfl) ?_
        refine zm_ild C hH_19 12 (by decide) rfl (j := txj) rfl (show txj < 120 by omega) dX5_tradeOf_89 ?_
        refine lv_i2l (v := Int32.toInt64 (I 12 txj)) hx hb dX5_tradeOf_90 rfl ?_
        refine zr_lret C hr ?_ hH_19 hS_20 (Nat.le_of_ble_eq_true rfl) (Nat.le_of_ble_eq_true rfl) dX5_tradeOf_91
        exact Or.inr (Or.inr ⟨txj, 1, htxj, rfl, by decide, rfl, rfl, rfl⟩)
      · refine lv_if_eq (tgt := 27) hx hb dX5_tradeOf_20 (by decide) (fun c_22 => absurd c_22 (by decide)) (fun c_22 => ?_)
        refine lv_iconst (v := 0) hx hb dX5_tradeOf_23 (by decide) ?_
        refine lv_goto (tgt := 28) hx hb dX5_tradeOf_24 (by decide) ?_
        refine zk_ci (zk_rV (As := [.int 0]) (rest := []) (n := 1) (k := (0, 0, 0)) C (cM_fails l D cA A g ad dy nc nt nl th mo I L 0) hH_8 hS_9 mL_o rfl rfl gX5_tradeOf_X5_fails rfl rfl (by decide +kernel) ⟨Nat.le_of_ble_eq_true rfl, Nat.le_of_ble_eq_true rfl⟩ hl rfl (Nat.le_of_ble_eq_true rfl) dX5_tradeOf_28 ⟨Nat.le_of_ble_eq_true rfl, Nat.le_of_ble_eq_true rfl⟩) hS_9 (fun r_23 w_24 H locs hP hH_25 hS_26 => ?_)
        obtain ⟨rfl, rfl⟩ := hP
        refine lv_if_eq (tgt := 36) hx hb dX5_tradeOf_31 (by decide) (fun c_27 => ?_) (fun c_27 => absurd c_27 (by decide))
        refine lv_iload_n hx hb dX5_tradeOf_36 rfl (lv_at hl 2 rfl) ?_
        refine lv_tableIn (off := 55) (tgt := 92) hx hb dX5_tradeOf_37 (by decide) (by decide) (by decide) (by decide) ?_
        refine lv_aload_n hx hb dX5_tradeOf_92 rfl (lv_at hl 0 rfl) ?_
        refine zm_get C hin hH_25 13 (by decide) (by decide +kernel) rfl dX5_tradeOf_93 ?_
        refine lv_iload_n hx hb dX5_tradeOf_96 rfl (lv_at hl 1 rfl) ?_
        refine zm_lld C hH_25 13 rfl (j := txj) rfl (show txj < 120 by omega) dX5_tradeOf_97 ?_
        refine zr_lret C hr ?_ hH_25 hS_26 (Nat.le_of_ble_eq_true rfl) (Nat.le_of_ble_eq_true rfl) dX5_tradeOf_98
        exact Or.inr (Or.inr ⟨txj, 2, htxj, rfl, by decide, rfl, rfl, rfl⟩)
      · refine lv_if_eq (tgt := 27) hx hb dX5_tradeOf_20 (by decide) (fun c_28 => absurd c_28 (by decide)) (fun c_28 => ?_)
        refine lv_iconst (v := 0) hx hb dX5_tradeOf_23 (by decide) ?_
        refine lv_goto (tgt := 28) hx hb dX5_tradeOf_24 (by decide) ?_
        refine zk_ci (zk_rV (As := [.int 0]) (rest := []) (n := 1) (k := (0, 0, 0)) C (cM_fails l D cA A g ad dy nc nt nl th mo I L 0) hH_8 hS_9 mL_o rfl rfl gX5_tradeOf_X5_fails rfl rfl (by decide +kernel) ⟨Nat.le_of_ble_eq_true rfl, Nat.le_of_ble_eq_true rfl⟩ hl rfl (Nat.le_of_ble_eq_true rfl) dX5_tradeOf_28 ⟨Nat.le_of_ble_eq_true rfl, Nat.le_of_ble_eq_true rfl⟩) hS_9 (fun r_29 w_30 H locs hP hH_31 hS_32 => ?_)
        obtain ⟨rfl, rfl⟩ := hP
        refine lv_if_eq (tgt := 36) hx hb dX5_tradeOf_31 (by decide) (fun c_33 => ?_) (fun c_33 => absurd c_33 (by decide))
        refine lv_iload_n hx hb dX5_tradeOf_36 rfl (lv_at hl 2 rfl) ?_
        refine lv_tableIn (off := 62) (tgt := 99) hx hb dX5_tradeOf_37 (by decide) (by decide) (by decide) (by decide) ?_
        refine lv_aload_n hx hb dX5_tradeOf_99 rfl (lv_at hl 0 rfl) ?_
        refine zm_get C hin hH_31 14 (by decide) (by decide +kernel) rfl dX5_tradeOf_100 ?_
        refine lv_iload_n hx hb dX5_tradeOf_103 rfl (lv_at hl 1 rfl) ?_
        refine zm_lld C hH_31 14 rfl (j := txj) rfl (show txj < 120 by omega) dX5_tradeOf_104 ?_
        refine zr_lret C hr ?_ hH_31 hS_32 (Nat.le_of_ble_eq_true rfl) (Nat.le_of_ble_eq_true rfl) dX5_tradeOf_105
        exact Or.inr (Or.inr ⟨txj, 3, htxj, rfl, by decide, rfl, rfl, rfl⟩)
      · refine lv_if_eq (tgt := 27) hx hb dX5_tradeOf_20 (by decide) (fun c_34 => absurd c_34 (by decide)) (fun c_34 => ?_)
        refine lv_iconst (v := 0) hx hb dX5_tradeOf_23 (by decide) ?_
        refine lv_goto (tgt := 28) hx hb dX5_tradeOf_24 (by decide) ?_
        refine zk_ci (zk_rV (As := [.int 0]) (rest := []) (n := 1) (k := (0, 0, 0)) C (cM_fails l D cA A g ad dy nc nt nl th mo I L 0) hH_8 hS_9 mL_o rfl rfl gX5_tradeOf_X5_fails rfl rfl (by decide +kernel) ⟨Nat.le_of_ble_eq_true rfl, Nat.le_of_ble_eq_true rfl⟩ hl rfl (Nat.le_of_ble_eq_true rfl) dX5_tradeOf_28 ⟨Nat.le_of_ble_eq_true rfl, Nat.le_of_ble_eq_true rfl⟩) hS_9 (fun r_35 w_36 H locs hP hH_37 hS_38 => ?_)
        obtain ⟨rfl, rfl⟩ := hP
        refine lv_if_eq (tgt := 36) hx hb dX5_tradeOf_31 (by decide) (fun c_39 => ?_) (fun c_39 => absurd c_39 (by decide))
        refine lv_iload_n hx hb dX5_tradeOf_36 rfl (lv_at hl 2 rfl) ?_
        refine lv_tableIn (off := 69) (tgt := 106) hx hb dX5_tradeOf_37 (by decide) (by decide) (by decide) (by decide) ?_
        refine lv_aload_n hx hb dX5_tradeOf_106 rfl (lv_at hl 0 rfl) ?_
        refine zm_get C hin hH_37 15 (by decide) (by decide +kernel) rfl dX5_tradeOf_107 ?_
        refine lv_iload_n hx hb dX5_tradeOf_110 rfl (lv_at hl 1 rfl) ?_
        refine zm_lld C hH_37 15 rfl (j := txj) rfl (show txj < 120 by omega) dX5_tradeOf_111 ?_
        refine zr_lret C hr ?_ hH_37 hS_38 (Nat.le_of_ble_eq_true rfl) (Nat.le_of_ble_eq_true rfl) dX5_tradeOf_112
        exact Or.inr (Or.inr ⟨txj, 4, htxj, rfl, by decide, rfl, rfl, rfl⟩)
      · refine lv_if_eq (tgt := 27) hx hb dX5_tradeOf_20 (by decide) (fun c_40 => absurd c_40 (by decide)) (fun c_40 => ?_)
        refine lv_iconst (v := 0) hx hb dX5_tradeOf_23 (by decide) ?_
        refine lv_goto (tgt := 28) hx hb dX5_tradeOf_24 (by decide) ?_
        refine zk_ci (zk_rV (As := [.int 0]) (rest := []) (n := 1) (k := (0, 0, 0)) C (cM_fails l D cA A g ad dy nc nt nl th mo I L 0) hH_8 hS_9 mL_o rfl rfl gX5_tradeOf_X5_fails rfl rfl (by decide +kernel) ⟨Nat.le_of_ble_eq_true rfl, Nat.le_of_ble_eq_true rfl⟩ hl rfl (Nat.le_of_ble_eq_true rfl) dX5_tradeOf_28 ⟨Nat.le_of_ble_eq_true rfl, Nat.le_of_ble_eq_true rfl⟩) hS_9 (fun r_41 w_42 H locs hP hH_43 hS_44 => ?_)
        obtain ⟨rfl, rfl⟩ := hP
        refine lv_if_eq (tgt := 36) hx hb dX5_tradeOf_31 (by decide) (fun c_45 => ?_) (fun c_45 => absurd c_45 (by decide))
        refine lv_iload_n hx hb dX5_tradeOf_36 rfl (lv_at hl 2 rfl) ?_
        refine lv_tableIn (off := 76) (tgt := 113) hx hb dX5_tradeOf_37 (by decide) (by decide) (by decide) (by decide) ?_
        refine lv_aload_n hx hb dX5_tradeOf_113 rfl (lv_at hl 0 rfl) ?_
        refine zm_get C hin hH_43 16 (by decide) (by decide +kernel) rfl dX5_tradeOf_114 ?_
        refine lv_iload_n hx hb dX5_tradeOf_117 rfl (lv_at hl 1 rfl) ?_
        refine zm_ild C hH_43 16 (by decide) rfl (j := txj) rfl (show txj < 120 by omega) dX5_tradeOf_118 ?_
        refine lv_i2l (v := Int32.toInt64 (I 16 txj)) hx hb dX5_tradeOf_119 rfl ?_
        refine zr_lret C hr ?_ hH_43 hS_44 (Nat.le_of_ble_eq_true rfl) (Nat.le_of_ble_eq_true rfl) dX5_tradeOf_120
        exact Or.inr (Or.inr ⟨txj, 5, htxj, rfl, by decide, rfl, rfl, rfl⟩)
      · refine lv_if_eq (tgt := 27) hx hb dX5_tradeOf_20 (by decide) (fun c_46 => absurd c_46 (by decide)) (fun c_46 => ?_)
        refine lv_iconst (v := 0) hx hb dX5_tradeOf_23 (by decide) ?_
        refine lv_goto (tgt := 28) hx hb dX5_tradeOf_24 (by decide) ?_
        refine zk_ci (zk_rV (As := [.int 0]) (rest := []) (n := 1) (k := (0, 0, 0)) C (cM_fails l D cA A g ad dy nc nt nl th mo I L 0) hH_8 hS_9 mL_o rfl rfl gX5_tradeOf_X5_fails rfl rfl (by decide +kernel) ⟨Nat.le_of_ble_eq_true rfl, Nat.le_of_ble_eq_true rfl⟩ hl rfl (Nat.le_of_ble_eq_true rfl) dX5_tradeOf_28 ⟨Nat.le_of_ble_eq_true rfl, Nat.le_of_ble_eq_true rfl⟩) hS_9 (fun r_47 w_48 H locs hP hH_49 hS_50 => ?_)
        obtain ⟨rfl, rfl⟩ := hP
        refine lv_if_eq (tgt := 36) hx hb dX5_tradeOf_31 (by decide) (fun c_51 => ?_) (fun c_51 => absurd c_51 (by decide))
        refine lv_iload_n hx hb dX5_tradeOf_36 rfl (lv_at hl 2 rfl) ?_
        refine lv_tableOut (tgt := 121) hx hb dX5_tradeOf_37 (by decide) (by decide) ?_
        refine lv_aload_n hx hb dX5_tradeOf_121 rfl (lv_at hl 0 rfl) ?_
        refine zm_get C hin hH_49 17 (by decide) (by decide +kernel) rfl dX5_tradeOf_122 ?_
        refine lv_iload_n hx hb dX5_tradeOf_125 rfl (lv_at hl 1 rfl) ?_
        refine zm_zld C hH_49 17 (by decide) rfl (j := txj) rfl (show txj < 120 by omega) dX5_tradeOf_126 ?_
        refine lv_if_eq (tgt := 134) hx hb dX5_tradeOf_127 (by decide) (fun c_52 => ?_) (fun c_52 => ?_)
        · refine lv_lconst (v := 0) hx hb dX5_tradeOf_134 (by decide) ?_
          refine zr_lret C hr ?_ hH_49 hS_50 (Nat.le_of_ble_eq_true rfl) (Nat.le_of_ble_eq_true rfl) dX5_tradeOf_135
          exact Or.inr (Or.inr ⟨txj, 6, htxj, rfl, by decide, rfl, if_pos c_52, rfl⟩)
        · refine lv_lconst (v := 1) hx hb dX5_tradeOf_130 (by decide) ?_
          refine lv_goto (tgt := 135) hx hb dX5_tradeOf_131 (by decide) ?_
          refine zr_lret C hr ?_ hH_49 hS_50 (Nat.le_of_ble_eq_true rfl) (Nat.le_of_ble_eq_true rfl) dX5_tradeOf_135
          exact Or.inr (Or.inr ⟨txj, 6, htxj, rfl, by decide, rfl, if_neg c_52, rfl⟩)
    · refine lv_if_eq (tgt := 27) hx hb dX5_tradeOf_20 (by decide) (fun c_53 => ?_) (fun c_53 => absurd c_53 (by decide))
      refine lv_iconst (v := 2) hx hb dX5_tradeOf_27 (by decide) ?_
      refine zk_ci (zk_rV (As := [.int 2]) (rest := []) (n := 1) (k := (0, 0, 0)) C (cM_fails l D cA A g ad dy nc nt nl th mo I L 2) hH_8 hS_9 mL_o rfl rfl gX5_tradeOf_X5_fails rfl rfl (by decide +kernel) ⟨Nat.le_of_ble_eq_true rfl, Nat.le_of_ble_eq_true rfl⟩ hl rfl (Nat.le_of_ble_eq_true rfl) dX5_tradeOf_28 ⟨Nat.le_of_ble_eq_true rfl, Nat.le_of_ble_eq_true rfl⟩) hS_9 (fun r_54 w_55 H locs hP hH_56 hS_57 => ?_)
      obtain ⟨rfl, rfl⟩ := hP
      refine lv_if_eq (tgt := 36) hx hb dX5_tradeOf_31 (by decide) (fun c_58 => absurd c_58 (by decide)) (fun c_58 => ?_)
      refine lv_lconst (v := 0) hx hb dX5_tradeOf_34 (by decide) ?_
      refine zr_lret C hr ?_ hH_56 hS_57 (Nat.le_of_ble_eq_true rfl) (Nat.le_of_ble_eq_true rfl) dX5_tradeOf_35
      exact Or.inr (Or.inl ⟨⟨txj, htxj, rfl⟩, by assumption, rfl⟩)
  · refine lv_if_ne (tgt := 13) hx hb dX5_tradeOf_6 (by decide) (fun c_59 => absurd c_59 (by decide)) (fun c_59 => ?_)
    refine lv_iconst (v := 1) hx hb dX5_tradeOf_9 (by decide) ?_
    refine lv_goto (tgt := 28) hx hb dX5_tradeOf_10 (by decide) ?_
    refine zk_ci (zk_rV (As := [.int 1]) (rest := []) (n := 1) (k := (0, 0, 0)) C (cM_fails l D cA A g ad dy nc nt nl th mo I L 1) hH_3 hS_4 mL_o rfl rfl gX5_tradeOf_X5_fails rfl rfl (by decide +kernel) ⟨Nat.le_of_ble_eq_true rfl, Nat.le_of_ble_eq_true rfl⟩ hl rfl (Nat.le_of_ble_eq_true rfl) dX5_tradeOf_28 ⟨Nat.le_of_ble_eq_true rfl, Nat.le_of_ble_eq_true rfl⟩) hS_4 (fun r_60 w_61 H locs hP hH_62 hS_63 => ?_)
    obtain ⟨rfl, rfl⟩ := hP
    refine lv_if_eq (tgt := 36) hx hb dX5_tradeOf_31 (by decide) (fun c_64 => absurd c_64 (by decide)) (fun c_64 => ?_)
    refine lv_lconst (v := 0) hx hb dX5_tradeOf_34 (by decide) ?_
    refine zr_lret C hr ?_ hH_62 hS_63 (Nat.le_of_ble_eq_true rfl) (Nat.le_of_ble_eq_true rfl) dX5_tradeOf_35
    exact Or.inl ⟨by assumption, rfl⟩
def rmM_lot : Room := { frames := 3, cells := 0, slots := 0, locals := 84 }
set_option maxHeartbeats 600000 in
set_option maxRecDepth 100000 in
theorem cM_lot (l : Launch) (D : va_G) (cA : Nat → ClassId) (A : Nat → Prop) (g : Nat → Nat) (ad : zk_K → Nat) (dy nc nt nl : Nat) (th : Int32) (mo : Int64) (I : zIA) (L : zLA) (cx f rank what : Int32) (hnc : nc ≤ 12) (hnt : nt ≤ 120) (hT16 : ∀ t, t < nt → zD (I 16 t) 7201) : zM l yX5_lot wsX5_lot rmM_lot D (zt cA) A g [.ref (ad (0, 0, 0)), .int cx, .int f, .int rank, .int what] (mw cA ad dy nc nt nl th mo I L) (zQl (fun r w' => (¬ (zIn cx nc ∧ zIn f 6 ∧ ¬ rank < 0) ∧ mw cA ad dy nc nt nl 1 mo I L = w') ∨ (∃ c k, c < nc ∧ cx = nI c ∧ k < 6 ∧ f = nI k ∧ ¬ rank < 0 ∧ ((¬ zR what 0 2 ∧ mw cA ad dy nc nt nl 2 mo I L = w') ∨ (zR what 0 2 ∧ ∃ Y : zF, Y = fdS I L c k nt ∧ (ltS Y.2.1 Y.2.2 rank what Y.1).2 = r ∧ mw cA ad dy nc nt Y.1 0 mo Y.2.1 Y.2.2 = w'))))) := by
  refine zM_of (cc := cX5_lot) (maxL := 10) (ret := (some .long)) (own := RX5) (by decide +kernel) rfl (Nat.le_of_ble_eq_true rfl) rfl ?_
  intro p e s m below meth c C hr hnm H locs ls hH hS hl
  obtain ⟨⟨hx, hb, hml, hown, hts⟩, hG, hlk⟩ := id C
  have hin : ∀ w ∈ wsX50, w ∈ wsX5_lot := by decide +kernel
  have hl : lv_has ls 10 [(0, .ref (ad (0, 0, 0))), (1, .int cx), (2, .int f), (3, .int rank), (4, .int what)] := hl
  refine lv_aload_n hx hb dX5_lot_0 rfl (lv_at hl 0 rfl) ?_
  refine lv_iload_n hx hb dX5_lot_1 rfl (lv_at hl 1 rfl) ?_
  refine zk_ci (zk_rV (As := [.int cx]) (rest := []) (n := 1) (k := (0, 0, 0)) C (cM_isClient l D cA A g ad dy nc nt nl th mo I L cx hnc) hH hS mL_o rfl rfl gX5_lot_X5_isClient rfl rfl (by decide +kernel) ⟨Nat.le_of_ble_eq_true rfl, Nat.le_of_ble_eq_true rfl⟩ hl rfl (Nat.le_of_ble_eq_true rfl) dX5_lot_2 ⟨Nat.le_of_ble_eq_true rfl, Nat.le_of_ble_eq_true rfl⟩) hS (fun r_1 w_2 H locs hP hH_3 hS_4 => ?_)
  obtain ⟨rfl, (⟨rfl, h_r_1⟩ | ⟨rfl, h_r_1⟩)⟩ := hP
  · obtain ⟨cxj, hcxj, rfl⟩ := h_r_1
    refine lv_if_eq (tgt := 23) hx hb dX5_lot_5 (by decide) (fun c_5 => absurd c_5 (by decide)) (fun c_5 => ?_)
    refine lv_iload_n hx hb dX5_lot_8 rfl (lv_at hl 2 rfl) ?_
    refine zk_ci (zk_rS (As := [.int f]) (rest := []) (n := 1) C (cM_isFund l D cA A g _ f) hH_3 hS_4 gX5_lot_X5_isFund rfl rfl (by decide +kernel) ⟨Nat.le_of_ble_eq_true rfl, Nat.le_of_ble_eq_true rfl⟩ hl rfl (Nat.le_of_ble_eq_true rfl) dX5_lot_9 ⟨Nat.le_of_ble_eq_true rfl, Nat.le_of_ble_eq_true rfl⟩) hS_4 (fun r_6 w_7 H locs hP hH_8 hS_9 => ?_)
    obtain ⟨rfl, (⟨rfl, h_r_6⟩ | ⟨rfl, h_r_6⟩)⟩ := hP
    · obtain ⟨fj, hfj, rfl⟩ := h_r_6
      refine lv_if_eq (tgt := 23) hx hb dX5_lot_12 (by decide) (fun c_10 => absurd c_10 (by decide)) (fun c_10 => ?_)
      refine lv_iload_n hx hb dX5_lot_15 rfl (lv_at hl 3 rfl) ?_
      refine lv_if_lt (tgt := 23) hx hb dX5_lot_16 (by decide) (fun c_11 => ?_) (fun c_11 => ?_)
      · refine lv_iconst (v := 0) hx hb dX5_lot_23 (by decide) ?_
        refine lv_istore (lv' := [(5, .int 0), (0, .ref (ad (0, 0, 0))), (1, .int (nI cxj)), (2, .int (nI fj)), (3, .int rank), (4, .int what)]) hx hb dX5_lot_24 hl (by decide) rfl (fun ls hl_12 => ?_)
        refine lv_aload_n hx hb dX5_lot_26 rfl (lv_at hl_12 1 rfl) ?_
        refine lv_iload hx hb dX5_lot_27 (lv_at hl_12 0 rfl) ?_
        refine lv_if_ne (tgt := 36) hx hb dX5_lot_29 (by decide) (fun c_13 => absurd c_13 (by decide)) (fun c_13 => ?_)
        refine lv_iconst (v := 1) hx hb dX5_lot_32 (by decide) ?_
        refine lv_goto (tgt := 51) hx hb dX5_lot_33 (by decide) ?_
        refine zk_ci (zk_rV (As := [.int 1]) (rest := []) (n := 1) (k := (0, 0, 0)) C (cM_fails l D cA A g ad dy nc nt nl th mo I L 1) hH_8 hS_9 mL_o rfl rfl gX5_lot_X5_fails rfl rfl (by decide +kernel) ⟨Nat.le_of_ble_eq_true rfl, Nat.le_of_ble_eq_true rfl⟩ hl_12 rfl (Nat.le_of_ble_eq_true rfl) dX5_lot_51 ⟨Nat.le_of_ble_eq_true rfl, Nat.le_of_ble_eq_true rfl⟩) hS_9 (fun r_14 w_15 H locs hP hH_16 hS_17 => ?_)
        obtain ⟨rfl, rfl⟩ := hP
        refine lv_if_eq (tgt := 59) hx hb dX5_lot_54 (by decide) (fun c_18 => absurd c_18 (by decide)) (fun c_18 => ?_)
        refine lv_lconst (v := 0) hx hb dX5_lot_57 (by decide) ?_
        refine zr_lret C hr ?_ hH_16 hS_17 (Nat.le_of_ble_eq_true rfl) (Nat.le_of_ble_eq_true rfl) dX5_lot_58
        exact Or.inl ⟨fun z => by first | exact absurd z (by assumption) | exact z.elim (by assumption) (by assumption) | exact absurd z.1 (by assumption) | exact absurd z.2 (by assumption) | exact z.1.elim (by assumption) (by assumption) | exact absurd z.2.1 (by assumption) | exact absurd (by assumption) z.2.2 | exact absurd z.2.2 (by assumption), rfl⟩
      · refine lv_iconst (v := 1) hx hb dX5_lot_19 (by decide) ?_
        refine lv_goto (tgt := 24) hx hb dX5_lot_20 (by decide) ?_
        refine lv_istore (lv' := [(5, .int 1), (0, .ref (ad (0, 0, 0))), (1, .int (nI cxj)), (2, .int (nI fj)), (3, .int rank), (4, .int what)]) hx hb dX5_lot_24 hl (by decide) rfl (fun ls hl_19 => ?_)
        refine lv_aload_n hx hb dX5_lot_26 rfl (lv_at hl_19 1 rfl) ?_
        refine lv_iload hx hb dX5_lot_27 (lv_at hl_19 0 rfl) ?_
        refine lv_if_ne (tgt := 36) hx hb dX5_lot_29 (by decide) (fun c_20 => ?_) (fun c_20 => absurd c_20 (by decide))
        refine lv_iload hx hb dX5_lot_36 (lv_at hl_19 5 rfl) ?_
        refine lv_iconst (v := 0) hx hb dX5_lot_38 (by decide) ?_
        refine lv_iconst (v := 2) hx hb dX5_lot_39 (by decide) ?_
        refine zk_ci (zk_rS (As := [.int what, .int 0, .int 2]) (rest := [.ref (ad (0, 0, 0))]) (n := 3) C (cM_isIn l D cA A g _ what 0 2) hH_8 hS_9 gX5_lot_X5_isIn rfl rfl (by decide +kernel) ⟨Nat.le_of_ble_eq_true rfl, Nat.le_of_ble_eq_true rfl⟩ hl_19 rfl (Nat.le_of_ble_eq_true rfl) dX5_lot_40 ⟨Nat.le_of_ble_eq_true rfl, Nat.le_of_ble_eq_true rfl⟩) hS_9 (fun r_21 w_22 H locs hP hH_23 hS_24 => ?_)
        obtain ⟨rfl, (⟨rfl, h_r_21⟩ | ⟨rfl, h_r_21⟩)⟩ := hP
        · refine lv_if_eq (tgt := 50) hx hb dX5_lot_43 (by decide) (fun c_25 => absurd c_25 (by decide)) (fun c_25 => ?_)
          refine lv_iconst (v := 0) hx hb dX5_lot_46 (by decide) ?_
          refine lv_goto (tgt := 51) hx hb dX5_lot_47 (by decide) ?_
          refine zk_ci (zk_rV (As := [.int 0]) (rest := []) (n := 1) (k := (0, 0, 0)) C (cM_fails l D cA A g ad dy nc nt nl th mo I L 0) hH_23 hS_24 mL_o rfl rfl gX5_lot_X5_fails rfl rfl (by decide +kernel) ⟨Nat.le_of_ble_eq_true rfl, Nat.le_of_ble_eq_true rfl⟩ hl_19 rfl (Nat.le_of_ble_eq_true rfl) dX5_lot_51 ⟨Nat.le_of_ble_eq_true rfl, Nat.le_of_ble_eq_true rfl⟩) hS_24 (fun r_26 w_27 H locs hP hH_28 hS_29 => ?_)
          obtain ⟨rfl, rfl⟩ := hP
          refine lv_if_eq (tgt := 59) hx hb dX5_lot_54 (by decide) (fun c_30 => ?_) (fun c_30 => absurd c_30 (by decide))
          refine lv_aload_n hx hb dX5_lot_59 rfl (lv_at hl_19 1 rfl) ?_
          refine lv_iload_n hx hb dX5_lot_60 rfl (lv_at hl_19 2 rfl) ?_
          refine lv_iload_n hx hb dX5_lot_61 rfl (lv_at hl_19 3 rfl) ?_
          refine zk_cv (zk_rV (As := [.int (nI cxj), .int (nI fj)]) (rest := []) (n := 2) (k := (0, 0, 0)) C (cM_finds l D cA A g ad dy nc nt nl 0 mo I L cxj fj hnt hT16) hH_28 hS_29 mL_o rfl rfl gX5_lot_X5_finds rfl rfl (by decide +kernel) ⟨Nat.le_of_ble_eq_true rfl, Nat.le_of_ble_eq_true rfl⟩ hl_19 rfl (Nat.le_of_ble_eq_true rfl) dX5_lot_62 ⟨Nat.le_of_ble_eq_true rfl, Nat.le_of_ble_eq_true rfl⟩) hS_29 (fun w_32 H locs hP hH_33 hS_34 => ?_)
          subst hP
          refine lv_iconst (v := 0) hx hb dX5_lot_65 (by decide) ?_
          refine lv_istore (lv' := [(6, .int 0), (5, .int 1), (0, .ref (ad (0, 0, 0))), (1, .int (nI cxj)), (2, .int (nI fj)), (3, .int rank), (4, .int what)]) hx hb dX5_lot_66 hl_19 (by decide) rfl (fun ls hl_35 => ?_)
          refine lv_ldc2 (v := (-1)) hx hb hown (hts (.constantLong RX5 193 (-1)) (by decide +kernel)) dX5_lot_68 ?_
          refine lv_lstore (lv' := [(7, .long (-1)), (6, .int 0), (5, .int 1), (0, .ref (ad (0, 0, 0))), (1, .int (nI cxj)), (2, .int (nI fj)), (3, .int rank), (4, .int what)]) hx hb dX5_lot_71 hl_35 (by decide) rfl (fun ls hl_36 => ?_)
          refine lv_iconst (v := 0) hx hb dX5_lot_73 (by decide) ?_
          refine lv_istore (lv' := [(9, .int 0), (7, .long (-1)), (6, .int 0), (5, .int 1), (0, .ref (ad (0, 0, 0))), (1, .int (nI cxj)), (2, .int (nI fj)), (3, .int rank), (4, .int what)]) hx hb dX5_lot_74 hl_36 (by decide) rfl (fun ls hl_37 => ?_)
          obtain ⟨Y, hY⟩ : ∃ z : zF, z = fdS I L cxj fj nt := ⟨_, rfl⟩
          rw [← hY] at hH_33
          have hYn : Y.1 ≤ 120 := by rw [hY]; exact Nat.le_trans (fdS_nl nt) hnt
          refine z_at (n := Y.1) (P := fun i_38 => zL p l e rmM_lot s m _ below meth c 10 D A _ (mw cA ad dy nc nt Y.1 0 mo Y.2.1 Y.2.2) 0 0 76 [(0, .ref (ad (0, 0, 0))), (3, .int rank), (4, .int what), (6, .int (nI ((ltS Y.2.1 Y.2.2 rank what i_38).1))), (7, .long ((ltS Y.2.1 Y.2.2 rank what i_38).2)), (9, .int (nI i_38))] []) 0 (Nat.zero_le _) (fun h => h _ _ _ hH_33 hS_34 (lv_sub hl_37 [4, 7, 8, 2, 1, 0] rfl)) ?_ ?_
          · intro H locs ls hH_40 hS_41 hl_42
            refine lv_iload hx hb dX5_lot_76 (lv_at hl_42 5 rfl) ?_
            refine lv_aload_n hx hb dX5_lot_78 rfl (lv_at hl_42 0 rfl) ?_
            refine zm_get C hin hH_40 18 (by decide) (by decide +kernel) rfl dX5_lot_79 ?_
            refine lv_icmp_ge (tgt := 158) hx hb dX5_lot_82 (by decide) (fun c_43 => ?_) (fun c_43 => absurd (Int32.le_refl _) c_43)
            refine lv_lload hx hb dX5_lot_158 (lv_at hl_42 4 rfl) ?_
            refine zr_lret C hr ?_ hH_40 hS_41 (Nat.le_of_ble_eq_true rfl) (Nat.le_of_ble_eq_true rfl) dX5_lot_160
            exact Or.inr ⟨cxj, fj, hcxj, rfl, hfj, rfl, by assumption, Or.inr ⟨by assumption, Y, hY, rfl, rfl⟩⟩
          · intro i_38 hi_38 ih_39 H locs ls hH_44 hS_45 hl_46
            refine lv_iload hx hb dX5_lot_76 (lv_at hl_46 5 rfl) ?_
            refine lv_aload_n hx hb dX5_lot_78 rfl (lv_at hl_46 0 rfl) ?_
            refine zm_get C hin hH_44 18 (by decide) (by decide +kernel) rfl dX5_lot_79 ?_
            refine lv_icmp_ge (tgt := 158) hx hb dX5_lot_82 (by decide) (fun c_47 => absurd c_47 (nI_ge hi_38 (by first | decide | omega))) (fun c_47 => ?_)
            refine lv_aload_n hx hb dX5_lot_85 rfl (lv_at hl_46 0 rfl) ?_
            refine zm_get C hin hH_44 20 (by decide) (by decide +kernel) rfl dX5_lot_86 ?_
            refine lv_iload hx hb dX5_lot_89 (lv_at hl_46 5 rfl) ?_
            refine zm_lld C hH_44 20 rfl (j := i_38) rfl (show i_38 < 120 by omega) dX5_lot_91 ?_
            refine lv_lconst (v := 0) hx hb dX5_lot_92 (by decide) ?_
            refine zl_cmp_le (tgt := 152) hx hb dX5_lot_93 dX5_lot_94 (by decide) (fun c_48 => ?_) (fun c_48 => ?_)
            · refine lv_iinc (v := nI (i_38 + 1)) (lv' := [(9, .int (nI (i_38 + 1))), (0, .ref (ad (0, 0, 0))), (3, .int rank), (4, .int what), (6, .int (nI ((ltS Y.2.1 Y.2.2 rank what i_38).1))), (7, .long ((ltS Y.2.1 Y.2.2 rank what i_38).2))]) hx hb dX5_lot_152 hl_46 (k := 5) rfl (nI_1 i_38) (by decide) rfl (fun ls hl_49 => ?_)
              refine lv_goto (tgt := 76) hx hb dX5_lot_155 (by decide) ?_
              exact ih_39 _ _ _ hH_44 hS_45 (by rw [ltS_n c_48]; exact lv_sub hl_49 [1, 2, 3, 4, 5, 0] rfl)
            · refine lv_iload hx hb dX5_lot_97 (lv_at hl_46 3 rfl) ?_
              refine lv_iload_n hx hb dX5_lot_99 rfl (lv_at hl_46 1 rfl) ?_
              refine lv_icmp_ne (tgt := 145) hx hb dX5_lot_100 (by decide) (fun c_50 => ?_) (fun c_50 => ?_)
              · refine lv_lload hx hb dX5_lot_145 (lv_at hl_46 4 rfl) ?_
                refine lv_lstore (lv' := [(7, .long ((ltS Y.2.1 Y.2.2 rank what i_38).2)), (0, .ref (ad (0, 0, 0))), (3, .int rank), (4, .int what), (6, .int (nI ((ltS Y.2.1 Y.2.2 rank what i_38).1))), (9, .int (nI i_38))]) hx hb dX5_lot_147 hl_46 (by decide) rfl (fun ls hl_51 => ?_)
                refine lv_iinc (v := nI (((ltS Y.2.1 Y.2.2 rank what i_38).1) + 1)) (lv' := [(6, .int (nI (((ltS Y.2.1 Y.2.2 rank what i_38).1) + 1))), (7, .long ((ltS Y.2.1 Y.2.2 rank what i_38).2)), (0, .ref (ad (0, 0, 0))), (3, .int rank), (4, .int what), (9, .int (nI i_38))]) hx hb dX5_lot_149 hl_51 (k := 4) rfl (nI_1 ((ltS Y.2.1 Y.2.2 rank what i_38).1)) (by decide) rfl (fun ls hl_52 => ?_)
                refine lv_iinc (v := nI (i_38 + 1)) (lv' := [(9, .int (nI (i_38 + 1))), (6, .int (nI (((ltS Y.2.1 Y.2.2 rank what i_38).1) + 1))), (7, .long ((ltS Y.2.1 Y.2.2 rank what i_38).2)), (0, .ref (ad (0, 0, 0))), (3, .int rank), (4, .int what)]) hx hb dX5_lot_152 hl_52 (k := 5) rfl (nI_1 i_38) (by decide) rfl (fun ls hl_53 => ?_)
                refine lv_goto (tgt := 76) hx hb dX5_lot_155 (by decide) ?_
                exact ih_39 _ _ _ hH_44 hS_45 (by rw [ltS_q c_48 c_50]; exact lv_sub hl_53 [3, 4, 5, 1, 2, 0] rfl)
              · refine lv_iload hx hb dX5_lot_103 (lv_at hl_46 2 rfl) ?_
                refine lv_if_ne (tgt := 119) hx hb dX5_lot_105 (by decide) (fun c_54 => ?_) (fun c_54 => ?_)
                · refine lv_iload hx hb dX5_lot_119 (lv_at hl_46 2 rfl) ?_
                  refine lv_iconst (v := 1) hx hb dX5_lot_121 (by decide) ?_
                  refine lv_icmp_ne (tgt := 135) hx hb dX5_lot_122 (by decide) (fun c_55 => ?_) (fun c_55 => ?_)
                  · refine lv_aload_n hx hb dX5_lot_135 rfl (lv_at hl_46 0 rfl) ?_
                    refine zm_get C hin hH_44 21 (by decide) (by decide +kernel) rfl dX5_lot_136 ?_
                    refine lv_iload hx hb dX5_lot_139 (lv_at hl_46 5 rfl) ?_
                    refine zm_lld C hH_44 21 rfl (j := i_38) rfl (show i_38 < 120 by omega) dX5_lot_141 ?_
                    refine lv_goto (tgt := 147) hx hb dX5_lot_142 (by decide) ?_
                    refine lv_lstore (lv' := [(7, .long (Y.2.2 21 i_38)), (0, .ref (ad (0, 0, 0))), (3, .int rank), (4, .int what), (6, .int (nI ((ltS Y.2.1 Y.2.2 rank what i_38).1))), (9, .int (nI i_38))]) hx hb dX5_lot_147 hl_46 (by decide) rfl (fun ls hl_56 => ?_)
                    refine lv_iinc (v := nI (((ltS Y.2.1 Y.2.2 rank what i_38).1) + 1)) (lv' := [(6, .int (nI (((ltS Y.2.1 Y.2.2 rank what i_38).1) + 1))), (7, .long (Y.2.2 21 i_38)), (0, .ref (ad (0, 0, 0))), (3, .int rank), (4, .int what), (9, .int (nI i_38))]) hx hb dX5_lot_149 hl_56 (k := 4) rfl (nI_1 ((ltS Y.2.1 Y.2.2 rank what i_38).1)) (by decide) rfl (fun ls hl_57 => ?_)
                    refine lv_iinc (v := nI (i_38 + 1)) (lv' := [(9, .int (nI (i_38 + 1))), (6, .int (nI (((ltS Y.2.1 Y.2.2 rank what i_38).1) + 1))), (7, .long (Y.2.2 21 i_38)), (0, .ref (ad (0, 0, 0))), (3, .int rank), (4, .int what)]) hx hb dX5_lot_152 hl_57 (k := 5) rfl (nI_1 i_38) (by decide) rfl (fun ls hl_58 => ?_)
                    refine lv_goto (tgt := 76) hx hb dX5_lot_155 (by decide) ?_
                    exact ih_39 _ _ _ hH_44 hS_45 (by rw [ltS_p c_48 c_50 ((if_neg c_54).trans (if_neg c_55))]; exact lv_sub hl_58 [3, 4, 5, 1, 2, 0] rfl)
                  · refine lv_aload_n hx hb dX5_lot_125 rfl (lv_at hl_46 0 rfl) ?_
                    refine zm_get C hin hH_44 20 (by decide) (by decide +kernel) rfl dX5_lot_126 ?_
                    refine lv_iload hx hb dX5_lot_129 (lv_at hl_46 5 rfl) ?_
                    refine zm_lld C hH_44 20 rfl (j := i_38) rfl (show i_38 < 120 by omega) dX5_lot_131 ?_
                    refine lv_goto (tgt := 147) hx hb dX5_lot_132 (by decide) ?_
                    refine lv_lstore (lv' := [(7, .long (Y.2.2 20 i_38)), (0, .ref (ad (0, 0, 0))), (3, .int rank), (4, .int what), (6, .int (nI ((ltS Y.2.1 Y.2.2 rank what i_38).1))), (9, .int (nI i_38))]) hx hb dX5_lot_147 hl_46 (by decide) rfl (fun ls hl_59 => ?_)
                    refine lv_iinc (v := nI (((ltS Y.2.1 Y.2.2 rank what i_38).1) + 1)) (lv' := [(6, .int (nI (((ltS Y.2.1 Y.2.2 rank what i_38).1) + 1))), (7, .long (Y.2.2 20 i_38)), (0, .ref (ad (0, 0, 0))), (3, .int rank), (4, .int what), (9, .int (nI i_38))]) hx hb dX5_lot_149 hl_59 (k := 4) rfl (nI_1 ((ltS Y.2.1 Y.2.2 rank what i_38).1)) (by decide) rfl (fun ls hl_60 => ?_)
                    refine lv_iinc (v := nI (i_38 + 1)) (lv' := [(9, .int (nI (i_38 + 1))), (6, .int (nI (((ltS Y.2.1 Y.2.2 rank what i_38).1) + 1))), (7, .long (Y.2.2 20 i_38)), (0, .ref (ad (0, 0, 0))), (3, .int rank), (4, .int what)]) hx hb dX5_lot_152 hl_60 (k := 5) rfl (nI_1 i_38) (by decide) rfl (fun ls hl_61 => ?_)
                    refine lv_goto (tgt := 76) hx hb dX5_lot_155 (by decide) ?_
                    exact ih_39 _ _ _ hH_44 hS_45 (by rw [ltS_p c_48 c_50 ((if_neg c_54).trans (if_pos c_55))]; exact lv_sub hl_61 [3, 4, 5, 1, 2, 0] rfl)
                · refine lv_aload_n hx hb dX5_lot_108 rfl (lv_at hl_46 0 rfl) ?_
                  refine zm_get C hin hH_44 19 (by decide) (by decide +kernel) rfl dX5_lot_109 ?_
                  refine lv_iload hx hb dX5_lot_112 (lv_at hl_46 5 rfl) ?_
                  refine zm_ild C hH_44 19 (by decide) rfl (j := i_38) rfl (show i_38 < 120 by omega) dX5_lot_114 ?_
                  refine lv_i2l (v := Int32.toInt64 (Y.2.1 19 i_38)) hx hb dX5_lot_115 rfl ?_
                  refine lv_goto (tgt := 147) hx hb dX5_lot_116 (by decide) ?_
                  refine lv_lstore (lv' := [(7, .long (Int32.toInt64 (Y.2.1 19 i_38))), (0, .ref (ad (0, 0, 0))), (3, .int rank), (4, .int what), (6, .int (nI ((ltS Y.2.1 Y.2.2 rank what i_38).1))), (9, .int (nI i_38))]) hx hb dX5_lot_147 hl_46 (by decide) rfl (fun ls hl_62 => ?_)
                  refine lv_iinc (v := nI (((ltS Y.2.1 Y.2.2 rank what i_38).1) + 1)) (lv' := [(6, .int (nI (((ltS Y.2.1 Y.2.2 rank what i_38).1) + 1))), (7, .long (Int32.toInt64 (Y.2.1 19 i_38))), (0, .ref (ad (0, 0, 0))), (3, .int rank), (4, .int what), (9, .int (nI i_38))]) hx hb dX5_lot_149 hl_62 (k := 4) rfl (nI_1 ((ltS Y.2.1 Y.2.2 rank what i_38).1)) (by decide) rfl (fun ls hl_63 => ?_)
                  refine lv_iinc (v := nI (i_38 + 1)) (lv' := [(9, .int (nI (i_38 + 1))), (6, .int (nI (((ltS Y.2.1 Y.2.2 rank what i_38).1) + 1))), (7, .long (Int32.toInt64 (Y.2.1 19 i_38))), (0, .ref (ad (0, 0, 0))), (3, .int rank), (4, .int what)]) hx hb dX5_lot_152 hl_63 (k := 5) rfl (nI_1 i_38) (by decide) rfl (fun ls hl_64 => ?_)
                  refine lv_goto (tgt := 76) hx hb dX5_lot_155 (by decide) ?_
                  exact ih_39 _ _ _ hH_44 hS_45 (by rw [ltS_p c_48 c_50 (if_pos c_54)]; exact lv_sub hl_64 [3, 4, 5, 1, 2, 0] rfl)
        · refine lv_if_eq (tgt := 50) hx hb dX5_lot_43 (by decide) (fun c_65 => ?_) (fun c_65 => absurd c_65 (by decide))
          refine lv_iconst (v := 2) hx hb dX5_lot_50 (by decide) ?_
          refine zk_ci (zk_rV (As := [.int 2]) (rest := []) (n := 1) (k := (0, 0, 0)) C (cM_fails l D cA A g ad dy nc nt nl th mo I L 2) hH_23 hS_24 mL_o rfl rfl gX5_lot_X5_fails rfl rfl (by decide +kernel) ⟨Nat.le_of_ble_eq_true rfl, Nat.le_of_ble_eq_true rfl⟩ hl_19 rfl (Nat.le_of_ble_eq_true rfl) dX5_lot_51 ⟨Nat.le_of_ble_eq_true rfl, Nat.le_of_ble_eq_true rfl⟩) hS_24 (fun r_66 w_67 H locs hP hH_68 hS_69 => ?_)
          obtain ⟨rfl, rfl⟩ := hP
          refine lv_if_eq (tgt := 59) hx hb dX5_lot_54 (by decide) (fun c_70 => absurd c_70 (by decide)) (fun c_70 => ?_)
          refine lv_lconst (v := 0) hx hb dX5_lot_57 (by decide) ?_
          refine zr_lret C hr ?_ hH_68 hS_69 (Nat.le_of_ble_eq_true rfl) (Nat.le_of_ble_eq_true rfl) dX5_lot_58
          exact Or.inr ⟨cxj, fj, hcxj, rfl, hfj, rfl, by assumption, Or.inl ⟨by assumption, rfl⟩⟩
    · refine lv_if_eq (tgt := 23) hx hb dX5_lot_12 (by decide) (fun c_71 => ?_) (fun c_71 => absurd c_71 (by decide))
      refine lv_iconst (v := 0) hx hb dX5_lot_23 (by decide) ?_
      refine lv_istore (lv' := [(5, .int 0), (0, .ref (ad (0, 0, 0))), (1, .int (nI cxj)), (2, .int f), (3, .int rank), (4, .int what)]) hx hb dX5_lot_24 hl (by decide) rfl (fun ls hl_72 => ?_)
      refine lv_aload_n hx hb dX5_lot_26 rfl (lv_at hl_72 1 rfl) ?_
      refine lv_iload hx hb dX5_lot_27 (lv_at hl_72 0 rfl) ?_
      refine lv_if_ne (tgt := 36) hx hb dX5_lot_29 (by decide) (fun c_73 => absurd c_73 (by decide)) (fun c_73 => ?_)
      refine lv_iconst (v := 1) hx hb dX5_lot_32 (by decide) ?_
      refine lv_goto (tgt := 51) hx hb dX5_lot_33 (by decide) ?_
      refine zk_ci (zk_rV (As := [.int 1]) (rest := []) (n := 1) (k := (0, 0, 0)) C (cM_fails l D cA A g ad dy nc nt nl th mo I L 1) hH_8 hS_9 mL_o rfl rfl gX5_lot_X5_fails rfl rfl (by decide +kernel) ⟨Nat.le_of_ble_eq_true rfl, Nat.le_of_ble_eq_true rfl⟩ hl_72 rfl (Nat.le_of_ble_eq_true rfl) dX5_lot_51 ⟨Nat.le_of_ble_eq_true rfl, Nat.le_of_ble_eq_true rfl⟩) hS_9 (fun r_74 w_75 H locs hP hH_76 hS_77 => ?_)
      obtain ⟨rfl, rfl⟩ := hP
      refine lv_if_eq (tgt := 59) hx hb dX5_lot_54 (by decide) (fun c_78 => absurd c_78 (by decide)) (fun c_78 => ?_)
      refine lv_lconst (v := 0) hx hb dX5_lot_57 (by decide) ?_
      refine zr_lret C hr ?_ hH_76 hS_77 (Nat.le_of_ble_eq_true rfl) (Nat.le_of_ble_eq_true rfl) dX5_lot_58
      exact Or.inl ⟨fun z => by first | exact absurd z (by assumption) | exact z.elim (by assumption) (by assumption) | exact absurd z.1 (by assumption) | exact absurd z.2 (by assumption) | exact z.1.elim (by assumption) (by assumption) | exact absurd z.2.1 (by assumption) | exact absurd (by assumption) z.2.2 | exact absurd z.2.2 (by assumption), rfl⟩
  · refine lv_if_eq (tgt := 23) hx hb dX5_lot_5 (by decide) (fun c_79 => ?_) (fun c_79 => absurd c_79 (by decide))
    refine lv_iconst (v := 0) hx hb dX5_lot_23 (by decide) ?_
    refine lv_istore (lv' := [(5, .int 0), (0, .ref (ad (0, 0, 0))), (1, .int cx), (2, .int f), (3, .int rank), (4, .int what)]) hx hb dX5_lot_24 hl (by decide) rfl (fun ls hl_80 => ?_)
    refine lv_aload_n hx hb dX5_lot_26 rfl (lv_at hl_80 1 rfl) ?_
    refine lv_iload hx hb dX5_lot_27 (lv_at hl_80 0 rfl) ?_
    refine lv_if_ne (tgt := 36) hx hb dX5_lot_29 (by decide) (fun c_81 => absurd c_81 (by decide)) (fun c_81 => ?_)
    refine lv_iconst (v := 1) hx hb dX5_lot_32 (by decide) ?_
    refine lv_goto (tgt := 51) hx hb dX5_lot_33 (by decide) ?_
    refine zk_ci (zk_rV (As := [.int 1]) (rest := []) (n := 1) (k := (0, 0, 0)) C (cM_fails l D cA A g ad dy nc nt nl th mo I L 1) hH_3 hS_4 mL_o rfl rfl gX5_lot_X5_fails rfl rfl (by decide +kernel) ⟨Nat.le_of_ble_eq_true rfl, Nat.le_of_ble_eq_true rfl⟩ hl_80 rfl (Nat.le_of_ble_eq_true rfl) dX5_lot_51 ⟨Nat.le_of_ble_eq_true rfl, Nat.le_of_ble_eq_true rfl⟩) hS_4 (fun r_82 w_83 H locs hP hH_84 hS_85 => ?_)
    obtain ⟨rfl, rfl⟩ := hP
    refine lv_if_eq (tgt := 59) hx hb dX5_lot_54 (by decide) (fun c_86 => absurd c_86 (by decide)) (fun c_86 => ?_)
    refine lv_lconst (v := 0) hx hb dX5_lot_57 (by decide) ?_
    refine zr_lret C hr ?_ hH_84 hS_85 (Nat.le_of_ble_eq_true rfl) (Nat.le_of_ble_eq_true rfl) dX5_lot_58
    exact Or.inl ⟨fun z => by first | exact absurd z (by assumption) | exact z.elim (by assumption) (by assumption) | exact absurd z.1 (by assumption) | exact absurd z.2 (by assumption) | exact z.1.elim (by assumption) (by assumption) | exact absurd z.2.1 (by assumption) | exact absurd (by assumption) z.2.2 | exact absurd z.2.2 (by assumption), rfl⟩
def rmM_year : Room := { frames := 4, cells := 0, slots := 0, locals := 110 }
set_option maxHeartbeats 600000 in
set_option maxRecDepth 100000 in
theorem cM_year (l : Launch) (D : va_G) (cA : Nat → ClassId) (A : Nat → Prop) (g : Nat → Nat) (ad : zk_K → Nat) (dy nc nt nl : Nat) (th : Int32) (mo : Int64) (I : zIA) (L : zLA) (cx y what : Int32) (hnc : nc ≤ 12) (hnt : nt ≤ 120) (hT16 : ∀ t, t < nt → zD (I 16 t) 7201) : zM l yX5_year wsX5_year rmM_year D (zt cA) A g [.ref (ad (0, 0, 0)), .int cx, .int y, .int what] (mw cA ad dy nc nt nl th mo I L) (zQl (fun r w' => (¬ (zIn cx nc ∧ zR y 0 20) ∧ mw cA ad dy nc nt nl 1 mo I L = w') ∨ (∃ c j, c < nc ∧ cx = nI c ∧ j ≤ 20 ∧ y = nI j ∧ ((¬ zR what 0 3 ∧ mw cA ad dy nc nt nl 2 mo I L = w') ∨ (zR what 0 3 ∧ ∃ Y : zF, Y = yearsS (nl, I, L) c nt ∧ yrV Y.2.2 c j what = r ∧ mw cA ad dy nc nt Y.1 0 mo Y.2.1 Y.2.2 = w'))))) := by
  refine zM_of (cc := cX5_year) (maxL := 5) (ret := (some .long)) (own := RX5) (by decide +kernel) rfl (Nat.le_of_ble_eq_true rfl) rfl ?_
  intro p e s m below meth c C hr hnm H locs ls hH hS hl
  obtain ⟨⟨hx, hb, hml, hown, hts⟩, hG, hlk⟩ := id C
  have hin : ∀ w ∈ wsX50, w ∈ wsX5_year := by decide +kernel
  have hl : lv_has ls 5 [(0, .ref (ad (0, 0, 0))), (1, .int cx), (2, .int y), (3, .int what)] := hl
  refine lv_aload_n hx hb dX5_year_0 rfl (lv_at hl 0 rfl) ?_
  refine lv_iload_n hx hb dX5_year_1 rfl (lv_at hl 1 rfl) ?_
  refine zk_ci (zk_rV (As := [.int cx]) (rest := []) (n := 1) (k := (0, 0, 0)) C (cM_isClient l D cA A g ad dy nc nt nl th mo I L cx hnc) hH hS mL_o rfl rfl gX5_year_X5_isClient rfl rfl (by decide +kernel) ⟨Nat.le_of_ble_eq_true rfl, Nat.le_of_ble_eq_true rfl⟩ hl rfl (Nat.le_of_ble_eq_true rfl) dX5_year_2 ⟨Nat.le_of_ble_eq_true rfl, Nat.le_of_ble_eq_true rfl⟩) hS (fun r_1 w_2 H locs hP hH_3 hS_4 => ?_)
  obtain ⟨rfl, (⟨rfl, h_r_1⟩ | ⟨rfl, h_r_1⟩)⟩ := hP
  · obtain ⟨cxj, hcxj, rfl⟩ := h_r_1
    refine lv_if_eq (tgt := 22) hx hb dX5_year_5 (by decide) (fun c_5 => absurd c_5 (by decide)) (fun c_5 => ?_)
    refine lv_iload_n hx hb dX5_year_8 rfl (lv_at hl 2 rfl) ?_
    refine lv_iconst (v := 0) hx hb dX5_year_9 (by decide) ?_
    refine lv_bipush (v := 20) hx hb dX5_year_10 (by decide) ?_
    refine zk_ci (zk_rS (As := [.int y, .int 0, .int 20]) (rest := []) (n := 3) C (cM_isIn l D cA A g _ y 0 20) hH_3 hS_4 gX5_year_X5_isIn rfl rfl (by decide +kernel) ⟨Nat.le_of_ble_eq_true rfl, Nat.le_of_ble_eq_true rfl⟩ hl rfl (Nat.le_of_ble_eq_true rfl) dX5_year_12 ⟨Nat.le_of_ble_eq_true rfl, Nat.le_of_ble_eq_true rfl⟩) hS_4 (fun r_6 w_7 H locs hP hH_8 hS_9 => ?_)
    obtain ⟨rfl, (⟨rfl, h_r_6⟩ | ⟨rfl, h_r_6⟩)⟩ := hP
    · obtain ⟨yj, hy1, hy2, rfl⟩ := zR_nat (a := 0) (b := 20) (n := 0) (m := 20) (by decide) h_r_6 rfl rfl
      refine lv_if_eq (tgt := 22) hx hb dX5_year_15 (by decide) (fun c_10 => absurd c_10 (by decide)) (fun c_10 => ?_)
      refine lv_iconst (v := 1) hx hb dX5_year_18 (by decide) ?_
      refine lv_goto (tgt := 23) hx hb dX5_year_19 (by decide) ?_
      refine lv_istore (lv' := [(4, .int 1), (0, .ref (ad (0, 0, 0))), (1, .int (nI cxj)), (2, .int (nI yj)), (3, .int what)]) hx hb dX5_year_23 hl (by decide) rfl (fun ls hl_11 => ?_)
      refine lv_aload_n hx hb dX5_year_25 rfl (lv_at hl_11 1 rfl) ?_
      refine lv_iload hx hb dX5_year_26 (lv_at hl_11 0 rfl) ?_
      refine lv_if_ne (tgt := 35) hx hb dX5_year_28 (by decide) (fun c_12 => ?_) (fun c_12 => absurd c_12 (by decide))
      refine lv_iload_n hx hb dX5_year_35 rfl (lv_at hl_11 4 rfl) ?_
      refine lv_iconst (v := 0) hx hb dX5_year_36 (by decide) ?_
      refine lv_iconst (v := 3) hx hb dX5_year_37 (by decide) ?_
      refine zk_ci (zk_rS (As := [.int what, .int 0, .int 3]) (rest := [.ref (ad (0, 0, 0))]) (n := 3) C (cM_isIn l D cA A g _ what 0 3) hH_8 hS_9 gX5_year_X5_isIn rfl rfl (by decide +kernel) ⟨Nat.le_of_ble_eq_true rfl, Nat.le_of_ble_eq_true rfl⟩ hl_11 rfl (Nat.le_of_ble_eq_true rfl) dX5_year_38 ⟨Nat.le_of_ble_eq_true rfl, Nat.le_of_ble_eq_true rfl⟩) hS_9 (fun r_13 w_14 H locs hP hH_15 hS_16 => ?_)
      obtain ⟨rfl, (⟨rfl, h_r_13⟩ | ⟨rfl, h_r_13⟩)⟩ := hP
      · refine lv_if_eq (tgt := 48) hx hb dX5_year_41 (by decide) (fun c_17 => absurd c_17 (by decide)) (fun c_17 => ?_)
        refine lv_iconst (v := 0) hx hb dX5_year_44 (by decide) ?_
        refine lv_goto (tgt := 49) hx hb dX5_year_45 (by decide) ?_
        refine zk_ci (zk_rV (As := [.int 0]) (rest := []) (n := 1) (k := (0, 0, 0)) C (cM_fails l D cA A g ad dy nc nt nl th mo I L 0) hH_15 hS_16 mL_o rfl rfl gX5_year_X5_fails rfl rfl (by decide +kernel) ⟨Nat.le_of_ble_eq_true rfl, Nat.le_of_ble_eq_true rfl⟩ hl_11 rfl (Nat.le_of_ble_eq_true rfl) dX5_year_49 ⟨Nat.le_of_ble_eq_true rfl, Nat.le_of_ble_eq_true rfl⟩) hS_16 (fun r_18 w_19 H locs hP hH_20 hS_21 => ?_)
        obtain ⟨rfl, rfl⟩ := hP
        refine lv_if_eq (tgt := 57) hx hb dX5_year_52 (by decide) (fun c_22 => ?_) (fun c_22 => absurd c_22 (by decide))
        refine lv_aload_n hx hb dX5_year_57 rfl (lv_at hl_11 1 rfl) ?_
        refine lv_iload_n hx hb dX5_year_58 rfl (lv_at hl_11 2 rfl) ?_
        refine zk_cv (zk_rV (As := [.int (nI cxj)]) (rest := []) (n := 1) (k := (0, 0, 0)) C (cM_years l D cA A g ad dy nc nt nl 0 mo I L cxj hnt hT16) hH_20 hS_21 mL_o rfl rfl gX5_year_X5_years rfl rfl (by decide +kernel) ⟨Nat.le_of_ble_eq_true rfl, Nat.le_of_ble_eq_true rfl⟩ hl_11 rfl (Nat.le_of_ble_eq_true rfl) dX5_year_59 ⟨Nat.le_of_ble_eq_true rfl, Nat.le_of_ble_eq_true rfl⟩) hS_21 (fun w_24 H locs hP hH_25 hS_26 => ?_)
        subst hP
        refine lv_iload_n hx hb dX5_year_62 rfl (lv_at hl_11 4 rfl) ?_
        refine lv_if_ne (tgt := 75) hx hb dX5_year_63 (by decide) (fun c_27 => ?_) (fun c_27 => ?_)
        · refine lv_iload_n hx hb dX5_year_75 rfl (lv_at hl_11 4 rfl) ?_
          refine lv_iconst (v := 1) hx hb dX5_year_76 (by decide) ?_
          refine lv_icmp_ne (tgt := 89) hx hb dX5_year_77 (by decide) (fun c_28 => ?_) (fun c_28 => ?_)
          · refine lv_iload_n hx hb dX5_year_89 rfl (lv_at hl_11 4 rfl) ?_
            refine lv_iconst (v := 2) hx hb dX5_year_90 (by decide) ?_
            refine lv_icmp_ne (tgt := 107) hx hb dX5_year_91 (by decide) (fun c_29 => ?_) (fun c_29 => ?_)
            · refine lv_aload_n hx hb dX5_year_107 rfl (lv_at hl_11 1 rfl) ?_
              refine zm_get C hin hH_25 9 (by decide) (by decide +kernel) rfl dX5_year_108 ?_
              refine lv_bipush (v := 21) hx hb dX5_year_111 (by decide) ?_
              refine lv_iload_n hx hb dX5_year_113 rfl (lv_at hl_11 2 rfl) ?_
              refine lv_imul hx hb dX5_year_114 ?_
              refine lv_iload_n hx hb dX5_year_115 rfl (lv_at hl_11 3 rfl) ?_
              refine lv_iadd hx hb dX5_year_116 ?_
              refine zm_lld C hH_25 9 rfl (j := ((21 * cxj) + yj)) (zi_add (zi_mul rfl rfl) rfl) (show ((21 * cxj) + yj) < 252 by omega) dX5_year_117 ?_
              refine zr_lret C hr ?_ hH_25 hS_26 (Nat.le_of_ble_eq_true rfl) (Nat.le_of_ble_eq_true rfl) dX5_year_118
              exact Or.inr ⟨cxj, yj, hcxj, rfl, hy2, rfl, Or.inr ⟨by assumption, _, rfl, (if_neg c_27).trans ((if_neg c_28).trans (if_neg c_29)), rfl⟩⟩
            · refine lv_aload_n hx hb dX5_year_94 rfl (lv_at hl_11 1 rfl) ?_
              refine zm_get C hin hH_25 23 (by decide) (by decide +kernel) rfl dX5_year_95 ?_
              refine lv_iload_n hx hb dX5_year_98 rfl (lv_at hl_11 3 rfl) ?_
              refine zm_lld C hH_25 23 rfl (j := yj) rfl (show yj < 21 by omega) dX5_year_99 ?_
              refine lv_ldc2 (v := 4) hx hb hown (hts (.constantLong RX5 188 4) (by decide +kernel)) dX5_year_100 ?_
              refine lv_ldiv hx hb dX5_year_103 (by decide) ?_
              refine lv_goto (tgt := 118) hx hb dX5_year_104 (by decide) ?_
              refine zr_lret C hr ?_ hH_25 hS_26 (Nat.le_of_ble_eq_true rfl) (Nat.le_of_ble_eq_true rfl) dX5_year_118
              exact Or.inr ⟨cxj, yj, hcxj, rfl, hy2, rfl, Or.inr ⟨by assumption, _, rfl, (if_neg c_27).trans ((if_neg c_28).trans (if_pos c_29)), rfl⟩⟩
          · refine lv_aload_n hx hb dX5_year_80 rfl (lv_at hl_11 1 rfl) ?_
            refine zm_get C hin hH_25 23 (by decide) (by decide +kernel) rfl dX5_year_81 ?_
            refine lv_iload_n hx hb dX5_year_84 rfl (lv_at hl_11 3 rfl) ?_
            refine zm_lld C hH_25 23 rfl (j := yj) rfl (show yj < 21 by omega) dX5_year_85 ?_
            refine lv_goto (tgt := 118) hx hb dX5_year_86 (by decide) ?_
            refine zr_lret C hr ?_ hH_25 hS_26 (Nat.le_of_ble_eq_true rfl) (Nat.le_of_ble_eq_true rfl) dX5_year_118
            exact Or.inr ⟨cxj, yj, hcxj, rfl, hy2, rfl, Or.inr ⟨by assumption, _, rfl, (if_neg c_27).trans (if_pos c_28), rfl⟩⟩
        · refine lv_aload_n hx hb dX5_year_66 rfl (lv_at hl_11 1 rfl) ?_
          refine zm_get C hin hH_25 22 (by decide) (by decide +kernel) rfl dX5_year_67 ?_
          refine lv_iload_n hx hb dX5_year_70 rfl (lv_at hl_11 3 rfl) ?_
          refine zm_lld C hH_25 22 rfl (j := yj) rfl (show yj < 21 by omega) dX5_year_71 ?_
          refine lv_goto (tgt := 118) hx hb dX5_year_72 (by decide) ?_
          refine zr_lret C hr ?_ hH_25 hS_26 (Nat.le_of_ble_eq_true rfl) (Nat.le_of_ble_eq_true rfl) dX5_year_118
          exact Or.inr ⟨cxj, yj, hcxj, rfl, hy2, rfl, Or.inr ⟨by assumption, _, rfl, if_pos c_27, rfl⟩⟩
      · refine lv_if_eq (tgt := 48) hx hb dX5_year_41 (by decide) (fun c_30 => ?_) (fun c_30 => absurd c_30 (by decide))
        refine lv_iconst (v := 2) hx hb dX5_year_48 (by decide) ?_
        refine zk_ci (zk_rV (As := [.int 2]) (rest := []) (n := 1) (k := (0, 0, 0)) C (cM_fails l D cA A g ad dy nc nt nl th mo I L 2) hH_15 hS_16 mL_o rfl rfl gX5_year_X5_fails rfl rfl (by decide +kernel) ⟨Nat.le_of_ble_eq_true rfl, Nat.le_of_ble_eq_true rfl⟩ hl_11 rfl (Nat.le_of_ble_eq_true rfl) dX5_year_49 ⟨Nat.le_of_ble_eq_true rfl, Nat.le_of_ble_eq_true rfl⟩) hS_16 (fun r_31 w_32 H locs hP hH_33 hS_34 => ?_)
        obtain ⟨rfl, rfl⟩ := hP
        refine lv_if_eq (tgt := 57) hx hb dX5_year_52 (by decide) (fun c_35 => absurd c_35 (by decide)) (fun c_35 => ?_)
        refine lv_lconst (v := 0) hx hb dX5_year_55 (by decide) ?_
        refine zr_lret C hr ?_ hH_33 hS_34 (Nat.le_of_ble_eq_true rfl) (Nat.le_of_ble_eq_true rfl) dX5_year_56
        exact Or.inr ⟨cxj, yj, hcxj, rfl, hy2, rfl, Or.inl ⟨by assumption, rfl⟩⟩
    · refine lv_if_eq (tgt := 22) hx hb dX5_year_15 (by decide) (fun c_36 => ?_) (fun c_36 => absurd c_36 (by decide))
      refine lv_iconst (v := 0) hx hb dX5_year_22 (by decide) ?_
      refine lv_istore (lv' := [(4, .int 0), (0, .ref (ad (0, 0, 0))), (1, .int (nI cxj)), (2, .int y), (3, .int what)]) hx hb dX5_year_23 hl (by decide) rfl (fun ls hl_37 => ?_)
      refine lv_aload_n hx hb dX5_year_25 rfl (lv_at hl_37 1 rfl) ?_
      refine lv_iload hx hb dX5_year_26 (lv_at hl_37 0 rfl) ?_
      refine lv_if_ne (tgt := 35) hx hb dX5_year_28 (by decide) (fun c_38 => absurd c_38 (by decide)) (fun c_38 => ?_)
      refine lv_iconst (v := 1) hx hb dX5_year_31 (by decide) ?_
      refine lv_goto (tgt := 49) hx hb dX5_year_32 (by decide) ?_
      refine zk_ci (zk_rV (As := [.int 1]) (rest := []) (n := 1) (k := (0, 0, 0)) C (cM_fails l D cA A g ad dy nc nt nl th mo I L 1) hH_8 hS_9 mL_o rfl rfl gX5_year_X5_fails rfl rfl (by decide +kernel) ⟨Nat.le_of_ble_eq_true rfl, Nat.le_of_ble_eq_true rfl⟩ hl_37 rfl (Nat.le_of_ble_eq_true rfl) dX5_year_49 ⟨Nat.le_of_ble_eq_true rfl, Nat.le_of_ble_eq_true rfl⟩) hS_9 (fun r_39 w_40 H locs hP hH_41 hS_42 => ?_)
      obtain ⟨rfl, rfl⟩ := hP
      refine lv_if_eq (tgt := 57) hx hb dX5_year_52 (by decide) (fun c_43 => absurd c_43 (by decide)) (fun c_43 => ?_)
      refine lv_lconst (v := 0) hx hb dX5_year_55 (by decide) ?_
      refine zr_lret C hr ?_ hH_41 hS_42 (Nat.le_of_ble_eq_true rfl) (Nat.le_of_ble_eq_true rfl) dX5_year_56
      exact Or.inl ⟨fun z => by first | exact absurd z (by assumption) | exact z.elim (by assumption) (by assumption) | exact absurd z.1 (by assumption) | exact absurd z.2 (by assumption) | exact z.1.elim (by assumption) (by assumption) | exact absurd z.2.1 (by assumption) | exact absurd (by assumption) z.2.2 | exact absurd z.2.2 (by assumption), rfl⟩
  · refine lv_if_eq (tgt := 22) hx hb dX5_year_5 (by decide) (fun c_44 => ?_) (fun c_44 => absurd c_44 (by decide))
    refine lv_iconst (v := 0) hx hb dX5_year_22 (by decide) ?_
    refine lv_istore (lv' := [(4, .int 0), (0, .ref (ad (0, 0, 0))), (1, .int cx), (2, .int y), (3, .int what)]) hx hb dX5_year_23 hl (by decide) rfl (fun ls hl_45 => ?_)
    refine lv_aload_n hx hb dX5_year_25 rfl (lv_at hl_45 1 rfl) ?_
    refine lv_iload hx hb dX5_year_26 (lv_at hl_45 0 rfl) ?_
    refine lv_if_ne (tgt := 35) hx hb dX5_year_28 (by decide) (fun c_46 => absurd c_46 (by decide)) (fun c_46 => ?_)
    refine lv_iconst (v := 1) hx hb dX5_year_31 (by decide) ?_
    refine lv_goto (tgt := 49) hx hb dX5_year_32 (by decide) ?_
    refine zk_ci (zk_rV (As := [.int 1]) (rest := []) (n := 1) (k := (0, 0, 0)) C (cM_fails l D cA A g ad dy nc nt nl th mo I L 1) hH_3 hS_4 mL_o rfl rfl gX5_year_X5_fails rfl rfl (by decide +kernel) ⟨Nat.le_of_ble_eq_true rfl, Nat.le_of_ble_eq_true rfl⟩ hl_45 rfl (Nat.le_of_ble_eq_true rfl) dX5_year_49 ⟨Nat.le_of_ble_eq_true rfl, Nat.le_of_ble_eq_true rfl⟩) hS_4 (fun r_47 w_48 H locs hP hH_49 hS_50 => ?_)
    obtain ⟨rfl, rfl⟩ := hP
    refine lv_if_eq (tgt := 57) hx hb dX5_year_52 (by decide) (fun c_51 => absurd c_51 (by decide)) (fun c_51 => ?_)
    refine lv_lconst (v := 0) hx hb dX5_year_55 (by decide) ?_
    refine zr_lret C hr ?_ hH_49 hS_50 (Nat.le_of_ble_eq_true rfl) (Nat.le_of_ble_eq_true rfl) dX5_year_56
    exact Or.inl ⟨fun z => by first | exact absurd z (by assumption) | exact z.elim (by assumption) (by assumption) | exact absurd z.1 (by assumption) | exact absurd z.2 (by assumption) | exact z.1.elim (by assumption) (by assumption) | exact absurd z.2.1 (by assumption) | exact absurd (by assumption) z.2.2 | exact absurd z.2.2 (by assumption), rfl⟩
