def rmH_costs : Room := { frames := 0, cells := 0, slots := 0, locals := 0 }
set_option maxHeartbeats 600000 in
set_option maxRecDepth 100000 in
theorem cH_costs (l : Launch) (D : va_G) (cA : Nat → ClassId) (A : Nat → Prop) (g : Nat → Nat) (w : zk_W) (x : Int64) : zM l yL_costs wsL_costs rmH_costs D (zt cA) A g [.long x] (w) (zQl (fun r w' => cosL x = r ∧ w = w')) := by
  refine zM_of (cc := cL_costs) (maxL := 2) (ret := (some .long)) (own := RL) (by decide +kernel) rfl (Nat.le_of_ble_eq_true rfl) rfl ?_
  intro p e s m below meth c C hr hnm H locs ls hH hS hl
  obtain ⟨⟨hx, hb, hml, hown, hts⟩, hG, hlk⟩ := id C
  have hl : lv_has ls 2 [(0, .long x)] := hl
  refine lv_lload_n hx hb dL_costs_0 rfl (lv_at hl 0 rfl) ?_
  refine lv_ldc2 (v := 10000) hx hb hown (hts (.constantLong RL 69 10000) (by decide +kernel)) dL_costs_1 ?_
  refine zl_cmp_ge (tgt := 16) hx hb dL_costs_4 dL_costs_5 (by decide) (fun c_1 => ?_) (fun c_1 => ?_)
  · refine lv_lload_n hx hb dL_costs_16 rfl (lv_at hl 0 rfl) ?_
    refine lv_ldc2 (v := 100000) hx hb hown (hts (.constantLong RL 73 100000) (by decide +kernel)) dL_costs_17 ?_
    refine zl_cmp_ge (tgt := 32) hx hb dL_costs_20 dL_costs_21 (by decide) (fun c_2 => ?_) (fun c_2 => ?_)
    · refine lv_lload_n hx hb dL_costs_32 rfl (lv_at hl 0 rfl) ?_
      refine lv_ldc2 (v := 500) hx hb hown (hts (.constantLong RL 77 500) (by decide +kernel)) dL_costs_33 ?_
      refine lv_ldiv hx hb dL_costs_36 (by decide) ?_
      refine zr_lret C hr ?_ hH hS (Nat.le_of_ble_eq_true rfl) (Nat.le_of_ble_eq_true rfl) dL_costs_37
      exact ⟨by unfold cosL; first | rw [if_neg c_1, if_neg c_2] | rw [if_neg c_1, if_pos c_2] | rw [if_pos c_1], rfl⟩
    · refine lv_lload_n hx hb dL_costs_24 rfl (lv_at hl 0 rfl) ?_
      refine lv_ldc2 (v := 200) hx hb hown (hts (.constantLong RL 75 200) (by decide +kernel)) dL_costs_25 ?_
      refine lv_ldiv hx hb dL_costs_28 (by decide) ?_
      refine lv_goto (tgt := 37) hx hb dL_costs_29 (by decide) ?_
      refine zr_lret C hr ?_ hH hS (Nat.le_of_ble_eq_true rfl) (Nat.le_of_ble_eq_true rfl) dL_costs_37
      exact ⟨by unfold cosL; first | rw [if_neg c_1, if_neg c_2] | rw [if_neg c_1, if_pos c_2] | rw [if_pos c_1], rfl⟩
  · refine lv_lload_n hx hb dL_costs_8 rfl (lv_at hl 0 rfl) ?_
    refine lv_ldc2 (v := 100) hx hb hown (hts (.constantLong RL 71 100) (by decide +kernel)) dL_costs_9 ?_
    refine lv_ldiv hx hb dL_costs_12 (by decide) ?_
    refine lv_goto (tgt := 37) hx hb dL_costs_13 (by decide) ?_
    refine zr_lret C hr ?_ hH hS (Nat.le_of_ble_eq_true rfl) (Nat.le_of_ble_eq_true rfl) dL_costs_37
    exact ⟨by unfold cosL; first | rw [if_neg c_1, if_neg c_2] | rw [if_neg c_1, if_pos c_2] | rw [if_pos c_1], rfl⟩
def rmH_moves : Room := { frames := 0, cells := 0, slots := 0, locals := 0 }
set_option maxHeartbeats 600000 in
set_option maxRecDepth 100000 in
theorem cH_moves (l : Launch) (D : va_G) (cA : Nat → ClassId) (A : Nat → Prop) (g : Nat → Nat) (ad : zk_K → Nat) (I : zIA) (L : zLA) (cc f : Nat) (q : Int64) (hc : cc < 3) (hf : f < 6) : zM l yL_moves wsL_moves rmH_moves D (zt cA) A g [.ref (ad (0, 0, 0)), .ref (ad (1, 0, 0)), .ref (ad (2, 0, 0)), .int (nI cc), .int (nI f), .long q] (aw cA ad I L) (zQv (fun w' => aw cA ad I (mvL I L cc f q) = w')) := by
  refine zM_of (cc := cL_moves) (maxL := 11) (ret := none) (own := RL) (by decide +kernel) rfl (Nat.le_of_ble_eq_true rfl) rfl ?_
  intro p e s m below meth c C hr hnm H locs ls hH hS hl
  obtain ⟨⟨hx, hb, hml, hown, hts⟩, hG, hlk⟩ := id C
  have hl : lv_has ls 11 [(0, .ref (ad (0, 0, 0))), (1, .ref (ad (1, 0, 0))), (2, .ref (ad (2, 0, 0))), (3, .int (nI cc)), (4, .int (nI f)), (5, .long q)] := hl
  refine lv_lload hx hb dL_moves_0 (lv_at hl 5 rfl) ?_
  refine lv_aload_n hx hb dL_moves_2 rfl (lv_at hl 1 rfl) ?_
  refine lv_bipush (v := 6) hx hb dL_moves_3 (by decide) ?_
  refine lv_iload hx hb dL_moves_5 (lv_at hl 4 rfl) ?_
  refine lv_iadd hx hb dL_moves_7 ?_
  refine W.eq (g2 := F0 m 8 ls [.int (nI (6 + f)), .ref (ad (1, 0, 0)), .long q]) (by rw [show (6 + (nI f) : Int32) = nI (6 + f) from (zi_add rfl rfl)]) ?_
  refine la_lld C hH 1 rfl (by decide) (j := (6 + f)) rfl (show (6 + f) < 16 by omega) dL_moves_8 ?_
  refine lv_lsub hx hb dL_moves_9 ?_
  refine lv_lstore (lv' := [(7, .long (q - (L 1 (6 + f)))), (0, .ref (ad (0, 0, 0))), (1, .ref (ad (1, 0, 0))), (2, .ref (ad (2, 0, 0))), (3, .int (nI cc)), (4, .int (nI f)), (5, .long q)]) hx hb dL_moves_10 hl (by decide) rfl (fun ls hl_1 => ?_)
  refine z_join (nL := 11) (D := D) (A := A) (w := aw cA ad I L) (pcj := 33) (lc := [(7, .long (q - (L 1 (6 + f)))), (0, .ref (ad (0, 0, 0))), (1, .ref (ad (1, 0, 0))), (2, .ref (ad (2, 0, 0))), (3, .int (nI cc)), (4, .int (nI f)), (5, .long q)]) (st1 := [.long (mvK L f q)]) (fun J_2 => ?_) ?_
  · refine lv_lload hx hb dL_moves_12 (lv_at hl_1 0 rfl) ?_
    refine lv_lconst (v := 0) hx hb dL_moves_14 (by decide) ?_
    refine zl_cmp_le (tgt := 32) hx hb dL_moves_15 dL_moves_16 (by decide) (fun c_6 => ?_) (fun c_6 => ?_)
    · refine lv_lconst (v := 0) hx hb dL_moves_32 (by decide) ?_
      refine W.eq (g2 := F0 m 33 ls [.long (mvK L f q)]) (by rw [show (mvK L f q : Int64) = 0 from (by unfold mvK; split <;> first | contradiction | rfl)]) ?_
      exact J_2 _ _ _ hH hS (lv_sub hl_1 [0, 1, 2, 3, 4, 5, 6] rfl)
    · refine lv_lload hx hb dL_moves_19 (lv_at hl_1 0 rfl) ?_
      refine lv_ldc2 (v := 999) hx hb hown (hts (.constantLong RL 79 999) (by decide +kernel)) dL_moves_21 ?_
      refine lv_ladd hx hb dL_moves_24 ?_
      refine lv_ldc2 (v := 1000) hx hb hown (hts (.constantLong RL 81 1000) (by decide +kernel)) dL_moves_25 ?_
      refine lv_ldiv hx hb dL_moves_28 (by decide) ?_
      refine lv_goto (tgt := 33) hx hb dL_moves_29 (by decide) ?_
      refine W.eq (g2 := F0 m 33 ls [.long (mvK L f q)]) (by rw [show (mvK L f q : Int64) = ((q - (L 1 (6 + f))) + 999) / 1000 from (by unfold mvK; split <;> first | contradiction | rfl)]) ?_
      exact J_2 _ _ _ hH hS (lv_sub hl_1 [0, 1, 2, 3, 4, 5, 6] rfl)
  · intro H locs ls hH_3 hS_4 hl_5
    refine lv_lstore (lv' := [(9, .long (mvK L f q)), (7, .long (q - (L 1 (6 + f)))), (0, .ref (ad (0, 0, 0))), (1, .ref (ad (1, 0, 0))), (2, .ref (ad (2, 0, 0))), (3, .int (nI cc)), (4, .int (nI f)), (5, .long q)]) hx hb dL_moves_33 hl_5 (by decide) rfl (fun ls hl_7 => ?_)
    refine lv_aload_n hx hb dL_moves_35 rfl (lv_at hl_7 3 rfl) ?_
    refine lv_iload hx hb dL_moves_36 (lv_at hl_7 6 rfl) ?_
    refine lv_dup2_11 hx hb dL_moves_38 rfl rfl ?_
    refine la_lld C hH_3 1 rfl (by decide) (j := f) rfl (show f < 16 by omega) dL_moves_39 ?_
    refine lv_lload hx hb dL_moves_40 (lv_at hl_7 0 rfl) ?_
    refine lv_ladd hx hb dL_moves_42 ?_
    refine la_lst C hH_3 hS_4 1 rfl (by decide) (j := f) rfl (show f < 16 by omega) dL_moves_43 (fun H locs hH_8 hS_9 => ?_)
    refine lv_aload_n hx hb dL_moves_44 rfl (lv_at hl_7 3 rfl) ?_
    refine lv_bipush (v := 15) hx hb dL_moves_45 (by decide) ?_
    refine lv_dup2_11 hx hb dL_moves_47 rfl rfl ?_
    refine la_lld C hH_8 1 rfl (by decide) (j := 15) rfl (show 15 < 16 by omega) dL_moves_48 ?_
    refine lv_lload hx hb dL_moves_49 (lv_at hl_7 0 rfl) ?_
    refine lv_aload_n hx hb dL_moves_51 rfl (lv_at hl_7 2 rfl) ?_
    refine lv_iload hx hb dL_moves_52 (lv_at hl_7 6 rfl) ?_
    refine la_ild C hH_8 0 rfl (by decide) (j := f) rfl (show f < 6 by omega) dL_moves_54 ?_
    refine lv_i2l (v := Int32.toInt64 (I 0 f)) hx hb dL_moves_55 rfl ?_
    refine lv_lmul hx hb dL_moves_56 ?_
    refine lv_lsub hx hb dL_moves_57 ?_
    refine la_lst C hH_8 hS_9 1 rfl (by decide) (j := 15) rfl (show 15 < 16 by omega) dL_moves_58 (fun H locs hH_10 hS_11 => ?_)
    refine lv_aload_n hx hb dL_moves_59 rfl (lv_at hl_7 3 rfl) ?_
    refine lv_bipush (v := 6) hx hb dL_moves_60 (by decide) ?_
    refine lv_iload hx hb dL_moves_62 (lv_at hl_7 6 rfl) ?_
    refine lv_iadd hx hb dL_moves_64 ?_
    refine W.eq (g2 := F0 m 65 ls [.int (nI (6 + f)), .ref (ad (1, 0, 0))]) (by rw [show (6 + (nI f) : Int32) = nI (6 + f) from (zi_add rfl rfl)]) ?_
    refine lv_dup2_11 hx hb dL_moves_65 rfl rfl ?_
    refine la_lld C hH_10 1 rfl (by decide) (j := (6 + f)) rfl (show (6 + f) < 16 by omega) dL_moves_66 ?_
    refine lv_ldc2 (v := 1000) hx hb hown (hts (.constantLong RL 81 1000) (by decide +kernel)) dL_moves_67 ?_
    refine lv_lload hx hb dL_moves_70 (lv_at hl_7 0 rfl) ?_
    refine lv_lmul hx hb dL_moves_72 ?_
    refine lv_lload hx hb dL_moves_73 (lv_at hl_7 7 rfl) ?_
    refine lv_lsub hx hb dL_moves_75 ?_
    refine lv_ladd hx hb dL_moves_76 ?_
    refine la_lst C hH_10 hS_11 1 rfl (by decide) (j := (6 + f)) rfl (show (6 + f) < 16 by omega) dL_moves_77 (fun H locs hH_12 hS_13 => ?_)
    refine lv_aload_n hx hb dL_moves_78 rfl (lv_at hl_7 4 rfl) ?_
    refine lv_bipush (v := 6) hx hb dL_moves_79 (by decide) ?_
    refine lv_iload_n hx hb dL_moves_81 rfl (lv_at hl_7 5 rfl) ?_
    refine lv_imul hx hb dL_moves_82 ?_
    refine lv_iload hx hb dL_moves_83 (lv_at hl_7 6 rfl) ?_
    refine lv_iadd hx hb dL_moves_85 ?_
    refine W.eq (g2 := F0 m 86 ls [.int (nI ((6 * cc) + f)), .ref (ad (2, 0, 0))]) (by rw [show ((6 * (nI cc)) + (nI f) : Int32) = nI ((6 * cc) + f) from (zi_add (zi_mul rfl rfl) rfl)]) ?_
    refine lv_dup2_11 hx hb dL_moves_86 rfl rfl ?_
    refine la_lld C hH_12 2 rfl (by decide) (j := ((6 * cc) + f)) rfl (show ((6 * cc) + f) < 18 by omega) dL_moves_87 ?_
    refine lv_lload hx hb dL_moves_88 (lv_at hl_7 7 rfl) ?_
    refine lv_ladd hx hb dL_moves_90 ?_
    refine la_lst C hH_12 hS_13 2 rfl (by decide) (j := ((6 * cc) + f)) rfl (show ((6 * cc) + f) < 18 by omega) dL_moves_91 (fun H locs hH_14 hS_15 => ?_)
    refine zr_vret C hr ?_ hH_14 hS_15 (Nat.le_of_ble_eq_true rfl) (Nat.le_of_ble_eq_true rfl) dL_moves_92
    rfl
def rmH_trades : Room := { frames := 1, cells := 0, slots := 0, locals := 30 }
set_option maxHeartbeats 600000 in
set_option maxRecDepth 100000 in
theorem cH_trades (l : Launch) (D : va_G) (cA : Nat → ClassId) (A : Nat → Prop) (g : Nat → Nat) (ad : zk_K → Nat) (I : zIA) (L : zLA) (nt dy cc f : Nat) (q x : Int64) (h2 : I 10 2 = nI nt) (h0 : I 10 0 = nI dy) (hnt : nt < 30) (hc : cc < 3) (hf : f < 6) : zM l yL_trades wsL_trades rmH_trades D (zt cA) A g [.ref (ad (0, 0, 0)), .ref (ad (1, 0, 0)), .ref (ad (2, 0, 0)), .ref (ad (4, 0, 0)), .ref (ad (5, 0, 0)), .ref (ad (6, 0, 0)), .ref (ad (10, 0, 0)), .int (nI cc), .int (nI f), .long q, .long x] (aw cA ad I L) (zQv (fun w' => aw cA ad (trI I nt dy cc f) (trL I L nt dy cc f q x) = w')) := by
  refine zM_of (cc := cL_trades) (maxL := 15) (ret := none) (own := RL) (by decide +kernel) rfl (Nat.le_of_ble_eq_true rfl) rfl ?_
  intro p e s m below meth c C hr hnm H locs ls hH hS hl
  obtain ⟨⟨hx, hb, hml, hown, hts⟩, hG, hlk⟩ := id C
  have hl : lv_has ls 15 [(0, .ref (ad (0, 0, 0))), (1, .ref (ad (1, 0, 0))), (2, .ref (ad (2, 0, 0))), (3, .ref (ad (4, 0, 0))), (4, .ref (ad (5, 0, 0))), (5, .ref (ad (6, 0, 0))), (6, .ref (ad (10, 0, 0))), (7, .int (nI cc)), (8, .int (nI f)), (9, .long q), (11, .long x)] := hl
  refine z_join (nL := 15) (D := D) (A := A) (w := aw cA ad I L) (pcj := 26) (lc := [(0, .ref (ad (0, 0, 0))), (1, .ref (ad (1, 0, 0))), (2, .ref (ad (2, 0, 0))), (3, .ref (ad (4, 0, 0))), (4, .ref (ad (5, 0, 0))), (5, .ref (ad (6, 0, 0))), (6, .ref (ad (10, 0, 0))), (7, .int (nI cc)), (8, .int (nI f)), (9, .long q), (11, .long x)]) (st1 := [.long (pyL q x)]) (fun J_1 => ?_) ?_
  · refine lv_lload hx hb dL_trades_0 (lv_at hl 9 rfl) ?_
    refine lv_lconst (v := 0) hx hb dL_trades_2 (by decide) ?_
    refine zl_cmp_le (tgt := 18) hx hb dL_trades_3 dL_trades_4 (by decide) (fun c_5 => ?_) (fun c_5 => ?_)
    · refine lv_lload hx hb dL_trades_18 (lv_at hl 10 rfl) ?_
      refine zk_cl (zk_rS (As := [.long x]) (rest := []) (n := 1) (w := aw cA ad I L) C (cH_costs l D cA A g _ x) hH hS gL_trades_L_costs rfl rfl (by decide +kernel) ⟨Nat.le_of_ble_eq_true rfl, Nat.le_of_ble_eq_true rfl⟩ hl rfl (Nat.le_of_ble_eq_true rfl) dL_trades_20 ⟨Nat.le_of_ble_eq_true rfl, Nat.le_of_ble_eq_true rfl⟩) hS (fun r_6 w_7 H locs hP hH_8 hS_9 => ?_)
      obtain ⟨rfl, rfl⟩ := hP
      refine lv_lload hx hb dL_trades_23 (lv_at hl 10 rfl) ?_
      refine lv_lsub hx hb dL_trades_25 ?_
      refine W.eq (g2 := F0 m 26 ls [.long (pyL q x)]) (by rw [show (pyL q x : Int64) = (cosL x) - x from (by unfold pyL; split <;> first | contradiction | rfl)]) ?_
      exact J_1 _ _ _ hH_8 hS_9 (lv_sub hl [0, 1, 2, 3, 4, 5, 6, 7, 8, 9, 10] rfl)
    · refine lv_lload hx hb dL_trades_7 (lv_at hl 10 rfl) ?_
      refine lv_lload hx hb dL_trades_9 (lv_at hl 10 rfl) ?_
      refine zk_cl (zk_rS (As := [.long x]) (rest := [.long x]) (n := 1) (w := aw cA ad I L) C (cH_costs l D cA A g _ x) hH hS gL_trades_L_costs rfl rfl (by decide +kernel) ⟨Nat.le_of_ble_eq_true rfl, Nat.le_of_ble_eq_true rfl⟩ hl rfl (Nat.le_of_ble_eq_true rfl) dL_trades_11 ⟨Nat.le_of_ble_eq_true rfl, Nat.le_of_ble_eq_true rfl⟩) hS (fun r_10 w_11 H locs hP hH_12 hS_13 => ?_)
      obtain ⟨rfl, rfl⟩ := hP
      refine lv_ladd hx hb dL_trades_14 ?_
      refine lv_goto (tgt := 26) hx hb dL_trades_15 (by decide) ?_
      refine W.eq (g2 := F0 m 26 ls [.long (pyL q x)]) (by rw [show (pyL q x : Int64) = x + (cosL x) from (by unfold pyL; split <;> first | contradiction | rfl)]) ?_
      exact J_1 _ _ _ hH_12 hS_13 (lv_sub hl [0, 1, 2, 3, 4, 5, 6, 7, 8, 9, 10] rfl)
  · intro H locs ls hH_2 hS_3 hl_4
    refine lv_lstore (lv' := [(13, .long (pyL q x)), (0, .ref (ad (0, 0, 0))), (1, .ref (ad (1, 0, 0))), (2, .ref (ad (2, 0, 0))), (3, .ref (ad (4, 0, 0))), (4, .ref (ad (5, 0, 0))), (5, .ref (ad (6, 0, 0))), (6, .ref (ad (10, 0, 0))), (7, .int (nI cc)), (8, .int (nI f)), (9, .long q), (11, .long x)]) hx hb dL_trades_26 hl_4 (by decide) rfl (fun ls hl_14 => ?_)
    refine lv_aload_n hx hb dL_trades_28 rfl (lv_at hl_14 4 rfl) ?_
    refine lv_aload hx hb dL_trades_29 (lv_at hl_14 7 rfl) ?_
    refine lv_iconst (v := 2) hx hb dL_trades_31 (by decide) ?_
    refine la_ild C hH_2 10 rfl (by decide) (j := 2) rfl (show 2 < 3 by omega) dL_trades_32 ?_
    refine W.eq (g2 := F0 m 33 ls [.int (nI nt), .ref (ad (4, 0, 0))]) (by rw [h2]) ?_
    refine lv_iload hx hb dL_trades_33 (lv_at hl_14 8 rfl) ?_
    refine lv_iconst (v := 4) hx hb dL_trades_35 (by decide) ?_
    refine lv_iload hx hb dL_trades_36 (lv_at hl_14 9 rfl) ?_
    refine lv_imul hx hb dL_trades_38 ?_
    refine lv_iadd hx hb dL_trades_39 ?_
    refine W.eq (g2 := F0 m 40 ls [.int (nI (cc + (4 * f))), .int (nI nt), .ref (ad (4, 0, 0))]) (by rw [show ((nI cc) + (4 * (nI f)) : Int32) = nI (cc + (4 * f)) from (zi_add rfl (zi_mul rfl rfl))]) ?_
    refine lv_bipush (v := 32) hx hb dL_trades_40 (by decide) ?_
    refine lv_aload hx hb dL_trades_42 (lv_at hl_14 7 rfl) ?_
    refine lv_iconst (v := 0) hx hb dL_trades_44 (by decide) ?_
    refine la_ild C hH_2 10 rfl (by decide) (j := 0) rfl (show 0 < 3 by omega) dL_trades_45 ?_
    refine W.eq (g2 := F0 m 46 ls [.int (nI dy), .int 32, .int (nI (cc + (4 * f))), .int (nI nt), .ref (ad (4, 0, 0))]) (by rw [h0]) ?_
    refine lv_imul hx hb dL_trades_46 ?_
    refine lv_iadd hx hb dL_trades_47 ?_
    refine W.eq (g2 := F0 m 48 ls [.int (nI ((cc + (4 * f)) + (32 * dy))), .int (nI nt), .ref (ad (4, 0, 0))]) (by rw [show ((nI (cc + (4 * f))) + (32 * (nI dy)) : Int32) = nI ((cc + (4 * f)) + (32 * dy)) from (zi_add rfl (zi_mul rfl rfl))]) ?_
    refine la_ist C hH_2 hS_3 4 rfl (by decide) (j := nt) rfl (show nt < 30 by omega) dL_trades_48 (fun H locs hH_15 hS_16 => ?_)
    refine lv_aload hx hb dL_trades_49 (lv_at hl_14 5 rfl) ?_
    refine lv_aload hx hb dL_trades_51 (lv_at hl_14 7 rfl) ?_
    refine lv_iconst (v := 2) hx hb dL_trades_53 (by decide) ?_
    refine la_ild C hH_15 10 rfl (by decide) (j := 2) rfl (show 2 < 3 by omega) dL_trades_54 ?_
    rw [up2_ne (show (10 : Nat) ≠ 4 by decide)]
    refine W.eq (g2 := F0 m 55 ls [.int (nI nt), .ref (ad (5, 0, 0))]) (by rw [h2]) ?_
    refine lv_lload hx hb dL_trades_55 (lv_at hl_14 10 rfl) ?_
    refine la_lst C hH_15 hS_16 5 rfl (by decide) (j := nt) rfl (show nt < 30 by omega) dL_trades_57 (fun H locs hH_17 hS_18 => ?_)
    refine lv_aload hx hb dL_trades_58 (lv_at hl_14 6 rfl) ?_
    refine lv_aload hx hb dL_trades_60 (lv_at hl_14 7 rfl) ?_
    refine lv_iconst (v := 2) hx hb dL_trades_62 (by decide) ?_
    refine la_ild C hH_17 10 rfl (by decide) (j := 2) rfl (show 2 < 3 by omega) dL_trades_63 ?_
    rw [up2_ne (show (10 : Nat) ≠ 4 by decide)]
    refine W.eq (g2 := F0 m 64 ls [.int (nI nt), .ref (ad (6, 0, 0))]) (by rw [h2]) ?_
    refine lv_lload hx hb dL_trades_64 (lv_at hl_14 11 rfl) ?_
    refine la_lst C hH_17 hS_18 6 rfl (by decide) (j := nt) rfl (show nt < 30 by omega) dL_trades_66 (fun H locs hH_19 hS_20 => ?_)
    refine lv_aload hx hb dL_trades_67 (lv_at hl_14 7 rfl) ?_
    refine lv_iconst (v := 2) hx hb dL_trades_69 (by decide) ?_
    refine lv_dup2_11 hx hb dL_trades_70 rfl rfl ?_
    refine la_ild C hH_19 10 rfl (by decide) (j := 2) rfl (show 2 < 3 by omega) dL_trades_71 ?_
    rw [up2_ne (show (10 : Nat) ≠ 4 by decide)]
    refine W.eq (g2 := F0 m 72 ls [.int (nI nt), .int 2, .ref (ad (10, 0, 0))]) (by rw [h2]) ?_
    refine lv_iconst (v := 1) hx hb dL_trades_72 (by decide) ?_
    refine lv_iadd hx hb dL_trades_73 ?_
    refine W.eq (g2 := F0 m 74 ls [.int (nI (nt + 1)), .int 2, .ref (ad (10, 0, 0))]) (by rw [show ((nI nt) + 1 : Int32) = nI (nt + 1) from (zi_add rfl rfl)]) ?_
    refine la_ist C hH_19 hS_20 10 rfl (by decide) (j := 2) rfl (show 2 < 3 by omega) dL_trades_74 (fun H locs hH_21 hS_22 => ?_)
    refine lv_aload_n hx hb dL_trades_75 rfl (lv_at hl_14 2 rfl) ?_
    refine lv_bipush (v := 12) hx hb dL_trades_76 (by decide) ?_
    refine lv_iload hx hb dL_trades_78 (lv_at hl_14 8 rfl) ?_
    refine lv_iadd hx hb dL_trades_80 ?_
    refine W.eq (g2 := F0 m 81 ls [.int (nI (12 + cc)), .ref (ad (1, 0, 0))]) (by rw [show (12 + (nI cc) : Int32) = nI (12 + cc) from (zi_add rfl rfl)]) ?_
    refine lv_dup2_11 hx hb dL_trades_81 rfl rfl ?_
    refine la_lld C hH_21 1 rfl (by decide) (j := (12 + cc)) rfl (show (12 + cc) < 16 by omega) dL_trades_82 ?_
    rw [up2_ne (show (1 : Nat) ≠ 6 by decide)]
    rw [up2_ne (show (1 : Nat) ≠ 5 by decide)]
    refine lv_lload hx hb dL_trades_83 (lv_at hl_14 0 rfl) ?_
    refine lv_lsub hx hb dL_trades_85 ?_
    refine la_lst C hH_21 hS_22 1 rfl (by decide) (j := (12 + cc)) rfl (show (12 + cc) < 16 by omega) dL_trades_86 (fun H locs hH_23 hS_24 => ?_)
    refine lv_aload_n hx hb dL_trades_87 rfl (lv_at hl_14 2 rfl) ?_
    refine lv_bipush (v := 15) hx hb dL_trades_88 (by decide) ?_
    refine lv_dup2_11 hx hb dL_trades_90 rfl rfl ?_
    refine la_lld C hH_23 1 rfl (by decide) (j := 15) rfl (show 15 < 16 by omega) dL_trades_91 ?_
    refine lv_lload hx hb dL_trades_92 (lv_at hl_14 0 rfl) ?_
    refine lv_ladd hx hb dL_trades_94 ?_
    refine la_lst C hH_23 hS_24 1 rfl (by decide) (j := 15) rfl (show 15 < 16 by omega) dL_trades_95 (fun H locs hH_25 hS_26 => ?_)
    refine lv_aload_n hx hb dL_trades_96 rfl (lv_at hl_14 1 rfl) ?_
    refine lv_aload_n hx hb dL_trades_97 rfl (lv_at hl_14 2 rfl) ?_
    refine lv_aload_n hx hb dL_trades_98 rfl (lv_at hl_14 3 rfl) ?_
    refine lv_iload hx hb dL_trades_99 (lv_at hl_14 8 rfl) ?_
    refine lv_iload hx hb dL_trades_101 (lv_at hl_14 9 rfl) ?_
    refine lv_lload hx hb dL_trades_103 (lv_at hl_14 10 rfl) ?_
    refine zk_cv (zk_rS (As := [.ref (ad (0, 0, 0)), .ref (ad (1, 0, 0)), .ref (ad (2, 0, 0)), .int (nI cc), .int (nI f), .long q]) (rest := []) (n := 6) (w := aw cA ad (up2 (up2 I 4 nt (nI ((cc + (4 * f)) + (32 * dy)))) 10 2 (nI (nt + 1))) (up2 (up2 (up2 (up2 L 5 nt q) 6 nt x) 1 (12 + cc) ((L 1 (12 + cc)) - (pyL q x))) 1 15 (((up2 (up2 (up2 L 5 nt q) 6 nt x) 1 (12 + cc) ((L 1 (12 + cc)) - (pyL q x))) 1 15) + (pyL q x)))) C (cH_moves l D cA A g ad (up2 (up2 I 4 nt (nI ((cc + (4 * f)) + (32 * dy)))) 10 2 (nI (nt + 1))) (up2 (up2 (up2 (up2 L 5 nt q) 6 nt x) 1 (12 + cc) ((L 1 (12 + cc)) - (pyL q x))) 1 15 (((up2 (up2 (up2 L 5 nt q) 6 nt x) 1 (12 + cc) ((L 1 (12 + cc)) - (pyL q x))) 1 15) + (pyL q x))) cc f q (by omega) (by omega)) hH_25 hS_26 gL_trades_L_moves rfl rfl (by decide +kernel) ⟨Nat.le_of_ble_eq_true rfl, Nat.le_of_ble_eq_true rfl⟩ hl_14 rfl (Nat.le_of_ble_eq_true rfl) dL_trades_105 ⟨Nat.le_of_ble_eq_true rfl, Nat.le_of_ble_eq_true rfl⟩) hS_26 (fun w_28 H locs hP hH_29 hS_30 => ?_)
    subst hP
    refine zr_vret C hr ?_ hH_29 hS_30 (Nat.le_of_ble_eq_true rfl) (Nat.le_of_ble_eq_true rfl) dL_trades_108
    rfl
def rmH_wealth : Room := { frames := 0, cells := 0, slots := 0, locals := 0 }
set_option maxHeartbeats 600000 in
set_option maxRecDepth 100000 in
theorem cH_wealth (l : Launch) (D : va_G) (cA : Nat → ClassId) (A : Nat → Prop) (g : Nat → Nat) (ad : zk_K → Nat) (I : zIA) (L : zLA) (cc : Nat) (hc : cc < 3) : zM l yL_wealth wsL_wealth rmH_wealth D (zt cA) A g [.ref (ad (0, 0, 0)), .ref (ad (1, 0, 0)), .ref (ad (2, 0, 0)), .int (nI cc)] (aw cA ad I L) (zQl (fun r w' => wlL I L cc 6 = r ∧ aw cA ad I L = w')) := by
  refine zM_of (cc := cL_wealth) (maxL := 7) (ret := (some .long)) (own := RL) (by decide +kernel) rfl (Nat.le_of_ble_eq_true rfl) rfl ?_
  intro p e s m below meth c C hr hnm H locs ls hH hS hl
  obtain ⟨⟨hx, hb, hml, hown, hts⟩, hG, hlk⟩ := id C
  have hl : lv_has ls 7 [(0, .ref (ad (0, 0, 0))), (1, .ref (ad (1, 0, 0))), (2, .ref (ad (2, 0, 0))), (3, .int (nI cc))] := hl
  refine lv_aload_n hx hb dL_wealth_0 rfl (lv_at hl 1 rfl) ?_
  refine lv_bipush (v := 12) hx hb dL_wealth_1 (by decide) ?_
  refine lv_iload_n hx hb dL_wealth_3 rfl (lv_at hl 3 rfl) ?_
  refine lv_iadd hx hb dL_wealth_4 ?_
  refine W.eq (g2 := F0 m 5 ls [.int (nI (12 + cc)), .ref (ad (1, 0, 0))]) (by rw [show (12 + (nI cc) : Int32) = nI (12 + cc) from (zi_add rfl rfl)]) ?_
  refine la_lld C hH 1 rfl (by decide) (j := (12 + cc)) rfl (show (12 + cc) < 16 by omega) dL_wealth_5 ?_
  refine lv_lstore (lv' := [(4, .long (L 1 (12 + cc))), (0, .ref (ad (0, 0, 0))), (1, .ref (ad (1, 0, 0))), (2, .ref (ad (2, 0, 0))), (3, .int (nI cc))]) hx hb dL_wealth_6 hl (by decide) rfl (fun ls hl_1 => ?_)
  refine lv_iconst (v := 0) hx hb dL_wealth_8 (by decide) ?_
  refine lv_istore (lv' := [(6, .int 0), (4, .long (L 1 (12 + cc))), (0, .ref (ad (0, 0, 0))), (1, .ref (ad (1, 0, 0))), (2, .ref (ad (2, 0, 0))), (3, .int (nI cc))]) hx hb dL_wealth_9 hl_1 (by decide) rfl (fun ls hl_2 => ?_)
  refine z_at (n := 6) (P := fun i_3 => zL p l e rmH_wealth s m _ below meth c 7 D A _ (aw cA ad I L) 0 0 11 [(0, .ref (ad (0, 0, 0))), (1, .ref (ad (1, 0, 0))), (2, .ref (ad (2, 0, 0))), (3, .int (nI cc)), (4, .long (wlL I L cc i_3)), (6, .int (nI i_3))] []) 0 (Nat.zero_le _) (fun h => h _ _ _ hH hS (lv_sub hl_2 [2, 3, 4, 5, 1, 0] rfl)) ?_ ?_
  · intro H locs ls hH_5 hS_6 hl_7
    refine lv_iload hx hb dL_wealth_11 (lv_at hl_7 5 rfl) ?_
    refine lv_bipush (v := 6) hx hb dL_wealth_13 (by decide) ?_
    refine lv_icmp_ge (tgt := 48) hx hb dL_wealth_15 (by decide) (fun c_8 => ?_) (fun c_8 => absurd (Int32.le_refl _) c_8)
    refine lv_lload hx hb dL_wealth_48 (lv_at hl_7 4 rfl) ?_
    refine zr_lret C hr ?_ hH_5 hS_6 (Nat.le_of_ble_eq_true rfl) (Nat.le_of_ble_eq_true rfl) dL_wealth_50
    exact ⟨rfl, rfl⟩
  · intro i_3 hi_3 ih_4 H locs ls hH_9 hS_10 hl_11
    refine lv_iload hx hb dL_wealth_11 (lv_at hl_11 5 rfl) ?_
    refine lv_bipush (v := 6) hx hb dL_wealth_13 (by decide) ?_
    refine lv_icmp_ge (tgt := 48) hx hb dL_wealth_15 (by decide) (fun c_12 => absurd c_12 (nI_ge hi_3 (by first | decide | omega))) (fun c_12 => ?_)
    refine lv_lload hx hb dL_wealth_18 (lv_at hl_11 4 rfl) ?_
    refine lv_aload_n hx hb dL_wealth_20 rfl (lv_at hl_11 2 rfl) ?_
    refine lv_bipush (v := 6) hx hb dL_wealth_21 (by decide) ?_
    refine lv_iload_n hx hb dL_wealth_23 rfl (lv_at hl_11 3 rfl) ?_
    refine lv_imul hx hb dL_wealth_24 ?_
    refine lv_iload hx hb dL_wealth_25 (lv_at hl_11 5 rfl) ?_
    refine lv_iadd hx hb dL_wealth_27 ?_
    refine W.eq (g2 := F0 m 28 ls [.int (nI ((6 * cc) + i_3)), .ref (ad (2, 0, 0)), .long (wlL I L cc i_3)]) (by rw [show ((6 * (nI cc)) + (nI i_3) : Int32) = nI ((6 * cc) + i_3) from (zi_add (zi_mul rfl rfl) rfl)]) ?_
    refine la_lld C hH_9 2 rfl (by decide) (j := ((6 * cc) + i_3)) rfl (show ((6 * cc) + i_3) < 18 by omega) dL_wealth_28 ?_
    refine lv_aload_n hx hb dL_wealth_29 rfl (lv_at hl_11 0 rfl) ?_
    refine lv_iload hx hb dL_wealth_30 (lv_at hl_11 5 rfl) ?_
    refine la_ild C hH_9 0 rfl (by decide) (j := i_3) rfl (show i_3 < 6 by omega) dL_wealth_32 ?_
    refine lv_i2l (v := Int32.toInt64 (I 0 i_3)) hx hb dL_wealth_33 rfl ?_
    refine lv_lmul hx hb dL_wealth_34 ?_
    refine lv_ldc2 (v := 1000) hx hb hown (hts (.constantLong RL 81 1000) (by decide +kernel)) dL_wealth_35 ?_
    refine lv_ldiv hx hb dL_wealth_38 (by decide) ?_
    refine lv_ladd hx hb dL_wealth_39 ?_
    refine lv_lstore (lv' := [(4, .long ((wlL I L cc i_3) + (((L 2 ((6 * cc) + i_3)) * (Int32.toInt64 (I 0 i_3))) / 1000))), (0, .ref (ad (0, 0, 0))), (1, .ref (ad (1, 0, 0))), (2, .ref (ad (2, 0, 0))), (3, .int (nI cc)), (6, .int (nI i_3))]) hx hb dL_wealth_40 hl_11 (by decide) rfl (fun ls hl_13 => ?_)
    refine lv_iinc (v := nI (i_3 + 1)) (lv' := [(6, .int (nI (i_3 + 1))), (4, .long ((wlL I L cc i_3) + (((L 2 ((6 * cc) + i_3)) * (Int32.toInt64 (I 0 i_3))) / 1000))), (0, .ref (ad (0, 0, 0))), (1, .ref (ad (1, 0, 0))), (2, .ref (ad (2, 0, 0))), (3, .int (nI cc))]) hx hb dL_wealth_42 hl_13 (k := 5) rfl (nI_1 i_3) (by decide) rfl (fun ls hl_14 => ?_)
    refine lv_goto (tgt := 11) hx hb dL_wealth_45 (by decide) ?_
    exact ih_4 _ _ _ hH_9 hS_10 (lv_sub hl_14 [2, 3, 4, 5, 1, 0] rfl)
def rmH_goes : Room := { frames := 1, cells := 0, slots := 0, locals := 21 }
set_option maxHeartbeats 600000 in
set_option maxRecDepth 100000 in
theorem cH_goes (l : Launch) (D : va_G) (cA : Nat → ClassId) (A : Nat → Prop) (g : Nat → Nat) (ad : zk_K → Nat) (I : zIA) (L : zLA) (nt cc f : Nat) (h2 : I 10 2 = nI nt) (hnt : nt ≤ 30) (hc : cc < 4) (hf : f < 8) (hT : ∀ k, k < nt → zD (I 4 k) 1048576) : zM l yL_goes wsL_goes rmH_goes D (zt cA) A g [.ref (ad (4, 0, 0)), .ref (ad (5, 0, 0)), .ref (ad (6, 0, 0)), .ref (ad (10, 0, 0)), .ref (ad (8, 0, 0)), .ref (ad (9, 0, 0)), .int (nI cc), .int (nI f)] (aw cA ad I L) (zQi (fun r w' => (goS I L cc f nt).1 = r ∧ aw cA ad I (goS I L cc f nt).2 = w')) := by
  refine zM_of (cc := cL_goes) (maxL := 19) (ret := (some .boolean)) (own := RL) (by decide +kernel) rfl (Nat.le_of_ble_eq_true rfl) rfl ?_
  intro p e s m below meth c C hr hnm H locs ls hH hS hl
  obtain ⟨⟨hx, hb, hml, hown, hts⟩, hG, hlk⟩ := id C
  have hl : lv_has ls 19 [(0, .ref (ad (4, 0, 0))), (1, .ref (ad (5, 0, 0))), (2, .ref (ad (6, 0, 0))), (3, .ref (ad (10, 0, 0))), (4, .ref (ad (8, 0, 0))), (5, .ref (ad (9, 0, 0))), (6, .int (nI cc)), (7, .int (nI f))] := hl
  refine lv_iconst (v := 0) hx hb dL_goes_0 (by decide) ?_
  refine lv_istore (lv' := [(8, .int 0), (0, .ref (ad (4, 0, 0))), (1, .ref (ad (5, 0, 0))), (2, .ref (ad (6, 0, 0))), (3, .ref (ad (10, 0, 0))), (4, .ref (ad (8, 0, 0))), (5, .ref (ad (9, 0, 0))), (6, .int (nI cc)), (7, .int (nI f))]) hx hb dL_goes_1 hl (by decide) rfl (fun ls hl_1 => ?_)
  refine z_at (n := nt) (P := fun i_2 => (goS I L cc f i_2).1 = 1 → zL p l e rmH_goes s m _ below meth c 19 D A _ (aw cA ad I ((goS I L cc f i_2).2)) 0 0 3 [(0, .ref (ad (4, 0, 0))), (1, .ref (ad (5, 0, 0))), (2, .ref (ad (6, 0, 0))), (3, .ref (ad (10, 0, 0))), (4, .ref (ad (8, 0, 0))), (5, .ref (ad (9, 0, 0))), (6, .int (nI cc)), (7, .int (nI f)), (8, .int (nI i_2))] []) 0 (Nat.zero_le _) (fun h => h rfl _ _ _ hH hS (lv_sub hl_1 [1, 2, 3, 4, 5, 6, 7, 8, 0] rfl)) ?_ ?_
  · intro hp_4 H locs ls hH_5 hS_6 hl_7
    refine lv_iload hx hb dL_goes_3 (lv_at hl_7 8 rfl) ?_
    refine lv_aload_n hx hb dL_goes_5 rfl (lv_at hl_7 3 rfl) ?_
    refine lv_iconst (v := 2) hx hb dL_goes_6 (by decide) ?_
    refine la_ild C hH_5 10 rfl (by decide) (j := 2) rfl (show 2 < 3 by omega) dL_goes_7 ?_
    refine W.eq (g2 := F0 m 8 ls [.int (nI nt), .int (nI nt)]) (by rw [h2]) ?_
    refine lv_icmp_ge (tgt := 346) hx hb dL_goes_8 (by decide) (fun c_8 => ?_) (fun c_8 => absurd (Int32.le_refl _) c_8)
    refine lv_iconst (v := 1) hx hb dL_goes_346 (by decide) ?_
    refine zr_zret C hr (Or.inr rfl) ?_ hH_5 hS_6 (Nat.le_of_ble_eq_true rfl) (Nat.le_of_ble_eq_true rfl) dL_goes_347
    exact ⟨hp_4, rfl⟩
  · intro i_2 hi_2 ih_3 hp_9 H locs ls hH_10 hS_11 hl_12
    refine lv_iload hx hb dL_goes_3 (lv_at hl_12 8 rfl) ?_
    refine lv_aload_n hx hb dL_goes_5 rfl (lv_at hl_12 3 rfl) ?_
    refine lv_iconst (v := 2) hx hb dL_goes_6 (by decide) ?_
    refine la_ild C hH_10 10 rfl (by decide) (j := 2) rfl (show 2 < 3 by omega) dL_goes_7 ?_
    refine W.eq (g2 := F0 m 8 ls [.int (nI nt), .int (nI i_2)]) (by rw [h2]) ?_
    refine lv_icmp_ge (tgt := 346) hx hb dL_goes_8 (by decide) (fun c_13 => absurd c_13 (nI_ge hi_2 (by first | decide | omega))) (fun c_13 => ?_)
    refine z_join (nL := 19) (D := D) (A := A) (w := aw cA ad I ((goS I L cc f i_2).2)) (pcj := 50) (lc := [(0, .ref (ad (4, 0, 0))), (1, .ref (ad (5, 0, 0))), (2, .ref (ad (6, 0, 0))), (3, .ref (ad (10, 0, 0))), (4, .ref (ad (8, 0, 0))), (5, .ref (ad (9, 0, 0))), (6, .int (nI cc)), (7, .int (nI f)), (8, .int (nI i_2))]) (st1 := [.int (isV I cc f i_2)]) (fun J_14 => ?_) ?_
    · refine lv_aload_n hx hb dL_goes_11 rfl (lv_at hl_12 0 rfl) ?_
      refine lv_iload hx hb dL_goes_12 (lv_at hl_12 8 rfl) ?_
      refine la_ild C hH_10 4 rfl (by decide) (j := i_2) rfl (show i_2 < 30 by omega) dL_goes_14 ?_
      have hd_18 : zD (I 4 i_2) 1048576 := hT i_2 hi_2
      have hd_18b := hd_18.2
      refine W.eq (g2 := F0 m 15 ls [.int (nI (dN (I 4 i_2)))]) (by rw [← hd_18.1]) ?_
      refine lv_ldc (v := 524288) hx hb hown (hts (.constant RL 93 524288) (by decide +kernel)) dL_goes_15 ?_
      refine lv_icmp_ge (tgt := 49) hx hb dL_goes_17 (by decide) (fun c_19 => ?_) (fun c_19 => ?_)
      · refine lv_iconst (v := 0) hx hb dL_goes_49 (by decide) ?_
        refine W.eq (g2 := F0 m 50 ls [.int (isV I cc f i_2)]) (by rw [show (isV I cc f i_2 : Int32) = 0 from if_neg (fun z => absurd ((nI_leI (by decide) (by omega)).mp c_19) (Nat.not_le.mpr z.1))]) ?_
        exact J_14 _ _ _ hH_10 hS_11 (lv_sub hl_12 [0, 1, 2, 3, 4, 5, 6, 7, 8] rfl)
      · refine lv_aload_n hx hb dL_goes_20 rfl (lv_at hl_12 0 rfl) ?_
        refine lv_iload hx hb dL_goes_21 (lv_at hl_12 8 rfl) ?_
        refine la_ild C hH_10 4 rfl (by decide) (j := i_2) rfl (show i_2 < 30 by omega) dL_goes_23 ?_
        have hd_20 : zD (I 4 i_2) 1048576 := hT i_2 hi_2
        have hd_20b := hd_20.2
        refine W.eq (g2 := F0 m 24 ls [.int (nI (dN (I 4 i_2)))]) (by rw [← hd_20.1]) ?_
        refine lv_iconst (v := 4) hx hb dL_goes_24 (by decide) ?_
        refine lv_irem hx hb dL_goes_25 (by decide) ?_
        refine W.eq (g2 := F0 m 26 ls [.int (nI ((dN (I 4 i_2)) % 4))]) (by rw [show ((nI (dN (I 4 i_2))) - (nI (dN (I 4 i_2))) / 4 * 4 : Int32) = nI ((dN (I 4 i_2)) % 4) from (zi_rem rfl (b := 4) rfl (by omega) (by decide) (by decide))]) ?_
        refine lv_iload hx hb dL_goes_26 (lv_at hl_12 6 rfl) ?_
        refine lv_icmp_ne (tgt := 49) hx hb dL_goes_28 (by decide) (fun c_21 => ?_) (fun c_21 => ?_)
        · refine lv_iconst (v := 0) hx hb dL_goes_49 (by decide) ?_
          refine W.eq (g2 := F0 m 50 ls [.int (isV I cc f i_2)]) (by rw [show (isV I cc f i_2 : Int32) = 0 from if_neg (fun z => c_21 ((nI_eq (by omega) (by omega)).mpr z.2.1))]) ?_
          exact J_14 _ _ _ hH_10 hS_11 (lv_sub hl_12 [0, 1, 2, 3, 4, 5, 6, 7, 8] rfl)
        · refine lv_aload_n hx hb dL_goes_31 rfl (lv_at hl_12 0 rfl) ?_
          refine lv_iload hx hb dL_goes_32 (lv_at hl_12 8 rfl) ?_
          refine la_ild C hH_10 4 rfl (by decide) (j := i_2) rfl (show i_2 < 30 by omega) dL_goes_34 ?_
          have hd_22 : zD (I 4 i_2) 1048576 := hT i_2 hi_2
          have hd_22b := hd_22.2
          refine W.eq (g2 := F0 m 35 ls [.int (nI (dN (I 4 i_2)))]) (by rw [← hd_22.1]) ?_
          refine lv_iconst (v := 4) hx hb dL_goes_35 (by decide) ?_
          refine lv_idiv hx hb dL_goes_36 (by decide) ?_
          refine W.eq (g2 := F0 m 37 ls [.int (nI ((dN (I 4 i_2)) / 4))]) (by rw [show ((nI (dN (I 4 i_2))) / 4 : Int32) = nI ((dN (I 4 i_2)) / 4) from (zi_div rfl (b := 4) rfl (by omega) (by decide) (by decide))]) ?_
          refine lv_bipush (v := 8) hx hb dL_goes_37 (by decide) ?_
          refine lv_irem hx hb dL_goes_39 (by decide) ?_
          refine W.eq (g2 := F0 m 40 ls [.int (nI (((dN (I 4 i_2)) / 4) % 8))]) (by rw [show ((nI ((dN (I 4 i_2)) / 4)) - (nI ((dN (I 4 i_2)) / 4)) / 8 * 8 : Int32) = nI (((dN (I 4 i_2)) / 4) % 8) from (zi_rem rfl (b := 8) rfl (by omega) (by decide) (by decide))]) ?_
          refine lv_iload hx hb dL_goes_40 (lv_at hl_12 7 rfl) ?_
          refine lv_icmp_ne (tgt := 49) hx hb dL_goes_42 (by decide) (fun c_23 => ?_) (fun c_23 => ?_)
          · refine lv_iconst (v := 0) hx hb dL_goes_49 (by decide) ?_
            refine W.eq (g2 := F0 m 50 ls [.int (isV I cc f i_2)]) (by rw [show (isV I cc f i_2 : Int32) = 0 from if_neg (fun z => c_23 ((nI_eq (by omega) (by omega)).mpr z.2.2))]) ?_
            exact J_14 _ _ _ hH_10 hS_11 (lv_sub hl_12 [0, 1, 2, 3, 4, 5, 6, 7, 8] rfl)
          · refine lv_iconst (v := 1) hx hb dL_goes_45 (by decide) ?_
            refine lv_goto (tgt := 50) hx hb dL_goes_46 (by decide) ?_
            refine W.eq (g2 := F0 m 50 ls [.int (isV I cc f i_2)]) (by rw [show (isV I cc f i_2 : Int32) = 1 from if_pos ⟨(Nat.lt_of_not_le (fun y => c_19 ((nI_leI (by decide) (by omega)).mpr y))), ((nI_eq (by omega) (by omega)).mp c_21), ((nI_eq (by omega) (by omega)).mp c_23)⟩]) ?_
            exact J_14 _ _ _ hH_10 hS_11 (lv_sub hl_12 [0, 1, 2, 3, 4, 5, 6, 7, 8] rfl)
    · intro H locs ls hH_15 hS_16 hl_17
      by_cases hg : isG I cc f i_2
      · have hg0 : dN (I 4 i_2) < 524288 := hg.1
        refine W.eq (g2 := F0 m 50 ls [.int 1]) (by rw [show isV I cc f i_2 = 1 from if_pos hg]) ?_
        refine lv_istore (lv' := [(9, .int 1), (0, .ref (ad (4, 0, 0))), (1, .ref (ad (5, 0, 0))), (2, .ref (ad (6, 0, 0))), (3, .ref (ad (10, 0, 0))), (4, .ref (ad (8, 0, 0))), (5, .ref (ad (9, 0, 0))), (6, .int (nI cc)), (7, .int (nI f)), (8, .int (nI i_2))]) hx hb dL_goes_50 hl_17 (by decide) rfl (fun ls hl_24 => ?_)
        refine lv_aload hx hb dL_goes_52 (lv_at hl_24 5 rfl) ?_
        refine lv_iload hx hb dL_goes_54 (lv_at hl_24 9 rfl) ?_
        refine lv_iload hx hb dL_goes_56 (lv_at hl_24 0 rfl) ?_
        refine lv_if_eq (tgt := 77) hx hb dL_goes_58 (by decide) (fun c_25 => absurd c_25 (by decide)) (fun c_25 => ?_)
        refine lv_aload_n hx hb dL_goes_61 rfl (lv_at hl_24 2 rfl) ?_
        refine lv_iload hx hb dL_goes_62 (lv_at hl_24 9 rfl) ?_
        refine la_lld C hH_15 5 rfl (by decide) (j := i_2) rfl (show i_2 < 30 by omega) dL_goes_64 ?_
        refine lv_lconst (v := 0) hx hb dL_goes_65 (by decide) ?_
        refine zl_cmp_le (tgt := 77) hx hb dL_goes_66 dL_goes_67 (by decide) (fun c_26 => ?_) (fun c_26 => ?_)
        · refine lv_lconst (v := 0) hx hb dL_goes_77 (by decide) ?_
          refine la_lst C hH_15 hS_16 8 rfl (by decide) (j := i_2) rfl (show i_2 < 60 by omega) dL_goes_78 (fun H locs hH_27 hS_28 => ?_)
          refine lv_aload hx hb dL_goes_79 (lv_at hl_24 5 rfl) ?_
          refine lv_bipush (v := 30) hx hb dL_goes_81 (by decide) ?_
          refine lv_iload hx hb dL_goes_83 (lv_at hl_24 9 rfl) ?_
          refine lv_iadd hx hb dL_goes_85 ?_
          refine W.eq (g2 := F0 m 86 ls [.int (nI (30 + i_2)), .ref (ad (8, 0, 0))]) (by rw [show (30 + (nI i_2) : Int32) = nI (30 + i_2) from (zi_add rfl rfl)]) ?_
          refine lv_iload hx hb dL_goes_86 (lv_at hl_24 0 rfl) ?_
          refine lv_if_eq (tgt := 115) hx hb dL_goes_88 (by decide) (fun c_29 => absurd c_29 (by decide)) (fun c_29 => ?_)
          refine lv_aload_n hx hb dL_goes_91 rfl (lv_at hl_24 2 rfl) ?_
          refine lv_iload hx hb dL_goes_92 (lv_at hl_24 9 rfl) ?_
          refine la_lld C hH_27 5 rfl (by decide) (j := i_2) rfl (show i_2 < 30 by omega) dL_goes_94 ?_
          rw [up2_ne (show (5 : Nat) ≠ 8 by decide)]
          refine lv_lconst (v := 0) hx hb dL_goes_95 (by decide) ?_
          refine zl_cmp_le (tgt := 115) hx hb dL_goes_96 dL_goes_97 (by decide) (fun c_30 => ?_) (fun c_30 => absurd c_30 (c_26))
          refine lv_lconst (v := 0) hx hb dL_goes_115 (by decide) ?_
          refine la_lst C hH_27 hS_28 8 rfl (by decide) (j := (30 + i_2)) rfl (show (30 + i_2) < 60 by omega) dL_goes_116 (fun H locs hH_31 hS_32 => ?_)
          refine lv_iload hx hb dL_goes_117 (lv_at hl_24 0 rfl) ?_
          refine lv_if_eq (tgt := 139) hx hb dL_goes_119 (by decide) (fun c_33 => absurd c_33 (by decide)) (fun c_33 => ?_)
          refine lv_aload_n hx hb dL_goes_122 rfl (lv_at hl_24 2 rfl) ?_
          refine lv_iload hx hb dL_goes_123 (lv_at hl_24 9 rfl) ?_
          refine la_lld C hH_31 5 rfl (by decide) (j := i_2) rfl (show i_2 < 30 by omega) dL_goes_125 ?_
          rw [up2_ne (show (5 : Nat) ≠ 8 by decide)]
          rw [up2_ne (show (5 : Nat) ≠ 8 by decide)]
          refine lv_lconst (v := 0) hx hb dL_goes_126 (by decide) ?_
          refine zl_cmp_ge (tgt := 139) hx hb dL_goes_127 dL_goes_128 (by decide) (fun c_34 => ?_) (fun c_34 => ?_)
          · refine lv_lconst (v := 0) hx hb dL_goes_139 (by decide) ?_
            refine lv_lstore (lv' := [(10, .long 0), (9, .int 1), (0, .ref (ad (4, 0, 0))), (1, .ref (ad (5, 0, 0))), (2, .ref (ad (6, 0, 0))), (3, .ref (ad (10, 0, 0))), (4, .ref (ad (8, 0, 0))), (5, .ref (ad (9, 0, 0))), (6, .int (nI cc)), (7, .int (nI f)), (8, .int (nI i_2))]) hx hb dL_goes_140 hl_24 (by decide) rfl (fun ls hl_35 => ?_)
            refine lv_lconst (v := 0) hx hb dL_goes_142 (by decide) ?_
            refine lv_lstore (lv' := [(12, .long 0), (10, .long 0), (9, .int 1), (0, .ref (ad (4, 0, 0))), (1, .ref (ad (5, 0, 0))), (2, .ref (ad (6, 0, 0))), (3, .ref (ad (10, 0, 0))), (4, .ref (ad (8, 0, 0))), (5, .ref (ad (9, 0, 0))), (6, .int (nI cc)), (7, .int (nI f)), (8, .int (nI i_2))]) hx hb dL_goes_143 hl_35 (by decide) rfl (fun ls hl_36 => ?_)
            refine lv_iconst (v := 0) hx hb dL_goes_145 (by decide) ?_
            refine lv_istore (lv' := [(14, .int 0), (12, .long 0), (10, .long 0), (9, .int 1), (0, .ref (ad (4, 0, 0))), (1, .ref (ad (5, 0, 0))), (2, .ref (ad (6, 0, 0))), (3, .ref (ad (10, 0, 0))), (4, .ref (ad (8, 0, 0))), (5, .ref (ad (9, 0, 0))), (6, .int (nI cc)), (7, .int (nI f)), (8, .int (nI i_2))]) hx hb dL_goes_146 hl_36 (by decide) rfl (fun ls hl_37 => ?_)
            refine lv_iload hx hb dL_goes_148 (lv_at hl_37 0 rfl) ?_
            refine lv_iload hx hb dL_goes_150 (lv_at hl_37 12 rfl) ?_
            refine lv_icmp_ge (tgt := 280) hx hb dL_goes_152 (by decide) (fun c_38 => ?_) (fun c_38 => ?_)
            · refine lv_lload hx hb dL_goes_280 (lv_at hl_37 2 rfl) ?_
              refine lv_lconst (v := 0) hx hb dL_goes_282 (by decide) ?_
              refine zl_cmp_le (tgt := 289) hx hb dL_goes_283 dL_goes_284 (by decide) (fun c_39 => ?_) (fun c_39 => absurd c_39 (by decide))
              refine lv_aload hx hb dL_goes_289 (lv_at hl_37 9 rfl) ?_
              refine lv_iload hx hb dL_goes_291 (lv_at hl_37 3 rfl) ?_
              refine lv_if_eq (tgt := 319) hx hb dL_goes_293 (by decide) (fun c_40 => absurd c_40 (by decide)) (fun c_40 => ?_)
              refine lv_aload_n hx hb dL_goes_296 rfl (lv_at hl_37 5 rfl) ?_
              refine lv_iload hx hb dL_goes_297 (lv_at hl_37 12 rfl) ?_
              refine la_lld C hH_31 5 rfl (by decide) (j := i_2) rfl (show i_2 < 30 by omega) dL_goes_299 ?_
              rw [up2_ne (show (5 : Nat) ≠ 8 by decide)]
              rw [up2_ne (show (5 : Nat) ≠ 8 by decide)]
              refine lv_lconst (v := 0) hx hb dL_goes_300 (by decide) ?_
              refine zl_cmp_ge (tgt := 319) hx hb dL_goes_301 dL_goes_302 (by decide) (fun c_41 => ?_) (fun c_41 => absurd c_41 (c_34))
              refine lv_bipush (v := 21) hx hb dL_goes_319 (by decide) ?_
              refine lv_dup2_11 hx hb dL_goes_321 rfl rfl ?_
              refine la_lld C hH_31 9 rfl (by decide) (j := 21) rfl (show 21 < 64 by omega) dL_goes_322 ?_
              rw [up2_ne (show (9 : Nat) ≠ 8 by decide)]
              rw [up2_ne (show (9 : Nat) ≠ 8 by decide)]
              refine lv_aload_n hx hb dL_goes_323 rfl (lv_at hl_37 6 rfl) ?_
              refine lv_iload hx hb dL_goes_324 (lv_at hl_37 12 rfl) ?_
              refine la_lld C hH_31 6 rfl (by decide) (j := i_2) rfl (show i_2 < 30 by omega) dL_goes_326 ?_
              rw [up2_ne (show (6 : Nat) ≠ 8 by decide)]
              rw [up2_ne (show (6 : Nat) ≠ 8 by decide)]
              refine lv_aload_n hx hb dL_goes_327 rfl (lv_at hl_37 6 rfl) ?_
              refine lv_iload hx hb dL_goes_328 (lv_at hl_37 12 rfl) ?_
              refine la_lld C hH_31 6 rfl (by decide) (j := i_2) rfl (show i_2 < 30 by omega) dL_goes_330 ?_
              rw [up2_ne (show (6 : Nat) ≠ 8 by decide)]
              rw [up2_ne (show (6 : Nat) ≠ 8 by decide)]
              refine zk_cl (zk_rS (As := [.long (((goS I L cc f i_2).2) 6 i_2)]) (rest := [.long (((goS I L cc f i_2).2) 6 i_2), .long (((goS I L cc f i_2).2) 9 21), .int 21, .ref (ad (9, 0, 0))]) (n := 1) (w := aw cA ad I (up2 (up2 ((goS I L cc f i_2).2) 8 i_2 0) 8 (30 + i_2) 0)) C (cH_costs l D cA A g _ (((goS I L cc f i_2).2) 6 i_2)) hH_31 hS_32 gL_goes_L_costs rfl rfl (by decide +kernel) ⟨Nat.le_of_ble_eq_true rfl, Nat.le_of_ble_eq_true rfl⟩ hl_37 rfl (Nat.le_of_ble_eq_true rfl) dL_goes_331 ⟨Nat.le_of_ble_eq_true rfl, Nat.le_of_ble_eq_true rfl⟩) hS_32 (fun r_42 w_43 H locs hP hH_44 hS_45 => ?_)
              obtain ⟨rfl, rfl⟩ := hP
              refine lv_lsub hx hb dL_goes_334 ?_
              refine lv_lload hx hb dL_goes_335 (lv_at hl_37 1 rfl) ?_
              refine lv_lsub hx hb dL_goes_337 ?_
              refine lv_ladd hx hb dL_goes_338 ?_
              refine la_lst C hH_44 hS_45 9 rfl (by decide) (j := 21) rfl (show 21 < 64 by omega) dL_goes_339 (fun H locs hH_46 hS_47 => ?_)
              refine lv_iinc (v := nI (i_2 + 1)) (lv' := [(8, .int (nI (i_2 + 1))), (14, .int 0), (12, .long 0), (10, .long 0), (9, .int 1), (0, .ref (ad (4, 0, 0))), (1, .ref (ad (5, 0, 0))), (2, .ref (ad (6, 0, 0))), (3, .ref (ad (10, 0, 0))), (4, .ref (ad (8, 0, 0))), (5, .ref (ad (9, 0, 0))), (6, .int (nI cc)), (7, .int (nI f))]) hx hb dL_goes_340 hl_37 (k := 12) rfl (nI_1 i_2) (by decide) rfl (fun ls hl_48 => ?_)
              refine lv_goto (tgt := 3) hx hb dL_goes_343 (by decide) ?_
              have es := (goS_s hp_9).trans (goT_z hg c_26 c_34)
              exact ih_3 (by rw [es]) _ _ _ (by rw [es]; exact hH_46) hS_47 (lv_sub hl_48 [5, 6, 7, 8, 9, 10, 11, 12, 0] rfl)
            · refine lv_lload hx hb dL_goes_155 (lv_at hl_37 2 rfl) ?_
              refine lv_lconst (v := 0) hx hb dL_goes_157 (by decide) ?_
              refine zl_cmp_le (tgt := 280) hx hb dL_goes_158 dL_goes_159 (by decide) (fun c_49 => ?_) (fun c_49 => absurd c_49 (by decide))
              refine lv_lload hx hb dL_goes_280 (lv_at hl_37 2 rfl) ?_
              refine lv_lconst (v := 0) hx hb dL_goes_282 (by decide) ?_
              refine zl_cmp_le (tgt := 289) hx hb dL_goes_283 dL_goes_284 (by decide) (fun c_50 => ?_) (fun c_50 => absurd c_50 (by decide))
              refine lv_aload hx hb dL_goes_289 (lv_at hl_37 9 rfl) ?_
              refine lv_iload hx hb dL_goes_291 (lv_at hl_37 3 rfl) ?_
              refine lv_if_eq (tgt := 319) hx hb dL_goes_293 (by decide) (fun c_51 => absurd c_51 (by decide)) (fun c_51 => ?_)
              refine lv_aload_n hx hb dL_goes_296 rfl (lv_at hl_37 5 rfl) ?_
              refine lv_iload hx hb dL_goes_297 (lv_at hl_37 12 rfl) ?_
              refine la_lld C hH_31 5 rfl (by decide) (j := i_2) rfl (show i_2 < 30 by omega) dL_goes_299 ?_
              rw [up2_ne (show (5 : Nat) ≠ 8 by decide)]
              rw [up2_ne (show (5 : Nat) ≠ 8 by decide)]
              refine lv_lconst (v := 0) hx hb dL_goes_300 (by decide) ?_
              refine zl_cmp_ge (tgt := 319) hx hb dL_goes_301 dL_goes_302 (by decide) (fun c_52 => ?_) (fun c_52 => absurd c_52 (c_34))
              refine lv_bipush (v := 21) hx hb dL_goes_319 (by decide) ?_
              refine lv_dup2_11 hx hb dL_goes_321 rfl rfl ?_
              refine la_lld C hH_31 9 rfl (by decide) (j := 21) rfl (show 21 < 64 by omega) dL_goes_322 ?_
              rw [up2_ne (show (9 : Nat) ≠ 8 by decide)]
              rw [up2_ne (show (9 : Nat) ≠ 8 by decide)]
              refine lv_aload_n hx hb dL_goes_323 rfl (lv_at hl_37 6 rfl) ?_
              refine lv_iload hx hb dL_goes_324 (lv_at hl_37 12 rfl) ?_
              refine la_lld C hH_31 6 rfl (by decide) (j := i_2) rfl (show i_2 < 30 by omega) dL_goes_326 ?_
              rw [up2_ne (show (6 : Nat) ≠ 8 by decide)]
              rw [up2_ne (show (6 : Nat) ≠ 8 by decide)]
              refine lv_aload_n hx hb dL_goes_327 rfl (lv_at hl_37 6 rfl) ?_
              refine lv_iload hx hb dL_goes_328 (lv_at hl_37 12 rfl) ?_
              refine la_lld C hH_31 6 rfl (by decide) (j := i_2) rfl (show i_2 < 30 by omega) dL_goes_330 ?_
              rw [up2_ne (show (6 : Nat) ≠ 8 by decide)]
              rw [up2_ne (show (6 : Nat) ≠ 8 by decide)]
              refine zk_cl (zk_rS (As := [.long (((goS I L cc f i_2).2) 6 i_2)]) (rest := [.long (((goS I L cc f i_2).2) 6 i_2), .long (((goS I L cc f i_2).2) 9 21), .int 21, .ref (ad (9, 0, 0))]) (n := 1) (w := aw cA ad I (up2 (up2 ((goS I L cc f i_2).2) 8 i_2 0) 8 (30 + i_2) 0)) C (cH_costs l D cA A g _ (((goS I L cc f i_2).2) 6 i_2)) hH_31 hS_32 gL_goes_L_costs rfl rfl (by decide +kernel) ⟨Nat.le_of_ble_eq_true rfl, Nat.le_of_ble_eq_true rfl⟩ hl_37 rfl (Nat.le_of_ble_eq_true rfl) dL_goes_331 ⟨Nat.le_of_ble_eq_true rfl, Nat.le_of_ble_eq_true rfl⟩) hS_32 (fun r_53 w_54 H locs hP hH_55 hS_56 => ?_)
              obtain ⟨rfl, rfl⟩ := hP
              refine lv_lsub hx hb dL_goes_334 ?_
              refine lv_lload hx hb dL_goes_335 (lv_at hl_37 1 rfl) ?_
              refine lv_lsub hx hb dL_goes_337 ?_
              refine lv_ladd hx hb dL_goes_338 ?_
              refine la_lst C hH_55 hS_56 9 rfl (by decide) (j := 21) rfl (show 21 < 64 by omega) dL_goes_339 (fun H locs hH_57 hS_58 => ?_)
              refine lv_iinc (v := nI (i_2 + 1)) (lv' := [(8, .int (nI (i_2 + 1))), (14, .int 0), (12, .long 0), (10, .long 0), (9, .int 1), (0, .ref (ad (4, 0, 0))), (1, .ref (ad (5, 0, 0))), (2, .ref (ad (6, 0, 0))), (3, .ref (ad (10, 0, 0))), (4, .ref (ad (8, 0, 0))), (5, .ref (ad (9, 0, 0))), (6, .int (nI cc)), (7, .int (nI f))]) hx hb dL_goes_340 hl_37 (k := 12) rfl (nI_1 i_2) (by decide) rfl (fun ls hl_59 => ?_)
              refine lv_goto (tgt := 3) hx hb dL_goes_343 (by decide) ?_
              have es := (goS_s hp_9).trans (goT_z hg c_26 c_34)
              exact ih_3 (by rw [es]) _ _ _ (by rw [es]; exact hH_57) hS_58 (lv_sub hl_59 [5, 6, 7, 8, 9, 10, 11, 12, 0] rfl)
          · refine lv_aload_n hx hb dL_goes_131 rfl (lv_at hl_24 2 rfl) ?_
            refine lv_iload hx hb dL_goes_132 (lv_at hl_24 9 rfl) ?_
            refine la_lld C hH_31 5 rfl (by decide) (j := i_2) rfl (show i_2 < 30 by omega) dL_goes_134 ?_
            rw [up2_ne (show (5 : Nat) ≠ 8 by decide)]
            rw [up2_ne (show (5 : Nat) ≠ 8 by decide)]
            refine lv_lneg hx hb dL_goes_135 ?_
            refine lv_goto (tgt := 140) hx hb dL_goes_136 (by decide) ?_
            refine lv_lstore (lv' := [(10, .long (-(((goS I L cc f i_2).2) 5 i_2))), (9, .int 1), (0, .ref (ad (4, 0, 0))), (1, .ref (ad (5, 0, 0))), (2, .ref (ad (6, 0, 0))), (3, .ref (ad (10, 0, 0))), (4, .ref (ad (8, 0, 0))), (5, .ref (ad (9, 0, 0))), (6, .int (nI cc)), (7, .int (nI f)), (8, .int (nI i_2))]) hx hb dL_goes_140 hl_24 (by decide) rfl (fun ls hl_60 => ?_)
            refine lv_lconst (v := 0) hx hb dL_goes_142 (by decide) ?_
            refine lv_lstore (lv' := [(12, .long 0), (10, .long (-(((goS I L cc f i_2).2) 5 i_2))), (9, .int 1), (0, .ref (ad (4, 0, 0))), (1, .ref (ad (5, 0, 0))), (2, .ref (ad (6, 0, 0))), (3, .ref (ad (10, 0, 0))), (4, .ref (ad (8, 0, 0))), (5, .ref (ad (9, 0, 0))), (6, .int (nI cc)), (7, .int (nI f)), (8, .int (nI i_2))]) hx hb dL_goes_143 hl_60 (by decide) rfl (fun ls hl_61 => ?_)
            refine lv_iconst (v := 0) hx hb dL_goes_145 (by decide) ?_
            refine lv_istore (lv' := [(14, .int 0), (12, .long 0), (10, .long (-(((goS I L cc f i_2).2) 5 i_2))), (9, .int 1), (0, .ref (ad (4, 0, 0))), (1, .ref (ad (5, 0, 0))), (2, .ref (ad (6, 0, 0))), (3, .ref (ad (10, 0, 0))), (4, .ref (ad (8, 0, 0))), (5, .ref (ad (9, 0, 0))), (6, .int (nI cc)), (7, .int (nI f)), (8, .int (nI i_2))]) hx hb dL_goes_146 hl_61 (by decide) rfl (fun ls hl_62 => ?_)
            refine z_join (nL := 19) (D := D) (A := A) (w := aw cA ad I ((giS (goQ (goS I L cc f i_2).2 i_2 0 0) (-((goS I L cc f i_2).2 5 i_2)) i_2).2.2)) (pcj := 280) (lc := [(0, .ref (ad (4, 0, 0))), (1, .ref (ad (5, 0, 0))), (2, .ref (ad (6, 0, 0))), (3, .ref (ad (10, 0, 0))), (4, .ref (ad (8, 0, 0))), (5, .ref (ad (9, 0, 0))), (6, .int (nI cc)), (7, .int (nI f)), (8, .int (nI i_2)), (9, .int 1), (10, .long ((giS (goQ (goS I L cc f i_2).2 i_2 0 0) (-((goS I L cc f i_2).2 5 i_2)) i_2).1)), (12, .long ((giS (goQ (goS I L cc f i_2).2 i_2 0 0) (-((goS I L cc f i_2).2 5 i_2)) i_2).2.1))]) (st1 := []) (fun J_63 => ?_) ?_
            · refine z_at (n := i_2) (P := fun i_64 => zL p l e rmH_goes s m _ below meth c 19 D A _ (aw cA ad I ((giS (goQ (goS I L cc f i_2).2 i_2 0 0) (-((goS I L cc f i_2).2 5 i_2)) i_64).2.2)) 0 0 148 [(0, .ref (ad (4, 0, 0))), (1, .ref (ad (5, 0, 0))), (2, .ref (ad (6, 0, 0))), (3, .ref (ad (10, 0, 0))), (4, .ref (ad (8, 0, 0))), (5, .ref (ad (9, 0, 0))), (6, .int (nI cc)), (7, .int (nI f)), (8, .int (nI i_2)), (9, .int 1), (10, .long ((giS (goQ (goS I L cc f i_2).2 i_2 0 0) (-((goS I L cc f i_2).2 5 i_2)) i_64).1)), (12, .long ((giS (goQ (goS I L cc f i_2).2 i_2 0 0) (-((goS I L cc f i_2).2 5 i_2)) i_64).2.1)), (14, .int (nI i_64))] []) 0 (Nat.zero_le _) (fun h => h _ _ _ hH_31 hS_32 (lv_sub hl_62 [4, 5, 6, 7, 8, 9, 10, 11, 12, 3, 2, 1, 0] rfl)) ?_ ?_
              · intro H locs ls hH_66 hS_67 hl_68
                refine lv_iload hx hb dL_goes_148 (lv_at hl_68 12 rfl) ?_
                refine lv_iload hx hb dL_goes_150 (lv_at hl_68 8 rfl) ?_
                refine lv_icmp_ge (tgt := 280) hx hb dL_goes_152 (by decide) (fun c_69 => ?_) (fun c_69 => absurd (Int32.le_refl _) c_69)
                exact J_63 _ _ _ hH_66 hS_67 (lv_sub hl_68 [0, 1, 2, 3, 4, 5, 6, 7, 8, 9, 10, 11] rfl)
              · intro i_64 hi_64 ih_65 H locs ls hH_70 hS_71 hl_72
                refine lv_iload hx hb dL_goes_148 (lv_at hl_72 12 rfl) ?_
                refine lv_iload hx hb dL_goes_150 (lv_at hl_72 8 rfl) ?_
                refine lv_icmp_ge (tgt := 280) hx hb dL_goes_152 (by decide) (fun c_73 => absurd c_73 (nI_ge hi_64 (by first | decide | omega))) (fun c_73 => ?_)
                refine lv_lload hx hb dL_goes_155 (lv_at hl_72 10 rfl) ?_
                refine lv_lconst (v := 0) hx hb dL_goes_157 (by decide) ?_
                refine zl_cmp_le (tgt := 280) hx hb dL_goes_158 dL_goes_159 (by decide) (fun c_74 => ?_) (fun c_74 => ?_)
                · have ez := giS_stop c_74 (Nat.le_of_lt hi_64)
                  rw [← ez] at hH_70 hl_72
                  exact J_63 _ _ _ hH_70 hS_71 (lv_sub hl_72 [0, 1, 2, 3, 4, 5, 6, 7, 8, 9, 10, 11] rfl)
                · refine z_join (nL := 19) (D := D) (A := A) (w := aw cA ad I ((giS (goQ (goS I L cc f i_2).2 i_2 0 0) (-((goS I L cc f i_2).2 5 i_2)) i_64).2.2)) (pcj := 183) (lc := [(0, .ref (ad (4, 0, 0))), (1, .ref (ad (5, 0, 0))), (2, .ref (ad (6, 0, 0))), (3, .ref (ad (10, 0, 0))), (4, .ref (ad (8, 0, 0))), (5, .ref (ad (9, 0, 0))), (6, .int (nI cc)), (7, .int (nI f)), (8, .int (nI i_2)), (9, .int 1), (10, .long ((giS (goQ (goS I L cc f i_2).2 i_2 0 0) (-((goS I L cc f i_2).2 5 i_2)) i_64).1)), (12, .long ((giS (goQ (goS I L cc f i_2).2 i_2 0 0) (-((goS I L cc f i_2).2 5 i_2)) i_64).2.1)), (14, .int (nI i_64))]) (st1 := [.long (giG (giS (goQ (goS I L cc f i_2).2 i_2 0 0) (-((goS I L cc f i_2).2 5 i_2)) i_64) i_64)]) (fun J_75 => ?_) ?_
                  · refine lv_lload hx hb dL_goes_162 (lv_at hl_72 10 rfl) ?_
                    refine lv_aload hx hb dL_goes_164 (lv_at hl_72 4 rfl) ?_
                    refine lv_iload hx hb dL_goes_166 (lv_at hl_72 12 rfl) ?_
                    refine la_lld C hH_70 8 rfl (by decide) (j := i_64) rfl (show i_64 < 60 by omega) dL_goes_168 ?_
                    refine zl_cmp_ge (tgt := 178) hx hb dL_goes_169 dL_goes_170 (by decide) (fun c_79 => ?_) (fun c_79 => ?_)
                    · refine lv_aload hx hb dL_goes_178 (lv_at hl_72 4 rfl) ?_
                      refine lv_iload hx hb dL_goes_180 (lv_at hl_72 12 rfl) ?_
                      refine la_lld C hH_70 8 rfl (by decide) (j := i_64) rfl (show i_64 < 60 by omega) dL_goes_182 ?_
                      refine W.eq (g2 := F0 m 183 ls [.long (giG (giS (goQ (goS I L cc f i_2).2 i_2 0 0) (-((goS I L cc f i_2).2 5 i_2)) i_64) i_64)]) (by rw [show (giG (giS (goQ (goS I L cc f i_2).2 i_2 0 0) (-((goS I L cc f i_2).2 5 i_2)) i_64) i_64 : Int64) = ((giS (goQ (goS I L cc f i_2).2 i_2 0 0) (-((goS I L cc f i_2).2 5 i_2)) i_64).2.2) 8 i_64 from (by unfold giG; split <;> first | contradiction | rfl)]) ?_
                      exact J_75 _ _ _ hH_70 hS_71 (lv_sub hl_72 [0, 1, 2, 3, 4, 5, 6, 7, 8, 9, 10, 11, 12] rfl)
                    · refine lv_lload hx hb dL_goes_173 (lv_at hl_72 10 rfl) ?_
                      refine lv_goto (tgt := 183) hx hb dL_goes_175 (by decide) ?_
                      refine W.eq (g2 := F0 m 183 ls [.long (giG (giS (goQ (goS I L cc f i_2).2 i_2 0 0) (-((goS I L cc f i_2).2 5 i_2)) i_64) i_64)]) (by rw [show (giG (giS (goQ (goS I L cc f i_2).2 i_2 0 0) (-((goS I L cc f i_2).2 5 i_2)) i_64) i_64 : Int64) = (giS (goQ (goS I L cc f i_2).2 i_2 0 0) (-((goS I L cc f i_2).2 5 i_2)) i_64).1 from (by unfold giG; split <;> first | contradiction | rfl)]) ?_
                      exact J_75 _ _ _ hH_70 hS_71 (lv_sub hl_72 [0, 1, 2, 3, 4, 5, 6, 7, 8, 9, 10, 11, 12] rfl)
                  · intro H locs ls hH_76 hS_77 hl_78
                    refine lv_lstore (lv' := [(15, .long (giG (giS (goQ (goS I L cc f i_2).2 i_2 0 0) (-((goS I L cc f i_2).2 5 i_2)) i_64) i_64)), (0, .ref (ad (4, 0, 0))), (1, .ref (ad (5, 0, 0))), (2, .ref (ad (6, 0, 0))), (3, .ref (ad (10, 0, 0))), (4, .ref (ad (8, 0, 0))), (5, .ref (ad (9, 0, 0))), (6, .int (nI cc)), (7, .int (nI f)), (8, .int (nI i_2)), (9, .int 1), (10, .long ((giS (goQ (goS I L cc f i_2).2 i_2 0 0) (-((goS I L cc f i_2).2 5 i_2)) i_64).1)), (12, .long ((giS (goQ (goS I L cc f i_2).2 i_2 0 0) (-((goS I L cc f i_2).2 5 i_2)) i_64).2.1)), (14, .int (nI i_64))]) hx hb dL_goes_183 hl_78 (by decide) rfl (fun ls hl_80 => ?_)
                    refine z_join (nL := 19) (D := D) (A := A) (w := aw cA ad I ((giS (goQ (goS I L cc f i_2).2 i_2 0 0) (-((goS I L cc f i_2).2 5 i_2)) i_64).2.2)) (pcj := 235) (lc := [(15, .long (giG (giS (goQ (goS I L cc f i_2).2 i_2 0 0) (-((goS I L cc f i_2).2 5 i_2)) i_64) i_64)), (0, .ref (ad (4, 0, 0))), (1, .ref (ad (5, 0, 0))), (2, .ref (ad (6, 0, 0))), (3, .ref (ad (10, 0, 0))), (4, .ref (ad (8, 0, 0))), (5, .ref (ad (9, 0, 0))), (6, .int (nI cc)), (7, .int (nI f)), (8, .int (nI i_2)), (9, .int 1), (10, .long ((giS (goQ (goS I L cc f i_2).2 i_2 0 0) (-((goS I L cc f i_2).2 5 i_2)) i_64).1)), (12, .long ((giS (goQ (goS I L cc f i_2).2 i_2 0 0) (-((goS I L cc f i_2).2 5 i_2)) i_64).2.1)), (14, .int (nI i_64))]) (st1 := [.long (giC (giS (goQ (goS I L cc f i_2).2 i_2 0 0) (-((goS I L cc f i_2).2 5 i_2)) i_64) i_64)]) (fun J_81 => ?_) ?_
                    · refine lv_lload hx hb dL_goes_185 (lv_at hl_80 0 rfl) ?_
                      refine lv_lconst (v := 0) hx hb dL_goes_187 (by decide) ?_
                      refine zl_cmp_ne (tgt := 196) hx hb dL_goes_188 dL_goes_189 (by decide) (fun c_85 => ?_) (fun c_85 => ?_)
                      · refine lv_lload hx hb dL_goes_196 (lv_at hl_80 0 rfl) ?_
                        refine lv_aload hx hb dL_goes_198 (lv_at hl_80 5 rfl) ?_
                        refine lv_iload hx hb dL_goes_200 (lv_at hl_80 13 rfl) ?_
                        refine la_lld C hH_76 8 rfl (by decide) (j := i_64) rfl (show i_64 < 60 by omega) dL_goes_202 ?_
                        refine zl_cmp_ne (tgt := 218) hx hb dL_goes_203 dL_goes_204 (by decide) (fun c_86 => ?_) (fun c_86 => ?_)
                        · refine lv_aload hx hb dL_goes_218 (lv_at hl_80 5 rfl) ?_
                          refine lv_bipush (v := 30) hx hb dL_goes_220 (by decide) ?_
                          refine lv_iload hx hb dL_goes_222 (lv_at hl_80 13 rfl) ?_
                          refine lv_iadd hx hb dL_goes_224 ?_
                          refine W.eq (g2 := F0 m 225 ls [.int (nI (30 + i_64)), .ref (ad (8, 0, 0))]) (by rw [show (30 + (nI i_64) : Int32) = nI (30 + i_64) from (zi_add rfl rfl)]) ?_
                          refine la_lld C hH_76 8 rfl (by decide) (j := (30 + i_64)) rfl (show (30 + i_64) < 60 by omega) dL_goes_225 ?_
                          refine lv_lload hx hb dL_goes_226 (lv_at hl_80 0 rfl) ?_
                          refine lv_lmul hx hb dL_goes_228 ?_
                          refine lv_aload hx hb dL_goes_229 (lv_at hl_80 5 rfl) ?_
                          refine lv_iload hx hb dL_goes_231 (lv_at hl_80 13 rfl) ?_
                          refine la_lld C hH_76 8 rfl (by decide) (j := i_64) rfl (show i_64 < 60 by omega) dL_goes_233 ?_
                          refine lv_ldiv hx hb dL_goes_234 (giN c_74 c_86) ?_
                          refine W.eq (g2 := F0 m 235 ls [.long (giC (giS (goQ (goS I L cc f i_2).2 i_2 0 0) (-((goS I L cc f i_2).2 5 i_2)) i_64) i_64)]) (by rw [show (giC (giS (goQ (goS I L cc f i_2).2 i_2 0 0) (-((goS I L cc f i_2).2 5 i_2)) i_64) i_64 : Int64) = ((((giS (goQ (goS I L cc f i_2).2 i_2 0 0) (-((goS I L cc f i_2).2 5 i_2)) i_64).2.2) 8 (30 + i_64)) * (giG (giS (goQ (goS I L cc f i_2).2 i_2 0 0) (-((goS I L cc f i_2).2 5 i_2)) i_64) i_64)) / (((giS (goQ (goS I L cc f i_2).2 i_2 0 0) (-((goS I L cc f i_2).2 5 i_2)) i_64).2.2) 8 i_64) from (by unfold giC; split <;> first | contradiction | rfl | (split <;> first | contradiction | rfl))]) ?_
                          exact J_81 _ _ _ hH_76 hS_77 (lv_sub hl_80 [0, 1, 2, 3, 4, 5, 6, 7, 8, 9, 10, 11, 12, 13] rfl)
                        · refine lv_aload hx hb dL_goes_207 (lv_at hl_80 5 rfl) ?_
                          refine lv_bipush (v := 30) hx hb dL_goes_209 (by decide) ?_
                          refine lv_iload hx hb dL_goes_211 (lv_at hl_80 13 rfl) ?_
                          refine lv_iadd hx hb dL_goes_213 ?_
                          refine W.eq (g2 := F0 m 214 ls [.int (nI (30 + i_64)), .ref (ad (8, 0, 0))]) (by rw [show (30 + (nI i_64) : Int32) = nI (30 + i_64) from (zi_add rfl rfl)]) ?_
                          refine la_lld C hH_76 8 rfl (by decide) (j := (30 + i_64)) rfl (show (30 + i_64) < 60 by omega) dL_goes_214 ?_
                          refine lv_goto (tgt := 235) hx hb dL_goes_215 (by decide) ?_
                          refine W.eq (g2 := F0 m 235 ls [.long (giC (giS (goQ (goS I L cc f i_2).2 i_2 0 0) (-((goS I L cc f i_2).2 5 i_2)) i_64) i_64)]) (by rw [show (giC (giS (goQ (goS I L cc f i_2).2 i_2 0 0) (-((goS I L cc f i_2).2 5 i_2)) i_64) i_64 : Int64) = ((giS (goQ (goS I L cc f i_2).2 i_2 0 0) (-((goS I L cc f i_2).2 5 i_2)) i_64).2.2) 8 (30 + i_64) from (by unfold giC; split <;> first | contradiction | rfl | (split <;> first | contradiction | rfl))]) ?_
                          exact J_81 _ _ _ hH_76 hS_77 (lv_sub hl_80 [0, 1, 2, 3, 4, 5, 6, 7, 8, 9, 10, 11, 12, 13] rfl)
                      · refine lv_lconst (v := 0) hx hb dL_goes_192 (by decide) ?_
                        refine lv_goto (tgt := 235) hx hb dL_goes_193 (by decide) ?_
                        refine W.eq (g2 := F0 m 235 ls [.long (giC (giS (goQ (goS I L cc f i_2).2 i_2 0 0) (-((goS I L cc f i_2).2 5 i_2)) i_64) i_64)]) (by rw [show (giC (giS (goQ (goS I L cc f i_2).2 i_2 0 0) (-((goS I L cc f i_2).2 5 i_2)) i_64) i_64 : Int64) = 0 from (by unfold giC; split <;> first | contradiction | rfl | (split <;> first | contradiction | rfl))]) ?_
                        exact J_81 _ _ _ hH_76 hS_77 (lv_sub hl_80 [0, 1, 2, 3, 4, 5, 6, 7, 8, 9, 10, 11, 12, 13] rfl)
                    · intro H locs ls hH_82 hS_83 hl_84
                      refine lv_lstore (lv' := [(17, .long (giC (giS (goQ (goS I L cc f i_2).2 i_2 0 0) (-((goS I L cc f i_2).2 5 i_2)) i_64) i_64)), (15, .long (giG (giS (goQ (goS I L cc f i_2).2 i_2 0 0) (-((goS I L cc f i_2).2 5 i_2)) i_64) i_64)), (0, .ref (ad (4, 0, 0))), (1, .ref (ad (5, 0, 0))), (2, .ref (ad (6, 0, 0))), (3, .ref (ad (10, 0, 0))), (4, .ref (ad (8, 0, 0))), (5, .ref (ad (9, 0, 0))), (6, .int (nI cc)), (7, .int (nI f)), (8, .int (nI i_2)), (9, .int 1), (10, .long ((giS (goQ (goS I L cc f i_2).2 i_2 0 0) (-((goS I L cc f i_2).2 5 i_2)) i_64).1)), (12, .long ((giS (goQ (goS I L cc f i_2).2 i_2 0 0) (-((goS I L cc f i_2).2 5 i_2)) i_64).2.1)), (14, .int (nI i_64))]) hx hb dL_goes_235 hl_84 (by decide) rfl (fun ls hl_87 => ?_)
                      refine lv_aload hx hb dL_goes_237 (lv_at hl_87 6 rfl) ?_
                      refine lv_iload hx hb dL_goes_239 (lv_at hl_87 14 rfl) ?_
                      refine lv_dup2_11 hx hb dL_goes_241 rfl rfl ?_
                      refine la_lld C hH_82 8 rfl (by decide) (j := i_64) rfl (show i_64 < 60 by omega) dL_goes_242 ?_
                      refine lv_lload hx hb dL_goes_243 (lv_at hl_87 1 rfl) ?_
                      refine lv_lsub hx hb dL_goes_245 ?_
                      refine la_lst C hH_82 hS_83 8 rfl (by decide) (j := i_64) rfl (show i_64 < 60 by omega) dL_goes_246 (fun H locs hH_88 hS_89 => ?_)
                      refine lv_aload hx hb dL_goes_247 (lv_at hl_87 6 rfl) ?_
                      refine lv_bipush (v := 30) hx hb dL_goes_249 (by decide) ?_
                      refine lv_iload hx hb dL_goes_251 (lv_at hl_87 14 rfl) ?_
                      refine lv_iadd hx hb dL_goes_253 ?_
                      refine W.eq (g2 := F0 m 254 ls [.int (nI (30 + i_64)), .ref (ad (8, 0, 0))]) (by rw [show (30 + (nI i_64) : Int32) = nI (30 + i_64) from (zi_add rfl rfl)]) ?_
                      refine lv_dup2_11 hx hb dL_goes_254 rfl rfl ?_
                      refine la_lld C hH_88 8 rfl (by decide) (j := (30 + i_64)) rfl (show (30 + i_64) < 60 by omega) dL_goes_255 ?_
                      refine lv_lload hx hb dL_goes_256 (lv_at hl_87 0 rfl) ?_
                      refine lv_lsub hx hb dL_goes_258 ?_
                      refine la_lst C hH_88 hS_89 8 rfl (by decide) (j := (30 + i_64)) rfl (show (30 + i_64) < 60 by omega) dL_goes_259 (fun H locs hH_90 hS_91 => ?_)
                      refine lv_lload hx hb dL_goes_260 (lv_at hl_87 13 rfl) ?_
                      refine lv_lload hx hb dL_goes_262 (lv_at hl_87 0 rfl) ?_
                      refine lv_ladd hx hb dL_goes_264 ?_
                      refine lv_lstore (lv' := [(12, .long (((giS (goQ (goS I L cc f i_2).2 i_2 0 0) (-((goS I L cc f i_2).2 5 i_2)) i_64).2.1) + (giC (giS (goQ (goS I L cc f i_2).2 i_2 0 0) (-((goS I L cc f i_2).2 5 i_2)) i_64) i_64))), (17, .long (giC (giS (goQ (goS I L cc f i_2).2 i_2 0 0) (-((goS I L cc f i_2).2 5 i_2)) i_64) i_64)), (15, .long (giG (giS (goQ (goS I L cc f i_2).2 i_2 0 0) (-((goS I L cc f i_2).2 5 i_2)) i_64) i_64)), (0, .ref (ad (4, 0, 0))), (1, .ref (ad (5, 0, 0))), (2, .ref (ad (6, 0, 0))), (3, .ref (ad (10, 0, 0))), (4, .ref (ad (8, 0, 0))), (5, .ref (ad (9, 0, 0))), (6, .int (nI cc)), (7, .int (nI f)), (8, .int (nI i_2)), (9, .int 1), (10, .long ((giS (goQ (goS I L cc f i_2).2 i_2 0 0) (-((goS I L cc f i_2).2 5 i_2)) i_64).1)), (14, .int (nI i_64))]) hx hb dL_goes_265 hl_87 (by decide) rfl (fun ls hl_92 => ?_)
                      refine lv_lload hx hb dL_goes_267 (lv_at hl_92 13 rfl) ?_
                      refine lv_lload hx hb dL_goes_269 (lv_at hl_92 2 rfl) ?_
                      refine lv_lsub hx hb dL_goes_271 ?_
                      refine lv_lstore (lv' := [(10, .long (((giS (goQ (goS I L cc f i_2).2 i_2 0 0) (-((goS I L cc f i_2).2 5 i_2)) i_64).1) - (giG (giS (goQ (goS I L cc f i_2).2 i_2 0 0) (-((goS I L cc f i_2).2 5 i_2)) i_64) i_64))), (12, .long (((giS (goQ (goS I L cc f i_2).2 i_2 0 0) (-((goS I L cc f i_2).2 5 i_2)) i_64).2.1) + (giC (giS (goQ (goS I L cc f i_2).2 i_2 0 0) (-((goS I L cc f i_2).2 5 i_2)) i_64) i_64))), (17, .long (giC (giS (goQ (goS I L cc f i_2).2 i_2 0 0) (-((goS I L cc f i_2).2 5 i_2)) i_64) i_64)), (15, .long (giG (giS (goQ (goS I L cc f i_2).2 i_2 0 0) (-((goS I L cc f i_2).2 5 i_2)) i_64) i_64)), (0, .ref (ad (4, 0, 0))), (1, .ref (ad (5, 0, 0))), (2, .ref (ad (6, 0, 0))), (3, .ref (ad (10, 0, 0))), (4, .ref (ad (8, 0, 0))), (5, .ref (ad (9, 0, 0))), (6, .int (nI cc)), (7, .int (nI f)), (8, .int (nI i_2)), (9, .int 1), (14, .int (nI i_64))]) hx hb dL_goes_272 hl_92 (by decide) rfl (fun ls hl_93 => ?_)
                      refine lv_iinc (v := nI (i_64 + 1)) (lv' := [(14, .int (nI (i_64 + 1))), (10, .long (((giS (goQ (goS I L cc f i_2).2 i_2 0 0) (-((goS I L cc f i_2).2 5 i_2)) i_64).1) - (giG (giS (goQ (goS I L cc f i_2).2 i_2 0 0) (-((goS I L cc f i_2).2 5 i_2)) i_64) i_64))), (12, .long (((giS (goQ (goS I L cc f i_2).2 i_2 0 0) (-((goS I L cc f i_2).2 5 i_2)) i_64).2.1) + (giC (giS (goQ (goS I L cc f i_2).2 i_2 0 0) (-((goS I L cc f i_2).2 5 i_2)) i_64) i_64))), (17, .long (giC (giS (goQ (goS I L cc f i_2).2 i_2 0 0) (-((goS I L cc f i_2).2 5 i_2)) i_64) i_64)), (15, .long (giG (giS (goQ (goS I L cc f i_2).2 i_2 0 0) (-((goS I L cc f i_2).2 5 i_2)) i_64) i_64)), (0, .ref (ad (4, 0, 0))), (1, .ref (ad (5, 0, 0))), (2, .ref (ad (6, 0, 0))), (3, .ref (ad (10, 0, 0))), (4, .ref (ad (8, 0, 0))), (5, .ref (ad (9, 0, 0))), (6, .int (nI cc)), (7, .int (nI f)), (8, .int (nI i_2)), (9, .int 1)]) hx hb dL_goes_274 hl_93 (k := 14) rfl (nI_1 i_64) (by decide) rfl (fun ls hl_94 => ?_)
                      refine lv_goto (tgt := 148) hx hb dL_goes_277 (by decide) ?_
                      have eg := giS_p c_74
                      exact ih_65 _ _ _ (by rw [eg]; exact hH_90) hS_91 (by rw [eg]; exact lv_sub hl_94 [5, 6, 7, 8, 9, 10, 11, 12, 13, 14, 1, 2, 0] rfl)
            · intro H locs ls hH_95 hS_96 hl_97
              refine lv_lload hx hb dL_goes_280 (lv_at hl_97 10 rfl) ?_
              refine lv_lconst (v := 0) hx hb dL_goes_282 (by decide) ?_
              refine zl_cmp_le (tgt := 289) hx hb dL_goes_283 dL_goes_284 (by decide) (fun c_98 => ?_) (fun c_98 => ?_)
              · refine lv_aload hx hb dL_goes_289 (lv_at hl_97 5 rfl) ?_
                refine lv_iload hx hb dL_goes_291 (lv_at hl_97 9 rfl) ?_
                refine lv_if_eq (tgt := 319) hx hb dL_goes_293 (by decide) (fun c_99 => absurd c_99 (by decide)) (fun c_99 => ?_)
                refine lv_aload_n hx hb dL_goes_296 rfl (lv_at hl_97 1 rfl) ?_
                refine lv_iload hx hb dL_goes_297 (lv_at hl_97 8 rfl) ?_
                refine la_lld C hH_95 5 rfl (by decide) (j := i_2) rfl (show i_2 < 30 by omega) dL_goes_299 ?_
                refine W.eq (g2 := F0 m 300 ls [.long ((goS I L cc f i_2).2 5 i_2), .ref (ad (9, 0, 0))]) (by rw [giQ_a (by decide)]) ?_
                refine lv_lconst (v := 0) hx hb dL_goes_300 (by decide) ?_
                refine zl_cmp_ge (tgt := 319) hx hb dL_goes_301 dL_goes_302 (by decide) (fun c_100 => absurd c_34 c_100) (fun c_100 => ?_)
                refine lv_aload_n hx hb dL_goes_305 rfl (lv_at hl_97 0 rfl) ?_
                refine lv_iload hx hb dL_goes_306 (lv_at hl_97 8 rfl) ?_
                refine la_ild C hH_95 4 rfl (by decide) (j := i_2) rfl (show i_2 < 30 by omega) dL_goes_308 ?_
                have hd_101 : zD (I 4 i_2) 1048576 := hT i_2 hi_2
                have hd_101b := hd_101.2
                refine W.eq (g2 := F0 m 309 ls [.int (nI (dN (I 4 i_2))), .ref (ad (9, 0, 0))]) (by rw [← hd_101.1]) ?_
                refine lv_bipush (v := 32) hx hb dL_goes_309 (by decide) ?_
                refine lv_idiv hx hb dL_goes_311 (by decide) ?_
                refine W.eq (g2 := F0 m 312 ls [.int (nI ((dN (I 4 i_2)) / 32)), .ref (ad (9, 0, 0))]) (by rw [show ((nI (dN (I 4 i_2))) / 32 : Int32) = nI ((dN (I 4 i_2)) / 32) from (zi_div rfl (b := 32) rfl (by omega) (by decide) (by decide))]) ?_
                refine lv_sipush (v := 360) hx hb dL_goes_312 (by decide) ?_
                refine lv_idiv hx hb dL_goes_315 (by decide) ?_
                refine W.eq (g2 := F0 m 316 ls [.int (nI (((dN (I 4 i_2)) / 32) / 360)), .ref (ad (9, 0, 0))]) (by rw [show ((nI ((dN (I 4 i_2)) / 32)) / 360 : Int32) = nI (((dN (I 4 i_2)) / 32) / 360) from (zi_div rfl (b := 360) rfl (by omega) (by decide) (by decide))]) ?_
                refine lv_goto (tgt := 321) hx hb dL_goes_316 (by decide) ?_
                refine lv_dup2_11 hx hb dL_goes_321 rfl rfl ?_
                refine la_lld C hH_95 9 rfl (by decide) (j := (((dN (I 4 i_2)) / 32) / 360)) rfl (show (((dN (I 4 i_2)) / 32) / 360) < 64 by omega) dL_goes_322 ?_
                refine lv_aload_n hx hb dL_goes_323 rfl (lv_at hl_97 2 rfl) ?_
                refine lv_iload hx hb dL_goes_324 (lv_at hl_97 8 rfl) ?_
                refine la_lld C hH_95 6 rfl (by decide) (j := i_2) rfl (show i_2 < 30 by omega) dL_goes_326 ?_
                refine W.eq (g2 := F0 m 327 ls [.long ((goS I L cc f i_2).2 6 i_2), .long (((giS (goQ (goS I L cc f i_2).2 i_2 0 0) (-((goS I L cc f i_2).2 5 i_2)) i_2).2.2) 9 (((dN (I 4 i_2)) / 32) / 360)), .int (nI (((dN (I 4 i_2)) / 32) / 360)), .ref (ad (9, 0, 0))]) (by rw [giQ_a (by decide)]) ?_
                refine lv_aload_n hx hb dL_goes_327 rfl (lv_at hl_97 2 rfl) ?_
                refine lv_iload hx hb dL_goes_328 (lv_at hl_97 8 rfl) ?_
                refine la_lld C hH_95 6 rfl (by decide) (j := i_2) rfl (show i_2 < 30 by omega) dL_goes_330 ?_
                refine W.eq (g2 := F0 m 331 ls [.long ((goS I L cc f i_2).2 6 i_2), .long ((goS I L cc f i_2).2 6 i_2), .long (((giS (goQ (goS I L cc f i_2).2 i_2 0 0) (-((goS I L cc f i_2).2 5 i_2)) i_2).2.2) 9 (((dN (I 4 i_2)) / 32) / 360)), .int (nI (((dN (I 4 i_2)) / 32) / 360)), .ref (ad (9, 0, 0))]) (by rw [giQ_a (by decide)]) ?_
                refine zk_cl (zk_rS (As := [.long ((goS I L cc f i_2).2 6 i_2)]) (rest := [.long ((goS I L cc f i_2).2 6 i_2), .long (((giS (goQ (goS I L cc f i_2).2 i_2 0 0) (-((goS I L cc f i_2).2 5 i_2)) i_2).2.2) 9 (((dN (I 4 i_2)) / 32) / 360)), .int (nI (((dN (I 4 i_2)) / 32) / 360)), .ref (ad (9, 0, 0))]) (n := 1) (w := aw cA ad I ((giS (goQ (goS I L cc f i_2).2 i_2 0 0) (-((goS I L cc f i_2).2 5 i_2)) i_2).2.2)) C (cH_costs l D cA A g _ ((goS I L cc f i_2).2 6 i_2)) hH_95 hS_96 gL_goes_L_costs rfl rfl (by decide +kernel) ⟨Nat.le_of_ble_eq_true rfl, Nat.le_of_ble_eq_true rfl⟩ hl_97 rfl (Nat.le_of_ble_eq_true rfl) dL_goes_331 ⟨Nat.le_of_ble_eq_true rfl, Nat.le_of_ble_eq_true rfl⟩) hS_96 (fun r_102 w_103 H locs hP hH_104 hS_105 => ?_)
                obtain ⟨rfl, rfl⟩ := hP
                refine lv_lsub hx hb dL_goes_334 ?_
                refine lv_lload hx hb dL_goes_335 (lv_at hl_97 11 rfl) ?_
                refine lv_lsub hx hb dL_goes_337 ?_
                refine lv_ladd hx hb dL_goes_338 ?_
                refine la_lst C hH_104 hS_105 9 rfl (by decide) (j := (((dN (I 4 i_2)) / 32) / 360)) rfl (show (((dN (I 4 i_2)) / 32) / 360) < 64 by omega) dL_goes_339 (fun H locs hH_106 hS_107 => ?_)
                refine lv_iinc (v := nI (i_2 + 1)) (lv' := [(8, .int (nI (i_2 + 1))), (0, .ref (ad (4, 0, 0))), (1, .ref (ad (5, 0, 0))), (2, .ref (ad (6, 0, 0))), (3, .ref (ad (10, 0, 0))), (4, .ref (ad (8, 0, 0))), (5, .ref (ad (9, 0, 0))), (6, .int (nI cc)), (7, .int (nI f)), (9, .int 1), (10, .long ((giS (goQ (goS I L cc f i_2).2 i_2 0 0) (-((goS I L cc f i_2).2 5 i_2)) i_2).1)), (12, .long ((giS (goQ (goS I L cc f i_2).2 i_2 0 0) (-((goS I L cc f i_2).2 5 i_2)) i_2).2.1))]) hx hb dL_goes_340 hl_97 (k := 8) rfl (nI_1 i_2) (by decide) rfl (fun ls hl_108 => ?_)
                refine lv_goto (tgt := 3) hx hb dL_goes_343 (by decide) ?_
                have es := (goS_s hp_9).trans ((goT_s hg c_34).trans (if_neg c_98))
                exact ih_3 (by rw [es]) _ _ _ (by rw [es]; exact hH_106) hS_107 (lv_sub hl_108 [1, 2, 3, 4, 5, 6, 7, 8, 0] rfl)
              · refine lv_iconst (v := 0) hx hb dL_goes_287 (by decide) ?_
                refine zr_zret C hr (Or.inl rfl) ?_ hH_95 hS_96 (Nat.le_of_ble_eq_true rfl) (Nat.le_of_ble_eq_true rfl) dL_goes_288
                have es := (goS_s hp_9).trans ((goT_s hg c_34).trans (if_pos c_98))
                have e2 := goS_stop (by rw [es]) (show i_2 + 1 ≤ nt by omega)
                exact ⟨by rw [e2, es], by rw [e2, es]⟩
        · refine lv_aload_n hx hb dL_goes_70 rfl (lv_at hl_24 2 rfl) ?_
          refine lv_iload hx hb dL_goes_71 (lv_at hl_24 9 rfl) ?_
          refine la_lld C hH_15 5 rfl (by decide) (j := i_2) rfl (show i_2 < 30 by omega) dL_goes_73 ?_
          refine lv_goto (tgt := 78) hx hb dL_goes_74 (by decide) ?_
          refine la_lst C hH_15 hS_16 8 rfl (by decide) (j := i_2) rfl (show i_2 < 60 by omega) dL_goes_78 (fun H locs hH_109 hS_110 => ?_)
          refine lv_aload hx hb dL_goes_79 (lv_at hl_24 5 rfl) ?_
          refine lv_bipush (v := 30) hx hb dL_goes_81 (by decide) ?_
          refine lv_iload hx hb dL_goes_83 (lv_at hl_24 9 rfl) ?_
          refine lv_iadd hx hb dL_goes_85 ?_
          refine W.eq (g2 := F0 m 86 ls [.int (nI (30 + i_2)), .ref (ad (8, 0, 0))]) (by rw [show (30 + (nI i_2) : Int32) = nI (30 + i_2) from (zi_add rfl rfl)]) ?_
          refine lv_iload hx hb dL_goes_86 (lv_at hl_24 0 rfl) ?_
          refine lv_if_eq (tgt := 115) hx hb dL_goes_88 (by decide) (fun c_111 => absurd c_111 (by decide)) (fun c_111 => ?_)
          refine lv_aload_n hx hb dL_goes_91 rfl (lv_at hl_24 2 rfl) ?_
          refine lv_iload hx hb dL_goes_92 (lv_at hl_24 9 rfl) ?_
          refine la_lld C hH_109 5 rfl (by decide) (j := i_2) rfl (show i_2 < 30 by omega) dL_goes_94 ?_
          rw [up2_ne (show (5 : Nat) ≠ 8 by decide)]
          refine lv_lconst (v := 0) hx hb dL_goes_95 (by decide) ?_
          refine zl_cmp_le (tgt := 115) hx hb dL_goes_96 dL_goes_97 (by decide) (fun c_112 => absurd c_26 c_112) (fun c_112 => ?_)
          refine lv_aload_n hx hb dL_goes_100 rfl (lv_at hl_24 3 rfl) ?_
          refine lv_iload hx hb dL_goes_101 (lv_at hl_24 9 rfl) ?_
          refine la_lld C hH_109 6 rfl (by decide) (j := i_2) rfl (show i_2 < 30 by omega) dL_goes_103 ?_
          rw [up2_ne (show (6 : Nat) ≠ 8 by decide)]
          refine lv_aload_n hx hb dL_goes_104 rfl (lv_at hl_24 3 rfl) ?_
          refine lv_iload hx hb dL_goes_105 (lv_at hl_24 9 rfl) ?_
          refine la_lld C hH_109 6 rfl (by decide) (j := i_2) rfl (show i_2 < 30 by omega) dL_goes_107 ?_
          rw [up2_ne (show (6 : Nat) ≠ 8 by decide)]
          refine zk_cl (zk_rS (As := [.long (((goS I L cc f i_2).2) 6 i_2)]) (rest := [.long (((goS I L cc f i_2).2) 6 i_2), .int (nI (30 + i_2)), .ref (ad (8, 0, 0))]) (n := 1) (w := aw cA ad I (up2 ((goS I L cc f i_2).2) 8 i_2 (((goS I L cc f i_2).2) 5 i_2))) C (cH_costs l D cA A g _ (((goS I L cc f i_2).2) 6 i_2)) hH_109 hS_110 gL_goes_L_costs rfl rfl (by decide +kernel) ⟨Nat.le_of_ble_eq_true rfl, Nat.le_of_ble_eq_true rfl⟩ hl_24 rfl (Nat.le_of_ble_eq_true rfl) dL_goes_108 ⟨Nat.le_of_ble_eq_true rfl, Nat.le_of_ble_eq_true rfl⟩) hS_110 (fun r_113 w_114 H locs hP hH_115 hS_116 => ?_)
          obtain ⟨rfl, rfl⟩ := hP
          refine lv_ladd hx hb dL_goes_111 ?_
          refine lv_goto (tgt := 116) hx hb dL_goes_112 (by decide) ?_
          refine la_lst C hH_115 hS_116 8 rfl (by decide) (j := (30 + i_2)) rfl (show (30 + i_2) < 60 by omega) dL_goes_116 (fun H locs hH_117 hS_118 => ?_)
          refine lv_iload hx hb dL_goes_117 (lv_at hl_24 0 rfl) ?_
          refine lv_if_eq (tgt := 139) hx hb dL_goes_119 (by decide) (fun c_119 => absurd c_119 (by decide)) (fun c_119 => ?_)
          refine lv_aload_n hx hb dL_goes_122 rfl (lv_at hl_24 2 rfl) ?_
          refine lv_iload hx hb dL_goes_123 (lv_at hl_24 9 rfl) ?_
          refine la_lld C hH_117 5 rfl (by decide) (j := i_2) rfl (show i_2 < 30 by omega) dL_goes_125 ?_
          rw [up2_ne (show (5 : Nat) ≠ 8 by decide)]
          rw [up2_ne (show (5 : Nat) ≠ 8 by decide)]
          refine lv_lconst (v := 0) hx hb dL_goes_126 (by decide) ?_
          refine zl_cmp_ge (tgt := 139) hx hb dL_goes_127 dL_goes_128 (by decide) (fun c_120 => ?_) (fun c_120 => absurd c_120 (Int64.not_lt.mpr (Int64.le_of_lt c_26)))
          refine lv_lconst (v := 0) hx hb dL_goes_139 (by decide) ?_
          refine lv_lstore (lv' := [(10, .long 0), (9, .int 1), (0, .ref (ad (4, 0, 0))), (1, .ref (ad (5, 0, 0))), (2, .ref (ad (6, 0, 0))), (3, .ref (ad (10, 0, 0))), (4, .ref (ad (8, 0, 0))), (5, .ref (ad (9, 0, 0))), (6, .int (nI cc)), (7, .int (nI f)), (8, .int (nI i_2))]) hx hb dL_goes_140 hl_24 (by decide) rfl (fun ls hl_121 => ?_)
          refine lv_lconst (v := 0) hx hb dL_goes_142 (by decide) ?_
          refine lv_lstore (lv' := [(12, .long 0), (10, .long 0), (9, .int 1), (0, .ref (ad (4, 0, 0))), (1, .ref (ad (5, 0, 0))), (2, .ref (ad (6, 0, 0))), (3, .ref (ad (10, 0, 0))), (4, .ref (ad (8, 0, 0))), (5, .ref (ad (9, 0, 0))), (6, .int (nI cc)), (7, .int (nI f)), (8, .int (nI i_2))]) hx hb dL_goes_143 hl_121 (by decide) rfl (fun ls hl_122 => ?_)
          refine lv_iconst (v := 0) hx hb dL_goes_145 (by decide) ?_
          refine lv_istore (lv' := [(14, .int 0), (12, .long 0), (10, .long 0), (9, .int 1), (0, .ref (ad (4, 0, 0))), (1, .ref (ad (5, 0, 0))), (2, .ref (ad (6, 0, 0))), (3, .ref (ad (10, 0, 0))), (4, .ref (ad (8, 0, 0))), (5, .ref (ad (9, 0, 0))), (6, .int (nI cc)), (7, .int (nI f)), (8, .int (nI i_2))]) hx hb dL_goes_146 hl_122 (by decide) rfl (fun ls hl_123 => ?_)
          refine lv_iload hx hb dL_goes_148 (lv_at hl_123 0 rfl) ?_
          refine lv_iload hx hb dL_goes_150 (lv_at hl_123 12 rfl) ?_
          refine lv_icmp_ge (tgt := 280) hx hb dL_goes_152 (by decide) (fun c_124 => ?_) (fun c_124 => ?_)
          · refine lv_lload hx hb dL_goes_280 (lv_at hl_123 2 rfl) ?_
            refine lv_lconst (v := 0) hx hb dL_goes_282 (by decide) ?_
            refine zl_cmp_le (tgt := 289) hx hb dL_goes_283 dL_goes_284 (by decide) (fun c_125 => ?_) (fun c_125 => absurd c_125 (by decide))
            refine lv_aload hx hb dL_goes_289 (lv_at hl_123 9 rfl) ?_
            refine lv_iload hx hb dL_goes_291 (lv_at hl_123 3 rfl) ?_
            refine lv_if_eq (tgt := 319) hx hb dL_goes_293 (by decide) (fun c_126 => absurd c_126 (by decide)) (fun c_126 => ?_)
            refine lv_aload_n hx hb dL_goes_296 rfl (lv_at hl_123 5 rfl) ?_
            refine lv_iload hx hb dL_goes_297 (lv_at hl_123 12 rfl) ?_
            refine la_lld C hH_117 5 rfl (by decide) (j := i_2) rfl (show i_2 < 30 by omega) dL_goes_299 ?_
            rw [up2_ne (show (5 : Nat) ≠ 8 by decide)]
            rw [up2_ne (show (5 : Nat) ≠ 8 by decide)]
            refine lv_lconst (v := 0) hx hb dL_goes_300 (by decide) ?_
            refine zl_cmp_ge (tgt := 319) hx hb dL_goes_301 dL_goes_302 (by decide) (fun c_127 => ?_) (fun c_127 => absurd c_127 (Int64.not_lt.mpr (Int64.le_of_lt c_26)))
            refine lv_bipush (v := 21) hx hb dL_goes_319 (by decide) ?_
            refine lv_dup2_11 hx hb dL_goes_321 rfl rfl ?_
            refine la_lld C hH_117 9 rfl (by decide) (j := 21) rfl (show 21 < 64 by omega) dL_goes_322 ?_
            rw [up2_ne (show (9 : Nat) ≠ 8 by decide)]
            rw [up2_ne (show (9 : Nat) ≠ 8 by decide)]
            refine lv_aload_n hx hb dL_goes_323 rfl (lv_at hl_123 6 rfl) ?_
            refine lv_iload hx hb dL_goes_324 (lv_at hl_123 12 rfl) ?_
            refine la_lld C hH_117 6 rfl (by decide) (j := i_2) rfl (show i_2 < 30 by omega) dL_goes_326 ?_
            rw [up2_ne (show (6 : Nat) ≠ 8 by decide)]
            rw [up2_ne (show (6 : Nat) ≠ 8 by decide)]
            refine lv_aload_n hx hb dL_goes_327 rfl (lv_at hl_123 6 rfl) ?_
            refine lv_iload hx hb dL_goes_328 (lv_at hl_123 12 rfl) ?_
            refine la_lld C hH_117 6 rfl (by decide) (j := i_2) rfl (show i_2 < 30 by omega) dL_goes_330 ?_
            rw [up2_ne (show (6 : Nat) ≠ 8 by decide)]
            rw [up2_ne (show (6 : Nat) ≠ 8 by decide)]
            refine zk_cl (zk_rS (As := [.long (((goS I L cc f i_2).2) 6 i_2)]) (rest := [.long (((goS I L cc f i_2).2) 6 i_2), .long (((goS I L cc f i_2).2) 9 21), .int 21, .ref (ad (9, 0, 0))]) (n := 1) (w := aw cA ad I (up2 (up2 ((goS I L cc f i_2).2) 8 i_2 (((goS I L cc f i_2).2) 5 i_2)) 8 (30 + i_2) ((((goS I L cc f i_2).2) 6 i_2) + (cosL (((goS I L cc f i_2).2) 6 i_2))))) C (cH_costs l D cA A g _ (((goS I L cc f i_2).2) 6 i_2)) hH_117 hS_118 gL_goes_L_costs rfl rfl (by decide +kernel) ⟨Nat.le_of_ble_eq_true rfl, Nat.le_of_ble_eq_true rfl⟩ hl_123 rfl (Nat.le_of_ble_eq_true rfl) dL_goes_331 ⟨Nat.le_of_ble_eq_true rfl, Nat.le_of_ble_eq_true rfl⟩) hS_118 (fun r_128 w_129 H locs hP hH_130 hS_131 => ?_)
            obtain ⟨rfl, rfl⟩ := hP
            refine lv_lsub hx hb dL_goes_334 ?_
            refine lv_lload hx hb dL_goes_335 (lv_at hl_123 1 rfl) ?_
            refine lv_lsub hx hb dL_goes_337 ?_
            refine lv_ladd hx hb dL_goes_338 ?_
            refine la_lst C hH_130 hS_131 9 rfl (by decide) (j := 21) rfl (show 21 < 64 by omega) dL_goes_339 (fun H locs hH_132 hS_133 => ?_)
            refine lv_iinc (v := nI (i_2 + 1)) (lv' := [(8, .int (nI (i_2 + 1))), (14, .int 0), (12, .long 0), (10, .long 0), (9, .int 1), (0, .ref (ad (4, 0, 0))), (1, .ref (ad (5, 0, 0))), (2, .ref (ad (6, 0, 0))), (3, .ref (ad (10, 0, 0))), (4, .ref (ad (8, 0, 0))), (5, .ref (ad (9, 0, 0))), (6, .int (nI cc)), (7, .int (nI f))]) hx hb dL_goes_340 hl_123 (k := 12) rfl (nI_1 i_2) (by decide) rfl (fun ls hl_134 => ?_)
            refine lv_goto (tgt := 3) hx hb dL_goes_343 (by decide) ?_
            have es := (goS_s hp_9).trans (goT_b hg c_26)
            exact ih_3 (by rw [es]) _ _ _ (by rw [es]; exact hH_132) hS_133 (lv_sub hl_134 [5, 6, 7, 8, 9, 10, 11, 12, 0] rfl)
          · refine lv_lload hx hb dL_goes_155 (lv_at hl_123 2 rfl) ?_
            refine lv_lconst (v := 0) hx hb dL_goes_157 (by decide) ?_
            refine zl_cmp_le (tgt := 280) hx hb dL_goes_158 dL_goes_159 (by decide) (fun c_135 => ?_) (fun c_135 => absurd c_135 (by decide))
            refine lv_lload hx hb dL_goes_280 (lv_at hl_123 2 rfl) ?_
            refine lv_lconst (v := 0) hx hb dL_goes_282 (by decide) ?_
            refine zl_cmp_le (tgt := 289) hx hb dL_goes_283 dL_goes_284 (by decide) (fun c_136 => ?_) (fun c_136 => absurd c_136 (by decide))
            refine lv_aload hx hb dL_goes_289 (lv_at hl_123 9 rfl) ?_
            refine lv_iload hx hb dL_goes_291 (lv_at hl_123 3 rfl) ?_
            refine lv_if_eq (tgt := 319) hx hb dL_goes_293 (by decide) (fun c_137 => absurd c_137 (by decide)) (fun c_137 => ?_)
            refine lv_aload_n hx hb dL_goes_296 rfl (lv_at hl_123 5 rfl) ?_
            refine lv_iload hx hb dL_goes_297 (lv_at hl_123 12 rfl) ?_
            refine la_lld C hH_117 5 rfl (by decide) (j := i_2) rfl (show i_2 < 30 by omega) dL_goes_299 ?_
            rw [up2_ne (show (5 : Nat) ≠ 8 by decide)]
            rw [up2_ne (show (5 : Nat) ≠ 8 by decide)]
            refine lv_lconst (v := 0) hx hb dL_goes_300 (by decide) ?_
            refine zl_cmp_ge (tgt := 319) hx hb dL_goes_301 dL_goes_302 (by decide) (fun c_138 => ?_) (fun c_138 => absurd c_138 (Int64.not_lt.mpr (Int64.le_of_lt c_26)))
            refine lv_bipush (v := 21) hx hb dL_goes_319 (by decide) ?_
            refine lv_dup2_11 hx hb dL_goes_321 rfl rfl ?_
            refine la_lld C hH_117 9 rfl (by decide) (j := 21) rfl (show 21 < 64 by omega) dL_goes_322 ?_
            rw [up2_ne (show (9 : Nat) ≠ 8 by decide)]
            rw [up2_ne (show (9 : Nat) ≠ 8 by decide)]
            refine lv_aload_n hx hb dL_goes_323 rfl (lv_at hl_123 6 rfl) ?_
            refine lv_iload hx hb dL_goes_324 (lv_at hl_123 12 rfl) ?_
            refine la_lld C hH_117 6 rfl (by decide) (j := i_2) rfl (show i_2 < 30 by omega) dL_goes_326 ?_
            rw [up2_ne (show (6 : Nat) ≠ 8 by decide)]
            rw [up2_ne (show (6 : Nat) ≠ 8 by decide)]
            refine lv_aload_n hx hb dL_goes_327 rfl (lv_at hl_123 6 rfl) ?_
            refine lv_iload hx hb dL_goes_328 (lv_at hl_123 12 rfl) ?_
            refine la_lld C hH_117 6 rfl (by decide) (j := i_2) rfl (show i_2 < 30 by omega) dL_goes_330 ?_
            rw [up2_ne (show (6 : Nat) ≠ 8 by decide)]
            rw [up2_ne (show (6 : Nat) ≠ 8 by decide)]
            refine zk_cl (zk_rS (As := [.long (((goS I L cc f i_2).2) 6 i_2)]) (rest := [.long (((goS I L cc f i_2).2) 6 i_2), .long (((goS I L cc f i_2).2) 9 21), .int 21, .ref (ad (9, 0, 0))]) (n := 1) (w := aw cA ad I (up2 (up2 ((goS I L cc f i_2).2) 8 i_2 (((goS I L cc f i_2).2) 5 i_2)) 8 (30 + i_2) ((((goS I L cc f i_2).2) 6 i_2) + (cosL (((goS I L cc f i_2).2) 6 i_2))))) C (cH_costs l D cA A g _ (((goS I L cc f i_2).2) 6 i_2)) hH_117 hS_118 gL_goes_L_costs rfl rfl (by decide +kernel) ⟨Nat.le_of_ble_eq_true rfl, Nat.le_of_ble_eq_true rfl⟩ hl_123 rfl (Nat.le_of_ble_eq_true rfl) dL_goes_331 ⟨Nat.le_of_ble_eq_true rfl, Nat.le_of_ble_eq_true rfl⟩) hS_118 (fun r_139 w_140 H locs hP hH_141 hS_142 => ?_)
            obtain ⟨rfl, rfl⟩ := hP
            refine lv_lsub hx hb dL_goes_334 ?_
            refine lv_lload hx hb dL_goes_335 (lv_at hl_123 1 rfl) ?_
            refine lv_lsub hx hb dL_goes_337 ?_
            refine lv_ladd hx hb dL_goes_338 ?_
            refine la_lst C hH_141 hS_142 9 rfl (by decide) (j := 21) rfl (show 21 < 64 by omega) dL_goes_339 (fun H locs hH_143 hS_144 => ?_)
            refine lv_iinc (v := nI (i_2 + 1)) (lv' := [(8, .int (nI (i_2 + 1))), (14, .int 0), (12, .long 0), (10, .long 0), (9, .int 1), (0, .ref (ad (4, 0, 0))), (1, .ref (ad (5, 0, 0))), (2, .ref (ad (6, 0, 0))), (3, .ref (ad (10, 0, 0))), (4, .ref (ad (8, 0, 0))), (5, .ref (ad (9, 0, 0))), (6, .int (nI cc)), (7, .int (nI f))]) hx hb dL_goes_340 hl_123 (k := 12) rfl (nI_1 i_2) (by decide) rfl (fun ls hl_145 => ?_)
            refine lv_goto (tgt := 3) hx hb dL_goes_343 (by decide) ?_
            have es := (goS_s hp_9).trans (goT_b hg c_26)
            exact ih_3 (by rw [es]) _ _ _ (by rw [es]; exact hH_143) hS_144 (lv_sub hl_145 [5, 6, 7, 8, 9, 10, 11, 12, 0] rfl)
      · refine W.eq (g2 := F0 m 50 ls [.int 0]) (by rw [show isV I cc f i_2 = 0 from if_neg hg]) ?_
        refine lv_istore (lv' := [(9, .int 0), (0, .ref (ad (4, 0, 0))), (1, .ref (ad (5, 0, 0))), (2, .ref (ad (6, 0, 0))), (3, .ref (ad (10, 0, 0))), (4, .ref (ad (8, 0, 0))), (5, .ref (ad (9, 0, 0))), (6, .int (nI cc)), (7, .int (nI f)), (8, .int (nI i_2))]) hx hb dL_goes_50 hl_17 (by decide) rfl (fun ls hl_146 => ?_)
        refine lv_aload hx hb dL_goes_52 (lv_at hl_146 5 rfl) ?_
        refine lv_iload hx hb dL_goes_54 (lv_at hl_146 9 rfl) ?_
        refine lv_iload hx hb dL_goes_56 (lv_at hl_146 0 rfl) ?_
        refine lv_if_eq (tgt := 77) hx hb dL_goes_58 (by decide) (fun c_147 => ?_) (fun c_147 => absurd c_147 (by decide))
        refine lv_lconst (v := 0) hx hb dL_goes_77 (by decide) ?_
        refine la_lst C hH_15 hS_16 8 rfl (by decide) (j := i_2) rfl (show i_2 < 60 by omega) dL_goes_78 (fun H locs hH_148 hS_149 => ?_)
        refine lv_aload hx hb dL_goes_79 (lv_at hl_146 5 rfl) ?_
        refine lv_bipush (v := 30) hx hb dL_goes_81 (by decide) ?_
        refine lv_iload hx hb dL_goes_83 (lv_at hl_146 9 rfl) ?_
        refine lv_iadd hx hb dL_goes_85 ?_
        refine W.eq (g2 := F0 m 86 ls [.int (nI (30 + i_2)), .ref (ad (8, 0, 0))]) (by rw [show (30 + (nI i_2) : Int32) = nI (30 + i_2) from (zi_add rfl rfl)]) ?_
        refine lv_iload hx hb dL_goes_86 (lv_at hl_146 0 rfl) ?_
        refine lv_if_eq (tgt := 115) hx hb dL_goes_88 (by decide) (fun c_150 => ?_) (fun c_150 => absurd c_150 (by decide))
        refine lv_lconst (v := 0) hx hb dL_goes_115 (by decide) ?_
        refine la_lst C hH_148 hS_149 8 rfl (by decide) (j := (30 + i_2)) rfl (show (30 + i_2) < 60 by omega) dL_goes_116 (fun H locs hH_151 hS_152 => ?_)
        refine lv_iload hx hb dL_goes_117 (lv_at hl_146 0 rfl) ?_
        refine lv_if_eq (tgt := 139) hx hb dL_goes_119 (by decide) (fun c_153 => ?_) (fun c_153 => absurd c_153 (by decide))
        refine lv_lconst (v := 0) hx hb dL_goes_139 (by decide) ?_
        refine lv_lstore (lv' := [(10, .long 0), (9, .int 0), (0, .ref (ad (4, 0, 0))), (1, .ref (ad (5, 0, 0))), (2, .ref (ad (6, 0, 0))), (3, .ref (ad (10, 0, 0))), (4, .ref (ad (8, 0, 0))), (5, .ref (ad (9, 0, 0))), (6, .int (nI cc)), (7, .int (nI f)), (8, .int (nI i_2))]) hx hb dL_goes_140 hl_146 (by decide) rfl (fun ls hl_154 => ?_)
        refine lv_lconst (v := 0) hx hb dL_goes_142 (by decide) ?_
        refine lv_lstore (lv' := [(12, .long 0), (10, .long 0), (9, .int 0), (0, .ref (ad (4, 0, 0))), (1, .ref (ad (5, 0, 0))), (2, .ref (ad (6, 0, 0))), (3, .ref (ad (10, 0, 0))), (4, .ref (ad (8, 0, 0))), (5, .ref (ad (9, 0, 0))), (6, .int (nI cc)), (7, .int (nI f)), (8, .int (nI i_2))]) hx hb dL_goes_143 hl_154 (by decide) rfl (fun ls hl_155 => ?_)
        refine lv_iconst (v := 0) hx hb dL_goes_145 (by decide) ?_
        refine lv_istore (lv' := [(14, .int 0), (12, .long 0), (10, .long 0), (9, .int 0), (0, .ref (ad (4, 0, 0))), (1, .ref (ad (5, 0, 0))), (2, .ref (ad (6, 0, 0))), (3, .ref (ad (10, 0, 0))), (4, .ref (ad (8, 0, 0))), (5, .ref (ad (9, 0, 0))), (6, .int (nI cc)), (7, .int (nI f)), (8, .int (nI i_2))]) hx hb dL_goes_146 hl_155 (by decide) rfl (fun ls hl_156 => ?_)
        refine lv_iload hx hb dL_goes_148 (lv_at hl_156 0 rfl) ?_
        refine lv_iload hx hb dL_goes_150 (lv_at hl_156 12 rfl) ?_
        refine lv_icmp_ge (tgt := 280) hx hb dL_goes_152 (by decide) (fun c_157 => ?_) (fun c_157 => ?_)
        · refine lv_lload hx hb dL_goes_280 (lv_at hl_156 2 rfl) ?_
          refine lv_lconst (v := 0) hx hb dL_goes_282 (by decide) ?_
          refine zl_cmp_le (tgt := 289) hx hb dL_goes_283 dL_goes_284 (by decide) (fun c_158 => ?_) (fun c_158 => absurd c_158 (by decide))
          refine lv_aload hx hb dL_goes_289 (lv_at hl_156 9 rfl) ?_
          refine lv_iload hx hb dL_goes_291 (lv_at hl_156 3 rfl) ?_
          refine lv_if_eq (tgt := 319) hx hb dL_goes_293 (by decide) (fun c_159 => ?_) (fun c_159 => absurd c_159 (by decide))
          refine lv_bipush (v := 21) hx hb dL_goes_319 (by decide) ?_
          refine lv_dup2_11 hx hb dL_goes_321 rfl rfl ?_
          refine la_lld C hH_151 9 rfl (by decide) (j := 21) rfl (show 21 < 64 by omega) dL_goes_322 ?_
          rw [up2_ne (show (9 : Nat) ≠ 8 by decide)]
          rw [up2_ne (show (9 : Nat) ≠ 8 by decide)]
          refine lv_aload_n hx hb dL_goes_323 rfl (lv_at hl_156 6 rfl) ?_
          refine lv_iload hx hb dL_goes_324 (lv_at hl_156 12 rfl) ?_
          refine la_lld C hH_151 6 rfl (by decide) (j := i_2) rfl (show i_2 < 30 by omega) dL_goes_326 ?_
          rw [up2_ne (show (6 : Nat) ≠ 8 by decide)]
          rw [up2_ne (show (6 : Nat) ≠ 8 by decide)]
          refine lv_aload_n hx hb dL_goes_327 rfl (lv_at hl_156 6 rfl) ?_
          refine lv_iload hx hb dL_goes_328 (lv_at hl_156 12 rfl) ?_
          refine la_lld C hH_151 6 rfl (by decide) (j := i_2) rfl (show i_2 < 30 by omega) dL_goes_330 ?_
          rw [up2_ne (show (6 : Nat) ≠ 8 by decide)]
          rw [up2_ne (show (6 : Nat) ≠ 8 by decide)]
          refine zk_cl (zk_rS (As := [.long (((goS I L cc f i_2).2) 6 i_2)]) (rest := [.long (((goS I L cc f i_2).2) 6 i_2), .long (((goS I L cc f i_2).2) 9 21), .int 21, .ref (ad (9, 0, 0))]) (n := 1) (w := aw cA ad I (up2 (up2 ((goS I L cc f i_2).2) 8 i_2 0) 8 (30 + i_2) 0)) C (cH_costs l D cA A g _ (((goS I L cc f i_2).2) 6 i_2)) hH_151 hS_152 gL_goes_L_costs rfl rfl (by decide +kernel) ⟨Nat.le_of_ble_eq_true rfl, Nat.le_of_ble_eq_true rfl⟩ hl_156 rfl (Nat.le_of_ble_eq_true rfl) dL_goes_331 ⟨Nat.le_of_ble_eq_true rfl, Nat.le_of_ble_eq_true rfl⟩) hS_152 (fun r_160 w_161 H locs hP hH_162 hS_163 => ?_)
          obtain ⟨rfl, rfl⟩ := hP
          refine lv_lsub hx hb dL_goes_334 ?_
          refine lv_lload hx hb dL_goes_335 (lv_at hl_156 1 rfl) ?_
          refine lv_lsub hx hb dL_goes_337 ?_
          refine lv_ladd hx hb dL_goes_338 ?_
          refine la_lst C hH_162 hS_163 9 rfl (by decide) (j := 21) rfl (show 21 < 64 by omega) dL_goes_339 (fun H locs hH_164 hS_165 => ?_)
          refine lv_iinc (v := nI (i_2 + 1)) (lv' := [(8, .int (nI (i_2 + 1))), (14, .int 0), (12, .long 0), (10, .long 0), (9, .int 0), (0, .ref (ad (4, 0, 0))), (1, .ref (ad (5, 0, 0))), (2, .ref (ad (6, 0, 0))), (3, .ref (ad (10, 0, 0))), (4, .ref (ad (8, 0, 0))), (5, .ref (ad (9, 0, 0))), (6, .int (nI cc)), (7, .int (nI f))]) hx hb dL_goes_340 hl_156 (k := 12) rfl (nI_1 i_2) (by decide) rfl (fun ls hl_166 => ?_)
          refine lv_goto (tgt := 3) hx hb dL_goes_343 (by decide) ?_
          have es := (goS_s hp_9).trans (goT_n hg)
          exact ih_3 (by rw [es]) _ _ _ (by rw [es]; exact hH_164) hS_165 (lv_sub hl_166 [5, 6, 7, 8, 9, 10, 11, 12, 0] rfl)
        · refine lv_lload hx hb dL_goes_155 (lv_at hl_156 2 rfl) ?_
          refine lv_lconst (v := 0) hx hb dL_goes_157 (by decide) ?_
          refine zl_cmp_le (tgt := 280) hx hb dL_goes_158 dL_goes_159 (by decide) (fun c_167 => ?_) (fun c_167 => absurd c_167 (by decide))
          refine lv_lload hx hb dL_goes_280 (lv_at hl_156 2 rfl) ?_
          refine lv_lconst (v := 0) hx hb dL_goes_282 (by decide) ?_
          refine zl_cmp_le (tgt := 289) hx hb dL_goes_283 dL_goes_284 (by decide) (fun c_168 => ?_) (fun c_168 => absurd c_168 (by decide))
          refine lv_aload hx hb dL_goes_289 (lv_at hl_156 9 rfl) ?_
          refine lv_iload hx hb dL_goes_291 (lv_at hl_156 3 rfl) ?_
          refine lv_if_eq (tgt := 319) hx hb dL_goes_293 (by decide) (fun c_169 => ?_) (fun c_169 => absurd c_169 (by decide))
          refine lv_bipush (v := 21) hx hb dL_goes_319 (by decide) ?_
          refine lv_dup2_11 hx hb dL_goes_321 rfl rfl ?_
          refine la_lld C hH_151 9 rfl (by decide) (j := 21) rfl (show 21 < 64 by omega) dL_goes_322 ?_
          rw [up2_ne (show (9 : Nat) ≠ 8 by decide)]
          rw [up2_ne (show (9 : Nat) ≠ 8 by decide)]
          refine lv_aload_n hx hb dL_goes_323 rfl (lv_at hl_156 6 rfl) ?_
          refine lv_iload hx hb dL_goes_324 (lv_at hl_156 12 rfl) ?_
          refine la_lld C hH_151 6 rfl (by decide) (j := i_2) rfl (show i_2 < 30 by omega) dL_goes_326 ?_
          rw [up2_ne (show (6 : Nat) ≠ 8 by decide)]
          rw [up2_ne (show (6 : Nat) ≠ 8 by decide)]
          refine lv_aload_n hx hb dL_goes_327 rfl (lv_at hl_156 6 rfl) ?_
          refine lv_iload hx hb dL_goes_328 (lv_at hl_156 12 rfl) ?_
          refine la_lld C hH_151 6 rfl (by decide) (j := i_2) rfl (show i_2 < 30 by omega) dL_goes_330 ?_
          rw [up2_ne (show (6 : Nat) ≠ 8 by decide)]
          rw [up2_ne (show (6 : Nat) ≠ 8 by decide)]
          refine zk_cl (zk_rS (As := [.long (((goS I L cc f i_2).2) 6 i_2)]) (rest := [.long (((goS I L cc f i_2).2) 6 i_2), .long (((goS I L cc f i_2).2) 9 21), .int 21, .ref (ad (9, 0, 0))]) (n := 1) (w := aw cA ad I (up2 (up2 ((goS I L cc f i_2).2) 8 i_2 0) 8 (30 + i_2) 0)) C (cH_costs l D cA A g _ (((goS I L cc f i_2).2) 6 i_2)) hH_151 hS_152 gL_goes_L_costs rfl rfl (by decide +kernel) ⟨Nat.le_of_ble_eq_true rfl, Nat.le_of_ble_eq_true rfl⟩ hl_156 rfl (Nat.le_of_ble_eq_true rfl) dL_goes_331 ⟨Nat.le_of_ble_eq_true rfl, Nat.le_of_ble_eq_true rfl⟩) hS_152 (fun r_170 w_171 H locs hP hH_172 hS_173 => ?_)
          obtain ⟨rfl, rfl⟩ := hP
          refine lv_lsub hx hb dL_goes_334 ?_
          refine lv_lload hx hb dL_goes_335 (lv_at hl_156 1 rfl) ?_
          refine lv_lsub hx hb dL_goes_337 ?_
          refine lv_ladd hx hb dL_goes_338 ?_
          refine la_lst C hH_172 hS_173 9 rfl (by decide) (j := 21) rfl (show 21 < 64 by omega) dL_goes_339 (fun H locs hH_174 hS_175 => ?_)
          refine lv_iinc (v := nI (i_2 + 1)) (lv' := [(8, .int (nI (i_2 + 1))), (14, .int 0), (12, .long 0), (10, .long 0), (9, .int 0), (0, .ref (ad (4, 0, 0))), (1, .ref (ad (5, 0, 0))), (2, .ref (ad (6, 0, 0))), (3, .ref (ad (10, 0, 0))), (4, .ref (ad (8, 0, 0))), (5, .ref (ad (9, 0, 0))), (6, .int (nI cc)), (7, .int (nI f))]) hx hb dL_goes_340 hl_156 (k := 12) rfl (nI_1 i_2) (by decide) rfl (fun ls hl_176 => ?_)
          refine lv_goto (tgt := 3) hx hb dL_goes_343 (by decide) ?_
          have es := (goS_s hp_9).trans (goT_n hg)
          exact ih_3 (by rw [es]) _ _ _ (by rw [es]; exact hH_174) hS_175 (lv_sub hl_176 [5, 6, 7, 8, 9, 10, 11, 12, 0] rfl)
