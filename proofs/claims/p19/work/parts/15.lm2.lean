def rmH_taxes : Room := { frames := 2, cells := 0, slots := 0, locals := 59 }
set_option maxHeartbeats 600000 in
set_option maxRecDepth 100000 in
theorem cH_taxes (l : Launch) (D : va_G) (cA : Nat → ClassId) (A : Nat → Prop) (g : Nat → Nat) (ad : zk_K → Nat) (I : zIA) (L : zLA) (nt cc : Nat) (h2 : I 10 2 = nI nt) (hnt : nt ≤ 30) (hc : cc < 3) (hT : ∀ k, k < nt → zD (I 4 k) 1048576) : zM l yL_taxes wsL_taxes rmH_taxes D (zt cA) A g [.ref (ad (4, 0, 0)), .ref (ad (5, 0, 0)), .ref (ad (6, 0, 0)), .ref (ad (10, 0, 0)), .ref (ad (8, 0, 0)), .ref (ad (9, 0, 0)), .int (nI cc)] (aw cA ad I L) (zQv (fun w' => aw cA ad I (taxL I L cc nt) = w')) := by
  obtain ⟨n6, hn6⟩ : ∃ n : Nat, n = 6 := ⟨6, rfl⟩
  obtain ⟨n21, hn21⟩ : ∃ n : Nat, n = 21 := ⟨21, rfl⟩
  obtain ⟨n64, hn64⟩ : ∃ n : Nat, n = 64 := ⟨64, rfl⟩
  refine zM_of (cc := cL_taxes) (maxL := 12) (ret := none) (own := RL) (by decide +kernel) rfl (Nat.le_of_ble_eq_true rfl) rfl ?_
  intro p e s m below meth c C hr hnm H locs ls hH hS hl
  obtain ⟨⟨hx, hb, hml, hown, hts⟩, hG, hlk⟩ := id C
  have hl : lv_has ls 12 [(0, .ref (ad (4, 0, 0))), (1, .ref (ad (5, 0, 0))), (2, .ref (ad (6, 0, 0))), (3, .ref (ad (10, 0, 0))), (4, .ref (ad (8, 0, 0))), (5, .ref (ad (9, 0, 0))), (6, .int (nI cc))] := hl
  refine lv_iconst (v := 0) hx hb dL_taxes_0 (by decide) ?_
  refine lv_istore (lv' := [(7, .int 0), (0, .ref (ad (4, 0, 0))), (1, .ref (ad (5, 0, 0))), (2, .ref (ad (6, 0, 0))), (3, .ref (ad (10, 0, 0))), (4, .ref (ad (8, 0, 0))), (5, .ref (ad (9, 0, 0))), (6, .int (nI cc))]) hx hb dL_taxes_1 hl (by decide) rfl (fun ls hl_1 => ?_)
  refine z_at (n := n64) (P := fun i_2 => zL p l e rmH_taxes s m _ below meth c 12 D A _ (aw cA ad I (zeS L i_2)) 0 0 3 [(0, .ref (ad (4, 0, 0))), (1, .ref (ad (5, 0, 0))), (2, .ref (ad (6, 0, 0))), (3, .ref (ad (10, 0, 0))), (4, .ref (ad (8, 0, 0))), (5, .ref (ad (9, 0, 0))), (6, .int (nI cc)), (7, .int (nI i_2))] []) 0 (Nat.zero_le _) (fun h => h _ _ _ hH hS (lv_sub hl_1 [1, 2, 3, 4, 5, 6, 7, 0] rfl)) ?_ ?_
  · intro H locs ls hH_4 hS_5 hl_6
    refine lv_iload hx hb dL_taxes_3 (lv_at hl_6 7 rfl) ?_
    refine lv_bipush (v := 64) hx hb dL_taxes_5 (by decide) ?_
    refine lv_icmp_ge (tgt := 22) hx hb dL_taxes_7 (by decide) (fun c_7 => ?_) (fun c_7 => absurd (by rw [hn64]; exact Int32.le_refl _) c_7)
    refine lv_iconst (v := 0) hx hb dL_taxes_22 (by decide) ?_
    refine lv_istore (lv' := [(7, .int 0), (0, .ref (ad (4, 0, 0))), (1, .ref (ad (5, 0, 0))), (2, .ref (ad (6, 0, 0))), (3, .ref (ad (10, 0, 0))), (4, .ref (ad (8, 0, 0))), (5, .ref (ad (9, 0, 0))), (6, .int (nI cc))]) hx hb dL_taxes_23 hl_6 (by decide) rfl (fun ls hl_8 => ?_)
    refine z_at (n := n6) (P := fun i_9 => zL p l e rmH_taxes s m _ below meth c 12 D A _ (aw cA ad I (txS I (zeS L n64) cc nt i_9)) 0 0 25 [(0, .ref (ad (4, 0, 0))), (1, .ref (ad (5, 0, 0))), (2, .ref (ad (6, 0, 0))), (3, .ref (ad (10, 0, 0))), (4, .ref (ad (8, 0, 0))), (5, .ref (ad (9, 0, 0))), (6, .int (nI cc)), (7, .int (nI i_9))] []) 0 (Nat.zero_le _) (fun h => h _ _ _ hH_4 hS_5 (lv_sub hl_8 [1, 2, 3, 4, 5, 6, 7, 0] rfl)) ?_ ?_
    · intro H locs ls hH_11 hS_12 hl_13
      refine lv_iload hx hb dL_taxes_25 (lv_at hl_13 7 rfl) ?_
      refine lv_bipush (v := 6) hx hb dL_taxes_27 (by decide) ?_
      refine lv_icmp_ge (tgt := 73) hx hb dL_taxes_29 (by decide) (fun c_14 => ?_) (fun c_14 => absurd (by rw [hn6]; exact Int32.le_refl _) c_14)
      refine lv_lconst (v := 0) hx hb dL_taxes_73 (by decide) ?_
      refine lv_lstore (lv' := [(7, .long 0), (0, .ref (ad (4, 0, 0))), (1, .ref (ad (5, 0, 0))), (2, .ref (ad (6, 0, 0))), (3, .ref (ad (10, 0, 0))), (4, .ref (ad (8, 0, 0))), (5, .ref (ad (9, 0, 0))), (6, .int (nI cc))]) hx hb dL_taxes_74 hl_13 (by decide) rfl (fun ls hl_15 => ?_)
      refine lv_iconst (v := 0) hx hb dL_taxes_76 (by decide) ?_
      refine lv_istore (lv' := [(9, .int 0), (7, .long 0), (0, .ref (ad (4, 0, 0))), (1, .ref (ad (5, 0, 0))), (2, .ref (ad (6, 0, 0))), (3, .ref (ad (10, 0, 0))), (4, .ref (ad (8, 0, 0))), (5, .ref (ad (9, 0, 0))), (6, .int (nI cc))]) hx hb dL_taxes_77 hl_15 (by decide) rfl (fun ls hl_16 => ?_)
      refine z_at (n := n21) (P := fun i_17 => zL p l e rmH_taxes s m _ below meth c 12 D A _ (aw cA ad I ((tbS (txS I (zeS L n64) cc nt n6) i_17).2)) 0 0 79 [(0, .ref (ad (4, 0, 0))), (1, .ref (ad (5, 0, 0))), (2, .ref (ad (6, 0, 0))), (3, .ref (ad (10, 0, 0))), (4, .ref (ad (8, 0, 0))), (5, .ref (ad (9, 0, 0))), (6, .int (nI cc)), (7, .long ((tbS (txS I (zeS L n64) cc nt n6) i_17).1)), (9, .int (nI i_17))] []) 0 (Nat.zero_le _) (fun h => h _ _ _ hH_11 hS_12 (lv_sub hl_16 [2, 3, 4, 5, 6, 7, 8, 1, 0] rfl)) ?_ ?_
      · intro H locs ls hH_19 hS_20 hl_21
        refine lv_iload hx hb dL_taxes_79 (lv_at hl_21 8 rfl) ?_
        refine lv_bipush (v := 21) hx hb dL_taxes_81 (by decide) ?_
        refine lv_icmp_ge (tgt := 138) hx hb dL_taxes_83 (by decide) (fun c_22 => ?_) (fun c_22 => absurd (by rw [hn21]; exact Int32.le_refl _) c_22)
        refine zr_vret C hr ?_ hH_19 hS_20 (Nat.le_of_ble_eq_true rfl) (Nat.le_of_ble_eq_true rfl) dL_taxes_138
        rw [taxL_v hn6 hn21 hn64]
      · intro i_17 hi_17 ih_18 H locs ls hH_23 hS_24 hl_25
        refine lv_iload hx hb dL_taxes_79 (lv_at hl_25 8 rfl) ?_
        refine lv_bipush (v := 21) hx hb dL_taxes_81 (by decide) ?_
        refine lv_icmp_ge (tgt := 138) hx hb dL_taxes_83 (by decide) (fun c_26 => absurd c_26 (nI_ge (b := 21) (by omega) (by omega))) (fun c_26 => ?_)
        refine lv_aload hx hb dL_taxes_86 (lv_at hl_25 5 rfl) ?_
        refine lv_iload hx hb dL_taxes_88 (lv_at hl_25 8 rfl) ?_
        refine la_lld C hH_23 9 rfl (by decide) (j := i_17) rfl (show i_17 < 64 by omega) dL_taxes_90 ?_
        refine lv_lload hx hb dL_taxes_91 (lv_at hl_25 7 rfl) ?_
        refine lv_ladd hx hb dL_taxes_93 ?_
        refine lv_lstore (lv' := [(10, .long ((((tbS (txS I (zeS L n64) cc nt n6) i_17).2) 9 i_17) + ((tbS (txS I (zeS L n64) cc nt n6) i_17).1))), (0, .ref (ad (4, 0, 0))), (1, .ref (ad (5, 0, 0))), (2, .ref (ad (6, 0, 0))), (3, .ref (ad (10, 0, 0))), (4, .ref (ad (8, 0, 0))), (5, .ref (ad (9, 0, 0))), (6, .int (nI cc)), (7, .long ((tbS (txS I (zeS L n64) cc nt n6) i_17).1)), (9, .int (nI i_17))]) hx hb dL_taxes_94 hl_25 (by decide) rfl (fun ls hl_27 => ?_)
        refine lv_aload hx hb dL_taxes_96 (lv_at hl_27 6 rfl) ?_
        refine lv_bipush (v := 22) hx hb dL_taxes_98 (by decide) ?_
        refine lv_iload hx hb dL_taxes_100 (lv_at hl_27 9 rfl) ?_
        refine lv_iadd hx hb dL_taxes_102 ?_
        refine W.eq (g2 := F0 m 103 ls [.int (nI (22 + i_17)), .ref (ad (9, 0, 0))]) (by rw [show (22 + (nI i_17) : Int32) = nI (22 + i_17) from (zi_add rfl rfl)]) ?_
        refine z_join (nL := 12) (D := D) (A := A) (w := aw cA ad I ((tbS (txS I (zeS L n64) cc nt n6) i_17).2)) (pcj := 116) (lc := [(10, .long ((((tbS (txS I (zeS L n64) cc nt n6) i_17).2) 9 i_17) + ((tbS (txS I (zeS L n64) cc nt n6) i_17).1))), (0, .ref (ad (4, 0, 0))), (1, .ref (ad (5, 0, 0))), (2, .ref (ad (6, 0, 0))), (3, .ref (ad (10, 0, 0))), (4, .ref (ad (8, 0, 0))), (5, .ref (ad (9, 0, 0))), (6, .int (nI cc)), (7, .long ((tbS (txS I (zeS L n64) cc nt n6) i_17).1)), (9, .int (nI i_17))]) (st1 := [.long (if (((tbS (txS I (zeS L n64) cc nt n6) i_17).2) 9 i_17) + ((tbS (txS I (zeS L n64) cc nt n6) i_17).1) < 0 then 0 else (((tbS (txS I (zeS L n64) cc nt n6) i_17).2) 9 i_17) + ((tbS (txS I (zeS L n64) cc nt n6) i_17).1)), .int (nI (22 + i_17)), .ref (ad (9, 0, 0))]) (fun J_28 => ?_) ?_
        · refine lv_lload hx hb dL_taxes_103 (lv_at hl_27 0 rfl) ?_
          refine lv_lconst (v := 0) hx hb dL_taxes_105 (by decide) ?_
          refine zl_cmp_ge (tgt := 114) hx hb dL_taxes_106 dL_taxes_107 (by decide) (fun c_32 => ?_) (fun c_32 => ?_)
          · refine lv_lload hx hb dL_taxes_114 (lv_at hl_27 0 rfl) ?_
            refine W.eq (g2 := F0 m 116 ls [.long (if (((tbS (txS I (zeS L n64) cc nt n6) i_17).2) 9 i_17) + ((tbS (txS I (zeS L n64) cc nt n6) i_17).1) < 0 then 0 else (((tbS (txS I (zeS L n64) cc nt n6) i_17).2) 9 i_17) + ((tbS (txS I (zeS L n64) cc nt n6) i_17).1)), .int (nI (22 + i_17)), .ref (ad (9, 0, 0))]) (by rw [show ((if (((tbS (txS I (zeS L n64) cc nt n6) i_17).2) 9 i_17) + ((tbS (txS I (zeS L n64) cc nt n6) i_17).1) < 0 then 0 else (((tbS (txS I (zeS L n64) cc nt n6) i_17).2) 9 i_17) + ((tbS (txS I (zeS L n64) cc nt n6) i_17).1)) : Int64) = (((tbS (txS I (zeS L n64) cc nt n6) i_17).2) 9 i_17) + ((tbS (txS I (zeS L n64) cc nt n6) i_17).1) from (by split <;> first | contradiction | rfl)]) ?_
            exact J_28 _ _ _ hH_23 hS_24 (lv_sub hl_27 [0, 1, 2, 3, 4, 5, 6, 7, 8, 9] rfl)
          · refine lv_lconst (v := 0) hx hb dL_taxes_110 (by decide) ?_
            refine lv_goto (tgt := 116) hx hb dL_taxes_111 (by decide) ?_
            refine W.eq (g2 := F0 m 116 ls [.long (if (((tbS (txS I (zeS L n64) cc nt n6) i_17).2) 9 i_17) + ((tbS (txS I (zeS L n64) cc nt n6) i_17).1) < 0 then 0 else (((tbS (txS I (zeS L n64) cc nt n6) i_17).2) 9 i_17) + ((tbS (txS I (zeS L n64) cc nt n6) i_17).1)), .int (nI (22 + i_17)), .ref (ad (9, 0, 0))]) (by rw [show ((if (((tbS (txS I (zeS L n64) cc nt n6) i_17).2) 9 i_17) + ((tbS (txS I (zeS L n64) cc nt n6) i_17).1) < 0 then 0 else (((tbS (txS I (zeS L n64) cc nt n6) i_17).2) 9 i_17) + ((tbS (txS I (zeS L n64) cc nt n6) i_17).1)) : Int64) = 0 from (by split <;> first | contradiction | rfl)]) ?_
            exact J_28 _ _ _ hH_23 hS_24 (lv_sub hl_27 [0, 1, 2, 3, 4, 5, 6, 7, 8, 9] rfl)
        · intro H locs ls hH_29 hS_30 hl_31
          refine la_lst C hH_29 hS_30 9 rfl (by decide) (j := (22 + i_17)) rfl (show (22 + i_17) < 64 by omega) dL_taxes_116 (fun H locs hH_33 hS_34 => ?_)
          refine z_join (nL := 12) (D := D) (A := A) (w := aw cA ad I (up2 ((tbS (txS I (zeS L n64) cc nt n6) i_17).2) 9 (22 + i_17) (if (((tbS (txS I (zeS L n64) cc nt n6) i_17).2) 9 i_17) + ((tbS (txS I (zeS L n64) cc nt n6) i_17).1) < 0 then 0 else (((tbS (txS I (zeS L n64) cc nt n6) i_17).2) 9 i_17) + ((tbS (txS I (zeS L n64) cc nt n6) i_17).1)))) (pcj := 130) (lc := [(10, .long ((((tbS (txS I (zeS L n64) cc nt n6) i_17).2) 9 i_17) + ((tbS (txS I (zeS L n64) cc nt n6) i_17).1))), (0, .ref (ad (4, 0, 0))), (1, .ref (ad (5, 0, 0))), (2, .ref (ad (6, 0, 0))), (3, .ref (ad (10, 0, 0))), (4, .ref (ad (8, 0, 0))), (5, .ref (ad (9, 0, 0))), (6, .int (nI cc)), (7, .long ((tbS (txS I (zeS L n64) cc nt n6) i_17).1)), (9, .int (nI i_17))]) (st1 := [.long (if (((tbS (txS I (zeS L n64) cc nt n6) i_17).2) 9 i_17) + ((tbS (txS I (zeS L n64) cc nt n6) i_17).1) < 0 then (((tbS (txS I (zeS L n64) cc nt n6) i_17).2) 9 i_17) + ((tbS (txS I (zeS L n64) cc nt n6) i_17).1) else 0)]) (fun J_35 => ?_) ?_
          · refine lv_lload hx hb dL_taxes_117 (lv_at hl_31 0 rfl) ?_
            refine lv_lconst (v := 0) hx hb dL_taxes_119 (by decide) ?_
            refine zl_cmp_ge (tgt := 129) hx hb dL_taxes_120 dL_taxes_121 (by decide) (fun c_39 => ?_) (fun c_39 => ?_)
            · refine lv_lconst (v := 0) hx hb dL_taxes_129 (by decide) ?_
              refine W.eq (g2 := F0 m 130 ls [.long (if (((tbS (txS I (zeS L n64) cc nt n6) i_17).2) 9 i_17) + ((tbS (txS I (zeS L n64) cc nt n6) i_17).1) < 0 then (((tbS (txS I (zeS L n64) cc nt n6) i_17).2) 9 i_17) + ((tbS (txS I (zeS L n64) cc nt n6) i_17).1) else 0)]) (by rw [show ((if (((tbS (txS I (zeS L n64) cc nt n6) i_17).2) 9 i_17) + ((tbS (txS I (zeS L n64) cc nt n6) i_17).1) < 0 then (((tbS (txS I (zeS L n64) cc nt n6) i_17).2) 9 i_17) + ((tbS (txS I (zeS L n64) cc nt n6) i_17).1) else 0) : Int64) = 0 from (by split <;> first | contradiction | rfl)]) ?_
              exact J_35 _ _ _ hH_33 hS_34 (lv_sub hl_31 [0, 1, 2, 3, 4, 5, 6, 7, 8, 9] rfl)
            · refine lv_lload hx hb dL_taxes_124 (lv_at hl_31 0 rfl) ?_
              refine lv_goto (tgt := 130) hx hb dL_taxes_126 (by decide) ?_
              refine W.eq (g2 := F0 m 130 ls [.long (if (((tbS (txS I (zeS L n64) cc nt n6) i_17).2) 9 i_17) + ((tbS (txS I (zeS L n64) cc nt n6) i_17).1) < 0 then (((tbS (txS I (zeS L n64) cc nt n6) i_17).2) 9 i_17) + ((tbS (txS I (zeS L n64) cc nt n6) i_17).1) else 0)]) (by rw [show ((if (((tbS (txS I (zeS L n64) cc nt n6) i_17).2) 9 i_17) + ((tbS (txS I (zeS L n64) cc nt n6) i_17).1) < 0 then (((tbS (txS I (zeS L n64) cc nt n6) i_17).2) 9 i_17) + ((tbS (txS I (zeS L n64) cc nt n6) i_17).1) else 0) : Int64) = (((tbS (txS I (zeS L n64) cc nt n6) i_17).2) 9 i_17) + ((tbS (txS I (zeS L n64) cc nt n6) i_17).1) from (by split <;> first | contradiction | rfl)]) ?_
              exact J_35 _ _ _ hH_33 hS_34 (lv_sub hl_31 [0, 1, 2, 3, 4, 5, 6, 7, 8, 9] rfl)
          · intro H locs ls hH_36 hS_37 hl_38
            refine lv_lstore (lv' := [(7, .long (if (((tbS (txS I (zeS L n64) cc nt n6) i_17).2) 9 i_17) + ((tbS (txS I (zeS L n64) cc nt n6) i_17).1) < 0 then (((tbS (txS I (zeS L n64) cc nt n6) i_17).2) 9 i_17) + ((tbS (txS I (zeS L n64) cc nt n6) i_17).1) else 0)), (10, .long ((((tbS (txS I (zeS L n64) cc nt n6) i_17).2) 9 i_17) + ((tbS (txS I (zeS L n64) cc nt n6) i_17).1))), (0, .ref (ad (4, 0, 0))), (1, .ref (ad (5, 0, 0))), (2, .ref (ad (6, 0, 0))), (3, .ref (ad (10, 0, 0))), (4, .ref (ad (8, 0, 0))), (5, .ref (ad (9, 0, 0))), (6, .int (nI cc)), (9, .int (nI i_17))]) hx hb dL_taxes_130 hl_38 (by decide) rfl (fun ls hl_40 => ?_)
            refine lv_iinc (v := nI (i_17 + 1)) (lv' := [(9, .int (nI (i_17 + 1))), (7, .long (if (((tbS (txS I (zeS L n64) cc nt n6) i_17).2) 9 i_17) + ((tbS (txS I (zeS L n64) cc nt n6) i_17).1) < 0 then (((tbS (txS I (zeS L n64) cc nt n6) i_17).2) 9 i_17) + ((tbS (txS I (zeS L n64) cc nt n6) i_17).1) else 0)), (10, .long ((((tbS (txS I (zeS L n64) cc nt n6) i_17).2) 9 i_17) + ((tbS (txS I (zeS L n64) cc nt n6) i_17).1))), (0, .ref (ad (4, 0, 0))), (1, .ref (ad (5, 0, 0))), (2, .ref (ad (6, 0, 0))), (3, .ref (ad (10, 0, 0))), (4, .ref (ad (8, 0, 0))), (5, .ref (ad (9, 0, 0))), (6, .int (nI cc))]) hx hb dL_taxes_132 hl_40 (k := 9) rfl (nI_1 i_17) (by decide) rfl (fun ls hl_41 => ?_)
            refine lv_goto (tgt := 79) hx hb dL_taxes_135 (by decide) ?_
            exact ih_18 _ _ _ hH_36 hS_37 (lv_sub hl_41 [3, 4, 5, 6, 7, 8, 9, 1, 0] rfl)
    · intro i_9 hi_9 ih_10 H locs ls hH_42 hS_43 hl_44
      refine lv_iload hx hb dL_taxes_25 (lv_at hl_44 7 rfl) ?_
      refine lv_bipush (v := 6) hx hb dL_taxes_27 (by decide) ?_
      refine lv_icmp_ge (tgt := 73) hx hb dL_taxes_29 (by decide) (fun c_45 => absurd c_45 (nI_ge (b := 6) (by omega) (by omega))) (fun c_45 => ?_)
      refine lv_aload_n hx hb dL_taxes_32 rfl (lv_at hl_44 0 rfl) ?_
      refine lv_aload_n hx hb dL_taxes_33 rfl (lv_at hl_44 1 rfl) ?_
      refine lv_aload_n hx hb dL_taxes_34 rfl (lv_at hl_44 2 rfl) ?_
      refine lv_aload_n hx hb dL_taxes_35 rfl (lv_at hl_44 3 rfl) ?_
      refine lv_aload hx hb dL_taxes_36 (lv_at hl_44 4 rfl) ?_
      refine lv_aload hx hb dL_taxes_38 (lv_at hl_44 5 rfl) ?_
      refine lv_iload hx hb dL_taxes_40 (lv_at hl_44 6 rfl) ?_
      refine lv_iload hx hb dL_taxes_42 (lv_at hl_44 7 rfl) ?_
      refine zk_ci (zk_rS (As := [.ref (ad (4, 0, 0)), .ref (ad (5, 0, 0)), .ref (ad (6, 0, 0)), .ref (ad (10, 0, 0)), .ref (ad (8, 0, 0)), .ref (ad (9, 0, 0)), .int (nI cc), .int (nI i_9)]) (rest := []) (n := 8) (w := aw cA ad I (txS I (zeS L n64) cc nt i_9)) C (cH_goes l D cA A g ad I (txS I (zeS L n64) cc nt i_9) nt cc i_9 h2 hnt (by omega) (by omega) hT) hH_42 hS_43 gL_taxes_L_goes rfl rfl (by decide +kernel) ⟨Nat.le_of_ble_eq_true rfl, Nat.le_of_ble_eq_true rfl⟩ hl_44 rfl (Nat.le_of_ble_eq_true rfl) dL_taxes_44 ⟨Nat.le_of_ble_eq_true rfl, Nat.le_of_ble_eq_true rfl⟩) hS_43 (fun r_46 w_47 H locs hP hH_48 hS_49 => ?_)
      obtain ⟨rfl, rfl⟩ := hP
      refine lv_istore (lv' := [(8, .int ((goS I (txS I (zeS L n64) cc nt i_9) cc i_9 nt).1)), (0, .ref (ad (4, 0, 0))), (1, .ref (ad (5, 0, 0))), (2, .ref (ad (6, 0, 0))), (3, .ref (ad (10, 0, 0))), (4, .ref (ad (8, 0, 0))), (5, .ref (ad (9, 0, 0))), (6, .int (nI cc)), (7, .int (nI i_9))]) hx hb dL_taxes_47 hl_44 (by decide) rfl (fun ls hl_50 => ?_)
      refine lv_aload hx hb dL_taxes_49 (lv_at hl_50 6 rfl) ?_
      refine lv_bipush (v := 63) hx hb dL_taxes_51 (by decide) ?_
      refine lv_dup2_11 hx hb dL_taxes_53 rfl rfl ?_
      refine la_lld C hH_48 9 rfl (by decide) (j := 63) rfl (show 63 < 64 by omega) dL_taxes_54 ?_
      refine z_join (nL := 12) (D := D) (A := A) (w := aw cA ad I ((goS I (txS I (zeS L n64) cc nt i_9) cc i_9 nt).2)) (pcj := 65) (lc := [(8, .int ((goS I (txS I (zeS L n64) cc nt i_9) cc i_9 nt).1)), (0, .ref (ad (4, 0, 0))), (1, .ref (ad (5, 0, 0))), (2, .ref (ad (6, 0, 0))), (3, .ref (ad (10, 0, 0))), (4, .ref (ad (8, 0, 0))), (5, .ref (ad (9, 0, 0))), (6, .int (nI cc)), (7, .int (nI i_9))]) (st1 := [.long (if (goS I (txS I (zeS L n64) cc nt i_9) cc i_9 nt).1 = 0 then 1 else 0), .long (((goS I (txS I (zeS L n64) cc nt i_9) cc i_9 nt).2) 9 63), .int 63, .ref (ad (9, 0, 0))]) (fun J_51 => ?_) ?_
      · refine lv_iload hx hb dL_taxes_55 (lv_at hl_50 0 rfl) ?_
        refine lv_if_eq (tgt := 64) hx hb dL_taxes_57 (by decide) (fun c_55 => ?_) (fun c_55 => ?_)
        · refine lv_lconst (v := 1) hx hb dL_taxes_64 (by decide) ?_
          refine W.eq (g2 := F0 m 65 ls [.long (if (goS I (txS I (zeS L n64) cc nt i_9) cc i_9 nt).1 = 0 then 1 else 0), .long (((goS I (txS I (zeS L n64) cc nt i_9) cc i_9 nt).2) 9 63), .int 63, .ref (ad (9, 0, 0))]) (by rw [show ((if (goS I (txS I (zeS L n64) cc nt i_9) cc i_9 nt).1 = 0 then 1 else 0) : Int64) = 1 from (by split <;> first | contradiction | rfl)]) ?_
          exact J_51 _ _ _ hH_48 hS_49 (lv_sub hl_50 [0, 1, 2, 3, 4, 5, 6, 7, 8] rfl)
        · refine lv_lconst (v := 0) hx hb dL_taxes_60 (by decide) ?_
          refine lv_goto (tgt := 65) hx hb dL_taxes_61 (by decide) ?_
          refine W.eq (g2 := F0 m 65 ls [.long (if (goS I (txS I (zeS L n64) cc nt i_9) cc i_9 nt).1 = 0 then 1 else 0), .long (((goS I (txS I (zeS L n64) cc nt i_9) cc i_9 nt).2) 9 63), .int 63, .ref (ad (9, 0, 0))]) (by rw [show ((if (goS I (txS I (zeS L n64) cc nt i_9) cc i_9 nt).1 = 0 then 1 else 0) : Int64) = 0 from (by split <;> first | contradiction | rfl)]) ?_
          exact J_51 _ _ _ hH_48 hS_49 (lv_sub hl_50 [0, 1, 2, 3, 4, 5, 6, 7, 8] rfl)
      · intro H locs ls hH_52 hS_53 hl_54
        refine lv_ladd hx hb dL_taxes_65 ?_
        refine la_lst C hH_52 hS_53 9 rfl (by decide) (j := 63) rfl (show 63 < 64 by omega) dL_taxes_66 (fun H locs hH_56 hS_57 => ?_)
        refine lv_iinc (v := nI (i_9 + 1)) (lv' := [(7, .int (nI (i_9 + 1))), (8, .int ((goS I (txS I (zeS L n64) cc nt i_9) cc i_9 nt).1)), (0, .ref (ad (4, 0, 0))), (1, .ref (ad (5, 0, 0))), (2, .ref (ad (6, 0, 0))), (3, .ref (ad (10, 0, 0))), (4, .ref (ad (8, 0, 0))), (5, .ref (ad (9, 0, 0))), (6, .int (nI cc))]) hx hb dL_taxes_67 hl_54 (k := 8) rfl (nI_1 i_9) (by decide) rfl (fun ls hl_58 => ?_)
        refine lv_goto (tgt := 25) hx hb dL_taxes_70 (by decide) ?_
        exact ih_10 _ _ _ hH_56 hS_57 (lv_sub hl_58 [2, 3, 4, 5, 6, 7, 8, 0] rfl)
  · intro i_2 hi_2 ih_3 H locs ls hH_59 hS_60 hl_61
    refine lv_iload hx hb dL_taxes_3 (lv_at hl_61 7 rfl) ?_
    refine lv_bipush (v := 64) hx hb dL_taxes_5 (by decide) ?_
    refine lv_icmp_ge (tgt := 22) hx hb dL_taxes_7 (by decide) (fun c_62 => absurd c_62 (nI_ge (b := 64) (by omega) (by omega))) (fun c_62 => ?_)
    refine lv_aload hx hb dL_taxes_10 (lv_at hl_61 5 rfl) ?_
    refine lv_iload hx hb dL_taxes_12 (lv_at hl_61 7 rfl) ?_
    refine lv_lconst (v := 0) hx hb dL_taxes_14 (by decide) ?_
    refine la_lst C hH_59 hS_60 9 rfl (by decide) (j := i_2) rfl (show i_2 < 64 by omega) dL_taxes_15 (fun H locs hH_63 hS_64 => ?_)
    refine lv_iinc (v := nI (i_2 + 1)) (lv' := [(7, .int (nI (i_2 + 1))), (0, .ref (ad (4, 0, 0))), (1, .ref (ad (5, 0, 0))), (2, .ref (ad (6, 0, 0))), (3, .ref (ad (10, 0, 0))), (4, .ref (ad (8, 0, 0))), (5, .ref (ad (9, 0, 0))), (6, .int (nI cc))]) hx hb dL_taxes_16 hl_61 (k := 7) rfl (nI_1 i_2) (by decide) rfl (fun ls hl_65 => ?_)
    refine lv_goto (tgt := 3) hx hb dL_taxes_19 (by decide) ?_
    exact ih_3 _ _ _ hH_63 hS_64 (lv_sub hl_65 [1, 2, 3, 4, 5, 6, 7, 0] rfl)
def rmH_balances : Room := { frames := 2, cells := 0, slots := 0, locals := 64 }
set_option maxHeartbeats 600000 in
set_option maxRecDepth 100000 in
theorem cH_balances (l : Launch) (D : va_G) (cA : Nat → ClassId) (A : Nat → Prop) (g : Nat → Nat) (ad : zk_K → Nat) (I : zIA) (L : zLA) (nt dy cc : Nat) (h2 : I 10 2 = nI nt) (h0 : I 10 0 = nI dy) (hnt : nt < 18) (hc : cc < 3) (hp : ∀ f, f < 6 → ¬ Int32.toInt64 (I 0 f) = 0) : zM l yL_balances wsL_balances rmH_balances D (zt cA) A g [.ref (ad (0, 0, 0)), .ref (ad (1, 0, 0)), .ref (ad (2, 0, 0)), .ref (ad (3, 0, 0)), .ref (ad (4, 0, 0)), .ref (ad (5, 0, 0)), .ref (ad (6, 0, 0)), .ref (ad (10, 0, 0)), .int (nI cc)] (aw cA ad I L) (zQi (fun r w' => nI ((baS dy cc (wlL I L cc 6) (nt, I, L) 12).1 - nt) = r ∧ aw cA ad ((baS dy cc (wlL I L cc 6) (nt, I, L) 12).2.1) ((baS dy cc (wlL I L cc 6) (nt, I, L) 12).2.2) = w')) := by
  refine zM_of (cc := cL_balances) (maxL := 24) (ret := (some .int)) (own := RL) (by decide +kernel) rfl (Nat.le_of_ble_eq_true rfl) rfl ?_
  intro p e s m below meth c C hr hnm H locs ls hH hS hl
  obtain ⟨⟨hx, hb, hml, hown, hts⟩, hG, hlk⟩ := id C
  have hl : lv_has ls 24 [(0, .ref (ad (0, 0, 0))), (1, .ref (ad (1, 0, 0))), (2, .ref (ad (2, 0, 0))), (3, .ref (ad (3, 0, 0))), (4, .ref (ad (4, 0, 0))), (5, .ref (ad (5, 0, 0))), (6, .ref (ad (6, 0, 0))), (7, .ref (ad (10, 0, 0))), (8, .int (nI cc))] := hl
  refine lv_aload hx hb dL_balances_0 (lv_at hl 7 rfl) ?_
  refine lv_iconst (v := 2) hx hb dL_balances_2 (by decide) ?_
  refine la_ild C hH 10 rfl (by decide) (j := 2) rfl (show 2 < 3 by omega) dL_balances_3 ?_
  refine W.eq (g2 := F0 m 4 ls [.int (nI nt)]) (by rw [h2]) ?_
  refine lv_istore (lv' := [(9, .int (nI nt)), (0, .ref (ad (0, 0, 0))), (1, .ref (ad (1, 0, 0))), (2, .ref (ad (2, 0, 0))), (3, .ref (ad (3, 0, 0))), (4, .ref (ad (4, 0, 0))), (5, .ref (ad (5, 0, 0))), (6, .ref (ad (6, 0, 0))), (7, .ref (ad (10, 0, 0))), (8, .int (nI cc))]) hx hb dL_balances_4 hl (by decide) rfl (fun ls hl_1 => ?_)
  refine lv_aload_n hx hb dL_balances_6 rfl (lv_at hl_1 1 rfl) ?_
  refine lv_aload_n hx hb dL_balances_7 rfl (lv_at hl_1 2 rfl) ?_
  refine lv_aload_n hx hb dL_balances_8 rfl (lv_at hl_1 3 rfl) ?_
  refine lv_iload hx hb dL_balances_9 (lv_at hl_1 9 rfl) ?_
  refine zk_cl (zk_rS (As := [.ref (ad (0, 0, 0)), .ref (ad (1, 0, 0)), .ref (ad (2, 0, 0)), .int (nI cc)]) (rest := []) (n := 4) (w := aw cA ad I L) C (cH_wealth l D cA A g ad I L cc (by omega)) hH hS gL_balances_L_wealth rfl rfl (by decide +kernel) ⟨Nat.le_of_ble_eq_true rfl, Nat.le_of_ble_eq_true rfl⟩ hl_1 rfl (Nat.le_of_ble_eq_true rfl) dL_balances_11 ⟨Nat.le_of_ble_eq_true rfl, Nat.le_of_ble_eq_true rfl⟩) hS (fun r_2 w_3 H locs hP hH_4 hS_5 => ?_)
  obtain ⟨rfl, rfl⟩ := hP
  refine lv_lstore (lv' := [(10, .long (wlL I L cc 6)), (9, .int (nI nt)), (0, .ref (ad (0, 0, 0))), (1, .ref (ad (1, 0, 0))), (2, .ref (ad (2, 0, 0))), (3, .ref (ad (3, 0, 0))), (4, .ref (ad (4, 0, 0))), (5, .ref (ad (5, 0, 0))), (6, .ref (ad (6, 0, 0))), (7, .ref (ad (10, 0, 0))), (8, .int (nI cc))]) hx hb dL_balances_14 hl_1 (by decide) rfl (fun ls hl_6 => ?_)
  refine lv_iconst (v := 0) hx hb dL_balances_16 (by decide) ?_
  refine lv_istore (lv' := [(12, .int 0), (10, .long (wlL I L cc 6)), (9, .int (nI nt)), (0, .ref (ad (0, 0, 0))), (1, .ref (ad (1, 0, 0))), (2, .ref (ad (2, 0, 0))), (3, .ref (ad (3, 0, 0))), (4, .ref (ad (4, 0, 0))), (5, .ref (ad (5, 0, 0))), (6, .ref (ad (6, 0, 0))), (7, .ref (ad (10, 0, 0))), (8, .int (nI cc))]) hx hb dL_balances_17 hl_6 (by decide) rfl (fun ls hl_7 => ?_)
  refine z_at (n := 12) (P := fun i_8 => zL p l e rmH_balances s m _ below meth c 24 D A _ (aw cA ad ((baS dy cc (wlL I L cc 6) (nt, I, L) i_8).2.1) ((baS dy cc (wlL I L cc 6) (nt, I, L) i_8).2.2)) 0 0 19 [(0, .ref (ad (0, 0, 0))), (1, .ref (ad (1, 0, 0))), (2, .ref (ad (2, 0, 0))), (3, .ref (ad (3, 0, 0))), (4, .ref (ad (4, 0, 0))), (5, .ref (ad (5, 0, 0))), (6, .ref (ad (6, 0, 0))), (7, .ref (ad (10, 0, 0))), (8, .int (nI cc)), (9, .int (nI nt)), (10, .long (wlL I L cc 6)), (12, .int (nI i_8))] []) 0 (Nat.zero_le _) (fun h => h _ _ _ hH_4 hS_5 (lv_sub hl_7 [3, 4, 5, 6, 7, 8, 9, 10, 11, 2, 1, 0] rfl)) ?_ ?_
  · intro H locs ls hH_10 hS_11 hl_12
    refine lv_iload hx hb dL_balances_19 (lv_at hl_12 11 rfl) ?_
    refine lv_bipush (v := 12) hx hb dL_balances_21 (by decide) ?_
    refine lv_icmp_ge (tgt := 263) hx hb dL_balances_23 (by decide) (fun c_13 => ?_) (fun c_13 => absurd (Int32.le_refl _) c_13)
    obtain ⟨b1, b2, b3, b4, b5, b6⟩ := baS_ok (dy := dy) (c := cc) (all := (wlL I L cc 6)) (s := (nt, I, L)) (nt := nt) (I := I) ⟨Nat.le_refl _, Nat.le_refl _, h2, h0, rfl, rfl⟩ 12
    refine lv_aload hx hb dL_balances_263 (lv_at hl_12 7 rfl) ?_
    refine lv_iconst (v := 2) hx hb dL_balances_265 (by decide) ?_
    refine la_ild C hH_10 10 rfl (by decide) (j := 2) rfl (show 2 < 3 by omega) dL_balances_266 ?_
    refine W.eq (g2 := F0 m 267 ls [.int (nI ((baS dy cc (wlL I L cc 6) (nt, I, L) 12).1))]) (by rw [b3]) ?_
    refine lv_iload hx hb dL_balances_267 (lv_at hl_12 9 rfl) ?_
    refine lv_isub hx hb dL_balances_269 ?_
    refine zr_iret C hr ?_ hH_10 hS_11 (Nat.le_of_ble_eq_true rfl) (Nat.le_of_ble_eq_true rfl) dL_balances_270
    refine ⟨?_, rfl⟩
    rw [pk_sub b2]
  · intro i_8 hi_8 ih_9 H locs ls hH_14 hS_15 hl_16
    refine lv_iload hx hb dL_balances_19 (lv_at hl_16 11 rfl) ?_
    refine lv_bipush (v := 12) hx hb dL_balances_21 (by decide) ?_
    refine lv_icmp_ge (tgt := 263) hx hb dL_balances_23 (by decide) (fun c_17 => absurd c_17 (nI_ge hi_8 (by first | decide | omega))) (fun c_17 => ?_)
    obtain ⟨b1, b2, b3, b4, b5, b6⟩ := baS_ok (dy := dy) (c := cc) (all := (wlL I L cc 6)) (s := (nt, I, L)) (nt := nt) (I := I) ⟨Nat.le_refl _, Nat.le_refl _, h2, h0, rfl, rfl⟩ i_8
    have hpk : ∀ f, f < 6 → ¬ Int32.toInt64 ((baS dy cc (wlL I L cc 6) (nt, I, L) i_8).2.1 0 f) = 0 := by rw [b5]; exact hp
    by_cases hk : i_8 < 6
    · refine lv_iload hx hb dL_balances_26 (lv_at hl_16 11 rfl) ?_
      refine lv_bipush (v := 6) hx hb dL_balances_28 (by decide) ?_
      refine lv_irem hx hb dL_balances_30 (by decide) ?_
      refine W.eq (g2 := F0 m 31 ls [.int (nI (i_8 % 6))]) (by rw [show ((nI i_8) - (nI i_8) / 6 * 6 : Int32) = nI (i_8 % 6) from (zi_rem rfl (b := 6) rfl (by omega) (by decide) (by decide))]) ?_
      refine lv_istore (lv' := [(13, .int (nI (i_8 % 6))), (0, .ref (ad (0, 0, 0))), (1, .ref (ad (1, 0, 0))), (2, .ref (ad (2, 0, 0))), (3, .ref (ad (3, 0, 0))), (4, .ref (ad (4, 0, 0))), (5, .ref (ad (5, 0, 0))), (6, .ref (ad (6, 0, 0))), (7, .ref (ad (10, 0, 0))), (8, .int (nI cc)), (9, .int (nI nt)), (10, .long (wlL I L cc 6)), (12, .int (nI i_8))]) hx hb dL_balances_31 hl_16 (by decide) rfl (fun ls hl_18 => ?_)
      refine lv_lload hx hb dL_balances_33 (lv_at hl_18 11 rfl) ?_
      refine lv_aload_n hx hb dL_balances_35 rfl (lv_at hl_18 4 rfl) ?_
      refine lv_bipush (v := 6) hx hb dL_balances_36 (by decide) ?_
      refine lv_iload hx hb dL_balances_38 (lv_at hl_18 9 rfl) ?_
      refine lv_imul hx hb dL_balances_40 ?_
      refine lv_iload hx hb dL_balances_41 (lv_at hl_18 0 rfl) ?_
      refine lv_iadd hx hb dL_balances_43 ?_
      refine W.eq (g2 := F0 m 44 ls [.int (nI ((6 * cc) + (i_8 % 6))), .ref (ad (3, 0, 0)), .long (wlL I L cc 6)]) (by rw [show ((6 * (nI cc)) + (nI (i_8 % 6)) : Int32) = nI ((6 * cc) + (i_8 % 6)) from (zi_add (zi_mul rfl rfl) rfl)]) ?_
      refine la_ild C hH_14 3 rfl (by decide) (j := ((6 * cc) + (i_8 % 6))) rfl (show ((6 * cc) + (i_8 % 6)) < 18 by omega) dL_balances_44 ?_
      refine lv_i2l (v := Int32.toInt64 (((baS dy cc (wlL I L cc 6) (nt, I, L) i_8).2.1) 3 ((6 * cc) + (i_8 % 6)))) hx hb dL_balances_45 rfl ?_
      refine lv_lmul hx hb dL_balances_46 ?_
      refine lv_ldc2 (v := 100) hx hb hown (hts (.constantLong RL 71 100) (by decide +kernel)) dL_balances_47 ?_
      refine lv_ldiv hx hb dL_balances_50 (by decide) ?_
      refine lv_lstore (lv' := [(14, .long (((wlL I L cc 6) * (Int32.toInt64 (((baS dy cc (wlL I L cc 6) (nt, I, L) i_8).2.1) 3 ((6 * cc) + (i_8 % 6))))) / 100)), (13, .int (nI (i_8 % 6))), (0, .ref (ad (0, 0, 0))), (1, .ref (ad (1, 0, 0))), (2, .ref (ad (2, 0, 0))), (3, .ref (ad (3, 0, 0))), (4, .ref (ad (4, 0, 0))), (5, .ref (ad (5, 0, 0))), (6, .ref (ad (6, 0, 0))), (7, .ref (ad (10, 0, 0))), (8, .int (nI cc)), (9, .int (nI nt)), (10, .long (wlL I L cc 6)), (12, .int (nI i_8))]) hx hb dL_balances_51 hl_18 (by decide) rfl (fun ls hl_19 => ?_)
      refine lv_aload_n hx hb dL_balances_53 rfl (lv_at hl_19 4 rfl) ?_
      refine lv_bipush (v := 6) hx hb dL_balances_54 (by decide) ?_
      refine lv_iload hx hb dL_balances_56 (lv_at hl_19 10 rfl) ?_
      refine lv_imul hx hb dL_balances_58 ?_
      refine lv_iload hx hb dL_balances_59 (lv_at hl_19 1 rfl) ?_
      refine lv_iadd hx hb dL_balances_61 ?_
      refine W.eq (g2 := F0 m 62 ls [.int (nI ((6 * cc) + (i_8 % 6))), .ref (ad (2, 0, 0))]) (by rw [show ((6 * (nI cc)) + (nI (i_8 % 6)) : Int32) = nI ((6 * cc) + (i_8 % 6)) from (zi_add (zi_mul rfl rfl) rfl)]) ?_
      refine la_lld C hH_14 2 rfl (by decide) (j := ((6 * cc) + (i_8 % 6))) rfl (show ((6 * cc) + (i_8 % 6)) < 18 by omega) dL_balances_62 ?_
      refine lv_aload_n hx hb dL_balances_63 rfl (lv_at hl_19 2 rfl) ?_
      refine lv_iload hx hb dL_balances_64 (lv_at hl_19 1 rfl) ?_
      refine la_ild C hH_14 0 rfl (by decide) (j := (i_8 % 6)) rfl (show (i_8 % 6) < 6 by omega) dL_balances_66 ?_
      refine lv_i2l (v := Int32.toInt64 (((baS dy cc (wlL I L cc 6) (nt, I, L) i_8).2.1) 0 (i_8 % 6))) hx hb dL_balances_67 rfl ?_
      refine lv_lmul hx hb dL_balances_68 ?_
      refine lv_ldc2 (v := 1000) hx hb hown (hts (.constantLong RL 81 1000) (by decide +kernel)) dL_balances_69 ?_
      refine lv_ldiv hx hb dL_balances_72 (by decide) ?_
      refine lv_lload hx hb dL_balances_73 (lv_at hl_19 0 rfl) ?_
      refine lv_lsub hx hb dL_balances_75 ?_
      refine lv_lstore (lv' := [(16, .long ((((((baS dy cc (wlL I L cc 6) (nt, I, L) i_8).2.2) 2 ((6 * cc) + (i_8 % 6))) * (Int32.toInt64 (((baS dy cc (wlL I L cc 6) (nt, I, L) i_8).2.1) 0 (i_8 % 6)))) / 1000) - (((wlL I L cc 6) * (Int32.toInt64 (((baS dy cc (wlL I L cc 6) (nt, I, L) i_8).2.1) 3 ((6 * cc) + (i_8 % 6))))) / 100))), (14, .long (((wlL I L cc 6) * (Int32.toInt64 (((baS dy cc (wlL I L cc 6) (nt, I, L) i_8).2.1) 3 ((6 * cc) + (i_8 % 6))))) / 100)), (13, .int (nI (i_8 % 6))), (0, .ref (ad (0, 0, 0))), (1, .ref (ad (1, 0, 0))), (2, .ref (ad (2, 0, 0))), (3, .ref (ad (3, 0, 0))), (4, .ref (ad (4, 0, 0))), (5, .ref (ad (5, 0, 0))), (6, .ref (ad (6, 0, 0))), (7, .ref (ad (10, 0, 0))), (8, .int (nI cc)), (9, .int (nI nt)), (10, .long (wlL I L cc 6)), (12, .int (nI i_8))]) hx hb dL_balances_76 hl_19 (by decide) rfl (fun ls hl_20 => ?_)
      have hl_21 : lv_has ls 24 [(16, .long (apL (baS dy cc (wlL I L cc 6) (nt, I, L) i_8).2.1 (baS dy cc (wlL I L cc 6) (nt, I, L) i_8).2.2 cc (wlL I L cc 6) (i_8 % 6))), (14, .long (((wlL I L cc 6) * (Int32.toInt64 (((baS dy cc (wlL I L cc 6) (nt, I, L) i_8).2.1) 3 ((6 * cc) + (i_8 % 6))))) / 100)), (13, .int (nI (i_8 % 6))), (0, .ref (ad (0, 0, 0))), (1, .ref (ad (1, 0, 0))), (2, .ref (ad (2, 0, 0))), (3, .ref (ad (3, 0, 0))), (4, .ref (ad (4, 0, 0))), (5, .ref (ad (5, 0, 0))), (6, .ref (ad (6, 0, 0))), (7, .ref (ad (10, 0, 0))), (8, .int (nI cc)), (9, .int (nI nt)), (10, .long (wlL I L cc 6)), (12, .int (nI i_8))] := hl_20
      refine lv_iload hx hb dL_balances_78 (lv_at hl_21 14 rfl) ?_
      refine lv_bipush (v := 6) hx hb dL_balances_80 (by decide) ?_
      refine lv_icmp_ge (tgt := 150) hx hb dL_balances_82 (by decide) (fun c_22 => absurd ((nI_leI (by decide) (by omega)).mp c_22) (Nat.not_le.mpr hk)) (fun c_22 => ?_)
      refine lv_lload hx hb dL_balances_85 (lv_at hl_21 0 rfl) ?_
      refine lv_lconst (v := 0) hx hb dL_balances_87 (by decide) ?_
      refine zl_cmp_le (tgt := 150) hx hb dL_balances_88 dL_balances_89 (by decide) (fun c_23 => ?_) (fun c_23 => ?_)
      · refine lv_iload hx hb dL_balances_150 (lv_at hl_21 14 rfl) ?_
        refine lv_iconst (v := 5) hx hb dL_balances_152 (by decide) ?_
        refine lv_icmp_le (tgt := 257) hx hb dL_balances_153 (by decide) (fun c_24 => ?_) (fun c_24 => absurd (show nI i_8 ≤ nI 5 from nI_le (by omega) (by decide)) c_24)
        refine lv_iinc (v := nI (i_8 + 1)) (lv' := [(12, .int (nI (i_8 + 1))), (16, .long (apL (baS dy cc (wlL I L cc 6) (nt, I, L) i_8).2.1 (baS dy cc (wlL I L cc 6) (nt, I, L) i_8).2.2 cc (wlL I L cc 6) (i_8 % 6))), (14, .long (((wlL I L cc 6) * (Int32.toInt64 (((baS dy cc (wlL I L cc 6) (nt, I, L) i_8).2.1) 3 ((6 * cc) + (i_8 % 6))))) / 100)), (13, .int (nI (i_8 % 6))), (0, .ref (ad (0, 0, 0))), (1, .ref (ad (1, 0, 0))), (2, .ref (ad (2, 0, 0))), (3, .ref (ad (3, 0, 0))), (4, .ref (ad (4, 0, 0))), (5, .ref (ad (5, 0, 0))), (6, .ref (ad (6, 0, 0))), (7, .ref (ad (10, 0, 0))), (8, .int (nI cc)), (9, .int (nI nt)), (10, .long (wlL I L cc 6))]) hx hb dL_balances_257 hl_21 (k := 14) rfl (nI_1 i_8) (by decide) rfl (fun ls hl_25 => ?_)
        refine lv_goto (tgt := 19) hx hb dL_balances_260 (by decide) ?_
        have es : baS dy cc (wlL I L cc 6) (nt, I, L) (i_8 + 1) = _ := baT_s1 hk c_23
        exact ih_9 _ _ _ (by rw [es]; exact hH_14) hS_15 (lv_sub hl_25 [4, 5, 6, 7, 8, 9, 10, 11, 12, 13, 14, 0] rfl)
      · refine lv_lload hx hb dL_balances_92 (lv_at hl_21 0 rfl) ?_
        refine lv_ldc2 (v := 1000) hx hb hown (hts (.constantLong RL 81 1000) (by decide +kernel)) dL_balances_94 ?_
        refine lv_lmul hx hb dL_balances_97 ?_
        refine lv_aload_n hx hb dL_balances_98 rfl (lv_at hl_21 3 rfl) ?_
        refine lv_iload hx hb dL_balances_99 (lv_at hl_21 2 rfl) ?_
        refine la_ild C hH_14 0 rfl (by decide) (j := (i_8 % 6)) rfl (show (i_8 % 6) < 6 by omega) dL_balances_101 ?_
        refine lv_i2l (v := Int32.toInt64 (((baS dy cc (wlL I L cc 6) (nt, I, L) i_8).2.1) 0 (i_8 % 6))) hx hb dL_balances_102 rfl ?_
        refine lv_ldiv hx hb dL_balances_103 (hpk (i_8 % 6) (by omega)) ?_
        refine lv_lstore (lv' := [(18, .long (((apL (baS dy cc (wlL I L cc 6) (nt, I, L) i_8).2.1 (baS dy cc (wlL I L cc 6) (nt, I, L) i_8).2.2 cc (wlL I L cc 6) (i_8 % 6)) * 1000) / (Int32.toInt64 (((baS dy cc (wlL I L cc 6) (nt, I, L) i_8).2.1) 0 (i_8 % 6))))), (16, .long (apL (baS dy cc (wlL I L cc 6) (nt, I, L) i_8).2.1 (baS dy cc (wlL I L cc 6) (nt, I, L) i_8).2.2 cc (wlL I L cc 6) (i_8 % 6))), (14, .long (((wlL I L cc 6) * (Int32.toInt64 (((baS dy cc (wlL I L cc 6) (nt, I, L) i_8).2.1) 3 ((6 * cc) + (i_8 % 6))))) / 100)), (13, .int (nI (i_8 % 6))), (0, .ref (ad (0, 0, 0))), (1, .ref (ad (1, 0, 0))), (2, .ref (ad (2, 0, 0))), (3, .ref (ad (3, 0, 0))), (4, .ref (ad (4, 0, 0))), (5, .ref (ad (5, 0, 0))), (6, .ref (ad (6, 0, 0))), (7, .ref (ad (10, 0, 0))), (8, .int (nI cc)), (9, .int (nI nt)), (10, .long (wlL I L cc 6)), (12, .int (nI i_8))]) hx hb dL_balances_104 hl_21 (by decide) rfl (fun ls hl_26 => ?_)
        have hl_27 : lv_has ls 24 [(18, .long (sqL (baS dy cc (wlL I L cc 6) (nt, I, L) i_8).2.1 (baS dy cc (wlL I L cc 6) (nt, I, L) i_8).2.2 cc (wlL I L cc 6) (i_8 % 6))), (16, .long (apL (baS dy cc (wlL I L cc 6) (nt, I, L) i_8).2.1 (baS dy cc (wlL I L cc 6) (nt, I, L) i_8).2.2 cc (wlL I L cc 6) (i_8 % 6))), (14, .long (((wlL I L cc 6) * (Int32.toInt64 (((baS dy cc (wlL I L cc 6) (nt, I, L) i_8).2.1) 3 ((6 * cc) + (i_8 % 6))))) / 100)), (13, .int (nI (i_8 % 6))), (0, .ref (ad (0, 0, 0))), (1, .ref (ad (1, 0, 0))), (2, .ref (ad (2, 0, 0))), (3, .ref (ad (3, 0, 0))), (4, .ref (ad (4, 0, 0))), (5, .ref (ad (5, 0, 0))), (6, .ref (ad (6, 0, 0))), (7, .ref (ad (10, 0, 0))), (8, .int (nI cc)), (9, .int (nI nt)), (10, .long (wlL I L cc 6)), (12, .int (nI i_8))] := hl_26
        refine lv_lload hx hb dL_balances_106 (lv_at hl_27 0 rfl) ?_
        refine lv_aload_n hx hb dL_balances_108 rfl (lv_at hl_27 4 rfl) ?_
        refine lv_iload hx hb dL_balances_109 (lv_at hl_27 3 rfl) ?_
        refine la_ild C hH_14 0 rfl (by decide) (j := (i_8 % 6)) rfl (show (i_8 % 6) < 6 by omega) dL_balances_111 ?_
        refine lv_i2l (v := Int32.toInt64 (((baS dy cc (wlL I L cc 6) (nt, I, L) i_8).2.1) 0 (i_8 % 6))) hx hb dL_balances_112 rfl ?_
        refine lv_lmul hx hb dL_balances_113 ?_
        refine lv_ldc2 (v := 1000) hx hb hown (hts (.constantLong RL 81 1000) (by decide +kernel)) dL_balances_114 ?_
        refine lv_ldiv hx hb dL_balances_117 (by decide) ?_
        refine lv_lstore (lv' := [(20, .long (((sqL (baS dy cc (wlL I L cc 6) (nt, I, L) i_8).2.1 (baS dy cc (wlL I L cc 6) (nt, I, L) i_8).2.2 cc (wlL I L cc 6) (i_8 % 6)) * (Int32.toInt64 (((baS dy cc (wlL I L cc 6) (nt, I, L) i_8).2.1) 0 (i_8 % 6)))) / 1000)), (18, .long (sqL (baS dy cc (wlL I L cc 6) (nt, I, L) i_8).2.1 (baS dy cc (wlL I L cc 6) (nt, I, L) i_8).2.2 cc (wlL I L cc 6) (i_8 % 6))), (16, .long (apL (baS dy cc (wlL I L cc 6) (nt, I, L) i_8).2.1 (baS dy cc (wlL I L cc 6) (nt, I, L) i_8).2.2 cc (wlL I L cc 6) (i_8 % 6))), (14, .long (((wlL I L cc 6) * (Int32.toInt64 (((baS dy cc (wlL I L cc 6) (nt, I, L) i_8).2.1) 3 ((6 * cc) + (i_8 % 6))))) / 100)), (13, .int (nI (i_8 % 6))), (0, .ref (ad (0, 0, 0))), (1, .ref (ad (1, 0, 0))), (2, .ref (ad (2, 0, 0))), (3, .ref (ad (3, 0, 0))), (4, .ref (ad (4, 0, 0))), (5, .ref (ad (5, 0, 0))), (6, .ref (ad (6, 0, 0))), (7, .ref (ad (10, 0, 0))), (8, .int (nI cc)), (9, .int (nI nt)), (10, .long (wlL I L cc 6)), (12, .int (nI i_8))]) hx hb dL_balances_118 hl_27 (by decide) rfl (fun ls hl_28 => ?_)
        have hl_29 : lv_has ls 24 [(20, .long (sxL (baS dy cc (wlL I L cc 6) (nt, I, L) i_8).2.1 (baS dy cc (wlL I L cc 6) (nt, I, L) i_8).2.2 cc (wlL I L cc 6) (i_8 % 6))), (18, .long (sqL (baS dy cc (wlL I L cc 6) (nt, I, L) i_8).2.1 (baS dy cc (wlL I L cc 6) (nt, I, L) i_8).2.2 cc (wlL I L cc 6) (i_8 % 6))), (16, .long (apL (baS dy cc (wlL I L cc 6) (nt, I, L) i_8).2.1 (baS dy cc (wlL I L cc 6) (nt, I, L) i_8).2.2 cc (wlL I L cc 6) (i_8 % 6))), (14, .long (((wlL I L cc 6) * (Int32.toInt64 (((baS dy cc (wlL I L cc 6) (nt, I, L) i_8).2.1) 3 ((6 * cc) + (i_8 % 6))))) / 100)), (13, .int (nI (i_8 % 6))), (0, .ref (ad (0, 0, 0))), (1, .ref (ad (1, 0, 0))), (2, .ref (ad (2, 0, 0))), (3, .ref (ad (3, 0, 0))), (4, .ref (ad (4, 0, 0))), (5, .ref (ad (5, 0, 0))), (6, .ref (ad (6, 0, 0))), (7, .ref (ad (10, 0, 0))), (8, .int (nI cc)), (9, .int (nI nt)), (10, .long (wlL I L cc 6)), (12, .int (nI i_8))] := hl_28
        refine lv_lload hx hb dL_balances_120 (lv_at hl_29 0 rfl) ?_
        refine lv_lconst (v := 0) hx hb dL_balances_122 (by decide) ?_
        refine zl_cmp_le (tgt := 150) hx hb dL_balances_123 dL_balances_124 (by decide) (fun c_30 => ?_) (fun c_30 => ?_)
        · refine lv_iload hx hb dL_balances_150 (lv_at hl_29 16 rfl) ?_
          refine lv_iconst (v := 5) hx hb dL_balances_152 (by decide) ?_
          refine lv_icmp_le (tgt := 257) hx hb dL_balances_153 (by decide) (fun c_31 => ?_) (fun c_31 => absurd (show nI i_8 ≤ nI 5 from nI_le (by omega) (by decide)) c_31)
          refine lv_iinc (v := nI (i_8 + 1)) (lv' := [(12, .int (nI (i_8 + 1))), (20, .long (sxL (baS dy cc (wlL I L cc 6) (nt, I, L) i_8).2.1 (baS dy cc (wlL I L cc 6) (nt, I, L) i_8).2.2 cc (wlL I L cc 6) (i_8 % 6))), (18, .long (sqL (baS dy cc (wlL I L cc 6) (nt, I, L) i_8).2.1 (baS dy cc (wlL I L cc 6) (nt, I, L) i_8).2.2 cc (wlL I L cc 6) (i_8 % 6))), (16, .long (apL (baS dy cc (wlL I L cc 6) (nt, I, L) i_8).2.1 (baS dy cc (wlL I L cc 6) (nt, I, L) i_8).2.2 cc (wlL I L cc 6) (i_8 % 6))), (14, .long (((wlL I L cc 6) * (Int32.toInt64 (((baS dy cc (wlL I L cc 6) (nt, I, L) i_8).2.1) 3 ((6 * cc) + (i_8 % 6))))) / 100)), (13, .int (nI (i_8 % 6))), (0, .ref (ad (0, 0, 0))), (1, .ref (ad (1, 0, 0))), (2, .ref (ad (2, 0, 0))), (3, .ref (ad (3, 0, 0))), (4, .ref (ad (4, 0, 0))), (5, .ref (ad (5, 0, 0))), (6, .ref (ad (6, 0, 0))), (7, .ref (ad (10, 0, 0))), (8, .int (nI cc)), (9, .int (nI nt)), (10, .long (wlL I L cc 6))]) hx hb dL_balances_257 hl_29 (k := 16) rfl (nI_1 i_8) (by decide) rfl (fun ls hl_32 => ?_)
          refine lv_goto (tgt := 19) hx hb dL_balances_260 (by decide) ?_
          have es : baS dy cc (wlL I L cc 6) (nt, I, L) (i_8 + 1) = _ := baT_s2 hk c_30
          exact ih_9 _ _ _ (by rw [es]; exact hH_14) hS_15 (lv_sub hl_32 [6, 7, 8, 9, 10, 11, 12, 13, 14, 15, 16, 0] rfl)
        · refine lv_aload_n hx hb dL_balances_127 rfl (lv_at hl_29 5 rfl) ?_
          refine lv_aload_n hx hb dL_balances_128 rfl (lv_at hl_29 6 rfl) ?_
          refine lv_aload_n hx hb dL_balances_129 rfl (lv_at hl_29 7 rfl) ?_
          refine lv_aload hx hb dL_balances_130 (lv_at hl_29 9 rfl) ?_
          refine lv_aload hx hb dL_balances_132 (lv_at hl_29 10 rfl) ?_
          refine lv_aload hx hb dL_balances_134 (lv_at hl_29 11 rfl) ?_
          refine lv_aload hx hb dL_balances_136 (lv_at hl_29 12 rfl) ?_
          refine lv_iload hx hb dL_balances_138 (lv_at hl_29 13 rfl) ?_
          refine lv_iload hx hb dL_balances_140 (lv_at hl_29 4 rfl) ?_
          refine lv_lload hx hb dL_balances_142 (lv_at hl_29 1 rfl) ?_
          refine lv_lneg hx hb dL_balances_144 ?_
          refine lv_lload hx hb dL_balances_145 (lv_at hl_29 0 rfl) ?_
          refine zk_cv (zk_rS (As := [.ref (ad (0, 0, 0)), .ref (ad (1, 0, 0)), .ref (ad (2, 0, 0)), .ref (ad (4, 0, 0)), .ref (ad (5, 0, 0)), .ref (ad (6, 0, 0)), .ref (ad (10, 0, 0)), .int (nI cc), .int (nI (i_8 % 6)), .long (-(sqL (baS dy cc (wlL I L cc 6) (nt, I, L) i_8).2.1 (baS dy cc (wlL I L cc 6) (nt, I, L) i_8).2.2 cc (wlL I L cc 6) (i_8 % 6))), .long (sxL (baS dy cc (wlL I L cc 6) (nt, I, L) i_8).2.1 (baS dy cc (wlL I L cc 6) (nt, I, L) i_8).2.2 cc (wlL I L cc 6) (i_8 % 6))]) (rest := []) (n := 11) (w := aw cA ad ((baS dy cc (wlL I L cc 6) (nt, I, L) i_8).2.1) ((baS dy cc (wlL I L cc 6) (nt, I, L) i_8).2.2)) C (cH_trades l D cA A g ad ((baS dy cc (wlL I L cc 6) (nt, I, L) i_8).2.1) ((baS dy cc (wlL I L cc 6) (nt, I, L) i_8).2.2) (baS dy cc (wlL I L cc 6) (nt, I, L) i_8).1 dy cc (i_8 % 6) (-(sqL (baS dy cc (wlL I L cc 6) (nt, I, L) i_8).2.1 (baS dy cc (wlL I L cc 6) (nt, I, L) i_8).2.2 cc (wlL I L cc 6) (i_8 % 6))) (sxL (baS dy cc (wlL I L cc 6) (nt, I, L) i_8).2.1 (baS dy cc (wlL I L cc 6) (nt, I, L) i_8).2.2 cc (wlL I L cc 6) (i_8 % 6)) b3 b4 (by omega) (by omega) (by omega)) hH_14 hS_15 gL_balances_L_trades rfl rfl (by decide +kernel) ⟨Nat.le_of_ble_eq_true rfl, Nat.le_of_ble_eq_true rfl⟩ hl_29 rfl (Nat.le_of_ble_eq_true rfl) dL_balances_147 ⟨Nat.le_of_ble_eq_true rfl, Nat.le_of_ble_eq_true rfl⟩) hS_15 (fun w_34 H locs hP hH_35 hS_36 => ?_)
          subst hP
          refine lv_iload hx hb dL_balances_150 (lv_at hl_29 16 rfl) ?_
          refine lv_iconst (v := 5) hx hb dL_balances_152 (by decide) ?_
          refine lv_icmp_le (tgt := 257) hx hb dL_balances_153 (by decide) (fun c_37 => ?_) (fun c_37 => absurd (show nI i_8 ≤ nI 5 from nI_le (by omega) (by decide)) c_37)
          refine lv_iinc (v := nI (i_8 + 1)) (lv' := [(12, .int (nI (i_8 + 1))), (20, .long (sxL (baS dy cc (wlL I L cc 6) (nt, I, L) i_8).2.1 (baS dy cc (wlL I L cc 6) (nt, I, L) i_8).2.2 cc (wlL I L cc 6) (i_8 % 6))), (18, .long (sqL (baS dy cc (wlL I L cc 6) (nt, I, L) i_8).2.1 (baS dy cc (wlL I L cc 6) (nt, I, L) i_8).2.2 cc (wlL I L cc 6) (i_8 % 6))), (16, .long (apL (baS dy cc (wlL I L cc 6) (nt, I, L) i_8).2.1 (baS dy cc (wlL I L cc 6) (nt, I, L) i_8).2.2 cc (wlL I L cc 6) (i_8 % 6))), (14, .long (((wlL I L cc 6) * (Int32.toInt64 (((baS dy cc (wlL I L cc 6) (nt, I, L) i_8).2.1) 3 ((6 * cc) + (i_8 % 6))))) / 100)), (13, .int (nI (i_8 % 6))), (0, .ref (ad (0, 0, 0))), (1, .ref (ad (1, 0, 0))), (2, .ref (ad (2, 0, 0))), (3, .ref (ad (3, 0, 0))), (4, .ref (ad (4, 0, 0))), (5, .ref (ad (5, 0, 0))), (6, .ref (ad (6, 0, 0))), (7, .ref (ad (10, 0, 0))), (8, .int (nI cc)), (9, .int (nI nt)), (10, .long (wlL I L cc 6))]) hx hb dL_balances_257 hl_29 (k := 16) rfl (nI_1 i_8) (by decide) rfl (fun ls hl_38 => ?_)
          refine lv_goto (tgt := 19) hx hb dL_balances_260 (by decide) ?_
          have es : baS dy cc (wlL I L cc 6) (nt, I, L) (i_8 + 1) = _ := baT_sp hk c_23 c_30
          exact ih_9 _ _ _ (by rw [es]; exact hH_35) hS_36 (lv_sub hl_38 [6, 7, 8, 9, 10, 11, 12, 13, 14, 15, 16, 0] rfl)
    · refine lv_iload hx hb dL_balances_26 (lv_at hl_16 11 rfl) ?_
      refine lv_bipush (v := 6) hx hb dL_balances_28 (by decide) ?_
      refine lv_irem hx hb dL_balances_30 (by decide) ?_
      refine W.eq (g2 := F0 m 31 ls [.int (nI (i_8 % 6))]) (by rw [show ((nI i_8) - (nI i_8) / 6 * 6 : Int32) = nI (i_8 % 6) from (zi_rem rfl (b := 6) rfl (by omega) (by decide) (by decide))]) ?_
      refine lv_istore (lv' := [(13, .int (nI (i_8 % 6))), (0, .ref (ad (0, 0, 0))), (1, .ref (ad (1, 0, 0))), (2, .ref (ad (2, 0, 0))), (3, .ref (ad (3, 0, 0))), (4, .ref (ad (4, 0, 0))), (5, .ref (ad (5, 0, 0))), (6, .ref (ad (6, 0, 0))), (7, .ref (ad (10, 0, 0))), (8, .int (nI cc)), (9, .int (nI nt)), (10, .long (wlL I L cc 6)), (12, .int (nI i_8))]) hx hb dL_balances_31 hl_16 (by decide) rfl (fun ls hl_39 => ?_)
      refine lv_lload hx hb dL_balances_33 (lv_at hl_39 11 rfl) ?_
      refine lv_aload_n hx hb dL_balances_35 rfl (lv_at hl_39 4 rfl) ?_
      refine lv_bipush (v := 6) hx hb dL_balances_36 (by decide) ?_
      refine lv_iload hx hb dL_balances_38 (lv_at hl_39 9 rfl) ?_
      refine lv_imul hx hb dL_balances_40 ?_
      refine lv_iload hx hb dL_balances_41 (lv_at hl_39 0 rfl) ?_
      refine lv_iadd hx hb dL_balances_43 ?_
      refine W.eq (g2 := F0 m 44 ls [.int (nI ((6 * cc) + (i_8 % 6))), .ref (ad (3, 0, 0)), .long (wlL I L cc 6)]) (by rw [show ((6 * (nI cc)) + (nI (i_8 % 6)) : Int32) = nI ((6 * cc) + (i_8 % 6)) from (zi_add (zi_mul rfl rfl) rfl)]) ?_
      refine la_ild C hH_14 3 rfl (by decide) (j := ((6 * cc) + (i_8 % 6))) rfl (show ((6 * cc) + (i_8 % 6)) < 18 by omega) dL_balances_44 ?_
      refine lv_i2l (v := Int32.toInt64 (((baS dy cc (wlL I L cc 6) (nt, I, L) i_8).2.1) 3 ((6 * cc) + (i_8 % 6)))) hx hb dL_balances_45 rfl ?_
      refine lv_lmul hx hb dL_balances_46 ?_
      refine lv_ldc2 (v := 100) hx hb hown (hts (.constantLong RL 71 100) (by decide +kernel)) dL_balances_47 ?_
      refine lv_ldiv hx hb dL_balances_50 (by decide) ?_
      refine lv_lstore (lv' := [(14, .long (((wlL I L cc 6) * (Int32.toInt64 (((baS dy cc (wlL I L cc 6) (nt, I, L) i_8).2.1) 3 ((6 * cc) + (i_8 % 6))))) / 100)), (13, .int (nI (i_8 % 6))), (0, .ref (ad (0, 0, 0))), (1, .ref (ad (1, 0, 0))), (2, .ref (ad (2, 0, 0))), (3, .ref (ad (3, 0, 0))), (4, .ref (ad (4, 0, 0))), (5, .ref (ad (5, 0, 0))), (6, .ref (ad (6, 0, 0))), (7, .ref (ad (10, 0, 0))), (8, .int (nI cc)), (9, .int (nI nt)), (10, .long (wlL I L cc 6)), (12, .int (nI i_8))]) hx hb dL_balances_51 hl_39 (by decide) rfl (fun ls hl_40 => ?_)
      refine lv_aload_n hx hb dL_balances_53 rfl (lv_at hl_40 4 rfl) ?_
      refine lv_bipush (v := 6) hx hb dL_balances_54 (by decide) ?_
      refine lv_iload hx hb dL_balances_56 (lv_at hl_40 10 rfl) ?_
      refine lv_imul hx hb dL_balances_58 ?_
      refine lv_iload hx hb dL_balances_59 (lv_at hl_40 1 rfl) ?_
      refine lv_iadd hx hb dL_balances_61 ?_
      refine W.eq (g2 := F0 m 62 ls [.int (nI ((6 * cc) + (i_8 % 6))), .ref (ad (2, 0, 0))]) (by rw [show ((6 * (nI cc)) + (nI (i_8 % 6)) : Int32) = nI ((6 * cc) + (i_8 % 6)) from (zi_add (zi_mul rfl rfl) rfl)]) ?_
      refine la_lld C hH_14 2 rfl (by decide) (j := ((6 * cc) + (i_8 % 6))) rfl (show ((6 * cc) + (i_8 % 6)) < 18 by omega) dL_balances_62 ?_
      refine lv_aload_n hx hb dL_balances_63 rfl (lv_at hl_40 2 rfl) ?_
      refine lv_iload hx hb dL_balances_64 (lv_at hl_40 1 rfl) ?_
      refine la_ild C hH_14 0 rfl (by decide) (j := (i_8 % 6)) rfl (show (i_8 % 6) < 6 by omega) dL_balances_66 ?_
      refine lv_i2l (v := Int32.toInt64 (((baS dy cc (wlL I L cc 6) (nt, I, L) i_8).2.1) 0 (i_8 % 6))) hx hb dL_balances_67 rfl ?_
      refine lv_lmul hx hb dL_balances_68 ?_
      refine lv_ldc2 (v := 1000) hx hb hown (hts (.constantLong RL 81 1000) (by decide +kernel)) dL_balances_69 ?_
      refine lv_ldiv hx hb dL_balances_72 (by decide) ?_
      refine lv_lload hx hb dL_balances_73 (lv_at hl_40 0 rfl) ?_
      refine lv_lsub hx hb dL_balances_75 ?_
      refine lv_lstore (lv' := [(16, .long ((((((baS dy cc (wlL I L cc 6) (nt, I, L) i_8).2.2) 2 ((6 * cc) + (i_8 % 6))) * (Int32.toInt64 (((baS dy cc (wlL I L cc 6) (nt, I, L) i_8).2.1) 0 (i_8 % 6)))) / 1000) - (((wlL I L cc 6) * (Int32.toInt64 (((baS dy cc (wlL I L cc 6) (nt, I, L) i_8).2.1) 3 ((6 * cc) + (i_8 % 6))))) / 100))), (14, .long (((wlL I L cc 6) * (Int32.toInt64 (((baS dy cc (wlL I L cc 6) (nt, I, L) i_8).2.1) 3 ((6 * cc) + (i_8 % 6))))) / 100)), (13, .int (nI (i_8 % 6))), (0, .ref (ad (0, 0, 0))), (1, .ref (ad (1, 0, 0))), (2, .ref (ad (2, 0, 0))), (3, .ref (ad (3, 0, 0))), (4, .ref (ad (4, 0, 0))), (5, .ref (ad (5, 0, 0))), (6, .ref (ad (6, 0, 0))), (7, .ref (ad (10, 0, 0))), (8, .int (nI cc)), (9, .int (nI nt)), (10, .long (wlL I L cc 6)), (12, .int (nI i_8))]) hx hb dL_balances_76 hl_40 (by decide) rfl (fun ls hl_41 => ?_)
      have hl_42 : lv_has ls 24 [(16, .long (apL (baS dy cc (wlL I L cc 6) (nt, I, L) i_8).2.1 (baS dy cc (wlL I L cc 6) (nt, I, L) i_8).2.2 cc (wlL I L cc 6) (i_8 % 6))), (14, .long (((wlL I L cc 6) * (Int32.toInt64 (((baS dy cc (wlL I L cc 6) (nt, I, L) i_8).2.1) 3 ((6 * cc) + (i_8 % 6))))) / 100)), (13, .int (nI (i_8 % 6))), (0, .ref (ad (0, 0, 0))), (1, .ref (ad (1, 0, 0))), (2, .ref (ad (2, 0, 0))), (3, .ref (ad (3, 0, 0))), (4, .ref (ad (4, 0, 0))), (5, .ref (ad (5, 0, 0))), (6, .ref (ad (6, 0, 0))), (7, .ref (ad (10, 0, 0))), (8, .int (nI cc)), (9, .int (nI nt)), (10, .long (wlL I L cc 6)), (12, .int (nI i_8))] := hl_41
      refine lv_iload hx hb dL_balances_78 (lv_at hl_42 14 rfl) ?_
      refine lv_bipush (v := 6) hx hb dL_balances_80 (by decide) ?_
      refine lv_icmp_ge (tgt := 150) hx hb dL_balances_82 (by decide) (fun c_43 => ?_) (fun c_43 => absurd (show nI 6 ≤ nI i_8 from nI_le (Nat.le_of_not_lt hk) (by omega)) c_43)
      refine lv_iload hx hb dL_balances_150 (lv_at hl_42 14 rfl) ?_
      refine lv_iconst (v := 5) hx hb dL_balances_152 (by decide) ?_
      refine lv_icmp_le (tgt := 257) hx hb dL_balances_153 (by decide) (fun c_44 => absurd ((nI_leI (by omega) (by decide)).mp (show nI i_8 ≤ nI 5 from c_44)) (by omega)) (fun c_44 => ?_)
      refine lv_lload hx hb dL_balances_156 (lv_at hl_42 0 rfl) ?_
      refine lv_lconst (v := 0) hx hb dL_balances_158 (by decide) ?_
      refine zl_cmp_ge (tgt := 257) hx hb dL_balances_159 dL_balances_160 (by decide) (fun c_45 => ?_) (fun c_45 => ?_)
      · refine lv_iinc (v := nI (i_8 + 1)) (lv' := [(12, .int (nI (i_8 + 1))), (16, .long (apL (baS dy cc (wlL I L cc 6) (nt, I, L) i_8).2.1 (baS dy cc (wlL I L cc 6) (nt, I, L) i_8).2.2 cc (wlL I L cc 6) (i_8 % 6))), (14, .long (((wlL I L cc 6) * (Int32.toInt64 (((baS dy cc (wlL I L cc 6) (nt, I, L) i_8).2.1) 3 ((6 * cc) + (i_8 % 6))))) / 100)), (13, .int (nI (i_8 % 6))), (0, .ref (ad (0, 0, 0))), (1, .ref (ad (1, 0, 0))), (2, .ref (ad (2, 0, 0))), (3, .ref (ad (3, 0, 0))), (4, .ref (ad (4, 0, 0))), (5, .ref (ad (5, 0, 0))), (6, .ref (ad (6, 0, 0))), (7, .ref (ad (10, 0, 0))), (8, .int (nI cc)), (9, .int (nI nt)), (10, .long (wlL I L cc 6))]) hx hb dL_balances_257 hl_42 (k := 14) rfl (nI_1 i_8) (by decide) rfl (fun ls hl_46 => ?_)
        refine lv_goto (tgt := 19) hx hb dL_balances_260 (by decide) ?_
        have es : baS dy cc (wlL I L cc 6) (nt, I, L) (i_8 + 1) = _ := baT_b1 hk c_45
        exact ih_9 _ _ _ (by rw [es]; exact hH_14) hS_15 (lv_sub hl_46 [4, 5, 6, 7, 8, 9, 10, 11, 12, 13, 14, 0] rfl)
      · refine lv_aload_n hx hb dL_balances_163 rfl (lv_at hl_42 4 rfl) ?_
        refine lv_bipush (v := 12) hx hb dL_balances_164 (by decide) ?_
        refine lv_iload hx hb dL_balances_166 (lv_at hl_42 11 rfl) ?_
        refine lv_iadd hx hb dL_balances_168 ?_
        refine W.eq (g2 := F0 m 169 ls [.int (nI (12 + cc)), .ref (ad (1, 0, 0))]) (by rw [show (12 + (nI cc) : Int32) = nI (12 + cc) from (zi_add rfl rfl)]) ?_
        refine la_lld C hH_14 1 rfl (by decide) (j := (12 + cc)) rfl (show (12 + cc) < 16 by omega) dL_balances_169 ?_
        refine lv_aload_n hx hb dL_balances_170 rfl (lv_at hl_42 4 rfl) ?_
        refine lv_bipush (v := 12) hx hb dL_balances_171 (by decide) ?_
        refine lv_iload hx hb dL_balances_173 (lv_at hl_42 11 rfl) ?_
        refine lv_iadd hx hb dL_balances_175 ?_
        refine W.eq (g2 := F0 m 176 ls [.int (nI (12 + cc)), .ref (ad (1, 0, 0)), .long (((baS dy cc (wlL I L cc 6) (nt, I, L) i_8).2.2) 1 (12 + cc))]) (by rw [show (12 + (nI cc) : Int32) = nI (12 + cc) from (zi_add rfl rfl)]) ?_
        refine la_lld C hH_14 1 rfl (by decide) (j := (12 + cc)) rfl (show (12 + cc) < 16 by omega) dL_balances_176 ?_
        refine lv_ldc2 (v := 100) hx hb hown (hts (.constantLong RL 71 100) (by decide +kernel)) dL_balances_177 ?_
        refine lv_ldiv hx hb dL_balances_180 (by decide) ?_
        refine lv_lsub hx hb dL_balances_181 ?_
        refine lv_lstore (lv' := [(18, .long ((((baS dy cc (wlL I L cc 6) (nt, I, L) i_8).2.2) 1 (12 + cc)) - ((((baS dy cc (wlL I L cc 6) (nt, I, L) i_8).2.2) 1 (12 + cc)) / 100))), (16, .long (apL (baS dy cc (wlL I L cc 6) (nt, I, L) i_8).2.1 (baS dy cc (wlL I L cc 6) (nt, I, L) i_8).2.2 cc (wlL I L cc 6) (i_8 % 6))), (14, .long (((wlL I L cc 6) * (Int32.toInt64 (((baS dy cc (wlL I L cc 6) (nt, I, L) i_8).2.1) 3 ((6 * cc) + (i_8 % 6))))) / 100)), (13, .int (nI (i_8 % 6))), (0, .ref (ad (0, 0, 0))), (1, .ref (ad (1, 0, 0))), (2, .ref (ad (2, 0, 0))), (3, .ref (ad (3, 0, 0))), (4, .ref (ad (4, 0, 0))), (5, .ref (ad (5, 0, 0))), (6, .ref (ad (6, 0, 0))), (7, .ref (ad (10, 0, 0))), (8, .int (nI cc)), (9, .int (nI nt)), (10, .long (wlL I L cc 6)), (12, .int (nI i_8))]) hx hb dL_balances_182 hl_42 (by decide) rfl (fun ls hl_47 => ?_)
        refine z_join (nL := 24) (D := D) (A := A) (w := aw cA ad ((baS dy cc (wlL I L cc 6) (nt, I, L) i_8).2.1) ((baS dy cc (wlL I L cc 6) (nt, I, L) i_8).2.2)) (pcj := 201) (lc := [(18, .long ((((baS dy cc (wlL I L cc 6) (nt, I, L) i_8).2.2) 1 (12 + cc)) - ((((baS dy cc (wlL I L cc 6) (nt, I, L) i_8).2.2) 1 (12 + cc)) / 100))), (16, .long (apL (baS dy cc (wlL I L cc 6) (nt, I, L) i_8).2.1 (baS dy cc (wlL I L cc 6) (nt, I, L) i_8).2.2 cc (wlL I L cc 6) (i_8 % 6))), (14, .long (((wlL I L cc 6) * (Int32.toInt64 (((baS dy cc (wlL I L cc 6) (nt, I, L) i_8).2.1) 3 ((6 * cc) + (i_8 % 6))))) / 100)), (13, .int (nI (i_8 % 6))), (0, .ref (ad (0, 0, 0))), (1, .ref (ad (1, 0, 0))), (2, .ref (ad (2, 0, 0))), (3, .ref (ad (3, 0, 0))), (4, .ref (ad (4, 0, 0))), (5, .ref (ad (5, 0, 0))), (6, .ref (ad (6, 0, 0))), (7, .ref (ad (10, 0, 0))), (8, .int (nI cc)), (9, .int (nI nt)), (10, .long (wlL I L cc 6)), (12, .int (nI i_8))]) (st1 := [.long (bxL (baS dy cc (wlL I L cc 6) (nt, I, L) i_8).2.1 (baS dy cc (wlL I L cc 6) (nt, I, L) i_8).2.2 cc (wlL I L cc 6) (i_8 % 6))]) (fun J_48 => ?_) ?_
        · refine lv_lload hx hb dL_balances_184 (lv_at hl_47 1 rfl) ?_
          refine lv_lneg hx hb dL_balances_186 ?_
          refine lv_lload hx hb dL_balances_187 (lv_at hl_47 0 rfl) ?_
          refine zl_cmp_ge (tgt := 199) hx hb dL_balances_189 dL_balances_190 (by decide) (fun c_52 => ?_) (fun c_52 => ?_)
          · refine lv_lload hx hb dL_balances_199 (lv_at hl_47 0 rfl) ?_
            refine W.eq (g2 := F0 m 201 ls [.long (bxL (baS dy cc (wlL I L cc 6) (nt, I, L) i_8).2.1 (baS dy cc (wlL I L cc 6) (nt, I, L) i_8).2.2 cc (wlL I L cc 6) (i_8 % 6))]) (by rw [show (bxL (baS dy cc (wlL I L cc 6) (nt, I, L) i_8).2.1 (baS dy cc (wlL I L cc 6) (nt, I, L) i_8).2.2 cc (wlL I L cc 6) (i_8 % 6) : Int64) = (((baS dy cc (wlL I L cc 6) (nt, I, L) i_8).2.2) 1 (12 + cc)) - ((((baS dy cc (wlL I L cc 6) (nt, I, L) i_8).2.2) 1 (12 + cc)) / 100) from (by unfold bxL; split <;> first | contradiction | rfl)]) ?_
            exact J_48 _ _ _ hH_14 hS_15 (lv_sub hl_47 [0, 1, 2, 3, 4, 5, 6, 7, 8, 9, 10, 11, 12, 13, 14, 15] rfl)
          · refine lv_lload hx hb dL_balances_193 (lv_at hl_47 1 rfl) ?_
            refine lv_lneg hx hb dL_balances_195 ?_
            refine lv_goto (tgt := 201) hx hb dL_balances_196 (by decide) ?_
            refine W.eq (g2 := F0 m 201 ls [.long (bxL (baS dy cc (wlL I L cc 6) (nt, I, L) i_8).2.1 (baS dy cc (wlL I L cc 6) (nt, I, L) i_8).2.2 cc (wlL I L cc 6) (i_8 % 6))]) (by rw [show (bxL (baS dy cc (wlL I L cc 6) (nt, I, L) i_8).2.1 (baS dy cc (wlL I L cc 6) (nt, I, L) i_8).2.2 cc (wlL I L cc 6) (i_8 % 6) : Int64) = -(apL (baS dy cc (wlL I L cc 6) (nt, I, L) i_8).2.1 (baS dy cc (wlL I L cc 6) (nt, I, L) i_8).2.2 cc (wlL I L cc 6) (i_8 % 6)) from (by unfold bxL; split <;> first | contradiction | rfl)]) ?_
            exact J_48 _ _ _ hH_14 hS_15 (lv_sub hl_47 [0, 1, 2, 3, 4, 5, 6, 7, 8, 9, 10, 11, 12, 13, 14, 15] rfl)
        · intro H locs ls hH_49 hS_50 hl_51
          refine lv_lstore (lv' := [(20, .long (bxL (baS dy cc (wlL I L cc 6) (nt, I, L) i_8).2.1 (baS dy cc (wlL I L cc 6) (nt, I, L) i_8).2.2 cc (wlL I L cc 6) (i_8 % 6))), (18, .long ((((baS dy cc (wlL I L cc 6) (nt, I, L) i_8).2.2) 1 (12 + cc)) - ((((baS dy cc (wlL I L cc 6) (nt, I, L) i_8).2.2) 1 (12 + cc)) / 100))), (16, .long (apL (baS dy cc (wlL I L cc 6) (nt, I, L) i_8).2.1 (baS dy cc (wlL I L cc 6) (nt, I, L) i_8).2.2 cc (wlL I L cc 6) (i_8 % 6))), (14, .long (((wlL I L cc 6) * (Int32.toInt64 (((baS dy cc (wlL I L cc 6) (nt, I, L) i_8).2.1) 3 ((6 * cc) + (i_8 % 6))))) / 100)), (13, .int (nI (i_8 % 6))), (0, .ref (ad (0, 0, 0))), (1, .ref (ad (1, 0, 0))), (2, .ref (ad (2, 0, 0))), (3, .ref (ad (3, 0, 0))), (4, .ref (ad (4, 0, 0))), (5, .ref (ad (5, 0, 0))), (6, .ref (ad (6, 0, 0))), (7, .ref (ad (10, 0, 0))), (8, .int (nI cc)), (9, .int (nI nt)), (10, .long (wlL I L cc 6)), (12, .int (nI i_8))]) hx hb dL_balances_201 hl_51 (by decide) rfl (fun ls hl_53 => ?_)
          refine z_join (nL := 24) (D := D) (A := A) (w := aw cA ad ((baS dy cc (wlL I L cc 6) (nt, I, L) i_8).2.1) ((baS dy cc (wlL I L cc 6) (nt, I, L) i_8).2.2)) (pcj := 226) (lc := [(20, .long (bxL (baS dy cc (wlL I L cc 6) (nt, I, L) i_8).2.1 (baS dy cc (wlL I L cc 6) (nt, I, L) i_8).2.2 cc (wlL I L cc 6) (i_8 % 6))), (18, .long ((((baS dy cc (wlL I L cc 6) (nt, I, L) i_8).2.2) 1 (12 + cc)) - ((((baS dy cc (wlL I L cc 6) (nt, I, L) i_8).2.2) 1 (12 + cc)) / 100))), (16, .long (apL (baS dy cc (wlL I L cc 6) (nt, I, L) i_8).2.1 (baS dy cc (wlL I L cc 6) (nt, I, L) i_8).2.2 cc (wlL I L cc 6) (i_8 % 6))), (14, .long (((wlL I L cc 6) * (Int32.toInt64 (((baS dy cc (wlL I L cc 6) (nt, I, L) i_8).2.1) 3 ((6 * cc) + (i_8 % 6))))) / 100)), (13, .int (nI (i_8 % 6))), (0, .ref (ad (0, 0, 0))), (1, .ref (ad (1, 0, 0))), (2, .ref (ad (2, 0, 0))), (3, .ref (ad (3, 0, 0))), (4, .ref (ad (4, 0, 0))), (5, .ref (ad (5, 0, 0))), (6, .ref (ad (6, 0, 0))), (7, .ref (ad (10, 0, 0))), (8, .int (nI cc)), (9, .int (nI nt)), (10, .long (wlL I L cc 6)), (12, .int (nI i_8))]) (st1 := [.long (bqL (baS dy cc (wlL I L cc 6) (nt, I, L) i_8).2.1 (baS dy cc (wlL I L cc 6) (nt, I, L) i_8).2.2 cc (wlL I L cc 6) (i_8 % 6))]) (fun J_54 => ?_) ?_
          · refine lv_lload hx hb dL_balances_203 (lv_at hl_53 0 rfl) ?_
            refine lv_lconst (v := 0) hx hb dL_balances_205 (by decide) ?_
            refine zl_cmp_le (tgt := 225) hx hb dL_balances_206 dL_balances_207 (by decide) (fun c_58 => ?_) (fun c_58 => ?_)
            · refine lv_lconst (v := 0) hx hb dL_balances_225 (by decide) ?_
              refine W.eq (g2 := F0 m 226 ls [.long (bqL (baS dy cc (wlL I L cc 6) (nt, I, L) i_8).2.1 (baS dy cc (wlL I L cc 6) (nt, I, L) i_8).2.2 cc (wlL I L cc 6) (i_8 % 6))]) (by rw [show (bqL (baS dy cc (wlL I L cc 6) (nt, I, L) i_8).2.1 (baS dy cc (wlL I L cc 6) (nt, I, L) i_8).2.2 cc (wlL I L cc 6) (i_8 % 6) : Int64) = 0 from (by unfold bqL; split <;> first | contradiction | rfl)]) ?_
              exact J_54 _ _ _ hH_49 hS_50 (lv_sub hl_53 [0, 1, 2, 3, 4, 5, 6, 7, 8, 9, 10, 11, 12, 13, 14, 15, 16] rfl)
            · refine lv_lload hx hb dL_balances_210 (lv_at hl_53 0 rfl) ?_
              refine lv_ldc2 (v := 1000) hx hb hown (hts (.constantLong RL 81 1000) (by decide +kernel)) dL_balances_212 ?_
              refine lv_lmul hx hb dL_balances_215 ?_
              refine lv_aload_n hx hb dL_balances_216 rfl (lv_at hl_53 5 rfl) ?_
              refine lv_iload hx hb dL_balances_217 (lv_at hl_53 4 rfl) ?_
              refine la_ild C hH_49 0 rfl (by decide) (j := (i_8 % 6)) rfl (show (i_8 % 6) < 6 by omega) dL_balances_219 ?_
              refine lv_i2l (v := Int32.toInt64 (((baS dy cc (wlL I L cc 6) (nt, I, L) i_8).2.1) 0 (i_8 % 6))) hx hb dL_balances_220 rfl ?_
              refine lv_ldiv hx hb dL_balances_221 (hpk (i_8 % 6) (by omega)) ?_
              refine lv_goto (tgt := 226) hx hb dL_balances_222 (by decide) ?_
              refine W.eq (g2 := F0 m 226 ls [.long (bqL (baS dy cc (wlL I L cc 6) (nt, I, L) i_8).2.1 (baS dy cc (wlL I L cc 6) (nt, I, L) i_8).2.2 cc (wlL I L cc 6) (i_8 % 6))]) (by rw [show (bqL (baS dy cc (wlL I L cc 6) (nt, I, L) i_8).2.1 (baS dy cc (wlL I L cc 6) (nt, I, L) i_8).2.2 cc (wlL I L cc 6) (i_8 % 6) : Int64) = ((bxL (baS dy cc (wlL I L cc 6) (nt, I, L) i_8).2.1 (baS dy cc (wlL I L cc 6) (nt, I, L) i_8).2.2 cc (wlL I L cc 6) (i_8 % 6)) * 1000) / (Int32.toInt64 (((baS dy cc (wlL I L cc 6) (nt, I, L) i_8).2.1) 0 (i_8 % 6))) from (by unfold bqL; split <;> first | contradiction | rfl)]) ?_
              exact J_54 _ _ _ hH_49 hS_50 (lv_sub hl_53 [0, 1, 2, 3, 4, 5, 6, 7, 8, 9, 10, 11, 12, 13, 14, 15, 16] rfl)
          · intro H locs ls hH_55 hS_56 hl_57
            refine lv_lstore (lv' := [(22, .long (bqL (baS dy cc (wlL I L cc 6) (nt, I, L) i_8).2.1 (baS dy cc (wlL I L cc 6) (nt, I, L) i_8).2.2 cc (wlL I L cc 6) (i_8 % 6))), (20, .long (bxL (baS dy cc (wlL I L cc 6) (nt, I, L) i_8).2.1 (baS dy cc (wlL I L cc 6) (nt, I, L) i_8).2.2 cc (wlL I L cc 6) (i_8 % 6))), (18, .long ((((baS dy cc (wlL I L cc 6) (nt, I, L) i_8).2.2) 1 (12 + cc)) - ((((baS dy cc (wlL I L cc 6) (nt, I, L) i_8).2.2) 1 (12 + cc)) / 100))), (16, .long (apL (baS dy cc (wlL I L cc 6) (nt, I, L) i_8).2.1 (baS dy cc (wlL I L cc 6) (nt, I, L) i_8).2.2 cc (wlL I L cc 6) (i_8 % 6))), (14, .long (((wlL I L cc 6) * (Int32.toInt64 (((baS dy cc (wlL I L cc 6) (nt, I, L) i_8).2.1) 3 ((6 * cc) + (i_8 % 6))))) / 100)), (13, .int (nI (i_8 % 6))), (0, .ref (ad (0, 0, 0))), (1, .ref (ad (1, 0, 0))), (2, .ref (ad (2, 0, 0))), (3, .ref (ad (3, 0, 0))), (4, .ref (ad (4, 0, 0))), (5, .ref (ad (5, 0, 0))), (6, .ref (ad (6, 0, 0))), (7, .ref (ad (10, 0, 0))), (8, .int (nI cc)), (9, .int (nI nt)), (10, .long (wlL I L cc 6)), (12, .int (nI i_8))]) hx hb dL_balances_226 hl_57 (by decide) rfl (fun ls hl_59 => ?_)
            refine lv_lload hx hb dL_balances_228 (lv_at hl_59 0 rfl) ?_
            refine lv_lconst (v := 0) hx hb dL_balances_230 (by decide) ?_
            refine zl_cmp_le (tgt := 257) hx hb dL_balances_231 dL_balances_232 (by decide) (fun c_60 => ?_) (fun c_60 => ?_)
            · refine lv_iinc (v := nI (i_8 + 1)) (lv' := [(12, .int (nI (i_8 + 1))), (22, .long (bqL (baS dy cc (wlL I L cc 6) (nt, I, L) i_8).2.1 (baS dy cc (wlL I L cc 6) (nt, I, L) i_8).2.2 cc (wlL I L cc 6) (i_8 % 6))), (20, .long (bxL (baS dy cc (wlL I L cc 6) (nt, I, L) i_8).2.1 (baS dy cc (wlL I L cc 6) (nt, I, L) i_8).2.2 cc (wlL I L cc 6) (i_8 % 6))), (18, .long ((((baS dy cc (wlL I L cc 6) (nt, I, L) i_8).2.2) 1 (12 + cc)) - ((((baS dy cc (wlL I L cc 6) (nt, I, L) i_8).2.2) 1 (12 + cc)) / 100))), (16, .long (apL (baS dy cc (wlL I L cc 6) (nt, I, L) i_8).2.1 (baS dy cc (wlL I L cc 6) (nt, I, L) i_8).2.2 cc (wlL I L cc 6) (i_8 % 6))), (14, .long (((wlL I L cc 6) * (Int32.toInt64 (((baS dy cc (wlL I L cc 6) (nt, I, L) i_8).2.1) 3 ((6 * cc) + (i_8 % 6))))) / 100)), (13, .int (nI (i_8 % 6))), (0, .ref (ad (0, 0, 0))), (1, .ref (ad (1, 0, 0))), (2, .ref (ad (2, 0, 0))), (3, .ref (ad (3, 0, 0))), (4, .ref (ad (4, 0, 0))), (5, .ref (ad (5, 0, 0))), (6, .ref (ad (6, 0, 0))), (7, .ref (ad (10, 0, 0))), (8, .int (nI cc)), (9, .int (nI nt)), (10, .long (wlL I L cc 6))]) hx hb dL_balances_257 hl_59 (k := 17) rfl (nI_1 i_8) (by decide) rfl (fun ls hl_61 => ?_)
              refine lv_goto (tgt := 19) hx hb dL_balances_260 (by decide) ?_
              have es : baS dy cc (wlL I L cc 6) (nt, I, L) (i_8 + 1) = _ := baT_b2 hk c_60
              exact ih_9 _ _ _ (by rw [es]; exact hH_55) hS_56 (lv_sub hl_61 [7, 8, 9, 10, 11, 12, 13, 14, 15, 16, 17, 0] rfl)
            · refine lv_aload_n hx hb dL_balances_235 rfl (lv_at hl_59 6 rfl) ?_
              refine lv_aload_n hx hb dL_balances_236 rfl (lv_at hl_59 7 rfl) ?_
              refine lv_aload_n hx hb dL_balances_237 rfl (lv_at hl_59 8 rfl) ?_
              refine lv_aload hx hb dL_balances_238 (lv_at hl_59 10 rfl) ?_
              refine lv_aload hx hb dL_balances_240 (lv_at hl_59 11 rfl) ?_
              refine lv_aload hx hb dL_balances_242 (lv_at hl_59 12 rfl) ?_
              refine lv_aload hx hb dL_balances_244 (lv_at hl_59 13 rfl) ?_
              refine lv_iload hx hb dL_balances_246 (lv_at hl_59 14 rfl) ?_
              refine lv_iload hx hb dL_balances_248 (lv_at hl_59 5 rfl) ?_
              refine lv_lload hx hb dL_balances_250 (lv_at hl_59 0 rfl) ?_
              refine lv_lload hx hb dL_balances_252 (lv_at hl_59 1 rfl) ?_
              refine zk_cv (zk_rS (As := [.ref (ad (0, 0, 0)), .ref (ad (1, 0, 0)), .ref (ad (2, 0, 0)), .ref (ad (4, 0, 0)), .ref (ad (5, 0, 0)), .ref (ad (6, 0, 0)), .ref (ad (10, 0, 0)), .int (nI cc), .int (nI (i_8 % 6)), .long (bqL (baS dy cc (wlL I L cc 6) (nt, I, L) i_8).2.1 (baS dy cc (wlL I L cc 6) (nt, I, L) i_8).2.2 cc (wlL I L cc 6) (i_8 % 6)), .long (bxL (baS dy cc (wlL I L cc 6) (nt, I, L) i_8).2.1 (baS dy cc (wlL I L cc 6) (nt, I, L) i_8).2.2 cc (wlL I L cc 6) (i_8 % 6))]) (rest := []) (n := 11) (w := aw cA ad ((baS dy cc (wlL I L cc 6) (nt, I, L) i_8).2.1) ((baS dy cc (wlL I L cc 6) (nt, I, L) i_8).2.2)) C (cH_trades l D cA A g ad ((baS dy cc (wlL I L cc 6) (nt, I, L) i_8).2.1) ((baS dy cc (wlL I L cc 6) (nt, I, L) i_8).2.2) (baS dy cc (wlL I L cc 6) (nt, I, L) i_8).1 dy cc (i_8 % 6) (bqL (baS dy cc (wlL I L cc 6) (nt, I, L) i_8).2.1 (baS dy cc (wlL I L cc 6) (nt, I, L) i_8).2.2 cc (wlL I L cc 6) (i_8 % 6)) (bxL (baS dy cc (wlL I L cc 6) (nt, I, L) i_8).2.1 (baS dy cc (wlL I L cc 6) (nt, I, L) i_8).2.2 cc (wlL I L cc 6) (i_8 % 6)) b3 b4 (by omega) (by omega) (by omega)) hH_55 hS_56 gL_balances_L_trades rfl rfl (by decide +kernel) ⟨Nat.le_of_ble_eq_true rfl, Nat.le_of_ble_eq_true rfl⟩ hl_59 rfl (Nat.le_of_ble_eq_true rfl) dL_balances_254 ⟨Nat.le_of_ble_eq_true rfl, Nat.le_of_ble_eq_true rfl⟩) hS_56 (fun w_63 H locs hP hH_64 hS_65 => ?_)
              subst hP
              refine lv_iinc (v := nI (i_8 + 1)) (lv' := [(12, .int (nI (i_8 + 1))), (22, .long (bqL (baS dy cc (wlL I L cc 6) (nt, I, L) i_8).2.1 (baS dy cc (wlL I L cc 6) (nt, I, L) i_8).2.2 cc (wlL I L cc 6) (i_8 % 6))), (20, .long (bxL (baS dy cc (wlL I L cc 6) (nt, I, L) i_8).2.1 (baS dy cc (wlL I L cc 6) (nt, I, L) i_8).2.2 cc (wlL I L cc 6) (i_8 % 6))), (18, .long ((((baS dy cc (wlL I L cc 6) (nt, I, L) i_8).2.2) 1 (12 + cc)) - ((((baS dy cc (wlL I L cc 6) (nt, I, L) i_8).2.2) 1 (12 + cc)) / 100))), (16, .long (apL (baS dy cc (wlL I L cc 6) (nt, I, L) i_8).2.1 (baS dy cc (wlL I L cc 6) (nt, I, L) i_8).2.2 cc (wlL I L cc 6) (i_8 % 6))), (14, .long (((wlL I L cc 6) * (Int32.toInt64 (((baS dy cc (wlL I L cc 6) (nt, I, L) i_8).2.1) 3 ((6 * cc) + (i_8 % 6))))) / 100)), (13, .int (nI (i_8 % 6))), (0, .ref (ad (0, 0, 0))), (1, .ref (ad (1, 0, 0))), (2, .ref (ad (2, 0, 0))), (3, .ref (ad (3, 0, 0))), (4, .ref (ad (4, 0, 0))), (5, .ref (ad (5, 0, 0))), (6, .ref (ad (6, 0, 0))), (7, .ref (ad (10, 0, 0))), (8, .int (nI cc)), (9, .int (nI nt)), (10, .long (wlL I L cc 6))]) hx hb dL_balances_257 hl_59 (k := 17) rfl (nI_1 i_8) (by decide) rfl (fun ls hl_66 => ?_)
              refine lv_goto (tgt := 19) hx hb dL_balances_260 (by decide) ?_
              have es : baS dy cc (wlL I L cc 6) (nt, I, L) (i_8 + 1) = _ := baT_bp hk c_45 c_60
              exact ih_9 _ _ _ (by rw [es]; exact hH_64) hS_65 (lv_sub hl_66 [7, 8, 9, 10, 11, 12, 13, 14, 15, 16, 17, 0] rfl)
