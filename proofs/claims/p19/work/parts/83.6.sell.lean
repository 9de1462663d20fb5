section LAW
variable {p : Program} {l : Launch} {e : Env} {s : State} {m : MethodId} {below : List Frame} {meth : Method} {c : Code} {H : Heap} {locs : List Loc} {cells slots : Nat} {Q : State → Prop} {ls : Array Slot} {D : va_G} {cA : Nat → ClassId} {A : Nat → Prop} {g : Nat → Nat}
variable {sb k one two b nc nt dy cl fd f : Nat} {ac ad : zk_K → Nat} {mo : Int64} {I Ia : zIA} {L La : zLA}
set_option maxHeartbeats 2000000 in
set_option maxRecDepth 100000 in
theorem lw_sell (C : zC p l m c cL_law 33 s #[.ref sb] wsL_law RL D (zt cA) A g meth) (hst : l.stackTraces = false) (hJ : zJ nc nt dy b mo I L Ia La) (hb8 : b ≤ 8000) (hone : one < 60000) (htwo : two < 60000) (hk : k < 60) (hcl : cl ≤ nc) (hfd : fd < 7) (hf : f < 6) (hff : fd < 6 → f = fd) (hc : cells + 30 ≤ 600104) (hs : slots + 2200 ≤ 7301314) (hH : zk_H D A (zk_sum 50 (cw cA (g 0) ac 6 nc nc 6 nt dy mo I L) (aw cA ad Ia La)) H) (hS : va_S A s.heap H locs) (hc1 : 1 ≤ nc) (hnt : nt < 18) (hl : lv_has ls 33 [(0, .ref sb), (1, .ref (ac (0, 0, 0))), (2, .ref (ad (0, 0, 0))), (3, .ref (ad (1, 0, 0))), (4, .ref (ad (2, 0, 0))), (5, .ref (ad (3, 0, 0))), (6, .ref (ad (4, 0, 0))), (7, .ref (ad (5, 0, 0))), (8, .ref (ad (6, 0, 0))), (9, .ref (ad (7, 0, 0))), (10, .ref (ad (8, 0, 0))), (11, .ref (ad (9, 0, 0))), (12, .ref (ad (10, 0, 0))), (13, .int 1), (14, .int (nI k)), (16, .int (nI one)), (17, .int (nI two)), (18, .int (nI cl)), (19, .int (nI fd)), (20, .int (icV cl nc)), (21, .int (arV cl nc fd)), (22, .int (nI f))]) (K : lwK p l e s m below meth c D cA A g sb k one two (b + 12) (ac (0, 0, 0)) ad (cells + 30) (slots + 2200) Q) : W p l e room_1 s m #[.ref sb] below meth c H locs cells slots Q (F0 m 1083 ls []) := by
  obtain ⟨⟨hx, hb, hml, hown, hts⟩, hG, hlk⟩ := id C
  obtain ⟨hO, hM, hD⟩ := hJ.d
  obtain ⟨hI, ⟨hn3, hn30⟩, ⟨e0, e1, e2⟩, hP, hGo, ⟨v1, v2, v3, v4⟩, h7, hR, hE, hSu⟩ := id hJ
  obtain ⟨-, -, hdy⟩ := hI.1
  obtain ⟨h11, h12, h16, -, -⟩ := hI.t
  by_cases hr : cl < nc ∧ fd < 6
  · obtain ⟨hr1, hr2⟩ := id hr
    have hl_1 : lv_has ls 33 [(0, .ref sb), (1, .ref (ac (0, 0, 0))), (2, .ref (ad (0, 0, 0))), (3, .ref (ad (1, 0, 0))), (4, .ref (ad (2, 0, 0))), (5, .ref (ad (3, 0, 0))), (6, .ref (ad (4, 0, 0))), (7, .ref (ad (5, 0, 0))), (8, .ref (ad (6, 0, 0))), (9, .ref (ad (7, 0, 0))), (10, .ref (ad (8, 0, 0))), (11, .ref (ad (9, 0, 0))), (12, .ref (ad (10, 0, 0))), (13, .int 1), (14, .int (nI k)), (16, .int (nI one)), (17, .int (nI two)), (18, .int (nI cl)), (19, .int (nI fd)), (20, .int (icV cl nc)), (21, .int 1), (22, .int (nI f))] := by have e9 : arV cl nc fd = 1 := if_pos hr; have h9 := hl; rw [e9] at h9; exact h9
    refine lv_iload hx hb dL_law_1083 (lv_at hl_1 20 rfl) ?_
    refine lv_if_eq (tgt := 1102) hx hb dL_law_1085 (by decide) (fun c_2 => absurd c_2 (by decide)) (fun c_2 => ?_)
    refine lv_aload hx hb dL_law_1088 (lv_at hl_1 4 rfl) ?_
    refine lv_bipush (v := 6) hx hb dL_law_1090 (by decide) ?_
    refine lv_iload hx hb dL_law_1092 (lv_at hl_1 17 rfl) ?_
    refine lv_imul hx hb dL_law_1094 ?_
    refine lv_iload hx hb dL_law_1095 (lv_at hl_1 18 rfl) ?_
    refine lv_iadd hx hb dL_law_1097 ?_
    refine W.eq (g2 := F0 m 1098 ls [.int (nI ((6 * cl) + fd)), .ref (ad (2, 0, 0))]) (by rw [show ((6 * (nI cl)) + (nI fd) : Int32) = nI ((6 * cl) + fd) from (zi_add (zi_mul rfl rfl) rfl)]) ?_
    refine ls_lld C hH 2 rfl (by decide) (j := ((6 * cl) + fd)) rfl (show ((6 * cl) + fd) < 18 by omega) dL_law_1098 ?_
    refine W.eq (g2 := F0 m 1099 ls [.long (L 8 (6 * cl + fd))]) (by rw [v4 (6 * cl + fd) (by omega)]) ?_
    refine lv_goto (tgt := 1103) hx hb dL_law_1099 (by decide) ?_
    refine lv_lstore (lv' := [(23, .long (L 8 (6 * cl + fd))), (0, .ref sb), (1, .ref (ac (0, 0, 0))), (2, .ref (ad (0, 0, 0))), (3, .ref (ad (1, 0, 0))), (4, .ref (ad (2, 0, 0))), (5, .ref (ad (3, 0, 0))), (6, .ref (ad (4, 0, 0))), (7, .ref (ad (5, 0, 0))), (8, .ref (ad (6, 0, 0))), (9, .ref (ad (7, 0, 0))), (10, .ref (ad (8, 0, 0))), (11, .ref (ad (9, 0, 0))), (12, .ref (ad (10, 0, 0))), (13, .int 1), (14, .int (nI k)), (16, .int (nI one)), (17, .int (nI two)), (18, .int (nI cl)), (19, .int (nI fd)), (20, .int (icV cl nc)), (21, .int 1), (22, .int (nI f))]) hx hb dL_law_1103 hl_1 (by decide) rfl (fun ls hl_3 => ?_)
    refine z_join (nL := 33) (D := D) (A := A) (w := zk_sum 50 (cw cA (g 0) ac 6 nc nc 6 nt dy mo I L) (aw cA ad Ia La)) (pcj := 1160) (lc := [(23, .long (L 8 (6 * cl + fd))), (0, .ref sb), (1, .ref (ac (0, 0, 0))), (2, .ref (ad (0, 0, 0))), (3, .ref (ad (1, 0, 0))), (4, .ref (ad (2, 0, 0))), (5, .ref (ad (3, 0, 0))), (6, .ref (ad (4, 0, 0))), (7, .ref (ad (5, 0, 0))), (8, .ref (ad (6, 0, 0))), (9, .ref (ad (7, 0, 0))), (10, .ref (ad (8, 0, 0))), (11, .ref (ad (9, 0, 0))), (12, .ref (ad (10, 0, 0))), (13, .int 1), (14, .int (nI k)), (16, .int (nI one)), (17, .int (nI two)), (18, .int (nI cl)), (19, .int (nI fd)), (20, .int (icV cl nc)), (21, .int 1), (22, .int (nI f))]) (st1 := [.int (slV one two (L 8 (6 * cl + fd)))]) (fun J_4 => ?_) ?_
    · refine lv_iload hx hb dL_law_1105 (lv_at hl_3 17 rfl) ?_
      refine lv_bipush (v := 7) hx hb dL_law_1107 (by decide) ?_
      refine lv_idiv hx hb dL_law_1109 (by decide) ?_
      refine W.eq (g2 := F0 m 1110 ls [.int (nI (two / 7))]) (by rw [show ((nI two) / 7 : Int32) = nI (two / 7) from (zi_div rfl (b := 7) rfl (by omega) (by decide) (by decide))]) ?_
      refine lv_iconst (v := 3) hx hb dL_law_1110 (by decide) ?_
      refine lv_irem hx hb dL_law_1111 (by decide) ?_
      refine W.eq (g2 := F0 m 1112 ls [.int (nI ((two / 7) % 3))]) (by rw [show ((nI (two / 7)) - (nI (two / 7)) / 3 * 3 : Int32) = nI ((two / 7) % 3) from (zi_rem rfl (b := 3) rfl (by omega) (by decide) (by decide))]) ?_
      refine lv_if_ne (tgt := 1122) hx hb dL_law_1112 (by decide) (fun c_8 => ?_) (fun c_8 => ?_)
      · have c_8n := fun z => c_8 ((nI_k0 (by omega)).mpr z)
        refine lv_lload hx hb dL_law_1122 (lv_at hl_3 0 rfl) ?_
        refine lv_lconst (v := 0) hx hb dL_law_1124 (by decide) ?_
        refine zl_cmp_le (tgt := 1158) hx hb dL_law_1125 dL_law_1126 (by decide) (fun c_9 => ?_) (fun c_9 => ?_)
        · refine lv_ldc (v := 1000000000) hx hb hown (hts (.constant RL 137 1000000000) (by decide +kernel)) dL_law_1158 ?_
          refine W.eq (g2 := F0 m 1160 ls [.int (slV one two (L 8 (6 * cl + fd)))]) (by rw [show (slV one two (L 8 (6 * cl + fd)) : Int32) = 1000000000 from (if_neg c_8n).trans (if_neg (fun z => c_9 z.1))]) ?_
          exact J_4 _ _ _ hH hS (lv_sub hl_3 [0, 1, 2, 3, 4, 5, 6, 7, 8, 9, 10, 11, 12, 13, 14, 15, 16, 17, 18, 19, 20, 21, 22] rfl)
        · refine lv_lload hx hb dL_law_1129 (lv_at hl_3 0 rfl) ?_
          refine lv_ldc2 (v := 1000000000) hx hb hown (hts (.constantLong RL 133 1000000000) (by decide +kernel)) dL_law_1131 ?_
          refine zl_cmp_ge (tgt := 1158) hx hb dL_law_1134 dL_law_1135 (by decide) (fun c_10 => ?_) (fun c_10 => ?_)
          · refine lv_ldc (v := 1000000000) hx hb hown (hts (.constant RL 137 1000000000) (by decide +kernel)) dL_law_1158 ?_
            refine W.eq (g2 := F0 m 1160 ls [.int (slV one two (L 8 (6 * cl + fd)))]) (by rw [show (slV one two (L 8 (6 * cl + fd)) : Int32) = 1000000000 from (if_neg c_8n).trans (if_neg (fun z => c_10 z.2))]) ?_
            exact J_4 _ _ _ hH hS (lv_sub hl_3 [0, 1, 2, 3, 4, 5, 6, 7, 8, 9, 10, 11, 12, 13, 14, 15, 16, 17, 18, 19, 20, 21, 22] rfl)
          · refine lv_iconst (v := 1) hx hb dL_law_1138 (by decide) ?_
            refine lv_iload hx hb dL_law_1139 (lv_at hl_3 17 rfl) ?_
            refine lv_i2l (v := Int32.toInt64 (nI two)) hx hb dL_law_1141 rfl ?_
            refine lv_ldc2 (v := 7919) hx hb hown (hts (.constantLong RL 135 7919) (by decide +kernel)) dL_law_1142 ?_
            refine lv_lmul hx hb dL_law_1145 ?_
            refine lv_iload hx hb dL_law_1146 (lv_at hl_3 16 rfl) ?_
            refine lv_i2l (v := Int32.toInt64 (nI one)) hx hb dL_law_1148 rfl ?_
            refine lv_ladd hx hb dL_law_1149 ?_
            refine lv_lload hx hb dL_law_1150 (lv_at hl_3 0 rfl) ?_
            refine lv_lrem hx hb dL_law_1152 (fun z => by have h9 := c_9; rw [z] at h9; exact absurd h9 (by decide)) ?_
            refine lv_l2i (v := Int64.toInt32 ((((Int32.toInt64 (nI two)) * 7919) + (Int32.toInt64 (nI one))) - (((Int32.toInt64 (nI two)) * 7919) + (Int32.toInt64 (nI one))) / (L 8 (6 * cl + fd)) * (L 8 (6 * cl + fd)))) hx hb dL_law_1153 rfl ?_
            refine lv_iadd hx hb dL_law_1154 ?_
            refine lv_goto (tgt := 1160) hx hb dL_law_1155 (by decide) ?_
            refine W.eq (g2 := F0 m 1160 ls [.int (slV one two (L 8 (6 * cl + fd)))]) (by rw [show (slV one two (L 8 (6 * cl + fd)) : Int32) = 1 + (Int64.toInt32 ((((Int32.toInt64 (nI two)) * 7919) + (Int32.toInt64 (nI one))) - (((Int32.toInt64 (nI two)) * 7919) + (Int32.toInt64 (nI one))) / (L 8 (6 * cl + fd)) * (L 8 (6 * cl + fd)))) from (if_neg c_8n).trans (if_pos ⟨c_9, c_10⟩)]) ?_
            exact J_4 _ _ _ hH hS (lv_sub hl_3 [0, 1, 2, 3, 4, 5, 6, 7, 8, 9, 10, 11, 12, 13, 14, 15, 16, 17, 18, 19, 20, 21, 22] rfl)
      · have c_8n := (nI_k0 (by omega)).mp c_8
        refine lv_iconst (v := 1) hx hb dL_law_1115 (by decide) ?_
        refine lv_iload hx hb dL_law_1116 (lv_at hl_3 17 rfl) ?_
        refine lv_iadd hx hb dL_law_1118 ?_
        refine W.eq (g2 := F0 m 1119 ls [.int (nI (1 + two))]) (by rw [show (1 + (nI two) : Int32) = nI (1 + two) from (zi_add rfl rfl)]) ?_
        refine lv_goto (tgt := 1160) hx hb dL_law_1119 (by decide) ?_
        refine W.eq (g2 := F0 m 1160 ls [.int (slV one two (L 8 (6 * cl + fd)))]) (by rw [show (slV one two (L 8 (6 * cl + fd)) : Int32) = nI (1 + two) from if_pos c_8n]) ?_
        exact J_4 _ _ _ hH hS (lv_sub hl_3 [0, 1, 2, 3, 4, 5, 6, 7, 8, 9, 10, 11, 12, 13, 14, 15, 16, 17, 18, 19, 20, 21, 22] rfl)
    · intro H locs ls hH_5 hS_6 hl_7
      refine lv_istore (lv' := [(25, .int (slV one two (L 8 (6 * cl + fd)))), (23, .long (L 8 (6 * cl + fd))), (0, .ref sb), (1, .ref (ac (0, 0, 0))), (2, .ref (ad (0, 0, 0))), (3, .ref (ad (1, 0, 0))), (4, .ref (ad (2, 0, 0))), (5, .ref (ad (3, 0, 0))), (6, .ref (ad (4, 0, 0))), (7, .ref (ad (5, 0, 0))), (8, .ref (ad (6, 0, 0))), (9, .ref (ad (7, 0, 0))), (10, .ref (ad (8, 0, 0))), (11, .ref (ad (9, 0, 0))), (12, .ref (ad (10, 0, 0))), (13, .int 1), (14, .int (nI k)), (16, .int (nI one)), (17, .int (nI two)), (18, .int (nI cl)), (19, .int (nI fd)), (20, .int (icV cl nc)), (21, .int 1), (22, .int (nI f))]) hx hb dL_law_1160 hl_7 (by decide) rfl (fun ls hl_11 => ?_)
      refine lv_iload hx hb dL_law_1162 (lv_at hl_11 0 rfl) ?_
      refine lv_i2l (v := Int32.toInt64 (slV one two (L 8 (6 * cl + fd)))) hx hb dL_law_1164 rfl ?_
      refine lv_aload_n hx hb dL_law_1165 rfl (lv_at hl_11 4 rfl) ?_
      refine lv_iload hx hb dL_law_1166 (lv_at hl_11 23 rfl) ?_
      refine ls_ild C hH_5 0 rfl (by decide) (j := f) rfl (show f < 6 by omega) dL_law_1168 ?_
      refine W.eq (g2 := F0 m 1169 ls [.int (I 1 fd), .long (Int32.toInt64 (slV one two (L 8 (6 * cl + fd))))]) (by rw [hP f hf, hff hr2]) ?_
      refine lv_i2l (v := Int32.toInt64 (I 1 fd)) hx hb dL_law_1169 rfl ?_
      refine lv_lmul hx hb dL_law_1170 ?_
      refine lv_ldc2 (v := 1000) hx hb hown (hts (.constantLong RL 81 1000) (by decide +kernel)) dL_law_1171 ?_
      refine lv_ldiv hx hb dL_law_1174 (by decide) ?_
      refine W.eq (g2 := F0 m 1175 ls [.long (amountL I fd (Int32.toInt64 (slV one two (L 8 (6 * cl + fd)))))]) (rfl) ?_
      refine lv_lstore (lv' := [(26, .long (amountL I fd (Int32.toInt64 (slV one two (L 8 (6 * cl + fd)))))), (25, .int (slV one two (L 8 (6 * cl + fd)))), (23, .long (L 8 (6 * cl + fd))), (0, .ref sb), (1, .ref (ac (0, 0, 0))), (2, .ref (ad (0, 0, 0))), (3, .ref (ad (1, 0, 0))), (4, .ref (ad (2, 0, 0))), (5, .ref (ad (3, 0, 0))), (6, .ref (ad (4, 0, 0))), (7, .ref (ad (5, 0, 0))), (8, .ref (ad (6, 0, 0))), (9, .ref (ad (7, 0, 0))), (10, .ref (ad (8, 0, 0))), (11, .ref (ad (9, 0, 0))), (12, .ref (ad (10, 0, 0))), (13, .int 1), (14, .int (nI k)), (16, .int (nI one)), (17, .int (nI two)), (18, .int (nI cl)), (19, .int (nI fd)), (20, .int (icV cl nc)), (21, .int 1), (22, .int (nI f))]) hx hb dL_law_1175 hl_11 (by decide) rfl (fun ls hl_12 => ?_)
      refine lv_iload hx hb dL_law_1177 (lv_at hl_12 23 rfl) ?_
      refine lv_if_eq (tgt := 1211) hx hb dL_law_1179 (by decide) (fun c_13 => absurd c_13 (by decide)) (fun c_13 => ?_)
      refine lv_lload hx hb dL_law_1182 (lv_at hl_12 2 rfl) ?_
      refine lv_iload hx hb dL_law_1184 (lv_at hl_12 1 rfl) ?_
      refine lv_i2l (v := Int32.toInt64 (slV one two (L 8 (6 * cl + fd)))) hx hb dL_law_1186 rfl ?_
      refine zl_cmp_lt (tgt := 1211) hx hb dL_law_1187 dL_law_1188 (by decide) (fun c_14 => ?_) (fun c_14 => ?_)
      · refine lv_iconst (v := 0) hx hb dL_law_1211 (by decide) ?_
        refine lv_istore (lv' := [(28, .int 0), (26, .long (amountL I fd (Int32.toInt64 (slV one two (L 8 (6 * cl + fd)))))), (25, .int (slV one two (L 8 (6 * cl + fd)))), (23, .long (L 8 (6 * cl + fd))), (0, .ref sb), (1, .ref (ac (0, 0, 0))), (2, .ref (ad (0, 0, 0))), (3, .ref (ad (1, 0, 0))), (4, .ref (ad (2, 0, 0))), (5, .ref (ad (3, 0, 0))), (6, .ref (ad (4, 0, 0))), (7, .ref (ad (5, 0, 0))), (8, .ref (ad (6, 0, 0))), (9, .ref (ad (7, 0, 0))), (10, .ref (ad (8, 0, 0))), (11, .ref (ad (9, 0, 0))), (12, .ref (ad (10, 0, 0))), (13, .int 1), (14, .int (nI k)), (16, .int (nI one)), (17, .int (nI two)), (18, .int (nI cl)), (19, .int (nI fd)), (20, .int (icV cl nc)), (21, .int 1), (22, .int (nI f))]) hx hb dL_law_1212 hl_12 (by decide) rfl (fun ls hl_15 => ?_)
        refine lv_iload hx hb dL_law_1214 (lv_at hl_15 0 rfl) ?_
        refine lv_if_eq (tgt := 1244) hx hb dL_law_1216 (by decide) (fun c_16 => ?_) (fun c_16 => absurd c_16 (by decide))
        refine lv_aload_n hx hb dL_law_1244 rfl (lv_at hl_15 5 rfl) ?_
        refine lv_iconst (v := 5) hx hb dL_law_1245 (by decide) ?_
        refine lv_iload hx hb dL_law_1246 (lv_at hl_15 21 rfl) ?_
        refine lv_iload hx hb dL_law_1248 (lv_at hl_15 22 rfl) ?_
        refine lv_iload hx hb dL_law_1250 (lv_at hl_15 2 rfl) ?_
        refine zk_cl (zk_rSH (As := [.ref (ac (0, 0, 0)), .int 5, .int (nI cl), .int (nI fd), .int (slV one two (L 8 (6 * cl + fd)))]) (rest := []) (n := 5) (w := zk_sum 50 (cw cA (g 0) ac 6 nc nc 6 nt dy mo I L) (aw cA ad Ia La)) C (qd_sell_S l D cA A g ac nc nt dy mo I L _ hst cl fd hr1 hr2 (slV one two (L 8 (6 * cl + fd))) (sl_bd hone htwo) (fun z => z.2.1 c_14) hI.pr (by omega) (by omega) hdy h11 h12 h16) hH_5 hS_6 gL_law_L_does rfl rfl (by decide +kernel) ⟨Nat.le_of_ble_eq_true rfl, Nat.le_of_ble_eq_true rfl⟩ hl_15 rfl (Nat.le_of_ble_eq_true rfl) dL_law_1252 ⟨by show cells + 4 ≤ 600104; omega, by show slots + 184 ≤ 7301314; omega⟩) hS_6 (fun r_17 w_18 H locs hP hH_19 hS_20 => ?_)
        obtain ⟨rfl, rfl⟩ := hP
        refine lv_iload hx hb dL_law_1255 (lv_at hl_15 24 rfl) ?_
        refine lv_if_ne (tgt := 1266) hx hb dL_law_1257 (by decide) (fun c_21 => ?_) (fun c_21 => absurd c_21 (by decide))
        refine lv_iload hx hb dL_law_1266 (lv_at hl_15 0 rfl) ?_
        refine lv_if_eq (tgt := 1281) hx hb dL_law_1268 (by decide) (fun c_22 => ?_) (fun c_22 => absurd c_22 (by decide))
        refine lv_ldc2 (v := (-1000000000000)) hx hb hown (hts (.constantLong RL 67 (-1000000000000)) (by decide +kernel)) dL_law_1281 ?_
        refine zl_cmp_ne (tgt := 1292) hx hb dL_law_1284 dL_law_1285 (by decide) (fun c_23 => absurd c_23 (by decide)) (fun c_23 => ?_)
        refine lv_iconst (v := 1) hx hb dL_law_1288 (by decide) ?_
        refine lv_goto (tgt := 1293) hx hb dL_law_1289 (by decide) ?_
        refine lv_istore (lv' := [(13, .int 1), (28, .int 0), (26, .long (amountL I fd (Int32.toInt64 (slV one two (L 8 (6 * cl + fd)))))), (25, .int (slV one two (L 8 (6 * cl + fd)))), (23, .long (L 8 (6 * cl + fd))), (0, .ref sb), (1, .ref (ac (0, 0, 0))), (2, .ref (ad (0, 0, 0))), (3, .ref (ad (1, 0, 0))), (4, .ref (ad (2, 0, 0))), (5, .ref (ad (3, 0, 0))), (6, .ref (ad (4, 0, 0))), (7, .ref (ad (5, 0, 0))), (8, .ref (ad (6, 0, 0))), (9, .ref (ad (7, 0, 0))), (10, .ref (ad (8, 0, 0))), (11, .ref (ad (9, 0, 0))), (12, .ref (ad (10, 0, 0))), (14, .int (nI k)), (16, .int (nI one)), (17, .int (nI two)), (18, .int (nI cl)), (19, .int (nI fd)), (20, .int (icV cl nc)), (21, .int 1), (22, .int (nI f))]) hx hb dL_law_1293 hl_15 (by decide) rfl (fun ls hl_24 => ?_)
        refine lv_goto (tgt := 2146) hx hb dL_law_1295 (by decide) ?_
        exact W.widen (by show cells + 4 ≤ cells + 30; omega) (by show slots + 184 ≤ slots + 2200; omega) (K ac nc nt dy mo I L Ia La H locs ls hH_19 hS_20 (hJ.mono (by omega)) hc1 rfl (lv_sub hl_24 [5, 6, 7, 8, 9, 10, 11, 12, 13, 14, 15, 16, 17, 0, 18, 19, 20] rfl))
      · refine lv_lload hx hb dL_law_1191 (lv_at hl_12 0 rfl) ?_
        refine lv_lconst (v := 0) hx hb dL_law_1193 (by decide) ?_
        refine zl_cmp_le (tgt := 1211) hx hb dL_law_1194 dL_law_1195 (by decide) (fun c_25 => ?_) (fun c_25 => ?_)
        · refine lv_iconst (v := 0) hx hb dL_law_1211 (by decide) ?_
          refine lv_istore (lv' := [(28, .int 0), (26, .long (amountL I fd (Int32.toInt64 (slV one two (L 8 (6 * cl + fd)))))), (25, .int (slV one two (L 8 (6 * cl + fd)))), (23, .long (L 8 (6 * cl + fd))), (0, .ref sb), (1, .ref (ac (0, 0, 0))), (2, .ref (ad (0, 0, 0))), (3, .ref (ad (1, 0, 0))), (4, .ref (ad (2, 0, 0))), (5, .ref (ad (3, 0, 0))), (6, .ref (ad (4, 0, 0))), (7, .ref (ad (5, 0, 0))), (8, .ref (ad (6, 0, 0))), (9, .ref (ad (7, 0, 0))), (10, .ref (ad (8, 0, 0))), (11, .ref (ad (9, 0, 0))), (12, .ref (ad (10, 0, 0))), (13, .int 1), (14, .int (nI k)), (16, .int (nI one)), (17, .int (nI two)), (18, .int (nI cl)), (19, .int (nI fd)), (20, .int (icV cl nc)), (21, .int 1), (22, .int (nI f))]) hx hb dL_law_1212 hl_12 (by decide) rfl (fun ls hl_26 => ?_)
          refine lv_iload hx hb dL_law_1214 (lv_at hl_26 0 rfl) ?_
          refine lv_if_eq (tgt := 1244) hx hb dL_law_1216 (by decide) (fun c_27 => ?_) (fun c_27 => absurd c_27 (by decide))
          refine lv_aload_n hx hb dL_law_1244 rfl (lv_at hl_26 5 rfl) ?_
          refine lv_iconst (v := 5) hx hb dL_law_1245 (by decide) ?_
          refine lv_iload hx hb dL_law_1246 (lv_at hl_26 21 rfl) ?_
          refine lv_iload hx hb dL_law_1248 (lv_at hl_26 22 rfl) ?_
          refine lv_iload hx hb dL_law_1250 (lv_at hl_26 2 rfl) ?_
          refine zk_cl (zk_rSH (As := [.ref (ac (0, 0, 0)), .int 5, .int (nI cl), .int (nI fd), .int (slV one two (L 8 (6 * cl + fd)))]) (rest := []) (n := 5) (w := zk_sum 50 (cw cA (g 0) ac 6 nc nc 6 nt dy mo I L) (aw cA ad Ia La)) C (qd_sell_S l D cA A g ac nc nt dy mo I L _ hst cl fd hr1 hr2 (slV one two (L 8 (6 * cl + fd))) (sl_bd hone htwo) (fun z => c_25 z.2.2.1) hI.pr (by omega) (by omega) hdy h11 h12 h16) hH_5 hS_6 gL_law_L_does rfl rfl (by decide +kernel) ⟨Nat.le_of_ble_eq_true rfl, Nat.le_of_ble_eq_true rfl⟩ hl_26 rfl (Nat.le_of_ble_eq_true rfl) dL_law_1252 ⟨by show cells + 4 ≤ 600104; omega, by show slots + 184 ≤ 7301314; omega⟩) hS_6 (fun r_28 w_29 H locs hP hH_30 hS_31 => ?_)
          obtain ⟨rfl, rfl⟩ := hP
          refine lv_iload hx hb dL_law_1255 (lv_at hl_26 24 rfl) ?_
          refine lv_if_ne (tgt := 1266) hx hb dL_law_1257 (by decide) (fun c_32 => ?_) (fun c_32 => absurd c_32 (by decide))
          refine lv_iload hx hb dL_law_1266 (lv_at hl_26 0 rfl) ?_
          refine lv_if_eq (tgt := 1281) hx hb dL_law_1268 (by decide) (fun c_33 => ?_) (fun c_33 => absurd c_33 (by decide))
          refine lv_ldc2 (v := (-1000000000000)) hx hb hown (hts (.constantLong RL 67 (-1000000000000)) (by decide +kernel)) dL_law_1281 ?_
          refine zl_cmp_ne (tgt := 1292) hx hb dL_law_1284 dL_law_1285 (by decide) (fun c_34 => absurd c_34 (by decide)) (fun c_34 => ?_)
          refine lv_iconst (v := 1) hx hb dL_law_1288 (by decide) ?_
          refine lv_goto (tgt := 1293) hx hb dL_law_1289 (by decide) ?_
          refine lv_istore (lv' := [(13, .int 1), (28, .int 0), (26, .long (amountL I fd (Int32.toInt64 (slV one two (L 8 (6 * cl + fd)))))), (25, .int (slV one two (L 8 (6 * cl + fd)))), (23, .long (L 8 (6 * cl + fd))), (0, .ref sb), (1, .ref (ac (0, 0, 0))), (2, .ref (ad (0, 0, 0))), (3, .ref (ad (1, 0, 0))), (4, .ref (ad (2, 0, 0))), (5, .ref (ad (3, 0, 0))), (6, .ref (ad (4, 0, 0))), (7, .ref (ad (5, 0, 0))), (8, .ref (ad (6, 0, 0))), (9, .ref (ad (7, 0, 0))), (10, .ref (ad (8, 0, 0))), (11, .ref (ad (9, 0, 0))), (12, .ref (ad (10, 0, 0))), (14, .int (nI k)), (16, .int (nI one)), (17, .int (nI two)), (18, .int (nI cl)), (19, .int (nI fd)), (20, .int (icV cl nc)), (21, .int 1), (22, .int (nI f))]) hx hb dL_law_1293 hl_26 (by decide) rfl (fun ls hl_35 => ?_)
          refine lv_goto (tgt := 2146) hx hb dL_law_1295 (by decide) ?_
          exact W.widen (by show cells + 4 ≤ cells + 30; omega) (by show slots + 184 ≤ slots + 2200; omega) (K ac nc nt dy mo I L Ia La H locs ls hH_30 hS_31 (hJ.mono (by omega)) hc1 rfl (lv_sub hl_35 [5, 6, 7, 8, 9, 10, 11, 12, 13, 14, 15, 16, 17, 0, 18, 19, 20] rfl))
        · refine lv_lload hx hb dL_law_1198 (lv_at hl_12 0 rfl) ?_
          refine lv_ldc2 (v := 1000000000) hx hb hown (hts (.constantLong RL 133 1000000000) (by decide +kernel)) dL_law_1200 ?_
          refine zl_cmp_gt (tgt := 1211) hx hb dL_law_1203 dL_law_1204 (by decide) (fun c_36 => ?_) (fun c_36 => ?_)
          · refine lv_iconst (v := 0) hx hb dL_law_1211 (by decide) ?_
            refine lv_istore (lv' := [(28, .int 0), (26, .long (amountL I fd (Int32.toInt64 (slV one two (L 8 (6 * cl + fd)))))), (25, .int (slV one two (L 8 (6 * cl + fd)))), (23, .long (L 8 (6 * cl + fd))), (0, .ref sb), (1, .ref (ac (0, 0, 0))), (2, .ref (ad (0, 0, 0))), (3, .ref (ad (1, 0, 0))), (4, .ref (ad (2, 0, 0))), (5, .ref (ad (3, 0, 0))), (6, .ref (ad (4, 0, 0))), (7, .ref (ad (5, 0, 0))), (8, .ref (ad (6, 0, 0))), (9, .ref (ad (7, 0, 0))), (10, .ref (ad (8, 0, 0))), (11, .ref (ad (9, 0, 0))), (12, .ref (ad (10, 0, 0))), (13, .int 1), (14, .int (nI k)), (16, .int (nI one)), (17, .int (nI two)), (18, .int (nI cl)), (19, .int (nI fd)), (20, .int (icV cl nc)), (21, .int 1), (22, .int (nI f))]) hx hb dL_law_1212 hl_12 (by decide) rfl (fun ls hl_37 => ?_)
            refine lv_iload hx hb dL_law_1214 (lv_at hl_37 0 rfl) ?_
            refine lv_if_eq (tgt := 1244) hx hb dL_law_1216 (by decide) (fun c_38 => ?_) (fun c_38 => absurd c_38 (by decide))
            refine lv_aload_n hx hb dL_law_1244 rfl (lv_at hl_37 5 rfl) ?_
            refine lv_iconst (v := 5) hx hb dL_law_1245 (by decide) ?_
            refine lv_iload hx hb dL_law_1246 (lv_at hl_37 21 rfl) ?_
            refine lv_iload hx hb dL_law_1248 (lv_at hl_37 22 rfl) ?_
            refine lv_iload hx hb dL_law_1250 (lv_at hl_37 2 rfl) ?_
            refine zk_cl (zk_rSH (As := [.ref (ac (0, 0, 0)), .int 5, .int (nI cl), .int (nI fd), .int (slV one two (L 8 (6 * cl + fd)))]) (rest := []) (n := 5) (w := zk_sum 50 (cw cA (g 0) ac 6 nc nc 6 nt dy mo I L) (aw cA ad Ia La)) C (qd_sell_S l D cA A g ac nc nt dy mo I L _ hst cl fd hr1 hr2 (slV one two (L 8 (6 * cl + fd))) (sl_bd hone htwo) (fun z => z.2.2.2 c_36) hI.pr (by omega) (by omega) hdy h11 h12 h16) hH_5 hS_6 gL_law_L_does rfl rfl (by decide +kernel) ⟨Nat.le_of_ble_eq_true rfl, Nat.le_of_ble_eq_true rfl⟩ hl_37 rfl (Nat.le_of_ble_eq_true rfl) dL_law_1252 ⟨by show cells + 4 ≤ 600104; omega, by show slots + 184 ≤ 7301314; omega⟩) hS_6 (fun r_39 w_40 H locs hP hH_41 hS_42 => ?_)
            obtain ⟨rfl, rfl⟩ := hP
            refine lv_iload hx hb dL_law_1255 (lv_at hl_37 24 rfl) ?_
            refine lv_if_ne (tgt := 1266) hx hb dL_law_1257 (by decide) (fun c_43 => ?_) (fun c_43 => absurd c_43 (by decide))
            refine lv_iload hx hb dL_law_1266 (lv_at hl_37 0 rfl) ?_
            refine lv_if_eq (tgt := 1281) hx hb dL_law_1268 (by decide) (fun c_44 => ?_) (fun c_44 => absurd c_44 (by decide))
            refine lv_ldc2 (v := (-1000000000000)) hx hb hown (hts (.constantLong RL 67 (-1000000000000)) (by decide +kernel)) dL_law_1281 ?_
            refine zl_cmp_ne (tgt := 1292) hx hb dL_law_1284 dL_law_1285 (by decide) (fun c_45 => absurd c_45 (by decide)) (fun c_45 => ?_)
            refine lv_iconst (v := 1) hx hb dL_law_1288 (by decide) ?_
            refine lv_goto (tgt := 1293) hx hb dL_law_1289 (by decide) ?_
            refine lv_istore (lv' := [(13, .int 1), (28, .int 0), (26, .long (amountL I fd (Int32.toInt64 (slV one two (L 8 (6 * cl + fd)))))), (25, .int (slV one two (L 8 (6 * cl + fd)))), (23, .long (L 8 (6 * cl + fd))), (0, .ref sb), (1, .ref (ac (0, 0, 0))), (2, .ref (ad (0, 0, 0))), (3, .ref (ad (1, 0, 0))), (4, .ref (ad (2, 0, 0))), (5, .ref (ad (3, 0, 0))), (6, .ref (ad (4, 0, 0))), (7, .ref (ad (5, 0, 0))), (8, .ref (ad (6, 0, 0))), (9, .ref (ad (7, 0, 0))), (10, .ref (ad (8, 0, 0))), (11, .ref (ad (9, 0, 0))), (12, .ref (ad (10, 0, 0))), (14, .int (nI k)), (16, .int (nI one)), (17, .int (nI two)), (18, .int (nI cl)), (19, .int (nI fd)), (20, .int (icV cl nc)), (21, .int 1), (22, .int (nI f))]) hx hb dL_law_1293 hl_37 (by decide) rfl (fun ls hl_46 => ?_)
            refine lv_goto (tgt := 2146) hx hb dL_law_1295 (by decide) ?_
            exact W.widen (by show cells + 4 ≤ cells + 30; omega) (by show slots + 184 ≤ slots + 2200; omega) (K ac nc nt dy mo I L Ia La H locs ls hH_41 hS_42 (hJ.mono (by omega)) hc1 rfl (lv_sub hl_46 [5, 6, 7, 8, 9, 10, 11, 12, 13, 14, 15, 16, 17, 0, 18, 19, 20] rfl))
          · refine lv_iconst (v := 1) hx hb dL_law_1207 (by decide) ?_
            refine lv_goto (tgt := 1212) hx hb dL_law_1208 (by decide) ?_
            refine lv_istore (lv' := [(28, .int 1), (26, .long (amountL I fd (Int32.toInt64 (slV one two (L 8 (6 * cl + fd)))))), (25, .int (slV one two (L 8 (6 * cl + fd)))), (23, .long (L 8 (6 * cl + fd))), (0, .ref sb), (1, .ref (ac (0, 0, 0))), (2, .ref (ad (0, 0, 0))), (3, .ref (ad (1, 0, 0))), (4, .ref (ad (2, 0, 0))), (5, .ref (ad (3, 0, 0))), (6, .ref (ad (4, 0, 0))), (7, .ref (ad (5, 0, 0))), (8, .ref (ad (6, 0, 0))), (9, .ref (ad (7, 0, 0))), (10, .ref (ad (8, 0, 0))), (11, .ref (ad (9, 0, 0))), (12, .ref (ad (10, 0, 0))), (13, .int 1), (14, .int (nI k)), (16, .int (nI one)), (17, .int (nI two)), (18, .int (nI cl)), (19, .int (nI fd)), (20, .int (icV cl nc)), (21, .int 1), (22, .int (nI f))]) hx hb dL_law_1212 hl_12 (by decide) rfl (fun ls hl_47 => ?_)
            refine lv_iload hx hb dL_law_1214 (lv_at hl_47 0 rfl) ?_
            refine lv_if_eq (tgt := 1244) hx hb dL_law_1216 (by decide) (fun c_48 => absurd c_48 (by decide)) (fun c_48 => ?_)
            refine lv_aload_n hx hb dL_law_1219 rfl (lv_at hl_47 6 rfl) ?_
            refine lv_aload_n hx hb dL_law_1220 rfl (lv_at hl_47 7 rfl) ?_
            refine lv_aload hx hb dL_law_1221 (lv_at hl_47 8 rfl) ?_
            refine lv_aload hx hb dL_law_1223 (lv_at hl_47 10 rfl) ?_
            refine lv_aload hx hb dL_law_1225 (lv_at hl_47 11 rfl) ?_
            refine lv_aload hx hb dL_law_1227 (lv_at hl_47 12 rfl) ?_
            refine lv_aload hx hb dL_law_1229 (lv_at hl_47 16 rfl) ?_
            refine lv_iload hx hb dL_law_1231 (lv_at hl_47 21 rfl) ?_
            refine lv_iload hx hb dL_law_1233 (lv_at hl_47 22 rfl) ?_
            refine lv_iload hx hb dL_law_1235 (lv_at hl_47 2 rfl) ?_
            refine lv_ineg hx hb dL_law_1237 ?_
            refine lv_i2l (v := Int32.toInt64 (-(slV one two (L 8 (6 * cl + fd))))) hx hb dL_law_1238 rfl ?_
            refine lv_lload hx hb dL_law_1239 (lv_at hl_47 1 rfl) ?_
            refine zk_cv (zk_rS (As := [.ref (ad (0, 0, 0)), .ref (ad (1, 0, 0)), .ref (ad (2, 0, 0)), .ref (ad (4, 0, 0)), .ref (ad (5, 0, 0)), .ref (ad (6, 0, 0)), .ref (ad (10, 0, 0)), .int (nI cl), .int (nI fd), .long (Int32.toInt64 (-(slV one two (L 8 (6 * cl + fd))))), .long (amountL I fd (Int32.toInt64 (slV one two (L 8 (6 * cl + fd)))))]) (rest := []) (n := 11) (w := zk_sum 50 (cw cA (g 0) ac 6 nc nc 6 nt dy mo I L) (aw cA ad Ia La)) C (zM_Rv (n := 50) (w1 := cw cA (g 0) ac 6 nc nc 6 nt dy mo I L) (fun A_ => (cH_trades l D cA A_ g ad Ia La nt dy cl fd (Int32.toInt64 (-(slV one two (L 8 (6 * cl + fd))))) (amountL I fd (Int32.toInt64 (slV one two (L 8 (6 * cl + fd))))) e2 e0 (by omega) (by omega) (by omega))) cw_lt A) hH_5 hS_6 gL_law_L_trades rfl rfl (by decide +kernel) ⟨Nat.le_of_ble_eq_true rfl, Nat.le_of_ble_eq_true rfl⟩ hl_47 rfl (Nat.le_of_ble_eq_true rfl) dL_law_1241 ⟨by show cells + 0 ≤ 600104; omega, by show slots + 0 ≤ 7301314; omega⟩) hS_6 (fun w_50 H locs hP hH_51 hS_52 => ?_)
            obtain ⟨w2_, hP, rfl⟩ := hP
            subst hP
            refine lv_aload_n hx hb dL_law_1244 rfl (lv_at hl_47 5 rfl) ?_
            refine lv_iconst (v := 5) hx hb dL_law_1245 (by decide) ?_
            refine lv_iload hx hb dL_law_1246 (lv_at hl_47 21 rfl) ?_
            refine lv_iload hx hb dL_law_1248 (lv_at hl_47 22 rfl) ?_
            refine lv_iload hx hb dL_law_1250 (lv_at hl_47 2 rfl) ?_
            refine zk_cl (zk_rSH (As := [.ref (ac (0, 0, 0)), .int 5, .int (nI cl), .int (nI fd), .int (slV one two (L 8 (6 * cl + fd)))]) (rest := []) (n := 5) (w := zk_sum 50 (cw cA (g 0) ac 6 nc nc 6 nt dy mo I L) (aw cA ad (trI Ia nt dy cl fd) (trL Ia La nt dy cl fd (Int32.toInt64 (-(slV one two (L 8 (6 * cl + fd))))) (amountL I fd (Int32.toInt64 (slV one two (L 8 (6 * cl + fd)))))))) C (qd_sell l D cA A g ac nc nt dy mo I L _ hst cl fd hr1 hr2 (slV one two (L 8 (6 * cl + fd))) (sl_bd hone htwo) ⟨by omega, c_14, c_25, c_36⟩ hI.pr (by omega) (by omega) hdy h11 h12 h16) hH_51 hS_52 gL_law_L_does rfl rfl (by decide +kernel) ⟨Nat.le_of_ble_eq_true rfl, Nat.le_of_ble_eq_true rfl⟩ hl_47 rfl (Nat.le_of_ble_eq_true rfl) dL_law_1252 ⟨by show cells + 0 + 4 ≤ 600104; omega, by show slots + 0 + 184 ≤ 7301314; omega⟩) hS_52 (fun r_53 w_54 H locs hP hH_55 hS_56 => ?_)
            obtain ⟨rfl, ac2, hac, rfl⟩ := hP
            refine lv_iload hx hb dL_law_1255 (lv_at hl_47 24 rfl) ?_
            refine lv_if_ne (tgt := 1266) hx hb dL_law_1257 (by decide) (fun c_57 => ?_) (fun c_57 => absurd c_57 (by decide))
            refine lv_iload hx hb dL_law_1266 (lv_at hl_47 0 rfl) ?_
            refine lv_if_eq (tgt := 1281) hx hb dL_law_1268 (by decide) (fun c_58 => absurd c_58 (by decide)) (fun c_58 => ?_)
            refine lv_aload hx hb dL_law_1271 (lv_at hl_47 16 rfl) ?_
            refine lv_iconst (v := 2) hx hb dL_law_1273 (by decide) ?_
            refine ls_ild C hH_55 10 rfl (by decide) (j := 2) rfl (show 2 < 3 by omega) dL_law_1274 ?_
            refine W.eq (g2 := F0 m 1275 ls [.int (nI (nt + 1)), .long (Int32.toInt64 (nI nt))]) (by rw [trI_nt]) ?_
            refine lv_iconst (v := 1) hx hb dL_law_1275 (by decide) ?_
            refine lv_isub hx hb dL_law_1276 ?_
            refine W.eq (g2 := F0 m 1277 ls [.int (nI nt), .long (Int32.toInt64 (nI nt))]) (by rw [pk_s1]) ?_
            refine lv_i2l (v := Int32.toInt64 (nI nt)) hx hb dL_law_1277 rfl ?_
            refine lv_goto (tgt := 1284) hx hb dL_law_1278 (by decide) ?_
            refine zl_cmp_ne (tgt := 1292) hx hb dL_law_1284 dL_law_1285 (by decide) (fun c_59 => absurd rfl c_59) (fun c_59 => ?_)
            refine lv_iconst (v := 1) hx hb dL_law_1288 (by decide) ?_
            refine lv_goto (tgt := 1293) hx hb dL_law_1289 (by decide) ?_
            refine lv_istore (lv' := [(13, .int 1), (28, .int 1), (26, .long (amountL I fd (Int32.toInt64 (slV one two (L 8 (6 * cl + fd)))))), (25, .int (slV one two (L 8 (6 * cl + fd)))), (23, .long (L 8 (6 * cl + fd))), (0, .ref sb), (1, .ref (ac (0, 0, 0))), (2, .ref (ad (0, 0, 0))), (3, .ref (ad (1, 0, 0))), (4, .ref (ad (2, 0, 0))), (5, .ref (ad (3, 0, 0))), (6, .ref (ad (4, 0, 0))), (7, .ref (ad (5, 0, 0))), (8, .ref (ad (6, 0, 0))), (9, .ref (ad (7, 0, 0))), (10, .ref (ad (8, 0, 0))), (11, .ref (ad (9, 0, 0))), (12, .ref (ad (10, 0, 0))), (14, .int (nI k)), (16, .int (nI one)), (17, .int (nI two)), (18, .int (nI cl)), (19, .int (nI fd)), (20, .int (icV cl nc)), (21, .int 1), (22, .int (nI f))]) hx hb dL_law_1293 hl_47 (by decide) rfl (fun ls hl_60 => ?_)
            refine lv_goto (tgt := 2146) hx hb dL_law_1295 (by decide) ?_
            exact W.widen (by show cells + 0 + 4 ≤ cells + 30; omega) (by show slots + 0 + 184 ≤ slots + 2200; omega) (K ac2 nc (nt + 1) dy (mtM I L nt dy cl fd (Int32.toInt64 (-(slV one two (L 8 (6 * cl + fd))))) (amountL I fd (Int32.toInt64 (slV one two (L 8 (6 * cl + fd))))) mo) (noteI I nt dy cl fd) (mtL I L nt dy cl fd (Int32.toInt64 (-(slV one two (L 8 (6 * cl + fd))))) (amountL I fd (Int32.toInt64 (slV one two (L 8 (6 * cl + fd)))))) (trI Ia nt dy cl fd) (trL Ia La nt dy cl fd (Int32.toInt64 (-(slV one two (L 8 (6 * cl + fd))))) (amountL I fd (Int32.toInt64 (slV one two (L 8 (6 * cl + fd)))))) H locs ls hH_55 hS_56 ((J_sell hJ hr1 hr2 (by omega) (by omega) (sl_bd hone htwo) c_14).mono (by omega)) hc1 hac (lv_sub hl_60 [5, 6, 7, 8, 9, 10, 11, 12, 13, 14, 15, 16, 17, 0, 18, 19, 20] rfl))
  · have hl_61 : lv_has ls 33 [(0, .ref sb), (1, .ref (ac (0, 0, 0))), (2, .ref (ad (0, 0, 0))), (3, .ref (ad (1, 0, 0))), (4, .ref (ad (2, 0, 0))), (5, .ref (ad (3, 0, 0))), (6, .ref (ad (4, 0, 0))), (7, .ref (ad (5, 0, 0))), (8, .ref (ad (6, 0, 0))), (9, .ref (ad (7, 0, 0))), (10, .ref (ad (8, 0, 0))), (11, .ref (ad (9, 0, 0))), (12, .ref (ad (10, 0, 0))), (13, .int 1), (14, .int (nI k)), (16, .int (nI one)), (17, .int (nI two)), (18, .int (nI cl)), (19, .int (nI fd)), (20, .int (icV cl nc)), (21, .int 0), (22, .int (nI f))] := by have e9 : arV cl nc fd = 0 := if_neg hr; have h9 := hl; rw [e9] at h9; exact h9
    refine lv_iload hx hb dL_law_1083 (lv_at hl_61 20 rfl) ?_
    refine lv_if_eq (tgt := 1102) hx hb dL_law_1085 (by decide) (fun c_62 => ?_) (fun c_62 => absurd c_62 (by decide))
    refine lv_lconst (v := 0) hx hb dL_law_1102 (by decide) ?_
    refine lv_lstore (lv' := [(23, .long 0), (0, .ref sb), (1, .ref (ac (0, 0, 0))), (2, .ref (ad (0, 0, 0))), (3, .ref (ad (1, 0, 0))), (4, .ref (ad (2, 0, 0))), (5, .ref (ad (3, 0, 0))), (6, .ref (ad (4, 0, 0))), (7, .ref (ad (5, 0, 0))), (8, .ref (ad (6, 0, 0))), (9, .ref (ad (7, 0, 0))), (10, .ref (ad (8, 0, 0))), (11, .ref (ad (9, 0, 0))), (12, .ref (ad (10, 0, 0))), (13, .int 1), (14, .int (nI k)), (16, .int (nI one)), (17, .int (nI two)), (18, .int (nI cl)), (19, .int (nI fd)), (20, .int (icV cl nc)), (21, .int 0), (22, .int (nI f))]) hx hb dL_law_1103 hl_61 (by decide) rfl (fun ls hl_63 => ?_)
    refine z_join (nL := 33) (D := D) (A := A) (w := zk_sum 50 (cw cA (g 0) ac 6 nc nc 6 nt dy mo I L) (aw cA ad Ia La)) (pcj := 1160) (lc := [(23, .long 0), (0, .ref sb), (1, .ref (ac (0, 0, 0))), (2, .ref (ad (0, 0, 0))), (3, .ref (ad (1, 0, 0))), (4, .ref (ad (2, 0, 0))), (5, .ref (ad (3, 0, 0))), (6, .ref (ad (4, 0, 0))), (7, .ref (ad (5, 0, 0))), (8, .ref (ad (6, 0, 0))), (9, .ref (ad (7, 0, 0))), (10, .ref (ad (8, 0, 0))), (11, .ref (ad (9, 0, 0))), (12, .ref (ad (10, 0, 0))), (13, .int 1), (14, .int (nI k)), (16, .int (nI one)), (17, .int (nI two)), (18, .int (nI cl)), (19, .int (nI fd)), (20, .int (icV cl nc)), (21, .int 0), (22, .int (nI f))]) (st1 := [.int (slV one two 0)]) (fun J_64 => ?_) ?_
    · refine lv_iload hx hb dL_law_1105 (lv_at hl_63 17 rfl) ?_
      refine lv_bipush (v := 7) hx hb dL_law_1107 (by decide) ?_
      refine lv_idiv hx hb dL_law_1109 (by decide) ?_
      refine W.eq (g2 := F0 m 1110 ls [.int (nI (two / 7))]) (by rw [show ((nI two) / 7 : Int32) = nI (two / 7) from (zi_div rfl (b := 7) rfl (by omega) (by decide) (by decide))]) ?_
      refine lv_iconst (v := 3) hx hb dL_law_1110 (by decide) ?_
      refine lv_irem hx hb dL_law_1111 (by decide) ?_
      refine W.eq (g2 := F0 m 1112 ls [.int (nI ((two / 7) % 3))]) (by rw [show ((nI (two / 7)) - (nI (two / 7)) / 3 * 3 : Int32) = nI ((two / 7) % 3) from (zi_rem rfl (b := 3) rfl (by omega) (by decide) (by decide))]) ?_
      refine lv_if_ne (tgt := 1122) hx hb dL_law_1112 (by decide) (fun c_68 => ?_) (fun c_68 => ?_)
      · have c_68n := fun z => c_68 ((nI_k0 (by omega)).mpr z)
        refine lv_lload hx hb dL_law_1122 (lv_at hl_63 0 rfl) ?_
        refine lv_lconst (v := 0) hx hb dL_law_1124 (by decide) ?_
        refine zl_cmp_le (tgt := 1158) hx hb dL_law_1125 dL_law_1126 (by decide) (fun c_69 => ?_) (fun c_69 => absurd c_69 (by decide))
        refine lv_ldc (v := 1000000000) hx hb hown (hts (.constant RL 137 1000000000) (by decide +kernel)) dL_law_1158 ?_
        refine W.eq (g2 := F0 m 1160 ls [.int (slV one two 0)]) (by rw [show (slV one two 0 : Int32) = 1000000000 from (if_neg c_68n).trans (if_neg (fun z => c_69 z.1))]) ?_
        exact J_64 _ _ _ hH hS (lv_sub hl_63 [0, 1, 2, 3, 4, 5, 6, 7, 8, 9, 10, 11, 12, 13, 14, 15, 16, 17, 18, 19, 20, 21, 22] rfl)
      · have c_68n := (nI_k0 (by omega)).mp c_68
        refine lv_iconst (v := 1) hx hb dL_law_1115 (by decide) ?_
        refine lv_iload hx hb dL_law_1116 (lv_at hl_63 17 rfl) ?_
        refine lv_iadd hx hb dL_law_1118 ?_
        refine W.eq (g2 := F0 m 1119 ls [.int (nI (1 + two))]) (by rw [show (1 + (nI two) : Int32) = nI (1 + two) from (zi_add rfl rfl)]) ?_
        refine lv_goto (tgt := 1160) hx hb dL_law_1119 (by decide) ?_
        refine W.eq (g2 := F0 m 1160 ls [.int (slV one two 0)]) (by rw [show (slV one two 0 : Int32) = nI (1 + two) from if_pos c_68n]) ?_
        exact J_64 _ _ _ hH hS (lv_sub hl_63 [0, 1, 2, 3, 4, 5, 6, 7, 8, 9, 10, 11, 12, 13, 14, 15, 16, 17, 18, 19, 20, 21, 22] rfl)
    · intro H locs ls hH_65 hS_66 hl_67
      refine lv_istore (lv' := [(25, .int (slV one two 0)), (23, .long 0), (0, .ref sb), (1, .ref (ac (0, 0, 0))), (2, .ref (ad (0, 0, 0))), (3, .ref (ad (1, 0, 0))), (4, .ref (ad (2, 0, 0))), (5, .ref (ad (3, 0, 0))), (6, .ref (ad (4, 0, 0))), (7, .ref (ad (5, 0, 0))), (8, .ref (ad (6, 0, 0))), (9, .ref (ad (7, 0, 0))), (10, .ref (ad (8, 0, 0))), (11, .ref (ad (9, 0, 0))), (12, .ref (ad (10, 0, 0))), (13, .int 1), (14, .int (nI k)), (16, .int (nI one)), (17, .int (nI two)), (18, .int (nI cl)), (19, .int (nI fd)), (20, .int (icV cl nc)), (21, .int 0), (22, .int (nI f))]) hx hb dL_law_1160 hl_67 (by decide) rfl (fun ls hl_70 => ?_)
      refine lv_iload hx hb dL_law_1162 (lv_at hl_70 0 rfl) ?_
      refine lv_i2l (v := Int32.toInt64 (slV one two 0)) hx hb dL_law_1164 rfl ?_
      refine lv_aload_n hx hb dL_law_1165 rfl (lv_at hl_70 4 rfl) ?_
      refine lv_iload hx hb dL_law_1166 (lv_at hl_70 23 rfl) ?_
      refine ls_ild C hH_65 0 rfl (by decide) (j := f) rfl (show f < 6 by omega) dL_law_1168 ?_
      refine lv_i2l (v := Int32.toInt64 (Ia 0 f)) hx hb dL_law_1169 rfl ?_
      refine lv_lmul hx hb dL_law_1170 ?_
      refine lv_ldc2 (v := 1000) hx hb hown (hts (.constantLong RL 81 1000) (by decide +kernel)) dL_law_1171 ?_
      refine lv_ldiv hx hb dL_law_1174 (by decide) ?_
      refine lv_lstore (lv' := [(26, .long (((Int32.toInt64 (slV one two 0)) * (Int32.toInt64 (Ia 0 f))) / 1000)), (25, .int (slV one two 0)), (23, .long 0), (0, .ref sb), (1, .ref (ac (0, 0, 0))), (2, .ref (ad (0, 0, 0))), (3, .ref (ad (1, 0, 0))), (4, .ref (ad (2, 0, 0))), (5, .ref (ad (3, 0, 0))), (6, .ref (ad (4, 0, 0))), (7, .ref (ad (5, 0, 0))), (8, .ref (ad (6, 0, 0))), (9, .ref (ad (7, 0, 0))), (10, .ref (ad (8, 0, 0))), (11, .ref (ad (9, 0, 0))), (12, .ref (ad (10, 0, 0))), (13, .int 1), (14, .int (nI k)), (16, .int (nI one)), (17, .int (nI two)), (18, .int (nI cl)), (19, .int (nI fd)), (20, .int (icV cl nc)), (21, .int 0), (22, .int (nI f))]) hx hb dL_law_1175 hl_70 (by decide) rfl (fun ls hl_71 => ?_)
      refine lv_iload hx hb dL_law_1177 (lv_at hl_71 23 rfl) ?_
      refine lv_if_eq (tgt := 1211) hx hb dL_law_1179 (by decide) (fun c_72 => ?_) (fun c_72 => absurd c_72 (by decide))
      refine lv_iconst (v := 0) hx hb dL_law_1211 (by decide) ?_
      refine lv_istore (lv' := [(28, .int 0), (26, .long (((Int32.toInt64 (slV one two 0)) * (Int32.toInt64 (Ia 0 f))) / 1000)), (25, .int (slV one two 0)), (23, .long 0), (0, .ref sb), (1, .ref (ac (0, 0, 0))), (2, .ref (ad (0, 0, 0))), (3, .ref (ad (1, 0, 0))), (4, .ref (ad (2, 0, 0))), (5, .ref (ad (3, 0, 0))), (6, .ref (ad (4, 0, 0))), (7, .ref (ad (5, 0, 0))), (8, .ref (ad (6, 0, 0))), (9, .ref (ad (7, 0, 0))), (10, .ref (ad (8, 0, 0))), (11, .ref (ad (9, 0, 0))), (12, .ref (ad (10, 0, 0))), (13, .int 1), (14, .int (nI k)), (16, .int (nI one)), (17, .int (nI two)), (18, .int (nI cl)), (19, .int (nI fd)), (20, .int (icV cl nc)), (21, .int 0), (22, .int (nI f))]) hx hb dL_law_1212 hl_71 (by decide) rfl (fun ls hl_73 => ?_)
      refine lv_iload hx hb dL_law_1214 (lv_at hl_73 0 rfl) ?_
      refine lv_if_eq (tgt := 1244) hx hb dL_law_1216 (by decide) (fun c_74 => ?_) (fun c_74 => absurd c_74 (by decide))
      refine lv_aload_n hx hb dL_law_1244 rfl (lv_at hl_73 5 rfl) ?_
      refine lv_iconst (v := 5) hx hb dL_law_1245 (by decide) ?_
      refine lv_iload hx hb dL_law_1246 (lv_at hl_73 21 rfl) ?_
      refine lv_iload hx hb dL_law_1248 (lv_at hl_73 22 rfl) ?_
      refine lv_iload hx hb dL_law_1250 (lv_at hl_73 2 rfl) ?_
      refine zk_cl (zk_rSH (As := [.ref (ac (0, 0, 0)), .int 5, .int (nI cl), .int (nI fd), .int (slV one two 0)]) (rest := []) (n := 5) (w := zk_sum 50 (cw cA (g 0) ac 6 nc nc 6 nt dy mo I L) (aw cA ad Ia La)) C (qd_sell_I l D cA A g ac nc nt dy mo I L _ hst (nI cl) (nI fd) (slV one two 0) (zno2 (by omega) (by decide) (by omega) (by omega) hr) hI.pr (by omega) (by omega) hdy h11 h12 h16) hH_65 hS_66 gL_law_L_does rfl rfl (by decide +kernel) ⟨Nat.le_of_ble_eq_true rfl, Nat.le_of_ble_eq_true rfl⟩ hl_73 rfl (Nat.le_of_ble_eq_true rfl) dL_law_1252 ⟨by show cells + 4 ≤ 600104; omega, by show slots + 184 ≤ 7301314; omega⟩) hS_66 (fun r_75 w_76 H locs hP hH_77 hS_78 => ?_)
      obtain ⟨rfl, rfl⟩ := hP
      refine lv_iload hx hb dL_law_1255 (lv_at hl_73 24 rfl) ?_
      refine lv_if_ne (tgt := 1266) hx hb dL_law_1257 (by decide) (fun c_79 => absurd c_79 (by decide)) (fun c_79 => ?_)
      refine lv_ldc2 (v := (-3000000000000)) hx hb hown (hts (.constantLong RL 59 (-3000000000000)) (by decide +kernel)) dL_law_1260 ?_
      refine lv_goto (tgt := 1284) hx hb dL_law_1263 (by decide) ?_
      refine zl_cmp_ne (tgt := 1292) hx hb dL_law_1284 dL_law_1285 (by decide) (fun c_80 => absurd c_80 (by decide)) (fun c_80 => ?_)
      refine lv_iconst (v := 1) hx hb dL_law_1288 (by decide) ?_
      refine lv_goto (tgt := 1293) hx hb dL_law_1289 (by decide) ?_
      refine lv_istore (lv' := [(13, .int 1), (28, .int 0), (26, .long (((Int32.toInt64 (slV one two 0)) * (Int32.toInt64 (Ia 0 f))) / 1000)), (25, .int (slV one two 0)), (23, .long 0), (0, .ref sb), (1, .ref (ac (0, 0, 0))), (2, .ref (ad (0, 0, 0))), (3, .ref (ad (1, 0, 0))), (4, .ref (ad (2, 0, 0))), (5, .ref (ad (3, 0, 0))), (6, .ref (ad (4, 0, 0))), (7, .ref (ad (5, 0, 0))), (8, .ref (ad (6, 0, 0))), (9, .ref (ad (7, 0, 0))), (10, .ref (ad (8, 0, 0))), (11, .ref (ad (9, 0, 0))), (12, .ref (ad (10, 0, 0))), (14, .int (nI k)), (16, .int (nI one)), (17, .int (nI two)), (18, .int (nI cl)), (19, .int (nI fd)), (20, .int (icV cl nc)), (21, .int 0), (22, .int (nI f))]) hx hb dL_law_1293 hl_73 (by decide) rfl (fun ls hl_81 => ?_)
      refine lv_goto (tgt := 2146) hx hb dL_law_1295 (by decide) ?_
      exact W.widen (by show cells + 4 ≤ cells + 30; omega) (by show slots + 184 ≤ slots + 2200; omega) (K ac nc nt dy mo I L Ia La H locs ls hH_77 hS_78 (hJ.mono (by omega)) hc1 rfl (lv_sub hl_81 [5, 6, 7, 8, 9, 10, 11, 12, 13, 14, 15, 16, 17, 0, 18, 19, 20] rfl))
end LAW
