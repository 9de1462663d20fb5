/-! ===== what the law asks first ===== -/
def piS : Nat → zIA
  | 0 => mpI
  | i + 1 => up2 (piS i) 0 i 10000
section LAW
variable {p : Program} {l : Launch} {e : Env} {s : State} {m : MethodId} {below : List Frame} {meth : Method} {c : Code} {H : Heap} {locs : List Loc} {cells slots : Nat} {Q : State → Prop} {ls : Array Slot} {D : va_G} {cA : Nat → ClassId} {A : Nat → Prop} {g : Nat → Nat}
variable {sb k one two b nc nt dy cl fd f : Nat} {ac ad : zk_K → Nat} {mo : Int64} {I Ia : zIA} {L La : zLA}
set_option maxHeartbeats 2000000 in
set_option maxRecDepth 100000 in
theorem lw_pre (C : zC p l m c cL_law 33 s #[.ref sb] wsL_law RL D (zt cA) A g meth) (hst : l.stackTraces = false) {n6 : Nat} (hn6 : n6 = 6) (hc : cells + 60 ≤ 600104) (hs : slots + 400 ≤ 7301314) (hH : zk_H D A (zk_sum 50 (cw cA (g 0) ac 6 0 0 6 0 0 0 (prI 6) mpL) (aw cA ad (piS 0) mpL)) H) (hS : va_S A s.heap H locs) (hl : lv_has ls 33 [(0, .ref sb), (1, .ref (ac (0, 0, 0))), (2, .ref (ad (0, 0, 0))), (3, .ref (ad (1, 0, 0))), (4, .ref (ad (2, 0, 0))), (5, .ref (ad (3, 0, 0))), (6, .ref (ad (4, 0, 0))), (7, .ref (ad (5, 0, 0))), (8, .ref (ad (6, 0, 0))), (9, .ref (ad (7, 0, 0))), (10, .ref (ad (8, 0, 0))), (11, .ref (ad (9, 0, 0))), (12, .ref (ad (10, 0, 0)))]) (K : ∀ (H : Heap) (locs : List Loc) (ls : Array Slot), zk_H D A (zk_sum 50 (cw cA (g 0) ac 6 0 0 6 0 0 0 (prI 6) mpL) (aw cA ad (piS n6) mpL)) H → va_S A s.heap H locs → lv_has ls 33 [(0, .ref sb), (1, .ref (ac (0, 0, 0))), (2, .ref (ad (0, 0, 0))), (3, .ref (ad (1, 0, 0))), (4, .ref (ad (2, 0, 0))), (5, .ref (ad (3, 0, 0))), (6, .ref (ad (4, 0, 0))), (7, .ref (ad (5, 0, 0))), (8, .ref (ad (6, 0, 0))), (9, .ref (ad (7, 0, 0))), (10, .ref (ad (8, 0, 0))), (11, .ref (ad (9, 0, 0))), (12, .ref (ad (10, 0, 0))), (13, .int 1), (14, .int 0)] → W p l e room_1 s m #[.ref sb] below meth c H locs (cells + 60) (slots + 400) Q (F0 m 212 ls [])) : W p l e room_1 s m #[.ref sb] below meth c H locs cells slots Q (F0 m 71 ls []) := by
  obtain ⟨⟨hx, hb, hml, hown, hts⟩, hG, hlk⟩ := id C
  refine lv_iconst (v := 0) hx hb dL_law_71 (by decide) ?_
  refine lv_istore (lv' := [(13, .int 0), (0, .ref sb), (1, .ref (ac (0, 0, 0))), (2, .ref (ad (0, 0, 0))), (3, .ref (ad (1, 0, 0))), (4, .ref (ad (2, 0, 0))), (5, .ref (ad (3, 0, 0))), (6, .ref (ad (4, 0, 0))), (7, .ref (ad (5, 0, 0))), (8, .ref (ad (6, 0, 0))), (9, .ref (ad (7, 0, 0))), (10, .ref (ad (8, 0, 0))), (11, .ref (ad (9, 0, 0))), (12, .ref (ad (10, 0, 0)))]) hx hb dL_law_72 hl (by decide) rfl (fun ls hl_1 => ?_)
  refine z_at (n := n6) (P := fun i_2 => zL p l e room_1 s m _ below meth c 33 D A _ (zk_sum 50 (cw cA (g 0) ac 6 0 0 6 0 0 0 (prI 6) mpL) (aw cA ad (piS i_2) mpL)) cells slots 74 [(0, .ref sb), (1, .ref (ac (0, 0, 0))), (2, .ref (ad (0, 0, 0))), (3, .ref (ad (1, 0, 0))), (4, .ref (ad (2, 0, 0))), (5, .ref (ad (3, 0, 0))), (6, .ref (ad (4, 0, 0))), (7, .ref (ad (5, 0, 0))), (8, .ref (ad (6, 0, 0))), (9, .ref (ad (7, 0, 0))), (10, .ref (ad (8, 0, 0))), (11, .ref (ad (9, 0, 0))), (12, .ref (ad (10, 0, 0))), (13, .int (nI i_2))] []) 0 (Nat.zero_le _) (fun h => h _ _ _ hH hS (lv_sub hl_1 [1, 2, 3, 4, 5, 6, 7, 8, 9, 10, 11, 12, 13, 0] rfl)) ?_ ?_
  · intro H locs ls hH_4 hS_5 hl_6
    refine lv_iload hx hb dL_law_74 (lv_at hl_6 13 rfl) ?_
    refine lv_bipush (v := 6) hx hb dL_law_76 (by decide) ?_
    refine lv_icmp_ge (tgt := 94) hx hb dL_law_78 (by decide) (fun c_7 => ?_) (fun c_7 => absurd (by rw [hn6]; exact Int32.le_refl _) c_7)
    refine lv_aload_n hx hb dL_law_94 rfl (lv_at hl_6 1 rfl) ?_
    refine lv_iconst (v := 0) hx hb dL_law_95 (by decide) ?_
    refine lv_bipush (v := 6) hx hb dL_law_96 (by decide) ?_
    refine lv_iconst (v := 1) hx hb dL_law_98 (by decide) ?_
    refine lv_iconst (v := 0) hx hb dL_law_99 (by decide) ?_
    refine zk_cl (zk_rSH (As := [.ref (ac (0, 0, 0)), .int 0, .int 6, .int 1, .int 0]) (rest := []) (n := 5) (w := zk_sum 50 (cw cA (g 0) ac 6 0 0 6 0 0 0 (prI 6) mpL) (aw cA ad (piS n6) mpL)) C (qd_price_I l D cA A g ac 0 0 0 0 (prI 6) mpL _ hst 6 1 (fun z => by obtain ⟨j, hj, ej⟩ := z; exact absurd ((@nI_eq 6 j (by decide) (by omega)).mp ej) (by omega))) hH_4 hS_5 gL_law_L_does rfl rfl (by decide +kernel) ⟨Nat.le_of_ble_eq_true rfl, Nat.le_of_ble_eq_true rfl⟩ hl_6 rfl (Nat.le_of_ble_eq_true rfl) dL_law_100 ⟨by show cells + 2 ≤ 600104; omega, by show slots + 12 ≤ 7301314; omega⟩) hS_5 (fun r_8 w_9 H locs hP hH_10 hS_11 => ?_)
    obtain ⟨rfl, rfl⟩ := hP
    refine lv_ldc2 (v := (-3000000000000)) hx hb hown (hts (.constantLong RL 59 (-3000000000000)) (by decide +kernel)) dL_law_103 ?_
    refine zl_cmp_ne (tgt := 206) hx hb dL_law_106 dL_law_107 (by decide) (fun c_12 => absurd c_12 (by decide)) (fun c_12 => ?_)
    refine lv_aload_n hx hb dL_law_110 rfl (lv_at hl_6 1 rfl) ?_
    refine lv_iconst (v := 0) hx hb dL_law_111 (by decide) ?_
    refine lv_iconst (v := 0) hx hb dL_law_112 (by decide) ?_
    refine lv_bipush (v := 9) hx hb dL_law_113 (by decide) ?_
    refine lv_iconst (v := 0) hx hb dL_law_115 (by decide) ?_
    refine zk_cl (zk_rSH (As := [.ref (ac (0, 0, 0)), .int 0, .int 0, .int 9, .int 0]) (rest := []) (n := 5) (w := zk_sum 50 (cw cA (g 0) ac 6 0 0 6 0 0 0 (prI 6) mpL) (aw cA ad (piS n6) mpL)) C (qd_price_A l D cA A g ac 0 0 0 0 (prI 6) mpL _ hst 0 9 (by decide) (fun z => absurd z.1 (by decide))) hH_10 hS_11 gL_law_L_does rfl rfl (by decide +kernel) ⟨Nat.le_of_ble_eq_true rfl, Nat.le_of_ble_eq_true rfl⟩ hl_6 rfl (Nat.le_of_ble_eq_true rfl) dL_law_116 ⟨by show cells + 2 + 2 ≤ 600104; omega, by show slots + 12 + 12 ≤ 7301314; omega⟩) hS_11 (fun r_13 w_14 H locs hP hH_15 hS_16 => ?_)
    obtain ⟨rfl, rfl⟩ := hP
    refine lv_ldc2 (v := (-2000000000000)) hx hb hown (hts (.constantLong RL 63 (-2000000000000)) (by decide +kernel)) dL_law_119 ?_
    refine zl_cmp_ne (tgt := 206) hx hb dL_law_122 dL_law_123 (by decide) (fun c_17 => absurd c_17 (by decide)) (fun c_17 => ?_)
    refine lv_aload_n hx hb dL_law_126 rfl (lv_at hl_6 1 rfl) ?_
    refine lv_iconst (v := 2) hx hb dL_law_127 (by decide) ?_
    refine lv_iconst (v := 0) hx hb dL_law_128 (by decide) ?_
    refine lv_iconst (v := 1) hx hb dL_law_129 (by decide) ?_
    refine lv_iconst (v := 0) hx hb dL_law_130 (by decide) ?_
    refine zk_cl (zk_rSH (As := [.ref (ac (0, 0, 0)), .int 2, .int 0, .int 1, .int 0]) (rest := []) (n := 5) (w := zk_sum 50 (cw cA (g 0) ac 6 0 0 6 0 0 0 (prI 6) mpL) (aw cA ad (piS n6) mpL)) C (qd_pay_I l D cA A g ac 0 0 0 0 (prI 6) mpL _ hst 0 1 (fun z => by obtain ⟨j, hj, -⟩ := z; exact absurd hj (Nat.not_lt_zero j)) (by decide)) hH_15 hS_16 gL_law_L_does rfl rfl (by decide +kernel) ⟨Nat.le_of_ble_eq_true rfl, Nat.le_of_ble_eq_true rfl⟩ hl_6 rfl (Nat.le_of_ble_eq_true rfl) dL_law_131 ⟨by show cells + 2 + 2 + 2 ≤ 600104; omega, by show slots + 12 + 12 + 12 ≤ 7301314; omega⟩) hS_16 (fun r_18 w_19 H locs hP hH_20 hS_21 => ?_)
    obtain ⟨rfl, rfl⟩ := hP
    refine lv_ldc2 (v := (-3000000000000)) hx hb hown (hts (.constantLong RL 59 (-3000000000000)) (by decide +kernel)) dL_law_134 ?_
    refine zl_cmp_ne (tgt := 206) hx hb dL_law_137 dL_law_138 (by decide) (fun c_22 => absurd c_22 (by decide)) (fun c_22 => ?_)
    refine lv_aload_n hx hb dL_law_141 rfl (lv_at hl_6 1 rfl) ?_
    refine lv_bipush (v := 8) hx hb dL_law_142 (by decide) ?_
    refine lv_sipush (v := 401) hx hb dL_law_144 (by decide) ?_
    refine lv_iconst (v := 0) hx hb dL_law_147 (by decide) ?_
    refine lv_iconst (v := 0) hx hb dL_law_148 (by decide) ?_
    refine zk_cl (zk_rSH (As := [.ref (ac (0, 0, 0)), .int 8, .int 401, .int 0, .int 0]) (rest := []) (n := 5) (w := zk_sum 50 (cw cA (g 0) ac 6 0 0 6 0 0 0 (prI 6) mpL) (aw cA ad (piS n6) mpL)) C (qd_pass_A l D cA A g ac 0 0 0 0 (prI 6) mpL _ hst 401 (fun z => absurd z.2 (by decide)) (by decide) (by decide)) hH_20 hS_21 gL_law_L_does rfl rfl (by decide +kernel) ⟨Nat.le_of_ble_eq_true rfl, Nat.le_of_ble_eq_true rfl⟩ hl_6 rfl (Nat.le_of_ble_eq_true rfl) dL_law_149 ⟨by show cells + 2 + 2 + 2 + 1 ≤ 600104; omega, by show slots + 12 + 12 + 12 + 6 ≤ 7301314; omega⟩) hS_21 (fun r_23 w_24 H locs hP hH_25 hS_26 => ?_)
    obtain ⟨rfl, rfl⟩ := hP
    refine lv_ldc2 (v := (-2000000000000)) hx hb hown (hts (.constantLong RL 63 (-2000000000000)) (by decide +kernel)) dL_law_152 ?_
    refine zl_cmp_ne (tgt := 206) hx hb dL_law_155 dL_law_156 (by decide) (fun c_27 => absurd c_27 (by decide)) (fun c_27 => ?_)
    refine lv_aload_n hx hb dL_law_159 rfl (lv_at hl_6 1 rfl) ?_
    refine lv_bipush (v := 12) hx hb dL_law_160 (by decide) ?_
    refine lv_bipush (v := (-2)) hx hb dL_law_162 (by decide) ?_
    refine lv_iconst (v := 0) hx hb dL_law_164 (by decide) ?_
    refine lv_iconst (v := 0) hx hb dL_law_165 (by decide) ?_
    refine zk_cl (zk_rSH (As := [.ref (ac (0, 0, 0)), .int 12, .int (-2), .int 0, .int 0]) (rest := []) (n := 5) (w := zk_sum 50 (cw cA (g 0) ac 6 0 0 6 0 0 0 (prI 6) mpL) (aw cA ad (piS n6) mpL)) C (qd_parts_I l D cA A g ac 0 0 0 0 (prI 6) mpL _ hst (-2) 0 0 (fun z => z.elim (fun y => absurd y (by decide)) (fun z => by obtain ⟨j, hj, -⟩ := z; exact absurd hj (Nat.not_lt_zero j))) (by decide)) hH_25 hS_26 gL_law_L_does rfl rfl (by decide +kernel) ⟨Nat.le_of_ble_eq_true rfl, Nat.le_of_ble_eq_true rfl⟩ hl_6 rfl (Nat.le_of_ble_eq_true rfl) dL_law_166 ⟨by show cells + 2 + 2 + 2 + 1 + 2 ≤ 600104; omega, by show slots + 12 + 12 + 12 + 6 + 12 ≤ 7301314; omega⟩) hS_26 (fun r_28 w_29 H locs hP hH_30 hS_31 => ?_)
    obtain ⟨rfl, rfl⟩ := hP
    refine lv_ldc2 (v := (-3000000000000)) hx hb hown (hts (.constantLong RL 59 (-3000000000000)) (by decide +kernel)) dL_law_169 ?_
    refine zl_cmp_ne (tgt := 206) hx hb dL_law_172 dL_law_173 (by decide) (fun c_32 => absurd c_32 (by decide)) (fun c_32 => ?_)
    refine lv_aload_n hx hb dL_law_176 rfl (lv_at hl_6 1 rfl) ?_
    refine lv_bipush (v := 10) hx hb dL_law_177 (by decide) ?_
    refine lv_iconst (v := 0) hx hb dL_law_179 (by decide) ?_
    refine lv_iconst (v := 0) hx hb dL_law_180 (by decide) ?_
    refine lv_iconst (v := 0) hx hb dL_law_181 (by decide) ?_
    refine zk_cl (zk_rSH (As := [.ref (ac (0, 0, 0)), .int 10, .int 0, .int 0, .int 0]) (rest := []) (n := 5) (w := zk_sum 50 (cw cA (g 0) ac 6 0 0 6 0 0 0 (prI 6) mpL) (aw cA ad (piS n6) mpL)) C (qd_year_I l D cA A g ac 0 0 0 0 (prI 6) mpL _ hst 0 0 0 (fun z => by obtain ⟨j, hj, -⟩ := z; exact absurd hj (Nat.not_lt_zero j)) (by decide)) hH_30 hS_31 gL_law_L_does rfl rfl (by decide +kernel) ⟨Nat.le_of_ble_eq_true rfl, Nat.le_of_ble_eq_true rfl⟩ hl_6 rfl (Nat.le_of_ble_eq_true rfl) dL_law_182 ⟨by show cells + 2 + 2 + 2 + 1 + 2 + 2 ≤ 600104; omega, by show slots + 12 + 12 + 12 + 6 + 12 + 12 ≤ 7301314; omega⟩) hS_31 (fun r_33 w_34 H locs hP hH_35 hS_36 => ?_)
    obtain ⟨rfl, rfl⟩ := hP
    refine lv_ldc2 (v := (-3000000000000)) hx hb hown (hts (.constantLong RL 59 (-3000000000000)) (by decide +kernel)) dL_law_185 ?_
    refine zl_cmp_ne (tgt := 206) hx hb dL_law_188 dL_law_189 (by decide) (fun c_37 => absurd c_37 (by decide)) (fun c_37 => ?_)
    refine lv_aload_n hx hb dL_law_192 rfl (lv_at hl_6 1 rfl) ?_
    refine lv_iconst (v := (-1)) hx hb dL_law_193 (by decide) ?_
    refine zk_cl (zk_rV (As := [.int (-1)]) (rest := []) (n := 1) (k := (0, 0, 0)) (w := zk_sum 50 (cw cA (g 0) ac 6 0 0 6 0 0 0 (prI 6) mpL) (aw cA ad (piS n6) mpL)) C (q_cash0 l D cA A g ac 0 0 0 0 (prI 6) mpL _ hst (by decide)) hH_35 hS_36 rfl rfl rfl gL_law_X4_cash rfl rfl (by decide +kernel) ⟨Nat.le_of_ble_eq_true rfl, Nat.le_of_ble_eq_true rfl⟩ hl_6 rfl (Nat.le_of_ble_eq_true rfl) dL_law_194 ⟨by show cells + 2 + 2 + 2 + 1 + 2 + 2 + 1 ≤ 600104; omega, by show slots + 12 + 12 + 12 + 6 + 12 + 12 + 6 ≤ 7301314; omega⟩) hS_36 (fun r_38 w_39 H locs hP hH_40 hS_41 => ?_)
    obtain ⟨rfl, rfl⟩ := hP
    refine lv_lconst (v := 0) hx hb dL_law_197 (by decide) ?_
    refine zl_cmp_ne (tgt := 206) hx hb dL_law_198 dL_law_199 (by decide) (fun c_42 => absurd c_42 (by decide)) (fun c_42 => ?_)
    refine lv_iconst (v := 1) hx hb dL_law_202 (by decide) ?_
    refine lv_goto (tgt := 207) hx hb dL_law_203 (by decide) ?_
    refine lv_istore (lv' := [(13, .int 1), (0, .ref sb), (1, .ref (ac (0, 0, 0))), (2, .ref (ad (0, 0, 0))), (3, .ref (ad (1, 0, 0))), (4, .ref (ad (2, 0, 0))), (5, .ref (ad (3, 0, 0))), (6, .ref (ad (4, 0, 0))), (7, .ref (ad (5, 0, 0))), (8, .ref (ad (6, 0, 0))), (9, .ref (ad (7, 0, 0))), (10, .ref (ad (8, 0, 0))), (11, .ref (ad (9, 0, 0))), (12, .ref (ad (10, 0, 0)))]) hx hb dL_law_207 hl_6 (by decide) rfl (fun ls hl_43 => ?_)
    refine lv_iconst (v := 0) hx hb dL_law_209 (by decide) ?_
    refine lv_istore (lv' := [(14, .int 0), (13, .int 1), (0, .ref sb), (1, .ref (ac (0, 0, 0))), (2, .ref (ad (0, 0, 0))), (3, .ref (ad (1, 0, 0))), (4, .ref (ad (2, 0, 0))), (5, .ref (ad (3, 0, 0))), (6, .ref (ad (4, 0, 0))), (7, .ref (ad (5, 0, 0))), (8, .ref (ad (6, 0, 0))), (9, .ref (ad (7, 0, 0))), (10, .ref (ad (8, 0, 0))), (11, .ref (ad (9, 0, 0))), (12, .ref (ad (10, 0, 0)))]) hx hb dL_law_210 hl_43 (by decide) rfl (fun ls hl_44 => ?_)
    exact W.widen (by show cells + 2 + 2 + 2 + 1 + 2 + 2 + 1 ≤ cells + 60; omega) (by show slots + 12 + 12 + 12 + 6 + 12 + 12 + 6 ≤ slots + 400; omega) (K H locs _ hH_40 hS_41 (lv_sub hl_44 [2, 3, 4, 5, 6, 7, 8, 9, 10, 11, 12, 13, 14, 1, 0] rfl))
  · intro i_2 hi_2 ih_3 H locs ls hH_45 hS_46 hl_47
    refine lv_iload hx hb dL_law_74 (lv_at hl_47 13 rfl) ?_
    refine lv_bipush (v := 6) hx hb dL_law_76 (by decide) ?_
    refine lv_icmp_ge (tgt := 94) hx hb dL_law_78 (by decide) (fun c_48 => absurd c_48 (nI_ge (b := 6) (by omega) (by omega))) (fun c_48 => ?_)
    refine lv_aload_n hx hb dL_law_81 rfl (lv_at hl_47 2 rfl) ?_
    refine lv_iload hx hb dL_law_82 (lv_at hl_47 13 rfl) ?_
    refine lv_sipush (v := 10000) hx hb dL_law_84 (by decide) ?_
    refine ls_ist C hH_45 hS_46 0 rfl (by decide) (j := i_2) rfl (show i_2 < 6 by omega) dL_law_87 (fun H locs hH_49 hS_50 => ?_)
    refine lv_iinc (v := nI (i_2 + 1)) (lv' := [(13, .int (nI (i_2 + 1))), (0, .ref sb), (1, .ref (ac (0, 0, 0))), (2, .ref (ad (0, 0, 0))), (3, .ref (ad (1, 0, 0))), (4, .ref (ad (2, 0, 0))), (5, .ref (ad (3, 0, 0))), (6, .ref (ad (4, 0, 0))), (7, .ref (ad (5, 0, 0))), (8, .ref (ad (6, 0, 0))), (9, .ref (ad (7, 0, 0))), (10, .ref (ad (8, 0, 0))), (11, .ref (ad (9, 0, 0))), (12, .ref (ad (10, 0, 0)))]) hx hb dL_law_88 hl_47 (k := 13) rfl (nI_1 i_2) (by decide) rfl (fun ls hl_51 => ?_)
    refine lv_goto (tgt := 74) hx hb dL_law_91 (by decide) ?_
    exact ih_3 _ _ _ hH_49 hS_50 (lv_sub hl_51 [1, 2, 3, 4, 5, 6, 7, 8, 9, 10, 11, 12, 13, 0] rfl)
end LAW
