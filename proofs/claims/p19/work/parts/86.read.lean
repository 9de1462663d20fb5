section LAW
variable {p : Program} {l : Launch} {e : Env} {s : State} {m : MethodId} {below : List Frame} {meth : Method} {c : Code} {H : Heap} {locs : List Loc} {cells slots : Nat} {Q : State → Prop} {ls : Array Slot} {D : va_G} {cA : Nat → ClassId} {A : Nat → Prop} {g : Nat → Nat}
variable {sb k one two b nc nt dy cl fd f : Nat} {ac ad : zk_K → Nat} {mo : Int64} {I Ia : zIA} {L La : zLA}
set_option maxHeartbeats 2000000 in
set_option maxRecDepth 100000 in
theorem lw_read (C : zC p l m c cL_law 33 s #[.ref sb] wsL_law RL D (zt cA) A g meth) (hst : l.stackTraces = false) {L0 : Nat} {xs : Nat → Int32} (hX : zScr sb L0 xs A s) (hL0 : L0 ≤ 260) (hJ : zJ nc nt dy b mo I L Ia La) (hb8 : b ≤ 8000) (hk : k < 60) (hc : cells + 30 ≤ 600104) (hs : slots + 2200 ≤ 7301314) (hH : zk_H D A (zk_sum 50 (cw cA (g 0) ac 6 nc nc 6 nt dy mo I L) (aw cA ad Ia La)) H) (hS : va_S A s.heap H locs) {w : Nat} (hw : w < 32) (h01 : w = 1 ∨ 1 ≤ nc) (hl : lv_has ls 33 [(0, .ref sb), (1, .ref (ac (0, 0, 0))), (2, .ref (ad (0, 0, 0))), (3, .ref (ad (1, 0, 0))), (4, .ref (ad (2, 0, 0))), (5, .ref (ad (3, 0, 0))), (6, .ref (ad (4, 0, 0))), (7, .ref (ad (5, 0, 0))), (8, .ref (ad (6, 0, 0))), (9, .ref (ad (7, 0, 0))), (10, .ref (ad (8, 0, 0))), (11, .ref (ad (9, 0, 0))), (12, .ref (ad (10, 0, 0))), (13, .int 1), (14, .int (nI k))]) (K : ∀ one two : Nat, one < 60000 → two < 60000 → lwK p l e s m below meth c D cA A g sb k one two (b + 12) (ac (0, 0, 0)) ad (cells + 30) (slots + 2200) Q) : W p l e room_1 s m #[.ref sb] below meth c H locs cells slots Q (F0 m 254 ls [.int (nI w)]) := by
  obtain ⟨⟨hx, hb, hml, hown, hts⟩, hG, hlk⟩ := id C
  refine lv_istore (lv' := [(15, .int (nI w)), (0, .ref sb), (1, .ref (ac (0, 0, 0))), (2, .ref (ad (0, 0, 0))), (3, .ref (ad (1, 0, 0))), (4, .ref (ad (2, 0, 0))), (5, .ref (ad (3, 0, 0))), (6, .ref (ad (4, 0, 0))), (7, .ref (ad (5, 0, 0))), (8, .ref (ad (6, 0, 0))), (9, .ref (ad (7, 0, 0))), (10, .ref (ad (8, 0, 0))), (11, .ref (ad (9, 0, 0))), (12, .ref (ad (10, 0, 0))), (13, .int 1), (14, .int (nI k))]) hx hb dL_law_254 hl (by decide) rfl (fun ls hl_1 => ?_)
  refine lv_aload_n hx hb dL_law_256 rfl (lv_at hl_1 1 rfl) ?_
  refine lv_iconst (v := 3) hx hb dL_law_257 (by decide) ?_
  refine lv_iload hx hb dL_law_258 (lv_at hl_1 15 rfl) ?_
  refine lv_imul hx hb dL_law_260 ?_
  refine W.eq (g2 := F0 m 261 ls [.int (nI (3 * k)), .ref sb]) (by rw [show (3 * (nI k) : Int32) = nI (3 * k) from (zi_mul rfl rfl)]) ?_
  refine lv_iconst (v := 1) hx hb dL_law_261 (by decide) ?_
  refine lv_iadd hx hb dL_law_262 ?_
  refine W.eq (g2 := F0 m 263 ls [.int (nI ((3 * k) + 1)), .ref sb]) (by rw [show ((nI (3 * k)) + 1 : Int32) = nI ((3 * k) + 1) from (zi_add rfl rfl)]) ?_
  refine lv_ldc (v := 60000) hx hb hown (hts (.constant RL 131 60000) (by decide +kernel)) dL_law_263 ?_
  refine zk_ci (zk_rSS (As := [.ref sb, .int (nI ((3 * k) + 1)), .int 60000]) (rest := []) (n := 3) (w := zk_sum 50 (cw cA (g 0) ac 6 nc nc 6 nt dy mo I L) (aw cA ad Ia La)) C ⟨hX, cH_part l D cA A g (zk_sum 50 (cw cA (g 0) ac 6 nc nc 6 nt dy mo I L) (aw cA ad Ia La)) sb L0 ((3 * k) + 1) 60000 xs hL0 (by omega) (by decide) (by decide)⟩ hH hS gL_law_L_part rfl rfl (by decide +kernel) ⟨Nat.le_of_ble_eq_true rfl, Nat.le_of_ble_eq_true rfl⟩ hl_1 rfl (Nat.le_of_ble_eq_true rfl) dL_law_265 ⟨by show cells + 0 ≤ 600104; omega, by show slots + 0 ≤ 7301314; omega⟩) hS (fun r_2 w_3 H locs hP hH_4 hS_5 => ?_)
  obtain ⟨⟨j_6, hj_6, rfl⟩, rfl⟩ := hP
  refine lv_istore (lv' := [(16, .int (nI j_6)), (15, .int (nI w)), (0, .ref sb), (1, .ref (ac (0, 0, 0))), (2, .ref (ad (0, 0, 0))), (3, .ref (ad (1, 0, 0))), (4, .ref (ad (2, 0, 0))), (5, .ref (ad (3, 0, 0))), (6, .ref (ad (4, 0, 0))), (7, .ref (ad (5, 0, 0))), (8, .ref (ad (6, 0, 0))), (9, .ref (ad (7, 0, 0))), (10, .ref (ad (8, 0, 0))), (11, .ref (ad (9, 0, 0))), (12, .ref (ad (10, 0, 0))), (13, .int 1), (14, .int (nI k))]) hx hb dL_law_268 hl_1 (by decide) rfl (fun ls hl_7 => ?_)
  refine lv_aload_n hx hb dL_law_270 rfl (lv_at hl_7 2 rfl) ?_
  refine lv_iconst (v := 3) hx hb dL_law_271 (by decide) ?_
  refine lv_iload hx hb dL_law_272 (lv_at hl_7 16 rfl) ?_
  refine lv_imul hx hb dL_law_274 ?_
  refine W.eq (g2 := F0 m 275 ls [.int (nI (3 * k)), .ref sb]) (by rw [show (3 * (nI k) : Int32) = nI (3 * k) from (zi_mul rfl rfl)]) ?_
  refine lv_iconst (v := 2) hx hb dL_law_275 (by decide) ?_
  refine lv_iadd hx hb dL_law_276 ?_
  refine W.eq (g2 := F0 m 277 ls [.int (nI ((3 * k) + 2)), .ref sb]) (by rw [show ((nI (3 * k)) + 2 : Int32) = nI ((3 * k) + 2) from (zi_add rfl rfl)]) ?_
  refine lv_ldc (v := 60000) hx hb hown (hts (.constant RL 131 60000) (by decide +kernel)) dL_law_277 ?_
  refine zk_ci (zk_rSS (As := [.ref sb, .int (nI ((3 * k) + 2)), .int 60000]) (rest := []) (n := 3) (w := zk_sum 50 (cw cA (g 0) ac 6 nc nc 6 nt dy mo I L) (aw cA ad Ia La)) C ⟨hX, cH_part l D cA A g (zk_sum 50 (cw cA (g 0) ac 6 nc nc 6 nt dy mo I L) (aw cA ad Ia La)) sb L0 ((3 * k) + 2) 60000 xs hL0 (by omega) (by decide) (by decide)⟩ hH_4 hS_5 gL_law_L_part rfl rfl (by decide +kernel) ⟨Nat.le_of_ble_eq_true rfl, Nat.le_of_ble_eq_true rfl⟩ hl_7 rfl (Nat.le_of_ble_eq_true rfl) dL_law_279 ⟨by show cells + 0 + 0 ≤ 600104; omega, by show slots + 0 + 0 ≤ 7301314; omega⟩) hS_5 (fun r_8 w_9 H locs hP hH_10 hS_11 => ?_)
  obtain ⟨⟨j_12, hj_12, rfl⟩, rfl⟩ := hP
  refine lv_istore (lv' := [(17, .int (nI j_12)), (16, .int (nI j_6)), (15, .int (nI w)), (0, .ref sb), (1, .ref (ac (0, 0, 0))), (2, .ref (ad (0, 0, 0))), (3, .ref (ad (1, 0, 0))), (4, .ref (ad (2, 0, 0))), (5, .ref (ad (3, 0, 0))), (6, .ref (ad (4, 0, 0))), (7, .ref (ad (5, 0, 0))), (8, .ref (ad (6, 0, 0))), (9, .ref (ad (7, 0, 0))), (10, .ref (ad (8, 0, 0))), (11, .ref (ad (9, 0, 0))), (12, .ref (ad (10, 0, 0))), (13, .int 1), (14, .int (nI k))]) hx hb dL_law_282 hl_7 (by decide) rfl (fun ls hl_13 => ?_)
  exact lw_turn C hst hJ hb8 hj_6 hj_12 hk hc hs hH_10 hS_11 hw h01 (lv_sub hl_13 [3, 4, 5, 6, 7, 8, 9, 10, 11, 12, 13, 14, 15, 16, 17, 2, 1, 0] rfl) (K j_6 j_12 hj_6 hj_12)
set_option maxHeartbeats 2000000 in
set_option maxRecDepth 100000 in
theorem lw_step (C : zC p l m c cL_law 33 s #[.ref sb] wsL_law RL D (zt cA) A g meth) (hst : l.stackTraces = false) {L0 : Nat} {xs : Nat → Int32} (hX : zScr sb L0 xs A s) (hL0 : L0 ≤ 260) (hJ : zJ nc nt dy b mo I L Ia La) (hb8 : b ≤ 8000) (hk : k < 60) (hc : cells + 30 ≤ 600104) (hs : slots + 2200 ≤ 7301314) (hH : zk_H D A (zk_sum 50 (cw cA (g 0) ac 6 nc nc 6 nt dy mo I L) (aw cA ad Ia La)) H) (hS : va_S A s.heap H locs) (hk0 : k = 0 ∨ 1 ≤ nc) (hl : lv_has ls 33 [(0, .ref sb), (1, .ref (ac (0, 0, 0))), (2, .ref (ad (0, 0, 0))), (3, .ref (ad (1, 0, 0))), (4, .ref (ad (2, 0, 0))), (5, .ref (ad (3, 0, 0))), (6, .ref (ad (4, 0, 0))), (7, .ref (ad (5, 0, 0))), (8, .ref (ad (6, 0, 0))), (9, .ref (ad (7, 0, 0))), (10, .ref (ad (8, 0, 0))), (11, .ref (ad (9, 0, 0))), (12, .ref (ad (10, 0, 0))), (13, .int 1), (14, .int (nI k))]) (K : ∀ one two : Nat, one < 60000 → two < 60000 → lwK p l e s m below meth c D cA A g sb k one two (b + 12) (ac (0, 0, 0)) ad (cells + 30) (slots + 2200) Q) : W p l e room_1 s m #[.ref sb] below meth c H locs cells slots Q (F0 m 224 ls []) := by
  obtain ⟨⟨hx, hb, hml, hown, hts⟩, hG, hlk⟩ := id C
  refine lv_iload hx hb dL_law_224 (lv_at hl 14 rfl) ?_
  refine lv_iconst (v := 2) hx hb dL_law_226 (by decide) ?_
  refine lv_icmp_ge (tgt := 234) hx hb dL_law_227 (by decide) (fun c_1 => ?_) (fun c_1 => ?_)
  · have hk2 : 2 ≤ k := (nI_leI (by decide) (by omega)).mp (show nI 2 ≤ nI k from c_1)
    refine lv_iload hx hb dL_law_234 (lv_at hl 14 rfl) ?_
    refine lv_iconst (v := 4) hx hb dL_law_236 (by decide) ?_
    refine lv_icmp_ge (tgt := 244) hx hb dL_law_237 (by decide) (fun c_2 => ?_) (fun c_2 => ?_)
    · refine lv_aload_n hx hb dL_law_244 rfl (lv_at hl 0 rfl) ?_
      refine lv_iconst (v := 3) hx hb dL_law_245 (by decide) ?_
      refine lv_iload hx hb dL_law_246 (lv_at hl 14 rfl) ?_
      refine lv_imul hx hb dL_law_248 ?_
      refine W.eq (g2 := F0 m 249 ls [.int (nI (3 * k)), .ref sb]) (by rw [show (3 * (nI k) : Int32) = nI (3 * k) from (zi_mul rfl rfl)]) ?_
      refine lv_bipush (v := 32) hx hb dL_law_249 (by decide) ?_
      refine zk_ci (zk_rSS (As := [.ref sb, .int (nI (3 * k)), .int 32]) (rest := []) (n := 3) (w := zk_sum 50 (cw cA (g 0) ac 6 nc nc 6 nt dy mo I L) (aw cA ad Ia La)) C ⟨hX, cH_part l D cA A g (zk_sum 50 (cw cA (g 0) ac 6 nc nc 6 nt dy mo I L) (aw cA ad Ia La)) sb L0 (3 * k) 32 xs hL0 (by omega) (by decide) (by decide)⟩ hH hS gL_law_L_part rfl rfl (by decide +kernel) ⟨Nat.le_of_ble_eq_true rfl, Nat.le_of_ble_eq_true rfl⟩ hl rfl (Nat.le_of_ble_eq_true rfl) dL_law_251 ⟨by show cells + 0 ≤ 600104; omega, by show slots + 0 ≤ 7301314; omega⟩) hS (fun r_3 w_4 H locs hP hH_5 hS_6 => ?_)
      obtain ⟨⟨j_7, hj_7, rfl⟩, rfl⟩ := hP
      exact lw_read C hst hX hL0 hJ hb8 hk hc hs hH_5 hS_6 hj_7 (Or.inr (by omega)) (lv_sub hl [0, 1, 2, 3, 4, 5, 6, 7, 8, 9, 10, 11, 12, 13, 14] rfl) K
    · refine lv_iconst (v := 2) hx hb dL_law_240 (by decide) ?_
      refine lv_goto (tgt := 254) hx hb dL_law_241 (by decide) ?_
      exact lw_read (w := 2) C hst hX hL0 hJ hb8 hk hc hs hH hS (by decide) (Or.inr (by omega)) (lv_sub hl [0, 1, 2, 3, 4, 5, 6, 7, 8, 9, 10, 11, 12, 13, 14] rfl) K
  · refine lv_iconst (v := 1) hx hb dL_law_230 (by decide) ?_
    refine lv_goto (tgt := 254) hx hb dL_law_231 (by decide) ?_
    exact lw_read (w := 1) C hst hX hL0 hJ hb8 hk hc hs hH hS (by decide) (Or.inl rfl) (lv_sub hl [0, 1, 2, 3, 4, 5, 6, 7, 8, 9, 10, 11, 12, 13, 14] rfl) K
set_option maxHeartbeats 2000000 in
set_option maxRecDepth 100000 in
theorem lw_so (C : zC p l m c cL_law 33 s #[.ref sb] wsL_law RL D (zt cA) A g meth) (hst : l.stackTraces = false) (hJ : zJ nc nt dy b mo I L Ia La) (hone : one < 60000) (htwo : two < 60000) (hc1 : 1 ≤ nc) (hc : cells + 570 ≤ 600104) (hs : slots + 3260 ≤ 7301314) (hH : zk_H D A (zk_sum 50 (cw cA (g 0) ac 6 nc nc 6 nt dy mo I L) (aw cA ad Ia La)) H) (hS : va_S A s.heap H locs) (hl : lv_has ls 33 [(0, .ref sb), (1, .ref (ac (0, 0, 0))), (2, .ref (ad (0, 0, 0))), (3, .ref (ad (1, 0, 0))), (4, .ref (ad (2, 0, 0))), (5, .ref (ad (3, 0, 0))), (6, .ref (ad (4, 0, 0))), (7, .ref (ad (5, 0, 0))), (8, .ref (ad (6, 0, 0))), (9, .ref (ad (7, 0, 0))), (10, .ref (ad (8, 0, 0))), (11, .ref (ad (9, 0, 0))), (12, .ref (ad (10, 0, 0))), (13, .int 1), (14, .int (nI k)), (16, .int (nI one)), (17, .int (nI two))]) (K : ∀ (La2 : zLA) (H : Heap) (locs : List Loc) (ls : Array Slot), zk_H D A (zk_sum 50 (cw cA (g 0) ac 6 nc nc 6 nt dy mo I L) (aw cA ad Ia La2)) H → va_S A s.heap H locs → zJ nc nt dy b mo I L Ia La2 → lv_has ls 33 [(0, .ref sb), (1, .ref (ac (0, 0, 0))), (2, .ref (ad (0, 0, 0))), (3, .ref (ad (1, 0, 0))), (4, .ref (ad (2, 0, 0))), (5, .ref (ad (3, 0, 0))), (6, .ref (ad (4, 0, 0))), (7, .ref (ad (5, 0, 0))), (8, .ref (ad (6, 0, 0))), (9, .ref (ad (7, 0, 0))), (10, .ref (ad (8, 0, 0))), (11, .ref (ad (9, 0, 0))), (12, .ref (ad (10, 0, 0))), (13, .int 1), (14, .int (nI (k + 1)))] → W p l e room_1 s m #[.ref sb] below meth c H locs (cells + 570) (slots + 3260) Q (F0 m 212 ls [])) : W p l e room_1 s m #[.ref sb] below meth c H locs cells slots Q (F0 m 2146 ls []) := by
  obtain ⟨⟨hx, hb, hml, hown, hts⟩, hG, hlk⟩ := id C
  refine lv_iload hx hb dL_law_2146 (lv_at hl 13 rfl) ?_
  refine lv_if_eq (tgt := 2184) hx hb dL_law_2148 (by decide) (fun c_1 => absurd c_1 (by decide)) (fun c_1 => ?_)
  refine lv_aload_n hx hb dL_law_2151 rfl (lv_at hl 1 rfl) ?_
  refine lv_aload_n hx hb dL_law_2152 rfl (lv_at hl 2 rfl) ?_
  refine lv_aload_n hx hb dL_law_2153 rfl (lv_at hl 3 rfl) ?_
  refine lv_aload hx hb dL_law_2154 (lv_at hl 4 rfl) ?_
  refine lv_aload hx hb dL_law_2156 (lv_at hl 6 rfl) ?_
  refine lv_aload hx hb dL_law_2158 (lv_at hl 7 rfl) ?_
  refine lv_aload hx hb dL_law_2160 (lv_at hl 8 rfl) ?_
  refine lv_aload hx hb dL_law_2162 (lv_at hl 12 rfl) ?_
  refine lv_aload hx hb dL_law_2164 (lv_at hl 10 rfl) ?_
  refine lv_aload hx hb dL_law_2166 (lv_at hl 11 rfl) ?_
  refine lv_aload hx hb dL_law_2168 (lv_at hl 9 rfl) ?_
  refine lv_iload hx hb dL_law_2170 (lv_at hl 15 rfl) ?_
  refine lv_iload hx hb dL_law_2172 (lv_at hl 16 rfl) ?_
  refine zk_ci (zk_rS (As := [.ref (ac (0, 0, 0)), .ref (ad (0, 0, 0)), .ref (ad (1, 0, 0)), .ref (ad (2, 0, 0)), .ref (ad (4, 0, 0)), .ref (ad (5, 0, 0)), .ref (ad (6, 0, 0)), .ref (ad (10, 0, 0)), .ref (ad (8, 0, 0)), .ref (ad (9, 0, 0)), .ref (ad (7, 0, 0)), .int (nI one), .int (nI two)]) (rest := []) (n := 13) (w := zk_sum 50 (cw cA (g 0) ac 6 nc nc 6 nt dy mo I L) (aw cA ad Ia La)) C (cH_isSo l hst D cA A g ac ad nc nt dy b mo I L Ia La one two hJ hc1 hone htwo) hH hS gL_law_L_isSo rfl rfl (by decide +kernel) ⟨Nat.le_of_ble_eq_true rfl, Nat.le_of_ble_eq_true rfl⟩ hl rfl (Nat.le_of_ble_eq_true rfl) dL_law_2174 ⟨by show cells + 570 ≤ 600104; omega, by show slots + 3260 ≤ 7301314; omega⟩) hS (fun r_2 w_3 H locs hP hH_4 hS_5 => ?_)
  obtain ⟨rfl, La2, hLa, rfl⟩ := hP
  refine lv_if_eq (tgt := 2184) hx hb dL_law_2177 (by decide) (fun c_6 => absurd c_6 (by decide)) (fun c_6 => ?_)
  refine lv_iconst (v := 1) hx hb dL_law_2180 (by decide) ?_
  refine lv_goto (tgt := 2185) hx hb dL_law_2181 (by decide) ?_
  refine lv_istore (lv' := [(13, .int 1), (0, .ref sb), (1, .ref (ac (0, 0, 0))), (2, .ref (ad (0, 0, 0))), (3, .ref (ad (1, 0, 0))), (4, .ref (ad (2, 0, 0))), (5, .ref (ad (3, 0, 0))), (6, .ref (ad (4, 0, 0))), (7, .ref (ad (5, 0, 0))), (8, .ref (ad (6, 0, 0))), (9, .ref (ad (7, 0, 0))), (10, .ref (ad (8, 0, 0))), (11, .ref (ad (9, 0, 0))), (12, .ref (ad (10, 0, 0))), (14, .int (nI k)), (16, .int (nI one)), (17, .int (nI two))]) hx hb dL_law_2185 hl (by decide) rfl (fun ls hl_7 => ?_)
  refine lv_iinc (v := nI (k + 1)) (lv' := [(14, .int (nI (k + 1))), (13, .int 1), (0, .ref sb), (1, .ref (ac (0, 0, 0))), (2, .ref (ad (0, 0, 0))), (3, .ref (ad (1, 0, 0))), (4, .ref (ad (2, 0, 0))), (5, .ref (ad (3, 0, 0))), (6, .ref (ad (4, 0, 0))), (7, .ref (ad (5, 0, 0))), (8, .ref (ad (6, 0, 0))), (9, .ref (ad (7, 0, 0))), (10, .ref (ad (8, 0, 0))), (11, .ref (ad (9, 0, 0))), (12, .ref (ad (10, 0, 0))), (16, .int (nI one)), (17, .int (nI two))]) hx hb dL_law_2187 hl_7 (k := 14) rfl (nI_1 k) (by decide) rfl (fun ls hl_8 => ?_)
  refine lv_goto (tgt := 212) hx hb dL_law_2190 (by decide) ?_
  exact K La2 H locs _ hH_4 hS_5 (hJ.scr hLa) (lv_sub hl_8 [2, 3, 4, 5, 6, 7, 8, 9, 10, 11, 12, 13, 14, 1, 0] rfl)
end LAW
