section LAW
variable {p : Program} {l : Launch} {e : Env} {s : State} {m : MethodId} {below : List Frame} {meth : Method} {c : Code} {H : Heap} {locs : List Loc} {cells slots : Nat} {Q : State → Prop} {ls : Array Slot} {D : va_G} {cA : Nat → ClassId} {A : Nat → Prop} {g : Nat → Nat}
variable {sb k one two b nc nt dy cl fd f : Nat} {ac ad : zk_K → Nat} {mo : Int64} {I Ia : zIA} {L La : zLA}
set_option maxHeartbeats 2000000 in
set_option maxRecDepth 100000 in
theorem lw_turn (C : zC p l m c cL_law 33 s #[.ref sb] wsL_law RL D (zt cA) A g meth) (hst : l.stackTraces = false) (hJ : zJ nc nt dy b mo I L Ia La) (hb8 : b ≤ 8000) (hone : one < 60000) (htwo : two < 60000) (hk : k < 60) (hc : cells + 30 ≤ 600104) (hs : slots + 2200 ≤ 7301314) (hH : zk_H D A (zk_sum 50 (cw cA (g 0) ac 6 nc nc 6 nt dy mo I L) (aw cA ad Ia La)) H) (hS : va_S A s.heap H locs) {w : Nat} (hw : w < 32) (h01 : w = 1 ∨ 1 ≤ nc) (hl : lv_has ls 33 [(0, .ref sb), (1, .ref (ac (0, 0, 0))), (2, .ref (ad (0, 0, 0))), (3, .ref (ad (1, 0, 0))), (4, .ref (ad (2, 0, 0))), (5, .ref (ad (3, 0, 0))), (6, .ref (ad (4, 0, 0))), (7, .ref (ad (5, 0, 0))), (8, .ref (ad (6, 0, 0))), (9, .ref (ad (7, 0, 0))), (10, .ref (ad (8, 0, 0))), (11, .ref (ad (9, 0, 0))), (12, .ref (ad (10, 0, 0))), (13, .int 1), (14, .int (nI k)), (15, .int (nI w)), (16, .int (nI one)), (17, .int (nI two))]) (K : lwK p l e s m below meth c D cA A g sb k one two (b + 12) (ac (0, 0, 0)) ad (cells + 30) (slots + 2200) Q) : W p l e room_1 s m #[.ref sb] below meth c H locs cells slots Q (F0 m 284 ls []) := by
  obtain ⟨⟨hx, hb, hml, hown, hts⟩, hG, hlk⟩ := id C
  obtain ⟨hI, ⟨hn3, hn30⟩, ⟨e0, e1, e2⟩, -⟩ := id hJ
  obtain ⟨cl, hcl0, hcl1⟩ : ∃ x, x = one % (nc + 1) ∧ x < nc + 1 := ⟨_, rfl, Nat.mod_lt _ (by omega)⟩
  have hcl : cl ≤ nc := by omega
  obtain ⟨fd, hfd0, hfd⟩ : ∃ x, x = two % 7 ∧ x < 7 := ⟨_, rfl, Nat.mod_lt _ (by omega)⟩
  obtain ⟨f, hf0, hf⟩ : ∃ x, x = fd % 6 ∧ x < 6 := ⟨_, rfl, Nat.mod_lt _ (by omega)⟩
  have hff : fd < 6 → f = fd := fun h => by rw [hf0]; exact Nat.mod_eq_of_lt h
  refine lv_iload hx hb dL_law_284 (lv_at hl 16 rfl) ?_
  refine lv_aload hx hb dL_law_286 (lv_at hl 12 rfl) ?_
  refine lv_iconst (v := 1) hx hb dL_law_288 (by decide) ?_
  refine ls_ild C hH 10 rfl (by decide) (j := 1) rfl (show 1 < 3 by omega) dL_law_289 ?_
  refine W.eq (g2 := F0 m 290 ls [.int (nI nc), .int (nI one)]) (by rw [e1]) ?_
  refine lv_iconst (v := 1) hx hb dL_law_290 (by decide) ?_
  refine lv_iadd hx hb dL_law_291 ?_
  refine W.eq (g2 := F0 m 292 ls [.int (nI (nc + 1)), .int (nI one)]) (by rw [show ((nI nc) + 1 : Int32) = nI (nc + 1) from (zi_add rfl rfl)]) ?_
  refine lv_irem hx hb dL_law_292 (fun z => absurd ((nI_k0 (by omega)).mp z) (by omega)) ?_
  refine W.eq (g2 := F0 m 293 ls [.int (nI (one % (nc + 1)))]) (by rw [show ((nI one) - (nI one) / (nI (nc + 1)) * (nI (nc + 1)) : Int32) = nI (one % (nc + 1)) from (zi_rem rfl rfl (by omega) (by omega) (by omega))]) ?_
  refine W.eq (g2 := F0 m 293 ls [.int (nI cl)]) (by rw [hcl0]) ?_
  refine lv_istore (lv' := [(18, .int (nI cl)), (0, .ref sb), (1, .ref (ac (0, 0, 0))), (2, .ref (ad (0, 0, 0))), (3, .ref (ad (1, 0, 0))), (4, .ref (ad (2, 0, 0))), (5, .ref (ad (3, 0, 0))), (6, .ref (ad (4, 0, 0))), (7, .ref (ad (5, 0, 0))), (8, .ref (ad (6, 0, 0))), (9, .ref (ad (7, 0, 0))), (10, .ref (ad (8, 0, 0))), (11, .ref (ad (9, 0, 0))), (12, .ref (ad (10, 0, 0))), (13, .int 1), (14, .int (nI k)), (15, .int (nI w)), (16, .int (nI one)), (17, .int (nI two))]) hx hb dL_law_293 hl (by decide) rfl (fun ls hl_1 => ?_)
  refine lv_iload hx hb dL_law_295 (lv_at hl_1 18 rfl) ?_
  refine lv_bipush (v := 7) hx hb dL_law_297 (by decide) ?_
  refine lv_irem hx hb dL_law_299 (by decide) ?_
  refine W.eq (g2 := F0 m 300 ls [.int (nI (two % 7))]) (by rw [show ((nI two) - (nI two) / 7 * 7 : Int32) = nI (two % 7) from (zi_rem rfl (b := 7) rfl (by omega) (by decide) (by decide))]) ?_
  refine W.eq (g2 := F0 m 300 ls [.int (nI fd)]) (by rw [hfd0]) ?_
  refine lv_istore (lv' := [(19, .int (nI fd)), (18, .int (nI cl)), (0, .ref sb), (1, .ref (ac (0, 0, 0))), (2, .ref (ad (0, 0, 0))), (3, .ref (ad (1, 0, 0))), (4, .ref (ad (2, 0, 0))), (5, .ref (ad (3, 0, 0))), (6, .ref (ad (4, 0, 0))), (7, .ref (ad (5, 0, 0))), (8, .ref (ad (6, 0, 0))), (9, .ref (ad (7, 0, 0))), (10, .ref (ad (8, 0, 0))), (11, .ref (ad (9, 0, 0))), (12, .ref (ad (10, 0, 0))), (13, .int 1), (14, .int (nI k)), (15, .int (nI w)), (16, .int (nI one)), (17, .int (nI two))]) hx hb dL_law_300 hl_1 (by decide) rfl (fun ls hl_2 => ?_)
  refine z_join (nL := 33) (D := D) (A := A) (w := zk_sum 50 (cw cA (g 0) ac 6 nc nc 6 nt dy mo I L) (aw cA ad Ia La)) (pcj := 316) (lc := [(19, .int (nI fd)), (18, .int (nI cl)), (0, .ref sb), (1, .ref (ac (0, 0, 0))), (2, .ref (ad (0, 0, 0))), (3, .ref (ad (1, 0, 0))), (4, .ref (ad (2, 0, 0))), (5, .ref (ad (3, 0, 0))), (6, .ref (ad (4, 0, 0))), (7, .ref (ad (5, 0, 0))), (8, .ref (ad (6, 0, 0))), (9, .ref (ad (7, 0, 0))), (10, .ref (ad (8, 0, 0))), (11, .ref (ad (9, 0, 0))), (12, .ref (ad (10, 0, 0))), (13, .int 1), (14, .int (nI k)), (15, .int (nI w)), (16, .int (nI one)), (17, .int (nI two))]) (st1 := [.int (icV cl nc)]) (fun J_3 => ?_) ?_
  · refine lv_iload hx hb dL_law_302 (lv_at hl_2 1 rfl) ?_
    refine lv_aload hx hb dL_law_304 (lv_at hl_2 14 rfl) ?_
    refine lv_iconst (v := 1) hx hb dL_law_306 (by decide) ?_
    refine ls_ild C hH 10 rfl (by decide) (j := 1) rfl (show 1 < 3 by omega) dL_law_307 ?_
    refine W.eq (g2 := F0 m 308 ls [.int (nI nc), .int (nI cl)]) (by rw [e1]) ?_
    refine lv_icmp_ge (tgt := 315) hx hb dL_law_308 (by decide) (fun c_7 => ?_) (fun c_7 => ?_)
    · have hin : nc ≤ cl := (nI_leI (by omega) (by omega)).mp c_7
      refine lv_iconst (v := 0) hx hb dL_law_315 (by decide) ?_
      refine W.eq (g2 := F0 m 316 ls [.int (icV cl nc)]) (by rw [show (icV cl nc : Int32) = 0 from (by unfold icV; split <;> first | rfl | (exfalso; omega))]) ?_
      exact J_3 _ _ _ hH hS (lv_sub hl_2 [0, 1, 2, 3, 4, 5, 6, 7, 8, 9, 10, 11, 12, 13, 14, 15, 16, 17, 18, 19] rfl)
    · have hin : cl < nc := Nat.lt_of_not_le (fun z => c_7 (nI_le z (by omega)))
      refine lv_iconst (v := 1) hx hb dL_law_311 (by decide) ?_
      refine lv_goto (tgt := 316) hx hb dL_law_312 (by decide) ?_
      refine W.eq (g2 := F0 m 316 ls [.int (icV cl nc)]) (by rw [show (icV cl nc : Int32) = 1 from (by unfold icV; split <;> first | rfl | (exfalso; omega))]) ?_
      exact J_3 _ _ _ hH hS (lv_sub hl_2 [0, 1, 2, 3, 4, 5, 6, 7, 8, 9, 10, 11, 12, 13, 14, 15, 16, 17, 18, 19] rfl)
  · intro H locs ls hH_4 hS_5 hl_6
    refine lv_istore (lv' := [(20, .int (icV cl nc)), (19, .int (nI fd)), (18, .int (nI cl)), (0, .ref sb), (1, .ref (ac (0, 0, 0))), (2, .ref (ad (0, 0, 0))), (3, .ref (ad (1, 0, 0))), (4, .ref (ad (2, 0, 0))), (5, .ref (ad (3, 0, 0))), (6, .ref (ad (4, 0, 0))), (7, .ref (ad (5, 0, 0))), (8, .ref (ad (6, 0, 0))), (9, .ref (ad (7, 0, 0))), (10, .ref (ad (8, 0, 0))), (11, .ref (ad (9, 0, 0))), (12, .ref (ad (10, 0, 0))), (13, .int 1), (14, .int (nI k)), (15, .int (nI w)), (16, .int (nI one)), (17, .int (nI two))]) hx hb dL_law_316 hl_6 (by decide) rfl (fun ls hl_8 => ?_)
    refine z_join (nL := 33) (D := D) (A := A) (w := zk_sum 50 (cw cA (g 0) ac 6 nc nc 6 nt dy mo I L) (aw cA ad Ia La)) (pcj := 335) (lc := [(20, .int (icV cl nc)), (19, .int (nI fd)), (18, .int (nI cl)), (0, .ref sb), (1, .ref (ac (0, 0, 0))), (2, .ref (ad (0, 0, 0))), (3, .ref (ad (1, 0, 0))), (4, .ref (ad (2, 0, 0))), (5, .ref (ad (3, 0, 0))), (6, .ref (ad (4, 0, 0))), (7, .ref (ad (5, 0, 0))), (8, .ref (ad (6, 0, 0))), (9, .ref (ad (7, 0, 0))), (10, .ref (ad (8, 0, 0))), (11, .ref (ad (9, 0, 0))), (12, .ref (ad (10, 0, 0))), (13, .int 1), (14, .int (nI k)), (15, .int (nI w)), (16, .int (nI one)), (17, .int (nI two))]) (st1 := [.int (arV cl nc fd)]) (fun J_9 => ?_) ?_
    · refine lv_iload hx hb dL_law_318 (lv_at hl_8 0 rfl) ?_
      refine lv_if_eq (tgt := 334) hx hb dL_law_320 (by decide) (fun c_13 => ?_) (fun c_13 => ?_)
      · have hin : ¬ cl < nc := fun z => absurd (Eq.trans (Eq.symm c_13) (show icV cl nc = 1 from if_pos z)) (by decide)
        refine lv_iconst (v := 0) hx hb dL_law_334 (by decide) ?_
        refine W.eq (g2 := F0 m 335 ls [.int (arV cl nc fd)]) (by rw [show (arV cl nc fd : Int32) = 0 from (by unfold arV; split <;> first | rfl | (exfalso; omega))]) ?_
        exact J_9 _ _ _ hH_4 hS_5 (lv_sub hl_8 [0, 1, 2, 3, 4, 5, 6, 7, 8, 9, 10, 11, 12, 13, 14, 15, 16, 17, 18, 19, 20] rfl)
      · have hin : cl < nc := Decidable.byContradiction (fun z => c_13 (show icV cl nc = 0 from if_neg z))
        refine lv_iload hx hb dL_law_323 (lv_at hl_8 1 rfl) ?_
        refine lv_bipush (v := 6) hx hb dL_law_325 (by decide) ?_
        refine lv_icmp_ge (tgt := 334) hx hb dL_law_327 (by decide) (fun c_14 => ?_) (fun c_14 => ?_)
        · have h6 : 6 ≤ fd := (nI_leI (by decide) (by omega)).mp (show nI 6 ≤ nI fd from c_14)
          refine lv_iconst (v := 0) hx hb dL_law_334 (by decide) ?_
          refine W.eq (g2 := F0 m 335 ls [.int (arV cl nc fd)]) (by rw [show (arV cl nc fd : Int32) = 0 from (by unfold arV; split <;> first | rfl | (exfalso; omega))]) ?_
          exact J_9 _ _ _ hH_4 hS_5 (lv_sub hl_8 [0, 1, 2, 3, 4, 5, 6, 7, 8, 9, 10, 11, 12, 13, 14, 15, 16, 17, 18, 19, 20] rfl)
        · have h6 : fd < 6 := Nat.lt_of_not_le (fun z => c_14 (show nI 6 ≤ nI fd from nI_le z (by omega)))
          refine lv_iconst (v := 1) hx hb dL_law_330 (by decide) ?_
          refine lv_goto (tgt := 335) hx hb dL_law_331 (by decide) ?_
          refine W.eq (g2 := F0 m 335 ls [.int (arV cl nc fd)]) (by rw [show (arV cl nc fd : Int32) = 1 from (by unfold arV; split <;> first | rfl | (exfalso; omega))]) ?_
          exact J_9 _ _ _ hH_4 hS_5 (lv_sub hl_8 [0, 1, 2, 3, 4, 5, 6, 7, 8, 9, 10, 11, 12, 13, 14, 15, 16, 17, 18, 19, 20] rfl)
    · intro H locs ls hH_10 hS_11 hl_12
      refine lv_istore (lv' := [(21, .int (arV cl nc fd)), (20, .int (icV cl nc)), (19, .int (nI fd)), (18, .int (nI cl)), (0, .ref sb), (1, .ref (ac (0, 0, 0))), (2, .ref (ad (0, 0, 0))), (3, .ref (ad (1, 0, 0))), (4, .ref (ad (2, 0, 0))), (5, .ref (ad (3, 0, 0))), (6, .ref (ad (4, 0, 0))), (7, .ref (ad (5, 0, 0))), (8, .ref (ad (6, 0, 0))), (9, .ref (ad (7, 0, 0))), (10, .ref (ad (8, 0, 0))), (11, .ref (ad (9, 0, 0))), (12, .ref (ad (10, 0, 0))), (13, .int 1), (14, .int (nI k)), (15, .int (nI w)), (16, .int (nI one)), (17, .int (nI two))]) hx hb dL_law_335 hl_12 (by decide) rfl (fun ls hl_15 => ?_)
      refine lv_iload hx hb dL_law_337 (lv_at hl_15 2 rfl) ?_
      refine lv_bipush (v := 6) hx hb dL_law_339 (by decide) ?_
      refine lv_irem hx hb dL_law_341 (by decide) ?_
      refine W.eq (g2 := F0 m 342 ls [.int (nI (fd % 6))]) (by rw [show ((nI fd) - (nI fd) / 6 * 6 : Int32) = nI (fd % 6) from (zi_rem rfl (b := 6) rfl (by omega) (by decide) (by decide))]) ?_
      refine W.eq (g2 := F0 m 342 ls [.int (nI f)]) (by rw [hf0]) ?_
      refine lv_istore (lv' := [(22, .int (nI f)), (21, .int (arV cl nc fd)), (20, .int (icV cl nc)), (19, .int (nI fd)), (18, .int (nI cl)), (0, .ref sb), (1, .ref (ac (0, 0, 0))), (2, .ref (ad (0, 0, 0))), (3, .ref (ad (1, 0, 0))), (4, .ref (ad (2, 0, 0))), (5, .ref (ad (3, 0, 0))), (6, .ref (ad (4, 0, 0))), (7, .ref (ad (5, 0, 0))), (8, .ref (ad (6, 0, 0))), (9, .ref (ad (7, 0, 0))), (10, .ref (ad (8, 0, 0))), (11, .ref (ad (9, 0, 0))), (12, .ref (ad (10, 0, 0))), (13, .int 1), (14, .int (nI k)), (15, .int (nI w)), (16, .int (nI one)), (17, .int (nI two))]) hx hb dL_law_342 hl_15 (by decide) rfl (fun ls hl_16 => ?_)
      refine lv_iload hx hb dL_law_344 (lv_at hl_16 20 rfl) ?_
      refine lv_if_eq (tgt := 356) hx hb dL_law_346 (by decide) (fun c_17 => ?_) (fun c_17 => ?_)
      · have c_17n := (nI_k0 (by omega)).mp c_17
        exact lw_price C hst hJ hb8 hone htwo hk hcl hfd hf hff hc hs hH_10 hS_11 (by omega) (lv_sub hl_16 [5, 6, 7, 8, 9, 10, 11, 12, 13, 14, 15, 16, 17, 18, 19, 21, 22, 4, 3, 2, 1, 0] rfl) K
      · have c_17n := fun z => c_17 ((nI_k0 (by omega)).mpr z)
        refine lv_iload hx hb dL_law_349 (lv_at hl_16 20 rfl) ?_
        refine lv_bipush (v := 29) hx hb dL_law_351 (by decide) ?_
        refine lv_icmp_le (tgt := 445) hx hb dL_law_353 (by decide) (fun c_18 => ?_) (fun c_18 => ?_)
        · refine lv_iload hx hb dL_law_445 (lv_at hl_16 20 rfl) ?_
          refine lv_iconst (v := 1) hx hb dL_law_447 (by decide) ?_
          refine lv_icmp_ne (tgt := 496) hx hb dL_law_448 (by decide) (fun c_19 => ?_) (fun c_19 => ?_)
          · have hw1 : ¬ w = 1 := fun z => c_19 ((nI_k1 (by omega)).mpr z)
            refine lv_iload hx hb dL_law_496 (lv_at hl_16 20 rfl) ?_
            refine lv_iconst (v := 5) hx hb dL_law_498 (by decide) ?_
            refine lv_icmp_ge (tgt := 645) hx hb dL_law_499 (by decide) (fun c_20 => ?_) (fun c_20 => ?_)
            · refine lv_iload hx hb dL_law_645 (lv_at hl_16 20 rfl) ?_
              refine lv_bipush (v := 8) hx hb dL_law_647 (by decide) ?_
              refine lv_icmp_ge (tgt := 858) hx hb dL_law_649 (by decide) (fun c_21 => ?_) (fun c_21 => ?_)
              · refine lv_iload hx hb dL_law_858 (lv_at hl_16 20 rfl) ?_
                refine lv_bipush (v := 14) hx hb dL_law_860 (by decide) ?_
                refine lv_icmp_ge (tgt := 1067) hx hb dL_law_862 (by decide) (fun c_22 => ?_) (fun c_22 => ?_)
                · refine lv_iload hx hb dL_law_1067 (lv_at hl_16 20 rfl) ?_
                  refine lv_bipush (v := 20) hx hb dL_law_1069 (by decide) ?_
                  refine lv_icmp_ge (tgt := 1298) hx hb dL_law_1071 (by decide) (fun c_23 => ?_) (fun c_23 => ?_)
                  · refine lv_iload hx hb dL_law_1298 (lv_at hl_16 20 rfl) ?_
                    refine lv_bipush (v := 23) hx hb dL_law_1300 (by decide) ?_
                    refine lv_icmp_ge (tgt := 1432) hx hb dL_law_1302 (by decide) (fun c_24 => ?_) (fun c_24 => ?_)
                    · refine lv_iload hx hb dL_law_1432 (lv_at hl_16 20 rfl) ?_
                      refine lv_bipush (v := 26) hx hb dL_law_1434 (by decide) ?_
                      refine lv_icmp_ge (tgt := 1823) hx hb dL_law_1436 (by decide) (fun c_25 => ?_) (fun c_25 => ?_)
                      · refine lv_iload hx hb dL_law_1823 (lv_at hl_16 20 rfl) ?_
                        refine lv_bipush (v := 30) hx hb dL_law_1825 (by decide) ?_
                        refine lv_icmp_ge (tgt := 2146) hx hb dL_law_1827 (by decide) (fun c_26 => ?_) (fun c_26 => ?_)
                        · exact W.widen (by show cells ≤ cells + 30; omega) (by show slots ≤ slots + 2200; omega) (K ac nc nt dy mo I L Ia La H locs ls hH_10 hS_11 (hJ.mono (by omega)) (by omega) rfl (lv_sub hl_16 [5, 6, 7, 8, 9, 10, 11, 12, 13, 14, 15, 16, 17, 18, 19, 21, 22] rfl))
                        · exact lw_pass C hst hJ hb8 hone htwo hk hcl hfd hf hff hc hs hH_10 hS_11 (by omega) (lv_sub hl_16 [5, 6, 7, 8, 9, 10, 11, 12, 13, 14, 15, 16, 17, 18, 19, 21, 22, 4, 3, 2, 1, 0] rfl) K
                      · exact lw_complain C hst hJ hb8 hone htwo hk hcl hfd hf hff hc hs hH_10 hS_11 (by omega) (lv_sub hl_16 [5, 6, 7, 8, 9, 10, 11, 12, 13, 14, 15, 16, 17, 18, 19, 21, 22, 4, 3, 2, 1, 0] rfl) K
                    · refine lv_aload hx hb dL_law_1305 (lv_at hl_16 17 rfl) ?_
                      refine lv_iconst (v := 2) hx hb dL_law_1307 (by decide) ?_
                      refine ls_ild C hH_10 10 rfl (by decide) (j := 2) rfl (show 2 < 3 by omega) dL_law_1308 ?_
                      refine W.eq (g2 := F0 m 1309 ls [.int (nI nt)]) (by rw [e2]) ?_
                      refine lv_bipush (v := 18) hx hb dL_law_1309 (by decide) ?_
                      refine lv_icmp_ge (tgt := 1432) hx hb dL_law_1311 (by decide) (fun c_27 => ?_) (fun c_27 => ?_)
                      · refine lv_iload hx hb dL_law_1432 (lv_at hl_16 20 rfl) ?_
                        refine lv_bipush (v := 26) hx hb dL_law_1434 (by decide) ?_
                        refine lv_icmp_ge (tgt := 1823) hx hb dL_law_1436 (by decide) (fun c_28 => ?_) (fun c_28 => ?_)
                        · refine lv_iload hx hb dL_law_1823 (lv_at hl_16 20 rfl) ?_
                          refine lv_bipush (v := 30) hx hb dL_law_1825 (by decide) ?_
                          refine lv_icmp_ge (tgt := 2146) hx hb dL_law_1827 (by decide) (fun c_29 => ?_) (fun c_29 => ?_)
                          · exact W.widen (by show cells ≤ cells + 30; omega) (by show slots ≤ slots + 2200; omega) (K ac nc nt dy mo I L Ia La H locs ls hH_10 hS_11 (hJ.mono (by omega)) (by omega) rfl (lv_sub hl_16 [5, 6, 7, 8, 9, 10, 11, 12, 13, 14, 15, 16, 17, 18, 19, 21, 22] rfl))
                          · exact lw_pass C hst hJ hb8 hone htwo hk hcl hfd hf hff hc hs hH_10 hS_11 (by omega) (lv_sub hl_16 [5, 6, 7, 8, 9, 10, 11, 12, 13, 14, 15, 16, 17, 18, 19, 21, 22, 4, 3, 2, 1, 0] rfl) K
                        · exact lw_complain C hst hJ hb8 hone htwo hk hcl hfd hf hff hc hs hH_10 hS_11 (by omega) (lv_sub hl_16 [5, 6, 7, 8, 9, 10, 11, 12, 13, 14, 15, 16, 17, 18, 19, 21, 22, 4, 3, 2, 1, 0] rfl) K
                      · have hn18 : nt < 18 := Nat.lt_of_not_le (fun z => c_27 (show nI 18 ≤ nI nt from nI_le z (by omega)))
                        exact lw_balance C hst hJ hb8 hone htwo hk hcl hfd hf hff hc hs hH_10 hS_11 (by omega) hn18 (lv_sub hl_16 [5, 6, 7, 8, 9, 10, 11, 12, 13, 14, 15, 16, 17, 18, 19, 21, 22, 4, 3, 2, 1, 0] rfl) K
                  · refine lv_aload hx hb dL_law_1074 (lv_at hl_16 17 rfl) ?_
                    refine lv_iconst (v := 2) hx hb dL_law_1076 (by decide) ?_
                    refine ls_ild C hH_10 10 rfl (by decide) (j := 2) rfl (show 2 < 3 by omega) dL_law_1077 ?_
                    refine W.eq (g2 := F0 m 1078 ls [.int (nI nt)]) (by rw [e2]) ?_
                    refine lv_bipush (v := 18) hx hb dL_law_1078 (by decide) ?_
                    refine lv_icmp_ge (tgt := 1298) hx hb dL_law_1080 (by decide) (fun c_30 => ?_) (fun c_30 => ?_)
                    · refine lv_iload hx hb dL_law_1298 (lv_at hl_16 20 rfl) ?_
                      refine lv_bipush (v := 23) hx hb dL_law_1300 (by decide) ?_
                      refine lv_icmp_ge (tgt := 1432) hx hb dL_law_1302 (by decide) (fun c_31 => ?_) (fun c_31 => ?_)
                      · refine lv_iload hx hb dL_law_1432 (lv_at hl_16 20 rfl) ?_
                        refine lv_bipush (v := 26) hx hb dL_law_1434 (by decide) ?_
                        refine lv_icmp_ge (tgt := 1823) hx hb dL_law_1436 (by decide) (fun c_32 => ?_) (fun c_32 => ?_)
                        · refine lv_iload hx hb dL_law_1823 (lv_at hl_16 20 rfl) ?_
                          refine lv_bipush (v := 30) hx hb dL_law_1825 (by decide) ?_
                          refine lv_icmp_ge (tgt := 2146) hx hb dL_law_1827 (by decide) (fun c_33 => ?_) (fun c_33 => ?_)
                          · exact W.widen (by show cells ≤ cells + 30; omega) (by show slots ≤ slots + 2200; omega) (K ac nc nt dy mo I L Ia La H locs ls hH_10 hS_11 (hJ.mono (by omega)) (by omega) rfl (lv_sub hl_16 [5, 6, 7, 8, 9, 10, 11, 12, 13, 14, 15, 16, 17, 18, 19, 21, 22] rfl))
                          · exact lw_pass C hst hJ hb8 hone htwo hk hcl hfd hf hff hc hs hH_10 hS_11 (by omega) (lv_sub hl_16 [5, 6, 7, 8, 9, 10, 11, 12, 13, 14, 15, 16, 17, 18, 19, 21, 22, 4, 3, 2, 1, 0] rfl) K
                        · exact lw_complain C hst hJ hb8 hone htwo hk hcl hfd hf hff hc hs hH_10 hS_11 (by omega) (lv_sub hl_16 [5, 6, 7, 8, 9, 10, 11, 12, 13, 14, 15, 16, 17, 18, 19, 21, 22, 4, 3, 2, 1, 0] rfl) K
                      · refine lv_aload hx hb dL_law_1305 (lv_at hl_16 17 rfl) ?_
                        refine lv_iconst (v := 2) hx hb dL_law_1307 (by decide) ?_
                        refine ls_ild C hH_10 10 rfl (by decide) (j := 2) rfl (show 2 < 3 by omega) dL_law_1308 ?_
                        refine W.eq (g2 := F0 m 1309 ls [.int (nI nt)]) (by rw [e2]) ?_
                        refine lv_bipush (v := 18) hx hb dL_law_1309 (by decide) ?_
                        refine lv_icmp_ge (tgt := 1432) hx hb dL_law_1311 (by decide) (fun c_34 => ?_) (fun c_34 => ?_)
                        · refine lv_iload hx hb dL_law_1432 (lv_at hl_16 20 rfl) ?_
                          refine lv_bipush (v := 26) hx hb dL_law_1434 (by decide) ?_
                          refine lv_icmp_ge (tgt := 1823) hx hb dL_law_1436 (by decide) (fun c_35 => ?_) (fun c_35 => ?_)
                          · refine lv_iload hx hb dL_law_1823 (lv_at hl_16 20 rfl) ?_
                            refine lv_bipush (v := 30) hx hb dL_law_1825 (by decide) ?_
                            refine lv_icmp_ge (tgt := 2146) hx hb dL_law_1827 (by decide) (fun c_36 => ?_) (fun c_36 => ?_)
                            · exact W.widen (by show cells ≤ cells + 30; omega) (by show slots ≤ slots + 2200; omega) (K ac nc nt dy mo I L Ia La H locs ls hH_10 hS_11 (hJ.mono (by omega)) (by omega) rfl (lv_sub hl_16 [5, 6, 7, 8, 9, 10, 11, 12, 13, 14, 15, 16, 17, 18, 19, 21, 22] rfl))
                            · exact lw_pass C hst hJ hb8 hone htwo hk hcl hfd hf hff hc hs hH_10 hS_11 (by omega) (lv_sub hl_16 [5, 6, 7, 8, 9, 10, 11, 12, 13, 14, 15, 16, 17, 18, 19, 21, 22, 4, 3, 2, 1, 0] rfl) K
                          · exact lw_complain C hst hJ hb8 hone htwo hk hcl hfd hf hff hc hs hH_10 hS_11 (by omega) (lv_sub hl_16 [5, 6, 7, 8, 9, 10, 11, 12, 13, 14, 15, 16, 17, 18, 19, 21, 22, 4, 3, 2, 1, 0] rfl) K
                        · have hn18 : nt < 18 := Nat.lt_of_not_le (fun z => c_34 (show nI 18 ≤ nI nt from nI_le z (by omega)))
                          exact lw_balance C hst hJ hb8 hone htwo hk hcl hfd hf hff hc hs hH_10 hS_11 (by omega) hn18 (lv_sub hl_16 [5, 6, 7, 8, 9, 10, 11, 12, 13, 14, 15, 16, 17, 18, 19, 21, 22, 4, 3, 2, 1, 0] rfl) K
                    · have hn18 : nt < 18 := Nat.lt_of_not_le (fun z => c_30 (show nI 18 ≤ nI nt from nI_le z (by omega)))
                      exact lw_sell C hst hJ hb8 hone htwo hk hcl hfd hf hff hc hs hH_10 hS_11 (by omega) hn18 (lv_sub hl_16 [5, 6, 7, 8, 9, 10, 11, 12, 13, 14, 15, 16, 17, 18, 19, 21, 22, 4, 3, 2, 1, 0] rfl) K
                · refine lv_aload hx hb dL_law_865 (lv_at hl_16 17 rfl) ?_
                  refine lv_iconst (v := 2) hx hb dL_law_867 (by decide) ?_
                  refine ls_ild C hH_10 10 rfl (by decide) (j := 2) rfl (show 2 < 3 by omega) dL_law_868 ?_
                  refine W.eq (g2 := F0 m 869 ls [.int (nI nt)]) (by rw [e2]) ?_
                  refine lv_bipush (v := 18) hx hb dL_law_869 (by decide) ?_
                  refine lv_icmp_ge (tgt := 1067) hx hb dL_law_871 (by decide) (fun c_37 => ?_) (fun c_37 => ?_)
                  · refine lv_iload hx hb dL_law_1067 (lv_at hl_16 20 rfl) ?_
                    refine lv_bipush (v := 20) hx hb dL_law_1069 (by decide) ?_
                    refine lv_icmp_ge (tgt := 1298) hx hb dL_law_1071 (by decide) (fun c_38 => ?_) (fun c_38 => ?_)
                    · refine lv_iload hx hb dL_law_1298 (lv_at hl_16 20 rfl) ?_
                      refine lv_bipush (v := 23) hx hb dL_law_1300 (by decide) ?_
                      refine lv_icmp_ge (tgt := 1432) hx hb dL_law_1302 (by decide) (fun c_39 => ?_) (fun c_39 => ?_)
                      · refine lv_iload hx hb dL_law_1432 (lv_at hl_16 20 rfl) ?_
                        refine lv_bipush (v := 26) hx hb dL_law_1434 (by decide) ?_
                        refine lv_icmp_ge (tgt := 1823) hx hb dL_law_1436 (by decide) (fun c_40 => ?_) (fun c_40 => ?_)
                        · refine lv_iload hx hb dL_law_1823 (lv_at hl_16 20 rfl) ?_
                          refine lv_bipush (v := 30) hx hb dL_law_1825 (by decide) ?_
                          refine lv_icmp_ge (tgt := 2146) hx hb dL_law_1827 (by decide) (fun c_41 => ?_) (fun c_41 => ?_)
                          · exact W.widen (by show cells ≤ cells + 30; omega) (by show slots ≤ slots + 2200; omega) (K ac nc nt dy mo I L Ia La H locs ls hH_10 hS_11 (hJ.mono (by omega)) (by omega) rfl (lv_sub hl_16 [5, 6, 7, 8, 9, 10, 11, 12, 13, 14, 15, 16, 17, 18, 19, 21, 22] rfl))
                          · exact lw_pass C hst hJ hb8 hone htwo hk hcl hfd hf hff hc hs hH_10 hS_11 (by omega) (lv_sub hl_16 [5, 6, 7, 8, 9, 10, 11, 12, 13, 14, 15, 16, 17, 18, 19, 21, 22, 4, 3, 2, 1, 0] rfl) K
                        · exact lw_complain C hst hJ hb8 hone htwo hk hcl hfd hf hff hc hs hH_10 hS_11 (by omega) (lv_sub hl_16 [5, 6, 7, 8, 9, 10, 11, 12, 13, 14, 15, 16, 17, 18, 19, 21, 22, 4, 3, 2, 1, 0] rfl) K
                      · refine lv_aload hx hb dL_law_1305 (lv_at hl_16 17 rfl) ?_
                        refine lv_iconst (v := 2) hx hb dL_law_1307 (by decide) ?_
                        refine ls_ild C hH_10 10 rfl (by decide) (j := 2) rfl (show 2 < 3 by omega) dL_law_1308 ?_
                        refine W.eq (g2 := F0 m 1309 ls [.int (nI nt)]) (by rw [e2]) ?_
                        refine lv_bipush (v := 18) hx hb dL_law_1309 (by decide) ?_
                        refine lv_icmp_ge (tgt := 1432) hx hb dL_law_1311 (by decide) (fun c_42 => ?_) (fun c_42 => ?_)
                        · refine lv_iload hx hb dL_law_1432 (lv_at hl_16 20 rfl) ?_
                          refine lv_bipush (v := 26) hx hb dL_law_1434 (by decide) ?_
                          refine lv_icmp_ge (tgt := 1823) hx hb dL_law_1436 (by decide) (fun c_43 => ?_) (fun c_43 => ?_)
                          · refine lv_iload hx hb dL_law_1823 (lv_at hl_16 20 rfl) ?_
                            refine lv_bipush (v := 30) hx hb dL_law_1825 (by decide) ?_
                            refine lv_icmp_ge (tgt := 2146) hx hb dL_law_1827 (by decide) (fun c_44 => ?_) (fun c_44 => ?_)
                            · exact W.widen (by show cells ≤ cells + 30; omega) (by show slots ≤ slots + 2200; omega) (K ac nc nt dy mo I L Ia La H locs ls hH_10 hS_11 (hJ.mono (by omega)) (by omega) rfl (lv_sub hl_16 [5, 6, 7, 8, 9, 10, 11, 12, 13, 14, 15, 16, 17, 18, 19, 21, 22] rfl))
                            · exact lw_pass C hst hJ hb8 hone htwo hk hcl hfd hf hff hc hs hH_10 hS_11 (by omega) (lv_sub hl_16 [5, 6, 7, 8, 9, 10, 11, 12, 13, 14, 15, 16, 17, 18, 19, 21, 22, 4, 3, 2, 1, 0] rfl) K
                          · exact lw_complain C hst hJ hb8 hone htwo hk hcl hfd hf hff hc hs hH_10 hS_11 (by omega) (lv_sub hl_16 [5, 6, 7, 8, 9, 10, 11, 12, 13, 14, 15, 16, 17, 18, 19, 21, 22, 4, 3, 2, 1, 0] rfl) K
                        · have hn18 : nt < 18 := Nat.lt_of_not_le (fun z => c_42 (show nI 18 ≤ nI nt from nI_le z (by omega)))
                          exact lw_balance C hst hJ hb8 hone htwo hk hcl hfd hf hff hc hs hH_10 hS_11 (by omega) hn18 (lv_sub hl_16 [5, 6, 7, 8, 9, 10, 11, 12, 13, 14, 15, 16, 17, 18, 19, 21, 22, 4, 3, 2, 1, 0] rfl) K
                    · refine lv_aload hx hb dL_law_1074 (lv_at hl_16 17 rfl) ?_
                      refine lv_iconst (v := 2) hx hb dL_law_1076 (by decide) ?_
                      refine ls_ild C hH_10 10 rfl (by decide) (j := 2) rfl (show 2 < 3 by omega) dL_law_1077 ?_
                      refine W.eq (g2 := F0 m 1078 ls [.int (nI nt)]) (by rw [e2]) ?_
                      refine lv_bipush (v := 18) hx hb dL_law_1078 (by decide) ?_
                      refine lv_icmp_ge (tgt := 1298) hx hb dL_law_1080 (by decide) (fun c_45 => ?_) (fun c_45 => ?_)
                      · refine lv_iload hx hb dL_law_1298 (lv_at hl_16 20 rfl) ?_
                        refine lv_bipush (v := 23) hx hb dL_law_1300 (by decide) ?_
                        refine lv_icmp_ge (tgt := 1432) hx hb dL_law_1302 (by decide) (fun c_46 => ?_) (fun c_46 => ?_)
                        · refine lv_iload hx hb dL_law_1432 (lv_at hl_16 20 rfl) ?_
                          refine lv_bipush (v := 26) hx hb dL_law_1434 (by decide) ?_
                          refine lv_icmp_ge (tgt := 1823) hx hb dL_law_1436 (by decide) (fun c_47 => ?_) (fun c_47 => ?_)
                          · refine lv_iload hx hb dL_law_1823 (lv_at hl_16 20 rfl) ?_
                            refine lv_bipush (v := 30) hx hb dL_law_1825 (by decide) ?_
                            refine lv_icmp_ge (tgt := 2146) hx hb dL_law_1827 (by decide) (fun c_48 => ?_) (fun c_48 => ?_)
                            · exact W.widen (by show cells ≤ cells + 30; omega) (by show slots ≤ slots + 2200; omega) (K ac nc nt dy mo I L Ia La H locs ls hH_10 hS_11 (hJ.mono (by omega)) (by omega) rfl (lv_sub hl_16 [5, 6, 7, 8, 9, 10, 11, 12, 13, 14, 15, 16, 17, 18, 19, 21, 22] rfl))
                            · exact lw_pass C hst hJ hb8 hone htwo hk hcl hfd hf hff hc hs hH_10 hS_11 (by omega) (lv_sub hl_16 [5, 6, 7, 8, 9, 10, 11, 12, 13, 14, 15, 16, 17, 18, 19, 21, 22, 4, 3, 2, 1, 0] rfl) K
                          · exact lw_complain C hst hJ hb8 hone htwo hk hcl hfd hf hff hc hs hH_10 hS_11 (by omega) (lv_sub hl_16 [5, 6, 7, 8, 9, 10, 11, 12, 13, 14, 15, 16, 17, 18, 19, 21, 22, 4, 3, 2, 1, 0] rfl) K
                        · refine lv_aload hx hb dL_law_1305 (lv_at hl_16 17 rfl) ?_
                          refine lv_iconst (v := 2) hx hb dL_law_1307 (by decide) ?_
                          refine ls_ild C hH_10 10 rfl (by decide) (j := 2) rfl (show 2 < 3 by omega) dL_law_1308 ?_
                          refine W.eq (g2 := F0 m 1309 ls [.int (nI nt)]) (by rw [e2]) ?_
                          refine lv_bipush (v := 18) hx hb dL_law_1309 (by decide) ?_
                          refine lv_icmp_ge (tgt := 1432) hx hb dL_law_1311 (by decide) (fun c_49 => ?_) (fun c_49 => ?_)
                          · refine lv_iload hx hb dL_law_1432 (lv_at hl_16 20 rfl) ?_
                            refine lv_bipush (v := 26) hx hb dL_law_1434 (by decide) ?_
                            refine lv_icmp_ge (tgt := 1823) hx hb dL_law_1436 (by decide) (fun c_50 => ?_) (fun c_50 => ?_)
                            · refine lv_iload hx hb dL_law_1823 (lv_at hl_16 20 rfl) ?_
                              refine lv_bipush (v := 30) hx hb dL_law_1825 (by decide) ?_
                              refine lv_icmp_ge (tgt := 2146) hx hb dL_law_1827 (by decide) (fun c_51 => ?_) (fun c_51 => ?_)
                              · exact W.widen (by show cells ≤ cells + 30; omega) (by show slots ≤ slots + 2200; omega) (K ac nc nt dy mo I L Ia La H locs ls hH_10 hS_11 (hJ.mono (by omega)) (by omega) rfl (lv_sub hl_16 [5, 6, 7, 8, 9, 10, 11, 12, 13, 14, 15, 16, 17, 18, 19, 21, 22] rfl))
                              · exact lw_pass C hst hJ hb8 hone htwo hk hcl hfd hf hff hc hs hH_10 hS_11 (by omega) (lv_sub hl_16 [5, 6, 7, 8, 9, 10, 11, 12, 13, 14, 15, 16, 17, 18, 19, 21, 22, 4, 3, 2, 1, 0] rfl) K
                            · exact lw_complain C hst hJ hb8 hone htwo hk hcl hfd hf hff hc hs hH_10 hS_11 (by omega) (lv_sub hl_16 [5, 6, 7, 8, 9, 10, 11, 12, 13, 14, 15, 16, 17, 18, 19, 21, 22, 4, 3, 2, 1, 0] rfl) K
                          · have hn18 : nt < 18 := Nat.lt_of_not_le (fun z => c_49 (show nI 18 ≤ nI nt from nI_le z (by omega)))
                            exact lw_balance C hst hJ hb8 hone htwo hk hcl hfd hf hff hc hs hH_10 hS_11 (by omega) hn18 (lv_sub hl_16 [5, 6, 7, 8, 9, 10, 11, 12, 13, 14, 15, 16, 17, 18, 19, 21, 22, 4, 3, 2, 1, 0] rfl) K
                      · have hn18 : nt < 18 := Nat.lt_of_not_le (fun z => c_45 (show nI 18 ≤ nI nt from nI_le z (by omega)))
                        exact lw_sell C hst hJ hb8 hone htwo hk hcl hfd hf hff hc hs hH_10 hS_11 (by omega) hn18 (lv_sub hl_16 [5, 6, 7, 8, 9, 10, 11, 12, 13, 14, 15, 16, 17, 18, 19, 21, 22, 4, 3, 2, 1, 0] rfl) K
                  · have hn18 : nt < 18 := Nat.lt_of_not_le (fun z => c_37 (show nI 18 ≤ nI nt from nI_le z (by omega)))
                    exact lw_buy C hst hJ hb8 hone htwo hk hcl hfd hf hff hc hs hH_10 hS_11 (by omega) hn18 (lv_sub hl_16 [5, 6, 7, 8, 9, 10, 11, 12, 13, 14, 15, 16, 17, 18, 19, 21, 22, 4, 3, 2, 1, 0] rfl) K
              · exact lw_goal C hst hJ hb8 hone htwo hk hcl hfd hf hff hc hs hH_10 hS_11 (by omega) (lv_sub hl_16 [5, 6, 7, 8, 9, 10, 11, 12, 13, 14, 15, 16, 17, 18, 19, 21, 22, 4, 3, 2, 1, 0] rfl) K
            · exact lw_pay C hst hJ hb8 hone htwo hk hcl hfd hf hff hc hs hH_10 hS_11 (by omega) (lv_sub hl_16 [5, 6, 7, 8, 9, 10, 11, 12, 13, 14, 15, 16, 17, 18, 19, 21, 22, 4, 3, 2, 1, 0] rfl) K
          · exact lw_client C hst hJ hb8 hone htwo hk hcl hfd hf hff hc hs hH_10 hS_11 (lv_sub hl_16 [5, 6, 7, 8, 9, 10, 11, 12, 13, 14, 15, 16, 17, 18, 19, 21, 22, 4, 3, 2, 1, 0] rfl) K
        · have hw29 : ¬ w ≤ 29 := fun z => c_18 (show nI w ≤ nI 29 from nI_le z (by decide))
          exact lw_price C hst hJ hb8 hone htwo hk hcl hfd hf hff hc hs hH_10 hS_11 (by omega) (lv_sub hl_16 [5, 6, 7, 8, 9, 10, 11, 12, 13, 14, 15, 16, 17, 18, 19, 21, 22, 4, 3, 2, 1, 0] rfl) K
end LAW
