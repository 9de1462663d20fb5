section LAW
variable {p : Program} {l : Launch} {e : Env} {s : State} {m : MethodId} {below : List Frame} {meth : Method} {c : Code} {H : Heap} {locs : List Loc} {cells slots : Nat} {Q : State → Prop} {ls : Array Slot} {D : va_G} {cA : Nat → ClassId} {A : Nat → Prop} {g : Nat → Nat}
variable {sb k one two b nc nt dy cl fd f : Nat} {ac ad : zk_K → Nat} {mo : Int64} {I Ia : zIA} {L La : zLA}
set_option maxHeartbeats 2000000 in
set_option maxRecDepth 100000 in
theorem lw_goal (C : zC p l m c cL_law 33 s #[.ref sb] wsL_law RL D (zt cA) A g meth) (hst : l.stackTraces = false) (hJ : zJ nc nt dy b mo I L Ia La) (hb8 : b ≤ 8000) (hone : one < 60000) (htwo : two < 60000) (hk : k < 60) (hcl : cl ≤ nc) (hfd : fd < 7) (hf : f < 6) (hff : fd < 6 → f = fd) (hc : cells + 30 ≤ 600104) (hs : slots + 2200 ≤ 7301314) (hH : zk_H D A (zk_sum 50 (cw cA (g 0) ac 6 nc nc 6 nt dy mo I L) (aw cA ad Ia La)) H) (hS : va_S A s.heap H locs) (hc1 : 1 ≤ nc) (hl : lv_has ls 33 [(0, .ref sb), (1, .ref (ac (0, 0, 0))), (2, .ref (ad (0, 0, 0))), (3, .ref (ad (1, 0, 0))), (4, .ref (ad (2, 0, 0))), (5, .ref (ad (3, 0, 0))), (6, .ref (ad (4, 0, 0))), (7, .ref (ad (5, 0, 0))), (8, .ref (ad (6, 0, 0))), (9, .ref (ad (7, 0, 0))), (10, .ref (ad (8, 0, 0))), (11, .ref (ad (9, 0, 0))), (12, .ref (ad (10, 0, 0))), (13, .int 1), (14, .int (nI k)), (16, .int (nI one)), (17, .int (nI two)), (18, .int (nI cl)), (19, .int (nI fd)), (20, .int (icV cl nc)), (21, .int (arV cl nc fd)), (22, .int (nI f))]) (K : lwK p l e s m below meth c D cA A g sb k one two (b + 12) (ac (0, 0, 0)) ad (cells + 30) (slots + 2200) Q) : W p l e room_1 s m #[.ref sb] below meth c H locs cells slots Q (F0 m 652 ls []) := by
  obtain ⟨⟨hx, hb, hml, hown, hts⟩, hG, hlk⟩ := id C
  obtain ⟨hO, hM, hD⟩ := hJ.d
  obtain ⟨hI, ⟨hn3, hn30⟩, ⟨e0, e1, e2⟩, hP, hGo, ⟨v1, v2, v3, v4⟩, h7, hR, hE, hSu⟩ := id hJ
  obtain ⟨-, -, hdy⟩ := hI.1
  obtain ⟨h11, h12, h16, -, -⟩ := hI.t
  have hgb := gv_bd (two := two)
  refine z_join (nL := 33) (D := D) (A := A) (w := zk_sum 50 (cw cA (g 0) ac 6 nc nc 6 nt dy mo I L) (aw cA ad Ia La)) (pcj := 681) (lc := [(0, .ref sb), (1, .ref (ac (0, 0, 0))), (2, .ref (ad (0, 0, 0))), (3, .ref (ad (1, 0, 0))), (4, .ref (ad (2, 0, 0))), (5, .ref (ad (3, 0, 0))), (6, .ref (ad (4, 0, 0))), (7, .ref (ad (5, 0, 0))), (8, .ref (ad (6, 0, 0))), (9, .ref (ad (7, 0, 0))), (10, .ref (ad (8, 0, 0))), (11, .ref (ad (9, 0, 0))), (12, .ref (ad (10, 0, 0))), (13, .int 1), (14, .int (nI k)), (16, .int (nI one)), (17, .int (nI two)), (18, .int (nI cl)), (19, .int (nI fd)), (20, .int (icV cl nc)), (21, .int (arV cl nc fd)), (22, .int (nI f))]) (st1 := [.int (nI (gvV two))]) (fun J_1 => ?_) ?_
  · refine lv_iload hx hb dL_law_652 (lv_at hl 16 rfl) ?_
    refine lv_bipush (v := 7) hx hb dL_law_654 (by decide) ?_
    refine lv_idiv hx hb dL_law_656 (by decide) ?_
    refine W.eq (g2 := F0 m 657 ls [.int (nI (two / 7))]) (by rw [show ((nI two) / 7 : Int32) = nI (two / 7) from (zi_div rfl (b := 7) rfl (by omega) (by decide) (by decide))]) ?_
    refine lv_iconst (v := 3) hx hb dL_law_657 (by decide) ?_
    refine lv_irem hx hb dL_law_658 (by decide) ?_
    refine W.eq (g2 := F0 m 659 ls [.int (nI ((two / 7) % 3))]) (by rw [show ((nI (two / 7)) - (nI (two / 7)) / 3 * 3 : Int32) = nI ((two / 7) % 3) from (zi_rem rfl (b := 3) rfl (by omega) (by decide) (by decide))]) ?_
    refine lv_if_ne (tgt := 673) hx hb dL_law_659 (by decide) (fun c_5 => ?_) (fun c_5 => ?_)
    · have c_5n := fun z => c_5 ((nI_k0 (by omega)).mpr z)
      refine lv_iload hx hb dL_law_673 (lv_at hl 16 rfl) ?_
      refine lv_bipush (v := 7) hx hb dL_law_675 (by decide) ?_
      refine lv_idiv hx hb dL_law_677 (by decide) ?_
      refine W.eq (g2 := F0 m 678 ls [.int (nI (two / 7))]) (by rw [show ((nI two) / 7 : Int32) = nI (two / 7) from (zi_div rfl (b := 7) rfl (by omega) (by decide) (by decide))]) ?_
      refine lv_bipush (v := 40) hx hb dL_law_678 (by decide) ?_
      refine lv_irem hx hb dL_law_680 (by decide) ?_
      refine W.eq (g2 := F0 m 681 ls [.int (nI ((two / 7) % 40))]) (by rw [show ((nI (two / 7)) - (nI (two / 7)) / 40 * 40 : Int32) = nI ((two / 7) % 40) from (zi_rem rfl (b := 40) rfl (by omega) (by decide) (by decide))]) ?_
      refine W.eq (g2 := F0 m 681 ls [.int (nI (gvV two))]) (by rw [show (nI (gvV two) : Int32) = nI ((two / 7) % 40) from (by unfold gvV; split <;> first | contradiction | rfl)]) ?_
      exact J_1 _ _ _ hH hS (lv_sub hl [0, 1, 2, 3, 4, 5, 6, 7, 8, 9, 10, 11, 12, 13, 14, 15, 16, 17, 18, 19, 20, 21] rfl)
    · have c_5n := (nI_k0 (by omega)).mp c_5
      refine lv_iload hx hb dL_law_662 (lv_at hl 16 rfl) ?_
      refine lv_bipush (v := 7) hx hb dL_law_664 (by decide) ?_
      refine lv_idiv hx hb dL_law_666 (by decide) ?_
      refine W.eq (g2 := F0 m 667 ls [.int (nI (two / 7))]) (by rw [show ((nI two) / 7 : Int32) = nI (two / 7) from (zi_div rfl (b := 7) rfl (by omega) (by decide) (by decide))]) ?_
      refine lv_bipush (v := 102) hx hb dL_law_667 (by decide) ?_
      refine lv_irem hx hb dL_law_669 (by decide) ?_
      refine W.eq (g2 := F0 m 670 ls [.int (nI ((two / 7) % 102))]) (by rw [show ((nI (two / 7)) - (nI (two / 7)) / 102 * 102 : Int32) = nI ((two / 7) % 102) from (zi_rem rfl (b := 102) rfl (by omega) (by decide) (by decide))]) ?_
      refine lv_goto (tgt := 681) hx hb dL_law_670 (by decide) ?_
      refine W.eq (g2 := F0 m 681 ls [.int (nI (gvV two))]) (by rw [show (nI (gvV two) : Int32) = nI ((two / 7) % 102) from (by unfold gvV; split <;> first | contradiction | rfl)]) ?_
      exact J_1 _ _ _ hH hS (lv_sub hl [0, 1, 2, 3, 4, 5, 6, 7, 8, 9, 10, 11, 12, 13, 14, 15, 16, 17, 18, 19, 20, 21] rfl)
  · intro H locs ls hH_2 hS_3 hl_4
    refine lv_istore (lv' := [(23, .int (nI (gvV two))), (0, .ref sb), (1, .ref (ac (0, 0, 0))), (2, .ref (ad (0, 0, 0))), (3, .ref (ad (1, 0, 0))), (4, .ref (ad (2, 0, 0))), (5, .ref (ad (3, 0, 0))), (6, .ref (ad (4, 0, 0))), (7, .ref (ad (5, 0, 0))), (8, .ref (ad (6, 0, 0))), (9, .ref (ad (7, 0, 0))), (10, .ref (ad (8, 0, 0))), (11, .ref (ad (9, 0, 0))), (12, .ref (ad (10, 0, 0))), (13, .int 1), (14, .int (nI k)), (16, .int (nI one)), (17, .int (nI two)), (18, .int (nI cl)), (19, .int (nI fd)), (20, .int (icV cl nc)), (21, .int (arV cl nc fd)), (22, .int (nI f))]) hx hb dL_law_681 hl_4 (by decide) rfl (fun ls hl_6 => ?_)
    by_cases hr : cl < nc ∧ fd < 6
    · obtain ⟨hr1, hr2⟩ := id hr
      have hl_7 : lv_has ls 33 [(23, .int (nI (gvV two))), (0, .ref sb), (1, .ref (ac (0, 0, 0))), (2, .ref (ad (0, 0, 0))), (3, .ref (ad (1, 0, 0))), (4, .ref (ad (2, 0, 0))), (5, .ref (ad (3, 0, 0))), (6, .ref (ad (4, 0, 0))), (7, .ref (ad (5, 0, 0))), (8, .ref (ad (6, 0, 0))), (9, .ref (ad (7, 0, 0))), (10, .ref (ad (8, 0, 0))), (11, .ref (ad (9, 0, 0))), (12, .ref (ad (10, 0, 0))), (13, .int 1), (14, .int (nI k)), (16, .int (nI one)), (17, .int (nI two)), (18, .int (nI cl)), (19, .int (nI fd)), (20, .int (icV cl nc)), (21, .int 1), (22, .int (nI f))] := by have e9 : arV cl nc fd = 1 := if_pos hr; have h9 := hl_6; rw [e9] at h9; exact h9
      refine lv_iload hx hb dL_law_683 (lv_at hl_7 0 rfl) ?_
      refine lv_istore (lv' := [(24, .int (nI (gvV two))), (23, .int (nI (gvV two))), (0, .ref sb), (1, .ref (ac (0, 0, 0))), (2, .ref (ad (0, 0, 0))), (3, .ref (ad (1, 0, 0))), (4, .ref (ad (2, 0, 0))), (5, .ref (ad (3, 0, 0))), (6, .ref (ad (4, 0, 0))), (7, .ref (ad (5, 0, 0))), (8, .ref (ad (6, 0, 0))), (9, .ref (ad (7, 0, 0))), (10, .ref (ad (8, 0, 0))), (11, .ref (ad (9, 0, 0))), (12, .ref (ad (10, 0, 0))), (13, .int 1), (14, .int (nI k)), (16, .int (nI one)), (17, .int (nI two)), (18, .int (nI cl)), (19, .int (nI fd)), (20, .int (icV cl nc)), (21, .int 1), (22, .int (nI f))]) hx hb dL_law_685 hl_7 (by decide) rfl (fun ls hl_8 => ?_)
      refine lv_iconst (v := 0) hx hb dL_law_687 (by decide) ?_
      refine lv_istore (lv' := [(25, .int 0), (24, .int (nI (gvV two))), (23, .int (nI (gvV two))), (0, .ref sb), (1, .ref (ac (0, 0, 0))), (2, .ref (ad (0, 0, 0))), (3, .ref (ad (1, 0, 0))), (4, .ref (ad (2, 0, 0))), (5, .ref (ad (3, 0, 0))), (6, .ref (ad (4, 0, 0))), (7, .ref (ad (5, 0, 0))), (8, .ref (ad (6, 0, 0))), (9, .ref (ad (7, 0, 0))), (10, .ref (ad (8, 0, 0))), (11, .ref (ad (9, 0, 0))), (12, .ref (ad (10, 0, 0))), (13, .int 1), (14, .int (nI k)), (16, .int (nI one)), (17, .int (nI two)), (18, .int (nI cl)), (19, .int (nI fd)), (20, .int (icV cl nc)), (21, .int 1), (22, .int (nI f))]) hx hb dL_law_688 hl_8 (by decide) rfl (fun ls hl_9 => ?_)
      refine z_at (n := 6) (P := fun i_10 => zL p l e room_1 s m _ below meth c 33 D A _ (zk_sum 50 (cw cA (g 0) ac 6 nc nc 6 nt dy mo I L) (aw cA ad Ia La)) cells slots 690 [(0, .ref sb), (1, .ref (ac (0, 0, 0))), (2, .ref (ad (0, 0, 0))), (3, .ref (ad (1, 0, 0))), (4, .ref (ad (2, 0, 0))), (5, .ref (ad (3, 0, 0))), (6, .ref (ad (4, 0, 0))), (7, .ref (ad (5, 0, 0))), (8, .ref (ad (6, 0, 0))), (9, .ref (ad (7, 0, 0))), (10, .ref (ad (8, 0, 0))), (11, .ref (ad (9, 0, 0))), (12, .ref (ad (10, 0, 0))), (13, .int 1), (14, .int (nI k)), (16, .int (nI one)), (17, .int (nI two)), (18, .int (nI cl)), (19, .int (nI fd)), (20, .int (icV cl nc)), (21, .int 1), (22, .int (nI f)), (23, .int (nI (gvV two))), (24, .int (sumG I cl fd (nI (gvV two)) i_10)), (25, .int (nI i_10))] []) 0 (Nat.zero_le _) (fun h => h _ _ _ hH_2 hS_3 (lv_sub hl_9 [3, 4, 5, 6, 7, 8, 9, 10, 11, 12, 13, 14, 15, 16, 17, 18, 19, 20, 21, 22, 23, 24, 2, 1, 0] rfl)) ?_ ?_
      · intro H locs ls hH_12 hS_13 hl_14
        refine lv_iload hx hb dL_law_690 (lv_at hl_14 24 rfl) ?_
        refine lv_bipush (v := 6) hx hb dL_law_692 (by decide) ?_
        refine lv_icmp_ge (tgt := 735) hx hb dL_law_694 (by decide) (fun c_15 => ?_) (fun c_15 => absurd (Int32.le_refl _) c_15)
        refine lv_iload hx hb dL_law_735 (lv_at hl_14 20 rfl) ?_
        refine lv_if_eq (tgt := 758) hx hb dL_law_737 (by decide) (fun c_16 => absurd c_16 (by decide)) (fun c_16 => ?_)
        refine lv_iload hx hb dL_law_740 (lv_at hl_14 22 rfl) ?_
        refine lv_bipush (v := 101) hx hb dL_law_742 (by decide) ?_
        refine lv_icmp_ge (tgt := 758) hx hb dL_law_744 (by decide) (fun c_17 => ?_) (fun c_17 => ?_)
        · have hge : 101 ≤ gvV two := (nI_leI (by decide) (by omega)).mp (show nI 101 ≤ nI (gvV two) from c_17)
          refine lv_iconst (v := 0) hx hb dL_law_758 (by decide) ?_
          refine lv_istore (lv' := [(25, .int 0), (0, .ref sb), (1, .ref (ac (0, 0, 0))), (2, .ref (ad (0, 0, 0))), (3, .ref (ad (1, 0, 0))), (4, .ref (ad (2, 0, 0))), (5, .ref (ad (3, 0, 0))), (6, .ref (ad (4, 0, 0))), (7, .ref (ad (5, 0, 0))), (8, .ref (ad (6, 0, 0))), (9, .ref (ad (7, 0, 0))), (10, .ref (ad (8, 0, 0))), (11, .ref (ad (9, 0, 0))), (12, .ref (ad (10, 0, 0))), (13, .int 1), (14, .int (nI k)), (16, .int (nI one)), (17, .int (nI two)), (18, .int (nI cl)), (19, .int (nI fd)), (20, .int (icV cl nc)), (21, .int 1), (22, .int (nI f)), (23, .int (nI (gvV two))), (24, .int (sumG I cl fd (nI (gvV two)) 6))]) hx hb dL_law_759 hl_14 (by decide) rfl (fun ls hl_18 => ?_)
          refine lv_aload hx hb dL_law_761 (lv_at hl_18 6 rfl) ?_
          refine lv_iload hx hb dL_law_763 (lv_at hl_18 0 rfl) ?_
          refine lv_if_eq (tgt := 779) hx hb dL_law_765 (by decide) (fun c_19 => ?_) (fun c_19 => absurd c_19 (by decide))
          refine lv_iconst (v := 0) hx hb dL_law_779 (by decide) ?_
          refine lv_iload hx hb dL_law_780 (lv_at hl_18 0 rfl) ?_
          refine lv_if_eq (tgt := 790) hx hb dL_law_782 (by decide) (fun c_20 => ?_) (fun c_20 => absurd c_20 (by decide))
          refine lv_aload hx hb dL_law_790 (lv_at hl_18 6 rfl) ?_
          refine lv_iconst (v := 0) hx hb dL_law_792 (by decide) ?_
          refine ls_ild C hH_12 3 rfl (by decide) (j := 0) rfl (show 0 < 18 by omega) dL_law_793 ?_
          refine ls_ist C hH_12 hS_13 3 rfl (by decide) (j := 0) rfl (show 0 < 18 by omega) dL_law_794 (fun H locs hH_21 hS_22 => ?_)
          have hH_23 := hH_21
          rw [up2_self] at hH_23
          refine lv_aload_n hx hb dL_law_795 rfl (lv_at hl_18 2 rfl) ?_
          refine lv_iconst (v := 3) hx hb dL_law_796 (by decide) ?_
          refine lv_iload hx hb dL_law_797 (lv_at hl_18 18 rfl) ?_
          refine lv_iload hx hb dL_law_799 (lv_at hl_18 19 rfl) ?_
          refine lv_iload hx hb dL_law_801 (lv_at hl_18 23 rfl) ?_
          refine zk_cl (zk_rSH (As := [.ref (ac (0, 0, 0)), .int 3, .int (nI cl), .int (nI fd), .int (nI (gvV two))]) (rest := []) (n := 5) (w := zk_sum 50 (cw cA (g 0) ac 6 nc nc 6 nt dy mo I L) (aw cA ad Ia La)) C (qd_goal_A l D cA A g ac nc nt dy mo I L _ hst cl fd hr1 hr2 (nI (gvV two)) (fun z => nI_ge (a := 100) (by omega) (by omega) z.2) (by omega)) hH_23 hS_22 gL_law_L_does rfl rfl (by decide +kernel) ⟨Nat.le_of_ble_eq_true rfl, Nat.le_of_ble_eq_true rfl⟩ hl_18 rfl (Nat.le_of_ble_eq_true rfl) dL_law_803 ⟨by show cells + 3 ≤ 600104; omega, by show slots + 18 ≤ 7301314; omega⟩) hS_22 (fun r_24 w_25 H locs hP hH_26 hS_27 => ?_)
          obtain ⟨rfl, rfl⟩ := hP
          refine lv_iload hx hb dL_law_806 (lv_at hl_18 21 rfl) ?_
          refine lv_if_ne (tgt := 817) hx hb dL_law_808 (by decide) (fun c_28 => ?_) (fun c_28 => absurd c_28 (by decide))
          refine lv_iload hx hb dL_law_817 (lv_at hl_18 23 rfl) ?_
          refine lv_bipush (v := 100) hx hb dL_law_819 (by decide) ?_
          refine lv_icmp_le (tgt := 830) hx hb dL_law_821 (by decide) (fun c_29 => absurd c_29 (nI_ge (a := 100) (by omega) (by omega))) (fun c_29 => ?_)
          refine lv_ldc2 (v := (-2000000000000)) hx hb hown (hts (.constantLong RL 63 (-2000000000000)) (by decide +kernel)) dL_law_824 ?_
          refine lv_goto (tgt := 844) hx hb dL_law_827 (by decide) ?_
          refine zl_cmp_ne (tgt := 852) hx hb dL_law_844 dL_law_845 (by decide) (fun c_30 => absurd c_30 (by decide)) (fun c_30 => ?_)
          refine lv_iconst (v := 1) hx hb dL_law_848 (by decide) ?_
          refine lv_goto (tgt := 853) hx hb dL_law_849 (by decide) ?_
          refine lv_istore (lv' := [(13, .int 1), (25, .int 0), (0, .ref sb), (1, .ref (ac (0, 0, 0))), (2, .ref (ad (0, 0, 0))), (3, .ref (ad (1, 0, 0))), (4, .ref (ad (2, 0, 0))), (5, .ref (ad (3, 0, 0))), (6, .ref (ad (4, 0, 0))), (7, .ref (ad (5, 0, 0))), (8, .ref (ad (6, 0, 0))), (9, .ref (ad (7, 0, 0))), (10, .ref (ad (8, 0, 0))), (11, .ref (ad (9, 0, 0))), (12, .ref (ad (10, 0, 0))), (14, .int (nI k)), (16, .int (nI one)), (17, .int (nI two)), (18, .int (nI cl)), (19, .int (nI fd)), (20, .int (icV cl nc)), (21, .int 1), (22, .int (nI f)), (23, .int (nI (gvV two))), (24, .int (sumG I cl fd (nI (gvV two)) 6))]) hx hb dL_law_853 hl_18 (by decide) rfl (fun ls hl_31 => ?_)
          refine lv_goto (tgt := 2146) hx hb dL_law_855 (by decide) ?_
          exact W.widen (by show cells + 3 ≤ cells + 30; omega) (by show slots + 18 ≤ slots + 2200; omega) (K ac nc nt dy mo I L Ia La H locs ls hH_26 hS_27 (hJ.mono (by omega)) hc1 rfl (lv_sub hl_31 [2, 3, 4, 5, 6, 7, 8, 9, 10, 11, 12, 13, 14, 0, 15, 16, 17] rfl))
        · have hlt : gvV two < 101 := Nat.lt_of_not_le (fun z => c_17 (show nI 101 ≤ nI (gvV two) from nI_le z (by omega)))
          have hzg : zR (nI (gvV two)) 0 100 := zR_of (a := 0) (b := 100) (Nat.zero_le _) (by omega) (by decide)
          have hgs := goal_sum (I := I) (c := cl) (k := fd) (its := (nI (gvV two))) (n6 := 6) rfl hr2
          refine lv_iload hx hb dL_law_747 (lv_at hl_14 23 rfl) ?_
          refine lv_bipush (v := 101) hx hb dL_law_749 (by decide) ?_
          refine lv_icmp_ge (tgt := 758) hx hb dL_law_751 (by decide) (fun c_32 => ?_) (fun c_32 => ?_)
          · refine lv_iconst (v := 0) hx hb dL_law_758 (by decide) ?_
            refine lv_istore (lv' := [(25, .int 0), (0, .ref sb), (1, .ref (ac (0, 0, 0))), (2, .ref (ad (0, 0, 0))), (3, .ref (ad (1, 0, 0))), (4, .ref (ad (2, 0, 0))), (5, .ref (ad (3, 0, 0))), (6, .ref (ad (4, 0, 0))), (7, .ref (ad (5, 0, 0))), (8, .ref (ad (6, 0, 0))), (9, .ref (ad (7, 0, 0))), (10, .ref (ad (8, 0, 0))), (11, .ref (ad (9, 0, 0))), (12, .ref (ad (10, 0, 0))), (13, .int 1), (14, .int (nI k)), (16, .int (nI one)), (17, .int (nI two)), (18, .int (nI cl)), (19, .int (nI fd)), (20, .int (icV cl nc)), (21, .int 1), (22, .int (nI f)), (23, .int (nI (gvV two))), (24, .int (sumG I cl fd (nI (gvV two)) 6))]) hx hb dL_law_759 hl_14 (by decide) rfl (fun ls hl_33 => ?_)
            refine lv_aload hx hb dL_law_761 (lv_at hl_33 6 rfl) ?_
            refine lv_iload hx hb dL_law_763 (lv_at hl_33 0 rfl) ?_
            refine lv_if_eq (tgt := 779) hx hb dL_law_765 (by decide) (fun c_34 => ?_) (fun c_34 => absurd c_34 (by decide))
            refine lv_iconst (v := 0) hx hb dL_law_779 (by decide) ?_
            refine lv_iload hx hb dL_law_780 (lv_at hl_33 0 rfl) ?_
            refine lv_if_eq (tgt := 790) hx hb dL_law_782 (by decide) (fun c_35 => ?_) (fun c_35 => absurd c_35 (by decide))
            refine lv_aload hx hb dL_law_790 (lv_at hl_33 6 rfl) ?_
            refine lv_iconst (v := 0) hx hb dL_law_792 (by decide) ?_
            refine ls_ild C hH_12 3 rfl (by decide) (j := 0) rfl (show 0 < 18 by omega) dL_law_793 ?_
            refine ls_ist C hH_12 hS_13 3 rfl (by decide) (j := 0) rfl (show 0 < 18 by omega) dL_law_794 (fun H locs hH_36 hS_37 => ?_)
            have hH_38 := hH_36
            rw [up2_self] at hH_38
            refine lv_aload_n hx hb dL_law_795 rfl (lv_at hl_33 2 rfl) ?_
            refine lv_iconst (v := 3) hx hb dL_law_796 (by decide) ?_
            refine lv_iload hx hb dL_law_797 (lv_at hl_33 18 rfl) ?_
            refine lv_iload hx hb dL_law_799 (lv_at hl_33 19 rfl) ?_
            refine lv_iload hx hb dL_law_801 (lv_at hl_33 23 rfl) ?_
            refine zk_cl (zk_rSH (As := [.ref (ac (0, 0, 0)), .int 3, .int (nI cl), .int (nI fd), .int (nI (gvV two))]) (rest := []) (n := 5) (w := zk_sum 50 (cw cA (g 0) ac 6 nc nc 6 nt dy mo I L) (aw cA ad Ia La)) C (qd_goal_S l D cA A g ac nc nt dy mo I L _ hst cl fd hr1 hr2 (nI (gvV two)) hzg (by rw [hgs]; exact i32_101.mp c_32) (by omega)) hH_38 hS_37 gL_law_L_does rfl rfl (by decide +kernel) ⟨Nat.le_of_ble_eq_true rfl, Nat.le_of_ble_eq_true rfl⟩ hl_33 rfl (Nat.le_of_ble_eq_true rfl) dL_law_803 ⟨by show cells + 3 ≤ 600104; omega, by show slots + 18 ≤ 7301314; omega⟩) hS_37 (fun r_39 w_40 H locs hP hH_41 hS_42 => ?_)
            obtain ⟨rfl, rfl⟩ := hP
            refine lv_iload hx hb dL_law_806 (lv_at hl_33 21 rfl) ?_
            refine lv_if_ne (tgt := 817) hx hb dL_law_808 (by decide) (fun c_43 => ?_) (fun c_43 => absurd c_43 (by decide))
            refine lv_iload hx hb dL_law_817 (lv_at hl_33 23 rfl) ?_
            refine lv_bipush (v := 100) hx hb dL_law_819 (by decide) ?_
            refine lv_icmp_le (tgt := 830) hx hb dL_law_821 (by decide) (fun c_44 => ?_) (fun c_44 => absurd (show nI (gvV two) ≤ nI 100 from nI_le (by omega) (by decide)) c_44)
            refine lv_iload hx hb dL_law_830 (lv_at hl_33 0 rfl) ?_
            refine lv_if_eq (tgt := 841) hx hb dL_law_832 (by decide) (fun c_45 => ?_) (fun c_45 => absurd c_45 (by decide))
            refine lv_ldc2 (v := (-1000000000000)) hx hb hown (hts (.constantLong RL 67 (-1000000000000)) (by decide +kernel)) dL_law_841 ?_
            refine zl_cmp_ne (tgt := 852) hx hb dL_law_844 dL_law_845 (by decide) (fun c_46 => absurd c_46 (by decide)) (fun c_46 => ?_)
            refine lv_iconst (v := 1) hx hb dL_law_848 (by decide) ?_
            refine lv_goto (tgt := 853) hx hb dL_law_849 (by decide) ?_
            refine lv_istore (lv' := [(13, .int 1), (25, .int 0), (0, .ref sb), (1, .ref (ac (0, 0, 0))), (2, .ref (ad (0, 0, 0))), (3, .ref (ad (1, 0, 0))), (4, .ref (ad (2, 0, 0))), (5, .ref (ad (3, 0, 0))), (6, .ref (ad (4, 0, 0))), (7, .ref (ad (5, 0, 0))), (8, .ref (ad (6, 0, 0))), (9, .ref (ad (7, 0, 0))), (10, .ref (ad (8, 0, 0))), (11, .ref (ad (9, 0, 0))), (12, .ref (ad (10, 0, 0))), (14, .int (nI k)), (16, .int (nI one)), (17, .int (nI two)), (18, .int (nI cl)), (19, .int (nI fd)), (20, .int (icV cl nc)), (21, .int 1), (22, .int (nI f)), (23, .int (nI (gvV two))), (24, .int (sumG I cl fd (nI (gvV two)) 6))]) hx hb dL_law_853 hl_33 (by decide) rfl (fun ls hl_47 => ?_)
            refine lv_goto (tgt := 2146) hx hb dL_law_855 (by decide) ?_
            exact W.widen (by show cells + 3 ≤ cells + 30; omega) (by show slots + 18 ≤ slots + 2200; omega) (K ac nc nt dy mo I L Ia La H locs ls hH_41 hS_42 (hJ.mono (by omega)) hc1 rfl (lv_sub hl_47 [2, 3, 4, 5, 6, 7, 8, 9, 10, 11, 12, 13, 14, 0, 15, 16, 17] rfl))
          · refine lv_iconst (v := 1) hx hb dL_law_754 (by decide) ?_
            refine lv_goto (tgt := 759) hx hb dL_law_755 (by decide) ?_
            refine lv_istore (lv' := [(25, .int 1), (0, .ref sb), (1, .ref (ac (0, 0, 0))), (2, .ref (ad (0, 0, 0))), (3, .ref (ad (1, 0, 0))), (4, .ref (ad (2, 0, 0))), (5, .ref (ad (3, 0, 0))), (6, .ref (ad (4, 0, 0))), (7, .ref (ad (5, 0, 0))), (8, .ref (ad (6, 0, 0))), (9, .ref (ad (7, 0, 0))), (10, .ref (ad (8, 0, 0))), (11, .ref (ad (9, 0, 0))), (12, .ref (ad (10, 0, 0))), (13, .int 1), (14, .int (nI k)), (16, .int (nI one)), (17, .int (nI two)), (18, .int (nI cl)), (19, .int (nI fd)), (20, .int (icV cl nc)), (21, .int 1), (22, .int (nI f)), (23, .int (nI (gvV two))), (24, .int (sumG I cl fd (nI (gvV two)) 6))]) hx hb dL_law_759 hl_14 (by decide) rfl (fun ls hl_48 => ?_)
            refine lv_aload hx hb dL_law_761 (lv_at hl_48 6 rfl) ?_
            refine lv_iload hx hb dL_law_763 (lv_at hl_48 0 rfl) ?_
            refine lv_if_eq (tgt := 779) hx hb dL_law_765 (by decide) (fun c_49 => absurd c_49 (by decide)) (fun c_49 => ?_)
            refine lv_bipush (v := 6) hx hb dL_law_768 (by decide) ?_
            refine lv_iload hx hb dL_law_770 (lv_at hl_48 18 rfl) ?_
            refine lv_imul hx hb dL_law_772 ?_
            refine lv_iload hx hb dL_law_773 (lv_at hl_48 19 rfl) ?_
            refine lv_iadd hx hb dL_law_775 ?_
            refine W.eq (g2 := F0 m 776 ls [.int (nI ((6 * cl) + fd)), .ref (ad (3, 0, 0))]) (by rw [show ((6 * (nI cl)) + (nI fd) : Int32) = nI ((6 * cl) + fd) from (zi_add (zi_mul rfl rfl) rfl)]) ?_
            refine lv_goto (tgt := 780) hx hb dL_law_776 (by decide) ?_
            refine lv_iload hx hb dL_law_780 (lv_at hl_48 0 rfl) ?_
            refine lv_if_eq (tgt := 790) hx hb dL_law_782 (by decide) (fun c_50 => absurd c_50 (by decide)) (fun c_50 => ?_)
            refine lv_iload hx hb dL_law_785 (lv_at hl_48 23 rfl) ?_
            refine lv_goto (tgt := 794) hx hb dL_law_787 (by decide) ?_
            refine ls_ist C hH_12 hS_13 3 rfl (by decide) (j := ((6 * cl) + fd)) rfl (show ((6 * cl) + fd) < 18 by omega) dL_law_794 (fun H locs hH_51 hS_52 => ?_)
            refine lv_aload_n hx hb dL_law_795 rfl (lv_at hl_48 2 rfl) ?_
            refine lv_iconst (v := 3) hx hb dL_law_796 (by decide) ?_
            refine lv_iload hx hb dL_law_797 (lv_at hl_48 18 rfl) ?_
            refine lv_iload hx hb dL_law_799 (lv_at hl_48 19 rfl) ?_
            refine lv_iload hx hb dL_law_801 (lv_at hl_48 23 rfl) ?_
            refine zk_cl (zk_rSH (As := [.ref (ac (0, 0, 0)), .int 3, .int (nI cl), .int (nI fd), .int (nI (gvV two))]) (rest := []) (n := 5) (w := zk_sum 50 (cw cA (g 0) ac 6 nc nc 6 nt dy mo I L) (aw cA ad (up2 Ia 3 ((6 * cl) + fd) (nI (gvV two))) La)) C (qd_goal l D cA A g ac nc nt dy mo I L _ hst cl fd hr1 hr2 (nI (gvV two)) hzg (by rw [hgs]; exact fun z => c_32 (i32_101.mpr z)) (by omega)) hH_51 hS_52 gL_law_L_does rfl rfl (by decide +kernel) ⟨Nat.le_of_ble_eq_true rfl, Nat.le_of_ble_eq_true rfl⟩ hl_48 rfl (Nat.le_of_ble_eq_true rfl) dL_law_803 ⟨by show cells + 3 ≤ 600104; omega, by show slots + 18 ≤ 7301314; omega⟩) hS_52 (fun r_53 w_54 H locs hP hH_55 hS_56 => ?_)
            obtain ⟨rfl, rfl⟩ := hP
            refine lv_iload hx hb dL_law_806 (lv_at hl_48 21 rfl) ?_
            refine lv_if_ne (tgt := 817) hx hb dL_law_808 (by decide) (fun c_57 => ?_) (fun c_57 => absurd c_57 (by decide))
            refine lv_iload hx hb dL_law_817 (lv_at hl_48 23 rfl) ?_
            refine lv_bipush (v := 100) hx hb dL_law_819 (by decide) ?_
            refine lv_icmp_le (tgt := 830) hx hb dL_law_821 (by decide) (fun c_58 => ?_) (fun c_58 => absurd (show nI (gvV two) ≤ nI 100 from nI_le (by omega) (by decide)) c_58)
            refine lv_iload hx hb dL_law_830 (lv_at hl_48 0 rfl) ?_
            refine lv_if_eq (tgt := 841) hx hb dL_law_832 (by decide) (fun c_59 => absurd c_59 (by decide)) (fun c_59 => ?_)
            refine lv_iload hx hb dL_law_835 (lv_at hl_48 24 rfl) ?_
            refine lv_i2l (v := Int32.toInt64 (sumG I cl fd (nI (gvV two)) 6)) hx hb dL_law_837 rfl ?_
            refine lv_goto (tgt := 844) hx hb dL_law_838 (by decide) ?_
            refine zl_cmp_ne (tgt := 852) hx hb dL_law_844 dL_law_845 (by decide) (fun c_60 => absurd (by rw [hgs]) c_60) (fun c_60 => ?_)
            refine lv_iconst (v := 1) hx hb dL_law_848 (by decide) ?_
            refine lv_goto (tgt := 853) hx hb dL_law_849 (by decide) ?_
            refine lv_istore (lv' := [(13, .int 1), (25, .int 1), (0, .ref sb), (1, .ref (ac (0, 0, 0))), (2, .ref (ad (0, 0, 0))), (3, .ref (ad (1, 0, 0))), (4, .ref (ad (2, 0, 0))), (5, .ref (ad (3, 0, 0))), (6, .ref (ad (4, 0, 0))), (7, .ref (ad (5, 0, 0))), (8, .ref (ad (6, 0, 0))), (9, .ref (ad (7, 0, 0))), (10, .ref (ad (8, 0, 0))), (11, .ref (ad (9, 0, 0))), (12, .ref (ad (10, 0, 0))), (14, .int (nI k)), (16, .int (nI one)), (17, .int (nI two)), (18, .int (nI cl)), (19, .int (nI fd)), (20, .int (icV cl nc)), (21, .int 1), (22, .int (nI f)), (23, .int (nI (gvV two))), (24, .int (sumG I cl fd (nI (gvV two)) 6))]) hx hb dL_law_853 hl_48 (by decide) rfl (fun ls hl_61 => ?_)
            refine lv_goto (tgt := 2146) hx hb dL_law_855 (by decide) ?_
            exact W.widen (by show cells + 3 ≤ cells + 30; omega) (by show slots + 18 ≤ slots + 2200; omega) (K ac nc nt dy mo (up2 I 7 (6 * cl + fd) (nI (gvV two))) L (up2 Ia 3 ((6 * cl) + fd) (nI (gvV two))) La H locs ls hH_55 hS_56 ((J_goal hJ hr1 hr2 hzg).mono (by omega)) hc1 rfl (lv_sub hl_61 [2, 3, 4, 5, 6, 7, 8, 9, 10, 11, 12, 13, 14, 0, 15, 16, 17] rfl))
      · intro i_10 hi_10 ih_11 H locs ls hH_62 hS_63 hl_64
        refine lv_iload hx hb dL_law_690 (lv_at hl_64 24 rfl) ?_
        refine lv_bipush (v := 6) hx hb dL_law_692 (by decide) ?_
        refine lv_icmp_ge (tgt := 735) hx hb dL_law_694 (by decide) (fun c_65 => absurd c_65 (nI_ge hi_10 (by first | decide | omega))) (fun c_65 => ?_)
        refine lv_iload hx hb dL_law_697 (lv_at hl_64 20 rfl) ?_
        refine lv_if_eq (tgt := 735) hx hb dL_law_699 (by decide) (fun c_66 => absurd c_66 (by decide)) (fun c_66 => ?_)
        refine lv_iload hx hb dL_law_702 (lv_at hl_64 23 rfl) ?_
        refine lv_iload hx hb dL_law_704 (lv_at hl_64 24 rfl) ?_
        refine lv_iload hx hb dL_law_706 (lv_at hl_64 18 rfl) ?_
        refine lv_icmp_ne (tgt := 715) hx hb dL_law_708 (by decide) (fun c_67 => ?_) (fun c_67 => ?_)
        · have c_67n := fun z => c_67 ((nI_eq (by omega) (by omega)).mpr z)
          refine lv_aload hx hb dL_law_715 (lv_at hl_64 5 rfl) ?_
          refine lv_bipush (v := 6) hx hb dL_law_717 (by decide) ?_
          refine lv_iload hx hb dL_law_719 (lv_at hl_64 17 rfl) ?_
          refine lv_imul hx hb dL_law_721 ?_
          refine lv_iload hx hb dL_law_722 (lv_at hl_64 24 rfl) ?_
          refine lv_iadd hx hb dL_law_724 ?_
          refine W.eq (g2 := F0 m 725 ls [.int (nI ((6 * cl) + i_10)), .ref (ad (3, 0, 0)), .int (sumG I cl fd (nI (gvV two)) i_10)]) (by rw [show ((6 * (nI cl)) + (nI i_10) : Int32) = nI ((6 * cl) + i_10) from (zi_add (zi_mul rfl rfl) rfl)]) ?_
          refine ls_ild C hH_62 3 rfl (by decide) (j := ((6 * cl) + i_10)) rfl (show ((6 * cl) + i_10) < 18 by omega) dL_law_725 ?_
          refine W.eq (g2 := F0 m 726 ls [.int (I 7 (6 * cl + i_10)), .int (sumG I cl fd (nI (gvV two)) i_10)]) (by rw [hGo (6 * cl + i_10) (by omega)]) ?_
          refine lv_iadd hx hb dL_law_726 ?_
          refine lv_istore (lv' := [(24, .int ((sumG I cl fd (nI (gvV two)) i_10) + (I 7 (6 * cl + i_10)))), (0, .ref sb), (1, .ref (ac (0, 0, 0))), (2, .ref (ad (0, 0, 0))), (3, .ref (ad (1, 0, 0))), (4, .ref (ad (2, 0, 0))), (5, .ref (ad (3, 0, 0))), (6, .ref (ad (4, 0, 0))), (7, .ref (ad (5, 0, 0))), (8, .ref (ad (6, 0, 0))), (9, .ref (ad (7, 0, 0))), (10, .ref (ad (8, 0, 0))), (11, .ref (ad (9, 0, 0))), (12, .ref (ad (10, 0, 0))), (13, .int 1), (14, .int (nI k)), (16, .int (nI one)), (17, .int (nI two)), (18, .int (nI cl)), (19, .int (nI fd)), (20, .int (icV cl nc)), (21, .int 1), (22, .int (nI f)), (23, .int (nI (gvV two))), (25, .int (nI i_10))]) hx hb dL_law_727 hl_64 (by decide) rfl (fun ls hl_68 => ?_)
          refine lv_iinc (v := nI (i_10 + 1)) (lv' := [(25, .int (nI (i_10 + 1))), (24, .int ((sumG I cl fd (nI (gvV two)) i_10) + (I 7 (6 * cl + i_10)))), (0, .ref sb), (1, .ref (ac (0, 0, 0))), (2, .ref (ad (0, 0, 0))), (3, .ref (ad (1, 0, 0))), (4, .ref (ad (2, 0, 0))), (5, .ref (ad (3, 0, 0))), (6, .ref (ad (4, 0, 0))), (7, .ref (ad (5, 0, 0))), (8, .ref (ad (6, 0, 0))), (9, .ref (ad (7, 0, 0))), (10, .ref (ad (8, 0, 0))), (11, .ref (ad (9, 0, 0))), (12, .ref (ad (10, 0, 0))), (13, .int 1), (14, .int (nI k)), (16, .int (nI one)), (17, .int (nI two)), (18, .int (nI cl)), (19, .int (nI fd)), (20, .int (icV cl nc)), (21, .int 1), (22, .int (nI f)), (23, .int (nI (gvV two)))]) hx hb dL_law_729 hl_68 (k := 24) rfl (nI_1 i_10) (by decide) rfl (fun ls hl_69 => ?_)
          refine lv_goto (tgt := 690) hx hb dL_law_732 (by decide) ?_
          refine ih_11 _ _ _ hH_62 hS_63 ?_
          rw [sumG_n c_67n]
          exact lv_sub hl_69 [2, 3, 4, 5, 6, 7, 8, 9, 10, 11, 12, 13, 14, 15, 16, 17, 18, 19, 20, 21, 22, 23, 24, 1, 0] rfl
        · have c_67n := (nI_eq (by omega) (by omega)).mp c_67
          refine lv_iconst (v := 0) hx hb dL_law_711 (by decide) ?_
          refine lv_goto (tgt := 726) hx hb dL_law_712 (by decide) ?_
          refine lv_iadd hx hb dL_law_726 ?_
          refine lv_istore (lv' := [(24, .int ((sumG I cl fd (nI (gvV two)) i_10) + 0)), (0, .ref sb), (1, .ref (ac (0, 0, 0))), (2, .ref (ad (0, 0, 0))), (3, .ref (ad (1, 0, 0))), (4, .ref (ad (2, 0, 0))), (5, .ref (ad (3, 0, 0))), (6, .ref (ad (4, 0, 0))), (7, .ref (ad (5, 0, 0))), (8, .ref (ad (6, 0, 0))), (9, .ref (ad (7, 0, 0))), (10, .ref (ad (8, 0, 0))), (11, .ref (ad (9, 0, 0))), (12, .ref (ad (10, 0, 0))), (13, .int 1), (14, .int (nI k)), (16, .int (nI one)), (17, .int (nI two)), (18, .int (nI cl)), (19, .int (nI fd)), (20, .int (icV cl nc)), (21, .int 1), (22, .int (nI f)), (23, .int (nI (gvV two))), (25, .int (nI i_10))]) hx hb dL_law_727 hl_64 (by decide) rfl (fun ls hl_70 => ?_)
          refine lv_iinc (v := nI (i_10 + 1)) (lv' := [(25, .int (nI (i_10 + 1))), (24, .int ((sumG I cl fd (nI (gvV two)) i_10) + 0)), (0, .ref sb), (1, .ref (ac (0, 0, 0))), (2, .ref (ad (0, 0, 0))), (3, .ref (ad (1, 0, 0))), (4, .ref (ad (2, 0, 0))), (5, .ref (ad (3, 0, 0))), (6, .ref (ad (4, 0, 0))), (7, .ref (ad (5, 0, 0))), (8, .ref (ad (6, 0, 0))), (9, .ref (ad (7, 0, 0))), (10, .ref (ad (8, 0, 0))), (11, .ref (ad (9, 0, 0))), (12, .ref (ad (10, 0, 0))), (13, .int 1), (14, .int (nI k)), (16, .int (nI one)), (17, .int (nI two)), (18, .int (nI cl)), (19, .int (nI fd)), (20, .int (icV cl nc)), (21, .int 1), (22, .int (nI f)), (23, .int (nI (gvV two)))]) hx hb dL_law_729 hl_70 (k := 24) rfl (nI_1 i_10) (by decide) rfl (fun ls hl_71 => ?_)
          refine lv_goto (tgt := 690) hx hb dL_law_732 (by decide) ?_
          refine ih_11 _ _ _ hH_62 hS_63 ?_
          rw [sumG_p c_67n]
          exact lv_sub hl_71 [2, 3, 4, 5, 6, 7, 8, 9, 10, 11, 12, 13, 14, 15, 16, 17, 18, 19, 20, 21, 22, 23, 24, 1, 0] rfl
    · have hl_72 : lv_has ls 33 [(23, .int (nI (gvV two))), (0, .ref sb), (1, .ref (ac (0, 0, 0))), (2, .ref (ad (0, 0, 0))), (3, .ref (ad (1, 0, 0))), (4, .ref (ad (2, 0, 0))), (5, .ref (ad (3, 0, 0))), (6, .ref (ad (4, 0, 0))), (7, .ref (ad (5, 0, 0))), (8, .ref (ad (6, 0, 0))), (9, .ref (ad (7, 0, 0))), (10, .ref (ad (8, 0, 0))), (11, .ref (ad (9, 0, 0))), (12, .ref (ad (10, 0, 0))), (13, .int 1), (14, .int (nI k)), (16, .int (nI one)), (17, .int (nI two)), (18, .int (nI cl)), (19, .int (nI fd)), (20, .int (icV cl nc)), (21, .int 0), (22, .int (nI f))] := by have e9 : arV cl nc fd = 0 := if_neg hr; have h9 := hl_6; rw [e9] at h9; exact h9
      refine lv_iload hx hb dL_law_683 (lv_at hl_72 0 rfl) ?_
      refine lv_istore (lv' := [(24, .int (nI (gvV two))), (23, .int (nI (gvV two))), (0, .ref sb), (1, .ref (ac (0, 0, 0))), (2, .ref (ad (0, 0, 0))), (3, .ref (ad (1, 0, 0))), (4, .ref (ad (2, 0, 0))), (5, .ref (ad (3, 0, 0))), (6, .ref (ad (4, 0, 0))), (7, .ref (ad (5, 0, 0))), (8, .ref (ad (6, 0, 0))), (9, .ref (ad (7, 0, 0))), (10, .ref (ad (8, 0, 0))), (11, .ref (ad (9, 0, 0))), (12, .ref (ad (10, 0, 0))), (13, .int 1), (14, .int (nI k)), (16, .int (nI one)), (17, .int (nI two)), (18, .int (nI cl)), (19, .int (nI fd)), (20, .int (icV cl nc)), (21, .int 0), (22, .int (nI f))]) hx hb dL_law_685 hl_72 (by decide) rfl (fun ls hl_73 => ?_)
      refine lv_iconst (v := 0) hx hb dL_law_687 (by decide) ?_
      refine lv_istore (lv' := [(25, .int 0), (24, .int (nI (gvV two))), (23, .int (nI (gvV two))), (0, .ref sb), (1, .ref (ac (0, 0, 0))), (2, .ref (ad (0, 0, 0))), (3, .ref (ad (1, 0, 0))), (4, .ref (ad (2, 0, 0))), (5, .ref (ad (3, 0, 0))), (6, .ref (ad (4, 0, 0))), (7, .ref (ad (5, 0, 0))), (8, .ref (ad (6, 0, 0))), (9, .ref (ad (7, 0, 0))), (10, .ref (ad (8, 0, 0))), (11, .ref (ad (9, 0, 0))), (12, .ref (ad (10, 0, 0))), (13, .int 1), (14, .int (nI k)), (16, .int (nI one)), (17, .int (nI two)), (18, .int (nI cl)), (19, .int (nI fd)), (20, .int (icV cl nc)), (21, .int 0), (22, .int (nI f))]) hx hb dL_law_688 hl_73 (by decide) rfl (fun ls hl_74 => ?_)
      refine lv_iload hx hb dL_law_690 (lv_at hl_74 0 rfl) ?_
      refine lv_bipush (v := 6) hx hb dL_law_692 (by decide) ?_
      refine lv_icmp_ge (tgt := 735) hx hb dL_law_694 (by decide) (fun c_75 => absurd c_75 (by decide)) (fun c_75 => ?_)
      refine lv_iload hx hb dL_law_697 (lv_at hl_74 23 rfl) ?_
      refine lv_if_eq (tgt := 735) hx hb dL_law_699 (by decide) (fun c_76 => ?_) (fun c_76 => absurd c_76 (by decide))
      refine lv_iload hx hb dL_law_735 (lv_at hl_74 23 rfl) ?_
      refine lv_if_eq (tgt := 758) hx hb dL_law_737 (by decide) (fun c_77 => ?_) (fun c_77 => absurd c_77 (by decide))
      refine lv_iconst (v := 0) hx hb dL_law_758 (by decide) ?_
      refine lv_istore (lv' := [(25, .int 0), (24, .int (nI (gvV two))), (23, .int (nI (gvV two))), (0, .ref sb), (1, .ref (ac (0, 0, 0))), (2, .ref (ad (0, 0, 0))), (3, .ref (ad (1, 0, 0))), (4, .ref (ad (2, 0, 0))), (5, .ref (ad (3, 0, 0))), (6, .ref (ad (4, 0, 0))), (7, .ref (ad (5, 0, 0))), (8, .ref (ad (6, 0, 0))), (9, .ref (ad (7, 0, 0))), (10, .ref (ad (8, 0, 0))), (11, .ref (ad (9, 0, 0))), (12, .ref (ad (10, 0, 0))), (13, .int 1), (14, .int (nI k)), (16, .int (nI one)), (17, .int (nI two)), (18, .int (nI cl)), (19, .int (nI fd)), (20, .int (icV cl nc)), (21, .int 0), (22, .int (nI f))]) hx hb dL_law_759 hl_74 (by decide) rfl (fun ls hl_78 => ?_)
      refine lv_aload hx hb dL_law_761 (lv_at hl_78 8 rfl) ?_
      refine lv_iload hx hb dL_law_763 (lv_at hl_78 0 rfl) ?_
      refine lv_if_eq (tgt := 779) hx hb dL_law_765 (by decide) (fun c_79 => ?_) (fun c_79 => absurd c_79 (by decide))
      refine lv_iconst (v := 0) hx hb dL_law_779 (by decide) ?_
      refine lv_iload hx hb dL_law_780 (lv_at hl_78 0 rfl) ?_
      refine lv_if_eq (tgt := 790) hx hb dL_law_782 (by decide) (fun c_80 => ?_) (fun c_80 => absurd c_80 (by decide))
      refine lv_aload hx hb dL_law_790 (lv_at hl_78 8 rfl) ?_
      refine lv_iconst (v := 0) hx hb dL_law_792 (by decide) ?_
      refine ls_ild C hH_2 3 rfl (by decide) (j := 0) rfl (show 0 < 18 by omega) dL_law_793 ?_
      refine ls_ist C hH_2 hS_3 3 rfl (by decide) (j := 0) rfl (show 0 < 18 by omega) dL_law_794 (fun H locs hH_81 hS_82 => ?_)
      have hH_83 := hH_81
      rw [up2_self] at hH_83
      refine lv_aload_n hx hb dL_law_795 rfl (lv_at hl_78 4 rfl) ?_
      refine lv_iconst (v := 3) hx hb dL_law_796 (by decide) ?_
      refine lv_iload hx hb dL_law_797 (lv_at hl_78 20 rfl) ?_
      refine lv_iload hx hb dL_law_799 (lv_at hl_78 21 rfl) ?_
      refine lv_iload hx hb dL_law_801 (lv_at hl_78 2 rfl) ?_
      refine zk_cl (zk_rSH (As := [.ref (ac (0, 0, 0)), .int 3, .int (nI cl), .int (nI fd), .int (nI (gvV two))]) (rest := []) (n := 5) (w := zk_sum 50 (cw cA (g 0) ac 6 nc nc 6 nt dy mo I L) (aw cA ad Ia La)) C (qd_goal_I l D cA A g ac nc nt dy mo I L _ hst (nI cl) (nI fd) (nI (gvV two)) (zno2 (by omega) (by decide) (by omega) (by omega) hr) (by omega)) hH_83 hS_82 gL_law_L_does rfl rfl (by decide +kernel) ⟨Nat.le_of_ble_eq_true rfl, Nat.le_of_ble_eq_true rfl⟩ hl_78 rfl (Nat.le_of_ble_eq_true rfl) dL_law_803 ⟨by show cells + 3 ≤ 600104; omega, by show slots + 18 ≤ 7301314; omega⟩) hS_82 (fun r_84 w_85 H locs hP hH_86 hS_87 => ?_)
      obtain ⟨rfl, rfl⟩ := hP
      refine lv_iload hx hb dL_law_806 (lv_at hl_78 23 rfl) ?_
      refine lv_if_ne (tgt := 817) hx hb dL_law_808 (by decide) (fun c_88 => absurd c_88 (by decide)) (fun c_88 => ?_)
      refine lv_ldc2 (v := (-3000000000000)) hx hb hown (hts (.constantLong RL 59 (-3000000000000)) (by decide +kernel)) dL_law_811 ?_
      refine lv_goto (tgt := 844) hx hb dL_law_814 (by decide) ?_
      refine zl_cmp_ne (tgt := 852) hx hb dL_law_844 dL_law_845 (by decide) (fun c_89 => absurd c_89 (by decide)) (fun c_89 => ?_)
      refine lv_iconst (v := 1) hx hb dL_law_848 (by decide) ?_
      refine lv_goto (tgt := 853) hx hb dL_law_849 (by decide) ?_
      refine lv_istore (lv' := [(13, .int 1), (25, .int 0), (24, .int (nI (gvV two))), (23, .int (nI (gvV two))), (0, .ref sb), (1, .ref (ac (0, 0, 0))), (2, .ref (ad (0, 0, 0))), (3, .ref (ad (1, 0, 0))), (4, .ref (ad (2, 0, 0))), (5, .ref (ad (3, 0, 0))), (6, .ref (ad (4, 0, 0))), (7, .ref (ad (5, 0, 0))), (8, .ref (ad (6, 0, 0))), (9, .ref (ad (7, 0, 0))), (10, .ref (ad (8, 0, 0))), (11, .ref (ad (9, 0, 0))), (12, .ref (ad (10, 0, 0))), (14, .int (nI k)), (16, .int (nI one)), (17, .int (nI two)), (18, .int (nI cl)), (19, .int (nI fd)), (20, .int (icV cl nc)), (21, .int 0), (22, .int (nI f))]) hx hb dL_law_853 hl_78 (by decide) rfl (fun ls hl_90 => ?_)
      refine lv_goto (tgt := 2146) hx hb dL_law_855 (by decide) ?_
      exact W.widen (by show cells + 3 ≤ cells + 30; omega) (by show slots + 18 ≤ slots + 2200; omega) (K ac nc nt dy mo I L Ia La H locs ls hH_86 hS_87 (hJ.mono (by omega)) hc1 rfl (lv_sub hl_90 [4, 5, 6, 7, 8, 9, 10, 11, 12, 13, 14, 15, 16, 0, 17, 18, 19] rfl))
end LAW
