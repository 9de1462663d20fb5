section LAW
variable {p : Program} {l : Launch} {e : Env} {s : State} {m : MethodId} {below : List Frame} {meth : Method} {c : Code} {H : Heap} {locs : List Loc} {cells slots : Nat} {Q : State → Prop} {ls : Array Slot} {D : va_G} {cA : Nat → ClassId} {A : Nat → Prop} {g : Nat → Nat}
variable {sb k one two b nc nt dy cl fd f : Nat} {ac ad : zk_K → Nat} {mo : Int64} {I Ia : zIA} {L La : zLA}
set_option maxHeartbeats 2000000 in
set_option maxRecDepth 100000 in
theorem lw_complain (C : zC p l m c cL_law 33 s #[.ref sb] wsL_law RL D (zt cA) A g meth) (hst : l.stackTraces = false) (hJ : zJ nc nt dy b mo I L Ia La) (hb8 : b ≤ 8000) (hone : one < 60000) (htwo : two < 60000) (hk : k < 60) (hcl : cl ≤ nc) (hfd : fd < 7) (hf : f < 6) (hff : fd < 6 → f = fd) (hc : cells + 30 ≤ 600104) (hs : slots + 2200 ≤ 7301314) (hH : zk_H D A (zk_sum 50 (cw cA (g 0) ac 6 nc nc 6 nt dy mo I L) (aw cA ad Ia La)) H) (hS : va_S A s.heap H locs) (hc1 : 1 ≤ nc) (hl : lv_has ls 33 [(0, .ref sb), (1, .ref (ac (0, 0, 0))), (2, .ref (ad (0, 0, 0))), (3, .ref (ad (1, 0, 0))), (4, .ref (ad (2, 0, 0))), (5, .ref (ad (3, 0, 0))), (6, .ref (ad (4, 0, 0))), (7, .ref (ad (5, 0, 0))), (8, .ref (ad (6, 0, 0))), (9, .ref (ad (7, 0, 0))), (10, .ref (ad (8, 0, 0))), (11, .ref (ad (9, 0, 0))), (12, .ref (ad (10, 0, 0))), (13, .int 1), (14, .int (nI k)), (16, .int (nI one)), (17, .int (nI two)), (18, .int (nI cl)), (19, .int (nI fd)), (20, .int (icV cl nc)), (21, .int (arV cl nc fd)), (22, .int (nI f))]) (K : lwK p l e s m below meth c D cA A g sb k one two (b + 12) (ac (0, 0, 0)) ad (cells + 30) (slots + 2200) Q) : W p l e room_1 s m #[.ref sb] below meth c H locs cells slots Q (F0 m 1439 ls []) := by
  obtain ⟨⟨hx, hb, hml, hown, hts⟩, hG, hlk⟩ := id C
  obtain ⟨hO, hM, hD⟩ := hJ.d
  obtain ⟨hI, ⟨hn3, hn30⟩, ⟨e0, e1, e2⟩, hP, hGo, ⟨v1, v2, v3, v4⟩, h7, hR, hE, hSu⟩ := id hJ
  obtain ⟨-, -, hdy⟩ := hI.1
  obtain ⟨h11, h12, h16, -, -⟩ := hI.t
  obtain ⟨tr, htr0, htr⟩ : ∃ t, t = one % (nt + 1) ∧ t < nt + 1 := ⟨_, rfl, Nat.mod_lt _ (by omega)⟩
  refine lv_iload hx hb dL_law_1439 (lv_at hl 15 rfl) ?_
  refine lv_aload hx hb dL_law_1441 (lv_at hl 12 rfl) ?_
  refine lv_iconst (v := 2) hx hb dL_law_1443 (by decide) ?_
  refine ls_ild C hH 10 rfl (by decide) (j := 2) rfl (show 2 < 3 by omega) dL_law_1444 ?_
  refine W.eq (g2 := F0 m 1445 ls [.int (nI nt), .int (nI one)]) (by rw [e2]) ?_
  refine lv_iconst (v := 1) hx hb dL_law_1445 (by decide) ?_
  refine lv_iadd hx hb dL_law_1446 ?_
  refine W.eq (g2 := F0 m 1447 ls [.int (nI (nt + 1)), .int (nI one)]) (by rw [show ((nI nt) + 1 : Int32) = nI (nt + 1) from (zi_add rfl rfl)]) ?_
  refine lv_irem hx hb dL_law_1447 (fun z => absurd ((nI_k0 (by omega)).mp z) (by omega)) ?_
  refine W.eq (g2 := F0 m 1448 ls [.int (nI (one % (nt + 1)))]) (by rw [show ((nI one) - (nI one) / (nI (nt + 1)) * (nI (nt + 1)) : Int32) = nI (one % (nt + 1)) from (zi_rem rfl rfl (by omega) (by omega) (by omega))]) ?_
  refine W.eq (g2 := F0 m 1448 ls [.int (nI tr)]) (by rw [htr0]) ?_
  refine lv_istore (lv' := [(23, .int (nI tr)), (0, .ref sb), (1, .ref (ac (0, 0, 0))), (2, .ref (ad (0, 0, 0))), (3, .ref (ad (1, 0, 0))), (4, .ref (ad (2, 0, 0))), (5, .ref (ad (3, 0, 0))), (6, .ref (ad (4, 0, 0))), (7, .ref (ad (5, 0, 0))), (8, .ref (ad (6, 0, 0))), (9, .ref (ad (7, 0, 0))), (10, .ref (ad (8, 0, 0))), (11, .ref (ad (9, 0, 0))), (12, .ref (ad (10, 0, 0))), (13, .int 1), (14, .int (nI k)), (16, .int (nI one)), (17, .int (nI two)), (18, .int (nI cl)), (19, .int (nI fd)), (20, .int (icV cl nc)), (21, .int (arV cl nc fd)), (22, .int (nI f))]) hx hb dL_law_1448 hl (by decide) rfl (fun ls hl_1 => ?_)
  by_cases hlt : tr < nt
  · have hpk := pk_bd hO hD hlt
    by_cases hs : I 17 tr = 0
    · refine lv_iload hx hb dL_law_1450 (lv_at hl_1 0 rfl) ?_
      refine lv_aload hx hb dL_law_1452 (lv_at hl_1 13 rfl) ?_
      refine lv_iconst (v := 2) hx hb dL_law_1454 (by decide) ?_
      refine ls_ild C hH 10 rfl (by decide) (j := 2) rfl (show 2 < 3 by omega) dL_law_1455 ?_
      refine W.eq (g2 := F0 m 1456 ls [.int (nI nt), .int (nI tr)]) (by rw [e2]) ?_
      refine lv_icmp_ge (tgt := 1486) hx hb dL_law_1456 (by decide) (fun c_2 => absurd c_2 (nI_ge hlt (by omega))) (fun c_2 => ?_)
      refine lv_aload hx hb dL_law_1459 (lv_at hl_1 7 rfl) ?_
      refine lv_iload hx hb dL_law_1461 (lv_at hl_1 0 rfl) ?_
      refine lv_aload hx hb dL_law_1463 (lv_at hl_1 13 rfl) ?_
      refine lv_iconst (v := 2) hx hb dL_law_1465 (by decide) ?_
      refine ls_ild C hH 10 rfl (by decide) (j := 2) rfl (show 2 < 3 by omega) dL_law_1466 ?_
      refine W.eq (g2 := F0 m 1467 ls [.int (nI nt), .int (nI tr), .ref (ad (4, 0, 0))]) (by rw [e2]) ?_
      refine lv_icmp_ge (tgt := 1475) hx hb dL_law_1467 (by decide) (fun c_3 => absurd c_3 (nI_ge hlt (by omega))) (fun c_3 => ?_)
      refine lv_iload hx hb dL_law_1470 (lv_at hl_1 0 rfl) ?_
      refine lv_goto (tgt := 1476) hx hb dL_law_1472 (by decide) ?_
      refine ls_ild C hH 4 rfl (by decide) (j := tr) rfl (show tr < 30 by omega) dL_law_1476 ?_
      refine W.eq (g2 := F0 m 1477 ls [.int (nI (pkT I tr))]) (by rw [(hR tr hlt).1]) ?_
      refine lv_ldc (v := 524288) hx hb hown (hts (.constant RL 93 524288) (by decide +kernel)) dL_law_1477 ?_
      refine lv_icmp_ge (tgt := 1486) hx hb dL_law_1479 (by decide) (fun c_4 => ?_) (fun c_4 => absurd (show nI 524288 ≤ nI (pkT I tr) from nI_le ((pk_11 hO hD hlt).2.2.2.mp hs) (by omega)) c_4)
      refine lv_iconst (v := 0) hx hb dL_law_1486 (by decide) ?_
      refine lv_istore (lv' := [(24, .int 0), (23, .int (nI tr)), (0, .ref sb), (1, .ref (ac (0, 0, 0))), (2, .ref (ad (0, 0, 0))), (3, .ref (ad (1, 0, 0))), (4, .ref (ad (2, 0, 0))), (5, .ref (ad (3, 0, 0))), (6, .ref (ad (4, 0, 0))), (7, .ref (ad (5, 0, 0))), (8, .ref (ad (6, 0, 0))), (9, .ref (ad (7, 0, 0))), (10, .ref (ad (8, 0, 0))), (11, .ref (ad (9, 0, 0))), (12, .ref (ad (10, 0, 0))), (13, .int 1), (14, .int (nI k)), (16, .int (nI one)), (17, .int (nI two)), (18, .int (nI cl)), (19, .int (nI fd)), (20, .int (icV cl nc)), (21, .int (arV cl nc fd)), (22, .int (nI f))]) hx hb dL_law_1487 hl_1 (by decide) rfl (fun ls hl_5 => ?_)
      refine lv_iload hx hb dL_law_1489 (lv_at hl_5 0 rfl) ?_
      refine lv_if_eq (tgt := 1504) hx hb dL_law_1491 (by decide) (fun c_6 => ?_) (fun c_6 => absurd c_6 (by decide))
      refine lv_iconst (v := 0) hx hb dL_law_1504 (by decide) ?_
      refine lv_istore (lv' := [(25, .int 0), (24, .int 0), (23, .int (nI tr)), (0, .ref sb), (1, .ref (ac (0, 0, 0))), (2, .ref (ad (0, 0, 0))), (3, .ref (ad (1, 0, 0))), (4, .ref (ad (2, 0, 0))), (5, .ref (ad (3, 0, 0))), (6, .ref (ad (4, 0, 0))), (7, .ref (ad (5, 0, 0))), (8, .ref (ad (6, 0, 0))), (9, .ref (ad (7, 0, 0))), (10, .ref (ad (8, 0, 0))), (11, .ref (ad (9, 0, 0))), (12, .ref (ad (10, 0, 0))), (13, .int 1), (14, .int (nI k)), (16, .int (nI one)), (17, .int (nI two)), (18, .int (nI cl)), (19, .int (nI fd)), (20, .int (icV cl nc)), (21, .int (arV cl nc fd)), (22, .int (nI f))]) hx hb dL_law_1505 hl_5 (by decide) rfl (fun ls hl_7 => ?_)
      refine lv_lconst (v := 0) hx hb dL_law_1507 (by decide) ?_
      refine lv_lstore (lv' := [(26, .long 0), (25, .int 0), (24, .int 0), (23, .int (nI tr)), (0, .ref sb), (1, .ref (ac (0, 0, 0))), (2, .ref (ad (0, 0, 0))), (3, .ref (ad (1, 0, 0))), (4, .ref (ad (2, 0, 0))), (5, .ref (ad (3, 0, 0))), (6, .ref (ad (4, 0, 0))), (7, .ref (ad (5, 0, 0))), (8, .ref (ad (6, 0, 0))), (9, .ref (ad (7, 0, 0))), (10, .ref (ad (8, 0, 0))), (11, .ref (ad (9, 0, 0))), (12, .ref (ad (10, 0, 0))), (13, .int 1), (14, .int (nI k)), (16, .int (nI one)), (17, .int (nI two)), (18, .int (nI cl)), (19, .int (nI fd)), (20, .int (icV cl nc)), (21, .int (arV cl nc fd)), (22, .int (nI f))]) hx hb dL_law_1508 hl_7 (by decide) rfl (fun ls hl_8 => ?_)
      refine lv_iload hx hb dL_law_1510 (lv_at hl_8 2 rfl) ?_
      refine lv_istore (lv' := [(28, .int 0), (26, .long 0), (25, .int 0), (24, .int 0), (23, .int (nI tr)), (0, .ref sb), (1, .ref (ac (0, 0, 0))), (2, .ref (ad (0, 0, 0))), (3, .ref (ad (1, 0, 0))), (4, .ref (ad (2, 0, 0))), (5, .ref (ad (3, 0, 0))), (6, .ref (ad (4, 0, 0))), (7, .ref (ad (5, 0, 0))), (8, .ref (ad (6, 0, 0))), (9, .ref (ad (7, 0, 0))), (10, .ref (ad (8, 0, 0))), (11, .ref (ad (9, 0, 0))), (12, .ref (ad (10, 0, 0))), (13, .int 1), (14, .int (nI k)), (16, .int (nI one)), (17, .int (nI two)), (18, .int (nI cl)), (19, .int (nI fd)), (20, .int (icV cl nc)), (21, .int (arV cl nc fd)), (22, .int (nI f))]) hx hb dL_law_1512 hl_8 (by decide) rfl (fun ls hl_9 => ?_)
      refine lv_iload hx hb dL_law_1514 (lv_at hl_9 3 rfl) ?_
      refine lv_if_eq (tgt := 1771) hx hb dL_law_1516 (by decide) (fun c_10 => ?_) (fun c_10 => absurd c_10 (by decide))
      refine lv_aload_n hx hb dL_law_1771 rfl (lv_at hl_9 6 rfl) ?_
      refine lv_bipush (v := 7) hx hb dL_law_1772 (by decide) ?_
      refine lv_iload hx hb dL_law_1774 (lv_at hl_9 4 rfl) ?_
      refine lv_iconst (v := 0) hx hb dL_law_1776 (by decide) ?_
      refine lv_iconst (v := 0) hx hb dL_law_1777 (by decide) ?_
      refine zk_cl (zk_rSH (As := [.ref (ac (0, 0, 0)), .int 7, .int (nI tr), .int 0, .int 0]) (rest := []) (n := 5) (w := zk_sum 50 (cw cA (g 0) ac 6 nc nc 6 nt dy mo I L) (aw cA ad Ia La)) C (qd_complain_S l D cA A g ac nc nt dy mo I L _ hst tr hlt (fun z => z.1 hs) hdy (by omega) (by omega) h11 h12 h16) hH hS gL_law_L_does rfl rfl (by decide +kernel) ⟨Nat.le_of_ble_eq_true rfl, Nat.le_of_ble_eq_true rfl⟩ hl_9 rfl (Nat.le_of_ble_eq_true rfl) dL_law_1778 ⟨by show cells + 2 ≤ 600104; omega, by show slots + 12 ≤ 7301314; omega⟩) hS (fun r_11 w_12 H locs hP hH_13 hS_14 => ?_)
      obtain ⟨rfl, rfl⟩ := hP
      refine lv_iload hx hb dL_law_1781 (lv_at hl_9 4 rfl) ?_
      refine lv_aload hx hb dL_law_1783 (lv_at hl_9 17 rfl) ?_
      refine lv_iconst (v := 2) hx hb dL_law_1785 (by decide) ?_
      refine ls_ild C hH_13 10 rfl (by decide) (j := 2) rfl (show 2 < 3 by omega) dL_law_1786 ?_
      refine W.eq (g2 := F0 m 1787 ls [.int (nI nt), .int (nI tr), .long (-1000000000000)]) (by rw [e2]) ?_
      refine lv_icmp_ne (tgt := 1796) hx hb dL_law_1787 (by decide) (fun c_15 => ?_) (fun c_15 => absurd ((nI_eq (by omega) (by omega)).mp c_15) (by omega))
      refine lv_iload hx hb dL_law_1796 (lv_at hl_9 0 rfl) ?_
      refine lv_if_eq (tgt := 1806) hx hb dL_law_1798 (by decide) (fun c_16 => ?_) (fun c_16 => absurd c_16 (by decide))
      refine lv_ldc2 (v := (-1000000000000)) hx hb hown (hts (.constantLong RL 67 (-1000000000000)) (by decide +kernel)) dL_law_1806 ?_
      refine zl_cmp_ne (tgt := 1817) hx hb dL_law_1809 dL_law_1810 (by decide) (fun c_17 => absurd c_17 (by decide)) (fun c_17 => ?_)
      refine lv_iconst (v := 1) hx hb dL_law_1813 (by decide) ?_
      refine lv_goto (tgt := 1818) hx hb dL_law_1814 (by decide) ?_
      refine lv_istore (lv' := [(13, .int 1), (28, .int 0), (26, .long 0), (25, .int 0), (24, .int 0), (23, .int (nI tr)), (0, .ref sb), (1, .ref (ac (0, 0, 0))), (2, .ref (ad (0, 0, 0))), (3, .ref (ad (1, 0, 0))), (4, .ref (ad (2, 0, 0))), (5, .ref (ad (3, 0, 0))), (6, .ref (ad (4, 0, 0))), (7, .ref (ad (5, 0, 0))), (8, .ref (ad (6, 0, 0))), (9, .ref (ad (7, 0, 0))), (10, .ref (ad (8, 0, 0))), (11, .ref (ad (9, 0, 0))), (12, .ref (ad (10, 0, 0))), (14, .int (nI k)), (16, .int (nI one)), (17, .int (nI two)), (18, .int (nI cl)), (19, .int (nI fd)), (20, .int (icV cl nc)), (21, .int (arV cl nc fd)), (22, .int (nI f))]) hx hb dL_law_1818 hl_9 (by decide) rfl (fun ls hl_18 => ?_)
      refine lv_goto (tgt := 2146) hx hb dL_law_1820 (by decide) ?_
      exact W.widen (by show cells + 2 ≤ cells + 30; omega) (by show slots + 12 ≤ slots + 2200; omega) (K ac nc nt dy mo I L Ia La H locs ls hH_13 hS_14 (hJ.mono (by omega)) hc1 rfl (lv_sub hl_18 [6, 7, 8, 9, 10, 11, 12, 13, 14, 15, 16, 17, 18, 0, 19, 20, 21] rfl))
    · obtain ⟨cc, hcc⟩ : ∃ x, x = dN (I 11 tr) := ⟨_, rfl⟩
      obtain ⟨ff, hff2⟩ : ∃ x, x = dN (I 12 tr) := ⟨_, rfl⟩
      obtain ⟨q1, q2, q3⟩ := pk_cf hO hD hlt
      have q3 := q3 hs
      rw [← hcc] at q1
      rw [← hff2] at q2
      have hccn : cc < nc := by rw [hcc]; exact (h11 tr hlt).2
      have hff6 : ff < 6 := by rw [hff2]; exact (h12 tr hlt).2
      refine lv_iload hx hb dL_law_1450 (lv_at hl_1 0 rfl) ?_
      refine lv_aload hx hb dL_law_1452 (lv_at hl_1 13 rfl) ?_
      refine lv_iconst (v := 2) hx hb dL_law_1454 (by decide) ?_
      refine ls_ild C hH 10 rfl (by decide) (j := 2) rfl (show 2 < 3 by omega) dL_law_1455 ?_
      refine W.eq (g2 := F0 m 1456 ls [.int (nI nt), .int (nI tr)]) (by rw [e2]) ?_
      refine lv_icmp_ge (tgt := 1486) hx hb dL_law_1456 (by decide) (fun c_19 => absurd c_19 (nI_ge hlt (by omega))) (fun c_19 => ?_)
      refine lv_aload hx hb dL_law_1459 (lv_at hl_1 7 rfl) ?_
      refine lv_iload hx hb dL_law_1461 (lv_at hl_1 0 rfl) ?_
      refine lv_aload hx hb dL_law_1463 (lv_at hl_1 13 rfl) ?_
      refine lv_iconst (v := 2) hx hb dL_law_1465 (by decide) ?_
      refine ls_ild C hH 10 rfl (by decide) (j := 2) rfl (show 2 < 3 by omega) dL_law_1466 ?_
      refine W.eq (g2 := F0 m 1467 ls [.int (nI nt), .int (nI tr), .ref (ad (4, 0, 0))]) (by rw [e2]) ?_
      refine lv_icmp_ge (tgt := 1475) hx hb dL_law_1467 (by decide) (fun c_20 => absurd c_20 (nI_ge hlt (by omega))) (fun c_20 => ?_)
      refine lv_iload hx hb dL_law_1470 (lv_at hl_1 0 rfl) ?_
      refine lv_goto (tgt := 1476) hx hb dL_law_1472 (by decide) ?_
      refine ls_ild C hH 4 rfl (by decide) (j := tr) rfl (show tr < 30 by omega) dL_law_1476 ?_
      refine W.eq (g2 := F0 m 1477 ls [.int (nI (pkT I tr))]) (by rw [(hR tr hlt).1]) ?_
      refine lv_ldc (v := 524288) hx hb hown (hts (.constant RL 93 524288) (by decide +kernel)) dL_law_1477 ?_
      refine lv_icmp_ge (tgt := 1486) hx hb dL_law_1479 (by decide) (fun c_21 => absurd c_21 (fun z => hs ((pk_11 hO hD hlt).2.2.2.mpr ((nI_leI (by decide) (by omega)).mp (show nI 524288 ≤ nI (pkT I tr) from z))))) (fun c_21 => ?_)
      refine lv_iconst (v := 1) hx hb dL_law_1482 (by decide) ?_
      refine lv_goto (tgt := 1487) hx hb dL_law_1483 (by decide) ?_
      refine lv_istore (lv' := [(24, .int 1), (23, .int (nI tr)), (0, .ref sb), (1, .ref (ac (0, 0, 0))), (2, .ref (ad (0, 0, 0))), (3, .ref (ad (1, 0, 0))), (4, .ref (ad (2, 0, 0))), (5, .ref (ad (3, 0, 0))), (6, .ref (ad (4, 0, 0))), (7, .ref (ad (5, 0, 0))), (8, .ref (ad (6, 0, 0))), (9, .ref (ad (7, 0, 0))), (10, .ref (ad (8, 0, 0))), (11, .ref (ad (9, 0, 0))), (12, .ref (ad (10, 0, 0))), (13, .int 1), (14, .int (nI k)), (16, .int (nI one)), (17, .int (nI two)), (18, .int (nI cl)), (19, .int (nI fd)), (20, .int (icV cl nc)), (21, .int (arV cl nc fd)), (22, .int (nI f))]) hx hb dL_law_1487 hl_1 (by decide) rfl (fun ls hl_22 => ?_)
      refine lv_iload hx hb dL_law_1489 (lv_at hl_22 0 rfl) ?_
      refine lv_if_eq (tgt := 1504) hx hb dL_law_1491 (by decide) (fun c_23 => absurd c_23 (by decide)) (fun c_23 => ?_)
      refine lv_aload hx hb dL_law_1494 (lv_at hl_22 8 rfl) ?_
      refine lv_iload hx hb dL_law_1496 (lv_at hl_22 1 rfl) ?_
      refine ls_ild C hH 4 rfl (by decide) (j := tr) rfl (show tr < 30 by omega) dL_law_1498 ?_
      refine W.eq (g2 := F0 m 1499 ls [.int (nI (pkT I tr))]) (by rw [(hR tr hlt).1]) ?_
      refine lv_iconst (v := 4) hx hb dL_law_1499 (by decide) ?_
      refine lv_irem hx hb dL_law_1500 (by decide) ?_
      refine W.eq (g2 := F0 m 1501 ls [.int (nI ((pkT I tr) % 4))]) (by rw [show ((nI (pkT I tr)) - (nI (pkT I tr)) / 4 * 4 : Int32) = nI ((pkT I tr) % 4) from (zi_rem rfl (b := 4) rfl (by omega) (by decide) (by decide))]) ?_
      refine W.eq (g2 := F0 m 1501 ls [.int (nI cc)]) (by rw [q1]) ?_
      refine lv_goto (tgt := 1505) hx hb dL_law_1501 (by decide) ?_
      refine lv_istore (lv' := [(25, .int (nI cc)), (24, .int 1), (23, .int (nI tr)), (0, .ref sb), (1, .ref (ac (0, 0, 0))), (2, .ref (ad (0, 0, 0))), (3, .ref (ad (1, 0, 0))), (4, .ref (ad (2, 0, 0))), (5, .ref (ad (3, 0, 0))), (6, .ref (ad (4, 0, 0))), (7, .ref (ad (5, 0, 0))), (8, .ref (ad (6, 0, 0))), (9, .ref (ad (7, 0, 0))), (10, .ref (ad (8, 0, 0))), (11, .ref (ad (9, 0, 0))), (12, .ref (ad (10, 0, 0))), (13, .int 1), (14, .int (nI k)), (16, .int (nI one)), (17, .int (nI two)), (18, .int (nI cl)), (19, .int (nI fd)), (20, .int (icV cl nc)), (21, .int (arV cl nc fd)), (22, .int (nI f))]) hx hb dL_law_1505 hl_22 (by decide) rfl (fun ls hl_24 => ?_)
      refine lv_lconst (v := 0) hx hb dL_law_1507 (by decide) ?_
      refine lv_lstore (lv' := [(26, .long 0), (25, .int (nI cc)), (24, .int 1), (23, .int (nI tr)), (0, .ref sb), (1, .ref (ac (0, 0, 0))), (2, .ref (ad (0, 0, 0))), (3, .ref (ad (1, 0, 0))), (4, .ref (ad (2, 0, 0))), (5, .ref (ad (3, 0, 0))), (6, .ref (ad (4, 0, 0))), (7, .ref (ad (5, 0, 0))), (8, .ref (ad (6, 0, 0))), (9, .ref (ad (7, 0, 0))), (10, .ref (ad (8, 0, 0))), (11, .ref (ad (9, 0, 0))), (12, .ref (ad (10, 0, 0))), (13, .int 1), (14, .int (nI k)), (16, .int (nI one)), (17, .int (nI two)), (18, .int (nI cl)), (19, .int (nI fd)), (20, .int (icV cl nc)), (21, .int (arV cl nc fd)), (22, .int (nI f))]) hx hb dL_law_1508 hl_24 (by decide) rfl (fun ls hl_25 => ?_)
      refine lv_iload hx hb dL_law_1510 (lv_at hl_25 2 rfl) ?_
      refine lv_istore (lv' := [(28, .int 1), (26, .long 0), (25, .int (nI cc)), (24, .int 1), (23, .int (nI tr)), (0, .ref sb), (1, .ref (ac (0, 0, 0))), (2, .ref (ad (0, 0, 0))), (3, .ref (ad (1, 0, 0))), (4, .ref (ad (2, 0, 0))), (5, .ref (ad (3, 0, 0))), (6, .ref (ad (4, 0, 0))), (7, .ref (ad (5, 0, 0))), (8, .ref (ad (6, 0, 0))), (9, .ref (ad (7, 0, 0))), (10, .ref (ad (8, 0, 0))), (11, .ref (ad (9, 0, 0))), (12, .ref (ad (10, 0, 0))), (13, .int 1), (14, .int (nI k)), (16, .int (nI one)), (17, .int (nI two)), (18, .int (nI cl)), (19, .int (nI fd)), (20, .int (icV cl nc)), (21, .int (arV cl nc fd)), (22, .int (nI f))]) hx hb dL_law_1512 hl_25 (by decide) rfl (fun ls hl_26 => ?_)
      refine lv_iload hx hb dL_law_1514 (lv_at hl_26 3 rfl) ?_
      refine lv_if_eq (tgt := 1771) hx hb dL_law_1516 (by decide) (fun c_27 => absurd c_27 (by decide)) (fun c_27 => ?_)
      refine lv_aload hx hb dL_law_1519 (lv_at hl_26 11 rfl) ?_
      refine lv_iload hx hb dL_law_1521 (lv_at hl_26 4 rfl) ?_
      refine ls_ild C hH 4 rfl (by decide) (j := tr) rfl (show tr < 30 by omega) dL_law_1523 ?_
      refine W.eq (g2 := F0 m 1524 ls [.int (nI (pkT I tr))]) (by rw [(hR tr hlt).1]) ?_
      refine lv_iconst (v := 4) hx hb dL_law_1524 (by decide) ?_
      refine lv_idiv hx hb dL_law_1525 (by decide) ?_
      refine W.eq (g2 := F0 m 1526 ls [.int (nI ((pkT I tr) / 4))]) (by rw [show ((nI (pkT I tr)) / 4 : Int32) = nI ((pkT I tr) / 4) from (zi_div rfl (b := 4) rfl (by omega) (by decide) (by decide))]) ?_
      refine lv_bipush (v := 8) hx hb dL_law_1526 (by decide) ?_
      refine lv_irem hx hb dL_law_1528 (by decide) ?_
      refine W.eq (g2 := F0 m 1529 ls [.int (nI (((pkT I tr) / 4) % 8))]) (by rw [show ((nI ((pkT I tr) / 4)) - (nI ((pkT I tr) / 4)) / 8 * 8 : Int32) = nI (((pkT I tr) / 4) % 8) from (zi_rem rfl (b := 8) rfl (by omega) (by decide) (by decide))]) ?_
      refine W.eq (g2 := F0 m 1529 ls [.int (nI ff)]) (by rw [q2]) ?_
      refine lv_istore (lv' := [(29, .int (nI ff)), (28, .int 1), (26, .long 0), (25, .int (nI cc)), (24, .int 1), (23, .int (nI tr)), (0, .ref sb), (1, .ref (ac (0, 0, 0))), (2, .ref (ad (0, 0, 0))), (3, .ref (ad (1, 0, 0))), (4, .ref (ad (2, 0, 0))), (5, .ref (ad (3, 0, 0))), (6, .ref (ad (4, 0, 0))), (7, .ref (ad (5, 0, 0))), (8, .ref (ad (6, 0, 0))), (9, .ref (ad (7, 0, 0))), (10, .ref (ad (8, 0, 0))), (11, .ref (ad (9, 0, 0))), (12, .ref (ad (10, 0, 0))), (13, .int 1), (14, .int (nI k)), (16, .int (nI one)), (17, .int (nI two)), (18, .int (nI cl)), (19, .int (nI fd)), (20, .int (icV cl nc)), (21, .int (arV cl nc fd)), (22, .int (nI f))]) hx hb dL_law_1529 hl_26 (by decide) rfl (fun ls hl_28 => ?_)
      refine lv_aload hx hb dL_law_1531 (lv_at hl_28 12 rfl) ?_
      refine lv_iload hx hb dL_law_1533 (lv_at hl_28 5 rfl) ?_
      refine lv_dup2_11 hx hb dL_law_1535 rfl rfl ?_
      refine ls_ild C hH 4 rfl (by decide) (j := tr) rfl (show tr < 30 by omega) dL_law_1536 ?_
      refine W.eq (g2 := F0 m 1537 ls [.int (nI (pkT I tr)), .int (nI tr), .ref (ad (4, 0, 0))]) (by rw [(hR tr hlt).1]) ?_
      refine lv_ldc (v := 524288) hx hb hown (hts (.constant RL 93 524288) (by decide +kernel)) dL_law_1537 ?_
      refine lv_iadd hx hb dL_law_1539 ?_
      refine W.eq (g2 := F0 m 1540 ls [.int (nI ((pkT I tr) + 524288)), .int (nI tr), .ref (ad (4, 0, 0))]) (by rw [show ((nI (pkT I tr)) + 524288 : Int32) = nI ((pkT I tr) + 524288) from (zi_add rfl rfl)]) ?_
      refine ls_ist C hH hS 4 rfl (by decide) (j := tr) rfl (show tr < 30 by omega) dL_law_1540 (fun H locs hH_29 hS_30 => ?_)
      obtain ⟨I1, hI1⟩ : ∃ X, X = up2 Ia 4 tr (nI ((pkT I tr) + 524288)) := ⟨_, rfl⟩
      have hH_31 := hH_29
      rw [← hI1] at hH_31
      have i4 : I1 4 tr = nI (pkT I tr + 524288) := by rw [hI1, up2_s]
      have i4n : ∀ k, k ≠ tr → I1 4 k = Ia 4 k := fun k hk => by rw [hI1, up2_i hk]
      have ia : ∀ a, a ≠ 4 → I1 a = Ia a := fun a ha => by rw [hI1, up2_a ha]
      have e20 : I1 10 0 = nI dy := by rw [ia 10 (by decide)]; exact e0
      have e22 : I1 10 2 = nI nt := by rw [ia 10 (by decide)]; exact e2
      have hT1 : ∀ k, k < nt → zD (I1 4 k) 1048576 := by
        intro k hk
        by_cases hkt : k = tr
        · rw [hkt, i4]
          exact zD_nI' (by omega) (by decide)
        · rw [i4n k hkt]
          exact hJ.tr k hk
      have hJc := J_can hJ hlt hs i4 i4n
      rw [← hcc, ← hff2] at hJc
      refine lv_aload hx hb dL_law_1541 (lv_at hl_28 12 rfl) ?_
      refine lv_aload hx hb dL_law_1543 (lv_at hl_28 13 rfl) ?_
      refine lv_aload hx hb dL_law_1545 (lv_at hl_28 14 rfl) ?_
      refine lv_aload hx hb dL_law_1547 (lv_at hl_28 18 rfl) ?_
      refine lv_aload hx hb dL_law_1549 (lv_at hl_28 16 rfl) ?_
      refine lv_aload hx hb dL_law_1551 (lv_at hl_28 17 rfl) ?_
      refine lv_iload hx hb dL_law_1553 (lv_at hl_28 3 rfl) ?_
      refine lv_iload hx hb dL_law_1555 (lv_at hl_28 0 rfl) ?_
      refine zk_ci (zk_rS (As := [.ref (ad (4, 0, 0)), .ref (ad (5, 0, 0)), .ref (ad (6, 0, 0)), .ref (ad (10, 0, 0)), .ref (ad (8, 0, 0)), .ref (ad (9, 0, 0)), .int (nI cc), .int (nI ff)]) (rest := []) (n := 8) (w := zk_sum 50 (cw cA (g 0) ac 6 nc nc 6 nt dy mo I L) (aw cA ad I1 La)) C (zM_Ri (n := 50) (w1 := cw cA (g 0) ac 6 nc nc 6 nt dy mo I L) (fun A_ => (cH_goes l D cA A_ g ad I1 La nt cc ff e22 hn30 (by omega) (by omega) hT1)) cw_lt A) hH_31 hS_30 gL_law_L_goes rfl rfl (by decide +kernel) ⟨Nat.le_of_ble_eq_true rfl, Nat.le_of_ble_eq_true rfl⟩ hl_28 rfl (Nat.le_of_ble_eq_true rfl) dL_law_1557 ⟨by show cells + 0 ≤ 600104; omega, by show slots + 0 ≤ 7301314; omega⟩) hS_30 (fun r_32 w_33 H locs hP hH_34 hS_35 => ?_)
      obtain ⟨w2_, hP, rfl⟩ := hP
      obtain ⟨rfl, rfl⟩ := hP
      rcases hJc with ⟨hg, hcan⟩ | ⟨hg, hcan⟩
      · refine W.eq (g2 := F0 m 1560 ls [.int 1]) (by rw [hg]) ?_
        refine lv_istore (lv' := [(28, .int 1), (29, .int (nI ff)), (26, .long 0), (25, .int (nI cc)), (24, .int 1), (23, .int (nI tr)), (0, .ref sb), (1, .ref (ac (0, 0, 0))), (2, .ref (ad (0, 0, 0))), (3, .ref (ad (1, 0, 0))), (4, .ref (ad (2, 0, 0))), (5, .ref (ad (3, 0, 0))), (6, .ref (ad (4, 0, 0))), (7, .ref (ad (5, 0, 0))), (8, .ref (ad (6, 0, 0))), (9, .ref (ad (7, 0, 0))), (10, .ref (ad (8, 0, 0))), (11, .ref (ad (9, 0, 0))), (12, .ref (ad (10, 0, 0))), (13, .int 1), (14, .int (nI k)), (16, .int (nI one)), (17, .int (nI two)), (18, .int (nI cl)), (19, .int (nI fd)), (20, .int (icV cl nc)), (21, .int (arV cl nc fd)), (22, .int (nI f))]) hx hb dL_law_1560 hl_28 (by decide) rfl (fun ls hl_36 => ?_)
        refine lv_aload hx hb dL_law_1562 (lv_at hl_36 12 rfl) ?_
        refine lv_iload hx hb dL_law_1564 (lv_at hl_36 5 rfl) ?_
        refine lv_dup2_11 hx hb dL_law_1566 rfl rfl ?_
        refine ls_ild C hH_34 4 rfl (by decide) (j := tr) rfl (show tr < 30 by omega) dL_law_1567 ?_
        refine W.eq (g2 := F0 m 1568 ls [.int (nI (pkT I tr + 524288)), .int (nI tr), .ref (ad (4, 0, 0))]) (by rw [i4]) ?_
        refine lv_iload hx hb dL_law_1568 (lv_at hl_36 0 rfl) ?_
        refine lv_if_eq (tgt := 1577) hx hb dL_law_1570 (by decide) (fun c_37 => absurd c_37 (by decide)) (fun c_37 => ?_)
        refine lv_iconst (v := 0) hx hb dL_law_1573 (by decide) ?_
        refine lv_goto (tgt := 1579) hx hb dL_law_1574 (by decide) ?_
        refine lv_isub hx hb dL_law_1579 ?_
        refine W.eq (g2 := F0 m 1580 ls [.int (nI (pkT I tr + 524288)), .int (nI tr), .ref (ad (4, 0, 0))]) (by rw [Int32.sub_zero]) ?_
        refine ls_ist C hH_34 hS_35 4 rfl (by decide) (j := tr) rfl (show tr < 30 by omega) dL_law_1580 (fun H locs hH_38 hS_39 => ?_)
        have hw_40 : up2 I1 4 tr (nI (pkT I tr + 524288)) = I1 := by rw [hI1]; exact up2_up2
        have hH_41 := hH_38
        rw [hw_40] at hH_41
        obtain ⟨G, hG⟩ : ∃ X, X = (goS I1 La cc ff nt).2 := ⟨_, rfl⟩
        have hH_42 := hH_41
        rw [← hG] at hH_42
        have hGa : ∀ a, a ≠ 8 → a ≠ 9 → G a = La a := fun a a8 a9 => by rw [hG]; exact goS_a a8 a9 nt
        have hJG : zJ nc nt dy b mo I L Ia G := hJ.scr hGa
        have hRG := hJG.2.2.2.2.2.2.2.1
        refine lv_iload hx hb dL_law_1581 (lv_at hl_36 0 rfl) ?_
        refine lv_if_eq (tgt := 1771) hx hb dL_law_1583 (by decide) (fun c_43 => absurd c_43 (by decide)) (fun c_43 => ?_)
        refine z_join (nL := 33) (D := D) (A := A) (w := zk_sum 50 (cw cA (g 0) ac 6 nc nc 6 nt dy mo I L) (aw cA ad I1 G)) (pcj := 1628) (lc := [(28, .int 1), (29, .int (nI ff)), (26, .long 0), (25, .int (nI cc)), (24, .int 1), (23, .int (nI tr)), (0, .ref sb), (1, .ref (ac (0, 0, 0))), (2, .ref (ad (0, 0, 0))), (3, .ref (ad (1, 0, 0))), (4, .ref (ad (2, 0, 0))), (5, .ref (ad (3, 0, 0))), (6, .ref (ad (4, 0, 0))), (7, .ref (ad (5, 0, 0))), (8, .ref (ad (6, 0, 0))), (9, .ref (ad (7, 0, 0))), (10, .ref (ad (8, 0, 0))), (11, .ref (ad (9, 0, 0))), (12, .ref (ad (10, 0, 0))), (13, .int 1), (14, .int (nI k)), (16, .int (nI one)), (17, .int (nI two)), (18, .int (nI cl)), (19, .int (nI fd)), (20, .int (icV cl nc)), (21, .int (arV cl nc fd)), (22, .int (nI f))]) (st1 := [.long (unpaidL L tr)]) (fun J_44 => ?_) ?_
        · refine lv_aload hx hb dL_law_1586 (lv_at hl_36 13 rfl) ?_
          refine lv_iload hx hb dL_law_1588 (lv_at hl_36 5 rfl) ?_
          refine ls_lld C hH_42 5 rfl (by decide) (j := tr) rfl (show tr < 30 by omega) dL_law_1590 ?_
          refine W.eq (g2 := F0 m 1591 ls [.long (L 13 tr)]) (by rw [(hRG tr hlt).2.1]) ?_
          refine lv_lconst (v := 0) hx hb dL_law_1591 (by decide) ?_
          refine zl_cmp_le (tgt := 1614) hx hb dL_law_1592 dL_law_1593 (by decide) (fun c_48 => ?_) (fun c_48 => ?_)
          · refine lv_aload hx hb dL_law_1614 (lv_at hl_36 14 rfl) ?_
            refine lv_iload hx hb dL_law_1616 (lv_at hl_36 5 rfl) ?_
            refine ls_lld C hH_42 6 rfl (by decide) (j := tr) rfl (show tr < 30 by omega) dL_law_1618 ?_
            refine W.eq (g2 := F0 m 1619 ls [.long (L 14 tr)]) (by rw [(hRG tr hlt).2.2.1]) ?_
            refine lv_aload hx hb dL_law_1619 (lv_at hl_36 14 rfl) ?_
            refine lv_iload hx hb dL_law_1621 (lv_at hl_36 5 rfl) ?_
            refine ls_lld C hH_42 6 rfl (by decide) (j := tr) rfl (show tr < 30 by omega) dL_law_1623 ?_
            refine W.eq (g2 := F0 m 1624 ls [.long (L 14 tr), .long (L 14 tr)]) (by rw [(hRG tr hlt).2.2.1]) ?_
            refine zk_cl (zk_rS (As := [.long (L 14 tr)]) (rest := [.long (L 14 tr)]) (n := 1) (w := zk_sum 50 (cw cA (g 0) ac 6 nc nc 6 nt dy mo I L) (aw cA ad I1 G)) C (cH_costs l D cA A g _ (L 14 tr)) hH_42 hS_39 gL_law_L_costs rfl rfl (by decide +kernel) ⟨Nat.le_of_ble_eq_true rfl, Nat.le_of_ble_eq_true rfl⟩ hl_36 rfl (Nat.le_of_ble_eq_true rfl) dL_law_1624 ⟨by show cells + 0 + 0 ≤ 600104; omega, by show slots + 0 + 0 ≤ 7301314; omega⟩) hS_39 (fun r_49 w_50 H locs hP hH_51 hS_52 => ?_)
            obtain ⟨rfl, rfl⟩ := hP
            refine W.eq (g2 := F0 m 1627 ls [.long (L 15 tr), .long (L 14 tr)]) (by rw [(hRG tr hlt).2.2.2]) ?_
            refine lv_lsub hx hb dL_law_1627 ?_
            refine W.eq (g2 := F0 m 1628 ls [.long (unpaidL L tr)]) (by rw [show (unpaidL L tr : Int64) = (L 14 tr) - (L 15 tr) from (by unfold unpaidL; split <;> first | contradiction | rfl)]) ?_
            exact J_44 _ _ _ hH_51 hS_52 (lv_sub hl_36 [0, 1, 2, 3, 4, 5, 6, 7, 8, 9, 10, 11, 12, 13, 14, 15, 16, 17, 18, 19, 20, 21, 22, 23, 24, 25, 26, 27] rfl)
          · refine lv_aload hx hb dL_law_1596 (lv_at hl_36 14 rfl) ?_
            refine lv_iload hx hb dL_law_1598 (lv_at hl_36 5 rfl) ?_
            refine ls_lld C hH_42 6 rfl (by decide) (j := tr) rfl (show tr < 30 by omega) dL_law_1600 ?_
            refine W.eq (g2 := F0 m 1601 ls [.long (L 14 tr)]) (by rw [(hRG tr hlt).2.2.1]) ?_
            refine lv_lneg hx hb dL_law_1601 ?_
            refine lv_aload hx hb dL_law_1602 (lv_at hl_36 14 rfl) ?_
            refine lv_iload hx hb dL_law_1604 (lv_at hl_36 5 rfl) ?_
            refine ls_lld C hH_42 6 rfl (by decide) (j := tr) rfl (show tr < 30 by omega) dL_law_1606 ?_
            refine W.eq (g2 := F0 m 1607 ls [.long (L 14 tr), .long (-(L 14 tr))]) (by rw [(hRG tr hlt).2.2.1]) ?_
            refine zk_cl (zk_rS (As := [.long (L 14 tr)]) (rest := [.long (-(L 14 tr))]) (n := 1) (w := zk_sum 50 (cw cA (g 0) ac 6 nc nc 6 nt dy mo I L) (aw cA ad I1 G)) C (cH_costs l D cA A g _ (L 14 tr)) hH_42 hS_39 gL_law_L_costs rfl rfl (by decide +kernel) ⟨Nat.le_of_ble_eq_true rfl, Nat.le_of_ble_eq_true rfl⟩ hl_36 rfl (Nat.le_of_ble_eq_true rfl) dL_law_1607 ⟨by show cells + 0 + 0 ≤ 600104; omega, by show slots + 0 + 0 ≤ 7301314; omega⟩) hS_39 (fun r_53 w_54 H locs hP hH_55 hS_56 => ?_)
            obtain ⟨rfl, rfl⟩ := hP
            refine W.eq (g2 := F0 m 1610 ls [.long (L 15 tr), .long (-(L 14 tr))]) (by rw [(hRG tr hlt).2.2.2]) ?_
            refine lv_lsub hx hb dL_law_1610 ?_
            refine lv_goto (tgt := 1628) hx hb dL_law_1611 (by decide) ?_
            refine W.eq (g2 := F0 m 1628 ls [.long (unpaidL L tr)]) (by rw [show (unpaidL L tr : Int64) = (-(L 14 tr)) - (L 15 tr) from (by unfold unpaidL; split <;> first | contradiction | rfl)]) ?_
            exact J_44 _ _ _ hH_55 hS_56 (lv_sub hl_36 [0, 1, 2, 3, 4, 5, 6, 7, 8, 9, 10, 11, 12, 13, 14, 15, 16, 17, 18, 19, 20, 21, 22, 23, 24, 25, 26, 27] rfl)
        · intro H locs ls hH_45 hS_46 hl_47
          refine lv_lstore (lv' := [(30, .long (unpaidL L tr)), (28, .int 1), (29, .int (nI ff)), (26, .long 0), (25, .int (nI cc)), (24, .int 1), (23, .int (nI tr)), (0, .ref sb), (1, .ref (ac (0, 0, 0))), (2, .ref (ad (0, 0, 0))), (3, .ref (ad (1, 0, 0))), (4, .ref (ad (2, 0, 0))), (5, .ref (ad (3, 0, 0))), (6, .ref (ad (4, 0, 0))), (7, .ref (ad (5, 0, 0))), (8, .ref (ad (6, 0, 0))), (9, .ref (ad (7, 0, 0))), (10, .ref (ad (8, 0, 0))), (11, .ref (ad (9, 0, 0))), (12, .ref (ad (10, 0, 0))), (13, .int 1), (14, .int (nI k)), (16, .int (nI one)), (17, .int (nI two)), (18, .int (nI cl)), (19, .int (nI fd)), (20, .int (icV cl nc)), (21, .int (arV cl nc fd)), (22, .int (nI f))]) hx hb dL_law_1628 hl_47 (by decide) rfl (fun ls hl_57 => ?_)
          refine lv_aload_n hx hb dL_law_1630 rfl (lv_at hl_57 10 rfl) ?_
          refine lv_bipush (v := 12) hx hb dL_law_1631 (by decide) ?_
          refine lv_iload hx hb dL_law_1633 (lv_at hl_57 4 rfl) ?_
          refine lv_iadd hx hb dL_law_1635 ?_
          refine W.eq (g2 := F0 m 1636 ls [.int (nI (12 + cc)), .ref (ad (1, 0, 0))]) (by rw [show (12 + (nI cc) : Int32) = nI (12 + cc) from (zi_add rfl rfl)]) ?_
          refine lv_dup2_11 hx hb dL_law_1636 rfl rfl ?_
          refine ls_lld C hH_45 1 rfl (by decide) (j := (12 + cc)) rfl (show (12 + cc) < 16 by omega) dL_law_1637 ?_
          refine lv_lload hx hb dL_law_1638 (lv_at hl_57 0 rfl) ?_
          refine lv_lsub hx hb dL_law_1640 ?_
          refine ls_lst C hH_45 hS_46 1 rfl (by decide) (j := (12 + cc)) rfl (show (12 + cc) < 16 by omega) dL_law_1641 (fun H locs hH_58 hS_59 => ?_)
          refine lv_aload_n hx hb dL_law_1642 rfl (lv_at hl_57 10 rfl) ?_
          refine lv_bipush (v := 15) hx hb dL_law_1643 (by decide) ?_
          refine lv_dup2_11 hx hb dL_law_1645 rfl rfl ?_
          refine ls_lld C hH_58 1 rfl (by decide) (j := 15) rfl (show 15 < 16 by omega) dL_law_1646 ?_
          refine lv_lload hx hb dL_law_1647 (lv_at hl_57 0 rfl) ?_
          refine lv_ladd hx hb dL_law_1649 ?_
          refine ls_lst C hH_58 hS_59 1 rfl (by decide) (j := 15) rfl (show 15 < 16 by omega) dL_law_1650 (fun H locs hH_60 hS_61 => ?_)
          have hH_62 : zk_H D A (zk_sum 50 (cw cA (g 0) ac 6 nc nc 6 nt dy mo I L) (aw cA ad I1 (tr3 (tr2 G cc (unpaidL L tr)) (unpaidL L tr)))) H := hH_60
          refine lv_aload_n hx hb dL_law_1651 rfl (lv_at hl_57 9 rfl) ?_
          refine lv_aload_n hx hb dL_law_1652 rfl (lv_at hl_57 10 rfl) ?_
          refine lv_aload hx hb dL_law_1653 (lv_at hl_57 11 rfl) ?_
          refine lv_iload hx hb dL_law_1655 (lv_at hl_57 4 rfl) ?_
          refine lv_iload hx hb dL_law_1657 (lv_at hl_57 2 rfl) ?_
          refine lv_aload hx hb dL_law_1659 (lv_at hl_57 14 rfl) ?_
          refine lv_iload hx hb dL_law_1661 (lv_at hl_57 6 rfl) ?_
          refine ls_lld C hH_62 5 rfl (by decide) (j := tr) rfl (show tr < 30 by omega) dL_law_1663 ?_
          refine W.eq (g2 := F0 m 1664 ls [.long (G 5 tr), .int (nI ff), .int (nI cc), .ref (ad (2, 0, 0)), .ref (ad (1, 0, 0)), .ref (ad (0, 0, 0))]) (by rw [tr_a (show (5 : Nat) ≠ 1 by decide)]) ?_
          refine lv_lneg hx hb dL_law_1664 ?_
          refine zk_cv (zk_rS (As := [.ref (ad (0, 0, 0)), .ref (ad (1, 0, 0)), .ref (ad (2, 0, 0)), .int (nI cc), .int (nI ff), .long (-(G 5 tr))]) (rest := []) (n := 6) (w := zk_sum 50 (cw cA (g 0) ac 6 nc nc 6 nt dy mo I L) (aw cA ad I1 (tr3 (tr2 G cc (unpaidL L tr)) (unpaidL L tr)))) C (zM_Rv (n := 50) (w1 := cw cA (g 0) ac 6 nc nc 6 nt dy mo I L) (fun A_ => (cH_moves l D cA A_ g ad I1 (tr3 (tr2 G cc (unpaidL L tr)) (unpaidL L tr)) cc ff (-(G 5 tr)) (by omega) (by omega))) cw_lt A) hH_62 hS_61 gL_law_L_moves rfl rfl (by decide +kernel) ⟨Nat.le_of_ble_eq_true rfl, Nat.le_of_ble_eq_true rfl⟩ hl_57 rfl (Nat.le_of_ble_eq_true rfl) dL_law_1665 ⟨by show cells + 0 + 0 ≤ 600104; omega, by show slots + 0 + 0 ≤ 7301314; omega⟩) hS_61 (fun w_64 H locs hP hH_65 hS_66 => ?_)
          obtain ⟨w2_, hP, rfl⟩ := hP
          subst hP
          refine lv_aload hx hb dL_law_1668 (lv_at hl_57 13 rfl) ?_
          refine lv_aload hx hb dL_law_1670 (lv_at hl_57 14 rfl) ?_
          refine lv_aload hx hb dL_law_1672 (lv_at hl_57 15 rfl) ?_
          refine lv_aload hx hb dL_law_1674 (lv_at hl_57 19 rfl) ?_
          refine lv_aload hx hb dL_law_1676 (lv_at hl_57 17 rfl) ?_
          refine lv_aload hx hb dL_law_1678 (lv_at hl_57 18 rfl) ?_
          refine lv_iload hx hb dL_law_1680 (lv_at hl_57 4 rfl) ?_
          refine zk_cv (zk_rS (As := [.ref (ad (4, 0, 0)), .ref (ad (5, 0, 0)), .ref (ad (6, 0, 0)), .ref (ad (10, 0, 0)), .ref (ad (8, 0, 0)), .ref (ad (9, 0, 0)), .int (nI cc)]) (rest := []) (n := 7) (w := zk_sum 50 (cw cA (g 0) ac 6 nc nc 6 nt dy mo I L) (aw cA ad I1 (mvL I1 (tr3 (tr2 G cc (unpaidL L tr)) (unpaidL L tr)) cc ff (-(G 5 tr))))) C (zM_Rv (n := 50) (w1 := cw cA (g 0) ac 6 nc nc 6 nt dy mo I L) (fun A_ => (cH_taxes l D cA A_ g ad I1 (mvL I1 (tr3 (tr2 G cc (unpaidL L tr)) (unpaidL L tr)) cc ff (-(G 5 tr))) nt cc e22 hn30 (by omega) hT1)) cw_lt A) hH_65 hS_66 gL_law_L_taxes rfl rfl (by decide +kernel) ⟨Nat.le_of_ble_eq_true rfl, Nat.le_of_ble_eq_true rfl⟩ hl_57 rfl (Nat.le_of_ble_eq_true rfl) dL_law_1682 ⟨by show cells + 0 + 0 + 0 ≤ 600104; omega, by show slots + 0 + 0 + 0 ≤ 7301314; omega⟩) hS_66 (fun w_68 H locs hP hH_69 hS_70 => ?_)
          obtain ⟨w2_, hP, rfl⟩ := hP
          subst hP
          obtain ⟨A1, hA1⟩ : ∃ X, X = taxL I1 (mvL I1 (tr3 (tr2 G cc (unpaidL L tr)) (unpaidL L tr)) cc ff (-(G 5 tr))) cc nt := ⟨_, rfl⟩
          have hH_71 := hH_69
          rw [← hA1] at hH_71
          refine lv_iconst (v := 0) hx hb dL_law_1685 (by decide) ?_
          refine lv_istore (lv' := [(32, .int 0), (30, .long (unpaidL L tr)), (28, .int 1), (29, .int (nI ff)), (26, .long 0), (25, .int (nI cc)), (24, .int 1), (23, .int (nI tr)), (0, .ref sb), (1, .ref (ac (0, 0, 0))), (2, .ref (ad (0, 0, 0))), (3, .ref (ad (1, 0, 0))), (4, .ref (ad (2, 0, 0))), (5, .ref (ad (3, 0, 0))), (6, .ref (ad (4, 0, 0))), (7, .ref (ad (5, 0, 0))), (8, .ref (ad (6, 0, 0))), (9, .ref (ad (7, 0, 0))), (10, .ref (ad (8, 0, 0))), (11, .ref (ad (9, 0, 0))), (12, .ref (ad (10, 0, 0))), (13, .int 1), (14, .int (nI k)), (16, .int (nI one)), (17, .int (nI two)), (18, .int (nI cl)), (19, .int (nI fd)), (20, .int (icV cl nc)), (21, .int (arV cl nc fd)), (22, .int (nI f))]) hx hb dL_law_1686 hl_57 (by decide) rfl (fun ls hl_72 => ?_)
          refine z_at (n := (dy / 360)) (P := fun i_73 => zL p l e room_1 s m _ below meth c 33 D A _ (zk_sum 50 (cw cA (g 0) ac 6 nc nc 6 nt dy mo I L) (aw cA ad I1 ((cyS A1 cc i_73).2))) cells slots 1688 [(0, .ref sb), (1, .ref (ac (0, 0, 0))), (2, .ref (ad (0, 0, 0))), (3, .ref (ad (1, 0, 0))), (4, .ref (ad (2, 0, 0))), (5, .ref (ad (3, 0, 0))), (6, .ref (ad (4, 0, 0))), (7, .ref (ad (5, 0, 0))), (8, .ref (ad (6, 0, 0))), (9, .ref (ad (7, 0, 0))), (10, .ref (ad (8, 0, 0))), (11, .ref (ad (9, 0, 0))), (12, .ref (ad (10, 0, 0))), (13, .int 1), (14, .int (nI k)), (16, .int (nI one)), (17, .int (nI two)), (18, .int (nI cl)), (19, .int (nI fd)), (20, .int (icV cl nc)), (21, .int (arV cl nc fd)), (22, .int (nI f)), (23, .int (nI tr)), (24, .int 1), (25, .int (nI cc)), (26, .long ((cyS A1 cc i_73).1)), (28, .int 1), (29, .int (nI ff)), (30, .long (unpaidL L tr)), (32, .int (nI i_73))] []) 0 (Nat.zero_le _) (fun h => h _ _ _ hH_71 hS_70 (lv_sub hl_72 [8, 9, 10, 11, 12, 13, 14, 15, 16, 17, 18, 19, 20, 21, 22, 23, 24, 25, 26, 27, 28, 29, 7, 6, 5, 4, 2, 3, 1, 0] rfl)) ?_ ?_
          · intro H locs ls hH_75 hS_76 hl_77
            refine lv_iload hx hb dL_law_1688 (lv_at hl_77 29 rfl) ?_
            refine lv_aload hx hb dL_law_1690 (lv_at hl_77 12 rfl) ?_
            refine lv_iconst (v := 0) hx hb dL_law_1692 (by decide) ?_
            refine ls_ild C hH_75 10 rfl (by decide) (j := 0) rfl (show 0 < 3 by omega) dL_law_1693 ?_
            refine W.eq (g2 := F0 m 1694 ls [.int (nI dy), .int (nI (dy / 360))]) (by rw [e20]) ?_
            refine lv_sipush (v := 360) hx hb dL_law_1694 (by decide) ?_
            refine lv_idiv hx hb dL_law_1697 (by decide) ?_
            refine W.eq (g2 := F0 m 1698 ls [.int (nI (dy / 360)), .int (nI (dy / 360))]) (by rw [show ((nI dy) / 360 : Int32) = nI (dy / 360) from (zi_div rfl (b := 360) rfl (by omega) (by decide) (by decide))]) ?_
            refine lv_icmp_ge (tgt := 1759) hx hb dL_law_1698 (by decide) (fun c_78 => ?_) (fun c_78 => absurd (Int32.le_refl _) c_78)
            refine lv_aload_n hx hb dL_law_1759 rfl (lv_at hl_77 3 rfl) ?_
            refine lv_bipush (v := 12) hx hb dL_law_1760 (by decide) ?_
            refine lv_iload hx hb dL_law_1762 (lv_at hl_77 24 rfl) ?_
            refine lv_iadd hx hb dL_law_1764 ?_
            refine W.eq (g2 := F0 m 1765 ls [.int (nI (12 + cc)), .ref (ad (1, 0, 0))]) (by rw [show (12 + (nI cc) : Int32) = nI (12 + cc) from (zi_add rfl rfl)]) ?_
            refine lv_dup2_11 hx hb dL_law_1765 rfl rfl ?_
            refine ls_lld C hH_75 1 rfl (by decide) (j := (12 + cc)) rfl (show (12 + cc) < 16 by omega) dL_law_1766 ?_
            refine lv_lload hx hb dL_law_1767 (lv_at hl_77 25 rfl) ?_
            refine lv_ladd hx hb dL_law_1769 ?_
            refine ls_lst C hH_75 hS_76 1 rfl (by decide) (j := (12 + cc)) rfl (show (12 + cc) < 16 by omega) dL_law_1770 (fun H locs hH_79 hS_80 => ?_)
            have hU := J_unw (Ia1 := I1) (pays := (unpaidL L tr)) hJG hlt (by omega) hcan i4 i4n ia rfl (c := cc) (f := ff) (n := dy / 360) hcc hff2 rfl hA1 rfl
            refine lv_aload_n hx hb dL_law_1771 rfl (lv_at hl_77 1 rfl) ?_
            refine lv_bipush (v := 7) hx hb dL_law_1772 (by decide) ?_
            refine lv_iload hx hb dL_law_1774 (lv_at hl_77 22 rfl) ?_
            refine lv_iconst (v := 0) hx hb dL_law_1776 (by decide) ?_
            refine lv_iconst (v := 0) hx hb dL_law_1777 (by decide) ?_
            refine zk_cl (zk_rSH (As := [.ref (ac (0, 0, 0)), .int 7, .int (nI tr), .int 0, .int 0]) (rest := []) (n := 5) (w := zk_sum 50 (cw cA (g 0) ac 6 nc nc 6 nt dy mo I L) (aw cA ad I1 (up2 ((cyS A1 cc (dy / 360)).2) 1 (12 + cc) ((((cyS A1 cc (dy / 360)).2) 1 (12 + cc)) + ((cyS A1 cc (dy / 360)).1))))) C (by have q := (qd_complain l D cA A g ac nc nt dy mo I L (aw cA ad I1 (up2 ((cyS A1 cc (dy / 360)).2) 1 (12 + cc) ((((cyS A1 cc (dy / 360)).2) 1 (12 + cc)) + ((cyS A1 cc (dy / 360)).1)))) hst tr hlt hcan hdy (by omega) (by omega) h11 h12 h16); rw [← hcc, ← hff2] at q; exact q) hH_79 hS_80 gL_law_L_does rfl rfl (by decide +kernel) ⟨Nat.le_of_ble_eq_true rfl, Nat.le_of_ble_eq_true rfl⟩ hl_77 rfl (Nat.le_of_ble_eq_true rfl) dL_law_1778 ⟨by show cells + 0 + 0 + 0 + 2 ≤ 600104; omega, by show slots + 0 + 0 + 0 + 12 ≤ 7301314; omega⟩) hS_80 (fun r_81 w_82 H locs hP hH_83 hS_84 => ?_)
            obtain ⟨rfl, rfl⟩ := hP
            refine lv_iload hx hb dL_law_1781 (lv_at hl_77 22 rfl) ?_
            refine lv_aload hx hb dL_law_1783 (lv_at hl_77 12 rfl) ?_
            refine lv_iconst (v := 2) hx hb dL_law_1785 (by decide) ?_
            refine ls_ild C hH_83 10 rfl (by decide) (j := 2) rfl (show 2 < 3 by omega) dL_law_1786 ?_
            refine W.eq (g2 := F0 m 1787 ls [.int (nI nt), .int (nI tr), .long ((stS (cmL I L nt tr) cc (dy / 360)).1)]) (by rw [e22]) ?_
            refine lv_icmp_ne (tgt := 1796) hx hb dL_law_1787 (by decide) (fun c_85 => ?_) (fun c_85 => absurd ((nI_eq (by omega) (by omega)).mp c_85) (by omega))
            refine lv_iload hx hb dL_law_1796 (lv_at hl_77 26 rfl) ?_
            refine lv_if_eq (tgt := 1806) hx hb dL_law_1798 (by decide) (fun c_86 => absurd c_86 (by decide)) (fun c_86 => ?_)
            refine lv_lload hx hb dL_law_1801 (lv_at hl_77 25 rfl) ?_
            refine lv_goto (tgt := 1809) hx hb dL_law_1803 (by decide) ?_
            refine zl_cmp_ne (tgt := 1817) hx hb dL_law_1809 dL_law_1810 (by decide) (fun c_87 => absurd hU.2 c_87) (fun c_87 => ?_)
            refine lv_iconst (v := 1) hx hb dL_law_1813 (by decide) ?_
            refine lv_goto (tgt := 1818) hx hb dL_law_1814 (by decide) ?_
            refine lv_istore (lv' := [(13, .int 1), (0, .ref sb), (1, .ref (ac (0, 0, 0))), (2, .ref (ad (0, 0, 0))), (3, .ref (ad (1, 0, 0))), (4, .ref (ad (2, 0, 0))), (5, .ref (ad (3, 0, 0))), (6, .ref (ad (4, 0, 0))), (7, .ref (ad (5, 0, 0))), (8, .ref (ad (6, 0, 0))), (9, .ref (ad (7, 0, 0))), (10, .ref (ad (8, 0, 0))), (11, .ref (ad (9, 0, 0))), (12, .ref (ad (10, 0, 0))), (14, .int (nI k)), (16, .int (nI one)), (17, .int (nI two)), (18, .int (nI cl)), (19, .int (nI fd)), (20, .int (icV cl nc)), (21, .int (arV cl nc fd)), (22, .int (nI f)), (23, .int (nI tr)), (24, .int 1), (25, .int (nI cc)), (26, .long ((cyS A1 cc (dy / 360)).1)), (28, .int 1), (29, .int (nI ff)), (30, .long (unpaidL L tr)), (32, .int (nI (dy / 360)))]) hx hb dL_law_1818 hl_77 (by decide) rfl (fun ls hl_88 => ?_)
            refine lv_goto (tgt := 2146) hx hb dL_law_1820 (by decide) ?_
            exact W.widen (by show cells + 0 + 0 + 0 + 2 ≤ cells + 30; omega) (by show slots + 0 + 0 + 0 + 12 ≤ slots + 2200; omega) (K ac nc nt dy (exM (up2 I 17 tr 0) L ff (-(L 13 tr)) (-(payT L tr)) mo) (up2 I 17 tr 0) (stL (cmL I L nt tr) cc (dy / 360)) I1 (up2 ((cyS A1 cc (dy / 360)).2) 1 (12 + cc) ((((cyS A1 cc (dy / 360)).2) 1 (12 + cc)) + ((cyS A1 cc (dy / 360)).1))) H locs ls hH_83 hS_84 (hU.1.mono (by omega)) hc1 rfl (lv_sub hl_88 [1, 2, 3, 4, 5, 6, 7, 8, 9, 10, 11, 12, 13, 0, 14, 15, 16] rfl))
          · intro i_73 hi_73 ih_74 H locs ls hH_89 hS_90 hl_91
            refine lv_iload hx hb dL_law_1688 (lv_at hl_91 29 rfl) ?_
            refine lv_aload hx hb dL_law_1690 (lv_at hl_91 12 rfl) ?_
            refine lv_iconst (v := 0) hx hb dL_law_1692 (by decide) ?_
            refine ls_ild C hH_89 10 rfl (by decide) (j := 0) rfl (show 0 < 3 by omega) dL_law_1693 ?_
            refine W.eq (g2 := F0 m 1694 ls [.int (nI dy), .int (nI i_73)]) (by rw [e20]) ?_
            refine lv_sipush (v := 360) hx hb dL_law_1694 (by decide) ?_
            refine lv_idiv hx hb dL_law_1697 (by decide) ?_
            refine W.eq (g2 := F0 m 1698 ls [.int (nI (dy / 360)), .int (nI i_73)]) (by rw [show ((nI dy) / 360 : Int32) = nI (dy / 360) from (zi_div rfl (b := 360) rfl (by omega) (by decide) (by decide))]) ?_
            refine lv_icmp_ge (tgt := 1759) hx hb dL_law_1698 (by decide) (fun c_92 => absurd c_92 (nI_ge hi_73 (by first | decide | omega))) (fun c_92 => ?_)
            refine lv_lload hx hb dL_law_1701 (lv_at hl_91 25 rfl) ?_
            refine lv_aload hx hb dL_law_1703 (lv_at hl_91 9 rfl) ?_
            refine lv_bipush (v := 21) hx hb dL_law_1705 (by decide) ?_
            refine lv_iload hx hb dL_law_1707 (lv_at hl_91 24 rfl) ?_
            refine lv_imul hx hb dL_law_1709 ?_
            refine lv_iload hx hb dL_law_1710 (lv_at hl_91 29 rfl) ?_
            refine lv_iadd hx hb dL_law_1712 ?_
            refine W.eq (g2 := F0 m 1713 ls [.int (nI ((21 * cc) + i_73)), .ref (ad (7, 0, 0)), .long ((cyS A1 cc i_73).1)]) (by rw [show ((21 * (nI cc)) + (nI i_73) : Int32) = nI ((21 * cc) + i_73) from (zi_add (zi_mul rfl rfl) rfl)]) ?_
            refine ls_lld C hH_89 7 rfl (by decide) (j := ((21 * cc) + i_73)) rfl (show ((21 * cc) + i_73) < 63 by omega) dL_law_1713 ?_
            refine lv_aload hx hb dL_law_1714 (lv_at hl_91 11 rfl) ?_
            refine lv_bipush (v := 22) hx hb dL_law_1716 (by decide) ?_
            refine lv_iload hx hb dL_law_1718 (lv_at hl_91 29 rfl) ?_
            refine lv_iadd hx hb dL_law_1720 ?_
            refine W.eq (g2 := F0 m 1721 ls [.int (nI (22 + i_73)), .ref (ad (9, 0, 0)), .long (((cyS A1 cc i_73).2) 7 ((21 * cc) + i_73)), .long ((cyS A1 cc i_73).1)]) (by rw [show (22 + (nI i_73) : Int32) = nI (22 + i_73) from (zi_add rfl rfl)]) ?_
            refine ls_lld C hH_89 9 rfl (by decide) (j := (22 + i_73)) rfl (show (22 + i_73) < 64 by omega) dL_law_1721 ?_
            refine lv_ldc2 (v := 4) hx hb hown (hts (.constantLong RL 118 4) (by decide +kernel)) dL_law_1722 ?_
            refine lv_ldiv hx hb dL_law_1725 (by decide) ?_
            refine lv_lsub hx hb dL_law_1726 ?_
            refine lv_ladd hx hb dL_law_1727 ?_
            refine lv_lstore (lv' := [(26, .long (((cyS A1 cc i_73).1) + ((((cyS A1 cc i_73).2) 7 ((21 * cc) + i_73)) - ((((cyS A1 cc i_73).2) 9 (22 + i_73)) / 4)))), (0, .ref sb), (1, .ref (ac (0, 0, 0))), (2, .ref (ad (0, 0, 0))), (3, .ref (ad (1, 0, 0))), (4, .ref (ad (2, 0, 0))), (5, .ref (ad (3, 0, 0))), (6, .ref (ad (4, 0, 0))), (7, .ref (ad (5, 0, 0))), (8, .ref (ad (6, 0, 0))), (9, .ref (ad (7, 0, 0))), (10, .ref (ad (8, 0, 0))), (11, .ref (ad (9, 0, 0))), (12, .ref (ad (10, 0, 0))), (13, .int 1), (14, .int (nI k)), (16, .int (nI one)), (17, .int (nI two)), (18, .int (nI cl)), (19, .int (nI fd)), (20, .int (icV cl nc)), (21, .int (arV cl nc fd)), (22, .int (nI f)), (23, .int (nI tr)), (24, .int 1), (25, .int (nI cc)), (28, .int 1), (29, .int (nI ff)), (30, .long (unpaidL L tr)), (32, .int (nI i_73))]) hx hb dL_law_1728 hl_91 (by decide) rfl (fun ls hl_93 => ?_)
            refine lv_aload hx hb dL_law_1730 (lv_at hl_93 10 rfl) ?_
            refine lv_bipush (v := 21) hx hb dL_law_1732 (by decide) ?_
            refine lv_iload hx hb dL_law_1734 (lv_at hl_93 25 rfl) ?_
            refine lv_imul hx hb dL_law_1736 ?_
            refine lv_iload hx hb dL_law_1737 (lv_at hl_93 29 rfl) ?_
            refine lv_iadd hx hb dL_law_1739 ?_
            refine W.eq (g2 := F0 m 1740 ls [.int (nI ((21 * cc) + i_73)), .ref (ad (7, 0, 0))]) (by rw [show ((21 * (nI cc)) + (nI i_73) : Int32) = nI ((21 * cc) + i_73) from (zi_add (zi_mul rfl rfl) rfl)]) ?_
            refine lv_aload hx hb dL_law_1740 (lv_at hl_93 12 rfl) ?_
            refine lv_bipush (v := 22) hx hb dL_law_1742 (by decide) ?_
            refine lv_iload hx hb dL_law_1744 (lv_at hl_93 29 rfl) ?_
            refine lv_iadd hx hb dL_law_1746 ?_
            refine W.eq (g2 := F0 m 1747 ls [.int (nI (22 + i_73)), .ref (ad (9, 0, 0)), .int (nI ((21 * cc) + i_73)), .ref (ad (7, 0, 0))]) (by rw [show (22 + (nI i_73) : Int32) = nI (22 + i_73) from (zi_add rfl rfl)]) ?_
            refine ls_lld C hH_89 9 rfl (by decide) (j := (22 + i_73)) rfl (show (22 + i_73) < 64 by omega) dL_law_1747 ?_
            refine lv_ldc2 (v := 4) hx hb hown (hts (.constantLong RL 118 4) (by decide +kernel)) dL_law_1748 ?_
            refine lv_ldiv hx hb dL_law_1751 (by decide) ?_
            refine ls_lst C hH_89 hS_90 7 rfl (by decide) (j := ((21 * cc) + i_73)) rfl (show ((21 * cc) + i_73) < 63 by omega) dL_law_1752 (fun H locs hH_94 hS_95 => ?_)
            refine lv_iinc (v := nI (i_73 + 1)) (lv' := [(32, .int (nI (i_73 + 1))), (26, .long (((cyS A1 cc i_73).1) + ((((cyS A1 cc i_73).2) 7 ((21 * cc) + i_73)) - ((((cyS A1 cc i_73).2) 9 (22 + i_73)) / 4)))), (0, .ref sb), (1, .ref (ac (0, 0, 0))), (2, .ref (ad (0, 0, 0))), (3, .ref (ad (1, 0, 0))), (4, .ref (ad (2, 0, 0))), (5, .ref (ad (3, 0, 0))), (6, .ref (ad (4, 0, 0))), (7, .ref (ad (5, 0, 0))), (8, .ref (ad (6, 0, 0))), (9, .ref (ad (7, 0, 0))), (10, .ref (ad (8, 0, 0))), (11, .ref (ad (9, 0, 0))), (12, .ref (ad (10, 0, 0))), (13, .int 1), (14, .int (nI k)), (16, .int (nI one)), (17, .int (nI two)), (18, .int (nI cl)), (19, .int (nI fd)), (20, .int (icV cl nc)), (21, .int (arV cl nc fd)), (22, .int (nI f)), (23, .int (nI tr)), (24, .int 1), (25, .int (nI cc)), (28, .int 1), (29, .int (nI ff)), (30, .long (unpaidL L tr))]) hx hb dL_law_1753 hl_93 (k := 29) rfl (nI_1 i_73) (by decide) rfl (fun ls hl_96 => ?_)
            refine lv_goto (tgt := 1688) hx hb dL_law_1756 (by decide) ?_
            exact ih_74 _ _ _ hH_94 hS_95 (lv_sub hl_96 [2, 3, 4, 5, 6, 7, 8, 9, 10, 11, 12, 13, 14, 15, 16, 17, 18, 19, 20, 21, 22, 23, 24, 25, 26, 1, 27, 28, 29, 0] rfl)
      · refine W.eq (g2 := F0 m 1560 ls [.int 0]) (by rw [hg]) ?_
        refine lv_istore (lv' := [(28, .int 0), (29, .int (nI ff)), (26, .long 0), (25, .int (nI cc)), (24, .int 1), (23, .int (nI tr)), (0, .ref sb), (1, .ref (ac (0, 0, 0))), (2, .ref (ad (0, 0, 0))), (3, .ref (ad (1, 0, 0))), (4, .ref (ad (2, 0, 0))), (5, .ref (ad (3, 0, 0))), (6, .ref (ad (4, 0, 0))), (7, .ref (ad (5, 0, 0))), (8, .ref (ad (6, 0, 0))), (9, .ref (ad (7, 0, 0))), (10, .ref (ad (8, 0, 0))), (11, .ref (ad (9, 0, 0))), (12, .ref (ad (10, 0, 0))), (13, .int 1), (14, .int (nI k)), (16, .int (nI one)), (17, .int (nI two)), (18, .int (nI cl)), (19, .int (nI fd)), (20, .int (icV cl nc)), (21, .int (arV cl nc fd)), (22, .int (nI f))]) hx hb dL_law_1560 hl_28 (by decide) rfl (fun ls hl_97 => ?_)
        refine lv_aload hx hb dL_law_1562 (lv_at hl_97 12 rfl) ?_
        refine lv_iload hx hb dL_law_1564 (lv_at hl_97 5 rfl) ?_
        refine lv_dup2_11 hx hb dL_law_1566 rfl rfl ?_
        refine ls_ild C hH_34 4 rfl (by decide) (j := tr) rfl (show tr < 30 by omega) dL_law_1567 ?_
        refine W.eq (g2 := F0 m 1568 ls [.int (nI (pkT I tr + 524288)), .int (nI tr), .ref (ad (4, 0, 0))]) (by rw [i4]) ?_
        refine lv_iload hx hb dL_law_1568 (lv_at hl_97 0 rfl) ?_
        refine lv_if_eq (tgt := 1577) hx hb dL_law_1570 (by decide) (fun c_98 => ?_) (fun c_98 => absurd c_98 (by decide))
        refine lv_ldc (v := 524288) hx hb hown (hts (.constant RL 93 524288) (by decide +kernel)) dL_law_1577 ?_
        refine lv_isub hx hb dL_law_1579 ?_
        refine W.eq (g2 := F0 m 1580 ls [.int (nI (pkT I tr)), .int (nI tr), .ref (ad (4, 0, 0))]) (by rw [pk_s5]) ?_
        refine ls_ist C hH_34 hS_35 4 rfl (by decide) (j := tr) rfl (show tr < 30 by omega) dL_law_1580 (fun H locs hH_99 hS_100 => ?_)
        have hw_101 : up2 I1 4 tr (nI (pkT I tr)) = Ia := by rw [hI1]; exact up2_back (hR tr hlt).1
        have hH_102 := hH_99
        rw [hw_101] at hH_102
        refine lv_iload hx hb dL_law_1581 (lv_at hl_97 0 rfl) ?_
        refine lv_if_eq (tgt := 1771) hx hb dL_law_1583 (by decide) (fun c_103 => ?_) (fun c_103 => absurd c_103 (by decide))
        refine lv_aload_n hx hb dL_law_1771 rfl (lv_at hl_97 7 rfl) ?_
        refine lv_bipush (v := 7) hx hb dL_law_1772 (by decide) ?_
        refine lv_iload hx hb dL_law_1774 (lv_at hl_97 5 rfl) ?_
        refine lv_iconst (v := 0) hx hb dL_law_1776 (by decide) ?_
        refine lv_iconst (v := 0) hx hb dL_law_1777 (by decide) ?_
        refine zk_cl (zk_rSH (As := [.ref (ac (0, 0, 0)), .int 7, .int (nI tr), .int 0, .int 0]) (rest := []) (n := 5) (w := zk_sum 50 (cw cA (g 0) ac 6 nc nc 6 nt dy mo I L) (aw cA ad Ia ((goS I1 La cc ff nt).2))) C (qd_complain_S l D cA A g ac nc nt dy mo I L _ hst tr hlt hcan hdy (by omega) (by omega) h11 h12 h16) hH_102 hS_100 gL_law_L_does rfl rfl (by decide +kernel) ⟨Nat.le_of_ble_eq_true rfl, Nat.le_of_ble_eq_true rfl⟩ hl_97 rfl (Nat.le_of_ble_eq_true rfl) dL_law_1778 ⟨by show cells + 0 + 2 ≤ 600104; omega, by show slots + 0 + 12 ≤ 7301314; omega⟩) hS_100 (fun r_104 w_105 H locs hP hH_106 hS_107 => ?_)
        obtain ⟨rfl, rfl⟩ := hP
        refine lv_iload hx hb dL_law_1781 (lv_at hl_97 5 rfl) ?_
        refine lv_aload hx hb dL_law_1783 (lv_at hl_97 18 rfl) ?_
        refine lv_iconst (v := 2) hx hb dL_law_1785 (by decide) ?_
        refine ls_ild C hH_106 10 rfl (by decide) (j := 2) rfl (show 2 < 3 by omega) dL_law_1786 ?_
        refine W.eq (g2 := F0 m 1787 ls [.int (nI nt), .int (nI tr), .long (-1000000000000)]) (by rw [e2]) ?_
        refine lv_icmp_ne (tgt := 1796) hx hb dL_law_1787 (by decide) (fun c_108 => ?_) (fun c_108 => absurd ((nI_eq (by omega) (by omega)).mp c_108) (by omega))
        refine lv_iload hx hb dL_law_1796 (lv_at hl_97 0 rfl) ?_
        refine lv_if_eq (tgt := 1806) hx hb dL_law_1798 (by decide) (fun c_109 => ?_) (fun c_109 => absurd c_109 (by decide))
        refine lv_ldc2 (v := (-1000000000000)) hx hb hown (hts (.constantLong RL 67 (-1000000000000)) (by decide +kernel)) dL_law_1806 ?_
        refine zl_cmp_ne (tgt := 1817) hx hb dL_law_1809 dL_law_1810 (by decide) (fun c_110 => absurd c_110 (by decide)) (fun c_110 => ?_)
        refine lv_iconst (v := 1) hx hb dL_law_1813 (by decide) ?_
        refine lv_goto (tgt := 1818) hx hb dL_law_1814 (by decide) ?_
        refine lv_istore (lv' := [(13, .int 1), (28, .int 0), (29, .int (nI ff)), (26, .long 0), (25, .int (nI cc)), (24, .int 1), (23, .int (nI tr)), (0, .ref sb), (1, .ref (ac (0, 0, 0))), (2, .ref (ad (0, 0, 0))), (3, .ref (ad (1, 0, 0))), (4, .ref (ad (2, 0, 0))), (5, .ref (ad (3, 0, 0))), (6, .ref (ad (4, 0, 0))), (7, .ref (ad (5, 0, 0))), (8, .ref (ad (6, 0, 0))), (9, .ref (ad (7, 0, 0))), (10, .ref (ad (8, 0, 0))), (11, .ref (ad (9, 0, 0))), (12, .ref (ad (10, 0, 0))), (14, .int (nI k)), (16, .int (nI one)), (17, .int (nI two)), (18, .int (nI cl)), (19, .int (nI fd)), (20, .int (icV cl nc)), (21, .int (arV cl nc fd)), (22, .int (nI f))]) hx hb dL_law_1818 hl_97 (by decide) rfl (fun ls hl_111 => ?_)
        refine lv_goto (tgt := 2146) hx hb dL_law_1820 (by decide) ?_
        exact W.widen (by show cells + 0 + 2 ≤ cells + 30; omega) (by show slots + 0 + 12 ≤ slots + 2200; omega) (K ac nc nt dy mo I L Ia ((goS I1 La cc ff nt).2) H locs ls hH_106 hS_107 ((hJ.scr (fun a a8 a9 => goS_a a8 a9 nt)).mono (by omega)) hc1 rfl (lv_sub hl_111 [7, 8, 9, 10, 11, 12, 13, 14, 15, 16, 17, 18, 19, 0, 20, 21, 22] rfl))
  · have heq : tr = nt := by omega
    refine lv_iload hx hb dL_law_1450 (lv_at hl_1 0 rfl) ?_
    refine lv_aload hx hb dL_law_1452 (lv_at hl_1 13 rfl) ?_
    refine lv_iconst (v := 2) hx hb dL_law_1454 (by decide) ?_
    refine ls_ild C hH 10 rfl (by decide) (j := 2) rfl (show 2 < 3 by omega) dL_law_1455 ?_
    refine W.eq (g2 := F0 m 1456 ls [.int (nI nt), .int (nI tr)]) (by rw [e2]) ?_
    refine lv_icmp_ge (tgt := 1486) hx hb dL_law_1456 (by decide) (fun c_112 => ?_) (fun c_112 => absurd (show nI nt ≤ nI tr from nI_le (by omega) (by omega)) c_112)
    refine lv_iconst (v := 0) hx hb dL_law_1486 (by decide) ?_
    refine lv_istore (lv' := [(24, .int 0), (23, .int (nI tr)), (0, .ref sb), (1, .ref (ac (0, 0, 0))), (2, .ref (ad (0, 0, 0))), (3, .ref (ad (1, 0, 0))), (4, .ref (ad (2, 0, 0))), (5, .ref (ad (3, 0, 0))), (6, .ref (ad (4, 0, 0))), (7, .ref (ad (5, 0, 0))), (8, .ref (ad (6, 0, 0))), (9, .ref (ad (7, 0, 0))), (10, .ref (ad (8, 0, 0))), (11, .ref (ad (9, 0, 0))), (12, .ref (ad (10, 0, 0))), (13, .int 1), (14, .int (nI k)), (16, .int (nI one)), (17, .int (nI two)), (18, .int (nI cl)), (19, .int (nI fd)), (20, .int (icV cl nc)), (21, .int (arV cl nc fd)), (22, .int (nI f))]) hx hb dL_law_1487 hl_1 (by decide) rfl (fun ls hl_113 => ?_)
    refine lv_iload hx hb dL_law_1489 (lv_at hl_113 0 rfl) ?_
    refine lv_if_eq (tgt := 1504) hx hb dL_law_1491 (by decide) (fun c_114 => ?_) (fun c_114 => absurd c_114 (by decide))
    refine lv_iconst (v := 0) hx hb dL_law_1504 (by decide) ?_
    refine lv_istore (lv' := [(25, .int 0), (24, .int 0), (23, .int (nI tr)), (0, .ref sb), (1, .ref (ac (0, 0, 0))), (2, .ref (ad (0, 0, 0))), (3, .ref (ad (1, 0, 0))), (4, .ref (ad (2, 0, 0))), (5, .ref (ad (3, 0, 0))), (6, .ref (ad (4, 0, 0))), (7, .ref (ad (5, 0, 0))), (8, .ref (ad (6, 0, 0))), (9, .ref (ad (7, 0, 0))), (10, .ref (ad (8, 0, 0))), (11, .ref (ad (9, 0, 0))), (12, .ref (ad (10, 0, 0))), (13, .int 1), (14, .int (nI k)), (16, .int (nI one)), (17, .int (nI two)), (18, .int (nI cl)), (19, .int (nI fd)), (20, .int (icV cl nc)), (21, .int (arV cl nc fd)), (22, .int (nI f))]) hx hb dL_law_1505 hl_113 (by decide) rfl (fun ls hl_115 => ?_)
    refine lv_lconst (v := 0) hx hb dL_law_1507 (by decide) ?_
    refine lv_lstore (lv' := [(26, .long 0), (25, .int 0), (24, .int 0), (23, .int (nI tr)), (0, .ref sb), (1, .ref (ac (0, 0, 0))), (2, .ref (ad (0, 0, 0))), (3, .ref (ad (1, 0, 0))), (4, .ref (ad (2, 0, 0))), (5, .ref (ad (3, 0, 0))), (6, .ref (ad (4, 0, 0))), (7, .ref (ad (5, 0, 0))), (8, .ref (ad (6, 0, 0))), (9, .ref (ad (7, 0, 0))), (10, .ref (ad (8, 0, 0))), (11, .ref (ad (9, 0, 0))), (12, .ref (ad (10, 0, 0))), (13, .int 1), (14, .int (nI k)), (16, .int (nI one)), (17, .int (nI two)), (18, .int (nI cl)), (19, .int (nI fd)), (20, .int (icV cl nc)), (21, .int (arV cl nc fd)), (22, .int (nI f))]) hx hb dL_law_1508 hl_115 (by decide) rfl (fun ls hl_116 => ?_)
    refine lv_iload hx hb dL_law_1510 (lv_at hl_116 2 rfl) ?_
    refine lv_istore (lv' := [(28, .int 0), (26, .long 0), (25, .int 0), (24, .int 0), (23, .int (nI tr)), (0, .ref sb), (1, .ref (ac (0, 0, 0))), (2, .ref (ad (0, 0, 0))), (3, .ref (ad (1, 0, 0))), (4, .ref (ad (2, 0, 0))), (5, .ref (ad (3, 0, 0))), (6, .ref (ad (4, 0, 0))), (7, .ref (ad (5, 0, 0))), (8, .ref (ad (6, 0, 0))), (9, .ref (ad (7, 0, 0))), (10, .ref (ad (8, 0, 0))), (11, .ref (ad (9, 0, 0))), (12, .ref (ad (10, 0, 0))), (13, .int 1), (14, .int (nI k)), (16, .int (nI one)), (17, .int (nI two)), (18, .int (nI cl)), (19, .int (nI fd)), (20, .int (icV cl nc)), (21, .int (arV cl nc fd)), (22, .int (nI f))]) hx hb dL_law_1512 hl_116 (by decide) rfl (fun ls hl_117 => ?_)
    refine lv_iload hx hb dL_law_1514 (lv_at hl_117 3 rfl) ?_
    refine lv_if_eq (tgt := 1771) hx hb dL_law_1516 (by decide) (fun c_118 => ?_) (fun c_118 => absurd c_118 (by decide))
    refine lv_aload_n hx hb dL_law_1771 rfl (lv_at hl_117 6 rfl) ?_
    refine lv_bipush (v := 7) hx hb dL_law_1772 (by decide) ?_
    refine lv_iload hx hb dL_law_1774 (lv_at hl_117 4 rfl) ?_
    refine lv_iconst (v := 0) hx hb dL_law_1776 (by decide) ?_
    refine lv_iconst (v := 0) hx hb dL_law_1777 (by decide) ?_
    refine zk_cl (zk_rSH (As := [.ref (ac (0, 0, 0)), .int 7, .int (nI tr), .int 0, .int 0]) (rest := []) (n := 5) (w := zk_sum 50 (cw cA (g 0) ac 6 nc nc 6 nt dy mo I L) (aw cA ad Ia La)) C (qd_complain_I l D cA A g ac nc nt dy mo I L _ hst (nI tr) (zno (by omega) (by omega) hlt) hdy (by omega) (by omega) h11 h12 h16) hH hS gL_law_L_does rfl rfl (by decide +kernel) ⟨Nat.le_of_ble_eq_true rfl, Nat.le_of_ble_eq_true rfl⟩ hl_117 rfl (Nat.le_of_ble_eq_true rfl) dL_law_1778 ⟨by show cells + 2 ≤ 600104; omega, by show slots + 12 ≤ 7301314; omega⟩) hS (fun r_119 w_120 H locs hP hH_121 hS_122 => ?_)
    obtain ⟨rfl, rfl⟩ := hP
    refine lv_iload hx hb dL_law_1781 (lv_at hl_117 4 rfl) ?_
    refine lv_aload hx hb dL_law_1783 (lv_at hl_117 17 rfl) ?_
    refine lv_iconst (v := 2) hx hb dL_law_1785 (by decide) ?_
    refine ls_ild C hH_121 10 rfl (by decide) (j := 2) rfl (show 2 < 3 by omega) dL_law_1786 ?_
    refine W.eq (g2 := F0 m 1787 ls [.int (nI nt), .int (nI tr), .long (-3000000000000)]) (by rw [e2]) ?_
    refine lv_icmp_ne (tgt := 1796) hx hb dL_law_1787 (by decide) (fun c_123 => absurd (congrArg nI heq) c_123) (fun c_123 => ?_)
    refine lv_ldc2 (v := (-3000000000000)) hx hb hown (hts (.constantLong RL 59 (-3000000000000)) (by decide +kernel)) dL_law_1790 ?_
    refine lv_goto (tgt := 1809) hx hb dL_law_1793 (by decide) ?_
    refine zl_cmp_ne (tgt := 1817) hx hb dL_law_1809 dL_law_1810 (by decide) (fun c_124 => absurd c_124 (by decide)) (fun c_124 => ?_)
    refine lv_iconst (v := 1) hx hb dL_law_1813 (by decide) ?_
    refine lv_goto (tgt := 1818) hx hb dL_law_1814 (by decide) ?_
    refine lv_istore (lv' := [(13, .int 1), (28, .int 0), (26, .long 0), (25, .int 0), (24, .int 0), (23, .int (nI tr)), (0, .ref sb), (1, .ref (ac (0, 0, 0))), (2, .ref (ad (0, 0, 0))), (3, .ref (ad (1, 0, 0))), (4, .ref (ad (2, 0, 0))), (5, .ref (ad (3, 0, 0))), (6, .ref (ad (4, 0, 0))), (7, .ref (ad (5, 0, 0))), (8, .ref (ad (6, 0, 0))), (9, .ref (ad (7, 0, 0))), (10, .ref (ad (8, 0, 0))), (11, .ref (ad (9, 0, 0))), (12, .ref (ad (10, 0, 0))), (14, .int (nI k)), (16, .int (nI one)), (17, .int (nI two)), (18, .int (nI cl)), (19, .int (nI fd)), (20, .int (icV cl nc)), (21, .int (arV cl nc fd)), (22, .int (nI f))]) hx hb dL_law_1818 hl_117 (by decide) rfl (fun ls hl_125 => ?_)
    refine lv_goto (tgt := 2146) hx hb dL_law_1820 (by decide) ?_
    exact W.widen (by show cells + 2 ≤ cells + 30; omega) (by show slots + 12 ≤ slots + 2200; omega) (K ac nc nt dy mo I L Ia La H locs ls hH_121 hS_122 (hJ.mono (by omega)) hc1 rfl (lv_sub hl_125 [6, 7, 8, 9, 10, 11, 12, 13, 14, 15, 16, 17, 18, 0, 19, 20, 21] rfl))
end LAW
