section LAW
variable {p : Program} {l : Launch} {e : Env} {s : State} {m : MethodId} {below : List Frame} {meth : Method} {c : Code} {H : Heap} {locs : List Loc} {cells slots : Nat} {Q : State → Prop} {ls : Array Slot} {D : va_G} {cA : Nat → ClassId} {A : Nat → Prop} {g : Nat → Nat}
variable {sb k one two b nc nt dy cl fd f : Nat} {ac ad : zk_K → Nat} {mo : Int64} {I Ia : zIA} {L La : zLA}
set_option maxHeartbeats 2000000 in
set_option maxRecDepth 100000 in
theorem lw_pass (C : zC p l m c cL_law 33 s #[.ref sb] wsL_law RL D (zt cA) A g meth) (hst : l.stackTraces = false) (hJ : zJ nc nt dy b mo I L Ia La) (hb8 : b ≤ 8000) (hone : one < 60000) (htwo : two < 60000) (hk : k < 60) (hcl : cl ≤ nc) (hfd : fd < 7) (hf : f < 6) (hff : fd < 6 → f = fd) (hc : cells + 30 ≤ 600104) (hs : slots + 2200 ≤ 7301314) (hH : zk_H D A (zk_sum 50 (cw cA (g 0) ac 6 nc nc 6 nt dy mo I L) (aw cA ad Ia La)) H) (hS : va_S A s.heap H locs) (hc1 : 1 ≤ nc) (hl : lv_has ls 33 [(0, .ref sb), (1, .ref (ac (0, 0, 0))), (2, .ref (ad (0, 0, 0))), (3, .ref (ad (1, 0, 0))), (4, .ref (ad (2, 0, 0))), (5, .ref (ad (3, 0, 0))), (6, .ref (ad (4, 0, 0))), (7, .ref (ad (5, 0, 0))), (8, .ref (ad (6, 0, 0))), (9, .ref (ad (7, 0, 0))), (10, .ref (ad (8, 0, 0))), (11, .ref (ad (9, 0, 0))), (12, .ref (ad (10, 0, 0))), (13, .int 1), (14, .int (nI k)), (16, .int (nI one)), (17, .int (nI two)), (18, .int (nI cl)), (19, .int (nI fd)), (20, .int (icV cl nc)), (21, .int (arV cl nc fd)), (22, .int (nI f))]) (K : lwK p l e s m below meth c D cA A g sb k one two (b + 12) (ac (0, 0, 0)) ad (cells + 30) (slots + 2200) Q) : W p l e room_1 s m #[.ref sb] below meth c H locs cells slots Q (F0 m 1830 ls []) := by
  obtain ⟨⟨hx, hb, hml, hown, hts⟩, hG, hlk⟩ := id C
  obtain ⟨hO, hM, hD⟩ := hJ.d
  obtain ⟨hI, ⟨hn3, hn30⟩, ⟨e0, e1, e2⟩, hP, hGo, ⟨v1, v2, v3, v4⟩, h7, hR, hE, hSu⟩ := id hJ
  obtain ⟨-, -, hdy⟩ := hI.1
  obtain ⟨h11, h12, h16, -, -⟩ := hI.t
  obtain ⟨n6, hn6⟩ : ∃ n : Nat, n = 6 := ⟨6, rfl⟩
  obtain ⟨d, hd⟩ : ∃ d, d = dvV one dy := ⟨_, rfl⟩
  have hdb := dv_bd (one := one) (dy := dy)
  rw [← hd] at hdb
  refine z_join (nL := 33) (D := D) (A := A) (w := zk_sum 50 (cw cA (g 0) ac 6 nc nc 6 nt dy mo I L) (aw cA ad Ia La)) (pcj := 1878) (lc := [(0, .ref sb), (1, .ref (ac (0, 0, 0))), (2, .ref (ad (0, 0, 0))), (3, .ref (ad (1, 0, 0))), (4, .ref (ad (2, 0, 0))), (5, .ref (ad (3, 0, 0))), (6, .ref (ad (4, 0, 0))), (7, .ref (ad (5, 0, 0))), (8, .ref (ad (6, 0, 0))), (9, .ref (ad (7, 0, 0))), (10, .ref (ad (8, 0, 0))), (11, .ref (ad (9, 0, 0))), (12, .ref (ad (10, 0, 0))), (13, .int 1), (14, .int (nI k)), (16, .int (nI one)), (17, .int (nI two)), (18, .int (nI cl)), (19, .int (nI fd)), (20, .int (icV cl nc)), (21, .int (arV cl nc fd)), (22, .int (nI f))]) (st1 := [.int (nI d)]) (fun J_1 => ?_) ?_
  · refine lv_iload hx hb dL_law_1830 (lv_at hl 15 rfl) ?_
    refine lv_iconst (v := 3) hx hb dL_law_1832 (by decide) ?_
    refine lv_irem hx hb dL_law_1833 (by decide) ?_
    refine W.eq (g2 := F0 m 1834 ls [.int (nI (one % 3))]) (by rw [show ((nI one) - (nI one) / 3 * 3 : Int32) = nI (one % 3) from (zi_rem rfl (b := 3) rfl (by omega) (by decide) (by decide))]) ?_
    refine lv_if_ne (tgt := 1848) hx hb dL_law_1834 (by decide) (fun c_5 => ?_) (fun c_5 => ?_)
    · have c_5n := fun z => c_5 ((nI_k0 (by omega)).mpr z)
      refine lv_iload hx hb dL_law_1848 (lv_at hl 15 rfl) ?_
      refine lv_iconst (v := 3) hx hb dL_law_1850 (by decide) ?_
      refine lv_irem hx hb dL_law_1851 (by decide) ?_
      refine W.eq (g2 := F0 m 1852 ls [.int (nI (one % 3))]) (by rw [show ((nI one) - (nI one) / 3 * 3 : Int32) = nI (one % 3) from (zi_rem rfl (b := 3) rfl (by omega) (by decide) (by decide))]) ?_
      refine lv_iconst (v := 1) hx hb dL_law_1852 (by decide) ?_
      refine lv_icmp_ne (tgt := 1871) hx hb dL_law_1853 (by decide) (fun c_6 => ?_) (fun c_6 => ?_)
      · have c_6n := fun z => c_6 ((nI_k1 (by omega)).mpr z)
        refine lv_iconst (v := 1) hx hb dL_law_1871 (by decide) ?_
        refine lv_iload hx hb dL_law_1872 (lv_at hl 15 rfl) ?_
        refine lv_bipush (v := 9) hx hb dL_law_1874 (by decide) ?_
        refine lv_irem hx hb dL_law_1876 (by decide) ?_
        refine W.eq (g2 := F0 m 1877 ls [.int (nI (one % 9)), .int 1]) (by rw [show ((nI one) - (nI one) / 9 * 9 : Int32) = nI (one % 9) from (zi_rem rfl (b := 9) rfl (by omega) (by decide) (by decide))]) ?_
        refine lv_iadd hx hb dL_law_1877 ?_
        refine W.eq (g2 := F0 m 1878 ls [.int (nI (1 + (one % 9)))]) (by rw [show (1 + (nI (one % 9)) : Int32) = nI (1 + (one % 9)) from (zi_add rfl rfl)]) ?_
        refine W.eq (g2 := F0 m 1878 ls [.int (nI d)]) (by rw [show (nI d : Int32) = nI (1 + (one % 9)) from (by rw [hd]; unfold dvV; split <;> first | contradiction | rfl | (split <;> first | contradiction | rfl))]) ?_
        exact J_1 _ _ _ hH hS (lv_sub hl [0, 1, 2, 3, 4, 5, 6, 7, 8, 9, 10, 11, 12, 13, 14, 15, 16, 17, 18, 19, 20, 21] rfl)
      · have c_6n := (nI_k1 (by omega)).mp c_6
        refine lv_sipush (v := 360) hx hb dL_law_1856 (by decide) ?_
        refine lv_aload hx hb dL_law_1859 (lv_at hl 12 rfl) ?_
        refine lv_iconst (v := 0) hx hb dL_law_1861 (by decide) ?_
        refine ls_ild C hH 10 rfl (by decide) (j := 0) rfl (show 0 < 3 by omega) dL_law_1862 ?_
        refine W.eq (g2 := F0 m 1863 ls [.int (nI dy), .int 360]) (by rw [e0]) ?_
        refine lv_sipush (v := 360) hx hb dL_law_1863 (by decide) ?_
        refine lv_irem hx hb dL_law_1866 (by decide) ?_
        refine W.eq (g2 := F0 m 1867 ls [.int (nI (dy % 360)), .int 360]) (by rw [show ((nI dy) - (nI dy) / 360 * 360 : Int32) = nI (dy % 360) from (zi_rem rfl (b := 360) rfl (by omega) (by decide) (by decide))]) ?_
        refine lv_isub hx hb dL_law_1867 ?_
        refine W.eq (g2 := F0 m 1868 ls [.int (nI (360 - dy % 360))]) (by rw [show (360 : Int32) = nI 360 from rfl, pk_sub (by omega)]) ?_
        refine lv_goto (tgt := 1878) hx hb dL_law_1868 (by decide) ?_
        refine W.eq (g2 := F0 m 1878 ls [.int (nI d)]) (by rw [show (nI d : Int32) = nI (360 - dy % 360) from (by rw [hd]; unfold dvV; split <;> first | contradiction | rfl | (split <;> first | contradiction | rfl))]) ?_
        exact J_1 _ _ _ hH hS (lv_sub hl [0, 1, 2, 3, 4, 5, 6, 7, 8, 9, 10, 11, 12, 13, 14, 15, 16, 17, 18, 19, 20, 21] rfl)
    · have c_5n := (nI_k0 (by omega)).mp c_5
      refine lv_iconst (v := 1) hx hb dL_law_1837 (by decide) ?_
      refine lv_iload hx hb dL_law_1838 (lv_at hl 15 rfl) ?_
      refine lv_sipush (v := 400) hx hb dL_law_1840 (by decide) ?_
      refine lv_irem hx hb dL_law_1843 (by decide) ?_
      refine W.eq (g2 := F0 m 1844 ls [.int (nI (one % 400)), .int 1]) (by rw [show ((nI one) - (nI one) / 400 * 400 : Int32) = nI (one % 400) from (zi_rem rfl (b := 400) rfl (by omega) (by decide) (by decide))]) ?_
      refine lv_iadd hx hb dL_law_1844 ?_
      refine W.eq (g2 := F0 m 1845 ls [.int (nI (1 + (one % 400)))]) (by rw [show (1 + (nI (one % 400)) : Int32) = nI (1 + (one % 400)) from (zi_add rfl rfl)]) ?_
      refine lv_goto (tgt := 1878) hx hb dL_law_1845 (by decide) ?_
      refine W.eq (g2 := F0 m 1878 ls [.int (nI d)]) (by rw [show (nI d : Int32) = nI (1 + (one % 400)) from (by rw [hd]; unfold dvV; split <;> first | contradiction | rfl | (split <;> first | contradiction | rfl))]) ?_
      exact J_1 _ _ _ hH hS (lv_sub hl [0, 1, 2, 3, 4, 5, 6, 7, 8, 9, 10, 11, 12, 13, 14, 15, 16, 17, 18, 19, 20, 21] rfl)
  · intro H locs ls hH_2 hS_3 hl_4
    refine lv_istore (lv' := [(23, .int (nI d)), (0, .ref sb), (1, .ref (ac (0, 0, 0))), (2, .ref (ad (0, 0, 0))), (3, .ref (ad (1, 0, 0))), (4, .ref (ad (2, 0, 0))), (5, .ref (ad (3, 0, 0))), (6, .ref (ad (4, 0, 0))), (7, .ref (ad (5, 0, 0))), (8, .ref (ad (6, 0, 0))), (9, .ref (ad (7, 0, 0))), (10, .ref (ad (8, 0, 0))), (11, .ref (ad (9, 0, 0))), (12, .ref (ad (10, 0, 0))), (13, .int 1), (14, .int (nI k)), (16, .int (nI one)), (17, .int (nI two)), (18, .int (nI cl)), (19, .int (nI fd)), (20, .int (icV cl nc)), (21, .int (arV cl nc fd)), (22, .int (nI f))]) hx hb dL_law_1878 hl_4 (by decide) rfl (fun ls hl_7 => ?_)
    by_cases hok : dy + d ≤ 7200
    · refine lv_aload hx hb dL_law_1880 (lv_at hl_7 13 rfl) ?_
      refine lv_iconst (v := 0) hx hb dL_law_1882 (by decide) ?_
      refine ls_ild C hH_2 10 rfl (by decide) (j := 0) rfl (show 0 < 3 by omega) dL_law_1883 ?_
      refine W.eq (g2 := F0 m 1884 ls [.int (nI dy)]) (by rw [e0]) ?_
      refine lv_iload hx hb dL_law_1884 (lv_at hl_7 0 rfl) ?_
      refine lv_iadd hx hb dL_law_1886 ?_
      refine W.eq (g2 := F0 m 1887 ls [.int (nI (dy + d))]) (by rw [show ((nI dy) + (nI d) : Int32) = nI (dy + d) from (zi_add rfl rfl)]) ?_
      refine lv_sipush (v := 7200) hx hb dL_law_1887 (by decide) ?_
      refine lv_icmp_gt (tgt := 1897) hx hb dL_law_1890 (by decide) (fun c_8 => absurd c_8 (nI_gt hok (by decide))) (fun c_8 => ?_)
      refine lv_iconst (v := 1) hx hb dL_law_1893 (by decide) ?_
      refine lv_goto (tgt := 1898) hx hb dL_law_1894 (by decide) ?_
      refine lv_istore (lv' := [(24, .int 1), (23, .int (nI d)), (0, .ref sb), (1, .ref (ac (0, 0, 0))), (2, .ref (ad (0, 0, 0))), (3, .ref (ad (1, 0, 0))), (4, .ref (ad (2, 0, 0))), (5, .ref (ad (3, 0, 0))), (6, .ref (ad (4, 0, 0))), (7, .ref (ad (5, 0, 0))), (8, .ref (ad (6, 0, 0))), (9, .ref (ad (7, 0, 0))), (10, .ref (ad (8, 0, 0))), (11, .ref (ad (9, 0, 0))), (12, .ref (ad (10, 0, 0))), (13, .int 1), (14, .int (nI k)), (16, .int (nI one)), (17, .int (nI two)), (18, .int (nI cl)), (19, .int (nI fd)), (20, .int (icV cl nc)), (21, .int (arV cl nc fd)), (22, .int (nI f))]) hx hb dL_law_1898 hl_7 (by decide) rfl (fun ls hl_9 => ?_)
      refine lv_iconst (v := 0) hx hb dL_law_1900 (by decide) ?_
      refine lv_istore (lv' := [(25, .int 0), (24, .int 1), (23, .int (nI d)), (0, .ref sb), (1, .ref (ac (0, 0, 0))), (2, .ref (ad (0, 0, 0))), (3, .ref (ad (1, 0, 0))), (4, .ref (ad (2, 0, 0))), (5, .ref (ad (3, 0, 0))), (6, .ref (ad (4, 0, 0))), (7, .ref (ad (5, 0, 0))), (8, .ref (ad (6, 0, 0))), (9, .ref (ad (7, 0, 0))), (10, .ref (ad (8, 0, 0))), (11, .ref (ad (9, 0, 0))), (12, .ref (ad (10, 0, 0))), (13, .int 1), (14, .int (nI k)), (16, .int (nI one)), (17, .int (nI two)), (18, .int (nI cl)), (19, .int (nI fd)), (20, .int (icV cl nc)), (21, .int (arV cl nc fd)), (22, .int (nI f))]) hx hb dL_law_1901 hl_9 (by decide) rfl (fun ls hl_10 => ?_)
      refine z_at (n := d) (P := fun i_11 => zL p l e room_1 s m _ below meth c 33 D A _ (zk_sum 50 (cw cA (g 0) ac 6 nc nc 6 nt dy mo I L) (aw cA ad ((lnS nc nt dy Ia La i_11).1) ((lnS nc nt dy Ia La i_11).2))) cells slots 1903 [(0, .ref sb), (1, .ref (ac (0, 0, 0))), (2, .ref (ad (0, 0, 0))), (3, .ref (ad (1, 0, 0))), (4, .ref (ad (2, 0, 0))), (5, .ref (ad (3, 0, 0))), (6, .ref (ad (4, 0, 0))), (7, .ref (ad (5, 0, 0))), (8, .ref (ad (6, 0, 0))), (9, .ref (ad (7, 0, 0))), (10, .ref (ad (8, 0, 0))), (11, .ref (ad (9, 0, 0))), (12, .ref (ad (10, 0, 0))), (13, .int 1), (14, .int (nI k)), (16, .int (nI one)), (17, .int (nI two)), (18, .int (nI cl)), (19, .int (nI fd)), (20, .int (icV cl nc)), (21, .int (arV cl nc fd)), (22, .int (nI f)), (23, .int (nI d)), (24, .int 1), (25, .int (nI i_11))] []) 0 (Nat.zero_le _) (fun h => h _ _ _ hH_2 hS_3 (lv_sub hl_10 [3, 4, 5, 6, 7, 8, 9, 10, 11, 12, 13, 14, 15, 16, 17, 18, 19, 20, 21, 22, 23, 24, 2, 1, 0] rfl)) ?_ ?_
      · intro H locs ls hH_13 hS_14 hl_15
        refine lv_iload hx hb dL_law_1903 (lv_at hl_15 24 rfl) ?_
        refine lv_iload hx hb dL_law_1905 (lv_at hl_15 22 rfl) ?_
        refine lv_icmp_ge (tgt := 2109) hx hb dL_law_1907 (by decide) (fun c_16 => ?_) (fun c_16 => absurd (Int32.le_refl _) c_16)
        have hJd := J_days hJ (by omega) d hok
        obtain ⟨-, -, ⟨d0, -, -⟩, -⟩ := id hJd
        refine lv_aload_n hx hb dL_law_2109 rfl (lv_at hl_15 1 rfl) ?_
        refine lv_bipush (v := 8) hx hb dL_law_2110 (by decide) ?_
        refine lv_iload hx hb dL_law_2112 (lv_at hl_15 22 rfl) ?_
        refine lv_iconst (v := 0) hx hb dL_law_2114 (by decide) ?_
        refine lv_iconst (v := 0) hx hb dL_law_2115 (by decide) ?_
        refine zk_cl (zk_rSH (As := [.ref (ac (0, 0, 0)), .int 8, .int (nI d), .int 0, .int 0]) (rest := []) (n := 5) (w := zk_sum 50 (cw cA (g 0) ac 6 nc nc 6 nt dy mo I L) (aw cA ad ((lnS nc nt dy Ia La d).1) ((lnS nc nt dy Ia La d).2))) C (qd_pass l D cA A g ac nc nt dy mo I L _ hst d hdb.1 hdb.2 hok (by omega) hdy) hH_13 hS_14 gL_law_L_does rfl rfl (by decide +kernel) ⟨Nat.le_of_ble_eq_true rfl, Nat.le_of_ble_eq_true rfl⟩ hl_15 rfl (Nat.le_of_ble_eq_true rfl) dL_law_2116 ⟨by show cells + 1 ≤ 600104; omega, by show slots + 6 ≤ 7301314; omega⟩) hS_14 (fun r_17 w_18 H locs hP hH_19 hS_20 => ?_)
        obtain ⟨rfl, rfl⟩ := hP
        refine lv_iload hx hb dL_law_2119 (lv_at hl_15 23 rfl) ?_
        refine lv_if_eq (tgt := 2132) hx hb dL_law_2121 (by decide) (fun c_21 => absurd c_21 (by decide)) (fun c_21 => ?_)
        refine lv_aload hx hb dL_law_2124 (lv_at hl_15 12 rfl) ?_
        refine lv_iconst (v := 0) hx hb dL_law_2126 (by decide) ?_
        refine ls_ild C hH_19 10 rfl (by decide) (j := 0) rfl (show 0 < 3 by omega) dL_law_2127 ?_
        refine W.eq (g2 := F0 m 2128 ls [.int (nI (dy + d)), .long (Int32.toInt64 (nI (dy + d)))]) (by rw [d0]) ?_
        refine lv_i2l (v := Int32.toInt64 (nI (dy + d))) hx hb dL_law_2128 rfl ?_
        refine lv_goto (tgt := 2135) hx hb dL_law_2129 (by decide) ?_
        refine zl_cmp_ne (tgt := 2143) hx hb dL_law_2135 dL_law_2136 (by decide) (fun c_22 => absurd rfl c_22) (fun c_22 => ?_)
        refine lv_iconst (v := 1) hx hb dL_law_2139 (by decide) ?_
        refine lv_goto (tgt := 2144) hx hb dL_law_2140 (by decide) ?_
        refine lv_istore (lv' := [(13, .int 1), (0, .ref sb), (1, .ref (ac (0, 0, 0))), (2, .ref (ad (0, 0, 0))), (3, .ref (ad (1, 0, 0))), (4, .ref (ad (2, 0, 0))), (5, .ref (ad (3, 0, 0))), (6, .ref (ad (4, 0, 0))), (7, .ref (ad (5, 0, 0))), (8, .ref (ad (6, 0, 0))), (9, .ref (ad (7, 0, 0))), (10, .ref (ad (8, 0, 0))), (11, .ref (ad (9, 0, 0))), (12, .ref (ad (10, 0, 0))), (14, .int (nI k)), (16, .int (nI one)), (17, .int (nI two)), (18, .int (nI cl)), (19, .int (nI fd)), (20, .int (icV cl nc)), (21, .int (arV cl nc fd)), (22, .int (nI f)), (23, .int (nI d)), (24, .int 1), (25, .int (nI d))]) hx hb dL_law_2144 hl_15 (by decide) rfl (fun ls hl_23 => ?_)
        exact W.widen (by show cells + 1 ≤ cells + 30; omega) (by show slots + 6 ≤ slots + 2200; omega) (K ac nc nt (dy + d) ((epN nc dy I mo L d).2.1) I ((epN nc dy I mo L d).2.2) ((lnS nc nt dy Ia La d).1) ((lnS nc nt dy Ia La d).2) H locs ls hH_19 hS_20 (hJd.mono (by omega)) hc1 rfl (lv_sub hl_23 [1, 2, 3, 4, 5, 6, 7, 8, 9, 10, 11, 12, 13, 0, 14, 15, 16] rfl))
      · intro i_11 hi_11 ih_12 H locs ls hH_24 hS_25 hl_26
        refine lv_iload hx hb dL_law_1903 (lv_at hl_26 24 rfl) ?_
        refine lv_iload hx hb dL_law_1905 (lv_at hl_26 22 rfl) ?_
        refine lv_icmp_ge (tgt := 2109) hx hb dL_law_1907 (by decide) (fun c_27 => absurd c_27 (nI_ge hi_11 (by first | decide | omega))) (fun c_27 => ?_)
        refine lv_iload hx hb dL_law_1910 (lv_at hl_26 23 rfl) ?_
        refine lv_if_eq (tgt := 2109) hx hb dL_law_1912 (by decide) (fun c_28 => absurd c_28 (by decide)) (fun c_28 => ?_)
        have hJj := J_days hJ (by omega) i_11 (by omega)
        obtain ⟨Ij, hIj⟩ : ∃ X, X = (lnS nc nt dy Ia La i_11).1 := ⟨_, rfl⟩
        have hH_29 := hH_24
        rw [← hIj] at hH_29
        obtain ⟨Lj, hLj⟩ : ∃ X, X = (lnS nc nt dy Ia La i_11).2 := ⟨_, rfl⟩
        have hH_30 := hH_29
        rw [← hLj] at hH_30
        rw [← hIj, ← hLj] at hJj
        obtain ⟨-, -, ⟨j0, j1, j2⟩, jP, -⟩ := id hJj
        have jT := hJj.tr
        refine lv_iconst (v := 0) hx hb dL_law_1915 (by decide) ?_
        refine lv_istore (lv' := [(26, .int 0), (0, .ref sb), (1, .ref (ac (0, 0, 0))), (2, .ref (ad (0, 0, 0))), (3, .ref (ad (1, 0, 0))), (4, .ref (ad (2, 0, 0))), (5, .ref (ad (3, 0, 0))), (6, .ref (ad (4, 0, 0))), (7, .ref (ad (5, 0, 0))), (8, .ref (ad (6, 0, 0))), (9, .ref (ad (7, 0, 0))), (10, .ref (ad (8, 0, 0))), (11, .ref (ad (9, 0, 0))), (12, .ref (ad (10, 0, 0))), (13, .int 1), (14, .int (nI k)), (16, .int (nI one)), (17, .int (nI two)), (18, .int (nI cl)), (19, .int (nI fd)), (20, .int (icV cl nc)), (21, .int (arV cl nc fd)), (22, .int (nI f)), (23, .int (nI d)), (24, .int 1), (25, .int (nI i_11))]) hx hb dL_law_1916 hl_26 (by decide) rfl (fun ls hl_31 => ?_)
        refine z_at (n := n6) (P := fun i_32 => zL p l e room_1 s m _ below meth c 33 D A _ (zk_sum 50 (cw cA (g 0) ac 6 nc nc 6 nt dy mo I L) (aw cA ad Ij (dwS Ij Lj i_32))) cells slots 1918 [(0, .ref sb), (1, .ref (ac (0, 0, 0))), (2, .ref (ad (0, 0, 0))), (3, .ref (ad (1, 0, 0))), (4, .ref (ad (2, 0, 0))), (5, .ref (ad (3, 0, 0))), (6, .ref (ad (4, 0, 0))), (7, .ref (ad (5, 0, 0))), (8, .ref (ad (6, 0, 0))), (9, .ref (ad (7, 0, 0))), (10, .ref (ad (8, 0, 0))), (11, .ref (ad (9, 0, 0))), (12, .ref (ad (10, 0, 0))), (13, .int 1), (14, .int (nI k)), (16, .int (nI one)), (17, .int (nI two)), (18, .int (nI cl)), (19, .int (nI fd)), (20, .int (icV cl nc)), (21, .int (arV cl nc fd)), (22, .int (nI f)), (23, .int (nI d)), (24, .int 1), (25, .int (nI i_11)), (26, .int (nI i_32))] []) 0 (Nat.zero_le _) (fun h => h _ _ _ hH_30 hS_25 (lv_sub hl_31 [1, 2, 3, 4, 5, 6, 7, 8, 9, 10, 11, 12, 13, 14, 15, 16, 17, 18, 19, 20, 21, 22, 23, 24, 25, 0] rfl)) ?_ ?_
        · intro H locs ls hH_34 hS_35 hl_36
          refine lv_iload hx hb dL_law_1918 (lv_at hl_36 25 rfl) ?_
          refine lv_bipush (v := 6) hx hb dL_law_1920 (by decide) ?_
          refine lv_icmp_ge (tgt := 1984) hx hb dL_law_1922 (by decide) (fun c_37 => ?_) (fun c_37 => absurd (by rw [hn6]; exact Int32.le_refl _) c_37)
          refine lv_aload hx hb dL_law_1984 (lv_at hl_36 12 rfl) ?_
          refine lv_iconst (v := 0) hx hb dL_law_1986 (by decide) ?_
          refine lv_dup2_11 hx hb dL_law_1987 rfl rfl ?_
          refine ls_ild C hH_34 10 rfl (by decide) (j := 0) rfl (show 0 < 3 by omega) dL_law_1988 ?_
          refine W.eq (g2 := F0 m 1989 ls [.int (nI (dy + i_11)), .int 0, .ref (ad (10, 0, 0))]) (by rw [j0]) ?_
          refine lv_iconst (v := 1) hx hb dL_law_1989 (by decide) ?_
          refine lv_iadd hx hb dL_law_1990 ?_
          refine W.eq (g2 := F0 m 1991 ls [.int (nI ((dy + i_11) + 1)), .int 0, .ref (ad (10, 0, 0))]) (by rw [show ((nI (dy + i_11)) + 1 : Int32) = nI ((dy + i_11) + 1) from (zi_add rfl rfl)]) ?_
          refine ls_ist C hH_34 hS_35 10 rfl (by decide) (j := 0) rfl (show 0 < 3 by omega) dL_law_1991 (fun H locs hH_38 hS_39 => ?_)
          have hH_40 : zk_H D A (zk_sum 50 (cw cA (g 0) ac 6 nc nc 6 nt dy mo I L) (aw cA ad (ldI Ij (dy + i_11)) (dwS Ij Lj n6))) H := hH_38
          obtain ⟨I2, hI2⟩ : ∃ X, X = ldI Ij (dy + i_11) := ⟨_, rfl⟩
          have hH_41 := hH_40
          rw [← hI2] at hH_41
          obtain ⟨D6, hD6⟩ : ∃ X, X = dwS Ij Lj n6 := ⟨_, rfl⟩
          have hH_42 := hH_41
          rw [← hD6] at hH_42
          have k0 : I2 10 0 = nI (dy + i_11 + 1) := by rw [hI2]; exact up2_s _ _ _ _
          have kA : ∀ a, a ≠ 0 → I2 10 a = Ij 10 a := fun a ha => by rw [hI2]; exact up2_i ha _
          have k1 : I2 10 1 = nI nc := (kA 1 (by decide)).trans j1
          have k2 : I2 10 2 = nI nt := (kA 2 (by decide)).trans j2
          have kT : ∀ k, k < nt → zD (I2 4 k) 1048576 := fun k hk => by
            rw [hI2, show ldI Ij (dy + i_11) 4 = Ij 4 from up2_a (by decide)]
            exact jT k hk
          refine lv_iconst (v := 0) hx hb dL_law_1992 (by decide) ?_
          refine lv_istore (lv' := [(26, .int 0), (0, .ref sb), (1, .ref (ac (0, 0, 0))), (2, .ref (ad (0, 0, 0))), (3, .ref (ad (1, 0, 0))), (4, .ref (ad (2, 0, 0))), (5, .ref (ad (3, 0, 0))), (6, .ref (ad (4, 0, 0))), (7, .ref (ad (5, 0, 0))), (8, .ref (ad (6, 0, 0))), (9, .ref (ad (7, 0, 0))), (10, .ref (ad (8, 0, 0))), (11, .ref (ad (9, 0, 0))), (12, .ref (ad (10, 0, 0))), (13, .int 1), (14, .int (nI k)), (16, .int (nI one)), (17, .int (nI two)), (18, .int (nI cl)), (19, .int (nI fd)), (20, .int (icV cl nc)), (21, .int (arV cl nc fd)), (22, .int (nI f)), (23, .int (nI d)), (24, .int 1), (25, .int (nI i_11))]) hx hb dL_law_1993 hl_36 (by decide) rfl (fun ls hl_43 => ?_)
          by_cases hz : (dy + i_11 + 1) % 360 = 0
          · refine z_at (n := nc) (P := fun i_44 => zL p l e room_1 s m _ below meth c 33 D A _ (zk_sum 50 (cw cA (g 0) ac 6 nc nc 6 nt dy mo I L) (aw cA ad I2 (dcS I2 D6 nt ((dy + i_11 + 1) / 360) i_44))) cells slots 1995 [(0, .ref sb), (1, .ref (ac (0, 0, 0))), (2, .ref (ad (0, 0, 0))), (3, .ref (ad (1, 0, 0))), (4, .ref (ad (2, 0, 0))), (5, .ref (ad (3, 0, 0))), (6, .ref (ad (4, 0, 0))), (7, .ref (ad (5, 0, 0))), (8, .ref (ad (6, 0, 0))), (9, .ref (ad (7, 0, 0))), (10, .ref (ad (8, 0, 0))), (11, .ref (ad (9, 0, 0))), (12, .ref (ad (10, 0, 0))), (13, .int 1), (14, .int (nI k)), (16, .int (nI one)), (17, .int (nI two)), (18, .int (nI cl)), (19, .int (nI fd)), (20, .int (icV cl nc)), (21, .int (arV cl nc fd)), (22, .int (nI f)), (23, .int (nI d)), (24, .int 1), (25, .int (nI i_11)), (26, .int (nI i_44))] []) 0 (Nat.zero_le _) (fun h => h _ _ _ hH_42 hS_39 (lv_sub hl_43 [1, 2, 3, 4, 5, 6, 7, 8, 9, 10, 11, 12, 13, 14, 15, 16, 17, 18, 19, 20, 21, 22, 23, 24, 25, 0] rfl)) ?_ ?_
            · intro H locs ls hH_46 hS_47 hl_48
              refine lv_iload hx hb dL_law_1995 (lv_at hl_48 25 rfl) ?_
              refine lv_aload hx hb dL_law_1997 (lv_at hl_48 12 rfl) ?_
              refine lv_iconst (v := 1) hx hb dL_law_1999 (by decide) ?_
              refine ls_ild C hH_46 10 rfl (by decide) (j := 1) rfl (show 1 < 3 by omega) dL_law_2000 ?_
              refine W.eq (g2 := F0 m 2001 ls [.int (nI nc), .int (nI nc)]) (by rw [k1]) ?_
              refine lv_icmp_ge (tgt := 2103) hx hb dL_law_2001 (by decide) (fun c_49 => ?_) (fun c_49 => absurd (Int32.le_refl _) c_49)
              refine lv_iinc (v := nI (i_11 + 1)) (lv' := [(25, .int (nI (i_11 + 1))), (0, .ref sb), (1, .ref (ac (0, 0, 0))), (2, .ref (ad (0, 0, 0))), (3, .ref (ad (1, 0, 0))), (4, .ref (ad (2, 0, 0))), (5, .ref (ad (3, 0, 0))), (6, .ref (ad (4, 0, 0))), (7, .ref (ad (5, 0, 0))), (8, .ref (ad (6, 0, 0))), (9, .ref (ad (7, 0, 0))), (10, .ref (ad (8, 0, 0))), (11, .ref (ad (9, 0, 0))), (12, .ref (ad (10, 0, 0))), (13, .int 1), (14, .int (nI k)), (16, .int (nI one)), (17, .int (nI two)), (18, .int (nI cl)), (19, .int (nI fd)), (20, .int (icV cl nc)), (21, .int (arV cl nc fd)), (22, .int (nI f)), (23, .int (nI d)), (24, .int 1), (26, .int (nI nc))]) hx hb dL_law_2103 hl_48 (k := 24) rfl (nI_1 i_11) (by decide) rfl (fun ls hl_50 => ?_)
              refine lv_goto (tgt := 1903) hx hb dL_law_2106 (by decide) ?_
              have x1 : (lnS nc nt dy Ia La (i_11 + 1)).1 = I2 := by rw [hI2, hIj]; rfl
              have x2 : (lnS nc nt dy Ia La (i_11 + 1)).2 = dcS I2 D6 nt ((dy + i_11 + 1) / 360) nc := by
                show ldL (lnS nc nt dy Ia La i_11).1 (lnS nc nt dy Ia La i_11).2 nc nt (dy + i_11) = _
                rw [← hIj, ← hLj]
                unfold ldL
                rw [if_pos hz, ← hn6, ← hD6, ← hI2]
              exact ih_12 _ _ _ (by rw [x1, x2]; exact hH_46) hS_47 (lv_sub hl_50 [1, 2, 3, 4, 5, 6, 7, 8, 9, 10, 11, 12, 13, 14, 15, 16, 17, 18, 19, 20, 21, 22, 23, 24, 0] rfl)
            · intro i_44 hi_44 ih_45 H locs ls hH_51 hS_52 hl_53
              refine lv_iload hx hb dL_law_1995 (lv_at hl_53 25 rfl) ?_
              refine lv_aload hx hb dL_law_1997 (lv_at hl_53 12 rfl) ?_
              refine lv_iconst (v := 1) hx hb dL_law_1999 (by decide) ?_
              refine ls_ild C hH_51 10 rfl (by decide) (j := 1) rfl (show 1 < 3 by omega) dL_law_2000 ?_
              refine W.eq (g2 := F0 m 2001 ls [.int (nI nc), .int (nI i_44)]) (by rw [k1]) ?_
              refine lv_icmp_ge (tgt := 2103) hx hb dL_law_2001 (by decide) (fun c_54 => absurd c_54 (nI_ge hi_44 (by first | decide | omega))) (fun c_54 => ?_)
              refine lv_aload hx hb dL_law_2004 (lv_at hl_53 12 rfl) ?_
              refine lv_iconst (v := 0) hx hb dL_law_2006 (by decide) ?_
              refine ls_ild C hH_51 10 rfl (by decide) (j := 0) rfl (show 0 < 3 by omega) dL_law_2007 ?_
              refine W.eq (g2 := F0 m 2008 ls [.int (nI (dy + i_11 + 1))]) (by rw [k0]) ?_
              refine lv_sipush (v := 360) hx hb dL_law_2008 (by decide) ?_
              refine lv_irem hx hb dL_law_2011 (by decide) ?_
              refine W.eq (g2 := F0 m 2012 ls [.int (nI ((dy + i_11 + 1) % 360))]) (by rw [show ((nI (dy + i_11 + 1)) - (nI (dy + i_11 + 1)) / 360 * 360 : Int32) = nI ((dy + i_11 + 1) % 360) from (zi_rem rfl (b := 360) rfl (by omega) (by decide) (by decide))]) ?_
              refine lv_if_ne (tgt := 2103) hx hb dL_law_2012 (by decide) (fun c_55 => absurd ((nI_k0 (by omega)).mpr hz) c_55) (fun c_55 => ?_)
              refine lv_aload hx hb dL_law_2015 (lv_at hl_53 6 rfl) ?_
              refine lv_aload hx hb dL_law_2017 (lv_at hl_53 7 rfl) ?_
              refine lv_aload hx hb dL_law_2019 (lv_at hl_53 8 rfl) ?_
              refine lv_aload hx hb dL_law_2021 (lv_at hl_53 12 rfl) ?_
              refine lv_aload hx hb dL_law_2023 (lv_at hl_53 10 rfl) ?_
              refine lv_aload hx hb dL_law_2025 (lv_at hl_53 11 rfl) ?_
              refine lv_iload hx hb dL_law_2027 (lv_at hl_53 25 rfl) ?_
              refine zk_cv (zk_rS (As := [.ref (ad (4, 0, 0)), .ref (ad (5, 0, 0)), .ref (ad (6, 0, 0)), .ref (ad (10, 0, 0)), .ref (ad (8, 0, 0)), .ref (ad (9, 0, 0)), .int (nI i_44)]) (rest := []) (n := 7) (w := zk_sum 50 (cw cA (g 0) ac 6 nc nc 6 nt dy mo I L) (aw cA ad I2 (dcS I2 D6 nt ((dy + i_11 + 1) / 360) i_44))) C (zM_Rv (n := 50) (w1 := cw cA (g 0) ac 6 nc nc 6 nt dy mo I L) (fun A_ => (cH_taxes l D cA A_ g ad I2 (dcS I2 D6 nt ((dy + i_11 + 1) / 360) i_44) nt i_44 k2 hn30 (by omega) kT)) cw_lt A) hH_51 hS_52 gL_law_L_taxes rfl rfl (by decide +kernel) ⟨Nat.le_of_ble_eq_true rfl, Nat.le_of_ble_eq_true rfl⟩ hl_53 rfl (Nat.le_of_ble_eq_true rfl) dL_law_2029 ⟨by show cells + 0 ≤ 600104; omega, by show slots + 0 ≤ 7301314; omega⟩) hS_52 (fun w_57 H locs hP hH_58 hS_59 => ?_)
              obtain ⟨w2_, hP, rfl⟩ := hP
              subst hP
              refine lv_aload hx hb dL_law_2032 (lv_at hl_53 9 rfl) ?_
              refine lv_bipush (v := 21) hx hb dL_law_2034 (by decide) ?_
              refine lv_iload hx hb dL_law_2036 (lv_at hl_53 25 rfl) ?_
              refine lv_imul hx hb dL_law_2038 ?_
              refine lv_aload hx hb dL_law_2039 (lv_at hl_53 12 rfl) ?_
              refine lv_iconst (v := 0) hx hb dL_law_2041 (by decide) ?_
              refine ls_ild C hH_58 10 rfl (by decide) (j := 0) rfl (show 0 < 3 by omega) dL_law_2042 ?_
              refine W.eq (g2 := F0 m 2043 ls [.int (nI (dy + i_11 + 1)), .int (21 * (nI i_44)), .ref (ad (7, 0, 0))]) (by rw [k0]) ?_
              refine lv_sipush (v := 360) hx hb dL_law_2043 (by decide) ?_
              refine lv_idiv hx hb dL_law_2046 (by decide) ?_
              refine W.eq (g2 := F0 m 2047 ls [.int (nI ((dy + i_11 + 1) / 360)), .int (21 * (nI i_44)), .ref (ad (7, 0, 0))]) (by rw [show ((nI (dy + i_11 + 1)) / 360 : Int32) = nI ((dy + i_11 + 1) / 360) from (zi_div rfl (b := 360) rfl (by omega) (by decide) (by decide))]) ?_
              refine lv_iadd hx hb dL_law_2047 ?_
              refine W.eq (g2 := F0 m 2048 ls [.int (nI ((21 * i_44) + ((dy + i_11 + 1) / 360))), .ref (ad (7, 0, 0))]) (by rw [show ((21 * (nI i_44)) + (nI ((dy + i_11 + 1) / 360)) : Int32) = nI ((21 * i_44) + ((dy + i_11 + 1) / 360)) from (zi_add (zi_mul rfl rfl) rfl)]) ?_
              refine lv_iconst (v := 1) hx hb dL_law_2048 (by decide) ?_
              refine lv_isub hx hb dL_law_2049 ?_
              refine W.eq (g2 := F0 m 2050 ls [.int (nI (21 * i_44 + ((dy + i_11 + 1) / 360) - 1)), .ref (ad (7, 0, 0))]) (by rw [show (1 : Int32) = nI 1 from rfl, pk_sub (by omega)]) ?_
              refine lv_aload hx hb dL_law_2050 (lv_at hl_53 11 rfl) ?_
              refine lv_bipush (v := 21) hx hb dL_law_2052 (by decide) ?_
              refine lv_aload hx hb dL_law_2054 (lv_at hl_53 12 rfl) ?_
              refine lv_iconst (v := 0) hx hb dL_law_2056 (by decide) ?_
              refine ls_ild C hH_58 10 rfl (by decide) (j := 0) rfl (show 0 < 3 by omega) dL_law_2057 ?_
              refine W.eq (g2 := F0 m 2058 ls [.int (nI (dy + i_11 + 1)), .int 21, .ref (ad (9, 0, 0)), .int (nI (21 * i_44 + ((dy + i_11 + 1) / 360) - 1)), .ref (ad (7, 0, 0))]) (by rw [k0]) ?_
              refine lv_sipush (v := 360) hx hb dL_law_2058 (by decide) ?_
              refine lv_idiv hx hb dL_law_2061 (by decide) ?_
              refine W.eq (g2 := F0 m 2062 ls [.int (nI ((dy + i_11 + 1) / 360)), .int 21, .ref (ad (9, 0, 0)), .int (nI (21 * i_44 + ((dy + i_11 + 1) / 360) - 1)), .ref (ad (7, 0, 0))]) (by rw [show ((nI (dy + i_11 + 1)) / 360 : Int32) = nI ((dy + i_11 + 1) / 360) from (zi_div rfl (b := 360) rfl (by omega) (by decide) (by decide))]) ?_
              refine lv_iadd hx hb dL_law_2062 ?_
              refine W.eq (g2 := F0 m 2063 ls [.int (nI (21 + ((dy + i_11 + 1) / 360))), .ref (ad (9, 0, 0)), .int (nI (21 * i_44 + ((dy + i_11 + 1) / 360) - 1)), .ref (ad (7, 0, 0))]) (by rw [show (21 + (nI ((dy + i_11 + 1) / 360)) : Int32) = nI (21 + ((dy + i_11 + 1) / 360)) from (zi_add rfl rfl)]) ?_
              refine ls_lld C hH_58 9 rfl (by decide) (j := (21 + ((dy + i_11 + 1) / 360))) rfl (show (21 + ((dy + i_11 + 1) / 360)) < 64 by omega) dL_law_2063 ?_
              refine lv_ldc2 (v := 4) hx hb hown (hts (.constantLong RL 118 4) (by decide +kernel)) dL_law_2064 ?_
              refine lv_ldiv hx hb dL_law_2067 (by decide) ?_
              refine ls_lst C hH_58 hS_59 7 rfl (by decide) (j := (21 * i_44 + ((dy + i_11 + 1) / 360) - 1)) rfl (show (21 * i_44 + ((dy + i_11 + 1) / 360) - 1) < 63 by omega) dL_law_2068 (fun H locs hH_60 hS_61 => ?_)
              refine lv_aload_n hx hb dL_law_2069 rfl (lv_at hl_53 3 rfl) ?_
              refine lv_bipush (v := 12) hx hb dL_law_2070 (by decide) ?_
              refine lv_iload hx hb dL_law_2072 (lv_at hl_53 25 rfl) ?_
              refine lv_iadd hx hb dL_law_2074 ?_
              refine W.eq (g2 := F0 m 2075 ls [.int (nI (12 + i_44)), .ref (ad (1, 0, 0))]) (by rw [show (12 + (nI i_44) : Int32) = nI (12 + i_44) from (zi_add rfl rfl)]) ?_
              refine lv_dup2_11 hx hb dL_law_2075 rfl rfl ?_
              refine ls_lld C hH_60 1 rfl (by decide) (j := (12 + i_44)) rfl (show (12 + i_44) < 16 by omega) dL_law_2076 ?_
              refine lv_aload hx hb dL_law_2077 (lv_at hl_53 11 rfl) ?_
              refine lv_bipush (v := 21) hx hb dL_law_2079 (by decide) ?_
              refine lv_aload hx hb dL_law_2081 (lv_at hl_53 12 rfl) ?_
              refine lv_iconst (v := 0) hx hb dL_law_2083 (by decide) ?_
              refine ls_ild C hH_60 10 rfl (by decide) (j := 0) rfl (show 0 < 3 by omega) dL_law_2084 ?_
              refine W.eq (g2 := F0 m 2085 ls [.int (nI (dy + i_11 + 1)), .int 21, .ref (ad (9, 0, 0)), .long ((up2 (taxL I2 (dcS I2 D6 nt ((dy + i_11 + 1) / 360) i_44) i_44 nt) 7 (21 * i_44 + ((dy + i_11 + 1) / 360) - 1) (((taxL I2 (dcS I2 D6 nt ((dy + i_11 + 1) / 360) i_44) i_44 nt) 9 (21 + ((dy + i_11 + 1) / 360))) / 4)) 1 (12 + i_44)), .int (nI (12 + i_44)), .ref (ad (1, 0, 0))]) (by rw [k0]) ?_
              refine lv_sipush (v := 360) hx hb dL_law_2085 (by decide) ?_
              refine lv_idiv hx hb dL_law_2088 (by decide) ?_
              refine W.eq (g2 := F0 m 2089 ls [.int (nI ((dy + i_11 + 1) / 360)), .int 21, .ref (ad (9, 0, 0)), .long ((up2 (taxL I2 (dcS I2 D6 nt ((dy + i_11 + 1) / 360) i_44) i_44 nt) 7 (21 * i_44 + ((dy + i_11 + 1) / 360) - 1) (((taxL I2 (dcS I2 D6 nt ((dy + i_11 + 1) / 360) i_44) i_44 nt) 9 (21 + ((dy + i_11 + 1) / 360))) / 4)) 1 (12 + i_44)), .int (nI (12 + i_44)), .ref (ad (1, 0, 0))]) (by rw [show ((nI (dy + i_11 + 1)) / 360 : Int32) = nI ((dy + i_11 + 1) / 360) from (zi_div rfl (b := 360) rfl (by omega) (by decide) (by decide))]) ?_
              refine lv_iadd hx hb dL_law_2089 ?_
              refine W.eq (g2 := F0 m 2090 ls [.int (nI (21 + ((dy + i_11 + 1) / 360))), .ref (ad (9, 0, 0)), .long ((up2 (taxL I2 (dcS I2 D6 nt ((dy + i_11 + 1) / 360) i_44) i_44 nt) 7 (21 * i_44 + ((dy + i_11 + 1) / 360) - 1) (((taxL I2 (dcS I2 D6 nt ((dy + i_11 + 1) / 360) i_44) i_44 nt) 9 (21 + ((dy + i_11 + 1) / 360))) / 4)) 1 (12 + i_44)), .int (nI (12 + i_44)), .ref (ad (1, 0, 0))]) (by rw [show (21 + (nI ((dy + i_11 + 1) / 360)) : Int32) = nI (21 + ((dy + i_11 + 1) / 360)) from (zi_add rfl rfl)]) ?_
              refine ls_lld C hH_60 9 rfl (by decide) (j := (21 + ((dy + i_11 + 1) / 360))) rfl (show (21 + ((dy + i_11 + 1) / 360)) < 64 by omega) dL_law_2090 ?_
              refine lv_ldc2 (v := 4) hx hb hown (hts (.constantLong RL 118 4) (by decide +kernel)) dL_law_2091 ?_
              refine lv_ldiv hx hb dL_law_2094 (by decide) ?_
              refine lv_lsub hx hb dL_law_2095 ?_
              refine ls_lst C hH_60 hS_61 1 rfl (by decide) (j := (12 + i_44)) rfl (show (12 + i_44) < 16 by omega) dL_law_2096 (fun H locs hH_62 hS_63 => ?_)
              refine lv_iinc (v := nI (i_44 + 1)) (lv' := [(26, .int (nI (i_44 + 1))), (0, .ref sb), (1, .ref (ac (0, 0, 0))), (2, .ref (ad (0, 0, 0))), (3, .ref (ad (1, 0, 0))), (4, .ref (ad (2, 0, 0))), (5, .ref (ad (3, 0, 0))), (6, .ref (ad (4, 0, 0))), (7, .ref (ad (5, 0, 0))), (8, .ref (ad (6, 0, 0))), (9, .ref (ad (7, 0, 0))), (10, .ref (ad (8, 0, 0))), (11, .ref (ad (9, 0, 0))), (12, .ref (ad (10, 0, 0))), (13, .int 1), (14, .int (nI k)), (16, .int (nI one)), (17, .int (nI two)), (18, .int (nI cl)), (19, .int (nI fd)), (20, .int (icV cl nc)), (21, .int (arV cl nc fd)), (22, .int (nI f)), (23, .int (nI d)), (24, .int 1), (25, .int (nI i_11))]) hx hb dL_law_2097 hl_53 (k := 25) rfl (nI_1 i_44) (by decide) rfl (fun ls hl_64 => ?_)
              refine lv_goto (tgt := 1995) hx hb dL_law_2100 (by decide) ?_
              exact ih_45 _ _ _ hH_62 hS_63 (lv_sub hl_64 [1, 2, 3, 4, 5, 6, 7, 8, 9, 10, 11, 12, 13, 14, 15, 16, 17, 18, 19, 20, 21, 22, 23, 24, 25, 0] rfl)
          · refine lv_iload hx hb dL_law_1995 (lv_at hl_43 0 rfl) ?_
            refine lv_aload hx hb dL_law_1997 (lv_at hl_43 13 rfl) ?_
            refine lv_iconst (v := 1) hx hb dL_law_1999 (by decide) ?_
            refine ls_ild C hH_42 10 rfl (by decide) (j := 1) rfl (show 1 < 3 by omega) dL_law_2000 ?_
            refine W.eq (g2 := F0 m 2001 ls [.int (nI nc), .int 0]) (by rw [k1]) ?_
            refine lv_icmp_ge (tgt := 2103) hx hb dL_law_2001 (by decide) (fun c_65 => absurd c_65 (fun z => absurd ((nI_leI (by omega) (by decide)).mp (show nI nc ≤ nI 0 from z)) (by omega))) (fun c_65 => ?_)
            refine lv_aload hx hb dL_law_2004 (lv_at hl_43 13 rfl) ?_
            refine lv_iconst (v := 0) hx hb dL_law_2006 (by decide) ?_
            refine ls_ild C hH_42 10 rfl (by decide) (j := 0) rfl (show 0 < 3 by omega) dL_law_2007 ?_
            refine W.eq (g2 := F0 m 2008 ls [.int (nI (dy + i_11 + 1))]) (by rw [k0]) ?_
            refine lv_sipush (v := 360) hx hb dL_law_2008 (by decide) ?_
            refine lv_irem hx hb dL_law_2011 (by decide) ?_
            refine W.eq (g2 := F0 m 2012 ls [.int (nI ((dy + i_11 + 1) % 360))]) (by rw [show ((nI (dy + i_11 + 1)) - (nI (dy + i_11 + 1)) / 360 * 360 : Int32) = nI ((dy + i_11 + 1) % 360) from (zi_rem rfl (b := 360) rfl (by omega) (by decide) (by decide))]) ?_
            refine lv_if_ne (tgt := 2103) hx hb dL_law_2012 (by decide) (fun c_66 => ?_) (fun c_66 => absurd ((nI_k0 (by omega)).mp c_66) hz)
            refine lv_iinc (v := nI (i_11 + 1)) (lv' := [(25, .int (nI (i_11 + 1))), (26, .int 0), (0, .ref sb), (1, .ref (ac (0, 0, 0))), (2, .ref (ad (0, 0, 0))), (3, .ref (ad (1, 0, 0))), (4, .ref (ad (2, 0, 0))), (5, .ref (ad (3, 0, 0))), (6, .ref (ad (4, 0, 0))), (7, .ref (ad (5, 0, 0))), (8, .ref (ad (6, 0, 0))), (9, .ref (ad (7, 0, 0))), (10, .ref (ad (8, 0, 0))), (11, .ref (ad (9, 0, 0))), (12, .ref (ad (10, 0, 0))), (13, .int 1), (14, .int (nI k)), (16, .int (nI one)), (17, .int (nI two)), (18, .int (nI cl)), (19, .int (nI fd)), (20, .int (icV cl nc)), (21, .int (arV cl nc fd)), (22, .int (nI f)), (23, .int (nI d)), (24, .int 1)]) hx hb dL_law_2103 hl_43 (k := 25) rfl (nI_1 i_11) (by decide) rfl (fun ls hl_67 => ?_)
            refine lv_goto (tgt := 1903) hx hb dL_law_2106 (by decide) ?_
            have x1 : (lnS nc nt dy Ia La (i_11 + 1)).1 = I2 := by rw [hI2, hIj]; rfl
            have x2 : (lnS nc nt dy Ia La (i_11 + 1)).2 = D6 := by
              show ldL (lnS nc nt dy Ia La i_11).1 (lnS nc nt dy Ia La i_11).2 nc nt (dy + i_11) = _
              rw [← hIj, ← hLj]
              unfold ldL
              rw [if_neg hz, ← hn6, ← hD6]
            exact ih_12 _ _ _ (by rw [x1, x2]; exact hH_42) hS_39 (lv_sub hl_67 [2, 3, 4, 5, 6, 7, 8, 9, 10, 11, 12, 13, 14, 15, 16, 17, 18, 19, 20, 21, 22, 23, 24, 25, 0] rfl)
        · intro i_32 hi_32 ih_33 H locs ls hH_68 hS_69 hl_70
          refine lv_iload hx hb dL_law_1918 (lv_at hl_70 25 rfl) ?_
          refine lv_bipush (v := 6) hx hb dL_law_1920 (by decide) ?_
          refine lv_icmp_ge (tgt := 1984) hx hb dL_law_1922 (by decide) (fun c_71 => absurd c_71 (nI_ge (b := 6) (by omega) (by omega))) (fun c_71 => ?_)
          refine lv_aload_n hx hb dL_law_1925 rfl (lv_at hl_70 3 rfl) ?_
          refine lv_bipush (v := 6) hx hb dL_law_1926 (by decide) ?_
          refine lv_iload hx hb dL_law_1928 (lv_at hl_70 25 rfl) ?_
          refine lv_iadd hx hb dL_law_1930 ?_
          refine W.eq (g2 := F0 m 1931 ls [.int (nI (6 + i_32)), .ref (ad (1, 0, 0))]) (by rw [show (6 + (nI i_32) : Int32) = nI (6 + i_32) from (zi_add rfl rfl)]) ?_
          refine ls_lld C hH_68 1 rfl (by decide) (j := (6 + i_32)) rfl (show (6 + i_32) < 16 by omega) dL_law_1931 ?_
          refine lv_ldc2 (v := 1000) hx hb hown (hts (.constantLong RL 81 1000) (by decide +kernel)) dL_law_1932 ?_
          refine lv_ldiv hx hb dL_law_1935 (by decide) ?_
          refine lv_lstore (lv' := [(27, .long (((dwS Ij Lj i_32) 1 (6 + i_32)) / 1000)), (0, .ref sb), (1, .ref (ac (0, 0, 0))), (2, .ref (ad (0, 0, 0))), (3, .ref (ad (1, 0, 0))), (4, .ref (ad (2, 0, 0))), (5, .ref (ad (3, 0, 0))), (6, .ref (ad (4, 0, 0))), (7, .ref (ad (5, 0, 0))), (8, .ref (ad (6, 0, 0))), (9, .ref (ad (7, 0, 0))), (10, .ref (ad (8, 0, 0))), (11, .ref (ad (9, 0, 0))), (12, .ref (ad (10, 0, 0))), (13, .int 1), (14, .int (nI k)), (16, .int (nI one)), (17, .int (nI two)), (18, .int (nI cl)), (19, .int (nI fd)), (20, .int (icV cl nc)), (21, .int (arV cl nc fd)), (22, .int (nI f)), (23, .int (nI d)), (24, .int 1), (25, .int (nI i_11)), (26, .int (nI i_32))]) hx hb dL_law_1936 hl_70 (by decide) rfl (fun ls hl_72 => ?_)
          refine lv_aload_n hx hb dL_law_1938 rfl (lv_at hl_72 4 rfl) ?_
          refine lv_iload hx hb dL_law_1939 (lv_at hl_72 26 rfl) ?_
          refine lv_dup2_11 hx hb dL_law_1941 rfl rfl ?_
          refine ls_lld C hH_68 1 rfl (by decide) (j := i_32) rfl (show i_32 < 16 by omega) dL_law_1942 ?_
          refine lv_lload hx hb dL_law_1943 (lv_at hl_72 0 rfl) ?_
          refine lv_lsub hx hb dL_law_1945 ?_
          refine ls_lst C hH_68 hS_69 1 rfl (by decide) (j := i_32) rfl (show i_32 < 16 by omega) dL_law_1946 (fun H locs hH_73 hS_74 => ?_)
          refine lv_aload_n hx hb dL_law_1947 rfl (lv_at hl_72 4 rfl) ?_
          refine lv_bipush (v := 6) hx hb dL_law_1948 (by decide) ?_
          refine lv_iload hx hb dL_law_1950 (lv_at hl_72 26 rfl) ?_
          refine lv_iadd hx hb dL_law_1952 ?_
          refine W.eq (g2 := F0 m 1953 ls [.int (nI (6 + i_32)), .ref (ad (1, 0, 0))]) (by rw [show (6 + (nI i_32) : Int32) = nI (6 + i_32) from (zi_add rfl rfl)]) ?_
          refine lv_dup2_11 hx hb dL_law_1953 rfl rfl ?_
          refine ls_lld C hH_73 1 rfl (by decide) (j := (6 + i_32)) rfl (show (6 + i_32) < 16 by omega) dL_law_1954 ?_
          refine lv_ldc2 (v := 1000) hx hb hown (hts (.constantLong RL 81 1000) (by decide +kernel)) dL_law_1955 ?_
          refine lv_lload hx hb dL_law_1958 (lv_at hl_72 0 rfl) ?_
          refine lv_lmul hx hb dL_law_1960 ?_
          refine lv_lsub hx hb dL_law_1961 ?_
          refine ls_lst C hH_73 hS_74 1 rfl (by decide) (j := (6 + i_32)) rfl (show (6 + i_32) < 16 by omega) dL_law_1962 (fun H locs hH_75 hS_76 => ?_)
          refine lv_aload_n hx hb dL_law_1963 rfl (lv_at hl_72 4 rfl) ?_
          refine lv_bipush (v := 15) hx hb dL_law_1964 (by decide) ?_
          refine lv_dup2_11 hx hb dL_law_1966 rfl rfl ?_
          refine ls_lld C hH_75 1 rfl (by decide) (j := 15) rfl (show 15 < 16 by omega) dL_law_1967 ?_
          refine lv_lload hx hb dL_law_1968 (lv_at hl_72 0 rfl) ?_
          refine lv_aload_n hx hb dL_law_1970 rfl (lv_at hl_72 3 rfl) ?_
          refine lv_iload hx hb dL_law_1971 (lv_at hl_72 26 rfl) ?_
          refine ls_ild C hH_75 0 rfl (by decide) (j := i_32) rfl (show i_32 < 6 by omega) dL_law_1973 ?_
          refine lv_i2l (v := Int32.toInt64 (Ij 0 i_32)) hx hb dL_law_1974 rfl ?_
          refine lv_lmul hx hb dL_law_1975 ?_
          refine lv_ladd hx hb dL_law_1976 ?_
          refine ls_lst C hH_75 hS_76 1 rfl (by decide) (j := 15) rfl (show 15 < 16 by omega) dL_law_1977 (fun H locs hH_77 hS_78 => ?_)
          refine lv_iinc (v := nI (i_32 + 1)) (lv' := [(26, .int (nI (i_32 + 1))), (27, .long (((dwS Ij Lj i_32) 1 (6 + i_32)) / 1000)), (0, .ref sb), (1, .ref (ac (0, 0, 0))), (2, .ref (ad (0, 0, 0))), (3, .ref (ad (1, 0, 0))), (4, .ref (ad (2, 0, 0))), (5, .ref (ad (3, 0, 0))), (6, .ref (ad (4, 0, 0))), (7, .ref (ad (5, 0, 0))), (8, .ref (ad (6, 0, 0))), (9, .ref (ad (7, 0, 0))), (10, .ref (ad (8, 0, 0))), (11, .ref (ad (9, 0, 0))), (12, .ref (ad (10, 0, 0))), (13, .int 1), (14, .int (nI k)), (16, .int (nI one)), (17, .int (nI two)), (18, .int (nI cl)), (19, .int (nI fd)), (20, .int (icV cl nc)), (21, .int (arV cl nc fd)), (22, .int (nI f)), (23, .int (nI d)), (24, .int 1), (25, .int (nI i_11))]) hx hb dL_law_1978 hl_72 (k := 26) rfl (nI_1 i_32) (by decide) rfl (fun ls hl_79 => ?_)
          refine lv_goto (tgt := 1918) hx hb dL_law_1981 (by decide) ?_
          exact ih_33 _ _ _ hH_77 hS_78 (lv_sub hl_79 [2, 3, 4, 5, 6, 7, 8, 9, 10, 11, 12, 13, 14, 15, 16, 17, 18, 19, 20, 21, 22, 23, 24, 25, 26, 0] rfl)
    · refine lv_aload hx hb dL_law_1880 (lv_at hl_7 13 rfl) ?_
      refine lv_iconst (v := 0) hx hb dL_law_1882 (by decide) ?_
      refine ls_ild C hH_2 10 rfl (by decide) (j := 0) rfl (show 0 < 3 by omega) dL_law_1883 ?_
      refine W.eq (g2 := F0 m 1884 ls [.int (nI dy)]) (by rw [e0]) ?_
      refine lv_iload hx hb dL_law_1884 (lv_at hl_7 0 rfl) ?_
      refine lv_iadd hx hb dL_law_1886 ?_
      refine W.eq (g2 := F0 m 1887 ls [.int (nI (dy + d))]) (by rw [show ((nI dy) + (nI d) : Int32) = nI (dy + d) from (zi_add rfl rfl)]) ?_
      refine lv_sipush (v := 7200) hx hb dL_law_1887 (by decide) ?_
      refine lv_icmp_gt (tgt := 1897) hx hb dL_law_1890 (by decide) (fun c_80 => ?_) (fun c_80 => absurd (nI_lt' (a := 7200) (b := dy + d) (by decide) (by omega) (by omega)) c_80)
      refine lv_iconst (v := 0) hx hb dL_law_1897 (by decide) ?_
      refine lv_istore (lv' := [(24, .int 0), (23, .int (nI d)), (0, .ref sb), (1, .ref (ac (0, 0, 0))), (2, .ref (ad (0, 0, 0))), (3, .ref (ad (1, 0, 0))), (4, .ref (ad (2, 0, 0))), (5, .ref (ad (3, 0, 0))), (6, .ref (ad (4, 0, 0))), (7, .ref (ad (5, 0, 0))), (8, .ref (ad (6, 0, 0))), (9, .ref (ad (7, 0, 0))), (10, .ref (ad (8, 0, 0))), (11, .ref (ad (9, 0, 0))), (12, .ref (ad (10, 0, 0))), (13, .int 1), (14, .int (nI k)), (16, .int (nI one)), (17, .int (nI two)), (18, .int (nI cl)), (19, .int (nI fd)), (20, .int (icV cl nc)), (21, .int (arV cl nc fd)), (22, .int (nI f))]) hx hb dL_law_1898 hl_7 (by decide) rfl (fun ls hl_81 => ?_)
      refine lv_iconst (v := 0) hx hb dL_law_1900 (by decide) ?_
      refine lv_istore (lv' := [(25, .int 0), (24, .int 0), (23, .int (nI d)), (0, .ref sb), (1, .ref (ac (0, 0, 0))), (2, .ref (ad (0, 0, 0))), (3, .ref (ad (1, 0, 0))), (4, .ref (ad (2, 0, 0))), (5, .ref (ad (3, 0, 0))), (6, .ref (ad (4, 0, 0))), (7, .ref (ad (5, 0, 0))), (8, .ref (ad (6, 0, 0))), (9, .ref (ad (7, 0, 0))), (10, .ref (ad (8, 0, 0))), (11, .ref (ad (9, 0, 0))), (12, .ref (ad (10, 0, 0))), (13, .int 1), (14, .int (nI k)), (16, .int (nI one)), (17, .int (nI two)), (18, .int (nI cl)), (19, .int (nI fd)), (20, .int (icV cl nc)), (21, .int (arV cl nc fd)), (22, .int (nI f))]) hx hb dL_law_1901 hl_81 (by decide) rfl (fun ls hl_82 => ?_)
      refine lv_iload hx hb dL_law_1903 (lv_at hl_82 0 rfl) ?_
      refine lv_iload hx hb dL_law_1905 (lv_at hl_82 2 rfl) ?_
      refine lv_icmp_ge (tgt := 2109) hx hb dL_law_1907 (by decide) (fun c_83 => absurd c_83 (fun z => absurd ((nI_leI (by omega) (by decide)).mp (show nI d ≤ nI 0 from z)) (by omega))) (fun c_83 => ?_)
      refine lv_iload hx hb dL_law_1910 (lv_at hl_82 1 rfl) ?_
      refine lv_if_eq (tgt := 2109) hx hb dL_law_1912 (by decide) (fun c_84 => ?_) (fun c_84 => absurd c_84 (by decide))
      refine lv_aload_n hx hb dL_law_2109 rfl (lv_at hl_82 4 rfl) ?_
      refine lv_bipush (v := 8) hx hb dL_law_2110 (by decide) ?_
      refine lv_iload hx hb dL_law_2112 (lv_at hl_82 2 rfl) ?_
      refine lv_iconst (v := 0) hx hb dL_law_2114 (by decide) ?_
      refine lv_iconst (v := 0) hx hb dL_law_2115 (by decide) ?_
      refine zk_cl (zk_rSH (As := [.ref (ac (0, 0, 0)), .int 8, .int (nI d), .int 0, .int 0]) (rest := []) (n := 5) (w := zk_sum 50 (cw cA (g 0) ac 6 nc nc 6 nt dy mo I L) (aw cA ad Ia La)) C (qd_pass_S l D cA A g ac nc nt dy mo I L _ hst d hdb.1 hdb.2 (by omega) (by omega) hdy) hH_2 hS_3 gL_law_L_does rfl rfl (by decide +kernel) ⟨Nat.le_of_ble_eq_true rfl, Nat.le_of_ble_eq_true rfl⟩ hl_82 rfl (Nat.le_of_ble_eq_true rfl) dL_law_2116 ⟨by show cells + 1 ≤ 600104; omega, by show slots + 6 ≤ 7301314; omega⟩) hS_3 (fun r_85 w_86 H locs hP hH_87 hS_88 => ?_)
      obtain ⟨rfl, rfl⟩ := hP
      refine lv_iload hx hb dL_law_2119 (lv_at hl_82 1 rfl) ?_
      refine lv_if_eq (tgt := 2132) hx hb dL_law_2121 (by decide) (fun c_89 => ?_) (fun c_89 => absurd c_89 (by decide))
      refine lv_ldc2 (v := (-1000000000000)) hx hb hown (hts (.constantLong RL 67 (-1000000000000)) (by decide +kernel)) dL_law_2132 ?_
      refine zl_cmp_ne (tgt := 2143) hx hb dL_law_2135 dL_law_2136 (by decide) (fun c_90 => absurd c_90 (by decide)) (fun c_90 => ?_)
      refine lv_iconst (v := 1) hx hb dL_law_2139 (by decide) ?_
      refine lv_goto (tgt := 2144) hx hb dL_law_2140 (by decide) ?_
      refine lv_istore (lv' := [(13, .int 1), (25, .int 0), (24, .int 0), (23, .int (nI d)), (0, .ref sb), (1, .ref (ac (0, 0, 0))), (2, .ref (ad (0, 0, 0))), (3, .ref (ad (1, 0, 0))), (4, .ref (ad (2, 0, 0))), (5, .ref (ad (3, 0, 0))), (6, .ref (ad (4, 0, 0))), (7, .ref (ad (5, 0, 0))), (8, .ref (ad (6, 0, 0))), (9, .ref (ad (7, 0, 0))), (10, .ref (ad (8, 0, 0))), (11, .ref (ad (9, 0, 0))), (12, .ref (ad (10, 0, 0))), (14, .int (nI k)), (16, .int (nI one)), (17, .int (nI two)), (18, .int (nI cl)), (19, .int (nI fd)), (20, .int (icV cl nc)), (21, .int (arV cl nc fd)), (22, .int (nI f))]) hx hb dL_law_2144 hl_82 (by decide) rfl (fun ls hl_91 => ?_)
      exact W.widen (by show cells + 1 ≤ cells + 30; omega) (by show slots + 6 ≤ slots + 2200; omega) (K ac nc nt dy mo I L Ia La H locs ls hH_87 hS_88 (hJ.mono (by omega)) hc1 rfl (lv_sub hl_91 [4, 5, 6, 7, 8, 9, 10, 11, 12, 13, 14, 15, 16, 0, 17, 18, 19] rfl))
end LAW
