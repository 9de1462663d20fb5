section LAW
variable {p : Program} {l : Launch} {e : Env} {s : State} {m : MethodId} {below : List Frame} {meth : Method} {c : Code} {H : Heap} {locs : List Loc} {cells slots : Nat} {Q : State → Prop} {ls : Array Slot} {D : va_G} {cA : Nat → ClassId} {A : Nat → Prop} {g : Nat → Nat}
variable {sb k one two b nc nt dy cl fd f : Nat} {ac ad : zk_K → Nat} {mo : Int64} {I Ia : zIA} {L La : zLA}
set_option maxHeartbeats 2000000 in
set_option maxRecDepth 100000 in
theorem lw_balance (C : zC p l m c cL_law 33 s #[.ref sb] wsL_law RL D (zt cA) A g meth) (hst : l.stackTraces = false) (hJ : zJ nc nt dy b mo I L Ia La) (hb8 : b ≤ 8000) (hone : one < 60000) (htwo : two < 60000) (hk : k < 60) (hcl : cl ≤ nc) (hfd : fd < 7) (hf : f < 6) (hff : fd < 6 → f = fd) (hc : cells + 30 ≤ 600104) (hs : slots + 2200 ≤ 7301314) (hH : zk_H D A (zk_sum 50 (cw cA (g 0) ac 6 nc nc 6 nt dy mo I L) (aw cA ad Ia La)) H) (hS : va_S A s.heap H locs) (hc1 : 1 ≤ nc) (hnt : nt < 18) (hl : lv_has ls 33 [(0, .ref sb), (1, .ref (ac (0, 0, 0))), (2, .ref (ad (0, 0, 0))), (3, .ref (ad (1, 0, 0))), (4, .ref (ad (2, 0, 0))), (5, .ref (ad (3, 0, 0))), (6, .ref (ad (4, 0, 0))), (7, .ref (ad (5, 0, 0))), (8, .ref (ad (6, 0, 0))), (9, .ref (ad (7, 0, 0))), (10, .ref (ad (8, 0, 0))), (11, .ref (ad (9, 0, 0))), (12, .ref (ad (10, 0, 0))), (13, .int 1), (14, .int (nI k)), (16, .int (nI one)), (17, .int (nI two)), (18, .int (nI cl)), (19, .int (nI fd)), (20, .int (icV cl nc)), (21, .int (arV cl nc fd)), (22, .int (nI f))]) (K : lwK p l e s m below meth c D cA A g sb k one two (b + 12) (ac (0, 0, 0)) ad (cells + 30) (slots + 2200) Q) : W p l e room_1 s m #[.ref sb] below meth c H locs cells slots Q (F0 m 1314 ls []) := by
  obtain ⟨⟨hx, hb, hml, hown, hts⟩, hG, hlk⟩ := id C
  obtain ⟨hO, hM, hD⟩ := hJ.d
  obtain ⟨hI, ⟨hn3, hn30⟩, ⟨e0, e1, e2⟩, hP, hGo, ⟨v1, v2, v3, v4⟩, h7, hR, hE, hSu⟩ := id hJ
  obtain ⟨-, -, hdy⟩ := hI.1
  obtain ⟨h11, h12, h16, -, -⟩ := hI.t
  by_cases hi : cl < nc
  · have hl_1 : lv_has ls 33 [(0, .ref sb), (1, .ref (ac (0, 0, 0))), (2, .ref (ad (0, 0, 0))), (3, .ref (ad (1, 0, 0))), (4, .ref (ad (2, 0, 0))), (5, .ref (ad (3, 0, 0))), (6, .ref (ad (4, 0, 0))), (7, .ref (ad (5, 0, 0))), (8, .ref (ad (6, 0, 0))), (9, .ref (ad (7, 0, 0))), (10, .ref (ad (8, 0, 0))), (11, .ref (ad (9, 0, 0))), (12, .ref (ad (10, 0, 0))), (13, .int 1), (14, .int (nI k)), (16, .int (nI one)), (17, .int (nI two)), (18, .int (nI cl)), (19, .int (nI fd)), (20, .int 1), (21, .int (arV cl nc fd)), (22, .int (nI f))] := by have e9 : icV cl nc = 1 := if_pos hi; have h9 := hl; rw [e9] at h9; exact h9
    refine lv_iload hx hb dL_law_1314 (lv_at hl_1 19 rfl) ?_
    refine lv_if_eq (tgt := 1331) hx hb dL_law_1316 (by decide) (fun c_2 => absurd c_2 (by decide)) (fun c_2 => ?_)
    refine lv_aload_n hx hb dL_law_1319 rfl (lv_at hl_1 2 rfl) ?_
    refine lv_aload_n hx hb dL_law_1320 rfl (lv_at hl_1 3 rfl) ?_
    refine lv_aload hx hb dL_law_1321 (lv_at hl_1 4 rfl) ?_
    refine lv_iload hx hb dL_law_1323 (lv_at hl_1 17 rfl) ?_
    refine zk_cl (zk_rS (As := [.ref (ad (0, 0, 0)), .ref (ad (1, 0, 0)), .ref (ad (2, 0, 0)), .int (nI cl)]) (rest := []) (n := 4) (w := zk_sum 50 (cw cA (g 0) ac 6 nc nc 6 nt dy mo I L) (aw cA ad Ia La)) C (zM_Rl (n := 50) (w1 := cw cA (g 0) ac 6 nc nc 6 nt dy mo I L) (fun A_ => (cH_wealth l D cA A_ g ad Ia La cl (by omega))) cw_lt A) hH hS gL_law_L_wealth rfl rfl (by decide +kernel) ⟨Nat.le_of_ble_eq_true rfl, Nat.le_of_ble_eq_true rfl⟩ hl_1 rfl (Nat.le_of_ble_eq_true rfl) dL_law_1325 ⟨by show cells + 0 ≤ 600104; omega, by show slots + 0 ≤ 7301314; omega⟩) hS (fun r_3 w_4 H locs hP hH_5 hS_6 => ?_)
    obtain ⟨w2_, hP, rfl⟩ := hP
    obtain ⟨rfl, rfl⟩ := hP
    refine W.eq (g2 := F0 m 1328 ls [.long (wealthL I L cl 6)]) (by rw [wl_eq hJ (show cl < 3 by omega) 6 (Nat.le_refl 6)]) ?_
    refine lv_goto (tgt := 1332) hx hb dL_law_1328 (by decide) ?_
    refine lv_lstore (lv' := [(23, .long (wealthL I L cl 6)), (0, .ref sb), (1, .ref (ac (0, 0, 0))), (2, .ref (ad (0, 0, 0))), (3, .ref (ad (1, 0, 0))), (4, .ref (ad (2, 0, 0))), (5, .ref (ad (3, 0, 0))), (6, .ref (ad (4, 0, 0))), (7, .ref (ad (5, 0, 0))), (8, .ref (ad (6, 0, 0))), (9, .ref (ad (7, 0, 0))), (10, .ref (ad (8, 0, 0))), (11, .ref (ad (9, 0, 0))), (12, .ref (ad (10, 0, 0))), (13, .int 1), (14, .int (nI k)), (16, .int (nI one)), (17, .int (nI two)), (18, .int (nI cl)), (19, .int (nI fd)), (20, .int 1), (21, .int (arV cl nc fd)), (22, .int (nI f))]) hx hb dL_law_1332 hl_1 (by decide) rfl (fun ls hl_7 => ?_)
    refine lv_iload hx hb dL_law_1334 (lv_at hl_7 20 rfl) ?_
    refine lv_if_eq (tgt := 1359) hx hb dL_law_1336 (by decide) (fun c_8 => absurd c_8 (by decide)) (fun c_8 => ?_)
    refine lv_lload hx hb dL_law_1339 (lv_at hl_7 0 rfl) ?_
    refine lv_lconst (v := 0) hx hb dL_law_1341 (by decide) ?_
    refine zl_cmp_lt (tgt := 1359) hx hb dL_law_1342 dL_law_1343 (by decide) (fun c_9 => ?_) (fun c_9 => ?_)
    · refine lv_iconst (v := 0) hx hb dL_law_1359 (by decide) ?_
      refine lv_istore (lv' := [(25, .int 0), (23, .long (wealthL I L cl 6)), (0, .ref sb), (1, .ref (ac (0, 0, 0))), (2, .ref (ad (0, 0, 0))), (3, .ref (ad (1, 0, 0))), (4, .ref (ad (2, 0, 0))), (5, .ref (ad (3, 0, 0))), (6, .ref (ad (4, 0, 0))), (7, .ref (ad (5, 0, 0))), (8, .ref (ad (6, 0, 0))), (9, .ref (ad (7, 0, 0))), (10, .ref (ad (8, 0, 0))), (11, .ref (ad (9, 0, 0))), (12, .ref (ad (10, 0, 0))), (13, .int 1), (14, .int (nI k)), (16, .int (nI one)), (17, .int (nI two)), (18, .int (nI cl)), (19, .int (nI fd)), (20, .int 1), (21, .int (arV cl nc fd)), (22, .int (nI f))]) hx hb dL_law_1360 hl_7 (by decide) rfl (fun ls hl_10 => ?_)
      refine lv_aload_n hx hb dL_law_1362 rfl (lv_at hl_10 3 rfl) ?_
      refine lv_bipush (v := 6) hx hb dL_law_1363 (by decide) ?_
      refine lv_iload hx hb dL_law_1365 (lv_at hl_10 19 rfl) ?_
      refine lv_iconst (v := 0) hx hb dL_law_1367 (by decide) ?_
      refine lv_iconst (v := 0) hx hb dL_law_1368 (by decide) ?_
      refine zk_cl (zk_rSH (As := [.ref (ac (0, 0, 0)), .int 6, .int (nI cl), .int 0, .int 0]) (rest := []) (n := 5) (w := zk_sum 50 (cw cA (g 0) ac 6 nc nc 6 nt dy mo I L) (aw cA ad Ia La)) C (qd_balance_S l D cA A g ac nc nt dy mo I L _ hst cl hi (Or.inl c_9) hI.pr (by omega) (by omega) hdy h11 h12 h16) hH_5 hS_6 gL_law_L_does rfl rfl (by decide +kernel) ⟨Nat.le_of_ble_eq_true rfl, Nat.le_of_ble_eq_true rfl⟩ hl_10 rfl (Nat.le_of_ble_eq_true rfl) dL_law_1369 ⟨by show cells + 0 + 25 ≤ 600104; omega, by show slots + 0 + 2070 ≤ 7301314; omega⟩) hS_6 (fun r_11 w_12 H locs hP hH_13 hS_14 => ?_)
      obtain ⟨rfl, rfl⟩ := hP
      refine lv_lstore (lv' := [(26, .long (-1000000000000)), (25, .int 0), (23, .long (wealthL I L cl 6)), (0, .ref sb), (1, .ref (ac (0, 0, 0))), (2, .ref (ad (0, 0, 0))), (3, .ref (ad (1, 0, 0))), (4, .ref (ad (2, 0, 0))), (5, .ref (ad (3, 0, 0))), (6, .ref (ad (4, 0, 0))), (7, .ref (ad (5, 0, 0))), (8, .ref (ad (6, 0, 0))), (9, .ref (ad (7, 0, 0))), (10, .ref (ad (8, 0, 0))), (11, .ref (ad (9, 0, 0))), (12, .ref (ad (10, 0, 0))), (13, .int 1), (14, .int (nI k)), (16, .int (nI one)), (17, .int (nI two)), (18, .int (nI cl)), (19, .int (nI fd)), (20, .int 1), (21, .int (arV cl nc fd)), (22, .int (nI f))]) hx hb dL_law_1372 hl_10 (by decide) rfl (fun ls hl_15 => ?_)
      refine lv_lload hx hb dL_law_1374 (lv_at hl_15 0 rfl) ?_
      refine lv_iload hx hb dL_law_1376 (lv_at hl_15 22 rfl) ?_
      refine lv_if_ne (tgt := 1387) hx hb dL_law_1378 (by decide) (fun c_16 => ?_) (fun c_16 => absurd c_16 (by decide))
      refine lv_iload hx hb dL_law_1387 (lv_at hl_15 1 rfl) ?_
      refine lv_if_eq (tgt := 1415) hx hb dL_law_1389 (by decide) (fun c_17 => ?_) (fun c_17 => absurd c_17 (by decide))
      refine lv_ldc2 (v := (-1000000000000)) hx hb hown (hts (.constantLong RL 67 (-1000000000000)) (by decide +kernel)) dL_law_1415 ?_
      refine zl_cmp_ne (tgt := 1426) hx hb dL_law_1418 dL_law_1419 (by decide) (fun c_18 => absurd c_18 (by decide)) (fun c_18 => ?_)
      refine lv_iconst (v := 1) hx hb dL_law_1422 (by decide) ?_
      refine lv_goto (tgt := 1427) hx hb dL_law_1423 (by decide) ?_
      refine lv_istore (lv' := [(13, .int 1), (26, .long (-1000000000000)), (25, .int 0), (23, .long (wealthL I L cl 6)), (0, .ref sb), (1, .ref (ac (0, 0, 0))), (2, .ref (ad (0, 0, 0))), (3, .ref (ad (1, 0, 0))), (4, .ref (ad (2, 0, 0))), (5, .ref (ad (3, 0, 0))), (6, .ref (ad (4, 0, 0))), (7, .ref (ad (5, 0, 0))), (8, .ref (ad (6, 0, 0))), (9, .ref (ad (7, 0, 0))), (10, .ref (ad (8, 0, 0))), (11, .ref (ad (9, 0, 0))), (12, .ref (ad (10, 0, 0))), (14, .int (nI k)), (16, .int (nI one)), (17, .int (nI two)), (18, .int (nI cl)), (19, .int (nI fd)), (20, .int 1), (21, .int (arV cl nc fd)), (22, .int (nI f))]) hx hb dL_law_1427 hl_15 (by decide) rfl (fun ls hl_19 => ?_)
      refine lv_goto (tgt := 2146) hx hb dL_law_1429 (by decide) ?_
      exact W.widen (by show cells + 0 + 25 ≤ cells + 30; omega) (by show slots + 0 + 2070 ≤ slots + 2200; omega) (K ac nc nt dy mo I L Ia La H locs ls hH_13 hS_14 (hJ.mono (by omega)) hc1 rfl (lv_sub hl_19 [4, 5, 6, 7, 8, 9, 10, 11, 12, 13, 14, 15, 16, 0, 17, 18, 19] rfl))
    · refine lv_lload hx hb dL_law_1346 (lv_at hl_7 0 rfl) ?_
      refine lv_ldc2 (v := 100000000) hx hb hown (hts (.constantLong RL 138 100000000) (by decide +kernel)) dL_law_1348 ?_
      refine zl_cmp_gt (tgt := 1359) hx hb dL_law_1351 dL_law_1352 (by decide) (fun c_20 => ?_) (fun c_20 => ?_)
      · refine lv_iconst (v := 0) hx hb dL_law_1359 (by decide) ?_
        refine lv_istore (lv' := [(25, .int 0), (23, .long (wealthL I L cl 6)), (0, .ref sb), (1, .ref (ac (0, 0, 0))), (2, .ref (ad (0, 0, 0))), (3, .ref (ad (1, 0, 0))), (4, .ref (ad (2, 0, 0))), (5, .ref (ad (3, 0, 0))), (6, .ref (ad (4, 0, 0))), (7, .ref (ad (5, 0, 0))), (8, .ref (ad (6, 0, 0))), (9, .ref (ad (7, 0, 0))), (10, .ref (ad (8, 0, 0))), (11, .ref (ad (9, 0, 0))), (12, .ref (ad (10, 0, 0))), (13, .int 1), (14, .int (nI k)), (16, .int (nI one)), (17, .int (nI two)), (18, .int (nI cl)), (19, .int (nI fd)), (20, .int 1), (21, .int (arV cl nc fd)), (22, .int (nI f))]) hx hb dL_law_1360 hl_7 (by decide) rfl (fun ls hl_21 => ?_)
        refine lv_aload_n hx hb dL_law_1362 rfl (lv_at hl_21 3 rfl) ?_
        refine lv_bipush (v := 6) hx hb dL_law_1363 (by decide) ?_
        refine lv_iload hx hb dL_law_1365 (lv_at hl_21 19 rfl) ?_
        refine lv_iconst (v := 0) hx hb dL_law_1367 (by decide) ?_
        refine lv_iconst (v := 0) hx hb dL_law_1368 (by decide) ?_
        refine zk_cl (zk_rSH (As := [.ref (ac (0, 0, 0)), .int 6, .int (nI cl), .int 0, .int 0]) (rest := []) (n := 5) (w := zk_sum 50 (cw cA (g 0) ac 6 nc nc 6 nt dy mo I L) (aw cA ad Ia La)) C (qd_balance_S l D cA A g ac nc nt dy mo I L _ hst cl hi (Or.inr c_20) hI.pr (by omega) (by omega) hdy h11 h12 h16) hH_5 hS_6 gL_law_L_does rfl rfl (by decide +kernel) ⟨Nat.le_of_ble_eq_true rfl, Nat.le_of_ble_eq_true rfl⟩ hl_21 rfl (Nat.le_of_ble_eq_true rfl) dL_law_1369 ⟨by show cells + 0 + 25 ≤ 600104; omega, by show slots + 0 + 2070 ≤ 7301314; omega⟩) hS_6 (fun r_22 w_23 H locs hP hH_24 hS_25 => ?_)
        obtain ⟨rfl, rfl⟩ := hP
        refine lv_lstore (lv' := [(26, .long (-1000000000000)), (25, .int 0), (23, .long (wealthL I L cl 6)), (0, .ref sb), (1, .ref (ac (0, 0, 0))), (2, .ref (ad (0, 0, 0))), (3, .ref (ad (1, 0, 0))), (4, .ref (ad (2, 0, 0))), (5, .ref (ad (3, 0, 0))), (6, .ref (ad (4, 0, 0))), (7, .ref (ad (5, 0, 0))), (8, .ref (ad (6, 0, 0))), (9, .ref (ad (7, 0, 0))), (10, .ref (ad (8, 0, 0))), (11, .ref (ad (9, 0, 0))), (12, .ref (ad (10, 0, 0))), (13, .int 1), (14, .int (nI k)), (16, .int (nI one)), (17, .int (nI two)), (18, .int (nI cl)), (19, .int (nI fd)), (20, .int 1), (21, .int (arV cl nc fd)), (22, .int (nI f))]) hx hb dL_law_1372 hl_21 (by decide) rfl (fun ls hl_26 => ?_)
        refine lv_lload hx hb dL_law_1374 (lv_at hl_26 0 rfl) ?_
        refine lv_iload hx hb dL_law_1376 (lv_at hl_26 22 rfl) ?_
        refine lv_if_ne (tgt := 1387) hx hb dL_law_1378 (by decide) (fun c_27 => ?_) (fun c_27 => absurd c_27 (by decide))
        refine lv_iload hx hb dL_law_1387 (lv_at hl_26 1 rfl) ?_
        refine lv_if_eq (tgt := 1415) hx hb dL_law_1389 (by decide) (fun c_28 => ?_) (fun c_28 => absurd c_28 (by decide))
        refine lv_ldc2 (v := (-1000000000000)) hx hb hown (hts (.constantLong RL 67 (-1000000000000)) (by decide +kernel)) dL_law_1415 ?_
        refine zl_cmp_ne (tgt := 1426) hx hb dL_law_1418 dL_law_1419 (by decide) (fun c_29 => absurd c_29 (by decide)) (fun c_29 => ?_)
        refine lv_iconst (v := 1) hx hb dL_law_1422 (by decide) ?_
        refine lv_goto (tgt := 1427) hx hb dL_law_1423 (by decide) ?_
        refine lv_istore (lv' := [(13, .int 1), (26, .long (-1000000000000)), (25, .int 0), (23, .long (wealthL I L cl 6)), (0, .ref sb), (1, .ref (ac (0, 0, 0))), (2, .ref (ad (0, 0, 0))), (3, .ref (ad (1, 0, 0))), (4, .ref (ad (2, 0, 0))), (5, .ref (ad (3, 0, 0))), (6, .ref (ad (4, 0, 0))), (7, .ref (ad (5, 0, 0))), (8, .ref (ad (6, 0, 0))), (9, .ref (ad (7, 0, 0))), (10, .ref (ad (8, 0, 0))), (11, .ref (ad (9, 0, 0))), (12, .ref (ad (10, 0, 0))), (14, .int (nI k)), (16, .int (nI one)), (17, .int (nI two)), (18, .int (nI cl)), (19, .int (nI fd)), (20, .int 1), (21, .int (arV cl nc fd)), (22, .int (nI f))]) hx hb dL_law_1427 hl_26 (by decide) rfl (fun ls hl_30 => ?_)
        refine lv_goto (tgt := 2146) hx hb dL_law_1429 (by decide) ?_
        exact W.widen (by show cells + 0 + 25 ≤ cells + 30; omega) (by show slots + 0 + 2070 ≤ slots + 2200; omega) (K ac nc nt dy mo I L Ia La H locs ls hH_24 hS_25 (hJ.mono (by omega)) hc1 rfl (lv_sub hl_30 [4, 5, 6, 7, 8, 9, 10, 11, 12, 13, 14, 15, 16, 0, 17, 18, 19] rfl))
      · have hB : bJ nc dy (b + 12) (buyC dy cl (wealthL I L cl 6) (selC dy cl (wealthL I L cl 6) (nt, mo, I, L) 6) 6) (baS dy cl (wealthL I L cl 6) (nt, Ia, La) 12) := J_bal12 hJ hi hnt hb8 c_9 c_20
        have ew := wl_eq hJ (show cl < 3 by omega) 6 (Nat.le_refl 6)
        refine lv_iconst (v := 1) hx hb dL_law_1355 (by decide) ?_
        refine lv_goto (tgt := 1360) hx hb dL_law_1356 (by decide) ?_
        refine lv_istore (lv' := [(25, .int 1), (23, .long (wealthL I L cl 6)), (0, .ref sb), (1, .ref (ac (0, 0, 0))), (2, .ref (ad (0, 0, 0))), (3, .ref (ad (1, 0, 0))), (4, .ref (ad (2, 0, 0))), (5, .ref (ad (3, 0, 0))), (6, .ref (ad (4, 0, 0))), (7, .ref (ad (5, 0, 0))), (8, .ref (ad (6, 0, 0))), (9, .ref (ad (7, 0, 0))), (10, .ref (ad (8, 0, 0))), (11, .ref (ad (9, 0, 0))), (12, .ref (ad (10, 0, 0))), (13, .int 1), (14, .int (nI k)), (16, .int (nI one)), (17, .int (nI two)), (18, .int (nI cl)), (19, .int (nI fd)), (20, .int 1), (21, .int (arV cl nc fd)), (22, .int (nI f))]) hx hb dL_law_1360 hl_7 (by decide) rfl (fun ls hl_31 => ?_)
        refine lv_aload_n hx hb dL_law_1362 rfl (lv_at hl_31 3 rfl) ?_
        refine lv_bipush (v := 6) hx hb dL_law_1363 (by decide) ?_
        refine lv_iload hx hb dL_law_1365 (lv_at hl_31 19 rfl) ?_
        refine lv_iconst (v := 0) hx hb dL_law_1367 (by decide) ?_
        refine lv_iconst (v := 0) hx hb dL_law_1368 (by decide) ?_
        refine zk_cl (zk_rSH (As := [.ref (ac (0, 0, 0)), .int 6, .int (nI cl), .int 0, .int 0]) (rest := []) (n := 5) (w := zk_sum 50 (cw cA (g 0) ac 6 nc nc 6 nt dy mo I L) (aw cA ad Ia La)) C (qd_balance l D cA A g ac nc nt dy mo I L _ hst cl hi (by omega) c_9 c_20 hI.pr (by omega) (by omega) hdy h11 h12 h16) hH_5 hS_6 gL_law_L_does rfl rfl (by decide +kernel) ⟨Nat.le_of_ble_eq_true rfl, Nat.le_of_ble_eq_true rfl⟩ hl_31 rfl (Nat.le_of_ble_eq_true rfl) dL_law_1369 ⟨by show cells + 0 + 25 ≤ 600104; omega, by show slots + 0 + 2070 ≤ 7301314; omega⟩) hS_6 (fun r_32 w_33 H locs hP hH_34 hS_35 => ?_)
        obtain ⟨rfl, ac2, hac, rfl⟩ := hP
        refine lv_lstore (lv' := [(26, .long (Int32.toInt64 (nI ((buyC dy cl (wealthL I L cl 6) (selC dy cl (wealthL I L cl 6) (nt, mo, I, L) 6) 6).1 - nt)))), (25, .int 1), (23, .long (wealthL I L cl 6)), (0, .ref sb), (1, .ref (ac (0, 0, 0))), (2, .ref (ad (0, 0, 0))), (3, .ref (ad (1, 0, 0))), (4, .ref (ad (2, 0, 0))), (5, .ref (ad (3, 0, 0))), (6, .ref (ad (4, 0, 0))), (7, .ref (ad (5, 0, 0))), (8, .ref (ad (6, 0, 0))), (9, .ref (ad (7, 0, 0))), (10, .ref (ad (8, 0, 0))), (11, .ref (ad (9, 0, 0))), (12, .ref (ad (10, 0, 0))), (13, .int 1), (14, .int (nI k)), (16, .int (nI one)), (17, .int (nI two)), (18, .int (nI cl)), (19, .int (nI fd)), (20, .int 1), (21, .int (arV cl nc fd)), (22, .int (nI f))]) hx hb dL_law_1372 hl_31 (by decide) rfl (fun ls hl_36 => ?_)
        refine lv_lload hx hb dL_law_1374 (lv_at hl_36 0 rfl) ?_
        refine lv_iload hx hb dL_law_1376 (lv_at hl_36 22 rfl) ?_
        refine lv_if_ne (tgt := 1387) hx hb dL_law_1378 (by decide) (fun c_37 => ?_) (fun c_37 => absurd c_37 (by decide))
        refine lv_iload hx hb dL_law_1387 (lv_at hl_36 1 rfl) ?_
        refine lv_if_eq (tgt := 1415) hx hb dL_law_1389 (by decide) (fun c_38 => absurd c_38 (by decide)) (fun c_38 => ?_)
        refine lv_aload_n hx hb dL_law_1392 rfl (lv_at hl_36 5 rfl) ?_
        refine lv_aload_n hx hb dL_law_1393 rfl (lv_at hl_36 6 rfl) ?_
        refine lv_aload hx hb dL_law_1394 (lv_at hl_36 7 rfl) ?_
        refine lv_aload hx hb dL_law_1396 (lv_at hl_36 8 rfl) ?_
        refine lv_aload hx hb dL_law_1398 (lv_at hl_36 9 rfl) ?_
        refine lv_aload hx hb dL_law_1400 (lv_at hl_36 10 rfl) ?_
        refine lv_aload hx hb dL_law_1402 (lv_at hl_36 11 rfl) ?_
        refine lv_aload hx hb dL_law_1404 (lv_at hl_36 15 rfl) ?_
        refine lv_iload hx hb dL_law_1406 (lv_at hl_36 20 rfl) ?_
        refine zk_ci (zk_rS (As := [.ref (ad (0, 0, 0)), .ref (ad (1, 0, 0)), .ref (ad (2, 0, 0)), .ref (ad (3, 0, 0)), .ref (ad (4, 0, 0)), .ref (ad (5, 0, 0)), .ref (ad (6, 0, 0)), .ref (ad (10, 0, 0)), .int (nI cl)]) (rest := [.long (Int32.toInt64 (nI ((buyC dy cl (wealthL I L cl 6) (selC dy cl (wealthL I L cl 6) (nt, mo, I, L) 6) 6).1 - nt)))]) (n := 9) (w := zk_sum 50 (cw cA (g 0) ac2 6 nc nc 6 ((buyC dy cl (wealthL I L cl 6) (selC dy cl (wealthL I L cl 6) (nt, mo, I, L) 6) 6).1) dy ((buyC dy cl (wealthL I L cl 6) (selC dy cl (wealthL I L cl 6) (nt, mo, I, L) 6) 6).2.1) ((buyC dy cl (wealthL I L cl 6) (selC dy cl (wealthL I L cl 6) (nt, mo, I, L) 6) 6).2.2.1) ((buyC dy cl (wealthL I L cl 6) (selC dy cl (wealthL I L cl 6) (nt, mo, I, L) 6) 6).2.2.2)) (aw cA ad Ia La)) C (zM_Ri (n := 50) (w1 := cw cA (g 0) ac2 6 nc nc 6 ((buyC dy cl (wealthL I L cl 6) (selC dy cl (wealthL I L cl 6) (nt, mo, I, L) 6) 6).1) dy ((buyC dy cl (wealthL I L cl 6) (selC dy cl (wealthL I L cl 6) (nt, mo, I, L) 6) 6).2.1) ((buyC dy cl (wealthL I L cl 6) (selC dy cl (wealthL I L cl 6) (nt, mo, I, L) 6) 6).2.2.1) ((buyC dy cl (wealthL I L cl 6) (selC dy cl (wealthL I L cl 6) (nt, mo, I, L) 6) 6).2.2.2)) (fun A_ => (cH_balances l D cA A_ g ad Ia La nt dy cl e2 e0 hnt (by omega) hJ.pr)) cw_lt A) hH_34 hS_35 gL_law_L_balances rfl rfl (by decide +kernel) ⟨Nat.le_of_ble_eq_true rfl, Nat.le_of_ble_eq_true rfl⟩ hl_36 rfl (Nat.le_of_ble_eq_true rfl) dL_law_1408 ⟨by show cells + 0 + 25 + 0 ≤ 600104; omega, by show slots + 0 + 2070 + 0 ≤ 7301314; omega⟩) hS_35 (fun r_39 w_40 H locs hP hH_41 hS_42 => ?_)
        obtain ⟨w2_, hP, rfl⟩ := hP
        obtain ⟨rfl, rfl⟩ := hP
        have hH_43 := hH_41
        rw [ew] at hH_43
        refine W.eq (g2 := F0 m 1411 ls [.int (nI ((baS dy cl (wealthL I L cl 6) (nt, Ia, La) 12).1 - nt)), .long (Int32.toInt64 (nI ((buyC dy cl (wealthL I L cl 6) (selC dy cl (wealthL I L cl 6) (nt, mo, I, L) 6) 6).1 - nt)))]) (by rw [ew]) ?_
        refine lv_i2l (v := Int32.toInt64 (nI ((baS dy cl (wealthL I L cl 6) (nt, Ia, La) 12).1 - nt))) hx hb dL_law_1411 rfl ?_
        refine lv_goto (tgt := 1418) hx hb dL_law_1412 (by decide) ?_
        refine zl_cmp_ne (tgt := 1426) hx hb dL_law_1418 dL_law_1419 (by decide) (fun c_44 => absurd (by rw [hB.1]) c_44) (fun c_44 => ?_)
        refine lv_iconst (v := 1) hx hb dL_law_1422 (by decide) ?_
        refine lv_goto (tgt := 1427) hx hb dL_law_1423 (by decide) ?_
        refine lv_istore (lv' := [(13, .int 1), (26, .long (Int32.toInt64 (nI ((buyC dy cl (wealthL I L cl 6) (selC dy cl (wealthL I L cl 6) (nt, mo, I, L) 6) 6).1 - nt)))), (25, .int 1), (23, .long (wealthL I L cl 6)), (0, .ref sb), (1, .ref (ac (0, 0, 0))), (2, .ref (ad (0, 0, 0))), (3, .ref (ad (1, 0, 0))), (4, .ref (ad (2, 0, 0))), (5, .ref (ad (3, 0, 0))), (6, .ref (ad (4, 0, 0))), (7, .ref (ad (5, 0, 0))), (8, .ref (ad (6, 0, 0))), (9, .ref (ad (7, 0, 0))), (10, .ref (ad (8, 0, 0))), (11, .ref (ad (9, 0, 0))), (12, .ref (ad (10, 0, 0))), (14, .int (nI k)), (16, .int (nI one)), (17, .int (nI two)), (18, .int (nI cl)), (19, .int (nI fd)), (20, .int 1), (21, .int (arV cl nc fd)), (22, .int (nI f))]) hx hb dL_law_1427 hl_36 (by decide) rfl (fun ls hl_45 => ?_)
        refine lv_goto (tgt := 2146) hx hb dL_law_1429 (by decide) ?_
        exact W.widen (by show cells + 0 + 25 + 0 ≤ cells + 30; omega) (by show slots + 0 + 2070 + 0 ≤ slots + 2200; omega) (K ac2 nc ((buyC dy cl (wealthL I L cl 6) (selC dy cl (wealthL I L cl 6) (nt, mo, I, L) 6) 6).1) dy ((buyC dy cl (wealthL I L cl 6) (selC dy cl (wealthL I L cl 6) (nt, mo, I, L) 6) 6).2.1) ((buyC dy cl (wealthL I L cl 6) (selC dy cl (wealthL I L cl 6) (nt, mo, I, L) 6) 6).2.2.1) ((buyC dy cl (wealthL I L cl 6) (selC dy cl (wealthL I L cl 6) (nt, mo, I, L) 6) 6).2.2.2) ((baS dy cl (wealthL I L cl 6) (nt, Ia, La) 12).2.1) ((baS dy cl (wealthL I L cl 6) (nt, Ia, La) 12).2.2) H locs ls hH_43 hS_42 (hB.2) hc1 hac (lv_sub hl_45 [4, 5, 6, 7, 8, 9, 10, 11, 12, 13, 14, 15, 16, 0, 17, 18, 19] rfl))
  · have hl_46 : lv_has ls 33 [(0, .ref sb), (1, .ref (ac (0, 0, 0))), (2, .ref (ad (0, 0, 0))), (3, .ref (ad (1, 0, 0))), (4, .ref (ad (2, 0, 0))), (5, .ref (ad (3, 0, 0))), (6, .ref (ad (4, 0, 0))), (7, .ref (ad (5, 0, 0))), (8, .ref (ad (6, 0, 0))), (9, .ref (ad (7, 0, 0))), (10, .ref (ad (8, 0, 0))), (11, .ref (ad (9, 0, 0))), (12, .ref (ad (10, 0, 0))), (13, .int 1), (14, .int (nI k)), (16, .int (nI one)), (17, .int (nI two)), (18, .int (nI cl)), (19, .int (nI fd)), (20, .int 0), (21, .int (arV cl nc fd)), (22, .int (nI f))] := by have e9 : icV cl nc = 0 := if_neg hi; have h9 := hl; rw [e9] at h9; exact h9
    refine lv_iload hx hb dL_law_1314 (lv_at hl_46 19 rfl) ?_
    refine lv_if_eq (tgt := 1331) hx hb dL_law_1316 (by decide) (fun c_47 => ?_) (fun c_47 => absurd c_47 (by decide))
    refine lv_lconst (v := 0) hx hb dL_law_1331 (by decide) ?_
    refine lv_lstore (lv' := [(23, .long 0), (0, .ref sb), (1, .ref (ac (0, 0, 0))), (2, .ref (ad (0, 0, 0))), (3, .ref (ad (1, 0, 0))), (4, .ref (ad (2, 0, 0))), (5, .ref (ad (3, 0, 0))), (6, .ref (ad (4, 0, 0))), (7, .ref (ad (5, 0, 0))), (8, .ref (ad (6, 0, 0))), (9, .ref (ad (7, 0, 0))), (10, .ref (ad (8, 0, 0))), (11, .ref (ad (9, 0, 0))), (12, .ref (ad (10, 0, 0))), (13, .int 1), (14, .int (nI k)), (16, .int (nI one)), (17, .int (nI two)), (18, .int (nI cl)), (19, .int (nI fd)), (20, .int 0), (21, .int (arV cl nc fd)), (22, .int (nI f))]) hx hb dL_law_1332 hl_46 (by decide) rfl (fun ls hl_48 => ?_)
    refine lv_iload hx hb dL_law_1334 (lv_at hl_48 20 rfl) ?_
    refine lv_if_eq (tgt := 1359) hx hb dL_law_1336 (by decide) (fun c_49 => ?_) (fun c_49 => absurd c_49 (by decide))
    refine lv_iconst (v := 0) hx hb dL_law_1359 (by decide) ?_
    refine lv_istore (lv' := [(25, .int 0), (23, .long 0), (0, .ref sb), (1, .ref (ac (0, 0, 0))), (2, .ref (ad (0, 0, 0))), (3, .ref (ad (1, 0, 0))), (4, .ref (ad (2, 0, 0))), (5, .ref (ad (3, 0, 0))), (6, .ref (ad (4, 0, 0))), (7, .ref (ad (5, 0, 0))), (8, .ref (ad (6, 0, 0))), (9, .ref (ad (7, 0, 0))), (10, .ref (ad (8, 0, 0))), (11, .ref (ad (9, 0, 0))), (12, .ref (ad (10, 0, 0))), (13, .int 1), (14, .int (nI k)), (16, .int (nI one)), (17, .int (nI two)), (18, .int (nI cl)), (19, .int (nI fd)), (20, .int 0), (21, .int (arV cl nc fd)), (22, .int (nI f))]) hx hb dL_law_1360 hl_48 (by decide) rfl (fun ls hl_50 => ?_)
    refine lv_aload_n hx hb dL_law_1362 rfl (lv_at hl_50 3 rfl) ?_
    refine lv_bipush (v := 6) hx hb dL_law_1363 (by decide) ?_
    refine lv_iload hx hb dL_law_1365 (lv_at hl_50 19 rfl) ?_
    refine lv_iconst (v := 0) hx hb dL_law_1367 (by decide) ?_
    refine lv_iconst (v := 0) hx hb dL_law_1368 (by decide) ?_
    refine zk_cl (zk_rSH (As := [.ref (ac (0, 0, 0)), .int 6, .int (nI cl), .int 0, .int 0]) (rest := []) (n := 5) (w := zk_sum 50 (cw cA (g 0) ac 6 nc nc 6 nt dy mo I L) (aw cA ad Ia La)) C (qd_balance_I l D cA A g ac nc nt dy mo I L _ hst (nI cl) (zno (by omega) (by omega) hi) hI.pr (by omega) (by omega) hdy h11 h12 h16) hH hS gL_law_L_does rfl rfl (by decide +kernel) ⟨Nat.le_of_ble_eq_true rfl, Nat.le_of_ble_eq_true rfl⟩ hl_50 rfl (Nat.le_of_ble_eq_true rfl) dL_law_1369 ⟨by show cells + 25 ≤ 600104; omega, by show slots + 2070 ≤ 7301314; omega⟩) hS (fun r_51 w_52 H locs hP hH_53 hS_54 => ?_)
    obtain ⟨rfl, rfl⟩ := hP
    refine lv_lstore (lv' := [(26, .long (-3000000000000)), (25, .int 0), (23, .long 0), (0, .ref sb), (1, .ref (ac (0, 0, 0))), (2, .ref (ad (0, 0, 0))), (3, .ref (ad (1, 0, 0))), (4, .ref (ad (2, 0, 0))), (5, .ref (ad (3, 0, 0))), (6, .ref (ad (4, 0, 0))), (7, .ref (ad (5, 0, 0))), (8, .ref (ad (6, 0, 0))), (9, .ref (ad (7, 0, 0))), (10, .ref (ad (8, 0, 0))), (11, .ref (ad (9, 0, 0))), (12, .ref (ad (10, 0, 0))), (13, .int 1), (14, .int (nI k)), (16, .int (nI one)), (17, .int (nI two)), (18, .int (nI cl)), (19, .int (nI fd)), (20, .int 0), (21, .int (arV cl nc fd)), (22, .int (nI f))]) hx hb dL_law_1372 hl_50 (by decide) rfl (fun ls hl_55 => ?_)
    refine lv_lload hx hb dL_law_1374 (lv_at hl_55 0 rfl) ?_
    refine lv_iload hx hb dL_law_1376 (lv_at hl_55 22 rfl) ?_
    refine lv_if_ne (tgt := 1387) hx hb dL_law_1378 (by decide) (fun c_56 => absurd c_56 (by decide)) (fun c_56 => ?_)
    refine lv_ldc2 (v := (-3000000000000)) hx hb hown (hts (.constantLong RL 59 (-3000000000000)) (by decide +kernel)) dL_law_1381 ?_
    refine lv_goto (tgt := 1418) hx hb dL_law_1384 (by decide) ?_
    refine zl_cmp_ne (tgt := 1426) hx hb dL_law_1418 dL_law_1419 (by decide) (fun c_57 => absurd c_57 (by decide)) (fun c_57 => ?_)
    refine lv_iconst (v := 1) hx hb dL_law_1422 (by decide) ?_
    refine lv_goto (tgt := 1427) hx hb dL_law_1423 (by decide) ?_
    refine lv_istore (lv' := [(13, .int 1), (26, .long (-3000000000000)), (25, .int 0), (23, .long 0), (0, .ref sb), (1, .ref (ac (0, 0, 0))), (2, .ref (ad (0, 0, 0))), (3, .ref (ad (1, 0, 0))), (4, .ref (ad (2, 0, 0))), (5, .ref (ad (3, 0, 0))), (6, .ref (ad (4, 0, 0))), (7, .ref (ad (5, 0, 0))), (8, .ref (ad (6, 0, 0))), (9, .ref (ad (7, 0, 0))), (10, .ref (ad (8, 0, 0))), (11, .ref (ad (9, 0, 0))), (12, .ref (ad (10, 0, 0))), (14, .int (nI k)), (16, .int (nI one)), (17, .int (nI two)), (18, .int (nI cl)), (19, .int (nI fd)), (20, .int 0), (21, .int (arV cl nc fd)), (22, .int (nI f))]) hx hb dL_law_1427 hl_55 (by decide) rfl (fun ls hl_58 => ?_)
    refine lv_goto (tgt := 2146) hx hb dL_law_1429 (by decide) ?_
    exact W.widen (by show cells + 25 ≤ cells + 30; omega) (by show slots + 2070 ≤ slots + 2200; omega) (K ac nc nt dy mo I L Ia La H locs ls hH_53 hS_54 (hJ.mono (by omega)) hc1 rfl (lv_sub hl_58 [4, 5, 6, 7, 8, 9, 10, 11, 12, 13, 14, 15, 16, 0, 17, 18, 19] rfl))
end LAW
