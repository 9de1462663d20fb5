def rmH_isSo : Room := { frames := 10, cells := 570, slots := 3260, locals := 190 }
set_option maxHeartbeats 4000000 in
set_option maxRecDepth 100000 in
theorem cH_isSo (l : Launch) (hst : l.stackTraces = false) (D : va_G) (cA : Nat → ClassId) (A : Nat → Prop) (g : Nat → Nat) (ac ad : zk_K → Nat) (nc nt dy b : Nat) (mo : Int64) (I : zIA) (L : zLA) (Ia : zIA) (La : zLA) (one two : Nat) (hJ : zJ nc nt dy b mo I L Ia La) (hc1 : 1 ≤ nc) (ho : one < 60000) (htw : two < 60000) : zM l yL_isSo wsL_isSo rmH_isSo D (zt cA) A g [.ref (ac (0, 0, 0)), .ref (ad (0, 0, 0)), .ref (ad (1, 0, 0)), .ref (ad (2, 0, 0)), .ref (ad (4, 0, 0)), .ref (ad (5, 0, 0)), .ref (ad (6, 0, 0)), .ref (ad (10, 0, 0)), .ref (ad (8, 0, 0)), .ref (ad (9, 0, 0)), .ref (ad (7, 0, 0)), .int (nI one), .int (nI two)] (zk_sum 50 (cw cA (g 0) ac 6 nc nc 6 nt dy mo I L) (aw cA ad Ia La)) (zQi (fun r w' => 1 = r ∧ ∃ La', (∀ a, a ≠ 8 → a ≠ 9 → La' a = La a) ∧ zk_sum 50 (cw cA (g 0) ac 6 nc nc 6 nt dy mo I L) (aw cA ad Ia La') = w')) := by
  obtain ⟨hO, hM, hD⟩ := hJ.d
  obtain ⟨hI, ⟨hn3, hn30⟩, ⟨e0, e1, e2⟩, hP, hG, ⟨v1, v2, v3, v4⟩, h7, hR, hE, hSu⟩ := id hJ
  obtain ⟨h11, h12, -, -, -⟩ := hI.t
  obtain ⟨cli, hcl0, hcl⟩ : ∃ k, k = one % nc ∧ k < nc := ⟨_, rfl, Nat.mod_lt _ (by omega)⟩
  obtain ⟨fu, hfu0, hfu⟩ : ∃ k, k = two % 6 ∧ k < 6 := ⟨_, rfl, Nat.mod_lt _ (by omega)⟩
  obtain ⟨txy, tx63⟩ := tax_rel (X := L) (La := La) (c := cli) (by omega) hn30 hO hM hD hR (fun f hf => hE cli f hcl hf) (hI.2.2.2.2.2.2.2.1 cli hcl).1.2
  obtain ⟨lr1, lr⟩ := lot_rel (hJ.scr (La' := taxL Ia La cli nt) (fun a a8 a9 => taxL_a a8 a9)) hcl hfu rfl
  refine zM_of (cc := cL_isSo) (maxL := 19) (ret := (some .boolean)) (own := RL) (by decide +kernel) rfl (Nat.le_of_ble_eq_true rfl) rfl ?_
  intro p e s m below meth c C hr hnm H locs ls hH hS hl
  obtain ⟨⟨hx, hb, hml, hown, hts⟩, hG, hlk⟩ := id C
  have hl : lv_has ls 19 [(0, .ref (ac (0, 0, 0))), (1, .ref (ad (0, 0, 0))), (2, .ref (ad (1, 0, 0))), (3, .ref (ad (2, 0, 0))), (4, .ref (ad (4, 0, 0))), (5, .ref (ad (5, 0, 0))), (6, .ref (ad (6, 0, 0))), (7, .ref (ad (10, 0, 0))), (8, .ref (ad (8, 0, 0))), (9, .ref (ad (9, 0, 0))), (10, .ref (ad (7, 0, 0))), (11, .int (nI one)), (12, .int (nI two))] := hl
  refine lv_aload_n hx hb dL_isSo_0 rfl (lv_at hl 0 rfl) ?_
  refine lv_iconst (v := (-1)) hx hb dL_isSo_1 (by decide) ?_
  refine zk_cl (zk_rV (As := [.int (-1)]) (rest := []) (n := 1) (k := (0, 0, 0)) (w := zk_sum 50 (cw cA (g 0) ac 6 nc nc 6 nt dy mo I L) (aw cA ad Ia La)) C (q_cash0 l D cA A g ac nc nt dy mo I L _ hst (by omega)) hH hS rfl rfl rfl gL_isSo_X4_cash rfl rfl (by decide +kernel) ⟨Nat.le_of_ble_eq_true rfl, Nat.le_of_ble_eq_true rfl⟩ hl rfl (Nat.le_of_ble_eq_true rfl) dL_isSo_2 ⟨by show 0 + 1 ≤ 570; omega, by show 0 + 6 ≤ 3260; omega⟩) hS (fun r_1 w_2 H locs hP hH_3 hS_4 => ?_)
  obtain ⟨rfl, rfl⟩ := hP
  refine lv_aload_n hx hb dL_isSo_5 rfl (lv_at hl 2 rfl) ?_
  refine lv_bipush (v := 15) hx hb dL_isSo_6 (by decide) ?_
  refine ls_lld C hH_3 1 rfl (by decide) (j := 15) rfl (show 15 < 16 by omega) dL_isSo_8 ?_
  refine W.eq (g2 := F0 m 9 ls [.long mo, .long mo]) (by rw [v3] <;> rfl) ?_
  refine zl_cmp_ne (tgt := 17) hx hb dL_isSo_9 dL_isSo_10 (by decide) (fun c_5 => absurd rfl c_5) (fun c_5 => ?_)
  refine lv_iconst (v := 1) hx hb dL_isSo_13 (by decide) ?_
  refine lv_goto (tgt := 18) hx hb dL_isSo_14 (by decide) ?_
  refine lv_istore (lv' := [(13, .int 1), (0, .ref (ac (0, 0, 0))), (1, .ref (ad (0, 0, 0))), (2, .ref (ad (1, 0, 0))), (3, .ref (ad (2, 0, 0))), (4, .ref (ad (4, 0, 0))), (5, .ref (ad (5, 0, 0))), (6, .ref (ad (6, 0, 0))), (7, .ref (ad (10, 0, 0))), (8, .ref (ad (8, 0, 0))), (9, .ref (ad (9, 0, 0))), (10, .ref (ad (7, 0, 0))), (11, .int (nI one)), (12, .int (nI two))]) hx hb dL_isSo_18 hl (by decide) rfl (fun ls hl_6 => ?_)
  refine lv_iconst (v := 0) hx hb dL_isSo_20 (by decide) ?_
  refine lv_istore (lv' := [(14, .int 0), (13, .int 1), (0, .ref (ac (0, 0, 0))), (1, .ref (ad (0, 0, 0))), (2, .ref (ad (1, 0, 0))), (3, .ref (ad (2, 0, 0))), (4, .ref (ad (4, 0, 0))), (5, .ref (ad (5, 0, 0))), (6, .ref (ad (6, 0, 0))), (7, .ref (ad (10, 0, 0))), (8, .ref (ad (8, 0, 0))), (9, .ref (ad (9, 0, 0))), (10, .ref (ad (7, 0, 0))), (11, .int (nI one)), (12, .int (nI two))]) hx hb dL_isSo_21 hl_6 (by decide) rfl (fun ls hl_7 => ?_)
  refine z_at (n := 6) (P := fun i_8 => zL p l e rmH_isSo s m _ below meth c 19 D A _ (zk_sum 50 (cw cA (g 0) ac 6 nc nc 6 nt dy mo I L) (aw cA ad Ia La)) (1 + 9 * i_8) (6 + 54 * i_8) 23 [(0, .ref (ac (0, 0, 0))), (1, .ref (ad (0, 0, 0))), (2, .ref (ad (1, 0, 0))), (3, .ref (ad (2, 0, 0))), (4, .ref (ad (4, 0, 0))), (5, .ref (ad (5, 0, 0))), (6, .ref (ad (6, 0, 0))), (7, .ref (ad (10, 0, 0))), (8, .ref (ad (8, 0, 0))), (9, .ref (ad (9, 0, 0))), (10, .ref (ad (7, 0, 0))), (11, .int (nI one)), (12, .int (nI two)), (13, .int 1), (14, .int (nI i_8))] []) 0 (Nat.zero_le _) (fun h => W.widen (by show 0 + 1 ≤ (1 + 9 * 0); omega) (by show 0 + 6 ≤ (6 + 54 * 0); omega) (h _ _ _ hH_3 hS_4 (lv_sub hl_7 [2, 3, 4, 5, 6, 7, 8, 9, 10, 11, 12, 13, 14, 1, 0] rfl))) ?_ ?_
  · intro H locs ls hH_10 hS_11 hl_12
    refine lv_iload hx hb dL_isSo_23 (lv_at hl_12 14 rfl) ?_
    refine lv_bipush (v := 6) hx hb dL_isSo_25 (by decide) ?_
    refine lv_icmp_ge (tgt := 175) hx hb dL_isSo_27 (by decide) (fun c_13 => ?_) (fun c_13 => absurd (Int32.le_refl _) c_13)
    refine lv_iconst (v := 0) hx hb dL_isSo_175 (by decide) ?_
    refine lv_istore (lv' := [(14, .int 0), (0, .ref (ac (0, 0, 0))), (1, .ref (ad (0, 0, 0))), (2, .ref (ad (1, 0, 0))), (3, .ref (ad (2, 0, 0))), (4, .ref (ad (4, 0, 0))), (5, .ref (ad (5, 0, 0))), (6, .ref (ad (6, 0, 0))), (7, .ref (ad (10, 0, 0))), (8, .ref (ad (8, 0, 0))), (9, .ref (ad (9, 0, 0))), (10, .ref (ad (7, 0, 0))), (11, .int (nI one)), (12, .int (nI two)), (13, .int 1)]) hx hb dL_isSo_176 hl_12 (by decide) rfl (fun ls hl_14 => ?_)
    refine z_at (n := nc) (P := fun i_15 => zL p l e rmH_isSo s m _ below meth c 19 D A _ (zk_sum 50 (cw cA (g 0) ac 6 nc nc 6 nt dy mo I L) (aw cA ad Ia La)) (55 + 2 * i_15) (330 + 12 * i_15) 178 [(0, .ref (ac (0, 0, 0))), (1, .ref (ad (0, 0, 0))), (2, .ref (ad (1, 0, 0))), (3, .ref (ad (2, 0, 0))), (4, .ref (ad (4, 0, 0))), (5, .ref (ad (5, 0, 0))), (6, .ref (ad (6, 0, 0))), (7, .ref (ad (10, 0, 0))), (8, .ref (ad (8, 0, 0))), (9, .ref (ad (9, 0, 0))), (10, .ref (ad (7, 0, 0))), (11, .int (nI one)), (12, .int (nI two)), (13, .int 1), (14, .int (nI i_15))] []) 0 (Nat.zero_le _) (fun h => W.widen (by show (1 + 9 * 6) ≤ (55 + 2 * 0); omega) (by show (6 + 54 * 6) ≤ (330 + 12 * 0); omega) (h _ _ _ hH_10 hS_11 (lv_sub hl_14 [1, 2, 3, 4, 5, 6, 7, 8, 9, 10, 11, 12, 13, 14, 0] rfl))) ?_ ?_
    · intro H locs ls hH_17 hS_18 hl_19
      refine lv_iload hx hb dL_isSo_178 (lv_at hl_19 14 rfl) ?_
      refine lv_aload hx hb dL_isSo_180 (lv_at hl_19 7 rfl) ?_
      refine lv_iconst (v := 1) hx hb dL_isSo_182 (by decide) ?_
      refine ls_ild C hH_17 10 rfl (by decide) (j := 1) rfl (show 1 < 3 by omega) dL_isSo_183 ?_
      refine W.eq (g2 := F0 m 184 ls [.int (nI nc), .int (nI nc)]) (by rw [e1]) ?_
      refine lv_icmp_ge (tgt := 240) hx hb dL_isSo_184 (by decide) (fun c_20 => ?_) (fun c_20 => absurd (Int32.le_refl _) c_20)
      refine lv_iload hx hb dL_isSo_240 (lv_at hl_19 12 rfl) ?_
      refine lv_iconst (v := 4) hx hb dL_isSo_242 (by decide) ?_
      refine lv_irem hx hb dL_isSo_243 (by decide) ?_
      refine W.eq (g2 := F0 m 244 ls [.int (nI (two % 4))]) (by rw [show ((nI two) - (nI two) / 4 * 4 : Int32) = nI (two % 4) from (zi_rem rfl (b := 4) rfl (by omega) (by decide) (by decide))]) ?_
      refine lv_istore (lv' := [(14, .int (nI (two % 4))), (0, .ref (ac (0, 0, 0))), (1, .ref (ad (0, 0, 0))), (2, .ref (ad (1, 0, 0))), (3, .ref (ad (2, 0, 0))), (4, .ref (ad (4, 0, 0))), (5, .ref (ad (5, 0, 0))), (6, .ref (ad (6, 0, 0))), (7, .ref (ad (10, 0, 0))), (8, .ref (ad (8, 0, 0))), (9, .ref (ad (9, 0, 0))), (10, .ref (ad (7, 0, 0))), (11, .int (nI one)), (12, .int (nI two)), (13, .int 1)]) hx hb dL_isSo_244 hl_19 (by decide) rfl (fun ls hl_21 => ?_)
      refine z_stp (n := nt) (d := 4) (P := fun i_22 => zL p l e rmH_isSo s m _ below meth c 19 D A _ (zk_sum 50 (cw cA (g 0) ac 6 nc nc 6 nt dy mo I L) (aw cA ad Ia La)) (61 + 4 * i_22) (366 + 21 * i_22) 246 [(0, .ref (ac (0, 0, 0))), (1, .ref (ad (0, 0, 0))), (2, .ref (ad (1, 0, 0))), (3, .ref (ad (2, 0, 0))), (4, .ref (ad (4, 0, 0))), (5, .ref (ad (5, 0, 0))), (6, .ref (ad (6, 0, 0))), (7, .ref (ad (10, 0, 0))), (8, .ref (ad (8, 0, 0))), (9, .ref (ad (9, 0, 0))), (10, .ref (ad (7, 0, 0))), (11, .int (nI one)), (12, .int (nI two)), (13, .int 1), (14, .int (nI i_22))] []) (two % 4) (by decide) (by omega) (fun h => W.widen (by show (55 + 2 * nc) ≤ (61 + 4 * (two % 4)); omega) (by show (330 + 12 * nc) ≤ (366 + 21 * (two % 4)); omega) (h _ _ _ hH_17 hS_18 (lv_sub hl_21 [1, 2, 3, 4, 5, 6, 7, 8, 9, 10, 11, 12, 13, 14, 0] rfl))) ?_ ?_
      · intro i_22 hi_22 vi_22 H locs ls hH_24 hS_25 hl_26
        refine lv_iload hx hb dL_isSo_246 (lv_at hl_26 14 rfl) ?_
        refine lv_aload hx hb dL_isSo_248 (lv_at hl_26 7 rfl) ?_
        refine lv_iconst (v := 2) hx hb dL_isSo_250 (by decide) ?_
        refine ls_ild C hH_24 10 rfl (by decide) (j := 2) rfl (show 2 < 3 by omega) dL_isSo_251 ?_
        refine W.eq (g2 := F0 m 252 ls [.int (nI nt), .int (nI i_22)]) (by rw [e2]) ?_
        refine lv_icmp_ge (tgt := 416) hx hb dL_isSo_252 (by decide) (fun c_27 => ?_) (fun c_27 => absurd (show nI nt ≤ nI i_22 from nI_le (a := nt) hi_22 (by omega)) c_27)
        refine lv_aload hx hb dL_isSo_416 (lv_at hl_26 7 rfl) ?_
        refine lv_iconst (v := 1) hx hb dL_isSo_418 (by decide) ?_
        refine ls_ild C hH_24 10 rfl (by decide) (j := 1) rfl (show 1 < 3 by omega) dL_isSo_419 ?_
        refine W.eq (g2 := F0 m 420 ls [.int (nI nc)]) (by rw [e1]) ?_
        refine lv_if_ne (tgt := 427) hx hb dL_isSo_420 (by decide) (fun c_28 => ?_) (fun c_28 => absurd ((nI_k0 (by omega)).mp c_28) (by omega))
        refine lv_iload hx hb dL_isSo_427 (lv_at hl_26 11 rfl) ?_
        refine lv_aload hx hb dL_isSo_429 (lv_at hl_26 7 rfl) ?_
        refine lv_iconst (v := 1) hx hb dL_isSo_431 (by decide) ?_
        refine ls_ild C hH_24 10 rfl (by decide) (j := 1) rfl (show 1 < 3 by omega) dL_isSo_432 ?_
        refine W.eq (g2 := F0 m 433 ls [.int (nI nc), .int (nI one)]) (by rw [e1]) ?_
        refine lv_irem hx hb dL_isSo_433 (fun z => absurd ((nI_k0 (by omega)).mp z) (by omega)) ?_
        refine W.eq (g2 := F0 m 434 ls [.int (nI (one % nc))]) (by rw [show ((nI one) - (nI one) / (nI nc) * (nI nc) : Int32) = nI (one % nc) from (zi_rem rfl rfl (by omega) (by omega) (by omega))]) ?_
        refine W.eq (g2 := F0 m 434 ls [.int (nI cli)]) (by rw [hcl0]) ?_
        refine lv_istore (lv' := [(14, .int (nI cli)), (0, .ref (ac (0, 0, 0))), (1, .ref (ad (0, 0, 0))), (2, .ref (ad (1, 0, 0))), (3, .ref (ad (2, 0, 0))), (4, .ref (ad (4, 0, 0))), (5, .ref (ad (5, 0, 0))), (6, .ref (ad (6, 0, 0))), (7, .ref (ad (10, 0, 0))), (8, .ref (ad (8, 0, 0))), (9, .ref (ad (9, 0, 0))), (10, .ref (ad (7, 0, 0))), (11, .int (nI one)), (12, .int (nI two)), (13, .int 1)]) hx hb dL_isSo_434 hl_26 (by decide) rfl (fun ls hl_29 => ?_)
        refine lv_aload hx hb dL_isSo_436 (lv_at hl_29 5 rfl) ?_
        refine lv_aload hx hb dL_isSo_438 (lv_at hl_29 6 rfl) ?_
        refine lv_aload hx hb dL_isSo_440 (lv_at hl_29 7 rfl) ?_
        refine lv_aload hx hb dL_isSo_442 (lv_at hl_29 8 rfl) ?_
        refine lv_aload hx hb dL_isSo_444 (lv_at hl_29 9 rfl) ?_
        refine lv_aload hx hb dL_isSo_446 (lv_at hl_29 10 rfl) ?_
        refine lv_iload hx hb dL_isSo_448 (lv_at hl_29 0 rfl) ?_
        refine zk_cv (zk_rS (As := [.ref (ad (4, 0, 0)), .ref (ad (5, 0, 0)), .ref (ad (6, 0, 0)), .ref (ad (10, 0, 0)), .ref (ad (8, 0, 0)), .ref (ad (9, 0, 0)), .int (nI cli)]) (rest := []) (n := 7) (w := zk_sum 50 (cw cA (g 0) ac 6 nc nc 6 nt dy mo I L) (aw cA ad Ia La)) C (zM_Rv (n := 50) (w1 := cw cA (g 0) ac 6 nc nc 6 nt dy mo I L) (fun A_ => (cH_taxes l D cA A_ g ad Ia La nt cli e2 hn30 (by omega) hJ.tr)) cw_lt A) hH_24 hS_25 gL_isSo_L_taxes rfl rfl (by decide +kernel) ⟨Nat.le_of_ble_eq_true rfl, Nat.le_of_ble_eq_true rfl⟩ hl_29 rfl (Nat.le_of_ble_eq_true rfl) dL_isSo_450 ⟨by show (61 + 4 * i_22) + 0 ≤ 570; omega, by show (366 + 21 * i_22) + 0 ≤ 3260; omega⟩) hS_25 (fun w_31 H locs hP hH_32 hS_33 => ?_)
        obtain ⟨w2_, hP, rfl⟩ := hP
        subst hP
        refine lv_iload hx hb dL_isSo_453 (lv_at hl_29 14 rfl) ?_
        refine lv_if_eq (tgt := 472) hx hb dL_isSo_455 (by decide) (fun c_34 => absurd c_34 (by decide)) (fun c_34 => ?_)
        refine lv_aload hx hb dL_isSo_458 (lv_at hl_29 10 rfl) ?_
        refine lv_bipush (v := 63) hx hb dL_isSo_460 (by decide) ?_
        refine ls_lld C hH_32 9 rfl (by decide) (j := 63) rfl (show 63 < 64 by omega) dL_isSo_462 ?_
        refine W.eq (g2 := F0 m 463 ls [.long 0]) (by rw [tx63]) ?_
        refine lv_lconst (v := 0) hx hb dL_isSo_463 (by decide) ?_
        refine zl_cmp_ne (tgt := 472) hx hb dL_isSo_464 dL_isSo_465 (by decide) (fun c_35 => absurd c_35 (by decide)) (fun c_35 => ?_)
        refine lv_iconst (v := 1) hx hb dL_isSo_468 (by decide) ?_
        refine lv_goto (tgt := 473) hx hb dL_isSo_469 (by decide) ?_
        refine lv_istore (lv' := [(13, .int 1), (14, .int (nI cli)), (0, .ref (ac (0, 0, 0))), (1, .ref (ad (0, 0, 0))), (2, .ref (ad (1, 0, 0))), (3, .ref (ad (2, 0, 0))), (4, .ref (ad (4, 0, 0))), (5, .ref (ad (5, 0, 0))), (6, .ref (ad (6, 0, 0))), (7, .ref (ad (10, 0, 0))), (8, .ref (ad (8, 0, 0))), (9, .ref (ad (9, 0, 0))), (10, .ref (ad (7, 0, 0))), (11, .int (nI one)), (12, .int (nI two))]) hx hb dL_isSo_473 hl_29 (by decide) rfl (fun ls hl_36 => ?_)
        refine lv_iload hx hb dL_isSo_475 (lv_at hl_36 14 rfl) ?_
        refine lv_iconst (v := 2) hx hb dL_isSo_477 (by decide) ?_
        refine lv_irem hx hb dL_isSo_478 (by decide) ?_
        refine W.eq (g2 := F0 m 479 ls [.int (nI (two % 2))]) (by rw [show ((nI two) - (nI two) / 2 * 2 : Int32) = nI (two % 2) from (zi_rem rfl (b := 2) rfl (by omega) (by decide) (by decide))]) ?_
        refine lv_istore (lv' := [(15, .int (nI (two % 2))), (13, .int 1), (14, .int (nI cli)), (0, .ref (ac (0, 0, 0))), (1, .ref (ad (0, 0, 0))), (2, .ref (ad (1, 0, 0))), (3, .ref (ad (2, 0, 0))), (4, .ref (ad (4, 0, 0))), (5, .ref (ad (5, 0, 0))), (6, .ref (ad (6, 0, 0))), (7, .ref (ad (10, 0, 0))), (8, .ref (ad (8, 0, 0))), (9, .ref (ad (9, 0, 0))), (10, .ref (ad (7, 0, 0))), (11, .int (nI one)), (12, .int (nI two))]) hx hb dL_isSo_479 hl_36 (by decide) rfl (fun ls hl_37 => ?_)
        refine z_stp (n := 21) (d := 2) (P := fun i_38 => zL p l e rmH_isSo s m _ below meth c 19 D A _ (zk_sum 50 (cw cA (g 0) ac 6 nc nc 6 nt dy mo I L) (aw cA ad Ia (taxL Ia La cli nt))) (200 + 4 * i_38) (1060 + 24 * i_38) 481 [(0, .ref (ac (0, 0, 0))), (1, .ref (ad (0, 0, 0))), (2, .ref (ad (1, 0, 0))), (3, .ref (ad (2, 0, 0))), (4, .ref (ad (4, 0, 0))), (5, .ref (ad (5, 0, 0))), (6, .ref (ad (6, 0, 0))), (7, .ref (ad (10, 0, 0))), (8, .ref (ad (8, 0, 0))), (9, .ref (ad (9, 0, 0))), (10, .ref (ad (7, 0, 0))), (11, .int (nI one)), (12, .int (nI two)), (13, .int 1), (14, .int (nI cli)), (15, .int (nI i_38))] []) (two % 2) (by decide) (by omega) (fun h => W.widen (by show (61 + 4 * i_22) + 0 ≤ (200 + 4 * (two % 2)); omega) (by show (366 + 21 * i_22) + 0 ≤ (1060 + 24 * (two % 2)); omega) (h _ _ _ hH_32 hS_33 (lv_sub hl_37 [3, 4, 5, 6, 7, 8, 9, 10, 11, 12, 13, 14, 15, 1, 2, 0] rfl))) ?_ ?_
        · intro i_38 hi_38 vi_38 H locs ls hH_40 hS_41 hl_42
          refine lv_iload hx hb dL_isSo_481 (lv_at hl_42 15 rfl) ?_
          refine lv_bipush (v := 21) hx hb dL_isSo_483 (by decide) ?_
          refine lv_icmp_ge (tgt := 601) hx hb dL_isSo_485 (by decide) (fun c_43 => ?_) (fun c_43 => absurd (show (21 : Int32) ≤ nI i_38 from nI_le (a := 21) hi_38 (by omega)) c_43)
          refine lv_iload hx hb dL_isSo_601 (lv_at hl_42 12 rfl) ?_
          refine lv_bipush (v := 6) hx hb dL_isSo_603 (by decide) ?_
          refine lv_irem hx hb dL_isSo_605 (by decide) ?_
          refine W.eq (g2 := F0 m 606 ls [.int (nI (two % 6))]) (by rw [show ((nI two) - (nI two) / 6 * 6 : Int32) = nI (two % 6) from (zi_rem rfl (b := 6) rfl (by omega) (by decide) (by decide))]) ?_
          refine W.eq (g2 := F0 m 606 ls [.int (nI fu)]) (by rw [hfu0]) ?_
          refine lv_istore (lv' := [(15, .int (nI fu)), (0, .ref (ac (0, 0, 0))), (1, .ref (ad (0, 0, 0))), (2, .ref (ad (1, 0, 0))), (3, .ref (ad (2, 0, 0))), (4, .ref (ad (4, 0, 0))), (5, .ref (ad (5, 0, 0))), (6, .ref (ad (6, 0, 0))), (7, .ref (ad (10, 0, 0))), (8, .ref (ad (8, 0, 0))), (9, .ref (ad (9, 0, 0))), (10, .ref (ad (7, 0, 0))), (11, .int (nI one)), (12, .int (nI two)), (13, .int 1), (14, .int (nI cli))]) hx hb dL_isSo_606 hl_42 (by decide) rfl (fun ls hl_44 => ?_)
          refine lv_iconst (v := 0) hx hb dL_isSo_608 (by decide) ?_
          refine lv_istore (lv' := [(16, .int 0), (15, .int (nI fu)), (0, .ref (ac (0, 0, 0))), (1, .ref (ad (0, 0, 0))), (2, .ref (ad (1, 0, 0))), (3, .ref (ad (2, 0, 0))), (4, .ref (ad (4, 0, 0))), (5, .ref (ad (5, 0, 0))), (6, .ref (ad (6, 0, 0))), (7, .ref (ad (10, 0, 0))), (8, .ref (ad (8, 0, 0))), (9, .ref (ad (9, 0, 0))), (10, .ref (ad (7, 0, 0))), (11, .int (nI one)), (12, .int (nI two)), (13, .int 1), (14, .int (nI cli))]) hx hb dL_isSo_609 hl_44 (by decide) rfl (fun ls hl_45 => ?_)
          refine lv_aload hx hb dL_isSo_611 (lv_at hl_45 6 rfl) ?_
          refine lv_aload hx hb dL_isSo_613 (lv_at hl_45 7 rfl) ?_
          refine lv_aload hx hb dL_isSo_615 (lv_at hl_45 8 rfl) ?_
          refine lv_aload hx hb dL_isSo_617 (lv_at hl_45 9 rfl) ?_
          refine lv_aload hx hb dL_isSo_619 (lv_at hl_45 10 rfl) ?_
          refine lv_aload hx hb dL_isSo_621 (lv_at hl_45 11 rfl) ?_
          refine lv_iload hx hb dL_isSo_623 (lv_at hl_45 16 rfl) ?_
          refine lv_iload hx hb dL_isSo_625 (lv_at hl_45 1 rfl) ?_
          refine zk_ci (zk_rS (As := [.ref (ad (4, 0, 0)), .ref (ad (5, 0, 0)), .ref (ad (6, 0, 0)), .ref (ad (10, 0, 0)), .ref (ad (8, 0, 0)), .ref (ad (9, 0, 0)), .int (nI cli), .int (nI fu)]) (rest := []) (n := 8) (w := zk_sum 50 (cw cA (g 0) ac 6 nc nc 6 nt dy mo I L) (aw cA ad Ia (taxL Ia La cli nt))) C (zM_Ri (n := 50) (w1 := cw cA (g 0) ac 6 nc nc 6 nt dy mo I L) (fun A_ => (cH_goes l D cA A_ g ad Ia (taxL Ia La cli nt) nt cli fu e2 hn30 (by omega) (by omega) hJ.tr)) cw_lt A) hH_40 hS_41 gL_isSo_L_goes rfl rfl (by decide +kernel) ⟨Nat.le_of_ble_eq_true rfl, Nat.le_of_ble_eq_true rfl⟩ hl_45 rfl (Nat.le_of_ble_eq_true rfl) dL_isSo_627 ⟨by show (200 + 4 * i_38) + 0 ≤ 570; omega, by show (1060 + 24 * i_38) + 0 ≤ 3260; omega⟩) hS_41 (fun r_46 w_47 H locs hP hH_48 hS_49 => ?_)
          obtain ⟨w2_, hP, rfl⟩ := hP
          obtain ⟨rfl, rfl⟩ := hP
          refine W.eq (g2 := F0 m 630 ls [.int 1]) (by rw [lr1]) ?_
          refine lv_istore (lv' := [(17, .int 1), (16, .int 0), (15, .int (nI fu)), (0, .ref (ac (0, 0, 0))), (1, .ref (ad (0, 0, 0))), (2, .ref (ad (1, 0, 0))), (3, .ref (ad (2, 0, 0))), (4, .ref (ad (4, 0, 0))), (5, .ref (ad (5, 0, 0))), (6, .ref (ad (6, 0, 0))), (7, .ref (ad (10, 0, 0))), (8, .ref (ad (8, 0, 0))), (9, .ref (ad (9, 0, 0))), (10, .ref (ad (7, 0, 0))), (11, .int (nI one)), (12, .int (nI two)), (13, .int 1), (14, .int (nI cli))]) hx hb dL_isSo_630 hl_45 (by decide) rfl (fun ls hl_50 => ?_)
          refine lv_iconst (v := 0) hx hb dL_isSo_632 (by decide) ?_
          refine lv_istore (lv' := [(18, .int 0), (17, .int 1), (16, .int 0), (15, .int (nI fu)), (0, .ref (ac (0, 0, 0))), (1, .ref (ad (0, 0, 0))), (2, .ref (ad (1, 0, 0))), (3, .ref (ad (2, 0, 0))), (4, .ref (ad (4, 0, 0))), (5, .ref (ad (5, 0, 0))), (6, .ref (ad (6, 0, 0))), (7, .ref (ad (10, 0, 0))), (8, .ref (ad (8, 0, 0))), (9, .ref (ad (9, 0, 0))), (10, .ref (ad (7, 0, 0))), (11, .int (nI one)), (12, .int (nI two)), (13, .int 1), (14, .int (nI cli))]) hx hb dL_isSo_633 hl_50 (by decide) rfl (fun ls hl_51 => ?_)
          refine z_at (n := nt) (P := fun i_52 => zL p l e rmH_isSo s m _ below meth c 19 D A _ (zk_sum 50 (cw cA (g 0) ac 6 nc nc 6 nt dy mo I L) (aw cA ad Ia ((goS Ia (taxL Ia La cli nt) cli fu nt).2))) (290 + 9 * i_52) (1590 + 54 * i_52) 635 [(0, .ref (ac (0, 0, 0))), (1, .ref (ad (0, 0, 0))), (2, .ref (ad (1, 0, 0))), (3, .ref (ad (2, 0, 0))), (4, .ref (ad (4, 0, 0))), (5, .ref (ad (5, 0, 0))), (6, .ref (ad (6, 0, 0))), (7, .ref (ad (10, 0, 0))), (8, .ref (ad (8, 0, 0))), (9, .ref (ad (9, 0, 0))), (10, .ref (ad (7, 0, 0))), (11, .int (nI one)), (12, .int (nI two)), (13, .int 1), (14, .int (nI cli)), (15, .int (nI fu)), (16, .int (nI (lcN I L cli fu i_52))), (17, .int 1), (18, .int (nI i_52))] []) 0 (Nat.zero_le _) (fun h => W.widen (by show (200 + 4 * i_38) + 0 ≤ (290 + 9 * 0); omega) (by show (1060 + 24 * i_38) + 0 ≤ (1590 + 54 * 0); omega) (h _ _ _ hH_48 hS_49 (lv_sub hl_51 [4, 5, 6, 7, 8, 9, 10, 11, 12, 13, 14, 15, 16, 17, 18, 3, 2, 1, 0] rfl))) ?_ ?_
          · intro H locs ls hH_54 hS_55 hl_56
            refine lv_iload hx hb dL_isSo_635 (lv_at hl_56 18 rfl) ?_
            refine lv_aload hx hb dL_isSo_637 (lv_at hl_56 7 rfl) ?_
            refine lv_iconst (v := 2) hx hb dL_isSo_639 (by decide) ?_
            refine ls_ild C hH_54 10 rfl (by decide) (j := 2) rfl (show 2 < 3 by omega) dL_isSo_640 ?_
            refine W.eq (g2 := F0 m 641 ls [.int (nI nt), .int (nI nt)]) (by rw [e2]) ?_
            refine lv_icmp_ge (tgt := 743) hx hb dL_isSo_641 (by decide) (fun c_57 => ?_) (fun c_57 => absurd (Int32.le_refl _) c_57)
            refine lv_iload hx hb dL_isSo_743 (lv_at hl_56 13 rfl) ?_
            refine lv_if_eq (tgt := 801) hx hb dL_isSo_745 (by decide) (fun c_58 => absurd c_58 (by decide)) (fun c_58 => ?_)
            refine lv_iload hx hb dL_isSo_748 (lv_at hl_56 17 rfl) ?_
            refine lv_if_eq (tgt := 801) hx hb dL_isSo_750 (by decide) (fun c_59 => absurd c_59 (by decide)) (fun c_59 => ?_)
            refine lv_aload hx hb dL_isSo_753 (lv_at hl_56 7 rfl) ?_
            refine lv_iconst (v := 1) hx hb dL_isSo_755 (by decide) ?_
            refine ls_ild C hH_54 10 rfl (by decide) (j := 1) rfl (show 1 < 3 by omega) dL_isSo_756 ?_
            refine W.eq (g2 := F0 m 757 ls [.int (nI nc)]) (by rw [e1]) ?_
            refine lv_if_eq (tgt := 778) hx hb dL_isSo_757 (by decide) (fun c_60 => absurd ((nI_k0 (by omega)).mp c_60) (by omega)) (fun c_60 => ?_)
            refine lv_aload_n hx hb dL_isSo_760 rfl (lv_at hl_56 0 rfl) ?_
            refine lv_iload hx hb dL_isSo_761 (lv_at hl_56 14 rfl) ?_
            refine lv_iload hx hb dL_isSo_763 (lv_at hl_56 15 rfl) ?_
            refine lv_iload hx hb dL_isSo_765 (lv_at hl_56 16 rfl) ?_
            refine lv_iconst (v := 1) hx hb dL_isSo_767 (by decide) ?_
            refine zk_cl (zk_rV (As := [.int (nI cli), .int (nI fu), .int (nI (lcN I L cli fu nt)), .int 1]) (rest := []) (n := 4) (k := (0, 0, 0)) (w := zk_sum 50 (cw cA (g 0) ac 6 nc nc 6 nt dy mo I L) (aw cA ad Ia ((goS Ia (taxL Ia La cli nt) cli fu nt).2))) C (q_lot l D cA A g ac nc nt dy mo I L _ hst cli fu (lcN I L cli fu nt) 1 ((-1)) (lf_end (by omega)) (by omega) (by omega) (by have := lcN_le (I := I) (L := L) (c := cli) (f := fu) nt; omega) (by decide) (by omega) (by omega) h11 h12) hH_54 hS_55 rfl rfl rfl gL_isSo_X4_lot rfl rfl (by decide +kernel) ⟨Nat.le_of_ble_eq_true rfl, Nat.le_of_ble_eq_true rfl⟩ hl_56 rfl (Nat.le_of_ble_eq_true rfl) dL_isSo_768 ⟨by show (290 + 9 * nt) + 3 ≤ 570; omega, by show (1590 + 54 * nt) + 18 ≤ 3260; omega⟩) hS_55 (fun r_61 w_62 H locs hP hH_63 hS_64 => ?_)
            obtain ⟨rfl, rfl⟩ := hP
            refine lv_ldc2 (v := (-1)) hx hb hown (hts (.constantLong RL 120 (-1)) (by decide +kernel)) dL_isSo_771 ?_
            refine zl_cmp_ne (tgt := 801) hx hb dL_isSo_774 dL_isSo_775 (by decide) (fun c_65 => absurd rfl c_65) (fun c_65 => ?_)
            refine lv_aload_n hx hb dL_isSo_778 rfl (lv_at hl_56 0 rfl) ?_
            refine lv_bipush (v := 9) hx hb dL_isSo_779 (by decide) ?_
            refine lv_aload hx hb dL_isSo_781 (lv_at hl_56 7 rfl) ?_
            refine lv_iconst (v := 2) hx hb dL_isSo_783 (by decide) ?_
            refine ls_ild C hH_63 10 rfl (by decide) (j := 2) rfl (show 2 < 3 by omega) dL_isSo_784 ?_
            refine W.eq (g2 := F0 m 785 ls [.int (nI nt), .int 9, .ref (ac (0, 0, 0))]) (by rw [e2]) ?_
            refine lv_iconst (v := 0) hx hb dL_isSo_785 (by decide) ?_
            refine lv_iconst (v := 0) hx hb dL_isSo_786 (by decide) ?_
            refine zk_cl (zk_rSH (As := [.ref (ac (0, 0, 0)), .int 9, .int (nI nt), .int 0, .int 0]) (rest := []) (n := 5) (w := zk_sum 50 (cw cA (g 0) ac 6 nc nc 6 nt dy mo I L) (aw cA ad Ia ((goS Ia (taxL Ia La cli nt) cli fu nt).2))) C (q_does9 l D cA A g ac nc nt dy mo I L _ hst (by omega) h11 h12) hH_63 hS_64 gL_isSo_L_does rfl rfl (by decide +kernel) ⟨Nat.le_of_ble_eq_true rfl, Nat.le_of_ble_eq_true rfl⟩ hl_56 rfl (Nat.le_of_ble_eq_true rfl) dL_isSo_787 ⟨by show (290 + 9 * nt) + 3 + 2 ≤ 570; omega, by show (1590 + 54 * nt) + 18 + 12 ≤ 3260; omega⟩) hS_64 (fun r_66 w_67 H locs hP hH_68 hS_69 => ?_)
            obtain ⟨rfl, rfl⟩ := hP
            refine lv_ldc2 (v := (-3000000000000)) hx hb hown (hts (.constantLong RL 59 (-3000000000000)) (by decide +kernel)) dL_isSo_790 ?_
            refine zl_cmp_ne (tgt := 801) hx hb dL_isSo_793 dL_isSo_794 (by decide) (fun c_70 => absurd c_70 (by decide)) (fun c_70 => ?_)
            refine lv_iconst (v := 1) hx hb dL_isSo_797 (by decide) ?_
            refine lv_goto (tgt := 802) hx hb dL_isSo_798 (by decide) ?_
            refine zr_zret C hr (Or.inr rfl) ?_ hH_68 hS_69 (by show (290 + 9 * nt) + 3 + 2 ≤ 570; omega) (by show (1590 + 54 * nt) + 18 + 12 ≤ 3260; omega) dL_isSo_802
            exact ⟨rfl, _, fun a a8 a9 => (goS_a a8 a9 nt).trans (taxL_a a8 a9), rfl⟩
          · intro i_52 hi_52 ih_53 H locs ls hH_71 hS_72 hl_73
            refine lv_iload hx hb dL_isSo_635 (lv_at hl_73 18 rfl) ?_
            refine lv_aload hx hb dL_isSo_637 (lv_at hl_73 7 rfl) ?_
            refine lv_iconst (v := 2) hx hb dL_isSo_639 (by decide) ?_
            refine ls_ild C hH_71 10 rfl (by decide) (j := 2) rfl (show 2 < 3 by omega) dL_isSo_640 ?_
            refine W.eq (g2 := F0 m 641 ls [.int (nI nt), .int (nI i_52)]) (by rw [e2]) ?_
            refine lv_icmp_ge (tgt := 743) hx hb dL_isSo_641 (by decide) (fun c_74 => absurd c_74 (nI_ge hi_52 (by first | decide | omega))) (fun c_74 => ?_)
            refine lv_iload hx hb dL_isSo_644 (lv_at hl_73 13 rfl) ?_
            refine lv_if_eq (tgt := 743) hx hb dL_isSo_646 (by decide) (fun c_75 => absurd c_75 (by decide)) (fun c_75 => ?_)
            refine lv_aload hx hb dL_isSo_649 (lv_at hl_73 7 rfl) ?_
            refine lv_iconst (v := 1) hx hb dL_isSo_651 (by decide) ?_
            refine ls_ild C hH_71 10 rfl (by decide) (j := 1) rfl (show 1 < 3 by omega) dL_isSo_652 ?_
            refine W.eq (g2 := F0 m 653 ls [.int (nI nc)]) (by rw [e1]) ?_
            refine lv_if_le (tgt := 743) hx hb dL_isSo_653 (by decide) (fun c_76 => absurd ((nI_leI (by omega) (by decide)).mp (show nI nc ≤ nI 0 from c_76)) (by omega)) (fun c_76 => ?_)
            refine lv_aload hx hb dL_isSo_656 (lv_at hl_73 8 rfl) ?_
            refine lv_iload hx hb dL_isSo_658 (lv_at hl_73 18 rfl) ?_
            refine ls_lld C hH_71 8 rfl (by decide) (j := i_52) rfl (show i_52 < 60 by omega) dL_isSo_660 ?_
            refine lv_lconst (v := 0) hx hb dL_isSo_661 (by decide) ?_
            refine zl_cmp_le (tgt := 737) hx hb dL_isSo_662 dL_isSo_663 (by decide) (fun c_77 => ?_) (fun c_77 => ?_)
            · refine lv_iinc (v := nI (i_52 + 1)) (lv' := [(18, .int (nI (i_52 + 1))), (0, .ref (ac (0, 0, 0))), (1, .ref (ad (0, 0, 0))), (2, .ref (ad (1, 0, 0))), (3, .ref (ad (2, 0, 0))), (4, .ref (ad (4, 0, 0))), (5, .ref (ad (5, 0, 0))), (6, .ref (ad (6, 0, 0))), (7, .ref (ad (10, 0, 0))), (8, .ref (ad (8, 0, 0))), (9, .ref (ad (9, 0, 0))), (10, .ref (ad (7, 0, 0))), (11, .int (nI one)), (12, .int (nI two)), (13, .int 1), (14, .int (nI cli)), (15, .int (nI fu)), (16, .int (nI (lcN I L cli fu i_52))), (17, .int 1)]) hx hb dL_isSo_737 hl_73 (k := 18) rfl (nI_1 i_52) (by decide) rfl (fun ls hl_78 => ?_)
              refine lv_goto (tgt := 635) hx hb dL_isSo_740 (by decide) ?_
              exact W.widen (by show (290 + 9 * i_52) ≤ (290 + 9 * (i_52 + 1)); omega) (by show (1590 + 54 * i_52) ≤ (1590 + 54 * (i_52 + 1)); omega) (ih_53 _ _ _ hH_71 hS_72 (by rw [lcN_n (fun z => c_77 ((lr i_52 hi_52).1.mpr z))]; exact lv_sub hl_78 [1, 2, 3, 4, 5, 6, 7, 8, 9, 10, 11, 12, 13, 14, 15, 16, 17, 18, 0] rfl))
            · refine lv_aload_n hx hb dL_isSo_666 rfl (lv_at hl_73 0 rfl) ?_
              refine lv_iload hx hb dL_isSo_667 (lv_at hl_73 14 rfl) ?_
              refine lv_iload hx hb dL_isSo_669 (lv_at hl_73 15 rfl) ?_
              refine lv_iload hx hb dL_isSo_671 (lv_at hl_73 16 rfl) ?_
              refine lv_iconst (v := 0) hx hb dL_isSo_673 (by decide) ?_
              refine zk_cl (zk_rV (As := [.int (nI cli), .int (nI fu), .int (nI (lcN I L cli fu i_52)), .int 0]) (rest := []) (n := 4) (k := (0, 0, 0)) (w := zk_sum 50 (cw cA (g 0) ac 6 nc nc 6 nt dy mo I L) (aw cA ad Ia ((goS Ia (taxL Ia La cli nt) cli fu nt).2))) C (q_lot l D cA A g ac nc nt dy mo I L _ hst cli fu (lcN I L cli fu i_52) 0 (Int32.toInt64 (nI i_52)) (lf_some (by omega) (by omega) ((lr i_52 hi_52).1.mp c_77)) (by omega) (by omega) (by have := lcN_le (I := I) (L := L) (c := cli) (f := fu) i_52; omega) (by decide) (by omega) (by omega) h11 h12) hH_71 hS_72 rfl rfl rfl gL_isSo_X4_lot rfl rfl (by decide +kernel) ⟨Nat.le_of_ble_eq_true rfl, Nat.le_of_ble_eq_true rfl⟩ hl_73 rfl (Nat.le_of_ble_eq_true rfl) dL_isSo_674 ⟨by show (290 + 9 * i_52) + 3 ≤ 570; omega, by show (1590 + 54 * i_52) + 18 ≤ 3260; omega⟩) hS_72 (fun r_79 w_80 H locs hP hH_81 hS_82 => ?_)
              obtain ⟨rfl, rfl⟩ := hP
              refine lv_iload hx hb dL_isSo_677 (lv_at hl_73 18 rfl) ?_
              refine lv_i2l (v := Int32.toInt64 (nI i_52)) hx hb dL_isSo_679 rfl ?_
              refine zl_cmp_ne (tgt := 731) hx hb dL_isSo_680 dL_isSo_681 (by decide) (fun c_83 => absurd rfl c_83) (fun c_83 => ?_)
              refine lv_aload_n hx hb dL_isSo_684 rfl (lv_at hl_73 0 rfl) ?_
              refine lv_iload hx hb dL_isSo_685 (lv_at hl_73 14 rfl) ?_
              refine lv_iload hx hb dL_isSo_687 (lv_at hl_73 15 rfl) ?_
              refine lv_iload hx hb dL_isSo_689 (lv_at hl_73 16 rfl) ?_
              refine lv_iconst (v := 1) hx hb dL_isSo_691 (by decide) ?_
              refine zk_cl (zk_rV (As := [.int (nI cli), .int (nI fu), .int (nI (lcN I L cli fu i_52)), .int 1]) (rest := []) (n := 4) (k := (0, 0, 0)) (w := zk_sum 50 (cw cA (g 0) ac 6 nc nc 6 nt dy mo I L) (aw cA ad Ia ((goS Ia (taxL Ia La cli nt) cli fu nt).2))) C (q_lot l D cA A g ac nc nt dy mo I L _ hst cli fu (lcN I L cli fu i_52) 1 (L 31 i_52) (lf_some (by omega) (by omega) ((lr i_52 hi_52).1.mp c_77)) (by omega) (by omega) (by have := lcN_le (I := I) (L := L) (c := cli) (f := fu) i_52; omega) (by decide) (by omega) (by omega) h11 h12) hH_81 hS_82 rfl rfl rfl gL_isSo_X4_lot rfl rfl (by decide +kernel) ⟨Nat.le_of_ble_eq_true rfl, Nat.le_of_ble_eq_true rfl⟩ hl_73 rfl (Nat.le_of_ble_eq_true rfl) dL_isSo_692 ⟨by show (290 + 9 * i_52) + 3 + 3 ≤ 570; omega, by show (1590 + 54 * i_52) + 18 + 18 ≤ 3260; omega⟩) hS_82 (fun r_84 w_85 H locs hP hH_86 hS_87 => ?_)
              obtain ⟨rfl, rfl⟩ := hP
              refine lv_aload hx hb dL_isSo_695 (lv_at hl_73 8 rfl) ?_
              refine lv_iload hx hb dL_isSo_697 (lv_at hl_73 18 rfl) ?_
              refine ls_lld C hH_86 8 rfl (by decide) (j := i_52) rfl (show i_52 < 60 by omega) dL_isSo_699 ?_
              refine W.eq (g2 := F0 m 700 ls [.long (L 31 i_52), .long (L 31 i_52)]) (by rw [((lr i_52 hi_52).2 ((lr i_52 hi_52).1.mp c_77)).1] <;> rfl) ?_
              refine zl_cmp_ne (tgt := 731) hx hb dL_isSo_700 dL_isSo_701 (by decide) (fun c_88 => absurd rfl c_88) (fun c_88 => ?_)
              refine lv_aload_n hx hb dL_isSo_704 rfl (lv_at hl_73 0 rfl) ?_
              refine lv_iload hx hb dL_isSo_705 (lv_at hl_73 14 rfl) ?_
              refine lv_iload hx hb dL_isSo_707 (lv_at hl_73 15 rfl) ?_
              refine lv_iload hx hb dL_isSo_709 (lv_at hl_73 16 rfl) ?_
              refine lv_iconst (v := 2) hx hb dL_isSo_711 (by decide) ?_
              refine zk_cl (zk_rV (As := [.int (nI cli), .int (nI fu), .int (nI (lcN I L cli fu i_52)), .int 2]) (rest := []) (n := 4) (k := (0, 0, 0)) (w := zk_sum 50 (cw cA (g 0) ac 6 nc nc 6 nt dy mo I L) (aw cA ad Ia ((goS Ia (taxL Ia La cli nt) cli fu nt).2))) C (q_lot l D cA A g ac nc nt dy mo I L _ hst cli fu (lcN I L cli fu i_52) 2 (L 32 i_52) (lf_some (by omega) (by omega) ((lr i_52 hi_52).1.mp c_77)) (by omega) (by omega) (by have := lcN_le (I := I) (L := L) (c := cli) (f := fu) i_52; omega) (by decide) (by omega) (by omega) h11 h12) hH_86 hS_87 rfl rfl rfl gL_isSo_X4_lot rfl rfl (by decide +kernel) ⟨Nat.le_of_ble_eq_true rfl, Nat.le_of_ble_eq_true rfl⟩ hl_73 rfl (Nat.le_of_ble_eq_true rfl) dL_isSo_712 ⟨by show (290 + 9 * i_52) + 3 + 3 + 3 ≤ 570; omega, by show (1590 + 54 * i_52) + 18 + 18 + 18 ≤ 3260; omega⟩) hS_87 (fun r_89 w_90 H locs hP hH_91 hS_92 => ?_)
              obtain ⟨rfl, rfl⟩ := hP
              refine lv_aload hx hb dL_isSo_715 (lv_at hl_73 8 rfl) ?_
              refine lv_bipush (v := 30) hx hb dL_isSo_717 (by decide) ?_
              refine lv_iload hx hb dL_isSo_719 (lv_at hl_73 18 rfl) ?_
              refine lv_iadd hx hb dL_isSo_721 ?_
              refine W.eq (g2 := F0 m 722 ls [.int (nI (30 + i_52)), .ref (ad (8, 0, 0)), .long (L 32 i_52)]) (by rw [show (30 + (nI i_52) : Int32) = nI (30 + i_52) from (zi_add rfl rfl)]) ?_
              refine ls_lld C hH_91 8 rfl (by decide) (j := (30 + i_52)) rfl (show (30 + i_52) < 60 by omega) dL_isSo_722 ?_
              refine W.eq (g2 := F0 m 723 ls [.long (L 32 i_52), .long (L 32 i_52)]) (by rw [((lr i_52 hi_52).2 ((lr i_52 hi_52).1.mp c_77)).2] <;> rfl) ?_
              refine zl_cmp_ne (tgt := 731) hx hb dL_isSo_723 dL_isSo_724 (by decide) (fun c_93 => absurd rfl c_93) (fun c_93 => ?_)
              refine lv_iconst (v := 1) hx hb dL_isSo_727 (by decide) ?_
              refine lv_goto (tgt := 732) hx hb dL_isSo_728 (by decide) ?_
              refine lv_istore (lv' := [(13, .int 1), (0, .ref (ac (0, 0, 0))), (1, .ref (ad (0, 0, 0))), (2, .ref (ad (1, 0, 0))), (3, .ref (ad (2, 0, 0))), (4, .ref (ad (4, 0, 0))), (5, .ref (ad (5, 0, 0))), (6, .ref (ad (6, 0, 0))), (7, .ref (ad (10, 0, 0))), (8, .ref (ad (8, 0, 0))), (9, .ref (ad (9, 0, 0))), (10, .ref (ad (7, 0, 0))), (11, .int (nI one)), (12, .int (nI two)), (14, .int (nI cli)), (15, .int (nI fu)), (16, .int (nI (lcN I L cli fu i_52))), (17, .int 1), (18, .int (nI i_52))]) hx hb dL_isSo_732 hl_73 (by decide) rfl (fun ls hl_94 => ?_)
              refine lv_iinc (v := nI ((lcN I L cli fu i_52) + 1)) (lv' := [(16, .int (nI ((lcN I L cli fu i_52) + 1))), (13, .int 1), (0, .ref (ac (0, 0, 0))), (1, .ref (ad (0, 0, 0))), (2, .ref (ad (1, 0, 0))), (3, .ref (ad (2, 0, 0))), (4, .ref (ad (4, 0, 0))), (5, .ref (ad (5, 0, 0))), (6, .ref (ad (6, 0, 0))), (7, .ref (ad (10, 0, 0))), (8, .ref (ad (8, 0, 0))), (9, .ref (ad (9, 0, 0))), (10, .ref (ad (7, 0, 0))), (11, .int (nI one)), (12, .int (nI two)), (14, .int (nI cli)), (15, .int (nI fu)), (17, .int 1), (18, .int (nI i_52))]) hx hb dL_isSo_734 hl_94 (k := 16) rfl (nI_1 (lcN I L cli fu i_52)) (by decide) rfl (fun ls hl_95 => ?_)
              refine lv_iinc (v := nI (i_52 + 1)) (lv' := [(18, .int (nI (i_52 + 1))), (16, .int (nI ((lcN I L cli fu i_52) + 1))), (13, .int 1), (0, .ref (ac (0, 0, 0))), (1, .ref (ad (0, 0, 0))), (2, .ref (ad (1, 0, 0))), (3, .ref (ad (2, 0, 0))), (4, .ref (ad (4, 0, 0))), (5, .ref (ad (5, 0, 0))), (6, .ref (ad (6, 0, 0))), (7, .ref (ad (10, 0, 0))), (8, .ref (ad (8, 0, 0))), (9, .ref (ad (9, 0, 0))), (10, .ref (ad (7, 0, 0))), (11, .int (nI one)), (12, .int (nI two)), (14, .int (nI cli)), (15, .int (nI fu)), (17, .int 1)]) hx hb dL_isSo_737 hl_95 (k := 18) rfl (nI_1 i_52) (by decide) rfl (fun ls hl_96 => ?_)
              refine lv_goto (tgt := 635) hx hb dL_isSo_740 (by decide) ?_
              exact W.widen (by show (290 + 9 * i_52) + 3 + 3 + 3 ≤ (290 + 9 * (i_52 + 1)); omega) (by show (1590 + 54 * i_52) + 18 + 18 + 18 ≤ (1590 + 54 * (i_52 + 1)); omega) (ih_53 _ _ _ hH_91 hS_92 (by rw [lcN_p ((lr i_52 hi_52).1.mp c_77)]; exact lv_sub hl_96 [3, 4, 5, 6, 7, 8, 9, 10, 11, 12, 13, 14, 15, 2, 16, 17, 1, 18, 0] rfl))
        · intro i_38 hi_38 ih_39 H locs ls hH_97 hS_98 hl_99
          refine lv_iload hx hb dL_isSo_481 (lv_at hl_99 15 rfl) ?_
          refine lv_bipush (v := 21) hx hb dL_isSo_483 (by decide) ?_
          refine lv_icmp_ge (tgt := 601) hx hb dL_isSo_485 (by decide) (fun c_100 => absurd c_100 (nI_ge (b := 21) hi_38 (by omega))) (fun c_100 => ?_)
          refine lv_iload hx hb dL_isSo_488 (lv_at hl_99 13 rfl) ?_
          refine lv_if_eq (tgt := 601) hx hb dL_isSo_490 (by decide) (fun c_101 => absurd c_101 (by decide)) (fun c_101 => ?_)
          refine lv_aload hx hb dL_isSo_493 (lv_at hl_99 7 rfl) ?_
          refine lv_iconst (v := 1) hx hb dL_isSo_495 (by decide) ?_
          refine ls_ild C hH_97 10 rfl (by decide) (j := 1) rfl (show 1 < 3 by omega) dL_isSo_496 ?_
          refine W.eq (g2 := F0 m 497 ls [.int (nI nc)]) (by rw [e1]) ?_
          refine lv_if_le (tgt := 601) hx hb dL_isSo_497 (by decide) (fun c_102 => absurd ((nI_leI (by omega) (by decide)).mp (show nI nc ≤ nI 0 from c_102)) (by omega)) (fun c_102 => ?_)
          refine lv_aload_n hx hb dL_isSo_500 rfl (lv_at hl_99 0 rfl) ?_
          refine lv_iload hx hb dL_isSo_501 (lv_at hl_99 14 rfl) ?_
          refine lv_iload hx hb dL_isSo_503 (lv_at hl_99 15 rfl) ?_
          refine lv_iconst (v := 0) hx hb dL_isSo_505 (by decide) ?_
          refine zk_cl (zk_rV (As := [.int (nI cli), .int (nI i_38), .int 0]) (rest := []) (n := 3) (k := (0, 0, 0)) (w := zk_sum 50 (cw cA (g 0) ac 6 nc nc 6 nt dy mo I L) (aw cA ad Ia (taxL Ia La cli nt))) C (q_year l D cA A g ac nc nt dy mo I L _ hst cli i_38 0 (L 30 (21 * cli + i_38)) rfl (by omega) (by omega) (by decide) (by omega)) hH_97 hS_98 rfl rfl rfl gL_isSo_X4_year rfl rfl (by decide +kernel) ⟨Nat.le_of_ble_eq_true rfl, Nat.le_of_ble_eq_true rfl⟩ hl_99 rfl (Nat.le_of_ble_eq_true rfl) dL_isSo_506 ⟨by show (200 + 4 * i_38) + 2 ≤ 570; omega, by show (1060 + 24 * i_38) + 12 ≤ 3260; omega⟩) hS_98 (fun r_103 w_104 H locs hP hH_105 hS_106 => ?_)
          obtain ⟨rfl, rfl⟩ := hP
          refine lv_aload hx hb dL_isSo_509 (lv_at hl_99 9 rfl) ?_
          refine lv_iload hx hb dL_isSo_511 (lv_at hl_99 15 rfl) ?_
          refine ls_lld C hH_105 9 rfl (by decide) (j := i_38) rfl (show i_38 < 64 by omega) dL_isSo_513 ?_
          refine W.eq (g2 := F0 m 514 ls [.long (L 30 (21 * cli + i_38)), .long (L 30 (21 * cli + i_38))]) (by rw [(txy i_38 hi_38).1] <;> rfl) ?_
          refine zl_cmp_ne (tgt := 592) hx hb dL_isSo_514 dL_isSo_515 (by decide) (fun c_107 => absurd rfl c_107) (fun c_107 => ?_)
          refine lv_aload_n hx hb dL_isSo_518 rfl (lv_at hl_99 0 rfl) ?_
          refine lv_iload hx hb dL_isSo_519 (lv_at hl_99 14 rfl) ?_
          refine lv_iload hx hb dL_isSo_521 (lv_at hl_99 15 rfl) ?_
          refine lv_iconst (v := 1) hx hb dL_isSo_523 (by decide) ?_
          refine zk_cl (zk_rV (As := [.int (nI cli), .int (nI i_38), .int 1]) (rest := []) (n := 3) (k := (0, 0, 0)) (w := zk_sum 50 (cw cA (g 0) ac 6 nc nc 6 nt dy mo I L) (aw cA ad Ia (taxL Ia La cli nt))) C (q_year l D cA A g ac nc nt dy mo I L _ hst cli i_38 1 (bsV L cli i_38) rfl (by omega) (by omega) (by decide) (by omega)) hH_105 hS_106 rfl rfl rfl gL_isSo_X4_year rfl rfl (by decide +kernel) ⟨Nat.le_of_ble_eq_true rfl, Nat.le_of_ble_eq_true rfl⟩ hl_99 rfl (Nat.le_of_ble_eq_true rfl) dL_isSo_524 ⟨by show (200 + 4 * i_38) + 2 + 2 ≤ 570; omega, by show (1060 + 24 * i_38) + 12 + 12 ≤ 3260; omega⟩) hS_106 (fun r_108 w_109 H locs hP hH_110 hS_111 => ?_)
          obtain ⟨rfl, rfl⟩ := hP
          refine lv_aload hx hb dL_isSo_527 (lv_at hl_99 9 rfl) ?_
          refine lv_bipush (v := 22) hx hb dL_isSo_529 (by decide) ?_
          refine lv_iload hx hb dL_isSo_531 (lv_at hl_99 15 rfl) ?_
          refine lv_iadd hx hb dL_isSo_533 ?_
          refine W.eq (g2 := F0 m 534 ls [.int (nI (22 + i_38)), .ref (ad (9, 0, 0)), .long (bsV L cli i_38)]) (by rw [show (22 + (nI i_38) : Int32) = nI (22 + i_38) from (zi_add rfl rfl)]) ?_
          refine ls_lld C hH_110 9 rfl (by decide) (j := (22 + i_38)) rfl (show (22 + i_38) < 64 by omega) dL_isSo_534 ?_
          refine W.eq (g2 := F0 m 535 ls [.long (bsV L cli i_38), .long (bsV L cli i_38)]) (by rw [(txy i_38 hi_38).2] <;> rfl) ?_
          refine zl_cmp_ne (tgt := 592) hx hb dL_isSo_535 dL_isSo_536 (by decide) (fun c_112 => absurd rfl c_112) (fun c_112 => ?_)
          refine lv_aload_n hx hb dL_isSo_539 rfl (lv_at hl_99 0 rfl) ?_
          refine lv_iload hx hb dL_isSo_540 (lv_at hl_99 14 rfl) ?_
          refine lv_iload hx hb dL_isSo_542 (lv_at hl_99 15 rfl) ?_
          refine lv_iconst (v := 2) hx hb dL_isSo_544 (by decide) ?_
          refine zk_cl (zk_rV (As := [.int (nI cli), .int (nI i_38), .int 2]) (rest := []) (n := 3) (k := (0, 0, 0)) (w := zk_sum 50 (cw cA (g 0) ac 6 nc nc 6 nt dy mo I L) (aw cA ad Ia (taxL Ia La cli nt))) C (q_year l D cA A g ac nc nt dy mo I L _ hst cli i_38 2 (bsV L cli i_38 / 4) rfl (by omega) (by omega) (by decide) (by omega)) hH_110 hS_111 rfl rfl rfl gL_isSo_X4_year rfl rfl (by decide +kernel) ⟨Nat.le_of_ble_eq_true rfl, Nat.le_of_ble_eq_true rfl⟩ hl_99 rfl (Nat.le_of_ble_eq_true rfl) dL_isSo_545 ⟨by show (200 + 4 * i_38) + 2 + 2 + 2 ≤ 570; omega, by show (1060 + 24 * i_38) + 12 + 12 + 12 ≤ 3260; omega⟩) hS_111 (fun r_113 w_114 H locs hP hH_115 hS_116 => ?_)
          obtain ⟨rfl, rfl⟩ := hP
          refine lv_aload hx hb dL_isSo_548 (lv_at hl_99 9 rfl) ?_
          refine lv_bipush (v := 22) hx hb dL_isSo_550 (by decide) ?_
          refine lv_iload hx hb dL_isSo_552 (lv_at hl_99 15 rfl) ?_
          refine lv_iadd hx hb dL_isSo_554 ?_
          refine W.eq (g2 := F0 m 555 ls [.int (nI (22 + i_38)), .ref (ad (9, 0, 0)), .long (bsV L cli i_38 / 4)]) (by rw [show (22 + (nI i_38) : Int32) = nI (22 + i_38) from (zi_add rfl rfl)]) ?_
          refine ls_lld C hH_115 9 rfl (by decide) (j := (22 + i_38)) rfl (show (22 + i_38) < 64 by omega) dL_isSo_555 ?_
          refine W.eq (g2 := F0 m 556 ls [.long (bsV L cli i_38), .long (bsV L cli i_38 / 4)]) (by rw [(txy i_38 hi_38).2] <;> rfl) ?_
          refine lv_ldc2 (v := 4) hx hb hown (hts (.constantLong RL 118 4) (by decide +kernel)) dL_isSo_556 ?_
          refine lv_ldiv hx hb dL_isSo_559 (by decide) ?_
          refine zl_cmp_ne (tgt := 592) hx hb dL_isSo_560 dL_isSo_561 (by decide) (fun c_117 => absurd rfl c_117) (fun c_117 => ?_)
          refine lv_aload_n hx hb dL_isSo_564 rfl (lv_at hl_99 0 rfl) ?_
          refine lv_iload hx hb dL_isSo_565 (lv_at hl_99 14 rfl) ?_
          refine lv_iload hx hb dL_isSo_567 (lv_at hl_99 15 rfl) ?_
          refine lv_iconst (v := 3) hx hb dL_isSo_569 (by decide) ?_
          refine zk_cl (zk_rV (As := [.int (nI cli), .int (nI i_38), .int 3]) (rest := []) (n := 3) (k := (0, 0, 0)) (w := zk_sum 50 (cw cA (g 0) ac 6 nc nc 6 nt dy mo I L) (aw cA ad Ia (taxL Ia La cli nt))) C (q_year l D cA A g ac nc nt dy mo I L _ hst cli i_38 3 (L 9 (21 * cli + i_38)) rfl (by omega) (by omega) (by decide) (by omega)) hH_115 hS_116 rfl rfl rfl gL_isSo_X4_year rfl rfl (by decide +kernel) ⟨Nat.le_of_ble_eq_true rfl, Nat.le_of_ble_eq_true rfl⟩ hl_99 rfl (Nat.le_of_ble_eq_true rfl) dL_isSo_570 ⟨by show (200 + 4 * i_38) + 2 + 2 + 2 + 2 ≤ 570; omega, by show (1060 + 24 * i_38) + 12 + 12 + 12 + 12 ≤ 3260; omega⟩) hS_116 (fun r_118 w_119 H locs hP hH_120 hS_121 => ?_)
          obtain ⟨rfl, rfl⟩ := hP
          refine lv_aload hx hb dL_isSo_573 (lv_at hl_99 10 rfl) ?_
          refine lv_bipush (v := 21) hx hb dL_isSo_575 (by decide) ?_
          refine lv_iload hx hb dL_isSo_577 (lv_at hl_99 14 rfl) ?_
          refine lv_imul hx hb dL_isSo_579 ?_
          refine lv_iload hx hb dL_isSo_580 (lv_at hl_99 15 rfl) ?_
          refine lv_iadd hx hb dL_isSo_582 ?_
          refine W.eq (g2 := F0 m 583 ls [.int (nI ((21 * cli) + i_38)), .ref (ad (7, 0, 0)), .long (L 9 (21 * cli + i_38))]) (by rw [show ((21 * (nI cli)) + (nI i_38) : Int32) = nI ((21 * cli) + i_38) from (zi_add (zi_mul rfl rfl) rfl)]) ?_
          refine ls_lld C hH_120 7 rfl (by decide) (j := ((21 * cli) + i_38)) rfl (show ((21 * cli) + i_38) < 63 by omega) dL_isSo_583 ?_
          refine W.eq (g2 := F0 m 584 ls [.long (L 9 (21 * cli + i_38)), .long (L 9 (21 * cli + i_38))]) (by rw [taxL_a (show (7 : Nat) ≠ 8 by decide) (by decide), h7 (21 * cli + i_38) (by omega)] <;> rfl) ?_
          refine zl_cmp_ne (tgt := 592) hx hb dL_isSo_584 dL_isSo_585 (by decide) (fun c_122 => absurd rfl c_122) (fun c_122 => ?_)
          refine lv_iconst (v := 1) hx hb dL_isSo_588 (by decide) ?_
          refine lv_goto (tgt := 593) hx hb dL_isSo_589 (by decide) ?_
          refine lv_istore (lv' := [(13, .int 1), (0, .ref (ac (0, 0, 0))), (1, .ref (ad (0, 0, 0))), (2, .ref (ad (1, 0, 0))), (3, .ref (ad (2, 0, 0))), (4, .ref (ad (4, 0, 0))), (5, .ref (ad (5, 0, 0))), (6, .ref (ad (6, 0, 0))), (7, .ref (ad (10, 0, 0))), (8, .ref (ad (8, 0, 0))), (9, .ref (ad (9, 0, 0))), (10, .ref (ad (7, 0, 0))), (11, .int (nI one)), (12, .int (nI two)), (14, .int (nI cli)), (15, .int (nI i_38))]) hx hb dL_isSo_593 hl_99 (by decide) rfl (fun ls hl_123 => ?_)
          refine lv_iinc (v := nI (i_38 + 2)) (lv' := [(15, .int (nI (i_38 + 2))), (13, .int 1), (0, .ref (ac (0, 0, 0))), (1, .ref (ad (0, 0, 0))), (2, .ref (ad (1, 0, 0))), (3, .ref (ad (2, 0, 0))), (4, .ref (ad (4, 0, 0))), (5, .ref (ad (5, 0, 0))), (6, .ref (ad (6, 0, 0))), (7, .ref (ad (10, 0, 0))), (8, .ref (ad (8, 0, 0))), (9, .ref (ad (9, 0, 0))), (10, .ref (ad (7, 0, 0))), (11, .int (nI one)), (12, .int (nI two)), (14, .int (nI cli))]) hx hb dL_isSo_595 hl_123 (k := 15) rfl (nI_add i_38 2) (by decide) rfl (fun ls hl_124 => ?_)
          refine lv_goto (tgt := 481) hx hb dL_isSo_598 (by decide) ?_
          exact W.widen (by show (200 + 4 * i_38) + 2 + 2 + 2 + 2 ≤ (200 + 4 * (i_38 + 2)); omega) (by show (1060 + 24 * i_38) + 12 + 12 + 12 + 12 ≤ (1060 + 24 * (i_38 + 2)); omega) (ih_39 _ _ _ hH_120 hS_121 (lv_sub hl_124 [2, 3, 4, 5, 6, 7, 8, 9, 10, 11, 12, 13, 14, 1, 15, 0] rfl))
      · intro i_22 hi_22 ih_23 H locs ls hH_125 hS_126 hl_127
        refine lv_iload hx hb dL_isSo_246 (lv_at hl_127 14 rfl) ?_
        refine lv_aload hx hb dL_isSo_248 (lv_at hl_127 7 rfl) ?_
        refine lv_iconst (v := 2) hx hb dL_isSo_250 (by decide) ?_
        refine ls_ild C hH_125 10 rfl (by decide) (j := 2) rfl (show 2 < 3 by omega) dL_isSo_251 ?_
        refine W.eq (g2 := F0 m 252 ls [.int (nI nt), .int (nI i_22)]) (by rw [e2]) ?_
        refine lv_icmp_ge (tgt := 416) hx hb dL_isSo_252 (by decide) (fun c_128 => absurd c_128 (nI_ge (b := nt) hi_22 (by omega))) (fun c_128 => ?_)
        refine lv_iload hx hb dL_isSo_255 (lv_at hl_127 13 rfl) ?_
        refine lv_if_eq (tgt := 416) hx hb dL_isSo_257 (by decide) (fun c_129 => absurd c_129 (by decide)) (fun c_129 => ?_)
        refine lv_aload_n hx hb dL_isSo_260 rfl (lv_at hl_127 0 rfl) ?_
        have hpk := pk_bd hO hD hi_22
        refine lv_iload hx hb dL_isSo_261 (lv_at hl_127 14 rfl) ?_
        refine lv_iconst (v := 0) hx hb dL_isSo_263 (by decide) ?_
        refine zk_cl (zk_rV (As := [.int (nI i_22), .int 0]) (rest := []) (n := 2) (k := (0, 0, 0)) (w := zk_sum 50 (cw cA (g 0) ac 6 nc nc 6 nt dy mo I L) (aw cA ad Ia La)) C (q_tradeOf l D cA A g ac nc nt dy mo I L _ hst i_22 0 (Int32.toInt64 (I 11 i_22)) rfl (by omega) (by decide) (by omega) h11 h12) hH_125 hS_126 rfl rfl rfl gL_isSo_X4_tradeOf rfl rfl (by decide +kernel) ⟨Nat.le_of_ble_eq_true rfl, Nat.le_of_ble_eq_true rfl⟩ hl_127 rfl (Nat.le_of_ble_eq_true rfl) dL_isSo_264 ⟨by show (61 + 4 * i_22) + 2 ≤ 570; omega, by show (366 + 21 * i_22) + 12 ≤ 3260; omega⟩) hS_126 (fun r_130 w_131 H locs hP hH_132 hS_133 => ?_)
        obtain ⟨rfl, rfl⟩ := hP
        refine lv_aload hx hb dL_isSo_267 (lv_at hl_127 4 rfl) ?_
        refine lv_iload hx hb dL_isSo_269 (lv_at hl_127 14 rfl) ?_
        refine ls_ild C hH_132 4 rfl (by decide) (j := i_22) rfl (show i_22 < 30 by omega) dL_isSo_271 ?_
        refine W.eq (g2 := F0 m 272 ls [.int (nI (pkT I i_22)), .long (Int32.toInt64 (I 11 i_22))]) (by rw [(hR i_22 hi_22).1]) ?_
        refine lv_iconst (v := 4) hx hb dL_isSo_272 (by decide) ?_
        refine lv_irem hx hb dL_isSo_273 (by decide) ?_
        refine W.eq (g2 := F0 m 274 ls [.int (nI ((pkT I i_22) % 4)), .long (Int32.toInt64 (I 11 i_22))]) (by rw [show ((nI (pkT I i_22)) - (nI (pkT I i_22)) / 4 * 4 : Int32) = nI ((pkT I i_22) % 4) from (zi_rem rfl (b := 4) rfl (by omega) (by decide) (by decide))]) ?_
        refine W.eq (g2 := F0 m 274 ls [.int (I 11 i_22), .long (Int32.toInt64 (I 11 i_22))]) (by rw [(pk_11 hO hD hi_22).1]) ?_
        refine lv_i2l (v := Int32.toInt64 (I 11 i_22)) hx hb dL_isSo_274 rfl ?_
        refine zl_cmp_ne (tgt := 407) hx hb dL_isSo_275 dL_isSo_276 (by decide) (fun c_134 => absurd rfl c_134) (fun c_134 => ?_)
        refine lv_aload_n hx hb dL_isSo_279 rfl (lv_at hl_127 0 rfl) ?_
        refine lv_iload hx hb dL_isSo_280 (lv_at hl_127 14 rfl) ?_
        refine lv_iconst (v := 1) hx hb dL_isSo_282 (by decide) ?_
        refine zk_cl (zk_rV (As := [.int (nI i_22), .int 1]) (rest := []) (n := 2) (k := (0, 0, 0)) (w := zk_sum 50 (cw cA (g 0) ac 6 nc nc 6 nt dy mo I L) (aw cA ad Ia La)) C (q_tradeOf l D cA A g ac nc nt dy mo I L _ hst i_22 1 (Int32.toInt64 (I 12 i_22)) rfl (by omega) (by decide) (by omega) h11 h12) hH_132 hS_133 rfl rfl rfl gL_isSo_X4_tradeOf rfl rfl (by decide +kernel) ⟨Nat.le_of_ble_eq_true rfl, Nat.le_of_ble_eq_true rfl⟩ hl_127 rfl (Nat.le_of_ble_eq_true rfl) dL_isSo_283 ⟨by show (61 + 4 * i_22) + 2 + 2 ≤ 570; omega, by show (366 + 21 * i_22) + 12 + 12 ≤ 3260; omega⟩) hS_133 (fun r_135 w_136 H locs hP hH_137 hS_138 => ?_)
        obtain ⟨rfl, rfl⟩ := hP
        refine lv_aload hx hb dL_isSo_286 (lv_at hl_127 4 rfl) ?_
        refine lv_iload hx hb dL_isSo_288 (lv_at hl_127 14 rfl) ?_
        refine ls_ild C hH_137 4 rfl (by decide) (j := i_22) rfl (show i_22 < 30 by omega) dL_isSo_290 ?_
        refine W.eq (g2 := F0 m 291 ls [.int (nI (pkT I i_22)), .long (Int32.toInt64 (I 12 i_22))]) (by rw [(hR i_22 hi_22).1]) ?_
        refine lv_iconst (v := 4) hx hb dL_isSo_291 (by decide) ?_
        refine lv_idiv hx hb dL_isSo_292 (by decide) ?_
        refine W.eq (g2 := F0 m 293 ls [.int (nI ((pkT I i_22) / 4)), .long (Int32.toInt64 (I 12 i_22))]) (by rw [show ((nI (pkT I i_22)) / 4 : Int32) = nI ((pkT I i_22) / 4) from (zi_div rfl (b := 4) rfl (by omega) (by decide) (by decide))]) ?_
        refine lv_bipush (v := 8) hx hb dL_isSo_293 (by decide) ?_
        refine lv_irem hx hb dL_isSo_295 (by decide) ?_
        refine W.eq (g2 := F0 m 296 ls [.int (nI (((pkT I i_22) / 4) % 8)), .long (Int32.toInt64 (I 12 i_22))]) (by rw [show ((nI ((pkT I i_22) / 4)) - (nI ((pkT I i_22) / 4)) / 8 * 8 : Int32) = nI (((pkT I i_22) / 4) % 8) from (zi_rem rfl (b := 8) rfl (by omega) (by decide) (by decide))]) ?_
        refine W.eq (g2 := F0 m 296 ls [.int (I 12 i_22), .long (Int32.toInt64 (I 12 i_22))]) (by rw [(pk_11 hO hD hi_22).2.1]) ?_
        refine lv_i2l (v := Int32.toInt64 (I 12 i_22)) hx hb dL_isSo_296 rfl ?_
        refine zl_cmp_ne (tgt := 407) hx hb dL_isSo_297 dL_isSo_298 (by decide) (fun c_139 => absurd rfl c_139) (fun c_139 => ?_)
        refine lv_aload_n hx hb dL_isSo_301 rfl (lv_at hl_127 0 rfl) ?_
        refine lv_iload hx hb dL_isSo_302 (lv_at hl_127 14 rfl) ?_
        refine lv_iconst (v := 2) hx hb dL_isSo_304 (by decide) ?_
        refine zk_cl (zk_rV (As := [.int (nI i_22), .int 2]) (rest := []) (n := 2) (k := (0, 0, 0)) (w := zk_sum 50 (cw cA (g 0) ac 6 nc nc 6 nt dy mo I L) (aw cA ad Ia La)) C (q_tradeOf l D cA A g ac nc nt dy mo I L _ hst i_22 2 (L 13 i_22) rfl (by omega) (by decide) (by omega) h11 h12) hH_137 hS_138 rfl rfl rfl gL_isSo_X4_tradeOf rfl rfl (by decide +kernel) ⟨Nat.le_of_ble_eq_true rfl, Nat.le_of_ble_eq_true rfl⟩ hl_127 rfl (Nat.le_of_ble_eq_true rfl) dL_isSo_305 ⟨by show (61 + 4 * i_22) + 2 + 2 + 2 ≤ 570; omega, by show (366 + 21 * i_22) + 12 + 12 + 12 ≤ 3260; omega⟩) hS_138 (fun r_140 w_141 H locs hP hH_142 hS_143 => ?_)
        obtain ⟨rfl, rfl⟩ := hP
        refine lv_aload hx hb dL_isSo_308 (lv_at hl_127 5 rfl) ?_
        refine lv_iload hx hb dL_isSo_310 (lv_at hl_127 14 rfl) ?_
        refine ls_lld C hH_142 5 rfl (by decide) (j := i_22) rfl (show i_22 < 30 by omega) dL_isSo_312 ?_
        refine W.eq (g2 := F0 m 313 ls [.long (L 13 i_22), .long (L 13 i_22)]) (by rw [(hR i_22 hi_22).2.1] <;> rfl) ?_
        refine zl_cmp_ne (tgt := 407) hx hb dL_isSo_313 dL_isSo_314 (by decide) (fun c_144 => absurd rfl c_144) (fun c_144 => ?_)
        refine lv_aload_n hx hb dL_isSo_317 rfl (lv_at hl_127 0 rfl) ?_
        refine lv_iload hx hb dL_isSo_318 (lv_at hl_127 14 rfl) ?_
        refine lv_iconst (v := 3) hx hb dL_isSo_320 (by decide) ?_
        refine zk_cl (zk_rV (As := [.int (nI i_22), .int 3]) (rest := []) (n := 2) (k := (0, 0, 0)) (w := zk_sum 50 (cw cA (g 0) ac 6 nc nc 6 nt dy mo I L) (aw cA ad Ia La)) C (q_tradeOf l D cA A g ac nc nt dy mo I L _ hst i_22 3 (L 14 i_22) rfl (by omega) (by decide) (by omega) h11 h12) hH_142 hS_143 rfl rfl rfl gL_isSo_X4_tradeOf rfl rfl (by decide +kernel) ⟨Nat.le_of_ble_eq_true rfl, Nat.le_of_ble_eq_true rfl⟩ hl_127 rfl (Nat.le_of_ble_eq_true rfl) dL_isSo_321 ⟨by show (61 + 4 * i_22) + 2 + 2 + 2 + 2 ≤ 570; omega, by show (366 + 21 * i_22) + 12 + 12 + 12 + 12 ≤ 3260; omega⟩) hS_143 (fun r_145 w_146 H locs hP hH_147 hS_148 => ?_)
        obtain ⟨rfl, rfl⟩ := hP
        refine lv_aload hx hb dL_isSo_324 (lv_at hl_127 6 rfl) ?_
        refine lv_iload hx hb dL_isSo_326 (lv_at hl_127 14 rfl) ?_
        refine ls_lld C hH_147 6 rfl (by decide) (j := i_22) rfl (show i_22 < 30 by omega) dL_isSo_328 ?_
        refine W.eq (g2 := F0 m 329 ls [.long (L 14 i_22), .long (L 14 i_22)]) (by rw [(hR i_22 hi_22).2.2.1] <;> rfl) ?_
        refine zl_cmp_ne (tgt := 407) hx hb dL_isSo_329 dL_isSo_330 (by decide) (fun c_149 => absurd rfl c_149) (fun c_149 => ?_)
        refine lv_aload_n hx hb dL_isSo_333 rfl (lv_at hl_127 0 rfl) ?_
        refine lv_iload hx hb dL_isSo_334 (lv_at hl_127 14 rfl) ?_
        refine lv_iconst (v := 4) hx hb dL_isSo_336 (by decide) ?_
        refine zk_cl (zk_rV (As := [.int (nI i_22), .int 4]) (rest := []) (n := 2) (k := (0, 0, 0)) (w := zk_sum 50 (cw cA (g 0) ac 6 nc nc 6 nt dy mo I L) (aw cA ad Ia La)) C (q_tradeOf l D cA A g ac nc nt dy mo I L _ hst i_22 4 (L 15 i_22) rfl (by omega) (by decide) (by omega) h11 h12) hH_147 hS_148 rfl rfl rfl gL_isSo_X4_tradeOf rfl rfl (by decide +kernel) ⟨Nat.le_of_ble_eq_true rfl, Nat.le_of_ble_eq_true rfl⟩ hl_127 rfl (Nat.le_of_ble_eq_true rfl) dL_isSo_337 ⟨by show (61 + 4 * i_22) + 2 + 2 + 2 + 2 + 2 ≤ 570; omega, by show (366 + 21 * i_22) + 12 + 12 + 12 + 12 + 12 ≤ 3260; omega⟩) hS_148 (fun r_150 w_151 H locs hP hH_152 hS_153 => ?_)
        obtain ⟨rfl, rfl⟩ := hP
        refine lv_aload hx hb dL_isSo_340 (lv_at hl_127 6 rfl) ?_
        refine lv_iload hx hb dL_isSo_342 (lv_at hl_127 14 rfl) ?_
        refine ls_lld C hH_152 6 rfl (by decide) (j := i_22) rfl (show i_22 < 30 by omega) dL_isSo_344 ?_
        refine W.eq (g2 := F0 m 345 ls [.long (L 14 i_22), .long (L 15 i_22)]) (by rw [(hR i_22 hi_22).2.2.1] <;> rfl) ?_
        refine zk_cl (zk_rS (As := [.long (L 14 i_22)]) (rest := [.long (L 15 i_22)]) (n := 1) (w := zk_sum 50 (cw cA (g 0) ac 6 nc nc 6 nt dy mo I L) (aw cA ad Ia La)) C (cH_costs l D cA A g _ (L 14 i_22)) hH_152 hS_153 gL_isSo_L_costs rfl rfl (by decide +kernel) ⟨Nat.le_of_ble_eq_true rfl, Nat.le_of_ble_eq_true rfl⟩ hl_127 rfl (Nat.le_of_ble_eq_true rfl) dL_isSo_345 ⟨by show (61 + 4 * i_22) + 2 + 2 + 2 + 2 + 2 + 0 ≤ 570; omega, by show (366 + 21 * i_22) + 12 + 12 + 12 + 12 + 12 + 0 ≤ 3260; omega⟩) hS_153 (fun r_154 w_155 H locs hP hH_156 hS_157 => ?_)
        obtain ⟨rfl, rfl⟩ := hP
        refine W.eq (g2 := F0 m 348 ls [.long (L 15 i_22), .long (L 15 i_22)]) (by rw [(hR i_22 hi_22).2.2.2]) ?_
        refine zl_cmp_ne (tgt := 407) hx hb dL_isSo_348 dL_isSo_349 (by decide) (fun c_158 => absurd rfl c_158) (fun c_158 => ?_)
        refine lv_aload_n hx hb dL_isSo_352 rfl (lv_at hl_127 0 rfl) ?_
        refine lv_iload hx hb dL_isSo_353 (lv_at hl_127 14 rfl) ?_
        refine lv_iconst (v := 5) hx hb dL_isSo_355 (by decide) ?_
        refine zk_cl (zk_rV (As := [.int (nI i_22), .int 5]) (rest := []) (n := 2) (k := (0, 0, 0)) (w := zk_sum 50 (cw cA (g 0) ac 6 nc nc 6 nt dy mo I L) (aw cA ad Ia La)) C (q_tradeOf l D cA A g ac nc nt dy mo I L _ hst i_22 5 (Int32.toInt64 (I 16 i_22)) rfl (by omega) (by decide) (by omega) h11 h12) hH_156 hS_157 rfl rfl rfl gL_isSo_X4_tradeOf rfl rfl (by decide +kernel) ⟨Nat.le_of_ble_eq_true rfl, Nat.le_of_ble_eq_true rfl⟩ hl_127 rfl (Nat.le_of_ble_eq_true rfl) dL_isSo_356 ⟨by show (61 + 4 * i_22) + 2 + 2 + 2 + 2 + 2 + 0 + 2 ≤ 570; omega, by show (366 + 21 * i_22) + 12 + 12 + 12 + 12 + 12 + 0 + 12 ≤ 3260; omega⟩) hS_157 (fun r_159 w_160 H locs hP hH_161 hS_162 => ?_)
        obtain ⟨rfl, rfl⟩ := hP
        refine lv_aload hx hb dL_isSo_359 (lv_at hl_127 4 rfl) ?_
        refine lv_iload hx hb dL_isSo_361 (lv_at hl_127 14 rfl) ?_
        refine ls_ild C hH_161 4 rfl (by decide) (j := i_22) rfl (show i_22 < 30 by omega) dL_isSo_363 ?_
        refine W.eq (g2 := F0 m 364 ls [.int (nI (pkT I i_22)), .long (Int32.toInt64 (I 16 i_22))]) (by rw [(hR i_22 hi_22).1]) ?_
        refine lv_ldc (v := 524288) hx hb hown (hts (.constant RL 93 524288) (by decide +kernel)) dL_isSo_364 ?_
        refine lv_irem hx hb dL_isSo_366 (by decide) ?_
        refine W.eq (g2 := F0 m 367 ls [.int (nI ((pkT I i_22) % 524288)), .long (Int32.toInt64 (I 16 i_22))]) (by rw [show ((nI (pkT I i_22)) - (nI (pkT I i_22)) / 524288 * 524288 : Int32) = nI ((pkT I i_22) % 524288) from (zi_rem rfl (b := 524288) rfl (by omega) (by decide) (by decide))]) ?_
        refine lv_bipush (v := 32) hx hb dL_isSo_367 (by decide) ?_
        refine lv_idiv hx hb dL_isSo_369 (by decide) ?_
        refine W.eq (g2 := F0 m 370 ls [.int (nI (((pkT I i_22) % 524288) / 32)), .long (Int32.toInt64 (I 16 i_22))]) (by rw [show ((nI ((pkT I i_22) % 524288)) / 32 : Int32) = nI (((pkT I i_22) % 524288) / 32) from (zi_div rfl (b := 32) rfl (by omega) (by decide) (by decide))]) ?_
        refine W.eq (g2 := F0 m 370 ls [.int (I 16 i_22), .long (Int32.toInt64 (I 16 i_22))]) (by rw [(pk_11 hO hD hi_22).2.2.1]) ?_
        refine lv_i2l (v := Int32.toInt64 (I 16 i_22)) hx hb dL_isSo_370 rfl ?_
        refine zl_cmp_ne (tgt := 407) hx hb dL_isSo_371 dL_isSo_372 (by decide) (fun c_163 => absurd rfl c_163) (fun c_163 => ?_)
        refine lv_aload_n hx hb dL_isSo_375 rfl (lv_at hl_127 0 rfl) ?_
        refine lv_iload hx hb dL_isSo_376 (lv_at hl_127 14 rfl) ?_
        refine lv_bipush (v := 6) hx hb dL_isSo_378 (by decide) ?_
        refine zk_cl (zk_rV (As := [.int (nI i_22), .int 6]) (rest := []) (n := 2) (k := (0, 0, 0)) (w := zk_sum 50 (cw cA (g 0) ac 6 nc nc 6 nt dy mo I L) (aw cA ad Ia La)) C (q_tradeOf l D cA A g ac nc nt dy mo I L _ hst i_22 6 ((if I 17 i_22 = 0 then 0 else 1)) rfl (by omega) (by decide) (by omega) h11 h12) hH_161 hS_162 rfl rfl rfl gL_isSo_X4_tradeOf rfl rfl (by decide +kernel) ⟨Nat.le_of_ble_eq_true rfl, Nat.le_of_ble_eq_true rfl⟩ hl_127 rfl (Nat.le_of_ble_eq_true rfl) dL_isSo_380 ⟨by show (61 + 4 * i_22) + 2 + 2 + 2 + 2 + 2 + 0 + 2 + 2 ≤ 570; omega, by show (366 + 21 * i_22) + 12 + 12 + 12 + 12 + 12 + 0 + 12 + 12 ≤ 3260; omega⟩) hS_162 (fun r_164 w_165 H locs hP hH_166 hS_167 => ?_)
        obtain ⟨rfl, rfl⟩ := hP
        refine z_join (nL := 19) (D := D) (A := A) (w := zk_sum 50 (cw cA (g 0) ac 6 nc nc 6 nt dy mo I L) (aw cA ad Ia La)) (pcj := 398) (lc := [(0, .ref (ac (0, 0, 0))), (1, .ref (ad (0, 0, 0))), (2, .ref (ad (1, 0, 0))), (3, .ref (ad (2, 0, 0))), (4, .ref (ad (4, 0, 0))), (5, .ref (ad (5, 0, 0))), (6, .ref (ad (6, 0, 0))), (7, .ref (ad (10, 0, 0))), (8, .ref (ad (8, 0, 0))), (9, .ref (ad (9, 0, 0))), (10, .ref (ad (7, 0, 0))), (11, .int (nI one)), (12, .int (nI two)), (13, .int 1), (14, .int (nI i_22))]) (st1 := [.int (if I 17 i_22 = 0 then 0 else 1), .long (if I 17 i_22 = 0 then 0 else 1)]) (fun J_168 => ?_) ?_
        · refine lv_aload hx hb dL_isSo_383 (lv_at hl_127 4 rfl) ?_
          refine lv_iload hx hb dL_isSo_385 (lv_at hl_127 14 rfl) ?_
          refine ls_ild C hH_166 4 rfl (by decide) (j := i_22) rfl (show i_22 < 30 by omega) dL_isSo_387 ?_
          refine W.eq (g2 := F0 m 388 ls [.int (nI (pkT I i_22)), .long (if I 17 i_22 = 0 then 0 else 1)]) (by rw [(hR i_22 hi_22).1]) ?_
          refine lv_ldc (v := 524288) hx hb hown (hts (.constant RL 93 524288) (by decide +kernel)) dL_isSo_388 ?_
          refine lv_icmp_ge (tgt := 397) hx hb dL_isSo_390 (by decide) (fun c_172 => ?_) (fun c_172 => ?_)
          · refine lv_iconst (v := 0) hx hb dL_isSo_397 (by decide) ?_
            refine W.eq (g2 := F0 m 398 ls [.int (if I 17 i_22 = 0 then 0 else 1), .long (if I 17 i_22 = 0 then 0 else 1)]) (by rw [show ((if I 17 i_22 = 0 then 0 else 1) : Int32) = 0 from if_pos ((pk_11 hO hD hi_22).2.2.2.mpr ((nI_leI (by decide) (by have := pk_bd hO hD hi_22; omega)).mp c_172))]) ?_
            exact J_168 _ _ _ hH_166 hS_167 (lv_sub hl_127 [0, 1, 2, 3, 4, 5, 6, 7, 8, 9, 10, 11, 12, 13, 14] rfl)
          · refine lv_iconst (v := 1) hx hb dL_isSo_393 (by decide) ?_
            refine lv_goto (tgt := 398) hx hb dL_isSo_394 (by decide) ?_
            refine W.eq (g2 := F0 m 398 ls [.int (if I 17 i_22 = 0 then 0 else 1), .long (if I 17 i_22 = 0 then 0 else 1)]) (by rw [show ((if I 17 i_22 = 0 then 0 else 1) : Int32) = 1 from if_neg (fun z => c_172 ((nI_leI (by decide) (by have := pk_bd hO hD hi_22; omega)).mpr ((pk_11 hO hD hi_22).2.2.2.mp z)))]) ?_
            exact J_168 _ _ _ hH_166 hS_167 (lv_sub hl_127 [0, 1, 2, 3, 4, 5, 6, 7, 8, 9, 10, 11, 12, 13, 14] rfl)
        · intro H locs ls hH_169 hS_170 hl_171
          refine lv_i2l (v := Int32.toInt64 (if I 17 i_22 = 0 then 0 else 1)) hx hb dL_isSo_398 rfl ?_
          refine W.eq (g2 := F0 m 399 ls [.long (if I 17 i_22 = 0 then 0 else 1), .long (if I 17 i_22 = 0 then 0 else 1)]) (by rw [ite_64]) ?_
          refine zl_cmp_ne (tgt := 407) hx hb dL_isSo_399 dL_isSo_400 (by decide) (fun c_173 => absurd rfl c_173) (fun c_173 => ?_)
          refine lv_iconst (v := 1) hx hb dL_isSo_403 (by decide) ?_
          refine lv_goto (tgt := 408) hx hb dL_isSo_404 (by decide) ?_
          refine lv_istore (lv' := [(13, .int 1), (0, .ref (ac (0, 0, 0))), (1, .ref (ad (0, 0, 0))), (2, .ref (ad (1, 0, 0))), (3, .ref (ad (2, 0, 0))), (4, .ref (ad (4, 0, 0))), (5, .ref (ad (5, 0, 0))), (6, .ref (ad (6, 0, 0))), (7, .ref (ad (10, 0, 0))), (8, .ref (ad (8, 0, 0))), (9, .ref (ad (9, 0, 0))), (10, .ref (ad (7, 0, 0))), (11, .int (nI one)), (12, .int (nI two)), (14, .int (nI i_22))]) hx hb dL_isSo_408 hl_171 (by decide) rfl (fun ls hl_174 => ?_)
          refine lv_iinc (v := nI (i_22 + 4)) (lv' := [(14, .int (nI (i_22 + 4))), (13, .int 1), (0, .ref (ac (0, 0, 0))), (1, .ref (ad (0, 0, 0))), (2, .ref (ad (1, 0, 0))), (3, .ref (ad (2, 0, 0))), (4, .ref (ad (4, 0, 0))), (5, .ref (ad (5, 0, 0))), (6, .ref (ad (6, 0, 0))), (7, .ref (ad (10, 0, 0))), (8, .ref (ad (8, 0, 0))), (9, .ref (ad (9, 0, 0))), (10, .ref (ad (7, 0, 0))), (11, .int (nI one)), (12, .int (nI two))]) hx hb dL_isSo_410 hl_174 (k := 14) rfl (nI_add i_22 4) (by decide) rfl (fun ls hl_175 => ?_)
          refine lv_goto (tgt := 246) hx hb dL_isSo_413 (by decide) ?_
          exact W.widen (by show (61 + 4 * i_22) + 2 + 2 + 2 + 2 + 2 + 0 + 2 + 2 ≤ (61 + 4 * (i_22 + 4)); omega) (by show (366 + 21 * i_22) + 12 + 12 + 12 + 12 + 12 + 0 + 12 + 12 ≤ (366 + 21 * (i_22 + 4)); omega) (ih_23 _ _ _ hH_169 hS_170 (lv_sub hl_175 [2, 3, 4, 5, 6, 7, 8, 9, 10, 11, 12, 13, 14, 1, 0] rfl))
    · intro i_15 hi_15 ih_16 H locs ls hH_176 hS_177 hl_178
      refine lv_iload hx hb dL_isSo_178 (lv_at hl_178 14 rfl) ?_
      refine lv_aload hx hb dL_isSo_180 (lv_at hl_178 7 rfl) ?_
      refine lv_iconst (v := 1) hx hb dL_isSo_182 (by decide) ?_
      refine ls_ild C hH_176 10 rfl (by decide) (j := 1) rfl (show 1 < 3 by omega) dL_isSo_183 ?_
      refine W.eq (g2 := F0 m 184 ls [.int (nI nc), .int (nI i_15)]) (by rw [e1]) ?_
      refine lv_icmp_ge (tgt := 240) hx hb dL_isSo_184 (by decide) (fun c_179 => absurd c_179 (nI_ge hi_15 (by first | decide | omega))) (fun c_179 => ?_)
      refine lv_iload hx hb dL_isSo_187 (lv_at hl_178 13 rfl) ?_
      refine lv_if_eq (tgt := 240) hx hb dL_isSo_189 (by decide) (fun c_180 => absurd c_180 (by decide)) (fun c_180 => ?_)
      refine lv_aload_n hx hb dL_isSo_192 rfl (lv_at hl_178 0 rfl) ?_
      refine lv_iload hx hb dL_isSo_193 (lv_at hl_178 14 rfl) ?_
      refine zk_cl (zk_rV (As := [.int (nI i_15)]) (rest := []) (n := 1) (k := (0, 0, 0)) (w := zk_sum 50 (cw cA (g 0) ac 6 nc nc 6 nt dy mo I L) (aw cA ad Ia La)) C (q_cash l D cA A g ac nc nt dy mo I L _ hst i_15 (by omega) (by omega)) hH_176 hS_177 rfl rfl rfl gL_isSo_X4_cash rfl rfl (by decide +kernel) ⟨Nat.le_of_ble_eq_true rfl, Nat.le_of_ble_eq_true rfl⟩ hl_178 rfl (Nat.le_of_ble_eq_true rfl) dL_isSo_195 ⟨by show (55 + 2 * i_15) + 1 ≤ 570; omega, by show (330 + 12 * i_15) + 6 ≤ 3260; omega⟩) hS_177 (fun r_181 w_182 H locs hP hH_183 hS_184 => ?_)
      obtain ⟨rfl, rfl⟩ := hP
      refine lv_aload_n hx hb dL_isSo_198 rfl (lv_at hl_178 2 rfl) ?_
      refine lv_bipush (v := 12) hx hb dL_isSo_199 (by decide) ?_
      refine lv_iload hx hb dL_isSo_201 (lv_at hl_178 14 rfl) ?_
      refine lv_iadd hx hb dL_isSo_203 ?_
      refine W.eq (g2 := F0 m 204 ls [.int (nI (12 + i_15)), .ref (ad (1, 0, 0)), .long (L 6 i_15)]) (by rw [show (12 + (nI i_15) : Int32) = nI (12 + i_15) from (zi_add rfl rfl)]) ?_
      refine ls_lld C hH_183 1 rfl (by decide) (j := (12 + i_15)) rfl (show (12 + i_15) < 16 by omega) dL_isSo_204 ?_
      refine W.eq (g2 := F0 m 205 ls [.long (L 6 i_15), .long (L 6 i_15)]) (by rw [v2 i_15 (by omega)] <;> rfl) ?_
      refine zl_cmp_ne (tgt := 231) hx hb dL_isSo_205 dL_isSo_206 (by decide) (fun c_185 => absurd rfl c_185) (fun c_185 => ?_)
      refine lv_aload_n hx hb dL_isSo_209 rfl (lv_at hl_178 0 rfl) ?_
      refine lv_iload hx hb dL_isSo_210 (lv_at hl_178 14 rfl) ?_
      refine zk_cl (zk_rV (As := [.int (nI i_15)]) (rest := []) (n := 1) (k := (0, 0, 0)) (w := zk_sum 50 (cw cA (g 0) ac 6 nc nc 6 nt dy mo I L) (aw cA ad Ia La)) C (q_wealth l D cA A g ac nc nt dy mo I L _ hst i_15 (by omega) (by omega)) hH_183 hS_184 rfl rfl rfl gL_isSo_X4_wealth rfl rfl (by decide +kernel) ⟨Nat.le_of_ble_eq_true rfl, Nat.le_of_ble_eq_true rfl⟩ hl_178 rfl (Nat.le_of_ble_eq_true rfl) dL_isSo_212 ⟨by show (55 + 2 * i_15) + 1 + 1 ≤ 570; omega, by show (330 + 12 * i_15) + 6 + 6 ≤ 3260; omega⟩) hS_184 (fun r_186 w_187 H locs hP hH_188 hS_189 => ?_)
      obtain ⟨rfl, rfl⟩ := hP
      refine lv_aload_n hx hb dL_isSo_215 rfl (lv_at hl_178 1 rfl) ?_
      refine lv_aload_n hx hb dL_isSo_216 rfl (lv_at hl_178 2 rfl) ?_
      refine lv_aload_n hx hb dL_isSo_217 rfl (lv_at hl_178 3 rfl) ?_
      refine lv_iload hx hb dL_isSo_218 (lv_at hl_178 14 rfl) ?_
      refine zk_cl (zk_rS (As := [.ref (ad (0, 0, 0)), .ref (ad (1, 0, 0)), .ref (ad (2, 0, 0)), .int (nI i_15)]) (rest := [.long (wealthL I L i_15 6)]) (n := 4) (w := zk_sum 50 (cw cA (g 0) ac 6 nc nc 6 nt dy mo I L) (aw cA ad Ia La)) C (zM_Rl (n := 50) (w1 := cw cA (g 0) ac 6 nc nc 6 nt dy mo I L) (fun A_ => (cH_wealth l D cA A_ g ad Ia La i_15 (by omega))) cw_lt A) hH_188 hS_189 gL_isSo_L_wealth rfl rfl (by decide +kernel) ⟨Nat.le_of_ble_eq_true rfl, Nat.le_of_ble_eq_true rfl⟩ hl_178 rfl (Nat.le_of_ble_eq_true rfl) dL_isSo_220 ⟨by show (55 + 2 * i_15) + 1 + 1 + 0 ≤ 570; omega, by show (330 + 12 * i_15) + 6 + 6 + 0 ≤ 3260; omega⟩) hS_189 (fun r_190 w_191 H locs hP hH_192 hS_193 => ?_)
      obtain ⟨w2_, hP, rfl⟩ := hP
      obtain ⟨rfl, rfl⟩ := hP
      refine W.eq (g2 := F0 m 223 ls [.long (wealthL I L i_15 6), .long (wealthL I L i_15 6)]) (by rw [wl_eq hJ (show i_15 < 3 by omega) 6 (Nat.le_refl 6)]) ?_
      refine zl_cmp_ne (tgt := 231) hx hb dL_isSo_223 dL_isSo_224 (by decide) (fun c_194 => absurd rfl c_194) (fun c_194 => ?_)
      refine lv_iconst (v := 1) hx hb dL_isSo_227 (by decide) ?_
      refine lv_goto (tgt := 232) hx hb dL_isSo_228 (by decide) ?_
      refine lv_istore (lv' := [(13, .int 1), (0, .ref (ac (0, 0, 0))), (1, .ref (ad (0, 0, 0))), (2, .ref (ad (1, 0, 0))), (3, .ref (ad (2, 0, 0))), (4, .ref (ad (4, 0, 0))), (5, .ref (ad (5, 0, 0))), (6, .ref (ad (6, 0, 0))), (7, .ref (ad (10, 0, 0))), (8, .ref (ad (8, 0, 0))), (9, .ref (ad (9, 0, 0))), (10, .ref (ad (7, 0, 0))), (11, .int (nI one)), (12, .int (nI two)), (14, .int (nI i_15))]) hx hb dL_isSo_232 hl_178 (by decide) rfl (fun ls hl_195 => ?_)
      refine lv_iinc (v := nI (i_15 + 1)) (lv' := [(14, .int (nI (i_15 + 1))), (13, .int 1), (0, .ref (ac (0, 0, 0))), (1, .ref (ad (0, 0, 0))), (2, .ref (ad (1, 0, 0))), (3, .ref (ad (2, 0, 0))), (4, .ref (ad (4, 0, 0))), (5, .ref (ad (5, 0, 0))), (6, .ref (ad (6, 0, 0))), (7, .ref (ad (10, 0, 0))), (8, .ref (ad (8, 0, 0))), (9, .ref (ad (9, 0, 0))), (10, .ref (ad (7, 0, 0))), (11, .int (nI one)), (12, .int (nI two))]) hx hb dL_isSo_234 hl_195 (k := 14) rfl (nI_1 i_15) (by decide) rfl (fun ls hl_196 => ?_)
      refine lv_goto (tgt := 178) hx hb dL_isSo_237 (by decide) ?_
      exact W.widen (by show (55 + 2 * i_15) + 1 + 1 + 0 ≤ (55 + 2 * (i_15 + 1)); omega) (by show (330 + 12 * i_15) + 6 + 6 + 0 ≤ (330 + 12 * (i_15 + 1)); omega) (ih_16 _ _ _ hH_192 hS_193 (lv_sub hl_196 [2, 3, 4, 5, 6, 7, 8, 9, 10, 11, 12, 13, 14, 1, 0] rfl))
  · intro i_8 hi_8 ih_9 H locs ls hH_197 hS_198 hl_199
    refine lv_iload hx hb dL_isSo_23 (lv_at hl_199 14 rfl) ?_
    refine lv_bipush (v := 6) hx hb dL_isSo_25 (by decide) ?_
    refine lv_icmp_ge (tgt := 175) hx hb dL_isSo_27 (by decide) (fun c_200 => absurd c_200 (nI_ge hi_8 (by first | decide | omega))) (fun c_200 => ?_)
    refine lv_iload hx hb dL_isSo_30 (lv_at hl_199 13 rfl) ?_
    refine lv_if_eq (tgt := 175) hx hb dL_isSo_32 (by decide) (fun c_201 => absurd c_201 (by decide)) (fun c_201 => ?_)
    refine lv_aload_n hx hb dL_isSo_35 rfl (lv_at hl_199 2 rfl) ?_
    refine lv_bipush (v := 6) hx hb dL_isSo_36 (by decide) ?_
    refine lv_iload hx hb dL_isSo_38 (lv_at hl_199 14 rfl) ?_
    refine lv_iadd hx hb dL_isSo_40 ?_
    refine W.eq (g2 := F0 m 41 ls [.int (nI (6 + i_8)), .ref (ad (1, 0, 0))]) (by rw [show (6 + (nI i_8) : Int32) = nI (6 + i_8) from (zi_add rfl rfl)]) ?_
    refine ls_lld C hH_197 1 rfl (by decide) (j := (6 + i_8)) rfl (show (6 + i_8) < 16 by omega) dL_isSo_41 ?_
    refine W.eq (g2 := F0 m 42 ls [.long (psU L i_8 0)]) (by rw [(v1 i_8 (by omega)).2] <;> rfl) ?_
    refine lv_lstore (lv' := [(15, .long (psU L i_8 0)), (0, .ref (ac (0, 0, 0))), (1, .ref (ad (0, 0, 0))), (2, .ref (ad (1, 0, 0))), (3, .ref (ad (2, 0, 0))), (4, .ref (ad (4, 0, 0))), (5, .ref (ad (5, 0, 0))), (6, .ref (ad (6, 0, 0))), (7, .ref (ad (10, 0, 0))), (8, .ref (ad (8, 0, 0))), (9, .ref (ad (9, 0, 0))), (10, .ref (ad (7, 0, 0))), (11, .int (nI one)), (12, .int (nI two)), (13, .int 1), (14, .int (nI i_8))]) hx hb dL_isSo_42 hl_199 (by decide) rfl (fun ls hl_202 => ?_)
    refine lv_iconst (v := 0) hx hb dL_isSo_44 (by decide) ?_
    refine lv_istore (lv' := [(17, .int 0), (15, .long (psU L i_8 0)), (0, .ref (ac (0, 0, 0))), (1, .ref (ad (0, 0, 0))), (2, .ref (ad (1, 0, 0))), (3, .ref (ad (2, 0, 0))), (4, .ref (ad (4, 0, 0))), (5, .ref (ad (5, 0, 0))), (6, .ref (ad (6, 0, 0))), (7, .ref (ad (10, 0, 0))), (8, .ref (ad (8, 0, 0))), (9, .ref (ad (9, 0, 0))), (10, .ref (ad (7, 0, 0))), (11, .int (nI one)), (12, .int (nI two)), (13, .int 1), (14, .int (nI i_8))]) hx hb dL_isSo_45 hl_202 (by decide) rfl (fun ls hl_203 => ?_)
    refine z_at (n := nc) (P := fun i_204 => zL p l e rmH_isSo s m _ below meth c 19 D A _ (zk_sum 50 (cw cA (g 0) ac 6 nc nc 6 nt dy mo I L) (aw cA ad Ia La)) (1 + 9 * i_8 + 2 * i_204) (6 + 54 * i_8 + 12 * i_204) 47 [(0, .ref (ac (0, 0, 0))), (1, .ref (ad (0, 0, 0))), (2, .ref (ad (1, 0, 0))), (3, .ref (ad (2, 0, 0))), (4, .ref (ad (4, 0, 0))), (5, .ref (ad (5, 0, 0))), (6, .ref (ad (6, 0, 0))), (7, .ref (ad (10, 0, 0))), (8, .ref (ad (8, 0, 0))), (9, .ref (ad (9, 0, 0))), (10, .ref (ad (7, 0, 0))), (11, .int (nI one)), (12, .int (nI two)), (13, .int 1), (14, .int (nI i_8)), (15, .long (psU L i_8 i_204)), (17, .int (nI i_204))] []) 0 (Nat.zero_le _) (fun h => W.widen (by show (1 + 9 * i_8) ≤ (1 + 9 * i_8 + 2 * 0); omega) (by show (6 + 54 * i_8) ≤ (6 + 54 * i_8 + 12 * 0); omega) (h _ _ _ hH_197 hS_198 (lv_sub hl_203 [2, 3, 4, 5, 6, 7, 8, 9, 10, 11, 12, 13, 14, 15, 16, 1, 0] rfl))) ?_ ?_
    · intro H locs ls hH_206 hS_207 hl_208
      refine lv_iload hx hb dL_isSo_47 (lv_at hl_208 16 rfl) ?_
      refine lv_aload hx hb dL_isSo_49 (lv_at hl_208 7 rfl) ?_
      refine lv_iconst (v := 1) hx hb dL_isSo_51 (by decide) ?_
      refine ls_ild C hH_206 10 rfl (by decide) (j := 1) rfl (show 1 < 3 by omega) dL_isSo_52 ?_
      refine W.eq (g2 := F0 m 53 ls [.int (nI nc), .int (nI nc)]) (by rw [e1]) ?_
      refine lv_icmp_ge (tgt := 111) hx hb dL_isSo_53 (by decide) (fun c_209 => ?_) (fun c_209 => absurd (Int32.le_refl _) c_209)
      refine lv_iload hx hb dL_isSo_111 (lv_at hl_208 13 rfl) ?_
      refine lv_if_eq (tgt := 166) hx hb dL_isSo_113 (by decide) (fun c_210 => absurd c_210 (by decide)) (fun c_210 => ?_)
      refine lv_aload_n hx hb dL_isSo_116 rfl (lv_at hl_208 0 rfl) ?_
      refine lv_iload hx hb dL_isSo_117 (lv_at hl_208 14 rfl) ?_
      refine zk_cl (zk_rV (As := [.int (nI i_8)]) (rest := []) (n := 1) (k := (0, 0, 0)) (w := zk_sum 50 (cw cA (g 0) ac 6 nc nc 6 nt dy mo I L) (aw cA ad Ia La)) C (q_units l D cA A g ac nc nt dy mo I L _ hst i_8 (by omega)) hH_206 hS_207 rfl rfl rfl gL_isSo_X4_units rfl rfl (by decide +kernel) ⟨Nat.le_of_ble_eq_true rfl, Nat.le_of_ble_eq_true rfl⟩ hl_208 rfl (Nat.le_of_ble_eq_true rfl) dL_isSo_119 ⟨by show (1 + 9 * i_8 + 2 * nc) + 1 ≤ 570; omega, by show (6 + 54 * i_8 + 12 * nc) + 6 ≤ 3260; omega⟩) hS_207 (fun r_211 w_212 H locs hP hH_213 hS_214 => ?_)
      obtain ⟨rfl, rfl⟩ := hP
      refine lv_aload_n hx hb dL_isSo_122 rfl (lv_at hl_208 2 rfl) ?_
      refine lv_iload hx hb dL_isSo_123 (lv_at hl_208 14 rfl) ?_
      refine ls_lld C hH_213 1 rfl (by decide) (j := i_8) rfl (show i_8 < 16 by omega) dL_isSo_125 ?_
      refine W.eq (g2 := F0 m 126 ls [.long (L 2 i_8), .long (L 2 i_8)]) (by rw [(v1 i_8 (by omega)).1] <;> rfl) ?_
      refine zl_cmp_ne (tgt := 166) hx hb dL_isSo_126 dL_isSo_127 (by decide) (fun c_215 => absurd rfl c_215) (fun c_215 => ?_)
      refine lv_aload_n hx hb dL_isSo_130 rfl (lv_at hl_208 0 rfl) ?_
      refine lv_iconst (v := (-1)) hx hb dL_isSo_131 (by decide) ?_
      refine lv_iload hx hb dL_isSo_132 (lv_at hl_208 14 rfl) ?_
      refine zk_cl (zk_rV (As := [.int (-1), .int (nI i_8)]) (rest := []) (n := 2) (k := (0, 0, 0)) (w := zk_sum 50 (cw cA (g 0) ac 6 nc nc 6 nt dy mo I L) (aw cA ad Ia La)) C (q_parts0 l D cA A g ac nc nt dy mo I L _ hst i_8 (by omega) (by omega)) hH_213 hS_214 rfl rfl rfl gL_isSo_X4_parts rfl rfl (by decide +kernel) ⟨Nat.le_of_ble_eq_true rfl, Nat.le_of_ble_eq_true rfl⟩ hl_208 rfl (Nat.le_of_ble_eq_true rfl) dL_isSo_134 ⟨by show (1 + 9 * i_8 + 2 * nc) + 1 + 2 ≤ 570; omega, by show (6 + 54 * i_8 + 12 * nc) + 6 + 12 ≤ 3260; omega⟩) hS_214 (fun r_216 w_217 H locs hP hH_218 hS_219 => ?_)
      obtain ⟨rfl, rfl⟩ := hP
      refine lv_aload_n hx hb dL_isSo_137 rfl (lv_at hl_208 2 rfl) ?_
      refine lv_bipush (v := 6) hx hb dL_isSo_138 (by decide) ?_
      refine lv_iload hx hb dL_isSo_140 (lv_at hl_208 14 rfl) ?_
      refine lv_iadd hx hb dL_isSo_142 ?_
      refine W.eq (g2 := F0 m 143 ls [.int (nI (6 + i_8)), .ref (ad (1, 0, 0)), .long (L 3 i_8)]) (by rw [show (6 + (nI i_8) : Int32) = nI (6 + i_8) from (zi_add rfl rfl)]) ?_
      refine ls_lld C hH_218 1 rfl (by decide) (j := (6 + i_8)) rfl (show (6 + i_8) < 16 by omega) dL_isSo_143 ?_
      refine W.eq (g2 := F0 m 144 ls [.long (L 3 i_8), .long (L 3 i_8)]) (by rw [(v1 i_8 (by omega)).2] <;> rfl) ?_
      refine zl_cmp_ne (tgt := 166) hx hb dL_isSo_144 dL_isSo_145 (by decide) (fun c_220 => absurd rfl c_220) (fun c_220 => ?_)
      refine lv_lload hx hb dL_isSo_148 (lv_at hl_208 15 rfl) ?_
      refine lv_ldc2 (v := 1000) hx hb hown (hts (.constantLong RL 81 1000) (by decide +kernel)) dL_isSo_150 ?_
      refine lv_aload_n hx hb dL_isSo_153 rfl (lv_at hl_208 2 rfl) ?_
      refine lv_iload hx hb dL_isSo_154 (lv_at hl_208 14 rfl) ?_
      refine ls_lld C hH_218 1 rfl (by decide) (j := i_8) rfl (show i_8 < 16 by omega) dL_isSo_156 ?_
      refine W.eq (g2 := F0 m 157 ls [.long (L 2 i_8), .long 1000, .long (psU L i_8 nc)]) (by rw [(v1 i_8 (by omega)).1] <;> rfl) ?_
      refine lv_lmul hx hb dL_isSo_157 ?_
      refine zl_cmp_ne (tgt := 166) hx hb dL_isSo_158 dL_isSo_159 (by decide) (fun c_221 => absurd (hSu i_8 (by omega)) c_221) (fun c_221 => ?_)
      refine lv_iconst (v := 1) hx hb dL_isSo_162 (by decide) ?_
      refine lv_goto (tgt := 167) hx hb dL_isSo_163 (by decide) ?_
      refine lv_istore (lv' := [(13, .int 1), (0, .ref (ac (0, 0, 0))), (1, .ref (ad (0, 0, 0))), (2, .ref (ad (1, 0, 0))), (3, .ref (ad (2, 0, 0))), (4, .ref (ad (4, 0, 0))), (5, .ref (ad (5, 0, 0))), (6, .ref (ad (6, 0, 0))), (7, .ref (ad (10, 0, 0))), (8, .ref (ad (8, 0, 0))), (9, .ref (ad (9, 0, 0))), (10, .ref (ad (7, 0, 0))), (11, .int (nI one)), (12, .int (nI two)), (14, .int (nI i_8)), (15, .long (psU L i_8 nc)), (17, .int (nI nc))]) hx hb dL_isSo_167 hl_208 (by decide) rfl (fun ls hl_222 => ?_)
      refine lv_iinc (v := nI (i_8 + 1)) (lv' := [(14, .int (nI (i_8 + 1))), (13, .int 1), (0, .ref (ac (0, 0, 0))), (1, .ref (ad (0, 0, 0))), (2, .ref (ad (1, 0, 0))), (3, .ref (ad (2, 0, 0))), (4, .ref (ad (4, 0, 0))), (5, .ref (ad (5, 0, 0))), (6, .ref (ad (6, 0, 0))), (7, .ref (ad (10, 0, 0))), (8, .ref (ad (8, 0, 0))), (9, .ref (ad (9, 0, 0))), (10, .ref (ad (7, 0, 0))), (11, .int (nI one)), (12, .int (nI two)), (15, .long (psU L i_8 nc)), (17, .int (nI nc))]) hx hb dL_isSo_169 hl_222 (k := 14) rfl (nI_1 i_8) (by decide) rfl (fun ls hl_223 => ?_)
      refine lv_goto (tgt := 23) hx hb dL_isSo_172 (by decide) ?_
      exact W.widen (by show (1 + 9 * i_8 + 2 * nc) + 1 + 2 ≤ (1 + 9 * (i_8 + 1)); omega) (by show (6 + 54 * i_8 + 12 * nc) + 6 + 12 ≤ (6 + 54 * (i_8 + 1)); omega) (ih_9 _ _ _ hH_218 hS_219 (lv_sub hl_223 [2, 3, 4, 5, 6, 7, 8, 9, 10, 11, 12, 13, 14, 1, 0] rfl))
    · intro i_204 hi_204 ih_205 H locs ls hH_224 hS_225 hl_226
      refine lv_iload hx hb dL_isSo_47 (lv_at hl_226 16 rfl) ?_
      refine lv_aload hx hb dL_isSo_49 (lv_at hl_226 7 rfl) ?_
      refine lv_iconst (v := 1) hx hb dL_isSo_51 (by decide) ?_
      refine ls_ild C hH_224 10 rfl (by decide) (j := 1) rfl (show 1 < 3 by omega) dL_isSo_52 ?_
      refine W.eq (g2 := F0 m 53 ls [.int (nI nc), .int (nI i_204)]) (by rw [e1]) ?_
      refine lv_icmp_ge (tgt := 111) hx hb dL_isSo_53 (by decide) (fun c_227 => absurd c_227 (nI_ge hi_204 (by first | decide | omega))) (fun c_227 => ?_)
      refine lv_iload hx hb dL_isSo_56 (lv_at hl_226 13 rfl) ?_
      refine lv_if_eq (tgt := 111) hx hb dL_isSo_58 (by decide) (fun c_228 => absurd c_228 (by decide)) (fun c_228 => ?_)
      refine lv_lload hx hb dL_isSo_61 (lv_at hl_226 15 rfl) ?_
      refine lv_aload_n hx hb dL_isSo_63 rfl (lv_at hl_226 3 rfl) ?_
      refine lv_bipush (v := 6) hx hb dL_isSo_64 (by decide) ?_
      refine lv_iload hx hb dL_isSo_66 (lv_at hl_226 16 rfl) ?_
      refine lv_imul hx hb dL_isSo_68 ?_
      refine lv_iload hx hb dL_isSo_69 (lv_at hl_226 14 rfl) ?_
      refine lv_iadd hx hb dL_isSo_71 ?_
      refine W.eq (g2 := F0 m 72 ls [.int (nI ((6 * i_204) + i_8)), .ref (ad (2, 0, 0)), .long (psU L i_8 i_204)]) (by rw [show ((6 * (nI i_204)) + (nI i_8) : Int32) = nI ((6 * i_204) + i_8) from (zi_add (zi_mul rfl rfl) rfl)]) ?_
      refine ls_lld C hH_224 2 rfl (by decide) (j := ((6 * i_204) + i_8)) rfl (show ((6 * i_204) + i_8) < 18 by omega) dL_isSo_72 ?_
      refine W.eq (g2 := F0 m 73 ls [.long (L 8 (6 * i_204 + i_8)), .long (psU L i_8 i_204)]) (by rw [v4 (6 * i_204 + i_8) (by omega)] <;> rfl) ?_
      refine lv_ladd hx hb dL_isSo_73 ?_
      refine lv_lstore (lv' := [(15, .long ((psU L i_8 i_204) + (L 8 (6 * i_204 + i_8)))), (0, .ref (ac (0, 0, 0))), (1, .ref (ad (0, 0, 0))), (2, .ref (ad (1, 0, 0))), (3, .ref (ad (2, 0, 0))), (4, .ref (ad (4, 0, 0))), (5, .ref (ad (5, 0, 0))), (6, .ref (ad (6, 0, 0))), (7, .ref (ad (10, 0, 0))), (8, .ref (ad (8, 0, 0))), (9, .ref (ad (9, 0, 0))), (10, .ref (ad (7, 0, 0))), (11, .int (nI one)), (12, .int (nI two)), (13, .int 1), (14, .int (nI i_8)), (17, .int (nI i_204))]) hx hb dL_isSo_74 hl_226 (by decide) rfl (fun ls hl_229 => ?_)
      refine lv_aload_n hx hb dL_isSo_76 rfl (lv_at hl_229 1 rfl) ?_
      refine lv_iload hx hb dL_isSo_77 (lv_at hl_229 16 rfl) ?_
      refine lv_iload hx hb dL_isSo_79 (lv_at hl_229 15 rfl) ?_
      refine zk_cl (zk_rV (As := [.int (nI i_204), .int (nI i_8)]) (rest := []) (n := 2) (k := (0, 0, 0)) (w := zk_sum 50 (cw cA (g 0) ac 6 nc nc 6 nt dy mo I L) (aw cA ad Ia La)) C (q_parts l D cA A g ac nc nt dy mo I L _ hst i_204 i_8 (by omega) (by omega) (by omega)) hH_224 hS_225 rfl rfl rfl gL_isSo_X4_parts rfl rfl (by decide +kernel) ⟨Nat.le_of_ble_eq_true rfl, Nat.le_of_ble_eq_true rfl⟩ hl_229 rfl (Nat.le_of_ble_eq_true rfl) dL_isSo_81 ⟨by show (1 + 9 * i_8 + 2 * i_204) + 2 ≤ 570; omega, by show (6 + 54 * i_8 + 12 * i_204) + 12 ≤ 3260; omega⟩) hS_225 (fun r_230 w_231 H locs hP hH_232 hS_233 => ?_)
      obtain ⟨rfl, rfl⟩ := hP
      refine lv_aload_n hx hb dL_isSo_84 rfl (lv_at hl_229 4 rfl) ?_
      refine lv_bipush (v := 6) hx hb dL_isSo_85 (by decide) ?_
      refine lv_iload hx hb dL_isSo_87 (lv_at hl_229 16 rfl) ?_
      refine lv_imul hx hb dL_isSo_89 ?_
      refine lv_iload hx hb dL_isSo_90 (lv_at hl_229 15 rfl) ?_
      refine lv_iadd hx hb dL_isSo_92 ?_
      refine W.eq (g2 := F0 m 93 ls [.int (nI ((6 * i_204) + i_8)), .ref (ad (2, 0, 0)), .long (L 8 (6 * i_204 + i_8))]) (by rw [show ((6 * (nI i_204)) + (nI i_8) : Int32) = nI ((6 * i_204) + i_8) from (zi_add (zi_mul rfl rfl) rfl)]) ?_
      refine ls_lld C hH_232 2 rfl (by decide) (j := ((6 * i_204) + i_8)) rfl (show ((6 * i_204) + i_8) < 18 by omega) dL_isSo_93 ?_
      refine W.eq (g2 := F0 m 94 ls [.long (L 8 (6 * i_204 + i_8)), .long (L 8 (6 * i_204 + i_8))]) (by rw [v4 (6 * i_204 + i_8) (by omega)] <;> rfl) ?_
      refine zl_cmp_ne (tgt := 102) hx hb dL_isSo_94 dL_isSo_95 (by decide) (fun c_234 => absurd rfl c_234) (fun c_234 => ?_)
      refine lv_iconst (v := 1) hx hb dL_isSo_98 (by decide) ?_
      refine lv_goto (tgt := 103) hx hb dL_isSo_99 (by decide) ?_
      refine lv_istore (lv' := [(13, .int 1), (15, .long ((psU L i_8 i_204) + (L 8 (6 * i_204 + i_8)))), (0, .ref (ac (0, 0, 0))), (1, .ref (ad (0, 0, 0))), (2, .ref (ad (1, 0, 0))), (3, .ref (ad (2, 0, 0))), (4, .ref (ad (4, 0, 0))), (5, .ref (ad (5, 0, 0))), (6, .ref (ad (6, 0, 0))), (7, .ref (ad (10, 0, 0))), (8, .ref (ad (8, 0, 0))), (9, .ref (ad (9, 0, 0))), (10, .ref (ad (7, 0, 0))), (11, .int (nI one)), (12, .int (nI two)), (14, .int (nI i_8)), (17, .int (nI i_204))]) hx hb dL_isSo_103 hl_229 (by decide) rfl (fun ls hl_235 => ?_)
      refine lv_iinc (v := nI (i_204 + 1)) (lv' := [(17, .int (nI (i_204 + 1))), (13, .int 1), (15, .long ((psU L i_8 i_204) + (L 8 (6 * i_204 + i_8)))), (0, .ref (ac (0, 0, 0))), (1, .ref (ad (0, 0, 0))), (2, .ref (ad (1, 0, 0))), (3, .ref (ad (2, 0, 0))), (4, .ref (ad (4, 0, 0))), (5, .ref (ad (5, 0, 0))), (6, .ref (ad (6, 0, 0))), (7, .ref (ad (10, 0, 0))), (8, .ref (ad (8, 0, 0))), (9, .ref (ad (9, 0, 0))), (10, .ref (ad (7, 0, 0))), (11, .int (nI one)), (12, .int (nI two)), (14, .int (nI i_8))]) hx hb dL_isSo_105 hl_235 (k := 16) rfl (nI_1 i_204) (by decide) rfl (fun ls hl_236 => ?_)
      refine lv_goto (tgt := 47) hx hb dL_isSo_108 (by decide) ?_
      exact W.widen (by show (1 + 9 * i_8 + 2 * i_204) + 2 ≤ (1 + 9 * i_8 + 2 * (i_204 + 1)); omega) (by show (6 + 54 * i_8 + 12 * i_204) + 12 ≤ (6 + 54 * i_8 + 12 * (i_204 + 1)); omega) (ih_205 _ _ _ hH_232 hS_233 (lv_sub hl_236 [3, 4, 5, 6, 7, 8, 9, 10, 11, 12, 13, 14, 15, 1, 16, 2, 0] rfl))
