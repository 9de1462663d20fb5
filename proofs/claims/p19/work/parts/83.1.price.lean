section LAW
variable {p : Program} {l : Launch} {e : Env} {s : State} {m : MethodId} {below : List Frame} {meth : Method} {c : Code} {H : Heap} {locs : List Loc} {cells slots : Nat} {Q : State → Prop} {ls : Array Slot} {D : va_G} {cA : Nat → ClassId} {A : Nat → Prop} {g : Nat → Nat}
variable {sb k one two b nc nt dy cl fd f : Nat} {ac ad : zk_K → Nat} {mo : Int64} {I Ia : zIA} {L La : zLA}
set_option maxHeartbeats 2000000 in
set_option maxRecDepth 100000 in
theorem lw_price (C : zC p l m c cL_law 33 s #[.ref sb] wsL_law RL D (zt cA) A g meth) (hst : l.stackTraces = false) (hJ : zJ nc nt dy b mo I L Ia La) (hb8 : b ≤ 8000) (hone : one < 60000) (htwo : two < 60000) (hk : k < 60) (hcl : cl ≤ nc) (hfd : fd < 7) (hf : f < 6) (hff : fd < 6 → f = fd) (hc : cells + 30 ≤ 600104) (hs : slots + 2200 ≤ 7301314) (hH : zk_H D A (zk_sum 50 (cw cA (g 0) ac 6 nc nc 6 nt dy mo I L) (aw cA ad Ia La)) H) (hS : va_S A s.heap H locs) (hc1 : 1 ≤ nc) (hl : lv_has ls 33 [(0, .ref sb), (1, .ref (ac (0, 0, 0))), (2, .ref (ad (0, 0, 0))), (3, .ref (ad (1, 0, 0))), (4, .ref (ad (2, 0, 0))), (5, .ref (ad (3, 0, 0))), (6, .ref (ad (4, 0, 0))), (7, .ref (ad (5, 0, 0))), (8, .ref (ad (6, 0, 0))), (9, .ref (ad (7, 0, 0))), (10, .ref (ad (8, 0, 0))), (11, .ref (ad (9, 0, 0))), (12, .ref (ad (10, 0, 0))), (13, .int 1), (14, .int (nI k)), (16, .int (nI one)), (17, .int (nI two)), (18, .int (nI cl)), (19, .int (nI fd)), (20, .int (icV cl nc)), (21, .int (arV cl nc fd)), (22, .int (nI f))]) (K : lwK p l e s m below meth c D cA A g sb k one two (b + 12) (ac (0, 0, 0)) ad (cells + 30) (slots + 2200) Q) : W p l e room_1 s m #[.ref sb] below meth c H locs cells slots Q (F0 m 356 ls []) := by
  obtain ⟨⟨hx, hb, hml, hown, hts⟩, hG, hlk⟩ := id C
  obtain ⟨hO, hM, hD⟩ := hJ.d
  obtain ⟨hI, ⟨hn3, hn30⟩, ⟨e0, e1, e2⟩, hP, hGo, ⟨v1, v2, v3, v4⟩, h7, hR, hE, hSu⟩ := id hJ
  obtain ⟨-, -, hdy⟩ := hI.1
  obtain ⟨h11, h12, h16, -, -⟩ := hI.t
  obtain ⟨pb1, pb2⟩ := pr_bd (one := one) htwo
  have hzr : zR (nI (prV one two)) 10 1000000 := zR_of (a := 10) (b := 1000000) pb1 pb2 (by decide)
  refine z_join (nL := 33) (D := D) (A := A) (w := zk_sum 50 (cw cA (g 0) ac 6 nc nc 6 nt dy mo I L) (aw cA ad Ia La)) (pcj := 404) (lc := [(0, .ref sb), (1, .ref (ac (0, 0, 0))), (2, .ref (ad (0, 0, 0))), (3, .ref (ad (1, 0, 0))), (4, .ref (ad (2, 0, 0))), (5, .ref (ad (3, 0, 0))), (6, .ref (ad (4, 0, 0))), (7, .ref (ad (5, 0, 0))), (8, .ref (ad (6, 0, 0))), (9, .ref (ad (7, 0, 0))), (10, .ref (ad (8, 0, 0))), (11, .ref (ad (9, 0, 0))), (12, .ref (ad (10, 0, 0))), (13, .int 1), (14, .int (nI k)), (16, .int (nI one)), (17, .int (nI two)), (18, .int (nI cl)), (19, .int (nI fd)), (20, .int (icV cl nc)), (21, .int (arV cl nc fd)), (22, .int (nI f))]) (st1 := [.int (nI (prV one two))]) (fun J_1 => ?_) ?_
  · refine lv_iload hx hb dL_law_356 (lv_at hl 15 rfl) ?_
    refine lv_iconst (v := 4) hx hb dL_law_358 (by decide) ?_
    refine lv_irem hx hb dL_law_359 (by decide) ?_
    refine W.eq (g2 := F0 m 360 ls [.int (nI (one % 4))]) (by rw [show ((nI one) - (nI one) / 4 * 4 : Int32) = nI (one % 4) from (zi_rem rfl (b := 4) rfl (by omega) (by decide) (by decide))]) ?_
    refine lv_if_ne (tgt := 374) hx hb dL_law_360 (by decide) (fun c_5 => ?_) (fun c_5 => ?_)
    · have c_5n := fun z => c_5 ((nI_k0 (by omega)).mpr z)
      refine lv_iload hx hb dL_law_374 (lv_at hl 15 rfl) ?_
      refine lv_iconst (v := 4) hx hb dL_law_376 (by decide) ?_
      refine lv_irem hx hb dL_law_377 (by decide) ?_
      refine W.eq (g2 := F0 m 378 ls [.int (nI (one % 4))]) (by rw [show ((nI one) - (nI one) / 4 * 4 : Int32) = nI (one % 4) from (zi_rem rfl (b := 4) rfl (by omega) (by decide) (by decide))]) ?_
      refine lv_iconst (v := 1) hx hb dL_law_378 (by decide) ?_
      refine lv_icmp_ne (tgt := 394) hx hb dL_law_379 (by decide) (fun c_6 => ?_) (fun c_6 => ?_)
      · have c_6n := fun z => c_6 ((nI_k1 (by omega)).mpr z)
        refine lv_sipush (v := 5000) hx hb dL_law_394 (by decide) ?_
        refine lv_iload hx hb dL_law_397 (lv_at hl 16 rfl) ?_
        refine lv_sipush (v := 20000) hx hb dL_law_399 (by decide) ?_
        refine lv_irem hx hb dL_law_402 (by decide) ?_
        refine W.eq (g2 := F0 m 403 ls [.int (nI (two % 20000)), .int 5000]) (by rw [show ((nI two) - (nI two) / 20000 * 20000 : Int32) = nI (two % 20000) from (zi_rem rfl (b := 20000) rfl (by omega) (by decide) (by decide))]) ?_
        refine lv_iadd hx hb dL_law_403 ?_
        refine W.eq (g2 := F0 m 404 ls [.int (nI (5000 + (two % 20000)))]) (by rw [show (5000 + (nI (two % 20000)) : Int32) = nI (5000 + (two % 20000)) from (zi_add rfl rfl)]) ?_
        refine W.eq (g2 := F0 m 404 ls [.int (nI (prV one two))]) (by rw [show (nI (prV one two) : Int32) = nI (5000 + (two % 20000)) from (by unfold prV; split <;> first | contradiction | rfl | (split <;> first | contradiction | rfl))]) ?_
        exact J_1 _ _ _ hH hS (lv_sub hl [0, 1, 2, 3, 4, 5, 6, 7, 8, 9, 10, 11, 12, 13, 14, 15, 16, 17, 18, 19, 20, 21] rfl)
      · have c_6n := (nI_k1 (by omega)).mp c_6
        refine lv_bipush (v := 10) hx hb dL_law_382 (by decide) ?_
        refine lv_iload hx hb dL_law_384 (lv_at hl 16 rfl) ?_
        refine lv_sipush (v := 3000) hx hb dL_law_386 (by decide) ?_
        refine lv_irem hx hb dL_law_389 (by decide) ?_
        refine W.eq (g2 := F0 m 390 ls [.int (nI (two % 3000)), .int 10]) (by rw [show ((nI two) - (nI two) / 3000 * 3000 : Int32) = nI (two % 3000) from (zi_rem rfl (b := 3000) rfl (by omega) (by decide) (by decide))]) ?_
        refine lv_iadd hx hb dL_law_390 ?_
        refine W.eq (g2 := F0 m 391 ls [.int (nI (10 + (two % 3000)))]) (by rw [show (10 + (nI (two % 3000)) : Int32) = nI (10 + (two % 3000)) from (zi_add rfl rfl)]) ?_
        refine lv_goto (tgt := 404) hx hb dL_law_391 (by decide) ?_
        refine W.eq (g2 := F0 m 404 ls [.int (nI (prV one two))]) (by rw [show (nI (prV one two) : Int32) = nI (10 + (two % 3000)) from (by unfold prV; split <;> first | contradiction | rfl | (split <;> first | contradiction | rfl))]) ?_
        exact J_1 _ _ _ hH hS (lv_sub hl [0, 1, 2, 3, 4, 5, 6, 7, 8, 9, 10, 11, 12, 13, 14, 15, 16, 17, 18, 19, 20, 21] rfl)
    · have c_5n := (nI_k0 (by omega)).mp c_5
      refine lv_bipush (v := 10) hx hb dL_law_363 (by decide) ?_
      refine lv_iload hx hb dL_law_365 (lv_at hl 16 rfl) ?_
      refine lv_bipush (v := 16) hx hb dL_law_367 (by decide) ?_
      refine lv_imul hx hb dL_law_369 ?_
      refine lv_iadd hx hb dL_law_370 ?_
      refine W.eq (g2 := F0 m 371 ls [.int (nI (10 + (two * 16)))]) (by rw [show (10 + ((nI two) * 16) : Int32) = nI (10 + (two * 16)) from (zi_add rfl (zi_mul rfl rfl))]) ?_
      refine lv_goto (tgt := 404) hx hb dL_law_371 (by decide) ?_
      refine W.eq (g2 := F0 m 404 ls [.int (nI (prV one two))]) (by rw [show (nI (prV one two) : Int32) = nI (10 + (two * 16)) from (by unfold prV; split <;> first | contradiction | rfl | (split <;> first | contradiction | rfl))]) ?_
      exact J_1 _ _ _ hH hS (lv_sub hl [0, 1, 2, 3, 4, 5, 6, 7, 8, 9, 10, 11, 12, 13, 14, 15, 16, 17, 18, 19, 20, 21] rfl)
  · intro H locs ls hH_2 hS_3 hl_4
    refine lv_istore (lv' := [(23, .int (nI (prV one two))), (0, .ref sb), (1, .ref (ac (0, 0, 0))), (2, .ref (ad (0, 0, 0))), (3, .ref (ad (1, 0, 0))), (4, .ref (ad (2, 0, 0))), (5, .ref (ad (3, 0, 0))), (6, .ref (ad (4, 0, 0))), (7, .ref (ad (5, 0, 0))), (8, .ref (ad (6, 0, 0))), (9, .ref (ad (7, 0, 0))), (10, .ref (ad (8, 0, 0))), (11, .ref (ad (9, 0, 0))), (12, .ref (ad (10, 0, 0))), (13, .int 1), (14, .int (nI k)), (16, .int (nI one)), (17, .int (nI two)), (18, .int (nI cl)), (19, .int (nI fd)), (20, .int (icV cl nc)), (21, .int (arV cl nc fd)), (22, .int (nI f))]) hx hb dL_law_404 hl_4 (by decide) rfl (fun ls hl_7 => ?_)
    refine lv_aload_n hx hb dL_law_406 rfl (lv_at hl_7 3 rfl) ?_
    refine lv_iload hx hb dL_law_407 (lv_at hl_7 22 rfl) ?_
    refine ls_ild C hH_2 0 rfl (by decide) (j := f) rfl (show f < 6 by omega) dL_law_409 ?_
    refine W.eq (g2 := F0 m 410 ls [.int (I 1 f)]) (by rw [hP f hf]) ?_
    refine lv_istore (lv' := [(24, .int (I 1 f)), (23, .int (nI (prV one two))), (0, .ref sb), (1, .ref (ac (0, 0, 0))), (2, .ref (ad (0, 0, 0))), (3, .ref (ad (1, 0, 0))), (4, .ref (ad (2, 0, 0))), (5, .ref (ad (3, 0, 0))), (6, .ref (ad (4, 0, 0))), (7, .ref (ad (5, 0, 0))), (8, .ref (ad (6, 0, 0))), (9, .ref (ad (7, 0, 0))), (10, .ref (ad (8, 0, 0))), (11, .ref (ad (9, 0, 0))), (12, .ref (ad (10, 0, 0))), (13, .int 1), (14, .int (nI k)), (16, .int (nI one)), (17, .int (nI two)), (18, .int (nI cl)), (19, .int (nI fd)), (20, .int (icV cl nc)), (21, .int (arV cl nc fd)), (22, .int (nI f))]) hx hb dL_law_410 hl_7 (by decide) rfl (fun ls hl_8 => ?_)
    refine lv_aload_n hx hb dL_law_412 rfl (lv_at hl_8 4 rfl) ?_
    refine lv_iload hx hb dL_law_413 (lv_at hl_8 23 rfl) ?_
    refine lv_iload hx hb dL_law_415 (lv_at hl_8 1 rfl) ?_
    refine ls_ist C hH_2 hS_3 0 rfl (by decide) (j := f) rfl (show f < 6 by omega) dL_law_417 (fun H locs hH_9 hS_10 => ?_)
    refine lv_aload_n hx hb dL_law_418 rfl (lv_at hl_8 3 rfl) ?_
    refine lv_iconst (v := 0) hx hb dL_law_419 (by decide) ?_
    refine lv_iload hx hb dL_law_420 (lv_at hl_8 23 rfl) ?_
    refine lv_iload hx hb dL_law_422 (lv_at hl_8 1 rfl) ?_
    refine lv_iconst (v := 0) hx hb dL_law_424 (by decide) ?_
    refine zk_cl (zk_rSH (As := [.ref (ac (0, 0, 0)), .int 0, .int (nI f), .int (nI (prV one two)), .int 0]) (rest := []) (n := 5) (w := zk_sum 50 (cw cA (g 0) ac 6 nc nc 6 nt dy mo I L) (aw cA ad (up2 Ia 0 f (nI (prV one two))) La)) C (qd_price l D cA A g ac nc nt dy mo I L _ hst f (nI (prV one two)) hf hzr) hH_9 hS_10 gL_law_L_does rfl rfl (by decide +kernel) ⟨Nat.le_of_ble_eq_true rfl, Nat.le_of_ble_eq_true rfl⟩ hl_8 rfl (Nat.le_of_ble_eq_true rfl) dL_law_425 ⟨by show cells + 2 ≤ 600104; omega, by show slots + 12 ≤ 7301314; omega⟩) hS_10 (fun r_11 w_12 H locs hP hH_13 hS_14 => ?_)
    obtain ⟨rfl, rfl⟩ := hP
    refine lv_iload hx hb dL_law_428 (lv_at hl_8 0 rfl) ?_
    refine lv_i2l (v := Int32.toInt64 (I 1 f)) hx hb dL_law_430 rfl ?_
    refine zl_cmp_ne (tgt := 439) hx hb dL_law_431 dL_law_432 (by decide) (fun c_15 => absurd rfl c_15) (fun c_15 => ?_)
    refine lv_iconst (v := 1) hx hb dL_law_435 (by decide) ?_
    refine lv_goto (tgt := 440) hx hb dL_law_436 (by decide) ?_
    refine lv_istore (lv' := [(13, .int 1), (24, .int (I 1 f)), (23, .int (nI (prV one two))), (0, .ref sb), (1, .ref (ac (0, 0, 0))), (2, .ref (ad (0, 0, 0))), (3, .ref (ad (1, 0, 0))), (4, .ref (ad (2, 0, 0))), (5, .ref (ad (3, 0, 0))), (6, .ref (ad (4, 0, 0))), (7, .ref (ad (5, 0, 0))), (8, .ref (ad (6, 0, 0))), (9, .ref (ad (7, 0, 0))), (10, .ref (ad (8, 0, 0))), (11, .ref (ad (9, 0, 0))), (12, .ref (ad (10, 0, 0))), (14, .int (nI k)), (16, .int (nI one)), (17, .int (nI two)), (18, .int (nI cl)), (19, .int (nI fd)), (20, .int (icV cl nc)), (21, .int (arV cl nc fd)), (22, .int (nI f))]) hx hb dL_law_440 hl_8 (by decide) rfl (fun ls hl_16 => ?_)
    refine lv_goto (tgt := 2146) hx hb dL_law_442 (by decide) ?_
    exact W.widen (by show cells + 2 ≤ cells + 30; omega) (by show slots + 12 ≤ slots + 2200; omega) (K ac nc nt dy mo (up2 I 1 f (nI (prV one two))) L (up2 Ia 0 f (nI (prV one two))) La H locs ls hH_13 hS_14 ((J_price hJ hzr).mono (by omega)) hc1 rfl (lv_sub hl_16 [3, 4, 5, 6, 7, 8, 9, 10, 11, 12, 13, 14, 15, 0, 16, 17, 18] rfl))
end LAW
