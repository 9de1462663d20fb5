section LAW
variable {p : Program} {l : Launch} {e : Env} {s : State} {m : MethodId} {below : List Frame} {meth : Method} {c : Code} {H : Heap} {locs : List Loc} {cells slots : Nat} {Q : State → Prop} {ls : Array Slot} {D : va_G} {cA : Nat → ClassId} {A : Nat → Prop} {g : Nat → Nat}
variable {sb k one two b nc nt dy cl fd f : Nat} {ac ad : zk_K → Nat} {mo : Int64} {I Ia : zIA} {L La : zLA}
set_option maxHeartbeats 2000000 in
set_option maxRecDepth 100000 in
theorem lw_pay (C : zC p l m c cL_law 33 s #[.ref sb] wsL_law RL D (zt cA) A g meth) (hst : l.stackTraces = false) (hJ : zJ nc nt dy b mo I L Ia La) (hb8 : b ≤ 8000) (hone : one < 60000) (htwo : two < 60000) (hk : k < 60) (hcl : cl ≤ nc) (hfd : fd < 7) (hf : f < 6) (hff : fd < 6 → f = fd) (hc : cells + 30 ≤ 600104) (hs : slots + 2200 ≤ 7301314) (hH : zk_H D A (zk_sum 50 (cw cA (g 0) ac 6 nc nc 6 nt dy mo I L) (aw cA ad Ia La)) H) (hS : va_S A s.heap H locs) (hc1 : 1 ≤ nc) (hl : lv_has ls 33 [(0, .ref sb), (1, .ref (ac (0, 0, 0))), (2, .ref (ad (0, 0, 0))), (3, .ref (ad (1, 0, 0))), (4, .ref (ad (2, 0, 0))), (5, .ref (ad (3, 0, 0))), (6, .ref (ad (4, 0, 0))), (7, .ref (ad (5, 0, 0))), (8, .ref (ad (6, 0, 0))), (9, .ref (ad (7, 0, 0))), (10, .ref (ad (8, 0, 0))), (11, .ref (ad (9, 0, 0))), (12, .ref (ad (10, 0, 0))), (13, .int 1), (14, .int (nI k)), (16, .int (nI one)), (17, .int (nI two)), (18, .int (nI cl)), (19, .int (nI fd)), (20, .int (icV cl nc)), (21, .int (arV cl nc fd)), (22, .int (nI f))]) (K : lwK p l e s m below meth c D cA A g sb k one two (b + 12) (ac (0, 0, 0)) ad (cells + 30) (slots + 2200) Q) : W p l e room_1 s m #[.ref sb] below meth c H locs cells slots Q (F0 m 502 ls []) := by
  obtain ⟨⟨hx, hb, hml, hown, hts⟩, hG, hlk⟩ := id C
  obtain ⟨hO, hM, hD⟩ := hJ.d
  obtain ⟨hI, ⟨hn3, hn30⟩, ⟨e0, e1, e2⟩, hP, hGo, ⟨v1, v2, v3, v4⟩, h7, hR, hE, hSu⟩ := id hJ
  obtain ⟨-, -, hdy⟩ := hI.1
  obtain ⟨h11, h12, h16, -, -⟩ := hI.t
  have hzp := pc_bd htwo
  refine z_join (nL := 33) (D := D) (A := A) (w := zk_sum 50 (cw cA (g 0) ac 6 nc nc 6 nt dy mo I L) (aw cA ad Ia La)) (pcj := 526) (lc := [(0, .ref sb), (1, .ref (ac (0, 0, 0))), (2, .ref (ad (0, 0, 0))), (3, .ref (ad (1, 0, 0))), (4, .ref (ad (2, 0, 0))), (5, .ref (ad (3, 0, 0))), (6, .ref (ad (4, 0, 0))), (7, .ref (ad (5, 0, 0))), (8, .ref (ad (6, 0, 0))), (9, .ref (ad (7, 0, 0))), (10, .ref (ad (8, 0, 0))), (11, .ref (ad (9, 0, 0))), (12, .ref (ad (10, 0, 0))), (13, .int 1), (14, .int (nI k)), (16, .int (nI one)), (17, .int (nI two)), (18, .int (nI cl)), (19, .int (nI fd)), (20, .int (icV cl nc)), (21, .int (arV cl nc fd)), (22, .int (nI f))]) (st1 := [.int (pcV two)]) (fun J_1 => ?_) ?_
  · refine lv_iload hx hb dL_law_502 (lv_at hl 16 rfl) ?_
    refine lv_iconst (v := 3) hx hb dL_law_504 (by decide) ?_
    refine lv_irem hx hb dL_law_505 (by decide) ?_
    refine W.eq (g2 := F0 m 506 ls [.int (nI (two % 3))]) (by rw [show ((nI two) - (nI two) / 3 * 3 : Int32) = nI (two % 3) from (zi_rem rfl (b := 3) rfl (by omega) (by decide) (by decide))]) ?_
    refine lv_if_ne (tgt := 521) hx hb dL_law_506 (by decide) (fun c_5 => ?_) (fun c_5 => ?_)
    · have c_5n := fun z => c_5 ((nI_k0 (by omega)).mpr z)
      refine lv_iload hx hb dL_law_521 (lv_at hl 16 rfl) ?_
      refine lv_bipush (v := 15) hx hb dL_law_523 (by decide) ?_
      refine lv_imul hx hb dL_law_525 ?_
      refine W.eq (g2 := F0 m 526 ls [.int (nI (two * 15))]) (by rw [show ((nI two) * 15 : Int32) = nI (two * 15) from (zi_mul rfl rfl)]) ?_
      refine W.eq (g2 := F0 m 526 ls [.int (pcV two)]) (by rw [show (pcV two : Int32) = nI (two * 15) from (by unfold pcV; split <;> first | contradiction | rfl)]) ?_
      exact J_1 _ _ _ hH hS (lv_sub hl [0, 1, 2, 3, 4, 5, 6, 7, 8, 9, 10, 11, 12, 13, 14, 15, 16, 17, 18, 19, 20, 21] rfl)
    · have c_5n := (nI_k0 (by omega)).mp c_5
      refine lv_iload hx hb dL_law_509 (lv_at hl 16 rfl) ?_
      refine lv_sipush (v := 333) hx hb dL_law_511 (by decide) ?_
      refine lv_imul hx hb dL_law_514 ?_
      refine W.eq (g2 := F0 m 515 ls [.int (nI (two * 333))]) (by rw [show ((nI two) * 333 : Int32) = nI (two * 333) from (zi_mul rfl rfl)]) ?_
      refine lv_ldc (v := 9990000) hx hb hown (hts (.constant RL 132 9990000) (by decide +kernel)) dL_law_515 ?_
      refine lv_isub hx hb dL_law_517 ?_
      refine lv_goto (tgt := 526) hx hb dL_law_518 (by decide) ?_
      refine W.eq (g2 := F0 m 526 ls [.int (pcV two)]) (by rw [show (pcV two : Int32) = (nI (two * 333)) - 9990000 from (by unfold pcV; split <;> first | contradiction | rfl)]) ?_
      exact J_1 _ _ _ hH hS (lv_sub hl [0, 1, 2, 3, 4, 5, 6, 7, 8, 9, 10, 11, 12, 13, 14, 15, 16, 17, 18, 19, 20, 21] rfl)
  · intro H locs ls hH_2 hS_3 hl_4
    refine lv_istore (lv' := [(23, .int (pcV two)), (0, .ref sb), (1, .ref (ac (0, 0, 0))), (2, .ref (ad (0, 0, 0))), (3, .ref (ad (1, 0, 0))), (4, .ref (ad (2, 0, 0))), (5, .ref (ad (3, 0, 0))), (6, .ref (ad (4, 0, 0))), (7, .ref (ad (5, 0, 0))), (8, .ref (ad (6, 0, 0))), (9, .ref (ad (7, 0, 0))), (10, .ref (ad (8, 0, 0))), (11, .ref (ad (9, 0, 0))), (12, .ref (ad (10, 0, 0))), (13, .int 1), (14, .int (nI k)), (16, .int (nI one)), (17, .int (nI two)), (18, .int (nI cl)), (19, .int (nI fd)), (20, .int (icV cl nc)), (21, .int (arV cl nc fd)), (22, .int (nI f))]) hx hb dL_law_526 hl_4 (by decide) rfl (fun ls hl_6 => ?_)
    by_cases hi : cl < nc
    · have hl_7 : lv_has ls 33 [(23, .int (pcV two)), (0, .ref sb), (1, .ref (ac (0, 0, 0))), (2, .ref (ad (0, 0, 0))), (3, .ref (ad (1, 0, 0))), (4, .ref (ad (2, 0, 0))), (5, .ref (ad (3, 0, 0))), (6, .ref (ad (4, 0, 0))), (7, .ref (ad (5, 0, 0))), (8, .ref (ad (6, 0, 0))), (9, .ref (ad (7, 0, 0))), (10, .ref (ad (8, 0, 0))), (11, .ref (ad (9, 0, 0))), (12, .ref (ad (10, 0, 0))), (13, .int 1), (14, .int (nI k)), (16, .int (nI one)), (17, .int (nI two)), (18, .int (nI cl)), (19, .int (nI fd)), (20, .int 1), (21, .int (arV cl nc fd)), (22, .int (nI f))] := by have e9 : icV cl nc = 1 := if_pos hi; have h9 := hl_6; rw [e9] at h9; exact h9
      refine lv_iload hx hb dL_law_528 (lv_at hl_7 20 rfl) ?_
      refine lv_if_eq (tgt := 558) hx hb dL_law_530 (by decide) (fun c_8 => absurd c_8 (by decide)) (fun c_8 => ?_)
      refine lv_iload hx hb dL_law_533 (lv_at hl_7 0 rfl) ?_
      refine lv_if_ge (tgt := 554) hx hb dL_law_535 (by decide) (fun c_9 => ?_) (fun c_9 => ?_)
      · refine lv_iconst (v := 1) hx hb dL_law_554 (by decide) ?_
        refine lv_goto (tgt := 559) hx hb dL_law_555 (by decide) ?_
        refine lv_istore (lv' := [(24, .int 1), (23, .int (pcV two)), (0, .ref sb), (1, .ref (ac (0, 0, 0))), (2, .ref (ad (0, 0, 0))), (3, .ref (ad (1, 0, 0))), (4, .ref (ad (2, 0, 0))), (5, .ref (ad (3, 0, 0))), (6, .ref (ad (4, 0, 0))), (7, .ref (ad (5, 0, 0))), (8, .ref (ad (6, 0, 0))), (9, .ref (ad (7, 0, 0))), (10, .ref (ad (8, 0, 0))), (11, .ref (ad (9, 0, 0))), (12, .ref (ad (10, 0, 0))), (13, .int 1), (14, .int (nI k)), (16, .int (nI one)), (17, .int (nI two)), (18, .int (nI cl)), (19, .int (nI fd)), (20, .int 1), (21, .int (arV cl nc fd)), (22, .int (nI f))]) hx hb dL_law_559 hl_7 (by decide) rfl (fun ls hl_10 => ?_)
        refine lv_aload_n hx hb dL_law_561 rfl (lv_at hl_10 5 rfl) ?_
        refine lv_bipush (v := 12) hx hb dL_law_562 (by decide) ?_
        refine lv_iload hx hb dL_law_564 (lv_at hl_10 0 rfl) ?_
        refine lv_if_eq (tgt := 574) hx hb dL_law_566 (by decide) (fun c_11 => absurd c_11 (by decide)) (fun c_11 => ?_)
        refine lv_iload hx hb dL_law_569 (lv_at hl_10 19 rfl) ?_
        refine lv_goto (tgt := 575) hx hb dL_law_571 (by decide) ?_
        refine lv_iadd hx hb dL_law_575 ?_
        refine W.eq (g2 := F0 m 576 ls [.int (nI (12 + cl)), .ref (ad (1, 0, 0))]) (by rw [show (12 + (nI cl) : Int32) = nI (12 + cl) from (zi_add rfl rfl)]) ?_
        refine lv_dup2_11 hx hb dL_law_576 rfl rfl ?_
        refine ls_lld C hH_2 1 rfl (by decide) (j := (12 + cl)) rfl (show (12 + cl) < 16 by omega) dL_law_577 ?_
        refine W.eq (g2 := F0 m 578 ls [.long (L 6 cl), .int (nI (12 + cl)), .ref (ad (1, 0, 0))]) (by rw [v2 cl (by omega)]) ?_
        refine lv_iload hx hb dL_law_578 (lv_at hl_10 0 rfl) ?_
        refine lv_if_eq (tgt := 589) hx hb dL_law_580 (by decide) (fun c_12 => absurd c_12 (by decide)) (fun c_12 => ?_)
        refine lv_iload hx hb dL_law_583 (lv_at hl_10 1 rfl) ?_
        refine lv_i2l (v := Int32.toInt64 (pcV two)) hx hb dL_law_585 rfl ?_
        refine lv_goto (tgt := 590) hx hb dL_law_586 (by decide) ?_
        refine lv_ladd hx hb dL_law_590 ?_
        refine ls_lst C hH_2 hS_3 1 rfl (by decide) (j := (12 + cl)) rfl (show (12 + cl) < 16 by omega) dL_law_591 (fun H locs hH_13 hS_14 => ?_)
        refine lv_aload_n hx hb dL_law_592 rfl (lv_at hl_10 3 rfl) ?_
        refine lv_iconst (v := 2) hx hb dL_law_593 (by decide) ?_
        refine lv_iload hx hb dL_law_594 (lv_at hl_10 19 rfl) ?_
        refine lv_iload hx hb dL_law_596 (lv_at hl_10 1 rfl) ?_
        refine lv_iconst (v := 0) hx hb dL_law_598 (by decide) ?_
        refine zk_cl (zk_rSH (As := [.ref (ac (0, 0, 0)), .int 2, .int (nI cl), .int (pcV two), .int 0]) (rest := []) (n := 5) (w := zk_sum 50 (cw cA (g 0) ac 6 nc nc 6 nt dy mo I L) (aw cA ad Ia (up2 La 1 (12 + cl) ((L 6 cl) + (Int32.toInt64 (pcV two)))))) C (qd_pay l D cA A g ac nc nt dy mo I L _ hst cl (pcV two) hi hzp (fun z => absurd z.1 (Int32.not_lt.mpr c_9)) (by omega)) hH_13 hS_14 gL_law_L_does rfl rfl (by decide +kernel) ⟨Nat.le_of_ble_eq_true rfl, Nat.le_of_ble_eq_true rfl⟩ hl_10 rfl (Nat.le_of_ble_eq_true rfl) dL_law_599 ⟨by show cells + 2 ≤ 600104; omega, by show slots + 12 ≤ 7301314; omega⟩) hS_14 (fun r_15 w_16 H locs hP hH_17 hS_18 => ?_)
        obtain ⟨rfl, rfl⟩ := hP
        refine lv_iload hx hb dL_law_602 (lv_at hl_10 21 rfl) ?_
        refine lv_if_ne (tgt := 613) hx hb dL_law_604 (by decide) (fun c_19 => ?_) (fun c_19 => absurd c_19 (by decide))
        refine lv_iload hx hb dL_law_613 (lv_at hl_10 0 rfl) ?_
        refine lv_if_eq (tgt := 628) hx hb dL_law_615 (by decide) (fun c_20 => absurd c_20 (by decide)) (fun c_20 => ?_)
        refine lv_aload_n hx hb dL_law_618 rfl (lv_at hl_10 5 rfl) ?_
        refine lv_bipush (v := 12) hx hb dL_law_619 (by decide) ?_
        refine lv_iload hx hb dL_law_621 (lv_at hl_10 19 rfl) ?_
        refine lv_iadd hx hb dL_law_623 ?_
        refine W.eq (g2 := F0 m 624 ls [.int (nI (12 + cl)), .ref (ad (1, 0, 0)), .long (L 6 cl + Int32.toInt64 (pcV two))]) (by rw [show (12 + (nI cl) : Int32) = nI (12 + cl) from (zi_add rfl rfl)]) ?_
        refine ls_lld C hH_17 1 rfl (by decide) (j := (12 + cl)) rfl (show (12 + cl) < 16 by omega) dL_law_624 ?_
        rw [up2_s]
        refine lv_goto (tgt := 631) hx hb dL_law_625 (by decide) ?_
        refine zl_cmp_ne (tgt := 639) hx hb dL_law_631 dL_law_632 (by decide) (fun c_21 => absurd rfl c_21) (fun c_21 => ?_)
        refine lv_iconst (v := 1) hx hb dL_law_635 (by decide) ?_
        refine lv_goto (tgt := 640) hx hb dL_law_636 (by decide) ?_
        refine lv_istore (lv' := [(13, .int 1), (24, .int 1), (23, .int (pcV two)), (0, .ref sb), (1, .ref (ac (0, 0, 0))), (2, .ref (ad (0, 0, 0))), (3, .ref (ad (1, 0, 0))), (4, .ref (ad (2, 0, 0))), (5, .ref (ad (3, 0, 0))), (6, .ref (ad (4, 0, 0))), (7, .ref (ad (5, 0, 0))), (8, .ref (ad (6, 0, 0))), (9, .ref (ad (7, 0, 0))), (10, .ref (ad (8, 0, 0))), (11, .ref (ad (9, 0, 0))), (12, .ref (ad (10, 0, 0))), (14, .int (nI k)), (16, .int (nI one)), (17, .int (nI two)), (18, .int (nI cl)), (19, .int (nI fd)), (20, .int 1), (21, .int (arV cl nc fd)), (22, .int (nI f))]) hx hb dL_law_640 hl_10 (by decide) rfl (fun ls hl_22 => ?_)
        refine lv_goto (tgt := 2146) hx hb dL_law_642 (by decide) ?_
        exact W.widen (by show cells + 2 ≤ cells + 30; omega) (by show slots + 12 ≤ slots + 2200; omega) (K ac nc nt dy mo I (up2 L 6 cl (L 6 cl + Int32.toInt64 (pcV two))) Ia (up2 La 1 (12 + cl) ((L 6 cl) + (Int32.toInt64 (pcV two)))) H locs ls hH_17 hS_18 (by have q := J_pay (x := Int32.toInt64 (pcV two)) hJ hi; rw [v2 cl (by omega)] at q; exact q.mono (by omega)) hc1 rfl (lv_sub hl_22 [3, 4, 5, 6, 7, 8, 9, 10, 11, 12, 13, 14, 15, 0, 16, 17, 18] rfl))
      · refine lv_aload_n hx hb dL_law_538 rfl (lv_at hl_7 4 rfl) ?_
        refine lv_bipush (v := 12) hx hb dL_law_539 (by decide) ?_
        refine lv_iload hx hb dL_law_541 (lv_at hl_7 18 rfl) ?_
        refine lv_iadd hx hb dL_law_543 ?_
        refine W.eq (g2 := F0 m 544 ls [.int (nI (12 + cl)), .ref (ad (1, 0, 0))]) (by rw [show (12 + (nI cl) : Int32) = nI (12 + cl) from (zi_add rfl rfl)]) ?_
        refine ls_lld C hH_2 1 rfl (by decide) (j := (12 + cl)) rfl (show (12 + cl) < 16 by omega) dL_law_544 ?_
        refine W.eq (g2 := F0 m 545 ls [.long (L 6 cl)]) (by rw [v2 cl (by omega)]) ?_
        refine lv_iload hx hb dL_law_545 (lv_at hl_7 0 rfl) ?_
        refine lv_i2l (v := Int32.toInt64 (pcV two)) hx hb dL_law_547 rfl ?_
        refine lv_ladd hx hb dL_law_548 ?_
        refine lv_lconst (v := 0) hx hb dL_law_549 (by decide) ?_
        refine zl_cmp_lt (tgt := 558) hx hb dL_law_550 dL_law_551 (by decide) (fun c_23 => ?_) (fun c_23 => ?_)
        · refine lv_iconst (v := 0) hx hb dL_law_558 (by decide) ?_
          refine lv_istore (lv' := [(24, .int 0), (23, .int (pcV two)), (0, .ref sb), (1, .ref (ac (0, 0, 0))), (2, .ref (ad (0, 0, 0))), (3, .ref (ad (1, 0, 0))), (4, .ref (ad (2, 0, 0))), (5, .ref (ad (3, 0, 0))), (6, .ref (ad (4, 0, 0))), (7, .ref (ad (5, 0, 0))), (8, .ref (ad (6, 0, 0))), (9, .ref (ad (7, 0, 0))), (10, .ref (ad (8, 0, 0))), (11, .ref (ad (9, 0, 0))), (12, .ref (ad (10, 0, 0))), (13, .int 1), (14, .int (nI k)), (16, .int (nI one)), (17, .int (nI two)), (18, .int (nI cl)), (19, .int (nI fd)), (20, .int 1), (21, .int (arV cl nc fd)), (22, .int (nI f))]) hx hb dL_law_559 hl_7 (by decide) rfl (fun ls hl_24 => ?_)
          refine lv_aload_n hx hb dL_law_561 rfl (lv_at hl_24 5 rfl) ?_
          refine lv_bipush (v := 12) hx hb dL_law_562 (by decide) ?_
          refine lv_iload hx hb dL_law_564 (lv_at hl_24 0 rfl) ?_
          refine lv_if_eq (tgt := 574) hx hb dL_law_566 (by decide) (fun c_25 => ?_) (fun c_25 => absurd c_25 (by decide))
          refine lv_iconst (v := 0) hx hb dL_law_574 (by decide) ?_
          refine lv_iadd hx hb dL_law_575 ?_
          rw [Int32.add_zero]
          refine lv_dup2_11 hx hb dL_law_576 rfl rfl ?_
          refine ls_lld C hH_2 1 rfl (by decide) (j := 12) rfl (show 12 < 16 by omega) dL_law_577 ?_
          refine lv_iload hx hb dL_law_578 (lv_at hl_24 0 rfl) ?_
          refine lv_if_eq (tgt := 589) hx hb dL_law_580 (by decide) (fun c_26 => ?_) (fun c_26 => absurd c_26 (by decide))
          refine lv_lconst (v := 0) hx hb dL_law_589 (by decide) ?_
          refine lv_ladd hx hb dL_law_590 ?_
          refine ls_lst C hH_2 hS_3 1 rfl (by decide) (j := 12) rfl (show 12 < 16 by omega) dL_law_591 (fun H locs hH_27 hS_28 => ?_)
          have hH_29 := hH_27
          rw [up2_z] at hH_29
          refine lv_aload_n hx hb dL_law_592 rfl (lv_at hl_24 3 rfl) ?_
          refine lv_iconst (v := 2) hx hb dL_law_593 (by decide) ?_
          refine lv_iload hx hb dL_law_594 (lv_at hl_24 19 rfl) ?_
          refine lv_iload hx hb dL_law_596 (lv_at hl_24 1 rfl) ?_
          refine lv_iconst (v := 0) hx hb dL_law_598 (by decide) ?_
          refine zk_cl (zk_rSH (As := [.ref (ac (0, 0, 0)), .int 2, .int (nI cl), .int (pcV two), .int 0]) (rest := []) (n := 5) (w := zk_sum 50 (cw cA (g 0) ac 6 nc nc 6 nt dy mo I L) (aw cA ad Ia La)) C (qd_pay_S l D cA A g ac nc nt dy mo I L _ hst cl (pcV two) hi hzp ⟨(Int32.not_le.mp c_9), c_23⟩ (by omega)) hH_29 hS_28 gL_law_L_does rfl rfl (by decide +kernel) ⟨Nat.le_of_ble_eq_true rfl, Nat.le_of_ble_eq_true rfl⟩ hl_24 rfl (Nat.le_of_ble_eq_true rfl) dL_law_599 ⟨by show cells + 2 ≤ 600104; omega, by show slots + 12 ≤ 7301314; omega⟩) hS_28 (fun r_30 w_31 H locs hP hH_32 hS_33 => ?_)
          obtain ⟨rfl, rfl⟩ := hP
          refine lv_iload hx hb dL_law_602 (lv_at hl_24 21 rfl) ?_
          refine lv_if_ne (tgt := 613) hx hb dL_law_604 (by decide) (fun c_34 => ?_) (fun c_34 => absurd c_34 (by decide))
          refine lv_iload hx hb dL_law_613 (lv_at hl_24 0 rfl) ?_
          refine lv_if_eq (tgt := 628) hx hb dL_law_615 (by decide) (fun c_35 => ?_) (fun c_35 => absurd c_35 (by decide))
          refine lv_ldc2 (v := (-1000000000000)) hx hb hown (hts (.constantLong RL 67 (-1000000000000)) (by decide +kernel)) dL_law_628 ?_
          refine zl_cmp_ne (tgt := 639) hx hb dL_law_631 dL_law_632 (by decide) (fun c_36 => absurd c_36 (by decide)) (fun c_36 => ?_)
          refine lv_iconst (v := 1) hx hb dL_law_635 (by decide) ?_
          refine lv_goto (tgt := 640) hx hb dL_law_636 (by decide) ?_
          refine lv_istore (lv' := [(13, .int 1), (24, .int 0), (23, .int (pcV two)), (0, .ref sb), (1, .ref (ac (0, 0, 0))), (2, .ref (ad (0, 0, 0))), (3, .ref (ad (1, 0, 0))), (4, .ref (ad (2, 0, 0))), (5, .ref (ad (3, 0, 0))), (6, .ref (ad (4, 0, 0))), (7, .ref (ad (5, 0, 0))), (8, .ref (ad (6, 0, 0))), (9, .ref (ad (7, 0, 0))), (10, .ref (ad (8, 0, 0))), (11, .ref (ad (9, 0, 0))), (12, .ref (ad (10, 0, 0))), (14, .int (nI k)), (16, .int (nI one)), (17, .int (nI two)), (18, .int (nI cl)), (19, .int (nI fd)), (20, .int 1), (21, .int (arV cl nc fd)), (22, .int (nI f))]) hx hb dL_law_640 hl_24 (by decide) rfl (fun ls hl_37 => ?_)
          refine lv_goto (tgt := 2146) hx hb dL_law_642 (by decide) ?_
          exact W.widen (by show cells + 2 ≤ cells + 30; omega) (by show slots + 12 ≤ slots + 2200; omega) (K ac nc nt dy mo I L Ia La H locs ls hH_32 hS_33 (hJ.mono (by omega)) hc1 rfl (lv_sub hl_37 [3, 4, 5, 6, 7, 8, 9, 10, 11, 12, 13, 14, 15, 0, 16, 17, 18] rfl))
        · refine lv_iconst (v := 1) hx hb dL_law_554 (by decide) ?_
          refine lv_goto (tgt := 559) hx hb dL_law_555 (by decide) ?_
          refine lv_istore (lv' := [(24, .int 1), (23, .int (pcV two)), (0, .ref sb), (1, .ref (ac (0, 0, 0))), (2, .ref (ad (0, 0, 0))), (3, .ref (ad (1, 0, 0))), (4, .ref (ad (2, 0, 0))), (5, .ref (ad (3, 0, 0))), (6, .ref (ad (4, 0, 0))), (7, .ref (ad (5, 0, 0))), (8, .ref (ad (6, 0, 0))), (9, .ref (ad (7, 0, 0))), (10, .ref (ad (8, 0, 0))), (11, .ref (ad (9, 0, 0))), (12, .ref (ad (10, 0, 0))), (13, .int 1), (14, .int (nI k)), (16, .int (nI one)), (17, .int (nI two)), (18, .int (nI cl)), (19, .int (nI fd)), (20, .int 1), (21, .int (arV cl nc fd)), (22, .int (nI f))]) hx hb dL_law_559 hl_7 (by decide) rfl (fun ls hl_38 => ?_)
          refine lv_aload_n hx hb dL_law_561 rfl (lv_at hl_38 5 rfl) ?_
          refine lv_bipush (v := 12) hx hb dL_law_562 (by decide) ?_
          refine lv_iload hx hb dL_law_564 (lv_at hl_38 0 rfl) ?_
          refine lv_if_eq (tgt := 574) hx hb dL_law_566 (by decide) (fun c_39 => absurd c_39 (by decide)) (fun c_39 => ?_)
          refine lv_iload hx hb dL_law_569 (lv_at hl_38 19 rfl) ?_
          refine lv_goto (tgt := 575) hx hb dL_law_571 (by decide) ?_
          refine lv_iadd hx hb dL_law_575 ?_
          refine W.eq (g2 := F0 m 576 ls [.int (nI (12 + cl)), .ref (ad (1, 0, 0))]) (by rw [show (12 + (nI cl) : Int32) = nI (12 + cl) from (zi_add rfl rfl)]) ?_
          refine lv_dup2_11 hx hb dL_law_576 rfl rfl ?_
          refine ls_lld C hH_2 1 rfl (by decide) (j := (12 + cl)) rfl (show (12 + cl) < 16 by omega) dL_law_577 ?_
          refine W.eq (g2 := F0 m 578 ls [.long (L 6 cl), .int (nI (12 + cl)), .ref (ad (1, 0, 0))]) (by rw [v2 cl (by omega)]) ?_
          refine lv_iload hx hb dL_law_578 (lv_at hl_38 0 rfl) ?_
          refine lv_if_eq (tgt := 589) hx hb dL_law_580 (by decide) (fun c_40 => absurd c_40 (by decide)) (fun c_40 => ?_)
          refine lv_iload hx hb dL_law_583 (lv_at hl_38 1 rfl) ?_
          refine lv_i2l (v := Int32.toInt64 (pcV two)) hx hb dL_law_585 rfl ?_
          refine lv_goto (tgt := 590) hx hb dL_law_586 (by decide) ?_
          refine lv_ladd hx hb dL_law_590 ?_
          refine ls_lst C hH_2 hS_3 1 rfl (by decide) (j := (12 + cl)) rfl (show (12 + cl) < 16 by omega) dL_law_591 (fun H locs hH_41 hS_42 => ?_)
          refine lv_aload_n hx hb dL_law_592 rfl (lv_at hl_38 3 rfl) ?_
          refine lv_iconst (v := 2) hx hb dL_law_593 (by decide) ?_
          refine lv_iload hx hb dL_law_594 (lv_at hl_38 19 rfl) ?_
          refine lv_iload hx hb dL_law_596 (lv_at hl_38 1 rfl) ?_
          refine lv_iconst (v := 0) hx hb dL_law_598 (by decide) ?_
          refine zk_cl (zk_rSH (As := [.ref (ac (0, 0, 0)), .int 2, .int (nI cl), .int (pcV two), .int 0]) (rest := []) (n := 5) (w := zk_sum 50 (cw cA (g 0) ac 6 nc nc 6 nt dy mo I L) (aw cA ad Ia (up2 La 1 (12 + cl) ((L 6 cl) + (Int32.toInt64 (pcV two)))))) C (qd_pay l D cA A g ac nc nt dy mo I L _ hst cl (pcV two) hi hzp (fun z => c_23 z.2) (by omega)) hH_41 hS_42 gL_law_L_does rfl rfl (by decide +kernel) ⟨Nat.le_of_ble_eq_true rfl, Nat.le_of_ble_eq_true rfl⟩ hl_38 rfl (Nat.le_of_ble_eq_true rfl) dL_law_599 ⟨by show cells + 2 ≤ 600104; omega, by show slots + 12 ≤ 7301314; omega⟩) hS_42 (fun r_43 w_44 H locs hP hH_45 hS_46 => ?_)
          obtain ⟨rfl, rfl⟩ := hP
          refine lv_iload hx hb dL_law_602 (lv_at hl_38 21 rfl) ?_
          refine lv_if_ne (tgt := 613) hx hb dL_law_604 (by decide) (fun c_47 => ?_) (fun c_47 => absurd c_47 (by decide))
          refine lv_iload hx hb dL_law_613 (lv_at hl_38 0 rfl) ?_
          refine lv_if_eq (tgt := 628) hx hb dL_law_615 (by decide) (fun c_48 => absurd c_48 (by decide)) (fun c_48 => ?_)
          refine lv_aload_n hx hb dL_law_618 rfl (lv_at hl_38 5 rfl) ?_
          refine lv_bipush (v := 12) hx hb dL_law_619 (by decide) ?_
          refine lv_iload hx hb dL_law_621 (lv_at hl_38 19 rfl) ?_
          refine lv_iadd hx hb dL_law_623 ?_
          refine W.eq (g2 := F0 m 624 ls [.int (nI (12 + cl)), .ref (ad (1, 0, 0)), .long (L 6 cl + Int32.toInt64 (pcV two))]) (by rw [show (12 + (nI cl) : Int32) = nI (12 + cl) from (zi_add rfl rfl)]) ?_
          refine ls_lld C hH_45 1 rfl (by decide) (j := (12 + cl)) rfl (show (12 + cl) < 16 by omega) dL_law_624 ?_
          rw [up2_s]
          refine lv_goto (tgt := 631) hx hb dL_law_625 (by decide) ?_
          refine zl_cmp_ne (tgt := 639) hx hb dL_law_631 dL_law_632 (by decide) (fun c_49 => absurd rfl c_49) (fun c_49 => ?_)
          refine lv_iconst (v := 1) hx hb dL_law_635 (by decide) ?_
          refine lv_goto (tgt := 640) hx hb dL_law_636 (by decide) ?_
          refine lv_istore (lv' := [(13, .int 1), (24, .int 1), (23, .int (pcV two)), (0, .ref sb), (1, .ref (ac (0, 0, 0))), (2, .ref (ad (0, 0, 0))), (3, .ref (ad (1, 0, 0))), (4, .ref (ad (2, 0, 0))), (5, .ref (ad (3, 0, 0))), (6, .ref (ad (4, 0, 0))), (7, .ref (ad (5, 0, 0))), (8, .ref (ad (6, 0, 0))), (9, .ref (ad (7, 0, 0))), (10, .ref (ad (8, 0, 0))), (11, .ref (ad (9, 0, 0))), (12, .ref (ad (10, 0, 0))), (14, .int (nI k)), (16, .int (nI one)), (17, .int (nI two)), (18, .int (nI cl)), (19, .int (nI fd)), (20, .int 1), (21, .int (arV cl nc fd)), (22, .int (nI f))]) hx hb dL_law_640 hl_38 (by decide) rfl (fun ls hl_50 => ?_)
          refine lv_goto (tgt := 2146) hx hb dL_law_642 (by decide) ?_
          exact W.widen (by show cells + 2 ≤ cells + 30; omega) (by show slots + 12 ≤ slots + 2200; omega) (K ac nc nt dy mo I (up2 L 6 cl (L 6 cl + Int32.toInt64 (pcV two))) Ia (up2 La 1 (12 + cl) ((L 6 cl) + (Int32.toInt64 (pcV two)))) H locs ls hH_45 hS_46 (by have q := J_pay (x := Int32.toInt64 (pcV two)) hJ hi; rw [v2 cl (by omega)] at q; exact q.mono (by omega)) hc1 rfl (lv_sub hl_50 [3, 4, 5, 6, 7, 8, 9, 10, 11, 12, 13, 14, 15, 0, 16, 17, 18] rfl))
    · have hl_51 : lv_has ls 33 [(23, .int (pcV two)), (0, .ref sb), (1, .ref (ac (0, 0, 0))), (2, .ref (ad (0, 0, 0))), (3, .ref (ad (1, 0, 0))), (4, .ref (ad (2, 0, 0))), (5, .ref (ad (3, 0, 0))), (6, .ref (ad (4, 0, 0))), (7, .ref (ad (5, 0, 0))), (8, .ref (ad (6, 0, 0))), (9, .ref (ad (7, 0, 0))), (10, .ref (ad (8, 0, 0))), (11, .ref (ad (9, 0, 0))), (12, .ref (ad (10, 0, 0))), (13, .int 1), (14, .int (nI k)), (16, .int (nI one)), (17, .int (nI two)), (18, .int (nI cl)), (19, .int (nI fd)), (20, .int 0), (21, .int (arV cl nc fd)), (22, .int (nI f))] := by have e9 : icV cl nc = 0 := if_neg hi; have h9 := hl_6; rw [e9] at h9; exact h9
      refine lv_iload hx hb dL_law_528 (lv_at hl_51 20 rfl) ?_
      refine lv_if_eq (tgt := 558) hx hb dL_law_530 (by decide) (fun c_52 => ?_) (fun c_52 => absurd c_52 (by decide))
      refine lv_iconst (v := 0) hx hb dL_law_558 (by decide) ?_
      refine lv_istore (lv' := [(24, .int 0), (23, .int (pcV two)), (0, .ref sb), (1, .ref (ac (0, 0, 0))), (2, .ref (ad (0, 0, 0))), (3, .ref (ad (1, 0, 0))), (4, .ref (ad (2, 0, 0))), (5, .ref (ad (3, 0, 0))), (6, .ref (ad (4, 0, 0))), (7, .ref (ad (5, 0, 0))), (8, .ref (ad (6, 0, 0))), (9, .ref (ad (7, 0, 0))), (10, .ref (ad (8, 0, 0))), (11, .ref (ad (9, 0, 0))), (12, .ref (ad (10, 0, 0))), (13, .int 1), (14, .int (nI k)), (16, .int (nI one)), (17, .int (nI two)), (18, .int (nI cl)), (19, .int (nI fd)), (20, .int 0), (21, .int (arV cl nc fd)), (22, .int (nI f))]) hx hb dL_law_559 hl_51 (by decide) rfl (fun ls hl_53 => ?_)
      refine lv_aload_n hx hb dL_law_561 rfl (lv_at hl_53 5 rfl) ?_
      refine lv_bipush (v := 12) hx hb dL_law_562 (by decide) ?_
      refine lv_iload hx hb dL_law_564 (lv_at hl_53 0 rfl) ?_
      refine lv_if_eq (tgt := 574) hx hb dL_law_566 (by decide) (fun c_54 => ?_) (fun c_54 => absurd c_54 (by decide))
      refine lv_iconst (v := 0) hx hb dL_law_574 (by decide) ?_
      refine lv_iadd hx hb dL_law_575 ?_
      rw [Int32.add_zero]
      refine lv_dup2_11 hx hb dL_law_576 rfl rfl ?_
      refine ls_lld C hH_2 1 rfl (by decide) (j := 12) rfl (show 12 < 16 by omega) dL_law_577 ?_
      refine lv_iload hx hb dL_law_578 (lv_at hl_53 0 rfl) ?_
      refine lv_if_eq (tgt := 589) hx hb dL_law_580 (by decide) (fun c_55 => ?_) (fun c_55 => absurd c_55 (by decide))
      refine lv_lconst (v := 0) hx hb dL_law_589 (by decide) ?_
      refine lv_ladd hx hb dL_law_590 ?_
      refine ls_lst C hH_2 hS_3 1 rfl (by decide) (j := 12) rfl (show 12 < 16 by omega) dL_law_591 (fun H locs hH_56 hS_57 => ?_)
      have hH_58 := hH_56
      rw [up2_z] at hH_58
      refine lv_aload_n hx hb dL_law_592 rfl (lv_at hl_53 3 rfl) ?_
      refine lv_iconst (v := 2) hx hb dL_law_593 (by decide) ?_
      refine lv_iload hx hb dL_law_594 (lv_at hl_53 19 rfl) ?_
      refine lv_iload hx hb dL_law_596 (lv_at hl_53 1 rfl) ?_
      refine lv_iconst (v := 0) hx hb dL_law_598 (by decide) ?_
      refine zk_cl (zk_rSH (As := [.ref (ac (0, 0, 0)), .int 2, .int (nI cl), .int (pcV two), .int 0]) (rest := []) (n := 5) (w := zk_sum 50 (cw cA (g 0) ac 6 nc nc 6 nt dy mo I L) (aw cA ad Ia La)) C (qd_pay_I l D cA A g ac nc nt dy mo I L _ hst (nI cl) (pcV two) (zno (by omega) (by omega) hi) (by omega)) hH_58 hS_57 gL_law_L_does rfl rfl (by decide +kernel) ⟨Nat.le_of_ble_eq_true rfl, Nat.le_of_ble_eq_true rfl⟩ hl_53 rfl (Nat.le_of_ble_eq_true rfl) dL_law_599 ⟨by show cells + 2 ≤ 600104; omega, by show slots + 12 ≤ 7301314; omega⟩) hS_57 (fun r_59 w_60 H locs hP hH_61 hS_62 => ?_)
      obtain ⟨rfl, rfl⟩ := hP
      refine lv_iload hx hb dL_law_602 (lv_at hl_53 21 rfl) ?_
      refine lv_if_ne (tgt := 613) hx hb dL_law_604 (by decide) (fun c_63 => absurd c_63 (by decide)) (fun c_63 => ?_)
      refine lv_ldc2 (v := (-3000000000000)) hx hb hown (hts (.constantLong RL 59 (-3000000000000)) (by decide +kernel)) dL_law_607 ?_
      refine lv_goto (tgt := 631) hx hb dL_law_610 (by decide) ?_
      refine zl_cmp_ne (tgt := 639) hx hb dL_law_631 dL_law_632 (by decide) (fun c_64 => absurd c_64 (by decide)) (fun c_64 => ?_)
      refine lv_iconst (v := 1) hx hb dL_law_635 (by decide) ?_
      refine lv_goto (tgt := 640) hx hb dL_law_636 (by decide) ?_
      refine lv_istore (lv' := [(13, .int 1), (24, .int 0), (23, .int (pcV two)), (0, .ref sb), (1, .ref (ac (0, 0, 0))), (2, .ref (ad (0, 0, 0))), (3, .ref (ad (1, 0, 0))), (4, .ref (ad (2, 0, 0))), (5, .ref (ad (3, 0, 0))), (6, .ref (ad (4, 0, 0))), (7, .ref (ad (5, 0, 0))), (8, .ref (ad (6, 0, 0))), (9, .ref (ad (7, 0, 0))), (10, .ref (ad (8, 0, 0))), (11, .ref (ad (9, 0, 0))), (12, .ref (ad (10, 0, 0))), (14, .int (nI k)), (16, .int (nI one)), (17, .int (nI two)), (18, .int (nI cl)), (19, .int (nI fd)), (20, .int 0), (21, .int (arV cl nc fd)), (22, .int (nI f))]) hx hb dL_law_640 hl_53 (by decide) rfl (fun ls hl_65 => ?_)
      refine lv_goto (tgt := 2146) hx hb dL_law_642 (by decide) ?_
      exact W.widen (by show cells + 2 ≤ cells + 30; omega) (by show slots + 12 ≤ slots + 2200; omega) (K ac nc nt dy mo I L Ia La H locs ls hH_61 hS_62 (hJ.mono (by omega)) hc1 rfl (lv_sub hl_65 [3, 4, 5, 6, 7, 8, 9, 10, 11, 12, 13, 14, 15, 0, 16, 17, 18] rfl))
end LAW
