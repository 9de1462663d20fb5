section LAW
variable {p : Program} {l : Launch} {e : Env} {s : State} {m : MethodId} {below : List Frame} {meth : Method} {c : Code} {H : Heap} {locs : List Loc} {cells slots : Nat} {Q : State → Prop} {ls : Array Slot} {D : va_G} {cA : Nat → ClassId} {A : Nat → Prop} {g : Nat → Nat}
variable {sb k one two b nc nt dy cl fd f : Nat} {ac ad : zk_K → Nat} {mo : Int64} {I Ia : zIA} {L La : zLA}
set_option maxHeartbeats 2000000 in
set_option maxRecDepth 100000 in
theorem lw_client (C : zC p l m c cL_law 33 s #[.ref sb] wsL_law RL D (zt cA) A g meth) (hst : l.stackTraces = false) (hJ : zJ nc nt dy b mo I L Ia La) (hb8 : b ≤ 8000) (hone : one < 60000) (htwo : two < 60000) (hk : k < 60) (hcl : cl ≤ nc) (hfd : fd < 7) (hf : f < 6) (hff : fd < 6 → f = fd) (hc : cells + 30 ≤ 600104) (hs : slots + 2200 ≤ 7301314) (hH : zk_H D A (zk_sum 50 (cw cA (g 0) ac 6 nc nc 6 nt dy mo I L) (aw cA ad Ia La)) H) (hS : va_S A s.heap H locs) (hl : lv_has ls 33 [(0, .ref sb), (1, .ref (ac (0, 0, 0))), (2, .ref (ad (0, 0, 0))), (3, .ref (ad (1, 0, 0))), (4, .ref (ad (2, 0, 0))), (5, .ref (ad (3, 0, 0))), (6, .ref (ad (4, 0, 0))), (7, .ref (ad (5, 0, 0))), (8, .ref (ad (6, 0, 0))), (9, .ref (ad (7, 0, 0))), (10, .ref (ad (8, 0, 0))), (11, .ref (ad (9, 0, 0))), (12, .ref (ad (10, 0, 0))), (13, .int 1), (14, .int (nI k)), (16, .int (nI one)), (17, .int (nI two)), (18, .int (nI cl)), (19, .int (nI fd)), (20, .int (icV cl nc)), (21, .int (arV cl nc fd)), (22, .int (nI f))]) (K : lwK p l e s m below meth c D cA A g sb k one two (b + 12) (ac (0, 0, 0)) ad (cells + 30) (slots + 2200) Q) : W p l e room_1 s m #[.ref sb] below meth c H locs cells slots Q (F0 m 451 ls []) := by
  obtain ⟨⟨hx, hb, hml, hown, hts⟩, hG, hlk⟩ := id C
  obtain ⟨hO, hM, hD⟩ := hJ.d
  obtain ⟨hI, ⟨hn3, hn30⟩, ⟨e0, e1, e2⟩, hP, hGo, ⟨v1, v2, v3, v4⟩, h7, hR, hE, hSu⟩ := id hJ
  obtain ⟨-, -, hdy⟩ := hI.1
  obtain ⟨h11, h12, h16, -, -⟩ := hI.t
  refine lv_aload hx hb dL_law_451 (lv_at hl 12 rfl) ?_
  refine lv_iconst (v := 1) hx hb dL_law_453 (by decide) ?_
  refine ls_ild C hH 10 rfl (by decide) (j := 1) rfl (show 1 < 3 by omega) dL_law_454 ?_
  refine W.eq (g2 := F0 m 455 ls [.int (nI nc)]) (by rw [e1]) ?_
  refine lv_iconst (v := 3) hx hb dL_law_455 (by decide) ?_
  refine lv_icmp_ge (tgt := 2146) hx hb dL_law_456 (by decide) (fun c_1 => ?_) (fun c_1 => ?_)
  · exact W.widen (by show cells ≤ cells + 30; omega) (by show slots ≤ slots + 2200; omega) (K ac nc nt dy mo I L Ia La H locs ls hH hS (hJ.mono (by omega)) (by have := (nI_leI (by decide) (by omega)).mp (show nI 3 ≤ nI nc from c_1); omega) rfl (lv_sub hl [0, 1, 2, 3, 4, 5, 6, 7, 8, 9, 10, 11, 12, 13, 14, 15, 16] rfl))
  · have hn2 : nc < 3 := Nat.lt_of_not_le (fun z => c_1 ((nI_leI (by decide) (by omega)).mpr z))
    refine lv_aload hx hb dL_law_459 (lv_at hl 12 rfl) ?_
    refine lv_iconst (v := 1) hx hb dL_law_461 (by decide) ?_
    refine lv_dup2_11 hx hb dL_law_462 rfl rfl ?_
    refine ls_ild C hH 10 rfl (by decide) (j := 1) rfl (show 1 < 3 by omega) dL_law_463 ?_
    refine W.eq (g2 := F0 m 464 ls [.int (nI nc), .int 1, .ref (ad (10, 0, 0))]) (by rw [e1]) ?_
    refine lv_iconst (v := 1) hx hb dL_law_464 (by decide) ?_
    refine lv_iadd hx hb dL_law_465 ?_
    refine W.eq (g2 := F0 m 466 ls [.int (nI (nc + 1)), .int 1, .ref (ad (10, 0, 0))]) (by rw [show ((nI nc) + 1 : Int32) = nI (nc + 1) from (zi_add rfl rfl)]) ?_
    refine ls_ist C hH hS 10 rfl (by decide) (j := 1) rfl (show 1 < 3 by omega) dL_law_466 (fun H locs hH_2 hS_3 => ?_)
    refine lv_aload_n hx hb dL_law_467 rfl (lv_at hl 1 rfl) ?_
    refine lv_iconst (v := 1) hx hb dL_law_468 (by decide) ?_
    refine lv_iconst (v := 0) hx hb dL_law_469 (by decide) ?_
    refine lv_iconst (v := 0) hx hb dL_law_470 (by decide) ?_
    refine lv_iconst (v := 0) hx hb dL_law_471 (by decide) ?_
    refine zk_cl (zk_rSH (As := [.ref (ac (0, 0, 0)), .int 1, .int 0, .int 0, .int 0]) (rest := []) (n := 5) (w := zk_sum 50 (cw cA (g 0) ac 6 nc nc 6 nt dy mo I L) (aw cA ad (up2 Ia 10 1 (nI (nc + 1))) La)) C (qd_client l D cA A g ac nc nt dy mo I L _ hst (by omega) (by omega) hI.2.2.2.2.2.2.2.2 (fun t ht => (h11 t ht).2)) hH_2 hS_3 gL_law_L_does rfl rfl (by decide +kernel) ⟨Nat.le_of_ble_eq_true rfl, Nat.le_of_ble_eq_true rfl⟩ hl rfl (Nat.le_of_ble_eq_true rfl) dL_law_472 ⟨by show cells + 17 ≤ 600104; omega, by show slots + 1215 ≤ 7301314; omega⟩) hS_3 (fun r_4 w_5 H locs hP hH_6 hS_7 => ?_)
    obtain ⟨rfl, ac2, hac, rfl⟩ := hP
    refine lv_aload hx hb dL_law_475 (lv_at hl 12 rfl) ?_
    refine lv_iconst (v := 1) hx hb dL_law_477 (by decide) ?_
    refine ls_ild C hH_6 10 rfl (by decide) (j := 1) rfl (show 1 < 3 by omega) dL_law_478 ?_
    rw [up2_s]
    refine lv_iconst (v := 1) hx hb dL_law_479 (by decide) ?_
    refine lv_isub hx hb dL_law_480 ?_
    refine W.eq (g2 := F0 m 481 ls [.int (nI nc), .long (Int32.toInt64 (nI nc))]) (by rw [pk_s1]) ?_
    refine lv_i2l (v := Int32.toInt64 (nI nc)) hx hb dL_law_481 rfl ?_
    refine zl_cmp_ne (tgt := 490) hx hb dL_law_482 dL_law_483 (by decide) (fun c_8 => absurd rfl c_8) (fun c_8 => ?_)
    refine lv_iconst (v := 1) hx hb dL_law_486 (by decide) ?_
    refine lv_goto (tgt := 491) hx hb dL_law_487 (by decide) ?_
    refine lv_istore (lv' := [(13, .int 1), (0, .ref sb), (1, .ref (ac (0, 0, 0))), (2, .ref (ad (0, 0, 0))), (3, .ref (ad (1, 0, 0))), (4, .ref (ad (2, 0, 0))), (5, .ref (ad (3, 0, 0))), (6, .ref (ad (4, 0, 0))), (7, .ref (ad (5, 0, 0))), (8, .ref (ad (6, 0, 0))), (9, .ref (ad (7, 0, 0))), (10, .ref (ad (8, 0, 0))), (11, .ref (ad (9, 0, 0))), (12, .ref (ad (10, 0, 0))), (14, .int (nI k)), (16, .int (nI one)), (17, .int (nI two)), (18, .int (nI cl)), (19, .int (nI fd)), (20, .int (icV cl nc)), (21, .int (arV cl nc fd)), (22, .int (nI f))]) hx hb dL_law_491 hl (by decide) rfl (fun ls hl_9 => ?_)
    refine lv_goto (tgt := 2146) hx hb dL_law_493 (by decide) ?_
    exact W.widen (by show cells + 17 ≤ cells + 30; omega) (by show slots + 1215 ≤ slots + 2200; omega) (K ac2 (nc + 1) nt dy mo I L (up2 Ia 10 1 (nI (nc + 1))) La H locs ls hH_6 hS_7 ((J_client hJ (by omega)).mono (by omega)) (by omega) hac (lv_sub hl_9 [1, 2, 3, 4, 5, 6, 7, 8, 9, 10, 11, 12, 13, 0, 14, 15, 16] rfl))
end LAW
