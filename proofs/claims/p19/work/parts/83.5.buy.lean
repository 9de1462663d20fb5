section LAW
variable {p : Program} {l : Launch} {e : Env} {s : State} {m : MethodId} {below : List Frame} {meth : Method} {c : Code} {H : Heap} {locs : List Loc} {cells slots : Nat} {Q : State → Prop} {ls : Array Slot} {D : va_G} {cA : Nat → ClassId} {A : Nat → Prop} {g : Nat → Nat}
variable {sb k one two b nc nt dy cl fd f : Nat} {ac ad : zk_K → Nat} {mo : Int64} {I Ia : zIA} {L La : zLA}
set_option maxHeartbeats 2000000 in
set_option maxRecDepth 100000 in
theorem lw_buy (C : zC p l m c cL_law 33 s #[.ref sb] wsL_law RL D (zt cA) A g meth) (hst : l.stackTraces = false) (hJ : zJ nc nt dy b mo I L Ia La) (hb8 : b ≤ 8000) (hone : one < 60000) (htwo : two < 60000) (hk : k < 60) (hcl : cl ≤ nc) (hfd : fd < 7) (hf : f < 6) (hff : fd < 6 → f = fd) (hc : cells + 30 ≤ 600104) (hs : slots + 2200 ≤ 7301314) (hH : zk_H D A (zk_sum 50 (cw cA (g 0) ac 6 nc nc 6 nt dy mo I L) (aw cA ad Ia La)) H) (hS : va_S A s.heap H locs) (hc1 : 1 ≤ nc) (hnt : nt < 18) (hl : lv_has ls 33 [(0, .ref sb), (1, .ref (ac (0, 0, 0))), (2, .ref (ad (0, 0, 0))), (3, .ref (ad (1, 0, 0))), (4, .ref (ad (2, 0, 0))), (5, .ref (ad (3, 0, 0))), (6, .ref (ad (4, 0, 0))), (7, .ref (ad (5, 0, 0))), (8, .ref (ad (6, 0, 0))), (9, .ref (ad (7, 0, 0))), (10, .ref (ad (8, 0, 0))), (11, .ref (ad (9, 0, 0))), (12, .ref (ad (10, 0, 0))), (13, .int 1), (14, .int (nI k)), (16, .int (nI one)), (17, .int (nI two)), (18, .int (nI cl)), (19, .int (nI fd)), (20, .int (icV cl nc)), (21, .int (arV cl nc fd)), (22, .int (nI f))]) (K : lwK p l e s m below meth c D cA A g sb k one two (b + 12) (ac (0, 0, 0)) ad (cells + 30) (slots + 2200) Q) : W p l e room_1 s m #[.ref sb] below meth c H locs cells slots Q (F0 m 874 ls []) := by
  obtain ⟨⟨hx, hb, hml, hown, hts⟩, hG, hlk⟩ := id C
  obtain ⟨hO, hM, hD⟩ := hJ.d
  obtain ⟨hI, ⟨hn3, hn30⟩, ⟨e0, e1, e2⟩, hP, hGo, ⟨v1, v2, v3, v4⟩, h7, hR, hE, hSu⟩ := id hJ
  obtain ⟨-, -, hdy⟩ := hI.1
  obtain ⟨h11, h12, h16, -, -⟩ := hI.t
  obtain ⟨bb1, bb2⟩ := bv_bd htwo
  have hzb : zR (nI (bvV two)) 1 10000000 := zR_of (a := 1) (b := 10000000) bb1 bb2 (by decide)
  have hx64 : (Int32.toInt64 (nI (bvV two))).toInt = (bvV two : Int) := by rw [i32_64, nI_toInt (by omega)]
  have hcos : cosL (Int32.toInt64 (nI (bvV two))) = costL (Int32.toInt64 (nI (bvV two))) := cos_eq (by omega) (by omega)
  refine z_join (nL := 33) (D := D) (A := A) (w := zk_sum 50 (cw cA (g 0) ac 6 nc nc 6 nt dy mo I L) (aw cA ad Ia La)) (pcj := 920) (lc := [(0, .ref sb), (1, .ref (ac (0, 0, 0))), (2, .ref (ad (0, 0, 0))), (3, .ref (ad (1, 0, 0))), (4, .ref (ad (2, 0, 0))), (5, .ref (ad (3, 0, 0))), (6, .ref (ad (4, 0, 0))), (7, .ref (ad (5, 0, 0))), (8, .ref (ad (6, 0, 0))), (9, .ref (ad (7, 0, 0))), (10, .ref (ad (8, 0, 0))), (11, .ref (ad (9, 0, 0))), (12, .ref (ad (10, 0, 0))), (13, .int 1), (14, .int (nI k)), (16, .int (nI one)), (17, .int (nI two)), (18, .int (nI cl)), (19, .int (nI fd)), (20, .int (icV cl nc)), (21, .int (arV cl nc fd)), (22, .int (nI f))]) (st1 := [.int (nI (bvV two))]) (fun J_1 => ?_) ?_
  · refine lv_iload hx hb dL_law_874 (lv_at hl 16 rfl) ?_
    refine lv_bipush (v := 7) hx hb dL_law_876 (by decide) ?_
    refine lv_idiv hx hb dL_law_878 (by decide) ?_
    refine W.eq (g2 := F0 m 879 ls [.int (nI (two / 7))]) (by rw [show ((nI two) / 7 : Int32) = nI (two / 7) from (zi_div rfl (b := 7) rfl (by omega) (by decide) (by decide))]) ?_
    refine lv_iconst (v := 3) hx hb dL_law_879 (by decide) ?_
    refine lv_irem hx hb dL_law_880 (by decide) ?_
    refine W.eq (g2 := F0 m 881 ls [.int (nI ((two / 7) % 3))]) (by rw [show ((nI (two / 7)) - (nI (two / 7)) / 3 * 3 : Int32) = nI ((two / 7) % 3) from (zi_rem rfl (b := 3) rfl (by omega) (by decide) (by decide))]) ?_
    refine lv_if_ne (tgt := 894) hx hb dL_law_881 (by decide) (fun c_5 => ?_) (fun c_5 => ?_)
    · have c_5n := fun z => c_5 ((nI_k0 (by omega)).mpr z)
      refine lv_iload hx hb dL_law_894 (lv_at hl 16 rfl) ?_
      refine lv_bipush (v := 7) hx hb dL_law_896 (by decide) ?_
      refine lv_idiv hx hb dL_law_898 (by decide) ?_
      refine W.eq (g2 := F0 m 899 ls [.int (nI (two / 7))]) (by rw [show ((nI two) / 7 : Int32) = nI (two / 7) from (zi_div rfl (b := 7) rfl (by omega) (by decide) (by decide))]) ?_
      refine lv_iconst (v := 3) hx hb dL_law_899 (by decide) ?_
      refine lv_irem hx hb dL_law_900 (by decide) ?_
      refine W.eq (g2 := F0 m 901 ls [.int (nI ((two / 7) % 3))]) (by rw [show ((nI (two / 7)) - (nI (two / 7)) / 3 * 3 : Int32) = nI ((two / 7) % 3) from (zi_rem rfl (b := 3) rfl (by omega) (by decide) (by decide))]) ?_
      refine lv_iconst (v := 1) hx hb dL_law_901 (by decide) ?_
      refine lv_icmp_ne (tgt := 912) hx hb dL_law_902 (by decide) (fun c_6 => ?_) (fun c_6 => ?_)
      · have c_6n := fun z => c_6 ((nI_k1 (by omega)).mpr z)
        refine lv_iconst (v := 1) hx hb dL_law_912 (by decide) ?_
        refine lv_iload hx hb dL_law_913 (lv_at hl 16 rfl) ?_
        refine lv_sipush (v := 12000) hx hb dL_law_915 (by decide) ?_
        refine lv_irem hx hb dL_law_918 (by decide) ?_
        refine W.eq (g2 := F0 m 919 ls [.int (nI (two % 12000)), .int 1]) (by rw [show ((nI two) - (nI two) / 12000 * 12000 : Int32) = nI (two % 12000) from (zi_rem rfl (b := 12000) rfl (by omega) (by decide) (by decide))]) ?_
        refine lv_iadd hx hb dL_law_919 ?_
        refine W.eq (g2 := F0 m 920 ls [.int (nI (1 + (two % 12000)))]) (by rw [show (1 + (nI (two % 12000)) : Int32) = nI (1 + (two % 12000)) from (zi_add rfl rfl)]) ?_
        refine W.eq (g2 := F0 m 920 ls [.int (nI (bvV two))]) (by rw [show (nI (bvV two) : Int32) = nI (1 + (two % 12000)) from (by unfold bvV; split <;> first | contradiction | rfl | (split <;> first | contradiction | rfl))]) ?_
        exact J_1 _ _ _ hH hS (lv_sub hl [0, 1, 2, 3, 4, 5, 6, 7, 8, 9, 10, 11, 12, 13, 14, 15, 16, 17, 18, 19, 20, 21] rfl)
      · have c_6n := (nI_k1 (by omega)).mp c_6
        refine lv_iconst (v := 1) hx hb dL_law_905 (by decide) ?_
        refine lv_iload hx hb dL_law_906 (lv_at hl 16 rfl) ?_
        refine lv_iadd hx hb dL_law_908 ?_
        refine W.eq (g2 := F0 m 909 ls [.int (nI (1 + two))]) (by rw [show (1 + (nI two) : Int32) = nI (1 + two) from (zi_add rfl rfl)]) ?_
        refine lv_goto (tgt := 920) hx hb dL_law_909 (by decide) ?_
        refine W.eq (g2 := F0 m 920 ls [.int (nI (bvV two))]) (by rw [show (nI (bvV two) : Int32) = nI (1 + two) from (by unfold bvV; split <;> first | contradiction | rfl | (split <;> first | contradiction | rfl))]) ?_
        exact J_1 _ _ _ hH hS (lv_sub hl [0, 1, 2, 3, 4, 5, 6, 7, 8, 9, 10, 11, 12, 13, 14, 15, 16, 17, 18, 19, 20, 21] rfl)
    · have c_5n := (nI_k0 (by omega)).mp c_5
      refine lv_iconst (v := 1) hx hb dL_law_884 (by decide) ?_
      refine lv_iload hx hb dL_law_885 (lv_at hl 16 rfl) ?_
      refine lv_bipush (v := 100) hx hb dL_law_887 (by decide) ?_
      refine lv_imul hx hb dL_law_889 ?_
      refine lv_iadd hx hb dL_law_890 ?_
      refine W.eq (g2 := F0 m 891 ls [.int (nI (1 + (two * 100)))]) (by rw [show (1 + ((nI two) * 100) : Int32) = nI (1 + (two * 100)) from (zi_add rfl (zi_mul rfl rfl))]) ?_
      refine lv_goto (tgt := 920) hx hb dL_law_891 (by decide) ?_
      refine W.eq (g2 := F0 m 920 ls [.int (nI (bvV two))]) (by rw [show (nI (bvV two) : Int32) = nI (1 + (two * 100)) from (by unfold bvV; split <;> first | contradiction | rfl | (split <;> first | contradiction | rfl))]) ?_
      exact J_1 _ _ _ hH hS (lv_sub hl [0, 1, 2, 3, 4, 5, 6, 7, 8, 9, 10, 11, 12, 13, 14, 15, 16, 17, 18, 19, 20, 21] rfl)
  · intro H locs ls hH_2 hS_3 hl_4
    refine lv_istore (lv' := [(23, .int (nI (bvV two))), (0, .ref sb), (1, .ref (ac (0, 0, 0))), (2, .ref (ad (0, 0, 0))), (3, .ref (ad (1, 0, 0))), (4, .ref (ad (2, 0, 0))), (5, .ref (ad (3, 0, 0))), (6, .ref (ad (4, 0, 0))), (7, .ref (ad (5, 0, 0))), (8, .ref (ad (6, 0, 0))), (9, .ref (ad (7, 0, 0))), (10, .ref (ad (8, 0, 0))), (11, .ref (ad (9, 0, 0))), (12, .ref (ad (10, 0, 0))), (13, .int 1), (14, .int (nI k)), (16, .int (nI one)), (17, .int (nI two)), (18, .int (nI cl)), (19, .int (nI fd)), (20, .int (icV cl nc)), (21, .int (arV cl nc fd)), (22, .int (nI f))]) hx hb dL_law_920 hl_4 (by decide) rfl (fun ls hl_7 => ?_)
    by_cases hr : cl < nc ∧ fd < 6
    · obtain ⟨hr1, hr2⟩ := id hr
      have hl_8 : lv_has ls 33 [(23, .int (nI (bvV two))), (0, .ref sb), (1, .ref (ac (0, 0, 0))), (2, .ref (ad (0, 0, 0))), (3, .ref (ad (1, 0, 0))), (4, .ref (ad (2, 0, 0))), (5, .ref (ad (3, 0, 0))), (6, .ref (ad (4, 0, 0))), (7, .ref (ad (5, 0, 0))), (8, .ref (ad (6, 0, 0))), (9, .ref (ad (7, 0, 0))), (10, .ref (ad (8, 0, 0))), (11, .ref (ad (9, 0, 0))), (12, .ref (ad (10, 0, 0))), (13, .int 1), (14, .int (nI k)), (16, .int (nI one)), (17, .int (nI two)), (18, .int (nI cl)), (19, .int (nI fd)), (20, .int (icV cl nc)), (21, .int 1), (22, .int (nI f))] := by have e9 : arV cl nc fd = 1 := if_pos hr; have h9 := hl_7; rw [e9] at h9; exact h9
      refine lv_iload hx hb dL_law_922 (lv_at hl_8 21 rfl) ?_
      refine lv_if_eq (tgt := 970) hx hb dL_law_924 (by decide) (fun c_9 => absurd c_9 (by decide)) (fun c_9 => ?_)
      refine lv_iload hx hb dL_law_927 (lv_at hl_8 0 rfl) ?_
      refine lv_i2l (v := Int32.toInt64 (nI (bvV two))) hx hb dL_law_929 rfl ?_
      refine lv_ldc2 (v := 1000) hx hb hown (hts (.constantLong RL 81 1000) (by decide +kernel)) dL_law_930 ?_
      refine lv_lmul hx hb dL_law_933 ?_
      refine lv_aload_n hx hb dL_law_934 rfl (lv_at hl_8 3 rfl) ?_
      refine lv_iload hx hb dL_law_935 (lv_at hl_8 22 rfl) ?_
      refine ls_ild C hH_2 0 rfl (by decide) (j := f) rfl (show f < 6 by omega) dL_law_937 ?_
      refine W.eq (g2 := F0 m 938 ls [.int (I 1 fd), .long ((Int32.toInt64 (nI (bvV two))) * 1000)]) (by rw [hP f hf, hff hr2]) ?_
      refine lv_i2l (v := Int32.toInt64 (I 1 fd)) hx hb dL_law_938 rfl ?_
      refine lv_ldiv hx hb dL_law_939 (hI.pr fd hr2) ?_
      refine W.eq (g2 := F0 m 940 ls [.long (partsL I fd (Int32.toInt64 (nI (bvV two))))]) (rfl) ?_
      refine lv_lconst (v := 0) hx hb dL_law_940 (by decide) ?_
      refine zl_cmp_le (tgt := 970) hx hb dL_law_941 dL_law_942 (by decide) (fun c_10 => ?_) (fun c_10 => ?_)
      · refine lv_iconst (v := 0) hx hb dL_law_970 (by decide) ?_
        refine lv_istore (lv' := [(24, .int 0), (23, .int (nI (bvV two))), (0, .ref sb), (1, .ref (ac (0, 0, 0))), (2, .ref (ad (0, 0, 0))), (3, .ref (ad (1, 0, 0))), (4, .ref (ad (2, 0, 0))), (5, .ref (ad (3, 0, 0))), (6, .ref (ad (4, 0, 0))), (7, .ref (ad (5, 0, 0))), (8, .ref (ad (6, 0, 0))), (9, .ref (ad (7, 0, 0))), (10, .ref (ad (8, 0, 0))), (11, .ref (ad (9, 0, 0))), (12, .ref (ad (10, 0, 0))), (13, .int 1), (14, .int (nI k)), (16, .int (nI one)), (17, .int (nI two)), (18, .int (nI cl)), (19, .int (nI fd)), (20, .int (icV cl nc)), (21, .int 1), (22, .int (nI f))]) hx hb dL_law_971 hl_8 (by decide) rfl (fun ls hl_11 => ?_)
        refine lv_iload hx hb dL_law_973 (lv_at hl_11 0 rfl) ?_
        refine lv_if_eq (tgt := 1013) hx hb dL_law_975 (by decide) (fun c_12 => ?_) (fun c_12 => absurd c_12 (by decide))
        refine lv_aload_n hx hb dL_law_1013 rfl (lv_at hl_11 3 rfl) ?_
        refine lv_iconst (v := 4) hx hb dL_law_1014 (by decide) ?_
        refine lv_iload hx hb dL_law_1015 (lv_at hl_11 19 rfl) ?_
        refine lv_iload hx hb dL_law_1017 (lv_at hl_11 20 rfl) ?_
        refine lv_iload hx hb dL_law_1019 (lv_at hl_11 1 rfl) ?_
        refine zk_cl (zk_rSH (As := [.ref (ac (0, 0, 0)), .int 4, .int (nI cl), .int (nI fd), .int (nI (bvV two))]) (rest := []) (n := 5) (w := zk_sum 50 (cw cA (g 0) ac 6 nc nc 6 nt dy mo I L) (aw cA ad Ia La)) C (qd_buy_S l D cA A g ac nc nt dy mo I L _ hst cl fd hr1 hr2 (nI (bvV two)) hzb (fun z => c_10 z.2.1) hI.pr (by omega) (by omega) hdy h11 h12 h16) hH_2 hS_3 gL_law_L_does rfl rfl (by decide +kernel) ⟨Nat.le_of_ble_eq_true rfl, Nat.le_of_ble_eq_true rfl⟩ hl_11 rfl (Nat.le_of_ble_eq_true rfl) dL_law_1021 ⟨by show cells + 4 ≤ 600104; omega, by show slots + 184 ≤ 7301314; omega⟩) hS_3 (fun r_13 w_14 H locs hP hH_15 hS_16 => ?_)
        obtain ⟨rfl, rfl⟩ := hP
        refine lv_iload hx hb dL_law_1024 (lv_at hl_11 22 rfl) ?_
        refine lv_if_ne (tgt := 1035) hx hb dL_law_1026 (by decide) (fun c_17 => ?_) (fun c_17 => absurd c_17 (by decide))
        refine lv_iload hx hb dL_law_1035 (lv_at hl_11 0 rfl) ?_
        refine lv_if_eq (tgt := 1050) hx hb dL_law_1037 (by decide) (fun c_18 => ?_) (fun c_18 => absurd c_18 (by decide))
        refine lv_ldc2 (v := (-1000000000000)) hx hb hown (hts (.constantLong RL 67 (-1000000000000)) (by decide +kernel)) dL_law_1050 ?_
        refine zl_cmp_ne (tgt := 1061) hx hb dL_law_1053 dL_law_1054 (by decide) (fun c_19 => absurd c_19 (by decide)) (fun c_19 => ?_)
        refine lv_iconst (v := 1) hx hb dL_law_1057 (by decide) ?_
        refine lv_goto (tgt := 1062) hx hb dL_law_1058 (by decide) ?_
        refine lv_istore (lv' := [(13, .int 1), (24, .int 0), (23, .int (nI (bvV two))), (0, .ref sb), (1, .ref (ac (0, 0, 0))), (2, .ref (ad (0, 0, 0))), (3, .ref (ad (1, 0, 0))), (4, .ref (ad (2, 0, 0))), (5, .ref (ad (3, 0, 0))), (6, .ref (ad (4, 0, 0))), (7, .ref (ad (5, 0, 0))), (8, .ref (ad (6, 0, 0))), (9, .ref (ad (7, 0, 0))), (10, .ref (ad (8, 0, 0))), (11, .ref (ad (9, 0, 0))), (12, .ref (ad (10, 0, 0))), (14, .int (nI k)), (16, .int (nI one)), (17, .int (nI two)), (18, .int (nI cl)), (19, .int (nI fd)), (20, .int (icV cl nc)), (21, .int 1), (22, .int (nI f))]) hx hb dL_law_1062 hl_11 (by decide) rfl (fun ls hl_20 => ?_)
        refine lv_goto (tgt := 2146) hx hb dL_law_1064 (by decide) ?_
        exact W.widen (by show cells + 4 ≤ cells + 30; omega) (by show slots + 184 ≤ slots + 2200; omega) (K ac nc nt dy mo I L Ia La H locs ls hH_15 hS_16 (hJ.mono (by omega)) hc1 rfl (lv_sub hl_20 [3, 4, 5, 6, 7, 8, 9, 10, 11, 12, 13, 14, 15, 0, 16, 17, 18] rfl))
      · refine lv_iload hx hb dL_law_945 (lv_at hl_8 0 rfl) ?_
        refine lv_i2l (v := Int32.toInt64 (nI (bvV two))) hx hb dL_law_947 rfl ?_
        refine lv_iload hx hb dL_law_948 (lv_at hl_8 0 rfl) ?_
        refine lv_i2l (v := Int32.toInt64 (nI (bvV two))) hx hb dL_law_950 rfl ?_
        refine zk_cl (zk_rS (As := [.long (Int32.toInt64 (nI (bvV two)))]) (rest := [.long (Int32.toInt64 (nI (bvV two)))]) (n := 1) (w := zk_sum 50 (cw cA (g 0) ac 6 nc nc 6 nt dy mo I L) (aw cA ad Ia La)) C (cH_costs l D cA A g _ (Int32.toInt64 (nI (bvV two)))) hH_2 hS_3 gL_law_L_costs rfl rfl (by decide +kernel) ⟨Nat.le_of_ble_eq_true rfl, Nat.le_of_ble_eq_true rfl⟩ hl_8 rfl (Nat.le_of_ble_eq_true rfl) dL_law_951 ⟨by show cells + 0 ≤ 600104; omega, by show slots + 0 ≤ 7301314; omega⟩) hS_3 (fun r_21 w_22 H locs hP hH_23 hS_24 => ?_)
        obtain ⟨rfl, rfl⟩ := hP
        refine W.eq (g2 := F0 m 954 ls [.long (costL (Int32.toInt64 (nI (bvV two)))), .long (Int32.toInt64 (nI (bvV two)))]) (by rw [hcos]) ?_
        refine lv_ladd hx hb dL_law_954 ?_
        refine lv_aload_n hx hb dL_law_955 rfl (lv_at hl_8 4 rfl) ?_
        refine lv_bipush (v := 12) hx hb dL_law_956 (by decide) ?_
        refine lv_iload hx hb dL_law_958 (lv_at hl_8 18 rfl) ?_
        refine lv_iadd hx hb dL_law_960 ?_
        refine W.eq (g2 := F0 m 961 ls [.int (nI (12 + cl)), .ref (ad (1, 0, 0)), .long ((Int32.toInt64 (nI (bvV two))) + (costL (Int32.toInt64 (nI (bvV two)))))]) (by rw [show (12 + (nI cl) : Int32) = nI (12 + cl) from (zi_add rfl rfl)]) ?_
        refine ls_lld C hH_23 1 rfl (by decide) (j := (12 + cl)) rfl (show (12 + cl) < 16 by omega) dL_law_961 ?_
        refine W.eq (g2 := F0 m 962 ls [.long (L 6 cl), .long ((Int32.toInt64 (nI (bvV two))) + (costL (Int32.toInt64 (nI (bvV two)))))]) (by rw [v2 cl (by omega)]) ?_
        refine zl_cmp_gt (tgt := 970) hx hb dL_law_962 dL_law_963 (by decide) (fun c_25 => ?_) (fun c_25 => ?_)
        · refine lv_iconst (v := 0) hx hb dL_law_970 (by decide) ?_
          refine lv_istore (lv' := [(24, .int 0), (23, .int (nI (bvV two))), (0, .ref sb), (1, .ref (ac (0, 0, 0))), (2, .ref (ad (0, 0, 0))), (3, .ref (ad (1, 0, 0))), (4, .ref (ad (2, 0, 0))), (5, .ref (ad (3, 0, 0))), (6, .ref (ad (4, 0, 0))), (7, .ref (ad (5, 0, 0))), (8, .ref (ad (6, 0, 0))), (9, .ref (ad (7, 0, 0))), (10, .ref (ad (8, 0, 0))), (11, .ref (ad (9, 0, 0))), (12, .ref (ad (10, 0, 0))), (13, .int 1), (14, .int (nI k)), (16, .int (nI one)), (17, .int (nI two)), (18, .int (nI cl)), (19, .int (nI fd)), (20, .int (icV cl nc)), (21, .int 1), (22, .int (nI f))]) hx hb dL_law_971 hl_8 (by decide) rfl (fun ls hl_26 => ?_)
          refine lv_iload hx hb dL_law_973 (lv_at hl_26 0 rfl) ?_
          refine lv_if_eq (tgt := 1013) hx hb dL_law_975 (by decide) (fun c_27 => ?_) (fun c_27 => absurd c_27 (by decide))
          refine lv_aload_n hx hb dL_law_1013 rfl (lv_at hl_26 3 rfl) ?_
          refine lv_iconst (v := 4) hx hb dL_law_1014 (by decide) ?_
          refine lv_iload hx hb dL_law_1015 (lv_at hl_26 19 rfl) ?_
          refine lv_iload hx hb dL_law_1017 (lv_at hl_26 20 rfl) ?_
          refine lv_iload hx hb dL_law_1019 (lv_at hl_26 1 rfl) ?_
          refine zk_cl (zk_rSH (As := [.ref (ac (0, 0, 0)), .int 4, .int (nI cl), .int (nI fd), .int (nI (bvV two))]) (rest := []) (n := 5) (w := zk_sum 50 (cw cA (g 0) ac 6 nc nc 6 nt dy mo I L) (aw cA ad Ia La)) C (qd_buy_S l D cA A g ac nc nt dy mo I L _ hst cl fd hr1 hr2 (nI (bvV two)) hzb (fun z => z.2.2 c_25) hI.pr (by omega) (by omega) hdy h11 h12 h16) hH_23 hS_24 gL_law_L_does rfl rfl (by decide +kernel) ⟨Nat.le_of_ble_eq_true rfl, Nat.le_of_ble_eq_true rfl⟩ hl_26 rfl (Nat.le_of_ble_eq_true rfl) dL_law_1021 ⟨by show cells + 0 + 4 ≤ 600104; omega, by show slots + 0 + 184 ≤ 7301314; omega⟩) hS_24 (fun r_28 w_29 H locs hP hH_30 hS_31 => ?_)
          obtain ⟨rfl, rfl⟩ := hP
          refine lv_iload hx hb dL_law_1024 (lv_at hl_26 22 rfl) ?_
          refine lv_if_ne (tgt := 1035) hx hb dL_law_1026 (by decide) (fun c_32 => ?_) (fun c_32 => absurd c_32 (by decide))
          refine lv_iload hx hb dL_law_1035 (lv_at hl_26 0 rfl) ?_
          refine lv_if_eq (tgt := 1050) hx hb dL_law_1037 (by decide) (fun c_33 => ?_) (fun c_33 => absurd c_33 (by decide))
          refine lv_ldc2 (v := (-1000000000000)) hx hb hown (hts (.constantLong RL 67 (-1000000000000)) (by decide +kernel)) dL_law_1050 ?_
          refine zl_cmp_ne (tgt := 1061) hx hb dL_law_1053 dL_law_1054 (by decide) (fun c_34 => absurd c_34 (by decide)) (fun c_34 => ?_)
          refine lv_iconst (v := 1) hx hb dL_law_1057 (by decide) ?_
          refine lv_goto (tgt := 1062) hx hb dL_law_1058 (by decide) ?_
          refine lv_istore (lv' := [(13, .int 1), (24, .int 0), (23, .int (nI (bvV two))), (0, .ref sb), (1, .ref (ac (0, 0, 0))), (2, .ref (ad (0, 0, 0))), (3, .ref (ad (1, 0, 0))), (4, .ref (ad (2, 0, 0))), (5, .ref (ad (3, 0, 0))), (6, .ref (ad (4, 0, 0))), (7, .ref (ad (5, 0, 0))), (8, .ref (ad (6, 0, 0))), (9, .ref (ad (7, 0, 0))), (10, .ref (ad (8, 0, 0))), (11, .ref (ad (9, 0, 0))), (12, .ref (ad (10, 0, 0))), (14, .int (nI k)), (16, .int (nI one)), (17, .int (nI two)), (18, .int (nI cl)), (19, .int (nI fd)), (20, .int (icV cl nc)), (21, .int 1), (22, .int (nI f))]) hx hb dL_law_1062 hl_26 (by decide) rfl (fun ls hl_35 => ?_)
          refine lv_goto (tgt := 2146) hx hb dL_law_1064 (by decide) ?_
          exact W.widen (by show cells + 0 + 4 ≤ cells + 30; omega) (by show slots + 0 + 184 ≤ slots + 2200; omega) (K ac nc nt dy mo I L Ia La H locs ls hH_30 hS_31 (hJ.mono (by omega)) hc1 rfl (lv_sub hl_35 [3, 4, 5, 6, 7, 8, 9, 10, 11, 12, 13, 14, 15, 0, 16, 17, 18] rfl))
        · refine lv_iconst (v := 1) hx hb dL_law_966 (by decide) ?_
          refine lv_goto (tgt := 971) hx hb dL_law_967 (by decide) ?_
          refine lv_istore (lv' := [(24, .int 1), (23, .int (nI (bvV two))), (0, .ref sb), (1, .ref (ac (0, 0, 0))), (2, .ref (ad (0, 0, 0))), (3, .ref (ad (1, 0, 0))), (4, .ref (ad (2, 0, 0))), (5, .ref (ad (3, 0, 0))), (6, .ref (ad (4, 0, 0))), (7, .ref (ad (5, 0, 0))), (8, .ref (ad (6, 0, 0))), (9, .ref (ad (7, 0, 0))), (10, .ref (ad (8, 0, 0))), (11, .ref (ad (9, 0, 0))), (12, .ref (ad (10, 0, 0))), (13, .int 1), (14, .int (nI k)), (16, .int (nI one)), (17, .int (nI two)), (18, .int (nI cl)), (19, .int (nI fd)), (20, .int (icV cl nc)), (21, .int 1), (22, .int (nI f))]) hx hb dL_law_971 hl_8 (by decide) rfl (fun ls hl_36 => ?_)
          refine lv_iload hx hb dL_law_973 (lv_at hl_36 0 rfl) ?_
          refine lv_if_eq (tgt := 1013) hx hb dL_law_975 (by decide) (fun c_37 => absurd c_37 (by decide)) (fun c_37 => ?_)
          refine lv_aload_n hx hb dL_law_978 rfl (lv_at hl_36 4 rfl) ?_
          refine lv_aload_n hx hb dL_law_979 rfl (lv_at hl_36 5 rfl) ?_
          refine lv_aload hx hb dL_law_980 (lv_at hl_36 6 rfl) ?_
          refine lv_aload hx hb dL_law_982 (lv_at hl_36 8 rfl) ?_
          refine lv_aload hx hb dL_law_984 (lv_at hl_36 9 rfl) ?_
          refine lv_aload hx hb dL_law_986 (lv_at hl_36 10 rfl) ?_
          refine lv_aload hx hb dL_law_988 (lv_at hl_36 14 rfl) ?_
          refine lv_iload hx hb dL_law_990 (lv_at hl_36 19 rfl) ?_
          refine lv_iload hx hb dL_law_992 (lv_at hl_36 20 rfl) ?_
          refine lv_iload hx hb dL_law_994 (lv_at hl_36 1 rfl) ?_
          refine lv_i2l (v := Int32.toInt64 (nI (bvV two))) hx hb dL_law_996 rfl ?_
          refine lv_ldc2 (v := 1000) hx hb hown (hts (.constantLong RL 81 1000) (by decide +kernel)) dL_law_997 ?_
          refine lv_lmul hx hb dL_law_1000 ?_
          refine lv_aload_n hx hb dL_law_1001 rfl (lv_at hl_36 4 rfl) ?_
          refine lv_iload hx hb dL_law_1002 (lv_at hl_36 23 rfl) ?_
          refine ls_ild C hH_23 0 rfl (by decide) (j := f) rfl (show f < 6 by omega) dL_law_1004 ?_
          refine W.eq (g2 := F0 m 1005 ls [.int (I 1 fd), .long ((Int32.toInt64 (nI (bvV two))) * 1000), .int (nI fd), .int (nI cl), .ref (ad (10, 0, 0)), .ref (ad (6, 0, 0)), .ref (ad (5, 0, 0)), .ref (ad (4, 0, 0)), .ref (ad (2, 0, 0)), .ref (ad (1, 0, 0)), .ref (ad (0, 0, 0))]) (by rw [hP f hf, hff hr2]) ?_
          refine lv_i2l (v := Int32.toInt64 (I 1 fd)) hx hb dL_law_1005 rfl ?_
          refine lv_ldiv hx hb dL_law_1006 (hI.pr fd hr2) ?_
          refine W.eq (g2 := F0 m 1007 ls [.long (partsL I fd (Int32.toInt64 (nI (bvV two)))), .int (nI fd), .int (nI cl), .ref (ad (10, 0, 0)), .ref (ad (6, 0, 0)), .ref (ad (5, 0, 0)), .ref (ad (4, 0, 0)), .ref (ad (2, 0, 0)), .ref (ad (1, 0, 0)), .ref (ad (0, 0, 0))]) (rfl) ?_
          refine lv_iload hx hb dL_law_1007 (lv_at hl_36 1 rfl) ?_
          refine lv_i2l (v := Int32.toInt64 (nI (bvV two))) hx hb dL_law_1009 rfl ?_
          refine zk_cv (zk_rS (As := [.ref (ad (0, 0, 0)), .ref (ad (1, 0, 0)), .ref (ad (2, 0, 0)), .ref (ad (4, 0, 0)), .ref (ad (5, 0, 0)), .ref (ad (6, 0, 0)), .ref (ad (10, 0, 0)), .int (nI cl), .int (nI fd), .long (partsL I fd (Int32.toInt64 (nI (bvV two)))), .long (Int32.toInt64 (nI (bvV two)))]) (rest := []) (n := 11) (w := zk_sum 50 (cw cA (g 0) ac 6 nc nc 6 nt dy mo I L) (aw cA ad Ia La)) C (zM_Rv (n := 50) (w1 := cw cA (g 0) ac 6 nc nc 6 nt dy mo I L) (fun A_ => (cH_trades l D cA A_ g ad Ia La nt dy cl fd (partsL I fd (Int32.toInt64 (nI (bvV two)))) (Int32.toInt64 (nI (bvV two))) e2 e0 (by omega) (by omega) (by omega))) cw_lt A) hH_23 hS_24 gL_law_L_trades rfl rfl (by decide +kernel) ⟨Nat.le_of_ble_eq_true rfl, Nat.le_of_ble_eq_true rfl⟩ hl_36 rfl (Nat.le_of_ble_eq_true rfl) dL_law_1010 ⟨by show cells + 0 + 0 ≤ 600104; omega, by show slots + 0 + 0 ≤ 7301314; omega⟩) hS_24 (fun w_39 H locs hP hH_40 hS_41 => ?_)
          obtain ⟨w2_, hP, rfl⟩ := hP
          subst hP
          refine lv_aload_n hx hb dL_law_1013 rfl (lv_at hl_36 3 rfl) ?_
          refine lv_iconst (v := 4) hx hb dL_law_1014 (by decide) ?_
          refine lv_iload hx hb dL_law_1015 (lv_at hl_36 19 rfl) ?_
          refine lv_iload hx hb dL_law_1017 (lv_at hl_36 20 rfl) ?_
          refine lv_iload hx hb dL_law_1019 (lv_at hl_36 1 rfl) ?_
          refine zk_cl (zk_rSH (As := [.ref (ac (0, 0, 0)), .int 4, .int (nI cl), .int (nI fd), .int (nI (bvV two))]) (rest := []) (n := 5) (w := zk_sum 50 (cw cA (g 0) ac 6 nc nc 6 nt dy mo I L) (aw cA ad (trI Ia nt dy cl fd) (trL Ia La nt dy cl fd (partsL I fd (Int32.toInt64 (nI (bvV two)))) (Int32.toInt64 (nI (bvV two)))))) C (qd_buy l D cA A g ac nc nt dy mo I L _ hst cl fd hr1 hr2 (nI (bvV two)) hzb ⟨by omega, c_10, c_25⟩ hI.pr (by omega) (by omega) hdy h11 h12 h16) hH_40 hS_41 gL_law_L_does rfl rfl (by decide +kernel) ⟨Nat.le_of_ble_eq_true rfl, Nat.le_of_ble_eq_true rfl⟩ hl_36 rfl (Nat.le_of_ble_eq_true rfl) dL_law_1021 ⟨by show cells + 0 + 0 + 4 ≤ 600104; omega, by show slots + 0 + 0 + 184 ≤ 7301314; omega⟩) hS_41 (fun r_42 w_43 H locs hP hH_44 hS_45 => ?_)
          obtain ⟨rfl, ac2, hac, rfl⟩ := hP
          refine lv_iload hx hb dL_law_1024 (lv_at hl_36 22 rfl) ?_
          refine lv_if_ne (tgt := 1035) hx hb dL_law_1026 (by decide) (fun c_46 => ?_) (fun c_46 => absurd c_46 (by decide))
          refine lv_iload hx hb dL_law_1035 (lv_at hl_36 0 rfl) ?_
          refine lv_if_eq (tgt := 1050) hx hb dL_law_1037 (by decide) (fun c_47 => absurd c_47 (by decide)) (fun c_47 => ?_)
          refine lv_aload hx hb dL_law_1040 (lv_at hl_36 14 rfl) ?_
          refine lv_iconst (v := 2) hx hb dL_law_1042 (by decide) ?_
          refine ls_ild C hH_44 10 rfl (by decide) (j := 2) rfl (show 2 < 3 by omega) dL_law_1043 ?_
          refine W.eq (g2 := F0 m 1044 ls [.int (nI (nt + 1)), .long (Int32.toInt64 (nI nt))]) (by rw [trI_nt]) ?_
          refine lv_iconst (v := 1) hx hb dL_law_1044 (by decide) ?_
          refine lv_isub hx hb dL_law_1045 ?_
          refine W.eq (g2 := F0 m 1046 ls [.int (nI nt), .long (Int32.toInt64 (nI nt))]) (by rw [pk_s1]) ?_
          refine lv_i2l (v := Int32.toInt64 (nI nt)) hx hb dL_law_1046 rfl ?_
          refine lv_goto (tgt := 1053) hx hb dL_law_1047 (by decide) ?_
          refine zl_cmp_ne (tgt := 1061) hx hb dL_law_1053 dL_law_1054 (by decide) (fun c_48 => absurd rfl c_48) (fun c_48 => ?_)
          refine lv_iconst (v := 1) hx hb dL_law_1057 (by decide) ?_
          refine lv_goto (tgt := 1062) hx hb dL_law_1058 (by decide) ?_
          refine lv_istore (lv' := [(13, .int 1), (24, .int 1), (23, .int (nI (bvV two))), (0, .ref sb), (1, .ref (ac (0, 0, 0))), (2, .ref (ad (0, 0, 0))), (3, .ref (ad (1, 0, 0))), (4, .ref (ad (2, 0, 0))), (5, .ref (ad (3, 0, 0))), (6, .ref (ad (4, 0, 0))), (7, .ref (ad (5, 0, 0))), (8, .ref (ad (6, 0, 0))), (9, .ref (ad (7, 0, 0))), (10, .ref (ad (8, 0, 0))), (11, .ref (ad (9, 0, 0))), (12, .ref (ad (10, 0, 0))), (14, .int (nI k)), (16, .int (nI one)), (17, .int (nI two)), (18, .int (nI cl)), (19, .int (nI fd)), (20, .int (icV cl nc)), (21, .int 1), (22, .int (nI f))]) hx hb dL_law_1062 hl_36 (by decide) rfl (fun ls hl_49 => ?_)
          refine lv_goto (tgt := 2146) hx hb dL_law_1064 (by decide) ?_
          exact W.widen (by show cells + 0 + 0 + 4 ≤ cells + 30; omega) (by show slots + 0 + 0 + 184 ≤ slots + 2200; omega) (K ac2 nc (nt + 1) dy (mtM I L nt dy cl fd (partsL I fd (Int32.toInt64 (nI (bvV two)))) (Int32.toInt64 (nI (bvV two))) mo) (noteI I nt dy cl fd) (mtL I L nt dy cl fd (partsL I fd (Int32.toInt64 (nI (bvV two)))) (Int32.toInt64 (nI (bvV two)))) (trI Ia nt dy cl fd) (trL Ia La nt dy cl fd (partsL I fd (Int32.toInt64 (nI (bvV two)))) (Int32.toInt64 (nI (bvV two)))) H locs ls hH_44 hS_45 ((J_buy hJ hr1 hr2 (by omega) (by omega) hzb c_10).mono (by omega)) hc1 hac (lv_sub hl_49 [3, 4, 5, 6, 7, 8, 9, 10, 11, 12, 13, 14, 15, 0, 16, 17, 18] rfl))
    · have hl_50 : lv_has ls 33 [(23, .int (nI (bvV two))), (0, .ref sb), (1, .ref (ac (0, 0, 0))), (2, .ref (ad (0, 0, 0))), (3, .ref (ad (1, 0, 0))), (4, .ref (ad (2, 0, 0))), (5, .ref (ad (3, 0, 0))), (6, .ref (ad (4, 0, 0))), (7, .ref (ad (5, 0, 0))), (8, .ref (ad (6, 0, 0))), (9, .ref (ad (7, 0, 0))), (10, .ref (ad (8, 0, 0))), (11, .ref (ad (9, 0, 0))), (12, .ref (ad (10, 0, 0))), (13, .int 1), (14, .int (nI k)), (16, .int (nI one)), (17, .int (nI two)), (18, .int (nI cl)), (19, .int (nI fd)), (20, .int (icV cl nc)), (21, .int 0), (22, .int (nI f))] := by have e9 : arV cl nc fd = 0 := if_neg hr; have h9 := hl_7; rw [e9] at h9; exact h9
      refine lv_iload hx hb dL_law_922 (lv_at hl_50 21 rfl) ?_
      refine lv_if_eq (tgt := 970) hx hb dL_law_924 (by decide) (fun c_51 => ?_) (fun c_51 => absurd c_51 (by decide))
      refine lv_iconst (v := 0) hx hb dL_law_970 (by decide) ?_
      refine lv_istore (lv' := [(24, .int 0), (23, .int (nI (bvV two))), (0, .ref sb), (1, .ref (ac (0, 0, 0))), (2, .ref (ad (0, 0, 0))), (3, .ref (ad (1, 0, 0))), (4, .ref (ad (2, 0, 0))), (5, .ref (ad (3, 0, 0))), (6, .ref (ad (4, 0, 0))), (7, .ref (ad (5, 0, 0))), (8, .ref (ad (6, 0, 0))), (9, .ref (ad (7, 0, 0))), (10, .ref (ad (8, 0, 0))), (11, .ref (ad (9, 0, 0))), (12, .ref (ad (10, 0, 0))), (13, .int 1), (14, .int (nI k)), (16, .int (nI one)), (17, .int (nI two)), (18, .int (nI cl)), (19, .int (nI fd)), (20, .int (icV cl nc)), (21, .int 0), (22, .int (nI f))]) hx hb dL_law_971 hl_50 (by decide) rfl (fun ls hl_52 => ?_)
      refine lv_iload hx hb dL_law_973 (lv_at hl_52 0 rfl) ?_
      refine lv_if_eq (tgt := 1013) hx hb dL_law_975 (by decide) (fun c_53 => ?_) (fun c_53 => absurd c_53 (by decide))
      refine lv_aload_n hx hb dL_law_1013 rfl (lv_at hl_52 3 rfl) ?_
      refine lv_iconst (v := 4) hx hb dL_law_1014 (by decide) ?_
      refine lv_iload hx hb dL_law_1015 (lv_at hl_52 19 rfl) ?_
      refine lv_iload hx hb dL_law_1017 (lv_at hl_52 20 rfl) ?_
      refine lv_iload hx hb dL_law_1019 (lv_at hl_52 1 rfl) ?_
      refine zk_cl (zk_rSH (As := [.ref (ac (0, 0, 0)), .int 4, .int (nI cl), .int (nI fd), .int (nI (bvV two))]) (rest := []) (n := 5) (w := zk_sum 50 (cw cA (g 0) ac 6 nc nc 6 nt dy mo I L) (aw cA ad Ia La)) C (qd_buy_I l D cA A g ac nc nt dy mo I L _ hst (nI cl) (nI fd) (nI (bvV two)) (zno2 (by omega) (by decide) (by omega) (by omega) hr) hI.pr (by omega) (by omega) hdy h11 h12 h16) hH_2 hS_3 gL_law_L_does rfl rfl (by decide +kernel) ⟨Nat.le_of_ble_eq_true rfl, Nat.le_of_ble_eq_true rfl⟩ hl_52 rfl (Nat.le_of_ble_eq_true rfl) dL_law_1021 ⟨by show cells + 4 ≤ 600104; omega, by show slots + 184 ≤ 7301314; omega⟩) hS_3 (fun r_54 w_55 H locs hP hH_56 hS_57 => ?_)
      obtain ⟨rfl, rfl⟩ := hP
      refine lv_iload hx hb dL_law_1024 (lv_at hl_52 22 rfl) ?_
      refine lv_if_ne (tgt := 1035) hx hb dL_law_1026 (by decide) (fun c_58 => absurd c_58 (by decide)) (fun c_58 => ?_)
      refine lv_ldc2 (v := (-3000000000000)) hx hb hown (hts (.constantLong RL 59 (-3000000000000)) (by decide +kernel)) dL_law_1029 ?_
      refine lv_goto (tgt := 1053) hx hb dL_law_1032 (by decide) ?_
      refine zl_cmp_ne (tgt := 1061) hx hb dL_law_1053 dL_law_1054 (by decide) (fun c_59 => absurd c_59 (by decide)) (fun c_59 => ?_)
      refine lv_iconst (v := 1) hx hb dL_law_1057 (by decide) ?_
      refine lv_goto (tgt := 1062) hx hb dL_law_1058 (by decide) ?_
      refine lv_istore (lv' := [(13, .int 1), (24, .int 0), (23, .int (nI (bvV two))), (0, .ref sb), (1, .ref (ac (0, 0, 0))), (2, .ref (ad (0, 0, 0))), (3, .ref (ad (1, 0, 0))), (4, .ref (ad (2, 0, 0))), (5, .ref (ad (3, 0, 0))), (6, .ref (ad (4, 0, 0))), (7, .ref (ad (5, 0, 0))), (8, .ref (ad (6, 0, 0))), (9, .ref (ad (7, 0, 0))), (10, .ref (ad (8, 0, 0))), (11, .ref (ad (9, 0, 0))), (12, .ref (ad (10, 0, 0))), (14, .int (nI k)), (16, .int (nI one)), (17, .int (nI two)), (18, .int (nI cl)), (19, .int (nI fd)), (20, .int (icV cl nc)), (21, .int 0), (22, .int (nI f))]) hx hb dL_law_1062 hl_52 (by decide) rfl (fun ls hl_60 => ?_)
      refine lv_goto (tgt := 2146) hx hb dL_law_1064 (by decide) ?_
      exact W.widen (by show cells + 4 ≤ cells + 30; omega) (by show slots + 184 ≤ slots + 2200; omega) (K ac nc nt dy mo I L Ia La H locs ls hH_56 hS_57 (hJ.mono (by omega)) hc1 rfl (lv_sub hl_60 [3, 4, 5, 6, 7, 8, 9, 10, 11, 12, 13, 14, 15, 0, 16, 17, 18] rfl))
end LAW
