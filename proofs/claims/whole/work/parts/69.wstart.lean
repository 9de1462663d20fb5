theorem mpRow_q {q : Nat} : mpRow (fun _ => q) 0 = mpRow (fun _ => 0) 0 := rfl
theorem model_nw0 {w : zk_W} {cA : Nat → ClassId} {q : Nat} : zk_nw w (100, 0, 0) q (.inr (6, mpRow (fun _ => 0) 0)) (zk_sum 100 w (mp cA (fun _ => q) 0)) := by
  have h := model_nw (w := w) (cA := cA) (q := q)
  rw [mpRow_q] at h
  exact h
theorem mp_def : ∀ j, j < 25 → defaultValue (tyX5 j) = vp_V (mpRow (fun _ => 0) 0) j := by
  intro j hj
  have h : j = 0 ∨ j = 1 ∨ j = 2 ∨ j = 3 ∨ j = 4 ∨ j = 5 ∨ j = 6 ∨ j = 7 ∨ j = 8 ∨ j = 9 ∨ j = 10 ∨ j = 11 ∨ j = 12 ∨ j = 13 ∨ j = 14 ∨ j = 15 ∨ j = 16 ∨ j = 17 ∨ j = 18 ∨ j = 19 ∨ j = 20 ∨ j = 21 ∨ j = 22 ∨ j = 23 ∨ j = 24 := by omega
  rcases h with rfl | rfl | rfl | rfl | rfl | rfl | rfl | rfl | rfl | rfl | rfl | rfl | rfl | rfl | rfl | rfl | rfl | rfl | rfl | rfl | rfl | rfl | rfl | rfl | rfl <;> rfl
set_option maxHeartbeats 2000000 in
set_option maxRecDepth 100000 in
/-- from the entry, for every script of at most 2560 ints, the law comes to its end with true -/
theorem whole_start {p : Program} {e : Env} {s : State} {m : MethodId} {below : List Frame} {meth : Method} {c : Code} (l : Launch) (hflags : l.flags = flags0) {b L : Nat} {xs : Nat → Int32} (hL : L ≤ 2560) (C0 : lw_At p s m meth c b L xs) : W p l e room_1 s m #[Value.ref b] below meth c s.heap [] 0 0 (lw_Z below #[Value.ref b] s) (entryFrame m ([Value.ref b] : List Value).toArray 8) := by
  obtain ⟨hx, hb, hr, hml, hown, hts, hX, hbl, hlocks, hgv⟩ := id C0
  have hst : l.stackTraces = false := by
    unfold Launch.stackTraces
    rw [hflags]
    decide
  obtain ⟨D, cA, g, hG⟩ := lw_zG hts hgv
  have C : zC p l m c cL_law 8 s #[.ref b] wsL_law RL D (zt cA) (fun q => s.heap.size ≤ q) g meth := ⟨⟨hx, hb, hml, hown, fun w hw => hts w (wsL_law_in w hw)⟩, hG, hlocks⟩
  have hl := lv_entry ([.ref b]) (n := 8) (Nat.le_of_ble_eq_true rfl)
  rw [lg_entry_eq]
  generalize (lg_sl ([.ref b]) ++ List.replicate (8 - (lg_sl ([.ref b])).length) Slot.unset).toArray = ls at hl ⊢
  have hl : lv_has ls 8 [(0, .ref b)] := hl
  refine zr_new C inlX4 (ci := 5) rfl tyX4 tyX4_ok (by decide +kernel) (by decide +kernel) (by decide +kernel) emp_H va_S.rf (fs := [.null, .null, .null, .long 0, .int 0]) (fun j hj => by match j, hj with | 0, _ => rfl | 1, _ => rfl | 2, _ => rfl | 3, _ => rfl | 4, _ => rfl) (Nat.le_of_ble_eq_true rfl) (Nat.le_of_ble_eq_true rfl) dL_law_0 (0, 0, 0) (fun q => hallW (fun _ => q)) (fun q => hall_nw) (fun q H hH hS => ?_)
  refine lv_dup hx hb dL_law_3 rfl ?_
  have hi : zM l yX4_init wsX4_init rmC_init D (zt cA) (fun q => s.heap.size ≤ q) g (.ref q :: []) (hallW (fun _ => q)) _ := cC_init l D cA (fun q => s.heap.size ≤ q) g (fun _ => q) (prI 6) mpL (fun f hf => prI_1 6 hf) (fun f hf => ⟨rfl, rfl⟩)
  refine zk_c (zk_rI (As := []) (rest := [.ref q]) (n := 0) (b := q) C hi hH hS gL_law_X4_init rfl (by decide +kernel) (by decide +kernel) (by decide +kernel) rfl rfl (by decide +kernel) ⟨Nat.le_of_ble_eq_true rfl, Nat.le_of_ble_eq_true rfl⟩ hl rfl (Nat.le_of_ble_eq_true rfl) dL_law_4 ⟨Nat.le_of_ble_eq_true rfl, Nat.le_of_ble_eq_true rfl⟩) hS (fun v_ w_ H locs hP hH1 hS1 => ?_)
  obtain ⟨rfl, ad, hA, rfl⟩ := hP
  have hA : ad (0, 0, 0) = q := hA
  refine W.eq (g2 := F0 m 7 ls [.ref q]) rfl ?_
  refine lv_astore_n (lv' := [(1, .ref q), (0, .ref b)]) hx hb dL_law_7 rfl hl (by decide) rfl (fun ls hl1 => ?_)
  refine zr_new C inlX5 (ci := 6) rfl tyX5 tyX5_ok (by decide +kernel) (by decide +kernel) (by decide +kernel) hH1 hS1 (fs := mpRow (fun _ => 0) 0) mp_def (Nat.le_of_ble_eq_true rfl) (Nat.le_of_ble_eq_true rfl) dL_law_8 (100, 0, 0) (fun q2 => zk_sum 100 (cw cA (g 0) ad 6 0 0 6 0 0 0 (prI 6) mpL) (mp cA (fun _ => q2) 0)) (fun q2 => model_nw0) (fun q2 H hH2 hS2 => ?_)
  refine lv_dup hx hb dL_law_11 rfl ?_
  have hj : zM l yX5_init wsX5_init rmM_init D (zt cA) (fun q => s.heap.size ≤ q) g (.ref q2 :: []) (zk_sum 100 (cw cA (g 0) ad 6 0 0 6 0 0 0 (prI 6) mpL) (mp cA (fun _ => q2) 0)) _ := zM_sumR (n := 100) (w1 := cw cA (g 0) ad 6 0 0 6 0 0 0 (prI 6) mpL) (fun A => cM_init l D cA A g (fun _ => q2) q2 rfl) (fun k hk => Nat.lt_trans (cw_lt k hk) (by decide)) (fun q => s.heap.size ≤ q)
  refine zk_c (zk_rI (As := []) (rest := [.ref q2]) (n := 0) (b := q2) C hj hH2 hS2 gL_law_X5_init rfl (by decide +kernel) (by decide +kernel) (by decide +kernel) rfl rfl (by decide +kernel) ⟨Nat.le_of_ble_eq_true rfl, Nat.le_of_ble_eq_true rfl⟩ hl1 rfl (Nat.le_of_ble_eq_true rfl) dL_law_12 ⟨Nat.le_of_ble_eq_true rfl, Nat.le_of_ble_eq_true rfl⟩) hS2 (fun v_ w_ H locs hP hH3 hS3 => ?_)
  obtain ⟨w2, ⟨rfl, adm, hM, rfl⟩, rfl⟩ := hP
  refine W.eq (g2 := F0 m 15 ls [.ref q2]) rfl ?_
  refine lv_astore_n (lv' := [(2, .ref q2), (1, .ref q), (0, .ref b)]) hx hb dL_law_15 rfl hl1 (by decide) rfl (fun ls hl2 => ?_)
  refine lv_iconst (v := 1) hx hb dL_law_16 (by decide) ?_
  refine zr_newa C .long (ty := .long) rfl (fun _ h => by cases h) (by decide +kernel) 1 rfl hH3 hS3 (N' := 1) (a0 := (1, .inr (.inl (fun _ => 0)))) (fun _ => rfl) (by decide) (by decide) (by decide) (Nat.le_of_ble_eq_true rfl) (Nat.le_of_ble_eq_true rfl) dL_law_17 (50, 0, 0) (fun o => zk_sum 100 (zk_sum 50 (cw cA (g 0) ad 6 0 0 6 0 0 0 (prI 6) mpL) (outW cA o (fun _ => 0))) (mw cA adm 0 0 0 0 0 0 (prI 6) mpL)) (fun o => out_nw cw_lt) (fun o H hH4 hS4 => ?_)
  refine lv_astore_n (lv' := [(3, .ref o), (2, .ref q2), (1, .ref q), (0, .ref b)]) hx hb dL_law_19 rfl hl2 (by decide) rfl (fun ls hl3 => ?_)
  refine lv_iconst (v := 0) hx hb dL_law_20 (by decide) ?_
  refine lv_istore (lv' := [(4, .int 0), (3, .ref o), (2, .ref q2), (1, .ref q), (0, .ref b)]) hx hb dL_law_21 hl3 (by decide) rfl (fun ls hl4 => ?_)
  have hl5 := lv_sub hl4 [4, 3, 2, 1, 0] rfl
  rw [← hA, ← hM] at hl5
  exact W.widen (Nat.le_of_ble_eq_true rfl) (Nat.le_of_ble_eq_true rfl) (lw_loop C hr hst hX hbl hL (L / 5) 0 (Nat.zero_add _) ad 0 0 0 0 0 0 (prI 6) mpL (fun _ => 0) H _ ls hH4 hS4 (inv_0 rfl) hl5)
