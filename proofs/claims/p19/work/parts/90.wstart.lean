/-! ===== from the entry ===== -/
def wEmp : zk_W := (fun _ => 0, fun _ => False, fun _ => .inr (0, []))
theorem hall_nw {q : Nat} : zk_nw wEmp (0, 0, 0) q (.inr (5, [.null, .null, .null, .long 0, .int 0])) (hallW (fun _ => q)) := ⟨rfl, rfl, fun k hk hl => absurd (show k = (0, 0, 0) from hl) hk⟩
theorem emp_H {D : va_G} {A : Nat → Prop} {H : Heap} : zk_H D A wEmp H := ⟨[], fun k q hk => (by cases hk), va_D_nil, fun k hk => hk.elim, fun k k' hk => hk.elim⟩
/-- the array n is made -/
def aAd (ad : zk_K → Nat) (n q : Nat) : zk_K → Nat := fun k => if k.1 = n then q else ad k
theorem sumR {n : Nat} {w1 w2 : zk_W} {k : zk_K} (h : ¬ k.1 < n) : ((zk_sum n w1 w2).2.1 k ↔ w2.2.1 (k.1 - n, k.2)) ∧ (zk_sum n w1 w2).1 k = w2.1 (k.1 - n, k.2) ∧ (zk_sum n w1 w2).2.2 k = w2.2.2 (k.1 - n, k.2) := by
  refine ⟨?_, if_neg h, if_neg h⟩
  show (if k.1 < n then _ else w2.2.1 (k.1 - n, k.2)) ↔ _
  rw [if_neg h]
theorem sumL {n : Nat} {w1 w2 : zk_W} {k : zk_K} (h : k.1 < n) : ((zk_sum n w1 w2).2.1 k ↔ w1.2.1 k) ∧ (zk_sum n w1 w2).1 k = w1.1 k ∧ (zk_sum n w1 w2).2.2 k = w1.2.2 k := by
  refine ⟨?_, if_pos h, if_pos h⟩
  show (if k.1 < n then w1.2.1 k else _) ↔ _
  rw [if_pos h]
theorem aw_nw0 {w1 : zk_W} {cA : Nat → ClassId} {I : zIA} {L : zLA} {ad : zk_K → Nat} {q : Nat} (hw : ∀ k, w1.2.1 k → k.1 < 50) : zk_nw w1 (50 + 0, 0, 0) q (aEnt cA I L (0, 0, 0)) (zk_sum 50 w1 (awp cA (aAd ad 0 q) (0 + 1) I L)) := by
  refine ⟨rfl, rfl, fun k hk hl => ?_⟩
  by_cases z : k.1 < 50
  · obtain ⟨a, b, c⟩ := sumL (w1 := w1) (w2 := awp cA (aAd ad 0 q) (0 + 1) I L) z
    exact ⟨a.mp hl, b, c⟩
  · obtain ⟨a, -, -⟩ := sumR (w1 := w1) (w2 := awp cA (aAd ad 0 q) (0 + 1) I L) z
    obtain ⟨h1, h2⟩ := a.mp hl
    have h1 : k.2 = (0, 0) := h1
    have h2 : k.1 - 50 < 0 + 1 := h2
    exact absurd (Prod.ext (show k.1 = 50 + 0 by omega) h1) hk
theorem aw_nw {w1 : zk_W} {cA : Nat → ClassId} {I : zIA} {L : zLA} {ad : zk_K → Nat} {q : Nat} (n : Nat) : zk_nw (zk_sum 50 w1 (awp cA ad n I L)) (50 + n, 0, 0) q (aEnt cA I L (n, 0, 0)) (zk_sum 50 w1 (awp cA (aAd ad n q) (n + 1) I L)) := by
  have hz : ¬ ((50 + n, 0, 0) : zk_K).1 < 50 := Nat.not_lt.mpr (Nat.le_add_right 50 n)
  have hk0 : ((((50 + n, 0, 0) : zk_K).1 - 50, ((50 + n, 0, 0) : zk_K).2) : zk_K) = (n, 0, 0) := by
    show ((50 + n - 50, 0, 0) : zk_K) = _
    rw [Nat.add_sub_cancel_left]
  obtain ⟨-, x2, x3⟩ := sumR (w1 := w1) (w2 := awp cA (aAd ad n q) (n + 1) I L) hz
  rw [hk0] at x2 x3
  refine ⟨x2.trans (if_pos rfl), x3, fun k hk hl => ?_⟩
  by_cases z : k.1 < 50
  · obtain ⟨a, b, c⟩ := sumL (w1 := w1) (w2 := awp cA (aAd ad n q) (n + 1) I L) z
    obtain ⟨a', b', c'⟩ := sumL (w1 := w1) (w2 := awp cA ad n I L) z
    exact ⟨a'.mpr (a.mp hl), b.trans b'.symm, c.trans c'.symm⟩
  · obtain ⟨a, b, c⟩ := sumR (w1 := w1) (w2 := awp cA (aAd ad n q) (n + 1) I L) z
    obtain ⟨a', b', c'⟩ := sumR (w1 := w1) (w2 := awp cA ad n I L) z
    obtain ⟨h1, h2⟩ := a.mp hl
    have h1 : k.2 = (0, 0) := h1
    have h2 : k.1 - 50 < n + 1 := h2
    have hne : k.1 - 50 ≠ n := fun e => hk (Prod.ext (show k.1 = 50 + n by omega) h1)
    exact ⟨a'.mpr ⟨h1, show k.1 - 50 < n by omega⟩, (b.trans (if_neg hne)).trans b'.symm, c.trans c'.symm⟩
theorem piS_a {a : Nat} (h : a ≠ 0) : ∀ n, piS n a = mpI a
  | 0 => rfl
  | n + 1 => (up2_a h).trans (piS_a h n)
theorem piS_p {f : Nat} : ∀ n, f < n → piS n 0 f = 10000
  | 0, h => absurd h (Nat.not_lt_zero f)
  | n + 1, h => by
    show up2 (piS n) 0 n 10000 0 f = _
    by_cases e : f = n
    · subst e
      exact up2_s _ _ _ _
    · rw [up2_i e]
      exact piS_p n (by omega)
theorem zJ_0 {n6 : Nat} (h6 : n6 = 6) : zJ 0 0 0 0 0 (prI n6) mpL (piS n6) mpL := by
  refine ⟨inv_0 h6, ⟨Nat.zero_le _, Nat.zero_le _⟩, ⟨?_, ?_, ?_⟩, fun f hf => ?_, fun i _ => ?_, ⟨fun f _ => ⟨rfl, rfl⟩, fun c _ => rfl, rfl, fun i _ => rfl⟩, fun i _ => rfl, fun k hk => absurd hk (Nat.not_lt_zero k), fun c f hc => absurd hc (Nat.not_lt_zero c), fun f _ => ?_⟩
  · rw [piS_a (by decide) n6]
    rfl
  · rw [piS_a (by decide) n6]
    rfl
  · rw [piS_a (by decide) n6]
    rfl
  · rw [piS_p n6 (by omega), prI_1 n6 (by omega)]
  · rw [piS_a (by decide) n6, prI_a (by decide) n6]
    rfl
  · show (0 : Int64) = 1000 * 0
    decide
set_option maxHeartbeats 2000000 in
set_option maxRecDepth 100000 in
/-- from the entry, for every script of at most 260 ints, the law comes to its end with true -/
theorem whole_start {p : Program} {e : Env} {s : State} {m : MethodId} {below : List Frame} {meth : Method} {c : Code} (l : Launch) (hflags : l.flags = flags0) {b L : Nat} {xs : Nat → Int32} (hL : L ≤ 260) (C0 : lw_At p s m meth c b L xs) : W p l e room_1 s m #[Value.ref b] below meth c s.heap [] 0 0 (lw_Z below #[Value.ref b] s) (entryFrame m ([Value.ref b] : List Value).toArray 33) := by
  obtain ⟨hx, hb, hr, hml, hown, hts, hX, hbl, hlocks, hgv⟩ := id C0
  have hst : l.stackTraces = false := by
    unfold Launch.stackTraces
    rw [hflags]
    decide
  obtain ⟨D, cA, g, hG⟩ := lw_zG hts hgv
  have C : zC p l m c cL_law 33 s #[.ref b] wsL_law RL D (zt cA) (fun q => s.heap.size ≤ q) g meth := ⟨⟨hx, hb, hml, hown, fun w hw => hts w (wsL_law_in w hw)⟩, hG, hlocks⟩
  have hZ : zScr b L xs (fun q => s.heap.size ≤ q) s := ⟨hX, hbl, Nat.not_le.mpr hbl⟩
  have hl := lv_entry ([.ref b]) (n := 33) (Nat.le_of_ble_eq_true rfl)
  rw [lg_entry_eq]
  generalize (lg_sl ([.ref b]) ++ List.replicate (33 - (lg_sl ([.ref b])).length) Slot.unset).toArray = ls at hl ⊢
  have hl : lv_has ls 33 [(0, .ref b)] := hl
  refine zr_new C inlX4 (ci := 5) rfl tyX4 tyX4_ok (by decide +kernel) (by decide +kernel) (by decide +kernel) emp_H va_S.rf (fs := [.null, .null, .null, .long 0, .int 0]) (fun j hj => by match j, hj with | 0, _ => rfl | 1, _ => rfl | 2, _ => rfl | 3, _ => rfl | 4, _ => rfl) (Nat.le_of_ble_eq_true rfl) (Nat.le_of_ble_eq_true rfl) dL_law_0 (0, 0, 0) (fun q => hallW (fun _ => q)) (fun q => hall_nw) (fun q H hH hS => ?_)
  refine lv_dup hx hb dL_law_3 rfl ?_
  have hi : zM l yX4_init wsX4_init rmC_init D (zt cA) (fun q => s.heap.size ≤ q) g (.ref q :: []) (hallW (fun _ => q)) _ := cC_init l D cA (fun q => s.heap.size ≤ q) g (fun _ => q) (prI 6) mpL (fun f hf => prI_1 6 hf) (fun f hf => ⟨rfl, rfl⟩)
  refine zk_c (zk_rI (As := []) (rest := [.ref q]) (n := 0) (b := q) C hi hH hS gL_law_X4_init rfl (by decide +kernel) (by decide +kernel) (by decide +kernel) rfl rfl (by decide +kernel) ⟨Nat.le_of_ble_eq_true rfl, Nat.le_of_ble_eq_true rfl⟩ hl rfl (Nat.le_of_ble_eq_true rfl) dL_law_4 ⟨Nat.le_of_ble_eq_true rfl, Nat.le_of_ble_eq_true rfl⟩) hS (fun v_ w_ H locs hP hH1 hS1 => ?_)
  obtain ⟨rfl, ac, hA, rfl⟩ := hP
  have hA : ac (0, 0, 0) = q := hA
  refine W.eq (g2 := F0 m 7 ls [.ref q]) rfl ?_
  refine lv_astore_n (lv' := [(1, .ref q), (0, .ref b)]) hx hb dL_law_7 rfl hl (by decide) rfl (fun ls hl1 => ?_)
  refine lv_bipush (v := 6) hx hb dL_law_8 (by decide) ?_
  refine zr_newa C .int (ty := .int) rfl (fun _ h => by cases h) (by decide +kernel) 0 rfl hH1 hS1 (N' := 6) (a0 := (6, .inl (fun _ => 0))) (fun _ => rfl) (by decide) (by decide) (by decide) (Nat.le_of_ble_eq_true rfl) (Nat.le_of_ble_eq_true rfl) dL_law_10 (50 + 0, 0, 0) (fun q => zk_sum 50 (cw cA (g 0) ac 6 0 0 6 0 0 0 (prI 6) mpL) (awp cA (aAd (fun _ => 0) 0 q) 1 mpI mpL)) (fun q => aw_nw0 cw_lt) (fun q0 H hH2 hS2 => ?_)
  refine lv_astore_n (lv' := [(2, .ref q0), (1, .ref q), (0, .ref b)]) hx hb dL_law_12 rfl hl1 (by decide) rfl (fun ls hl2 => ?_)
  refine lv_bipush (v := 16) hx hb dL_law_13 (by decide) ?_
  refine zr_newa C .long (ty := .long) rfl (fun _ h => by cases h) (by decide +kernel) 1 rfl hH2 hS2 (N' := 16) (a0 := (16, .inr (.inl (fun _ => 0)))) (fun _ => rfl) (by decide) (by decide) (by decide) (Nat.le_of_ble_eq_true rfl) (Nat.le_of_ble_eq_true rfl) dL_law_15 (50 + 1, 0, 0) (fun q => zk_sum 50 (cw cA (g 0) ac 6 0 0 6 0 0 0 (prI 6) mpL) (awp cA (aAd (aAd (fun _ => 0) 0 q0) 1 q) 2 mpI mpL)) (fun q => aw_nw 1) (fun q1 H hH3 hS3 => ?_)
  refine lv_astore_n (lv' := [(3, .ref q1), (2, .ref q0), (1, .ref q), (0, .ref b)]) hx hb dL_law_17 rfl hl2 (by decide) rfl (fun ls hl3 => ?_)
  refine lv_bipush (v := 18) hx hb dL_law_18 (by decide) ?_
  refine zr_newa C .long (ty := .long) rfl (fun _ h => by cases h) (by decide +kernel) 1 rfl hH3 hS3 (N' := 18) (a0 := (18, .inr (.inl (fun _ => 0)))) (fun _ => rfl) (by decide) (by decide) (by decide) (Nat.le_of_ble_eq_true rfl) (Nat.le_of_ble_eq_true rfl) dL_law_20 (50 + 2, 0, 0) (fun q => zk_sum 50 (cw cA (g 0) ac 6 0 0 6 0 0 0 (prI 6) mpL) (awp cA (aAd (aAd (aAd (fun _ => 0) 0 q0) 1 q1) 2 q) 3 mpI mpL)) (fun q => aw_nw 2) (fun q2 H hH4 hS4 => ?_)
  refine lv_astore (lv' := [(4, .ref q2), (3, .ref q1), (2, .ref q0), (1, .ref q), (0, .ref b)]) hx hb dL_law_22 hl3 (by decide) rfl (fun ls hl4 => ?_)
  refine lv_bipush (v := 18) hx hb dL_law_24 (by decide) ?_
  refine zr_newa C .int (ty := .int) rfl (fun _ h => by cases h) (by decide +kernel) 0 rfl hH4 hS4 (N' := 18) (a0 := (18, .inl (fun _ => 0))) (fun _ => rfl) (by decide) (by decide) (by decide) (Nat.le_of_ble_eq_true rfl) (Nat.le_of_ble_eq_true rfl) dL_law_26 (50 + 3, 0, 0) (fun q => zk_sum 50 (cw cA (g 0) ac 6 0 0 6 0 0 0 (prI 6) mpL) (awp cA (aAd (aAd (aAd (aAd (fun _ => 0) 0 q0) 1 q1) 2 q2) 3 q) 4 mpI mpL)) (fun q => aw_nw 3) (fun q3 H hH5 hS5 => ?_)
  refine lv_astore (lv' := [(5, .ref q3), (4, .ref q2), (3, .ref q1), (2, .ref q0), (1, .ref q), (0, .ref b)]) hx hb dL_law_28 hl4 (by decide) rfl (fun ls hl5 => ?_)
  refine lv_bipush (v := 30) hx hb dL_law_30 (by decide) ?_
  refine zr_newa C .int (ty := .int) rfl (fun _ h => by cases h) (by decide +kernel) 0 rfl hH5 hS5 (N' := 30) (a0 := (30, .inl (fun _ => 0))) (fun _ => rfl) (by decide) (by decide) (by decide) (Nat.le_of_ble_eq_true rfl) (Nat.le_of_ble_eq_true rfl) dL_law_32 (50 + 4, 0, 0) (fun q => zk_sum 50 (cw cA (g 0) ac 6 0 0 6 0 0 0 (prI 6) mpL) (awp cA (aAd (aAd (aAd (aAd (aAd (fun _ => 0) 0 q0) 1 q1) 2 q2) 3 q3) 4 q) 5 mpI mpL)) (fun q => aw_nw 4) (fun q4 H hH6 hS6 => ?_)
  refine lv_astore (lv' := [(6, .ref q4), (5, .ref q3), (4, .ref q2), (3, .ref q1), (2, .ref q0), (1, .ref q), (0, .ref b)]) hx hb dL_law_34 hl5 (by decide) rfl (fun ls hl6 => ?_)
  refine lv_bipush (v := 30) hx hb dL_law_36 (by decide) ?_
  refine zr_newa C .long (ty := .long) rfl (fun _ h => by cases h) (by decide +kernel) 1 rfl hH6 hS6 (N' := 30) (a0 := (30, .inr (.inl (fun _ => 0)))) (fun _ => rfl) (by decide) (by decide) (by decide) (Nat.le_of_ble_eq_true rfl) (Nat.le_of_ble_eq_true rfl) dL_law_38 (50 + 5, 0, 0) (fun q => zk_sum 50 (cw cA (g 0) ac 6 0 0 6 0 0 0 (prI 6) mpL) (awp cA (aAd (aAd (aAd (aAd (aAd (aAd (fun _ => 0) 0 q0) 1 q1) 2 q2) 3 q3) 4 q4) 5 q) 6 mpI mpL)) (fun q => aw_nw 5) (fun q5 H hH7 hS7 => ?_)
  refine lv_astore (lv' := [(7, .ref q5), (6, .ref q4), (5, .ref q3), (4, .ref q2), (3, .ref q1), (2, .ref q0), (1, .ref q), (0, .ref b)]) hx hb dL_law_40 hl6 (by decide) rfl (fun ls hl7 => ?_)
  refine lv_bipush (v := 30) hx hb dL_law_42 (by decide) ?_
  refine zr_newa C .long (ty := .long) rfl (fun _ h => by cases h) (by decide +kernel) 1 rfl hH7 hS7 (N' := 30) (a0 := (30, .inr (.inl (fun _ => 0)))) (fun _ => rfl) (by decide) (by decide) (by decide) (Nat.le_of_ble_eq_true rfl) (Nat.le_of_ble_eq_true rfl) dL_law_44 (50 + 6, 0, 0) (fun q => zk_sum 50 (cw cA (g 0) ac 6 0 0 6 0 0 0 (prI 6) mpL) (awp cA (aAd (aAd (aAd (aAd (aAd (aAd (aAd (fun _ => 0) 0 q0) 1 q1) 2 q2) 3 q3) 4 q4) 5 q5) 6 q) 7 mpI mpL)) (fun q => aw_nw 6) (fun q6 H hH8 hS8 => ?_)
  refine lv_astore (lv' := [(8, .ref q6), (7, .ref q5), (6, .ref q4), (5, .ref q3), (4, .ref q2), (3, .ref q1), (2, .ref q0), (1, .ref q), (0, .ref b)]) hx hb dL_law_46 hl7 (by decide) rfl (fun ls hl8 => ?_)
  refine lv_bipush (v := 63) hx hb dL_law_48 (by decide) ?_
  refine zr_newa C .long (ty := .long) rfl (fun _ h => by cases h) (by decide +kernel) 1 rfl hH8 hS8 (N' := 63) (a0 := (63, .inr (.inl (fun _ => 0)))) (fun _ => rfl) (by decide) (by decide) (by decide) (Nat.le_of_ble_eq_true rfl) (Nat.le_of_ble_eq_true rfl) dL_law_50 (50 + 7, 0, 0) (fun q => zk_sum 50 (cw cA (g 0) ac 6 0 0 6 0 0 0 (prI 6) mpL) (awp cA (aAd (aAd (aAd (aAd (aAd (aAd (aAd (aAd (fun _ => 0) 0 q0) 1 q1) 2 q2) 3 q3) 4 q4) 5 q5) 6 q6) 7 q) 8 mpI mpL)) (fun q => aw_nw 7) (fun q7 H hH9 hS9 => ?_)
  refine lv_astore (lv' := [(9, .ref q7), (8, .ref q6), (7, .ref q5), (6, .ref q4), (5, .ref q3), (4, .ref q2), (3, .ref q1), (2, .ref q0), (1, .ref q), (0, .ref b)]) hx hb dL_law_52 hl8 (by decide) rfl (fun ls hl9 => ?_)
  refine lv_bipush (v := 60) hx hb dL_law_54 (by decide) ?_
  refine zr_newa C .long (ty := .long) rfl (fun _ h => by cases h) (by decide +kernel) 1 rfl hH9 hS9 (N' := 60) (a0 := (60, .inr (.inl (fun _ => 0)))) (fun _ => rfl) (by decide) (by decide) (by decide) (Nat.le_of_ble_eq_true rfl) (Nat.le_of_ble_eq_true rfl) dL_law_56 (50 + 8, 0, 0) (fun q => zk_sum 50 (cw cA (g 0) ac 6 0 0 6 0 0 0 (prI 6) mpL) (awp cA (aAd (aAd (aAd (aAd (aAd (aAd (aAd (aAd (aAd (fun _ => 0) 0 q0) 1 q1) 2 q2) 3 q3) 4 q4) 5 q5) 6 q6) 7 q7) 8 q) 9 mpI mpL)) (fun q => aw_nw 8) (fun q8 H hH10 hS10 => ?_)
  refine lv_astore (lv' := [(10, .ref q8), (9, .ref q7), (8, .ref q6), (7, .ref q5), (6, .ref q4), (5, .ref q3), (4, .ref q2), (3, .ref q1), (2, .ref q0), (1, .ref q), (0, .ref b)]) hx hb dL_law_58 hl9 (by decide) rfl (fun ls hl10 => ?_)
  refine lv_bipush (v := 64) hx hb dL_law_60 (by decide) ?_
  refine zr_newa C .long (ty := .long) rfl (fun _ h => by cases h) (by decide +kernel) 1 rfl hH10 hS10 (N' := 64) (a0 := (64, .inr (.inl (fun _ => 0)))) (fun _ => rfl) (by decide) (by decide) (by decide) (Nat.le_of_ble_eq_true rfl) (Nat.le_of_ble_eq_true rfl) dL_law_62 (50 + 9, 0, 0) (fun q => zk_sum 50 (cw cA (g 0) ac 6 0 0 6 0 0 0 (prI 6) mpL) (awp cA (aAd (aAd (aAd (aAd (aAd (aAd (aAd (aAd (aAd (aAd (fun _ => 0) 0 q0) 1 q1) 2 q2) 3 q3) 4 q4) 5 q5) 6 q6) 7 q7) 8 q8) 9 q) 10 mpI mpL)) (fun q => aw_nw 9) (fun q9 H hH11 hS11 => ?_)
  refine lv_astore (lv' := [(11, .ref q9), (10, .ref q8), (9, .ref q7), (8, .ref q6), (7, .ref q5), (6, .ref q4), (5, .ref q3), (4, .ref q2), (3, .ref q1), (2, .ref q0), (1, .ref q), (0, .ref b)]) hx hb dL_law_64 hl10 (by decide) rfl (fun ls hl11 => ?_)
  refine lv_iconst (v := 3) hx hb dL_law_66 (by decide) ?_
  refine zr_newa C .int (ty := .int) rfl (fun _ h => by cases h) (by decide +kernel) 0 rfl hH11 hS11 (N' := 3) (a0 := (3, .inl (fun _ => 0))) (fun _ => rfl) (by decide) (by decide) (by decide) (Nat.le_of_ble_eq_true rfl) (Nat.le_of_ble_eq_true rfl) dL_law_67 (50 + 10, 0, 0) (fun q => zk_sum 50 (cw cA (g 0) ac 6 0 0 6 0 0 0 (prI 6) mpL) (awp cA (aAd (aAd (aAd (aAd (aAd (aAd (aAd (aAd (aAd (aAd (aAd (fun _ => 0) 0 q0) 1 q1) 2 q2) 3 q3) 4 q4) 5 q5) 6 q6) 7 q7) 8 q8) 9 q9) 10 q) 11 mpI mpL)) (fun q => aw_nw 10) (fun q10 H hH12 hS12 => ?_)
  refine lv_astore (lv' := [(12, .ref q10), (11, .ref q9), (10, .ref q8), (9, .ref q7), (8, .ref q6), (7, .ref q5), (6, .ref q4), (5, .ref q3), (4, .ref q2), (3, .ref q1), (2, .ref q0), (1, .ref q), (0, .ref b)]) hx hb dL_law_69 hl11 (by decide) rfl (fun ls hl12 => ?_)
  obtain ⟨ad, had⟩ : ∃ z, z = (aAd (aAd (aAd (aAd (aAd (aAd (aAd (aAd (aAd (aAd (aAd (fun _ => 0) 0 q0) 1 q1) 2 q2) 3 q3) 4 q4) 5 q5) 6 q6) 7 q7) 8 q8) 9 q9) 10 q10) := ⟨_, rfl⟩
  have hl14 : lv_has ls 33 [(0, .ref b), (1, .ref (ac (0, 0, 0))), (2, .ref (ad (0, 0, 0))), (3, .ref (ad (1, 0, 0))), (4, .ref (ad (2, 0, 0))), (5, .ref (ad (3, 0, 0))), (6, .ref (ad (4, 0, 0))), (7, .ref (ad (5, 0, 0))), (8, .ref (ad (6, 0, 0))), (9, .ref (ad (7, 0, 0))), (10, .ref (ad (8, 0, 0))), (11, .ref (ad (9, 0, 0))), (12, .ref (ad (10, 0, 0)))] := by
    rw [had, hA]
    exact lv_sub hl12 [12, 11, 10, 9, 8, 7, 6, 5, 4, 3, 2, 1, 0] rfl
  have hH14 : zk_H D (fun q => s.heap.size ≤ q) (zk_sum 50 (cw cA (g 0) ac 6 0 0 6 0 0 0 (prI 6) mpL) (aw cA ad (piS 0) mpL)) H := by
    rw [had]
    exact hH12
  obtain ⟨n6, hn6⟩ : ∃ k : Nat, k = 6 := ⟨6, rfl⟩
  refine W.widen (show _ ≤ 100 from Nat.le_of_ble_eq_true rfl) (show _ ≤ 3000 from Nat.le_of_ble_eq_true rfl) (lw_pre C hst hn6 (by decide) (by decide) hH14 hS12 hl14 (fun H locs ls hH2 hS2 hl2 => ?_))
  exact lw_loop (c0 := 160) (s0 := 3400) C hr hst hZ hL (by decide) (by decide) 60 0 rfl ac 0 0 0 0 (prI 6) mpL (piS n6) mpL H locs ls hH2 hS2 (by have q := zJ_0 hn6; rw [hn6] at q ⊢; exact q) (Or.inl rfl) hl2
