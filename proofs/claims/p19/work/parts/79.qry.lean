/-! ===== the class asked, beside the law's arrays ===== -/
theorem cw_lt {cA : Nat → ClassId} {g0 : Nat} {ad : zk_K → Nat} {nf lc nc hl nt dy : Nat} {mo : Int64} {I : zIA} {L : zLA} : ∀ k, (cw cA g0 ad nf lc nc hl nt dy mo I L).2.1 k → k.1 < 50 := fun k hk => Nat.lt_of_le_of_lt (live14 hk) (by decide)
theorem nI_k0 {a : Nat} (h : a < 2 ^ 31) : nI a = 0 ↔ a = 0 := by
  have := @nI_eq a 0 h (by decide)
  exact this
theorem nI_k1 {a : Nat} (h : a < 2 ^ 31) : nI a = 1 ↔ a = 1 := by
  have := @nI_eq a 1 h (by decide)
  exact this
theorem neg1_nI {j : Nat} (h : j < 2 ^ 31) : ¬ (-1 : Int32) = nI j := fun e => absurd (show (-1 : Int32) < 0 by decide) (by rw [e]; exact nI_pos h)
theorem nIj {a b n : Nat} (hn : n ≤ 100000) (ha : a < n) (hb : b < n) (e : nI a = nI b) : a = b := (nI_eq (by omega) (by omega)).mp e
theorem z_stp {P : Nat → Prop} {G : Prop} {n d : Nat} (i0 : Nat) (hd : 0 < d) (h0 : i0 < n + d) (use : P i0 → G) (hx : ∀ i, n ≤ i → i < n + d → P i) (hs : ∀ i, i < n → P (i + d) → P i) : G := by
  have key : ∀ k i, n - i ≤ k → i < n + d → P i := by
    intro k
    induction k with
    | zero => exact fun i hi hv => hx i (by omega) hv
    | succ k ih =>
      intro i hi hv
      by_cases h : i < n
      · exact hs i h (ih _ (by omega) (by omega))
      · exact hx i (by omega) hv
  exact use (key n i0 (by omega) h0)
section QQ
variable {l : Launch} {y : MethodName} {ws ws' : List Cond} {rm : Room} {D : va_G} {tys : List (ClassId × FieldType)} {g : Nat → Nat} {av : List Value} {w1 w2 : zk_W} {P P' : Option Value → zk_W → Prop} {PX : String → zk_W → Prop} {n : Nat}
theorem zX_q (hM : ∀ A, zX l y ws rm D tys A g av w1 P PX) (hn : ∀ k, w1.2.1 k → k.1 < n) (hx : ∀ E w', ¬ PX E w') (hi : ∀ v w', P v w' → P' v (zk_sum n w' w2)) (A : Nat → Prop) : zM l y ws rm D tys A g av (zk_sum n w1 w2) P' := by
  intro p e ha hc hk s m args below hf happ hP _
  obtain ⟨rfl, hH, hG⟩ := hP
  obtain ⟨A1, A2, h1, h2, hA, hd⟩ := zk_side hH hn
  have hsz := hG.2.1
  have hAA : ∀ q, (A1 q ∨ s.heap.size ≤ q) → A q := fun q z => z.elim (fun z => (hA q (Or.inl z)).1) (hsz q)
  obtain ⟨k, o, r1, r2, r3, r4⟩ := hM (fun q => A1 q ∨ s.heap.size ≤ q) p e ha hc hk s m _ below hf happ ⟨rfl, h1.mono (fun q z => Or.inl z), hG.narrow hAA (fun q z => Or.inr z)⟩ trivial
  refine ⟨k, o, r1, r2, r3, ?_⟩
  rcases r4 with ⟨⟨⟨v, w', ho, hPv, hH'⟩, hF⟩, L, hFE, hL⟩ | ⟨q, ho, E, ce, L, ⟨⟨w', hPX, hH'⟩, hF⟩, q1, q2, q3, q4, q5, q6⟩
  · obtain ⟨b1, b2⟩ := zk_backL (n := n) h2 hA hd hsz hF hH'
    exact ⟨⟨⟨v, _, ho, hi v w' hPv, b1⟩, b2⟩, L, hFE, fun z hz => hAA _ (hL z hz)⟩
  · exact absurd hPX (hx E w')
theorem zM_imp {A : Nat → Prop} {w : zk_W} (hM : zM l y ws rm D tys A g av w P) (hi : ∀ v w', P v w' → P' v w') : zM l y ws rm D tys A g av w P' := by
  intro p e ha hc hk s m args below hf happ hP h9
  obtain ⟨k, o, r1, r2, r3, ⟨⟨v, w', ho, hPv, hH'⟩, hF⟩, L, hFE, hL⟩ := hM p e ha hc hk s m args below hf happ hP h9
  exact ⟨k, o, r1, r2, r3, ⟨⟨v, w', ho, hi v w' hPv, hH'⟩, hF⟩, L, hFE, hL⟩
end QQ
section QR
variable (l : Launch) (D : va_G) (cA : Nat → ClassId) (A : Nat → Prop) (g : Nat → Nat) (ac : zk_K → Nat) (nc nt dy : Nat) (mo : Int64) (I : zIA) (L : zLA) (w2 : zk_W)
theorem q_cash0 (hst : l.stackTraces = false) (hnc : nc ≤ 12) : zM l yX4_cash wsX4_cash rmC_cash D (zt cA) A g [.ref (ac (0, 0, 0)), .int (-1)] (zk_sum 50 (cw cA (g 0) ac 6 nc nc 6 nt dy mo I L) w2) (zQl (fun r w' => mo = r ∧ zk_sum 50 (cw cA (g 0) ac 6 nc nc 6 nt dy mo I L) w2 = w')) :=
  zX_q (fun A => cC_cash l hst D cA A g ac nc nt dy mo I L (-1) hnc) cw_lt (fun E w' h => h.2.1 (Or.inl rfl)) (fun v w' h => by
    obtain ⟨r, rfl, ⟨-, rfl, rfl⟩ | ⟨j, hj, e, -⟩⟩ := h
    · exact ⟨_, rfl, rfl, rfl⟩
    · exact absurd e (neg1_nI (by omega))) A
theorem q_cash (hst : l.stackTraces = false) (c : Nat) (hc : c < nc) (hnc : nc ≤ 12) : zM l yX4_cash wsX4_cash rmC_cash D (zt cA) A g [.ref (ac (0, 0, 0)), .int (nI c)] (zk_sum 50 (cw cA (g 0) ac 6 nc nc 6 nt dy mo I L) w2) (zQl (fun r w' => L 6 c = r ∧ zk_sum 50 (cw cA (g 0) ac 6 nc nc 6 nt dy mo I L) w2 = w')) :=
  zX_q (fun A => cC_cash l hst D cA A g ac nc nt dy mo I L (nI c) hnc) cw_lt (fun E w' h => h.2.1 (Or.inr ⟨c, hc, rfl⟩)) (fun v w' h => by
    obtain ⟨r, rfl, ⟨e, -⟩ | ⟨j, hj, e, rfl, rfl⟩⟩ := h
    · exact absurd e.symm (neg1_nI (by omega))
    · obtain rfl := nIj (n := nc) (by omega) hc hj e
      exact ⟨_, rfl, rfl, rfl⟩) A
theorem q_parts0 (hst : l.stackTraces = false) (f : Nat) (hf : f < 6) (hnc : nc ≤ 12) : zM l yX4_parts wsX4_parts rmC_parts D (zt cA) A g [.ref (ac (0, 0, 0)), .int (-1), .int (nI f)] (zk_sum 50 (cw cA (g 0) ac 6 nc nc 6 nt dy mo I L) w2) (zQl (fun r w' => L 3 f = r ∧ zk_sum 50 (cw cA (g 0) ac 6 nc nc 6 nt dy mo I L) w2 = w')) :=
  zX_q (fun A => cC_parts l hst D cA A g ac nc nt dy mo I L (-1) (nI f) hnc) cw_lt (fun E w' h => h.2.1 ⟨Or.inl rfl, ⟨f, hf, rfl⟩⟩) (fun v w' h => by
    obtain ⟨r, rfl, k, hk, ek, ⟨-, rfl, rfl⟩ | ⟨j, hj, e, -⟩⟩ := h
    · obtain rfl := nIj (n := 6) (by decide) hf hk ek
      exact ⟨_, rfl, rfl, rfl⟩
    · exact absurd e (neg1_nI (by omega))) A
theorem q_parts (hst : l.stackTraces = false) (c f : Nat) (hc : c < nc) (hf : f < 6) (hnc : nc ≤ 12) : zM l yX4_parts wsX4_parts rmC_parts D (zt cA) A g [.ref (ac (0, 0, 0)), .int (nI c), .int (nI f)] (zk_sum 50 (cw cA (g 0) ac 6 nc nc 6 nt dy mo I L) w2) (zQl (fun r w' => L 8 (6 * c + f) = r ∧ zk_sum 50 (cw cA (g 0) ac 6 nc nc 6 nt dy mo I L) w2 = w')) :=
  zX_q (fun A => cC_parts l hst D cA A g ac nc nt dy mo I L (nI c) (nI f) hnc) cw_lt (fun E w' h => h.2.1 ⟨Or.inr ⟨c, hc, rfl⟩, ⟨f, hf, rfl⟩⟩) (fun v w' h => by
    obtain ⟨r, rfl, k, hk, ek, ⟨e, -⟩ | ⟨j, hj, e, rfl, rfl⟩⟩ := h
    · exact absurd e.symm (neg1_nI (by omega))
    · obtain rfl := nIj (n := 6) (by decide) hf hk ek
      obtain rfl := nIj (n := nc) (by omega) hc hj e
      exact ⟨_, rfl, rfl, rfl⟩) A
theorem q_units (hst : l.stackTraces = false) (f : Nat) (hf : f < 6) : zM l yX4_units wsX4_units rmC_units D (zt cA) A g [.ref (ac (0, 0, 0)), .int (nI f)] (zk_sum 50 (cw cA (g 0) ac 6 nc nc 6 nt dy mo I L) w2) (zQl (fun r w' => L 2 f = r ∧ zk_sum 50 (cw cA (g 0) ac 6 nc nc 6 nt dy mo I L) w2 = w')) :=
  zX_q (fun A => cC_units l hst D cA A g ac nc nt dy mo I L (nI f)) cw_lt (fun E w' h => h.2.1 ⟨f, hf, rfl⟩) (fun v w' h => by
    obtain ⟨r, rfl, k, hk, ek, rfl, rfl⟩ := h
    obtain rfl := nIj (n := 6) (by decide) hf hk ek
    exact ⟨_, rfl, rfl, rfl⟩) A
theorem q_wealth (hst : l.stackTraces = false) (c : Nat) (hc : c < nc) (hnc : nc ≤ 12) : zM l yX4_wealth wsX4_wealth rmC_wealth D (zt cA) A g [.ref (ac (0, 0, 0)), .int (nI c)] (zk_sum 50 (cw cA (g 0) ac 6 nc nc 6 nt dy mo I L) w2) (zQl (fun r w' => wealthL I L c 6 = r ∧ zk_sum 50 (cw cA (g 0) ac 6 nc nc 6 nt dy mo I L) w2 = w')) :=
  zX_q (fun A => cC_wealth l hst D cA A g ac nc nt dy mo I L (nI c) hnc) cw_lt (fun E w' h => h.2.1 ⟨c, hc, rfl⟩) (fun v w' h => by
    obtain ⟨r, rfl, j, hj, e, rfl, rfl⟩ := h
    obtain rfl := nIj (n := nc) (by omega) hc hj e
    exact ⟨_, rfl, rfl, rfl⟩) A
theorem q_tradeOf (hst : l.stackTraces = false) (t k : Nat) (v : Int64) (hv : trV I L t k = v) (ht : t < nt) (hk : k ≤ 6) (hnt : nt ≤ 120) (h11 : ∀ t, t < nt → zD (I 11 t) nc) (h12 : ∀ t, t < nt → zD (I 12 t) 6) : zM l yX4_tradeOf wsX4_tradeOf rmC_tradeOf D (zt cA) A g [.ref (ac (0, 0, 0)), .int (nI t), .int (nI k)] (zk_sum 50 (cw cA (g 0) ac 6 nc nc 6 nt dy mo I L) w2) (zQl (fun r w' => v = r ∧ zk_sum 50 (cw cA (g 0) ac 6 nc nc 6 nt dy mo I L) w2 = w')) :=
  zX_q (fun A => cC_tradeOf l hst D cA A g ac nc nt dy mo I L (nI t) (nI k) hnt h11 h12) cw_lt (fun E w' h => by
    rcases h.2 with ⟨z, -⟩ | ⟨-, z, -⟩
    · exact z ⟨t, ht, rfl⟩
    · exact z ⟨show nI 0 ≤ nI k from nI_le (Nat.zero_le k) (by omega), show nI k ≤ nI 6 from nI_le hk (by decide)⟩) (fun v w' h => by
    obtain ⟨r, rfl, t', k', ht', et, hk', ek, rfl, rfl⟩ := h
    obtain rfl := nIj (n := nt) (by omega) ht ht' et
    obtain rfl := nIj (n := 7) (by decide) (by omega) (by omega) ek
    exact ⟨_, rfl, hv.symm, rfl⟩) A
theorem q_year (hst : l.stackTraces = false) (c y k : Nat) (v : Int64) (hv : ycV L c y k = v) (hc : c < nc) (hy : y < 21) (hk : k ≤ 3) (hnc : nc ≤ 12) : zM l yX4_year wsX4_year rmC_year D (zt cA) A g [.ref (ac (0, 0, 0)), .int (nI c), .int (nI y), .int (nI k)] (zk_sum 50 (cw cA (g 0) ac 6 nc nc 6 nt dy mo I L) w2) (zQl (fun r w' => v = r ∧ zk_sum 50 (cw cA (g 0) ac 6 nc nc 6 nt dy mo I L) w2 = w')) :=
  zX_q (fun A => cC_year l hst D cA A g ac nc nt dy mo I L (nI c) (nI y) (nI k) hnc) cw_lt (fun E w' h => by
    rcases h.2 with ⟨z, -⟩ | ⟨-, -, z, -⟩
    · exact z ⟨⟨c, hc, rfl⟩, ⟨y, hy, rfl⟩⟩
    · exact z ⟨show nI 0 ≤ nI k from nI_le (Nat.zero_le k) (by omega), show nI k ≤ nI 3 from nI_le hk (by decide)⟩) (fun v w' h => by
    obtain ⟨r, rfl, c', y', k', hc', ec, hy', ey, hk', ek, rfl, rfl⟩ := h
    obtain rfl := nIj (n := nc) (by omega) hc hc' ec
    obtain rfl := nIj (n := 21) (by decide) hy hy' ey
    obtain rfl := nIj (n := 4) (by decide) (by omega) (by omega) ek
    exact ⟨_, rfl, hv.symm, rfl⟩) A
theorem q_lot (hst : l.stackTraces = false) (c f rank k : Nat) (v : Int64) (hv : (lfS I L c f (nI rank) (nI k) nt).getD (-1) = v) (hc : c < nc) (hf : f < 6) (hr : rank < 1000) (hk : k ≤ 2) (hnt : nt ≤ 120) (hnc : nc ≤ 12) (h11 : ∀ t, t < nt → zD (I 11 t) nc) (h12 : ∀ t, t < nt → zD (I 12 t) 6) : zM l yX4_lot wsX4_lot rmC_lot D (zt cA) A g [.ref (ac (0, 0, 0)), .int (nI c), .int (nI f), .int (nI rank), .int (nI k)] (zk_sum 50 (cw cA (g 0) ac 6 nc nc 6 nt dy mo I L) w2) (zQl (fun r w' => v = r ∧ zk_sum 50 (cw cA (g 0) ac 6 nc nc 6 nt dy mo I L) w2 = w')) :=
  zX_q (fun A => cC_lot l hst D cA A g ac nc nt dy mo I L (nI c) (nI f) (nI rank) (nI k) hnt hnc h11 h12) cw_lt (fun E w' h => by
    rcases h.2 with ⟨z, -⟩ | ⟨-, -, -, z, -⟩
    · exact z ⟨⟨c, hc, rfl⟩, ⟨f, hf, rfl⟩, nI_pos (by omega)⟩
    · exact z ⟨show nI 0 ≤ nI k from nI_le (Nat.zero_le k) (by omega), show nI k ≤ nI 2 from nI_le hk (by decide)⟩) (fun v w' h => by
    obtain ⟨r, rfl, c', f', hc', ec, hf', ef, -, -, rfl, rfl⟩ := h
    obtain rfl := nIj (n := nc) (by omega) hc hc' ec
    obtain rfl := nIj (n := 6) (by decide) hf hf' ef
    exact ⟨_, rfl, hv.symm, rfl⟩) A
theorem q_does9 (hst : l.stackTraces = false) (hnt : nt ≤ 120) (h11 : ∀ t, t < nt → zD (I 11 t) nc) (h12 : ∀ t, t < nt → zD (I 12 t) 6) : zM l yL_does wsL_does rmD_tradeOf D (zt cA) A g [.ref (ac (0, 0, 0)), .int 9, .int (nI nt), .int 0, .int 0] (zk_sum 50 (cw cA (g 0) ac 6 nc nc 6 nt dy mo I L) w2) (zQl (fun r w' => -3000000000000 = r ∧ zk_sum 50 (cw cA (g 0) ac 6 nc nc 6 nt dy mo I L) w2 = w')) := by
  have hno : ¬ zIn (nI nt) nt := by
    rintro ⟨j, hj, e⟩
    have := (nI_eq (by omega) (by omega)).mp e
    omega
  refine zM_imp (zM_sumL (n := 50) (w2 := w2) (fun A => cD_tradeOf l D cA A g (cw cA (g 0) ac 6 nc nc 6 nt dy mo I L) rfl rfl _ _ (nI nt) 0 0 (cC_tradeOf l hst D cA A g ac nc nt dy mo I L (nI nt) 0 hnt h11 h12) (fun E w' h => ?_)) cw_lt A) (fun v w' h => ?_)
  · rcases h.2 with ⟨-, z⟩ | ⟨-, -, z⟩
    · exact Or.inl z
    · exact Or.inr (Or.inl z)
  · obtain ⟨w1, ⟨r, rfl, hz⟩, rfl⟩ := h
    refine ⟨r, rfl, ?_⟩
    rcases hz with ⟨t', k', ht', et, -⟩ | ⟨⟨rfl, -⟩, rfl⟩ | ⟨⟨-, h2⟩, -⟩ | ⟨⟨-, h2⟩, -⟩
    · exact absurd ⟨t', ht', et⟩ hno
    · exact ⟨rfl, rfl⟩
    · rcases h2 with ⟨-, e⟩ | ⟨z, -⟩
      · exact absurd e (by decide)
      · exact absurd z hno
    · rcases h2 with ⟨-, e⟩ | ⟨-, -, e⟩ <;> exact absurd e (by decide)
end QR
/-! what the asking wants of the books -/
theorem pk_11 {n : Nat} {I : zIA} {L : zLA} (hO : trOK n I L) (hD : ∀ k, k < n → dN (I 11 k) < 4) {k : Nat} (hk : k < n) : nI (pkT I k % 4) = I 11 k ∧ nI (pkT I k / 4 % 8) = I 12 k ∧ nI (pkT I k % 524288 / 32) = I 16 k ∧ (I 17 k = 0 ↔ 524288 ≤ pkT I k) := by
  obtain ⟨z11, z12, z16, -⟩ := hO k hk
  have h1 := hD k hk
  have h2 := z12.2
  have h3 := z16.2
  unfold pkT
  by_cases h : I 17 k = 0
  · rw [if_pos h]
    refine ⟨?_, ?_, ?_, fun _ => by omega, fun _ => h⟩
    · rw [show (dN (I 11 k) + 4 * dN (I 12 k) + 32 * dN (I 16 k) + 524288) % 4 = dN (I 11 k) by omega]
      exact z11.1.symm
    · rw [show (dN (I 11 k) + 4 * dN (I 12 k) + 32 * dN (I 16 k) + 524288) / 4 % 8 = dN (I 12 k) by omega]
      exact z12.1.symm
    · rw [show (dN (I 11 k) + 4 * dN (I 12 k) + 32 * dN (I 16 k) + 524288) % 524288 / 32 = dN (I 16 k) by omega]
      exact z16.1.symm
  · rw [if_neg h]
    refine ⟨?_, ?_, ?_, fun z => absurd z h, fun z => absurd z (by omega)⟩
    · rw [show (dN (I 11 k) + 4 * dN (I 12 k) + 32 * dN (I 16 k) + 0) % 4 = dN (I 11 k) by omega]
      exact z11.1.symm
    · rw [show (dN (I 11 k) + 4 * dN (I 12 k) + 32 * dN (I 16 k) + 0) / 4 % 8 = dN (I 12 k) by omega]
      exact z12.1.symm
    · rw [show (dN (I 11 k) + 4 * dN (I 12 k) + 32 * dN (I 16 k) + 0) % 524288 / 32 = dN (I 16 k) by omega]
      exact z16.1.symm
theorem ite_64 {p : Prop} [Decidable p] : Int32.toInt64 (if p then 0 else 1) = if p then 0 else 1 := by
  split <;> rfl
theorem wl_eq {nc nt dy b : Nat} {mo : Int64} {I Ia : zIA} {L La : zLA} (h : zJ nc nt dy b mo I L Ia La) {c : Nat} (hc : c < 3) : ∀ k, k ≤ 6 → wlL Ia La c k = wealthL I L c k
  | 0, _ => h.2.2.2.2.2.1.2.1 c hc
  | k + 1, hk => by
    have ih := wl_eq h hc k (by omega)
    show wlL Ia La c k + La 2 (6 * c + k) * Int32.toInt64 (Ia 0 k) / 1000 = wealthL I L c k + amountL I k (L 8 (6 * c + k))
    rw [ih, h.2.2.2.2.2.1.2.2.2 _ (by omega), h.2.2.2.1 k (by omega)]
    rfl
theorem lcN_mono {I : zIA} {L : zLA} {c f i : Nat} : ∀ n, lcN I L c f i ≤ lcN I L c f (i + n)
  | 0 => Nat.le_refl _
  | n + 1 => by
    have ih := lcN_mono (I := I) (L := L) (c := c) (f := f) (i := i) n
    by_cases h : isL I L c f (i + n)
    · rw [show i + (n + 1) = (i + n) + 1 from rfl, lcN_p h]; omega
    · rw [show i + (n + 1) = (i + n) + 1 from rfl, lcN_n h]; exact ih
/-- no lot ahead of k has k's rank -/
theorem lf_none {I : zIA} {L : zLA} {c f k : Nat} {what : Int32} (hk : k ≤ 1000) : ∀ i, i ≤ k → lfS I L c f (nI (lcN I L c f k)) what i = none
  | 0, _ => rfl
  | i + 1, hi => by
    refine lfS_n (lf_none hk i (by omega)) (fun z => ?_)
    have h1 := lcN_p z.1
    have h2 := lcN_mono (I := I) (L := L) (c := c) (f := f) (i := i + 1) (k - (i + 1))
    rw [show i + 1 + (k - (i + 1)) = k by omega, h1] at h2
    have h3 := lcN_le (I := I) (L := L) (c := c) (f := f) k
    have := (nI_eq (by omega) (by omega)).mp z.2
    omega
theorem lf_some {I : zIA} {L : zLA} {c f k n : Nat} {what : Int32} (hk : k < n) (hn : n ≤ 1000) (h : isL I L c f k) : (lfS I L c f (nI (lcN I L c f k)) what n).getD (-1) = lvC L what k := by
  rw [lfS_mono (lfS_s (lf_none (what := what) (by omega) k (Nat.le_refl k)) h rfl) (show k + 1 ≤ n by omega)]
  rfl
theorem lf_end {I : zIA} {L : zLA} {c f n : Nat} {what : Int32} (hn : n ≤ 1000) : (lfS I L c f (nI (lcN I L c f n)) what n).getD (-1) = -1 := by
  rw [lf_none hn n (Nat.le_refl n)]
  rfl
/-- the lots that the law has found are the class's -/
theorem lot_rel {nc nt dy b : Nat} {mo : Int64} {I Ia : zIA} {L La : zLA} (h : zJ nc nt dy b mo I L Ia La) {c f : Nat} (hc : c < nc) (hf : f < 6) {A : zLA} (hA : A = (goS Ia La c f nt).2) : (goS Ia La c f nt).1 = 1 ∧ ∀ k, k < nt → (0 < A 8 k ↔ isL I L c f k) ∧ (isL I L c f k → A 8 k = L 31 k ∧ A 8 (30 + k) = L 32 k) := by
  obtain ⟨hO, hM, hD⟩ := h.d
  have hn := h.2.1
  obtain ⟨a1, a2, a3, a4, -, -⟩ := (go_rel (c := c) (f := f) (La := La) (by omega) hf hn.2 hO hM hD h.2.2.2.2.2.2.2.1 nt (Nat.le_refl nt)).1 (h.2.2.2.2.2.2.2.2.1 c f hc hf)
  obtain ⟨g1, -⟩ := (h.1.2.2.2.2.2.2.2.1 c hc).1
  rw [← hA] at a2 a3
  refine ⟨a1, fun k hk => ?_⟩
  by_cases hl : lotH I L c f k
  · obtain ⟨q1, q2, -⟩ := a2 k hk hl
    obtain ⟨e1, e2⟩ := g1 k hk hl.1.1
    rw [q1, q2, ← e1, ← e2]
    exact ⟨⟨fun z => ⟨hl.1, z⟩, fun z => z.2⟩, fun _ => ⟨rfl, rfl⟩⟩
  · have hn : ¬ isL I L c f k := fun z => by
      have e1 := (g1 k hk z.1.1).1
      rw [a4 k hk z.1 hl] at e1
      have := z.2
      rw [e1] at this
      exact absurd this (by decide)
    rw [(a3 k hk hl).1]
    exact ⟨⟨fun z => absurd z (by decide), fun z => absurd z hn⟩, fun z => absurd z hn⟩
section RR
variable {l : Launch} {y : MethodName} {ws : List Cond} {rm : Room} {D : va_G} {tys : List (ClassId × FieldType)} {g : Nat → Nat} {av : List Value} {w1 w2 : zk_W} {n : Nat}
theorem zM_Rl {Pl : Int64 → zk_W → Prop} (hM : ∀ A, zM l y ws rm D tys A g av w2 (zQl Pl)) (hn : ∀ k, w1.2.1 k → k.1 < n) (A : Nat → Prop) : zM l y ws rm D tys A g av (zk_sum n w1 w2) (zQl (fun r W' => ∃ w2', Pl r w2' ∧ zk_sum n w1 w2' = W')) :=
  zM_imp (zM_sumR hM hn A) (fun v W' h => by
    obtain ⟨w2', ⟨r, rfl, h⟩, e⟩ := h
    exact ⟨r, rfl, w2', h, e⟩)
theorem zM_Ri {Pi : Int32 → zk_W → Prop} (hM : ∀ A, zM l y ws rm D tys A g av w2 (zQi Pi)) (hn : ∀ k, w1.2.1 k → k.1 < n) (A : Nat → Prop) : zM l y ws rm D tys A g av (zk_sum n w1 w2) (zQi (fun r W' => ∃ w2', Pi r w2' ∧ zk_sum n w1 w2' = W')) :=
  zM_imp (zM_sumR hM hn A) (fun v W' h => by
    obtain ⟨w2', ⟨r, rfl, h⟩, e⟩ := h
    exact ⟨r, rfl, w2', h, e⟩)
theorem zM_Rv {Pv : zk_W → Prop} (hM : ∀ A, zM l y ws rm D tys A g av w2 (zQv Pv)) (hn : ∀ k, w1.2.1 k → k.1 < n) (A : Nat → Prop) : zM l y ws rm D tys A g av (zk_sum n w1 w2) (zQv (fun W' => ∃ w2', Pv w2' ∧ zk_sum n w1 w2' = W')) :=
  zM_imp (zM_sumR hM hn A) (fun v W' h => by
    obtain ⟨w2', ⟨rfl, h⟩, e⟩ := h
    exact ⟨rfl, w2', h, e⟩)
end RR
