/-! ===== prices, clients, payments, goals: what they keep; one picture of both worlds ===== -/
theorem gnOK_cI {n : Nat} {I I' : zIA} {L L' : zLA} {c : Nat} (hI : ∀ a, a = 11 ∨ a = 12 ∨ a = 16 ∨ a = 17 → I' a = I a) (h : ∀ a, a = 13 ∨ a = 14 ∨ a = 15 ∨ a = 30 ∨ a = 31 ∨ a = 32 → L' a = L a) (hg : gnOK n I L c) : gnOK n I' L' c := by
  obtain ⟨g1, g2⟩ := hg
  obtain ⟨c1, c2⟩ := flS_cong (I := I) (I' := I') (L := L) (L' := L') (c := c) (n := n) (fun i _ => by rw [hI 11 (by omega)]) (fun i _ _ => ⟨by rw [hI 12 (by omega)], by rw [hI 16 (by omega)], by rw [hI 17 (by omega)], by rw [h 13 (by omega)], by rw [h 14 (by omega)], by rw [h 15 (by omega)]⟩) n (Nat.le_refl n)
  refine ⟨fun i hi hh => ?_, fun y hy => ?_⟩
  · rw [hI 11 (by omega)] at hh
    rw [h 31 (by omega), h 32 (by omega), ← (c1 i hi hh).1, ← (c1 i hi hh).2]
    exact g1 i hi hh
  · rw [h 30 (by omega), ← c2 y hy]
    exact g2 y hy
theorem zInv_c {nc nt dy b : Nat} {I I' : zIA} {L L' : zLA} (hI : ∀ a, a = 11 ∨ a = 12 ∨ a = 16 ∨ a = 17 → I' a = I a) (hL : ∀ a, a = 3 ∨ a = 8 ∨ a = 9 ∨ a = 13 ∨ a = 14 ∨ a = 15 ∨ a = 30 ∨ a = 31 ∨ a = 32 → L' a = L a) (hP : iPr I') (hG : iGo I') (h6 : ∀ k, nc ≤ k → L' 6 k = 0) (h7 : ∀ k, nc ≤ k → ∀ f, f < 6 → I' 7 (6 * k + f) = 0) (h : zInv nc nt dy b I L) : zInv nc nt dy b I' L' := by
  obtain ⟨h1, -, -, hTr, hOK, hPa, hSt, hCl, hBe⟩ := h
  refine ⟨h1, hP, hG, ?_, ?_, ?_, ?_, ?_, ?_⟩
  · intro t ht
    rw [hI 11 (by omega), hI 17 (by omega), hL 13 (by omega)]
    exact hTr t ht
  · intro t ht
    rw [hI 11 (by omega), hI 12 (by omega), hI 16 (by omega), hL 13 (by omega), hL 14 (by omega), hL 15 (by omega)]
    exact hOK t ht
  · intro c f hc hf
    rw [hL 8 (by omega), enS_c (I := I') (I' := I) (L := L') (L' := L) (n := nt) (fun t _ => ⟨by rw [hI 11 (by omega)], by rw [hI 12 (by omega)], by rw [hI 17 (by omega)], by rw [hL 13 (by omega)]⟩) nt (Nat.le_refl nt)]
    exact hPa c f hc hf
  · intro f hf
    rw [hL 3 (by omega)]
    exact hSt f hf
  · intro c hc
    obtain ⟨g1, g2⟩ := hCl c hc
    refine ⟨gnOK_cI hI (fun a ha => hL a (by omega)) g1, fun y hy => ?_⟩
    rw [hL 9 (by omega), g2 y hy, bsV_c (L := L') (L' := L) (fun z _ => by rw [hL 30 (by omega)])]
  · intro k hk
    obtain ⟨b1, b2, b3⟩ := hBe k hk
    refine ⟨h6 k hk, fun y hy => ?_, fun f hf => ⟨?_, h7 k hk f hf⟩⟩
    · rw [hL 30 (by omega), hL 9 (by omega)]
      exact b2 y hy
    · rw [hL 8 (by omega)]
      exact (b3 f hf).1
theorem i32_le {a b : Int32} : a ≤ b ↔ a.toInt ≤ b.toInt := Int32.le_iff_toInt_le
theorem inv_price {nc nt dy b j : Nat} {I : zIA} {L : zLA} {its : Int32} (h : zInv nc nt dy b I L) (hz : zR its 10 1000000) : zInv nc nt dy b (up2 I 1 j its) L := by
  refine zInv_c (fun a ha => up2_a (by omega)) (fun _ _ => rfl) (fun f hf => ?_) (fun i => ?_) (fun k hk => (h.2.2.2.2.2.2.2.2 k hk).1) (fun k hk f hf => ?_) h
  · by_cases e : f = j
    · subst e
      rw [up2_s]
      obtain ⟨z1, z2⟩ := hz
      rw [i32_le] at z1 z2
      exact ⟨z1, z2⟩
    · rw [up2_i e]
      exact h.2.1 f hf
  · rw [up2_ne (by decide)]
    exact h.2.2.1 i
  · rw [up2_ne (by decide)]
    exact ((h.2.2.2.2.2.2.2.2 k hk).2.2 f hf).2
theorem inv_pay {nc nt dy b j : Nat} {I : zIA} {L : zLA} {x : Int64} (h : zInv nc nt dy b I L) (hj : j < nc) : zInv nc nt dy b I (up2 L 6 j x) := by
  refine zInv_c (fun _ _ => rfl) (fun a ha => up2_a (by omega)) h.2.1 h.2.2.1 (fun k hk => ?_) (fun k hk f hf => ((h.2.2.2.2.2.2.2.2 k hk).2.2 f hf).2) h
  rw [up2_i (show k ≠ j by omega)]
  exact (h.2.2.2.2.2.2.2.2 k hk).1
theorem inv_goal {nc nt dy b j f : Nat} {I : zIA} {L : zLA} {its : Int32} (h : zInv nc nt dy b I L) (hj : j < nc) (hf : f < 6) (hz : zR its 0 100) : zInv nc nt dy b (up2 I 7 (6 * j + f) its) L := by
  refine zInv_c (fun a ha => up2_a (by omega)) (fun _ _ => rfl) (fun k hk => ?_) (fun i => ?_) (fun k hk => (h.2.2.2.2.2.2.2.2 k hk).1) (fun k hk g hg => ?_) h
  · rw [up2_ne (by decide)]
    exact h.2.1 k hk
  · by_cases e : i = 6 * j + f
    · subst e
      rw [up2_s]
      obtain ⟨z1, z2⟩ := hz
      rw [i32_le] at z1 z2
      exact ⟨z1, z2⟩
    · rw [up2_i e]
      exact h.2.2.1 i
  · rw [up2_i (show 6 * k + g ≠ 6 * j + f by omega)]
    exact ((h.2.2.2.2.2.2.2.2 k hk).2.2 g hg).2
theorem sum_hun {I : zIA} {c k : Nat} {its : Int32} : ∀ n, sumG I c k its n = hunT I c n + its - (if k < n then I 7 (6 * c + k) else 0)
  | 0 => by
    rw [if_neg (Nat.not_lt_zero k)]
    show its = 0 + its - 0
    grind
  | n + 1 => by
    have ih := sum_hun (I := I) (c := c) (k := k) (its := its) n
    show sumG I c k its n + (if n = k then 0 else I 7 (6 * c + n)) = hunT I c n + I 7 (6 * c + n) + its - _
    rw [ih]
    by_cases e : n = k
    · subst e
      rw [if_pos rfl, if_neg (Nat.lt_irrefl n), if_pos (Nat.lt_succ_self n)]
      grind
    · rw [if_neg e]
      by_cases e2 : k < n
      · rw [if_pos e2, if_pos (by omega)]
        grind
      · rw [if_neg e2, if_neg (by omega)]
        grind
theorem goal_sum {I : zIA} {c k n6 : Nat} {its : Int32} (h6 : n6 = 6) (hk : k < 6) : hunT I c n6 - I 7 (6 * c + k) + its = sumG I c k its n6 := by
  rw [sum_hun, if_pos (by omega)]
  grind
theorem en_0 {I : zIA} {L : zLA} {c f n : Nat} (h : ∀ t, t < n → ¬ I 11 t = nI c) : ∀ t, t ≤ n → (enS I L c f t).2 = 0
  | 0, _ => rfl
  | t + 1, ht => by
    rw [enS_2, en_0 h t (by omega)]
    unfold enA
    rw [if_neg (fun z => h t (by omega) z.2.1)]
    rfl
theorem flS_none {I : zIA} {L : zLA} {c n : Nat} (h : ∀ t, t < n → ¬ dN (I 11 t) = c) : ∀ t, t ≤ n → flS I L c t = z30 L c
  | 0, _ => rfl
  | t + 1, ht => by rw [flS_n (h t (by omega)), flS_none h t (by omega)]
theorem bsS_0 {L : zLA} {c n : Nat} (h : ∀ y, y < n → L 30 (21 * c + y) = 0) : ∀ k, k ≤ n → bsS L c k = 0
  | 0, _ => rfl
  | k + 1, hk => by
    show (if 0 < bsS L c k then 0 else bsS L c k) + L 30 (21 * c + k) = 0
    rw [bsS_0 h k (by omega), h k (by omega)]
    decide
theorem inv_client {nc nt dy b : Nat} {I : zIA} {L : zLA} (h : zInv nc nt dy b I L) (hn : nc < 12) : zInv (nc + 1) nt dy b I L := by
  obtain ⟨⟨h1, h2, h3⟩, hPr, hGo, hTr, hOK, hPa, hSt, hCl, hBe⟩ := h
  have hne : ∀ t, t < nt → ¬ dN (I 11 t) = nc := fun t ht z => by have := (hTr t ht).1.2; omega
  refine ⟨⟨by omega, h2, h3⟩, hPr, hGo, ?_, hOK, ?_, hSt, ?_, fun k hk => hBe k (by omega)⟩
  · intro t ht
    obtain ⟨⟨a1, a2⟩, a3⟩ := hTr t ht
    exact ⟨⟨a1, by omega⟩, a3⟩
  · intro c f hc hf
    by_cases e : c = nc
    · subst e
      rw [en_0 (n := nt) (fun t ht z => hne t ht (by rw [z]; exact dN_nI (by omega))) nt (Nat.le_refl nt), ((hBe c (Nat.le_refl c)).2.2 f hf).1]
      exact ⟨rfl, by rw [i64_0]; exact Int.le_refl 0⟩
    · exact hPa c f (by omega) hf
  · intro c hc
    by_cases e : c = nc
    · subst e
      obtain ⟨-, b2, -⟩ := hBe c (Nat.le_refl c)
      refine ⟨⟨fun i hi hh => absurd hh (hne i hi), fun y hy => ?_⟩, fun y hy => ?_⟩
      · rw [flS_none hne nt (Nat.le_refl nt), (b2 y hy).1]
        exact (if_pos ⟨rfl, by omega, by omega⟩).symm
      · have hb : bsV L c y = 0 := by
          unfold bsV
          rw [bsS_0 (n := y + 1) (fun z hz => (b2 z (by omega)).1) (y + 1) (Nat.le_refl _)]
          decide
        rw [(b2 y hy).2, hb]
        split <;> decide
    · exact hCl c (by omega)
theorem prI_a {a : Nat} (h : a ≠ 1) : ∀ n, prI n a = mpI a
  | 0 => rfl
  | n + 1 => (up2_a h).trans (prI_a h n)
theorem prI_1 {f : Nat} : ∀ n, f < n → prI n 1 f = 10000
  | 0, h => absurd h (Nat.not_lt_zero f)
  | n + 1, h => by
    show up2 (prI n) 1 n 10000 1 f = _
    by_cases e : f = n
    · subst e
      exact up2_s _ _ _ _
    · rw [up2_i e]
      exact prI_1 n (by omega)
theorem inv_0 {n6 : Nat} (h6 : n6 = 6) : zInv 0 0 0 0 (prI n6) mpL := by
  refine ⟨⟨Nat.zero_le _, Nat.zero_le _, Nat.zero_le _⟩, fun f hf => ?_, fun i => ?_, fun t ht => absurd ht (Nat.not_lt_zero t), fun t ht => absurd ht (Nat.not_lt_zero t), fun c f hc => absurd hc (Nat.not_lt_zero c), fun f _ => ?_, fun c hc => absurd hc (Nat.not_lt_zero c), fun k _ => ⟨rfl, fun _ _ => ⟨rfl, rfl⟩, fun f _ => ⟨rfl, ?_⟩⟩⟩
  · rw [prI_1 n6 (by omega)]
    decide
  · rw [prI_a (by decide) n6]
    show 0 ≤ (0 : Int32).toInt ∧ (0 : Int32).toInt ≤ 100
    decide
  · show 0 ≤ (0 : Int64).toInt ∧ (0 : Int64).toInt ≤ _
    rw [i64_0]
    omega
  · rw [prI_a (by decide) n6]
    rfl
/-- the class's world reads no row of the reference's own -/
theorem cw_c {cA : Nat → ClassId} {g0 : Nat} {ad : zk_K → Nat} {nf lc nc hl nt dy : Nat} {mo : Int64} {I I' : zIA} {L L' : zLA} (hI : ∀ a, a = 1 ∨ a = 7 ∨ a = 11 ∨ a = 12 ∨ a = 16 ∨ a = 17 → I' a = I a) (hL : ∀ a, (a < 20 ∨ 30 ≤ a) → L' a = L a) : cw cA g0 ad nf lc nc hl nt dy mo I L = cw cA g0 ad nf lc nc hl nt dy mo I' L' := by
  have e : cEnt cA g0 ad nf lc nc hl nt dy mo I L = cEnt cA g0 ad nf lc nc hl nt dy mo I' L' := by
    funext k
    unfold cEnt cFund cCli cYears cHol cTra
    rw [hI 1 (by omega), hI 7 (by omega), hI 11 (by omega), hI 12 (by omega), hI 16 (by omega), hI 17 (by omega), hL 2 (by omega), hL 3 (by omega), hL 6 (by omega), hL 8 (by omega), hL 9 (by omega), hL 13 (by omega), hL 14 (by omega), hL 15 (by omega), hL 30 (by omega), hL 31 (by omega), hL 32 (by omega)]
  unfold cw
  rw [e]
