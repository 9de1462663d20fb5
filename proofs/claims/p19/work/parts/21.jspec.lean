/-! ===== worlds that grow ===== -/
def zk_se (w : zk_W) (k : zk_K) (e : va_E) : zk_W := (w.1, w.2.1, fun k' => if k' = k then e else w.2.2 k')
theorem zk_se_up (w : zk_W) (k : zk_K) (e : va_E) : zk_up w k e (zk_se w k e) := ⟨rfl, rfl, if_pos rfl, fun _ h _ => if_neg h⟩
theorem zk_se_s (w : zk_W) (k : zk_K) (e : va_E) : (zk_se w k e).2.2 k = e := if_pos rfl
theorem zk_se_n {w : zk_W} {k k' : zk_K} {e : va_E} (h : k' ≠ k) : (zk_se w k e).2.2 k' = w.2.2 k' := if_neg h
def zk_ext (w : zk_W) (k : zk_K) (q : Nat) (e : va_E) : zk_W := (zk_ad w.1 k q, fun k' => k' = k ∨ w.2.1 k', fun k' => if k' = k then e else w.2.2 k')
theorem zk_ext_nw (w : zk_W) (k : zk_K) (q : Nat) (e : va_E) : zk_nw w k q e (zk_ext w k q e) := ⟨zk_ad_s _ _ _, if_pos rfl, fun _ h hl => ⟨hl.resolve_left h, zk_ad_n h, if_neg h⟩⟩
theorem zk_ext_s (w : zk_W) (k : zk_K) (q : Nat) (e : va_E) : (zk_ext w k q e).2.2 k = e := if_pos rfl
theorem zk_ext_n {w : zk_W} {k k' : zk_K} {q : Nat} {e : va_E} (h : k' ≠ k) : (zk_ext w k q e).2.2 k' = w.2.2 k' := if_neg h
theorem zk_ext_a (w : zk_W) (k : zk_K) (q : Nat) (e : va_E) : (zk_ext w k q e).1 k = q := if_pos rfl
theorem zk_ext_o {w : zk_W} {k k' : zk_K} {q : Nat} {e : va_E} (h : k' ≠ k) : (zk_ext w k q e).1 k' = w.1 k' := if_neg h
/-- the keys get other names -/
theorem zk_H.rn {D : va_G} {A : Nat → Prop} {w w' : zk_W} {H : Heap} (h : zk_H D A w H) (σ : zk_K → zk_K) (hs : ∀ k, w'.2.1 k → w.2.1 (σ k) ∧ w'.1 k = w.1 (σ k) ∧ w'.2.2 k = w.2.2 (σ k)) (hσ : ∀ k k', w'.2.1 k → w'.2.1 k' → σ k = σ k' → k = k') : zk_H D A w' H := by
  obtain ⟨ws, hP, hD, hL, hI⟩ := h
  refine ⟨ws, hP, hD, fun k hk => ?_, fun k k' hk hk' e => ?_⟩
  · obtain ⟨a, b, c⟩ := hs k hk
    obtain ⟨i, hi⟩ := hL _ a
    exact ⟨i, by rw [hi, b, c]⟩
  · obtain ⟨a, b, c⟩ := hs k hk
    obtain ⟨a', b', c'⟩ := hs k' hk'
    rw [b, b'] at e
    exact hσ k k' hk hk' (hI _ _ a a' e)
theorem zEl.ext {w : zk_W} {k : zk_K} {q y : Nat} {e : va_E} (h : zEl w y) (hk : ¬ w.2.1 k) : zEl (zk_ext w k q e) y := by
  obtain ⟨k', ci, fs, h1, h2, h3, h4⟩ := h
  have hne : k' ≠ k := fun z => hk (z ▸ h1)
  exact ⟨k', ci, fs, Or.inr h1, (zk_ext_o hne).trans h2, (zk_ext_n hne).trans h3, h4⟩
theorem zEl.se {w : zk_W} {k : zk_K} {y : Nat} {e : va_E} (h : zEl w y) (he : ∀ ci fs, zO ci → w.2.2 k ≠ .inr (ci, fs)) : zEl (zk_se w k e) y := by
  obtain ⟨k', ci, fs, h1, h2, h3, h4⟩ := h
  have hne : k' ≠ k := fun z => he ci fs h4 (z ▸ h3)
  exact ⟨k', ci, fs, h1, h2, (zk_se_n hne).trans h3, h4⟩
abbrev zRef (cO : ClassId) (n : Nat) (f : Nat → Option Nat) : va_E := .inl (cO, n, .inr (.inr (.inr (.inr f))))
theorem zO0 {fs : List Value} : ∀ ci gs, zO ci → (Sum.inr (0, fs) : va_E) ≠ .inr (ci, gs) := by
  intro ci gs h z
  have h0 : 0 = ci := congrArg Prod.fst (Sum.inr.inj z)
  rcases h with rfl | rfl | rfl | rfl <;> exact absurd h0 (by decide)
theorem zORef {cO : ClassId} {n : Nat} {f : Nat → Option Nat} : ∀ ci gs, zO ci → zRef cO n f ≠ .inr (ci, gs) := by
  intro ci gs _ z
  cases z
/-- a list's object -/
abbrev zLo (m : Int32) (a : Nat) (n : Int32) : va_E := .inr (0, [.int m, .ref a, .int n])
theorem cpy_all {f : Nat → Option Nat} {n : Nat} (h : ∀ j, n ≤ j → f j = none) : va_cpy f (fun _ => none) 0 0 n = f := by
  funext k
  unfold va_cpy
  by_cases hk : k < n
  · rw [if_pos ⟨Nat.zero_le _, by omega⟩, Nat.zero_add, Nat.sub_zero]
  · rw [if_neg (by omega), h k (by omega)]
/-- what 'add' leaves: list kl with its row ka of length cap -/
def zk_add (cO : ClassId) (w : zk_W) (kl ka : zk_K) (q n cap : Nat) (f : Nat → Option Nat) : zk_W :=
  (zk_ad w.1 ka q, fun k => k = ka ∨ w.2.1 k, fun k => if k = kl then zLo (nI (n + 1)) q (nI (n + 1)) else if k = ka then zRef cO cap f else w.2.2 k)
/-- the row of a list of n has as many places -/
def capN (n cap : Nat) : Nat := if n < cap then cap else if cap = 0 then 10 else cap + cap / 2
theorem zk_addN {cO : ClassId} {w : zk_W} {kl ka : zk_K} {n cap : Nat} {f : Nat → Option Nat} {m1 : va_E} (hka : w.2.1 ka) : zk_sb (zk_se (zk_se (zk_se w kl m1) ka (zRef cO cap f)) kl (zLo (nI (n + 1)) (w.1 ka) (nI (n + 1)))) (zk_add cO w kl ka (w.1 ka) n cap f) := by
  intro k hk
  refine ⟨hk.elim (fun z => z ▸ hka) id, ?_, ?_⟩
  · show (if k = ka then w.1 ka else w.1 k) = w.1 k
    by_cases h : k = ka
    · rw [if_pos h, h]
    · rw [if_neg h]
  · show (if k = kl then _ else if k = ka then _ else w.2.2 k) = (if k = kl then _ else if k = ka then _ else if k = kl then _ else w.2.2 k)
    by_cases h1 : k = kl
    · rw [if_pos h1, if_pos h1]
    · rw [if_neg h1, if_neg h1, if_neg h1]
theorem zk_addA {cO : ClassId} {w : zk_W} {kl ka : zk_K} {n cap r : Nat} {f g : Nat → Option Nat} {m1 m2 : va_E} : zk_sb (zk_se (zk_se (zk_se (zk_ext (zk_se w kl m1) ka r (zRef cO cap g)) kl m2) ka (zRef cO cap f)) kl (zLo (nI (n + 1)) r (nI (n + 1)))) (zk_add cO w kl ka r n cap f) := by
  intro k hk
  refine ⟨hk, rfl, ?_⟩
  show (if k = kl then _ else if k = ka then _ else w.2.2 k) = (if k = kl then _ else if k = ka then _ else if k = kl then _ else if k = ka then _ else if k = kl then _ else w.2.2 k)
  by_cases h1 : k = kl
  · rw [if_pos h1, if_pos h1]
  · rw [if_neg h1, if_neg h1, if_neg h1]
    by_cases h2 : k = ka
    · rw [if_pos h2, if_pos h2]
    · rw [if_neg h2, if_neg h2, if_neg h2, if_neg h1]
theorem zk_addB {D : va_G} {A : Nat → Prop} {H : Heap} {cO : ClassId} {w : zk_W} {kl ka kt : zk_K} {n cap r : Nat} {f g : Nat → Option Nat} {m1 m2 : va_E} (hk : w.2.1 kl) (hne : kl ≠ ka) (hkt : ¬ w.2.1 kt)
    (h : zk_H D A (zk_se (zk_se (zk_se (zk_ext (zk_se w kl m1) kt r (zRef cO cap g)) kl m2) kt (zRef cO cap f)) kl (zLo (nI (n + 1)) r (nI (n + 1)))) H) : zk_H D A (zk_add cO w kl ka r n cap f) H := by
  have hlt : kl ≠ kt := fun z => hkt (z ▸ hk)
  refine h.rn (fun k => if k = ka then kt else k) (fun k hk' => ?_) (fun k k' hk' hk2 hσ => ?_)
  · by_cases h1 : k = ka
    · subst h1
      rw [if_pos rfl]
      refine ⟨Or.inl rfl, ?_, ?_⟩
      · show (if k = k then r else w.1 k) = (if kt = kt then r else w.1 kt)
        rw [if_pos rfl, if_pos rfl]
      · show (if k = kl then _ else if k = k then _ else w.2.2 k) = (if kt = kl then _ else if kt = kt then _ else _)
        rw [if_neg (Ne.symm hne), if_pos rfl, if_neg (Ne.symm hlt), if_pos rfl]
    · rw [if_neg h1]
      have hl : w.2.1 k := hk'.resolve_left h1
      have h2 : k ≠ kt := fun z => hkt (z ▸ hl)
      refine ⟨Or.inr hl, ?_, ?_⟩
      · show (if k = ka then r else w.1 k) = (if k = kt then r else w.1 k)
        rw [if_neg h1, if_neg h2]
      · show (if k = kl then _ else if k = ka then _ else w.2.2 k) = (if k = kl then _ else if k = kt then _ else if k = kl then _ else if k = kt then _ else if k = kl then _ else w.2.2 k)
        by_cases h3 : k = kl
        · rw [if_pos h3, if_pos h3]
        · rw [if_neg h3, if_neg h1, if_neg h3, if_neg h2, if_neg h3, if_neg h2, if_neg h3]
  · by_cases h1 : k = ka <;> by_cases h2 : k' = ka
    · rw [h1, h2]
    · rw [if_pos h1, if_neg h2] at hσ
      exact absurd (hσ ▸ hk2.resolve_left h2) hkt
    · rw [if_neg h1, if_pos h2] at hσ
      exact absurd (hσ ▸ hk'.resolve_left h1) hkt
    · rw [if_neg h1, if_neg h2] at hσ
      exact hσ
/-- a row of numbers, filled up to i -/
def flL (f : Nat → Int64) (x : Int64) (i : Nat) : Nat → Int64 := fun j => if j < i then x else f j
theorem flL_0 (f : Nat → Int64) (x : Int64) : flL f x 0 = f := funext fun _ => if_neg (Nat.not_lt_zero _)
theorem flL_s (f : Nat → Int64) (x : Int64) (i : Nat) : vp_updL (flL f x i) i x = flL f x (i + 1) := by
  funext j
  by_cases h : j = i
  · subst h
    simp [vp_updL, flL]
  · have : (j < i + 1) = (j < i) := propext ⟨fun z => by omega, fun z => by omega⟩
    simp [vp_updL, flL, h, this]
theorem zk_se_id {w : zk_W} {k : zk_K} {e : va_E} (he : w.2.2 k = e) : zk_sb w (zk_se w k e) := by
  intro k' h
  refine ⟨h, rfl, ?_⟩
  by_cases h2 : k' = k
  · rw [h2, zk_se_s, he]
  · rw [zk_se_n h2]
