/-! ===== worlds that grow ===== -/
def zk_se (w : zk_W) (k : zk_K) (e : va_E) : zk_W := (w.1, w.2.1, fun k' => if k' = k then e else w.2.2 k')
theorem zk_se_up (w : zk_W) (k : zk_K) (e : va_E) : zk_up w k e (zk_se w k e) := ⟨rfl, rfl, if_pos rfl, fun _ h _ => if_neg h⟩
theorem zk_se_s (w : zk_W) (k : zk_K) (e : va_E) : (zk_se w k e).2.2 k = e := if_pos rfl
theorem zk_se_n {w : zk_W} {k k' : zk_K} {e : va_E} (h : k' ≠ k) : (zk_se w k e).2.2 k' = w.2.2 k' := if_neg h
def zk_ext (w : zk_W) (k : zk_K) (q : Nat) (e : va_E) : zk_W := (zk_ad w.1 k q, fun k' => k' = k ∨ w.2.1 k', fun k' => if k' = k then e else w.2.2 k')
theorem zk_ext_nw (w : zk_W) (k : zk_K) (q : Nat) (e : va_E) : zk_nw w k q e (zk_ext w k q e) := ⟨zk_ad_s _ _ _, if_pos rfl, fun _ h hl => ⟨hl.resolve_left h, zk_ad_n h, if_neg h⟩⟩
theorem zk_ext_s (w : zk_W) (k : zk_K) (q : Nat) (e : va_E) : (zk_ext w k q e).2.2 k = e := if_pos rfl
theorem zk_ext_n {w : zk_W} {k k' : zk_K} {q : Nat} {e : va_E} (h : k' ≠ k) : (zk_ext w k q e).2.2 k' = w.2.2 k' := if_neg h
theorem zk_ext_a (w : zk_W) (k : zk_K) (q : Nat) (e : va_E) : (zk_ext w k q e).1 k = q := if_pos rfl
theorem zk_ext_o {w : zk_W} {k k' : zk_K} {q : Nat} {e : va_E} (h : k' ≠ k) : (zk_ext w k q e).1 k' = w.1 k' := if_neg h
/-- the keys get other names -/
theorem zk_H.rn {D : va_G} {A : Nat → Prop} {w w' : zk_W} {H : Heap} (h : zk_H D A w H) (σ : zk_K → zk_K) (hs : ∀ k, w'.2.1 k → w.2.1 (σ k) ∧ w'.1 k = w.1 (σ k) ∧ w'.2.2 k = w.2.2 (σ k)) (hσ : ∀ k k', w'.2.1 k → w'.2.1 k' → σ k = σ k' → k = k') : zk_H D A w' H := by
  obtain ⟨ws, hP, hD, hL, hI⟩ := h
  refine ⟨ws, hP, hD, fun k hk => ?_, fun k k' hk hk' e => ?_⟩
  · obtain ⟨a, b, c⟩ := hs k hk
    obtain ⟨i, hi⟩ := hL _ a
    exact ⟨i, by rw [hi, b, c]⟩
  · obtain ⟨a, b, c⟩ := hs k hk
    obtain ⟨a', b', c'⟩ := hs k' hk'
    rw [b, b'] at e
    exact hσ k k' hk hk' (hI _ _ a a' e)
theorem zEl.ext {w : zk_W} {k : zk_K} {q y : Nat} {e : va_E} (h : zEl w y) (hk : ¬ w.2.1 k) : zEl (zk_ext w k q e) y := by
  obtain ⟨k', ci, fs, h1, h2, h3, h4⟩ := h
  have hne : k' ≠ k := fun z => hk (z ▸ h1)
  exact ⟨k', ci, fs, Or.inr h1, (zk_ext_o hne).trans h2, (zk_ext_n hne).trans h3, h4⟩
theorem zEl.se {w : zk_W} {k : zk_K} {y : Nat} {e : va_E} (h : zEl w y) (he : ∀ ci fs, zO ci → w.2.2 k ≠ .inr (ci, fs)) : zEl (zk_se w k e) y := by
  obtain ⟨k', ci, fs, h1, h2, h3, h4⟩ := h
  have hne : k' ≠ k := fun z => he ci fs h4 (z ▸ h3)
  exact ⟨k', ci, fs, h1, h2, (zk_se_n hne).trans h3, h4⟩
abbrev zRef (cO : ClassId) (n : Nat) (f : Nat → Option Nat) : va_E := .inl (cO, n, .inr (.inr (.inr (.inr f))))
theorem zO0 {fs : List Value} : ∀ ci gs, zO ci → (Sum.inr (0, fs) : va_E) ≠ .inr (ci, gs) := by
  intro ci gs h z
  have h0 : 0 = ci := congrArg Prod.fst (Sum.inr.inj z)
  rcases h with rfl | rfl | rfl | rfl <;> exact absurd h0 (by decide)
theorem zORef {cO : ClassId} {n : Nat} {f : Nat → Option Nat} : ∀ ci gs, zO ci → zRef cO n f ≠ .inr (ci, gs) := by
  intro ci gs _ z
  cases z
/-- a list's object -/
abbrev zLo (m : Int32) (a : Nat) (n : Int32) : va_E := .inr (0, [.int m, .ref a, .int n])
theorem cpy_all {f : Nat → Option Nat} {n : Nat} (h : ∀ j, n ≤ j → f j = none) : va_cpy f (fun _ => none) 0 0 n = f := by
  funext k
  unfold va_cpy
  by_cases hk : k < n
  · rw [if_pos ⟨Nat.zero_le _, by omega⟩, Nat.zero_add, Nat.sub_zero]
  · rw [if_neg (by omega), h k (by omega)]
/-- what 'add' leaves: list kl with its row ka of length cap -/
def zk_add (cO : ClassId) (w : zk_W) (kl ka : zk_K) (q n cap : Nat) (f : Nat → Option Nat) : zk_W :=
  (zk_ad w.1 ka q, fun k => k = ka ∨ w.2.1 k, fun k => if k = kl then zLo (nI (n + 1)) q (nI (n + 1)) else if k = ka then zRef cO cap f else w.2.2 k)
/-- the row of a list of n has as many places -/
def capN (n cap : Nat) : Nat := if n < cap then cap else if cap = 0 then 10 else cap + cap / 2
