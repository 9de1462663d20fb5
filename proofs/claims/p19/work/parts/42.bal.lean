/-! ===== a balance ===== -/
abbrev zT : Type := Nat × Int64 × zIA × zLA
noncomputable def mtT (dy c f : Nat) (q x : Int64) (s : zT) : zT := (s.1 + 1, mtM s.2.2.1 s.2.2.2 s.1 dy c f q x s.2.1, noteI s.2.2.1 s.1 dy c f, mtL s.2.2.1 s.2.2.2 s.1 dy c f q x)
noncomputable def selT (dy c f : Nat) (all : Int64) (s : zT) : zT := @ite _ (tooC s.2.2.1 s.2.2.2 all c f) (Classical.propDecidable _) (mtT dy c f (-(partsL s.2.2.1 f (tooL s.2.2.1 s.2.2.2 all c f))) (amountL s.2.2.1 f (partsL s.2.2.1 f (tooL s.2.2.1 s.2.2.2 all c f))) s) s
noncomputable def buyT (dy c f : Nat) (all : Int64) (s : zT) : zT := @ite _ (lacC s.2.2.1 s.2.2.2 all c f) (Classical.propDecidable _) (mtT dy c f (partsL s.2.2.1 f (lacA s.2.2.1 s.2.2.2 all c f)) (lacA s.2.2.1 s.2.2.2 all c f) s) s
noncomputable def selC (dy c : Nat) (all : Int64) (s : zT) : Nat → zT
  | 0 => s
  | k + 1 => selT dy c k all (selC dy c all s k)
noncomputable def buyC (dy c : Nat) (all : Int64) (s : zT) : Nat → zT
  | 0 => s
  | k + 1 => buyT dy c k all (buyC dy c all s k)
theorem selC_p {dy c k : Nat} {all : Int64} {s : zT} (h : tooC (selC dy c all s k).2.2.1 (selC dy c all s k).2.2.2 all c k) : selC dy c all s (k + 1) = mtT dy c k (-(partsL (selC dy c all s k).2.2.1 k (tooL (selC dy c all s k).2.2.1 (selC dy c all s k).2.2.2 all c k))) (amountL (selC dy c all s k).2.2.1 k (partsL (selC dy c all s k).2.2.1 k (tooL (selC dy c all s k).2.2.1 (selC dy c all s k).2.2.2 all c k))) (selC dy c all s k) := if_pos h
theorem selC_n {dy c k : Nat} {all : Int64} {s : zT} (h : ¬ tooC (selC dy c all s k).2.2.1 (selC dy c all s k).2.2.2 all c k) : selC dy c all s (k + 1) = selC dy c all s k := if_neg h
theorem buyC_p {dy c k : Nat} {all : Int64} {s : zT} (h : lacC (buyC dy c all s k).2.2.1 (buyC dy c all s k).2.2.2 all c k) : buyC dy c all s (k + 1) = mtT dy c k (partsL (buyC dy c all s k).2.2.1 k (lacA (buyC dy c all s k).2.2.1 (buyC dy c all s k).2.2.2 all c k)) (lacA (buyC dy c all s k).2.2.1 (buyC dy c all s k).2.2.2 all c k) (buyC dy c all s k) := if_pos h
theorem buyC_n {dy c k : Nat} {all : Int64} {s : zT} (h : ¬ lacC (buyC dy c all s k).2.2.1 (buyC dy c all s k).2.2.2 all c k) : buyC dy c all s (k + 1) = buyC dy c all s k := if_neg h
/-- what every trade's rows keep -/
def tOK (nc : Nat) (s : zT) : Prop := (∀ f, f < 6 → ¬ Int32.toInt64 (s.2.2.1 1 f) = 0) ∧ (∀ t, t < s.1 → zD (s.2.2.1 11 t) nc) ∧ (∀ t, t < s.1 → zD (s.2.2.1 12 t) 6) ∧ ∀ t, t < s.1 → zD (s.2.2.1 16 t) 7201
theorem mtT_ok {nc dy c f : Nat} {q x : Int64} {s : zT} (h : tOK nc s) (hc : c < nc) (hn : nc ≤ 12) (hf : f < 6) (hd : dy ≤ 7200) : tOK nc (mtT dy c f q x s) := by
  obtain ⟨h1, h2, h3, h4⟩ := h
  refine ⟨fun k hk => ?_, note11 (dy := dy) (f := f) h2 hc hn, note12 (dy := dy) (c := c) h3 hf, note16 (c := c) (f := f) h4 hd⟩
  show ¬ Int32.toInt64 (noteI s.2.2.1 s.1 dy c f 1 k) = 0
  rw [noteI_1]
  exact h1 k hk
theorem selC_ok {nc dy c : Nat} {all : Int64} {s : zT} (h : tOK nc s) (hc : c < nc) (hn : nc ≤ 12) (hd : dy ≤ 7200) : ∀ k, k ≤ 6 → tOK nc (selC dy c all s k) ∧ (selC dy c all s k).1 ≤ s.1 + k
  | 0, _ => ⟨h, Nat.le_refl _⟩
  | k + 1, hk => by
    obtain ⟨h1, h2⟩ := selC_ok h hc hn hd k (by omega)
    by_cases hz : tooC (selC dy c all s k).2.2.1 (selC dy c all s k).2.2.2 all c k
    · rw [selC_p hz]
      exact ⟨mtT_ok h1 hc hn (by omega) hd, by show (selC dy c all s k).1 + 1 ≤ _; omega⟩
    · rw [selC_n hz]
      exact ⟨h1, by omega⟩
theorem buyC_ok {nc dy c : Nat} {all : Int64} {s : zT} (h : tOK nc s) (hc : c < nc) (hn : nc ≤ 12) (hd : dy ≤ 7200) : ∀ k, k ≤ 6 → tOK nc (buyC dy c all s k) ∧ (buyC dy c all s k).1 ≤ s.1 + k
  | 0, _ => ⟨h, Nat.le_refl _⟩
  | k + 1, hk => by
    obtain ⟨h1, h2⟩ := buyC_ok h hc hn hd k (by omega)
    by_cases hz : lacC (buyC dy c all s k).2.2.1 (buyC dy c all s k).2.2.2 all c k
    · rw [buyC_p hz]
      exact ⟨mtT_ok h1 hc hn (by omega) hd, by show (buyC dy c all s k).1 + 1 ≤ _; omega⟩
    · rw [buyC_n hz]
      exact ⟨h1, by omega⟩
theorem selC_ge {dy c : Nat} {all : Int64} {s : zT} : ∀ k, s.1 ≤ (selC dy c all s k).1
  | 0 => Nat.le_refl _
  | k + 1 => by
    have ih := selC_ge (dy := dy) (c := c) (all := all) (s := s) k
    by_cases hz : tooC (selC dy c all s k).2.2.1 (selC dy c all s k).2.2.2 all c k
    · rw [selC_p hz]
      show s.1 ≤ (selC dy c all s k).1 + 1
      omega
    · rw [selC_n hz]
      exact ih
theorem buyC_ge {dy c : Nat} {all : Int64} {s : zT} : ∀ k, s.1 ≤ (buyC dy c all s k).1
  | 0 => Nat.le_refl _
  | k + 1 => by
    have ih := buyC_ge (dy := dy) (c := c) (all := all) (s := s) k
    by_cases hz : lacC (buyC dy c all s k).2.2.1 (buyC dy c all s k).2.2.2 all c k
    · rw [buyC_p hz]
      show s.1 ≤ (buyC dy c all s k).1 + 1
      omega
    · rw [buyC_n hz]
      exact ih
/-- addresses stay, but for trades and their row -/
def kpX (ad ad' : zk_K → Nat) : Prop := ∀ k : zk_K, k.1 ≠ 6 → k.1 ≠ 14 → ad' k = ad k
theorem kpX_refl {ad : zk_K → Nat} : kpX ad ad := fun _ _ _ => rfl
theorem kpX_add {nt : Nat} {ad ad' ad'' : zk_K → Nat} (h : kpX ad ad') (h2 : kpA nt ad' ad'') : kpX ad ad'' := fun k h6 h14 => (h2 k (fun z => h6 (congrArg Prod.fst z)) (fun z => h14 (congrArg Prod.fst z))).trans (h k h6 h14)
