/-! ===== a balance: what it keeps, and the reference's ===== -/
theorem amt_v {I : zIA} {f : Nat} {m : Int64} (hP : 10 ≤ (I 1 f).toInt ∧ (I 1 f).toInt ≤ 1000000) (h0 : 0 ≤ m.toInt) (h1 : m.toInt ≤ 1200000000000) : (amountL I f m).toInt = m.toInt * (I 1 f).toInt / 1000 ∧ 0 ≤ m.toInt * (I 1 f).toInt ∧ m.toInt * (I 1 f).toInt ≤ 1200000000000000000 := by
  have a1 : 0 ≤ m.toInt * (I 1 f).toInt := Int.mul_nonneg h0 (by omega)
  have a2 : m.toInt * (I 1 f).toInt ≤ 1200000000000 * 1000000 := Int.mul_le_mul h1 hP.2 (by omega) (by omega)
  have e : (m * Int32.toInt64 (I 1 f)).toInt = m.toInt * (I 1 f).toInt := by rw [i64_mul (by rw [i32_64]; omega) (by rw [i32_64]; omega), i32_64]
  have hk : (1000 : Int64).toInt = 1000 := rfl
  unfold amountL
  rw [i64_div (by rw [e]; exact a1) (by decide), e, hk]
  exact ⟨rfl, a1, by omega⟩
theorem prt_v {I : zIA} {f : Nat} {x : Int64} (hP : 10 ≤ (I 1 f).toInt ∧ (I 1 f).toInt ≤ 1000000) (h0 : 0 ≤ x.toInt) (h1 : x.toInt ≤ 9000000000000000) : (partsL I f x).toInt = x.toInt * 1000 / (I 1 f).toInt := by
  have hk : (1000 : Int64).toInt = 1000 := rfl
  have e : (x * 1000).toInt = x.toInt * 1000 := by rw [i64_mul (by rw [hk]; omega) (by rw [hk]; omega), hk]
  unfold partsL
  rw [i64_div (by rw [e]; omega) (by rw [i32_64]; omega), e, i32_64]
theorem due_v {I : zIA} {c f : Nat} {all : Int64} (hG : 0 ≤ (I 7 (6 * c + f)).toInt ∧ (I 7 (6 * c + f)).toInt ≤ 100) (h0 : 0 ≤ all.toInt) (h1 : all.toInt ≤ 100000000) : 0 ≤ (dueL I all c f).toInt ∧ (dueL I all c f).toInt ≤ 100000000 := by
  have a1 : 0 ≤ all.toInt * (I 7 (6 * c + f)).toInt := Int.mul_nonneg h0 hG.1
  have a2 : all.toInt * (I 7 (6 * c + f)).toInt ≤ 100000000 * 100 := Int.mul_le_mul h1 hG.2 hG.1 (by omega)
  have e : (all * Int32.toInt64 (I 7 (6 * c + f))).toInt = all.toInt * (I 7 (6 * c + f)).toInt := by rw [i64_mul (by rw [i32_64]; omega) (by rw [i32_64]; omega), i32_64]
  have hk : (100 : Int64).toInt = 100 := rfl
  unfold dueL
  rw [i64_div (by rw [e]; exact a1) (by decide), e, hk]
  omega
theorem cost_v {x : Int64} (h0 : 0 ≤ x.toInt) (h1 : x.toInt ≤ 100000000) : 0 ≤ (x + costL x).toInt ∧ (x + costL x).toInt ≤ 200000000 := by
  have hk : (10000 : Int64).toInt = 10000 := rfl
  have key : ∀ r : Int64, 0 ≤ r.toInt → r.toInt ≤ 100 → 0 ≤ (x * r / 10000).toInt ∧ (x * r / 10000).toInt ≤ 1000000 := by
    intro r r0 r1
    have a1 : 0 ≤ x.toInt * r.toInt := Int.mul_nonneg h0 r0
    have a2 : x.toInt * r.toInt ≤ 100000000 * 100 := Int.mul_le_mul h1 r1 r0 (by omega)
    have e : (x * r).toInt = x.toInt * r.toInt := i64_mul (by omega) (by omega)
    rw [i64_div (by rw [e]; exact a1) (by decide), e, hk]
    omega
  have hc : 0 ≤ (costL x).toInt ∧ (costL x).toInt ≤ 1000000 := by
    unfold costL
    apply key
    · split
      · decide
      · split <;> decide
    · split
      · decide
      · split <;> decide
  rw [i64_add (by omega) (by omega)]
  omega
theorem zInv.mono {nc nt dy b b' : Nat} {I : zIA} {L : zLA} (h : zInv nc nt dy b I L) (hb : b ≤ b') : zInv nc nt dy b' I L := by
  obtain ⟨h1, h2, h3, h4, h5, h6, h7, h8, h9⟩ := h
  refine ⟨h1, h2, h3, h4, h5, h6, fun f hf => ?_, h8, h9⟩
  obtain ⟨s1, s2⟩ := h7 f hf
  exact ⟨s1, by omega⟩
theorem zInv.cond {nc nt dy b f : Nat} {I : zIA} {L : zLA} {q : Int64} (h : zInv nc nt dy b I L) (hb : b ≤ 10000) (hf : f < 6) (h1 : -1200000000000 ≤ q.toInt) (h2 : q.toInt ≤ 1200000000000) : L 3 f - q < 0 ↔ L 3 f < q := by
  obtain ⟨s1, s2⟩ := h.2.2.2.2.2.2.1 f hf
  exact ex_cond (by omega) (by omega) (by omega) (by omega)
/-- both, in the midst of a balance -/
def bRel (nc dy b nt : Nat) (s : zT) (r : zS) : Prop := zInv nc s.1 dy b s.2.2.1 s.2.2.2 ∧ r.2.1 = s.1 ∧ r.2.2.1 = s.2.1 ∧ r.2.2.2.1 = s.2.2.1 ∧ (∀ a, a < 20 → s.2.2.2 a = r.2.2.2.2 a) ∧ r.1 + nt = s.1
theorem bRel_note {nc dy b nt c f : Nat} {s : zT} {r : zS} {q x : Int64} (h : bRel nc dy b nt s r) (hc : c < nc) (hf : f < 6) (hnt : s.1 < 120) (hb : b ≤ 10000) (hq0 : ¬ q = 0) (hq1 : q.toInt ≤ 10000000000) (hx : 0 < q → 0 ≤ (x + costL x).toInt ∧ (x + costL x).toInt ≤ 200000000) (hp : 0 ≤ (s.2.2.2 8 (6 * c + f)).toInt + q.toInt) : bRel nc dy (b + 1) nt (mtT dy c f q x s) (noteS dy c f q x r) := by
  obtain ⟨s1, s2, s3, s4⟩ := s
  obtain ⟨r0, r1, r2, r3, r4⟩ := r
  obtain ⟨hI, e1, e2, e3, e4, e5⟩ := h
  have e1 : r1 = s1 := e1
  have e2 : r2 = s2 := e2
  have e3 : r3 = s3 := e3
  have e5 : r0 + nt = s1 := e5
  subst e1
  subst e2
  subst e3
  have hpa := hI.pa hc hf
  have hI2 : zInv nc r1 dy b r3 s4 := hI
  have hp2 : 0 ≤ (s4 8 (6 * c + f)).toInt + q.toInt := hp
  have hpa2 : 0 ≤ (s4 8 (6 * c + f)).toInt ∧ (s4 8 (6 * c + f)).toInt ≤ 1200000000000 := hpa
  obtain ⟨m1, m2⟩ := note_same (nt := r1) (dy := dy) (c := c) (f := f) (b := b) (I := r3) (x := x) (mo := r2) (L := s4) (L' := r4) e4 (hI2.cond hb hf (by omega) (by omega)) hq0
  refine ⟨note_inv hI2 hc hf hnt hb hq0 hq1 hx hp2, rfl, m2.symm.trans ?_, rfl, m1, ?_⟩
  · rfl
  · show r0 + 1 + nt = r1 + 1
    omega
theorem sel_step {nc dy b nt c f : Nat} {s : zT} {r : zS} {all : Int64} (h : bRel nc dy b nt s r) (hc : c < nc) (hf : f < 6) (hnt : s.1 < 120) (hb : b ≤ 10000) (h0 : 0 ≤ all.toInt) (h1 : all.toInt ≤ 100000000) : bRel nc dy (b + 1) nt (selT dy c f all s) (sellsS dy c f (dueL r.2.2.2.1 all c f) r) := by
  have hI := h.1
  have hpa := hI.pa hc hf
  have hP := hI.2.1 f hf
  have hD := due_v (c := c) (f := f) (hI.2.2.1 _) h0 h1
  obtain ⟨V, hV⟩ : ∃ V, V = valueL s.2.2.1 s.2.2.2 c f := ⟨_, rfl⟩
  obtain ⟨D, hDe⟩ : ∃ D, D = dueL s.2.2.1 all c f := ⟨_, rfl⟩
  obtain ⟨v1, v2, v3⟩ := amt_v (I := s.2.2.1) (f := f) (m := s.2.2.2 8 (6 * c + f)) hP hpa.1 hpa.2
  have hVi : V.toInt = (s.2.2.2 8 (6 * c + f)).toInt * (s.2.2.1 1 f).toInt / 1000 := by rw [hV]; exact v1
  rw [← hDe] at hD
  have hVr : valueL r.2.2.2.1 r.2.2.2.2 c f = V := by
    rw [hV]
    unfold valueL
    rw [h.2.2.2.1, h.2.2.2.2.1 8 (by decide)]
  have hDr : dueL r.2.2.2.1 all c f = D := by rw [hDe, h.2.2.2.1]
  have hT : tooL s.2.2.1 s.2.2.2 all c f = V - D := by unfold tooL; rw [← hV, ← hDe]
  obtain ⟨M, hM⟩ : ∃ M, M = V - D := ⟨_, rfl⟩
  have hMi : M.toInt = V.toInt - D.toInt := by rw [hM]; exact i64_sub (by omega) (by omega)
  obtain ⟨Pn, hPn⟩ : ∃ Pn : Int, Pn = (s.2.2.1 1 f).toInt := ⟨_, rfl⟩
  obtain ⟨Q, hQ⟩ : ∃ Q, Q = partsL s.2.2.1 f M := ⟨_, rfl⟩
  obtain ⟨X, hX⟩ : ∃ X, X = amountL s.2.2.1 f Q := ⟨_, rfl⟩
  by_cases hpos : 0 < M
  · have hM0 : 0 < M.toInt := by rw [i64_lt, i64_0] at hpos; exact hpos
    have hQi : Q.toInt = M.toInt * 1000 / (s.2.2.1 1 f).toInt := by rw [hQ]; exact prt_v hP (by omega) (by omega)
    have hQ0 : 0 ≤ Q.toInt := by rw [hQi]; exact Int.ediv_nonneg (by omega) (by omega)
    have hQp : Q.toInt ≤ (s.2.2.2 8 (6 * c + f)).toInt := by
      rw [hQi]
      have z1 : M.toInt * 1000 ≤ (s.2.2.2 8 (6 * c + f)).toInt * (s.2.2.1 1 f).toInt := by omega
      have z2 := Int.ediv_le_ediv (show 0 < (s.2.2.1 1 f).toInt by omega) z1
      rw [Int.mul_ediv_cancel _ (by omega)] at z2
      exact z2
    obtain ⟨x1, x2, x3⟩ := amt_v (I := s.2.2.1) (f := f) (m := Q) hP hQ0 (by omega)
    rw [← hX] at x1
    have hX0 : 0 ≤ X.toInt := by rw [x1]; omega
    have hsm : sellMany r.2.2.2.1 r.2.2.2.2 c f D = Q := by
      unfold sellMany
      rw [hVr, ← hM, if_pos hpos, h.2.2.2.1, hQ]
    have hXr : amountL r.2.2.2.1 f Q = X := by rw [h.2.2.2.1, hX]
    have hcls : tooC s.2.2.1 s.2.2.2 all c f ↔ ¬ (Q = 0 ∨ X = 0) := by
      unfold tooC
      rw [hT, ← hM, ← hQ, ← hX, i64_lt, i64_lt, i64_lt, i64_0, ← Int64.toInt_inj, ← Int64.toInt_inj, i64_0]
      omega
    unfold selT sellsS
    rw [hDr, hsm, hXr, hT, ← hM, ← hQ, ← hX]
    by_cases hno : Q = 0 ∨ X = 0
    · rw [if_pos hno, if_neg (fun z => hcls.mp z hno)]
      exact ⟨hI.mono (by omega), h.2⟩
    · rw [if_neg hno, if_pos (hcls.mpr hno)]
      have hn : (-Q).toInt = -Q.toInt := i64_neg (by omega)
      refine bRel_note h hc hf hnt hb (fun z => hno (Or.inl ?_)) (by rw [hn]; omega) (fun z => ?_) (by rw [hn]; omega)
      · have := congrArg Int64.toInt z
        rw [hn, i64_0] at this
        apply Int64.toInt_inj.mp
        rw [i64_0]
        omega
      · rw [i64_lt, hn, i64_0] at z
        omega
  · have hsm : sellMany r.2.2.2.1 r.2.2.2.2 c f D = 0 := by
      unfold sellMany
      rw [hVr, ← hM, if_neg hpos]
    have hnt : ¬ tooC s.2.2.1 s.2.2.2 all c f := fun z => hpos (by have := z.1; rw [hT, ← hM] at this; exact this)
    unfold selT sellsS
    rw [hDr, hsm, if_pos (Or.inl rfl), if_neg hnt]
    exact ⟨hI.mono (by omega), h.2⟩
theorem buy_step {nc dy b nt c f : Nat} {s : zT} {r : zS} {all : Int64} (h : bRel nc dy b nt s r) (hc : c < nc) (hf : f < 6) (hnt : s.1 < 120) (hb : b ≤ 10000) (h0 : 0 ≤ all.toInt) (h1 : all.toInt ≤ 100000000) : bRel nc dy (b + 1) nt (buyT dy c f all s) (buysS dy c f (dueL r.2.2.2.1 all c f) r) := by
  have hI := h.1
  have hpa := hI.pa hc hf
  have hP := hI.2.1 f hf
  have hD := due_v (c := c) (f := f) (hI.2.2.1 _) h0 h1
  obtain ⟨V, hV⟩ : ∃ V, V = valueL s.2.2.1 s.2.2.2 c f := ⟨_, rfl⟩
  obtain ⟨D, hDe⟩ : ∃ D, D = dueL s.2.2.1 all c f := ⟨_, rfl⟩
  obtain ⟨v1, v2, v3⟩ := amt_v (I := s.2.2.1) (f := f) (m := s.2.2.2 8 (6 * c + f)) hP hpa.1 hpa.2
  have hVi : V.toInt = (s.2.2.2 8 (6 * c + f)).toInt * (s.2.2.1 1 f).toInt / 1000 := by rw [hV]; exact v1
  rw [← hDe] at hD
  have hVr : valueL r.2.2.2.1 r.2.2.2.2 c f = V := by
    rw [hV]
    unfold valueL
    rw [h.2.2.2.1, h.2.2.2.2.1 8 (by decide)]
  have hDr : dueL r.2.2.2.1 all c f = D := by rw [hDe, h.2.2.2.1]
  have hT : lacL s.2.2.1 s.2.2.2 all c f = D - V := by unfold lacL; rw [← hV, ← hDe]
  obtain ⟨M, hM⟩ : ∃ M, M = D - V := ⟨_, rfl⟩
  have hMi : M.toInt = D.toInt - V.toInt := by rw [hM]; exact i64_sub (by omega) (by omega)
  obtain ⟨K, hK⟩ : ∃ K, K = s.2.2.2 6 c - s.2.2.2 6 c / 100 := ⟨_, rfl⟩
  obtain ⟨A, hA⟩ : ∃ A, A = lacA s.2.2.1 s.2.2.2 all c f := ⟨_, rfl⟩
  have hA2 : A = if K < M then K else M := by rw [hA]; unfold lacA; rw [hT, ← hM, ← hK]
  have hAM : A.toInt ≤ M.toInt := by
    rw [hA2]
    split
    · rename_i z; rw [i64_lt] at z; omega
    · exact Int.le_refl _
  have hbi : buyIts r.2.2.2.1 r.2.2.2.2 c f D = A := by
    unfold buyIts
    rw [hVr, ← hM, ← h.2.2.2.2.1 6 (by decide), ← hK, hA2]
    by_cases z1 : M < K
    · rw [if_pos z1, if_neg]
      rw [i64_lt] at z1 ⊢
      omega
    · rw [if_neg z1]
      by_cases z2 : K < M
      · rw [if_pos z2]
      · rw [if_neg z2]
        apply Int64.toInt_inj.mp
        rw [i64_lt] at z1 z2
        omega
  obtain ⟨Q, hQ⟩ : ∃ Q, Q = partsL s.2.2.1 f A := ⟨_, rfl⟩
  have hQr : partsL r.2.2.2.1 f A = Q := by rw [h.2.2.2.1, hQ]
  unfold buyT buysS
  rw [hDr, hbi, hQr, ← hA, ← hQ]
  by_cases hpos : 0 < A
  · have hA0 : 0 < A.toInt := by rw [i64_lt, i64_0] at hpos; exact hpos
    have hQi : Q.toInt = A.toInt * 1000 / (s.2.2.1 1 f).toInt := by rw [hQ]; exact prt_v hP (by omega) (by omega)
    have hQ0 : 0 ≤ Q.toInt := by rw [hQi]; exact Int.ediv_nonneg (by omega) (by omega)
    have hQ1 : Q.toInt ≤ 10000000000 := by
      rw [hQi]
      have z1 : A.toInt * 1000 ≤ 10000000000 * (s.2.2.1 1 f).toInt := by omega
      have z2 := Int.ediv_le_ediv (show 0 < (s.2.2.1 1 f).toInt by omega) z1
      rw [Int.mul_ediv_cancel _ (by omega)] at z2
      exact z2
    have hcls : lacC s.2.2.1 s.2.2.2 all c f ↔ ¬ (¬ 0 < A ∨ Q = 0) := by
      unfold lacC
      rw [hT, ← hM, ← hA, ← hQ, i64_lt, i64_lt, i64_lt, i64_0, ← Int64.toInt_inj, i64_0]
      omega
    by_cases hno : ¬ 0 < A ∨ Q = 0
    · rw [if_pos hno, if_neg (fun z => hcls.mp z hno)]
      exact ⟨hI.mono (by omega), h.2⟩
    · rw [if_neg hno, if_pos (hcls.mpr hno)]
      refine bRel_note h hc hf hnt hb (fun z => hno (Or.inr z)) hQ1 (fun _ => cost_v (by omega) (by omega)) (by omega)
  · rw [if_pos (Or.inl hpos), if_neg (fun z => hpos (by have := z.2.2; rw [← hA] at this; exact this))]
    exact ⟨hI.mono (by omega), h.2⟩
theorem sel_rel {nc dy b nt c : Nat} {s : zT} {r : zS} {all : Int64} (h : bRel nc dy b nt s r) (hc : c < nc) (hnt : s.1 ≤ 114) (hb : b ≤ 9000) (h0 : 0 ≤ all.toInt) (h1 : all.toInt ≤ 100000000) : ∀ k, k ≤ 6 → bRel nc dy (b + k) nt (selC dy c all s k) (selS dy c all r k) ∧ (selC dy c all s k).1 ≤ s.1 + k
  | 0, _ => ⟨h, Nat.le_refl _⟩
  | k + 1, hk => by
    obtain ⟨q1, q2⟩ := sel_rel h hc hnt hb h0 h1 k (by omega)
    refine ⟨sel_step (b := b + k) q1 hc (by omega) (by omega) (by omega) h0 h1, ?_⟩
    show (selT dy c k all (selC dy c all s k)).1 ≤ _
    unfold selT
    split
    · show (selC dy c all s k).1 + 1 ≤ _
      omega
    · omega
theorem buy_rel {nc dy b nt c : Nat} {s : zT} {r : zS} {all : Int64} (h : bRel nc dy b nt s r) (hc : c < nc) (hnt : s.1 ≤ 114) (hb : b ≤ 9000) (h0 : 0 ≤ all.toInt) (h1 : all.toInt ≤ 100000000) : ∀ k, k ≤ 6 → bRel nc dy (b + k) nt (buyC dy c all s k) (buyS dy c all r k) ∧ (buyC dy c all s k).1 ≤ s.1 + k
  | 0, _ => ⟨h, Nat.le_refl _⟩
  | k + 1, hk => by
    obtain ⟨q1, q2⟩ := buy_rel h hc hnt hb h0 h1 k (by omega)
    refine ⟨buy_step (b := b + k) q1 hc (by omega) (by omega) (by omega) h0 h1, ?_⟩
    show (buyT dy c k all (buyC dy c all s k)).1 ≤ _
    unfold buyT
    split
    · show (buyC dy c all s k).1 + 1 ≤ _
      omega
    · omega
/-- a balance, of both -/
theorem bal_rel {nc nt dy b c n6 : Nat} {I : zIA} {L : zLA} {mo all : Int64} (h6 : n6 = 6) (h : zInv nc nt dy b I L) (hc : c < nc) (hnt : nt ≤ 108) (hb : b ≤ 8000) (h0 : ¬ all < 0) (h1 : ¬ 100000000 < all) : bRel nc dy (b + 12) nt (buyC dy c all (selC dy c all (nt, mo, I, L) n6) n6) (buyS dy c all (selS dy c all (0, nt, mo, I, L) n6) n6) := by
  rw [i64_lt, i64_0] at h0
  have hk : (100000000 : Int64).toInt = 100000000 := rfl
  rw [i64_lt, hk] at h1
  have hs : bRel nc dy b nt (nt, mo, I, L) (0, nt, mo, I, L) := ⟨h, rfl, rfl, rfl, fun _ _ => rfl, Nat.zero_add nt⟩
  obtain ⟨p1, p2⟩ := sel_rel (all := all) hs hc (show nt ≤ 114 by omega) (by omega) (by omega) (by omega) n6 (by omega)
  have p2' : (selC dy c all (nt, mo, I, L) n6).1 ≤ nt + n6 := p2
  obtain ⟨q1, -⟩ := buy_rel (all := all) (b := b + n6) p1 hc (by omega) (by omega) (by omega) (by omega) n6 (by omega)
  have e : b + n6 + n6 = b + 12 := by omega
  rw [← e]
  exact q1
