/-! ===== what is bought, sold and balanced, of the law's books and the picture ===== -/
theorem i64_1e8 : (100000000 : Int64).toInt = 100000000 := by decide
theorem buyC_0 {dy c : Nat} {all : Int64} {s : zT} : buyC dy c all s (6 - 6) = s := rfl
section JB
variable {nc nt dy b : Nat} {mo : Int64} {I Ia : zIA} {L La : zLA}
theorem J_buy {c f : Nat} {its : Int32} (h : zJ nc nt dy b mo I L Ia La) (hc : c < nc) (hf : f < 6) (hnt : nt < 30) (hb : b ≤ 10000) (hz : zR its 1 10000000) (hpos : 0 < partsL I f (Int32.toInt64 its)) :
    zJ nc (nt + 1) dy (b + 1) (mtM I L nt dy c f (partsL I f (Int32.toInt64 its)) (Int32.toInt64 its) mo) (noteI I nt dy c f) (mtL I L nt dy c f (partsL I f (Int32.toInt64 its)) (Int32.toInt64 its)) (trI Ia nt dy c f) (trL Ia La nt dy c f (partsL I f (Int32.toInt64 its)) (Int32.toInt64 its)) := by
  have hI := h.1
  obtain ⟨z1, z2⟩ := hz
  rw [i32_le] at z1 z2
  have z1 : 1 ≤ its.toInt := z1
  have z2 : its.toInt ≤ 10000000 := z2
  have e64 : (Int32.toInt64 its).toInt = its.toInt := i32_64 its
  have hP := hI.2.1 f hf
  have hq : (partsL I f (Int32.toInt64 its)).toInt = its.toInt * 1000 / (I 1 f).toInt := by rw [prt_v hP (by omega) (by omega), e64]
  rw [i64_lt, i64_0] at hpos
  have hq1 : (partsL I f (Int32.toInt64 its)).toInt ≤ 10000000000 := by
    rw [hq]
    have y1 : its.toInt * 1000 ≤ 10000000000 * (I 1 f).toInt := by omega
    have y2 := Int.ediv_le_ediv (show 0 < (I 1 f).toInt by omega) y1
    rw [Int.mul_ediv_cancel _ (by omega)] at y2
    exact y2
  have hq0 : ¬ partsL I f (Int32.toInt64 its) = 0 := fun z => by
    rw [z, i64_0] at hpos
    omega
  have hpa := hI.pa hc hf
  exact J_note h hc hf hnt hb hq0 hq1 (fun _ => cost_v (by omega) (by omega)) (by omega) (by omega) (by omega)
theorem J_sell {c f : Nat} {its : Int32} (h : zJ nc nt dy b mo I L Ia La) (hc : c < nc) (hf : f < 6) (hnt : nt < 30) (hb : b ≤ 10000) (hz : zR its 1 1000000000) (hhas : ¬ L 8 (6 * c + f) < Int32.toInt64 its) :
    zJ nc (nt + 1) dy (b + 1) (mtM I L nt dy c f (Int32.toInt64 (-its)) (amountL I f (Int32.toInt64 its)) mo) (noteI I nt dy c f) (mtL I L nt dy c f (Int32.toInt64 (-its)) (amountL I f (Int32.toInt64 its))) (trI Ia nt dy c f) (trL Ia La nt dy c f (Int32.toInt64 (-its)) (amountL I f (Int32.toInt64 its))) := by
  have hI := h.1
  obtain ⟨z1, z2⟩ := hz
  rw [i32_le] at z1 z2
  have z1 : 1 ≤ its.toInt := z1
  have z2 : its.toInt ≤ 1000000000 := z2
  have e64 : (Int32.toInt64 its).toInt = its.toInt := i32_64 its
  have en : (-its).toInt = -its.toInt := by
    rw [Int32.toInt_neg]
    exact Int.bmod_eq_of_le (by omega) (by omega)
  have en64 : (Int32.toInt64 (-its)).toInt = -its.toInt := by rw [i32_64, en]
  have hP := hI.2.1 f hf
  have hpa := hI.pa hc hf
  rw [i64_lt, e64] at hhas
  obtain ⟨a1, a2, a3⟩ := amt_v (I := I) (f := f) (m := Int32.toInt64 its) hP (by omega) (by omega)
  rw [e64] at a1 a2 a3
  refine J_note h hc hf hnt hb (fun z => ?_) (by omega) (fun z => ?_) (by omega) (by rw [a1]; omega) (by rw [a1]; omega)
  · have := congrArg Int64.toInt z
    rw [en64, i64_0] at this
    omega
  · rw [i64_lt, en64, i64_0] at z
    omega
/-- the books in the midst of a balance: the class's side s, the law's side r -/
def bJ (nc dy b : Nat) (s : zT) (r : zB) : Prop := r.1 = s.1 ∧ zJ nc s.1 dy b s.2.1 s.2.2.1 s.2.2.2 r.2.1 r.2.2
theorem bJ_tr {nc dy b c f : Nat} {s : zT} {r : zB} {q x : Int64} (h : bJ nc dy b s r) (hc : c < nc) (hf : f < 6) (hnt : s.1 < 30) (hb : b ≤ 10000) (hq0 : ¬ q = 0) (hq1 : q.toInt ≤ 10000000000) (hx : 0 < q → 0 ≤ (x + costL x).toInt ∧ (x + costL x).toInt ≤ 200000000) (hp : 0 ≤ (s.2.2.2 8 (6 * c + f)).toInt + q.toInt) (hx0 : 0 ≤ x.toInt) (hx1 : x.toInt ≤ 10000000000000000) : bJ nc dy (b + 1) (mtT dy c f q x s) (trT dy c f q x r) := by
  obtain ⟨s1, s2, s3, s4⟩ := s
  obtain ⟨r1, r2, r3⟩ := r
  obtain ⟨e, hJ⟩ := h
  have e : r1 = s1 := e
  subst e
  exact ⟨rfl, J_note hJ hc hf hnt hb hq0 hq1 hx hp hx0 hx1⟩
theorem apL_eq {nc nt dy b c f : Nat} {all : Int64} (h : zJ nc nt dy b mo I L Ia La) (hc : c < 3) (hf : f < 6) : apL Ia La c all f = valueL I L c f - dueL I all c f := by
  unfold apL valueL dueL amountL
  rw [h.2.2.2.2.2.1.2.2.2 _ (by omega), h.2.2.2.1 f hf, h.2.2.2.2.1 _ (by omega)]
theorem bJ_sel {nc dy b c f : Nat} {s : zT} {r : zB} {all : Int64} (h : bJ nc dy b s r) (hc : c < nc) (hf : f < 6) (hnt : s.1 < 30) (hb : b ≤ 10000) (h0 : 0 ≤ all.toInt) (h1 : all.toInt ≤ 100000000) : bJ nc dy (b + 1) (selT dy c f all s) (if 0 < apL r.2.1 r.2.2 c all f ∧ 0 < sxL r.2.1 r.2.2 c all f then trT dy c f (-sqL r.2.1 r.2.2 c all f) (sxL r.2.1 r.2.2 c all f) r else r) := by
  have hJ := h.2
  have hI := hJ.1
  have hc3 : c < 3 := by have := hJ.2.1.1; omega
  have hpa := hI.pa hc hf
  have hP := hI.2.1 f hf
  have hD := due_v (c := c) (f := f) (hI.2.2.1 _) h0 h1
  obtain ⟨V, hV⟩ : ∃ V, V = valueL s.2.2.1 s.2.2.2 c f := ⟨_, rfl⟩
  obtain ⟨D, hDe⟩ : ∃ D, D = dueL s.2.2.1 all c f := ⟨_, rfl⟩
  obtain ⟨v1, v2, v3⟩ := amt_v (I := s.2.2.1) (f := f) (m := s.2.2.2 8 (6 * c + f)) hP hpa.1 hpa.2
  have hVi : V.toInt = (s.2.2.2 8 (6 * c + f)).toInt * (s.2.2.1 1 f).toInt / 1000 := by rw [hV]; exact v1
  rw [← hDe] at hD
  have hT : tooL s.2.2.1 s.2.2.2 all c f = V - D := by unfold tooL; rw [← hV, ← hDe]
  obtain ⟨M, hM⟩ : ∃ M, M = V - D := ⟨_, rfl⟩
  have hMi : M.toInt = V.toInt - D.toInt := by rw [hM]; exact i64_sub (by omega) (by omega)
  obtain ⟨Q, hQ⟩ : ∃ Q, Q = partsL s.2.2.1 f M := ⟨_, rfl⟩
  obtain ⟨X, hX⟩ : ∃ X, X = amountL s.2.2.1 f Q := ⟨_, rfl⟩
  have hap : apL r.2.1 r.2.2 c all f = M := by rw [apL_eq hJ hc3 hf, ← hV, ← hDe, hM]
  have hsq : sqL r.2.1 r.2.2 c all f = Q := by
    unfold sqL
    rw [hap, hJ.2.2.2.1 f hf, hQ]
    rfl
  have hsx : sxL r.2.1 r.2.2 c all f = X := by
    unfold sxL
    rw [hsq, hJ.2.2.2.1 f hf, hX]
    rfl
  have hmono : bJ nc dy (b + 1) s r := ⟨h.1, hJ.mono (by omega)⟩
  rw [hap, hsq, hsx]
  unfold selT
  rw [hT, ← hM, ← hQ, ← hX]
  by_cases hpos : 0 < M
  · have hM0 : 0 < M.toInt := by rw [i64_lt, i64_0] at hpos; exact hpos
    have hQi : Q.toInt = M.toInt * 1000 / (s.2.2.1 1 f).toInt := by rw [hQ]; exact prt_v hP (by omega) (by omega)
    have hQ0 : 0 ≤ Q.toInt := by rw [hQi]; exact Int.ediv_nonneg (by omega) (by omega)
    have hQp : Q.toInt ≤ (s.2.2.2 8 (6 * c + f)).toInt := by
      rw [hQi]
      have z1 : M.toInt * 1000 ≤ (s.2.2.2 8 (6 * c + f)).toInt * (s.2.2.1 1 f).toInt := by omega
      have z2 := Int.ediv_le_ediv (show 0 < (s.2.2.1 1 f).toInt by omega) z1
      rw [Int.mul_ediv_cancel _ (by omega)] at z2
      exact z2
    obtain ⟨x1, x2, x3⟩ := amt_v (I := s.2.2.1) (f := f) (m := Q) hP hQ0 (by omega)
    rw [← hX] at x1
    have hX0 : 0 ≤ X.toInt := by rw [x1]; omega
    have hcls : tooC s.2.2.1 s.2.2.2 all c f ↔ 0 < X := by
      unfold tooC
      rw [hT, ← hM, ← hQ, ← hX]
      constructor
      · exact fun z => z.2.2
      · intro z
        refine ⟨hpos, ?_, z⟩
        rw [i64_lt, i64_0] at z ⊢
        by_cases hq : Q.toInt = 0
        · rw [hq, Int.zero_mul] at x1
          rw [x1] at z
          omega
        · omega
    by_cases hx : 0 < X
    · rw [if_pos (hcls.mpr hx), if_pos ⟨hpos, hx⟩]
      have hn : (-Q).toInt = -Q.toInt := i64_neg (by omega)
      refine bJ_tr h hc hf hnt hb (fun z => ?_) (by rw [hn]; omega) (fun z => ?_) (by rw [hn]; omega) hX0 (by rw [x1]; omega)
      · have := congrArg Int64.toInt z
        rw [hn, i64_0] at this
        have hq : Q.toInt = 0 := by omega
        rw [hq, Int.zero_mul] at x1
        rw [i64_lt, i64_0, x1] at hx
        omega
      · rw [i64_lt, hn, i64_0] at z
        omega
    · rw [if_neg (fun z => hx (hcls.mp z)), if_neg (fun z => hx z.2)]
      exact hmono
  · have hno : ¬ tooC s.2.2.1 s.2.2.2 all c f := fun z => hpos (by have := z.1; rw [hT, ← hM] at this; exact this)
    rw [if_neg hno, if_neg (fun z => hpos z.1)]
    exact hmono
theorem bJ_buy {nc dy b c f : Nat} {s : zT} {r : zB} {all : Int64} (h : bJ nc dy b s r) (hc : c < nc) (hf : f < 6) (hnt : s.1 < 30) (hb : b ≤ 10000) (h0 : 0 ≤ all.toInt) (h1 : all.toInt ≤ 100000000) : bJ nc dy (b + 1) (buyT dy c f all s) (if apL r.2.1 r.2.2 c all f < 0 ∧ 0 < bqL r.2.1 r.2.2 c all f then trT dy c f (bqL r.2.1 r.2.2 c all f) (bxL r.2.1 r.2.2 c all f) r else r) := by
  have hJ := h.2
  have hI := hJ.1
  have hc3 : c < 3 := by have := hJ.2.1.1; omega
  have hpa := hI.pa hc hf
  have hP := hI.2.1 f hf
  have hD := due_v (c := c) (f := f) (hI.2.2.1 _) h0 h1
  obtain ⟨V, hV⟩ : ∃ V, V = valueL s.2.2.1 s.2.2.2 c f := ⟨_, rfl⟩
  obtain ⟨D, hDe⟩ : ∃ D, D = dueL s.2.2.1 all c f := ⟨_, rfl⟩
  obtain ⟨v1, v2, v3⟩ := amt_v (I := s.2.2.1) (f := f) (m := s.2.2.2 8 (6 * c + f)) hP hpa.1 hpa.2
  have hVi : V.toInt = (s.2.2.2 8 (6 * c + f)).toInt * (s.2.2.1 1 f).toInt / 1000 := by rw [hV]; exact v1
  rw [← hDe] at hD
  have hT : lacL s.2.2.1 s.2.2.2 all c f = D - V := by unfold lacL; rw [← hV, ← hDe]
  obtain ⟨M, hM⟩ : ∃ M, M = D - V := ⟨_, rfl⟩
  have hMi : M.toInt = D.toInt - V.toInt := by rw [hM]; exact i64_sub (by omega) (by omega)
  obtain ⟨K, hK⟩ : ∃ K, K = s.2.2.2 6 c - s.2.2.2 6 c / 100 := ⟨_, rfl⟩
  obtain ⟨A, hA⟩ : ∃ A, A = lacA s.2.2.1 s.2.2.2 all c f := ⟨_, rfl⟩
  have hA2 : A = if K < M then K else M := by rw [hA]; unfold lacA; rw [hT, ← hM, ← hK]
  have hap : apL r.2.1 r.2.2 c all f = V - D := by rw [apL_eq hJ hc3 hf, ← hV, ← hDe]
  have hneg : -(V - D) = M := by rw [hM]; grind
  have hlt : apL r.2.1 r.2.2 c all f < 0 ↔ 0 < M := by
    rw [hap, i64_lt, i64_lt, i64_0, hMi, i64_sub (by omega) (by omega)]
    omega
  have hbx : bxL r.2.1 r.2.2 c all f = A := by
    unfold bxL
    rw [hap, hneg, hJ.2.2.2.2.2.1.2.1 c hc3, ← hK, hA2]
    by_cases z1 : M < K
    · rw [if_pos z1, if_neg]
      rw [i64_lt] at z1 ⊢
      omega
    · rw [if_neg z1]
      by_cases z2 : K < M
      · rw [if_pos z2]
      · rw [if_neg z2]
        apply Int64.toInt_inj.mp
        rw [i64_lt] at z1 z2
        omega
  have hAM : A.toInt ≤ M.toInt := by
    rw [hA2]
    split
    · rename_i z; rw [i64_lt] at z; omega
    · exact Int.le_refl _
  obtain ⟨Q, hQ⟩ : ∃ Q, Q = partsL s.2.2.1 f A := ⟨_, rfl⟩
  have hbq : bqL r.2.1 r.2.2 c all f = if 0 < A then Q else 0 := by
    unfold bqL
    rw [hbx, hJ.2.2.2.1 f hf, hQ]
    rfl
  have hmono : bJ nc dy (b + 1) s r := ⟨h.1, hJ.mono (by omega)⟩
  rw [hbq, hbx]
  unfold buyT
  rw [← hA, ← hQ]
  by_cases hpos : 0 < A
  · rw [if_pos hpos]
    have hA0 : 0 < A.toInt := by rw [i64_lt, i64_0] at hpos; exact hpos
    have hQi : Q.toInt = A.toInt * 1000 / (s.2.2.1 1 f).toInt := by rw [hQ]; exact prt_v hP (by omega) (by omega)
    have hQ0 : 0 ≤ Q.toInt := by rw [hQi]; exact Int.ediv_nonneg (by omega) (by omega)
    have hQ1 : Q.toInt ≤ 10000000000 := by
      rw [hQi]
      have z1 : A.toInt * 1000 ≤ 10000000000 * (s.2.2.1 1 f).toInt := by omega
      have z2 := Int.ediv_le_ediv (show 0 < (s.2.2.1 1 f).toInt by omega) z1
      rw [Int.mul_ediv_cancel _ (by omega)] at z2
      exact z2
    have hM0 : 0 < M := by rw [i64_lt, i64_0]; omega
    have hcls : lacC s.2.2.1 s.2.2.2 all c f ↔ 0 < Q := by
      unfold lacC
      rw [hT, ← hM, ← hA, ← hQ]
      exact ⟨fun z => z.2.1, fun z => ⟨hM0, z, hpos⟩⟩
    by_cases hq : 0 < Q
    · rw [if_pos (hcls.mpr hq), if_pos ⟨hlt.mpr hM0, hq⟩]
      refine bJ_tr h hc hf hnt hb (fun z => ?_) hQ1 (fun _ => cost_v (by omega) (by omega)) (by omega) (by omega) (by omega)
      rw [z] at hq
      exact absurd hq (by decide)
    · rw [if_neg (fun z => hq (hcls.mp z)), if_neg (fun z => hq z.2)]
      exact hmono
  · rw [if_neg hpos, if_neg (fun z => hpos (by have := z.2.2; rw [← hA] at this; exact this)), if_neg (fun z => absurd z.2 (by decide))]
    exact hmono
theorem J_bal {c : Nat} {all : Int64} (h : zJ nc nt dy b mo I L Ia La) (hc : c < nc) (hnt : nt < 18) (hb : b ≤ 8000) (h0 : ¬ all < 0) (h1 : ¬ 100000000 < all) : ∀ k, k ≤ 12 → bJ nc dy (b + k) (if k ≤ 6 then selC dy c all (nt, mo, I, L) k else buyC dy c all (selC dy c all (nt, mo, I, L) 6) (k - 6)) (baS dy c all (nt, Ia, La) k) ∧ (baS dy c all (nt, Ia, La) k).1 ≤ nt + k := by
  intro k
  induction k with
  | zero => exact fun _ => ⟨⟨rfl, h⟩, Nat.le_refl _⟩
  | succ k ihk =>
    intro hk
    obtain ⟨ih, il⟩ := ihk (by omega)
    have h0' := h0
    have h1' := h1
    rw [i64_lt, i64_0] at h0'
    rw [i64_lt, i64_1e8] at h1'
    have hle : (baS dy c all (nt, Ia, La) (k + 1)).1 ≤ nt + (k + 1) := by
      show (baT dy c all k (baS dy c all (nt, Ia, La) k)).1 ≤ _
      unfold baT
      split
      · split
        · show (baS dy c all (nt, Ia, La) k).1 + 1 ≤ _; omega
        · omega
      · split
        · show (baS dy c all (nt, Ia, La) k).1 + 1 ≤ _; omega
        · omega
    refine ⟨?_, hle⟩
    by_cases h6 : k < 6
    · rw [if_pos (by omega)] at ih ⊢
      have hs := ih.1
      have q := bJ_sel (f := k) (all := all) ih hc (by omega) (by omega) (by omega) (by omega) (by omega)
      have e : baS dy c all (nt, Ia, La) (k + 1) = baT dy c all k (baS dy c all (nt, Ia, La) k) := rfl
      rw [e]
      unfold baT
      rw [if_pos h6, Nat.mod_eq_of_lt h6]
      exact q
    · rw [if_neg (by omega)]
      have e6 : (if k ≤ 6 then selC dy c all (nt, mo, I, L) k else buyC dy c all (selC dy c all (nt, mo, I, L) 6) (k - 6)) = buyC dy c all (selC dy c all (nt, mo, I, L) 6) (k - 6) := by
        by_cases e : k = 6
        · subst e
          rw [if_pos (Nat.le_refl 6)]
          exact buyC_0.symm
        · rw [if_neg (by omega)]
      rw [e6] at ih
      have hs := ih.1
      have q := bJ_buy (f := k - 6) (all := all) ih hc (by omega) (by omega) (by omega) (by omega) (by omega)
      have e : baS dy c all (nt, Ia, La) (k + 1) = baT dy c all k (baS dy c all (nt, Ia, La) k) := rfl
      have e2 : buyC dy c all (selC dy c all (nt, mo, I, L) 6) (k + 1 - 6) = buyT dy c (k - 6) all (buyC dy c all (selC dy c all (nt, mo, I, L) 6) (k - 6)) := by
        rw [show k + 1 - 6 = (k - 6) + 1 by omega]
        rfl
      rw [e, e2]
      unfold baT
      rw [if_neg h6, show k % 6 = k - 6 by omega]
      exact q
theorem J_bal12 {c : Nat} {all : Int64} (h : zJ nc nt dy b mo I L Ia La) (hc : c < nc) (hnt : nt < 18) (hb : b ≤ 8000) (h0 : ¬ all < 0) (h1 : ¬ 100000000 < all) : bJ nc dy (b + 12) (buyC dy c all (selC dy c all (nt, mo, I, L) 6) 6) (baS dy c all (nt, Ia, La) 12) := by
  obtain ⟨n, hn⟩ : ∃ n : Nat, n = 12 := ⟨12, rfl⟩
  obtain ⟨n6, hn6⟩ : ∃ n : Nat, n = 6 := ⟨6, rfl⟩
  have q := (J_bal h hc hnt hb h0 h1 n (by omega)).1
  rw [if_neg (by omega), show n - 6 = n6 by omega, hn, hn6] at q
  exact q
end JB
