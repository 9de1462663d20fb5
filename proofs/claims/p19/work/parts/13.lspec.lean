/-! ===== what the law's own methods do, as functions of its rows ===== -/
def cosL (x : Int64) : Int64 := if x < 10000 then x / 100 else if x < 100000 then x / 200 else x / 500
def mvK (L : zLA) (f : Nat) (q : Int64) : Int64 := if 0 < q - L 1 (6 + f) then (q - L 1 (6 + f) + 999) / 1000 else 0
def mv1 (L : zLA) (f : Nat) (k : Int64) : zLA := up2 L 1 f (L 1 f + k)
def mv2 (I : zIA) (L : zLA) (f : Nat) (k : Int64) : zLA := up2 L 1 15 (L 1 15 - k * Int32.toInt64 (I 0 f))
def mv3 (L : zLA) (f : Nat) (k q : Int64) : zLA := up2 L 1 (6 + f) (L 1 (6 + f) + (1000 * k - q))
def mv4 (L : zLA) (c f : Nat) (q : Int64) : zLA := up2 L 2 (6 * c + f) (L 2 (6 * c + f) + q)
def mvL (I : zIA) (L : zLA) (c f : Nat) (q : Int64) : zLA := mv4 (mv3 (mv2 I (mv1 L f (mvK L f q)) f (mvK L f q)) f (mvK L f q) q) c f q
def pyL (q x : Int64) : Int64 := if 0 < q then x + cosL x else cosL x - x
def trI (I : zIA) (nt dy c f : Nat) : zIA := up2 (up2 I 4 nt (nI (c + 4 * f + 32 * dy))) 10 2 (nI (nt + 1))
def tr1 (L : zLA) (nt : Nat) (q x : Int64) : zLA := up2 (up2 L 5 nt q) 6 nt x
def tr2 (L : zLA) (c : Nat) (y : Int64) : zLA := up2 L 1 (12 + c) (L 1 (12 + c) - y)
def tr3 (L : zLA) (y : Int64) : zLA := up2 L 1 15 (L 1 15 + y)
def trL (I : zIA) (L : zLA) (nt dy c f : Nat) (q x : Int64) : zLA := mvL (trI I nt dy c f) (tr3 (tr2 (tr1 L nt q x) c (pyL q x)) (pyL q x)) c f q
def wlL (I : zIA) (L : zLA) (c : Nat) : Nat → Int64
  | 0 => L 1 (12 + c)
  | k + 1 => wlL I L c k + L 2 (6 * c + k) * Int32.toInt64 (I 0 k) / 1000
/-! goes -/
def isG (I : zIA) (c f k : Nat) : Prop := dN (I 4 k) < 524288 ∧ dN (I 4 k) % 4 = c ∧ dN (I 4 k) / 4 % 8 = f
/-- taking from lots: what is left, what it cost, the rows -/
abbrev zGi : Type := Int64 × Int64 × zLA
def giG (s : zGi) (j : Nat) : Int64 := if s.1 < s.2.2 8 j then s.1 else s.2.2 8 j
def giC (s : zGi) (j : Nat) : Int64 := if giG s j = 0 then 0 else if giG s j = s.2.2 8 j then s.2.2 8 (30 + j) else s.2.2 8 (30 + j) * giG s j / s.2.2 8 j
def giL (s : zGi) (j : Nat) : zLA := up2 (up2 s.2.2 8 j (s.2.2 8 j - giG s j)) 8 (30 + j) (up2 s.2.2 8 j (s.2.2 8 j - giG s j) 8 (30 + j) - giC s j)
def giS (L : zLA) (w : Int64) : Nat → zGi
  | 0 => (w, 0, L)
  | j + 1 => if 0 < (giS L w j).1 then ((giS L w j).1 - giG (giS L w j) j, (giS L w j).2.1 + giC (giS L w j) j, giL (giS L w j) j) else giS L w j
theorem giS_p {L : zLA} {w : Int64} {j : Nat} (h : 0 < (giS L w j).1) : giS L w (j + 1) = ((giS L w j).1 - giG (giS L w j) j, (giS L w j).2.1 + giC (giS L w j) j, giL (giS L w j) j) := if_pos h
theorem giS_n {L : zLA} {w : Int64} {j : Nat} (h : ¬ 0 < (giS L w j).1) : giS L w (j + 1) = giS L w j := if_neg h
theorem giS_stay {L : zLA} {w : Int64} {j : Nat} (h : ¬ 0 < (giS L w j).1) : ∀ n, giS L w (j + n) = giS L w j
  | 0 => rfl
  | n + 1 => by
    have ih := giS_stay h n
    rw [show j + (n + 1) = (j + n) + 1 from rfl, giS_n (by rw [ih]; exact h), ih]
theorem giS_stop {L : zLA} {w : Int64} {j n : Nat} (h : ¬ 0 < (giS L w j).1) (hj : j ≤ n) : giS L w n = giS L w j := by
  rw [show n = j + (n - j) by omega]
  exact giS_stay h _
theorem giS_0 {L : zLA} (n : Nat) : giS L 0 n = (0, 0, L) := giS_stop (L := L) (w := 0) (j := 0) (show ¬ (0 : Int64) < 0 by decide) (Nat.zero_le n)
theorem giN {s : zGi} {j : Nat} (h : 0 < s.1) (h2 : ¬ giG s j = s.2.2 8 j) : ¬ s.2.2 8 j = 0 := by
  intro z
  by_cases hc : s.1 < s.2.2 8 j
  · rw [z] at hc
    exact absurd h (Int64.not_lt.mpr (Int64.le_of_lt hc))
  · exact h2 (if_neg hc)
theorem giS_a {L : zLA} {w : Int64} {a : Nat} (ha : a ≠ 8) : ∀ n, (giS L w n).2.2 a = L a
  | 0 => rfl
  | n + 1 => by
    have ih := giS_a (L := L) (w := w) ha n
    by_cases h : 0 < (giS L w n).1
    · rw [giS_p h]
      show up2 (up2 _ 8 n _) 8 (30 + n) _ a = _
      rw [up2_a ha, up2_a ha, ih]
    · rw [giS_n h, ih]
def goQ (L : zLA) (k : Nat) (x y : Int64) : zLA := up2 (up2 L 8 k x) 8 (30 + k) y
def goE (L : zLA) (k y : Nat) (r : zGi) : zLA := up2 r.2.2 9 y (r.2.2 9 y + (L 6 k - cosL (L 6 k) - r.2.1))
/-- one trade: is all well, rows -/
noncomputable def goT (I : zIA) (L : zLA) (c f k : Nat) : Int32 × zLA :=
  @ite _ (isG I c f k) (Classical.propDecidable _)
    (if 0 < L 5 k then (1, goE L k 21 (giS (goQ L k (L 5 k) (L 6 k + cosL (L 6 k))) 0 k))
     else if L 5 k < 0 then (if 0 < (giS (goQ L k 0 0) (-L 5 k) k).1 then (0, (giS (goQ L k 0 0) (-L 5 k) k).2.2) else (1, goE L k (dN (I 4 k) / 32 / 360) (giS (goQ L k 0 0) (-L 5 k) k)))
     else (1, goE L k 21 (giS (goQ L k 0 0) 0 k)))
    (1, goE L k 21 (giS (goQ L k 0 0) 0 k))
noncomputable def goS (I : zIA) (L : zLA) (c f : Nat) : Nat → Int32 × zLA
  | 0 => (1, L)
  | k + 1 => if (goS I L c f k).1 = 0 then goS I L c f k else goT I (goS I L c f k).2 c f k
theorem goS_s {I : zIA} {L : zLA} {c f k : Nat} (h : (goS I L c f k).1 = 1) : goS I L c f (k + 1) = goT I (goS I L c f k).2 c f k := if_neg (by rw [h]; decide)
theorem goS_stay {I : zIA} {L : zLA} {c f k : Nat} (h : (goS I L c f k).1 = 0) : ∀ n, goS I L c f (k + n) = goS I L c f k
  | 0 => rfl
  | n + 1 => by
    have ih := goS_stay h n
    rw [show k + (n + 1) = (k + n) + 1 from rfl]
    exact (if_pos (by rw [ih]; exact h)).trans ih
theorem goS_stop {I : zIA} {L : zLA} {c f k n : Nat} (h : (goS I L c f k).1 = 0) (hk : k ≤ n) : goS I L c f n = goS I L c f k := by
  rw [show n = k + (n - k) by omega]
  exact goS_stay h _
/-- of the client's and the fund's own: bought -/
theorem goT_b {I : zIA} {L : zLA} {c f k : Nat} (hg : isG I c f k) (hm : 0 < L 5 k) : goT I L c f k = (1, goE L k 21 (0, 0, goQ L k (L 5 k) (L 6 k + cosL (L 6 k)))) := by
  unfold goT
  rw [if_pos hg, if_pos hm, giS_0]
/-- sold -/
theorem goT_s {I : zIA} {L : zLA} {c f k : Nat} (hg : isG I c f k) (hm : L 5 k < 0) : goT I L c f k = (if 0 < (giS (goQ L k 0 0) (-L 5 k) k).1 then (0, (giS (goQ L k 0 0) (-L 5 k) k).2.2) else (1, goE L k (dN (I 4 k) / 32 / 360) (giS (goQ L k 0 0) (-L 5 k) k))) := by
  unfold goT
  rw [if_pos hg, if_neg (Int64.not_lt.mpr (Int64.le_of_lt hm)), if_pos hm]
theorem goT_z {I : zIA} {L : zLA} {c f k : Nat} (hg : isG I c f k) (hm : ¬ 0 < L 5 k) (hm2 : ¬ L 5 k < 0) : goT I L c f k = (1, goE L k 21 (0, 0, goQ L k 0 0)) := by
  unfold goT
  rw [if_pos hg, if_neg hm, if_neg hm2, giS_0]
theorem goT_n {I : zIA} {L : zLA} {c f k : Nat} (hg : ¬ isG I c f k) : goT I L c f k = (1, goE L k 21 (0, 0, goQ L k 0 0)) := by
  unfold goT
  rw [if_neg hg, giS_0]
theorem goT_a {I : zIA} {L : zLA} {c f k a : Nat} (h8 : a ≠ 8) (h9 : a ≠ 9) : (goT I L c f k).2 a = L a := by
  have hE : ∀ y r, (goE L k y r) a = r.2.2 a := fun y r => up2_a h9
  have hQ : ∀ x y, goQ L k x y a = L a := fun x y => by unfold goQ; rw [up2_a h8, up2_a h8]
  by_cases hg : isG I c f k
  · by_cases hm : 0 < L 5 k
    · rw [goT_b hg hm]; exact (hE _ _).trans (hQ _ _)
    · by_cases hm2 : L 5 k < 0
      · rw [goT_s hg hm2]
        split
        · exact (congrFun rfl _).trans ((giS_a h8 k).trans (hQ _ _))
        · exact (hE _ _).trans ((giS_a h8 k).trans (hQ _ _))
      · rw [goT_z hg hm hm2]; exact (hE _ _).trans (hQ _ _)
  · rw [goT_n hg]; exact (hE _ _).trans (hQ _ _)
theorem goS_a {I : zIA} {L : zLA} {c f a : Nat} (h8 : a ≠ 8) (h9 : a ≠ 9) : ∀ k, (goS I L c f k).2 a = L a
  | 0 => rfl
  | k + 1 => by
    have ih := goS_a (I := I) (L := L) (c := c) (f := f) h8 h9 k
    show (if (goS I L c f k).1 = 0 then goS I L c f k else goT I (goS I L c f k).2 c f k).2 a = _
    split
    · exact ih
    · rw [goT_a h8 h9, ih]
theorem goT_01 {I : zIA} {L : zLA} {c f k : Nat} : (goT I L c f k).1 = 0 ∨ (goT I L c f k).1 = 1 := by
  by_cases hg : isG I c f k
  · by_cases hm : 0 < L 5 k
    · rw [goT_b hg hm]; exact Or.inr rfl
    · by_cases hm2 : L 5 k < 0
      · rw [goT_s hg hm2]
        split
        · exact Or.inl rfl
        · exact Or.inr rfl
      · rw [goT_z hg hm hm2]; exact Or.inr rfl
  · rw [goT_n hg]; exact Or.inr rfl
theorem goS_01 {I : zIA} {L : zLA} {c f : Nat} : ∀ k, (goS I L c f k).1 = 0 ∨ (goS I L c f k).1 = 1
  | 0 => Or.inr rfl
  | k + 1 => by
    show (if (goS I L c f k).1 = 0 then goS I L c f k else goT I (goS I L c f k).2 c f k).1 = 0 ∨ (if (goS I L c f k).1 = 0 then goS I L c f k else goT I (goS I L c f k).2 c f k).1 = 1
    split
    · exact goS_01 k
    · exact goT_01
/-! taxes -/
def zeS (L : zLA) : Nat → zLA
  | 0 => L
  | k + 1 => up2 (zeS L k) 9 k 0
noncomputable def txF (I : zIA) (L : zLA) (c f nt : Nat) : zLA := up2 (goS I L c f nt).2 9 63 ((goS I L c f nt).2 9 63 + (if (goS I L c f nt).1 = 0 then 1 else 0))
noncomputable def txS (I : zIA) (L : zLA) (c nt : Nat) : Nat → zLA
  | 0 => L
  | f + 1 => txF I (txS I L c nt f) c f nt
def tbS (L : zLA) : Nat → Int64 × zLA
  | 0 => (0, L)
  | k + 1 => (if (tbS L k).2 9 k + (tbS L k).1 < 0 then (tbS L k).2 9 k + (tbS L k).1 else 0, up2 (tbS L k).2 9 (22 + k) (if (tbS L k).2 9 k + (tbS L k).1 < 0 then 0 else (tbS L k).2 9 k + (tbS L k).1))
noncomputable def taxL (I : zIA) (L : zLA) (c nt : Nat) : zLA := (tbS (txS I (zeS L 64) c nt 6) 21).2
theorem taxL_v {I : zIA} {L : zLA} {c nt n6 n21 n64 : Nat} (h6 : n6 = 6) (h21 : n21 = 21) (h64 : n64 = 64) : taxL I L c nt = (tbS (txS I (zeS L n64) c nt n6) n21).2 := by
  subst h6
  subst h21
  subst h64
  rfl
theorem zeS_a {L : zLA} {a : Nat} (h : a ≠ 9) : ∀ k, zeS L k a = L a
  | 0 => rfl
  | k + 1 => (up2_a h).trans (zeS_a h k)
theorem txS_a {I : zIA} {L : zLA} {c nt a : Nat} (h8 : a ≠ 8) (h9 : a ≠ 9) : ∀ f, txS I L c nt f a = L a
  | 0 => rfl
  | f + 1 => (up2_a h9).trans ((goS_a h8 h9 nt).trans (txS_a h8 h9 f))
theorem tbS_a {L : zLA} {a : Nat} (h9 : a ≠ 9) : ∀ k, (tbS L k).2 a = L a
  | 0 => rfl
  | k + 1 => (up2_a h9).trans (tbS_a h9 k)
theorem taxL_a {I : zIA} {L : zLA} {c nt a : Nat} (h8 : a ≠ 8) (h9 : a ≠ 9) : taxL I L c nt a = L a := (tbS_a h9 21).trans ((txS_a h8 h9 6).trans (zeS_a h9 64))
/-! balances -/
abbrev zB : Type := Nat × zIA × zLA
def apL (I : zIA) (L : zLA) (c : Nat) (all : Int64) (f : Nat) : Int64 := L 2 (6 * c + f) * Int32.toInt64 (I 0 f) / 1000 - all * Int32.toInt64 (I 3 (6 * c + f)) / 100
def sqL (I : zIA) (L : zLA) (c : Nat) (all : Int64) (f : Nat) : Int64 := apL I L c all f * 1000 / Int32.toInt64 (I 0 f)
def sxL (I : zIA) (L : zLA) (c : Nat) (all : Int64) (f : Nat) : Int64 := sqL I L c all f * Int32.toInt64 (I 0 f) / 1000
def bxL (I : zIA) (L : zLA) (c : Nat) (all : Int64) (f : Nat) : Int64 := if -apL I L c all f < L 1 (12 + c) - L 1 (12 + c) / 100 then -apL I L c all f else L 1 (12 + c) - L 1 (12 + c) / 100
def bqL (I : zIA) (L : zLA) (c : Nat) (all : Int64) (f : Nat) : Int64 := if 0 < bxL I L c all f then bxL I L c all f * 1000 / Int32.toInt64 (I 0 f) else 0
def trT (dy c f : Nat) (q x : Int64) (s : zB) : zB := (s.1 + 1, trI s.2.1 s.1 dy c f, trL s.2.1 s.2.2 s.1 dy c f q x)
def baT (dy c : Nat) (all : Int64) (k : Nat) (s : zB) : zB :=
  if k < 6 then (if 0 < apL s.2.1 s.2.2 c all (k % 6) ∧ 0 < sxL s.2.1 s.2.2 c all (k % 6) then trT dy c (k % 6) (-sqL s.2.1 s.2.2 c all (k % 6)) (sxL s.2.1 s.2.2 c all (k % 6)) s else s)
  else (if apL s.2.1 s.2.2 c all (k % 6) < 0 ∧ 0 < bqL s.2.1 s.2.2 c all (k % 6) then trT dy c (k % 6) (bqL s.2.1 s.2.2 c all (k % 6)) (bxL s.2.1 s.2.2 c all (k % 6)) s else s)
def baS (dy c : Nat) (all : Int64) (s : zB) : Nat → zB
  | 0 => s
  | k + 1 => baT dy c all k (baS dy c all s k)
theorem baT_sp {dy c k : Nat} {all : Int64} {s : zB} (hk : k < 6) (h1 : 0 < apL s.2.1 s.2.2 c all (k % 6)) (h2 : 0 < sxL s.2.1 s.2.2 c all (k % 6)) : baT dy c all k s = trT dy c (k % 6) (-sqL s.2.1 s.2.2 c all (k % 6)) (sxL s.2.1 s.2.2 c all (k % 6)) s := (if_pos hk).trans (if_pos ⟨h1, h2⟩)
theorem baT_s1 {dy c k : Nat} {all : Int64} {s : zB} (hk : k < 6) (h1 : ¬ 0 < apL s.2.1 s.2.2 c all (k % 6)) : baT dy c all k s = s := (if_pos hk).trans (if_neg (fun z => h1 z.1))
theorem baT_s2 {dy c k : Nat} {all : Int64} {s : zB} (hk : k < 6) (h1 : ¬ 0 < sxL s.2.1 s.2.2 c all (k % 6)) : baT dy c all k s = s := (if_pos hk).trans (if_neg (fun z => h1 z.2))
theorem baT_bp {dy c k : Nat} {all : Int64} {s : zB} (hk : ¬ k < 6) (h1 : apL s.2.1 s.2.2 c all (k % 6) < 0) (h2 : 0 < bqL s.2.1 s.2.2 c all (k % 6)) : baT dy c all k s = trT dy c (k % 6) (bqL s.2.1 s.2.2 c all (k % 6)) (bxL s.2.1 s.2.2 c all (k % 6)) s := (if_neg hk).trans (if_pos ⟨h1, h2⟩)
theorem baT_b1 {dy c k : Nat} {all : Int64} {s : zB} (hk : ¬ k < 6) (h1 : ¬ apL s.2.1 s.2.2 c all (k % 6) < 0) : baT dy c all k s = s := (if_neg hk).trans (if_neg (fun z => h1 z.1))
theorem baT_b2 {dy c k : Nat} {all : Int64} {s : zB} (hk : ¬ k < 6) (h1 : ¬ 0 < bqL s.2.1 s.2.2 c all (k % 6)) : baT dy c all k s = s := (if_neg hk).trans (if_neg (fun z => h1 z.2))
theorem trI_a {I : zIA} {nt dy c f a : Nat} (h4 : a ≠ 4) (h10 : a ≠ 10) : trI I nt dy c f a = I a := by
  unfold trI
  rw [up2_a h10, up2_a h4]
theorem trI_nt {I : zIA} {nt dy c f : Nat} : trI I nt dy c f 10 2 = nI (nt + 1) := up2_s _ _ _ _
theorem trI_10 {I : zIA} {nt dy c f i : Nat} (h : i ≠ 2) : trI I nt dy c f 10 i = I 10 i := by
  unfold trI
  rw [up2_i h, up2_ne (by decide)]
/-- what a balance keeps -/
def baOK (nt dy k : Nat) (I : zIA) (s : zB) : Prop := s.1 ≤ nt + k ∧ nt ≤ s.1 ∧ s.2.1 10 2 = nI s.1 ∧ s.2.1 10 0 = nI dy ∧ s.2.1 0 = I 0 ∧ s.2.1 3 = I 3
theorem trT_ok {nt dy k c f : Nat} {I : zIA} {s : zB} {q x : Int64} (h : baOK nt dy k I s) : baOK nt dy (k + 1) I (trT dy c f q x s) := by
  obtain ⟨h1, h2, h3, h4, h5, h6⟩ := h
  refine ⟨by show s.1 + 1 ≤ _; omega, by show nt ≤ s.1 + 1; omega, trI_nt (I := s.2.1) (dy := dy) (c := c) (f := f), ?_, ?_, ?_⟩
  · show trI s.2.1 s.1 dy c f 10 0 = _
    rw [trI_10 (by decide)]
    exact h4
  · show trI s.2.1 s.1 dy c f 0 = _
    rw [trI_a (by decide) (by decide)]
    exact h5
  · show trI s.2.1 s.1 dy c f 3 = _
    rw [trI_a (by decide) (by decide)]
    exact h6
theorem baT_ok {nt dy k c j : Nat} {all : Int64} {I : zIA} {s : zB} (h : baOK nt dy k I s) : baOK nt dy (k + 1) I (baT dy c all j s) := by
  have h' : baOK nt dy (k + 1) I s := ⟨by have := h.1; omega, h.2⟩
  unfold baT
  split
  · split
    · exact trT_ok h
    · exact h'
  · split
    · exact trT_ok h
    · exact h'
theorem baS_ok {nt dy c : Nat} {all : Int64} {I : zIA} {s : zB} (h : baOK nt dy 0 I s) : ∀ k, baOK nt dy k I (baS dy c all s k)
  | 0 => h
  | k + 1 => baT_ok (baS_ok h k)
def isV (I : zIA) (c f k : Nat) : Int32 := if dN (I 4 k) < 524288 ∧ dN (I 4 k) % 4 = c ∧ dN (I 4 k) / 4 % 8 = f then 1 else 0
theorem giQ_a {L : zLA} {k a n : Nat} {x y w : Int64} (h : a ≠ 8) : (giS (goQ L k x y) w n).2.2 a = L a := by
  rw [giS_a h]
  unfold goQ
  rw [up2_a h, up2_a h]
