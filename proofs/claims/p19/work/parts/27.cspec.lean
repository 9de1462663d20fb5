/-! ===== what the class's methods do, as functions ===== -/
def hunT (I : zIA) (c : Nat) : Nat → Int32
  | 0 => 0
  | k + 1 => hunT I c k + I 7 (6 * c + k)
def tuL (L : zLA) (f : Nat) (u : Int64) : zLA := up2 (up2 L 2 f (L 2 f + u)) 3 f (L 3 f + u * 1000)
def exA (L : zLA) (c f : Nat) (q x : Int64) : zLA := up2 (up2 (up2 L 6 c (L 6 c - x)) 8 (6 * c + f) (L 8 (6 * c + f) + q)) 3 f (L 3 f - q)
def exU (L : zLA) (f : Nat) (q : Int64) : Int64 := (999 - (L 3 f - q)) / 1000
def exL (L : zLA) (c f : Nat) (q x : Int64) : zLA := if L 3 f - q < 0 then tuL (exA L c f q x) f (exU L f q) else exA L c f q x
def exM (I : zIA) (L : zLA) (f : Nat) (q x mo : Int64) : Int64 := if L 3 f - q < 0 then mo + x - exU L f q * Int32.toInt64 (I 1 f) else mo + x
theorem exA_3 {L : zLA} {c f : Nat} {q x : Int64} : exA L c f q x 3 f = L 3 f - q := up2_s _ _ _ _
/-- the base of a year: what is carried, cut -/
def bsS (L : zLA) (c : Nat) : Nat → Int64
  | 0 => 0
  | k + 1 => (if 0 < bsS L c k then 0 else bsS L c k) + L 30 (21 * c + k)
def bsV (L : zLA) (c y : Nat) : Int64 := if 0 < bsS L c (y + 1) then bsS L c (y + 1) else 0
/-- taxes of the years that are over -/
def stS (L : zLA) (c : Nat) : Nat → Int64 × zLA
  | 0 => (0, L)
  | k + 1 => ((stS L c k).1 + ((stS L c k).2 9 (21 * c + k) - bsV (stS L c k).2 c k / 4), up2 (stS L c k).2 9 (21 * c + k) (bsV (stS L c k).2 c k / 4))
def stL (L : zLA) (c n : Nat) : zLA := up2 (stS L c n).2 6 c ((stS L c n).2 6 c + (stS L c n).1)
def payT (L : zLA) (t : Nat) : Int64 := if L 13 t < 0 then L 15 t - L 14 t else L 15 t + L 14 t
def ycV (L : zLA) (c y k : Nat) : Int64 := if k = 0 then L 30 (21 * c + y) else if k = 1 then bsV L c y else if k = 2 then bsV L c y / 4 else L 9 (21 * c + y)
/-- a day's end -/
def edS (I : zIA) (mo : Int64) (L : zLA) : Nat → Int64 × zLA
  | 0 => (mo, L)
  | f + 1 => ((edS I mo L f).1 - -((edS I mo L f).2 3 f / 1000) * Int32.toInt64 (I 1 f), tuL (edS I mo L f).2 f (-((edS I mo L f).2 3 f / 1000)))
def ecS (L : zLA) (n : Nat) : Nat → zLA
  | 0 => L
  | c + 1 => stL (ecS L n c) c n
def edD (nc dy : Nat) (I : zIA) (mo : Int64) (L : zLA) : Int64 × zLA := if (dy + 1) % 360 = 0 then ((edS I mo L 6).1, ecS (edS I mo L 6).2 ((dy + 1) / 360) nc) else edS I mo L 6
theorem edD_p {nc dy n6 : Nat} {I : zIA} {mo : Int64} {L : zLA} (h6 : n6 = 6) (h : nI ((dy + 1) % 360) = 0) : edD nc dy I mo L = ((edS I mo L n6).1, ecS (edS I mo L n6).2 ((dy + 1) / 360) nc) := by
  subst h6
  have h2 : (dy + 1) % 360 = 0 := (nI_eq (by omega) (by decide)).mp h
  exact if_pos h2
theorem edD_n {nc dy n6 : Nat} {I : zIA} {mo : Int64} {L : zLA} (h6 : n6 = 6) (h : ¬ nI ((dy + 1) % 360) = 0) : edD nc dy I mo L = edS I mo L n6 := by
  subst h6
  have h2 : ¬ (dy + 1) % 360 = 0 := fun z => h (by rw [z]; rfl)
  exact if_neg h2
/-- days, money, rows -/
def epN (nc dy : Nat) (I : zIA) (mo : Int64) (L : zLA) : Nat → Nat × Int64 × zLA
  | 0 => (dy, mo, L)
  | k + 1 => ((epN nc dy I mo L k).1 + 1, (edD nc (epN nc dy I mo L k).1 I (epN nc dy I mo L k).2.1 (epN nc dy I mo L k).2.2).1, (edD nc (epN nc dy I mo L k).1 I (epN nc dy I mo L k).2.1 (epN nc dy I mo L k).2.2).2)
theorem epN_dy {nc dy : Nat} {I : zIA} {mo : Int64} {L : zLA} : ∀ k, (epN nc dy I mo L k).1 = dy + k
  | 0 => rfl
  | k + 1 => by
    show (epN nc dy I mo L k).1 + 1 = dy + (k + 1)
    rw [epN_dy k]
    omega
