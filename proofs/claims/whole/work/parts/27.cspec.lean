/-! ===== what the class's methods do, as functions ===== -/
def hunT (I : zIA) (c : Nat) : Nat → Int32
  | 0 => 0
  | k + 1 => hunT I c k + I 7 (6 * c + k)
def tuL (L : zLA) (f : Nat) (u : Int64) : zLA := up2 (up2 L 2 f (L 2 f + u)) 3 f (L 3 f + u * 1000)
def exA (L : zLA) (c f : Nat) (q x : Int64) : zLA := up2 (up2 (up2 L 6 c (L 6 c - x)) 8 (6 * c + f) (L 8 (6 * c + f) + q)) 3 f (L 3 f - q)
def exU (L : zLA) (f : Nat) (q : Int64) : Int64 := (999 - (L 3 f - q)) / 1000
def exL (L : zLA) (c f : Nat) (q x : Int64) : zLA := if L 3 f - q < 0 then tuL (exA L c f q x) f (exU L f q) else exA L c f q x
def exM (I : zIA) (L : zLA) (f : Nat) (q x mo : Int64) : Int64 := if L 3 f - q < 0 then mo + x - exU L f q * Int32.toInt64 (I 1 f) else mo + x
theorem exA_3 {L : zLA} {c f : Nat} {q x : Int64} : exA L c f q x 3 f = L 3 f - q := up2_s _ _ _ _
/-- the base of a year: what is carried, cut -/
def bsS (L : zLA) (c : Nat) : Nat → Int64
  | 0 => 0
  | k + 1 => (if 0 < bsS L c k then 0 else bsS L c k) + L 30 (21 * c + k)
def bsV (L : zLA) (c y : Nat) : Int64 := if 0 < bsS L c (y + 1) then bsS L c (y + 1) else 0
/-- taxes of the years that are over -/
def stS (L : zLA) (c : Nat) : Nat → Int64 × zLA
  | 0 => (0, L)
  | k + 1 => ((stS L c k).1 + ((stS L c k).2 9 (21 * c + k) - bsV (stS L c k).2 c k / 4), up2 (stS L c k).2 9 (21 * c + k) (bsV (stS L c k).2 c k / 4))
def stL (L : zLA) (c n : Nat) : zLA := up2 (stS L c n).2 6 c ((stS L c n).2 6 c + (stS L c n).1)
