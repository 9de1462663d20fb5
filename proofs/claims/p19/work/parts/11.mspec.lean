/-! ===== what the reference's methods do, as functions ===== -/
def dN (x : Int32) : Nat := x.toNatClampNeg
/-- x is a number below n, which is dN x -/
def zD (x : Int32) (n : Nat) : Prop := x = nI (dN x) ∧ dN x < n
theorem zi_div {x y : Int32} {a b : Nat} (hx : x = nI a) (hy : y = nI b) (ha : a < 2 ^ 31) (h0 : 0 < b) (hb : b < 2 ^ 31) : x / y = nI (a / b) := by rw [hx, hy, pk_div ha h0 hb]
theorem up2_back {f : zIA} {a i : Nat} {v w : Int32} (h : f a i = w) : up2 (up2 f a i v) a i w = f := by
  funext x y
  by_cases hx : x = a ∧ y = i
  · obtain ⟨rfl, rfl⟩ := hx
    rw [up2_s, h]
  · show (if _ then _ else (if _ then _ else _)) = _
    rw [if_neg hx, if_neg hx]
/-- the goals together, with one changed -/
def sumG (I : zIA) (c f : Nat) (its : Int32) : Nat → Int32
  | 0 => its
  | k + 1 => sumG I c f its k + (if k = f then 0 else I 7 (6 * c + k))
theorem sumG_p {I : zIA} {c f : Nat} {its : Int32} {k : Nat} (h : k = f) : sumG I c f its (k + 1) = sumG I c f its k + 0 := by
  show sumG I c f its k + _ = _
  rw [if_pos h]
theorem sumG_n {I : zIA} {c f : Nat} {its : Int32} {k : Nat} (h : ¬ k = f) : sumG I c f its (k + 1) = sumG I c f its k + I 7 (6 * c + k) := by
  show sumG I c f its k + _ = _
  rw [if_neg h]
/-- count of trades made, trades, money, rows -/
abbrev zS : Type := Nat × Nat × Int64 × zIA × zLA
def noteS (dy c f : Nat) (many its : Int64) (s : zS) : zS := (s.1 + 1, s.2.1 + 1, noteM s.2.2.2.1 s.2.2.2.2 f many its s.2.2.1, noteI s.2.2.2.1 s.2.1 dy c f, noteL s.2.2.2.2 s.2.1 c f many its)
def sellMany (I : zIA) (L : zLA) (c f : Nat) (due : Int64) : Int64 := if 0 < valueL I L c f - due then partsL I f (valueL I L c f - due) else 0
def sellNo (I : zIA) (L : zLA) (c f : Nat) (due : Int64) : Prop := sellMany I L c f due = 0 ∨ amountL I f (sellMany I L c f due) = 0
def buyIts (I : zIA) (L : zLA) (c f : Nat) (due : Int64) : Int64 := if due - valueL I L c f < L 6 c - L 6 c / 100 then due - valueL I L c f else L 6 c - L 6 c / 100
def buyNo (I : zIA) (L : zLA) (c f : Nat) (due : Int64) : Prop := ¬ 0 < buyIts I L c f due ∨ partsL I f (buyIts I L c f due) = 0
def dueL (I : zIA) (all : Int64) (c f : Nat) : Int64 := all * Int32.toInt64 (I 7 (6 * c + f)) / 100
def sellsS (dy c f : Nat) (due : Int64) (s : zS) : zS := if sellMany s.2.2.2.1 s.2.2.2.2 c f due = 0 ∨ amountL s.2.2.2.1 f (sellMany s.2.2.2.1 s.2.2.2.2 c f due) = 0 then s else noteS dy c f (-sellMany s.2.2.2.1 s.2.2.2.2 c f due) (amountL s.2.2.2.1 f (sellMany s.2.2.2.1 s.2.2.2.2 c f due)) s
def buysS (dy c f : Nat) (due : Int64) (s : zS) : zS := if ¬ 0 < buyIts s.2.2.2.1 s.2.2.2.2 c f due ∨ partsL s.2.2.2.1 f (buyIts s.2.2.2.1 s.2.2.2.2 c f due) = 0 then s else noteS dy c f (partsL s.2.2.2.1 f (buyIts s.2.2.2.1 s.2.2.2.2 c f due)) (buyIts s.2.2.2.1 s.2.2.2.2 c f due) s
def selS (dy c : Nat) (all : Int64) (s : zS) : Nat → zS
  | 0 => s
  | k + 1 => sellsS dy c k (dueL (selS dy c all s k).2.2.2.1 all c k) (selS dy c all s k)
def buyS (dy c : Nat) (all : Int64) (s : zS) : Nat → zS
  | 0 => s
  | k + 1 => buysS dy c k (dueL (buyS dy c all s k).2.2.2.1 all c k) (buyS dy c all s k)
theorem selS_p {dy c : Nat} {all : Int64} {s : zS} {k : Nat} (h : sellNo (selS dy c all s k).2.2.2.1 (selS dy c all s k).2.2.2.2 c k (dueL (selS dy c all s k).2.2.2.1 all c k)) : selS dy c all s (k + 1) = selS dy c all s k := if_pos h
theorem selS_n {dy c : Nat} {all : Int64} {s : zS} {k : Nat} (h : ¬ sellNo (selS dy c all s k).2.2.2.1 (selS dy c all s k).2.2.2.2 c k (dueL (selS dy c all s k).2.2.2.1 all c k)) : selS dy c all s (k + 1) = noteS dy c k (-sellMany (selS dy c all s k).2.2.2.1 (selS dy c all s k).2.2.2.2 c k (dueL (selS dy c all s k).2.2.2.1 all c k)) (amountL (selS dy c all s k).2.2.2.1 k (sellMany (selS dy c all s k).2.2.2.1 (selS dy c all s k).2.2.2.2 c k (dueL (selS dy c all s k).2.2.2.1 all c k))) (selS dy c all s k) := if_neg h
theorem buyS_p {dy c : Nat} {all : Int64} {s : zS} {k : Nat} (h : buyNo (buyS dy c all s k).2.2.2.1 (buyS dy c all s k).2.2.2.2 c k (dueL (buyS dy c all s k).2.2.2.1 all c k)) : buyS dy c all s (k + 1) = buyS dy c all s k := if_pos h
theorem buyS_n {dy c : Nat} {all : Int64} {s : zS} {k : Nat} (h : ¬ buyNo (buyS dy c all s k).2.2.2.1 (buyS dy c all s k).2.2.2.2 c k (dueL (buyS dy c all s k).2.2.2.1 all c k)) : buyS dy c all s (k + 1) = noteS dy c k (partsL (buyS dy c all s k).2.2.2.1 k (buyIts (buyS dy c all s k).2.2.2.1 (buyS dy c all s k).2.2.2.2 c k (dueL (buyS dy c all s k).2.2.2.1 all c k))) (buyIts (buyS dy c all s k).2.2.2.1 (buyS dy c all s k).2.2.2.2 c k (dueL (buyS dy c all s k).2.2.2.1 all c k)) (buyS dy c all s k) := if_neg h
theorem selS_nt {dy c : Nat} {all : Int64} {s : zS} : ∀ k, (selS dy c all s k).2.1 ≤ s.2.1 + k
  | 0 => Nat.le_refl _
  | k + 1 => by
    have ih := selS_nt (dy := dy) (c := c) (all := all) (s := s) k
    show (sellsS _ _ _ _ _).2.1 ≤ _
    unfold sellsS
    split
    · omega
    · show (selS dy c all s k).2.1 + 1 ≤ _
      omega
theorem buyS_nt {dy c : Nat} {all : Int64} {s : zS} : ∀ k, (buyS dy c all s k).2.1 ≤ s.2.1 + k
  | 0 => Nat.le_refl _
  | k + 1 => by
    have ih := buyS_nt (dy := dy) (c := c) (all := all) (s := s) k
    show (buysS _ _ _ _ _).2.1 ≤ _
    unfold buysS
    split
    · omega
    · show (buyS dy c all s k).2.1 + 1 ≤ _
      omega
theorem noteI_1 (I : zIA) (nt dy c f : Nat) : noteI I nt dy c f 1 = I 1 := by
  unfold noteI
  rw [up2_a (by decide), up2_a (by decide), up2_a (by decide), up2_a (by decide)]
theorem noteI_7 (I : zIA) (nt dy c f : Nat) : noteI I nt dy c f 7 = I 7 := by
  unfold noteI
  rw [up2_a (by decide), up2_a (by decide), up2_a (by decide), up2_a (by decide)]
theorem noteS_1 {dy c f : Nat} {many its : Int64} {s : zS} : (noteS dy c f many its s).2.2.2.1 1 = s.2.2.2.1 1 := noteI_1 s.2.2.2.1 s.2.1 dy c f
theorem selS_1 {dy c : Nat} {all : Int64} {s : zS} : ∀ k, (selS dy c all s k).2.2.2.1 1 = s.2.2.2.1 1
  | 0 => rfl
  | k + 1 => by
    have ih := selS_1 (dy := dy) (c := c) (all := all) (s := s) k
    show (sellsS _ _ _ _ _).2.2.2.1 1 = _
    unfold sellsS
    split
    · exact ih
    · rw [noteS_1]; exact ih
theorem buyS_1 {dy c : Nat} {all : Int64} {s : zS} : ∀ k, (buyS dy c all s k).2.2.2.1 1 = s.2.2.2.1 1
  | 0 => rfl
  | k + 1 => by
    have ih := buyS_1 (dy := dy) (c := c) (all := all) (s := s) k
    show (buysS _ _ _ _ _).2.2.2.1 1 = _
    unfold buysS
    split
    · exact ih
    · rw [noteS_1]; exact ih
/-- a share, bit by bit -/
def shK (i : Nat) : Int32 := nI 50 - nI i
theorem shK_s (i : Nat) : shK i + (-1) = shK (i + 1) := by
  unfold shK
  rw [nI_succ i, Int32.sub_eq_add_neg (nI 50), Int32.sub_eq_add_neg (nI 50), Int32.neg_add, Int32.add_assoc, Int32.sub_eq_add_neg (-nI i)]
theorem shK_nn {i : Nat} (h : i < 51) : ¬ shK i < 0 := by
  unfold shK
  rw [pk_sub (by omega)]
  exact nI_pos (by omega)
def shR (its part : Int64) (i : Nat) (rest : Int64) : Int64 := 2 * rest + (its >>> ((Int32.toInt64 (shK i)) &&& 63) &&& 1) * part
def shF (its part whole : Int64) : Nat → Int64 × Int64
  | 0 => (0, 0)
  | i + 1 => (2 * (shF its part whole i).1 + shR its part i (shF its part whole i).2 / whole, shR its part i (shF its part whole i).2 - shR its part i (shF its part whole i).2 / whole * whole)
def shareV (its part whole : Int64) : Int64 := (shF its part whole 51).1
/-- taking parts from lots: cost, what is left, rows -/
def tkG (left p : Int64) : Int64 := if left < p then left else p
def tkI (L : zLA) (k : Nat) (goes : Int64) : Int64 := if goes = L 20 k then L 21 k else shareV (L 21 k) goes (L 20 k)
def tkL (L : zLA) (k : Nat) (goes its : Int64) : zLA := up2 (up2 L 21 k (L 21 k - its)) 20 k (up2 L 21 k (L 21 k - its) 20 k - goes)
def tkS (L : zLA) (many : Int64) : Nat → Int64 × Int64 × zLA
  | 0 => (0, many, L)
  | k + 1 => if 0 < tkG (tkS L many k).2.1 ((tkS L many k).2.2 20 k) then ((tkS L many k).1 + tkI (tkS L many k).2.2 k (tkG (tkS L many k).2.1 ((tkS L many k).2.2 20 k)), (tkS L many k).2.1 - tkG (tkS L many k).2.1 ((tkS L many k).2.2 20 k), tkL (tkS L many k).2.2 k (tkG (tkS L many k).2.1 ((tkS L many k).2.2 20 k)) (tkI (tkS L many k).2.2 k (tkG (tkS L many k).2.1 ((tkS L many k).2.2 20 k)))) else tkS L many k
theorem tkS_n {L : zLA} {many g : Int64} {k : Nat} (hg : tkG (tkS L many k).2.1 ((tkS L many k).2.2 20 k) = g) (h : ¬ 0 < g) : tkS L many (k + 1) = tkS L many k := by
  subst hg
  exact if_neg h
theorem tkS_p {L : zLA} {many g its : Int64} {k : Nat} (hg : tkG (tkS L many k).2.1 ((tkS L many k).2.2 20 k) = g) (h : 0 < g) (hi : tkI (tkS L many k).2.2 k g = its) : tkS L many (k + 1) = ((tkS L many k).1 + its, (tkS L many k).2.1 - g, tkL (tkS L many k).2.2 k g its) := by
  subst hg
  subst hi
  exact if_pos h
/-- finding the lots of a client and a fund: lots, rows -/
abbrev zF : Type := Nat × zIA × zLA
def fdT (s : zF) (c f t : Nat) : Prop := ¬ s.2.1 17 t = 0 ∧ s.2.1 11 t = nI c ∧ s.2.1 12 t = nI f
def fdB (s : zF) (t : Nat) : zF := (s.1 + 1, up2 s.2.1 19 s.1 (nI t), up2 (up2 s.2.2 20 s.1 (s.2.2 13 t)) 21 s.1 (up2 s.2.2 20 s.1 (s.2.2 13 t) 14 t + up2 s.2.2 20 s.1 (s.2.2 13 t) 15 t))
def fdG (s : zF) (t : Nat) : zF := (s.1, s.2.1, up2 (tkS s.2.2 (-s.2.2 13 t) s.1).2.2 22 (dN (s.2.1 16 t) / 360) (s.2.2 22 (dN (s.2.1 16 t) / 360) + (s.2.2 14 t - s.2.2 15 t - (tkS s.2.2 (-s.2.2 13 t) s.1).1)))
def fdS (I : zIA) (L : zLA) (c f : Nat) : Nat → zF
  | 0 => (0, I, L)
  | t + 1 => if ¬ (fdS I L c f t).2.1 17 t = 0 ∧ (fdS I L c f t).2.1 11 t = nI c ∧ (fdS I L c f t).2.1 12 t = nI f then (if 0 < (fdS I L c f t).2.2 13 t then fdB (fdS I L c f t) t else fdG (fdS I L c f t) t) else fdS I L c f t
theorem fdS_n {I : zIA} {L : zLA} {c f t : Nat} (h : ¬ fdT (fdS I L c f t) c f t) : fdS I L c f (t + 1) = fdS I L c f t := if_neg h
theorem fdS_b {I : zIA} {L : zLA} {c f t : Nat} (h : fdT (fdS I L c f t) c f t) (h2 : 0 < (fdS I L c f t).2.2 13 t) : fdS I L c f (t + 1) = fdB (fdS I L c f t) t := (if_pos h).trans (if_pos h2)
theorem fdS_g {I : zIA} {L : zLA} {c f t : Nat} (h : fdT (fdS I L c f t) c f t) (h2 : ¬ 0 < (fdS I L c f t).2.2 13 t) : fdS I L c f (t + 1) = fdG (fdS I L c f t) t := (if_pos h).trans (if_neg h2)
theorem fdS_I {I : zIA} {L : zLA} {c f a : Nat} (ha : a ≠ 19) : ∀ t, (fdS I L c f t).2.1 a = I a
  | 0 => rfl
  | t + 1 => by
    have ih := fdS_I (I := I) (L := L) (c := c) (f := f) ha t
    by_cases h : fdT (fdS I L c f t) c f t
    · by_cases h2 : 0 < (fdS I L c f t).2.2 13 t
      · rw [fdS_b h h2]
        exact (up2_a ha).trans ih
      · rw [fdS_g h h2]
        exact ih
    · rw [fdS_n h]
      exact ih
theorem fdS_nl {I : zIA} {L : zLA} {c f : Nat} : ∀ t, (fdS I L c f t).1 ≤ t
  | 0 => Nat.le_refl _
  | t + 1 => by
    have ih := fdS_nl (I := I) (L := L) (c := c) (f := f) t
    by_cases h : fdT (fdS I L c f t) c f t
    · by_cases h2 : 0 < (fdS I L c f t).2.2 13 t
      · rw [fdS_b h h2]
        show (fdS I L c f t).1 + 1 ≤ _
        omega
      · rw [fdS_g h h2]
        show (fdS I L c f t).1 ≤ _
        omega
    · rw [fdS_n h]
      omega
/-- the years of a client -/
def zrS (L : zLA) : Nat → zLA
  | 0 => L
  | k + 1 => up2 (zrS L k) 22 k 0
def fsS (s : zF) (c nt : Nat) : Nat → zF
  | 0 => s
  | f + 1 => fdS (fsS s c nt f).2.1 (fsS s c nt f).2.2 c f nt
theorem fsS_I {s : zF} {c nt a : Nat} (ha : a ≠ 19) : ∀ k, (fsS s c nt k).2.1 a = s.2.1 a
  | 0 => rfl
  | k + 1 => (fdS_I ha nt).trans (fsS_I ha k)
def byS (L : zLA) : Nat → Int64 × zLA
  | 0 => (0, L)
  | y + 1 => if (byS L y).2 22 y + (byS L y).1 < 0 then ((byS L y).2 22 y + (byS L y).1, up2 (byS L y).2 23 y 0) else (0, up2 (byS L y).2 23 y ((byS L y).2 22 y + (byS L y).1))
theorem byS_p {L : zLA} {y : Nat} (h : (byS L y).2 22 y + (byS L y).1 < 0) : byS L (y + 1) = ((byS L y).2 22 y + (byS L y).1, up2 (byS L y).2 23 y 0) := if_pos h
theorem byS_n {L : zLA} {y : Nat} (h : ¬ (byS L y).2 22 y + (byS L y).1 < 0) : byS L (y + 1) = (0, up2 (byS L y).2 23 y ((byS L y).2 22 y + (byS L y).1)) := if_neg h
def yrA (s : zF) : zF := (s.1, s.2.1, zrS s.2.2 21)
def yrB (s : zF) (c nt : Nat) : zF := fsS (yrA s) c nt 6
def yearsS (s : zF) (c nt : Nat) : zF := ((yrB s c nt).1, (yrB s c nt).2.1, (byS (yrB s c nt).2.2 21).2)
theorem yrB_I {s : zF} {c nt a : Nat} (ha : a ≠ 19) : (yrB s c nt).2.1 a = s.2.1 a := by
  unfold yrB
  exact fsS_I ha 6
theorem yearsS_I {s : zF} {c nt a : Nat} (ha : a ≠ 19) : (yearsS s c nt).2.1 a = s.2.1 a := by
  unfold yearsS
  dsimp only
  exact yrB_I ha
theorem fsS_nl {s : zF} {c nt : Nat} (h : s.1 ≤ 120) (hn : nt ≤ 120) : ∀ k, (fsS s c nt k).1 ≤ 120
  | 0 => h
  | k + 1 => Nat.le_trans (fdS_nl nt) hn
theorem yearsS_nl {s : zF} {c nt : Nat} (h : s.1 ≤ 120) (hn : nt ≤ 120) : (yearsS s c nt).1 ≤ 120 := by
  unfold yearsS
  dsimp only
  unfold yrB
  exact fsS_nl (s := yrA s) h hn 6
/-- are there parts enough: is, sum -/
def enA (I : zIA) (L : zLA) (c f t : Nat) : Int64 := if ¬ I 17 t = 0 ∧ I 11 t = nI c ∧ I 12 t = nI f then L 13 t else 0
def enS (I : zIA) (L : zLA) (c f : Nat) : Nat → Int32 × Int64
  | 0 => (1, 0)
  | t + 1 => if ¬ (enS I L c f t).1 = 0 ∧ ¬ (enS I L c f t).2 + enA I L c f t < 0 then (1, (enS I L c f t).2 + enA I L c f t) else (0, (enS I L c f t).2 + enA I L c f t)
theorem enS_p {I : zIA} {L : zLA} {c f t : Nat} {x : Int64} (ha : enA I L c f t = x) (h : ¬ (enS I L c f t).1 = 0 ∧ ¬ (enS I L c f t).2 + x < 0) : enS I L c f (t + 1) = (1, (enS I L c f t).2 + x) := by
  subst ha
  exact if_pos h
theorem enS_n {I : zIA} {L : zLA} {c f t : Nat} {x : Int64} (ha : enA I L c f t = x) (h : ¬ (¬ (enS I L c f t).1 = 0 ∧ ¬ (enS I L c f t).2 + x < 0)) : enS I L c f (t + 1) = (0, (enS I L c f t).2 + x) := by
  subst ha
  exact if_neg h
theorem enS_01 {I : zIA} {L : zLA} {c f : Nat} : ∀ t, (enS I L c f t).1 = 0 ∨ (enS I L c f t).1 = 1
  | 0 => Or.inr rfl
  | t + 1 => by
    by_cases h : ¬ (enS I L c f t).1 = 0 ∧ ¬ (enS I L c f t).2 + enA I L c f t < 0
    · rw [enS_p rfl h]
      exact Or.inr rfl
    · rw [enS_n rfl h]
      exact Or.inl rfl
/-- a complaint -/
def canS (I : zIA) (L : zLA) (nt t : Nat) : Prop := ¬ I 17 t = 0 ∧ ¬ (enS (up2 I 17 t 0) L (dN (I 11 t)) (dN (I 12 t)) nt).1 = 0
def unpaidL (L : zLA) (t : Nat) : Int64 := if 0 < L 13 t then -L 14 t - L 15 t else L 14 t - L 15 t
def cbS (L : zLA) (c : Nat) : Nat → Int64 × zLA
  | 0 => (0, L)
  | y + 1 => ((cbS L c y).1 + ((cbS L c y).2 9 (21 * c + y) - (cbS L c y).2 23 y / 4), up2 (cbS L c y).2 9 (21 * c + y) ((cbS L c y).2 23 y / 4))
/-- the rows ahead of the years, of a complaint about trade t -/
def cpL (L : zLA) (c f t : Nat) : zLA := moveL (payL L c (unpaidL L t)) c f (-payL L c (unpaidL L t) 13 t)
def cpM (I : zIA) (L : zLA) (c f t : Nat) (mo : Int64) : Int64 := moveM I (payL L c (unpaidL L t)) f (-payL L c (unpaidL L t) 13 t) (mo + unpaidL L t)
def cpS (nl : Nat) (I : zIA) (L : zLA) (nt c f t : Nat) : zF := yearsS (nl, up2 I 17 t 0, cpL L c f t) c nt
def cpB (nl : Nat) (I : zIA) (L : zLA) (nt dy c f t : Nat) : Int64 × zLA := cbS (cpS nl I L nt c f t).2.2 c (dy / 360)
/-- a day's end -/
def psS (I : zIA) (mo : Int64) (L : zLA) : Nat → Int64 × zLA
  | 0 => (mo, L)
  | f + 1 => ((psS I mo L f).1 + (psS I mo L f).2 3 f / 1000 * Int32.toInt64 (I 1 f), up2 (up2 (psS I mo L f).2 2 f ((psS I mo L f).2 2 f - (psS I mo L f).2 3 f / 1000)) 3 f (up2 (psS I mo L f).2 2 f ((psS I mo L f).2 2 f - (psS I mo L f).2 3 f / 1000) 3 f - (psS I mo L f).2 3 f / 1000 * 1000))
def ptL (L : zLA) (c y : Nat) : zLA := up2 (up2 L 9 (21 * c + y) (L 23 y / 4)) 6 c (up2 L 9 (21 * c + y) (L 23 y / 4) 6 c - up2 L 9 (21 * c + y) (L 23 y / 4) 23 y / 4)
def ptE (s : zF) (nt y c : Nat) : zF := ((yearsS s c nt).1, (yearsS s c nt).2.1, ptL (yearsS s c nt).2.2 c y)
theorem ptE_I {s : zF} {nt y c a : Nat} (ha : a ≠ 19) : (ptE s nt y c).2.1 a = s.2.1 a := by
  unfold ptE
  dsimp only
  exact yearsS_I ha
theorem ptE_nl {s : zF} {nt y c : Nat} (h : s.1 ≤ 120) (hn : nt ≤ 120) : (ptE s nt y c).1 ≤ 120 := by
  unfold ptE
  dsimp only
  exact yearsS_nl h hn
def ptS (s : zF) (nt y : Nat) : Nat → zF
  | 0 => s
  | c + 1 => ptE (ptS s nt y c) nt y c
theorem ptS_I {s : zF} {nt y a : Nat} (ha : a ≠ 19) : ∀ k, (ptS s nt y k).2.1 a = s.2.1 a
  | 0 => rfl
  | k + 1 => by
    rw [ptS, ptE_I ha]
    exact ptS_I ha k
theorem ptS_nl {s : zF} {nt y : Nat} (h : s.1 ≤ 120) (hn : nt ≤ 120) : ∀ k, (ptS s nt y k).1 ≤ 120
  | 0 => h
  | k + 1 => by
    rw [ptS]
    exact ptE_nl (ptS_nl h hn k) hn
/-- day, lots, money, rows -/
abbrev zP : Type := Nat × Nat × Int64 × zIA × zLA
def pwS (s : zP) : Int64 × zLA := psS s.2.2.2.1 s.2.2.1 s.2.2.2.2 6
def pxS (nc nt : Nat) (s : zP) : zF := ptS (s.2.1, s.2.2.2.1, (pwS s).2) nt ((s.1 + 1) / 360 - 1) nc
def passS (nc nt : Nat) (s : zP) : zP := if (s.1 + 1) % 360 = 0 then (s.1 + 1, (pxS nc nt s).1, (pwS s).1, (pxS nc nt s).2.1, (pxS nc nt s).2.2) else (s.1 + 1, s.2.1, (pwS s).1, s.2.2.2.1, (pwS s).2)
theorem passS_p {nc nt : Nat} {s : zP} (h : (s.1 + 1) % 360 = 0) : passS nc nt s = (s.1 + 1, (pxS nc nt s).1, (pwS s).1, (pxS nc nt s).2.1, (pxS nc nt s).2.2) := if_pos h
theorem passS_n {nc nt : Nat} {s : zP} (h : ¬ (s.1 + 1) % 360 = 0) : passS nc nt s = (s.1 + 1, s.2.1, (pwS s).1, s.2.2.2.1, (pwS s).2) := if_neg h
theorem pxS_I {nc nt a : Nat} {s : zP} (ha : a ≠ 19) : (pxS nc nt s).2.1 a = s.2.2.2.1 a := by
  unfold pxS
  exact ptS_I ha nc
theorem pxS_nl {nc nt : Nat} {s : zP} (h : s.2.1 ≤ 120) (hn : nt ≤ 120) : (pxS nc nt s).1 ≤ 120 := by
  unfold pxS
  exact ptS_nl h hn nc
def passN (nc nt : Nat) (s : zP) : Nat → zP
  | 0 => s
  | k + 1 => passS nc nt (passN nc nt s k)
theorem passS_I {nc nt a : Nat} {s : zP} (ha : a ≠ 19) : (passS nc nt s).2.2.2.1 a = s.2.2.2.1 a := by
  by_cases h : (s.1 + 1) % 360 = 0
  · rw [passS_p h]
    exact pxS_I ha
  · rw [passS_n h]
theorem passS_dy {nc nt : Nat} {s : zP} : (passS nc nt s).1 = s.1 + 1 := by
  by_cases h : (s.1 + 1) % 360 = 0
  · rw [passS_p h]
  · rw [passS_n h]
theorem passS_nl {nc nt : Nat} {s : zP} (h : s.2.1 ≤ 120) (hn : nt ≤ 120) : (passS nc nt s).2.1 ≤ 120 := by
  by_cases h2 : (s.1 + 1) % 360 = 0
  · rw [passS_p h2]
    exact pxS_nl h hn
  · rw [passS_n h2]
    exact h
theorem passN_I {nc nt a : Nat} {s : zP} (ha : a ≠ 19) : ∀ k, (passN nc nt s k).2.2.2.1 a = s.2.2.2.1 a
  | 0 => rfl
  | k + 1 => (passS_I ha).trans (passN_I ha k)
theorem passN_dy {nc nt : Nat} {s : zP} : ∀ k, (passN nc nt s k).1 = s.1 + k
  | 0 => rfl
  | k + 1 => by rw [show passN nc nt s (k + 1) = passS nc nt (passN nc nt s k) from rfl, passS_dy, passN_dy k]; omega
theorem passN_nl {nc nt : Nat} {s : zP} (h : s.2.1 ≤ 120) (hn : nt ≤ 120) : ∀ k, (passN nc nt s k).2.1 ≤ 120
  | 0 => h
  | k + 1 => passS_nl (passN_nl h hn k) hn
/-- a lot that is asked for: how many were passed, the answer -/
def ltV (I : zIA) (L : zLA) (what : Int32) (k : Nat) : Int64 := if what = 0 then Int32.toInt64 (I 19 k) else if what = 1 then L 20 k else L 21 k
def ltS (I : zIA) (L : zLA) (rank what : Int32) : Nat → Nat × Int64
  | 0 => (0, -1)
  | k + 1 => if 0 < L 20 k then ((ltS I L rank what k).1 + 1, if nI (ltS I L rank what k).1 = rank then ltV I L what k else (ltS I L rank what k).2) else ltS I L rank what k
theorem ltS_n {I : zIA} {L : zLA} {rank what : Int32} {k : Nat} (h : ¬ 0 < L 20 k) : ltS I L rank what (k + 1) = ltS I L rank what k := if_neg h
theorem ltS_p {I : zIA} {L : zLA} {rank what : Int32} {k : Nat} {x : Int64} (h : 0 < L 20 k) (hr : nI (ltS I L rank what k).1 = rank) (hv : ltV I L what k = x) : ltS I L rank what (k + 1) = ((ltS I L rank what k).1 + 1, x) := by
  subst hv
  exact (if_pos h).trans (by rw [if_pos hr])
theorem ltS_q {I : zIA} {L : zLA} {rank what : Int32} {k : Nat} (h : 0 < L 20 k) (hr : ¬ nI (ltS I L rank what k).1 = rank) : ltS I L rank what (k + 1) = ((ltS I L rank what k).1 + 1, (ltS I L rank what k).2) := (if_pos h).trans (by rw [if_neg hr])
theorem ltS_le {I : zIA} {L : zLA} {rank what : Int32} : ∀ k, (ltS I L rank what k).1 ≤ k
  | 0 => Nat.le_refl _
  | k + 1 => by
    have ih := ltS_le (I := I) (L := L) (rank := rank) (what := what) k
    by_cases h : 0 < L 20 k
    · by_cases hr : nI (ltS I L rank what k).1 = rank
      · rw [ltS_p h hr rfl]
        show (ltS I L rank what k).1 + 1 ≤ _
        omega
      · rw [ltS_q h hr]
        show (ltS I L rank what k).1 + 1 ≤ _
        omega
    · rw [ltS_n h]
      omega
/-- what is asked of a trade, of a year -/
def trV (I : zIA) (L : zLA) (t k : Nat) : Int64 := if k = 0 then Int32.toInt64 (I 11 t) else if k = 1 then Int32.toInt64 (I 12 t) else if k = 2 then L 13 t else if k = 3 then L 14 t else if k = 4 then L 15 t else if k = 5 then Int32.toInt64 (I 16 t) else if I 17 t = 0 then 0 else 1
def yrV (L : zLA) (c y : Nat) (what : Int32) : Int64 := if what = 0 then L 22 y else if what = 1 then L 23 y else if what = 2 then L 23 y / 4 else L 9 (21 * c + y)
theorem zR_nat {x a b : Int32} {n m : Nat} (hm : m < 2 ^ 31) (h : zR x a b) (ha : a = nI n) (hb : b = nI m) (hn : n < 2 ^ 31 := by decide) : ∃ j, n ≤ j ∧ j ≤ m ∧ x = nI j := by
  subst ha
  subst hb
  have h0 : ¬ x < 0 := Int32.not_lt.mpr (Int32.le_trans (nI_pos' hn) h.1)
  obtain ⟨j, hj, rfl⟩ := nI_of h0
  exact ⟨j, (nI_leI hn hj).mp h.1, (nI_leI hj hm).mp h.2, rfl⟩
theorem yearsS_v {nl : Nat} {I : zIA} {L : zLA} {c nt n6 n21 : Nat} (h6 : n6 = 6) (h21 : n21 = 21) : yearsS (nl, I, L) c nt = ((fsS (nl, I, zrS L n21) c nt n6).1, (fsS (nl, I, zrS L n21) c nt n6).2.1, (byS (fsS (nl, I, zrS L n21) c nt n6).2.2 n21).2) := by
  subst h6
  subst h21
  unfold yearsS yrB yrA
  dsimp only
theorem passS_pv {nc nt n6 dy nl : Nat} {mo : Int64} {I : zIA} {L : zLA} (h6 : n6 = 6) (h : (dy + 1) % 360 = 0) : passS nc nt (dy, nl, mo, I, L) = (dy + 1, (ptS (nl, I, (psS I mo L n6).2) nt ((dy + 1) / 360 - 1) nc).1, (psS I mo L n6).1, (ptS (nl, I, (psS I mo L n6).2) nt ((dy + 1) / 360 - 1) nc).2.1, (ptS (nl, I, (psS I mo L n6).2) nt ((dy + 1) / 360 - 1) nc).2.2) := by
  subst h6
  rw [passS_p h]
  unfold pxS pwS
  dsimp only
theorem passS_nv {nc nt n6 dy nl : Nat} {mo : Int64} {I : zIA} {L : zLA} (h6 : n6 = 6) (h : ¬ (dy + 1) % 360 = 0) : passS nc nt (dy, nl, mo, I, L) = (dy + 1, nl, (psS I mo L n6).1, I, (psS I mo L n6).2) := by
  subst h6
  rw [passS_n h]
  unfold pwS
  dsimp only
theorem ptS_s {s : zF} {nt y c : Nat} : ptS s nt y (c + 1) = ((yearsS ((ptS s nt y c).1, (ptS s nt y c).2.1, (ptS s nt y c).2.2) c nt).1, (yearsS ((ptS s nt y c).1, (ptS s nt y c).2.1, (ptS s nt y c).2.2) c nt).2.1, ptL (yearsS ((ptS s nt y c).1, (ptS s nt y c).2.1, (ptS s nt y c).2.2) c nt).2.2 c y) := by
  show ptE (ptS s nt y c) nt y c = _
  generalize ptS s nt y c = P
  unfold ptE
  rfl
theorem cpM_e {I : zIA} {L : zLA} {c f t : Nat} {mo : Int64} : moveM (up2 I 17 t 0) (payL L c (unpaidL L t)) f (-payL L c (unpaidL L t) 13 t) (mo + unpaidL L t) = cpM I L c f t mo := by
  unfold cpM moveM
  rw [up2_a (by decide)]
theorem cpS_e {nl : Nat} {I : zIA} {L : zLA} {nt c f t : Nat} : yearsS (nl, up2 I 17 t 0, moveL (payL L c (unpaidL L t)) c f (-payL L c (unpaidL L t) 13 t)) c nt = cpS nl I L nt c f t := by
  unfold cpS cpL
  rfl
theorem zi_rem {x y : Int32} {a b : Nat} (hx : x = nI a) (hy : y = nI b) (ha : a < 2 ^ 31) (h0 : 0 < b) (hb : b < 2 ^ 31) : x - x / y * y = nI (a % b) := by rw [hx, hy, pk_rem ha h0 hb]
theorem zR_06 {x : Int32} (h : zR x 0 6) : x = 0 ∨ x = 1 ∨ x = 2 ∨ x = 3 ∨ x = 4 ∨ x = 5 ∨ x = 6 := by
  obtain ⟨j, -, h2, rfl⟩ := zR_nat (a := 0) (b := 6) (n := 0) (m := 6) (by decide) h rfl rfl
  have : j = 0 ∨ j = 1 ∨ j = 2 ∨ j = 3 ∨ j = 4 ∨ j = 5 ∨ j = 6 := by omega
  rcases this with rfl | rfl | rfl | rfl | rfl | rfl | rfl <;> decide
theorem zR_02 {x : Int32} (h : zR x 0 2) : x = 0 ∨ x = 1 ∨ x = 2 := by
  obtain ⟨j, -, h2, rfl⟩ := zR_nat (a := 0) (b := 2) (n := 0) (m := 2) (by decide) h rfl rfl
  have : j = 0 ∨ j = 1 ∨ j = 2 := by omega
  rcases this with rfl | rfl | rfl <;> decide
theorem zR_03 {x : Int32} (h : zR x 0 3) : x = 0 ∨ x = 1 ∨ x = 2 ∨ x = 3 := by
  obtain ⟨j, -, h2, rfl⟩ := zR_nat (a := 0) (b := 3) (n := 0) (m := 3) (by decide) h rfl rfl
  have : j = 0 ∨ j = 1 ∨ j = 2 ∨ j = 3 := by omega
  rcases this with rfl | rfl | rfl | rfl <;> decide
