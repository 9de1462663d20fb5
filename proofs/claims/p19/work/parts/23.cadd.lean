/-! ===== a list, and 'add' in one contract ===== -/
def zLst (cO : ClassId) (g0 : Nat) (w : zk_W) (kl ka : zk_K) (n cap : Nat) (f : Nat → Option Nat) : Prop :=
  kl ≠ ka ∧ w.2.1 kl ∧ (∀ j y, f j = some y → zEl w y) ∧ (∀ j, n ≤ j → f j = none) ∧ ∃ a, w.2.2 kl = zLo (nI n) a (nI n) ∧ ((n = 0 ∧ cap = 0 ∧ a = g0 ∧ ¬ w.2.1 ka) ∨ (n ≤ cap ∧ 10 ≤ cap ∧ a = w.1 ka ∧ w.2.1 ka ∧ w.2.2 ka = zRef cO cap f))
theorem cJ_add (l : Launch) (D : va_G) (cA : Nat → ClassId) (A : Nat → Prop) (g : Nat → Nat) (w : zk_W) (kl ka kt : zk_K) (n cap : Nat) {f : Nat → Option Nat} (hL : zLst (cA 3) (g 0) w kl ka n cap f) (hkt : ¬ w.2.1 kt) (hn : n ≤ 109 ∨ n < cap) (hcap : cap ≤ 163) (v : Nat) (hv : zEl w v) :
    zM l yJx4a65c_add_9ea2d wsJx4a65c_add_9ea2d rmJ_add1B D (zt cA) A g [.ref (w.1 kl), .ref v] w (zQi (fun r w' => 1 = r ∧ ∃ q, (n < cap → q = w.1 ka) ∧ zk_add (cA 3) w kl ka q n (capN n cap) (va_up f n (some v)) = w')) := by
  obtain ⟨hne, hk, hel, hf, a, he, hc⟩ := hL
  rcases hc with ⟨rfl, rfl, rfl, hka⟩ | ⟨hnc, h10, rfl, hka, hea⟩
  · have hf0 : f = fun _ => none := funext fun j => hf j (Nat.zero_le j)
    subst hf0
    have h := cJ_add1A l D cA A g w kl hk ka hka he hne v hv
    rw [show capN 0 0 = 10 from rfl, show (0 < 0) = False from eq_false (Nat.lt_irrefl 0)]
    exact h
  · by_cases h : n < cap
    · have h2 := cJ_add1N l D cA A g w kl hk ka hka hne n cap h hcap he hea v hv
      rw [show capN n cap = cap from if_pos h, show (n < cap) = True from eq_true h]
      exact h2
    · have e1 : cap = n := by omega
      subst e1
      have h2 := cJ_add1B l D cA A g w kl hk ka kt hka hkt cap h10 (by omega) he hea hel hf hne v hv
      rw [show capN cap cap = cap + cap / 2 by unfold capN; rw [if_neg h, if_neg (by omega)], show (cap < cap) = False from eq_false h]
      exact h2
/-! ===== the class's world ===== -/
/-- the holdings of client b, of lc of which the last has hl -/
def nh (lc hl b : Nat) : Nat := if b + 1 = lc then hl else 6
def cLive (nf lc nc hl nt : Nat) : zk_K → Prop := fun k => match k.1 with
  | 0 => k.2 = (0, 0) | 1 => k.2 = (0, 0) | 2 => k.2 = (0, 0) | 3 => k.2 = (0, 0)
  | 4 => k.2 = (0, 0) ∧ 0 < nf | 5 => k.2 = (0, 0) ∧ 0 < nc | 6 => k.2 = (0, 0) ∧ 0 < nt
  | 7 => k.2.1 < nf ∧ k.2.2 = 0
  | 8 => k.2.1 < lc ∧ k.2.2 = 0 | 9 => k.2.1 < lc ∧ k.2.2 = 0 | 11 => k.2.1 < lc ∧ k.2.2 = 0 | 12 => k.2.1 < lc ∧ k.2.2 = 0
  | 10 => k.2.1 < lc ∧ k.2.2 = 0 ∧ 0 < nh lc hl k.2.1
  | 13 => k.2.1 < lc ∧ k.2.2 < nh lc hl k.2.1
  | 14 => k.2.1 < nt ∧ k.2.2 = 0
  | _ => False
/-- as many places has the row of a list of n -/
def capL (n : Nat) : Nat := if n = 0 then 0 else if n ≤ 10 then 10 else if n ≤ 15 then 15 else if n ≤ 22 then 22 else if n ≤ 33 then 33 else if n ≤ 49 then 49 else if n ≤ 73 then 73 else if n ≤ 109 then 109 else 163
def cList (ad : zk_K → Nat) (g0 n : Nat) (ka : zk_K) : va_E := zLo (nI n) (if n = 0 then g0 else ad ka) (nI n)
def cFs (ad : zk_K → Nat) (kf : Nat → zk_K) (n : Nat) : Nat → Option Nat := fun j => if j < n then some (ad (kf j)) else none
def cRow (cA : Nat → ClassId) (ad : zk_K → Nat) (kf : Nat → zk_K) (n : Nat) : va_E := zRef (cA 3) (capL n) (cFs ad kf n)
def cHall (ad : zk_K → Nat) (dy : Nat) (mo : Int64) : va_E := .inr (5, [.ref (ad (1, 0, 0)), .ref (ad (2, 0, 0)), .ref (ad (3, 0, 0)), .long mo, .int (nI dy)])
def cFund (I : zIA) (L : zLA) (f : Nat) : va_E := .inr (2, [.int (nI f), .int (I 1 f), .long (L 2 f), .long (L 3 f)])
def cCli (ad : zk_K → Nat) (L : zLA) (c : Nat) : va_E := .inr (1, [.int (nI c), .ref (ad (9, c, 0)), .ref (ad (11, c, 0)), .ref (ad (12, c, 0)), .long (L 6 c)])
def cYears (cA : Nat → ClassId) (L : zLA) (a c : Nat) : va_E := .inl (cA 1, 21, .inr (.inl (fun y => if y < 21 then L a (21 * c + y) else 0)))
def cHol (ad : zk_K → Nat) (I : zIA) (L : zLA) (c f : Nat) : va_E := .inr (3, [.ref (ad (8, c, 0)), .ref (ad (7, f, 0)), .long (L 8 (6 * c + f)), .int (I 7 (6 * c + f))])
def cTra (ad : zk_K → Nat) (I : zIA) (L : zLA) (t : Nat) : va_E := .inr (4, [.int (nI t), .ref (ad (13, dN (I 11 t), dN (I 12 t))), .int (I 16 t), .long (L 13 t), .long (L 14 t), .long (L 15 t), .int (I 17 t), .long (L 31 t), .long (L 32 t)])
def cEnt (cA : Nat → ClassId) (g0 : Nat) (ad : zk_K → Nat) (nf lc nc hl nt dy : Nat) (mo : Int64) (I : zIA) (L : zLA) : zk_K → va_E := fun k => match k.1 with
  | 0 => cHall ad dy mo
  | 1 => cList ad g0 nf (4, 0, 0) | 2 => cList ad g0 nc (5, 0, 0) | 3 => cList ad g0 nt (6, 0, 0)
  | 4 => cRow cA ad (fun j => (7, j, 0)) nf | 5 => cRow cA ad (fun j => (8, j, 0)) nc | 6 => cRow cA ad (fun j => (14, j, 0)) nt
  | 7 => cFund I L k.2.1
  | 8 => cCli ad L k.2.1
  | 9 => cList ad g0 (nh lc hl k.2.1) (10, k.2.1, 0)
  | 10 => cRow cA ad (fun j => (13, k.2.1, j)) (nh lc hl k.2.1)
  | 11 => cYears cA L 30 k.2.1
  | 12 => cYears cA L 9 k.2.1
  | 13 => cHol ad I L k.2.1 k.2.2
  | _ => cTra ad I L k.2.1
def cw (cA : Nat → ClassId) (g0 : Nat) (ad : zk_K → Nat) (nf lc nc hl nt dy : Nat) (mo : Int64) (I : zIA) (L : zLA) : zk_W := (ad, cLive nf lc nc hl nt, cEnt cA g0 ad nf lc nc hl nt dy mo I L)
section CU
variable {cA : Nat → ClassId} {g0 : Nat} {ad : zk_K → Nat} {nf lc nc hl nt dy : Nat} {mo : Int64} {I : zIA} {L : zLA}
theorem cu_mo (mo' : Int64) : zk_up (cw cA g0 ad nf lc nc hl nt dy mo I L) (0, 0, 0) (cHall ad dy mo') (cw cA g0 ad nf lc nc hl nt dy mo' I L) := by
  refine ⟨rfl, rfl, rfl, fun k hk hv => ?_⟩
  obtain ⟨a, b, c⟩ := k
  by_cases h0 : a = 0
  · subst h0
    exact absurd (congrArg (Prod.mk 0) (show (b, c) = (0, 0) from hv)) hk
  · show cEnt cA g0 ad nf lc nc hl nt dy mo' I L (a, b, c) = cEnt cA g0 ad nf lc nc hl nt dy mo I L (a, b, c)
    unfold cEnt
    split <;> first | rfl | (rename_i h; exact absurd h h0)
theorem cu_dy (dy' : Nat) : zk_up (cw cA g0 ad nf lc nc hl nt dy mo I L) (0, 0, 0) (cHall ad dy' mo) (cw cA g0 ad nf lc nc hl nt dy' mo I L) := by
  refine ⟨rfl, rfl, rfl, fun k hk hv => ?_⟩
  obtain ⟨a, b, c⟩ := k
  by_cases h0 : a = 0
  · subst h0
    exact absurd (congrArg (Prod.mk 0) (show (b, c) = (0, 0) from hv)) hk
  · show cEnt cA g0 ad nf lc nc hl nt dy' mo I L (a, b, c) = cEnt cA g0 ad nf lc nc hl nt dy mo I L (a, b, c)
    unfold cEnt
    split <;> first | rfl | (rename_i h; exact absurd h h0)
end CU
