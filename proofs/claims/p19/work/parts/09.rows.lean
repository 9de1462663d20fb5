/-! ===== rows, and the reference's functions (as functions alone) ===== -/
abbrev zIA : Type := Nat → Nat → Int32
abbrev zLA : Type := Nat → Nat → Int64
/-- one place of one row is set -/
def up2 {α : Type} (f : Nat → Nat → α) (a i : Nat) (v : α) : Nat → Nat → α := fun a' i' => if a' = a ∧ i' = i then v else f a' i'
theorem up2_s {α : Type} (f : Nat → Nat → α) (a i : Nat) (v : α) : up2 f a i v a i = v := if_pos ⟨rfl, rfl⟩
theorem up2_a {α : Type} {f : Nat → Nat → α} {a i : Nat} {v : α} {a' : Nat} (h : a' ≠ a) : up2 f a i v a' = f a' := funext fun i' => if_neg (fun z => h z.1)
theorem up2_i {α : Type} {f : Nat → Nat → α} {a i : Nat} {v : α} {i' : Nat} (h : i' ≠ i) (a' : Nat) : up2 f a i v a' i' = f a' i' := if_neg (fun z => h z.2)
theorem up2_ne {α : Type} {f : Nat → Nat → α} {a i : Nat} {v : α} {a' i' : Nat} (h : a' ≠ a) : up2 f a i v a' i' = f a' i' := if_neg (fun z => h z.1)
theorem up2_I (f : zIA) (a i : Nat) (v : Int32) : up2 f a i v a = upd (f a) i v := by
  funext j
  by_cases h : j = i
  · subst h; simp [up2, upd]
  · simp [up2, upd, h]
theorem up2_L (f : zLA) (a i : Nat) (v : Int64) : up2 f a i v a = vp_updL (f a) i v := by
  funext j
  by_cases h : j = i
  · subst h; simp [up2, vp_updL]
  · simp [up2, vp_updL, h]
/-- arrays: of ints, longs, ints, references -/
def zt (cA : Nat → ClassId) : List (ClassId × FieldType) := [(cA 0, .int), (cA 1, .long), (cA 2, .int), (cA 3, .object "java/lang/Object")]
/-- x is a number below n -/
def zIn (x : Int32) (n : Nat) : Prop := ∃ j : Nat, j < n ∧ x = nI j
def zR (x a b : Int32) : Prop := a ≤ x ∧ x ≤ b
/-! ===== the reference's constructor ===== -/
def zk_ad (ad : zk_K → Nat) (k : zk_K) (q : Nat) : zk_K → Nat := fun k' => if k' = k then q else ad k'
theorem zk_ad_s (ad : zk_K → Nat) (k : zk_K) (q : Nat) : zk_ad ad k q k = q := if_pos rfl
theorem zk_ad_n {ad : zk_K → Nat} {k : zk_K} {q : Nat} {k' : zk_K} (h : k' ≠ k) : zk_ad ad k q k' = ad k' := if_neg h
def mpI : zIA := fun _ _ => 0
def mpL : zLA := fun _ _ => 0
def prI : Nat → zIA
  | 0 => mpI
  | i + 1 => up2 (prI i) 1 i 10000
theorem zi_add {x y : Int32} {a b : Nat} (hx : x = nI a) (hy : y = nI b) : x + y = nI (a + b) := by rw [hx, hy, nI_add]
theorem zi_mul {x y : Int32} {a b : Nat} (hx : x = nI a) (hy : y = nI b) : x * y = nI (a * b) := by rw [hx, hy, pk_mul]
/-- what 'fails' answers -/
def fV (k : Int32) : Int32 := if 0 < k then 1 else 0
/-- the costs of an amount -/
def costL (x : Int64) : Int64 := x * (if x < 10000 then 100 else if x < 100000 then 50 else 20) / 10000
def partsL (I : zIA) (f : Nat) (its : Int64) : Int64 := its * 1000 / Int32.toInt64 (I 1 f)
def amountL (I : zIA) (f : Nat) (many : Int64) : Int64 := many * Int32.toInt64 (I 1 f) / 1000
def valueL (I : zIA) (L : zLA) (c f : Nat) : Int64 := amountL I f (L 8 (6 * c + f))
/-- cash and the first k funds' values -/
def wealthL (I : zIA) (L : zLA) (c : Nat) : Nat → Int64
  | 0 => L 6 c
  | k + 1 => wealthL I L c k + valueL I L c k
/-- units that are bought when 'many' parts are more than the stock -/
def moreL (L : zLA) (f : Nat) (many : Int64) : Int64 := (many - L 3 f + 1000 - 1) / 1000
def moveM (I : zIA) (L : zLA) (f : Nat) (many : Int64) (mo : Int64) : Int64 := if L 3 f < many then mo - moreL L f many * Int32.toInt64 (I 1 f) else mo
def moveS (L : zLA) (f : Nat) (many : Int64) : zLA := if L 3 f < many then up2 (up2 L 2 f (L 2 f + moreL L f many)) 3 f (L 3 f + moreL L f many * 1000) else L
def moveL (L : zLA) (c f : Nat) (many : Int64) : zLA := up2 (up2 (moveS L f many) 3 f (moveS L f many 3 f - many)) 8 (6 * c + f) (L 8 (6 * c + f) + many)
def payL (L : zLA) (c : Nat) (its : Int64) : zLA := up2 L 6 c (L 6 c - its)
/-- what a trade takes from the client's cash -/
def paidL (many its : Int64) : Int64 := if 0 < many then its + costL its else costL its - its
/-- a trade's own rows -/
def noteI (I : zIA) (nt dy c f : Nat) : zIA := up2 (up2 (up2 (up2 I 11 nt (nI c)) 12 nt (nI f)) 16 nt (nI dy)) 17 nt 1
def noteR (L : zLA) (nt : Nat) (many its : Int64) : zLA := up2 (up2 (up2 L 13 nt many) 14 nt its) 15 nt (costL its)
def noteL (L : zLA) (nt c f : Nat) (many its : Int64) : zLA := moveL (payL (noteR L nt many its) c (paidL many its)) c f many
def noteM (I : zIA) (L : zLA) (f : Nat) (many its : Int64) (mo : Int64) : Int64 := moveM I L f many (mo + paidL many its)
theorem zIn_le {x b : Int32} {n : Nat} (hn : n < 2 ^ 30) (hb : b = nI n - 1) : b.toInt = (n : Int) - 1 := by
  have h := pk_sub_toInt (a := n) (b := 1) hn (by decide)
  rw [hb]
  exact h
theorem zIn_of {x b : Int32} {n : Nat} (hn : n < 2 ^ 30) (h : zR x 0 b) (hb : b = nI n - 1) : zIn x n := by
  have e := zIn_le (x := x) hn hb
  obtain ⟨j, hj, rfl⟩ := nI_of (Int32.not_lt.mpr h.1)
  have h2 := Int32.le_iff_toInt_le.mp h.2
  rw [e, nI_toInt hj] at h2
  exact ⟨j, by omega, rfl⟩
theorem zIn_no {x b : Int32} {n : Nat} (hn : n < 2 ^ 30) (h : ¬ zR x 0 b) (hb : b = nI n - 1) : ¬ zIn x n := by
  have e := zIn_le (x := x) hn hb
  rintro ⟨j, hj, rfl⟩
  refine h ⟨nI_pos' (by omega), Int32.le_iff_toInt_le.mpr ?_⟩
  rw [e, nI_toInt (by omega)]
  omega
