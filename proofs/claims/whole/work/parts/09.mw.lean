/-! ===== the reference's world ===== -/
abbrev zIA : Type := Nat → Nat → Int32
abbrev zLA : Type := Nat → Nat → Int64
/-- one place of one row is set -/
def up2 {α : Type} (f : Nat → Nat → α) (a i : Nat) (v : α) : Nat → Nat → α := fun a' i' => if a' = a ∧ i' = i then v else f a' i'
theorem up2_s {α : Type} (f : Nat → Nat → α) (a i : Nat) (v : α) : up2 f a i v a i = v := if_pos ⟨rfl, rfl⟩
theorem up2_a {α : Type} {f : Nat → Nat → α} {a i : Nat} {v : α} {a' : Nat} (h : a' ≠ a) : up2 f a i v a' = f a' := funext fun i' => if_neg (fun z => h z.1)
theorem up2_i {α : Type} {f : Nat → Nat → α} {a i : Nat} {v : α} {i' : Nat} (h : i' ≠ i) (a' : Nat) : up2 f a i v a' i' = f a' i' := if_neg (fun z => h z.2)
theorem up2_ne {α : Type} {f : Nat → Nat → α} {a i : Nat} {v : α} {a' i' : Nat} (h : a' ≠ a) : up2 f a i v a' i' = f a' i' := if_neg (fun z => h z.1)
theorem up2_I (f : zIA) (a i : Nat) (v : Int32) : up2 f a i v a = upd (f a) i v := by
  funext j
  by_cases h : j = i
  · subst h; simp [up2, upd]
  · simp [up2, upd, h]
theorem up2_L (f : zLA) (a i : Nat) (v : Int64) : up2 f a i v a = vp_updL (f a) i v := by
  funext j
  by_cases h : j = i
  · subst h; simp [up2, vp_updL]
  · simp [up2, vp_updL, h]
/-- the kind of a row of the reference: 0 ints, 1 longs, 2 booleans, 9 none; and its length -/
def mK : Nat → Nat
  | 1 => 0 | 2 => 1 | 3 => 1 | 6 => 1 | 7 => 0 | 8 => 1 | 9 => 1 | 11 => 0 | 12 => 0 | 13 => 1 | 14 => 1 | 15 => 1 | 16 => 0 | 17 => 2 | 19 => 0 | 20 => 1 | 21 => 1 | 22 => 1 | 23 => 1 | _ => 9
def mN : Nat → Nat
  | 1 => 6 | 2 => 6 | 3 => 6 | 6 => 12 | 7 => 72 | 8 => 72 | 9 => 252 | 11 => 120 | 12 => 120 | 13 => 120 | 14 => 120 | 15 => 120 | 16 => 120 | 17 => 120 | 19 => 120 | 20 => 120 | 21 => 120 | 22 => 21 | 23 => 21 | _ => 0
def zt (cA : Nat → ClassId) : List (ClassId × FieldType) := [(cA 0, .int), (cA 1, .long), (cA 2, .boolean), (cA 3, .object "java/lang/Object")]
def mLive : zk_K → Prop := fun k => k.2 = (0, 0) ∧ (k.1 = 0 ∨ mK k.1 ≠ 9)
def mRow (ad : zk_K → Nat) (dy nc nt nl : Nat) (th : Int32) (mo : Int64) : List Value :=
  [.int (nI dy), .ref (ad (1, 0, 0)), .ref (ad (2, 0, 0)), .ref (ad (3, 0, 0)), .long mo, .int (nI nc), .ref (ad (6, 0, 0)), .ref (ad (7, 0, 0)), .ref (ad (8, 0, 0)), .ref (ad (9, 0, 0)), .int (nI nt), .ref (ad (11, 0, 0)), .ref (ad (12, 0, 0)), .ref (ad (13, 0, 0)), .ref (ad (14, 0, 0)), .ref (ad (15, 0, 0)), .ref (ad (16, 0, 0)), .ref (ad (17, 0, 0)), .int (nI nl), .ref (ad (19, 0, 0)), .ref (ad (20, 0, 0)), .ref (ad (21, 0, 0)), .ref (ad (22, 0, 0)), .ref (ad (23, 0, 0)), .int th]
def mEnt (cA : Nat → ClassId) (row : List Value) (I : zIA) (L : zLA) : zk_K → va_E := fun k => if k.1 = 0 then .inr (6, row) else if mK k.1 = 1 then .inl (cA 1, mN k.1, .inr (.inl (L k.1))) else .inl (cA (mK k.1), mN k.1, .inl (I k.1))
def mw (cA : Nat → ClassId) (ad : zk_K → Nat) (dy nc nt nl : Nat) (th : Int32) (mo : Int64) (I : zIA) (L : zLA) : zk_W := (ad, mLive, mEnt cA (mRow ad dy nc nt nl th mo) I L)
theorem mL_o : mLive (0, 0, 0) := ⟨rfl, Or.inl rfl⟩
theorem mL_a {a : Nat} (h : mK a ≠ 9) : mLive (a, 0, 0) := ⟨rfl, Or.inr h⟩
theorem mu_row {cA : Nat → ClassId} {ad : zk_K → Nat} {dy nc nt nl dy' nc' nt' nl' : Nat} {th th' : Int32} {mo mo' : Int64} {I : zIA} {L : zLA} {row : List Value} (h : row = mRow ad dy' nc' nt' nl' th' mo') : zk_up (mw cA ad dy nc nt nl th mo I L) (0, 0, 0) (.inr (6, row)) (mw cA ad dy' nc' nt' nl' th' mo' I L) := by
  subst h
  refine ⟨rfl, rfl, rfl, fun k hk hl => ?_⟩
  have h0 : k.1 ≠ 0 := fun z => hk (Prod.ext z hl.1)
  show mEnt _ _ _ _ k = mEnt _ _ _ _ k
  unfold mEnt
  rw [if_neg h0, if_neg h0]
theorem mu_I {cA : Nat → ClassId} {ad : zk_K → Nat} {dy nc nt nl : Nat} {th : Int32} {mo : Int64} {I : zIA} {L : zLA} {a j : Nat} {x : Int32} (h0 : a ≠ 0) (h1 : mK a ≠ 1) : zk_up (mw cA ad dy nc nt nl th mo I L) (a, 0, 0) (.inl (cA (mK a), mN a, .inl (upd (I a) j x))) (mw cA ad dy nc nt nl th mo (up2 I a j x) L) := by
  refine ⟨rfl, rfl, ?_, fun k hk hl => ?_⟩
  · show mEnt _ _ _ _ (a, 0, 0) = _
    unfold mEnt
    rw [if_neg h0, if_neg h1, up2_I]
  · have hne : k.1 ≠ a := fun z => hk (Prod.ext z hl.1)
    show mEnt _ _ _ _ k = mEnt _ _ _ _ k
    unfold mEnt
    rw [up2_a hne]
theorem mu_L {cA : Nat → ClassId} {ad : zk_K → Nat} {dy nc nt nl : Nat} {th : Int32} {mo : Int64} {I : zIA} {L : zLA} {a j : Nat} {x : Int64} (h1 : mK a = 1) : zk_up (mw cA ad dy nc nt nl th mo I L) (a, 0, 0) (.inl (cA 1, mN a, .inr (.inl (vp_updL (L a) j x)))) (mw cA ad dy nc nt nl th mo I (up2 L a j x)) := by
  have h0 : a ≠ 0 := fun z => by subst z; exact absurd h1 (by decide)
  refine ⟨rfl, rfl, ?_, fun k hk hl => ?_⟩
  · show mEnt _ _ _ _ (a, 0, 0) = _
    unfold mEnt
    rw [if_neg h0, if_pos h1, up2_L]
  · have hne : k.1 ≠ a := fun z => hk (Prod.ext z hl.1)
    show mEnt _ _ _ _ k = mEnt _ _ _ _ k
    unfold mEnt
    rw [up2_a hne]
theorem me_I {cA : Nat → ClassId} {ad : zk_K → Nat} {dy nc nt nl : Nat} {th : Int32} {mo : Int64} {I : zIA} {L : zLA} {a : Nat} (h0 : a ≠ 0) (h1 : mK a ≠ 1) : (mw cA ad dy nc nt nl th mo I L).2.2 (a, 0, 0) = .inl (cA (mK a), mN a, .inl (I a)) := by
  show mEnt _ _ _ _ (a, 0, 0) = _
  unfold mEnt
  rw [if_neg h0, if_neg h1]
theorem me_L {cA : Nat → ClassId} {ad : zk_K → Nat} {dy nc nt nl : Nat} {th : Int32} {mo : Int64} {I : zIA} {L : zLA} {a : Nat} (h1 : mK a = 1) : (mw cA ad dy nc nt nl th mo I L).2.2 (a, 0, 0) = .inl (cA 1, mN a, .inr (.inl (L a))) := by
  have h0 : a ≠ 0 := fun z => by subst z; exact absurd h1 (by decide)
  show mEnt _ _ _ _ (a, 0, 0) = _
  unfold mEnt
  rw [if_neg h0, if_pos h1]
theorem mN_lt : ∀ a, mN a < 2 ^ 31 := by
  intro a
  unfold mN
  split <;> decide
/-- x is a number below n -/
def zIn (x : Int32) (n : Nat) : Prop := ∃ j : Nat, j < n ∧ x = nI j
def zR (x a b : Int32) : Prop := a ≤ x ∧ x ≤ b
section MR
variable {p : Program} {l : Launch} {e : Env} {R : Room} {s : State} {m : MethodId} {args : Array Value} {below : List Frame} {meth : Method} {c : Code} {H : Heap} {locs : List Loc} {cells slots : Nat} {Q : State → Prop}
variable {cc : ByteArray} {pc nL index : Nat} {ls : Array Slot} {rest st0 : List Value} {D : va_G} {cA : Nat → ClassId} {A : Nat → Prop} {g : Nat → Nat} {Ts : List Cond} {own : String} {H0 : Heap}
variable {ad : zk_K → Nat} {dy nc nt nl dy' nc' nt' nl' : Nat} {th th' : Int32} {mo mo' : Int64} {I : zIA} {L : zLA}
/-- a field of the reference is read -/
theorem zm_get (C : zC p l m c cc nL s args Ts own D (zt cA) A g meth) (hin : ∀ w ∈ wsX50, w ∈ Ts) (hH : zk_H D A (mw cA ad dy nc nt nl th mo I L) H) (j : Nat) (hj : j < 25) (hlink : Cond.fieldLink own index (TX5 j).1 (TX5 j).2.1 (TX5 j).2.2.1 ∈ Ts) {v : Value} (hv : (mRow ad dy nc nt nl th mo)[j]? = some v) (hdg : decode cc pc = .ok (.getfield index, 3))
    (kk : W p l e R s m args below meth c H locs cells slots Q (F0 m (pc + 3) ls (v :: rest))) : W p l e R s m args below meth c H locs cells slots Q (F0 m pc ls (.ref (ad (0, 0, 0)) :: rest)) :=
  zr_get C hin (ci := 6) rfl hH (0, 0, 0) mL_o rfl j hj hlink (fun _ h => h) hv hdg kk
theorem zm_put (C : zC p l m c cc nL s args Ts own D (zt cA) A g meth) (hin : ∀ w ∈ wsX50, w ∈ Ts) (hH : zk_H D A (mw cA ad dy nc nt nl th mo I L) H) (hS : va_S A H0 H locs) (j : Nat) (hj : j < 25) (hlink : Cond.fieldLink own index (TX5 j).1 (TX5 j).2.1 (TX5 j).2.2.1 ∈ Ts) (hfin : (TX5 j).2.2.2 = false) {v : Value} (hn : narrow (tyX5 j) v = v) (hfit : fits (tyX5 j) v = true) (hdg : decode cc pc = .ok (.putfield index, 3))
    (dy' nc' nt' nl' : Nat) (th' : Int32) (mo' : Int64) (hw : (mRow ad dy nc nt nl th mo).set j v = mRow ad dy' nc' nt' nl' th' mo')
    (kk : ∀ (H1 : Heap) (locs1 : List Loc), zk_H D A (mw cA ad dy' nc' nt' nl' th' mo' I L) H1 → va_S A H0 H1 locs1 → W p l e R s m args below meth c H1 locs1 cells slots Q (F0 m (pc + 3) ls rest)) : W p l e R s m args below meth c H locs cells slots Q (F0 m pc ls (v :: .ref (ad (0, 0, 0)) :: rest)) :=
  zr_put C hin (ci := 6) rfl tyX5 tyX5_ok nmX5 hH hS (0, 0, 0) mL_o rfl j hj hlink (fun _ h => h) hfin hn hfit hj hdg _ (mu_row hw) kk
theorem zm_ild (C : zC p l m c cc nL s args Ts own D (zt cA) A g meth) (hH : zk_H D A (mw cA ad dy nc nt nl th mo I L) H) (a : Nat) (h0 : a ≠ 0) (h1 : mK a = 0) {i : Int32} {j : Nat} (hi : i = nI j) (hj : j < mN a) (hdg : decode cc pc = .ok (.iaload, 1))
    (kk : W p l e R s m args below meth c H locs cells slots Q (F0 m (pc + 1) ls (.int (I a j) :: rest))) : W p l e R s m args below meth c H locs cells slots Q (F0 m pc ls (.int i :: .ref (ad (a, 0, 0)) :: rest)) :=
  zr_iald C hH (a, 0, 0) (mL_a (by rw [h1]; decide)) (me_I h0 (by rw [h1]; decide)) 0 (by rw [h1]; rfl) hi hj (mN_lt a) hdg kk
theorem zm_zld (C : zC p l m c cc nL s args Ts own D (zt cA) A g meth) (hH : zk_H D A (mw cA ad dy nc nt nl th mo I L) H) (a : Nat) (h0 : a ≠ 0) (h1 : mK a = 2) {i : Int32} {j : Nat} (hi : i = nI j) (hj : j < mN a) (hdg : decode cc pc = .ok (.baload, 1))
    (kk : W p l e R s m args below meth c H locs cells slots Q (F0 m (pc + 1) ls (.int (I a j) :: rest))) : W p l e R s m args below meth c H locs cells slots Q (F0 m pc ls (.int i :: .ref (ad (a, 0, 0)) :: rest)) :=
  zr_zald C hH (a, 0, 0) (mL_a (by rw [h1]; decide)) (me_I h0 (by rw [h1]; decide)) 2 (by rw [h1]; rfl) hi hj (mN_lt a) hdg kk
theorem zm_lld (C : zC p l m c cc nL s args Ts own D (zt cA) A g meth) (hH : zk_H D A (mw cA ad dy nc nt nl th mo I L) H) (a : Nat) (h1 : mK a = 1) {i : Int32} {j : Nat} (hi : i = nI j) (hj : j < mN a) (hdg : decode cc pc = .ok (.laload, 1))
    (kk : W p l e R s m args below meth c H locs cells slots Q (F0 m (pc + 1) ls (.long (L a j) :: rest))) : W p l e R s m args below meth c H locs cells slots Q (F0 m pc ls (.int i :: .ref (ad (a, 0, 0)) :: rest)) :=
  zr_lald C hH (a, 0, 0) (mL_a (by rw [h1]; decide)) (me_L h1) 1 rfl hi hj (mN_lt a) hdg kk
theorem zm_ist (C : zC p l m c cc nL s args Ts own D (zt cA) A g meth) (hH : zk_H D A (mw cA ad dy nc nt nl th mo I L) H) (hS : va_S A H0 H locs) (a : Nat) (h0 : a ≠ 0) (h1 : mK a = 0) {i x : Int32} {j : Nat} (hi : i = nI j) (hj : j < mN a) (hdg : decode cc pc = .ok (.iastore, 1))
    (kk : ∀ (H1 : Heap) (locs1 : List Loc), zk_H D A (mw cA ad dy nc nt nl th mo (up2 I a j x) L) H1 → va_S A H0 H1 locs1 → W p l e R s m args below meth c H1 locs1 cells slots Q (F0 m (pc + 1) ls rest)) : W p l e R s m args below meth c H locs cells slots Q (F0 m pc ls (.int x :: .int i :: .ref (ad (a, 0, 0)) :: rest)) :=
  zr_iast C hH hS (a, 0, 0) (mL_a (by rw [h1]; decide)) (me_I h0 (by rw [h1]; decide)) 0 (by rw [h1]; rfl) hi hj (mN_lt a) hdg _ (mu_I h0 (by rw [h1]; decide)) kk
theorem zm_zst (C : zC p l m c cc nL s args Ts own D (zt cA) A g meth) (hH : zk_H D A (mw cA ad dy nc nt nl th mo I L) H) (hS : va_S A H0 H locs) (a : Nat) (h0 : a ≠ 0) (h1 : mK a = 2) {i x : Int32} (hx : x = 0 ∨ x = 1) {j : Nat} (hi : i = nI j) (hj : j < mN a) (hdg : decode cc pc = .ok (.bastore, 1))
    (kk : ∀ (H1 : Heap) (locs1 : List Loc), zk_H D A (mw cA ad dy nc nt nl th mo (up2 I a j x) L) H1 → va_S A H0 H1 locs1 → W p l e R s m args below meth c H1 locs1 cells slots Q (F0 m (pc + 1) ls rest)) : W p l e R s m args below meth c H locs cells slots Q (F0 m pc ls (.int x :: .int i :: .ref (ad (a, 0, 0)) :: rest)) :=
  zr_zast C hH hS (a, 0, 0) (mL_a (by rw [h1]; decide)) (me_I h0 (by rw [h1]; decide)) 2 (by rw [h1]; rfl) hx hi hj (mN_lt a) hdg _ (mu_I h0 (by rw [h1]; decide)) kk
theorem zm_lst (C : zC p l m c cc nL s args Ts own D (zt cA) A g meth) (hH : zk_H D A (mw cA ad dy nc nt nl th mo I L) H) (hS : va_S A H0 H locs) (a : Nat) (h1 : mK a = 1) {i : Int32} {x : Int64} {j : Nat} (hi : i = nI j) (hj : j < mN a) (hdg : decode cc pc = .ok (.lastore, 1))
    (kk : ∀ (H1 : Heap) (locs1 : List Loc), zk_H D A (mw cA ad dy nc nt nl th mo I (up2 L a j x)) H1 → va_S A H0 H1 locs1 → W p l e R s m args below meth c H1 locs1 cells slots Q (F0 m (pc + 1) ls rest)) : W p l e R s m args below meth c H locs cells slots Q (F0 m pc ls (.long x :: .int i :: .ref (ad (a, 0, 0)) :: rest)) :=
  zr_last C hH hS (a, 0, 0) (mL_a (by rw [h1]; decide)) (me_L h1) 1 rfl hi hj (mN_lt a) hdg _ (mu_L h1) kk
end MR
theorem zi_add {x y : Int32} {a b : Nat} (hx : x = nI a) (hy : y = nI b) : x + y = nI (a + b) := by rw [hx, hy, nI_add]
theorem zi_mul {x y : Int32} {a b : Nat} (hx : x = nI a) (hy : y = nI b) : x * y = nI (a * b) := by rw [hx, hy, pk_mul]
/-- what 'fails' answers -/
def fV (k : Int32) : Int32 := if 0 < k then 1 else 0
/-- the costs of an amount -/
def costL (x : Int64) : Int64 := x * (if x < 10000 then 100 else if x < 100000 then 50 else 20) / 10000
def partsL (I : zIA) (f : Nat) (its : Int64) : Int64 := its * 1000 / Int32.toInt64 (I 1 f)
def amountL (I : zIA) (f : Nat) (many : Int64) : Int64 := many * Int32.toInt64 (I 1 f) / 1000
def valueL (I : zIA) (L : zLA) (c f : Nat) : Int64 := amountL I f (L 8 (6 * c + f))
/-- cash and the first k funds' values -/
def wealthL (I : zIA) (L : zLA) (c : Nat) : Nat → Int64
  | 0 => L 6 c
  | k + 1 => wealthL I L c k + valueL I L c k
/-- units that are bought when 'many' parts are more than the stock -/
def moreL (L : zLA) (f : Nat) (many : Int64) : Int64 := (many - L 3 f + 1000 - 1) / 1000
def moveM (I : zIA) (L : zLA) (f : Nat) (many : Int64) (mo : Int64) : Int64 := if L 3 f < many then mo - moreL L f many * Int32.toInt64 (I 1 f) else mo
def moveS (L : zLA) (f : Nat) (many : Int64) : zLA := if L 3 f < many then up2 (up2 L 2 f (L 2 f + moreL L f many)) 3 f (L 3 f + moreL L f many * 1000) else L
def moveL (L : zLA) (c f : Nat) (many : Int64) : zLA := up2 (up2 (moveS L f many) 3 f (moveS L f many 3 f - many)) 8 (6 * c + f) (L 8 (6 * c + f) + many)
def payL (L : zLA) (c : Nat) (its : Int64) : zLA := up2 L 6 c (L 6 c - its)
/-- what a trade takes from the client's cash -/
def paidL (many its : Int64) : Int64 := if 0 < many then its + costL its else costL its - its
/-- a trade's own rows -/
def noteI (I : zIA) (nt dy c f : Nat) : zIA := up2 (up2 (up2 (up2 I 11 nt (nI c)) 12 nt (nI f)) 16 nt (nI dy)) 17 nt 1
def noteR (L : zLA) (nt : Nat) (many its : Int64) : zLA := up2 (up2 (up2 L 13 nt many) 14 nt its) 15 nt (costL its)
def noteL (L : zLA) (nt c f : Nat) (many its : Int64) : zLA := moveL (payL (noteR L nt many its) c (paidL many its)) c f many
def noteM (I : zIA) (L : zLA) (f : Nat) (many its : Int64) (mo : Int64) : Int64 := moveM I L f many (mo + paidL many its)
theorem zIn_le {x b : Int32} {n : Nat} (hn : n < 2 ^ 30) (hb : b = nI n - 1) : b.toInt = (n : Int) - 1 := by
  have h := pk_sub_toInt (a := n) (b := 1) hn (by decide)
  rw [hb]
  exact h
theorem zIn_of {x b : Int32} {n : Nat} (hn : n < 2 ^ 30) (h : zR x 0 b) (hb : b = nI n - 1) : zIn x n := by
  have e := zIn_le (x := x) hn hb
  obtain ⟨j, hj, rfl⟩ := nI_of (Int32.not_lt.mpr h.1)
  have h2 := Int32.le_iff_toInt_le.mp h.2
  rw [e, nI_toInt hj] at h2
  exact ⟨j, by omega, rfl⟩
theorem zIn_no {x b : Int32} {n : Nat} (hn : n < 2 ^ 30) (h : ¬ zR x 0 b) (hb : b = nI n - 1) : ¬ zIn x n := by
  have e := zIn_le (x := x) hn hb
  rintro ⟨j, hj, rfl⟩
  refine h ⟨nI_pos' (by omega), Int32.le_iff_toInt_le.mpr ?_⟩
  rw [e, nI_toInt (by omega)]
  omega
