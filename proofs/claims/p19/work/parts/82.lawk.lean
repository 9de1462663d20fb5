/-! ===== the law's body: its numbers, and how it goes on ===== -/
def icV (c n : Nat) : Int32 := if c < n then 1 else 0
def arV (c n f : Nat) : Int32 := if c < n ∧ f < 6 then 1 else 0
def prV (one two : Nat) : Nat := if one % 4 = 0 then 10 + two * 16 else if one % 4 = 1 then 10 + two % 3000 else 5000 + two % 20000
def pcV (two : Nat) : Int32 := if two % 3 = 0 then nI (two * 333) - 9990000 else nI (two * 15)
def gvV (two : Nat) : Nat := if two / 7 % 3 = 0 then two / 7 % 102 else two / 7 % 40
def bvV (two : Nat) : Nat := if two / 7 % 3 = 0 then 1 + two * 100 else if two / 7 % 3 = 1 then 1 + two else 1 + two % 12000
def slV (one two : Nat) (has : Int64) : Int32 := if two / 7 % 3 = 0 then nI (1 + two) else if 0 < has ∧ has < 1000000000 then 1 + Int64.toInt32 ((Int32.toInt64 (nI two) * 7919 + Int32.toInt64 (nI one)) - (Int32.toInt64 (nI two) * 7919 + Int32.toInt64 (nI one)) / has * has) else 1000000000
def dvV (one dy : Nat) : Nat := if one % 3 = 0 then 1 + one % 400 else if one % 3 = 1 then 360 - dy % 360 else 1 + one % 9
theorem pr_bd {one two : Nat} (h : two < 60000) : 10 ≤ prV one two ∧ prV one two ≤ 1000000 := by
  unfold prV
  split
  · omega
  · split <;> omega
theorem gv_bd {two : Nat} : gvV two < 102 := by
  unfold gvV
  split <;> omega
theorem bv_bd {two : Nat} (h : two < 60000) : 1 ≤ bvV two ∧ bvV two ≤ 10000000 := by
  unfold bvV
  split
  · omega
  · split <;> omega
theorem dv_bd {one dy : Nat} : 1 ≤ dvV one dy ∧ dvV one dy ≤ 400 := by
  unfold dvV
  split
  · omega
  · split <;> omega
theorem zR_of {n a b : Nat} (h1 : a ≤ n) (h2 : n ≤ b) (hb : b < 2 ^ 31) : zR (nI n) (nI a) (nI b) := ⟨nI_le h1 (by omega), nI_le h2 hb⟩
theorem pc_bd {two : Nat} (h : two < 60000) : zR (pcV two) (-10000000) 10000000 := by
  have e : (nI (two * 333)).toInt = ((two * 333 : Nat) : Int) := nI_toInt (by omega)
  have e2 : (nI (two * 15)).toInt = ((two * 15 : Nat) : Int) := nI_toInt (by omega)
  have k1 : (9990000 : Int32).toInt = 9990000 := rfl
  have k2 : (-10000000 : Int32).toInt = -10000000 := rfl
  have k3 : (10000000 : Int32).toInt = 10000000 := rfl
  unfold pcV zR
  rw [i32_le, i32_le, k2, k3]
  split
  · rw [Int32.toInt_sub, e, k1, Int.bmod_eq_of_le (by omega) (by omega)]
    omega
  · rw [e2]
    omega
theorem sl_bd {one two : Nat} {has : Int64} (ho : one < 60000) (h : two < 60000) : zR (slV one two has) 1 1000000000 := by
  have k1 : (1 : Int32).toInt = 1 := rfl
  have k3 : (1000000000 : Int32).toInt = 1000000000 := rfl
  unfold slV zR
  rw [i32_le, i32_le, k1, k3]
  split
  · rw [nI_toInt (by omega)]
    omega
  · split
    · rename_i z
      obtain ⟨z1, z2⟩ := z
      have kb : (1000000000 : Int64).toInt = 1000000000 := rfl
      have k7 : (7919 : Int64).toInt = 7919 := rfl
      rw [i64_lt, i64_0] at z1
      rw [i64_lt, kb] at z2
      have e1 : (Int32.toInt64 (nI two)).toInt = (two : Int) := by rw [i32_64, nI_toInt (by omega)]
      have e2 : (Int32.toInt64 (nI one)).toInt = (one : Int) := by rw [i32_64, nI_toInt (by omega)]
      have m1 : (Int32.toInt64 (nI two) * 7919).toInt = (two : Int) * 7919 := by rw [i64_mul (by rw [e1, k7]; omega) (by rw [e1, k7]; omega), e1, k7]
      obtain ⟨S, hS⟩ : ∃ S, S = Int32.toInt64 (nI two) * 7919 + Int32.toInt64 (nI one) := ⟨_, rfl⟩
      have hSi : S.toInt = (two : Int) * 7919 + (one : Int) := by rw [hS, i64_add (by rw [m1, e2]; omega) (by rw [m1, e2]; omega), m1, e2]
      rw [← hS]
      have d1 : (S / has).toInt = S.toInt / has.toInt := i64_div (by omega) z1
      have p1 : S.toInt / has.toInt * has.toInt ≤ S.toInt := Int.ediv_mul_le _ (by omega)
      have p0 : 0 ≤ S.toInt / has.toInt := Int.ediv_nonneg (by omega) (by omega)
      have p2 : 0 ≤ S.toInt / has.toInt * has.toInt := Int.mul_nonneg p0 (by omega)
      have p3 : S.toInt < (S.toInt / has.toInt + 1) * has.toInt := Int.lt_ediv_add_one_mul_self _ z1
      have p4 : (S.toInt / has.toInt + 1) * has.toInt = S.toInt / has.toInt * has.toInt + has.toInt := by rw [Int.add_mul, Int.one_mul]
      have m2 : (S / has * has).toInt = S.toInt / has.toInt * has.toInt := by rw [i64_mul (by rw [d1]; omega) (by rw [d1]; omega), d1]
      have m3 : (S - S / has * has).toInt = S.toInt - S.toInt / has.toInt * has.toInt := by rw [i64_sub (by rw [m2]; omega) (by rw [m2]; omega), m2]
      have m4 : (Int64.toInt32 (S - S / has * has)).toInt = S.toInt - S.toInt / has.toInt * has.toInt := by
        rw [Int64.toInt_toInt32, m3]
        exact Int.bmod_eq_of_le (by omega) (by omega)
      rw [Int32.toInt_add, k1, m4, Int.bmod_eq_of_le (by omega) (by omega)]
      omega
    · omega
section LAWK
variable {p : Program} {l : Launch} {e : Env} {s : State} {m : MethodId} {below : List Frame} {meth : Method} {c : Code} {D : va_G} {cA : Nat → ClassId} {A : Nat → Prop} {g : Nat → Nat}
/-- the law goes on behind a turn -/
def lwK (p : Program) (l : Launch) (e : Env) (s : State) (m : MethodId) (below : List Frame) (meth : Method) (c : Code) (D : va_G) (cA : Nat → ClassId) (A : Nat → Prop) (g : Nat → Nat) (sb k one two b a0 : Nat) (ad : zk_K → Nat) (cells slots : Nat) (Q : State → Prop) : Prop :=
  ∀ (ac : zk_K → Nat) (nc nt dy : Nat) (mo : Int64) (I : zIA) (L : zLA) (Ia : zIA) (La : zLA) (H : Heap) (locs : List Loc) (ls : Array Slot), zk_H D A (zk_sum 50 (cw cA (g 0) ac 6 nc nc 6 nt dy mo I L) (aw cA ad Ia La)) H → va_S A s.heap H locs → zJ nc nt dy b mo I L Ia La → 1 ≤ nc → ac (0, 0, 0) = a0 →
    lv_has ls 33 [(0, .ref sb), (1, .ref a0), (2, .ref (ad (0, 0, 0))), (3, .ref (ad (1, 0, 0))), (4, .ref (ad (2, 0, 0))), (5, .ref (ad (3, 0, 0))), (6, .ref (ad (4, 0, 0))), (7, .ref (ad (5, 0, 0))), (8, .ref (ad (6, 0, 0))), (9, .ref (ad (7, 0, 0))), (10, .ref (ad (8, 0, 0))), (11, .ref (ad (9, 0, 0))), (12, .ref (ad (10, 0, 0))), (13, .int 1), (14, .int (nI k)), (16, .int (nI one)), (17, .int (nI two))] →
    W p l e room_1 s m #[.ref sb] below meth c H locs cells slots Q (F0 m 2146 ls [])
end LAWK
theorem pk_s1 {n : Nat} : nI (n + 1) - 1 = nI n := by
  rw [show (1 : Int32) = nI 1 from rfl, pk_sub (Nat.le_add_left 1 n), Nat.add_sub_cancel]
theorem i32_lt2 {a b : Int32} : a < b ↔ a.toInt < b.toInt := Int32.lt_iff_toInt_lt
theorem i32_101 {x : Int32} : 101 ≤ x ↔ 100 < x := by
  rw [i32_le, i32_lt2]
  have k1 : (101 : Int32).toInt = 101 := rfl
  have k2 : (100 : Int32).toInt = 100 := rfl
  omega
theorem up2_z {L : zLA} {a i : Nat} : up2 L a i (L a i + 0) = L := by
  rw [Int64.add_zero, up2_self]
theorem zno {a n : Nat} (hn : n ≤ 100000) (ha : a < 2 ^ 31) (h : ¬ a < n) : ¬ zIn (nI a) n := by
  rintro ⟨j, hj, e⟩
  have := (nI_eq ha (by omega)).mp e
  omega
theorem zno2 {a b n m : Nat} (hn : n ≤ 100000) (hm : m ≤ 100000) (ha : a < 2 ^ 31) (hb : b < 2 ^ 31) (h : ¬ (a < n ∧ b < m)) : ¬ (zIn (nI a) n ∧ zIn (nI b) m) := by
  rintro ⟨⟨j, hj, e⟩, ⟨k, hk, e2⟩⟩
  have h1 := (nI_eq ha (by omega)).mp e
  have h2 := (nI_eq hb (by omega)).mp e2
  exact h ⟨by omega, by omega⟩
theorem pk_s5 {n : Nat} : nI (n + 524288) - 524288 = nI n := by
  rw [show (524288 : Int32) = nI 524288 from rfl, pk_sub (Nat.le_add_left 524288 n), Nat.add_sub_cancel]
theorem pk_cf {n : Nat} {I : zIA} {L : zLA} (hO : trOK n I L) (hD : ∀ k, k < n → dN (I 11 k) < 4) {k : Nat} (hk : k < n) : pkT I k % 4 = dN (I 11 k) ∧ pkT I k / 4 % 8 = dN (I 12 k) ∧ (¬ I 17 k = 0 → pkT I k < 524288) := by
  obtain ⟨-, z12, z16, -⟩ := hO k hk
  have h1 := hD k hk
  have h2 := z12.2
  have h3 := z16.2
  unfold pkT
  by_cases h : I 17 k = 0
  · rw [if_pos h]
    exact ⟨by omega, by omega, fun z => absurd h z⟩
  · rw [if_neg h]
    exact ⟨by omega, by omega, fun _ => by omega⟩
theorem zD_nI' {a n : Nat} (h : a < n) (hn : n ≤ 100000000) : zD (nI a) n := by
  have e : dN (nI a) = a := dN_nI (by omega)
  refine ⟨?_, ?_⟩
  · rw [e]
  · rw [e]
    exact h
theorem nI_gt {a b : Nat} (h : a ≤ b) (hb : b < 2 ^ 31) : ¬ nI b < nI a := Int32.not_lt.mpr (nI_le h hb)
theorem nI_lt' {a b : Nat} (ha : a < 2 ^ 31) (hb : b < 2 ^ 31) (h : a < b) : nI a < nI b := Int32.not_le.mp (fun z => absurd ((nI_leI hb ha).mp z) (by omega))
