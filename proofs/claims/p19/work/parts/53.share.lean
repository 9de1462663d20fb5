/-! ===== a share, bit by bit, is the cut quotient ===== -/
theorem pf_lI {a : Nat} (h : a < 2 ^ 63) : (lN a).toInt = (a : Int) := lg_ofNat_toInt h
theorem pf_shr {a d : Nat} {D : Int64} (hD : (D.toBitVec.smod 64).toNat = d) (h : a < 2 ^ 62) : lN a >>> D = lN (a / 2 ^ d) := by
  have hd : a / 2 ^ d ≤ a := Nat.div_le_self _ _
  apply Int64.toInt_inj.mp
  have e : (lN a >>> D).toInt = (lN a).toInt >>> d := by
    rw [← hD]
    exact BitVec.toInt_sshiftRight ..
  rw [e, Int.shiftRight_eq_div_pow, pf_lI (by omega), pf_lI (by omega)]
  rfl
theorem pf_and1 {a : Nat} (ha : a < 2 ^ 64) : lN a &&& 1 = lN (a % 2) := by
  apply Int64.toBitVec_inj.mp
  rw [Int64.toBitVec_and]
  apply BitVec.eq_of_toNat_eq
  show (BitVec.ofNat 64 a &&& BitVec.ofNat 64 1).toNat = (BitVec.ofNat 64 (a % 2)).toNat
  rw [BitVec.toNat_and, BitVec.toNat_ofNat, BitVec.toNat_ofNat, BitVec.toNat_ofNat, Nat.mod_eq_of_lt ha, Nat.mod_eq_of_lt (show 1 < 2 ^ 64 by decide), Nat.mod_eq_of_lt (show a % 2 < 2 ^ 64 by omega)]
  exact Nat.and_two_pow_sub_one_eq_mod a 1
theorem sh_amt : ∀ i, i < 51 → (((Int32.toInt64 (shK i)) &&& 63).toBitVec.smod 64).toNat = 50 - i := by decide +kernel
theorem sh_bit {X i : Nat} (hX : X < 2 ^ 62) (hi : i < 51) : lN X >>> ((Int32.toInt64 (shK i)) &&& 63) &&& 1 = lN (X / 2 ^ (50 - i) % 2) := by
  have hd : X / 2 ^ (50 - i) ≤ X := Nat.div_le_self _ _
  rw [pf_shr (sh_amt i hi) hX, pf_and1 (by omega)]
theorem shF_rel {X G Q : Nat} (hX : X ≤ 200000000) (hG : G ≤ Q) (hQ0 : 0 < Q) (hQ : Q ≤ 10000000000) : ∀ i, i ≤ 51 → ∃ F R : Nat, shF (lN X) (lN G) (lN Q) i = (lN F, lN R) ∧ F * Q + R = X / 2 ^ (51 - i) * G ∧ R < Q ∧ F ≤ X
  | 0, _ => by
    refine ⟨0, 0, rfl, ?_, hQ0, Nat.zero_le _⟩
    have h51 : (2 : Nat) ^ (51 - 0) = 2251799813685248 := by decide
    rw [h51, Nat.div_eq_of_lt (by omega)]
    omega
  | i + 1, hi => by
    obtain ⟨F, R, e, h1, h2, h3⟩ := shF_rel hX hG hQ0 hQ i (by omega)
    obtain ⟨b, hb⟩ : ∃ b, b = X / 2 ^ (50 - i) % 2 := ⟨_, rfl⟩
    obtain ⟨Y, hY⟩ : ∃ Y, Y = X / 2 ^ (51 - i) := ⟨_, rfl⟩
    obtain ⟨Z, hZ⟩ : ∃ Z, Z = X / 2 ^ (50 - i) := ⟨_, rfl⟩
    have hYZ : Z = 2 * Y + b := by
      have : X / 2 ^ (51 - i) = X / 2 ^ (50 - i) / 2 := by
        rw [Nat.div_div_eq_div_mul, show 51 - i = (50 - i) + 1 by omega, Nat.pow_succ]
      rw [hb, hY, this, ← hZ]
      omega
    have hb1 : b ≤ 1 := by rw [hb]; omega
    have hZX : Z ≤ X := by rw [hZ]; exact Nat.div_le_self _ _
    have hbG : b * G ≤ G := by
      have := Nat.mul_le_mul_right G hb1
      omega
    obtain ⟨S, hS⟩ : ∃ S, S = 2 * R + b * G := ⟨_, rfl⟩
    have hR : shR (lN X) (lN G) i (lN R) = lN S := by
      unfold shR
      rw [sh_bit (by omega) (by omega), ← hb, lN_mul, show (2 : Int64) = lN 2 from rfl, lN_mul, lN_add, hS]
    have hSb : S < 2 ^ 63 := by omega
    have hF2 : (2 * F + S / Q) * Q + S % Q = Z * G := by
      have e1 : (2 * F + S / Q) * Q = 2 * (F * Q) + Q * (S / Q) := by rw [Nat.add_mul, Nat.mul_assoc, Nat.mul_comm (S / Q)]
      have e2 := Nat.div_add_mod S Q
      have e3 : Z * G = 2 * (Y * G) + b * G := by rw [hYZ, Nat.add_mul, Nat.mul_assoc]
      rw [← hY] at h1
      omega
    have hSQ : S % Q < Q := Nat.mod_lt _ hQ0
    refine ⟨2 * F + S / Q, S % Q, ?_, ?_, hSQ, ?_⟩
    · show (2 * (shF (lN X) (lN G) (lN Q) i).1 + shR (lN X) (lN G) i (shF (lN X) (lN G) (lN Q) i).2 / lN Q, shR (lN X) (lN G) i (shF (lN X) (lN G) (lN Q) i).2 - shR (lN X) (lN G) i (shF (lN X) (lN G) (lN Q) i).2 / lN Q * lN Q) = _
      rw [e]
      show (2 * lN F + shR (lN X) (lN G) i (lN R) / lN Q, shR (lN X) (lN G) i (lN R) - shR (lN X) (lN G) i (lN R) / lN Q * lN Q) = _
      rw [hR, pk_lRem hSb hQ0 (by omega), pk_lDiv hSb hQ0 (by omega), show (2 : Int64) = lN 2 from rfl, lN_mul, lN_add]
    · rw [hF2, hZ, show 51 - (i + 1) = 50 - i by omega]
    · have h4 : (2 * F + S / Q) * Q ≤ X * Q := by
        have h5 : Z * G ≤ X * Q := Nat.mul_le_mul hZX hG
        omega
      exact Nat.le_of_mul_le_mul_right h4 hQ0
theorem shOK_t : shOK := by
  rintro q x g ⟨⟨hq0, hq1⟩, hx0, hx1⟩ hg hqg
  have h0 : (0 : Int64).toInt = 0 := rfl
  obtain ⟨Q, hQ, rfl⟩ := pk_lOf (x := q) (by rw [i64_lt]; omega)
  obtain ⟨X, hX, rfl⟩ := pk_lOf (x := x) (by rw [i64_lt]; omega)
  obtain ⟨G, hG, rfl⟩ := pk_lOf (x := g) (by rw [i64_lt] at hg ⊢; omega)
  rw [pk_lT hQ] at hq0 hq1
  rw [pk_lT hX] at hx0 hx1
  rw [i64_lt, pk_lT hG] at hg
  rw [i64_lt, pk_lT hG, pk_lT hQ] at hqg
  have hQ1 : Q ≤ 10000000000 := by omega
  have hX1 : X ≤ 200000000 := by omega
  have hGQ : G ≤ Q := by omega
  have hG0 : 0 < G := by omega
  have hP : X * G ≤ 200000000 * 10000000000 := Nat.mul_le_mul hX1 (by omega)
  have hD : lN X * lN G / lN Q = lN (X * G / Q) := by rw [lN_mul, pk_lDiv (by omega) (by omega) hQ]
  have hDX : X * G / Q ≤ X := by
    have h1 : X * G ≤ X * Q := Nat.mul_le_mul_left X hGQ
    exact Nat.div_le_of_le_mul (by rw [Nat.mul_comm Q]; exact h1)
  rw [hD]
  refine ⟨fun z => ?_, fun _ => ?_, ?_⟩
  · have e := (pk_lEQ hG hQ).mp z
    subst e
    rw [Nat.mul_div_cancel _ hG0]
  · obtain ⟨F, R, e, h1, h2, -⟩ := shF_rel hX1 hGQ (by omega) hQ1 51 (Nat.le_refl _)
    unfold shareV
    rw [e]
    show lN F = _
    rw [Nat.sub_self, Nat.pow_zero, Nat.div_one] at h1
    rw [← h1, Nat.mul_comm F, Nat.mul_add_div (by omega), Nat.div_eq_of_lt h2, Nat.add_zero]
  · rw [lN_sub hGQ, lN_sub hDX]
    clear hD hP
    generalize X * G / Q = E at hDX
    unfold bndL
    rw [pk_lT (by omega), pk_lT (by omega)]
    omega
