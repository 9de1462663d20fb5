/-! ===== a trade is made: what it keeps, and the reference's ===== -/
theorem tdL_a {L : zLA} {nt a : Nat} {q x : Int64} (h13 : a ≠ 13) (h14 : a ≠ 14) (h15 : a ≠ 15) (h31 : a ≠ 31) (h32 : a ≠ 32) : tdL L nt q x a = L a := by
  unfold tdL noteR
  rw [up2_a h32, up2_a h31, up2_a h15, up2_a h14, up2_a h13]
theorem tdL_i {L : zLA} {nt a i : Nat} {q x : Int64} (h : i ≠ nt) : tdL L nt q x a i = L a i := by
  unfold tdL noteR
  rw [up2_i h, up2_i h, up2_i h, up2_i h, up2_i h]
theorem tdL_13 {L : zLA} {nt : Nat} {q x : Int64} : tdL L nt q x 13 nt = q := by simp [tdL, noteR, up2]
theorem tdL_14 {L : zLA} {nt : Nat} {q x : Int64} : tdL L nt q x 14 nt = x := by simp [tdL, noteR, up2]
theorem tdL_15 {L : zLA} {nt : Nat} {q x : Int64} : tdL L nt q x 15 nt = costL x := by simp [tdL, noteR, up2]
theorem tdL_31 {L : zLA} {nt : Nat} {q x : Int64} : tdL L nt q x 31 nt = 0 := by simp [tdL, noteR, up2]
theorem tdL_32 {L : zLA} {nt : Nat} {q x : Int64} : tdL L nt q x 32 nt = 0 := by simp [tdL, noteR, up2]
theorem noteI_i {I : zIA} {nt dy c f a i : Nat} (h : i ≠ nt) : noteI I nt dy c f a i = I a i := by
  unfold noteI
  rw [up2_i h, up2_i h, up2_i h, up2_i h]
theorem noteI_11 {I : zIA} {nt dy c f : Nat} : noteI I nt dy c f 11 nt = nI c := by simp [noteI, up2]
theorem noteI_12 {I : zIA} {nt dy c f : Nat} : noteI I nt dy c f 12 nt = nI f := by simp [noteI, up2]
theorem noteI_16 {I : zIA} {nt dy c f : Nat} : noteI I nt dy c f 16 nt = nI dy := by simp [noteI, up2]
theorem noteI_17 {I : zIA} {nt dy c f : Nat} : noteI I nt dy c f 17 nt = 1 := by simp [noteI, up2]
theorem pay_tdL {L : zLA} {nt : Nat} {q x : Int64} (h : ¬ q = 0) : payT (tdL L nt q x) nt = paidL q x := by
  unfold payT paidL
  rw [tdL_13, tdL_14, tdL_15]
  by_cases h1 : q < 0
  · rw [if_pos h1, if_neg]
    rw [i64_lt] at h1 ⊢
    omega
  · rw [if_neg h1, if_pos, Int64.add_comm]
    rw [i64_lt] at h1 ⊢
    have : q.toInt ≠ (0 : Int64).toInt := fun z => h (Int64.toInt_inj.mp z)
    omega
theorem noteR_same {L L' : zLA} {nt : Nat} {q x : Int64} (hL : ∀ a, a < 20 → L a = L' a) : ∀ a, a < 20 → tdL L nt q x a = noteR L' nt q x a := by
  intro a ha
  unfold tdL
  rw [up2_a (by omega), up2_a (by omega)]
  unfold noteR
  funext i
  simp only [up2]
  rw [hL a ha]
/-- the reference's rows of a trade are the class's -/
theorem note_same {nt dy c f b : Nat} {I : zIA} {L L' : zLA} {q x mo : Int64} (hL : ∀ a, a < 20 → L a = L' a) (h3 : L 3 f - q < 0 ↔ L 3 f < q) (hq : ¬ q = 0) : (∀ a, a < 20 → mtL I L nt dy c f q x a = noteL L' nt c f q x a) ∧ mtM I L nt dy c f q x mo = noteM I L' f q x mo := by
  have t3 : tdL L nt q x 3 = L 3 := tdL_a (by decide) (by decide) (by decide) (by decide) (by decide)
  constructor
  · intro a ha
    unfold mtL noteL
    rw [elS_a (by omega) (by omega) (by omega), pay_tdL hq]
    exact ex_same (noteR_same hL) (by rw [t3]; exact h3) a ha
  · unfold mtM noteM
    rw [pay_tdL hq, exM_same (L' := L') (by rw [t3, hL 3 (by decide)]) (by rw [t3]; exact h3)]
    unfold moveM
    rw [noteI_1]
theorem note_inv {nc nt dy b c f : Nat} {I : zIA} {L : zLA} {q x : Int64} (h : zInv nc nt dy b I L) (hc : c < nc) (hf : f < 6) (hnt : nt < 120) (hb : b ≤ 10000) (hq0 : ¬ q = 0) (hq1 : q.toInt ≤ 10000000000) (hx : 0 < q → 0 ≤ (x + costL x).toInt ∧ (x + costL x).toInt ≤ 200000000) (hp : 0 ≤ (L 8 (6 * c + f)).toInt + q.toInt) :
    zInv nc (nt + 1) dy (b + 1) (noteI I nt dy c f) (mtL I L nt dy c f q x) := by
  have hpa := h.pa hc hf
  obtain ⟨⟨n1, n2, n3⟩, hPr, hGo, hTr, hOK, hPa, hSt, hCl, hBe⟩ := h
  have hqm : -1200000000000 ≤ q.toInt := by omega
  obtain ⟨Z, hZ⟩ : ∃ Z, Z = exL (tdL L nt q x) c f q (payT (tdL L nt q x) nt) := ⟨_, rfl⟩
  obtain ⟨I1, hI1⟩ : ∃ I1, I1 = noteI I nt dy c f := ⟨_, rfl⟩
  obtain ⟨L1, hL1⟩ : ∃ L1, L1 = elS I1 Z nt := ⟨_, rfl⟩
  have hmt : mtL I L nt dy c f q x = L1 := by rw [hL1, hZ, hI1]; rfl
  rw [hmt, ← hI1]
  have iI : ∀ a i, i ≠ nt → I1 a i = I a i := fun a i hi => by rw [hI1]; exact noteI_i hi
  have i11 : I1 11 nt = nI c := by rw [hI1]; exact noteI_11
  have i12 : I1 12 nt = nI f := by rw [hI1]; exact noteI_12
  have i16 : I1 16 nt = nI dy := by rw [hI1]; exact noteI_16
  have i17 : I1 17 nt = 1 := by rw [hI1]; exact noteI_17
  have d11 : dN (I1 11 nt) = c := by rw [i11]; exact dN_nI (by omega)
  have d12 : dN (I1 12 nt) = f := by rw [i12]; exact dN_nI (by omega)
  have d16 : dN (I1 16 nt) = dy := by rw [i16]; exact dN_nI (by omega)
  have lZ : ∀ a, a ≠ 30 → a ≠ 31 → a ≠ 32 → L1 a = Z a := fun a a1 a2 a3 => by rw [hL1]; exact elS_a a1 a2 a3
  have zT : ∀ a, a ≠ 2 → a ≠ 3 → a ≠ 6 → a ≠ 8 → Z a = tdL L nt q x a := fun a a1 a2 a3 a4 => by rw [hZ]; exact exL_a a1 a2 a3 a4
  have z13 : ∀ a, a = 13 ∨ a = 14 ∨ a = 15 → L1 a = tdL L nt q x a := fun a ha => by rw [lZ a (by omega) (by omega) (by omega), zT a (by omega) (by omega) (by omega) (by omega)]
  have z13i : ∀ a, a = 13 ∨ a = 14 ∨ a = 15 → ∀ i, i ≠ nt → L1 a i = L a i := fun a ha i hi => by rw [z13 a ha, tdL_i hi]
  have z30 : Z 30 = L 30 := by rw [zT 30 (by decide) (by decide) (by decide) (by decide), tdL_a (by decide) (by decide) (by decide) (by decide) (by decide)]
  have hlt : ∀ {t}, t < nt + 1 → t ≠ nt → t < nt := fun h1 h2 => by omega
  have hBd : ∀ t, t < nt → -1200000000000 ≤ (L 13 t).toInt ∧ (L 13 t).toInt ≤ 10000000000 := fun t ht => ⟨(hTr t ht).2.2, (hOK t ht).2.2.2.2.1⟩
  have hcg : ∀ k, (∀ i, i < nt → dN (I 11 i) = k → flS I L k nt 31 i = flS I1 L1 k nt 31 i ∧ flS I L k nt 32 i = flS I1 L1 k nt 32 i) ∧ ∀ y, y < 21 → flS I L k nt 30 (21 * k + y) = flS I1 L1 k nt 30 (21 * k + y) := fun k =>
    flS_cong (n := nt) (fun i hi => by rw [iI 11 i (by omega)]) (fun i hi _ => by
      rw [iI 12 i (by omega), iI 16 i (by omega), iI 17 i (by omega), z13i 13 (Or.inl rfl) i (by omega), z13i 14 (Or.inr (Or.inl rfl)) i (by omega), z13i 15 (Or.inr (Or.inr rfl)) i (by omega)]
      exact ⟨rfl, rfl, Iff.rfl, rfl, rfl, rfl⟩) nt (Nat.le_refl nt)
  have h30 : ∀ k y, y < 21 → k < nc → ¬ (k = c ∧ y = dy / 360) → L1 30 (21 * k + y) = L 30 (21 * k + y) := by
    intro k y hy hk hne
    rw [hL1, elS_30, if_neg, z30]
    rintro ⟨-, z⟩
    rw [d11, d16] at z
    apply hne
    omega
  refine ⟨⟨n1, by omega, n3⟩, ?_, ?_, ?_, ?_, ?_, ?_, ?_, ?_⟩
  · intro k hk
    rw [hI1, noteI_1]
    exact hPr k hk
  · intro i
    rw [hI1, noteI_7]
    exact hGo i
  · intro t ht
    by_cases e : t = nt
    · subst e
      refine ⟨?_, Or.inr i17, ?_⟩
      · rw [i11]
        exact zD_nI hc (by omega)
      · rw [z13 13 (Or.inl rfl), tdL_13]
        exact hqm
    · rw [iI 11 t e, iI 17 t e, z13i 13 (Or.inl rfl) t e]
      exact hTr t (hlt ht e)
  · intro t ht
    by_cases e : t = nt
    · subst e
      rw [i11, i12, i16, z13 13 (Or.inl rfl), z13 14 (Or.inr (Or.inl rfl)), z13 15 (Or.inr (Or.inr rfl)), tdL_13, tdL_14, tdL_15]
      exact ⟨zD_nI (by omega) (by decide), zD_nI hf (by decide), zD_nI (by omega) (by decide), hq0, hq1, hx⟩
    · rw [iI 11 t e, iI 12 t e, iI 16 t e, z13i 13 (Or.inl rfl) t e, z13i 14 (Or.inr (Or.inl rfl)) t e, z13i 15 (Or.inr (Or.inr rfl)) t e]
      exact hOK t (hlt ht e)
  · intro k j hk hj
    have hen : enS I1 L1 k j nt = enS I L k j nt := enS_c (n := nt) (fun t ht => ⟨iI 11 t (by omega), iI 12 t (by omega), iI 17 t (by omega), z13i 13 (Or.inl rfl) t (by omega)⟩) nt (Nat.le_refl nt)
    obtain ⟨p1, p2⟩ := hPa k j hk hj
    have e8 : L1 8 (6 * k + j) = if 6 * k + j = 6 * c + f then L 8 (6 * c + f) + q else L 8 (6 * k + j) := by
      rw [lZ 8 (by decide) (by decide) (by decide), hZ, exL_8, tdL_a (by decide) (by decide) (by decide) (by decide) (by decide)]
    rw [enS_2, hen]
    unfold enA
    rw [i11, i12, i17, z13 13 (Or.inl rfl), tdL_13, e8]
    by_cases hkc : k = c ∧ j = f
    · obtain ⟨rfl, rfl⟩ := hkc
      rw [if_pos rfl, if_pos ⟨by decide, rfl, rfl⟩, ← p1]
      refine ⟨rfl, ?_⟩
      rw [i64_add (by omega) (by omega)]
      exact hp
    · rw [if_neg (fun z => hkc ⟨by omega, by omega⟩), if_neg (fun z => hkc ⟨((nI_eq (by omega) (by omega)).mp z.2.1).symm, ((nI_eq (by omega) (by omega)).mp z.2.2).symm⟩), Int64.add_zero]
      exact ⟨p1, p2⟩
  · intro k hk
    have e3 : L1 3 k = if k = f then (if L 3 f - q < 0 then L 3 f - q + (999 - (L 3 f - q)) / 1000 * 1000 else L 3 f - q) else L 3 k := by
      rw [lZ 3 (by decide) (by decide) (by decide), hZ, exL_3]
      unfold exU
      rw [tdL_a (by decide) (by decide) (by decide) (by decide) (by decide)]
    rw [e3]
    by_cases hkf : k = f
    · rw [if_pos hkf]
      obtain ⟨s1, s2⟩ := hSt f hf
      exact ex_st s1 s2 hb hqm (by omega)
    · rw [if_neg hkf]
      obtain ⟨s1, s2⟩ := hSt k hk
      refine ⟨s1, ?_⟩
      omega
  · intro k hk
    obtain ⟨⟨g1, g2⟩, g3⟩ := hCl k hk
    obtain ⟨c1, c2⟩ := hcg k
    refine ⟨⟨fun i hi hh => ?_, fun y hy => ?_⟩, fun y hy => ?_⟩
    · by_cases hkc : k = c
      · -- the client of the trade
        subst hkc
        have hZX : ∀ i, i < nt + 1 → dN (I1 11 i) = k → Z 31 i = clT (flS I1 L1 k nt) nt 31 i ∧ Z 32 i = clT (flS I1 L1 k nt) nt 32 i := by
          intro i hi hh
          rw [zT 31 (by decide) (by decide) (by decide) (by decide), zT 32 (by decide) (by decide) (by decide) (by decide)]
          by_cases e : i = nt
          · subst e
            rw [tdL_31, tdL_32, clT_31, clT_32]
            exact ⟨rfl, rfl⟩
          · rw [tdL_i e, tdL_i e, clT_i e, clT_i e]
            rw [iI 11 i e] at hh
            obtain ⟨q1, q2⟩ := c1 i (by omega) hh
            obtain ⟨u1, u2⟩ := g1 i (by omega) hh
            exact ⟨u1.trans q1, u2.trans q2⟩
        have r : ∀ a, a = 13 ∨ a = 14 ∨ a = 15 → Z a nt = clT (flS I1 L1 k nt) nt a nt := fun a ha => by
          rw [clT_a (by omega) (by omega), flS_a (by omega) (by omega) (by omega), lZ a (by omega) (by omega) (by omega)]
        obtain ⟨eg, ek⟩ := elS_cong (I := I1) (I' := I1) (L := Z) (L' := clT (flS I1 L1 k nt) nt) (c := k) (f := f) (t := nt) d11 d12 d11 d12 (r 13 (Or.inl rfl)) (r 14 (Or.inr (Or.inl rfl))) (r 15 (Or.inr (Or.inr rfl))) (fun i _ => Iff.rfl) (fun i hi hh => hZX i hi hh.1)
        rw [flS_1' d11 (by rw [i17]; decide), show L1 31 i = elS I1 Z nt 31 i by rw [hL1], show L1 32 i = elS I1 Z nt 32 i by rw [hL1]]
        by_cases hfi : dN (I1 12 i) = f
        · exact ek i hi ⟨hh, hfi⟩
        · have n0 : ¬ isH I1 (dN (I1 11 nt)) (dN (I1 12 nt)) i := fun z => hfi (z.2.trans d12)
          rw [elS_31 (Or.inl rfl) n0, elS_31 (Or.inr rfl) n0, elS_31 (Or.inl rfl) n0, elS_31 (Or.inr rfl) n0]
          exact hZX i hi hh
      · have e : i ≠ nt := fun z => by subst z; exact hkc (hh.symm.trans d11)
        have hh' := hh
        rw [iI 11 i e] at hh'
        rw [flS_n (fun z => hkc (z.symm.trans d11))]
        obtain ⟨q1, q2⟩ := c1 i (by omega) hh'
        obtain ⟨u1, u2⟩ := g1 i (by omega) hh'
        rw [← q1, ← q2, ← u1, ← u2]
        have n0 : ¬ isH I1 (dN (I1 11 nt)) (dN (I1 12 nt)) i := fun z => hkc (hh.symm.trans (z.1.trans d11))
        rw [hL1, elS_31 (Or.inl rfl) n0, elS_31 (Or.inr rfl) n0, zT 31 (by decide) (by decide) (by decide) (by decide), zT 32 (by decide) (by decide) (by decide) (by decide), tdL_i e, tdL_i e]
        exact ⟨rfl, rfl⟩
    · by_cases hkc : k = c
      · subst hkc
        have r : ∀ a, a = 13 ∨ a = 14 ∨ a = 15 → Z a nt = clT (flS I1 L1 k nt) nt a nt := fun a ha => by
          rw [clT_a (by omega) (by omega), flS_a (by omega) (by omega) (by omega), lZ a (by omega) (by omega) (by omega)]
        have hZX : ∀ i, i < nt + 1 → dN (I1 11 i) = k → Z 31 i = clT (flS I1 L1 k nt) nt 31 i ∧ Z 32 i = clT (flS I1 L1 k nt) nt 32 i := by
          intro i hi hh
          rw [zT 31 (by decide) (by decide) (by decide) (by decide), zT 32 (by decide) (by decide) (by decide) (by decide)]
          by_cases e : i = nt
          · subst e
            rw [tdL_31, tdL_32, clT_31, clT_32]
            exact ⟨rfl, rfl⟩
          · rw [tdL_i e, tdL_i e, clT_i e, clT_i e]
            rw [iI 11 i e] at hh
            obtain ⟨q1, q2⟩ := c1 i (by omega) hh
            obtain ⟨u1, u2⟩ := g1 i (by omega) hh
            exact ⟨u1.trans q1, u2.trans q2⟩
        obtain ⟨eg, -⟩ := elS_cong (I := I1) (I' := I1) (L := Z) (L' := clT (flS I1 L1 k nt) nt) (c := k) (f := f) (t := nt) d11 d12 d11 d12 (r 13 (Or.inl rfl)) (r 14 (Or.inr (Or.inl rfl))) (r 15 (Or.inr (Or.inr rfl))) (fun i _ => Iff.rfl) (fun i hi hh => hZX i hi hh.1)
        rw [flS_1' d11 (by rw [i17]; decide), hL1, elS_30, elS_30, ← hL1, ← r 13 (Or.inl rfl), ← eg, clT_a (a := 30) (by decide) (by decide), z30, g2 y hy, c2 y hy]
      · rw [flS_n (fun z => hkc (z.symm.trans d11)), h30 k y hy hk (fun z => hkc z.1), g2 y hy, c2 y hy]
    · rw [lZ 9 (by decide) (by decide) (by decide), zT 9 (by decide) (by decide) (by decide) (by decide), tdL_a (by decide) (by decide) (by decide) (by decide) (by decide), g3 y hy]
      by_cases hyd : y < dy / 360
      · rw [if_pos hyd, if_pos hyd, bsV_c (L := L1) (L' := L) (fun z hz => h30 k z (by omega) hk (fun w => by omega))]
      · rw [if_neg hyd, if_neg hyd]
  · intro k hk
    obtain ⟨b1, b2, b3⟩ := hBe k hk
    refine ⟨?_, fun y hy => ⟨?_, ?_⟩, fun j hj => ⟨?_, ?_⟩⟩
    · rw [lZ 6 (by decide) (by decide) (by decide), hZ, exL_6, if_neg (by omega), tdL_a (by decide) (by decide) (by decide) (by decide) (by decide)]
      exact b1
    · rw [hL1, elS_30, if_neg, z30]
      · exact (b2 y hy).1
      · rintro ⟨-, z⟩
        rw [d11, d16] at z
        omega
    · rw [lZ 9 (by decide) (by decide) (by decide), zT 9 (by decide) (by decide) (by decide) (by decide), tdL_a (by decide) (by decide) (by decide) (by decide) (by decide)]
      exact (b2 y hy).2
    · rw [lZ 8 (by decide) (by decide) (by decide), hZ, exL_8, if_neg (by omega), tdL_a (by decide) (by decide) (by decide) (by decide) (by decide)]
      exact (b3 j hj).1
    · rw [hI1, noteI_7]
      exact (b3 j hj).2
