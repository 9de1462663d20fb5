/-! ===== a complaint: what it keeps, and the reference's ===== -/
theorem stS_a {L : zLA} {c a : Nat} (h : a ≠ 9) : ∀ k, (stS L c k).2 a = L a
  | 0 => rfl
  | k + 1 => (up2_a h).trans (stS_a h k)
theorem cbS_a {L : zLA} {c a : Nat} (h : a ≠ 9) : ∀ k, (cbS L c k).2 a = L a
  | 0 => rfl
  | k + 1 => (up2_a h).trans (cbS_a h k)
theorem bsV_st {L : zLA} {c k y : Nat} : bsV (stS L c k).2 c y = bsV L c y := bsV_c (fun z _ => by rw [stS_a (by decide) k])
theorem st_cb {X Y : zLA} {c n : Nat} (h9 : X 9 = Y 9) (h23 : ∀ y, y < n → Y 23 y = bsV X c y) : ∀ k, k ≤ n → (stS X c k).1 = (cbS Y c k).1 ∧ (stS X c k).2 9 = (cbS Y c k).2 9
  | 0, _ => ⟨rfl, h9⟩
  | k + 1, hk => by
    obtain ⟨r1, r2⟩ := st_cb h9 h23 k (by omega)
    have e1 : bsV (stS X c k).2 c k = bsV X c k := bsV_st
    have e2 : (cbS Y c k).2 23 k = bsV X c k := by rw [cbS_a (by decide) k]; exact h23 k (by omega)
    constructor
    · show (stS X c k).1 + ((stS X c k).2 9 (21 * c + k) - bsV (stS X c k).2 c k / 4) = (cbS Y c k).1 + ((cbS Y c k).2 9 (21 * c + k) - (cbS Y c k).2 23 k / 4)
      rw [r1, r2, e1, e2]
    · show up2 (stS X c k).2 9 (21 * c + k) (bsV (stS X c k).2 c k / 4) 9 = up2 (cbS Y c k).2 9 (21 * c + k) ((cbS Y c k).2 23 k / 4) 9
      rw [up2_L, up2_L, r2, e1, e2]
theorem st_9 {X : zLA} {c y : Nat} : ∀ n, (stS X c n).2 9 (21 * c + y) = if y < n then bsV X c y / 4 else X 9 (21 * c + y)
  | 0 => (if_neg (Nat.not_lt_zero y)).symm
  | n + 1 => by
    have ih := st_9 (X := X) (c := c) (y := y) n
    show up2 (stS X c n).2 9 (21 * c + n) (bsV (stS X c n).2 c n / 4) 9 (21 * c + y) = _
    by_cases h : y = n
    · subst h
      rw [up2_s, if_pos (Nat.lt_succ_self _), bsV_st]
    · rw [up2_i (show 21 * c + y ≠ 21 * c + n by omega), ih]
      by_cases h2 : y < n
      · rw [if_pos h2, if_pos (by omega)]
      · rw [if_neg h2, if_neg (by omega)]
theorem st_9o {X : zLA} {c i n : Nat} (hn : n ≤ 21) (hi : ¬ (21 * c ≤ i ∧ i < 21 * c + 21)) : ∀ k, k ≤ n → (stS X c k).2 9 i = X 9 i
  | 0, _ => rfl
  | k + 1, hk => by
    show up2 (stS X c k).2 9 (21 * c + k) _ 9 i = _
    rw [up2_i (show i ≠ 21 * c + k by omega), st_9o hn hi k (by omega)]
theorem en_nn {I : zIA} {L : zLA} {c f : Nat} : ∀ n, ¬ (enS I L c f n).1 = 0 → 0 ≤ (enS I L c f n).2.toInt
  | 0, _ => by show 0 ≤ (0 : Int64).toInt; rw [i64_0]; exact Int.le_refl 0
  | n + 1, h => by
    by_cases hp : ¬ (enS I L c f n).1 = 0 ∧ ¬ (enS I L c f n).2 + enA I L c f n < 0
    · rw [enS_p rfl hp]
      have := hp.2
      rw [i64_lt, i64_0] at this
      show 0 ≤ ((enS I L c f n).2 + enA I L c f n).toInt
      omega
    · rw [enS_n rfl hp] at h
      exact absurd rfl h
theorem en_unw {I : zIA} {L : zLA} {k j t : Nat} : ∀ n, (enS (up2 I 17 t 0) L k j n).2 = (enS I L k j n).2 - (if t < n ∧ ¬ I 17 t = 0 ∧ I 11 t = nI k ∧ I 12 t = nI j then L 13 t else 0)
  | 0 => by rw [if_neg (fun z => absurd z.1 (Nat.not_lt_zero t))]; show (0 : Int64) = 0 - 0; decide
  | n + 1 => by
    have ih := en_unw (I := I) (L := L) (k := k) (j := j) (t := t) n
    rw [enS_2, enS_2, ih]
    by_cases e : t = n
    · subst e
      have e1 : enA (up2 I 17 t 0) L k j t = 0 := by
        unfold enA
        rw [if_neg]
        rw [up2_s]
        exact fun z => z.1 rfl
      rw [e1, if_neg (fun z => absurd z.1 (Nat.lt_irrefl t))]
      unfold enA
      by_cases hh : ¬ I 17 t = 0 ∧ I 11 t = nI k ∧ I 12 t = nI j
      · rw [if_pos hh, if_pos ⟨Nat.lt_succ_self t, hh⟩]
        grind
      · rw [if_neg hh, if_neg (fun z => hh z.2)]
        grind
    · have e1 : enA (up2 I 17 t 0) L k j n = enA I L k j n := enA_c (up2_i (Ne.symm e) 11) (up2_i (Ne.symm e) 12) (up2_i (Ne.symm e) 17) rfl
      have e2 : (if t < n + 1 ∧ ¬ I 17 t = 0 ∧ I 11 t = nI k ∧ I 12 t = nI j then L 13 t else 0) = (if t < n ∧ ¬ I 17 t = 0 ∧ I 11 t = nI k ∧ I 12 t = nI j then L 13 t else 0) := by
        by_cases hz : t < n ∧ ¬ I 17 t = 0 ∧ I 11 t = nI k ∧ I 12 t = nI j
        · rw [if_pos hz, if_pos ⟨by omega, hz.2⟩]
        · rw [if_neg hz, if_neg (fun z => hz ⟨by omega, z.2⟩)]
      rw [e1, e2]
      generalize (if t < n ∧ ¬ I 17 t = 0 ∧ I 11 t = nI k ∧ I 12 t = nI j then L 13 t else 0) = w
      grind
theorem unp_pay {L : zLA} {t : Nat} (h : ¬ L 13 t = 0) : unpaidL L t = -(payT L t) := by
  unfold unpaidL payT
  by_cases h1 : L 13 t < 0
  · rw [if_pos h1, if_neg]
    · grind
    · rw [i64_lt] at h1 ⊢
      omega
  · rw [if_neg h1, if_pos]
    · grind
    · rw [i64_lt] at h1 ⊢
      have : (L 13 t).toInt ≠ (0 : Int64).toInt := fun z => h (Int64.toInt_inj.mp z)
      omega
/-- rows of a complaint, class's -/
noncomputable def uwL (I : zIA) (L : zLA) (nt dy t : Nat) : zLA := stL (cmL I L nt t) (dN (I 11 t)) (dy / 360)
theorem unw_inv {nc nt dy b t : Nat} {I : zIA} {L : zLA} (h : zInv nc nt dy b I L) (ht : t < nt) (hb : b ≤ 10000) (hcan : canS I L nt t) : zInv nc nt dy (b + 1) (up2 I 17 t 0) (uwL I L nt dy t) := by
  obtain ⟨⟨n1, n2, n3⟩, hPr, hGo, hTr, hOK, hPa, hSt, hCl, hBe⟩ := h
  obtain ⟨zc, z17, zm⟩ := hTr t ht
  obtain ⟨z11, z12, z16, z0, zM, -⟩ := hOK t ht
  obtain ⟨hs, he⟩ := hcan
  obtain ⟨c, hc⟩ : ∃ c, c = dN (I 11 t) := ⟨_, rfl⟩
  obtain ⟨f, hf⟩ : ∃ f, f = dN (I 12 t) := ⟨_, rfl⟩
  have hcn : c < nc := by rw [hc]; exact zc.2
  have hf6 : f < 6 := by rw [hf]; exact z12.2
  have e11 : I 11 t = nI c := by rw [hc]; exact zc.1
  have e12 : I 12 t = nI f := by rw [hf]; exact z12.1
  rw [← hc, ← hf] at he
  obtain ⟨I1, hI1⟩ : ∃ I1, I1 = up2 I 17 t 0 := ⟨_, rfl⟩
  obtain ⟨E, hE⟩ : ∃ E, E = exL L c f (-(L 13 t)) (-(payT L t)) := ⟨_, rfl⟩
  obtain ⟨X, hX⟩ : ∃ X, X = flS I1 E c nt := ⟨_, rfl⟩
  obtain ⟨n, hn⟩ : ∃ n, n = dy / 360 := ⟨_, rfl⟩
  have hn21 : n ≤ 20 := by omega
  obtain ⟨L1, hL1⟩ : ∃ L1, L1 = stL X c n := ⟨_, rfl⟩
  have huw : uwL I L nt dy t = L1 := by
    rw [hL1, hX, hE, hI1, hn, hc, hf]
    rfl
  rw [huw, ← hI1]
  have iI : ∀ a, a ≠ 17 → I1 a = I a := fun a ha => by rw [hI1]; exact up2_a ha
  have iIi : ∀ a i, i ≠ t → I1 a i = I a i := fun a i hi => by rw [hI1]; exact up2_i hi a
  have i17 : I1 17 t = 0 := by rw [hI1]; exact up2_s _ _ _ _
  have hEa : ∀ a, a ≠ 2 → a ≠ 3 → a ≠ 6 → a ≠ 8 → E a = L a := fun a a1 a2 a3 a4 => by rw [hE]; exact exL_a a1 a2 a3 a4
  have hXa : ∀ a, a ≠ 30 → a ≠ 31 → a ≠ 32 → X a = E a := fun a a1 a2 a3 => by rw [hX]; exact flS_a a1 a2 a3 nt
  have hLa : ∀ a, a ≠ 6 → a ≠ 9 → L1 a = X a := fun a a1 a2 => by
    rw [hL1]
    exact (up2_a a1).trans (stS_a a2 n)
  have h13 : ∀ a, a = 13 ∨ a = 14 ∨ a = 15 → L1 a = L a := fun a ha => by rw [hLa a (by omega) (by omega), hXa a (by omega) (by omega) (by omega), hEa a (by omega) (by omega) (by omega) (by omega)]
  have h16 : ∀ t, t < nt → dN (I1 16 t) / 360 < 21 := fun t ht => by
    rw [iI 16 (by decide)]
    have := (hOK t ht).2.2.1.2
    omega
  have hzn : (-(L 13 t)).toInt = -(L 13 t).toInt := i64_neg (by omega)
  refine ⟨⟨n1, n2, n3⟩, ?_, ?_, ?_, ?_, ?_, ?_, ?_, ?_⟩
  · intro k hk
    rw [iI 1 (by decide)]
    exact hPr k hk
  · intro i
    rw [iI 7 (by decide)]
    exact hGo i
  · intro s hs2
    obtain ⟨a1, a2, a3⟩ := hTr s hs2
    rw [iI 11 (by decide), h13 13 (Or.inl rfl)]
    refine ⟨a1, ?_, a3⟩
    by_cases e : s = t
    · rw [e, i17]
      exact Or.inl rfl
    · rw [iIi 17 s e]
      exact a2
  · intro s hs2
    rw [iI 11 (by decide), iI 12 (by decide), iI 16 (by decide), h13 13 (Or.inl rfl), h13 14 (Or.inr (Or.inl rfl)), h13 15 (Or.inr (Or.inr rfl))]
    exact hOK s hs2
  · intro k j hk hj
    obtain ⟨p1, p2⟩ := hPa k j hk hj
    have hen : enS I1 L1 k j nt = enS I1 L k j nt := enS_c (n := nt) (fun s _ => ⟨rfl, rfl, rfl, by rw [h13 13 (Or.inl rfl)]⟩) nt (Nat.le_refl nt)
    have e8 : L1 8 (6 * k + j) = if 6 * k + j = 6 * c + f then L 8 (6 * c + f) + -(L 13 t) else L 8 (6 * k + j) := by
      rw [hLa 8 (by decide) (by decide), hXa 8 (by decide) (by decide) (by decide), hE, exL_8]
    have hun := en_unw (I := I) (L := L) (k := k) (j := j) (t := t) nt
    rw [← hI1] at hun
    rw [hen, hun, e8]
    by_cases hkc : k = c ∧ j = f
    · obtain ⟨rfl, rfl⟩ := hkc
      have e9 : L 8 (6 * k + j) + -(L 13 t) = (enS I L k j nt).2 - L 13 t := by rw [p1]; grind
      rw [if_pos rfl, if_pos ⟨ht, hs, e11, e12⟩]
      refine ⟨e9, ?_⟩
      have := en_nn nt he
      rw [← hI1, hun, if_pos ⟨ht, hs, e11, e12⟩, ← e9] at this
      exact this
    · rw [if_neg (fun z => hkc ⟨by omega, by omega⟩), if_neg (fun z => hkc ⟨((nI_eq (by omega) (by omega)).mp (e11.symm.trans z.2.2.1)).symm, ((nI_eq (by omega) (by omega)).mp (e12.symm.trans z.2.2.2)).symm⟩)]
      exact ⟨by rw [p1]; grind, p2⟩
  · intro k hk
    have e3 : L1 3 k = if k = f then (if L 3 f - -(L 13 t) < 0 then L 3 f - -(L 13 t) + (999 - (L 3 f - -(L 13 t))) / 1000 * 1000 else L 3 f - -(L 13 t)) else L 3 k := by
      rw [hLa 3 (by decide) (by decide), hXa 3 (by decide) (by decide) (by decide), hE, exL_3]
      rfl
    rw [e3]
    by_cases hkf : k = f
    · rw [if_pos hkf]
      obtain ⟨s1, s2⟩ := hSt f hf6
      exact ex_st s1 s2 hb (by rw [hzn]; omega) (by rw [hzn]; omega)
    · rw [if_neg hkf]
      obtain ⟨s1, s2⟩ := hSt k hk
      refine ⟨s1, ?_⟩
      omega
  · intro k hk
    obtain ⟨⟨g1, g2⟩, g3⟩ := hCl k hk
    by_cases hkc : k = c
    · subst hkc
      obtain ⟨c1, c2⟩ := flS_cong (I := I1) (I' := I1) (L := E) (L' := L1) (c := k) (n := nt) (fun i _ => Iff.rfl) (fun i _ _ => ⟨rfl, rfl, Iff.rfl, by rw [h13 13 (Or.inl rfl), hEa 13 (by decide) (by decide) (by decide) (by decide)], by rw [h13 14 (Or.inr (Or.inl rfl)), hEa 14 (by decide) (by decide) (by decide) (by decide)], by rw [h13 15 (Or.inr (Or.inr rfl)), hEa 15 (by decide) (by decide) (by decide) (by decide)]⟩) nt (Nat.le_refl nt)
      rw [← hX] at c1 c2
      refine ⟨⟨fun i hi hh => ?_, fun y hy => ?_⟩, fun y hy => ?_⟩
      · rw [hLa 31 (by decide) (by decide), hLa 32 (by decide) (by decide)]
        exact c1 i hi hh
      · rw [hLa 30 (by decide) (by decide)]
        exact c2 y hy
      · have e9 : L1 9 (21 * k + y) = if y < n then bsV X k y / 4 else X 9 (21 * k + y) := by
          rw [hL1]
          unfold stL
          rw [up2_ne (by decide), st_9]
        rw [e9, ← hn]
        by_cases hyn : y < n
        · rw [if_pos hyn, if_pos hyn, bsV_c (L := L1) (L' := X) (fun z _ => by rw [hLa 30 (by decide) (by decide)])]
        · rw [if_neg hyn, if_neg hyn, hXa 9 (by decide) (by decide) (by decide), hEa 9 (by decide) (by decide) (by decide) (by decide), g3 y hy, if_neg (by omega)]
    · have l31 : ∀ a i, a = 31 ∨ a = 32 → dN (I 11 i) = k → L1 a i = L a i := fun a i ha hh => by
        rw [hLa a (by omega) (by omega), hX, flS_fix ha nt (Or.inl (by rw [iI 11 (by decide)]; exact fun z => hkc (hh.symm.trans z))), hEa a (by omega) (by omega) (by omega) (by omega)]
      have l30 : ∀ y, y < 21 → L1 30 (21 * k + y) = L 30 (21 * k + y) := fun y hy => by
        rw [hLa 30 (by decide) (by decide), hX, flS_30 (n := nt) h16 (by omega) nt (Nat.le_refl nt), hEa 30 (by decide) (by decide) (by decide) (by decide)]
      obtain ⟨c1, c2⟩ := flS_cong (I := I) (I' := I1) (L := L) (L' := L1) (c := k) (n := nt) (fun i _ => by rw [iI 11 (by decide)]) (fun i _ hh => by
        have e : i ≠ t := fun z => by subst z; exact hkc (hh.symm.trans hc.symm)
        rw [iI 12 (by decide), iI 16 (by decide), iIi 17 i e, h13 13 (Or.inl rfl), h13 14 (Or.inr (Or.inl rfl)), h13 15 (Or.inr (Or.inr rfl))]
        exact ⟨rfl, rfl, Iff.rfl, rfl, rfl, rfl⟩) nt (Nat.le_refl nt)
      refine ⟨⟨fun i hi hh => ?_, fun y hy => ?_⟩, fun y hy => ?_⟩
      · rw [iI 11 (by decide)] at hh
        rw [l31 31 i (Or.inl rfl) hh, l31 32 i (Or.inr rfl) hh, ← (c1 i hi hh).1, ← (c1 i hi hh).2]
        exact g1 i hi hh
      · rw [l30 y hy, ← c2 y hy]
        exact g2 y hy
      · have e9 : L1 9 (21 * k + y) = L 9 (21 * k + y) := by
          rw [hL1]
          unfold stL
          rw [up2_ne (by decide), st_9o (n := n) (by omega) (by omega) n (Nat.le_refl n), hXa 9 (by decide) (by decide) (by decide), hEa 9 (by decide) (by decide) (by decide) (by decide)]
        rw [e9, g3 y hy]
        by_cases hyn : y < dy / 360
        · rw [if_pos hyn, if_pos hyn, bsV_c (L := L1) (L' := L) (fun z hz => l30 z (by omega))]
        · rw [if_neg hyn, if_neg hyn]
  · intro k hk
    obtain ⟨b1, b2, b3⟩ := hBe k hk
    refine ⟨?_, fun y hy => ⟨?_, ?_⟩, fun j hj => ⟨?_, ?_⟩⟩
    · have : L1 6 k = X 6 k := by
        rw [hL1]
        unfold stL
        rw [up2_i (show k ≠ c by omega), stS_a (by decide) n]
      rw [this, hXa 6 (by decide) (by decide) (by decide), hE, exL_6, if_neg (by omega)]
      exact b1
    · rw [hLa 30 (by decide) (by decide), hX, flS_30 (n := nt) h16 (by omega) nt (Nat.le_refl nt), hEa 30 (by decide) (by decide) (by decide) (by decide)]
      exact (b2 y hy).1
    · have : L1 9 (21 * k + y) = L 9 (21 * k + y) := by
        rw [hL1]
        unfold stL
        rw [up2_ne (by decide), st_9o (n := n) (by omega) (by omega) n (Nat.le_refl n), hXa 9 (by decide) (by decide) (by decide), hEa 9 (by decide) (by decide) (by decide) (by decide)]
      rw [this]
      exact (b2 y hy).2
    · rw [hLa 8 (by decide) (by decide), hXa 8 (by decide) (by decide) (by decide), hE, exL_8, if_neg (by omega)]
      exact (b3 j hj).1
    · rw [iI 7 (by decide)]
      exact (b3 j hj).2
/-- the reference's rows of a complaint are the class's -/
theorem unw_same {nc nt dy b t nl : Nat} {I : zIA} {L : zLA} {mo : Int64} (h : zInv nc nt dy b I L) (ht : t < nt) (hb : b ≤ 10000) :
    (stS (cmL I L nt t) (dN (I 11 t)) (dy / 360)).1 = (cpB nl I L nt dy (dN (I 11 t)) (dN (I 12 t)) t).1 ∧ exM (up2 I 17 t 0) L (dN (I 12 t)) (-(L 13 t)) (-(payT L t)) mo = cpM I L (dN (I 11 t)) (dN (I 12 t)) t mo ∧
      (∀ a, a ≠ 19 → (cpS nl I L nt (dN (I 11 t)) (dN (I 12 t)) t).2.1 a = up2 I 17 t 0 a) ∧
      ∀ a, a < 20 → uwL I L nt dy t a = up2 (cpB nl I L nt dy (dN (I 11 t)) (dN (I 12 t)) t).2 6 (dN (I 11 t)) ((cpB nl I L nt dy (dN (I 11 t)) (dN (I 12 t)) t).2 6 (dN (I 11 t)) + (cpB nl I L nt dy (dN (I 11 t)) (dN (I 12 t)) t).1) a := by
  obtain ⟨⟨n1, n2, n3⟩, hPr, hGo, hTr, hOK, hPa, hSt, hCl, hBe⟩ := h
  obtain ⟨zc, z17, zm⟩ := hTr t ht
  obtain ⟨z11, z12, z16, z0, zM, -⟩ := hOK t ht
  obtain ⟨c, hc⟩ : ∃ c, c = dN (I 11 t) := ⟨_, rfl⟩
  obtain ⟨f, hf⟩ : ∃ f, f = dN (I 12 t) := ⟨_, rfl⟩
  have hcn : c < nc := by rw [hc]; exact zc.2
  have hf6 : f < 6 := by rw [hf]; exact z12.2
  rw [← hc, ← hf]
  have hzn : (-(L 13 t)).toInt = -(L 13 t).toInt := i64_neg (by omega)
  have hcond : L 3 f - -(L 13 t) < 0 ↔ L 3 f < -(L 13 t) := by
    obtain ⟨s1, s2⟩ := hSt f hf6
    exact ex_cond (by omega) (by omega) (by rw [hzn]; omega) (by rw [hzn]; omega)
  have h13 : payL L c (unpaidL L t) 13 t = L 13 t := up2_ne (by decide)
  obtain ⟨I1, hI1⟩ : ∃ I1, I1 = up2 I 17 t 0 := ⟨_, rfl⟩
  obtain ⟨E, hE⟩ : ∃ E, E = exL L c f (-(L 13 t)) (-(payT L t)) := ⟨_, rfl⟩
  obtain ⟨X, hX⟩ : ∃ X, X = flS I1 E c nt := ⟨_, rfl⟩
  obtain ⟨n, hn⟩ : ∃ n, n = dy / 360 := ⟨_, rfl⟩
  have hn21 : n ≤ 20 := by omega
  have hcm : cmL I L nt t = X := by
    rw [hX, hE, hI1, hc, hf]
    rfl
  have hcp : ∀ a, a < 20 → cpL L c f t a = E a := by
    intro a ha
    unfold cpL
    rw [h13, unp_pay z0, hE]
    exact (ex_same (fun _ _ => rfl) hcond a ha).symm
  have hEa : ∀ a, a ≠ 2 → a ≠ 3 → a ≠ 6 → a ≠ 8 → E a = L a := fun a a1 a2 a3 a4 => by rw [hE]; exact exL_a a1 a2 a3 a4
  have hXa : ∀ a, a ≠ 30 → a ≠ 31 → a ≠ 32 → X a = E a := fun a a1 a2 a3 => by rw [hX]; exact flS_a a1 a2 a3 nt
  have hX13 : ∀ a, a = 13 ∨ a = 14 ∨ a = 15 → X a = L a := fun a ha => by rw [hXa a (by omega) (by omega) (by omega), hEa a (by omega) (by omega) (by omega) (by omega)]
  have hOX : trOK nt I1 X := by
    intro s hs
    rw [hI1, up2_a (by decide), up2_a (by decide), up2_a (by decide), hX13 13 (Or.inl rfl), hX13 14 (Or.inr (Or.inl rfl)), hX13 15 (Or.inr (Or.inr rfl))]
    exact hOK s hs
  obtain ⟨-, c2⟩ := flS_cong (I := I1) (I' := I1) (L := E) (L' := X) (c := c) (n := nt) (fun i _ => Iff.rfl) (fun i _ _ => ⟨rfl, rfl, Iff.rfl, by rw [hXa 13 (by decide) (by decide) (by decide)], by rw [hXa 14 (by decide) (by decide) (by decide)], by rw [hXa 15 (by decide) (by decide) (by decide)]⟩) nt (Nat.le_refl nt)
  rw [← hX] at c2
  obtain ⟨y1, y2, y3⟩ := years_rel shOK_t (I := I1) (I' := I1) (L := X) (s := cpL L c f t) (c := c) (nl := nl) (n := nt) (by omega) hOX (fun _ _ => rfl) (fun a ha => by rw [hcp a (by omega), hXa a (by omega) (by omega) (by omega)]) c2
  obtain ⟨q1, q2⟩ := st_cb (X := X) (Y := (cpS nl I L nt c f t).2.2) (c := c) (n := n) (by
      unfold cpS
      rw [← hI1, y2 9 (by decide) (by decide) (by decide) (by decide), hcp 9 (by decide), hXa 9 (by decide) (by decide) (by decide)]) (fun y hy => by
      unfold cpS
      rw [← hI1]
      exact (y1 y (by omega)).2) n (Nat.le_refl n)
  have hB : cpB nl I L nt dy c f t = cbS (cpS nl I L nt c f t).2.2 c n := by rw [hn]; rfl
  have hu : uwL I L nt dy t = stL X c n := by
    unfold uwL
    rw [hcm, ← hc, ← hn]
  rw [hcm, ← hn, hB, hu]
  refine ⟨q1, ?_, ?_, ?_⟩
  · unfold cpM
    rw [h13, unp_pay z0]
    rw [exM_same (L' := payL L c (-(payT L t))) (by unfold payL; rw [up2_a (by decide)]) hcond]
    unfold moveM
    rw [up2_a (by decide)]
  · intro a ha
    unfold cpS
    rw [← hI1]
    exact y3 a ha
  · intro a ha
    unfold stL
    by_cases h6 : a = 6
    · subst h6
      have r6 : (stS X c n).2 6 = (cbS (cpS nl I L nt c f t).2.2 c n).2 6 := by
        rw [stS_a (by decide) n, cbS_a (by decide) n]
        unfold cpS
        rw [← hI1, y2 6 (by decide) (by decide) (by decide) (by decide), hcp 6 (by decide), hXa 6 (by decide) (by decide) (by decide)]
      rw [up2_L, up2_L, r6, q1]
    · rw [up2_a h6, up2_a h6]
      by_cases h9 : a = 9
      · subst h9
        exact q2
      · rw [stS_a h9 n, cbS_a h9 n]
        unfold cpS
        rw [← hI1, y2 a (by omega) (by omega) (by omega) (by omega), hcp a ha, hXa a (by omega) (by omega) (by omega)]
