/-! ===== the class's lots and the reference's ===== -/
def lotH (I : zIA) (L : zLA) (c f i : Nat) : Prop := isH I c f i ∧ ¬ I 17 i = 0 ∧ 0 < L 13 i
noncomputable def cntH (I : zIA) (L : zLA) (c f : Nat) : Nat → Nat
  | 0 => 0
  | i + 1 => @ite _ (lotH I L c f i) (Classical.propDecidable _) (cntH I L c f i + 1) (cntH I L c f i)
theorem cntH_p {I : zIA} {L : zLA} {c f i : Nat} (h : lotH I L c f i) : cntH I L c f (i + 1) = cntH I L c f i + 1 := if_pos h
theorem cntH_n {I : zIA} {L : zLA} {c f i : Nat} (h : ¬ lotH I L c f i) : cntH I L c f (i + 1) = cntH I L c f i := if_neg h
theorem cntH_mono {I : zIA} {L : zLA} {c f i : Nat} : ∀ n, cntH I L c f i ≤ cntH I L c f (i + n)
  | 0 => Nat.le_refl _
  | n + 1 => by
    have ih := cntH_mono (I := I) (L := L) (c := c) (f := f) (i := i) n
    by_cases h : lotH I L c f (i + n)
    · rw [show i + (n + 1) = (i + n) + 1 from rfl, cntH_p h]; omega
    · rw [show i + (n + 1) = (i + n) + 1 from rfl, cntH_n h]; exact ih
theorem cntH_lt {I : zIA} {L : zLA} {c f i j : Nat} (h : lotH I L c f i) (hij : i < j) : cntH I L c f i < cntH I L c f j := by
  have h1 := cntH_mono (I := I) (L := L) (c := c) (f := f) (i := i + 1) (j - (i + 1))
  rw [show i + 1 + (j - (i + 1)) = j by omega, cntH_p h] at h1
  omega
theorem cntH_ne {I : zIA} {L : zLA} {c f i j : Nat} (h : lotH I L c f i) (hj : lotH I L c f j) (hij : i ≠ j) : cntH I L c f i ≠ cntH I L c f j := by
  rcases Nat.lt_or_gt_of_ne hij with z | z
  · have := cntH_lt h z; omega
  · have := cntH_lt hj z; omega
theorem cntH_le {I : zIA} {L : zLA} {c f : Nat} : ∀ i, cntH I L c f i ≤ i
  | 0 => Nat.le_refl _
  | i + 1 => by
    have ih := cntH_le (I := I) (L := L) (c := c) (f := f) i
    by_cases h : lotH I L c f i
    · rw [cntH_p h]; omega
    · rw [cntH_n h]; omega
/-- parts and cost of a lot -/
def bndL (q x : Int64) : Prop := (0 ≤ q.toInt ∧ q.toInt ≤ 10000000000) ∧ 0 ≤ x.toInt ∧ x.toInt ≤ 200000000
/-- what is said of shares: cut quotients by true numbers -/
def shOK : Prop := ∀ q x g : Int64, bndL q x → 0 < g → ¬ q < g → (g = q → x * g / q = x) ∧ (¬ g = q → shareV x g q = x * g / q) ∧ bndL (q - g) (x - x * g / q)
theorem i64_lt {a b : Int64} : a < b ↔ a.toInt < b.toInt := Int64.lt_iff_toInt_lt
theorem tk_rel (hS : shOK) {I : zIA} {LL x s : zLA} {c f n : Nat} {w : Int64} (hx : ∀ i, i < n → lotH I LL c f i → s 20 (cntH I LL c f i) = x 31 i ∧ s 21 (cntH I LL c f i) = x 32 i ∧ bndL (x 31 i) (x 32 i)) (h0 : ∀ i, i < n → isH I c f i → ¬ lotH I LL c f i → x 31 i = 0) :
    ∀ k, k ≤ n → (tkS s w (cntH I LL c f k)).1 = (tcS I x c f w k).1 ∧ (tkS s w (cntH I LL c f k)).2.1 = (tcS I x c f w k).2.1 ∧ ∀ i, i < n → lotH I LL c f i → (tkS s w (cntH I LL c f k)).2.2 20 (cntH I LL c f i) = (tcS I x c f w k).2.2 31 i ∧ (tkS s w (cntH I LL c f k)).2.2 21 (cntH I LL c f i) = (tcS I x c f w k).2.2 32 i ∧ bndL ((tcS I x c f w k).2.2 31 i) ((tcS I x c f w k).2.2 32 i)
  | 0, _ => ⟨rfl, rfl, hx⟩
  | k + 1, hk => by
    obtain ⟨h1, h2, h3⟩ := tk_rel hS (w := w) hx h0 k (by omega)
    by_cases hl : lotH I LL c f k
    · obtain ⟨e31, e32, hb⟩ := h3 k (by omega) hl
      rw [cntH_p hl]
      by_cases hp : tcP I c f k (tcS I x c f w k)
      · obtain ⟨p1, -, p3⟩ := hp
        have eG : tkG (tkS s w (cntH I LL c f k)).2.1 ((tkS s w (cntH I LL c f k)).2.2 20 (cntH I LL c f k)) = tcG (tcS I x c f w k) k := by
          rw [h2, e31]
          unfold tkG tcG
          by_cases z1 : (tcS I x c f w k).2.1 < (tcS I x c f w k).2.2 31 k
          · rw [if_pos z1, if_neg]
            rw [i64_lt] at z1 ⊢
            omega
          · rw [if_neg z1]
            by_cases z2 : (tcS I x c f w k).2.2 31 k < (tcS I x c f w k).2.1
            · rw [if_pos z2]
            · rw [if_neg z2]
              apply Int64.toInt_inj.mp
              rw [i64_lt] at z1 z2
              omega
        have hG0 : 0 < tcG (tcS I x c f w k) k := by
          unfold tcG
          split
          · exact p3
          · exact p1
        have hGq : ¬ (tcS I x c f w k).2.2 31 k < tcG (tcS I x c f w k) k := by
          unfold tcG
          split
          · rw [i64_lt]; omega
          · assumption
        obtain ⟨q1, q2, q3⟩ := hS _ _ _ hb hG0 hGq
        have eI : tkI (tkS s w (cntH I LL c f k)).2.2 (cntH I LL c f k) (tcG (tcS I x c f w k) k) = tcC (tcS I x c f w k) k := by
          unfold tkI tcC
          rw [e31, e32]
          by_cases z : tcG (tcS I x c f w k) k = (tcS I x c f w k).2.2 31 k
          · rw [if_pos z]
            exact (q1 z).symm
          · rw [if_neg z]
            exact q2 z
        rw [tkS_p eG hG0 eI, tcS_p ⟨p1, hl.1, p3⟩]
        refine ⟨?_, ?_, fun i hi hli => ?_⟩
        · show (tkS s w (cntH I LL c f k)).1 + _ = (tcS I x c f w k).1 + _
          rw [h1]
        · show (tkS s w (cntH I LL c f k)).2.1 - _ = (tcS I x c f w k).2.1 - _
          rw [h2]
        · show up2 (up2 (tkS s w (cntH I LL c f k)).2.2 21 (cntH I LL c f k) ((tkS s w (cntH I LL c f k)).2.2 21 (cntH I LL c f k) - tcC (tcS I x c f w k) k)) 20 (cntH I LL c f k) (up2 (tkS s w (cntH I LL c f k)).2.2 21 (cntH I LL c f k) ((tkS s w (cntH I LL c f k)).2.2 21 (cntH I LL c f k) - tcC (tcS I x c f w k) k) 20 (cntH I LL c f k) - tcG (tcS I x c f w k) k) 20 (cntH I LL c f i) = _ ∧ up2 (up2 (tkS s w (cntH I LL c f k)).2.2 21 (cntH I LL c f k) ((tkS s w (cntH I LL c f k)).2.2 21 (cntH I LL c f k) - tcC (tcS I x c f w k) k)) 20 (cntH I LL c f k) (up2 (tkS s w (cntH I LL c f k)).2.2 21 (cntH I LL c f k) ((tkS s w (cntH I LL c f k)).2.2 21 (cntH I LL c f k) - tcC (tcS I x c f w k) k) 20 (cntH I LL c f k) - tcG (tcS I x c f w k) k) 21 (cntH I LL c f i) = _ ∧ _
          by_cases hik : i = k
          · subst hik
            rw [up2_s, up2_ne (show (20 : Nat) ≠ 21 by decide), e31, tcU_31, up2_ne (show (21 : Nat) ≠ 20 by decide), up2_s, tcU_32, e32]
            exact ⟨rfl, rfl, q3⟩
          · have hne := cntH_ne hli hl hik
            rw [up2_i hne, up2_i hne, up2_i hne, up2_i hne, tcU_i hik, tcU_i hik]
            exact h3 i hi hli
      · have hg : ¬ 0 < tkG (tkS s w (cntH I LL c f k)).2.1 ((tkS s w (cntH I LL c f k)).2.2 20 (cntH I LL c f k)) := by
          rw [h2, e31]
          intro z
          apply hp
          refine ⟨?_, hl.1, ?_⟩
          · unfold tkG at z
            split at z
            · exact z
            · rename_i y
              rw [i64_lt] at y z ⊢
              omega
          · unfold tkG at z
            split at z
            · rename_i y
              rw [i64_lt] at y z ⊢
              omega
            · exact z
        rw [tkS_n rfl hg, tcS_n hp]
        exact ⟨h1, h2, h3⟩
    · have hp : ¬ tcP I c f k (tcS I x c f w k) := fun z => by
        have z3 := z.2.2
        rw [tcS_fix k (Or.inr (Nat.le_refl k)), h0 k (by omega) z.2.1 hl] at z3
        exact absurd z3 (by decide)
      rw [cntH_n hl, tcS_n hp]
      exact ⟨h1, h2, h3⟩
theorem tkS_a {s : zLA} {w : Int64} {a : Nat} (h20 : a ≠ 20) (h21 : a ≠ 21) : ∀ k, (tkS s w k).2.2 a = s a
  | 0 => rfl
  | k + 1 => by
    have ih := tkS_a (s := s) (w := w) h20 h21 k
    by_cases hg : 0 < tkG (tkS s w k).2.1 ((tkS s w k).2.2 20 k)
    · rw [tkS_p rfl hg rfl]
      exact (up2_a h20).trans ((up2_a h21).trans ih)
    · rw [tkS_n rfl hg, ih]
theorem fdB_19 {s : zF} {t : Nat} : (fdB s t).2.1 19 s.1 = nI t := up2_s _ _ _ _
theorem fdB_19i {s : zF} {t k : Nat} (h : k ≠ s.1) : (fdB s t).2.1 19 k = s.2.1 19 k := up2_i h _
theorem fdB_20 {s : zF} {t : Nat} : (fdB s t).2.2 20 s.1 = s.2.2 13 t := by
  show up2 (up2 s.2.2 20 s.1 (s.2.2 13 t)) 21 s.1 (up2 s.2.2 20 s.1 (s.2.2 13 t) 14 t + up2 s.2.2 20 s.1 (s.2.2 13 t) 15 t) 20 s.1 = _
  rw [up2_ne (show (20 : Nat) ≠ 21 by decide), up2_s]
theorem fdB_21 {s : zF} {t : Nat} : (fdB s t).2.2 21 s.1 = s.2.2 14 t + s.2.2 15 t := by
  show up2 (up2 s.2.2 20 s.1 (s.2.2 13 t)) 21 s.1 (up2 s.2.2 20 s.1 (s.2.2 13 t) 14 t + up2 s.2.2 20 s.1 (s.2.2 13 t) 15 t) 21 s.1 = _
  rw [up2_s, up2_ne (show (14 : Nat) ≠ 20 by decide), up2_ne (show (15 : Nat) ≠ 20 by decide)]
theorem fdB_i {s : zF} {t a k : Nat} (h : k ≠ s.1) : (fdB s t).2.2 a k = s.2.2 a k := by
  show up2 (up2 s.2.2 20 s.1 (s.2.2 13 t)) 21 s.1 (up2 s.2.2 20 s.1 (s.2.2 13 t) 14 t + up2 s.2.2 20 s.1 (s.2.2 13 t) 15 t) a k = _
  rw [up2_i h, up2_i h]
theorem fdB_a {s : zF} {t a : Nat} (h : a ≠ 20) (h2 : a ≠ 21) : (fdB s t).2.2 a = s.2.2 a := by
  show up2 (up2 s.2.2 20 s.1 (s.2.2 13 t)) 21 s.1 (up2 s.2.2 20 s.1 (s.2.2 13 t) 14 t + up2 s.2.2 20 s.1 (s.2.2 13 t) 15 t) a = _
  rw [up2_a h2, up2_a h]
theorem fdG_a {s : zF} {t a : Nat} (h : a ≠ 22) : (fdG s t).2.2 a = (tkS s.2.2 (-s.2.2 13 t) s.1).2.2 a := up2_a h
theorem fdG_22 {s : zF} {t : Nat} : (fdG s t).2.2 22 (dN (s.2.1 16 t) / 360) = s.2.2 22 (dN (s.2.1 16 t) / 360) + (s.2.2 14 t - s.2.2 15 t - (tkS s.2.2 (-s.2.2 13 t) s.1).1) := up2_s _ _ _ _
theorem fdG_22i {s : zF} {t y : Nat} (h : y ≠ dN (s.2.1 16 t) / 360) : (fdG s t).2.2 22 y = s.2.2 22 y := by
  show up2 (tkS s.2.2 (-s.2.2 13 t) s.1).2.2 22 (dN (s.2.1 16 t) / 360) (s.2.2 22 (dN (s.2.1 16 t) / 360) + (s.2.2 14 t - s.2.2 15 t - (tkS s.2.2 (-s.2.2 13 t) s.1).1)) 22 y = _
  rw [up2_i h, tkS_a (by decide) (by decide)]
/-- the rows of the reference that 'finds' leaves -/
theorem fdS_a {I : zIA} {L : zLA} {c f a : Nat} (h20 : a ≠ 20) (h21 : a ≠ 21) (h22 : a ≠ 22) : ∀ t, (fdS I L c f t).2.2 a = L a
  | 0 => rfl
  | t + 1 => by
    have ih := fdS_a (I := I) (L := L) (c := c) (f := f) h20 h21 h22 t
    by_cases h : fdT (fdS I L c f t) c f t
    · by_cases h2 : 0 < (fdS I L c f t).2.2 13 t
      · rw [fdS_b h h2]
        rw [fdB_a h20 h21, ih]
      · rw [fdS_g h h2]
        rw [fdG_a h22, tkS_a h20 h21, ih]
    · rw [fdS_n h, ih]
/-- what a holding's sales gained in a year -/
noncomputable def gnS (I : zIA) (L : zLA) (c f y : Nat) : Nat → Int64
  | 0 => 0
  | t + 1 => @ite _ (isH I c f t ∧ ¬ I 17 t = 0 ∧ L 13 t < 0 ∧ dN (I 16 t) / 360 = y) (Classical.propDecidable _) (gnS I L c f y t + gnE I (clT (flS I L c t) t) t) (gnS I L c f y t)
theorem gnS_p {I : zIA} {L : zLA} {c f y t : Nat} (h : isH I c f t ∧ ¬ I 17 t = 0 ∧ L 13 t < 0 ∧ dN (I 16 t) / 360 = y) : gnS I L c f y (t + 1) = gnS I L c f y t + gnE I (clT (flS I L c t) t) t := if_pos h
theorem gnS_n {I : zIA} {L : zLA} {c f y t : Nat} (h : ¬ (isH I c f t ∧ ¬ I 17 t = 0 ∧ L 13 t < 0 ∧ dN (I 16 t) / 360 = y)) : gnS I L c f y (t + 1) = gnS I L c f y t := if_neg h
/-- what trades' rows keep -/
def trOK (n : Nat) (I : zIA) (L : zLA) : Prop := ∀ t, t < n → zD (I 11 t) 12 ∧ zD (I 12 t) 6 ∧ zD (I 16 t) 7201 ∧ ¬ L 13 t = 0 ∧ (L 13 t).toInt ≤ 10000000000 ∧ (0 < L 13 t → 0 ≤ (L 14 t + L 15 t).toInt ∧ (L 14 t + L 15 t).toInt ≤ 200000000)
theorem zD_11 {x : Int32} {n c : Nat} (h : zD x n) (hc : c < 2 ^ 31) : dN x = c ↔ x = nI c := (zD_eq h hc).symm
theorem fd_rel (hS : shOK) {I I' : zIA} {L s : zLA} {c f n : Nat} (hc : c < 12) (hf : f < 6) (hO : trOK n I L) (h17 : ∀ a, a ≠ 19 → I' a = I a) (hs : ∀ a, a = 13 ∨ a = 14 ∨ a = 15 → s a = L a) :
    ∀ t, t ≤ n → (fdS I' s c f t).1 = cntH I L c f t ∧ (∀ i, i < t → lotH I L c f i → (fdS I' s c f t).2.1 19 (cntH I L c f i) = nI i ∧ (fdS I' s c f t).2.2 20 (cntH I L c f i) = flS I L c t 31 i ∧ (fdS I' s c f t).2.2 21 (cntH I L c f i) = flS I L c t 32 i ∧ bndL (flS I L c t 31 i) (flS I L c t 32 i)) ∧
      (∀ i, i < t → isH I c f i → ¬ lotH I L c f i → flS I L c t 31 i = 0) ∧ ∀ y, (fdS I' s c f t).2.2 22 y = s 22 y + gnS I L c f y t
  | 0, _ => ⟨rfl, fun i hi => absurd hi (Nat.not_lt_zero i), fun i hi => absurd hi (Nat.not_lt_zero i), fun y => (Int64.add_zero _).symm⟩
  | t + 1, ht => by
    obtain ⟨r1, r2, r3, r4⟩ := fd_rel hS hc hf hO h17 hs t (by omega)
    obtain ⟨z11, z12, z16, z0, zm, zb⟩ := hO t (by omega)
    have e17 : (fdS I' s c f t).2.1 17 t = I 17 t := by rw [fdS_I (by decide), h17 17 (by decide)]
    have e11 : (fdS I' s c f t).2.1 11 t = I 11 t := by rw [fdS_I (by decide), h17 11 (by decide)]
    have e12 : (fdS I' s c f t).2.1 12 t = I 12 t := by rw [fdS_I (by decide), h17 12 (by decide)]
    have e16 : (fdS I' s c f t).2.1 16 t = I 16 t := by rw [fdS_I (by decide), h17 16 (by decide)]
    have e13 : (fdS I' s c f t).2.2 13 t = L 13 t := by rw [fdS_a (by decide) (by decide) (by decide), hs 13 (Or.inl rfl)]
    have e14 : (fdS I' s c f t).2.2 14 t = L 14 t := by rw [fdS_a (by decide) (by decide) (by decide), hs 14 (Or.inr (Or.inl rfl))]
    have e15 : (fdS I' s c f t).2.2 15 t = L 15 t := by rw [fdS_a (by decide) (by decide) (by decide), hs 15 (Or.inr (Or.inr rfl))]
    have hT : fdT (fdS I' s c f t) c f t ↔ ¬ I 17 t = 0 ∧ isH I c f t := by
      unfold fdT isH
      rw [e17, e11, e12, zD_11 z11 (by omega), zD_11 z12 (by omega)]
    by_cases hH : isH I c f t
    · -- the trade is of this holding
      have hcl : ∀ i, i < t → clT (flS I L c t) t 31 i = flS I L c t 31 i ∧ clT (flS I L c t) t 32 i = flS I L c t 32 i := fun i hi => ⟨clT_i (by omega), clT_i (by omega)⟩
      by_cases h2 : I 17 t = 0
      · have hl : ¬ lotH I L c f t := fun z => z.2.1 h2
        rw [fdS_n (fun z => (hT.mp z).1 h2), cntH_n hl, flS_0' hH.1 h2]
        refine ⟨r1, fun i hi hli => ?_, fun i hi hh hn => ?_, fun y => ?_⟩
        · have hit : i < t := by
            rcases Nat.lt_succ_iff_lt_or_eq.mp hi with z | z
            · exact z
            · subst z; exact absurd hli hl
          rw [(hcl i hit).1, (hcl i hit).2]
          exact r2 i hit hli
        · by_cases hit : i = t
          · subst hit; exact clT_31
          · rw [clT_i hit]; exact r3 i (by omega) hh hn
        · rw [gnS_n (fun z => z.2.1 h2)]
          exact r4 y
      · have hTt := hT.mpr ⟨h2, hH⟩
        have c13 : clT (flS I L c t) t 13 t = L 13 t := by rw [clT_a (by decide) (by decide), flS_a (by decide) (by decide) (by decide)]
        have c14 : clT (flS I L c t) t 14 t = L 14 t := by rw [clT_a (by decide) (by decide), flS_a (by decide) (by decide) (by decide)]
        have c15 : clT (flS I L c t) t 15 t = L 15 t := by rw [clT_a (by decide) (by decide), flS_a (by decide) (by decide) (by decide)]
        rw [flS_1' hH.1 h2]
        by_cases hpos : 0 < L 13 t
        · have hl : lotH I L c f t := ⟨hH, h2, hpos⟩
          have hneg : ¬ clT (flS I L c t) t 13 t < 0 := by
            rw [c13]
            rw [i64_lt] at hpos ⊢
            omega
          rw [fdS_b hTt (by rw [e13]; exact hpos), cntH_p hl, elS_pos hneg, c13]
          have hpay : payT (clT (flS I L c t) t) t = L 14 t + L 15 t := by
            unfold payT
            rw [if_neg hneg, c14, c15, Int64.add_comm]
          rw [hpay]
          obtain ⟨zb1, zb2⟩ := zb hpos
          have hbt : bndL (L 13 t) (L 14 t + L 15 t) := ⟨⟨by rw [i64_lt] at hpos; exact Int.le_of_lt hpos, zm⟩, zb1, zb2⟩
          refine ⟨?_, fun i hi hli => ?_, fun i hi hh hn => ?_, fun y => ?_⟩
          · show (fdS I' s c f t).1 + 1 = _
            rw [r1]
          · by_cases hit : i = t
            · subst hit
              rw [← r1, fdB_19, fdB_20, fdB_21, up2_ne (show (31 : Nat) ≠ 32 by decide), up2_s, up2_s, e13, e14, e15]
              exact ⟨rfl, rfl, rfl, hbt⟩
            · have hne := cntH_ne hli hl hit
              rw [← r1] at hne
              rw [fdB_19i hne, fdB_i hne, fdB_i hne, up2_i hit, up2_i hit, up2_i hit, up2_i hit, (hcl i (by omega)).1, (hcl i (by omega)).2]
              exact r2 i (by omega) hli
          · have hit : i ≠ t := fun z => by subst z; exact hn hl
            rw [up2_i hit, up2_i hit, clT_i hit]
            exact r3 i (by omega) hh hn
          · rw [fdB_a (by decide) (by decide), gnS_n (fun z => by have := z.2.2.1; rw [i64_lt] at this hpos; omega)]
            exact r4 y
        · have hl : ¬ lotH I L c f t := fun z => hpos z.2.2
          have hneg : L 13 t < 0 := by
            rw [i64_lt] at hpos ⊢
            have : (L 13 t).toInt ≠ (0 : Int64).toInt := fun z => z0 (Int64.toInt_inj.mp z)
            omega
          have hneg' : clT (flS I L c t) t 13 t < 0 := by rw [c13]; exact hneg
          have hxn : ∀ i, i < t → lotH I L c f i → (fdS I' s c f t).2.2 20 (cntH I L c f i) = clT (flS I L c t) t 31 i ∧ (fdS I' s c f t).2.2 21 (cntH I L c f i) = clT (flS I L c t) t 32 i ∧ bndL (clT (flS I L c t) t 31 i) (clT (flS I L c t) t 32 i) := fun i hi hli => by
            rw [(hcl i hi).1, (hcl i hi).2]
            exact (r2 i hi hli).2
          have h0n : ∀ i, i < t → isH I c f i → ¬ lotH I L c f i → clT (flS I L c t) t 31 i = 0 := fun i hi hh hn => by
            rw [(hcl i hi).1]
            exact r3 i hi hh hn
          obtain ⟨k1, -, k3⟩ := tk_rel hS (w := -L 13 t) hxn h0n t (Nat.le_refl t)
          rw [fdS_g hTt (by rw [e13]; exact hpos), cntH_n hl, elS_neg hneg', hH.1, hH.2, c13]
          have hgn : gnE I (clT (flS I L c t) t) t = L 14 t - L 15 t - (tkS (fdS I' s c f t).2.2 (-L 13 t) (cntH I L c f t)).1 := by
            unfold gnE payT
            rw [if_pos hneg', c13, c14, c15, hH.1, hH.2, k1, Int64.neg_sub]
          refine ⟨r1, fun i hi hli => ?_, fun i hi hh hn => ?_, fun y => ?_⟩
          · have hit : i < t := by
              rcases Nat.lt_succ_iff_lt_or_eq.mp hi with z | z
              · exact z
              · subst z; exact absurd hli hl
            rw [fdG_a (by decide), fdG_a (by decide), up2_a (by decide), up2_a (by decide), e13, r1]
            exact ⟨(r2 i hit hli).1, k3 i hit hli⟩
          · rw [up2_a (by decide)]
            by_cases hit : i = t
            · subst hit
              rw [tcS_fix i (Or.inr (Nat.le_refl i))]
              exact clT_31
            · have hx0 := h0n i (by omega) hh hn
              have : ∀ k, k ≤ t → (tcS I (clT (flS I L c t) t) c f (-L 13 t) k).2.2 31 i = 0 := by
                intro k
                induction k with
                | zero => exact fun _ => hx0
                | succ k ihk =>
                  intro hk
                  have ih2 := ihk (by omega)
                  by_cases hp : tcP I c f k (tcS I (clT (flS I L c t) t) c f (-L 13 t) k)
                  · by_cases hik : i = k
                    · subst hik
                      have z3 := hp.2.2
                      rw [ih2] at z3
                      exact absurd z3 (by decide)
                    · rw [tcS_p hp]
                      rw [tcU_i hik]
                      exact ih2
                  · rw [tcS_n hp]
                    exact ih2
              exact this t (Nat.le_refl t)
          · by_cases hy : dN (I 16 t) / 360 = y
            · have hy2 : dN ((fdS I' s c f t).2.1 16 t) / 360 = y := by rw [e16]; exact hy
              have h22 := fdG_22 (s := fdS I' s c f t) (t := t)
              rw [hy2] at h22
              rw [gnS_p ⟨hH, h2, hneg, hy⟩, h22, r4 y, hgn, e13, e14, e15, r1, Int64.add_assoc]
            · rw [gnS_n (fun z => hy z.2.2.2), fdG_22i (fun z => hy (by rw [z, e16])), r4 y]
    · -- another holding
      have hl : ¬ lotH I L c f t := fun z => hH z.1
      rw [fdS_n (fun z => hH (hT.mp z).2), cntH_n hl]
      have hsame : ∀ i, i < t + 1 → isH I c f i → flS I L c (t + 1) 31 i = flS I L c t 31 i ∧ flS I L c (t + 1) 32 i = flS I L c t 32 i := by
        intro i hi hh
        have hit : i ≠ t := fun z => by subst z; exact hH hh
        by_cases h : dN (I 11 t) = c
        · by_cases h2 : I 17 t = 0
          · rw [flS_0' h h2, clT_i hit, clT_i hit]
            exact ⟨rfl, rfl⟩
          · have hn : ¬ isH I (dN (I 11 t)) (dN (I 12 t)) i := fun z => hH ⟨h, z.2.symm.trans hh.2⟩
            rw [flS_1' h h2, elS_31 (Or.inl rfl) hn, elS_31 (Or.inr rfl) hn, clT_i hit, clT_i hit]
            exact ⟨rfl, rfl⟩
        · rw [flS_n h]
          exact ⟨rfl, rfl⟩
      refine ⟨r1, fun i hi hli => ?_, fun i hi hh hn => ?_, fun y => ?_⟩
      · rw [(hsame i hi hli.1).1, (hsame i hi hli.1).2]
        have hit : i ≠ t := fun z => by subst z; exact hH hli.1
        exact r2 i (by omega) hli
      · rw [(hsame i hi hh).1]
        have hit : i ≠ t := fun z => by subst z; exact hH hh
        exact r3 i (by omega) hh hn
      · rw [gnS_n (fun z => hH z.1)]
        exact r4 y
