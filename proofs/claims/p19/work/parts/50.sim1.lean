/-! ===== lots found anew: what they rest on ===== -/
theorem tcS_fix {I : zIA} {L : zLA} {c f i : Nat} {w : Int64} {a : Nat} : ∀ n, ¬ isH I c f i ∨ n ≤ i → (tcS I L c f w n).2.2 a i = L a i
  | 0, _ => rfl
  | n + 1, h => by
    have ih := tcS_fix (I := I) (L := L) (c := c) (f := f) (i := i) (w := w) (a := a) n (h.imp id (fun z => by omega))
    by_cases hp : tcP I c f n (tcS I L c f w n)
    · have hne : i ≠ n := fun z => by
        subst z
        rcases h with h | h
        · exact h hp.2.1
        · omega
      rw [tcS_p hp]
      show up2 (up2 _ 31 n _) 32 n _ a i = _
      rw [up2_i hne, up2_i hne, ih]
    · rw [tcS_n hp, ih]
theorem tcU_31 {s : Int64 × Int64 × zLA} {k : Nat} : (tcU s k).2.2 31 k = s.2.2 31 k - tcG s k := by
  show up2 (up2 s.2.2 31 k (s.2.2 31 k - tcG s k)) 32 k (s.2.2 32 k - tcC s k) 31 k = _
  rw [up2_ne (show (31 : Nat) ≠ 32 by decide), up2_s]
theorem tcU_32 {s : Int64 × Int64 × zLA} {k : Nat} : (tcU s k).2.2 32 k = s.2.2 32 k - tcC s k := up2_s _ _ _ _
theorem tcU_i {s : Int64 × Int64 × zLA} {k a i : Nat} (h : i ≠ k) : (tcU s k).2.2 a i = s.2.2 a i := by
  show up2 (up2 s.2.2 31 k (s.2.2 31 k - tcG s k)) 32 k (s.2.2 32 k - tcC s k) a i = _
  rw [up2_i h, up2_i h]
theorem tcS_cong {I I' : zIA} {L L' : zLA} {c f n : Nat} {w : Int64} (hI : ∀ i, i < n → (isH I c f i ↔ isH I' c f i)) (h : ∀ i, i < n → isH I c f i → L 31 i = L' 31 i ∧ L 32 i = L' 32 i) :
    ∀ k, k ≤ n → (tcS I L c f w k).1 = (tcS I' L' c f w k).1 ∧ (tcS I L c f w k).2.1 = (tcS I' L' c f w k).2.1 ∧ ∀ i, i < n → isH I c f i → (tcS I L c f w k).2.2 31 i = (tcS I' L' c f w k).2.2 31 i ∧ (tcS I L c f w k).2.2 32 i = (tcS I' L' c f w k).2.2 32 i
  | 0, _ => ⟨rfl, rfl, h⟩
  | k + 1, hk => by
    obtain ⟨h1, h2, h3⟩ := tcS_cong (w := w) hI h k (by omega)
    by_cases hp : tcP I c f k (tcS I L c f w k)
    · obtain ⟨e31, e32⟩ := h3 k (by omega) hp.2.1
      have hp' : tcP I' c f k (tcS I' L' c f w k) := ⟨by rw [← h2]; exact hp.1, (hI k (by omega)).mp hp.2.1, by rw [← e31]; exact hp.2.2⟩
      rw [tcS_p hp, tcS_p hp']
      have eG : tcG (tcS I L c f w k) k = tcG (tcS I' L' c f w k) k := by unfold tcG; rw [e31, h2]
      have eC : tcC (tcS I L c f w k) k = tcC (tcS I' L' c f w k) k := by unfold tcC; rw [e31, e32, eG]
      refine ⟨?_, ?_, fun i hi hh => ?_⟩
      · show (tcS I L c f w k).1 + _ = (tcS I' L' c f w k).1 + _
        rw [h1, eC]
      · show (tcS I L c f w k).2.1 - _ = (tcS I' L' c f w k).2.1 - _
        rw [h2, eG]
      · by_cases hik : i = k
        · subst hik
          rw [tcU_31, tcU_31, tcU_32, tcU_32, e31, e32, eG, eC]
          exact ⟨rfl, rfl⟩
        · rw [tcU_i hik, tcU_i hik, tcU_i hik, tcU_i hik]
          exact h3 i hi hh
    · have hp' : ¬ tcP I' c f k (tcS I' L' c f w k) := fun z => by
        have hH := (hI k (by omega)).mpr z.2.1
        exact hp ⟨by rw [h2]; exact z.1, hH, by rw [(h3 k (by omega) hH).1]; exact z.2.2⟩
      rw [tcS_n hp, tcS_n hp']
      exact ⟨h1, h2, h3⟩
/-- what a sale brings, less what it cost -/
noncomputable def gnE (I : zIA) (L : zLA) (t : Nat) : Int64 := -payT L t - (tcS I L (dN (I 11 t)) (dN (I 12 t)) (-L 13 t) t).1
theorem elS_neg {I : zIA} {L : zLA} {t : Nat} (h : L 13 t < 0) : elS I L t = up2 (tcS I L (dN (I 11 t)) (dN (I 12 t)) (-L 13 t) t).2.2 30 (21 * dN (I 11 t) + dN (I 16 t) / 360) (L 30 (21 * dN (I 11 t) + dN (I 16 t) / 360) + gnE I L t) := by
  unfold elS gnE
  rw [if_pos h, tcS_13 (by decide) (by decide)]
theorem elS_pos {I : zIA} {L : zLA} {t : Nat} (h : ¬ L 13 t < 0) : elS I L t = up2 (up2 L 31 t (L 13 t)) 32 t (payT L t) := if_neg h
theorem elS_a {I : zIA} {L : zLA} {t a : Nat} (h30 : a ≠ 30) (h31 : a ≠ 31) (h32 : a ≠ 32) : elS I L t a = L a := by
  by_cases h : L 13 t < 0
  · rw [elS_neg h, up2_a h30, tcS_13 h31 h32]
  · rw [elS_pos h, up2_a h32, up2_a h31]
/-- lots of other holdings stay -/
theorem elS_31 {I : zIA} {L : zLA} {t i a : Nat} (ha : a = 31 ∨ a = 32) (h : ¬ isH I (dN (I 11 t)) (dN (I 12 t)) i) : elS I L t a i = L a i := by
  have hti : i ≠ t := fun z => h (by rw [z]; exact ⟨rfl, rfl⟩)
  have ha3 : a ≠ 30 := by omega
  by_cases h13 : L 13 t < 0
  · rw [elS_neg h13, up2_a ha3]
    exact tcS_fix t (Or.inl h)
  · rw [elS_pos h13, up2_i hti, up2_i hti]
theorem payT_c {L L' : zLA} {t : Nat} (h13 : L 13 t = L' 13 t) (h14 : L 14 t = L' 14 t) (h15 : L 15 t = L' 15 t) : payT L t = payT L' t := by
  unfold payT
  rw [h13, h14, h15]
/-- the step of one trade, in two pictures -/
theorem elS_cong {I I' : zIA} {L L' : zLA} {c f t : Nat} (h11 : dN (I 11 t) = c) (h12 : dN (I 12 t) = f) (h11' : dN (I' 11 t) = c) (h12' : dN (I' 12 t) = f) (h13 : L 13 t = L' 13 t) (h14 : L 14 t = L' 14 t) (h15 : L 15 t = L' 15 t)
    (hI : ∀ i, i < t → (isH I c f i ↔ isH I' c f i)) (h : ∀ i, i < t + 1 → isH I c f i → L 31 i = L' 31 i ∧ L 32 i = L' 32 i) :
    gnE I L t = gnE I' L' t ∧ ∀ i, i < t + 1 → isH I c f i → elS I L t 31 i = elS I' L' t 31 i ∧ elS I L t 32 i = elS I' L' t 32 i := by
  subst h11
  subst h12
  obtain ⟨k1, -, k3⟩ := tcS_cong (w := -L 13 t) hI (fun i hi => h i (by omega)) t (Nat.le_refl t)
  constructor
  · unfold gnE
    rw [h11', h12', ← h13, k1, payT_c h13 h14 h15]
  · intro i hi hh
    by_cases hs : L 13 t < 0
    · rw [elS_neg hs, elS_neg (show L' 13 t < 0 by rw [← h13]; exact hs), h11', h12', up2_a (by decide), up2_a (by decide), up2_a (by decide), up2_a (by decide), ← h13]
      by_cases hit : i = t
      · subst hit
        rw [tcS_fix i (Or.inr (Nat.le_refl _)), tcS_fix i (Or.inr (Nat.le_refl _)), tcS_fix i (Or.inr (Nat.le_refl _)), tcS_fix i (Or.inr (Nat.le_refl _))]
        exact h i hi hh
      · exact k3 i (by omega) hh
    · rw [elS_pos hs, elS_pos (show ¬ L' 13 t < 0 by rw [← h13]; exact hs)]
      by_cases hit : i = t
      · subst hit
        rw [up2_ne (show (31 : Nat) ≠ 32 by decide), up2_ne (show (31 : Nat) ≠ 32 by decide), up2_s, up2_s, up2_s, up2_s, h13, payT_c h13 h14 h15]
        exact ⟨rfl, rfl⟩
      · rw [up2_i hit, up2_i hit, up2_i hit, up2_i hit, up2_i hit, up2_i hit, up2_i hit, up2_i hit]
        exact h i hi hh
theorem elS_fix {I : zIA} {L : zLA} {t i a : Nat} (ha : a = 31 ∨ a = 32) (h : t < i) : elS I L t a i = L a i := by
  have hti : i ≠ t := by omega
  have ha3 : a ≠ 30 := by omega
  by_cases h13 : L 13 t < 0
  · rw [elS_neg h13, up2_a ha3]
    exact tcS_fix t (Or.inr (by omega))
  · rw [elS_pos h13, up2_i hti, up2_i hti]
theorem elS_30 {I : zIA} {L : zLA} {t i : Nat} : elS I L t 30 i = if L 13 t < 0 ∧ i = 21 * dN (I 11 t) + dN (I 16 t) / 360 then L 30 i + gnE I L t else L 30 i := by
  by_cases h13 : L 13 t < 0
  · rw [elS_neg h13]
    by_cases hi : i = 21 * dN (I 11 t) + dN (I 16 t) / 360
    · rw [if_pos ⟨h13, hi⟩, hi, up2_s]
    · rw [if_neg (fun z => hi z.2), up2_i hi, tcS_13 (by decide) (by decide)]
  · rw [elS_pos h13, if_neg (fun z => h13 z.1), up2_ne (by decide), up2_ne (by decide)]
def clT (L : zLA) (t : Nat) : zLA := up2 (up2 L 31 t 0) 32 t 0
theorem clT_a {L : zLA} {t a : Nat} (h31 : a ≠ 31) (h32 : a ≠ 32) : clT L t a = L a := by
  unfold clT
  rw [up2_a h32, up2_a h31]
theorem clT_i {L : zLA} {t i a : Nat} (h : i ≠ t) : clT L t a i = L a i := by
  unfold clT
  rw [up2_i h, up2_i h]
theorem clT_31 {L : zLA} {t : Nat} : clT L t 31 t = 0 := by
  unfold clT
  rw [up2_ne (by decide), up2_s]
theorem clT_32 {L : zLA} {t : Nat} : clT L t 32 t = 0 := up2_s _ _ _ _
theorem flS_0' {I : zIA} {L : zLA} {c t : Nat} (h : dN (I 11 t) = c) (h2 : I 17 t = 0) : flS I L c (t + 1) = clT (flS I L c t) t := flS_0 h h2
theorem flS_1' {I : zIA} {L : zLA} {c t : Nat} (h : dN (I 11 t) = c) (h2 : ¬ I 17 t = 0) : flS I L c (t + 1) = elS I (clT (flS I L c t) t) t := flS_1 h h2
theorem flS_a {I : zIA} {L : zLA} {c a : Nat} (h30 : a ≠ 30) (h31 : a ≠ 31) (h32 : a ≠ 32) : ∀ t, flS I L c t a = L a
  | 0 => z30_a h30
  | t + 1 => by
    have ih := flS_a (I := I) (L := L) (c := c) h30 h31 h32 t
    by_cases h : dN (I 11 t) = c
    · by_cases h2 : I 17 t = 0
      · rw [flS_0' h h2, clT_a h31 h32, ih]
      · rw [flS_1' h h2, elS_a h30 h31 h32, clT_a h31 h32, ih]
    · rw [flS_n h, ih]
/-- lots of other clients, and of trades to come, stay -/
theorem flS_fix {I : zIA} {L : zLA} {c i a : Nat} (ha : a = 31 ∨ a = 32) : ∀ t, ¬ dN (I 11 i) = c ∨ t ≤ i → flS I L c t a i = L a i
  | 0, _ => by show z30 L c a i = _; rw [z30_a (by omega)]
  | t + 1, hi => by
    have ih := flS_fix (I := I) (L := L) (c := c) (i := i) ha t (hi.imp id (fun z => by omega))
    by_cases h : dN (I 11 t) = c
    · have hne : i ≠ t := fun z => by
        subst z
        rcases hi with hi | hi
        · exact hi h
        · omega
      by_cases h2 : I 17 t = 0
      · rw [flS_0' h h2, clT_i hne, ih]
      · rw [flS_1' h h2]
        have : elS I (clT (flS I L c t) t) t a i = clT (flS I L c t) t a i := by
          rcases hi with hi | hi
          · exact elS_31 ha (fun z => hi (z.1.trans h))
          · exact elS_fix ha (by omega)
        rw [this, clT_i hne, ih]
    · rw [flS_n h, ih]
/-- gains of other clients stay -/
theorem flS_30 {I : zIA} {L : zLA} {c i n : Nat} (hy : ∀ t, t < n → dN (I 16 t) / 360 < 21) (hi : ¬ (21 * c ≤ i ∧ i < 21 * c + 21)) : ∀ t, t ≤ n → flS I L c t 30 i = L 30 i
  | 0, _ => if_neg (fun z => hi z.2)
  | t + 1, ht => by
    have ih := flS_30 (L := L) hy hi t (by omega)
    by_cases h : dN (I 11 t) = c
    · by_cases h2 : I 17 t = 0
      · rw [flS_0' h h2, clT_a (by decide) (by decide), ih]
      · rw [flS_1' h h2, elS_30, if_neg, clT_a (by decide) (by decide), ih]
        rintro ⟨-, z⟩
        have := hy t (by omega)
        omega
    · rw [flS_n h, ih]
theorem flS_cong {I I' : zIA} {L L' : zLA} {c n : Nat} (hc : ∀ i, i < n → (dN (I 11 i) = c ↔ dN (I' 11 i) = c))
    (hI : ∀ i, i < n → dN (I 11 i) = c → dN (I 12 i) = dN (I' 12 i) ∧ dN (I 16 i) = dN (I' 16 i) ∧ (I 17 i = 0 ↔ I' 17 i = 0) ∧ L 13 i = L' 13 i ∧ L 14 i = L' 14 i ∧ L 15 i = L' 15 i) :
    ∀ t, t ≤ n → (∀ i, i < t → dN (I 11 i) = c → flS I L c t 31 i = flS I' L' c t 31 i ∧ flS I L c t 32 i = flS I' L' c t 32 i) ∧ ∀ y, y < 21 → flS I L c t 30 (21 * c + y) = flS I' L' c t 30 (21 * c + y)
  | 0, _ => ⟨fun i hi => absurd hi (Nat.not_lt_zero i), fun y hy => (if_pos ⟨rfl, by omega, by omega⟩).trans (if_pos ⟨rfl, by omega, by omega⟩).symm⟩
  | t + 1, ht => by
    obtain ⟨ih, ihy⟩ := flS_cong hc hI t (by omega)
    by_cases h : dN (I 11 t) = c
    · have h' : dN (I' 11 t) = c := (hc t (by omega)).mp h
      obtain ⟨e12, e16, e17, e13, e14, e15⟩ := hI t (by omega) h
      have ihc : ∀ i, i < t + 1 → dN (I 11 i) = c → clT (flS I L c t) t 31 i = clT (flS I' L' c t) t 31 i ∧ clT (flS I L c t) t 32 i = clT (flS I' L' c t) t 32 i := by
        intro i hi hh
        by_cases hit : i = t
        · subst hit
          rw [clT_31, clT_31, clT_32, clT_32]
          exact ⟨rfl, rfl⟩
        · rw [clT_i hit, clT_i hit, clT_i hit, clT_i hit]
          exact ih i (by omega) hh
      by_cases h2 : I 17 t = 0
      · rw [flS_0' h h2, flS_0' h' (e17.mp h2)]
        refine ⟨ihc, fun y hy => ?_⟩
        rw [clT_a (by decide) (by decide), clT_a (by decide) (by decide)]
        exact ihy y hy
      · rw [flS_1' h h2, flS_1' h' (fun z => h2 (e17.mpr z))]
        have r13 : clT (flS I L c t) t 13 t = clT (flS I' L' c t) t 13 t := by
          rw [clT_a (by decide) (by decide), clT_a (by decide) (by decide), flS_a (by decide) (by decide) (by decide), flS_a (by decide) (by decide) (by decide)]
          exact e13
        have r14 : clT (flS I L c t) t 14 t = clT (flS I' L' c t) t 14 t := by
          rw [clT_a (by decide) (by decide), clT_a (by decide) (by decide), flS_a (by decide) (by decide) (by decide), flS_a (by decide) (by decide) (by decide)]
          exact e14
        have r15 : clT (flS I L c t) t 15 t = clT (flS I' L' c t) t 15 t := by
          rw [clT_a (by decide) (by decide), clT_a (by decide) (by decide), flS_a (by decide) (by decide) (by decide), flS_a (by decide) (by decide) (by decide)]
          exact e15
        have hiff : ∀ i, i < t → (isH I c (dN (I 12 t)) i ↔ isH I' c (dN (I 12 t)) i) := by
          intro i hi
          constructor
          · intro z
            exact ⟨(hc i (by omega)).mp z.1, by rw [← (hI i (by omega) z.1).1]; exact z.2⟩
          · intro z
            have z1 := (hc i (by omega)).mpr z.1
            exact ⟨z1, by rw [(hI i (by omega) z1).1]; exact z.2⟩
        obtain ⟨eg, ek⟩ := elS_cong (c := c) (f := dN (I 12 t)) h rfl h' e12.symm r13 r14 r15 hiff (fun i hi hh => ihc i hi hh.1)
        refine ⟨fun i hi hh => ?_, fun y hy => ?_⟩
        · by_cases hf : dN (I 12 i) = dN (I 12 t)
          · exact ek i hi ⟨hh, hf⟩
          · have n1 : ¬ isH I (dN (I 11 t)) (dN (I 12 t)) i := fun z => hf z.2
            have n2 : ¬ isH I' (dN (I' 11 t)) (dN (I' 12 t)) i := fun z => hf (by rw [(hI i (by omega) hh).1, e12]; exact z.2)
            rw [elS_31 (Or.inl rfl) n1, elS_31 (Or.inr rfl) n1, elS_31 (Or.inl rfl) n2, elS_31 (Or.inr rfl) n2]
            exact ihc i hi hh
        · rw [elS_30, elS_30, h, h', ← e16, ← r13, eg, clT_a (L := flS I L c t) (a := 30) (by decide) (by decide), clT_a (L := flS I' L' c t) (a := 30) (by decide) (by decide), ihy y hy]
    · have h' : ¬ dN (I' 11 t) = c := fun z => h ((hc t (by omega)).mpr z)
      rw [flS_n h, flS_n h']
      refine ⟨fun i hi hh => ?_, ihy⟩
      by_cases hit : i = t
      · subst hit
        exact absurd hh h
      · exact ih i (by omega) hh
