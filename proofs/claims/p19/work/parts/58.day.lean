/-! ===== days that pass: what they keep, and the reference's ===== -/
theorem up2_self {α : Type} {f : Nat → Nat → α} {a i : Nat} : up2 f a i (f a i) = f := by
  funext a' i'
  by_cases h : a' = a ∧ i' = i
  · obtain ⟨rfl, rfl⟩ := h
    exact up2_s _ _ _ _
  · exact if_neg h
theorem tuL_a {L : zLA} {f a : Nat} {u : Int64} (h2 : a ≠ 2) (h3 : a ≠ 3) : tuL L f u a = L a := by
  unfold tuL
  rw [up2_a h3, up2_a h2]
theorem tuL_i {L : zLA} {f a i : Nat} {u : Int64} (h : i ≠ f) : tuL L f u a i = L a i := by
  unfold tuL
  rw [up2_i h, up2_i h]
theorem tuL_3 {L : zLA} {f : Nat} {u : Int64} : tuL L f u 3 f = L 3 f + u * 1000 := up2_s _ _ _ _
theorem tu_ps {L L' : zLA} {f : Nat} {m : Int64} (hL : ∀ a, a < 20 → L a = L' a) : ∀ a, a < 20 → tuL L f (-m) a = up2 (up2 L' 2 f (L' 2 f - m)) 3 f (up2 L' 2 f (L' 2 f - m) 3 f - m * 1000) a := by
  intro a ha
  have e2 := congrFun (hL 2 (by decide)) f
  have e3 := congrFun (hL 3 (by decide)) f
  have ea := hL a ha
  have z1 : L' 2 f + -m = L' 2 f - m := by grind
  have z2 : L' 3 f + -m * 1000 = L' 3 f - m * 1000 := by grind
  unfold tuL
  rw [up2_ne (show (3 : Nat) ≠ 2 by decide), e2, e3, z1, z2]
  funext i
  simp only [up2]
  rw [ea]
theorem ed_rel {I I' : zIA} {L L' : zLA} {mo : Int64} {b : Nat} (h1 : I' 1 = I 1) (hL : ∀ a, a < 20 → L' a = L a) (hS : iSt b L) (hb : b ≤ 10000) :
    ∀ k, k ≤ 6 → (edS I mo L k).1 = (psS I' mo L' k).1 ∧ (∀ a, a < 20 → (psS I' mo L' k).2 a = (edS I mo L k).2 a) ∧ (∀ a, a ≠ 2 → a ≠ 3 → (edS I mo L k).2 a = L a) ∧ ∀ f, f < 6 → 0 ≤ ((edS I mo L k).2 3 f).toInt ∧ ((edS I mo L k).2 3 f).toInt ≤ 1000 + 1200000000000 * (b : Int)
  | 0, _ => ⟨rfl, hL, fun _ _ _ => rfl, hS⟩
  | k + 1, hk => by
    obtain ⟨r1, r2, r3, r4⟩ := ed_rel (mo := mo) h1 hL hS hb k (by omega)
    have e3 : (psS I' mo L' k).2 3 k = (edS I mo L k).2 3 k := by rw [r2 3 (by decide)]
    refine ⟨?_, fun a ha => ?_, fun a h2 h3 => ?_, fun f hf => ?_⟩
    · show (edS I mo L k).1 - -((edS I mo L k).2 3 k / 1000) * Int32.toInt64 (I 1 k) = (psS I' mo L' k).1 + (psS I' mo L' k).2 3 k / 1000 * Int32.toInt64 (I' 1 k)
      rw [e3, r1, h1]
      grind
    · show up2 (up2 (psS I' mo L' k).2 2 k ((psS I' mo L' k).2 2 k - (psS I' mo L' k).2 3 k / 1000)) 3 k (up2 (psS I' mo L' k).2 2 k ((psS I' mo L' k).2 2 k - (psS I' mo L' k).2 3 k / 1000) 3 k - (psS I' mo L' k).2 3 k / 1000 * 1000) a = tuL (edS I mo L k).2 k (-((edS I mo L k).2 3 k / 1000)) a
      rw [e3]
      exact (tu_ps (fun a ha => (r2 a ha).symm) a ha).symm
    · exact (tuL_a h2 h3).trans (r3 a h2 h3)
    · show 0 ≤ (tuL (edS I mo L k).2 k (-((edS I mo L k).2 3 k / 1000)) 3 f).toInt ∧ (tuL (edS I mo L k).2 k (-((edS I mo L k).2 3 k / 1000)) 3 f).toInt ≤ _
      obtain ⟨s1, s2⟩ := r4 f hf
      by_cases e : f = k
      · subst e
        rw [tuL_3]
        have hk : (1000 : Int64).toInt = 1000 := rfl
        have q1 : ((edS I mo L f).2 3 f / 1000).toInt = ((edS I mo L f).2 3 f).toInt / 1000 := by rw [i64_div s1 (by decide), hk]
        have q2 : (-((edS I mo L f).2 3 f / 1000)).toInt = -(((edS I mo L f).2 3 f).toInt / 1000) := by rw [i64_neg (by rw [q1]; omega), q1]
        have q3 : (-((edS I mo L f).2 3 f / 1000) * 1000).toInt = -(((edS I mo L f).2 3 f).toInt / 1000) * 1000 := by rw [i64_mul (by rw [q2, hk]; omega) (by rw [q2, hk]; omega), q2, hk]
        rw [i64_add (by rw [q3]; omega) (by rw [q3]; omega), q3]
        omega
      · rw [tuL_i e]
        exact ⟨s1, s2⟩
theorem st_pre {L : zLA} {c y : Nat} (h : ∀ i, i < y → L 9 (21 * c + i) = bsV L c i / 4) : ∀ k, k ≤ y → (stS L c k).1 = 0 ∧ (stS L c k).2 = L
  | 0, _ => ⟨rfl, rfl⟩
  | k + 1, hk => by
    obtain ⟨r1, r2⟩ := st_pre h k (by omega)
    constructor
    · show (stS L c k).1 + ((stS L c k).2 9 (21 * c + k) - bsV (stS L c k).2 c k / 4) = 0
      rw [r1, r2, h k (by omega)]
      grind
    · show up2 (stS L c k).2 9 (21 * c + k) (bsV (stS L c k).2 c k / 4) = L
      rw [r2, ← h k (by omega), up2_self]
theorem st_one {L : zLA} {c y : Nat} (h : ∀ i, i < y → L 9 (21 * c + i) = bsV L c i / 4) (h0 : L 9 (21 * c + y) = 0) : (stS L c (y + 1)).1 = -(bsV L c y / 4) ∧ (stS L c (y + 1)).2 = up2 L 9 (21 * c + y) (bsV L c y / 4) := by
  obtain ⟨r1, r2⟩ := st_pre h y (Nat.le_refl y)
  constructor
  · show (stS L c y).1 + ((stS L c y).2 9 (21 * c + y) - bsV (stS L c y).2 c y / 4) = _
    rw [r1, r2, h0]
    grind
  · show up2 (stS L c y).2 9 (21 * c + y) (bsV (stS L c y).2 c y / 4) = _
    rw [r2]
theorem gnOK_c {n : Nat} {I : zIA} {L L' : zLA} {c : Nat} (h : ∀ a, a = 13 ∨ a = 14 ∨ a = 15 ∨ a = 30 ∨ a = 31 ∨ a = 32 → L' a = L a) (hg : gnOK n I L c) : gnOK n I L' c := by
  obtain ⟨g1, g2⟩ := hg
  obtain ⟨c1, c2⟩ := flS_cong (I := I) (I' := I) (L := L) (L' := L') (c := c) (n := n) (fun i _ => Iff.rfl) (fun i _ _ => ⟨rfl, rfl, Iff.rfl, by rw [h 13 (by omega)], by rw [h 14 (by omega)], by rw [h 15 (by omega)]⟩) n (Nat.le_refl n)
  refine ⟨fun i hi hh => ?_, fun y hy => ?_⟩
  · rw [h 31 (by omega), h 32 (by omega), ← (c1 i hi hh).1, ← (c1 i hi hh).2]
    exact g1 i hi hh
  · rw [h 30 (by omega), ← c2 y hy]
    exact g2 y hy
theorem ec_rel {nc nt nl y : Nat} {I I' : zIA} {L L' : zLA} (hnc : nc ≤ 12) (hO : trOK nt I L) (hy : y < 21) (hg : ∀ c, c < nc → gnOK nt I L c) (h9 : ∀ c, c < nc → ∀ i, i < 21 → L 9 (21 * c + i) = if i < y then bsV L c i / 4 else 0) (hI : ∀ a, a ≠ 19 → I' a = I a) (hL : ∀ a, a < 20 → L' a = L a) :
    ∀ k, k ≤ nc → (∀ a, a ≠ 6 → a ≠ 9 → ecS L (y + 1) k a = L a) ∧ (∀ c, c < k → ∀ i, i < 21 → ecS L (y + 1) k 9 (21 * c + i) = if i < y + 1 then bsV L c i / 4 else 0) ∧ (∀ i, 21 * k ≤ i → ecS L (y + 1) k 9 i = L 9 i) ∧ (∀ c, k ≤ c → ecS L (y + 1) k 6 c = L 6 c) ∧
      (∀ a, a < 20 → (ptS (nl, I', L') nt y k).2.2 a = ecS L (y + 1) k a) ∧ ∀ a, a ≠ 19 → (ptS (nl, I', L') nt y k).2.1 a = I a
  | 0, _ => ⟨fun _ _ _ => rfl, fun c hc => absurd hc (Nat.not_lt_zero c), fun _ _ => rfl, fun _ _ => rfl, hL, hI⟩
  | k + 1, hk => by
    obtain ⟨rA, rB, rC, rD, rE, rF⟩ := ec_rel (nl := nl) hnc hO hy hg h9 hI hL k (by omega)
    obtain ⟨X, hX⟩ : ∃ X, X = ecS L (y + 1) k := ⟨_, rfl⟩
    obtain ⟨s, hs⟩ : ∃ s, s = ptS (nl, I', L') nt y k := ⟨_, rfl⟩
    rw [← hX] at rA rB rC rD rE
    rw [← hs] at rE rF
    have hbX : ∀ c i, bsV X c i = bsV L c i := fun c i => bsV_c (fun z _ => by rw [rA 30 (by decide) (by decide)])
    have hX9 : ∀ i, i < 21 → X 9 (21 * k + i) = if i < y then bsV L k i / 4 else 0 := fun i hi => by rw [rC _ (by omega), h9 k (by omega) i hi]
    obtain ⟨o1, o2⟩ := st_one (L := X) (c := k) (y := y) (fun i hi => by rw [hX9 i (by omega), if_pos hi, hbX]) (by rw [hX9 y hy, if_neg (Nat.lt_irrefl y)])
    rw [hbX] at o1 o2
    have hstep : ecS L (y + 1) (k + 1) = up2 (up2 X 9 (21 * k + y) (bsV L k y / 4)) 6 k (X 6 k + -(bsV L k y / 4)) := by
      show stL (ecS L (y + 1) k) k (y + 1) = _
      rw [← hX]
      unfold stL
      rw [o1, o2, up2_ne (show (6 : Nat) ≠ 9 by decide)]
    have hOX : trOK nt I X := fun t ht => by
      rw [rA 13 (by decide) (by decide), rA 14 (by decide) (by decide), rA 15 (by decide) (by decide)]
      exact hO t ht
    obtain ⟨-, gX⟩ := gnOK_c (L' := X) (fun a ha => rA a (by omega) (by omega)) (hg k (by omega))
    obtain ⟨y1, y2, y3⟩ := years_rel shOK_t (I := I) (I' := s.2.1) (L := X) (s := s.2.2) (c := k) (nl := s.1) (n := nt) (by omega) hOX rF (fun a ha => rE a (by omega)) gX
    have ys : (s.1, s.2.1, s.2.2) = s := rfl
    rw [ys] at y1 y2 y3
    have hb : (yearsS s k nt).2.2 23 y = bsV L k y := by rw [(y1 y hy).2, hbX]
    have hpt : ptS (nl, I', L') nt y (k + 1) = ((yearsS s k nt).1, (yearsS s k nt).2.1, ptL (yearsS s k nt).2.2 k y) := by
      show ptE (ptS (nl, I', L') nt y k) nt y k = _
      rw [← hs]
      rfl
    rw [hstep, hpt]
    refine ⟨fun a h6 h9 => ?_, fun c hc i hi => ?_, fun i hi => ?_, fun c hc => ?_, fun a ha => ?_, fun a ha => y3 a ha⟩
    · rw [up2_a h6, up2_a h9, rA a h6 h9]
    · rw [up2_ne (by decide)]
      by_cases e : c = k
      · subst e
        by_cases ei : i = y
        · subst ei
          rw [up2_s, if_pos (Nat.lt_succ_self i)]
        · rw [up2_i (show 21 * c + i ≠ 21 * c + y by omega), hX9 i hi]
          by_cases h1 : i < y
          · rw [if_pos h1, if_pos (by omega)]
          · rw [if_neg h1, if_neg (by omega)]
      · rw [up2_i (show 21 * c + i ≠ 21 * k + y by omega)]
        exact rB c (by omega) i hi
    · rw [up2_ne (by decide), up2_i (show i ≠ 21 * k + y by omega)]
      exact rC i (by omega)
    · rw [up2_i (show c ≠ k by omega), up2_ne (by decide)]
      exact rD c (by omega)
    · show ptL (yearsS s k nt).2.2 k y a = _
      unfold ptL
      have e6 : (yearsS s k nt).2.2 6 = X 6 := by rw [y2 6 (by decide) (by decide) (by decide) (by decide), rE 6 (by decide)]
      have e9 : (yearsS s k nt).2.2 9 = X 9 := by rw [y2 9 (by decide) (by decide) (by decide) (by decide), rE 9 (by decide)]
      rw [up2_ne (show (6 : Nat) ≠ 9 by decide), up2_ne (show (23 : Nat) ≠ 9 by decide), hb, e6, show X 6 k - bsV L k y / 4 = X 6 k + -(bsV L k y / 4) by grind]
      by_cases h6 : a = 6
      · subst h6
        rw [up2_L, up2_L, up2_a (show (6 : Nat) ≠ 9 by decide), up2_a (show (6 : Nat) ≠ 9 by decide), e6]
      · rw [up2_a h6, up2_a h6]
        by_cases h9' : a = 9
        · subst h9'
          rw [up2_L, up2_L, e9]
        · rw [up2_a h9', up2_a h9', y2 a (by omega) (by omega) (by omega) (by omega), rE a ha]
/-- one day, of both -/
theorem day_rel {nc nt dy b nl : Nat} {I I' : zIA} {L L' : zLA} {mo : Int64} (h : zInv nc nt dy b I L) (hb : b ≤ 10000) (hd : dy < 7200) (hI : ∀ a, a ≠ 19 → I' a = I a) (hL : ∀ a, a < 20 → L' a = L a) :
    zInv nc nt (dy + 1) b I (edD nc dy I mo L).2 ∧ (passS nc nt (dy, nl, mo, I', L')).2.2.1 = (edD nc dy I mo L).1 ∧ (∀ a, a ≠ 19 → (passS nc nt (dy, nl, mo, I', L')).2.2.2.1 a = I a) ∧ ∀ a, a < 20 → (passS nc nt (dy, nl, mo, I', L')).2.2.2.2 a = (edD nc dy I mo L).2 a := by
  obtain ⟨⟨n1, n2, n3⟩, hPr, hGo, hTr, hOK, hPa, hSt, hCl, hBe⟩ := h
  obtain ⟨n6, h6⟩ : ∃ k : Nat, k = 6 := ⟨6, rfl⟩
  obtain ⟨r1, r2, r3, r4⟩ := ed_rel (mo := mo) (hI 1 (by decide)) hL hSt hb n6 (by omega)
  obtain ⟨E, hE⟩ : ∃ E, E = edS I mo L n6 := ⟨_, rfl⟩
  obtain ⟨P, hP⟩ : ∃ P, P = psS I' mo L' n6 := ⟨_, rfl⟩
  have hpw : pwS (dy, nl, mo, I', L') = P := by rw [hP, h6]; rfl
  rw [← hE] at r1 r2 r3 r4
  rw [← hP] at r1 r2
  have hgE : ∀ c, c < nc → gnOK nt I E.2 c := fun c hc => gnOK_c (fun a ha => r3 a (by omega) (by omega)) (hCl c hc).1
  have hbE : ∀ c i, bsV E.2 c i = bsV L c i := fun c i => bsV_c (fun z _ => by rw [r3 30 (by decide) (by decide)])
  have hOE : trOK nt I E.2 := fun t ht => by
    rw [r3 13 (by decide) (by decide), r3 14 (by decide) (by decide), r3 15 (by decide) (by decide)]
    exact hOK t ht
  by_cases hz : (dy + 1) % 360 = 0
  · obtain ⟨y, hy⟩ : ∃ y, y + 1 = (dy + 1) / 360 := ⟨(dy + 1) / 360 - 1, by omega⟩
    have hyd : dy / 360 = y := by omega
    have hy21 : y < 21 := by omega
    have h9 : ∀ c, c < nc → ∀ i, i < 21 → E.2 9 (21 * c + i) = if i < y then bsV E.2 c i / 4 else 0 := fun c hc i hi => by
      rw [r3 9 (by decide) (by decide), (hCl c hc).2 i hi, hyd, hbE]
    obtain ⟨qA, qB, qC, qD, qE, qF⟩ := ec_rel (nl := nl) (I' := I') (L' := P.2) n1 hOE hy21 hgE h9 hI r2 nc (Nat.le_refl nc)
    obtain ⟨X, hX⟩ : ∃ X, X = ecS E.2 (y + 1) nc := ⟨_, rfl⟩
    have hed : edD nc dy I mo L = (E.1, X) := by
      unfold edD
      rw [if_pos hz, hX, hE, ← hy, h6]
    have hpx : pxS nc nt (dy, nl, mo, I', L') = ptS (nl, I', P.2) nt y nc := by
      unfold pxS
      rw [hpw]
      show ptS (nl, I', P.2) nt ((dy + 1) / 360 - 1) nc = _
      rw [← hy, Nat.add_sub_cancel]
    rw [← hX] at qA qB qC qD qE
    have hps : passS nc nt (dy, nl, mo, I', L') = (dy + 1, (ptS (nl, I', P.2) nt y nc).1, P.1, (ptS (nl, I', P.2) nt y nc).2.1, (ptS (nl, I', P.2) nt y nc).2.2) := by
      rw [passS_p hz, hpw, hpx]
    rw [hed, hps]
    have hXL : ∀ a, a ≠ 2 → a ≠ 3 → a ≠ 6 → a ≠ 9 → X a = L a := fun a a2 a3 a6 a9 => (qA a a6 a9).trans (r3 a a2 a3)
    have hbX : ∀ c i, bsV X c i = bsV L c i := fun c i => bsV_c (fun z _ => by rw [hXL 30 (by decide) (by decide) (by decide) (by decide)])
    refine ⟨⟨⟨n1, n2, by omega⟩, hPr, hGo, ?_, ?_, ?_, ?_, ?_, ?_⟩, r1.symm, qF, qE⟩
    · intro t ht
      show _ ∧ _ ∧ _ ≤ (X 13 t).toInt
      rw [hXL 13 (by decide) (by decide) (by decide) (by decide)]
      exact hTr t ht
    · intro t ht
      show _ ∧ _ ∧ _ ∧ ¬ X 13 t = 0 ∧ (X 13 t).toInt ≤ _ ∧ (0 < X 13 t → 0 ≤ (X 14 t + X 15 t).toInt ∧ (X 14 t + X 15 t).toInt ≤ _)
      rw [hXL 13 (by decide) (by decide) (by decide) (by decide), hXL 14 (by decide) (by decide) (by decide) (by decide), hXL 15 (by decide) (by decide) (by decide) (by decide)]
      exact hOK t ht
    · intro c f hc hf
      show X 8 _ = (enS I X c f nt).2 ∧ 0 ≤ (X 8 _).toInt
      rw [hXL 8 (by decide) (by decide) (by decide) (by decide), enS_c (I' := I) (L' := L) (n := nt) (fun t _ => ⟨rfl, rfl, rfl, by rw [hXL 13 (by decide) (by decide) (by decide) (by decide)]⟩) nt (Nat.le_refl nt)]
      exact hPa c f hc hf
    · intro f hf
      show 0 ≤ (X 3 f).toInt ∧ (X 3 f).toInt ≤ _
      rw [qA 3 (by decide) (by decide)]
      exact r4 f hf
    · intro c hc
      refine ⟨gnOK_c (fun a ha => hXL a (by omega) (by omega) (by omega) (by omega)) (hCl c hc).1, fun i hi => ?_⟩
      show X 9 _ = if _ then bsV X c i / 4 else 0
      rw [qB c hc i hi, ← hy, hbX, hbE]
    · intro k hk
      obtain ⟨b1, b2, b3⟩ := hBe k hk
      show X 6 k = 0 ∧ (∀ y, y < 21 → X 30 _ = 0 ∧ X 9 _ = 0) ∧ ∀ f, f < 6 → X 8 _ = 0 ∧ _
      refine ⟨?_, fun i hi => ⟨?_, ?_⟩, fun f hf => ⟨?_, (b3 f hf).2⟩⟩
      · rw [qD k hk, r3 6 (by decide) (by decide)]
        exact b1
      · rw [hXL 30 (by decide) (by decide) (by decide) (by decide)]
        exact (b2 i hi).1
      · rw [qC _ (by omega), r3 9 (by decide) (by decide)]
        exact (b2 i hi).2
      · rw [hXL 8 (by decide) (by decide) (by decide) (by decide)]
        exact (b3 f hf).1
  · have hyd : (dy + 1) / 360 = dy / 360 := by omega
    have hed : edD nc dy I mo L = E := by
      unfold edD
      rw [if_neg hz, hE, h6]
    have hps : passS nc nt (dy, nl, mo, I', L') = (dy + 1, nl, P.1, I', P.2) := by
      rw [passS_n hz, hpw]
    rw [hed, hps]
    refine ⟨⟨⟨n1, n2, by omega⟩, hPr, hGo, ?_, hOE, ?_, r4, ?_, ?_⟩, r1.symm, hI, r2⟩
    · intro t ht
      rw [r3 13 (by decide) (by decide)]
      exact hTr t ht
    · intro c f hc hf
      rw [r3 8 (by decide) (by decide), enS_c (I' := I) (L' := L) (n := nt) (fun t _ => ⟨rfl, rfl, rfl, by rw [r3 13 (by decide) (by decide)]⟩) nt (Nat.le_refl nt)]
      exact hPa c f hc hf
    · intro c hc
      refine ⟨hgE c hc, fun i hi => ?_⟩
      rw [r3 9 (by decide) (by decide), (hCl c hc).2 i hi, hyd, hbE]
    · intro k hk
      obtain ⟨b1, b2, b3⟩ := hBe k hk
      rw [r3 6 (by decide) (by decide), r3 30 (by decide) (by decide), r3 9 (by decide) (by decide), r3 8 (by decide) (by decide)]
      exact ⟨b1, b2, b3⟩
/-- days, of both -/
theorem days_rel {nc nt dy b nl : Nat} {I I' : zIA} {L L' : zLA} {mo : Int64} (h : zInv nc nt dy b I L) (hb : b ≤ 10000) (hI : ∀ a, a ≠ 19 → I' a = I a) (hL : ∀ a, a < 20 → L' a = L a) :
    ∀ k, dy + k ≤ 7200 → zInv nc nt (dy + k) b I (epN nc dy I mo L k).2.2 ∧ (passN nc nt (dy, nl, mo, I', L') k).2.2.1 = (epN nc dy I mo L k).2.1 ∧ (∀ a, a ≠ 19 → (passN nc nt (dy, nl, mo, I', L') k).2.2.2.1 a = I a) ∧ ∀ a, a < 20 → (passN nc nt (dy, nl, mo, I', L') k).2.2.2.2 a = (epN nc dy I mo L k).2.2 a
  | 0, _ => ⟨h, rfl, hI, hL⟩
  | k + 1, hk => by
    obtain ⟨r1, r2, r3, r4⟩ := days_rel (nl := nl) (mo := mo) h hb hI hL k (by omega)
    obtain ⟨s, hs⟩ : ∃ s, s = passN nc nt (dy, nl, mo, I', L') k := ⟨_, rfl⟩
    obtain ⟨e, he⟩ : ∃ e, e = epN nc dy I mo L k := ⟨_, rfl⟩
    have hs1 : s.1 = dy + k := by rw [hs]; exact passN_dy k
    have he1 : e.1 = dy + k := by rw [he]; exact epN_dy k
    rw [← hs] at r2 r3 r4
    rw [← he] at r1 r2 r4
    have q := day_rel (nl := s.2.1) (mo := s.2.2.1) r1 hb (by omega) r3 r4
    have es : (dy + k, s.2.1, s.2.2.1, s.2.2.2.1, s.2.2.2.2) = s := by rw [← hs1]
    rw [es, r2] at q
    have e1 : epN nc dy I mo L (k + 1) = (e.1 + 1, (edD nc e.1 I e.2.1 e.2.2).1, (edD nc e.1 I e.2.1 e.2.2).2) := by rw [he]; rfl
    have e2 : passN nc nt (dy, nl, mo, I', L') (k + 1) = passS nc nt s := by rw [hs]; rfl
    rw [e1, e2, he1]
    exact q
