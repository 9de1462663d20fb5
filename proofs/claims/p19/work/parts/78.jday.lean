/-! ===== days, of the law's books and the picture ===== -/
def dwA (L : zLA) (i : Nat) (m : Int64) : zLA := up2 L 1 i (L 1 i - m)
def dwB (L : zLA) (i : Nat) (m : Int64) : zLA := up2 L 1 (6 + i) (L 1 (6 + i) - 1000 * m)
def dwC (I : zIA) (L : zLA) (i : Nat) (m : Int64) : zLA := up2 L 1 15 (L 1 15 + m * Int32.toInt64 (I 0 i))
def dw1 (I : zIA) (L : zLA) (i : Nat) : zLA := dwC I (dwB (dwA L i (L 1 (6 + i) / 1000)) i (L 1 (6 + i) / 1000)) i (L 1 (6 + i) / 1000)
def dwS (I : zIA) (L : zLA) : Nat → zLA
  | 0 => L
  | f + 1 => dw1 I (dwS I L f) f
def dcX (T : zLA) (c D : Nat) : zLA := up2 T 7 (21 * c + D - 1) (T 9 (21 + D) / 4)
def dcY (T : zLA) (c D : Nat) : zLA := up2 T 1 (12 + c) (T 1 (12 + c) - T 9 (21 + D) / 4)
noncomputable def dcS (I : zIA) (L : zLA) (nt D : Nat) : Nat → zLA
  | 0 => L
  | c + 1 => dcY (dcX (taxL I (dcS I L nt D c) c nt) c D) c D
def ldI (I : zIA) (dy : Nat) : zIA := up2 I 10 0 (nI (dy + 1))
noncomputable def ldL (I : zIA) (L : zLA) (nc nt dy : Nat) : zLA := if (dy + 1) % 360 = 0 then dcS (ldI I dy) (dwS I L 6) nt ((dy + 1) / 360) nc else dwS I L 6
noncomputable def lnS (nc nt dy : Nat) (I : zIA) (L : zLA) : Nat → zIA × zLA
  | 0 => (I, L)
  | k + 1 => (ldI (lnS nc nt dy I L k).1 (dy + k), ldL (lnS nc nt dy I L k).1 (lnS nc nt dy I L k).2 nc nt (dy + k))
theorem dw_1 {I : zIA} {L : zLA} {f i : Nat} (hf : f < 6) : dw1 I L f 1 i = if i = 15 then L 1 15 + L 1 (6 + f) / 1000 * Int32.toInt64 (I 0 f) else if i = 6 + f then L 1 (6 + f) - 1000 * (L 1 (6 + f) / 1000) else if i = f then L 1 f - L 1 (6 + f) / 1000 else L 1 i := by
  unfold dw1
  generalize L 1 (6 + f) / 1000 = k
  unfold dwC dwB dwA
  by_cases h1 : i = 15
  · subst h1
    rw [if_pos rfl, up2_s, up2_i (show 15 ≠ 6 + f by omega), up2_i (show 15 ≠ f by omega)]
  · rw [if_neg h1, up2_i h1]
    by_cases h2 : i = 6 + f
    · subst h2
      rw [if_pos rfl, up2_s, up2_i (show 6 + f ≠ f by omega)]
    · rw [if_neg h2, up2_i h2]
      by_cases h3 : i = f
      · subst h3
        rw [if_pos rfl, up2_s]
      · rw [if_neg h3, up2_i h3]
theorem dw_a {I : zIA} {L : zLA} {f a : Nat} (h : a ≠ 1) : dw1 I L f a = L a := by
  unfold dw1 dwC dwB dwA
  rw [up2_a h, up2_a h, up2_a h]
section JD
variable {nc nt dy b : Nat} {mo : Int64} {I Ia : zIA} {L La : zLA}
theorem dw_rel (hp : ∀ f, f < 6 → Ia 0 f = I 1 f) (hV : rV mo L La) (hs : sOK nc L) : ∀ k, k ≤ 6 → rV (edS I mo L k).1 (edS I mo L k).2 (dwS Ia La k) ∧ (∀ a, a ≠ 1 → dwS Ia La k a = La a) ∧ sOK nc (edS I mo L k).2 ∧ ∀ a, a ≠ 2 → a ≠ 3 → (edS I mo L k).2 a = L a
  | 0, _ => ⟨hV, fun _ _ => rfl, hs, fun _ _ _ => rfl⟩
  | k + 1, hk => by
    obtain ⟨⟨v1, v2, v3, v4⟩, r2, r3, r4⟩ := dw_rel hp hV hs k (by omega)
    obtain ⟨E, hE⟩ : ∃ E, E = edS I mo L k := ⟨_, rfl⟩
    obtain ⟨Z, hZ⟩ : ∃ Z, Z = dwS Ia La k := ⟨_, rfl⟩
    rw [← hE, ← hZ] at v1
    rw [← hE, ← hZ] at v2 v3 v4
    rw [← hZ] at r2
    rw [← hE] at r3 r4
    have e1 : edS I mo L (k + 1) = (E.1 - -(E.2 3 k / 1000) * Int32.toInt64 (I 1 k), tuL E.2 k (-(E.2 3 k / 1000))) := by rw [hE]; rfl
    have e2 : dwS Ia La (k + 1) = dw1 Ia Z k := by rw [hZ]; rfl
    rw [e1, e2]
    have e6 := (v1 k (by omega)).2
    refine ⟨⟨fun f hf => ⟨?_, ?_⟩, fun c hc => ?_, ?_, fun i hi => ?_⟩, fun a ha => (dw_a ha).trans (r2 a ha), fun f hf => ?_, fun a a2 a3 => (tuL_a a2 a3).trans (r4 a a2 a3)⟩
    · rw [dw_1 (by omega), if_neg (by omega), if_neg (by omega), e6]
      by_cases e : f = k
      · subst e
        rw [if_pos rfl, (v1 f hf).1]
        show _ = tuL E.2 f (-(E.2 3 f / 1000)) 2 f
        unfold tuL
        rw [up2_ne (by decide), up2_s]
        grind
      · rw [if_neg e, (v1 f hf).1]
        exact (tuL_i e).symm
    · rw [dw_1 (by omega), if_neg (by omega), e6]
      by_cases e : f = k
      · subst e
        rw [if_pos rfl]
        show _ = tuL E.2 f (-(E.2 3 f / 1000)) 3 f
        rw [tuL_3]
        grind
      · rw [if_neg (by omega), if_neg (by omega), (v1 f hf).2]
        exact (tuL_i e).symm
    · rw [dw_1 (by omega), if_neg (by omega), if_neg (by omega), if_neg (by omega), v2 c hc]
      show _ = tuL E.2 k (-(E.2 3 k / 1000)) 6 c
      rw [tuL_a (by decide) (by decide)]
    · rw [dw_1 (by omega), if_pos rfl, e6, v3, hp k (by omega)]
      show _ = E.1 - -(E.2 3 k / 1000) * Int32.toInt64 (I 1 k)
      grind
    · rw [dw_a (by decide), v4 i hi]
      show _ = tuL E.2 k (-(E.2 3 k / 1000)) 8 i
      rw [tuL_a (by decide) (by decide)]
    · have h8 : ∀ j, tuL E.2 k (-(E.2 3 k / 1000)) 8 j = E.2 8 j := fun j => by rw [tuL_a (by decide) (by decide)]
      by_cases e : f = k
      · subst e
        rw [psU_up (L := E.2) (c := 0) (d := -(E.2 3 f / 1000) * 1000) (q := 0) tuL_3 (by rw [h8, Int64.add_zero]) (fun j _ => h8 _) nc, r3 f hf]
        show _ = 1000 * tuL E.2 f (-(E.2 3 f / 1000)) 2 f
        unfold tuL
        rw [up2_ne (by decide), up2_s]
        split <;> grind
      · rw [psU_c (L := E.2) (tuL_i e) nc (fun c _ => h8 _), r3 f hf]
        show _ = 1000 * tuL E.2 k (-(E.2 3 k / 1000)) 2 f
        rw [tuL_i e]
theorem dc_rel {y n : Nat} {E A : zLA} (hnc : nc ≤ 3) (hnt : nt ≤ 30) (hO : trOK nt I E) (hM : ∀ t, t < nt → -1200000000000 ≤ (E 13 t).toInt) (hD : ∀ k, k < nt → dN (I 11 k) < 4) (hR : rT nt I E Ia A) (hEn : eOK nc nt I E) (hy : y < 21) (hn : n = y + 1) (hg : ∀ c, c < nc → gnOK nt I E c) (h9 : ∀ c, c < nc → ∀ i, i < 21 → E 9 (21 * c + i) = if i < y then bsV E c i / 4 else 0) (hV : rV mo E A) (h7 : ∀ i, i < 63 → A 7 i = E 9 i) :
    ∀ k, k ≤ nc → rV mo (ecS E n k) (dcS Ia A nt n k) ∧ (∀ i, i < 63 → dcS Ia A nt n k 7 i = ecS E n k 9 i) ∧ dcS Ia A nt n k 5 = A 5 ∧ dcS Ia A nt n k 6 = A 6
  | 0, _ => ⟨hV, h7, rfl, rfl⟩
  | k + 1, hk => by
    obtain ⟨⟨v1, v2, v3, v4⟩, r2, r3, r4⟩ := dc_rel hnc hnt hO hM hD hR hEn hy hn hg h9 hV h7 k (by omega)
    subst hn
    obtain ⟨rA, rB, rC, rD, -, -⟩ := ec_rel (nl := 0) (I' := I) (L' := E) (by omega) hO hy hg h9 (fun _ _ => rfl) (fun _ _ => rfl) k (by omega)
    obtain ⟨X, hX⟩ : ∃ X, X = ecS E (y + 1) k := ⟨_, rfl⟩
    obtain ⟨Z, hZ⟩ : ∃ Z, Z = dcS Ia A nt (y + 1) k := ⟨_, rfl⟩
    rw [← hX] at rA rB rC rD
    rw [← hX, ← hZ] at v1 v2 v4 r2
    rw [← hZ] at v3 r3 r4
    have hbX : ∀ c i, bsV X c i = bsV E c i := fun c i => bsV_c (fun z _ => by rw [rA 30 (by decide) (by decide)])
    have hX9 : ∀ i, i < 21 → X 9 (21 * k + i) = if i < y then bsV E k i / 4 else 0 := fun i hi => by rw [rC _ (by omega), h9 k (by omega) i hi]
    obtain ⟨o1, o2⟩ := st_one (L := X) (c := k) (y := y) (fun i hi => by rw [hX9 i (by omega), if_pos hi, hbX]) (by rw [hX9 y hy, if_neg (Nat.lt_irrefl y)])
    rw [hbX] at o1 o2
    have hstep : ecS E (y + 1) (k + 1) = up2 (up2 X 9 (21 * k + y) (bsV E k y / 4)) 6 k (X 6 k + -(bsV E k y / 4)) := by
      show stL (ecS E (y + 1) k) k (y + 1) = _
      rw [← hX]
      unfold stL
      rw [o1, o2, up2_ne (show (6 : Nat) ≠ 9 by decide)]
    have hOX : trOK nt I X := fun t ht => by
      rw [rA 13 (by decide) (by decide), rA 14 (by decide) (by decide), rA 15 (by decide) (by decide)]
      exact hO t ht
    have hRX : rT nt I X Ia Z := fun t ht => by
      rw [r3, r4, rA 13 (by decide) (by decide), rA 14 (by decide) (by decide), rA 15 (by decide) (by decide)]
      exact hR t ht
    obtain ⟨-, gX⟩ := gnOK_c (L' := X) (fun a ha => rA a (by omega) (by omega)) (hg k (by omega))
    obtain ⟨t1, -⟩ := tax_rel (n := nt) (c := k) (I := I) (Ia := Ia) (L := X) (La := Z) (X := X) (by omega) hnt hOX (fun t ht => by rw [rA 13 (by decide) (by decide)]; exact hM t ht) hD hRX (fun f hf => by
      rw [enS_c (I' := I) (L' := E) (n := nt) (fun t _ => ⟨rfl, rfl, rfl, by rw [rA 13 (by decide) (by decide)]⟩) nt (Nat.le_refl nt)]
      exact hEn k f (by omega) hf) gX
    obtain ⟨T, hT⟩ : ∃ T, T = taxL Ia Z k nt := ⟨_, rfl⟩
    have hTa : ∀ a, a ≠ 8 → a ≠ 9 → T a = Z a := fun a a1 a2 => by rw [hT]; exact taxL_a a1 a2
    have hT9 : T 9 (21 + (y + 1)) = bsV E k y := by
      rw [show 21 + (y + 1) = 22 + y by omega, hT, (t1 y hy).2, hbX]
    have hstepZ : dcS Ia A nt (y + 1) (k + 1) = up2 (up2 T 7 (21 * k + y) (bsV E k y / 4)) 1 (12 + k) (T 1 (12 + k) - bsV E k y / 4) := by
      show dcY (dcX (taxL Ia (dcS Ia A nt (y + 1) k) k nt) k (y + 1)) k (y + 1) = _
      rw [← hZ, ← hT]
      unfold dcY dcX
      rw [up2_ne (show (1 : Nat) ≠ 7 by decide), up2_ne (show (9 : Nat) ≠ 7 by decide), hT9, show 21 * k + (y + 1) - 1 = 21 * k + y by omega]
    rw [hstep, hstepZ]
    refine ⟨⟨fun f hf => ?_, fun c hc => ?_, ?_, fun i hi => ?_⟩, fun i hi => ?_, ?_, ?_⟩
    · rw [up2_i (show f ≠ 12 + k by omega), up2_i (show 6 + f ≠ 12 + k by omega), up2_ne (show (1 : Nat) ≠ 7 by decide), up2_ne (show (1 : Nat) ≠ 7 by decide), up2_ne (show (2 : Nat) ≠ 6 by decide), up2_ne (show (2 : Nat) ≠ 9 by decide), up2_ne (show (3 : Nat) ≠ 6 by decide), up2_ne (show (3 : Nat) ≠ 9 by decide), hTa 1 (by decide) (by decide)]
      exact v1 f hf
    · by_cases e : c = k
      · subst e
        rw [up2_s, up2_s, hTa 1 (by decide) (by decide), v2 c hc]
        grind
      · rw [up2_i (by omega), up2_i e, up2_ne (by decide), up2_ne (by decide), hTa 1 (by decide) (by decide)]
        exact v2 c hc
    · rw [up2_i (by omega), up2_ne (by decide), hTa 1 (by decide) (by decide)]
      exact v3
    · rw [up2_ne (by decide), up2_ne (by decide), up2_ne (by decide), up2_ne (by decide), hTa 2 (by decide) (by decide)]
      exact v4 i hi
    · rw [up2_ne (show (7 : Nat) ≠ 1 by decide), up2_ne (show (9 : Nat) ≠ 6 by decide)]
      by_cases e : i = 21 * k + y
      · subst e
        rw [up2_s, up2_s]
      · rw [up2_i e, up2_i e, hTa 7 (by decide) (by decide)]
        exact r2 i hi
    · rw [up2_a (by decide), up2_a (by decide), hTa 5 (by decide) (by decide)]
      exact r3
    · rw [up2_a (by decide), up2_a (by decide), hTa 6 (by decide) (by decide)]
      exact r4
theorem J_day (h : zJ nc nt dy b mo I L Ia La) (hb : b ≤ 10000) (hd : dy < 7200) : zJ nc nt (dy + 1) b (edD nc dy I mo L).1 I (edD nc dy I mo L).2 (ldI Ia dy) (ldL Ia La nc nt dy) := by
  obtain ⟨hO, hM, hD⟩ := h.d
  obtain ⟨h1, h2, h3, h4, h5, h6, h7, h8, h9, h10⟩ := h
  obtain ⟨q1, -⟩ := day_rel (nl := 0) (I' := I) (L' := L) (mo := mo) h1 hb hd (fun _ _ => rfl) (fun _ _ => rfl)
  obtain ⟨n6, e6⟩ : ∃ k : Nat, k = 6 := ⟨6, rfl⟩
  obtain ⟨w1, w2, w3, w4⟩ := dw_rel h4 h6 h10 n6 (by omega)
  have iA : ∀ a, a ≠ 10 → ldI Ia dy a = Ia a := fun a ha => up2_a ha
  obtain ⟨E, hE⟩ : ∃ E, E = edS I mo L n6 := ⟨_, rfl⟩
  obtain ⟨Z, hZ⟩ : ∃ Z, Z = dwS Ia La n6 := ⟨_, rfl⟩
  rw [← hE] at w1 w3 w4
  rw [← hZ] at w1 w2
  have hRE : ∀ Ia', Ia' 4 = Ia 4 → rT nt I E.2 Ia' Z := fun Ia' e4 t ht => by
    rw [e4, w2 5 (by decide), w2 6 (by decide), w4 13 (by decide) (by decide), w4 14 (by decide) (by decide), w4 15 (by decide) (by decide)]
    exact h8 t ht
  have hEn : eOK nc nt I E.2 := fun c f hc hf => by
    rw [enS_c (I' := I) (L' := L) (n := nt) (fun t _ => ⟨rfl, rfl, rfl, by rw [w4 13 (by decide) (by decide)]⟩) nt (Nat.le_refl nt)]
    exact h9 c f hc hf
  have key : ∀ (X W : zLA) (m : Int64), rV m X W → (∀ i, i < 63 → W 7 i = X 9 i) → W 5 = Z 5 → W 6 = Z 6 → (∀ a, a ≠ 6 → a ≠ 9 → X a = E.2 a) → edD nc dy I mo L = (m, X) → ldL Ia La nc nt dy = W → zJ nc nt (dy + 1) b (edD nc dy I mo L).1 I (edD nc dy I mo L).2 (ldI Ia dy) (ldL Ia La nc nt dy) := by
    intro X W m k1 k2 k3 k4 k5 k6 k7
    rw [k6] at q1 ⊢
    rw [k7]
    refine ⟨q1, h2, ⟨up2_s _ _ _ _, (up2_i (by decide) _).trans h3.2.1, (up2_i (by decide) _).trans h3.2.2⟩, fun f hf => ?_, fun i hi => ?_, k1, k2, fun t ht => ?_, fun c f hc hf => ?_, sOK_c w3 (fun a ha => k5 a (by omega) (by omega))⟩
    · rw [iA 0 (by decide)]
      exact h4 f hf
    · rw [iA 3 (by decide)]
      exact h5 i hi
    · show ldI Ia dy 4 t = _ ∧ W 5 t = X 13 t ∧ W 6 t = X 14 t ∧ cosL (X 14 t) = X 15 t
      rw [k3, k4, k5 13 (by decide) (by decide), k5 14 (by decide) (by decide), k5 15 (by decide) (by decide)]
      exact hRE _ (iA 4 (by decide)) t ht
    · show ¬ (enS I X c f nt).1 = 0
      rw [enS_c (I' := I) (L' := E.2) (n := nt) (fun t _ => ⟨rfl, rfl, rfl, by rw [k5 13 (by decide) (by decide)]⟩) nt (Nat.le_refl nt)]
      exact hEn c f hc hf
  have x7 : ∀ i, i < 63 → Z 7 i = E.2 9 i := fun i hi => by
    rw [w2 7 (by decide), w4 9 (by decide) (by decide)]
    exact h7 i hi
  by_cases hz : (dy + 1) % 360 = 0
  · obtain ⟨y, hy⟩ : ∃ y, y + 1 = (dy + 1) / 360 := ⟨(dy + 1) / 360 - 1, by omega⟩
    have hyd : dy / 360 = y := by omega
    have hy21 : y < 21 := by omega
    have hCl := h1.2.2.2.2.2.2.2.1
    have hbE : ∀ c i, bsV E.2 c i = bsV L c i := fun c i => bsV_c (fun z _ => by rw [w4 30 (by decide) (by decide)])
    have hOE : trOK nt I E.2 := fun t ht => by
      rw [w4 13 (by decide) (by decide), w4 14 (by decide) (by decide), w4 15 (by decide) (by decide)]
      exact hO t ht
    have hME : ∀ t, t < nt → -1200000000000 ≤ (E.2 13 t).toInt := fun t ht => by
      rw [w4 13 (by decide) (by decide)]
      exact hM t ht
    obtain ⟨d1, d2, d3, d4⟩ := dc_rel (y := y) (n := (dy + 1) / 360) (I := I) (Ia := ldI Ia dy) (E := E.2) (A := Z) (mo := E.1) h2.1 h2.2 hOE hME hD (hRE _ (iA 4 (by decide))) hEn hy21 hy.symm (fun c hc => gnOK_c (fun a ha => w4 a (by omega) (by omega)) (hCl c hc).1) (fun c hc i hi => by rw [w4 9 (by decide) (by decide), (hCl c hc).2 i hi, hyd, hbE]) w1 x7 nc (Nat.le_refl nc)
    obtain ⟨eA, -⟩ := ec_rel (nl := 0) (nt := nt) (y := y) (I := I) (I' := I) (L := E.2) (L' := E.2) (nc := nc) (by omega) hOE hy21 (fun c hc => gnOK_c (fun a ha => w4 a (by omega) (by omega)) (hCl c hc).1) (fun c hc i hi => by rw [w4 9 (by decide) (by decide), (hCl c hc).2 i hi, hyd, hbE]) (fun _ _ => rfl) (fun _ _ => rfl) nc (Nat.le_refl nc)
    rw [hy] at eA
    refine key _ _ _ d1 d2 d3 d4 eA ?_ ?_
    · unfold edD
      rw [if_pos hz, hE, e6]
    · unfold ldL
      rw [if_pos hz, hZ, e6]
  · refine key E.2 Z E.1 w1 x7 rfl rfl (fun _ _ _ => rfl) ?_ ?_
    · unfold edD
      rw [if_neg hz, hE, e6]
    · unfold ldL
      rw [if_neg hz, hZ, e6]
/-- days -/
theorem J_days (h : zJ nc nt dy b mo I L Ia La) (hb : b ≤ 10000) : ∀ k, dy + k ≤ 7200 → zJ nc nt (dy + k) b (epN nc dy I mo L k).2.1 I (epN nc dy I mo L k).2.2 (lnS nc nt dy Ia La k).1 (lnS nc nt dy Ia La k).2
  | 0, _ => h
  | k + 1, hk => by
    have ih := J_days h hb k (by omega)
    have q := J_day ih hb (by omega)
    have e1 : epN nc dy I mo L (k + 1) = (dy + k + 1, (edD nc (dy + k) I (epN nc dy I mo L k).2.1 (epN nc dy I mo L k).2.2).1, (edD nc (dy + k) I (epN nc dy I mo L k).2.1 (epN nc dy I mo L k).2.2).2) := by
      rw [← epN_dy (nc := nc) (I := I) (mo := mo) (L := L) k]
      rfl
    rw [e1]
    exact q
end JD
