/-! ===== a trade, a complaint, days: of the law's books and the picture ===== -/
theorem up2_up2 {α : Type} {f : Nat → Nat → α} {a i : Nat} {v w : α} : up2 (up2 f a i v) a i w = up2 f a i w := by
  funext a' i'
  unfold up2
  split <;> rfl
theorem en_eq {I I' : zIA} {L L' : zLA} {c f n : Nat} (h : ∀ t, t < n → enA I L c f t = enA I' L' c f t) : ∀ t, t ≤ n → enS I L c f t = enS I' L' c f t
  | 0, _ => rfl
  | t + 1, ht => by
    have ih := en_eq h t (by omega)
    show (if ¬ (enS I L c f t).1 = 0 ∧ ¬ (enS I L c f t).2 + enA I L c f t < 0 then (1, (enS I L c f t).2 + enA I L c f t) else (0, (enS I L c f t).2 + enA I L c f t)) = (if ¬ (enS I' L' c f t).1 = 0 ∧ ¬ (enS I' L' c f t).2 + enA I' L' c f t < 0 then (1, (enS I' L' c f t).2 + enA I' L' c f t) else (0, (enS I' L' c f t).2 + enA I' L' c f t))
    rw [ih, h t (by omega)]
theorem eOK_new {nc nt : Nat} {I I1 : zIA} {L L1 : zLA} (he : ∀ c f, c < nc → f < 6 → enS I1 L1 c f nt = enS I L c f nt) (h : eOK nc nt I L) (hP : iPa nc (nt + 1) I1 L1) : eOK nc (nt + 1) I1 L1 := by
  intro c f hc hf
  obtain ⟨p1, p2⟩ := hP c f hc hf
  rw [p1, enS_2] at p2
  rw [enS_p rfl ⟨by rw [he c f hc hf]; exact h c f hc hf, by rw [i64_lt, i64_0]; omega⟩]
  exact (by decide : ¬ (1 : Int32) = 0)
section JT
variable {nc nt dy b : Nat} {mo : Int64} {I Ia : zIA} {L La : zLA}
theorem tr1_a {L : zLA} {nt a : Nat} {q x : Int64} (h5 : a ≠ 5) (h6 : a ≠ 6) : tr1 L nt q x a = L a := by
  unfold tr1
  rw [up2_a h6, up2_a h5]
theorem trL_a {nt dy c f a : Nat} {q x : Int64} (h1 : a ≠ 1) (h2 : a ≠ 2) : trL Ia La nt dy c f q x a = tr1 La nt q x a := by
  unfold trL
  rw [mv_a h1 h2, tr_a h1]
theorem py_eq {q x : Int64} (h0 : 0 ≤ x.toInt) (h1 : x.toInt ≤ 10000000000000000) : pyL q x = paidL q x := by
  unfold pyL paidL
  rw [cos_eq h0 h1]
theorem J_note {c f : Nat} {q x : Int64} (h : zJ nc nt dy b mo I L Ia La) (hc : c < nc) (hf : f < 6) (hnt : nt < 30) (hb : b ≤ 10000) (hq0 : ¬ q = 0) (hq1 : q.toInt ≤ 10000000000) (hx : 0 < q → 0 ≤ (x + costL x).toInt ∧ (x + costL x).toInt ≤ 200000000) (hp : 0 ≤ (L 8 (6 * c + f)).toInt + q.toInt) (hx0 : 0 ≤ x.toInt) (hx1 : x.toInt ≤ 10000000000000000) :
    zJ nc (nt + 1) dy (b + 1) (mtM I L nt dy c f q x mo) (noteI I nt dy c f) (mtL I L nt dy c f q x) (trI Ia nt dy c f) (trL Ia La nt dy c f q x) := by
  obtain ⟨h1, h2, h3, h4, h5, h6, h7, h8, h9, h10⟩ := h
  have hpa := h1.pa hc hf
  have hN := note_inv h1 hc hf (by omega) hb hq0 hq1 hx hp
  have hdy := h1.1.2.2
  have hcond := zJ.cond (q := q) h1 hb hf (by omega) (by omega)
  have hpy : payT (tdL L nt q x) nt = pyL q x := by rw [pay_tdL hq0, py_eq hx0 hx1]
  have iA : ∀ a, a ≠ 11 → a ≠ 12 → a ≠ 16 → a ≠ 17 → noteI I nt dy c f a = I a := fun a a1 a2 a3 a4 => by
    unfold noteI
    rw [up2_a a4, up2_a a3, up2_a a2, up2_a a1]
  have lA : ∀ a, a ≠ 30 → a ≠ 31 → a ≠ 32 → mtL I L nt dy c f q x a = exL (tdL L nt q x) c f q (pyL q x) a := fun a a1 a2 a3 => by
    unfold mtL
    rw [elS_a a1 a2 a3, hpy]
  have lT : ∀ a, a ≠ 2 → a ≠ 3 → a ≠ 6 → a ≠ 8 → a ≠ 30 → a ≠ 31 → a ≠ 32 → mtL I L nt dy c f q x a = tdL L nt q x a := fun a a1 a2 a3 a4 a5 a6 a7 => by
    rw [lA a a5 a6 a7, exL_a a1 a2 a3 a4]
  have hV0 : rV mo (tdL L nt q x) (tr1 La nt q x) := rV_c h6 (tr1_a (by decide) (by decide)) (tr1_a (by decide) (by decide)) (fun a ha => tdL_a (by omega) (by omega) (by omega) (by omega) (by omega))
  have hV := mv_rel (I := noteI I nt dy c f) (Ia := trI Ia nt dy c f) (c := c) (f := f) (q := q) (x := pyL q x) (mo := mo) (by omega) hf (by rw [trI_a (by decide) (by decide), iA 1 (by decide) (by decide) (by decide) (by decide)]; exact h4 f hf) (by rw [tdL_a (show (3 : Nat) ≠ 13 by decide) (by decide) (by decide) (by decide) (by decide)]; exact hcond) hV0
  refine ⟨hN, ⟨h2.1, by omega⟩, ⟨(trI_10 (by decide)).trans h3.1, (trI_10 (by decide)).trans h3.2.1, trI_nt⟩, fun g hg => ?_, fun i hi => ?_, ?_, fun i hi => ?_, fun k hk => ?_, ?_, ?_⟩
  · rw [trI_a (by decide) (by decide), iA 1 (by decide) (by decide) (by decide) (by decide)]
    exact h4 g hg
  · rw [trI_a (by decide) (by decide), iA 7 (by decide) (by decide) (by decide) (by decide)]
    exact h5 i hi
  · have em : mtM I L nt dy c f q x mo = exM (noteI I nt dy c f) (tdL L nt q x) f q (pyL q x) mo := by
      unfold mtM
      rw [hpy]
    rw [em]
    exact rV_c hV rfl rfl (fun a ha => lA a (by omega) (by omega) (by omega))
  · rw [trL_a (by decide) (by decide), tr1_a (by decide) (by decide), lT 9 (by decide) (by decide) (by decide) (by decide) (by decide) (by decide) (by decide), tdL_a (by decide) (by decide) (by decide) (by decide) (by decide)]
    exact h7 i hi
  · rw [lT 13 (by decide) (by decide) (by decide) (by decide) (by decide) (by decide) (by decide), lT 14 (by decide) (by decide) (by decide) (by decide) (by decide) (by decide) (by decide), lT 15 (by decide) (by decide) (by decide) (by decide) (by decide) (by decide) (by decide), trL_a (show (5 : Nat) ≠ 1 by decide) (by decide), trL_a (show (6 : Nat) ≠ 1 by decide) (by decide)]
    by_cases e : k = nt
    · subst e
      refine ⟨?_, ?_, ?_, ?_⟩
      · unfold pkT
        rw [noteI_11, noteI_12, noteI_16, noteI_17, dN_nI (by omega), dN_nI (by omega), dN_nI (by omega), if_neg (by decide), Nat.add_zero]
        unfold trI
        rw [up2_ne (by decide), up2_s]
      · rw [tdL_13]
        unfold tr1
        rw [up2_ne (by decide), up2_s]
      · rw [tdL_14]
        unfold tr1
        rw [up2_s]
      · rw [tdL_14, tdL_15, cos_eq hx0 hx1]
    · rw [tdL_i e, tdL_i e, tdL_i e]
      have e4 : trI Ia nt dy c f 4 k = Ia 4 k := by
        unfold trI
        rw [up2_ne (by decide), up2_i e]
      have e5 : tr1 La nt q x 5 k = La 5 k := by
        unfold tr1
        rw [up2_ne (by decide), up2_i e]
      have e6 : tr1 La nt q x 6 k = La 6 k := by
        unfold tr1
        rw [up2_i e, up2_ne (by decide)]
      rw [e4, e5, e6]
      unfold pkT
      rw [noteI_i e, noteI_i e, noteI_i e, noteI_i e]
      exact h8 k (by omega)
  · refine eOK_new (fun c' f' hc' hf' => ?_) h9 hN.2.2.2.2.2.1
    exact enS_c (n := nt) (fun t ht => ⟨noteI_i (by omega), noteI_i (by omega), noteI_i (by omega), by rw [lT 13 (by decide) (by decide) (by decide) (by decide) (by decide) (by decide) (by decide), tdL_i (by omega)]⟩) nt (Nat.le_refl nt)
  · refine sOK_c (ex_sum (c := c) (f := f) (q := q) (x := pyL q x) (L := tdL L nt q x) hc hf (sOK_c h10 (fun a ha => tdL_a (by omega) (by omega) (by omega) (by omega) (by omega)))) (fun a ha => lA a (by omega) (by omega) (by omega))
/-! a complaint -/
def cyS (La : zLA) (c : Nat) : Nat → Int64 × zLA
  | 0 => (0, La)
  | y + 1 => ((cyS La c y).1 + ((cyS La c y).2 7 (21 * c + y) - (cyS La c y).2 9 (22 + y) / 4), up2 (cyS La c y).2 7 (21 * c + y) ((cyS La c y).2 9 (22 + y) / 4))
theorem cy_rel {X A : zLA} {c n : Nat} (hc : c < 3) (hn : n ≤ 21) (h7 : ∀ i, i < 63 → A 7 i = X 9 i) (h9 : ∀ y, y < n → A 9 (22 + y) = bsV X c y) : ∀ k, k ≤ n → (cyS A c k).1 = (stS X c k).1 ∧ (∀ i, i < 63 → (cyS A c k).2 7 i = (stS X c k).2 9 i) ∧ ∀ a, a ≠ 7 → (cyS A c k).2 a = A a
  | 0, _ => ⟨rfl, h7, fun _ _ => rfl⟩
  | k + 1, hk => by
    obtain ⟨r1, r2, r3⟩ := cy_rel hc hn h7 h9 k (by omega)
    have e9 : (cyS A c k).2 9 (22 + k) = bsV (stS X c k).2 c k := by rw [r3 9 (by decide), h9 k (by omega), bsV_st]
    refine ⟨?_, fun i hi => ?_, fun a ha => ?_⟩
    · show (cyS A c k).1 + ((cyS A c k).2 7 (21 * c + k) - (cyS A c k).2 9 (22 + k) / 4) = (stS X c k).1 + ((stS X c k).2 9 (21 * c + k) - bsV (stS X c k).2 c k / 4)
      rw [r1, r2 _ (by omega), e9]
    · show up2 (cyS A c k).2 7 (21 * c + k) ((cyS A c k).2 9 (22 + k) / 4) 7 i = up2 (stS X c k).2 9 (21 * c + k) (bsV (stS X c k).2 c k / 4) 9 i
      by_cases e : i = 21 * c + k
      · subst e
        rw [up2_s, up2_s, e9]
      · rw [up2_i e, up2_i e]
        exact r2 i hi
    · show up2 (cyS A c k).2 7 (21 * c + k) _ a = _
      rw [up2_a ha]
      exact r3 a ha
theorem pkT_un {I : zIA} {t : Nat} (hs : ¬ I 17 t = 0) : pkT (up2 I 17 t 0) t = pkT I t + 524288 := by
  have a : pkT I t = dN (I 11 t) + 4 * dN (I 12 t) + 32 * dN (I 16 t) := by
    unfold pkT
    rw [if_neg hs, Nat.add_zero]
  have b : pkT (up2 I 17 t 0) t = dN (I 11 t) + 4 * dN (I 12 t) + 32 * dN (I 16 t) + 524288 := by
    unfold pkT
    rw [up2_ne (show (11 : Nat) ≠ 17 by decide), up2_ne (show (12 : Nat) ≠ 17 by decide), up2_ne (show (16 : Nat) ≠ 17 by decide), up2_s, if_pos rfl]
  rw [a, b]
/-- the trade is unwound in the law's row -/
theorem rT_unw {t : Nat} {Ia1 : zIA} {La1 L1 : zLA} (h8 : rT nt I L Ia La) (hs : ¬ I 17 t = 0) (h4 : Ia1 4 t = nI (pkT I t + 524288)) (h4n : ∀ k, k ≠ t → Ia1 4 k = Ia 4 k) (h5 : La1 5 = La 5) (h6 : La1 6 = La 6) (hL : ∀ a, a = 13 ∨ a = 14 ∨ a = 15 → L1 a = L a) : rT nt (up2 I 17 t 0) L1 Ia1 La1 := by
  intro k hk
  rw [h5, h6, hL 13 (by omega), hL 14 (by omega), hL 15 (by omega)]
  obtain ⟨r1, r2⟩ := h8 k hk
  refine ⟨?_, r2⟩
  by_cases e : k = t
  · subst e
    rw [h4, pkT_un hs]
  · rw [h4n k e, r1]
    unfold pkT
    rw [up2_i e, up2_i e, up2_i e, up2_i e]
theorem trOK_17 {t : Nat} {v : Int32} {L1 : zLA} (hL : ∀ a, a = 13 ∨ a = 14 ∨ a = 15 → L1 a = L a) (h : trOK nt I L) : trOK nt (up2 I 17 t v) L1 := fun k hk => by
  rw [up2_a (by decide), up2_a (by decide), up2_a (by decide), hL 13 (by omega), hL 14 (by omega), hL 15 (by omega)]
  exact h k hk
/-- may it be unwound, as the law finds it -/
theorem J_can {t : Nat} {Ia1 : zIA} (h : zJ nc nt dy b mo I L Ia La) (ht : t < nt) (hs : ¬ I 17 t = 0) (h4 : Ia1 4 t = nI (pkT I t + 524288)) (h4n : ∀ k, k ≠ t → Ia1 4 k = Ia 4 k) : ((goS Ia1 La (dN (I 11 t)) (dN (I 12 t)) nt).1 = 1 ∧ canS I L nt t) ∨ ((goS Ia1 La (dN (I 11 t)) (dN (I 12 t)) nt).1 = 0 ∧ ¬ canS I L nt t) := by
  obtain ⟨hO, hM, hD⟩ := h.d
  have hR := h.2.2.2.2.2.2.2.1
  have hn := h.2.1.2
  obtain ⟨z11, z12, -⟩ := hO t ht
  obtain ⟨g1, g2⟩ := go_rel (c := dN (I 11 t)) (f := dN (I 12 t)) (La := La) (hD t ht) z12.2 hn (trOK_17 (v := 0) (t := t) (fun _ _ => rfl) hO) hM (fun k hk => by rw [up2_a (by decide)]; exact hD k hk) (rT_unw (La1 := La) (L1 := L) hR hs h4 h4n rfl rfl (fun _ _ => rfl)) nt (Nat.le_refl nt)
  unfold canS
  by_cases e : (enS (up2 I 17 t 0) L (dN (I 11 t)) (dN (I 12 t)) nt).1 = 0
  · exact Or.inr ⟨g2 e, fun z => z.2 e⟩
  · have g3 := g1 e
    unfold goA at g3
    exact Or.inl ⟨g3.1, hs, e⟩
theorem J_unw {t : Nat} {Ia1 : zIA} {pays : Int64} (h : zJ nc nt dy b mo I L Ia La) (ht : t < nt) (hb : b ≤ 10000) (hcan : canS I L nt t) (h4 : Ia1 4 t = nI (pkT I t + 524288)) (h4n : ∀ k, k ≠ t → Ia1 4 k = Ia 4 k) (hI : ∀ a, a ≠ 4 → Ia1 a = Ia a) (hpays : pays = unpaidL L t) {A B : zLA} {c f n : Nat} (hc : c = dN (I 11 t)) (hf : f = dN (I 12 t)) (hn : n = dy / 360)
    (hA : A = taxL Ia1 (mvL Ia1 (tr3 (tr2 La c pays) pays) c f (-(La 5 t))) c nt) (hB : B = up2 (cyS A c n).2 1 (12 + c) ((cyS A c n).2 1 (12 + c) + (cyS A c n).1)) :
    zJ nc nt dy (b + 1) (exM (up2 I 17 t 0) L f (-(L 13 t)) (-(payT L t)) mo) (up2 I 17 t 0) (stL (cmL I L nt t) c n) Ia1 B ∧ (stS (cmL I L nt t) c n).1 = (cyS A c n).1 := by
  obtain ⟨hO, hM, hD⟩ := h.d
  obtain ⟨h1, h2, h3, h4', h5, h6, h7, h8, h9, h10⟩ := h
  have hU := unw_inv h1 ht hb hcan
  obtain ⟨z11, z12, z16, z0, zm, -⟩ := hO t ht
  have hs := hcan.1
  have hcn : c < nc := by rw [hc]; exact (h1.2.2.2.1 t ht).1.2
  have hf6 : f < 6 := by rw [hf]; exact z12.2
  have hdy := h1.1.2.2
  have e13 : La 5 t = L 13 t := (h8 t ht).2.1
  have zM := hM t ht
  have hzn : (-(L 13 t)).toInt = -(L 13 t).toInt := i64_neg (by omega)
  have hcond := zJ.cond (q := -(L 13 t)) h1 hb hf6 (by omega) (by omega)
  have hup : pays = -(payT L t) := by rw [hpays, unp_pay z0]
  have huw : uwL I L nt dy t = stL (cmL I L nt t) c n := by rw [hc, hn]; rfl
  rw [huw] at hU
  obtain ⟨E, hE⟩ : ∃ E, E = exL L c f (-(L 13 t)) (-(payT L t)) := ⟨_, rfl⟩
  obtain ⟨X, hX⟩ : ∃ X, X = cmL I L nt t := ⟨_, rfl⟩
  obtain ⟨M, hMv⟩ : ∃ M, M = mvL Ia1 (tr3 (tr2 La c pays) pays) c f (-(La 5 t)) := ⟨_, rfl⟩
  have hXf : X = flS (up2 I 17 t 0) E c nt := by rw [hX, hE, hc, hf]; rfl
  have hXa : ∀ a, a ≠ 30 → a ≠ 31 → a ≠ 32 → X a = E a := fun a a1 a2 a3 => by rw [hXf]; exact flS_a a1 a2 a3 nt
  have hEa : ∀ a, a ≠ 2 → a ≠ 3 → a ≠ 6 → a ≠ 8 → E a = L a := fun a a1 a2 a3 a4 => by rw [hE]; exact exL_a a1 a2 a3 a4
  have hXt : ∀ a, a = 13 ∨ a = 14 ∨ a = 15 → X a = L a := fun a ha => by rw [hXa a (by omega) (by omega) (by omega), hEa a (by omega) (by omega) (by omega) (by omega)]
  have hV := mv_rel (I := up2 I 17 t 0) (Ia := Ia1) (c := c) (f := f) (q := -(L 13 t)) (x := -(payT L t)) (mo := mo) (by omega) hf6 (by rw [hI 0 (by decide), up2_a (by decide)]; exact h4' f hf6) hcond h6
  rw [← hup, ← e13, ← hMv] at hV
  have hM5 : M 5 = La 5 ∧ M 6 = La 6 ∧ M 7 = La 7 := by
    rw [hMv]
    exact ⟨(mv_a (by decide) (by decide)).trans (tr_a (by decide)), (mv_a (by decide) (by decide)).trans (tr_a (by decide)), (mv_a (by decide) (by decide)).trans (tr_a (by decide))⟩
  have hRM : rT nt (up2 I 17 t 0) X Ia1 M := rT_unw h8 hs h4 h4n hM5.1 hM5.2.1 hXt
  have hOX : trOK nt (up2 I 17 t 0) X := trOK_17 hXt hO
  have eEn : ∀ c' f', enS (up2 I 17 t 0) X c' f' nt = enS (up2 I 17 t 0) L c' f' nt := fun c' f' => enS_c (n := nt) (fun k _ => ⟨rfl, rfl, rfl, by rw [hXt 13 (by omega)]⟩) nt (Nat.le_refl nt)
  have eOne : ∀ c' f', c' < nc → f' < 6 → ¬ (enS (up2 I 17 t 0) L c' f' nt).1 = 0 := by
    intro c' f' hc' hf'
    by_cases e : c' = c ∧ f' = f
    · obtain ⟨rfl, rfl⟩ := e
      rw [hc, hf]
      exact hcan.2
    · rw [en_eq (I' := I) (L' := L) (n := nt) (fun k hk => ?_) nt (Nat.le_refl nt)]
      · exact h9 c' f' hc' hf'
      · by_cases ek : k = t
        · subst ek
          unfold enA
          rw [up2_s, if_neg (fun z => z.1 rfl), if_neg]
          rintro ⟨-, y1, y2⟩
          refine e ⟨?_, ?_⟩
          · rw [hc]
            exact ((zD_11 z11 (by omega)).mpr y1).symm
          · rw [hf]
            exact ((zD_11 z12 (by omega)).mpr y2).symm
        · exact enA_c (up2_i ek 11) (up2_i ek 12) (up2_i ek 17) rfl
  have hgX : ∀ y, y < 21 → X 30 (21 * c + y) = flS (up2 I 17 t 0) X c nt 30 (21 * c + y) := by
    obtain ⟨-, c2⟩ := flS_cong (I := up2 I 17 t 0) (I' := up2 I 17 t 0) (L := E) (L' := X) (c := c) (n := nt) (fun i _ => Iff.rfl) (fun i _ _ => ⟨rfl, rfl, Iff.rfl, by rw [hXa 13 (by decide) (by decide) (by decide)], by rw [hXa 14 (by decide) (by decide) (by decide)], by rw [hXa 15 (by decide) (by decide) (by decide)]⟩) nt (Nat.le_refl nt)
    intro y hy
    rw [← c2 y hy, ← hXf]
  obtain ⟨t1, -⟩ := tax_rel (n := nt) (c := c) (I := up2 I 17 t 0) (Ia := Ia1) (L := X) (La := M) (X := X) (by omega) h2.2 hOX (fun k hk => by rw [hXt 13 (by omega)]; exact hM k hk) (fun k hk => by rw [up2_a (by decide)]; exact hD k hk) hRM (fun f' hf' => by rw [eEn]; exact eOne c f' hcn hf') hgX
  rw [← hMv] at hA
  rw [← hA] at t1
  have hAa : ∀ a, a ≠ 8 → a ≠ 9 → A a = M a := fun a a1 a2 => by rw [hA]; exact taxL_a a1 a2
  obtain ⟨y1, y2, y3⟩ := cy_rel (X := X) (A := A) (c := c) (n := n) (by omega) (by omega) (fun i hi => by rw [hAa 7 (by decide) (by decide), hM5.2.2, hXa 9 (by decide) (by decide) (by decide), hEa 9 (by decide) (by decide) (by decide) (by decide)]; exact h7 i hi) (fun y hy => (t1 y (by omega)).2) n (Nat.le_refl n)
  rw [← hX] at hU ⊢
  refine ⟨⟨hU, h2, ?_, fun g hg => ?_, fun i hi => ?_, ?_, fun i hi => ?_, ?_, fun c' f' hc' hf' => ?_, ?_⟩, y1.symm⟩
  · rw [hI 10 (by decide)]
    exact h3
  · rw [hI 0 (by decide), up2_ne (by decide)]
    exact h4' g hg
  · rw [hI 3 (by decide), up2_ne (by decide)]
    exact h5 i hi
  · obtain ⟨v1, v2, v3, v4⟩ := hV
    have s2 : ∀ a, a = 2 ∨ a = 3 ∨ a = 8 → stL X c n a = E a := fun a ha => by
      unfold stL
      rw [up2_a (by omega), stS_a (by omega) n, hXa a (by omega) (by omega) (by omega)]
    have b1 : ∀ i, i ≠ 12 + c → B 1 i = M 1 i := fun i hi => by rw [hB, up2_i hi, y3 1 (by decide), hAa 1 (by decide) (by decide)]
    rw [hup] at v1 v2 v4
    refine ⟨fun g hg => ?_, fun k hk => ?_, ?_, fun i hi => ?_⟩
    · rw [b1 _ (by omega), b1 _ (by omega), s2 2 (by omega), s2 3 (by omega), hE, ← e13]
      exact v1 g hg
    · by_cases e : k = c
      · subst e
        rw [hB]
        unfold stL
        rw [up2_s, up2_s, y3 1 (by decide), hAa 1 (by decide) (by decide), y1, stS_a (by decide) n, hXa 6 (by decide) (by decide) (by decide), hE, v2 k hk, e13]
      · rw [b1 _ (by omega)]
        unfold stL
        rw [up2_i e, stS_a (by decide) n, hXa 6 (by decide) (by decide) (by decide), hE, v2 k hk, e13]
    · rw [b1 _ (by omega), v3, e13, hup]
    · rw [hB, up2_ne (by decide), y3 2 (by decide), hAa 2 (by decide) (by decide), s2 8 (by omega), hE, v4 i hi, e13]
  · rw [hB, up2_ne (by decide), y2 i hi]
    unfold stL
    rw [up2_ne (by decide)]
  · have s13 : ∀ a, a = 13 ∨ a = 14 ∨ a = 15 → stL X c n a = X a := fun a ha => by
      unfold stL
      rw [up2_a (by omega), stS_a (by omega) n]
    refine rT_unw h8 hs h4 h4n ?_ ?_ (fun a ha => (s13 a ha).trans (hXt a ha))
    · rw [hB, up2_a (by decide), y3 5 (by decide), hAa 5 (by decide) (by decide), hM5.1]
    · rw [hB, up2_a (by decide), y3 6 (by decide), hAa 6 (by decide) (by decide), hM5.2.1]
  · have s13 : stL X c n 13 = L 13 := by
      unfold stL
      rw [up2_a (by decide), stS_a (by decide) n, hXt 13 (by omega)]
    rw [enS_c (I' := up2 I 17 t 0) (L' := L) (n := nt) (fun k _ => ⟨rfl, rfl, rfl, by rw [s13]⟩) nt (Nat.le_refl nt)]
    exact eOne c' f' hc' hf'
  · refine sOK_c (ex_sum (c := c) (f := f) (q := -(L 13 t)) (x := -(payT L t)) hcn hf6 h10) (fun a ha => ?_)
    unfold stL
    rw [up2_a (by omega), stS_a (by omega) n, hXa a (by omega) (by omega) (by omega), hE]
end JT
