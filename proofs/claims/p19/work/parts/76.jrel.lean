/-! ===== the law's books and the class's picture ===== -/
theorem cos_eq {x : Int64} (h0 : 0 ≤ x.toInt) (h1 : x.toInt ≤ 10000000000000000) : cosL x = costL x := by
  unfold cosL costL
  have e1 : (10000 : Int64).toInt = 10000 := rfl
  have e2 : (100000 : Int64).toInt = 100000 := rfl
  have k100 : (100 : Int64).toInt = 100 := rfl
  have k200 : (200 : Int64).toInt = 200 := rfl
  have k500 : (500 : Int64).toInt = 500 := rfl
  have k50 : (50 : Int64).toInt = 50 := rfl
  have k20 : (20 : Int64).toInt = 20 := rfl
  by_cases z1 : x < 10000
  · rw [if_pos z1, if_pos z1]
    apply Int64.toInt_inj.mp
    have m : (x * 100).toInt = x.toInt * 100 := i64_mul (by rw [k100]; omega) (by rw [k100]; omega)
    rw [i64_div h0 (by decide), i64_div (by rw [m]; omega) (by decide), m, e1, k100]
    omega
  · rw [if_neg z1, if_neg z1]
    by_cases z2 : x < 100000
    · rw [if_pos z2, if_pos z2]
      apply Int64.toInt_inj.mp
      have m : (x * 50).toInt = x.toInt * 50 := i64_mul (by rw [k50]; omega) (by rw [k50]; omega)
      rw [i64_div h0 (by decide), i64_div (by rw [m]; omega) (by decide), m, e1, k200]
      omega
    · rw [if_neg z2, if_neg z2]
      apply Int64.toInt_inj.mp
      have m : (x * 20).toInt = x.toInt * 20 := i64_mul (by rw [k20]; omega) (by rw [k20]; omega)
      rw [i64_div h0 (by decide), i64_div (by rw [m]; omega) (by decide), m, e1, k500]
      omega
def rV (mo : Int64) (L La : zLA) : Prop := (∀ f, f < 6 → La 1 f = L 2 f ∧ La 1 (6 + f) = L 3 f) ∧ (∀ c, c < 3 → La 1 (12 + c) = L 6 c) ∧ La 1 15 = mo ∧ ∀ i, i < 18 → La 2 i = L 8 i
def psU (L : zLA) (f : Nat) : Nat → Int64
  | 0 => L 3 f
  | c + 1 => psU L f c + L 8 (6 * c + f)
def eOK (nc nt : Nat) (I : zIA) (L : zLA) : Prop := ∀ c f, c < nc → f < 6 → ¬ (enS I L c f nt).1 = 0
def sOK (nc : Nat) (L : zLA) : Prop := ∀ f, f < 6 → psU L f nc = 1000 * L 2 f
/-- the law's books hold what the picture holds -/
def zJ (nc nt dy b : Nat) (mo : Int64) (I : zIA) (L : zLA) (Ia : zIA) (La : zLA) : Prop :=
  zInv nc nt dy b I L ∧ (nc ≤ 3 ∧ nt ≤ 30) ∧ (Ia 10 0 = nI dy ∧ Ia 10 1 = nI nc ∧ Ia 10 2 = nI nt) ∧ (∀ f, f < 6 → Ia 0 f = I 1 f) ∧ (∀ i, i < 18 → Ia 3 i = I 7 i) ∧ rV mo L La ∧ (∀ i, i < 63 → La 7 i = L 9 i) ∧ rT nt I L Ia La ∧ eOK nc nt I L ∧ sOK nc L
theorem rV_c {mo : Int64} {L L' La La' : zLA} (h : rV mo L La) (h1 : La' 1 = La 1) (h2 : La' 2 = La 2) (e : ∀ a, a = 2 ∨ a = 3 ∨ a = 6 ∨ a = 8 → L' a = L a) : rV mo L' La' := by
  obtain ⟨r1, r2, r3, r4⟩ := h
  unfold rV
  rw [h1, h2, e 2 (by omega), e 3 (by omega), e 6 (by omega), e 8 (by omega)]
  exact ⟨r1, r2, r3, r4⟩
theorem psU_c {L L' : zLA} {f : Nat} (h3 : L' 3 f = L 3 f) : ∀ n, (∀ c, c < n → L' 8 (6 * c + f) = L 8 (6 * c + f)) → psU L' f n = psU L f n
  | 0, _ => h3
  | n + 1, h => by
    show psU L' f n + L' 8 (6 * n + f) = psU L f n + L 8 (6 * n + f)
    rw [psU_c h3 n (fun c hc => h c (by omega)), h n (by omega)]
theorem psU_up {L L' : zLA} {f c : Nat} {d q : Int64} (h3 : L' 3 f = L 3 f + d) (h8 : L' 8 (6 * c + f) = L 8 (6 * c + f) + q) (h : ∀ k, k ≠ c → L' 8 (6 * k + f) = L 8 (6 * k + f)) : ∀ n, psU L' f n = psU L f n + d + (if c < n then q else 0)
  | 0 => by
    show L' 3 f = L 3 f + d + _
    rw [h3, if_neg (Nat.not_lt_zero c), Int64.add_zero]
  | n + 1 => by
    show psU L' f n + L' 8 (6 * n + f) = psU L f n + L 8 (6 * n + f) + d + _
    rw [psU_up h3 h8 h n]
    by_cases e : n = c
    · subst e
      rw [h8, if_neg (Nat.lt_irrefl n), if_pos (Nat.lt_succ_self n)]
      grind
    · rw [h n e]
      by_cases z : c < n
      · rw [if_pos z, if_pos (by omega)]
        grind
      · rw [if_neg z, if_neg (by omega)]
        grind
theorem exL_2 {L : zLA} {c f i : Nat} {q x : Int64} : exL L c f q x 2 i = if i = f then (if L 3 f - q < 0 then L 2 f + exU L f q else L 2 f) else L 2 i := by
  unfold exL tuL exA
  by_cases hi : i = f
  · subst hi
    split <;> simp [up2]
  · split <;> simp [up2, hi]
theorem mv_1 {I : zIA} {L : zLA} {c f i : Nat} {q : Int64} (hf : f < 6) : mvL I L c f q 1 i = if i = 6 + f then L 1 (6 + f) + (1000 * mvK L f q - q) else if i = 15 then L 1 15 - mvK L f q * Int32.toInt64 (I 0 f) else if i = f then L 1 f + mvK L f q else L 1 i := by
  unfold mvL mv4 mv3 mv2 mv1
  generalize mvK L f q = k
  rw [up2_ne (show (1 : Nat) ≠ 2 by decide)]
  by_cases h1 : i = 6 + f
  · subst h1
    rw [if_pos rfl, up2_s, up2_i (show 6 + f ≠ 15 by omega), up2_i (show 6 + f ≠ f by omega)]
  · rw [if_neg h1, up2_i h1]
    by_cases h2 : i = 15
    · subst h2
      rw [if_pos rfl, up2_s, up2_i (show 15 ≠ f by omega)]
    · rw [if_neg h2, up2_i h2]
      by_cases h3 : i = f
      · subst h3
        rw [if_pos rfl, up2_s]
      · rw [if_neg h3, up2_i h3]
theorem mv_2 {I : zIA} {L : zLA} {c f i : Nat} {q : Int64} : mvL I L c f q 2 i = if i = 6 * c + f then L 2 (6 * c + f) + q else L 2 i := by
  unfold mvL mv4 mv3 mv2 mv1
  generalize mvK L f q = k
  by_cases h1 : i = 6 * c + f
  · subst h1
    rw [if_pos rfl, up2_s, up2_ne (show (2 : Nat) ≠ 1 by decide), up2_ne (show (2 : Nat) ≠ 1 by decide), up2_ne (show (2 : Nat) ≠ 1 by decide)]
  · rw [if_neg h1, up2_i h1, up2_ne (show (2 : Nat) ≠ 1 by decide), up2_ne (show (2 : Nat) ≠ 1 by decide), up2_ne (show (2 : Nat) ≠ 1 by decide)]
theorem mv_a {I : zIA} {L : zLA} {c f a : Nat} {q : Int64} (h1 : a ≠ 1) (h2 : a ≠ 2) : mvL I L c f q a = L a := by
  unfold mvL mv4 mv3 mv2 mv1
  rw [up2_a h2, up2_a h1, up2_a h1, up2_a h1]
theorem tr_1 {L : zLA} {c i : Nat} {x : Int64} (hc : c < 3) : tr3 (tr2 L c x) x 1 i = if i = 15 then L 1 15 + x else if i = 12 + c then L 1 (12 + c) - x else L 1 i := by
  unfold tr3 tr2
  by_cases h1 : i = 15
  · subst h1
    rw [if_pos rfl, up2_s, up2_i (show 15 ≠ 12 + c by omega)]
  · rw [if_neg h1, up2_i h1]
    by_cases h2 : i = 12 + c
    · subst h2
      rw [if_pos rfl, up2_s]
    · rw [if_neg h2, up2_i h2]
theorem tr_a {L : zLA} {c a : Nat} {x : Int64} (h1 : a ≠ 1) : tr3 (tr2 L c x) x a = L a := by
  unfold tr3 tr2
  rw [up2_a h1, up2_a h1]
theorem mv_rel {I Ia : zIA} {L La : zLA} {c f : Nat} {q x mo : Int64} (hc : c < 3) (hf : f < 6) (hp : Ia 0 f = I 1 f) (hcond : L 3 f - q < 0 ↔ 0 < q - L 3 f) (hV : rV mo L La) : rV (exM I L f q x mo) (exL L c f q x) (mvL Ia (tr3 (tr2 La c x) x) c f q) := by
  obtain ⟨r1, r2, r3, r4⟩ := hV
  have hX3 : tr3 (tr2 La c x) x 1 (6 + f) = L 3 f := by rw [tr_1 hc, if_neg (by omega), if_neg (by omega)]; exact (r1 f hf).2
  have hK : mvK (tr3 (tr2 La c x) x) f q = if L 3 f - q < 0 then exU L f q else 0 := by
    unfold mvK exU
    rw [hX3, show q - L 3 f + 999 = 999 - (L 3 f - q) by grind]
    by_cases z : L 3 f - q < 0
    · rw [if_pos z, if_pos (hcond.mp z)]
    · rw [if_neg z, if_neg (fun y => z (hcond.mpr y))]
  refine ⟨fun g hg => ⟨?_, ?_⟩, fun k hk => ?_, ?_, fun i hi => ?_⟩
  · rw [mv_1 hf, if_neg (by omega), if_neg (by omega), hK, exL_2]
    by_cases e : g = f
    · subst e
      rw [if_pos rfl, if_pos rfl, tr_1 hc, if_neg (by omega), if_neg (by omega), (r1 g hg).1]
      split
      · rfl
      · rw [Int64.add_zero]
    · rw [if_neg e, if_neg e, tr_1 hc, if_neg (by omega), if_neg (by omega), (r1 g hg).1]
  · rw [mv_1 hf, hK, exL_3]
    by_cases e : g = f
    · subst e
      rw [if_pos rfl, if_pos rfl, hX3]
      split
      · grind
      · grind
    · rw [if_neg (by omega), if_neg (by omega), if_neg (by omega), if_neg e, tr_1 hc, if_neg (by omega), if_neg (by omega), (r1 g hg).2]
  · rw [mv_1 hf, if_neg (by omega), if_neg (by omega), if_neg (by omega), exL_6, tr_1 hc, if_neg (by omega)]
    by_cases e : k = c
    · subst e
      rw [if_pos rfl, if_pos rfl, r2 k hk]
    · rw [if_neg (by omega), if_neg e, r2 k hk]
  · rw [mv_1 hf, if_neg (by omega), if_pos rfl, hK, tr_1 hc, if_pos rfl, r3, hp]
    unfold exM
    split
    · rfl
    · grind
  · rw [mv_2, exL_8, tr_a (by decide)]
    by_cases e : i = 6 * c + f
    · subst e
      rw [if_pos rfl, if_pos rfl, r4 _ hi]
    · rw [if_neg e, if_neg e, r4 i hi]
theorem ex_sum {L : zLA} {c f nc : Nat} {q x : Int64} (hc : c < nc) (hf : f < 6) (h : sOK nc L) : sOK nc (exL L c f q x) := by
  intro g hg
  by_cases e : g = f
  · subst e
    have h8 : exL L c g q x 8 (6 * c + g) = L 8 (6 * c + g) + q := by rw [exL_8, if_pos rfl]
    have h8n : ∀ k, k ≠ c → exL L c g q x 8 (6 * k + g) = L 8 (6 * k + g) := fun k hk => by rw [exL_8, if_neg (by omega)]
    by_cases z : L 3 g - q < 0
    · have h3 : exL L c g q x 3 g = L 3 g + (exU L g q * 1000 - q) := by rw [exL_3, if_pos rfl, if_pos z]; grind
      rw [psU_up h3 h8 h8n nc, if_pos hc, h g hg, exL_2, if_pos rfl, if_pos z]
      grind
    · have h3 : exL L c g q x 3 g = L 3 g + (-q) := by rw [exL_3, if_pos rfl, if_neg z]; grind
      rw [psU_up h3 h8 h8n nc, if_pos hc, h g hg, exL_2, if_pos rfl, if_neg z]
      grind
  · rw [psU_c (L := L) (by rw [exL_3, if_neg e]) nc (fun k _ => by rw [exL_8, if_neg (by omega)]), exL_2, if_neg e]
    exact h g hg
theorem sOK_c {nc : Nat} {L L' : zLA} (h : sOK nc L) (e : ∀ a, a = 2 ∨ a = 3 ∨ a = 8 → L' a = L a) : sOK nc L' := by
  intro f hf
  rw [psU_c (L := L) (by rw [e 3 (by omega)]) nc (fun c _ => by rw [e 8 (by omega)]), e 2 (by omega)]
  exact h f hf
/-- the stock's test, said the other way round -/
theorem ex_cond2 {a q : Int64} (h1 : -1000000000000000000 ≤ a.toInt) (h2 : a.toInt ≤ 1000000000000000000) (h3 : -1000000000000000000 ≤ q.toInt) (h4 : q.toInt ≤ 1000000000000000000) : a - q < 0 ↔ 0 < q - a := by
  rw [i64_lt, i64_lt, i64_sub (by omega) (by omega), i64_sub (by omega) (by omega), i64_0]
  omega
section JJ
variable {nc nt dy b : Nat} {mo : Int64} {I Ia : zIA} {L La : zLA}
theorem zJ.cond {f : Nat} {q : Int64} (h : zInv nc nt dy b I L) (hb : b ≤ 10000) (hf : f < 6) (h1 : -1200000000000 ≤ q.toInt) (h2 : q.toInt ≤ 1200000000000) : L 3 f - q < 0 ↔ 0 < q - L 3 f := by
  obtain ⟨s1, s2⟩ := h.2.2.2.2.2.2.1 f hf
  exact ex_cond2 (by omega) (by omega) (by omega) (by omega)
theorem zJ.d (h : zJ nc nt dy b mo I L Ia La) : trOK nt I L ∧ (∀ t, t < nt → -1200000000000 ≤ (L 13 t).toInt) ∧ ∀ k, k < nt → dN (I 11 k) < 4 := by
  obtain ⟨hI, ⟨h3, -⟩, -⟩ := h
  refine ⟨hI.2.2.2.2.1, fun t ht => (hI.2.2.2.1 t ht).2.2, fun k hk => ?_⟩
  have := (hI.2.2.2.1 k hk).1.2
  omega
theorem zJ.tr (h : zJ nc nt dy b mo I L Ia La) : ∀ k, k < nt → zD (Ia 4 k) 1048576 := by
  obtain ⟨hO, hM, hD⟩ := h.d
  have hR := h.2.2.2.2.2.2.2.1
  intro k hk
  have e := pk_dN hO hD hR hk
  refine ⟨?_, by rw [e]; exact pk_bd hO hD hk⟩
  rw [e]
  exact (hR k hk).1
theorem zJ.pr (h : zJ nc nt dy b mo I L Ia La) : ∀ f, f < 6 → ¬ Int32.toInt64 (Ia 0 f) = 0 := by
  intro f hf
  rw [h.2.2.2.1 f hf]
  exact h.1.pr f hf
theorem zJ.mono {b' : Nat} (h : zJ nc nt dy b mo I L Ia La) (hb : b ≤ b') : zJ nc nt dy b' mo I L Ia La := ⟨h.1.mono hb, h.2⟩
/-- rows that are the law's own scratch don't matter -/
theorem zJ.scr {La' : zLA} (h : zJ nc nt dy b mo I L Ia La) (e : ∀ a, a ≠ 8 → a ≠ 9 → La' a = La a) : zJ nc nt dy b mo I L Ia La' := by
  obtain ⟨h1, h2, h3, h4, h5, h6, h7, h8, h9⟩ := h
  refine ⟨h1, h2, h3, h4, h5, rV_c h6 (e 1 (by decide) (by decide)) (e 2 (by decide) (by decide)) (fun _ _ => rfl), fun i hi => ?_, rT_c (e 5 (by decide) (by decide)) (e 6 (by decide) (by decide)) h8, h9⟩
  rw [e 7 (by decide) (by decide)]
  exact h7 i hi
theorem J_price {j : Nat} {its : Int32} (h : zJ nc nt dy b mo I L Ia La) (hz : zR its 10 1000000) : zJ nc nt dy b mo (up2 I 1 j its) L (up2 Ia 0 j its) La := by
  obtain ⟨h1, h2, h3, h4, h5, h6, h7, h8, h9, h10⟩ := h
  refine ⟨inv_price h1 hz, h2, ?_, fun f hf => ?_, fun i hi => ?_, h6, h7, fun k hk => ?_, fun c f hc hf => ?_, h10⟩
  · rw [up2_a (by decide)]
    exact h3
  · by_cases e : f = j
    · subst e
      rw [up2_s, up2_s]
    · rw [up2_i e, up2_i e]
      exact h4 f hf
  · rw [up2_a (by decide), up2_a (by decide)]
    exact h5 i hi
  · unfold pkT
    rw [up2_a (show (4 : Nat) ≠ 0 by decide), up2_a (show (11 : Nat) ≠ 1 by decide), up2_a (show (12 : Nat) ≠ 1 by decide), up2_a (show (16 : Nat) ≠ 1 by decide), up2_a (show (17 : Nat) ≠ 1 by decide)]
    exact h8 k hk
  · rw [enS_c (I' := I) (L' := L) (n := nt) (fun t _ => ⟨by rw [up2_a (show (11 : Nat) ≠ 1 by decide)], by rw [up2_a (show (12 : Nat) ≠ 1 by decide)], by rw [up2_a (show (17 : Nat) ≠ 1 by decide)], rfl⟩) nt (Nat.le_refl nt)]
    exact h9 c f hc hf
theorem J_pay {j : Nat} {x : Int64} (h : zJ nc nt dy b mo I L Ia La) (hj : j < nc) : zJ nc nt dy b mo I (up2 L 6 j (L 6 j + x)) Ia (up2 La 1 (12 + j) (La 1 (12 + j) + x)) := by
  obtain ⟨h1, h2, h3, h4, h5, ⟨v1, v2, v3, v4⟩, h7, h8, h9, h10⟩ := h
  have hn := h2.1
  refine ⟨inv_pay h1 hj, h2, h3, h4, h5, ⟨fun f hf => ?_, fun c hc => ?_, ?_, fun i hi => ?_⟩, fun i hi => ?_, fun k hk => ?_, fun c f hc hf => ?_, sOK_c h10 (fun a ha => up2_a (by omega))⟩
  · rw [up2_i (show f ≠ 12 + j by omega), up2_i (show 6 + f ≠ 12 + j by omega), up2_ne (show (2 : Nat) ≠ 6 by decide), up2_ne (show (3 : Nat) ≠ 6 by decide)]
    exact v1 f hf
  · by_cases e : c = j
    · subst e
      rw [up2_s, up2_s, v2 c hc]
    · rw [up2_i (by omega), up2_i e]
      exact v2 c hc
  · rw [up2_i (by omega)]
    exact v3
  · rw [up2_ne (by decide), up2_ne (by decide)]
    exact v4 i hi
  · rw [up2_ne (by decide), up2_ne (by decide)]
    exact h7 i hi
  · rw [up2_a (show (5 : Nat) ≠ 1 by decide), up2_a (show (6 : Nat) ≠ 1 by decide), up2_a (show (13 : Nat) ≠ 6 by decide), up2_a (show (14 : Nat) ≠ 6 by decide), up2_a (show (15 : Nat) ≠ 6 by decide)]
    exact h8 k hk
  · rw [enS_c (I' := I) (L' := L) (n := nt) (fun t _ => ⟨rfl, rfl, rfl, by rw [up2_a (show (13 : Nat) ≠ 6 by decide)]⟩) nt (Nat.le_refl nt)]
    exact h9 c f hc hf
theorem J_goal {j f : Nat} {its : Int32} (h : zJ nc nt dy b mo I L Ia La) (hj : j < nc) (hf : f < 6) (hz : zR its 0 100) : zJ nc nt dy b mo (up2 I 7 (6 * j + f) its) L (up2 Ia 3 (6 * j + f) its) La := by
  obtain ⟨h1, h2, h3, h4, h5, h6, h7, h8, h9, h10⟩ := h
  refine ⟨inv_goal h1 hj hf hz, h2, ?_, fun g hg => ?_, fun i hi => ?_, h6, h7, fun k hk => ?_, fun c f hc hf => ?_, h10⟩
  · rw [up2_a (by decide)]
    exact h3
  · rw [up2_ne (by decide), up2_ne (by decide)]
    exact h4 g hg
  · by_cases e : i = 6 * j + f
    · subst e
      rw [up2_s, up2_s]
    · rw [up2_i e, up2_i e]
      exact h5 i hi
  · unfold pkT
    rw [up2_a (show (4 : Nat) ≠ 3 by decide), up2_a (show (11 : Nat) ≠ 7 by decide), up2_a (show (12 : Nat) ≠ 7 by decide), up2_a (show (16 : Nat) ≠ 7 by decide), up2_a (show (17 : Nat) ≠ 7 by decide)]
    exact h8 k hk
  · rw [enS_c (I' := I) (L' := L) (n := nt) (fun t _ => ⟨by rw [up2_a (show (11 : Nat) ≠ 7 by decide)], by rw [up2_a (show (12 : Nat) ≠ 7 by decide)], by rw [up2_a (show (17 : Nat) ≠ 7 by decide)], rfl⟩) nt (Nat.le_refl nt)]
    exact h9 c f hc hf
theorem en_all {I : zIA} {L : zLA} {c f n : Nat} (h : ∀ t, t < n → ¬ I 11 t = nI c) : ∀ t, t ≤ n → enS I L c f t = (1, 0)
  | 0, _ => rfl
  | t + 1, ht => by
    have ih := en_all (L := L) (f := f) h t (by omega)
    have hA : enA I L c f t = 0 := if_neg (fun z => h t (by omega) z.2.1)
    rw [enS_keep (by rw [ih]; decide) hA, ih]
theorem J_client (h : zJ nc nt dy b mo I L Ia La) (hn : nc < 3) : zJ (nc + 1) nt dy b mo I L (up2 Ia 10 1 (nI (nc + 1))) La := by
  have hd := h.1
  obtain ⟨h1, h2, h3, h4, h5, h6, h7, h8, h9, h10⟩ := h
  refine ⟨inv_client h1 (by omega), ⟨by omega, h2.2⟩, ⟨?_, up2_s _ _ _ _, ?_⟩, fun f hf => ?_, fun i hi => ?_, h6, h7, fun k hk => ?_, fun c f hc hf => ?_, fun f hf => ?_⟩
  · rw [up2_i (by decide)]
    exact h3.1
  · rw [up2_i (by decide)]
    exact h3.2.2
  · rw [up2_ne (by decide)]
    exact h4 f hf
  · rw [up2_ne (by decide)]
    exact h5 i hi
  · rw [up2_ne (by decide)]
    exact h8 k hk
  · by_cases e : c = nc
    · subst e
      have hne : ∀ t, t < nt → ¬ I 11 t = nI c := fun t ht z => by
        have := (hd.2.2.2.1 t ht).1
        rw [z] at this
        have e2 := dN_nI (n := c) (by omega)
        have := this.2
        omega
      rw [en_all (f := f) hne nt (Nat.le_refl nt)]
      decide
    · exact h9 c f (by omega) hf
  · show psU L f nc + L 8 (6 * nc + f) = 1000 * L 2 f
    rw [((h1.2.2.2.2.2.2.2.2 nc (Nat.le_refl nc)).2.2 f hf).1, Int64.add_zero]
    exact h10 f hf
end JJ
