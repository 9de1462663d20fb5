/-! ===== exchange and move; what law's turns keep ===== -/
theorem exL_a {L : zLA} {c f a : Nat} {q x : Int64} (h2 : a ≠ 2) (h3 : a ≠ 3) (h6 : a ≠ 6) (h8 : a ≠ 8) : exL L c f q x a = L a := by
  unfold exL tuL exA
  split
  · rw [up2_a h3, up2_a h2, up2_a h3, up2_a h8, up2_a h6]
  · rw [up2_a h3, up2_a h8, up2_a h6]
theorem exL_8 {L : zLA} {c f i : Nat} {q x : Int64} : exL L c f q x 8 i = if i = 6 * c + f then L 8 (6 * c + f) + q else L 8 i := by
  unfold exL tuL exA
  split <;> simp [up2]
theorem exL_6 {L : zLA} {c f i : Nat} {q x : Int64} : exL L c f q x 6 i = if i = c then L 6 c - x else L 6 i := by
  unfold exL tuL exA
  split <;> simp [up2]
theorem exL_3 {L : zLA} {c f i : Nat} {q x : Int64} : exL L c f q x 3 i = if i = f then (if L 3 f - q < 0 then L 3 f - q + exU L f q * 1000 else L 3 f - q) else L 3 i := by
  unfold exL tuL exA
  by_cases hi : i = f
  · subst hi
    split <;> simp [up2]
  · split <;> simp [up2, hi]
theorem ex_cond {a q : Int64} (h1 : -1000000000000000000 ≤ a.toInt) (h2 : a.toInt ≤ 1000000000000000000) (h3 : -1000000000000000000 ≤ q.toInt) (h4 : q.toInt ≤ 1000000000000000000) : a - q < 0 ↔ a < q := by
  rw [i64_lt, i64_lt, i64_sub (by omega) (by omega), i64_0]
  omega
theorem ex_same {L L' : zLA} {c f : Nat} {q x : Int64} (hL : ∀ a, a < 20 → L a = L' a) (h3 : L 3 f - q < 0 ↔ L 3 f < q) : ∀ a, a < 20 → exL L c f q x a = moveL (payL L' c x) c f q a := by
  intro a ha
  funext i
  have ea := congrFun (hL a ha)
  have e2 := congrFun (hL 2 (by decide))
  have e3 := congrFun (hL 3 (by decide))
  have e6 := congrFun (hL 6 (by decide))
  have e8 := congrFun (hL 8 (by decide))
  have hm : moreL (payL L' c x) f q = exU L f q := by
    unfold moreL exU payL
    rw [up2_ne (by decide), ← e3, show q - L 3 f + 1000 - 1 = 999 - (L 3 f - q) by grind]
  have hx3 : payL L' c x 3 f = L 3 f := by
    unfold payL
    rw [up2_ne (by decide), e3]
  by_cases hc : L 3 f - q < 0
  · unfold exL moveL moveS
    rw [if_pos hc, hm, if_pos (by rw [hx3]; exact h3.mp hc)]
    unfold tuL exA payL
    by_cases a3 : a = 3
    · subst a3
      by_cases hi : i = f
      · subst hi
        simp [up2, ← e3]
        grind
      · simp [up2, hi, e3]
    · by_cases a2 : a = 2
      · subst a2
        by_cases hi : i = f
        · subst hi
          simp [up2, e2]
        · simp [up2, hi, e2]
      · by_cases a6 : a = 6
        · subst a6
          by_cases hi : i = c
          · subst hi
            simp [up2, e6]
          · simp [up2, hi, e6]
        · by_cases a8 : a = 8
          · subst a8
            by_cases hi : i = 6 * c + f
            · subst hi
              simp [up2, e8]
            · simp [up2, hi, e8]
          · simp [up2, a3, a2, a6, a8, ea]
  · unfold exL moveL moveS
    rw [if_neg hc, if_neg (by rw [hx3]; exact fun z => hc (h3.mpr z))]
    unfold exA payL
    by_cases a3 : a = 3
    · subst a3
      by_cases hi : i = f
      · subst hi
        simp [up2, e3]
      · simp [up2, hi, e3]
    · by_cases a6 : a = 6
      · subst a6
        by_cases hi : i = c
        · subst hi
          simp [up2, e6]
        · simp [up2, hi, e6]
      · by_cases a8 : a = 8
        · subst a8
          by_cases hi : i = 6 * c + f
          · subst hi
            simp [up2, e8]
          · simp [up2, hi, e8]
        · simp [up2, a3, a6, a8, ea]
theorem exM_same {I : zIA} {L L' : zLA} {f : Nat} {q x mo : Int64} (e3 : L 3 f = L' 3 f) (h3 : L 3 f - q < 0 ↔ L 3 f < q) : exM I L f q x mo = moveM I L' f q (mo + x) := by
  have hm : moreL L' f q = exU L f q := by
    unfold moreL exU
    rw [← e3, show q - L 3 f + 1000 - 1 = 999 - (L 3 f - q) by grind]
  unfold exM moveM
  rw [hm, ← e3]
  by_cases hc : L 3 f - q < 0
  · rw [if_pos hc, if_pos (h3.mp hc)]
  · rw [if_neg hc, if_neg (fun z => hc (h3.mpr z))]
/-- the stock after an exchange -/
theorem ex_st {a q : Int64} {b : Nat} (h1 : 0 ≤ a.toInt) (h2 : a.toInt ≤ 1000 + 1200000000000 * (b : Int)) (hb : b ≤ 10000) (h3 : -1200000000000 ≤ q.toInt) (h4 : q.toInt ≤ 1200000000000) :
    0 ≤ (if a - q < 0 then a - q + (999 - (a - q)) / 1000 * 1000 else a - q).toInt ∧ (if a - q < 0 then a - q + (999 - (a - q)) / 1000 * 1000 else a - q).toInt ≤ 1000 + 1200000000000 * ((b + 1 : Nat) : Int) := by
  have hd : (a - q).toInt = a.toInt - q.toInt := i64_sub (by omega) (by omega)
  split
  · rename_i hc
    rw [i64_lt, hd, i64_0] at hc
    have h9 : (999 : Int64).toInt = 999 := rfl
    have hk : (1000 : Int64).toInt = 1000 := rfl
    have e1 : (999 - (a - q)).toInt = 999 - (a.toInt - q.toInt) := by rw [i64_sub (by rw [hd, h9]; omega) (by rw [hd, h9]; omega), hd, h9]
    have e2 : ((999 - (a - q)) / 1000).toInt = (999 - (a.toInt - q.toInt)) / 1000 := by rw [i64_div (by rw [e1]; omega) (by decide), e1, hk]
    have e3 : ((999 - (a - q)) / 1000 * 1000).toInt = (999 - (a.toInt - q.toInt)) / 1000 * 1000 := by rw [i64_mul (by rw [e2, hk]; omega) (by rw [e2, hk]; omega), e2, hk]
    rw [i64_add (by rw [e3, hd]; omega) (by rw [e3, hd]; omega), e3, hd]
    omega
  · rename_i hc
    rw [i64_lt, hd, i64_0] at hc
    rw [hd]
    omega
theorem enS_2 {I : zIA} {L : zLA} {c f t : Nat} : (enS I L c f (t + 1)).2 = (enS I L c f t).2 + enA I L c f t := by
  show (if _ then _ else _ : Int32 × Int64).2 = _
  split <;> rfl
theorem enA_c {I I' : zIA} {L L' : zLA} {c f t : Nat} (h11 : I 11 t = I' 11 t) (h12 : I 12 t = I' 12 t) (h17 : I 17 t = I' 17 t) (h13 : L 13 t = L' 13 t) : enA I L c f t = enA I' L' c f t := by
  unfold enA
  rw [h11, h12, h17, h13]
theorem enS_c {I I' : zIA} {L L' : zLA} {c f n : Nat} (h : ∀ t, t < n → I 11 t = I' 11 t ∧ I 12 t = I' 12 t ∧ I 17 t = I' 17 t ∧ L 13 t = L' 13 t) : ∀ t, t ≤ n → enS I L c f t = enS I' L' c f t
  | 0, _ => rfl
  | t + 1, ht => by
    have ih := enS_c (c := c) (f := f) h t (by omega)
    obtain ⟨a, b, d, e⟩ := h t (by omega)
    have ea := enA_c (c := c) (f := f) a b d e
    show (if ¬ (enS I L c f t).1 = 0 ∧ ¬ (enS I L c f t).2 + enA I L c f t < 0 then (1, (enS I L c f t).2 + enA I L c f t) else (0, (enS I L c f t).2 + enA I L c f t)) = (if ¬ (enS I' L' c f t).1 = 0 ∧ ¬ (enS I' L' c f t).2 + enA I' L' c f t < 0 then (1, (enS I' L' c f t).2 + enA I' L' c f t) else (0, (enS I' L' c f t).2 + enA I' L' c f t))
    rw [ih, ea]
theorem enS_bd {I : zIA} {L : zLA} {c f n : Nat} (hn : n ≤ 120) (h : ∀ t, t < n → -1200000000000 ≤ (L 13 t).toInt ∧ (L 13 t).toInt ≤ 10000000000) : ∀ t, t ≤ n → -(1200000000000 * (t : Int)) ≤ (enS I L c f t).2.toInt ∧ (enS I L c f t).2.toInt ≤ 10000000000 * (t : Int)
  | 0, _ => by show _ ≤ (0 : Int64).toInt ∧ (0 : Int64).toInt ≤ _; rw [i64_0]; omega
  | t + 1, ht => by
    obtain ⟨h1, h2⟩ := enS_bd (I := I) (c := c) (f := f) hn h t (by omega)
    obtain ⟨b1, b2⟩ := h t (by omega)
    have hA : -1200000000000 ≤ (enA I L c f t).toInt ∧ (enA I L c f t).toInt ≤ 10000000000 := by
      unfold enA
      split
      · exact ⟨b1, b2⟩
      · rw [i64_0]; omega
    rw [enS_2, i64_add (by omega) (by omega)]
    omega
def iPr (I : zIA) : Prop := ∀ f, f < 6 → 10 ≤ (I 1 f).toInt ∧ (I 1 f).toInt ≤ 1000000
def iGo (I : zIA) : Prop := ∀ i, 0 ≤ (I 7 i).toInt ∧ (I 7 i).toInt ≤ 100
def iTr (nc nt : Nat) (I : zIA) (L : zLA) : Prop := ∀ t, t < nt → zD (I 11 t) nc ∧ (I 17 t = 0 ∨ I 17 t = 1) ∧ -1200000000000 ≤ (L 13 t).toInt
def iPa (nc nt : Nat) (I : zIA) (L : zLA) : Prop := ∀ c f, c < nc → f < 6 → L 8 (6 * c + f) = (enS I L c f nt).2 ∧ 0 ≤ (L 8 (6 * c + f)).toInt
def iSt (b : Nat) (L : zLA) : Prop := ∀ f, f < 6 → 0 ≤ (L 3 f).toInt ∧ (L 3 f).toInt ≤ 1000 + 1200000000000 * (b : Int)
def iCl (nc nt dy : Nat) (I : zIA) (L : zLA) : Prop := ∀ c, c < nc → gnOK nt I L c ∧ ∀ y, y < 21 → L 9 (21 * c + y) = if y < dy / 360 then bsV L c y / 4 else 0
/-- what law's turns keep: of prices, goals, trades, parts, stocks, lots and years -/
def zInv (nc nt dy b : Nat) (I : zIA) (L : zLA) : Prop := (nc ≤ 12 ∧ nt ≤ 120 ∧ dy ≤ 7200) ∧ iPr I ∧ iGo I ∧ iTr nc nt I L ∧ trOK nt I L ∧ iPa nc nt I L ∧ iSt b L ∧ iCl nc nt dy I L ∧ zBey nc I L
theorem zInv.pa {nc nt dy b : Nat} {I : zIA} {L : zLA} (h : zInv nc nt dy b I L) {c f : Nat} (hc : c < nc) (hf : f < 6) : 0 ≤ (L 8 (6 * c + f)).toInt ∧ (L 8 (6 * c + f)).toInt ≤ 1200000000000 := by
  obtain ⟨⟨h1, h2, h3⟩, -, -, hT, hO, hP, -⟩ := h
  obtain ⟨e, e0⟩ := hP c f hc hf
  have := enS_bd (I := I) (c := c) (f := f) h2 (fun t ht => ⟨(hT t ht).2.2, (hO t ht).2.2.2.2.1⟩) nt (Nat.le_refl nt)
  rw [← e] at this
  omega
theorem zInv.pr {nc nt dy b : Nat} {I : zIA} {L : zLA} (h : zInv nc nt dy b I L) : ∀ f, f < 6 → ¬ Int32.toInt64 (I 1 f) = 0 := by
  intro f hf z
  have := h.2.1 f hf
  have e := congrArg Int64.toInt z
  rw [i32_64, i64_0] at e
  omega
theorem zInv.t {nc nt dy b : Nat} {I : zIA} {L : zLA} (h : zInv nc nt dy b I L) : (∀ t, t < nt → zD (I 11 t) nc) ∧ (∀ t, t < nt → zD (I 12 t) 6) ∧ (∀ t, t < nt → zD (I 16 t) 7201) ∧ (∀ t, t < nt → zD (I 11 t) 12) ∧ ∀ t, t < nt → I 17 t = 0 ∨ I 17 t = 1 := by
  obtain ⟨-, -, -, hT, hO, -⟩ := h
  exact ⟨fun t ht => (hT t ht).1, fun t ht => (hO t ht).2.1, fun t ht => (hO t ht).2.2.1, fun t ht => (hO t ht).1, fun t ht => (hT t ht).2.1⟩
