/-! ===== the law's lots against the picture's ===== -/
def pkT (I : zIA) (k : Nat) : Nat := dN (I 11 k) + 4 * dN (I 12 k) + 32 * dN (I 16 k) + (if I 17 k = 0 then 524288 else 0)
/-- trades, as the law packs them -/
def rT (nt : Nat) (I : zIA) (L : zLA) (Ia : zIA) (La : zLA) : Prop := ∀ k, k < nt → Ia 4 k = nI (pkT I k) ∧ La 5 k = L 13 k ∧ La 6 k = L 14 k ∧ cosL (L 14 k) = L 15 k
def sQ (L : zLA) : Nat → Int
  | 0 => 0
  | k + 1 => sQ L k + (L 8 k).toInt
theorem sQ_c {L L' : zLA} : ∀ n, (∀ i, i < n → L' 8 i = L 8 i) → sQ L' n = sQ L n
  | 0, _ => rfl
  | n + 1, h => by
    show sQ L' n + (L' 8 n).toInt = sQ L n + (L 8 n).toInt
    rw [sQ_c n (fun i hi => h i (by omega)), h n (by omega)]
theorem sQ_up {L L' : zLA} {j : Nat} (h : ∀ i, i ≠ j → i < 30 → L' 8 i = L 8 i) : ∀ n, n ≤ 30 → j < n → sQ L' n = sQ L n + ((L' 8 j).toInt - (L 8 j).toInt)
  | 0, _, hj => absurd hj (Nat.not_lt_zero j)
  | n + 1, hn, hj => by
    show sQ L' n + (L' 8 n).toInt = sQ L n + (L 8 n).toInt + _
    by_cases e : j = n
    · subst e
      rw [sQ_c j (fun i hi => h i (by omega) (by omega))]
      omega
    · rw [sQ_up h n (by omega) (by omega), h n (fun z => e z.symm) (by omega)]
      omega
theorem sQ_0 {L : zLA} : ∀ n, (∀ i, i < n → L 8 i = 0) → sQ L n = 0
  | 0, _ => rfl
  | n + 1, h => by
    show sQ L n + (L 8 n).toInt = 0
    rw [sQ_0 n (fun i hi => h i (by omega)), h n (by omega), i64_0]
    rfl
theorem giL_k {s : zGi} {k : Nat} : giL s k 8 k = s.2.2 8 k - giG s k := by
  unfold giL
  rw [up2_i (show k ≠ 30 + k by omega), up2_s]
theorem giL_c {s : zGi} {k : Nat} : giL s k 8 (30 + k) = s.2.2 8 (30 + k) - giC s k := by
  unfold giL
  rw [up2_s, up2_i (show 30 + k ≠ k by omega)]
theorem giL_i {s : zGi} {k a i : Nat} (h1 : i ≠ k) (h2 : i ≠ 30 + k) : giL s k a i = s.2.2 a i := by
  unfold giL
  rw [up2_i h2, up2_i h1]
theorem giL_0 {s : zGi} {k : Nat} (h1 : giG s k = 0) : ∀ i, giL s k 8 i = s.2.2 8 i := by
  have h2 : giC s k = 0 := if_pos h1
  intro i
  by_cases e1 : i = k
  · subst e1
    rw [giL_k, h1, Int64.sub_zero]
  · by_cases e2 : i = 30 + k
    · subst e2
      rw [giL_c, h2, Int64.sub_zero]
    · exact giL_i e1 e2
theorem gi_rel {I : zIA} {LL x s : zLA} {c f n : Nat} {w : Int64} (hw : 0 ≤ w.toInt) (hn : n ≤ 30) (hx : ∀ i, i < n → lotH I LL c f i → s 8 i = x 31 i ∧ s 8 (30 + i) = x 32 i ∧ bndL (x 31 i) (x 32 i)) (h0 : ∀ i, i < n → ¬ lotH I LL c f i → s 8 i = 0 ∧ s 8 (30 + i) = 0) (h1 : ∀ i, i < n → isH I c f i → ¬ lotH I LL c f i → x 31 i = 0) :
    ∀ k, k ≤ n → (giS s w k).1 = (tcS I x c f w k).2.1 ∧ (giS s w k).2.1 = (tcS I x c f w k).1 ∧ (0 ≤ (giS s w k).1.toInt ∧ (giS s w k).1.toInt ≤ w.toInt) ∧ (∀ i, i < n → lotH I LL c f i → (giS s w k).2.2 8 i = (tcS I x c f w k).2.2 31 i ∧ (giS s w k).2.2 8 (30 + i) = (tcS I x c f w k).2.2 32 i ∧ bndL ((tcS I x c f w k).2.2 31 i) ((tcS I x c f w k).2.2 32 i)) ∧
      (∀ i, i < n → ¬ lotH I LL c f i → (giS s w k).2.2 8 i = 0 ∧ (giS s w k).2.2 8 (30 + i) = 0) ∧ sQ (giS s w k).2.2 n + w.toInt = sQ s n + (giS s w k).1.toInt ∧ (0 < (giS s w k).1 → ∀ i, i < k → (giS s w k).2.2 8 i = 0)
  | 0, _ => ⟨rfl, rfl, ⟨hw, Int.le_refl _⟩, hx, h0, rfl, fun _ i hi => absurd hi (Nat.not_lt_zero i)⟩
  | k + 1, hk => by
    obtain ⟨r1, r2, r3, r4, r5, r6, r7⟩ := gi_rel hw hn hx h0 h1 k (by omega)
    have hT0 : ∀ (hl : ¬ lotH I LL c f k), ¬ tcP I c f k (tcS I x c f w k) := fun hl z => by
      have z3 := z.2.2
      rw [tcS_fix k (Or.inr (Nat.le_refl k)), h1 k (by omega) z.2.1 hl] at z3
      exact absurd z3 (by decide)
    obtain ⟨S, hS⟩ : ∃ S, S = giS s w k := ⟨_, rfl⟩
    obtain ⟨T, hT⟩ : ∃ T, T = tcS I x c f w k := ⟨_, rfl⟩
    rw [← hS, ← hT] at r1 r2 r4
    rw [← hS] at r3 r5 r6 r7
    rw [← hT] at hT0
    have tN : ¬ tcP I c f k T → tcS I x c f w (k + 1) = T := fun h => by rw [hT] at h ⊢; exact tcS_n h
    have tP : tcP I c f k T → tcS I x c f w (k + 1) = tcU T k := fun h => by rw [hT] at h ⊢; exact tcS_p h
    by_cases hp : 0 < S.1
    · have hg : giS s w (k + 1) = (S.1 - giG S k, S.2.1 + giC S k, giL S k) := by rw [hS] at hp ⊢; exact giS_p hp
      rw [hg]
      have r7 := r7 hp
      have zero : giG S k = 0 → ¬ tcP I c f k T → S.2.2 8 k = 0 → (S.1 - giG S k) = (tcS I x c f w (k + 1)).2.1 ∧ (S.2.1 + giC S k) = (tcS I x c f w (k + 1)).1 ∧ (0 ≤ (S.1 - giG S k).toInt ∧ (S.1 - giG S k).toInt ≤ w.toInt) ∧ (∀ i, i < n → lotH I LL c f i → giL S k 8 i = (tcS I x c f w (k + 1)).2.2 31 i ∧ giL S k 8 (30 + i) = (tcS I x c f w (k + 1)).2.2 32 i ∧ bndL ((tcS I x c f w (k + 1)).2.2 31 i) ((tcS I x c f w (k + 1)).2.2 32 i)) ∧
          (∀ i, i < n → ¬ lotH I LL c f i → giL S k 8 i = 0 ∧ giL S k 8 (30 + i) = 0) ∧ sQ (giL S k) n + w.toInt = sQ s n + (S.1 - giG S k).toInt ∧ (0 < S.1 - giG S k → ∀ i, i < k + 1 → giL S k 8 i = 0) := by
        intro z1 z2 z3
        have z4 : giC S k = 0 := if_pos z1
        rw [tN z2, z1, z4, Int64.sub_zero, Int64.add_zero]
        refine ⟨r1, r2, r3, fun i hi hl => ?_, fun i hi hl => ?_, ?_, fun _ i hi => ?_⟩
        · rw [giL_0 z1, giL_0 z1]
          exact r4 i hi hl
        · rw [giL_0 z1, giL_0 z1]
          exact r5 i hi hl
        · rw [sQ_c n (fun i _ => giL_0 z1 i)]
          exact r6
        · rw [giL_0 z1]
          by_cases e : i = k
          · rw [e]; exact z3
          · exact r7 i (by omega)
      by_cases hl : lotH I LL c f k
      · obtain ⟨e31, e32, hb⟩ := r4 k (by omega) hl
        by_cases hq : 0 < S.2.2 8 k
        · have hG0 : 0 < giG S k := by
            unfold giG
            split
            · exact hp
            · exact hq
          have hGq : ¬ S.2.2 8 k < giG S k := by
            unfold giG
            split
            · rename_i y
              rw [i64_lt] at y ⊢
              omega
            · rw [i64_lt]
              omega
          have hGl : ¬ S.1 < giG S k := by
            unfold giG
            split
            · rw [i64_lt]
              omega
            · assumption
          have eG : giG S k = tcG T k := by
            unfold giG tcG
            rw [e31, r1]
            by_cases z1 : T.2.1 < T.2.2 31 k
            · rw [if_pos z1, if_neg]
              rw [i64_lt] at z1 ⊢
              omega
            · rw [if_neg z1]
              by_cases z2 : T.2.2 31 k < T.2.1
              · rw [if_pos z2]
              · rw [if_neg z2]
                apply Int64.toInt_inj.mp
                rw [i64_lt] at z1 z2
                omega
          rw [← e31, ← e32] at hb
          obtain ⟨q1, -, q3⟩ := shOK_t _ _ _ hb hG0 hGq
          have eC : giC S k = S.2.2 8 (30 + k) * giG S k / S.2.2 8 k := by
            unfold giC
            rw [if_neg (fun z => by rw [z] at hG0; exact absurd hG0 (by decide))]
            by_cases z : giG S k = S.2.2 8 k
            · rw [if_pos z]
              exact (q1 z).symm
            · rw [if_neg z]
          have eC2 : giC S k = tcC T k := by
            rw [eC]
            unfold tcC
            rw [← eG, e31, e32]
          have hb1 := hb.1
          rw [i64_lt, i64_0] at hG0
          rw [i64_lt] at hGq hGl
          have d1 : (S.1 - giG S k).toInt = S.1.toInt - (giG S k).toInt := i64_sub (by have := Int64.toInt_lt S.1; omega) (by have := Int64.toInt_lt S.1; omega)
          have d2 : (S.2.2 8 k - giG S k).toInt = (S.2.2 8 k).toInt - (giG S k).toInt := i64_sub (by omega) (by omega)
          rw [tP ⟨by rw [← r1]; exact hp, hl.1, by rw [← e31]; exact hq⟩]
          refine ⟨?_, ?_, ⟨by rw [d1]; omega, by rw [d1]; omega⟩, fun i hi hli => ?_, fun i hi hli => ?_, ?_, fun hz i hi => ?_⟩
          · show S.1 - giG S k = T.2.1 - tcG T k
            rw [r1, eG]
          · show S.2.1 + giC S k = T.1 + tcC T k
            rw [r2, eC2]
          · dsimp only
            by_cases hik : i = k
            · subst hik
              rw [giL_k, giL_c, tcU_31, tcU_32, ← e31, ← e32, ← eG, ← eC2]
              refine ⟨rfl, rfl, ?_⟩
              rw [eC]
              exact q3
            · rw [giL_i hik (by omega), giL_i (show 30 + i ≠ k by omega) (by omega), tcU_i hik, tcU_i hik]
              exact r4 i hi hli
          · dsimp only
            have hik : i ≠ k := fun z => hli (by rw [z]; exact hl)
            rw [giL_i hik (by omega), giL_i (show 30 + i ≠ k by omega) (by omega)]
            exact r5 i hi hli
          · rw [sQ_up (L := S.2.2) (j := k) (fun i h1 h2 => giL_i h1 (by omega)) n hn (by omega), giL_k, d1, d2]
            omega
          · dsimp only at hz ⊢
            by_cases hik : i = k
            · subst hik
              rw [giL_k]
              have hz2 : giG S i = S.2.2 8 i := by
                unfold giG
                by_cases y : S.1 < S.2.2 8 i
                · exfalso
                  have : giG S i = S.1 := if_pos y
                  rw [this] at hz
                  rw [show S.1 - S.1 = 0 by grind] at hz
                  exact absurd hz (by decide)
                · exact if_neg y
              rw [hz2]
              grind
            · rw [giL_i hik (by omega)]
              exact r7 i (by omega)
        · have hq0 : S.2.2 8 k = 0 := by
            have := hb.1.1
            rw [← e31] at this
            apply Int64.toInt_inj.mp
            rw [i64_lt, i64_0] at hq
            rw [i64_0]
            omega
          refine zero ?_ (fun z => hq (by rw [e31]; exact z.2.2)) hq0
          unfold giG
          rw [hq0]
          exact if_neg (fun z => by rw [i64_lt] at hp z; omega)
      · have hq0 := (r5 k (by omega) hl).1
        refine zero ?_ (hT0 hl) hq0
        unfold giG
        rw [hq0]
        exact if_neg (fun z => by rw [i64_lt] at hp z; omega)
    · have hg : giS s w (k + 1) = S := by rw [hS] at hp ⊢; exact giS_n hp
      rw [hg, tN (fun z => hp (by rw [r1]; exact z.1))]
      exact ⟨r1, r2, r3, r4, r5, r6, fun z => absurd z hp⟩
/-! trades -/
section TRD
variable {n c f : Nat} {I Ia : zIA} {L La : zLA}
theorem pk_bd (hO : trOK n I L) (hD : ∀ k, k < n → dN (I 11 k) < 4) {k : Nat} (hk : k < n) : pkT I k < 1048576 := by
  obtain ⟨-, z12, z16, -⟩ := hO k hk
  have h1 := hD k hk
  have h2 := z12.2
  have h3 := z16.2
  unfold pkT
  split <;> omega
theorem pk_dN (hO : trOK n I L) (hD : ∀ k, k < n → dN (I 11 k) < 4) (hR : rT n I L Ia La) {k : Nat} (hk : k < n) : dN (Ia 4 k) = pkT I k := by
  rw [(hR k hk).1]
  exact dN_nI (by have := pk_bd hO hD hk; omega)
theorem isG_iff (hO : trOK n I L) (hD : ∀ k, k < n → dN (I 11 k) < 4) (hR : rT n I L Ia La) {k : Nat} (hk : k < n) (hc : c < 4) (hf : f < 8) : isG Ia c f k ↔ ¬ I 17 k = 0 ∧ isH I c f k := by
  have e := pk_dN hO hD hR hk
  obtain ⟨-, z12, z16, -⟩ := hO k hk
  have h1 := hD k hk
  have h2 := z12.2
  have h3 := z16.2
  unfold isG isH
  rw [e]
  unfold pkT
  by_cases h : I 17 k = 0
  · rw [if_pos h]
    constructor
    · intro z
      omega
    · intro z
      exact absurd h z.1
  · rw [if_neg h]
    constructor
    · rintro ⟨a, b, d⟩
      exact ⟨h, by omega, by omega⟩
    · rintro ⟨-, a, b⟩
      exact ⟨by omega, by omega, by omega⟩
theorem pk_year (hO : trOK n I L) (hD : ∀ k, k < n → dN (I 11 k) < 4) (hR : rT n I L Ia La) {k : Nat} (hk : k < n) (h : ¬ I 17 k = 0) : dN (Ia 4 k) / 32 / 360 = dN (I 16 k) / 360 := by
  have e := pk_dN hO hD hR hk
  obtain ⟨-, z12, z16, -⟩ := hO k hk
  have h1 := hD k hk
  have h2 := z12.2
  have h3 := z16.2
  rw [e]
  unfold pkT
  rw [if_neg h]
  have : (dN (I 11 k) + 4 * dN (I 12 k) + 32 * dN (I 16 k) + 0) / 32 = dN (I 16 k) := by omega
  rw [this]
theorem enA_g (hO : trOK n I L) {k : Nat} (hk : k < n) (hc : c < 4) (hf : f < 6) (h : ¬ I 17 k = 0 ∧ isH I c f k) : enA I L c f k = L 13 k := by
  obtain ⟨z11, z12, -⟩ := hO k hk
  exact if_pos ⟨h.1, (zD_11 z11 (by omega)).mp h.2.1, (zD_11 z12 (by omega)).mp h.2.2⟩
theorem enA_z (hO : trOK n I L) {k : Nat} (hk : k < n) (hc : c < 4) (hf : f < 6) (h : ¬ (¬ I 17 k = 0 ∧ isH I c f k)) : enA I L c f k = 0 := by
  obtain ⟨z11, z12, -⟩ := hO k hk
  exact if_neg (fun z => h ⟨z.1, (zD_11 z11 (by omega)).mpr z.2.1, (zD_11 z12 (by omega)).mpr z.2.2⟩)
theorem gnS_hi (hO : trOK n I L) {y : Nat} (hy : 21 ≤ y) : ∀ t, t ≤ n → gnS I L c f y t = 0
  | 0, _ => rfl
  | t + 1, ht => by
    have := (hO t (by omega)).2.2.1.2
    rw [gnS_n (fun z => by have := z.2.2.2; omega)]
    exact gnS_hi hO hy t (by omega)
end TRD
theorem goQ_a {L : zLA} {k a : Nat} {x y : Int64} (h : a ≠ 8) : goQ L k x y a = L a := by
  unfold goQ
  rw [up2_a h, up2_a h]
theorem goQ_k {L : zLA} {k : Nat} {x y : Int64} : goQ L k x y 8 k = x := by
  unfold goQ
  rw [up2_i (show k ≠ 30 + k by omega), up2_s]
theorem goQ_c {L : zLA} {k : Nat} {x y : Int64} : goQ L k x y 8 (30 + k) = y := up2_s _ _ _ _
theorem goQ_i {L : zLA} {k i : Nat} {x y : Int64} (h1 : i ≠ k) (h2 : i ≠ 30 + k) : goQ L k x y 8 i = L 8 i := by
  unfold goQ
  rw [up2_i h2, up2_i h1]
theorem goE_8 {L : zLA} {k y : Nat} {r : zGi} : goE L k y r 8 = r.2.2 8 := up2_a (by decide)
theorem goE_9 {L : zLA} {k y : Nat} {r : zGi} : goE L k y r 9 y = r.2.2 9 y + (L 6 k - cosL (L 6 k) - r.2.1) := up2_s _ _ _ _
theorem goE_9i {L : zLA} {k y i : Nat} {r : zGi} (h : i ≠ y) : goE L k y r 9 i = r.2.2 9 i := up2_i h 9
/-- what 'goes' has found behind t trades, when no sale lacked parts -/
def goA (I : zIA) (L : zLA) (Ia : zIA) (La : zLA) (c f t : Nat) : Prop :=
  (goS Ia La c f t).1 = 1 ∧ (∀ i, i < t → lotH I L c f i → (goS Ia La c f t).2 8 i = flS I L c t 31 i ∧ (goS Ia La c f t).2 8 (30 + i) = flS I L c t 32 i ∧ bndL (flS I L c t 31 i) (flS I L c t 32 i)) ∧
    (∀ i, i < t → ¬ lotH I L c f i → (goS Ia La c f t).2 8 i = 0 ∧ (goS Ia La c f t).2 8 (30 + i) = 0) ∧ (∀ i, i < t → isH I c f i → ¬ lotH I L c f i → flS I L c t 31 i = 0) ∧
    (∀ y, y ≠ 21 → (goS Ia La c f t).2 9 y = La 9 y + gnS I L c f y t) ∧ sQ (goS Ia La c f t).2 t = (enS I L c f t).2.toInt
theorem go_rel {n c f : Nat} {I Ia : zIA} {L La : zLA} (hc : c < 4) (hf : f < 6) (hn : n ≤ 30) (hO : trOK n I L) (hM : ∀ t, t < n → -1200000000000 ≤ (L 13 t).toInt) (hD : ∀ k, k < n → dN (I 11 k) < 4) (hR : rT n I L Ia La) :
    ∀ t, t ≤ n → (¬ (enS I L c f t).1 = 0 → goA I L Ia La c f t) ∧ ((enS I L c f t).1 = 0 → (goS Ia La c f t).1 = 0)
  | 0, _ => ⟨fun _ => ⟨rfl, fun i hi => absurd hi (Nat.not_lt_zero i), fun i hi => absurd hi (Nat.not_lt_zero i), fun i hi => absurd hi (Nat.not_lt_zero i), fun y _ => (Int64.add_zero _).symm, rfl⟩, fun z => absurd z (by show ¬ (1 : Int32) = 0; decide)⟩
  | t + 1, ht => by
    obtain ⟨ih1, ih2⟩ := go_rel hc hf hn hO hM hD hR t (by omega)
    have htn : t < n := by omega
    by_cases hen : (enS I L c f t).1 = 0
    · have z := ih2 hen
      have e1 : (enS I L c f (t + 1)).1 = 0 := enS_stay hen 1
      refine ⟨fun y => absurd e1 y, fun _ => ?_⟩
      rw [goS_stay z 1]
      exact z
    obtain ⟨a1, a2, a3, a4, a5, a6⟩ := ih1 hen
    have hes := en_nn (I := I) (L := L) (c := c) (f := f) t hen
    have hbd := enS_bd (I := I) (L := L) (c := c) (f := f) (n := n) (by omega) (fun t ht => ⟨hM t ht, (hO t ht).2.2.2.2.1⟩) t (by omega)
    obtain ⟨z11, z12, z16, z0, zm, zb⟩ := hO t htn
    have zM := hM t htn
    obtain ⟨-, r5, r6, r7⟩ := hR t htn
    obtain ⟨P, hP⟩ : ∃ P, P = goS Ia La c f t := ⟨_, rfl⟩
    have e5 : P.2 5 t = L 13 t := by rw [hP, goS_a (by decide) (by decide), r5]
    have e6 : P.2 6 t = L 14 t := by rw [hP, goS_a (by decide) (by decide), r6]
    have e7 : cosL (P.2 6 t) = L 15 t := by rw [e6, r7]
    have eS : goS Ia La c f (t + 1) = goT Ia P.2 c f t := by rw [hP]; exact goS_s a1
    rw [← hP] at a2 a3 a5 a6
    have hI := isG_iff hO hD hR htn hc (show f < 8 by omega)
    by_cases hg : ¬ I 17 t = 0 ∧ isH I c f t
    · -- a trade that stands, of this holding
      obtain ⟨h2, hH⟩ := hg
      have hG : isG Ia c f t := hI.mpr ⟨h2, hH⟩
      have hA := enA_g hO htn hc hf ⟨h2, hH⟩
      have hcl : ∀ i, i < t → clT (flS I L c t) t 31 i = flS I L c t 31 i ∧ clT (flS I L c t) t 32 i = flS I L c t 32 i := fun i hi => ⟨clT_i (by omega), clT_i (by omega)⟩
      have c13 : clT (flS I L c t) t 13 t = L 13 t := by rw [clT_a (by decide) (by decide), flS_a (by decide) (by decide) (by decide)]
      have c14 : clT (flS I L c t) t 14 t = L 14 t := by rw [clT_a (by decide) (by decide), flS_a (by decide) (by decide) (by decide)]
      have c15 : clT (flS I L c t) t 15 t = L 15 t := by rw [clT_a (by decide) (by decide), flS_a (by decide) (by decide) (by decide)]
      have hfl : flS I L c (t + 1) = elS I (clT (flS I L c t) t) t := flS_1' hH.1 h2
      by_cases hpos : 0 < L 13 t
      · have hl : lotH I L c f t := ⟨hH, h2, hpos⟩
        have hneg : ¬ clT (flS I L c t) t 13 t < 0 := by
          rw [c13]
          rw [i64_lt] at hpos ⊢
          omega
        have hpay : payT (clT (flS I L c t) t) t = L 14 t + L 15 t := by
          unfold payT
          rw [if_neg hneg, c14, c15, Int64.add_comm]
        obtain ⟨zb1, zb2⟩ := zb hpos
        have hbt : bndL (L 13 t) (L 14 t + L 15 t) := ⟨⟨by rw [i64_lt] at hpos; exact Int.le_of_lt hpos, zm⟩, zb1, zb2⟩
        have hp0 := hpos
        rw [i64_lt, i64_0] at hp0
        have hadd : ((enS I L c f t).2 + L 13 t).toInt = (enS I L c f t).2.toInt + (L 13 t).toInt := i64_add (by omega) (by omega)
        have hE : enS I L c f (t + 1) = (1, (enS I L c f t).2 + L 13 t) := enS_p hA ⟨hen, by rw [i64_lt, hadd, i64_0]; omega⟩
        rw [elS_pos hneg, c13, hpay] at hfl
        have hT : goT Ia P.2 c f t = (1, goE P.2 t 21 (0, 0, goQ P.2 t (L 13 t) (L 14 t + L 15 t))) := by
          rw [goT_b hG (by rw [e5]; exact hpos), e5, e7, e6]
        refine ⟨fun _ => ?_, fun z => absurd z (by rw [hE]; exact (by decide : ¬ (1 : Int32) = 0))⟩
        refine ⟨by rw [eS, hT], fun i hi hli => ?_, fun i hi hli => ?_, fun i hi hh hni => ?_, fun y hy => ?_, ?_⟩
        · rw [eS, hT, hfl]
          dsimp only
          rw [goE_8]
          by_cases hit : i = t
          · subst hit
            show goQ P.2 i _ _ 8 i = _ ∧ goQ P.2 i _ _ 8 (30 + i) = _ ∧ _
            rw [goQ_k, goQ_c, up2_ne (show (31 : Nat) ≠ 32 by decide), up2_s, up2_s]
            exact ⟨rfl, rfl, hbt⟩
          · show goQ P.2 t _ _ 8 i = _ ∧ goQ P.2 t _ _ 8 (30 + i) = _ ∧ _
            rw [goQ_i hit (by omega), goQ_i (show 30 + i ≠ t by omega) (by omega), up2_i hit, up2_i hit, up2_i hit, up2_i hit, (hcl i (by omega)).1, (hcl i (by omega)).2]
            exact a2 i (by omega) hli
        · have hit : i ≠ t := fun z => hli (by rw [z]; exact hl)
          rw [eS, hT]
          dsimp only
          rw [goE_8]
          show goQ P.2 t _ _ 8 i = _ ∧ goQ P.2 t _ _ 8 (30 + i) = _
          rw [goQ_i hit (by omega), goQ_i (show 30 + i ≠ t by omega) (by omega)]
          exact a3 i (by omega) hli
        · have hit : i ≠ t := fun z => hni (by rw [z]; exact hl)
          rw [hfl, up2_i hit, up2_i hit, clT_i hit]
          exact a4 i (by omega) hh hni
        · rw [eS, hT, gnS_n (fun z => by have := z.2.2.1; rw [i64_lt] at this hpos; omega)]
          dsimp only
          rw [goE_9i hy]
          try dsimp only
          rw [goQ_a (by decide)]
          exact a5 y hy
        · rw [eS, hT, hE]
          show sQ (goE _ _ _ _) t + (goE _ _ _ _ 8 t).toInt = ((enS I L c f t).2 + L 13 t).toInt
          rw [hadd, goE_8]
          show sQ _ t + (goQ P.2 t _ _ 8 t).toInt = _
          rw [goQ_k, sQ_c (L := P.2) t (fun i hi => by rw [goE_8]; exact goQ_i (by omega) (by omega)), a6]
      · have hl : ¬ lotH I L c f t := fun z => hpos z.2.2
        have hneg : L 13 t < 0 := by
          rw [i64_lt] at hpos ⊢
          have : (L 13 t).toInt ≠ (0 : Int64).toInt := fun z => z0 (Int64.toInt_inj.mp z)
          omega
        have hneg' : clT (flS I L c t) t 13 t < 0 := by rw [c13]; exact hneg
        have hn0 := hneg
        rw [i64_lt, i64_0] at hn0
        have hw : (-L 13 t).toInt = -(L 13 t).toInt := i64_neg (by omega)
        have hadd : ((enS I L c f t).2 + L 13 t).toInt = (enS I L c f t).2.toInt + (L 13 t).toInt := i64_add (by omega) (by omega)
        obtain ⟨X, hX⟩ : ∃ X, X = clT (flS I L c t) t := ⟨_, rfl⟩
        obtain ⟨s, hs⟩ : ∃ s, s = goQ P.2 t 0 0 := ⟨_, rfl⟩
        rw [← hX] at hcl c13 c14 c15 hfl hneg'
        have sI : ∀ i, i < t → s 8 i = P.2 8 i ∧ s 8 (30 + i) = P.2 8 (30 + i) := fun i hi => by rw [hs]; exact ⟨goQ_i (by omega) (by omega), goQ_i (by omega) (by omega)⟩
        obtain ⟨k1, k2, k3, k4, k5, k6, k7⟩ := gi_rel (I := I) (LL := L) (x := X) (s := s) (c := c) (f := f) (n := t) (w := -L 13 t) (by rw [hw]; omega) (by omega)
          (fun i hi hli => by rw [(sI i hi).1, (sI i hi).2, (hcl i hi).1, (hcl i hi).2]; exact a2 i hi hli) (fun i hi hli => by rw [(sI i hi).1, (sI i hi).2]; exact a3 i hi hli) (fun i hi hh hni => by rw [(hcl i hi).1]; exact a4 i hi hh hni) t (Nat.le_refl t)
        obtain ⟨R, hRr⟩ : ∃ R, R = giS s (-L 13 t) t := ⟨_, rfl⟩
        rw [← hRr] at k1 k2 k3 k4 k5 k6 k7
        have hsum : sQ s t = (enS I L c f t).2.toInt := by rw [sQ_c (L := P.2) t (fun i hi => (sI i hi).1), a6]
        rw [hsum, hw] at k6
        have hTg : goT Ia P.2 c f t = (if 0 < R.1 then (0, R.2.2) else (1, goE P.2 t (dN (I 16 t) / 360) R)) := by
          rw [goT_s hG (by rw [e5]; exact hneg), e5, pk_year hO hD hR htn h2, hRr, hs]
        by_cases hlft : 0 < R.1
        · have hz := sQ_0 t (k7 hlft)
          rw [i64_lt, i64_0] at hlft
          have hE : enS I L c f (t + 1) = (0, (enS I L c f t).2 + L 13 t) := enS_n hA (fun z => z.2 (by rw [i64_lt, hadd, i64_0]; omega))
          refine ⟨fun z => absurd (by rw [hE]) z, fun _ => ?_⟩
          rw [eS, hTg, if_pos (by rw [i64_lt, i64_0]; exact hlft)]
        · have hR0 : R.1.toInt = 0 := by
            rw [i64_lt, i64_0] at hlft
            omega
          have hqn : 0 ≤ sQ R.2.2 t := by
            have : ∀ k, k ≤ t → 0 ≤ sQ R.2.2 k := by
              intro k
              induction k with
              | zero => exact fun _ => Int.le_refl 0
              | succ k ihk =>
                intro hk
                show 0 ≤ sQ R.2.2 k + (R.2.2 8 k).toInt
                have i1 := ihk (by omega)
                by_cases hlk : lotH I L c f k
                · obtain ⟨q1, q2, q3⟩ := k4 k (by omega) hlk
                  rw [q1]
                  have := q3.1.1
                  omega
                · rw [(k5 k (by omega) hlk).1, i64_0]
                  omega
            exact this t (Nat.le_refl t)
          have hE : enS I L c f (t + 1) = (1, (enS I L c f t).2 + L 13 t) := enS_p hA ⟨hen, by rw [i64_lt, hadd, i64_0]; omega⟩
          rw [if_neg hlft] at hTg
          rw [elS_neg hneg', hH.1, hH.2, c13] at hfl
          have hgn : gnE I X t = L 14 t - L 15 t - R.2.1 := by
            unfold gnE payT
            rw [if_pos hneg', c13, c14, c15, hH.1, hH.2, k2, Int64.neg_sub]
          refine ⟨fun _ => ?_, fun z => absurd z (by rw [hE]; exact (by decide : ¬ (1 : Int32) = 0))⟩
          have hx0 : ∀ i, i < t → isH I c f i → ¬ lotH I L c f i → ∀ k, k ≤ t → (tcS I X c f (-L 13 t) k).2.2 31 i = 0 := by
            intro i hi hh hni k
            have hX0 : X 31 i = 0 := by rw [(hcl i hi).1]; exact a4 i hi hh hni
            induction k with
            | zero => exact fun _ => hX0
            | succ k ihk =>
              intro hk
              have ih2 := ihk (by omega)
              by_cases hp : tcP I c f k (tcS I X c f (-L 13 t) k)
              · by_cases hik : i = k
                · subst hik
                  have z3 := hp.2.2
                  rw [ih2] at z3
                  exact absurd z3 (by decide)
                · rw [tcS_p hp, tcU_i hik]
                  exact ih2
              · rw [tcS_n hp]
                exact ih2
          refine ⟨by rw [eS, hTg], fun i hi hli => ?_, fun i hi hli => ?_, fun i hi hh hni => ?_, fun y hy => ?_, ?_⟩
          · have hit : i < t := by
              rcases Nat.lt_succ_iff_lt_or_eq.mp hi with z | z
              · exact z
              · subst z; exact absurd hli hl
            rw [eS, hTg, hfl]
            dsimp only
            rw [goE_8, up2_a (by decide), up2_a (by decide)]
            exact k4 i hit hli
          · rw [eS, hTg]
            dsimp only
            rw [goE_8]
            by_cases hit : i = t
            · subst hit
              have hfx : ∀ j, j = i ∨ j = 30 + i → ∀ k, k ≤ i → (giS s (-L 13 i) k).2.2 8 j = s 8 j := by
                intro j hj k
                induction k with
                | zero => exact fun _ => rfl
                | succ k ihk =>
                  intro hk
                  by_cases hp : 0 < (giS s (-L 13 i) k).1
                  · rw [giS_p hp]
                    show giL _ k 8 j = _
                    rw [giL_i (by omega) (by omega)]
                    exact ihk (by omega)
                  · rw [giS_n hp]
                    exact ihk (by omega)
              rw [hRr, hfx i (Or.inl rfl) i (Nat.le_refl i), hfx (30 + i) (Or.inr rfl) i (Nat.le_refl i), hs, goQ_k, goQ_c]
              exact ⟨rfl, rfl⟩
            · exact k5 i (by omega) hli
          · rw [hfl, up2_a (by decide)]
            by_cases hit : i = t
            · subst hit
              rw [tcS_fix i (Or.inr (Nat.le_refl i)), hX]
              exact clT_31
            · exact hx0 i (by omega) hh hni t (Nat.le_refl t)
          · rw [eS, hTg]
            dsimp only
            have hR9 : R.2.2 9 = P.2 9 := by rw [hRr, giS_a (by decide) t, hs, goQ_a (by decide)]
            by_cases hyy : dN (I 16 t) / 360 = y
            · subst hyy
              rw [goE_9, gnS_p ⟨hH, h2, hneg, rfl⟩, hR9, a5 _ hy, ← hX, hgn, e7, e6, Int64.add_assoc]
            · rw [goE_9i (fun z => hyy z.symm), gnS_n (fun z => hyy z.2.2.2), hR9]
              exact a5 y hy
          · rw [eS, hTg, hE]
            show sQ (goE P.2 t (dN (I 16 t) / 360) R) t + (goE P.2 t (dN (I 16 t) / 360) R 8 t).toInt = ((enS I L c f t).2 + L 13 t).toInt
            have h8 : goE P.2 t (dN (I 16 t) / 360) R 8 t = 0 := by
              rw [goE_8]
              have hfx : ∀ k, k ≤ t → (giS s (-L 13 t) k).2.2 8 t = s 8 t := by
                intro k
                induction k with
                | zero => exact fun _ => rfl
                | succ k ihk =>
                  intro hk
                  by_cases hp : 0 < (giS s (-L 13 t) k).1
                  · rw [giS_p hp]
                    show giL _ k 8 t = _
                    rw [giL_i (by omega) (by omega)]
                    exact ihk (by omega)
                  · rw [giS_n hp]
                    exact ihk (by omega)
              rw [hRr, hfx t (Nat.le_refl t), hs, goQ_k]
            rw [h8, hadd, sQ_c (L := R.2.2) t (fun i _ => by rw [goE_8]), i64_0]
            omega
    · -- none of this holding's that stands
      have hG : ¬ isG Ia c f t := fun z => hg (hI.mp z)
      have hA := enA_z hO htn hc hf hg
      have hl : ¬ lotH I L c f t := fun z => hg ⟨z.2.1, z.1⟩
      have hE : enS I L c f (t + 1) = (1, (enS I L c f t).2) := enS_keep ⟨hen, by rw [i64_lt, i64_0]; omega⟩ hA
      have hT : goT Ia P.2 c f t = (1, goE P.2 t 21 (0, 0, goQ P.2 t 0 0)) := goT_n hG
      have hsame : (∀ i, i < t → isH I c f i → flS I L c (t + 1) 31 i = flS I L c t 31 i ∧ flS I L c (t + 1) 32 i = flS I L c t 32 i) ∧ (isH I c f t → flS I L c (t + 1) 31 t = 0) := by
        by_cases h : dN (I 11 t) = c
        · by_cases h2 : I 17 t = 0
          · rw [flS_0' h h2]
            exact ⟨fun i hi _ => ⟨clT_i (by omega), clT_i (by omega)⟩, fun _ => clT_31⟩
          · have hnH : ¬ isH I c f t := fun z => hg ⟨h2, z⟩
            refine ⟨fun i hi hh => ?_, fun z => absurd z hnH⟩
            have hn2 : ¬ isH I (dN (I 11 t)) (dN (I 12 t)) i := fun z => hnH ⟨h, z.2.symm.trans hh.2⟩
            rw [flS_1' h h2, elS_31 (Or.inl rfl) hn2, elS_31 (Or.inr rfl) hn2, clT_i (by omega), clT_i (by omega)]
            exact ⟨rfl, rfl⟩
        · rw [flS_n h]
          exact ⟨fun i _ _ => ⟨rfl, rfl⟩, fun z => absurd z.1 h⟩
      refine ⟨fun _ => ?_, fun z => absurd z (by rw [hE]; exact (by decide : ¬ (1 : Int32) = 0))⟩
      refine ⟨by rw [eS, hT], fun i hi hli => ?_, fun i hi hli => ?_, fun i hi hh hni => ?_, fun y hy => ?_, ?_⟩
      · have hit : i < t := by
          rcases Nat.lt_succ_iff_lt_or_eq.mp hi with z | z
          · exact z
          · subst z; exact absurd hli hl
        rw [eS, hT, (hsame.1 i hit hli.1).1, (hsame.1 i hit hli.1).2]
        dsimp only
        rw [goE_8]
        show goQ P.2 t _ _ 8 i = _ ∧ goQ P.2 t _ _ 8 (30 + i) = _ ∧ _
        rw [goQ_i (show i ≠ t by omega) (by omega), goQ_i (show 30 + i ≠ t by omega) (by omega)]
        exact a2 i hit hli
      · rw [eS, hT]
        dsimp only
        rw [goE_8]
        show goQ P.2 t _ _ 8 i = _ ∧ goQ P.2 t _ _ 8 (30 + i) = _
        by_cases hit : i = t
        · subst hit
          rw [goQ_k, goQ_c]
          exact ⟨rfl, rfl⟩
        · rw [goQ_i hit (by omega), goQ_i (show 30 + i ≠ t by omega) (by omega)]
          exact a3 i (by omega) hli
      · by_cases hit : i = t
        · subst hit
          exact hsame.2 hh
        · rw [(hsame.1 i (by omega) hh).1]
          exact a4 i (by omega) hh hni
      · rw [eS, hT, gnS_n (fun z => hg ⟨z.2.1, z.1⟩)]
        dsimp only
        rw [goE_9i hy]
        try dsimp only
        rw [goQ_a (by decide)]
        exact a5 y hy
      · rw [eS, hT, hE]
        show sQ (goE _ _ _ _) t + (goE _ _ _ _ 8 t).toInt = (enS I L c f t).2.toInt
        rw [goE_8]
        show sQ _ t + (goQ P.2 t _ _ 8 t).toInt = _
        rw [goQ_k, sQ_c (L := P.2) t (fun i hi => by rw [goE_8]; exact goQ_i (by omega) (by omega)), a6, i64_0]
        omega
/-! taxes -/
theorem zeS_9 {L : zLA} {y : Nat} : ∀ k, zeS L k 9 y = if y < k then 0 else L 9 y
  | 0 => (if_neg (Nat.not_lt_zero y)).symm
  | k + 1 => by
    have ih := zeS_9 (L := L) (y := y) k
    show up2 (zeS L k) 9 k 0 9 y = _
    by_cases h : y = k
    · subst h
      rw [up2_s, if_pos (Nat.lt_succ_self _)]
    · rw [up2_i h, ih]
      by_cases h2 : y < k
      · rw [if_pos h2, if_pos (by omega)]
      · rw [if_neg h2, if_neg (by omega)]
theorem rT_c {n : Nat} {I Ia : zIA} {L La La' : zLA} (h5 : La' 5 = La 5) (h6 : La' 6 = La 6) (hR : rT n I L Ia La) : rT n I L Ia La' := fun k hk => by
  rw [h5, h6]
  exact hR k hk
theorem tx_rel {n c n6 : Nat} {I Ia : zIA} {L La : zLA} (hc : c < 4) (h6 : n6 ≤ 6) (hn : n ≤ 30) (hO : trOK n I L) (hM : ∀ t, t < n → -1200000000000 ≤ (L 13 t).toInt) (hD : ∀ k, k < n → dN (I 11 k) < 4) (hR : rT n I L Ia La) (hE : ∀ f, f < n6 → ¬ (enS I L c f n).1 = 0) :
    ∀ k, k ≤ n6 → (∀ y, y < 21 → txS Ia La c n k 9 y = La 9 y + sm6 (fun f => gnS I L c f y n) k) ∧ ∀ y, 21 < y → txS Ia La c n k 9 y = La 9 y
  | 0, _ => ⟨fun y _ => (Int64.add_zero _).symm, fun y _ => rfl⟩
  | k + 1, hk => by
    obtain ⟨r1, r2⟩ := tx_rel hc h6 hn hO hM hD hR hE k (by omega)
    obtain ⟨a1, -, -, -, a5, -⟩ := (go_rel (f := k) (La := txS Ia La c n k) hc (by omega) hn hO hM hD (rT_c (txS_a (by decide) (by decide) k) (txS_a (by decide) (by decide) k) hR) n (Nat.le_refl n)).1 (hE k (by omega))
    have e : ∀ y, y ≠ 63 → txS Ia La c n (k + 1) 9 y = (goS Ia (txS Ia La c n k) c k n).2 9 y := fun y hy => (congrFun (congrFun (show txS Ia La c n (k + 1) = txF Ia (txS Ia La c n k) c k n from rfl) 9) y).trans (up2_i hy 9)
    have e63 : txS Ia La c n (k + 1) 9 63 = (goS Ia (txS Ia La c n k) c k n).2 9 63 := by
      refine (congrFun (congrFun (show txS Ia La c n (k + 1) = txF Ia (txS Ia La c n k) c k n from rfl) 9) 63).trans ?_
      unfold txF
      rw [up2_s, a1, if_neg (by decide), Int64.add_zero]
    refine ⟨fun y hy => ?_, fun y hy => ?_⟩
    · rw [e y (by omega), a5 y (by omega), r1 y hy]
      show _ = La 9 y + (sm6 (fun f => gnS I L c f y n) k + gnS I L c k y n)
      rw [Int64.add_assoc]
    · have hz := gnS_hi (f := k) (c := c) hO (show 21 ≤ y by omega) n (Nat.le_refl n)
      by_cases h63 : y = 63
      · subst h63
        rw [e63, a5 63 (by decide), hz, Int64.add_zero]
        exact r2 63 hy
      · rw [e y h63, a5 y (by omega), hz, Int64.add_zero]
        exact r2 y hy
theorem tb_rel {X L : zLA} {c n : Nat} (hn : n ≤ 21) (h : ∀ y, y < n → X 9 y = L 30 (21 * c + y)) : ∀ k, k ≤ n → (tbS X k).1 = (if 0 < bsS L c k then 0 else bsS L c k) ∧ (∀ y, y < k → (tbS X k).2 9 (22 + y) = bsV L c y) ∧ ∀ y, (y < 22 ∨ 22 + k ≤ y) → (tbS X k).2 9 y = X 9 y
  | 0, _ => ⟨rfl, fun y hy => absurd hy (Nat.not_lt_zero y), fun y _ => rfl⟩
  | k + 1, hk => by
    obtain ⟨r1, r2, r3⟩ := tb_rel hn h k (by omega)
    have eI : (tbS X k).2 9 k + (tbS X k).1 = bsS L c (k + 1) := by
      show _ = (if 0 < bsS L c k then 0 else bsS L c k) + L 30 (21 * c + k)
      rw [r3 k (by omega), h k (by omega), r1, Int64.add_comm]
    have eT : tbS X (k + 1) = (if bsS L c (k + 1) < 0 then bsS L c (k + 1) else 0, up2 (tbS X k).2 9 (22 + k) (if bsS L c (k + 1) < 0 then 0 else bsS L c (k + 1))) := by
      show (if (tbS X k).2 9 k + (tbS X k).1 < 0 then (tbS X k).2 9 k + (tbS X k).1 else 0, up2 (tbS X k).2 9 (22 + k) (if (tbS X k).2 9 k + (tbS X k).1 < 0 then 0 else (tbS X k).2 9 k + (tbS X k).1)) = _
      rw [eI]
    have hz : (0 : Int64) = bsS L c (k + 1) ∨ (bsS L c (k + 1) < 0 ∧ ¬ 0 < bsS L c (k + 1)) ∨ (¬ bsS L c (k + 1) < 0 ∧ 0 < bsS L c (k + 1)) := by
      rcases Int.lt_trichotomy (bsS L c (k + 1)).toInt 0 with z | z | z
      · exact Or.inr (Or.inl ⟨by rw [i64_lt, i64_0]; omega, by rw [i64_lt, i64_0]; omega⟩)
      · exact Or.inl (Int64.toInt_inj.mp (by rw [i64_0]; omega))
      · exact Or.inr (Or.inr ⟨by rw [i64_lt, i64_0]; omega, by rw [i64_lt, i64_0]; omega⟩)
    have hA : (if bsS L c (k + 1) < 0 then bsS L c (k + 1) else 0) = (if 0 < bsS L c (k + 1) then 0 else bsS L c (k + 1)) := by
      rcases hz with z | ⟨z1, z2⟩ | ⟨z1, z2⟩
      · rw [← z]
        all_goals (try decide)
      · rw [if_pos z1, if_neg z2]
      · rw [if_neg z1, if_pos z2]
    have hB : (if bsS L c (k + 1) < 0 then 0 else bsS L c (k + 1)) = bsV L c k := by
      unfold bsV
      rcases hz with z | ⟨z1, z2⟩ | ⟨z1, z2⟩
      · rw [← z]
        all_goals (try decide)
      · rw [if_pos z1, if_neg z2]
      · rw [if_neg z1, if_pos z2]
    rw [eT, hA, hB]
    refine ⟨rfl, fun y hy => ?_, fun y hy => ?_⟩
    · show up2 (tbS X k).2 9 (22 + k) _ 9 (22 + y) = _
      by_cases hyk : y = k
      · subst hyk
        rw [up2_s]
      · rw [up2_i (by omega)]
        exact r2 y (by omega)
    · show up2 (tbS X k).2 9 (22 + k) _ 9 y = _
      rw [up2_i (by omega)]
      exact r3 y (by omega)
/-- the law's taxes, of a client whose gains X holds -/
theorem tax_rel {n c : Nat} {I Ia : zIA} {L La X : zLA} (hc : c < 4) (hn : n ≤ 30) (hO : trOK n I L) (hM : ∀ t, t < n → -1200000000000 ≤ (L 13 t).toInt) (hD : ∀ k, k < n → dN (I 11 k) < 4) (hR : rT n I L Ia La) (hE : ∀ f, f < 6 → ¬ (enS I L c f n).1 = 0) (hg : ∀ y, y < 21 → X 30 (21 * c + y) = flS I L c n 30 (21 * c + y)) :
    (∀ y, y < 21 → taxL Ia La c n 9 y = X 30 (21 * c + y) ∧ taxL Ia La c n 9 (22 + y) = bsV X c y) ∧ taxL Ia La c n 9 63 = 0 := by
  obtain ⟨n6, h6⟩ : ∃ k : Nat, k = 6 := ⟨6, rfl⟩
  obtain ⟨n21, h21⟩ : ∃ k : Nat, k = 21 := ⟨21, rfl⟩
  obtain ⟨n64, h64⟩ : ∃ k : Nat, k = 64 := ⟨64, rfl⟩
  rw [taxL_v h6 h21 h64]
  obtain ⟨r1, r2⟩ := tx_rel (n6 := n6) (La := zeS La n64) hc (by omega) hn hO hM hD (rT_c (zeS_a (by decide) n64) (zeS_a (by decide) n64) hR) (fun f hf => hE f (by omega)) n6 (Nat.le_refl n6)
  have h9 : ∀ y, y < n21 → txS Ia (zeS La n64) c n n6 9 y = X 30 (21 * c + y) := by
    intro y hy
    rw [r1 y (by omega), zeS_9, if_pos (by omega), Int64.zero_add, hg y (by omega), flS_sum (n6 := n6) (n := n) (fun t ht => by have := (hO t ht).2.1.2; omega) (by omega) (fun t ht => by have := (hO t ht).2.2.1.2; omega) n (Nat.le_refl n)]
  obtain ⟨-, q2, q3⟩ := tb_rel (c := c) (by omega) h9 n21 (Nat.le_refl n21)
  refine ⟨fun y hy => ⟨?_, q2 y (by omega)⟩, ?_⟩
  · rw [q3 y (by omega), h9 y (by omega)]
  · rw [q3 63 (by omega), r2 63 (by decide), zeS_9, if_pos (by omega)]
