/-! ===== years, bases, a lot that is asked for ===== -/
def sm6 (h : Nat → Int64) : Nat → Int64
  | 0 => 0
  | k + 1 => sm6 h k + h k
theorem sm6_c {h h' : Nat → Int64} : ∀ n, (∀ f, f < n → h' f = h f) → sm6 h' n = sm6 h n
  | 0, _ => rfl
  | n + 1, hh => by
    show sm6 h' n + h' n = sm6 h n + h n
    rw [sm6_c n (fun f hf => hh f (by omega)), hh n (by omega)]
theorem i64_rc (a b c : Int64) : a + b + c = a + c + b := by rw [Int64.add_assoc, Int64.add_comm b, ← Int64.add_assoc]
theorem sm6_up {h h' : Nat → Int64} {f0 : Nat} {d : Int64} (h0 : h' f0 = h f0 + d) (hn : ∀ f, f ≠ f0 → h' f = h f) : ∀ n, f0 < n → sm6 h' n = sm6 h n + d
  | 0, z => absurd z (Nat.not_lt_zero _)
  | n + 1, z => by
    show sm6 h' n + h' n = sm6 h n + h n + d
    by_cases hf : f0 = n
    · subst hf
      rw [sm6_c f0 (fun f hf => hn f (by omega)), h0, Int64.add_assoc]
    · rw [sm6_up h0 hn n (by omega), hn n (fun z => hf z.symm), i64_rc]
theorem flS_sum {I : zIA} {L : zLA} {c n n6 y : Nat} (hO : ∀ t, t < n → dN (I 12 t) < n6) (hy : y < 21) (h16 : ∀ t, t < n → dN (I 16 t) / 360 < 21) : ∀ t, t ≤ n → flS I L c t 30 (21 * c + y) = sm6 (fun f => gnS I L c f y t) n6
  | 0, _ => by
    have : ∀ k, sm6 (fun f => gnS I L c f y 0) k = 0 := fun k => by
      induction k with
      | zero => rfl
      | succ k ih => show sm6 _ k + 0 = 0; rw [ih]; rfl
    rw [this]
    exact if_pos ⟨rfl, by omega, by omega⟩
  | t + 1, ht => by
    have ih := flS_sum (c := c) (L := L) hO hy h16 t (by omega)
    by_cases h : dN (I 11 t) = c
    · by_cases h2 : I 17 t = 0
      · rw [flS_0' h h2, clT_a (by decide) (by decide), ih]
        exact (sm6_c n6 (fun f _ => gnS_n (fun z => z.2.1 h2))).symm
      · rw [flS_1' h h2, elS_30, clT_a (L := flS I L c t) (a := 30) (by decide) (by decide), clT_a (L := flS I L c t) (a := 13) (by decide) (by decide), flS_a (a := 13) (by decide) (by decide) (by decide), ih]
        by_cases hs : L 13 t < 0 ∧ dN (I 16 t) / 360 = y
        · rw [if_pos ⟨hs.1, by rw [h]; omega⟩]
          refine (sm6_up (f0 := dN (I 12 t)) (gnS_p ⟨⟨h, rfl⟩, h2, hs.1, hs.2⟩) (fun f hf => gnS_n (fun z => hf z.1.2.symm)) n6 (hO t (by omega))).symm
        · rw [if_neg (fun z => hs ⟨z.1, by have := z.2; rw [h] at this; omega⟩)]
          exact (sm6_c n6 (fun f _ => gnS_n (fun z => hs z.2.2))).symm
    · rw [flS_n h, ih]
      exact (sm6_c n6 (fun f _ => gnS_n (fun z => h z.1.1))).symm
theorem zrS_22 {L : zLA} {y : Nat} : ∀ k, zrS L k 22 y = if y < k then 0 else L 22 y
  | 0 => (if_neg (Nat.not_lt_zero y)).symm
  | k + 1 => by
    have ih := zrS_22 (L := L) (y := y) k
    show up2 (zrS L k) 22 k 0 22 y = _
    by_cases h : y = k
    · subst h
      rw [up2_s, if_pos (Nat.lt_succ_self _)]
    · rw [up2_i h, ih]
      by_cases h2 : y < k
      · rw [if_pos h2, if_pos (by omega)]
      · rw [if_neg h2, if_neg (by omega)]
theorem zrS_a {L : zLA} {a : Nat} (h : a ≠ 22) : ∀ k, zrS L k a = L a
  | 0 => rfl
  | k + 1 => by
    show up2 (zrS L k) 22 k 0 a = _
    rw [up2_a h, zrS_a h k]
theorem fs_rel (hS : shOK) {I I' : zIA} {L s : zLA} {c nl n n6 : Nat} (hc : c < 12) (h6 : n6 ≤ 6) (hO : trOK n I L) (h17 : ∀ a, a ≠ 19 → I' a = I a) (hs : ∀ a, a = 13 ∨ a = 14 ∨ a = 15 → s a = L a) :
    ∀ k, k ≤ n6 → (∀ y, (fsS (nl, I', s) c n k).2.2 22 y = s 22 y + sm6 (fun f => gnS I L c f y n) k) ∧ (∀ a, a ≠ 20 → a ≠ 21 → a ≠ 22 → (fsS (nl, I', s) c n k).2.2 a = s a) ∧ ∀ a, a ≠ 19 → (fsS (nl, I', s) c n k).2.1 a = I a
  | 0, _ => ⟨fun y => (Int64.add_zero _).symm, fun a _ _ _ => rfl, h17⟩
  | k + 1, hk => by
    obtain ⟨r1, r2, r3⟩ := fs_rel hS (nl := nl) hc h6 hO h17 hs k (by omega)
    obtain ⟨-, -, -, q4⟩ := fd_rel hS (I' := (fsS (nl, I', s) c n k).2.1) (s := (fsS (nl, I', s) c n k).2.2) (f := k) hc (by omega) hO r3 (fun a ha => by rw [r2 a (by omega) (by omega) (by omega), hs a ha]) n (Nat.le_refl n)
    refine ⟨fun y => ?_, fun a h20 h21 h22 => ?_, fun a ha => ?_⟩
    · show (fdS (fsS (nl, I', s) c n k).2.1 (fsS (nl, I', s) c n k).2.2 c k n).2.2 22 y = s 22 y + (sm6 (fun f => gnS I L c f y n) k + gnS I L c k y n)
      rw [q4 y, r1 y, Int64.add_assoc]
    · show (fdS (fsS (nl, I', s) c n k).2.1 (fsS (nl, I', s) c n k).2.2 c k n).2.2 a = _
      rw [fdS_a h20 h21 h22, r2 a h20 h21 h22]
    · show (fdS (fsS (nl, I', s) c n k).2.1 (fsS (nl, I', s) c n k).2.2 c k n).2.1 a = _
      rw [fdS_I ha, r3 a ha]
theorem by_rel {X L : zLA} {c n : Nat} (h : ∀ y, y < n → X 22 y = L 30 (21 * c + y)) : ∀ k, k ≤ n → (byS X k).1 = (if 0 < bsS L c k then 0 else bsS L c k) ∧ (∀ y, y < k → (byS X k).2 23 y = bsV L c y) ∧ ∀ a, a ≠ 23 → (byS X k).2 a = X a
  | 0, _ => ⟨rfl, fun y hy => absurd hy (Nat.not_lt_zero y), fun a _ => rfl⟩
  | k + 1, hk => by
    obtain ⟨r1, r2, r3⟩ := by_rel h k (by omega)
    have eI : (byS X k).2 22 k + (byS X k).1 = bsS L c (k + 1) := by
      show _ = (if 0 < bsS L c k then 0 else bsS L c k) + L 30 (21 * c + k)
      rw [r3 22 (by decide), h k (by omega), r1, Int64.add_comm]
    by_cases hz : bsS L c (k + 1) < 0
    · have hp : ¬ 0 < bsS L c (k + 1) := by
        rw [i64_lt] at hz ⊢
        omega
      rw [byS_p (by rw [eI]; exact hz)]
      refine ⟨by rw [if_neg hp]; exact eI, fun y hy => ?_, fun a ha => ?_⟩
      · show up2 (byS X k).2 23 k 0 23 y = _
        by_cases hyk : y = k
        · subst hyk
          rw [up2_s]
          unfold bsV
          rw [if_neg hp]
        · rw [up2_i hyk]
          exact r2 y (by omega)
      · show up2 (byS X k).2 23 k 0 a = _
        rw [up2_a ha, r3 a ha]
    · rw [byS_n (by rw [eI]; exact hz)]
      have hv : bsS L c (k + 1) = bsV L c k := by
        unfold bsV
        by_cases hp : 0 < bsS L c (k + 1)
        · rw [if_pos hp]
        · rw [if_neg hp]
          apply Int64.toInt_inj.mp
          rw [i64_lt] at hz hp
          omega
      refine ⟨?_, fun y hy => ?_, fun a ha => ?_⟩
      · show (0 : Int64) = _
        by_cases hp : 0 < bsS L c (k + 1)
        · rw [if_pos hp]
        · rw [if_neg hp]
          apply Int64.toInt_inj.mp
          rw [i64_lt] at hz hp
          omega
      · show up2 (byS X k).2 23 k _ 23 y = _
        by_cases hyk : y = k
        · subst hyk
          rw [up2_s, eI, hv]
        · rw [up2_i hyk]
          exact r2 y (by omega)
      · show up2 (byS X k).2 23 k _ a = _
        rw [up2_a ha, r3 a ha]
/-- what the class keeps of a client: what its trades, found anew, say -/
def gnOK (n : Nat) (I : zIA) (L : zLA) (c : Nat) : Prop := (∀ i, i < n → dN (I 11 i) = c → L 31 i = flS I L c n 31 i ∧ L 32 i = flS I L c n 32 i) ∧ ∀ y, y < 21 → L 30 (21 * c + y) = flS I L c n 30 (21 * c + y)
theorem bsS_c {L L' : zLA} {c : Nat} (n : Nat) (h : ∀ y, y < n → L 30 (21 * c + y) = L' 30 (21 * c + y)) : ∀ k, k ≤ n → bsS L c k = bsS L' c k
  | 0, _ => rfl
  | k + 1, hk => by
    show (if 0 < bsS L c k then 0 else bsS L c k) + L 30 (21 * c + k) = (if 0 < bsS L' c k then 0 else bsS L' c k) + L' 30 (21 * c + k)
    rw [bsS_c n h k (by omega), h k (by omega)]
theorem bsV_c {L L' : zLA} {c y : Nat} (h : ∀ z, z ≤ y → L 30 (21 * c + z) = L' 30 (21 * c + z)) : bsV L c y = bsV L' c y := by
  unfold bsV
  rw [bsS_c (y + 1) (fun z hz => h z (by omega)) (y + 1) (Nat.le_refl _)]
/-- the reference's years, of a client whose gains the class keeps -/
theorem years_rel (hS : shOK) {I I' : zIA} {L s : zLA} {c nl n : Nat} (hc : c < 12) (hO : trOK n I L) (h17 : ∀ a, a ≠ 19 → I' a = I a) (hs : ∀ a, a = 13 ∨ a = 14 ∨ a = 15 → s a = L a) (hg : ∀ y, y < 21 → L 30 (21 * c + y) = flS I L c n 30 (21 * c + y)) :
    (∀ y, y < 21 → (yearsS (nl, I', s) c n).2.2 22 y = L 30 (21 * c + y) ∧ (yearsS (nl, I', s) c n).2.2 23 y = bsV L c y) ∧ (∀ a, a ≠ 20 → a ≠ 21 → a ≠ 22 → a ≠ 23 → (yearsS (nl, I', s) c n).2.2 a = s a) ∧ ∀ a, a ≠ 19 → (yearsS (nl, I', s) c n).2.1 a = I a := by
  obtain ⟨n6, h6⟩ : ∃ k : Nat, k = 6 := ⟨6, rfl⟩
  obtain ⟨n21, h21⟩ : ∃ k : Nat, k = 21 := ⟨21, rfl⟩
  rw [yearsS_v h6 h21]
  obtain ⟨r1, r2, r3⟩ := fs_rel hS (nl := nl) (s := zrS s n21) (n6 := n6) hc (by omega) hO h17 (fun a ha => by rw [zrS_a (by omega), hs a ha]) n6 (Nat.le_refl n6)
  have h22 : ∀ y, y < n21 → (fsS (nl, I', zrS s n21) c n n6).2.2 22 y = L 30 (21 * c + y) := by
    intro y hy
    rw [r1 y, zrS_22, if_pos hy, Int64.zero_add, hg y (by omega), flS_sum (n6 := n6) (n := n) (fun t ht => by have := (hO t ht).2.1.2; omega) (by omega) (fun t ht => by have := (hO t ht).2.2.1.2; omega) n (Nat.le_refl n)]
  obtain ⟨-, q2, q3⟩ := by_rel (c := c) h22 n21 (Nat.le_refl n21)
  refine ⟨fun y hy => ⟨?_, q2 y (by omega)⟩, fun a h1 h2 h3 h4 => ?_, r3⟩
  · show (byS (fsS (nl, I', zrS s n21) c n n6).2.2 n21).2 22 y = _
    rw [q3 22 (by decide), h22 y (by omega)]
  · show (byS (fsS (nl, I', zrS s n21) c n n6).2.2 n21).2 a = _
    rw [q3 a h4, r2 a h1 h2 h3, zrS_a h3]
/-- a lot that is asked for -/
theorem lt_rel {I J : zIA} {L s : zLA} {c f n : Nat} {rank what : Int32} (hn : n ≤ 1000) (h : ∀ i, i < n → lotH I L c f i → J 19 (cntH I L c f i) = nI i ∧ s 20 (cntH I L c f i) = L 31 i ∧ s 21 (cntH I L c f i) = L 32 i) (h0 : ∀ i, i < n → isH I c f i → ¬ lotH I L c f i → L 31 i = 0) :
    ∀ k, k ≤ n → (ltS J s rank what (cntH I L c f k)).1 = lcN I L c f k ∧ (ltS J s rank what (cntH I L c f k)).2 = (lfS I L c f rank what k).getD (-1) ∧ (lfS I L c f rank what k ≠ none → ∃ z, z < lcN I L c f k ∧ nI z = rank)
  | 0, _ => ⟨rfl, rfl, fun z => absurd rfl z⟩
  | k + 1, hk => by
    obtain ⟨r1, r2, r3⟩ := lt_rel (rank := rank) (what := what) hn h h0 k (by omega)
    have hsame : ∀ (hz : ¬ isL I L c f k), lfS I L c f rank what (k + 1) = lfS I L c f rank what k := by
      intro hz
      cases e : lfS I L c f rank what k with
      | none => exact lfS_n e (fun z => hz z.1)
      | some v => exact lfS_stay e 1
    by_cases hl : lotH I L c f k
    · obtain ⟨q1, q2, q3⟩ := h k (by omega) hl
      rw [cntH_p hl]
      by_cases hp : 0 < L 31 k
      · have hL : isL I L c f k := ⟨hl.1, hp⟩
        have hp2 : 0 < s 20 (cntH I L c f k) := by rw [q2]; exact hp
        rw [lcN_p hL]
        by_cases hr : nI (lcN I L c f k) = rank
        · have hnone : lfS I L c f rank what k = none := by
            cases e : lfS I L c f rank what k with
            | none => rfl
            | some v =>
              obtain ⟨z, hz1, hz2⟩ := r3 (by rw [e]; intro q; cases q)
              have hle := lcN_le (I := I) (L := L) (c := c) (f := f) k
              have := (nI_eq (by omega) (by omega)).mp (hz2.trans hr.symm)
              omega
          have hv : ltV J s what (cntH I L c f k) = lvC L what k := by
            unfold ltV lvC
            rw [q1, q2, q3]
          rw [ltS_p hp2 (by rw [r1]; exact hr) hv, lfS_s hnone hL hr]
          refine ⟨by rw [r1], rfl, fun _ => ⟨lcN I L c f k, Nat.lt_succ_self _, hr⟩⟩
        · have hs2 : lfS I L c f rank what (k + 1) = lfS I L c f rank what k := by
            cases e : lfS I L c f rank what k with
            | none => exact lfS_n e (fun z => hr z.2)
            | some v => exact lfS_stay e 1
          rw [ltS_q hp2 (by rw [r1]; exact hr), hs2]
          refine ⟨by rw [r1], r2, fun z => ?_⟩
          obtain ⟨z1, z2, z3⟩ := r3 z
          exact ⟨z1, by omega, z3⟩
      · have hL : ¬ isL I L c f k := fun z => hp z.2
        rw [ltS_n (by rw [q2]; exact hp), lcN_n hL, hsame hL]
        exact ⟨r1, r2, r3⟩
    · have hL : ¬ isL I L c f k := fun z => by
        have := h0 k (by omega) z.1 hl
        have z2 := z.2
        rw [this] at z2
        exact absurd z2 (by decide)
      rw [cntH_n hl, lcN_n hL, hsame hL]
      exact ⟨r1, r2, r3⟩
