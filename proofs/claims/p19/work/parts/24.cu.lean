/-! ===== one place of one object changes ===== -/
section CU2
variable {cA : Nat → ClassId} {g0 : Nat} {ad : zk_K → Nat} {nf lc nc hl nt dy : Nat} {mo : Int64} {I : zIA} {L : zLA}
theorem cu_price (f : Nat) (x : Int32) : zk_up (cw cA g0 ad nf lc nc hl nt dy mo I L) (7, f, 0) (.inr (2, [.int (nI f), .int x, .long (L 2 f), .long (L 3 f)])) (cw cA g0 ad nf lc nc hl nt dy mo (up2 I 1 f x) L) := by
  refine ⟨rfl, rfl, ?_, fun k hk hv => ?_⟩
  · show cFund (up2 I 1 f x) L f = _
    unfold cFund
    rw [up2_s]
  · obtain ⟨a, b, d⟩ := k
    by_cases h0 : a = 7
    · subst h0
      have hv2 : b < nf ∧ d = 0 := hv
      have hb : b ≠ f := fun z => hk (by rw [z, hv2.2])
      show cFund (up2 I 1 f x) L b = cFund I L b
      unfold cFund
      simp only [up2_i hb]
    · show cEnt cA g0 ad nf lc nc hl nt dy mo (up2 I 1 f x) L (a, b, d) = cEnt cA g0 ad nf lc nc hl nt dy mo I L (a, b, d)
      unfold cEnt
      split <;> first | rfl | (rename_i h; exact absurd h h0) | simp [cFund, cCli, cHol, cTra, cYears, up2]
theorem cu_units (f : Nat) (x : Int64) : zk_up (cw cA g0 ad nf lc nc hl nt dy mo I L) (7, f, 0) (.inr (2, [.int (nI f), .int (I 1 f), .long x, .long (L 3 f)])) (cw cA g0 ad nf lc nc hl nt dy mo I (up2 L 2 f x)) := by
  refine ⟨rfl, rfl, ?_, fun k hk hv => ?_⟩
  · show cFund I (up2 L 2 f x) f = _
    unfold cFund
    rw [up2_s, up2_ne (show (3 : Nat) ≠ 2 by decide)]
  · obtain ⟨a, b, d⟩ := k
    by_cases h0 : a = 7
    · subst h0
      have hv2 : b < nf ∧ d = 0 := hv
      have hb : b ≠ f := fun z => hk (by rw [z, hv2.2])
      show cFund I (up2 L 2 f x) b = cFund I L b
      unfold cFund
      simp only [up2_i hb]
    · show cEnt cA g0 ad nf lc nc hl nt dy mo I (up2 L 2 f x) (a, b, d) = cEnt cA g0 ad nf lc nc hl nt dy mo I L (a, b, d)
      unfold cEnt
      split <;> first | rfl | (rename_i h; exact absurd h h0) | simp [cFund, cCli, cHol, cTra, cYears, up2]
theorem cu_stock (f : Nat) (x : Int64) : zk_up (cw cA g0 ad nf lc nc hl nt dy mo I L) (7, f, 0) (.inr (2, [.int (nI f), .int (I 1 f), .long (L 2 f), .long x])) (cw cA g0 ad nf lc nc hl nt dy mo I (up2 L 3 f x)) := by
  refine ⟨rfl, rfl, ?_, fun k hk hv => ?_⟩
  · show cFund I (up2 L 3 f x) f = _
    unfold cFund
    rw [up2_s, up2_ne (show (2 : Nat) ≠ 3 by decide)]
  · obtain ⟨a, b, d⟩ := k
    by_cases h0 : a = 7
    · subst h0
      have hv2 : b < nf ∧ d = 0 := hv
      have hb : b ≠ f := fun z => hk (by rw [z, hv2.2])
      show cFund I (up2 L 3 f x) b = cFund I L b
      unfold cFund
      simp only [up2_i hb]
    · show cEnt cA g0 ad nf lc nc hl nt dy mo I (up2 L 3 f x) (a, b, d) = cEnt cA g0 ad nf lc nc hl nt dy mo I L (a, b, d)
      unfold cEnt
      split <;> first | rfl | (rename_i h; exact absurd h h0) | simp [cFund, cCli, cHol, cTra, cYears, up2]
theorem cu_cash (c : Nat) (x : Int64) : zk_up (cw cA g0 ad nf lc nc hl nt dy mo I L) (8, c, 0) (.inr (1, [.int (nI c), .ref (ad (9, c, 0)), .ref (ad (11, c, 0)), .ref (ad (12, c, 0)), .long x])) (cw cA g0 ad nf lc nc hl nt dy mo I (up2 L 6 c x)) := by
  refine ⟨rfl, rfl, ?_, fun k hk hv => ?_⟩
  · show cCli ad (up2 L 6 c x) c = _
    unfold cCli
    rw [up2_s]
  · obtain ⟨a, b, d⟩ := k
    by_cases h0 : a = 8
    · subst h0
      have hv2 : b < lc ∧ d = 0 := hv
      have hb : b ≠ c := fun z => hk (by rw [z, hv2.2])
      show cCli ad (up2 L 6 c x) b = cCli ad L b
      unfold cCli
      simp only [up2_i hb]
    · show cEnt cA g0 ad nf lc nc hl nt dy mo I (up2 L 6 c x) (a, b, d) = cEnt cA g0 ad nf lc nc hl nt dy mo I L (a, b, d)
      unfold cEnt
      split <;> first | rfl | (rename_i h; exact absurd h h0) | simp [cFund, cCli, cHol, cTra, cYears, up2]
theorem cu_parts (c f : Nat) (x : Int64) (hf : f < 6) (hh : hl ≤ 6) : zk_up (cw cA g0 ad nf lc nc hl nt dy mo I L) (13, c, f) (.inr (3, [.ref (ad (8, c, 0)), .ref (ad (7, f, 0)), .long x, .int (I 7 (6 * c + f))])) (cw cA g0 ad nf lc nc hl nt dy mo I (up2 L 8 (6 * c + f) x)) := by
  refine ⟨rfl, rfl, ?_, fun k hk hv => ?_⟩
  · show cHol ad I (up2 L 8 (6 * c + f) x) c f = _
    unfold cHol
    rw [up2_s]
  · obtain ⟨a, b, d⟩ := k
    by_cases h0 : a = 13
    · subst h0
      have hv2 : b < lc ∧ d < nh lc hl b := hv
      have hd : d < 6 := by have := hv2.2; unfold nh at this; split at this <;> omega
      have hb : 6 * b + d ≠ 6 * c + f := fun z => hk (by rw [show b = c by omega, show d = f by omega])
      show cHol ad I (up2 L 8 (6 * c + f) x) b d = cHol ad I L b d
      unfold cHol
      simp only [up2_i hb]
    · show cEnt cA g0 ad nf lc nc hl nt dy mo I (up2 L 8 (6 * c + f) x) (a, b, d) = cEnt cA g0 ad nf lc nc hl nt dy mo I L (a, b, d)
      unfold cEnt
      split <;> first | rfl | (rename_i h; exact absurd h h0) | simp [cFund, cCli, cHol, cTra, cYears, up2]
theorem cu_hund (c f : Nat) (x : Int32) (hf : f < 6) (hh : hl ≤ 6) : zk_up (cw cA g0 ad nf lc nc hl nt dy mo I L) (13, c, f) (.inr (3, [.ref (ad (8, c, 0)), .ref (ad (7, f, 0)), .long (L 8 (6 * c + f)), .int x])) (cw cA g0 ad nf lc nc hl nt dy mo (up2 I 7 (6 * c + f) x) L) := by
  refine ⟨rfl, rfl, ?_, fun k hk hv => ?_⟩
  · show cHol ad (up2 I 7 (6 * c + f) x) L c f = _
    unfold cHol
    rw [up2_s]
  · obtain ⟨a, b, d⟩ := k
    by_cases h0 : a = 13
    · subst h0
      have hv2 : b < lc ∧ d < nh lc hl b := hv
      have hd : d < 6 := by have := hv2.2; unfold nh at this; split at this <;> omega
      have hb : 6 * b + d ≠ 6 * c + f := fun z => hk (by rw [show b = c by omega, show d = f by omega])
      show cHol ad (up2 I 7 (6 * c + f) x) L b d = cHol ad I L b d
      unfold cHol
      simp only [up2_i hb]
    · show cEnt cA g0 ad nf lc nc hl nt dy mo (up2 I 7 (6 * c + f) x) L (a, b, d) = cEnt cA g0 ad nf lc nc hl nt dy mo I L (a, b, d)
      unfold cEnt
      split <;> first | rfl | (rename_i h; exact absurd h h0) | simp [cFund, cCli, cHol, cTra, cYears, up2]
theorem cu_stands (t : Nat) (x : Int32) : zk_up (cw cA g0 ad nf lc nc hl nt dy mo I L) (14, t, 0) (.inr (4, [.int (nI t), .ref (ad (13, dN (I 11 t), dN (I 12 t))), .int (I 16 t), .long (L 13 t), .long (L 14 t), .long (L 15 t), .int x, .long (L 31 t), .long (L 32 t)])) (cw cA g0 ad nf lc nc hl nt dy mo (up2 I 17 t x) L) := by
  refine ⟨rfl, rfl, ?_, fun k hk hv => ?_⟩
  · show cTra ad (up2 I 17 t x) L t = _
    unfold cTra
    rw [up2_s, up2_ne (show (11 : Nat) ≠ 17 by decide), up2_ne (show (12 : Nat) ≠ 17 by decide), up2_ne (show (16 : Nat) ≠ 17 by decide)]
  · obtain ⟨a, b, d⟩ := k
    by_cases h0 : a = 14
    · subst h0
      have hv2 : b < nt ∧ d = 0 := hv
      have hb : b ≠ t := fun z => hk (by rw [z, hv2.2])
      show cTra ad (up2 I 17 t x) L b = cTra ad I L b
      unfold cTra
      simp only [up2_i hb]
    · show cEnt cA g0 ad nf lc nc hl nt dy mo (up2 I 17 t x) L (a, b, d) = cEnt cA g0 ad nf lc nc hl nt dy mo I L (a, b, d)
      unfold cEnt
      split <;> first | rfl | (rename_i h; exact absurd h h0) | (exfalso; revert hv; show cLive nf lc nc hl nt (a, b, d) → False; unfold cLive; split <;> simp_all)
theorem cu_pl (t : Nat) (x : Int64) : zk_up (cw cA g0 ad nf lc nc hl nt dy mo I L) (14, t, 0) (.inr (4, [.int (nI t), .ref (ad (13, dN (I 11 t), dN (I 12 t))), .int (I 16 t), .long (L 13 t), .long (L 14 t), .long (L 15 t), .int (I 17 t), .long x, .long (L 32 t)])) (cw cA g0 ad nf lc nc hl nt dy mo I (up2 L 31 t x)) := by
  refine ⟨rfl, rfl, ?_, fun k hk hv => ?_⟩
  · show cTra ad I (up2 L 31 t x) t = _
    unfold cTra
    rw [up2_s, up2_ne (show (13 : Nat) ≠ 31 by decide), up2_ne (show (14 : Nat) ≠ 31 by decide), up2_ne (show (15 : Nat) ≠ 31 by decide), up2_ne (show (32 : Nat) ≠ 31 by decide)]
  · obtain ⟨a, b, d⟩ := k
    by_cases h0 : a = 14
    · subst h0
      have hv2 : b < nt ∧ d = 0 := hv
      have hb : b ≠ t := fun z => hk (by rw [z, hv2.2])
      show cTra ad I (up2 L 31 t x) b = cTra ad I L b
      unfold cTra
      simp only [up2_i hb]
    · show cEnt cA g0 ad nf lc nc hl nt dy mo I (up2 L 31 t x) (a, b, d) = cEnt cA g0 ad nf lc nc hl nt dy mo I L (a, b, d)
      unfold cEnt
      split <;> first | rfl | (rename_i h; exact absurd h h0) | (exfalso; revert hv; show cLive nf lc nc hl nt (a, b, d) → False; unfold cLive; split <;> simp_all)
theorem cu_cl (t : Nat) (x : Int64) : zk_up (cw cA g0 ad nf lc nc hl nt dy mo I L) (14, t, 0) (.inr (4, [.int (nI t), .ref (ad (13, dN (I 11 t), dN (I 12 t))), .int (I 16 t), .long (L 13 t), .long (L 14 t), .long (L 15 t), .int (I 17 t), .long (L 31 t), .long x])) (cw cA g0 ad nf lc nc hl nt dy mo I (up2 L 32 t x)) := by
  refine ⟨rfl, rfl, ?_, fun k hk hv => ?_⟩
  · show cTra ad I (up2 L 32 t x) t = _
    unfold cTra
    rw [up2_s, up2_ne (show (13 : Nat) ≠ 32 by decide), up2_ne (show (14 : Nat) ≠ 32 by decide), up2_ne (show (15 : Nat) ≠ 32 by decide), up2_ne (show (31 : Nat) ≠ 32 by decide)]
  · obtain ⟨a, b, d⟩ := k
    by_cases h0 : a = 14
    · subst h0
      have hv2 : b < nt ∧ d = 0 := hv
      have hb : b ≠ t := fun z => hk (by rw [z, hv2.2])
      show cTra ad I (up2 L 32 t x) b = cTra ad I L b
      unfold cTra
      simp only [up2_i hb]
    · show cEnt cA g0 ad nf lc nc hl nt dy mo I (up2 L 32 t x) (a, b, d) = cEnt cA g0 ad nf lc nc hl nt dy mo I L (a, b, d)
      unfold cEnt
      split <;> first | rfl | (rename_i h; exact absurd h h0) | (exfalso; revert hv; show cLive nf lc nc hl nt (a, b, d) → False; unfold cLive; split <;> simp_all)
theorem cu_gain (c y : Nat) (x : Int64) (hy : y < 21) : zk_up (cw cA g0 ad nf lc nc hl nt dy mo I L) (11, c, 0) (.inl (cA 1, 21, .inr (.inl (vp_updL (fun y => if y < 21 then L 30 (21 * c + y) else 0) y x)))) (cw cA g0 ad nf lc nc hl nt dy mo I (up2 L 30 (21 * c + y) x)) := by
  refine ⟨rfl, rfl, ?_, fun k hk hv => ?_⟩
  · show cYears cA (up2 L 30 (21 * c + y) x) 30 c = _
    have hF : (fun z => if z < 21 then up2 L 30 (21 * c + y) x 30 (21 * c + z) else 0) = vp_updL (fun z => if z < 21 then L 30 (21 * c + z) else 0) y x := by
      funext z
      by_cases h1 : z = y
      · subst h1; simp [vp_updL, up2, hy]
      · have : 21 * c + z ≠ 21 * c + y := by omega
        simp only [vp_updL, if_neg h1, up2_i this]
    unfold cYears
    rw [hF]
  · obtain ⟨a, b, d⟩ := k
    by_cases h0 : a = 11
    · subst h0
      have hv2 : b < lc ∧ d = 0 := hv
      have hb : b ≠ c := fun z => hk (by rw [z, hv2.2])
      show cYears cA (up2 L 30 (21 * c + y) x) 30 b = cYears cA L 30 b
      have hF : (fun z => if z < 21 then up2 L 30 (21 * c + y) x 30 (21 * b + z) else 0) = (fun z => if z < 21 then L 30 (21 * b + z) else 0) := by
        funext z
        by_cases h1 : z < 21
        · rw [if_pos h1, if_pos h1, up2_i (by omega)]
        · rw [if_neg h1, if_neg h1]
      unfold cYears
      rw [hF]
    · show cEnt cA g0 ad nf lc nc hl nt dy mo I (up2 L 30 (21 * c + y) x) (a, b, d) = cEnt cA g0 ad nf lc nc hl nt dy mo I L (a, b, d)
      unfold cEnt
      split <;> first | rfl | (rename_i h; exact absurd h h0) | simp [cFund, cCli, cHol, cTra, cYears, up2] | skip
theorem cu_tax (c y : Nat) (x : Int64) (hy : y < 21) : zk_up (cw cA g0 ad nf lc nc hl nt dy mo I L) (12, c, 0) (.inl (cA 1, 21, .inr (.inl (vp_updL (fun y => if y < 21 then L 9 (21 * c + y) else 0) y x)))) (cw cA g0 ad nf lc nc hl nt dy mo I (up2 L 9 (21 * c + y) x)) := by
  refine ⟨rfl, rfl, ?_, fun k hk hv => ?_⟩
  · show cYears cA (up2 L 9 (21 * c + y) x) 9 c = _
    have hF : (fun z => if z < 21 then up2 L 9 (21 * c + y) x 9 (21 * c + z) else 0) = vp_updL (fun z => if z < 21 then L 9 (21 * c + z) else 0) y x := by
      funext z
      by_cases h1 : z = y
      · subst h1; simp [vp_updL, up2, hy]
      · have : 21 * c + z ≠ 21 * c + y := by omega
        simp only [vp_updL, if_neg h1, up2_i this]
    unfold cYears
    rw [hF]
  · obtain ⟨a, b, d⟩ := k
    by_cases h0 : a = 12
    · subst h0
      have hv2 : b < lc ∧ d = 0 := hv
      have hb : b ≠ c := fun z => hk (by rw [z, hv2.2])
      show cYears cA (up2 L 9 (21 * c + y) x) 9 b = cYears cA L 9 b
      have hF : (fun z => if z < 21 then up2 L 9 (21 * c + y) x 9 (21 * b + z) else 0) = (fun z => if z < 21 then L 9 (21 * b + z) else 0) := by
        funext z
        by_cases h1 : z < 21
        · rw [if_pos h1, if_pos h1, up2_i (by omega)]
        · rw [if_neg h1, if_neg h1]
      unfold cYears
      rw [hF]
    · show cEnt cA g0 ad nf lc nc hl nt dy mo I (up2 L 9 (21 * c + y) x) (a, b, d) = cEnt cA g0 ad nf lc nc hl nt dy mo I L (a, b, d)
      unfold cEnt
      split <;> first | rfl | (rename_i h; exact absurd h h0) | simp [cFund, cCli, cHol, cTra, cYears, up2] | skip
end CU2
