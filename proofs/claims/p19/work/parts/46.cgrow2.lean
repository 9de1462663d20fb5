/-! ===== the class's world grows: a holding, a client in the list, a fund, the hall ===== -/
section CB
variable {cA : Nat → ClassId} {g0 : Nat} {ad : zk_K → Nat} {nc nt dy : Nat} {mo : Int64} {I : zIA} {L : zLA}
def hdW (cA : Nat → ClassId) (g0 : Nat) (ad : zk_K → Nat) (nc i nt dy : Nat) (mo : Int64) (I : zIA) (L : zLA) (o : Nat) (e0 : va_E) : zk_W := zk_se (zk_ext (cw cA g0 ad 6 (nc + 1) nc i nt dy mo I L) (13, nc, i) o e0) (13, nc, i) (.inr (3, [.ref (ad (8, nc, 0)), .ref (ad (7, i, 0)), .long 0, .int 0]))
theorem hdW_el {i o : Nat} {e0 : va_E} : zEl (hdW cA g0 ad nc i nt dy mo I L o e0) o := ⟨(13, nc, i), 3, _, Or.inl rfl, zk_ad_s _ _ _, zk_se_s _ _ _, Or.inr (Or.inr (Or.inl rfl))⟩
theorem hdW_n {i o a b c : Nat} {e0 : va_E} (h : a ≠ 13) : (hdW cA g0 ad nc i nt dy mo I L o e0).2.2 (a, b, c) = cEnt cA g0 ad 6 (nc + 1) nc i nt dy mo I L (a, b, c) := (zk_se_n (zne (fun z => h z.1))).trans (zk_ext_n (zne (fun z => h z.1)))
theorem hdW_a {i o a b c : Nat} {e0 : va_E} (h : ¬ (a = 13 ∧ b = nc ∧ c = i)) : (hdW cA g0 ad nc i nt dy mo I L o e0).1 (a, b, c) = ad (a, b, c) := zk_ad_n (zne h)
theorem hdW_lst {i o : Nat} {e0 : va_E} (hi : i < 6) : zLst (cA 3) g0 (hdW cA g0 ad nc i nt dy mo I L o e0) (9, nc, 0) (10, nc, 0) i (capL i) (cFs (hdW cA g0 ad nc i nt dy mo I L o e0).1 (fun j => (13, nc, j)) i) := by
  refine zLst_of (cA := cA) (9, nc, 0) (10, nc, 0) (fun j => (13, nc, j)) i (zne (by omega)) (Or.inr ⟨Nat.lt_succ_self _, rfl⟩) ?_ (fun h => ⟨Or.inr ⟨Nat.lt_succ_self _, rfl, ?_⟩, ?_⟩) (fun h z => ?_) (fun j hj => ?_) (by omega)
  · rw [hdW_n (by decide)]
    show cList ad g0 (nh (nc + 1) i nc) (10, nc, 0) = _
    unfold cList
    rw [nh_s, hdW_a (by omega)]
  · show 0 < nh (nc + 1) i nc
    rw [nh_s]
    exact h
  · rw [hdW_n (by decide)]
    show cRow cA ad (fun j => (13, nc, j)) (nh (nc + 1) i nc) = _
    unfold cRow
    rw [nh_s, cFs_cong (ad' := (hdW cA g0 ad nc i nt dy mo I L o e0).1) (ad := ad) (fun j hj => hdW_a (by omega))]
  · rcases z with z | z
    · exact absurd z (zne (by omega))
    · exact absurd (show 0 < nh (nc + 1) i nc from z.2.2) (by rw [nh_s]; omega)
  · refine ⟨(13, nc, j), 3, [.ref (ad (8, nc, 0)), .ref (ad (7, j, 0)), .long (L 8 (6 * nc + j)), .int (I 7 (6 * nc + j))], Or.inr ⟨Nat.lt_succ_self _, ?_⟩, rfl, ?_, Or.inr (Or.inr (Or.inl rfl))⟩
    · show j < nh (nc + 1) i nc
      rw [nh_s]
      exact hj
    · exact (zk_se_n (zne (by omega))).trans (zk_ext_n (zne (by omega)))
theorem hdW_add {i o q : Nat} {e0 : va_E} (hi : i < 6) (hB : zBey nc I L) (h11 : ∀ t, t < nt → dN (I 11 t) < nc) :
    zk_sb (zk_add (cA 3) (hdW cA g0 ad nc i nt dy mo I L o e0) (9, nc, 0) (10, nc, 0) q i (capN i (capL i)) (va_up (cFs (hdW cA g0 ad nc i nt dy mo I L o e0).1 (fun j => (13, nc, j)) i) i (some o)))
      (cw cA g0 (zk_ad (zk_ad ad (13, nc, i) o) (10, nc, 0) q) 6 (nc + 1) nc (i + 1) nt dy mo I L) := by
  have hab : ∀ x y z : Nat, ¬ (x = 13 ∧ y = nc ∧ z = i) → ¬ (x = 10 ∧ y = nc) → zk_ad (zk_ad ad (13, nc, i) o) (10, nc, 0) q (x, y, z) = ad (x, y, z) := by
    intro x y z h h2
    rw [zk_ad_n (zne (by omega)), zk_ad_n (zne h)]
  refine zk_add_cw rfl (Or.inr ⟨Nat.lt_succ_self _, rfl⟩) (zne (by omega)) ?_ ?_ (fun k hkl hkr hk => ?_)
  · show cList _ g0 (nh (nc + 1) (i + 1) nc) (10, nc, 0) = _
    rw [nh_s, cList_s, zk_ad_s]
  · show cRow cA _ (fun j => (13, nc, j)) (nh (nc + 1) (i + 1) nc) = _
    unfold cRow
    rw [nh_s, capL_s i (by omega), cFs_up (kf := fun j => (13, nc, j)) (n := i) (ad' := zk_ad (zk_ad ad (13, nc, i) o) (10, nc, 0) q) (ad := (hdW cA g0 ad nc i nt dy mo I L o e0).1) (o := o) (fun j hj => zk_ad_n (zne (by omega))) ((zk_ad_n (zne (by omega))).trans (zk_ad_s _ _ _))]
  · obtain ⟨a, b, c⟩ := k
    by_cases h13 : a = 13 ∧ b = nc ∧ c = i
    · obtain ⟨rfl, rfl, rfl⟩ := h13
      refine ⟨Or.inl rfl, Eq.trans ?_ (zk_se_s _ _ _).symm⟩
      show cHol _ I L b c = _
      unfold cHol
      rw [hab 8 b 0 (by omega) (by omega), hab 7 c 0 (by omega) (by omega), ((hB b (Nat.le_refl _)).2.2 c hi).1, ((hB b (Nat.le_refl _)).2.2 c hi).2]
    · have h14 := live14 hk
      have hb9 : a = 9 ∨ a = 10 → b ≠ nc := by
        intro h z
        subst z
        rcases h with rfl | rfl
        · exact hkl (by rw [show c = 0 from hk.2])
        · exact hkr (by rw [show c = 0 from hk.2.1])
      have hlv : cLive 6 (nc + 1) nc i nt (a, b, c) := by
        match a, hk, h14, hb9, h13 with
        | 0, hk, _, _, _ | 1, hk, _, _, _ | 2, hk, _, _, _ | 3, hk, _, _, _ | 4, hk, _, _, _ | 5, hk, _, _, _ | 6, hk, _, _, _ | 7, hk, _, _, _ | 8, hk, _, _, _ | 9, hk, _, _, _ | 11, hk, _, _, _ | 12, hk, _, _, _ | 14, hk, _, _, _ => exact hk
        | 10, hk, _, hb9, _ =>
          obtain ⟨x, y, z⟩ := hk
          refine ⟨x, y, ?_⟩
          show 0 < nh (nc + 1) i b
          rw [nh_n (hb9 (Or.inr rfl))]
          decide
        | 13, hk, _, _, h13 =>
          obtain ⟨x, z⟩ := hk
          refine ⟨x, ?_⟩
          have z2 : c < nh (nc + 1) (i + 1) b := z
          show c < nh (nc + 1) i b
          by_cases hb : b = nc
          · subst hb
            rw [nh_s] at z2 ⊢
            omega
          · rw [nh_n hb] at z2 ⊢
            exact z2
      refine ⟨Or.inr hlv, Eq.trans ?_ ((zk_se_n (zne h13)).trans (zk_ext_n (zne h13))).symm⟩
      refine cEnt_par (nf := 6) (lc := nc + 1) (nc := nc) (hl := i) (nt := nt) (nf' := 6) (lc' := nc + 1) (nc' := nc) (hl' := i + 1) (nt' := nt) a b c (live14 hk) (fun _ => rfl) (fun _ => rfl) (fun _ => rfl) (fun h => by rw [nh_n (hb9 h), nh_n (hb9 h)]) (fun k' hd => ?_)
      match a, hlv, hd, h14, hb9 with
      | 0, _, hd, _, _ => rcases hd with rfl | rfl | rfl <;> exact hab _ _ _ (by omega) (by omega)
      | 1, _, hd, _, _ | 2, _, hd, _, _ | 3, _, hd, _, _ => cases (show k' = _ from hd); exact hab _ _ _ (by omega) (by omega)
      | 4, _, hd, _, _ => obtain ⟨j, hj, rfl⟩ := hd; exact hab _ _ _ (by omega) (by omega)
      | 5, _, hd, _, _ => obtain ⟨j, hj, rfl⟩ := hd; exact hab _ _ _ (by omega) (by omega)
      | 6, _, hd, _, _ => obtain ⟨j, hj, rfl⟩ := hd; exact hab _ _ _ (by omega) (by omega)
      | 7, _, hd, _, _ | 11, _, hd, _, _ | 12, _, hd, _, _ => exact (show False from hd).elim
      | 8, _, hd, _, _ => rcases hd with rfl | rfl | rfl <;> exact hab _ _ _ (by omega) (by omega)
      | 9, _, hd, _, hb9 =>
        have hb := hb9 (Or.inl rfl)
        cases (show k' = _ from hd); exact hab _ _ _ (by omega) (by dsimp only; omega)
      | 10, _, hd, _, hb9 =>
        have hb := hb9 (Or.inr rfl)
        obtain ⟨j, hj, rfl⟩ := hd; exact hab _ _ _ (by dsimp only; omega) (by omega)
      | 13, _, hd, _, _ => rcases hd with rfl | rfl <;> exact hab _ _ _ (by omega) (by omega)
      | 14, hlv, hd, _, _ =>
        have hb := h11 b hlv.1
        cases (show k' = _ from hd); exact hab _ _ _ (by dsimp only; omega) (by omega)
theorem cl_lst (hnc : nc ≤ 12) : zLst (cA 3) g0 (cw cA g0 ad 6 (nc + 1) nc 6 nt dy mo I L) (2, 0, 0) (5, 0, 0) nc (capL nc) (cFs (cw cA g0 ad 6 (nc + 1) nc 6 nt dy mo I L).1 (fun j => (8, j, 0)) nc) := by
  refine zLst_of (cA := cA) (2, 0, 0) (5, 0, 0) (fun j => (8, j, 0)) nc (by decide) rfl rfl (fun h => ⟨⟨rfl, h⟩, rfl⟩) (fun h z => absurd (show 0 < nc from z.2) (by omega)) (fun j hj => ?_) (by omega)
  exact ⟨(8, j, 0), 1, [.int (nI j), .ref (ad (9, j, 0)), .ref (ad (11, j, 0)), .ref (ad (12, j, 0)), .long (L 6 j)], ⟨Nat.lt_succ_of_lt hj, rfl⟩, rfl, rfl, Or.inl rfl⟩
theorem cl_add {q : Nat} (hnc : nc ≤ 12) : zk_sb (zk_add (cA 3) (cw cA g0 ad 6 (nc + 1) nc 6 nt dy mo I L) (2, 0, 0) (5, 0, 0) q nc (capN nc (capL nc)) (va_up (cFs (cw cA g0 ad 6 (nc + 1) nc 6 nt dy mo I L).1 (fun j => (8, j, 0)) nc) nc (some (ad (8, nc, 0)))))
      (cw cA g0 (zk_ad ad (5, 0, 0) q) 6 (nc + 1) (nc + 1) 6 nt dy mo I L) := by
  have hab : ∀ x y z : Nat, x ≠ 5 → zk_ad ad (5, 0, 0) q (x, y, z) = ad (x, y, z) := fun x y z h => zk_ad_n (zne (fun z => h z.1))
  refine zk_add_cw rfl rfl (by decide) ?_ ?_ (fun k hkl hkr hk => ?_)
  · show cList _ g0 (nc + 1) (5, 0, 0) = _
    rw [cList_s, zk_ad_s]
  · show cRow cA _ (fun j => (8, j, 0)) (nc + 1) = _
    unfold cRow
    rw [capL_s nc (by omega), cFs_up (kf := fun j => (8, j, 0)) (n := nc) (ad' := zk_ad ad (5, 0, 0) q) (ad := ad) (o := ad (8, nc, 0)) (fun j hj => hab _ _ _ (by decide)) (hab _ _ _ (by decide))]
    rfl
  · obtain ⟨a, b, c⟩ := k
    have h14 := live14 hk
    have h5 : a ≠ 5 := fun z => by
      subst z
      exact hkr (congrArg (Prod.mk 5) (show (b, c) = (0, 0) from hk.1))
    have h2 : a ≠ 2 := fun z => by
      subst z
      exact hkl (congrArg (Prod.mk 2) (show (b, c) = (0, 0) from hk))
    have hlv : cLive 6 (nc + 1) nc 6 nt (a, b, c) := by
      match a, hk, h14, h5 with
      | 0, hk, _, _ | 1, hk, _, _ | 2, hk, _, _ | 3, hk, _, _ | 4, hk, _, _ | 6, hk, _, _ | 7, hk, _, _ | 8, hk, _, _ | 9, hk, _, _ | 10, hk, _, _ | 11, hk, _, _ | 12, hk, _, _ | 13, hk, _, _ | 14, hk, _, _ => exact hk
      | 5, _, _, h5 => exact absurd rfl h5
    refine ⟨hlv, ?_⟩
    refine cEnt_par (nf := 6) (lc := nc + 1) (nc := nc) (hl := 6) (nt := nt) (nf' := 6) (lc' := nc + 1) (nc' := nc + 1) (hl' := 6) (nt' := nt) a b c (live14 hk) (fun _ => rfl) (fun h => by omega) (fun _ => rfl) (fun _ => rfl) (fun k' hd => ?_)
    match a, hd, h14, h2 with
    | 0, hd, _, _ => rcases hd with rfl | rfl | rfl <;> exact hab _ _ _ (by decide)
    | 1, hd, _, _ | 3, hd, _, _ | 9, hd, _, _ | 14, hd, _, _ => cases (show k' = _ from hd); exact hab _ _ _ (by decide)
    | 2, _, _, h2 => exact absurd rfl h2
    | 4, hd, _, _ => obtain ⟨j, hj, rfl⟩ := hd; exact hab _ _ _ (by decide)
    | 5, hd, _, _ => obtain ⟨j, hj, rfl⟩ := hd; exact hab _ _ _ (by decide)
    | 6, hd, _, _ => obtain ⟨j, hj, rfl⟩ := hd; exact hab _ _ _ (by decide)
    | 10, hd, _, _ => obtain ⟨j, hj, rfl⟩ := hd; exact hab _ _ _ (by decide)
    | 7, hd, _, _ | 11, hd, _, _ | 12, hd, _, _ => exact (show False from hd).elim
    | 8, hd, _, _ => rcases hd with rfl | rfl | rfl <;> exact hab _ _ _ (by decide)
    | 13, hd, _, _ => rcases hd with rfl | rfl <;> exact hab _ _ _ (by decide)
def fdW (cA : Nat → ClassId) (g0 : Nat) (ad : zk_K → Nat) (i dy : Nat) (mo : Int64) (I : zIA) (L : zLA) (o : Nat) (e0 : va_E) : zk_W := zk_se (zk_ext (cw cA g0 ad i 0 0 6 0 dy mo I L) (7, i, 0) o e0) (7, i, 0) (.inr (2, [.int (nI i), .int 10000, .long 0, .long 0]))
theorem fdW_el {i o : Nat} {e0 : va_E} : zEl (fdW cA g0 ad i dy mo I L o e0) o := ⟨(7, i, 0), 2, _, Or.inl rfl, zk_ad_s _ _ _, zk_se_s _ _ _, Or.inr (Or.inl rfl)⟩
theorem fdW_n {i o a b c : Nat} {e0 : va_E} (h : ¬ (a = 7 ∧ b = i)) : (fdW cA g0 ad i dy mo I L o e0).2.2 (a, b, c) = cEnt cA g0 ad i 0 0 6 0 dy mo I L (a, b, c) := (zk_se_n (zne (fun z => h ⟨z.1, z.2.1⟩))).trans (zk_ext_n (zne (fun z => h ⟨z.1, z.2.1⟩)))
theorem fdW_a {i o a b c : Nat} {e0 : va_E} (h : ¬ (a = 7 ∧ b = i)) : (fdW cA g0 ad i dy mo I L o e0).1 (a, b, c) = ad (a, b, c) := zk_ad_n (zne (fun z => h ⟨z.1, z.2.1⟩))
theorem fdW_lst {i o : Nat} {e0 : va_E} (hi : i < 6) : zLst (cA 3) g0 (fdW cA g0 ad i dy mo I L o e0) (1, 0, 0) (4, 0, 0) i (capL i) (cFs (fdW cA g0 ad i dy mo I L o e0).1 (fun j => (7, j, 0)) i) := by
  refine zLst_of (cA := cA) (1, 0, 0) (4, 0, 0) (fun j => (7, j, 0)) i (by decide) (Or.inr rfl) ?_ (fun h => ⟨Or.inr ⟨rfl, h⟩, ?_⟩) (fun h z => ?_) (fun j hj => ?_) (by omega)
  · rw [fdW_n (by omega)]
    show cList ad g0 i (4, 0, 0) = _
    unfold cList
    rw [fdW_a (by omega)]
  · rw [fdW_n (by omega)]
    show cRow cA ad (fun j => (7, j, 0)) i = _
    unfold cRow
    rw [cFs_cong (ad' := (fdW cA g0 ad i dy mo I L o e0).1) (ad := ad) (fun j hj => fdW_a (by omega))]
  · rcases z with z | z
    · exact absurd z (zne (by omega))
    · exact absurd (show 0 < i from z.2) (by omega)
  · exact ⟨(7, j, 0), 2, [.int (nI j), .int (I 1 j), .long (L 2 j), .long (L 3 j)], Or.inr ⟨hj, rfl⟩, rfl, fdW_n (by omega), Or.inr (Or.inl rfl)⟩
theorem fdW_add {i o q : Nat} {e0 : va_E} (hi : i < 6) (h1 : I 1 i = 10000) (h2 : L 2 i = 0) (h3 : L 3 i = 0) :
    zk_sb (zk_add (cA 3) (fdW cA g0 ad i dy mo I L o e0) (1, 0, 0) (4, 0, 0) q i (capN i (capL i)) (va_up (cFs (fdW cA g0 ad i dy mo I L o e0).1 (fun j => (7, j, 0)) i) i (some o)))
      (cw cA g0 (zk_ad (zk_ad ad (7, i, 0) o) (4, 0, 0) q) (i + 1) 0 0 6 0 dy mo I L) := by
  have hab : ∀ x y z : Nat, ¬ (x = 7 ∧ y = i) → x ≠ 4 → zk_ad (zk_ad ad (7, i, 0) o) (4, 0, 0) q (x, y, z) = ad (x, y, z) := by
    intro x y z h h2
    rw [zk_ad_n (zne (fun z => h2 z.1)), zk_ad_n (zne (fun z => h ⟨z.1, z.2.1⟩))]
  refine zk_add_cw rfl (Or.inr rfl) (by decide) ?_ ?_ (fun k hkl hkr hk => ?_)
  · show cList _ g0 (i + 1) (4, 0, 0) = _
    rw [cList_s, zk_ad_s]
  · show cRow cA _ (fun j => (7, j, 0)) (i + 1) = _
    unfold cRow
    rw [capL_s i (by omega), cFs_up (kf := fun j => (7, j, 0)) (n := i) (ad' := zk_ad (zk_ad ad (7, i, 0) o) (4, 0, 0) q) (ad := (fdW cA g0 ad i dy mo I L o e0).1) (o := o) (fun j hj => zk_ad_n (zne (by omega))) ((zk_ad_n (zne (by omega))).trans (zk_ad_s _ _ _))]
  · obtain ⟨a, b, c⟩ := k
    by_cases h7 : a = 7 ∧ b = i
    · obtain ⟨rfl, rfl⟩ := h7
      have hc : c = 0 := hk.2
      subst hc
      refine ⟨Or.inl rfl, Eq.trans ?_ (zk_se_s _ _ _).symm⟩
      show cFund I L b = _
      unfold cFund
      rw [h1, h2, h3]
    · have h14 := live14 hk
      have ha4 : a ≠ 4 := fun z => by
        subst z
        exact hkr (congrArg (Prod.mk 4) (show (b, c) = (0, 0) from hk.1))
      have ha1 : a ≠ 1 := fun z => by
        subst z
        exact hkl (congrArg (Prod.mk 1) (show (b, c) = (0, 0) from hk))
      have hlv : cLive i 0 0 6 0 (a, b, c) ∧ ¬ 8 ≤ a := by
        match a, hk, h14, ha4, h7 with
        | 0, hk, _, _, _ | 1, hk, _, _, _ | 2, hk, _, _, _ | 3, hk, _, _, _ | 5, hk, _, _, _ | 6, hk, _, _, _ => exact ⟨hk, by omega⟩
        | 4, _, _, h4, _ => exact absurd rfl h4
        | 7, hk, _, _, h7 =>
          have : b < i + 1 := hk.1
          exact ⟨⟨show b < i by omega, hk.2⟩, by omega⟩
        | 8, hk, _, _, _ | 9, hk, _, _, _ | 10, hk, _, _, _ | 11, hk, _, _, _ | 12, hk, _, _, _ | 13, hk, _, _, _ | 14, hk, _, _, _ => exact absurd hk.1 (Nat.not_lt_zero _)
      refine ⟨Or.inr hlv.1, Eq.trans ?_ (fdW_n h7).symm⟩
      refine cEnt_par (nf := i) (lc := 0) (nc := 0) (hl := 6) (nt := 0) (nf' := i + 1) (lc' := 0) (nc' := 0) (hl' := 6) (nt' := 0) a b c (live14 hk) (fun h => by omega) (fun _ => rfl) (fun _ => rfl) (fun _ => rfl) (fun k' hd => ?_)
      have h8 := hlv.2
      match a, hd, h8, ha1, ha4 with
      | 0, hd, _, _, _ => rcases hd with rfl | rfl | rfl <;> exact hab _ _ _ (by omega) (by decide)
      | 2, hd, _, _, _ | 3, hd, _, _, _ => cases (show k' = _ from hd); exact hab _ _ _ (by omega) (by decide)
      | 1, _, _, h1, _ => exact absurd rfl h1
      | 4, _, _, _, h4 => exact absurd rfl h4
      | 5, hd, _, _, _ => obtain ⟨j, hj, rfl⟩ := hd; exact absurd hj (Nat.not_lt_zero _)
      | 6, hd, _, _, _ => obtain ⟨j, hj, rfl⟩ := hd; exact absurd hj (Nat.not_lt_zero _)
      | 7, hd, _, _, _ => exact (show False from hd).elim
      | k + 8, _, h8, _, _ => exact absurd (Nat.le_add_left 8 k) h8
/-- the hall's object alone -/
def hallW (ad : zk_K → Nat) : zk_W := (ad, fun k => k = (0, 0, 0), fun _ => .inr (5, [.null, .null, .null, .long 0, .int 0]))
theorem hl_new {o1 o2 o3 : Nat} {e1 e2 e3 r1 r2 : va_E} :
    zk_sb (zk_se (zk_se (zk_ext (zk_se (zk_se (zk_ext (zk_se (zk_se (zk_ext (hallW ad) (1, 0, 0) o1 e1) (1, 0, 0) (zLo 0 g0 0)) (0, 0, 0) r1) (2, 0, 0) o2 e2) (2, 0, 0) (zLo 0 g0 0)) (0, 0, 0) r2) (3, 0, 0) o3 e3) (3, 0, 0) (zLo 0 g0 0)) (0, 0, 0) (.inr (5, [.ref o1, .ref o2, .ref o3, .long 0, .int 0])))
      (cw cA g0 (zk_ad (zk_ad (zk_ad ad (1, 0, 0) o1) (2, 0, 0) o2) (3, 0, 0) o3) 0 0 0 6 0 0 0 I L) := by
  intro k hk
  obtain ⟨a, b, c⟩ := k
  have h14 := live14 hk
  match a, hk, h14 with
  | 0, hk, _ =>
    cases (show (b, c) = (0, 0) from hk)
    refine ⟨Or.inr (Or.inr (Or.inr rfl)), rfl, Eq.trans ?_ (zk_se_s _ _ _).symm⟩
    show cHall _ 0 0 = _
    unfold cHall
    rw [zk_ad_s, show zk_ad (zk_ad (zk_ad ad (1, 0, 0) o1) (2, 0, 0) o2) (3, 0, 0) o3 (1, 0, 0) = o1 from (zk_ad_n (by decide)).trans ((zk_ad_n (by decide)).trans (zk_ad_s _ _ _)), show zk_ad (zk_ad (zk_ad ad (1, 0, 0) o1) (2, 0, 0) o2) (3, 0, 0) o3 (2, 0, 0) = o2 from (zk_ad_n (by decide)).trans (zk_ad_s _ _ _)]
    rfl
  | 1, hk, _ =>
    cases (show (b, c) = (0, 0) from hk)
    exact ⟨Or.inr (Or.inr (Or.inl rfl)), rfl, Eq.symm ((zk_se_n (by decide)).trans ((zk_se_n (by decide)).trans ((zk_ext_n (by decide)).trans ((zk_se_n (by decide)).trans ((zk_se_n (by decide)).trans ((zk_ext_n (by decide)).trans ((zk_se_n (by decide)).trans (zk_se_s _ _ _))))))))⟩
  | 2, hk, _ =>
    cases (show (b, c) = (0, 0) from hk)
    exact ⟨Or.inr (Or.inl rfl), rfl, Eq.symm ((zk_se_n (by decide)).trans ((zk_se_n (by decide)).trans ((zk_ext_n (by decide)).trans ((zk_se_n (by decide)).trans (zk_se_s _ _ _)))))⟩
  | 3, hk, _ =>
    cases (show (b, c) = (0, 0) from hk)
    exact ⟨Or.inl rfl, rfl, Eq.symm ((zk_se_n (by decide)).trans (zk_se_s _ _ _))⟩
  | 4, hk, _ | 5, hk, _ | 6, hk, _ => exact absurd hk.2 (Nat.not_lt_zero _)
  | 7, hk, _ | 8, hk, _ | 9, hk, _ | 10, hk, _ | 11, hk, _ | 12, hk, _ | 13, hk, _ | 14, hk, _ => exact absurd hk.1 (Nat.not_lt_zero _)
end CB
