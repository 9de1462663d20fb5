/-! ===== the class's world grows: clients, holdings, funds ===== -/
theorem zne {a b c a' b' c' : Nat} (h : ¬ (a = a' ∧ b = b' ∧ c = c')) : ((a, b, c) : zk_K) ≠ (a', b', c') := fun z => h ⟨congrArg Prod.fst z, congrArg (fun k => k.2.1) z, congrArg (fun k => k.2.2) z⟩
theorem cFs_cong {ad ad' : zk_K → Nat} {kf : Nat → zk_K} {n : Nat} (h : ∀ j, j < n → ad' (kf j) = ad (kf j)) : cFs ad' kf n = cFs ad kf n := by
  funext j
  unfold cFs
  by_cases hj : j < n
  · rw [if_pos hj, if_pos hj, h j hj]
  · rw [if_neg hj, if_neg hj]
theorem cFs_up {ad ad' : zk_K → Nat} {kf : Nat → zk_K} {n o : Nat} (h : ∀ j, j < n → ad' (kf j) = ad (kf j)) (ho : ad' (kf n) = o) : cFs ad' kf (n + 1) = va_up (cFs ad kf n) n (some o) := by
  funext j
  unfold cFs va_up
  by_cases hj : j = n
  · subst hj
    rw [if_pos (Nat.lt_succ_self _), if_pos rfl, ho]
  · rw [if_neg hj]
    by_cases hj2 : j < n
    · rw [if_pos (show j < n + 1 by omega), h j hj2]
      exact (if_pos hj2).symm
    · rw [if_neg (show ¬ j < n + 1 by omega)]
      exact (if_neg hj2).symm
def cDep (nf lc nc hl nt : Nat) (I : zIA) (k k' : zk_K) : Prop := match k.1 with
  | 0 => k' = (1, 0, 0) ∨ k' = (2, 0, 0) ∨ k' = (3, 0, 0)
  | 1 => k' = (4, 0, 0) | 2 => k' = (5, 0, 0) | 3 => k' = (6, 0, 0)
  | 4 => ∃ j, j < nf ∧ k' = (7, j, 0) | 5 => ∃ j, j < nc ∧ k' = (8, j, 0) | 6 => ∃ j, j < nt ∧ k' = (14, j, 0)
  | 8 => k' = (9, k.2.1, 0) ∨ k' = (11, k.2.1, 0) ∨ k' = (12, k.2.1, 0)
  | 9 => k' = (10, k.2.1, 0)
  | 10 => ∃ j, j < nh lc hl k.2.1 ∧ k' = (13, k.2.1, j)
  | 13 => k' = (8, k.2.1, 0) ∨ k' = (7, k.2.2, 0)
  | 14 => k' = (13, dN (I 11 k.2.1), dN (I 12 k.2.1))
  | _ => False
theorem live14 {nf lc nc hl nt : Nat} {k : zk_K} (h : cLive nf lc nc hl nt k) : k.1 ≤ 14 := by
  obtain ⟨a, b, c⟩ := k
  by_cases h2 : a ≤ 14
  · exact h2
  · obtain ⟨n, rfl⟩ : ∃ n, a = n + 15 := ⟨a - 15, by omega⟩
    exact (show False from h).elim
theorem cEnt_par {cA : Nat → ClassId} {g0 : Nat} {ad ad' : zk_K → Nat} {nf lc nc hl nt nf' lc' nc' hl' nt' dy : Nat} {mo : Int64} {I : zIA} {L : zLA} (a b c : Nat) (hk : a ≤ 14) (h1 : a = 1 ∨ a = 4 → nf' = nf) (h2 : a = 2 ∨ a = 5 → nc' = nc) (h3 : a = 3 ∨ a = 6 → nt' = nt) (h9 : a = 9 ∨ a = 10 → nh lc' hl' b = nh lc hl b)
    (hd : ∀ k', cDep nf lc nc hl nt I (a, b, c) k' → ad' k' = ad k') : cEnt cA g0 ad' nf' lc' nc' hl' nt' dy mo I L (a, b, c) = cEnt cA g0 ad nf lc nc hl nt dy mo I L (a, b, c) := by
  match a, hk, h1, h2, h3, h9, hd with
  | 0, _, _, _, _, _, hd =>
    show cHall ad' dy mo = cHall ad dy mo
    unfold cHall
    rw [hd (1, 0, 0) (Or.inl rfl), hd (2, 0, 0) (Or.inr (Or.inl rfl)), hd (3, 0, 0) (Or.inr (Or.inr rfl))]
  | 1, _, h1, _, _, _, hd =>
    show cList ad' g0 nf' (4, 0, 0) = cList ad g0 nf (4, 0, 0)
    unfold cList
    rw [hd (4, 0, 0) rfl, h1 (Or.inl rfl)]
  | 2, _, _, h2, _, _, hd =>
    show cList ad' g0 nc' (5, 0, 0) = cList ad g0 nc (5, 0, 0)
    unfold cList
    rw [hd (5, 0, 0) rfl, h2 (Or.inl rfl)]
  | 3, _, _, _, h3, _, hd =>
    show cList ad' g0 nt' (6, 0, 0) = cList ad g0 nt (6, 0, 0)
    unfold cList
    rw [hd (6, 0, 0) rfl, h3 (Or.inl rfl)]
  | 4, _, h1, _, _, _, hd =>
    show cRow cA ad' (fun j => (7, j, 0)) nf' = cRow cA ad (fun j => (7, j, 0)) nf
    unfold cRow
    rw [h1 (Or.inr rfl), cFs_cong (fun j hj => hd (7, j, 0) ⟨j, hj, rfl⟩)]
  | 5, _, _, h2, _, _, hd =>
    show cRow cA ad' (fun j => (8, j, 0)) nc' = cRow cA ad (fun j => (8, j, 0)) nc
    unfold cRow
    rw [h2 (Or.inr rfl), cFs_cong (fun j hj => hd (8, j, 0) ⟨j, hj, rfl⟩)]
  | 6, _, _, _, h3, _, hd =>
    show cRow cA ad' (fun j => (14, j, 0)) nt' = cRow cA ad (fun j => (14, j, 0)) nt
    unfold cRow
    rw [h3 (Or.inr rfl), cFs_cong (fun j hj => hd (14, j, 0) ⟨j, hj, rfl⟩)]
  | 7, _, _, _, _, _, _ => rfl
  | 8, _, _, _, _, _, hd =>
    show cCli ad' L b = cCli ad L b
    unfold cCli
    rw [hd (9, b, 0) (Or.inl rfl), hd (11, b, 0) (Or.inr (Or.inl rfl)), hd (12, b, 0) (Or.inr (Or.inr rfl))]
  | 9, _, _, _, _, h9, hd =>
    show cList ad' g0 (nh lc' hl' b) (10, b, 0) = cList ad g0 (nh lc hl b) (10, b, 0)
    unfold cList
    rw [hd (10, b, 0) rfl, h9 (Or.inl rfl)]
  | 10, _, _, _, _, h9, hd =>
    show cRow cA ad' (fun j => (13, b, j)) (nh lc' hl' b) = cRow cA ad (fun j => (13, b, j)) (nh lc hl b)
    unfold cRow
    rw [h9 (Or.inr rfl), cFs_cong (fun j hj => hd (13, b, j) ⟨j, hj, rfl⟩)]
  | 11, _, _, _, _, _, _ => rfl
  | 12, _, _, _, _, _, _ => rfl
  | 13, _, _, _, _, _, hd =>
    show cHol ad' I L b c = cHol ad I L b c
    unfold cHol
    rw [hd (8, b, 0) (Or.inl rfl), hd (7, c, 0) (Or.inr rfl)]
  | 14, _, _, _, _, _, hd =>
    show cTra ad' I L b = cTra ad I L b
    unfold cTra
    rw [hd _ rfl]
theorem zk_add_cw {cA : Nat → ClassId} {g0 : Nat} {nf lc nc hl nt dy : Nat} {mo : Int64} {I : zIA} {L : zLA} {w : zk_W} {kl kr : zk_K} {q n cap : Nat} {f : Nat → Option Nat} {ad' : zk_K → Nat} (had : ad' = zk_ad w.1 kr q) (hkl : w.2.1 kl) (hne : kl ≠ kr)
    (h1 : cEnt cA g0 ad' nf lc nc hl nt dy mo I L kl = zLo (nI (n + 1)) q (nI (n + 1))) (h2 : cEnt cA g0 ad' nf lc nc hl nt dy mo I L kr = zRef (cA 3) cap f)
    (h3 : ∀ k, k ≠ kl → k ≠ kr → cLive nf lc nc hl nt k → w.2.1 k ∧ cEnt cA g0 ad' nf lc nc hl nt dy mo I L k = w.2.2 k) : zk_sb (zk_add (cA 3) w kl kr q n cap f) (cw cA g0 ad' nf lc nc hl nt dy mo I L) := by
  intro k hk
  subst had
  by_cases e1 : k = kr
  · subst e1
    refine ⟨Or.inl rfl, rfl, h2.trans ?_⟩
    show _ = (if k = kl then _ else if k = k then _ else _)
    rw [if_neg (Ne.symm hne), if_pos rfl]
  · by_cases e2 : k = kl
    · subst e2
      exact ⟨Or.inr hkl, rfl, h1.trans (if_pos rfl).symm⟩
    · obtain ⟨x, y⟩ := h3 k e2 e1 hk
      refine ⟨Or.inr x, rfl, y.trans ?_⟩
      show _ = (if k = kl then _ else if k = kr then _ else _)
      rw [if_neg e2, if_neg e1]
theorem cList_s {ad : zk_K → Nat} {g0 n : Nat} {ka : zk_K} : cList ad g0 (n + 1) ka = zLo (nI (n + 1)) (ad ka) (nI (n + 1)) := by
  unfold cList
  rw [if_neg (Nat.succ_ne_zero n)]
theorem nh_s {lc hl : Nat} : nh (lc + 1) hl lc = hl := if_pos rfl
theorem nh_n {lc hl b : Nat} (h : b ≠ lc) : nh (lc + 1) hl b = 6 := if_neg (fun z => h (Nat.succ.inj z))
section CG
variable {cA : Nat → ClassId} {g0 : Nat} {ad : zk_K → Nat} {nc nt dy : Nat} {mo : Int64} {I : zIA} {L : zLA}
abbrev zNil : va_E := .inr (3, [.null, .null, .long 0, .int 0])
/-- what is zero beyond the last client -/
def zBey (nc : Nat) (I : zIA) (L : zLA) : Prop := ∀ k, nc ≤ k → L 6 k = 0 ∧ (∀ y, y < 21 → L 30 (21 * k + y) = 0 ∧ L 9 (21 * k + y) = 0) ∧ ∀ f, f < 6 → L 8 (6 * k + f) = 0 ∧ I 7 (6 * k + f) = 0
theorem cl_new {o o1 o2 o3 : Nat} {e0 e1 e2 e3 e4 : va_E} (hB : zBey nc I L) :
    zk_sb (zk_se (zk_ext (zk_se (zk_ext (zk_se (zk_se (zk_ext (zk_se (zk_ext (cw cA g0 ad 6 nc nc 6 nt dy mo I L) (8, nc, 0) o e0) (8, nc, 0) e1) (9, nc, 0) o1 e2) (9, nc, 0) (zLo 0 g0 0)) (8, nc, 0) e3) (11, nc, 0) o2 (.inl (cA 1, 21, .inr (.inl (fun _ => 0))))) (8, nc, 0) e4) (12, nc, 0) o3 (.inl (cA 1, 21, .inr (.inl (fun _ => 0))))) (8, nc, 0) (.inr (1, [.int (nI nc), .ref o1, .ref o2, .ref o3, .long 0])))
      (cw cA g0 (zk_ad (zk_ad (zk_ad (zk_ad ad (8, nc, 0) o) (9, nc, 0) o1) (11, nc, 0) o2) (12, nc, 0) o3) 6 (nc + 1) nc 0 nt dy mo I L) := by
  obtain ⟨hB6, hBy, -⟩ := hB nc (Nat.le_refl _)
  have hy : ∀ a, a = 30 ∨ a = 9 → cYears cA L a nc = .inl (cA 1, 21, .inr (.inl (fun _ => 0))) := by
    intro a ha
    unfold cYears
    have : (fun y => if y < 21 then L a (21 * nc + y) else 0) = fun _ => 0 := by
      funext y
      by_cases h : y < 21
      · rw [if_pos h]
        rcases ha with rfl | rfl
        · exact (hBy y h).1
        · exact (hBy y h).2
      · rw [if_neg h]
    rw [this]
  intro k hk
  by_cases h8 : k = (8, nc, 0)
  · subst h8
    refine ⟨Or.inr (Or.inr (Or.inr (Or.inl rfl))), rfl, Eq.trans ?_ (zk_se_s _ _ _).symm⟩
    show cCli _ L nc = _
    unfold cCli
    rw [hB6, zk_ad_s]
    rw [show zk_ad (zk_ad (zk_ad (zk_ad ad (8, nc, 0) o) (9, nc, 0) o1) (11, nc, 0) o2) (12, nc, 0) o3 (9, nc, 0) = o1 from (zk_ad_n (zne (by omega))).trans ((zk_ad_n (zne (by omega))).trans (zk_ad_s _ _ _)), show zk_ad (zk_ad (zk_ad (zk_ad ad (8, nc, 0) o) (9, nc, 0) o1) (11, nc, 0) o2) (12, nc, 0) o3 (11, nc, 0) = o2 from (zk_ad_n (zne (by omega))).trans (zk_ad_s _ _ _)]
  · by_cases h12 : k = (12, nc, 0)
    · subst h12
      exact ⟨Or.inl rfl, rfl, (hy 9 (Or.inr rfl)).trans ((zk_se_n (zne (by omega))).trans (zk_ext_s _ _ _ _)).symm⟩
    · by_cases h11 : k = (11, nc, 0)
      · subst h11
        exact ⟨Or.inr (Or.inl rfl), rfl, (hy 30 (Or.inl rfl)).trans ((zk_se_n (zne (by omega))).trans ((zk_ext_n (zne (by omega))).trans ((zk_se_n (zne (by omega))).trans (zk_ext_s _ _ _ _)))).symm⟩
      · by_cases h9 : k = (9, nc, 0)
        · subst h9
          refine ⟨Or.inr (Or.inr (Or.inl rfl)), rfl, Eq.trans ?_ ((zk_se_n (zne (by omega))).trans ((zk_ext_n (zne (by omega))).trans ((zk_se_n (zne (by omega))).trans ((zk_ext_n (zne (by omega))).trans ((zk_se_n (zne (by omega))).trans (zk_se_s _ _ _)))))).symm⟩
          show cList _ g0 (nh (nc + 1) 0 nc) (10, nc, 0) = _
          rw [nh_s]
          rfl
        · have hlv : cLive 6 nc nc 6 nt k := by
            obtain ⟨a, b, c⟩ := k
            have h14 := live14 hk
            match a, hk, h14 with
            | 0, hk, _ | 1, hk, _ | 2, hk, _ | 3, hk, _ | 4, hk, _ | 5, hk, _ | 6, hk, _ | 7, hk, _ | 14, hk, _ => exact hk
            | 8, hk, _ => exact ⟨Nat.lt_of_le_of_ne (Nat.le_of_lt_succ hk.1) (fun z => h8 (by rw [show b = nc from z, show c = 0 from hk.2])), hk.2⟩
            | 9, hk, _ => exact ⟨Nat.lt_of_le_of_ne (Nat.le_of_lt_succ hk.1) (fun z => h9 (by rw [show b = nc from z, show c = 0 from hk.2])), hk.2⟩
            | 11, hk, _ => exact ⟨Nat.lt_of_le_of_ne (Nat.le_of_lt_succ hk.1) (fun z => h11 (by rw [show b = nc from z, show c = 0 from hk.2])), hk.2⟩
            | 12, hk, _ => exact ⟨Nat.lt_of_le_of_ne (Nat.le_of_lt_succ hk.1) (fun z => h12 (by rw [show b = nc from z, show c = 0 from hk.2])), hk.2⟩
            | 10, hk, _ =>
              obtain ⟨x, y, z⟩ := hk
              have hb : b ≠ nc := fun q => by
                subst q
                exact absurd (show 0 < nh (b + 1) 0 b from z) (by rw [nh_s]; decide)
              exact ⟨Nat.lt_of_le_of_ne (Nat.le_of_lt_succ x) hb, y, by show 0 < nh nc 6 b; rw [nh6]; decide⟩
            | 13, hk, _ =>
              obtain ⟨x, z⟩ := hk
              have hb : b ≠ nc := fun q => by
                subst q
                exact absurd (show c < nh (b + 1) 0 b from z) (by rw [nh_s]; exact Nat.not_lt_zero _)
              have z2 : c < 6 := by
                have := show c < nh (nc + 1) 0 b from z
                rw [nh_n hb] at this
                exact this
              exact ⟨Nat.lt_of_le_of_ne (Nat.le_of_lt_succ x) hb, by show c < nh nc 6 b; rw [nh6]; exact z2⟩
          refine ⟨Or.inr (Or.inr (Or.inr (Or.inr hlv))), rfl, Eq.trans ?_ ((zk_se_n h8).trans ((zk_ext_n h12).trans ((zk_se_n h8).trans ((zk_ext_n h11).trans ((zk_se_n h8).trans ((zk_se_n h9).trans ((zk_ext_n h9).trans ((zk_se_n h8).trans (zk_ext_n h8))))))))).symm⟩
          obtain ⟨a, b, c⟩ := k
          refine cEnt_par (nf := 6) (lc := nc) (nc := nc) (hl := 6) (nt := nt) (nf' := 6) (lc' := nc + 1) (nc' := nc) (hl' := 0) (nt' := nt) a b c (live14 hk) (fun _ => rfl) (fun _ => rfl) (fun _ => rfl) (fun h => ?_) (fun k' hd => ?_)
          · have hb : b ≠ nc := by
              rcases h with rfl | rfl
              · exact fun z => absurd (show b < nc from hlv.1) (by omega)
              · exact fun z => absurd (show b < nc from hlv.1) (by omega)
            rw [nh_n hb, nh6]
          · have h4 : ∀ x y z : Nat, ¬ ((x = 8 ∨ x = 9 ∨ x = 11 ∨ x = 12) ∧ nc ≤ y) → zk_ad (zk_ad (zk_ad (zk_ad ad (8, nc, 0) o) (9, nc, 0) o1) (11, nc, 0) o2) (12, nc, 0) o3 (x, y, z) = ad (x, y, z) := by
              intro x y z h
              rw [zk_ad_n (zne (by omega)), zk_ad_n (zne (by omega)), zk_ad_n (zne (by omega)), zk_ad_n (zne (by omega))]
            have h14 := live14 hk
            match a, hlv, hd, h14 with
            | 0, _, hd, _ => rcases hd with rfl | rfl | rfl <;> exact h4 _ _ _ (by omega)
            | 1, _, hd, _ | 2, _, hd, _ | 3, _, hd, _ => cases (show k' = _ from hd); exact h4 _ _ _ (by omega)
            | 4, _, hd, _ => obtain ⟨j, hj, rfl⟩ := hd; exact h4 _ _ _ (by omega)
            | 5, _, hd, _ => obtain ⟨j, hj, rfl⟩ := hd; exact h4 _ _ _ (by omega)
            | 6, _, hd, _ => obtain ⟨j, hj, rfl⟩ := hd; exact h4 _ _ _ (by omega)
            | 7, _, hd, _ | 11, _, hd, _ | 12, _, hd, _ => exact (show False from hd).elim
            | 8, hlv, hd, _ =>
              have hb : b < nc := hlv.1
              rcases hd with rfl | rfl | rfl <;> exact h4 _ _ _ (by dsimp only; omega)
            | 9, hlv, hd, _ =>
              have hb : b < nc := hlv.1
              cases (show k' = _ from hd); exact h4 _ _ _ (by omega)
            | 10, hlv, hd, _ => obtain ⟨j, hj, rfl⟩ := hd; exact h4 _ _ _ (by omega)
            | 13, hlv, hd, _ =>
              have hb : b < nc := hlv.1
              rcases hd with rfl | rfl <;> exact h4 _ _ _ (by dsimp only; omega)
            | 14, _, hd, _ => cases (show k' = _ from hd); exact h4 _ _ _ (by omega)
end CG
