/-! ===== a trade is made ===== -/
theorem capL_s : ∀ n, n < 121 → capL (n + 1) = capN n (capL n) := by decide +kernel
theorem zLst_of {cA : Nat → ClassId} {g0 : Nat} {w : zk_W} (kl ka : zk_K) (kf : Nat → zk_K) (n : Nat) (hne : kl ≠ ka) (hk : w.2.1 kl) (he : w.2.2 kl = cList w.1 g0 n ka) (hka : 0 < n → w.2.1 ka ∧ w.2.2 ka = cRow cA w.1 kf n) (hk0 : n = 0 → ¬ w.2.1 ka) (hel : ∀ j, j < n → zEl w (w.1 (kf j))) (hn : n ≤ 163) :
    zLst (cA 3) g0 w kl ka n (capL n) (cFs w.1 kf n) := by
  refine ⟨hne, hk, fun j y h => ?_, fun j h => if_neg (by omega), _, he, ?_⟩
  · unfold cFs at h
    by_cases hj : j < n
    · rw [if_pos hj] at h
      cases Option.some.inj h
      exact hel j hj
    · rw [if_neg hj] at h
      cases h
  · by_cases h0 : n = 0
    · left
      subst h0
      exact ⟨rfl, rfl, rfl, hk0 rfl⟩
    · right
      obtain ⟨h1, h2⟩ := hka (by omega)
      exact ⟨capL_le hn, capL_10 (by omega), if_neg h0, h1, h2⟩
theorem cF_add {ad : zk_K → Nat} {nt o q2 : Nat} : cFs (zk_ad (zk_ad ad (14, nt, 0) o) (6, 0, 0) q2) (fun j => (14, j, 0)) (nt + 1) = va_up (cFs ad (fun j => (14, j, 0)) nt) nt (some o) := by
  funext j
  unfold cFs va_up
  dsimp only
  by_cases hj : j = nt
  · subst hj
    rw [if_pos (Nat.lt_succ_self _), if_pos rfl]
    exact congrArg some ((zk_ad_n (fun z => absurd (show (14 : Nat) = 6 from congrArg Prod.fst z) (by decide))).trans (zk_ad_s _ _ _))
  · rw [if_neg hj]
    by_cases hj2 : j < nt
    · rw [if_pos (show j < nt + 1 by omega), if_pos hj2]
      exact congrArg some ((zk_ad_n (fun z => absurd (show (14 : Nat) = 6 from congrArg Prod.fst z) (by decide))).trans (zk_ad_n (fun z => hj (key14 z))))
    · rw [if_neg (show ¬ j < nt + 1 by omega), if_neg hj2]
def tdL (L : zLA) (nt : Nat) (q x : Int64) : zLA := up2 (up2 (noteR L nt q x) 31 nt 0) 32 nt 0
abbrev tRow (ad : zk_K → Nat) (nt dy c f : Nat) (q x : Int64) : va_E := .inr (4, [.int (nI nt), .ref (ad (13, c, f)), .int (nI dy), .long q, .long x, .long (costL x), .int 1, .long 0, .long 0])
section T1
variable {cA : Nat → ClassId} {g0 : Nat} {ad : zk_K → Nat} {nc nt dy : Nat} {mo : Int64} {I : zIA} {L : zLA}
def tW (cA : Nat → ClassId) (g0 : Nat) (ad : zk_K → Nat) (nc nt dy : Nat) (mo : Int64) (I : zIA) (L : zLA) (c f : Nat) (q x : Int64) (o : Nat) (e0 : va_E) : zk_W := zk_se (zk_ext (cw cA g0 ad 6 nc nc 6 nt dy mo I L) (14, nt, 0) o e0) (14, nt, 0) (tRow ad nt dy c f q x)
theorem tW_a {c f : Nat} {q x : Int64} {o : Nat} {e0 : va_E} {j : Nat} (hj : j < nt) : (tW cA g0 ad nc nt dy mo I L c f q x o e0).1 (14, j, 0) = ad (14, j, 0) := zk_ad_n (fun z => absurd (key14 z) (by omega))
theorem tW_o {c f : Nat} {q x : Int64} {o : Nat} {e0 : va_E} : (tW cA g0 ad nc nt dy mo I L c f q x o e0).1 (14, nt, 0) = o := zk_ad_s _ _ _
theorem tW_el {c f : Nat} {q x : Int64} {o : Nat} {e0 : va_E} : zEl (tW cA g0 ad nc nt dy mo I L c f q x o e0) o := ⟨(14, nt, 0), 4, _, Or.inl rfl, tW_o, zk_se_s _ _ _, Or.inr (Or.inr (Or.inr rfl))⟩
theorem tW_fs {c f : Nat} {q x : Int64} {o : Nat} {e0 : va_E} : cFs (tW cA g0 ad nc nt dy mo I L c f q x o e0).1 (fun j => (14, j, 0)) nt = cFs ad (fun j => (14, j, 0)) nt := by
  funext j
  unfold cFs
  by_cases hj : j < nt
  · rw [if_pos hj, if_pos hj, tW_a hj]
  · rw [if_neg hj, if_neg hj]
theorem tW_elj {c f : Nat} {q x : Int64} {o : Nat} {e0 : va_E} {j : Nat} (hj : j < nt) : zEl (tW cA g0 ad nc nt dy mo I L c f q x o e0) ((tW cA g0 ad nc nt dy mo I L c f q x o e0).1 (14, j, 0)) := by
  have hne : ((14, j, 0) : zk_K) ≠ (14, nt, 0) := fun z => absurd (key14 z) (by omega)
  have h1 : (tW cA g0 ad nc nt dy mo I L c f q x o e0).2.2 (14, j, 0) = cTra ad I L j := (zk_se_n hne).trans (zk_ext_n hne)
  unfold cTra at h1
  exact ⟨(14, j, 0), 4, _, Or.inr ⟨hj, rfl⟩, rfl, h1, Or.inr (Or.inr (Or.inr rfl))⟩
theorem tW_lst {c f : Nat} {q x : Int64} {o : Nat} {e0 : va_E} (hnt : nt ≤ 120) : zLst (cA 3) g0 (tW cA g0 ad nc nt dy mo I L c f q x o e0) (3, 0, 0) (6, 0, 0) nt (capL nt) (cFs (tW cA g0 ad nc nt dy mo I L c f q x o e0).1 (fun j => (14, j, 0)) nt) := by
  refine zLst_of (cA := cA) (3, 0, 0) (6, 0, 0) (fun j => (14, j, 0)) nt (by decide) (Or.inr rfl) rfl (fun h => ⟨Or.inr ⟨rfl, h⟩, ?_⟩) (fun h z => ?_) (fun j hj => tW_elj hj) (by omega)
  · show cRow cA ad (fun j => (14, j, 0)) nt = cRow cA (tW cA g0 ad nc nt dy mo I L c f q x o e0).1 (fun j => (14, j, 0)) nt
    unfold cRow
    rw [tW_fs]
  · rcases z with z | z
    · exact absurd (show (6 : Nat) = 14 from congrArg Prod.fst z) (by decide)
    · exact absurd (show 0 < nt from z.2) (by omega)
theorem tW_add {c f : Nat} {q x : Int64} {o q2 : Nat} {e0 : va_E} (hc : c < 12) (hf : f < 6) (hnt : nt < 120) :
    zk_sb (zk_add (cA 3) (tW cA g0 ad nc nt dy mo I L c f q x o e0) (3, 0, 0) (6, 0, 0) q2 nt (capN nt (capL nt)) (va_up (cFs (tW cA g0 ad nc nt dy mo I L c f q x o e0).1 (fun j => (14, j, 0)) nt) nt (some o)))
      (cw cA g0 (zk_ad (zk_ad ad (14, nt, 0) o) (6, 0, 0) q2) 6 nc nc 6 (nt + 1) dy mo (noteI I nt dy c f) (tdL L nt q x)) := by
  intro k hk
  obtain ⟨a, b, d⟩ := k
  by_cases h14 : a = 14
  · subst h14
    obtain ⟨hb, hd⟩ : b < nt + 1 ∧ d = 0 := hk
    subst hd
    by_cases hbn : b = nt
    · subst hbn
      refine ⟨Or.inr (Or.inl rfl), rfl, ?_⟩
      show cTra _ (noteI I b dy c f) (tdL L b q x) b = (if (14, b, 0) = (14, b, 0) then tRow ad b dy c f q x else _)
      rw [if_pos rfl]
      have e11 : noteI I b dy c f 11 b = nI c := by unfold noteI; rw [up2_ne (by decide), up2_ne (by decide), up2_ne (by decide), up2_s]
      have e12 : noteI I b dy c f 12 b = nI f := by unfold noteI; rw [up2_ne (by decide), up2_ne (by decide), up2_s]
      have e16 : noteI I b dy c f 16 b = nI dy := by unfold noteI; rw [up2_ne (by decide), up2_s]
      have e17 : noteI I b dy c f 17 b = 1 := by unfold noteI; rw [up2_s]
      have l13 : tdL L b q x 13 b = q := by unfold tdL noteR; rw [up2_ne (by decide), up2_ne (by decide), up2_ne (by decide), up2_ne (by decide), up2_s]
      have l14 : tdL L b q x 14 b = x := by unfold tdL noteR; rw [up2_ne (by decide), up2_ne (by decide), up2_ne (by decide), up2_s]
      have l15 : tdL L b q x 15 b = costL x := by unfold tdL noteR; rw [up2_ne (by decide), up2_ne (by decide), up2_s]
      have l31 : tdL L b q x 31 b = 0 := by unfold tdL; rw [up2_ne (by decide), up2_s]
      have l32 : tdL L b q x 32 b = 0 := by unfold tdL; rw [up2_s]
      unfold cTra
      rw [e11, e12, e16, e17, l13, l14, l15, l31, l32, dN_nI (n := c) (by omega), dN_nI (n := f) (by omega)]
      rfl
    · refine ⟨Or.inr (Or.inr ⟨show b < nt by omega, rfl⟩), rfl, ?_⟩
      show cTra _ (noteI I nt dy c f) (tdL L nt q x) b = (if (14, b, 0) = (14, nt, 0) then _ else if (14, b, 0) = (14, nt, 0) then _ else cTra ad I L b)
      have hne : ¬ ((14, b, 0) : zk_K) = (14, nt, 0) := fun z => hbn (key14 z)
      rw [if_neg hne, if_neg hne]
      unfold cTra noteI tdL noteR
      simp only [up2_i hbn]
      rfl
  · by_cases h6 : a = 6
    · subst h6
      obtain ⟨hb, -⟩ : (b, d) = (0, 0) ∧ 0 < nt + 1 := hk
      cases hb
      refine ⟨Or.inl rfl, rfl, ?_⟩
      show cRow cA _ (fun j => (14, j, 0)) (nt + 1) = zRef (cA 3) (capN nt (capL nt)) _
      unfold cRow
      rw [capL_s nt (by omega)]
      rw [tW_fs, cF_add]
    · have hne6 : ∀ b' d', ((a, b, d) : zk_K) ≠ (6, b', d') := fun _ _ z => h6 (congrArg Prod.fst z)
      have hne14 : ∀ b' d', ((a, b, d) : zk_K) ≠ (14, b', d') := fun _ _ z => h14 (congrArg Prod.fst z)
      have hlv : cLive 6 nc nc 6 nt (a, b, d) := by
        revert hk
        show cLive 6 nc nc 6 (nt + 1) (a, b, d) → _
        unfold cLive
        split <;> first | exact id | (intro h; exact absurd rfl h6) | (intro h; exact absurd rfl h14) | (rename_i h; exact absurd h h6) | (rename_i h; exact absurd h h14)
      refine ⟨Or.inr (Or.inr hlv), ?_, ?_⟩
      · show zk_ad (zk_ad ad (14, nt, 0) o) (6, 0, 0) q2 (a, b, d) = _
        rw [zk_ad_n (hne6 _ _)]
        exact (zk_ad_n (hne6 _ _)).symm
      · by_cases h3 : a = 3
        · subst h3
          cases (show (b, d) = (0, 0) from hk)
          show cList _ g0 (nt + 1) (6, 0, 0) = zLo (nI (nt + 1)) q2 (nI (nt + 1))
          unfold cList
          rw [if_neg (by omega), zk_ad_s]
        · show cEnt cA g0 _ 6 nc nc 6 (nt + 1) dy mo (noteI I nt dy c f) (tdL L nt q x) (a, b, d) = (if (a, b, d) = (3, 0, 0) then _ else if (a, b, d) = (6, 0, 0) then _ else if (a, b, d) = (14, nt, 0) then _ else if (a, b, d) = (14, nt, 0) then _ else cEnt cA g0 ad 6 nc nc 6 nt dy mo I L (a, b, d))
          rw [if_neg (fun z => h3 (congrArg Prod.fst z)), if_neg (hne6 _ _), if_neg (hne14 _ _), if_neg (hne14 _ _)]
          unfold cEnt
          split <;> first | rfl | (exfalso; first | exact h3 rfl | exact h6 rfl) | (exfalso; revert hlv; show cLive 6 nc nc 6 nt (a, b, d) → False; unfold cLive; split <;> simp_all)
end T1
