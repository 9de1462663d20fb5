/-! ===== the law's turns: class and reference side by side ===== -/
theorem nIj {a b n : Nat} (hn : n ≤ 1000) (ha : a < n) (hb : b < n) (e : nI a = nI b) : a = b := (nI_eq (by omega) (by omega)).mp e
theorem xIA : xI ≠ xA := by decide
theorem xIS : xI ≠ xS := by decide
theorem xAS : xA ≠ xS := by decide
/-- the reference's own rows, and the class's own -/
def jL (L1 L2 : zLA) : zLA := fun a => if a < 24 then L2 a else L1 a
theorem jL_m {L1 L2 : zLA} {a : Nat} (h : a < 24) : jL L1 L2 a = L2 a := if_pos h
theorem jL_c {L1 L2 : zLA} (hs : ∀ a, a < 20 → L1 a = L2 a) {a : Nat} (h : a < 20 ∨ 30 ≤ a) : jL L1 L2 a = L1 a := by
  rcases h with h | h
  · exact (if_pos (by omega)).trans (hs a h).symm
  · exact if_neg (by omega)
theorem zInv_j {nc nt dy b : Nat} {I I' : zIA} {L1 L2 : zLA} (hI : ∀ a, a ≠ 19 → I' a = I a) (hs : ∀ a, a < 20 → L1 a = L2 a) (h : zInv nc nt dy b I L1) : zInv nc nt dy b I' (jL L1 L2) := by
  refine zInv_c (fun a ha => hI a (by omega)) (fun a ha => jL_c hs (by omega)) ?_ ?_ (fun k hk => ?_) (fun k hk f hf => ?_) h
  · intro f hf
    rw [hI 1 (by decide)]
    exact h.2.1 f hf
  · intro i
    rw [hI 7 (by decide)]
    exact h.2.2.1 i
  · rw [jL_c hs (Or.inl (by decide))]
    exact (h.2.2.2.2.2.2.2.2 k hk).1
  · rw [hI 7 (by decide)]
    exact ((h.2.2.2.2.2.2.2.2 k hk).2.2 f hf).2
theorem zIn_zR {y : Int32} : zIn y 21 ↔ zR y 0 20 := by
  constructor
  · rintro ⟨j, hj, rfl⟩
    exact ⟨show nI 0 ≤ nI j from nI_le (Nat.zero_le j) (by omega), show nI j ≤ nI 20 from nI_le (by omega) (by decide)⟩
  · intro h
    obtain ⟨j, -, h2, e⟩ := zR_nat (n := 0) (m := 20) (by decide) h rfl rfl
    exact ⟨j, by omega, e⟩
section TN
variable {cA : Nat → ClassId} {g0 : Nat} {ad adm : zk_K → Nat} {o b nc nt dy nl : Nat} {th : Int32} {mo : Int64} {I : zIA} {L : zLA} {h : Nat → Int64}
/-- behind a turn: both worlds of one picture, and the answer -/
def zTn (cA : Nat → ClassId) (g0 : Nat) (ad adm : zk_K → Nat) (o b : Nat) (r : Int32) (v : Int64) (W' wm' : zk_W) : Prop :=
  ∃ (ad' : zk_K → Nat) (nc nt dy nl : Nat) (mo : Int64) (I : zIA) (L : zLA) (h : Nat → Int64), ad' (0, 0, 0) = ad (0, 0, 0) ∧ W' = zk_sum 50 (cw cA g0 ad' 6 nc nc 6 nt dy mo I L) (outW cA o h) ∧ wm' = mw cA adm dy nc nt nl r mo I L ∧ zInv nc nt dy (b + 12) I L ∧ (r = 0 → h 0 = v)
theorem zTn_e {r : Int32} {v : Int64} (hI : zInv nc nt dy b I L) (hr : r ≠ 0) : zTn cA g0 ad adm o b r v (zk_sum 50 (cw cA g0 ad 6 nc nc 6 nt dy mo I L) (outW cA o h)) (mw cA adm dy nc nt nl r mo I L) := ⟨ad, nc, nt, dy, nl, mo, I, L, h, rfl, rfl, rfl, hI.mono (by omega), fun z => absurd z hr⟩
theorem zTn_s {v : Int64} (hI : zInv nc nt dy b I L) : zTn cA g0 ad adm o b 0 v (zk_sum 50 (cw cA g0 ad 6 nc nc 6 nt dy mo I L) (outW cA o (vp_updL h 0 v))) (mw cA adm dy nc nt nl 0 mo I L) := ⟨ad, nc, nt, dy, nl, mo, I, L, _, rfl, rfl, rfl, hI.mono (by omega), fun _ => pk_uLs⟩
set_option maxRecDepth 20000 in
theorem tn_price (hI : zInv nc nt dy b I L) (hb : b ≤ 8000) (f its : Int32) {r : Int32} {x : Int32} {W' wm' : zk_W} (hC : (∃ x1 w', (fun (r : Int32) (w' : zk_W) => ∃ j, j < 6 ∧ f = nI j ∧ zR its 10 1000000 ∧ I 1 j = r ∧ cw cA g0 ad 6 nc nc 6 nt dy mo (up2 I 1 j its) L = w') x1 w' ∧ 0 = r ∧ zk_sum 50 w' (outW cA o (vp_updL h 0 (Int32.toInt64 x1))) = W') ∨ (∃ w', (fun (E : String) (w' : zk_W) => cw cA g0 ad 6 nc nc 6 nt dy mo I L = w' ∧ ((¬ zIn f 6 ∧ E = xI) ∨ (zIn f 6 ∧ ¬ zR its 10 1000000 ∧ E = xA))) xI w' ∧ 1 = r ∧ zk_sum 50 w' (outW cA o h) = W') ∨ (∃ w', (fun (E : String) (w' : zk_W) => cw cA g0 ad 6 nc nc 6 nt dy mo I L = w' ∧ ((¬ zIn f 6 ∧ E = xI) ∨ (zIn f 6 ∧ ¬ zR its 10 1000000 ∧ E = xA))) xA w' ∧ 2 = r ∧ zk_sum 50 w' (outW cA o h) = W')) (hM : (fun (r : Int32) w' => (¬ zIn f 6 ∧ w' = mw cA adm dy nc nt nl 1 mo I L) ∨ (zIn f 6 ∧ ¬ zR its 10 1000000 ∧ w' = mw cA adm dy nc nt nl 2 mo I L) ∨ (∃ j, j < 6 ∧ f = nI j ∧ zR its 10 1000000 ∧ I 1 j = r ∧ w' = mw cA adm dy nc nt nl 0 mo (up2 I 1 j its) L)) x wm') : zTn cA g0 ad adm o b r (Int32.toInt64 x) W' wm' := by
  rcases hC with ⟨x1, w', ⟨j, hj, rfl, hz, rfl, rfl⟩, rfl, rfl⟩ | ⟨w', ⟨rfl, hx⟩, rfl, rfl⟩ | ⟨w', ⟨rfl, hx⟩, rfl, rfl⟩
  · rcases hM with ⟨h1, rfl⟩ | ⟨-, h2, rfl⟩ | ⟨j', hj', e, -, rfl, rfl⟩
    · exact absurd ⟨j, hj, rfl⟩ h1
    · exact absurd hz h2
    · obtain rfl := nIj (n := 6) (by decide) hj hj' e
      exact ⟨ad, nc, nt, dy, nl, mo, _, L, _, rfl, rfl, rfl, (inv_price hI hz).mono (by omega), fun _ => pk_uLs⟩
  · rcases hx with ⟨h1, -⟩ | ⟨-, -, e⟩
    · rcases hM with ⟨-, rfl⟩ | ⟨h2, -, rfl⟩ | ⟨j', hj', e, -, rfl, rfl⟩
      · exact zTn_e hI (by decide)
      · exact absurd h2 h1
      · exact absurd ⟨j', hj', e⟩ h1
    · exact absurd e xIA
  · rcases hx with ⟨-, e⟩ | ⟨h1, h2, -⟩
    · exact absurd e xIA.symm
    · rcases hM with ⟨h3, rfl⟩ | ⟨-, -, rfl⟩ | ⟨j', hj', e, h3, rfl, rfl⟩
      · exact absurd h1 h3
      · exact zTn_e hI (by decide)
      · exact absurd h3 h2
set_option maxRecDepth 20000 in
theorem tn_client (hI : zInv nc nt dy b I L) (hb : b ≤ 8000) {r : Int32} {x : Int32} {W' wm' : zk_W} (hC : (∃ x1 w', (fun (r : Int32) (w' : zk_W) => nc < 12 ∧ nI nc = r ∧ ∃ ad' : zk_K → Nat, ad' (0, 0, 0) = ad (0, 0, 0) ∧ cw cA g0 ad' 6 (nc + 1) (nc + 1) 6 nt dy mo I L = w') x1 w' ∧ 0 = r ∧ zk_sum 50 w' (outW cA o (vp_updL h 0 (Int32.toInt64 x1))) = W') ∨ (∃ w', (fun (E : String) (w' : zk_W) => cw cA g0 ad 6 nc nc 6 nt dy mo I L = w' ∧ (nc = 12 ∧ E = xS)) xS w' ∧ 1 = r ∧ zk_sum 50 w' (outW cA o h) = W')) (hM : (fun (r : Int32) w' => (nc = 12 ∧ w' = mw cA adm dy nc nt nl 1 mo I L) ∨ (nc < 12 ∧ nI nc = r ∧ w' = mw cA adm dy (nc + 1) nt nl 0 mo I L)) x wm') : zTn cA g0 ad adm o b r (Int32.toInt64 x) W' wm' := by
  rcases hC with ⟨x1, w', ⟨h1, rfl, ad', hA, rfl⟩, rfl, rfl⟩ | ⟨w', ⟨rfl, h1, -⟩, rfl, rfl⟩
  · rcases hM with ⟨h2, rfl⟩ | ⟨-, rfl, rfl⟩
    · omega
    · exact ⟨ad', nc + 1, nt, dy, nl, mo, I, L, _, hA, rfl, rfl, (inv_client hI h1).mono (by omega), fun _ => pk_uLs⟩
  · rcases hM with ⟨-, rfl⟩ | ⟨h2, rfl, rfl⟩
    · exact zTn_e hI (by decide)
    · omega
set_option maxRecDepth 20000 in
theorem tn_pay (hI : zInv nc nt dy b I L) (hb : b ≤ 8000) (cx cents : Int32) {r : Int32} {x : Int64} {W' wm' : zk_W} (hC : (∃ x1 w', (fun (r : Int64) (w' : zk_W) => ∃ j, j < nc ∧ cx = nI j ∧ zR cents (-10000000) 10000000 ∧ ¬ (cents < 0 ∧ L 6 j + Int32.toInt64 cents < 0) ∧ L 6 j + Int32.toInt64 cents = r ∧ cw cA g0 ad 6 nc nc 6 nt dy mo I (up2 L 6 j (L 6 j + Int32.toInt64 cents)) = w') x1 w' ∧ 0 = r ∧ zk_sum 50 w' (outW cA o (vp_updL h 0 (x1))) = W') ∨ (∃ w', (fun (E : String) (w' : zk_W) => cw cA g0 ad 6 nc nc 6 nt dy mo I L = w' ∧ ((¬ zIn cx nc ∧ E = xI) ∨ (zIn cx nc ∧ ¬ zR cents (-10000000) 10000000 ∧ E = xA) ∨ (∃ j, j < nc ∧ cx = nI j ∧ zR cents (-10000000) 10000000 ∧ cents < 0 ∧ L 6 j + Int32.toInt64 cents < 0 ∧ E = xS))) xI w' ∧ 1 = r ∧ zk_sum 50 w' (outW cA o h) = W') ∨ (∃ w', (fun (E : String) (w' : zk_W) => cw cA g0 ad 6 nc nc 6 nt dy mo I L = w' ∧ ((¬ zIn cx nc ∧ E = xI) ∨ (zIn cx nc ∧ ¬ zR cents (-10000000) 10000000 ∧ E = xA) ∨ (∃ j, j < nc ∧ cx = nI j ∧ zR cents (-10000000) 10000000 ∧ cents < 0 ∧ L 6 j + Int32.toInt64 cents < 0 ∧ E = xS))) xA w' ∧ 2 = r ∧ zk_sum 50 w' (outW cA o h) = W') ∨ (∃ w', (fun (E : String) (w' : zk_W) => cw cA g0 ad 6 nc nc 6 nt dy mo I L = w' ∧ ((¬ zIn cx nc ∧ E = xI) ∨ (zIn cx nc ∧ ¬ zR cents (-10000000) 10000000 ∧ E = xA) ∨ (∃ j, j < nc ∧ cx = nI j ∧ zR cents (-10000000) 10000000 ∧ cents < 0 ∧ L 6 j + Int32.toInt64 cents < 0 ∧ E = xS))) xS w' ∧ 3 = r ∧ zk_sum 50 w' (outW cA o h) = W')) (hM : (fun (r : Int64) w' => (¬ zIn cx nc ∧ w' = mw cA adm dy nc nt nl 1 mo I L) ∨ (zIn cx nc ∧ ¬ zR cents (-10000000) 10000000 ∧ w' = mw cA adm dy nc nt nl 2 mo I L) ∨ (∃ j, j < nc ∧ cx = nI j ∧ zR cents (-10000000) 10000000 ∧ ((cents < 0 ∧ L 6 j + Int32.toInt64 cents < 0 ∧ w' = mw cA adm dy nc nt nl 3 mo I L) ∨ (¬ (cents < 0 ∧ L 6 j + Int32.toInt64 cents < 0) ∧ L 6 j + Int32.toInt64 cents = r ∧ w' = mw cA adm dy nc nt nl 0 mo I (up2 L 6 j (L 6 j + Int32.toInt64 cents)))))) x wm') : zTn cA g0 ad adm o b r (x) W' wm' := by
  have hn := hI.1.1
  rcases hC with ⟨x1, w', ⟨j, hj, rfl, hz, hn3, rfl, rfl⟩, rfl, rfl⟩ | ⟨w', ⟨rfl, hx⟩, rfl, rfl⟩ | ⟨w', ⟨rfl, hx⟩, rfl, rfl⟩ | ⟨w', ⟨rfl, hx⟩, rfl, rfl⟩
  · rcases hM with ⟨h1, rfl⟩ | ⟨-, h2, rfl⟩ | ⟨j', hj', e, -, ⟨h3, h4, rfl⟩ | ⟨-, rfl, rfl⟩⟩
    · exact absurd ⟨j, hj, rfl⟩ h1
    · exact absurd hz h2
    · obtain rfl := nIj (n := nc) (by omega) hj hj' e
      exact absurd ⟨h3, h4⟩ hn3
    · obtain rfl := nIj (n := nc) (by omega) hj hj' e
      exact ⟨ad, nc, nt, dy, nl, mo, I, _, _, rfl, rfl, rfl, (inv_pay hI hj).mono (by omega), fun _ => pk_uLs⟩
  · rcases hx with ⟨h1, -⟩ | ⟨-, -, e⟩ | ⟨j, -, -, -, -, -, e⟩
    · rcases hM with ⟨-, rfl⟩ | ⟨h2, -, rfl⟩ | ⟨j', hj', e, -⟩
      · exact zTn_e hI (by decide)
      · exact absurd h2 h1
      · exact absurd ⟨j', hj', e⟩ h1
    · exact absurd e xIA
    · exact absurd e xIS
  · rcases hx with ⟨-, e⟩ | ⟨h1, h2, -⟩ | ⟨j, -, -, -, -, -, e⟩
    · exact absurd e xIA.symm
    · rcases hM with ⟨h3, rfl⟩ | ⟨-, -, rfl⟩ | ⟨j', hj', e, h3, -⟩
      · exact absurd h1 h3
      · exact zTn_e hI (by decide)
      · exact absurd h3 h2
    · exact absurd e xAS
  · rcases hx with ⟨-, e⟩ | ⟨-, -, e⟩ | ⟨j, hj, rfl, hz, h1, h2, -⟩
    · exact absurd e xIS.symm
    · exact absurd e xAS.symm
    · rcases hM with ⟨h3, rfl⟩ | ⟨-, h3, rfl⟩ | ⟨j', hj', e, -, ⟨-, -, rfl⟩ | ⟨h3, rfl, rfl⟩⟩
      · exact absurd ⟨j, hj, rfl⟩ h3
      · exact absurd hz h3
      · exact zTn_e hI (by decide)
      · obtain rfl := nIj (n := nc) (by omega) hj hj' e
        exact absurd ⟨h1, h2⟩ h3
set_option maxRecDepth 20000 in
theorem tn_goal (hI : zInv nc nt dy b I L) (hb : b ≤ 8000) (cx f its : Int32) {r : Int32} {x : Int32} {W' wm' : zk_W} (hC : (∃ x1 w', (fun (r : Int32) (w' : zk_W) => ∃ j k, j < nc ∧ cx = nI j ∧ k < 6 ∧ f = nI k ∧ zR its 0 100 ∧ ¬ 100 < hunT I j 6 - I 7 (6 * j + k) + its ∧ hunT I j 6 - I 7 (6 * j + k) + its = r ∧ cw cA g0 ad 6 nc nc 6 nt dy mo (up2 I 7 (6 * j + k) its) L = w') x1 w' ∧ 0 = r ∧ zk_sum 50 w' (outW cA o (vp_updL h 0 (Int32.toInt64 x1))) = W') ∨ (∃ w', (fun (E : String) (w' : zk_W) => cw cA g0 ad 6 nc nc 6 nt dy mo I L = w' ∧ ((¬ (zIn cx nc ∧ zIn f 6) ∧ E = xI) ∨ (zIn cx nc ∧ zIn f 6 ∧ ¬ zR its 0 100 ∧ E = xA) ∨ (∃ j k, j < nc ∧ cx = nI j ∧ k < 6 ∧ f = nI k ∧ zR its 0 100 ∧ 100 < hunT I j 6 - I 7 (6 * j + k) + its ∧ E = xS))) xI w' ∧ 1 = r ∧ zk_sum 50 w' (outW cA o h) = W') ∨ (∃ w', (fun (E : String) (w' : zk_W) => cw cA g0 ad 6 nc nc 6 nt dy mo I L = w' ∧ ((¬ (zIn cx nc ∧ zIn f 6) ∧ E = xI) ∨ (zIn cx nc ∧ zIn f 6 ∧ ¬ zR its 0 100 ∧ E = xA) ∨ (∃ j k, j < nc ∧ cx = nI j ∧ k < 6 ∧ f = nI k ∧ zR its 0 100 ∧ 100 < hunT I j 6 - I 7 (6 * j + k) + its ∧ E = xS))) xA w' ∧ 2 = r ∧ zk_sum 50 w' (outW cA o h) = W') ∨ (∃ w', (fun (E : String) (w' : zk_W) => cw cA g0 ad 6 nc nc 6 nt dy mo I L = w' ∧ ((¬ (zIn cx nc ∧ zIn f 6) ∧ E = xI) ∨ (zIn cx nc ∧ zIn f 6 ∧ ¬ zR its 0 100 ∧ E = xA) ∨ (∃ j k, j < nc ∧ cx = nI j ∧ k < 6 ∧ f = nI k ∧ zR its 0 100 ∧ 100 < hunT I j 6 - I 7 (6 * j + k) + its ∧ E = xS))) xS w' ∧ 3 = r ∧ zk_sum 50 w' (outW cA o h) = W')) (hM : (fun (r : Int32) w' => (¬ (zIn cx nc ∧ zIn f 6) ∧ mw cA adm dy nc nt nl 1 mo I L = w') ∨ (∃ c k, c < nc ∧ cx = nI c ∧ k < 6 ∧ f = nI k ∧ ((¬ zR its 0 100 ∧ mw cA adm dy nc nt nl 2 mo I L = w') ∨ (zR its 0 100 ∧ 100 < sumG I c k its 6 ∧ mw cA adm dy nc nt nl 3 mo I L = w') ∨ (zR its 0 100 ∧ ¬ 100 < sumG I c k its 6 ∧ sumG I c k its 6 = r ∧ mw cA adm dy nc nt nl 0 mo (up2 I 7 (6 * c + k) its) L = w')))) x wm') : zTn cA g0 ad adm o b r (Int32.toInt64 x) W' wm' := by
  have hn := hI.1.1
  rcases hC with ⟨x1, w', ⟨j, k, hj, rfl, hk, rfl, hz, hs, rfl, rfl⟩, rfl, rfl⟩ | ⟨w', ⟨rfl, hx⟩, rfl, rfl⟩ | ⟨w', ⟨rfl, hx⟩, rfl, rfl⟩ | ⟨w', ⟨rfl, hx⟩, rfl, rfl⟩
  · rcases hM with ⟨h1, rfl⟩ | ⟨j', k', hj', e, hk', e', ⟨h2, rfl⟩ | ⟨-, h2, rfl⟩ | ⟨-, -, rfl, rfl⟩⟩
    · exact absurd ⟨⟨j, hj, rfl⟩, ⟨k, hk, rfl⟩⟩ h1
    · exact absurd hz h2
    · obtain rfl := nIj (n := nc) (by omega) hj hj' e
      obtain rfl := nIj (n := 6) (by decide) hk hk' e'
      rw [goal_sum rfl hk] at hs
      exact absurd h2 hs
    · obtain rfl := nIj (n := nc) (by omega) hj hj' e
      obtain rfl := nIj (n := 6) (by decide) hk hk' e'
      rw [goal_sum rfl hk]
      exact ⟨ad, nc, nt, dy, nl, mo, _, L, _, rfl, rfl, rfl, (inv_goal hI hj hk hz).mono (by omega), fun _ => pk_uLs⟩
  · rcases hx with ⟨h1, -⟩ | ⟨-, -, -, e⟩ | ⟨j, k, -, -, -, -, -, -, e⟩
    · rcases hM with ⟨-, rfl⟩ | ⟨j', k', hj', e, hk', e', -⟩
      · exact zTn_e hI (by decide)
      · exact absurd ⟨⟨j', hj', e⟩, ⟨k', hk', e'⟩⟩ h1
    · exact absurd e xIA
    · exact absurd e xIS
  · rcases hx with ⟨-, e⟩ | ⟨h1, h1', h2, -⟩ | ⟨j, k, -, -, -, -, -, -, e⟩
    · exact absurd e xIA.symm
    · rcases hM with ⟨h3, rfl⟩ | ⟨j', k', hj', e, hk', e', ⟨-, rfl⟩ | ⟨h3, -, rfl⟩ | ⟨h3, -, rfl, rfl⟩⟩
      · exact absurd ⟨h1, h1'⟩ h3
      · exact zTn_e hI (by decide)
      · exact absurd h3 h2
      · exact absurd h3 h2
    · exact absurd e xAS
  · rcases hx with ⟨-, e⟩ | ⟨-, -, -, e⟩ | ⟨j, k, hj, rfl, hk, rfl, hz, hs, -⟩
    · exact absurd e xIS.symm
    · exact absurd e xAS.symm
    · rw [goal_sum rfl hk] at hs
      rcases hM with ⟨h3, rfl⟩ | ⟨j', k', hj', e, hk', e', ⟨h3, rfl⟩ | ⟨-, -, rfl⟩ | ⟨-, h3, rfl, rfl⟩⟩
      · exact absurd ⟨⟨j, hj, rfl⟩, ⟨k, hk, rfl⟩⟩ h3
      · exact absurd hz h3
      · exact zTn_e hI (by decide)
      · obtain rfl := nIj (n := nc) (by omega) hj hj' e
        obtain rfl := nIj (n := 6) (by decide) hk hk' e'
        exact absurd hs h3
end TN
