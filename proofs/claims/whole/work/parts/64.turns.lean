/-! ===== the law's turns: class and reference side by side ===== -/
theorem nIj {a b n : Nat} (hn : n ≤ 1000) (ha : a < n) (hb : b < n) (e : nI a = nI b) : a = b := (nI_eq (by omega) (by omega)).mp e
theorem xIA : xI ≠ xA := by decide
theorem xIS : xI ≠ xS := by decide
theorem xAS : xA ≠ xS := by decide
/-- the reference's own rows, and the class's own -/
def jL (L1 L2 : zLA) : zLA := fun a => if a < 24 then L2 a else L1 a
theorem jL_m {L1 L2 : zLA} {a : Nat} (h : a < 24) : jL L1 L2 a = L2 a := if_pos h
theorem jL_c {L1 L2 : zLA} (hs : ∀ a, a < 20 → L1 a = L2 a) {a : Nat} (h : a < 20 ∨ 30 ≤ a) : jL L1 L2 a = L1 a := by
  rcases h with h | h
  · exact (if_pos (by omega)).trans (hs a h).symm
  · exact if_neg (by omega)
theorem zInv_j {nc nt dy b : Nat} {I I' : zIA} {L1 L2 : zLA} (hI : ∀ a, a ≠ 19 → I' a = I a) (hs : ∀ a, a < 20 → L1 a = L2 a) (h : zInv nc nt dy b I L1) : zInv nc nt dy b I' (jL L1 L2) := by
  refine zInv_c (fun a ha => hI a (by omega)) (fun a ha => jL_c hs (by omega)) ?_ ?_ (fun k hk => ?_) (fun k hk f hf => ?_) h
  · intro f hf
    rw [hI 1 (by decide)]
    exact h.2.1 f hf
  · intro i
    rw [hI 7 (by decide)]
    exact h.2.2.1 i
  · rw [jL_c hs (Or.inl (by decide))]
    exact (h.2.2.2.2.2.2.2.2 k hk).1
  · rw [hI 7 (by decide)]
    exact ((h.2.2.2.2.2.2.2.2 k hk).2.2 f hf).2
theorem neg1_nI {j : Nat} (h : j < 2 ^ 31) : ¬ (-1 : Int32) = nI j := fun e => absurd (show (-1 : Int32) < 0 by decide) (by rw [e]; exact nI_pos h)
theorem i32_neg {a : Int32} (h1 : -2147483648 < a.toInt) : (-a).toInt = -a.toInt := by
  have := Int32.toInt_lt a
  rw [Int32.toInt_neg]
  exact Int.bmod_eq_of_le (by omega) (by omega)
theorem zIn_zR {y : Int32} : zIn y 21 ↔ zR y 0 20 := by
  constructor
  · rintro ⟨j, hj, rfl⟩
    exact ⟨show nI 0 ≤ nI j from nI_le (Nat.zero_le j) (by omega), show nI j ≤ nI 20 from nI_le (by omega) (by decide)⟩
  · intro h
    obtain ⟨j, -, h2, e⟩ := zR_nat (n := 0) (m := 20) (by decide) h rfl rfl
    exact ⟨j, by omega, e⟩
section TN
variable {cA : Nat → ClassId} {g0 : Nat} {ad adm : zk_K → Nat} {o b nc nt dy nl : Nat} {th : Int32} {mo : Int64} {I : zIA} {L : zLA} {h : Nat → Int64}
/-- behind a turn: both worlds of one picture, and the answer -/
def zTn (cA : Nat → ClassId) (g0 : Nat) (ad adm : zk_K → Nat) (o b : Nat) (r : Int32) (v : Int64) (W' wm' : zk_W) : Prop :=
  ∃ (ad' : zk_K → Nat) (nc nt dy nl : Nat) (mo : Int64) (I : zIA) (L : zLA) (h : Nat → Int64), ad' (0, 0, 0) = ad (0, 0, 0) ∧ W' = zk_sum 50 (cw cA g0 ad' 6 nc nc 6 nt dy mo I L) (outW cA o h) ∧ wm' = mw cA adm dy nc nt nl r mo I L ∧ zInv nc nt dy (b + 12) I L ∧ (r = 0 → h 0 = v)
theorem zTn_e {r : Int32} {v : Int64} (hI : zInv nc nt dy b I L) (hr : r ≠ 0) : zTn cA g0 ad adm o b r v (zk_sum 50 (cw cA g0 ad 6 nc nc 6 nt dy mo I L) (outW cA o h)) (mw cA adm dy nc nt nl r mo I L) := ⟨ad, nc, nt, dy, nl, mo, I, L, h, rfl, rfl, rfl, hI.mono (by omega), fun z => absurd z hr⟩
theorem zTn_s {v : Int64} (hI : zInv nc nt dy b I L) : zTn cA g0 ad adm o b 0 v (zk_sum 50 (cw cA g0 ad 6 nc nc 6 nt dy mo I L) (outW cA o (vp_updL h 0 v))) (mw cA adm dy nc nt nl 0 mo I L) := ⟨ad, nc, nt, dy, nl, mo, I, L, _, rfl, rfl, rfl, hI.mono (by omega), fun _ => pk_uLs⟩
set_option maxRecDepth 20000 in
theorem tn_price (hI : zInv nc nt dy b I L) (hb : b ≤ 8000) (f its : Int32) {r : Int32} {x : Int32} {W' wm' : zk_W} (hC : (∃ x1 w', (fun (r : Int32) (w' : zk_W) => ∃ j, j < 6 ∧ f = nI j ∧ zR its 10 1000000 ∧ I 1 j = r ∧ cw cA g0 ad 6 nc nc 6 nt dy mo (up2 I 1 j its) L = w') x1 w' ∧ 0 = r ∧ zk_sum 50 w' (outW cA o (vp_updL h 0 (Int32.toInt64 x1))) = W') ∨ (∃ w', (fun (E : String) (w' : zk_W) => cw cA g0 ad 6 nc nc 6 nt dy mo I L = w' ∧ ((¬ zIn f 6 ∧ E = xI) ∨ (zIn f 6 ∧ ¬ zR its 10 1000000 ∧ E = xA))) xI w' ∧ 1 = r ∧ zk_sum 50 w' (outW cA o h) = W') ∨ (∃ w', (fun (E : String) (w' : zk_W) => cw cA g0 ad 6 nc nc 6 nt dy mo I L = w' ∧ ((¬ zIn f 6 ∧ E = xI) ∨ (zIn f 6 ∧ ¬ zR its 10 1000000 ∧ E = xA))) xA w' ∧ 2 = r ∧ zk_sum 50 w' (outW cA o h) = W')) (hM : (fun (r : Int32) w' => (¬ zIn f 6 ∧ w' = mw cA adm dy nc nt nl 1 mo I L) ∨ (zIn f 6 ∧ ¬ zR its 10 1000000 ∧ w' = mw cA adm dy nc nt nl 2 mo I L) ∨ (∃ j, j < 6 ∧ f = nI j ∧ zR its 10 1000000 ∧ I 1 j = r ∧ w' = mw cA adm dy nc nt nl 0 mo (up2 I 1 j its) L)) x wm') : zTn cA g0 ad adm o b r (Int32.toInt64 x) W' wm' := by
  rcases hC with ⟨x1, w', ⟨j, hj, rfl, hz, rfl, rfl⟩, rfl, rfl⟩ | ⟨w', ⟨rfl, hx⟩, rfl, rfl⟩ | ⟨w', ⟨rfl, hx⟩, rfl, rfl⟩
  · rcases hM with ⟨h1, rfl⟩ | ⟨-, h2, rfl⟩ | ⟨j', hj', e, -, rfl, rfl⟩
    · exact absurd ⟨j, hj, rfl⟩ h1
    · exact absurd hz h2
    · obtain rfl := nIj (n := 6) (by decide) hj hj' e
      exact ⟨ad, nc, nt, dy, nl, mo, _, L, _, rfl, rfl, rfl, (inv_price hI hz).mono (by omega), fun _ => pk_uLs⟩
  · rcases hx with ⟨h1, -⟩ | ⟨-, -, e⟩
    · rcases hM with ⟨-, rfl⟩ | ⟨h2, -, rfl⟩ | ⟨j', hj', e, -, rfl, rfl⟩
      · exact zTn_e hI (by decide)
      · exact absurd h2 h1
      · exact absurd ⟨j', hj', e⟩ h1
    · exact absurd e xIA
  · rcases hx with ⟨-, e⟩ | ⟨h1, h2, -⟩
    · exact absurd e xIA.symm
    · rcases hM with ⟨h3, rfl⟩ | ⟨-, -, rfl⟩ | ⟨j', hj', e, h3, rfl, rfl⟩
      · exact absurd h1 h3
      · exact zTn_e hI (by decide)
      · exact absurd h3 h2
set_option maxRecDepth 20000 in
theorem tn_client (hI : zInv nc nt dy b I L) (hb : b ≤ 8000) {r : Int32} {x : Int32} {W' wm' : zk_W} (hC : (∃ x1 w', (fun (r : Int32) (w' : zk_W) => nc < 12 ∧ nI nc = r ∧ ∃ ad' : zk_K → Nat, ad' (0, 0, 0) = ad (0, 0, 0) ∧ cw cA g0 ad' 6 (nc + 1) (nc + 1) 6 nt dy mo I L = w') x1 w' ∧ 0 = r ∧ zk_sum 50 w' (outW cA o (vp_updL h 0 (Int32.toInt64 x1))) = W') ∨ (∃ w', (fun (E : String) (w' : zk_W) => cw cA g0 ad 6 nc nc 6 nt dy mo I L = w' ∧ (nc = 12 ∧ E = xS)) xS w' ∧ 1 = r ∧ zk_sum 50 w' (outW cA o h) = W')) (hM : (fun (r : Int32) w' => (nc = 12 ∧ w' = mw cA adm dy nc nt nl 1 mo I L) ∨ (nc < 12 ∧ nI nc = r ∧ w' = mw cA adm dy (nc + 1) nt nl 0 mo I L)) x wm') : zTn cA g0 ad adm o b r (Int32.toInt64 x) W' wm' := by
  rcases hC with ⟨x1, w', ⟨h1, rfl, ad', hA, rfl⟩, rfl, rfl⟩ | ⟨w', ⟨rfl, h1, -⟩, rfl, rfl⟩
  · rcases hM with ⟨h2, rfl⟩ | ⟨-, rfl, rfl⟩
    · omega
    · exact ⟨ad', nc + 1, nt, dy, nl, mo, I, L, _, hA, rfl, rfl, (inv_client hI h1).mono (by omega), fun _ => pk_uLs⟩
  · rcases hM with ⟨-, rfl⟩ | ⟨h2, rfl, rfl⟩
    · exact zTn_e hI (by decide)
    · omega
set_option maxRecDepth 20000 in
theorem tn_pay (hI : zInv nc nt dy b I L) (hb : b ≤ 8000) (cx cents : Int32) {r : Int32} {x : Int64} {W' wm' : zk_W} (hC : (∃ x1 w', (fun (r : Int64) (w' : zk_W) => ∃ j, j < nc ∧ cx = nI j ∧ zR cents (-10000000) 10000000 ∧ ¬ (cents < 0 ∧ L 6 j + Int32.toInt64 cents < 0) ∧ L 6 j + Int32.toInt64 cents = r ∧ cw cA g0 ad 6 nc nc 6 nt dy mo I (up2 L 6 j (L 6 j + Int32.toInt64 cents)) = w') x1 w' ∧ 0 = r ∧ zk_sum 50 w' (outW cA o (vp_updL h 0 (x1))) = W') ∨ (∃ w', (fun (E : String) (w' : zk_W) => cw cA g0 ad 6 nc nc 6 nt dy mo I L = w' ∧ ((¬ zIn cx nc ∧ E = xI) ∨ (zIn cx nc ∧ ¬ zR cents (-10000000) 10000000 ∧ E = xA) ∨ (∃ j, j < nc ∧ cx = nI j ∧ zR cents (-10000000) 10000000 ∧ cents < 0 ∧ L 6 j + Int32.toInt64 cents < 0 ∧ E = xS))) xI w' ∧ 1 = r ∧ zk_sum 50 w' (outW cA o h) = W') ∨ (∃ w', (fun (E : String) (w' : zk_W) => cw cA g0 ad 6 nc nc 6 nt dy mo I L = w' ∧ ((¬ zIn cx nc ∧ E = xI) ∨ (zIn cx nc ∧ ¬ zR cents (-10000000) 10000000 ∧ E = xA) ∨ (∃ j, j < nc ∧ cx = nI j ∧ zR cents (-10000000) 10000000 ∧ cents < 0 ∧ L 6 j + Int32.toInt64 cents < 0 ∧ E = xS))) xA w' ∧ 2 = r ∧ zk_sum 50 w' (outW cA o h) = W') ∨ (∃ w', (fun (E : String) (w' : zk_W) => cw cA g0 ad 6 nc nc 6 nt dy mo I L = w' ∧ ((¬ zIn cx nc ∧ E = xI) ∨ (zIn cx nc ∧ ¬ zR cents (-10000000) 10000000 ∧ E = xA) ∨ (∃ j, j < nc ∧ cx = nI j ∧ zR cents (-10000000) 10000000 ∧ cents < 0 ∧ L 6 j + Int32.toInt64 cents < 0 ∧ E = xS))) xS w' ∧ 3 = r ∧ zk_sum 50 w' (outW cA o h) = W')) (hM : (fun (r : Int64) w' => (¬ zIn cx nc ∧ w' = mw cA adm dy nc nt nl 1 mo I L) ∨ (zIn cx nc ∧ ¬ zR cents (-10000000) 10000000 ∧ w' = mw cA adm dy nc nt nl 2 mo I L) ∨ (∃ j, j < nc ∧ cx = nI j ∧ zR cents (-10000000) 10000000 ∧ ((cents < 0 ∧ L 6 j + Int32.toInt64 cents < 0 ∧ w' = mw cA adm dy nc nt nl 3 mo I L) ∨ (¬ (cents < 0 ∧ L 6 j + Int32.toInt64 cents < 0) ∧ L 6 j + Int32.toInt64 cents = r ∧ w' = mw cA adm dy nc nt nl 0 mo I (up2 L 6 j (L 6 j + Int32.toInt64 cents)))))) x wm') : zTn cA g0 ad adm o b r (x) W' wm' := by
  have hn := hI.1.1
  rcases hC with ⟨x1, w', ⟨j, hj, rfl, hz, hn3, rfl, rfl⟩, rfl, rfl⟩ | ⟨w', ⟨rfl, hx⟩, rfl, rfl⟩ | ⟨w', ⟨rfl, hx⟩, rfl, rfl⟩ | ⟨w', ⟨rfl, hx⟩, rfl, rfl⟩
  · rcases hM with ⟨h1, rfl⟩ | ⟨-, h2, rfl⟩ | ⟨j', hj', e, -, ⟨h3, h4, rfl⟩ | ⟨-, rfl, rfl⟩⟩
    · exact absurd ⟨j, hj, rfl⟩ h1
    · exact absurd hz h2
    · obtain rfl := nIj (n := nc) (by omega) hj hj' e
      exact absurd ⟨h3, h4⟩ hn3
    · obtain rfl := nIj (n := nc) (by omega) hj hj' e
      exact ⟨ad, nc, nt, dy, nl, mo, I, _, _, rfl, rfl, rfl, (inv_pay hI hj).mono (by omega), fun _ => pk_uLs⟩
  · rcases hx with ⟨h1, -⟩ | ⟨-, -, e⟩ | ⟨j, -, -, -, -, -, e⟩
    · rcases hM with ⟨-, rfl⟩ | ⟨h2, -, rfl⟩ | ⟨j', hj', e, -⟩
      · exact zTn_e hI (by decide)
      · exact absurd h2 h1
      · exact absurd ⟨j', hj', e⟩ h1
    · exact absurd e xIA
    · exact absurd e xIS
  · rcases hx with ⟨-, e⟩ | ⟨h1, h2, -⟩ | ⟨j, -, -, -, -, -, e⟩
    · exact absurd e xIA.symm
    · rcases hM with ⟨h3, rfl⟩ | ⟨-, -, rfl⟩ | ⟨j', hj', e, h3, -⟩
      · exact absurd h1 h3
      · exact zTn_e hI (by decide)
      · exact absurd h3 h2
    · exact absurd e xAS
  · rcases hx with ⟨-, e⟩ | ⟨-, -, e⟩ | ⟨j, hj, rfl, hz, h1, h2, -⟩
    · exact absurd e xIS.symm
    · exact absurd e xAS.symm
    · rcases hM with ⟨h3, rfl⟩ | ⟨-, h3, rfl⟩ | ⟨j', hj', e, -, ⟨-, -, rfl⟩ | ⟨h3, rfl, rfl⟩⟩
      · exact absurd ⟨j, hj, rfl⟩ h3
      · exact absurd hz h3
      · exact zTn_e hI (by decide)
      · obtain rfl := nIj (n := nc) (by omega) hj hj' e
        exact absurd ⟨h1, h2⟩ h3
set_option maxRecDepth 20000 in
theorem tn_goal (hI : zInv nc nt dy b I L) (hb : b ≤ 8000) (cx f its : Int32) {r : Int32} {x : Int32} {W' wm' : zk_W} (hC : (∃ x1 w', (fun (r : Int32) (w' : zk_W) => ∃ j k, j < nc ∧ cx = nI j ∧ k < 6 ∧ f = nI k ∧ zR its 0 100 ∧ ¬ 100 < hunT I j 6 - I 7 (6 * j + k) + its ∧ hunT I j 6 - I 7 (6 * j + k) + its = r ∧ cw cA g0 ad 6 nc nc 6 nt dy mo (up2 I 7 (6 * j + k) its) L = w') x1 w' ∧ 0 = r ∧ zk_sum 50 w' (outW cA o (vp_updL h 0 (Int32.toInt64 x1))) = W') ∨ (∃ w', (fun (E : String) (w' : zk_W) => cw cA g0 ad 6 nc nc 6 nt dy mo I L = w' ∧ ((¬ (zIn cx nc ∧ zIn f 6) ∧ E = xI) ∨ (zIn cx nc ∧ zIn f 6 ∧ ¬ zR its 0 100 ∧ E = xA) ∨ (∃ j k, j < nc ∧ cx = nI j ∧ k < 6 ∧ f = nI k ∧ zR its 0 100 ∧ 100 < hunT I j 6 - I 7 (6 * j + k) + its ∧ E = xS))) xI w' ∧ 1 = r ∧ zk_sum 50 w' (outW cA o h) = W') ∨ (∃ w', (fun (E : String) (w' : zk_W) => cw cA g0 ad 6 nc nc 6 nt dy mo I L = w' ∧ ((¬ (zIn cx nc ∧ zIn f 6) ∧ E = xI) ∨ (zIn cx nc ∧ zIn f 6 ∧ ¬ zR its 0 100 ∧ E = xA) ∨ (∃ j k, j < nc ∧ cx = nI j ∧ k < 6 ∧ f = nI k ∧ zR its 0 100 ∧ 100 < hunT I j 6 - I 7 (6 * j + k) + its ∧ E = xS))) xA w' ∧ 2 = r ∧ zk_sum 50 w' (outW cA o h) = W') ∨ (∃ w', (fun (E : String) (w' : zk_W) => cw cA g0 ad 6 nc nc 6 nt dy mo I L = w' ∧ ((¬ (zIn cx nc ∧ zIn f 6) ∧ E = xI) ∨ (zIn cx nc ∧ zIn f 6 ∧ ¬ zR its 0 100 ∧ E = xA) ∨ (∃ j k, j < nc ∧ cx = nI j ∧ k < 6 ∧ f = nI k ∧ zR its 0 100 ∧ 100 < hunT I j 6 - I 7 (6 * j + k) + its ∧ E = xS))) xS w' ∧ 3 = r ∧ zk_sum 50 w' (outW cA o h) = W')) (hM : (fun (r : Int32) w' => (¬ (zIn cx nc ∧ zIn f 6) ∧ mw cA adm dy nc nt nl 1 mo I L = w') ∨ (∃ c k, c < nc ∧ cx = nI c ∧ k < 6 ∧ f = nI k ∧ ((¬ zR its 0 100 ∧ mw cA adm dy nc nt nl 2 mo I L = w') ∨ (zR its 0 100 ∧ 100 < sumG I c k its 6 ∧ mw cA adm dy nc nt nl 3 mo I L = w') ∨ (zR its 0 100 ∧ ¬ 100 < sumG I c k its 6 ∧ sumG I c k its 6 = r ∧ mw cA adm dy nc nt nl 0 mo (up2 I 7 (6 * c + k) its) L = w')))) x wm') : zTn cA g0 ad adm o b r (Int32.toInt64 x) W' wm' := by
  have hn := hI.1.1
  rcases hC with ⟨x1, w', ⟨j, k, hj, rfl, hk, rfl, hz, hs, rfl, rfl⟩, rfl, rfl⟩ | ⟨w', ⟨rfl, hx⟩, rfl, rfl⟩ | ⟨w', ⟨rfl, hx⟩, rfl, rfl⟩ | ⟨w', ⟨rfl, hx⟩, rfl, rfl⟩
  · rcases hM with ⟨h1, rfl⟩ | ⟨j', k', hj', e, hk', e', ⟨h2, rfl⟩ | ⟨-, h2, rfl⟩ | ⟨-, -, rfl, rfl⟩⟩
    · exact absurd ⟨⟨j, hj, rfl⟩, ⟨k, hk, rfl⟩⟩ h1
    · exact absurd hz h2
    · obtain rfl := nIj (n := nc) (by omega) hj hj' e
      obtain rfl := nIj (n := 6) (by decide) hk hk' e'
      rw [goal_sum rfl hk] at hs
      exact absurd h2 hs
    · obtain rfl := nIj (n := nc) (by omega) hj hj' e
      obtain rfl := nIj (n := 6) (by decide) hk hk' e'
      rw [goal_sum rfl hk]
      exact ⟨ad, nc, nt, dy, nl, mo, _, L, _, rfl, rfl, rfl, (inv_goal hI hj hk hz).mono (by omega), fun _ => pk_uLs⟩
  · rcases hx with ⟨h1, -⟩ | ⟨-, -, -, e⟩ | ⟨j, k, -, -, -, -, -, -, e⟩
    · rcases hM with ⟨-, rfl⟩ | ⟨j', k', hj', e, hk', e', -⟩
      · exact zTn_e hI (by decide)
      · exact absurd ⟨⟨j', hj', e⟩, ⟨k', hk', e'⟩⟩ h1
    · exact absurd e xIA
    · exact absurd e xIS
  · rcases hx with ⟨-, e⟩ | ⟨h1, h1', h2, -⟩ | ⟨j, k, -, -, -, -, -, -, e⟩
    · exact absurd e xIA.symm
    · rcases hM with ⟨h3, rfl⟩ | ⟨j', k', hj', e, hk', e', ⟨-, rfl⟩ | ⟨h3, -, rfl⟩ | ⟨h3, -, rfl, rfl⟩⟩
      · exact absurd ⟨h1, h1'⟩ h3
      · exact zTn_e hI (by decide)
      · exact absurd h3 h2
      · exact absurd h3 h2
    · exact absurd e xAS
  · rcases hx with ⟨-, e⟩ | ⟨-, -, -, e⟩ | ⟨j, k, hj, rfl, hk, rfl, hz, hs, -⟩
    · exact absurd e xIS.symm
    · exact absurd e xAS.symm
    · rw [goal_sum rfl hk] at hs
      rcases hM with ⟨h3, rfl⟩ | ⟨j', k', hj', e, hk', e', ⟨h3, rfl⟩ | ⟨-, -, rfl⟩ | ⟨-, h3, rfl, rfl⟩⟩
      · exact absurd ⟨⟨j, hj, rfl⟩, ⟨k, hk, rfl⟩⟩ h3
      · exact absurd hz h3
      · exact zTn_e hI (by decide)
      · obtain rfl := nIj (n := nc) (by omega) hj hj' e
        obtain rfl := nIj (n := 6) (by decide) hk hk' e'
        exact absurd hs h3
set_option maxRecDepth 20000 in
theorem tn_cash (hI : zInv nc nt dy b I L) (hb : b ≤ 8000) (cx : Int32) {r : Int32} {x : Int64} {W' wm' : zk_W} (hC : (∃ x1 w', (fun (r : Int64) (w' : zk_W) => (cx = -1 ∧ mo = r ∧ cw cA g0 ad 6 nc nc 6 nt dy mo I L = w') ∨ (∃ j, j < nc ∧ cx = nI j ∧ L 6 j = r ∧ cw cA g0 ad 6 nc nc 6 nt dy mo I L = w')) x1 w' ∧ 0 = r ∧ zk_sum 50 w' (outW cA o (vp_updL h 0 (x1))) = W') ∨ (∃ w', (fun (E : String) (w' : zk_W) => cw cA g0 ad 6 nc nc 6 nt dy mo I L = w' ∧ (¬ (cx = -1 ∨ zIn cx nc) ∧ E = xI)) xI w' ∧ 1 = r ∧ zk_sum 50 w' (outW cA o h) = W')) (hM : (fun (r : Int64) w' => (¬ (cx = -1 ∨ zIn cx nc) ∧ mw cA adm dy nc nt nl 1 mo I L = w') ∨ (cx = -1 ∧ mo = r ∧ mw cA adm dy nc nt nl 0 mo I L = w') ∨ (∃ c, c < nc ∧ cx = nI c ∧ L 6 c = r ∧ mw cA adm dy nc nt nl 0 mo I L = w')) x wm') : zTn cA g0 ad adm o b r (x) W' wm' := by
  rcases hC with ⟨x1, w', ⟨rfl, rfl, rfl⟩ | ⟨j, hj, rfl, rfl, rfl⟩, rfl, rfl⟩ | ⟨w', ⟨rfl, h1, -⟩, rfl, rfl⟩
  · rcases hM with ⟨h2, rfl⟩ | ⟨-, rfl, rfl⟩ | ⟨j', hj', e, -⟩
    · exact absurd (Or.inl rfl) h2
    · exact zTn_s hI
    · exact absurd e (neg1_nI (by have := hI.1.1; omega))
  · rcases hM with ⟨h2, rfl⟩ | ⟨e, rfl, rfl⟩ | ⟨j', hj', e, rfl, rfl⟩
    · exact absurd (Or.inr ⟨j, hj, rfl⟩) h2
    · exact absurd e.symm (neg1_nI (by have := hI.1.1; omega))
    · obtain rfl := nIj (n := nc) (by have := hI.1.1; omega) hj hj' e
      exact zTn_s hI
  · rcases hM with ⟨-, rfl⟩ | ⟨e, rfl, rfl⟩ | ⟨j', hj', e, rfl, rfl⟩
    · exact zTn_e hI (by decide)
    · exact absurd (Or.inl e) h1
    · exact absurd (Or.inr ⟨j', hj', e⟩) h1
set_option maxRecDepth 20000 in
theorem tn_parts (hI : zInv nc nt dy b I L) (hb : b ≤ 8000) (cx f : Int32) {r : Int32} {x : Int64} {W' wm' : zk_W} (hC : (∃ x1 w', (fun (r : Int64) (w' : zk_W) => ∃ k, k < 6 ∧ f = nI k ∧ ((cx = -1 ∧ L 3 k = r ∧ cw cA g0 ad 6 nc nc 6 nt dy mo I L = w') ∨ (∃ j, j < nc ∧ cx = nI j ∧ L 8 (6 * j + k) = r ∧ cw cA g0 ad 6 nc nc 6 nt dy mo I L = w'))) x1 w' ∧ 0 = r ∧ zk_sum 50 w' (outW cA o (vp_updL h 0 (x1))) = W') ∨ (∃ w', (fun (E : String) (w' : zk_W) => cw cA g0 ad 6 nc nc 6 nt dy mo I L = w' ∧ (¬ ((cx = -1 ∨ zIn cx nc) ∧ zIn f 6) ∧ E = xI)) xI w' ∧ 1 = r ∧ zk_sum 50 w' (outW cA o h) = W')) (hM : (fun (r : Int64) w' => (¬ ((cx = -1 ∨ zIn cx nc) ∧ zIn f 6) ∧ mw cA adm dy nc nt nl 1 mo I L = w') ∨ (∃ k, k < 6 ∧ f = nI k ∧ ((cx = -1 ∧ L 3 k = r ∧ mw cA adm dy nc nt nl 0 mo I L = w') ∨ (∃ c, c < nc ∧ cx = nI c ∧ L 8 (6 * c + k) = r ∧ mw cA adm dy nc nt nl 0 mo I L = w')))) x wm') : zTn cA g0 ad adm o b r (x) W' wm' := by
  have hn := hI.1.1
  rcases hC with ⟨x1, w', ⟨k, hk, rfl, ⟨rfl, rfl, rfl⟩ | ⟨j, hj, rfl, rfl, rfl⟩⟩, rfl, rfl⟩ | ⟨w', ⟨rfl, h1, -⟩, rfl, rfl⟩
  · rcases hM with ⟨h2, rfl⟩ | ⟨k', hk', e', ⟨-, rfl, rfl⟩ | ⟨j', hj', e, -⟩⟩
    · exact absurd ⟨Or.inl rfl, ⟨k, hk, rfl⟩⟩ h2
    · obtain rfl := nIj (n := 6) (by decide) hk hk' e'
      exact zTn_s hI
    · exact absurd e (neg1_nI (by omega))
  · rcases hM with ⟨h2, rfl⟩ | ⟨k', hk', e', ⟨e, rfl, rfl⟩ | ⟨j', hj', e, rfl, rfl⟩⟩
    · exact absurd ⟨Or.inr ⟨j, hj, rfl⟩, ⟨k, hk, rfl⟩⟩ h2
    · exact absurd e.symm (neg1_nI (by omega))
    · obtain rfl := nIj (n := 6) (by decide) hk hk' e'
      obtain rfl := nIj (n := nc) (by omega) hj hj' e
      exact zTn_s hI
  · rcases hM with ⟨-, rfl⟩ | ⟨k', hk', e', ⟨e, rfl, rfl⟩ | ⟨j', hj', e, rfl, rfl⟩⟩
    · exact zTn_e hI (by decide)
    · exact absurd ⟨Or.inl e, ⟨k', hk', e'⟩⟩ h1
    · exact absurd ⟨Or.inr ⟨j', hj', e⟩, ⟨k', hk', e'⟩⟩ h1
set_option maxRecDepth 20000 in
theorem tn_units (hI : zInv nc nt dy b I L) (hb : b ≤ 8000) (f : Int32) {r : Int32} {x : Int64} {W' wm' : zk_W} (hC : (∃ x1 w', (fun (r : Int64) (w' : zk_W) => ∃ k, k < 6 ∧ f = nI k ∧ L 2 k = r ∧ cw cA g0 ad 6 nc nc 6 nt dy mo I L = w') x1 w' ∧ 0 = r ∧ zk_sum 50 w' (outW cA o (vp_updL h 0 (x1))) = W') ∨ (∃ w', (fun (E : String) (w' : zk_W) => cw cA g0 ad 6 nc nc 6 nt dy mo I L = w' ∧ (¬ zIn f 6 ∧ E = xI)) xI w' ∧ 1 = r ∧ zk_sum 50 w' (outW cA o h) = W')) (hM : (fun (r : Int64) w' => (¬ zIn f 6 ∧ mw cA adm dy nc nt nl 1 mo I L = w') ∨ (∃ k, k < 6 ∧ f = nI k ∧ L 2 k = r ∧ mw cA adm dy nc nt nl 0 mo I L = w')) x wm') : zTn cA g0 ad adm o b r (x) W' wm' := by
  rcases hC with ⟨x1, w', ⟨k, hk, rfl, rfl, rfl⟩, rfl, rfl⟩ | ⟨w', ⟨rfl, h1, -⟩, rfl, rfl⟩
  · rcases hM with ⟨h2, rfl⟩ | ⟨k', hk', e', rfl, rfl⟩
    · exact absurd ⟨k, hk, rfl⟩ h2
    · obtain rfl := nIj (n := 6) (by decide) hk hk' e'
      exact zTn_s hI
  · rcases hM with ⟨-, rfl⟩ | ⟨k', hk', e', rfl, rfl⟩
    · exact zTn_e hI (by decide)
    · exact absurd ⟨k', hk', e'⟩ h1
set_option maxRecDepth 20000 in
theorem tn_wealth (hI : zInv nc nt dy b I L) (hb : b ≤ 8000) (cx : Int32) {r : Int32} {x : Int64} {W' wm' : zk_W} (hC : (∃ x1 w', (fun (r : Int64) (w' : zk_W) => ∃ j, j < nc ∧ cx = nI j ∧ wealthL I L j 6 = r ∧ cw cA g0 ad 6 nc nc 6 nt dy mo I L = w') x1 w' ∧ 0 = r ∧ zk_sum 50 w' (outW cA o (vp_updL h 0 (x1))) = W') ∨ (∃ w', (fun (E : String) (w' : zk_W) => cw cA g0 ad 6 nc nc 6 nt dy mo I L = w' ∧ (¬ zIn cx nc ∧ E = xI)) xI w' ∧ 1 = r ∧ zk_sum 50 w' (outW cA o h) = W')) (hM : (fun (r : Int64) w' => (¬ zIn cx nc ∧ mw cA adm dy nc nt nl 1 mo I L = w') ∨ (∃ c, c < nc ∧ cx = nI c ∧ wealthL I L c 6 = r ∧ mw cA adm dy nc nt nl 0 mo I L = w')) x wm') : zTn cA g0 ad adm o b r (x) W' wm' := by
  have hn := hI.1.1
  rcases hC with ⟨x1, w', ⟨k, hk, rfl, rfl, rfl⟩, rfl, rfl⟩ | ⟨w', ⟨rfl, h1, -⟩, rfl, rfl⟩
  · rcases hM with ⟨h2, rfl⟩ | ⟨k', hk', e', rfl, rfl⟩
    · exact absurd ⟨k, hk, rfl⟩ h2
    · obtain rfl := nIj (n := nc) (by omega) hk hk' e'
      exact zTn_s hI
  · rcases hM with ⟨-, rfl⟩ | ⟨k', hk', e', rfl, rfl⟩
    · exact zTn_e hI (by decide)
    · exact absurd ⟨k', hk', e'⟩ h1
set_option maxRecDepth 20000 in
theorem tn_tradeOf (hI : zInv nc nt dy b I L) (hb : b ≤ 8000) (tx what : Int32) {r : Int32} {x : Int64} {W' wm' : zk_W} (hC : (∃ x1 w', (fun (r : Int64) (w' : zk_W) => ∃ t k, t < nt ∧ tx = nI t ∧ k ≤ 6 ∧ what = nI k ∧ trV I L t k = r ∧ cw cA g0 ad 6 nc nc 6 nt dy mo I L = w') x1 w' ∧ 0 = r ∧ zk_sum 50 w' (outW cA o (vp_updL h 0 (x1))) = W') ∨ (∃ w', (fun (E : String) (w' : zk_W) => cw cA g0 ad 6 nc nc 6 nt dy mo I L = w' ∧ ((¬ zIn tx nt ∧ E = xI) ∨ (zIn tx nt ∧ ¬ zR what 0 6 ∧ E = xA))) xI w' ∧ 1 = r ∧ zk_sum 50 w' (outW cA o h) = W') ∨ (∃ w', (fun (E : String) (w' : zk_W) => cw cA g0 ad 6 nc nc 6 nt dy mo I L = w' ∧ ((¬ zIn tx nt ∧ E = xI) ∨ (zIn tx nt ∧ ¬ zR what 0 6 ∧ E = xA))) xA w' ∧ 2 = r ∧ zk_sum 50 w' (outW cA o h) = W')) (hM : (fun (r : Int64) w' => (¬ zIn tx nt ∧ mw cA adm dy nc nt nl 1 mo I L = w') ∨ (zIn tx nt ∧ ¬ zR what 0 6 ∧ mw cA adm dy nc nt nl 2 mo I L = w') ∨ (∃ t k, t < nt ∧ tx = nI t ∧ k ≤ 6 ∧ what = nI k ∧ trV I L t k = r ∧ mw cA adm dy nc nt nl 0 mo I L = w')) x wm') : zTn cA g0 ad adm o b r (x) W' wm' := by
  have hn := hI.1.2.1
  rcases hC with ⟨x1, w', ⟨t, k, ht, rfl, hk, rfl, rfl, rfl⟩, rfl, rfl⟩ | ⟨w', ⟨rfl, hx⟩, rfl, rfl⟩ | ⟨w', ⟨rfl, hx⟩, rfl, rfl⟩
  · rcases hM with ⟨h2, rfl⟩ | ⟨-, h2, rfl⟩ | ⟨t', k', ht', e, hk', e', rfl, rfl⟩
    · exact absurd ⟨t, ht, rfl⟩ h2
    · exact absurd ⟨show nI 0 ≤ nI k from nI_le (Nat.zero_le k) (by omega), show nI k ≤ nI 6 from nI_le hk (by decide)⟩ h2
    · obtain rfl := nIj (n := nt) (by omega) ht ht' e
      obtain rfl := nIj (n := 7) (by decide) (by omega) (by omega) e'
      exact zTn_s hI
  · rcases hx with ⟨h1, -⟩ | ⟨-, -, e⟩
    · rcases hM with ⟨-, rfl⟩ | ⟨h2, -, rfl⟩ | ⟨t', k', ht', e, -⟩
      · exact zTn_e hI (by decide)
      · exact absurd h2 h1
      · exact absurd ⟨t', ht', e⟩ h1
    · exact absurd e xIA
  · rcases hx with ⟨-, e⟩ | ⟨h1, h2, -⟩
    · exact absurd e xIA.symm
    · rcases hM with ⟨h3, rfl⟩ | ⟨-, -, rfl⟩ | ⟨t', k', ht', e, hk', rfl, -⟩
      · exact absurd h1 h3
      · exact zTn_e hI (by decide)
      · exact absurd ⟨show nI 0 ≤ nI k' from nI_le (Nat.zero_le k') (by omega), show nI k' ≤ nI 6 from nI_le hk' (by decide)⟩ h2
set_option maxRecDepth 20000 in
theorem tn_pass (hI : zInv nc nt dy b I L) (hb : b ≤ 8000) (days : Int32) {r : Int32} {x : Int32} {W' wm' : zk_W} (hC : (∃ x1 w', (fun (r : Int32) (w' : zk_W) => ∃ j, 1 ≤ j ∧ j ≤ 400 ∧ days = nI j ∧ dy + j ≤ 7200 ∧ nI (dy + j) = r ∧ cw cA g0 ad 6 nc nc 6 nt (dy + j) ((epN nc dy I mo L j).2.1) I ((epN nc dy I mo L j).2.2) = w') x1 w' ∧ 0 = r ∧ zk_sum 50 w' (outW cA o (vp_updL h 0 (Int32.toInt64 x1))) = W') ∨ (∃ w', (fun (E : String) (w' : zk_W) => cw cA g0 ad 6 nc nc 6 nt dy mo I L = w' ∧ ((¬ zR days 1 400 ∧ E = xA) ∨ (∃ j, 1 ≤ j ∧ j ≤ 400 ∧ days = nI j ∧ 7200 < dy + j ∧ E = xS))) xA w' ∧ 1 = r ∧ zk_sum 50 w' (outW cA o h) = W') ∨ (∃ w', (fun (E : String) (w' : zk_W) => cw cA g0 ad 6 nc nc 6 nt dy mo I L = w' ∧ ((¬ zR days 1 400 ∧ E = xA) ∨ (∃ j, 1 ≤ j ∧ j ≤ 400 ∧ days = nI j ∧ 7200 < dy + j ∧ E = xS))) xS w' ∧ 2 = r ∧ zk_sum 50 w' (outW cA o h) = W')) (hM : (fun (r : Int32) w' => (¬ zR days 1 400 ∧ mw cA adm dy nc nt nl 1 mo I L = w') ∨ (∃ j, 1 ≤ j ∧ j ≤ 400 ∧ days = nI j ∧ ((7200 < dy + j ∧ mw cA adm dy nc nt nl 2 mo I L = w') ∨ (dy + j ≤ 7200 ∧ nI (dy + j) = r ∧ ∃ s : zP, s = passN nc nt (dy, nl, mo, I, L) j ∧ mw cA adm s.1 nc nt s.2.1 0 s.2.2.1 s.2.2.2.1 s.2.2.2.2 = w')))) x wm') : zTn cA g0 ad adm o b r (Int32.toInt64 x) W' wm' := by
  rcases hC with ⟨x1, w', ⟨j, h1, h2, rfl, h3, rfl, rfl⟩, rfl, rfl⟩ | ⟨w', ⟨rfl, hx⟩, rfl, rfl⟩ | ⟨w', ⟨rfl, hx⟩, rfl, rfl⟩
  · rcases hM with ⟨h4, rfl⟩ | ⟨j', h1', h2', e, ⟨h4, rfl⟩ | ⟨-, rfl, s, hs, rfl⟩⟩
    · exact absurd ⟨show nI 1 ≤ nI j from nI_le h1 (by omega), show nI j ≤ nI 400 from nI_le h2 (by decide)⟩ h4
    · obtain rfl := nIj (n := 401) (by decide) (by omega) (by omega) e
      omega
    · obtain rfl := nIj (n := 401) (by decide) (by omega) (by omega) e
      obtain ⟨r1, r2, r3, r4⟩ := days_rel (nl := nl) (mo := mo) (I' := I) (L' := L) hI (by omega) (fun _ _ => rfl) (fun _ _ => rfl) j h3
      rw [← hs] at r2 r3 r4
      have hs1 : s.1 = dy + j := by rw [hs]; exact passN_dy j
      refine ⟨ad, nc, nt, dy + j, s.2.1, s.2.2.1, s.2.2.2.1, jL (epN nc dy I mo L j).2.2 s.2.2.2.2, _, rfl, ?_, ?_, (zInv_j r3 (fun a ha => (r4 a ha).symm) r1).mono (by omega), fun _ => pk_uLs (f := h)⟩
      · rw [← r2, cw_c (I' := s.2.2.2.1) (L' := jL (epN nc dy I mo L j).2.2 s.2.2.2.2) (fun a ha => r3 a (by omega)) (fun a ha => jL_c (fun a ha => (r4 a ha).symm) ha)]
      · rw [hs1, mw_c (L' := jL (epN nc dy I mo L j).2.2 s.2.2.2.2) (fun a ha => jL_m ha)]
  · rcases hx with ⟨h1, -⟩ | ⟨j, -, -, -, -, e⟩
    · rcases hM with ⟨-, rfl⟩ | ⟨j', h1', h2', rfl, -⟩
      · exact zTn_e hI (by decide)
      · exact absurd ⟨show nI 1 ≤ nI j' from nI_le h1' (by omega), show nI j' ≤ nI 400 from nI_le h2' (by decide)⟩ h1
    · exact absurd e xAS
  · rcases hx with ⟨-, e⟩ | ⟨j, h1, h2, rfl, h3, -⟩
    · exact absurd e xAS.symm
    · rcases hM with ⟨h4, rfl⟩ | ⟨j', h1', h2', e, ⟨h4, rfl⟩ | ⟨h4, -⟩⟩
      · exact absurd ⟨show nI 1 ≤ nI j from nI_le h1 (by omega), show nI j ≤ nI 400 from nI_le h2 (by decide)⟩ h4
      · exact zTn_e hI (by decide)
      · obtain rfl := nIj (n := 401) (by decide) (by omega) (by omega) e
        omega
set_option maxRecDepth 20000 in
theorem tn_lot (hI : zInv nc nt dy b I L) (hb : b ≤ 8000) (cx f rank what : Int32) {r : Int32} {x : Int64} {W' wm' : zk_W} (hC : (∃ x1 w', (fun (r : Int64) (w' : zk_W) => ∃ j k, j < nc ∧ cx = nI j ∧ k < 6 ∧ f = nI k ∧ ¬ rank < 0 ∧ zR what 0 2 ∧ (lfS I L j k rank what nt).getD (-1) = r ∧ cw cA g0 ad 6 nc nc 6 nt dy mo I L = w') x1 w' ∧ 0 = r ∧ zk_sum 50 w' (outW cA o (vp_updL h 0 (x1))) = W') ∨ (∃ w', (fun (E : String) (w' : zk_W) => cw cA g0 ad 6 nc nc 6 nt dy mo I L = w' ∧ ((¬ (zIn cx nc ∧ zIn f 6 ∧ ¬ rank < 0) ∧ E = xI) ∨ (zIn cx nc ∧ zIn f 6 ∧ ¬ rank < 0 ∧ ¬ zR what 0 2 ∧ E = xA))) xI w' ∧ 1 = r ∧ zk_sum 50 w' (outW cA o h) = W') ∨ (∃ w', (fun (E : String) (w' : zk_W) => cw cA g0 ad 6 nc nc 6 nt dy mo I L = w' ∧ ((¬ (zIn cx nc ∧ zIn f 6 ∧ ¬ rank < 0) ∧ E = xI) ∨ (zIn cx nc ∧ zIn f 6 ∧ ¬ rank < 0 ∧ ¬ zR what 0 2 ∧ E = xA))) xA w' ∧ 2 = r ∧ zk_sum 50 w' (outW cA o h) = W')) (hM : (fun (r : Int64) w' => (¬ (zIn cx nc ∧ zIn f 6 ∧ ¬ rank < 0) ∧ mw cA adm dy nc nt nl 1 mo I L = w') ∨ (∃ c k, c < nc ∧ cx = nI c ∧ k < 6 ∧ f = nI k ∧ ¬ rank < 0 ∧ ((¬ zR what 0 2 ∧ mw cA adm dy nc nt nl 2 mo I L = w') ∨ (zR what 0 2 ∧ ∃ Y : zF, Y = fdS I L c k nt ∧ (ltS Y.2.1 Y.2.2 rank what Y.1).2 = r ∧ mw cA adm dy nc nt Y.1 0 mo Y.2.1 Y.2.2 = w')))) x wm') : zTn cA g0 ad adm o b r (x) W' wm' := by
  have hn := hI.1.1
  have hn2 := hI.1.2.1
  rcases hC with ⟨x1, w', ⟨j, k, hj, rfl, hk, rfl, hr, hz, rfl, rfl⟩, rfl, rfl⟩ | ⟨w', ⟨rfl, hx⟩, rfl, rfl⟩ | ⟨w', ⟨rfl, hx⟩, rfl, rfl⟩
  · rcases hM with ⟨h1, rfl⟩ | ⟨j', k', hj', e, hk', e', -, ⟨h2, rfl⟩ | ⟨-, Y, hY, rfl, rfl⟩⟩
    · exact absurd ⟨⟨j, hj, rfl⟩, ⟨k, hk, rfl⟩, hr⟩ h1
    · exact absurd hz h2
    · obtain rfl := nIj (n := nc) (by omega) hj hj' e
      obtain rfl := nIj (n := 6) (by decide) hk hk' e'
      obtain ⟨q1, q2, q3, -⟩ := fd_rel shOK_t (I := I) (I' := I) (L := L) (s := L) (c := j) (f := k) (n := nt) (by omega) hk hI.2.2.2.2.1 (fun _ _ => rfl) (fun _ _ => rfl) nt (Nat.le_refl nt)
      rw [← hY] at q1 q2
      obtain ⟨g1, -⟩ := (hI.2.2.2.2.2.2.2.1 j hj).1
      obtain ⟨-, t2, -⟩ := lt_rel (I := I) (J := Y.2.1) (L := L) (s := Y.2.2) (c := j) (f := k) (n := nt) (rank := rank) (what := what) (by omega) (fun i hi hl => by
        obtain ⟨p1, p2, p3, -⟩ := q2 i hi hl
        obtain ⟨u1, u2⟩ := g1 i hi hl.1.1
        exact ⟨p1, by rw [p2, u1], by rw [p3, u2]⟩) (fun i hi hh hl => by rw [(g1 i hi hh.1).1]; exact q3 i hi hh hl) nt (Nat.le_refl nt)
      rw [q1, t2]
      have hs : ∀ a, a < 20 → L a = Y.2.2 a := fun a ha => by rw [hY]; exact (fdS_a (by omega) (by omega) (by omega) nt).symm
      have hJ : ∀ a, a ≠ 19 → Y.2.1 a = I a := fun a ha => by rw [hY]; exact fdS_I ha nt
      refine ⟨ad, nc, nt, dy, cntH I L j k nt, mo, Y.2.1, jL L Y.2.2, _, rfl, ?_, ?_, (zInv_j hJ hs hI).mono (by omega), fun _ => pk_uLs (f := h)⟩
      · rw [cw_c (I' := Y.2.1) (L' := jL L Y.2.2) (fun a ha => hJ a (by omega)) (fun a ha => jL_c hs ha)]
      · rw [mw_c (L' := jL L Y.2.2) (fun a ha => jL_m ha)]
  · rcases hx with ⟨h1, -⟩ | ⟨-, -, -, -, e⟩
    · rcases hM with ⟨-, rfl⟩ | ⟨j', k', hj', e, hk', e', hr, -⟩
      · exact zTn_e hI (by decide)
      · exact absurd ⟨⟨j', hj', e⟩, ⟨k', hk', e'⟩, hr⟩ h1
    · exact absurd e xIA
  · rcases hx with ⟨-, e⟩ | ⟨h1, h1', hr, h2, -⟩
    · exact absurd e xIA.symm
    · rcases hM with ⟨h3, rfl⟩ | ⟨j', k', hj', e, hk', e', -, ⟨-, rfl⟩ | ⟨h3, -⟩⟩
      · exact absurd ⟨h1, h1', hr⟩ h3
      · exact zTn_e hI (by decide)
      · exact absurd h3 h2
set_option maxRecDepth 20000 in
theorem tn_year (hI : zInv nc nt dy b I L) (hb : b ≤ 8000) (cx y what : Int32) {r : Int32} {x : Int64} {W' wm' : zk_W} (hC : (∃ x1 w', (fun (r : Int64) (w' : zk_W) => ∃ j y' k, j < nc ∧ cx = nI j ∧ y' < 21 ∧ y = nI y' ∧ k ≤ 3 ∧ what = nI k ∧ ycV L j y' k = r ∧ cw cA g0 ad 6 nc nc 6 nt dy mo I L = w') x1 w' ∧ 0 = r ∧ zk_sum 50 w' (outW cA o (vp_updL h 0 (x1))) = W') ∨ (∃ w', (fun (E : String) (w' : zk_W) => cw cA g0 ad 6 nc nc 6 nt dy mo I L = w' ∧ ((¬ (zIn cx nc ∧ zIn y 21) ∧ E = xI) ∨ (zIn cx nc ∧ zIn y 21 ∧ ¬ zR what 0 3 ∧ E = xA))) xI w' ∧ 1 = r ∧ zk_sum 50 w' (outW cA o h) = W') ∨ (∃ w', (fun (E : String) (w' : zk_W) => cw cA g0 ad 6 nc nc 6 nt dy mo I L = w' ∧ ((¬ (zIn cx nc ∧ zIn y 21) ∧ E = xI) ∨ (zIn cx nc ∧ zIn y 21 ∧ ¬ zR what 0 3 ∧ E = xA))) xA w' ∧ 2 = r ∧ zk_sum 50 w' (outW cA o h) = W')) (hM : (fun (r : Int64) w' => (¬ (zIn cx nc ∧ zR y 0 20) ∧ mw cA adm dy nc nt nl 1 mo I L = w') ∨ (∃ c j, c < nc ∧ cx = nI c ∧ j ≤ 20 ∧ y = nI j ∧ ((¬ zR what 0 3 ∧ mw cA adm dy nc nt nl 2 mo I L = w') ∨ (zR what 0 3 ∧ ∃ Y : zF, Y = yearsS (nl, I, L) c nt ∧ yrV Y.2.2 c j what = r ∧ mw cA adm dy nc nt Y.1 0 mo Y.2.1 Y.2.2 = w')))) x wm') : zTn cA g0 ad adm o b r (x) W' wm' := by
  have hn := hI.1.1
  rcases hC with ⟨x1, w', ⟨j, i, k, hj, rfl, hi, rfl, hk, rfl, rfl, rfl⟩, rfl, rfl⟩ | ⟨w', ⟨rfl, hx⟩, rfl, rfl⟩ | ⟨w', ⟨rfl, hx⟩, rfl, rfl⟩
  · have hz : zR (nI k) 0 3 := ⟨show nI 0 ≤ nI k from nI_le (Nat.zero_le k) (by omega), show nI k ≤ nI 3 from nI_le hk (by decide)⟩
    rcases hM with ⟨h1, rfl⟩ | ⟨j', i', hj', e, hi', e', ⟨h2, rfl⟩ | ⟨-, Y, hY, rfl, rfl⟩⟩
    · exact absurd ⟨⟨j, hj, rfl⟩, zIn_zR.mp ⟨i, hi, rfl⟩⟩ h1
    · exact absurd hz h2
    · obtain rfl := nIj (n := nc) (by omega) hj hj' e
      obtain rfl := nIj (n := 21) (by decide) hi (by omega) e'
      obtain ⟨q1, q2, q3⟩ := years_rel shOK_t (I := I) (I' := I) (L := L) (s := L) (c := j) (nl := nl) (n := nt) (by omega) hI.2.2.2.2.1 (fun _ _ => rfl) (fun _ _ => rfl) (hI.2.2.2.2.2.2.2.1 j hj).1.2
      rw [← hY] at q1 q2 q3
      obtain ⟨u1, u2⟩ := q1 i hi
      have hv : yrV Y.2.2 j i (nI k) = ycV L j i k := by
        unfold yrV ycV
        rw [u1, u2, q2 9 (by decide) (by decide) (by decide) (by decide)]
        match k, hk with
        | 0, _ => rfl
        | 1, _ => rfl
        | 2, _ => rfl
        | 3, _ => rfl
      rw [hv]
      have hs : ∀ a, a < 20 → L a = Y.2.2 a := fun a ha => (q2 a (by omega) (by omega) (by omega) (by omega)).symm
      refine ⟨ad, nc, nt, dy, Y.1, mo, Y.2.1, jL L Y.2.2, _, rfl, ?_, ?_, (zInv_j q3 hs hI).mono (by omega), fun _ => pk_uLs (f := h)⟩
      · rw [cw_c (I' := Y.2.1) (L' := jL L Y.2.2) (fun a ha => q3 a (by omega)) (fun a ha => jL_c hs ha)]
      · rw [mw_c (L' := jL L Y.2.2) (fun a ha => jL_m ha)]
  · rcases hx with ⟨h1, -⟩ | ⟨-, -, -, e⟩
    · rcases hM with ⟨-, rfl⟩ | ⟨j', i', hj', e, hi', rfl, -⟩
      · exact zTn_e hI (by decide)
      · exact absurd ⟨⟨j', hj', e⟩, ⟨i', by omega, rfl⟩⟩ h1
    · exact absurd e xIA
  · rcases hx with ⟨-, e⟩ | ⟨h1, h1', h2, -⟩
    · exact absurd e xIA.symm
    · rcases hM with ⟨h3, rfl⟩ | ⟨j', i', hj', e, hi', e', ⟨-, rfl⟩ | ⟨h3, -⟩⟩
      · exact absurd ⟨h1, zIn_zR.mp h1'⟩ h3
      · exact zTn_e hI (by decide)
      · exact absurd h3 h2
set_option maxRecDepth 20000 in
theorem tn_complain (hI : zInv nc nt dy b I L) (hb : b ≤ 8000) (tx : Int32) {r : Int32} {x : Int64} {W' wm' : zk_W} (hC : (∃ x1 w', (fun (r : Int64) (w' : zk_W) => ∃ t, t < nt ∧ tx = nI t ∧ canS I L nt t ∧ (stS (cmL I L nt t) (dN (I 11 t)) (dy / 360)).1 = r ∧ cw cA g0 ad 6 nc nc 6 nt dy (exM (up2 I 17 t 0) L (dN (I 12 t)) (-(L 13 t)) (-(payT L t)) mo) (up2 I 17 t 0) (stL (cmL I L nt t) (dN (I 11 t)) (dy / 360)) = w') x1 w' ∧ 0 = r ∧ zk_sum 50 w' (outW cA o (vp_updL h 0 (x1))) = W') ∨ (∃ w', (fun (E : String) (w' : zk_W) => cw cA g0 ad 6 nc nc 6 nt dy mo I L = w' ∧ ((¬ zIn tx nt ∧ E = xI) ∨ (∃ t, t < nt ∧ tx = nI t ∧ ¬ canS I L nt t ∧ E = xS))) xI w' ∧ 1 = r ∧ zk_sum 50 w' (outW cA o h) = W') ∨ (∃ w', (fun (E : String) (w' : zk_W) => cw cA g0 ad 6 nc nc 6 nt dy mo I L = w' ∧ ((¬ zIn tx nt ∧ E = xI) ∨ (∃ t, t < nt ∧ tx = nI t ∧ ¬ canS I L nt t ∧ E = xS))) xS w' ∧ 2 = r ∧ zk_sum 50 w' (outW cA o h) = W')) (hM : (fun (r : Int64) w' => (¬ zIn tx nt ∧ mw cA adm dy nc nt nl 1 mo I L = w') ∨ (∃ j, j < nt ∧ tx = nI j ∧ ((¬ canS I L nt j ∧ mw cA adm dy nc nt nl 2 mo I L = w') ∨ (canS I L nt j ∧ (cpB nl I L nt dy (dN (I 11 j)) (dN (I 12 j)) j).1 = r ∧ mw cA adm dy nc nt (cpS nl I L nt (dN (I 11 j)) (dN (I 12 j)) j).1 0 (cpM I L (dN (I 11 j)) (dN (I 12 j)) j mo) (cpS nl I L nt (dN (I 11 j)) (dN (I 12 j)) j).2.1 (up2 (cpB nl I L nt dy (dN (I 11 j)) (dN (I 12 j)) j).2 6 (dN (I 11 j)) ((cpB nl I L nt dy (dN (I 11 j)) (dN (I 12 j)) j).2 6 (dN (I 11 j)) + (cpB nl I L nt dy (dN (I 11 j)) (dN (I 12 j)) j).1)) = w')))) x wm') : zTn cA g0 ad adm o b r (x) W' wm' := by
  have hn := hI.1.2.1
  rcases hC with ⟨x1, w', ⟨t, ht, rfl, hcan, rfl, rfl⟩, rfl, rfl⟩ | ⟨w', ⟨rfl, hx⟩, rfl, rfl⟩ | ⟨w', ⟨rfl, hx⟩, rfl, rfl⟩
  · rcases hM with ⟨h1, rfl⟩ | ⟨t', ht', e, ⟨h2, rfl⟩ | ⟨-, rfl, rfl⟩⟩
    · exact absurd ⟨t, ht, rfl⟩ h1
    · obtain rfl := nIj (n := nt) (by omega) ht ht' e
      exact absurd hcan h2
    · obtain rfl := nIj (n := nt) (by omega) ht ht' e
      obtain ⟨s1, s2, s3, s4⟩ := unw_same (nl := nl) (mo := mo) hI ht (by omega)
      have hv := unw_inv hI ht (by omega) hcan
      refine ⟨ad, nc, nt, dy, (cpS nl I L nt (dN (I 11 t)) (dN (I 12 t)) t).1, cpM I L (dN (I 11 t)) (dN (I 12 t)) t mo, (cpS nl I L nt (dN (I 11 t)) (dN (I 12 t)) t).2.1, jL (uwL I L nt dy t) (up2 (cpB nl I L nt dy (dN (I 11 t)) (dN (I 12 t)) t).2 6 (dN (I 11 t)) ((cpB nl I L nt dy (dN (I 11 t)) (dN (I 12 t)) t).2 6 (dN (I 11 t)) + (cpB nl I L nt dy (dN (I 11 t)) (dN (I 12 t)) t).1)), vp_updL h 0 ((stS (cmL I L nt t) (dN (I 11 t)) (dy / 360)).1), rfl, ?_, ?_, (zInv_j s3 s4 hv).mono (by omega), fun _ => pk_uLs.trans s1⟩
      · rw [← s2]
        exact congrArg (fun z => zk_sum 50 z _) (cw_c (L := uwL I L nt dy t) (fun a ha => s3 a (by omega)) (fun a ha => jL_c s4 ha))
      · exact mw_c (fun a ha => jL_m ha)
  · rcases hx with ⟨h1, -⟩ | ⟨t, -, -, -, e⟩
    · rcases hM with ⟨-, rfl⟩ | ⟨t', ht', e, -⟩
      · exact zTn_e hI (by decide)
      · exact absurd ⟨t', ht', e⟩ h1
    · exact absurd e xIS
  · rcases hx with ⟨-, e⟩ | ⟨t, ht, rfl, h1, -⟩
    · exact absurd e xIS.symm
    · rcases hM with ⟨h2, rfl⟩ | ⟨t', ht', e, ⟨-, rfl⟩ | ⟨h2, -⟩⟩
      · exact absurd ⟨t, ht, rfl⟩ h2
      · exact zTn_e hI (by decide)
      · obtain rfl := nIj (n := nt) (by omega) ht ht' e
        exact absurd h2 h1
set_option maxRecDepth 20000 in
theorem tn_balance (hI : zInv nc nt dy b I L) (hb : b ≤ 8000) (cx : Int32) {r : Int32} {x : Int32} {W' wm' : zk_W} (hC : (∃ x1 w', (fun (r : Int32) (w' : zk_W) => ∃ j, j < nc ∧ cx = nI j ∧ nt ≤ 108 ∧ ¬ (wealthL I L j 6) < 0 ∧ ¬ 100000000 < (wealthL I L j 6) ∧ nI ((buyC dy j (wealthL I L j 6) (selC dy j (wealthL I L j 6) (nt, mo, I, L) 6) 6).1 - nt) = r ∧ ∃ ad', kpX ad ad' ∧ cw cA g0 ad' 6 nc nc 6 ((buyC dy j (wealthL I L j 6) (selC dy j (wealthL I L j 6) (nt, mo, I, L) 6) 6).1) dy ((buyC dy j (wealthL I L j 6) (selC dy j (wealthL I L j 6) (nt, mo, I, L) 6) 6).2.1) ((buyC dy j (wealthL I L j 6) (selC dy j (wealthL I L j 6) (nt, mo, I, L) 6) 6).2.2.1) ((buyC dy j (wealthL I L j 6) (selC dy j (wealthL I L j 6) (nt, mo, I, L) 6) 6).2.2.2) = w') x1 w' ∧ 0 = r ∧ zk_sum 50 w' (outW cA o (vp_updL h 0 (Int32.toInt64 x1))) = W') ∨ (∃ w', (fun (E : String) (w' : zk_W) => cw cA g0 ad 6 nc nc 6 nt dy mo I L = w' ∧ ((¬ zIn cx nc ∧ E = xI) ∨ (∃ j, j < nc ∧ cx = nI j ∧ (¬ nt ≤ 108 ∨ (wealthL I L j 6) < 0 ∨ 100000000 < (wealthL I L j 6)) ∧ E = xS))) xI w' ∧ 1 = r ∧ zk_sum 50 w' (outW cA o h) = W') ∨ (∃ w', (fun (E : String) (w' : zk_W) => cw cA g0 ad 6 nc nc 6 nt dy mo I L = w' ∧ ((¬ zIn cx nc ∧ E = xI) ∨ (∃ j, j < nc ∧ cx = nI j ∧ (¬ nt ≤ 108 ∨ (wealthL I L j 6) < 0 ∨ 100000000 < (wealthL I L j 6)) ∧ E = xS))) xS w' ∧ 2 = r ∧ zk_sum 50 w' (outW cA o h) = W')) (hM : (fun (r : Int32) w' => (¬ zIn cx nc ∧ mw cA adm dy nc nt nl 1 mo I L = w') ∨ (∃ c, c < nc ∧ cx = nI c ∧ (((¬ nt ≤ 108 ∨ wealthL I L c 6 < 0 ∨ 100000000 < wealthL I L c 6) ∧ mw cA adm dy nc nt nl 2 mo I L = w') ∨ (nt ≤ 108 ∧ ¬ wealthL I L c 6 < 0 ∧ ¬ 100000000 < wealthL I L c 6 ∧ ∃ s : zS, s = buyS dy c (wealthL I L c 6) (selS dy c (wealthL I L c 6) (0, nt, mo, I, L) 6) 6 ∧ nI s.1 = r ∧ mw cA adm dy nc s.2.1 nl 0 s.2.2.1 s.2.2.2.1 s.2.2.2.2 = w')))) x wm') : zTn cA g0 ad adm o b r (Int32.toInt64 x) W' wm' := by
  have hn := hI.1.1
  rcases hC with ⟨x1, w', ⟨j, hj, rfl, h8, a0, a1, rfl, ad', hA, rfl⟩, rfl, rfl⟩ | ⟨w', ⟨rfl, hx⟩, rfl, rfl⟩ | ⟨w', ⟨rfl, hx⟩, rfl, rfl⟩
  · rcases hM with ⟨h1, rfl⟩ | ⟨j', hj', e, ⟨h2, rfl⟩ | ⟨-, -, -, s, hs, rfl, rfl⟩⟩
    · exact absurd ⟨j, hj, rfl⟩ h1
    · obtain rfl := nIj (n := nc) (by omega) hj hj' e
      rcases h2 with h2 | h2 | h2
      · exact absurd h8 h2
      · exact absurd h2 a0
      · exact absurd h2 a1
    · obtain rfl := nIj (n := nc) (by omega) hj hj' e
      have hR := bal_rel (mo := mo) (n6 := 6) rfl hI hj h8 hb a0 a1
      rw [← hs] at hR
      obtain ⟨z1, z2, z3, z4, z5, z6⟩ := hR
      obtain ⟨F, hF⟩ : ∃ F, F = buyC dy j (wealthL I L j 6) (selC dy j (wealthL I L j 6) (nt, mo, I, L) 6) 6 := ⟨_, rfl⟩
      rw [← hF] at z1 z2 z3 z4 z5 z6 ⊢
      have hv : s.1 = F.1 - nt := by omega
      rw [hv, z2, z3, z4]
      refine ⟨ad', nc, F.1, dy, nl, F.2.1, F.2.2.1, jL F.2.2.2 s.2.2.2.2, _, hA (0, 0, 0) (by decide) (by decide), ?_, ?_, zInv_j (fun _ _ => rfl) z5 z1, fun _ => pk_uLs (f := h)⟩
      · rw [cw_c (I' := F.2.2.1) (L' := jL F.2.2.2 s.2.2.2.2) (fun a ha => rfl) (fun a ha => jL_c z5 ha)]
      · rw [mw_c (L' := jL F.2.2.2 s.2.2.2.2) (fun a ha => jL_m ha)]
  · rcases hx with ⟨h1, -⟩ | ⟨j, -, -, -, e⟩
    · rcases hM with ⟨-, rfl⟩ | ⟨j', hj', e, -⟩
      · exact zTn_e hI (by decide)
      · exact absurd ⟨j', hj', e⟩ h1
    · exact absurd e xIS
  · rcases hx with ⟨-, e⟩ | ⟨j, hj, rfl, h1, -⟩
    · exact absurd e xIS.symm
    · rcases hM with ⟨h2, rfl⟩ | ⟨j', hj', e, ⟨-, rfl⟩ | ⟨h2, h3, h4, -⟩⟩
      · exact absurd ⟨j, hj, rfl⟩ h2
      · exact zTn_e hI (by decide)
      · obtain rfl := nIj (n := nc) (by omega) hj hj' e
        rcases h1 with h1 | h1 | h1
        · exact absurd h2 h1
        · exact absurd h1 h3
        · exact absurd h1 h4
set_option maxRecDepth 20000 in
theorem tn_buy (hI : zInv nc nt dy b I L) (hb : b ≤ 8000) (cx f its : Int32) {r : Int32} {x : Int32} {W' wm' : zk_W} (hC : (∃ x1 w', (fun (r : Int32) (w' : zk_W) => ∃ j k, j < nc ∧ cx = nI j ∧ k < 6 ∧ f = nI k ∧ zR its 1 10000000 ∧ (nt < 120 ∧ 0 < partsL I k (Int32.toInt64 its) ∧ ¬ L 6 j < Int32.toInt64 its + costL (Int32.toInt64 its)) ∧ nI nt = r ∧ ∃ ad', kpA nt ad ad' ∧ cw cA g0 ad' 6 nc nc 6 (nt + 1) dy (mtM I L nt dy j k (partsL I k (Int32.toInt64 its)) (Int32.toInt64 its) mo) (noteI I nt dy j k) (mtL I L nt dy j k (partsL I k (Int32.toInt64 its)) (Int32.toInt64 its)) = w') x1 w' ∧ 0 = r ∧ zk_sum 50 w' (outW cA o (vp_updL h 0 (Int32.toInt64 x1))) = W') ∨ (∃ w', (fun (E : String) (w' : zk_W) => cw cA g0 ad 6 nc nc 6 nt dy mo I L = w' ∧ ((¬ (zIn cx nc ∧ zIn f 6) ∧ E = xI) ∨ (zIn cx nc ∧ zIn f 6 ∧ ¬ zR its 1 10000000 ∧ E = xA) ∨ (∃ j k, j < nc ∧ cx = nI j ∧ k < 6 ∧ f = nI k ∧ zR its 1 10000000 ∧ ¬ (nt < 120 ∧ 0 < partsL I k (Int32.toInt64 its) ∧ ¬ L 6 j < Int32.toInt64 its + costL (Int32.toInt64 its)) ∧ E = xS))) xI w' ∧ 1 = r ∧ zk_sum 50 w' (outW cA o h) = W') ∨ (∃ w', (fun (E : String) (w' : zk_W) => cw cA g0 ad 6 nc nc 6 nt dy mo I L = w' ∧ ((¬ (zIn cx nc ∧ zIn f 6) ∧ E = xI) ∨ (zIn cx nc ∧ zIn f 6 ∧ ¬ zR its 1 10000000 ∧ E = xA) ∨ (∃ j k, j < nc ∧ cx = nI j ∧ k < 6 ∧ f = nI k ∧ zR its 1 10000000 ∧ ¬ (nt < 120 ∧ 0 < partsL I k (Int32.toInt64 its) ∧ ¬ L 6 j < Int32.toInt64 its + costL (Int32.toInt64 its)) ∧ E = xS))) xA w' ∧ 2 = r ∧ zk_sum 50 w' (outW cA o h) = W') ∨ (∃ w', (fun (E : String) (w' : zk_W) => cw cA g0 ad 6 nc nc 6 nt dy mo I L = w' ∧ ((¬ (zIn cx nc ∧ zIn f 6) ∧ E = xI) ∨ (zIn cx nc ∧ zIn f 6 ∧ ¬ zR its 1 10000000 ∧ E = xA) ∨ (∃ j k, j < nc ∧ cx = nI j ∧ k < 6 ∧ f = nI k ∧ zR its 1 10000000 ∧ ¬ (nt < 120 ∧ 0 < partsL I k (Int32.toInt64 its) ∧ ¬ L 6 j < Int32.toInt64 its + costL (Int32.toInt64 its)) ∧ E = xS))) xS w' ∧ 3 = r ∧ zk_sum 50 w' (outW cA o h) = W')) (hM : (fun (r : Int32) w' => (¬ (zIn cx nc ∧ zIn f 6) ∧ mw cA adm dy nc nt nl 1 mo I L = w') ∨ (∃ c k, c < nc ∧ cx = nI c ∧ k < 6 ∧ f = nI k ∧ ((¬ zR its 1 10000000 ∧ mw cA adm dy nc nt nl 2 mo I L = w') ∨ (zR its 1 10000000 ∧ ¬ (nt < 120 ∧ 0 < partsL I k (Int32.toInt64 its) ∧ ¬ L 6 c < Int32.toInt64 its + costL (Int32.toInt64 its)) ∧ mw cA adm dy nc nt nl 3 mo I L = w') ∨ (zR its 1 10000000 ∧ (nt < 120 ∧ 0 < partsL I k (Int32.toInt64 its) ∧ ¬ L 6 c < Int32.toInt64 its + costL (Int32.toInt64 its)) ∧ nI nt = r ∧ mw cA adm dy nc (nt + 1) nl 0 (noteM I L k (partsL I k (Int32.toInt64 its)) (Int32.toInt64 its) mo) (noteI I nt dy c k) (noteL L nt c k (partsL I k (Int32.toInt64 its)) (Int32.toInt64 its)) = w')))) x wm') : zTn cA g0 ad adm o b r (Int32.toInt64 x) W' wm' := by
  have hn := hI.1.1
  rcases hC with ⟨x1, w', ⟨j, k, hj, rfl, hk, rfl, hz, hcd, rfl, ad', hA, rfl⟩, rfl, rfl⟩ | ⟨w', ⟨rfl, hx⟩, rfl, rfl⟩ | ⟨w', ⟨rfl, hx⟩, rfl, rfl⟩ | ⟨w', ⟨rfl, hx⟩, rfl, rfl⟩
  · rcases hM with ⟨h1, rfl⟩ | ⟨j', k', hj', e, hk', e', ⟨h2, rfl⟩ | ⟨-, h2, rfl⟩ | ⟨-, -, rfl, rfl⟩⟩
    · exact absurd ⟨⟨j, hj, rfl⟩, ⟨k, hk, rfl⟩⟩ h1
    · exact absurd hz h2
    · obtain rfl := nIj (n := nc) (by omega) hj hj' e
      obtain rfl := nIj (n := 6) (by decide) hk hk' e'
      exact absurd hcd h2
    · obtain rfl := nIj (n := nc) (by omega) hj hj' e
      obtain rfl := nIj (n := 6) (by decide) hk hk' e'
      obtain ⟨c1, c2, -⟩ := hcd
      have hz2 := hz
      obtain ⟨z1, z2⟩ := hz2
      rw [i32_le] at z1 z2
      have z1 : 1 ≤ its.toInt := z1
      have z2 : its.toInt ≤ 10000000 := z2
      have e64 : (Int32.toInt64 its).toInt = its.toInt := i32_64 its
      have hP := hI.2.1 k hk
      have hq : (partsL I k (Int32.toInt64 its)).toInt = its.toInt * 1000 / (I 1 k).toInt := by rw [prt_v hP (by omega) (by omega), e64]
      rw [i64_lt, i64_0] at c2
      have hq1 : (partsL I k (Int32.toInt64 its)).toInt ≤ 10000000000 := by
        rw [hq]
        have y1 : its.toInt * 1000 ≤ 10000000000 * (I 1 k).toInt := by omega
        have y2 := Int.ediv_le_ediv (show 0 < (I 1 k).toInt by omega) y1
        rw [Int.mul_ediv_cancel _ (by omega)] at y2
        exact y2
      have hq0 : ¬ partsL I k (Int32.toInt64 its) = 0 := fun z => by
        rw [z, i64_0] at c2
        omega
      have hpa := hI.pa hj hk
      have hv := note_inv (x := Int32.toInt64 its) hI hj hk c1 (by omega) hq0 hq1 (fun _ => cost_v (by omega) (by omega)) (by omega)
      obtain ⟨m1, m2⟩ := note_same (nt := nt) (dy := dy) (c := j) (f := k) (b := b) (I := I) (L := L) (L' := L) (x := Int32.toInt64 its) (mo := mo) (fun _ _ => rfl) (hI.cond (by omega) hk (by omega) (by omega)) hq0
      refine ⟨ad', nc, nt + 1, dy, nl, noteM I L k (partsL I k (Int32.toInt64 its)) (Int32.toInt64 its) mo, noteI I nt dy j k, jL (mtL I L nt dy j k (partsL I k (Int32.toInt64 its)) (Int32.toInt64 its)) (noteL L nt j k (partsL I k (Int32.toInt64 its)) (Int32.toInt64 its)), _, hA (0, 0, 0) (by decide) (zne (by omega)), ?_, ?_, (zInv_j (fun _ _ => rfl) m1 hv).mono (by omega), fun _ => pk_uLs (f := h)⟩
      · rw [m2, cw_c (I' := noteI I nt dy j k) (L' := jL (mtL I L nt dy j k (partsL I k (Int32.toInt64 its)) (Int32.toInt64 its)) (noteL L nt j k (partsL I k (Int32.toInt64 its)) (Int32.toInt64 its))) (fun a ha => rfl) (fun a ha => jL_c m1 ha)]
      · exact mw_c (fun a ha => jL_m ha)
  · rcases hx with ⟨h1, -⟩ | ⟨-, -, -, e⟩ | ⟨j, k, -, -, -, -, -, -, e⟩
    · rcases hM with ⟨-, rfl⟩ | ⟨j', k', hj', e, hk', e', -⟩
      · exact zTn_e hI (by decide)
      · exact absurd ⟨⟨j', hj', e⟩, ⟨k', hk', e'⟩⟩ h1
    · exact absurd e xIA
    · exact absurd e xIS
  · rcases hx with ⟨-, e⟩ | ⟨h1, h1', h2, -⟩ | ⟨j, k, -, -, -, -, -, -, e⟩
    · exact absurd e xIA.symm
    · rcases hM with ⟨h3, rfl⟩ | ⟨j', k', hj', e, hk', e', ⟨-, rfl⟩ | ⟨h3, -, rfl⟩ | ⟨h3, -, rfl, rfl⟩⟩
      · exact absurd ⟨h1, h1'⟩ h3
      · exact zTn_e hI (by decide)
      · exact absurd h3 h2
      · exact absurd h3 h2
    · exact absurd e xAS
  · rcases hx with ⟨-, e⟩ | ⟨-, -, -, e⟩ | ⟨j, k, hj, rfl, hk, rfl, hz, hcd, -⟩
    · exact absurd e xIS.symm
    · exact absurd e xAS.symm
    · rcases hM with ⟨h3, rfl⟩ | ⟨j', k', hj', e, hk', e', ⟨h3, rfl⟩ | ⟨-, -, rfl⟩ | ⟨-, h3, rfl, rfl⟩⟩
      · exact absurd ⟨⟨j, hj, rfl⟩, ⟨k, hk, rfl⟩⟩ h3
      · exact absurd hz h3
      · exact zTn_e hI (by decide)
      · obtain rfl := nIj (n := nc) (by omega) hj hj' e
        obtain rfl := nIj (n := 6) (by decide) hk hk' e'
        exact absurd h3 hcd
set_option maxRecDepth 20000 in
theorem tn_sell (hI : zInv nc nt dy b I L) (hb : b ≤ 8000) (cx f its : Int32) {r : Int32} {x : Int32} {W' wm' : zk_W} (hC : (∃ x1 w', (fun (r : Int32) (w' : zk_W) => ∃ j k, j < nc ∧ cx = nI j ∧ k < 6 ∧ f = nI k ∧ zR its 1 1000000000 ∧ (nt < 120 ∧ ¬ L 8 (6 * j + k) < Int32.toInt64 its ∧ 0 < amountL I k (Int32.toInt64 its) ∧ ¬ 1000000000 < amountL I k (Int32.toInt64 its)) ∧ nI nt = r ∧ ∃ ad', kpA nt ad ad' ∧ cw cA g0 ad' 6 nc nc 6 (nt + 1) dy (mtM I L nt dy j k (Int32.toInt64 (-its)) (amountL I k (Int32.toInt64 its)) mo) (noteI I nt dy j k) (mtL I L nt dy j k (Int32.toInt64 (-its)) (amountL I k (Int32.toInt64 its))) = w') x1 w' ∧ 0 = r ∧ zk_sum 50 w' (outW cA o (vp_updL h 0 (Int32.toInt64 x1))) = W') ∨ (∃ w', (fun (E : String) (w' : zk_W) => cw cA g0 ad 6 nc nc 6 nt dy mo I L = w' ∧ ((¬ (zIn cx nc ∧ zIn f 6) ∧ E = xI) ∨ (zIn cx nc ∧ zIn f 6 ∧ ¬ zR its 1 1000000000 ∧ E = xA) ∨ (∃ j k, j < nc ∧ cx = nI j ∧ k < 6 ∧ f = nI k ∧ zR its 1 1000000000 ∧ ¬ (nt < 120 ∧ ¬ L 8 (6 * j + k) < Int32.toInt64 its ∧ 0 < amountL I k (Int32.toInt64 its) ∧ ¬ 1000000000 < amountL I k (Int32.toInt64 its)) ∧ E = xS))) xI w' ∧ 1 = r ∧ zk_sum 50 w' (outW cA o h) = W') ∨ (∃ w', (fun (E : String) (w' : zk_W) => cw cA g0 ad 6 nc nc 6 nt dy mo I L = w' ∧ ((¬ (zIn cx nc ∧ zIn f 6) ∧ E = xI) ∨ (zIn cx nc ∧ zIn f 6 ∧ ¬ zR its 1 1000000000 ∧ E = xA) ∨ (∃ j k, j < nc ∧ cx = nI j ∧ k < 6 ∧ f = nI k ∧ zR its 1 1000000000 ∧ ¬ (nt < 120 ∧ ¬ L 8 (6 * j + k) < Int32.toInt64 its ∧ 0 < amountL I k (Int32.toInt64 its) ∧ ¬ 1000000000 < amountL I k (Int32.toInt64 its)) ∧ E = xS))) xA w' ∧ 2 = r ∧ zk_sum 50 w' (outW cA o h) = W') ∨ (∃ w', (fun (E : String) (w' : zk_W) => cw cA g0 ad 6 nc nc 6 nt dy mo I L = w' ∧ ((¬ (zIn cx nc ∧ zIn f 6) ∧ E = xI) ∨ (zIn cx nc ∧ zIn f 6 ∧ ¬ zR its 1 1000000000 ∧ E = xA) ∨ (∃ j k, j < nc ∧ cx = nI j ∧ k < 6 ∧ f = nI k ∧ zR its 1 1000000000 ∧ ¬ (nt < 120 ∧ ¬ L 8 (6 * j + k) < Int32.toInt64 its ∧ 0 < amountL I k (Int32.toInt64 its) ∧ ¬ 1000000000 < amountL I k (Int32.toInt64 its)) ∧ E = xS))) xS w' ∧ 3 = r ∧ zk_sum 50 w' (outW cA o h) = W')) (hM : (fun (r : Int32) w' => (¬ (zIn cx nc ∧ zIn f 6) ∧ mw cA adm dy nc nt nl 1 mo I L = w') ∨ (∃ c k, c < nc ∧ cx = nI c ∧ k < 6 ∧ f = nI k ∧ ((¬ zR its 1 1000000000 ∧ mw cA adm dy nc nt nl 2 mo I L = w') ∨ (zR its 1 1000000000 ∧ ¬ (nt < 120 ∧ ¬ L 8 (6 * c + k) < Int32.toInt64 its ∧ 0 < amountL I k (Int32.toInt64 its) ∧ ¬ 1000000000 < amountL I k (Int32.toInt64 its)) ∧ mw cA adm dy nc nt nl 3 mo I L = w') ∨ (zR its 1 1000000000 ∧ (nt < 120 ∧ ¬ L 8 (6 * c + k) < Int32.toInt64 its ∧ 0 < amountL I k (Int32.toInt64 its) ∧ ¬ 1000000000 < amountL I k (Int32.toInt64 its)) ∧ nI nt = r ∧ mw cA adm dy nc (nt + 1) nl 0 (noteM I L k (Int32.toInt64 (-its)) (amountL I k (Int32.toInt64 its)) mo) (noteI I nt dy c k) (noteL L nt c k (Int32.toInt64 (-its)) (amountL I k (Int32.toInt64 its))) = w')))) x wm') : zTn cA g0 ad adm o b r (Int32.toInt64 x) W' wm' := by
  have hn := hI.1.1
  rcases hC with ⟨x1, w', ⟨j, k, hj, rfl, hk, rfl, hz, hcd, rfl, ad', hA, rfl⟩, rfl, rfl⟩ | ⟨w', ⟨rfl, hx⟩, rfl, rfl⟩ | ⟨w', ⟨rfl, hx⟩, rfl, rfl⟩ | ⟨w', ⟨rfl, hx⟩, rfl, rfl⟩
  · rcases hM with ⟨h1, rfl⟩ | ⟨j', k', hj', e, hk', e', ⟨h2, rfl⟩ | ⟨-, h2, rfl⟩ | ⟨-, -, rfl, rfl⟩⟩
    · exact absurd ⟨⟨j, hj, rfl⟩, ⟨k, hk, rfl⟩⟩ h1
    · exact absurd hz h2
    · obtain rfl := nIj (n := nc) (by omega) hj hj' e
      obtain rfl := nIj (n := 6) (by decide) hk hk' e'
      exact absurd hcd h2
    · obtain rfl := nIj (n := nc) (by omega) hj hj' e
      obtain rfl := nIj (n := 6) (by decide) hk hk' e'
      obtain ⟨c1, c2, -⟩ := hcd
      have hz2 := hz
      obtain ⟨z1, z2⟩ := hz2
      rw [i32_le] at z1 z2
      have z1 : 1 ≤ its.toInt := z1
      have z2 : its.toInt ≤ 1000000000 := z2
      have e64 : (Int32.toInt64 its).toInt = its.toInt := i32_64 its
      have en : (Int32.toInt64 (-its)).toInt = -its.toInt := by rw [i32_64, i32_neg (by omega)]
      rw [i64_lt, e64] at c2
      have hq0 : ¬ Int32.toInt64 (-its) = 0 := fun z => by
        rw [z, i64_0] at en
        omega
      have hpa := hI.pa hj hk
      have hv := note_inv (q := Int32.toInt64 (-its)) (x := amountL I k (Int32.toInt64 its)) hI hj hk c1 (by omega) hq0 (by omega) (fun z => by rw [i64_lt, i64_0, en] at z; omega) (by omega)
      obtain ⟨m1, m2⟩ := note_same (nt := nt) (dy := dy) (c := j) (f := k) (b := b) (I := I) (L := L) (L' := L) (x := amountL I k (Int32.toInt64 its)) (mo := mo) (fun _ _ => rfl) (hI.cond (q := Int32.toInt64 (-its)) (by omega) hk (by omega) (by omega)) hq0
      refine ⟨ad', nc, nt + 1, dy, nl, noteM I L k (Int32.toInt64 (-its)) (amountL I k (Int32.toInt64 its)) mo, noteI I nt dy j k, jL (mtL I L nt dy j k (Int32.toInt64 (-its)) (amountL I k (Int32.toInt64 its))) (noteL L nt j k (Int32.toInt64 (-its)) (amountL I k (Int32.toInt64 its))), _, hA (0, 0, 0) (by decide) (zne (by omega)), ?_, ?_, (zInv_j (fun _ _ => rfl) m1 hv).mono (by omega), fun _ => pk_uLs (f := h)⟩
      · rw [m2, cw_c (I' := noteI I nt dy j k) (L' := jL (mtL I L nt dy j k (Int32.toInt64 (-its)) (amountL I k (Int32.toInt64 its))) (noteL L nt j k (Int32.toInt64 (-its)) (amountL I k (Int32.toInt64 its)))) (fun a ha => rfl) (fun a ha => jL_c m1 ha)]
      · exact mw_c (fun a ha => jL_m ha)
  · rcases hx with ⟨h1, -⟩ | ⟨-, -, -, e⟩ | ⟨j, k, -, -, -, -, -, -, e⟩
    · rcases hM with ⟨-, rfl⟩ | ⟨j', k', hj', e, hk', e', -⟩
      · exact zTn_e hI (by decide)
      · exact absurd ⟨⟨j', hj', e⟩, ⟨k', hk', e'⟩⟩ h1
    · exact absurd e xIA
    · exact absurd e xIS
  · rcases hx with ⟨-, e⟩ | ⟨h1, h1', h2, -⟩ | ⟨j, k, -, -, -, -, -, -, e⟩
    · exact absurd e xIA.symm
    · rcases hM with ⟨h3, rfl⟩ | ⟨j', k', hj', e, hk', e', ⟨-, rfl⟩ | ⟨h3, -, rfl⟩ | ⟨h3, -, rfl, rfl⟩⟩
      · exact absurd ⟨h1, h1'⟩ h3
      · exact zTn_e hI (by decide)
      · exact absurd h3 h2
      · exact absurd h3 h2
    · exact absurd e xAS
  · rcases hx with ⟨-, e⟩ | ⟨-, -, -, e⟩ | ⟨j, k, hj, rfl, hk, rfl, hz, hcd, -⟩
    · exact absurd e xIS.symm
    · exact absurd e xAS.symm
    · rcases hM with ⟨h3, rfl⟩ | ⟨j', k', hj', e, hk', e', ⟨h3, rfl⟩ | ⟨-, -, rfl⟩ | ⟨-, h3, rfl, rfl⟩⟩
      · exact absurd ⟨⟨j, hj, rfl⟩, ⟨k, hk, rfl⟩⟩ h3
      · exact absurd hz h3
      · exact zTn_e hI (by decide)
      · obtain rfl := nIj (n := nc) (by omega) hj hj' e
        obtain rfl := nIj (n := 6) (by decide) hk hk' e'
        exact absurd h3 hcd
end TN
