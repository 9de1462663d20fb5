/-! ===== 'does', under what the law knows ===== -/
section QD
variable (l : Launch) (D : va_G) (cA : Nat → ClassId) (A : Nat → Prop) (g : Nat → Nat) (ac : zk_K → Nat) (nc nt dy : Nat) (mo : Int64) (I : zIA) (L : zLA) (w2 : zk_W)
theorem qd_price (hst : l.stackTraces = false) (f : Nat) (its : Int32) (hf : f < 6) (hz : zR its 10 1000000)  : zM l yL_does wsL_does rmD_price D (zt cA) A g [.ref (ac (0, 0, 0)), .int 0, .int (nI f), .int its, .int 0] (zk_sum 50 (cw cA (g 0) ac 6 nc nc 6 nt dy mo I L) w2) (zQl (fun r W' => Int32.toInt64 (I 1 f) = r ∧ zk_sum 50 (cw cA (g 0) ac 6 nc nc 6 nt dy mo (up2 I 1 f its) L) w2 = W')) := by
  refine zM_imp (zM_sumL (n := 50) (w2 := w2) (fun A => cD_price l D cA A g (cw cA (g 0) ac 6 nc nc 6 nt dy mo I L) rfl rfl _ _ (nI f) its 0 (cC_price l hst D cA A g ac nc nt dy mo I L (nI f) its ) (fun E w' h => ?_)) cw_lt A) (fun v w' h => ?_)
  · rcases h.2 with ⟨y, z⟩ | ⟨y1, y2, z⟩
    · exact Or.inl z
    · exact Or.inr (Or.inl z)
  · obtain ⟨w1, ⟨r, rfl, hz⟩, rfl⟩ := h
    refine ⟨r, rfl, ?_⟩
    rcases hz with ⟨x, ⟨j, hj, ej, -, rfl, rfl⟩, rfl⟩ | ⟨⟨rfl, h2⟩, e⟩ | ⟨⟨rfl, h2⟩, e⟩ | ⟨⟨rfl, h2⟩, e⟩
    · obtain rfl := nIj (n := 6) (by decide) hf hj ej
      exact ⟨rfl, rfl⟩
    · exfalso
      rcases h2 with ⟨y, z⟩ | ⟨y1, y2, z⟩ <;> first | exact absurd z (by decide) | exact y ⟨f, hf, rfl⟩ | exact y2 hz
    · exfalso
      rcases h2 with ⟨y, z⟩ | ⟨y1, y2, z⟩ <;> first | exact absurd z (by decide) | exact y ⟨f, hf, rfl⟩ | exact y2 hz
    · exfalso
      rcases h2 with ⟨y, z⟩ | ⟨y1, y2, z⟩ <;> first | exact absurd z (by decide) | exact y ⟨f, hf, rfl⟩ | exact y2 hz
theorem qd_price_I (hst : l.stackTraces = false) (a its : Int32) (hno : ¬ zIn a 6)  : zM l yL_does wsL_does rmD_price D (zt cA) A g [.ref (ac (0, 0, 0)), .int 0, .int a, .int its, .int 0] (zk_sum 50 (cw cA (g 0) ac 6 nc nc 6 nt dy mo I L) w2) (zQl (fun r W' => -3000000000000 = r ∧ zk_sum 50 (cw cA (g 0) ac 6 nc nc 6 nt dy mo I L) w2 = W')) := by
  refine zM_imp (zM_sumL (n := 50) (w2 := w2) (fun A => cD_price l D cA A g (cw cA (g 0) ac 6 nc nc 6 nt dy mo I L) rfl rfl _ _ a its 0 (cC_price l hst D cA A g ac nc nt dy mo I L a its ) (fun E w' h => ?_)) cw_lt A) (fun v w' h => ?_)
  · rcases h.2 with ⟨y, z⟩ | ⟨y1, y2, z⟩
    · exact Or.inl z
    · exact Or.inr (Or.inl z)
  · obtain ⟨w1, ⟨r, rfl, hz⟩, rfl⟩ := h
    refine ⟨r, rfl, ?_⟩
    rcases hz with ⟨x, ⟨j, hj, ej, -⟩, -⟩ | ⟨⟨rfl, h2⟩, e⟩ | ⟨⟨rfl, h2⟩, e⟩ | ⟨⟨rfl, h2⟩, e⟩
    · exact absurd ⟨j, hj, ej⟩ hno
    · exact ⟨e.symm, rfl⟩
    · exfalso
      rcases h2 with ⟨y, z⟩ | ⟨y1, y2, z⟩ <;> first | exact absurd z (by decide) | exact hno y1
    · exfalso
      rcases h2 with ⟨y, z⟩ | ⟨y1, y2, z⟩ <;> first | exact absurd z (by decide) | exact hno y1
theorem qd_price_A (hst : l.stackTraces = false) (f : Nat) (its : Int32) (hf : f < 6) (hno : ¬ zR its 10 1000000)  : zM l yL_does wsL_does rmD_price D (zt cA) A g [.ref (ac (0, 0, 0)), .int 0, .int (nI f), .int its, .int 0] (zk_sum 50 (cw cA (g 0) ac 6 nc nc 6 nt dy mo I L) w2) (zQl (fun r W' => -2000000000000 = r ∧ zk_sum 50 (cw cA (g 0) ac 6 nc nc 6 nt dy mo I L) w2 = W')) := by
  refine zM_imp (zM_sumL (n := 50) (w2 := w2) (fun A => cD_price l D cA A g (cw cA (g 0) ac 6 nc nc 6 nt dy mo I L) rfl rfl _ _ (nI f) its 0 (cC_price l hst D cA A g ac nc nt dy mo I L (nI f) its ) (fun E w' h => ?_)) cw_lt A) (fun v w' h => ?_)
  · rcases h.2 with ⟨y, z⟩ | ⟨y1, y2, z⟩
    · exact Or.inl z
    · exact Or.inr (Or.inl z)
  · obtain ⟨w1, ⟨r, rfl, hz⟩, rfl⟩ := h
    refine ⟨r, rfl, ?_⟩
    rcases hz with ⟨x, ⟨j, hj, ej, y, -⟩, -⟩ | ⟨⟨rfl, h2⟩, e⟩ | ⟨⟨rfl, h2⟩, e⟩ | ⟨⟨rfl, h2⟩, e⟩
    · exact absurd y hno
    · exfalso
      rcases h2 with ⟨y, z⟩ | ⟨y1, y2, z⟩ <;> first | exact absurd z (by decide) | exact y ⟨f, hf, rfl⟩
    · exact ⟨e.symm, rfl⟩
    · exfalso
      rcases h2 with ⟨y, z⟩ | ⟨y1, y2, z⟩ <;> first | exact absurd z (by decide) | exact y ⟨f, hf, rfl⟩
theorem qd_client (hst : l.stackTraces = false) (hn : nc < 12) (hnc : nc ≤ 12) (hB : zBey nc I L) (h11c : ∀ t, t < nt → dN (I 11 t) < nc) : zM l yL_does wsL_does rmD_client D (zt cA) A g [.ref (ac (0, 0, 0)), .int 1, .int 0, .int 0, .int 0] (zk_sum 50 (cw cA (g 0) ac 6 nc nc 6 nt dy mo I L) w2) (zQl (fun r W' => Int32.toInt64 (nI nc) = r ∧ ∃ ac' : zk_K → Nat, ac' (0, 0, 0) = ac (0, 0, 0) ∧ zk_sum 50 (cw cA (g 0) ac' 6 (nc + 1) (nc + 1) 6 nt dy mo I L) w2 = W')) := by
  refine zM_imp (zM_sumL (n := 50) (w2 := w2) (fun A => cD_client l D cA A g (cw cA (g 0) ac 6 nc nc 6 nt dy mo I L) rfl rfl _ _ 0 0 0 (cC_client l hst D cA A g ac nc nt dy mo I L  hnc hB h11c) (fun E w' h => ?_)) cw_lt A) (fun v w' h => ?_)
  · obtain ⟨-, -, z⟩ := h
    exact Or.inr (Or.inr z)
  · obtain ⟨w1, ⟨r, rfl, hz⟩, rfl⟩ := h
    refine ⟨r, rfl, ?_⟩
    rcases hz with ⟨x, ⟨-, rfl, ac', ha, rfl⟩, rfl⟩ | ⟨⟨rfl, h2⟩, e⟩ | ⟨⟨rfl, h2⟩, e⟩ | ⟨⟨rfl, h2⟩, e⟩
    · exact ⟨rfl, ac', ha, rfl⟩
    · exfalso
      obtain ⟨y, z⟩ := h2
      first | exact absurd z (by decide) | omega
    · exfalso
      obtain ⟨y, z⟩ := h2
      first | exact absurd z (by decide) | omega
    · exfalso
      obtain ⟨y, z⟩ := h2
      first | exact absurd z (by decide) | omega
theorem qd_pay_I (hst : l.stackTraces = false) (a cents : Int32) (hno : ¬ zIn a nc) (hnc : nc ≤ 12) : zM l yL_does wsL_does rmD_pay D (zt cA) A g [.ref (ac (0, 0, 0)), .int 2, .int a, .int cents, .int 0] (zk_sum 50 (cw cA (g 0) ac 6 nc nc 6 nt dy mo I L) w2) (zQl (fun r W' => -3000000000000 = r ∧ zk_sum 50 (cw cA (g 0) ac 6 nc nc 6 nt dy mo I L) w2 = W')) := by
  refine zM_imp (zM_sumL (n := 50) (w2 := w2) (fun A => cD_pay l D cA A g (cw cA (g 0) ac 6 nc nc 6 nt dy mo I L) rfl rfl _ _ a cents 0 (cC_pay l hst D cA A g ac nc nt dy mo I L a cents hnc) (fun E w' h => ?_)) cw_lt A) (fun v w' h => ?_)
  · rcases h.2 with ⟨y, z⟩ | ⟨y1, y2, z⟩ | ⟨j, hj, ej, y3, y4, y5, z⟩
    · exact Or.inl z
    · exact Or.inr (Or.inl z)
    · exact Or.inr (Or.inr z)
  · obtain ⟨w1, ⟨r, rfl, hz⟩, rfl⟩ := h
    refine ⟨r, rfl, ?_⟩
    rcases hz with ⟨j, hj, ej, -⟩ | ⟨⟨rfl, h2⟩, e⟩ | ⟨⟨rfl, h2⟩, e⟩ | ⟨⟨rfl, h2⟩, e⟩
    · exact absurd ⟨j, hj, ej⟩ hno
    · exact ⟨e.symm, rfl⟩
    · exfalso
      rcases h2 with ⟨y, z⟩ | ⟨y1, y2, z⟩ | ⟨j, hj, ej, y3, y4, y5, z⟩ <;> first | exact absurd z (by decide) | exact hno y1 | exact hno ⟨j, hj, ej⟩
    · exfalso
      rcases h2 with ⟨y, z⟩ | ⟨y1, y2, z⟩ | ⟨j, hj, ej, y3, y4, y5, z⟩ <;> first | exact absurd z (by decide) | exact hno y1 | exact hno ⟨j, hj, ej⟩
theorem qd_pay (hst : l.stackTraces = false) (c : Nat) (cents : Int32) (hc : c < nc) (hz : zR cents (-10000000) 10000000) (hok : ¬ (cents < 0 ∧ L 6 c + Int32.toInt64 cents < 0)) (hnc : nc ≤ 12) : zM l yL_does wsL_does rmD_pay D (zt cA) A g [.ref (ac (0, 0, 0)), .int 2, .int (nI c), .int cents, .int 0] (zk_sum 50 (cw cA (g 0) ac 6 nc nc 6 nt dy mo I L) w2) (zQl (fun r W' => L 6 c + Int32.toInt64 cents = r ∧ zk_sum 50 (cw cA (g 0) ac 6 nc nc 6 nt dy mo I (up2 L 6 c (L 6 c + Int32.toInt64 cents))) w2 = W')) := by
  refine zM_imp (zM_sumL (n := 50) (w2 := w2) (fun A => cD_pay l D cA A g (cw cA (g 0) ac 6 nc nc 6 nt dy mo I L) rfl rfl _ _ (nI c) cents 0 (cC_pay l hst D cA A g ac nc nt dy mo I L (nI c) cents hnc) (fun E w' h => ?_)) cw_lt A) (fun v w' h => ?_)
  · rcases h.2 with ⟨y, z⟩ | ⟨y1, y2, z⟩ | ⟨j, hj, ej, y3, y4, y5, z⟩
    · exact Or.inl z
    · exact Or.inr (Or.inl z)
    · exact Or.inr (Or.inr z)
  · obtain ⟨w1, ⟨r, rfl, hz⟩, rfl⟩ := h
    refine ⟨r, rfl, ?_⟩
    rcases hz with ⟨j, hj, ej, -, -, rfl, rfl⟩ | ⟨⟨rfl, h2⟩, e⟩ | ⟨⟨rfl, h2⟩, e⟩ | ⟨⟨rfl, h2⟩, e⟩
    · obtain rfl := nIj (n := nc) (by omega) hc hj ej
      exact ⟨rfl, rfl⟩
    · exfalso
      rcases h2 with ⟨y, z⟩ | ⟨y1, y2, z⟩ | ⟨j, hj, ej, y3, y4, y5, z⟩ <;> first | exact absurd z (by decide) | exact y ⟨c, hc, rfl⟩ | exact y2 hz | (obtain rfl := nIj (n := nc) (by omega) hc hj ej; exact hok ⟨y4, y5⟩)
    · exfalso
      rcases h2 with ⟨y, z⟩ | ⟨y1, y2, z⟩ | ⟨j, hj, ej, y3, y4, y5, z⟩ <;> first | exact absurd z (by decide) | exact y ⟨c, hc, rfl⟩ | exact y2 hz | (obtain rfl := nIj (n := nc) (by omega) hc hj ej; exact hok ⟨y4, y5⟩)
    · exfalso
      rcases h2 with ⟨y, z⟩ | ⟨y1, y2, z⟩ | ⟨j, hj, ej, y3, y4, y5, z⟩ <;> first | exact absurd z (by decide) | exact y ⟨c, hc, rfl⟩ | exact y2 hz | (obtain rfl := nIj (n := nc) (by omega) hc hj ej; exact hok ⟨y4, y5⟩)
theorem qd_pay_S (hst : l.stackTraces = false) (c : Nat) (cents : Int32) (hc : c < nc) (hz : zR cents (-10000000) 10000000) (hno : cents < 0 ∧ L 6 c + Int32.toInt64 cents < 0) (hnc : nc ≤ 12) : zM l yL_does wsL_does rmD_pay D (zt cA) A g [.ref (ac (0, 0, 0)), .int 2, .int (nI c), .int cents, .int 0] (zk_sum 50 (cw cA (g 0) ac 6 nc nc 6 nt dy mo I L) w2) (zQl (fun r W' => -1000000000000 = r ∧ zk_sum 50 (cw cA (g 0) ac 6 nc nc 6 nt dy mo I L) w2 = W')) := by
  refine zM_imp (zM_sumL (n := 50) (w2 := w2) (fun A => cD_pay l D cA A g (cw cA (g 0) ac 6 nc nc 6 nt dy mo I L) rfl rfl _ _ (nI c) cents 0 (cC_pay l hst D cA A g ac nc nt dy mo I L (nI c) cents hnc) (fun E w' h => ?_)) cw_lt A) (fun v w' h => ?_)
  · rcases h.2 with ⟨y, z⟩ | ⟨y1, y2, z⟩ | ⟨j, hj, ej, y3, y4, y5, z⟩
    · exact Or.inl z
    · exact Or.inr (Or.inl z)
    · exact Or.inr (Or.inr z)
  · obtain ⟨w1, ⟨r, rfl, hz⟩, rfl⟩ := h
    refine ⟨r, rfl, ?_⟩
    rcases hz with ⟨j, hj, ej, -, y, -⟩ | ⟨⟨rfl, h2⟩, e⟩ | ⟨⟨rfl, h2⟩, e⟩ | ⟨⟨rfl, h2⟩, e⟩
    · obtain rfl := nIj (n := nc) (by omega) hc hj ej
      exact absurd hno y
    · exfalso
      rcases h2 with ⟨y, z⟩ | ⟨y1, y2, z⟩ | ⟨j, hj, ej, y3, y4, y5, z⟩ <;> first | exact absurd z (by decide) | exact y ⟨c, hc, rfl⟩ | exact y2 hz
    · exfalso
      rcases h2 with ⟨y, z⟩ | ⟨y1, y2, z⟩ | ⟨j, hj, ej, y3, y4, y5, z⟩ <;> first | exact absurd z (by decide) | exact y ⟨c, hc, rfl⟩ | exact y2 hz
    · exact ⟨e.symm, rfl⟩
theorem qd_goal_I (hst : l.stackTraces = false) (a b its : Int32) (hno : ¬ (zIn a nc ∧ zIn b 6)) (hnc : nc ≤ 12) : zM l yL_does wsL_does rmD_goal D (zt cA) A g [.ref (ac (0, 0, 0)), .int 3, .int a, .int b, .int its] (zk_sum 50 (cw cA (g 0) ac 6 nc nc 6 nt dy mo I L) w2) (zQl (fun r W' => -3000000000000 = r ∧ zk_sum 50 (cw cA (g 0) ac 6 nc nc 6 nt dy mo I L) w2 = W')) := by
  refine zM_imp (zM_sumL (n := 50) (w2 := w2) (fun A => cD_goal l D cA A g (cw cA (g 0) ac 6 nc nc 6 nt dy mo I L) rfl rfl _ _ a b its (cC_goal l hst D cA A g ac nc nt dy mo I L a b its hnc) (fun E w' h => ?_)) cw_lt A) (fun v w' h => ?_)
  · rcases h.2 with ⟨y, z⟩ | ⟨y1, y1b, y2, z⟩ | ⟨j, k, hj, ej, hk, ek, y3, y4, z⟩
    · exact Or.inl z
    · exact Or.inr (Or.inl z)
    · exact Or.inr (Or.inr z)
  · obtain ⟨w1, ⟨r, rfl, hz⟩, rfl⟩ := h
    refine ⟨r, rfl, ?_⟩
    rcases hz with ⟨x, ⟨j, k, hj, ej, hk, ek, -⟩, -⟩ | ⟨⟨rfl, h2⟩, e⟩ | ⟨⟨rfl, h2⟩, e⟩ | ⟨⟨rfl, h2⟩, e⟩
    · exact absurd ⟨⟨j, hj, ej⟩, ⟨k, hk, ek⟩⟩ hno
    · exact ⟨e.symm, rfl⟩
    · exfalso
      rcases h2 with ⟨y, z⟩ | ⟨y1, y1b, y2, z⟩ | ⟨j, k, hj, ej, hk, ek, y3, y4, z⟩ <;> first | exact absurd z (by decide) | exact hno ⟨y1, y1b⟩ | exact hno ⟨⟨j, hj, ej⟩, ⟨k, hk, ek⟩⟩
    · exfalso
      rcases h2 with ⟨y, z⟩ | ⟨y1, y1b, y2, z⟩ | ⟨j, k, hj, ej, hk, ek, y3, y4, z⟩ <;> first | exact absurd z (by decide) | exact hno ⟨y1, y1b⟩ | exact hno ⟨⟨j, hj, ej⟩, ⟨k, hk, ek⟩⟩
theorem qd_buy_I (hst : l.stackTraces = false) (a b its : Int32) (hno : ¬ (zIn a nc ∧ zIn b 6)) (hpr : ∀ f, f < 6 → ¬ Int32.toInt64 (I 1 f) = 0) (hnt : nt ≤ 120) (hnc : nc ≤ 12) (hdy : dy ≤ 7200) (h11 : ∀ t, t < nt → zD (I 11 t) nc) (h12 : ∀ t, t < nt → zD (I 12 t) 6) (h16 : ∀ t, t < nt → zD (I 16 t) 7201) : zM l yL_does wsL_does rmD_buy D (zt cA) A g [.ref (ac (0, 0, 0)), .int 4, .int a, .int b, .int its] (zk_sum 50 (cw cA (g 0) ac 6 nc nc 6 nt dy mo I L) w2) (zQl (fun r W' => -3000000000000 = r ∧ zk_sum 50 (cw cA (g 0) ac 6 nc nc 6 nt dy mo I L) w2 = W')) := by
  refine zM_imp (zM_sumL (n := 50) (w2 := w2) (fun A => cD_buy l D cA A g (cw cA (g 0) ac 6 nc nc 6 nt dy mo I L) rfl rfl _ _ a b its (cC_buy l hst D cA A g ac nc nt dy mo I L a b its hpr hnt hnc hdy h11 h12 h16) (fun E w' h => ?_)) cw_lt A) (fun v w' h => ?_)
  · rcases h.2 with ⟨y, z⟩ | ⟨y1, y1b, y2, z⟩ | ⟨j, k, hj, ej, hk, ek, y3, y4, z⟩
    · exact Or.inl z
    · exact Or.inr (Or.inl z)
    · exact Or.inr (Or.inr z)
  · obtain ⟨w1, ⟨r, rfl, hz⟩, rfl⟩ := h
    refine ⟨r, rfl, ?_⟩
    rcases hz with ⟨x, ⟨j, k, hj, ej, hk, ek, -⟩, -⟩ | ⟨⟨rfl, h2⟩, e⟩ | ⟨⟨rfl, h2⟩, e⟩ | ⟨⟨rfl, h2⟩, e⟩
    · exact absurd ⟨⟨j, hj, ej⟩, ⟨k, hk, ek⟩⟩ hno
    · exact ⟨e.symm, rfl⟩
    · exfalso
      rcases h2 with ⟨y, z⟩ | ⟨y1, y1b, y2, z⟩ | ⟨j, k, hj, ej, hk, ek, y3, y4, z⟩ <;> first | exact absurd z (by decide) | exact hno ⟨y1, y1b⟩ | exact hno ⟨⟨j, hj, ej⟩, ⟨k, hk, ek⟩⟩
    · exfalso
      rcases h2 with ⟨y, z⟩ | ⟨y1, y1b, y2, z⟩ | ⟨j, k, hj, ej, hk, ek, y3, y4, z⟩ <;> first | exact absurd z (by decide) | exact hno ⟨y1, y1b⟩ | exact hno ⟨⟨j, hj, ej⟩, ⟨k, hk, ek⟩⟩
theorem qd_sell_I (hst : l.stackTraces = false) (a b its : Int32) (hno : ¬ (zIn a nc ∧ zIn b 6)) (hpr : ∀ f, f < 6 → ¬ Int32.toInt64 (I 1 f) = 0) (hnt : nt ≤ 120) (hnc : nc ≤ 12) (hdy : dy ≤ 7200) (h11 : ∀ t, t < nt → zD (I 11 t) nc) (h12 : ∀ t, t < nt → zD (I 12 t) 6) (h16 : ∀ t, t < nt → zD (I 16 t) 7201) : zM l yL_does wsL_does rmD_sell D (zt cA) A g [.ref (ac (0, 0, 0)), .int 5, .int a, .int b, .int its] (zk_sum 50 (cw cA (g 0) ac 6 nc nc 6 nt dy mo I L) w2) (zQl (fun r W' => -3000000000000 = r ∧ zk_sum 50 (cw cA (g 0) ac 6 nc nc 6 nt dy mo I L) w2 = W')) := by
  refine zM_imp (zM_sumL (n := 50) (w2 := w2) (fun A => cD_sell l D cA A g (cw cA (g 0) ac 6 nc nc 6 nt dy mo I L) rfl rfl _ _ a b its (cC_sell l hst D cA A g ac nc nt dy mo I L a b its hpr hnt hnc hdy h11 h12 h16) (fun E w' h => ?_)) cw_lt A) (fun v w' h => ?_)
  · rcases h.2 with ⟨y, z⟩ | ⟨y1, y1b, y2, z⟩ | ⟨j, k, hj, ej, hk, ek, y3, y4, z⟩
    · exact Or.inl z
    · exact Or.inr (Or.inl z)
    · exact Or.inr (Or.inr z)
  · obtain ⟨w1, ⟨r, rfl, hz⟩, rfl⟩ := h
    refine ⟨r, rfl, ?_⟩
    rcases hz with ⟨x, ⟨j, k, hj, ej, hk, ek, -⟩, -⟩ | ⟨⟨rfl, h2⟩, e⟩ | ⟨⟨rfl, h2⟩, e⟩ | ⟨⟨rfl, h2⟩, e⟩
    · exact absurd ⟨⟨j, hj, ej⟩, ⟨k, hk, ek⟩⟩ hno
    · exact ⟨e.symm, rfl⟩
    · exfalso
      rcases h2 with ⟨y, z⟩ | ⟨y1, y1b, y2, z⟩ | ⟨j, k, hj, ej, hk, ek, y3, y4, z⟩ <;> first | exact absurd z (by decide) | exact hno ⟨y1, y1b⟩ | exact hno ⟨⟨j, hj, ej⟩, ⟨k, hk, ek⟩⟩
    · exfalso
      rcases h2 with ⟨y, z⟩ | ⟨y1, y1b, y2, z⟩ | ⟨j, k, hj, ej, hk, ek, y3, y4, z⟩ <;> first | exact absurd z (by decide) | exact hno ⟨y1, y1b⟩ | exact hno ⟨⟨j, hj, ej⟩, ⟨k, hk, ek⟩⟩
theorem qd_goal_A (hst : l.stackTraces = false) (c f : Nat) (hc : c < nc) (hf : f < 6) (its : Int32) (hno : ¬ zR its 0 100) (hnc : nc ≤ 12) : zM l yL_does wsL_does rmD_goal D (zt cA) A g [.ref (ac (0, 0, 0)), .int 3, .int (nI c), .int (nI f), .int its] (zk_sum 50 (cw cA (g 0) ac 6 nc nc 6 nt dy mo I L) w2) (zQl (fun r W' => -2000000000000 = r ∧ zk_sum 50 (cw cA (g 0) ac 6 nc nc 6 nt dy mo I L) w2 = W')) := by
  refine zM_imp (zM_sumL (n := 50) (w2 := w2) (fun A => cD_goal l D cA A g (cw cA (g 0) ac 6 nc nc 6 nt dy mo I L) rfl rfl _ _ (nI c) (nI f) its (cC_goal l hst D cA A g ac nc nt dy mo I L (nI c) (nI f) its hnc) (fun E w' h => ?_)) cw_lt A) (fun v w' h => ?_)
  · rcases h.2 with ⟨y, z⟩ | ⟨y1, y1b, y2, z⟩ | ⟨j, k, hj, ej, hk, ek, y3, y4, z⟩
    · exact Or.inl z
    · exact Or.inr (Or.inl z)
    · exact Or.inr (Or.inr z)
  · obtain ⟨w1, ⟨r, rfl, hz⟩, rfl⟩ := h
    refine ⟨r, rfl, ?_⟩
    rcases hz with ⟨x, ⟨j, k, hj, ej, hk, ek, y, -⟩, -⟩ | ⟨⟨rfl, h2⟩, e⟩ | ⟨⟨rfl, h2⟩, e⟩ | ⟨⟨rfl, h2⟩, e⟩
    · exact absurd y hno
    · exfalso
      rcases h2 with ⟨y, z⟩ | ⟨y1, y1b, y2, z⟩ | ⟨j, k, hj, ej, hk, ek, y3, y4, z⟩ <;> first | exact absurd z (by decide) | exact y ⟨⟨c, hc, rfl⟩, ⟨f, hf, rfl⟩⟩ | exact hno y3
    · exact ⟨e.symm, rfl⟩
    · exfalso
      rcases h2 with ⟨y, z⟩ | ⟨y1, y1b, y2, z⟩ | ⟨j, k, hj, ej, hk, ek, y3, y4, z⟩ <;> first | exact absurd z (by decide) | exact y ⟨⟨c, hc, rfl⟩, ⟨f, hf, rfl⟩⟩ | exact hno y3
theorem qd_goal_S (hst : l.stackTraces = false) (c f : Nat) (hc : c < nc) (hf : f < 6) (its : Int32) (hz : zR its 0 100) (hno : 100 < hunT I c 6 - I 7 (6 * c + f) + its) (hnc : nc ≤ 12) : zM l yL_does wsL_does rmD_goal D (zt cA) A g [.ref (ac (0, 0, 0)), .int 3, .int (nI c), .int (nI f), .int its] (zk_sum 50 (cw cA (g 0) ac 6 nc nc 6 nt dy mo I L) w2) (zQl (fun r W' => -1000000000000 = r ∧ zk_sum 50 (cw cA (g 0) ac 6 nc nc 6 nt dy mo I L) w2 = W')) := by
  refine zM_imp (zM_sumL (n := 50) (w2 := w2) (fun A => cD_goal l D cA A g (cw cA (g 0) ac 6 nc nc 6 nt dy mo I L) rfl rfl _ _ (nI c) (nI f) its (cC_goal l hst D cA A g ac nc nt dy mo I L (nI c) (nI f) its hnc) (fun E w' h => ?_)) cw_lt A) (fun v w' h => ?_)
  · rcases h.2 with ⟨y, z⟩ | ⟨y1, y1b, y2, z⟩ | ⟨j, k, hj, ej, hk, ek, y3, y4, z⟩
    · exact Or.inl z
    · exact Or.inr (Or.inl z)
    · exact Or.inr (Or.inr z)
  · obtain ⟨w1, ⟨r, rfl, hz⟩, rfl⟩ := h
    refine ⟨r, rfl, ?_⟩
    rcases hz with ⟨x, ⟨j, k, hj, ej, hk, ek, -, y, -⟩, -⟩ | ⟨⟨rfl, h2⟩, e⟩ | ⟨⟨rfl, h2⟩, e⟩ | ⟨⟨rfl, h2⟩, e⟩
    · obtain rfl := nIj (n := nc) (by omega) hc hj ej; obtain rfl := nIj (n := 6) (by decide) hf hk ek
      exact absurd hno y
    · exfalso
      rcases h2 with ⟨y, z⟩ | ⟨y1, y1b, y2, z⟩ | ⟨j, k, hj, ej, hk, ek, y3, y4, z⟩ <;> first | exact absurd z (by decide) | exact y ⟨⟨c, hc, rfl⟩, ⟨f, hf, rfl⟩⟩ | exact y2 hz
    · exfalso
      rcases h2 with ⟨y, z⟩ | ⟨y1, y1b, y2, z⟩ | ⟨j, k, hj, ej, hk, ek, y3, y4, z⟩ <;> first | exact absurd z (by decide) | exact y ⟨⟨c, hc, rfl⟩, ⟨f, hf, rfl⟩⟩ | exact y2 hz
    · exact ⟨e.symm, rfl⟩
theorem qd_goal (hst : l.stackTraces = false) (c f : Nat) (hc : c < nc) (hf : f < 6) (its : Int32) (hz : zR its 0 100) (hok : ¬ 100 < hunT I c 6 - I 7 (6 * c + f) + its) (hnc : nc ≤ 12) : zM l yL_does wsL_does rmD_goal D (zt cA) A g [.ref (ac (0, 0, 0)), .int 3, .int (nI c), .int (nI f), .int its] (zk_sum 50 (cw cA (g 0) ac 6 nc nc 6 nt dy mo I L) w2) (zQl (fun r W' => Int32.toInt64 (hunT I c 6 - I 7 (6 * c + f) + its) = r ∧ zk_sum 50 (cw cA (g 0) ac 6 nc nc 6 nt dy mo (up2 I 7 (6 * c + f) its) L) w2 = W')) := by
  refine zM_imp (zM_sumL (n := 50) (w2 := w2) (fun A => cD_goal l D cA A g (cw cA (g 0) ac 6 nc nc 6 nt dy mo I L) rfl rfl _ _ (nI c) (nI f) its (cC_goal l hst D cA A g ac nc nt dy mo I L (nI c) (nI f) its hnc) (fun E w' h => ?_)) cw_lt A) (fun v w' h => ?_)
  · rcases h.2 with ⟨y, z⟩ | ⟨y1, y1b, y2, z⟩ | ⟨j, k, hj, ej, hk, ek, y3, y4, z⟩
    · exact Or.inl z
    · exact Or.inr (Or.inl z)
    · exact Or.inr (Or.inr z)
  · obtain ⟨w1, ⟨r, rfl, hz⟩, rfl⟩ := h
    refine ⟨r, rfl, ?_⟩
    rcases hz with ⟨x, ⟨j, k, hj, ej, hk, ek, -, -, rfl, rfl⟩, rfl⟩ | ⟨⟨rfl, h2⟩, e⟩ | ⟨⟨rfl, h2⟩, e⟩ | ⟨⟨rfl, h2⟩, e⟩
    · obtain rfl := nIj (n := nc) (by omega) hc hj ej; obtain rfl := nIj (n := 6) (by decide) hf hk ek
      exact ⟨rfl, rfl⟩
    · exfalso
      rcases h2 with ⟨y, z⟩ | ⟨y1, y1b, y2, z⟩ | ⟨j, k, hj, ej, hk, ek, y3, y4, z⟩ <;> first | exact absurd z (by decide) | exact y ⟨⟨c, hc, rfl⟩, ⟨f, hf, rfl⟩⟩ | exact y2 hz | (obtain rfl := nIj (n := nc) (by omega) hc hj ej; obtain rfl := nIj (n := 6) (by decide) hf hk ek; exact hok y4)
    · exfalso
      rcases h2 with ⟨y, z⟩ | ⟨y1, y1b, y2, z⟩ | ⟨j, k, hj, ej, hk, ek, y3, y4, z⟩ <;> first | exact absurd z (by decide) | exact y ⟨⟨c, hc, rfl⟩, ⟨f, hf, rfl⟩⟩ | exact y2 hz | (obtain rfl := nIj (n := nc) (by omega) hc hj ej; obtain rfl := nIj (n := 6) (by decide) hf hk ek; exact hok y4)
    · exfalso
      rcases h2 with ⟨y, z⟩ | ⟨y1, y1b, y2, z⟩ | ⟨j, k, hj, ej, hk, ek, y3, y4, z⟩ <;> first | exact absurd z (by decide) | exact y ⟨⟨c, hc, rfl⟩, ⟨f, hf, rfl⟩⟩ | exact y2 hz | (obtain rfl := nIj (n := nc) (by omega) hc hj ej; obtain rfl := nIj (n := 6) (by decide) hf hk ek; exact hok y4)
theorem qd_buy_S (hst : l.stackTraces = false) (c f : Nat) (hc : c < nc) (hf : f < 6) (its : Int32) (hz : zR its 1 10000000) (hno : ¬ (nt < 120 ∧ 0 < partsL I f (Int32.toInt64 its) ∧ ¬ L 6 c < Int32.toInt64 its + costL (Int32.toInt64 its))) (hpr : ∀ f, f < 6 → ¬ Int32.toInt64 (I 1 f) = 0) (hnt : nt ≤ 120) (hnc : nc ≤ 12) (hdy : dy ≤ 7200) (h11 : ∀ t, t < nt → zD (I 11 t) nc) (h12 : ∀ t, t < nt → zD (I 12 t) 6) (h16 : ∀ t, t < nt → zD (I 16 t) 7201) : zM l yL_does wsL_does rmD_buy D (zt cA) A g [.ref (ac (0, 0, 0)), .int 4, .int (nI c), .int (nI f), .int its] (zk_sum 50 (cw cA (g 0) ac 6 nc nc 6 nt dy mo I L) w2) (zQl (fun r W' => -1000000000000 = r ∧ zk_sum 50 (cw cA (g 0) ac 6 nc nc 6 nt dy mo I L) w2 = W')) := by
  refine zM_imp (zM_sumL (n := 50) (w2 := w2) (fun A => cD_buy l D cA A g (cw cA (g 0) ac 6 nc nc 6 nt dy mo I L) rfl rfl _ _ (nI c) (nI f) its (cC_buy l hst D cA A g ac nc nt dy mo I L (nI c) (nI f) its hpr hnt hnc hdy h11 h12 h16) (fun E w' h => ?_)) cw_lt A) (fun v w' h => ?_)
  · rcases h.2 with ⟨y, z⟩ | ⟨y1, y1b, y2, z⟩ | ⟨j, k, hj, ej, hk, ek, y3, y4, z⟩
    · exact Or.inl z
    · exact Or.inr (Or.inl z)
    · exact Or.inr (Or.inr z)
  · obtain ⟨w1, ⟨r, rfl, hz⟩, rfl⟩ := h
    refine ⟨r, rfl, ?_⟩
    rcases hz with ⟨x, ⟨j, k, hj, ej, hk, ek, -, y, -⟩, -⟩ | ⟨⟨rfl, h2⟩, e⟩ | ⟨⟨rfl, h2⟩, e⟩ | ⟨⟨rfl, h2⟩, e⟩
    · obtain rfl := nIj (n := nc) (by omega) hc hj ej; obtain rfl := nIj (n := 6) (by decide) hf hk ek
      exact absurd y hno
    · exfalso
      rcases h2 with ⟨y, z⟩ | ⟨y1, y1b, y2, z⟩ | ⟨j, k, hj, ej, hk, ek, y3, y4, z⟩ <;> first | exact absurd z (by decide) | exact y ⟨⟨c, hc, rfl⟩, ⟨f, hf, rfl⟩⟩ | exact y2 hz
    · exfalso
      rcases h2 with ⟨y, z⟩ | ⟨y1, y1b, y2, z⟩ | ⟨j, k, hj, ej, hk, ek, y3, y4, z⟩ <;> first | exact absurd z (by decide) | exact y ⟨⟨c, hc, rfl⟩, ⟨f, hf, rfl⟩⟩ | exact y2 hz
    · exact ⟨e.symm, rfl⟩
theorem qd_buy (hst : l.stackTraces = false) (c f : Nat) (hc : c < nc) (hf : f < 6) (its : Int32) (hz : zR its 1 10000000) (hok : (nt < 120 ∧ 0 < partsL I f (Int32.toInt64 its) ∧ ¬ L 6 c < Int32.toInt64 its + costL (Int32.toInt64 its))) (hpr : ∀ f, f < 6 → ¬ Int32.toInt64 (I 1 f) = 0) (hnt : nt ≤ 120) (hnc : nc ≤ 12) (hdy : dy ≤ 7200) (h11 : ∀ t, t < nt → zD (I 11 t) nc) (h12 : ∀ t, t < nt → zD (I 12 t) 6) (h16 : ∀ t, t < nt → zD (I 16 t) 7201) : zM l yL_does wsL_does rmD_buy D (zt cA) A g [.ref (ac (0, 0, 0)), .int 4, .int (nI c), .int (nI f), .int its] (zk_sum 50 (cw cA (g 0) ac 6 nc nc 6 nt dy mo I L) w2) (zQl (fun r W' => Int32.toInt64 (nI nt) = r ∧ ∃ ac' : zk_K → Nat, ac' (0, 0, 0) = ac (0, 0, 0) ∧ zk_sum 50 (cw cA (g 0) ac' 6 nc nc 6 (nt + 1) dy (mtM I L nt dy c f (partsL I f (Int32.toInt64 its)) (Int32.toInt64 its) mo) (noteI I nt dy c f) (mtL I L nt dy c f (partsL I f (Int32.toInt64 its)) (Int32.toInt64 its))) w2 = W')) := by
  refine zM_imp (zM_sumL (n := 50) (w2 := w2) (fun A => cD_buy l D cA A g (cw cA (g 0) ac 6 nc nc 6 nt dy mo I L) rfl rfl _ _ (nI c) (nI f) its (cC_buy l hst D cA A g ac nc nt dy mo I L (nI c) (nI f) its hpr hnt hnc hdy h11 h12 h16) (fun E w' h => ?_)) cw_lt A) (fun v w' h => ?_)
  · rcases h.2 with ⟨y, z⟩ | ⟨y1, y1b, y2, z⟩ | ⟨j, k, hj, ej, hk, ek, y3, y4, z⟩
    · exact Or.inl z
    · exact Or.inr (Or.inl z)
    · exact Or.inr (Or.inr z)
  · obtain ⟨w1, ⟨r, rfl, hz⟩, rfl⟩ := h
    refine ⟨r, rfl, ?_⟩
    rcases hz with ⟨x, ⟨j, k, hj, ej, hk, ek, -, -, rfl, ac', ha, rfl⟩, rfl⟩ | ⟨⟨rfl, h2⟩, e⟩ | ⟨⟨rfl, h2⟩, e⟩ | ⟨⟨rfl, h2⟩, e⟩
    · obtain rfl := nIj (n := nc) (by omega) hc hj ej; obtain rfl := nIj (n := 6) (by decide) hf hk ek
      exact ⟨rfl, ac', ha _ (fun z => by cases z) (fun z => by cases z), rfl⟩
    · exfalso
      rcases h2 with ⟨y, z⟩ | ⟨y1, y1b, y2, z⟩ | ⟨j, k, hj, ej, hk, ek, y3, y4, z⟩ <;> first | exact absurd z (by decide) | exact y ⟨⟨c, hc, rfl⟩, ⟨f, hf, rfl⟩⟩ | exact y2 hz | (obtain rfl := nIj (n := nc) (by omega) hc hj ej; obtain rfl := nIj (n := 6) (by decide) hf hk ek; exact y4 hok)
    · exfalso
      rcases h2 with ⟨y, z⟩ | ⟨y1, y1b, y2, z⟩ | ⟨j, k, hj, ej, hk, ek, y3, y4, z⟩ <;> first | exact absurd z (by decide) | exact y ⟨⟨c, hc, rfl⟩, ⟨f, hf, rfl⟩⟩ | exact y2 hz | (obtain rfl := nIj (n := nc) (by omega) hc hj ej; obtain rfl := nIj (n := 6) (by decide) hf hk ek; exact y4 hok)
    · exfalso
      rcases h2 with ⟨y, z⟩ | ⟨y1, y1b, y2, z⟩ | ⟨j, k, hj, ej, hk, ek, y3, y4, z⟩ <;> first | exact absurd z (by decide) | exact y ⟨⟨c, hc, rfl⟩, ⟨f, hf, rfl⟩⟩ | exact y2 hz | (obtain rfl := nIj (n := nc) (by omega) hc hj ej; obtain rfl := nIj (n := 6) (by decide) hf hk ek; exact y4 hok)
theorem qd_sell_S (hst : l.stackTraces = false) (c f : Nat) (hc : c < nc) (hf : f < 6) (its : Int32) (hz : zR its 1 1000000000) (hno : ¬ (nt < 120 ∧ ¬ L 8 (6 * c + f) < Int32.toInt64 its ∧ 0 < amountL I f (Int32.toInt64 its) ∧ ¬ 1000000000 < amountL I f (Int32.toInt64 its))) (hpr : ∀ f, f < 6 → ¬ Int32.toInt64 (I 1 f) = 0) (hnt : nt ≤ 120) (hnc : nc ≤ 12) (hdy : dy ≤ 7200) (h11 : ∀ t, t < nt → zD (I 11 t) nc) (h12 : ∀ t, t < nt → zD (I 12 t) 6) (h16 : ∀ t, t < nt → zD (I 16 t) 7201) : zM l yL_does wsL_does rmD_sell D (zt cA) A g [.ref (ac (0, 0, 0)), .int 5, .int (nI c), .int (nI f), .int its] (zk_sum 50 (cw cA (g 0) ac 6 nc nc 6 nt dy mo I L) w2) (zQl (fun r W' => -1000000000000 = r ∧ zk_sum 50 (cw cA (g 0) ac 6 nc nc 6 nt dy mo I L) w2 = W')) := by
  refine zM_imp (zM_sumL (n := 50) (w2 := w2) (fun A => cD_sell l D cA A g (cw cA (g 0) ac 6 nc nc 6 nt dy mo I L) rfl rfl _ _ (nI c) (nI f) its (cC_sell l hst D cA A g ac nc nt dy mo I L (nI c) (nI f) its hpr hnt hnc hdy h11 h12 h16) (fun E w' h => ?_)) cw_lt A) (fun v w' h => ?_)
  · rcases h.2 with ⟨y, z⟩ | ⟨y1, y1b, y2, z⟩ | ⟨j, k, hj, ej, hk, ek, y3, y4, z⟩
    · exact Or.inl z
    · exact Or.inr (Or.inl z)
    · exact Or.inr (Or.inr z)
  · obtain ⟨w1, ⟨r, rfl, hz⟩, rfl⟩ := h
    refine ⟨r, rfl, ?_⟩
    rcases hz with ⟨x, ⟨j, k, hj, ej, hk, ek, -, y, -⟩, -⟩ | ⟨⟨rfl, h2⟩, e⟩ | ⟨⟨rfl, h2⟩, e⟩ | ⟨⟨rfl, h2⟩, e⟩
    · obtain rfl := nIj (n := nc) (by omega) hc hj ej; obtain rfl := nIj (n := 6) (by decide) hf hk ek
      exact absurd y hno
    · exfalso
      rcases h2 with ⟨y, z⟩ | ⟨y1, y1b, y2, z⟩ | ⟨j, k, hj, ej, hk, ek, y3, y4, z⟩ <;> first | exact absurd z (by decide) | exact y ⟨⟨c, hc, rfl⟩, ⟨f, hf, rfl⟩⟩ | exact y2 hz
    · exfalso
      rcases h2 with ⟨y, z⟩ | ⟨y1, y1b, y2, z⟩ | ⟨j, k, hj, ej, hk, ek, y3, y4, z⟩ <;> first | exact absurd z (by decide) | exact y ⟨⟨c, hc, rfl⟩, ⟨f, hf, rfl⟩⟩ | exact y2 hz
    · exact ⟨e.symm, rfl⟩
theorem qd_sell (hst : l.stackTraces = false) (c f : Nat) (hc : c < nc) (hf : f < 6) (its : Int32) (hz : zR its 1 1000000000) (hok : (nt < 120 ∧ ¬ L 8 (6 * c + f) < Int32.toInt64 its ∧ 0 < amountL I f (Int32.toInt64 its) ∧ ¬ 1000000000 < amountL I f (Int32.toInt64 its))) (hpr : ∀ f, f < 6 → ¬ Int32.toInt64 (I 1 f) = 0) (hnt : nt ≤ 120) (hnc : nc ≤ 12) (hdy : dy ≤ 7200) (h11 : ∀ t, t < nt → zD (I 11 t) nc) (h12 : ∀ t, t < nt → zD (I 12 t) 6) (h16 : ∀ t, t < nt → zD (I 16 t) 7201) : zM l yL_does wsL_does rmD_sell D (zt cA) A g [.ref (ac (0, 0, 0)), .int 5, .int (nI c), .int (nI f), .int its] (zk_sum 50 (cw cA (g 0) ac 6 nc nc 6 nt dy mo I L) w2) (zQl (fun r W' => Int32.toInt64 (nI nt) = r ∧ ∃ ac' : zk_K → Nat, ac' (0, 0, 0) = ac (0, 0, 0) ∧ zk_sum 50 (cw cA (g 0) ac' 6 nc nc 6 (nt + 1) dy (mtM I L nt dy c f (Int32.toInt64 (-its)) (amountL I f (Int32.toInt64 its)) mo) (noteI I nt dy c f) (mtL I L nt dy c f (Int32.toInt64 (-its)) (amountL I f (Int32.toInt64 its)))) w2 = W')) := by
  refine zM_imp (zM_sumL (n := 50) (w2 := w2) (fun A => cD_sell l D cA A g (cw cA (g 0) ac 6 nc nc 6 nt dy mo I L) rfl rfl _ _ (nI c) (nI f) its (cC_sell l hst D cA A g ac nc nt dy mo I L (nI c) (nI f) its hpr hnt hnc hdy h11 h12 h16) (fun E w' h => ?_)) cw_lt A) (fun v w' h => ?_)
  · rcases h.2 with ⟨y, z⟩ | ⟨y1, y1b, y2, z⟩ | ⟨j, k, hj, ej, hk, ek, y3, y4, z⟩
    · exact Or.inl z
    · exact Or.inr (Or.inl z)
    · exact Or.inr (Or.inr z)
  · obtain ⟨w1, ⟨r, rfl, hz⟩, rfl⟩ := h
    refine ⟨r, rfl, ?_⟩
    rcases hz with ⟨x, ⟨j, k, hj, ej, hk, ek, -, -, rfl, ac', ha, rfl⟩, rfl⟩ | ⟨⟨rfl, h2⟩, e⟩ | ⟨⟨rfl, h2⟩, e⟩ | ⟨⟨rfl, h2⟩, e⟩
    · obtain rfl := nIj (n := nc) (by omega) hc hj ej; obtain rfl := nIj (n := 6) (by decide) hf hk ek
      exact ⟨rfl, ac', ha _ (fun z => by cases z) (fun z => by cases z), rfl⟩
    · exfalso
      rcases h2 with ⟨y, z⟩ | ⟨y1, y1b, y2, z⟩ | ⟨j, k, hj, ej, hk, ek, y3, y4, z⟩ <;> first | exact absurd z (by decide) | exact y ⟨⟨c, hc, rfl⟩, ⟨f, hf, rfl⟩⟩ | exact y2 hz | (obtain rfl := nIj (n := nc) (by omega) hc hj ej; obtain rfl := nIj (n := 6) (by decide) hf hk ek; exact y4 hok)
    · exfalso
      rcases h2 with ⟨y, z⟩ | ⟨y1, y1b, y2, z⟩ | ⟨j, k, hj, ej, hk, ek, y3, y4, z⟩ <;> first | exact absurd z (by decide) | exact y ⟨⟨c, hc, rfl⟩, ⟨f, hf, rfl⟩⟩ | exact y2 hz | (obtain rfl := nIj (n := nc) (by omega) hc hj ej; obtain rfl := nIj (n := 6) (by decide) hf hk ek; exact y4 hok)
    · exfalso
      rcases h2 with ⟨y, z⟩ | ⟨y1, y1b, y2, z⟩ | ⟨j, k, hj, ej, hk, ek, y3, y4, z⟩ <;> first | exact absurd z (by decide) | exact y ⟨⟨c, hc, rfl⟩, ⟨f, hf, rfl⟩⟩ | exact y2 hz | (obtain rfl := nIj (n := nc) (by omega) hc hj ej; obtain rfl := nIj (n := 6) (by decide) hf hk ek; exact y4 hok)
theorem qd_balance_I (hst : l.stackTraces = false) (a : Int32) (hno : ¬ zIn a nc) (hpr : ∀ f, f < 6 → ¬ Int32.toInt64 (I 1 f) = 0) (hnt : nt ≤ 120) (hnc : nc ≤ 12) (hdy : dy ≤ 7200) (h11 : ∀ t, t < nt → zD (I 11 t) nc) (h12 : ∀ t, t < nt → zD (I 12 t) 6) (h16 : ∀ t, t < nt → zD (I 16 t) 7201) : zM l yL_does wsL_does rmD_balance D (zt cA) A g [.ref (ac (0, 0, 0)), .int 6, .int a, .int 0, .int 0] (zk_sum 50 (cw cA (g 0) ac 6 nc nc 6 nt dy mo I L) w2) (zQl (fun r W' => -3000000000000 = r ∧ zk_sum 50 (cw cA (g 0) ac 6 nc nc 6 nt dy mo I L) w2 = W')) := by
  refine zM_imp (zM_sumL (n := 50) (w2 := w2) (fun A => cD_balance l D cA A g (cw cA (g 0) ac 6 nc nc 6 nt dy mo I L) rfl rfl _ _ a 0 0 (cC_balance l hst D cA A g ac nc nt dy mo I L a hpr hnt hnc hdy h11 h12 h16) (fun E w' h => ?_)) cw_lt A) (fun v w' h => ?_)
  · rcases h.2 with ⟨y, z⟩ | ⟨j, hj, ej, y4, z⟩
    · exact Or.inl z
    · exact Or.inr (Or.inr z)
  · obtain ⟨w1, ⟨r, rfl, hz⟩, rfl⟩ := h
    refine ⟨r, rfl, ?_⟩
    rcases hz with ⟨x, ⟨j, hj, ej, -⟩, -⟩ | ⟨⟨rfl, h2⟩, e⟩ | ⟨⟨rfl, h2⟩, e⟩ | ⟨⟨rfl, h2⟩, e⟩
    · exact absurd ⟨j, hj, ej⟩ hno
    · exact ⟨e.symm, rfl⟩
    · exfalso
      rcases h2 with ⟨y, z⟩ | ⟨j, hj, ej, y4, z⟩ <;> first | exact absurd z (by decide) | exact hno ⟨j, hj, ej⟩
    · exfalso
      rcases h2 with ⟨y, z⟩ | ⟨j, hj, ej, y4, z⟩ <;> first | exact absurd z (by decide) | exact hno ⟨j, hj, ej⟩
theorem qd_balance_S (hst : l.stackTraces = false) (c : Nat) (hc : c < nc) (hno : (wealthL I L c 6) < 0 ∨ 100000000 < (wealthL I L c 6)) (hpr : ∀ f, f < 6 → ¬ Int32.toInt64 (I 1 f) = 0) (hnt : nt ≤ 120) (hnc : nc ≤ 12) (hdy : dy ≤ 7200) (h11 : ∀ t, t < nt → zD (I 11 t) nc) (h12 : ∀ t, t < nt → zD (I 12 t) 6) (h16 : ∀ t, t < nt → zD (I 16 t) 7201) : zM l yL_does wsL_does rmD_balance D (zt cA) A g [.ref (ac (0, 0, 0)), .int 6, .int (nI c), .int 0, .int 0] (zk_sum 50 (cw cA (g 0) ac 6 nc nc 6 nt dy mo I L) w2) (zQl (fun r W' => -1000000000000 = r ∧ zk_sum 50 (cw cA (g 0) ac 6 nc nc 6 nt dy mo I L) w2 = W')) := by
  refine zM_imp (zM_sumL (n := 50) (w2 := w2) (fun A => cD_balance l D cA A g (cw cA (g 0) ac 6 nc nc 6 nt dy mo I L) rfl rfl _ _ (nI c) 0 0 (cC_balance l hst D cA A g ac nc nt dy mo I L (nI c) hpr hnt hnc hdy h11 h12 h16) (fun E w' h => ?_)) cw_lt A) (fun v w' h => ?_)
  · rcases h.2 with ⟨y, z⟩ | ⟨j, hj, ej, y4, z⟩
    · exact Or.inl z
    · exact Or.inr (Or.inr z)
  · obtain ⟨w1, ⟨r, rfl, hz⟩, rfl⟩ := h
    refine ⟨r, rfl, ?_⟩
    rcases hz with ⟨x, ⟨j, hj, ej, -, y1, y2, -⟩, -⟩ | ⟨⟨rfl, h2⟩, e⟩ | ⟨⟨rfl, h2⟩, e⟩ | ⟨⟨rfl, h2⟩, e⟩
    · obtain rfl := nIj (n := nc) (by omega) hc hj ej
      exact absurd hno (fun z => z.elim y1 y2)
    · exfalso
      rcases h2 with ⟨y, z⟩ | ⟨j, hj, ej, y4, z⟩ <;> first | exact absurd z (by decide) | exact y ⟨c, hc, rfl⟩
    · exfalso
      rcases h2 with ⟨y, z⟩ | ⟨j, hj, ej, y4, z⟩ <;> first | exact absurd z (by decide) | exact y ⟨c, hc, rfl⟩
    · exact ⟨e.symm, rfl⟩
theorem qd_balance (hst : l.stackTraces = false) (c : Nat) (hc : c < nc) (h108 : nt ≤ 108) (h0 : ¬ (wealthL I L c 6) < 0) (h1 : ¬ 100000000 < (wealthL I L c 6)) (hpr : ∀ f, f < 6 → ¬ Int32.toInt64 (I 1 f) = 0) (hnt : nt ≤ 120) (hnc : nc ≤ 12) (hdy : dy ≤ 7200) (h11 : ∀ t, t < nt → zD (I 11 t) nc) (h12 : ∀ t, t < nt → zD (I 12 t) 6) (h16 : ∀ t, t < nt → zD (I 16 t) 7201) : zM l yL_does wsL_does rmD_balance D (zt cA) A g [.ref (ac (0, 0, 0)), .int 6, .int (nI c), .int 0, .int 0] (zk_sum 50 (cw cA (g 0) ac 6 nc nc 6 nt dy mo I L) w2) (zQl (fun r W' => Int32.toInt64 (nI ((buyC dy c (wealthL I L c 6) (selC dy c (wealthL I L c 6) (nt, mo, I, L) 6) 6).1 - nt)) = r ∧ ∃ ac' : zk_K → Nat, ac' (0, 0, 0) = ac (0, 0, 0) ∧ zk_sum 50 (cw cA (g 0) ac' 6 nc nc 6 ((buyC dy c (wealthL I L c 6) (selC dy c (wealthL I L c 6) (nt, mo, I, L) 6) 6).1) dy ((buyC dy c (wealthL I L c 6) (selC dy c (wealthL I L c 6) (nt, mo, I, L) 6) 6).2.1) ((buyC dy c (wealthL I L c 6) (selC dy c (wealthL I L c 6) (nt, mo, I, L) 6) 6).2.2.1) ((buyC dy c (wealthL I L c 6) (selC dy c (wealthL I L c 6) (nt, mo, I, L) 6) 6).2.2.2)) w2 = W')) := by
  refine zM_imp (zM_sumL (n := 50) (w2 := w2) (fun A => cD_balance l D cA A g (cw cA (g 0) ac 6 nc nc 6 nt dy mo I L) rfl rfl _ _ (nI c) 0 0 (cC_balance l hst D cA A g ac nc nt dy mo I L (nI c) hpr hnt hnc hdy h11 h12 h16) (fun E w' h => ?_)) cw_lt A) (fun v w' h => ?_)
  · rcases h.2 with ⟨y, z⟩ | ⟨j, hj, ej, y4, z⟩
    · exact Or.inl z
    · exact Or.inr (Or.inr z)
  · obtain ⟨w1, ⟨r, rfl, hz⟩, rfl⟩ := h
    refine ⟨r, rfl, ?_⟩
    rcases hz with ⟨x, ⟨j, hj, ej, -, -, -, rfl, ac', ha, rfl⟩, rfl⟩ | ⟨⟨rfl, h2⟩, e⟩ | ⟨⟨rfl, h2⟩, e⟩ | ⟨⟨rfl, h2⟩, e⟩
    · obtain rfl := nIj (n := nc) (by omega) hc hj ej
      exact ⟨rfl, ac', ha _ (by decide) (by decide), rfl⟩
    · exfalso
      rcases h2 with ⟨y, z⟩ | ⟨j, hj, ej, y4, z⟩ <;> first | exact absurd z (by decide) | exact y ⟨c, hc, rfl⟩ | (obtain rfl := nIj (n := nc) (by omega) hc hj ej; exact y4.elim (fun q => q h108) (fun q => q.elim h0 h1))
    · exfalso
      rcases h2 with ⟨y, z⟩ | ⟨j, hj, ej, y4, z⟩ <;> first | exact absurd z (by decide) | exact y ⟨c, hc, rfl⟩ | (obtain rfl := nIj (n := nc) (by omega) hc hj ej; exact y4.elim (fun q => q h108) (fun q => q.elim h0 h1))
    · exfalso
      rcases h2 with ⟨y, z⟩ | ⟨j, hj, ej, y4, z⟩ <;> first | exact absurd z (by decide) | exact y ⟨c, hc, rfl⟩ | (obtain rfl := nIj (n := nc) (by omega) hc hj ej; exact y4.elim (fun q => q h108) (fun q => q.elim h0 h1))
theorem qd_complain_I (hst : l.stackTraces = false) (a : Int32) (hno : ¬ zIn a nt) (hdy : dy ≤ 7200) (hnt : nt ≤ 120) (hnc : nc ≤ 12) (h11 : ∀ t, t < nt → zD (I 11 t) nc) (h12 : ∀ t, t < nt → zD (I 12 t) 6) (h16 : ∀ t, t < nt → zD (I 16 t) 7201) : zM l yL_does wsL_does rmD_complain D (zt cA) A g [.ref (ac (0, 0, 0)), .int 7, .int a, .int 0, .int 0] (zk_sum 50 (cw cA (g 0) ac 6 nc nc 6 nt dy mo I L) w2) (zQl (fun r W' => -3000000000000 = r ∧ zk_sum 50 (cw cA (g 0) ac 6 nc nc 6 nt dy mo I L) w2 = W')) := by
  refine zM_imp (zM_sumL (n := 50) (w2 := w2) (fun A => cD_complain l D cA A g (cw cA (g 0) ac 6 nc nc 6 nt dy mo I L) rfl rfl _ _ a 0 0 (cC_complain l hst D cA A g ac nc nt dy mo I L a hdy hnt hnc h11 h12 h16) (fun E w' h => ?_)) cw_lt A) (fun v w' h => ?_)
  · rcases h.2 with ⟨y, z⟩ | ⟨j, hj, ej, y4, z⟩
    · exact Or.inl z
    · exact Or.inr (Or.inr z)
  · obtain ⟨w1, ⟨r, rfl, hz⟩, rfl⟩ := h
    refine ⟨r, rfl, ?_⟩
    rcases hz with ⟨j, hj, ej, -⟩ | ⟨⟨rfl, h2⟩, e⟩ | ⟨⟨rfl, h2⟩, e⟩ | ⟨⟨rfl, h2⟩, e⟩
    · exact absurd ⟨j, hj, ej⟩ hno
    · exact ⟨e.symm, rfl⟩
    · exfalso
      rcases h2 with ⟨y, z⟩ | ⟨j, hj, ej, y4, z⟩ <;> first | exact absurd z (by decide) | exact hno ⟨j, hj, ej⟩
    · exfalso
      rcases h2 with ⟨y, z⟩ | ⟨j, hj, ej, y4, z⟩ <;> first | exact absurd z (by decide) | exact hno ⟨j, hj, ej⟩
theorem qd_complain_S (hst : l.stackTraces = false) (t : Nat) (ht : t < nt) (hno : ¬ canS I L nt t) (hdy : dy ≤ 7200) (hnt : nt ≤ 120) (hnc : nc ≤ 12) (h11 : ∀ t, t < nt → zD (I 11 t) nc) (h12 : ∀ t, t < nt → zD (I 12 t) 6) (h16 : ∀ t, t < nt → zD (I 16 t) 7201) : zM l yL_does wsL_does rmD_complain D (zt cA) A g [.ref (ac (0, 0, 0)), .int 7, .int (nI t), .int 0, .int 0] (zk_sum 50 (cw cA (g 0) ac 6 nc nc 6 nt dy mo I L) w2) (zQl (fun r W' => -1000000000000 = r ∧ zk_sum 50 (cw cA (g 0) ac 6 nc nc 6 nt dy mo I L) w2 = W')) := by
  refine zM_imp (zM_sumL (n := 50) (w2 := w2) (fun A => cD_complain l D cA A g (cw cA (g 0) ac 6 nc nc 6 nt dy mo I L) rfl rfl _ _ (nI t) 0 0 (cC_complain l hst D cA A g ac nc nt dy mo I L (nI t) hdy hnt hnc h11 h12 h16) (fun E w' h => ?_)) cw_lt A) (fun v w' h => ?_)
  · rcases h.2 with ⟨y, z⟩ | ⟨j, hj, ej, y4, z⟩
    · exact Or.inl z
    · exact Or.inr (Or.inr z)
  · obtain ⟨w1, ⟨r, rfl, hz⟩, rfl⟩ := h
    refine ⟨r, rfl, ?_⟩
    rcases hz with ⟨j, hj, ej, y, -⟩ | ⟨⟨rfl, h2⟩, e⟩ | ⟨⟨rfl, h2⟩, e⟩ | ⟨⟨rfl, h2⟩, e⟩
    · obtain rfl := nIj (n := nt) (by omega) ht hj ej
      exact absurd y hno
    · exfalso
      rcases h2 with ⟨y, z⟩ | ⟨j, hj, ej, y4, z⟩ <;> first | exact absurd z (by decide) | exact y ⟨t, ht, rfl⟩
    · exfalso
      rcases h2 with ⟨y, z⟩ | ⟨j, hj, ej, y4, z⟩ <;> first | exact absurd z (by decide) | exact y ⟨t, ht, rfl⟩
    · exact ⟨e.symm, rfl⟩
theorem qd_complain (hst : l.stackTraces = false) (t : Nat) (ht : t < nt) (hok : canS I L nt t) (hdy : dy ≤ 7200) (hnt : nt ≤ 120) (hnc : nc ≤ 12) (h11 : ∀ t, t < nt → zD (I 11 t) nc) (h12 : ∀ t, t < nt → zD (I 12 t) 6) (h16 : ∀ t, t < nt → zD (I 16 t) 7201) : zM l yL_does wsL_does rmD_complain D (zt cA) A g [.ref (ac (0, 0, 0)), .int 7, .int (nI t), .int 0, .int 0] (zk_sum 50 (cw cA (g 0) ac 6 nc nc 6 nt dy mo I L) w2) (zQl (fun r W' => (stS (cmL I L nt t) (dN (I 11 t)) (dy / 360)).1 = r ∧ zk_sum 50 (cw cA (g 0) ac 6 nc nc 6 nt dy (exM (up2 I 17 t 0) L (dN (I 12 t)) (-(L 13 t)) (-(payT L t)) mo) (up2 I 17 t 0) (stL (cmL I L nt t) (dN (I 11 t)) (dy / 360))) w2 = W')) := by
  refine zM_imp (zM_sumL (n := 50) (w2 := w2) (fun A => cD_complain l D cA A g (cw cA (g 0) ac 6 nc nc 6 nt dy mo I L) rfl rfl _ _ (nI t) 0 0 (cC_complain l hst D cA A g ac nc nt dy mo I L (nI t) hdy hnt hnc h11 h12 h16) (fun E w' h => ?_)) cw_lt A) (fun v w' h => ?_)
  · rcases h.2 with ⟨y, z⟩ | ⟨j, hj, ej, y4, z⟩
    · exact Or.inl z
    · exact Or.inr (Or.inr z)
  · obtain ⟨w1, ⟨r, rfl, hz⟩, rfl⟩ := h
    refine ⟨r, rfl, ?_⟩
    rcases hz with ⟨j, hj, ej, -, rfl, rfl⟩ | ⟨⟨rfl, h2⟩, e⟩ | ⟨⟨rfl, h2⟩, e⟩ | ⟨⟨rfl, h2⟩, e⟩
    · obtain rfl := nIj (n := nt) (by omega) ht hj ej
      exact ⟨rfl, rfl⟩
    · exfalso
      rcases h2 with ⟨y, z⟩ | ⟨j, hj, ej, y4, z⟩ <;> first | exact absurd z (by decide) | exact y ⟨t, ht, rfl⟩ | (obtain rfl := nIj (n := nt) (by omega) ht hj ej; exact y4 hok)
    · exfalso
      rcases h2 with ⟨y, z⟩ | ⟨j, hj, ej, y4, z⟩ <;> first | exact absurd z (by decide) | exact y ⟨t, ht, rfl⟩ | (obtain rfl := nIj (n := nt) (by omega) ht hj ej; exact y4 hok)
    · exfalso
      rcases h2 with ⟨y, z⟩ | ⟨j, hj, ej, y4, z⟩ <;> first | exact absurd z (by decide) | exact y ⟨t, ht, rfl⟩ | (obtain rfl := nIj (n := nt) (by omega) ht hj ej; exact y4 hok)
theorem qd_pass_A (hst : l.stackTraces = false) (a : Int32) (hno : ¬ zR a 1 400) (hnc : nc ≤ 12) (hdy : dy ≤ 7200) : zM l yL_does wsL_does rmD_pass D (zt cA) A g [.ref (ac (0, 0, 0)), .int 8, .int a, .int 0, .int 0] (zk_sum 50 (cw cA (g 0) ac 6 nc nc 6 nt dy mo I L) w2) (zQl (fun r W' => -2000000000000 = r ∧ zk_sum 50 (cw cA (g 0) ac 6 nc nc 6 nt dy mo I L) w2 = W')) := by
  refine zM_imp (zM_sumL (n := 50) (w2 := w2) (fun A => cD_pass l D cA A g (cw cA (g 0) ac 6 nc nc 6 nt dy mo I L) rfl rfl _ _ a 0 0 (cC_pass l hst D cA A g ac nc nt dy mo I L a hnc hdy) (fun E w' h => ?_)) cw_lt A) (fun v w' h => ?_)
  · rcases h.2 with ⟨y, z⟩ | ⟨j, hj1, hj2, ej, y4, z⟩
    · exact Or.inr (Or.inl z)
    · exact Or.inr (Or.inr z)
  · obtain ⟨w1, ⟨r, rfl, hz⟩, rfl⟩ := h
    refine ⟨r, rfl, ?_⟩
    rcases hz with ⟨x, ⟨j, h1, h2, rfl, -⟩, -⟩ | ⟨⟨rfl, h2⟩, e⟩ | ⟨⟨rfl, h2⟩, e⟩ | ⟨⟨rfl, h2⟩, e⟩
    · exact absurd ⟨show nI 1 ≤ nI j from nI_le h1 (by omega), show nI j ≤ nI 400 from nI_le h2 (by decide)⟩ hno
    · exfalso
      rcases h2 with ⟨y, z⟩ | ⟨j, hj1, hj2, ej, y4, z⟩ <;> first | exact absurd z (by decide) | exact hno (by rw [ej]; exact ⟨show nI 1 ≤ nI j from nI_le hj1 (by omega), show nI j ≤ nI 400 from nI_le hj2 (by decide)⟩)
    · exact ⟨e.symm, rfl⟩
    · exfalso
      rcases h2 with ⟨y, z⟩ | ⟨j, hj1, hj2, ej, y4, z⟩ <;> first | exact absurd z (by decide) | exact hno (by rw [ej]; exact ⟨show nI 1 ≤ nI j from nI_le hj1 (by omega), show nI j ≤ nI 400 from nI_le hj2 (by decide)⟩)
theorem qd_pass_S (hst : l.stackTraces = false) (d : Nat) (h1 : 1 ≤ d) (h4 : d ≤ 400) (hno : 7200 < dy + d) (hnc : nc ≤ 12) (hdy : dy ≤ 7200) : zM l yL_does wsL_does rmD_pass D (zt cA) A g [.ref (ac (0, 0, 0)), .int 8, .int (nI d), .int 0, .int 0] (zk_sum 50 (cw cA (g 0) ac 6 nc nc 6 nt dy mo I L) w2) (zQl (fun r W' => -1000000000000 = r ∧ zk_sum 50 (cw cA (g 0) ac 6 nc nc 6 nt dy mo I L) w2 = W')) := by
  refine zM_imp (zM_sumL (n := 50) (w2 := w2) (fun A => cD_pass l D cA A g (cw cA (g 0) ac 6 nc nc 6 nt dy mo I L) rfl rfl _ _ (nI d) 0 0 (cC_pass l hst D cA A g ac nc nt dy mo I L (nI d) hnc hdy) (fun E w' h => ?_)) cw_lt A) (fun v w' h => ?_)
  · rcases h.2 with ⟨y, z⟩ | ⟨j, hj1, hj2, ej, y4, z⟩
    · exact Or.inr (Or.inl z)
    · exact Or.inr (Or.inr z)
  · obtain ⟨w1, ⟨r, rfl, hz⟩, rfl⟩ := h
    refine ⟨r, rfl, ?_⟩
    rcases hz with ⟨x, ⟨j, q1, q2, ej, y, -⟩, -⟩ | ⟨⟨rfl, h2⟩, e⟩ | ⟨⟨rfl, h2⟩, e⟩ | ⟨⟨rfl, h2⟩, e⟩
    · have := nIj (n := 401) (by decide) (show d < 401 by omega) (show j < 401 by omega) ej
      omega
    · exfalso
      rcases h2 with ⟨y, z⟩ | ⟨j, hj1, hj2, ej, y4, z⟩ <;> first | exact absurd z (by decide) | exact y ⟨show nI 1 ≤ nI d from nI_le h1 (by omega), show nI d ≤ nI 400 from nI_le h4 (by decide)⟩
    · exfalso
      rcases h2 with ⟨y, z⟩ | ⟨j, hj1, hj2, ej, y4, z⟩ <;> first | exact absurd z (by decide) | exact y ⟨show nI 1 ≤ nI d from nI_le h1 (by omega), show nI d ≤ nI 400 from nI_le h4 (by decide)⟩
    · exact ⟨e.symm, rfl⟩
theorem qd_pass (hst : l.stackTraces = false) (d : Nat) (h1 : 1 ≤ d) (h4 : d ≤ 400) (hok : dy + d ≤ 7200) (hnc : nc ≤ 12) (hdy : dy ≤ 7200) : zM l yL_does wsL_does rmD_pass D (zt cA) A g [.ref (ac (0, 0, 0)), .int 8, .int (nI d), .int 0, .int 0] (zk_sum 50 (cw cA (g 0) ac 6 nc nc 6 nt dy mo I L) w2) (zQl (fun r W' => Int32.toInt64 (nI (dy + d)) = r ∧ zk_sum 50 (cw cA (g 0) ac 6 nc nc 6 nt (dy + d) ((epN nc dy I mo L d).2.1) I ((epN nc dy I mo L d).2.2)) w2 = W')) := by
  refine zM_imp (zM_sumL (n := 50) (w2 := w2) (fun A => cD_pass l D cA A g (cw cA (g 0) ac 6 nc nc 6 nt dy mo I L) rfl rfl _ _ (nI d) 0 0 (cC_pass l hst D cA A g ac nc nt dy mo I L (nI d) hnc hdy) (fun E w' h => ?_)) cw_lt A) (fun v w' h => ?_)
  · rcases h.2 with ⟨y, z⟩ | ⟨j, hj1, hj2, ej, y4, z⟩
    · exact Or.inr (Or.inl z)
    · exact Or.inr (Or.inr z)
  · obtain ⟨w1, ⟨r, rfl, hz⟩, rfl⟩ := h
    refine ⟨r, rfl, ?_⟩
    rcases hz with ⟨x, ⟨j, q1, q2, ej, -, rfl, rfl⟩, rfl⟩ | ⟨⟨rfl, h2⟩, e⟩ | ⟨⟨rfl, h2⟩, e⟩ | ⟨⟨rfl, h2⟩, e⟩
    · obtain rfl := nIj (n := 401) (by decide) (show d < 401 by omega) (show j < 401 by omega) ej
      exact ⟨rfl, rfl⟩
    · exfalso
      rcases h2 with ⟨y, z⟩ | ⟨j, hj1, hj2, ej, y4, z⟩ <;> first | exact absurd z (by decide) | exact y ⟨show nI 1 ≤ nI d from nI_le h1 (by omega), show nI d ≤ nI 400 from nI_le h4 (by decide)⟩ | (have := nIj (n := 401) (by decide) (show d < 401 by omega) (show j < 401 by omega) ej; omega)
    · exfalso
      rcases h2 with ⟨y, z⟩ | ⟨j, hj1, hj2, ej, y4, z⟩ <;> first | exact absurd z (by decide) | exact y ⟨show nI 1 ≤ nI d from nI_le h1 (by omega), show nI d ≤ nI 400 from nI_le h4 (by decide)⟩ | (have := nIj (n := 401) (by decide) (show d < 401 by omega) (show j < 401 by omega) ej; omega)
    · exfalso
      rcases h2 with ⟨y, z⟩ | ⟨j, hj1, hj2, ej, y4, z⟩ <;> first | exact absurd z (by decide) | exact y ⟨show nI 1 ≤ nI d from nI_le h1 (by omega), show nI d ≤ nI 400 from nI_le h4 (by decide)⟩ | (have := nIj (n := 401) (by decide) (show d < 401 by omega) (show j < 401 by omega) ej; omega)
theorem qd_year_I (hst : l.stackTraces = false) (a b c : Int32) (hno : ¬ zIn a nc) (hnc : nc ≤ 12) : zM l yL_does wsL_does rmD_year D (zt cA) A g [.ref (ac (0, 0, 0)), .int 10, .int a, .int b, .int c] (zk_sum 50 (cw cA (g 0) ac 6 nc nc 6 nt dy mo I L) w2) (zQl (fun r W' => -3000000000000 = r ∧ zk_sum 50 (cw cA (g 0) ac 6 nc nc 6 nt dy mo I L) w2 = W')) := by
  refine zM_imp (zM_sumL (n := 50) (w2 := w2) (fun A => cD_year l D cA A g (cw cA (g 0) ac 6 nc nc 6 nt dy mo I L) rfl rfl _ _ a b c (cC_year l hst D cA A g ac nc nt dy mo I L a b c hnc) (fun E w' h => ?_)) cw_lt A) (fun v w' h => ?_)
  · rcases h.2 with ⟨y, z⟩ | ⟨y1, y1b, y2, z⟩
    · exact Or.inl z
    · exact Or.inr (Or.inl z)
  · obtain ⟨w1, ⟨r, rfl, hz⟩, rfl⟩ := h
    refine ⟨r, rfl, ?_⟩
    rcases hz with ⟨j, y, k, hj, ej, -⟩ | ⟨⟨rfl, h2⟩, e⟩ | ⟨⟨rfl, h2⟩, e⟩ | ⟨⟨rfl, h2⟩, e⟩
    · exact absurd ⟨j, hj, ej⟩ hno
    · exact ⟨e.symm, rfl⟩
    · exfalso
      rcases h2 with ⟨y, z⟩ | ⟨y1, y1b, y2, z⟩ <;> first | exact absurd z (by decide) | exact hno y1
    · exfalso
      rcases h2 with ⟨y, z⟩ | ⟨y1, y1b, y2, z⟩ <;> first | exact absurd z (by decide) | exact hno y1
theorem qd_parts_I (hst : l.stackTraces = false) (a b c : Int32) (hno : ¬ (a = -1 ∨ zIn a nc)) (hnc : nc ≤ 12) : zM l yL_does wsL_does rmD_parts D (zt cA) A g [.ref (ac (0, 0, 0)), .int 12, .int a, .int b, .int c] (zk_sum 50 (cw cA (g 0) ac 6 nc nc 6 nt dy mo I L) w2) (zQl (fun r W' => -3000000000000 = r ∧ zk_sum 50 (cw cA (g 0) ac 6 nc nc 6 nt dy mo I L) w2 = W')) := by
  refine zM_imp (zM_sumL (n := 50) (w2 := w2) (fun A => cD_parts l D cA A g (cw cA (g 0) ac 6 nc nc 6 nt dy mo I L) rfl rfl _ _ a b c (cC_parts l hst D cA A g ac nc nt dy mo I L a b hnc) (fun E w' h => ?_)) cw_lt A) (fun v w' h => ?_)
  · obtain ⟨-, -, z⟩ := h
    exact Or.inl z
  · obtain ⟨w1, ⟨r, rfl, hz⟩, rfl⟩ := h
    refine ⟨r, rfl, ?_⟩
    rcases hz with ⟨k, hk, ek, ⟨e, -⟩ | ⟨j, hj, ej, -⟩⟩ | ⟨⟨rfl, h2⟩, e⟩ | ⟨⟨rfl, h2⟩, e⟩ | ⟨⟨rfl, h2⟩, e⟩
    · exact absurd (Or.inl e) hno
    · exact absurd (Or.inr ⟨j, hj, ej⟩) hno
    · exact ⟨e.symm, rfl⟩
    · exfalso
      obtain ⟨y, z⟩ := h2
      exact absurd z (by decide)
    · exfalso
      obtain ⟨y, z⟩ := h2
      exact absurd z (by decide)
end QD
