def rmC_makeTrade : Room := { frames := 7, cells := 2, slots := 172, locals := 195 }
set_option maxHeartbeats 1000000 in
set_option maxRecDepth 100000 in
theorem cC_makeTrade (l : Launch) (D : va_G) (cA : Nat → ClassId) (A : Nat → Prop) (g : Nat → Nat) (ad : zk_K → Nat) (nc nt dy : Nat) (mo : Int64) (I : zIA) (L : zLA) (cc f : Nat) (q x : Int64) (hc : cc < nc) (hf : f < 6) (hnt : nt < 120) (hnc : nc ≤ 12) (hdy : dy ≤ 7200) (h11 : ∀ t, t < nt → zD (I 11 t) nc) (h12 : ∀ t, t < nt → zD (I 12 t) 6) (h16 : ∀ t, t < nt → zD (I 16 t) 7201) : zM l yX4_makeTrade wsX4_makeTrade rmC_makeTrade D (zt cA) A g [.ref (ad (0, 0, 0)), .ref (ad (13, cc, f)), .long q, .long x] (cw cA (g 0) ad 6 nc nc 6 nt dy mo I L) (zQi (fun r w' => nI nt = r ∧ ∃ ad', (∀ k, k ≠ (6, 0, 0) → k ≠ (14, nt, 0) → ad' k = ad k) ∧ cw cA (g 0) ad' 6 nc nc 6 (nt + 1) dy (exM (noteI I nt dy cc f) (tdL L nt q x) f q (payT (tdL L nt q x) nt) mo) (noteI I nt dy cc f) (elS (noteI I nt dy cc f) (exL (tdL L nt q x) cc f q (payT (tdL L nt q x) nt)) nt) = w')) := by
  refine zM_of (cc := cX4_makeTrade) (maxL := 7) (ret := (some .int)) (own := RX4) (by decide +kernel) rfl (Nat.le_of_ble_eq_true rfl) rfl ?_
  intro p e s m below meth c C hr hnm H locs ls hH hS hl
  obtain ⟨⟨hx, hb, hml, hown, hts⟩, hG, hlk⟩ := id C
  have hinX3 : ∀ w ∈ wsX30, w ∈ wsX4_makeTrade := by decide +kernel
  have hinX4 : ∀ w ∈ wsX40, w ∈ wsX4_makeTrade := by decide +kernel
  have hl : lv_has ls 7 [(0, .ref (ad (0, 0, 0))), (1, .ref (ad (13, cc, f))), (2, .long q), (4, .long x)] := hl
  refine zr_new C hinX3 (ci := 4) rfl tyX3 tyX3_ok (by decide +kernel) (by decide +kernel) (by decide +kernel) hH hS (fs := [.int 0, .null, .int 0, .long 0, .long 0, .long 0, .int 0, .long 0, .long 0]) (fun j hj => by match j, hj with | 0, _ => rfl | 1, _ => rfl | 2, _ => rfl | 3, _ => rfl | 4, _ => rfl | 5, _ => rfl | 6, _ => rfl | 7, _ => rfl | 8, _ => rfl) (Nat.le_of_ble_eq_true rfl) (Nat.le_of_ble_eq_true rfl) dX4_makeTrade_0 (14, nt, 0) (fun o => zk_ext (cw cA (g 0) ad 6 nc nc 6 nt dy mo I L) (14, nt, 0) o (.inr (4, [.int 0, .null, .int 0, .long 0, .long 0, .long 0, .int 0, .long 0, .long 0]))) (fun o => zk_ext_nw _ _ _ _) (fun o H hH_1 hS_2 => ?_)
  refine lv_dup hx hb dX4_makeTrade_3 rfl ?_
  refine lv_aload_n hx hb dX4_makeTrade_4 rfl (lv_at hl 0 rfl) ?_
  refine zr_getA (ref := RX4) C hinX4 (ci := 5) rfl hH_1 (0, 0, 0) (Or.inr rfl) rfl 2 (by decide) (by decide +kernel) (fun _ h => h) rfl dX4_makeTrade_5 ?_ rfl
  refine zk_ci (zk_rV (As := []) (rest := [.ref o, .ref o]) (n := 0) (k := (3, 0, 0)) C (cC_size l D cA A g (zk_ext (cw cA (g 0) ad 6 nc nc 6 nt dy mo I L) (14, nt, 0) o (.inr (4, [.int 0, .null, .int 0, .long 0, .long 0, .long 0, .int 0, .long 0, .long 0]))) (3, 0, 0) (6, 0, 0) nt (g0 := g 0) (Or.inr rfl) rfl) hH_1 hS_2 (Or.inr rfl) rfl rfl gX4_makeTrade_Jx4a65c_size_8abf5 rfl rfl (by decide +kernel) ⟨Nat.le_of_ble_eq_true rfl, Nat.le_of_ble_eq_true rfl⟩ hl rfl (Nat.le_of_ble_eq_true rfl) dX4_makeTrade_8 ⟨Nat.le_of_ble_eq_true rfl, Nat.le_of_ble_eq_true rfl⟩) hS_2 (fun r_ w_ H locs hP hH_3 hS_4 => ?_)
  obtain ⟨rfl, rfl⟩ := hP
  refine lv_aload_n hx hb dX4_makeTrade_11 rfl (lv_at hl 1 rfl) ?_
  refine lv_aload_n hx hb dX4_makeTrade_12 rfl (lv_at hl 0 rfl) ?_
  refine zr_getA (ref := RX4) C hinX4 (ci := 5) rfl hH_3 (0, 0, 0) (Or.inr rfl) rfl 4 (by decide) (by decide +kernel) (fun _ h => h) rfl dX4_makeTrade_13 ?_ rfl
  refine lv_lload_n hx hb dX4_makeTrade_16 rfl (lv_at hl 2 rfl) ?_
  refine lv_lload hx hb dX4_makeTrade_17 (lv_at hl 3 rfl) ?_
  refine lv_lload hx hb dX4_makeTrade_19 (lv_at hl 3 rfl) ?_
  refine zk_cl (zk_rS16 (As := [.long x]) (rest := [.long x, .long q, .int (nI dy), .ref (ad (13, cc, f)), .int (nI nt), .ref o, .ref o]) (n := 1) C (cC_costsOf l D cA A g (zk_ext (cw cA (g 0) ad 6 nc nc 6 nt dy mo I L) (14, nt, 0) o (.inr (4, [.int 0, .null, .int 0, .long 0, .long 0, .long 0, .int 0, .long 0, .long 0]))) x) hH_3 hS_4 gX4_makeTrade_X4_costsOf rfl rfl (by decide +kernel) ⟨Nat.le_of_ble_eq_true rfl, Nat.le_of_ble_eq_true rfl⟩ hl rfl (Nat.le_of_ble_eq_true rfl) dX4_makeTrade_21 ⟨Nat.le_of_ble_eq_true rfl, Nat.le_of_ble_eq_true rfl⟩) hS_4 (fun r_ w_ H locs hP hH_5 hS_6 => ?_)
  obtain ⟨rfl, rfl⟩ := hP
  have hi3 := cC_initX3 l D cA A g (zk_ext (cw cA (g 0) ad 6 nc nc 6 nt dy mo I L) (14, nt, 0) o (.inr (4, [.int 0, .null, .int 0, .long 0, .long 0, .long 0, .int 0, .long 0, .long 0]))) (14, nt, 0) (Or.inl rfl) (zk_ext_s _ _ _ _) (nI nt) (ad (13, cc, f)) (nI dy) q x (costL x)
  rw [zk_ext_a] at hi3
  refine zk_cv (zk_rI (As := [.int (nI nt), .ref (ad (13, cc, f)), .int (nI dy), .long q, .long x, .long (costL x)]) (rest := [.ref o]) (n := 6) (b := o) C hi3 hH_5 hS_6 gX4_makeTrade_X3_init rfl (by decide +kernel) (by decide +kernel) (by decide +kernel) rfl rfl (by decide +kernel) ⟨Nat.le_of_ble_eq_true rfl, Nat.le_of_ble_eq_true rfl⟩ hl rfl (Nat.le_of_ble_eq_true rfl) dX4_makeTrade_24 ⟨Nat.le_of_ble_eq_true rfl, Nat.le_of_ble_eq_true rfl⟩) hS_6 (fun w_ H locs hP hH_7 hS_8 => ?_)
  subst hP
  have hT : zk_H D A (tW cA (g 0) ad nc nt dy mo I L cc f q x o (.inr (4, [.int 0, .null, .int 0, .long 0, .long 0, .long 0, .int 0, .long 0, .long 0]))) H := hH_7
  refine lv_astore (lv' := [(6, .ref o), (0, .ref (ad (0, 0, 0))), (1, .ref (ad (13, cc, f))), (2, .long q), (4, .long x)]) hx hb dX4_makeTrade_27 hl (by decide) rfl (fun ls hl_9 => ?_)
  refine lv_aload_n hx hb dX4_makeTrade_29 rfl (lv_at hl_9 1 rfl) ?_
  refine zr_getA (ref := RX4) C hinX4 (ci := 5) rfl hT (0, 0, 0) (Or.inr rfl) rfl 2 (by decide) (by decide +kernel) (fun _ h => h) rfl dX4_makeTrade_30 ?_ rfl
  refine lv_aload hx hb dX4_makeTrade_33 (lv_at hl_9 0 rfl) ?_
  have hkt : ¬ (tW cA (g 0) ad nc nt dy mo I L cc f q x o (.inr (4, [.int 0, .null, .int 0, .long 0, .long 0, .long 0, .int 0, .long 0, .long 0]))).2.1 (99, 0, 0) := fun z => z.elim (fun z => absurd (show (99 : Nat) = 14 from congrArg Prod.fst z) (by decide)) (fun z => z)
  refine zk_ci (zk_rV (As := [.ref o]) (rest := []) (n := 1) (k := (3, 0, 0)) C (cJ_add l D cA A g (tW cA (g 0) ad nc nt dy mo I L cc f q x o (.inr (4, [.int 0, .null, .int 0, .long 0, .long 0, .long 0, .int 0, .long 0, .long 0]))) (3, 0, 0) (6, 0, 0) (99, 0, 0) nt (capL nt) (tW_lst (by omega)) hkt (capL_n (by omega)) capL_m o tW_el) hT hS_8 (Or.inr rfl) rfl rfl gX4_makeTrade_Jx4a65c_add_9ea2d rfl rfl (by decide +kernel) ⟨Nat.le_of_ble_eq_true rfl, Nat.le_of_ble_eq_true rfl⟩ hl_9 rfl (Nat.le_of_ble_eq_true rfl) dX4_makeTrade_35 ⟨Nat.le_of_ble_eq_true rfl, Nat.le_of_ble_eq_true rfl⟩) hS_8 (fun r_ w_ H locs hP hH_10 hS_11 => ?_)
  obtain ⟨rfl, q2, -, rfl⟩ := hP
  have hZ := hH_10.sb (tW_add (c := cc) (f := f) (by omega) hf (by omega))
  obtain ⟨ad2, had2⟩ : ∃ z, z = zk_ad (zk_ad ad (14, nt, 0) o) (6, 0, 0) q2 := ⟨_, rfl⟩
  rw [← had2] at hZ
  have hA : ∀ k, k ≠ (6, 0, 0) → k ≠ (14, nt, 0) → ad2 k = ad k := fun k h1 h2 => by rw [had2, zk_ad_n h1, zk_ad_n h2]
  have hO : ad2 (14, nt, 0) = o := by rw [had2, zk_ad_n (fun z => absurd (show (14 : Nat) = 6 from congrArg Prod.fst z) (by decide)), zk_ad_s]
  have hl2 := hl_9
  rw [← hA (0, 0, 0) (fun z => absurd (show (0 : Nat) = 6 from congrArg Prod.fst z) (by decide)) (fun z => absurd (show (0 : Nat) = 14 from congrArg Prod.fst z) (by decide)), ← hA (13, cc, f) (fun z => absurd (show (13 : Nat) = 6 from congrArg Prod.fst z) (by decide)) (fun z => absurd (show (13 : Nat) = 14 from congrArg Prod.fst z) (by decide)), ← hO] at hl2
  have k11 := note11 (dy := dy) (c := cc) (f := f) h11 hc hnc
  have k12 := note12 (dy := dy) (c := cc) h12 hf
  have k16 := note16 (c := cc) (f := f) h16 hdy
  have hnt2 : nt + 1 ≤ 120 := by omega
  refine lv_pop hx hb dX4_makeTrade_38 rfl ?_
  refine lv_aload_n hx hb dX4_makeTrade_39 rfl (lv_at hl2 1 rfl) ?_
  refine lv_aload_n hx hb dX4_makeTrade_40 rfl (lv_at hl2 2 rfl) ?_
  refine lv_lload_n hx hb dX4_makeTrade_41 rfl (lv_at hl2 3 rfl) ?_
  refine lv_aload hx hb dX4_makeTrade_42 (lv_at hl2 0 rfl) ?_
  refine zk_cl (zk_rV (As := []) (rest := [.long q, .ref (ad2 (13, cc, f)), .ref (ad2 (0, 0, 0))]) (n := 0) (k := (14, nt, 0)) C (cC_paid l D cA A g ad2 nc (nt + 1) dy mo (noteI I nt dy cc f) (tdL L nt q x) nt (by omega)) hZ hS_11 (cl_14 (by omega)) rfl rfl gX4_makeTrade_X3_paid rfl rfl (by decide +kernel) ⟨Nat.le_of_ble_eq_true rfl, Nat.le_of_ble_eq_true rfl⟩ hl2 rfl (Nat.le_of_ble_eq_true rfl) dX4_makeTrade_44 ⟨Nat.le_of_ble_eq_true rfl, Nat.le_of_ble_eq_true rfl⟩) hS_11 (fun r_12 w_13 H locs hP hH_14 hS_15 => ?_)
  obtain ⟨rfl, rfl⟩ := hP
  refine zk_cv (zk_rV (As := [.ref (ad2 (13, cc, f)), .long q, .long (payT (tdL L nt q x) nt)]) (rest := []) (n := 3) (k := (0, 0, 0)) C (cC_exchange l D cA A g ad2 nc (nt + 1) dy mo (noteI I nt dy cc f) (tdL L nt q x) cc f q (payT (tdL L nt q x) nt) (by omega) (by omega)) hH_14 hS_15 rfl rfl rfl gX4_makeTrade_X4_exchange rfl rfl (by decide +kernel) ⟨Nat.le_of_ble_eq_true rfl, Nat.le_of_ble_eq_true rfl⟩ hl2 rfl (Nat.le_of_ble_eq_true rfl) dX4_makeTrade_47 ⟨Nat.le_of_ble_eq_true rfl, Nat.le_of_ble_eq_true rfl⟩) hS_15 (fun w_17 H locs hP hH_18 hS_19 => ?_)
  subst hP
  refine lv_aload_n hx hb dX4_makeTrade_50 rfl (lv_at hl2 1 rfl) ?_
  refine lv_aload hx hb dX4_makeTrade_51 (lv_at hl2 0 rfl) ?_
  refine zk_cv (zk_rV (As := [.ref (ad2 (14, nt, 0))]) (rest := []) (n := 1) (k := (0, 0, 0)) C (cC_enterIntoLots l D cA A g ad2 nc (nt + 1) dy (exM (noteI I nt dy cc f) (tdL L nt q x) f q (payT (tdL L nt q x) nt) mo) (noteI I nt dy cc f) (exL (tdL L nt q x) cc f q (payT (tdL L nt q x) nt)) nt (by omega) hnt2 hnc k11 k12 k16) hH_18 hS_19 rfl rfl rfl gX4_makeTrade_X4_enterIntoLots rfl rfl (by decide +kernel) ⟨Nat.le_of_ble_eq_true rfl, Nat.le_of_ble_eq_true rfl⟩ hl2 rfl (Nat.le_of_ble_eq_true rfl) dX4_makeTrade_53 ⟨Nat.le_of_ble_eq_true rfl, Nat.le_of_ble_eq_true rfl⟩) hS_19 (fun w_21 H locs hP hH_22 hS_23 => ?_)
  subst hP
  refine lv_aload hx hb dX4_makeTrade_56 (lv_at hl2 0 rfl) ?_
  refine zr_getA (ref := RX3) C hinX3 (ci := 4) rfl hH_22 (14, nt, 0) (cl_14 (by omega)) rfl 0 (by decide) (by decide +kernel) (fun _ h => h) rfl dX4_makeTrade_58 ?_ rfl
  refine zr_iret C hr ?_ hH_22 hS_23 (Nat.le_of_ble_eq_true rfl) (Nat.le_of_ble_eq_true rfl) dX4_makeTrade_61
  exact ⟨rfl, ad2, hA, rfl⟩
