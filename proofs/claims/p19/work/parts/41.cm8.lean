def rmC_sellTooMuch : Room := { frames := 8, cells := 2, slots := 172, locals := 221 }
set_option maxHeartbeats 1000000 in
set_option maxRecDepth 100000 in
theorem cC_sellTooMuch (l : Launch) (D : va_G) (cA : Nat → ClassId) (A : Nat → Prop) (g : Nat → Nat) (ad : zk_K → Nat) (nc nt dy : Nat) (mo : Int64) (I : zIA) (L : zLA) (cc f : Nat) (all : Int64) (hc : cc < nc) (hf : f < 6) (hpr : ∀ f, f < 6 → ¬ Int32.toInt64 (I 1 f) = 0) (hnt : nt < 120) (hnc : nc ≤ 12) (hdy : dy ≤ 7200) (h11 : ∀ t, t < nt → zD (I 11 t) nc) (h12 : ∀ t, t < nt → zD (I 12 t) 6) (h16 : ∀ t, t < nt → zD (I 16 t) 7201) : zM l yX4_sellTooMuch wsX4_sellTooMuch rmC_sellTooMuch D (zt cA) A g [.ref (ad (0, 0, 0)), .ref (ad (13, cc, f)), .long all] (cw cA (g 0) ad 6 nc nc 6 nt dy mo I L) (zQv (fun w' => (¬ tooC I L all cc f ∧ cw cA (g 0) ad 6 nc nc 6 nt dy mo I L = w') ∨ (tooC I L all cc f ∧ ∃ ad', kpA nt ad ad' ∧ cw cA (g 0) ad' 6 nc nc 6 (nt + 1) dy (mtM I L nt dy cc f (-(partsL I f (tooL I L all cc f))) (amountL I f (partsL I f (tooL I L all cc f))) mo) (noteI I nt dy cc f) (mtL I L nt dy cc f (-(partsL I f (tooL I L all cc f))) (amountL I f (partsL I f (tooL I L all cc f)))) = w'))) := by
  refine zM_of (cc := cX4_sellTooMuch) (maxL := 10) (ret := none) (own := RX4) (by decide +kernel) rfl (Nat.le_of_ble_eq_true rfl) rfl ?_
  intro p e s m below meth c C hr hnm H locs ls hH hS hl
  obtain ⟨⟨hx, hb, hml, hown, hts⟩, hG, hlk⟩ := id C
  have hinX2 : ∀ w ∈ wsX20, w ∈ wsX4_sellTooMuch := by decide +kernel
  have hl : lv_has ls 10 [(0, .ref (ad (0, 0, 0))), (1, .ref (ad (13, cc, f))), (2, .long all)] := hl
  refine lv_aload_n hx hb dX4_sellTooMuch_0 rfl (lv_at hl 1 rfl) ?_
  refine zk_cl (zk_rS (As := [.ref (ad (13, cc, f))]) (rest := []) (n := 1) C (cC_worthOf l D cA A g ad nc nt dy mo I L cc f (by omega) (by omega)) hH hS gX4_sellTooMuch_X4_worthOf rfl rfl (by decide +kernel) ⟨Nat.le_of_ble_eq_true rfl, Nat.le_of_ble_eq_true rfl⟩ hl rfl (Nat.le_of_ble_eq_true rfl) dX4_sellTooMuch_1 ⟨Nat.le_of_ble_eq_true rfl, Nat.le_of_ble_eq_true rfl⟩) hS (fun r_1 w_2 H locs hP hH_3 hS_4 => ?_)
  obtain ⟨rfl, rfl⟩ := hP
  refine lv_aload_n hx hb dX4_sellTooMuch_4 rfl (lv_at hl 1 rfl) ?_
  refine lv_lload_n hx hb dX4_sellTooMuch_5 rfl (lv_at hl 2 rfl) ?_
  refine zk_cl (zk_rS (As := [.ref (ad (13, cc, f)), .long all]) (rest := [.long (valueL I L cc f)]) (n := 2) C (cC_targetOf l D cA A g ad nc nt dy mo I L cc f all (by omega) (by omega)) hH_3 hS_4 gX4_sellTooMuch_X4_targetOf rfl rfl (by decide +kernel) ⟨Nat.le_of_ble_eq_true rfl, Nat.le_of_ble_eq_true rfl⟩ hl rfl (Nat.le_of_ble_eq_true rfl) dX4_sellTooMuch_6 ⟨Nat.le_of_ble_eq_true rfl, Nat.le_of_ble_eq_true rfl⟩) hS_4 (fun r_5 w_6 H locs hP hH_7 hS_8 => ?_)
  obtain ⟨rfl, rfl⟩ := hP
  refine lv_lsub hx hb dX4_sellTooMuch_9 ?_
  refine lv_lstore (lv' := [(4, .long ((valueL I L cc f) - (dueL I all cc f))), (0, .ref (ad (0, 0, 0))), (1, .ref (ad (13, cc, f))), (2, .long all)]) hx hb dX4_sellTooMuch_10 hl (by decide) rfl (fun ls hl_9 => ?_)
  refine lv_lload hx hb dX4_sellTooMuch_12 (lv_at hl_9 0 rfl) ?_
  refine lv_lconst (v := 0) hx hb dX4_sellTooMuch_14 (by decide) ?_
  refine zl_cmp_gt (tgt := 20) hx hb dX4_sellTooMuch_15 dX4_sellTooMuch_16 (by decide) (fun c_10 => ?_) (fun c_10 => ?_)
  · refine lv_lload hx hb dX4_sellTooMuch_20 (lv_at hl_9 0 rfl) ?_
    refine lv_aload_n hx hb dX4_sellTooMuch_22 rfl (lv_at hl_9 2 rfl) ?_
    refine zr_getA (ref := RX2) C hinX2 (ci := 3) rfl hH_7 (13, cc, f) (cl_13 (by omega) (by omega)) rfl 1 (by decide) (by decide +kernel) (fun _ h => h) rfl dX4_sellTooMuch_23 ?_ rfl
    refine zk_cl (zk_rS (As := [.long ((valueL I L cc f) - (dueL I all cc f)), .ref (ad (7, f, 0))]) (rest := []) (n := 2) C (cC_partsFor l D cA A g ad nc nt dy mo I L f ((valueL I L cc f) - (dueL I all cc f)) (by omega) hpr) hH_7 hS_8 gX4_sellTooMuch_X4_partsFor rfl rfl (by decide +kernel) ⟨Nat.le_of_ble_eq_true rfl, Nat.le_of_ble_eq_true rfl⟩ hl_9 rfl (Nat.le_of_ble_eq_true rfl) dX4_sellTooMuch_26 ⟨Nat.le_of_ble_eq_true rfl, Nat.le_of_ble_eq_true rfl⟩) hS_8 (fun r_11 w_12 H locs hP hH_13 hS_14 => ?_)
    obtain ⟨rfl, rfl⟩ := hP
    refine lv_lstore (lv' := [(6, .long (partsL I f ((valueL I L cc f) - (dueL I all cc f)))), (4, .long ((valueL I L cc f) - (dueL I all cc f))), (0, .ref (ad (0, 0, 0))), (1, .ref (ad (13, cc, f))), (2, .long all)]) hx hb dX4_sellTooMuch_29 hl_9 (by decide) rfl (fun ls hl_15 => ?_)
    refine lv_lload hx hb dX4_sellTooMuch_31 (lv_at hl_15 0 rfl) ?_
    refine lv_aload_n hx hb dX4_sellTooMuch_33 rfl (lv_at hl_15 3 rfl) ?_
    refine zr_getA (ref := RX2) C hinX2 (ci := 3) rfl hH_13 (13, cc, f) (cl_13 (by omega) (by omega)) rfl 1 (by decide) (by decide +kernel) (fun _ h => h) rfl dX4_sellTooMuch_34 ?_ rfl
    refine zk_cl (zk_rS (As := [.long (partsL I f ((valueL I L cc f) - (dueL I all cc f))), .ref (ad (7, f, 0))]) (rest := []) (n := 2) C (cC_amountFor l D cA A g ad nc nt dy mo I L f (partsL I f ((valueL I L cc f) - (dueL I all cc f))) (by omega)) hH_13 hS_14 gX4_sellTooMuch_X4_amountFor rfl rfl (by decide +kernel) ⟨Nat.le_of_ble_eq_true rfl, Nat.le_of_ble_eq_true rfl⟩ hl_15 rfl (Nat.le_of_ble_eq_true rfl) dX4_sellTooMuch_37 ⟨Nat.le_of_ble_eq_true rfl, Nat.le_of_ble_eq_true rfl⟩) hS_14 (fun r_16 w_17 H locs hP hH_18 hS_19 => ?_)
    obtain ⟨rfl, rfl⟩ := hP
    refine lv_lstore (lv' := [(8, .long (amountL I f (partsL I f ((valueL I L cc f) - (dueL I all cc f))))), (6, .long (partsL I f ((valueL I L cc f) - (dueL I all cc f)))), (4, .long ((valueL I L cc f) - (dueL I all cc f))), (0, .ref (ad (0, 0, 0))), (1, .ref (ad (13, cc, f))), (2, .long all)]) hx hb dX4_sellTooMuch_40 hl_15 (by decide) rfl (fun ls hl_20 => ?_)
    refine lv_lload hx hb dX4_sellTooMuch_42 (lv_at hl_20 1 rfl) ?_
    refine lv_lconst (v := 0) hx hb dX4_sellTooMuch_44 (by decide) ?_
    refine zl_cmp_le (tgt := 67) hx hb dX4_sellTooMuch_45 dX4_sellTooMuch_46 (by decide) (fun c_21 => ?_) (fun c_21 => ?_)
    · refine zr_vret C hr ?_ hH_18 hS_19 (Nat.le_of_ble_eq_true rfl) (Nat.le_of_ble_eq_true rfl) dX4_sellTooMuch_67
      exact Or.inl ⟨fun z => by first | exact absurd z.1 (by assumption) | exact absurd z.2.1 (by assumption) | exact absurd z.2.2 (by assumption), rfl⟩
    · refine lv_lload hx hb dX4_sellTooMuch_49 (lv_at hl_20 0 rfl) ?_
      refine lv_lconst (v := 0) hx hb dX4_sellTooMuch_51 (by decide) ?_
      refine zl_cmp_le (tgt := 67) hx hb dX4_sellTooMuch_52 dX4_sellTooMuch_53 (by decide) (fun c_22 => ?_) (fun c_22 => ?_)
      · refine zr_vret C hr ?_ hH_18 hS_19 (Nat.le_of_ble_eq_true rfl) (Nat.le_of_ble_eq_true rfl) dX4_sellTooMuch_67
        exact Or.inl ⟨fun z => by first | exact absurd z.1 (by assumption) | exact absurd z.2.1 (by assumption) | exact absurd z.2.2 (by assumption), rfl⟩
      · refine lv_aload_n hx hb dX4_sellTooMuch_56 rfl (lv_at hl_20 3 rfl) ?_
        refine lv_aload_n hx hb dX4_sellTooMuch_57 rfl (lv_at hl_20 4 rfl) ?_
        refine lv_lload hx hb dX4_sellTooMuch_58 (lv_at hl_20 1 rfl) ?_
        refine lv_lneg hx hb dX4_sellTooMuch_60 ?_
        refine lv_lload hx hb dX4_sellTooMuch_61 (lv_at hl_20 0 rfl) ?_
        refine zk_ci (zk_rV (As := [.ref (ad (13, cc, f)), .long (-(partsL I f ((valueL I L cc f) - (dueL I all cc f)))), .long (amountL I f (partsL I f ((valueL I L cc f) - (dueL I all cc f))))]) (rest := []) (n := 3) (k := (0, 0, 0)) C (cC_makeTrade l D cA A g ad nc nt dy mo I L cc f (-(partsL I f ((valueL I L cc f) - (dueL I all cc f)))) (amountL I f (partsL I f ((valueL I L cc f) - (dueL I all cc f)))) (by omega) (by omega) hnt hnc hdy h11 h12 h16) hH_18 hS_19 rfl rfl rfl gX4_sellTooMuch_X4_makeTrade rfl rfl (by decide +kernel) ⟨Nat.le_of_ble_eq_true rfl, Nat.le_of_ble_eq_true rfl⟩ hl_20 rfl (Nat.le_of_ble_eq_true rfl) dX4_sellTooMuch_63 ⟨Nat.le_of_ble_eq_true rfl, Nat.le_of_ble_eq_true rfl⟩) hS_19 (fun r_23 w_24 H locs hP hH_25 hS_26 => ?_)
        obtain ⟨rfl, ad2, hA, rfl⟩ := hP
        refine lv_pop hx hb dX4_sellTooMuch_66 rfl ?_
        refine zr_vret C hr ?_ hH_25 hS_26 (Nat.le_of_ble_eq_true rfl) (Nat.le_of_ble_eq_true rfl) dX4_sellTooMuch_67
        exact Or.inr ⟨⟨by assumption, by assumption, by assumption⟩, ad2, hA, rfl⟩
  · refine zr_vret C hr ?_ hH_7 hS_8 (Nat.le_of_ble_eq_true rfl) (Nat.le_of_ble_eq_true rfl) dX4_sellTooMuch_19
    exact Or.inl ⟨fun z => by first | exact absurd z.1 (by assumption) | exact absurd z.2.1 (by assumption) | exact absurd z.2.2 (by assumption), rfl⟩
def rmC_buyWhatLacks : Room := { frames := 8, cells := 2, slots := 172, locals := 221 }
set_option maxHeartbeats 1000000 in
set_option maxRecDepth 100000 in
theorem cC_buyWhatLacks (l : Launch) (D : va_G) (cA : Nat → ClassId) (A : Nat → Prop) (g : Nat → Nat) (ad : zk_K → Nat) (nc nt dy : Nat) (mo : Int64) (I : zIA) (L : zLA) (cc f : Nat) (all : Int64) (hc : cc < nc) (hf : f < 6) (hpr : ∀ f, f < 6 → ¬ Int32.toInt64 (I 1 f) = 0) (hnt : nt < 120) (hnc : nc ≤ 12) (hdy : dy ≤ 7200) (h11 : ∀ t, t < nt → zD (I 11 t) nc) (h12 : ∀ t, t < nt → zD (I 12 t) 6) (h16 : ∀ t, t < nt → zD (I 16 t) 7201) : zM l yX4_buyWhatLacks wsX4_buyWhatLacks rmC_buyWhatLacks D (zt cA) A g [.ref (ad (0, 0, 0)), .ref (ad (13, cc, f)), .long all] (cw cA (g 0) ad 6 nc nc 6 nt dy mo I L) (zQv (fun w' => (¬ lacC I L all cc f ∧ cw cA (g 0) ad 6 nc nc 6 nt dy mo I L = w') ∨ (lacC I L all cc f ∧ ∃ ad', kpA nt ad ad' ∧ cw cA (g 0) ad' 6 nc nc 6 (nt + 1) dy (mtM I L nt dy cc f (partsL I f (lacA I L all cc f)) (lacA I L all cc f) mo) (noteI I nt dy cc f) (mtL I L nt dy cc f (partsL I f (lacA I L all cc f)) (lacA I L all cc f)) = w'))) := by
  refine zM_of (cc := cX4_buyWhatLacks) (maxL := 12) (ret := none) (own := RX4) (by decide +kernel) rfl (Nat.le_of_ble_eq_true rfl) rfl ?_
  intro p e s m below meth c C hr hnm H locs ls hH hS hl
  obtain ⟨⟨hx, hb, hml, hown, hts⟩, hG, hlk⟩ := id C
  have hinX0 : ∀ w ∈ wsX00, w ∈ wsX4_buyWhatLacks := by decide +kernel
  have hinX2 : ∀ w ∈ wsX20, w ∈ wsX4_buyWhatLacks := by decide +kernel
  have hl : lv_has ls 12 [(0, .ref (ad (0, 0, 0))), (1, .ref (ad (13, cc, f))), (2, .long all)] := hl
  refine lv_aload_n hx hb dX4_buyWhatLacks_0 rfl (lv_at hl 1 rfl) ?_
  refine lv_lload_n hx hb dX4_buyWhatLacks_1 rfl (lv_at hl 2 rfl) ?_
  refine zk_cl (zk_rS (As := [.ref (ad (13, cc, f)), .long all]) (rest := []) (n := 2) C (cC_targetOf l D cA A g ad nc nt dy mo I L cc f all (by omega) (by omega)) hH hS gX4_buyWhatLacks_X4_targetOf rfl rfl (by decide +kernel) ⟨Nat.le_of_ble_eq_true rfl, Nat.le_of_ble_eq_true rfl⟩ hl rfl (Nat.le_of_ble_eq_true rfl) dX4_buyWhatLacks_2 ⟨Nat.le_of_ble_eq_true rfl, Nat.le_of_ble_eq_true rfl⟩) hS (fun r_1 w_2 H locs hP hH_3 hS_4 => ?_)
  obtain ⟨rfl, rfl⟩ := hP
  refine lv_aload_n hx hb dX4_buyWhatLacks_5 rfl (lv_at hl 1 rfl) ?_
  refine zk_cl (zk_rS (As := [.ref (ad (13, cc, f))]) (rest := [.long (dueL I all cc f)]) (n := 1) C (cC_worthOf l D cA A g ad nc nt dy mo I L cc f (by omega) (by omega)) hH_3 hS_4 gX4_buyWhatLacks_X4_worthOf rfl rfl (by decide +kernel) ⟨Nat.le_of_ble_eq_true rfl, Nat.le_of_ble_eq_true rfl⟩ hl rfl (Nat.le_of_ble_eq_true rfl) dX4_buyWhatLacks_6 ⟨Nat.le_of_ble_eq_true rfl, Nat.le_of_ble_eq_true rfl⟩) hS_4 (fun r_5 w_6 H locs hP hH_7 hS_8 => ?_)
  obtain ⟨rfl, rfl⟩ := hP
  refine lv_lsub hx hb dX4_buyWhatLacks_9 ?_
  refine lv_lstore (lv' := [(4, .long ((dueL I all cc f) - (valueL I L cc f))), (0, .ref (ad (0, 0, 0))), (1, .ref (ad (13, cc, f))), (2, .long all)]) hx hb dX4_buyWhatLacks_10 hl (by decide) rfl (fun ls hl_9 => ?_)
  refine lv_lload hx hb dX4_buyWhatLacks_12 (lv_at hl_9 0 rfl) ?_
  refine lv_lconst (v := 0) hx hb dX4_buyWhatLacks_14 (by decide) ?_
  refine zl_cmp_gt (tgt := 20) hx hb dX4_buyWhatLacks_15 dX4_buyWhatLacks_16 (by decide) (fun c_10 => ?_) (fun c_10 => ?_)
  · refine lv_aload_n hx hb dX4_buyWhatLacks_20 rfl (lv_at hl_9 2 rfl) ?_
    refine zr_getA (ref := RX2) C hinX2 (ci := 3) rfl hH_7 (13, cc, f) (cl_13 (by omega) (by omega)) rfl 0 (by decide) (by decide +kernel) (fun _ h => h) rfl dX4_buyWhatLacks_21 ?_ rfl
    refine zr_getA (ref := RX0) C hinX0 (ci := 1) rfl hH_7 (8, cc, 0) (cl_8 (by omega)) rfl 4 (by decide) (by decide +kernel) (fun _ h => h) rfl dX4_buyWhatLacks_24 ?_ rfl
    refine lv_lstore (lv' := [(6, .long (L 6 cc)), (4, .long ((dueL I all cc f) - (valueL I L cc f))), (0, .ref (ad (0, 0, 0))), (1, .ref (ad (13, cc, f))), (2, .long all)]) hx hb dX4_buyWhatLacks_27 hl_9 (by decide) rfl (fun ls hl_11 => ?_)
    refine lv_lload hx hb dX4_buyWhatLacks_29 (lv_at hl_11 1 rfl) ?_
    refine lv_lload hx hb dX4_buyWhatLacks_31 (lv_at hl_11 0 rfl) ?_
    refine lv_lload hx hb dX4_buyWhatLacks_33 (lv_at hl_11 0 rfl) ?_
    refine lv_ldc2 (v := 100) hx hb hown (hts (.constantLong RX4 248 100) (by decide +kernel)) dX4_buyWhatLacks_35 ?_
    refine lv_ldiv hx hb dX4_buyWhatLacks_38 (by decide) ?_
    refine lv_lsub hx hb dX4_buyWhatLacks_39 ?_
    refine va_mmin_long hx hb (by rw [hml]; exact hl_11.1.symm) hown (hts (.methodLink RX4 254 Lib.MathLoose.min_long.x) (by decide +kernel)) (hts (.static Lib.MathLoose.min_long.x) (by decide +kernel)) (hts (.initialized "java/lang/Math") (by decide +kernel)) (hts (.code Lib.MathLoose.min_long.x Lib.MathLoose.min_long.code 4 (some .long)) (by decide +kernel)) (Nat.le_of_ble_eq_true rfl) (Nat.le_of_ble_eq_true rfl) (Nat.le_of_ble_eq_true rfl) (Nat.le_of_ble_eq_true rfl) dX4_buyWhatLacks_40 ?_
    refine lv_lstore (lv' := [(8, .long (if ((L 6 cc) - ((L 6 cc) / 100)) < ((dueL I all cc f) - (valueL I L cc f)) then (L 6 cc) - ((L 6 cc) / 100) else (dueL I all cc f) - (valueL I L cc f))), (6, .long (L 6 cc)), (4, .long ((dueL I all cc f) - (valueL I L cc f))), (0, .ref (ad (0, 0, 0))), (1, .ref (ad (13, cc, f))), (2, .long all)]) hx hb dX4_buyWhatLacks_43 hl_11 (by decide) rfl (fun ls hl_12 => ?_)
    refine lv_lload hx hb dX4_buyWhatLacks_45 (lv_at hl_12 0 rfl) ?_
    refine lv_aload_n hx hb dX4_buyWhatLacks_47 rfl (lv_at hl_12 4 rfl) ?_
    refine zr_getA (ref := RX2) C hinX2 (ci := 3) rfl hH_7 (13, cc, f) (cl_13 (by omega) (by omega)) rfl 1 (by decide) (by decide +kernel) (fun _ h => h) rfl dX4_buyWhatLacks_48 ?_ rfl
    refine zk_cl (zk_rS (As := [.long (if ((L 6 cc) - ((L 6 cc) / 100)) < ((dueL I all cc f) - (valueL I L cc f)) then (L 6 cc) - ((L 6 cc) / 100) else (dueL I all cc f) - (valueL I L cc f)), .ref (ad (7, f, 0))]) (rest := []) (n := 2) C (cC_partsFor l D cA A g ad nc nt dy mo I L f (if ((L 6 cc) - ((L 6 cc) / 100)) < ((dueL I all cc f) - (valueL I L cc f)) then (L 6 cc) - ((L 6 cc) / 100) else (dueL I all cc f) - (valueL I L cc f)) (by omega) hpr) hH_7 hS_8 gX4_buyWhatLacks_X4_partsFor rfl rfl (by decide +kernel) ⟨Nat.le_of_ble_eq_true rfl, Nat.le_of_ble_eq_true rfl⟩ hl_12 rfl (Nat.le_of_ble_eq_true rfl) dX4_buyWhatLacks_51 ⟨Nat.le_of_ble_eq_true rfl, Nat.le_of_ble_eq_true rfl⟩) hS_8 (fun r_13 w_14 H locs hP hH_15 hS_16 => ?_)
    obtain ⟨rfl, rfl⟩ := hP
    refine lv_lstore (lv' := [(10, .long (partsL I f (if ((L 6 cc) - ((L 6 cc) / 100)) < ((dueL I all cc f) - (valueL I L cc f)) then (L 6 cc) - ((L 6 cc) / 100) else (dueL I all cc f) - (valueL I L cc f)))), (8, .long (if ((L 6 cc) - ((L 6 cc) / 100)) < ((dueL I all cc f) - (valueL I L cc f)) then (L 6 cc) - ((L 6 cc) / 100) else (dueL I all cc f) - (valueL I L cc f))), (6, .long (L 6 cc)), (4, .long ((dueL I all cc f) - (valueL I L cc f))), (0, .ref (ad (0, 0, 0))), (1, .ref (ad (13, cc, f))), (2, .long all)]) hx hb dX4_buyWhatLacks_54 hl_12 (by decide) rfl (fun ls hl_17 => ?_)
    refine lv_lload hx hb dX4_buyWhatLacks_56 (lv_at hl_17 0 rfl) ?_
    refine lv_lconst (v := 0) hx hb dX4_buyWhatLacks_58 (by decide) ?_
    refine zl_cmp_le (tgt := 80) hx hb dX4_buyWhatLacks_59 dX4_buyWhatLacks_60 (by decide) (fun c_18 => ?_) (fun c_18 => ?_)
    · refine zr_vret C hr ?_ hH_15 hS_16 (Nat.le_of_ble_eq_true rfl) (Nat.le_of_ble_eq_true rfl) dX4_buyWhatLacks_80
      exact Or.inl ⟨fun z => by first | exact absurd z.1 (by assumption) | exact absurd z.2.1 (by assumption) | exact absurd z.2.2 (by assumption), rfl⟩
    · refine lv_lload hx hb dX4_buyWhatLacks_63 (lv_at hl_17 1 rfl) ?_
      refine lv_lconst (v := 0) hx hb dX4_buyWhatLacks_65 (by decide) ?_
      refine zl_cmp_le (tgt := 80) hx hb dX4_buyWhatLacks_66 dX4_buyWhatLacks_67 (by decide) (fun c_19 => ?_) (fun c_19 => ?_)
      · refine zr_vret C hr ?_ hH_15 hS_16 (Nat.le_of_ble_eq_true rfl) (Nat.le_of_ble_eq_true rfl) dX4_buyWhatLacks_80
        exact Or.inl ⟨fun z => by first | exact absurd z.1 (by assumption) | exact absurd z.2.1 (by assumption) | exact absurd z.2.2 (by assumption), rfl⟩
      · refine lv_aload_n hx hb dX4_buyWhatLacks_70 rfl (lv_at hl_17 4 rfl) ?_
        refine lv_aload_n hx hb dX4_buyWhatLacks_71 rfl (lv_at hl_17 5 rfl) ?_
        refine lv_lload hx hb dX4_buyWhatLacks_72 (lv_at hl_17 0 rfl) ?_
        refine lv_lload hx hb dX4_buyWhatLacks_74 (lv_at hl_17 1 rfl) ?_
        refine zk_ci (zk_rV (As := [.ref (ad (13, cc, f)), .long (partsL I f (if ((L 6 cc) - ((L 6 cc) / 100)) < ((dueL I all cc f) - (valueL I L cc f)) then (L 6 cc) - ((L 6 cc) / 100) else (dueL I all cc f) - (valueL I L cc f))), .long (if ((L 6 cc) - ((L 6 cc) / 100)) < ((dueL I all cc f) - (valueL I L cc f)) then (L 6 cc) - ((L 6 cc) / 100) else (dueL I all cc f) - (valueL I L cc f))]) (rest := []) (n := 3) (k := (0, 0, 0)) C (cC_makeTrade l D cA A g ad nc nt dy mo I L cc f (partsL I f (if ((L 6 cc) - ((L 6 cc) / 100)) < ((dueL I all cc f) - (valueL I L cc f)) then (L 6 cc) - ((L 6 cc) / 100) else (dueL I all cc f) - (valueL I L cc f))) (if ((L 6 cc) - ((L 6 cc) / 100)) < ((dueL I all cc f) - (valueL I L cc f)) then (L 6 cc) - ((L 6 cc) / 100) else (dueL I all cc f) - (valueL I L cc f)) (by omega) (by omega) hnt hnc hdy h11 h12 h16) hH_15 hS_16 rfl rfl rfl gX4_buyWhatLacks_X4_makeTrade rfl rfl (by decide +kernel) ⟨Nat.le_of_ble_eq_true rfl, Nat.le_of_ble_eq_true rfl⟩ hl_17 rfl (Nat.le_of_ble_eq_true rfl) dX4_buyWhatLacks_76 ⟨Nat.le_of_ble_eq_true rfl, Nat.le_of_ble_eq_true rfl⟩) hS_16 (fun r_20 w_21 H locs hP hH_22 hS_23 => ?_)
        obtain ⟨rfl, ad2, hA, rfl⟩ := hP
        refine lv_pop hx hb dX4_buyWhatLacks_79 rfl ?_
        refine zr_vret C hr ?_ hH_22 hS_23 (Nat.le_of_ble_eq_true rfl) (Nat.le_of_ble_eq_true rfl) dX4_buyWhatLacks_80
        exact Or.inr ⟨⟨by assumption, by assumption, by assumption⟩, ad2, hA, rfl⟩
  · refine zr_vret C hr ?_ hH_7 hS_8 (Nat.le_of_ble_eq_true rfl) (Nat.le_of_ble_eq_true rfl) dX4_buyWhatLacks_19
    exact Or.inl ⟨fun z => by first | exact absurd z.1 (by assumption) | exact absurd z.2.1 (by assumption) | exact absurd z.2.2 (by assumption), rfl⟩
def rmC_buy : Room := { frames := 9, cells := 4, slots := 184, locals := 221 }
set_option maxHeartbeats 1000000 in
set_option maxRecDepth 100000 in
theorem cC_buy (l : Launch) (hst : l.stackTraces = false) (D : va_G) (cA : Nat → ClassId) (A : Nat → Prop) (g : Nat → Nat) (ad : zk_K → Nat) (nc nt dy : Nat) (mo : Int64) (I : zIA) (L : zLA) (cx f its : Int32) (hpr : ∀ f, f < 6 → ¬ Int32.toInt64 (I 1 f) = 0) (hnt : nt ≤ 120) (hnc : nc ≤ 12) (hdy : dy ≤ 7200) (h11 : ∀ t, t < nt → zD (I 11 t) nc) (h12 : ∀ t, t < nt → zD (I 12 t) 6) (h16 : ∀ t, t < nt → zD (I 16 t) 7201) : zX l yX4_buy wsX4_buy rmC_buy D (zt cA) A g [.ref (ad (0, 0, 0)), .int cx, .int f, .int its] (cw cA (g 0) ad 6 nc nc 6 nt dy mo I L) (zQi (fun r w' => ∃ j k, j < nc ∧ cx = nI j ∧ k < 6 ∧ f = nI k ∧ zR its 1 10000000 ∧ (nt < 120 ∧ 0 < partsL I k (Int32.toInt64 its) ∧ ¬ L 6 j < Int32.toInt64 its + costL (Int32.toInt64 its)) ∧ nI nt = r ∧ ∃ ad', kpA nt ad ad' ∧ cw cA (g 0) ad' 6 nc nc 6 (nt + 1) dy (mtM I L nt dy j k (partsL I k (Int32.toInt64 its)) (Int32.toInt64 its) mo) (noteI I nt dy j k) (mtL I L nt dy j k (partsL I k (Int32.toInt64 its)) (Int32.toInt64 its)) = w')) (fun E w' => cw cA (g 0) ad 6 nc nc 6 nt dy mo I L = w' ∧ ((¬ (zIn cx nc ∧ zIn f 6) ∧ E = xI) ∨ (zIn cx nc ∧ zIn f 6 ∧ ¬ zR its 1 10000000 ∧ E = xA) ∨ (∃ j k, j < nc ∧ cx = nI j ∧ k < 6 ∧ f = nI k ∧ zR its 1 10000000 ∧ ¬ (nt < 120 ∧ 0 < partsL I k (Int32.toInt64 its) ∧ ¬ L 6 j < Int32.toInt64 its + costL (Int32.toInt64 its)) ∧ E = xS))) := by
  refine zX_of (cc := cX4_buy) (maxL := 7) (ret := (some .int)) (own := RX4) (by decide +kernel) rfl (Nat.le_of_ble_eq_true rfl) rfl ?_
  intro p e s m below meth c C hr hnm hex H locs ls hH hS hl
  obtain ⟨⟨hx, hb, hml, hown, hts⟩, hG, hlk⟩ := id C
  have hinX0 : ∀ w ∈ wsX00, w ∈ wsX4_buy := by decide +kernel
  have hinX2 : ∀ w ∈ wsX20, w ∈ wsX4_buy := by decide +kernel
  have hinX4 : ∀ w ∈ wsX40, w ∈ wsX4_buy := by decide +kernel
  have hl : lv_has ls 7 [(0, .ref (ad (0, 0, 0))), (1, .int cx), (2, .int f), (3, .int its)] := hl
  refine lv_aload_n hx hb dX4_buy_0 rfl (lv_at hl 0 rfl) ?_
  refine lv_iload_n hx hb dX4_buy_1 rfl (lv_at hl 1 rfl) ?_
  refine lv_iload_n hx hb dX4_buy_2 rfl (lv_at hl 2 rfl) ?_
  refine zx_cr (zx_rV (As := [.int cx, .int f]) (rest := []) (n := 2) (k := (0, 0, 0)) C (cC_holdingAt l hst D cA A g ad nc nt dy mo I L cx f hnc) hH hS rfl rfl rfl gX4_buy_X4_holdingAt rfl rfl (by decide +kernel) ⟨Nat.le_of_ble_eq_true rfl, Nat.le_of_ble_eq_true rfl⟩ hl rfl (Nat.le_of_ble_eq_true rfl) dX4_buy_3 ⟨Nat.le_of_ble_eq_true rfl, Nat.le_of_ble_eq_true rfl⟩) hS (zx_go C hex (fun E w' h => ⟨h.2.2, Or.inl ⟨h.2.1, h.1⟩⟩) (Nat.le_of_ble_eq_true rfl) (Nat.le_of_ble_eq_true rfl)) (fun r_1 w_2 H locs hP hH_3 hS_4 => ?_)
  obtain ⟨cxj, fj, hcxj, rfl, hfj, rfl, rfl, rfl⟩ := hP
  refine lv_astore (lv' := [(4, .ref (ad (13, cxj, fj))), (0, .ref (ad (0, 0, 0))), (1, .int (nI cxj)), (2, .int (nI fj)), (3, .int its)]) hx hb dX4_buy_6 hl (by decide) rfl (fun ls hl_5 => ?_)
  refine lv_iload_n hx hb dX4_buy_8 rfl (lv_at hl_5 4 rfl) ?_
  refine lv_iconst (v := 1) hx hb dX4_buy_9 (by decide) ?_
  refine lv_ldc (v := 10000000) hx hb hown (hts (.constant RX4 72 10000000) (by decide +kernel)) dX4_buy_10 ?_
  by_cases hz_6 : zR its 1 10000000
  · refine zk_cv (zk_rS (As := [.int its, .int 1, .int 10000000]) (rest := []) (n := 3) C (cC_range1 l D cA A g (cw cA (g 0) ad 6 nc nc 6 nt dy mo I L) its 1 10000000 hz_6) hH_3 hS_4 gX4_buy_X4_checkRange rfl rfl (by decide +kernel) ⟨Nat.le_of_ble_eq_true rfl, Nat.le_of_ble_eq_true rfl⟩ hl_5 rfl (Nat.le_of_ble_eq_true rfl) dX4_buy_12 ⟨Nat.le_of_ble_eq_true rfl, Nat.le_of_ble_eq_true rfl⟩) hS_4 (fun w_ H locs hP hH_7 hS_8 => ?_)
    subst hP
    refine lv_aload_n hx hb dX4_buy_15 rfl (lv_at hl_5 1 rfl) ?_
    refine zr_getA (ref := RX4) C hinX4 (ci := 5) rfl hH_7 (0, 0, 0) rfl rfl 2 (by decide) (by decide +kernel) (fun _ h => h) rfl dX4_buy_16 ?_ rfl
    refine zk_ci (zk_rV (As := []) (rest := []) (n := 0) (k := (3, 0, 0)) C (cC_size l D cA A g (cw cA (g 0) ad 6 nc nc 6 nt dy mo I L) (3, 0, 0) (6, 0, 0) nt (g0 := g 0) rfl rfl) hH_7 hS_8 rfl rfl rfl gX4_buy_Jx4a65c_size_8abf5 rfl rfl (by decide +kernel) ⟨Nat.le_of_ble_eq_true rfl, Nat.le_of_ble_eq_true rfl⟩ hl_5 rfl (Nat.le_of_ble_eq_true rfl) dX4_buy_19 ⟨Nat.le_of_ble_eq_true rfl, Nat.le_of_ble_eq_true rfl⟩) hS_8 (fun r_ w_ H locs hP hH_9 hS_10 => ?_)
    obtain ⟨rfl, rfl⟩ := hP
    refine lv_bipush (v := 120) hx hb dX4_buy_22 (by decide) ?_
    refine lv_icmp_ge (tgt := 31) hx hb dX4_buy_24 (by decide) (fun c_11 => ?_) (fun c_11 => ?_)
    · refine lv_iconst (v := 0) hx hb dX4_buy_31 (by decide) ?_
      exact zx_c (zx_rS (As := [.int 0]) (rest := []) (n := 1) C (cC_possible0 l hst D cA A g (cw cA (g 0) ad 6 nc nc 6 nt dy mo I L)) hH_9 hS_10 gX4_buy_X4_checkPossible rfl rfl (by decide +kernel) ⟨Nat.le_of_ble_eq_true rfl, Nat.le_of_ble_eq_true rfl⟩ hl_5 rfl (Nat.le_of_ble_eq_true rfl) dX4_buy_32 ⟨Nat.le_of_ble_eq_true rfl, Nat.le_of_ble_eq_true rfl⟩) hS_10 (zx_go C hex (fun E w' h => ⟨h.2, Or.inr (Or.inr ⟨cxj, fj, hcxj, rfl, hfj, rfl, hz_6, fun z => by first | exact absurd (by assumption) (nI_ge z.1 (by decide)) | exact absurd z.2.1 (by assumption) | exact absurd (by assumption) z.2.2 | exact absurd (by assumption) z.2.1 | exact absurd z.2.2.1 (by assumption) | exact absurd (by assumption) z.2.2.2, h.1⟩)⟩) (Nat.le_of_ble_eq_true rfl) (Nat.le_of_ble_eq_true rfl)) (fun v w' H1 l1 hP => hP.elim)
    · have hnt2 : nt < 120 := Nat.lt_of_not_le (fun z => c_11 (nI_le z (by omega)))
      refine lv_iconst (v := 1) hx hb dX4_buy_27 (by decide) ?_
      refine lv_goto (tgt := 32) hx hb dX4_buy_28 (by decide) ?_
      refine zk_cv (zk_rS (As := [.int 1]) (rest := []) (n := 1) C (cC_possible1 l D cA A g (cw cA (g 0) ad 6 nc nc 6 nt dy mo I L)) hH_9 hS_10 gX4_buy_X4_checkPossible rfl rfl (by decide +kernel) ⟨Nat.le_of_ble_eq_true rfl, Nat.le_of_ble_eq_true rfl⟩ hl_5 rfl (Nat.le_of_ble_eq_true rfl) dX4_buy_32 ⟨Nat.le_of_ble_eq_true rfl, Nat.le_of_ble_eq_true rfl⟩) hS_10 (fun w_ H locs hP hH_12 hS_13 => ?_)
      subst hP
      refine lv_iload_n hx hb dX4_buy_35 rfl (lv_at hl_5 4 rfl) ?_
      refine lv_i2l (v := Int32.toInt64 its) hx hb dX4_buy_36 rfl ?_
      refine lv_aload hx hb dX4_buy_37 (lv_at hl_5 0 rfl) ?_
      refine zr_getA (ref := RX2) C hinX2 (ci := 3) rfl hH_12 (13, cxj, fj) (cl_13 (by omega) (by omega)) rfl 1 (by decide) (by decide +kernel) (fun _ h => h) rfl dX4_buy_39 ?_ rfl
      refine zk_cl (zk_rS (As := [.long (Int32.toInt64 its), .ref (ad (7, fj, 0))]) (rest := []) (n := 2) C (cC_partsFor l D cA A g ad nc nt dy mo I L fj (Int32.toInt64 its) (by omega) hpr) hH_12 hS_13 gX4_buy_X4_partsFor rfl rfl (by decide +kernel) ⟨Nat.le_of_ble_eq_true rfl, Nat.le_of_ble_eq_true rfl⟩ hl_5 rfl (Nat.le_of_ble_eq_true rfl) dX4_buy_42 ⟨Nat.le_of_ble_eq_true rfl, Nat.le_of_ble_eq_true rfl⟩) hS_13 (fun r_14 w_15 H locs hP hH_16 hS_17 => ?_)
      obtain ⟨rfl, rfl⟩ := hP
      refine lv_lstore (lv' := [(5, .long (partsL I fj (Int32.toInt64 its))), (4, .ref (ad (13, cxj, fj))), (0, .ref (ad (0, 0, 0))), (1, .int (nI cxj)), (2, .int (nI fj)), (3, .int its)]) hx hb dX4_buy_45 hl_5 (by decide) rfl (fun ls hl_18 => ?_)
      refine lv_lload hx hb dX4_buy_47 (lv_at hl_18 0 rfl) ?_
      refine lv_lconst (v := 0) hx hb dX4_buy_49 (by decide) ?_
      refine zl_cmp_le (tgt := 78) hx hb dX4_buy_50 dX4_buy_51 (by decide) (fun c_19 => ?_) (fun c_19 => ?_)
      · refine lv_iconst (v := 0) hx hb dX4_buy_78 (by decide) ?_
        exact zx_c (zx_rS (As := [.int 0]) (rest := []) (n := 1) C (cC_possible0 l hst D cA A g (cw cA (g 0) ad 6 nc nc 6 nt dy mo I L)) hH_16 hS_17 gX4_buy_X4_checkPossible rfl rfl (by decide +kernel) ⟨Nat.le_of_ble_eq_true rfl, Nat.le_of_ble_eq_true rfl⟩ hl_18 rfl (Nat.le_of_ble_eq_true rfl) dX4_buy_79 ⟨Nat.le_of_ble_eq_true rfl, Nat.le_of_ble_eq_true rfl⟩) hS_17 (zx_go C hex (fun E w' h => ⟨h.2, Or.inr (Or.inr ⟨cxj, fj, hcxj, rfl, hfj, rfl, hz_6, fun z => by first | exact absurd (by assumption) (nI_ge z.1 (by decide)) | exact absurd z.2.1 (by assumption) | exact absurd (by assumption) z.2.2 | exact absurd (by assumption) z.2.1 | exact absurd z.2.2.1 (by assumption) | exact absurd (by assumption) z.2.2.2, h.1⟩)⟩) (Nat.le_of_ble_eq_true rfl) (Nat.le_of_ble_eq_true rfl)) (fun v w' H1 l1 hP => hP.elim)
      · refine lv_iload_n hx hb dX4_buy_54 rfl (lv_at hl_18 5 rfl) ?_
        refine lv_i2l (v := Int32.toInt64 its) hx hb dX4_buy_55 rfl ?_
        refine lv_iload_n hx hb dX4_buy_56 rfl (lv_at hl_18 5 rfl) ?_
        refine lv_i2l (v := Int32.toInt64 its) hx hb dX4_buy_57 rfl ?_
        refine zk_cl (zk_rS (As := [.long (Int32.toInt64 its)]) (rest := [.long (Int32.toInt64 its)]) (n := 1) C (cC_costsOf l D cA A g (cw cA (g 0) ad 6 nc nc 6 nt dy mo I L) (Int32.toInt64 its)) hH_16 hS_17 gX4_buy_X4_costsOf rfl rfl (by decide +kernel) ⟨Nat.le_of_ble_eq_true rfl, Nat.le_of_ble_eq_true rfl⟩ hl_18 rfl (Nat.le_of_ble_eq_true rfl) dX4_buy_58 ⟨Nat.le_of_ble_eq_true rfl, Nat.le_of_ble_eq_true rfl⟩) hS_17 (fun r_20 w_21 H locs hP hH_22 hS_23 => ?_)
        obtain ⟨rfl, rfl⟩ := hP
        refine lv_ladd hx hb dX4_buy_61 ?_
        refine lv_aload hx hb dX4_buy_62 (lv_at hl_18 1 rfl) ?_
        refine zr_getA (ref := RX2) C hinX2 (ci := 3) rfl hH_22 (13, cxj, fj) (cl_13 (by omega) (by omega)) rfl 0 (by decide) (by decide +kernel) (fun _ h => h) rfl dX4_buy_64 ?_ rfl
        refine zr_getA (ref := RX0) C hinX0 (ci := 1) rfl hH_22 (8, cxj, 0) (cl_8 (by omega)) rfl 4 (by decide) (by decide +kernel) (fun _ h => h) rfl dX4_buy_67 ?_ rfl
        refine zl_cmp_gt (tgt := 78) hx hb dX4_buy_70 dX4_buy_71 (by decide) (fun c_24 => ?_) (fun c_24 => ?_)
        · refine lv_iconst (v := 0) hx hb dX4_buy_78 (by decide) ?_
          exact zx_c (zx_rS (As := [.int 0]) (rest := []) (n := 1) C (cC_possible0 l hst D cA A g (cw cA (g 0) ad 6 nc nc 6 nt dy mo I L)) hH_22 hS_23 gX4_buy_X4_checkPossible rfl rfl (by decide +kernel) ⟨Nat.le_of_ble_eq_true rfl, Nat.le_of_ble_eq_true rfl⟩ hl_18 rfl (Nat.le_of_ble_eq_true rfl) dX4_buy_79 ⟨Nat.le_of_ble_eq_true rfl, Nat.le_of_ble_eq_true rfl⟩) hS_23 (zx_go C hex (fun E w' h => ⟨h.2, Or.inr (Or.inr ⟨cxj, fj, hcxj, rfl, hfj, rfl, hz_6, fun z => by first | exact absurd (by assumption) (nI_ge z.1 (by decide)) | exact absurd z.2.1 (by assumption) | exact absurd (by assumption) z.2.2 | exact absurd (by assumption) z.2.1 | exact absurd z.2.2.1 (by assumption) | exact absurd (by assumption) z.2.2.2, h.1⟩)⟩) (Nat.le_of_ble_eq_true rfl) (Nat.le_of_ble_eq_true rfl)) (fun v w' H1 l1 hP => hP.elim)
        · refine lv_iconst (v := 1) hx hb dX4_buy_74 (by decide) ?_
          refine lv_goto (tgt := 79) hx hb dX4_buy_75 (by decide) ?_
          refine zk_cv (zk_rS (As := [.int 1]) (rest := []) (n := 1) C (cC_possible1 l D cA A g (cw cA (g 0) ad 6 nc nc 6 nt dy mo I L)) hH_22 hS_23 gX4_buy_X4_checkPossible rfl rfl (by decide +kernel) ⟨Nat.le_of_ble_eq_true rfl, Nat.le_of_ble_eq_true rfl⟩ hl_18 rfl (Nat.le_of_ble_eq_true rfl) dX4_buy_79 ⟨Nat.le_of_ble_eq_true rfl, Nat.le_of_ble_eq_true rfl⟩) hS_23 (fun w_ H locs hP hH_25 hS_26 => ?_)
          subst hP
          refine lv_aload_n hx hb dX4_buy_82 rfl (lv_at hl_18 2 rfl) ?_
          refine lv_aload hx hb dX4_buy_83 (lv_at hl_18 1 rfl) ?_
          refine lv_lload hx hb dX4_buy_85 (lv_at hl_18 0 rfl) ?_
          refine lv_iload_n hx hb dX4_buy_87 rfl (lv_at hl_18 5 rfl) ?_
          refine lv_i2l (v := Int32.toInt64 its) hx hb dX4_buy_88 rfl ?_
          refine zk_ci (zk_rV (As := [.ref (ad (13, cxj, fj)), .long (partsL I fj (Int32.toInt64 its)), .long (Int32.toInt64 its)]) (rest := []) (n := 3) (k := (0, 0, 0)) C (cC_makeTrade l D cA A g ad nc nt dy mo I L cxj fj (partsL I fj (Int32.toInt64 its)) (Int32.toInt64 its) (by omega) (by omega) hnt2 hnc hdy h11 h12 h16) hH_25 hS_26 rfl rfl rfl gX4_buy_X4_makeTrade rfl rfl (by decide +kernel) ⟨Nat.le_of_ble_eq_true rfl, Nat.le_of_ble_eq_true rfl⟩ hl_18 rfl (Nat.le_of_ble_eq_true rfl) dX4_buy_89 ⟨Nat.le_of_ble_eq_true rfl, Nat.le_of_ble_eq_true rfl⟩) hS_26 (fun r_27 w_28 H locs hP hH_29 hS_30 => ?_)
          obtain ⟨rfl, ad2, hA, rfl⟩ := hP
          refine vx_ret (zr_iret C hr ?_ hH_29 hS_30 (Nat.le_of_ble_eq_true rfl) (Nat.le_of_ble_eq_true rfl) dX4_buy_92)
          exact ⟨cxj, fj, hcxj, rfl, hfj, rfl, hz_6, ⟨hnt2, by assumption, by assumption⟩, rfl, ad2, hA, rfl⟩
  · exact zx_c (zx_rS (As := [.int its, .int 1, .int 10000000]) (rest := []) (n := 3) C (cC_range0 l hst D cA A g (cw cA (g 0) ad 6 nc nc 6 nt dy mo I L) its 1 10000000 hz_6) hH_3 hS_4 gX4_buy_X4_checkRange rfl rfl (by decide +kernel) ⟨Nat.le_of_ble_eq_true rfl, Nat.le_of_ble_eq_true rfl⟩ hl_5 rfl (Nat.le_of_ble_eq_true rfl) dX4_buy_12 ⟨Nat.le_of_ble_eq_true rfl, Nat.le_of_ble_eq_true rfl⟩) hS_4 (zx_go C hex (fun E w' h => ⟨h.2, Or.inr (Or.inl ⟨⟨cxj, hcxj, rfl⟩, ⟨fj, hfj, rfl⟩, hz_6, h.1⟩)⟩) (Nat.le_of_ble_eq_true rfl) (Nat.le_of_ble_eq_true rfl)) (fun v w' H1 l1 hP => hP.elim)
def rmC_sell : Room := { frames := 9, cells := 4, slots := 184, locals := 221 }
set_option maxHeartbeats 1000000 in
set_option maxRecDepth 100000 in
theorem cC_sell (l : Launch) (hst : l.stackTraces = false) (D : va_G) (cA : Nat → ClassId) (A : Nat → Prop) (g : Nat → Nat) (ad : zk_K → Nat) (nc nt dy : Nat) (mo : Int64) (I : zIA) (L : zLA) (cx f its : Int32) (hpr : ∀ f, f < 6 → ¬ Int32.toInt64 (I 1 f) = 0) (hnt : nt ≤ 120) (hnc : nc ≤ 12) (hdy : dy ≤ 7200) (h11 : ∀ t, t < nt → zD (I 11 t) nc) (h12 : ∀ t, t < nt → zD (I 12 t) 6) (h16 : ∀ t, t < nt → zD (I 16 t) 7201) : zX l yX4_sell wsX4_sell rmC_sell D (zt cA) A g [.ref (ad (0, 0, 0)), .int cx, .int f, .int its] (cw cA (g 0) ad 6 nc nc 6 nt dy mo I L) (zQi (fun r w' => ∃ j k, j < nc ∧ cx = nI j ∧ k < 6 ∧ f = nI k ∧ zR its 1 1000000000 ∧ (nt < 120 ∧ ¬ L 8 (6 * j + k) < Int32.toInt64 its ∧ 0 < amountL I k (Int32.toInt64 its) ∧ ¬ 1000000000 < amountL I k (Int32.toInt64 its)) ∧ nI nt = r ∧ ∃ ad', kpA nt ad ad' ∧ cw cA (g 0) ad' 6 nc nc 6 (nt + 1) dy (mtM I L nt dy j k (Int32.toInt64 (-its)) (amountL I k (Int32.toInt64 its)) mo) (noteI I nt dy j k) (mtL I L nt dy j k (Int32.toInt64 (-its)) (amountL I k (Int32.toInt64 its))) = w')) (fun E w' => cw cA (g 0) ad 6 nc nc 6 nt dy mo I L = w' ∧ ((¬ (zIn cx nc ∧ zIn f 6) ∧ E = xI) ∨ (zIn cx nc ∧ zIn f 6 ∧ ¬ zR its 1 1000000000 ∧ E = xA) ∨ (∃ j k, j < nc ∧ cx = nI j ∧ k < 6 ∧ f = nI k ∧ zR its 1 1000000000 ∧ ¬ (nt < 120 ∧ ¬ L 8 (6 * j + k) < Int32.toInt64 its ∧ 0 < amountL I k (Int32.toInt64 its) ∧ ¬ 1000000000 < amountL I k (Int32.toInt64 its)) ∧ E = xS))) := by
  refine zX_of (cc := cX4_sell) (maxL := 7) (ret := (some .int)) (own := RX4) (by decide +kernel) rfl (Nat.le_of_ble_eq_true rfl) rfl ?_
  intro p e s m below meth c C hr hnm hex H locs ls hH hS hl
  obtain ⟨⟨hx, hb, hml, hown, hts⟩, hG, hlk⟩ := id C
  have hinX2 : ∀ w ∈ wsX20, w ∈ wsX4_sell := by decide +kernel
  have hinX4 : ∀ w ∈ wsX40, w ∈ wsX4_sell := by decide +kernel
  have hl : lv_has ls 7 [(0, .ref (ad (0, 0, 0))), (1, .int cx), (2, .int f), (3, .int its)] := hl
  refine lv_aload_n hx hb dX4_sell_0 rfl (lv_at hl 0 rfl) ?_
  refine lv_iload_n hx hb dX4_sell_1 rfl (lv_at hl 1 rfl) ?_
  refine lv_iload_n hx hb dX4_sell_2 rfl (lv_at hl 2 rfl) ?_
  refine zx_cr (zx_rV (As := [.int cx, .int f]) (rest := []) (n := 2) (k := (0, 0, 0)) C (cC_holdingAt l hst D cA A g ad nc nt dy mo I L cx f hnc) hH hS rfl rfl rfl gX4_sell_X4_holdingAt rfl rfl (by decide +kernel) ⟨Nat.le_of_ble_eq_true rfl, Nat.le_of_ble_eq_true rfl⟩ hl rfl (Nat.le_of_ble_eq_true rfl) dX4_sell_3 ⟨Nat.le_of_ble_eq_true rfl, Nat.le_of_ble_eq_true rfl⟩) hS (zx_go C hex (fun E w' h => ⟨h.2.2, Or.inl ⟨h.2.1, h.1⟩⟩) (Nat.le_of_ble_eq_true rfl) (Nat.le_of_ble_eq_true rfl)) (fun r_1 w_2 H locs hP hH_3 hS_4 => ?_)
  obtain ⟨cxj, fj, hcxj, rfl, hfj, rfl, rfl, rfl⟩ := hP
  refine lv_astore (lv' := [(4, .ref (ad (13, cxj, fj))), (0, .ref (ad (0, 0, 0))), (1, .int (nI cxj)), (2, .int (nI fj)), (3, .int its)]) hx hb dX4_sell_6 hl (by decide) rfl (fun ls hl_5 => ?_)
  refine lv_iload_n hx hb dX4_sell_8 rfl (lv_at hl_5 4 rfl) ?_
  refine lv_iconst (v := 1) hx hb dX4_sell_9 (by decide) ?_
  refine lv_ldc (v := 1000000000) hx hb hown (hts (.constant RX4 108 1000000000) (by decide +kernel)) dX4_sell_10 ?_
  by_cases hz_6 : zR its 1 1000000000
  · refine zk_cv (zk_rS (As := [.int its, .int 1, .int 1000000000]) (rest := []) (n := 3) C (cC_range1 l D cA A g (cw cA (g 0) ad 6 nc nc 6 nt dy mo I L) its 1 1000000000 hz_6) hH_3 hS_4 gX4_sell_X4_checkRange rfl rfl (by decide +kernel) ⟨Nat.le_of_ble_eq_true rfl, Nat.le_of_ble_eq_true rfl⟩ hl_5 rfl (Nat.le_of_ble_eq_true rfl) dX4_sell_12 ⟨Nat.le_of_ble_eq_true rfl, Nat.le_of_ble_eq_true rfl⟩) hS_4 (fun w_ H locs hP hH_7 hS_8 => ?_)
    subst hP
    refine lv_aload_n hx hb dX4_sell_15 rfl (lv_at hl_5 1 rfl) ?_
    refine zr_getA (ref := RX4) C hinX4 (ci := 5) rfl hH_7 (0, 0, 0) rfl rfl 2 (by decide) (by decide +kernel) (fun _ h => h) rfl dX4_sell_16 ?_ rfl
    refine zk_ci (zk_rV (As := []) (rest := []) (n := 0) (k := (3, 0, 0)) C (cC_size l D cA A g (cw cA (g 0) ad 6 nc nc 6 nt dy mo I L) (3, 0, 0) (6, 0, 0) nt (g0 := g 0) rfl rfl) hH_7 hS_8 rfl rfl rfl gX4_sell_Jx4a65c_size_8abf5 rfl rfl (by decide +kernel) ⟨Nat.le_of_ble_eq_true rfl, Nat.le_of_ble_eq_true rfl⟩ hl_5 rfl (Nat.le_of_ble_eq_true rfl) dX4_sell_19 ⟨Nat.le_of_ble_eq_true rfl, Nat.le_of_ble_eq_true rfl⟩) hS_8 (fun r_ w_ H locs hP hH_9 hS_10 => ?_)
    obtain ⟨rfl, rfl⟩ := hP
    refine lv_bipush (v := 120) hx hb dX4_sell_22 (by decide) ?_
    refine lv_icmp_ge (tgt := 31) hx hb dX4_sell_24 (by decide) (fun c_11 => ?_) (fun c_11 => ?_)
    · refine lv_iconst (v := 0) hx hb dX4_sell_31 (by decide) ?_
      exact zx_c (zx_rS (As := [.int 0]) (rest := []) (n := 1) C (cC_possible0 l hst D cA A g (cw cA (g 0) ad 6 nc nc 6 nt dy mo I L)) hH_9 hS_10 gX4_sell_X4_checkPossible rfl rfl (by decide +kernel) ⟨Nat.le_of_ble_eq_true rfl, Nat.le_of_ble_eq_true rfl⟩ hl_5 rfl (Nat.le_of_ble_eq_true rfl) dX4_sell_32 ⟨Nat.le_of_ble_eq_true rfl, Nat.le_of_ble_eq_true rfl⟩) hS_10 (zx_go C hex (fun E w' h => ⟨h.2, Or.inr (Or.inr ⟨cxj, fj, hcxj, rfl, hfj, rfl, hz_6, fun z => by first | exact absurd (by assumption) (nI_ge z.1 (by decide)) | exact absurd z.2.1 (by assumption) | exact absurd (by assumption) z.2.2 | exact absurd (by assumption) z.2.1 | exact absurd z.2.2.1 (by assumption) | exact absurd (by assumption) z.2.2.2, h.1⟩)⟩) (Nat.le_of_ble_eq_true rfl) (Nat.le_of_ble_eq_true rfl)) (fun v w' H1 l1 hP => hP.elim)
    · have hnt2 : nt < 120 := Nat.lt_of_not_le (fun z => c_11 (nI_le z (by omega)))
      refine lv_iconst (v := 1) hx hb dX4_sell_27 (by decide) ?_
      refine lv_goto (tgt := 32) hx hb dX4_sell_28 (by decide) ?_
      refine zk_cv (zk_rS (As := [.int 1]) (rest := []) (n := 1) C (cC_possible1 l D cA A g (cw cA (g 0) ad 6 nc nc 6 nt dy mo I L)) hH_9 hS_10 gX4_sell_X4_checkPossible rfl rfl (by decide +kernel) ⟨Nat.le_of_ble_eq_true rfl, Nat.le_of_ble_eq_true rfl⟩ hl_5 rfl (Nat.le_of_ble_eq_true rfl) dX4_sell_32 ⟨Nat.le_of_ble_eq_true rfl, Nat.le_of_ble_eq_true rfl⟩) hS_10 (fun w_ H locs hP hH_12 hS_13 => ?_)
      subst hP
      refine lv_iload_n hx hb dX4_sell_35 rfl (lv_at hl_5 4 rfl) ?_
      refine lv_i2l (v := Int32.toInt64 its) hx hb dX4_sell_36 rfl ?_
      refine lv_aload hx hb dX4_sell_37 (lv_at hl_5 0 rfl) ?_
      refine zr_getA (ref := RX2) C hinX2 (ci := 3) rfl hH_12 (13, cxj, fj) (cl_13 (by omega) (by omega)) rfl 2 (by decide) (by decide +kernel) (fun _ h => h) rfl dX4_sell_39 ?_ rfl
      refine zl_cmp_gt (tgt := 50) hx hb dX4_sell_42 dX4_sell_43 (by decide) (fun c_14 => ?_) (fun c_14 => ?_)
      · refine lv_iconst (v := 0) hx hb dX4_sell_50 (by decide) ?_
        exact zx_c (zx_rS (As := [.int 0]) (rest := []) (n := 1) C (cC_possible0 l hst D cA A g (cw cA (g 0) ad 6 nc nc 6 nt dy mo I L)) hH_12 hS_13 gX4_sell_X4_checkPossible rfl rfl (by decide +kernel) ⟨Nat.le_of_ble_eq_true rfl, Nat.le_of_ble_eq_true rfl⟩ hl_5 rfl (Nat.le_of_ble_eq_true rfl) dX4_sell_51 ⟨Nat.le_of_ble_eq_true rfl, Nat.le_of_ble_eq_true rfl⟩) hS_13 (zx_go C hex (fun E w' h => ⟨h.2, Or.inr (Or.inr ⟨cxj, fj, hcxj, rfl, hfj, rfl, hz_6, fun z => by first | exact absurd (by assumption) (nI_ge z.1 (by decide)) | exact absurd z.2.1 (by assumption) | exact absurd (by assumption) z.2.2 | exact absurd (by assumption) z.2.1 | exact absurd z.2.2.1 (by assumption) | exact absurd (by assumption) z.2.2.2, h.1⟩)⟩) (Nat.le_of_ble_eq_true rfl) (Nat.le_of_ble_eq_true rfl)) (fun v w' H1 l1 hP => hP.elim)
      · refine lv_iconst (v := 1) hx hb dX4_sell_46 (by decide) ?_
        refine lv_goto (tgt := 51) hx hb dX4_sell_47 (by decide) ?_
        refine zk_cv (zk_rS (As := [.int 1]) (rest := []) (n := 1) C (cC_possible1 l D cA A g (cw cA (g 0) ad 6 nc nc 6 nt dy mo I L)) hH_12 hS_13 gX4_sell_X4_checkPossible rfl rfl (by decide +kernel) ⟨Nat.le_of_ble_eq_true rfl, Nat.le_of_ble_eq_true rfl⟩ hl_5 rfl (Nat.le_of_ble_eq_true rfl) dX4_sell_51 ⟨Nat.le_of_ble_eq_true rfl, Nat.le_of_ble_eq_true rfl⟩) hS_13 (fun w_ H locs hP hH_15 hS_16 => ?_)
        subst hP
        refine lv_iload_n hx hb dX4_sell_54 rfl (lv_at hl_5 4 rfl) ?_
        refine lv_i2l (v := Int32.toInt64 its) hx hb dX4_sell_55 rfl ?_
        refine lv_aload hx hb dX4_sell_56 (lv_at hl_5 0 rfl) ?_
        refine zr_getA (ref := RX2) C hinX2 (ci := 3) rfl hH_15 (13, cxj, fj) (cl_13 (by omega) (by omega)) rfl 1 (by decide) (by decide +kernel) (fun _ h => h) rfl dX4_sell_58 ?_ rfl
        refine zk_cl (zk_rS (As := [.long (Int32.toInt64 its), .ref (ad (7, fj, 0))]) (rest := []) (n := 2) C (cC_amountFor l D cA A g ad nc nt dy mo I L fj (Int32.toInt64 its) (by omega)) hH_15 hS_16 gX4_sell_X4_amountFor rfl rfl (by decide +kernel) ⟨Nat.le_of_ble_eq_true rfl, Nat.le_of_ble_eq_true rfl⟩ hl_5 rfl (Nat.le_of_ble_eq_true rfl) dX4_sell_61 ⟨Nat.le_of_ble_eq_true rfl, Nat.le_of_ble_eq_true rfl⟩) hS_16 (fun r_17 w_18 H locs hP hH_19 hS_20 => ?_)
        obtain ⟨rfl, rfl⟩ := hP
        refine lv_lstore (lv' := [(5, .long (amountL I fj (Int32.toInt64 its))), (4, .ref (ad (13, cxj, fj))), (0, .ref (ad (0, 0, 0))), (1, .int (nI cxj)), (2, .int (nI fj)), (3, .int its)]) hx hb dX4_sell_64 hl_5 (by decide) rfl (fun ls hl_21 => ?_)
        refine lv_lload hx hb dX4_sell_66 (lv_at hl_21 0 rfl) ?_
        refine lv_lconst (v := 0) hx hb dX4_sell_68 (by decide) ?_
        refine zl_cmp_le (tgt := 86) hx hb dX4_sell_69 dX4_sell_70 (by decide) (fun c_22 => ?_) (fun c_22 => ?_)
        · refine lv_iconst (v := 0) hx hb dX4_sell_86 (by decide) ?_
          exact zx_c (zx_rS (As := [.int 0]) (rest := []) (n := 1) C (cC_possible0 l hst D cA A g (cw cA (g 0) ad 6 nc nc 6 nt dy mo I L)) hH_19 hS_20 gX4_sell_X4_checkPossible rfl rfl (by decide +kernel) ⟨Nat.le_of_ble_eq_true rfl, Nat.le_of_ble_eq_true rfl⟩ hl_21 rfl (Nat.le_of_ble_eq_true rfl) dX4_sell_87 ⟨Nat.le_of_ble_eq_true rfl, Nat.le_of_ble_eq_true rfl⟩) hS_20 (zx_go C hex (fun E w' h => ⟨h.2, Or.inr (Or.inr ⟨cxj, fj, hcxj, rfl, hfj, rfl, hz_6, fun z => by first | exact absurd (by assumption) (nI_ge z.1 (by decide)) | exact absurd z.2.1 (by assumption) | exact absurd (by assumption) z.2.2 | exact absurd (by assumption) z.2.1 | exact absurd z.2.2.1 (by assumption) | exact absurd (by assumption) z.2.2.2, h.1⟩)⟩) (Nat.le_of_ble_eq_true rfl) (Nat.le_of_ble_eq_true rfl)) (fun v w' H1 l1 hP => hP.elim)
        · refine lv_lload hx hb dX4_sell_73 (lv_at hl_21 0 rfl) ?_
          refine lv_ldc2 (v := 1000000000) hx hb hown (hts (.constantLong RX4 115 1000000000) (by decide +kernel)) dX4_sell_75 ?_
          refine zl_cmp_gt (tgt := 86) hx hb dX4_sell_78 dX4_sell_79 (by decide) (fun c_23 => ?_) (fun c_23 => ?_)
          · refine lv_iconst (v := 0) hx hb dX4_sell_86 (by decide) ?_
            exact zx_c (zx_rS (As := [.int 0]) (rest := []) (n := 1) C (cC_possible0 l hst D cA A g (cw cA (g 0) ad 6 nc nc 6 nt dy mo I L)) hH_19 hS_20 gX4_sell_X4_checkPossible rfl rfl (by decide +kernel) ⟨Nat.le_of_ble_eq_true rfl, Nat.le_of_ble_eq_true rfl⟩ hl_21 rfl (Nat.le_of_ble_eq_true rfl) dX4_sell_87 ⟨Nat.le_of_ble_eq_true rfl, Nat.le_of_ble_eq_true rfl⟩) hS_20 (zx_go C hex (fun E w' h => ⟨h.2, Or.inr (Or.inr ⟨cxj, fj, hcxj, rfl, hfj, rfl, hz_6, fun z => by first | exact absurd (by assumption) (nI_ge z.1 (by decide)) | exact absurd z.2.1 (by assumption) | exact absurd (by assumption) z.2.2 | exact absurd (by assumption) z.2.1 | exact absurd z.2.2.1 (by assumption) | exact absurd (by assumption) z.2.2.2, h.1⟩)⟩) (Nat.le_of_ble_eq_true rfl) (Nat.le_of_ble_eq_true rfl)) (fun v w' H1 l1 hP => hP.elim)
          · refine lv_iconst (v := 1) hx hb dX4_sell_82 (by decide) ?_
            refine lv_goto (tgt := 87) hx hb dX4_sell_83 (by decide) ?_
            refine zk_cv (zk_rS (As := [.int 1]) (rest := []) (n := 1) C (cC_possible1 l D cA A g (cw cA (g 0) ad 6 nc nc 6 nt dy mo I L)) hH_19 hS_20 gX4_sell_X4_checkPossible rfl rfl (by decide +kernel) ⟨Nat.le_of_ble_eq_true rfl, Nat.le_of_ble_eq_true rfl⟩ hl_21 rfl (Nat.le_of_ble_eq_true rfl) dX4_sell_87 ⟨Nat.le_of_ble_eq_true rfl, Nat.le_of_ble_eq_true rfl⟩) hS_20 (fun w_ H locs hP hH_24 hS_25 => ?_)
            subst hP
            refine lv_aload_n hx hb dX4_sell_90 rfl (lv_at hl_21 2 rfl) ?_
            refine lv_aload hx hb dX4_sell_91 (lv_at hl_21 1 rfl) ?_
            refine lv_iload_n hx hb dX4_sell_93 rfl (lv_at hl_21 5 rfl) ?_
            refine lv_ineg hx hb dX4_sell_94 ?_
            refine lv_i2l (v := Int32.toInt64 (-its)) hx hb dX4_sell_95 rfl ?_
            refine lv_lload hx hb dX4_sell_96 (lv_at hl_21 0 rfl) ?_
            refine zk_ci (zk_rV (As := [.ref (ad (13, cxj, fj)), .long (Int32.toInt64 (-its)), .long (amountL I fj (Int32.toInt64 its))]) (rest := []) (n := 3) (k := (0, 0, 0)) C (cC_makeTrade l D cA A g ad nc nt dy mo I L cxj fj (Int32.toInt64 (-its)) (amountL I fj (Int32.toInt64 its)) (by omega) (by omega) hnt2 hnc hdy h11 h12 h16) hH_24 hS_25 rfl rfl rfl gX4_sell_X4_makeTrade rfl rfl (by decide +kernel) ⟨Nat.le_of_ble_eq_true rfl, Nat.le_of_ble_eq_true rfl⟩ hl_21 rfl (Nat.le_of_ble_eq_true rfl) dX4_sell_98 ⟨Nat.le_of_ble_eq_true rfl, Nat.le_of_ble_eq_true rfl⟩) hS_25 (fun r_26 w_27 H locs hP hH_28 hS_29 => ?_)
            obtain ⟨rfl, ad2, hA, rfl⟩ := hP
            refine vx_ret (zr_iret C hr ?_ hH_28 hS_29 (Nat.le_of_ble_eq_true rfl) (Nat.le_of_ble_eq_true rfl) dX4_sell_101)
            exact ⟨cxj, fj, hcxj, rfl, hfj, rfl, hz_6, ⟨hnt2, by assumption, by assumption, by assumption⟩, rfl, ad2, hA, rfl⟩
  · exact zx_c (zx_rS (As := [.int its, .int 1, .int 1000000000]) (rest := []) (n := 3) C (cC_range0 l hst D cA A g (cw cA (g 0) ad 6 nc nc 6 nt dy mo I L) its 1 1000000000 hz_6) hH_3 hS_4 gX4_sell_X4_checkRange rfl rfl (by decide +kernel) ⟨Nat.le_of_ble_eq_true rfl, Nat.le_of_ble_eq_true rfl⟩ hl_5 rfl (Nat.le_of_ble_eq_true rfl) dX4_sell_12 ⟨Nat.le_of_ble_eq_true rfl, Nat.le_of_ble_eq_true rfl⟩) hS_4 (zx_go C hex (fun E w' h => ⟨h.2, Or.inr (Or.inl ⟨⟨cxj, hcxj, rfl⟩, ⟨fj, hfj, rfl⟩, hz_6, h.1⟩)⟩) (Nat.le_of_ble_eq_true rfl) (Nat.le_of_ble_eq_true rfl)) (fun v w' H1 l1 hP => hP.elim)
