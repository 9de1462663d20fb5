def rmM_isIn : Room := { frames := 0, cells := 0, slots := 0, locals := 0 }
set_option maxHeartbeats 4000000 in
set_option maxRecDepth 100000 in
theorem cM_isIn (l : Launch) (D : va_G) (cA : Nat → ClassId) (A : Nat → Prop) (g : Nat → Nat) (w : zk_W) (v a b : Int32) : zM l yX5_isIn wsX5_isIn rmM_isIn D (zt cA) A g [.int v, .int a, .int b] (w) (zQi (fun r w' => w = w' ∧ ((r = 1 ∧ zR v a b) ∨ (r = 0 ∧ ¬ zR v a b)))) := by
  refine zM_of (cc := cX5_isIn) (maxL := 3) (ret := (some .boolean)) (own := RX5) (by decide +kernel) rfl (Nat.le_of_ble_eq_true rfl) rfl ?_
  intro p e s m below meth c C hr hnm H locs ls hH hS hl
  obtain ⟨⟨hx, hb, hml, hown, hts⟩, hG, hlk⟩ := id C
  have hl : lv_has ls 3 [(0, .int v), (1, .int a), (2, .int b)] := hl
  refine lv_iload_n hx hb dX5_isIn_0 rfl (lv_at hl 0 rfl) ?_
  refine lv_iload_n hx hb dX5_isIn_1 rfl (lv_at hl 1 rfl) ?_
  refine lv_icmp_lt (tgt := 14) hx hb dX5_isIn_2 (by decide) (fun c_1 => ?_) (fun c_1 => ?_)
  · refine lv_iconst (v := 0) hx hb dX5_isIn_14 (by decide) ?_
    refine zr_zret C hr (Or.inl rfl) ?_ hH hS (Nat.le_of_ble_eq_true rfl) (Nat.le_of_ble_eq_true rfl) dX5_isIn_15
    exact ⟨rfl, Or.inr ⟨rfl, fun z => by first | exact absurd z.1 (Int32.not_le.mpr c_1) | exact absurd z.2 (Int32.not_le.mpr c_2)⟩⟩
  · refine lv_iload_n hx hb dX5_isIn_5 rfl (lv_at hl 0 rfl) ?_
    refine lv_iload_n hx hb dX5_isIn_6 rfl (lv_at hl 2 rfl) ?_
    refine lv_icmp_gt (tgt := 14) hx hb dX5_isIn_7 (by decide) (fun c_2 => ?_) (fun c_2 => ?_)
    · refine lv_iconst (v := 0) hx hb dX5_isIn_14 (by decide) ?_
      refine zr_zret C hr (Or.inl rfl) ?_ hH hS (Nat.le_of_ble_eq_true rfl) (Nat.le_of_ble_eq_true rfl) dX5_isIn_15
      exact ⟨rfl, Or.inr ⟨rfl, fun z => by first | exact absurd z.1 (Int32.not_le.mpr c_1) | exact absurd z.2 (Int32.not_le.mpr c_2)⟩⟩
    · refine lv_iconst (v := 1) hx hb dX5_isIn_10 (by decide) ?_
      refine lv_goto (tgt := 15) hx hb dX5_isIn_11 (by decide) ?_
      refine zr_zret C hr (Or.inr rfl) ?_ hH hS (Nat.le_of_ble_eq_true rfl) (Nat.le_of_ble_eq_true rfl) dX5_isIn_15
      exact ⟨rfl, Or.inl ⟨rfl, Int32.not_lt.mp c_1, Int32.not_lt.mp c_2⟩⟩
def rmM_isFund : Room := { frames := 1, cells := 0, slots := 0, locals := 22 }
set_option maxHeartbeats 4000000 in
set_option maxRecDepth 100000 in
theorem cM_isFund (l : Launch) (D : va_G) (cA : Nat → ClassId) (A : Nat → Prop) (g : Nat → Nat) (w : zk_W) (f : Int32) : zM l yX5_isFund wsX5_isFund rmM_isFund D (zt cA) A g [.int f] (w) (zQi (fun r w' => w = w' ∧ ((r = 1 ∧ zIn f 6) ∨ (r = 0 ∧ ¬ zIn f 6)))) := by
  refine zM_of (cc := cX5_isFund) (maxL := 1) (ret := (some .boolean)) (own := RX5) (by decide +kernel) rfl (Nat.le_of_ble_eq_true rfl) rfl ?_
  intro p e s m below meth c C hr hnm H locs ls hH hS hl
  obtain ⟨⟨hx, hb, hml, hown, hts⟩, hG, hlk⟩ := id C
  have hl : lv_has ls 1 [(0, .int f)] := hl
  refine lv_iload_n hx hb dX5_isFund_0 rfl (lv_at hl 0 rfl) ?_
  refine lv_iconst (v := 0) hx hb dX5_isFund_1 (by decide) ?_
  refine lv_iconst (v := 5) hx hb dX5_isFund_2 (by decide) ?_
  refine zk_ci (zk_rS (As := [.int f, .int 0, .int 5]) (rest := []) (n := 3) C (cM_isIn l D cA A g _ f 0 5) hH hS gX5_isFund_X5_isIn rfl rfl (by decide +kernel) ⟨Nat.le_of_ble_eq_true rfl, Nat.le_of_ble_eq_true rfl⟩ hl rfl (Nat.le_of_ble_eq_true rfl) dX5_isFund_3 ⟨Nat.le_of_ble_eq_true rfl, Nat.le_of_ble_eq_true rfl⟩) hS (fun r_1 w_2 H locs hP hH_3 hS_4 => ?_)
  obtain ⟨rfl, (⟨rfl, h_r_1⟩ | ⟨rfl, h_r_1⟩)⟩ := hP
  · refine zr_zret C hr (Or.inr rfl) ?_ hH_3 hS_4 (Nat.le_of_ble_eq_true rfl) (Nat.le_of_ble_eq_true rfl) dX5_isFund_6
    exact ⟨rfl, Or.inl ⟨rfl, zIn_of (n := 6) (by decide) h_r_1 rfl⟩⟩
  · refine zr_zret C hr (Or.inl rfl) ?_ hH_3 hS_4 (Nat.le_of_ble_eq_true rfl) (Nat.le_of_ble_eq_true rfl) dX5_isFund_6
    exact ⟨rfl, Or.inr ⟨rfl, zIn_no (n := 6) (by decide) h_r_1 rfl⟩⟩
def rmM_thrown : Room := { frames := 0, cells := 0, slots := 0, locals := 0 }
set_option maxHeartbeats 4000000 in
set_option maxRecDepth 100000 in
theorem cM_thrown (l : Launch) (D : va_G) (cA : Nat → ClassId) (A : Nat → Prop) (g : Nat → Nat) (ad : zk_K → Nat) (dy nc nt nl : Nat) (th : Int32) (mo : Int64) (I : zIA) (L : zLA) : zM l yX5_thrown wsX5_thrown rmM_thrown D (zt cA) A g [.ref (ad (0, 0, 0))] (mw cA ad dy nc nt nl th mo I L) (zQi (fun r w' => th = r ∧ w' = mw cA ad dy nc nt nl th mo I L)) := by
  refine zM_of (cc := cX5_thrown) (maxL := 1) (ret := (some .int)) (own := RX5) (by decide +kernel) rfl (Nat.le_of_ble_eq_true rfl) rfl ?_
  intro p e s m below meth c C hr hnm H locs ls hH hS hl
  obtain ⟨⟨hx, hb, hml, hown, hts⟩, hG, hlk⟩ := id C
  have hin : ∀ w ∈ wsX50, w ∈ wsX5_thrown := by decide +kernel
  have hl : lv_has ls 1 [(0, .ref (ad (0, 0, 0)))] := hl
  refine lv_aload_n hx hb dX5_thrown_0 rfl (lv_at hl 0 rfl) ?_
  refine zm_get C hin hH 24 (by decide) (by decide +kernel) rfl dX5_thrown_1 ?_
  refine zr_iret C hr ?_ hH hS (Nat.le_of_ble_eq_true rfl) (Nat.le_of_ble_eq_true rfl) dX5_thrown_4
  exact ⟨rfl, rfl⟩
def rmM_fails : Room := { frames := 0, cells := 0, slots := 0, locals := 0 }
set_option maxHeartbeats 4000000 in
set_option maxRecDepth 100000 in
theorem cM_fails (l : Launch) (D : va_G) (cA : Nat → ClassId) (A : Nat → Prop) (g : Nat → Nat) (ad : zk_K → Nat) (dy nc nt nl : Nat) (th : Int32) (mo : Int64) (I : zIA) (L : zLA) (k : Int32) : zM l yX5_fails wsX5_fails rmM_fails D (zt cA) A g [.ref (ad (0, 0, 0)), .int k] (mw cA ad dy nc nt nl th mo I L) (zQi (fun r w' => fV k = r ∧ w' = mw cA ad dy nc nt nl k mo I L)) := by
  refine zM_of (cc := cX5_fails) (maxL := 2) (ret := (some .boolean)) (own := RX5) (by decide +kernel) rfl (Nat.le_of_ble_eq_true rfl) rfl ?_
  intro p e s m below meth c C hr hnm H locs ls hH hS hl
  obtain ⟨⟨hx, hb, hml, hown, hts⟩, hG, hlk⟩ := id C
  have hin : ∀ w ∈ wsX50, w ∈ wsX5_fails := by decide +kernel
  have hl : lv_has ls 2 [(0, .ref (ad (0, 0, 0))), (1, .int k)] := hl
  refine lv_aload_n hx hb dX5_fails_0 rfl (lv_at hl 0 rfl) ?_
  refine lv_iload_n hx hb dX5_fails_1 rfl (lv_at hl 1 rfl) ?_
  refine zm_put C hin hH hS 24 (by decide) (by decide +kernel) rfl rfl rfl dX5_fails_2 dy nc nt nl k mo rfl (fun H locs hH_1 hS_2 => ?_)
  refine lv_iload_n hx hb dX5_fails_5 rfl (lv_at hl 1 rfl) ?_
  refine lv_if_le (tgt := 13) hx hb dX5_fails_6 (by decide) (fun c_3 => ?_) (fun c_3 => ?_)
  · refine lv_iconst (v := 0) hx hb dX5_fails_13 (by decide) ?_
    refine zr_zret C hr (Or.inl rfl) ?_ hH_1 hS_2 (Nat.le_of_ble_eq_true rfl) (Nat.le_of_ble_eq_true rfl) dX5_fails_14
    exact ⟨by unfold fV; first | rw [if_pos (Int32.not_le.mp (by assumption))] | rw [if_neg (Int32.not_lt.mpr (by assumption))], rfl⟩
  · refine lv_iconst (v := 1) hx hb dX5_fails_9 (by decide) ?_
    refine lv_goto (tgt := 14) hx hb dX5_fails_10 (by decide) ?_
    refine zr_zret C hr (Or.inr rfl) ?_ hH_1 hS_2 (Nat.le_of_ble_eq_true rfl) (Nat.le_of_ble_eq_true rfl) dX5_fails_14
    exact ⟨by unfold fV; first | rw [if_pos (Int32.not_le.mp (by assumption))] | rw [if_neg (Int32.not_lt.mpr (by assumption))], rfl⟩
def rmM_isClient : Room := { frames := 1, cells := 0, slots := 0, locals := 22 }
set_option maxHeartbeats 4000000 in
set_option maxRecDepth 100000 in
theorem cM_isClient (l : Launch) (D : va_G) (cA : Nat → ClassId) (A : Nat → Prop) (g : Nat → Nat) (ad : zk_K → Nat) (dy nc nt nl : Nat) (th : Int32) (mo : Int64) (I : zIA) (L : zLA) (cx : Int32) (hnc : nc ≤ 12) : zM l yX5_isClient wsX5_isClient rmM_isClient D (zt cA) A g [.ref (ad (0, 0, 0)), .int cx] (mw cA ad dy nc nt nl th mo I L) (zQi (fun r w' => w' = mw cA ad dy nc nt nl th mo I L ∧ ((r = 1 ∧ zIn cx nc) ∨ (r = 0 ∧ ¬ zIn cx nc)))) := by
  refine zM_of (cc := cX5_isClient) (maxL := 2) (ret := (some .boolean)) (own := RX5) (by decide +kernel) rfl (Nat.le_of_ble_eq_true rfl) rfl ?_
  intro p e s m below meth c C hr hnm H locs ls hH hS hl
  obtain ⟨⟨hx, hb, hml, hown, hts⟩, hG, hlk⟩ := id C
  have hin : ∀ w ∈ wsX50, w ∈ wsX5_isClient := by decide +kernel
  have hl : lv_has ls 2 [(0, .ref (ad (0, 0, 0))), (1, .int cx)] := hl
  refine lv_iload_n hx hb dX5_isClient_0 rfl (lv_at hl 1 rfl) ?_
  refine lv_iconst (v := 0) hx hb dX5_isClient_1 (by decide) ?_
  refine lv_aload_n hx hb dX5_isClient_2 rfl (lv_at hl 0 rfl) ?_
  refine zm_get C hin hH 5 (by decide) (by decide +kernel) rfl dX5_isClient_3 ?_
  refine lv_iconst (v := 1) hx hb dX5_isClient_6 (by decide) ?_
  refine lv_isub hx hb dX5_isClient_7 ?_
  refine zk_ci (zk_rS (As := [.int cx, .int 0, .int ((nI nc) - 1)]) (rest := []) (n := 3) C (cM_isIn l D cA A g _ cx 0 ((nI nc) - 1)) hH hS gX5_isClient_X5_isIn rfl rfl (by decide +kernel) ⟨Nat.le_of_ble_eq_true rfl, Nat.le_of_ble_eq_true rfl⟩ hl rfl (Nat.le_of_ble_eq_true rfl) dX5_isClient_8 ⟨Nat.le_of_ble_eq_true rfl, Nat.le_of_ble_eq_true rfl⟩) hS (fun r_1 w_2 H locs hP hH_3 hS_4 => ?_)
  obtain ⟨rfl, (⟨rfl, h_r_1⟩ | ⟨rfl, h_r_1⟩)⟩ := hP
  · refine zr_zret C hr (Or.inr rfl) ?_ hH_3 hS_4 (Nat.le_of_ble_eq_true rfl) (Nat.le_of_ble_eq_true rfl) dX5_isClient_11
    exact ⟨rfl, Or.inl ⟨rfl, zIn_of (by omega) h_r_1 rfl⟩⟩
  · refine zr_zret C hr (Or.inl rfl) ?_ hH_3 hS_4 (Nat.le_of_ble_eq_true rfl) (Nat.le_of_ble_eq_true rfl) dX5_isClient_11
    exact ⟨rfl, Or.inr ⟨rfl, zIn_no (by omega) h_r_1 rfl⟩⟩
def rmM_price : Room := { frames := 2, cells := 0, slots := 0, locals := 42 }
set_option maxHeartbeats 4000000 in
set_option maxRecDepth 100000 in
theorem cM_price (l : Launch) (D : va_G) (cA : Nat → ClassId) (A : Nat → Prop) (g : Nat → Nat) (ad : zk_K → Nat) (dy nc nt nl : Nat) (th : Int32) (mo : Int64) (I : zIA) (L : zLA) (f its : Int32) : zM l yX5_price wsX5_price rmM_price D (zt cA) A g [.ref (ad (0, 0, 0)), .int f, .int its] (mw cA ad dy nc nt nl th mo I L) (zQi (fun r w' => (¬ zIn f 6 ∧ w' = mw cA ad dy nc nt nl 1 mo I L) ∨ (zIn f 6 ∧ ¬ zR its 10 1000000 ∧ w' = mw cA ad dy nc nt nl 2 mo I L) ∨ (∃ j, j < 6 ∧ f = nI j ∧ zR its 10 1000000 ∧ I 1 j = r ∧ w' = mw cA ad dy nc nt nl 0 mo (up2 I 1 j its) L))) := by
  refine zM_of (cc := cX5_price) (maxL := 4) (ret := (some .int)) (own := RX5) (by decide +kernel) rfl (Nat.le_of_ble_eq_true rfl) rfl ?_
  intro p e s m below meth c C hr hnm H locs ls hH hS hl
  obtain ⟨⟨hx, hb, hml, hown, hts⟩, hG, hlk⟩ := id C
  have hin : ∀ w ∈ wsX50, w ∈ wsX5_price := by decide +kernel
  have hl : lv_has ls 4 [(0, .ref (ad (0, 0, 0))), (1, .int f), (2, .int its)] := hl
  refine lv_aload_n hx hb dX5_price_0 rfl (lv_at hl 0 rfl) ?_
  refine lv_iload_n hx hb dX5_price_1 rfl (lv_at hl 1 rfl) ?_
  refine zk_ci (zk_rS (As := [.int f]) (rest := [.ref (ad (0, 0, 0))]) (n := 1) C (cM_isFund l D cA A g _ f) hH hS gX5_price_X5_isFund rfl rfl (by decide +kernel) ⟨Nat.le_of_ble_eq_true rfl, Nat.le_of_ble_eq_true rfl⟩ hl rfl (Nat.le_of_ble_eq_true rfl) dX5_price_2 ⟨Nat.le_of_ble_eq_true rfl, Nat.le_of_ble_eq_true rfl⟩) hS (fun r_1 w_2 H locs hP hH_3 hS_4 => ?_)
  obtain ⟨rfl, (⟨rfl, h_r_1⟩ | ⟨rfl, h_r_1⟩)⟩ := hP
  · obtain ⟨fj, hfj, rfl⟩ := h_r_1
    refine lv_if_ne (tgt := 12) hx hb dX5_price_5 (by decide) (fun c_5 => ?_) (fun c_5 => absurd c_5 (by decide))
    refine lv_iload_n hx hb dX5_price_12 rfl (lv_at hl 2 rfl) ?_
    refine lv_bipush (v := 10) hx hb dX5_price_13 (by decide) ?_
    refine lv_ldc (v := 1000000) hx hb hown (hts (.constant RX5 84 1000000) (by decide +kernel)) dX5_price_15 ?_
    refine zk_ci (zk_rS (As := [.int its, .int 10, .int 1000000]) (rest := [.ref (ad (0, 0, 0))]) (n := 3) C (cM_isIn l D cA A g _ its 10 1000000) hH_3 hS_4 gX5_price_X5_isIn rfl rfl (by decide +kernel) ⟨Nat.le_of_ble_eq_true rfl, Nat.le_of_ble_eq_true rfl⟩ hl rfl (Nat.le_of_ble_eq_true rfl) dX5_price_17 ⟨Nat.le_of_ble_eq_true rfl, Nat.le_of_ble_eq_true rfl⟩) hS_4 (fun r_6 w_7 H locs hP hH_8 hS_9 => ?_)
    obtain ⟨rfl, (⟨rfl, h_r_6⟩ | ⟨rfl, h_r_6⟩)⟩ := hP
    · refine lv_if_eq (tgt := 27) hx hb dX5_price_20 (by decide) (fun c_10 => absurd c_10 (by decide)) (fun c_10 => ?_)
      refine lv_iconst (v := 0) hx hb dX5_price_23 (by decide) ?_
      refine lv_goto (tgt := 28) hx hb dX5_price_24 (by decide) ?_
      refine zk_ci (zk_rV (As := [.int 0]) (rest := []) (n := 1) (k := (0, 0, 0)) C (cM_fails l D cA A g ad dy nc nt nl th mo I L 0) hH_8 hS_9 mL_o rfl rfl gX5_price_X5_fails rfl rfl (by decide +kernel) ⟨Nat.le_of_ble_eq_true rfl, Nat.le_of_ble_eq_true rfl⟩ hl rfl (Nat.le_of_ble_eq_true rfl) dX5_price_28 ⟨Nat.le_of_ble_eq_true rfl, Nat.le_of_ble_eq_true rfl⟩) hS_9 (fun r_11 w_12 H locs hP hH_13 hS_14 => ?_)
      obtain ⟨rfl, rfl⟩ := hP
      refine lv_if_eq (tgt := 36) hx hb dX5_price_31 (by decide) (fun c_15 => ?_) (fun c_15 => absurd c_15 (by decide))
      refine lv_aload_n hx hb dX5_price_36 rfl (lv_at hl 0 rfl) ?_
      refine zm_get C hin hH_13 1 (by decide) (by decide +kernel) rfl dX5_price_37 ?_
      refine lv_iload_n hx hb dX5_price_40 rfl (lv_at hl 1 rfl) ?_
      refine zm_ild C hH_13 1 (by decide) rfl (j := fj) rfl (show fj < 6 by omega) dX5_price_41 ?_
      refine lv_istore_n (lv' := [(3, .int (I 1 fj)), (0, .ref (ad (0, 0, 0))), (1, .int (nI fj)), (2, .int its)]) hx hb dX5_price_42 rfl hl (by decide) rfl (fun ls hl_16 => ?_)
      refine lv_aload_n hx hb dX5_price_43 rfl (lv_at hl_16 1 rfl) ?_
      refine zm_get C hin hH_13 1 (by decide) (by decide +kernel) rfl dX5_price_44 ?_
      refine lv_iload_n hx hb dX5_price_47 rfl (lv_at hl_16 2 rfl) ?_
      refine lv_iload_n hx hb dX5_price_48 rfl (lv_at hl_16 3 rfl) ?_
      refine zm_ist C hH_13 hS_14 1 (by decide) rfl (j := fj) rfl (show fj < 6 by omega) dX5_price_49 (fun H locs hH_17 hS_18 => ?_)
      refine lv_iload_n hx hb dX5_price_50 rfl (lv_at hl_16 0 rfl) ?_
      refine zr_iret C hr ?_ hH_17 hS_18 (Nat.le_of_ble_eq_true rfl) (Nat.le_of_ble_eq_true rfl) dX5_price_51
      exact Or.inr (Or.inr ⟨fj, hfj, rfl, by assumption, rfl, rfl⟩)
    · refine lv_if_eq (tgt := 27) hx hb dX5_price_20 (by decide) (fun c_19 => ?_) (fun c_19 => absurd c_19 (by decide))
      refine lv_iconst (v := 2) hx hb dX5_price_27 (by decide) ?_
      refine zk_ci (zk_rV (As := [.int 2]) (rest := []) (n := 1) (k := (0, 0, 0)) C (cM_fails l D cA A g ad dy nc nt nl th mo I L 2) hH_8 hS_9 mL_o rfl rfl gX5_price_X5_fails rfl rfl (by decide +kernel) ⟨Nat.le_of_ble_eq_true rfl, Nat.le_of_ble_eq_true rfl⟩ hl rfl (Nat.le_of_ble_eq_true rfl) dX5_price_28 ⟨Nat.le_of_ble_eq_true rfl, Nat.le_of_ble_eq_true rfl⟩) hS_9 (fun r_20 w_21 H locs hP hH_22 hS_23 => ?_)
      obtain ⟨rfl, rfl⟩ := hP
      refine lv_if_eq (tgt := 36) hx hb dX5_price_31 (by decide) (fun c_24 => absurd c_24 (by decide)) (fun c_24 => ?_)
      refine lv_iconst (v := 0) hx hb dX5_price_34 (by decide) ?_
      refine zr_iret C hr ?_ hH_22 hS_23 (Nat.le_of_ble_eq_true rfl) (Nat.le_of_ble_eq_true rfl) dX5_price_35
      exact Or.inr (Or.inl ⟨⟨fj, hfj, rfl⟩, by assumption, rfl⟩)
  · refine lv_if_ne (tgt := 12) hx hb dX5_price_5 (by decide) (fun c_25 => absurd c_25 (by decide)) (fun c_25 => ?_)
    refine lv_iconst (v := 1) hx hb dX5_price_8 (by decide) ?_
    refine lv_goto (tgt := 28) hx hb dX5_price_9 (by decide) ?_
    refine zk_ci (zk_rV (As := [.int 1]) (rest := []) (n := 1) (k := (0, 0, 0)) C (cM_fails l D cA A g ad dy nc nt nl th mo I L 1) hH_3 hS_4 mL_o rfl rfl gX5_price_X5_fails rfl rfl (by decide +kernel) ⟨Nat.le_of_ble_eq_true rfl, Nat.le_of_ble_eq_true rfl⟩ hl rfl (Nat.le_of_ble_eq_true rfl) dX5_price_28 ⟨Nat.le_of_ble_eq_true rfl, Nat.le_of_ble_eq_true rfl⟩) hS_4 (fun r_26 w_27 H locs hP hH_28 hS_29 => ?_)
    obtain ⟨rfl, rfl⟩ := hP
    refine lv_if_eq (tgt := 36) hx hb dX5_price_31 (by decide) (fun c_30 => absurd c_30 (by decide)) (fun c_30 => ?_)
    refine lv_iconst (v := 0) hx hb dX5_price_34 (by decide) ?_
    refine zr_iret C hr ?_ hH_28 hS_29 (Nat.le_of_ble_eq_true rfl) (Nat.le_of_ble_eq_true rfl) dX5_price_35
    exact Or.inl ⟨by assumption, rfl⟩
def rmM_client : Room := { frames := 1, cells := 0, slots := 0, locals := 21 }
set_option maxHeartbeats 4000000 in
set_option maxRecDepth 100000 in
theorem cM_client (l : Launch) (D : va_G) (cA : Nat → ClassId) (A : Nat → Prop) (g : Nat → Nat) (ad : zk_K → Nat) (dy nc nt nl : Nat) (th : Int32) (mo : Int64) (I : zIA) (L : zLA) (hnc : nc ≤ 12) : zM l yX5_client wsX5_client rmM_client D (zt cA) A g [.ref (ad (0, 0, 0))] (mw cA ad dy nc nt nl th mo I L) (zQi (fun r w' => (nc = 12 ∧ w' = mw cA ad dy nc nt nl 1 mo I L) ∨ (nc < 12 ∧ nI nc = r ∧ w' = mw cA ad dy (nc + 1) nt nl 0 mo I L))) := by
  refine zM_of (cc := cX5_client) (maxL := 1) (ret := (some .int)) (own := RX5) (by decide +kernel) rfl (Nat.le_of_ble_eq_true rfl) rfl ?_
  intro p e s m below meth c C hr hnm H locs ls hH hS hl
  obtain ⟨⟨hx, hb, hml, hown, hts⟩, hG, hlk⟩ := id C
  have hin : ∀ w ∈ wsX50, w ∈ wsX5_client := by decide +kernel
  have hl : lv_has ls 1 [(0, .ref (ad (0, 0, 0)))] := hl
  refine lv_aload_n hx hb dX5_client_0 rfl (lv_at hl 0 rfl) ?_
  refine lv_aload_n hx hb dX5_client_1 rfl (lv_at hl 0 rfl) ?_
  refine zm_get C hin hH 5 (by decide) (by decide +kernel) rfl dX5_client_2 ?_
  refine lv_bipush (v := 12) hx hb dX5_client_5 (by decide) ?_
  refine lv_icmp_ne (tgt := 14) hx hb dX5_client_7 (by decide) (fun c_1 => ?_) (fun c_1 => ?_)
  · refine lv_iconst (v := 0) hx hb dX5_client_14 (by decide) ?_
    refine zk_ci (zk_rV (As := [.int 0]) (rest := []) (n := 1) (k := (0, 0, 0)) C (cM_fails l D cA A g ad dy nc nt nl th mo I L 0) hH hS mL_o rfl rfl gX5_client_X5_fails rfl rfl (by decide +kernel) ⟨Nat.le_of_ble_eq_true rfl, Nat.le_of_ble_eq_true rfl⟩ hl rfl (Nat.le_of_ble_eq_true rfl) dX5_client_15 ⟨Nat.le_of_ble_eq_true rfl, Nat.le_of_ble_eq_true rfl⟩) hS (fun r_2 w_3 H locs hP hH_4 hS_5 => ?_)
    obtain ⟨rfl, rfl⟩ := hP
    refine lv_if_eq (tgt := 23) hx hb dX5_client_18 (by decide) (fun c_6 => ?_) (fun c_6 => absurd c_6 (by decide))
    refine lv_aload_n hx hb dX5_client_23 rfl (lv_at hl 0 rfl) ?_
    refine lv_dup hx hb dX5_client_24 rfl ?_
    refine zm_get C hin hH_4 5 (by decide) (by decide +kernel) rfl dX5_client_25 ?_
    refine lv_iconst (v := 1) hx hb dX5_client_28 (by decide) ?_
    refine lv_iadd hx hb dX5_client_29 ?_
    refine zm_put C hin hH_4 hS_5 5 (by decide) (by decide +kernel) rfl rfl rfl dX5_client_30 dy (nc + 1) nt nl 0 mo (by rw [show ((nI nc) + 1 : Int32) = nI (nc + 1) from (zi_add rfl rfl)]; rfl) (fun H locs hH_7 hS_8 => ?_)
    refine lv_aload_n hx hb dX5_client_33 rfl (lv_at hl 0 rfl) ?_
    refine zm_get C hin hH_7 5 (by decide) (by decide +kernel) rfl dX5_client_34 ?_
    refine lv_iconst (v := 1) hx hb dX5_client_37 (by decide) ?_
    refine lv_isub hx hb dX5_client_38 ?_
    refine zr_iret C hr ?_ hH_7 hS_8 (Nat.le_of_ble_eq_true rfl) (Nat.le_of_ble_eq_true rfl) dX5_client_39
    exact Or.inr ⟨Nat.lt_of_le_of_ne hnc (fun z => c_1 (by rw [z]; rfl)), by rw [show (1 : Int32) = nI 1 from rfl, pk_sub (Nat.le_add_left 1 nc), Nat.add_sub_cancel], rfl⟩
  · refine lv_iconst (v := 1) hx hb dX5_client_10 (by decide) ?_
    refine lv_goto (tgt := 15) hx hb dX5_client_11 (by decide) ?_
    refine zk_ci (zk_rV (As := [.int 1]) (rest := []) (n := 1) (k := (0, 0, 0)) C (cM_fails l D cA A g ad dy nc nt nl th mo I L 1) hH hS mL_o rfl rfl gX5_client_X5_fails rfl rfl (by decide +kernel) ⟨Nat.le_of_ble_eq_true rfl, Nat.le_of_ble_eq_true rfl⟩ hl rfl (Nat.le_of_ble_eq_true rfl) dX5_client_15 ⟨Nat.le_of_ble_eq_true rfl, Nat.le_of_ble_eq_true rfl⟩) hS (fun r_9 w_10 H locs hP hH_11 hS_12 => ?_)
    obtain ⟨rfl, rfl⟩ := hP
    refine lv_if_eq (tgt := 23) hx hb dX5_client_18 (by decide) (fun c_13 => absurd c_13 (by decide)) (fun c_13 => ?_)
    refine lv_iconst (v := 0) hx hb dX5_client_21 (by decide) ?_
    refine zr_iret C hr ?_ hH_11 hS_12 (Nat.le_of_ble_eq_true rfl) (Nat.le_of_ble_eq_true rfl) dX5_client_22
    exact Or.inl ⟨(nI_eq (by omega) (by decide)).mp c_1, rfl⟩
def rmM_pay : Room := { frames := 2, cells := 0, slots := 0, locals := 43 }
set_option maxHeartbeats 4000000 in
set_option maxRecDepth 100000 in
theorem cM_pay (l : Launch) (D : va_G) (cA : Nat → ClassId) (A : Nat → Prop) (g : Nat → Nat) (ad : zk_K → Nat) (dy nc nt nl : Nat) (th : Int32) (mo : Int64) (I : zIA) (L : zLA) (cx cents : Int32) (hnc : nc ≤ 12) : zM l yX5_pay wsX5_pay rmM_pay D (zt cA) A g [.ref (ad (0, 0, 0)), .int cx, .int cents] (mw cA ad dy nc nt nl th mo I L) (zQl (fun r w' => (¬ zIn cx nc ∧ w' = mw cA ad dy nc nt nl 1 mo I L) ∨ (zIn cx nc ∧ ¬ zR cents (-10000000) 10000000 ∧ w' = mw cA ad dy nc nt nl 2 mo I L) ∨ (∃ j, j < nc ∧ cx = nI j ∧ zR cents (-10000000) 10000000 ∧ ((cents < 0 ∧ L 6 j + Int32.toInt64 cents < 0 ∧ w' = mw cA ad dy nc nt nl 3 mo I L) ∨ (¬ (cents < 0 ∧ L 6 j + Int32.toInt64 cents < 0) ∧ L 6 j + Int32.toInt64 cents = r ∧ w' = mw cA ad dy nc nt nl 0 mo I (up2 L 6 j (L 6 j + Int32.toInt64 cents))))))) := by
  refine zM_of (cc := cX5_pay) (maxL := 4) (ret := (some .long)) (own := RX5) (by decide +kernel) rfl (Nat.le_of_ble_eq_true rfl) rfl ?_
  intro p e s m below meth c C hr hnm H locs ls hH hS hl
  obtain ⟨⟨hx, hb, hml, hown, hts⟩, hG, hlk⟩ := id C
  have hin : ∀ w ∈ wsX50, w ∈ wsX5_pay := by decide +kernel
  have hl : lv_has ls 4 [(0, .ref (ad (0, 0, 0))), (1, .int cx), (2, .int cents)] := hl
  refine lv_iload_n hx hb dX5_pay_0 rfl (lv_at hl 2 rfl) ?_
  refine lv_ldc (v := (-10000000)) hx hb hown (hts (.constant RX5 88 (-10000000)) (by decide +kernel)) dX5_pay_1 ?_
  refine lv_ldc (v := 10000000) hx hb hown (hts (.constant RX5 89 10000000) (by decide +kernel)) dX5_pay_3 ?_
  refine zk_ci (zk_rS (As := [.int cents, .int (-10000000), .int 10000000]) (rest := []) (n := 3) C (cM_isIn l D cA A g _ cents (-10000000) 10000000) hH hS gX5_pay_X5_isIn rfl rfl (by decide +kernel) ⟨Nat.le_of_ble_eq_true rfl, Nat.le_of_ble_eq_true rfl⟩ hl rfl (Nat.le_of_ble_eq_true rfl) dX5_pay_5 ⟨Nat.le_of_ble_eq_true rfl, Nat.le_of_ble_eq_true rfl⟩) hS (fun r_1 w_2 H locs hP hH_3 hS_4 => ?_)
  obtain ⟨rfl, (⟨rfl, h_r_1⟩ | ⟨rfl, h_r_1⟩)⟩ := hP
  · refine lv_istore_n (lv' := [(3, .int 1), (0, .ref (ad (0, 0, 0))), (1, .int cx), (2, .int cents)]) hx hb dX5_pay_8 rfl hl (by decide) rfl (fun ls hl_5 => ?_)
    refine lv_aload_n hx hb dX5_pay_9 rfl (lv_at hl_5 1 rfl) ?_
    refine lv_aload_n hx hb dX5_pay_10 rfl (lv_at hl_5 1 rfl) ?_
    refine lv_iload_n hx hb dX5_pay_11 rfl (lv_at hl_5 2 rfl) ?_
    refine zk_ci (zk_rV (As := [.int cx]) (rest := [.ref (ad (0, 0, 0))]) (n := 1) (k := (0, 0, 0)) C (cM_isClient l D cA A g ad dy nc nt nl th mo I L cx hnc) hH_3 hS_4 mL_o rfl rfl gX5_pay_X5_isClient rfl rfl (by decide +kernel) ⟨Nat.le_of_ble_eq_true rfl, Nat.le_of_ble_eq_true rfl⟩ hl_5 rfl (Nat.le_of_ble_eq_true rfl) dX5_pay_12 ⟨Nat.le_of_ble_eq_true rfl, Nat.le_of_ble_eq_true rfl⟩) hS_4 (fun r_6 w_7 H locs hP hH_8 hS_9 => ?_)
    obtain ⟨rfl, (⟨rfl, h_r_6⟩ | ⟨rfl, h_r_6⟩)⟩ := hP
    · obtain ⟨cxj, hcxj, rfl⟩ := h_r_6
      refine lv_if_ne (tgt := 22) hx hb dX5_pay_15 (by decide) (fun c_10 => ?_) (fun c_10 => absurd c_10 (by decide))
      refine lv_iload_n hx hb dX5_pay_22 rfl (lv_at hl_5 0 rfl) ?_
      refine lv_if_ne (tgt := 30) hx hb dX5_pay_23 (by decide) (fun c_11 => ?_) (fun c_11 => absurd c_11 (by decide))
      refine lv_iload_n hx hb dX5_pay_30 rfl (lv_at hl_5 3 rfl) ?_
      refine lv_if_ge (tgt := 52) hx hb dX5_pay_31 (by decide) (fun c_12 => ?_) (fun c_12 => ?_)
      · refine lv_iconst (v := 0) hx hb dX5_pay_52 (by decide) ?_
        refine zk_ci (zk_rV (As := [.int 0]) (rest := []) (n := 1) (k := (0, 0, 0)) C (cM_fails l D cA A g ad dy nc nt nl th mo I L 0) hH_8 hS_9 mL_o rfl rfl gX5_pay_X5_fails rfl rfl (by decide +kernel) ⟨Nat.le_of_ble_eq_true rfl, Nat.le_of_ble_eq_true rfl⟩ hl_5 rfl (Nat.le_of_ble_eq_true rfl) dX5_pay_53 ⟨Nat.le_of_ble_eq_true rfl, Nat.le_of_ble_eq_true rfl⟩) hS_9 (fun r_13 w_14 H locs hP hH_15 hS_16 => ?_)
        obtain ⟨rfl, rfl⟩ := hP
        refine lv_if_eq (tgt := 61) hx hb dX5_pay_56 (by decide) (fun c_17 => ?_) (fun c_17 => absurd c_17 (by decide))
        refine lv_aload_n hx hb dX5_pay_61 rfl (lv_at hl_5 1 rfl) ?_
        refine zm_get C hin hH_15 6 (by decide) (by decide +kernel) rfl dX5_pay_62 ?_
        refine lv_iload_n hx hb dX5_pay_65 rfl (lv_at hl_5 2 rfl) ?_
        refine lv_dup2_11 hx hb dX5_pay_66 rfl rfl ?_
        refine zm_lld C hH_15 6 rfl (j := cxj) rfl (show cxj < 12 by omega) dX5_pay_67 ?_
        refine lv_iload_n hx hb dX5_pay_68 rfl (lv_at hl_5 3 rfl) ?_
        refine lv_i2l (v := Int32.toInt64 cents) hx hb dX5_pay_69 rfl ?_
        refine lv_ladd hx hb dX5_pay_70 ?_
        refine zm_lst C hH_15 hS_16 6 rfl (j := cxj) rfl (show cxj < 12 by omega) dX5_pay_71 (fun H locs hH_18 hS_19 => ?_)
        refine lv_aload_n hx hb dX5_pay_72 rfl (lv_at hl_5 1 rfl) ?_
        refine zm_get C hin hH_18 6 (by decide) (by decide +kernel) rfl dX5_pay_73 ?_
        refine lv_iload_n hx hb dX5_pay_76 rfl (lv_at hl_5 2 rfl) ?_
        refine zm_lld C hH_18 6 rfl (j := cxj) rfl (show cxj < 12 by omega) dX5_pay_77 ?_
        refine zr_lret C hr ?_ hH_18 hS_19 (Nat.le_of_ble_eq_true rfl) (Nat.le_of_ble_eq_true rfl) dX5_pay_78
        exact Or.inr (Or.inr ⟨cxj, hcxj, rfl, by assumption, Or.inr ⟨fun z => by first | exact absurd z.2 (by assumption) | exact absurd z.1 (Int32.not_lt.mpr (by assumption)), (up2_s _ _ _ _).symm, rfl⟩⟩)
      · refine lv_aload_n hx hb dX5_pay_34 rfl (lv_at hl_5 1 rfl) ?_
        refine zm_get C hin hH_8 6 (by decide) (by decide +kernel) rfl dX5_pay_35 ?_
        refine lv_iload_n hx hb dX5_pay_38 rfl (lv_at hl_5 2 rfl) ?_
        refine zm_lld C hH_8 6 rfl (j := cxj) rfl (show cxj < 12 by omega) dX5_pay_39 ?_
        refine lv_iload_n hx hb dX5_pay_40 rfl (lv_at hl_5 3 rfl) ?_
        refine lv_i2l (v := Int32.toInt64 cents) hx hb dX5_pay_41 rfl ?_
        refine lv_ladd hx hb dX5_pay_42 ?_
        refine lv_lconst (v := 0) hx hb dX5_pay_43 (by decide) ?_
        refine zl_cmp_ge (tgt := 52) hx hb dX5_pay_44 dX5_pay_45 (by decide) (fun c_20 => ?_) (fun c_20 => ?_)
        · refine lv_iconst (v := 0) hx hb dX5_pay_52 (by decide) ?_
          refine zk_ci (zk_rV (As := [.int 0]) (rest := []) (n := 1) (k := (0, 0, 0)) C (cM_fails l D cA A g ad dy nc nt nl th mo I L 0) hH_8 hS_9 mL_o rfl rfl gX5_pay_X5_fails rfl rfl (by decide +kernel) ⟨Nat.le_of_ble_eq_true rfl, Nat.le_of_ble_eq_true rfl⟩ hl_5 rfl (Nat.le_of_ble_eq_true rfl) dX5_pay_53 ⟨Nat.le_of_ble_eq_true rfl, Nat.le_of_ble_eq_true rfl⟩) hS_9 (fun r_21 w_22 H locs hP hH_23 hS_24 => ?_)
          obtain ⟨rfl, rfl⟩ := hP
          refine lv_if_eq (tgt := 61) hx hb dX5_pay_56 (by decide) (fun c_25 => ?_) (fun c_25 => absurd c_25 (by decide))
          refine lv_aload_n hx hb dX5_pay_61 rfl (lv_at hl_5 1 rfl) ?_
          refine zm_get C hin hH_23 6 (by decide) (by decide +kernel) rfl dX5_pay_62 ?_
          refine lv_iload_n hx hb dX5_pay_65 rfl (lv_at hl_5 2 rfl) ?_
          refine lv_dup2_11 hx hb dX5_pay_66 rfl rfl ?_
          refine zm_lld C hH_23 6 rfl (j := cxj) rfl (show cxj < 12 by omega) dX5_pay_67 ?_
          refine lv_iload_n hx hb dX5_pay_68 rfl (lv_at hl_5 3 rfl) ?_
          refine lv_i2l (v := Int32.toInt64 cents) hx hb dX5_pay_69 rfl ?_
          refine lv_ladd hx hb dX5_pay_70 ?_
          refine zm_lst C hH_23 hS_24 6 rfl (j := cxj) rfl (show cxj < 12 by omega) dX5_pay_71 (fun H locs hH_26 hS_27 => ?_)
          refine lv_aload_n hx hb dX5_pay_72 rfl (lv_at hl_5 1 rfl) ?_
          refine zm_get C hin hH_26 6 (by decide) (by decide +kernel) rfl dX5_pay_73 ?_
          refine lv_iload_n hx hb dX5_pay_76 rfl (lv_at hl_5 2 rfl) ?_
          refine zm_lld C hH_26 6 rfl (j := cxj) rfl (show cxj < 12 by omega) dX5_pay_77 ?_
          refine zr_lret C hr ?_ hH_26 hS_27 (Nat.le_of_ble_eq_true rfl) (Nat.le_of_ble_eq_true rfl) dX5_pay_78
          exact Or.inr (Or.inr ⟨cxj, hcxj, rfl, by assumption, Or.inr ⟨fun z => by first | exact absurd z.2 (by assumption) | exact absurd z.1 (Int32.not_lt.mpr (by assumption)), (up2_s _ _ _ _).symm, rfl⟩⟩)
        · refine lv_iconst (v := 3) hx hb dX5_pay_48 (by decide) ?_
          refine lv_goto (tgt := 53) hx hb dX5_pay_49 (by decide) ?_
          refine zk_ci (zk_rV (As := [.int 3]) (rest := []) (n := 1) (k := (0, 0, 0)) C (cM_fails l D cA A g ad dy nc nt nl th mo I L 3) hH_8 hS_9 mL_o rfl rfl gX5_pay_X5_fails rfl rfl (by decide +kernel) ⟨Nat.le_of_ble_eq_true rfl, Nat.le_of_ble_eq_true rfl⟩ hl_5 rfl (Nat.le_of_ble_eq_true rfl) dX5_pay_53 ⟨Nat.le_of_ble_eq_true rfl, Nat.le_of_ble_eq_true rfl⟩) hS_9 (fun r_28 w_29 H locs hP hH_30 hS_31 => ?_)
          obtain ⟨rfl, rfl⟩ := hP
          refine lv_if_eq (tgt := 61) hx hb dX5_pay_56 (by decide) (fun c_32 => absurd c_32 (by decide)) (fun c_32 => ?_)
          refine lv_lconst (v := 0) hx hb dX5_pay_59 (by decide) ?_
          refine zr_lret C hr ?_ hH_30 hS_31 (Nat.le_of_ble_eq_true rfl) (Nat.le_of_ble_eq_true rfl) dX5_pay_60
          exact Or.inr (Or.inr ⟨cxj, hcxj, rfl, by assumption, Or.inl ⟨Int32.not_le.mp (by assumption), by assumption, rfl⟩⟩)
    · refine lv_if_ne (tgt := 22) hx hb dX5_pay_15 (by decide) (fun c_33 => absurd c_33 (by decide)) (fun c_33 => ?_)
      refine lv_iconst (v := 1) hx hb dX5_pay_18 (by decide) ?_
      refine lv_goto (tgt := 53) hx hb dX5_pay_19 (by decide) ?_
      refine zk_ci (zk_rV (As := [.int 1]) (rest := []) (n := 1) (k := (0, 0, 0)) C (cM_fails l D cA A g ad dy nc nt nl th mo I L 1) hH_8 hS_9 mL_o rfl rfl gX5_pay_X5_fails rfl rfl (by decide +kernel) ⟨Nat.le_of_ble_eq_true rfl, Nat.le_of_ble_eq_true rfl⟩ hl_5 rfl (Nat.le_of_ble_eq_true rfl) dX5_pay_53 ⟨Nat.le_of_ble_eq_true rfl, Nat.le_of_ble_eq_true rfl⟩) hS_9 (fun r_34 w_35 H locs hP hH_36 hS_37 => ?_)
      obtain ⟨rfl, rfl⟩ := hP
      refine lv_if_eq (tgt := 61) hx hb dX5_pay_56 (by decide) (fun c_38 => absurd c_38 (by decide)) (fun c_38 => ?_)
      refine lv_lconst (v := 0) hx hb dX5_pay_59 (by decide) ?_
      refine zr_lret C hr ?_ hH_36 hS_37 (Nat.le_of_ble_eq_true rfl) (Nat.le_of_ble_eq_true rfl) dX5_pay_60
      exact Or.inl ⟨by assumption, rfl⟩
  · refine lv_istore_n (lv' := [(3, .int 0), (0, .ref (ad (0, 0, 0))), (1, .int cx), (2, .int cents)]) hx hb dX5_pay_8 rfl hl (by decide) rfl (fun ls hl_39 => ?_)
    refine lv_aload_n hx hb dX5_pay_9 rfl (lv_at hl_39 1 rfl) ?_
    refine lv_aload_n hx hb dX5_pay_10 rfl (lv_at hl_39 1 rfl) ?_
    refine lv_iload_n hx hb dX5_pay_11 rfl (lv_at hl_39 2 rfl) ?_
    refine zk_ci (zk_rV (As := [.int cx]) (rest := [.ref (ad (0, 0, 0))]) (n := 1) (k := (0, 0, 0)) C (cM_isClient l D cA A g ad dy nc nt nl th mo I L cx hnc) hH_3 hS_4 mL_o rfl rfl gX5_pay_X5_isClient rfl rfl (by decide +kernel) ⟨Nat.le_of_ble_eq_true rfl, Nat.le_of_ble_eq_true rfl⟩ hl_39 rfl (Nat.le_of_ble_eq_true rfl) dX5_pay_12 ⟨Nat.le_of_ble_eq_true rfl, Nat.le_of_ble_eq_true rfl⟩) hS_4 (fun r_40 w_41 H locs hP hH_42 hS_43 => ?_)
    obtain ⟨rfl, (⟨rfl, h_r_40⟩ | ⟨rfl, h_r_40⟩)⟩ := hP
    · obtain ⟨cxj, hcxj, rfl⟩ := h_r_40
      refine lv_if_ne (tgt := 22) hx hb dX5_pay_15 (by decide) (fun c_44 => ?_) (fun c_44 => absurd c_44 (by decide))
      refine lv_iload_n hx hb dX5_pay_22 rfl (lv_at hl_39 0 rfl) ?_
      refine lv_if_ne (tgt := 30) hx hb dX5_pay_23 (by decide) (fun c_45 => absurd c_45 (by decide)) (fun c_45 => ?_)
      refine lv_iconst (v := 2) hx hb dX5_pay_26 (by decide) ?_
      refine lv_goto (tgt := 53) hx hb dX5_pay_27 (by decide) ?_
      refine zk_ci (zk_rV (As := [.int 2]) (rest := []) (n := 1) (k := (0, 0, 0)) C (cM_fails l D cA A g ad dy nc nt nl th mo I L 2) hH_42 hS_43 mL_o rfl rfl gX5_pay_X5_fails rfl rfl (by decide +kernel) ⟨Nat.le_of_ble_eq_true rfl, Nat.le_of_ble_eq_true rfl⟩ hl_39 rfl (Nat.le_of_ble_eq_true rfl) dX5_pay_53 ⟨Nat.le_of_ble_eq_true rfl, Nat.le_of_ble_eq_true rfl⟩) hS_43 (fun r_46 w_47 H locs hP hH_48 hS_49 => ?_)
      obtain ⟨rfl, rfl⟩ := hP
      refine lv_if_eq (tgt := 61) hx hb dX5_pay_56 (by decide) (fun c_50 => absurd c_50 (by decide)) (fun c_50 => ?_)
      refine lv_lconst (v := 0) hx hb dX5_pay_59 (by decide) ?_
      refine zr_lret C hr ?_ hH_48 hS_49 (Nat.le_of_ble_eq_true rfl) (Nat.le_of_ble_eq_true rfl) dX5_pay_60
      exact Or.inr (Or.inl ⟨⟨cxj, hcxj, rfl⟩, by assumption, rfl⟩)
    · refine lv_if_ne (tgt := 22) hx hb dX5_pay_15 (by decide) (fun c_51 => absurd c_51 (by decide)) (fun c_51 => ?_)
      refine lv_iconst (v := 1) hx hb dX5_pay_18 (by decide) ?_
      refine lv_goto (tgt := 53) hx hb dX5_pay_19 (by decide) ?_
      refine zk_ci (zk_rV (As := [.int 1]) (rest := []) (n := 1) (k := (0, 0, 0)) C (cM_fails l D cA A g ad dy nc nt nl th mo I L 1) hH_42 hS_43 mL_o rfl rfl gX5_pay_X5_fails rfl rfl (by decide +kernel) ⟨Nat.le_of_ble_eq_true rfl, Nat.le_of_ble_eq_true rfl⟩ hl_39 rfl (Nat.le_of_ble_eq_true rfl) dX5_pay_53 ⟨Nat.le_of_ble_eq_true rfl, Nat.le_of_ble_eq_true rfl⟩) hS_43 (fun r_52 w_53 H locs hP hH_54 hS_55 => ?_)
      obtain ⟨rfl, rfl⟩ := hP
      refine lv_if_eq (tgt := 61) hx hb dX5_pay_56 (by decide) (fun c_56 => absurd c_56 (by decide)) (fun c_56 => ?_)
      refine lv_lconst (v := 0) hx hb dX5_pay_59 (by decide) ?_
      refine zr_lret C hr ?_ hH_54 hS_55 (Nat.le_of_ble_eq_true rfl) (Nat.le_of_ble_eq_true rfl) dX5_pay_60
      exact Or.inl ⟨by assumption, rfl⟩
def rmM_costOf : Room := { frames := 0, cells := 0, slots := 0, locals := 0 }
set_option maxHeartbeats 4000000 in
set_option maxRecDepth 100000 in
theorem cM_costOf (l : Launch) (D : va_G) (cA : Nat → ClassId) (A : Nat → Prop) (g : Nat → Nat) (w : zk_W) (x : Int64) : zM l yX5_costOf wsX5_costOf rmM_costOf D (zt cA) A g [.long x] (w) (zQl (fun r w' => costL x = r ∧ w = w')) := by
  refine zM_of (cc := cX5_costOf) (maxL := 2) (ret := (some .long)) (own := RX5) (by decide +kernel) rfl (Nat.le_of_ble_eq_true rfl) rfl ?_
  intro p e s m below meth c C hr hnm H locs ls hH hS hl
  obtain ⟨⟨hx, hb, hml, hown, hts⟩, hG, hlk⟩ := id C
  have hl : lv_has ls 2 [(0, .long x)] := hl
  refine lv_lload_n hx hb dX5_costOf_0 rfl (lv_at hl 0 rfl) ?_
  refine lv_lload_n hx hb dX5_costOf_1 rfl (lv_at hl 0 rfl) ?_
  refine lv_ldc2 (v := 10000) hx hb hown (hts (.constantLong RX5 93 10000) (by decide +kernel)) dX5_costOf_2 ?_
  refine zl_cmp_ge (tgt := 15) hx hb dX5_costOf_5 dX5_costOf_6 (by decide) (fun c_1 => ?_) (fun c_1 => ?_)
  · refine lv_lload_n hx hb dX5_costOf_15 rfl (lv_at hl 0 rfl) ?_
    refine lv_ldc2 (v := 100000) hx hb hown (hts (.constantLong RX5 97 100000) (by decide +kernel)) dX5_costOf_16 ?_
    refine zl_cmp_ge (tgt := 29) hx hb dX5_costOf_19 dX5_costOf_20 (by decide) (fun c_2 => ?_) (fun c_2 => ?_)
    · refine lv_ldc2 (v := 20) hx hb hown (hts (.constantLong RX5 101 20) (by decide +kernel)) dX5_costOf_29 ?_
      refine lv_lmul hx hb dX5_costOf_32 ?_
      refine lv_ldc2 (v := 10000) hx hb hown (hts (.constantLong RX5 93 10000) (by decide +kernel)) dX5_costOf_33 ?_
      refine lv_ldiv hx hb dX5_costOf_36 (by decide) ?_
      refine zr_lret C hr ?_ hH hS (Nat.le_of_ble_eq_true rfl) (Nat.le_of_ble_eq_true rfl) dX5_costOf_37
      exact ⟨by unfold costL; first | rw [if_pos c_1] | rw [if_neg c_1, if_pos c_2] | rw [if_neg c_1, if_neg c_2], rfl⟩
    · refine lv_ldc2 (v := 50) hx hb hown (hts (.constantLong RX5 99 50) (by decide +kernel)) dX5_costOf_23 ?_
      refine lv_goto (tgt := 32) hx hb dX5_costOf_26 (by decide) ?_
      refine lv_lmul hx hb dX5_costOf_32 ?_
      refine lv_ldc2 (v := 10000) hx hb hown (hts (.constantLong RX5 93 10000) (by decide +kernel)) dX5_costOf_33 ?_
      refine lv_ldiv hx hb dX5_costOf_36 (by decide) ?_
      refine zr_lret C hr ?_ hH hS (Nat.le_of_ble_eq_true rfl) (Nat.le_of_ble_eq_true rfl) dX5_costOf_37
      exact ⟨by unfold costL; first | rw [if_pos c_1] | rw [if_neg c_1, if_pos c_2] | rw [if_neg c_1, if_neg c_2], rfl⟩
  · refine lv_ldc2 (v := 100) hx hb hown (hts (.constantLong RX5 95 100) (by decide +kernel)) dX5_costOf_9 ?_
    refine lv_goto (tgt := 32) hx hb dX5_costOf_12 (by decide) ?_
    refine lv_lmul hx hb dX5_costOf_32 ?_
    refine lv_ldc2 (v := 10000) hx hb hown (hts (.constantLong RX5 93 10000) (by decide +kernel)) dX5_costOf_33 ?_
    refine lv_ldiv hx hb dX5_costOf_36 (by decide) ?_
    refine zr_lret C hr ?_ hH hS (Nat.le_of_ble_eq_true rfl) (Nat.le_of_ble_eq_true rfl) dX5_costOf_37
    exact ⟨by unfold costL; first | rw [if_pos c_1] | rw [if_neg c_1, if_pos c_2] | rw [if_neg c_1, if_neg c_2], rfl⟩
def rmM_partsFor : Room := { frames := 0, cells := 0, slots := 0, locals := 0 }
set_option maxHeartbeats 4000000 in
set_option maxRecDepth 100000 in
theorem cM_partsFor (l : Launch) (D : va_G) (cA : Nat → ClassId) (A : Nat → Prop) (g : Nat → Nat) (ad : zk_K → Nat) (dy nc nt nl : Nat) (th : Int32) (mo : Int64) (I : zIA) (L : zLA) (f : Nat) (x : Int64) (hf : f < 6) (hpr : ∀ f, f < 6 → ¬ Int32.toInt64 (I 1 f) = 0) : zM l yX5_partsFor wsX5_partsFor rmM_partsFor D (zt cA) A g [.ref (ad (0, 0, 0)), .int (nI f), .long x] (mw cA ad dy nc nt nl th mo I L) (zQl (fun r w' => partsL I f x = r ∧ w' = mw cA ad dy nc nt nl th mo I L)) := by
  refine zM_of (cc := cX5_partsFor) (maxL := 4) (ret := (some .long)) (own := RX5) (by decide +kernel) rfl (Nat.le_of_ble_eq_true rfl) rfl ?_
  intro p e s m below meth c C hr hnm H locs ls hH hS hl
  obtain ⟨⟨hx, hb, hml, hown, hts⟩, hG, hlk⟩ := id C
  have hin : ∀ w ∈ wsX50, w ∈ wsX5_partsFor := by decide +kernel
  have hl : lv_has ls 4 [(0, .ref (ad (0, 0, 0))), (1, .int (nI f)), (2, .long x)] := hl
  refine lv_lload_n hx hb dX5_partsFor_0 rfl (lv_at hl 2 rfl) ?_
  refine lv_ldc2 (v := 1000) hx hb hown (hts (.constantLong RX5 103 1000) (by decide +kernel)) dX5_partsFor_1 ?_
  refine lv_lmul hx hb dX5_partsFor_4 ?_
  refine lv_aload_n hx hb dX5_partsFor_5 rfl (lv_at hl 0 rfl) ?_
  refine zm_get C hin hH 1 (by decide) (by decide +kernel) rfl dX5_partsFor_6 ?_
  refine lv_iload_n hx hb dX5_partsFor_9 rfl (lv_at hl 1 rfl) ?_
  refine zm_ild C hH 1 (by decide) rfl (j := f) rfl (show f < 6 by omega) dX5_partsFor_10 ?_
  refine lv_i2l (v := Int32.toInt64 (I 1 f)) hx hb dX5_partsFor_11 rfl ?_
  refine lv_ldiv hx hb dX5_partsFor_12 (hpr f hf) ?_
  refine zr_lret C hr ?_ hH hS (Nat.le_of_ble_eq_true rfl) (Nat.le_of_ble_eq_true rfl) dX5_partsFor_13
  exact ⟨rfl, rfl⟩
def rmM_amountOf : Room := { frames := 0, cells := 0, slots := 0, locals := 0 }
set_option maxHeartbeats 4000000 in
set_option maxRecDepth 100000 in
theorem cM_amountOf (l : Launch) (D : va_G) (cA : Nat → ClassId) (A : Nat → Prop) (g : Nat → Nat) (ad : zk_K → Nat) (dy nc nt nl : Nat) (th : Int32) (mo : Int64) (I : zIA) (L : zLA) (f : Nat) (x : Int64) (hf : f < 6) : zM l yX5_amountOf wsX5_amountOf rmM_amountOf D (zt cA) A g [.ref (ad (0, 0, 0)), .int (nI f), .long x] (mw cA ad dy nc nt nl th mo I L) (zQl (fun r w' => amountL I f x = r ∧ w' = mw cA ad dy nc nt nl th mo I L)) := by
  refine zM_of (cc := cX5_amountOf) (maxL := 4) (ret := (some .long)) (own := RX5) (by decide +kernel) rfl (Nat.le_of_ble_eq_true rfl) rfl ?_
  intro p e s m below meth c C hr hnm H locs ls hH hS hl
  obtain ⟨⟨hx, hb, hml, hown, hts⟩, hG, hlk⟩ := id C
  have hin : ∀ w ∈ wsX50, w ∈ wsX5_amountOf := by decide +kernel
  have hl : lv_has ls 4 [(0, .ref (ad (0, 0, 0))), (1, .int (nI f)), (2, .long x)] := hl
  refine lv_lload_n hx hb dX5_amountOf_0 rfl (lv_at hl 2 rfl) ?_
  refine lv_aload_n hx hb dX5_amountOf_1 rfl (lv_at hl 0 rfl) ?_
  refine zm_get C hin hH 1 (by decide) (by decide +kernel) rfl dX5_amountOf_2 ?_
  refine lv_iload_n hx hb dX5_amountOf_5 rfl (lv_at hl 1 rfl) ?_
  refine zm_ild C hH 1 (by decide) rfl (j := f) rfl (show f < 6 by omega) dX5_amountOf_6 ?_
  refine lv_i2l (v := Int32.toInt64 (I 1 f)) hx hb dX5_amountOf_7 rfl ?_
  refine lv_lmul hx hb dX5_amountOf_8 ?_
  refine lv_ldc2 (v := 1000) hx hb hown (hts (.constantLong RX5 103 1000) (by decide +kernel)) dX5_amountOf_9 ?_
  refine lv_ldiv hx hb dX5_amountOf_12 (by decide) ?_
  refine zr_lret C hr ?_ hH hS (Nat.le_of_ble_eq_true rfl) (Nat.le_of_ble_eq_true rfl) dX5_amountOf_13
  exact ⟨rfl, rfl⟩
def rmM_valueOf : Room := { frames := 1, cells := 0, slots := 0, locals := 23 }
set_option maxHeartbeats 4000000 in
set_option maxRecDepth 100000 in
theorem cM_valueOf (l : Launch) (D : va_G) (cA : Nat → ClassId) (A : Nat → Prop) (g : Nat → Nat) (ad : zk_K → Nat) (dy nc nt nl : Nat) (th : Int32) (mo : Int64) (I : zIA) (L : zLA) (cc f : Nat) (hc : cc < 12) (hf : f < 6) : zM l yX5_valueOf wsX5_valueOf rmM_valueOf D (zt cA) A g [.ref (ad (0, 0, 0)), .int (nI cc), .int (nI f)] (mw cA ad dy nc nt nl th mo I L) (zQl (fun r w' => valueL I L cc f = r ∧ w' = mw cA ad dy nc nt nl th mo I L)) := by
  refine zM_of (cc := cX5_valueOf) (maxL := 3) (ret := (some .long)) (own := RX5) (by decide +kernel) rfl (Nat.le_of_ble_eq_true rfl) rfl ?_
  intro p e s m below meth c C hr hnm H locs ls hH hS hl
  obtain ⟨⟨hx, hb, hml, hown, hts⟩, hG, hlk⟩ := id C
  have hin : ∀ w ∈ wsX50, w ∈ wsX5_valueOf := by decide +kernel
  have hl : lv_has ls 3 [(0, .ref (ad (0, 0, 0))), (1, .int (nI cc)), (2, .int (nI f))] := hl
  refine lv_aload_n hx hb dX5_valueOf_0 rfl (lv_at hl 0 rfl) ?_
  refine lv_iload_n hx hb dX5_valueOf_1 rfl (lv_at hl 2 rfl) ?_
  refine lv_aload_n hx hb dX5_valueOf_2 rfl (lv_at hl 0 rfl) ?_
  refine zm_get C hin hH 8 (by decide) (by decide +kernel) rfl dX5_valueOf_3 ?_
  refine lv_bipush (v := 6) hx hb dX5_valueOf_6 (by decide) ?_
  refine lv_iload_n hx hb dX5_valueOf_8 rfl (lv_at hl 1 rfl) ?_
  refine lv_imul hx hb dX5_valueOf_9 ?_
  refine lv_iload_n hx hb dX5_valueOf_10 rfl (lv_at hl 2 rfl) ?_
  refine lv_iadd hx hb dX5_valueOf_11 ?_
  refine zm_lld C hH 8 rfl (j := ((6 * cc) + f)) (zi_add (zi_mul rfl rfl) rfl) (show ((6 * cc) + f) < 72 by omega) dX5_valueOf_12 ?_
  refine zk_cl (zk_rV (As := [.int (nI f), .long (L 8 ((6 * cc) + f))]) (rest := []) (n := 2) (k := (0, 0, 0)) C (cM_amountOf l D cA A g ad dy nc nt nl th mo I L f (L 8 ((6 * cc) + f)) (by omega)) hH hS mL_o rfl rfl gX5_valueOf_X5_amountOf rfl rfl (by decide +kernel) ⟨Nat.le_of_ble_eq_true rfl, Nat.le_of_ble_eq_true rfl⟩ hl rfl (Nat.le_of_ble_eq_true rfl) dX5_valueOf_13 ⟨Nat.le_of_ble_eq_true rfl, Nat.le_of_ble_eq_true rfl⟩) hS (fun r_1 w_2 H locs hP hH_3 hS_4 => ?_)
  obtain ⟨rfl, rfl⟩ := hP
  refine zr_lret C hr ?_ hH_3 hS_4 (Nat.le_of_ble_eq_true rfl) (Nat.le_of_ble_eq_true rfl) dX5_valueOf_16
  exact ⟨rfl, rfl⟩
def rmM_wealthOf : Room := { frames := 2, cells := 0, slots := 0, locals := 45 }
set_option maxHeartbeats 4000000 in
set_option maxRecDepth 100000 in
theorem cM_wealthOf (l : Launch) (D : va_G) (cA : Nat → ClassId) (A : Nat → Prop) (g : Nat → Nat) (ad : zk_K → Nat) (dy nc nt nl : Nat) (th : Int32) (mo : Int64) (I : zIA) (L : zLA) (cc : Nat) (hc : cc < 12) : zM l yX5_wealthOf wsX5_wealthOf rmM_wealthOf D (zt cA) A g [.ref (ad (0, 0, 0)), .int (nI cc)] (mw cA ad dy nc nt nl th mo I L) (zQl (fun r w' => wealthL I L cc 6 = r ∧ w' = mw cA ad dy nc nt nl th mo I L)) := by
  refine zM_of (cc := cX5_wealthOf) (maxL := 5) (ret := (some .long)) (own := RX5) (by decide +kernel) rfl (Nat.le_of_ble_eq_true rfl) rfl ?_
  intro p e s m below meth c C hr hnm H locs ls hH hS hl
  obtain ⟨⟨hx, hb, hml, hown, hts⟩, hG, hlk⟩ := id C
  have hin : ∀ w ∈ wsX50, w ∈ wsX5_wealthOf := by decide +kernel
  have hl : lv_has ls 5 [(0, .ref (ad (0, 0, 0))), (1, .int (nI cc))] := hl
  refine lv_aload_n hx hb dX5_wealthOf_0 rfl (lv_at hl 0 rfl) ?_
  refine zm_get C hin hH 6 (by decide) (by decide +kernel) rfl dX5_wealthOf_1 ?_
  refine lv_iload_n hx hb dX5_wealthOf_4 rfl (lv_at hl 1 rfl) ?_
  refine zm_lld C hH 6 rfl (j := cc) rfl (show cc < 12 by omega) dX5_wealthOf_5 ?_
  refine lv_lstore_n (lv' := [(2, .long (L 6 cc)), (0, .ref (ad (0, 0, 0))), (1, .int (nI cc))]) hx hb dX5_wealthOf_6 rfl hl (by decide) rfl (fun ls hl_1 => ?_)
  refine lv_iconst (v := 0) hx hb dX5_wealthOf_7 (by decide) ?_
  refine lv_istore (lv' := [(4, .int 0), (2, .long (L 6 cc)), (0, .ref (ad (0, 0, 0))), (1, .int (nI cc))]) hx hb dX5_wealthOf_8 hl_1 (by decide) rfl (fun ls hl_2 => ?_)
  refine z_at (n := 6) (P := fun i_3 => zL p l e _ s m _ below meth c 5 D A _ (mw cA ad dy nc nt nl th mo I L) 0 0 10 [(0, .ref (ad (0, 0, 0))), (1, .int (nI cc)), (2, .long (wealthL I L cc i_3)), (4, .int (nI i_3))] []) 0 (Nat.zero_le _) (fun h => h _ _ _ hH hS (lv_sub hl_2 [2, 3, 1, 0] rfl)) ?_ ?_
  · intro H locs ls hH_5 hS_6 hl_7
    refine lv_iload hx hb dX5_wealthOf_10 (lv_at hl_7 3 rfl) ?_
    refine lv_bipush (v := 6) hx hb dX5_wealthOf_12 (by decide) ?_
    refine lv_icmp_ge (tgt := 33) hx hb dX5_wealthOf_14 (by decide) (fun c_8 => ?_) (fun c_8 => absurd (Int32.le_refl _) c_8)
    refine lv_lload_n hx hb dX5_wealthOf_33 rfl (lv_at hl_7 2 rfl) ?_
    refine zr_lret C hr ?_ hH_5 hS_6 (Nat.le_of_ble_eq_true rfl) (Nat.le_of_ble_eq_true rfl) dX5_wealthOf_34
    exact ⟨rfl, rfl⟩
  · intro i_3 hi_3 ih_4 H locs ls hH_9 hS_10 hl_11
    refine lv_iload hx hb dX5_wealthOf_10 (lv_at hl_11 3 rfl) ?_
    refine lv_bipush (v := 6) hx hb dX5_wealthOf_12 (by decide) ?_
    refine lv_icmp_ge (tgt := 33) hx hb dX5_wealthOf_14 (by decide) (fun c_12 => absurd c_12 (nI_ge hi_3 (by decide))) (fun c_12 => ?_)
    refine lv_lload_n hx hb dX5_wealthOf_17 rfl (lv_at hl_11 2 rfl) ?_
    refine lv_aload_n hx hb dX5_wealthOf_18 rfl (lv_at hl_11 0 rfl) ?_
    refine lv_iload_n hx hb dX5_wealthOf_19 rfl (lv_at hl_11 1 rfl) ?_
    refine lv_iload hx hb dX5_wealthOf_20 (lv_at hl_11 3 rfl) ?_
    refine zk_cl (zk_rV (As := [.int (nI cc), .int (nI i_3)]) (rest := [.long (wealthL I L cc i_3)]) (n := 2) (k := (0, 0, 0)) C (cM_valueOf l D cA A g ad dy nc nt nl th mo I L cc i_3 (by omega) (by omega)) hH_9 hS_10 mL_o rfl rfl gX5_wealthOf_X5_valueOf rfl rfl (by decide +kernel) ⟨Nat.le_of_ble_eq_true rfl, Nat.le_of_ble_eq_true rfl⟩ hl_11 rfl (Nat.le_of_ble_eq_true rfl) dX5_wealthOf_22 ⟨Nat.le_of_ble_eq_true rfl, Nat.le_of_ble_eq_true rfl⟩) hS_10 (fun r_13 w_14 H locs hP hH_15 hS_16 => ?_)
    obtain ⟨rfl, rfl⟩ := hP
    refine lv_ladd hx hb dX5_wealthOf_25 ?_
    refine lv_lstore_n (lv' := [(2, .long ((wealthL I L cc i_3) + (valueL I L cc i_3))), (0, .ref (ad (0, 0, 0))), (1, .int (nI cc)), (4, .int (nI i_3))]) hx hb dX5_wealthOf_26 rfl hl_11 (by decide) rfl (fun ls hl_17 => ?_)
    refine lv_iinc (v := nI (i_3 + 1)) (lv' := [(4, .int (nI (i_3 + 1))), (2, .long ((wealthL I L cc i_3) + (valueL I L cc i_3))), (0, .ref (ad (0, 0, 0))), (1, .int (nI cc))]) hx hb dX5_wealthOf_27 hl_17 (k := 3) rfl (nI_1 i_3) (by decide) rfl (fun ls hl_18 => ?_)
    refine lv_goto (tgt := 10) hx hb dX5_wealthOf_30 (by decide) ?_
    exact ih_4 _ _ _ hH_15 hS_16 (lv_sub hl_18 [2, 3, 1, 0] rfl)
