/-! ===== the law's wrappers ===== -/
theorem hp3 {Q : ExceptionTableEntry → Prop} {a b : ExceptionTableEntry} (ha : Q a) (hb : Q b) : ∀ z ∈ [a, b], Q z := by
  intro z hz
  rcases List.mem_cons.mp hz with rfl | hz
  · exact ha
  · cases List.mem_singleton.mp hz
    exact hb
theorem zgI : xI ∈ zg_X := List.mem_cons_self
theorem zgA : xA ∈ zg_X := List.mem_cons_of_mem _ List.mem_cons_self
theorem zgS : xS ∈ zg_X := List.mem_cons_of_mem _ (List.mem_cons_of_mem _ List.mem_cons_self)
theorem zgAI : (xA, xI) ∈ zg_Nc := List.mem_cons_self
theorem zgSI : (xS, xI) ∈ zg_Nc := List.mem_cons_of_mem _ List.mem_cons_self
theorem zgSA : (xS, xA) ∈ zg_Nc := List.mem_cons_of_mem _ (List.mem_cons_of_mem _ List.mem_cons_self)
def outW (cA : Nat → ClassId) (o : Nat) (h : Nat → Int64) : zk_W := (fun _ => o, fun k => k = (0, 0, 0), fun _ => .inl (cA 1, 1, .inr (.inl h)))
theorem out_up {w : zk_W} {cA : Nat → ClassId} {o : Nat} {h h' : Nat → Int64} : zk_up (zk_sum 50 w (outW cA o h)) (50, 0, 0) (.inl (cA 1, 1, .inr (.inl h'))) (zk_sum 50 w (outW cA o h')) := by
  refine ⟨rfl, rfl, rfl, fun k hk hl => ?_⟩
  by_cases z : k.1 < 50
  · show (if k.1 < 50 then w.2.2 k else _) = (if k.1 < 50 then w.2.2 k else _)
    rw [if_pos z, if_pos z]
  · exfalso
    have hl2 : (if k.1 < 50 then w.2.1 k else (k.1 - 50, k.2) = (0, 0, 0)) := hl
    rw [if_neg z] at hl2
    have e1 : k.1 - 50 = 0 := congrArg Prod.fst hl2
    have e2 : k.2 = (0, 0) := congrArg Prod.snd hl2
    exact hk (Prod.ext (show k.1 = 50 by omega) e2)
def rmL_price : Room := { frames := 9, cells := 2, slots := 12, locals := 163 }
set_option maxHeartbeats 1000000 in
set_option maxRecDepth 100000 in
theorem cW_price (l : Launch) (D : va_G) (cA : Nat → ClassId) (g : Nat → Nat) (w : zk_W) (hk : w.2.1 (0, 0, 0)) {fs : List Value} (he : w.2.2 (0, 0, 0) = .inr (5, fs)) (hn : ∀ k, w.2.1 k → k.1 < 50) (o : Nat) (h : Nat → Int64) (P : Int32 → zk_W → Prop) (PX : String → zk_W → Prop) (a1 a2 : Int32) (hM : ∀ A, zX l yX4_price wsX4_price rmC_price D (zt cA) A g [.ref (w.1 (0, 0, 0)), .int a1, .int a2] w (zQi P) PX) (hE : ∀ E w', PX E w' → E = xI ∨ E = xA) (A : Nat → Prop) : zM l yL_price wsL_price rmL_price D (zt cA) A g [.ref (w.1 (0, 0, 0)), .int a1, .int a2, .ref o] (zk_sum 50 w (outW cA o h)) (zQi (fun r W' => (∃ x w', P x w' ∧ 0 = r ∧ zk_sum 50 w' (outW cA o (vp_updL h 0 (Int32.toInt64 x))) = W') ∨ (∃ w', PX xI w' ∧ 1 = r ∧ zk_sum 50 w' (outW cA o h) = W') ∨ (∃ w', PX xA w' ∧ 2 = r ∧ zk_sum 50 w' (outW cA o h) = W'))) := by
  refine zM_ofH (cc := cL_price) (maxL := 5) (ret := some .int) (own := RL) (hh := [(0, 10, 13, 13), (0, 10, 17, 15)]) (by decide +kernel) rfl (Nat.le_of_ble_eq_true rfl) rfl ?_
  intro p e s m below meth c C hr htab H locs ls hH hS hl
  obtain ⟨⟨hx, hb, hml, hown, hts⟩, hG, hlk⟩ := id C
  have hl : lv_has ls 5 [(0, .ref (w.1 (0, 0, 0))), (1, .int a1), (2, .int a2), (3, .ref o)] := hl
  refine lv_aload_n hx hb dL_price_0 rfl (lv_at hl 3 rfl) ?_
  refine lv_iconst (v := 0) hx hb dL_price_1 (by decide) ?_
  refine lv_aload_n hx hb dL_price_2 rfl (lv_at hl 0 rfl) ?_
  refine lv_iload_n hx hb dL_price_3 rfl (lv_at hl 1 rfl) ?_
  refine lv_iload_n hx hb dL_price_4 rfl (lv_at hl 2 rfl) ?_
  have hM2 : zX l yX4_price wsX4_price rmC_price D (zt cA) A g (.ref ((zk_sum 50 w (outW cA o h)).1 (0, 0, 0)) :: [.int a1, .int a2]) (zk_sum 50 w (outW cA o h)) _ _ := zX_sumL (n := 50) (w2 := outW cA o h) hM hn A
  refine zx_c (zx_rV (w := zk_sum 50 w (outW cA o h)) (As := [.int a1, .int a2]) (rest := [.int 0, .ref o]) (n := 2) (k := (0, 0, 0)) C hM2 hH hS hk he rfl gL_price_X4_price rfl rfl (by decide +kernel) ⟨Nat.le_of_ble_eq_true rfl, Nat.le_of_ble_eq_true rfl⟩ hl rfl (Nat.le_of_ble_eq_true rfl) dL_price_5 ⟨Nat.le_of_ble_eq_true rfl, Nat.le_of_ble_eq_true rfl⟩) hS (fun E ce q W' H1 locs1 hP hH1 hS1 hce hcv hcl => ?_) (fun v_ W' H locs hP hH_1 hS_1 => ?_)
  · obtain ⟨w', hPX, rfl⟩ := hP
    rcases hE E w' hPX with rfl | rfl
    · refine zx_catch C htab [] ⟨0, 10, 13, 13⟩ [⟨0, 10, 17, 15⟩] rfl zgI (by decide +kernel) (fun z hz => by cases hz) rfl (by decide) hce hcv hcl ?_
      refine lv_astore (lv' := [(4, .ref q), (0, .ref (w.1 (0, 0, 0))), (1, .int a1), (2, .int a2), (3, .ref o)]) hx hb dL_price_13 hl (by decide) rfl (fun ls hl2 => ?_)
      refine lv_iconst (v := 1) hx hb dL_price_15 (by decide) ?_
      exact zr_iret C hr (Or.inr (Or.inl ⟨w', hPX, rfl, rfl⟩)) hH1 hS1 (Nat.le_of_ble_eq_true rfl) (Nat.le_of_ble_eq_true rfl) dL_price_16
    · refine zx_catch C htab [⟨0, 10, 13, 13⟩] ⟨0, 10, 17, 15⟩ [] rfl zgA (by decide +kernel) (fun z hz => by cases List.mem_singleton.mp hz; exact ⟨by decide, xI, by decide +kernel, zgAI⟩) rfl (by decide) hce hcv hcl ?_
      refine lv_astore (lv' := [(4, .ref q), (0, .ref (w.1 (0, 0, 0))), (1, .int a1), (2, .int a2), (3, .ref o)]) hx hb dL_price_17 hl (by decide) rfl (fun ls hl2 => ?_)
      refine lv_iconst (v := 2) hx hb dL_price_19 (by decide) ?_
      exact zr_iret C hr (Or.inr (Or.inr ⟨w', hPX, rfl, rfl⟩)) hH1 hS1 (Nat.le_of_ble_eq_true rfl) (Nat.le_of_ble_eq_true rfl) dL_price_20
  · obtain ⟨w', ⟨r_, rfl, hPv⟩, rfl⟩ := hP
    refine W.eq (g2 := F0 m 8 ls [.int r_, .int 0, .ref o]) rfl ?_
    refine lv_i2l (v := Int32.toInt64 r_) hx hb dL_price_8 rfl ?_
    refine zr_last C hH_1 hS_1 (50, 0, 0) (show (zk_sum 50 w' (outW cA o h)).2.1 (50, 0, 0) from rfl) (f := h) rfl 1 rfl (j := 0) rfl (by decide) (by decide) dL_price_9 (zk_sum 50 w' (outW cA o (vp_updL h 0 (Int32.toInt64 r_)))) out_up (fun H locs hH_2 hS_2 => ?_)
    refine lv_goto (tgt := 21) hx hb dL_price_10 (by decide) ?_
    refine lv_iconst (v := 0) hx hb dL_price_21 (by decide) ?_
    exact zr_iret C hr (Or.inl ⟨r_, w', hPv, rfl, rfl⟩) hH_2 hS_2 (Nat.le_of_ble_eq_true rfl) (Nat.le_of_ble_eq_true rfl) dL_price_22
def rmL_client : Room := { frames := 8, cells := 17, slots := 1215, locals := 218 }
set_option maxHeartbeats 1000000 in
set_option maxRecDepth 100000 in
theorem cW_client (l : Launch) (D : va_G) (cA : Nat → ClassId) (g : Nat → Nat) (w : zk_W) (hk : w.2.1 (0, 0, 0)) {fs : List Value} (he : w.2.2 (0, 0, 0) = .inr (5, fs)) (hn : ∀ k, w.2.1 k → k.1 < 50) (o : Nat) (h : Nat → Int64) (P : Int32 → zk_W → Prop) (PX : String → zk_W → Prop) (hM : ∀ A, zX l yX4_client wsX4_client rmC_client D (zt cA) A g [.ref (w.1 (0, 0, 0))] w (zQi P) PX) (hE : ∀ E w', PX E w' → E = xS) (A : Nat → Prop) : zM l yL_client wsL_client rmL_client D (zt cA) A g [.ref (w.1 (0, 0, 0)), .ref o] (zk_sum 50 w (outW cA o h)) (zQi (fun r W' => (∃ x w', P x w' ∧ 0 = r ∧ zk_sum 50 w' (outW cA o (vp_updL h 0 (Int32.toInt64 x))) = W') ∨ (∃ w', PX xS w' ∧ 1 = r ∧ zk_sum 50 w' (outW cA o h) = W'))) := by
  refine zM_ofH (cc := cL_client) (maxL := 3) (ret := some .int) (own := RL) (hh := [(0, 8, 11, 21)]) (by decide +kernel) rfl (Nat.le_of_ble_eq_true rfl) rfl ?_
  intro p e s m below meth c C hr htab H locs ls hH hS hl
  obtain ⟨⟨hx, hb, hml, hown, hts⟩, hG, hlk⟩ := id C
  have hl : lv_has ls 3 [(0, .ref (w.1 (0, 0, 0))), (1, .ref o)] := hl
  refine lv_aload_n hx hb dL_client_0 rfl (lv_at hl 1 rfl) ?_
  refine lv_iconst (v := 0) hx hb dL_client_1 (by decide) ?_
  refine lv_aload_n hx hb dL_client_2 rfl (lv_at hl 0 rfl) ?_
  have hM2 : zX l yX4_client wsX4_client rmC_client D (zt cA) A g (.ref ((zk_sum 50 w (outW cA o h)).1 (0, 0, 0)) :: []) (zk_sum 50 w (outW cA o h)) _ _ := zX_sumL (n := 50) (w2 := outW cA o h) hM hn A
  refine zx_c (zx_rV (w := zk_sum 50 w (outW cA o h)) (As := []) (rest := [.int 0, .ref o]) (n := 0) (k := (0, 0, 0)) C hM2 hH hS hk he rfl gL_client_X4_client rfl rfl (by decide +kernel) ⟨Nat.le_of_ble_eq_true rfl, Nat.le_of_ble_eq_true rfl⟩ hl rfl (Nat.le_of_ble_eq_true rfl) dL_client_3 ⟨Nat.le_of_ble_eq_true rfl, Nat.le_of_ble_eq_true rfl⟩) hS (fun E ce q W' H1 locs1 hP hH1 hS1 hce hcv hcl => ?_) (fun v_ W' H locs hP hH_1 hS_1 => ?_)
  · obtain ⟨w', hPX, rfl⟩ := hP
    have hEq := hE E w' hPX
    subst hEq
    refine zx_catch C htab [] ⟨0, 8, 11, 21⟩ [] rfl zgS (by decide +kernel) (fun z hz => by cases hz) rfl (by decide) hce hcv hcl ?_
    refine lv_astore_n (lv' := [(2, .ref q), (0, .ref (w.1 (0, 0, 0))), (1, .ref o)]) hx hb dL_client_11 rfl hl (by decide) rfl (fun ls hl2 => ?_)
    refine lv_iconst (v := 1) hx hb dL_client_12 (by decide) ?_
    exact zr_iret C hr (Or.inr ⟨w', hPX, rfl, rfl⟩) hH1 hS1 (Nat.le_of_ble_eq_true rfl) (Nat.le_of_ble_eq_true rfl) dL_client_13
  · obtain ⟨w', ⟨r_, rfl, hPv⟩, rfl⟩ := hP
    refine W.eq (g2 := F0 m 6 ls [.int r_, .int 0, .ref o]) rfl ?_
    refine lv_i2l (v := Int32.toInt64 r_) hx hb dL_client_6 rfl ?_
    refine zr_last C hH_1 hS_1 (50, 0, 0) (show (zk_sum 50 w' (outW cA o h)).2.1 (50, 0, 0) from rfl) (f := h) rfl 1 rfl (j := 0) rfl (by decide) (by decide) dL_client_7 (zk_sum 50 w' (outW cA o (vp_updL h 0 (Int32.toInt64 r_)))) out_up (fun H locs hH_2 hS_2 => ?_)
    refine lv_goto (tgt := 14) hx hb dL_client_8 (by decide) ?_
    refine lv_iconst (v := 0) hx hb dL_client_14 (by decide) ?_
    exact zr_iret C hr (Or.inl ⟨r_, w', hPv, rfl, rfl⟩) hH_2 hS_2 (Nat.le_of_ble_eq_true rfl) (Nat.le_of_ble_eq_true rfl) dL_client_15
def rmL_pay : Room := { frames := 9, cells := 2, slots := 12, locals := 162 }
set_option maxHeartbeats 1000000 in
set_option maxRecDepth 100000 in
theorem cW_pay (l : Launch) (D : va_G) (cA : Nat → ClassId) (g : Nat → Nat) (w : zk_W) (hk : w.2.1 (0, 0, 0)) {fs : List Value} (he : w.2.2 (0, 0, 0) = .inr (5, fs)) (hn : ∀ k, w.2.1 k → k.1 < 50) (o : Nat) (h : Nat → Int64) (P : Int64 → zk_W → Prop) (PX : String → zk_W → Prop) (a1 a2 : Int32) (hM : ∀ A, zX l yX4_pay wsX4_pay rmC_pay D (zt cA) A g [.ref (w.1 (0, 0, 0)), .int a1, .int a2] w (zQl P) PX) (hE : ∀ E w', PX E w' → E = xI ∨ E = xA ∨ E = xS) (A : Nat → Prop) : zM l yL_pay wsL_pay rmL_pay D (zt cA) A g [.ref (w.1 (0, 0, 0)), .int a1, .int a2, .ref o] (zk_sum 50 w (outW cA o h)) (zQi (fun r W' => (∃ x w', P x w' ∧ 0 = r ∧ zk_sum 50 w' (outW cA o (vp_updL h 0 (x))) = W') ∨ (∃ w', PX xI w' ∧ 1 = r ∧ zk_sum 50 w' (outW cA o h) = W') ∨ (∃ w', PX xA w' ∧ 2 = r ∧ zk_sum 50 w' (outW cA o h) = W') ∨ (∃ w', PX xS w' ∧ 3 = r ∧ zk_sum 50 w' (outW cA o h) = W'))) := by
  refine zM_ofH (cc := cL_pay) (maxL := 5) (ret := some .int) (own := RL) (hh := [(0, 9, 12, 13), (0, 9, 16, 15), (0, 9, 20, 21)]) (by decide +kernel) rfl (Nat.le_of_ble_eq_true rfl) rfl ?_
  intro p e s m below meth c C hr htab H locs ls hH hS hl
  obtain ⟨⟨hx, hb, hml, hown, hts⟩, hG, hlk⟩ := id C
  have hl : lv_has ls 5 [(0, .ref (w.1 (0, 0, 0))), (1, .int a1), (2, .int a2), (3, .ref o)] := hl
  refine lv_aload_n hx hb dL_pay_0 rfl (lv_at hl 3 rfl) ?_
  refine lv_iconst (v := 0) hx hb dL_pay_1 (by decide) ?_
  refine lv_aload_n hx hb dL_pay_2 rfl (lv_at hl 0 rfl) ?_
  refine lv_iload_n hx hb dL_pay_3 rfl (lv_at hl 1 rfl) ?_
  refine lv_iload_n hx hb dL_pay_4 rfl (lv_at hl 2 rfl) ?_
  have hM2 : zX l yX4_pay wsX4_pay rmC_pay D (zt cA) A g (.ref ((zk_sum 50 w (outW cA o h)).1 (0, 0, 0)) :: [.int a1, .int a2]) (zk_sum 50 w (outW cA o h)) _ _ := zX_sumL (n := 50) (w2 := outW cA o h) hM hn A
  refine zx_c (zx_rV (w := zk_sum 50 w (outW cA o h)) (As := [.int a1, .int a2]) (rest := [.int 0, .ref o]) (n := 2) (k := (0, 0, 0)) C hM2 hH hS hk he rfl gL_pay_X4_pay rfl rfl (by decide +kernel) ⟨Nat.le_of_ble_eq_true rfl, Nat.le_of_ble_eq_true rfl⟩ hl rfl (Nat.le_of_ble_eq_true rfl) dL_pay_5 ⟨Nat.le_of_ble_eq_true rfl, Nat.le_of_ble_eq_true rfl⟩) hS (fun E ce q W' H1 locs1 hP hH1 hS1 hce hcv hcl => ?_) (fun v_ W' H locs hP hH_1 hS_1 => ?_)
  · obtain ⟨w', hPX, rfl⟩ := hP
    rcases hE E w' hPX with rfl | rfl | rfl
    · refine zx_catch C htab [] ⟨0, 9, 12, 13⟩ [⟨0, 9, 16, 15⟩, ⟨0, 9, 20, 21⟩] rfl zgI (by decide +kernel) (fun z hz => by cases hz) rfl (by decide) hce hcv hcl ?_
      refine lv_astore (lv' := [(4, .ref q), (0, .ref (w.1 (0, 0, 0))), (1, .int a1), (2, .int a2), (3, .ref o)]) hx hb dL_pay_12 hl (by decide) rfl (fun ls hl2 => ?_)
      refine lv_iconst (v := 1) hx hb dL_pay_14 (by decide) ?_
      exact zr_iret C hr (Or.inr (Or.inl ⟨w', hPX, rfl, rfl⟩)) hH1 hS1 (Nat.le_of_ble_eq_true rfl) (Nat.le_of_ble_eq_true rfl) dL_pay_15
    · refine zx_catch C htab [⟨0, 9, 12, 13⟩] ⟨0, 9, 16, 15⟩ [⟨0, 9, 20, 21⟩] rfl zgA (by decide +kernel) (fun z hz => by cases List.mem_singleton.mp hz; exact ⟨by decide, xI, by decide +kernel, zgAI⟩) rfl (by decide) hce hcv hcl ?_
      refine lv_astore (lv' := [(4, .ref q), (0, .ref (w.1 (0, 0, 0))), (1, .int a1), (2, .int a2), (3, .ref o)]) hx hb dL_pay_16 hl (by decide) rfl (fun ls hl2 => ?_)
      refine lv_iconst (v := 2) hx hb dL_pay_18 (by decide) ?_
      exact zr_iret C hr (Or.inr (Or.inr (Or.inl ⟨w', hPX, rfl, rfl⟩))) hH1 hS1 (Nat.le_of_ble_eq_true rfl) (Nat.le_of_ble_eq_true rfl) dL_pay_19
    · refine zx_catch C htab [⟨0, 9, 12, 13⟩, ⟨0, 9, 16, 15⟩] ⟨0, 9, 20, 21⟩ [] rfl zgS (by decide +kernel) (hp3 ⟨by decide, xI, by decide +kernel, zgSI⟩ ⟨by decide, xA, by decide +kernel, zgSA⟩) rfl (by decide) hce hcv hcl ?_
      refine lv_astore (lv' := [(4, .ref q), (0, .ref (w.1 (0, 0, 0))), (1, .int a1), (2, .int a2), (3, .ref o)]) hx hb dL_pay_20 hl (by decide) rfl (fun ls hl2 => ?_)
      refine lv_iconst (v := 3) hx hb dL_pay_22 (by decide) ?_
      exact zr_iret C hr (Or.inr (Or.inr (Or.inr ⟨w', hPX, rfl, rfl⟩))) hH1 hS1 (Nat.le_of_ble_eq_true rfl) (Nat.le_of_ble_eq_true rfl) dL_pay_23
  · obtain ⟨w', ⟨r_, rfl, hPv⟩, rfl⟩ := hP
    refine W.eq (g2 := F0 m 8 ls [.long r_, .int 0, .ref o]) rfl ?_
    refine zr_last C hH_1 hS_1 (50, 0, 0) (show (zk_sum 50 w' (outW cA o h)).2.1 (50, 0, 0) from rfl) (f := h) rfl 1 rfl (j := 0) rfl (by decide) (by decide) dL_pay_8 (zk_sum 50 w' (outW cA o (vp_updL h 0 r_))) out_up (fun H locs hH_2 hS_2 => ?_)
    refine lv_goto (tgt := 24) hx hb dL_pay_9 (by decide) ?_
    refine lv_iconst (v := 0) hx hb dL_pay_24 (by decide) ?_
    exact zr_iret C hr (Or.inl ⟨r_, w', hPv, rfl, rfl⟩) hH_2 hS_2 (Nat.le_of_ble_eq_true rfl) (Nat.le_of_ble_eq_true rfl) dL_pay_25
def rmL_goal : Room := { frames := 10, cells := 3, slots := 18, locals := 187 }
set_option maxHeartbeats 1000000 in
set_option maxRecDepth 100000 in
theorem cW_goal (l : Launch) (D : va_G) (cA : Nat → ClassId) (g : Nat → Nat) (w : zk_W) (hk : w.2.1 (0, 0, 0)) {fs : List Value} (he : w.2.2 (0, 0, 0) = .inr (5, fs)) (hn : ∀ k, w.2.1 k → k.1 < 50) (o : Nat) (h : Nat → Int64) (P : Int32 → zk_W → Prop) (PX : String → zk_W → Prop) (a1 a2 a3 : Int32) (hM : ∀ A, zX l yX4_goal wsX4_goal rmC_goal D (zt cA) A g [.ref (w.1 (0, 0, 0)), .int a1, .int a2, .int a3] w (zQi P) PX) (hE : ∀ E w', PX E w' → E = xI ∨ E = xA ∨ E = xS) (A : Nat → Prop) : zM l yL_goal wsL_goal rmL_goal D (zt cA) A g [.ref (w.1 (0, 0, 0)), .int a1, .int a2, .int a3, .ref o] (zk_sum 50 w (outW cA o h)) (zQi (fun r W' => (∃ x w', P x w' ∧ 0 = r ∧ zk_sum 50 w' (outW cA o (vp_updL h 0 (Int32.toInt64 x))) = W') ∨ (∃ w', PX xI w' ∧ 1 = r ∧ zk_sum 50 w' (outW cA o h) = W') ∨ (∃ w', PX xA w' ∧ 2 = r ∧ zk_sum 50 w' (outW cA o h) = W') ∨ (∃ w', PX xS w' ∧ 3 = r ∧ zk_sum 50 w' (outW cA o h) = W'))) := by
  refine zM_ofH (cc := cL_goal) (maxL := 6) (ret := some .int) (own := RL) (hh := [(0, 12, 15, 13), (0, 12, 19, 15), (0, 12, 23, 21)]) (by decide +kernel) rfl (Nat.le_of_ble_eq_true rfl) rfl ?_
  intro p e s m below meth c C hr htab H locs ls hH hS hl
  obtain ⟨⟨hx, hb, hml, hown, hts⟩, hG, hlk⟩ := id C
  have hl : lv_has ls 6 [(0, .ref (w.1 (0, 0, 0))), (1, .int a1), (2, .int a2), (3, .int a3), (4, .ref o)] := hl
  refine lv_aload hx hb dL_goal_0 (lv_at hl 4 rfl) ?_
  refine lv_iconst (v := 0) hx hb dL_goal_2 (by decide) ?_
  refine lv_aload_n hx hb dL_goal_3 rfl (lv_at hl 0 rfl) ?_
  refine lv_iload_n hx hb dL_goal_4 rfl (lv_at hl 1 rfl) ?_
  refine lv_iload_n hx hb dL_goal_5 rfl (lv_at hl 2 rfl) ?_
  refine lv_iload_n hx hb dL_goal_6 rfl (lv_at hl 3 rfl) ?_
  have hM2 : zX l yX4_goal wsX4_goal rmC_goal D (zt cA) A g (.ref ((zk_sum 50 w (outW cA o h)).1 (0, 0, 0)) :: [.int a1, .int a2, .int a3]) (zk_sum 50 w (outW cA o h)) _ _ := zX_sumL (n := 50) (w2 := outW cA o h) hM hn A
  refine zx_c (zx_rV (w := zk_sum 50 w (outW cA o h)) (As := [.int a1, .int a2, .int a3]) (rest := [.int 0, .ref o]) (n := 3) (k := (0, 0, 0)) C hM2 hH hS hk he rfl gL_goal_X4_goal rfl rfl (by decide +kernel) ⟨Nat.le_of_ble_eq_true rfl, Nat.le_of_ble_eq_true rfl⟩ hl rfl (Nat.le_of_ble_eq_true rfl) dL_goal_7 ⟨Nat.le_of_ble_eq_true rfl, Nat.le_of_ble_eq_true rfl⟩) hS (fun E ce q W' H1 locs1 hP hH1 hS1 hce hcv hcl => ?_) (fun v_ W' H locs hP hH_1 hS_1 => ?_)
  · obtain ⟨w', hPX, rfl⟩ := hP
    rcases hE E w' hPX with rfl | rfl | rfl
    · refine zx_catch C htab [] ⟨0, 12, 15, 13⟩ [⟨0, 12, 19, 15⟩, ⟨0, 12, 23, 21⟩] rfl zgI (by decide +kernel) (fun z hz => by cases hz) rfl (by decide) hce hcv hcl ?_
      refine lv_astore (lv' := [(5, .ref q), (0, .ref (w.1 (0, 0, 0))), (1, .int a1), (2, .int a2), (3, .int a3), (4, .ref o)]) hx hb dL_goal_15 hl (by decide) rfl (fun ls hl2 => ?_)
      refine lv_iconst (v := 1) hx hb dL_goal_17 (by decide) ?_
      exact zr_iret C hr (Or.inr (Or.inl ⟨w', hPX, rfl, rfl⟩)) hH1 hS1 (Nat.le_of_ble_eq_true rfl) (Nat.le_of_ble_eq_true rfl) dL_goal_18
    · refine zx_catch C htab [⟨0, 12, 15, 13⟩] ⟨0, 12, 19, 15⟩ [⟨0, 12, 23, 21⟩] rfl zgA (by decide +kernel) (fun z hz => by cases List.mem_singleton.mp hz; exact ⟨by decide, xI, by decide +kernel, zgAI⟩) rfl (by decide) hce hcv hcl ?_
      refine lv_astore (lv' := [(5, .ref q), (0, .ref (w.1 (0, 0, 0))), (1, .int a1), (2, .int a2), (3, .int a3), (4, .ref o)]) hx hb dL_goal_19 hl (by decide) rfl (fun ls hl2 => ?_)
      refine lv_iconst (v := 2) hx hb dL_goal_21 (by decide) ?_
      exact zr_iret C hr (Or.inr (Or.inr (Or.inl ⟨w', hPX, rfl, rfl⟩))) hH1 hS1 (Nat.le_of_ble_eq_true rfl) (Nat.le_of_ble_eq_true rfl) dL_goal_22
    · refine zx_catch C htab [⟨0, 12, 15, 13⟩, ⟨0, 12, 19, 15⟩] ⟨0, 12, 23, 21⟩ [] rfl zgS (by decide +kernel) (hp3 ⟨by decide, xI, by decide +kernel, zgSI⟩ ⟨by decide, xA, by decide +kernel, zgSA⟩) rfl (by decide) hce hcv hcl ?_
      refine lv_astore (lv' := [(5, .ref q), (0, .ref (w.1 (0, 0, 0))), (1, .int a1), (2, .int a2), (3, .int a3), (4, .ref o)]) hx hb dL_goal_23 hl (by decide) rfl (fun ls hl2 => ?_)
      refine lv_iconst (v := 3) hx hb dL_goal_25 (by decide) ?_
      exact zr_iret C hr (Or.inr (Or.inr (Or.inr ⟨w', hPX, rfl, rfl⟩))) hH1 hS1 (Nat.le_of_ble_eq_true rfl) (Nat.le_of_ble_eq_true rfl) dL_goal_26
  · obtain ⟨w', ⟨r_, rfl, hPv⟩, rfl⟩ := hP
    refine W.eq (g2 := F0 m 10 ls [.int r_, .int 0, .ref o]) rfl ?_
    refine lv_i2l (v := Int32.toInt64 r_) hx hb dL_goal_10 rfl ?_
    refine zr_last C hH_1 hS_1 (50, 0, 0) (show (zk_sum 50 w' (outW cA o h)).2.1 (50, 0, 0) from rfl) (f := h) rfl 1 rfl (j := 0) rfl (by decide) (by decide) dL_goal_11 (zk_sum 50 w' (outW cA o (vp_updL h 0 (Int32.toInt64 r_)))) out_up (fun H locs hH_2 hS_2 => ?_)
    refine lv_goto (tgt := 27) hx hb dL_goal_12 (by decide) ?_
    refine lv_iconst (v := 0) hx hb dL_goal_27 (by decide) ?_
    exact zr_iret C hr (Or.inl ⟨r_, w', hPv, rfl, rfl⟩) hH_2 hS_2 (Nat.le_of_ble_eq_true rfl) (Nat.le_of_ble_eq_true rfl) dL_goal_28
def rmL_buy : Room := { frames := 10, cells := 4, slots := 184, locals := 247 }
set_option maxHeartbeats 1000000 in
set_option maxRecDepth 100000 in
theorem cW_buy (l : Launch) (D : va_G) (cA : Nat → ClassId) (g : Nat → Nat) (w : zk_W) (hk : w.2.1 (0, 0, 0)) {fs : List Value} (he : w.2.2 (0, 0, 0) = .inr (5, fs)) (hn : ∀ k, w.2.1 k → k.1 < 50) (o : Nat) (h : Nat → Int64) (P : Int32 → zk_W → Prop) (PX : String → zk_W → Prop) (a1 a2 a3 : Int32) (hM : ∀ A, zX l yX4_buy wsX4_buy rmC_buy D (zt cA) A g [.ref (w.1 (0, 0, 0)), .int a1, .int a2, .int a3] w (zQi P) PX) (hE : ∀ E w', PX E w' → E = xI ∨ E = xA ∨ E = xS) (A : Nat → Prop) : zM l yL_buy wsL_buy rmL_buy D (zt cA) A g [.ref (w.1 (0, 0, 0)), .int a1, .int a2, .int a3, .ref o] (zk_sum 50 w (outW cA o h)) (zQi (fun r W' => (∃ x w', P x w' ∧ 0 = r ∧ zk_sum 50 w' (outW cA o (vp_updL h 0 (Int32.toInt64 x))) = W') ∨ (∃ w', PX xI w' ∧ 1 = r ∧ zk_sum 50 w' (outW cA o h) = W') ∨ (∃ w', PX xA w' ∧ 2 = r ∧ zk_sum 50 w' (outW cA o h) = W') ∨ (∃ w', PX xS w' ∧ 3 = r ∧ zk_sum 50 w' (outW cA o h) = W'))) := by
  refine zM_ofH (cc := cL_buy) (maxL := 6) (ret := some .int) (own := RL) (hh := [(0, 12, 15, 13), (0, 12, 19, 15), (0, 12, 23, 21)]) (by decide +kernel) rfl (Nat.le_of_ble_eq_true rfl) rfl ?_
  intro p e s m below meth c C hr htab H locs ls hH hS hl
  obtain ⟨⟨hx, hb, hml, hown, hts⟩, hG, hlk⟩ := id C
  have hl : lv_has ls 6 [(0, .ref (w.1 (0, 0, 0))), (1, .int a1), (2, .int a2), (3, .int a3), (4, .ref o)] := hl
  refine lv_aload hx hb dL_buy_0 (lv_at hl 4 rfl) ?_
  refine lv_iconst (v := 0) hx hb dL_buy_2 (by decide) ?_
  refine lv_aload_n hx hb dL_buy_3 rfl (lv_at hl 0 rfl) ?_
  refine lv_iload_n hx hb dL_buy_4 rfl (lv_at hl 1 rfl) ?_
  refine lv_iload_n hx hb dL_buy_5 rfl (lv_at hl 2 rfl) ?_
  refine lv_iload_n hx hb dL_buy_6 rfl (lv_at hl 3 rfl) ?_
  have hM2 : zX l yX4_buy wsX4_buy rmC_buy D (zt cA) A g (.ref ((zk_sum 50 w (outW cA o h)).1 (0, 0, 0)) :: [.int a1, .int a2, .int a3]) (zk_sum 50 w (outW cA o h)) _ _ := zX_sumL (n := 50) (w2 := outW cA o h) hM hn A
  refine zx_c (zx_rV (w := zk_sum 50 w (outW cA o h)) (As := [.int a1, .int a2, .int a3]) (rest := [.int 0, .ref o]) (n := 3) (k := (0, 0, 0)) C hM2 hH hS hk he rfl gL_buy_X4_buy rfl rfl (by decide +kernel) ⟨Nat.le_of_ble_eq_true rfl, Nat.le_of_ble_eq_true rfl⟩ hl rfl (Nat.le_of_ble_eq_true rfl) dL_buy_7 ⟨Nat.le_of_ble_eq_true rfl, Nat.le_of_ble_eq_true rfl⟩) hS (fun E ce q W' H1 locs1 hP hH1 hS1 hce hcv hcl => ?_) (fun v_ W' H locs hP hH_1 hS_1 => ?_)
  · obtain ⟨w', hPX, rfl⟩ := hP
    rcases hE E w' hPX with rfl | rfl | rfl
    · refine zx_catch C htab [] ⟨0, 12, 15, 13⟩ [⟨0, 12, 19, 15⟩, ⟨0, 12, 23, 21⟩] rfl zgI (by decide +kernel) (fun z hz => by cases hz) rfl (by decide) hce hcv hcl ?_
      refine lv_astore (lv' := [(5, .ref q), (0, .ref (w.1 (0, 0, 0))), (1, .int a1), (2, .int a2), (3, .int a3), (4, .ref o)]) hx hb dL_buy_15 hl (by decide) rfl (fun ls hl2 => ?_)
      refine lv_iconst (v := 1) hx hb dL_buy_17 (by decide) ?_
      exact zr_iret C hr (Or.inr (Or.inl ⟨w', hPX, rfl, rfl⟩)) hH1 hS1 (Nat.le_of_ble_eq_true rfl) (Nat.le_of_ble_eq_true rfl) dL_buy_18
    · refine zx_catch C htab [⟨0, 12, 15, 13⟩] ⟨0, 12, 19, 15⟩ [⟨0, 12, 23, 21⟩] rfl zgA (by decide +kernel) (fun z hz => by cases List.mem_singleton.mp hz; exact ⟨by decide, xI, by decide +kernel, zgAI⟩) rfl (by decide) hce hcv hcl ?_
      refine lv_astore (lv' := [(5, .ref q), (0, .ref (w.1 (0, 0, 0))), (1, .int a1), (2, .int a2), (3, .int a3), (4, .ref o)]) hx hb dL_buy_19 hl (by decide) rfl (fun ls hl2 => ?_)
      refine lv_iconst (v := 2) hx hb dL_buy_21 (by decide) ?_
      exact zr_iret C hr (Or.inr (Or.inr (Or.inl ⟨w', hPX, rfl, rfl⟩))) hH1 hS1 (Nat.le_of_ble_eq_true rfl) (Nat.le_of_ble_eq_true rfl) dL_buy_22
    · refine zx_catch C htab [⟨0, 12, 15, 13⟩, ⟨0, 12, 19, 15⟩] ⟨0, 12, 23, 21⟩ [] rfl zgS (by decide +kernel) (hp3 ⟨by decide, xI, by decide +kernel, zgSI⟩ ⟨by decide, xA, by decide +kernel, zgSA⟩) rfl (by decide) hce hcv hcl ?_
      refine lv_astore (lv' := [(5, .ref q), (0, .ref (w.1 (0, 0, 0))), (1, .int a1), (2, .int a2), (3, .int a3), (4, .ref o)]) hx hb dL_buy_23 hl (by decide) rfl (fun ls hl2 => ?_)
      refine lv_iconst (v := 3) hx hb dL_buy_25 (by decide) ?_
      exact zr_iret C hr (Or.inr (Or.inr (Or.inr ⟨w', hPX, rfl, rfl⟩))) hH1 hS1 (Nat.le_of_ble_eq_true rfl) (Nat.le_of_ble_eq_true rfl) dL_buy_26
  · obtain ⟨w', ⟨r_, rfl, hPv⟩, rfl⟩ := hP
    refine W.eq (g2 := F0 m 10 ls [.int r_, .int 0, .ref o]) rfl ?_
    refine lv_i2l (v := Int32.toInt64 r_) hx hb dL_buy_10 rfl ?_
    refine zr_last C hH_1 hS_1 (50, 0, 0) (show (zk_sum 50 w' (outW cA o h)).2.1 (50, 0, 0) from rfl) (f := h) rfl 1 rfl (j := 0) rfl (by decide) (by decide) dL_buy_11 (zk_sum 50 w' (outW cA o (vp_updL h 0 (Int32.toInt64 r_)))) out_up (fun H locs hH_2 hS_2 => ?_)
    refine lv_goto (tgt := 27) hx hb dL_buy_12 (by decide) ?_
    refine lv_iconst (v := 0) hx hb dL_buy_27 (by decide) ?_
    exact zr_iret C hr (Or.inl ⟨r_, w', hPv, rfl, rfl⟩) hH_2 hS_2 (Nat.le_of_ble_eq_true rfl) (Nat.le_of_ble_eq_true rfl) dL_buy_28
def rmL_sell : Room := { frames := 10, cells := 4, slots := 184, locals := 247 }
set_option maxHeartbeats 1000000 in
set_option maxRecDepth 100000 in
theorem cW_sell (l : Launch) (D : va_G) (cA : Nat → ClassId) (g : Nat → Nat) (w : zk_W) (hk : w.2.1 (0, 0, 0)) {fs : List Value} (he : w.2.2 (0, 0, 0) = .inr (5, fs)) (hn : ∀ k, w.2.1 k → k.1 < 50) (o : Nat) (h : Nat → Int64) (P : Int32 → zk_W → Prop) (PX : String → zk_W → Prop) (a1 a2 a3 : Int32) (hM : ∀ A, zX l yX4_sell wsX4_sell rmC_sell D (zt cA) A g [.ref (w.1 (0, 0, 0)), .int a1, .int a2, .int a3] w (zQi P) PX) (hE : ∀ E w', PX E w' → E = xI ∨ E = xA ∨ E = xS) (A : Nat → Prop) : zM l yL_sell wsL_sell rmL_sell D (zt cA) A g [.ref (w.1 (0, 0, 0)), .int a1, .int a2, .int a3, .ref o] (zk_sum 50 w (outW cA o h)) (zQi (fun r W' => (∃ x w', P x w' ∧ 0 = r ∧ zk_sum 50 w' (outW cA o (vp_updL h 0 (Int32.toInt64 x))) = W') ∨ (∃ w', PX xI w' ∧ 1 = r ∧ zk_sum 50 w' (outW cA o h) = W') ∨ (∃ w', PX xA w' ∧ 2 = r ∧ zk_sum 50 w' (outW cA o h) = W') ∨ (∃ w', PX xS w' ∧ 3 = r ∧ zk_sum 50 w' (outW cA o h) = W'))) := by
  refine zM_ofH (cc := cL_sell) (maxL := 6) (ret := some .int) (own := RL) (hh := [(0, 12, 15, 13), (0, 12, 19, 15), (0, 12, 23, 21)]) (by decide +kernel) rfl (Nat.le_of_ble_eq_true rfl) rfl ?_
  intro p e s m below meth c C hr htab H locs ls hH hS hl
  obtain ⟨⟨hx, hb, hml, hown, hts⟩, hG, hlk⟩ := id C
  have hl : lv_has ls 6 [(0, .ref (w.1 (0, 0, 0))), (1, .int a1), (2, .int a2), (3, .int a3), (4, .ref o)] := hl
  refine lv_aload hx hb dL_sell_0 (lv_at hl 4 rfl) ?_
  refine lv_iconst (v := 0) hx hb dL_sell_2 (by decide) ?_
  refine lv_aload_n hx hb dL_sell_3 rfl (lv_at hl 0 rfl) ?_
  refine lv_iload_n hx hb dL_sell_4 rfl (lv_at hl 1 rfl) ?_
  refine lv_iload_n hx hb dL_sell_5 rfl (lv_at hl 2 rfl) ?_
  refine lv_iload_n hx hb dL_sell_6 rfl (lv_at hl 3 rfl) ?_
  have hM2 : zX l yX4_sell wsX4_sell rmC_sell D (zt cA) A g (.ref ((zk_sum 50 w (outW cA o h)).1 (0, 0, 0)) :: [.int a1, .int a2, .int a3]) (zk_sum 50 w (outW cA o h)) _ _ := zX_sumL (n := 50) (w2 := outW cA o h) hM hn A
  refine zx_c (zx_rV (w := zk_sum 50 w (outW cA o h)) (As := [.int a1, .int a2, .int a3]) (rest := [.int 0, .ref o]) (n := 3) (k := (0, 0, 0)) C hM2 hH hS hk he rfl gL_sell_X4_sell rfl rfl (by decide +kernel) ⟨Nat.le_of_ble_eq_true rfl, Nat.le_of_ble_eq_true rfl⟩ hl rfl (Nat.le_of_ble_eq_true rfl) dL_sell_7 ⟨Nat.le_of_ble_eq_true rfl, Nat.le_of_ble_eq_true rfl⟩) hS (fun E ce q W' H1 locs1 hP hH1 hS1 hce hcv hcl => ?_) (fun v_ W' H locs hP hH_1 hS_1 => ?_)
  · obtain ⟨w', hPX, rfl⟩ := hP
    rcases hE E w' hPX with rfl | rfl | rfl
    · refine zx_catch C htab [] ⟨0, 12, 15, 13⟩ [⟨0, 12, 19, 15⟩, ⟨0, 12, 23, 21⟩] rfl zgI (by decide +kernel) (fun z hz => by cases hz) rfl (by decide) hce hcv hcl ?_
      refine lv_astore (lv' := [(5, .ref q), (0, .ref (w.1 (0, 0, 0))), (1, .int a1), (2, .int a2), (3, .int a3), (4, .ref o)]) hx hb dL_sell_15 hl (by decide) rfl (fun ls hl2 => ?_)
      refine lv_iconst (v := 1) hx hb dL_sell_17 (by decide) ?_
      exact zr_iret C hr (Or.inr (Or.inl ⟨w', hPX, rfl, rfl⟩)) hH1 hS1 (Nat.le_of_ble_eq_true rfl) (Nat.le_of_ble_eq_true rfl) dL_sell_18
    · refine zx_catch C htab [⟨0, 12, 15, 13⟩] ⟨0, 12, 19, 15⟩ [⟨0, 12, 23, 21⟩] rfl zgA (by decide +kernel) (fun z hz => by cases List.mem_singleton.mp hz; exact ⟨by decide, xI, by decide +kernel, zgAI⟩) rfl (by decide) hce hcv hcl ?_
      refine lv_astore (lv' := [(5, .ref q), (0, .ref (w.1 (0, 0, 0))), (1, .int a1), (2, .int a2), (3, .int a3), (4, .ref o)]) hx hb dL_sell_19 hl (by decide) rfl (fun ls hl2 => ?_)
      refine lv_iconst (v := 2) hx hb dL_sell_21 (by decide) ?_
      exact zr_iret C hr (Or.inr (Or.inr (Or.inl ⟨w', hPX, rfl, rfl⟩))) hH1 hS1 (Nat.le_of_ble_eq_true rfl) (Nat.le_of_ble_eq_true rfl) dL_sell_22
    · refine zx_catch C htab [⟨0, 12, 15, 13⟩, ⟨0, 12, 19, 15⟩] ⟨0, 12, 23, 21⟩ [] rfl zgS (by decide +kernel) (hp3 ⟨by decide, xI, by decide +kernel, zgSI⟩ ⟨by decide, xA, by decide +kernel, zgSA⟩) rfl (by decide) hce hcv hcl ?_
      refine lv_astore (lv' := [(5, .ref q), (0, .ref (w.1 (0, 0, 0))), (1, .int a1), (2, .int a2), (3, .int a3), (4, .ref o)]) hx hb dL_sell_23 hl (by decide) rfl (fun ls hl2 => ?_)
      refine lv_iconst (v := 3) hx hb dL_sell_25 (by decide) ?_
      exact zr_iret C hr (Or.inr (Or.inr (Or.inr ⟨w', hPX, rfl, rfl⟩))) hH1 hS1 (Nat.le_of_ble_eq_true rfl) (Nat.le_of_ble_eq_true rfl) dL_sell_26
  · obtain ⟨w', ⟨r_, rfl, hPv⟩, rfl⟩ := hP
    refine W.eq (g2 := F0 m 10 ls [.int r_, .int 0, .ref o]) rfl ?_
    refine lv_i2l (v := Int32.toInt64 r_) hx hb dL_sell_10 rfl ?_
    refine zr_last C hH_1 hS_1 (50, 0, 0) (show (zk_sum 50 w' (outW cA o h)).2.1 (50, 0, 0) from rfl) (f := h) rfl 1 rfl (j := 0) rfl (by decide) (by decide) dL_sell_11 (zk_sum 50 w' (outW cA o (vp_updL h 0 (Int32.toInt64 r_)))) out_up (fun H locs hH_2 hS_2 => ?_)
    refine lv_goto (tgt := 27) hx hb dL_sell_12 (by decide) ?_
    refine lv_iconst (v := 0) hx hb dL_sell_27 (by decide) ?_
    exact zr_iret C hr (Or.inl ⟨r_, w', hPv, rfl, rfl⟩) hH_2 hS_2 (Nat.le_of_ble_eq_true rfl) (Nat.le_of_ble_eq_true rfl) dL_sell_28
def rmL_balance : Room := { frames := 10, cells := 25, slots := 2070, locals := 278 }
set_option maxHeartbeats 1000000 in
set_option maxRecDepth 100000 in
theorem cW_balance (l : Launch) (D : va_G) (cA : Nat → ClassId) (g : Nat → Nat) (w : zk_W) (hk : w.2.1 (0, 0, 0)) {fs : List Value} (he : w.2.2 (0, 0, 0) = .inr (5, fs)) (hn : ∀ k, w.2.1 k → k.1 < 50) (o : Nat) (h : Nat → Int64) (P : Int32 → zk_W → Prop) (PX : String → zk_W → Prop) (a1 : Int32) (hM : ∀ A, zX l yX4_balance wsX4_balance rmC_balance D (zt cA) A g [.ref (w.1 (0, 0, 0)), .int a1] w (zQi P) PX) (hE : ∀ E w', PX E w' → E = xI ∨ E = xS) (A : Nat → Prop) : zM l yL_balance wsL_balance rmL_balance D (zt cA) A g [.ref (w.1 (0, 0, 0)), .int a1, .ref o] (zk_sum 50 w (outW cA o h)) (zQi (fun r W' => (∃ x w', P x w' ∧ 0 = r ∧ zk_sum 50 w' (outW cA o (vp_updL h 0 (Int32.toInt64 x))) = W') ∨ (∃ w', PX xI w' ∧ 1 = r ∧ zk_sum 50 w' (outW cA o h) = W') ∨ (∃ w', PX xS w' ∧ 2 = r ∧ zk_sum 50 w' (outW cA o h) = W'))) := by
  refine zM_ofH (cc := cL_balance) (maxL := 4) (ret := some .int) (own := RL) (hh := [(0, 9, 12, 13), (0, 9, 15, 21)]) (by decide +kernel) rfl (Nat.le_of_ble_eq_true rfl) rfl ?_
  intro p e s m below meth c C hr htab H locs ls hH hS hl
  obtain ⟨⟨hx, hb, hml, hown, hts⟩, hG, hlk⟩ := id C
  have hl : lv_has ls 4 [(0, .ref (w.1 (0, 0, 0))), (1, .int a1), (2, .ref o)] := hl
  refine lv_aload_n hx hb dL_balance_0 rfl (lv_at hl 2 rfl) ?_
  refine lv_iconst (v := 0) hx hb dL_balance_1 (by decide) ?_
  refine lv_aload_n hx hb dL_balance_2 rfl (lv_at hl 0 rfl) ?_
  refine lv_iload_n hx hb dL_balance_3 rfl (lv_at hl 1 rfl) ?_
  have hM2 : zX l yX4_balance wsX4_balance rmC_balance D (zt cA) A g (.ref ((zk_sum 50 w (outW cA o h)).1 (0, 0, 0)) :: [.int a1]) (zk_sum 50 w (outW cA o h)) _ _ := zX_sumL (n := 50) (w2 := outW cA o h) hM hn A
  refine zx_c (zx_rV (w := zk_sum 50 w (outW cA o h)) (As := [.int a1]) (rest := [.int 0, .ref o]) (n := 1) (k := (0, 0, 0)) C hM2 hH hS hk he rfl gL_balance_X4_balance rfl rfl (by decide +kernel) ⟨Nat.le_of_ble_eq_true rfl, Nat.le_of_ble_eq_true rfl⟩ hl rfl (Nat.le_of_ble_eq_true rfl) dL_balance_4 ⟨Nat.le_of_ble_eq_true rfl, Nat.le_of_ble_eq_true rfl⟩) hS (fun E ce q W' H1 locs1 hP hH1 hS1 hce hcv hcl => ?_) (fun v_ W' H locs hP hH_1 hS_1 => ?_)
  · obtain ⟨w', hPX, rfl⟩ := hP
    rcases hE E w' hPX with rfl | rfl
    · refine zx_catch C htab [] ⟨0, 9, 12, 13⟩ [⟨0, 9, 15, 21⟩] rfl zgI (by decide +kernel) (fun z hz => by cases hz) rfl (by decide) hce hcv hcl ?_
      refine lv_astore_n (lv' := [(3, .ref q), (0, .ref (w.1 (0, 0, 0))), (1, .int a1), (2, .ref o)]) hx hb dL_balance_12 rfl hl (by decide) rfl (fun ls hl2 => ?_)
      refine lv_iconst (v := 1) hx hb dL_balance_13 (by decide) ?_
      exact zr_iret C hr (Or.inr (Or.inl ⟨w', hPX, rfl, rfl⟩)) hH1 hS1 (Nat.le_of_ble_eq_true rfl) (Nat.le_of_ble_eq_true rfl) dL_balance_14
    · refine zx_catch C htab [⟨0, 9, 12, 13⟩] ⟨0, 9, 15, 21⟩ [] rfl zgS (by decide +kernel) (fun z hz => by cases List.mem_singleton.mp hz; exact ⟨by decide, xI, by decide +kernel, zgSI⟩) rfl (by decide) hce hcv hcl ?_
      refine lv_astore_n (lv' := [(3, .ref q), (0, .ref (w.1 (0, 0, 0))), (1, .int a1), (2, .ref o)]) hx hb dL_balance_15 rfl hl (by decide) rfl (fun ls hl2 => ?_)
      refine lv_iconst (v := 2) hx hb dL_balance_16 (by decide) ?_
      exact zr_iret C hr (Or.inr (Or.inr ⟨w', hPX, rfl, rfl⟩)) hH1 hS1 (Nat.le_of_ble_eq_true rfl) (Nat.le_of_ble_eq_true rfl) dL_balance_17
  · obtain ⟨w', ⟨r_, rfl, hPv⟩, rfl⟩ := hP
    refine W.eq (g2 := F0 m 7 ls [.int r_, .int 0, .ref o]) rfl ?_
    refine lv_i2l (v := Int32.toInt64 r_) hx hb dL_balance_7 rfl ?_
    refine zr_last C hH_1 hS_1 (50, 0, 0) (show (zk_sum 50 w' (outW cA o h)).2.1 (50, 0, 0) from rfl) (f := h) rfl 1 rfl (j := 0) rfl (by decide) (by decide) dL_balance_8 (zk_sum 50 w' (outW cA o (vp_updL h 0 (Int32.toInt64 r_)))) out_up (fun H locs hH_2 hS_2 => ?_)
    refine lv_goto (tgt := 18) hx hb dL_balance_9 (by decide) ?_
    refine lv_iconst (v := 0) hx hb dL_balance_18 (by decide) ?_
    exact zr_iret C hr (Or.inl ⟨r_, w', hPv, rfl, rfl⟩) hH_2 hS_2 (Nat.le_of_ble_eq_true rfl) (Nat.le_of_ble_eq_true rfl) dL_balance_19
def rmL_complain : Room := { frames := 9, cells := 2, slots := 12, locals := 162 }
set_option maxHeartbeats 1000000 in
set_option maxRecDepth 100000 in
theorem cW_complain (l : Launch) (D : va_G) (cA : Nat → ClassId) (g : Nat → Nat) (w : zk_W) (hk : w.2.1 (0, 0, 0)) {fs : List Value} (he : w.2.2 (0, 0, 0) = .inr (5, fs)) (hn : ∀ k, w.2.1 k → k.1 < 50) (o : Nat) (h : Nat → Int64) (P : Int64 → zk_W → Prop) (PX : String → zk_W → Prop) (a1 : Int32) (hM : ∀ A, zX l yX4_complain wsX4_complain rmC_complain D (zt cA) A g [.ref (w.1 (0, 0, 0)), .int a1] w (zQl P) PX) (hE : ∀ E w', PX E w' → E = xI ∨ E = xS) (A : Nat → Prop) : zM l yL_complain wsL_complain rmL_complain D (zt cA) A g [.ref (w.1 (0, 0, 0)), .int a1, .ref o] (zk_sum 50 w (outW cA o h)) (zQi (fun r W' => (∃ x w', P x w' ∧ 0 = r ∧ zk_sum 50 w' (outW cA o (vp_updL h 0 (x))) = W') ∨ (∃ w', PX xI w' ∧ 1 = r ∧ zk_sum 50 w' (outW cA o h) = W') ∨ (∃ w', PX xS w' ∧ 2 = r ∧ zk_sum 50 w' (outW cA o h) = W'))) := by
  refine zM_ofH (cc := cL_complain) (maxL := 4) (ret := some .int) (own := RL) (hh := [(0, 8, 11, 13), (0, 8, 14, 21)]) (by decide +kernel) rfl (Nat.le_of_ble_eq_true rfl) rfl ?_
  intro p e s m below meth c C hr htab H locs ls hH hS hl
  obtain ⟨⟨hx, hb, hml, hown, hts⟩, hG, hlk⟩ := id C
  have hl : lv_has ls 4 [(0, .ref (w.1 (0, 0, 0))), (1, .int a1), (2, .ref o)] := hl
  refine lv_aload_n hx hb dL_complain_0 rfl (lv_at hl 2 rfl) ?_
  refine lv_iconst (v := 0) hx hb dL_complain_1 (by decide) ?_
  refine lv_aload_n hx hb dL_complain_2 rfl (lv_at hl 0 rfl) ?_
  refine lv_iload_n hx hb dL_complain_3 rfl (lv_at hl 1 rfl) ?_
  have hM2 : zX l yX4_complain wsX4_complain rmC_complain D (zt cA) A g (.ref ((zk_sum 50 w (outW cA o h)).1 (0, 0, 0)) :: [.int a1]) (zk_sum 50 w (outW cA o h)) _ _ := zX_sumL (n := 50) (w2 := outW cA o h) hM hn A
  refine zx_c (zx_rV (w := zk_sum 50 w (outW cA o h)) (As := [.int a1]) (rest := [.int 0, .ref o]) (n := 1) (k := (0, 0, 0)) C hM2 hH hS hk he rfl gL_complain_X4_complain rfl rfl (by decide +kernel) ⟨Nat.le_of_ble_eq_true rfl, Nat.le_of_ble_eq_true rfl⟩ hl rfl (Nat.le_of_ble_eq_true rfl) dL_complain_4 ⟨Nat.le_of_ble_eq_true rfl, Nat.le_of_ble_eq_true rfl⟩) hS (fun E ce q W' H1 locs1 hP hH1 hS1 hce hcv hcl => ?_) (fun v_ W' H locs hP hH_1 hS_1 => ?_)
  · obtain ⟨w', hPX, rfl⟩ := hP
    rcases hE E w' hPX with rfl | rfl
    · refine zx_catch C htab [] ⟨0, 8, 11, 13⟩ [⟨0, 8, 14, 21⟩] rfl zgI (by decide +kernel) (fun z hz => by cases hz) rfl (by decide) hce hcv hcl ?_
      refine lv_astore_n (lv' := [(3, .ref q), (0, .ref (w.1 (0, 0, 0))), (1, .int a1), (2, .ref o)]) hx hb dL_complain_11 rfl hl (by decide) rfl (fun ls hl2 => ?_)
      refine lv_iconst (v := 1) hx hb dL_complain_12 (by decide) ?_
      exact zr_iret C hr (Or.inr (Or.inl ⟨w', hPX, rfl, rfl⟩)) hH1 hS1 (Nat.le_of_ble_eq_true rfl) (Nat.le_of_ble_eq_true rfl) dL_complain_13
    · refine zx_catch C htab [⟨0, 8, 11, 13⟩] ⟨0, 8, 14, 21⟩ [] rfl zgS (by decide +kernel) (fun z hz => by cases List.mem_singleton.mp hz; exact ⟨by decide, xI, by decide +kernel, zgSI⟩) rfl (by decide) hce hcv hcl ?_
      refine lv_astore_n (lv' := [(3, .ref q), (0, .ref (w.1 (0, 0, 0))), (1, .int a1), (2, .ref o)]) hx hb dL_complain_14 rfl hl (by decide) rfl (fun ls hl2 => ?_)
      refine lv_iconst (v := 2) hx hb dL_complain_15 (by decide) ?_
      exact zr_iret C hr (Or.inr (Or.inr ⟨w', hPX, rfl, rfl⟩)) hH1 hS1 (Nat.le_of_ble_eq_true rfl) (Nat.le_of_ble_eq_true rfl) dL_complain_16
  · obtain ⟨w', ⟨r_, rfl, hPv⟩, rfl⟩ := hP
    refine W.eq (g2 := F0 m 7 ls [.long r_, .int 0, .ref o]) rfl ?_
    refine zr_last C hH_1 hS_1 (50, 0, 0) (show (zk_sum 50 w' (outW cA o h)).2.1 (50, 0, 0) from rfl) (f := h) rfl 1 rfl (j := 0) rfl (by decide) (by decide) dL_complain_7 (zk_sum 50 w' (outW cA o (vp_updL h 0 r_))) out_up (fun H locs hH_2 hS_2 => ?_)
    refine lv_goto (tgt := 17) hx hb dL_complain_8 (by decide) ?_
    refine lv_iconst (v := 0) hx hb dL_complain_17 (by decide) ?_
    exact zr_iret C hr (Or.inl ⟨r_, w', hPv, rfl, rfl⟩) hH_2 hS_2 (Nat.le_of_ble_eq_true rfl) (Nat.le_of_ble_eq_true rfl) dL_complain_18
def rmL_pass : Room := { frames := 8, cells := 1, slots := 6, locals := 140 }
set_option maxHeartbeats 1000000 in
set_option maxRecDepth 100000 in
theorem cW_pass (l : Launch) (D : va_G) (cA : Nat → ClassId) (g : Nat → Nat) (w : zk_W) (hk : w.2.1 (0, 0, 0)) {fs : List Value} (he : w.2.2 (0, 0, 0) = .inr (5, fs)) (hn : ∀ k, w.2.1 k → k.1 < 50) (o : Nat) (h : Nat → Int64) (P : Int32 → zk_W → Prop) (PX : String → zk_W → Prop) (a1 : Int32) (hM : ∀ A, zX l yX4_pass wsX4_pass rmC_pass D (zt cA) A g [.ref (w.1 (0, 0, 0)), .int a1] w (zQi P) PX) (hE : ∀ E w', PX E w' → E = xA ∨ E = xS) (A : Nat → Prop) : zM l yL_pass wsL_pass rmL_pass D (zt cA) A g [.ref (w.1 (0, 0, 0)), .int a1, .ref o] (zk_sum 50 w (outW cA o h)) (zQi (fun r W' => (∃ x w', P x w' ∧ 0 = r ∧ zk_sum 50 w' (outW cA o (vp_updL h 0 (Int32.toInt64 x))) = W') ∨ (∃ w', PX xA w' ∧ 1 = r ∧ zk_sum 50 w' (outW cA o h) = W') ∨ (∃ w', PX xS w' ∧ 2 = r ∧ zk_sum 50 w' (outW cA o h) = W'))) := by
  refine zM_ofH (cc := cL_pass) (maxL := 4) (ret := some .int) (own := RL) (hh := [(0, 9, 12, 15), (0, 9, 15, 21)]) (by decide +kernel) rfl (Nat.le_of_ble_eq_true rfl) rfl ?_
  intro p e s m below meth c C hr htab H locs ls hH hS hl
  obtain ⟨⟨hx, hb, hml, hown, hts⟩, hG, hlk⟩ := id C
  have hl : lv_has ls 4 [(0, .ref (w.1 (0, 0, 0))), (1, .int a1), (2, .ref o)] := hl
  refine lv_aload_n hx hb dL_pass_0 rfl (lv_at hl 2 rfl) ?_
  refine lv_iconst (v := 0) hx hb dL_pass_1 (by decide) ?_
  refine lv_aload_n hx hb dL_pass_2 rfl (lv_at hl 0 rfl) ?_
  refine lv_iload_n hx hb dL_pass_3 rfl (lv_at hl 1 rfl) ?_
  have hM2 : zX l yX4_pass wsX4_pass rmC_pass D (zt cA) A g (.ref ((zk_sum 50 w (outW cA o h)).1 (0, 0, 0)) :: [.int a1]) (zk_sum 50 w (outW cA o h)) _ _ := zX_sumL (n := 50) (w2 := outW cA o h) hM hn A
  refine zx_c (zx_rV (w := zk_sum 50 w (outW cA o h)) (As := [.int a1]) (rest := [.int 0, .ref o]) (n := 1) (k := (0, 0, 0)) C hM2 hH hS hk he rfl gL_pass_X4_pass rfl rfl (by decide +kernel) ⟨Nat.le_of_ble_eq_true rfl, Nat.le_of_ble_eq_true rfl⟩ hl rfl (Nat.le_of_ble_eq_true rfl) dL_pass_4 ⟨Nat.le_of_ble_eq_true rfl, Nat.le_of_ble_eq_true rfl⟩) hS (fun E ce q W' H1 locs1 hP hH1 hS1 hce hcv hcl => ?_) (fun v_ W' H locs hP hH_1 hS_1 => ?_)
  · obtain ⟨w', hPX, rfl⟩ := hP
    rcases hE E w' hPX with rfl | rfl
    · refine zx_catch C htab [] ⟨0, 9, 12, 15⟩ [⟨0, 9, 15, 21⟩] rfl zgA (by decide +kernel) (fun z hz => by cases hz) rfl (by decide) hce hcv hcl ?_
      refine lv_astore_n (lv' := [(3, .ref q), (0, .ref (w.1 (0, 0, 0))), (1, .int a1), (2, .ref o)]) hx hb dL_pass_12 rfl hl (by decide) rfl (fun ls hl2 => ?_)
      refine lv_iconst (v := 1) hx hb dL_pass_13 (by decide) ?_
      exact zr_iret C hr (Or.inr (Or.inl ⟨w', hPX, rfl, rfl⟩)) hH1 hS1 (Nat.le_of_ble_eq_true rfl) (Nat.le_of_ble_eq_true rfl) dL_pass_14
    · refine zx_catch C htab [⟨0, 9, 12, 15⟩] ⟨0, 9, 15, 21⟩ [] rfl zgS (by decide +kernel) (fun z hz => by cases List.mem_singleton.mp hz; exact ⟨by decide, xA, by decide +kernel, zgSA⟩) rfl (by decide) hce hcv hcl ?_
      refine lv_astore_n (lv' := [(3, .ref q), (0, .ref (w.1 (0, 0, 0))), (1, .int a1), (2, .ref o)]) hx hb dL_pass_15 rfl hl (by decide) rfl (fun ls hl2 => ?_)
      refine lv_iconst (v := 2) hx hb dL_pass_16 (by decide) ?_
      exact zr_iret C hr (Or.inr (Or.inr ⟨w', hPX, rfl, rfl⟩)) hH1 hS1 (Nat.le_of_ble_eq_true rfl) (Nat.le_of_ble_eq_true rfl) dL_pass_17
  · obtain ⟨w', ⟨r_, rfl, hPv⟩, rfl⟩ := hP
    refine W.eq (g2 := F0 m 7 ls [.int r_, .int 0, .ref o]) rfl ?_
    refine lv_i2l (v := Int32.toInt64 r_) hx hb dL_pass_7 rfl ?_
    refine zr_last C hH_1 hS_1 (50, 0, 0) (show (zk_sum 50 w' (outW cA o h)).2.1 (50, 0, 0) from rfl) (f := h) rfl 1 rfl (j := 0) rfl (by decide) (by decide) dL_pass_8 (zk_sum 50 w' (outW cA o (vp_updL h 0 (Int32.toInt64 r_)))) out_up (fun H locs hH_2 hS_2 => ?_)
    refine lv_goto (tgt := 18) hx hb dL_pass_9 (by decide) ?_
    refine lv_iconst (v := 0) hx hb dL_pass_18 (by decide) ?_
    exact zr_iret C hr (Or.inl ⟨r_, w', hPv, rfl, rfl⟩) hH_2 hS_2 (Nat.le_of_ble_eq_true rfl) (Nat.le_of_ble_eq_true rfl) dL_pass_19
def rmL_cash : Room := { frames := 9, cells := 1, slots := 6, locals := 160 }
set_option maxHeartbeats 1000000 in
set_option maxRecDepth 100000 in
theorem cW_cash (l : Launch) (D : va_G) (cA : Nat → ClassId) (g : Nat → Nat) (w : zk_W) (hk : w.2.1 (0, 0, 0)) {fs : List Value} (he : w.2.2 (0, 0, 0) = .inr (5, fs)) (hn : ∀ k, w.2.1 k → k.1 < 50) (o : Nat) (h : Nat → Int64) (P : Int64 → zk_W → Prop) (PX : String → zk_W → Prop) (a1 : Int32) (hM : ∀ A, zX l yX4_cash wsX4_cash rmC_cash D (zt cA) A g [.ref (w.1 (0, 0, 0)), .int a1] w (zQl P) PX) (hE : ∀ E w', PX E w' → E = xI) (A : Nat → Prop) : zM l yL_cash wsL_cash rmL_cash D (zt cA) A g [.ref (w.1 (0, 0, 0)), .int a1, .ref o] (zk_sum 50 w (outW cA o h)) (zQi (fun r W' => (∃ x w', P x w' ∧ 0 = r ∧ zk_sum 50 w' (outW cA o (vp_updL h 0 (x))) = W') ∨ (∃ w', PX xI w' ∧ 1 = r ∧ zk_sum 50 w' (outW cA o h) = W'))) := by
  refine zM_ofH (cc := cL_cash) (maxL := 4) (ret := some .int) (own := RL) (hh := [(0, 8, 11, 13)]) (by decide +kernel) rfl (Nat.le_of_ble_eq_true rfl) rfl ?_
  intro p e s m below meth c C hr htab H locs ls hH hS hl
  obtain ⟨⟨hx, hb, hml, hown, hts⟩, hG, hlk⟩ := id C
  have hl : lv_has ls 4 [(0, .ref (w.1 (0, 0, 0))), (1, .int a1), (2, .ref o)] := hl
  refine lv_aload_n hx hb dL_cash_0 rfl (lv_at hl 2 rfl) ?_
  refine lv_iconst (v := 0) hx hb dL_cash_1 (by decide) ?_
  refine lv_aload_n hx hb dL_cash_2 rfl (lv_at hl 0 rfl) ?_
  refine lv_iload_n hx hb dL_cash_3 rfl (lv_at hl 1 rfl) ?_
  have hM2 : zX l yX4_cash wsX4_cash rmC_cash D (zt cA) A g (.ref ((zk_sum 50 w (outW cA o h)).1 (0, 0, 0)) :: [.int a1]) (zk_sum 50 w (outW cA o h)) _ _ := zX_sumL (n := 50) (w2 := outW cA o h) hM hn A
  refine zx_c (zx_rV (w := zk_sum 50 w (outW cA o h)) (As := [.int a1]) (rest := [.int 0, .ref o]) (n := 1) (k := (0, 0, 0)) C hM2 hH hS hk he rfl gL_cash_X4_cash rfl rfl (by decide +kernel) ⟨Nat.le_of_ble_eq_true rfl, Nat.le_of_ble_eq_true rfl⟩ hl rfl (Nat.le_of_ble_eq_true rfl) dL_cash_4 ⟨Nat.le_of_ble_eq_true rfl, Nat.le_of_ble_eq_true rfl⟩) hS (fun E ce q W' H1 locs1 hP hH1 hS1 hce hcv hcl => ?_) (fun v_ W' H locs hP hH_1 hS_1 => ?_)
  · obtain ⟨w', hPX, rfl⟩ := hP
    have hEq := hE E w' hPX
    subst hEq
    refine zx_catch C htab [] ⟨0, 8, 11, 13⟩ [] rfl zgI (by decide +kernel) (fun z hz => by cases hz) rfl (by decide) hce hcv hcl ?_
    refine lv_astore_n (lv' := [(3, .ref q), (0, .ref (w.1 (0, 0, 0))), (1, .int a1), (2, .ref o)]) hx hb dL_cash_11 rfl hl (by decide) rfl (fun ls hl2 => ?_)
    refine lv_iconst (v := 1) hx hb dL_cash_12 (by decide) ?_
    exact zr_iret C hr (Or.inr ⟨w', hPX, rfl, rfl⟩) hH1 hS1 (Nat.le_of_ble_eq_true rfl) (Nat.le_of_ble_eq_true rfl) dL_cash_13
  · obtain ⟨w', ⟨r_, rfl, hPv⟩, rfl⟩ := hP
    refine W.eq (g2 := F0 m 7 ls [.long r_, .int 0, .ref o]) rfl ?_
    refine zr_last C hH_1 hS_1 (50, 0, 0) (show (zk_sum 50 w' (outW cA o h)).2.1 (50, 0, 0) from rfl) (f := h) rfl 1 rfl (j := 0) rfl (by decide) (by decide) dL_cash_7 (zk_sum 50 w' (outW cA o (vp_updL h 0 r_))) out_up (fun H locs hH_2 hS_2 => ?_)
    refine lv_goto (tgt := 14) hx hb dL_cash_8 (by decide) ?_
    refine lv_iconst (v := 0) hx hb dL_cash_14 (by decide) ?_
    exact zr_iret C hr (Or.inl ⟨r_, w', hPv, rfl, rfl⟩) hH_2 hS_2 (Nat.le_of_ble_eq_true rfl) (Nat.le_of_ble_eq_true rfl) dL_cash_15
def rmL_parts : Room := { frames := 10, cells := 2, slots := 12, locals := 184 }
set_option maxHeartbeats 1000000 in
set_option maxRecDepth 100000 in
theorem cW_parts (l : Launch) (D : va_G) (cA : Nat → ClassId) (g : Nat → Nat) (w : zk_W) (hk : w.2.1 (0, 0, 0)) {fs : List Value} (he : w.2.2 (0, 0, 0) = .inr (5, fs)) (hn : ∀ k, w.2.1 k → k.1 < 50) (o : Nat) (h : Nat → Int64) (P : Int64 → zk_W → Prop) (PX : String → zk_W → Prop) (a1 a2 : Int32) (hM : ∀ A, zX l yX4_parts wsX4_parts rmC_parts D (zt cA) A g [.ref (w.1 (0, 0, 0)), .int a1, .int a2] w (zQl P) PX) (hE : ∀ E w', PX E w' → E = xI) (A : Nat → Prop) : zM l yL_parts wsL_parts rmL_parts D (zt cA) A g [.ref (w.1 (0, 0, 0)), .int a1, .int a2, .ref o] (zk_sum 50 w (outW cA o h)) (zQi (fun r W' => (∃ x w', P x w' ∧ 0 = r ∧ zk_sum 50 w' (outW cA o (vp_updL h 0 (x))) = W') ∨ (∃ w', PX xI w' ∧ 1 = r ∧ zk_sum 50 w' (outW cA o h) = W'))) := by
  refine zM_ofH (cc := cL_parts) (maxL := 5) (ret := some .int) (own := RL) (hh := [(0, 9, 12, 13)]) (by decide +kernel) rfl (Nat.le_of_ble_eq_true rfl) rfl ?_
  intro p e s m below meth c C hr htab H locs ls hH hS hl
  obtain ⟨⟨hx, hb, hml, hown, hts⟩, hG, hlk⟩ := id C
  have hl : lv_has ls 5 [(0, .ref (w.1 (0, 0, 0))), (1, .int a1), (2, .int a2), (3, .ref o)] := hl
  refine lv_aload_n hx hb dL_parts_0 rfl (lv_at hl 3 rfl) ?_
  refine lv_iconst (v := 0) hx hb dL_parts_1 (by decide) ?_
  refine lv_aload_n hx hb dL_parts_2 rfl (lv_at hl 0 rfl) ?_
  refine lv_iload_n hx hb dL_parts_3 rfl (lv_at hl 1 rfl) ?_
  refine lv_iload_n hx hb dL_parts_4 rfl (lv_at hl 2 rfl) ?_
  have hM2 : zX l yX4_parts wsX4_parts rmC_parts D (zt cA) A g (.ref ((zk_sum 50 w (outW cA o h)).1 (0, 0, 0)) :: [.int a1, .int a2]) (zk_sum 50 w (outW cA o h)) _ _ := zX_sumL (n := 50) (w2 := outW cA o h) hM hn A
  refine zx_c (zx_rV (w := zk_sum 50 w (outW cA o h)) (As := [.int a1, .int a2]) (rest := [.int 0, .ref o]) (n := 2) (k := (0, 0, 0)) C hM2 hH hS hk he rfl gL_parts_X4_parts rfl rfl (by decide +kernel) ⟨Nat.le_of_ble_eq_true rfl, Nat.le_of_ble_eq_true rfl⟩ hl rfl (Nat.le_of_ble_eq_true rfl) dL_parts_5 ⟨Nat.le_of_ble_eq_true rfl, Nat.le_of_ble_eq_true rfl⟩) hS (fun E ce q W' H1 locs1 hP hH1 hS1 hce hcv hcl => ?_) (fun v_ W' H locs hP hH_1 hS_1 => ?_)
  · obtain ⟨w', hPX, rfl⟩ := hP
    have hEq := hE E w' hPX
    subst hEq
    refine zx_catch C htab [] ⟨0, 9, 12, 13⟩ [] rfl zgI (by decide +kernel) (fun z hz => by cases hz) rfl (by decide) hce hcv hcl ?_
    refine lv_astore (lv' := [(4, .ref q), (0, .ref (w.1 (0, 0, 0))), (1, .int a1), (2, .int a2), (3, .ref o)]) hx hb dL_parts_12 hl (by decide) rfl (fun ls hl2 => ?_)
    refine lv_iconst (v := 1) hx hb dL_parts_14 (by decide) ?_
    exact zr_iret C hr (Or.inr ⟨w', hPX, rfl, rfl⟩) hH1 hS1 (Nat.le_of_ble_eq_true rfl) (Nat.le_of_ble_eq_true rfl) dL_parts_15
  · obtain ⟨w', ⟨r_, rfl, hPv⟩, rfl⟩ := hP
    refine W.eq (g2 := F0 m 8 ls [.long r_, .int 0, .ref o]) rfl ?_
    refine zr_last C hH_1 hS_1 (50, 0, 0) (show (zk_sum 50 w' (outW cA o h)).2.1 (50, 0, 0) from rfl) (f := h) rfl 1 rfl (j := 0) rfl (by decide) (by decide) dL_parts_8 (zk_sum 50 w' (outW cA o (vp_updL h 0 r_))) out_up (fun H locs hH_2 hS_2 => ?_)
    refine lv_goto (tgt := 16) hx hb dL_parts_9 (by decide) ?_
    refine lv_iconst (v := 0) hx hb dL_parts_16 (by decide) ?_
    exact zr_iret C hr (Or.inl ⟨r_, w', hPv, rfl, rfl⟩) hH_2 hS_2 (Nat.le_of_ble_eq_true rfl) (Nat.le_of_ble_eq_true rfl) dL_parts_17
def rmL_units : Room := { frames := 9, cells := 1, slots := 6, locals := 160 }
set_option maxHeartbeats 1000000 in
set_option maxRecDepth 100000 in
theorem cW_units (l : Launch) (D : va_G) (cA : Nat → ClassId) (g : Nat → Nat) (w : zk_W) (hk : w.2.1 (0, 0, 0)) {fs : List Value} (he : w.2.2 (0, 0, 0) = .inr (5, fs)) (hn : ∀ k, w.2.1 k → k.1 < 50) (o : Nat) (h : Nat → Int64) (P : Int64 → zk_W → Prop) (PX : String → zk_W → Prop) (a1 : Int32) (hM : ∀ A, zX l yX4_units wsX4_units rmC_units D (zt cA) A g [.ref (w.1 (0, 0, 0)), .int a1] w (zQl P) PX) (hE : ∀ E w', PX E w' → E = xI) (A : Nat → Prop) : zM l yL_units wsL_units rmL_units D (zt cA) A g [.ref (w.1 (0, 0, 0)), .int a1, .ref o] (zk_sum 50 w (outW cA o h)) (zQi (fun r W' => (∃ x w', P x w' ∧ 0 = r ∧ zk_sum 50 w' (outW cA o (vp_updL h 0 (x))) = W') ∨ (∃ w', PX xI w' ∧ 1 = r ∧ zk_sum 50 w' (outW cA o h) = W'))) := by
  refine zM_ofH (cc := cL_units) (maxL := 4) (ret := some .int) (own := RL) (hh := [(0, 8, 11, 13)]) (by decide +kernel) rfl (Nat.le_of_ble_eq_true rfl) rfl ?_
  intro p e s m below meth c C hr htab H locs ls hH hS hl
  obtain ⟨⟨hx, hb, hml, hown, hts⟩, hG, hlk⟩ := id C
  have hl : lv_has ls 4 [(0, .ref (w.1 (0, 0, 0))), (1, .int a1), (2, .ref o)] := hl
  refine lv_aload_n hx hb dL_units_0 rfl (lv_at hl 2 rfl) ?_
  refine lv_iconst (v := 0) hx hb dL_units_1 (by decide) ?_
  refine lv_aload_n hx hb dL_units_2 rfl (lv_at hl 0 rfl) ?_
  refine lv_iload_n hx hb dL_units_3 rfl (lv_at hl 1 rfl) ?_
  have hM2 : zX l yX4_units wsX4_units rmC_units D (zt cA) A g (.ref ((zk_sum 50 w (outW cA o h)).1 (0, 0, 0)) :: [.int a1]) (zk_sum 50 w (outW cA o h)) _ _ := zX_sumL (n := 50) (w2 := outW cA o h) hM hn A
  refine zx_c (zx_rV (w := zk_sum 50 w (outW cA o h)) (As := [.int a1]) (rest := [.int 0, .ref o]) (n := 1) (k := (0, 0, 0)) C hM2 hH hS hk he rfl gL_units_X4_units rfl rfl (by decide +kernel) ⟨Nat.le_of_ble_eq_true rfl, Nat.le_of_ble_eq_true rfl⟩ hl rfl (Nat.le_of_ble_eq_true rfl) dL_units_4 ⟨Nat.le_of_ble_eq_true rfl, Nat.le_of_ble_eq_true rfl⟩) hS (fun E ce q W' H1 locs1 hP hH1 hS1 hce hcv hcl => ?_) (fun v_ W' H locs hP hH_1 hS_1 => ?_)
  · obtain ⟨w', hPX, rfl⟩ := hP
    have hEq := hE E w' hPX
    subst hEq
    refine zx_catch C htab [] ⟨0, 8, 11, 13⟩ [] rfl zgI (by decide +kernel) (fun z hz => by cases hz) rfl (by decide) hce hcv hcl ?_
    refine lv_astore_n (lv' := [(3, .ref q), (0, .ref (w.1 (0, 0, 0))), (1, .int a1), (2, .ref o)]) hx hb dL_units_11 rfl hl (by decide) rfl (fun ls hl2 => ?_)
    refine lv_iconst (v := 1) hx hb dL_units_12 (by decide) ?_
    exact zr_iret C hr (Or.inr ⟨w', hPX, rfl, rfl⟩) hH1 hS1 (Nat.le_of_ble_eq_true rfl) (Nat.le_of_ble_eq_true rfl) dL_units_13
  · obtain ⟨w', ⟨r_, rfl, hPv⟩, rfl⟩ := hP
    refine W.eq (g2 := F0 m 7 ls [.long r_, .int 0, .ref o]) rfl ?_
    refine zr_last C hH_1 hS_1 (50, 0, 0) (show (zk_sum 50 w' (outW cA o h)).2.1 (50, 0, 0) from rfl) (f := h) rfl 1 rfl (j := 0) rfl (by decide) (by decide) dL_units_7 (zk_sum 50 w' (outW cA o (vp_updL h 0 r_))) out_up (fun H locs hH_2 hS_2 => ?_)
    refine lv_goto (tgt := 14) hx hb dL_units_8 (by decide) ?_
    refine lv_iconst (v := 0) hx hb dL_units_14 (by decide) ?_
    exact zr_iret C hr (Or.inl ⟨r_, w', hPv, rfl, rfl⟩) hH_2 hS_2 (Nat.le_of_ble_eq_true rfl) (Nat.le_of_ble_eq_true rfl) dL_units_15
def rmL_tradeOf : Room := { frames := 9, cells := 2, slots := 12, locals := 162 }
set_option maxHeartbeats 1000000 in
set_option maxRecDepth 100000 in
theorem cW_tradeOf (l : Launch) (D : va_G) (cA : Nat → ClassId) (g : Nat → Nat) (w : zk_W) (hk : w.2.1 (0, 0, 0)) {fs : List Value} (he : w.2.2 (0, 0, 0) = .inr (5, fs)) (hn : ∀ k, w.2.1 k → k.1 < 50) (o : Nat) (h : Nat → Int64) (P : Int64 → zk_W → Prop) (PX : String → zk_W → Prop) (a1 a2 : Int32) (hM : ∀ A, zX l yX4_tradeOf wsX4_tradeOf rmC_tradeOf D (zt cA) A g [.ref (w.1 (0, 0, 0)), .int a1, .int a2] w (zQl P) PX) (hE : ∀ E w', PX E w' → E = xI ∨ E = xA) (A : Nat → Prop) : zM l yL_tradeOf wsL_tradeOf rmL_tradeOf D (zt cA) A g [.ref (w.1 (0, 0, 0)), .int a1, .int a2, .ref o] (zk_sum 50 w (outW cA o h)) (zQi (fun r W' => (∃ x w', P x w' ∧ 0 = r ∧ zk_sum 50 w' (outW cA o (vp_updL h 0 (x))) = W') ∨ (∃ w', PX xI w' ∧ 1 = r ∧ zk_sum 50 w' (outW cA o h) = W') ∨ (∃ w', PX xA w' ∧ 2 = r ∧ zk_sum 50 w' (outW cA o h) = W'))) := by
  refine zM_ofH (cc := cL_tradeOf) (maxL := 5) (ret := some .int) (own := RL) (hh := [(0, 9, 12, 13), (0, 9, 16, 15)]) (by decide +kernel) rfl (Nat.le_of_ble_eq_true rfl) rfl ?_
  intro p e s m below meth c C hr htab H locs ls hH hS hl
  obtain ⟨⟨hx, hb, hml, hown, hts⟩, hG, hlk⟩ := id C
  have hl : lv_has ls 5 [(0, .ref (w.1 (0, 0, 0))), (1, .int a1), (2, .int a2), (3, .ref o)] := hl
  refine lv_aload_n hx hb dL_tradeOf_0 rfl (lv_at hl 3 rfl) ?_
  refine lv_iconst (v := 0) hx hb dL_tradeOf_1 (by decide) ?_
  refine lv_aload_n hx hb dL_tradeOf_2 rfl (lv_at hl 0 rfl) ?_
  refine lv_iload_n hx hb dL_tradeOf_3 rfl (lv_at hl 1 rfl) ?_
  refine lv_iload_n hx hb dL_tradeOf_4 rfl (lv_at hl 2 rfl) ?_
  have hM2 : zX l yX4_tradeOf wsX4_tradeOf rmC_tradeOf D (zt cA) A g (.ref ((zk_sum 50 w (outW cA o h)).1 (0, 0, 0)) :: [.int a1, .int a2]) (zk_sum 50 w (outW cA o h)) _ _ := zX_sumL (n := 50) (w2 := outW cA o h) hM hn A
  refine zx_c (zx_rV (w := zk_sum 50 w (outW cA o h)) (As := [.int a1, .int a2]) (rest := [.int 0, .ref o]) (n := 2) (k := (0, 0, 0)) C hM2 hH hS hk he rfl gL_tradeOf_X4_tradeOf rfl rfl (by decide +kernel) ⟨Nat.le_of_ble_eq_true rfl, Nat.le_of_ble_eq_true rfl⟩ hl rfl (Nat.le_of_ble_eq_true rfl) dL_tradeOf_5 ⟨Nat.le_of_ble_eq_true rfl, Nat.le_of_ble_eq_true rfl⟩) hS (fun E ce q W' H1 locs1 hP hH1 hS1 hce hcv hcl => ?_) (fun v_ W' H locs hP hH_1 hS_1 => ?_)
  · obtain ⟨w', hPX, rfl⟩ := hP
    rcases hE E w' hPX with rfl | rfl
    · refine zx_catch C htab [] ⟨0, 9, 12, 13⟩ [⟨0, 9, 16, 15⟩] rfl zgI (by decide +kernel) (fun z hz => by cases hz) rfl (by decide) hce hcv hcl ?_
      refine lv_astore (lv' := [(4, .ref q), (0, .ref (w.1 (0, 0, 0))), (1, .int a1), (2, .int a2), (3, .ref o)]) hx hb dL_tradeOf_12 hl (by decide) rfl (fun ls hl2 => ?_)
      refine lv_iconst (v := 1) hx hb dL_tradeOf_14 (by decide) ?_
      exact zr_iret C hr (Or.inr (Or.inl ⟨w', hPX, rfl, rfl⟩)) hH1 hS1 (Nat.le_of_ble_eq_true rfl) (Nat.le_of_ble_eq_true rfl) dL_tradeOf_15
    · refine zx_catch C htab [⟨0, 9, 12, 13⟩] ⟨0, 9, 16, 15⟩ [] rfl zgA (by decide +kernel) (fun z hz => by cases List.mem_singleton.mp hz; exact ⟨by decide, xI, by decide +kernel, zgAI⟩) rfl (by decide) hce hcv hcl ?_
      refine lv_astore (lv' := [(4, .ref q), (0, .ref (w.1 (0, 0, 0))), (1, .int a1), (2, .int a2), (3, .ref o)]) hx hb dL_tradeOf_16 hl (by decide) rfl (fun ls hl2 => ?_)
      refine lv_iconst (v := 2) hx hb dL_tradeOf_18 (by decide) ?_
      exact zr_iret C hr (Or.inr (Or.inr ⟨w', hPX, rfl, rfl⟩)) hH1 hS1 (Nat.le_of_ble_eq_true rfl) (Nat.le_of_ble_eq_true rfl) dL_tradeOf_19
  · obtain ⟨w', ⟨r_, rfl, hPv⟩, rfl⟩ := hP
    refine W.eq (g2 := F0 m 8 ls [.long r_, .int 0, .ref o]) rfl ?_
    refine zr_last C hH_1 hS_1 (50, 0, 0) (show (zk_sum 50 w' (outW cA o h)).2.1 (50, 0, 0) from rfl) (f := h) rfl 1 rfl (j := 0) rfl (by decide) (by decide) dL_tradeOf_8 (zk_sum 50 w' (outW cA o (vp_updL h 0 r_))) out_up (fun H locs hH_2 hS_2 => ?_)
    refine lv_goto (tgt := 20) hx hb dL_tradeOf_9 (by decide) ?_
    refine lv_iconst (v := 0) hx hb dL_tradeOf_20 (by decide) ?_
    exact zr_iret C hr (Or.inl ⟨r_, w', hPv, rfl, rfl⟩) hH_2 hS_2 (Nat.le_of_ble_eq_true rfl) (Nat.le_of_ble_eq_true rfl) dL_tradeOf_21
def rmL_lot : Room := { frames := 10, cells := 3, slots := 18, locals := 190 }
set_option maxHeartbeats 1000000 in
set_option maxRecDepth 100000 in
theorem cW_lot (l : Launch) (D : va_G) (cA : Nat → ClassId) (g : Nat → Nat) (w : zk_W) (hk : w.2.1 (0, 0, 0)) {fs : List Value} (he : w.2.2 (0, 0, 0) = .inr (5, fs)) (hn : ∀ k, w.2.1 k → k.1 < 50) (o : Nat) (h : Nat → Int64) (P : Int64 → zk_W → Prop) (PX : String → zk_W → Prop) (a1 a2 a3 a4 : Int32) (hM : ∀ A, zX l yX4_lot wsX4_lot rmC_lot D (zt cA) A g [.ref (w.1 (0, 0, 0)), .int a1, .int a2, .int a3, .int a4] w (zQl P) PX) (hE : ∀ E w', PX E w' → E = xI ∨ E = xA) (A : Nat → Prop) : zM l yL_lot wsL_lot rmL_lot D (zt cA) A g [.ref (w.1 (0, 0, 0)), .int a1, .int a2, .int a3, .int a4, .ref o] (zk_sum 50 w (outW cA o h)) (zQi (fun r W' => (∃ x w', P x w' ∧ 0 = r ∧ zk_sum 50 w' (outW cA o (vp_updL h 0 (x))) = W') ∨ (∃ w', PX xI w' ∧ 1 = r ∧ zk_sum 50 w' (outW cA o h) = W') ∨ (∃ w', PX xA w' ∧ 2 = r ∧ zk_sum 50 w' (outW cA o h) = W'))) := by
  refine zM_ofH (cc := cL_lot) (maxL := 7) (ret := some .int) (own := RL) (hh := [(0, 13, 16, 13), (0, 13, 20, 15)]) (by decide +kernel) rfl (Nat.le_of_ble_eq_true rfl) rfl ?_
  intro p e s m below meth c C hr htab H locs ls hH hS hl
  obtain ⟨⟨hx, hb, hml, hown, hts⟩, hG, hlk⟩ := id C
  have hl : lv_has ls 7 [(0, .ref (w.1 (0, 0, 0))), (1, .int a1), (2, .int a2), (3, .int a3), (4, .int a4), (5, .ref o)] := hl
  refine lv_aload hx hb dL_lot_0 (lv_at hl 5 rfl) ?_
  refine lv_iconst (v := 0) hx hb dL_lot_2 (by decide) ?_
  refine lv_aload_n hx hb dL_lot_3 rfl (lv_at hl 0 rfl) ?_
  refine lv_iload_n hx hb dL_lot_4 rfl (lv_at hl 1 rfl) ?_
  refine lv_iload_n hx hb dL_lot_5 rfl (lv_at hl 2 rfl) ?_
  refine lv_iload_n hx hb dL_lot_6 rfl (lv_at hl 3 rfl) ?_
  refine lv_iload hx hb dL_lot_7 (lv_at hl 4 rfl) ?_
  have hM2 : zX l yX4_lot wsX4_lot rmC_lot D (zt cA) A g (.ref ((zk_sum 50 w (outW cA o h)).1 (0, 0, 0)) :: [.int a1, .int a2, .int a3, .int a4]) (zk_sum 50 w (outW cA o h)) _ _ := zX_sumL (n := 50) (w2 := outW cA o h) hM hn A
  refine zx_c (zx_rV (w := zk_sum 50 w (outW cA o h)) (As := [.int a1, .int a2, .int a3, .int a4]) (rest := [.int 0, .ref o]) (n := 4) (k := (0, 0, 0)) C hM2 hH hS hk he rfl gL_lot_X4_lot rfl rfl (by decide +kernel) ⟨Nat.le_of_ble_eq_true rfl, Nat.le_of_ble_eq_true rfl⟩ hl rfl (Nat.le_of_ble_eq_true rfl) dL_lot_9 ⟨Nat.le_of_ble_eq_true rfl, Nat.le_of_ble_eq_true rfl⟩) hS (fun E ce q W' H1 locs1 hP hH1 hS1 hce hcv hcl => ?_) (fun v_ W' H locs hP hH_1 hS_1 => ?_)
  · obtain ⟨w', hPX, rfl⟩ := hP
    rcases hE E w' hPX with rfl | rfl
    · refine zx_catch C htab [] ⟨0, 13, 16, 13⟩ [⟨0, 13, 20, 15⟩] rfl zgI (by decide +kernel) (fun z hz => by cases hz) rfl (by decide) hce hcv hcl ?_
      refine lv_astore (lv' := [(6, .ref q), (0, .ref (w.1 (0, 0, 0))), (1, .int a1), (2, .int a2), (3, .int a3), (4, .int a4), (5, .ref o)]) hx hb dL_lot_16 hl (by decide) rfl (fun ls hl2 => ?_)
      refine lv_iconst (v := 1) hx hb dL_lot_18 (by decide) ?_
      exact zr_iret C hr (Or.inr (Or.inl ⟨w', hPX, rfl, rfl⟩)) hH1 hS1 (Nat.le_of_ble_eq_true rfl) (Nat.le_of_ble_eq_true rfl) dL_lot_19
    · refine zx_catch C htab [⟨0, 13, 16, 13⟩] ⟨0, 13, 20, 15⟩ [] rfl zgA (by decide +kernel) (fun z hz => by cases List.mem_singleton.mp hz; exact ⟨by decide, xI, by decide +kernel, zgAI⟩) rfl (by decide) hce hcv hcl ?_
      refine lv_astore (lv' := [(6, .ref q), (0, .ref (w.1 (0, 0, 0))), (1, .int a1), (2, .int a2), (3, .int a3), (4, .int a4), (5, .ref o)]) hx hb dL_lot_20 hl (by decide) rfl (fun ls hl2 => ?_)
      refine lv_iconst (v := 2) hx hb dL_lot_22 (by decide) ?_
      exact zr_iret C hr (Or.inr (Or.inr ⟨w', hPX, rfl, rfl⟩)) hH1 hS1 (Nat.le_of_ble_eq_true rfl) (Nat.le_of_ble_eq_true rfl) dL_lot_23
  · obtain ⟨w', ⟨r_, rfl, hPv⟩, rfl⟩ := hP
    refine W.eq (g2 := F0 m 12 ls [.long r_, .int 0, .ref o]) rfl ?_
    refine zr_last C hH_1 hS_1 (50, 0, 0) (show (zk_sum 50 w' (outW cA o h)).2.1 (50, 0, 0) from rfl) (f := h) rfl 1 rfl (j := 0) rfl (by decide) (by decide) dL_lot_12 (zk_sum 50 w' (outW cA o (vp_updL h 0 r_))) out_up (fun H locs hH_2 hS_2 => ?_)
    refine lv_goto (tgt := 24) hx hb dL_lot_13 (by decide) ?_
    refine lv_iconst (v := 0) hx hb dL_lot_24 (by decide) ?_
    exact zr_iret C hr (Or.inl ⟨r_, w', hPv, rfl, rfl⟩) hH_2 hS_2 (Nat.le_of_ble_eq_true rfl) (Nat.le_of_ble_eq_true rfl) dL_lot_25
def rmL_year : Room := { frames := 9, cells := 2, slots := 12, locals := 163 }
set_option maxHeartbeats 1000000 in
set_option maxRecDepth 100000 in
theorem cW_year (l : Launch) (D : va_G) (cA : Nat → ClassId) (g : Nat → Nat) (w : zk_W) (hk : w.2.1 (0, 0, 0)) {fs : List Value} (he : w.2.2 (0, 0, 0) = .inr (5, fs)) (hn : ∀ k, w.2.1 k → k.1 < 50) (o : Nat) (h : Nat → Int64) (P : Int64 → zk_W → Prop) (PX : String → zk_W → Prop) (a1 a2 a3 : Int32) (hM : ∀ A, zX l yX4_year wsX4_year rmC_year D (zt cA) A g [.ref (w.1 (0, 0, 0)), .int a1, .int a2, .int a3] w (zQl P) PX) (hE : ∀ E w', PX E w' → E = xI ∨ E = xA) (A : Nat → Prop) : zM l yL_year wsL_year rmL_year D (zt cA) A g [.ref (w.1 (0, 0, 0)), .int a1, .int a2, .int a3, .ref o] (zk_sum 50 w (outW cA o h)) (zQi (fun r W' => (∃ x w', P x w' ∧ 0 = r ∧ zk_sum 50 w' (outW cA o (vp_updL h 0 (x))) = W') ∨ (∃ w', PX xI w' ∧ 1 = r ∧ zk_sum 50 w' (outW cA o h) = W') ∨ (∃ w', PX xA w' ∧ 2 = r ∧ zk_sum 50 w' (outW cA o h) = W'))) := by
  refine zM_ofH (cc := cL_year) (maxL := 6) (ret := some .int) (own := RL) (hh := [(0, 11, 14, 13), (0, 11, 18, 15)]) (by decide +kernel) rfl (Nat.le_of_ble_eq_true rfl) rfl ?_
  intro p e s m below meth c C hr htab H locs ls hH hS hl
  obtain ⟨⟨hx, hb, hml, hown, hts⟩, hG, hlk⟩ := id C
  have hl : lv_has ls 6 [(0, .ref (w.1 (0, 0, 0))), (1, .int a1), (2, .int a2), (3, .int a3), (4, .ref o)] := hl
  refine lv_aload hx hb dL_year_0 (lv_at hl 4 rfl) ?_
  refine lv_iconst (v := 0) hx hb dL_year_2 (by decide) ?_
  refine lv_aload_n hx hb dL_year_3 rfl (lv_at hl 0 rfl) ?_
  refine lv_iload_n hx hb dL_year_4 rfl (lv_at hl 1 rfl) ?_
  refine lv_iload_n hx hb dL_year_5 rfl (lv_at hl 2 rfl) ?_
  refine lv_iload_n hx hb dL_year_6 rfl (lv_at hl 3 rfl) ?_
  have hM2 : zX l yX4_year wsX4_year rmC_year D (zt cA) A g (.ref ((zk_sum 50 w (outW cA o h)).1 (0, 0, 0)) :: [.int a1, .int a2, .int a3]) (zk_sum 50 w (outW cA o h)) _ _ := zX_sumL (n := 50) (w2 := outW cA o h) hM hn A
  refine zx_c (zx_rV (w := zk_sum 50 w (outW cA o h)) (As := [.int a1, .int a2, .int a3]) (rest := [.int 0, .ref o]) (n := 3) (k := (0, 0, 0)) C hM2 hH hS hk he rfl gL_year_X4_year rfl rfl (by decide +kernel) ⟨Nat.le_of_ble_eq_true rfl, Nat.le_of_ble_eq_true rfl⟩ hl rfl (Nat.le_of_ble_eq_true rfl) dL_year_7 ⟨Nat.le_of_ble_eq_true rfl, Nat.le_of_ble_eq_true rfl⟩) hS (fun E ce q W' H1 locs1 hP hH1 hS1 hce hcv hcl => ?_) (fun v_ W' H locs hP hH_1 hS_1 => ?_)
  · obtain ⟨w', hPX, rfl⟩ := hP
    rcases hE E w' hPX with rfl | rfl
    · refine zx_catch C htab [] ⟨0, 11, 14, 13⟩ [⟨0, 11, 18, 15⟩] rfl zgI (by decide +kernel) (fun z hz => by cases hz) rfl (by decide) hce hcv hcl ?_
      refine lv_astore (lv' := [(5, .ref q), (0, .ref (w.1 (0, 0, 0))), (1, .int a1), (2, .int a2), (3, .int a3), (4, .ref o)]) hx hb dL_year_14 hl (by decide) rfl (fun ls hl2 => ?_)
      refine lv_iconst (v := 1) hx hb dL_year_16 (by decide) ?_
      exact zr_iret C hr (Or.inr (Or.inl ⟨w', hPX, rfl, rfl⟩)) hH1 hS1 (Nat.le_of_ble_eq_true rfl) (Nat.le_of_ble_eq_true rfl) dL_year_17
    · refine zx_catch C htab [⟨0, 11, 14, 13⟩] ⟨0, 11, 18, 15⟩ [] rfl zgA (by decide +kernel) (fun z hz => by cases List.mem_singleton.mp hz; exact ⟨by decide, xI, by decide +kernel, zgAI⟩) rfl (by decide) hce hcv hcl ?_
      refine lv_astore (lv' := [(5, .ref q), (0, .ref (w.1 (0, 0, 0))), (1, .int a1), (2, .int a2), (3, .int a3), (4, .ref o)]) hx hb dL_year_18 hl (by decide) rfl (fun ls hl2 => ?_)
      refine lv_iconst (v := 2) hx hb dL_year_20 (by decide) ?_
      exact zr_iret C hr (Or.inr (Or.inr ⟨w', hPX, rfl, rfl⟩)) hH1 hS1 (Nat.le_of_ble_eq_true rfl) (Nat.le_of_ble_eq_true rfl) dL_year_21
  · obtain ⟨w', ⟨r_, rfl, hPv⟩, rfl⟩ := hP
    refine W.eq (g2 := F0 m 10 ls [.long r_, .int 0, .ref o]) rfl ?_
    refine zr_last C hH_1 hS_1 (50, 0, 0) (show (zk_sum 50 w' (outW cA o h)).2.1 (50, 0, 0) from rfl) (f := h) rfl 1 rfl (j := 0) rfl (by decide) (by decide) dL_year_10 (zk_sum 50 w' (outW cA o (vp_updL h 0 r_))) out_up (fun H locs hH_2 hS_2 => ?_)
    refine lv_goto (tgt := 22) hx hb dL_year_11 (by decide) ?_
    refine lv_iconst (v := 0) hx hb dL_year_22 (by decide) ?_
    exact zr_iret C hr (Or.inl ⟨r_, w', hPv, rfl, rfl⟩) hH_2 hS_2 (Nat.le_of_ble_eq_true rfl) (Nat.le_of_ble_eq_true rfl) dL_year_23
def rmL_wealth : Room := { frames := 9, cells := 1, slots := 6, locals := 160 }
set_option maxHeartbeats 1000000 in
set_option maxRecDepth 100000 in
theorem cW_wealth (l : Launch) (D : va_G) (cA : Nat → ClassId) (g : Nat → Nat) (w : zk_W) (hk : w.2.1 (0, 0, 0)) {fs : List Value} (he : w.2.2 (0, 0, 0) = .inr (5, fs)) (hn : ∀ k, w.2.1 k → k.1 < 50) (o : Nat) (h : Nat → Int64) (P : Int64 → zk_W → Prop) (PX : String → zk_W → Prop) (a1 : Int32) (hM : ∀ A, zX l yX4_wealth wsX4_wealth rmC_wealth D (zt cA) A g [.ref (w.1 (0, 0, 0)), .int a1] w (zQl P) PX) (hE : ∀ E w', PX E w' → E = xI) (A : Nat → Prop) : zM l yL_wealth wsL_wealth rmL_wealth D (zt cA) A g [.ref (w.1 (0, 0, 0)), .int a1, .ref o] (zk_sum 50 w (outW cA o h)) (zQi (fun r W' => (∃ x w', P x w' ∧ 0 = r ∧ zk_sum 50 w' (outW cA o (vp_updL h 0 (x))) = W') ∨ (∃ w', PX xI w' ∧ 1 = r ∧ zk_sum 50 w' (outW cA o h) = W'))) := by
  refine zM_ofH (cc := cL_wealth) (maxL := 4) (ret := some .int) (own := RL) (hh := [(0, 8, 11, 13)]) (by decide +kernel) rfl (Nat.le_of_ble_eq_true rfl) rfl ?_
  intro p e s m below meth c C hr htab H locs ls hH hS hl
  obtain ⟨⟨hx, hb, hml, hown, hts⟩, hG, hlk⟩ := id C
  have hl : lv_has ls 4 [(0, .ref (w.1 (0, 0, 0))), (1, .int a1), (2, .ref o)] := hl
  refine lv_aload_n hx hb dL_wealth_0 rfl (lv_at hl 2 rfl) ?_
  refine lv_iconst (v := 0) hx hb dL_wealth_1 (by decide) ?_
  refine lv_aload_n hx hb dL_wealth_2 rfl (lv_at hl 0 rfl) ?_
  refine lv_iload_n hx hb dL_wealth_3 rfl (lv_at hl 1 rfl) ?_
  have hM2 : zX l yX4_wealth wsX4_wealth rmC_wealth D (zt cA) A g (.ref ((zk_sum 50 w (outW cA o h)).1 (0, 0, 0)) :: [.int a1]) (zk_sum 50 w (outW cA o h)) _ _ := zX_sumL (n := 50) (w2 := outW cA o h) hM hn A
  refine zx_c (zx_rV (w := zk_sum 50 w (outW cA o h)) (As := [.int a1]) (rest := [.int 0, .ref o]) (n := 1) (k := (0, 0, 0)) C hM2 hH hS hk he rfl gL_wealth_X4_wealth rfl rfl (by decide +kernel) ⟨Nat.le_of_ble_eq_true rfl, Nat.le_of_ble_eq_true rfl⟩ hl rfl (Nat.le_of_ble_eq_true rfl) dL_wealth_4 ⟨Nat.le_of_ble_eq_true rfl, Nat.le_of_ble_eq_true rfl⟩) hS (fun E ce q W' H1 locs1 hP hH1 hS1 hce hcv hcl => ?_) (fun v_ W' H locs hP hH_1 hS_1 => ?_)
  · obtain ⟨w', hPX, rfl⟩ := hP
    have hEq := hE E w' hPX
    subst hEq
    refine zx_catch C htab [] ⟨0, 8, 11, 13⟩ [] rfl zgI (by decide +kernel) (fun z hz => by cases hz) rfl (by decide) hce hcv hcl ?_
    refine lv_astore_n (lv' := [(3, .ref q), (0, .ref (w.1 (0, 0, 0))), (1, .int a1), (2, .ref o)]) hx hb dL_wealth_11 rfl hl (by decide) rfl (fun ls hl2 => ?_)
    refine lv_iconst (v := 1) hx hb dL_wealth_12 (by decide) ?_
    exact zr_iret C hr (Or.inr ⟨w', hPX, rfl, rfl⟩) hH1 hS1 (Nat.le_of_ble_eq_true rfl) (Nat.le_of_ble_eq_true rfl) dL_wealth_13
  · obtain ⟨w', ⟨r_, rfl, hPv⟩, rfl⟩ := hP
    refine W.eq (g2 := F0 m 7 ls [.long r_, .int 0, .ref o]) rfl ?_
    refine zr_last C hH_1 hS_1 (50, 0, 0) (show (zk_sum 50 w' (outW cA o h)).2.1 (50, 0, 0) from rfl) (f := h) rfl 1 rfl (j := 0) rfl (by decide) (by decide) dL_wealth_7 (zk_sum 50 w' (outW cA o (vp_updL h 0 r_))) out_up (fun H locs hH_2 hS_2 => ?_)
    refine lv_goto (tgt := 14) hx hb dL_wealth_8 (by decide) ?_
    refine lv_iconst (v := 0) hx hb dL_wealth_14 (by decide) ?_
    exact zr_iret C hr (Or.inl ⟨r_, w', hPv, rfl, rfl⟩) hH_2 hS_2 (Nat.le_of_ble_eq_true rfl) (Nat.le_of_ble_eq_true rfl) dL_wealth_15
