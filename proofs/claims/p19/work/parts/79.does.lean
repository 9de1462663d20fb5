/-! ===== the law's 'does' ===== -/
theorem hp3 {Q : ExceptionTableEntry → Prop} {a b : ExceptionTableEntry} (ha : Q a) (hb : Q b) : ∀ z ∈ [a, b], Q z := by
  intro z hz
  rcases List.mem_cons.mp hz with rfl | hz
  · exact ha
  · cases List.mem_singleton.mp hz
    exact hb
theorem zgI : xI ∈ zg_X := List.mem_cons_self
theorem zgA : xA ∈ zg_X := List.mem_cons_of_mem _ List.mem_cons_self
theorem zgS : xS ∈ zg_X := List.mem_cons_of_mem _ (List.mem_cons_of_mem _ List.mem_cons_self)
theorem zgAI : (xA, xI) ∈ zg_Nc := List.mem_cons_self
theorem zgSI : (xS, xI) ∈ zg_Nc := List.mem_cons_of_mem _ List.mem_cons_self
theorem zgSA : (xS, xA) ∈ zg_Nc := List.mem_cons_of_mem _ (List.mem_cons_of_mem _ List.mem_cons_self)
/-- what 'does' answers: the call's answer, or the number of what was thrown -/
def zDo (P : Int64 → zk_W → Prop) (PX : String → zk_W → Prop) : Int64 → zk_W → Prop := fun r W' => P r W' ∨ (PX xI W' ∧ r = -3000000000000) ∨ (PX xA W' ∧ r = -2000000000000) ∨ (PX xS W' ∧ r = -1000000000000)
/-- an int's answer as a long -/
def zIL (P : Int32 → zk_W → Prop) : Int64 → zk_W → Prop := fun r W' => ∃ x, P x W' ∧ Int32.toInt64 x = r
def rmD_price : Room := { frames := 9, cells := 2, slots := 12, locals := 163 }
set_option maxHeartbeats 1000000 in
set_option maxRecDepth 100000 in
theorem cD_price (l : Launch) (D : va_G) (cA : Nat → ClassId) (A : Nat → Prop) (g : Nat → Nat) (w : zk_W) (hk : w.2.1 (0, 0, 0)) {fs : List Value} (he : w.2.2 (0, 0, 0) = .inr (5, fs)) (P : Int32 → zk_W → Prop) (PX : String → zk_W → Prop) (a b c : Int32) (hM : zX l yX4_price wsX4_price rmC_price D (zt cA) A g [.ref (w.1 (0, 0, 0)), .int a, .int b] w (zQi P) PX) (hE : ∀ E w', PX E w' → E = xI ∨ E = xA ∨ E = xS) : zM l yL_does wsL_does rmD_price D (zt cA) A g [.ref (w.1 (0, 0, 0)), .int 0, .int a, .int b, .int c] w (zQl (zDo (zIL P) PX)) := by
  refine zM_ofH (cc := cL_does) (maxL := 6) (ret := some .long) (own := RL) (hh := [(0, 192, 193, 57), (0, 192, 199, 61), (0, 192, 205, 65)]) (by decide +kernel) rfl (Nat.le_of_ble_eq_true rfl) rfl ?_
  intro p e s m below meth cm C hr htab H locs ls hH hS hl
  obtain ⟨⟨hx, hb, hml, hown, hts⟩, hG, hlk⟩ := id C
  have hl : lv_has ls 6 [(0, .ref (w.1 (0, 0, 0))), (1, .int 0), (2, .int a), (3, .int b), (4, .int c)] := hl
  refine lv_iload_n hx hb dL_does_0 rfl (lv_at hl 1 rfl) ?_
  refine lv_if_ne (tgt := 14) hx hb dL_does_1 (by decide) (fun c9 => absurd rfl c9) (fun _ => ?_)
  refine lv_aload_n hx hb dL_does_4 rfl (lv_at hl 0 rfl) ?_
  refine lv_iload_n hx hb dL_does_5 rfl (lv_at hl 2 rfl) ?_
  refine lv_iload_n hx hb dL_does_6 rfl (lv_at hl 3 rfl) ?_
  refine zx_c (zx_rV (w := w) (As := [.int a, .int b]) (rest := []) (n := 2) (k := (0, 0, 0)) C hM hH hS hk he rfl gL_does_X4_price rfl rfl (by decide +kernel) ⟨Nat.le_of_ble_eq_true rfl, Nat.le_of_ble_eq_true rfl⟩ hl rfl (Nat.le_of_ble_eq_true rfl) dL_does_7 ⟨Nat.le_of_ble_eq_true rfl, Nat.le_of_ble_eq_true rfl⟩) hS (fun E ce q w' H1 locs1 hPX hH1 hS1 hce hcv hcl => ?_) (fun v_ w' H locs hP hH1 hS1 => ?_)
  · rcases hE E w' hPX with rfl | rfl | rfl
    · refine zx_catch C htab [] ⟨0, 192, 193, 57⟩ [⟨0, 192, 199, 61⟩, ⟨0, 192, 205, 65⟩] rfl zgI (by decide +kernel) (fun z hz => by cases hz) rfl (by decide) hce hcv hcl ?_
      refine lv_astore (lv' := [(5, .ref q), (0, .ref (w.1 (0, 0, 0))), (1, .int 0), (2, .int a), (3, .int b), (4, .int c)]) hx hb dL_does_193 hl (by decide) rfl (fun ls hl2 => ?_)
      refine lv_ldc2 (v := (-3000000000000)) hx hb hown (hts (.constantLong RL 59 (-3000000000000)) (by decide +kernel)) dL_does_195 ?_
      exact zr_lret C hr (Or.inr (Or.inl ⟨hPX, rfl⟩)) hH1 hS1 (Nat.le_of_ble_eq_true rfl) (Nat.le_of_ble_eq_true rfl) dL_does_198
    · refine zx_catch C htab [⟨0, 192, 193, 57⟩] ⟨0, 192, 199, 61⟩ [⟨0, 192, 205, 65⟩] rfl zgA (by decide +kernel) (fun z hz => by cases List.mem_singleton.mp hz; exact ⟨by decide, xI, by decide +kernel, zgAI⟩) rfl (by decide) hce hcv hcl ?_
      refine lv_astore (lv' := [(5, .ref q), (0, .ref (w.1 (0, 0, 0))), (1, .int 0), (2, .int a), (3, .int b), (4, .int c)]) hx hb dL_does_199 hl (by decide) rfl (fun ls hl2 => ?_)
      refine lv_ldc2 (v := (-2000000000000)) hx hb hown (hts (.constantLong RL 63 (-2000000000000)) (by decide +kernel)) dL_does_201 ?_
      exact zr_lret C hr (Or.inr (Or.inr (Or.inl ⟨hPX, rfl⟩))) hH1 hS1 (Nat.le_of_ble_eq_true rfl) (Nat.le_of_ble_eq_true rfl) dL_does_204
    · refine zx_catch C htab [⟨0, 192, 193, 57⟩, ⟨0, 192, 199, 61⟩] ⟨0, 192, 205, 65⟩ [] rfl zgS (by decide +kernel) (hp3 ⟨by decide, xI, by decide +kernel, zgSI⟩ ⟨by decide, xA, by decide +kernel, zgSA⟩) rfl (by decide) hce hcv hcl ?_
      refine lv_astore (lv' := [(5, .ref q), (0, .ref (w.1 (0, 0, 0))), (1, .int 0), (2, .int a), (3, .int b), (4, .int c)]) hx hb dL_does_205 hl (by decide) rfl (fun ls hl2 => ?_)
      refine lv_ldc2 (v := (-1000000000000)) hx hb hown (hts (.constantLong RL 67 (-1000000000000)) (by decide +kernel)) dL_does_207 ?_
      exact zr_lret C hr (Or.inr (Or.inr (Or.inr ⟨hPX, rfl⟩))) hH1 hS1 (Nat.le_of_ble_eq_true rfl) (Nat.le_of_ble_eq_true rfl) dL_does_210
  · obtain ⟨r_, rfl, hPv⟩ := hP
    refine W.eq (g2 := F0 m 10 ls [.int r_]) rfl ?_
    refine lv_i2l (v := Int32.toInt64 r_) hx hb dL_does_10 rfl ?_
    refine lv_goto (tgt := 192) hx hb dL_does_11 (by decide) ?_
    exact zr_lret C hr (Or.inl ⟨r_, hPv, rfl⟩) hH1 hS1 (Nat.le_of_ble_eq_true rfl) (Nat.le_of_ble_eq_true rfl) dL_does_192
def rmD_client : Room := { frames := 8, cells := 17, slots := 1215, locals := 218 }
set_option maxHeartbeats 1000000 in
set_option maxRecDepth 100000 in
theorem cD_client (l : Launch) (D : va_G) (cA : Nat → ClassId) (A : Nat → Prop) (g : Nat → Nat) (w : zk_W) (hk : w.2.1 (0, 0, 0)) {fs : List Value} (he : w.2.2 (0, 0, 0) = .inr (5, fs)) (P : Int32 → zk_W → Prop) (PX : String → zk_W → Prop) (a b c : Int32) (hM : zX l yX4_client wsX4_client rmC_client D (zt cA) A g [.ref (w.1 (0, 0, 0))] w (zQi P) PX) (hE : ∀ E w', PX E w' → E = xI ∨ E = xA ∨ E = xS) : zM l yL_does wsL_does rmD_client D (zt cA) A g [.ref (w.1 (0, 0, 0)), .int 1, .int a, .int b, .int c] w (zQl (zDo (zIL P) PX)) := by
  refine zM_ofH (cc := cL_does) (maxL := 6) (ret := some .long) (own := RL) (hh := [(0, 192, 193, 57), (0, 192, 199, 61), (0, 192, 205, 65)]) (by decide +kernel) rfl (Nat.le_of_ble_eq_true rfl) rfl ?_
  intro p e s m below meth cm C hr htab H locs ls hH hS hl
  obtain ⟨⟨hx, hb, hml, hown, hts⟩, hG, hlk⟩ := id C
  have hl : lv_has ls 6 [(0, .ref (w.1 (0, 0, 0))), (1, .int 1), (2, .int a), (3, .int b), (4, .int c)] := hl
  refine lv_iload_n hx hb dL_does_0 rfl (lv_at hl 1 rfl) ?_
  refine lv_if_ne (tgt := 14) hx hb dL_does_1 (by decide) (fun _ => ?_) (fun c9 => absurd c9 (by decide))
  refine lv_iload_n hx hb dL_does_14 rfl (lv_at hl 1 rfl) ?_
  refine lv_iconst (v := 1) hx hb dL_does_15 (by decide) ?_
  refine lv_icmp_ne (tgt := 27) hx hb dL_does_16 (by decide) (fun c9 => absurd rfl c9) (fun _ => ?_)
  refine lv_aload_n hx hb dL_does_19 rfl (lv_at hl 0 rfl) ?_
  refine zx_c (zx_rV (w := w) (As := []) (rest := []) (n := 0) (k := (0, 0, 0)) C hM hH hS hk he rfl gL_does_X4_client rfl rfl (by decide +kernel) ⟨Nat.le_of_ble_eq_true rfl, Nat.le_of_ble_eq_true rfl⟩ hl rfl (Nat.le_of_ble_eq_true rfl) dL_does_20 ⟨Nat.le_of_ble_eq_true rfl, Nat.le_of_ble_eq_true rfl⟩) hS (fun E ce q w' H1 locs1 hPX hH1 hS1 hce hcv hcl => ?_) (fun v_ w' H locs hP hH1 hS1 => ?_)
  · rcases hE E w' hPX with rfl | rfl | rfl
    · refine zx_catch C htab [] ⟨0, 192, 193, 57⟩ [⟨0, 192, 199, 61⟩, ⟨0, 192, 205, 65⟩] rfl zgI (by decide +kernel) (fun z hz => by cases hz) rfl (by decide) hce hcv hcl ?_
      refine lv_astore (lv' := [(5, .ref q), (0, .ref (w.1 (0, 0, 0))), (1, .int 1), (2, .int a), (3, .int b), (4, .int c)]) hx hb dL_does_193 hl (by decide) rfl (fun ls hl2 => ?_)
      refine lv_ldc2 (v := (-3000000000000)) hx hb hown (hts (.constantLong RL 59 (-3000000000000)) (by decide +kernel)) dL_does_195 ?_
      exact zr_lret C hr (Or.inr (Or.inl ⟨hPX, rfl⟩)) hH1 hS1 (Nat.le_of_ble_eq_true rfl) (Nat.le_of_ble_eq_true rfl) dL_does_198
    · refine zx_catch C htab [⟨0, 192, 193, 57⟩] ⟨0, 192, 199, 61⟩ [⟨0, 192, 205, 65⟩] rfl zgA (by decide +kernel) (fun z hz => by cases List.mem_singleton.mp hz; exact ⟨by decide, xI, by decide +kernel, zgAI⟩) rfl (by decide) hce hcv hcl ?_
      refine lv_astore (lv' := [(5, .ref q), (0, .ref (w.1 (0, 0, 0))), (1, .int 1), (2, .int a), (3, .int b), (4, .int c)]) hx hb dL_does_199 hl (by decide) rfl (fun ls hl2 => ?_)
      refine lv_ldc2 (v := (-2000000000000)) hx hb hown (hts (.constantLong RL 63 (-2000000000000)) (by decide +kernel)) dL_does_201 ?_
      exact zr_lret C hr (Or.inr (Or.inr (Or.inl ⟨hPX, rfl⟩))) hH1 hS1 (Nat.le_of_ble_eq_true rfl) (Nat.le_of_ble_eq_true rfl) dL_does_204
    · refine zx_catch C htab [⟨0, 192, 193, 57⟩, ⟨0, 192, 199, 61⟩] ⟨0, 192, 205, 65⟩ [] rfl zgS (by decide +kernel) (hp3 ⟨by decide, xI, by decide +kernel, zgSI⟩ ⟨by decide, xA, by decide +kernel, zgSA⟩) rfl (by decide) hce hcv hcl ?_
      refine lv_astore (lv' := [(5, .ref q), (0, .ref (w.1 (0, 0, 0))), (1, .int 1), (2, .int a), (3, .int b), (4, .int c)]) hx hb dL_does_205 hl (by decide) rfl (fun ls hl2 => ?_)
      refine lv_ldc2 (v := (-1000000000000)) hx hb hown (hts (.constantLong RL 67 (-1000000000000)) (by decide +kernel)) dL_does_207 ?_
      exact zr_lret C hr (Or.inr (Or.inr (Or.inr ⟨hPX, rfl⟩))) hH1 hS1 (Nat.le_of_ble_eq_true rfl) (Nat.le_of_ble_eq_true rfl) dL_does_210
  · obtain ⟨r_, rfl, hPv⟩ := hP
    refine W.eq (g2 := F0 m 23 ls [.int r_]) rfl ?_
    refine lv_i2l (v := Int32.toInt64 r_) hx hb dL_does_23 rfl ?_
    refine lv_goto (tgt := 192) hx hb dL_does_24 (by decide) ?_
    exact zr_lret C hr (Or.inl ⟨r_, hPv, rfl⟩) hH1 hS1 (Nat.le_of_ble_eq_true rfl) (Nat.le_of_ble_eq_true rfl) dL_does_192
def rmD_pay : Room := { frames := 9, cells := 2, slots := 12, locals := 162 }
set_option maxHeartbeats 1000000 in
set_option maxRecDepth 100000 in
theorem cD_pay (l : Launch) (D : va_G) (cA : Nat → ClassId) (A : Nat → Prop) (g : Nat → Nat) (w : zk_W) (hk : w.2.1 (0, 0, 0)) {fs : List Value} (he : w.2.2 (0, 0, 0) = .inr (5, fs)) (P : Int64 → zk_W → Prop) (PX : String → zk_W → Prop) (a b c : Int32) (hM : zX l yX4_pay wsX4_pay rmC_pay D (zt cA) A g [.ref (w.1 (0, 0, 0)), .int a, .int b] w (zQl P) PX) (hE : ∀ E w', PX E w' → E = xI ∨ E = xA ∨ E = xS) : zM l yL_does wsL_does rmD_pay D (zt cA) A g [.ref (w.1 (0, 0, 0)), .int 2, .int a, .int b, .int c] w (zQl (zDo P PX)) := by
  refine zM_ofH (cc := cL_does) (maxL := 6) (ret := some .long) (own := RL) (hh := [(0, 192, 193, 57), (0, 192, 199, 61), (0, 192, 205, 65)]) (by decide +kernel) rfl (Nat.le_of_ble_eq_true rfl) rfl ?_
  intro p e s m below meth cm C hr htab H locs ls hH hS hl
  obtain ⟨⟨hx, hb, hml, hown, hts⟩, hG, hlk⟩ := id C
  have hl : lv_has ls 6 [(0, .ref (w.1 (0, 0, 0))), (1, .int 2), (2, .int a), (3, .int b), (4, .int c)] := hl
  refine lv_iload_n hx hb dL_does_0 rfl (lv_at hl 1 rfl) ?_
  refine lv_if_ne (tgt := 14) hx hb dL_does_1 (by decide) (fun _ => ?_) (fun c9 => absurd c9 (by decide))
  refine lv_iload_n hx hb dL_does_14 rfl (lv_at hl 1 rfl) ?_
  refine lv_iconst (v := 1) hx hb dL_does_15 (by decide) ?_
  refine lv_icmp_ne (tgt := 27) hx hb dL_does_16 (by decide) (fun _ => ?_) (fun c9 => absurd c9 (by decide))
  refine lv_iload_n hx hb dL_does_27 rfl (lv_at hl 1 rfl) ?_
  refine lv_iconst (v := 2) hx hb dL_does_28 (by decide) ?_
  refine lv_icmp_ne (tgt := 41) hx hb dL_does_29 (by decide) (fun c9 => absurd rfl c9) (fun _ => ?_)
  refine lv_aload_n hx hb dL_does_32 rfl (lv_at hl 0 rfl) ?_
  refine lv_iload_n hx hb dL_does_33 rfl (lv_at hl 2 rfl) ?_
  refine lv_iload_n hx hb dL_does_34 rfl (lv_at hl 3 rfl) ?_
  refine zx_c (zx_rV (w := w) (As := [.int a, .int b]) (rest := []) (n := 2) (k := (0, 0, 0)) C hM hH hS hk he rfl gL_does_X4_pay rfl rfl (by decide +kernel) ⟨Nat.le_of_ble_eq_true rfl, Nat.le_of_ble_eq_true rfl⟩ hl rfl (Nat.le_of_ble_eq_true rfl) dL_does_35 ⟨Nat.le_of_ble_eq_true rfl, Nat.le_of_ble_eq_true rfl⟩) hS (fun E ce q w' H1 locs1 hPX hH1 hS1 hce hcv hcl => ?_) (fun v_ w' H locs hP hH1 hS1 => ?_)
  · rcases hE E w' hPX with rfl | rfl | rfl
    · refine zx_catch C htab [] ⟨0, 192, 193, 57⟩ [⟨0, 192, 199, 61⟩, ⟨0, 192, 205, 65⟩] rfl zgI (by decide +kernel) (fun z hz => by cases hz) rfl (by decide) hce hcv hcl ?_
      refine lv_astore (lv' := [(5, .ref q), (0, .ref (w.1 (0, 0, 0))), (1, .int 2), (2, .int a), (3, .int b), (4, .int c)]) hx hb dL_does_193 hl (by decide) rfl (fun ls hl2 => ?_)
      refine lv_ldc2 (v := (-3000000000000)) hx hb hown (hts (.constantLong RL 59 (-3000000000000)) (by decide +kernel)) dL_does_195 ?_
      exact zr_lret C hr (Or.inr (Or.inl ⟨hPX, rfl⟩)) hH1 hS1 (Nat.le_of_ble_eq_true rfl) (Nat.le_of_ble_eq_true rfl) dL_does_198
    · refine zx_catch C htab [⟨0, 192, 193, 57⟩] ⟨0, 192, 199, 61⟩ [⟨0, 192, 205, 65⟩] rfl zgA (by decide +kernel) (fun z hz => by cases List.mem_singleton.mp hz; exact ⟨by decide, xI, by decide +kernel, zgAI⟩) rfl (by decide) hce hcv hcl ?_
      refine lv_astore (lv' := [(5, .ref q), (0, .ref (w.1 (0, 0, 0))), (1, .int 2), (2, .int a), (3, .int b), (4, .int c)]) hx hb dL_does_199 hl (by decide) rfl (fun ls hl2 => ?_)
      refine lv_ldc2 (v := (-2000000000000)) hx hb hown (hts (.constantLong RL 63 (-2000000000000)) (by decide +kernel)) dL_does_201 ?_
      exact zr_lret C hr (Or.inr (Or.inr (Or.inl ⟨hPX, rfl⟩))) hH1 hS1 (Nat.le_of_ble_eq_true rfl) (Nat.le_of_ble_eq_true rfl) dL_does_204
    · refine zx_catch C htab [⟨0, 192, 193, 57⟩, ⟨0, 192, 199, 61⟩] ⟨0, 192, 205, 65⟩ [] rfl zgS (by decide +kernel) (hp3 ⟨by decide, xI, by decide +kernel, zgSI⟩ ⟨by decide, xA, by decide +kernel, zgSA⟩) rfl (by decide) hce hcv hcl ?_
      refine lv_astore (lv' := [(5, .ref q), (0, .ref (w.1 (0, 0, 0))), (1, .int 2), (2, .int a), (3, .int b), (4, .int c)]) hx hb dL_does_205 hl (by decide) rfl (fun ls hl2 => ?_)
      refine lv_ldc2 (v := (-1000000000000)) hx hb hown (hts (.constantLong RL 67 (-1000000000000)) (by decide +kernel)) dL_does_207 ?_
      exact zr_lret C hr (Or.inr (Or.inr (Or.inr ⟨hPX, rfl⟩))) hH1 hS1 (Nat.le_of_ble_eq_true rfl) (Nat.le_of_ble_eq_true rfl) dL_does_210
  · obtain ⟨r_, rfl, hPv⟩ := hP
    refine W.eq (g2 := F0 m 38 ls [.long r_]) rfl ?_
    refine lv_goto (tgt := 192) hx hb dL_does_38 (by decide) ?_
    exact zr_lret C hr (Or.inl hPv) hH1 hS1 (Nat.le_of_ble_eq_true rfl) (Nat.le_of_ble_eq_true rfl) dL_does_192
def rmD_goal : Room := { frames := 10, cells := 3, slots := 18, locals := 187 }
set_option maxHeartbeats 1000000 in
set_option maxRecDepth 100000 in
theorem cD_goal (l : Launch) (D : va_G) (cA : Nat → ClassId) (A : Nat → Prop) (g : Nat → Nat) (w : zk_W) (hk : w.2.1 (0, 0, 0)) {fs : List Value} (he : w.2.2 (0, 0, 0) = .inr (5, fs)) (P : Int32 → zk_W → Prop) (PX : String → zk_W → Prop) (a b c : Int32) (hM : zX l yX4_goal wsX4_goal rmC_goal D (zt cA) A g [.ref (w.1 (0, 0, 0)), .int a, .int b, .int c] w (zQi P) PX) (hE : ∀ E w', PX E w' → E = xI ∨ E = xA ∨ E = xS) : zM l yL_does wsL_does rmD_goal D (zt cA) A g [.ref (w.1 (0, 0, 0)), .int 3, .int a, .int b, .int c] w (zQl (zDo (zIL P) PX)) := by
  refine zM_ofH (cc := cL_does) (maxL := 6) (ret := some .long) (own := RL) (hh := [(0, 192, 193, 57), (0, 192, 199, 61), (0, 192, 205, 65)]) (by decide +kernel) rfl (Nat.le_of_ble_eq_true rfl) rfl ?_
  intro p e s m below meth cm C hr htab H locs ls hH hS hl
  obtain ⟨⟨hx, hb, hml, hown, hts⟩, hG, hlk⟩ := id C
  have hl : lv_has ls 6 [(0, .ref (w.1 (0, 0, 0))), (1, .int 3), (2, .int a), (3, .int b), (4, .int c)] := hl
  refine lv_iload_n hx hb dL_does_0 rfl (lv_at hl 1 rfl) ?_
  refine lv_if_ne (tgt := 14) hx hb dL_does_1 (by decide) (fun _ => ?_) (fun c9 => absurd c9 (by decide))
  refine lv_iload_n hx hb dL_does_14 rfl (lv_at hl 1 rfl) ?_
  refine lv_iconst (v := 1) hx hb dL_does_15 (by decide) ?_
  refine lv_icmp_ne (tgt := 27) hx hb dL_does_16 (by decide) (fun _ => ?_) (fun c9 => absurd c9 (by decide))
  refine lv_iload_n hx hb dL_does_27 rfl (lv_at hl 1 rfl) ?_
  refine lv_iconst (v := 2) hx hb dL_does_28 (by decide) ?_
  refine lv_icmp_ne (tgt := 41) hx hb dL_does_29 (by decide) (fun _ => ?_) (fun c9 => absurd c9 (by decide))
  refine lv_iload_n hx hb dL_does_41 rfl (lv_at hl 1 rfl) ?_
  refine lv_iconst (v := 3) hx hb dL_does_42 (by decide) ?_
  refine lv_icmp_ne (tgt := 58) hx hb dL_does_43 (by decide) (fun c9 => absurd rfl c9) (fun _ => ?_)
  refine lv_aload_n hx hb dL_does_46 rfl (lv_at hl 0 rfl) ?_
  refine lv_iload_n hx hb dL_does_47 rfl (lv_at hl 2 rfl) ?_
  refine lv_iload_n hx hb dL_does_48 rfl (lv_at hl 3 rfl) ?_
  refine lv_iload hx hb dL_does_49 (lv_at hl 4 rfl) ?_
  refine zx_c (zx_rV (w := w) (As := [.int a, .int b, .int c]) (rest := []) (n := 3) (k := (0, 0, 0)) C hM hH hS hk he rfl gL_does_X4_goal rfl rfl (by decide +kernel) ⟨Nat.le_of_ble_eq_true rfl, Nat.le_of_ble_eq_true rfl⟩ hl rfl (Nat.le_of_ble_eq_true rfl) dL_does_51 ⟨Nat.le_of_ble_eq_true rfl, Nat.le_of_ble_eq_true rfl⟩) hS (fun E ce q w' H1 locs1 hPX hH1 hS1 hce hcv hcl => ?_) (fun v_ w' H locs hP hH1 hS1 => ?_)
  · rcases hE E w' hPX with rfl | rfl | rfl
    · refine zx_catch C htab [] ⟨0, 192, 193, 57⟩ [⟨0, 192, 199, 61⟩, ⟨0, 192, 205, 65⟩] rfl zgI (by decide +kernel) (fun z hz => by cases hz) rfl (by decide) hce hcv hcl ?_
      refine lv_astore (lv' := [(5, .ref q), (0, .ref (w.1 (0, 0, 0))), (1, .int 3), (2, .int a), (3, .int b), (4, .int c)]) hx hb dL_does_193 hl (by decide) rfl (fun ls hl2 => ?_)
      refine lv_ldc2 (v := (-3000000000000)) hx hb hown (hts (.constantLong RL 59 (-3000000000000)) (by decide +kernel)) dL_does_195 ?_
      exact zr_lret C hr (Or.inr (Or.inl ⟨hPX, rfl⟩)) hH1 hS1 (Nat.le_of_ble_eq_true rfl) (Nat.le_of_ble_eq_true rfl) dL_does_198
    · refine zx_catch C htab [⟨0, 192, 193, 57⟩] ⟨0, 192, 199, 61⟩ [⟨0, 192, 205, 65⟩] rfl zgA (by decide +kernel) (fun z hz => by cases List.mem_singleton.mp hz; exact ⟨by decide, xI, by decide +kernel, zgAI⟩) rfl (by decide) hce hcv hcl ?_
      refine lv_astore (lv' := [(5, .ref q), (0, .ref (w.1 (0, 0, 0))), (1, .int 3), (2, .int a), (3, .int b), (4, .int c)]) hx hb dL_does_199 hl (by decide) rfl (fun ls hl2 => ?_)
      refine lv_ldc2 (v := (-2000000000000)) hx hb hown (hts (.constantLong RL 63 (-2000000000000)) (by decide +kernel)) dL_does_201 ?_
      exact zr_lret C hr (Or.inr (Or.inr (Or.inl ⟨hPX, rfl⟩))) hH1 hS1 (Nat.le_of_ble_eq_true rfl) (Nat.le_of_ble_eq_true rfl) dL_does_204
    · refine zx_catch C htab [⟨0, 192, 193, 57⟩, ⟨0, 192, 199, 61⟩] ⟨0, 192, 205, 65⟩ [] rfl zgS (by decide +kernel) (hp3 ⟨by decide, xI, by decide +kernel, zgSI⟩ ⟨by decide, xA, by decide +kernel, zgSA⟩) rfl (by decide) hce hcv hcl ?_
      refine lv_astore (lv' := [(5, .ref q), (0, .ref (w.1 (0, 0, 0))), (1, .int 3), (2, .int a), (3, .int b), (4, .int c)]) hx hb dL_does_205 hl (by decide) rfl (fun ls hl2 => ?_)
      refine lv_ldc2 (v := (-1000000000000)) hx hb hown (hts (.constantLong RL 67 (-1000000000000)) (by decide +kernel)) dL_does_207 ?_
      exact zr_lret C hr (Or.inr (Or.inr (Or.inr ⟨hPX, rfl⟩))) hH1 hS1 (Nat.le_of_ble_eq_true rfl) (Nat.le_of_ble_eq_true rfl) dL_does_210
  · obtain ⟨r_, rfl, hPv⟩ := hP
    refine W.eq (g2 := F0 m 54 ls [.int r_]) rfl ?_
    refine lv_i2l (v := Int32.toInt64 r_) hx hb dL_does_54 rfl ?_
    refine lv_goto (tgt := 192) hx hb dL_does_55 (by decide) ?_
    exact zr_lret C hr (Or.inl ⟨r_, hPv, rfl⟩) hH1 hS1 (Nat.le_of_ble_eq_true rfl) (Nat.le_of_ble_eq_true rfl) dL_does_192
def rmD_buy : Room := { frames := 10, cells := 4, slots := 184, locals := 247 }
set_option maxHeartbeats 1000000 in
set_option maxRecDepth 100000 in
theorem cD_buy (l : Launch) (D : va_G) (cA : Nat → ClassId) (A : Nat → Prop) (g : Nat → Nat) (w : zk_W) (hk : w.2.1 (0, 0, 0)) {fs : List Value} (he : w.2.2 (0, 0, 0) = .inr (5, fs)) (P : Int32 → zk_W → Prop) (PX : String → zk_W → Prop) (a b c : Int32) (hM : zX l yX4_buy wsX4_buy rmC_buy D (zt cA) A g [.ref (w.1 (0, 0, 0)), .int a, .int b, .int c] w (zQi P) PX) (hE : ∀ E w', PX E w' → E = xI ∨ E = xA ∨ E = xS) : zM l yL_does wsL_does rmD_buy D (zt cA) A g [.ref (w.1 (0, 0, 0)), .int 4, .int a, .int b, .int c] w (zQl (zDo (zIL P) PX)) := by
  refine zM_ofH (cc := cL_does) (maxL := 6) (ret := some .long) (own := RL) (hh := [(0, 192, 193, 57), (0, 192, 199, 61), (0, 192, 205, 65)]) (by decide +kernel) rfl (Nat.le_of_ble_eq_true rfl) rfl ?_
  intro p e s m below meth cm C hr htab H locs ls hH hS hl
  obtain ⟨⟨hx, hb, hml, hown, hts⟩, hG, hlk⟩ := id C
  have hl : lv_has ls 6 [(0, .ref (w.1 (0, 0, 0))), (1, .int 4), (2, .int a), (3, .int b), (4, .int c)] := hl
  refine lv_iload_n hx hb dL_does_0 rfl (lv_at hl 1 rfl) ?_
  refine lv_if_ne (tgt := 14) hx hb dL_does_1 (by decide) (fun _ => ?_) (fun c9 => absurd c9 (by decide))
  refine lv_iload_n hx hb dL_does_14 rfl (lv_at hl 1 rfl) ?_
  refine lv_iconst (v := 1) hx hb dL_does_15 (by decide) ?_
  refine lv_icmp_ne (tgt := 27) hx hb dL_does_16 (by decide) (fun _ => ?_) (fun c9 => absurd c9 (by decide))
  refine lv_iload_n hx hb dL_does_27 rfl (lv_at hl 1 rfl) ?_
  refine lv_iconst (v := 2) hx hb dL_does_28 (by decide) ?_
  refine lv_icmp_ne (tgt := 41) hx hb dL_does_29 (by decide) (fun _ => ?_) (fun c9 => absurd c9 (by decide))
  refine lv_iload_n hx hb dL_does_41 rfl (lv_at hl 1 rfl) ?_
  refine lv_iconst (v := 3) hx hb dL_does_42 (by decide) ?_
  refine lv_icmp_ne (tgt := 58) hx hb dL_does_43 (by decide) (fun _ => ?_) (fun c9 => absurd c9 (by decide))
  refine lv_iload_n hx hb dL_does_58 rfl (lv_at hl 1 rfl) ?_
  refine lv_iconst (v := 4) hx hb dL_does_59 (by decide) ?_
  refine lv_icmp_ne (tgt := 75) hx hb dL_does_60 (by decide) (fun c9 => absurd rfl c9) (fun _ => ?_)
  refine lv_aload_n hx hb dL_does_63 rfl (lv_at hl 0 rfl) ?_
  refine lv_iload_n hx hb dL_does_64 rfl (lv_at hl 2 rfl) ?_
  refine lv_iload_n hx hb dL_does_65 rfl (lv_at hl 3 rfl) ?_
  refine lv_iload hx hb dL_does_66 (lv_at hl 4 rfl) ?_
  refine zx_c (zx_rV (w := w) (As := [.int a, .int b, .int c]) (rest := []) (n := 3) (k := (0, 0, 0)) C hM hH hS hk he rfl gL_does_X4_buy rfl rfl (by decide +kernel) ⟨Nat.le_of_ble_eq_true rfl, Nat.le_of_ble_eq_true rfl⟩ hl rfl (Nat.le_of_ble_eq_true rfl) dL_does_68 ⟨Nat.le_of_ble_eq_true rfl, Nat.le_of_ble_eq_true rfl⟩) hS (fun E ce q w' H1 locs1 hPX hH1 hS1 hce hcv hcl => ?_) (fun v_ w' H locs hP hH1 hS1 => ?_)
  · rcases hE E w' hPX with rfl | rfl | rfl
    · refine zx_catch C htab [] ⟨0, 192, 193, 57⟩ [⟨0, 192, 199, 61⟩, ⟨0, 192, 205, 65⟩] rfl zgI (by decide +kernel) (fun z hz => by cases hz) rfl (by decide) hce hcv hcl ?_
      refine lv_astore (lv' := [(5, .ref q), (0, .ref (w.1 (0, 0, 0))), (1, .int 4), (2, .int a), (3, .int b), (4, .int c)]) hx hb dL_does_193 hl (by decide) rfl (fun ls hl2 => ?_)
      refine lv_ldc2 (v := (-3000000000000)) hx hb hown (hts (.constantLong RL 59 (-3000000000000)) (by decide +kernel)) dL_does_195 ?_
      exact zr_lret C hr (Or.inr (Or.inl ⟨hPX, rfl⟩)) hH1 hS1 (Nat.le_of_ble_eq_true rfl) (Nat.le_of_ble_eq_true rfl) dL_does_198
    · refine zx_catch C htab [⟨0, 192, 193, 57⟩] ⟨0, 192, 199, 61⟩ [⟨0, 192, 205, 65⟩] rfl zgA (by decide +kernel) (fun z hz => by cases List.mem_singleton.mp hz; exact ⟨by decide, xI, by decide +kernel, zgAI⟩) rfl (by decide) hce hcv hcl ?_
      refine lv_astore (lv' := [(5, .ref q), (0, .ref (w.1 (0, 0, 0))), (1, .int 4), (2, .int a), (3, .int b), (4, .int c)]) hx hb dL_does_199 hl (by decide) rfl (fun ls hl2 => ?_)
      refine lv_ldc2 (v := (-2000000000000)) hx hb hown (hts (.constantLong RL 63 (-2000000000000)) (by decide +kernel)) dL_does_201 ?_
      exact zr_lret C hr (Or.inr (Or.inr (Or.inl ⟨hPX, rfl⟩))) hH1 hS1 (Nat.le_of_ble_eq_true rfl) (Nat.le_of_ble_eq_true rfl) dL_does_204
    · refine zx_catch C htab [⟨0, 192, 193, 57⟩, ⟨0, 192, 199, 61⟩] ⟨0, 192, 205, 65⟩ [] rfl zgS (by decide +kernel) (hp3 ⟨by decide, xI, by decide +kernel, zgSI⟩ ⟨by decide, xA, by decide +kernel, zgSA⟩) rfl (by decide) hce hcv hcl ?_
      refine lv_astore (lv' := [(5, .ref q), (0, .ref (w.1 (0, 0, 0))), (1, .int 4), (2, .int a), (3, .int b), (4, .int c)]) hx hb dL_does_205 hl (by decide) rfl (fun ls hl2 => ?_)
      refine lv_ldc2 (v := (-1000000000000)) hx hb hown (hts (.constantLong RL 67 (-1000000000000)) (by decide +kernel)) dL_does_207 ?_
      exact zr_lret C hr (Or.inr (Or.inr (Or.inr ⟨hPX, rfl⟩))) hH1 hS1 (Nat.le_of_ble_eq_true rfl) (Nat.le_of_ble_eq_true rfl) dL_does_210
  · obtain ⟨r_, rfl, hPv⟩ := hP
    refine W.eq (g2 := F0 m 71 ls [.int r_]) rfl ?_
    refine lv_i2l (v := Int32.toInt64 r_) hx hb dL_does_71 rfl ?_
    refine lv_goto (tgt := 192) hx hb dL_does_72 (by decide) ?_
    exact zr_lret C hr (Or.inl ⟨r_, hPv, rfl⟩) hH1 hS1 (Nat.le_of_ble_eq_true rfl) (Nat.le_of_ble_eq_true rfl) dL_does_192
def rmD_sell : Room := { frames := 10, cells := 4, slots := 184, locals := 247 }
set_option maxHeartbeats 1000000 in
set_option maxRecDepth 100000 in
theorem cD_sell (l : Launch) (D : va_G) (cA : Nat → ClassId) (A : Nat → Prop) (g : Nat → Nat) (w : zk_W) (hk : w.2.1 (0, 0, 0)) {fs : List Value} (he : w.2.2 (0, 0, 0) = .inr (5, fs)) (P : Int32 → zk_W → Prop) (PX : String → zk_W → Prop) (a b c : Int32) (hM : zX l yX4_sell wsX4_sell rmC_sell D (zt cA) A g [.ref (w.1 (0, 0, 0)), .int a, .int b, .int c] w (zQi P) PX) (hE : ∀ E w', PX E w' → E = xI ∨ E = xA ∨ E = xS) : zM l yL_does wsL_does rmD_sell D (zt cA) A g [.ref (w.1 (0, 0, 0)), .int 5, .int a, .int b, .int c] w (zQl (zDo (zIL P) PX)) := by
  refine zM_ofH (cc := cL_does) (maxL := 6) (ret := some .long) (own := RL) (hh := [(0, 192, 193, 57), (0, 192, 199, 61), (0, 192, 205, 65)]) (by decide +kernel) rfl (Nat.le_of_ble_eq_true rfl) rfl ?_
  intro p e s m below meth cm C hr htab H locs ls hH hS hl
  obtain ⟨⟨hx, hb, hml, hown, hts⟩, hG, hlk⟩ := id C
  have hl : lv_has ls 6 [(0, .ref (w.1 (0, 0, 0))), (1, .int 5), (2, .int a), (3, .int b), (4, .int c)] := hl
  refine lv_iload_n hx hb dL_does_0 rfl (lv_at hl 1 rfl) ?_
  refine lv_if_ne (tgt := 14) hx hb dL_does_1 (by decide) (fun _ => ?_) (fun c9 => absurd c9 (by decide))
  refine lv_iload_n hx hb dL_does_14 rfl (lv_at hl 1 rfl) ?_
  refine lv_iconst (v := 1) hx hb dL_does_15 (by decide) ?_
  refine lv_icmp_ne (tgt := 27) hx hb dL_does_16 (by decide) (fun _ => ?_) (fun c9 => absurd c9 (by decide))
  refine lv_iload_n hx hb dL_does_27 rfl (lv_at hl 1 rfl) ?_
  refine lv_iconst (v := 2) hx hb dL_does_28 (by decide) ?_
  refine lv_icmp_ne (tgt := 41) hx hb dL_does_29 (by decide) (fun _ => ?_) (fun c9 => absurd c9 (by decide))
  refine lv_iload_n hx hb dL_does_41 rfl (lv_at hl 1 rfl) ?_
  refine lv_iconst (v := 3) hx hb dL_does_42 (by decide) ?_
  refine lv_icmp_ne (tgt := 58) hx hb dL_does_43 (by decide) (fun _ => ?_) (fun c9 => absurd c9 (by decide))
  refine lv_iload_n hx hb dL_does_58 rfl (lv_at hl 1 rfl) ?_
  refine lv_iconst (v := 4) hx hb dL_does_59 (by decide) ?_
  refine lv_icmp_ne (tgt := 75) hx hb dL_does_60 (by decide) (fun _ => ?_) (fun c9 => absurd c9 (by decide))
  refine lv_iload_n hx hb dL_does_75 rfl (lv_at hl 1 rfl) ?_
  refine lv_iconst (v := 5) hx hb dL_does_76 (by decide) ?_
  refine lv_icmp_ne (tgt := 92) hx hb dL_does_77 (by decide) (fun c9 => absurd rfl c9) (fun _ => ?_)
  refine lv_aload_n hx hb dL_does_80 rfl (lv_at hl 0 rfl) ?_
  refine lv_iload_n hx hb dL_does_81 rfl (lv_at hl 2 rfl) ?_
  refine lv_iload_n hx hb dL_does_82 rfl (lv_at hl 3 rfl) ?_
  refine lv_iload hx hb dL_does_83 (lv_at hl 4 rfl) ?_
  refine zx_c (zx_rV (w := w) (As := [.int a, .int b, .int c]) (rest := []) (n := 3) (k := (0, 0, 0)) C hM hH hS hk he rfl gL_does_X4_sell rfl rfl (by decide +kernel) ⟨Nat.le_of_ble_eq_true rfl, Nat.le_of_ble_eq_true rfl⟩ hl rfl (Nat.le_of_ble_eq_true rfl) dL_does_85 ⟨Nat.le_of_ble_eq_true rfl, Nat.le_of_ble_eq_true rfl⟩) hS (fun E ce q w' H1 locs1 hPX hH1 hS1 hce hcv hcl => ?_) (fun v_ w' H locs hP hH1 hS1 => ?_)
  · rcases hE E w' hPX with rfl | rfl | rfl
    · refine zx_catch C htab [] ⟨0, 192, 193, 57⟩ [⟨0, 192, 199, 61⟩, ⟨0, 192, 205, 65⟩] rfl zgI (by decide +kernel) (fun z hz => by cases hz) rfl (by decide) hce hcv hcl ?_
      refine lv_astore (lv' := [(5, .ref q), (0, .ref (w.1 (0, 0, 0))), (1, .int 5), (2, .int a), (3, .int b), (4, .int c)]) hx hb dL_does_193 hl (by decide) rfl (fun ls hl2 => ?_)
      refine lv_ldc2 (v := (-3000000000000)) hx hb hown (hts (.constantLong RL 59 (-3000000000000)) (by decide +kernel)) dL_does_195 ?_
      exact zr_lret C hr (Or.inr (Or.inl ⟨hPX, rfl⟩)) hH1 hS1 (Nat.le_of_ble_eq_true rfl) (Nat.le_of_ble_eq_true rfl) dL_does_198
    · refine zx_catch C htab [⟨0, 192, 193, 57⟩] ⟨0, 192, 199, 61⟩ [⟨0, 192, 205, 65⟩] rfl zgA (by decide +kernel) (fun z hz => by cases List.mem_singleton.mp hz; exact ⟨by decide, xI, by decide +kernel, zgAI⟩) rfl (by decide) hce hcv hcl ?_
      refine lv_astore (lv' := [(5, .ref q), (0, .ref (w.1 (0, 0, 0))), (1, .int 5), (2, .int a), (3, .int b), (4, .int c)]) hx hb dL_does_199 hl (by decide) rfl (fun ls hl2 => ?_)
      refine lv_ldc2 (v := (-2000000000000)) hx hb hown (hts (.constantLong RL 63 (-2000000000000)) (by decide +kernel)) dL_does_201 ?_
      exact zr_lret C hr (Or.inr (Or.inr (Or.inl ⟨hPX, rfl⟩))) hH1 hS1 (Nat.le_of_ble_eq_true rfl) (Nat.le_of_ble_eq_true rfl) dL_does_204
    · refine zx_catch C htab [⟨0, 192, 193, 57⟩, ⟨0, 192, 199, 61⟩] ⟨0, 192, 205, 65⟩ [] rfl zgS (by decide +kernel) (hp3 ⟨by decide, xI, by decide +kernel, zgSI⟩ ⟨by decide, xA, by decide +kernel, zgSA⟩) rfl (by decide) hce hcv hcl ?_
      refine lv_astore (lv' := [(5, .ref q), (0, .ref (w.1 (0, 0, 0))), (1, .int 5), (2, .int a), (3, .int b), (4, .int c)]) hx hb dL_does_205 hl (by decide) rfl (fun ls hl2 => ?_)
      refine lv_ldc2 (v := (-1000000000000)) hx hb hown (hts (.constantLong RL 67 (-1000000000000)) (by decide +kernel)) dL_does_207 ?_
      exact zr_lret C hr (Or.inr (Or.inr (Or.inr ⟨hPX, rfl⟩))) hH1 hS1 (Nat.le_of_ble_eq_true rfl) (Nat.le_of_ble_eq_true rfl) dL_does_210
  · obtain ⟨r_, rfl, hPv⟩ := hP
    refine W.eq (g2 := F0 m 88 ls [.int r_]) rfl ?_
    refine lv_i2l (v := Int32.toInt64 r_) hx hb dL_does_88 rfl ?_
    refine lv_goto (tgt := 192) hx hb dL_does_89 (by decide) ?_
    exact zr_lret C hr (Or.inl ⟨r_, hPv, rfl⟩) hH1 hS1 (Nat.le_of_ble_eq_true rfl) (Nat.le_of_ble_eq_true rfl) dL_does_192
def rmD_balance : Room := { frames := 10, cells := 25, slots := 2070, locals := 278 }
set_option maxHeartbeats 1000000 in
set_option maxRecDepth 100000 in
theorem cD_balance (l : Launch) (D : va_G) (cA : Nat → ClassId) (A : Nat → Prop) (g : Nat → Nat) (w : zk_W) (hk : w.2.1 (0, 0, 0)) {fs : List Value} (he : w.2.2 (0, 0, 0) = .inr (5, fs)) (P : Int32 → zk_W → Prop) (PX : String → zk_W → Prop) (a b c : Int32) (hM : zX l yX4_balance wsX4_balance rmC_balance D (zt cA) A g [.ref (w.1 (0, 0, 0)), .int a] w (zQi P) PX) (hE : ∀ E w', PX E w' → E = xI ∨ E = xA ∨ E = xS) : zM l yL_does wsL_does rmD_balance D (zt cA) A g [.ref (w.1 (0, 0, 0)), .int 6, .int a, .int b, .int c] w (zQl (zDo (zIL P) PX)) := by
  refine zM_ofH (cc := cL_does) (maxL := 6) (ret := some .long) (own := RL) (hh := [(0, 192, 193, 57), (0, 192, 199, 61), (0, 192, 205, 65)]) (by decide +kernel) rfl (Nat.le_of_ble_eq_true rfl) rfl ?_
  intro p e s m below meth cm C hr htab H locs ls hH hS hl
  obtain ⟨⟨hx, hb, hml, hown, hts⟩, hG, hlk⟩ := id C
  have hl : lv_has ls 6 [(0, .ref (w.1 (0, 0, 0))), (1, .int 6), (2, .int a), (3, .int b), (4, .int c)] := hl
  refine lv_iload_n hx hb dL_does_0 rfl (lv_at hl 1 rfl) ?_
  refine lv_if_ne (tgt := 14) hx hb dL_does_1 (by decide) (fun _ => ?_) (fun c9 => absurd c9 (by decide))
  refine lv_iload_n hx hb dL_does_14 rfl (lv_at hl 1 rfl) ?_
  refine lv_iconst (v := 1) hx hb dL_does_15 (by decide) ?_
  refine lv_icmp_ne (tgt := 27) hx hb dL_does_16 (by decide) (fun _ => ?_) (fun c9 => absurd c9 (by decide))
  refine lv_iload_n hx hb dL_does_27 rfl (lv_at hl 1 rfl) ?_
  refine lv_iconst (v := 2) hx hb dL_does_28 (by decide) ?_
  refine lv_icmp_ne (tgt := 41) hx hb dL_does_29 (by decide) (fun _ => ?_) (fun c9 => absurd c9 (by decide))
  refine lv_iload_n hx hb dL_does_41 rfl (lv_at hl 1 rfl) ?_
  refine lv_iconst (v := 3) hx hb dL_does_42 (by decide) ?_
  refine lv_icmp_ne (tgt := 58) hx hb dL_does_43 (by decide) (fun _ => ?_) (fun c9 => absurd c9 (by decide))
  refine lv_iload_n hx hb dL_does_58 rfl (lv_at hl 1 rfl) ?_
  refine lv_iconst (v := 4) hx hb dL_does_59 (by decide) ?_
  refine lv_icmp_ne (tgt := 75) hx hb dL_does_60 (by decide) (fun _ => ?_) (fun c9 => absurd c9 (by decide))
  refine lv_iload_n hx hb dL_does_75 rfl (lv_at hl 1 rfl) ?_
  refine lv_iconst (v := 5) hx hb dL_does_76 (by decide) ?_
  refine lv_icmp_ne (tgt := 92) hx hb dL_does_77 (by decide) (fun _ => ?_) (fun c9 => absurd c9 (by decide))
  refine lv_iload_n hx hb dL_does_92 rfl (lv_at hl 1 rfl) ?_
  refine lv_bipush (v := 6) hx hb dL_does_93 (by decide) ?_
  refine lv_icmp_ne (tgt := 107) hx hb dL_does_95 (by decide) (fun c9 => absurd rfl c9) (fun _ => ?_)
  refine lv_aload_n hx hb dL_does_98 rfl (lv_at hl 0 rfl) ?_
  refine lv_iload_n hx hb dL_does_99 rfl (lv_at hl 2 rfl) ?_
  refine zx_c (zx_rV (w := w) (As := [.int a]) (rest := []) (n := 1) (k := (0, 0, 0)) C hM hH hS hk he rfl gL_does_X4_balance rfl rfl (by decide +kernel) ⟨Nat.le_of_ble_eq_true rfl, Nat.le_of_ble_eq_true rfl⟩ hl rfl (Nat.le_of_ble_eq_true rfl) dL_does_100 ⟨Nat.le_of_ble_eq_true rfl, Nat.le_of_ble_eq_true rfl⟩) hS (fun E ce q w' H1 locs1 hPX hH1 hS1 hce hcv hcl => ?_) (fun v_ w' H locs hP hH1 hS1 => ?_)
  · rcases hE E w' hPX with rfl | rfl | rfl
    · refine zx_catch C htab [] ⟨0, 192, 193, 57⟩ [⟨0, 192, 199, 61⟩, ⟨0, 192, 205, 65⟩] rfl zgI (by decide +kernel) (fun z hz => by cases hz) rfl (by decide) hce hcv hcl ?_
      refine lv_astore (lv' := [(5, .ref q), (0, .ref (w.1 (0, 0, 0))), (1, .int 6), (2, .int a), (3, .int b), (4, .int c)]) hx hb dL_does_193 hl (by decide) rfl (fun ls hl2 => ?_)
      refine lv_ldc2 (v := (-3000000000000)) hx hb hown (hts (.constantLong RL 59 (-3000000000000)) (by decide +kernel)) dL_does_195 ?_
      exact zr_lret C hr (Or.inr (Or.inl ⟨hPX, rfl⟩)) hH1 hS1 (Nat.le_of_ble_eq_true rfl) (Nat.le_of_ble_eq_true rfl) dL_does_198
    · refine zx_catch C htab [⟨0, 192, 193, 57⟩] ⟨0, 192, 199, 61⟩ [⟨0, 192, 205, 65⟩] rfl zgA (by decide +kernel) (fun z hz => by cases List.mem_singleton.mp hz; exact ⟨by decide, xI, by decide +kernel, zgAI⟩) rfl (by decide) hce hcv hcl ?_
      refine lv_astore (lv' := [(5, .ref q), (0, .ref (w.1 (0, 0, 0))), (1, .int 6), (2, .int a), (3, .int b), (4, .int c)]) hx hb dL_does_199 hl (by decide) rfl (fun ls hl2 => ?_)
      refine lv_ldc2 (v := (-2000000000000)) hx hb hown (hts (.constantLong RL 63 (-2000000000000)) (by decide +kernel)) dL_does_201 ?_
      exact zr_lret C hr (Or.inr (Or.inr (Or.inl ⟨hPX, rfl⟩))) hH1 hS1 (Nat.le_of_ble_eq_true rfl) (Nat.le_of_ble_eq_true rfl) dL_does_204
    · refine zx_catch C htab [⟨0, 192, 193, 57⟩, ⟨0, 192, 199, 61⟩] ⟨0, 192, 205, 65⟩ [] rfl zgS (by decide +kernel) (hp3 ⟨by decide, xI, by decide +kernel, zgSI⟩ ⟨by decide, xA, by decide +kernel, zgSA⟩) rfl (by decide) hce hcv hcl ?_
      refine lv_astore (lv' := [(5, .ref q), (0, .ref (w.1 (0, 0, 0))), (1, .int 6), (2, .int a), (3, .int b), (4, .int c)]) hx hb dL_does_205 hl (by decide) rfl (fun ls hl2 => ?_)
      refine lv_ldc2 (v := (-1000000000000)) hx hb hown (hts (.constantLong RL 67 (-1000000000000)) (by decide +kernel)) dL_does_207 ?_
      exact zr_lret C hr (Or.inr (Or.inr (Or.inr ⟨hPX, rfl⟩))) hH1 hS1 (Nat.le_of_ble_eq_true rfl) (Nat.le_of_ble_eq_true rfl) dL_does_210
  · obtain ⟨r_, rfl, hPv⟩ := hP
    refine W.eq (g2 := F0 m 103 ls [.int r_]) rfl ?_
    refine lv_i2l (v := Int32.toInt64 r_) hx hb dL_does_103 rfl ?_
    refine lv_goto (tgt := 192) hx hb dL_does_104 (by decide) ?_
    exact zr_lret C hr (Or.inl ⟨r_, hPv, rfl⟩) hH1 hS1 (Nat.le_of_ble_eq_true rfl) (Nat.le_of_ble_eq_true rfl) dL_does_192
def rmD_complain : Room := { frames := 9, cells := 2, slots := 12, locals := 162 }
set_option maxHeartbeats 1000000 in
set_option maxRecDepth 100000 in
theorem cD_complain (l : Launch) (D : va_G) (cA : Nat → ClassId) (A : Nat → Prop) (g : Nat → Nat) (w : zk_W) (hk : w.2.1 (0, 0, 0)) {fs : List Value} (he : w.2.2 (0, 0, 0) = .inr (5, fs)) (P : Int64 → zk_W → Prop) (PX : String → zk_W → Prop) (a b c : Int32) (hM : zX l yX4_complain wsX4_complain rmC_complain D (zt cA) A g [.ref (w.1 (0, 0, 0)), .int a] w (zQl P) PX) (hE : ∀ E w', PX E w' → E = xI ∨ E = xA ∨ E = xS) : zM l yL_does wsL_does rmD_complain D (zt cA) A g [.ref (w.1 (0, 0, 0)), .int 7, .int a, .int b, .int c] w (zQl (zDo P PX)) := by
  refine zM_ofH (cc := cL_does) (maxL := 6) (ret := some .long) (own := RL) (hh := [(0, 192, 193, 57), (0, 192, 199, 61), (0, 192, 205, 65)]) (by decide +kernel) rfl (Nat.le_of_ble_eq_true rfl) rfl ?_
  intro p e s m below meth cm C hr htab H locs ls hH hS hl
  obtain ⟨⟨hx, hb, hml, hown, hts⟩, hG, hlk⟩ := id C
  have hl : lv_has ls 6 [(0, .ref (w.1 (0, 0, 0))), (1, .int 7), (2, .int a), (3, .int b), (4, .int c)] := hl
  refine lv_iload_n hx hb dL_does_0 rfl (lv_at hl 1 rfl) ?_
  refine lv_if_ne (tgt := 14) hx hb dL_does_1 (by decide) (fun _ => ?_) (fun c9 => absurd c9 (by decide))
  refine lv_iload_n hx hb dL_does_14 rfl (lv_at hl 1 rfl) ?_
  refine lv_iconst (v := 1) hx hb dL_does_15 (by decide) ?_
  refine lv_icmp_ne (tgt := 27) hx hb dL_does_16 (by decide) (fun _ => ?_) (fun c9 => absurd c9 (by decide))
  refine lv_iload_n hx hb dL_does_27 rfl (lv_at hl 1 rfl) ?_
  refine lv_iconst (v := 2) hx hb dL_does_28 (by decide) ?_
  refine lv_icmp_ne (tgt := 41) hx hb dL_does_29 (by decide) (fun _ => ?_) (fun c9 => absurd c9 (by decide))
  refine lv_iload_n hx hb dL_does_41 rfl (lv_at hl 1 rfl) ?_
  refine lv_iconst (v := 3) hx hb dL_does_42 (by decide) ?_
  refine lv_icmp_ne (tgt := 58) hx hb dL_does_43 (by decide) (fun _ => ?_) (fun c9 => absurd c9 (by decide))
  refine lv_iload_n hx hb dL_does_58 rfl (lv_at hl 1 rfl) ?_
  refine lv_iconst (v := 4) hx hb dL_does_59 (by decide) ?_
  refine lv_icmp_ne (tgt := 75) hx hb dL_does_60 (by decide) (fun _ => ?_) (fun c9 => absurd c9 (by decide))
  refine lv_iload_n hx hb dL_does_75 rfl (lv_at hl 1 rfl) ?_
  refine lv_iconst (v := 5) hx hb dL_does_76 (by decide) ?_
  refine lv_icmp_ne (tgt := 92) hx hb dL_does_77 (by decide) (fun _ => ?_) (fun c9 => absurd c9 (by decide))
  refine lv_iload_n hx hb dL_does_92 rfl (lv_at hl 1 rfl) ?_
  refine lv_bipush (v := 6) hx hb dL_does_93 (by decide) ?_
  refine lv_icmp_ne (tgt := 107) hx hb dL_does_95 (by decide) (fun _ => ?_) (fun c9 => absurd c9 (by decide))
  refine lv_iload_n hx hb dL_does_107 rfl (lv_at hl 1 rfl) ?_
  refine lv_bipush (v := 7) hx hb dL_does_108 (by decide) ?_
  refine lv_icmp_ne (tgt := 121) hx hb dL_does_110 (by decide) (fun c9 => absurd rfl c9) (fun _ => ?_)
  refine lv_aload_n hx hb dL_does_113 rfl (lv_at hl 0 rfl) ?_
  refine lv_iload_n hx hb dL_does_114 rfl (lv_at hl 2 rfl) ?_
  refine zx_c (zx_rV (w := w) (As := [.int a]) (rest := []) (n := 1) (k := (0, 0, 0)) C hM hH hS hk he rfl gL_does_X4_complain rfl rfl (by decide +kernel) ⟨Nat.le_of_ble_eq_true rfl, Nat.le_of_ble_eq_true rfl⟩ hl rfl (Nat.le_of_ble_eq_true rfl) dL_does_115 ⟨Nat.le_of_ble_eq_true rfl, Nat.le_of_ble_eq_true rfl⟩) hS (fun E ce q w' H1 locs1 hPX hH1 hS1 hce hcv hcl => ?_) (fun v_ w' H locs hP hH1 hS1 => ?_)
  · rcases hE E w' hPX with rfl | rfl | rfl
    · refine zx_catch C htab [] ⟨0, 192, 193, 57⟩ [⟨0, 192, 199, 61⟩, ⟨0, 192, 205, 65⟩] rfl zgI (by decide +kernel) (fun z hz => by cases hz) rfl (by decide) hce hcv hcl ?_
      refine lv_astore (lv' := [(5, .ref q), (0, .ref (w.1 (0, 0, 0))), (1, .int 7), (2, .int a), (3, .int b), (4, .int c)]) hx hb dL_does_193 hl (by decide) rfl (fun ls hl2 => ?_)
      refine lv_ldc2 (v := (-3000000000000)) hx hb hown (hts (.constantLong RL 59 (-3000000000000)) (by decide +kernel)) dL_does_195 ?_
      exact zr_lret C hr (Or.inr (Or.inl ⟨hPX, rfl⟩)) hH1 hS1 (Nat.le_of_ble_eq_true rfl) (Nat.le_of_ble_eq_true rfl) dL_does_198
    · refine zx_catch C htab [⟨0, 192, 193, 57⟩] ⟨0, 192, 199, 61⟩ [⟨0, 192, 205, 65⟩] rfl zgA (by decide +kernel) (fun z hz => by cases List.mem_singleton.mp hz; exact ⟨by decide, xI, by decide +kernel, zgAI⟩) rfl (by decide) hce hcv hcl ?_
      refine lv_astore (lv' := [(5, .ref q), (0, .ref (w.1 (0, 0, 0))), (1, .int 7), (2, .int a), (3, .int b), (4, .int c)]) hx hb dL_does_199 hl (by decide) rfl (fun ls hl2 => ?_)
      refine lv_ldc2 (v := (-2000000000000)) hx hb hown (hts (.constantLong RL 63 (-2000000000000)) (by decide +kernel)) dL_does_201 ?_
      exact zr_lret C hr (Or.inr (Or.inr (Or.inl ⟨hPX, rfl⟩))) hH1 hS1 (Nat.le_of_ble_eq_true rfl) (Nat.le_of_ble_eq_true rfl) dL_does_204
    · refine zx_catch C htab [⟨0, 192, 193, 57⟩, ⟨0, 192, 199, 61⟩] ⟨0, 192, 205, 65⟩ [] rfl zgS (by decide +kernel) (hp3 ⟨by decide, xI, by decide +kernel, zgSI⟩ ⟨by decide, xA, by decide +kernel, zgSA⟩) rfl (by decide) hce hcv hcl ?_
      refine lv_astore (lv' := [(5, .ref q), (0, .ref (w.1 (0, 0, 0))), (1, .int 7), (2, .int a), (3, .int b), (4, .int c)]) hx hb dL_does_205 hl (by decide) rfl (fun ls hl2 => ?_)
      refine lv_ldc2 (v := (-1000000000000)) hx hb hown (hts (.constantLong RL 67 (-1000000000000)) (by decide +kernel)) dL_does_207 ?_
      exact zr_lret C hr (Or.inr (Or.inr (Or.inr ⟨hPX, rfl⟩))) hH1 hS1 (Nat.le_of_ble_eq_true rfl) (Nat.le_of_ble_eq_true rfl) dL_does_210
  · obtain ⟨r_, rfl, hPv⟩ := hP
    refine W.eq (g2 := F0 m 118 ls [.long r_]) rfl ?_
    refine lv_goto (tgt := 192) hx hb dL_does_118 (by decide) ?_
    exact zr_lret C hr (Or.inl hPv) hH1 hS1 (Nat.le_of_ble_eq_true rfl) (Nat.le_of_ble_eq_true rfl) dL_does_192
def rmD_pass : Room := { frames := 8, cells := 1, slots := 6, locals := 140 }
set_option maxHeartbeats 1000000 in
set_option maxRecDepth 100000 in
theorem cD_pass (l : Launch) (D : va_G) (cA : Nat → ClassId) (A : Nat → Prop) (g : Nat → Nat) (w : zk_W) (hk : w.2.1 (0, 0, 0)) {fs : List Value} (he : w.2.2 (0, 0, 0) = .inr (5, fs)) (P : Int32 → zk_W → Prop) (PX : String → zk_W → Prop) (a b c : Int32) (hM : zX l yX4_pass wsX4_pass rmC_pass D (zt cA) A g [.ref (w.1 (0, 0, 0)), .int a] w (zQi P) PX) (hE : ∀ E w', PX E w' → E = xI ∨ E = xA ∨ E = xS) : zM l yL_does wsL_does rmD_pass D (zt cA) A g [.ref (w.1 (0, 0, 0)), .int 8, .int a, .int b, .int c] w (zQl (zDo (zIL P) PX)) := by
  refine zM_ofH (cc := cL_does) (maxL := 6) (ret := some .long) (own := RL) (hh := [(0, 192, 193, 57), (0, 192, 199, 61), (0, 192, 205, 65)]) (by decide +kernel) rfl (Nat.le_of_ble_eq_true rfl) rfl ?_
  intro p e s m below meth cm C hr htab H locs ls hH hS hl
  obtain ⟨⟨hx, hb, hml, hown, hts⟩, hG, hlk⟩ := id C
  have hl : lv_has ls 6 [(0, .ref (w.1 (0, 0, 0))), (1, .int 8), (2, .int a), (3, .int b), (4, .int c)] := hl
  refine lv_iload_n hx hb dL_does_0 rfl (lv_at hl 1 rfl) ?_
  refine lv_if_ne (tgt := 14) hx hb dL_does_1 (by decide) (fun _ => ?_) (fun c9 => absurd c9 (by decide))
  refine lv_iload_n hx hb dL_does_14 rfl (lv_at hl 1 rfl) ?_
  refine lv_iconst (v := 1) hx hb dL_does_15 (by decide) ?_
  refine lv_icmp_ne (tgt := 27) hx hb dL_does_16 (by decide) (fun _ => ?_) (fun c9 => absurd c9 (by decide))
  refine lv_iload_n hx hb dL_does_27 rfl (lv_at hl 1 rfl) ?_
  refine lv_iconst (v := 2) hx hb dL_does_28 (by decide) ?_
  refine lv_icmp_ne (tgt := 41) hx hb dL_does_29 (by decide) (fun _ => ?_) (fun c9 => absurd c9 (by decide))
  refine lv_iload_n hx hb dL_does_41 rfl (lv_at hl 1 rfl) ?_
  refine lv_iconst (v := 3) hx hb dL_does_42 (by decide) ?_
  refine lv_icmp_ne (tgt := 58) hx hb dL_does_43 (by decide) (fun _ => ?_) (fun c9 => absurd c9 (by decide))
  refine lv_iload_n hx hb dL_does_58 rfl (lv_at hl 1 rfl) ?_
  refine lv_iconst (v := 4) hx hb dL_does_59 (by decide) ?_
  refine lv_icmp_ne (tgt := 75) hx hb dL_does_60 (by decide) (fun _ => ?_) (fun c9 => absurd c9 (by decide))
  refine lv_iload_n hx hb dL_does_75 rfl (lv_at hl 1 rfl) ?_
  refine lv_iconst (v := 5) hx hb dL_does_76 (by decide) ?_
  refine lv_icmp_ne (tgt := 92) hx hb dL_does_77 (by decide) (fun _ => ?_) (fun c9 => absurd c9 (by decide))
  refine lv_iload_n hx hb dL_does_92 rfl (lv_at hl 1 rfl) ?_
  refine lv_bipush (v := 6) hx hb dL_does_93 (by decide) ?_
  refine lv_icmp_ne (tgt := 107) hx hb dL_does_95 (by decide) (fun _ => ?_) (fun c9 => absurd c9 (by decide))
  refine lv_iload_n hx hb dL_does_107 rfl (lv_at hl 1 rfl) ?_
  refine lv_bipush (v := 7) hx hb dL_does_108 (by decide) ?_
  refine lv_icmp_ne (tgt := 121) hx hb dL_does_110 (by decide) (fun _ => ?_) (fun c9 => absurd c9 (by decide))
  refine lv_iload_n hx hb dL_does_121 rfl (lv_at hl 1 rfl) ?_
  refine lv_bipush (v := 8) hx hb dL_does_122 (by decide) ?_
  refine lv_icmp_ne (tgt := 136) hx hb dL_does_124 (by decide) (fun c9 => absurd rfl c9) (fun _ => ?_)
  refine lv_aload_n hx hb dL_does_127 rfl (lv_at hl 0 rfl) ?_
  refine lv_iload_n hx hb dL_does_128 rfl (lv_at hl 2 rfl) ?_
  refine zx_c (zx_rV (w := w) (As := [.int a]) (rest := []) (n := 1) (k := (0, 0, 0)) C hM hH hS hk he rfl gL_does_X4_pass rfl rfl (by decide +kernel) ⟨Nat.le_of_ble_eq_true rfl, Nat.le_of_ble_eq_true rfl⟩ hl rfl (Nat.le_of_ble_eq_true rfl) dL_does_129 ⟨Nat.le_of_ble_eq_true rfl, Nat.le_of_ble_eq_true rfl⟩) hS (fun E ce q w' H1 locs1 hPX hH1 hS1 hce hcv hcl => ?_) (fun v_ w' H locs hP hH1 hS1 => ?_)
  · rcases hE E w' hPX with rfl | rfl | rfl
    · refine zx_catch C htab [] ⟨0, 192, 193, 57⟩ [⟨0, 192, 199, 61⟩, ⟨0, 192, 205, 65⟩] rfl zgI (by decide +kernel) (fun z hz => by cases hz) rfl (by decide) hce hcv hcl ?_
      refine lv_astore (lv' := [(5, .ref q), (0, .ref (w.1 (0, 0, 0))), (1, .int 8), (2, .int a), (3, .int b), (4, .int c)]) hx hb dL_does_193 hl (by decide) rfl (fun ls hl2 => ?_)
      refine lv_ldc2 (v := (-3000000000000)) hx hb hown (hts (.constantLong RL 59 (-3000000000000)) (by decide +kernel)) dL_does_195 ?_
      exact zr_lret C hr (Or.inr (Or.inl ⟨hPX, rfl⟩)) hH1 hS1 (Nat.le_of_ble_eq_true rfl) (Nat.le_of_ble_eq_true rfl) dL_does_198
    · refine zx_catch C htab [⟨0, 192, 193, 57⟩] ⟨0, 192, 199, 61⟩ [⟨0, 192, 205, 65⟩] rfl zgA (by decide +kernel) (fun z hz => by cases List.mem_singleton.mp hz; exact ⟨by decide, xI, by decide +kernel, zgAI⟩) rfl (by decide) hce hcv hcl ?_
      refine lv_astore (lv' := [(5, .ref q), (0, .ref (w.1 (0, 0, 0))), (1, .int 8), (2, .int a), (3, .int b), (4, .int c)]) hx hb dL_does_199 hl (by decide) rfl (fun ls hl2 => ?_)
      refine lv_ldc2 (v := (-2000000000000)) hx hb hown (hts (.constantLong RL 63 (-2000000000000)) (by decide +kernel)) dL_does_201 ?_
      exact zr_lret C hr (Or.inr (Or.inr (Or.inl ⟨hPX, rfl⟩))) hH1 hS1 (Nat.le_of_ble_eq_true rfl) (Nat.le_of_ble_eq_true rfl) dL_does_204
    · refine zx_catch C htab [⟨0, 192, 193, 57⟩, ⟨0, 192, 199, 61⟩] ⟨0, 192, 205, 65⟩ [] rfl zgS (by decide +kernel) (hp3 ⟨by decide, xI, by decide +kernel, zgSI⟩ ⟨by decide, xA, by decide +kernel, zgSA⟩) rfl (by decide) hce hcv hcl ?_
      refine lv_astore (lv' := [(5, .ref q), (0, .ref (w.1 (0, 0, 0))), (1, .int 8), (2, .int a), (3, .int b), (4, .int c)]) hx hb dL_does_205 hl (by decide) rfl (fun ls hl2 => ?_)
      refine lv_ldc2 (v := (-1000000000000)) hx hb hown (hts (.constantLong RL 67 (-1000000000000)) (by decide +kernel)) dL_does_207 ?_
      exact zr_lret C hr (Or.inr (Or.inr (Or.inr ⟨hPX, rfl⟩))) hH1 hS1 (Nat.le_of_ble_eq_true rfl) (Nat.le_of_ble_eq_true rfl) dL_does_210
  · obtain ⟨r_, rfl, hPv⟩ := hP
    refine W.eq (g2 := F0 m 132 ls [.int r_]) rfl ?_
    refine lv_i2l (v := Int32.toInt64 r_) hx hb dL_does_132 rfl ?_
    refine lv_goto (tgt := 192) hx hb dL_does_133 (by decide) ?_
    exact zr_lret C hr (Or.inl ⟨r_, hPv, rfl⟩) hH1 hS1 (Nat.le_of_ble_eq_true rfl) (Nat.le_of_ble_eq_true rfl) dL_does_192
def rmD_tradeOf : Room := { frames := 9, cells := 2, slots := 12, locals := 162 }
set_option maxHeartbeats 1000000 in
set_option maxRecDepth 100000 in
theorem cD_tradeOf (l : Launch) (D : va_G) (cA : Nat → ClassId) (A : Nat → Prop) (g : Nat → Nat) (w : zk_W) (hk : w.2.1 (0, 0, 0)) {fs : List Value} (he : w.2.2 (0, 0, 0) = .inr (5, fs)) (P : Int64 → zk_W → Prop) (PX : String → zk_W → Prop) (a b c : Int32) (hM : zX l yX4_tradeOf wsX4_tradeOf rmC_tradeOf D (zt cA) A g [.ref (w.1 (0, 0, 0)), .int a, .int b] w (zQl P) PX) (hE : ∀ E w', PX E w' → E = xI ∨ E = xA ∨ E = xS) : zM l yL_does wsL_does rmD_tradeOf D (zt cA) A g [.ref (w.1 (0, 0, 0)), .int 9, .int a, .int b, .int c] w (zQl (zDo P PX)) := by
  refine zM_ofH (cc := cL_does) (maxL := 6) (ret := some .long) (own := RL) (hh := [(0, 192, 193, 57), (0, 192, 199, 61), (0, 192, 205, 65)]) (by decide +kernel) rfl (Nat.le_of_ble_eq_true rfl) rfl ?_
  intro p e s m below meth cm C hr htab H locs ls hH hS hl
  obtain ⟨⟨hx, hb, hml, hown, hts⟩, hG, hlk⟩ := id C
  have hl : lv_has ls 6 [(0, .ref (w.1 (0, 0, 0))), (1, .int 9), (2, .int a), (3, .int b), (4, .int c)] := hl
  refine lv_iload_n hx hb dL_does_0 rfl (lv_at hl 1 rfl) ?_
  refine lv_if_ne (tgt := 14) hx hb dL_does_1 (by decide) (fun _ => ?_) (fun c9 => absurd c9 (by decide))
  refine lv_iload_n hx hb dL_does_14 rfl (lv_at hl 1 rfl) ?_
  refine lv_iconst (v := 1) hx hb dL_does_15 (by decide) ?_
  refine lv_icmp_ne (tgt := 27) hx hb dL_does_16 (by decide) (fun _ => ?_) (fun c9 => absurd c9 (by decide))
  refine lv_iload_n hx hb dL_does_27 rfl (lv_at hl 1 rfl) ?_
  refine lv_iconst (v := 2) hx hb dL_does_28 (by decide) ?_
  refine lv_icmp_ne (tgt := 41) hx hb dL_does_29 (by decide) (fun _ => ?_) (fun c9 => absurd c9 (by decide))
  refine lv_iload_n hx hb dL_does_41 rfl (lv_at hl 1 rfl) ?_
  refine lv_iconst (v := 3) hx hb dL_does_42 (by decide) ?_
  refine lv_icmp_ne (tgt := 58) hx hb dL_does_43 (by decide) (fun _ => ?_) (fun c9 => absurd c9 (by decide))
  refine lv_iload_n hx hb dL_does_58 rfl (lv_at hl 1 rfl) ?_
  refine lv_iconst (v := 4) hx hb dL_does_59 (by decide) ?_
  refine lv_icmp_ne (tgt := 75) hx hb dL_does_60 (by decide) (fun _ => ?_) (fun c9 => absurd c9 (by decide))
  refine lv_iload_n hx hb dL_does_75 rfl (lv_at hl 1 rfl) ?_
  refine lv_iconst (v := 5) hx hb dL_does_76 (by decide) ?_
  refine lv_icmp_ne (tgt := 92) hx hb dL_does_77 (by decide) (fun _ => ?_) (fun c9 => absurd c9 (by decide))
  refine lv_iload_n hx hb dL_does_92 rfl (lv_at hl 1 rfl) ?_
  refine lv_bipush (v := 6) hx hb dL_does_93 (by decide) ?_
  refine lv_icmp_ne (tgt := 107) hx hb dL_does_95 (by decide) (fun _ => ?_) (fun c9 => absurd c9 (by decide))
  refine lv_iload_n hx hb dL_does_107 rfl (lv_at hl 1 rfl) ?_
  refine lv_bipush (v := 7) hx hb dL_does_108 (by decide) ?_
  refine lv_icmp_ne (tgt := 121) hx hb dL_does_110 (by decide) (fun _ => ?_) (fun c9 => absurd c9 (by decide))
  refine lv_iload_n hx hb dL_does_121 rfl (lv_at hl 1 rfl) ?_
  refine lv_bipush (v := 8) hx hb dL_does_122 (by decide) ?_
  refine lv_icmp_ne (tgt := 136) hx hb dL_does_124 (by decide) (fun _ => ?_) (fun c9 => absurd c9 (by decide))
  refine lv_iload_n hx hb dL_does_136 rfl (lv_at hl 1 rfl) ?_
  refine lv_bipush (v := 9) hx hb dL_does_137 (by decide) ?_
  refine lv_icmp_ne (tgt := 151) hx hb dL_does_139 (by decide) (fun c9 => absurd rfl c9) (fun _ => ?_)
  refine lv_aload_n hx hb dL_does_142 rfl (lv_at hl 0 rfl) ?_
  refine lv_iload_n hx hb dL_does_143 rfl (lv_at hl 2 rfl) ?_
  refine lv_iload_n hx hb dL_does_144 rfl (lv_at hl 3 rfl) ?_
  refine zx_c (zx_rV (w := w) (As := [.int a, .int b]) (rest := []) (n := 2) (k := (0, 0, 0)) C hM hH hS hk he rfl gL_does_X4_tradeOf rfl rfl (by decide +kernel) ⟨Nat.le_of_ble_eq_true rfl, Nat.le_of_ble_eq_true rfl⟩ hl rfl (Nat.le_of_ble_eq_true rfl) dL_does_145 ⟨Nat.le_of_ble_eq_true rfl, Nat.le_of_ble_eq_true rfl⟩) hS (fun E ce q w' H1 locs1 hPX hH1 hS1 hce hcv hcl => ?_) (fun v_ w' H locs hP hH1 hS1 => ?_)
  · rcases hE E w' hPX with rfl | rfl | rfl
    · refine zx_catch C htab [] ⟨0, 192, 193, 57⟩ [⟨0, 192, 199, 61⟩, ⟨0, 192, 205, 65⟩] rfl zgI (by decide +kernel) (fun z hz => by cases hz) rfl (by decide) hce hcv hcl ?_
      refine lv_astore (lv' := [(5, .ref q), (0, .ref (w.1 (0, 0, 0))), (1, .int 9), (2, .int a), (3, .int b), (4, .int c)]) hx hb dL_does_193 hl (by decide) rfl (fun ls hl2 => ?_)
      refine lv_ldc2 (v := (-3000000000000)) hx hb hown (hts (.constantLong RL 59 (-3000000000000)) (by decide +kernel)) dL_does_195 ?_
      exact zr_lret C hr (Or.inr (Or.inl ⟨hPX, rfl⟩)) hH1 hS1 (Nat.le_of_ble_eq_true rfl) (Nat.le_of_ble_eq_true rfl) dL_does_198
    · refine zx_catch C htab [⟨0, 192, 193, 57⟩] ⟨0, 192, 199, 61⟩ [⟨0, 192, 205, 65⟩] rfl zgA (by decide +kernel) (fun z hz => by cases List.mem_singleton.mp hz; exact ⟨by decide, xI, by decide +kernel, zgAI⟩) rfl (by decide) hce hcv hcl ?_
      refine lv_astore (lv' := [(5, .ref q), (0, .ref (w.1 (0, 0, 0))), (1, .int 9), (2, .int a), (3, .int b), (4, .int c)]) hx hb dL_does_199 hl (by decide) rfl (fun ls hl2 => ?_)
      refine lv_ldc2 (v := (-2000000000000)) hx hb hown (hts (.constantLong RL 63 (-2000000000000)) (by decide +kernel)) dL_does_201 ?_
      exact zr_lret C hr (Or.inr (Or.inr (Or.inl ⟨hPX, rfl⟩))) hH1 hS1 (Nat.le_of_ble_eq_true rfl) (Nat.le_of_ble_eq_true rfl) dL_does_204
    · refine zx_catch C htab [⟨0, 192, 193, 57⟩, ⟨0, 192, 199, 61⟩] ⟨0, 192, 205, 65⟩ [] rfl zgS (by decide +kernel) (hp3 ⟨by decide, xI, by decide +kernel, zgSI⟩ ⟨by decide, xA, by decide +kernel, zgSA⟩) rfl (by decide) hce hcv hcl ?_
      refine lv_astore (lv' := [(5, .ref q), (0, .ref (w.1 (0, 0, 0))), (1, .int 9), (2, .int a), (3, .int b), (4, .int c)]) hx hb dL_does_205 hl (by decide) rfl (fun ls hl2 => ?_)
      refine lv_ldc2 (v := (-1000000000000)) hx hb hown (hts (.constantLong RL 67 (-1000000000000)) (by decide +kernel)) dL_does_207 ?_
      exact zr_lret C hr (Or.inr (Or.inr (Or.inr ⟨hPX, rfl⟩))) hH1 hS1 (Nat.le_of_ble_eq_true rfl) (Nat.le_of_ble_eq_true rfl) dL_does_210
  · obtain ⟨r_, rfl, hPv⟩ := hP
    refine W.eq (g2 := F0 m 148 ls [.long r_]) rfl ?_
    refine lv_goto (tgt := 192) hx hb dL_does_148 (by decide) ?_
    exact zr_lret C hr (Or.inl hPv) hH1 hS1 (Nat.le_of_ble_eq_true rfl) (Nat.le_of_ble_eq_true rfl) dL_does_192
def rmD_year : Room := { frames := 9, cells := 2, slots := 12, locals := 163 }
set_option maxHeartbeats 1000000 in
set_option maxRecDepth 100000 in
theorem cD_year (l : Launch) (D : va_G) (cA : Nat → ClassId) (A : Nat → Prop) (g : Nat → Nat) (w : zk_W) (hk : w.2.1 (0, 0, 0)) {fs : List Value} (he : w.2.2 (0, 0, 0) = .inr (5, fs)) (P : Int64 → zk_W → Prop) (PX : String → zk_W → Prop) (a b c : Int32) (hM : zX l yX4_year wsX4_year rmC_year D (zt cA) A g [.ref (w.1 (0, 0, 0)), .int a, .int b, .int c] w (zQl P) PX) (hE : ∀ E w', PX E w' → E = xI ∨ E = xA ∨ E = xS) : zM l yL_does wsL_does rmD_year D (zt cA) A g [.ref (w.1 (0, 0, 0)), .int 10, .int a, .int b, .int c] w (zQl (zDo P PX)) := by
  refine zM_ofH (cc := cL_does) (maxL := 6) (ret := some .long) (own := RL) (hh := [(0, 192, 193, 57), (0, 192, 199, 61), (0, 192, 205, 65)]) (by decide +kernel) rfl (Nat.le_of_ble_eq_true rfl) rfl ?_
  intro p e s m below meth cm C hr htab H locs ls hH hS hl
  obtain ⟨⟨hx, hb, hml, hown, hts⟩, hG, hlk⟩ := id C
  have hl : lv_has ls 6 [(0, .ref (w.1 (0, 0, 0))), (1, .int 10), (2, .int a), (3, .int b), (4, .int c)] := hl
  refine lv_iload_n hx hb dL_does_0 rfl (lv_at hl 1 rfl) ?_
  refine lv_if_ne (tgt := 14) hx hb dL_does_1 (by decide) (fun _ => ?_) (fun c9 => absurd c9 (by decide))
  refine lv_iload_n hx hb dL_does_14 rfl (lv_at hl 1 rfl) ?_
  refine lv_iconst (v := 1) hx hb dL_does_15 (by decide) ?_
  refine lv_icmp_ne (tgt := 27) hx hb dL_does_16 (by decide) (fun _ => ?_) (fun c9 => absurd c9 (by decide))
  refine lv_iload_n hx hb dL_does_27 rfl (lv_at hl 1 rfl) ?_
  refine lv_iconst (v := 2) hx hb dL_does_28 (by decide) ?_
  refine lv_icmp_ne (tgt := 41) hx hb dL_does_29 (by decide) (fun _ => ?_) (fun c9 => absurd c9 (by decide))
  refine lv_iload_n hx hb dL_does_41 rfl (lv_at hl 1 rfl) ?_
  refine lv_iconst (v := 3) hx hb dL_does_42 (by decide) ?_
  refine lv_icmp_ne (tgt := 58) hx hb dL_does_43 (by decide) (fun _ => ?_) (fun c9 => absurd c9 (by decide))
  refine lv_iload_n hx hb dL_does_58 rfl (lv_at hl 1 rfl) ?_
  refine lv_iconst (v := 4) hx hb dL_does_59 (by decide) ?_
  refine lv_icmp_ne (tgt := 75) hx hb dL_does_60 (by decide) (fun _ => ?_) (fun c9 => absurd c9 (by decide))
  refine lv_iload_n hx hb dL_does_75 rfl (lv_at hl 1 rfl) ?_
  refine lv_iconst (v := 5) hx hb dL_does_76 (by decide) ?_
  refine lv_icmp_ne (tgt := 92) hx hb dL_does_77 (by decide) (fun _ => ?_) (fun c9 => absurd c9 (by decide))
  refine lv_iload_n hx hb dL_does_92 rfl (lv_at hl 1 rfl) ?_
  refine lv_bipush (v := 6) hx hb dL_does_93 (by decide) ?_
  refine lv_icmp_ne (tgt := 107) hx hb dL_does_95 (by decide) (fun _ => ?_) (fun c9 => absurd c9 (by decide))
  refine lv_iload_n hx hb dL_does_107 rfl (lv_at hl 1 rfl) ?_
  refine lv_bipush (v := 7) hx hb dL_does_108 (by decide) ?_
  refine lv_icmp_ne (tgt := 121) hx hb dL_does_110 (by decide) (fun _ => ?_) (fun c9 => absurd c9 (by decide))
  refine lv_iload_n hx hb dL_does_121 rfl (lv_at hl 1 rfl) ?_
  refine lv_bipush (v := 8) hx hb dL_does_122 (by decide) ?_
  refine lv_icmp_ne (tgt := 136) hx hb dL_does_124 (by decide) (fun _ => ?_) (fun c9 => absurd c9 (by decide))
  refine lv_iload_n hx hb dL_does_136 rfl (lv_at hl 1 rfl) ?_
  refine lv_bipush (v := 9) hx hb dL_does_137 (by decide) ?_
  refine lv_icmp_ne (tgt := 151) hx hb dL_does_139 (by decide) (fun _ => ?_) (fun c9 => absurd c9 (by decide))
  refine lv_iload_n hx hb dL_does_151 rfl (lv_at hl 1 rfl) ?_
  refine lv_bipush (v := 10) hx hb dL_does_152 (by decide) ?_
  refine lv_icmp_ne (tgt := 168) hx hb dL_does_154 (by decide) (fun c9 => absurd rfl c9) (fun _ => ?_)
  refine lv_aload_n hx hb dL_does_157 rfl (lv_at hl 0 rfl) ?_
  refine lv_iload_n hx hb dL_does_158 rfl (lv_at hl 2 rfl) ?_
  refine lv_iload_n hx hb dL_does_159 rfl (lv_at hl 3 rfl) ?_
  refine lv_iload hx hb dL_does_160 (lv_at hl 4 rfl) ?_
  refine zx_c (zx_rV (w := w) (As := [.int a, .int b, .int c]) (rest := []) (n := 3) (k := (0, 0, 0)) C hM hH hS hk he rfl gL_does_X4_year rfl rfl (by decide +kernel) ⟨Nat.le_of_ble_eq_true rfl, Nat.le_of_ble_eq_true rfl⟩ hl rfl (Nat.le_of_ble_eq_true rfl) dL_does_162 ⟨Nat.le_of_ble_eq_true rfl, Nat.le_of_ble_eq_true rfl⟩) hS (fun E ce q w' H1 locs1 hPX hH1 hS1 hce hcv hcl => ?_) (fun v_ w' H locs hP hH1 hS1 => ?_)
  · rcases hE E w' hPX with rfl | rfl | rfl
    · refine zx_catch C htab [] ⟨0, 192, 193, 57⟩ [⟨0, 192, 199, 61⟩, ⟨0, 192, 205, 65⟩] rfl zgI (by decide +kernel) (fun z hz => by cases hz) rfl (by decide) hce hcv hcl ?_
      refine lv_astore (lv' := [(5, .ref q), (0, .ref (w.1 (0, 0, 0))), (1, .int 10), (2, .int a), (3, .int b), (4, .int c)]) hx hb dL_does_193 hl (by decide) rfl (fun ls hl2 => ?_)
      refine lv_ldc2 (v := (-3000000000000)) hx hb hown (hts (.constantLong RL 59 (-3000000000000)) (by decide +kernel)) dL_does_195 ?_
      exact zr_lret C hr (Or.inr (Or.inl ⟨hPX, rfl⟩)) hH1 hS1 (Nat.le_of_ble_eq_true rfl) (Nat.le_of_ble_eq_true rfl) dL_does_198
    · refine zx_catch C htab [⟨0, 192, 193, 57⟩] ⟨0, 192, 199, 61⟩ [⟨0, 192, 205, 65⟩] rfl zgA (by decide +kernel) (fun z hz => by cases List.mem_singleton.mp hz; exact ⟨by decide, xI, by decide +kernel, zgAI⟩) rfl (by decide) hce hcv hcl ?_
      refine lv_astore (lv' := [(5, .ref q), (0, .ref (w.1 (0, 0, 0))), (1, .int 10), (2, .int a), (3, .int b), (4, .int c)]) hx hb dL_does_199 hl (by decide) rfl (fun ls hl2 => ?_)
      refine lv_ldc2 (v := (-2000000000000)) hx hb hown (hts (.constantLong RL 63 (-2000000000000)) (by decide +kernel)) dL_does_201 ?_
      exact zr_lret C hr (Or.inr (Or.inr (Or.inl ⟨hPX, rfl⟩))) hH1 hS1 (Nat.le_of_ble_eq_true rfl) (Nat.le_of_ble_eq_true rfl) dL_does_204
    · refine zx_catch C htab [⟨0, 192, 193, 57⟩, ⟨0, 192, 199, 61⟩] ⟨0, 192, 205, 65⟩ [] rfl zgS (by decide +kernel) (hp3 ⟨by decide, xI, by decide +kernel, zgSI⟩ ⟨by decide, xA, by decide +kernel, zgSA⟩) rfl (by decide) hce hcv hcl ?_
      refine lv_astore (lv' := [(5, .ref q), (0, .ref (w.1 (0, 0, 0))), (1, .int 10), (2, .int a), (3, .int b), (4, .int c)]) hx hb dL_does_205 hl (by decide) rfl (fun ls hl2 => ?_)
      refine lv_ldc2 (v := (-1000000000000)) hx hb hown (hts (.constantLong RL 67 (-1000000000000)) (by decide +kernel)) dL_does_207 ?_
      exact zr_lret C hr (Or.inr (Or.inr (Or.inr ⟨hPX, rfl⟩))) hH1 hS1 (Nat.le_of_ble_eq_true rfl) (Nat.le_of_ble_eq_true rfl) dL_does_210
  · obtain ⟨r_, rfl, hPv⟩ := hP
    refine W.eq (g2 := F0 m 165 ls [.long r_]) rfl ?_
    refine lv_goto (tgt := 192) hx hb dL_does_165 (by decide) ?_
    exact zr_lret C hr (Or.inl hPv) hH1 hS1 (Nat.le_of_ble_eq_true rfl) (Nat.le_of_ble_eq_true rfl) dL_does_192
def rmD_parts : Room := { frames := 10, cells := 2, slots := 12, locals := 184 }
set_option maxHeartbeats 1000000 in
set_option maxRecDepth 100000 in
theorem cD_parts (l : Launch) (D : va_G) (cA : Nat → ClassId) (A : Nat → Prop) (g : Nat → Nat) (w : zk_W) (hk : w.2.1 (0, 0, 0)) {fs : List Value} (he : w.2.2 (0, 0, 0) = .inr (5, fs)) (P : Int64 → zk_W → Prop) (PX : String → zk_W → Prop) (a b c : Int32) (hM : zX l yX4_parts wsX4_parts rmC_parts D (zt cA) A g [.ref (w.1 (0, 0, 0)), .int a, .int b] w (zQl P) PX) (hE : ∀ E w', PX E w' → E = xI ∨ E = xA ∨ E = xS) : zM l yL_does wsL_does rmD_parts D (zt cA) A g [.ref (w.1 (0, 0, 0)), .int 12, .int a, .int b, .int c] w (zQl (zDo P PX)) := by
  refine zM_ofH (cc := cL_does) (maxL := 6) (ret := some .long) (own := RL) (hh := [(0, 192, 193, 57), (0, 192, 199, 61), (0, 192, 205, 65)]) (by decide +kernel) rfl (Nat.le_of_ble_eq_true rfl) rfl ?_
  intro p e s m below meth cm C hr htab H locs ls hH hS hl
  obtain ⟨⟨hx, hb, hml, hown, hts⟩, hG, hlk⟩ := id C
  have hl : lv_has ls 6 [(0, .ref (w.1 (0, 0, 0))), (1, .int 12), (2, .int a), (3, .int b), (4, .int c)] := hl
  refine lv_iload_n hx hb dL_does_0 rfl (lv_at hl 1 rfl) ?_
  refine lv_if_ne (tgt := 14) hx hb dL_does_1 (by decide) (fun _ => ?_) (fun c9 => absurd c9 (by decide))
  refine lv_iload_n hx hb dL_does_14 rfl (lv_at hl 1 rfl) ?_
  refine lv_iconst (v := 1) hx hb dL_does_15 (by decide) ?_
  refine lv_icmp_ne (tgt := 27) hx hb dL_does_16 (by decide) (fun _ => ?_) (fun c9 => absurd c9 (by decide))
  refine lv_iload_n hx hb dL_does_27 rfl (lv_at hl 1 rfl) ?_
  refine lv_iconst (v := 2) hx hb dL_does_28 (by decide) ?_
  refine lv_icmp_ne (tgt := 41) hx hb dL_does_29 (by decide) (fun _ => ?_) (fun c9 => absurd c9 (by decide))
  refine lv_iload_n hx hb dL_does_41 rfl (lv_at hl 1 rfl) ?_
  refine lv_iconst (v := 3) hx hb dL_does_42 (by decide) ?_
  refine lv_icmp_ne (tgt := 58) hx hb dL_does_43 (by decide) (fun _ => ?_) (fun c9 => absurd c9 (by decide))
  refine lv_iload_n hx hb dL_does_58 rfl (lv_at hl 1 rfl) ?_
  refine lv_iconst (v := 4) hx hb dL_does_59 (by decide) ?_
  refine lv_icmp_ne (tgt := 75) hx hb dL_does_60 (by decide) (fun _ => ?_) (fun c9 => absurd c9 (by decide))
  refine lv_iload_n hx hb dL_does_75 rfl (lv_at hl 1 rfl) ?_
  refine lv_iconst (v := 5) hx hb dL_does_76 (by decide) ?_
  refine lv_icmp_ne (tgt := 92) hx hb dL_does_77 (by decide) (fun _ => ?_) (fun c9 => absurd c9 (by decide))
  refine lv_iload_n hx hb dL_does_92 rfl (lv_at hl 1 rfl) ?_
  refine lv_bipush (v := 6) hx hb dL_does_93 (by decide) ?_
  refine lv_icmp_ne (tgt := 107) hx hb dL_does_95 (by decide) (fun _ => ?_) (fun c9 => absurd c9 (by decide))
  refine lv_iload_n hx hb dL_does_107 rfl (lv_at hl 1 rfl) ?_
  refine lv_bipush (v := 7) hx hb dL_does_108 (by decide) ?_
  refine lv_icmp_ne (tgt := 121) hx hb dL_does_110 (by decide) (fun _ => ?_) (fun c9 => absurd c9 (by decide))
  refine lv_iload_n hx hb dL_does_121 rfl (lv_at hl 1 rfl) ?_
  refine lv_bipush (v := 8) hx hb dL_does_122 (by decide) ?_
  refine lv_icmp_ne (tgt := 136) hx hb dL_does_124 (by decide) (fun _ => ?_) (fun c9 => absurd c9 (by decide))
  refine lv_iload_n hx hb dL_does_136 rfl (lv_at hl 1 rfl) ?_
  refine lv_bipush (v := 9) hx hb dL_does_137 (by decide) ?_
  refine lv_icmp_ne (tgt := 151) hx hb dL_does_139 (by decide) (fun _ => ?_) (fun c9 => absurd c9 (by decide))
  refine lv_iload_n hx hb dL_does_151 rfl (lv_at hl 1 rfl) ?_
  refine lv_bipush (v := 10) hx hb dL_does_152 (by decide) ?_
  refine lv_icmp_ne (tgt := 168) hx hb dL_does_154 (by decide) (fun _ => ?_) (fun c9 => absurd c9 (by decide))
  refine lv_iload_n hx hb dL_does_168 rfl (lv_at hl 1 rfl) ?_
  refine lv_bipush (v := 11) hx hb dL_does_169 (by decide) ?_
  refine lv_icmp_ne (tgt := 186) hx hb dL_does_171 (by decide) (fun _ => ?_) (fun c9 => absurd c9 (by decide))
  refine lv_aload_n hx hb dL_does_186 rfl (lv_at hl 0 rfl) ?_
  refine lv_iload_n hx hb dL_does_187 rfl (lv_at hl 2 rfl) ?_
  refine lv_iload_n hx hb dL_does_188 rfl (lv_at hl 3 rfl) ?_
  refine zx_c (zx_rV (w := w) (As := [.int a, .int b]) (rest := []) (n := 2) (k := (0, 0, 0)) C hM hH hS hk he rfl gL_does_X4_parts rfl rfl (by decide +kernel) ⟨Nat.le_of_ble_eq_true rfl, Nat.le_of_ble_eq_true rfl⟩ hl rfl (Nat.le_of_ble_eq_true rfl) dL_does_189 ⟨Nat.le_of_ble_eq_true rfl, Nat.le_of_ble_eq_true rfl⟩) hS (fun E ce q w' H1 locs1 hPX hH1 hS1 hce hcv hcl => ?_) (fun v_ w' H locs hP hH1 hS1 => ?_)
  · rcases hE E w' hPX with rfl | rfl | rfl
    · refine zx_catch C htab [] ⟨0, 192, 193, 57⟩ [⟨0, 192, 199, 61⟩, ⟨0, 192, 205, 65⟩] rfl zgI (by decide +kernel) (fun z hz => by cases hz) rfl (by decide) hce hcv hcl ?_
      refine lv_astore (lv' := [(5, .ref q), (0, .ref (w.1 (0, 0, 0))), (1, .int 12), (2, .int a), (3, .int b), (4, .int c)]) hx hb dL_does_193 hl (by decide) rfl (fun ls hl2 => ?_)
      refine lv_ldc2 (v := (-3000000000000)) hx hb hown (hts (.constantLong RL 59 (-3000000000000)) (by decide +kernel)) dL_does_195 ?_
      exact zr_lret C hr (Or.inr (Or.inl ⟨hPX, rfl⟩)) hH1 hS1 (Nat.le_of_ble_eq_true rfl) (Nat.le_of_ble_eq_true rfl) dL_does_198
    · refine zx_catch C htab [⟨0, 192, 193, 57⟩] ⟨0, 192, 199, 61⟩ [⟨0, 192, 205, 65⟩] rfl zgA (by decide +kernel) (fun z hz => by cases List.mem_singleton.mp hz; exact ⟨by decide, xI, by decide +kernel, zgAI⟩) rfl (by decide) hce hcv hcl ?_
      refine lv_astore (lv' := [(5, .ref q), (0, .ref (w.1 (0, 0, 0))), (1, .int 12), (2, .int a), (3, .int b), (4, .int c)]) hx hb dL_does_199 hl (by decide) rfl (fun ls hl2 => ?_)
      refine lv_ldc2 (v := (-2000000000000)) hx hb hown (hts (.constantLong RL 63 (-2000000000000)) (by decide +kernel)) dL_does_201 ?_
      exact zr_lret C hr (Or.inr (Or.inr (Or.inl ⟨hPX, rfl⟩))) hH1 hS1 (Nat.le_of_ble_eq_true rfl) (Nat.le_of_ble_eq_true rfl) dL_does_204
    · refine zx_catch C htab [⟨0, 192, 193, 57⟩, ⟨0, 192, 199, 61⟩] ⟨0, 192, 205, 65⟩ [] rfl zgS (by decide +kernel) (hp3 ⟨by decide, xI, by decide +kernel, zgSI⟩ ⟨by decide, xA, by decide +kernel, zgSA⟩) rfl (by decide) hce hcv hcl ?_
      refine lv_astore (lv' := [(5, .ref q), (0, .ref (w.1 (0, 0, 0))), (1, .int 12), (2, .int a), (3, .int b), (4, .int c)]) hx hb dL_does_205 hl (by decide) rfl (fun ls hl2 => ?_)
      refine lv_ldc2 (v := (-1000000000000)) hx hb hown (hts (.constantLong RL 67 (-1000000000000)) (by decide +kernel)) dL_does_207 ?_
      exact zr_lret C hr (Or.inr (Or.inr (Or.inr ⟨hPX, rfl⟩))) hH1 hS1 (Nat.le_of_ble_eq_true rfl) (Nat.le_of_ble_eq_true rfl) dL_does_210
  · obtain ⟨r_, rfl, hPv⟩ := hP
    refine W.eq (g2 := F0 m 192 ls [.long r_]) rfl ?_
    exact zr_lret C hr (Or.inl hPv) hH1 hS1 (Nat.le_of_ble_eq_true rfl) (Nat.le_of_ble_eq_true rfl) dL_does_192
