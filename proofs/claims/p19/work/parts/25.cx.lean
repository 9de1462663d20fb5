/-! ===== the checks ===== -/
theorem zk_H.kept {D : va_G} {A : Nat → Prop} {w : zk_W} {H H1 : Heap} (h : zk_H D A w H) (hk : ∀ q : Nat, q < H.size → H1[q]? = H[q]?) : zk_H D A w H1 := by
  obtain ⟨ws, hP, hD, hL, hI⟩ := h
  exact ⟨ws, hP.kept (fun k x hx => hk x.1 ((hP k x hx).lt)), hD, hL, hI⟩
theorem va_S.more {A : Nat → Prop} {H0 H H1 : Heap} {locs : List Loc} (h : va_S A H0 H locs) (hs : H.size ≤ H1.size) (hk : ∀ q : Nat, q < H.size → H1[q]? = H[q]?) : va_S A H0 H1 locs :=
  ⟨Nat.le_trans h.1 hs, fun q h1 h2 => (hk q (Nat.lt_of_lt_of_le h1 h.1)).trans (h.2.1 q h1 h2), h.2.2⟩
def rmC_exists0 : Room := { frames := 6, cells := 1, slots := 6, locals := 96 }
set_option maxRecDepth 100000 in
theorem cC_exists0 (l : Launch) (hst : l.stackTraces = false) (D : va_G) (cA : Nat → ClassId) (A : Nat → Prop) (g : Nat → Nat) (w : zk_W)   : zX l yX4_checkExists wsX4_checkExists rmC_exists0 D (zt cA) A g [.int 0] w (fun _ _ => False) (fun E w' => E = "java/lang/IndexOutOfBoundsException" ∧ w = w') := by
  refine zX_of (cc := cX4_checkExists) (maxL := 1) (ret := none) (own := RX4) (by decide +kernel) rfl (Nat.le_of_ble_eq_true rfl) rfl ?_
  intro p e s m below meth c C hr hnm hex H locs ls hH hS hl
  obtain ⟨⟨hx, hb, hml, hown, hts⟩, hG, hlk⟩ := id C
  have hl : lv_has ls 1 [(0, .int 0)] := hl
  have hG2 := hG
  obtain ⟨-, -, -, -, -, -, hU, hN, hcc, -, -, hs2, hs3, hs4, -, hdc⟩ := hG2
  refine lv_iload_n hx hb dX4_checkExists_0 rfl (lv_at hl 0 rfl) ?_
  refine lv_if_ne (tgt := 14) hx hb dX4_checkExists_1 (by decide) (fun z => absurd z (by decide)) (fun _ => ?_)
  refine vx_throwS (cls := "java/lang/IndexOutOfBoundsException") (names := ["java/lang/RuntimeException", "java/lang/Exception"]) (A := A) hx hb hst hown (by decide +kernel) (by decide +kernel) (hts _ (by decide +kernel)) (hts _ (by decide +kernel)) hs2 (vx_hat (B := [.castable "java/lang/IndexOutOfBoundsException" "java/lang/IndexOutOfBoundsException", .declares (Bundle.initS "java/lang/RuntimeException"), .declares (Bundle.initS "java/lang/Exception"), .declares (Bundle.initS Bundle.tN)]) (fun w hw => hts w (List.mem_cons_of_mem _ (List.mem_append_right _ hw))) (by decide +kernel) (fun w hw => ?_)) (by decide +kernel) hU hN hS (by rw [hml]; exact hl.1) dX4_checkExists_4 dX4_checkExists_7 dX4_checkExists_8 dX4_checkExists_10 dX4_checkExists_13 (fun x hx => (hex x hx).elim) (by decide) (by decide) (by decide) (by decide) hlk (fun t h1 h2 h3 => ?_) hS.2.2 (by decide) (by decide)
  · simp only [List.mem_cons, List.mem_nil_iff, or_false] at hw
    rcases hw with rfl | rfl | rfl | rfl
    · exact va_Nw.use rfl (hcc "java/lang/IndexOutOfBoundsException" (by decide))
    · exact va_Nw.use rfl (hdc "java/lang/RuntimeException" (by decide))
    · exact va_Nw.use rfl (hdc "java/lang/Exception" (by decide))
    · exact va_Nw.use rfl (hdc Bundle.tN (by decide))
  · exact ⟨⟨w, ⟨rfl, rfl⟩, hH.kept h3⟩, (hS.more h2 h3).F rfl⟩
def rmC_possible0 : Room := { frames := 6, cells := 1, slots := 6, locals := 96 }
set_option maxRecDepth 100000 in
theorem cC_possible0 (l : Launch) (hst : l.stackTraces = false) (D : va_G) (cA : Nat → ClassId) (A : Nat → Prop) (g : Nat → Nat) (w : zk_W)   : zX l yX4_checkPossible wsX4_checkPossible rmC_possible0 D (zt cA) A g [.int 0] w (fun _ _ => False) (fun E w' => E = "java/lang/IllegalStateException" ∧ w = w') := by
  refine zX_of (cc := cX4_checkPossible) (maxL := 1) (ret := none) (own := RX4) (by decide +kernel) rfl (Nat.le_of_ble_eq_true rfl) rfl ?_
  intro p e s m below meth c C hr hnm hex H locs ls hH hS hl
  obtain ⟨⟨hx, hb, hml, hown, hts⟩, hG, hlk⟩ := id C
  have hl : lv_has ls 1 [(0, .int 0)] := hl
  have hG2 := hG
  obtain ⟨-, -, -, -, -, -, hU, hN, hcc, -, -, hs2, hs3, hs4, -, hdc⟩ := hG2
  refine lv_iload_n hx hb dX4_checkPossible_0 rfl (lv_at hl 0 rfl) ?_
  refine lv_if_ne (tgt := 14) hx hb dX4_checkPossible_1 (by decide) (fun z => absurd z (by decide)) (fun _ => ?_)
  refine vx_throwS (cls := "java/lang/IllegalStateException") (names := ["java/lang/RuntimeException", "java/lang/Exception"]) (A := A) hx hb hst hown (by decide +kernel) (by decide +kernel) (hts _ (by decide +kernel)) (hts _ (by decide +kernel)) hs4 (vx_hat (B := [.castable "java/lang/IllegalStateException" "java/lang/IllegalStateException", .declares (Bundle.initS "java/lang/RuntimeException"), .declares (Bundle.initS "java/lang/Exception"), .declares (Bundle.initS Bundle.tN)]) (fun w hw => hts w (List.mem_cons_of_mem _ (List.mem_append_right _ hw))) (by decide +kernel) (fun w hw => ?_)) (by decide +kernel) hU hN hS (by rw [hml]; exact hl.1) dX4_checkPossible_4 dX4_checkPossible_7 dX4_checkPossible_8 dX4_checkPossible_10 dX4_checkPossible_13 (fun x hx => (hex x hx).elim) (by decide) (by decide) (by decide) (by decide) hlk (fun t h1 h2 h3 => ?_) hS.2.2 (by decide) (by decide)
  · simp only [List.mem_cons, List.mem_nil_iff, or_false] at hw
    rcases hw with rfl | rfl | rfl | rfl
    · exact va_Nw.use rfl (hcc "java/lang/IllegalStateException" (by decide))
    · exact va_Nw.use rfl (hdc "java/lang/RuntimeException" (by decide))
    · exact va_Nw.use rfl (hdc "java/lang/Exception" (by decide))
    · exact va_Nw.use rfl (hdc Bundle.tN (by decide))
  · exact ⟨⟨w, ⟨rfl, rfl⟩, hH.kept h3⟩, (hS.more h2 h3).F rfl⟩
def rmC_range0 : Room := { frames := 6, cells := 1, slots := 6, locals := 96 }
set_option maxRecDepth 100000 in
theorem cC_range0 (l : Launch) (hst : l.stackTraces = false) (D : va_G) (cA : Nat → ClassId) (A : Nat → Prop) (g : Nat → Nat) (w : zk_W) (x : Int32) (lo : Int32) (hi : Int32) (h : ¬ zR x lo hi) : zX l yX4_checkRange wsX4_checkRange rmC_range0 D (zt cA) A g [.int x, .int lo, .int hi] w (fun _ _ => False) (fun E w' => E = "java/lang/IllegalArgumentException" ∧ w = w') := by
  refine zX_of (cc := cX4_checkRange) (maxL := 3) (ret := none) (own := RX4) (by decide +kernel) rfl (Nat.le_of_ble_eq_true rfl) rfl ?_
  intro p e s m below meth c C hr hnm hex H locs ls hH hS hl
  obtain ⟨⟨hx, hb, hml, hown, hts⟩, hG, hlk⟩ := id C
  have hl : lv_has ls 3 [(0, .int x), (1, .int lo), (2, .int hi)] := hl
  have hG2 := hG
  obtain ⟨-, -, -, -, -, -, hU, hN, hcc, -, -, hs2, hs3, hs4, -, hdc⟩ := hG2
  refine lv_iload_n hx hb dX4_checkRange_0 rfl (lv_at hl 0 rfl) ?_
  refine lv_iload_n hx hb dX4_checkRange_1 rfl (lv_at hl 1 rfl) ?_
  suffices hT : W p l e rmC_range0 s m _ below meth c H locs 0 0 (vx_MQ below (fun _ => zk_Qc D A fun _ _ => False) (zk_XC D A fun E w' => E = "java/lang/IllegalArgumentException" ∧ w = w') #[Value.int x, Value.int lo, Value.int hi] s rmC_range0.cells rmC_range0.slots A) (F0 m 10 ls []) from
    lv_icmp_lt (tgt := 10) hx hb dX4_checkRange_2 (by decide) (fun _ => hT) (fun h1 => lv_iload_n hx hb dX4_checkRange_5 rfl (lv_at hl 0 rfl) (lv_iload_n hx hb dX4_checkRange_6 rfl (lv_at hl 2 rfl) (lv_icmp_le (tgt := 20) hx hb dX4_checkRange_7 (by decide) (fun h2 => absurd ⟨Int32.not_lt.mp h1, h2⟩ h) (fun _ => hT))))
  refine vx_throwS (cls := "java/lang/IllegalArgumentException") (names := ["java/lang/RuntimeException", "java/lang/Exception"]) (A := A) hx hb hst hown (by decide +kernel) (by decide +kernel) (hts _ (by decide +kernel)) (hts _ (by decide +kernel)) hs3 (vx_hat (B := [.castable "java/lang/IllegalArgumentException" "java/lang/IllegalArgumentException", .declares (Bundle.initS "java/lang/RuntimeException"), .declares (Bundle.initS "java/lang/Exception"), .declares (Bundle.initS Bundle.tN)]) (fun w hw => hts w (List.mem_cons_of_mem _ (List.mem_append_right _ hw))) (by decide +kernel) (fun w hw => ?_)) (by decide +kernel) hU hN hS (by rw [hml]; exact hl.1) dX4_checkRange_10 dX4_checkRange_13 dX4_checkRange_14 dX4_checkRange_16 dX4_checkRange_19 (fun x hx => (hex x hx).elim) (by decide) (by decide) (by decide) (by decide) hlk (fun t h1 h2 h3 => ?_) hS.2.2 (by decide) (by decide)
  · simp only [List.mem_cons, List.mem_nil_iff, or_false] at hw
    rcases hw with rfl | rfl | rfl | rfl
    · exact va_Nw.use rfl (hcc "java/lang/IllegalArgumentException" (by decide))
    · exact va_Nw.use rfl (hdc "java/lang/RuntimeException" (by decide))
    · exact va_Nw.use rfl (hdc "java/lang/Exception" (by decide))
    · exact va_Nw.use rfl (hdc Bundle.tN (by decide))
  · exact ⟨⟨w, ⟨rfl, rfl⟩, hH.kept h3⟩, (hS.more h2 h3).F rfl⟩
def rmC_exists1 : Room := { frames := 0, cells := 0, slots := 0, locals := 0 }
set_option maxHeartbeats 600000 in
set_option maxRecDepth 100000 in
theorem cC_exists1 (l : Launch) (D : va_G) (cA : Nat → ClassId) (A : Nat → Prop) (g : Nat → Nat) (w : zk_W) : zM l yX4_checkExists wsX4_checkExists rmC_exists1 D (zt cA) A g [.int 1] (w) (zQv (fun w' => w = w')) := by
  refine zM_of (cc := cX4_checkExists) (maxL := 1) (ret := none) (own := RX4) (by decide +kernel) rfl (Nat.le_of_ble_eq_true rfl) rfl ?_
  intro p e s m below meth c C hr hnm H locs ls hH hS hl
  obtain ⟨⟨hx, hb, hml, hown, hts⟩, hG, hlk⟩ := id C
  have hl : lv_has ls 1 [(0, .int 1)] := hl
  refine lv_iload_n hx hb dX4_checkExists_0 rfl (lv_at hl 0 rfl) ?_
  refine lv_if_ne (tgt := 14) hx hb dX4_checkExists_1 (by decide) (fun c_1 => ?_) (fun c_1 => absurd c_1 (by decide))
  refine zr_vret C hr ?_ hH hS (Nat.le_of_ble_eq_true rfl) (Nat.le_of_ble_eq_true rfl) dX4_checkExists_14
  rfl
def rmC_possible1 : Room := { frames := 0, cells := 0, slots := 0, locals := 0 }
set_option maxHeartbeats 600000 in
set_option maxRecDepth 100000 in
theorem cC_possible1 (l : Launch) (D : va_G) (cA : Nat → ClassId) (A : Nat → Prop) (g : Nat → Nat) (w : zk_W) : zM l yX4_checkPossible wsX4_checkPossible rmC_possible1 D (zt cA) A g [.int 1] (w) (zQv (fun w' => w = w')) := by
  refine zM_of (cc := cX4_checkPossible) (maxL := 1) (ret := none) (own := RX4) (by decide +kernel) rfl (Nat.le_of_ble_eq_true rfl) rfl ?_
  intro p e s m below meth c C hr hnm H locs ls hH hS hl
  obtain ⟨⟨hx, hb, hml, hown, hts⟩, hG, hlk⟩ := id C
  have hl : lv_has ls 1 [(0, .int 1)] := hl
  refine lv_iload_n hx hb dX4_checkPossible_0 rfl (lv_at hl 0 rfl) ?_
  refine lv_if_ne (tgt := 14) hx hb dX4_checkPossible_1 (by decide) (fun c_1 => ?_) (fun c_1 => absurd c_1 (by decide))
  refine zr_vret C hr ?_ hH hS (Nat.le_of_ble_eq_true rfl) (Nat.le_of_ble_eq_true rfl) dX4_checkPossible_14
  rfl
def rmC_range1 : Room := { frames := 0, cells := 0, slots := 0, locals := 0 }
set_option maxHeartbeats 600000 in
set_option maxRecDepth 100000 in
theorem cC_range1 (l : Launch) (D : va_G) (cA : Nat → ClassId) (A : Nat → Prop) (g : Nat → Nat) (w : zk_W) (x lo hi : Int32) (h : zR x lo hi) : zM l yX4_checkRange wsX4_checkRange rmC_range1 D (zt cA) A g [.int x, .int lo, .int hi] (w) (zQv (fun w' => w = w')) := by
  refine zM_of (cc := cX4_checkRange) (maxL := 3) (ret := none) (own := RX4) (by decide +kernel) rfl (Nat.le_of_ble_eq_true rfl) rfl ?_
  intro p e s m below meth c C hr hnm H locs ls hH hS hl
  obtain ⟨⟨hx, hb, hml, hown, hts⟩, hG, hlk⟩ := id C
  have hl : lv_has ls 3 [(0, .int x), (1, .int lo), (2, .int hi)] := hl
  refine lv_iload_n hx hb dX4_checkRange_0 rfl (lv_at hl 0 rfl) ?_
  refine lv_iload_n hx hb dX4_checkRange_1 rfl (lv_at hl 1 rfl) ?_
  refine lv_icmp_lt (tgt := 10) hx hb dX4_checkRange_2 (by decide) (fun c_1 => absurd c_1 (Int32.not_lt.mpr h.1)) (fun c_1 => ?_)
  refine lv_iload_n hx hb dX4_checkRange_5 rfl (lv_at hl 0 rfl) ?_
  refine lv_iload_n hx hb dX4_checkRange_6 rfl (lv_at hl 2 rfl) ?_
  refine lv_icmp_le (tgt := 20) hx hb dX4_checkRange_7 (by decide) (fun c_2 => ?_) (fun c_2 => absurd h.2 c_2)
  refine zr_vret C hr ?_ hH hS (Nat.le_of_ble_eq_true rfl) (Nat.le_of_ble_eq_true rfl) dX4_checkRange_20
  rfl
