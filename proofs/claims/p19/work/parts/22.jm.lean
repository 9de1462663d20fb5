def rmJ_acInit : Room := { frames := 1, cells := 0, slots := 0, locals := 32 }
set_option maxHeartbeats 600000 in
set_option maxRecDepth 100000 in
theorem cJ_acInit (l : Launch) (D : va_G) (cA : Nat → ClassId) (A : Nat → Prop) (g : Nat → Nat) (w : zk_W) (o : Nat) : zM l yJxa1e45_init_da8c8 wsJxa1e45_init_da8c8 rmJ_acInit D (zt cA) A g [.ref o] (w) (zQv (fun w' => w = w')) := by
  refine zM_of (cc := cJxa1e45_init_da8c8) (maxL := 1) (ret := none) (own := RJxa1e45) (by decide +kernel) rfl (Nat.le_of_ble_eq_true rfl) rfl ?_
  intro p e s m below meth c C hr hnm H locs ls hH hS hl
  obtain ⟨⟨hx, hb, hml, hown, hts⟩, hG, hlk⟩ := id C
  have hl : lv_has ls 1 [(0, .ref o)] := hl
  refine lv_aload_n hx hb dJxa1e45_init_da8c8_0 rfl (lv_at hl 0 rfl) ?_
  refine W.objInit hx hb hown (hts (.methodLink RJxa1e45 1 objectInit) (by decide +kernel)) (hts (.instanceMethod objectInit) (by decide +kernel)) (hts _ (by decide +kernel)) rfl (by rw [hml]; exact hl.1) rfl dJxa1e45_init_da8c8_1 (Nat.le_of_ble_eq_true rfl) (Nat.le_of_ble_eq_true rfl) ?_
  refine W.eq (g2 := F0 m 4 ls []) rfl ?_
  refine zr_vret C hr ?_ hH hS (Nat.le_of_ble_eq_true rfl) (Nat.le_of_ble_eq_true rfl) dJxa1e45_init_da8c8_4
  rfl
def rmJ_alInit : Room := { frames := 2, cells := 0, slots := 0, locals := 52 }
set_option maxHeartbeats 600000 in
set_option maxRecDepth 100000 in
theorem cJ_alInit (l : Launch) (D : va_G) (cA : Nat → ClassId) (A : Nat → Prop) (g : Nat → Nat) (w : zk_W) (kl : zk_K) (hk : w.2.1 kl) (he : w.2.2 kl = .inr (0, [.int 0, .null, .int 0])) : zM l yJxc12de_init_da8c8 wsJxc12de_init_da8c8 rmJ_alInit D (zt cA) A g [.ref (w.1 kl)] (w) (zQv (fun w' => w = w')) := by
  refine zM_of (cc := cJxc12de_init_da8c8) (maxL := 1) (ret := none) (own := RJxc12de) (by decide +kernel) rfl (Nat.le_of_ble_eq_true rfl) rfl ?_
  intro p e s m below meth c C hr hnm H locs ls hH hS hl
  obtain ⟨⟨hx, hb, hml, hown, hts⟩, hG, hlk⟩ := id C
  have hin : ∀ w ∈ wsJx4a65c0, w ∈ wsJxc12de_init_da8c8 := by decide +kernel
  have hl : lv_has ls 1 [(0, .ref (w.1 kl))] := hl
  refine lv_aload_n hx hb dJxc12de_init_da8c8_0 rfl (lv_at hl 0 rfl) ?_
  refine zk_cv (zk_rI (As := []) (rest := []) (n := 0) (b := w.1 kl) C (cJ_acInit l D cA A g w (w.1 kl)) hH hS gJxc12de_init_da8c8_Jxa1e45_init_da8c8 rfl (by decide +kernel) (by decide +kernel) (by decide +kernel) rfl rfl (by decide +kernel) ⟨Nat.le_of_ble_eq_true rfl, Nat.le_of_ble_eq_true rfl⟩ hl rfl (Nat.le_of_ble_eq_true rfl) dJxc12de_init_da8c8_1 ⟨Nat.le_of_ble_eq_true rfl, Nat.le_of_ble_eq_true rfl⟩) hS (fun w_2 H locs hP hH_3 hS_4 => ?_)
  obtain rfl := hP
  refine lv_aload_n hx hb dJxc12de_init_da8c8_4 rfl (lv_at hl 0 rfl) ?_
  refine lv_iconst (v := 0) hx hb dJxc12de_init_da8c8_5 (by decide) ?_
  refine zr_putA (ref := "java/util/AbstractList") C hin (ci := 0) rfl tyJx4a65c tyJx4a65c_ok nmJx4a65c hH_3 hS_4 kl hk he 0 (by decide) (by decide +kernel) (fun _ h => h) rfl rfl rfl (show 0 < 3 by decide) dJxc12de_init_da8c8_6 (w) ⟨rfl, rfl, he, fun _ _ _ => rfl⟩ (fun H locs hH_5 hS_6 => ?_) rfl
  refine zr_vret C hr ?_ hH_5 hS_6 (Nat.le_of_ble_eq_true rfl) (Nat.le_of_ble_eq_true rfl) dJxc12de_init_da8c8_9
  rfl
def rmJ_lInit : Room := { frames := 3, cells := 0, slots := 0, locals := 72 }
set_option maxHeartbeats 600000 in
set_option maxRecDepth 100000 in
theorem cJ_lInit (l : Launch) (D : va_G) (cA : Nat → ClassId) (A : Nat → Prop) (g : Nat → Nat) (w : zk_W) (kl : zk_K) (hk : w.2.1 kl) (he : w.2.2 kl = .inr (0, [.int 0, .null, .int 0])) : zM l yJx4a65c_init_da8c8 wsJx4a65c_init_da8c8 rmJ_lInit D (zt cA) A g [.ref (w.1 kl)] (w) (zQv (fun w' => zk_se w kl (zLo 0 (g 0) 0) = w')) := by
  refine zM_of (cc := cJx4a65c_init_da8c8) (maxL := 1) (ret := none) (own := RJx4a65c) (by decide +kernel) rfl (Nat.le_of_ble_eq_true rfl) rfl ?_
  intro p e s m below meth c C hr hnm H locs ls hH hS hl
  obtain ⟨⟨hx, hb, hml, hown, hts⟩, hG, hlk⟩ := id C
  have hin : ∀ w ∈ wsJx4a65c0, w ∈ wsJx4a65c_init_da8c8 := by decide +kernel
  have hl : lv_has ls 1 [(0, .ref (w.1 kl))] := hl
  refine lv_aload_n hx hb dJx4a65c_init_da8c8_0 rfl (lv_at hl 0 rfl) ?_
  refine zk_cv (zk_rI (As := []) (rest := []) (n := 0) (b := w.1 kl) C (cJ_alInit l D cA A g w kl hk he) hH hS gJx4a65c_init_da8c8_Jxc12de_init_da8c8 rfl (by decide +kernel) (by decide +kernel) (by decide +kernel) rfl rfl (by decide +kernel) ⟨Nat.le_of_ble_eq_true rfl, Nat.le_of_ble_eq_true rfl⟩ hl rfl (Nat.le_of_ble_eq_true rfl) dJx4a65c_init_da8c8_1 ⟨Nat.le_of_ble_eq_true rfl, Nat.le_of_ble_eq_true rfl⟩) hS (fun w_2 H locs hP hH_3 hS_4 => ?_)
  obtain rfl := hP
  refine lv_aload_n hx hb dJx4a65c_init_da8c8_4 rfl (lv_at hl 0 rfl) ?_
  refine va_gets hx hb hG.2.2.1 hS_4 hown (hts (.fieldLink RJx4a65c 39 "java/util/ArrayList" "DEFAULTCAPACITY_EMPTY_ELEMENTDATA" "[Ljava/lang/Object;") (by decide +kernel)) (fun _ h => h) dJx4a65c_init_da8c8_5 ?_
  refine zr_putA (ref := RJx4a65c) C hin (ci := 0) rfl tyJx4a65c tyJx4a65c_ok nmJx4a65c hH_3 hS_4 kl hk he 1 (by decide) (by decide +kernel) (fun _ h => h) rfl rfl rfl (show 1 < 3 by decide) dJx4a65c_init_da8c8_8 (zk_se w kl (zLo 0 (g 0) 0)) (zk_se_up _ _ _) (fun H locs hH_5 hS_6 => ?_) rfl
  refine zr_vret C hr ?_ hH_5 hS_6 (Nat.le_of_ble_eq_true rfl) (Nat.le_of_ble_eq_true rfl) dJx4a65c_init_da8c8_11
  rfl
def rmJ_size : Room := { frames := 0, cells := 0, slots := 0, locals := 0 }
set_option maxHeartbeats 600000 in
set_option maxRecDepth 100000 in
theorem cJ_size (l : Launch) (D : va_G) (cA : Nat → ClassId) (A : Nat → Prop) (g : Nat → Nat) (w : zk_W) (kl : zk_K) (hk : w.2.1 kl) {md n : Int32} {a : Nat} (he : w.2.2 kl = zLo md a n) : zM l yJx4a65c_size_8abf5 wsJx4a65c_size_8abf5 rmJ_size D (zt cA) A g [.ref (w.1 kl)] (w) (zQi (fun r w' => n = r ∧ w = w')) := by
  refine zM_of (cc := cJx4a65c_size_8abf5) (maxL := 1) (ret := (some .int)) (own := RJx4a65c) (by decide +kernel) rfl (Nat.le_of_ble_eq_true rfl) rfl ?_
  intro p e s m below meth c C hr hnm H locs ls hH hS hl
  obtain ⟨⟨hx, hb, hml, hown, hts⟩, hG, hlk⟩ := id C
  have hin : ∀ w ∈ wsJx4a65c0, w ∈ wsJx4a65c_size_8abf5 := by decide +kernel
  have hl : lv_has ls 1 [(0, .ref (w.1 kl))] := hl
  refine lv_aload_n hx hb dJx4a65c_size_8abf5_0 rfl (lv_at hl 0 rfl) ?_
  refine zr_getA (ref := RJx4a65c) C hin (ci := 0) rfl hH kl hk he 2 (by decide) (by decide +kernel) (fun _ h => h) rfl dJx4a65c_size_8abf5_1 ?_ rfl
  refine zr_iret C hr ?_ hH hS (Nat.le_of_ble_eq_true rfl) (Nat.le_of_ble_eq_true rfl) dJx4a65c_size_8abf5_4
  exact ⟨rfl, rfl⟩
def rmJ_elem : Room := { frames := 0, cells := 0, slots := 0, locals := 0 }
set_option maxHeartbeats 600000 in
set_option maxRecDepth 100000 in
theorem cJ_elem (l : Launch) (D : va_G) (cA : Nat → ClassId) (A : Nat → Prop) (g : Nat → Nat) (w : zk_W) (kl : zk_K) (hk : w.2.1 kl) {md n : Int32} (ka : zk_K) (hka : w.2.1 ka) {cap : Nat} {f : Nat → Option Nat} (hea : w.2.2 ka = zRef (cA 3) cap f) (he : w.2.2 kl = zLo md (w.1 ka) n) (i : Nat) (hi : i < cap) (hcap : cap < 2 ^ 26) (v : Nat) (hv : f i = some v) : zM l yJx4a65c_elementData_915e3 wsJx4a65c_elementData_915e3 rmJ_elem D (zt cA) A g [.ref (w.1 kl), .int (nI i)] (w) (zQr (fun r w' => v = r ∧ w = w')) := by
  refine zM_of (cc := cJx4a65c_elementData_915e3) (maxL := 2) (ret := (some (.object "java/lang/Object"))) (own := RJx4a65c) (by decide +kernel) rfl (Nat.le_of_ble_eq_true rfl) rfl ?_
  intro p e s m below meth c C hr hnm H locs ls hH hS hl
  obtain ⟨⟨hx, hb, hml, hown, hts⟩, hG, hlk⟩ := id C
  have hin : ∀ w ∈ wsJx4a65c0, w ∈ wsJx4a65c_elementData_915e3 := by decide +kernel
  have hl : lv_has ls 2 [(0, .ref (w.1 kl)), (1, .int (nI i))] := hl
  refine lv_aload_n hx hb dJx4a65c_elementData_915e3_0 rfl (lv_at hl 0 rfl) ?_
  refine zr_getA (ref := RJx4a65c) C hin (ci := 0) rfl hH kl hk he 1 (by decide) (by decide +kernel) (fun _ h => h) rfl dJx4a65c_elementData_915e3_1 ?_ rfl
  refine lv_iload_n hx hb dJx4a65c_elementData_915e3_4 rfl (lv_at hl 1 rfl) ?_
  refine zr_aald C hH ka hka hea rfl (j := i) rfl hi (by omega) dJx4a65c_elementData_915e3_5 ?_
  rw [hv]
  refine W.eq (g2 := F0 m 6 ls [.ref v]) rfl ?_
  refine zr_aret C hr (Or.inl ⟨_, rfl⟩) ?_ hH hS (Nat.le_of_ble_eq_true rfl) (Nat.le_of_ble_eq_true rfl) dJx4a65c_elementData_915e3_6
  exact ⟨rfl, rfl⟩
def rmJ_ci3 : Room := { frames := 0, cells := 0, slots := 0, locals := 0 }
set_option maxHeartbeats 600000 in
set_option maxRecDepth 100000 in
theorem cJ_ci3 (l : Launch) (D : va_G) (cA : Nat → ClassId) (A : Nat → Prop) (g : Nat → Nat) (w : zk_W) (i n : Nat) (hi : i < n) (hn : n < 2 ^ 31) : zM l yJ3_checkIndex_8e157 wsJ3_checkIndex_8e157 rmJ_ci3 D (zt cA) A g [.int (nI i), .int (nI n), .null] (w) (zQi (fun r w' => nI i = r ∧ w = w')) := by
  refine zM_of (cc := cJ3_checkIndex_8e157) (maxL := 3) (ret := (some .int)) (own := RJ3) (by decide +kernel) rfl (Nat.le_of_ble_eq_true rfl) rfl ?_
  intro p e s m below meth c C hr hnm H locs ls hH hS hl
  obtain ⟨⟨hx, hb, hml, hown, hts⟩, hG, hlk⟩ := id C
  have hl : lv_has ls 3 [(0, .int (nI i)), (1, .int (nI n)), (2, .null)] := hl
  refine lv_iload_n hx hb dJ3_checkIndex_8e157_0 rfl (lv_at hl 0 rfl) ?_
  refine lv_if_lt (tgt := 9) hx hb dJ3_checkIndex_8e157_1 (by decide) (fun c_1 => absurd c_1 (nI_pos (by omega))) (fun c_1 => ?_)
  refine lv_iload_n hx hb dJ3_checkIndex_8e157_4 rfl (lv_at hl 0 rfl) ?_
  refine lv_iload_n hx hb dJ3_checkIndex_8e157_5 rfl (lv_at hl 1 rfl) ?_
  refine lv_icmp_lt (tgt := 16) hx hb dJ3_checkIndex_8e157_6 (by decide) (fun c_2 => ?_) (fun c_2 => absurd (nI_lt hi hn) c_2)
  refine lv_iload_n hx hb dJ3_checkIndex_8e157_16 rfl (lv_at hl 0 rfl) ?_
  refine zr_iret C hr ?_ hH hS (Nat.le_of_ble_eq_true rfl) (Nat.le_of_ble_eq_true rfl) dJ3_checkIndex_8e157_17
  exact ⟨rfl, rfl⟩
def rmJ_ci15 : Room := { frames := 1, cells := 0, slots := 0, locals := 22 }
set_option maxHeartbeats 600000 in
set_option maxRecDepth 100000 in
theorem cJ_ci15 (l : Launch) (D : va_G) (cA : Nat → ClassId) (A : Nat → Prop) (g : Nat → Nat) (w : zk_W) (i n : Nat) (hi : i < n) (hn : n < 2 ^ 31) : zM l yJ15_checkIndex_7cf53 wsJ15_checkIndex_7cf53 rmJ_ci15 D (zt cA) A g [.int (nI i), .int (nI n)] (w) (zQi (fun r w' => nI i = r ∧ w = w')) := by
  refine zM_of (cc := cJ15_checkIndex_7cf53) (maxL := 2) (ret := (some .int)) (own := RJ15) (by decide +kernel) rfl (Nat.le_of_ble_eq_true rfl) rfl ?_
  intro p e s m below meth c C hr hnm H locs ls hH hS hl
  obtain ⟨⟨hx, hb, hml, hown, hts⟩, hG, hlk⟩ := id C
  have hl : lv_has ls 2 [(0, .int (nI i)), (1, .int (nI n))] := hl
  refine lv_iload_n hx hb dJ15_checkIndex_7cf53_0 rfl (lv_at hl 0 rfl) ?_
  refine lv_iload_n hx hb dJ15_checkIndex_7cf53_1 rfl (lv_at hl 1 rfl) ?_
  refine lv_null hx hb dJ15_checkIndex_7cf53_2 ?_
  refine zk_ci (zk_rS (As := [.int (nI i), .int (nI n), .null]) (rest := []) (n := 3) C (cJ_ci3 l D cA A g w i n hi hn) hH hS gJ15_checkIndex_7cf53_J3_checkIndex_8e157 rfl rfl (by decide +kernel) ⟨Nat.le_of_ble_eq_true rfl, Nat.le_of_ble_eq_true rfl⟩ hl rfl (Nat.le_of_ble_eq_true rfl) dJ15_checkIndex_7cf53_3 ⟨Nat.le_of_ble_eq_true rfl, Nat.le_of_ble_eq_true rfl⟩) hS (fun r_1 w_2 H locs hP hH_3 hS_4 => ?_)
  obtain ⟨rfl, rfl⟩ := hP
  refine zr_iret C hr ?_ hH_3 hS_4 (Nat.le_of_ble_eq_true rfl) (Nat.le_of_ble_eq_true rfl) dJ15_checkIndex_7cf53_6
  exact ⟨rfl, rfl⟩
def rmJ_get : Room := { frames := 2, cells := 0, slots := 0, locals := 43 }
set_option maxHeartbeats 600000 in
set_option maxRecDepth 100000 in
theorem cJ_get (l : Launch) (D : va_G) (cA : Nat → ClassId) (A : Nat → Prop) (g : Nat → Nat) (w : zk_W) (kl : zk_K) (hk : w.2.1 kl) {md : Int32} {n : Nat} (ka : zk_K) (hka : w.2.1 ka) {cap : Nat} {f : Nat → Option Nat} (hea : w.2.2 ka = zRef (cA 3) cap f) (he : w.2.2 kl = zLo md (w.1 ka) (nI n)) (i : Nat) (hi : i < n) (hn : n ≤ cap) (hcap : cap < 2 ^ 26) (v : Nat) (hv : f i = some v) : zM l yJx4a65c_get_915e3 wsJx4a65c_get_915e3 rmJ_get D (zt cA) A g [.ref (w.1 kl), .int (nI i)] (w) (zQr (fun r w' => v = r ∧ w = w')) := by
  refine zM_of (cc := cJx4a65c_get_915e3) (maxL := 2) (ret := (some (.object "java/lang/Object"))) (own := RJx4a65c) (by decide +kernel) rfl (Nat.le_of_ble_eq_true rfl) rfl ?_
  intro p e s m below meth c C hr hnm H locs ls hH hS hl
  obtain ⟨⟨hx, hb, hml, hown, hts⟩, hG, hlk⟩ := id C
  have hin : ∀ w ∈ wsJx4a65c0, w ∈ wsJx4a65c_get_915e3 := by decide +kernel
  have hl : lv_has ls 2 [(0, .ref (w.1 kl)), (1, .int (nI i))] := hl
  refine lv_iload_n hx hb dJx4a65c_get_915e3_0 rfl (lv_at hl 1 rfl) ?_
  refine lv_aload_n hx hb dJx4a65c_get_915e3_1 rfl (lv_at hl 0 rfl) ?_
  refine zr_getA (ref := RJx4a65c) C hin (ci := 0) rfl hH kl hk he 2 (by decide) (by decide +kernel) (fun _ h => h) rfl dJx4a65c_get_915e3_2 ?_ rfl
  refine zk_ci (zk_rS (As := [.int (nI i), .int (nI n)]) (rest := []) (n := 2) C (cJ_ci15 l D cA A g w i n hi (by omega)) hH hS gJx4a65c_get_915e3_J15_checkIndex_7cf53 rfl rfl (by decide +kernel) ⟨Nat.le_of_ble_eq_true rfl, Nat.le_of_ble_eq_true rfl⟩ hl rfl (Nat.le_of_ble_eq_true rfl) dJx4a65c_get_915e3_5 ⟨Nat.le_of_ble_eq_true rfl, Nat.le_of_ble_eq_true rfl⟩) hS (fun r_1 w_2 H locs hP hH_3 hS_4 => ?_)
  obtain ⟨rfl, rfl⟩ := hP
  refine lv_pop hx hb dJx4a65c_get_915e3_8 rfl ?_
  refine lv_aload_n hx hb dJx4a65c_get_915e3_9 rfl (lv_at hl 0 rfl) ?_
  refine lv_iload_n hx hb dJx4a65c_get_915e3_10 rfl (lv_at hl 1 rfl) ?_
  refine zk_cr (zk_rV (As := [.int (nI i)]) (rest := []) (n := 1) (k := kl) C (cJ_elem l D cA A g w kl hk ka hka hea he i (by omega) hcap v hv) hH_3 hS_4 hk he rfl gJx4a65c_get_915e3_Jx4a65c_elementData_915e3 rfl rfl (by decide +kernel) ⟨Nat.le_of_ble_eq_true rfl, Nat.le_of_ble_eq_true rfl⟩ hl rfl (Nat.le_of_ble_eq_true rfl) dJx4a65c_get_915e3_11 ⟨Nat.le_of_ble_eq_true rfl, Nat.le_of_ble_eq_true rfl⟩) hS_4 (fun r_5 w_6 H locs hP hH_7 hS_8 => ?_)
  obtain ⟨rfl, rfl⟩ := hP
  refine zr_aret C hr (Or.inl ⟨_, rfl⟩) ?_ hH_7 hS_8 (Nat.le_of_ble_eq_true rfl) (Nat.le_of_ble_eq_true rfl) dJx4a65c_get_915e3_14
  exact ⟨rfl, rfl⟩
def rmJ_newLen : Room := { frames := 1, cells := 0, slots := 0, locals := 32 }
set_option maxHeartbeats 600000 in
set_option maxRecDepth 100000 in
theorem cJ_newLen (l : Launch) (D : va_G) (cA : Nat → ClassId) (A : Nat → Prop) (g : Nat → Nat) (w : zk_W) (n : Nat) (h10 : 10 ≤ n) (hn : n ≤ 1000) : zM l yJ8_newLength_cabcc wsJ8_newLength_cabcc rmJ_newLen D (zt cA) A g [.int (nI n), .int (nI 1), .int (nI (n / 2))] (w) (zQi (fun r w' => nI (n + n / 2) = r ∧ w = w')) := by
  refine zM_of (cc := cJ8_newLength_cabcc) (maxL := 4) (ret := (some .int)) (own := RJ8) (by decide +kernel) rfl (Nat.le_of_ble_eq_true rfl) rfl ?_
  intro p e s m below meth c C hr hnm H locs ls hH hS hl
  obtain ⟨⟨hx, hb, hml, hown, hts⟩, hG, hlk⟩ := id C
  have hl : lv_has ls 4 [(0, .int (nI n)), (1, .int (nI 1)), (2, .int (nI (n / 2)))] := hl
  refine lv_iload_n hx hb dJ8_newLength_cabcc_0 rfl (lv_at hl 0 rfl) ?_
  refine lv_iload_n hx hb dJ8_newLength_cabcc_1 rfl (lv_at hl 1 rfl) ?_
  refine lv_iload_n hx hb dJ8_newLength_cabcc_2 rfl (lv_at hl 2 rfl) ?_
  refine va_mmax hx hb (by rw [hml]; exact hl.1.symm) hown (hts (.methodLink RJ8 194 Lib.Math.max.name) (by decide +kernel)) (hts (.static Lib.Math.max.name) (by decide +kernel)) (hts (.initialized "java/lang/Math") (by decide +kernel)) (hts (.code Lib.Math.max.name Lib.Math.max.code 2 (some .int)) (by decide +kernel)) (Nat.le_of_ble_eq_true rfl) (Nat.le_of_ble_eq_true rfl) (Nat.le_of_ble_eq_true rfl) (Nat.le_of_ble_eq_true rfl) dJ8_newLength_cabcc_3 ?_
  refine W.eq (g2 := F0 m 6 ls [.int (nI (n / 2)), .int (nI n)]) (by rw [if_pos (nI_lt (by omega) (by omega))]) ?_
  refine lv_iadd hx hb dJ8_newLength_cabcc_6 ?_
  refine W.eq (g2 := F0 m 7 ls [.int (nI (n + (n / 2)))]) (by rw [show ((nI n) + (nI (n / 2)) : Int32) = nI (n + (n / 2)) from (zi_add rfl rfl)]) ?_
  refine lv_istore_n (lv' := [(3, .int (nI (n + (n / 2)))), (0, .int (nI n)), (1, .int (nI 1)), (2, .int (nI (n / 2)))]) hx hb dJ8_newLength_cabcc_7 rfl hl (by decide) rfl (fun ls hl_1 => ?_)
  refine lv_iconst (v := 0) hx hb dJ8_newLength_cabcc_8 (by decide) ?_
  refine lv_iload_n hx hb dJ8_newLength_cabcc_9 rfl (lv_at hl_1 0 rfl) ?_
  refine lv_icmp_ge (tgt := 21) hx hb dJ8_newLength_cabcc_10 (by decide) (fun c_2 => absurd c_2 (nI_nle (by omega) (by omega))) (fun c_2 => ?_)
  refine lv_iload_n hx hb dJ8_newLength_cabcc_13 rfl (lv_at hl_1 0 rfl) ?_
  refine lv_ldc (v := 2147483639) hx hb hown (hts (.constant RJ8 200 2147483639) (by decide +kernel)) dJ8_newLength_cabcc_14 ?_
  refine lv_icmp_gt (tgt := 21) hx hb dJ8_newLength_cabcc_16 (by decide) (fun c_3 => absurd c_3 (nI_nlt (show n + n / 2 ≤ 2147483639 by omega) (by decide))) (fun c_3 => ?_)
  refine lv_iload_n hx hb dJ8_newLength_cabcc_19 rfl (lv_at hl_1 0 rfl) ?_
  refine zr_iret C hr ?_ hH hS (Nat.le_of_ble_eq_true rfl) (Nat.le_of_ble_eq_true rfl) dJ8_newLength_cabcc_20
  exact ⟨rfl, rfl⟩
def rmJ_copy3 : Room := { frames := 1, cells := 1, slots := 163, locals := 64 }
set_option maxHeartbeats 600000 in
set_option maxRecDepth 100000 in
theorem cJ_copy3 (l : Launch) (D : va_G) (cA : Nat → ClassId) (A : Nat → Prop) (g : Nat → Nat) (w : zk_W) (ka kt : zk_K) (hka : w.2.1 ka) (hkt : ¬ w.2.1 kt) (n N : Nat) (h1 : n ≤ N) (hN : N ≤ 163) {f : Nat → Option Nat} (hea : w.2.2 ka = zRef (cA 3) n f) (hel : ∀ j y, f j = some y → zEl w y) (hf : ∀ j, n ≤ j → f j = none) : zM l yJ7_copyOf_6403c wsJ7_copyOf_6403c rmJ_copy3 D (zt cA) A g [.ref (w.1 ka), .int (nI N), .ref (g 1)] (w) (zQr (fun r w' => zk_ext w kt r (zRef (cA 3) N f) = w')) := by
  have hne : ka ≠ kt := fun z => hkt (z ▸ hka)
  refine zM_of (cc := cJ7_copyOf_6403c) (maxL := 4) (ret := (some (.array (.object "java/lang/Object")))) (own := RJ7) (by decide +kernel) rfl (Nat.le_of_ble_eq_true rfl) rfl ?_
  intro p e s m below meth c C hr hnm H locs ls hH hS hl
  obtain ⟨⟨hx, hb, hml, hown, hts⟩, hG, hlk⟩ := id C
  have hl : lv_has ls 4 [(0, .ref (w.1 ka)), (1, .int (nI N)), (2, .ref (g 1))] := hl
  refine lv_aload_n hx hb dJ7_copyOf_6403c_0 rfl (lv_at hl 2 rfl) ?_
  refine va_ldcM hx hb hown (hts (.classLink RJ7 110 "[Ljava/lang/Object;") (by decide +kernel)) hG.2.2.2.2.1 dJ7_copyOf_6403c_1 ?_
  refine lv_acmp_ne (rx := some (g 1)) (ry := some (g 1)) (tgt := 13) hx hb dJ7_copyOf_6403c_3 (by decide) (fun z => absurd rfl z) (fun _ => ?_)
  refine lv_iload_n hx hb dJ7_copyOf_6403c_6 rfl (lv_at hl 1 rfl) ?_
  refine zr_newq C (by decide +kernel) hH hS (N' := N) rfl (by omega) (Nat.le_of_ble_eq_true rfl) (show 0 + N ≤ 163 by omega) dJ7_copyOf_6403c_7 kt (fun q => zk_ext w kt q (zRef (cA 3) N (fun _ => none))) (fun q => zk_ext_nw _ _ _ _) (fun q_1 H hH_2 hS_3 => ?_)
  refine lv_goto (tgt := 24) hx hb dJ7_copyOf_6403c_10 (by decide) ?_
  refine lv_astore_n (lv' := [(3, .ref q_1), (0, .ref (w.1 ka)), (1, .int (nI N)), (2, .ref (g 1))]) hx hb dJ7_copyOf_6403c_24 rfl hl (by decide) rfl (fun ls hl_4 => ?_)
  refine lv_aload_n hx hb dJ7_copyOf_6403c_25 rfl (lv_at hl_4 1 rfl) ?_
  refine lv_iconst (v := 0) hx hb dJ7_copyOf_6403c_26 (by decide) ?_
  refine lv_aload_n hx hb dJ7_copyOf_6403c_27 rfl (lv_at hl_4 0 rfl) ?_
  refine lv_iconst (v := 0) hx hb dJ7_copyOf_6403c_28 (by decide) ?_
  refine lv_aload_n hx hb dJ7_copyOf_6403c_29 rfl (lv_at hl_4 1 rfl) ?_
  refine zr_alenA C hH_2 ka (Or.inr hka) ((zk_ext_n hne).trans hea) (zk_ext_o hne) dJ7_copyOf_6403c_30 ?_
  refine lv_iload_n hx hb dJ7_copyOf_6403c_31 rfl (lv_at hl_4 2 rfl) ?_
  refine va_mmin hx hb (by rw [hml]; exact hl_4.1.symm) hown (hts (.methodLink RJ7 304 Lib.Math.min.name) (by decide +kernel)) (hts (.static Lib.Math.min.name) (by decide +kernel)) (hts (.initialized "java/lang/Math") (by decide +kernel)) (hts (.code Lib.Math.min.name Lib.Math.min.code 2 (some .int)) (by decide +kernel)) (Nat.le_of_ble_eq_true rfl) (Nat.le_of_ble_eq_true rfl) (Nat.le_of_ble_eq_true rfl) (show 0 + N ≤ 163 by omega) dJ7_copyOf_6403c_32 ?_
  refine W.eq (g2 := F0 m 35 ls [.int (nI n), .int 0, .ref q_1, .int 0, .ref (w.1 ka)]) (by rw [if_neg (nI_nlt h1 (by omega))]) ?_
  refine zr_copy C hl_4 (by decide +kernel) (by decide +kernel) (by decide +kernel) (by decide +kernel) hH_2 hS_3 ka kt (Or.inr hka) (Or.inl rfl) ((zk_ext_n hne).trans hea) (zk_ext_s _ _ _ _) (sN := 0) (dN' := 0) (nN := n) rfl rfl rfl (by omega) (by omega) (by omega) (fun i hi y hy => zEl.ext (hel _ y hy) hkt) (Nat.le_of_ble_eq_true rfl) (Nat.le_of_ble_eq_true rfl) dJ7_copyOf_6403c_35 (zk_ext w kt q_1 (zRef (cA 3) N f)) ?_ (zk_ext_o hne) (zk_ext_a _ _ _ _) (fun H locs hH_5 hS_6 => ?_)
  · exact ⟨rfl, rfl, by rw [cpy_all hf]; exact zk_ext_s _ _ _ _, fun k' h _ => (zk_ext_n h).trans (zk_ext_n h).symm⟩
  refine lv_aload_n hx hb dJ7_copyOf_6403c_38 rfl (lv_at hl_4 0 rfl) ?_
  refine zr_aret C hr (Or.inr ⟨_, rfl⟩) ?_ hH_5 hS_6 (Nat.le_of_ble_eq_true rfl) (show 0 + N ≤ 163 by omega) dJ7_copyOf_6403c_39
  rfl
def rmJ_copy2 : Room := { frames := 2, cells := 1, slots := 163, locals := 87 }
set_option maxHeartbeats 600000 in
set_option maxRecDepth 100000 in
theorem cJ_copy2 (l : Launch) (D : va_G) (cA : Nat → ClassId) (A : Nat → Prop) (g : Nat → Nat) (w : zk_W) (ka kt : zk_K) (hka : w.2.1 ka) (hkt : ¬ w.2.1 kt) (n N : Nat) (h1 : n ≤ N) (hN : N ≤ 163) {f : Nat → Option Nat} (hea : w.2.2 ka = zRef (cA 3) n f) (hel : ∀ j y, f j = some y → zEl w y) (hf : ∀ j, n ≤ j → f j = none) : zM l yJ7_copyOf_1904c wsJ7_copyOf_1904c rmJ_copy2 D (zt cA) A g [.ref (w.1 ka), .int (nI N)] (w) (zQr (fun r w' => zk_ext w kt r (zRef (cA 3) N f) = w')) := by
  refine zM_of (cc := cJ7_copyOf_1904c) (maxL := 2) (ret := (some (.array (.object "java/lang/Object")))) (own := RJ7) (by decide +kernel) rfl (Nat.le_of_ble_eq_true rfl) rfl ?_
  intro p e s m below meth c C hr hnm H locs ls hH hS hl
  obtain ⟨⟨hx, hb, hml, hown, hts⟩, hG, hlk⟩ := id C
  have hl : lv_has ls 2 [(0, .ref (w.1 ka)), (1, .int (nI N))] := hl
  refine lv_aload_n hx hb dJ7_copyOf_1904c_0 rfl (lv_at hl 0 rfl) ?_
  refine lv_iload_n hx hb dJ7_copyOf_1904c_1 rfl (lv_at hl 1 rfl) ?_
  refine lv_aload_n hx hb dJ7_copyOf_1904c_2 rfl (lv_at hl 0 rfl) ?_
  refine zr_getC C hl (by decide +kernel) (by decide +kernel) (by decide +kernel) (by decide +kernel) hH ka hka hea rfl (Nat.le_of_ble_eq_true rfl) (Nat.le_of_ble_eq_true rfl) dJ7_copyOf_1904c_3 ?_
  refine zk_cr (zk_rS (As := [.ref (w.1 ka), .int (nI N), .ref (g 1)]) (rest := []) (n := 3) C (cJ_copy3 l D cA A g w ka kt hka hkt n N h1 hN hea hel hf) hH hS gJ7_copyOf_1904c_J7_copyOf_6403c rfl rfl (by decide +kernel) ⟨Nat.le_of_ble_eq_true rfl, Nat.le_of_ble_eq_true rfl⟩ hl rfl (Nat.le_of_ble_eq_true rfl) dJ7_copyOf_1904c_6 ⟨Nat.le_of_ble_eq_true rfl, Nat.le_of_ble_eq_true rfl⟩) hS (fun r_1 w_2 H locs hP hH_3 hS_4 => ?_)
  subst hP
  refine zr_aret C hr (Or.inr ⟨_, rfl⟩) ?_ hH_3 hS_4 (Nat.le_of_ble_eq_true rfl) (Nat.le_of_ble_eq_true rfl) dJ7_copyOf_1904c_9
  rfl
def rmJ_growB : Room := { frames := 3, cells := 1, slots := 163, locals := 108 }
set_option maxHeartbeats 600000 in
set_option maxRecDepth 100000 in
theorem cJ_growB (l : Launch) (D : va_G) (cA : Nat → ClassId) (A : Nat → Prop) (g : Nat → Nat) (w : zk_W) (kl : zk_K) (hk : w.2.1 kl) (ka kt : zk_K) (hka : w.2.1 ka) (hkt : ¬ w.2.1 kt) {md : Int32} (n : Nat) (h10 : 10 ≤ n) (hn : n ≤ 109) (he : w.2.2 kl = zLo md (w.1 ka) (nI n)) {f : Nat → Option Nat} (hea : w.2.2 ka = zRef (cA 3) n f) (hel : ∀ j y, f j = some y → zEl w y) (hf : ∀ j, n ≤ j → f j = none) : zM l yJx4a65c_grow_92f84 wsJx4a65c_grow_92f84 rmJ_growB D (zt cA) A g [.ref (w.1 kl), .int (nI (n + 1))] (w) (zQr (fun r w' => zk_se (zk_ext w kt r (zRef (cA 3) (n + n / 2) f)) kl (zLo md r (nI n)) = w')) := by
  have hne : kl ≠ kt := fun z => hkt (z ▸ hk)
  refine zM_of (cc := cJx4a65c_grow_92f84) (maxL := 4) (ret := (some (.array (.object "java/lang/Object")))) (own := RJx4a65c) (by decide +kernel) rfl (Nat.le_of_ble_eq_true rfl) rfl ?_
  intro p e s m below meth c C hr hnm H locs ls hH hS hl
  obtain ⟨⟨hx, hb, hml, hown, hts⟩, hG, hlk⟩ := id C
  have hin : ∀ w ∈ wsJx4a65c0, w ∈ wsJx4a65c_grow_92f84 := by decide +kernel
  have hl : lv_has ls 4 [(0, .ref (w.1 kl)), (1, .int (nI (n + 1)))] := hl
  refine lv_aload_n hx hb dJx4a65c_grow_92f84_0 rfl (lv_at hl 0 rfl) ?_
  refine zr_getA (ref := RJx4a65c) C hin (ci := 0) rfl hH kl hk he 1 (by decide) (by decide +kernel) (fun _ h => h) rfl dJx4a65c_grow_92f84_1 ?_ rfl
  refine zr_alenA C hH ka hka hea rfl dJx4a65c_grow_92f84_4 ?_
  refine lv_istore_n (lv' := [(2, .int (nI n)), (0, .ref (w.1 kl)), (1, .int (nI (n + 1)))]) hx hb dJx4a65c_grow_92f84_5 rfl hl (by decide) rfl (fun ls hl_1 => ?_)
  refine lv_iload_n hx hb dJx4a65c_grow_92f84_6 rfl (lv_at hl_1 0 rfl) ?_
  refine lv_if_gt (tgt := 20) hx hb dJx4a65c_grow_92f84_7 (by decide) (fun c_2 => ?_) (fun c_2 => absurd (nI_lt (show 0 < n by omega) (by omega)) c_2)
  refine lv_iload_n hx hb dJx4a65c_grow_92f84_20 rfl (lv_at hl_1 0 rfl) ?_
  refine lv_iload_n hx hb dJx4a65c_grow_92f84_21 rfl (lv_at hl_1 2 rfl) ?_
  refine lv_iload_n hx hb dJx4a65c_grow_92f84_22 rfl (lv_at hl_1 0 rfl) ?_
  refine lv_isub hx hb dJx4a65c_grow_92f84_23 ?_
  refine W.eq (g2 := F0 m 24 ls [.int (nI 1), .int (nI n)]) (by rw [pk_sub (a := n + 1) (b := n) (by omega), Nat.add_sub_cancel_left]) ?_
  refine lv_iload_n hx hb dJx4a65c_grow_92f84_24 rfl (lv_at hl_1 0 rfl) ?_
  refine lv_iconst (v := 1) hx hb dJx4a65c_grow_92f84_25 (by decide) ?_
  refine lv_ishr hx hb dJx4a65c_grow_92f84_26 ?_
  refine W.eq (g2 := F0 m 27 ls [.int (nI (n / 2)), .int (nI 1), .int (nI n)]) (by rw [pk_shrN (n := n) (by omega) ((1 : Int32) &&& 31) 1 (by decide), Nat.pow_one]) ?_
  refine zk_ci (zk_rS (As := [.int (nI n), .int (nI 1), .int (nI (n / 2))]) (rest := []) (n := 3) C (cJ_newLen l D cA A g w n h10 (by omega)) hH hS gJx4a65c_grow_92f84_J8_newLength_cabcc rfl rfl (by decide +kernel) ⟨Nat.le_of_ble_eq_true rfl, Nat.le_of_ble_eq_true rfl⟩ hl_1 rfl (Nat.le_of_ble_eq_true rfl) dJx4a65c_grow_92f84_27 ⟨Nat.le_of_ble_eq_true rfl, Nat.le_of_ble_eq_true rfl⟩) hS (fun r_3 w_4 H locs hP hH_5 hS_6 => ?_)
  obtain ⟨rfl, rfl⟩ := hP
  refine lv_istore_n (lv' := [(3, .int (nI (n + n / 2))), (2, .int (nI n)), (0, .ref (w.1 kl)), (1, .int (nI (n + 1)))]) hx hb dJx4a65c_grow_92f84_30 rfl hl_1 (by decide) rfl (fun ls hl_7 => ?_)
  refine lv_aload_n hx hb dJx4a65c_grow_92f84_31 rfl (lv_at hl_7 2 rfl) ?_
  refine lv_aload_n hx hb dJx4a65c_grow_92f84_32 rfl (lv_at hl_7 2 rfl) ?_
  refine zr_getA (ref := RJx4a65c) C hin (ci := 0) rfl hH_5 kl hk he 1 (by decide) (by decide +kernel) (fun _ h => h) rfl dJx4a65c_grow_92f84_33 ?_ rfl
  refine lv_iload_n hx hb dJx4a65c_grow_92f84_36 rfl (lv_at hl_7 0 rfl) ?_
  refine zk_cr (zk_rS (As := [.ref (w.1 ka), .int (nI (n + n / 2))]) (rest := [.ref (w.1 kl)]) (n := 2) C (cJ_copy2 l D cA A g w ka kt hka hkt n (n + n / 2) (by omega) (by omega) hea hel hf) hH_5 hS_6 gJx4a65c_grow_92f84_J7_copyOf_1904c rfl rfl (by decide +kernel) ⟨Nat.le_of_ble_eq_true rfl, Nat.le_of_ble_eq_true rfl⟩ hl_7 rfl (Nat.le_of_ble_eq_true rfl) dJx4a65c_grow_92f84_37 ⟨Nat.le_of_ble_eq_true rfl, Nat.le_of_ble_eq_true rfl⟩) hS_6 (fun r_8 w_9 H locs hP hH_10 hS_11 => ?_)
  subst hP
  refine lv_dup_x1 hx hb dJx4a65c_grow_92f84_40 rfl rfl ?_
  refine zr_putA (ref := RJx4a65c) C hin (ci := 0) rfl tyJx4a65c tyJx4a65c_ok nmJx4a65c hH_10 hS_11 kl (Or.inr hk) ((zk_ext_n hne).trans he) 1 (by decide) (by decide +kernel) (fun _ h => h) rfl rfl rfl (show 1 < 3 by decide) dJx4a65c_grow_92f84_41 (zk_se (zk_ext w kt r_8 (zRef (cA 3) (n + n / 2) f)) kl (zLo md r_8 (nI n))) (zk_se_up _ _ _) (fun H locs hH_12 hS_13 => ?_) (zk_ext_o hne)
  refine zr_aret C hr (Or.inr ⟨_, rfl⟩) ?_ hH_12 hS_13 (Nat.le_of_ble_eq_true rfl) (Nat.le_of_ble_eq_true rfl) dJx4a65c_grow_92f84_44
  rfl
set_option maxHeartbeats 600000 in
set_option maxRecDepth 100000 in
theorem cJ_growA (l : Launch) (D : va_G) (cA : Nat → ClassId) (A : Nat → Prop) (g : Nat → Nat) (w : zk_W) (kl : zk_K) (hk : w.2.1 kl) (ka : zk_K) (hka : ¬ w.2.1 ka) {md : Int32} (he : w.2.2 kl = zLo md (g 0) 0) : zM l yJx4a65c_grow_92f84 wsJx4a65c_grow_92f84 rmJ_growB D (zt cA) A g [.ref (w.1 kl), .int (nI 1)] (w) (zQr (fun r w' => zk_se (zk_ext w ka r (zRef (cA 3) 10 (fun _ => none))) kl (zLo md r 0) = w')) := by
  have hne : kl ≠ ka := fun z => hka (z ▸ hk)
  refine zM_of (cc := cJx4a65c_grow_92f84) (maxL := 4) (ret := (some (.array (.object "java/lang/Object")))) (own := RJx4a65c) (by decide +kernel) rfl (Nat.le_of_ble_eq_true rfl) rfl ?_
  intro p e s m below meth c C hr hnm H locs ls hH hS hl
  obtain ⟨⟨hx, hb, hml, hown, hts⟩, hG, hlk⟩ := id C
  have hin : ∀ w ∈ wsJx4a65c0, w ∈ wsJx4a65c_grow_92f84 := by decide +kernel
  have hl : lv_has ls 4 [(0, .ref (w.1 kl)), (1, .int (nI 1))] := hl
  refine lv_aload_n hx hb dJx4a65c_grow_92f84_0 rfl (lv_at hl 0 rfl) ?_
  refine zr_getA (ref := RJx4a65c) C hin (ci := 0) rfl hH kl hk he 1 (by decide) (by decide +kernel) (fun _ h => h) rfl dJx4a65c_grow_92f84_1 ?_ rfl
  refine va_tlen (v := 0) hx hb hG.2.2.2.1 hS rfl dJx4a65c_grow_92f84_4 ?_
  refine lv_istore_n (lv' := [(2, .int 0), (0, .ref (w.1 kl)), (1, .int (nI 1))]) hx hb dJx4a65c_grow_92f84_5 rfl hl (by decide) rfl (fun ls hl_1 => ?_)
  refine lv_iload_n hx hb dJx4a65c_grow_92f84_6 rfl (lv_at hl_1 0 rfl) ?_
  refine lv_if_gt (tgt := 20) hx hb dJx4a65c_grow_92f84_7 (by decide) (fun c_2 => absurd c_2 (by decide)) (fun c_2 => ?_)
  refine lv_aload_n hx hb dJx4a65c_grow_92f84_10 rfl (lv_at hl_1 1 rfl) ?_
  refine zr_getA (ref := RJx4a65c) C hin (ci := 0) rfl hH kl hk he 1 (by decide) (by decide +kernel) (fun _ h => h) rfl dJx4a65c_grow_92f84_11 ?_ rfl
  refine va_gets hx hb hG.2.2.1 hS hown (hts (.fieldLink RJx4a65c 39 "java/util/ArrayList" "DEFAULTCAPACITY_EMPTY_ELEMENTDATA" "[Ljava/lang/Object;") (by decide +kernel)) (fun _ h => h) dJx4a65c_grow_92f84_14 ?_
  refine lv_acmp_eq (rx := some (g 0)) (ry := some (g 0)) (tgt := 45) hx hb dJx4a65c_grow_92f84_17 (by decide) (fun _ => ?_) (fun z => absurd rfl z)
  refine lv_aload_n hx hb dJx4a65c_grow_92f84_45 rfl (lv_at hl_1 1 rfl) ?_
  refine lv_bipush (v := 10) hx hb dJx4a65c_grow_92f84_46 (by decide) ?_
  refine lv_iload_n hx hb dJx4a65c_grow_92f84_48 rfl (lv_at hl_1 2 rfl) ?_
  refine va_mmax hx hb (by rw [hml]; exact hl_1.1.symm) hown (hts (.methodLink RJx4a65c 79 Lib.Math.max.name) (by decide +kernel)) (hts (.static Lib.Math.max.name) (by decide +kernel)) (hts (.initialized "java/lang/Math") (by decide +kernel)) (hts (.code Lib.Math.max.name Lib.Math.max.code 2 (some .int)) (by decide +kernel)) (Nat.le_of_ble_eq_true rfl) (Nat.le_of_ble_eq_true rfl) (Nat.le_of_ble_eq_true rfl) (Nat.le_of_ble_eq_true rfl) dJx4a65c_grow_92f84_49 ?_
  refine W.eq (g2 := F0 m 52 ls [.int (nI 10), .ref (w.1 kl)]) (by rw [show (if (10 : Int32) < nI 1 then nI 1 else 10) = nI 10 by decide]) ?_
  refine zr_newq C (by decide +kernel) hH hS (N' := 10) rfl (by decide) (Nat.le_of_ble_eq_true rfl) (Nat.le_of_ble_eq_true rfl) dJx4a65c_grow_92f84_52 ka (fun q => zk_ext w ka q (zRef (cA 3) 10 (fun _ => none))) (fun q => zk_ext_nw _ _ _ _) (fun q_3 H hH_4 hS_5 => ?_)
  refine lv_dup_x1 hx hb dJx4a65c_grow_92f84_55 rfl rfl ?_
  refine zr_putA (ref := RJx4a65c) C hin (ci := 0) rfl tyJx4a65c tyJx4a65c_ok nmJx4a65c hH_4 hS_5 kl (Or.inr hk) ((zk_ext_n hne).trans he) 1 (by decide) (by decide +kernel) (fun _ h => h) rfl rfl rfl (show 1 < 3 by decide) dJx4a65c_grow_92f84_56 (zk_se (zk_ext w ka q_3 (zRef (cA 3) 10 (fun _ => none))) kl (zLo md q_3 0)) (zk_se_up _ _ _) (fun H locs hH_6 hS_7 => ?_) (zk_ext_o hne)
  refine zr_aret C hr (Or.inr ⟨_, rfl⟩) ?_ hH_6 hS_7 (Nat.le_of_ble_eq_true rfl) (Nat.le_of_ble_eq_true rfl) dJx4a65c_grow_92f84_59
  rfl
def rmJ_grow0B : Room := { frames := 4, cells := 1, slots := 163, locals := 131 }
set_option maxHeartbeats 600000 in
set_option maxRecDepth 100000 in
theorem cJ_grow0B (l : Launch) (D : va_G) (cA : Nat → ClassId) (A : Nat → Prop) (g : Nat → Nat) (w : zk_W) (kl : zk_K) (hk : w.2.1 kl) (ka kt : zk_K) (hka : w.2.1 ka) (hkt : ¬ w.2.1 kt) {md : Int32} (n : Nat) (h10 : 10 ≤ n) (hn : n ≤ 109) (he : w.2.2 kl = zLo md (w.1 ka) (nI n)) {f : Nat → Option Nat} (hea : w.2.2 ka = zRef (cA 3) n f) (hel : ∀ j y, f j = some y → zEl w y) (hf : ∀ j, n ≤ j → f j = none) : zM l yJx4a65c_grow_d5877 wsJx4a65c_grow_d5877 rmJ_grow0B D (zt cA) A g [.ref (w.1 kl)] (w) (zQr (fun r w' => zk_se (zk_ext w kt r (zRef (cA 3) (n + n / 2) f)) kl (zLo md r (nI n)) = w')) := by
  refine zM_of (cc := cJx4a65c_grow_d5877) (maxL := 1) (ret := (some (.array (.object "java/lang/Object")))) (own := RJx4a65c) (by decide +kernel) rfl (Nat.le_of_ble_eq_true rfl) rfl ?_
  intro p e s m below meth c C hr hnm H locs ls hH hS hl
  obtain ⟨⟨hx, hb, hml, hown, hts⟩, hG, hlk⟩ := id C
  have hin : ∀ w ∈ wsJx4a65c0, w ∈ wsJx4a65c_grow_d5877 := by decide +kernel
  have hl : lv_has ls 1 [(0, .ref (w.1 kl))] := hl
  refine lv_aload_n hx hb dJx4a65c_grow_d5877_0 rfl (lv_at hl 0 rfl) ?_
  refine lv_aload_n hx hb dJx4a65c_grow_d5877_1 rfl (lv_at hl 0 rfl) ?_
  refine zr_getA (ref := RJx4a65c) C hin (ci := 0) rfl hH kl hk he 2 (by decide) (by decide +kernel) (fun _ h => h) rfl dJx4a65c_grow_d5877_2 ?_ rfl
  refine lv_iconst (v := 1) hx hb dJx4a65c_grow_d5877_5 (by decide) ?_
  refine lv_iadd hx hb dJx4a65c_grow_d5877_6 ?_
  refine W.eq (g2 := F0 m 7 ls [.int (nI (n + 1)), .ref (w.1 kl)]) (by rw [show ((nI n) + 1 : Int32) = nI (n + 1) from (zi_add rfl rfl)]) ?_
  refine zk_cr (zk_rV (As := [.int (nI (n + 1))]) (rest := []) (n := 1) (k := kl) C (cJ_growB l D cA A g w kl hk ka kt hka hkt n h10 hn he hea hel hf) hH hS hk he rfl gJx4a65c_grow_d5877_Jx4a65c_grow_92f84 rfl rfl (by decide +kernel) ⟨Nat.le_of_ble_eq_true rfl, Nat.le_of_ble_eq_true rfl⟩ hl rfl (Nat.le_of_ble_eq_true rfl) dJx4a65c_grow_d5877_7 ⟨Nat.le_of_ble_eq_true rfl, Nat.le_of_ble_eq_true rfl⟩) hS (fun r_1 w_2 H locs hP hH_3 hS_4 => ?_)
  subst hP
  refine zr_aret C hr (Or.inr ⟨_, rfl⟩) ?_ hH_3 hS_4 (Nat.le_of_ble_eq_true rfl) (Nat.le_of_ble_eq_true rfl) dJx4a65c_grow_d5877_10
  rfl
set_option maxHeartbeats 600000 in
set_option maxRecDepth 100000 in
theorem cJ_grow0A (l : Launch) (D : va_G) (cA : Nat → ClassId) (A : Nat → Prop) (g : Nat → Nat) (w : zk_W) (kl : zk_K) (hk : w.2.1 kl) (ka : zk_K) (hka : ¬ w.2.1 ka) {md : Int32} (he : w.2.2 kl = zLo md (g 0) 0) : zM l yJx4a65c_grow_d5877 wsJx4a65c_grow_d5877 rmJ_grow0B D (zt cA) A g [.ref (w.1 kl)] (w) (zQr (fun r w' => zk_se (zk_ext w ka r (zRef (cA 3) 10 (fun _ => none))) kl (zLo md r 0) = w')) := by
  refine zM_of (cc := cJx4a65c_grow_d5877) (maxL := 1) (ret := (some (.array (.object "java/lang/Object")))) (own := RJx4a65c) (by decide +kernel) rfl (Nat.le_of_ble_eq_true rfl) rfl ?_
  intro p e s m below meth c C hr hnm H locs ls hH hS hl
  obtain ⟨⟨hx, hb, hml, hown, hts⟩, hG, hlk⟩ := id C
  have hin : ∀ w ∈ wsJx4a65c0, w ∈ wsJx4a65c_grow_d5877 := by decide +kernel
  have hl : lv_has ls 1 [(0, .ref (w.1 kl))] := hl
  refine lv_aload_n hx hb dJx4a65c_grow_d5877_0 rfl (lv_at hl 0 rfl) ?_
  refine lv_aload_n hx hb dJx4a65c_grow_d5877_1 rfl (lv_at hl 0 rfl) ?_
  refine zr_getA (ref := RJx4a65c) C hin (ci := 0) rfl hH kl hk he 2 (by decide) (by decide +kernel) (fun _ h => h) rfl dJx4a65c_grow_d5877_2 ?_ rfl
  refine lv_iconst (v := 1) hx hb dJx4a65c_grow_d5877_5 (by decide) ?_
  refine lv_iadd hx hb dJx4a65c_grow_d5877_6 ?_
  refine W.eq (g2 := F0 m 7 ls [.int (nI 1), .ref (w.1 kl)]) (by rw [show ((0 : Int32) + 1) = nI 1 by decide]) ?_
  refine zk_cr (zk_rV (As := [.int (nI 1)]) (rest := []) (n := 1) (k := kl) C (cJ_growA l D cA A g w kl hk ka hka he) hH hS hk he rfl gJx4a65c_grow_d5877_Jx4a65c_grow_92f84 rfl rfl (by decide +kernel) ⟨Nat.le_of_ble_eq_true rfl, Nat.le_of_ble_eq_true rfl⟩ hl rfl (Nat.le_of_ble_eq_true rfl) dJx4a65c_grow_d5877_7 ⟨Nat.le_of_ble_eq_true rfl, Nat.le_of_ble_eq_true rfl⟩) hS (fun r_1 w_2 H locs hP hH_3 hS_4 => ?_)
  subst hP
  refine zr_aret C hr (Or.inr ⟨_, rfl⟩) ?_ hH_3 hS_4 (Nat.le_of_ble_eq_true rfl) (Nat.le_of_ble_eq_true rfl) dJx4a65c_grow_d5877_10
  rfl
def rmJ_add3B : Room := { frames := 5, cells := 1, slots := 163, locals := 151 }
set_option maxHeartbeats 600000 in
set_option maxRecDepth 100000 in
theorem cJ_add3B (l : Launch) (D : va_G) (cA : Nat → ClassId) (A : Nat → Prop) (g : Nat → Nat) (w : zk_W) (kl : zk_K) (hk : w.2.1 kl) (ka kt : zk_K) (hka : w.2.1 ka) (hkt : ¬ w.2.1 kt) {md : Int32} (n : Nat) (h10 : 10 ≤ n) (hn : n ≤ 109) (he : w.2.2 kl = zLo md (w.1 ka) (nI n)) {f : Nat → Option Nat} (hea : w.2.2 ka = zRef (cA 3) n f) (hel : ∀ j y, f j = some y → zEl w y) (hf : ∀ j, n ≤ j → f j = none) (v : Nat) (hv : zEl w v) : zM l yJx4a65c_add_72be8 wsJx4a65c_add_72be8 rmJ_add3B D (zt cA) A g [.ref (w.1 kl), .ref v, .ref (w.1 ka), .int (nI n)] (w) (zQv (fun w' => ∃ r, zk_se (zk_se (zk_se (zk_ext w kt r (zRef (cA 3) (n + n / 2) f)) kl (zLo md r (nI n))) kt (zRef (cA 3) (n + n / 2) (va_up f n (some v)))) kl (zLo md r (nI (n + 1))) = w')) := by
  have hne : kl ≠ kt := fun z => hkt (z ▸ hk)
  refine zM_of (cc := cJx4a65c_add_72be8) (maxL := 4) (ret := none) (own := RJx4a65c) (by decide +kernel) rfl (Nat.le_of_ble_eq_true rfl) rfl ?_
  intro p e s m below meth c C hr hnm H locs ls hH hS hl
  obtain ⟨⟨hx, hb, hml, hown, hts⟩, hG, hlk⟩ := id C
  have hin : ∀ w ∈ wsJx4a65c0, w ∈ wsJx4a65c_add_72be8 := by decide +kernel
  have hl : lv_has ls 4 [(0, .ref (w.1 kl)), (1, .ref v), (2, .ref (w.1 ka)), (3, .int (nI n))] := hl
  refine lv_iload_n hx hb dJx4a65c_add_72be8_0 rfl (lv_at hl 3 rfl) ?_
  refine lv_aload_n hx hb dJx4a65c_add_72be8_1 rfl (lv_at hl 2 rfl) ?_
  refine zr_alenA C hH ka hka hea rfl dJx4a65c_add_72be8_2 ?_
  refine lv_icmp_ne (tgt := 11) hx hb dJx4a65c_add_72be8_3 (by decide) (fun c_1 => absurd rfl c_1) (fun c_1 => ?_)
  refine lv_aload_n hx hb dJx4a65c_add_72be8_6 rfl (lv_at hl 0 rfl) ?_
  refine zk_cr (zk_rV (As := []) (rest := []) (n := 0) (k := kl) C (cJ_grow0B l D cA A g w kl hk ka kt hka hkt n h10 hn he hea hel hf) hH hS hk he rfl gJx4a65c_add_72be8_Jx4a65c_grow_d5877 rfl rfl (by decide +kernel) ⟨Nat.le_of_ble_eq_true rfl, Nat.le_of_ble_eq_true rfl⟩ hl rfl (Nat.le_of_ble_eq_true rfl) dJx4a65c_add_72be8_7 ⟨Nat.le_of_ble_eq_true rfl, Nat.le_of_ble_eq_true rfl⟩) hS (fun r_2 w_3 H locs hP hH_4 hS_5 => ?_)
  subst hP
  refine lv_astore_n (lv' := [(2, .ref r_2), (0, .ref (w.1 kl)), (1, .ref v), (3, .int (nI n))]) hx hb dJx4a65c_add_72be8_10 rfl hl (by decide) rfl (fun ls hl_6 => ?_)
  refine lv_aload_n hx hb dJx4a65c_add_72be8_11 rfl (lv_at hl_6 0 rfl) ?_
  refine lv_iload_n hx hb dJx4a65c_add_72be8_12 rfl (lv_at hl_6 3 rfl) ?_
  refine lv_aload_n hx hb dJx4a65c_add_72be8_13 rfl (lv_at hl_6 2 rfl) ?_
  refine zr_aastA C hH_4 hS_5 kt (Or.inl rfl) ((zk_se_n (Ne.symm hne)).trans (zk_ext_s _ _ _ _)) (zk_ad_s _ _ _) (zEl.se (zEl.ext hv hkt) (by rw [zk_ext_n hne, he]; exact zO0)) (j := n) rfl (by omega) (by omega) dJx4a65c_add_72be8_14 (zk_se (zk_se (zk_ext w kt r_2 (zRef (cA 3) (n + n / 2) f)) kl (zLo md r_2 (nI n))) kt (zRef (cA 3) (n + n / 2) (va_up f n (some v)))) (zk_se_up _ _ _) (fun H locs hH_7 hS_8 => ?_)
  refine lv_aload_n hx hb dJx4a65c_add_72be8_15 rfl (lv_at hl_6 1 rfl) ?_
  refine lv_iload_n hx hb dJx4a65c_add_72be8_16 rfl (lv_at hl_6 3 rfl) ?_
  refine lv_iconst (v := 1) hx hb dJx4a65c_add_72be8_17 (by decide) ?_
  refine lv_iadd hx hb dJx4a65c_add_72be8_18 ?_
  refine W.eq (g2 := F0 m 19 ls [.int (nI (n + 1)), .ref (w.1 kl)]) (by rw [show ((nI n) + 1 : Int32) = nI (n + 1) from (zi_add rfl rfl)]) ?_
  refine zr_putA (ref := RJx4a65c) C hin (ci := 0) rfl tyJx4a65c tyJx4a65c_ok nmJx4a65c hH_7 hS_8 kl (Or.inr hk) ((zk_se_n hne).trans (zk_se_s _ _ _)) 2 (by decide) (by decide +kernel) (fun _ h => h) rfl rfl rfl (show 2 < 3 by decide) dJx4a65c_add_72be8_19 (zk_se (zk_se (zk_se (zk_ext w kt r_2 (zRef (cA 3) (n + n / 2) f)) kl (zLo md r_2 (nI n))) kt (zRef (cA 3) (n + n / 2) (va_up f n (some v)))) kl (zLo md r_2 (nI (n + 1)))) (zk_se_up _ _ _) (fun H locs hH_9 hS_10 => ?_) (zk_ad_n hne)
  refine zr_vret C hr ?_ hH_9 hS_10 (Nat.le_of_ble_eq_true rfl) (Nat.le_of_ble_eq_true rfl) dJx4a65c_add_72be8_22
  exact ⟨_, rfl⟩
set_option maxHeartbeats 600000 in
set_option maxRecDepth 100000 in
theorem cJ_add3A (l : Launch) (D : va_G) (cA : Nat → ClassId) (A : Nat → Prop) (g : Nat → Nat) (w : zk_W) (kl : zk_K) (hk : w.2.1 kl) (ka : zk_K) (hka : ¬ w.2.1 ka) {md : Int32} (he : w.2.2 kl = zLo md (g 0) 0) (v : Nat) (hv : zEl w v) : zM l yJx4a65c_add_72be8 wsJx4a65c_add_72be8 rmJ_add3B D (zt cA) A g [.ref (w.1 kl), .ref v, .ref (g 0), .int 0] (w) (zQv (fun w' => ∃ r, zk_se (zk_se (zk_se (zk_ext w ka r (zRef (cA 3) 10 (fun _ => none))) kl (zLo md r 0)) ka (zRef (cA 3) 10 (va_up (fun _ => none) 0 (some v)))) kl (zLo md r (nI 1)) = w')) := by
  have hne : kl ≠ ka := fun z => hka (z ▸ hk)
  refine zM_of (cc := cJx4a65c_add_72be8) (maxL := 4) (ret := none) (own := RJx4a65c) (by decide +kernel) rfl (Nat.le_of_ble_eq_true rfl) rfl ?_
  intro p e s m below meth c C hr hnm H locs ls hH hS hl
  obtain ⟨⟨hx, hb, hml, hown, hts⟩, hG, hlk⟩ := id C
  have hin : ∀ w ∈ wsJx4a65c0, w ∈ wsJx4a65c_add_72be8 := by decide +kernel
  have hl : lv_has ls 4 [(0, .ref (w.1 kl)), (1, .ref v), (2, .ref (g 0)), (3, .int 0)] := hl
  refine lv_iload_n hx hb dJx4a65c_add_72be8_0 rfl (lv_at hl 3 rfl) ?_
  refine lv_aload_n hx hb dJx4a65c_add_72be8_1 rfl (lv_at hl 2 rfl) ?_
  refine va_tlen (v := 0) hx hb hG.2.2.2.1 hS rfl dJx4a65c_add_72be8_2 ?_
  refine lv_icmp_ne (tgt := 11) hx hb dJx4a65c_add_72be8_3 (by decide) (fun c_1 => absurd c_1 (by decide)) (fun c_1 => ?_)
  refine lv_aload_n hx hb dJx4a65c_add_72be8_6 rfl (lv_at hl 0 rfl) ?_
  refine zk_cr (zk_rV (As := []) (rest := []) (n := 0) (k := kl) C (cJ_grow0A l D cA A g w kl hk ka hka he) hH hS hk he rfl gJx4a65c_add_72be8_Jx4a65c_grow_d5877 rfl rfl (by decide +kernel) ⟨Nat.le_of_ble_eq_true rfl, Nat.le_of_ble_eq_true rfl⟩ hl rfl (Nat.le_of_ble_eq_true rfl) dJx4a65c_add_72be8_7 ⟨Nat.le_of_ble_eq_true rfl, Nat.le_of_ble_eq_true rfl⟩) hS (fun r_2 w_3 H locs hP hH_4 hS_5 => ?_)
  subst hP
  refine lv_astore_n (lv' := [(2, .ref r_2), (0, .ref (w.1 kl)), (1, .ref v), (3, .int 0)]) hx hb dJx4a65c_add_72be8_10 rfl hl (by decide) rfl (fun ls hl_6 => ?_)
  refine lv_aload_n hx hb dJx4a65c_add_72be8_11 rfl (lv_at hl_6 0 rfl) ?_
  refine lv_iload_n hx hb dJx4a65c_add_72be8_12 rfl (lv_at hl_6 3 rfl) ?_
  refine lv_aload_n hx hb dJx4a65c_add_72be8_13 rfl (lv_at hl_6 2 rfl) ?_
  refine zr_aastA C hH_4 hS_5 ka (Or.inl rfl) ((zk_se_n (Ne.symm hne)).trans (zk_ext_s _ _ _ _)) (zk_ad_s _ _ _) (zEl.se (zEl.ext hv hka) (by rw [zk_ext_n hne, he]; exact zO0)) (j := 0) rfl (by decide) (by omega) dJx4a65c_add_72be8_14 (zk_se (zk_se (zk_ext w ka r_2 (zRef (cA 3) 10 (fun _ => none))) kl (zLo md r_2 0)) ka (zRef (cA 3) 10 (va_up (fun _ => none) 0 (some v)))) (zk_se_up _ _ _) (fun H locs hH_7 hS_8 => ?_)
  refine lv_aload_n hx hb dJx4a65c_add_72be8_15 rfl (lv_at hl_6 1 rfl) ?_
  refine lv_iload_n hx hb dJx4a65c_add_72be8_16 rfl (lv_at hl_6 3 rfl) ?_
  refine lv_iconst (v := 1) hx hb dJx4a65c_add_72be8_17 (by decide) ?_
  refine lv_iadd hx hb dJx4a65c_add_72be8_18 ?_
  refine W.eq (g2 := F0 m 19 ls [.int (nI 1), .ref (w.1 kl)]) (by rw [show ((0 : Int32) + 1) = nI 1 by decide]) ?_
  refine zr_putA (ref := RJx4a65c) C hin (ci := 0) rfl tyJx4a65c tyJx4a65c_ok nmJx4a65c hH_7 hS_8 kl (Or.inr hk) ((zk_se_n hne).trans (zk_se_s _ _ _)) 2 (by decide) (by decide +kernel) (fun _ h => h) rfl rfl rfl (show 2 < 3 by decide) dJx4a65c_add_72be8_19 (zk_se (zk_se (zk_se (zk_ext w ka r_2 (zRef (cA 3) 10 (fun _ => none))) kl (zLo md r_2 0)) ka (zRef (cA 3) 10 (va_up (fun _ => none) 0 (some v)))) kl (zLo md r_2 (nI 1))) (zk_se_up _ _ _) (fun H locs hH_9 hS_10 => ?_) (zk_ad_n hne)
  refine zr_vret C hr ?_ hH_9 hS_10 (Nat.le_of_ble_eq_true rfl) (Nat.le_of_ble_eq_true rfl) dJx4a65c_add_72be8_22
  exact ⟨_, rfl⟩
set_option maxHeartbeats 600000 in
set_option maxRecDepth 100000 in
theorem cJ_add3N (l : Launch) (D : va_G) (cA : Nat → ClassId) (A : Nat → Prop) (g : Nat → Nat) (w : zk_W) (kl : zk_K) (hk : w.2.1 kl) (ka : zk_K) (hka : w.2.1 ka) (hne : kl ≠ ka) {md : Int32} (n cap : Nat) (hn : n < cap) (hcap : cap ≤ 163) (he : w.2.2 kl = zLo md (w.1 ka) (nI n)) {f : Nat → Option Nat} (hea : w.2.2 ka = zRef (cA 3) cap f) (v : Nat) (hv : zEl w v) : zM l yJx4a65c_add_72be8 wsJx4a65c_add_72be8 rmJ_add3B D (zt cA) A g [.ref (w.1 kl), .ref v, .ref (w.1 ka), .int (nI n)] (w) (zQv (fun w' => zk_se (zk_se w ka (zRef (cA 3) cap (va_up f n (some v)))) kl (zLo md (w.1 ka) (nI (n + 1))) = w')) := by
  refine zM_of (cc := cJx4a65c_add_72be8) (maxL := 4) (ret := none) (own := RJx4a65c) (by decide +kernel) rfl (Nat.le_of_ble_eq_true rfl) rfl ?_
  intro p e s m below meth c C hr hnm H locs ls hH hS hl
  obtain ⟨⟨hx, hb, hml, hown, hts⟩, hG, hlk⟩ := id C
  have hin : ∀ w ∈ wsJx4a65c0, w ∈ wsJx4a65c_add_72be8 := by decide +kernel
  have hl : lv_has ls 4 [(0, .ref (w.1 kl)), (1, .ref v), (2, .ref (w.1 ka)), (3, .int (nI n))] := hl
  refine lv_iload_n hx hb dJx4a65c_add_72be8_0 rfl (lv_at hl 3 rfl) ?_
  refine lv_aload_n hx hb dJx4a65c_add_72be8_1 rfl (lv_at hl 2 rfl) ?_
  refine zr_alenA C hH ka hka hea rfl dJx4a65c_add_72be8_2 ?_
  refine lv_icmp_ne (tgt := 11) hx hb dJx4a65c_add_72be8_3 (by decide) (fun c_1 => ?_) (fun c_1 => absurd ((nI_eq (by omega) (by omega)).mp c_1) (by omega))
  refine lv_aload_n hx hb dJx4a65c_add_72be8_11 rfl (lv_at hl 2 rfl) ?_
  refine lv_iload_n hx hb dJx4a65c_add_72be8_12 rfl (lv_at hl 3 rfl) ?_
  refine lv_aload_n hx hb dJx4a65c_add_72be8_13 rfl (lv_at hl 1 rfl) ?_
  refine zr_aastA C hH hS ka hka hea rfl hv (j := n) rfl hn (by omega) dJx4a65c_add_72be8_14 (zk_se w ka (zRef (cA 3) cap (va_up f n (some v)))) (zk_se_up _ _ _) (fun H locs hH_2 hS_3 => ?_)
  refine lv_aload_n hx hb dJx4a65c_add_72be8_15 rfl (lv_at hl 0 rfl) ?_
  refine lv_iload_n hx hb dJx4a65c_add_72be8_16 rfl (lv_at hl 3 rfl) ?_
  refine lv_iconst (v := 1) hx hb dJx4a65c_add_72be8_17 (by decide) ?_
  refine lv_iadd hx hb dJx4a65c_add_72be8_18 ?_
  refine W.eq (g2 := F0 m 19 ls [.int (nI (n + 1)), .ref (w.1 kl)]) (by rw [show ((nI n) + 1 : Int32) = nI (n + 1) from (zi_add rfl rfl)]) ?_
  refine zr_putA (ref := RJx4a65c) C hin (ci := 0) rfl tyJx4a65c tyJx4a65c_ok nmJx4a65c hH_2 hS_3 kl hk ((zk_se_n hne).trans he) 2 (by decide) (by decide +kernel) (fun _ h => h) rfl rfl rfl (show 2 < 3 by decide) dJx4a65c_add_72be8_19 (zk_se (zk_se w ka (zRef (cA 3) cap (va_up f n (some v)))) kl (zLo md (w.1 ka) (nI (n + 1)))) (zk_se_up _ _ _) (fun H locs hH_4 hS_5 => ?_) rfl
  refine zr_vret C hr ?_ hH_4 hS_5 (Nat.le_of_ble_eq_true rfl) (Nat.le_of_ble_eq_true rfl) dJx4a65c_add_72be8_22
  rfl
def rmJ_add1B : Room := { frames := 6, cells := 1, slots := 163, locals := 174 }
set_option maxHeartbeats 600000 in
set_option maxRecDepth 100000 in
theorem cJ_add1B (l : Launch) (D : va_G) (cA : Nat → ClassId) (A : Nat → Prop) (g : Nat → Nat) (w : zk_W) (kl : zk_K) (hk : w.2.1 kl) (ka kt : zk_K) (hka : w.2.1 ka) (hkt : ¬ w.2.1 kt) (n : Nat) (h10 : 10 ≤ n) (hn : n ≤ 109) (he : w.2.2 kl = zLo (nI n) (w.1 ka) (nI n)) {f : Nat → Option Nat} (hea : w.2.2 ka = zRef (cA 3) n f) (hel : ∀ j y, f j = some y → zEl w y) (hf : ∀ j, n ≤ j → f j = none) (hne2 : kl ≠ ka) (v : Nat) (hv : zEl w v) : zM l yJx4a65c_add_9ea2d wsJx4a65c_add_9ea2d rmJ_add1B D (zt cA) A g [.ref (w.1 kl), .ref v] (w) (zQi (fun r w' => 1 = r ∧ ∃ q, (False → q = w.1 ka) ∧ zk_add (cA 3) w kl ka q n (n + n / 2) (va_up f n (some v)) = w')) := by
  refine zM_of (cc := cJx4a65c_add_9ea2d) (maxL := 2) (ret := (some .boolean)) (own := RJx4a65c) (by decide +kernel) rfl (Nat.le_of_ble_eq_true rfl) rfl ?_
  intro p e s m below meth c C hr hnm H locs ls hH hS hl
  obtain ⟨⟨hx, hb, hml, hown, hts⟩, hG, hlk⟩ := id C
  have hin : ∀ w ∈ wsJx4a65c0, w ∈ wsJx4a65c_add_9ea2d := by decide +kernel
  have hl : lv_has ls 2 [(0, .ref (w.1 kl)), (1, .ref v)] := hl
  refine lv_aload_n hx hb dJx4a65c_add_9ea2d_0 rfl (lv_at hl 0 rfl) ?_
  refine lv_dup hx hb dJx4a65c_add_9ea2d_1 rfl ?_
  refine zr_getA (ref := "java/util/ArrayList") C hin (ci := 0) rfl hH kl hk he 0 (by decide) (by decide +kernel) (fun x h => u_same (hts (.sameField "java/util/ArrayList" "java/util/AbstractList" "modCount" "I") (by decide +kernel)) x h) rfl dJx4a65c_add_9ea2d_2 ?_ rfl
  refine lv_iconst (v := 1) hx hb dJx4a65c_add_9ea2d_5 (by decide) ?_
  refine lv_iadd hx hb dJx4a65c_add_9ea2d_6 ?_
  refine W.eq (g2 := F0 m 7 ls [.int (nI (n + 1)), .ref (w.1 kl)]) (by rw [show ((nI n) + 1 : Int32) = nI (n + 1) from (zi_add rfl rfl)]) ?_
  refine zr_putA (ref := "java/util/ArrayList") C hin (ci := 0) rfl tyJx4a65c tyJx4a65c_ok nmJx4a65c hH hS kl hk he 0 (by decide) (by decide +kernel) (fun x h => u_same (hts (.sameField "java/util/ArrayList" "java/util/AbstractList" "modCount" "I") (by decide +kernel)) x h) rfl rfl rfl (show 0 < 3 by decide) dJx4a65c_add_9ea2d_7 (zk_se w kl (zLo (nI (n + 1)) (w.1 ka) (nI n))) (zk_se_up _ _ _) (fun H locs hH_1 hS_2 => ?_) rfl
  refine lv_aload_n hx hb dJx4a65c_add_9ea2d_10 rfl (lv_at hl 0 rfl) ?_
  refine lv_aload_n hx hb dJx4a65c_add_9ea2d_11 rfl (lv_at hl 1 rfl) ?_
  refine lv_aload_n hx hb dJx4a65c_add_9ea2d_12 rfl (lv_at hl 0 rfl) ?_
  refine zr_getA (ref := RJx4a65c) C hin (ci := 0) rfl hH_1 kl hk (zk_se_s _ _ _) 1 (by decide) (by decide +kernel) (fun _ h => h) rfl dJx4a65c_add_9ea2d_13 ?_ rfl
  refine lv_aload_n hx hb dJx4a65c_add_9ea2d_16 rfl (lv_at hl 0 rfl) ?_
  refine zr_getA (ref := RJx4a65c) C hin (ci := 0) rfl hH_1 kl hk (zk_se_s _ _ _) 2 (by decide) (by decide +kernel) (fun _ h => h) rfl dJx4a65c_add_9ea2d_17 ?_ rfl
  refine zk_cv (zk_rV (As := [.ref v, .ref (w.1 ka), .int (nI n)]) (rest := []) (n := 3) (k := kl) C (cJ_add3B l D cA A g (zk_se w kl (zLo (nI (n + 1)) (w.1 ka) (nI n))) kl hk ka kt hka hkt n h10 hn (zk_se_s _ _ _) ((zk_se_n (Ne.symm hne2)).trans hea) (fun j y h => zEl.se (hel j y h) (by rw [he]; exact zO0)) hf v (zEl.se hv (by rw [he]; exact zO0))) hH_1 hS_2 hk (zk_se_s _ _ _) rfl gJx4a65c_add_9ea2d_Jx4a65c_add_72be8 rfl rfl (by decide +kernel) ⟨Nat.le_of_ble_eq_true rfl, Nat.le_of_ble_eq_true rfl⟩ hl rfl (Nat.le_of_ble_eq_true rfl) dJx4a65c_add_9ea2d_20 ⟨Nat.le_of_ble_eq_true rfl, Nat.le_of_ble_eq_true rfl⟩) hS_2 (fun w_4 H locs hP hH_5 hS_6 => ?_)
  obtain ⟨q, rfl⟩ := hP
  refine lv_iconst (v := 1) hx hb dJx4a65c_add_9ea2d_23 (by decide) ?_
  have hZ := zk_addB hk hne2 hkt hH_5
  refine zr_zret C hr (Or.inr rfl) ?_ hZ hS_6 (Nat.le_of_ble_eq_true rfl) (Nat.le_of_ble_eq_true rfl) dJx4a65c_add_9ea2d_24
  exact ⟨rfl, q, fun z => z.elim, rfl⟩
set_option maxHeartbeats 600000 in
set_option maxRecDepth 100000 in
theorem cJ_add1A (l : Launch) (D : va_G) (cA : Nat → ClassId) (A : Nat → Prop) (g : Nat → Nat) (w : zk_W) (kl : zk_K) (hk : w.2.1 kl) (ka : zk_K) (hka : ¬ w.2.1 ka) (he : w.2.2 kl = zLo 0 (g 0) 0) (hne2 : kl ≠ ka) (v : Nat) (hv : zEl w v) : zM l yJx4a65c_add_9ea2d wsJx4a65c_add_9ea2d rmJ_add1B D (zt cA) A g [.ref (w.1 kl), .ref v] (w) (zQi (fun r w' => 1 = r ∧ ∃ q, (False → q = w.1 ka) ∧ zk_add (cA 3) w kl ka q 0 10 (va_up (fun _ => none) 0 (some v)) = w')) := by
  refine zM_of (cc := cJx4a65c_add_9ea2d) (maxL := 2) (ret := (some .boolean)) (own := RJx4a65c) (by decide +kernel) rfl (Nat.le_of_ble_eq_true rfl) rfl ?_
  intro p e s m below meth c C hr hnm H locs ls hH hS hl
  obtain ⟨⟨hx, hb, hml, hown, hts⟩, hG, hlk⟩ := id C
  have hin : ∀ w ∈ wsJx4a65c0, w ∈ wsJx4a65c_add_9ea2d := by decide +kernel
  have hl : lv_has ls 2 [(0, .ref (w.1 kl)), (1, .ref v)] := hl
  refine lv_aload_n hx hb dJx4a65c_add_9ea2d_0 rfl (lv_at hl 0 rfl) ?_
  refine lv_dup hx hb dJx4a65c_add_9ea2d_1 rfl ?_
  refine zr_getA (ref := "java/util/ArrayList") C hin (ci := 0) rfl hH kl hk he 0 (by decide) (by decide +kernel) (fun x h => u_same (hts (.sameField "java/util/ArrayList" "java/util/AbstractList" "modCount" "I") (by decide +kernel)) x h) rfl dJx4a65c_add_9ea2d_2 ?_ rfl
  refine lv_iconst (v := 1) hx hb dJx4a65c_add_9ea2d_5 (by decide) ?_
  refine lv_iadd hx hb dJx4a65c_add_9ea2d_6 ?_
  refine W.eq (g2 := F0 m 7 ls [.int (nI (0 + 1)), .ref (w.1 kl)]) (by rw [show (0 + 1 : Int32) = nI (0 + 1) from (zi_add rfl rfl)]) ?_
  refine zr_putA (ref := "java/util/ArrayList") C hin (ci := 0) rfl tyJx4a65c tyJx4a65c_ok nmJx4a65c hH hS kl hk he 0 (by decide) (by decide +kernel) (fun x h => u_same (hts (.sameField "java/util/ArrayList" "java/util/AbstractList" "modCount" "I") (by decide +kernel)) x h) rfl rfl rfl (show 0 < 3 by decide) dJx4a65c_add_9ea2d_7 (zk_se w kl (zLo (nI (0 + 1)) (g 0) 0)) (zk_se_up _ _ _) (fun H locs hH_1 hS_2 => ?_) rfl
  refine lv_aload_n hx hb dJx4a65c_add_9ea2d_10 rfl (lv_at hl 0 rfl) ?_
  refine lv_aload_n hx hb dJx4a65c_add_9ea2d_11 rfl (lv_at hl 1 rfl) ?_
  refine lv_aload_n hx hb dJx4a65c_add_9ea2d_12 rfl (lv_at hl 0 rfl) ?_
  refine zr_getA (ref := RJx4a65c) C hin (ci := 0) rfl hH_1 kl hk (zk_se_s _ _ _) 1 (by decide) (by decide +kernel) (fun _ h => h) rfl dJx4a65c_add_9ea2d_13 ?_ rfl
  refine lv_aload_n hx hb dJx4a65c_add_9ea2d_16 rfl (lv_at hl 0 rfl) ?_
  refine zr_getA (ref := RJx4a65c) C hin (ci := 0) rfl hH_1 kl hk (zk_se_s _ _ _) 2 (by decide) (by decide +kernel) (fun _ h => h) rfl dJx4a65c_add_9ea2d_17 ?_ rfl
  refine zk_cv (zk_rV (As := [.ref v, .ref (g 0), .int 0]) (rest := []) (n := 3) (k := kl) C (cJ_add3A l D cA A g (zk_se w kl (zLo (nI (0 + 1)) (g 0) 0)) kl hk ka hka (zk_se_s _ _ _) v (zEl.se hv (by rw [he]; exact zO0))) hH_1 hS_2 hk (zk_se_s _ _ _) rfl gJx4a65c_add_9ea2d_Jx4a65c_add_72be8 rfl rfl (by decide +kernel) ⟨Nat.le_of_ble_eq_true rfl, Nat.le_of_ble_eq_true rfl⟩ hl rfl (Nat.le_of_ble_eq_true rfl) dJx4a65c_add_9ea2d_20 ⟨Nat.le_of_ble_eq_true rfl, Nat.le_of_ble_eq_true rfl⟩) hS_2 (fun w_4 H locs hP hH_5 hS_6 => ?_)
  obtain ⟨q, rfl⟩ := hP
  refine lv_iconst (v := 1) hx hb dJx4a65c_add_9ea2d_23 (by decide) ?_
  have hZ := hH_5.sb zk_addA
  refine zr_zret C hr (Or.inr rfl) ?_ hZ hS_6 (Nat.le_of_ble_eq_true rfl) (Nat.le_of_ble_eq_true rfl) dJx4a65c_add_9ea2d_24
  exact ⟨rfl, q, fun z => z.elim, rfl⟩
set_option maxHeartbeats 600000 in
set_option maxRecDepth 100000 in
theorem cJ_add1N (l : Launch) (D : va_G) (cA : Nat → ClassId) (A : Nat → Prop) (g : Nat → Nat) (w : zk_W) (kl : zk_K) (hk : w.2.1 kl) (ka : zk_K) (hka : w.2.1 ka) (hne : kl ≠ ka) (n cap : Nat) (hn : n < cap) (hcap : cap ≤ 163) (he : w.2.2 kl = zLo (nI n) (w.1 ka) (nI n)) {f : Nat → Option Nat} (hea : w.2.2 ka = zRef (cA 3) cap f) (v : Nat) (hv : zEl w v) : zM l yJx4a65c_add_9ea2d wsJx4a65c_add_9ea2d rmJ_add1B D (zt cA) A g [.ref (w.1 kl), .ref v] (w) (zQi (fun r w' => 1 = r ∧ ∃ q, (True → q = w.1 ka) ∧ zk_add (cA 3) w kl ka q n cap (va_up f n (some v)) = w')) := by
  refine zM_of (cc := cJx4a65c_add_9ea2d) (maxL := 2) (ret := (some .boolean)) (own := RJx4a65c) (by decide +kernel) rfl (Nat.le_of_ble_eq_true rfl) rfl ?_
  intro p e s m below meth c C hr hnm H locs ls hH hS hl
  obtain ⟨⟨hx, hb, hml, hown, hts⟩, hG, hlk⟩ := id C
  have hin : ∀ w ∈ wsJx4a65c0, w ∈ wsJx4a65c_add_9ea2d := by decide +kernel
  have hl : lv_has ls 2 [(0, .ref (w.1 kl)), (1, .ref v)] := hl
  refine lv_aload_n hx hb dJx4a65c_add_9ea2d_0 rfl (lv_at hl 0 rfl) ?_
  refine lv_dup hx hb dJx4a65c_add_9ea2d_1 rfl ?_
  refine zr_getA (ref := "java/util/ArrayList") C hin (ci := 0) rfl hH kl hk he 0 (by decide) (by decide +kernel) (fun x h => u_same (hts (.sameField "java/util/ArrayList" "java/util/AbstractList" "modCount" "I") (by decide +kernel)) x h) rfl dJx4a65c_add_9ea2d_2 ?_ rfl
  refine lv_iconst (v := 1) hx hb dJx4a65c_add_9ea2d_5 (by decide) ?_
  refine lv_iadd hx hb dJx4a65c_add_9ea2d_6 ?_
  refine W.eq (g2 := F0 m 7 ls [.int (nI (n + 1)), .ref (w.1 kl)]) (by rw [show ((nI n) + 1 : Int32) = nI (n + 1) from (zi_add rfl rfl)]) ?_
  refine zr_putA (ref := "java/util/ArrayList") C hin (ci := 0) rfl tyJx4a65c tyJx4a65c_ok nmJx4a65c hH hS kl hk he 0 (by decide) (by decide +kernel) (fun x h => u_same (hts (.sameField "java/util/ArrayList" "java/util/AbstractList" "modCount" "I") (by decide +kernel)) x h) rfl rfl rfl (show 0 < 3 by decide) dJx4a65c_add_9ea2d_7 (zk_se w kl (zLo (nI (n + 1)) (w.1 ka) (nI n))) (zk_se_up _ _ _) (fun H locs hH_1 hS_2 => ?_) rfl
  refine lv_aload_n hx hb dJx4a65c_add_9ea2d_10 rfl (lv_at hl 0 rfl) ?_
  refine lv_aload_n hx hb dJx4a65c_add_9ea2d_11 rfl (lv_at hl 1 rfl) ?_
  refine lv_aload_n hx hb dJx4a65c_add_9ea2d_12 rfl (lv_at hl 0 rfl) ?_
  refine zr_getA (ref := RJx4a65c) C hin (ci := 0) rfl hH_1 kl hk (zk_se_s _ _ _) 1 (by decide) (by decide +kernel) (fun _ h => h) rfl dJx4a65c_add_9ea2d_13 ?_ rfl
  refine lv_aload_n hx hb dJx4a65c_add_9ea2d_16 rfl (lv_at hl 0 rfl) ?_
  refine zr_getA (ref := RJx4a65c) C hin (ci := 0) rfl hH_1 kl hk (zk_se_s _ _ _) 2 (by decide) (by decide +kernel) (fun _ h => h) rfl dJx4a65c_add_9ea2d_17 ?_ rfl
  refine zk_cv (zk_rV (As := [.ref v, .ref (w.1 ka), .int (nI n)]) (rest := []) (n := 3) (k := kl) C (cJ_add3N l D cA A g (zk_se w kl (zLo (nI (n + 1)) (w.1 ka) (nI n))) kl hk ka hka hne n cap hn hcap (zk_se_s _ _ _) ((zk_se_n (Ne.symm hne)).trans hea) v (zEl.se hv (by rw [he]; exact zO0))) hH_1 hS_2 hk (zk_se_s _ _ _) rfl gJx4a65c_add_9ea2d_Jx4a65c_add_72be8 rfl rfl (by decide +kernel) ⟨Nat.le_of_ble_eq_true rfl, Nat.le_of_ble_eq_true rfl⟩ hl rfl (Nat.le_of_ble_eq_true rfl) dJx4a65c_add_9ea2d_20 ⟨Nat.le_of_ble_eq_true rfl, Nat.le_of_ble_eq_true rfl⟩) hS_2 (fun w_4 H locs hP hH_5 hS_6 => ?_)
  subst hP
  refine lv_iconst (v := 1) hx hb dJx4a65c_add_9ea2d_23 (by decide) ?_
  have hZ := hH_5.sb (zk_addN hka)
  refine zr_zret C hr (Or.inr rfl) ?_ hZ hS_6 (Nat.le_of_ble_eq_true rfl) (Nat.le_of_ble_eq_true rfl) dJx4a65c_add_9ea2d_24
  exact ⟨rfl, w.1 ka, fun _ => rfl, rfl⟩
def rmJ_fill : Room := { frames := 0, cells := 0, slots := 0, locals := 0 }
set_option maxHeartbeats 600000 in
set_option maxRecDepth 100000 in
theorem cJ_fill (l : Launch) (D : va_G) (cA : Nat → ClassId) (A : Nat → Prop) (g : Nat → Nat) (w : zk_W) (k0 : zk_K) (hk : w.2.1 k0) (n : Nat) (hn : n < 2 ^ 30) {f : Nat → Int64} (x : Int64) (he : w.2.2 k0 = .inl (cA 1, n, .inr (.inl (f)))) : zM l yJ7_fill_d0a16 wsJ7_fill_d0a16 rmJ_fill D (zt cA) A g [.ref (w.1 k0), .long x] (w) (zQv (fun w' => zk_se w k0 (.inl (cA 1, n, .inr (.inl (flL f x n)))) = w')) := by
  refine zM_of (cc := cJ7_fill_d0a16) (maxL := 5) (ret := none) (own := RJ7) (by decide +kernel) rfl (Nat.le_of_ble_eq_true rfl) rfl ?_
  intro p e s m below meth c C hr hnm H locs ls hH hS hl
  obtain ⟨⟨hx, hb, hml, hown, hts⟩, hG, hlk⟩ := id C
  have hl : lv_has ls 5 [(0, .ref (w.1 k0)), (1, .long x)] := hl
  refine lv_iconst (v := 0) hx hb dJ7_fill_d0a16_0 (by decide) ?_
  refine lv_istore_n (lv' := [(3, .int 0), (0, .ref (w.1 k0)), (1, .long x)]) hx hb dJ7_fill_d0a16_1 rfl hl (by decide) rfl (fun ls hl_1 => ?_)
  refine lv_aload_n hx hb dJ7_fill_d0a16_2 rfl (lv_at hl_1 1 rfl) ?_
  refine zr_alen C hH k0 hk he 1 rfl dJ7_fill_d0a16_3 ?_
  refine W.eq (g2 := F0 m 4 ls [.int (nI n)]) rfl ?_
  refine lv_istore (lv' := [(4, .int (nI n)), (3, .int 0), (0, .ref (w.1 k0)), (1, .long x)]) hx hb dJ7_fill_d0a16_4 hl_1 (by decide) rfl (fun ls hl_2 => ?_)
  have hZ := hH.sb (zk_se_id (e := .inl (cA 1, n, .inr (.inl (flL f x 0)))) (by rw [flL_0]; exact he))
  refine z_at (n := n) (P := fun i_3 => zL p l e rmJ_fill s m _ below meth c 5 D A _ (zk_se w k0 (.inl (cA 1, n, .inr (.inl (flL f x i_3))))) 0 0 6 [(0, .ref (w.1 k0)), (1, .long x), (3, .int (nI i_3)), (4, .int (nI n))] []) 0 (Nat.zero_le _) (fun h => h _ _ _ hZ hS (lv_sub hl_2 [2, 3, 1, 0] rfl)) ?_ ?_
  · intro H locs ls hH_5 hS_6 hl_7
    refine lv_iload_n hx hb dJ7_fill_d0a16_6 rfl (lv_at hl_7 2 rfl) ?_
    refine lv_iload hx hb dJ7_fill_d0a16_7 (lv_at hl_7 3 rfl) ?_
    refine lv_icmp_ge (tgt := 22) hx hb dJ7_fill_d0a16_9 (by decide) (fun c_8 => ?_) (fun c_8 => absurd (Int32.le_refl _) c_8)
    refine zr_vret C hr ?_ hH_5 hS_6 (Nat.le_of_ble_eq_true rfl) (Nat.le_of_ble_eq_true rfl) dJ7_fill_d0a16_22
    rfl
  · intro i_3 hi_3 ih_4 H locs ls hH_9 hS_10 hl_11
    refine lv_iload_n hx hb dJ7_fill_d0a16_6 rfl (lv_at hl_11 2 rfl) ?_
    refine lv_iload hx hb dJ7_fill_d0a16_7 (lv_at hl_11 3 rfl) ?_
    refine lv_icmp_ge (tgt := 22) hx hb dJ7_fill_d0a16_9 (by decide) (fun c_12 => absurd c_12 (nI_ge hi_3 (by first | decide | omega))) (fun c_12 => ?_)
    refine lv_aload_n hx hb dJ7_fill_d0a16_12 rfl (lv_at hl_11 0 rfl) ?_
    refine lv_iload_n hx hb dJ7_fill_d0a16_13 rfl (lv_at hl_11 2 rfl) ?_
    refine lv_lload_n hx hb dJ7_fill_d0a16_14 rfl (lv_at hl_11 1 rfl) ?_
    refine zr_last C hH_9 hS_10 k0 hk (zk_se_s _ _ _) 1 rfl (j := i_3) rfl hi_3 (by omega) dJ7_fill_d0a16_15 (zk_se w k0 (.inl (cA 1, n, .inr (.inl (flL f x (i_3 + 1)))))) ⟨rfl, rfl, by rw [flL_s]; exact zk_se_s _ _ _, fun k' h _ => (zk_se_n h).trans (zk_se_n h).symm⟩ (fun H locs hH_13 hS_14 => ?_)
    refine lv_iinc (v := nI (i_3 + 1)) (lv' := [(3, .int (nI (i_3 + 1))), (0, .ref (w.1 k0)), (1, .long x), (4, .int (nI n))]) hx hb dJ7_fill_d0a16_16 hl_11 (k := 2) rfl (nI_1 i_3) (by decide) rfl (fun ls hl_15 => ?_)
    refine lv_goto (tgt := 6) hx hb dJ7_fill_d0a16_19 (by decide) ?_
    exact ih_4 _ _ _ hH_13 hS_14 (lv_sub hl_15 [1, 2, 0, 3] rfl)
