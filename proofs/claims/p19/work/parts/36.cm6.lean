def rmC_initX1 : Room := { frames := 1, cells := 0, slots := 0, locals := 32 }
set_option maxHeartbeats 600000 in
set_option maxRecDepth 100000 in
theorem cC_initX1 (l : Launch) (D : va_G) (cA : Nat → ClassId) (A : Nat → Prop) (g : Nat → Nat) (w : zk_W) (kl : zk_K) (hk : w.2.1 kl) (he : w.2.2 kl = .inr (2, [.int 0, .int 0, .long 0, .long 0])) (n : Int32) : zM l yX1_init wsX1_init rmC_initX1 D (zt cA) A g [.ref (w.1 kl), .int n] (w) (zQv (fun w' => zk_se w kl (.inr (2, [.int n, .int 10000, .long 0, .long 0])) = w')) := by
  refine zM_of (cc := cX1_init) (maxL := 2) (ret := none) (own := RX1) (by decide +kernel) rfl (Nat.le_of_ble_eq_true rfl) rfl ?_
  intro p e s m below meth c C hr hnm H locs ls hH hS hl
  obtain ⟨⟨hx, hb, hml, hown, hts⟩, hG, hlk⟩ := id C
  have hin : ∀ w ∈ wsX10, w ∈ wsX1_init := by decide +kernel
  have hl : lv_has ls 2 [(0, .ref (w.1 kl)), (1, .int n)] := hl
  refine lv_aload_n hx hb dX1_init_0 rfl (lv_at hl 0 rfl) ?_
  refine W.objInit hx hb hown (hts (.methodLink RX1 3 objectInit) (by decide +kernel)) (hts (.instanceMethod objectInit) (by decide +kernel)) (hts _ (by decide +kernel)) rfl (by rw [hml]; exact hl.1) rfl dX1_init_1 (Nat.le_of_ble_eq_true rfl) (Nat.le_of_ble_eq_true rfl) ?_
  refine W.eq (g2 := F0 m 4 ls []) rfl ?_
  refine lv_aload_n hx hb dX1_init_4 rfl (lv_at hl 0 rfl) ?_
  refine lv_iload_n hx hb dX1_init_5 rfl (lv_at hl 1 rfl) ?_
  refine zr_putFA (ref := RX1) C hin (ci := 2) rfl tyX1 tyX1_ok nmX1 hH hS kl hk he 0 (by decide) (by decide +kernel) (fun _ h => h) rfl hnm rfl rfl rfl (show 0 < 4 by decide) dX1_init_6 (zk_se w kl (.inr (2, [.int n, .int 0, .long 0, .long 0]))) (zk_se_up _ _ _) (fun H locs hH_1 hS_2 => ?_) rfl
  refine lv_aload_n hx hb dX1_init_9 rfl (lv_at hl 0 rfl) ?_
  refine lv_sipush (v := 10000) hx hb dX1_init_10 (by decide) ?_
  refine zr_putA (ref := RX1) C hin (ci := 2) rfl tyX1 tyX1_ok nmX1 hH_1 hS_2 kl hk (zk_se_s _ _ _) 1 (by decide) (by decide +kernel) (fun _ h => h) rfl rfl rfl (show 1 < 4 by decide) dX1_init_13 (zk_se w kl (.inr (2, [.int n, .int 10000, .long 0, .long 0]))) (zk_se_up2 _ _ _ _) (fun H locs hH_3 hS_4 => ?_) rfl
  refine zr_vret C hr ?_ hH_3 hS_4 (Nat.le_of_ble_eq_true rfl) (Nat.le_of_ble_eq_true rfl) dX1_init_16
  rfl
def rmC_initX2 : Room := { frames := 1, cells := 0, slots := 0, locals := 32 }
set_option maxHeartbeats 600000 in
set_option maxRecDepth 100000 in
theorem cC_initX2 (l : Launch) (D : va_G) (cA : Nat → ClassId) (A : Nat → Prop) (g : Nat → Nat) (w : zk_W) (kl : zk_K) (hk : w.2.1 kl) (he : w.2.2 kl = .inr (3, [.null, .null, .long 0, .int 0])) (a b : Nat) : zM l yX2_init wsX2_init rmC_initX2 D (zt cA) A g [.ref (w.1 kl), .ref a, .ref b] (w) (zQv (fun w' => zk_se w kl (.inr (3, [.ref a, .ref b, .long 0, .int 0])) = w')) := by
  refine zM_of (cc := cX2_init) (maxL := 3) (ret := none) (own := RX2) (by decide +kernel) rfl (Nat.le_of_ble_eq_true rfl) rfl ?_
  intro p e s m below meth c C hr hnm H locs ls hH hS hl
  obtain ⟨⟨hx, hb, hml, hown, hts⟩, hG, hlk⟩ := id C
  have hin : ∀ w ∈ wsX20, w ∈ wsX2_init := by decide +kernel
  have hl : lv_has ls 3 [(0, .ref (w.1 kl)), (1, .ref a), (2, .ref b)] := hl
  refine lv_aload_n hx hb dX2_init_0 rfl (lv_at hl 0 rfl) ?_
  refine W.objInit hx hb hown (hts (.methodLink RX2 1 objectInit) (by decide +kernel)) (hts (.instanceMethod objectInit) (by decide +kernel)) (hts _ (by decide +kernel)) rfl (by rw [hml]; exact hl.1) rfl dX2_init_1 (Nat.le_of_ble_eq_true rfl) (Nat.le_of_ble_eq_true rfl) ?_
  refine W.eq (g2 := F0 m 4 ls []) rfl ?_
  refine lv_aload_n hx hb dX2_init_4 rfl (lv_at hl 0 rfl) ?_
  refine lv_aload_n hx hb dX2_init_5 rfl (lv_at hl 1 rfl) ?_
  refine zr_putFA (ref := RX2) C hin (ci := 3) rfl tyX2 tyX2_ok nmX2 hH hS kl hk he 0 (by decide) (by decide +kernel) (fun _ h => h) rfl hnm rfl rfl rfl (show 0 < 4 by decide) dX2_init_6 (zk_se w kl (.inr (3, [.ref a, .null, .long 0, .int 0]))) (zk_se_up _ _ _) (fun H locs hH_1 hS_2 => ?_) rfl
  refine lv_aload_n hx hb dX2_init_9 rfl (lv_at hl 0 rfl) ?_
  refine lv_aload_n hx hb dX2_init_10 rfl (lv_at hl 2 rfl) ?_
  refine zr_putFA (ref := RX2) C hin (ci := 3) rfl tyX2 tyX2_ok nmX2 hH_1 hS_2 kl hk (zk_se_s _ _ _) 1 (by decide) (by decide +kernel) (fun _ h => h) rfl hnm rfl rfl rfl (show 1 < 4 by decide) dX2_init_11 (zk_se w kl (.inr (3, [.ref a, .ref b, .long 0, .int 0]))) (zk_se_up2 _ _ _ _) (fun H locs hH_3 hS_4 => ?_) rfl
  refine zr_vret C hr ?_ hH_3 hS_4 (Nat.le_of_ble_eq_true rfl) (Nat.le_of_ble_eq_true rfl) dX2_init_14
  rfl
def rmC_initX3 : Room := { frames := 1, cells := 0, slots := 0, locals := 32 }
set_option maxHeartbeats 600000 in
set_option maxRecDepth 100000 in
theorem cC_initX3 (l : Launch) (D : va_G) (cA : Nat → ClassId) (A : Nat → Prop) (g : Nat → Nat) (w : zk_W) (kl : zk_K) (hk : w.2.1 kl) (he : w.2.2 kl = .inr (4, [.int 0, .null, .int 0, .long 0, .long 0, .long 0, .int 0, .long 0, .long 0])) (n : Int32) (h : Nat) (d : Int32) (q a x : Int64) : zM l yX3_init wsX3_init rmC_initX3 D (zt cA) A g [.ref (w.1 kl), .int n, .ref h, .int d, .long q, .long a, .long x] (w) (zQv (fun w' => zk_se w kl (.inr (4, [.int n, .ref h, .int d, .long q, .long a, .long x, .int 1, .long 0, .long 0])) = w')) := by
  refine zM_of (cc := cX3_init) (maxL := 10) (ret := none) (own := RX3) (by decide +kernel) rfl (Nat.le_of_ble_eq_true rfl) rfl ?_
  intro p e s m below meth c C hr hnm H locs ls hH hS hl
  obtain ⟨⟨hx, hb, hml, hown, hts⟩, hG, hlk⟩ := id C
  have hin : ∀ w ∈ wsX30, w ∈ wsX3_init := by decide +kernel
  have hl : lv_has ls 10 [(0, .ref (w.1 kl)), (1, .int n), (2, .ref h), (3, .int d), (4, .long q), (6, .long a), (8, .long x)] := hl
  refine lv_aload_n hx hb dX3_init_0 rfl (lv_at hl 0 rfl) ?_
  refine W.objInit hx hb hown (hts (.methodLink RX3 1 objectInit) (by decide +kernel)) (hts (.instanceMethod objectInit) (by decide +kernel)) (hts _ (by decide +kernel)) rfl (by rw [hml]; exact hl.1) rfl dX3_init_1 (Nat.le_of_ble_eq_true rfl) (Nat.le_of_ble_eq_true rfl) ?_
  refine W.eq (g2 := F0 m 4 ls []) rfl ?_
  refine lv_aload_n hx hb dX3_init_4 rfl (lv_at hl 0 rfl) ?_
  refine lv_iload_n hx hb dX3_init_5 rfl (lv_at hl 1 rfl) ?_
  refine zr_putFA (ref := RX3) C hin (ci := 4) rfl tyX3 tyX3_ok nmX3 hH hS kl hk he 0 (by decide) (by decide +kernel) (fun _ h => h) rfl hnm rfl rfl rfl (show 0 < 9 by decide) dX3_init_6 (zk_se w kl (.inr (4, [.int n, .null, .int 0, .long 0, .long 0, .long 0, .int 0, .long 0, .long 0]))) (zk_se_up _ _ _) (fun H locs hH_1 hS_2 => ?_) rfl
  refine lv_aload_n hx hb dX3_init_9 rfl (lv_at hl 0 rfl) ?_
  refine lv_aload_n hx hb dX3_init_10 rfl (lv_at hl 2 rfl) ?_
  refine zr_putFA (ref := RX3) C hin (ci := 4) rfl tyX3 tyX3_ok nmX3 hH_1 hS_2 kl hk (zk_se_s _ _ _) 1 (by decide) (by decide +kernel) (fun _ h => h) rfl hnm rfl rfl rfl (show 1 < 9 by decide) dX3_init_11 (zk_se w kl (.inr (4, [.int n, .ref h, .int 0, .long 0, .long 0, .long 0, .int 0, .long 0, .long 0]))) (zk_se_up2 _ _ _ _) (fun H locs hH_3 hS_4 => ?_) rfl
  refine lv_aload_n hx hb dX3_init_14 rfl (lv_at hl 0 rfl) ?_
  refine lv_iload_n hx hb dX3_init_15 rfl (lv_at hl 3 rfl) ?_
  refine zr_putFA (ref := RX3) C hin (ci := 4) rfl tyX3 tyX3_ok nmX3 hH_3 hS_4 kl hk (zk_se_s _ _ _) 2 (by decide) (by decide +kernel) (fun _ h => h) rfl hnm rfl rfl rfl (show 2 < 9 by decide) dX3_init_16 (zk_se w kl (.inr (4, [.int n, .ref h, .int d, .long 0, .long 0, .long 0, .int 0, .long 0, .long 0]))) (zk_se_up2 _ _ _ _) (fun H locs hH_5 hS_6 => ?_) rfl
  refine lv_aload_n hx hb dX3_init_19 rfl (lv_at hl 0 rfl) ?_
  refine lv_lload hx hb dX3_init_20 (lv_at hl 4 rfl) ?_
  refine zr_putFA (ref := RX3) C hin (ci := 4) rfl tyX3 tyX3_ok nmX3 hH_5 hS_6 kl hk (zk_se_s _ _ _) 3 (by decide) (by decide +kernel) (fun _ h => h) rfl hnm rfl rfl rfl (show 3 < 9 by decide) dX3_init_22 (zk_se w kl (.inr (4, [.int n, .ref h, .int d, .long q, .long 0, .long 0, .int 0, .long 0, .long 0]))) (zk_se_up2 _ _ _ _) (fun H locs hH_7 hS_8 => ?_) rfl
  refine lv_aload_n hx hb dX3_init_25 rfl (lv_at hl 0 rfl) ?_
  refine lv_lload hx hb dX3_init_26 (lv_at hl 5 rfl) ?_
  refine zr_putFA (ref := RX3) C hin (ci := 4) rfl tyX3 tyX3_ok nmX3 hH_7 hS_8 kl hk (zk_se_s _ _ _) 4 (by decide) (by decide +kernel) (fun _ h => h) rfl hnm rfl rfl rfl (show 4 < 9 by decide) dX3_init_28 (zk_se w kl (.inr (4, [.int n, .ref h, .int d, .long q, .long a, .long 0, .int 0, .long 0, .long 0]))) (zk_se_up2 _ _ _ _) (fun H locs hH_9 hS_10 => ?_) rfl
  refine lv_aload_n hx hb dX3_init_31 rfl (lv_at hl 0 rfl) ?_
  refine lv_lload hx hb dX3_init_32 (lv_at hl 6 rfl) ?_
  refine zr_putFA (ref := RX3) C hin (ci := 4) rfl tyX3 tyX3_ok nmX3 hH_9 hS_10 kl hk (zk_se_s _ _ _) 5 (by decide) (by decide +kernel) (fun _ h => h) rfl hnm rfl rfl rfl (show 5 < 9 by decide) dX3_init_34 (zk_se w kl (.inr (4, [.int n, .ref h, .int d, .long q, .long a, .long x, .int 0, .long 0, .long 0]))) (zk_se_up2 _ _ _ _) (fun H locs hH_11 hS_12 => ?_) rfl
  refine lv_aload_n hx hb dX3_init_37 rfl (lv_at hl 0 rfl) ?_
  refine lv_iconst (v := 1) hx hb dX3_init_38 (by decide) ?_
  refine zr_putA (ref := RX3) C hin (ci := 4) rfl tyX3 tyX3_ok nmX3 hH_11 hS_12 kl hk (zk_se_s _ _ _) 6 (by decide) (by decide +kernel) (fun _ h => h) rfl rfl rfl (show 6 < 9 by decide) dX3_init_39 (zk_se w kl (.inr (4, [.int n, .ref h, .int d, .long q, .long a, .long x, .int 1, .long 0, .long 0]))) (zk_se_up2 _ _ _ _) (fun H locs hH_13 hS_14 => ?_) rfl
  refine zr_vret C hr ?_ hH_13 hS_14 (Nat.le_of_ble_eq_true rfl) (Nat.le_of_ble_eq_true rfl) dX3_init_42
  rfl
