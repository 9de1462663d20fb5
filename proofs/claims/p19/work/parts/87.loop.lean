/-! ===== the law's loop ===== -/
set_option maxHeartbeats 2000000 in
set_option maxRecDepth 100000 in
theorem lw_loop {p : Program} {l : Launch} {e : Env} {s : State} {m : MethodId} {below : List Frame} {meth : Method} {c : Code} {D : va_G} {cA : Nat → ClassId} {g : Nat → Nat} {sb L0 c0 s0 : Nat} {xs : Nat → Int32} {ad : zk_K → Nat} (C : zC p l m c cL_law 33 s #[.ref sb] wsL_law RL D (zt cA) (fun q => s.heap.size ≤ q) g meth) (hr : meth.sig.returnType = ret) (hst : l.stackTraces = false) (hX : zScr sb L0 xs (fun q => s.heap.size ≤ q) s) (hL0 : L0 ≤ 260) (hc0 : c0 ≤ 500000) (hs0 : s0 ≤ 6000000) :
    ∀ (n k : Nat), k + n = 60 → ∀ (ac : zk_K → Nat) (nc nt dy : Nat) (mo : Int64) (I : zIA) (L : zLA) (Ia : zIA) (La : zLA) (H : Heap) (locs : List Loc) (ls : Array Slot), zk_H D (fun q => s.heap.size ≤ q) (zk_sum 50 (cw cA (g 0) ac 6 nc nc 6 nt dy mo I L) (aw cA ad Ia La)) H → va_S (fun q => s.heap.size ≤ q) s.heap H locs → zJ nc nt dy (12 * k) mo I L Ia La → (k = 0 ∨ 1 ≤ nc) → lv_has ls 33 [(0, .ref sb), (1, .ref (ac (0, 0, 0))), (2, .ref (ad (0, 0, 0))), (3, .ref (ad (1, 0, 0))), (4, .ref (ad (2, 0, 0))), (5, .ref (ad (3, 0, 0))), (6, .ref (ad (4, 0, 0))), (7, .ref (ad (5, 0, 0))), (8, .ref (ad (6, 0, 0))), (9, .ref (ad (7, 0, 0))), (10, .ref (ad (8, 0, 0))), (11, .ref (ad (9, 0, 0))), (12, .ref (ad (10, 0, 0))), (13, .int 1), (14, .int (nI k))] →
      W p l e room_1 s m #[.ref sb] below meth c H locs (c0 + 600 * k) (s0 + 5460 * k) (lw_Z below #[.ref sb] s) (F0 m 212 ls []) := by
  obtain ⟨⟨hx, hb, hml, hown, hts⟩, hG, hlk⟩ := id C
  intro n
  induction n with
  | zero =>
    intro k hk ac nc nt dy mo I L Ia La H locs ls hH hS hJ hk0 hl
    obtain rfl : k = 60 := by omega
    refine lv_iload hx hb dL_law_212 (lv_at hl 14 rfl) ?_
    refine lv_bipush (v := 60) hx hb dL_law_214 (by decide) ?_
    refine lv_icmp_ge (tgt := 2193) hx hb dL_law_216 (by decide) (fun _ => ?_) (fun c1 => absurd (show nI 60 ≤ nI 60 from Int32.le_refl _) c1)
    refine lv_iload hx hb dL_law_2193 (lv_at hl 13 rfl) ?_
    refine va_forget hS.2.2 (W.widen ?_ ?_ (lw_ret hx hb hr hlk dL_law_2195))
    · omega
    · omega
  | succ n ih =>
    intro k hk ac nc nt dy mo I L Ia La H locs ls hH hS hJ hk0 hl
    have hk60 : k < 60 := by omega
    refine lv_iload hx hb dL_law_212 (lv_at hl 14 rfl) ?_
    refine lv_bipush (v := 60) hx hb dL_law_214 (by decide) ?_
    refine lv_icmp_ge (tgt := 2193) hx hb dL_law_216 (by decide) (fun c1 => absurd c1 (nI_ge hk60 (by decide))) (fun _ => ?_)
    refine lv_iload hx hb dL_law_219 (lv_at hl 13 rfl) ?_
    refine lv_if_eq (tgt := 2193) hx hb dL_law_221 (by decide) (fun c1 => absurd c1 (by decide)) (fun _ => ?_)
    refine lw_step C hst hX hL0 hJ (by omega) hk60 (by omega) (by omega) hH hS hk0 hl ?_
    intro one two h1 h2 ac1 nc1 nt1 dy1 mo1 I1 L1 Ia1 La1 H1 locs1 ls1 hH1 hS1 hJ1 hn1 ha1 hl1
    rw [← ha1] at hl1
    refine lw_so C hst hJ1 h1 h2 hn1 (by omega) (by omega) hH1 hS1 hl1 ?_
    intro La2 H2 locs2 ls2 hH2 hS2 hJ2 hl2
    have e1 : c0 + 600 * k + 30 + 570 = c0 + 600 * (k + 1) := by omega
    have e2 : s0 + 5460 * k + 2200 + 3260 = s0 + 5460 * (k + 1) := by omega
    have e3 : 12 * k + 12 = 12 * (k + 1) := by omega
    rw [e1, e2]
    rw [e3] at hJ2
    exact ih (k + 1) (by omega) ac1 nc1 nt1 dy1 mo1 I1 L1 Ia1 La2 H2 locs2 ls2 hH2 hS2 hJ2 (Or.inr hn1) hl2
