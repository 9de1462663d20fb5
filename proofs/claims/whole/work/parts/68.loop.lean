/-! ===== the law's loop ===== -/
theorem and15 (x : Int32) : ∃ v, v < 16 ∧ x &&& 15 = nI v := by
  refine ⟨(x &&& 15).toBitVec.toNat, ?_, ?_⟩
  · rw [Int32.toBitVec_and, BitVec.toNat_and]
    exact Nat.lt_of_le_of_lt Nat.and_le_right (by decide)
  · apply Int32.toBitVec_inj.mp
    show _ = BitVec.ofNat 32 _
    rw [BitVec.ofNat_toNat, BitVec.setWidth_eq]
theorem i32_lt {a b : Int32} : a < b ↔ a.toInt < b.toInt := Int32.lt_iff_toInt_lt
theorem nI_ti {n : Nat} (h : n < 2 ^ 31) : (nI n).toInt = (n : Int) := nI_toInt h
theorem len_gt {L a : Nat} (hL : L ≤ 2560) (ha : a ≤ 2560) : nI L - 5 < nI a ↔ L < a + 5 := by
  have e5 : (5 : Int32).toInt = 5 := rfl
  have e : (nI L - 5).toInt = (L : Int) - 5 := by
    rw [Int32.toInt_sub, nI_ti (by omega), e5]
    exact Int.bmod_eq_of_le (by omega) (by omega)
  rw [i32_lt, e, nI_ti (by omega)]
  omega
set_option maxHeartbeats 2000000 in
set_option maxRecDepth 100000 in
theorem lw_loop {p : Program} {l : Launch} {e : Env} {s : State} {m : MethodId} {below : List Frame} {meth : Method} {c : Code} {D : va_G} {cA : Nat → ClassId} {g : Nat → Nat} {sb L0 o : Nat} {xs : Nat → Int32} {adm : zk_K → Nat} (C : zC p l m c cL_law 8 s #[.ref sb] wsL_law RL D (zt cA) (fun q => s.heap.size ≤ q) g meth) (hr : meth.sig.returnType = ret) (hst : l.stackTraces = false) (hX : va_X sb L0 xs s s.heap) (hbl : sb < s.heap.size) (hL0 : L0 ≤ 2560) :
    ∀ (n k : Nat), k + n = L0 / 5 → ∀ (ad : zk_K → Nat) (nc nt dy nl : Nat) (th : Int32) (mo : Int64) (I : zIA) (L : zLA) (h : Nat → Int64) (H : Heap) (locs : List Loc) (ls : Array Slot), zk_H D (fun q => s.heap.size ≤ q) (lwW cA (g 0) ad adm o nc nt dy nl th mo I L h) H → va_S (fun q => s.heap.size ≤ q) s.heap H locs → zInv nc nt dy (12 * k) I L → lv_has ls 8 [(0, .ref sb), (1, .ref (ad (0, 0, 0))), (2, .ref (adm (0, 0, 0))), (3, .ref o), (4, .int (nI (5 * k)))] →
      W p l e room_1 s m #[.ref sb] below meth c H locs (37 + 30 * k) (2710 + 2200 * k) (lw_Z below #[.ref sb] s) (F0 m 23 ls []) := by
  have hbA : ¬ (fun q => s.heap.size ≤ q) sb := Nat.not_le.mpr hbl
  obtain ⟨⟨hx, hb, hml, hown, hts⟩, hG, hlk⟩ := id C
  intro n
  induction n with
  | zero =>
    intro k hk ad nc nt dy nl th mo I L h H locs ls hH hS hI hl
    refine lv_iload hx hb dL_law_23 (lv_at hl 4 rfl) ?_
    refine lv_aload_n hx hb dL_law_25 rfl (lv_at hl 0 rfl) ?_
    refine va_slen hx hb hX hbl hbA hS dL_law_26 ?_
    refine lv_iconst (v := 5) hx hb dL_law_27 (by decide) ?_
    refine lv_isub hx hb dL_law_28 ?_
    refine lv_icmp_gt (tgt := 1177) hx hb dL_law_29 (by decide) (fun c1 => ?_) (fun c1 => absurd ((len_gt hL0 (by omega)).mpr (by omega)) c1)
    refine lv_iconst (v := 1) hx hb dL_law_1177 (by decide) ?_
    refine va_forget hS.2.2 (W.widen ?_ ?_ (lw_ret hx hb hr hlk dL_law_1178))
    · omega
    · omega
  | succ n ih =>
    intro k hk ad nc nt dy nl th mo I L h H locs ls hH hS hI hl
    have hi : 5 * k + 5 ≤ L0 := by omega
    have hk5 : k ≤ 511 := by omega
    refine lv_iload hx hb dL_law_23 (lv_at hl 4 rfl) ?_
    refine lv_aload_n hx hb dL_law_25 rfl (lv_at hl 0 rfl) ?_
    refine va_slen hx hb hX hbl hbA hS dL_law_26 ?_
    refine lv_iconst (v := 5) hx hb dL_law_27 (by decide) ?_
    refine lv_isub hx hb dL_law_28 ?_
    refine lv_icmp_gt (tgt := 1177) hx hb dL_law_29 (by decide) (fun c1 => absurd ((len_gt hL0 (by omega)).mp c1) (by omega)) (fun _ => ?_)
    refine lv_aload_n hx hb dL_law_32 rfl (lv_at hl 0 rfl) ?_
    refine lv_iload hx hb dL_law_33 (lv_at hl 4 rfl) ?_
    refine va_sld hx hb hX hbl hbA hS (vp_in_nI (by omega) (by omega)) dL_law_35 ?_
    refine lv_bipush (v := 15) hx hb dL_law_36 (by decide) ?_
    refine lv_iand hx hb dL_law_38 ?_
    obtain ⟨v, hv, he⟩ := and15 (xs (nI (5 * k)).toNatClampNeg)
    rw [he]
    have K : lwK p l e s m below meth c D cA (fun q => s.heap.size ≤ q) g sb (5 * k) o (12 * k + 12) adm (37 + 30 * k + 30) (2710 + 2200 * k + 2200) (lw_Z below #[.ref sb] s) := by
      intro ad nc nt dy nl th mo I L h H locs ls hH hS hI hl
      refine lv_iinc (v := nI (5 * (k + 1))) (lv' := [(4, .int (nI (5 * (k + 1)))), (0, .ref sb), (1, .ref (ad (0, 0, 0))), (2, .ref (adm (0, 0, 0))), (3, .ref o)]) hx hb dL_law_1171 hl (k := 4) rfl (nI_add (5 * k) 5) (by decide) rfl (fun ls hl2 => ?_)
      refine lv_goto (tgt := 23) hx hb dL_law_1174 (by decide) ?_
      have e1 : 37 + 30 * k + 30 = 37 + 30 * (k + 1) := by omega
      have e2 : 2710 + 2200 * k + 2200 = 2710 + 2200 * (k + 1) := by omega
      have e3 : 12 * k + 12 = 12 * (k + 1) := by omega
      rw [e1, e2]
      rw [e3] at hI
      exact ih (k + 1) (by omega) ad nc nt dy nl th mo I L h H locs ls hH hS hI (lv_sub hl2 [1, 2, 3, 4, 0] rfl)
    match v, hv with
    | 0, _ => exact lv_tableIn (x := nI 0) (off := 77) (tgt := 116) hx hb dL_law_39 (by decide) (by decide) rfl (by decide) (lw_price C hst hX hbl hbA hi hL0 hI (by omega) hH hS hl (by omega) (by omega) K)
    | 1, _ => exact lv_tableIn (x := nI 1) (off := 145) (tgt := 184) hx hb dL_law_39 (by decide) (by decide) rfl (by decide) (lw_client C hst hX hbl hbA hi hL0 hI (by omega) hH hS hl (by omega) (by omega) K)
    | 2, _ => exact lv_tableIn (x := nI 2) (off := 189) (tgt := 228) hx hb dL_law_39 (by decide) (by decide) rfl (by decide) (lw_pay C hst hX hbl hbA hi hL0 hI (by omega) hH hS hl (by omega) (by omega) K)
    | 3, _ => exact lv_tableIn (x := nI 3) (off := 256) (tgt := 295) hx hb dL_law_39 (by decide) (by decide) rfl (by decide) (lw_goal C hst hX hbl hbA hi hL0 hI (by omega) hH hS hl (by omega) (by omega) K)
    | 4, _ => exact lv_tableIn (x := nI 4) (off := 336) (tgt := 375) hx hb dL_law_39 (by decide) (by decide) rfl (by decide) (lw_buy C hst hX hbl hbA hi hL0 hI (by omega) hH hS hl (by omega) (by omega) K)
    | 5, _ => exact lv_tableIn (x := nI 5) (off := 416) (tgt := 455) hx hb dL_law_39 (by decide) (by decide) rfl (by decide) (lw_sell C hst hX hbl hbA hi hL0 hI (by omega) hH hS hl (by omega) (by omega) K)
    | 6, _ => exact lv_tableIn (x := nI 6) (off := 496) (tgt := 535) hx hb dL_law_39 (by decide) (by decide) rfl (by decide) (lw_balance C hst hX hbl hbA hi hL0 hI (by omega) hH hS hl (by omega) (by omega) K)
    | 7, _ => exact lv_tableIn (x := nI 7) (off := 552) (tgt := 591) hx hb dL_law_39 (by decide) (by decide) rfl (by decide) (lw_complain C hst hX hbl hbA hi hL0 hI (by omega) hH hS hl (by omega) (by omega) K)
    | 8, _ => exact lv_tableIn (x := nI 8) (off := 607) (tgt := 646) hx hb dL_law_39 (by decide) (by decide) rfl (by decide) (lw_pass C hst hX hbl hbA hi hL0 hI (by omega) hH hS hl (by omega) (by omega) K)
    | 9, _ => exact lv_tableIn (x := nI 9) (off := 663) (tgt := 702) hx hb dL_law_39 (by decide) (by decide) rfl (by decide) (lw_cash C hst hX hbl hbA hi hL0 hI (by omega) hH hS hl (by omega) (by omega) K)
    | 10, _ => exact lv_tableIn (x := nI 10) (off := 718) (tgt := 757) hx hb dL_law_39 (by decide) (by decide) rfl (by decide) (lw_parts C hst hX hbl hbA hi hL0 hI (by omega) hH hS hl (by omega) (by omega) K)
    | 11, _ => exact lv_tableIn (x := nI 11) (off := 785) (tgt := 824) hx hb dL_law_39 (by decide) (by decide) rfl (by decide) (lw_units C hst hX hbl hbA hi hL0 hI (by omega) hH hS hl (by omega) (by omega) K)
    | 12, _ => exact lv_tableIn (x := nI 12) (off := 840) (tgt := 879) hx hb dL_law_39 (by decide) (by decide) rfl (by decide) (lw_tradeOf C hst hX hbl hbA hi hL0 hI (by omega) hH hS hl (by omega) (by omega) K)
    | 13, _ => exact lv_tableIn (x := nI 13) (off := 907) (tgt := 946) hx hb dL_law_39 (by decide) (by decide) rfl (by decide) (lw_lot C hst hX hbl hbA hi hL0 hI (by omega) hH hS hl (by omega) (by omega) K)
    | 14, _ => exact lv_tableIn (x := nI 14) (off := 998) (tgt := 1037) hx hb dL_law_39 (by decide) (by decide) rfl (by decide) (lw_year C hst hX hbl hbA hi hL0 hI (by omega) hH hS hl (by omega) (by omega) K)
    | 15, _ => exact lv_tableIn (x := nI 15) (off := 1077) (tgt := 1116) hx hb dL_law_39 (by decide) (by decide) rfl (by decide) (lw_wealth C hst hX hbl hbA hi hL0 hI (by omega) hH hS hl (by omega) (by omega) K)
    | v + 16, hv => exact absurd hv (by omega)
/-! ===== from the entry ===== -/
def wEmp : zk_W := (fun _ => 0, fun _ => False, fun _ => .inr (0, []))
theorem hall_nw {q : Nat} : zk_nw wEmp (0, 0, 0) q (.inr (5, [.null, .null, .null, .long 0, .int 0])) (hallW (fun _ => q)) := ⟨rfl, rfl, fun k hk hl => absurd (show k = (0, 0, 0) from hl) hk⟩
theorem sumL {n : Nat} {w1 w2 : zk_W} {k : zk_K} (h : k.1 < n) : ((zk_sum n w1 w2).2.1 k ↔ w1.2.1 k) ∧ (zk_sum n w1 w2).1 k = w1.1 k ∧ (zk_sum n w1 w2).2.2 k = w1.2.2 k := by
  refine ⟨?_, if_pos h, if_pos h⟩
  show (if k.1 < n then w1.2.1 k else _) ↔ _
  rw [if_pos h]
theorem sumR {n : Nat} {w1 w2 : zk_W} {k : zk_K} (h : ¬ k.1 < n) : ((zk_sum n w1 w2).2.1 k ↔ w2.2.1 (k.1 - n, k.2)) ∧ (zk_sum n w1 w2).1 k = w2.1 (k.1 - n, k.2) ∧ (zk_sum n w1 w2).2.2 k = w2.2.2 (k.1 - n, k.2) := by
  refine ⟨?_, if_neg h, if_neg h⟩
  show (if k.1 < n then _ else w2.2.1 (k.1 - n, k.2)) ↔ _
  rw [if_neg h]
/-- the reference's object is made -/
theorem model_nw {w : zk_W} {cA : Nat → ClassId} {q : Nat} : zk_nw w (100, 0, 0) q (.inr (6, mpRow (fun _ => q) 0)) (zk_sum 100 w (mp cA (fun _ => q) 0)) := by
  refine ⟨rfl, rfl, fun k hk hl => ?_⟩
  by_cases z : k.1 < 100
  · obtain ⟨a, b, c⟩ := sumL (w1 := w) (w2 := mp cA (fun _ => q) 0) z
    exact ⟨a.mp hl, b, c⟩
  · obtain ⟨a, -, -⟩ := sumR (w1 := w) (w2 := mp cA (fun _ => q) 0) z
    obtain ⟨h1, h2 | ⟨-, h2⟩⟩ := a.mp hl
    · have e1 : k.1 - 100 = 0 := h2
      have e2 : k.2 = (0, 0) := h1
      exact absurd (Prod.ext (show k.1 = 100 by omega) e2) hk
    · exact absurd h2 (Nat.not_lt_zero _)
/-- the array of answers is made -/
theorem out_nw {w wm : zk_W} {cA : Nat → ClassId} {o : Nat} {h : Nat → Int64} (hw : ∀ k, w.2.1 k → k.1 < 50) : zk_nw (zk_sum 100 w wm) (50, 0, 0) o (.inl (cA 1, 1, .inr (.inl h))) (zk_sum 100 (zk_sum 50 w (outW cA o h)) wm) := by
  refine ⟨rfl, rfl, fun k hk hl => ?_⟩
  by_cases z : k.1 < 100
  · obtain ⟨a, b, c⟩ := sumL (w1 := zk_sum 50 w (outW cA o h)) (w2 := wm) z
    obtain ⟨a', b', c'⟩ := sumL (w1 := w) (w2 := wm) z
    by_cases z2 : k.1 < 50
    · obtain ⟨d, e, f⟩ := sumL (w1 := w) (w2 := outW cA o h) z2
      exact ⟨a'.mpr (d.mp (a.mp hl)), (b.trans e).trans b'.symm, (c.trans f).trans c'.symm⟩
    · obtain ⟨d, -, -⟩ := sumR (w1 := w) (w2 := outW cA o h) z2
      have h3 : ((k.1 - 50, k.2) : zk_K) = (0, 0, 0) := d.mp (a.mp hl)
      have e1 : k.1 - 50 = 0 := congrArg Prod.fst h3
      have e2 : k.2 = (0, 0) := congrArg Prod.snd h3
      exact absurd (Prod.ext (show k.1 = 50 by omega) e2) hk
  · obtain ⟨a, b, c⟩ := sumR (w1 := zk_sum 50 w (outW cA o h)) (w2 := wm) z
    obtain ⟨a', b', c'⟩ := sumR (w1 := w) (w2 := wm) z
    exact ⟨a'.mpr (a.mp hl), b.trans b'.symm, c.trans c'.symm⟩
theorem emp_H {D : va_G} {A : Nat → Prop} {H : Heap} : zk_H D A wEmp H := ⟨[], fun k q hk => (by cases hk), va_D_nil, fun k hk => hk.elim, fun k k' hk => hk.elim⟩
