/-! ===== the class's world: what lives, lists, arrays ===== -/
def xI : String := "java/lang/IndexOutOfBoundsException"
def xA : String := "java/lang/IllegalArgumentException"
def xS : String := "java/lang/IllegalStateException"
theorem nh6 {lc b : Nat} : nh lc 6 b = 6 := by
  unfold nh
  split <;> rfl
theorem capL_le {n : Nat} (h : n ≤ 163) : n ≤ capL n := by
  unfold capL
  repeat' split
  all_goals omega
theorem capL_m {n : Nat} : capL n ≤ 163 := by
  unfold capL
  repeat' split
  all_goals omega
theorem capL_10 {n : Nat} (h : 0 < n) : 10 ≤ capL n := by
  unfold capL
  repeat' split
  all_goals omega
theorem zIn_b {x : Int32} {n : Nat} (h0 : ¬ x < 0) (h1 : ¬ nI n ≤ x) : zIn x n := by
  obtain ⟨j, hj, rfl⟩ := nI_of h0
  refine ⟨j, Nat.lt_of_not_le (fun z => h1 (nI_le z hj)), rfl⟩
theorem zIn_o1 {x : Int32} {n : Nat} (hn : n < 2 ^ 31) (h0 : x < 0) : ¬ zIn x n := by
  rintro ⟨j, hj, rfl⟩
  exact absurd h0 (nI_pos (by omega))
theorem zIn_o2 {x : Int32} {n : Nat} (hn : n < 2 ^ 31) (h0 : nI n ≤ x) : ¬ zIn x n := by
  rintro ⟨j, hj, rfl⟩
  exact absurd h0 (nI_ge hj hn)
section CL
variable {cA : Nat → ClassId} {g0 : Nat} {ad : zk_K → Nat} {nf lc nc nt dy : Nat} {mo : Int64} {I : zIA} {L : zLA}
theorem cl_7 {f : Nat} (h : f < nf) : (cw cA g0 ad nf lc nc 6 nt dy mo I L).2.1 (7, f, 0) := ⟨h, rfl⟩
theorem cl_8 {c : Nat} (h : c < lc) : (cw cA g0 ad nf lc nc 6 nt dy mo I L).2.1 (8, c, 0) := ⟨h, rfl⟩
theorem cl_9 {c : Nat} (h : c < lc) : (cw cA g0 ad nf lc nc 6 nt dy mo I L).2.1 (9, c, 0) := ⟨h, rfl⟩
theorem cl_11 {c : Nat} (h : c < lc) : (cw cA g0 ad nf lc nc 6 nt dy mo I L).2.1 (11, c, 0) := ⟨h, rfl⟩
theorem cl_12 {c : Nat} (h : c < lc) : (cw cA g0 ad nf lc nc 6 nt dy mo I L).2.1 (12, c, 0) := ⟨h, rfl⟩
theorem cl_10 {c : Nat} (h : c < lc) : (cw cA g0 ad nf lc nc 6 nt dy mo I L).2.1 (10, c, 0) := ⟨h, rfl, by rw [nh6]; decide⟩
theorem cl_13 {c f : Nat} (h : c < lc) (hf : f < 6) : (cw cA g0 ad nf lc nc 6 nt dy mo I L).2.1 (13, c, f) := ⟨h, by rw [nh6]; exact hf⟩
theorem cl_14 {t : Nat} (h : t < nt) : (cw cA g0 ad nf lc nc 6 nt dy mo I L).2.1 (14, t, 0) := ⟨h, rfl⟩
theorem cl_4 (h : 0 < nf) : (cw cA g0 ad nf lc nc 6 nt dy mo I L).2.1 (4, 0, 0) := ⟨rfl, h⟩
theorem cl_5 (h : 0 < nc) : (cw cA g0 ad nf lc nc 6 nt dy mo I L).2.1 (5, 0, 0) := ⟨rfl, h⟩
theorem cl_6 (h : 0 < nt) : (cw cA g0 ad nf lc nc 6 nt dy mo I L).2.1 (6, 0, 0) := ⟨rfl, h⟩
theorem cl_e9 {c : Nat} : (cw cA g0 ad nf lc nc 6 nt dy mo I L).2.2 (9, c, 0) = cList ad g0 6 (10, c, 0) := by
  show cList ad g0 (nh lc 6 c) (10, c, 0) = _
  rw [nh6]
theorem cl_e10 {c : Nat} : (cw cA g0 ad nf lc nc 6 nt dy mo I L).2.2 (10, c, 0) = cRow cA ad (fun j => (13, c, j)) 6 := by
  show cRow cA ad (fun j => (13, c, j)) (nh lc 6 c) = _
  rw [nh6]
end CL
theorem cC_get (l : Launch) (D : va_G) (cA : Nat → ClassId) (A : Nat → Prop) (g : Nat → Nat) (w : zk_W) (kl ka : zk_K) (kf : Nat → zk_K) (n i : Nat) {g0 : Nat} (hk : w.2.1 kl) (he : w.2.2 kl = cList w.1 g0 n ka) (hka : w.2.1 ka) (hea : w.2.2 ka = cRow cA w.1 kf n) (hi : i < n) (hn : n ≤ 163) :
    zM l yJx4a65c_get_915e3 wsJx4a65c_get_915e3 rmJ_get D (zt cA) A g [.ref (w.1 kl), .int (nI i)] w (zQr (fun r w' => w.1 (kf i) = r ∧ w = w')) :=
  cJ_get l D cA A g w kl hk ka hka hea (by rw [he, cList, if_neg (by omega)]) i hi (capL_le hn) (Nat.lt_of_le_of_lt capL_m (by decide)) (w.1 (kf i)) (if_pos hi)
theorem cC_size (l : Launch) (D : va_G) (cA : Nat → ClassId) (A : Nat → Prop) (g : Nat → Nat) (w : zk_W) (kl ka : zk_K) (n : Nat) {g0 : Nat} (hk : w.2.1 kl) (he : w.2.2 kl = cList w.1 g0 n ka) :
    zM l yJx4a65c_size_8abf5 wsJx4a65c_size_8abf5 rmJ_size D (zt cA) A g [.ref (w.1 kl)] w (zQi (fun r w' => nI n = r ∧ w = w')) := cJ_size l D cA A g w kl hk he
section CY
variable {p : Program} {l : Launch} {e : Env} {R : Room} {s : State} {m : MethodId} {args : Array Value} {below : List Frame} {meth : Method} {c : Code} {H : Heap} {locs : List Loc} {cells slots : Nat} {Q : State → Prop}
variable {cc : ByteArray} {pc nL index : Nat} {ls : Array Slot} {rest st0 : List Value} {D : va_G} {cA : Nat → ClassId} {A : Nat → Prop} {g : Nat → Nat} {Ts : List Cond} {own : String} {H0 : Heap}
variable {g0 : Nat} {ad : zk_K → Nat} {nf lc nc nt dy : Nat} {mo : Int64} {I : zIA} {L : zLA}
theorem zc_gld (C : zC p l m c cc nL s args Ts own D (zt cA) A g meth) (hH : zk_H D A (cw cA g0 ad nf lc nc 6 nt dy mo I L) H) {k : Nat} (hc : k < lc) {i : Int32} {j : Nat} (hi : i = nI j) (hj : j < 21) {a : Nat} (ha : ad (11, k, 0) = a) (hdg : decode cc pc = .ok (.laload, 1))
    (kk : W p l e R s m args below meth c H locs cells slots Q (F0 m (pc + 1) ls (.long (L 30 (21 * k + j)) :: rest))) : W p l e R s m args below meth c H locs cells slots Q (F0 m pc ls (.int i :: .ref a :: rest)) := by
  subst ha
  refine zr_lald C hH (11, k, 0) (cl_11 hc) (f := fun y => if y < 21 then L 30 (21 * k + y) else 0) rfl 1 rfl hi hj (by decide) hdg ?_
  rw [if_pos hj]
  exact kk
theorem zc_tld (C : zC p l m c cc nL s args Ts own D (zt cA) A g meth) (hH : zk_H D A (cw cA g0 ad nf lc nc 6 nt dy mo I L) H) {k : Nat} (hc : k < lc) {i : Int32} {j : Nat} (hi : i = nI j) (hj : j < 21) {a : Nat} (ha : ad (12, k, 0) = a) (hdg : decode cc pc = .ok (.laload, 1))
    (kk : W p l e R s m args below meth c H locs cells slots Q (F0 m (pc + 1) ls (.long (L 9 (21 * k + j)) :: rest))) : W p l e R s m args below meth c H locs cells slots Q (F0 m pc ls (.int i :: .ref a :: rest)) := by
  subst ha
  refine zr_lald C hH (12, k, 0) (cl_12 hc) (f := fun y => if y < 21 then L 9 (21 * k + y) else 0) rfl 1 rfl hi hj (by decide) hdg ?_
  rw [if_pos hj]
  exact kk
theorem zc_gst (C : zC p l m c cc nL s args Ts own D (zt cA) A g meth) (hH : zk_H D A (cw cA g0 ad nf lc nc 6 nt dy mo I L) H) (hS : va_S A H0 H locs) {k : Nat} (hc : k < lc) {i : Int32} {x : Int64} {j : Nat} (hi : i = nI j) (hj : j < 21) {a : Nat} (ha : ad (11, k, 0) = a) (hdg : decode cc pc = .ok (.lastore, 1))
    (kk : ∀ (H1 : Heap) (locs1 : List Loc), zk_H D A (cw cA g0 ad nf lc nc 6 nt dy mo I (up2 L 30 (21 * k + j) x)) H1 → va_S A H0 H1 locs1 → W p l e R s m args below meth c H1 locs1 cells slots Q (F0 m (pc + 1) ls rest)) : W p l e R s m args below meth c H locs cells slots Q (F0 m pc ls (.long x :: .int i :: .ref a :: rest)) := by
  subst ha
  exact zr_last C hH hS (11, k, 0) (cl_11 hc) (f := fun y => if y < 21 then L 30 (21 * k + y) else 0) rfl 1 rfl hi hj (by decide) hdg _ (cu_gain k j x hj) kk
theorem zc_tst (C : zC p l m c cc nL s args Ts own D (zt cA) A g meth) (hH : zk_H D A (cw cA g0 ad nf lc nc 6 nt dy mo I L) H) (hS : va_S A H0 H locs) {k : Nat} (hc : k < lc) {i : Int32} {x : Int64} {j : Nat} (hi : i = nI j) (hj : j < 21) {a : Nat} (ha : ad (12, k, 0) = a) (hdg : decode cc pc = .ok (.lastore, 1))
    (kk : ∀ (H1 : Heap) (locs1 : List Loc), zk_H D A (cw cA g0 ad nf lc nc 6 nt dy mo I (up2 L 9 (21 * k + j) x)) H1 → va_S A H0 H1 locs1 → W p l e R s m args below meth c H1 locs1 cells slots Q (F0 m (pc + 1) ls rest)) : W p l e R s m args below meth c H locs cells slots Q (F0 m pc ls (.long x :: .int i :: .ref a :: rest)) := by
  subst ha
  exact zr_last C hH hS (12, k, 0) (cl_12 hc) (f := fun y => if y < 21 then L 9 (21 * k + y) else 0) rfl 1 rfl hi hj (by decide) hdg _ (cu_tax k j x hj) kk
theorem zc_yln (C : zC p l m c cc nL s args Ts own D (zt cA) A g meth) (hH : zk_H D A (cw cA g0 ad nf lc nc 6 nt dy mo I L) H) {k b : Nat} (hb : b = 11 ∨ b = 12) (hc : k < lc) {a : Nat} (ha : ad (b, k, 0) = a) (hdg : decode cc pc = .ok (.arraylength, 1))
    (kk : W p l e R s m args below meth c H locs cells slots Q (F0 m (pc + 1) ls (.int (nI 21) :: rest))) : W p l e R s m args below meth c H locs cells slots Q (F0 m pc ls (.ref a :: rest)) := by
  subst ha
  rcases hb with rfl | rfl
  · exact zr_alen C hH (11, k, 0) (cl_11 hc) (x := (21, .inr (.inl (fun y => if y < 21 then L 30 (21 * k + y) else 0)))) rfl 1 rfl hdg kk
  · exact zr_alen C hH (12, k, 0) (cl_12 hc) (x := (21, .inr (.inl (fun y => if y < 21 then L 9 (21 * k + y) else 0)))) rfl 1 rfl hdg kk
end CY
