/-! ===== the law's arrays as a world: p v o g t m a x q e n ===== -/
/-- the kind of a row of the law's: 0 ints, 1 longs; and its length -/
def aK : Nat → Nat
  | 1 => 1 | 2 => 1 | 5 => 1 | 6 => 1 | 7 => 1 | 8 => 1 | 9 => 1 | _ => 0
def aN : Nat → Nat
  | 0 => 6 | 1 => 16 | 2 => 18 | 3 => 18 | 4 => 30 | 5 => 30 | 6 => 30 | 7 => 63 | 8 => 60 | 9 => 64 | 10 => 3 | _ => 0
def aEnt (cA : Nat → ClassId) (I : zIA) (L : zLA) : zk_K → va_E := fun k => if aK k.1 = 1 then .inl (cA 1, aN k.1, .inr (.inl (L k.1))) else .inl (cA 0, aN k.1, .inl (I k.1))
/-- the first n arrays -/
def awp (cA : Nat → ClassId) (ad : zk_K → Nat) (n : Nat) (I : zIA) (L : zLA) : zk_W := (ad, fun k => k.2 = (0, 0) ∧ k.1 < n, aEnt cA I L)
abbrev aw (cA : Nat → ClassId) (ad : zk_K → Nat) (I : zIA) (L : zLA) : zk_W := awp cA ad 11 I L
theorem aN_lt : ∀ a, aN a < 2 ^ 31 := by
  intro a
  unfold aN
  split <;> decide
section AW
variable {cA : Nat → ClassId} {ad : zk_K → Nat} {I : zIA} {L : zLA} {n : Nat}
theorem ae_I {a : Nat} (h : aK a = 0) : aEnt cA I L (a, 0, 0) = .inl (cA 0, aN a, .inl (I a)) := if_neg (by show ¬ aK a = 1; omega)
theorem ae_L {a : Nat} (h : aK a = 1) : aEnt cA I L (a, 0, 0) = .inl (cA 1, aN a, .inr (.inl (L a))) := if_pos h
theorem au_I {a j : Nat} {x : Int32} (h : aK a = 0) : zk_up (awp cA ad n I L) (a, 0, 0) (.inl (cA 0, aN a, .inl (upd (I a) j x))) (awp cA ad n (up2 I a j x) L) := by
  refine ⟨rfl, rfl, ?_, fun k hk hl => ?_⟩
  · show aEnt _ _ _ (a, 0, 0) = _
    rw [ae_I h, up2_I]
  · have hne : k.1 ≠ a := fun z => hk (Prod.ext z hl.1)
    show aEnt _ _ _ k = aEnt _ _ _ k
    unfold aEnt
    rw [up2_a hne]
theorem au_L {a j : Nat} {x : Int64} (h : aK a = 1) : zk_up (awp cA ad n I L) (a, 0, 0) (.inl (cA 1, aN a, .inr (.inl (vp_updL (L a) j x)))) (awp cA ad n I (up2 L a j x)) := by
  refine ⟨rfl, rfl, ?_, fun k hk hl => ?_⟩
  · show aEnt _ _ _ (a, 0, 0) = _
    rw [ae_L h, up2_L]
  · have hne : k.1 ≠ a := fun z => hk (Prod.ext z hl.1)
    show aEnt _ _ _ k = aEnt _ _ _ k
    unfold aEnt
    rw [up2_a hne]
theorem sum_upR {w1 w2 w2' : zk_W} {k : zk_K} {e : va_E} {z : Nat} (h : zk_up w2 k e w2') : zk_up (zk_sum z w1 w2) (z + k.1, k.2) e (zk_sum z w1 w2') := by
  obtain ⟨h1, h2, h3, h4⟩ := h
  have hz : ¬ z + k.1 < z := by omega
  have hk : ((z + k.1 - z, k.2) : zk_K) = k := by rw [Nat.add_sub_cancel_left]
  refine ⟨?_, ?_, ?_, fun k' hk' hl => ?_⟩
  · funext q
    show (if q.1 < z then w1.1 q else w2'.1 (q.1 - z, q.2)) = (if q.1 < z then w1.1 q else w2.1 (q.1 - z, q.2))
    rw [h1]
  · funext q
    show (if q.1 < z then w1.2.1 q else w2'.2.1 (q.1 - z, q.2)) = (if q.1 < z then w1.2.1 q else w2.2.1 (q.1 - z, q.2))
    rw [h2]
  · show (if z + k.1 < z then _ else w2'.2.2 (z + k.1 - z, k.2)) = _
    rw [if_neg hz, hk, h3]
  · show (if k'.1 < z then w1.2.2 k' else w2'.2.2 (k'.1 - z, k'.2)) = (if k'.1 < z then w1.2.2 k' else w2.2.2 (k'.1 - z, k'.2))
    by_cases hq : k'.1 < z
    · rw [if_pos hq, if_pos hq]
    · rw [if_neg hq, if_neg hq]
      have hl2 : (if k'.1 < z then w1.2.1 k' else w2.2.1 (k'.1 - z, k'.2)) := hl
      rw [if_neg hq] at hl2
      refine h4 _ (fun e => hk' ?_) hl2
      have e1 : k'.1 - z = k.1 := by rw [← e]
      have e2 : k'.2 = k.2 := by rw [← e]
      exact Prod.ext (show k'.1 = z + k.1 by omega) e2
end AW
/-- a script that no cell of the world is -/
def zScr (sb L0 : Nat) (xs : Nat → Int32) (A : Nat → Prop) (U : State) : Prop := va_X sb L0 xs U U.heap ∧ sb < U.heap.size ∧ ¬ A sb
section AR
variable {p : Program} {l : Launch} {e : Env} {R : Room} {s : State} {m : MethodId} {args : Array Value} {below : List Frame} {meth : Method} {c : Code} {H : Heap} {locs : List Loc} {cells slots : Nat} {Q : State → Prop}
variable {cc : ByteArray} {pc nL index : Nat} {ls : Array Slot} {rest st0 : List Value} {D : va_G} {cA : Nat → ClassId} {A : Nat → Prop} {g : Nat → Nat} {Ts : List Cond} {own : String} {H0 : Heap}
variable {ad : zk_K → Nat} {I : zIA} {L : zLA} {n : Nat} {w1 : zk_W}
theorem la_ild (C : zC p l m c cc nL s args Ts own D (zt cA) A g meth) (hH : zk_H D A (awp cA ad n I L) H) (a : Nat) (h1 : aK a = 0) (hn : a < n) {i : Int32} {j : Nat} (hi : i = nI j) (hj : j < aN a) (hdg : decode cc pc = .ok (.iaload, 1))
    (kk : W p l e R s m args below meth c H locs cells slots Q (F0 m (pc + 1) ls (.int (I a j) :: rest))) : W p l e R s m args below meth c H locs cells slots Q (F0 m pc ls (.int i :: .ref (ad (a, 0, 0)) :: rest)) :=
  zr_iald C hH (a, 0, 0) ⟨rfl, hn⟩ (ae_I h1) 0 rfl hi hj (aN_lt a) hdg kk
theorem la_lld (C : zC p l m c cc nL s args Ts own D (zt cA) A g meth) (hH : zk_H D A (awp cA ad n I L) H) (a : Nat) (h1 : aK a = 1) (hn : a < n) {i : Int32} {j : Nat} (hi : i = nI j) (hj : j < aN a) (hdg : decode cc pc = .ok (.laload, 1))
    (kk : W p l e R s m args below meth c H locs cells slots Q (F0 m (pc + 1) ls (.long (L a j) :: rest))) : W p l e R s m args below meth c H locs cells slots Q (F0 m pc ls (.int i :: .ref (ad (a, 0, 0)) :: rest)) :=
  zr_lald C hH (a, 0, 0) ⟨rfl, hn⟩ (ae_L h1) 1 rfl hi hj (aN_lt a) hdg kk
theorem la_ist (C : zC p l m c cc nL s args Ts own D (zt cA) A g meth) (hH : zk_H D A (awp cA ad n I L) H) (hS : va_S A H0 H locs) (a : Nat) (h1 : aK a = 0) (hn : a < n) {i x : Int32} {j : Nat} (hi : i = nI j) (hj : j < aN a) (hdg : decode cc pc = .ok (.iastore, 1))
    (kk : ∀ (H1 : Heap) (locs1 : List Loc), zk_H D A (awp cA ad n (up2 I a j x) L) H1 → va_S A H0 H1 locs1 → W p l e R s m args below meth c H1 locs1 cells slots Q (F0 m (pc + 1) ls rest)) : W p l e R s m args below meth c H locs cells slots Q (F0 m pc ls (.int x :: .int i :: .ref (ad (a, 0, 0)) :: rest)) :=
  zr_iast C hH hS (a, 0, 0) ⟨rfl, hn⟩ (ae_I h1) 0 rfl hi hj (aN_lt a) hdg _ (au_I h1) kk
theorem la_lst (C : zC p l m c cc nL s args Ts own D (zt cA) A g meth) (hH : zk_H D A (awp cA ad n I L) H) (hS : va_S A H0 H locs) (a : Nat) (h1 : aK a = 1) (hn : a < n) {i : Int32} {x : Int64} {j : Nat} (hi : i = nI j) (hj : j < aN a) (hdg : decode cc pc = .ok (.lastore, 1))
    (kk : ∀ (H1 : Heap) (locs1 : List Loc), zk_H D A (awp cA ad n I (up2 L a j x)) H1 → va_S A H0 H1 locs1 → W p l e R s m args below meth c H1 locs1 cells slots Q (F0 m (pc + 1) ls rest)) : W p l e R s m args below meth c H locs cells slots Q (F0 m pc ls (.long x :: .int i :: .ref (ad (a, 0, 0)) :: rest)) :=
  zr_last C hH hS (a, 0, 0) ⟨rfl, hn⟩ (ae_L h1) 1 rfl hi hj (aN_lt a) hdg _ (au_L h1) kk
/-! the same beside the class's world -/
theorem ls_key {a : Nat} (ha : a < 11) : (zk_sum 50 w1 (aw cA ad I L)).2.1 (50 + a, 0, 0) ∧ (zk_sum 50 w1 (aw cA ad I L)).1 (50 + a, 0, 0) = ad (a, 0, 0) ∧ (zk_sum 50 w1 (aw cA ad I L)).2.2 (50 + a, 0, 0) = aEnt cA I L (a, 0, 0) := by
  have hz : ¬ 50 + a < 50 := by omega
  refine ⟨?_, ?_, ?_⟩
  · show if 50 + a < 50 then _ else (aw cA ad I L).2.1 (50 + a - 50, 0, 0)
    rw [if_neg hz, Nat.add_sub_cancel_left]
    exact ⟨rfl, ha⟩
  · show (if 50 + a < 50 then _ else (aw cA ad I L).1 (50 + a - 50, 0, 0)) = _
    rw [if_neg hz, Nat.add_sub_cancel_left]
    rfl
  · show (if 50 + a < 50 then _ else (aw cA ad I L).2.2 (50 + a - 50, 0, 0)) = _
    rw [if_neg hz, Nat.add_sub_cancel_left]
    rfl
theorem ls_ild (C : zC p l m c cc nL s args Ts own D (zt cA) A g meth) (hH : zk_H D A (zk_sum 50 w1 (aw cA ad I L)) H) (a : Nat) (h1 : aK a = 0) (hn : a < 11) {i : Int32} {j : Nat} (hi : i = nI j) (hj : j < aN a) (hdg : decode cc pc = .ok (.iaload, 1))
    (kk : W p l e R s m args below meth c H locs cells slots Q (F0 m (pc + 1) ls (.int (I a j) :: rest))) : W p l e R s m args below meth c H locs cells slots Q (F0 m pc ls (.int i :: .ref (ad (a, 0, 0)) :: rest)) := by
  obtain ⟨k1, k2, k3⟩ := ls_key (w1 := w1) (cA := cA) (ad := ad) (I := I) (L := L) hn
  rw [← k2]
  exact zr_iald C hH (50 + a, 0, 0) k1 (k3.trans (ae_I h1)) 0 rfl hi hj (aN_lt a) hdg kk
theorem ls_lld (C : zC p l m c cc nL s args Ts own D (zt cA) A g meth) (hH : zk_H D A (zk_sum 50 w1 (aw cA ad I L)) H) (a : Nat) (h1 : aK a = 1) (hn : a < 11) {i : Int32} {j : Nat} (hi : i = nI j) (hj : j < aN a) (hdg : decode cc pc = .ok (.laload, 1))
    (kk : W p l e R s m args below meth c H locs cells slots Q (F0 m (pc + 1) ls (.long (L a j) :: rest))) : W p l e R s m args below meth c H locs cells slots Q (F0 m pc ls (.int i :: .ref (ad (a, 0, 0)) :: rest)) := by
  obtain ⟨k1, k2, k3⟩ := ls_key (w1 := w1) (cA := cA) (ad := ad) (I := I) (L := L) hn
  rw [← k2]
  exact zr_lald C hH (50 + a, 0, 0) k1 (k3.trans (ae_L h1)) 1 rfl hi hj (aN_lt a) hdg kk
theorem ls_ist (C : zC p l m c cc nL s args Ts own D (zt cA) A g meth) (hH : zk_H D A (zk_sum 50 w1 (aw cA ad I L)) H) (hS : va_S A H0 H locs) (a : Nat) (h1 : aK a = 0) (hn : a < 11) {i x : Int32} {j : Nat} (hi : i = nI j) (hj : j < aN a) (hdg : decode cc pc = .ok (.iastore, 1))
    (kk : ∀ (H1 : Heap) (locs1 : List Loc), zk_H D A (zk_sum 50 w1 (aw cA ad (up2 I a j x) L)) H1 → va_S A H0 H1 locs1 → W p l e R s m args below meth c H1 locs1 cells slots Q (F0 m (pc + 1) ls rest)) : W p l e R s m args below meth c H locs cells slots Q (F0 m pc ls (.int x :: .int i :: .ref (ad (a, 0, 0)) :: rest)) := by
  obtain ⟨k1, k2, k3⟩ := ls_key (w1 := w1) (cA := cA) (ad := ad) (I := I) (L := L) hn
  rw [← k2]
  exact zr_iast C hH hS (50 + a, 0, 0) k1 (k3.trans (ae_I h1)) 0 rfl hi hj (aN_lt a) hdg _ (sum_upR (k := (a, 0, 0)) (au_I h1)) kk
theorem ls_lst (C : zC p l m c cc nL s args Ts own D (zt cA) A g meth) (hH : zk_H D A (zk_sum 50 w1 (aw cA ad I L)) H) (hS : va_S A H0 H locs) (a : Nat) (h1 : aK a = 1) (hn : a < 11) {i : Int32} {x : Int64} {j : Nat} (hi : i = nI j) (hj : j < aN a) (hdg : decode cc pc = .ok (.lastore, 1))
    (kk : ∀ (H1 : Heap) (locs1 : List Loc), zk_H D A (zk_sum 50 w1 (aw cA ad I (up2 L a j x))) H1 → va_S A H0 H1 locs1 → W p l e R s m args below meth c H1 locs1 cells slots Q (F0 m (pc + 1) ls rest)) : W p l e R s m args below meth c H locs cells slots Q (F0 m pc ls (.long x :: .int i :: .ref (ad (a, 0, 0)) :: rest)) := by
  obtain ⟨k1, k2, k3⟩ := ls_key (w1 := w1) (cA := cA) (ad := ad) (I := I) (L := L) hn
  rw [← k2]
  exact zr_last C hH hS (50 + a, 0, 0) k1 (k3.trans (ae_L h1)) 1 rfl hi hj (aN_lt a) hdg _ (sum_upR (k := (a, 0, 0)) (au_L h1)) kk
/-! a contract that wants the script -/
def zk_PcS (sb L0 : Nat) (xs : Nat → Int32) (D : va_G) (tys : List (ClassId × FieldType)) (A : Nat → Prop) (g : Nat → Nat) (av : List Value) (w : zk_W) : Array Value → State → Prop := va_Pc av (fun U => (zk_H D A w U.heap ∧ zG D tys A g U) ∧ zScr sb L0 xs A U)
theorem zScr.step {sb L0 : Nat} {xs : Nat → Int32} {U : State} (h : zScr sb L0 xs A s) (hW : s.WarmedH U.vm) (hS : va_S A s.heap U.heap locs) : zScr sb L0 xs A U :=
  ⟨va_X.moved hW.alike (h.1.kept (hS.2.1 sb h.2.1 h.2.2)), Nat.lt_of_lt_of_le h.2.1 hS.1, h.2.2⟩
theorem zk_preS {sb L0 : Nat} {xs : Nat → Int32} {w : zk_W} (C : zC p l m c cc nL s args Ts own D (zt cA) A g meth) (hX : zScr sb L0 xs A s) (hH : zk_H D A w H) (hS : va_S A s.heap H locs) (av : List Value) : PreS s H (zk_PcS sb L0 xs D (zt cA) A g av w) av :=
  ⟨fun _ _ _ _ h => ⟨h.1, ⟨h.2.1.1, zG.calling h.2.1.2⟩, zScr.step (locs := []) h.2.2 (State.WarmedH.refl _) va_S.rf⟩, fun U hU hW => ⟨rfl, ⟨by rw [hU]; exact hH, zG.step (locs := locs) C.2.1 hW (by rw [hU]; exact hS)⟩, zScr.step (locs := locs) hX hW (by rw [hU]; exact hS)⟩⟩
end AR
/-- several roads come to one place -/
theorem z_join {p : Program} {l : Launch} {e : Env} {R : Room} {s : State} {m : MethodId} {args : Array Value} {below : List Frame} {meth : Method} {c : Code} {H : Heap} {locs : List Loc} {cells slots : Nat} {Q : State → Prop} {ls : Array Slot} {pc nL : Nat} {st : List Value} {D : va_G} {A : Nat → Prop} {w : zk_W} {pcj : Nat} {lc : List (Nat × Value)} {st1 : List Value}
    (k : zL p l e R s m args below meth c nL D A Q w cells slots pcj lc st1 → W p l e R s m args below meth c H locs cells slots Q (F0 m pc ls st)) (j : zL p l e R s m args below meth c nL D A Q w cells slots pcj lc st1) : W p l e R s m args below meth c H locs cells slots Q (F0 m pc ls st) := k j
