/-! ===== worlds by keys: a world gives each live key an address and a row; all rows of the kit are lifted to it ===== -/
abbrev zk_K : Type := Nat × Nat × Nat
abbrev zk_W : Type := (zk_K → Nat) × (zk_K → Prop) × (zk_K → va_E)
/-- the heap holds the world, in cells of A -/
def zk_H (D : va_G) (A : Nat → Prop) (w : zk_W) (H : Heap) : Prop :=
  ∃ ws : va_W, va_P D vwCl ws H ∧ va_D A ws ∧ (∀ k, w.2.1 k → ∃ i : Nat, ws[i]? = some (w.1 k, w.2.2 k)) ∧ ∀ k k', w.2.1 k → w.2.1 k' → w.1 k = w.1 k' → k = k'
/-- the row of one key has changed -/
def zk_up (w : zk_W) (k : zk_K) (e : va_E) (w' : zk_W) : Prop := w'.1 = w.1 ∧ w'.2.1 = w.2.1 ∧ w'.2.2 k = e ∧ ∀ k', k' ≠ k → w.2.1 k' → w'.2.2 k' = w.2.2 k'
/-- one key has a new cell; others may have gone -/
def zk_nw (w : zk_W) (k : zk_K) (q : Nat) (e : va_E) (w' : zk_W) : Prop := w'.1 k = q ∧ w'.2.2 k = e ∧ ∀ k', k' ≠ k → w'.2.1 k' → w.2.1 k' ∧ w'.1 k' = w.1 k' ∧ w'.2.2 k' = w.2.2 k'
/-- fewer keys -/
def zk_sb (w w' : zk_W) : Prop := ∀ k, w'.2.1 k → w.2.1 k ∧ w'.1 k = w.1 k ∧ w'.2.2 k = w.2.2 k
theorem zk_H.inj {D : va_G} {A : Nat → Prop} {w : zk_W} {H : Heap} (h : zk_H D A w H) {k k' : zk_K} (hk : w.2.1 k) (hk' : w.2.1 k') (e : w.1 k = w.1 k') : k = k' := by
  obtain ⟨ws, hP, hD, hL, hI⟩ := h
  exact hI k k' hk hk' e
theorem zk_H.sb {D : va_G} {A : Nat → Prop} {w w' : zk_W} {H : Heap} (h : zk_H D A w H) (hs : zk_sb w w') : zk_H D A w' H := by
  obtain ⟨ws, hP, hD, hL, hI⟩ := h
  refine ⟨ws, hP, hD, fun k hk => ?_, fun k k' hk hk' e => ?_⟩
  · obtain ⟨a, b, c⟩ := hs k hk
    obtain ⟨i, hi⟩ := hL k a
    exact ⟨i, by rw [hi, b, c]⟩
  · obtain ⟨a, b, c⟩ := hs k hk
    obtain ⟨a', b', c'⟩ := hs k' hk'
    rw [b, b'] at e
    exact hI k k' a a' e
theorem zk_set {D : va_G} {A : Nat → Prop} {w w' : zk_W} {H1 : Heap} {ws : va_W} {k : zk_K} {e0 e : va_E} {i : Nat} (hL : ∀ k, w.2.1 k → ∃ i : Nat, ws[i]? = some (w.1 k, w.2.2 k)) (hI : ∀ k k', w.2.1 k → w.2.1 k' → w.1 k = w.1 k' → k = k') (hk : w.2.1 k) (hi : ws[i]? = some (w.1 k, e0)) (hu : zk_up w k e w')
    (hP : va_P D vwCl (ws.set i (w.1 k, e)) H1) (hD : va_D A (ws.set i (w.1 k, e))) : zk_H D A w' H1 := by
  obtain ⟨h1, h2, h3, h4⟩ := hu
  have hlt := (List.getElem?_eq_some_iff.mp hi).1
  refine ⟨ws.set i (w.1 k, e), hP, hD, fun k' hk' => ?_, fun a b => by rw [h1, h2]; exact hI a b⟩
  rw [h2] at hk'
  rw [h1]
  by_cases hkk : k' = k
  · subst hkk
    exact ⟨i, by rw [List.getElem?_set_self hlt, h3]⟩
  · obtain ⟨j, hj⟩ := hL k' hk'
    have hij : i ≠ j := fun q => by
      subst q
      have := Option.some.inj (hi.symm.trans hj)
      exact hkk (hI _ _ hk' hk (congrArg Prod.fst this).symm)
    exact ⟨j, by rw [List.getElem?_set_ne hij, hj, h4 k' hkk hk']⟩
theorem zk_push {D : va_G} {A : Nat → Prop} {w w' : zk_W} {H1 : Heap} {ws : va_W} {k : zk_K} {q : Nat} {e : va_E} (hL : ∀ k, w.2.1 k → ∃ i : Nat, ws[i]? = some (w.1 k, w.2.2 k)) (hI : ∀ k k', w.2.1 k → w.2.1 k' → w.1 k = w.1 k' → k = k') (hn : zk_nw w k q e w')
    (hP : va_P D vwCl (ws ++ [(q, e)]) H1) (hD : va_D A (ws ++ [(q, e)])) : zk_H D A w' H1 := by
  obtain ⟨h1, h2, h3⟩ := hn
  have hlast : (ws ++ [(q, e)])[ws.length]? = some (q, e) := by
    rw [List.getElem?_append_right (Nat.le_refl _), Nat.sub_self]; rfl
  have hold : ∀ k', k' ≠ k → w'.2.1 k' → ∃ i, i < ws.length ∧ (ws ++ [(q, e)])[i]? = some (w'.1 k', w'.2.2 k') := by
    intro k' hne hk'
    obtain ⟨a, b, c⟩ := h3 k' hne hk'
    obtain ⟨i, hi⟩ := hL k' a
    have hlt := (List.getElem?_eq_some_iff.mp hi).1
    exact ⟨i, hlt, by rw [List.getElem?_append_left hlt, hi, b, c]⟩
  refine ⟨ws ++ [(q, e)], hP, hD, fun k' hk' => ?_, fun a b ha hb hab => ?_⟩
  · by_cases hkk : k' = k
    · subst hkk
      exact ⟨ws.length, by rw [hlast, h1, h2]⟩
    · obtain ⟨i, -, hi⟩ := hold k' hkk hk'
      exact ⟨i, hi⟩
  · by_cases ha' : a = k <;> by_cases hb' : b = k
    · rw [ha', hb']
    · subst ha'
      obtain ⟨i, hl, hi⟩ := hold b hb' hb
      have := hD.1 i ws.length _ _ hi hlast (by show w'.1 b = q; rw [← hab, h1])
      omega
    · subst hb'
      obtain ⟨i, hl, hi⟩ := hold a ha' ha
      have := hD.1 i ws.length _ _ hi hlast (by show w'.1 a = q; rw [hab, h1])
      omega
    · obtain ⟨x1, x2, x3⟩ := h3 a ha' ha
      obtain ⟨y1, y2, y3⟩ := h3 b hb' hb
      rw [x2, y2] at hab
      exact hI a b x1 y1 hab
/-! ===== what every method needs of the machine's state ===== -/
/-- the exceptions that the class throws -/
def zg_X : List String := ["java/lang/IndexOutOfBoundsException", "java/lang/IllegalArgumentException", "java/lang/IllegalStateException"]
def zg_Nc : List (String × String) := [("java/lang/IllegalArgumentException", "java/lang/IndexOutOfBoundsException"), ("java/lang/IllegalStateException", "java/lang/IndexOutOfBoundsException"), ("java/lang/IllegalStateException", "java/lang/IllegalArgumentException")]
/-- the classes whose objects lie in lists -/
def zg_O : List String := ["SavingsHall$Client", "SavingsHall$Fund", "SavingsHall$Holding", "SavingsHall$Trade"]
/-- the classes above those that the class throws -/
def zg_D : List String := ["java/lang/RuntimeException", "java/lang/Exception", Bundle.tN]
theorem zk_NwD {x : MethodName} {s U : State} (hW : s.WarmedH U.vm) (hZ : va_Nw (.declares x) s) : va_Nw (.declares x) U := va_tabs rfl (rfl : (s.setVm U.vm).vm = U.vm) (by rw [Cond.declares_setVm hW.alike]; exact hZ)
def zG (D : va_G) (tys : List (ClassId × FieldType)) (A : Nat → Prop) (g : Nat → Nat) (U : State) : Prop :=
  va_K D vwCl tys U ∧ (∀ q, U.heap.size ≤ q → A q) ∧ va_Z "java/util/ArrayList" "DEFAULTCAPACITY_EMPTY_ELEMENTDATA" "[Ljava/lang/Object;" (.ref (g 0)) A U U.heap ∧ va_T (.object "java/lang/Object") (g 0) 0 (fun _ => .null) A U U.heap ∧
  va_Mi "[Ljava/lang/Object;" (g 1) U ∧ va_Dc U ∧ vx_Zq Bundle.tN "UNASSIGNED_STACK" Bundle.steD A U U.heap ∧ vx_Zq Bundle.tN "SUPPRESSED_SENTINEL" Bundle.listD A U U.heap ∧
  (∀ x ∈ zg_X, va_Nw (.castable x x) U) ∧ (∀ q ∈ zg_Nc, va_Nc q.1 q.2 U) ∧ va_AO "java/lang/Object" U ∧
  vk_R RX4 219 "there is none of this number" (g 2) U ∧ vk_R RX4 226 "an argument is out of range" (g 3) U ∧ vk_R RX4 231 "this is not possible now" (g 4) U ∧
  (∀ x ∈ zg_O, va_Nw (.castable x "java/lang/Object") U) ∧ ∀ x ∈ zg_D, va_Nw (.declares (Bundle.initS x)) U
theorem zG.step {D : va_G} {tys : List (ClassId × FieldType)} {A : Nat → Prop} {g : Nat → Nat} {s U : State} {locs : List Loc} (h : zG D tys A g s) (hW : s.WarmedH U.vm) (hS : va_S A s.heap U.heap locs) : zG D tys A g U := by
  obtain ⟨h1, h2, h3, h4, h5, h6, h7, h8, h9, h10, h11, h12, h13, h14, h15, h16⟩ := h
  have hal := hW.alike
  refine ⟨va_K.moved hal h1, fun q hq => h2 q (Nat.le_trans hS.1 hq), va_Z.moved hal (h3.kept hS.2.1), va_T.moved hal (h4.kept hS.2.1), va_Mi.moved hal h5, va_Dc.moved hal h6, vx_Zq.moved hal (h7.kept hS.2.1), vx_Zq.moved hal (h8.kept hS.2.1),
    fun x hx => va_Nw.warmC hW (h9 x hx), fun q hq => va_Nc.moved hal (h10 q hq), va_AO.moved hal h11, vk_R.warm hW h12, vk_R.warm hW h13, vk_R.warm hW h14, fun x hx => va_Nw.warmC hW (h15 x hx), fun x hx => zk_NwD hW (h16 x hx)⟩
theorem zG.calling {D : va_G} {tys : List (ClassId × FieldType)} {A : Nat → Prop} {g : Nat → Nat} {U : State} {f : JFrame} {mk : MethodId} {a : Array Value} (h : zG D tys A g U) : zG D tys A g (U.calling f mk a) :=
  zG.step (locs := []) h (State.WarmedH.refl U) va_S.rf
/-! ===== contracts ===== -/
def zk_Pc (D : va_G) (tys : List (ClassId × FieldType)) (A : Nat → Prop) (g : Nat → Nat) (av : List Value) (w : zk_W) : Array Value → State → Prop := va_Pc av (fun U => zk_H D A w U.heap ∧ zG D tys A g U)
def zk_Qc (D : va_G) (A : Nat → Prop) (P : Option Value → zk_W → Prop) : State → Outcome → State → Prop := fun st oc t => (∃ (v : Option Value) (w' : zk_W), oc = .returned v ∧ P v w' ∧ zk_H D A w' t.heap) ∧ va_F A st t
def zk_XC (D : va_G) (A : Nat → Prop) (PX : String → zk_W → Prop) : String → State → State → Prop := fun E st t => (∃ w' : zk_W, PX E w' ∧ zk_H D A w' t.heap) ∧ va_F A st t
/-- a method that returns -/
def zM (l : Launch) (y : MethodName) (ws : List Cond) (rm : Room) (D : va_G) (tys : List (ClassId × FieldType)) (A : Nat → Prop) (g : Nat → Nat) (av : List Value) (w : zk_W) (P : Option Value → zk_W → Prop) : Prop :=
  Met l y ws rm (zk_Pc D tys A g av w) (fun _ => zk_Qc D A P) rm.cells rm.slots A
/-- a method that returns or throws -/
def zX (l : Launch) (y : MethodName) (ws : List Cond) (rm : Room) (D : va_G) (tys : List (ClassId × FieldType)) (A : Nat → Prop) (g : Nat → Nat) (av : List Value) (w : zk_W) (P : Option Value → zk_W → Prop) (PX : String → zk_W → Prop) : Prop :=
  vx_Met l y ws rm (zk_Pc D tys A g av w) (fun _ => zk_Qc D A P) (zk_XC D A PX) rm.cells rm.slots A
def zQi (P : Int32 → zk_W → Prop) : Option Value → zk_W → Prop := fun v w => ∃ r : Int32, v = some (.int r) ∧ P r w
def zQl (P : Int64 → zk_W → Prop) : Option Value → zk_W → Prop := fun v w => ∃ r : Int64, v = some (.long r) ∧ P r w
def zQv (P : zk_W → Prop) : Option Value → zk_W → Prop := fun v w => v = none ∧ P w
def zQr (P : Nat → zk_W → Prop) : Option Value → zk_W → Prop := fun v w => ∃ r : Nat, v = some (.ref r) ∧ P r w
/-- what holds in a method's body -/
def zC (p : Program) (l : Launch) (m : MethodId) (c : Code) (cc : ByteArray) (nL : Nat) (s : State) (args : Array Value) (Ts : List Cond) (own : String) (D : va_G) (tys : List (ClassId × FieldType)) (A : Nat → Prop) (g : Nat → Nat) (meth : Method) : Prop :=
  CallFix p m c cc nL s args Ts own ∧ zG D tys A g s ∧ meth.locks = false
theorem zk_blind {D : va_G} {tys : List (ClassId × FieldType)} {A : Nat → Prop} {g : Nat → Nat} {av : List Value} {w : zk_W} : FrameBlind (zk_Pc D tys A g av w) := fun _ _ _ _ h => ⟨h.1, h.2.1, zG.calling h.2.2⟩
section ZM
variable {l : Launch} {y : MethodName} {ws ws' : List Cond} {rm : Room} {D : va_G} {tys : List (ClassId × FieldType)} {A : Nat → Prop} {g : Nat → Nat} {av : List Value} {w : zk_W} {P : Option Value → zk_W → Prop} {PX : String → zk_W → Prop} {cc : ByteArray} {maxL : Nat} {ret : Option FieldType} {own : String}
theorem zM_of (hy : plainName y.cls = true) (hw : ws = Cond.code y cc maxL ret :: ws') (hav : (lg_sl av).length ≤ maxL) (ho : y.cls = own)
    (body : ∀ (p : Program) (e : Env) (s : State) (m : MethodId) (below : List Frame) (meth : Method) (c : Code), zC p l m c cc maxL s av.toArray ws own D tys A g meth → meth.sig.returnType = ret → meth.name = y.name →
      ∀ (H : Heap) (locs : List Loc) (ls : Array Slot), zk_H D A w H → va_S A s.heap H locs → lv_has ls maxL (lv_args 0 av) →
      W p l e rm s m av.toArray below meth c H locs 0 0 (MQ below (fun _ => zk_Qc D A P) av.toArray s rm.cells rm.slots A) (F0 m 0 ls [])) : zM l y ws rm D tys A g av w P := by
  refine Met.ofW (cc := cc) (maxL := maxL) (ret := ret) hy hw ?_
  intro p e s m args below meth c s₁ B hml hv
  obtain ⟨rfl, hH, hG⟩ := hv
  have hown : s.vm.findClass own = some m.cls := ho ▸ findClass_of_methodNamed B.named
  have hl := lv_entry av (n := maxL) hav
  rw [lg_entry_eq]
  exact body p e s m below meth c ⟨⟨B.exec, B.bytes, hml, hown, atoms_spec (ws := ws) B.pre⟩, hG, B.notSynchronized⟩ B.returns (name_of_methodNamed B.named B.method).1 s.heap [] _ hH va_S.rf hl
theorem zX_of (hy : plainName y.cls = true) (hw : ws = Cond.code y cc maxL ret :: ws') (hav : (lg_sl av).length ≤ maxL) (ho : y.cls = own)
    (body : ∀ (p : Program) (e : Env) (s : State) (m : MethodId) (below : List Frame) (meth : Method) (c : Code), zC p l m c cc maxL s av.toArray ws own D tys A g meth → meth.sig.returnType = ret → meth.name = y.name → (∀ x ∈ c.exceptionTable.toList, False) →
      ∀ (H : Heap) (locs : List Loc) (ls : Array Slot), zk_H D A w H → va_S A s.heap H locs → lv_has ls maxL (lv_args 0 av) →
      W p l e rm s m av.toArray below meth c H locs 0 0 (vx_MQ below (fun _ => zk_Qc D A P) (zk_XC D A PX) av.toArray s rm.cells rm.slots A) (F0 m 0 ls [])) : zX l y ws rm D tys A g av w P PX := by
  refine vx_ofW (cc := cc) (maxL := maxL) (ret := ret) hy hw ?_
  intro p e s m args below meth c s₁ B hml hex hv
  obtain ⟨rfl, hH, hG⟩ := hv
  have hown : s.vm.findClass own = some m.cls := ho ▸ findClass_of_methodNamed B.named
  have hl := lv_entry av (n := maxL) hav
  rw [lg_entry_eq]
  exact body p e s m below meth c ⟨⟨B.exec, B.bytes, hml, hown, atoms_spec (ws := ws) B.pre⟩, hG, B.notSynchronized⟩ B.returns (name_of_methodNamed B.named B.method).1 hex s.heap [] _ hH va_S.rf hl
end ZM
section ZR
variable {p : Program} {l : Launch} {e : Env} {R : Room} {s : State} {m : MethodId} {args : Array Value} {below : List Frame} {meth : Method} {c : Code} {H : Heap} {locs : List Loc} {cells slots : Nat} {Q : State → Prop}
variable {cc : ByteArray} {pc nL : Nat} {ls : Array Slot} {rest st0 : List Value} {D : va_G} {tys : List (ClassId × FieldType)} {A : Nat → Prop} {g : Nat → Nat} {Ts : List Cond} {own : String} {w w' : zk_W} {H0 : Heap}
variable {P : Option Value → zk_W → Prop} {PX : String → zk_W → Prop} {mc ms : Nat} {lc : List (Nat × Value)}
/-! returns -/
theorem zr_iret {Pi : Int32 → zk_W → Prop} {v : Int32} (C : zC p l m c cc nL s args Ts own D tys A g meth) (hr : meth.sig.returnType = some .int) (hP : Pi v w) (hH : zk_H D A w H) (hS : va_S A s.heap H locs) (hc : cells ≤ mc) (hs : slots ≤ ms) (hd : decode cc pc = .ok (.ireturn, 1)) :
    W p l e R s m args below meth c H locs cells slots (MQ below (fun _ => zk_Qc D A (zQi Pi)) args s mc ms A) (F0 m pc ls [.int v]) :=
  W.widen hc hs (W.iret (v := v) C.1.1 C.1.2.1 hr (fun t ht hW => ⟨⟨some (.int v), w, rfl, ⟨v, rfl, hP⟩, by rw [ht]; exact hH⟩, hS.F ht⟩) hS.2.2 hd C.2.2)
theorem zr_zret {Pi : Int32 → zk_W → Prop} {v : Int32} (C : zC p l m c cc nL s args Ts own D tys A g meth) (hr : meth.sig.returnType = some .boolean) (hv : v = 0 ∨ v = 1) (hP : Pi v w) (hH : zk_H D A w H) (hS : va_S A s.heap H locs) (hc : cells ≤ mc) (hs : slots ≤ ms) (hd : decode cc pc = .ok (.ireturn, 1)) :
    W p l e R s m args below meth c H locs cells slots (MQ below (fun _ => zk_Qc D A (zQi Pi)) args s mc ms A) (F0 m pc ls [.int v]) :=
  W.widen hc hs (W.zret (v := v) (ty := .boolean) C.1.1 C.1.2.1 hr (by rcases hv with rfl | rfl <;> decide) (fun t ht hW => ⟨⟨some (.int v), w, rfl, ⟨v, rfl, hP⟩, by rw [ht]; exact hH⟩, hS.F ht⟩) hS.2.2 hd C.2.2)
theorem zr_lret {Pl : Int64 → zk_W → Prop} {v : Int64} (C : zC p l m c cc nL s args Ts own D tys A g meth) (hr : meth.sig.returnType = some .long) (hP : Pl v w) (hH : zk_H D A w H) (hS : va_S A s.heap H locs) (hc : cells ≤ mc) (hs : slots ≤ ms) (hd : decode cc pc = .ok (.lreturn, 1)) :
    W p l e R s m args below meth c H locs cells slots (MQ below (fun _ => zk_Qc D A (zQl Pl)) args s mc ms A) (F0 m pc ls [.long v]) :=
  W.widen hc hs (W.lret (v := v) C.1.1 C.1.2.1 hr (fun t ht hW => ⟨⟨some (.long v), w, rfl, ⟨v, rfl, hP⟩, by rw [ht]; exact hH⟩, hS.F ht⟩) hS.2.2 hd C.2.2)
theorem zr_vret {Pv : zk_W → Prop} (C : zC p l m c cc nL s args Ts own D tys A g meth) (hr : meth.sig.returnType = none) (hP : Pv w) (hH : zk_H D A w H) (hS : va_S A s.heap H locs) (hc : cells ≤ mc) (hs : slots ≤ ms) (hd : decode cc pc = .ok (.return_, 1)) :
    W p l e R s m args below meth c H locs cells slots (MQ below (fun _ => zk_Qc D A (zQv Pv)) args s mc ms A) (F0 m pc ls []) :=
  W.widen hc hs (W.vret C.1.1 C.1.2.1 hr (fun t ht hW => ⟨⟨none, w, rfl, ⟨rfl, hP⟩, by rw [ht]; exact hH⟩, hS.F ht⟩) hS.2.2 hd C.2.2)
theorem zr_aret {Pr : Nat → zk_W → Prop} {a : Nat} {rt : FieldType} (C : zC p l m c cc nL s args Ts own D tys A g meth) (hr : meth.sig.returnType = some rt) (hrt : (∃ n, rt = .object n) ∨ ∃ t, rt = .array t) (hP : Pr a w) (hH : zk_H D A w H) (hS : va_S A s.heap H locs) (hc : cells ≤ mc) (hs : slots ≤ ms) (hd : decode cc pc = .ok (.areturn, 1)) :
    W p l e R s m args below meth c H locs cells slots (MQ below (fun _ => zk_Qc D A (zQr Pr)) args s mc ms A) (F0 m pc ls [.ref a]) :=
  W.widen hc hs (W.aret (v := .ref a) C.1.1 C.1.2.1 hr hrt (Or.inr ⟨a, rfl⟩) (fun t ht hW => ⟨⟨some (.ref a), w, rfl, ⟨a, rfl, hP⟩, by rw [ht]; exact hH⟩, hS.F ht⟩) hS.2.2 hd C.2.2)
/-! calls: how the machine gets there -/
variable {y : MethodName} {bytes : ByteArray} {maxL n index : Nat} {ret : Option FieldType} {ws ws' : List Cond} {rm : Room} {Cn : String} {b : Addr} {As : List Value}
theorem zk_pre (C : zC p l m c cc nL s args Ts own D tys A g meth) (hH : zk_H D A w H) (hS : va_S A s.heap H locs) (av : List Value) : PreS s H (zk_Pc D tys A g av w) av :=
  ⟨zk_blind, fun U hU hW => ⟨rfl, by rw [hU]; exact hH, zG.step (locs := locs) C.2.1 hW (by rw [hU]; exact hS)⟩⟩
theorem zk_recv (C : zC p l m c cc nL s args Ts own D tys A g meth) (hH : zk_H D A w H) {k : zk_K} (hk : w.2.1 k) {ci : Nat} {fs : List Value} (he : w.2.2 k = .inr (ci, fs)) {q : vw_C} (hc : vwCl[ci]? = some q) : ∃ cell : Cell, H[w.1 k]? = some cell ∧ cell.vm.isStatics = false ∧ s.vm.findClass q.1 = some cell.cls := by
  obtain ⟨ws, hP, hD, hL, hI⟩ := hH
  obtain ⟨i, hi⟩ := hL k hk
  rw [he] at hi
  exact va_recv C.2.1.1 hP hc hi
/-- invokevirtual of a method that returns -/
theorem zk_rV (C : zC p l m c cc nL s args Ts own D tys A g meth) {q : vw_C} {k : zk_K} {ci : Nat} {fs : List Value} (hM : zM l y ws rm D tys A g (.ref (w.1 k) :: As) w P) (hH : zk_H D A w H) (hS : va_S A s.heap H locs) (hk : w.2.1 k) (he : w.2.2 k = .inr (ci, fs)) (hc : vwCl[ci]? = some q)
    (hT : GoodIn Ts (wsV own index q.1 y ws)) (hw : ws = Cond.code y bytes maxL ret :: ws') (hn : As.length = n)
    (hd : y.cls = q.1 ∧ y.cls ≠ "java/lang/invoke/MethodHandle" ∧ y.cls ≠ "java/lang/invoke/VarHandle" ∧ (parseMethodDescriptor y.desc).map (fun d => d.parameters.length) = some n) (hR : rm.frames + 1 ≤ R.frames ∧ 8 + (maxL + 11) + rm.locals ≤ R.locals)
    (hl : lv_has ls nL lc) (hst : st0 = As.reverse ++ .ref (w.1 k) :: rest) (hW : (rest.map fun v => v.category).sum ≤ 8) (hdg : decode cc pc = .ok (.invokevirtual index, 3)) (hf : cells + rm.cells ≤ R.cells ∧ slots + rm.slots ≤ R.slots) :
    va_Run p l e R s m args below meth c H locs cells slots rm.cells rm.slots (F0 m pc ls st0) rest (zk_Qc D A P) A :=
  va_runV (As := As) (rest := rest) C.1 hM (cwV n C.1.2.2.2.2 hT hw rfl rfl hd hR) ⟨zk_blind, zk_recv C hH hk he hc, (zk_pre C hH hS _).2⟩ rfl hn hl.1 hst (lv_room (pc := pc) (ls := ls) hW) hdg hf
/-- invokestatic of a method that returns -/
theorem zk_rS (C : zC p l m c cc nL s args Ts own D tys A g meth) (hM : zM l y ws rm D tys A g As w P) (hH : zk_H D A w H) (hS : va_S A s.heap H locs)
    (hT : GoodIn Ts (va_wsS own index y ws)) (hw : ws = Cond.code y bytes maxL ret :: ws') (hn : As.length = n)
    (hd : y.cls ≠ "java/lang/invoke/MethodHandle" ∧ y.cls ≠ "java/lang/invoke/VarHandle" ∧ (parseMethodDescriptor y.desc).map (fun d => d.parameters.length) = some n) (hR : rm.frames + 1 ≤ R.frames ∧ 8 + (maxL + 11) + rm.locals ≤ R.locals)
    (hl : lv_has ls nL lc) (hst : st0 = As.reverse ++ rest) (hW : (rest.map fun v => v.category).sum ≤ 8) (hdg : decode cc pc = .ok (.invokestatic index, 3)) (hf : cells + rm.cells ≤ R.cells ∧ slots + rm.slots ≤ R.slots) :
    va_Run p l e R s m args below meth c H locs cells slots rm.cells rm.slots (F0 m pc ls st0) rest (zk_Qc D A P) A :=
  va_runS (As := As) (rest := rest) C.1 hM (va_cwS n C.1.2.2.2.2 hT hw rfl rfl hd hR) (zk_pre C hH hS _) rfl hn hl.1 hst (lv_room (pc := pc) (ls := ls) hW) hdg hf
/-- a constructor's call -/
theorem zk_rI (C : zC p l m c cc nL s args Ts own D tys A g meth) (hM : zM l y ws rm D tys A g (.ref b :: As) w P) (hH : zk_H D A w H) (hS : va_S A s.heap H locs)
    (hT : GoodIn Ts ws) (hw : ws = Cond.code y bytes maxL none :: ws') (hini : Cond.initialized y.cls ∈ Ts) (hlk : Cond.methodLink own index y ∈ Ts) (hin : Cond.instanceMethod y ∈ Ts) (hy1 : y.name = "<init>") (hn : As.length = n)
    (hd : y.cls ≠ "java/lang/invoke/MethodHandle" ∧ y.cls ≠ "java/lang/invoke/VarHandle" ∧ (parseMethodDescriptor y.desc).map (fun d => d.parameters.length) = some n) (hR : rm.frames + 1 ≤ R.frames ∧ 8 + (maxL + 11) + rm.locals ≤ R.locals)
    (hl : lv_has ls nL lc) (hst : st0 = As.reverse ++ .ref b :: rest) (hW : (rest.map fun v => v.category).sum ≤ 8) (hdg : decode cc pc = .ok (.invokespecial index, 3)) (hf : cells + rm.cells ≤ R.cells ∧ slots + rm.slots ≤ R.slots) :
    va_Run p l e R s m args below meth c H locs cells slots rm.cells rm.slots (F0 m pc ls st0) rest (zk_Qc D A P) A :=
  va_runI (As := As) (rest := rest) C.1 hM (cwI n C.1.2.2.2.2 hT hw rfl rfl (C.1.2.2.2.2 _ hini) (C.1.2.2.2.2 _ hlk) (C.1.2.2.2.2 _ hin) hy1 hd hR) (zk_pre C hH hS _) rfl hn hl.1 hst (lv_room (pc := pc) (ls := ls) hW) hdg hf
theorem zx_rV (C : zC p l m c cc nL s args Ts own D tys A g meth) {q : vw_C} {k : zk_K} {ci : Nat} {fs : List Value} (hM : zX l y ws rm D tys A g (.ref (w.1 k) :: As) w P PX) (hH : zk_H D A w H) (hS : va_S A s.heap H locs) (hk : w.2.1 k) (he : w.2.2 k = .inr (ci, fs)) (hc : vwCl[ci]? = some q)
    (hT : GoodIn Ts (wsV own index q.1 y ws)) (hw : ws = Cond.code y bytes maxL ret :: ws') (hn : As.length = n)
    (hd : y.cls = q.1 ∧ y.cls ≠ "java/lang/invoke/MethodHandle" ∧ y.cls ≠ "java/lang/invoke/VarHandle" ∧ (parseMethodDescriptor y.desc).map (fun d => d.parameters.length) = some n) (hR : rm.frames + 1 ≤ R.frames ∧ 8 + (maxL + 11) + rm.locals ≤ R.locals)
    (hl : lv_has ls nL lc) (hst : st0 = As.reverse ++ .ref (w.1 k) :: rest) (hW : (rest.map fun v => v.category).sum ≤ 8) (hdg : decode cc pc = .ok (.invokevirtual index, 3)) (hf : cells + rm.cells ≤ R.cells ∧ slots + rm.slots ≤ R.slots) :
    vx_Run p l e R s m args below meth c H locs cells slots rm.cells rm.slots (F0 m pc ls st0) rest (zk_Qc D A P) (zk_XC D A PX) A :=
  vx_runV (As := As) (rest := rest) C.1 hM (cwV n C.1.2.2.2.2 hT hw rfl rfl hd hR) ⟨zk_blind, zk_recv C hH hk he hc, (zk_pre C hH hS _).2⟩ rfl hn hl.1 hst (lv_room (pc := pc) (ls := ls) hW) hdg hf
theorem zx_rS (C : zC p l m c cc nL s args Ts own D tys A g meth) (hM : zX l y ws rm D tys A g As w P PX) (hH : zk_H D A w H) (hS : va_S A s.heap H locs)
    (hT : GoodIn Ts (va_wsS own index y ws)) (hw : ws = Cond.code y bytes maxL ret :: ws') (hn : As.length = n)
    (hd : y.cls ≠ "java/lang/invoke/MethodHandle" ∧ y.cls ≠ "java/lang/invoke/VarHandle" ∧ (parseMethodDescriptor y.desc).map (fun d => d.parameters.length) = some n) (hR : rm.frames + 1 ≤ R.frames ∧ 8 + (maxL + 11) + rm.locals ≤ R.locals)
    (hl : lv_has ls nL lc) (hst : st0 = As.reverse ++ rest) (hW : (rest.map fun v => v.category).sum ≤ 8) (hdg : decode cc pc = .ok (.invokestatic index, 3)) (hf : cells + rm.cells ≤ R.cells ∧ slots + rm.slots ≤ R.slots) :
    vx_Run p l e R s m args below meth c H locs cells slots rm.cells rm.slots (F0 m pc ls st0) rest (zk_Qc D A P) (zk_XC D A PX) A :=
  vx_runS (As := As) (rest := rest) C.1 hM (va_cwS n C.1.2.2.2.2 hT hw rfl rfl hd hR) (zk_pre C hH hS _) rfl hn hl.1 hst (lv_room (pc := pc) (ls := ls) hW) hdg hf
/-! calls: what comes behind -/
theorem zk_c (hr : va_Run p l e R s m args below meth c H locs cells slots mc ms (F0 m pc ls st0) rest (zk_Qc D A P) A) (hS : va_S A s.heap H locs)
    (kk : ∀ (v : Option Value) (w' : zk_W) (H1 : Heap) (locs1 : List Loc), P v w' → zk_H D A w' H1 → va_S A s.heap H1 locs1 → W p l e R s m args below meth c H1 locs1 (cells + mc) (slots + ms) Q (F0 m (pc + 3) ls (v.toList ++ rest))) : W p l e R s m args below meth c H locs cells slots Q (F0 m pc ls st0) := by
  intro T hT X
  obtain ⟨v, st₀, t, T', L, h0, X', hL, e1, e2, ⟨⟨v2, w', hv, hP, hH⟩, hF⟩, st⟩ := hr T hT X
  cases hv
  obtain ⟨k1, k2, k3⟩ := vx_keep (A1 := A) (free := A) h0 e1 hS (fun q _ h => h) (fun q h => h) hL hF
  obtain ⟨t2, a1, b1⟩ := kk v w' T'.heap (locs ++ L) hP (by rw [e1]; exact hH) k3 T' rfl X'
  exact ⟨t2, st t2 a1, b1⟩
theorem zk_ci {Pi : Int32 → zk_W → Prop} (hr : va_Run p l e R s m args below meth c H locs cells slots mc ms (F0 m pc ls st0) rest (zk_Qc D A (zQi Pi)) A) (hS : va_S A s.heap H locs)
    (kk : ∀ (r : Int32) (w' : zk_W) (H1 : Heap) (locs1 : List Loc), Pi r w' → zk_H D A w' H1 → va_S A s.heap H1 locs1 → W p l e R s m args below meth c H1 locs1 (cells + mc) (slots + ms) Q (F0 m (pc + 3) ls (.int r :: rest))) : W p l e R s m args below meth c H locs cells slots Q (F0 m pc ls st0) :=
  zk_c hr hS (fun v w' H1 locs1 hP hH hS => by obtain ⟨r, rfl, hP⟩ := hP; exact kk r w' H1 locs1 hP hH hS)
theorem zk_cl {Pl : Int64 → zk_W → Prop} (hr : va_Run p l e R s m args below meth c H locs cells slots mc ms (F0 m pc ls st0) rest (zk_Qc D A (zQl Pl)) A) (hS : va_S A s.heap H locs)
    (kk : ∀ (r : Int64) (w' : zk_W) (H1 : Heap) (locs1 : List Loc), Pl r w' → zk_H D A w' H1 → va_S A s.heap H1 locs1 → W p l e R s m args below meth c H1 locs1 (cells + mc) (slots + ms) Q (F0 m (pc + 3) ls (.long r :: rest))) : W p l e R s m args below meth c H locs cells slots Q (F0 m pc ls st0) :=
  zk_c hr hS (fun v w' H1 locs1 hP hH hS => by obtain ⟨r, rfl, hP⟩ := hP; exact kk r w' H1 locs1 hP hH hS)
theorem zk_cv {Pv : zk_W → Prop} (hr : va_Run p l e R s m args below meth c H locs cells slots mc ms (F0 m pc ls st0) rest (zk_Qc D A (zQv Pv)) A) (hS : va_S A s.heap H locs)
    (kk : ∀ (w' : zk_W) (H1 : Heap) (locs1 : List Loc), Pv w' → zk_H D A w' H1 → va_S A s.heap H1 locs1 → W p l e R s m args below meth c H1 locs1 (cells + mc) (slots + ms) Q (F0 m (pc + 3) ls rest)) : W p l e R s m args below meth c H locs cells slots Q (F0 m pc ls st0) :=
  zk_c hr hS (fun v w' H1 locs1 hP hH hS => by obtain ⟨rfl, hP⟩ := hP; exact kk w' H1 locs1 hP hH hS)
theorem zk_cr {Pr : Nat → zk_W → Prop} (hr : va_Run p l e R s m args below meth c H locs cells slots mc ms (F0 m pc ls st0) rest (zk_Qc D A (zQr Pr)) A) (hS : va_S A s.heap H locs)
    (kk : ∀ (r : Nat) (w' : zk_W) (H1 : Heap) (locs1 : List Loc), Pr r w' → zk_H D A w' H1 → va_S A s.heap H1 locs1 → W p l e R s m args below meth c H1 locs1 (cells + mc) (slots + ms) Q (F0 m (pc + 3) ls (.ref r :: rest))) : W p l e R s m args below meth c H locs cells slots Q (F0 m pc ls st0) :=
  zk_c hr hS (fun v w' H1 locs1 hP hH hS => by obtain ⟨r, rfl, hP⟩ := hP; exact kk r w' H1 locs1 hP hH hS)
theorem zx_c (hr : vx_Run p l e R s m args below meth c H locs cells slots mc ms (F0 m pc ls st0) rest (zk_Qc D A P) (zk_XC D A PX) A) (hS : va_S A s.heap H locs)
    (kx : ∀ (E : String) (ce : Cell) (q : Addr) (w' : zk_W) (H1 : Heap) (locs1 : List Loc), PX E w' → zk_H D A w' H1 → va_S A s.heap H1 locs1 → H1[q]? = some ce → ce.vm = .none → s.vm.findClass E = some ce.cls → vx_W p l e R s m args below meth c H1 locs1 (cells + mc) (slots + ms) Q (F0 m pc ls rest) q)
    (kk : ∀ (v : Option Value) (w' : zk_W) (H1 : Heap) (locs1 : List Loc), P v w' → zk_H D A w' H1 → va_S A s.heap H1 locs1 → W p l e R s m args below meth c H1 locs1 (cells + mc) (slots + ms) Q (F0 m (pc + 3) ls (v.toList ++ rest))) : W p l e R s m args below meth c H locs cells slots Q (F0 m pc ls st0) := by
  intro T hT X
  rcases hr T hT X with ⟨v, st₀, t, T', L, h0, X', hL, e1, e2, ⟨⟨v2, w', hv, hP, hH⟩, hF⟩, st⟩ | ⟨q, st₀, t, T', L, E, ce, h0, X', hL, e1, e2, ⟨⟨w', hP, hH⟩, hF⟩, hce, hcv, hcl, st⟩
  · cases hv
    obtain ⟨k1, k2, k3⟩ := vx_keep (A1 := A) (free := A) h0 e1 hS (fun q _ h => h) (fun q h => h) hL hF
    obtain ⟨t2, a1, b1⟩ := kk v w' T'.heap (locs ++ L) hP (by rw [e1]; exact hH) k3 T' rfl X'
    exact ⟨t2, st t2 a1, b1⟩
  · obtain ⟨k1, k2, k3⟩ := vx_keep (A1 := A) (free := A) h0 e1 hS (fun q _ h => h) (fun q h => h) hL hF
    obtain ⟨t2, a1, b1⟩ := kx E ce q w' T'.heap (locs ++ L) hP (by rw [e1]; exact hH) k3 (by rw [e1]; exact hce) hcv hcl T' rfl X'
    exact ⟨t2, st.trans a1, b1⟩
/-- what is thrown goes on to the caller -/
theorem zx_go {PX' : String → zk_W → Prop} {Qc : Array Value → State → Outcome → State → Prop} (C : zC p l m c cc nL s args Ts own D tys A g meth) (hex : ∀ x ∈ c.exceptionTable.toList, False) (hi : ∀ E w', PX E w' → PX' E w') (hc : cells ≤ mc) (hs : slots ≤ ms) :
    ∀ (E : String) (ce : Cell) (q : Addr) (w' : zk_W) (H1 : Heap) (locs1 : List Loc), PX E w' → zk_H D A w' H1 → va_S A s.heap H1 locs1 → H1[q]? = some ce → ce.vm = .none → s.vm.findClass E = some ce.cls → vx_W p l e R s m args below meth c H1 locs1 cells slots (vx_MQ below Qc (zk_XC D A PX') args s mc ms A) (F0 m pc ls rest) q :=
  fun E ce q w' H1 locs1 hP hH hS hce hcv hcl => vx_out (fun x hx => (hex x hx).elim) C.2.2 hce hcv hcl (fun t ht _ => ⟨⟨w', hi E w' hP, by rw [ht]; exact hH⟩, hS.F ht⟩) hS.2.2 hc hs
theorem zx_ci {Pi : Int32 → zk_W → Prop} (hr : vx_Run p l e R s m args below meth c H locs cells slots mc ms (F0 m pc ls st0) rest (zk_Qc D A (zQi Pi)) (zk_XC D A PX) A) (hS : va_S A s.heap H locs)
    (kx : ∀ (E : String) (ce : Cell) (q : Addr) (w' : zk_W) (H1 : Heap) (locs1 : List Loc), PX E w' → zk_H D A w' H1 → va_S A s.heap H1 locs1 → H1[q]? = some ce → ce.vm = .none → s.vm.findClass E = some ce.cls → vx_W p l e R s m args below meth c H1 locs1 (cells + mc) (slots + ms) Q (F0 m pc ls rest) q)
    (kk : ∀ (r : Int32) (w' : zk_W) (H1 : Heap) (locs1 : List Loc), Pi r w' → zk_H D A w' H1 → va_S A s.heap H1 locs1 → W p l e R s m args below meth c H1 locs1 (cells + mc) (slots + ms) Q (F0 m (pc + 3) ls (.int r :: rest))) : W p l e R s m args below meth c H locs cells slots Q (F0 m pc ls st0) :=
  zx_c hr hS kx (fun v w' H1 locs1 hP hH hS => by obtain ⟨r, rfl, hP⟩ := hP; exact kk r w' H1 locs1 hP hH hS)
theorem zx_cl {Pl : Int64 → zk_W → Prop} (hr : vx_Run p l e R s m args below meth c H locs cells slots mc ms (F0 m pc ls st0) rest (zk_Qc D A (zQl Pl)) (zk_XC D A PX) A) (hS : va_S A s.heap H locs)
    (kx : ∀ (E : String) (ce : Cell) (q : Addr) (w' : zk_W) (H1 : Heap) (locs1 : List Loc), PX E w' → zk_H D A w' H1 → va_S A s.heap H1 locs1 → H1[q]? = some ce → ce.vm = .none → s.vm.findClass E = some ce.cls → vx_W p l e R s m args below meth c H1 locs1 (cells + mc) (slots + ms) Q (F0 m pc ls rest) q)
    (kk : ∀ (r : Int64) (w' : zk_W) (H1 : Heap) (locs1 : List Loc), Pl r w' → zk_H D A w' H1 → va_S A s.heap H1 locs1 → W p l e R s m args below meth c H1 locs1 (cells + mc) (slots + ms) Q (F0 m (pc + 3) ls (.long r :: rest))) : W p l e R s m args below meth c H locs cells slots Q (F0 m pc ls st0) :=
  zx_c hr hS kx (fun v w' H1 locs1 hP hH hS => by obtain ⟨r, rfl, hP⟩ := hP; exact kk r w' H1 locs1 hP hH hS)
theorem zx_cv {Pv : zk_W → Prop} (hr : vx_Run p l e R s m args below meth c H locs cells slots mc ms (F0 m pc ls st0) rest (zk_Qc D A (zQv Pv)) (zk_XC D A PX) A) (hS : va_S A s.heap H locs)
    (kx : ∀ (E : String) (ce : Cell) (q : Addr) (w' : zk_W) (H1 : Heap) (locs1 : List Loc), PX E w' → zk_H D A w' H1 → va_S A s.heap H1 locs1 → H1[q]? = some ce → ce.vm = .none → s.vm.findClass E = some ce.cls → vx_W p l e R s m args below meth c H1 locs1 (cells + mc) (slots + ms) Q (F0 m pc ls rest) q)
    (kk : ∀ (w' : zk_W) (H1 : Heap) (locs1 : List Loc), Pv w' → zk_H D A w' H1 → va_S A s.heap H1 locs1 → W p l e R s m args below meth c H1 locs1 (cells + mc) (slots + ms) Q (F0 m (pc + 3) ls rest)) : W p l e R s m args below meth c H locs cells slots Q (F0 m pc ls st0) :=
  zx_c hr hS kx (fun v w' H1 locs1 hP hH hS => by obtain ⟨rfl, hP⟩ := hP; exact kk w' H1 locs1 hP hH hS)
theorem zx_cr {Pr : Nat → zk_W → Prop} (hr : vx_Run p l e R s m args below meth c H locs cells slots mc ms (F0 m pc ls st0) rest (zk_Qc D A (zQr Pr)) (zk_XC D A PX) A) (hS : va_S A s.heap H locs)
    (kx : ∀ (E : String) (ce : Cell) (q : Addr) (w' : zk_W) (H1 : Heap) (locs1 : List Loc), PX E w' → zk_H D A w' H1 → va_S A s.heap H1 locs1 → H1[q]? = some ce → ce.vm = .none → s.vm.findClass E = some ce.cls → vx_W p l e R s m args below meth c H1 locs1 (cells + mc) (slots + ms) Q (F0 m pc ls rest) q)
    (kk : ∀ (r : Nat) (w' : zk_W) (H1 : Heap) (locs1 : List Loc), Pr r w' → zk_H D A w' H1 → va_S A s.heap H1 locs1 → W p l e R s m args below meth c H1 locs1 (cells + mc) (slots + ms) Q (F0 m (pc + 3) ls (.ref r :: rest))) : W p l e R s m args below meth c H locs cells slots Q (F0 m pc ls st0) :=
  zx_c hr hS kx (fun v w' H1 locs1 hP hH hS => by obtain ⟨r, rfl, hP⟩ := hP; exact kk r w' H1 locs1 hP hH hS)
/-! fields -/
theorem zr_get (C : zC p l m c cc nL s args Ts own D tys A g meth) {ref Cn : String} {T : u_T} {N ci : Nat} (hin : ∀ w ∈ u_ws Cn T N, w ∈ Ts) (hc : vwCl[ci]? = some (Cn, T, N)) (hH : zk_H D A w H) (k : zk_K) (hk : w.2.1 k) {fs : List Value} (he : w.2.2 k = .inr (ci, fs)) (j : Nat) (hj : j < N)
    (hlink : Cond.fieldLink own index ref (T j).2.1 (T j).2.2.1 ∈ Ts) (hsame : ∀ x, s.fieldFound? (T j).1 (T j).2.1 (T j).2.2.1 = some x → s.fieldFound? ref (T j).2.1 (T j).2.2.1 = some x) {v : Value} (hv : fs[j]? = some v) (hdg : decode cc pc = .ok (.getfield index, 3))
    (kk : W p l e R s m args below meth c H locs cells slots Q (F0 m (pc + 3) ls (v :: rest))) : W p l e R s m args below meth c H locs cells slots Q (F0 m pc ls (.ref (w.1 k) :: rest)) := by
  obtain ⟨ws, hP, hD, hL, hI⟩ := hH
  obtain ⟨i, hi⟩ := hL k hk
  rw [he] at hi
  exact va_get C.1.1 C.1.2.1 C.1.2.2.2.2 hin C.1.2.2.2.1 C.2.1.1 hP i hi hc j hj (C.1.2.2.2.2 _ hlink) hsame hv hdg kk
theorem zr_put (C : zC p l m c cc nL s args Ts own D tys A g meth) {ref Cn : String} {T : u_T} {N ci : Nat} (hin : ∀ w ∈ u_ws Cn T N, w ∈ Ts) (hc : vwCl[ci]? = some (Cn, T, N)) (ty0 : Nat → FieldType) (hty : ∀ k, k < N → parseFieldDescriptor (T k).2.2.1 = some (ty0 k)) (hnm : ∀ a, a < N → ∀ b, b < N → a ≠ b → (T a).2.1 ≠ (T b).2.1) (hH : zk_H D A w H) (hS : va_S A H0 H locs) (k : zk_K) (hk : w.2.1 k) {fs : List Value} (he : w.2.2 k = .inr (ci, fs)) (j : Nat) (hj : j < N)
    (hlink : Cond.fieldLink own index ref (T j).2.1 (T j).2.2.1 ∈ Ts) (hsame : ∀ x, s.fieldFound? (T j).1 (T j).2.1 (T j).2.2.1 = some x → s.fieldFound? ref (T j).2.1 (T j).2.2.1 = some x) (hfin : (T j).2.2.2 = false) {v : Value} (hn : narrow (ty0 j) v = v) (hfit : fits (ty0 j) v = true) (hl : j < fs.length) (hdg : decode cc pc = .ok (.putfield index, 3))
    (w' : zk_W) (hu : zk_up w k (.inr (ci, fs.set j v)) w') (kk : ∀ (H1 : Heap) (locs1 : List Loc), zk_H D A w' H1 → va_S A H0 H1 locs1 → W p l e R s m args below meth c H1 locs1 cells slots Q (F0 m (pc + 3) ls rest)) : W p l e R s m args below meth c H locs cells slots Q (F0 m pc ls (v :: .ref (w.1 k) :: rest)) := by
  obtain ⟨ws, hP, hD, hL, hI⟩ := hH
  obtain ⟨i, hi⟩ := hL k hk
  rw [he] at hi
  exact va_put C.1.1 C.1.2.1 C.1.2.2.2.2 hin ty0 hty hnm C.1.2.2.2.1 C.2.1.1 hP hD hS i hi hc j hj (C.1.2.2.2.2 _ hlink) hsame hfin (hty j hj) hn hfit hl hdg (fun H1 locs1 hP1 hD1 hS1 => kk H1 locs1 (zk_set hL hI hk hi hu hP1 hD1) hS1)
theorem zr_putF (C : zC p l m c cc nL s args Ts own D tys A g meth) {ref Cn : String} {T : u_T} {N ci : Nat} (hin : ∀ w ∈ u_ws Cn T N, w ∈ Ts) (hc : vwCl[ci]? = some (Cn, T, N)) (ty0 : Nat → FieldType) (hty : ∀ k, k < N → parseFieldDescriptor (T k).2.2.1 = some (ty0 k)) (hnm : ∀ a, a < N → ∀ b, b < N → a ≠ b → (T a).2.1 ≠ (T b).2.1) (hH : zk_H D A w H) (hS : va_S A H0 H locs) (k : zk_K) (hk : w.2.1 k) {fs : List Value} (he : w.2.2 k = .inr (ci, fs)) (j : Nat) (hj : j < N)
    (hlink : Cond.fieldLink own index ref (T j).2.1 (T j).2.2.1 ∈ Ts) (hsame : ∀ x, s.fieldFound? (T j).1 (T j).2.1 (T j).2.2.1 = some x → s.fieldFound? ref (T j).2.1 (T j).2.2.1 = some x) (hfin : (T j).2.2.2 = true) (hin2 : meth.name = "<init>") (hdecl : (T j).1 = own) {v : Value} (hn : narrow (ty0 j) v = v) (hfit : fits (ty0 j) v = true) (hl : j < fs.length) (hdg : decode cc pc = .ok (.putfield index, 3))
    (w' : zk_W) (hu : zk_up w k (.inr (ci, fs.set j v)) w') (kk : ∀ (H1 : Heap) (locs1 : List Loc), zk_H D A w' H1 → va_S A H0 H1 locs1 → W p l e R s m args below meth c H1 locs1 cells slots Q (F0 m (pc + 3) ls rest)) : W p l e R s m args below meth c H locs cells slots Q (F0 m pc ls (v :: .ref (w.1 k) :: rest)) := by
  obtain ⟨ws, hP, hD, hL, hI⟩ := hH
  obtain ⟨i, hi⟩ := hL k hk
  rw [he] at hi
  exact va_putF C.1.1 C.1.2.1 C.1.2.2.2.2 hin ty0 hty hnm C.1.2.2.2.1 C.2.1.1 hP hD hS i hi hc j hj (C.1.2.2.2.2 _ hlink) hsame hfin hin2 hdecl (hty j hj) hn hfit hl hdg (fun H1 locs1 hP1 hD1 hS1 => kk H1 locs1 (zk_set hL hI hk hi hu hP1 hD1) hS1)
theorem zr_new (C : zC p l m c cc nL s args Ts own D tys A g meth) {Cn : String} {T : u_T} {N ci : Nat} (hin : ∀ w ∈ u_ws Cn T N, w ∈ Ts) (hc : vwCl[ci]? = some (Cn, T, N)) (ty : Nat → FieldType) (hty : ∀ k, k < N → parseFieldDescriptor (T k).2.2.1 = some (ty k)) (hcl : Cond.classLink own index Cn ∈ Ts) (hinst : Cond.instantiable Cn N ∈ Ts) (hini : Cond.initialized Cn ∈ Ts)
    (hH : zk_H D A w H) (hS : va_S A s.heap H locs) {fs : List Value} (hfs : ∀ j, j < N → defaultValue (ty j) = vp_V fs j) (hcells : cells + 1 ≤ R.cells) (hslots : slots + N ≤ R.slots) (hdg : decode cc pc = .ok (.new index, 3))
    (k : zk_K) (w' : Nat → zk_W) (hn : ∀ q, zk_nw w k q (.inr (ci, fs)) (w' q)) (kk : ∀ (q : Nat) (H1 : Heap), zk_H D A (w' q) H1 → va_S A s.heap H1 locs → W p l e R s m args below meth c H1 locs (cells + 1) (slots + N) Q (F0 m (pc + 3) ls (.ref q :: rest))) : W p l e R s m args below meth c H locs cells slots Q (F0 m pc ls rest) := by
  obtain ⟨ws, hP, hD, hL, hI⟩ := hH
  exact va_new C.1.1 C.1.2.1 C.1.2.2.2.2 hin ty hty C.1.2.2.2.1 (C.1.2.2.2.2 _ hcl) (C.1.2.2.2.2 _ hinst) (C.1.2.2.2.2 _ hini) C.2.1.1 hP hD hS C.2.1.2.1 hc hfs hcells hslots hdg (fun q H1 hP1 hD1 hS1 => kk q H1 (zk_push hL hI (hn q) hP1 hD1) hS1)
/-! arrays -/
theorem zr_iald (C : zC p l m c cc nL s args Ts own D tys A g meth) (hH : zk_H D A w H) (k : zk_K) (hk : w.2.1 k) {cA : ClassId} {n : Nat} {f : Nat → Int32} (he : w.2.2 k = .inl (cA, n, .inl f)) (t0 : Nat) (ht : tys[t0]? = some (cA, .int)) {i : Int32} {j : Nat} (hi : i = nI j) (hj : j < n) (hn : n < 2 ^ 31) (hdg : decode cc pc = .ok (.iaload, 1))
    (kk : W p l e R s m args below meth c H locs cells slots Q (F0 m (pc + 1) ls (.int (f j) :: rest))) : W p l e R s m args below meth c H locs cells slots Q (F0 m pc ls (.int i :: .ref (w.1 k) :: rest)) := by
  obtain ⟨ws, hP, hD, hL, hI⟩ := hH
  obtain ⟨x, hx⟩ := hL k hk
  rw [he] at hx
  subst hi
  refine va_iald C.1.1 C.1.2.1 C.2.1.1 hP x t0 hx ht (vp_in_nI hj hn) hdg ?_
  rw [nI_clamp (Nat.lt_trans hj hn)]
  exact kk
theorem zr_zald (C : zC p l m c cc nL s args Ts own D tys A g meth) (hH : zk_H D A w H) (k : zk_K) (hk : w.2.1 k) {cA : ClassId} {n : Nat} {f : Nat → Int32} (he : w.2.2 k = .inl (cA, n, .inl f)) (t0 : Nat) (ht : tys[t0]? = some (cA, .boolean)) {i : Int32} {j : Nat} (hi : i = nI j) (hj : j < n) (hn : n < 2 ^ 31) (hdg : decode cc pc = .ok (.baload, 1))
    (kk : W p l e R s m args below meth c H locs cells slots Q (F0 m (pc + 1) ls (.int (f j) :: rest))) : W p l e R s m args below meth c H locs cells slots Q (F0 m pc ls (.int i :: .ref (w.1 k) :: rest)) := by
  obtain ⟨ws, hP, hD, hL, hI⟩ := hH
  obtain ⟨x, hx⟩ := hL k hk
  rw [he] at hx
  subst hi
  refine va_zald C.1.1 C.1.2.1 C.2.1.1 hP x t0 hx ht (vp_in_nI hj hn) hdg ?_
  rw [nI_clamp (Nat.lt_trans hj hn)]
  exact kk
theorem zr_lald (C : zC p l m c cc nL s args Ts own D tys A g meth) (hH : zk_H D A w H) (k : zk_K) (hk : w.2.1 k) {cA : ClassId} {n : Nat} {f : Nat → Int64} (he : w.2.2 k = .inl (cA, n, .inr (.inl f))) (t0 : Nat) (ht : tys[t0]? = some (cA, .long)) {i : Int32} {j : Nat} (hi : i = nI j) (hj : j < n) (hn : n < 2 ^ 31) (hdg : decode cc pc = .ok (.laload, 1))
    (kk : W p l e R s m args below meth c H locs cells slots Q (F0 m (pc + 1) ls (.long (f j) :: rest))) : W p l e R s m args below meth c H locs cells slots Q (F0 m pc ls (.int i :: .ref (w.1 k) :: rest)) := by
  obtain ⟨ws, hP, hD, hL, hI⟩ := hH
  obtain ⟨x, hx⟩ := hL k hk
  rw [he] at hx
  subst hi
  refine va_lald C.1.1 C.1.2.1 C.2.1.1 hP x t0 hx ht (vp_in_nI hj hn) hdg ?_
  rw [nI_clamp (Nat.lt_trans hj hn)]
  exact kk
theorem zr_iast (C : zC p l m c cc nL s args Ts own D tys A g meth) (hH : zk_H D A w H) (hS : va_S A H0 H locs) (k : zk_K) (hk : w.2.1 k) {cA : ClassId} {n : Nat} {f : Nat → Int32} (he : w.2.2 k = .inl (cA, n, .inl f)) (t0 : Nat) (ht : tys[t0]? = some (cA, .int)) {i x : Int32} {j : Nat} (hi : i = nI j) (hj : j < n) (hn : n < 2 ^ 31) (hdg : decode cc pc = .ok (.iastore, 1))
    (w' : zk_W) (hu : zk_up w k (.inl (cA, n, .inl (upd f j x))) w') (kk : ∀ (H1 : Heap) (locs1 : List Loc), zk_H D A w' H1 → va_S A H0 H1 locs1 → W p l e R s m args below meth c H1 locs1 cells slots Q (F0 m (pc + 1) ls rest)) : W p l e R s m args below meth c H locs cells slots Q (F0 m pc ls (.int x :: .int i :: .ref (w.1 k) :: rest)) := by
  obtain ⟨ws, hP, hD, hL, hI⟩ := hH
  obtain ⟨z, hz⟩ := hL k hk
  rw [he] at hz
  subst hi
  refine va_iast C.1.1 C.1.2.1 C.2.1.1 hP hD hS z t0 hz ht (vp_in_nI hj hn) hdg (fun H1 locs1 hP1 hD1 hS1 => ?_)
  rw [nI_clamp (Nat.lt_trans hj hn)] at hP1 hD1
  exact kk H1 locs1 (zk_set hL hI hk hz hu hP1 hD1) hS1
theorem zr_zast (C : zC p l m c cc nL s args Ts own D tys A g meth) (hH : zk_H D A w H) (hS : va_S A H0 H locs) (k : zk_K) (hk : w.2.1 k) {cA : ClassId} {n : Nat} {f : Nat → Int32} (he : w.2.2 k = .inl (cA, n, .inl f)) (t0 : Nat) (ht : tys[t0]? = some (cA, .boolean)) {i x : Int32} (hx : x = 0 ∨ x = 1) {j : Nat} (hi : i = nI j) (hj : j < n) (hn : n < 2 ^ 31) (hdg : decode cc pc = .ok (.bastore, 1))
    (w' : zk_W) (hu : zk_up w k (.inl (cA, n, .inl (upd f j x))) w') (kk : ∀ (H1 : Heap) (locs1 : List Loc), zk_H D A w' H1 → va_S A H0 H1 locs1 → W p l e R s m args below meth c H1 locs1 cells slots Q (F0 m (pc + 1) ls rest)) : W p l e R s m args below meth c H locs cells slots Q (F0 m pc ls (.int x :: .int i :: .ref (w.1 k) :: rest)) := by
  obtain ⟨ws, hP, hD, hL, hI⟩ := hH
  obtain ⟨z, hz⟩ := hL k hk
  rw [he] at hz
  subst hi
  refine va_zast C.1.1 C.1.2.1 C.2.1.1 hP hD hS z t0 hz ht (vp_in_nI hj hn) hdg (fun H1 locs1 hP1 hD1 hS1 => ?_)
  have hb : vp_nar .boolean x = x := by rcases hx with rfl | rfl <;> decide
  rw [nI_clamp (Nat.lt_trans hj hn), hb] at hP1 hD1
  exact kk H1 locs1 (zk_set hL hI hk hz hu hP1 hD1) hS1
theorem zr_last (C : zC p l m c cc nL s args Ts own D tys A g meth) (hH : zk_H D A w H) (hS : va_S A H0 H locs) (k : zk_K) (hk : w.2.1 k) {cA : ClassId} {n : Nat} {f : Nat → Int64} (he : w.2.2 k = .inl (cA, n, .inr (.inl f))) (t0 : Nat) (ht : tys[t0]? = some (cA, .long)) {i : Int32} {x : Int64} {j : Nat} (hi : i = nI j) (hj : j < n) (hn : n < 2 ^ 31) (hdg : decode cc pc = .ok (.lastore, 1))
    (w' : zk_W) (hu : zk_up w k (.inl (cA, n, .inr (.inl (vp_updL f j x)))) w') (kk : ∀ (H1 : Heap) (locs1 : List Loc), zk_H D A w' H1 → va_S A H0 H1 locs1 → W p l e R s m args below meth c H1 locs1 cells slots Q (F0 m (pc + 1) ls rest)) : W p l e R s m args below meth c H locs cells slots Q (F0 m pc ls (.long x :: .int i :: .ref (w.1 k) :: rest)) := by
  obtain ⟨ws, hP, hD, hL, hI⟩ := hH
  obtain ⟨z, hz⟩ := hL k hk
  rw [he] at hz
  subst hi
  refine va_last C.1.1 C.1.2.1 C.2.1.1 hP hD hS z t0 hz ht (vp_in_nI hj hn) hdg (fun H1 locs1 hP1 hD1 hS1 => ?_)
  rw [nI_clamp (Nat.lt_trans hj hn)] at hP1 hD1
  exact kk H1 locs1 (zk_set hL hI hk hz hu hP1 hD1) hS1
theorem zr_alen (C : zC p l m c cc nL s args Ts own D tys A g meth) (hH : zk_H D A w H) (k : zk_K) (hk : w.2.1 k) {cA : ClassId} {x : vp_A} (he : w.2.2 k = .inl (cA, x)) (t0 : Nat) {ty : FieldType} (ht : tys[t0]? = some (cA, ty)) (hdg : decode cc pc = .ok (.arraylength, 1))
    (kk : W p l e R s m args below meth c H locs cells slots Q (F0 m (pc + 1) ls (.int (nI x.1) :: rest))) : W p l e R s m args below meth c H locs cells slots Q (F0 m pc ls (.ref (w.1 k) :: rest)) := by
  obtain ⟨ws, hP, hD, hL, hI⟩ := hH
  obtain ⟨z, hz⟩ := hL k hk
  rw [he] at hz
  exact va_alen C.1.1 C.1.2.1 C.2.1.1 hP z t0 hz ht rfl hdg kk
/-- a new array of numbers, of a class that is known already -/
theorem zr_newa (C : zC p l m c cc nL s args Ts own D tys A g meth) (atype : ArrayType) {ty : FieldType} (hty : newarray.typeOf atype = ty) (hprim : ∀ C, ty ≠ .object C) (harr : Cond.arrayClass ty ∈ Ts) (t0 : Nat) {cA : ClassId} (ht : tys[t0]? = some (cA, ty)) (hH : zk_H D A w H) (hS : va_S A s.heap H locs) {n : Int32} {N' : Nat} {a0 : vp_A} (ha : ∀ cA : ClassId, vp_cell cA a0 = arrV cA N' (fun _ => defaultValue ty))
    (hn : ¬ n < 0) (hN : n.toNatClampNeg = N') (hbytes : N' * componentBytes ty ≤ 536870912) (hcells : cells + 1 ≤ R.cells) (hslots : slots + N' ≤ R.slots) (hdg : decode cc pc = .ok (.newarray atype, 2))
    (k : zk_K) (w' : Nat → zk_W) (hnw : ∀ q, zk_nw w k q (.inl (cA, a0)) (w' q)) (kk : ∀ (q : Nat) (H1 : Heap), zk_H D A (w' q) H1 → va_S A s.heap H1 locs → W p l e R s m args below meth c H1 locs (cells + 1) (slots + N') Q (F0 m (pc + 2) ls (.ref q :: rest))) : W p l e R s m args below meth c H locs cells slots Q (F0 m pc ls (.int n :: rest)) := by
  obtain ⟨ws, hP, hD, hL, hI⟩ := hH
  subst hty
  refine va_newa C.1.1 C.1.2.1 (C.1.2.2.2.2 _ harr) rfl C.2.1.1 hP hD hS C.2.1.2.1 ha hn hN hbytes hcells hslots hdg (fun q cB H1 hK1 hP1 hD1 hS1 => ?_)
  have e1 : s.vm.findClass ("[" ++ (newarray.typeOf atype).toString) = some cA := by
    have := (C.2.1.1.2 t0 _ ht).2
    cases atype <;> exact this
  have e2 : s.vm.findClass ("[" ++ (newarray.typeOf atype).toString) = some cB := by
    have := (hK1.2 tys.length (cB, newarray.typeOf atype) (by rw [List.getElem?_append_right (Nat.le_refl _), Nat.sub_self]; rfl)).2
    cases atype <;> exact this
  cases e1.symm.trans e2
  exact kk q H1 (zk_push hL hI (hnw q) hP1 hD1) hS1
end ZR
section ZL
variable {p : Program} {l : Launch} {e : Env} {R : Room} {s : State} {m : MethodId} {args : Array Value} {below : List Frame} {meth : Method} {c : Code} {H : Heap} {locs : List Loc} {cells slots : Nat} {Q : State → Prop}
variable {cc : ByteArray} {pc : Nat} {ls : Array Slot} {rest : List Value}
theorem zl_cmp_eq (hx : p.tables.exec = Jvm.exec) (hb : c.code = cc) {x y : Int64} {off : Int} {tgt : Nat} (d1 : decode cc pc = .ok (.lcmp, 1)) (d2 : decode cc (pc + 1) = .ok (.ifCond .eq off, 3)) (ht : ((pc + 1 : Nat) : Int) + off = (tgt : Int))
    (kt : x = y → W p l e R s m args below meth c H locs cells slots Q (F0 m tgt ls rest)) (kf : ¬ x = y → W p l e R s m args below meth c H locs cells slots Q (F0 m (pc + 1 + 3) ls rest)) : W p l e R s m args below meth c H locs cells slots Q (F0 m pc ls (.long y :: .long x :: rest)) :=
  W.lcmp hx hb d1 (lv_if_eq hx hb d2 ht (fun h => kt ((lg_cmp_eq x y).mp h)) (fun h => kf (fun z => h ((lg_cmp_eq x y).mpr z))))
theorem zl_cmp_ne (hx : p.tables.exec = Jvm.exec) (hb : c.code = cc) {x y : Int64} {off : Int} {tgt : Nat} (d1 : decode cc pc = .ok (.lcmp, 1)) (d2 : decode cc (pc + 1) = .ok (.ifCond .ne off, 3)) (ht : ((pc + 1 : Nat) : Int) + off = (tgt : Int))
    (kt : ¬ x = y → W p l e R s m args below meth c H locs cells slots Q (F0 m tgt ls rest)) (kf : x = y → W p l e R s m args below meth c H locs cells slots Q (F0 m (pc + 1 + 3) ls rest)) : W p l e R s m args below meth c H locs cells slots Q (F0 m pc ls (.long y :: .long x :: rest)) :=
  W.lcmp hx hb d1 (lv_if_ne hx hb d2 ht (fun h => kt (fun z => h ((lg_cmp_eq x y).mpr z))) (fun h => kf ((lg_cmp_eq x y).mp h)))
theorem zl_cmp_lt (hx : p.tables.exec = Jvm.exec) (hb : c.code = cc) {x y : Int64} {off : Int} {tgt : Nat} (d1 : decode cc pc = .ok (.lcmp, 1)) (d2 : decode cc (pc + 1) = .ok (.ifCond .lt off, 3)) (ht : ((pc + 1 : Nat) : Int) + off = (tgt : Int))
    (kt : x < y → W p l e R s m args below meth c H locs cells slots Q (F0 m tgt ls rest)) (kf : ¬ x < y → W p l e R s m args below meth c H locs cells slots Q (F0 m (pc + 1 + 3) ls rest)) : W p l e R s m args below meth c H locs cells slots Q (F0 m pc ls (.long y :: .long x :: rest)) :=
  W.lcmp hx hb d1 (lv_if_lt hx hb d2 ht (fun h => kt ((lg_cmp_lt x y).mp h)) (fun h => kf (fun z => h ((lg_cmp_lt x y).mpr z))))
theorem zl_cmp_gt (hx : p.tables.exec = Jvm.exec) (hb : c.code = cc) {x y : Int64} {off : Int} {tgt : Nat} (d1 : decode cc pc = .ok (.lcmp, 1)) (d2 : decode cc (pc + 1) = .ok (.ifCond .gt off, 3)) (ht : ((pc + 1 : Nat) : Int) + off = (tgt : Int))
    (kt : y < x → W p l e R s m args below meth c H locs cells slots Q (F0 m tgt ls rest)) (kf : ¬ y < x → W p l e R s m args below meth c H locs cells slots Q (F0 m (pc + 1 + 3) ls rest)) : W p l e R s m args below meth c H locs cells slots Q (F0 m pc ls (.long y :: .long x :: rest)) :=
  W.lcmp hx hb d1 (lv_if_gt hx hb d2 ht (fun h => kt ((lg_cmp_gt x y).mp h)) (fun h => kf (fun z => h ((lg_cmp_gt x y).mpr z))))
theorem zl_cmp_ge (hx : p.tables.exec = Jvm.exec) (hb : c.code = cc) {x y : Int64} {off : Int} {tgt : Nat} (d1 : decode cc pc = .ok (.lcmp, 1)) (d2 : decode cc (pc + 1) = .ok (.ifCond .ge off, 3)) (ht : ((pc + 1 : Nat) : Int) + off = (tgt : Int))
    (kt : ¬ x < y → W p l e R s m args below meth c H locs cells slots Q (F0 m tgt ls rest)) (kf : x < y → W p l e R s m args below meth c H locs cells slots Q (F0 m (pc + 1 + 3) ls rest)) : W p l e R s m args below meth c H locs cells slots Q (F0 m pc ls (.long y :: .long x :: rest)) :=
  W.lcmp hx hb d1 (lv_if_ge hx hb d2 ht (fun h => kt (Int64.not_lt.mpr ((lg_cmp_ge x y).mp h))) (fun h => kf (Int64.not_le.mp (fun z => h ((lg_cmp_ge x y).mpr z)))))
theorem zl_cmp_le (hx : p.tables.exec = Jvm.exec) (hb : c.code = cc) {x y : Int64} {off : Int} {tgt : Nat} (d1 : decode cc pc = .ok (.lcmp, 1)) (d2 : decode cc (pc + 1) = .ok (.ifCond .le off, 3)) (ht : ((pc + 1 : Nat) : Int) + off = (tgt : Int))
    (kt : ¬ y < x → W p l e R s m args below meth c H locs cells slots Q (F0 m tgt ls rest)) (kf : y < x → W p l e R s m args below meth c H locs cells slots Q (F0 m (pc + 1 + 3) ls rest)) : W p l e R s m args below meth c H locs cells slots Q (F0 m pc ls (.long y :: .long x :: rest)) :=
  W.lcmp hx hb d1 (lv_if_le hx hb d2 ht (fun h => kt (Int64.not_lt.mpr ((lg_cmp_le x y).mp h))) (fun h => kf (Int64.not_le.mp (fun z => h ((lg_cmp_le x y).mpr z)))))
end ZL
/-- a place of a walk: every heap that holds the world -/
def zL (p : Program) (l : Launch) (e : Env) (R : Room) (s : State) (m : MethodId) (args : Array Value) (below : List Frame) (meth : Method) (c : Code) (nL : Nat) (D : va_G) (A : Nat → Prop) (Q : State → Prop) (w : zk_W) (cells slots pc : Nat) (lc : List (Nat × Value)) (st : List Value) : Prop :=
  ∀ (H : Heap) (locs : List Loc) (ls : Array Slot), zk_H D A w H → va_S A s.heap H locs → lv_has ls nL lc → W p l e R s m args below meth c H locs cells slots Q (F0 m pc ls st)
theorem z_loop {P : Nat → Prop} {n : Nat} (hx : P n) (hs : ∀ i, i < n → P (i + 1) → P i) : ∀ i, i ≤ n → P i := by
  intro i hi
  induction hk : n - i generalizing i with
  | zero => rw [show i = n by omega]; exact hx
  | succ k ih => exact hs i (by omega) (ih (i + 1) (by omega) (by omega))
theorem z_at {P : Nat → Prop} {G : Prop} {n : Nat} (i0 : Nat) (hi : i0 ≤ n) (use : P i0 → G) (hx : P n) (hs : ∀ i, i < n → P (i + 1) → P i) : G := use (z_loop hx hs i0 hi)
