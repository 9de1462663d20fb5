/-! ===== a contract beside another world; methods with handlers ===== -/
theorem zk_H.mono {D : va_G} {A B : Nat → Prop} {w : zk_W} {H : Heap} (h : zk_H D A w H) (hAB : ∀ q, A q → B q) : zk_H D B w H := by
  obtain ⟨ws, hP, hD, hL, hI⟩ := h
  exact ⟨ws, hP, va_D_mono hD hAB, hL, hI⟩
section FR
variable {l : Launch} {y : MethodName} {ws ws' : List Cond} {rm : Room} {D : va_G} {tys : List (ClassId × FieldType)} {g : Nat → Nat} {av : List Value} {w1 w2 : zk_W} {P : Option Value → zk_W → Prop} {PX : String → zk_W → Prop} {n : Nat}
theorem zX_sumL (hM : ∀ A, zX l y ws rm D tys A g av w1 P PX) (hn : ∀ k, w1.2.1 k → k.1 < n) (A : Nat → Prop) : zX l y ws rm D tys A g av (zk_sum n w1 w2) (fun v W' => ∃ w1', P v w1' ∧ zk_sum n w1' w2 = W') (fun E W' => ∃ w1', PX E w1' ∧ zk_sum n w1' w2 = W') := by
  intro p e ha hc hk s m args below hf happ hP _
  obtain ⟨rfl, hH, hG⟩ := hP
  obtain ⟨A1, A2, h1, h2, hA, hd⟩ := zk_side hH hn
  have hsz := hG.2.1
  have hAA : ∀ q, (A1 q ∨ s.heap.size ≤ q) → A q := fun q z => z.elim (fun z => (hA q (Or.inl z)).1) (hsz q)
  obtain ⟨k, o, r1, r2, r3, r4⟩ := hM (fun q => A1 q ∨ s.heap.size ≤ q) p e ha hc hk s m _ below hf happ ⟨rfl, h1.mono (fun q z => Or.inl z), hG.narrow hAA (fun q z => Or.inr z)⟩ trivial
  refine ⟨k, o, r1, r2, r3, ?_⟩
  rcases r4 with ⟨⟨⟨v, w', ho, hPv, hH'⟩, hF⟩, L, hFE, hL⟩ | ⟨q, ho, E, ce, L, ⟨⟨w', hPX, hH'⟩, hF⟩, q1, q2, q3, q4, q5, q6⟩
  · obtain ⟨b1, b2⟩ := zk_backL (n := n) h2 hA hd hsz hF hH'
    exact Or.inl ⟨⟨⟨v, _, ho, ⟨w', hPv, rfl⟩, b1⟩, b2⟩, L, hFE, fun z hz => hAA _ (hL z hz)⟩
  · obtain ⟨b1, b2⟩ := zk_backL (n := n) h2 hA hd hsz hF hH'
    exact Or.inr ⟨q, ho, E, ce, L, ⟨⟨_, ⟨w', hPX, rfl⟩, b1⟩, b2⟩, q1, q2, q3, q4, q5, fun z hz => hAA _ (q6 z hz)⟩
theorem zM_sumL (hM : ∀ A, zM l y ws rm D tys A g av w1 P) (hn : ∀ k, w1.2.1 k → k.1 < n) (A : Nat → Prop) : zM l y ws rm D tys A g av (zk_sum n w1 w2) (fun v W' => ∃ w1', P v w1' ∧ zk_sum n w1' w2 = W') := by
  intro p e ha hc hk s m args below hf happ hP _
  obtain ⟨rfl, hH, hG⟩ := hP
  obtain ⟨A1, A2, h1, h2, hA, hd⟩ := zk_side hH hn
  have hsz := hG.2.1
  have hAA : ∀ q, (A1 q ∨ s.heap.size ≤ q) → A q := fun q z => z.elim (fun z => (hA q (Or.inl z)).1) (hsz q)
  obtain ⟨k, o, r1, r2, r3, ⟨⟨v, w', ho, hPv, hH'⟩, hF⟩, L, hFE, hL⟩ := hM (fun q => A1 q ∨ s.heap.size ≤ q) p e ha hc hk s m _ below hf happ ⟨rfl, h1.mono (fun q z => Or.inl z), hG.narrow hAA (fun q z => Or.inr z)⟩ trivial
  obtain ⟨b1, b2⟩ := zk_backL (n := n) h2 hA hd hsz hF hH'
  exact ⟨k, o, r1, r2, r3, ⟨⟨v, _, ho, ⟨w', hPv, rfl⟩, b1⟩, b2⟩, L, hFE, fun z hz => hAA _ (hL z hz)⟩
theorem zM_sumR (hM : ∀ A, zM l y ws rm D tys A g av w2 P) (hn : ∀ k, w1.2.1 k → k.1 < n) (A : Nat → Prop) : zM l y ws rm D tys A g av (zk_sum n w1 w2) (fun v W' => ∃ w2', P v w2' ∧ zk_sum n w1 w2' = W') := by
  intro p e ha hc hk s m args below hf happ hP _
  obtain ⟨rfl, hH, hG⟩ := hP
  obtain ⟨A1, A2, h1, h2, hA, hd⟩ := zk_side hH hn
  have hsz := hG.2.1
  have hAA : ∀ q, (A2 q ∨ s.heap.size ≤ q) → A q := fun q z => z.elim (fun z => (hA q (Or.inr z)).1) (hsz q)
  obtain ⟨k, o, r1, r2, r3, ⟨⟨v, w', ho, hPv, hH'⟩, hF⟩, L, hFE, hL⟩ := hM (fun q => A2 q ∨ s.heap.size ≤ q) p e ha hc hk s m _ below hf happ ⟨rfl, h2.mono (fun q z => Or.inl z), hG.narrow hAA (fun q z => Or.inr z)⟩ trivial
  obtain ⟨b1, b2⟩ := zk_backR (n := n) h1 hA hd hsz hF hH'
  exact ⟨k, o, r1, r2, r3, ⟨⟨v, _, ho, ⟨w', hPv, rfl⟩, b1⟩, b2⟩, L, hFE, fun z hz => hAA _ (hL z hz)⟩
variable {A : Nat → Prop} {w : zk_W} {cc : ByteArray} {maxL : Nat} {ret : Option FieldType} {own : String} {hh : List (Nat × Nat × Nat × Nat)}
/-- a method with handlers, that returns -/
theorem zM_ofH (hy : plainName y.cls = true) (hw : ws = Cond.codeWith y cc maxL ret hh :: ws') (hav : (lg_sl av).length ≤ maxL) (ho : y.cls = own)
    (body : ∀ (p : Program) (e : Env) (s : State) (m : MethodId) (below : List Frame) (meth : Method) (c : Code), zC p l m c cc maxL s av.toArray ws own D tys A g meth → meth.sig.returnType = ret → c.exceptionTable.toList = tableOf hh →
      ∀ (H : Heap) (locs : List Loc) (ls : Array Slot), zk_H D A w H → va_S A s.heap H locs → lv_has ls maxL (lv_args 0 av) →
      W p l e rm s m av.toArray below meth c H locs 0 0 (MQ below (fun _ => zk_Qc D A P) av.toArray s rm.cells rm.slots A) (F0 m 0 ls [])) : zM l y ws rm D tys A g av w P := by
  show MetFree l y (headSpec ws rm) (zk_Pc D tys A g av w) (fun _ _ _ _ _ => True) (fun _ st o t => zk_Qc D A P st o t ∧ ∃ L, FrameEnd st o t L rm.cells rm.slots ∧ ∀ q ∈ L, A q.base)
  refine MetFree.of_bodyS (code := cc) (maxLocals := maxL) (ret := ret) hy ?_ ?_
  · intro args s m h hn
    obtain ⟨m9, meth, c, hn9, h1, h2, h3, h4, -, h5, h6, -⟩ := Cond.codeWith_spec (atoms_spec (ws := ws) h _ (by rw [hw]; exact List.mem_cons_self))
    cases hn.symm.trans hn9
    exact ⟨meth, c, h1, h2, h3, h4, h5, h6⟩
  · intro p e s m args below meth c s₁ B hml hv _
    obtain ⟨rfl, hH, hG⟩ := hv
    have hh0 : s₁.heap = s.heap := by rw [B.state]; rfl
    have hown : s.vm.findClass own = some m.cls := ho ▸ findClass_of_methodNamed B.named
    have hl := lv_entry av (n := maxL) hav
    have htab : c.exceptionTable.toList = tableOf hh := vx_table (x := y) B (atoms_spec (ws := ws) B.pre _ (by rw [hw]; exact List.mem_cons_self))
    have hbody := body p e s m below meth c ⟨⟨B.exec, B.bytes, hml, hown, atoms_spec (ws := ws) B.pre⟩, hG, B.notSynchronized⟩ B.returns htab s.heap [] _ hH va_S.rf hl
    rw [← lg_entry_eq] at hbody
    obtain ⟨t, a1, o, b1, b2, b3⟩ := hbody s₁ hh0 (Stand.of_body B)
    exact ⟨t, o, a1, b1, b2, ⟨b3.1, b3.2⟩⟩
end FR
section FR2
variable {p : Program} {l : Launch} {e : Env} {R : Room} {s : State} {m : MethodId} {args : Array Value} {below : List Frame} {meth : Method} {c : Code} {H : Heap} {locs : List Loc} {cells slots : Nat} {Q : State → Prop}
variable {cc : ByteArray} {pc nL : Nat} {ls : Array Slot} {rest st0 : List Value} {D : va_G} {tys : List (ClassId × FieldType)} {A : Nat → Prop} {g : Nat → Nat} {Ts : List Cond} {own : String} {w w' : zk_W} {H0 : Heap}
variable {P : Option Value → zk_W → Prop} {lc : List (Nat × Value)} {y : MethodName} {bytes : ByteArray} {maxL n index : Nat} {ret : Option FieldType} {ws ws' : List Cond} {rm : Room} {As : List Value} {hh : List (Nat × Nat × Nat × Nat)}
/-- invokestatic of a method with handlers -/
theorem zk_rSH (C : zC p l m c cc nL s args Ts own D tys A g meth) (hM : zM l y ws rm D tys A g As w P) (hH : zk_H D A w H) (hS : va_S A s.heap H locs)
    (hT : GoodIn Ts (va_wsS own index y ws)) (hw : ws = Cond.codeWith y bytes maxL ret hh :: ws') (hn : As.length = n)
    (hd : y.cls ≠ "java/lang/invoke/MethodHandle" ∧ y.cls ≠ "java/lang/invoke/VarHandle" ∧ (parseMethodDescriptor y.desc).map (fun d => d.parameters.length) = some n) (hR : rm.frames + 1 ≤ R.frames ∧ 8 + (maxL + 11) + rm.locals ≤ R.locals)
    (hl : lv_has ls nL lc) (hst : st0 = As.reverse ++ rest) (hW : (rest.map fun v => v.category).sum ≤ 8) (hdg : decode cc pc = .ok (.invokestatic index, 3)) (hf : cells + rm.cells ≤ R.cells ∧ slots + rm.slots ≤ R.slots) :
    va_Run p l e R s m args below meth c H locs cells slots rm.cells rm.slots (F0 m pc ls st0) rest (zk_Qc D A P) A :=
  vx_runSW (As := As) (rest := rest) C.1 hM (vx_cwSW n C.1.2.2.2.2 hT hw rfl rfl hd hR) (zk_pre C hH hS _) rfl hn hl.1 hst (lv_room (pc := pc) (ls := ls) hW) hdg hf
/-- a handler of the law's catches what is thrown -/
theorem zx_catch {E : String} {ce : Cell} {q : Addr} (C : zC p l m c cc nL s args Ts own D tys A g meth) (htab : c.exceptionTable.toList = tableOf hh) (pre : List ExceptionTableEntry) (x : ExceptionTableEntry) (suf : List ExceptionTableEntry) (hsplit : tableOf hh = pre ++ x :: suf)
    (hE : E ∈ zg_X) (hlink : Cond.classLink own x.catchType E ∈ Ts) (hpass : ∀ z ∈ pre, z.catchType ≠ 0 ∧ ∃ nm : String, Cond.classLink own z.catchType nm ∈ Ts ∧ (E, nm) ∈ zg_Nc) (hx : covers x pc = true) (h0 : x.catchType ≠ 0) (hcell : H[q]? = some ce) (hv : ce.vm = .none) (hcl : s.vm.findClass E = some ce.cls)
    (kk : W p l e R s m args below meth c H locs cells slots Q (F0 m x.handlerPc ls [.ref q])) : vx_W p l e R s m args below meth c H locs cells slots Q (F0 m pc ls rest) q := by
  refine vx_catch (own := own) (name := E) C.1.2.2.2.1 pre x suf (htab.trans hsplit) (fun z hz => ?_) hx h0 (C.1.2.2.2.2 _ hlink) ?_ hcell hv hcl kk
  · obtain ⟨z1, nm, z2, z3⟩ := hpass z hz
    exact Or.inr ⟨z1, nm, C.1.2.2.2.2 _ z2, C.2.1.2.2.2.2.2.2.2.2.2.1 (E, nm) z3⟩
  · exact va_Nw.use rfl (C.2.1.2.2.2.2.2.2.2.2.1 E hE)
end FR2
