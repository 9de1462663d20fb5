section
-- ===== PART A: goes FIRST, ahead of the names: the tables' words, and 'selects' of the private methods out of them =====
/-- a private method of a class that the tables say can be made, by its rows of tables_1 -/
def lw_okq (q : MethodName × Nat) : Prop := (q.1.cls ≠ "java/lang/invoke/MethodHandle" ∧ q.1.cls ≠ "java/lang/invoke/VarHandle") ∧ Cond.instantiable q.1.cls q.2 ∈ tables_1 ∧ Cond.privateMethod q.1 ∈ tables_1 ∧ Cond.instanceMethod q.1 ∈ tables_1
theorem lw_p0 : lw_okq (⟨"java/util/ArrayList", "add", "(Ljava/lang/Object;[Ljava/lang/Object;I)V"⟩, 3) := ⟨⟨by decide +kernel, by decide +kernel⟩, List.mem_of_getElem? (i := 30) (by decide +kernel), List.mem_of_getElem? (i := 81) (by decide +kernel), List.mem_of_getElem? (i := 82) (by decide +kernel)⟩
theorem lw_p1 : lw_okq (⟨"java/util/ArrayList", "grow", "()[Ljava/lang/Object;"⟩, 3) := ⟨⟨by decide +kernel, by decide +kernel⟩, List.mem_of_getElem? (i := 30) (by decide +kernel), List.mem_of_getElem? (i := 85) (by decide +kernel), List.mem_of_getElem? (i := 86) (by decide +kernel)⟩
theorem lw_p2 : lw_okq (⟨"java/util/ArrayList", "grow", "(I)[Ljava/lang/Object;"⟩, 3) := ⟨⟨by decide +kernel, by decide +kernel⟩, List.mem_of_getElem? (i := 30) (by decide +kernel), List.mem_of_getElem? (i := 89) (by decide +kernel), List.mem_of_getElem? (i := 90) (by decide +kernel)⟩
theorem lw_p3 : lw_okq (⟨"SavingsHall", "clientAt", "(I)LSavingsHall$Client;"⟩, 5) := ⟨⟨by decide +kernel, by decide +kernel⟩, List.mem_of_getElem? (i := 22) (by decide +kernel), List.mem_of_getElem? (i := 153) (by decide +kernel), List.mem_of_getElem? (i := 154) (by decide +kernel)⟩
theorem lw_p4 : lw_okq (⟨"java/lang/Throwable", "fillInStackTrace", "(I)Ljava/lang/Throwable;"⟩, 6) := ⟨⟨by decide +kernel, by decide +kernel⟩, List.mem_of_getElem? (i := 202) (by decide +kernel), List.mem_of_getElem? (i := 200) (by decide +kernel), List.mem_of_getElem? (i := 201) (by decide +kernel)⟩
theorem lw_p5 : lw_okq (⟨"SavingsHall", "fundAt", "(I)LSavingsHall$Fund;"⟩, 5) := ⟨⟨by decide +kernel, by decide +kernel⟩, List.mem_of_getElem? (i := 22) (by decide +kernel), List.mem_of_getElem? (i := 261) (by decide +kernel), List.mem_of_getElem? (i := 262) (by decide +kernel)⟩
theorem lw_p6 : lw_okq (⟨"SavingsHall", "holdingAt", "(II)LSavingsHall$Holding;"⟩, 5) := ⟨⟨by decide +kernel, by decide +kernel⟩, List.mem_of_getElem? (i := 22) (by decide +kernel), List.mem_of_getElem? (i := 367) (by decide +kernel), List.mem_of_getElem? (i := 368) (by decide +kernel)⟩
theorem lw_p7 : lw_okq (⟨"SavingsHall", "makeTrade", "(LSavingsHall$Holding;JJ)I"⟩, 5) := ⟨⟨by decide +kernel, by decide +kernel⟩, List.mem_of_getElem? (i := 22) (by decide +kernel), List.mem_of_getElem? (i := 390) (by decide +kernel), List.mem_of_getElem? (i := 391) (by decide +kernel)⟩
theorem lw_p8 : lw_okq (⟨"SavingsHall", "exchange", "(LSavingsHall$Holding;JJ)V"⟩, 5) := ⟨⟨by decide +kernel, by decide +kernel⟩, List.mem_of_getElem? (i := 22) (by decide +kernel), List.mem_of_getElem? (i := 443) (by decide +kernel), List.mem_of_getElem? (i := 444) (by decide +kernel)⟩
theorem lw_p9 : lw_okq (⟨"SavingsHall", "tradeUnits", "(LSavingsHall$Fund;J)V"⟩, 5) := ⟨⟨by decide +kernel, by decide +kernel⟩, List.mem_of_getElem? (i := 22) (by decide +kernel), List.mem_of_getElem? (i := 448) (by decide +kernel), List.mem_of_getElem? (i := 449) (by decide +kernel)⟩
theorem lw_p10 : lw_okq (⟨"SavingsHall", "enterIntoLots", "(LSavingsHall$Trade;)V"⟩, 5) := ⟨⟨by decide +kernel, by decide +kernel⟩, List.mem_of_getElem? (i := 22) (by decide +kernel), List.mem_of_getElem? (i := 452) (by decide +kernel), List.mem_of_getElem? (i := 453) (by decide +kernel)⟩
theorem lw_p11 : lw_okq (⟨"SavingsHall", "takeCostFromLots", "(LSavingsHall$Trade;)J"⟩, 5) := ⟨⟨by decide +kernel, by decide +kernel⟩, List.mem_of_getElem? (i := 22) (by decide +kernel), List.mem_of_getElem? (i := 460) (by decide +kernel), List.mem_of_getElem? (i := 461) (by decide +kernel)⟩
theorem lw_p12 : lw_okq (⟨"SavingsHall", "sellTooMuch", "(LSavingsHall$Holding;J)V"⟩, 5) := ⟨⟨by decide +kernel, by decide +kernel⟩, List.mem_of_getElem? (i := 22) (by decide +kernel), List.mem_of_getElem? (i := 490) (by decide +kernel), List.mem_of_getElem? (i := 491) (by decide +kernel)⟩
theorem lw_p13 : lw_okq (⟨"SavingsHall", "buyWhatLacks", "(LSavingsHall$Holding;J)V"⟩, 5) := ⟨⟨by decide +kernel, by decide +kernel⟩, List.mem_of_getElem? (i := 22) (by decide +kernel), List.mem_of_getElem? (i := 498) (by decide +kernel), List.mem_of_getElem? (i := 499) (by decide +kernel)⟩
theorem lw_p14 : lw_okq (⟨"SavingsHall", "tradeAt", "(I)LSavingsHall$Trade;"⟩, 5) := ⟨⟨by decide +kernel, by decide +kernel⟩, List.mem_of_getElem? (i := 22) (by decide +kernel), List.mem_of_getElem? (i := 506) (by decide +kernel), List.mem_of_getElem? (i := 507) (by decide +kernel)⟩
theorem lw_p15 : lw_okq (⟨"SavingsHall", "salesKeepTheirParts", "(LSavingsHall$Trade;)Z"⟩, 5) := ⟨⟨by decide +kernel, by decide +kernel⟩, List.mem_of_getElem? (i := 22) (by decide +kernel), List.mem_of_getElem? (i := 510) (by decide +kernel), List.mem_of_getElem? (i := 511) (by decide +kernel)⟩
def lw_privs_1 : List (MethodName × Nat) := [(⟨"java/util/ArrayList", "add", "(Ljava/lang/Object;[Ljava/lang/Object;I)V"⟩, 3), (⟨"java/util/ArrayList", "grow", "()[Ljava/lang/Object;"⟩, 3), (⟨"java/util/ArrayList", "grow", "(I)[Ljava/lang/Object;"⟩, 3), (⟨"SavingsHall", "clientAt", "(I)LSavingsHall$Client;"⟩, 5), (⟨"java/lang/Throwable", "fillInStackTrace", "(I)Ljava/lang/Throwable;"⟩, 6), (⟨"SavingsHall", "fundAt", "(I)LSavingsHall$Fund;"⟩, 5), (⟨"SavingsHall", "holdingAt", "(II)LSavingsHall$Holding;"⟩, 5), (⟨"SavingsHall", "makeTrade", "(LSavingsHall$Holding;JJ)I"⟩, 5), (⟨"SavingsHall", "exchange", "(LSavingsHall$Holding;JJ)V"⟩, 5), (⟨"SavingsHall", "tradeUnits", "(LSavingsHall$Fund;J)V"⟩, 5), (⟨"SavingsHall", "enterIntoLots", "(LSavingsHall$Trade;)V"⟩, 5), (⟨"SavingsHall", "takeCostFromLots", "(LSavingsHall$Trade;)J"⟩, 5), (⟨"SavingsHall", "sellTooMuch", "(LSavingsHall$Holding;J)V"⟩, 5), (⟨"SavingsHall", "buyWhatLacks", "(LSavingsHall$Holding;J)V"⟩, 5), (⟨"SavingsHall", "tradeAt", "(I)LSavingsHall$Trade;"⟩, 5), (⟨"SavingsHall", "salesKeepTheirParts", "(LSavingsHall$Trade;)Z"⟩, 5)]
theorem lw_r1 : ∀ q ∈ lw_privs_1, lw_okq q := List.forall_mem_cons.mpr ⟨lw_p0, List.forall_mem_cons.mpr ⟨lw_p1, List.forall_mem_cons.mpr ⟨lw_p2, List.forall_mem_cons.mpr ⟨lw_p3, List.forall_mem_cons.mpr ⟨lw_p4, List.forall_mem_cons.mpr ⟨lw_p5, List.forall_mem_cons.mpr ⟨lw_p6, List.forall_mem_cons.mpr ⟨lw_p7, List.forall_mem_cons.mpr ⟨lw_p8, List.forall_mem_cons.mpr ⟨lw_p9, List.forall_mem_cons.mpr ⟨lw_p10, List.forall_mem_cons.mpr ⟨lw_p11, List.forall_mem_cons.mpr ⟨lw_p12, List.forall_mem_cons.mpr ⟨lw_p13, List.forall_mem_cons.mpr ⟨lw_p14, List.forall_mem_cons.mpr ⟨lw_p15, fun _ h => absurd h List.not_mem_nil⟩⟩⟩⟩⟩⟩⟩⟩⟩⟩⟩⟩⟩⟩⟩⟩
theorem lw_p16 : lw_okq (⟨"SavingsHall", "findLotsAnew", "(LSavingsHall$Client;)V"⟩, 5) := ⟨⟨by decide +kernel, by decide +kernel⟩, List.mem_of_getElem? (i := 22) (by decide +kernel), List.mem_of_getElem? (i := 514) (by decide +kernel), List.mem_of_getElem? (i := 515) (by decide +kernel)⟩
theorem lw_p17 : lw_okq (⟨"SavingsHall", "settleTaxes", "(LSavingsHall$Client;)J"⟩, 5) := ⟨⟨by decide +kernel, by decide +kernel⟩, List.mem_of_getElem? (i := 22) (by decide +kernel), List.mem_of_getElem? (i := 521) (by decide +kernel), List.mem_of_getElem? (i := 522) (by decide +kernel)⟩
theorem lw_p18 : lw_okq (⟨"SavingsHall", "endDay", "()V"⟩, 5) := ⟨⟨by decide +kernel, by decide +kernel⟩, List.mem_of_getElem? (i := 22) (by decide +kernel), List.mem_of_getElem? (i := 536) (by decide +kernel), List.mem_of_getElem? (i := 537) (by decide +kernel)⟩
def lw_privs_2 : List (MethodName × Nat) := [(⟨"SavingsHall", "findLotsAnew", "(LSavingsHall$Client;)V"⟩, 5), (⟨"SavingsHall", "settleTaxes", "(LSavingsHall$Client;)J"⟩, 5), (⟨"SavingsHall", "endDay", "()V"⟩, 5)]
theorem lw_r2 : ∀ q ∈ lw_privs_2, lw_okq q := List.forall_mem_cons.mpr ⟨lw_p16, List.forall_mem_cons.mpr ⟨lw_p17, List.forall_mem_cons.mpr ⟨lw_p18, fun _ h => absurd h List.not_mem_nil⟩⟩⟩
def lw_privs : List (MethodName × Nat) := lw_privs_1 ++ (lw_privs_2)
def lw_tbl : List Cond := k2_sels lw_privs ++ tables_1
theorem lw_privs_ok : ∀ q ∈ lw_privs, lw_okq q := by
  show ∀ q ∈ lw_privs_1 ++ (lw_privs_2), lw_okq q
  exact List.forall_mem_append.mpr ⟨lw_r1, lw_r2⟩
-- ===== end of PART A; then your names; then what follows =====
end
section
/-! ===== BEGIN words of one list among another's, by their places ===== -/
theorem goodIn_r {big : List Cond} (ws : List Cond) (ps : List Nat) (hp : ws = ps.filterMap (fun i => big[i]?)) (h : ws.all goodWord = true) : GoodIn big ws := by
  intro w hw
  have h1 := List.all_eq_true.mp h w hw
  rw [hp] at hw
  obtain ⟨i, -, hi⟩ := List.mem_filterMap.mp hw
  have hm : w ∈ big := by first | exact List.mem_of_getElem? hi | exact List.getElem?_mem hi
  exact ⟨hm, good_of_word h1⟩
theorem goodIn_app {big a b : List Cond} (ha : GoodIn big a) (hb : GoodIn big b) : GoodIn big (a ++ b) := fun w h => (List.mem_append.mp h).elim (ha w) (hb w)
theorem goodIn_ca {big a b : List Cond} {c : Cond} (ha : GoodIn big (c :: a)) (hb : GoodIn big b) : GoodIn big (c :: (a ++ b)) := fun w h => (List.mem_cons.mp h).elim (fun e => ha w (List.mem_cons.mpr (Or.inl e))) (fun h => (List.mem_append.mp h).elim (fun h => ha w (List.mem_cons.mpr (Or.inr h))) (hb w))
theorem goodIn_sub {big ws : List Cond} (hm : ∀ w ∈ ws, w ∈ big) (h : ws.all goodWord = true) : GoodIn big ws := fun w hw => ⟨hm w hw, good_of_word (List.all_eq_true.mp h w hw)⟩
/-! ===== END ===== -/

/-! ===== BEGIN exceptions that leave a method, and their catching by the caller (launches without stack traces) ===== -/
section VXA
/-! The laws vx_back, vx_callV, vx_callS, vx_callSW, vx_throw0, vx_throwS follow proofs of the library, with one case more: JvmDerived/Free/Laws.lean (Back.of_free), Shelf42/LK1.lean (callV, callS), Shelf/KitTraced.lean (throwNew0V, throwNewS). -/
/-- where a method has thrown q: the class by its name, the cell, what was written, the world -/
def vx_T (XC : String → State → State → Prop) (st : State) (q : Addr) (t : State) (mc ms : Nat) (free : Addr → Prop) : Prop :=
  ∃ (E : String) (ce : Cell) (L : List Loc), XC E st t ∧ t.heap[q]? = some ce ∧ ce.vm = .none ∧ st.vm.findClass E = some ce.cls ∧ st.WarmedH t.vm ∧ st.sameButNew ({ t with vm := st.vm } : State) L mc ms ∧ ∀ z ∈ L, free z.base
def vx_Q (Qc : Array Value → State → Outcome → State → Prop) (XC : String → State → State → Prop) (mc ms : Nat) (free : Addr → Prop) : Array Value → State → Outcome → State → Prop := fun a st o t =>
  (Qc a st o t ∧ ∃ L, FrameEnd st o t L mc ms ∧ ∀ q ∈ L, free q.base) ∨ ∃ q, o = .threw q ∧ vx_T XC st q t mc ms free
/-- a callee that returns or throws -/
def vx_Met (l : Launch) (y : MethodName) (ws : List Cond) (rm : Room) (Pc : Array Value → State → Prop) (Qc : Array Value → State → Outcome → State → Prop) (XC : String → State → State → Prop) (mc ms : Nat) (free : Addr → Prop) : Prop :=
  MetFree l y (headSpec ws rm) Pc (fun _ _ _ _ _ => True) (vx_Q Qc XC mc ms free)
def vx_Post (XC : String → State → State → Prop) (mc ms : Nat) (free : Addr → Prop) : Pt → Array Value → Addr → Pt → Prop := fun A a q B =>
  ∃ (g : JFrame) (mk : MethodId) (t : State) (L : List Loc) (E : String) (ce : Cell), B.U.heap = t.heap ∧ B.U.vm = t.vm ∧ XC E (A.U.calling g mk a) t ∧ t.heap[q]? = some ce ∧ ce.vm = .none ∧ A.U.vm.findClass E = some ce.cls ∧ B.locs = A.locs ++ L ∧ (∀ z ∈ L, free z.base) ∧ B.cells = A.cells + mc ∧ B.slots = A.slots + ms
def vx_Back (l : Launch) (R : Room) (p : Program) (e : Env) (below : List Frame) (s : State) (sargs : Array Value) (y : MethodName) (len W9 : Nat)
    (Pre : Pt → Array Value → Prop) (Post : Pt → Array Value → Option Value → Pt → Prop) (PostX : Pt → Array Value → Addr → Pt → Prop) : Prop :=
  ∀ (m : MethodId) (meth : Method) (c : Code) (A : Pt) (g : JFrame) (ig : Instr) (mk : MethodId) (a : Array Value),
    Stand p l e R s m sargs below meth c A.U A.locs A.cells A.slots → g.method = m → g.locals.size = c.maxLocals → decode c.code g.pc = .ok (ig, len) →
    2 * g.monitorRoom + (g.stack.map fun v => v.category).sum ≤ W9 → A.U.methodNamed? y = some mk → Pre A a →
    (∃ (v : Option Value) (B : Pt), Stand p l e R s m sargs below meth c B.U B.locs B.cells B.slots ∧ Post A a v B ∧
      Steps p.tables e below (doInvoke e (A.U.setTop g) [] mk a).1 (B.U.setTop { g with pc := g.pc + len, stack := v.toList ++ g.stack })) ∨
    (∃ (q : Addr) (B : Pt), Stand p l e R s m sargs below meth c B.U B.locs B.cells B.slots ∧ PostX A a q B ∧
      Steps p.tables e below (doInvoke e (A.U.setTop g) [] mk a).1 ((B.U.setTop g).pushFrame (.throwing q)))
section Payer
variable {l : Launch} {R : Room} {p : Program} {e : Env} {below : List Frame} {s : State} {sargs : Array Value} {y : MethodName} {len W9 : Nat}
theorem vx_back {ws : List Cond} {rm : Room} {Pc : Array Value → State → Prop} {Qc : Array Value → State → Outcome → State → Prop} {XC : String → State → State → Prop} {mc ms : Nat} {free : Addr → Prop} {bytes : ByteArray} {maxL : Nat} {ret : Option FieldType}
    (hM : vx_Met l y ws rm Pc Qc XC mc ms free) (hblind : FrameBlind Pc) (hrc : rm.cells = mc) (hrs : rm.slots = ms)
    (hframes : rm.frames + 1 ≤ R.frames) (hlocals : W9 + (maxL + 11) + rm.locals ≤ R.locals)
    (hws : ∀ w ∈ ws, ∀ a' U, s.WarmedH U.vm → w.before a' U = true) (hcode : Cond.code y bytes maxL ret ∈ ws) (hinit : ∀ a' U, s.WarmedH U.vm → (Cond.initialized y.cls).before a' U = true) :
    vx_Back l R p e below s sargs y len W9 (PreOf R mc ms Pc) (PostOf Qc mc ms free) (vx_Post XC mc ms free) := by
  intro m meth c A g ig mk a X hg hsize hdg hW hn hp
  have h1 : (headSpec ws rm).pre.before a A.U = true := atoms_intro fun w hw => hws w hw _ _ X.warmed
  have h2 : (Cond.code y bytes maxL ret).before a A.U = true := hws _ hcode _ _ X.warmed
  have h3 : (Cond.initialized y.cls).before a A.U = true := hinit _ _ X.warmed
  have h4 : A.cells + (headSpec ws rm).room.cells ≤ R.cells := by rw [show (headSpec ws rm).room.cells = mc from hrc]; exact hp.1
  have h5 : A.slots + (headSpec ws rm).room.slots ≤ R.slots := by rw [show (headSpec ws rm).room.slots = ms from hrs]; exact hp.2.1
  have hPc : Pc a (A.U.calling g mk a) := hblind _ _ _ _ hp.2.2
  obtain ⟨U, Ls, c0, s0⟩ := A
  dsimp only [Pt.U, Pt.locs, Pt.cells, Pt.slots] at h1 h2 h3 h4 h5 X hn hPc ⊢
  obtain ⟨methY, cY, hmY, hcY, -, hlY, -, -, -, -⟩ := Cond.code_spec hn h2
  obtain ⟨kY, hkY, -⟩ := className_of_methodNamed hn
  have hinitY : kY.init = .initialized := Cond.initialized_spec (findClass_of_methodNamed hn) hkY h3
  have h : At U g.method c below := by rw [hg]; exact X.here
  have hlocals9 : W9 + (maxL + 11) + (headSpec ws rm).room.locals ≤ R.locals := hlocals
  have happ : (headSpec ws rm).appliesLoose y e.platform (U.calling g mk a) = true :=
    Spec.appliesLoose_calling (g := g) h hdg hn hkY hinitY
      (X.room_calling (g := g) (R' := (headSpec ws rm).room) hsize hmY hcY hframes (by rw [hlY]; omega) h4 h5) h1
  obtain ⟨mid, hmid⟩ := h.above
  have hfr : (U.setTop g).frames = (.java g :: mid) ++ below := by rw [State.frames_setTop' g h.top, hmid]; rfl
  obtain ⟨o, s₂, hsteps, -, hend, hq⟩ := Steps.callFree hM p X.admits X.cas X.clock (acts := []) hfr happ hPc trivial
  have hq' : vx_Q Qc XC mc ms free a (U.calling g mk a) o s₂ := hq
  rw [State.frames_setTop' g h.top] at hend
  obtain ⟨g₀, hg0⟩ := Option.isSome_iff_exists.mp h.top
  obtain ⟨r, hr⟩ := State.topJava?_eq_some.mp hg0
  have hr' : (({ U with heap := s₂.heap, slotsUsed := s₂.slotsUsed } : State).setVm s₂.vm).frames = .java g₀ :: r := hr
  rcases hq' with ⟨hqc, L, hfe, hL⟩ | ⟨q, rfl, E, ce, L, hx, hce, hcv, hcl, hW₂, hsm, hL⟩
  · obtain ⟨⟨v, rfl⟩, hW₂, e2, q2, q3, q4, q5, q6⟩ := id hfe
    have e3 : s₂ = ({ (U.calling g mk a).setFrames s₂.frames with heap := s₂.heap, slotsUsed := s₂.slotsUsed } : State).setVm s₂.vm := by
      have : s₂ = ({ s₂ with vm := (U.calling g mk a).vm } : State).setVm s₂.vm := rfl
      rw [e2] at this
      exact this
    obtain ⟨c₂, i₂, len₂, hc₂, hd₂, hf₂⟩ := hend
    have hW' : U.WarmedH s₂.vm := hW₂
    have hcc : c₂ = c := by
      have h1 : s₂.code? g.method = U.code? g.method := by
        rw [State.code?_eq, State.code?_eq, hW'.alike.method?]
      exact Option.some.inj (hc₂.symm.trans (h1.trans h.code))
    subst hcc
    have hlen : len₂ = len := by rw [hdg] at hd₂; cases hd₂; rfl
    subst hlen
    have hs₂ : s₂ = (({ U with heap := s₂.heap, slotsUsed := s₂.slotsUsed } : State).setVm s₂.vm).setTop { g with pc := g.pc + len₂, stack := v.toList ++ g.stack } := by
      refine e3.trans ?_
      rw [hf₂, State.calling_eq h.top, State.setFrames_setFrames, State.setTop_of_frames _ hr', hr]
      rfl
    have hsame : U.sameButNew ({ U with heap := s₂.heap, slotsUsed := s₂.slotsUsed } : State) L mc ms := by
      refine ⟨?_, q2, q3, q4, q5, q6⟩
      obtain ⟨t, ht, -⟩ := State.frames_cons hr
      show ({ U with heap := s₂.heap, slotsUsed := s₂.slotsUsed } : State) = { U.setFrames U.frames with heap := s₂.heap, slotsUsed := s₂.slotsUsed }
      rw [State.setFrames_self ht]
    subst hg
    refine Or.inl ⟨v, ⟨(({ U with heap := s₂.heap, slotsUsed := s₂.slotsUsed } : State).setVm s₂.vm), Ls ++ L, c0 + mc, s0 + ms⟩,
      ⟨X.admits, X.cas, X.clock, X.frames, X.room, X.hears, X.method, X.code, (X.here.setHeapUsed s₂.heap s₂.slotsUsed).setVm hW'.alike, X.tail, State.WarmedH.trans X.warmed hW', X.limits, X.bytes, X.same.trans (hsame.setVm s.vm)⟩,
      ⟨g, mk, s₂, L, rfl, rfl, hqc, rfl, hL, rfl, rfl⟩, ?_⟩
    show Steps p.tables e below _ ((({ U with heap := s₂.heap, slotsUsed := s₂.slotsUsed } : State).setVm s₂.vm).setTop { g with pc := g.pc + len₂, stack := v.toList ++ g.stack })
    rw [← hs₂]
    exact hsteps
  · obtain ⟨e2, q2, q3, q4, q5, q6⟩ := id hsm
    have e3 : s₂ = ({ (U.calling g mk a).setFrames s₂.frames with heap := s₂.heap, slotsUsed := s₂.slotsUsed } : State).setVm s₂.vm := by
      have : s₂ = ({ s₂ with vm := (U.calling g mk a).vm } : State).setVm s₂.vm := rfl
      rw [e2] at this
      exact this
    have hf₂ : s₂.frames = .throwing q :: .java g :: U.frames.tail := hend
    have hW' : U.WarmedH s₂.vm := hW₂
    have hs₂ : s₂ = ((({ U with heap := s₂.heap, slotsUsed := s₂.slotsUsed } : State).setVm s₂.vm).setTop g).pushFrame (.throwing q) := by
      refine e3.trans ?_
      rw [hf₂, State.calling_eq h.top, State.setFrames_setFrames, State.pushFrame, State.frames_setTop _ hr', State.setTop_of_frames _ hr', State.setFrames_setFrames, hr]
      rfl
    have hsame : U.sameButNew ({ U with heap := s₂.heap, slotsUsed := s₂.slotsUsed } : State) L mc ms := by
      refine ⟨?_, q2, q3, q4, q5, q6⟩
      obtain ⟨t, ht, -⟩ := State.frames_cons hr
      show ({ U with heap := s₂.heap, slotsUsed := s₂.slotsUsed } : State) = { U.setFrames U.frames with heap := s₂.heap, slotsUsed := s₂.slotsUsed }
      rw [State.setFrames_self ht]
    subst hg
    refine Or.inr ⟨q, ⟨(({ U with heap := s₂.heap, slotsUsed := s₂.slotsUsed } : State).setVm s₂.vm), Ls ++ L, c0 + mc, s0 + ms⟩,
      ⟨X.admits, X.cas, X.clock, X.frames, X.room, X.hears, X.method, X.code, (X.here.setHeapUsed s₂.heap s₂.slotsUsed).setVm hW'.alike, X.tail, State.WarmedH.trans X.warmed hW', X.limits, X.bytes, X.same.trans (hsame.setVm s.vm)⟩,
      ⟨g, mk, s₂, L, E, ce, rfl, rfl, hx, hce, hcv, hcl, rfl, hL, rfl, rfl⟩, ?_⟩
    show Steps p.tables e below _ (((({ U with heap := s₂.heap, slotsUsed := s₂.slotsUsed } : State).setVm s₂.vm).setTop g).pushFrame (.throwing q))
    rw [← hs₂]
    exact hsteps
end Payer
section Calls
variable {p : Program} {l : Launch} {e : Env} {R : Room} {s : State} {m : MethodId} {args : Array Value} {below : List Frame} {meth : Method} {c : Code} {T : State} {locs : List Loc} {cells slots : Nat}
theorem vx_callV (X : Stand p l e R s m args below meth c T locs cells slots) (hexec : p.tables.exec = Jvm.exec) {own C : String} {index : Nat} {y : MethodName} {bytes : ByteArray} {maxL : Nat} {ret : Option FieldType}
    (hown : s.vm.findClass own = some m.cls) (hlink : (Cond.methodLink own index y).before args s = true) (hinst : (Cond.instanceMethod y).before args s = true) (hsel : (Cond.selects C y y).before args s = true)
    (hcode : (Cond.code y bytes maxL ret).before args s = true) (hy : y.cls ≠ "java/lang/invoke/MethodHandle" ∧ y.cls ≠ "java/lang/invoke/VarHandle")
    {W9 : Nat} {Pre : Pt → Array Value → Prop} {Post : Pt → Array Value → Option Value → Pt → Prop} {PostX : Pt → Array Value → Addr → Pt → Prop} (hK : vx_Back l R p e below s args y 3 W9 Pre Post PostX)
    {b : Addr} {cellB : Cell} (hcell : T.heap[b]? = some cellB) (hobj : cellB.vm.isStatics = false) (hcls : s.vm.findClass C = some cellB.cls)
    {g : JFrame} (hg : g.method = m) (hsize : g.locals.size = c.maxLocals) {argsL rest : List Value} (hlen : ∀ sig, parseMethodDescriptor y.desc = some sig → argsL.length = sig.parameters.length)
    (hstack : g.stack = argsL.reverse ++ .ref b :: rest) (hW : 2 * g.monitorRoom + (rest.map fun v => v.category).sum ≤ W9) (hdg : decode c.code g.pc = .ok (.invokevirtual index, 3))
    (hpre : ∀ vm₁, s.WarmedH vm₁ → Pre ⟨T.setVm vm₁, locs, cells, slots⟩ (Value.ref b :: argsL).toArray) :
    (∃ (v : Option Value) (vm₁ : Vm) (B : Pt), s.WarmedH vm₁ ∧ Stand p l e R s m args below meth c B.U B.locs B.cells B.slots ∧ Post ⟨T.setVm vm₁, locs, cells, slots⟩ (Value.ref b :: argsL).toArray v B ∧
      ∀ target, Steps p.tables e below (B.U.setTop { g with pc := g.pc + 3, stack := v.toList ++ rest }) target → Steps p.tables e below (T.setTop g) target) ∨
    (∃ (q : Addr) (vm₁ : Vm) (B : Pt), s.WarmedH vm₁ ∧ Stand p l e R s m args below meth c B.U B.locs B.cells B.slots ∧ PostX ⟨T.setVm vm₁, locs, cells, slots⟩ (Value.ref b :: argsL).toArray q B ∧
      Steps p.tables e below (T.setTop g) ((B.U.setTop { g with stack := rest }).pushFrame (.throwing q))) := by
  obtain ⟨mk, methM, hnamed, hmethM, hstM, habM⟩ := Cond.instanceMethod_spec hinst
  obtain ⟨methM', cM, hmethM', -, -, -, -, -, -, hsigM⟩ := Cond.code_spec hnamed hcode
  cases hmethM.symm.trans hmethM'
  obtain ⟨c2, r2, m2, q1, q2, q3, q4, kP, hkP, hkPi⟩ := Cond.selects_spec hsel
  cases hcls.symm.trans q1
  cases (State.methodFound?_of_named hnamed hy).symm.trans q2
  cases hnamed.symm.trans q3
  have hselP : selectMethod e.platform s.vm cellB.cls mk = .method mk := by rw [Launch.admits_selectMethod X.admits]; exact q4
  obtain ⟨vm₁, X₁, hstep₁⟩ := X.invokevirtual hexec hown hlink hnamed hmethM hstM hkP hkPi hy (a := b) (cell := cellB) hcell
    (fun z h => by rw [h] at hobj; cases hobj) hselP hmethM habM hkP hkPi (g := g) hg (argsL := argsL) (rest := rest) (hlen _ hsigM) hstack hdg
  rcases hK m meth c ⟨T.setVm vm₁, locs, cells, slots⟩ { g with stack := rest } (.invokevirtual index) mk (Value.ref b :: argsL).toArray X₁ hg hsize hdg hW (X₁.named hnamed) (hpre vm₁ X₁.warmed) with ⟨v, B, X', hpost, hsteps⟩ | ⟨q, B, X', hpost, hsteps⟩
  · exact Or.inl ⟨v, vm₁, B, X₁.warmed, X', hpost, fun target h => hstep₁ _ fun acts => by rw [doInvoke_state]; exact hsteps.trans h⟩
  · exact Or.inr ⟨q, vm₁, B, X₁.warmed, X', hpost, hstep₁ _ fun acts => by rw [doInvoke_state]; exact hsteps⟩
theorem vx_callS (X : Stand p l e R s m args below meth c T locs cells slots) (hexec : p.tables.exec = Jvm.exec) {own : String} {index : Nat} {y : MethodName} {bytes : ByteArray} {maxL : Nat} {ret : Option FieldType}
    (hown : s.vm.findClass own = some m.cls) (hlink : (Cond.methodLink own index y).before args s = true) (hstat : (Cond.static y).before args s = true) (hinit : (Cond.initialized y.cls).before args s = true)
    (hcode : (Cond.code y bytes maxL ret).before args s = true) (hy : y.cls ≠ "java/lang/invoke/MethodHandle" ∧ y.cls ≠ "java/lang/invoke/VarHandle")
    {W9 : Nat} {Pre : Pt → Array Value → Prop} {Post : Pt → Array Value → Option Value → Pt → Prop} {PostX : Pt → Array Value → Addr → Pt → Prop} (hK : vx_Back l R p e below s args y 3 W9 Pre Post PostX)
    {g : JFrame} (hg : g.method = m) (hsize : g.locals.size = c.maxLocals) {argsL rest : List Value} (hlen : ∀ sig, parseMethodDescriptor y.desc = some sig → argsL.length = sig.parameters.length)
    (hstack : g.stack = argsL.reverse ++ rest) (hW : 2 * g.monitorRoom + (rest.map fun v => v.category).sum ≤ W9) (hdg : decode c.code g.pc = .ok (.invokestatic index, 3))
    (hpre : ∀ vm₁, s.WarmedH vm₁ → Pre ⟨T.setVm vm₁, locs, cells, slots⟩ argsL.toArray) :
    (∃ (v : Option Value) (vm₁ : Vm) (B : Pt), s.WarmedH vm₁ ∧ Stand p l e R s m args below meth c B.U B.locs B.cells B.slots ∧ Post ⟨T.setVm vm₁, locs, cells, slots⟩ argsL.toArray v B ∧
      ∀ target, Steps p.tables e below (B.U.setTop { g with pc := g.pc + 3, stack := v.toList ++ rest }) target → Steps p.tables e below (T.setTop g) target) ∨
    (∃ (q : Addr) (vm₁ : Vm) (B : Pt), s.WarmedH vm₁ ∧ Stand p l e R s m args below meth c B.U B.locs B.cells B.slots ∧ PostX ⟨T.setVm vm₁, locs, cells, slots⟩ argsL.toArray q B ∧
      Steps p.tables e below (T.setTop g) ((B.U.setTop { g with stack := rest }).pushFrame (.throwing q))) := by
  obtain ⟨mk, hnamed⟩ := Cond.code_named hcode
  obtain ⟨methM, cM, hmethM, -, -, -, -, -, -, hsigM⟩ := Cond.code_spec hnamed hcode
  have hstatic : methM.isStatic = true := Cond.static_spec hnamed hmethM hstat
  obtain ⟨kP, hkP, -⟩ := className_of_methodNamed hnamed
  have hinitP : kP.init = .initialized := Cond.initialized_spec (findClass_of_methodNamed hnamed) hkP hinit
  obtain ⟨vm₁, X₁, hstep₁⟩ := X.invokestatic hexec hown hlink hnamed hmethM hstatic hkP hinitP hy (g := g) hg (argsL := argsL) (rest := rest) (hlen _ hsigM) hstack hdg
  rcases hK m meth c ⟨T.setVm vm₁, locs, cells, slots⟩ { g with stack := rest } (.invokestatic index) mk argsL.toArray X₁ hg hsize hdg hW (X₁.named hnamed) (hpre vm₁ X₁.warmed) with ⟨v, B, X', hpost, hsteps⟩ | ⟨q, B, X', hpost, hsteps⟩
  · exact Or.inl ⟨v, vm₁, B, X₁.warmed, X', hpost, fun target h => hstep₁ _ fun acts => by rw [doInvoke_state]; exact hsteps.trans h⟩
  · exact Or.inr ⟨q, vm₁, B, X₁.warmed, X', hpost, hstep₁ _ fun acts => by rw [doInvoke_state]; exact hsteps⟩
end Calls
theorem vx_cls {s : State} {T : State} {vm₁ : Vm} {E : String} {k : ClassId} (hW : s.WarmedH vm₁) (h : (T.setVm vm₁).vm.findClass E = some k) : s.vm.findClass E = some k := by
  have h1 : vm₁.findClass E = some k := h
  rw [hW.alike.findClass] at h1
  exact h1
/-- the method's frame g, with q thrown over it -/
def vx_W (p : Program) (l : Launch) (e : Env) (R : Room) (s : State) (m : MethodId) (args : Array Value) (below : List Frame) (meth : Method) (c : Code) (H : Heap) (locs : List Loc) (cells slots : Nat) (Q : State → Prop) (g : JFrame) (q : Addr) : Prop :=
  ∀ T : State, T.heap = H → Stand p l e R s m args below meth c T locs cells slots → ∃ t, Steps p.tables e below ((T.setTop g).pushFrame (.throwing q)) t ∧ Q t
def vx_Run (p : Program) (l : Launch) (e : Env) (R : Room) (s : State) (m : MethodId) (args : Array Value) (below : List Frame) (meth : Method) (c : Code) (H : Heap) (locs : List Loc) (cells slots mc ms : Nat) (g : JFrame) (rest : List Value) (Qa : State → Outcome → State → Prop) (XC : String → State → State → Prop) (free : Addr → Prop) : Prop :=
  ∀ T : State, T.heap = H → Stand p l e R s m args below meth c T locs cells slots →
    (∃ (v : Option Value) (st₀ t T' : State) (L : List Loc), st₀.heap = H ∧ Stand p l e R s m args below meth c T' (locs ++ L) (cells + mc) (slots + ms) ∧ (∀ q ∈ L, free q.base) ∧ T'.heap = t.heap ∧ T'.vm = t.vm ∧ Qa st₀ (.returned v) t ∧
      Goes p e below T g T' { g with pc := g.pc + 3, stack := v.toList ++ rest }) ∨
    (∃ (q : Addr) (st₀ t T' : State) (L : List Loc) (E : String) (ce : Cell), st₀.heap = H ∧ Stand p l e R s m args below meth c T' (locs ++ L) (cells + mc) (slots + ms) ∧ (∀ z ∈ L, free z.base) ∧ T'.heap = t.heap ∧ T'.vm = t.vm ∧ XC E st₀ t ∧ t.heap[q]? = some ce ∧ ce.vm = .none ∧ s.vm.findClass E = some ce.cls ∧
      Steps p.tables e below (T.setTop g) ((T'.setTop { g with stack := rest }).pushFrame (.throwing q)))
def vx_X {S : Type} (px : S → Prop) (B : String → S → State → Prop) (A : Nat → Prop) : String → State → State → Prop := fun E st t => ∃ u : S, px u ∧ B E u t ∧ va_F A st t
section Runs
variable {p : Program} {l : Launch} {e : Env} {R : Room} {s : State} {m : MethodId} {args : Array Value} {below : List Frame} {meth : Method} {c : Code} {H : Heap} {locs : List Loc} {cells slots : Nat}
variable {y : MethodName} {bytes cc : ByteArray} {maxL nL mc ms n index : Nat} {ret : Option FieldType} {ws : List Cond} {rm : Room} {Pc : Array Value → State → Prop} {Qc : Array Value → State → Outcome → State → Prop} {XC : String → State → State → Prop} {free : Addr → Prop} {Ts : List Cond} {own C : String} {b : Addr} {As rest : List Value} {g : JFrame}
theorem vx_callBack (cb : CallB R s args own index y bytes maxL ret ws rm mc ms n) (hM : vx_Met l y ws rm Pc Qc XC mc ms free) (hbl : FrameBlind Pc) : vx_Back l R p e below s args y 3 8 (PreOf R mc ms Pc) (PostOf Qc mc ms free) (vx_Post XC mc ms free) := by
  obtain ⟨hrc, hrs, hfr, hlo, hws, hcw, -, hini, -⟩ := cb
  exact vx_back (bytes := bytes) (maxL := maxL) (ret := ret) hM hbl hrc hrs hfr hlo hws hcw (fun a' U hW => word_at hW (Or.inl (by first | rfl | simp [Cond.onTables, Cond.keeps, Cond.steady])) hini)
theorem vx_runV (S : CallFix p m c cc nL s args Ts own) (hM : vx_Met l y ws rm Pc Qc XC mc ms free) (cw : CallW R s args own C index y bytes maxL ret ws rm mc ms n) (hp : PreV s H C b Pc As)
    (hg : g.method = m) (hn : As.length = n) (hsize : g.locals.size = nL) (hstack : g.stack = As.reverse ++ .ref b :: rest) (hW : 2 * g.monitorRoom + (rest.map fun v => v.category).sum ≤ 8) (hdg : decode cc g.pc = .ok (.invokevirtual index, 3)) (hf : cells + mc ≤ R.cells ∧ slots + ms ≤ R.slots) :
    vx_Run p l e R s m args below meth c H locs cells slots mc ms g rest (Qc (Value.ref b :: As).toArray) XC free := by
  have hK : vx_Back l R p e below s args y 3 8 (PreOf R mc ms Pc) (PostOf Qc mc ms free) (vx_Post XC mc ms free) := vx_callBack cw.1 hM hp.1
  obtain ⟨⟨-, -, -, -, -, -, hcode, -, hy, hlen, hl⟩, hin, hse⟩ := cw
  obtain ⟨hx, hb, hml, ho, -⟩ := S
  obtain ⟨-, ⟨cellB, hcB, hoB, hclB⟩, hPc⟩ := hp
  intro T hT X
  rcases vx_callV X hx (C := C) (bytes := bytes) (maxL := maxL) (ret := ret) ho hl hin hse hcode hy hK (by rw [hT]; exact hcB) hoB hclB hg (hsize.trans hml.symm) (argsL := As) (rest := rest) (fun sig h => hn.trans (hlen sig h)) hstack hW (by rw [hb]; exact hdg)
    (fun vm₁ hW₁ => ⟨hf.1, hf.2, hPc (T.setVm vm₁) hT hW₁⟩) with ⟨v, vm₁, ⟨U', l2, c2, s2⟩, hW₁, X', ⟨g', mk, t, L, e1, e2, hq, h1, hL, h2, h3⟩, st⟩ | ⟨q, vm₁, ⟨U', l2, c2, s2⟩, hW₁, X', ⟨g', mk, t, L, E, ce, e1, e2, hq, hce, hcv, hcl, h1, hL, h2, h3⟩, st⟩
  · dsimp only [Pt.U, Pt.locs, Pt.cells, Pt.slots] at X' e1 e2 h1 h2 h3 st
    subst h1; subst h2; subst h3
    exact Or.inl ⟨v, (T.setVm vm₁).calling g' mk (Value.ref b :: As).toArray, t, U', L, hT, X', hL, e1, e2, hq, st⟩
  · dsimp only [Pt.U, Pt.locs, Pt.cells, Pt.slots] at X' e1 e2 h1 h2 h3 st hcl
    subst h1; subst h2; subst h3
    exact Or.inr ⟨q, (T.setVm vm₁).calling g' mk (Value.ref b :: As).toArray, t, U', L, E, ce, hT, X', hL, e1, e2, hq, hce, hcv, vx_cls hW₁ hcl, st⟩
theorem vx_runS (S : CallFix p m c cc nL s args Ts own) (hM : vx_Met l y ws rm Pc Qc XC mc ms free) (cw : CallB R s args own index y bytes maxL ret ws rm mc ms n ∧ (Cond.static y).before args s = true) (hp : PreS s H Pc As)
    (hg : g.method = m) (hn : As.length = n) (hsize : g.locals.size = nL) (hstack : g.stack = As.reverse ++ rest) (hW : 2 * g.monitorRoom + (rest.map fun v => v.category).sum ≤ 8) (hdg : decode cc g.pc = .ok (.invokestatic index, 3)) (hf : cells + mc ≤ R.cells ∧ slots + ms ≤ R.slots) :
    vx_Run p l e R s m args below meth c H locs cells slots mc ms g rest (Qc As.toArray) XC free := by
  have hK : vx_Back l R p e below s args y 3 8 (PreOf R mc ms Pc) (PostOf Qc mc ms free) (vx_Post XC mc ms free) := vx_callBack cw.1 hM hp.1
  obtain ⟨⟨-, -, -, -, -, -, hcode, hini, hy, hlen, hl⟩, hstt⟩ := cw
  obtain ⟨hx, hb, hml, ho, -⟩ := S
  intro T hT X
  rcases vx_callS X hx (bytes := bytes) (maxL := maxL) (ret := ret) ho hl hstt hini hcode hy hK hg (hsize.trans hml.symm) (argsL := As) (rest := rest) (fun sig h => hn.trans (hlen sig h)) hstack hW (by rw [hb]; exact hdg)
    (fun vm₁ hW₁ => ⟨hf.1, hf.2, hp.2 (T.setVm vm₁) hT hW₁⟩) with ⟨v, vm₁, ⟨U', l2, c2, s2⟩, hW₁, X', ⟨g', mk, t, L, e1, e2, hq, h1, hL, h2, h3⟩, st⟩ | ⟨q, vm₁, ⟨U', l2, c2, s2⟩, hW₁, X', ⟨g', mk, t, L, E, ce, e1, e2, hq, hce, hcv, hcl, h1, hL, h2, h3⟩, st⟩
  · dsimp only [Pt.U, Pt.locs, Pt.cells, Pt.slots] at X' e1 e2 h1 h2 h3 st
    subst h1; subst h2; subst h3
    exact Or.inl ⟨v, (T.setVm vm₁).calling g' mk As.toArray, t, U', L, hT, X', hL, e1, e2, hq, st⟩
  · dsimp only [Pt.U, Pt.locs, Pt.cells, Pt.slots] at X' e1 e2 h1 h2 h3 st hcl
    subst h1; subst h2; subst h3
    exact Or.inr ⟨q, (T.setVm vm₁).calling g' mk As.toArray, t, U', L, E, ce, hT, X', hL, e1, e2, hq, hce, hcv, vx_cls hW₁ hcl, st⟩
end Runs
section Rows
variable {p : Program} {l : Launch} {e : Env} {R : Room} {s : State} {m : MethodId} {args : Array Value} {below : List Frame} {meth : Method} {c : Code} {H : Heap} {locs : List Loc} {cells slots : Nat} {Q : State → Prop}
variable {mc ms : Nat} {free : Addr → Prop} {A0 A1 : Nat → Prop} {H0 : Heap} {a : Array Value} {pc : Nat} {ls : Array Slot} {st0 rest : List Value}
theorem vx_keep {st₀ t T' : State} {L : List Loc} (h0 : st₀.heap = H) (e1 : T'.heap = t.heap) (hS : va_S A0 H0 H locs) (hA : ∀ q, q < H.size → A1 q → A0 q) (hf : ∀ q, free q → A0 q) (hL : ∀ q ∈ L, free q.base) (hF : va_F A1 st₀ t) :
    H.size ≤ T'.heap.size ∧ (∀ q : Nat, q < H.size → ¬ A1 q → T'.heap[q]? = H[q]?) ∧ va_S A0 H0 T'.heap (locs ++ L) := by
  obtain ⟨hz, hk⟩ := hF
  rw [h0] at hz hk
  exact ⟨by rw [e1]; exact hz, fun q h1 h2 => by rw [e1]; exact hk q h1 h2,
    ⟨Nat.le_trans hS.1 (by rw [e1]; exact hz), fun q h1 h2 => by rw [e1, hk q (Nat.lt_of_lt_of_le h1 hS.1) (fun z => h2 (hA q (Nat.lt_of_lt_of_le h1 hS.1) z))]; exact hS.2.1 q h1 h2, fun q hq => by
      rcases List.mem_append.mp hq with h | h
      · exact hS.2.2 q h
      · exact hf _ (hL q h)⟩⟩
theorem vx_calli {S SX : Type} {post : Int32 → S → Prop} {px : SX → Prop} {B : S → State → Prop} {BX : String → SX → State → Prop} {AX : Nat → Prop} (hr : vx_Run p l e R s m args below meth c H locs cells slots mc ms (F0 m pc ls st0) rest (va_Qi post B A1 a) (vx_X px BX AX) free) (hS : va_S A0 H0 H locs) (hA : ∀ q, q < H.size → A1 q → A0 q) (hf : ∀ q, free q → A0 q) (hAX : ∀ q, q < H.size → AX q → A0 q)
    (kx : ∀ (E : String) (ce : Cell) (q9 : Addr) (u : SX) (t : State) (H1 : Heap) (locs1 : List Loc), t.heap = H1 → s.vm.Alike t.vm → px u → BX E u t → H.size ≤ H1.size → (∀ q : Nat, q < H.size → ¬ AX q → H1[q]? = H[q]?) → va_S A0 H0 H1 locs1 → H1[q9]? = some ce → ce.vm = .none → s.vm.findClass E = some ce.cls → vx_W p l e R s m args below meth c H1 locs1 (cells + mc) (slots + ms) Q (F0 m pc ls rest) q9)
    (kk : ∀ (r : Int32) (u : S) (t : State) (H1 : Heap) (locs1 : List Loc), t.heap = H1 → s.vm.Alike t.vm → post r u → B u t → H.size ≤ H1.size → (∀ q : Nat, q < H.size → ¬ A1 q → H1[q]? = H[q]?) → va_S A0 H0 H1 locs1 → W p l e R s m args below meth c H1 locs1 (cells + mc) (slots + ms) Q (F0 m (pc + 3) ls (.int r :: rest))) : W p l e R s m args below meth c H locs cells slots Q (F0 m pc ls st0) := by
  intro T hT X
  rcases hr T hT X with ⟨v, st₀, t, T', L, h0, X', hL, e1, e2, ⟨⟨r, u, hv, hp, hb⟩, hF⟩, st⟩ | ⟨q, st₀, t, T', L, E, ce, h0, X', hL, e1, e2, ⟨u, hp, hb, hF⟩, hce, hcv, hcl, st⟩
  · cases hv
    obtain ⟨k1, k2, k3⟩ := vx_keep h0 e1 hS hA hf hL hF
    obtain ⟨t2, a1, b1⟩ := kk r u t T'.heap (locs ++ L) e1.symm (by rw [← e2]; exact X'.warmed.alike) hp hb k1 k2 k3 T' rfl X'
    exact ⟨t2, st t2 a1, b1⟩
  · obtain ⟨k1, k2, k3⟩ := vx_keep h0 e1 hS hAX hf hL hF
    obtain ⟨t2, a1, b1⟩ := kx E ce q u t T'.heap (locs ++ L) e1.symm (by rw [← e2]; exact X'.warmed.alike) hp hb k1 k2 k3 (by rw [e1]; exact hce) hcv hcl T' rfl X'
    exact ⟨t2, st.trans a1, b1⟩
theorem vx_calll {S SX : Type} {post : Int64 → S → Prop} {px : SX → Prop} {B : S → State → Prop} {BX : String → SX → State → Prop} {AX : Nat → Prop} (hr : vx_Run p l e R s m args below meth c H locs cells slots mc ms (F0 m pc ls st0) rest (va_Ql post B A1 a) (vx_X px BX AX) free) (hS : va_S A0 H0 H locs) (hA : ∀ q, q < H.size → A1 q → A0 q) (hf : ∀ q, free q → A0 q) (hAX : ∀ q, q < H.size → AX q → A0 q)
    (kx : ∀ (E : String) (ce : Cell) (q9 : Addr) (u : SX) (t : State) (H1 : Heap) (locs1 : List Loc), t.heap = H1 → s.vm.Alike t.vm → px u → BX E u t → H.size ≤ H1.size → (∀ q : Nat, q < H.size → ¬ AX q → H1[q]? = H[q]?) → va_S A0 H0 H1 locs1 → H1[q9]? = some ce → ce.vm = .none → s.vm.findClass E = some ce.cls → vx_W p l e R s m args below meth c H1 locs1 (cells + mc) (slots + ms) Q (F0 m pc ls rest) q9)
    (kk : ∀ (r : Int64) (u : S) (t : State) (H1 : Heap) (locs1 : List Loc), t.heap = H1 → s.vm.Alike t.vm → post r u → B u t → H.size ≤ H1.size → (∀ q : Nat, q < H.size → ¬ A1 q → H1[q]? = H[q]?) → va_S A0 H0 H1 locs1 → W p l e R s m args below meth c H1 locs1 (cells + mc) (slots + ms) Q (F0 m (pc + 3) ls (.long r :: rest))) : W p l e R s m args below meth c H locs cells slots Q (F0 m pc ls st0) := by
  intro T hT X
  rcases hr T hT X with ⟨v, st₀, t, T', L, h0, X', hL, e1, e2, ⟨⟨r, u, hv, hp, hb⟩, hF⟩, st⟩ | ⟨q, st₀, t, T', L, E, ce, h0, X', hL, e1, e2, ⟨u, hp, hb, hF⟩, hce, hcv, hcl, st⟩
  · cases hv
    obtain ⟨k1, k2, k3⟩ := vx_keep h0 e1 hS hA hf hL hF
    obtain ⟨t2, a1, b1⟩ := kk r u t T'.heap (locs ++ L) e1.symm (by rw [← e2]; exact X'.warmed.alike) hp hb k1 k2 k3 T' rfl X'
    exact ⟨t2, st t2 a1, b1⟩
  · obtain ⟨k1, k2, k3⟩ := vx_keep h0 e1 hS hAX hf hL hF
    obtain ⟨t2, a1, b1⟩ := kx E ce q u t T'.heap (locs ++ L) e1.symm (by rw [← e2]; exact X'.warmed.alike) hp hb k1 k2 k3 (by rw [e1]; exact hce) hcv hcl T' rfl X'
    exact ⟨t2, st.trans a1, b1⟩
theorem vx_callf {S SX : Type} {post : UInt32 → S → Prop} {px : SX → Prop} {B : S → State → Prop} {BX : String → SX → State → Prop} {AX : Nat → Prop} (hr : vx_Run p l e R s m args below meth c H locs cells slots mc ms (F0 m pc ls st0) rest (va_Qf post B A1 a) (vx_X px BX AX) free) (hS : va_S A0 H0 H locs) (hA : ∀ q, q < H.size → A1 q → A0 q) (hf : ∀ q, free q → A0 q) (hAX : ∀ q, q < H.size → AX q → A0 q)
    (kx : ∀ (E : String) (ce : Cell) (q9 : Addr) (u : SX) (t : State) (H1 : Heap) (locs1 : List Loc), t.heap = H1 → s.vm.Alike t.vm → px u → BX E u t → H.size ≤ H1.size → (∀ q : Nat, q < H.size → ¬ AX q → H1[q]? = H[q]?) → va_S A0 H0 H1 locs1 → H1[q9]? = some ce → ce.vm = .none → s.vm.findClass E = some ce.cls → vx_W p l e R s m args below meth c H1 locs1 (cells + mc) (slots + ms) Q (F0 m pc ls rest) q9)
    (kk : ∀ (r : UInt32) (u : S) (t : State) (H1 : Heap) (locs1 : List Loc), t.heap = H1 → s.vm.Alike t.vm → post r u → B u t → H.size ≤ H1.size → (∀ q : Nat, q < H.size → ¬ A1 q → H1[q]? = H[q]?) → va_S A0 H0 H1 locs1 → W p l e R s m args below meth c H1 locs1 (cells + mc) (slots + ms) Q (F0 m (pc + 3) ls (.float r :: rest))) : W p l e R s m args below meth c H locs cells slots Q (F0 m pc ls st0) := by
  intro T hT X
  rcases hr T hT X with ⟨v, st₀, t, T', L, h0, X', hL, e1, e2, ⟨⟨r, u, hv, hp, hb⟩, hF⟩, st⟩ | ⟨q, st₀, t, T', L, E, ce, h0, X', hL, e1, e2, ⟨u, hp, hb, hF⟩, hce, hcv, hcl, st⟩
  · cases hv
    obtain ⟨k1, k2, k3⟩ := vx_keep h0 e1 hS hA hf hL hF
    obtain ⟨t2, a1, b1⟩ := kk r u t T'.heap (locs ++ L) e1.symm (by rw [← e2]; exact X'.warmed.alike) hp hb k1 k2 k3 T' rfl X'
    exact ⟨t2, st t2 a1, b1⟩
  · obtain ⟨k1, k2, k3⟩ := vx_keep h0 e1 hS hAX hf hL hF
    obtain ⟨t2, a1, b1⟩ := kx E ce q u t T'.heap (locs ++ L) e1.symm (by rw [← e2]; exact X'.warmed.alike) hp hb k1 k2 k3 (by rw [e1]; exact hce) hcv hcl T' rfl X'
    exact ⟨t2, st.trans a1, b1⟩
theorem vx_calld {S SX : Type} {post : UInt64 → S → Prop} {px : SX → Prop} {B : S → State → Prop} {BX : String → SX → State → Prop} {AX : Nat → Prop} (hr : vx_Run p l e R s m args below meth c H locs cells slots mc ms (F0 m pc ls st0) rest (va_Qd post B A1 a) (vx_X px BX AX) free) (hS : va_S A0 H0 H locs) (hA : ∀ q, q < H.size → A1 q → A0 q) (hf : ∀ q, free q → A0 q) (hAX : ∀ q, q < H.size → AX q → A0 q)
    (kx : ∀ (E : String) (ce : Cell) (q9 : Addr) (u : SX) (t : State) (H1 : Heap) (locs1 : List Loc), t.heap = H1 → s.vm.Alike t.vm → px u → BX E u t → H.size ≤ H1.size → (∀ q : Nat, q < H.size → ¬ AX q → H1[q]? = H[q]?) → va_S A0 H0 H1 locs1 → H1[q9]? = some ce → ce.vm = .none → s.vm.findClass E = some ce.cls → vx_W p l e R s m args below meth c H1 locs1 (cells + mc) (slots + ms) Q (F0 m pc ls rest) q9)
    (kk : ∀ (r : UInt64) (u : S) (t : State) (H1 : Heap) (locs1 : List Loc), t.heap = H1 → s.vm.Alike t.vm → post r u → B u t → H.size ≤ H1.size → (∀ q : Nat, q < H.size → ¬ A1 q → H1[q]? = H[q]?) → va_S A0 H0 H1 locs1 → W p l e R s m args below meth c H1 locs1 (cells + mc) (slots + ms) Q (F0 m (pc + 3) ls (.double r :: rest))) : W p l e R s m args below meth c H locs cells slots Q (F0 m pc ls st0) := by
  intro T hT X
  rcases hr T hT X with ⟨v, st₀, t, T', L, h0, X', hL, e1, e2, ⟨⟨r, u, hv, hp, hb⟩, hF⟩, st⟩ | ⟨q, st₀, t, T', L, E, ce, h0, X', hL, e1, e2, ⟨u, hp, hb, hF⟩, hce, hcv, hcl, st⟩
  · cases hv
    obtain ⟨k1, k2, k3⟩ := vx_keep h0 e1 hS hA hf hL hF
    obtain ⟨t2, a1, b1⟩ := kk r u t T'.heap (locs ++ L) e1.symm (by rw [← e2]; exact X'.warmed.alike) hp hb k1 k2 k3 T' rfl X'
    exact ⟨t2, st t2 a1, b1⟩
  · obtain ⟨k1, k2, k3⟩ := vx_keep h0 e1 hS hAX hf hL hF
    obtain ⟨t2, a1, b1⟩ := kx E ce q u t T'.heap (locs ++ L) e1.symm (by rw [← e2]; exact X'.warmed.alike) hp hb k1 k2 k3 (by rw [e1]; exact hce) hcv hcl T' rfl X'
    exact ⟨t2, st.trans a1, b1⟩
theorem vx_callv {S SX : Type} {post : S → Prop} {px : SX → Prop} {B : S → State → Prop} {BX : String → SX → State → Prop} {AX : Nat → Prop} (hr : vx_Run p l e R s m args below meth c H locs cells slots mc ms (F0 m pc ls st0) rest (va_Qv post B A1 a) (vx_X px BX AX) free) (hS : va_S A0 H0 H locs) (hA : ∀ q, q < H.size → A1 q → A0 q) (hf : ∀ q, free q → A0 q) (hAX : ∀ q, q < H.size → AX q → A0 q)
    (kx : ∀ (E : String) (ce : Cell) (q9 : Addr) (u : SX) (t : State) (H1 : Heap) (locs1 : List Loc), t.heap = H1 → s.vm.Alike t.vm → px u → BX E u t → H.size ≤ H1.size → (∀ q : Nat, q < H.size → ¬ AX q → H1[q]? = H[q]?) → va_S A0 H0 H1 locs1 → H1[q9]? = some ce → ce.vm = .none → s.vm.findClass E = some ce.cls → vx_W p l e R s m args below meth c H1 locs1 (cells + mc) (slots + ms) Q (F0 m pc ls rest) q9)
    (kk : ∀ (u : S) (t : State) (H1 : Heap) (locs1 : List Loc), t.heap = H1 → s.vm.Alike t.vm → post u → B u t → H.size ≤ H1.size → (∀ q : Nat, q < H.size → ¬ A1 q → H1[q]? = H[q]?) → va_S A0 H0 H1 locs1 → W p l e R s m args below meth c H1 locs1 (cells + mc) (slots + ms) Q (F0 m (pc + 3) ls (rest))) : W p l e R s m args below meth c H locs cells slots Q (F0 m pc ls st0) := by
  intro T hT X
  rcases hr T hT X with ⟨v, st₀, t, T', L, h0, X', hL, e1, e2, ⟨⟨u, hv, hp, hb⟩, hF⟩, st⟩ | ⟨q, st₀, t, T', L, E, ce, h0, X', hL, e1, e2, ⟨u, hp, hb, hF⟩, hce, hcv, hcl, st⟩
  · cases hv
    obtain ⟨k1, k2, k3⟩ := vx_keep h0 e1 hS hA hf hL hF
    obtain ⟨t2, a1, b1⟩ := kk u t T'.heap (locs ++ L) e1.symm (by rw [← e2]; exact X'.warmed.alike) hp hb k1 k2 k3 T' rfl X'
    exact ⟨t2, st t2 a1, b1⟩
  · obtain ⟨k1, k2, k3⟩ := vx_keep h0 e1 hS hAX hf hL hF
    obtain ⟨t2, a1, b1⟩ := kx E ce q u t T'.heap (locs ++ L) e1.symm (by rw [← e2]; exact X'.warmed.alike) hp hb k1 k2 k3 (by rw [e1]; exact hce) hcv hcl T' rfl X'
    exact ⟨t2, st.trans a1, b1⟩
/-- caught by the row x of this method's table; the rows ahead don't take it -/
theorem vx_catch {own name : String} {E : String} {ce : Cell} {q : Addr} (hown : s.vm.findClass own = some m.cls) (pre : List ExceptionTableEntry) (x : ExceptionTableEntry) (suf : List ExceptionTableEntry) (hsplit : c.exceptionTable.toList = pre ++ x :: suf)
    (hpass : ∀ z ∈ pre, covers z pc = false ∨ (z.catchType ≠ 0 ∧ ∃ nm : String, (Cond.classLink own z.catchType nm).before args s = true ∧ va_Nc E nm s)) (hx : covers x pc = true) (h0 : x.catchType ≠ 0)
    (hlink : (Cond.classLink own x.catchType name).before args s = true) (hcast : (Cond.castable E name).before args s = true) (hcell : H[q]? = some ce) (hv : ce.vm = .none) (hcl : s.vm.findClass E = some ce.cls)
    (kk : W p l e R s m args below meth c H locs cells slots Q (F0 m x.handlerPc ls [.ref q])) : vx_W p l e R s m args below meth c H locs cells slots Q (F0 m pc ls rest) q := by
  intro T hT X
  have hpl : e.platform.magicAccessors = ({} : Platform).magicAccessors := by rw [X.admits.platform]
  obtain ⟨c3, c4, hc3, hc4, hasg⟩ := Cond.castable_spec hcast
  cases Option.some.inj (hc3.symm.trans hcl)
  obtain ⟨c5, hc5, hcl5⟩ := Cond.classLink_spec hown hlink e.platform hpl
  cases Option.some.inj (hc4.symm.trans hc5)
  obtain ⟨vm', X', st⟩ := X.thenCaughtThrough q (g := F0 m pc ls rest) rfl (Steps.refl _) (by rw [hT]; exact hcell) (by rw [hv]; rfl) (by obtain ⟨k9, h9, -⟩ := Vm.findClass_spec hcl; exact ⟨k9, h9⟩) pre x suf hsplit
    (fun z hz => by
      rcases hpass z hz with h | ⟨hz0, nm, hl1, hn1⟩
      · exact Or.inl h
      · obtain ⟨c6, hc6, hcl6⟩ := Cond.classLink_spec hown hl1 e.platform hpl
        obtain ⟨a8, b8, h1, h2, h3⟩ := hn1
        cases Option.some.inj (h1.symm.trans hcl)
        cases Option.some.inj (h2.symm.trans hc6)
        exact Or.inr ⟨hz0, _, hcl6, h3⟩) hx (Or.inr ⟨h0, c4, hcl5, hasg⟩)
  obtain ⟨t, a1, b1⟩ := kk (T.setVm vm') hT X'
  exact ⟨t, st.trans a1, b1⟩
end Rows
section Ends
variable {p : Program} {l : Launch} {e : Env} {R : Room} {s : State} {m : MethodId} {args : Array Value} {below : List Frame} {meth : Method} {c : Code} {H : Heap} {locs : List Loc} {cells slots : Nat} {Q : State → Prop}
variable {mc ms : Nat} {free : Addr → Prop} {A0 A1 : Nat → Prop} {H0 : Heap} {a : Array Value} {ls : Array Slot} {st0 rest : List Value}
variable {Qc : Array Value → State → Outcome → State → Prop} {XC : String → State → State → Prop}
/-- what a body that may throw owes at its end -/
def vx_MQ (below : List Frame) (Qc : Array Value → State → Outcome → State → Prop) (XC : String → State → State → Prop) (a : Array Value) (s : State) (mc ms : Nat) (free : Addr → Prop) : State → Prop := fun t =>
  ∃ o, t.status = .running ∧ Ended t below o ∧ vx_Q Qc XC mc ms free a s o t
theorem vx_ret {g : JFrame} {mc ms : Nat} (k : W p l e R s m args below meth c H locs cells slots (MQ below Qc args s mc ms free) g) : W p l e R s m args below meth c H locs cells slots (vx_MQ below Qc XC args s mc ms free) g := by
  intro T hT X
  obtain ⟨t, a1, o, b1, b2, b3, b4⟩ := k T hT X
  exact ⟨t, a1, o, b1, b2, Or.inl ⟨b3, b4⟩⟩
/-- not caught here: it goes on to the caller -/
theorem vx_widen {g : JFrame} {q : Addr} {k n : Nat} (h1 : cells ≤ k) (h2 : slots ≤ n) (kk : vx_W p l e R s m args below meth c H locs k n Q g q) : vx_W p l e R s m args below meth c H locs cells slots Q g q := fun T hT X => kk T hT (stand_widen X h1 h2)
theorem vx_out {pc : Nat} {E : String} {ce : Cell} {q : Addr} {mc ms : Nat} (hout : ∀ x ∈ c.exceptionTable.toList, covers x pc = false) (hlocks : meth.locks = false) (hcell : H[q]? = some ce) (hv : ce.vm = .none) (hcl : s.vm.findClass E = some ce.cls)
    (hx : ∀ t : State, t.heap = H → s.vm.Alike t.vm → XC E s t) (hf : ∀ z ∈ locs, free z.base) (hc : cells ≤ mc) (hs : slots ≤ ms) :
    vx_W p l e R s m args below meth c H locs cells slots (vx_MQ below Qc XC args s mc ms free) (F0 m pc ls rest) q := by
  intro T hT X
  obtain ⟨st1, hrun, hend, hW, hsm⟩ := X.leaveThrown q (g := F0 m pc ls rest) rfl rfl rfl hout hlocks
  have hcell9 : (T.setFrames (.throwing q :: below)).heap[q]? = some ce := by
    show T.heap[q]? = some ce
    rw [hT]; exact hcell
  exact ⟨_, st1, .threw q, hrun, hend, Or.inr ⟨q, rfl, E, ce, locs, hx _ hT hW.alike, hcell9, hv, hcl, hW, hsm.mono hc hs, hf⟩⟩
theorem vx_frame {U : State} {k n : Nat} (h : s.sameButNew ({ U with vm := s.vm } : State) locs k n) : s.heap.size ≤ U.heap.size ∧ ∀ q : Nat, q < s.heap.size → (∀ z ∈ locs, z.base ≠ q) → U.heap[q]? = s.heap[q]? := by
  obtain ⟨-, h2, -, -, -, h6⟩ := h
  refine ⟨h2, fun q hq hz => ?_⟩
  obtain ⟨c9, e1, e2, e3, e4⟩ := h6 q _ (Array.getElem?_eq_getElem hq)
  have hs : c9.slots = (s.heap[q]).slots := Array.ext_getElem? fun i => e4 i fun hm => hz _ hm rfl
  have h9 : c9 = s.heap[q] := by
    rw [hs] at e2
    exact e2
  have e5 : U.heap[q]? = some c9 := e1
  rw [e5, h9, Array.getElem?_eq_getElem hq]
/-- the words of a throw but the four that speak of the heap -/
def vx_no (w : Cond) : Bool := decide (w ≠ .isRef (.static Bundle.tN "UNASSIGNED_STACK" Bundle.steD)) && decide (w ≠ .isRef (.static Bundle.tN "SUPPRESSED_SENTINEL" Bundle.listD)) && decide (w ≠ .laysStatic Bundle.tN "UNASSIGNED_STACK" Bundle.steD) && decide (w ≠ .laysStatic Bundle.tN "SUPPRESSED_SENTINEL" Bundle.listD)
def vx_at0 (own : String) (ic : Nat) (X : String) (names : List String) : List Cond := (Bundle.ownAtoms0 own ic X names).filter vx_no
def vx_atS (own : String) (ic : Nat) (X : String) (names : List String) : List Cond := (Bundle.ownAtoms own ic X names).filter vx_no
/-- a word that the tables alone decide, or a good one -/
def vx_ot (w : Cond) : Bool := w.onTables || goodWord w
theorem vx_ot_at {args a' : Array Value} {s U : State} {w : Cond} (hW : s.WarmedH U.vm) (hvm : s.vm = U.vm) (hg : vx_ot w = true) (h : w.before args s = true) : w.before a' U = true := by
  simp only [vx_ot, Bool.or_eq_true] at hg
  rcases hg with hg | hg
  · exact va_tabs hg hvm h
  · exact word_at hW (good_of_word hg) h
/-- a list's words: the good ones out of the method's own list, the others by premises of their own -/
theorem vx_hat {args : Array Value} {s : State} {L B : List Cond} (h1 : ∀ w ∈ L.filter goodWord, w.before args s = true) (h2 : ∀ w ∈ L.filter (fun w => !goodWord w), w ∈ B) (h3 : ∀ w ∈ B, w.before args s = true) : ∀ w ∈ L, w.before args s = true := by
  intro w hw
  by_cases g : goodWord w = true
  · exact h1 w (List.mem_filter.mpr ⟨hw, g⟩)
  · refine h3 w (h2 w (List.mem_filter.mpr ⟨hw, ?_⟩))
    show (!goodWord w) = true
    cases hgw : goodWord w
    · rfl
    · exact absurd hgw g
theorem vx_c {args : Array Value} {s : State} {w : Cond} {B : List Cond} (h : w.before args s = true) (t : ∀ w ∈ B, w.before args s = true) : ∀ w' ∈ w :: B, w'.before args s = true := fun w' h' => (List.mem_cons.mp h').elim (fun e => by rw [e]; exact h) (t w')
theorem vx_n {args : Array Value} {s : State} : ∀ w ∈ ([] : List Cond), w.before args s = true := fun _ h => nomatch h
theorem vx_own {args : Array Value} {s : State} {L : List Cond} (h1 : ∀ w ∈ L.filter vx_no, w.before args s = true)
    (hU : (Cond.isRef (.static Bundle.tN "UNASSIGNED_STACK" Bundle.steD)).before args s = true) (hN : (Cond.isRef (.static Bundle.tN "SUPPRESSED_SENTINEL" Bundle.listD)).before args s = true)
    (lU : (Cond.laysStatic Bundle.tN "UNASSIGNED_STACK" Bundle.steD).before args s = true) (lN : (Cond.laysStatic Bundle.tN "SUPPRESSED_SENTINEL" Bundle.listD).before args s = true) : ∀ w ∈ L, w.before args s = true := by
  intro w hw
  by_cases e1 : w = .isRef (.static Bundle.tN "UNASSIGNED_STACK" Bundle.steD)
  · rw [e1]; exact hU
  · by_cases e2 : w = .isRef (.static Bundle.tN "SUPPRESSED_SENTINEL" Bundle.listD)
    · rw [e2]; exact hN
    · by_cases e3 : w = .laysStatic Bundle.tN "UNASSIGNED_STACK" Bundle.steD
      · rw [e3]; exact lU
      · by_cases e4 : w = .laysStatic Bundle.tN "SUPPRESSED_SENTINEL" Bundle.listD
        · rw [e4]; exact lN
        · exact h1 w (List.mem_filter.mpr ⟨hw, by unfold vx_no; rw [decide_eq_true e1, decide_eq_true e2, decide_eq_true e3, decide_eq_true e4]; rfl⟩)
/-- where a static field lies, its class's statics cell in H -/
def vx_L (C n d : String) (A : Nat → Prop) (U : State) (H : Heap) : Prop := ∃ (c : ClassId) (k : Class) (i : Nat) (f : Field) (a : Nat) (cell : Cell), U.vm.findClass C = some c ∧ U.fieldFound? C n d = some (c, k, i, f) ∧ f.isStatic = true ∧ k.statics = some a ∧ H[a]? = some cell ∧ cell.vm.isStatics = true ∧ cell.cls = c ∧ f.slot < cell.slots.size ∧ k.staticTypes[f.slot]? = some f.type ∧ ¬ A a
theorem vx_L.moved {C n d : String} {A : Nat → Prop} {u U : State} {H : Heap} (hvm : u.vm.Alike U.vm) (h : vx_L C n d A u H) : vx_L C n d A U H := by
  obtain ⟨c, k, i, f, a, cell, h1, h2, h3, h4, h5, h6, h7, h8, h9, h10⟩ := h
  obtain ⟨k', hi', he⟩ := State.fieldFound?_setVm hvm h2
  exact ⟨c, k', i, f, a, cell, by rw [hvm.findClass]; exact h1, hi', h3, by rw [he]; exact h4, h5, h6, h7, h8, by rw [he]; exact h9, h10⟩
theorem vx_L.kept {C n d : String} {A : Nat → Prop} {U : State} {H H1 : Heap} (h : vx_L C n d A U H) (hq : ∀ a : Nat, a < H.size → ¬ A a → H1[a]? = H[a]?) : vx_L C n d A U H1 := by
  obtain ⟨c, k, i, f, a, cell, h1, h2, h3, h4, h5, h6, h7, h8, h9, h10⟩ := h
  exact ⟨c, k, i, f, a, cell, h1, h2, h3, h4, by rw [hq a (Array.getElem?_eq_some_iff.mp h5).1 h10]; exact h5, h6, h7, h8, h9, h10⟩
theorem vx_L.narrow {C n d : String} {A B : Nat → Prop} {U : State} {H : Heap} (h : vx_L C n d A U H) (hAB : ∀ q, B q → A q) : vx_L C n d B U H := by
  obtain ⟨c, k, i, f, a, cell, h1, h2, h3, h4, h5, h6, h7, h8, h9, h10⟩ := h
  exact ⟨c, k, i, f, a, cell, h1, h2, h3, h4, h5, h6, h7, h8, h9, fun z => h10 (hAB _ z)⟩
theorem vx_L.word {C n d : String} {A : Nat → Prop} {s : State} {args : Array Value} (h : vx_L C n d A s s.heap) : (Cond.laysStatic C n d).before args s = true := by
  obtain ⟨c, k, i, f, a, cell, h1, h2, h3, h4, h5, h6, h7, h8, h9, -⟩ := h
  show (Cond.laysStatic C n d).holds args s none s [] = true
  exact Cond.laysStatic_of h1 h2 h3 h4 h5 h6 h7 h8 h9
/-- .. and what it holds: null or some reference -/
def vx_Zq (C n d : String) (A : Nat → Prop) (U : State) (H : Heap) : Prop := va_Zq C n d A U H ∧ vx_L C n d A U H
theorem vx_Zq.moved {C n d : String} {A : Nat → Prop} {u U : State} {H : Heap} (hvm : u.vm.Alike U.vm) (h : vx_Zq C n d A u H) : vx_Zq C n d A U H := ⟨va_Zq.moved hvm h.1, vx_L.moved hvm h.2⟩
theorem vx_Zq.kept {C n d : String} {A : Nat → Prop} {U : State} {H H1 : Heap} (h : vx_Zq C n d A U H) (hq : ∀ a : Nat, a < H.size → ¬ A a → H1[a]? = H[a]?) : vx_Zq C n d A U H1 := ⟨va_Zq.kept h.1 hq, vx_L.kept h.2 hq⟩
theorem vx_Zq.narrow {C n d : String} {A B : Nat → Prop} {U : State} {H : Heap} (h : vx_Zq C n d A U H) (hAB : ∀ q, B q → A q) : vx_Zq C n d B U H := ⟨va_Zq.narrow h.1 hAB, vx_L.narrow h.2 hAB⟩
theorem vx_Zqof {args : Array Value} {s : State} {C n d : String} {A : Nat → Prop} (hl : (Cond.laysStatic C n d).before args s = true) (hini : (Cond.initialized C).before args s = true) (h : (Cond.isRef (.static C n d)).before args s = true) (hA : ∀ a : Nat, a < s.heap.size → ¬ A a) : vx_Zq C n d A s s.heap := by
  refine ⟨va_Zqof hl hini h hA, ?_⟩
  obtain ⟨c, k, i, f, a, cell, h1, h2, h3, h4, h5, h6, h7, h8, h9⟩ := Cond.laysStatic_spec hl
  exact ⟨c, k, i, f, a, cell, h1, h2, h3, h4, h5, h6, h7, h8, h9, hA a (Array.getElem?_eq_some_iff.mp h5).1⟩
theorem vx_isRef {C n d : String} {v : Value} {A : Nat → Prop} {s : State} {args : Array Value} (h : va_Z C n d v A s s.heap) (hv : v.isRef = true) : (Cond.isRef (.static C n d)).before args s = true := by
  obtain ⟨cf, kf, fi, f, a, cell, h1, h2, h3, h4, h5, h6, h7, -⟩ := h
  have he : (Term.static C n d).eval args s none [] s = some v := by
    simp [Term.eval, State.fieldNamed?, h1, h2, h4, h5, h6, h7]
  simp only [Cond.before, Cond.holds, Cond.value, he]
  cases v <;> simp_all [Value.isRef]
theorem vx_isRefq {C n d : String} {A : Nat → Prop} {s : State} {args : Array Value} (h : va_Zq C n d A s s.heap) : (Cond.isRef (.static C n d)).before args s = true := by
  rcases h with h | ⟨t, h⟩
  · exact vx_isRef h rfl
  · exact vx_isRef h rfl
/-- the same frame, seen from here: as if the method were called anew in this heap -/
theorem vx_rebase {T : State} (X : Stand p l e R s m args below meth c T locs cells slots) {R' : Room} (hf : R'.frames ≤ R.frames) (hl : R'.locals ≤ R.locals) (hc : cells + R'.cells ≤ R.cells) (hs : slots + R'.slots ≤ R.slots) :
    Stand p l e R' ((T.setVm s.vm).setFrames (.invoking m args :: below)) m args below meth c T [] 0 0 := by
  have htop : (T.setVm s.vm).topJava?.isSome := X.here.top
  have hF : ((T.setVm s.vm).setFrames (.invoking m args :: below)).frames = .invoking m args :: below := State.frames_setFrames _ (State.cur_lt_of_top htop)
  obtain ⟨g₀, hg0⟩ := Option.isSome_iff_exists.mp htop
  obtain ⟨r, hr⟩ := State.topJava?_eq_some.mp hg0
  have hl9 : e.platform.stackLimits (T.setVm s.vm).me = e.platform.stackLimits s.me := X.limits
  have hb9 : (T.setVm s.vm).me.stackBytes = s.me.stackBytes := X.bytes
  refine ⟨X.admits, X.cas, X.clock, hF, ?_, X.hears, X.method, X.code, X.here, X.tail, X.warmed, ?_, ?_, ?_⟩
  · have h := X.room
    have hU : ((T.setVm s.vm).setFrames (.invoking m args :: below)).localsInUse = s.localsInUse := by
      rw [State.localsInUse_invoking hF (meth := meth) (c := c) X.method X.code, State.localsInUse_invoking X.frames X.method X.code]
    simp only [State.hasRoom, Bool.and_eq_true, decide_eq_true_eq] at h ⊢
    obtain ⟨⟨⟨⟨h1, h2, h3, h4, h5, h6⟩, h7⟩, h8⟩, h9⟩ := h
    rw [X.frames, List.length_cons] at h2 h3
    have q1 := X.heapSize
    have q2 := X.used
    simp only [hF, hU, List.length_cons, State.stackLimits_setFrames, State.stackBytes_setFrames, hl9, hb9]
    refine ⟨⟨⟨⟨by omega, by omega, by omega, by omega, by omega, h6⟩, ?_⟩, ?_⟩, X.book⟩
    · show T.heap.size + R'.cells ≤ e.platform.maxCells
      omega
    · show T.slotsUsed + R'.slots ≤ e.platform.maxSlots
      omega
  · rw [State.stackLimits_setFrames]; rfl
  · rw [State.stackBytes_setFrames]; rfl
  · refine ⟨?_, Nat.le_refl _, Nat.le_refl _, ?_, ?_, fun a c9 h9 => ⟨c9, h9, rfl, rfl, fun _ _ => rfl⟩⟩
    · obtain ⟨t, ht, -⟩ := State.frames_cons hr
      show T.setVm s.vm = { ((T.setVm s.vm).setFrames (.invoking m args :: below)).setFrames (T.setVm s.vm).frames with heap := T.heap, slotsUsed := T.slotsUsed }
      rw [State.setFrames_setFrames, State.setFrames_self ht]
      rfl
    · show T.slotsUsed = T.slotsUsed + ((T.heap.toList.drop T.heap.size).map (·.slots.size)).sum
      rw [List.drop_eq_nil_of_le (Nat.le_of_eq Array.length_toList)]
      rfl
    · show ((T.heap.toList.drop T.heap.size).map (·.slots.size)).sum ≤ 0
      rw [List.drop_eq_nil_of_le (Nat.le_of_eq Array.length_toList)]
      exact Nat.le_refl _
/-- 'throw new E()': new; dup; invokespecial; athrow -/
theorem vx_throw0 {cc : ByteArray} {pc : Nat} (hexec : p.tables.exec = Jvm.exec) (hb : c.code = cc) (hl : l.stackTraces = false) {own cls : String} {names : List String} {ik ic mc ms : Nat} {A : Nat → Prop}
    (hown : s.vm.findClass own = some m.cls) (hcls : Bundle.fit cls = true) (hnames : ∀ n ∈ names, Bundle.fit n = true)
    (hk : (Cond.classLink own ik cls).before args s = true) (hini : (Cond.initialized cls).before args s = true) (hat : ∀ w ∈ vx_at0 own ic cls names, w.before args s = true)
    (hgood : ∀ w ∈ Cond.classLink own ik cls :: Cond.initialized cls :: vx_at0 own ic cls names, vx_ot w = true)
    (hU : vx_Zq Bundle.tN "UNASSIGNED_STACK" Bundle.steD A s s.heap) (hN : vx_Zq Bundle.tN "SUPPRESSED_SENTINEL" Bundle.listD A s s.heap) (hS : va_S A s.heap H locs) (hsize : ls.size = c.maxLocals)
    (d0 : decode cc pc = .ok (.new ik, 3)) (d3 : decode cc (pc + 3) = .ok (.dup, 1)) (d4 : decode cc (pc + 4) = .ok (.invokespecial ic, 3)) (d7 : decode cc (pc + 7) = .ok (.athrow, 1))
    (hout : ∀ x ∈ c.exceptionTable.toList, covers x (pc + 7) = false)
    (hRframes : names.length + 3 < R.frames) (hRlocals : (rest.map fun v => v.category).sum + (13 * (names.length + 1) + 42) ≤ R.locals) (hRcells : cells + 1 ≤ R.cells) (hRslots : slots + 6 ≤ R.slots) (hlocks : meth.locks = false)
    (hx : ∀ t : State, s.vm.Alike t.vm → H.size ≤ t.heap.size → (∀ q : Nat, q < H.size → t.heap[q]? = H[q]?) → XC cls s t)
    (hf : ∀ z ∈ locs, free z.base) (hc : cells + 1 ≤ mc) (hs : slots + 6 ≤ ms) :
    W p l e R s m args below meth c H locs cells slots (vx_MQ below Qc XC args s mc ms free) (F0 m pc ls rest) := by
  intro T hT X
  have htr : e.platform.stackTraces = false := (show e.platform.stackTraces = l.stackTraces by rw [X.admits.platform]).trans hl
  have Y := vx_rebase X (R' := { frames := R.frames, locals := R.locals, cells := 1, slots := 6 }) (Nat.le_refl _) (Nat.le_refl _) hRcells hRslots
  obtain ⟨s', hA⟩ : ∃ z, z = (T.setVm s.vm).setFrames (.invoking m args :: below) := ⟨_, rfl⟩
  rw [← hA] at Y
  have hvm : s'.vm = s.vm := by rw [hA]; rfl
  have hhp : s'.heap = H := by rw [hA]; exact hT
  have hW0 : s.WarmedH s'.vm := by rw [hvm]; exact State.WarmedH.refl s
  have hat' : ∀ w ∈ vx_at0 own ic cls names, w.before args s' = true := fun w hw => vx_ot_at hW0 hvm.symm (hgood w (List.mem_cons_of_mem _ (List.mem_cons_of_mem _ hw))) (hat w hw)
  have hk' : (Cond.classLink own ik cls).before args s' = true := vx_ot_at hW0 hvm.symm (hgood _ List.mem_cons_self) hk
  have hini' : (Cond.initialized cls).before args s' = true := vx_ot_at hW0 hvm.symm (hgood _ (List.mem_cons_of_mem _ List.mem_cons_self)) hini
  have hU' : vx_Zq Bundle.tN "UNASSIGNED_STACK" Bundle.steD A s' s'.heap := by rw [hhp]; exact vx_Zq.moved hW0.alike (hU.kept hS.2.1)
  have hN' : vx_Zq Bundle.tN "SUPPRESSED_SENTINEL" Bundle.listD A s' s'.heap := by rw [hhp]; exact vx_Zq.moved hW0.alike (hN.kept hS.2.1)
  have h : ∀ w ∈ Bundle.ownAtoms0 own ic cls names, w.before args s' = true := vx_own hat' (vx_isRefq hU'.1) (vx_isRefq hN'.1) hU'.2.word hN'.2.word
  have hown' : s'.vm.findClass own = some m.cls := by rw [hvm]; exact hown
  have hins : (Cond.instantiable cls 6).before args s' = true := h _ (by simp [Bundle.ownAtoms0])
  obtain ⟨vm₁, cX, kX, hfX, hkX, -, -, X₁, st1⟩ := Y.newCold hexec (own := own) (C := cls) (index := ik) (n := 6) hown' hk' hins hini'
    (g := F0 m pc ls rest) rfl (by rw [hb]; exact d0) (Nat.le_refl _) (Nat.le_refl _)
  generalize hT1 : (T.setVm vm₁).pushCell { cls := cX, slots := kX.instanceTypes.map defaultValue, vm := .none } = T1 at X₁ st1
  have hcat : (Value.ref T.heap.size).category = 1 := rfl
  have hcellA : T1.heap[T.heap.size]? = some (freshCell cX kX) := by rw [← hT1]; exact State.heap_pushCell_size _ _
  have d3' : decode c.code (pc + 3) = .ok (.dup, 1) := by rw [hb]; exact d3
  obtain ⟨U, hsteps, hrun, hend, hW, hsame, ce, hce, hO⟩ := X₁.ctorThrow0 hexec htr (own := own) (cls := cls) (names := names) (ic := ic) hown' hcls hnames h (fun x hx => nomatch hx) hfX hkX hcellA (by rw [hhp, hT]; exact Nat.le_refl _)
    (g := { method := m, pc := pc + 4, locals := ls, stack := .ref T.heap.size :: .ref T.heap.size :: rest, locked := none }) rfl hsize rfl rfl (rest := rest) rfl
    (by rw [hb]; exact d4) (by rw [hb]; exact d7) hout hRframes (by simp only [List.map_cons, List.sum_cons, hcat]; omega) hlocks
  obtain ⟨f1, f2⟩ := vx_frame hsame
  rw [hhp] at f1 f2
  have hWs : s.WarmedH U.vm := State.WarmedH.trans hW0 hW
  have hcl : s.vm.findClass cls = some ce.cls := by
    have h9 := hO.cls
    rw [hvm] at h9
    exact h9
  have hall : s.sameButNew ({ U with vm := s.vm } : State) locs mc ms := by
    subst hA
    obtain ⟨e1, e2⟩ := hsame
    rw [State.setFrames_setFrames] at e1
    have h2 : (T.setVm s.vm).sameButNew ({ U with vm := s.vm } : State) [] (0 + 1) (0 + 6) := ⟨e1, e2⟩
    have h3 := X.same.trans h2
    rw [List.append_nil] at h3
    exact h3.mono hc hs
  refine ⟨U, ?_, .threw T.heap.size, hrun, hend, Or.inr ⟨T.heap.size, rfl, cls, ce, locs, hx U hWs.alike f1 (fun q hq => f2 q hq (fun z hz => nomatch hz)), hce, hO.vm, hcl, hWs, hall, hf⟩⟩
  refine st1 _ ?_
  show Steps p.tables e below (T1.setTop { method := m, pc := pc + 3, locals := ls, stack := .ref T.heap.size :: rest, locked := none }) _
  jvm_step X₁.here [X₁.here.top, hexec, d3', Value.category]
  exact hsteps
/-- 'throw new E("text")': new; dup; ldc; invokespecial; athrow -/
theorem vx_throwS {cc : ByteArray} {pc : Nat} (hexec : p.tables.exec = Jvm.exec) (hb : c.code = cc) (hl : l.stackTraces = false) {own cls text : String} {names : List String} {ik is ic mc ms sa : Nat} {A : Nat → Prop}
    (hown : s.vm.findClass own = some m.cls) (hcls : Bundle.fit cls = true) (hnames : ∀ n ∈ names, Bundle.fit n = true)
    (hk : (Cond.classLink own ik cls).before args s = true) (hini : (Cond.initialized cls).before args s = true) (hstr : vk_R own is text sa s) (hat : ∀ w ∈ vx_atS own ic cls names, w.before args s = true)
    (hgood : ∀ w ∈ Cond.classLink own ik cls :: Cond.initialized cls :: vx_atS own ic cls names, vx_ot w = true)
    (hU : vx_Zq Bundle.tN "UNASSIGNED_STACK" Bundle.steD A s s.heap) (hN : vx_Zq Bundle.tN "SUPPRESSED_SENTINEL" Bundle.listD A s s.heap) (hS : va_S A s.heap H locs) (hsize : ls.size = c.maxLocals)
    (d0 : decode cc pc = .ok (.new ik, 3)) (d3 : decode cc (pc + 3) = .ok (.dup, 1)) (d4 : decode cc (pc + 4) = .ok (.ldc is, 2)) (d6 : decode cc (pc + 6) = .ok (.invokespecial ic, 3)) (d9 : decode cc (pc + 9) = .ok (.athrow, 1))
    (hout : ∀ x ∈ c.exceptionTable.toList, covers x (pc + 9) = false)
    (hRframes : names.length + 3 < R.frames) (hRlocals : (rest.map fun v => v.category).sum + (13 * (names.length + 1) + 43) ≤ R.locals) (hRcells : cells + 1 ≤ R.cells) (hRslots : slots + 6 ≤ R.slots) (hlocks : meth.locks = false)
    (hx : ∀ t : State, s.vm.Alike t.vm → H.size ≤ t.heap.size → (∀ q : Nat, q < H.size → t.heap[q]? = H[q]?) → XC cls s t)
    (hf : ∀ z ∈ locs, free z.base) (hc : cells + 1 ≤ mc) (hs : slots + 6 ≤ ms) :
    W p l e R s m args below meth c H locs cells slots (vx_MQ below Qc XC args s mc ms free) (F0 m pc ls rest) := by
  intro T hT X
  have htr : e.platform.stackTraces = false := (show e.platform.stackTraces = l.stackTraces by rw [X.admits.platform]).trans hl
  have Y := vx_rebase X (R' := { frames := R.frames, locals := R.locals, cells := 1, slots := 6 }) (Nat.le_refl _) (Nat.le_refl _) hRcells hRslots
  obtain ⟨s', hA⟩ : ∃ z, z = (T.setVm s.vm).setFrames (.invoking m args :: below) := ⟨_, rfl⟩
  rw [← hA] at Y
  have hvm : s'.vm = s.vm := by rw [hA]; rfl
  have hhp : s'.heap = H := by rw [hA]; exact hT
  have hW0 : s.WarmedH s'.vm := by rw [hvm]; exact State.WarmedH.refl s
  have hat' : ∀ w ∈ vx_atS own ic cls names, w.before args s' = true := fun w hw => vx_ot_at hW0 hvm.symm (hgood w (List.mem_cons_of_mem _ (List.mem_cons_of_mem _ hw))) (hat w hw)
  have hk' : (Cond.classLink own ik cls).before args s' = true := vx_ot_at hW0 hvm.symm (hgood _ List.mem_cons_self) hk
  have hini' : (Cond.initialized cls).before args s' = true := vx_ot_at hW0 hvm.symm (hgood _ (List.mem_cons_of_mem _ List.mem_cons_self)) hini
  have hU' : vx_Zq Bundle.tN "UNASSIGNED_STACK" Bundle.steD A s' s'.heap := by rw [hhp]; exact vx_Zq.moved hW0.alike (hU.kept hS.2.1)
  have hN' : vx_Zq Bundle.tN "SUPPRESSED_SENTINEL" Bundle.listD A s' s'.heap := by rw [hhp]; exact vx_Zq.moved hW0.alike (hN.kept hS.2.1)
  have h : ∀ w ∈ Bundle.ownAtoms own ic cls names, w.before args s' = true := vx_own hat' (vx_isRefq hU'.1) (vx_isRefq hN'.1) hU'.2.word hN'.2.word
  have hown' : s'.vm.findClass own = some m.cls := by rw [hvm]; exact hown
  have hins : (Cond.instantiable cls 6).before args s' = true := h _ (by simp [Bundle.ownAtoms])
  obtain ⟨vm₁, cX, kX, hfX, hkX, -, -, X₁, st1⟩ := Y.newCold hexec (own := own) (C := cls) (index := ik) (n := 6) hown' hk' hins hini'
    (g := F0 m pc ls rest) rfl (by rw [hb]; exact d0) (Nat.le_refl _) (Nat.le_refl _)
  generalize hT1 : (T.setVm vm₁).pushCell { cls := cX, slots := kX.instanceTypes.map defaultValue, vm := .none } = T1 at X₁ st1
  have hcat : (Value.ref T.heap.size).category = 1 := rfl
  have hcellA : T1.heap[T.heap.size]? = some (freshCell cX kX) := by rw [← hT1]; exact State.heap_pushCell_size _ _
  have d3' : decode c.code (pc + 3) = .ok (.dup, 1) := by rw [hb]; exact d3
  have d4' : decode c.code (pc + 4) = .ok (.ldc is, 2) := by rw [hb]; exact d4
  have hstr' : vk_R own is text sa s' := vk_R.warm hW0 hstr
  obtain ⟨U, hsteps, hrun, hend, hW, hsame, ce, hce, hO⟩ := X₁.ctorThrowS hexec htr (own := own) (cls := cls) (names := names) (ic := ic) hown' hcls hnames h (fun x hx => nomatch hx) hfX hkX hcellA (by rw [hhp, hT]; exact Nat.le_refl _) (msg := .ref sa) rfl
    (g := { method := m, pc := pc + 6, locals := ls, stack := .ref sa :: .ref T.heap.size :: .ref T.heap.size :: rest, locked := none }) rfl hsize rfl rfl (rest := rest) rfl
    (by rw [hb]; exact d6) (by rw [hb]; exact d9) hout hRframes (by simp only [List.map_cons, List.sum_cons, hcat]; omega) hlocks
  obtain ⟨f1, f2⟩ := vx_frame hsame
  rw [hhp] at f1 f2
  have hWs : s.WarmedH U.vm := State.WarmedH.trans hW0 hW
  have hcl : s.vm.findClass cls = some ce.cls := by
    have h9 := hO.cls
    rw [hvm] at h9
    exact h9
  have hall : s.sameButNew ({ U with vm := s.vm } : State) locs mc ms := by
    subst hA
    obtain ⟨e1, e2⟩ := hsame
    rw [State.setFrames_setFrames] at e1
    have h2 : (T.setVm s.vm).sameButNew ({ U with vm := s.vm } : State) [] (0 + 1) (0 + 6) := ⟨e1, e2⟩
    have h3 := X.same.trans h2
    rw [List.append_nil] at h3
    exact h3.mono hc hs
  refine ⟨U, ?_, .threw T.heap.size, hrun, hend, Or.inr ⟨T.heap.size, rfl, cls, ce, locs, hx U hWs.alike f1 (fun q hq => f2 q hq (fun z hz => nomatch hz)), hce, hO.vm, hcl, hWs, hall, hf⟩⟩
  refine st1 _ ?_
  show Steps p.tables e below (T1.setTop { method := m, pc := pc + 3, locals := ls, stack := .ref T.heap.size :: rest, locked := none }) _
  jvm_step X₁.here [X₁.here.top, hexec, d3', Value.category]
  exact X₁.ldcString hexec (own := own) (text := text) (index := is) (a := sa) hown' hstr'.1 hstr'.2
    (g := { method := m, pc := pc + 4, locals := ls, stack := .ref T.heap.size :: .ref T.heap.size :: rest, locked := none }) rfl d4' _ hsteps
/-- 'throw new E("text")', the text by a wide index -/
theorem vx_throwSW {cc : ByteArray} {pc : Nat} (hexec : p.tables.exec = Jvm.exec) (hb : c.code = cc) (hl : l.stackTraces = false) {own cls text : String} {names : List String} {ik is ic mc ms sa : Nat} {A : Nat → Prop}
    (hown : s.vm.findClass own = some m.cls) (hcls : Bundle.fit cls = true) (hnames : ∀ n ∈ names, Bundle.fit n = true)
    (hk : (Cond.classLink own ik cls).before args s = true) (hini : (Cond.initialized cls).before args s = true) (hstr : vk_R own is text sa s) (hat : ∀ w ∈ vx_atS own ic cls names, w.before args s = true)
    (hgood : ∀ w ∈ Cond.classLink own ik cls :: Cond.initialized cls :: vx_atS own ic cls names, vx_ot w = true)
    (hU : vx_Zq Bundle.tN "UNASSIGNED_STACK" Bundle.steD A s s.heap) (hN : vx_Zq Bundle.tN "SUPPRESSED_SENTINEL" Bundle.listD A s s.heap) (hS : va_S A s.heap H locs) (hsize : ls.size = c.maxLocals)
    (d0 : decode cc pc = .ok (.new ik, 3)) (d3 : decode cc (pc + 3) = .ok (.dup, 1)) (d4 : decode cc (pc + 4) = .ok (.ldc_w is, 3)) (d7 : decode cc (pc + 7) = .ok (.invokespecial ic, 3)) (d10 : decode cc (pc + 10) = .ok (.athrow, 1))
    (hout : ∀ x ∈ c.exceptionTable.toList, covers x (pc + 10) = false)
    (hRframes : names.length + 3 < R.frames) (hRlocals : (rest.map fun v => v.category).sum + (13 * (names.length + 1) + 43) ≤ R.locals) (hRcells : cells + 1 ≤ R.cells) (hRslots : slots + 6 ≤ R.slots) (hlocks : meth.locks = false)
    (hx : ∀ t : State, s.vm.Alike t.vm → H.size ≤ t.heap.size → (∀ q : Nat, q < H.size → t.heap[q]? = H[q]?) → XC cls s t)
    (hf : ∀ z ∈ locs, free z.base) (hc : cells + 1 ≤ mc) (hs : slots + 6 ≤ ms) :
    W p l e R s m args below meth c H locs cells slots (vx_MQ below Qc XC args s mc ms free) (F0 m pc ls rest) := by
  intro T hT X
  have htr : e.platform.stackTraces = false := (show e.platform.stackTraces = l.stackTraces by rw [X.admits.platform]).trans hl
  have Y := vx_rebase X (R' := { frames := R.frames, locals := R.locals, cells := 1, slots := 6 }) (Nat.le_refl _) (Nat.le_refl _) hRcells hRslots
  obtain ⟨s', hA⟩ : ∃ z, z = (T.setVm s.vm).setFrames (.invoking m args :: below) := ⟨_, rfl⟩
  rw [← hA] at Y
  have hvm : s'.vm = s.vm := by rw [hA]; rfl
  have hhp : s'.heap = H := by rw [hA]; exact hT
  have hW0 : s.WarmedH s'.vm := by rw [hvm]; exact State.WarmedH.refl s
  have hat' : ∀ w ∈ vx_atS own ic cls names, w.before args s' = true := fun w hw => vx_ot_at hW0 hvm.symm (hgood w (List.mem_cons_of_mem _ (List.mem_cons_of_mem _ hw))) (hat w hw)
  have hk' : (Cond.classLink own ik cls).before args s' = true := vx_ot_at hW0 hvm.symm (hgood _ List.mem_cons_self) hk
  have hini' : (Cond.initialized cls).before args s' = true := vx_ot_at hW0 hvm.symm (hgood _ (List.mem_cons_of_mem _ List.mem_cons_self)) hini
  have hU' : vx_Zq Bundle.tN "UNASSIGNED_STACK" Bundle.steD A s' s'.heap := by rw [hhp]; exact vx_Zq.moved hW0.alike (hU.kept hS.2.1)
  have hN' : vx_Zq Bundle.tN "SUPPRESSED_SENTINEL" Bundle.listD A s' s'.heap := by rw [hhp]; exact vx_Zq.moved hW0.alike (hN.kept hS.2.1)
  have h : ∀ w ∈ Bundle.ownAtoms own ic cls names, w.before args s' = true := vx_own hat' (vx_isRefq hU'.1) (vx_isRefq hN'.1) hU'.2.word hN'.2.word
  have hown' : s'.vm.findClass own = some m.cls := by rw [hvm]; exact hown
  have hins : (Cond.instantiable cls 6).before args s' = true := h _ (by simp [Bundle.ownAtoms])
  obtain ⟨vm₁, cX, kX, hfX, hkX, -, -, X₁, st1⟩ := Y.newCold hexec (own := own) (C := cls) (index := ik) (n := 6) hown' hk' hins hini'
    (g := F0 m pc ls rest) rfl (by rw [hb]; exact d0) (Nat.le_refl _) (Nat.le_refl _)
  generalize hT1 : (T.setVm vm₁).pushCell { cls := cX, slots := kX.instanceTypes.map defaultValue, vm := .none } = T1 at X₁ st1
  have hcat : (Value.ref T.heap.size).category = 1 := rfl
  have hcellA : T1.heap[T.heap.size]? = some (freshCell cX kX) := by rw [← hT1]; exact State.heap_pushCell_size _ _
  have d3' : decode c.code (pc + 3) = .ok (.dup, 1) := by rw [hb]; exact d3
  have d4' : decode c.code (pc + 4) = .ok (.ldc_w is, 3) := by rw [hb]; exact d4
  have hstr' : vk_R own is text sa s' := vk_R.warm hW0 hstr
  obtain ⟨U, hsteps, hrun, hend, hW, hsame, ce, hce, hO⟩ := X₁.ctorThrowS hexec htr (own := own) (cls := cls) (names := names) (ic := ic) hown' hcls hnames h (fun x hx => nomatch hx) hfX hkX hcellA (by rw [hhp, hT]; exact Nat.le_refl _) (msg := .ref sa) rfl
    (g := { method := m, pc := pc + 7, locals := ls, stack := .ref sa :: .ref T.heap.size :: .ref T.heap.size :: rest, locked := none }) rfl hsize rfl rfl (rest := rest) rfl
    (by rw [hb]; exact d7) (by rw [hb]; exact d10) hout hRframes (by simp only [List.map_cons, List.sum_cons, hcat]; omega) hlocks
  obtain ⟨f1, f2⟩ := vx_frame hsame
  rw [hhp] at f1 f2
  have hWs : s.WarmedH U.vm := State.WarmedH.trans hW0 hW
  have hcl : s.vm.findClass cls = some ce.cls := by
    have h9 := hO.cls
    rw [hvm] at h9
    exact h9
  have hall : s.sameButNew ({ U with vm := s.vm } : State) locs mc ms := by
    subst hA
    obtain ⟨e1, e2⟩ := hsame
    rw [State.setFrames_setFrames] at e1
    have h2 : (T.setVm s.vm).sameButNew ({ U with vm := s.vm } : State) [] (0 + 1) (0 + 6) := ⟨e1, e2⟩
    have h3 := X.same.trans h2
    rw [List.append_nil] at h3
    exact h3.mono hc hs
  refine ⟨U, ?_, .threw T.heap.size, hrun, hend, Or.inr ⟨T.heap.size, rfl, cls, ce, locs, hx U hWs.alike f1 (fun q hq => f2 q hq (fun z hz => nomatch hz)), hce, hO.vm, hcl, hWs, hall, hf⟩⟩
  refine st1 _ ?_
  show Steps p.tables e below (T1.setTop { method := m, pc := pc + 3, locals := ls, stack := .ref T.heap.size :: rest, locked := none }) _
  jvm_step X₁.here [X₁.here.top, hexec, d3', Value.category]
  exact X₁.ldcStringW hexec (own := own) (text := text) (index := is) (a := sa) hown' hstr'.1 hstr'.2
    (g := { method := m, pc := pc + 4, locals := ls, stack := .ref T.heap.size :: .ref T.heap.size :: rest, locked := none }) rfl d4' _ hsteps
end Ends
section Bodies
variable {l : Launch}
theorem vx_ofW {y : MethodName} {ws ws' : List Cond} {rm : Room} {Pc : Array Value → State → Prop} {Qc : Array Value → State → Outcome → State → Prop} {XC : String → State → State → Prop} {mc ms : Nat} {free : Addr → Prop} {cc : ByteArray} {maxL : Nat} {ret : Option FieldType}
    (hy : plainName y.cls = true) (hw : ws = Cond.code y cc maxL ret :: ws')
    (body : ∀ p e s m args below meth c s₁, BodyLoose p l y (headSpec ws rm) cc maxL ret e s m args below meth c s₁ → c.maxLocals = maxL → (∀ x ∈ c.exceptionTable.toList, False) → Pc args s →
      W p l e (headSpec ws rm).room s m args below meth c s.heap [] 0 0 (vx_MQ below Qc XC args s mc ms free) (entryFrame m args maxL)) : vx_Met l y ws rm Pc Qc XC mc ms free := by
  refine MetFree.of_bodyS (code := cc) (maxLocals := maxL) (ret := ret) hy ?_ ?_
  · intro args s m h hn
    obtain ⟨meth, c, h1, h2, h3, h4, h5, h6, -, -⟩ := Cond.code_spec hn (atoms_spec (ws := ws) h _ (by rw [hw]; exact List.mem_cons_self))
    exact ⟨meth, c, h1, h2, h3, h4, h5, h6⟩
  · intro p e s m args below meth c s₁ B hml hP _
    have hh0 : s₁.heap = s.heap := by rw [B.state]; rfl
    have ht : ∀ x ∈ c.exceptionTable.toList, False := by
      obtain ⟨meth9, c9, h1, h2, -, -, -, -, h7, -⟩ := Cond.code_spec B.named (atoms_spec (ws := ws) B.pre _ (by rw [hw]; exact List.mem_cons_self))
      cases Option.some.inj (h1.symm.trans B.method)
      cases Option.some.inj (h2.symm.trans (Stand.of_body B).code)
      intro x hx
      rw [Array.isEmpty_iff.mp h7] at hx
      cases hx
    obtain ⟨t, a1, o, b1, b2, b3⟩ := body p e s m args below meth c s₁ B hml ht hP s₁ hh0 (Stand.of_body B)
    exact ⟨t, o, a1, b1, b2, b3⟩
/-- the table of a body with handlers -/
theorem vx_table {p : Program} {x y : MethodName} {S : Spec} {cc bytes : ByteArray} {maxL maxL' : Nat} {ret ret' : Option FieldType} {e : Env} {s s₁ : State} {m : MethodId} {args : Array Value} {below : List Frame} {meth : Method} {c : Code} {hh : List (Nat × Nat × Nat × Nat)}
    (B : BodyLoose p l y S cc maxL ret e s m args below meth c s₁) (h : (Cond.codeWith y bytes maxL' ret' hh).before args s = true) : c.exceptionTable.toList = tableOf hh := by
  obtain ⟨m9, meth9, c9, hn9, h1, h2, -, -, h6, -⟩ := Cond.codeWith_spec h
  cases Option.some.inj (hn9.symm.trans B.named)
  cases Option.some.inj (h1.symm.trans B.method)
  cases Option.some.inj (h2.symm.trans (Stand.of_body B).code)
  rw [← h6, table_eq]
end Bodies
end VXA
/-! ===== END ===== -/
/-! ===== BEGIN a static call of a method with an exception table ===== -/
section VXS
variable {p : Program} {l : Launch} {e : Env} {R : Room} {s : State} {m : MethodId} {args : Array Value} {below : List Frame} {meth : Method} {c : Code} {T : State} {H : Heap} {locs : List Loc} {cells slots : Nat}
abbrev vx_CSW (R : Room) (s : State) (args : Array Value) (own : String) (index : Nat) (y : MethodName) (bytes : ByteArray) (maxL : Nat) (ret : Option FieldType) (hh : List (Nat × Nat × Nat × Nat)) (ws : List Cond) (rm : Room) (mc ms n : Nat) : Prop :=
  (rm.cells = mc ∧ rm.slots = ms ∧ rm.frames + 1 ≤ R.frames ∧ 8 + (maxL + 11) + rm.locals ≤ R.locals ∧ (∀ w ∈ ws, ∀ (a' : Array Value) (U : State), s.WarmedH U.vm → w.before a' U = true) ∧ Cond.codeWith y bytes maxL ret hh ∈ ws) ∧
  (Cond.codeWith y bytes maxL ret hh).before args s = true ∧ (Cond.initialized y.cls).before args s = true ∧ (y.cls ≠ "java/lang/invoke/MethodHandle" ∧ y.cls ≠ "java/lang/invoke/VarHandle") ∧
  (∀ sig, parseMethodDescriptor y.desc = some sig → n = sig.parameters.length) ∧ (Cond.methodLink own index y).before args s = true ∧ (Cond.static y).before args s = true
theorem vx_cwSW {own : String} {index maxL mc ms : Nat} {y : MethodName} {bytes : ByteArray} {ret : Option FieldType} {hh : List (Nat × Nat × Nat × Nat)} {Ts ws ws' : List Cond} {rm : Room} (n : Nat) (ht : ∀ w ∈ Ts, w.before args s = true) (hT : GoodIn Ts (va_wsS own index y ws)) (hw : ws = Cond.codeWith y bytes maxL ret hh :: ws') (hrc : rm.cells = mc) (hrs : rm.slots = ms)
    (hd : y.cls ≠ "java/lang/invoke/MethodHandle" ∧ y.cls ≠ "java/lang/invoke/VarHandle" ∧ (parseMethodDescriptor y.desc).map (fun d => d.parameters.length) = some n) (hR : rm.frames + 1 ≤ R.frames ∧ 8 + (maxL + 11) + rm.locals ≤ R.locals) :
    vx_CSW R s args own index y bytes maxL ret hh ws rm mc ms n := by
  have ok : ∀ w ∈ va_wsS own index y ws, w.before args s = true := fun w h => ht w (hT w h).1
  have hG : GoodIn Ts ws := fun w h => hT w (by unfold va_wsS; exact List.mem_append_right _ h)
  have hc : Cond.codeWith y bytes maxL ret hh ∈ ws := by rw [hw]; exact List.mem_cons_self
  refine ⟨⟨hrc, hrs, hR.1, hR.2, pay_in ht hG, hc⟩, ht _ (hG _ hc).1, ok _ (by simp [va_wsS]), ⟨hd.1, hd.2.1⟩, fun sig h => ?_, ok _ (by simp [va_wsS]), ok _ (by simp [va_wsS])⟩
  have h2 := hd.2.2
  rw [h] at h2
  exact (Option.some.inj h2).symm
theorem vx_callSW (X : Stand p l e R s m args below meth c T locs cells slots) (hexec : p.tables.exec = Jvm.exec) {own : String} {index : Nat} {y : MethodName} {bytes : ByteArray} {maxL : Nat} {ret : Option FieldType} {hh : List (Nat × Nat × Nat × Nat)}
    (hown : s.vm.findClass own = some m.cls) (hlink : (Cond.methodLink own index y).before args s = true) (hstat : (Cond.static y).before args s = true) (hinit : (Cond.initialized y.cls).before args s = true)
    (hcode : (Cond.codeWith y bytes maxL ret hh).before args s = true) (hy : y.cls ≠ "java/lang/invoke/MethodHandle" ∧ y.cls ≠ "java/lang/invoke/VarHandle")
    {W9 : Nat} {Pre : Pt → Array Value → Prop} {Post : Pt → Array Value → Option Value → Pt → Prop} (hK : Back l R p e below s args y 3 W9 Pre Post)
    {g : JFrame} (hg : g.method = m) (hsize : g.locals.size = c.maxLocals) {argsL rest : List Value} (hlen : ∀ sig, parseMethodDescriptor y.desc = some sig → argsL.length = sig.parameters.length)
    (hstack : g.stack = argsL.reverse ++ rest) (hW : 2 * g.monitorRoom + (rest.map fun v => v.category).sum ≤ W9) (hdg : decode c.code g.pc = .ok (.invokestatic index, 3))
    (hpre : ∀ vm₁, s.WarmedH vm₁ → Pre ⟨T.setVm vm₁, locs, cells, slots⟩ argsL.toArray) :
    ∃ (v : Option Value) (vm₁ : Vm) (B : Pt), s.WarmedH vm₁ ∧ Stand p l e R s m args below meth c B.U B.locs B.cells B.slots ∧ Post ⟨T.setVm vm₁, locs, cells, slots⟩ argsL.toArray v B ∧
      ∀ target, Steps p.tables e below (B.U.setTop { g with pc := g.pc + 3, stack := v.toList ++ rest }) target → Steps p.tables e below (T.setTop g) target := by
  obtain ⟨mk, methM, cM, hnamed, hmethM, -, -, -, -, -, -, hsigM⟩ := Cond.codeWith_spec hcode
  have hstatic : methM.isStatic = true := Cond.static_spec hnamed hmethM hstat
  obtain ⟨kP, hkP, -⟩ := className_of_methodNamed hnamed
  have hinitP : kP.init = .initialized := Cond.initialized_spec (findClass_of_methodNamed hnamed) hkP hinit
  obtain ⟨vm₁, X₁, hstep₁⟩ := X.invokestatic hexec hown hlink hnamed hmethM hstatic hkP hinitP hy (g := g) hg (argsL := argsL) (rest := rest) (hlen _ hsigM) hstack hdg
  obtain ⟨v, B, X', hpost, hsteps⟩ := hK m meth c ⟨T.setVm vm₁, locs, cells, slots⟩ { g with stack := rest } (.invokestatic index) mk argsL.toArray X₁ hg hsize hdg hW (X₁.named hnamed) (hpre vm₁ X₁.warmed)
  exact ⟨v, vm₁, B, X₁.warmed, X', hpost, fun target h => hstep₁ _ fun acts => by rw [doInvoke_state]; exact hsteps.trans h⟩
theorem vx_runSW {y : MethodName} {bytes cc : ByteArray} {maxL nL mc ms n index : Nat} {ret : Option FieldType} {hh : List (Nat × Nat × Nat × Nat)} {ws : List Cond} {rm : Room} {Pc : Array Value → State → Prop} {Qc : Array Value → State → Outcome → State → Prop} {free : Addr → Prop} {Ts : List Cond} {own : String} {As rest : List Value} {g : JFrame}
    (S : CallFix p m c cc nL s args Ts own) (hM : Met l y ws rm Pc Qc mc ms free) (cw : vx_CSW R s args own index y bytes maxL ret hh ws rm mc ms n) (hp : PreS s H Pc As)
    (hg : g.method = m) (hn : As.length = n) (hsize : g.locals.size = nL) (hstack : g.stack = As.reverse ++ rest) (hW : 2 * g.monitorRoom + (rest.map fun v => v.category).sum ≤ 8) (hdg : decode cc g.pc = .ok (.invokestatic index, 3)) (hf : cells + mc ≤ R.cells ∧ slots + ms ≤ R.slots) :
    va_Run p l e R s m args below meth c H locs cells slots mc ms g rest (Qc As.toArray) (free) := by
  obtain ⟨⟨hrc, hrs, hfr, hlo, hws, hcw⟩, hcode, hini, hy, hlen, hl, hstt⟩ := cw
  have hK : Back l R p e below s args y 3 8 (PreOf R mc ms Pc) (PostOf Qc mc ms free) := va_backW (hh := hh) (bytes := bytes) (maxL := maxL) (ret := ret) hM hp.1 hrc hrs hfr hlo hws hcw (fun a' U hW => word_at hW (Or.inl (by first | rfl | simp [Cond.onTables, Cond.keeps, Cond.steady])) hini)
  obtain ⟨hx, hb, hml, ho, -⟩ := S
  intro T hT X
  obtain ⟨v, vm₁, ⟨U', l2, c2, s2⟩, hW₁, X', ⟨g', mk, t, L, e1, e2, hq, h1, hL, h2, h3⟩, st⟩ := vx_callSW X hx (hh := hh) (bytes := bytes) (maxL := maxL) (ret := ret) ho hl hstt hini hcode hy hK hg (hsize.trans hml.symm) (argsL := As) (rest := rest) (fun sig h => hn.trans (hlen sig h)) hstack hW (by rw [hb]; exact hdg)
    (fun vm₁ hW₁ => ⟨hf.1, hf.2, hp.2 (T.setVm vm₁) hT hW₁⟩)
  dsimp only [Pt.U, Pt.locs, Pt.cells, Pt.slots] at X' e1 e2 h1 h2 h3 st
  subst h1; subst h2; subst h3
  exact ⟨v, (T.setVm vm₁).calling g' mk As.toArray, t, U', L, hT, X', hL, e1, e2, hq, st⟩
/-- not caught here, past rows that name other classes: it goes on to the caller -/
theorem vx_outP {p : Program} {l : Launch} {e : Env} {R : Room} {s : State} {m : MethodId} {args : Array Value} {below : List Frame} {meth : Method} {c : Code} {H : Heap} {locs : List Loc} {cells slots : Nat} {free : Addr → Prop} {ls : Array Slot} {rest : List Value} {Qc : Array Value → State → Outcome → State → Prop} {XC : String → State → State → Prop}
    {pc : Nat} {own E : String} {ce : Cell} {q : Addr} {mc ms : Nat} (hown : s.vm.findClass own = some m.cls) (hlocks : meth.locks = false)
    (hpass : ∀ z ∈ c.exceptionTable.toList, covers z pc = false ∨ (z.catchType ≠ 0 ∧ ∃ nm : String, (Cond.classLink own z.catchType nm).before args s = true ∧ va_Nc E nm s)) (hcell : H[q]? = some ce) (hv : ce.vm = .none) (hcl : s.vm.findClass E = some ce.cls)
    (hx : ∀ t : State, t.heap = H → s.vm.Alike t.vm → XC E s t) (hf : ∀ z ∈ locs, free z.base) (hc : cells ≤ mc) (hs : slots ≤ ms) :
    vx_W p l e R s m args below meth c H locs cells slots (vx_MQ below Qc XC args s mc ms free) (F0 m pc ls rest) q := by
  intro T hT X
  have hpl : e.platform.magicAccessors = ({} : Platform).magicAccessors := by rw [X.admits.platform]
  obtain ⟨vm', hW', X', st⟩ := X.outThrough hlocks q (g := F0 m pc ls rest) rfl rfl rfl (cell := ce) (by rw [hT]; exact hcell) (by rw [hv]; rfl)
    (by obtain ⟨k9, h9, -⟩ := Vm.findClass_spec hcl; exact ⟨k9, h9⟩) (fun z hz => by
      rcases hpass z hz with h | ⟨hz0, nm, hl1, hn1⟩
      · exact Or.inl h
      · obtain ⟨c6, hc6, hcl6⟩ := Cond.classLink_spec hown hl1 e.platform hpl
        obtain ⟨a8, b8, h1, h2, h3⟩ := hn1
        cases Option.some.inj (h1.symm.trans hcl)
        cases Option.some.inj (h2.symm.trans hc6)
        exact Or.inr ⟨hz0, _, hcl6, h3⟩)
  obtain ⟨g₀, hfr⟩ := X'.frames_eq
  have hcell9 : ((T.setVm vm').setFrames (.throwing q :: below)).heap[q]? = some ce := by
    show T.heap[q]? = some ce
    rw [hT]; exact hcell
  have hend : Ended ((T.setVm vm').setFrames (.throwing q :: below)) below (.threw q) := State.frames_setFrames _ (State.cur_lt_of_frames hfr)
  refine ⟨(T.setVm vm').setFrames (.throwing q :: below), ?_, .threw q, X'.here.running, hend, Or.inr ⟨q, rfl, E, ce, locs, hx _ hT (X'.ends _).1.alike, hcell9, hv, hcl, (X'.ends _).1, (X'.ends _).2.mono hc hs, hf⟩⟩
  rw [X.pushThrowing_eq]
  exact st
/-- a thing of a world lies in the heap -/
theorem vx_lt {D : va_G} {cl : List vw_C} {ws : va_W} {H1 : Heap} (h : va_P D cl ws H1) {k : Nat} {q : Nat × va_E} (hk : ws[k]? = some q) : q.1 < H1.size := (h k q hk).lt
end VXS
/-! ===== END ===== -/
/-! ===== BEGIN methods with a table of their own: called by a name, returning or throwing ===== -/
section VXH
/-! vx_backW, vx_callVX, vx_callSX, vx_callVW, vx_runVW, vx_runVX, vx_runSX, vx_ofWH follow the same proofs as their sisters above (Free/Laws.lean, Shelf42/LK1.lean); vx_outP calls Shelf42/NT130.lean (outThrough). -/
section
variable {l : Launch} {R : Room} {p : Program} {e : Env} {below : List Frame} {s : State} {sargs : Array Value} {y : MethodName} {len W9 : Nat}
theorem vx_backW {ws : List Cond} {rm : Room} {Pc : Array Value → State → Prop} {Qc : Array Value → State → Outcome → State → Prop} {XC : String → State → State → Prop} {mc ms : Nat} {free : Addr → Prop} {bytes : ByteArray} {maxL : Nat} {ret : Option FieldType} {hh : List (Nat × Nat × Nat × Nat)}
    (hM : vx_Met l y ws rm Pc Qc XC mc ms free) (hblind : FrameBlind Pc) (hrc : rm.cells = mc) (hrs : rm.slots = ms)
    (hframes : rm.frames + 1 ≤ R.frames) (hlocals : W9 + (maxL + 11) + rm.locals ≤ R.locals)
    (hws : ∀ w ∈ ws, ∀ a' U, s.WarmedH U.vm → w.before a' U = true) (hcode : Cond.codeWith y bytes maxL ret hh ∈ ws) (hinit : ∀ a' U, s.WarmedH U.vm → (Cond.initialized y.cls).before a' U = true) :
    vx_Back l R p e below s sargs y len W9 (PreOf R mc ms Pc) (PostOf Qc mc ms free) (vx_Post XC mc ms free) := by
  intro m meth c A g ig mk a X hg hsize hdg hW hn hp
  have h1 : (headSpec ws rm).pre.before a A.U = true := atoms_intro fun w hw => hws w hw _ _ X.warmed
  have h2 : (Cond.codeWith y bytes maxL ret hh).before a A.U = true := hws _ hcode _ _ X.warmed
  have h3 : (Cond.initialized y.cls).before a A.U = true := hinit _ _ X.warmed
  have h4 : A.cells + (headSpec ws rm).room.cells ≤ R.cells := by rw [show (headSpec ws rm).room.cells = mc from hrc]; exact hp.1
  have h5 : A.slots + (headSpec ws rm).room.slots ≤ R.slots := by rw [show (headSpec ws rm).room.slots = ms from hrs]; exact hp.2.1
  have hPc : Pc a (A.U.calling g mk a) := hblind _ _ _ _ hp.2.2
  obtain ⟨U, Ls, c0, s0⟩ := A
  dsimp only [Pt.U, Pt.locs, Pt.cells, Pt.slots] at h1 h2 h3 h4 h5 X hn hPc ⊢
  obtain ⟨m9, methY, cY, hn9, hmY, hcY, -, hlY, -⟩ := Cond.codeWith_spec h2
  cases Option.some.inj (hn9.symm.trans hn)
  obtain ⟨kY, hkY, -⟩ := className_of_methodNamed hn
  have hinitY : kY.init = .initialized := Cond.initialized_spec (findClass_of_methodNamed hn) hkY h3
  have h : At U g.method c below := by rw [hg]; exact X.here
  have hlocals9 : W9 + (maxL + 11) + (headSpec ws rm).room.locals ≤ R.locals := hlocals
  have happ : (headSpec ws rm).appliesLoose y e.platform (U.calling g mk a) = true :=
    Spec.appliesLoose_calling (g := g) h hdg hn hkY hinitY
      (X.room_calling (g := g) (R' := (headSpec ws rm).room) hsize hmY hcY hframes (by rw [hlY]; omega) h4 h5) h1
  obtain ⟨mid, hmid⟩ := h.above
  have hfr : (U.setTop g).frames = (.java g :: mid) ++ below := by rw [State.frames_setTop' g h.top, hmid]; rfl
  obtain ⟨o, s₂, hsteps, -, hend, hq⟩ := Steps.callFree hM p X.admits X.cas X.clock (acts := []) hfr happ hPc trivial
  have hq' : vx_Q Qc XC mc ms free a (U.calling g mk a) o s₂ := hq
  rw [State.frames_setTop' g h.top] at hend
  obtain ⟨g₀, hg0⟩ := Option.isSome_iff_exists.mp h.top
  obtain ⟨r, hr⟩ := State.topJava?_eq_some.mp hg0
  have hr' : (({ U with heap := s₂.heap, slotsUsed := s₂.slotsUsed } : State).setVm s₂.vm).frames = .java g₀ :: r := hr
  rcases hq' with ⟨hqc, L, hfe, hL⟩ | ⟨q, rfl, E, ce, L, hx, hce, hcv, hcl, hW₂, hsm, hL⟩
  · obtain ⟨⟨v, rfl⟩, hW₂, e2, q2, q3, q4, q5, q6⟩ := id hfe
    have e3 : s₂ = ({ (U.calling g mk a).setFrames s₂.frames with heap := s₂.heap, slotsUsed := s₂.slotsUsed } : State).setVm s₂.vm := by
      have : s₂ = ({ s₂ with vm := (U.calling g mk a).vm } : State).setVm s₂.vm := rfl
      rw [e2] at this
      exact this
    obtain ⟨c₂, i₂, len₂, hc₂, hd₂, hf₂⟩ := hend
    have hW' : U.WarmedH s₂.vm := hW₂
    have hcc : c₂ = c := by
      have h1 : s₂.code? g.method = U.code? g.method := by
        rw [State.code?_eq, State.code?_eq, hW'.alike.method?]
      exact Option.some.inj (hc₂.symm.trans (h1.trans h.code))
    subst hcc
    have hlen : len₂ = len := by rw [hdg] at hd₂; cases hd₂; rfl
    subst hlen
    have hs₂ : s₂ = (({ U with heap := s₂.heap, slotsUsed := s₂.slotsUsed } : State).setVm s₂.vm).setTop { g with pc := g.pc + len₂, stack := v.toList ++ g.stack } := by
      refine e3.trans ?_
      rw [hf₂, State.calling_eq h.top, State.setFrames_setFrames, State.setTop_of_frames _ hr', hr]
      rfl
    have hsame : U.sameButNew ({ U with heap := s₂.heap, slotsUsed := s₂.slotsUsed } : State) L mc ms := by
      refine ⟨?_, q2, q3, q4, q5, q6⟩
      obtain ⟨t, ht, -⟩ := State.frames_cons hr
      show ({ U with heap := s₂.heap, slotsUsed := s₂.slotsUsed } : State) = { U.setFrames U.frames with heap := s₂.heap, slotsUsed := s₂.slotsUsed }
      rw [State.setFrames_self ht]
    subst hg
    refine Or.inl ⟨v, ⟨(({ U with heap := s₂.heap, slotsUsed := s₂.slotsUsed } : State).setVm s₂.vm), Ls ++ L, c0 + mc, s0 + ms⟩,
      ⟨X.admits, X.cas, X.clock, X.frames, X.room, X.hears, X.method, X.code, (X.here.setHeapUsed s₂.heap s₂.slotsUsed).setVm hW'.alike, X.tail, State.WarmedH.trans X.warmed hW', X.limits, X.bytes, X.same.trans (hsame.setVm s.vm)⟩,
      ⟨g, mk, s₂, L, rfl, rfl, hqc, rfl, hL, rfl, rfl⟩, ?_⟩
    show Steps p.tables e below _ ((({ U with heap := s₂.heap, slotsUsed := s₂.slotsUsed } : State).setVm s₂.vm).setTop { g with pc := g.pc + len₂, stack := v.toList ++ g.stack })
    rw [← hs₂]
    exact hsteps
  · obtain ⟨e2, q2, q3, q4, q5, q6⟩ := id hsm
    have e3 : s₂ = ({ (U.calling g mk a).setFrames s₂.frames with heap := s₂.heap, slotsUsed := s₂.slotsUsed } : State).setVm s₂.vm := by
      have : s₂ = ({ s₂ with vm := (U.calling g mk a).vm } : State).setVm s₂.vm := rfl
      rw [e2] at this
      exact this
    have hf₂ : s₂.frames = .throwing q :: .java g :: U.frames.tail := hend
    have hW' : U.WarmedH s₂.vm := hW₂
    have hs₂ : s₂ = ((({ U with heap := s₂.heap, slotsUsed := s₂.slotsUsed } : State).setVm s₂.vm).setTop g).pushFrame (.throwing q) := by
      refine e3.trans ?_
      rw [hf₂, State.calling_eq h.top, State.setFrames_setFrames, State.pushFrame, State.frames_setTop _ hr', State.setTop_of_frames _ hr', State.setFrames_setFrames, hr]
      rfl
    have hsame : U.sameButNew ({ U with heap := s₂.heap, slotsUsed := s₂.slotsUsed } : State) L mc ms := by
      refine ⟨?_, q2, q3, q4, q5, q6⟩
      obtain ⟨t, ht, -⟩ := State.frames_cons hr
      show ({ U with heap := s₂.heap, slotsUsed := s₂.slotsUsed } : State) = { U.setFrames U.frames with heap := s₂.heap, slotsUsed := s₂.slotsUsed }
      rw [State.setFrames_self ht]
    subst hg
    refine Or.inr ⟨q, ⟨(({ U with heap := s₂.heap, slotsUsed := s₂.slotsUsed } : State).setVm s₂.vm), Ls ++ L, c0 + mc, s0 + ms⟩,
      ⟨X.admits, X.cas, X.clock, X.frames, X.room, X.hears, X.method, X.code, (X.here.setHeapUsed s₂.heap s₂.slotsUsed).setVm hW'.alike, X.tail, State.WarmedH.trans X.warmed hW', X.limits, X.bytes, X.same.trans (hsame.setVm s.vm)⟩,
      ⟨g, mk, s₂, L, E, ce, rfl, rfl, hx, hce, hcv, hcl, rfl, hL, rfl, rfl⟩, ?_⟩
    show Steps p.tables e below _ (((({ U with heap := s₂.heap, slotsUsed := s₂.slotsUsed } : State).setVm s₂.vm).setTop g).pushFrame (.throwing q))
    rw [← hs₂]
    exact hsteps
end
variable {p : Program} {l : Launch} {e : Env} {R : Room} {s : State} {m : MethodId} {args : Array Value} {below : List Frame} {meth : Method} {c : Code} {T : State} {H : Heap} {locs : List Loc} {cells slots : Nat}
theorem vx_callVX (X : Stand p l e R s m args below meth c T locs cells slots) (hexec : p.tables.exec = Jvm.exec) {own C : String} {index : Nat} {y : MethodName} {bytes : ByteArray} {maxL : Nat} {ret : Option FieldType} {hh : List (Nat × Nat × Nat × Nat)}
    (hown : s.vm.findClass own = some m.cls) (hlink : (Cond.methodLink own index y).before args s = true) (hinst : (Cond.instanceMethod y).before args s = true) (hsel : (Cond.selects C y y).before args s = true)
    (hcode : (Cond.codeWith y bytes maxL ret hh).before args s = true) (hy : y.cls ≠ "java/lang/invoke/MethodHandle" ∧ y.cls ≠ "java/lang/invoke/VarHandle")
    {W9 : Nat} {Pre : Pt → Array Value → Prop} {Post : Pt → Array Value → Option Value → Pt → Prop} {PostX : Pt → Array Value → Addr → Pt → Prop} (hK : vx_Back l R p e below s args y 3 W9 Pre Post PostX)
    {b : Addr} {cellB : Cell} (hcell : T.heap[b]? = some cellB) (hobj : cellB.vm.isStatics = false) (hcls : s.vm.findClass C = some cellB.cls)
    {g : JFrame} (hg : g.method = m) (hsize : g.locals.size = c.maxLocals) {argsL rest : List Value} (hlen : ∀ sig, parseMethodDescriptor y.desc = some sig → argsL.length = sig.parameters.length)
    (hstack : g.stack = argsL.reverse ++ .ref b :: rest) (hW : 2 * g.monitorRoom + (rest.map fun v => v.category).sum ≤ W9) (hdg : decode c.code g.pc = .ok (.invokevirtual index, 3))
    (hpre : ∀ vm₁, s.WarmedH vm₁ → Pre ⟨T.setVm vm₁, locs, cells, slots⟩ (Value.ref b :: argsL).toArray) :
    (∃ (v : Option Value) (vm₁ : Vm) (B : Pt), s.WarmedH vm₁ ∧ Stand p l e R s m args below meth c B.U B.locs B.cells B.slots ∧ Post ⟨T.setVm vm₁, locs, cells, slots⟩ (Value.ref b :: argsL).toArray v B ∧
      ∀ target, Steps p.tables e below (B.U.setTop { g with pc := g.pc + 3, stack := v.toList ++ rest }) target → Steps p.tables e below (T.setTop g) target) ∨
    (∃ (q : Addr) (vm₁ : Vm) (B : Pt), s.WarmedH vm₁ ∧ Stand p l e R s m args below meth c B.U B.locs B.cells B.slots ∧ PostX ⟨T.setVm vm₁, locs, cells, slots⟩ (Value.ref b :: argsL).toArray q B ∧
      Steps p.tables e below (T.setTop g) ((B.U.setTop { g with stack := rest }).pushFrame (.throwing q))) := by
  obtain ⟨mk, methM, hnamed, hmethM, hstM, habM⟩ := Cond.instanceMethod_spec hinst
  obtain ⟨m8, methM', cM, hn8, hmethM', -, -, -, -, -, -, hsigM⟩ := Cond.codeWith_spec hcode
  cases Option.some.inj (hn8.symm.trans hnamed)
  cases hmethM.symm.trans hmethM'
  obtain ⟨c2, r2, m2, q1, q2, q3, q4, kP, hkP, hkPi⟩ := Cond.selects_spec hsel
  cases hcls.symm.trans q1
  cases (State.methodFound?_of_named hnamed hy).symm.trans q2
  cases hnamed.symm.trans q3
  have hselP : selectMethod e.platform s.vm cellB.cls mk = .method mk := by rw [Launch.admits_selectMethod X.admits]; exact q4
  obtain ⟨vm₁, X₁, hstep₁⟩ := X.invokevirtual hexec hown hlink hnamed hmethM hstM hkP hkPi hy (a := b) (cell := cellB) hcell
    (fun z h => by rw [h] at hobj; cases hobj) hselP hmethM habM hkP hkPi (g := g) hg (argsL := argsL) (rest := rest) (hlen _ hsigM) hstack hdg
  rcases hK m meth c ⟨T.setVm vm₁, locs, cells, slots⟩ { g with stack := rest } (.invokevirtual index) mk (Value.ref b :: argsL).toArray X₁ hg hsize hdg hW (X₁.named hnamed) (hpre vm₁ X₁.warmed) with ⟨v, B, X', hpost, hsteps⟩ | ⟨q, B, X', hpost, hsteps⟩
  · exact Or.inl ⟨v, vm₁, B, X₁.warmed, X', hpost, fun target h => hstep₁ _ fun acts => by rw [doInvoke_state]; exact hsteps.trans h⟩
  · exact Or.inr ⟨q, vm₁, B, X₁.warmed, X', hpost, hstep₁ _ fun acts => by rw [doInvoke_state]; exact hsteps⟩
theorem vx_callSX (X : Stand p l e R s m args below meth c T locs cells slots) (hexec : p.tables.exec = Jvm.exec) {own : String} {index : Nat} {y : MethodName} {bytes : ByteArray} {maxL : Nat} {ret : Option FieldType} {hh : List (Nat × Nat × Nat × Nat)}
    (hown : s.vm.findClass own = some m.cls) (hlink : (Cond.methodLink own index y).before args s = true) (hstat : (Cond.static y).before args s = true) (hinit : (Cond.initialized y.cls).before args s = true)
    (hcode : (Cond.codeWith y bytes maxL ret hh).before args s = true) (hy : y.cls ≠ "java/lang/invoke/MethodHandle" ∧ y.cls ≠ "java/lang/invoke/VarHandle")
    {W9 : Nat} {Pre : Pt → Array Value → Prop} {Post : Pt → Array Value → Option Value → Pt → Prop} {PostX : Pt → Array Value → Addr → Pt → Prop} (hK : vx_Back l R p e below s args y 3 W9 Pre Post PostX)
    {g : JFrame} (hg : g.method = m) (hsize : g.locals.size = c.maxLocals) {argsL rest : List Value} (hlen : ∀ sig, parseMethodDescriptor y.desc = some sig → argsL.length = sig.parameters.length)
    (hstack : g.stack = argsL.reverse ++ rest) (hW : 2 * g.monitorRoom + (rest.map fun v => v.category).sum ≤ W9) (hdg : decode c.code g.pc = .ok (.invokestatic index, 3))
    (hpre : ∀ vm₁, s.WarmedH vm₁ → Pre ⟨T.setVm vm₁, locs, cells, slots⟩ argsL.toArray) :
    (∃ (v : Option Value) (vm₁ : Vm) (B : Pt), s.WarmedH vm₁ ∧ Stand p l e R s m args below meth c B.U B.locs B.cells B.slots ∧ Post ⟨T.setVm vm₁, locs, cells, slots⟩ argsL.toArray v B ∧
      ∀ target, Steps p.tables e below (B.U.setTop { g with pc := g.pc + 3, stack := v.toList ++ rest }) target → Steps p.tables e below (T.setTop g) target) ∨
    (∃ (q : Addr) (vm₁ : Vm) (B : Pt), s.WarmedH vm₁ ∧ Stand p l e R s m args below meth c B.U B.locs B.cells B.slots ∧ PostX ⟨T.setVm vm₁, locs, cells, slots⟩ argsL.toArray q B ∧
      Steps p.tables e below (T.setTop g) ((B.U.setTop { g with stack := rest }).pushFrame (.throwing q))) := by
  obtain ⟨mk, methM, cM, hnamed, hmethM, -, -, -, -, -, -, hsigM⟩ := Cond.codeWith_spec hcode
  have hstatic : methM.isStatic = true := Cond.static_spec hnamed hmethM hstat
  obtain ⟨kP, hkP, -⟩ := className_of_methodNamed hnamed
  have hinitP : kP.init = .initialized := Cond.initialized_spec (findClass_of_methodNamed hnamed) hkP hinit
  obtain ⟨vm₁, X₁, hstep₁⟩ := X.invokestatic hexec hown hlink hnamed hmethM hstatic hkP hinitP hy (g := g) hg (argsL := argsL) (rest := rest) (hlen _ hsigM) hstack hdg
  rcases hK m meth c ⟨T.setVm vm₁, locs, cells, slots⟩ { g with stack := rest } (.invokestatic index) mk argsL.toArray X₁ hg hsize hdg hW (X₁.named hnamed) (hpre vm₁ X₁.warmed) with ⟨v, B, X', hpost, hsteps⟩ | ⟨q, B, X', hpost, hsteps⟩
  · exact Or.inl ⟨v, vm₁, B, X₁.warmed, X', hpost, fun target h => hstep₁ _ fun acts => by rw [doInvoke_state]; exact hsteps.trans h⟩
  · exact Or.inr ⟨q, vm₁, B, X₁.warmed, X', hpost, hstep₁ _ fun acts => by rw [doInvoke_state]; exact hsteps⟩
theorem vx_callVW (X : Stand p l e R s m args below meth c T locs cells slots) (hexec : p.tables.exec = Jvm.exec) {own C : String} {index : Nat} {y : MethodName} {bytes : ByteArray} {maxL : Nat} {ret : Option FieldType} {hh : List (Nat × Nat × Nat × Nat)}
    (hown : s.vm.findClass own = some m.cls) (hlink : (Cond.methodLink own index y).before args s = true) (hinst : (Cond.instanceMethod y).before args s = true) (hsel : (Cond.selects C y y).before args s = true)
    (hcode : (Cond.codeWith y bytes maxL ret hh).before args s = true) (hy : y.cls ≠ "java/lang/invoke/MethodHandle" ∧ y.cls ≠ "java/lang/invoke/VarHandle")
    {W9 : Nat} {Pre : Pt → Array Value → Prop} {Post : Pt → Array Value → Option Value → Pt → Prop} (hK : Back l R p e below s args y 3 W9 Pre Post)
    {b : Addr} {cellB : Cell} (hcell : T.heap[b]? = some cellB) (hobj : cellB.vm.isStatics = false) (hcls : s.vm.findClass C = some cellB.cls)
    {g : JFrame} (hg : g.method = m) (hsize : g.locals.size = c.maxLocals) {argsL rest : List Value} (hlen : ∀ sig, parseMethodDescriptor y.desc = some sig → argsL.length = sig.parameters.length)
    (hstack : g.stack = argsL.reverse ++ .ref b :: rest) (hW : 2 * g.monitorRoom + (rest.map fun v => v.category).sum ≤ W9) (hdg : decode c.code g.pc = .ok (.invokevirtual index, 3))
    (hpre : ∀ vm₁, s.WarmedH vm₁ → Pre ⟨T.setVm vm₁, locs, cells, slots⟩ (Value.ref b :: argsL).toArray) :
    ∃ (v : Option Value) (vm₁ : Vm) (B : Pt), s.WarmedH vm₁ ∧ Stand p l e R s m args below meth c B.U B.locs B.cells B.slots ∧ Post ⟨T.setVm vm₁, locs, cells, slots⟩ (Value.ref b :: argsL).toArray v B ∧
      ∀ target, Steps p.tables e below (B.U.setTop { g with pc := g.pc + 3, stack := v.toList ++ rest }) target → Steps p.tables e below (T.setTop g) target := by
  obtain ⟨mk, methM, hnamed, hmethM, hstM, habM⟩ := Cond.instanceMethod_spec hinst
  obtain ⟨m8, methM', cM, hn8, hmethM', -, -, -, -, -, -, hsigM⟩ := Cond.codeWith_spec hcode
  cases Option.some.inj (hn8.symm.trans hnamed)
  cases hmethM.symm.trans hmethM'
  obtain ⟨c2, r2, m2, q1, q2, q3, q4, kP, hkP, hkPi⟩ := Cond.selects_spec hsel
  cases hcls.symm.trans q1
  cases (State.methodFound?_of_named hnamed hy).symm.trans q2
  cases hnamed.symm.trans q3
  have hselP : selectMethod e.platform s.vm cellB.cls mk = .method mk := by rw [Launch.admits_selectMethod X.admits]; exact q4
  obtain ⟨vm₁, X₁, hstep₁⟩ := X.invokevirtual hexec hown hlink hnamed hmethM hstM hkP hkPi hy (a := b) (cell := cellB) hcell
    (fun z h => by rw [h] at hobj; cases hobj) hselP hmethM habM hkP hkPi (g := g) hg (argsL := argsL) (rest := rest) (hlen _ hsigM) hstack hdg
  obtain ⟨v, B, X', hpost, hsteps⟩ := hK m meth c ⟨T.setVm vm₁, locs, cells, slots⟩ { g with stack := rest } (.invokevirtual index) mk (Value.ref b :: argsL).toArray X₁ hg hsize hdg hW (X₁.named hnamed) (hpre vm₁ X₁.warmed)
  exact ⟨v, vm₁, B, X₁.warmed, X', hpost, fun target h => hstep₁ _ fun acts => by rw [doInvoke_state]; exact hsteps.trans h⟩
abbrev vx_CVW (R : Room) (s : State) (args : Array Value) (own C : String) (index : Nat) (y : MethodName) (bytes : ByteArray) (maxL : Nat) (ret : Option FieldType) (hh : List (Nat × Nat × Nat × Nat)) (ws : List Cond) (rm : Room) (mc ms n : Nat) : Prop :=
  (rm.cells = mc ∧ rm.slots = ms ∧ rm.frames + 1 ≤ R.frames ∧ 8 + (maxL + 11) + rm.locals ≤ R.locals ∧ (∀ w ∈ ws, ∀ (a' : Array Value) (U : State), s.WarmedH U.vm → w.before a' U = true) ∧ Cond.codeWith y bytes maxL ret hh ∈ ws) ∧
  (Cond.codeWith y bytes maxL ret hh).before args s = true ∧ (Cond.initialized y.cls).before args s = true ∧ (y.cls ≠ "java/lang/invoke/MethodHandle" ∧ y.cls ≠ "java/lang/invoke/VarHandle") ∧
  (∀ sig, parseMethodDescriptor y.desc = some sig → n = sig.parameters.length) ∧ (Cond.methodLink own index y).before args s = true ∧ (Cond.instanceMethod y).before args s = true ∧ (Cond.selects C y y).before args s = true
theorem vx_cwVW {own C : String} {index maxL mc ms : Nat} {y : MethodName} {bytes : ByteArray} {ret : Option FieldType} {hh : List (Nat × Nat × Nat × Nat)} {Ts ws ws' : List Cond} {rm : Room} (n : Nat) (ht : ∀ w ∈ Ts, w.before args s = true) (hT : GoodIn Ts (wsV own index C y ws)) (hw : ws = Cond.codeWith y bytes maxL ret hh :: ws') (hrc : rm.cells = mc) (hrs : rm.slots = ms)
    (hd : y.cls = C ∧ y.cls ≠ "java/lang/invoke/MethodHandle" ∧ y.cls ≠ "java/lang/invoke/VarHandle" ∧ (parseMethodDescriptor y.desc).map (fun d => d.parameters.length) = some n) (hR : rm.frames + 1 ≤ R.frames ∧ 8 + (maxL + 11) + rm.locals ≤ R.locals) :
    vx_CVW R s args own C index y bytes maxL ret hh ws rm mc ms n := by
  obtain ⟨hC, hd⟩ := hd
  subst hC
  have ok : ∀ w ∈ wsV own index y.cls y ws, w.before args s = true := fun w h => ht w (hT w h).1
  have hG : GoodIn Ts ws := fun w h => hT w (by unfold wsV; exact List.mem_append_right _ h)
  have hc : Cond.codeWith y bytes maxL ret hh ∈ ws := by rw [hw]; exact List.mem_cons_self
  refine ⟨⟨hrc, hrs, hR.1, hR.2, pay_in ht hG, hc⟩, ht _ (hG _ hc).1, ok _ (by simp [wsV]), ⟨hd.1, hd.2.1⟩, fun sig h => ?_, ok _ (by simp [wsV]), ok _ (by simp [wsV]), ok _ (by simp [wsV])⟩
  have h2 := hd.2.2
  rw [h] at h2
  exact (Option.some.inj h2).symm
theorem vx_runVW {y : MethodName} {bytes cc : ByteArray} {maxL nL mc ms n index : Nat} {ret : Option FieldType} {hh : List (Nat × Nat × Nat × Nat)} {ws : List Cond} {rm : Room} {Pc : Array Value → State → Prop} {Qc : Array Value → State → Outcome → State → Prop} {free : Addr → Prop} {Ts : List Cond} {own C : String} {b : Addr} {As rest : List Value} {g : JFrame}
    (S : CallFix p m c cc nL s args Ts own) (hM : Met l y ws rm Pc Qc mc ms free) (cw : vx_CVW R s args own C index y bytes maxL ret hh ws rm mc ms n) (hp : PreV s H C b Pc As)
    (hg : g.method = m) (hn : As.length = n) (hsize : g.locals.size = nL) (hstack : g.stack = As.reverse ++ .ref b :: rest) (hW : 2 * g.monitorRoom + (rest.map fun v => v.category).sum ≤ 8) (hdg : decode cc g.pc = .ok (.invokevirtual index, 3)) (hf : cells + mc ≤ R.cells ∧ slots + ms ≤ R.slots) :
    va_Run p l e R s m args below meth c H locs cells slots mc ms g rest (Qc (Value.ref b :: As).toArray) free := by
  obtain ⟨⟨hrc, hrs, hfr, hlo, hws, hcw⟩, hcode, hini, hy, hlen, hl, hin, hse⟩ := cw
  have hK : Back l R p e below s args y 3 8 (PreOf R mc ms Pc) (PostOf Qc mc ms free) := va_backW (hh := hh) (bytes := bytes) (maxL := maxL) (ret := ret) hM hp.1 hrc hrs hfr hlo hws hcw (fun a' U hW => word_at hW (Or.inl (by first | rfl | simp [Cond.onTables, Cond.keeps, Cond.steady])) hini)
  obtain ⟨hx, hb, hml, ho, -⟩ := S
  obtain ⟨-, ⟨cellB, hcB, hoB, hclB⟩, hPc⟩ := hp
  intro T hT X
  obtain ⟨v, vm₁, ⟨U', l2, c2, s2⟩, hW₁, X', ⟨g', mk, t, L, e1, e2, hq, h1, hL, h2, h3⟩, st⟩ := vx_callVW X hx (C := C) (hh := hh) (bytes := bytes) (maxL := maxL) (ret := ret) ho hl hin hse hcode hy hK (by rw [hT]; exact hcB) hoB hclB hg (hsize.trans hml.symm) (argsL := As) (rest := rest) (fun sig h => hn.trans (hlen sig h)) hstack hW (by rw [hb]; exact hdg)
    (fun vm₁ hW₁ => ⟨hf.1, hf.2, hPc (T.setVm vm₁) hT hW₁⟩)
  dsimp only [Pt.U, Pt.locs, Pt.cells, Pt.slots] at X' e1 e2 h1 h2 h3 st
  subst h1; subst h2; subst h3
  exact ⟨v, (T.setVm vm₁).calling g' mk (Value.ref b :: As).toArray, t, U', L, hT, X', hL, e1, e2, hq, st⟩
section
variable {y : MethodName} {bytes cc : ByteArray} {maxL nL mc ms n index : Nat} {ret : Option FieldType} {ws : List Cond} {rm : Room} {Pc : Array Value → State → Prop} {Qc : Array Value → State → Outcome → State → Prop} {XC : String → State → State → Prop} {free : Addr → Prop} {Ts : List Cond} {own C : String} {b : Addr} {As rest : List Value} {g : JFrame}
theorem vx_runVX {hh : List (Nat × Nat × Nat × Nat)} (S : CallFix p m c cc nL s args Ts own) (hM : vx_Met l y ws rm Pc Qc XC mc ms free) (cw : vx_CVW R s args own C index y bytes maxL ret hh ws rm mc ms n) (hp : PreV s H C b Pc As)
    (hg : g.method = m) (hn : As.length = n) (hsize : g.locals.size = nL) (hstack : g.stack = As.reverse ++ .ref b :: rest) (hW : 2 * g.monitorRoom + (rest.map fun v => v.category).sum ≤ 8) (hdg : decode cc g.pc = .ok (.invokevirtual index, 3)) (hf : cells + mc ≤ R.cells ∧ slots + ms ≤ R.slots) :
    vx_Run p l e R s m args below meth c H locs cells slots mc ms g rest (Qc (Value.ref b :: As).toArray) XC free := by
  obtain ⟨⟨hrc, hrs, hfr, hlo, hws, hcw⟩, hcode, hini, hy, hlen, hl, hin, hse⟩ := cw
  have hK : vx_Back l R p e below s args y 3 8 (PreOf R mc ms Pc) (PostOf Qc mc ms free) (vx_Post XC mc ms free) := vx_backW (hh := hh) (bytes := bytes) (maxL := maxL) (ret := ret) hM hp.1 hrc hrs hfr hlo hws hcw (fun a' U hW => word_at hW (Or.inl (by first | rfl | simp [Cond.onTables, Cond.keeps, Cond.steady])) hini)
  obtain ⟨hx, hb, hml, ho, -⟩ := S
  obtain ⟨-, ⟨cellB, hcB, hoB, hclB⟩, hPc⟩ := hp
  intro T hT X
  rcases vx_callVX X hx (C := C) (hh := hh) (bytes := bytes) (maxL := maxL) (ret := ret) ho hl hin hse hcode hy hK (by rw [hT]; exact hcB) hoB hclB hg (hsize.trans hml.symm) (argsL := As) (rest := rest) (fun sig h => hn.trans (hlen sig h)) hstack hW (by rw [hb]; exact hdg)
    (fun vm₁ hW₁ => ⟨hf.1, hf.2, hPc (T.setVm vm₁) hT hW₁⟩) with ⟨v, vm₁, ⟨U', l2, c2, s2⟩, hW₁, X', ⟨g', mk, t, L, e1, e2, hq, h1, hL, h2, h3⟩, st⟩ | ⟨q, vm₁, ⟨U', l2, c2, s2⟩, hW₁, X', ⟨g', mk, t, L, E, ce, e1, e2, hq, hce, hcv, hcl, h1, hL, h2, h3⟩, st⟩
  · dsimp only [Pt.U, Pt.locs, Pt.cells, Pt.slots] at X' e1 e2 h1 h2 h3 st
    subst h1; subst h2; subst h3
    exact Or.inl ⟨v, (T.setVm vm₁).calling g' mk (Value.ref b :: As).toArray, t, U', L, hT, X', hL, e1, e2, hq, st⟩
  · dsimp only [Pt.U, Pt.locs, Pt.cells, Pt.slots] at X' e1 e2 h1 h2 h3 st hcl
    subst h1; subst h2; subst h3
    exact Or.inr ⟨q, (T.setVm vm₁).calling g' mk (Value.ref b :: As).toArray, t, U', L, E, ce, hT, X', hL, e1, e2, hq, hce, hcv, vx_cls hW₁ hcl, st⟩
theorem vx_runSX {hh : List (Nat × Nat × Nat × Nat)} (S : CallFix p m c cc nL s args Ts own) (hM : vx_Met l y ws rm Pc Qc XC mc ms free) (cw : vx_CSW R s args own index y bytes maxL ret hh ws rm mc ms n) (hp : PreS s H Pc As)
    (hg : g.method = m) (hn : As.length = n) (hsize : g.locals.size = nL) (hstack : g.stack = As.reverse ++ rest) (hW : 2 * g.monitorRoom + (rest.map fun v => v.category).sum ≤ 8) (hdg : decode cc g.pc = .ok (.invokestatic index, 3)) (hf : cells + mc ≤ R.cells ∧ slots + ms ≤ R.slots) :
    vx_Run p l e R s m args below meth c H locs cells slots mc ms g rest (Qc As.toArray) XC free := by
  obtain ⟨⟨hrc, hrs, hfr, hlo, hws, hcw⟩, hcode, hini, hy, hlen, hl, hstt⟩ := cw
  have hK : vx_Back l R p e below s args y 3 8 (PreOf R mc ms Pc) (PostOf Qc mc ms free) (vx_Post XC mc ms free) := vx_backW (hh := hh) (bytes := bytes) (maxL := maxL) (ret := ret) hM hp.1 hrc hrs hfr hlo hws hcw (fun a' U hW => word_at hW (Or.inl (by first | rfl | simp [Cond.onTables, Cond.keeps, Cond.steady])) hini)
  obtain ⟨hx, hb, hml, ho, -⟩ := S
  intro T hT X
  rcases vx_callSX X hx (hh := hh) (bytes := bytes) (maxL := maxL) (ret := ret) ho hl hstt hini hcode hy hK hg (hsize.trans hml.symm) (argsL := As) (rest := rest) (fun sig h => hn.trans (hlen sig h)) hstack hW (by rw [hb]; exact hdg)
    (fun vm₁ hW₁ => ⟨hf.1, hf.2, hp.2 (T.setVm vm₁) hT hW₁⟩) with ⟨v, vm₁, ⟨U', l2, c2, s2⟩, hW₁, X', ⟨g', mk, t, L, e1, e2, hq, h1, hL, h2, h3⟩, st⟩ | ⟨q, vm₁, ⟨U', l2, c2, s2⟩, hW₁, X', ⟨g', mk, t, L, E, ce, e1, e2, hq, hce, hcv, hcl, h1, hL, h2, h3⟩, st⟩
  · dsimp only [Pt.U, Pt.locs, Pt.cells, Pt.slots] at X' e1 e2 h1 h2 h3 st
    subst h1; subst h2; subst h3
    exact Or.inl ⟨v, (T.setVm vm₁).calling g' mk As.toArray, t, U', L, hT, X', hL, e1, e2, hq, st⟩
  · dsimp only [Pt.U, Pt.locs, Pt.cells, Pt.slots] at X' e1 e2 h1 h2 h3 st hcl
    subst h1; subst h2; subst h3
    exact Or.inr ⟨q, (T.setVm vm₁).calling g' mk As.toArray, t, U', L, E, ce, hT, X', hL, e1, e2, hq, hce, hcv, vx_cls hW₁ hcl, st⟩
end
end VXH
theorem vx_ofWH {l : Launch} {y : MethodName} {ws ws' : List Cond} {rm : Room} {Pc : Array Value → State → Prop} {Qc : Array Value → State → Outcome → State → Prop} {XC : String → State → State → Prop} {mc ms : Nat} {free : Addr → Prop} {cc : ByteArray} {maxL : Nat} {ret : Option FieldType} {hh : List (Nat × Nat × Nat × Nat)}
    (hy : plainName y.cls = true) (hw : ws = Cond.codeWith y cc maxL ret hh :: ws')
    (body : ∀ p e s m args below meth c s₁, BodyLoose p l y (headSpec ws rm) cc maxL ret e s m args below meth c s₁ → c.maxLocals = maxL → Pc args s →
      W p l e (headSpec ws rm).room s m args below meth c s.heap [] 0 0 (vx_MQ below Qc XC args s mc ms free) (entryFrame m args maxL)) : vx_Met l y ws rm Pc Qc XC mc ms free := by
  refine MetFree.of_bodyS (code := cc) (maxLocals := maxL) (ret := ret) hy ?_ ?_
  · intro args s m h hn
    obtain ⟨m9, meth, c, hn9, h1, h2, h3, h4, -, h5, h6, -⟩ := Cond.codeWith_spec (atoms_spec (ws := ws) h _ (by rw [hw]; exact List.mem_cons_self))
    cases hn.symm.trans hn9
    exact ⟨meth, c, h1, h2, h3, h4, h5, h6⟩
  · intro p e s m args below meth c s₁ B hml hP _
    have hh0 : s₁.heap = s.heap := by rw [B.state]; rfl
    obtain ⟨t, a1, o, b1, b2, b3⟩ := body p e s m args below meth c s₁ B hml hP s₁ hh0 (Stand.of_body B)
    exact ⟨t, o, a1, b1, b2, b3⟩
/-! ===== END ===== -/
end
section
/-! ===== BEGIN printed: names, fields, word lists, decode rows ===== -/
def RX0 : String := "SavingsHall$Client"
def TX0 : u_T := fun k => match k with
  | 0 => ("SavingsHall$Client", "number", "I", true)
  | 1 => ("SavingsHall$Client", "holdings", "Ljava/util/ArrayList;", true)
  | 2 => ("SavingsHall$Client", "gains", "[J", true)
  | 3 => ("SavingsHall$Client", "taxesPaid", "[J", true)
  | _ => ("SavingsHall$Client", "cash", "J", false)
def tyX0 : Nat → FieldType := fun k => match k with
  | 0 => .int
  | 1 => .object "java/util/ArrayList"
  | 2 => .array .long
  | 3 => .array .long
  | _ => .long
abbrev wsX00 : List Cond := u_ws RX0 TX0 5
theorem nmX0 : ∀ a, a < 5 → ∀ b, b < 5 → a ≠ b → (TX0 a).2.1 ≠ (TX0 b).2.1 := by decide +kernel
theorem tyX0_ok : ∀ k, k < 5 → parseFieldDescriptor (TX0 k).2.2.1 = some (tyX0 k) := by decide +kernel
abbrev cX0_init : ByteArray := prog_2_method_1_code
def yX0_init : MethodName := ⟨RX0, "<init>", "(I)V"⟩
def RX1 : String := "SavingsHall$Fund"
def TX1 : u_T := fun k => match k with
  | 0 => ("SavingsHall$Fund", "number", "I", true)
  | 1 => ("SavingsHall$Fund", "price", "I", false)
  | 2 => ("SavingsHall$Fund", "units", "J", false)
  | _ => ("SavingsHall$Fund", "stock", "J", false)
def tyX1 : Nat → FieldType := fun k => match k with
  | 0 => .int
  | 1 => .int
  | 2 => .long
  | _ => .long
abbrev wsX10 : List Cond := u_ws RX1 TX1 4
theorem nmX1 : ∀ a, a < 4 → ∀ b, b < 4 → a ≠ b → (TX1 a).2.1 ≠ (TX1 b).2.1 := by decide +kernel
theorem tyX1_ok : ∀ k, k < 4 → parseFieldDescriptor (TX1 k).2.2.1 = some (tyX1 k) := by decide +kernel
abbrev cX1_init : ByteArray := prog_3_method_1_code
def yX1_init : MethodName := ⟨RX1, "<init>", "(I)V"⟩
def RX2 : String := "SavingsHall$Holding"
def TX2 : u_T := fun k => match k with
  | 0 => ("SavingsHall$Holding", "client", "LSavingsHall$Client;", true)
  | 1 => ("SavingsHall$Holding", "fund", "LSavingsHall$Fund;", true)
  | 2 => ("SavingsHall$Holding", "parts", "J", false)
  | _ => ("SavingsHall$Holding", "hundredths", "I", false)
def tyX2 : Nat → FieldType := fun k => match k with
  | 0 => .object "SavingsHall$Client"
  | 1 => .object "SavingsHall$Fund"
  | 2 => .long
  | _ => .int
abbrev wsX20 : List Cond := u_ws RX2 TX2 4
theorem nmX2 : ∀ a, a < 4 → ∀ b, b < 4 → a ≠ b → (TX2 a).2.1 ≠ (TX2 b).2.1 := by decide +kernel
theorem tyX2_ok : ∀ k, k < 4 → parseFieldDescriptor (TX2 k).2.2.1 = some (tyX2 k) := by decide +kernel
abbrev cX2_init : ByteArray := prog_4_method_1_code
def yX2_init : MethodName := ⟨RX2, "<init>", "(LSavingsHall$Client;LSavingsHall$Fund;)V"⟩
def RX3 : String := "SavingsHall$Trade"
def TX3 : u_T := fun k => match k with
  | 0 => ("SavingsHall$Trade", "number", "I", true)
  | 1 => ("SavingsHall$Trade", "holding", "LSavingsHall$Holding;", true)
  | 2 => ("SavingsHall$Trade", "day", "I", true)
  | 3 => ("SavingsHall$Trade", "parts", "J", true)
  | 4 => ("SavingsHall$Trade", "amount", "J", true)
  | 5 => ("SavingsHall$Trade", "costs", "J", true)
  | 6 => ("SavingsHall$Trade", "stands", "Z", false)
  | 7 => ("SavingsHall$Trade", "partsLeft", "J", false)
  | _ => ("SavingsHall$Trade", "costLeft", "J", false)
def tyX3 : Nat → FieldType := fun k => match k with
  | 0 => .int
  | 1 => .object "SavingsHall$Holding"
  | 2 => .int
  | 3 => .long
  | 4 => .long
  | 5 => .long
  | 6 => .boolean
  | 7 => .long
  | _ => .long
abbrev wsX30 : List Cond := u_ws RX3 TX3 9
theorem nmX3 : ∀ a, a < 9 → ∀ b, b < 9 → a ≠ b → (TX3 a).2.1 ≠ (TX3 b).2.1 := by decide +kernel
theorem tyX3_ok : ∀ k, k < 9 → parseFieldDescriptor (TX3 k).2.2.1 = some (tyX3 k) := by decide +kernel
abbrev cX3_init : ByteArray := prog_5_method_1_code
def yX3_init : MethodName := ⟨RX3, "<init>", "(ILSavingsHall$Holding;IJJJ)V"⟩
abbrev cX3_isSale : ByteArray := prog_5_method_2_code
def yX3_isSale : MethodName := ⟨RX3, "isSale", "()Z"⟩
abbrev cX3_paid : ByteArray := prog_5_method_3_code
def yX3_paid : MethodName := ⟨RX3, "paid", "()J"⟩
def RX4 : String := "SavingsHall"
def TX4 : u_T := fun k => match k with
  | 0 => ("SavingsHall", "funds", "Ljava/util/ArrayList;", true)
  | 1 => ("SavingsHall", "clients", "Ljava/util/ArrayList;", true)
  | 2 => ("SavingsHall", "trades", "Ljava/util/ArrayList;", true)
  | 3 => ("SavingsHall", "houseMoney", "J", false)
  | _ => ("SavingsHall", "today", "I", false)
def tyX4 : Nat → FieldType := fun k => match k with
  | 0 => .object "java/util/ArrayList"
  | 1 => .object "java/util/ArrayList"
  | 2 => .object "java/util/ArrayList"
  | 3 => .long
  | _ => .int
abbrev wsX40 : List Cond := u_ws RX4 TX4 5
theorem nmX4 : ∀ a, a < 5 → ∀ b, b < 5 → a ≠ b → (TX4 a).2.1 ≠ (TX4 b).2.1 := by decide +kernel
theorem tyX4_ok : ∀ k, k < 5 → parseFieldDescriptor (TX4 k).2.2.1 = some (tyX4 k) := by decide +kernel
abbrev cX4_init : ByteArray := prog_1_method_1_code
def yX4_init : MethodName := ⟨RX4, "<init>", "()V"⟩
abbrev cX4_price : ByteArray := prog_1_method_2_code
def yX4_price : MethodName := ⟨RX4, "price", "(II)I"⟩
abbrev cX4_client : ByteArray := prog_1_method_3_code
def yX4_client : MethodName := ⟨RX4, "client", "()I"⟩
abbrev cX4_pay : ByteArray := prog_1_method_4_code
def yX4_pay : MethodName := ⟨RX4, "pay", "(II)J"⟩
abbrev cX4_goal : ByteArray := prog_1_method_5_code
def yX4_goal : MethodName := ⟨RX4, "goal", "(III)I"⟩
abbrev cX4_buy : ByteArray := prog_1_method_6_code
def yX4_buy : MethodName := ⟨RX4, "buy", "(III)I"⟩
abbrev cX4_sell : ByteArray := prog_1_method_7_code
def yX4_sell : MethodName := ⟨RX4, "sell", "(III)I"⟩
abbrev cX4_balance : ByteArray := prog_1_method_8_code
def yX4_balance : MethodName := ⟨RX4, "balance", "(I)I"⟩
abbrev cX4_complain : ByteArray := prog_1_method_9_code
def yX4_complain : MethodName := ⟨RX4, "complain", "(I)J"⟩
abbrev cX4_pass : ByteArray := prog_1_method_10_code
def yX4_pass : MethodName := ⟨RX4, "pass", "(I)I"⟩
abbrev cX4_cash : ByteArray := prog_1_method_11_code
def yX4_cash : MethodName := ⟨RX4, "cash", "(I)J"⟩
abbrev cX4_parts : ByteArray := prog_1_method_12_code
def yX4_parts : MethodName := ⟨RX4, "parts", "(II)J"⟩
abbrev cX4_units : ByteArray := prog_1_method_13_code
def yX4_units : MethodName := ⟨RX4, "units", "(I)J"⟩
abbrev cX4_tradeOf : ByteArray := prog_1_method_14_code
def yX4_tradeOf : MethodName := ⟨RX4, "tradeOf", "(II)J"⟩
abbrev cX4_lot : ByteArray := prog_1_method_15_code
def yX4_lot : MethodName := ⟨RX4, "lot", "(IIII)J"⟩
abbrev cX4_year : ByteArray := prog_1_method_16_code
def yX4_year : MethodName := ⟨RX4, "year", "(III)J"⟩
abbrev cX4_wealth : ByteArray := prog_1_method_17_code
def yX4_wealth : MethodName := ⟨RX4, "wealth", "(I)J"⟩
abbrev cX4_checkExists : ByteArray := prog_1_method_18_code
def yX4_checkExists : MethodName := ⟨RX4, "checkExists", "(Z)V"⟩
abbrev cX4_checkRange : ByteArray := prog_1_method_19_code
def yX4_checkRange : MethodName := ⟨RX4, "checkRange", "(III)V"⟩
abbrev cX4_checkPossible : ByteArray := prog_1_method_20_code
def yX4_checkPossible : MethodName := ⟨RX4, "checkPossible", "(Z)V"⟩
abbrev cX4_fundAt : ByteArray := prog_1_method_21_code
def yX4_fundAt : MethodName := ⟨RX4, "fundAt", "(I)LSavingsHall$Fund;"⟩
abbrev cX4_clientAt : ByteArray := prog_1_method_22_code
def yX4_clientAt : MethodName := ⟨RX4, "clientAt", "(I)LSavingsHall$Client;"⟩
abbrev cX4_holdingAt : ByteArray := prog_1_method_23_code
def yX4_holdingAt : MethodName := ⟨RX4, "holdingAt", "(II)LSavingsHall$Holding;"⟩
abbrev cX4_tradeAt : ByteArray := prog_1_method_24_code
def yX4_tradeAt : MethodName := ⟨RX4, "tradeAt", "(I)LSavingsHall$Trade;"⟩
abbrev cX4_hundredthsTogether : ByteArray := prog_1_method_25_code
def yX4_hundredthsTogether : MethodName := ⟨RX4, "hundredthsTogether", "(LSavingsHall$Client;)I"⟩
abbrev cX4_cutQuotient : ByteArray := prog_1_method_26_code
def yX4_cutQuotient : MethodName := ⟨RX4, "cutQuotient", "(JJ)J"⟩
abbrev cX4_partsFor : ByteArray := prog_1_method_27_code
def yX4_partsFor : MethodName := ⟨RX4, "partsFor", "(JLSavingsHall$Fund;)J"⟩
abbrev cX4_amountFor : ByteArray := prog_1_method_28_code
def yX4_amountFor : MethodName := ⟨RX4, "amountFor", "(JLSavingsHall$Fund;)J"⟩
abbrev cX4_costsOf : ByteArray := prog_1_method_29_code
def yX4_costsOf : MethodName := ⟨RX4, "costsOf", "(J)J"⟩
abbrev cX4_worthOf : ByteArray := prog_1_method_30_code
def yX4_worthOf : MethodName := ⟨RX4, "worthOf", "(LSavingsHall$Holding;)J"⟩
abbrev cX4_wealthOf : ByteArray := prog_1_method_31_code
def yX4_wealthOf : MethodName := ⟨RX4, "wealthOf", "(LSavingsHall$Client;)J"⟩
abbrev cX4_targetOf : ByteArray := prog_1_method_32_code
def yX4_targetOf : MethodName := ⟨RX4, "targetOf", "(LSavingsHall$Holding;J)J"⟩
abbrev cX4_sellTooMuch : ByteArray := prog_1_method_33_code
def yX4_sellTooMuch : MethodName := ⟨RX4, "sellTooMuch", "(LSavingsHall$Holding;J)V"⟩
abbrev cX4_buyWhatLacks : ByteArray := prog_1_method_34_code
def yX4_buyWhatLacks : MethodName := ⟨RX4, "buyWhatLacks", "(LSavingsHall$Holding;J)V"⟩
abbrev cX4_makeTrade : ByteArray := prog_1_method_35_code
def yX4_makeTrade : MethodName := ⟨RX4, "makeTrade", "(LSavingsHall$Holding;JJ)I"⟩
abbrev cX4_exchange : ByteArray := prog_1_method_36_code
def yX4_exchange : MethodName := ⟨RX4, "exchange", "(LSavingsHall$Holding;JJ)V"⟩
abbrev cX4_tradeUnits : ByteArray := prog_1_method_37_code
def yX4_tradeUnits : MethodName := ⟨RX4, "tradeUnits", "(LSavingsHall$Fund;J)V"⟩
abbrev cX4_enterIntoLots : ByteArray := prog_1_method_38_code
def yX4_enterIntoLots : MethodName := ⟨RX4, "enterIntoLots", "(LSavingsHall$Trade;)V"⟩
abbrev cX4_takeCostFromLots : ByteArray := prog_1_method_39_code
def yX4_takeCostFromLots : MethodName := ⟨RX4, "takeCostFromLots", "(LSavingsHall$Trade;)J"⟩
abbrev cX4_addGain : ByteArray := prog_1_method_40_code
def yX4_addGain : MethodName := ⟨RX4, "addGain", "(LSavingsHall$Client;IJ)V"⟩
abbrev cX4_salesKeepTheirParts : ByteArray := prog_1_method_41_code
def yX4_salesKeepTheirParts : MethodName := ⟨RX4, "salesKeepTheirParts", "(LSavingsHall$Trade;)Z"⟩
abbrev cX4_findLotsAnew : ByteArray := prog_1_method_42_code
def yX4_findLotsAnew : MethodName := ⟨RX4, "findLotsAnew", "(LSavingsHall$Client;)V"⟩
abbrev cX4_yearOf : ByteArray := prog_1_method_43_code
def yX4_yearOf : MethodName := ⟨RX4, "yearOf", "(I)I"⟩
abbrev cX4_baseOf : ByteArray := prog_1_method_44_code
def yX4_baseOf : MethodName := ⟨RX4, "baseOf", "(LSavingsHall$Client;I)J"⟩
abbrev cX4_settleTaxes : ByteArray := prog_1_method_45_code
def yX4_settleTaxes : MethodName := ⟨RX4, "settleTaxes", "(LSavingsHall$Client;)J"⟩
abbrev cX4_endDay : ByteArray := prog_1_method_46_code
def yX4_endDay : MethodName := ⟨RX4, "endDay", "()V"⟩
def RX5 : String := "SavingsHallModel"
def TX5 : u_T := fun k => match k with
  | _ => ("", "", "", false)
def tyX5 : Nat → FieldType := fun k => match k with
  | _ => .int
abbrev wsX50 : List Cond := u_ws RX5 TX5 0
theorem nmX5 : ∀ a, a < 0 → ∀ b, b < 0 → a ≠ b → (TX5 a).2.1 ≠ (TX5 b).2.1 := by decide +kernel
theorem tyX5_ok : ∀ k, k < 0 → parseFieldDescriptor (TX5 k).2.2.1 = some (tyX5 k) := by decide +kernel
def RJx145de : String := "java/io/Serializable"
def TJx145de : u_T := fun k => match k with
  | _ => ("", "", "", false)
def tyJx145de : Nat → FieldType := fun k => match k with
  | _ => .int
abbrev wsJx145de0 : List Cond := u_ws RJx145de TJx145de 0
theorem nmJx145de : ∀ a, a < 0 → ∀ b, b < 0 → a ≠ b → (TJx145de a).2.1 ≠ (TJx145de b).2.1 := by decide +kernel
theorem tyJx145de_ok : ∀ k, k < 0 → parseFieldDescriptor (TJx145de k).2.2.1 = some (tyJx145de k) := by decide +kernel
def RJx8e188 : String := "java/lang/Cloneable"
def TJx8e188 : u_T := fun k => match k with
  | _ => ("", "", "", false)
def tyJx8e188 : Nat → FieldType := fun k => match k with
  | _ => .int
abbrev wsJx8e1880 : List Cond := u_ws RJx8e188 TJx8e188 0
theorem nmJx8e188 : ∀ a, a < 0 → ∀ b, b < 0 → a ≠ b → (TJx8e188 a).2.1 ≠ (TJx8e188 b).2.1 := by decide +kernel
theorem tyJx8e188_ok : ∀ k, k < 0 → parseFieldDescriptor (TJx8e188 k).2.2.1 = some (tyJx8e188 k) := by decide +kernel
def RJxab1ab : String := "java/lang/Iterable"
def TJxab1ab : u_T := fun k => match k with
  | _ => ("", "", "", false)
def tyJxab1ab : Nat → FieldType := fun k => match k with
  | _ => .int
abbrev wsJxab1ab0 : List Cond := u_ws RJxab1ab TJxab1ab 0
theorem nmJxab1ab : ∀ a, a < 0 → ∀ b, b < 0 → a ≠ b → (TJxab1ab a).2.1 ≠ (TJxab1ab b).2.1 := by decide +kernel
theorem tyJxab1ab_ok : ∀ k, k < 0 → parseFieldDescriptor (TJxab1ab k).2.2.1 = some (tyJxab1ab k) := by decide +kernel
def RJ9 : String := "java/lang/Math"
def TJ9 : u_T := fun k => match k with
  | _ => ("", "", "", false)
def tyJ9 : Nat → FieldType := fun k => match k with
  | _ => .int
abbrev wsJ90 : List Cond := u_ws RJ9 TJ9 0
theorem nmJ9 : ∀ a, a < 0 → ∀ b, b < 0 → a ≠ b → (TJ9 a).2.1 ≠ (TJ9 b).2.1 := by decide +kernel
theorem tyJ9_ok : ∀ k, k < 0 → parseFieldDescriptor (TJ9 k).2.2.1 = some (tyJ9 k) := by decide +kernel
abbrev cJ9_max_7cf53 : ByteArray := prog_15_method_65_code
def yJ9_max_7cf53 : MethodName := ⟨RJ9, "max", "(II)I"⟩
abbrev cJ9_max_f86c9 : ByteArray := prog_15_method_66_code
def yJ9_max_f86c9 : MethodName := ⟨RJ9, "max", "(JJ)J"⟩
abbrev cJ9_min_7cf53 : ByteArray := prog_15_method_69_code
def yJ9_min_7cf53 : MethodName := ⟨RJ9, "min", "(II)I"⟩
abbrev cJ9_min_f86c9 : ByteArray := prog_15_method_70_code
def yJ9_min_f86c9 : MethodName := ⟨RJ9, "min", "(JJ)J"⟩
def RJ0 : String := "java/lang/String"
def TJ0 : u_T := fun k => match k with
  | _ => ("", "", "", false)
def tyJ0 : Nat → FieldType := fun k => match k with
  | _ => .int
abbrev wsJ00 : List Cond := u_ws RJ0 TJ0 0
theorem nmJ0 : ∀ a, a < 0 → ∀ b, b < 0 → a ≠ b → (TJ0 a).2.1 ≠ (TJ0 b).2.1 := by decide +kernel
theorem tyJ0_ok : ∀ k, k < 0 → parseFieldDescriptor (TJ0 k).2.2.1 = some (tyJ0 k) := by decide +kernel
def RJ10 : String := "java/lang/System"
def TJ10 : u_T := fun k => match k with
  | _ => ("", "", "", false)
def tyJ10 : Nat → FieldType := fun k => match k with
  | _ => .int
abbrev wsJ100 : List Cond := u_ws RJ10 TJ10 0
theorem nmJ10 : ∀ a, a < 0 → ∀ b, b < 0 → a ≠ b → (TJ10 a).2.1 ≠ (TJ10 b).2.1 := by decide +kernel
theorem tyJ10_ok : ∀ k, k < 0 → parseFieldDescriptor (TJ10 k).2.2.1 = some (tyJ10 k) := by decide +kernel
def RJxa1e45 : String := "java/util/AbstractCollection"
def TJxa1e45 : u_T := fun k => match k with
  | _ => ("", "", "", false)
def tyJxa1e45 : Nat → FieldType := fun k => match k with
  | _ => .int
abbrev wsJxa1e450 : List Cond := u_ws RJxa1e45 TJxa1e45 0
theorem nmJxa1e45 : ∀ a, a < 0 → ∀ b, b < 0 → a ≠ b → (TJxa1e45 a).2.1 ≠ (TJxa1e45 b).2.1 := by decide +kernel
theorem tyJxa1e45_ok : ∀ k, k < 0 → parseFieldDescriptor (TJxa1e45 k).2.2.1 = some (tyJxa1e45 k) := by decide +kernel
abbrev cJxa1e45_init_da8c8 : ByteArray := prog_20_method_1_code
def yJxa1e45_init_da8c8 : MethodName := ⟨RJxa1e45, "<init>", "()V"⟩
def RJxc12de : String := "java/util/AbstractList"
def TJxc12de : u_T := fun k => match k with
  | _ => ("", "", "", false)
def tyJxc12de : Nat → FieldType := fun k => match k with
  | _ => .int
abbrev wsJxc12de0 : List Cond := u_ws RJxc12de TJxc12de 0
theorem nmJxc12de : ∀ a, a < 0 → ∀ b, b < 0 → a ≠ b → (TJxc12de a).2.1 ≠ (TJxc12de b).2.1 := by decide +kernel
theorem tyJxc12de_ok : ∀ k, k < 0 → parseFieldDescriptor (TJxc12de k).2.2.1 = some (tyJxc12de k) := by decide +kernel
abbrev cJxc12de_init_da8c8 : ByteArray := prog_21_method_1_code
def yJxc12de_init_da8c8 : MethodName := ⟨RJxc12de, "<init>", "()V"⟩
def RJx4a65c : String := "java/util/ArrayList"
def TJx4a65c : u_T := fun k => match k with
  | 0 => ("java/util/AbstractList", "modCount", "I", false)
  | 1 => ("java/util/ArrayList", "elementData", "[Ljava/lang/Object;", false)
  | _ => ("java/util/ArrayList", "size", "I", false)
def tyJx4a65c : Nat → FieldType := fun k => match k with
  | 0 => .int
  | 1 => .array (.object "java/lang/Object")
  | _ => .int
abbrev wsJx4a65c0 : List Cond := u_ws RJx4a65c TJx4a65c 3
theorem nmJx4a65c : ∀ a, a < 3 → ∀ b, b < 3 → a ≠ b → (TJx4a65c a).2.1 ≠ (TJx4a65c b).2.1 := by decide +kernel
theorem tyJx4a65c_ok : ∀ k, k < 3 → parseFieldDescriptor (TJx4a65c k).2.2.1 = some (tyJx4a65c k) := by decide +kernel
abbrev cJx4a65c_init_da8c8 : ByteArray := prog_22_method_2_code
def yJx4a65c_init_da8c8 : MethodName := ⟨RJx4a65c, "<init>", "()V"⟩
abbrev cJx4a65c_grow_92f84 : ByteArray := prog_22_method_6_code
def yJx4a65c_grow_92f84 : MethodName := ⟨RJx4a65c, "grow", "(I)[Ljava/lang/Object;"⟩
abbrev cJx4a65c_grow_d5877 : ByteArray := prog_22_method_7_code
def yJx4a65c_grow_d5877 : MethodName := ⟨RJx4a65c, "grow", "()[Ljava/lang/Object;"⟩
abbrev cJx4a65c_size_8abf5 : ByteArray := prog_22_method_8_code
def yJx4a65c_size_8abf5 : MethodName := ⟨RJx4a65c, "size", "()I"⟩
abbrev cJx4a65c_elementData_915e3 : ByteArray := prog_22_method_18_code
def yJx4a65c_elementData_915e3 : MethodName := ⟨RJx4a65c, "elementData", "(I)Ljava/lang/Object;"⟩
abbrev cJx4a65c_get_915e3 : ByteArray := prog_22_method_20_code
def yJx4a65c_get_915e3 : MethodName := ⟨RJx4a65c, "get", "(I)Ljava/lang/Object;"⟩
abbrev cJx4a65c_add_72be8 : ByteArray := prog_22_method_24_code
def yJx4a65c_add_72be8 : MethodName := ⟨RJx4a65c, "add", "(Ljava/lang/Object;[Ljava/lang/Object;I)V"⟩
abbrev cJx4a65c_add_9ea2d : ByteArray := prog_22_method_25_code
def yJx4a65c_add_9ea2d : MethodName := ⟨RJx4a65c, "add", "(Ljava/lang/Object;)Z"⟩
def RJ7 : String := "java/util/Arrays"
def TJ7 : u_T := fun k => match k with
  | _ => ("", "", "", false)
def tyJ7 : Nat → FieldType := fun k => match k with
  | _ => .int
abbrev wsJ70 : List Cond := u_ws RJ7 TJ7 0
theorem nmJ7 : ∀ a, a < 0 → ∀ b, b < 0 → a ≠ b → (TJ7 a).2.1 ≠ (TJ7 b).2.1 := by decide +kernel
theorem tyJ7_ok : ∀ k, k < 0 → parseFieldDescriptor (TJ7 k).2.2.1 = some (tyJ7 k) := by decide +kernel
abbrev cJ7_fill_d0a16 : ByteArray := prog_23_method_101_code
def yJ7_fill_d0a16 : MethodName := ⟨RJ7, "fill", "([JJ)V"⟩
abbrev cJ7_copyOf_1904c : ByteArray := prog_23_method_119_code
def yJ7_copyOf_1904c : MethodName := ⟨RJ7, "copyOf", "([Ljava/lang/Object;I)[Ljava/lang/Object;"⟩
abbrev cJ7_copyOf_6403c : ByteArray := prog_23_method_120_code
def yJ7_copyOf_6403c : MethodName := ⟨RJ7, "copyOf", "([Ljava/lang/Object;ILjava/lang/Class;)[Ljava/lang/Object;"⟩
def RJx5ef63 : String := "java/util/Collection"
def TJx5ef63 : u_T := fun k => match k with
  | _ => ("", "", "", false)
def tyJx5ef63 : Nat → FieldType := fun k => match k with
  | _ => .int
abbrev wsJx5ef630 : List Cond := u_ws RJx5ef63 TJx5ef63 0
theorem nmJx5ef63 : ∀ a, a < 0 → ∀ b, b < 0 → a ≠ b → (TJx5ef63 a).2.1 ≠ (TJx5ef63 b).2.1 := by decide +kernel
theorem tyJx5ef63_ok : ∀ k, k < 0 → parseFieldDescriptor (TJx5ef63 k).2.2.1 = some (tyJx5ef63 k) := by decide +kernel
def RJxbd725 : String := "java/util/List"
def TJxbd725 : u_T := fun k => match k with
  | _ => ("", "", "", false)
def tyJxbd725 : Nat → FieldType := fun k => match k with
  | _ => .int
abbrev wsJxbd7250 : List Cond := u_ws RJxbd725 TJxbd725 0
theorem nmJxbd725 : ∀ a, a < 0 → ∀ b, b < 0 → a ≠ b → (TJxbd725 a).2.1 ≠ (TJxbd725 b).2.1 := by decide +kernel
theorem tyJxbd725_ok : ∀ k, k < 0 → parseFieldDescriptor (TJxbd725 k).2.2.1 = some (tyJxbd725 k) := by decide +kernel
def RJ15 : String := "java/util/Objects"
def TJ15 : u_T := fun k => match k with
  | _ => ("", "", "", false)
def tyJ15 : Nat → FieldType := fun k => match k with
  | _ => .int
abbrev wsJ150 : List Cond := u_ws RJ15 TJ15 0
theorem nmJ15 : ∀ a, a < 0 → ∀ b, b < 0 → a ≠ b → (TJ15 a).2.1 ≠ (TJ15 b).2.1 := by decide +kernel
theorem tyJ15_ok : ∀ k, k < 0 → parseFieldDescriptor (TJ15 k).2.2.1 = some (tyJ15 k) := by decide +kernel
abbrev cJ15_checkIndex_7cf53 : ByteArray := prog_26_method_17_code
def yJ15_checkIndex_7cf53 : MethodName := ⟨RJ15, "checkIndex", "(II)I"⟩
def RJxf0a74 : String := "java/util/RandomAccess"
def TJxf0a74 : u_T := fun k => match k with
  | _ => ("", "", "", false)
def tyJxf0a74 : Nat → FieldType := fun k => match k with
  | _ => .int
abbrev wsJxf0a740 : List Cond := u_ws RJxf0a74 TJxf0a74 0
theorem nmJxf0a74 : ∀ a, a < 0 → ∀ b, b < 0 → a ≠ b → (TJxf0a74 a).2.1 ≠ (TJxf0a74 b).2.1 := by decide +kernel
theorem tyJxf0a74_ok : ∀ k, k < 0 → parseFieldDescriptor (TJxf0a74 k).2.2.1 = some (tyJxf0a74 k) := by decide +kernel
def RJxa66e6 : String := "java/util/SequencedCollection"
def TJxa66e6 : u_T := fun k => match k with
  | _ => ("", "", "", false)
def tyJxa66e6 : Nat → FieldType := fun k => match k with
  | _ => .int
abbrev wsJxa66e60 : List Cond := u_ws RJxa66e6 TJxa66e6 0
theorem nmJxa66e6 : ∀ a, a < 0 → ∀ b, b < 0 → a ≠ b → (TJxa66e6 a).2.1 ≠ (TJxa66e6 b).2.1 := by decide +kernel
theorem tyJxa66e6_ok : ∀ k, k < 0 → parseFieldDescriptor (TJxa66e6 k).2.2.1 = some (tyJxa66e6 k) := by decide +kernel
def RJ8 : String := "jdk/internal/util/ArraysSupport"
def TJ8 : u_T := fun k => match k with
  | _ => ("", "", "", false)
def tyJ8 : Nat → FieldType := fun k => match k with
  | _ => .int
abbrev wsJ80 : List Cond := u_ws RJ8 TJ8 0
theorem nmJ8 : ∀ a, a < 0 → ∀ b, b < 0 → a ≠ b → (TJ8 a).2.1 ≠ (TJ8 b).2.1 := by decide +kernel
theorem tyJ8_ok : ∀ k, k < 0 → parseFieldDescriptor (TJ8 k).2.2.1 = some (tyJ8 k) := by decide +kernel
abbrev cJ8_newLength_cabcc : ByteArray := prog_29_method_27_code
def yJ8_newLength_cabcc : MethodName := ⟨RJ8, "newLength", "(III)I"⟩
abbrev cJ8_hugeLength_7cf53 : ByteArray := prog_29_method_28_code
def yJ8_hugeLength_7cf53 : MethodName := ⟨RJ8, "hugeLength", "(II)I"⟩
def RJ3 : String := "jdk/internal/util/Preconditions"
def TJ3 : u_T := fun k => match k with
  | _ => ("", "", "", false)
def tyJ3 : Nat → FieldType := fun k => match k with
  | _ => .int
abbrev wsJ30 : List Cond := u_ws RJ3 TJ3 0
theorem nmJ3 : ∀ a, a < 0 → ∀ b, b < 0 → a ≠ b → (TJ3 a).2.1 ≠ (TJ3 b).2.1 := by decide +kernel
theorem tyJ3_ok : ∀ k, k < 0 → parseFieldDescriptor (TJ3 k).2.2.1 = some (tyJ3 k) := by decide +kernel
abbrev cJ3_checkIndex_8e157 : ByteArray := prog_30_method_11_code
def yJ3_checkIndex_8e157 : MethodName := ⟨RJ3, "checkIndex", "(IILjava/util/function/BiFunction;)I"⟩
def RL : String := "SavingsHallLaw"
abbrev cL_part : ByteArray := method_2_code
def yL_part : MethodName := ⟨RL, "part", "([III)I"⟩
abbrev cL_does : ByteArray := method_3_code
def yL_does : MethodName := ⟨RL, "does", "(LSavingsHall;IIII)J"⟩
abbrev cL_costs : ByteArray := method_4_code
def yL_costs : MethodName := ⟨RL, "costs", "(J)J"⟩
abbrev cL_moves : ByteArray := method_5_code
def yL_moves : MethodName := ⟨RL, "moves", "([I[J[JIIJ)V"⟩
abbrev cL_trades : ByteArray := method_6_code
def yL_trades : MethodName := ⟨RL, "trades", "([I[J[J[I[J[J[IIIJJ)V"⟩
abbrev cL_goes : ByteArray := method_7_code
def yL_goes : MethodName := ⟨RL, "goes", "([I[J[J[I[J[JII)Z"⟩
abbrev cL_taxes : ByteArray := method_8_code
def yL_taxes : MethodName := ⟨RL, "taxes", "([I[J[J[I[J[JI)V"⟩
abbrev cL_wealth : ByteArray := method_9_code
def yL_wealth : MethodName := ⟨RL, "wealth", "([I[J[JI)J"⟩
abbrev cL_balances : ByteArray := method_10_code
def yL_balances : MethodName := ⟨RL, "balances", "([I[J[J[I[I[J[J[II)I"⟩
abbrev cL_isSo : ByteArray := method_11_code
def yL_isSo : MethodName := ⟨RL, "isSo", "(LSavingsHall;[I[J[J[I[J[J[I[J[J[JII)Z"⟩
abbrev cL_law : ByteArray := code
def yL_law : MethodName := ⟨RL, "law", "([I)Z"⟩
def wsJxa1e45_init_da8c8 : List Cond := .code yJxa1e45_init_da8c8 cJxa1e45_init_da8c8 1 none :: ([.methodLink RJxa1e45 1 objectInit, .instanceMethod objectInit, .code objectInit ⟨#[0xb1]⟩ 1 none])
def wsJxc12de_init_da8c8 : List Cond := .code yJxc12de_init_da8c8 cJxc12de_init_da8c8 1 none :: ([.fieldLink RJxc12de 7 "java/util/AbstractList" "modCount" "I", .methodLink RJxc12de 1 yJxa1e45_init_da8c8, .instanceMethod yJxa1e45_init_da8c8, .initialized RJxa1e45, .code yJxa1e45_init_da8c8 cJxa1e45_init_da8c8 1 none, .methodLink RJxa1e45 1 objectInit, .instanceMethod objectInit, .code objectInit ⟨#[0xb1]⟩ 1 none] ++ wsJx4a65c0)
def wsJx4a65c_init_da8c8 : List Cond := .code yJx4a65c_init_da8c8 cJx4a65c_init_da8c8 1 none :: ([.fieldLink RJx4a65c 39 "java/util/ArrayList" "DEFAULTCAPACITY_EMPTY_ELEMENTDATA" "[Ljava/lang/Object;", .fieldLink RJx4a65c 9 "java/util/ArrayList" "elementData" "[Ljava/lang/Object;", .methodLink RJx4a65c 1 yJxc12de_init_da8c8, .instanceMethod yJxc12de_init_da8c8, .initialized RJxc12de, .code yJxc12de_init_da8c8 cJxc12de_init_da8c8 1 none, .fieldLink RJxc12de 7 "java/util/AbstractList" "modCount" "I", .methodLink RJxc12de 1 yJxa1e45_init_da8c8, .instanceMethod yJxa1e45_init_da8c8, .initialized RJxa1e45, .code yJxa1e45_init_da8c8 cJxa1e45_init_da8c8 1 none, .methodLink RJxa1e45 1 objectInit, .instanceMethod objectInit, .code objectInit ⟨#[0xb1]⟩ 1 none] ++ wsJx4a65c0)
def wsX0_init_r1 : List Cond := [Cond.methodLink RX0 3 objectInit, Cond.instanceMethod objectInit, Cond.code objectInit ⟨#[0xb1]⟩ 1 none, Cond.fieldLink RX0 9 "SavingsHall$Client" "number" "I", Cond.classLink RX0 15 RJx4a65c, Cond.instantiable RJx4a65c 3, Cond.initialized RJx4a65c, Cond.fieldLink RX0 18 "SavingsHall$Client" "holdings" "Ljava/util/ArrayList;", Cond.arrayClass .long, Cond.fieldLink RX0 22 "SavingsHall$Client" "gains" "[J", Cond.fieldLink RX0 26 "SavingsHall$Client" "taxesPaid" "[J", Cond.methodLink RX0 17 yJx4a65c_init_da8c8, Cond.instanceMethod yJx4a65c_init_da8c8, Cond.code yJx4a65c_init_da8c8 cJx4a65c_init_da8c8 1 none, Cond.fieldLink RJx4a65c 39 "java/util/ArrayList" "DEFAULTCAPACITY_EMPTY_ELEMENTDATA" "[Ljava/lang/Object;", Cond.fieldLink RJx4a65c 9 "java/util/ArrayList" "elementData" "[Ljava/lang/Object;", Cond.methodLink RJx4a65c 1 yJxc12de_init_da8c8, Cond.instanceMethod yJxc12de_init_da8c8, Cond.initialized RJxc12de, Cond.code yJxc12de_init_da8c8 cJxc12de_init_da8c8 1 none, Cond.fieldLink RJxc12de 7 "java/util/AbstractList" "modCount" "I", Cond.methodLink RJxc12de 1 yJxa1e45_init_da8c8, Cond.instanceMethod yJxa1e45_init_da8c8, Cond.initialized RJxa1e45]
def wsX0_init_r2 : List Cond := [Cond.code yJxa1e45_init_da8c8 cJxa1e45_init_da8c8 1 none, Cond.methodLink RJxa1e45 1 objectInit]
def wsX0_init : List Cond := .code yX0_init cX0_init 2 none :: ((wsX0_init_r1 ++ wsX0_init_r2) ++ wsX00 ++ wsJx4a65c0)
def wsX1_init : List Cond := .code yX1_init cX1_init 2 none :: ([.methodLink RX1 3 objectInit, .instanceMethod objectInit, .code objectInit ⟨#[0xb1]⟩ 1 none, .fieldLink RX1 9 "SavingsHall$Fund" "number" "I", .fieldLink RX1 15 "SavingsHall$Fund" "price" "I"] ++ wsX10)
def wsX2_init : List Cond := .code yX2_init cX2_init 3 none :: ([.methodLink RX2 1 objectInit, .instanceMethod objectInit, .code objectInit ⟨#[0xb1]⟩ 1 none, .fieldLink RX2 7 "SavingsHall$Holding" "client" "LSavingsHall$Client;", .fieldLink RX2 13 "SavingsHall$Holding" "fund" "LSavingsHall$Fund;"] ++ wsX20)
def wsX3_init : List Cond := .code yX3_init cX3_init 10 none :: ([.methodLink RX3 1 objectInit, .instanceMethod objectInit, .code objectInit ⟨#[0xb1]⟩ 1 none, .fieldLink RX3 7 "SavingsHall$Trade" "number" "I", .fieldLink RX3 13 "SavingsHall$Trade" "holding" "LSavingsHall$Holding;", .fieldLink RX3 17 "SavingsHall$Trade" "day" "I", .fieldLink RX3 20 "SavingsHall$Trade" "parts" "J", .fieldLink RX3 24 "SavingsHall$Trade" "amount" "J", .fieldLink RX3 27 "SavingsHall$Trade" "costs" "J", .fieldLink RX3 30 "SavingsHall$Trade" "stands" "Z"] ++ wsX30)
def wsX3_isSale : List Cond := .code yX3_isSale cX3_isSale 1 (some .boolean) :: ([.fieldLink RX3 20 "SavingsHall$Trade" "parts" "J"] ++ wsX30)
def wsX3_paid : List Cond := .code yX3_paid cX3_paid 1 (some .long) :: ([.fieldLink RX3 27 "SavingsHall$Trade" "costs" "J", .fieldLink RX3 24 "SavingsHall$Trade" "amount" "J", .methodLink RX3 34 yX3_isSale, .instanceMethod yX3_isSale, .selects RX3 yX3_isSale yX3_isSale, .initialized RX3, .code yX3_isSale cX3_isSale 1 (some .boolean), .fieldLink RX3 20 "SavingsHall$Trade" "parts" "J"] ++ wsX30)
def wsJ8_hugeLength_7cf53 : List Cond := .code yJ8_hugeLength_7cf53 cJ8_hugeLength_7cf53 3 (some .int) :: ([.constant RJ8 200 (2147483639)])
def wsJ8_newLength_cabcc : List Cond := .code yJ8_newLength_cabcc cJ8_newLength_cabcc 4 (some .int) :: ([.methodLink RJ8 194 Lib.Math.max.name, .static Lib.Math.max.name, .initialized "java/lang/Math", .code Lib.Math.max.name Lib.Math.max.code 2 (some .int), .constant RJ8 200 (2147483639), .methodLink RJ8 201 yJ8_hugeLength_7cf53, .static yJ8_hugeLength_7cf53, .initialized RJ8, .code yJ8_hugeLength_7cf53 cJ8_hugeLength_7cf53 3 (some .int)])
def wsJ7_copyOf_6403c : List Cond := .code yJ7_copyOf_6403c cJ7_copyOf_6403c 4 (some (.array (.object "java/lang/Object"))) :: ([.classLink RJ7 110 "[Ljava/lang/Object;", .classLink RJ7 2 "java/lang/Object", .methodLink RJ7 304 Lib.Math.min.name, .static Lib.Math.min.name, .initialized "java/lang/Math", .code Lib.Math.min.name Lib.Math.min.code 2 (some .int), .methodLink RJ7 150 arraycopyName, .native arraycopyName, .static arraycopyName, .initialized "java/lang/System"])
def wsJ7_copyOf_1904c : List Cond := .code yJ7_copyOf_1904c cJ7_copyOf_1904c 2 (some (.array (.object "java/lang/Object"))) :: ([.methodLink RJ7 86 ⟨"java/lang/Object", "getClass", "()Ljava/lang/Class;"⟩, .selects "[Ljava/lang/Object;" ⟨"java/lang/Object", "getClass", "()Ljava/lang/Class;"⟩ ⟨"java/lang/Object", "getClass", "()Ljava/lang/Class;"⟩, .instanceMethod ⟨"java/lang/Object", "getClass", "()Ljava/lang/Class;"⟩, .native ⟨"java/lang/Object", "getClass", "()Ljava/lang/Class;"⟩, .methodLink RJ7 300 yJ7_copyOf_6403c, .static yJ7_copyOf_6403c, .initialized RJ7, .code yJ7_copyOf_6403c cJ7_copyOf_6403c 4 (some (.array (.object "java/lang/Object"))), .classLink RJ7 110 "[Ljava/lang/Object;", .classLink RJ7 2 "java/lang/Object", .methodLink RJ7 304 Lib.Math.min.name, .static Lib.Math.min.name, .initialized "java/lang/Math", .code Lib.Math.min.name Lib.Math.min.code 2 (some .int), .methodLink RJ7 150 arraycopyName, .native arraycopyName, .static arraycopyName, .initialized "java/lang/System"])
def wsJx4a65c_grow_92f84_r1 : List Cond := [Cond.fieldLink RJx4a65c 9 "java/util/ArrayList" "elementData" "[Ljava/lang/Object;", Cond.fieldLink RJx4a65c 39 "java/util/ArrayList" "DEFAULTCAPACITY_EMPTY_ELEMENTDATA" "[Ljava/lang/Object;", Cond.methodLink RJx4a65c 79 Lib.Math.max.name, Cond.static Lib.Math.max.name, Cond.initialized "java/lang/Math", Cond.code Lib.Math.max.name Lib.Math.max.code 2 (some .int), Cond.classLink RJx4a65c 7 "java/lang/Object", Cond.methodLink RJx4a65c 73 yJ8_newLength_cabcc, Cond.static yJ8_newLength_cabcc, Cond.initialized RJ8, Cond.code yJ8_newLength_cabcc cJ8_newLength_cabcc 4 (some .int), Cond.methodLink RJ8 194 Lib.Math.max.name, Cond.constant RJ8 200 (2147483639), Cond.methodLink RJ8 201 yJ8_hugeLength_7cf53, Cond.static yJ8_hugeLength_7cf53, Cond.code yJ8_hugeLength_7cf53 cJ8_hugeLength_7cf53 3 (some .int), Cond.methodLink RJx4a65c 66 yJ7_copyOf_1904c, Cond.static yJ7_copyOf_1904c, Cond.initialized RJ7, Cond.code yJ7_copyOf_1904c cJ7_copyOf_1904c 2 (some (.array (.object "java/lang/Object"))), Cond.methodLink RJ7 86 ⟨"java/lang/Object", "getClass", "()Ljava/lang/Class;"⟩, Cond.selects "[Ljava/lang/Object;" ⟨"java/lang/Object", "getClass", "()Ljava/lang/Class;"⟩ ⟨"java/lang/Object", "getClass", "()Ljava/lang/Class;"⟩, Cond.instanceMethod ⟨"java/lang/Object", "getClass", "()Ljava/lang/Class;"⟩, Cond.native ⟨"java/lang/Object", "getClass", "()Ljava/lang/Class;"⟩]
def wsJx4a65c_grow_92f84_r2 : List Cond := [Cond.methodLink RJ7 300 yJ7_copyOf_6403c, Cond.static yJ7_copyOf_6403c, Cond.code yJ7_copyOf_6403c cJ7_copyOf_6403c 4 (some (.array (.object "java/lang/Object"))), Cond.classLink RJ7 110 "[Ljava/lang/Object;", Cond.classLink RJ7 2 "java/lang/Object", Cond.methodLink RJ7 304 Lib.Math.min.name, Cond.static Lib.Math.min.name, Cond.code Lib.Math.min.name Lib.Math.min.code 2 (some .int), Cond.methodLink RJ7 150 arraycopyName, Cond.native arraycopyName, Cond.static arraycopyName, Cond.initialized "java/lang/System"]
def wsJx4a65c_grow_92f84 : List Cond := .code yJx4a65c_grow_92f84 cJx4a65c_grow_92f84 4 (some (.array (.object "java/lang/Object"))) :: ((wsJx4a65c_grow_92f84_r1 ++ wsJx4a65c_grow_92f84_r2) ++ wsJx4a65c0)
def wsJx4a65c_grow_d5877_r1 : List Cond := [Cond.fieldLink RJx4a65c 48 "java/util/ArrayList" "size" "I", Cond.methodLink RJx4a65c 69 yJx4a65c_grow_92f84, Cond.instanceMethod yJx4a65c_grow_92f84, Cond.selects RJx4a65c yJx4a65c_grow_92f84 yJx4a65c_grow_92f84, Cond.initialized RJx4a65c, Cond.code yJx4a65c_grow_92f84 cJx4a65c_grow_92f84 4 (some (.array (.object "java/lang/Object"))), Cond.fieldLink RJx4a65c 9 "java/util/ArrayList" "elementData" "[Ljava/lang/Object;", Cond.fieldLink RJx4a65c 39 "java/util/ArrayList" "DEFAULTCAPACITY_EMPTY_ELEMENTDATA" "[Ljava/lang/Object;", Cond.methodLink RJx4a65c 79 Lib.Math.max.name, Cond.static Lib.Math.max.name, Cond.initialized "java/lang/Math", Cond.code Lib.Math.max.name Lib.Math.max.code 2 (some .int), Cond.classLink RJx4a65c 7 "java/lang/Object", Cond.methodLink RJx4a65c 73 yJ8_newLength_cabcc, Cond.static yJ8_newLength_cabcc, Cond.initialized RJ8, Cond.code yJ8_newLength_cabcc cJ8_newLength_cabcc 4 (some .int), Cond.methodLink RJ8 194 Lib.Math.max.name, Cond.constant RJ8 200 (2147483639), Cond.methodLink RJ8 201 yJ8_hugeLength_7cf53, Cond.static yJ8_hugeLength_7cf53, Cond.code yJ8_hugeLength_7cf53 cJ8_hugeLength_7cf53 3 (some .int), Cond.methodLink RJx4a65c 66 yJ7_copyOf_1904c, Cond.static yJ7_copyOf_1904c]
def wsJx4a65c_grow_d5877_r2 : List Cond := [Cond.initialized RJ7, Cond.code yJ7_copyOf_1904c cJ7_copyOf_1904c 2 (some (.array (.object "java/lang/Object"))), Cond.methodLink RJ7 86 ⟨"java/lang/Object", "getClass", "()Ljava/lang/Class;"⟩, Cond.selects "[Ljava/lang/Object;" ⟨"java/lang/Object", "getClass", "()Ljava/lang/Class;"⟩ ⟨"java/lang/Object", "getClass", "()Ljava/lang/Class;"⟩, Cond.instanceMethod ⟨"java/lang/Object", "getClass", "()Ljava/lang/Class;"⟩, Cond.native ⟨"java/lang/Object", "getClass", "()Ljava/lang/Class;"⟩, Cond.methodLink RJ7 300 yJ7_copyOf_6403c, Cond.static yJ7_copyOf_6403c, Cond.code yJ7_copyOf_6403c cJ7_copyOf_6403c 4 (some (.array (.object "java/lang/Object"))), Cond.classLink RJ7 110 "[Ljava/lang/Object;", Cond.classLink RJ7 2 "java/lang/Object", Cond.methodLink RJ7 304 Lib.Math.min.name, Cond.static Lib.Math.min.name, Cond.code Lib.Math.min.name Lib.Math.min.code 2 (some .int), Cond.methodLink RJ7 150 arraycopyName, Cond.native arraycopyName, Cond.static arraycopyName, Cond.initialized "java/lang/System"]
def wsJx4a65c_grow_d5877 : List Cond := .code yJx4a65c_grow_d5877 cJx4a65c_grow_d5877 1 (some (.array (.object "java/lang/Object"))) :: ((wsJx4a65c_grow_d5877_r1 ++ wsJx4a65c_grow_d5877_r2) ++ wsJx4a65c0)
def wsJx4a65c_add_72be8_r1 : List Cond := [Cond.fieldLink RJx4a65c 48 "java/util/ArrayList" "size" "I", Cond.methodLink RJx4a65c 129 yJx4a65c_grow_d5877, Cond.instanceMethod yJx4a65c_grow_d5877, Cond.selects RJx4a65c yJx4a65c_grow_d5877 yJx4a65c_grow_d5877, Cond.initialized RJx4a65c, Cond.code yJx4a65c_grow_d5877 cJx4a65c_grow_d5877 1 (some (.array (.object "java/lang/Object"))), Cond.methodLink RJx4a65c 69 yJx4a65c_grow_92f84, Cond.instanceMethod yJx4a65c_grow_92f84, Cond.selects RJx4a65c yJx4a65c_grow_92f84 yJx4a65c_grow_92f84, Cond.code yJx4a65c_grow_92f84 cJx4a65c_grow_92f84 4 (some (.array (.object "java/lang/Object"))), Cond.fieldLink RJx4a65c 9 "java/util/ArrayList" "elementData" "[Ljava/lang/Object;", Cond.fieldLink RJx4a65c 39 "java/util/ArrayList" "DEFAULTCAPACITY_EMPTY_ELEMENTDATA" "[Ljava/lang/Object;", Cond.methodLink RJx4a65c 79 Lib.Math.max.name, Cond.static Lib.Math.max.name, Cond.initialized "java/lang/Math", Cond.code Lib.Math.max.name Lib.Math.max.code 2 (some .int), Cond.classLink RJx4a65c 7 "java/lang/Object", Cond.methodLink RJx4a65c 73 yJ8_newLength_cabcc, Cond.static yJ8_newLength_cabcc, Cond.initialized RJ8, Cond.code yJ8_newLength_cabcc cJ8_newLength_cabcc 4 (some .int), Cond.methodLink RJ8 194 Lib.Math.max.name, Cond.constant RJ8 200 (2147483639), Cond.methodLink RJ8 201 yJ8_hugeLength_7cf53]
def wsJx4a65c_add_72be8_r2 : List Cond := [Cond.static yJ8_hugeLength_7cf53, Cond.code yJ8_hugeLength_7cf53 cJ8_hugeLength_7cf53 3 (some .int), Cond.methodLink RJx4a65c 66 yJ7_copyOf_1904c, Cond.static yJ7_copyOf_1904c, Cond.initialized RJ7, Cond.code yJ7_copyOf_1904c cJ7_copyOf_1904c 2 (some (.array (.object "java/lang/Object"))), Cond.methodLink RJ7 86 ⟨"java/lang/Object", "getClass", "()Ljava/lang/Class;"⟩, Cond.selects "[Ljava/lang/Object;" ⟨"java/lang/Object", "getClass", "()Ljava/lang/Class;"⟩ ⟨"java/lang/Object", "getClass", "()Ljava/lang/Class;"⟩, Cond.instanceMethod ⟨"java/lang/Object", "getClass", "()Ljava/lang/Class;"⟩, Cond.native ⟨"java/lang/Object", "getClass", "()Ljava/lang/Class;"⟩, Cond.methodLink RJ7 300 yJ7_copyOf_6403c, Cond.static yJ7_copyOf_6403c, Cond.code yJ7_copyOf_6403c cJ7_copyOf_6403c 4 (some (.array (.object "java/lang/Object"))), Cond.classLink RJ7 110 "[Ljava/lang/Object;", Cond.classLink RJ7 2 "java/lang/Object", Cond.methodLink RJ7 304 Lib.Math.min.name, Cond.static Lib.Math.min.name, Cond.code Lib.Math.min.name Lib.Math.min.code 2 (some .int), Cond.methodLink RJ7 150 arraycopyName, Cond.native arraycopyName, Cond.static arraycopyName, Cond.initialized "java/lang/System"]
def wsJx4a65c_add_72be8 : List Cond := .code yJx4a65c_add_72be8 cJx4a65c_add_72be8 4 none :: ((wsJx4a65c_add_72be8_r1 ++ wsJx4a65c_add_72be8_r2) ++ wsJx4a65c0)
def wsJx4a65c_add_9ea2d_r1 : List Cond := [Cond.fieldLink RJx4a65c 63 "java/util/ArrayList" "modCount" "I", Cond.sameField "java/util/ArrayList" "java/util/AbstractList" "modCount" "I", Cond.fieldLink RJx4a65c 9 "java/util/ArrayList" "elementData" "[Ljava/lang/Object;", Cond.fieldLink RJx4a65c 48 "java/util/ArrayList" "size" "I", Cond.methodLink RJx4a65c 131 yJx4a65c_add_72be8, Cond.instanceMethod yJx4a65c_add_72be8, Cond.selects RJx4a65c yJx4a65c_add_72be8 yJx4a65c_add_72be8, Cond.initialized RJx4a65c, Cond.code yJx4a65c_add_72be8 cJx4a65c_add_72be8 4 none, Cond.methodLink RJx4a65c 129 yJx4a65c_grow_d5877, Cond.instanceMethod yJx4a65c_grow_d5877, Cond.selects RJx4a65c yJx4a65c_grow_d5877 yJx4a65c_grow_d5877, Cond.code yJx4a65c_grow_d5877 cJx4a65c_grow_d5877 1 (some (.array (.object "java/lang/Object"))), Cond.methodLink RJx4a65c 69 yJx4a65c_grow_92f84, Cond.instanceMethod yJx4a65c_grow_92f84, Cond.selects RJx4a65c yJx4a65c_grow_92f84 yJx4a65c_grow_92f84, Cond.code yJx4a65c_grow_92f84 cJx4a65c_grow_92f84 4 (some (.array (.object "java/lang/Object"))), Cond.fieldLink RJx4a65c 39 "java/util/ArrayList" "DEFAULTCAPACITY_EMPTY_ELEMENTDATA" "[Ljava/lang/Object;", Cond.methodLink RJx4a65c 79 Lib.Math.max.name, Cond.static Lib.Math.max.name, Cond.initialized "java/lang/Math", Cond.code Lib.Math.max.name Lib.Math.max.code 2 (some .int), Cond.classLink RJx4a65c 7 "java/lang/Object", Cond.methodLink RJx4a65c 73 yJ8_newLength_cabcc]
def wsJx4a65c_add_9ea2d_r2 : List Cond := [Cond.static yJ8_newLength_cabcc, Cond.initialized RJ8, Cond.code yJ8_newLength_cabcc cJ8_newLength_cabcc 4 (some .int), Cond.methodLink RJ8 194 Lib.Math.max.name, Cond.constant RJ8 200 (2147483639), Cond.methodLink RJ8 201 yJ8_hugeLength_7cf53, Cond.static yJ8_hugeLength_7cf53, Cond.code yJ8_hugeLength_7cf53 cJ8_hugeLength_7cf53 3 (some .int), Cond.methodLink RJx4a65c 66 yJ7_copyOf_1904c, Cond.static yJ7_copyOf_1904c, Cond.initialized RJ7, Cond.code yJ7_copyOf_1904c cJ7_copyOf_1904c 2 (some (.array (.object "java/lang/Object"))), Cond.methodLink RJ7 86 ⟨"java/lang/Object", "getClass", "()Ljava/lang/Class;"⟩, Cond.selects "[Ljava/lang/Object;" ⟨"java/lang/Object", "getClass", "()Ljava/lang/Class;"⟩ ⟨"java/lang/Object", "getClass", "()Ljava/lang/Class;"⟩, Cond.instanceMethod ⟨"java/lang/Object", "getClass", "()Ljava/lang/Class;"⟩, Cond.native ⟨"java/lang/Object", "getClass", "()Ljava/lang/Class;"⟩, Cond.methodLink RJ7 300 yJ7_copyOf_6403c, Cond.static yJ7_copyOf_6403c, Cond.code yJ7_copyOf_6403c cJ7_copyOf_6403c 4 (some (.array (.object "java/lang/Object"))), Cond.classLink RJ7 110 "[Ljava/lang/Object;", Cond.classLink RJ7 2 "java/lang/Object", Cond.methodLink RJ7 304 Lib.Math.min.name, Cond.static Lib.Math.min.name, Cond.code Lib.Math.min.name Lib.Math.min.code 2 (some .int)]
def wsJx4a65c_add_9ea2d_r3 : List Cond := [Cond.methodLink RJ7 150 arraycopyName, Cond.native arraycopyName, Cond.static arraycopyName, Cond.initialized "java/lang/System"]
def wsJx4a65c_add_9ea2d : List Cond := .code yJx4a65c_add_9ea2d cJx4a65c_add_9ea2d 2 (some .boolean) :: ((wsJx4a65c_add_9ea2d_r1 ++ (wsJx4a65c_add_9ea2d_r2 ++ wsJx4a65c_add_9ea2d_r3)) ++ wsJx4a65c0)
def wsX4_init_r1 : List Cond := [Cond.methodLink RX4 1 objectInit, Cond.instanceMethod objectInit, Cond.code objectInit ⟨#[0xb1]⟩ 1 none, Cond.classLink RX4 7 RJx4a65c, Cond.instantiable RJx4a65c 3, Cond.initialized RJx4a65c, Cond.fieldLink RX4 10 "SavingsHall" "funds" "Ljava/util/ArrayList;", Cond.fieldLink RX4 16 "SavingsHall" "clients" "Ljava/util/ArrayList;", Cond.fieldLink RX4 19 "SavingsHall" "trades" "Ljava/util/ArrayList;", Cond.classLink RX4 22 RX1, Cond.instantiable RX1 4, Cond.initialized RX1, Cond.methodLink RX4 9 yJx4a65c_init_da8c8, Cond.instanceMethod yJx4a65c_init_da8c8, Cond.code yJx4a65c_init_da8c8 cJx4a65c_init_da8c8 1 none, Cond.fieldLink RJx4a65c 39 "java/util/ArrayList" "DEFAULTCAPACITY_EMPTY_ELEMENTDATA" "[Ljava/lang/Object;", Cond.fieldLink RJx4a65c 9 "java/util/ArrayList" "elementData" "[Ljava/lang/Object;", Cond.methodLink RJx4a65c 1 yJxc12de_init_da8c8, Cond.instanceMethod yJxc12de_init_da8c8, Cond.initialized RJxc12de, Cond.code yJxc12de_init_da8c8 cJxc12de_init_da8c8 1 none, Cond.fieldLink RJxc12de 7 "java/util/AbstractList" "modCount" "I", Cond.methodLink RJxc12de 1 yJxa1e45_init_da8c8, Cond.instanceMethod yJxa1e45_init_da8c8]
def wsX4_init_r2 : List Cond := [Cond.initialized RJxa1e45, Cond.code yJxa1e45_init_da8c8 cJxa1e45_init_da8c8 1 none, Cond.methodLink RJxa1e45 1 objectInit, Cond.methodLink RX4 24 yX1_init, Cond.instanceMethod yX1_init, Cond.code yX1_init cX1_init 2 none, Cond.methodLink RX1 3 objectInit, Cond.fieldLink RX1 9 "SavingsHall$Fund" "number" "I", Cond.fieldLink RX1 15 "SavingsHall$Fund" "price" "I", Cond.methodLink RX4 27 yJx4a65c_add_9ea2d, Cond.instanceMethod yJx4a65c_add_9ea2d, Cond.selects RJx4a65c yJx4a65c_add_9ea2d yJx4a65c_add_9ea2d, Cond.code yJx4a65c_add_9ea2d cJx4a65c_add_9ea2d 2 (some .boolean), Cond.fieldLink RJx4a65c 63 "java/util/ArrayList" "modCount" "I", Cond.sameField "java/util/ArrayList" "java/util/AbstractList" "modCount" "I", Cond.fieldLink RJx4a65c 48 "java/util/ArrayList" "size" "I", Cond.methodLink RJx4a65c 131 yJx4a65c_add_72be8, Cond.instanceMethod yJx4a65c_add_72be8, Cond.selects RJx4a65c yJx4a65c_add_72be8 yJx4a65c_add_72be8, Cond.code yJx4a65c_add_72be8 cJx4a65c_add_72be8 4 none, Cond.methodLink RJx4a65c 129 yJx4a65c_grow_d5877, Cond.instanceMethod yJx4a65c_grow_d5877, Cond.selects RJx4a65c yJx4a65c_grow_d5877 yJx4a65c_grow_d5877, Cond.code yJx4a65c_grow_d5877 cJx4a65c_grow_d5877 1 (some (.array (.object "java/lang/Object")))]
def wsX4_init_r3 : List Cond := [Cond.methodLink RJx4a65c 69 yJx4a65c_grow_92f84, Cond.instanceMethod yJx4a65c_grow_92f84, Cond.selects RJx4a65c yJx4a65c_grow_92f84 yJx4a65c_grow_92f84, Cond.code yJx4a65c_grow_92f84 cJx4a65c_grow_92f84 4 (some (.array (.object "java/lang/Object"))), Cond.methodLink RJx4a65c 79 Lib.Math.max.name, Cond.static Lib.Math.max.name, Cond.initialized "java/lang/Math", Cond.code Lib.Math.max.name Lib.Math.max.code 2 (some .int), Cond.classLink RJx4a65c 7 "java/lang/Object", Cond.methodLink RJx4a65c 73 yJ8_newLength_cabcc, Cond.static yJ8_newLength_cabcc, Cond.initialized RJ8, Cond.code yJ8_newLength_cabcc cJ8_newLength_cabcc 4 (some .int), Cond.methodLink RJ8 194 Lib.Math.max.name, Cond.constant RJ8 200 (2147483639), Cond.methodLink RJ8 201 yJ8_hugeLength_7cf53, Cond.static yJ8_hugeLength_7cf53, Cond.code yJ8_hugeLength_7cf53 cJ8_hugeLength_7cf53 3 (some .int), Cond.methodLink RJx4a65c 66 yJ7_copyOf_1904c, Cond.static yJ7_copyOf_1904c, Cond.initialized RJ7, Cond.code yJ7_copyOf_1904c cJ7_copyOf_1904c 2 (some (.array (.object "java/lang/Object"))), Cond.methodLink RJ7 86 ⟨"java/lang/Object", "getClass", "()Ljava/lang/Class;"⟩, Cond.selects "[Ljava/lang/Object;" ⟨"java/lang/Object", "getClass", "()Ljava/lang/Class;"⟩ ⟨"java/lang/Object", "getClass", "()Ljava/lang/Class;"⟩]
def wsX4_init_r4 : List Cond := [Cond.instanceMethod ⟨"java/lang/Object", "getClass", "()Ljava/lang/Class;"⟩, Cond.native ⟨"java/lang/Object", "getClass", "()Ljava/lang/Class;"⟩, Cond.methodLink RJ7 300 yJ7_copyOf_6403c, Cond.static yJ7_copyOf_6403c, Cond.code yJ7_copyOf_6403c cJ7_copyOf_6403c 4 (some (.array (.object "java/lang/Object"))), Cond.classLink RJ7 110 "[Ljava/lang/Object;", Cond.classLink RJ7 2 "java/lang/Object", Cond.methodLink RJ7 304 Lib.Math.min.name, Cond.static Lib.Math.min.name, Cond.code Lib.Math.min.name Lib.Math.min.code 2 (some .int), Cond.methodLink RJ7 150 arraycopyName, Cond.native arraycopyName, Cond.static arraycopyName, Cond.initialized "java/lang/System"]
def wsX4_init : List Cond := .code yX4_init cX4_init 2 none :: ((wsX4_init_r1 ++ (wsX4_init_r2 ++ (wsX4_init_r3 ++ wsX4_init_r4))) ++ wsJx4a65c0 ++ wsX40 ++ wsX10)
def wsJx4a65c_size_8abf5 : List Cond := .code yJx4a65c_size_8abf5 cJx4a65c_size_8abf5 1 (some .int) :: ([.fieldLink RJx4a65c 48 "java/util/ArrayList" "size" "I"] ++ wsJx4a65c0)
def wsX4_checkExists : List Cond := .code yX4_checkExists cX4_checkExists 1 none :: ([.classLink RX4 217 "java/lang/IndexOutOfBoundsException", .initialized "java/lang/IndexOutOfBoundsException"] ++ (vx_atS RX4 221 "java/lang/IndexOutOfBoundsException" ["java/lang/RuntimeException", "java/lang/Exception"]).filter goodWord)
def wsJ3_checkIndex_8e157 : List Cond := .code yJ3_checkIndex_8e157 cJ3_checkIndex_8e157 3 (some .int) :: ([])
def wsJ15_checkIndex_7cf53 : List Cond := .code yJ15_checkIndex_7cf53 cJ15_checkIndex_7cf53 2 (some .int) :: ([.methodLink RJ15 105 yJ3_checkIndex_8e157, .static yJ3_checkIndex_8e157, .initialized RJ3, .code yJ3_checkIndex_8e157 cJ3_checkIndex_8e157 3 (some .int)])
def wsJx4a65c_elementData_915e3 : List Cond := .code yJx4a65c_elementData_915e3 cJx4a65c_elementData_915e3 2 (some (.object "java/lang/Object")) :: ([.fieldLink RJx4a65c 9 "java/util/ArrayList" "elementData" "[Ljava/lang/Object;"] ++ wsJx4a65c0)
def wsJx4a65c_get_915e3 : List Cond := .code yJx4a65c_get_915e3 cJx4a65c_get_915e3 2 (some (.object "java/lang/Object")) :: ([.fieldLink RJx4a65c 48 "java/util/ArrayList" "size" "I", .methodLink RJx4a65c 118 yJ15_checkIndex_7cf53, .static yJ15_checkIndex_7cf53, .initialized RJ15, .code yJ15_checkIndex_7cf53 cJ15_checkIndex_7cf53 2 (some .int), .methodLink RJ15 105 yJ3_checkIndex_8e157, .static yJ3_checkIndex_8e157, .initialized RJ3, .code yJ3_checkIndex_8e157 cJ3_checkIndex_8e157 3 (some .int), .methodLink RJx4a65c 123 yJx4a65c_elementData_915e3, .instanceMethod yJx4a65c_elementData_915e3, .selects RJx4a65c yJx4a65c_elementData_915e3 yJx4a65c_elementData_915e3, .initialized RJx4a65c, .code yJx4a65c_elementData_915e3 cJx4a65c_elementData_915e3 2 (some (.object "java/lang/Object")), .fieldLink RJx4a65c 9 "java/util/ArrayList" "elementData" "[Ljava/lang/Object;"] ++ wsJx4a65c0)
def wsX4_fundAt_r1 : List Cond := [Cond.fieldLink RX4 10 "SavingsHall" "funds" "Ljava/util/ArrayList;", Cond.classLink RX4 22 "SavingsHall$Fund", Cond.methodLink RX4 44 yJx4a65c_size_8abf5, Cond.instanceMethod yJx4a65c_size_8abf5, Cond.selects RJx4a65c yJx4a65c_size_8abf5 yJx4a65c_size_8abf5, Cond.initialized RJx4a65c, Cond.code yJx4a65c_size_8abf5 cJx4a65c_size_8abf5 1 (some .int), Cond.fieldLink RJx4a65c 48 "java/util/ArrayList" "size" "I", Cond.methodLink RX4 192 yX4_checkExists, Cond.static yX4_checkExists, Cond.initialized RX4, Cond.code yX4_checkExists cX4_checkExists 1 none, Cond.classLink RX4 217 "java/lang/IndexOutOfBoundsException", Cond.initialized "java/lang/IndexOutOfBoundsException", Cond.methodLink RX4 60 yJx4a65c_get_915e3, Cond.instanceMethod yJx4a65c_get_915e3, Cond.selects RJx4a65c yJx4a65c_get_915e3 yJx4a65c_get_915e3, Cond.code yJx4a65c_get_915e3 cJx4a65c_get_915e3 2 (some (.object "java/lang/Object")), Cond.methodLink RJx4a65c 118 yJ15_checkIndex_7cf53, Cond.static yJ15_checkIndex_7cf53, Cond.initialized RJ15, Cond.code yJ15_checkIndex_7cf53 cJ15_checkIndex_7cf53 2 (some .int), Cond.methodLink RJ15 105 yJ3_checkIndex_8e157, Cond.static yJ3_checkIndex_8e157]
def wsX4_fundAt_r2 : List Cond := [Cond.initialized RJ3, Cond.code yJ3_checkIndex_8e157 cJ3_checkIndex_8e157 3 (some .int), Cond.methodLink RJx4a65c 123 yJx4a65c_elementData_915e3, Cond.instanceMethod yJx4a65c_elementData_915e3, Cond.selects RJx4a65c yJx4a65c_elementData_915e3 yJx4a65c_elementData_915e3, Cond.code yJx4a65c_elementData_915e3 cJx4a65c_elementData_915e3 2 (some (.object "java/lang/Object")), Cond.fieldLink RJx4a65c 9 "java/util/ArrayList" "elementData" "[Ljava/lang/Object;"]
def wsX4_fundAt : List Cond := .code yX4_fundAt cX4_fundAt 2 (some (.object "SavingsHall$Fund")) :: ((wsX4_fundAt_r1 ++ wsX4_fundAt_r2) ++ wsX40 ++ wsJx4a65c0 ++ (vx_atS RX4 221 "java/lang/IndexOutOfBoundsException" ["java/lang/RuntimeException", "java/lang/Exception"]).filter goodWord)
def wsX4_checkRange : List Cond := .code yX4_checkRange cX4_checkRange 3 none :: ([.classLink RX4 224 "java/lang/IllegalArgumentException", .initialized "java/lang/IllegalArgumentException"] ++ (vx_atS RX4 228 "java/lang/IllegalArgumentException" ["java/lang/RuntimeException", "java/lang/Exception"]).filter goodWord)
def wsX4_price_r1 : List Cond := [Cond.constant RX4 35 (1000000), Cond.fieldLink RX4 40 "SavingsHall$Fund" "price" "I", Cond.methodLink RX4 31 yX4_fundAt, Cond.instanceMethod yX4_fundAt, Cond.selects RX4 yX4_fundAt yX4_fundAt, Cond.initialized RX4, Cond.code yX4_fundAt cX4_fundAt 2 (some (.object "SavingsHall$Fund")), Cond.fieldLink RX4 10 "SavingsHall" "funds" "Ljava/util/ArrayList;", Cond.classLink RX4 22 "SavingsHall$Fund", Cond.methodLink RX4 44 yJx4a65c_size_8abf5, Cond.instanceMethod yJx4a65c_size_8abf5, Cond.selects RJx4a65c yJx4a65c_size_8abf5 yJx4a65c_size_8abf5, Cond.initialized RJx4a65c, Cond.code yJx4a65c_size_8abf5 cJx4a65c_size_8abf5 1 (some .int), Cond.fieldLink RJx4a65c 48 "java/util/ArrayList" "size" "I", Cond.methodLink RX4 192 yX4_checkExists, Cond.static yX4_checkExists, Cond.code yX4_checkExists cX4_checkExists 1 none, Cond.classLink RX4 217 "java/lang/IndexOutOfBoundsException", Cond.initialized "java/lang/IndexOutOfBoundsException", Cond.methodLink RX4 60 yJx4a65c_get_915e3, Cond.instanceMethod yJx4a65c_get_915e3, Cond.selects RJx4a65c yJx4a65c_get_915e3 yJx4a65c_get_915e3, Cond.code yJx4a65c_get_915e3 cJx4a65c_get_915e3 2 (some (.object "java/lang/Object"))]
def wsX4_price_r2 : List Cond := [Cond.methodLink RJx4a65c 118 yJ15_checkIndex_7cf53, Cond.static yJ15_checkIndex_7cf53, Cond.initialized RJ15, Cond.code yJ15_checkIndex_7cf53 cJ15_checkIndex_7cf53 2 (some .int), Cond.methodLink RJ15 105 yJ3_checkIndex_8e157, Cond.static yJ3_checkIndex_8e157, Cond.initialized RJ3, Cond.code yJ3_checkIndex_8e157 cJ3_checkIndex_8e157 3 (some .int), Cond.methodLink RJx4a65c 123 yJx4a65c_elementData_915e3, Cond.instanceMethod yJx4a65c_elementData_915e3, Cond.selects RJx4a65c yJx4a65c_elementData_915e3 yJx4a65c_elementData_915e3, Cond.code yJx4a65c_elementData_915e3 cJx4a65c_elementData_915e3 2 (some (.object "java/lang/Object")), Cond.fieldLink RJx4a65c 9 "java/util/ArrayList" "elementData" "[Ljava/lang/Object;", Cond.methodLink RX4 36 yX4_checkRange, Cond.static yX4_checkRange, Cond.code yX4_checkRange cX4_checkRange 3 none, Cond.classLink RX4 224 "java/lang/IllegalArgumentException", Cond.initialized "java/lang/IllegalArgumentException"]
def wsX4_price : List Cond := .code yX4_price cX4_price 5 (some .int) :: ((wsX4_price_r1 ++ wsX4_price_r2) ++ wsX10 ++ wsX40 ++ wsJx4a65c0 ++ (vx_atS RX4 221 "java/lang/IndexOutOfBoundsException" ["java/lang/RuntimeException", "java/lang/Exception"]).filter goodWord ++ (vx_atS RX4 228 "java/lang/IllegalArgumentException" ["java/lang/RuntimeException", "java/lang/Exception"]).filter goodWord)
def wsX4_checkPossible : List Cond := .code yX4_checkPossible cX4_checkPossible 1 none :: ([.classLink RX4 229 "java/lang/IllegalStateException", .initialized "java/lang/IllegalStateException"] ++ (vx_atS RX4 233 "java/lang/IllegalStateException" ["java/lang/RuntimeException", "java/lang/Exception"]).filter goodWord)
def wsX4_client_r1 : List Cond := [Cond.fieldLink RX4 16 "SavingsHall" "clients" "Ljava/util/ArrayList;", Cond.classLink RX4 52 RX0, Cond.instantiable RX0 5, Cond.initialized RX0, Cond.fieldLink RX4 10 "SavingsHall" "funds" "Ljava/util/ArrayList;", Cond.fieldLink RX4 55 "SavingsHall$Client" "holdings" "Ljava/util/ArrayList;", Cond.classLink RX4 58 RX2, Cond.instantiable RX2 4, Cond.initialized RX2, Cond.classLink RX4 22 "SavingsHall$Fund", Cond.methodLink RX4 44 yJx4a65c_size_8abf5, Cond.instanceMethod yJx4a65c_size_8abf5, Cond.selects RJx4a65c yJx4a65c_size_8abf5 yJx4a65c_size_8abf5, Cond.initialized RJx4a65c, Cond.code yJx4a65c_size_8abf5 cJx4a65c_size_8abf5 1 (some .int), Cond.fieldLink RJx4a65c 48 "java/util/ArrayList" "size" "I", Cond.methodLink RX4 48 yX4_checkPossible, Cond.static yX4_checkPossible, Cond.initialized RX4, Cond.code yX4_checkPossible cX4_checkPossible 1 none, Cond.classLink RX4 229 "java/lang/IllegalStateException", Cond.initialized "java/lang/IllegalStateException", Cond.methodLink RX4 54 yX0_init, Cond.instanceMethod yX0_init]
def wsX4_client_r2 : List Cond := [Cond.code yX0_init cX0_init 2 none, Cond.methodLink RX0 3 objectInit, Cond.instanceMethod objectInit, Cond.code objectInit ⟨#[0xb1]⟩ 1 none, Cond.fieldLink RX0 9 "SavingsHall$Client" "number" "I", Cond.classLink RX0 15 RJx4a65c, Cond.instantiable RJx4a65c 3, Cond.fieldLink RX0 18 "SavingsHall$Client" "holdings" "Ljava/util/ArrayList;", Cond.arrayClass .long, Cond.fieldLink RX0 22 "SavingsHall$Client" "gains" "[J", Cond.fieldLink RX0 26 "SavingsHall$Client" "taxesPaid" "[J", Cond.methodLink RX0 17 yJx4a65c_init_da8c8, Cond.instanceMethod yJx4a65c_init_da8c8, Cond.code yJx4a65c_init_da8c8 cJx4a65c_init_da8c8 1 none, Cond.fieldLink RJx4a65c 39 "java/util/ArrayList" "DEFAULTCAPACITY_EMPTY_ELEMENTDATA" "[Ljava/lang/Object;", Cond.fieldLink RJx4a65c 9 "java/util/ArrayList" "elementData" "[Ljava/lang/Object;", Cond.methodLink RJx4a65c 1 yJxc12de_init_da8c8, Cond.instanceMethod yJxc12de_init_da8c8, Cond.initialized RJxc12de, Cond.code yJxc12de_init_da8c8 cJxc12de_init_da8c8 1 none, Cond.fieldLink RJxc12de 7 "java/util/AbstractList" "modCount" "I", Cond.methodLink RJxc12de 1 yJxa1e45_init_da8c8, Cond.instanceMethod yJxa1e45_init_da8c8, Cond.initialized RJxa1e45]
def wsX4_client_r3 : List Cond := [Cond.code yJxa1e45_init_da8c8 cJxa1e45_init_da8c8 1 none, Cond.methodLink RJxa1e45 1 objectInit, Cond.methodLink RX4 60 yJx4a65c_get_915e3, Cond.instanceMethod yJx4a65c_get_915e3, Cond.selects RJx4a65c yJx4a65c_get_915e3 yJx4a65c_get_915e3, Cond.code yJx4a65c_get_915e3 cJx4a65c_get_915e3 2 (some (.object "java/lang/Object")), Cond.methodLink RJx4a65c 118 yJ15_checkIndex_7cf53, Cond.static yJ15_checkIndex_7cf53, Cond.initialized RJ15, Cond.code yJ15_checkIndex_7cf53 cJ15_checkIndex_7cf53 2 (some .int), Cond.methodLink RJ15 105 yJ3_checkIndex_8e157, Cond.static yJ3_checkIndex_8e157, Cond.initialized RJ3, Cond.code yJ3_checkIndex_8e157 cJ3_checkIndex_8e157 3 (some .int), Cond.methodLink RJx4a65c 123 yJx4a65c_elementData_915e3, Cond.instanceMethod yJx4a65c_elementData_915e3, Cond.selects RJx4a65c yJx4a65c_elementData_915e3 yJx4a65c_elementData_915e3, Cond.code yJx4a65c_elementData_915e3 cJx4a65c_elementData_915e3 2 (some (.object "java/lang/Object")), Cond.methodLink RX4 64 yX2_init, Cond.instanceMethod yX2_init, Cond.code yX2_init cX2_init 3 none, Cond.methodLink RX2 1 objectInit, Cond.fieldLink RX2 7 "SavingsHall$Holding" "client" "LSavingsHall$Client;", Cond.fieldLink RX2 13 "SavingsHall$Holding" "fund" "LSavingsHall$Fund;"]
def wsX4_client_r4 : List Cond := [Cond.methodLink RX4 27 yJx4a65c_add_9ea2d, Cond.instanceMethod yJx4a65c_add_9ea2d, Cond.selects RJx4a65c yJx4a65c_add_9ea2d yJx4a65c_add_9ea2d, Cond.code yJx4a65c_add_9ea2d cJx4a65c_add_9ea2d 2 (some .boolean), Cond.fieldLink RJx4a65c 63 "java/util/ArrayList" "modCount" "I", Cond.sameField "java/util/ArrayList" "java/util/AbstractList" "modCount" "I", Cond.methodLink RJx4a65c 131 yJx4a65c_add_72be8, Cond.instanceMethod yJx4a65c_add_72be8, Cond.selects RJx4a65c yJx4a65c_add_72be8 yJx4a65c_add_72be8, Cond.code yJx4a65c_add_72be8 cJx4a65c_add_72be8 4 none, Cond.methodLink RJx4a65c 129 yJx4a65c_grow_d5877, Cond.instanceMethod yJx4a65c_grow_d5877, Cond.selects RJx4a65c yJx4a65c_grow_d5877 yJx4a65c_grow_d5877, Cond.code yJx4a65c_grow_d5877 cJx4a65c_grow_d5877 1 (some (.array (.object "java/lang/Object"))), Cond.methodLink RJx4a65c 69 yJx4a65c_grow_92f84, Cond.instanceMethod yJx4a65c_grow_92f84, Cond.selects RJx4a65c yJx4a65c_grow_92f84 yJx4a65c_grow_92f84, Cond.code yJx4a65c_grow_92f84 cJx4a65c_grow_92f84 4 (some (.array (.object "java/lang/Object"))), Cond.methodLink RJx4a65c 79 Lib.Math.max.name, Cond.static Lib.Math.max.name, Cond.initialized "java/lang/Math", Cond.code Lib.Math.max.name Lib.Math.max.code 2 (some .int), Cond.classLink RJx4a65c 7 "java/lang/Object", Cond.methodLink RJx4a65c 73 yJ8_newLength_cabcc]
def wsX4_client_r5 : List Cond := [Cond.static yJ8_newLength_cabcc, Cond.initialized RJ8, Cond.code yJ8_newLength_cabcc cJ8_newLength_cabcc 4 (some .int), Cond.methodLink RJ8 194 Lib.Math.max.name, Cond.constant RJ8 200 (2147483639), Cond.methodLink RJ8 201 yJ8_hugeLength_7cf53, Cond.static yJ8_hugeLength_7cf53, Cond.code yJ8_hugeLength_7cf53 cJ8_hugeLength_7cf53 3 (some .int), Cond.methodLink RJx4a65c 66 yJ7_copyOf_1904c, Cond.static yJ7_copyOf_1904c, Cond.initialized RJ7, Cond.code yJ7_copyOf_1904c cJ7_copyOf_1904c 2 (some (.array (.object "java/lang/Object"))), Cond.methodLink RJ7 86 ⟨"java/lang/Object", "getClass", "()Ljava/lang/Class;"⟩, Cond.selects "[Ljava/lang/Object;" ⟨"java/lang/Object", "getClass", "()Ljava/lang/Class;"⟩ ⟨"java/lang/Object", "getClass", "()Ljava/lang/Class;"⟩, Cond.instanceMethod ⟨"java/lang/Object", "getClass", "()Ljava/lang/Class;"⟩, Cond.native ⟨"java/lang/Object", "getClass", "()Ljava/lang/Class;"⟩, Cond.methodLink RJ7 300 yJ7_copyOf_6403c, Cond.static yJ7_copyOf_6403c, Cond.code yJ7_copyOf_6403c cJ7_copyOf_6403c 4 (some (.array (.object "java/lang/Object"))), Cond.classLink RJ7 110 "[Ljava/lang/Object;", Cond.classLink RJ7 2 "java/lang/Object", Cond.methodLink RJ7 304 Lib.Math.min.name, Cond.static Lib.Math.min.name, Cond.code Lib.Math.min.name Lib.Math.min.code 2 (some .int)]
def wsX4_client_r6 : List Cond := [Cond.methodLink RJ7 150 arraycopyName, Cond.native arraycopyName, Cond.static arraycopyName, Cond.initialized "java/lang/System"]
def wsX4_client : List Cond := .code yX4_client cX4_client 4 (some .int) :: ((wsX4_client_r1 ++ (wsX4_client_r2 ++ (wsX4_client_r3 ++ (wsX4_client_r4 ++ (wsX4_client_r5 ++ wsX4_client_r6))))) ++ wsX40 ++ wsX00 ++ wsX20 ++ wsJx4a65c0 ++ (vx_atS RX4 233 "java/lang/IllegalStateException" ["java/lang/RuntimeException", "java/lang/Exception"]).filter goodWord)
def wsX4_clientAt_r1 : List Cond := [Cond.fieldLink RX4 16 "SavingsHall" "clients" "Ljava/util/ArrayList;", Cond.classLink RX4 52 "SavingsHall$Client", Cond.methodLink RX4 44 yJx4a65c_size_8abf5, Cond.instanceMethod yJx4a65c_size_8abf5, Cond.selects RJx4a65c yJx4a65c_size_8abf5 yJx4a65c_size_8abf5, Cond.initialized RJx4a65c, Cond.code yJx4a65c_size_8abf5 cJx4a65c_size_8abf5 1 (some .int), Cond.fieldLink RJx4a65c 48 "java/util/ArrayList" "size" "I", Cond.methodLink RX4 192 yX4_checkExists, Cond.static yX4_checkExists, Cond.initialized RX4, Cond.code yX4_checkExists cX4_checkExists 1 none, Cond.classLink RX4 217 "java/lang/IndexOutOfBoundsException", Cond.initialized "java/lang/IndexOutOfBoundsException", Cond.methodLink RX4 60 yJx4a65c_get_915e3, Cond.instanceMethod yJx4a65c_get_915e3, Cond.selects RJx4a65c yJx4a65c_get_915e3 yJx4a65c_get_915e3, Cond.code yJx4a65c_get_915e3 cJx4a65c_get_915e3 2 (some (.object "java/lang/Object")), Cond.methodLink RJx4a65c 118 yJ15_checkIndex_7cf53, Cond.static yJ15_checkIndex_7cf53, Cond.initialized RJ15, Cond.code yJ15_checkIndex_7cf53 cJ15_checkIndex_7cf53 2 (some .int), Cond.methodLink RJ15 105 yJ3_checkIndex_8e157, Cond.static yJ3_checkIndex_8e157]
def wsX4_clientAt_r2 : List Cond := [Cond.initialized RJ3, Cond.code yJ3_checkIndex_8e157 cJ3_checkIndex_8e157 3 (some .int), Cond.methodLink RJx4a65c 123 yJx4a65c_elementData_915e3, Cond.instanceMethod yJx4a65c_elementData_915e3, Cond.selects RJx4a65c yJx4a65c_elementData_915e3 yJx4a65c_elementData_915e3, Cond.code yJx4a65c_elementData_915e3 cJx4a65c_elementData_915e3 2 (some (.object "java/lang/Object")), Cond.fieldLink RJx4a65c 9 "java/util/ArrayList" "elementData" "[Ljava/lang/Object;"]
def wsX4_clientAt : List Cond := .code yX4_clientAt cX4_clientAt 2 (some (.object "SavingsHall$Client")) :: ((wsX4_clientAt_r1 ++ wsX4_clientAt_r2) ++ wsX40 ++ wsJx4a65c0 ++ (vx_atS RX4 221 "java/lang/IndexOutOfBoundsException" ["java/lang/RuntimeException", "java/lang/Exception"]).filter goodWord)
def wsX4_pay_r1 : List Cond := [Cond.constant RX4 71 (-10000000), Cond.constant RX4 72 (10000000), Cond.fieldLink RX4 73 "SavingsHall$Client" "cash" "J", Cond.methodLink RX4 67 yX4_clientAt, Cond.instanceMethod yX4_clientAt, Cond.selects RX4 yX4_clientAt yX4_clientAt, Cond.initialized RX4, Cond.code yX4_clientAt cX4_clientAt 2 (some (.object "SavingsHall$Client")), Cond.fieldLink RX4 16 "SavingsHall" "clients" "Ljava/util/ArrayList;", Cond.classLink RX4 52 "SavingsHall$Client", Cond.methodLink RX4 44 yJx4a65c_size_8abf5, Cond.instanceMethod yJx4a65c_size_8abf5, Cond.selects RJx4a65c yJx4a65c_size_8abf5 yJx4a65c_size_8abf5, Cond.initialized RJx4a65c, Cond.code yJx4a65c_size_8abf5 cJx4a65c_size_8abf5 1 (some .int), Cond.fieldLink RJx4a65c 48 "java/util/ArrayList" "size" "I", Cond.methodLink RX4 192 yX4_checkExists, Cond.static yX4_checkExists, Cond.code yX4_checkExists cX4_checkExists 1 none, Cond.classLink RX4 217 "java/lang/IndexOutOfBoundsException", Cond.initialized "java/lang/IndexOutOfBoundsException", Cond.methodLink RX4 60 yJx4a65c_get_915e3, Cond.instanceMethod yJx4a65c_get_915e3, Cond.selects RJx4a65c yJx4a65c_get_915e3 yJx4a65c_get_915e3]
def wsX4_pay_r2 : List Cond := [Cond.code yJx4a65c_get_915e3 cJx4a65c_get_915e3 2 (some (.object "java/lang/Object")), Cond.methodLink RJx4a65c 118 yJ15_checkIndex_7cf53, Cond.static yJ15_checkIndex_7cf53, Cond.initialized RJ15, Cond.code yJ15_checkIndex_7cf53 cJ15_checkIndex_7cf53 2 (some .int), Cond.methodLink RJ15 105 yJ3_checkIndex_8e157, Cond.static yJ3_checkIndex_8e157, Cond.initialized RJ3, Cond.code yJ3_checkIndex_8e157 cJ3_checkIndex_8e157 3 (some .int), Cond.methodLink RJx4a65c 123 yJx4a65c_elementData_915e3, Cond.instanceMethod yJx4a65c_elementData_915e3, Cond.selects RJx4a65c yJx4a65c_elementData_915e3 yJx4a65c_elementData_915e3, Cond.code yJx4a65c_elementData_915e3 cJx4a65c_elementData_915e3 2 (some (.object "java/lang/Object")), Cond.fieldLink RJx4a65c 9 "java/util/ArrayList" "elementData" "[Ljava/lang/Object;", Cond.methodLink RX4 36 yX4_checkRange, Cond.static yX4_checkRange, Cond.code yX4_checkRange cX4_checkRange 3 none, Cond.classLink RX4 224 "java/lang/IllegalArgumentException", Cond.initialized "java/lang/IllegalArgumentException", Cond.methodLink RX4 48 yX4_checkPossible, Cond.static yX4_checkPossible, Cond.code yX4_checkPossible cX4_checkPossible 1 none, Cond.classLink RX4 229 "java/lang/IllegalStateException", Cond.initialized "java/lang/IllegalStateException"]
def wsX4_pay : List Cond := .code yX4_pay cX4_pay 4 (some .long) :: ((wsX4_pay_r1 ++ wsX4_pay_r2) ++ wsX00 ++ wsX40 ++ wsJx4a65c0 ++ (vx_atS RX4 221 "java/lang/IndexOutOfBoundsException" ["java/lang/RuntimeException", "java/lang/Exception"]).filter goodWord ++ (vx_atS RX4 228 "java/lang/IllegalArgumentException" ["java/lang/RuntimeException", "java/lang/Exception"]).filter goodWord ++ (vx_atS RX4 233 "java/lang/IllegalStateException" ["java/lang/RuntimeException", "java/lang/Exception"]).filter goodWord)
def wsX4_holdingAt_r1 : List Cond := [Cond.fieldLink RX4 55 "SavingsHall$Client" "holdings" "Ljava/util/ArrayList;", Cond.classLink RX4 58 "SavingsHall$Holding", Cond.methodLink RX4 67 yX4_clientAt, Cond.instanceMethod yX4_clientAt, Cond.selects RX4 yX4_clientAt yX4_clientAt, Cond.initialized RX4, Cond.code yX4_clientAt cX4_clientAt 2 (some (.object "SavingsHall$Client")), Cond.fieldLink RX4 16 "SavingsHall" "clients" "Ljava/util/ArrayList;", Cond.classLink RX4 52 "SavingsHall$Client", Cond.methodLink RX4 44 yJx4a65c_size_8abf5, Cond.instanceMethod yJx4a65c_size_8abf5, Cond.selects RJx4a65c yJx4a65c_size_8abf5 yJx4a65c_size_8abf5, Cond.initialized RJx4a65c, Cond.code yJx4a65c_size_8abf5 cJx4a65c_size_8abf5 1 (some .int), Cond.fieldLink RJx4a65c 48 "java/util/ArrayList" "size" "I", Cond.methodLink RX4 192 yX4_checkExists, Cond.static yX4_checkExists, Cond.code yX4_checkExists cX4_checkExists 1 none, Cond.classLink RX4 217 "java/lang/IndexOutOfBoundsException", Cond.initialized "java/lang/IndexOutOfBoundsException", Cond.methodLink RX4 60 yJx4a65c_get_915e3, Cond.instanceMethod yJx4a65c_get_915e3, Cond.selects RJx4a65c yJx4a65c_get_915e3 yJx4a65c_get_915e3, Cond.code yJx4a65c_get_915e3 cJx4a65c_get_915e3 2 (some (.object "java/lang/Object"))]
def wsX4_holdingAt_r2 : List Cond := [Cond.methodLink RJx4a65c 118 yJ15_checkIndex_7cf53, Cond.static yJ15_checkIndex_7cf53, Cond.initialized RJ15, Cond.code yJ15_checkIndex_7cf53 cJ15_checkIndex_7cf53 2 (some .int), Cond.methodLink RJ15 105 yJ3_checkIndex_8e157, Cond.static yJ3_checkIndex_8e157, Cond.initialized RJ3, Cond.code yJ3_checkIndex_8e157 cJ3_checkIndex_8e157 3 (some .int), Cond.methodLink RJx4a65c 123 yJx4a65c_elementData_915e3, Cond.instanceMethod yJx4a65c_elementData_915e3, Cond.selects RJx4a65c yJx4a65c_elementData_915e3 yJx4a65c_elementData_915e3, Cond.code yJx4a65c_elementData_915e3 cJx4a65c_elementData_915e3 2 (some (.object "java/lang/Object")), Cond.fieldLink RJx4a65c 9 "java/util/ArrayList" "elementData" "[Ljava/lang/Object;"]
def wsX4_holdingAt : List Cond := .code yX4_holdingAt cX4_holdingAt 4 (some (.object "SavingsHall$Holding")) :: ((wsX4_holdingAt_r1 ++ wsX4_holdingAt_r2) ++ wsX00 ++ wsX40 ++ wsJx4a65c0 ++ (vx_atS RX4 221 "java/lang/IndexOutOfBoundsException" ["java/lang/RuntimeException", "java/lang/Exception"]).filter goodWord)
def wsX4_hundredthsTogether_r1 : List Cond := [Cond.fieldLink RX4 55 "SavingsHall$Client" "holdings" "Ljava/util/ArrayList;", Cond.classLink RX4 58 "SavingsHall$Holding", Cond.fieldLink RX4 89 "SavingsHall$Holding" "hundredths" "I", Cond.methodLink RX4 44 yJx4a65c_size_8abf5, Cond.instanceMethod yJx4a65c_size_8abf5, Cond.selects RJx4a65c yJx4a65c_size_8abf5 yJx4a65c_size_8abf5, Cond.initialized RJx4a65c, Cond.code yJx4a65c_size_8abf5 cJx4a65c_size_8abf5 1 (some .int), Cond.fieldLink RJx4a65c 48 "java/util/ArrayList" "size" "I", Cond.methodLink RX4 60 yJx4a65c_get_915e3, Cond.instanceMethod yJx4a65c_get_915e3, Cond.selects RJx4a65c yJx4a65c_get_915e3 yJx4a65c_get_915e3, Cond.code yJx4a65c_get_915e3 cJx4a65c_get_915e3 2 (some (.object "java/lang/Object")), Cond.methodLink RJx4a65c 118 yJ15_checkIndex_7cf53, Cond.static yJ15_checkIndex_7cf53, Cond.initialized RJ15, Cond.code yJ15_checkIndex_7cf53 cJ15_checkIndex_7cf53 2 (some .int), Cond.methodLink RJ15 105 yJ3_checkIndex_8e157, Cond.static yJ3_checkIndex_8e157, Cond.initialized RJ3, Cond.code yJ3_checkIndex_8e157 cJ3_checkIndex_8e157 3 (some .int), Cond.methodLink RJx4a65c 123 yJx4a65c_elementData_915e3, Cond.instanceMethod yJx4a65c_elementData_915e3, Cond.selects RJx4a65c yJx4a65c_elementData_915e3 yJx4a65c_elementData_915e3]
def wsX4_hundredthsTogether_r2 : List Cond := [Cond.code yJx4a65c_elementData_915e3 cJx4a65c_elementData_915e3 2 (some (.object "java/lang/Object")), Cond.fieldLink RJx4a65c 9 "java/util/ArrayList" "elementData" "[Ljava/lang/Object;"]
def wsX4_hundredthsTogether : List Cond := .code yX4_hundredthsTogether cX4_hundredthsTogether 3 (some .int) :: ((wsX4_hundredthsTogether_r1 ++ wsX4_hundredthsTogether_r2) ++ wsX00 ++ wsX20 ++ wsJx4a65c0)
def wsX4_goal_r1 : List Cond := [Cond.fieldLink RX4 81 "SavingsHall$Holding" "client" "LSavingsHall$Client;", Cond.fieldLink RX4 89 "SavingsHall$Holding" "hundredths" "I", Cond.methodLink RX4 77 yX4_holdingAt, Cond.instanceMethod yX4_holdingAt, Cond.selects RX4 yX4_holdingAt yX4_holdingAt, Cond.initialized RX4, Cond.code yX4_holdingAt cX4_holdingAt 4 (some (.object "SavingsHall$Holding")), Cond.fieldLink RX4 55 "SavingsHall$Client" "holdings" "Ljava/util/ArrayList;", Cond.classLink RX4 58 "SavingsHall$Holding", Cond.methodLink RX4 67 yX4_clientAt, Cond.instanceMethod yX4_clientAt, Cond.selects RX4 yX4_clientAt yX4_clientAt, Cond.code yX4_clientAt cX4_clientAt 2 (some (.object "SavingsHall$Client")), Cond.fieldLink RX4 16 "SavingsHall" "clients" "Ljava/util/ArrayList;", Cond.classLink RX4 52 "SavingsHall$Client", Cond.methodLink RX4 44 yJx4a65c_size_8abf5, Cond.instanceMethod yJx4a65c_size_8abf5, Cond.selects RJx4a65c yJx4a65c_size_8abf5 yJx4a65c_size_8abf5, Cond.initialized RJx4a65c, Cond.code yJx4a65c_size_8abf5 cJx4a65c_size_8abf5 1 (some .int), Cond.fieldLink RJx4a65c 48 "java/util/ArrayList" "size" "I", Cond.methodLink RX4 192 yX4_checkExists, Cond.static yX4_checkExists, Cond.code yX4_checkExists cX4_checkExists 1 none]
def wsX4_goal_r2 : List Cond := [Cond.classLink RX4 217 "java/lang/IndexOutOfBoundsException", Cond.initialized "java/lang/IndexOutOfBoundsException", Cond.methodLink RX4 60 yJx4a65c_get_915e3, Cond.instanceMethod yJx4a65c_get_915e3, Cond.selects RJx4a65c yJx4a65c_get_915e3 yJx4a65c_get_915e3, Cond.code yJx4a65c_get_915e3 cJx4a65c_get_915e3 2 (some (.object "java/lang/Object")), Cond.methodLink RJx4a65c 118 yJ15_checkIndex_7cf53, Cond.static yJ15_checkIndex_7cf53, Cond.initialized RJ15, Cond.code yJ15_checkIndex_7cf53 cJ15_checkIndex_7cf53 2 (some .int), Cond.methodLink RJ15 105 yJ3_checkIndex_8e157, Cond.static yJ3_checkIndex_8e157, Cond.initialized RJ3, Cond.code yJ3_checkIndex_8e157 cJ3_checkIndex_8e157 3 (some .int), Cond.methodLink RJx4a65c 123 yJx4a65c_elementData_915e3, Cond.instanceMethod yJx4a65c_elementData_915e3, Cond.selects RJx4a65c yJx4a65c_elementData_915e3 yJx4a65c_elementData_915e3, Cond.code yJx4a65c_elementData_915e3 cJx4a65c_elementData_915e3 2 (some (.object "java/lang/Object")), Cond.fieldLink RJx4a65c 9 "java/util/ArrayList" "elementData" "[Ljava/lang/Object;", Cond.methodLink RX4 36 yX4_checkRange, Cond.static yX4_checkRange, Cond.code yX4_checkRange cX4_checkRange 3 none, Cond.classLink RX4 224 "java/lang/IllegalArgumentException", Cond.initialized "java/lang/IllegalArgumentException"]
def wsX4_goal_r3 : List Cond := [Cond.methodLink RX4 85 yX4_hundredthsTogether, Cond.static yX4_hundredthsTogether, Cond.code yX4_hundredthsTogether cX4_hundredthsTogether 3 (some .int), Cond.methodLink RX4 48 yX4_checkPossible, Cond.static yX4_checkPossible, Cond.code yX4_checkPossible cX4_checkPossible 1 none, Cond.classLink RX4 229 "java/lang/IllegalStateException", Cond.initialized "java/lang/IllegalStateException"]
def wsX4_goal : List Cond := .code yX4_goal cX4_goal 6 (some .int) :: ((wsX4_goal_r1 ++ (wsX4_goal_r2 ++ wsX4_goal_r3)) ++ wsX20 ++ wsX00 ++ wsX40 ++ wsJx4a65c0 ++ (vx_atS RX4 221 "java/lang/IndexOutOfBoundsException" ["java/lang/RuntimeException", "java/lang/Exception"]).filter goodWord ++ (vx_atS RX4 228 "java/lang/IllegalArgumentException" ["java/lang/RuntimeException", "java/lang/Exception"]).filter goodWord ++ (vx_atS RX4 233 "java/lang/IllegalStateException" ["java/lang/RuntimeException", "java/lang/Exception"]).filter goodWord)
def wsX4_cutQuotient : List Cond := .code yX4_cutQuotient cX4_cutQuotient 4 (some .long) :: ([])
def wsX4_partsFor : List Cond := .code yX4_partsFor cX4_partsFor 3 (some .long) :: ([.constantLong RX4 234 (1000), .fieldLink RX4 40 "SavingsHall$Fund" "price" "I", .methodLink RX4 236 yX4_cutQuotient, .static yX4_cutQuotient, .initialized RX4, .code yX4_cutQuotient cX4_cutQuotient 4 (some .long)] ++ wsX10)
def wsX4_costsOf : List Cond := .code yX4_costsOf cX4_costsOf 3 (some .long) :: ([.constantLong RX4 240 (10000), .constantLong RX4 242 (100000)])
def wsX4_tradeUnits : List Cond := .code yX4_tradeUnits cX4_tradeUnits 4 none :: ([.fieldLink RX4 176 "SavingsHall$Fund" "units" "J", .fieldLink RX4 173 "SavingsHall$Fund" "stock" "J", .constantLong RX4 234 (1000), .fieldLink RX4 170 "SavingsHall" "houseMoney" "J", .fieldLink RX4 40 "SavingsHall$Fund" "price" "I"] ++ wsX10 ++ wsX40)
def wsX4_exchange : List Cond := .code yX4_exchange cX4_exchange 7 none :: ([.fieldLink RX4 92 "SavingsHall$Holding" "fund" "LSavingsHall$Fund;", .fieldLink RX4 81 "SavingsHall$Holding" "client" "LSavingsHall$Client;", .fieldLink RX4 73 "SavingsHall$Client" "cash" "J", .fieldLink RX4 170 "SavingsHall" "houseMoney" "J", .fieldLink RX4 109 "SavingsHall$Holding" "parts" "J", .fieldLink RX4 173 "SavingsHall$Fund" "stock" "J", .constantLong RX4 266 (999), .constantLong RX4 234 (1000), .methodLink RX4 268 yX4_tradeUnits, .instanceMethod yX4_tradeUnits, .selects RX4 yX4_tradeUnits yX4_tradeUnits, .initialized RX4, .code yX4_tradeUnits cX4_tradeUnits 4 none, .fieldLink RX4 176 "SavingsHall$Fund" "units" "J", .fieldLink RX4 40 "SavingsHall$Fund" "price" "I"] ++ wsX20 ++ wsX00 ++ wsX40 ++ wsX10)
def wsX4_yearOf : List Cond := .code yX4_yearOf cX4_yearOf 1 (some .int) :: ([])
def wsX4_takeCostFromLots_r1 : List Cond := [Cond.fieldLink RX4 148 "SavingsHall$Trade" "parts" "J", Cond.fieldLink RX4 198 "SavingsHall$Trade" "number" "I", Cond.fieldLink RX4 19 "SavingsHall" "trades" "Ljava/util/ArrayList;", Cond.classLink RX4 135 "SavingsHall$Trade", Cond.fieldLink RX4 144 "SavingsHall$Trade" "holding" "LSavingsHall$Holding;", Cond.fieldLink RX4 195 "SavingsHall$Trade" "partsLeft" "J", Cond.methodLink RX4 254 Lib.MathLoose.min_long.x, Cond.static Lib.MathLoose.min_long.x, Cond.initialized "java/lang/Math", Cond.code Lib.MathLoose.min_long.x Lib.MathLoose.min_long.code 4 (some .long), Cond.fieldLink RX4 199 "SavingsHall$Trade" "costLeft" "J", Cond.methodLink RX4 44 yJx4a65c_size_8abf5, Cond.instanceMethod yJx4a65c_size_8abf5, Cond.selects RJx4a65c yJx4a65c_size_8abf5 yJx4a65c_size_8abf5, Cond.initialized RJx4a65c, Cond.code yJx4a65c_size_8abf5 cJx4a65c_size_8abf5 1 (some .int), Cond.fieldLink RJx4a65c 48 "java/util/ArrayList" "size" "I", Cond.methodLink RX4 60 yJx4a65c_get_915e3, Cond.instanceMethod yJx4a65c_get_915e3, Cond.selects RJx4a65c yJx4a65c_get_915e3 yJx4a65c_get_915e3, Cond.code yJx4a65c_get_915e3 cJx4a65c_get_915e3 2 (some (.object "java/lang/Object")), Cond.methodLink RJx4a65c 118 yJ15_checkIndex_7cf53, Cond.static yJ15_checkIndex_7cf53, Cond.initialized RJ15]
def wsX4_takeCostFromLots_r2 : List Cond := [Cond.code yJ15_checkIndex_7cf53 cJ15_checkIndex_7cf53 2 (some .int), Cond.methodLink RJ15 105 yJ3_checkIndex_8e157, Cond.static yJ3_checkIndex_8e157, Cond.initialized RJ3, Cond.code yJ3_checkIndex_8e157 cJ3_checkIndex_8e157 3 (some .int), Cond.methodLink RJx4a65c 123 yJx4a65c_elementData_915e3, Cond.instanceMethod yJx4a65c_elementData_915e3, Cond.selects RJx4a65c yJx4a65c_elementData_915e3 yJx4a65c_elementData_915e3, Cond.code yJx4a65c_elementData_915e3 cJx4a65c_elementData_915e3 2 (some (.object "java/lang/Object")), Cond.fieldLink RJx4a65c 9 "java/util/ArrayList" "elementData" "[Ljava/lang/Object;", Cond.methodLink RX4 236 yX4_cutQuotient, Cond.static yX4_cutQuotient, Cond.initialized RX4, Cond.code yX4_cutQuotient cX4_cutQuotient 4 (some .long)]
def wsX4_takeCostFromLots : List Cond := .code yX4_takeCostFromLots cX4_takeCostFromLots 12 (some .long) :: ((wsX4_takeCostFromLots_r1 ++ wsX4_takeCostFromLots_r2) ++ wsX30 ++ wsX40 ++ wsJx4a65c0)
def wsX4_addGain : List Cond := .code yX4_addGain cX4_addGain 4 none :: ([.fieldLink RX4 204 "SavingsHall$Client" "gains" "[J"] ++ wsX00)
def wsX4_enterIntoLots_r1 : List Cond := [Cond.fieldLink RX4 144 "SavingsHall$Trade" "holding" "LSavingsHall$Holding;", Cond.fieldLink RX4 81 "SavingsHall$Holding" "client" "LSavingsHall$Client;", Cond.fieldLink RX4 189 "SavingsHall$Trade" "day" "I", Cond.fieldLink RX4 148 "SavingsHall$Trade" "parts" "J", Cond.fieldLink RX4 195 "SavingsHall$Trade" "partsLeft" "J", Cond.fieldLink RX4 199 "SavingsHall$Trade" "costLeft" "J", Cond.methodLink RX4 272 yX3_isSale, Cond.instanceMethod yX3_isSale, Cond.selects RX3 yX3_isSale yX3_isSale, Cond.initialized RX3, Cond.code yX3_isSale cX3_isSale 1 (some .boolean), Cond.fieldLink RX3 20 "SavingsHall$Trade" "parts" "J", Cond.methodLink RX4 276 yX4_yearOf, Cond.static yX4_yearOf, Cond.initialized RX4, Cond.code yX4_yearOf cX4_yearOf 1 (some .int), Cond.methodLink RX4 149 yX3_paid, Cond.instanceMethod yX3_paid, Cond.selects RX3 yX3_paid yX3_paid, Cond.code yX3_paid cX3_paid 1 (some .long), Cond.fieldLink RX3 27 "SavingsHall$Trade" "costs" "J", Cond.fieldLink RX3 24 "SavingsHall$Trade" "amount" "J", Cond.methodLink RX3 34 yX3_isSale, Cond.methodLink RX4 280 yX4_takeCostFromLots]
def wsX4_enterIntoLots_r2 : List Cond := [Cond.instanceMethod yX4_takeCostFromLots, Cond.selects RX4 yX4_takeCostFromLots yX4_takeCostFromLots, Cond.code yX4_takeCostFromLots cX4_takeCostFromLots 12 (some .long), Cond.fieldLink RX4 198 "SavingsHall$Trade" "number" "I", Cond.fieldLink RX4 19 "SavingsHall" "trades" "Ljava/util/ArrayList;", Cond.classLink RX4 135 "SavingsHall$Trade", Cond.methodLink RX4 254 Lib.MathLoose.min_long.x, Cond.static Lib.MathLoose.min_long.x, Cond.initialized "java/lang/Math", Cond.code Lib.MathLoose.min_long.x Lib.MathLoose.min_long.code 4 (some .long), Cond.methodLink RX4 44 yJx4a65c_size_8abf5, Cond.instanceMethod yJx4a65c_size_8abf5, Cond.selects RJx4a65c yJx4a65c_size_8abf5 yJx4a65c_size_8abf5, Cond.initialized RJx4a65c, Cond.code yJx4a65c_size_8abf5 cJx4a65c_size_8abf5 1 (some .int), Cond.fieldLink RJx4a65c 48 "java/util/ArrayList" "size" "I", Cond.methodLink RX4 60 yJx4a65c_get_915e3, Cond.instanceMethod yJx4a65c_get_915e3, Cond.selects RJx4a65c yJx4a65c_get_915e3 yJx4a65c_get_915e3, Cond.code yJx4a65c_get_915e3 cJx4a65c_get_915e3 2 (some (.object "java/lang/Object")), Cond.methodLink RJx4a65c 118 yJ15_checkIndex_7cf53, Cond.static yJ15_checkIndex_7cf53, Cond.initialized RJ15, Cond.code yJ15_checkIndex_7cf53 cJ15_checkIndex_7cf53 2 (some .int)]
def wsX4_enterIntoLots_r3 : List Cond := [Cond.methodLink RJ15 105 yJ3_checkIndex_8e157, Cond.static yJ3_checkIndex_8e157, Cond.initialized RJ3, Cond.code yJ3_checkIndex_8e157 cJ3_checkIndex_8e157 3 (some .int), Cond.methodLink RJx4a65c 123 yJx4a65c_elementData_915e3, Cond.instanceMethod yJx4a65c_elementData_915e3, Cond.selects RJx4a65c yJx4a65c_elementData_915e3 yJx4a65c_elementData_915e3, Cond.code yJx4a65c_elementData_915e3 cJx4a65c_elementData_915e3 2 (some (.object "java/lang/Object")), Cond.fieldLink RJx4a65c 9 "java/util/ArrayList" "elementData" "[Ljava/lang/Object;", Cond.methodLink RX4 236 yX4_cutQuotient, Cond.static yX4_cutQuotient, Cond.code yX4_cutQuotient cX4_cutQuotient 4 (some .long), Cond.methodLink RX4 284 yX4_addGain, Cond.static yX4_addGain, Cond.code yX4_addGain cX4_addGain 4 none, Cond.fieldLink RX4 204 "SavingsHall$Client" "gains" "[J"]
def wsX4_enterIntoLots : List Cond := .code yX4_enterIntoLots cX4_enterIntoLots 2 none :: ((wsX4_enterIntoLots_r1 ++ (wsX4_enterIntoLots_r2 ++ wsX4_enterIntoLots_r3)) ++ wsX30 ++ wsX20 ++ wsX40 ++ wsJx4a65c0 ++ wsX00)
def wsX4_makeTrade_r1 : List Cond := [Cond.classLink RX4 135 RX3, Cond.instantiable RX3 9, Cond.initialized RX3, Cond.fieldLink RX4 19 "SavingsHall" "trades" "Ljava/util/ArrayList;", Cond.fieldLink RX4 164 "SavingsHall" "today" "I", Cond.fieldLink RX4 198 "SavingsHall$Trade" "number" "I", Cond.methodLink RX4 44 yJx4a65c_size_8abf5, Cond.instanceMethod yJx4a65c_size_8abf5, Cond.selects RJx4a65c yJx4a65c_size_8abf5 yJx4a65c_size_8abf5, Cond.initialized RJx4a65c, Cond.code yJx4a65c_size_8abf5 cJx4a65c_size_8abf5 1 (some .int), Cond.fieldLink RJx4a65c 48 "java/util/ArrayList" "size" "I", Cond.methodLink RX4 100 yX4_costsOf, Cond.static yX4_costsOf, Cond.initialized RX4, Cond.code yX4_costsOf cX4_costsOf 3 (some .long), Cond.constantLong RX4 240 (10000), Cond.constantLong RX4 242 (100000), Cond.methodLink RX4 259 yX3_init, Cond.instanceMethod yX3_init, Cond.code yX3_init cX3_init 10 none, Cond.methodLink RX3 1 objectInit, Cond.instanceMethod objectInit, Cond.code objectInit ⟨#[0xb1]⟩ 1 none]
def wsX4_makeTrade_r2 : List Cond := [Cond.fieldLink RX3 7 "SavingsHall$Trade" "number" "I", Cond.fieldLink RX3 13 "SavingsHall$Trade" "holding" "LSavingsHall$Holding;", Cond.fieldLink RX3 17 "SavingsHall$Trade" "day" "I", Cond.fieldLink RX3 20 "SavingsHall$Trade" "parts" "J", Cond.fieldLink RX3 24 "SavingsHall$Trade" "amount" "J", Cond.fieldLink RX3 27 "SavingsHall$Trade" "costs" "J", Cond.fieldLink RX3 30 "SavingsHall$Trade" "stands" "Z", Cond.methodLink RX4 27 yJx4a65c_add_9ea2d, Cond.instanceMethod yJx4a65c_add_9ea2d, Cond.selects RJx4a65c yJx4a65c_add_9ea2d yJx4a65c_add_9ea2d, Cond.code yJx4a65c_add_9ea2d cJx4a65c_add_9ea2d 2 (some .boolean), Cond.fieldLink RJx4a65c 63 "java/util/ArrayList" "modCount" "I", Cond.sameField "java/util/ArrayList" "java/util/AbstractList" "modCount" "I", Cond.fieldLink RJx4a65c 9 "java/util/ArrayList" "elementData" "[Ljava/lang/Object;", Cond.methodLink RJx4a65c 131 yJx4a65c_add_72be8, Cond.instanceMethod yJx4a65c_add_72be8, Cond.selects RJx4a65c yJx4a65c_add_72be8 yJx4a65c_add_72be8, Cond.code yJx4a65c_add_72be8 cJx4a65c_add_72be8 4 none, Cond.methodLink RJx4a65c 129 yJx4a65c_grow_d5877, Cond.instanceMethod yJx4a65c_grow_d5877, Cond.selects RJx4a65c yJx4a65c_grow_d5877 yJx4a65c_grow_d5877, Cond.code yJx4a65c_grow_d5877 cJx4a65c_grow_d5877 1 (some (.array (.object "java/lang/Object"))), Cond.methodLink RJx4a65c 69 yJx4a65c_grow_92f84, Cond.instanceMethod yJx4a65c_grow_92f84]
def wsX4_makeTrade_r3 : List Cond := [Cond.selects RJx4a65c yJx4a65c_grow_92f84 yJx4a65c_grow_92f84, Cond.code yJx4a65c_grow_92f84 cJx4a65c_grow_92f84 4 (some (.array (.object "java/lang/Object"))), Cond.fieldLink RJx4a65c 39 "java/util/ArrayList" "DEFAULTCAPACITY_EMPTY_ELEMENTDATA" "[Ljava/lang/Object;", Cond.methodLink RJx4a65c 79 Lib.Math.max.name, Cond.static Lib.Math.max.name, Cond.initialized "java/lang/Math", Cond.code Lib.Math.max.name Lib.Math.max.code 2 (some .int), Cond.classLink RJx4a65c 7 "java/lang/Object", Cond.methodLink RJx4a65c 73 yJ8_newLength_cabcc, Cond.static yJ8_newLength_cabcc, Cond.initialized RJ8, Cond.code yJ8_newLength_cabcc cJ8_newLength_cabcc 4 (some .int), Cond.methodLink RJ8 194 Lib.Math.max.name, Cond.constant RJ8 200 (2147483639), Cond.methodLink RJ8 201 yJ8_hugeLength_7cf53, Cond.static yJ8_hugeLength_7cf53, Cond.code yJ8_hugeLength_7cf53 cJ8_hugeLength_7cf53 3 (some .int), Cond.methodLink RJx4a65c 66 yJ7_copyOf_1904c, Cond.static yJ7_copyOf_1904c, Cond.initialized RJ7, Cond.code yJ7_copyOf_1904c cJ7_copyOf_1904c 2 (some (.array (.object "java/lang/Object"))), Cond.methodLink RJ7 86 ⟨"java/lang/Object", "getClass", "()Ljava/lang/Class;"⟩, Cond.selects "[Ljava/lang/Object;" ⟨"java/lang/Object", "getClass", "()Ljava/lang/Class;"⟩ ⟨"java/lang/Object", "getClass", "()Ljava/lang/Class;"⟩, Cond.instanceMethod ⟨"java/lang/Object", "getClass", "()Ljava/lang/Class;"⟩]
def wsX4_makeTrade_r4 : List Cond := [Cond.native ⟨"java/lang/Object", "getClass", "()Ljava/lang/Class;"⟩, Cond.methodLink RJ7 300 yJ7_copyOf_6403c, Cond.static yJ7_copyOf_6403c, Cond.code yJ7_copyOf_6403c cJ7_copyOf_6403c 4 (some (.array (.object "java/lang/Object"))), Cond.classLink RJ7 110 "[Ljava/lang/Object;", Cond.classLink RJ7 2 "java/lang/Object", Cond.methodLink RJ7 304 Lib.Math.min.name, Cond.static Lib.Math.min.name, Cond.code Lib.Math.min.name Lib.Math.min.code 2 (some .int), Cond.methodLink RJ7 150 arraycopyName, Cond.native arraycopyName, Cond.static arraycopyName, Cond.initialized "java/lang/System", Cond.methodLink RX4 149 yX3_paid, Cond.instanceMethod yX3_paid, Cond.selects RX3 yX3_paid yX3_paid, Cond.code yX3_paid cX3_paid 1 (some .long), Cond.methodLink RX3 34 yX3_isSale, Cond.instanceMethod yX3_isSale, Cond.selects RX3 yX3_isSale yX3_isSale, Cond.code yX3_isSale cX3_isSale 1 (some .boolean), Cond.methodLink RX4 153 yX4_exchange, Cond.instanceMethod yX4_exchange, Cond.selects RX4 yX4_exchange yX4_exchange]
def wsX4_makeTrade_r5 : List Cond := [Cond.code yX4_exchange cX4_exchange 7 none, Cond.fieldLink RX4 92 "SavingsHall$Holding" "fund" "LSavingsHall$Fund;", Cond.fieldLink RX4 81 "SavingsHall$Holding" "client" "LSavingsHall$Client;", Cond.fieldLink RX4 73 "SavingsHall$Client" "cash" "J", Cond.fieldLink RX4 170 "SavingsHall" "houseMoney" "J", Cond.fieldLink RX4 109 "SavingsHall$Holding" "parts" "J", Cond.fieldLink RX4 173 "SavingsHall$Fund" "stock" "J", Cond.constantLong RX4 266 (999), Cond.constantLong RX4 234 (1000), Cond.methodLink RX4 268 yX4_tradeUnits, Cond.instanceMethod yX4_tradeUnits, Cond.selects RX4 yX4_tradeUnits yX4_tradeUnits, Cond.code yX4_tradeUnits cX4_tradeUnits 4 none, Cond.fieldLink RX4 176 "SavingsHall$Fund" "units" "J", Cond.fieldLink RX4 40 "SavingsHall$Fund" "price" "I", Cond.methodLink RX4 262 yX4_enterIntoLots, Cond.instanceMethod yX4_enterIntoLots, Cond.selects RX4 yX4_enterIntoLots yX4_enterIntoLots, Cond.code yX4_enterIntoLots cX4_enterIntoLots 2 none, Cond.fieldLink RX4 144 "SavingsHall$Trade" "holding" "LSavingsHall$Holding;", Cond.fieldLink RX4 189 "SavingsHall$Trade" "day" "I", Cond.fieldLink RX4 148 "SavingsHall$Trade" "parts" "J", Cond.fieldLink RX4 195 "SavingsHall$Trade" "partsLeft" "J", Cond.fieldLink RX4 199 "SavingsHall$Trade" "costLeft" "J"]
def wsX4_makeTrade_r6 : List Cond := [Cond.methodLink RX4 272 yX3_isSale, Cond.methodLink RX4 276 yX4_yearOf, Cond.static yX4_yearOf, Cond.code yX4_yearOf cX4_yearOf 1 (some .int), Cond.methodLink RX4 280 yX4_takeCostFromLots, Cond.instanceMethod yX4_takeCostFromLots, Cond.selects RX4 yX4_takeCostFromLots yX4_takeCostFromLots, Cond.code yX4_takeCostFromLots cX4_takeCostFromLots 12 (some .long), Cond.classLink RX4 135 "SavingsHall$Trade", Cond.methodLink RX4 254 Lib.MathLoose.min_long.x, Cond.static Lib.MathLoose.min_long.x, Cond.code Lib.MathLoose.min_long.x Lib.MathLoose.min_long.code 4 (some .long), Cond.methodLink RX4 60 yJx4a65c_get_915e3, Cond.instanceMethod yJx4a65c_get_915e3, Cond.selects RJx4a65c yJx4a65c_get_915e3 yJx4a65c_get_915e3, Cond.code yJx4a65c_get_915e3 cJx4a65c_get_915e3 2 (some (.object "java/lang/Object")), Cond.methodLink RJx4a65c 118 yJ15_checkIndex_7cf53, Cond.static yJ15_checkIndex_7cf53, Cond.initialized RJ15, Cond.code yJ15_checkIndex_7cf53 cJ15_checkIndex_7cf53 2 (some .int), Cond.methodLink RJ15 105 yJ3_checkIndex_8e157, Cond.static yJ3_checkIndex_8e157, Cond.initialized RJ3, Cond.code yJ3_checkIndex_8e157 cJ3_checkIndex_8e157 3 (some .int)]
def wsX4_makeTrade_r7 : List Cond := [Cond.methodLink RJx4a65c 123 yJx4a65c_elementData_915e3, Cond.instanceMethod yJx4a65c_elementData_915e3, Cond.selects RJx4a65c yJx4a65c_elementData_915e3 yJx4a65c_elementData_915e3, Cond.code yJx4a65c_elementData_915e3 cJx4a65c_elementData_915e3 2 (some (.object "java/lang/Object")), Cond.methodLink RX4 236 yX4_cutQuotient, Cond.static yX4_cutQuotient, Cond.code yX4_cutQuotient cX4_cutQuotient 4 (some .long), Cond.methodLink RX4 284 yX4_addGain, Cond.static yX4_addGain, Cond.code yX4_addGain cX4_addGain 4 none, Cond.fieldLink RX4 204 "SavingsHall$Client" "gains" "[J"]
def wsX4_makeTrade : List Cond := .code yX4_makeTrade cX4_makeTrade 7 (some .int) :: ((wsX4_makeTrade_r1 ++ (wsX4_makeTrade_r2 ++ (wsX4_makeTrade_r3 ++ (wsX4_makeTrade_r4 ++ (wsX4_makeTrade_r5 ++ (wsX4_makeTrade_r6 ++ wsX4_makeTrade_r7)))))) ++ wsX30 ++ wsX40 ++ wsJx4a65c0 ++ wsX20 ++ wsX00 ++ wsX10)
def wsX4_buy_r1 : List Cond := [Cond.constant RX4 72 (10000000), Cond.fieldLink RX4 19 "SavingsHall" "trades" "Ljava/util/ArrayList;", Cond.fieldLink RX4 92 "SavingsHall$Holding" "fund" "LSavingsHall$Fund;", Cond.fieldLink RX4 81 "SavingsHall$Holding" "client" "LSavingsHall$Client;", Cond.fieldLink RX4 73 "SavingsHall$Client" "cash" "J", Cond.methodLink RX4 77 yX4_holdingAt, Cond.instanceMethod yX4_holdingAt, Cond.selects RX4 yX4_holdingAt yX4_holdingAt, Cond.initialized RX4, Cond.code yX4_holdingAt cX4_holdingAt 4 (some (.object "SavingsHall$Holding")), Cond.fieldLink RX4 55 "SavingsHall$Client" "holdings" "Ljava/util/ArrayList;", Cond.classLink RX4 58 "SavingsHall$Holding", Cond.methodLink RX4 67 yX4_clientAt, Cond.instanceMethod yX4_clientAt, Cond.selects RX4 yX4_clientAt yX4_clientAt, Cond.code yX4_clientAt cX4_clientAt 2 (some (.object "SavingsHall$Client")), Cond.fieldLink RX4 16 "SavingsHall" "clients" "Ljava/util/ArrayList;", Cond.classLink RX4 52 "SavingsHall$Client", Cond.methodLink RX4 44 yJx4a65c_size_8abf5, Cond.instanceMethod yJx4a65c_size_8abf5, Cond.selects RJx4a65c yJx4a65c_size_8abf5 yJx4a65c_size_8abf5, Cond.initialized RJx4a65c, Cond.code yJx4a65c_size_8abf5 cJx4a65c_size_8abf5 1 (some .int), Cond.fieldLink RJx4a65c 48 "java/util/ArrayList" "size" "I"]
def wsX4_buy_r2 : List Cond := [Cond.methodLink RX4 192 yX4_checkExists, Cond.static yX4_checkExists, Cond.code yX4_checkExists cX4_checkExists 1 none, Cond.classLink RX4 217 "java/lang/IndexOutOfBoundsException", Cond.initialized "java/lang/IndexOutOfBoundsException", Cond.methodLink RX4 60 yJx4a65c_get_915e3, Cond.instanceMethod yJx4a65c_get_915e3, Cond.selects RJx4a65c yJx4a65c_get_915e3 yJx4a65c_get_915e3, Cond.code yJx4a65c_get_915e3 cJx4a65c_get_915e3 2 (some (.object "java/lang/Object")), Cond.methodLink RJx4a65c 118 yJ15_checkIndex_7cf53, Cond.static yJ15_checkIndex_7cf53, Cond.initialized RJ15, Cond.code yJ15_checkIndex_7cf53 cJ15_checkIndex_7cf53 2 (some .int), Cond.methodLink RJ15 105 yJ3_checkIndex_8e157, Cond.static yJ3_checkIndex_8e157, Cond.initialized RJ3, Cond.code yJ3_checkIndex_8e157 cJ3_checkIndex_8e157 3 (some .int), Cond.methodLink RJx4a65c 123 yJx4a65c_elementData_915e3, Cond.instanceMethod yJx4a65c_elementData_915e3, Cond.selects RJx4a65c yJx4a65c_elementData_915e3 yJx4a65c_elementData_915e3, Cond.code yJx4a65c_elementData_915e3 cJx4a65c_elementData_915e3 2 (some (.object "java/lang/Object")), Cond.fieldLink RJx4a65c 9 "java/util/ArrayList" "elementData" "[Ljava/lang/Object;", Cond.methodLink RX4 36 yX4_checkRange, Cond.static yX4_checkRange]
def wsX4_buy_r3 : List Cond := [Cond.code yX4_checkRange cX4_checkRange 3 none, Cond.classLink RX4 224 "java/lang/IllegalArgumentException", Cond.initialized "java/lang/IllegalArgumentException", Cond.methodLink RX4 48 yX4_checkPossible, Cond.static yX4_checkPossible, Cond.code yX4_checkPossible cX4_checkPossible 1 none, Cond.classLink RX4 229 "java/lang/IllegalStateException", Cond.initialized "java/lang/IllegalStateException", Cond.methodLink RX4 96 yX4_partsFor, Cond.static yX4_partsFor, Cond.code yX4_partsFor cX4_partsFor 3 (some .long), Cond.constantLong RX4 234 (1000), Cond.fieldLink RX4 40 "SavingsHall$Fund" "price" "I", Cond.methodLink RX4 236 yX4_cutQuotient, Cond.static yX4_cutQuotient, Cond.code yX4_cutQuotient cX4_cutQuotient 4 (some .long), Cond.methodLink RX4 100 yX4_costsOf, Cond.static yX4_costsOf, Cond.code yX4_costsOf cX4_costsOf 3 (some .long), Cond.constantLong RX4 240 (10000), Cond.constantLong RX4 242 (100000), Cond.methodLink RX4 104 yX4_makeTrade, Cond.instanceMethod yX4_makeTrade, Cond.selects RX4 yX4_makeTrade yX4_makeTrade]
def wsX4_buy_r4 : List Cond := [Cond.code yX4_makeTrade cX4_makeTrade 7 (some .int), Cond.classLink RX4 135 RX3, Cond.instantiable RX3 9, Cond.initialized RX3, Cond.fieldLink RX4 164 "SavingsHall" "today" "I", Cond.fieldLink RX4 198 "SavingsHall$Trade" "number" "I", Cond.methodLink RX4 259 yX3_init, Cond.instanceMethod yX3_init, Cond.code yX3_init cX3_init 10 none, Cond.methodLink RX3 1 objectInit, Cond.instanceMethod objectInit, Cond.code objectInit ⟨#[0xb1]⟩ 1 none, Cond.fieldLink RX3 7 "SavingsHall$Trade" "number" "I", Cond.fieldLink RX3 13 "SavingsHall$Trade" "holding" "LSavingsHall$Holding;", Cond.fieldLink RX3 17 "SavingsHall$Trade" "day" "I", Cond.fieldLink RX3 20 "SavingsHall$Trade" "parts" "J", Cond.fieldLink RX3 24 "SavingsHall$Trade" "amount" "J", Cond.fieldLink RX3 27 "SavingsHall$Trade" "costs" "J", Cond.fieldLink RX3 30 "SavingsHall$Trade" "stands" "Z", Cond.methodLink RX4 27 yJx4a65c_add_9ea2d, Cond.instanceMethod yJx4a65c_add_9ea2d, Cond.selects RJx4a65c yJx4a65c_add_9ea2d yJx4a65c_add_9ea2d, Cond.code yJx4a65c_add_9ea2d cJx4a65c_add_9ea2d 2 (some .boolean), Cond.fieldLink RJx4a65c 63 "java/util/ArrayList" "modCount" "I"]
def wsX4_buy_r5 : List Cond := [Cond.sameField "java/util/ArrayList" "java/util/AbstractList" "modCount" "I", Cond.methodLink RJx4a65c 131 yJx4a65c_add_72be8, Cond.instanceMethod yJx4a65c_add_72be8, Cond.selects RJx4a65c yJx4a65c_add_72be8 yJx4a65c_add_72be8, Cond.code yJx4a65c_add_72be8 cJx4a65c_add_72be8 4 none, Cond.methodLink RJx4a65c 129 yJx4a65c_grow_d5877, Cond.instanceMethod yJx4a65c_grow_d5877, Cond.selects RJx4a65c yJx4a65c_grow_d5877 yJx4a65c_grow_d5877, Cond.code yJx4a65c_grow_d5877 cJx4a65c_grow_d5877 1 (some (.array (.object "java/lang/Object"))), Cond.methodLink RJx4a65c 69 yJx4a65c_grow_92f84, Cond.instanceMethod yJx4a65c_grow_92f84, Cond.selects RJx4a65c yJx4a65c_grow_92f84 yJx4a65c_grow_92f84, Cond.code yJx4a65c_grow_92f84 cJx4a65c_grow_92f84 4 (some (.array (.object "java/lang/Object"))), Cond.fieldLink RJx4a65c 39 "java/util/ArrayList" "DEFAULTCAPACITY_EMPTY_ELEMENTDATA" "[Ljava/lang/Object;", Cond.methodLink RJx4a65c 79 Lib.Math.max.name, Cond.static Lib.Math.max.name, Cond.initialized "java/lang/Math", Cond.code Lib.Math.max.name Lib.Math.max.code 2 (some .int), Cond.classLink RJx4a65c 7 "java/lang/Object", Cond.methodLink RJx4a65c 73 yJ8_newLength_cabcc, Cond.static yJ8_newLength_cabcc, Cond.initialized RJ8, Cond.code yJ8_newLength_cabcc cJ8_newLength_cabcc 4 (some .int), Cond.methodLink RJ8 194 Lib.Math.max.name]
def wsX4_buy_r6 : List Cond := [Cond.constant RJ8 200 (2147483639), Cond.methodLink RJ8 201 yJ8_hugeLength_7cf53, Cond.static yJ8_hugeLength_7cf53, Cond.code yJ8_hugeLength_7cf53 cJ8_hugeLength_7cf53 3 (some .int), Cond.methodLink RJx4a65c 66 yJ7_copyOf_1904c, Cond.static yJ7_copyOf_1904c, Cond.initialized RJ7, Cond.code yJ7_copyOf_1904c cJ7_copyOf_1904c 2 (some (.array (.object "java/lang/Object"))), Cond.methodLink RJ7 86 ⟨"java/lang/Object", "getClass", "()Ljava/lang/Class;"⟩, Cond.selects "[Ljava/lang/Object;" ⟨"java/lang/Object", "getClass", "()Ljava/lang/Class;"⟩ ⟨"java/lang/Object", "getClass", "()Ljava/lang/Class;"⟩, Cond.instanceMethod ⟨"java/lang/Object", "getClass", "()Ljava/lang/Class;"⟩, Cond.native ⟨"java/lang/Object", "getClass", "()Ljava/lang/Class;"⟩, Cond.methodLink RJ7 300 yJ7_copyOf_6403c, Cond.static yJ7_copyOf_6403c, Cond.code yJ7_copyOf_6403c cJ7_copyOf_6403c 4 (some (.array (.object "java/lang/Object"))), Cond.classLink RJ7 110 "[Ljava/lang/Object;", Cond.classLink RJ7 2 "java/lang/Object", Cond.methodLink RJ7 304 Lib.Math.min.name, Cond.static Lib.Math.min.name, Cond.code Lib.Math.min.name Lib.Math.min.code 2 (some .int), Cond.methodLink RJ7 150 arraycopyName, Cond.native arraycopyName, Cond.static arraycopyName, Cond.initialized "java/lang/System"]
def wsX4_buy_r7 : List Cond := [Cond.methodLink RX4 149 yX3_paid, Cond.instanceMethod yX3_paid, Cond.selects RX3 yX3_paid yX3_paid, Cond.code yX3_paid cX3_paid 1 (some .long), Cond.methodLink RX3 34 yX3_isSale, Cond.instanceMethod yX3_isSale, Cond.selects RX3 yX3_isSale yX3_isSale, Cond.code yX3_isSale cX3_isSale 1 (some .boolean), Cond.methodLink RX4 153 yX4_exchange, Cond.instanceMethod yX4_exchange, Cond.selects RX4 yX4_exchange yX4_exchange, Cond.code yX4_exchange cX4_exchange 7 none, Cond.fieldLink RX4 170 "SavingsHall" "houseMoney" "J", Cond.fieldLink RX4 109 "SavingsHall$Holding" "parts" "J", Cond.fieldLink RX4 173 "SavingsHall$Fund" "stock" "J", Cond.constantLong RX4 266 (999), Cond.methodLink RX4 268 yX4_tradeUnits, Cond.instanceMethod yX4_tradeUnits, Cond.selects RX4 yX4_tradeUnits yX4_tradeUnits, Cond.code yX4_tradeUnits cX4_tradeUnits 4 none, Cond.fieldLink RX4 176 "SavingsHall$Fund" "units" "J", Cond.methodLink RX4 262 yX4_enterIntoLots, Cond.instanceMethod yX4_enterIntoLots, Cond.selects RX4 yX4_enterIntoLots yX4_enterIntoLots]
def wsX4_buy_r8 : List Cond := [Cond.code yX4_enterIntoLots cX4_enterIntoLots 2 none, Cond.fieldLink RX4 144 "SavingsHall$Trade" "holding" "LSavingsHall$Holding;", Cond.fieldLink RX4 189 "SavingsHall$Trade" "day" "I", Cond.fieldLink RX4 148 "SavingsHall$Trade" "parts" "J", Cond.fieldLink RX4 195 "SavingsHall$Trade" "partsLeft" "J", Cond.fieldLink RX4 199 "SavingsHall$Trade" "costLeft" "J", Cond.methodLink RX4 272 yX3_isSale, Cond.methodLink RX4 276 yX4_yearOf, Cond.static yX4_yearOf, Cond.code yX4_yearOf cX4_yearOf 1 (some .int), Cond.methodLink RX4 280 yX4_takeCostFromLots, Cond.instanceMethod yX4_takeCostFromLots, Cond.selects RX4 yX4_takeCostFromLots yX4_takeCostFromLots, Cond.code yX4_takeCostFromLots cX4_takeCostFromLots 12 (some .long), Cond.classLink RX4 135 "SavingsHall$Trade", Cond.methodLink RX4 254 Lib.MathLoose.min_long.x, Cond.static Lib.MathLoose.min_long.x, Cond.code Lib.MathLoose.min_long.x Lib.MathLoose.min_long.code 4 (some .long), Cond.methodLink RX4 284 yX4_addGain, Cond.static yX4_addGain, Cond.code yX4_addGain cX4_addGain 4 none, Cond.fieldLink RX4 204 "SavingsHall$Client" "gains" "[J"]
def wsX4_buy : List Cond := .code yX4_buy cX4_buy 7 (some .int) :: ((wsX4_buy_r1 ++ (wsX4_buy_r2 ++ (wsX4_buy_r3 ++ (wsX4_buy_r4 ++ (wsX4_buy_r5 ++ (wsX4_buy_r6 ++ (wsX4_buy_r7 ++ wsX4_buy_r8))))))) ++ wsX40 ++ wsX20 ++ wsX00 ++ wsJx4a65c0 ++ wsX10 ++ wsX30 ++ (vx_atS RX4 221 "java/lang/IndexOutOfBoundsException" ["java/lang/RuntimeException", "java/lang/Exception"]).filter goodWord ++ (vx_atS RX4 228 "java/lang/IllegalArgumentException" ["java/lang/RuntimeException", "java/lang/Exception"]).filter goodWord ++ (vx_atS RX4 233 "java/lang/IllegalStateException" ["java/lang/RuntimeException", "java/lang/Exception"]).filter goodWord)
def wsX4_amountFor : List Cond := .code yX4_amountFor cX4_amountFor 3 (some .long) :: ([.fieldLink RX4 40 "SavingsHall$Fund" "price" "I", .constantLong RX4 234 (1000)] ++ wsX10)
def wsX4_sell_r1 : List Cond := [Cond.constant RX4 108 (1000000000), Cond.fieldLink RX4 19 "SavingsHall" "trades" "Ljava/util/ArrayList;", Cond.fieldLink RX4 109 "SavingsHall$Holding" "parts" "J", Cond.fieldLink RX4 92 "SavingsHall$Holding" "fund" "LSavingsHall$Fund;", Cond.constantLong RX4 115 (1000000000), Cond.methodLink RX4 77 yX4_holdingAt, Cond.instanceMethod yX4_holdingAt, Cond.selects RX4 yX4_holdingAt yX4_holdingAt, Cond.initialized RX4, Cond.code yX4_holdingAt cX4_holdingAt 4 (some (.object "SavingsHall$Holding")), Cond.fieldLink RX4 55 "SavingsHall$Client" "holdings" "Ljava/util/ArrayList;", Cond.classLink RX4 58 "SavingsHall$Holding", Cond.methodLink RX4 67 yX4_clientAt, Cond.instanceMethod yX4_clientAt, Cond.selects RX4 yX4_clientAt yX4_clientAt, Cond.code yX4_clientAt cX4_clientAt 2 (some (.object "SavingsHall$Client")), Cond.fieldLink RX4 16 "SavingsHall" "clients" "Ljava/util/ArrayList;", Cond.classLink RX4 52 "SavingsHall$Client", Cond.methodLink RX4 44 yJx4a65c_size_8abf5, Cond.instanceMethod yJx4a65c_size_8abf5, Cond.selects RJx4a65c yJx4a65c_size_8abf5 yJx4a65c_size_8abf5, Cond.initialized RJx4a65c, Cond.code yJx4a65c_size_8abf5 cJx4a65c_size_8abf5 1 (some .int), Cond.fieldLink RJx4a65c 48 "java/util/ArrayList" "size" "I"]
def wsX4_sell_r2 : List Cond := [Cond.methodLink RX4 192 yX4_checkExists, Cond.static yX4_checkExists, Cond.code yX4_checkExists cX4_checkExists 1 none, Cond.classLink RX4 217 "java/lang/IndexOutOfBoundsException", Cond.initialized "java/lang/IndexOutOfBoundsException", Cond.methodLink RX4 60 yJx4a65c_get_915e3, Cond.instanceMethod yJx4a65c_get_915e3, Cond.selects RJx4a65c yJx4a65c_get_915e3 yJx4a65c_get_915e3, Cond.code yJx4a65c_get_915e3 cJx4a65c_get_915e3 2 (some (.object "java/lang/Object")), Cond.methodLink RJx4a65c 118 yJ15_checkIndex_7cf53, Cond.static yJ15_checkIndex_7cf53, Cond.initialized RJ15, Cond.code yJ15_checkIndex_7cf53 cJ15_checkIndex_7cf53 2 (some .int), Cond.methodLink RJ15 105 yJ3_checkIndex_8e157, Cond.static yJ3_checkIndex_8e157, Cond.initialized RJ3, Cond.code yJ3_checkIndex_8e157 cJ3_checkIndex_8e157 3 (some .int), Cond.methodLink RJx4a65c 123 yJx4a65c_elementData_915e3, Cond.instanceMethod yJx4a65c_elementData_915e3, Cond.selects RJx4a65c yJx4a65c_elementData_915e3 yJx4a65c_elementData_915e3, Cond.code yJx4a65c_elementData_915e3 cJx4a65c_elementData_915e3 2 (some (.object "java/lang/Object")), Cond.fieldLink RJx4a65c 9 "java/util/ArrayList" "elementData" "[Ljava/lang/Object;", Cond.methodLink RX4 36 yX4_checkRange, Cond.static yX4_checkRange]
def wsX4_sell_r3 : List Cond := [Cond.code yX4_checkRange cX4_checkRange 3 none, Cond.classLink RX4 224 "java/lang/IllegalArgumentException", Cond.initialized "java/lang/IllegalArgumentException", Cond.methodLink RX4 48 yX4_checkPossible, Cond.static yX4_checkPossible, Cond.code yX4_checkPossible cX4_checkPossible 1 none, Cond.classLink RX4 229 "java/lang/IllegalStateException", Cond.initialized "java/lang/IllegalStateException", Cond.methodLink RX4 112 yX4_amountFor, Cond.static yX4_amountFor, Cond.code yX4_amountFor cX4_amountFor 3 (some .long), Cond.fieldLink RX4 40 "SavingsHall$Fund" "price" "I", Cond.constantLong RX4 234 (1000), Cond.methodLink RX4 104 yX4_makeTrade, Cond.instanceMethod yX4_makeTrade, Cond.selects RX4 yX4_makeTrade yX4_makeTrade, Cond.code yX4_makeTrade cX4_makeTrade 7 (some .int), Cond.classLink RX4 135 RX3, Cond.instantiable RX3 9, Cond.initialized RX3, Cond.fieldLink RX4 164 "SavingsHall" "today" "I", Cond.fieldLink RX4 198 "SavingsHall$Trade" "number" "I", Cond.methodLink RX4 100 yX4_costsOf, Cond.static yX4_costsOf]
def wsX4_sell_r4 : List Cond := [Cond.code yX4_costsOf cX4_costsOf 3 (some .long), Cond.constantLong RX4 240 (10000), Cond.constantLong RX4 242 (100000), Cond.methodLink RX4 259 yX3_init, Cond.instanceMethod yX3_init, Cond.code yX3_init cX3_init 10 none, Cond.methodLink RX3 1 objectInit, Cond.instanceMethod objectInit, Cond.code objectInit ⟨#[0xb1]⟩ 1 none, Cond.fieldLink RX3 7 "SavingsHall$Trade" "number" "I", Cond.fieldLink RX3 13 "SavingsHall$Trade" "holding" "LSavingsHall$Holding;", Cond.fieldLink RX3 17 "SavingsHall$Trade" "day" "I", Cond.fieldLink RX3 20 "SavingsHall$Trade" "parts" "J", Cond.fieldLink RX3 24 "SavingsHall$Trade" "amount" "J", Cond.fieldLink RX3 27 "SavingsHall$Trade" "costs" "J", Cond.fieldLink RX3 30 "SavingsHall$Trade" "stands" "Z", Cond.methodLink RX4 27 yJx4a65c_add_9ea2d, Cond.instanceMethod yJx4a65c_add_9ea2d, Cond.selects RJx4a65c yJx4a65c_add_9ea2d yJx4a65c_add_9ea2d, Cond.code yJx4a65c_add_9ea2d cJx4a65c_add_9ea2d 2 (some .boolean), Cond.fieldLink RJx4a65c 63 "java/util/ArrayList" "modCount" "I", Cond.sameField "java/util/ArrayList" "java/util/AbstractList" "modCount" "I", Cond.methodLink RJx4a65c 131 yJx4a65c_add_72be8, Cond.instanceMethod yJx4a65c_add_72be8]
def wsX4_sell_r5 : List Cond := [Cond.selects RJx4a65c yJx4a65c_add_72be8 yJx4a65c_add_72be8, Cond.code yJx4a65c_add_72be8 cJx4a65c_add_72be8 4 none, Cond.methodLink RJx4a65c 129 yJx4a65c_grow_d5877, Cond.instanceMethod yJx4a65c_grow_d5877, Cond.selects RJx4a65c yJx4a65c_grow_d5877 yJx4a65c_grow_d5877, Cond.code yJx4a65c_grow_d5877 cJx4a65c_grow_d5877 1 (some (.array (.object "java/lang/Object"))), Cond.methodLink RJx4a65c 69 yJx4a65c_grow_92f84, Cond.instanceMethod yJx4a65c_grow_92f84, Cond.selects RJx4a65c yJx4a65c_grow_92f84 yJx4a65c_grow_92f84, Cond.code yJx4a65c_grow_92f84 cJx4a65c_grow_92f84 4 (some (.array (.object "java/lang/Object"))), Cond.fieldLink RJx4a65c 39 "java/util/ArrayList" "DEFAULTCAPACITY_EMPTY_ELEMENTDATA" "[Ljava/lang/Object;", Cond.methodLink RJx4a65c 79 Lib.Math.max.name, Cond.static Lib.Math.max.name, Cond.initialized "java/lang/Math", Cond.code Lib.Math.max.name Lib.Math.max.code 2 (some .int), Cond.classLink RJx4a65c 7 "java/lang/Object", Cond.methodLink RJx4a65c 73 yJ8_newLength_cabcc, Cond.static yJ8_newLength_cabcc, Cond.initialized RJ8, Cond.code yJ8_newLength_cabcc cJ8_newLength_cabcc 4 (some .int), Cond.methodLink RJ8 194 Lib.Math.max.name, Cond.constant RJ8 200 (2147483639), Cond.methodLink RJ8 201 yJ8_hugeLength_7cf53, Cond.static yJ8_hugeLength_7cf53]
def wsX4_sell_r6 : List Cond := [Cond.code yJ8_hugeLength_7cf53 cJ8_hugeLength_7cf53 3 (some .int), Cond.methodLink RJx4a65c 66 yJ7_copyOf_1904c, Cond.static yJ7_copyOf_1904c, Cond.initialized RJ7, Cond.code yJ7_copyOf_1904c cJ7_copyOf_1904c 2 (some (.array (.object "java/lang/Object"))), Cond.methodLink RJ7 86 ⟨"java/lang/Object", "getClass", "()Ljava/lang/Class;"⟩, Cond.selects "[Ljava/lang/Object;" ⟨"java/lang/Object", "getClass", "()Ljava/lang/Class;"⟩ ⟨"java/lang/Object", "getClass", "()Ljava/lang/Class;"⟩, Cond.instanceMethod ⟨"java/lang/Object", "getClass", "()Ljava/lang/Class;"⟩, Cond.native ⟨"java/lang/Object", "getClass", "()Ljava/lang/Class;"⟩, Cond.methodLink RJ7 300 yJ7_copyOf_6403c, Cond.static yJ7_copyOf_6403c, Cond.code yJ7_copyOf_6403c cJ7_copyOf_6403c 4 (some (.array (.object "java/lang/Object"))), Cond.classLink RJ7 110 "[Ljava/lang/Object;", Cond.classLink RJ7 2 "java/lang/Object", Cond.methodLink RJ7 304 Lib.Math.min.name, Cond.static Lib.Math.min.name, Cond.code Lib.Math.min.name Lib.Math.min.code 2 (some .int), Cond.methodLink RJ7 150 arraycopyName, Cond.native arraycopyName, Cond.static arraycopyName, Cond.initialized "java/lang/System", Cond.methodLink RX4 149 yX3_paid, Cond.instanceMethod yX3_paid, Cond.selects RX3 yX3_paid yX3_paid]
def wsX4_sell_r7 : List Cond := [Cond.code yX3_paid cX3_paid 1 (some .long), Cond.methodLink RX3 34 yX3_isSale, Cond.instanceMethod yX3_isSale, Cond.selects RX3 yX3_isSale yX3_isSale, Cond.code yX3_isSale cX3_isSale 1 (some .boolean), Cond.methodLink RX4 153 yX4_exchange, Cond.instanceMethod yX4_exchange, Cond.selects RX4 yX4_exchange yX4_exchange, Cond.code yX4_exchange cX4_exchange 7 none, Cond.fieldLink RX4 81 "SavingsHall$Holding" "client" "LSavingsHall$Client;", Cond.fieldLink RX4 73 "SavingsHall$Client" "cash" "J", Cond.fieldLink RX4 170 "SavingsHall" "houseMoney" "J", Cond.fieldLink RX4 173 "SavingsHall$Fund" "stock" "J", Cond.constantLong RX4 266 (999), Cond.methodLink RX4 268 yX4_tradeUnits, Cond.instanceMethod yX4_tradeUnits, Cond.selects RX4 yX4_tradeUnits yX4_tradeUnits, Cond.code yX4_tradeUnits cX4_tradeUnits 4 none, Cond.fieldLink RX4 176 "SavingsHall$Fund" "units" "J", Cond.methodLink RX4 262 yX4_enterIntoLots, Cond.instanceMethod yX4_enterIntoLots, Cond.selects RX4 yX4_enterIntoLots yX4_enterIntoLots, Cond.code yX4_enterIntoLots cX4_enterIntoLots 2 none, Cond.fieldLink RX4 144 "SavingsHall$Trade" "holding" "LSavingsHall$Holding;"]
def wsX4_sell_r8 : List Cond := [Cond.fieldLink RX4 189 "SavingsHall$Trade" "day" "I", Cond.fieldLink RX4 148 "SavingsHall$Trade" "parts" "J", Cond.fieldLink RX4 195 "SavingsHall$Trade" "partsLeft" "J", Cond.fieldLink RX4 199 "SavingsHall$Trade" "costLeft" "J", Cond.methodLink RX4 272 yX3_isSale, Cond.methodLink RX4 276 yX4_yearOf, Cond.static yX4_yearOf, Cond.code yX4_yearOf cX4_yearOf 1 (some .int), Cond.methodLink RX4 280 yX4_takeCostFromLots, Cond.instanceMethod yX4_takeCostFromLots, Cond.selects RX4 yX4_takeCostFromLots yX4_takeCostFromLots, Cond.code yX4_takeCostFromLots cX4_takeCostFromLots 12 (some .long), Cond.classLink RX4 135 "SavingsHall$Trade", Cond.methodLink RX4 254 Lib.MathLoose.min_long.x, Cond.static Lib.MathLoose.min_long.x, Cond.code Lib.MathLoose.min_long.x Lib.MathLoose.min_long.code 4 (some .long), Cond.methodLink RX4 236 yX4_cutQuotient, Cond.static yX4_cutQuotient, Cond.code yX4_cutQuotient cX4_cutQuotient 4 (some .long), Cond.methodLink RX4 284 yX4_addGain, Cond.static yX4_addGain, Cond.code yX4_addGain cX4_addGain 4 none, Cond.fieldLink RX4 204 "SavingsHall$Client" "gains" "[J"]
def wsX4_sell : List Cond := .code yX4_sell cX4_sell 7 (some .int) :: ((wsX4_sell_r1 ++ (wsX4_sell_r2 ++ (wsX4_sell_r3 ++ (wsX4_sell_r4 ++ (wsX4_sell_r5 ++ (wsX4_sell_r6 ++ (wsX4_sell_r7 ++ wsX4_sell_r8))))))) ++ wsX40 ++ wsX20 ++ wsX00 ++ wsJx4a65c0 ++ wsX10 ++ wsX30 ++ (vx_atS RX4 221 "java/lang/IndexOutOfBoundsException" ["java/lang/RuntimeException", "java/lang/Exception"]).filter goodWord ++ (vx_atS RX4 228 "java/lang/IllegalArgumentException" ["java/lang/RuntimeException", "java/lang/Exception"]).filter goodWord ++ (vx_atS RX4 233 "java/lang/IllegalStateException" ["java/lang/RuntimeException", "java/lang/Exception"]).filter goodWord)
def wsX4_worthOf : List Cond := .code yX4_worthOf cX4_worthOf 1 (some .long) :: ([.fieldLink RX4 109 "SavingsHall$Holding" "parts" "J", .fieldLink RX4 92 "SavingsHall$Holding" "fund" "LSavingsHall$Fund;", .methodLink RX4 112 yX4_amountFor, .static yX4_amountFor, .initialized RX4, .code yX4_amountFor cX4_amountFor 3 (some .long), .fieldLink RX4 40 "SavingsHall$Fund" "price" "I", .constantLong RX4 234 (1000)] ++ wsX20 ++ wsX10)
def wsX4_wealthOf_r1 : List Cond := [Cond.fieldLink RX4 73 "SavingsHall$Client" "cash" "J", Cond.fieldLink RX4 55 "SavingsHall$Client" "holdings" "Ljava/util/ArrayList;", Cond.classLink RX4 58 "SavingsHall$Holding", Cond.methodLink RX4 44 yJx4a65c_size_8abf5, Cond.instanceMethod yJx4a65c_size_8abf5, Cond.selects RJx4a65c yJx4a65c_size_8abf5 yJx4a65c_size_8abf5, Cond.initialized RJx4a65c, Cond.code yJx4a65c_size_8abf5 cJx4a65c_size_8abf5 1 (some .int), Cond.fieldLink RJx4a65c 48 "java/util/ArrayList" "size" "I", Cond.methodLink RX4 60 yJx4a65c_get_915e3, Cond.instanceMethod yJx4a65c_get_915e3, Cond.selects RJx4a65c yJx4a65c_get_915e3 yJx4a65c_get_915e3, Cond.code yJx4a65c_get_915e3 cJx4a65c_get_915e3 2 (some (.object "java/lang/Object")), Cond.methodLink RJx4a65c 118 yJ15_checkIndex_7cf53, Cond.static yJ15_checkIndex_7cf53, Cond.initialized RJ15, Cond.code yJ15_checkIndex_7cf53 cJ15_checkIndex_7cf53 2 (some .int), Cond.methodLink RJ15 105 yJ3_checkIndex_8e157, Cond.static yJ3_checkIndex_8e157, Cond.initialized RJ3, Cond.code yJ3_checkIndex_8e157 cJ3_checkIndex_8e157 3 (some .int), Cond.methodLink RJx4a65c 123 yJx4a65c_elementData_915e3, Cond.instanceMethod yJx4a65c_elementData_915e3, Cond.selects RJx4a65c yJx4a65c_elementData_915e3 yJx4a65c_elementData_915e3]
def wsX4_wealthOf_r2 : List Cond := [Cond.code yJx4a65c_elementData_915e3 cJx4a65c_elementData_915e3 2 (some (.object "java/lang/Object")), Cond.fieldLink RJx4a65c 9 "java/util/ArrayList" "elementData" "[Ljava/lang/Object;", Cond.methodLink RX4 244 yX4_worthOf, Cond.static yX4_worthOf, Cond.initialized RX4, Cond.code yX4_worthOf cX4_worthOf 1 (some .long), Cond.fieldLink RX4 109 "SavingsHall$Holding" "parts" "J", Cond.fieldLink RX4 92 "SavingsHall$Holding" "fund" "LSavingsHall$Fund;", Cond.methodLink RX4 112 yX4_amountFor, Cond.static yX4_amountFor, Cond.code yX4_amountFor cX4_amountFor 3 (some .long), Cond.fieldLink RX4 40 "SavingsHall$Fund" "price" "I", Cond.constantLong RX4 234 (1000)]
def wsX4_wealthOf : List Cond := .code yX4_wealthOf cX4_wealthOf 4 (some .long) :: ((wsX4_wealthOf_r1 ++ wsX4_wealthOf_r2) ++ wsX00 ++ wsJx4a65c0 ++ wsX20 ++ wsX10)
def wsX4_targetOf : List Cond := .code yX4_targetOf cX4_targetOf 3 (some .long) :: ([.fieldLink RX4 89 "SavingsHall$Holding" "hundredths" "I", .constantLong RX4 248 (100)] ++ wsX20)
def wsX4_sellTooMuch_r1 : List Cond := [Cond.fieldLink RX4 92 "SavingsHall$Holding" "fund" "LSavingsHall$Fund;", Cond.methodLink RX4 244 yX4_worthOf, Cond.static yX4_worthOf, Cond.initialized RX4, Cond.code yX4_worthOf cX4_worthOf 1 (some .long), Cond.fieldLink RX4 109 "SavingsHall$Holding" "parts" "J", Cond.methodLink RX4 112 yX4_amountFor, Cond.static yX4_amountFor, Cond.code yX4_amountFor cX4_amountFor 3 (some .long), Cond.fieldLink RX4 40 "SavingsHall$Fund" "price" "I", Cond.constantLong RX4 234 (1000), Cond.methodLink RX4 250 yX4_targetOf, Cond.static yX4_targetOf, Cond.code yX4_targetOf cX4_targetOf 3 (some .long), Cond.fieldLink RX4 89 "SavingsHall$Holding" "hundredths" "I", Cond.constantLong RX4 248 (100), Cond.methodLink RX4 96 yX4_partsFor, Cond.static yX4_partsFor, Cond.code yX4_partsFor cX4_partsFor 3 (some .long), Cond.methodLink RX4 236 yX4_cutQuotient, Cond.static yX4_cutQuotient, Cond.code yX4_cutQuotient cX4_cutQuotient 4 (some .long), Cond.methodLink RX4 104 yX4_makeTrade, Cond.instanceMethod yX4_makeTrade]
def wsX4_sellTooMuch_r2 : List Cond := [Cond.selects RX4 yX4_makeTrade yX4_makeTrade, Cond.code yX4_makeTrade cX4_makeTrade 7 (some .int), Cond.classLink RX4 135 RX3, Cond.instantiable RX3 9, Cond.initialized RX3, Cond.fieldLink RX4 19 "SavingsHall" "trades" "Ljava/util/ArrayList;", Cond.fieldLink RX4 164 "SavingsHall" "today" "I", Cond.fieldLink RX4 198 "SavingsHall$Trade" "number" "I", Cond.methodLink RX4 44 yJx4a65c_size_8abf5, Cond.instanceMethod yJx4a65c_size_8abf5, Cond.selects RJx4a65c yJx4a65c_size_8abf5 yJx4a65c_size_8abf5, Cond.initialized RJx4a65c, Cond.code yJx4a65c_size_8abf5 cJx4a65c_size_8abf5 1 (some .int), Cond.fieldLink RJx4a65c 48 "java/util/ArrayList" "size" "I", Cond.methodLink RX4 100 yX4_costsOf, Cond.static yX4_costsOf, Cond.code yX4_costsOf cX4_costsOf 3 (some .long), Cond.constantLong RX4 240 (10000), Cond.constantLong RX4 242 (100000), Cond.methodLink RX4 259 yX3_init, Cond.instanceMethod yX3_init, Cond.code yX3_init cX3_init 10 none, Cond.methodLink RX3 1 objectInit, Cond.instanceMethod objectInit]
def wsX4_sellTooMuch_r3 : List Cond := [Cond.code objectInit ⟨#[0xb1]⟩ 1 none, Cond.fieldLink RX3 7 "SavingsHall$Trade" "number" "I", Cond.fieldLink RX3 13 "SavingsHall$Trade" "holding" "LSavingsHall$Holding;", Cond.fieldLink RX3 17 "SavingsHall$Trade" "day" "I", Cond.fieldLink RX3 20 "SavingsHall$Trade" "parts" "J", Cond.fieldLink RX3 24 "SavingsHall$Trade" "amount" "J", Cond.fieldLink RX3 27 "SavingsHall$Trade" "costs" "J", Cond.fieldLink RX3 30 "SavingsHall$Trade" "stands" "Z", Cond.methodLink RX4 27 yJx4a65c_add_9ea2d, Cond.instanceMethod yJx4a65c_add_9ea2d, Cond.selects RJx4a65c yJx4a65c_add_9ea2d yJx4a65c_add_9ea2d, Cond.code yJx4a65c_add_9ea2d cJx4a65c_add_9ea2d 2 (some .boolean), Cond.fieldLink RJx4a65c 63 "java/util/ArrayList" "modCount" "I", Cond.sameField "java/util/ArrayList" "java/util/AbstractList" "modCount" "I", Cond.fieldLink RJx4a65c 9 "java/util/ArrayList" "elementData" "[Ljava/lang/Object;", Cond.methodLink RJx4a65c 131 yJx4a65c_add_72be8, Cond.instanceMethod yJx4a65c_add_72be8, Cond.selects RJx4a65c yJx4a65c_add_72be8 yJx4a65c_add_72be8, Cond.code yJx4a65c_add_72be8 cJx4a65c_add_72be8 4 none, Cond.methodLink RJx4a65c 129 yJx4a65c_grow_d5877, Cond.instanceMethod yJx4a65c_grow_d5877, Cond.selects RJx4a65c yJx4a65c_grow_d5877 yJx4a65c_grow_d5877, Cond.code yJx4a65c_grow_d5877 cJx4a65c_grow_d5877 1 (some (.array (.object "java/lang/Object"))), Cond.methodLink RJx4a65c 69 yJx4a65c_grow_92f84]
def wsX4_sellTooMuch_r4 : List Cond := [Cond.instanceMethod yJx4a65c_grow_92f84, Cond.selects RJx4a65c yJx4a65c_grow_92f84 yJx4a65c_grow_92f84, Cond.code yJx4a65c_grow_92f84 cJx4a65c_grow_92f84 4 (some (.array (.object "java/lang/Object"))), Cond.fieldLink RJx4a65c 39 "java/util/ArrayList" "DEFAULTCAPACITY_EMPTY_ELEMENTDATA" "[Ljava/lang/Object;", Cond.methodLink RJx4a65c 79 Lib.Math.max.name, Cond.static Lib.Math.max.name, Cond.initialized "java/lang/Math", Cond.code Lib.Math.max.name Lib.Math.max.code 2 (some .int), Cond.classLink RJx4a65c 7 "java/lang/Object", Cond.methodLink RJx4a65c 73 yJ8_newLength_cabcc, Cond.static yJ8_newLength_cabcc, Cond.initialized RJ8, Cond.code yJ8_newLength_cabcc cJ8_newLength_cabcc 4 (some .int), Cond.methodLink RJ8 194 Lib.Math.max.name, Cond.constant RJ8 200 (2147483639), Cond.methodLink RJ8 201 yJ8_hugeLength_7cf53, Cond.static yJ8_hugeLength_7cf53, Cond.code yJ8_hugeLength_7cf53 cJ8_hugeLength_7cf53 3 (some .int), Cond.methodLink RJx4a65c 66 yJ7_copyOf_1904c, Cond.static yJ7_copyOf_1904c, Cond.initialized RJ7, Cond.code yJ7_copyOf_1904c cJ7_copyOf_1904c 2 (some (.array (.object "java/lang/Object"))), Cond.methodLink RJ7 86 ⟨"java/lang/Object", "getClass", "()Ljava/lang/Class;"⟩, Cond.selects "[Ljava/lang/Object;" ⟨"java/lang/Object", "getClass", "()Ljava/lang/Class;"⟩ ⟨"java/lang/Object", "getClass", "()Ljava/lang/Class;"⟩]
def wsX4_sellTooMuch_r5 : List Cond := [Cond.instanceMethod ⟨"java/lang/Object", "getClass", "()Ljava/lang/Class;"⟩, Cond.native ⟨"java/lang/Object", "getClass", "()Ljava/lang/Class;"⟩, Cond.methodLink RJ7 300 yJ7_copyOf_6403c, Cond.static yJ7_copyOf_6403c, Cond.code yJ7_copyOf_6403c cJ7_copyOf_6403c 4 (some (.array (.object "java/lang/Object"))), Cond.classLink RJ7 110 "[Ljava/lang/Object;", Cond.classLink RJ7 2 "java/lang/Object", Cond.methodLink RJ7 304 Lib.Math.min.name, Cond.static Lib.Math.min.name, Cond.code Lib.Math.min.name Lib.Math.min.code 2 (some .int), Cond.methodLink RJ7 150 arraycopyName, Cond.native arraycopyName, Cond.static arraycopyName, Cond.initialized "java/lang/System", Cond.methodLink RX4 149 yX3_paid, Cond.instanceMethod yX3_paid, Cond.selects RX3 yX3_paid yX3_paid, Cond.code yX3_paid cX3_paid 1 (some .long), Cond.methodLink RX3 34 yX3_isSale, Cond.instanceMethod yX3_isSale, Cond.selects RX3 yX3_isSale yX3_isSale, Cond.code yX3_isSale cX3_isSale 1 (some .boolean), Cond.methodLink RX4 153 yX4_exchange, Cond.instanceMethod yX4_exchange]
def wsX4_sellTooMuch_r6 : List Cond := [Cond.selects RX4 yX4_exchange yX4_exchange, Cond.code yX4_exchange cX4_exchange 7 none, Cond.fieldLink RX4 81 "SavingsHall$Holding" "client" "LSavingsHall$Client;", Cond.fieldLink RX4 73 "SavingsHall$Client" "cash" "J", Cond.fieldLink RX4 170 "SavingsHall" "houseMoney" "J", Cond.fieldLink RX4 173 "SavingsHall$Fund" "stock" "J", Cond.constantLong RX4 266 (999), Cond.methodLink RX4 268 yX4_tradeUnits, Cond.instanceMethod yX4_tradeUnits, Cond.selects RX4 yX4_tradeUnits yX4_tradeUnits, Cond.code yX4_tradeUnits cX4_tradeUnits 4 none, Cond.fieldLink RX4 176 "SavingsHall$Fund" "units" "J", Cond.methodLink RX4 262 yX4_enterIntoLots, Cond.instanceMethod yX4_enterIntoLots, Cond.selects RX4 yX4_enterIntoLots yX4_enterIntoLots, Cond.code yX4_enterIntoLots cX4_enterIntoLots 2 none, Cond.fieldLink RX4 144 "SavingsHall$Trade" "holding" "LSavingsHall$Holding;", Cond.fieldLink RX4 189 "SavingsHall$Trade" "day" "I", Cond.fieldLink RX4 148 "SavingsHall$Trade" "parts" "J", Cond.fieldLink RX4 195 "SavingsHall$Trade" "partsLeft" "J", Cond.fieldLink RX4 199 "SavingsHall$Trade" "costLeft" "J", Cond.methodLink RX4 272 yX3_isSale, Cond.methodLink RX4 276 yX4_yearOf, Cond.static yX4_yearOf]
def wsX4_sellTooMuch_r7 : List Cond := [Cond.code yX4_yearOf cX4_yearOf 1 (some .int), Cond.methodLink RX4 280 yX4_takeCostFromLots, Cond.instanceMethod yX4_takeCostFromLots, Cond.selects RX4 yX4_takeCostFromLots yX4_takeCostFromLots, Cond.code yX4_takeCostFromLots cX4_takeCostFromLots 12 (some .long), Cond.classLink RX4 135 "SavingsHall$Trade", Cond.methodLink RX4 254 Lib.MathLoose.min_long.x, Cond.static Lib.MathLoose.min_long.x, Cond.code Lib.MathLoose.min_long.x Lib.MathLoose.min_long.code 4 (some .long), Cond.methodLink RX4 60 yJx4a65c_get_915e3, Cond.instanceMethod yJx4a65c_get_915e3, Cond.selects RJx4a65c yJx4a65c_get_915e3 yJx4a65c_get_915e3, Cond.code yJx4a65c_get_915e3 cJx4a65c_get_915e3 2 (some (.object "java/lang/Object")), Cond.methodLink RJx4a65c 118 yJ15_checkIndex_7cf53, Cond.static yJ15_checkIndex_7cf53, Cond.initialized RJ15, Cond.code yJ15_checkIndex_7cf53 cJ15_checkIndex_7cf53 2 (some .int), Cond.methodLink RJ15 105 yJ3_checkIndex_8e157, Cond.static yJ3_checkIndex_8e157, Cond.initialized RJ3, Cond.code yJ3_checkIndex_8e157 cJ3_checkIndex_8e157 3 (some .int), Cond.methodLink RJx4a65c 123 yJx4a65c_elementData_915e3, Cond.instanceMethod yJx4a65c_elementData_915e3, Cond.selects RJx4a65c yJx4a65c_elementData_915e3 yJx4a65c_elementData_915e3]
def wsX4_sellTooMuch_r8 : List Cond := [Cond.code yJx4a65c_elementData_915e3 cJx4a65c_elementData_915e3 2 (some (.object "java/lang/Object")), Cond.methodLink RX4 284 yX4_addGain, Cond.static yX4_addGain, Cond.code yX4_addGain cX4_addGain 4 none, Cond.fieldLink RX4 204 "SavingsHall$Client" "gains" "[J"]
def wsX4_sellTooMuch : List Cond := .code yX4_sellTooMuch cX4_sellTooMuch 10 none :: ((wsX4_sellTooMuch_r1 ++ (wsX4_sellTooMuch_r2 ++ (wsX4_sellTooMuch_r3 ++ (wsX4_sellTooMuch_r4 ++ (wsX4_sellTooMuch_r5 ++ (wsX4_sellTooMuch_r6 ++ (wsX4_sellTooMuch_r7 ++ wsX4_sellTooMuch_r8))))))) ++ wsX20 ++ wsX10 ++ wsX30 ++ wsX40 ++ wsJx4a65c0 ++ wsX00)
def wsX4_buyWhatLacks_r1 : List Cond := [Cond.fieldLink RX4 81 "SavingsHall$Holding" "client" "LSavingsHall$Client;", Cond.fieldLink RX4 73 "SavingsHall$Client" "cash" "J", Cond.constantLong RX4 248 (100), Cond.methodLink RX4 254 Lib.MathLoose.min_long.x, Cond.static Lib.MathLoose.min_long.x, Cond.initialized "java/lang/Math", Cond.code Lib.MathLoose.min_long.x Lib.MathLoose.min_long.code 4 (some .long), Cond.fieldLink RX4 92 "SavingsHall$Holding" "fund" "LSavingsHall$Fund;", Cond.methodLink RX4 250 yX4_targetOf, Cond.static yX4_targetOf, Cond.initialized RX4, Cond.code yX4_targetOf cX4_targetOf 3 (some .long), Cond.fieldLink RX4 89 "SavingsHall$Holding" "hundredths" "I", Cond.methodLink RX4 244 yX4_worthOf, Cond.static yX4_worthOf, Cond.code yX4_worthOf cX4_worthOf 1 (some .long), Cond.fieldLink RX4 109 "SavingsHall$Holding" "parts" "J", Cond.methodLink RX4 112 yX4_amountFor, Cond.static yX4_amountFor, Cond.code yX4_amountFor cX4_amountFor 3 (some .long), Cond.fieldLink RX4 40 "SavingsHall$Fund" "price" "I", Cond.constantLong RX4 234 (1000), Cond.methodLink RX4 96 yX4_partsFor, Cond.static yX4_partsFor]
def wsX4_buyWhatLacks_r2 : List Cond := [Cond.code yX4_partsFor cX4_partsFor 3 (some .long), Cond.methodLink RX4 236 yX4_cutQuotient, Cond.static yX4_cutQuotient, Cond.code yX4_cutQuotient cX4_cutQuotient 4 (some .long), Cond.methodLink RX4 104 yX4_makeTrade, Cond.instanceMethod yX4_makeTrade, Cond.selects RX4 yX4_makeTrade yX4_makeTrade, Cond.code yX4_makeTrade cX4_makeTrade 7 (some .int), Cond.classLink RX4 135 RX3, Cond.instantiable RX3 9, Cond.initialized RX3, Cond.fieldLink RX4 19 "SavingsHall" "trades" "Ljava/util/ArrayList;", Cond.fieldLink RX4 164 "SavingsHall" "today" "I", Cond.fieldLink RX4 198 "SavingsHall$Trade" "number" "I", Cond.methodLink RX4 44 yJx4a65c_size_8abf5, Cond.instanceMethod yJx4a65c_size_8abf5, Cond.selects RJx4a65c yJx4a65c_size_8abf5 yJx4a65c_size_8abf5, Cond.initialized RJx4a65c, Cond.code yJx4a65c_size_8abf5 cJx4a65c_size_8abf5 1 (some .int), Cond.fieldLink RJx4a65c 48 "java/util/ArrayList" "size" "I", Cond.methodLink RX4 100 yX4_costsOf, Cond.static yX4_costsOf, Cond.code yX4_costsOf cX4_costsOf 3 (some .long), Cond.constantLong RX4 240 (10000)]
def wsX4_buyWhatLacks_r3 : List Cond := [Cond.constantLong RX4 242 (100000), Cond.methodLink RX4 259 yX3_init, Cond.instanceMethod yX3_init, Cond.code yX3_init cX3_init 10 none, Cond.methodLink RX3 1 objectInit, Cond.instanceMethod objectInit, Cond.code objectInit ⟨#[0xb1]⟩ 1 none, Cond.fieldLink RX3 7 "SavingsHall$Trade" "number" "I", Cond.fieldLink RX3 13 "SavingsHall$Trade" "holding" "LSavingsHall$Holding;", Cond.fieldLink RX3 17 "SavingsHall$Trade" "day" "I", Cond.fieldLink RX3 20 "SavingsHall$Trade" "parts" "J", Cond.fieldLink RX3 24 "SavingsHall$Trade" "amount" "J", Cond.fieldLink RX3 27 "SavingsHall$Trade" "costs" "J", Cond.fieldLink RX3 30 "SavingsHall$Trade" "stands" "Z", Cond.methodLink RX4 27 yJx4a65c_add_9ea2d, Cond.instanceMethod yJx4a65c_add_9ea2d, Cond.selects RJx4a65c yJx4a65c_add_9ea2d yJx4a65c_add_9ea2d, Cond.code yJx4a65c_add_9ea2d cJx4a65c_add_9ea2d 2 (some .boolean), Cond.fieldLink RJx4a65c 63 "java/util/ArrayList" "modCount" "I", Cond.sameField "java/util/ArrayList" "java/util/AbstractList" "modCount" "I", Cond.fieldLink RJx4a65c 9 "java/util/ArrayList" "elementData" "[Ljava/lang/Object;", Cond.methodLink RJx4a65c 131 yJx4a65c_add_72be8, Cond.instanceMethod yJx4a65c_add_72be8, Cond.selects RJx4a65c yJx4a65c_add_72be8 yJx4a65c_add_72be8]
def wsX4_buyWhatLacks_r4 : List Cond := [Cond.code yJx4a65c_add_72be8 cJx4a65c_add_72be8 4 none, Cond.methodLink RJx4a65c 129 yJx4a65c_grow_d5877, Cond.instanceMethod yJx4a65c_grow_d5877, Cond.selects RJx4a65c yJx4a65c_grow_d5877 yJx4a65c_grow_d5877, Cond.code yJx4a65c_grow_d5877 cJx4a65c_grow_d5877 1 (some (.array (.object "java/lang/Object"))), Cond.methodLink RJx4a65c 69 yJx4a65c_grow_92f84, Cond.instanceMethod yJx4a65c_grow_92f84, Cond.selects RJx4a65c yJx4a65c_grow_92f84 yJx4a65c_grow_92f84, Cond.code yJx4a65c_grow_92f84 cJx4a65c_grow_92f84 4 (some (.array (.object "java/lang/Object"))), Cond.fieldLink RJx4a65c 39 "java/util/ArrayList" "DEFAULTCAPACITY_EMPTY_ELEMENTDATA" "[Ljava/lang/Object;", Cond.methodLink RJx4a65c 79 Lib.Math.max.name, Cond.static Lib.Math.max.name, Cond.code Lib.Math.max.name Lib.Math.max.code 2 (some .int), Cond.classLink RJx4a65c 7 "java/lang/Object", Cond.methodLink RJx4a65c 73 yJ8_newLength_cabcc, Cond.static yJ8_newLength_cabcc, Cond.initialized RJ8, Cond.code yJ8_newLength_cabcc cJ8_newLength_cabcc 4 (some .int), Cond.methodLink RJ8 194 Lib.Math.max.name, Cond.constant RJ8 200 (2147483639), Cond.methodLink RJ8 201 yJ8_hugeLength_7cf53, Cond.static yJ8_hugeLength_7cf53, Cond.code yJ8_hugeLength_7cf53 cJ8_hugeLength_7cf53 3 (some .int), Cond.methodLink RJx4a65c 66 yJ7_copyOf_1904c]
def wsX4_buyWhatLacks_r5 : List Cond := [Cond.static yJ7_copyOf_1904c, Cond.initialized RJ7, Cond.code yJ7_copyOf_1904c cJ7_copyOf_1904c 2 (some (.array (.object "java/lang/Object"))), Cond.methodLink RJ7 86 ⟨"java/lang/Object", "getClass", "()Ljava/lang/Class;"⟩, Cond.selects "[Ljava/lang/Object;" ⟨"java/lang/Object", "getClass", "()Ljava/lang/Class;"⟩ ⟨"java/lang/Object", "getClass", "()Ljava/lang/Class;"⟩, Cond.instanceMethod ⟨"java/lang/Object", "getClass", "()Ljava/lang/Class;"⟩, Cond.native ⟨"java/lang/Object", "getClass", "()Ljava/lang/Class;"⟩, Cond.methodLink RJ7 300 yJ7_copyOf_6403c, Cond.static yJ7_copyOf_6403c, Cond.code yJ7_copyOf_6403c cJ7_copyOf_6403c 4 (some (.array (.object "java/lang/Object"))), Cond.classLink RJ7 110 "[Ljava/lang/Object;", Cond.classLink RJ7 2 "java/lang/Object", Cond.methodLink RJ7 304 Lib.Math.min.name, Cond.static Lib.Math.min.name, Cond.code Lib.Math.min.name Lib.Math.min.code 2 (some .int), Cond.methodLink RJ7 150 arraycopyName, Cond.native arraycopyName, Cond.static arraycopyName, Cond.initialized "java/lang/System", Cond.methodLink RX4 149 yX3_paid, Cond.instanceMethod yX3_paid, Cond.selects RX3 yX3_paid yX3_paid, Cond.code yX3_paid cX3_paid 1 (some .long), Cond.methodLink RX3 34 yX3_isSale]
def wsX4_buyWhatLacks_r6 : List Cond := [Cond.instanceMethod yX3_isSale, Cond.selects RX3 yX3_isSale yX3_isSale, Cond.code yX3_isSale cX3_isSale 1 (some .boolean), Cond.methodLink RX4 153 yX4_exchange, Cond.instanceMethod yX4_exchange, Cond.selects RX4 yX4_exchange yX4_exchange, Cond.code yX4_exchange cX4_exchange 7 none, Cond.fieldLink RX4 170 "SavingsHall" "houseMoney" "J", Cond.fieldLink RX4 173 "SavingsHall$Fund" "stock" "J", Cond.constantLong RX4 266 (999), Cond.methodLink RX4 268 yX4_tradeUnits, Cond.instanceMethod yX4_tradeUnits, Cond.selects RX4 yX4_tradeUnits yX4_tradeUnits, Cond.code yX4_tradeUnits cX4_tradeUnits 4 none, Cond.fieldLink RX4 176 "SavingsHall$Fund" "units" "J", Cond.methodLink RX4 262 yX4_enterIntoLots, Cond.instanceMethod yX4_enterIntoLots, Cond.selects RX4 yX4_enterIntoLots yX4_enterIntoLots, Cond.code yX4_enterIntoLots cX4_enterIntoLots 2 none, Cond.fieldLink RX4 144 "SavingsHall$Trade" "holding" "LSavingsHall$Holding;", Cond.fieldLink RX4 189 "SavingsHall$Trade" "day" "I", Cond.fieldLink RX4 148 "SavingsHall$Trade" "parts" "J", Cond.fieldLink RX4 195 "SavingsHall$Trade" "partsLeft" "J", Cond.fieldLink RX4 199 "SavingsHall$Trade" "costLeft" "J"]
def wsX4_buyWhatLacks_r7 : List Cond := [Cond.methodLink RX4 272 yX3_isSale, Cond.methodLink RX4 276 yX4_yearOf, Cond.static yX4_yearOf, Cond.code yX4_yearOf cX4_yearOf 1 (some .int), Cond.methodLink RX4 280 yX4_takeCostFromLots, Cond.instanceMethod yX4_takeCostFromLots, Cond.selects RX4 yX4_takeCostFromLots yX4_takeCostFromLots, Cond.code yX4_takeCostFromLots cX4_takeCostFromLots 12 (some .long), Cond.classLink RX4 135 "SavingsHall$Trade", Cond.methodLink RX4 60 yJx4a65c_get_915e3, Cond.instanceMethod yJx4a65c_get_915e3, Cond.selects RJx4a65c yJx4a65c_get_915e3 yJx4a65c_get_915e3, Cond.code yJx4a65c_get_915e3 cJx4a65c_get_915e3 2 (some (.object "java/lang/Object")), Cond.methodLink RJx4a65c 118 yJ15_checkIndex_7cf53, Cond.static yJ15_checkIndex_7cf53, Cond.initialized RJ15, Cond.code yJ15_checkIndex_7cf53 cJ15_checkIndex_7cf53 2 (some .int), Cond.methodLink RJ15 105 yJ3_checkIndex_8e157, Cond.static yJ3_checkIndex_8e157, Cond.initialized RJ3, Cond.code yJ3_checkIndex_8e157 cJ3_checkIndex_8e157 3 (some .int), Cond.methodLink RJx4a65c 123 yJx4a65c_elementData_915e3, Cond.instanceMethod yJx4a65c_elementData_915e3, Cond.selects RJx4a65c yJx4a65c_elementData_915e3 yJx4a65c_elementData_915e3]
def wsX4_buyWhatLacks_r8 : List Cond := [Cond.code yJx4a65c_elementData_915e3 cJx4a65c_elementData_915e3 2 (some (.object "java/lang/Object")), Cond.methodLink RX4 284 yX4_addGain, Cond.static yX4_addGain, Cond.code yX4_addGain cX4_addGain 4 none, Cond.fieldLink RX4 204 "SavingsHall$Client" "gains" "[J"]
def wsX4_buyWhatLacks : List Cond := .code yX4_buyWhatLacks cX4_buyWhatLacks 12 none :: ((wsX4_buyWhatLacks_r1 ++ (wsX4_buyWhatLacks_r2 ++ (wsX4_buyWhatLacks_r3 ++ (wsX4_buyWhatLacks_r4 ++ (wsX4_buyWhatLacks_r5 ++ (wsX4_buyWhatLacks_r6 ++ (wsX4_buyWhatLacks_r7 ++ wsX4_buyWhatLacks_r8))))))) ++ wsX20 ++ wsX00 ++ wsX10 ++ wsX30 ++ wsX40 ++ wsJx4a65c0)
def wsX4_balance_r1 : List Cond := [Cond.fieldLink RX4 19 "SavingsHall" "trades" "Ljava/util/ArrayList;", Cond.constantLong RX4 121 (100000000), Cond.fieldLink RX4 55 "SavingsHall$Client" "holdings" "Ljava/util/ArrayList;", Cond.classLink RX4 58 "SavingsHall$Holding", Cond.methodLink RX4 67 yX4_clientAt, Cond.instanceMethod yX4_clientAt, Cond.selects RX4 yX4_clientAt yX4_clientAt, Cond.initialized RX4, Cond.code yX4_clientAt cX4_clientAt 2 (some (.object "SavingsHall$Client")), Cond.fieldLink RX4 16 "SavingsHall" "clients" "Ljava/util/ArrayList;", Cond.classLink RX4 52 "SavingsHall$Client", Cond.methodLink RX4 44 yJx4a65c_size_8abf5, Cond.instanceMethod yJx4a65c_size_8abf5, Cond.selects RJx4a65c yJx4a65c_size_8abf5 yJx4a65c_size_8abf5, Cond.initialized RJx4a65c, Cond.code yJx4a65c_size_8abf5 cJx4a65c_size_8abf5 1 (some .int), Cond.fieldLink RJx4a65c 48 "java/util/ArrayList" "size" "I", Cond.methodLink RX4 192 yX4_checkExists, Cond.static yX4_checkExists, Cond.code yX4_checkExists cX4_checkExists 1 none, Cond.classLink RX4 217 "java/lang/IndexOutOfBoundsException", Cond.initialized "java/lang/IndexOutOfBoundsException", Cond.methodLink RX4 60 yJx4a65c_get_915e3, Cond.instanceMethod yJx4a65c_get_915e3]
def wsX4_balance_r2 : List Cond := [Cond.selects RJx4a65c yJx4a65c_get_915e3 yJx4a65c_get_915e3, Cond.code yJx4a65c_get_915e3 cJx4a65c_get_915e3 2 (some (.object "java/lang/Object")), Cond.methodLink RJx4a65c 118 yJ15_checkIndex_7cf53, Cond.static yJ15_checkIndex_7cf53, Cond.initialized RJ15, Cond.code yJ15_checkIndex_7cf53 cJ15_checkIndex_7cf53 2 (some .int), Cond.methodLink RJ15 105 yJ3_checkIndex_8e157, Cond.static yJ3_checkIndex_8e157, Cond.initialized RJ3, Cond.code yJ3_checkIndex_8e157 cJ3_checkIndex_8e157 3 (some .int), Cond.methodLink RJx4a65c 123 yJx4a65c_elementData_915e3, Cond.instanceMethod yJx4a65c_elementData_915e3, Cond.selects RJx4a65c yJx4a65c_elementData_915e3 yJx4a65c_elementData_915e3, Cond.code yJx4a65c_elementData_915e3 cJx4a65c_elementData_915e3 2 (some (.object "java/lang/Object")), Cond.fieldLink RJx4a65c 9 "java/util/ArrayList" "elementData" "[Ljava/lang/Object;", Cond.methodLink RX4 48 yX4_checkPossible, Cond.static yX4_checkPossible, Cond.code yX4_checkPossible cX4_checkPossible 1 none, Cond.classLink RX4 229 "java/lang/IllegalStateException", Cond.initialized "java/lang/IllegalStateException", Cond.methodLink RX4 117 yX4_wealthOf, Cond.static yX4_wealthOf, Cond.code yX4_wealthOf cX4_wealthOf 4 (some .long), Cond.fieldLink RX4 73 "SavingsHall$Client" "cash" "J"]
def wsX4_balance_r3 : List Cond := [Cond.methodLink RX4 244 yX4_worthOf, Cond.static yX4_worthOf, Cond.code yX4_worthOf cX4_worthOf 1 (some .long), Cond.fieldLink RX4 109 "SavingsHall$Holding" "parts" "J", Cond.fieldLink RX4 92 "SavingsHall$Holding" "fund" "LSavingsHall$Fund;", Cond.methodLink RX4 112 yX4_amountFor, Cond.static yX4_amountFor, Cond.code yX4_amountFor cX4_amountFor 3 (some .long), Cond.fieldLink RX4 40 "SavingsHall$Fund" "price" "I", Cond.constantLong RX4 234 (1000), Cond.methodLink RX4 123 yX4_sellTooMuch, Cond.instanceMethod yX4_sellTooMuch, Cond.selects RX4 yX4_sellTooMuch yX4_sellTooMuch, Cond.code yX4_sellTooMuch cX4_sellTooMuch 10 none, Cond.methodLink RX4 250 yX4_targetOf, Cond.static yX4_targetOf, Cond.code yX4_targetOf cX4_targetOf 3 (some .long), Cond.fieldLink RX4 89 "SavingsHall$Holding" "hundredths" "I", Cond.constantLong RX4 248 (100), Cond.methodLink RX4 96 yX4_partsFor, Cond.static yX4_partsFor, Cond.code yX4_partsFor cX4_partsFor 3 (some .long), Cond.methodLink RX4 236 yX4_cutQuotient, Cond.static yX4_cutQuotient]
def wsX4_balance_r4 : List Cond := [Cond.code yX4_cutQuotient cX4_cutQuotient 4 (some .long), Cond.methodLink RX4 104 yX4_makeTrade, Cond.instanceMethod yX4_makeTrade, Cond.selects RX4 yX4_makeTrade yX4_makeTrade, Cond.code yX4_makeTrade cX4_makeTrade 7 (some .int), Cond.classLink RX4 135 RX3, Cond.instantiable RX3 9, Cond.initialized RX3, Cond.fieldLink RX4 164 "SavingsHall" "today" "I", Cond.fieldLink RX4 198 "SavingsHall$Trade" "number" "I", Cond.methodLink RX4 100 yX4_costsOf, Cond.static yX4_costsOf, Cond.code yX4_costsOf cX4_costsOf 3 (some .long), Cond.constantLong RX4 240 (10000), Cond.constantLong RX4 242 (100000), Cond.methodLink RX4 259 yX3_init, Cond.instanceMethod yX3_init, Cond.code yX3_init cX3_init 10 none, Cond.methodLink RX3 1 objectInit, Cond.instanceMethod objectInit, Cond.code objectInit ⟨#[0xb1]⟩ 1 none, Cond.fieldLink RX3 7 "SavingsHall$Trade" "number" "I", Cond.fieldLink RX3 13 "SavingsHall$Trade" "holding" "LSavingsHall$Holding;", Cond.fieldLink RX3 17 "SavingsHall$Trade" "day" "I"]
def wsX4_balance_r5 : List Cond := [Cond.fieldLink RX3 20 "SavingsHall$Trade" "parts" "J", Cond.fieldLink RX3 24 "SavingsHall$Trade" "amount" "J", Cond.fieldLink RX3 27 "SavingsHall$Trade" "costs" "J", Cond.fieldLink RX3 30 "SavingsHall$Trade" "stands" "Z", Cond.methodLink RX4 27 yJx4a65c_add_9ea2d, Cond.instanceMethod yJx4a65c_add_9ea2d, Cond.selects RJx4a65c yJx4a65c_add_9ea2d yJx4a65c_add_9ea2d, Cond.code yJx4a65c_add_9ea2d cJx4a65c_add_9ea2d 2 (some .boolean), Cond.fieldLink RJx4a65c 63 "java/util/ArrayList" "modCount" "I", Cond.sameField "java/util/ArrayList" "java/util/AbstractList" "modCount" "I", Cond.methodLink RJx4a65c 131 yJx4a65c_add_72be8, Cond.instanceMethod yJx4a65c_add_72be8, Cond.selects RJx4a65c yJx4a65c_add_72be8 yJx4a65c_add_72be8, Cond.code yJx4a65c_add_72be8 cJx4a65c_add_72be8 4 none, Cond.methodLink RJx4a65c 129 yJx4a65c_grow_d5877, Cond.instanceMethod yJx4a65c_grow_d5877, Cond.selects RJx4a65c yJx4a65c_grow_d5877 yJx4a65c_grow_d5877, Cond.code yJx4a65c_grow_d5877 cJx4a65c_grow_d5877 1 (some (.array (.object "java/lang/Object"))), Cond.methodLink RJx4a65c 69 yJx4a65c_grow_92f84, Cond.instanceMethod yJx4a65c_grow_92f84, Cond.selects RJx4a65c yJx4a65c_grow_92f84 yJx4a65c_grow_92f84, Cond.code yJx4a65c_grow_92f84 cJx4a65c_grow_92f84 4 (some (.array (.object "java/lang/Object"))), Cond.fieldLink RJx4a65c 39 "java/util/ArrayList" "DEFAULTCAPACITY_EMPTY_ELEMENTDATA" "[Ljava/lang/Object;", Cond.methodLink RJx4a65c 79 Lib.Math.max.name]
def wsX4_balance_r6 : List Cond := [Cond.static Lib.Math.max.name, Cond.initialized "java/lang/Math", Cond.code Lib.Math.max.name Lib.Math.max.code 2 (some .int), Cond.classLink RJx4a65c 7 "java/lang/Object", Cond.methodLink RJx4a65c 73 yJ8_newLength_cabcc, Cond.static yJ8_newLength_cabcc, Cond.initialized RJ8, Cond.code yJ8_newLength_cabcc cJ8_newLength_cabcc 4 (some .int), Cond.methodLink RJ8 194 Lib.Math.max.name, Cond.constant RJ8 200 (2147483639), Cond.methodLink RJ8 201 yJ8_hugeLength_7cf53, Cond.static yJ8_hugeLength_7cf53, Cond.code yJ8_hugeLength_7cf53 cJ8_hugeLength_7cf53 3 (some .int), Cond.methodLink RJx4a65c 66 yJ7_copyOf_1904c, Cond.static yJ7_copyOf_1904c, Cond.initialized RJ7, Cond.code yJ7_copyOf_1904c cJ7_copyOf_1904c 2 (some (.array (.object "java/lang/Object"))), Cond.methodLink RJ7 86 ⟨"java/lang/Object", "getClass", "()Ljava/lang/Class;"⟩, Cond.selects "[Ljava/lang/Object;" ⟨"java/lang/Object", "getClass", "()Ljava/lang/Class;"⟩ ⟨"java/lang/Object", "getClass", "()Ljava/lang/Class;"⟩, Cond.instanceMethod ⟨"java/lang/Object", "getClass", "()Ljava/lang/Class;"⟩, Cond.native ⟨"java/lang/Object", "getClass", "()Ljava/lang/Class;"⟩, Cond.methodLink RJ7 300 yJ7_copyOf_6403c, Cond.static yJ7_copyOf_6403c, Cond.code yJ7_copyOf_6403c cJ7_copyOf_6403c 4 (some (.array (.object "java/lang/Object")))]
def wsX4_balance_r7 : List Cond := [Cond.classLink RJ7 110 "[Ljava/lang/Object;", Cond.classLink RJ7 2 "java/lang/Object", Cond.methodLink RJ7 304 Lib.Math.min.name, Cond.static Lib.Math.min.name, Cond.code Lib.Math.min.name Lib.Math.min.code 2 (some .int), Cond.methodLink RJ7 150 arraycopyName, Cond.native arraycopyName, Cond.static arraycopyName, Cond.initialized "java/lang/System", Cond.methodLink RX4 149 yX3_paid, Cond.instanceMethod yX3_paid, Cond.selects RX3 yX3_paid yX3_paid, Cond.code yX3_paid cX3_paid 1 (some .long), Cond.methodLink RX3 34 yX3_isSale, Cond.instanceMethod yX3_isSale, Cond.selects RX3 yX3_isSale yX3_isSale, Cond.code yX3_isSale cX3_isSale 1 (some .boolean), Cond.methodLink RX4 153 yX4_exchange, Cond.instanceMethod yX4_exchange, Cond.selects RX4 yX4_exchange yX4_exchange, Cond.code yX4_exchange cX4_exchange 7 none, Cond.fieldLink RX4 81 "SavingsHall$Holding" "client" "LSavingsHall$Client;", Cond.fieldLink RX4 170 "SavingsHall" "houseMoney" "J", Cond.fieldLink RX4 173 "SavingsHall$Fund" "stock" "J"]
def wsX4_balance_r8 : List Cond := [Cond.constantLong RX4 266 (999), Cond.methodLink RX4 268 yX4_tradeUnits, Cond.instanceMethod yX4_tradeUnits, Cond.selects RX4 yX4_tradeUnits yX4_tradeUnits, Cond.code yX4_tradeUnits cX4_tradeUnits 4 none, Cond.fieldLink RX4 176 "SavingsHall$Fund" "units" "J", Cond.methodLink RX4 262 yX4_enterIntoLots, Cond.instanceMethod yX4_enterIntoLots, Cond.selects RX4 yX4_enterIntoLots yX4_enterIntoLots, Cond.code yX4_enterIntoLots cX4_enterIntoLots 2 none, Cond.fieldLink RX4 144 "SavingsHall$Trade" "holding" "LSavingsHall$Holding;", Cond.fieldLink RX4 189 "SavingsHall$Trade" "day" "I", Cond.fieldLink RX4 148 "SavingsHall$Trade" "parts" "J", Cond.fieldLink RX4 195 "SavingsHall$Trade" "partsLeft" "J", Cond.fieldLink RX4 199 "SavingsHall$Trade" "costLeft" "J", Cond.methodLink RX4 272 yX3_isSale, Cond.methodLink RX4 276 yX4_yearOf, Cond.static yX4_yearOf, Cond.code yX4_yearOf cX4_yearOf 1 (some .int), Cond.methodLink RX4 280 yX4_takeCostFromLots, Cond.instanceMethod yX4_takeCostFromLots, Cond.selects RX4 yX4_takeCostFromLots yX4_takeCostFromLots, Cond.code yX4_takeCostFromLots cX4_takeCostFromLots 12 (some .long), Cond.classLink RX4 135 "SavingsHall$Trade"]
def wsX4_balance_r9 : List Cond := [Cond.methodLink RX4 254 Lib.MathLoose.min_long.x, Cond.static Lib.MathLoose.min_long.x, Cond.code Lib.MathLoose.min_long.x Lib.MathLoose.min_long.code 4 (some .long), Cond.methodLink RX4 284 yX4_addGain, Cond.static yX4_addGain, Cond.code yX4_addGain cX4_addGain 4 none, Cond.fieldLink RX4 204 "SavingsHall$Client" "gains" "[J", Cond.methodLink RX4 127 yX4_buyWhatLacks, Cond.instanceMethod yX4_buyWhatLacks, Cond.selects RX4 yX4_buyWhatLacks yX4_buyWhatLacks, Cond.code yX4_buyWhatLacks cX4_buyWhatLacks 12 none]
def wsX4_balance : List Cond := .code yX4_balance cX4_balance 7 (some .int) :: ((wsX4_balance_r1 ++ (wsX4_balance_r2 ++ (wsX4_balance_r3 ++ (wsX4_balance_r4 ++ (wsX4_balance_r5 ++ (wsX4_balance_r6 ++ (wsX4_balance_r7 ++ (wsX4_balance_r8 ++ wsX4_balance_r9)))))))) ++ wsX40 ++ wsX00 ++ wsJx4a65c0 ++ wsX20 ++ wsX10 ++ wsX30 ++ (vx_atS RX4 221 "java/lang/IndexOutOfBoundsException" ["java/lang/RuntimeException", "java/lang/Exception"]).filter goodWord ++ (vx_atS RX4 233 "java/lang/IllegalStateException" ["java/lang/RuntimeException", "java/lang/Exception"]).filter goodWord)
def wsX4_tradeAt_r1 : List Cond := [Cond.fieldLink RX4 19 "SavingsHall" "trades" "Ljava/util/ArrayList;", Cond.classLink RX4 135 "SavingsHall$Trade", Cond.methodLink RX4 44 yJx4a65c_size_8abf5, Cond.instanceMethod yJx4a65c_size_8abf5, Cond.selects RJx4a65c yJx4a65c_size_8abf5 yJx4a65c_size_8abf5, Cond.initialized RJx4a65c, Cond.code yJx4a65c_size_8abf5 cJx4a65c_size_8abf5 1 (some .int), Cond.fieldLink RJx4a65c 48 "java/util/ArrayList" "size" "I", Cond.methodLink RX4 192 yX4_checkExists, Cond.static yX4_checkExists, Cond.initialized RX4, Cond.code yX4_checkExists cX4_checkExists 1 none, Cond.classLink RX4 217 "java/lang/IndexOutOfBoundsException", Cond.initialized "java/lang/IndexOutOfBoundsException", Cond.methodLink RX4 60 yJx4a65c_get_915e3, Cond.instanceMethod yJx4a65c_get_915e3, Cond.selects RJx4a65c yJx4a65c_get_915e3 yJx4a65c_get_915e3, Cond.code yJx4a65c_get_915e3 cJx4a65c_get_915e3 2 (some (.object "java/lang/Object")), Cond.methodLink RJx4a65c 118 yJ15_checkIndex_7cf53, Cond.static yJ15_checkIndex_7cf53, Cond.initialized RJ15, Cond.code yJ15_checkIndex_7cf53 cJ15_checkIndex_7cf53 2 (some .int), Cond.methodLink RJ15 105 yJ3_checkIndex_8e157, Cond.static yJ3_checkIndex_8e157]
def wsX4_tradeAt_r2 : List Cond := [Cond.initialized RJ3, Cond.code yJ3_checkIndex_8e157 cJ3_checkIndex_8e157 3 (some .int), Cond.methodLink RJx4a65c 123 yJx4a65c_elementData_915e3, Cond.instanceMethod yJx4a65c_elementData_915e3, Cond.selects RJx4a65c yJx4a65c_elementData_915e3 yJx4a65c_elementData_915e3, Cond.code yJx4a65c_elementData_915e3 cJx4a65c_elementData_915e3 2 (some (.object "java/lang/Object")), Cond.fieldLink RJx4a65c 9 "java/util/ArrayList" "elementData" "[Ljava/lang/Object;"]
def wsX4_tradeAt : List Cond := .code yX4_tradeAt cX4_tradeAt 2 (some (.object "SavingsHall$Trade")) :: ((wsX4_tradeAt_r1 ++ wsX4_tradeAt_r2) ++ wsX40 ++ wsJx4a65c0 ++ (vx_atS RX4 221 "java/lang/IndexOutOfBoundsException" ["java/lang/RuntimeException", "java/lang/Exception"]).filter goodWord)
def wsX4_salesKeepTheirParts_r1 : List Cond := [Cond.fieldLink RX4 19 "SavingsHall" "trades" "Ljava/util/ArrayList;", Cond.classLink RX4 135 "SavingsHall$Trade", Cond.fieldLink RX4 144 "SavingsHall$Trade" "holding" "LSavingsHall$Holding;", Cond.fieldLink RX4 134 "SavingsHall$Trade" "stands" "Z", Cond.fieldLink RX4 148 "SavingsHall$Trade" "parts" "J", Cond.methodLink RX4 44 yJx4a65c_size_8abf5, Cond.instanceMethod yJx4a65c_size_8abf5, Cond.selects RJx4a65c yJx4a65c_size_8abf5 yJx4a65c_size_8abf5, Cond.initialized RJx4a65c, Cond.code yJx4a65c_size_8abf5 cJx4a65c_size_8abf5 1 (some .int), Cond.fieldLink RJx4a65c 48 "java/util/ArrayList" "size" "I", Cond.methodLink RX4 60 yJx4a65c_get_915e3, Cond.instanceMethod yJx4a65c_get_915e3, Cond.selects RJx4a65c yJx4a65c_get_915e3 yJx4a65c_get_915e3, Cond.code yJx4a65c_get_915e3 cJx4a65c_get_915e3 2 (some (.object "java/lang/Object")), Cond.methodLink RJx4a65c 118 yJ15_checkIndex_7cf53, Cond.static yJ15_checkIndex_7cf53, Cond.initialized RJ15, Cond.code yJ15_checkIndex_7cf53 cJ15_checkIndex_7cf53 2 (some .int), Cond.methodLink RJ15 105 yJ3_checkIndex_8e157, Cond.static yJ3_checkIndex_8e157, Cond.initialized RJ3, Cond.code yJ3_checkIndex_8e157 cJ3_checkIndex_8e157 3 (some .int), Cond.methodLink RJx4a65c 123 yJx4a65c_elementData_915e3]
def wsX4_salesKeepTheirParts_r2 : List Cond := [Cond.instanceMethod yJx4a65c_elementData_915e3, Cond.selects RJx4a65c yJx4a65c_elementData_915e3 yJx4a65c_elementData_915e3, Cond.code yJx4a65c_elementData_915e3 cJx4a65c_elementData_915e3 2 (some (.object "java/lang/Object")), Cond.fieldLink RJx4a65c 9 "java/util/ArrayList" "elementData" "[Ljava/lang/Object;"]
def wsX4_salesKeepTheirParts : List Cond := .code yX4_salesKeepTheirParts cX4_salesKeepTheirParts 6 (some .boolean) :: ((wsX4_salesKeepTheirParts_r1 ++ wsX4_salesKeepTheirParts_r2) ++ wsX40 ++ wsX30 ++ wsJx4a65c0)
def wsJ7_fill_d0a16 : List Cond := .code yJ7_fill_d0a16 cJ7_fill_d0a16 5 none :: ([])
def wsX4_findLotsAnew_r1 : List Cond := [Cond.fieldLink RX4 204 "SavingsHall$Client" "gains" "[J", Cond.fieldLink RX4 19 "SavingsHall" "trades" "Ljava/util/ArrayList;", Cond.classLink RX4 135 "SavingsHall$Trade", Cond.fieldLink RX4 144 "SavingsHall$Trade" "holding" "LSavingsHall$Holding;", Cond.fieldLink RX4 81 "SavingsHall$Holding" "client" "LSavingsHall$Client;", Cond.fieldLink RX4 195 "SavingsHall$Trade" "partsLeft" "J", Cond.fieldLink RX4 199 "SavingsHall$Trade" "costLeft" "J", Cond.fieldLink RX4 134 "SavingsHall$Trade" "stands" "Z", Cond.methodLink RX4 288 yJ7_fill_d0a16, Cond.static yJ7_fill_d0a16, Cond.initialized RJ7, Cond.code yJ7_fill_d0a16 cJ7_fill_d0a16 5 none, Cond.methodLink RX4 44 yJx4a65c_size_8abf5, Cond.instanceMethod yJx4a65c_size_8abf5, Cond.selects RJx4a65c yJx4a65c_size_8abf5 yJx4a65c_size_8abf5, Cond.initialized RJx4a65c, Cond.code yJx4a65c_size_8abf5 cJx4a65c_size_8abf5 1 (some .int), Cond.fieldLink RJx4a65c 48 "java/util/ArrayList" "size" "I", Cond.methodLink RX4 60 yJx4a65c_get_915e3, Cond.instanceMethod yJx4a65c_get_915e3, Cond.selects RJx4a65c yJx4a65c_get_915e3 yJx4a65c_get_915e3, Cond.code yJx4a65c_get_915e3 cJx4a65c_get_915e3 2 (some (.object "java/lang/Object")), Cond.methodLink RJx4a65c 118 yJ15_checkIndex_7cf53, Cond.static yJ15_checkIndex_7cf53]
def wsX4_findLotsAnew_r2 : List Cond := [Cond.initialized RJ15, Cond.code yJ15_checkIndex_7cf53 cJ15_checkIndex_7cf53 2 (some .int), Cond.methodLink RJ15 105 yJ3_checkIndex_8e157, Cond.static yJ3_checkIndex_8e157, Cond.initialized RJ3, Cond.code yJ3_checkIndex_8e157 cJ3_checkIndex_8e157 3 (some .int), Cond.methodLink RJx4a65c 123 yJx4a65c_elementData_915e3, Cond.instanceMethod yJx4a65c_elementData_915e3, Cond.selects RJx4a65c yJx4a65c_elementData_915e3 yJx4a65c_elementData_915e3, Cond.code yJx4a65c_elementData_915e3 cJx4a65c_elementData_915e3 2 (some (.object "java/lang/Object")), Cond.fieldLink RJx4a65c 9 "java/util/ArrayList" "elementData" "[Ljava/lang/Object;", Cond.methodLink RX4 262 yX4_enterIntoLots, Cond.instanceMethod yX4_enterIntoLots, Cond.selects RX4 yX4_enterIntoLots yX4_enterIntoLots, Cond.initialized RX4, Cond.code yX4_enterIntoLots cX4_enterIntoLots 2 none, Cond.fieldLink RX4 189 "SavingsHall$Trade" "day" "I", Cond.fieldLink RX4 148 "SavingsHall$Trade" "parts" "J", Cond.methodLink RX4 272 yX3_isSale, Cond.instanceMethod yX3_isSale, Cond.selects RX3 yX3_isSale yX3_isSale, Cond.initialized RX3, Cond.code yX3_isSale cX3_isSale 1 (some .boolean), Cond.fieldLink RX3 20 "SavingsHall$Trade" "parts" "J"]
def wsX4_findLotsAnew_r3 : List Cond := [Cond.methodLink RX4 276 yX4_yearOf, Cond.static yX4_yearOf, Cond.code yX4_yearOf cX4_yearOf 1 (some .int), Cond.methodLink RX4 149 yX3_paid, Cond.instanceMethod yX3_paid, Cond.selects RX3 yX3_paid yX3_paid, Cond.code yX3_paid cX3_paid 1 (some .long), Cond.fieldLink RX3 27 "SavingsHall$Trade" "costs" "J", Cond.fieldLink RX3 24 "SavingsHall$Trade" "amount" "J", Cond.methodLink RX3 34 yX3_isSale, Cond.methodLink RX4 280 yX4_takeCostFromLots, Cond.instanceMethod yX4_takeCostFromLots, Cond.selects RX4 yX4_takeCostFromLots yX4_takeCostFromLots, Cond.code yX4_takeCostFromLots cX4_takeCostFromLots 12 (some .long), Cond.fieldLink RX4 198 "SavingsHall$Trade" "number" "I", Cond.methodLink RX4 254 Lib.MathLoose.min_long.x, Cond.static Lib.MathLoose.min_long.x, Cond.initialized "java/lang/Math", Cond.code Lib.MathLoose.min_long.x Lib.MathLoose.min_long.code 4 (some .long), Cond.methodLink RX4 236 yX4_cutQuotient, Cond.static yX4_cutQuotient, Cond.code yX4_cutQuotient cX4_cutQuotient 4 (some .long), Cond.methodLink RX4 284 yX4_addGain, Cond.static yX4_addGain]
def wsX4_findLotsAnew_r4 : List Cond := [Cond.code yX4_addGain cX4_addGain 4 none]
def wsX4_findLotsAnew : List Cond := .code yX4_findLotsAnew cX4_findLotsAnew 4 none :: ((wsX4_findLotsAnew_r1 ++ (wsX4_findLotsAnew_r2 ++ (wsX4_findLotsAnew_r3 ++ wsX4_findLotsAnew_r4))) ++ wsX00 ++ wsX40 ++ wsX30 ++ wsX20 ++ wsJx4a65c0)
def wsX4_baseOf : List Cond := .code yX4_baseOf cX4_baseOf 5 (some .long) :: ([.fieldLink RX4 204 "SavingsHall$Client" "gains" "[J", .methodLink RX4 254 Lib.MathLoose.min_long.x, .static Lib.MathLoose.min_long.x, .initialized "java/lang/Math", .code Lib.MathLoose.min_long.x Lib.MathLoose.min_long.code 4 (some .long), .methodLink RX4 294 Lib.MathLoose.max_long.x, .static Lib.MathLoose.max_long.x, .code Lib.MathLoose.max_long.x Lib.MathLoose.max_long.code 4 (some .long)] ++ wsX00)
def wsX4_settleTaxes : List Cond := .code yX4_settleTaxes cX4_settleTaxes 7 (some .long) :: ([.fieldLink RX4 164 "SavingsHall" "today" "I", .fieldLink RX4 208 "SavingsHall$Client" "taxesPaid" "[J", .constantLong RX4 215 (4), .fieldLink RX4 73 "SavingsHall$Client" "cash" "J", .methodLink RX4 276 yX4_yearOf, .static yX4_yearOf, .initialized RX4, .code yX4_yearOf cX4_yearOf 1 (some .int), .methodLink RX4 211 yX4_baseOf, .static yX4_baseOf, .code yX4_baseOf cX4_baseOf 5 (some .long), .fieldLink RX4 204 "SavingsHall$Client" "gains" "[J", .methodLink RX4 254 Lib.MathLoose.min_long.x, .static Lib.MathLoose.min_long.x, .initialized "java/lang/Math", .code Lib.MathLoose.min_long.x Lib.MathLoose.min_long.code 4 (some .long), .methodLink RX4 294 Lib.MathLoose.max_long.x, .static Lib.MathLoose.max_long.x, .code Lib.MathLoose.max_long.x Lib.MathLoose.max_long.code 4 (some .long)] ++ wsX40 ++ wsX00)
def wsX4_complain_r1 : List Cond := [Cond.fieldLink RX4 134 "SavingsHall$Trade" "stands" "Z", Cond.fieldLink RX4 144 "SavingsHall$Trade" "holding" "LSavingsHall$Holding;", Cond.fieldLink RX4 81 "SavingsHall$Holding" "client" "LSavingsHall$Client;", Cond.fieldLink RX4 148 "SavingsHall$Trade" "parts" "J", Cond.methodLink RX4 130 yX4_tradeAt, Cond.instanceMethod yX4_tradeAt, Cond.selects RX4 yX4_tradeAt yX4_tradeAt, Cond.initialized RX4, Cond.code yX4_tradeAt cX4_tradeAt 2 (some (.object "SavingsHall$Trade")), Cond.fieldLink RX4 19 "SavingsHall" "trades" "Ljava/util/ArrayList;", Cond.classLink RX4 135 "SavingsHall$Trade", Cond.methodLink RX4 44 yJx4a65c_size_8abf5, Cond.instanceMethod yJx4a65c_size_8abf5, Cond.selects RJx4a65c yJx4a65c_size_8abf5 yJx4a65c_size_8abf5, Cond.initialized RJx4a65c, Cond.code yJx4a65c_size_8abf5 cJx4a65c_size_8abf5 1 (some .int), Cond.fieldLink RJx4a65c 48 "java/util/ArrayList" "size" "I", Cond.methodLink RX4 192 yX4_checkExists, Cond.static yX4_checkExists, Cond.code yX4_checkExists cX4_checkExists 1 none, Cond.classLink RX4 217 "java/lang/IndexOutOfBoundsException", Cond.initialized "java/lang/IndexOutOfBoundsException", Cond.methodLink RX4 60 yJx4a65c_get_915e3, Cond.instanceMethod yJx4a65c_get_915e3]
def wsX4_complain_r2 : List Cond := [Cond.selects RJx4a65c yJx4a65c_get_915e3 yJx4a65c_get_915e3, Cond.code yJx4a65c_get_915e3 cJx4a65c_get_915e3 2 (some (.object "java/lang/Object")), Cond.methodLink RJx4a65c 118 yJ15_checkIndex_7cf53, Cond.static yJ15_checkIndex_7cf53, Cond.initialized RJ15, Cond.code yJ15_checkIndex_7cf53 cJ15_checkIndex_7cf53 2 (some .int), Cond.methodLink RJ15 105 yJ3_checkIndex_8e157, Cond.static yJ3_checkIndex_8e157, Cond.initialized RJ3, Cond.code yJ3_checkIndex_8e157 cJ3_checkIndex_8e157 3 (some .int), Cond.methodLink RJx4a65c 123 yJx4a65c_elementData_915e3, Cond.instanceMethod yJx4a65c_elementData_915e3, Cond.selects RJx4a65c yJx4a65c_elementData_915e3 yJx4a65c_elementData_915e3, Cond.code yJx4a65c_elementData_915e3 cJx4a65c_elementData_915e3 2 (some (.object "java/lang/Object")), Cond.fieldLink RJx4a65c 9 "java/util/ArrayList" "elementData" "[Ljava/lang/Object;", Cond.methodLink RX4 140 yX4_salesKeepTheirParts, Cond.instanceMethod yX4_salesKeepTheirParts, Cond.selects RX4 yX4_salesKeepTheirParts yX4_salesKeepTheirParts, Cond.code yX4_salesKeepTheirParts cX4_salesKeepTheirParts 6 (some .boolean), Cond.methodLink RX4 48 yX4_checkPossible, Cond.static yX4_checkPossible, Cond.code yX4_checkPossible cX4_checkPossible 1 none, Cond.classLink RX4 229 "java/lang/IllegalStateException", Cond.initialized "java/lang/IllegalStateException"]
def wsX4_complain_r3 : List Cond := [Cond.methodLink RX4 149 yX3_paid, Cond.instanceMethod yX3_paid, Cond.selects RX3 yX3_paid yX3_paid, Cond.initialized RX3, Cond.code yX3_paid cX3_paid 1 (some .long), Cond.fieldLink RX3 27 "SavingsHall$Trade" "costs" "J", Cond.fieldLink RX3 24 "SavingsHall$Trade" "amount" "J", Cond.methodLink RX3 34 yX3_isSale, Cond.instanceMethod yX3_isSale, Cond.selects RX3 yX3_isSale yX3_isSale, Cond.code yX3_isSale cX3_isSale 1 (some .boolean), Cond.fieldLink RX3 20 "SavingsHall$Trade" "parts" "J", Cond.methodLink RX4 153 yX4_exchange, Cond.instanceMethod yX4_exchange, Cond.selects RX4 yX4_exchange yX4_exchange, Cond.code yX4_exchange cX4_exchange 7 none, Cond.fieldLink RX4 92 "SavingsHall$Holding" "fund" "LSavingsHall$Fund;", Cond.fieldLink RX4 73 "SavingsHall$Client" "cash" "J", Cond.fieldLink RX4 170 "SavingsHall" "houseMoney" "J", Cond.fieldLink RX4 109 "SavingsHall$Holding" "parts" "J", Cond.fieldLink RX4 173 "SavingsHall$Fund" "stock" "J", Cond.constantLong RX4 266 (999), Cond.constantLong RX4 234 (1000), Cond.methodLink RX4 268 yX4_tradeUnits]
def wsX4_complain_r4 : List Cond := [Cond.instanceMethod yX4_tradeUnits, Cond.selects RX4 yX4_tradeUnits yX4_tradeUnits, Cond.code yX4_tradeUnits cX4_tradeUnits 4 none, Cond.fieldLink RX4 176 "SavingsHall$Fund" "units" "J", Cond.fieldLink RX4 40 "SavingsHall$Fund" "price" "I", Cond.methodLink RX4 157 yX4_findLotsAnew, Cond.instanceMethod yX4_findLotsAnew, Cond.selects RX4 yX4_findLotsAnew yX4_findLotsAnew, Cond.code yX4_findLotsAnew cX4_findLotsAnew 4 none, Cond.fieldLink RX4 204 "SavingsHall$Client" "gains" "[J", Cond.fieldLink RX4 195 "SavingsHall$Trade" "partsLeft" "J", Cond.fieldLink RX4 199 "SavingsHall$Trade" "costLeft" "J", Cond.methodLink RX4 288 yJ7_fill_d0a16, Cond.static yJ7_fill_d0a16, Cond.initialized RJ7, Cond.code yJ7_fill_d0a16 cJ7_fill_d0a16 5 none, Cond.methodLink RX4 262 yX4_enterIntoLots, Cond.instanceMethod yX4_enterIntoLots, Cond.selects RX4 yX4_enterIntoLots yX4_enterIntoLots, Cond.code yX4_enterIntoLots cX4_enterIntoLots 2 none, Cond.fieldLink RX4 189 "SavingsHall$Trade" "day" "I", Cond.methodLink RX4 272 yX3_isSale, Cond.methodLink RX4 276 yX4_yearOf, Cond.static yX4_yearOf]
def wsX4_complain_r5 : List Cond := [Cond.code yX4_yearOf cX4_yearOf 1 (some .int), Cond.methodLink RX4 280 yX4_takeCostFromLots, Cond.instanceMethod yX4_takeCostFromLots, Cond.selects RX4 yX4_takeCostFromLots yX4_takeCostFromLots, Cond.code yX4_takeCostFromLots cX4_takeCostFromLots 12 (some .long), Cond.fieldLink RX4 198 "SavingsHall$Trade" "number" "I", Cond.methodLink RX4 254 Lib.MathLoose.min_long.x, Cond.static Lib.MathLoose.min_long.x, Cond.initialized "java/lang/Math", Cond.code Lib.MathLoose.min_long.x Lib.MathLoose.min_long.code 4 (some .long), Cond.methodLink RX4 236 yX4_cutQuotient, Cond.static yX4_cutQuotient, Cond.code yX4_cutQuotient cX4_cutQuotient 4 (some .long), Cond.methodLink RX4 284 yX4_addGain, Cond.static yX4_addGain, Cond.code yX4_addGain cX4_addGain 4 none, Cond.methodLink RX4 161 yX4_settleTaxes, Cond.instanceMethod yX4_settleTaxes, Cond.selects RX4 yX4_settleTaxes yX4_settleTaxes, Cond.code yX4_settleTaxes cX4_settleTaxes 7 (some .long), Cond.fieldLink RX4 164 "SavingsHall" "today" "I", Cond.fieldLink RX4 208 "SavingsHall$Client" "taxesPaid" "[J", Cond.constantLong RX4 215 (4), Cond.methodLink RX4 211 yX4_baseOf]
def wsX4_complain_r6 : List Cond := [Cond.static yX4_baseOf, Cond.code yX4_baseOf cX4_baseOf 5 (some .long), Cond.methodLink RX4 294 Lib.MathLoose.max_long.x, Cond.static Lib.MathLoose.max_long.x, Cond.code Lib.MathLoose.max_long.x Lib.MathLoose.max_long.code 4 (some .long)]
def wsX4_complain : List Cond := .code yX4_complain cX4_complain 4 (some .long) :: ((wsX4_complain_r1 ++ (wsX4_complain_r2 ++ (wsX4_complain_r3 ++ (wsX4_complain_r4 ++ (wsX4_complain_r5 ++ wsX4_complain_r6))))) ++ wsX30 ++ wsX20 ++ wsX40 ++ wsJx4a65c0 ++ wsX00 ++ wsX10 ++ (vx_atS RX4 221 "java/lang/IndexOutOfBoundsException" ["java/lang/RuntimeException", "java/lang/Exception"]).filter goodWord ++ (vx_atS RX4 233 "java/lang/IllegalStateException" ["java/lang/RuntimeException", "java/lang/Exception"]).filter goodWord)
def wsX4_endDay_r1 : List Cond := [Cond.fieldLink RX4 10 "SavingsHall" "funds" "Ljava/util/ArrayList;", Cond.classLink RX4 22 "SavingsHall$Fund", Cond.fieldLink RX4 173 "SavingsHall$Fund" "stock" "J", Cond.constantLong RX4 234 (1000), Cond.fieldLink RX4 164 "SavingsHall" "today" "I", Cond.fieldLink RX4 16 "SavingsHall" "clients" "Ljava/util/ArrayList;", Cond.classLink RX4 52 "SavingsHall$Client", Cond.methodLink RX4 44 yJx4a65c_size_8abf5, Cond.instanceMethod yJx4a65c_size_8abf5, Cond.selects RJx4a65c yJx4a65c_size_8abf5 yJx4a65c_size_8abf5, Cond.initialized RJx4a65c, Cond.code yJx4a65c_size_8abf5 cJx4a65c_size_8abf5 1 (some .int), Cond.fieldLink RJx4a65c 48 "java/util/ArrayList" "size" "I", Cond.methodLink RX4 60 yJx4a65c_get_915e3, Cond.instanceMethod yJx4a65c_get_915e3, Cond.selects RJx4a65c yJx4a65c_get_915e3 yJx4a65c_get_915e3, Cond.code yJx4a65c_get_915e3 cJx4a65c_get_915e3 2 (some (.object "java/lang/Object")), Cond.methodLink RJx4a65c 118 yJ15_checkIndex_7cf53, Cond.static yJ15_checkIndex_7cf53, Cond.initialized RJ15, Cond.code yJ15_checkIndex_7cf53 cJ15_checkIndex_7cf53 2 (some .int), Cond.methodLink RJ15 105 yJ3_checkIndex_8e157, Cond.static yJ3_checkIndex_8e157, Cond.initialized RJ3]
def wsX4_endDay_r2 : List Cond := [Cond.code yJ3_checkIndex_8e157 cJ3_checkIndex_8e157 3 (some .int), Cond.methodLink RJx4a65c 123 yJx4a65c_elementData_915e3, Cond.instanceMethod yJx4a65c_elementData_915e3, Cond.selects RJx4a65c yJx4a65c_elementData_915e3 yJx4a65c_elementData_915e3, Cond.code yJx4a65c_elementData_915e3 cJx4a65c_elementData_915e3 2 (some (.object "java/lang/Object")), Cond.fieldLink RJx4a65c 9 "java/util/ArrayList" "elementData" "[Ljava/lang/Object;", Cond.methodLink RX4 268 yX4_tradeUnits, Cond.instanceMethod yX4_tradeUnits, Cond.selects RX4 yX4_tradeUnits yX4_tradeUnits, Cond.initialized RX4, Cond.code yX4_tradeUnits cX4_tradeUnits 4 none, Cond.fieldLink RX4 176 "SavingsHall$Fund" "units" "J", Cond.fieldLink RX4 170 "SavingsHall" "houseMoney" "J", Cond.fieldLink RX4 40 "SavingsHall$Fund" "price" "I", Cond.methodLink RX4 161 yX4_settleTaxes, Cond.instanceMethod yX4_settleTaxes, Cond.selects RX4 yX4_settleTaxes yX4_settleTaxes, Cond.code yX4_settleTaxes cX4_settleTaxes 7 (some .long), Cond.fieldLink RX4 208 "SavingsHall$Client" "taxesPaid" "[J", Cond.constantLong RX4 215 (4), Cond.fieldLink RX4 73 "SavingsHall$Client" "cash" "J", Cond.methodLink RX4 276 yX4_yearOf, Cond.static yX4_yearOf, Cond.code yX4_yearOf cX4_yearOf 1 (some .int)]
def wsX4_endDay_r3 : List Cond := [Cond.methodLink RX4 211 yX4_baseOf, Cond.static yX4_baseOf, Cond.code yX4_baseOf cX4_baseOf 5 (some .long), Cond.fieldLink RX4 204 "SavingsHall$Client" "gains" "[J", Cond.methodLink RX4 254 Lib.MathLoose.min_long.x, Cond.static Lib.MathLoose.min_long.x, Cond.initialized "java/lang/Math", Cond.code Lib.MathLoose.min_long.x Lib.MathLoose.min_long.code 4 (some .long), Cond.methodLink RX4 294 Lib.MathLoose.max_long.x, Cond.static Lib.MathLoose.max_long.x, Cond.code Lib.MathLoose.max_long.x Lib.MathLoose.max_long.code 4 (some .long)]
def wsX4_endDay : List Cond := .code yX4_endDay cX4_endDay 3 none :: ((wsX4_endDay_r1 ++ (wsX4_endDay_r2 ++ wsX4_endDay_r3)) ++ wsX40 ++ wsX10 ++ wsJx4a65c0 ++ wsX00)
def wsX4_pass_r1 : List Cond := [Cond.fieldLink RX4 164 "SavingsHall" "today" "I", Cond.methodLink RX4 36 yX4_checkRange, Cond.static yX4_checkRange, Cond.initialized RX4, Cond.code yX4_checkRange cX4_checkRange 3 none, Cond.classLink RX4 224 "java/lang/IllegalArgumentException", Cond.initialized "java/lang/IllegalArgumentException", Cond.methodLink RX4 48 yX4_checkPossible, Cond.static yX4_checkPossible, Cond.code yX4_checkPossible cX4_checkPossible 1 none, Cond.classLink RX4 229 "java/lang/IllegalStateException", Cond.initialized "java/lang/IllegalStateException", Cond.methodLink RX4 167 yX4_endDay, Cond.instanceMethod yX4_endDay, Cond.selects RX4 yX4_endDay yX4_endDay, Cond.code yX4_endDay cX4_endDay 3 none, Cond.fieldLink RX4 10 "SavingsHall" "funds" "Ljava/util/ArrayList;", Cond.classLink RX4 22 "SavingsHall$Fund", Cond.fieldLink RX4 173 "SavingsHall$Fund" "stock" "J", Cond.constantLong RX4 234 (1000), Cond.fieldLink RX4 16 "SavingsHall" "clients" "Ljava/util/ArrayList;", Cond.classLink RX4 52 "SavingsHall$Client", Cond.methodLink RX4 44 yJx4a65c_size_8abf5, Cond.instanceMethod yJx4a65c_size_8abf5]
def wsX4_pass_r2 : List Cond := [Cond.selects RJx4a65c yJx4a65c_size_8abf5 yJx4a65c_size_8abf5, Cond.initialized RJx4a65c, Cond.code yJx4a65c_size_8abf5 cJx4a65c_size_8abf5 1 (some .int), Cond.fieldLink RJx4a65c 48 "java/util/ArrayList" "size" "I", Cond.methodLink RX4 60 yJx4a65c_get_915e3, Cond.instanceMethod yJx4a65c_get_915e3, Cond.selects RJx4a65c yJx4a65c_get_915e3 yJx4a65c_get_915e3, Cond.code yJx4a65c_get_915e3 cJx4a65c_get_915e3 2 (some (.object "java/lang/Object")), Cond.methodLink RJx4a65c 118 yJ15_checkIndex_7cf53, Cond.static yJ15_checkIndex_7cf53, Cond.initialized RJ15, Cond.code yJ15_checkIndex_7cf53 cJ15_checkIndex_7cf53 2 (some .int), Cond.methodLink RJ15 105 yJ3_checkIndex_8e157, Cond.static yJ3_checkIndex_8e157, Cond.initialized RJ3, Cond.code yJ3_checkIndex_8e157 cJ3_checkIndex_8e157 3 (some .int), Cond.methodLink RJx4a65c 123 yJx4a65c_elementData_915e3, Cond.instanceMethod yJx4a65c_elementData_915e3, Cond.selects RJx4a65c yJx4a65c_elementData_915e3 yJx4a65c_elementData_915e3, Cond.code yJx4a65c_elementData_915e3 cJx4a65c_elementData_915e3 2 (some (.object "java/lang/Object")), Cond.fieldLink RJx4a65c 9 "java/util/ArrayList" "elementData" "[Ljava/lang/Object;", Cond.methodLink RX4 268 yX4_tradeUnits, Cond.instanceMethod yX4_tradeUnits, Cond.selects RX4 yX4_tradeUnits yX4_tradeUnits]
def wsX4_pass_r3 : List Cond := [Cond.code yX4_tradeUnits cX4_tradeUnits 4 none, Cond.fieldLink RX4 176 "SavingsHall$Fund" "units" "J", Cond.fieldLink RX4 170 "SavingsHall" "houseMoney" "J", Cond.fieldLink RX4 40 "SavingsHall$Fund" "price" "I", Cond.methodLink RX4 161 yX4_settleTaxes, Cond.instanceMethod yX4_settleTaxes, Cond.selects RX4 yX4_settleTaxes yX4_settleTaxes, Cond.code yX4_settleTaxes cX4_settleTaxes 7 (some .long), Cond.fieldLink RX4 208 "SavingsHall$Client" "taxesPaid" "[J", Cond.constantLong RX4 215 (4), Cond.fieldLink RX4 73 "SavingsHall$Client" "cash" "J", Cond.methodLink RX4 276 yX4_yearOf, Cond.static yX4_yearOf, Cond.code yX4_yearOf cX4_yearOf 1 (some .int), Cond.methodLink RX4 211 yX4_baseOf, Cond.static yX4_baseOf, Cond.code yX4_baseOf cX4_baseOf 5 (some .long), Cond.fieldLink RX4 204 "SavingsHall$Client" "gains" "[J", Cond.methodLink RX4 254 Lib.MathLoose.min_long.x, Cond.static Lib.MathLoose.min_long.x, Cond.initialized "java/lang/Math", Cond.code Lib.MathLoose.min_long.x Lib.MathLoose.min_long.code 4 (some .long), Cond.methodLink RX4 294 Lib.MathLoose.max_long.x, Cond.static Lib.MathLoose.max_long.x]
def wsX4_pass_r4 : List Cond := [Cond.code Lib.MathLoose.max_long.x Lib.MathLoose.max_long.code 4 (some .long)]
def wsX4_pass : List Cond := .code yX4_pass cX4_pass 3 (some .int) :: ((wsX4_pass_r1 ++ (wsX4_pass_r2 ++ (wsX4_pass_r3 ++ wsX4_pass_r4))) ++ wsX40 ++ wsX10 ++ wsJx4a65c0 ++ wsX00 ++ (vx_atS RX4 228 "java/lang/IllegalArgumentException" ["java/lang/RuntimeException", "java/lang/Exception"]).filter goodWord ++ (vx_atS RX4 233 "java/lang/IllegalStateException" ["java/lang/RuntimeException", "java/lang/Exception"]).filter goodWord)
def wsX4_cash_r1 : List Cond := [Cond.fieldLink RX4 170 "SavingsHall" "houseMoney" "J", Cond.fieldLink RX4 73 "SavingsHall$Client" "cash" "J", Cond.methodLink RX4 67 yX4_clientAt, Cond.instanceMethod yX4_clientAt, Cond.selects RX4 yX4_clientAt yX4_clientAt, Cond.initialized RX4, Cond.code yX4_clientAt cX4_clientAt 2 (some (.object "SavingsHall$Client")), Cond.fieldLink RX4 16 "SavingsHall" "clients" "Ljava/util/ArrayList;", Cond.classLink RX4 52 "SavingsHall$Client", Cond.methodLink RX4 44 yJx4a65c_size_8abf5, Cond.instanceMethod yJx4a65c_size_8abf5, Cond.selects RJx4a65c yJx4a65c_size_8abf5 yJx4a65c_size_8abf5, Cond.initialized RJx4a65c, Cond.code yJx4a65c_size_8abf5 cJx4a65c_size_8abf5 1 (some .int), Cond.fieldLink RJx4a65c 48 "java/util/ArrayList" "size" "I", Cond.methodLink RX4 192 yX4_checkExists, Cond.static yX4_checkExists, Cond.code yX4_checkExists cX4_checkExists 1 none, Cond.classLink RX4 217 "java/lang/IndexOutOfBoundsException", Cond.initialized "java/lang/IndexOutOfBoundsException", Cond.methodLink RX4 60 yJx4a65c_get_915e3, Cond.instanceMethod yJx4a65c_get_915e3, Cond.selects RJx4a65c yJx4a65c_get_915e3 yJx4a65c_get_915e3, Cond.code yJx4a65c_get_915e3 cJx4a65c_get_915e3 2 (some (.object "java/lang/Object"))]
def wsX4_cash_r2 : List Cond := [Cond.methodLink RJx4a65c 118 yJ15_checkIndex_7cf53, Cond.static yJ15_checkIndex_7cf53, Cond.initialized RJ15, Cond.code yJ15_checkIndex_7cf53 cJ15_checkIndex_7cf53 2 (some .int), Cond.methodLink RJ15 105 yJ3_checkIndex_8e157, Cond.static yJ3_checkIndex_8e157, Cond.initialized RJ3, Cond.code yJ3_checkIndex_8e157 cJ3_checkIndex_8e157 3 (some .int), Cond.methodLink RJx4a65c 123 yJx4a65c_elementData_915e3, Cond.instanceMethod yJx4a65c_elementData_915e3, Cond.selects RJx4a65c yJx4a65c_elementData_915e3 yJx4a65c_elementData_915e3, Cond.code yJx4a65c_elementData_915e3 cJx4a65c_elementData_915e3 2 (some (.object "java/lang/Object")), Cond.fieldLink RJx4a65c 9 "java/util/ArrayList" "elementData" "[Ljava/lang/Object;"]
def wsX4_cash : List Cond := .code yX4_cash cX4_cash 2 (some .long) :: ((wsX4_cash_r1 ++ wsX4_cash_r2) ++ wsX40 ++ wsX00 ++ wsJx4a65c0 ++ (vx_atS RX4 221 "java/lang/IndexOutOfBoundsException" ["java/lang/RuntimeException", "java/lang/Exception"]).filter goodWord)
def wsX4_parts_r1 : List Cond := [Cond.fieldLink RX4 173 "SavingsHall$Fund" "stock" "J", Cond.fieldLink RX4 109 "SavingsHall$Holding" "parts" "J", Cond.methodLink RX4 31 yX4_fundAt, Cond.instanceMethod yX4_fundAt, Cond.selects RX4 yX4_fundAt yX4_fundAt, Cond.initialized RX4, Cond.code yX4_fundAt cX4_fundAt 2 (some (.object "SavingsHall$Fund")), Cond.fieldLink RX4 10 "SavingsHall" "funds" "Ljava/util/ArrayList;", Cond.classLink RX4 22 "SavingsHall$Fund", Cond.methodLink RX4 44 yJx4a65c_size_8abf5, Cond.instanceMethod yJx4a65c_size_8abf5, Cond.selects RJx4a65c yJx4a65c_size_8abf5 yJx4a65c_size_8abf5, Cond.initialized RJx4a65c, Cond.code yJx4a65c_size_8abf5 cJx4a65c_size_8abf5 1 (some .int), Cond.fieldLink RJx4a65c 48 "java/util/ArrayList" "size" "I", Cond.methodLink RX4 192 yX4_checkExists, Cond.static yX4_checkExists, Cond.code yX4_checkExists cX4_checkExists 1 none, Cond.classLink RX4 217 "java/lang/IndexOutOfBoundsException", Cond.initialized "java/lang/IndexOutOfBoundsException", Cond.methodLink RX4 60 yJx4a65c_get_915e3, Cond.instanceMethod yJx4a65c_get_915e3, Cond.selects RJx4a65c yJx4a65c_get_915e3 yJx4a65c_get_915e3, Cond.code yJx4a65c_get_915e3 cJx4a65c_get_915e3 2 (some (.object "java/lang/Object"))]
def wsX4_parts_r2 : List Cond := [Cond.methodLink RJx4a65c 118 yJ15_checkIndex_7cf53, Cond.static yJ15_checkIndex_7cf53, Cond.initialized RJ15, Cond.code yJ15_checkIndex_7cf53 cJ15_checkIndex_7cf53 2 (some .int), Cond.methodLink RJ15 105 yJ3_checkIndex_8e157, Cond.static yJ3_checkIndex_8e157, Cond.initialized RJ3, Cond.code yJ3_checkIndex_8e157 cJ3_checkIndex_8e157 3 (some .int), Cond.methodLink RJx4a65c 123 yJx4a65c_elementData_915e3, Cond.instanceMethod yJx4a65c_elementData_915e3, Cond.selects RJx4a65c yJx4a65c_elementData_915e3 yJx4a65c_elementData_915e3, Cond.code yJx4a65c_elementData_915e3 cJx4a65c_elementData_915e3 2 (some (.object "java/lang/Object")), Cond.fieldLink RJx4a65c 9 "java/util/ArrayList" "elementData" "[Ljava/lang/Object;", Cond.methodLink RX4 77 yX4_holdingAt, Cond.instanceMethod yX4_holdingAt, Cond.selects RX4 yX4_holdingAt yX4_holdingAt, Cond.code yX4_holdingAt cX4_holdingAt 4 (some (.object "SavingsHall$Holding")), Cond.fieldLink RX4 55 "SavingsHall$Client" "holdings" "Ljava/util/ArrayList;", Cond.classLink RX4 58 "SavingsHall$Holding", Cond.methodLink RX4 67 yX4_clientAt, Cond.instanceMethod yX4_clientAt, Cond.selects RX4 yX4_clientAt yX4_clientAt, Cond.code yX4_clientAt cX4_clientAt 2 (some (.object "SavingsHall$Client")), Cond.fieldLink RX4 16 "SavingsHall" "clients" "Ljava/util/ArrayList;"]
def wsX4_parts_r3 : List Cond := [Cond.classLink RX4 52 "SavingsHall$Client"]
def wsX4_parts : List Cond := .code yX4_parts cX4_parts 3 (some .long) :: ((wsX4_parts_r1 ++ (wsX4_parts_r2 ++ wsX4_parts_r3)) ++ wsX10 ++ wsX20 ++ wsX40 ++ wsJx4a65c0 ++ wsX00 ++ (vx_atS RX4 221 "java/lang/IndexOutOfBoundsException" ["java/lang/RuntimeException", "java/lang/Exception"]).filter goodWord)
def wsX4_units_r1 : List Cond := [Cond.fieldLink RX4 176 "SavingsHall$Fund" "units" "J", Cond.methodLink RX4 31 yX4_fundAt, Cond.instanceMethod yX4_fundAt, Cond.selects RX4 yX4_fundAt yX4_fundAt, Cond.initialized RX4, Cond.code yX4_fundAt cX4_fundAt 2 (some (.object "SavingsHall$Fund")), Cond.fieldLink RX4 10 "SavingsHall" "funds" "Ljava/util/ArrayList;", Cond.classLink RX4 22 "SavingsHall$Fund", Cond.methodLink RX4 44 yJx4a65c_size_8abf5, Cond.instanceMethod yJx4a65c_size_8abf5, Cond.selects RJx4a65c yJx4a65c_size_8abf5 yJx4a65c_size_8abf5, Cond.initialized RJx4a65c, Cond.code yJx4a65c_size_8abf5 cJx4a65c_size_8abf5 1 (some .int), Cond.fieldLink RJx4a65c 48 "java/util/ArrayList" "size" "I", Cond.methodLink RX4 192 yX4_checkExists, Cond.static yX4_checkExists, Cond.code yX4_checkExists cX4_checkExists 1 none, Cond.classLink RX4 217 "java/lang/IndexOutOfBoundsException", Cond.initialized "java/lang/IndexOutOfBoundsException", Cond.methodLink RX4 60 yJx4a65c_get_915e3, Cond.instanceMethod yJx4a65c_get_915e3, Cond.selects RJx4a65c yJx4a65c_get_915e3 yJx4a65c_get_915e3, Cond.code yJx4a65c_get_915e3 cJx4a65c_get_915e3 2 (some (.object "java/lang/Object")), Cond.methodLink RJx4a65c 118 yJ15_checkIndex_7cf53]
def wsX4_units_r2 : List Cond := [Cond.static yJ15_checkIndex_7cf53, Cond.initialized RJ15, Cond.code yJ15_checkIndex_7cf53 cJ15_checkIndex_7cf53 2 (some .int), Cond.methodLink RJ15 105 yJ3_checkIndex_8e157, Cond.static yJ3_checkIndex_8e157, Cond.initialized RJ3, Cond.code yJ3_checkIndex_8e157 cJ3_checkIndex_8e157 3 (some .int), Cond.methodLink RJx4a65c 123 yJx4a65c_elementData_915e3, Cond.instanceMethod yJx4a65c_elementData_915e3, Cond.selects RJx4a65c yJx4a65c_elementData_915e3 yJx4a65c_elementData_915e3, Cond.code yJx4a65c_elementData_915e3 cJx4a65c_elementData_915e3 2 (some (.object "java/lang/Object")), Cond.fieldLink RJx4a65c 9 "java/util/ArrayList" "elementData" "[Ljava/lang/Object;"]
def wsX4_units : List Cond := .code yX4_units cX4_units 2 (some .long) :: ((wsX4_units_r1 ++ wsX4_units_r2) ++ wsX10 ++ wsX40 ++ wsJx4a65c0 ++ (vx_atS RX4 221 "java/lang/IndexOutOfBoundsException" ["java/lang/RuntimeException", "java/lang/Exception"]).filter goodWord)
def wsX4_tradeOf_r1 : List Cond := [Cond.fieldLink RX4 144 "SavingsHall$Trade" "holding" "LSavingsHall$Holding;", Cond.fieldLink RX4 81 "SavingsHall$Holding" "client" "LSavingsHall$Client;", Cond.fieldLink RX4 179 "SavingsHall$Client" "number" "I", Cond.fieldLink RX4 92 "SavingsHall$Holding" "fund" "LSavingsHall$Fund;", Cond.fieldLink RX4 182 "SavingsHall$Fund" "number" "I", Cond.fieldLink RX4 148 "SavingsHall$Trade" "parts" "J", Cond.fieldLink RX4 183 "SavingsHall$Trade" "amount" "J", Cond.fieldLink RX4 186 "SavingsHall$Trade" "costs" "J", Cond.fieldLink RX4 189 "SavingsHall$Trade" "day" "I", Cond.fieldLink RX4 134 "SavingsHall$Trade" "stands" "Z", Cond.methodLink RX4 130 yX4_tradeAt, Cond.instanceMethod yX4_tradeAt, Cond.selects RX4 yX4_tradeAt yX4_tradeAt, Cond.initialized RX4, Cond.code yX4_tradeAt cX4_tradeAt 2 (some (.object "SavingsHall$Trade")), Cond.fieldLink RX4 19 "SavingsHall" "trades" "Ljava/util/ArrayList;", Cond.classLink RX4 135 "SavingsHall$Trade", Cond.methodLink RX4 44 yJx4a65c_size_8abf5, Cond.instanceMethod yJx4a65c_size_8abf5, Cond.selects RJx4a65c yJx4a65c_size_8abf5 yJx4a65c_size_8abf5, Cond.initialized RJx4a65c, Cond.code yJx4a65c_size_8abf5 cJx4a65c_size_8abf5 1 (some .int), Cond.fieldLink RJx4a65c 48 "java/util/ArrayList" "size" "I", Cond.methodLink RX4 192 yX4_checkExists]
def wsX4_tradeOf_r2 : List Cond := [Cond.static yX4_checkExists, Cond.code yX4_checkExists cX4_checkExists 1 none, Cond.classLink RX4 217 "java/lang/IndexOutOfBoundsException", Cond.initialized "java/lang/IndexOutOfBoundsException", Cond.methodLink RX4 60 yJx4a65c_get_915e3, Cond.instanceMethod yJx4a65c_get_915e3, Cond.selects RJx4a65c yJx4a65c_get_915e3 yJx4a65c_get_915e3, Cond.code yJx4a65c_get_915e3 cJx4a65c_get_915e3 2 (some (.object "java/lang/Object")), Cond.methodLink RJx4a65c 118 yJ15_checkIndex_7cf53, Cond.static yJ15_checkIndex_7cf53, Cond.initialized RJ15, Cond.code yJ15_checkIndex_7cf53 cJ15_checkIndex_7cf53 2 (some .int), Cond.methodLink RJ15 105 yJ3_checkIndex_8e157, Cond.static yJ3_checkIndex_8e157, Cond.initialized RJ3, Cond.code yJ3_checkIndex_8e157 cJ3_checkIndex_8e157 3 (some .int), Cond.methodLink RJx4a65c 123 yJx4a65c_elementData_915e3, Cond.instanceMethod yJx4a65c_elementData_915e3, Cond.selects RJx4a65c yJx4a65c_elementData_915e3 yJx4a65c_elementData_915e3, Cond.code yJx4a65c_elementData_915e3 cJx4a65c_elementData_915e3 2 (some (.object "java/lang/Object")), Cond.fieldLink RJx4a65c 9 "java/util/ArrayList" "elementData" "[Ljava/lang/Object;", Cond.methodLink RX4 36 yX4_checkRange, Cond.static yX4_checkRange, Cond.code yX4_checkRange cX4_checkRange 3 none]
def wsX4_tradeOf_r3 : List Cond := [Cond.classLink RX4 224 "java/lang/IllegalArgumentException", Cond.initialized "java/lang/IllegalArgumentException"]
def wsX4_tradeOf : List Cond := .code yX4_tradeOf cX4_tradeOf 4 (some .long) :: ((wsX4_tradeOf_r1 ++ (wsX4_tradeOf_r2 ++ wsX4_tradeOf_r3)) ++ wsX30 ++ wsX20 ++ wsX00 ++ wsX10 ++ wsX40 ++ wsJx4a65c0 ++ (vx_atS RX4 221 "java/lang/IndexOutOfBoundsException" ["java/lang/RuntimeException", "java/lang/Exception"]).filter goodWord ++ (vx_atS RX4 228 "java/lang/IllegalArgumentException" ["java/lang/RuntimeException", "java/lang/Exception"]).filter goodWord)
def wsX4_lot_r1 : List Cond := [Cond.fieldLink RX4 19 "SavingsHall" "trades" "Ljava/util/ArrayList;", Cond.classLink RX4 135 "SavingsHall$Trade", Cond.fieldLink RX4 144 "SavingsHall$Trade" "holding" "LSavingsHall$Holding;", Cond.fieldLink RX4 195 "SavingsHall$Trade" "partsLeft" "J", Cond.fieldLink RX4 198 "SavingsHall$Trade" "number" "I", Cond.fieldLink RX4 199 "SavingsHall$Trade" "costLeft" "J", Cond.constantLong RX4 202 (-1), Cond.methodLink RX4 77 yX4_holdingAt, Cond.instanceMethod yX4_holdingAt, Cond.selects RX4 yX4_holdingAt yX4_holdingAt, Cond.initialized RX4, Cond.code yX4_holdingAt cX4_holdingAt 4 (some (.object "SavingsHall$Holding")), Cond.fieldLink RX4 55 "SavingsHall$Client" "holdings" "Ljava/util/ArrayList;", Cond.classLink RX4 58 "SavingsHall$Holding", Cond.methodLink RX4 67 yX4_clientAt, Cond.instanceMethod yX4_clientAt, Cond.selects RX4 yX4_clientAt yX4_clientAt, Cond.code yX4_clientAt cX4_clientAt 2 (some (.object "SavingsHall$Client")), Cond.fieldLink RX4 16 "SavingsHall" "clients" "Ljava/util/ArrayList;", Cond.classLink RX4 52 "SavingsHall$Client", Cond.methodLink RX4 44 yJx4a65c_size_8abf5, Cond.instanceMethod yJx4a65c_size_8abf5, Cond.selects RJx4a65c yJx4a65c_size_8abf5 yJx4a65c_size_8abf5, Cond.initialized RJx4a65c]
def wsX4_lot_r2 : List Cond := [Cond.code yJx4a65c_size_8abf5 cJx4a65c_size_8abf5 1 (some .int), Cond.fieldLink RJx4a65c 48 "java/util/ArrayList" "size" "I", Cond.methodLink RX4 192 yX4_checkExists, Cond.static yX4_checkExists, Cond.code yX4_checkExists cX4_checkExists 1 none, Cond.classLink RX4 217 "java/lang/IndexOutOfBoundsException", Cond.initialized "java/lang/IndexOutOfBoundsException", Cond.methodLink RX4 60 yJx4a65c_get_915e3, Cond.instanceMethod yJx4a65c_get_915e3, Cond.selects RJx4a65c yJx4a65c_get_915e3 yJx4a65c_get_915e3, Cond.code yJx4a65c_get_915e3 cJx4a65c_get_915e3 2 (some (.object "java/lang/Object")), Cond.methodLink RJx4a65c 118 yJ15_checkIndex_7cf53, Cond.static yJ15_checkIndex_7cf53, Cond.initialized RJ15, Cond.code yJ15_checkIndex_7cf53 cJ15_checkIndex_7cf53 2 (some .int), Cond.methodLink RJ15 105 yJ3_checkIndex_8e157, Cond.static yJ3_checkIndex_8e157, Cond.initialized RJ3, Cond.code yJ3_checkIndex_8e157 cJ3_checkIndex_8e157 3 (some .int), Cond.methodLink RJx4a65c 123 yJx4a65c_elementData_915e3, Cond.instanceMethod yJx4a65c_elementData_915e3, Cond.selects RJx4a65c yJx4a65c_elementData_915e3 yJx4a65c_elementData_915e3, Cond.code yJx4a65c_elementData_915e3 cJx4a65c_elementData_915e3 2 (some (.object "java/lang/Object")), Cond.fieldLink RJx4a65c 9 "java/util/ArrayList" "elementData" "[Ljava/lang/Object;"]
def wsX4_lot_r3 : List Cond := [Cond.methodLink RX4 36 yX4_checkRange, Cond.static yX4_checkRange, Cond.code yX4_checkRange cX4_checkRange 3 none, Cond.classLink RX4 224 "java/lang/IllegalArgumentException", Cond.initialized "java/lang/IllegalArgumentException"]
def wsX4_lot : List Cond := .code yX4_lot cX4_lot 9 (some .long) :: ((wsX4_lot_r1 ++ (wsX4_lot_r2 ++ wsX4_lot_r3)) ++ wsX40 ++ wsX30 ++ wsX00 ++ wsJx4a65c0 ++ (vx_atS RX4 221 "java/lang/IndexOutOfBoundsException" ["java/lang/RuntimeException", "java/lang/Exception"]).filter goodWord ++ (vx_atS RX4 228 "java/lang/IllegalArgumentException" ["java/lang/RuntimeException", "java/lang/Exception"]).filter goodWord)
def wsX4_year_r1 : List Cond := [Cond.fieldLink RX4 204 "SavingsHall$Client" "gains" "[J", Cond.fieldLink RX4 208 "SavingsHall$Client" "taxesPaid" "[J", Cond.constantLong RX4 215 (4), Cond.methodLink RX4 67 yX4_clientAt, Cond.instanceMethod yX4_clientAt, Cond.selects RX4 yX4_clientAt yX4_clientAt, Cond.initialized RX4, Cond.code yX4_clientAt cX4_clientAt 2 (some (.object "SavingsHall$Client")), Cond.fieldLink RX4 16 "SavingsHall" "clients" "Ljava/util/ArrayList;", Cond.classLink RX4 52 "SavingsHall$Client", Cond.methodLink RX4 44 yJx4a65c_size_8abf5, Cond.instanceMethod yJx4a65c_size_8abf5, Cond.selects RJx4a65c yJx4a65c_size_8abf5 yJx4a65c_size_8abf5, Cond.initialized RJx4a65c, Cond.code yJx4a65c_size_8abf5 cJx4a65c_size_8abf5 1 (some .int), Cond.fieldLink RJx4a65c 48 "java/util/ArrayList" "size" "I", Cond.methodLink RX4 192 yX4_checkExists, Cond.static yX4_checkExists, Cond.code yX4_checkExists cX4_checkExists 1 none, Cond.classLink RX4 217 "java/lang/IndexOutOfBoundsException", Cond.initialized "java/lang/IndexOutOfBoundsException", Cond.methodLink RX4 60 yJx4a65c_get_915e3, Cond.instanceMethod yJx4a65c_get_915e3, Cond.selects RJx4a65c yJx4a65c_get_915e3 yJx4a65c_get_915e3]
def wsX4_year_r2 : List Cond := [Cond.code yJx4a65c_get_915e3 cJx4a65c_get_915e3 2 (some (.object "java/lang/Object")), Cond.methodLink RJx4a65c 118 yJ15_checkIndex_7cf53, Cond.static yJ15_checkIndex_7cf53, Cond.initialized RJ15, Cond.code yJ15_checkIndex_7cf53 cJ15_checkIndex_7cf53 2 (some .int), Cond.methodLink RJ15 105 yJ3_checkIndex_8e157, Cond.static yJ3_checkIndex_8e157, Cond.initialized RJ3, Cond.code yJ3_checkIndex_8e157 cJ3_checkIndex_8e157 3 (some .int), Cond.methodLink RJx4a65c 123 yJx4a65c_elementData_915e3, Cond.instanceMethod yJx4a65c_elementData_915e3, Cond.selects RJx4a65c yJx4a65c_elementData_915e3 yJx4a65c_elementData_915e3, Cond.code yJx4a65c_elementData_915e3 cJx4a65c_elementData_915e3 2 (some (.object "java/lang/Object")), Cond.fieldLink RJx4a65c 9 "java/util/ArrayList" "elementData" "[Ljava/lang/Object;", Cond.methodLink RX4 36 yX4_checkRange, Cond.static yX4_checkRange, Cond.code yX4_checkRange cX4_checkRange 3 none, Cond.classLink RX4 224 "java/lang/IllegalArgumentException", Cond.initialized "java/lang/IllegalArgumentException", Cond.methodLink RX4 211 yX4_baseOf, Cond.static yX4_baseOf, Cond.code yX4_baseOf cX4_baseOf 5 (some .long), Cond.methodLink RX4 254 Lib.MathLoose.min_long.x, Cond.static Lib.MathLoose.min_long.x]
def wsX4_year_r3 : List Cond := [Cond.initialized "java/lang/Math", Cond.code Lib.MathLoose.min_long.x Lib.MathLoose.min_long.code 4 (some .long), Cond.methodLink RX4 294 Lib.MathLoose.max_long.x, Cond.static Lib.MathLoose.max_long.x, Cond.code Lib.MathLoose.max_long.x Lib.MathLoose.max_long.code 4 (some .long)]
def wsX4_year : List Cond := .code yX4_year cX4_year 5 (some .long) :: ((wsX4_year_r1 ++ (wsX4_year_r2 ++ wsX4_year_r3)) ++ wsX00 ++ wsX40 ++ wsJx4a65c0 ++ (vx_atS RX4 221 "java/lang/IndexOutOfBoundsException" ["java/lang/RuntimeException", "java/lang/Exception"]).filter goodWord ++ (vx_atS RX4 228 "java/lang/IllegalArgumentException" ["java/lang/RuntimeException", "java/lang/Exception"]).filter goodWord)
def wsX4_wealth_r1 : List Cond := [Cond.methodLink RX4 67 yX4_clientAt, Cond.instanceMethod yX4_clientAt, Cond.selects RX4 yX4_clientAt yX4_clientAt, Cond.initialized RX4, Cond.code yX4_clientAt cX4_clientAt 2 (some (.object "SavingsHall$Client")), Cond.fieldLink RX4 16 "SavingsHall" "clients" "Ljava/util/ArrayList;", Cond.classLink RX4 52 "SavingsHall$Client", Cond.methodLink RX4 44 yJx4a65c_size_8abf5, Cond.instanceMethod yJx4a65c_size_8abf5, Cond.selects RJx4a65c yJx4a65c_size_8abf5 yJx4a65c_size_8abf5, Cond.initialized RJx4a65c, Cond.code yJx4a65c_size_8abf5 cJx4a65c_size_8abf5 1 (some .int), Cond.fieldLink RJx4a65c 48 "java/util/ArrayList" "size" "I", Cond.methodLink RX4 192 yX4_checkExists, Cond.static yX4_checkExists, Cond.code yX4_checkExists cX4_checkExists 1 none, Cond.classLink RX4 217 "java/lang/IndexOutOfBoundsException", Cond.initialized "java/lang/IndexOutOfBoundsException", Cond.methodLink RX4 60 yJx4a65c_get_915e3, Cond.instanceMethod yJx4a65c_get_915e3, Cond.selects RJx4a65c yJx4a65c_get_915e3 yJx4a65c_get_915e3, Cond.code yJx4a65c_get_915e3 cJx4a65c_get_915e3 2 (some (.object "java/lang/Object")), Cond.methodLink RJx4a65c 118 yJ15_checkIndex_7cf53, Cond.static yJ15_checkIndex_7cf53]
def wsX4_wealth_r2 : List Cond := [Cond.initialized RJ15, Cond.code yJ15_checkIndex_7cf53 cJ15_checkIndex_7cf53 2 (some .int), Cond.methodLink RJ15 105 yJ3_checkIndex_8e157, Cond.static yJ3_checkIndex_8e157, Cond.initialized RJ3, Cond.code yJ3_checkIndex_8e157 cJ3_checkIndex_8e157 3 (some .int), Cond.methodLink RJx4a65c 123 yJx4a65c_elementData_915e3, Cond.instanceMethod yJx4a65c_elementData_915e3, Cond.selects RJx4a65c yJx4a65c_elementData_915e3 yJx4a65c_elementData_915e3, Cond.code yJx4a65c_elementData_915e3 cJx4a65c_elementData_915e3 2 (some (.object "java/lang/Object")), Cond.fieldLink RJx4a65c 9 "java/util/ArrayList" "elementData" "[Ljava/lang/Object;", Cond.methodLink RX4 117 yX4_wealthOf, Cond.static yX4_wealthOf, Cond.code yX4_wealthOf cX4_wealthOf 4 (some .long), Cond.fieldLink RX4 73 "SavingsHall$Client" "cash" "J", Cond.fieldLink RX4 55 "SavingsHall$Client" "holdings" "Ljava/util/ArrayList;", Cond.classLink RX4 58 "SavingsHall$Holding", Cond.methodLink RX4 244 yX4_worthOf, Cond.static yX4_worthOf, Cond.code yX4_worthOf cX4_worthOf 1 (some .long), Cond.fieldLink RX4 109 "SavingsHall$Holding" "parts" "J", Cond.fieldLink RX4 92 "SavingsHall$Holding" "fund" "LSavingsHall$Fund;", Cond.methodLink RX4 112 yX4_amountFor, Cond.static yX4_amountFor]
def wsX4_wealth_r3 : List Cond := [Cond.code yX4_amountFor cX4_amountFor 3 (some .long), Cond.fieldLink RX4 40 "SavingsHall$Fund" "price" "I", Cond.constantLong RX4 234 (1000)]
def wsX4_wealth : List Cond := .code yX4_wealth cX4_wealth 2 (some .long) :: ((wsX4_wealth_r1 ++ (wsX4_wealth_r2 ++ wsX4_wealth_r3)) ++ wsX40 ++ wsJx4a65c0 ++ wsX00 ++ wsX20 ++ wsX10 ++ (vx_atS RX4 221 "java/lang/IndexOutOfBoundsException" ["java/lang/RuntimeException", "java/lang/Exception"]).filter goodWord)
def wsJ9_max_7cf53 : List Cond := .code yJ9_max_7cf53 cJ9_max_7cf53 2 (some .int) :: ([])
def wsJ9_max_f86c9 : List Cond := .code yJ9_max_f86c9 cJ9_max_f86c9 4 (some .long) :: ([])
def wsJ9_min_7cf53 : List Cond := .code yJ9_min_7cf53 cJ9_min_7cf53 2 (some .int) :: ([])
def wsJ9_min_f86c9 : List Cond := .code yJ9_min_f86c9 cJ9_min_f86c9 4 (some .long) :: ([])
def wsL_part : List Cond := .code yL_part cL_part 4 (some .int) :: ([.constant RL 7 (2147483647)])
def wsL_does_r1 : List Cond := [Cond.classLink RL 57 "java/lang/IndexOutOfBoundsException", Cond.classLink RL 61 "java/lang/IllegalArgumentException", Cond.classLink RL 65 "java/lang/IllegalStateException", Cond.constantLong RL 59 (-3000000000000), Cond.constantLong RL 63 (-2000000000000), Cond.constantLong RL 67 (-1000000000000), Cond.methodLink RL 8 yX4_price, Cond.instanceMethod yX4_price, Cond.selects RX4 yX4_price yX4_price, Cond.initialized RX4, Cond.code yX4_price cX4_price 5 (some .int), Cond.constant RX4 35 (1000000), Cond.fieldLink RX4 40 "SavingsHall$Fund" "price" "I", Cond.methodLink RX4 31 yX4_fundAt, Cond.instanceMethod yX4_fundAt, Cond.selects RX4 yX4_fundAt yX4_fundAt, Cond.code yX4_fundAt cX4_fundAt 2 (some (.object "SavingsHall$Fund")), Cond.fieldLink RX4 10 "SavingsHall" "funds" "Ljava/util/ArrayList;", Cond.classLink RX4 22 "SavingsHall$Fund", Cond.methodLink RX4 44 yJx4a65c_size_8abf5, Cond.instanceMethod yJx4a65c_size_8abf5, Cond.selects RJx4a65c yJx4a65c_size_8abf5 yJx4a65c_size_8abf5, Cond.initialized RJx4a65c, Cond.code yJx4a65c_size_8abf5 cJx4a65c_size_8abf5 1 (some .int)]
def wsL_does_r2 : List Cond := [Cond.fieldLink RJx4a65c 48 "java/util/ArrayList" "size" "I", Cond.methodLink RX4 192 yX4_checkExists, Cond.static yX4_checkExists, Cond.code yX4_checkExists cX4_checkExists 1 none, Cond.classLink RX4 217 "java/lang/IndexOutOfBoundsException", Cond.initialized "java/lang/IndexOutOfBoundsException", Cond.methodLink RX4 60 yJx4a65c_get_915e3, Cond.instanceMethod yJx4a65c_get_915e3, Cond.selects RJx4a65c yJx4a65c_get_915e3 yJx4a65c_get_915e3, Cond.code yJx4a65c_get_915e3 cJx4a65c_get_915e3 2 (some (.object "java/lang/Object")), Cond.methodLink RJx4a65c 118 yJ15_checkIndex_7cf53, Cond.static yJ15_checkIndex_7cf53, Cond.initialized RJ15, Cond.code yJ15_checkIndex_7cf53 cJ15_checkIndex_7cf53 2 (some .int), Cond.methodLink RJ15 105 yJ3_checkIndex_8e157, Cond.static yJ3_checkIndex_8e157, Cond.initialized RJ3, Cond.code yJ3_checkIndex_8e157 cJ3_checkIndex_8e157 3 (some .int), Cond.methodLink RJx4a65c 123 yJx4a65c_elementData_915e3, Cond.instanceMethod yJx4a65c_elementData_915e3, Cond.selects RJx4a65c yJx4a65c_elementData_915e3 yJx4a65c_elementData_915e3, Cond.code yJx4a65c_elementData_915e3 cJx4a65c_elementData_915e3 2 (some (.object "java/lang/Object")), Cond.fieldLink RJx4a65c 9 "java/util/ArrayList" "elementData" "[Ljava/lang/Object;", Cond.methodLink RX4 36 yX4_checkRange]
def wsL_does_r3 : List Cond := [Cond.static yX4_checkRange, Cond.code yX4_checkRange cX4_checkRange 3 none, Cond.classLink RX4 224 "java/lang/IllegalArgumentException", Cond.initialized "java/lang/IllegalArgumentException", Cond.methodLink RL 14 yX4_client, Cond.instanceMethod yX4_client, Cond.selects RX4 yX4_client yX4_client, Cond.code yX4_client cX4_client 4 (some .int), Cond.fieldLink RX4 16 "SavingsHall" "clients" "Ljava/util/ArrayList;", Cond.classLink RX4 52 RX0, Cond.instantiable RX0 5, Cond.initialized RX0, Cond.fieldLink RX4 55 "SavingsHall$Client" "holdings" "Ljava/util/ArrayList;", Cond.classLink RX4 58 RX2, Cond.instantiable RX2 4, Cond.initialized RX2, Cond.methodLink RX4 48 yX4_checkPossible, Cond.static yX4_checkPossible, Cond.code yX4_checkPossible cX4_checkPossible 1 none, Cond.classLink RX4 229 "java/lang/IllegalStateException", Cond.initialized "java/lang/IllegalStateException", Cond.methodLink RX4 54 yX0_init, Cond.instanceMethod yX0_init, Cond.code yX0_init cX0_init 2 none]
def wsL_does_r4 : List Cond := [Cond.methodLink RX0 3 objectInit, Cond.instanceMethod objectInit, Cond.code objectInit ⟨#[0xb1]⟩ 1 none, Cond.fieldLink RX0 9 "SavingsHall$Client" "number" "I", Cond.classLink RX0 15 RJx4a65c, Cond.instantiable RJx4a65c 3, Cond.fieldLink RX0 18 "SavingsHall$Client" "holdings" "Ljava/util/ArrayList;", Cond.arrayClass .long, Cond.fieldLink RX0 22 "SavingsHall$Client" "gains" "[J", Cond.fieldLink RX0 26 "SavingsHall$Client" "taxesPaid" "[J", Cond.methodLink RX0 17 yJx4a65c_init_da8c8, Cond.instanceMethod yJx4a65c_init_da8c8, Cond.code yJx4a65c_init_da8c8 cJx4a65c_init_da8c8 1 none, Cond.fieldLink RJx4a65c 39 "java/util/ArrayList" "DEFAULTCAPACITY_EMPTY_ELEMENTDATA" "[Ljava/lang/Object;", Cond.methodLink RJx4a65c 1 yJxc12de_init_da8c8, Cond.instanceMethod yJxc12de_init_da8c8, Cond.initialized RJxc12de, Cond.code yJxc12de_init_da8c8 cJxc12de_init_da8c8 1 none, Cond.fieldLink RJxc12de 7 "java/util/AbstractList" "modCount" "I", Cond.methodLink RJxc12de 1 yJxa1e45_init_da8c8, Cond.instanceMethod yJxa1e45_init_da8c8, Cond.initialized RJxa1e45, Cond.code yJxa1e45_init_da8c8 cJxa1e45_init_da8c8 1 none, Cond.methodLink RJxa1e45 1 objectInit]
def wsL_does_r5 : List Cond := [Cond.methodLink RX4 64 yX2_init, Cond.instanceMethod yX2_init, Cond.code yX2_init cX2_init 3 none, Cond.methodLink RX2 1 objectInit, Cond.fieldLink RX2 7 "SavingsHall$Holding" "client" "LSavingsHall$Client;", Cond.fieldLink RX2 13 "SavingsHall$Holding" "fund" "LSavingsHall$Fund;", Cond.methodLink RX4 27 yJx4a65c_add_9ea2d, Cond.instanceMethod yJx4a65c_add_9ea2d, Cond.selects RJx4a65c yJx4a65c_add_9ea2d yJx4a65c_add_9ea2d, Cond.code yJx4a65c_add_9ea2d cJx4a65c_add_9ea2d 2 (some .boolean), Cond.fieldLink RJx4a65c 63 "java/util/ArrayList" "modCount" "I", Cond.sameField "java/util/ArrayList" "java/util/AbstractList" "modCount" "I", Cond.methodLink RJx4a65c 131 yJx4a65c_add_72be8, Cond.instanceMethod yJx4a65c_add_72be8, Cond.selects RJx4a65c yJx4a65c_add_72be8 yJx4a65c_add_72be8, Cond.code yJx4a65c_add_72be8 cJx4a65c_add_72be8 4 none, Cond.methodLink RJx4a65c 129 yJx4a65c_grow_d5877, Cond.instanceMethod yJx4a65c_grow_d5877, Cond.selects RJx4a65c yJx4a65c_grow_d5877 yJx4a65c_grow_d5877, Cond.code yJx4a65c_grow_d5877 cJx4a65c_grow_d5877 1 (some (.array (.object "java/lang/Object"))), Cond.methodLink RJx4a65c 69 yJx4a65c_grow_92f84, Cond.instanceMethod yJx4a65c_grow_92f84, Cond.selects RJx4a65c yJx4a65c_grow_92f84 yJx4a65c_grow_92f84, Cond.code yJx4a65c_grow_92f84 cJx4a65c_grow_92f84 4 (some (.array (.object "java/lang/Object")))]
def wsL_does_r6 : List Cond := [Cond.methodLink RJx4a65c 79 Lib.Math.max.name, Cond.static Lib.Math.max.name, Cond.initialized "java/lang/Math", Cond.code Lib.Math.max.name Lib.Math.max.code 2 (some .int), Cond.classLink RJx4a65c 7 "java/lang/Object", Cond.methodLink RJx4a65c 73 yJ8_newLength_cabcc, Cond.static yJ8_newLength_cabcc, Cond.initialized RJ8, Cond.code yJ8_newLength_cabcc cJ8_newLength_cabcc 4 (some .int), Cond.methodLink RJ8 194 Lib.Math.max.name, Cond.constant RJ8 200 (2147483639), Cond.methodLink RJ8 201 yJ8_hugeLength_7cf53, Cond.static yJ8_hugeLength_7cf53, Cond.code yJ8_hugeLength_7cf53 cJ8_hugeLength_7cf53 3 (some .int), Cond.methodLink RJx4a65c 66 yJ7_copyOf_1904c, Cond.static yJ7_copyOf_1904c, Cond.initialized RJ7, Cond.code yJ7_copyOf_1904c cJ7_copyOf_1904c 2 (some (.array (.object "java/lang/Object"))), Cond.methodLink RJ7 86 ⟨"java/lang/Object", "getClass", "()Ljava/lang/Class;"⟩, Cond.selects "[Ljava/lang/Object;" ⟨"java/lang/Object", "getClass", "()Ljava/lang/Class;"⟩ ⟨"java/lang/Object", "getClass", "()Ljava/lang/Class;"⟩, Cond.instanceMethod ⟨"java/lang/Object", "getClass", "()Ljava/lang/Class;"⟩, Cond.native ⟨"java/lang/Object", "getClass", "()Ljava/lang/Class;"⟩, Cond.methodLink RJ7 300 yJ7_copyOf_6403c, Cond.static yJ7_copyOf_6403c]
def wsL_does_r7 : List Cond := [Cond.code yJ7_copyOf_6403c cJ7_copyOf_6403c 4 (some (.array (.object "java/lang/Object"))), Cond.classLink RJ7 110 "[Ljava/lang/Object;", Cond.classLink RJ7 2 "java/lang/Object", Cond.methodLink RJ7 304 Lib.Math.min.name, Cond.static Lib.Math.min.name, Cond.code Lib.Math.min.name Lib.Math.min.code 2 (some .int), Cond.methodLink RJ7 150 arraycopyName, Cond.native arraycopyName, Cond.static arraycopyName, Cond.initialized "java/lang/System", Cond.methodLink RL 18 yX4_pay, Cond.instanceMethod yX4_pay, Cond.selects RX4 yX4_pay yX4_pay, Cond.code yX4_pay cX4_pay 4 (some .long), Cond.constant RX4 71 (-10000000), Cond.constant RX4 72 (10000000), Cond.fieldLink RX4 73 "SavingsHall$Client" "cash" "J", Cond.methodLink RX4 67 yX4_clientAt, Cond.instanceMethod yX4_clientAt, Cond.selects RX4 yX4_clientAt yX4_clientAt, Cond.code yX4_clientAt cX4_clientAt 2 (some (.object "SavingsHall$Client")), Cond.classLink RX4 52 "SavingsHall$Client", Cond.methodLink RL 22 yX4_goal, Cond.instanceMethod yX4_goal]
def wsL_does_r8 : List Cond := [Cond.selects RX4 yX4_goal yX4_goal, Cond.code yX4_goal cX4_goal 6 (some .int), Cond.fieldLink RX4 81 "SavingsHall$Holding" "client" "LSavingsHall$Client;", Cond.fieldLink RX4 89 "SavingsHall$Holding" "hundredths" "I", Cond.methodLink RX4 77 yX4_holdingAt, Cond.instanceMethod yX4_holdingAt, Cond.selects RX4 yX4_holdingAt yX4_holdingAt, Cond.code yX4_holdingAt cX4_holdingAt 4 (some (.object "SavingsHall$Holding")), Cond.classLink RX4 58 "SavingsHall$Holding", Cond.methodLink RX4 85 yX4_hundredthsTogether, Cond.static yX4_hundredthsTogether, Cond.code yX4_hundredthsTogether cX4_hundredthsTogether 3 (some .int), Cond.methodLink RL 26 yX4_buy, Cond.instanceMethod yX4_buy, Cond.selects RX4 yX4_buy yX4_buy, Cond.code yX4_buy cX4_buy 7 (some .int), Cond.fieldLink RX4 19 "SavingsHall" "trades" "Ljava/util/ArrayList;", Cond.fieldLink RX4 92 "SavingsHall$Holding" "fund" "LSavingsHall$Fund;", Cond.methodLink RX4 96 yX4_partsFor, Cond.static yX4_partsFor, Cond.code yX4_partsFor cX4_partsFor 3 (some .long), Cond.constantLong RX4 234 (1000), Cond.methodLink RX4 236 yX4_cutQuotient, Cond.static yX4_cutQuotient]
def wsL_does_r9 : List Cond := [Cond.code yX4_cutQuotient cX4_cutQuotient 4 (some .long), Cond.methodLink RX4 100 yX4_costsOf, Cond.static yX4_costsOf, Cond.code yX4_costsOf cX4_costsOf 3 (some .long), Cond.constantLong RX4 240 (10000), Cond.constantLong RX4 242 (100000), Cond.methodLink RX4 104 yX4_makeTrade, Cond.instanceMethod yX4_makeTrade, Cond.selects RX4 yX4_makeTrade yX4_makeTrade, Cond.code yX4_makeTrade cX4_makeTrade 7 (some .int), Cond.classLink RX4 135 RX3, Cond.instantiable RX3 9, Cond.initialized RX3, Cond.fieldLink RX4 164 "SavingsHall" "today" "I", Cond.fieldLink RX4 198 "SavingsHall$Trade" "number" "I", Cond.methodLink RX4 259 yX3_init, Cond.instanceMethod yX3_init, Cond.code yX3_init cX3_init 10 none, Cond.methodLink RX3 1 objectInit, Cond.fieldLink RX3 7 "SavingsHall$Trade" "number" "I", Cond.fieldLink RX3 13 "SavingsHall$Trade" "holding" "LSavingsHall$Holding;", Cond.fieldLink RX3 17 "SavingsHall$Trade" "day" "I", Cond.fieldLink RX3 20 "SavingsHall$Trade" "parts" "J", Cond.fieldLink RX3 24 "SavingsHall$Trade" "amount" "J"]
def wsL_does_r10 : List Cond := [Cond.fieldLink RX3 27 "SavingsHall$Trade" "costs" "J", Cond.fieldLink RX3 30 "SavingsHall$Trade" "stands" "Z", Cond.methodLink RX4 149 yX3_paid, Cond.instanceMethod yX3_paid, Cond.selects RX3 yX3_paid yX3_paid, Cond.code yX3_paid cX3_paid 1 (some .long), Cond.methodLink RX3 34 yX3_isSale, Cond.instanceMethod yX3_isSale, Cond.selects RX3 yX3_isSale yX3_isSale, Cond.code yX3_isSale cX3_isSale 1 (some .boolean), Cond.methodLink RX4 153 yX4_exchange, Cond.instanceMethod yX4_exchange, Cond.selects RX4 yX4_exchange yX4_exchange, Cond.code yX4_exchange cX4_exchange 7 none, Cond.fieldLink RX4 170 "SavingsHall" "houseMoney" "J", Cond.fieldLink RX4 109 "SavingsHall$Holding" "parts" "J", Cond.fieldLink RX4 173 "SavingsHall$Fund" "stock" "J", Cond.constantLong RX4 266 (999), Cond.methodLink RX4 268 yX4_tradeUnits, Cond.instanceMethod yX4_tradeUnits, Cond.selects RX4 yX4_tradeUnits yX4_tradeUnits, Cond.code yX4_tradeUnits cX4_tradeUnits 4 none, Cond.fieldLink RX4 176 "SavingsHall$Fund" "units" "J", Cond.methodLink RX4 262 yX4_enterIntoLots]
def wsL_does_r11 : List Cond := [Cond.instanceMethod yX4_enterIntoLots, Cond.selects RX4 yX4_enterIntoLots yX4_enterIntoLots, Cond.code yX4_enterIntoLots cX4_enterIntoLots 2 none, Cond.fieldLink RX4 144 "SavingsHall$Trade" "holding" "LSavingsHall$Holding;", Cond.fieldLink RX4 189 "SavingsHall$Trade" "day" "I", Cond.fieldLink RX4 148 "SavingsHall$Trade" "parts" "J", Cond.fieldLink RX4 195 "SavingsHall$Trade" "partsLeft" "J", Cond.fieldLink RX4 199 "SavingsHall$Trade" "costLeft" "J", Cond.methodLink RX4 272 yX3_isSale, Cond.methodLink RX4 276 yX4_yearOf, Cond.static yX4_yearOf, Cond.code yX4_yearOf cX4_yearOf 1 (some .int), Cond.methodLink RX4 280 yX4_takeCostFromLots, Cond.instanceMethod yX4_takeCostFromLots, Cond.selects RX4 yX4_takeCostFromLots yX4_takeCostFromLots, Cond.code yX4_takeCostFromLots cX4_takeCostFromLots 12 (some .long), Cond.classLink RX4 135 "SavingsHall$Trade", Cond.methodLink RX4 254 Lib.MathLoose.min_long.x, Cond.static Lib.MathLoose.min_long.x, Cond.code Lib.MathLoose.min_long.x Lib.MathLoose.min_long.code 4 (some .long), Cond.methodLink RX4 284 yX4_addGain, Cond.static yX4_addGain, Cond.code yX4_addGain cX4_addGain 4 none, Cond.fieldLink RX4 204 "SavingsHall$Client" "gains" "[J"]
def wsL_does_r12 : List Cond := [Cond.methodLink RL 29 yX4_sell, Cond.instanceMethod yX4_sell, Cond.selects RX4 yX4_sell yX4_sell, Cond.code yX4_sell cX4_sell 7 (some .int), Cond.constant RX4 108 (1000000000), Cond.constantLong RX4 115 (1000000000), Cond.methodLink RX4 112 yX4_amountFor, Cond.static yX4_amountFor, Cond.code yX4_amountFor cX4_amountFor 3 (some .long), Cond.methodLink RL 32 yX4_balance, Cond.instanceMethod yX4_balance, Cond.selects RX4 yX4_balance yX4_balance, Cond.code yX4_balance cX4_balance 7 (some .int), Cond.constantLong RX4 121 (100000000), Cond.methodLink RX4 117 yX4_wealthOf, Cond.static yX4_wealthOf, Cond.code yX4_wealthOf cX4_wealthOf 4 (some .long), Cond.methodLink RX4 244 yX4_worthOf, Cond.static yX4_worthOf, Cond.code yX4_worthOf cX4_worthOf 1 (some .long), Cond.methodLink RX4 123 yX4_sellTooMuch, Cond.instanceMethod yX4_sellTooMuch, Cond.selects RX4 yX4_sellTooMuch yX4_sellTooMuch, Cond.code yX4_sellTooMuch cX4_sellTooMuch 10 none]
def wsL_does_r13 : List Cond := [Cond.methodLink RX4 250 yX4_targetOf, Cond.static yX4_targetOf, Cond.code yX4_targetOf cX4_targetOf 3 (some .long), Cond.constantLong RX4 248 (100), Cond.methodLink RX4 127 yX4_buyWhatLacks, Cond.instanceMethod yX4_buyWhatLacks, Cond.selects RX4 yX4_buyWhatLacks yX4_buyWhatLacks, Cond.code yX4_buyWhatLacks cX4_buyWhatLacks 12 none, Cond.methodLink RL 36 yX4_complain, Cond.instanceMethod yX4_complain, Cond.selects RX4 yX4_complain yX4_complain, Cond.code yX4_complain cX4_complain 4 (some .long), Cond.fieldLink RX4 134 "SavingsHall$Trade" "stands" "Z", Cond.methodLink RX4 130 yX4_tradeAt, Cond.instanceMethod yX4_tradeAt, Cond.selects RX4 yX4_tradeAt yX4_tradeAt, Cond.code yX4_tradeAt cX4_tradeAt 2 (some (.object "SavingsHall$Trade")), Cond.methodLink RX4 140 yX4_salesKeepTheirParts, Cond.instanceMethod yX4_salesKeepTheirParts, Cond.selects RX4 yX4_salesKeepTheirParts yX4_salesKeepTheirParts, Cond.code yX4_salesKeepTheirParts cX4_salesKeepTheirParts 6 (some .boolean), Cond.methodLink RX4 157 yX4_findLotsAnew, Cond.instanceMethod yX4_findLotsAnew, Cond.selects RX4 yX4_findLotsAnew yX4_findLotsAnew]
def wsL_does_r14 : List Cond := [Cond.code yX4_findLotsAnew cX4_findLotsAnew 4 none, Cond.methodLink RX4 288 yJ7_fill_d0a16, Cond.static yJ7_fill_d0a16, Cond.code yJ7_fill_d0a16 cJ7_fill_d0a16 5 none, Cond.methodLink RX4 161 yX4_settleTaxes, Cond.instanceMethod yX4_settleTaxes, Cond.selects RX4 yX4_settleTaxes yX4_settleTaxes, Cond.code yX4_settleTaxes cX4_settleTaxes 7 (some .long), Cond.fieldLink RX4 208 "SavingsHall$Client" "taxesPaid" "[J", Cond.constantLong RX4 215 (4), Cond.methodLink RX4 211 yX4_baseOf, Cond.static yX4_baseOf, Cond.code yX4_baseOf cX4_baseOf 5 (some .long), Cond.methodLink RX4 294 Lib.MathLoose.max_long.x, Cond.static Lib.MathLoose.max_long.x, Cond.code Lib.MathLoose.max_long.x Lib.MathLoose.max_long.code 4 (some .long), Cond.methodLink RL 40 yX4_pass, Cond.instanceMethod yX4_pass, Cond.selects RX4 yX4_pass yX4_pass, Cond.code yX4_pass cX4_pass 3 (some .int), Cond.methodLink RX4 167 yX4_endDay, Cond.instanceMethod yX4_endDay, Cond.selects RX4 yX4_endDay yX4_endDay, Cond.code yX4_endDay cX4_endDay 3 none]
def wsL_does_r15 : List Cond := [Cond.methodLink RL 43 yX4_tradeOf, Cond.instanceMethod yX4_tradeOf, Cond.selects RX4 yX4_tradeOf yX4_tradeOf, Cond.code yX4_tradeOf cX4_tradeOf 4 (some .long), Cond.fieldLink RX4 179 "SavingsHall$Client" "number" "I", Cond.fieldLink RX4 182 "SavingsHall$Fund" "number" "I", Cond.fieldLink RX4 183 "SavingsHall$Trade" "amount" "J", Cond.fieldLink RX4 186 "SavingsHall$Trade" "costs" "J", Cond.methodLink RL 46 yX4_year, Cond.instanceMethod yX4_year, Cond.selects RX4 yX4_year yX4_year, Cond.code yX4_year cX4_year 5 (some .long), Cond.methodLink RL 50 yX4_lot, Cond.instanceMethod yX4_lot, Cond.selects RX4 yX4_lot yX4_lot, Cond.code yX4_lot cX4_lot 9 (some .long), Cond.constantLong RX4 202 (-1), Cond.methodLink RL 54 yX4_parts, Cond.instanceMethod yX4_parts, Cond.selects RX4 yX4_parts yX4_parts, Cond.code yX4_parts cX4_parts 3 (some .long)]
def wsL_does : List Cond := .codeWith yL_does cL_does 6 (some .long) [(0, 192, 193, 57), (0, 192, 199, 61), (0, 192, 205, 65)] :: ((wsL_does_r1 ++ (wsL_does_r2 ++ (wsL_does_r3 ++ (wsL_does_r4 ++ (wsL_does_r5 ++ (wsL_does_r6 ++ (wsL_does_r7 ++ (wsL_does_r8 ++ (wsL_does_r9 ++ (wsL_does_r10 ++ (wsL_does_r11 ++ (wsL_does_r12 ++ (wsL_does_r13 ++ (wsL_does_r14 ++ wsL_does_r15)))))))))))))) ++ wsX10 ++ wsX40 ++ wsJx4a65c0 ++ wsX00 ++ wsX20 ++ wsX30 ++ (vx_atS RX4 221 "java/lang/IndexOutOfBoundsException" ["java/lang/RuntimeException", "java/lang/Exception"]).filter goodWord ++ (vx_atS RX4 228 "java/lang/IllegalArgumentException" ["java/lang/RuntimeException", "java/lang/Exception"]).filter goodWord ++ (vx_atS RX4 233 "java/lang/IllegalStateException" ["java/lang/RuntimeException", "java/lang/Exception"]).filter goodWord)
def wsL_costs : List Cond := .code yL_costs cL_costs 2 (some .long) :: ([.constantLong RL 69 (10000), .constantLong RL 71 (100), .constantLong RL 73 (100000), .constantLong RL 75 (200), .constantLong RL 77 (500)])
def wsL_moves : List Cond := .code yL_moves cL_moves 11 none :: ([.constantLong RL 79 (999), .constantLong RL 81 (1000)])
def wsL_trades : List Cond := .code yL_trades cL_trades 15 none :: ([.methodLink RL 83 yL_costs, .static yL_costs, .initialized RL, .code yL_costs cL_costs 2 (some .long), .constantLong RL 69 (10000), .constantLong RL 71 (100), .constantLong RL 73 (100000), .constantLong RL 75 (200), .constantLong RL 77 (500), .methodLink RL 89 yL_moves, .static yL_moves, .code yL_moves cL_moves 11 none, .constantLong RL 79 (999), .constantLong RL 81 (1000)])
def wsL_goes : List Cond := .code yL_goes cL_goes 19 (some .boolean) :: ([.constant RL 93 (524288), .methodLink RL 83 yL_costs, .static yL_costs, .initialized RL, .code yL_costs cL_costs 2 (some .long), .constantLong RL 69 (10000), .constantLong RL 71 (100), .constantLong RL 73 (100000), .constantLong RL 75 (200), .constantLong RL 77 (500)])
def wsL_taxes : List Cond := .code yL_taxes cL_taxes 12 none :: ([.methodLink RL 94 yL_goes, .static yL_goes, .initialized RL, .code yL_goes cL_goes 19 (some .boolean), .constant RL 93 (524288), .methodLink RL 83 yL_costs, .static yL_costs, .code yL_costs cL_costs 2 (some .long), .constantLong RL 69 (10000), .constantLong RL 71 (100), .constantLong RL 73 (100000), .constantLong RL 75 (200), .constantLong RL 77 (500)])
def wsL_wealth : List Cond := .code yL_wealth cL_wealth 7 (some .long) :: ([.constantLong RL 81 (1000)])
def wsL_balances : List Cond := .code yL_balances cL_balances 24 (some .int) :: ([.constantLong RL 71 (100), .constantLong RL 81 (1000), .methodLink RL 98 yL_wealth, .static yL_wealth, .initialized RL, .code yL_wealth cL_wealth 7 (some .long), .methodLink RL 102 yL_trades, .static yL_trades, .code yL_trades cL_trades 15 none, .methodLink RL 83 yL_costs, .static yL_costs, .code yL_costs cL_costs 2 (some .long), .constantLong RL 69 (10000), .constantLong RL 73 (100000), .constantLong RL 75 (200), .constantLong RL 77 (500), .methodLink RL 89 yL_moves, .static yL_moves, .code yL_moves cL_moves 11 none, .constantLong RL 79 (999)])
def wsL_isSo_r1 : List Cond := [Cond.constantLong RL 81 (1000), Cond.constant RL 93 (524288), Cond.constantLong RL 118 (4), Cond.constantLong RL 120 (-1), Cond.constantLong RL 59 (-3000000000000), Cond.methodLink RL 106 yX4_cash, Cond.instanceMethod yX4_cash, Cond.selects RX4 yX4_cash yX4_cash, Cond.initialized RX4, Cond.code yX4_cash cX4_cash 2 (some .long), Cond.fieldLink RX4 170 "SavingsHall" "houseMoney" "J", Cond.fieldLink RX4 73 "SavingsHall$Client" "cash" "J", Cond.methodLink RX4 67 yX4_clientAt, Cond.instanceMethod yX4_clientAt, Cond.selects RX4 yX4_clientAt yX4_clientAt, Cond.code yX4_clientAt cX4_clientAt 2 (some (.object "SavingsHall$Client")), Cond.fieldLink RX4 16 "SavingsHall" "clients" "Ljava/util/ArrayList;", Cond.classLink RX4 52 "SavingsHall$Client", Cond.methodLink RX4 44 yJx4a65c_size_8abf5, Cond.instanceMethod yJx4a65c_size_8abf5, Cond.selects RJx4a65c yJx4a65c_size_8abf5 yJx4a65c_size_8abf5, Cond.initialized RJx4a65c, Cond.code yJx4a65c_size_8abf5 cJx4a65c_size_8abf5 1 (some .int), Cond.fieldLink RJx4a65c 48 "java/util/ArrayList" "size" "I"]
def wsL_isSo_r2 : List Cond := [Cond.methodLink RX4 192 yX4_checkExists, Cond.static yX4_checkExists, Cond.code yX4_checkExists cX4_checkExists 1 none, Cond.classLink RX4 217 "java/lang/IndexOutOfBoundsException", Cond.initialized "java/lang/IndexOutOfBoundsException", Cond.methodLink RX4 60 yJx4a65c_get_915e3, Cond.instanceMethod yJx4a65c_get_915e3, Cond.selects RJx4a65c yJx4a65c_get_915e3 yJx4a65c_get_915e3, Cond.code yJx4a65c_get_915e3 cJx4a65c_get_915e3 2 (some (.object "java/lang/Object")), Cond.methodLink RJx4a65c 118 yJ15_checkIndex_7cf53, Cond.static yJ15_checkIndex_7cf53, Cond.initialized RJ15, Cond.code yJ15_checkIndex_7cf53 cJ15_checkIndex_7cf53 2 (some .int), Cond.methodLink RJ15 105 yJ3_checkIndex_8e157, Cond.static yJ3_checkIndex_8e157, Cond.initialized RJ3, Cond.code yJ3_checkIndex_8e157 cJ3_checkIndex_8e157 3 (some .int), Cond.methodLink RJx4a65c 123 yJx4a65c_elementData_915e3, Cond.instanceMethod yJx4a65c_elementData_915e3, Cond.selects RJx4a65c yJx4a65c_elementData_915e3 yJx4a65c_elementData_915e3, Cond.code yJx4a65c_elementData_915e3 cJx4a65c_elementData_915e3 2 (some (.object "java/lang/Object")), Cond.fieldLink RJx4a65c 9 "java/util/ArrayList" "elementData" "[Ljava/lang/Object;", Cond.methodLink RL 54 yX4_parts, Cond.instanceMethod yX4_parts]
def wsL_isSo_r3 : List Cond := [Cond.selects RX4 yX4_parts yX4_parts, Cond.code yX4_parts cX4_parts 3 (some .long), Cond.fieldLink RX4 173 "SavingsHall$Fund" "stock" "J", Cond.fieldLink RX4 109 "SavingsHall$Holding" "parts" "J", Cond.methodLink RX4 31 yX4_fundAt, Cond.instanceMethod yX4_fundAt, Cond.selects RX4 yX4_fundAt yX4_fundAt, Cond.code yX4_fundAt cX4_fundAt 2 (some (.object "SavingsHall$Fund")), Cond.fieldLink RX4 10 "SavingsHall" "funds" "Ljava/util/ArrayList;", Cond.classLink RX4 22 "SavingsHall$Fund", Cond.methodLink RX4 77 yX4_holdingAt, Cond.instanceMethod yX4_holdingAt, Cond.selects RX4 yX4_holdingAt yX4_holdingAt, Cond.code yX4_holdingAt cX4_holdingAt 4 (some (.object "SavingsHall$Holding")), Cond.fieldLink RX4 55 "SavingsHall$Client" "holdings" "Ljava/util/ArrayList;", Cond.classLink RX4 58 "SavingsHall$Holding", Cond.methodLink RL 109 yX4_units, Cond.instanceMethod yX4_units, Cond.selects RX4 yX4_units yX4_units, Cond.code yX4_units cX4_units 2 (some .long), Cond.fieldLink RX4 176 "SavingsHall$Fund" "units" "J", Cond.methodLink RL 112 yX4_wealth, Cond.instanceMethod yX4_wealth, Cond.selects RX4 yX4_wealth yX4_wealth]
def wsL_isSo_r4 : List Cond := [Cond.code yX4_wealth cX4_wealth 2 (some .long), Cond.methodLink RX4 117 yX4_wealthOf, Cond.static yX4_wealthOf, Cond.code yX4_wealthOf cX4_wealthOf 4 (some .long), Cond.methodLink RX4 244 yX4_worthOf, Cond.static yX4_worthOf, Cond.code yX4_worthOf cX4_worthOf 1 (some .long), Cond.fieldLink RX4 92 "SavingsHall$Holding" "fund" "LSavingsHall$Fund;", Cond.methodLink RX4 112 yX4_amountFor, Cond.static yX4_amountFor, Cond.code yX4_amountFor cX4_amountFor 3 (some .long), Cond.fieldLink RX4 40 "SavingsHall$Fund" "price" "I", Cond.constantLong RX4 234 (1000), Cond.methodLink RL 98 yL_wealth, Cond.static yL_wealth, Cond.initialized RL, Cond.code yL_wealth cL_wealth 7 (some .long), Cond.methodLink RL 43 yX4_tradeOf, Cond.instanceMethod yX4_tradeOf, Cond.selects RX4 yX4_tradeOf yX4_tradeOf, Cond.code yX4_tradeOf cX4_tradeOf 4 (some .long), Cond.fieldLink RX4 144 "SavingsHall$Trade" "holding" "LSavingsHall$Holding;", Cond.fieldLink RX4 81 "SavingsHall$Holding" "client" "LSavingsHall$Client;", Cond.fieldLink RX4 179 "SavingsHall$Client" "number" "I"]
def wsL_isSo_r5 : List Cond := [Cond.fieldLink RX4 182 "SavingsHall$Fund" "number" "I", Cond.fieldLink RX4 148 "SavingsHall$Trade" "parts" "J", Cond.fieldLink RX4 183 "SavingsHall$Trade" "amount" "J", Cond.fieldLink RX4 186 "SavingsHall$Trade" "costs" "J", Cond.fieldLink RX4 189 "SavingsHall$Trade" "day" "I", Cond.fieldLink RX4 134 "SavingsHall$Trade" "stands" "Z", Cond.methodLink RX4 130 yX4_tradeAt, Cond.instanceMethod yX4_tradeAt, Cond.selects RX4 yX4_tradeAt yX4_tradeAt, Cond.code yX4_tradeAt cX4_tradeAt 2 (some (.object "SavingsHall$Trade")), Cond.fieldLink RX4 19 "SavingsHall" "trades" "Ljava/util/ArrayList;", Cond.classLink RX4 135 "SavingsHall$Trade", Cond.methodLink RX4 36 yX4_checkRange, Cond.static yX4_checkRange, Cond.code yX4_checkRange cX4_checkRange 3 none, Cond.classLink RX4 224 "java/lang/IllegalArgumentException", Cond.initialized "java/lang/IllegalArgumentException", Cond.methodLink RL 83 yL_costs, Cond.static yL_costs, Cond.code yL_costs cL_costs 2 (some .long), Cond.constantLong RL 69 (10000), Cond.constantLong RL 71 (100), Cond.constantLong RL 73 (100000), Cond.constantLong RL 75 (200)]
def wsL_isSo_r6 : List Cond := [Cond.constantLong RL 77 (500), Cond.methodLink RL 114 yL_taxes, Cond.static yL_taxes, Cond.code yL_taxes cL_taxes 12 none, Cond.methodLink RL 94 yL_goes, Cond.static yL_goes, Cond.code yL_goes cL_goes 19 (some .boolean), Cond.methodLink RL 46 yX4_year, Cond.instanceMethod yX4_year, Cond.selects RX4 yX4_year yX4_year, Cond.code yX4_year cX4_year 5 (some .long), Cond.fieldLink RX4 204 "SavingsHall$Client" "gains" "[J", Cond.fieldLink RX4 208 "SavingsHall$Client" "taxesPaid" "[J", Cond.constantLong RX4 215 (4), Cond.methodLink RX4 211 yX4_baseOf, Cond.static yX4_baseOf, Cond.code yX4_baseOf cX4_baseOf 5 (some .long), Cond.methodLink RX4 254 Lib.MathLoose.min_long.x, Cond.static Lib.MathLoose.min_long.x, Cond.initialized "java/lang/Math", Cond.code Lib.MathLoose.min_long.x Lib.MathLoose.min_long.code 4 (some .long), Cond.methodLink RX4 294 Lib.MathLoose.max_long.x, Cond.static Lib.MathLoose.max_long.x, Cond.code Lib.MathLoose.max_long.x Lib.MathLoose.max_long.code 4 (some .long)]
def wsL_isSo_r7 : List Cond := [Cond.methodLink RL 50 yX4_lot, Cond.instanceMethod yX4_lot, Cond.selects RX4 yX4_lot yX4_lot, Cond.code yX4_lot cX4_lot 9 (some .long), Cond.fieldLink RX4 195 "SavingsHall$Trade" "partsLeft" "J", Cond.fieldLink RX4 198 "SavingsHall$Trade" "number" "I", Cond.fieldLink RX4 199 "SavingsHall$Trade" "costLeft" "J", Cond.constantLong RX4 202 (-1), Cond.methodLink RL 122 yL_does, Cond.static yL_does, Cond.codeWith yL_does cL_does 6 (some .long) [(0, 192, 193, 57), (0, 192, 199, 61), (0, 192, 205, 65)], Cond.classLink RL 57 "java/lang/IndexOutOfBoundsException", Cond.classLink RL 61 "java/lang/IllegalArgumentException", Cond.classLink RL 65 "java/lang/IllegalStateException", Cond.constantLong RL 63 (-2000000000000), Cond.constantLong RL 67 (-1000000000000), Cond.methodLink RL 8 yX4_price, Cond.instanceMethod yX4_price, Cond.selects RX4 yX4_price yX4_price, Cond.code yX4_price cX4_price 5 (some .int), Cond.constant RX4 35 (1000000), Cond.methodLink RL 14 yX4_client, Cond.instanceMethod yX4_client, Cond.selects RX4 yX4_client yX4_client]
def wsL_isSo_r8 : List Cond := [Cond.code yX4_client cX4_client 4 (some .int), Cond.classLink RX4 52 RX0, Cond.instantiable RX0 5, Cond.initialized RX0, Cond.classLink RX4 58 RX2, Cond.instantiable RX2 4, Cond.initialized RX2, Cond.methodLink RX4 48 yX4_checkPossible, Cond.static yX4_checkPossible, Cond.code yX4_checkPossible cX4_checkPossible 1 none, Cond.classLink RX4 229 "java/lang/IllegalStateException", Cond.initialized "java/lang/IllegalStateException", Cond.methodLink RX4 54 yX0_init, Cond.instanceMethod yX0_init, Cond.code yX0_init cX0_init 2 none, Cond.methodLink RX0 3 objectInit, Cond.instanceMethod objectInit, Cond.code objectInit ⟨#[0xb1]⟩ 1 none, Cond.fieldLink RX0 9 "SavingsHall$Client" "number" "I", Cond.classLink RX0 15 RJx4a65c, Cond.instantiable RJx4a65c 3, Cond.fieldLink RX0 18 "SavingsHall$Client" "holdings" "Ljava/util/ArrayList;", Cond.arrayClass .long, Cond.fieldLink RX0 22 "SavingsHall$Client" "gains" "[J"]
def wsL_isSo_r9 : List Cond := [Cond.fieldLink RX0 26 "SavingsHall$Client" "taxesPaid" "[J", Cond.methodLink RX0 17 yJx4a65c_init_da8c8, Cond.instanceMethod yJx4a65c_init_da8c8, Cond.code yJx4a65c_init_da8c8 cJx4a65c_init_da8c8 1 none, Cond.fieldLink RJx4a65c 39 "java/util/ArrayList" "DEFAULTCAPACITY_EMPTY_ELEMENTDATA" "[Ljava/lang/Object;", Cond.methodLink RJx4a65c 1 yJxc12de_init_da8c8, Cond.instanceMethod yJxc12de_init_da8c8, Cond.initialized RJxc12de, Cond.code yJxc12de_init_da8c8 cJxc12de_init_da8c8 1 none, Cond.fieldLink RJxc12de 7 "java/util/AbstractList" "modCount" "I", Cond.methodLink RJxc12de 1 yJxa1e45_init_da8c8, Cond.instanceMethod yJxa1e45_init_da8c8, Cond.initialized RJxa1e45, Cond.code yJxa1e45_init_da8c8 cJxa1e45_init_da8c8 1 none, Cond.methodLink RJxa1e45 1 objectInit, Cond.methodLink RX4 64 yX2_init, Cond.instanceMethod yX2_init, Cond.code yX2_init cX2_init 3 none, Cond.methodLink RX2 1 objectInit, Cond.fieldLink RX2 7 "SavingsHall$Holding" "client" "LSavingsHall$Client;", Cond.fieldLink RX2 13 "SavingsHall$Holding" "fund" "LSavingsHall$Fund;", Cond.methodLink RX4 27 yJx4a65c_add_9ea2d, Cond.instanceMethod yJx4a65c_add_9ea2d, Cond.selects RJx4a65c yJx4a65c_add_9ea2d yJx4a65c_add_9ea2d]
def wsL_isSo_r10 : List Cond := [Cond.code yJx4a65c_add_9ea2d cJx4a65c_add_9ea2d 2 (some .boolean), Cond.fieldLink RJx4a65c 63 "java/util/ArrayList" "modCount" "I", Cond.sameField "java/util/ArrayList" "java/util/AbstractList" "modCount" "I", Cond.methodLink RJx4a65c 131 yJx4a65c_add_72be8, Cond.instanceMethod yJx4a65c_add_72be8, Cond.selects RJx4a65c yJx4a65c_add_72be8 yJx4a65c_add_72be8, Cond.code yJx4a65c_add_72be8 cJx4a65c_add_72be8 4 none, Cond.methodLink RJx4a65c 129 yJx4a65c_grow_d5877, Cond.instanceMethod yJx4a65c_grow_d5877, Cond.selects RJx4a65c yJx4a65c_grow_d5877 yJx4a65c_grow_d5877, Cond.code yJx4a65c_grow_d5877 cJx4a65c_grow_d5877 1 (some (.array (.object "java/lang/Object"))), Cond.methodLink RJx4a65c 69 yJx4a65c_grow_92f84, Cond.instanceMethod yJx4a65c_grow_92f84, Cond.selects RJx4a65c yJx4a65c_grow_92f84 yJx4a65c_grow_92f84, Cond.code yJx4a65c_grow_92f84 cJx4a65c_grow_92f84 4 (some (.array (.object "java/lang/Object"))), Cond.methodLink RJx4a65c 79 Lib.Math.max.name, Cond.static Lib.Math.max.name, Cond.code Lib.Math.max.name Lib.Math.max.code 2 (some .int), Cond.classLink RJx4a65c 7 "java/lang/Object", Cond.methodLink RJx4a65c 73 yJ8_newLength_cabcc, Cond.static yJ8_newLength_cabcc, Cond.initialized RJ8, Cond.code yJ8_newLength_cabcc cJ8_newLength_cabcc 4 (some .int), Cond.methodLink RJ8 194 Lib.Math.max.name]
def wsL_isSo_r11 : List Cond := [Cond.constant RJ8 200 (2147483639), Cond.methodLink RJ8 201 yJ8_hugeLength_7cf53, Cond.static yJ8_hugeLength_7cf53, Cond.code yJ8_hugeLength_7cf53 cJ8_hugeLength_7cf53 3 (some .int), Cond.methodLink RJx4a65c 66 yJ7_copyOf_1904c, Cond.static yJ7_copyOf_1904c, Cond.initialized RJ7, Cond.code yJ7_copyOf_1904c cJ7_copyOf_1904c 2 (some (.array (.object "java/lang/Object"))), Cond.methodLink RJ7 86 ⟨"java/lang/Object", "getClass", "()Ljava/lang/Class;"⟩, Cond.selects "[Ljava/lang/Object;" ⟨"java/lang/Object", "getClass", "()Ljava/lang/Class;"⟩ ⟨"java/lang/Object", "getClass", "()Ljava/lang/Class;"⟩, Cond.instanceMethod ⟨"java/lang/Object", "getClass", "()Ljava/lang/Class;"⟩, Cond.native ⟨"java/lang/Object", "getClass", "()Ljava/lang/Class;"⟩, Cond.methodLink RJ7 300 yJ7_copyOf_6403c, Cond.static yJ7_copyOf_6403c, Cond.code yJ7_copyOf_6403c cJ7_copyOf_6403c 4 (some (.array (.object "java/lang/Object"))), Cond.classLink RJ7 110 "[Ljava/lang/Object;", Cond.classLink RJ7 2 "java/lang/Object", Cond.methodLink RJ7 304 Lib.Math.min.name, Cond.static Lib.Math.min.name, Cond.code Lib.Math.min.name Lib.Math.min.code 2 (some .int), Cond.methodLink RJ7 150 arraycopyName, Cond.native arraycopyName, Cond.static arraycopyName, Cond.initialized "java/lang/System"]
def wsL_isSo_r12 : List Cond := [Cond.methodLink RL 18 yX4_pay, Cond.instanceMethod yX4_pay, Cond.selects RX4 yX4_pay yX4_pay, Cond.code yX4_pay cX4_pay 4 (some .long), Cond.constant RX4 71 (-10000000), Cond.constant RX4 72 (10000000), Cond.methodLink RL 22 yX4_goal, Cond.instanceMethod yX4_goal, Cond.selects RX4 yX4_goal yX4_goal, Cond.code yX4_goal cX4_goal 6 (some .int), Cond.fieldLink RX4 89 "SavingsHall$Holding" "hundredths" "I", Cond.methodLink RX4 85 yX4_hundredthsTogether, Cond.static yX4_hundredthsTogether, Cond.code yX4_hundredthsTogether cX4_hundredthsTogether 3 (some .int), Cond.methodLink RL 26 yX4_buy, Cond.instanceMethod yX4_buy, Cond.selects RX4 yX4_buy yX4_buy, Cond.code yX4_buy cX4_buy 7 (some .int), Cond.methodLink RX4 96 yX4_partsFor, Cond.static yX4_partsFor, Cond.code yX4_partsFor cX4_partsFor 3 (some .long), Cond.methodLink RX4 236 yX4_cutQuotient, Cond.static yX4_cutQuotient, Cond.code yX4_cutQuotient cX4_cutQuotient 4 (some .long)]
def wsL_isSo_r13 : List Cond := [Cond.methodLink RX4 100 yX4_costsOf, Cond.static yX4_costsOf, Cond.code yX4_costsOf cX4_costsOf 3 (some .long), Cond.constantLong RX4 240 (10000), Cond.constantLong RX4 242 (100000), Cond.methodLink RX4 104 yX4_makeTrade, Cond.instanceMethod yX4_makeTrade, Cond.selects RX4 yX4_makeTrade yX4_makeTrade, Cond.code yX4_makeTrade cX4_makeTrade 7 (some .int), Cond.classLink RX4 135 RX3, Cond.instantiable RX3 9, Cond.initialized RX3, Cond.fieldLink RX4 164 "SavingsHall" "today" "I", Cond.methodLink RX4 259 yX3_init, Cond.instanceMethod yX3_init, Cond.code yX3_init cX3_init 10 none, Cond.methodLink RX3 1 objectInit, Cond.fieldLink RX3 7 "SavingsHall$Trade" "number" "I", Cond.fieldLink RX3 13 "SavingsHall$Trade" "holding" "LSavingsHall$Holding;", Cond.fieldLink RX3 17 "SavingsHall$Trade" "day" "I", Cond.fieldLink RX3 20 "SavingsHall$Trade" "parts" "J", Cond.fieldLink RX3 24 "SavingsHall$Trade" "amount" "J", Cond.fieldLink RX3 27 "SavingsHall$Trade" "costs" "J", Cond.fieldLink RX3 30 "SavingsHall$Trade" "stands" "Z"]
def wsL_isSo_r14 : List Cond := [Cond.methodLink RX4 149 yX3_paid, Cond.instanceMethod yX3_paid, Cond.selects RX3 yX3_paid yX3_paid, Cond.code yX3_paid cX3_paid 1 (some .long), Cond.methodLink RX3 34 yX3_isSale, Cond.instanceMethod yX3_isSale, Cond.selects RX3 yX3_isSale yX3_isSale, Cond.code yX3_isSale cX3_isSale 1 (some .boolean), Cond.methodLink RX4 153 yX4_exchange, Cond.instanceMethod yX4_exchange, Cond.selects RX4 yX4_exchange yX4_exchange, Cond.code yX4_exchange cX4_exchange 7 none, Cond.constantLong RX4 266 (999), Cond.methodLink RX4 268 yX4_tradeUnits, Cond.instanceMethod yX4_tradeUnits, Cond.selects RX4 yX4_tradeUnits yX4_tradeUnits, Cond.code yX4_tradeUnits cX4_tradeUnits 4 none, Cond.methodLink RX4 262 yX4_enterIntoLots, Cond.instanceMethod yX4_enterIntoLots, Cond.selects RX4 yX4_enterIntoLots yX4_enterIntoLots, Cond.code yX4_enterIntoLots cX4_enterIntoLots 2 none, Cond.methodLink RX4 272 yX3_isSale, Cond.methodLink RX4 276 yX4_yearOf, Cond.static yX4_yearOf]
def wsL_isSo_r15 : List Cond := [Cond.code yX4_yearOf cX4_yearOf 1 (some .int), Cond.methodLink RX4 280 yX4_takeCostFromLots, Cond.instanceMethod yX4_takeCostFromLots, Cond.selects RX4 yX4_takeCostFromLots yX4_takeCostFromLots, Cond.code yX4_takeCostFromLots cX4_takeCostFromLots 12 (some .long), Cond.methodLink RX4 284 yX4_addGain, Cond.static yX4_addGain, Cond.code yX4_addGain cX4_addGain 4 none, Cond.methodLink RL 29 yX4_sell, Cond.instanceMethod yX4_sell, Cond.selects RX4 yX4_sell yX4_sell, Cond.code yX4_sell cX4_sell 7 (some .int), Cond.constant RX4 108 (1000000000), Cond.constantLong RX4 115 (1000000000), Cond.methodLink RL 32 yX4_balance, Cond.instanceMethod yX4_balance, Cond.selects RX4 yX4_balance yX4_balance, Cond.code yX4_balance cX4_balance 7 (some .int), Cond.constantLong RX4 121 (100000000), Cond.methodLink RX4 123 yX4_sellTooMuch, Cond.instanceMethod yX4_sellTooMuch, Cond.selects RX4 yX4_sellTooMuch yX4_sellTooMuch, Cond.code yX4_sellTooMuch cX4_sellTooMuch 10 none, Cond.methodLink RX4 250 yX4_targetOf]
def wsL_isSo_r16 : List Cond := [Cond.static yX4_targetOf, Cond.code yX4_targetOf cX4_targetOf 3 (some .long), Cond.constantLong RX4 248 (100), Cond.methodLink RX4 127 yX4_buyWhatLacks, Cond.instanceMethod yX4_buyWhatLacks, Cond.selects RX4 yX4_buyWhatLacks yX4_buyWhatLacks, Cond.code yX4_buyWhatLacks cX4_buyWhatLacks 12 none, Cond.methodLink RL 36 yX4_complain, Cond.instanceMethod yX4_complain, Cond.selects RX4 yX4_complain yX4_complain, Cond.code yX4_complain cX4_complain 4 (some .long), Cond.methodLink RX4 140 yX4_salesKeepTheirParts, Cond.instanceMethod yX4_salesKeepTheirParts, Cond.selects RX4 yX4_salesKeepTheirParts yX4_salesKeepTheirParts, Cond.code yX4_salesKeepTheirParts cX4_salesKeepTheirParts 6 (some .boolean), Cond.methodLink RX4 157 yX4_findLotsAnew, Cond.instanceMethod yX4_findLotsAnew, Cond.selects RX4 yX4_findLotsAnew yX4_findLotsAnew, Cond.code yX4_findLotsAnew cX4_findLotsAnew 4 none, Cond.methodLink RX4 288 yJ7_fill_d0a16, Cond.static yJ7_fill_d0a16, Cond.code yJ7_fill_d0a16 cJ7_fill_d0a16 5 none, Cond.methodLink RX4 161 yX4_settleTaxes, Cond.instanceMethod yX4_settleTaxes]
def wsL_isSo_r17 : List Cond := [Cond.selects RX4 yX4_settleTaxes yX4_settleTaxes, Cond.code yX4_settleTaxes cX4_settleTaxes 7 (some .long), Cond.methodLink RL 40 yX4_pass, Cond.instanceMethod yX4_pass, Cond.selects RX4 yX4_pass yX4_pass, Cond.code yX4_pass cX4_pass 3 (some .int), Cond.methodLink RX4 167 yX4_endDay, Cond.instanceMethod yX4_endDay, Cond.selects RX4 yX4_endDay yX4_endDay, Cond.code yX4_endDay cX4_endDay 3 none]
def wsL_isSo : List Cond := .code yL_isSo cL_isSo 19 (some .boolean) :: ((wsL_isSo_r1 ++ (wsL_isSo_r2 ++ (wsL_isSo_r3 ++ (wsL_isSo_r4 ++ (wsL_isSo_r5 ++ (wsL_isSo_r6 ++ (wsL_isSo_r7 ++ (wsL_isSo_r8 ++ (wsL_isSo_r9 ++ (wsL_isSo_r10 ++ (wsL_isSo_r11 ++ (wsL_isSo_r12 ++ (wsL_isSo_r13 ++ (wsL_isSo_r14 ++ (wsL_isSo_r15 ++ (wsL_isSo_r16 ++ wsL_isSo_r17)))))))))))))))) ++ wsX40 ++ wsX00 ++ wsJx4a65c0 ++ wsX10 ++ wsX20 ++ wsX30 ++ (vx_atS RX4 221 "java/lang/IndexOutOfBoundsException" ["java/lang/RuntimeException", "java/lang/Exception"]).filter goodWord ++ (vx_atS RX4 228 "java/lang/IllegalArgumentException" ["java/lang/RuntimeException", "java/lang/Exception"]).filter goodWord ++ (vx_atS RX4 233 "java/lang/IllegalStateException" ["java/lang/RuntimeException", "java/lang/Exception"]).filter goodWord)
def wsL_law0_r1 : List Cond := [Cond.classLink RL 9 RX4, Cond.instantiable RX4 5, Cond.initialized RX4, Cond.arrayClass .int, Cond.arrayClass .long, Cond.constantLong RL 59 (-3000000000000), Cond.constantLong RL 63 (-2000000000000), Cond.constant RL 131 (60000), Cond.constant RL 132 (9990000), Cond.constantLong RL 67 (-1000000000000), Cond.constantLong RL 81 (1000), Cond.constantLong RL 133 (1000000000), Cond.constantLong RL 135 (7919), Cond.constant RL 137 (1000000000), Cond.constantLong RL 138 (100000000), Cond.constant RL 93 (524288), Cond.constantLong RL 118 (4), Cond.methodLink RL 126 yX4_init, Cond.instanceMethod yX4_init, Cond.code yX4_init cX4_init 2 none, Cond.methodLink RX4 1 objectInit, Cond.instanceMethod objectInit, Cond.code objectInit ⟨#[0xb1]⟩ 1 none, Cond.classLink RX4 7 RJx4a65c]
def wsL_law0_r2 : List Cond := [Cond.instantiable RJx4a65c 3, Cond.initialized RJx4a65c, Cond.fieldLink RX4 10 "SavingsHall" "funds" "Ljava/util/ArrayList;", Cond.fieldLink RX4 16 "SavingsHall" "clients" "Ljava/util/ArrayList;", Cond.fieldLink RX4 19 "SavingsHall" "trades" "Ljava/util/ArrayList;", Cond.classLink RX4 22 RX1, Cond.instantiable RX1 4, Cond.initialized RX1, Cond.methodLink RX4 9 yJx4a65c_init_da8c8, Cond.instanceMethod yJx4a65c_init_da8c8, Cond.code yJx4a65c_init_da8c8 cJx4a65c_init_da8c8 1 none, Cond.fieldLink RJx4a65c 39 "java/util/ArrayList" "DEFAULTCAPACITY_EMPTY_ELEMENTDATA" "[Ljava/lang/Object;", Cond.fieldLink RJx4a65c 9 "java/util/ArrayList" "elementData" "[Ljava/lang/Object;", Cond.methodLink RJx4a65c 1 yJxc12de_init_da8c8, Cond.instanceMethod yJxc12de_init_da8c8, Cond.initialized RJxc12de, Cond.code yJxc12de_init_da8c8 cJxc12de_init_da8c8 1 none, Cond.fieldLink RJxc12de 7 "java/util/AbstractList" "modCount" "I", Cond.methodLink RJxc12de 1 yJxa1e45_init_da8c8, Cond.instanceMethod yJxa1e45_init_da8c8, Cond.initialized RJxa1e45, Cond.code yJxa1e45_init_da8c8 cJxa1e45_init_da8c8 1 none, Cond.methodLink RJxa1e45 1 objectInit, Cond.methodLink RX4 24 yX1_init]
def wsL_law0_r3 : List Cond := [Cond.instanceMethod yX1_init, Cond.code yX1_init cX1_init 2 none, Cond.methodLink RX1 3 objectInit, Cond.fieldLink RX1 9 "SavingsHall$Fund" "number" "I", Cond.fieldLink RX1 15 "SavingsHall$Fund" "price" "I", Cond.methodLink RX4 27 yJx4a65c_add_9ea2d, Cond.instanceMethod yJx4a65c_add_9ea2d, Cond.selects RJx4a65c yJx4a65c_add_9ea2d yJx4a65c_add_9ea2d, Cond.code yJx4a65c_add_9ea2d cJx4a65c_add_9ea2d 2 (some .boolean), Cond.fieldLink RJx4a65c 63 "java/util/ArrayList" "modCount" "I", Cond.sameField "java/util/ArrayList" "java/util/AbstractList" "modCount" "I", Cond.fieldLink RJx4a65c 48 "java/util/ArrayList" "size" "I", Cond.methodLink RJx4a65c 131 yJx4a65c_add_72be8, Cond.instanceMethod yJx4a65c_add_72be8, Cond.selects RJx4a65c yJx4a65c_add_72be8 yJx4a65c_add_72be8, Cond.code yJx4a65c_add_72be8 cJx4a65c_add_72be8 4 none, Cond.methodLink RJx4a65c 129 yJx4a65c_grow_d5877, Cond.instanceMethod yJx4a65c_grow_d5877, Cond.selects RJx4a65c yJx4a65c_grow_d5877 yJx4a65c_grow_d5877, Cond.code yJx4a65c_grow_d5877 cJx4a65c_grow_d5877 1 (some (.array (.object "java/lang/Object"))), Cond.methodLink RJx4a65c 69 yJx4a65c_grow_92f84, Cond.instanceMethod yJx4a65c_grow_92f84, Cond.selects RJx4a65c yJx4a65c_grow_92f84 yJx4a65c_grow_92f84, Cond.code yJx4a65c_grow_92f84 cJx4a65c_grow_92f84 4 (some (.array (.object "java/lang/Object")))]
def wsL_law0_r4 : List Cond := [Cond.methodLink RJx4a65c 79 Lib.Math.max.name, Cond.static Lib.Math.max.name, Cond.initialized "java/lang/Math", Cond.code Lib.Math.max.name Lib.Math.max.code 2 (some .int), Cond.classLink RJx4a65c 7 "java/lang/Object", Cond.methodLink RJx4a65c 73 yJ8_newLength_cabcc, Cond.static yJ8_newLength_cabcc, Cond.initialized RJ8, Cond.code yJ8_newLength_cabcc cJ8_newLength_cabcc 4 (some .int), Cond.methodLink RJ8 194 Lib.Math.max.name, Cond.constant RJ8 200 (2147483639), Cond.methodLink RJ8 201 yJ8_hugeLength_7cf53, Cond.static yJ8_hugeLength_7cf53, Cond.code yJ8_hugeLength_7cf53 cJ8_hugeLength_7cf53 3 (some .int), Cond.methodLink RJx4a65c 66 yJ7_copyOf_1904c, Cond.static yJ7_copyOf_1904c, Cond.initialized RJ7, Cond.code yJ7_copyOf_1904c cJ7_copyOf_1904c 2 (some (.array (.object "java/lang/Object"))), Cond.methodLink RJ7 86 ⟨"java/lang/Object", "getClass", "()Ljava/lang/Class;"⟩, Cond.selects "[Ljava/lang/Object;" ⟨"java/lang/Object", "getClass", "()Ljava/lang/Class;"⟩ ⟨"java/lang/Object", "getClass", "()Ljava/lang/Class;"⟩, Cond.instanceMethod ⟨"java/lang/Object", "getClass", "()Ljava/lang/Class;"⟩, Cond.native ⟨"java/lang/Object", "getClass", "()Ljava/lang/Class;"⟩, Cond.methodLink RJ7 300 yJ7_copyOf_6403c, Cond.static yJ7_copyOf_6403c]
def wsL_law0_r5 : List Cond := [Cond.code yJ7_copyOf_6403c cJ7_copyOf_6403c 4 (some (.array (.object "java/lang/Object"))), Cond.classLink RJ7 110 "[Ljava/lang/Object;", Cond.classLink RJ7 2 "java/lang/Object", Cond.methodLink RJ7 304 Lib.Math.min.name, Cond.static Lib.Math.min.name, Cond.code Lib.Math.min.name Lib.Math.min.code 2 (some .int), Cond.methodLink RJ7 150 arraycopyName, Cond.native arraycopyName, Cond.static arraycopyName, Cond.initialized "java/lang/System", Cond.methodLink RL 122 yL_does, Cond.static yL_does, Cond.initialized RL, Cond.codeWith yL_does cL_does 6 (some .long) [(0, 192, 193, 57), (0, 192, 199, 61), (0, 192, 205, 65)], Cond.classLink RL 57 "java/lang/IndexOutOfBoundsException", Cond.classLink RL 61 "java/lang/IllegalArgumentException", Cond.classLink RL 65 "java/lang/IllegalStateException", Cond.methodLink RL 8 yX4_price, Cond.instanceMethod yX4_price, Cond.selects RX4 yX4_price yX4_price, Cond.code yX4_price cX4_price 5 (some .int), Cond.constant RX4 35 (1000000), Cond.fieldLink RX4 40 "SavingsHall$Fund" "price" "I", Cond.methodLink RX4 31 yX4_fundAt]
def wsL_law0_r6 : List Cond := [Cond.instanceMethod yX4_fundAt, Cond.selects RX4 yX4_fundAt yX4_fundAt, Cond.code yX4_fundAt cX4_fundAt 2 (some (.object "SavingsHall$Fund")), Cond.classLink RX4 22 "SavingsHall$Fund", Cond.methodLink RX4 44 yJx4a65c_size_8abf5, Cond.instanceMethod yJx4a65c_size_8abf5, Cond.selects RJx4a65c yJx4a65c_size_8abf5 yJx4a65c_size_8abf5, Cond.code yJx4a65c_size_8abf5 cJx4a65c_size_8abf5 1 (some .int), Cond.methodLink RX4 192 yX4_checkExists, Cond.static yX4_checkExists, Cond.code yX4_checkExists cX4_checkExists 1 none, Cond.classLink RX4 217 "java/lang/IndexOutOfBoundsException", Cond.initialized "java/lang/IndexOutOfBoundsException", Cond.methodLink RX4 60 yJx4a65c_get_915e3, Cond.instanceMethod yJx4a65c_get_915e3, Cond.selects RJx4a65c yJx4a65c_get_915e3 yJx4a65c_get_915e3, Cond.code yJx4a65c_get_915e3 cJx4a65c_get_915e3 2 (some (.object "java/lang/Object")), Cond.methodLink RJx4a65c 118 yJ15_checkIndex_7cf53, Cond.static yJ15_checkIndex_7cf53, Cond.initialized RJ15, Cond.code yJ15_checkIndex_7cf53 cJ15_checkIndex_7cf53 2 (some .int), Cond.methodLink RJ15 105 yJ3_checkIndex_8e157, Cond.static yJ3_checkIndex_8e157, Cond.initialized RJ3]
def wsL_law0_r7 : List Cond := [Cond.code yJ3_checkIndex_8e157 cJ3_checkIndex_8e157 3 (some .int), Cond.methodLink RJx4a65c 123 yJx4a65c_elementData_915e3, Cond.instanceMethod yJx4a65c_elementData_915e3, Cond.selects RJx4a65c yJx4a65c_elementData_915e3 yJx4a65c_elementData_915e3, Cond.code yJx4a65c_elementData_915e3 cJx4a65c_elementData_915e3 2 (some (.object "java/lang/Object")), Cond.methodLink RX4 36 yX4_checkRange, Cond.static yX4_checkRange, Cond.code yX4_checkRange cX4_checkRange 3 none, Cond.classLink RX4 224 "java/lang/IllegalArgumentException", Cond.initialized "java/lang/IllegalArgumentException", Cond.methodLink RL 14 yX4_client, Cond.instanceMethod yX4_client, Cond.selects RX4 yX4_client yX4_client, Cond.code yX4_client cX4_client 4 (some .int), Cond.classLink RX4 52 RX0, Cond.instantiable RX0 5, Cond.initialized RX0, Cond.fieldLink RX4 55 "SavingsHall$Client" "holdings" "Ljava/util/ArrayList;", Cond.classLink RX4 58 RX2, Cond.instantiable RX2 4, Cond.initialized RX2, Cond.methodLink RX4 48 yX4_checkPossible, Cond.static yX4_checkPossible, Cond.code yX4_checkPossible cX4_checkPossible 1 none]
def wsL_law0_r8 : List Cond := [Cond.classLink RX4 229 "java/lang/IllegalStateException", Cond.initialized "java/lang/IllegalStateException", Cond.methodLink RX4 54 yX0_init, Cond.instanceMethod yX0_init, Cond.code yX0_init cX0_init 2 none, Cond.methodLink RX0 3 objectInit, Cond.fieldLink RX0 9 "SavingsHall$Client" "number" "I", Cond.classLink RX0 15 RJx4a65c, Cond.fieldLink RX0 18 "SavingsHall$Client" "holdings" "Ljava/util/ArrayList;", Cond.fieldLink RX0 22 "SavingsHall$Client" "gains" "[J", Cond.fieldLink RX0 26 "SavingsHall$Client" "taxesPaid" "[J", Cond.methodLink RX0 17 yJx4a65c_init_da8c8, Cond.methodLink RX4 64 yX2_init, Cond.instanceMethod yX2_init, Cond.code yX2_init cX2_init 3 none, Cond.methodLink RX2 1 objectInit, Cond.fieldLink RX2 7 "SavingsHall$Holding" "client" "LSavingsHall$Client;", Cond.fieldLink RX2 13 "SavingsHall$Holding" "fund" "LSavingsHall$Fund;", Cond.methodLink RL 18 yX4_pay, Cond.instanceMethod yX4_pay, Cond.selects RX4 yX4_pay yX4_pay, Cond.code yX4_pay cX4_pay 4 (some .long), Cond.constant RX4 71 (-10000000), Cond.constant RX4 72 (10000000)]
def wsL_law0_r9 : List Cond := [Cond.fieldLink RX4 73 "SavingsHall$Client" "cash" "J", Cond.methodLink RX4 67 yX4_clientAt, Cond.instanceMethod yX4_clientAt, Cond.selects RX4 yX4_clientAt yX4_clientAt, Cond.code yX4_clientAt cX4_clientAt 2 (some (.object "SavingsHall$Client")), Cond.classLink RX4 52 "SavingsHall$Client", Cond.methodLink RL 22 yX4_goal, Cond.instanceMethod yX4_goal, Cond.selects RX4 yX4_goal yX4_goal, Cond.code yX4_goal cX4_goal 6 (some .int), Cond.fieldLink RX4 81 "SavingsHall$Holding" "client" "LSavingsHall$Client;", Cond.fieldLink RX4 89 "SavingsHall$Holding" "hundredths" "I", Cond.methodLink RX4 77 yX4_holdingAt, Cond.instanceMethod yX4_holdingAt, Cond.selects RX4 yX4_holdingAt yX4_holdingAt, Cond.code yX4_holdingAt cX4_holdingAt 4 (some (.object "SavingsHall$Holding")), Cond.classLink RX4 58 "SavingsHall$Holding", Cond.methodLink RX4 85 yX4_hundredthsTogether, Cond.static yX4_hundredthsTogether, Cond.code yX4_hundredthsTogether cX4_hundredthsTogether 3 (some .int), Cond.methodLink RL 26 yX4_buy, Cond.instanceMethod yX4_buy, Cond.selects RX4 yX4_buy yX4_buy, Cond.code yX4_buy cX4_buy 7 (some .int)]
def wsL_law0_r10 : List Cond := [Cond.fieldLink RX4 92 "SavingsHall$Holding" "fund" "LSavingsHall$Fund;", Cond.methodLink RX4 96 yX4_partsFor, Cond.static yX4_partsFor, Cond.code yX4_partsFor cX4_partsFor 3 (some .long), Cond.constantLong RX4 234 (1000), Cond.methodLink RX4 236 yX4_cutQuotient, Cond.static yX4_cutQuotient, Cond.code yX4_cutQuotient cX4_cutQuotient 4 (some .long), Cond.methodLink RX4 100 yX4_costsOf, Cond.static yX4_costsOf, Cond.code yX4_costsOf cX4_costsOf 3 (some .long), Cond.constantLong RX4 240 (10000), Cond.constantLong RX4 242 (100000), Cond.methodLink RX4 104 yX4_makeTrade, Cond.instanceMethod yX4_makeTrade, Cond.selects RX4 yX4_makeTrade yX4_makeTrade, Cond.code yX4_makeTrade cX4_makeTrade 7 (some .int), Cond.classLink RX4 135 RX3, Cond.instantiable RX3 9, Cond.initialized RX3, Cond.fieldLink RX4 164 "SavingsHall" "today" "I", Cond.fieldLink RX4 198 "SavingsHall$Trade" "number" "I", Cond.methodLink RX4 259 yX3_init, Cond.instanceMethod yX3_init]
def wsL_law0_r11 : List Cond := [Cond.code yX3_init cX3_init 10 none, Cond.methodLink RX3 1 objectInit, Cond.fieldLink RX3 7 "SavingsHall$Trade" "number" "I", Cond.fieldLink RX3 13 "SavingsHall$Trade" "holding" "LSavingsHall$Holding;", Cond.fieldLink RX3 17 "SavingsHall$Trade" "day" "I", Cond.fieldLink RX3 20 "SavingsHall$Trade" "parts" "J", Cond.fieldLink RX3 24 "SavingsHall$Trade" "amount" "J", Cond.fieldLink RX3 27 "SavingsHall$Trade" "costs" "J", Cond.fieldLink RX3 30 "SavingsHall$Trade" "stands" "Z", Cond.methodLink RX4 149 yX3_paid, Cond.instanceMethod yX3_paid, Cond.selects RX3 yX3_paid yX3_paid, Cond.code yX3_paid cX3_paid 1 (some .long), Cond.methodLink RX3 34 yX3_isSale, Cond.instanceMethod yX3_isSale, Cond.selects RX3 yX3_isSale yX3_isSale, Cond.code yX3_isSale cX3_isSale 1 (some .boolean), Cond.methodLink RX4 153 yX4_exchange, Cond.instanceMethod yX4_exchange, Cond.selects RX4 yX4_exchange yX4_exchange, Cond.code yX4_exchange cX4_exchange 7 none, Cond.fieldLink RX4 170 "SavingsHall" "houseMoney" "J", Cond.fieldLink RX4 109 "SavingsHall$Holding" "parts" "J", Cond.fieldLink RX4 173 "SavingsHall$Fund" "stock" "J"]
def wsL_law0_r12 : List Cond := [Cond.constantLong RX4 266 (999), Cond.methodLink RX4 268 yX4_tradeUnits, Cond.instanceMethod yX4_tradeUnits, Cond.selects RX4 yX4_tradeUnits yX4_tradeUnits, Cond.code yX4_tradeUnits cX4_tradeUnits 4 none, Cond.fieldLink RX4 176 "SavingsHall$Fund" "units" "J", Cond.methodLink RX4 262 yX4_enterIntoLots, Cond.instanceMethod yX4_enterIntoLots, Cond.selects RX4 yX4_enterIntoLots yX4_enterIntoLots, Cond.code yX4_enterIntoLots cX4_enterIntoLots 2 none, Cond.fieldLink RX4 144 "SavingsHall$Trade" "holding" "LSavingsHall$Holding;", Cond.fieldLink RX4 189 "SavingsHall$Trade" "day" "I", Cond.fieldLink RX4 148 "SavingsHall$Trade" "parts" "J", Cond.fieldLink RX4 195 "SavingsHall$Trade" "partsLeft" "J", Cond.fieldLink RX4 199 "SavingsHall$Trade" "costLeft" "J", Cond.methodLink RX4 272 yX3_isSale, Cond.methodLink RX4 276 yX4_yearOf, Cond.static yX4_yearOf, Cond.code yX4_yearOf cX4_yearOf 1 (some .int), Cond.methodLink RX4 280 yX4_takeCostFromLots, Cond.instanceMethod yX4_takeCostFromLots, Cond.selects RX4 yX4_takeCostFromLots yX4_takeCostFromLots, Cond.code yX4_takeCostFromLots cX4_takeCostFromLots 12 (some .long), Cond.classLink RX4 135 "SavingsHall$Trade"]
def wsL_law0_r13 : List Cond := [Cond.methodLink RX4 254 Lib.MathLoose.min_long.x, Cond.static Lib.MathLoose.min_long.x, Cond.code Lib.MathLoose.min_long.x Lib.MathLoose.min_long.code 4 (some .long), Cond.methodLink RX4 284 yX4_addGain, Cond.static yX4_addGain, Cond.code yX4_addGain cX4_addGain 4 none, Cond.fieldLink RX4 204 "SavingsHall$Client" "gains" "[J", Cond.methodLink RL 29 yX4_sell, Cond.instanceMethod yX4_sell, Cond.selects RX4 yX4_sell yX4_sell, Cond.code yX4_sell cX4_sell 7 (some .int), Cond.constant RX4 108 (1000000000), Cond.constantLong RX4 115 (1000000000), Cond.methodLink RX4 112 yX4_amountFor, Cond.static yX4_amountFor, Cond.code yX4_amountFor cX4_amountFor 3 (some .long), Cond.methodLink RL 32 yX4_balance, Cond.instanceMethod yX4_balance, Cond.selects RX4 yX4_balance yX4_balance, Cond.code yX4_balance cX4_balance 7 (some .int), Cond.constantLong RX4 121 (100000000), Cond.methodLink RX4 117 yX4_wealthOf, Cond.static yX4_wealthOf, Cond.code yX4_wealthOf cX4_wealthOf 4 (some .long)]
def wsL_law0_r14 : List Cond := [Cond.methodLink RX4 244 yX4_worthOf, Cond.static yX4_worthOf, Cond.code yX4_worthOf cX4_worthOf 1 (some .long), Cond.methodLink RX4 123 yX4_sellTooMuch, Cond.instanceMethod yX4_sellTooMuch, Cond.selects RX4 yX4_sellTooMuch yX4_sellTooMuch, Cond.code yX4_sellTooMuch cX4_sellTooMuch 10 none, Cond.methodLink RX4 250 yX4_targetOf, Cond.static yX4_targetOf, Cond.code yX4_targetOf cX4_targetOf 3 (some .long), Cond.constantLong RX4 248 (100), Cond.methodLink RX4 127 yX4_buyWhatLacks, Cond.instanceMethod yX4_buyWhatLacks, Cond.selects RX4 yX4_buyWhatLacks yX4_buyWhatLacks, Cond.code yX4_buyWhatLacks cX4_buyWhatLacks 12 none, Cond.methodLink RL 36 yX4_complain, Cond.instanceMethod yX4_complain, Cond.selects RX4 yX4_complain yX4_complain, Cond.code yX4_complain cX4_complain 4 (some .long), Cond.fieldLink RX4 134 "SavingsHall$Trade" "stands" "Z", Cond.methodLink RX4 130 yX4_tradeAt, Cond.instanceMethod yX4_tradeAt, Cond.selects RX4 yX4_tradeAt yX4_tradeAt, Cond.code yX4_tradeAt cX4_tradeAt 2 (some (.object "SavingsHall$Trade"))]
def wsL_law0_r15 : List Cond := [Cond.methodLink RX4 140 yX4_salesKeepTheirParts, Cond.instanceMethod yX4_salesKeepTheirParts, Cond.selects RX4 yX4_salesKeepTheirParts yX4_salesKeepTheirParts, Cond.code yX4_salesKeepTheirParts cX4_salesKeepTheirParts 6 (some .boolean), Cond.methodLink RX4 157 yX4_findLotsAnew, Cond.instanceMethod yX4_findLotsAnew, Cond.selects RX4 yX4_findLotsAnew yX4_findLotsAnew, Cond.code yX4_findLotsAnew cX4_findLotsAnew 4 none, Cond.methodLink RX4 288 yJ7_fill_d0a16, Cond.static yJ7_fill_d0a16, Cond.code yJ7_fill_d0a16 cJ7_fill_d0a16 5 none, Cond.methodLink RX4 161 yX4_settleTaxes, Cond.instanceMethod yX4_settleTaxes, Cond.selects RX4 yX4_settleTaxes yX4_settleTaxes, Cond.code yX4_settleTaxes cX4_settleTaxes 7 (some .long), Cond.fieldLink RX4 208 "SavingsHall$Client" "taxesPaid" "[J", Cond.constantLong RX4 215 (4), Cond.methodLink RX4 211 yX4_baseOf, Cond.static yX4_baseOf, Cond.code yX4_baseOf cX4_baseOf 5 (some .long), Cond.methodLink RX4 294 Lib.MathLoose.max_long.x, Cond.static Lib.MathLoose.max_long.x, Cond.code Lib.MathLoose.max_long.x Lib.MathLoose.max_long.code 4 (some .long), Cond.methodLink RL 40 yX4_pass]
def wsL_law0_r16 : List Cond := [Cond.instanceMethod yX4_pass, Cond.selects RX4 yX4_pass yX4_pass, Cond.code yX4_pass cX4_pass 3 (some .int), Cond.methodLink RX4 167 yX4_endDay, Cond.instanceMethod yX4_endDay, Cond.selects RX4 yX4_endDay yX4_endDay, Cond.code yX4_endDay cX4_endDay 3 none, Cond.methodLink RL 43 yX4_tradeOf, Cond.instanceMethod yX4_tradeOf, Cond.selects RX4 yX4_tradeOf yX4_tradeOf, Cond.code yX4_tradeOf cX4_tradeOf 4 (some .long), Cond.fieldLink RX4 179 "SavingsHall$Client" "number" "I", Cond.fieldLink RX4 182 "SavingsHall$Fund" "number" "I", Cond.fieldLink RX4 183 "SavingsHall$Trade" "amount" "J", Cond.fieldLink RX4 186 "SavingsHall$Trade" "costs" "J", Cond.methodLink RL 46 yX4_year, Cond.instanceMethod yX4_year, Cond.selects RX4 yX4_year yX4_year, Cond.code yX4_year cX4_year 5 (some .long), Cond.methodLink RL 50 yX4_lot, Cond.instanceMethod yX4_lot, Cond.selects RX4 yX4_lot yX4_lot, Cond.code yX4_lot cX4_lot 9 (some .long), Cond.constantLong RX4 202 (-1)]
def wsL_law0_r17 : List Cond := [Cond.methodLink RL 54 yX4_parts, Cond.instanceMethod yX4_parts, Cond.selects RX4 yX4_parts yX4_parts, Cond.code yX4_parts cX4_parts 3 (some .long), Cond.methodLink RL 106 yX4_cash, Cond.instanceMethod yX4_cash, Cond.selects RX4 yX4_cash yX4_cash, Cond.code yX4_cash cX4_cash 2 (some .long), Cond.methodLink RL 127 yL_part, Cond.static yL_part, Cond.code yL_part cL_part 4 (some .int), Cond.constant RL 7 (2147483647), Cond.methodLink RL 83 yL_costs, Cond.static yL_costs, Cond.code yL_costs cL_costs 2 (some .long), Cond.constantLong RL 69 (10000), Cond.constantLong RL 71 (100), Cond.constantLong RL 73 (100000), Cond.constantLong RL 75 (200), Cond.constantLong RL 77 (500), Cond.methodLink RL 102 yL_trades, Cond.static yL_trades, Cond.code yL_trades cL_trades 15 none, Cond.methodLink RL 89 yL_moves]
def wsL_law0_r18 : List Cond := [Cond.static yL_moves, Cond.code yL_moves cL_moves 11 none, Cond.constantLong RL 79 (999), Cond.methodLink RL 98 yL_wealth, Cond.static yL_wealth, Cond.code yL_wealth cL_wealth 7 (some .long), Cond.methodLink RL 140 yL_balances, Cond.static yL_balances, Cond.code yL_balances cL_balances 24 (some .int), Cond.methodLink RL 94 yL_goes, Cond.static yL_goes, Cond.code yL_goes cL_goes 19 (some .boolean), Cond.methodLink RL 114 yL_taxes, Cond.static yL_taxes, Cond.code yL_taxes cL_taxes 12 none, Cond.methodLink RL 144 yL_isSo, Cond.static yL_isSo, Cond.code yL_isSo cL_isSo 19 (some .boolean), Cond.constantLong RL 120 (-1), Cond.methodLink RL 109 yX4_units, Cond.instanceMethod yX4_units, Cond.selects RX4 yX4_units yX4_units, Cond.code yX4_units cX4_units 2 (some .long), Cond.methodLink RL 112 yX4_wealth]
def wsL_law0_r19 : List Cond := [Cond.instanceMethod yX4_wealth, Cond.selects RX4 yX4_wealth yX4_wealth, Cond.code yX4_wealth cX4_wealth 2 (some .long)]
def wsL_law0 : List Cond := (wsL_law0_r1 ++ (wsL_law0_r2 ++ (wsL_law0_r3 ++ (wsL_law0_r4 ++ (wsL_law0_r5 ++ (wsL_law0_r6 ++ (wsL_law0_r7 ++ (wsL_law0_r8 ++ (wsL_law0_r9 ++ (wsL_law0_r10 ++ (wsL_law0_r11 ++ (wsL_law0_r12 ++ (wsL_law0_r13 ++ (wsL_law0_r14 ++ (wsL_law0_r15 ++ (wsL_law0_r16 ++ (wsL_law0_r17 ++ (wsL_law0_r18 ++ wsL_law0_r19)))))))))))))))))) ++ wsX40 ++ wsJx4a65c0 ++ wsX10 ++ wsX00 ++ wsX20 ++ wsX30 ++ ([] : List Cond)
def wsL_law : List Cond := wsL_law0 ++ (vx_atS RX4 221 "java/lang/IndexOutOfBoundsException" ["java/lang/RuntimeException", "java/lang/Exception"]).filter goodWord ++ (vx_atS RX4 228 "java/lang/IllegalArgumentException" ["java/lang/RuntimeException", "java/lang/Exception"]).filter goodWord ++ (vx_atS RX4 233 "java/lang/IllegalStateException" ["java/lang/RuntimeException", "java/lang/Exception"]).filter goodWord
end
section
set_option maxRecDepth 20000 in
theorem in_wsL_law0_r1 : ∀ w ∈ wsL_law0_r1, w ∈ lw_tbl := fun w h => (goodIn_p wsL_law0_r1 [44, 47] (by decide +kernel) (by decide +kernel) w h).1
set_option maxRecDepth 20000 in
theorem in_wsL_law0_r2 : ∀ w ∈ wsL_law0_r2, w ∈ lw_tbl := fun w h => (goodIn_p wsL_law0_r2 [52, 55, 58] (by decide +kernel) (by decide +kernel) w h).1
set_option maxRecDepth 20000 in
theorem in_wsL_law0_r3 : ∀ w ∈ wsL_law0_r3, w ∈ lw_tbl := fun w h => (goodIn_p wsL_law0_r3 [78, 98, 102, 106, 110] (by decide +kernel) (by decide +kernel) w h).1
set_option maxRecDepth 20000 in
theorem in_wsL_law0_r4 : ∀ w ∈ wsL_law0_r4, w ∈ lw_tbl := fun w h => (goodIn_p wsL_law0_r4 [116, 113, 120, 123] (by decide +kernel) (by decide +kernel) w h).1
set_option maxRecDepth 20000 in
theorem in_wsL_law0_r5 : ∀ w ∈ wsL_law0_r5, w ∈ lw_tbl := fun w h => (goodIn_p wsL_law0_r5 [139, 145, 278] (by decide +kernel) (by decide +kernel) w h).1
set_option maxRecDepth 20000 in
theorem in_wsL_law0_r6 : ∀ w ∈ wsL_law0_r6, w ∈ lw_tbl := fun w h => (goodIn_p wsL_law0_r6 [282, 178, 181, 253, 256] (by decide +kernel) (by decide +kernel) w h).1
set_option maxRecDepth 20000 in
theorem in_wsL_law0_r7 : ∀ w ∈ wsL_law0_r7, w ∈ lw_tbl := fun w h => (goodIn_p wsL_law0_r7 [259, 263, 286, 306, 309] (by decide +kernel) (by decide +kernel) w h).1
set_option maxRecDepth 20000 in
theorem in_wsL_law0_r8 : ∀ w ∈ wsL_law0_r8, w ∈ lw_tbl := fun w h => (goodIn_p wsL_law0_r8 [329, 358, 378] (by decide +kernel) (by decide +kernel) w h).1
set_option maxRecDepth 20000 in
theorem in_wsL_law0_r9 : ∀ w ∈ wsL_law0_r9, w ∈ lw_tbl := fun w h => (goodIn_p wsL_law0_r9 [174, 384, 388, 391, 395] (by decide +kernel) (by decide +kernel) w h).1
end
section
set_option maxRecDepth 20000 in
theorem in_wsL_law0_r10 : ∀ w ∈ wsL_law0_r10, w ∈ lw_tbl := fun w h => (goodIn_p wsL_law0_r10 [398, 402, 405, 411] (by decide +kernel) (by decide +kernel) w h).1
set_option maxRecDepth 20000 in
theorem in_wsL_law0_r11 : ∀ w ∈ wsL_law0_r11, w ∈ lw_tbl := fun w h => (goodIn_p wsL_law0_r11 [416, 456, 460, 464] (by decide +kernel) (by decide +kernel) w h).1
set_option maxRecDepth 20000 in
theorem in_wsL_law0_r12 : ∀ w ∈ wsL_law0_r12, w ∈ lw_tbl := fun w h => (goodIn_p wsL_law0_r12 [469, 473, 477, 481] (by decide +kernel) (by decide +kernel) w h).1
set_option maxRecDepth 20000 in
theorem in_wsL_law0_r13 : ∀ w ∈ wsL_law0_r13, w ∈ lw_tbl := fun w h => (goodIn_p wsL_law0_r13 [484, 487, 491, 495, 500, 503] (by decide +kernel) (by decide +kernel) w h).1
set_option maxRecDepth 20000 in
theorem in_wsL_law0_r14 : ∀ w ∈ wsL_law0_r14, w ∈ lw_tbl := fun w h => (goodIn_p wsL_law0_r14 [506, 511, 514, 519, 523, 527] (by decide +kernel) (by decide +kernel) w h).1
set_option maxRecDepth 20000 in
theorem in_wsL_law0_r15 : ∀ w ∈ wsL_law0_r15, w ∈ lw_tbl := fun w h => (goodIn_p wsL_law0_r15 [531, 535, 538, 542, 545, 548] (by decide +kernel) (by decide +kernel) w h).1
set_option maxRecDepth 20000 in
theorem in_wsL_law0_r16 : ∀ w ∈ wsL_law0_r16, w ∈ lw_tbl := fun w h => (goodIn_p wsL_law0_r16 [553, 557, 561, 565, 569] (by decide +kernel) (by decide +kernel) w h).1
set_option maxRecDepth 20000 in
theorem in_wsL_law0_r17 : ∀ w ∈ wsL_law0_r17, w ∈ lw_tbl := fun w h => (goodIn_p wsL_law0_r17 [574, 170, 267, 580, 593] (by decide +kernel) (by decide +kernel) w h).1
end
section
theorem in18_0 : Cond.static yL_moves ∈ lw_tbl := by decide +kernel
set_option maxRecDepth 20000 in
theorem in18_1 : Cond.code yL_moves cL_moves 11 none ∈ lw_tbl := List.mem_of_getElem? (i := 588) rfl
theorem in18_2 : Cond.constantLong RL 79 (999) ∈ lw_tbl := by decide +kernel
theorem in18_3 : Cond.methodLink RL 98 yL_wealth ∈ lw_tbl := by decide +kernel
theorem in18_4 : Cond.static yL_wealth ∈ lw_tbl := by decide +kernel
set_option maxRecDepth 20000 in
theorem in18_5 : Cond.code yL_wealth cL_wealth 7 (some .long) ∈ lw_tbl := List.mem_of_getElem? (i := 603) rfl
theorem in18_6 : Cond.methodLink RL 140 yL_balances ∈ lw_tbl := by decide +kernel
theorem in18_7 : Cond.static yL_balances ∈ lw_tbl := by decide +kernel
set_option maxRecDepth 20000 in
theorem in18_8 : Cond.code yL_balances cL_balances 24 (some .int) ∈ lw_tbl := List.mem_of_getElem? (i := 606) rfl
theorem in18_9 : Cond.methodLink RL 94 yL_goes ∈ lw_tbl := by decide +kernel
theorem in18_10 : Cond.static yL_goes ∈ lw_tbl := by decide +kernel
set_option maxRecDepth 20000 in
theorem in18_11 : Cond.code yL_goes cL_goes 19 (some .boolean) ∈ lw_tbl := List.mem_of_getElem? (i := 596) rfl
theorem in18_12 : Cond.methodLink RL 114 yL_taxes ∈ lw_tbl := by decide +kernel
theorem in18_13 : Cond.static yL_taxes ∈ lw_tbl := by decide +kernel
set_option maxRecDepth 20000 in
theorem in18_14 : Cond.code yL_taxes cL_taxes 12 none ∈ lw_tbl := List.mem_of_getElem? (i := 600) rfl
theorem in18_15 : Cond.methodLink RL 144 yL_isSo ∈ lw_tbl := by decide +kernel
theorem in18_16 : Cond.static yL_isSo ∈ lw_tbl := by decide +kernel
set_option maxRecDepth 20000 in
theorem in18_17 : Cond.code yL_isSo cL_isSo 19 (some .boolean) ∈ lw_tbl := List.mem_of_getElem? (i := 609) rfl
theorem in18_18 : Cond.constantLong RL 120 (-1) ∈ lw_tbl := by decide +kernel
theorem in18_19 : Cond.methodLink RL 109 yX4_units ∈ lw_tbl := by decide +kernel
theorem in18_20 : Cond.instanceMethod yX4_units ∈ lw_tbl := by decide +kernel
theorem in18_21 : Cond.selects RX4 yX4_units yX4_units ∈ lw_tbl := by decide +kernel
set_option maxRecDepth 20000 in
theorem in18_22 : Cond.code yX4_units cX4_units 2 (some .long) ∈ lw_tbl := List.mem_of_getElem? (i := 613) rfl
theorem in18_23 : Cond.methodLink RL 112 yX4_wealth ∈ lw_tbl := by decide +kernel
theorem in_wsL_law0_r18 : ∀ w ∈ wsL_law0_r18, w ∈ lw_tbl := (List.forall_mem_cons.mpr ⟨in18_0, (List.forall_mem_cons.mpr ⟨in18_1, (List.forall_mem_cons.mpr ⟨in18_2, (List.forall_mem_cons.mpr ⟨in18_3, (List.forall_mem_cons.mpr ⟨in18_4, (List.forall_mem_cons.mpr ⟨in18_5, (List.forall_mem_cons.mpr ⟨in18_6, (List.forall_mem_cons.mpr ⟨in18_7, (List.forall_mem_cons.mpr ⟨in18_8, (List.forall_mem_cons.mpr ⟨in18_9, (List.forall_mem_cons.mpr ⟨in18_10, (List.forall_mem_cons.mpr ⟨in18_11, (List.forall_mem_cons.mpr ⟨in18_12, (List.forall_mem_cons.mpr ⟨in18_13, (List.forall_mem_cons.mpr ⟨in18_14, (List.forall_mem_cons.mpr ⟨in18_15, (List.forall_mem_cons.mpr ⟨in18_16, (List.forall_mem_cons.mpr ⟨in18_17, (List.forall_mem_cons.mpr ⟨in18_18, (List.forall_mem_cons.mpr ⟨in18_19, (List.forall_mem_cons.mpr ⟨in18_20, (List.forall_mem_cons.mpr ⟨in18_21, (List.forall_mem_cons.mpr ⟨in18_22, (List.forall_mem_cons.mpr ⟨in18_23, (fun _ h => absurd h List.not_mem_nil)⟩)⟩)⟩)⟩)⟩)⟩)⟩)⟩)⟩)⟩)⟩)⟩)⟩)⟩)⟩)⟩)⟩)⟩)⟩)⟩)⟩)⟩)⟩)⟩)
set_option maxRecDepth 20000 in
theorem in_wsL_law0_r19 : ∀ w ∈ wsL_law0_r19, w ∈ lw_tbl := fun w h => (goodIn_p wsL_law0_r19 [617] (by decide +kernel) (by decide +kernel) w h).1
theorem in0_wsX40 : ∀ w ∈ wsX40, w ∈ lw_tbl := by decide +kernel
theorem in0_wsJx4a65c0 : ∀ w ∈ wsJx4a65c0, w ∈ lw_tbl := by decide +kernel
theorem in0_wsX10 : ∀ w ∈ wsX10, w ∈ lw_tbl := by decide +kernel
theorem in0_wsX00 : ∀ w ∈ wsX00, w ∈ lw_tbl := by decide +kernel
theorem in0_wsX20 : ∀ w ∈ wsX20, w ∈ lw_tbl := by decide +kernel
theorem in0_wsX30 : ∀ w ∈ wsX30, w ∈ lw_tbl := by decide +kernel
end
section
theorem zn_app {a b t : List Cond} (ha : ∀ w ∈ a, w ∈ t) (hb : ∀ w ∈ b, w ∈ t) : ∀ w ∈ a ++ b, w ∈ t := fun w h => (List.mem_append.mp h).elim (ha w) (hb w)
theorem wsL_law_in0 : ∀ w ∈ wsL_law0, w ∈ lw_tbl := (zn_app (zn_app (zn_app (zn_app (zn_app (zn_app (zn_app (zn_app in_wsL_law0_r1 (zn_app in_wsL_law0_r2 (zn_app in_wsL_law0_r3 (zn_app in_wsL_law0_r4 (zn_app in_wsL_law0_r5 (zn_app in_wsL_law0_r6 (zn_app in_wsL_law0_r7 (zn_app in_wsL_law0_r8 (zn_app in_wsL_law0_r9 (zn_app in_wsL_law0_r10 (zn_app in_wsL_law0_r11 (zn_app in_wsL_law0_r12 (zn_app in_wsL_law0_r13 (zn_app in_wsL_law0_r14 (zn_app in_wsL_law0_r15 (zn_app in_wsL_law0_r16 (zn_app in_wsL_law0_r17 (zn_app in_wsL_law0_r18 (in_wsL_law0_r19))))))))))))))))))) in0_wsX40) in0_wsJx4a65c0) in0_wsX10) in0_wsX00) in0_wsX20) in0_wsX30) (fun _ h => absurd h List.not_mem_nil))
theorem wsL_law_x0 : ∀ w ∈ (vx_atS RX4 221 "java/lang/IndexOutOfBoundsException" ["java/lang/RuntimeException", "java/lang/Exception"]).filter goodWord, w ∈ lw_tbl := by decide +kernel
theorem wsL_law_x1 : ∀ w ∈ (vx_atS RX4 228 "java/lang/IllegalArgumentException" ["java/lang/RuntimeException", "java/lang/Exception"]).filter goodWord, w ∈ lw_tbl := by decide +kernel
theorem wsL_law_x2 : ∀ w ∈ (vx_atS RX4 233 "java/lang/IllegalStateException" ["java/lang/RuntimeException", "java/lang/Exception"]).filter goodWord, w ∈ lw_tbl := by decide +kernel
theorem wsL_law_in : ∀ w ∈ wsL_law, w ∈ lw_tbl := fun w h => (List.mem_append.mp h).elim (fun h => (List.mem_append.mp h).elim (fun h => (List.mem_append.mp h).elim (fun h => wsL_law_in0 w h) (fun h => wsL_law_x0 w h)) (fun h => wsL_law_x1 w h)) (fun h => wsL_law_x2 w h)
theorem inlX0 : ∀ w ∈ wsX00, w ∈ wsL_law := fun _ h => List.mem_append_left _ (List.mem_append_left _ (List.mem_append_left _ (List.mem_append_left _ (List.mem_append_left _ (List.mem_append_left _ (List.mem_append_right _ h))))))
theorem inX0 : ∀ w ∈ wsX00, w ∈ lw_tbl := fun w h => wsL_law_in w (inlX0 w h)
theorem inlX1 : ∀ w ∈ wsX10, w ∈ wsL_law := fun _ h => List.mem_append_left _ (List.mem_append_left _ (List.mem_append_left _ (List.mem_append_left _ (List.mem_append_left _ (List.mem_append_left _ (List.mem_append_left _ (List.mem_append_right _ h)))))))
theorem inX1 : ∀ w ∈ wsX10, w ∈ lw_tbl := fun w h => wsL_law_in w (inlX1 w h)
theorem inlX2 : ∀ w ∈ wsX20, w ∈ wsL_law := fun _ h => List.mem_append_left _ (List.mem_append_left _ (List.mem_append_left _ (List.mem_append_left _ (List.mem_append_left _ (List.mem_append_right _ h)))))
theorem inX2 : ∀ w ∈ wsX20, w ∈ lw_tbl := fun w h => wsL_law_in w (inlX2 w h)
theorem inlX3 : ∀ w ∈ wsX30, w ∈ wsL_law := fun _ h => List.mem_append_left _ (List.mem_append_left _ (List.mem_append_left _ (List.mem_append_left _ (List.mem_append_right _ h))))
theorem inX3 : ∀ w ∈ wsX30, w ∈ lw_tbl := fun w h => wsL_law_in w (inlX3 w h)
theorem inlX4 : ∀ w ∈ wsX40, w ∈ wsL_law := fun _ h => List.mem_append_left _ (List.mem_append_left _ (List.mem_append_left _ (List.mem_append_left _ (List.mem_append_left _ (List.mem_append_left _ (List.mem_append_left _ (List.mem_append_left _ (List.mem_append_left _ (List.mem_append_right _ h)))))))))
theorem inX4 : ∀ w ∈ wsX40, w ∈ lw_tbl := fun w h => wsL_law_in w (inlX4 w h)
theorem inX5 : ∀ w ∈ wsX50, w ∈ lw_tbl := by decide +kernel
theorem inJx145de : ∀ w ∈ wsJx145de0, w ∈ lw_tbl := by decide +kernel
theorem inJx8e188 : ∀ w ∈ wsJx8e1880, w ∈ lw_tbl := by decide +kernel
theorem inJxab1ab : ∀ w ∈ wsJxab1ab0, w ∈ lw_tbl := by decide +kernel
theorem inJ9 : ∀ w ∈ wsJ90, w ∈ lw_tbl := by decide +kernel
theorem inJ0 : ∀ w ∈ wsJ00, w ∈ lw_tbl := by decide +kernel
theorem inJ10 : ∀ w ∈ wsJ100, w ∈ lw_tbl := by decide +kernel
theorem inJxa1e45 : ∀ w ∈ wsJxa1e450, w ∈ lw_tbl := by decide +kernel
theorem inJxc12de : ∀ w ∈ wsJxc12de0, w ∈ lw_tbl := by decide +kernel
theorem inlJx4a65c : ∀ w ∈ wsJx4a65c0, w ∈ wsL_law := fun _ h => List.mem_append_left _ (List.mem_append_left _ (List.mem_append_left _ (List.mem_append_left _ (List.mem_append_left _ (List.mem_append_left _ (List.mem_append_left _ (List.mem_append_left _ (List.mem_append_right _ h))))))))
theorem inJx4a65c : ∀ w ∈ wsJx4a65c0, w ∈ lw_tbl := fun w h => wsL_law_in w (inlJx4a65c w h)
theorem inJ7 : ∀ w ∈ wsJ70, w ∈ lw_tbl := by decide +kernel
theorem inJx5ef63 : ∀ w ∈ wsJx5ef630, w ∈ lw_tbl := by decide +kernel
theorem inJxbd725 : ∀ w ∈ wsJxbd7250, w ∈ lw_tbl := by decide +kernel
theorem inJ15 : ∀ w ∈ wsJ150, w ∈ lw_tbl := by decide +kernel
theorem inJxf0a74 : ∀ w ∈ wsJxf0a740, w ∈ lw_tbl := by decide +kernel
theorem inJxa66e6 : ∀ w ∈ wsJxa66e60, w ∈ lw_tbl := by decide +kernel
theorem inJ8 : ∀ w ∈ wsJ80, w ∈ lw_tbl := by decide +kernel
theorem inJ3 : ∀ w ∈ wsJ30, w ∈ lw_tbl := by decide +kernel
end
section
set_option maxRecDepth 20000 in
theorem ggX0_init_Jx4a65c_init_da8c8 : GoodIn wsX0_init wsJx4a65c_init_da8c8 := goodIn_r _ [14, 15, 16, 17, 18, 19, 20, 21, 22, 23, 24, 25, 26, 2, 3, 32, 33, 34] (by decide +kernel) (by decide +kernel)
set_option maxRecDepth 20000 in
theorem gX0_init_Jx4a65c_init_da8c8 : GoodIn wsX0_init (wsJx4a65c_init_da8c8) := ggX0_init_Jx4a65c_init_da8c8
theorem dX0_init_0 : decode cX0_init 0 = .ok (.aload_n 0, 1) := by decide +kernel
theorem dX0_init_1 : decode cX0_init 1 = .ok (.invokespecial 3, 3) := by decide +kernel
theorem dX0_init_4 : decode cX0_init 4 = .ok (.aload_n 0, 1) := by decide +kernel
theorem dX0_init_5 : decode cX0_init 5 = .ok (.iload_n 1, 1) := by decide +kernel
theorem dX0_init_6 : decode cX0_init 6 = .ok (.putfield 9, 3) := by decide +kernel
theorem dX0_init_9 : decode cX0_init 9 = .ok (.aload_n 0, 1) := by decide +kernel
theorem dX0_init_10 : decode cX0_init 10 = .ok (.new 15, 3) := by decide +kernel
theorem dX0_init_13 : decode cX0_init 13 = .ok (.dup, 1) := by decide +kernel
theorem dX0_init_14 : decode cX0_init 14 = .ok (.invokespecial 17, 3) := by decide +kernel
theorem dX0_init_17 : decode cX0_init 17 = .ok (.putfield 18, 3) := by decide +kernel
theorem dX0_init_20 : decode cX0_init 20 = .ok (.aload_n 0, 1) := by decide +kernel
theorem dX0_init_21 : decode cX0_init 21 = .ok (.bipush 21, 2) := by decide +kernel
theorem dX0_init_23 : decode cX0_init 23 = .ok (.newarray .long, 2) := by decide +kernel
theorem dX0_init_25 : decode cX0_init 25 = .ok (.putfield 22, 3) := by decide +kernel
theorem dX0_init_28 : decode cX0_init 28 = .ok (.aload_n 0, 1) := by decide +kernel
theorem dX0_init_29 : decode cX0_init 29 = .ok (.bipush 21, 2) := by decide +kernel
theorem dX0_init_31 : decode cX0_init 31 = .ok (.newarray .long, 2) := by decide +kernel
theorem dX0_init_33 : decode cX0_init 33 = .ok (.putfield 26, 3) := by decide +kernel
theorem dX0_init_36 : decode cX0_init 36 = .ok (.return_, 1) := by decide +kernel
theorem dX1_init_0 : decode cX1_init 0 = .ok (.aload_n 0, 1) := by decide +kernel
theorem dX1_init_1 : decode cX1_init 1 = .ok (.invokespecial 3, 3) := by decide +kernel
theorem dX1_init_4 : decode cX1_init 4 = .ok (.aload_n 0, 1) := by decide +kernel
theorem dX1_init_5 : decode cX1_init 5 = .ok (.iload_n 1, 1) := by decide +kernel
theorem dX1_init_6 : decode cX1_init 6 = .ok (.putfield 9, 3) := by decide +kernel
theorem dX1_init_9 : decode cX1_init 9 = .ok (.aload_n 0, 1) := by decide +kernel
theorem dX1_init_10 : decode cX1_init 10 = .ok (.sipush 10000, 3) := by decide +kernel
theorem dX1_init_13 : decode cX1_init 13 = .ok (.putfield 15, 3) := by decide +kernel
theorem dX1_init_16 : decode cX1_init 16 = .ok (.return_, 1) := by decide +kernel
theorem dX2_init_0 : decode cX2_init 0 = .ok (.aload_n 0, 1) := by decide +kernel
theorem dX2_init_1 : decode cX2_init 1 = .ok (.invokespecial 1, 3) := by decide +kernel
theorem dX2_init_4 : decode cX2_init 4 = .ok (.aload_n 0, 1) := by decide +kernel
theorem dX2_init_5 : decode cX2_init 5 = .ok (.aload_n 1, 1) := by decide +kernel
theorem dX2_init_6 : decode cX2_init 6 = .ok (.putfield 7, 3) := by decide +kernel
theorem dX2_init_9 : decode cX2_init 9 = .ok (.aload_n 0, 1) := by decide +kernel
theorem dX2_init_10 : decode cX2_init 10 = .ok (.aload_n 2, 1) := by decide +kernel
theorem dX2_init_11 : decode cX2_init 11 = .ok (.putfield 13, 3) := by decide +kernel
theorem dX2_init_14 : decode cX2_init 14 = .ok (.return_, 1) := by decide +kernel
theorem dX3_init_0 : decode cX3_init 0 = .ok (.aload_n 0, 1) := by decide +kernel
theorem dX3_init_1 : decode cX3_init 1 = .ok (.invokespecial 1, 3) := by decide +kernel
theorem dX3_init_4 : decode cX3_init 4 = .ok (.aload_n 0, 1) := by decide +kernel
theorem dX3_init_5 : decode cX3_init 5 = .ok (.iload_n 1, 1) := by decide +kernel
theorem dX3_init_6 : decode cX3_init 6 = .ok (.putfield 7, 3) := by decide +kernel
theorem dX3_init_9 : decode cX3_init 9 = .ok (.aload_n 0, 1) := by decide +kernel
theorem dX3_init_10 : decode cX3_init 10 = .ok (.aload_n 2, 1) := by decide +kernel
theorem dX3_init_11 : decode cX3_init 11 = .ok (.putfield 13, 3) := by decide +kernel
theorem dX3_init_14 : decode cX3_init 14 = .ok (.aload_n 0, 1) := by decide +kernel
theorem dX3_init_15 : decode cX3_init 15 = .ok (.iload_n 3, 1) := by decide +kernel
theorem dX3_init_16 : decode cX3_init 16 = .ok (.putfield 17, 3) := by decide +kernel
theorem dX3_init_19 : decode cX3_init 19 = .ok (.aload_n 0, 1) := by decide +kernel
theorem dX3_init_20 : decode cX3_init 20 = .ok (.lload 4, 2) := by decide +kernel
theorem dX3_init_22 : decode cX3_init 22 = .ok (.putfield 20, 3) := by decide +kernel
theorem dX3_init_25 : decode cX3_init 25 = .ok (.aload_n 0, 1) := by decide +kernel
theorem dX3_init_26 : decode cX3_init 26 = .ok (.lload 6, 2) := by decide +kernel
theorem dX3_init_28 : decode cX3_init 28 = .ok (.putfield 24, 3) := by decide +kernel
theorem dX3_init_31 : decode cX3_init 31 = .ok (.aload_n 0, 1) := by decide +kernel
theorem dX3_init_32 : decode cX3_init 32 = .ok (.lload 8, 2) := by decide +kernel
theorem dX3_init_34 : decode cX3_init 34 = .ok (.putfield 27, 3) := by decide +kernel
theorem dX3_init_37 : decode cX3_init 37 = .ok (.aload_n 0, 1) := by decide +kernel
theorem dX3_init_38 : decode cX3_init 38 = .ok (.iconst 1, 1) := by decide +kernel
theorem dX3_init_39 : decode cX3_init 39 = .ok (.putfield 30, 3) := by decide +kernel
theorem dX3_init_42 : decode cX3_init 42 = .ok (.return_, 1) := by decide +kernel
theorem dX3_isSale_0 : decode cX3_isSale 0 = .ok (.aload_n 0, 1) := by decide +kernel
theorem dX3_isSale_1 : decode cX3_isSale 1 = .ok (.getfield 20, 3) := by decide +kernel
theorem dX3_isSale_4 : decode cX3_isSale 4 = .ok (.lconst 0, 1) := by decide +kernel
theorem dX3_isSale_5 : decode cX3_isSale 5 = .ok (.lcmp, 1) := by decide +kernel
theorem dX3_isSale_6 : decode cX3_isSale 6 = .ok (.ifCond .ge 7, 3) := by decide +kernel
theorem dX3_isSale_9 : decode cX3_isSale 9 = .ok (.iconst 1, 1) := by decide +kernel
theorem dX3_isSale_10 : decode cX3_isSale 10 = .ok (.goto 4, 3) := by decide +kernel
theorem dX3_isSale_13 : decode cX3_isSale 13 = .ok (.iconst 0, 1) := by decide +kernel
theorem dX3_isSale_14 : decode cX3_isSale 14 = .ok (.ireturn, 1) := by decide +kernel
set_option maxRecDepth 20000 in
theorem ggX3_paid_X3_isSale : GoodIn wsX3_paid wsX3_isSale := goodIn_r _ [7, 8, 9, 10, 11, 12, 13, 14, 15, 16, 17] (by decide +kernel) (by decide +kernel)
set_option maxRecDepth 20000 in
theorem gX3_paid_X3_isSale : GoodIn wsX3_paid (wsV RX3 34 RX3 yX3_isSale wsX3_isSale) := goodIn_app (goodIn_of _ (by decide +kernel)) ggX3_paid_X3_isSale
theorem dX3_paid_0 : decode cX3_paid 0 = .ok (.aload_n 0, 1) := by decide +kernel
theorem dX3_paid_1 : decode cX3_paid 1 = .ok (.invokevirtual 34, 3) := by decide +kernel
theorem dX3_paid_4 : decode cX3_paid 4 = .ok (.ifCond .eq 15, 3) := by decide +kernel
theorem dX3_paid_7 : decode cX3_paid 7 = .ok (.aload_n 0, 1) := by decide +kernel
theorem dX3_paid_8 : decode cX3_paid 8 = .ok (.getfield 27, 3) := by decide +kernel
theorem dX3_paid_11 : decode cX3_paid 11 = .ok (.aload_n 0, 1) := by decide +kernel
theorem dX3_paid_12 : decode cX3_paid 12 = .ok (.getfield 24, 3) := by decide +kernel
theorem dX3_paid_15 : decode cX3_paid 15 = .ok (.lsub, 1) := by decide +kernel
theorem dX3_paid_16 : decode cX3_paid 16 = .ok (.goto 12, 3) := by decide +kernel
theorem dX3_paid_19 : decode cX3_paid 19 = .ok (.aload_n 0, 1) := by decide +kernel
theorem dX3_paid_20 : decode cX3_paid 20 = .ok (.getfield 27, 3) := by decide +kernel
theorem dX3_paid_23 : decode cX3_paid 23 = .ok (.aload_n 0, 1) := by decide +kernel
theorem dX3_paid_24 : decode cX3_paid 24 = .ok (.getfield 24, 3) := by decide +kernel
theorem dX3_paid_27 : decode cX3_paid 27 = .ok (.ladd, 1) := by decide +kernel
theorem dX3_paid_28 : decode cX3_paid 28 = .ok (.lreturn, 1) := by decide +kernel
set_option maxRecDepth 20000 in
theorem ggX4_init_Jx4a65c_init_da8c8 : GoodIn wsX4_init wsJx4a65c_init_da8c8 := goodIn_r _ [15, 16, 17, 18, 19, 20, 21, 22, 23, 24, 25, 26, 27, 2, 3, 87, 88, 89] (by decide +kernel) (by decide +kernel)
set_option maxRecDepth 20000 in
theorem gX4_init_Jx4a65c_init_da8c8 : GoodIn wsX4_init (wsJx4a65c_init_da8c8) := ggX4_init_Jx4a65c_init_da8c8
set_option maxRecDepth 20000 in
theorem ggX4_init_X1_init : GoodIn wsX4_init wsX1_init := goodIn_r _ [30, 31, 2, 3, 32, 33, 95, 96, 97, 98] (by decide +kernel) (by decide +kernel)
set_option maxRecDepth 20000 in
theorem gX4_init_X1_init : GoodIn wsX4_init (wsX1_init) := ggX4_init_X1_init
set_option maxRecDepth 20000 in
theorem ggX4_init_Jx4a65c_add_9ea2d : GoodIn wsX4_init wsJx4a65c_add_9ea2d := goodIn_r _ [37, 38, 39, 17, 40, 41, 42, 43, 6, 44, 45, 46, 47, 48, 49, 50, 51, 52, 16, 53, 54, 55, 56, 57, 58, 59, 60, 61, 62, 63, 64, 65, 66, 67, 68, 69, 70, 71, 72, 73, 74, 75, 76, 77, 78, 79, 80, 81, 82, 83, 84, 85, 86, 87, 88, 89] (by decide +kernel) (by decide +kernel)
set_option maxRecDepth 20000 in
theorem gX4_init_Jx4a65c_add_9ea2d : GoodIn wsX4_init (wsV RX4 27 RJx4a65c yJx4a65c_add_9ea2d wsJx4a65c_add_9ea2d) := goodIn_app (goodIn_of _ (by decide +kernel)) ggX4_init_Jx4a65c_add_9ea2d
theorem dX4_init_0 : decode cX4_init 0 = .ok (.aload_n 0, 1) := by decide +kernel
theorem dX4_init_1 : decode cX4_init 1 = .ok (.invokespecial 1, 3) := by decide +kernel
theorem dX4_init_4 : decode cX4_init 4 = .ok (.aload_n 0, 1) := by decide +kernel
theorem dX4_init_5 : decode cX4_init 5 = .ok (.new 7, 3) := by decide +kernel
theorem dX4_init_8 : decode cX4_init 8 = .ok (.dup, 1) := by decide +kernel
theorem dX4_init_9 : decode cX4_init 9 = .ok (.invokespecial 9, 3) := by decide +kernel
theorem dX4_init_12 : decode cX4_init 12 = .ok (.putfield 10, 3) := by decide +kernel
theorem dX4_init_15 : decode cX4_init 15 = .ok (.aload_n 0, 1) := by decide +kernel
theorem dX4_init_16 : decode cX4_init 16 = .ok (.new 7, 3) := by decide +kernel
theorem dX4_init_19 : decode cX4_init 19 = .ok (.dup, 1) := by decide +kernel
theorem dX4_init_20 : decode cX4_init 20 = .ok (.invokespecial 9, 3) := by decide +kernel
theorem dX4_init_23 : decode cX4_init 23 = .ok (.putfield 16, 3) := by decide +kernel
theorem dX4_init_26 : decode cX4_init 26 = .ok (.aload_n 0, 1) := by decide +kernel
theorem dX4_init_27 : decode cX4_init 27 = .ok (.new 7, 3) := by decide +kernel
theorem dX4_init_30 : decode cX4_init 30 = .ok (.dup, 1) := by decide +kernel
theorem dX4_init_31 : decode cX4_init 31 = .ok (.invokespecial 9, 3) := by decide +kernel
theorem dX4_init_34 : decode cX4_init 34 = .ok (.putfield 19, 3) := by decide +kernel
theorem dX4_init_37 : decode cX4_init 37 = .ok (.iconst 0, 1) := by decide +kernel
theorem dX4_init_38 : decode cX4_init 38 = .ok (.istore_n 1, 1) := by decide +kernel
theorem dX4_init_39 : decode cX4_init 39 = .ok (.iload_n 1, 1) := by decide +kernel
theorem dX4_init_40 : decode cX4_init 40 = .ok (.bipush 6, 2) := by decide +kernel
theorem dX4_init_42 : decode cX4_init 42 = .ok (.if_icmp .ge 25, 3) := by decide +kernel
theorem dX4_init_45 : decode cX4_init 45 = .ok (.aload_n 0, 1) := by decide +kernel
theorem dX4_init_46 : decode cX4_init 46 = .ok (.getfield 10, 3) := by decide +kernel
theorem dX4_init_49 : decode cX4_init 49 = .ok (.new 22, 3) := by decide +kernel
theorem dX4_init_52 : decode cX4_init 52 = .ok (.dup, 1) := by decide +kernel
theorem dX4_init_53 : decode cX4_init 53 = .ok (.iload_n 1, 1) := by decide +kernel
theorem dX4_init_54 : decode cX4_init 54 = .ok (.invokespecial 24, 3) := by decide +kernel
theorem dX4_init_57 : decode cX4_init 57 = .ok (.invokevirtual 27, 3) := by decide +kernel
theorem dX4_init_60 : decode cX4_init 60 = .ok (.pop, 1) := by decide +kernel
theorem dX4_init_61 : decode cX4_init 61 = .ok (.iinc 1 1, 3) := by decide +kernel
theorem dX4_init_64 : decode cX4_init 64 = .ok (.goto (-25), 3) := by decide +kernel
theorem dX4_init_67 : decode cX4_init 67 = .ok (.return_, 1) := by decide +kernel
set_option maxRecDepth 20000 in
theorem ggX4_price_X4_fundAt : GoodIn wsX4_price wsX4_fundAt := goodIn_ca (goodIn_r _ [7, 8, 9, 10, 11, 12, 13, 14, 15, 16, 17, 6, 18, 19, 20, 21, 22, 23, 24, 25, 26, 27, 28, 29, 30, 31, 32, 33, 34, 35, 36, 37, 47, 48, 49, 50, 51, 52, 53, 54] (by decide +kernel) (by decide +kernel)) (goodIn_sub (fun _ h => List.mem_cons_of_mem _ (List.mem_append_left _ (List.mem_append_right _ h))) (by decide +kernel))
set_option maxRecDepth 20000 in
theorem gX4_price_X4_fundAt : GoodIn wsX4_price (wsV RX4 31 RX4 yX4_fundAt wsX4_fundAt) := goodIn_app (goodIn_of _ (by decide +kernel)) ggX4_price_X4_fundAt
set_option maxRecDepth 20000 in
theorem ggX4_price_X4_checkRange : GoodIn wsX4_price wsX4_checkRange := goodIn_ca (goodIn_r _ [40, 41, 42] (by decide +kernel) (by decide +kernel)) (goodIn_sub (fun _ h => List.mem_cons_of_mem _ (List.mem_append_right _ h)) (by decide +kernel))
set_option maxRecDepth 20000 in
theorem gX4_price_X4_checkRange : GoodIn wsX4_price (va_wsS RX4 36 yX4_checkRange wsX4_checkRange) := goodIn_app (goodIn_of _ (by decide +kernel)) ggX4_price_X4_checkRange
theorem dX4_price_0 : decode cX4_price 0 = .ok (.aload_n 0, 1) := by decide +kernel
theorem dX4_price_1 : decode cX4_price 1 = .ok (.iload_n 1, 1) := by decide +kernel
theorem dX4_price_2 : decode cX4_price 2 = .ok (.invokevirtual 31, 3) := by decide +kernel
theorem dX4_price_5 : decode cX4_price 5 = .ok (.astore_n 3, 1) := by decide +kernel
theorem dX4_price_6 : decode cX4_price 6 = .ok (.iload_n 2, 1) := by decide +kernel
theorem dX4_price_7 : decode cX4_price 7 = .ok (.bipush 10, 2) := by decide +kernel
theorem dX4_price_9 : decode cX4_price 9 = .ok (.ldc 35, 2) := by decide +kernel
theorem dX4_price_11 : decode cX4_price 11 = .ok (.invokestatic 36, 3) := by decide +kernel
theorem dX4_price_14 : decode cX4_price 14 = .ok (.aload_n 3, 1) := by decide +kernel
theorem dX4_price_15 : decode cX4_price 15 = .ok (.getfield 40, 3) := by decide +kernel
theorem dX4_price_18 : decode cX4_price 18 = .ok (.istore 4, 2) := by decide +kernel
theorem dX4_price_20 : decode cX4_price 20 = .ok (.aload_n 3, 1) := by decide +kernel
theorem dX4_price_21 : decode cX4_price 21 = .ok (.iload_n 2, 1) := by decide +kernel
theorem dX4_price_22 : decode cX4_price 22 = .ok (.putfield 40, 3) := by decide +kernel
theorem dX4_price_25 : decode cX4_price 25 = .ok (.iload 4, 2) := by decide +kernel
theorem dX4_price_27 : decode cX4_price 27 = .ok (.ireturn, 1) := by decide +kernel
set_option maxRecDepth 20000 in
theorem ggX4_client_Jx4a65c_size_8abf5 : GoodIn wsX4_client wsJx4a65c_size_8abf5 := goodIn_r _ [15, 16, 139, 140, 141] (by decide +kernel) (by decide +kernel)
set_option maxRecDepth 20000 in
theorem gX4_client_Jx4a65c_size_8abf5 : GoodIn wsX4_client (wsV RX4 44 RJx4a65c yJx4a65c_size_8abf5 wsJx4a65c_size_8abf5) := goodIn_app (goodIn_of _ (by decide +kernel)) ggX4_client_Jx4a65c_size_8abf5
set_option maxRecDepth 20000 in
theorem ggX4_client_X4_checkPossible : GoodIn wsX4_client wsX4_checkPossible := goodIn_ca (goodIn_r _ [20, 21, 22] (by decide +kernel) (by decide +kernel)) (goodIn_sub (fun _ h => List.mem_cons_of_mem _ (List.mem_append_right _ h)) (by decide +kernel))
set_option maxRecDepth 20000 in
theorem gX4_client_X4_checkPossible : GoodIn wsX4_client (va_wsS RX4 48 yX4_checkPossible wsX4_checkPossible) := goodIn_app (goodIn_of _ (by decide +kernel)) ggX4_client_X4_checkPossible
set_option maxRecDepth 20000 in
theorem ggX4_client_X0_init : GoodIn wsX4_client wsX0_init := goodIn_r _ [25, 26, 27, 28, 29, 30, 31, 14, 32, 33, 34, 35, 36, 37, 38, 39, 40, 41, 42, 43, 44, 45, 46, 47, 48, 49, 50, 130, 131, 132, 133, 134, 139, 140, 141] (by decide +kernel) (by decide +kernel)
set_option maxRecDepth 20000 in
theorem gX4_client_X0_init : GoodIn wsX4_client (wsX0_init) := ggX4_client_X0_init
set_option maxRecDepth 20000 in
theorem ggX4_client_Jx4a65c_get_915e3 : GoodIn wsX4_client wsJx4a65c_get_915e3 := goodIn_r _ [54, 16, 55, 56, 57, 58, 59, 60, 61, 62, 63, 64, 65, 14, 66, 40, 139, 140, 141] (by decide +kernel) (by decide +kernel)
set_option maxRecDepth 20000 in
theorem gX4_client_Jx4a65c_get_915e3 : GoodIn wsX4_client (wsV RX4 60 RJx4a65c yJx4a65c_get_915e3 wsJx4a65c_get_915e3) := goodIn_app (goodIn_of _ (by decide +kernel)) ggX4_client_Jx4a65c_get_915e3
set_option maxRecDepth 20000 in
theorem ggX4_client_X2_init : GoodIn wsX4_client wsX2_init := goodIn_r _ [69, 70, 27, 28, 71, 72, 135, 136, 137, 138] (by decide +kernel) (by decide +kernel)
set_option maxRecDepth 20000 in
theorem gX4_client_X2_init : GoodIn wsX4_client (wsX2_init) := ggX4_client_X2_init
set_option maxRecDepth 20000 in
theorem ggX4_client_Jx4a65c_add_9ea2d : GoodIn wsX4_client wsJx4a65c_add_9ea2d := goodIn_r _ [76, 77, 78, 40, 16, 79, 80, 81, 14, 82, 83, 84, 85, 86, 87, 88, 89, 90, 39, 91, 92, 93, 94, 95, 96, 97, 98, 99, 100, 101, 102, 103, 104, 105, 106, 107, 108, 109, 110, 111, 112, 113, 114, 115, 116, 117, 118, 119, 120, 121, 122, 123, 124, 139, 140, 141] (by decide +kernel) (by decide +kernel)
set_option maxRecDepth 20000 in
theorem gX4_client_Jx4a65c_add_9ea2d : GoodIn wsX4_client (wsV RX4 27 RJx4a65c yJx4a65c_add_9ea2d wsJx4a65c_add_9ea2d) := goodIn_app (goodIn_of _ (by decide +kernel)) ggX4_client_Jx4a65c_add_9ea2d
theorem dX4_client_0 : decode cX4_client 0 = .ok (.aload_n 0, 1) := by decide +kernel
theorem dX4_client_1 : decode cX4_client 1 = .ok (.getfield 16, 3) := by decide +kernel
theorem dX4_client_4 : decode cX4_client 4 = .ok (.invokevirtual 44, 3) := by decide +kernel
theorem dX4_client_7 : decode cX4_client 7 = .ok (.istore_n 1, 1) := by decide +kernel
theorem dX4_client_8 : decode cX4_client 8 = .ok (.iload_n 1, 1) := by decide +kernel
theorem dX4_client_9 : decode cX4_client 9 = .ok (.bipush 12, 2) := by decide +kernel
theorem dX4_client_11 : decode cX4_client 11 = .ok (.if_icmp .ge 7, 3) := by decide +kernel
theorem dX4_client_14 : decode cX4_client 14 = .ok (.iconst 1, 1) := by decide +kernel
theorem dX4_client_15 : decode cX4_client 15 = .ok (.goto 4, 3) := by decide +kernel
theorem dX4_client_18 : decode cX4_client 18 = .ok (.iconst 0, 1) := by decide +kernel
theorem dX4_client_19 : decode cX4_client 19 = .ok (.invokestatic 48, 3) := by decide +kernel
theorem dX4_client_22 : decode cX4_client 22 = .ok (.new 52, 3) := by decide +kernel
theorem dX4_client_25 : decode cX4_client 25 = .ok (.dup, 1) := by decide +kernel
theorem dX4_client_26 : decode cX4_client 26 = .ok (.iload_n 1, 1) := by decide +kernel
theorem dX4_client_27 : decode cX4_client 27 = .ok (.invokespecial 54, 3) := by decide +kernel
theorem dX4_client_30 : decode cX4_client 30 = .ok (.astore_n 2, 1) := by decide +kernel
theorem dX4_client_31 : decode cX4_client 31 = .ok (.iconst 0, 1) := by decide +kernel
theorem dX4_client_32 : decode cX4_client 32 = .ok (.istore_n 3, 1) := by decide +kernel
theorem dX4_client_33 : decode cX4_client 33 = .ok (.iload_n 3, 1) := by decide +kernel
theorem dX4_client_34 : decode cX4_client 34 = .ok (.aload_n 0, 1) := by decide +kernel
theorem dX4_client_35 : decode cX4_client 35 = .ok (.getfield 10, 3) := by decide +kernel
theorem dX4_client_38 : decode cX4_client 38 = .ok (.invokevirtual 44, 3) := by decide +kernel
theorem dX4_client_41 : decode cX4_client 41 = .ok (.if_icmp .ge 36, 3) := by decide +kernel
theorem dX4_client_44 : decode cX4_client 44 = .ok (.aload_n 2, 1) := by decide +kernel
theorem dX4_client_45 : decode cX4_client 45 = .ok (.getfield 55, 3) := by decide +kernel
theorem dX4_client_48 : decode cX4_client 48 = .ok (.new 58, 3) := by decide +kernel
theorem dX4_client_51 : decode cX4_client 51 = .ok (.dup, 1) := by decide +kernel
theorem dX4_client_52 : decode cX4_client 52 = .ok (.aload_n 2, 1) := by decide +kernel
theorem dX4_client_53 : decode cX4_client 53 = .ok (.aload_n 0, 1) := by decide +kernel
theorem dX4_client_54 : decode cX4_client 54 = .ok (.getfield 10, 3) := by decide +kernel
theorem dX4_client_57 : decode cX4_client 57 = .ok (.iload_n 3, 1) := by decide +kernel
theorem dX4_client_58 : decode cX4_client 58 = .ok (.invokevirtual 60, 3) := by decide +kernel
theorem dX4_client_61 : decode cX4_client 61 = .ok (.checkcast 22, 3) := by decide +kernel
theorem dX4_client_64 : decode cX4_client 64 = .ok (.invokespecial 64, 3) := by decide +kernel
theorem dX4_client_67 : decode cX4_client 67 = .ok (.invokevirtual 27, 3) := by decide +kernel
theorem dX4_client_70 : decode cX4_client 70 = .ok (.pop, 1) := by decide +kernel
theorem dX4_client_71 : decode cX4_client 71 = .ok (.iinc 3 1, 3) := by decide +kernel
theorem dX4_client_74 : decode cX4_client 74 = .ok (.goto (-41), 3) := by decide +kernel
theorem dX4_client_77 : decode cX4_client 77 = .ok (.aload_n 0, 1) := by decide +kernel
theorem dX4_client_78 : decode cX4_client 78 = .ok (.getfield 16, 3) := by decide +kernel
theorem dX4_client_81 : decode cX4_client 81 = .ok (.aload_n 2, 1) := by decide +kernel
theorem dX4_client_82 : decode cX4_client 82 = .ok (.invokevirtual 27, 3) := by decide +kernel
theorem dX4_client_85 : decode cX4_client 85 = .ok (.pop, 1) := by decide +kernel
theorem dX4_client_86 : decode cX4_client 86 = .ok (.iload_n 1, 1) := by decide +kernel
theorem dX4_client_87 : decode cX4_client 87 = .ok (.ireturn, 1) := by decide +kernel
set_option maxRecDepth 20000 in
theorem ggX4_pay_X4_clientAt : GoodIn wsX4_pay wsX4_clientAt := goodIn_ca (goodIn_r _ [8, 9, 10, 11, 12, 13, 14, 15, 16, 17, 18, 7, 19, 20, 21, 22, 23, 24, 25, 26, 27, 28, 29, 30, 31, 32, 33, 34, 35, 36, 37, 38, 54, 55, 56, 57, 58, 59, 60, 61] (by decide +kernel) (by decide +kernel)) (goodIn_sub (fun _ h => List.mem_cons_of_mem _ (List.mem_append_left _ (List.mem_append_left _ (List.mem_append_right _ h)))) (by decide +kernel))
set_option maxRecDepth 20000 in
theorem gX4_pay_X4_clientAt : GoodIn wsX4_pay (wsV RX4 67 RX4 yX4_clientAt wsX4_clientAt) := goodIn_app (goodIn_of _ (by decide +kernel)) ggX4_pay_X4_clientAt
set_option maxRecDepth 20000 in
theorem ggX4_pay_X4_checkRange : GoodIn wsX4_pay wsX4_checkRange := goodIn_ca (goodIn_r _ [41, 42, 43] (by decide +kernel) (by decide +kernel)) (goodIn_sub (fun _ h => List.mem_cons_of_mem _ (List.mem_append_left _ (List.mem_append_right _ h))) (by decide +kernel))
set_option maxRecDepth 20000 in
theorem gX4_pay_X4_checkRange : GoodIn wsX4_pay (va_wsS RX4 36 yX4_checkRange wsX4_checkRange) := goodIn_app (goodIn_of _ (by decide +kernel)) ggX4_pay_X4_checkRange
set_option maxRecDepth 20000 in
theorem ggX4_pay_X4_checkPossible : GoodIn wsX4_pay wsX4_checkPossible := goodIn_ca (goodIn_r _ [46, 47, 48] (by decide +kernel) (by decide +kernel)) (goodIn_sub (fun _ h => List.mem_cons_of_mem _ (List.mem_append_right _ h)) (by decide +kernel))
set_option maxRecDepth 20000 in
theorem gX4_pay_X4_checkPossible : GoodIn wsX4_pay (va_wsS RX4 48 yX4_checkPossible wsX4_checkPossible) := goodIn_app (goodIn_of _ (by decide +kernel)) ggX4_pay_X4_checkPossible
theorem dX4_pay_0 : decode cX4_pay 0 = .ok (.aload_n 0, 1) := by decide +kernel
theorem dX4_pay_1 : decode cX4_pay 1 = .ok (.iload_n 1, 1) := by decide +kernel
theorem dX4_pay_2 : decode cX4_pay 2 = .ok (.invokevirtual 67, 3) := by decide +kernel
theorem dX4_pay_5 : decode cX4_pay 5 = .ok (.astore_n 3, 1) := by decide +kernel
theorem dX4_pay_6 : decode cX4_pay 6 = .ok (.iload_n 2, 1) := by decide +kernel
theorem dX4_pay_7 : decode cX4_pay 7 = .ok (.ldc 71, 2) := by decide +kernel
theorem dX4_pay_9 : decode cX4_pay 9 = .ok (.ldc 72, 2) := by decide +kernel
theorem dX4_pay_11 : decode cX4_pay 11 = .ok (.invokestatic 36, 3) := by decide +kernel
theorem dX4_pay_14 : decode cX4_pay 14 = .ok (.iload_n 2, 1) := by decide +kernel
theorem dX4_pay_15 : decode cX4_pay 15 = .ok (.ifCond .ge 15, 3) := by decide +kernel
theorem dX4_pay_18 : decode cX4_pay 18 = .ok (.aload_n 3, 1) := by decide +kernel
theorem dX4_pay_19 : decode cX4_pay 19 = .ok (.getfield 73, 3) := by decide +kernel
theorem dX4_pay_22 : decode cX4_pay 22 = .ok (.iload_n 2, 1) := by decide +kernel
theorem dX4_pay_23 : decode cX4_pay 23 = .ok (.i2l, 1) := by decide +kernel
theorem dX4_pay_24 : decode cX4_pay 24 = .ok (.ladd, 1) := by decide +kernel
theorem dX4_pay_25 : decode cX4_pay 25 = .ok (.lconst 0, 1) := by decide +kernel
theorem dX4_pay_26 : decode cX4_pay 26 = .ok (.lcmp, 1) := by decide +kernel
theorem dX4_pay_27 : decode cX4_pay 27 = .ok (.ifCond .lt 7, 3) := by decide +kernel
theorem dX4_pay_30 : decode cX4_pay 30 = .ok (.iconst 1, 1) := by decide +kernel
theorem dX4_pay_31 : decode cX4_pay 31 = .ok (.goto 4, 3) := by decide +kernel
theorem dX4_pay_34 : decode cX4_pay 34 = .ok (.iconst 0, 1) := by decide +kernel
theorem dX4_pay_35 : decode cX4_pay 35 = .ok (.invokestatic 48, 3) := by decide +kernel
theorem dX4_pay_38 : decode cX4_pay 38 = .ok (.aload_n 3, 1) := by decide +kernel
theorem dX4_pay_39 : decode cX4_pay 39 = .ok (.dup, 1) := by decide +kernel
theorem dX4_pay_40 : decode cX4_pay 40 = .ok (.getfield 73, 3) := by decide +kernel
theorem dX4_pay_43 : decode cX4_pay 43 = .ok (.iload_n 2, 1) := by decide +kernel
theorem dX4_pay_44 : decode cX4_pay 44 = .ok (.i2l, 1) := by decide +kernel
theorem dX4_pay_45 : decode cX4_pay 45 = .ok (.ladd, 1) := by decide +kernel
theorem dX4_pay_46 : decode cX4_pay 46 = .ok (.putfield 73, 3) := by decide +kernel
theorem dX4_pay_49 : decode cX4_pay 49 = .ok (.aload_n 3, 1) := by decide +kernel
theorem dX4_pay_50 : decode cX4_pay 50 = .ok (.getfield 73, 3) := by decide +kernel
theorem dX4_pay_53 : decode cX4_pay 53 = .ok (.lreturn, 1) := by decide +kernel
set_option maxRecDepth 20000 in
theorem ggX4_goal_X4_holdingAt : GoodIn wsX4_goal wsX4_holdingAt := goodIn_ca (goodIn_r _ [7, 8, 9, 10, 11, 12, 6, 13, 14, 15, 16, 17, 18, 19, 20, 21, 22, 23, 24, 25, 26, 27, 28, 29, 30, 31, 32, 33, 34, 35, 36, 37, 38, 39, 40, 41, 42, 43, 61, 62, 63, 64, 65, 66, 67, 68, 69, 70, 71, 72, 73] (by decide +kernel) (by decide +kernel)) (goodIn_sub (fun _ h => List.mem_cons_of_mem _ (List.mem_append_left _ (List.mem_append_left _ (List.mem_append_right _ h)))) (by decide +kernel))
set_option maxRecDepth 20000 in
theorem gX4_goal_X4_holdingAt : GoodIn wsX4_goal (wsV RX4 77 RX4 yX4_holdingAt wsX4_holdingAt) := goodIn_app (goodIn_of _ (by decide +kernel)) ggX4_goal_X4_holdingAt
set_option maxRecDepth 20000 in
theorem ggX4_goal_X4_checkRange : GoodIn wsX4_goal wsX4_checkRange := goodIn_ca (goodIn_r _ [46, 47, 48] (by decide +kernel) (by decide +kernel)) (goodIn_sub (fun _ h => List.mem_cons_of_mem _ (List.mem_append_left _ (List.mem_append_right _ h))) (by decide +kernel))
set_option maxRecDepth 20000 in
theorem gX4_goal_X4_checkRange : GoodIn wsX4_goal (va_wsS RX4 36 yX4_checkRange wsX4_checkRange) := goodIn_app (goodIn_of _ (by decide +kernel)) ggX4_goal_X4_checkRange
set_option maxRecDepth 20000 in
theorem ggX4_goal_X4_hundredthsTogether : GoodIn wsX4_goal wsX4_hundredthsTogether := goodIn_r _ [51, 8, 9, 2, 16, 17, 18, 19, 20, 21, 27, 28, 29, 30, 31, 32, 33, 34, 35, 36, 37, 38, 39, 40, 41, 42, 43, 61, 62, 63, 64, 65, 57, 58, 59, 60, 71, 72, 73] (by decide +kernel) (by decide +kernel)
set_option maxRecDepth 20000 in
theorem gX4_goal_X4_hundredthsTogether : GoodIn wsX4_goal (va_wsS RX4 85 yX4_hundredthsTogether wsX4_hundredthsTogether) := goodIn_app (goodIn_of _ (by decide +kernel)) ggX4_goal_X4_hundredthsTogether
set_option maxRecDepth 20000 in
theorem ggX4_goal_X4_checkPossible : GoodIn wsX4_goal wsX4_checkPossible := goodIn_ca (goodIn_r _ [54, 55, 56] (by decide +kernel) (by decide +kernel)) (goodIn_sub (fun _ h => List.mem_cons_of_mem _ (List.mem_append_right _ h)) (by decide +kernel))
set_option maxRecDepth 20000 in
theorem gX4_goal_X4_checkPossible : GoodIn wsX4_goal (va_wsS RX4 48 yX4_checkPossible wsX4_checkPossible) := goodIn_app (goodIn_of _ (by decide +kernel)) ggX4_goal_X4_checkPossible
theorem dX4_goal_0 : decode cX4_goal 0 = .ok (.aload_n 0, 1) := by decide +kernel
theorem dX4_goal_1 : decode cX4_goal 1 = .ok (.iload_n 1, 1) := by decide +kernel
theorem dX4_goal_2 : decode cX4_goal 2 = .ok (.iload_n 2, 1) := by decide +kernel
theorem dX4_goal_3 : decode cX4_goal 3 = .ok (.invokevirtual 77, 3) := by decide +kernel
theorem dX4_goal_6 : decode cX4_goal 6 = .ok (.astore 4, 2) := by decide +kernel
theorem dX4_goal_8 : decode cX4_goal 8 = .ok (.iload_n 3, 1) := by decide +kernel
theorem dX4_goal_9 : decode cX4_goal 9 = .ok (.iconst 0, 1) := by decide +kernel
theorem dX4_goal_10 : decode cX4_goal 10 = .ok (.bipush 100, 2) := by decide +kernel
theorem dX4_goal_12 : decode cX4_goal 12 = .ok (.invokestatic 36, 3) := by decide +kernel
theorem dX4_goal_15 : decode cX4_goal 15 = .ok (.aload 4, 2) := by decide +kernel
theorem dX4_goal_17 : decode cX4_goal 17 = .ok (.getfield 81, 3) := by decide +kernel
theorem dX4_goal_20 : decode cX4_goal 20 = .ok (.invokestatic 85, 3) := by decide +kernel
theorem dX4_goal_23 : decode cX4_goal 23 = .ok (.aload 4, 2) := by decide +kernel
theorem dX4_goal_25 : decode cX4_goal 25 = .ok (.getfield 89, 3) := by decide +kernel
theorem dX4_goal_28 : decode cX4_goal 28 = .ok (.isub, 1) := by decide +kernel
theorem dX4_goal_29 : decode cX4_goal 29 = .ok (.iload_n 3, 1) := by decide +kernel
theorem dX4_goal_30 : decode cX4_goal 30 = .ok (.iadd, 1) := by decide +kernel
theorem dX4_goal_31 : decode cX4_goal 31 = .ok (.istore 5, 2) := by decide +kernel
theorem dX4_goal_33 : decode cX4_goal 33 = .ok (.iload 5, 2) := by decide +kernel
theorem dX4_goal_35 : decode cX4_goal 35 = .ok (.bipush 100, 2) := by decide +kernel
theorem dX4_goal_37 : decode cX4_goal 37 = .ok (.if_icmp .gt 7, 3) := by decide +kernel
theorem dX4_goal_40 : decode cX4_goal 40 = .ok (.iconst 1, 1) := by decide +kernel
theorem dX4_goal_41 : decode cX4_goal 41 = .ok (.goto 4, 3) := by decide +kernel
theorem dX4_goal_44 : decode cX4_goal 44 = .ok (.iconst 0, 1) := by decide +kernel
theorem dX4_goal_45 : decode cX4_goal 45 = .ok (.invokestatic 48, 3) := by decide +kernel
theorem dX4_goal_48 : decode cX4_goal 48 = .ok (.aload 4, 2) := by decide +kernel
theorem dX4_goal_50 : decode cX4_goal 50 = .ok (.iload_n 3, 1) := by decide +kernel
theorem dX4_goal_51 : decode cX4_goal 51 = .ok (.putfield 89, 3) := by decide +kernel
theorem dX4_goal_54 : decode cX4_goal 54 = .ok (.iload 5, 2) := by decide +kernel
theorem dX4_goal_56 : decode cX4_goal 56 = .ok (.ireturn, 1) := by decide +kernel
set_option maxRecDepth 20000 in
theorem ggX4_buy_X4_holdingAt : GoodIn wsX4_buy wsX4_holdingAt := goodIn_ca (goodIn_r _ [10, 11, 12, 13, 14, 15, 9, 16, 17, 18, 19, 20, 21, 22, 23, 24, 25, 26, 27, 28, 29, 30, 31, 32, 33, 34, 35, 36, 37, 38, 39, 40, 41, 42, 43, 44, 45, 46, 200, 201, 202, 203, 204, 191, 192, 193, 194, 195, 205, 206, 207] (by decide +kernel) (by decide +kernel)) (goodIn_sub (fun _ h => List.mem_cons_of_mem _ (List.mem_append_left _ (List.mem_append_left _ (List.mem_append_right _ h)))) (by decide +kernel))
set_option maxRecDepth 20000 in
theorem gX4_buy_X4_holdingAt : GoodIn wsX4_buy (wsV RX4 77 RX4 yX4_holdingAt wsX4_holdingAt) := goodIn_app (goodIn_of _ (by decide +kernel)) ggX4_buy_X4_holdingAt
set_option maxRecDepth 20000 in
theorem ggX4_buy_X4_checkRange : GoodIn wsX4_buy wsX4_checkRange := goodIn_ca (goodIn_r _ [49, 50, 51] (by decide +kernel) (by decide +kernel)) (goodIn_sub (fun _ h => List.mem_cons_of_mem _ (List.mem_append_left _ (List.mem_append_right _ h))) (by decide +kernel))
set_option maxRecDepth 20000 in
theorem gX4_buy_X4_checkRange : GoodIn wsX4_buy (va_wsS RX4 36 yX4_checkRange wsX4_checkRange) := goodIn_app (goodIn_of _ (by decide +kernel)) ggX4_buy_X4_checkRange
set_option maxRecDepth 20000 in
theorem ggX4_buy_Jx4a65c_size_8abf5 : GoodIn wsX4_buy wsJx4a65c_size_8abf5 := goodIn_r _ [23, 24, 205, 206, 207] (by decide +kernel) (by decide +kernel)
set_option maxRecDepth 20000 in
theorem gX4_buy_Jx4a65c_size_8abf5 : GoodIn wsX4_buy (wsV RX4 44 RJx4a65c yJx4a65c_size_8abf5 wsJx4a65c_size_8abf5) := goodIn_app (goodIn_of _ (by decide +kernel)) ggX4_buy_Jx4a65c_size_8abf5
set_option maxRecDepth 20000 in
theorem ggX4_buy_X4_checkPossible : GoodIn wsX4_buy wsX4_checkPossible := goodIn_ca (goodIn_r _ [54, 55, 56] (by decide +kernel) (by decide +kernel)) (goodIn_sub (fun _ h => List.mem_cons_of_mem _ (List.mem_append_right _ h)) (by decide +kernel))
set_option maxRecDepth 20000 in
theorem gX4_buy_X4_checkPossible : GoodIn wsX4_buy (va_wsS RX4 48 yX4_checkPossible wsX4_checkPossible) := goodIn_app (goodIn_of _ (by decide +kernel)) ggX4_buy_X4_checkPossible
set_option maxRecDepth 20000 in
theorem ggX4_buy_X4_partsFor : GoodIn wsX4_buy wsX4_partsFor := goodIn_r _ [59, 60, 61, 62, 63, 9, 64, 208, 209, 210, 211] (by decide +kernel) (by decide +kernel)
set_option maxRecDepth 20000 in
theorem gX4_buy_X4_partsFor : GoodIn wsX4_buy (va_wsS RX4 96 yX4_partsFor wsX4_partsFor) := goodIn_app (goodIn_of _ (by decide +kernel)) ggX4_buy_X4_partsFor
set_option maxRecDepth 20000 in
theorem ggX4_buy_X4_costsOf : GoodIn wsX4_buy wsX4_costsOf := goodIn_r _ [67, 68, 69] (by decide +kernel) (by decide +kernel)
set_option maxRecDepth 20000 in
theorem gX4_buy_X4_costsOf : GoodIn wsX4_buy (va_wsS RX4 100 yX4_costsOf wsX4_costsOf) := goodIn_app (goodIn_of _ (by decide +kernel)) ggX4_buy_X4_costsOf
set_option maxRecDepth 20000 in
theorem ggX4_buy_X4_makeTrade : GoodIn wsX4_buy wsX4_makeTrade := goodIn_r _ [73, 74, 75, 76, 2, 77, 78, 19, 20, 21, 22, 23, 24, 65, 66, 9, 67, 68, 69, 79, 80, 81, 82, 83, 84, 85, 86, 87, 88, 89, 90, 91, 92, 93, 94, 95, 96, 97, 46, 98, 99, 100, 101, 102, 103, 104, 105, 106, 107, 108, 109, 110, 111, 112, 113, 114, 115, 116, 117, 118, 119, 120, 121, 122, 123, 124, 125, 126, 127, 128, 129, 130, 131, 132, 133, 134, 135, 136, 137, 138, 139, 140, 141, 142, 143, 144, 145, 146, 147, 148, 149, 150, 151, 152, 153, 154, 155, 156, 3, 4, 5, 157, 158, 159, 160, 60, 161, 162, 163, 164, 165, 61, 166, 167, 168, 169, 170, 171, 172, 173, 174, 175, 176, 177, 178, 179, 180, 181, 182, 183, 184, 185, 186, 30, 31, 32, 33, 34, 35, 36, 37, 38, 39, 40, 41, 42, 43, 44, 45, 62, 63, 64, 187, 188, 189, 190, 212, 213, 214, 215, 216, 217, 218, 219, 220, 191, 192, 193, 194, 195, 205, 206, 207, 196, 197, 198, 199, 200, 201, 202, 203, 204, 208, 209, 210, 211] (by decide +kernel) (by decide +kernel)
set_option maxRecDepth 20000 in
theorem gX4_buy_X4_makeTrade : GoodIn wsX4_buy (wsV RX4 104 RX4 yX4_makeTrade wsX4_makeTrade) := goodIn_app (goodIn_of _ (by decide +kernel)) ggX4_buy_X4_makeTrade
theorem dX4_buy_0 : decode cX4_buy 0 = .ok (.aload_n 0, 1) := by decide +kernel
theorem dX4_buy_1 : decode cX4_buy 1 = .ok (.iload_n 1, 1) := by decide +kernel
theorem dX4_buy_2 : decode cX4_buy 2 = .ok (.iload_n 2, 1) := by decide +kernel
theorem dX4_buy_3 : decode cX4_buy 3 = .ok (.invokevirtual 77, 3) := by decide +kernel
theorem dX4_buy_6 : decode cX4_buy 6 = .ok (.astore 4, 2) := by decide +kernel
theorem dX4_buy_8 : decode cX4_buy 8 = .ok (.iload_n 3, 1) := by decide +kernel
theorem dX4_buy_9 : decode cX4_buy 9 = .ok (.iconst 1, 1) := by decide +kernel
theorem dX4_buy_10 : decode cX4_buy 10 = .ok (.ldc 72, 2) := by decide +kernel
theorem dX4_buy_12 : decode cX4_buy 12 = .ok (.invokestatic 36, 3) := by decide +kernel
theorem dX4_buy_15 : decode cX4_buy 15 = .ok (.aload_n 0, 1) := by decide +kernel
theorem dX4_buy_16 : decode cX4_buy 16 = .ok (.getfield 19, 3) := by decide +kernel
theorem dX4_buy_19 : decode cX4_buy 19 = .ok (.invokevirtual 44, 3) := by decide +kernel
theorem dX4_buy_22 : decode cX4_buy 22 = .ok (.bipush 120, 2) := by decide +kernel
theorem dX4_buy_24 : decode cX4_buy 24 = .ok (.if_icmp .ge 7, 3) := by decide +kernel
theorem dX4_buy_27 : decode cX4_buy 27 = .ok (.iconst 1, 1) := by decide +kernel
theorem dX4_buy_28 : decode cX4_buy 28 = .ok (.goto 4, 3) := by decide +kernel
theorem dX4_buy_31 : decode cX4_buy 31 = .ok (.iconst 0, 1) := by decide +kernel
theorem dX4_buy_32 : decode cX4_buy 32 = .ok (.invokestatic 48, 3) := by decide +kernel
theorem dX4_buy_35 : decode cX4_buy 35 = .ok (.iload_n 3, 1) := by decide +kernel
theorem dX4_buy_36 : decode cX4_buy 36 = .ok (.i2l, 1) := by decide +kernel
theorem dX4_buy_37 : decode cX4_buy 37 = .ok (.aload 4, 2) := by decide +kernel
theorem dX4_buy_39 : decode cX4_buy 39 = .ok (.getfield 92, 3) := by decide +kernel
theorem dX4_buy_42 : decode cX4_buy 42 = .ok (.invokestatic 96, 3) := by decide +kernel
theorem dX4_buy_45 : decode cX4_buy 45 = .ok (.lstore 5, 2) := by decide +kernel
theorem dX4_buy_47 : decode cX4_buy 47 = .ok (.lload 5, 2) := by decide +kernel
theorem dX4_buy_49 : decode cX4_buy 49 = .ok (.lconst 0, 1) := by decide +kernel
theorem dX4_buy_50 : decode cX4_buy 50 = .ok (.lcmp, 1) := by decide +kernel
theorem dX4_buy_51 : decode cX4_buy 51 = .ok (.ifCond .le 27, 3) := by decide +kernel
theorem dX4_buy_54 : decode cX4_buy 54 = .ok (.iload_n 3, 1) := by decide +kernel
theorem dX4_buy_55 : decode cX4_buy 55 = .ok (.i2l, 1) := by decide +kernel
theorem dX4_buy_56 : decode cX4_buy 56 = .ok (.iload_n 3, 1) := by decide +kernel
theorem dX4_buy_57 : decode cX4_buy 57 = .ok (.i2l, 1) := by decide +kernel
theorem dX4_buy_58 : decode cX4_buy 58 = .ok (.invokestatic 100, 3) := by decide +kernel
theorem dX4_buy_61 : decode cX4_buy 61 = .ok (.ladd, 1) := by decide +kernel
theorem dX4_buy_62 : decode cX4_buy 62 = .ok (.aload 4, 2) := by decide +kernel
theorem dX4_buy_64 : decode cX4_buy 64 = .ok (.getfield 81, 3) := by decide +kernel
theorem dX4_buy_67 : decode cX4_buy 67 = .ok (.getfield 73, 3) := by decide +kernel
theorem dX4_buy_70 : decode cX4_buy 70 = .ok (.lcmp, 1) := by decide +kernel
theorem dX4_buy_71 : decode cX4_buy 71 = .ok (.ifCond .gt 7, 3) := by decide +kernel
theorem dX4_buy_74 : decode cX4_buy 74 = .ok (.iconst 1, 1) := by decide +kernel
theorem dX4_buy_75 : decode cX4_buy 75 = .ok (.goto 4, 3) := by decide +kernel
theorem dX4_buy_78 : decode cX4_buy 78 = .ok (.iconst 0, 1) := by decide +kernel
theorem dX4_buy_79 : decode cX4_buy 79 = .ok (.invokestatic 48, 3) := by decide +kernel
theorem dX4_buy_82 : decode cX4_buy 82 = .ok (.aload_n 0, 1) := by decide +kernel
theorem dX4_buy_83 : decode cX4_buy 83 = .ok (.aload 4, 2) := by decide +kernel
theorem dX4_buy_85 : decode cX4_buy 85 = .ok (.lload 5, 2) := by decide +kernel
theorem dX4_buy_87 : decode cX4_buy 87 = .ok (.iload_n 3, 1) := by decide +kernel
theorem dX4_buy_88 : decode cX4_buy 88 = .ok (.i2l, 1) := by decide +kernel
theorem dX4_buy_89 : decode cX4_buy 89 = .ok (.invokevirtual 104, 3) := by decide +kernel
theorem dX4_buy_92 : decode cX4_buy 92 = .ok (.ireturn, 1) := by decide +kernel
set_option maxRecDepth 20000 in
theorem ggX4_sell_X4_holdingAt : GoodIn wsX4_sell wsX4_holdingAt := goodIn_ca (goodIn_r _ [10, 11, 12, 13, 14, 15, 9, 16, 17, 18, 19, 20, 21, 22, 23, 24, 25, 26, 27, 28, 29, 30, 31, 32, 33, 34, 35, 36, 37, 38, 39, 40, 41, 42, 43, 44, 45, 46, 201, 202, 203, 204, 205, 192, 193, 194, 195, 196, 206, 207, 208] (by decide +kernel) (by decide +kernel)) (goodIn_sub (fun _ h => List.mem_cons_of_mem _ (List.mem_append_left _ (List.mem_append_left _ (List.mem_append_right _ h)))) (by decide +kernel))
set_option maxRecDepth 20000 in
theorem gX4_sell_X4_holdingAt : GoodIn wsX4_sell (wsV RX4 77 RX4 yX4_holdingAt wsX4_holdingAt) := goodIn_app (goodIn_of _ (by decide +kernel)) ggX4_sell_X4_holdingAt
set_option maxRecDepth 20000 in
theorem ggX4_sell_X4_checkRange : GoodIn wsX4_sell wsX4_checkRange := goodIn_ca (goodIn_r _ [49, 50, 51] (by decide +kernel) (by decide +kernel)) (goodIn_sub (fun _ h => List.mem_cons_of_mem _ (List.mem_append_left _ (List.mem_append_right _ h))) (by decide +kernel))
set_option maxRecDepth 20000 in
theorem gX4_sell_X4_checkRange : GoodIn wsX4_sell (va_wsS RX4 36 yX4_checkRange wsX4_checkRange) := goodIn_app (goodIn_of _ (by decide +kernel)) ggX4_sell_X4_checkRange
set_option maxRecDepth 20000 in
theorem ggX4_sell_Jx4a65c_size_8abf5 : GoodIn wsX4_sell wsJx4a65c_size_8abf5 := goodIn_r _ [23, 24, 206, 207, 208] (by decide +kernel) (by decide +kernel)
set_option maxRecDepth 20000 in
theorem gX4_sell_Jx4a65c_size_8abf5 : GoodIn wsX4_sell (wsV RX4 44 RJx4a65c yJx4a65c_size_8abf5 wsJx4a65c_size_8abf5) := goodIn_app (goodIn_of _ (by decide +kernel)) ggX4_sell_Jx4a65c_size_8abf5
set_option maxRecDepth 20000 in
theorem ggX4_sell_X4_checkPossible : GoodIn wsX4_sell wsX4_checkPossible := goodIn_ca (goodIn_r _ [54, 55, 56] (by decide +kernel) (by decide +kernel)) (goodIn_sub (fun _ h => List.mem_cons_of_mem _ (List.mem_append_right _ h)) (by decide +kernel))
set_option maxRecDepth 20000 in
theorem gX4_sell_X4_checkPossible : GoodIn wsX4_sell (va_wsS RX4 48 yX4_checkPossible wsX4_checkPossible) := goodIn_app (goodIn_of _ (by decide +kernel)) ggX4_sell_X4_checkPossible
set_option maxRecDepth 20000 in
theorem ggX4_sell_X4_amountFor : GoodIn wsX4_sell wsX4_amountFor := goodIn_r _ [59, 60, 61, 209, 210, 211, 212] (by decide +kernel) (by decide +kernel)
set_option maxRecDepth 20000 in
theorem gX4_sell_X4_amountFor : GoodIn wsX4_sell (va_wsS RX4 112 yX4_amountFor wsX4_amountFor) := goodIn_app (goodIn_of _ (by decide +kernel)) ggX4_sell_X4_amountFor
set_option maxRecDepth 20000 in
theorem ggX4_sell_X4_makeTrade : GoodIn wsX4_sell wsX4_makeTrade := goodIn_r _ [65, 66, 67, 68, 2, 69, 70, 19, 20, 21, 22, 23, 24, 71, 72, 9, 73, 74, 75, 76, 77, 78, 79, 80, 81, 82, 83, 84, 85, 86, 87, 88, 89, 90, 91, 92, 93, 94, 46, 95, 96, 97, 98, 99, 100, 101, 102, 103, 104, 105, 106, 107, 108, 109, 110, 111, 112, 113, 114, 115, 116, 117, 118, 119, 120, 121, 122, 123, 124, 125, 126, 127, 128, 129, 130, 131, 132, 133, 134, 135, 136, 137, 138, 139, 140, 141, 142, 143, 144, 145, 146, 147, 148, 149, 150, 151, 152, 153, 4, 154, 155, 156, 3, 157, 158, 61, 159, 160, 161, 162, 163, 60, 164, 165, 166, 167, 168, 169, 170, 171, 172, 173, 174, 175, 176, 177, 178, 179, 180, 181, 182, 183, 184, 30, 31, 32, 33, 34, 35, 36, 37, 38, 39, 40, 41, 42, 43, 44, 45, 185, 186, 187, 188, 189, 190, 191, 213, 214, 215, 216, 217, 218, 219, 220, 221, 192, 193, 194, 195, 196, 206, 207, 208, 197, 198, 199, 200, 201, 202, 203, 204, 205, 209, 210, 211, 212] (by decide +kernel) (by decide +kernel)
set_option maxRecDepth 20000 in
theorem gX4_sell_X4_makeTrade : GoodIn wsX4_sell (wsV RX4 104 RX4 yX4_makeTrade wsX4_makeTrade) := goodIn_app (goodIn_of _ (by decide +kernel)) ggX4_sell_X4_makeTrade
theorem dX4_sell_0 : decode cX4_sell 0 = .ok (.aload_n 0, 1) := by decide +kernel
theorem dX4_sell_1 : decode cX4_sell 1 = .ok (.iload_n 1, 1) := by decide +kernel
theorem dX4_sell_2 : decode cX4_sell 2 = .ok (.iload_n 2, 1) := by decide +kernel
theorem dX4_sell_3 : decode cX4_sell 3 = .ok (.invokevirtual 77, 3) := by decide +kernel
theorem dX4_sell_6 : decode cX4_sell 6 = .ok (.astore 4, 2) := by decide +kernel
theorem dX4_sell_8 : decode cX4_sell 8 = .ok (.iload_n 3, 1) := by decide +kernel
theorem dX4_sell_9 : decode cX4_sell 9 = .ok (.iconst 1, 1) := by decide +kernel
theorem dX4_sell_10 : decode cX4_sell 10 = .ok (.ldc 108, 2) := by decide +kernel
theorem dX4_sell_12 : decode cX4_sell 12 = .ok (.invokestatic 36, 3) := by decide +kernel
theorem dX4_sell_15 : decode cX4_sell 15 = .ok (.aload_n 0, 1) := by decide +kernel
theorem dX4_sell_16 : decode cX4_sell 16 = .ok (.getfield 19, 3) := by decide +kernel
theorem dX4_sell_19 : decode cX4_sell 19 = .ok (.invokevirtual 44, 3) := by decide +kernel
theorem dX4_sell_22 : decode cX4_sell 22 = .ok (.bipush 120, 2) := by decide +kernel
theorem dX4_sell_24 : decode cX4_sell 24 = .ok (.if_icmp .ge 7, 3) := by decide +kernel
theorem dX4_sell_27 : decode cX4_sell 27 = .ok (.iconst 1, 1) := by decide +kernel
theorem dX4_sell_28 : decode cX4_sell 28 = .ok (.goto 4, 3) := by decide +kernel
theorem dX4_sell_31 : decode cX4_sell 31 = .ok (.iconst 0, 1) := by decide +kernel
theorem dX4_sell_32 : decode cX4_sell 32 = .ok (.invokestatic 48, 3) := by decide +kernel
theorem dX4_sell_35 : decode cX4_sell 35 = .ok (.iload_n 3, 1) := by decide +kernel
theorem dX4_sell_36 : decode cX4_sell 36 = .ok (.i2l, 1) := by decide +kernel
theorem dX4_sell_37 : decode cX4_sell 37 = .ok (.aload 4, 2) := by decide +kernel
theorem dX4_sell_39 : decode cX4_sell 39 = .ok (.getfield 109, 3) := by decide +kernel
theorem dX4_sell_42 : decode cX4_sell 42 = .ok (.lcmp, 1) := by decide +kernel
theorem dX4_sell_43 : decode cX4_sell 43 = .ok (.ifCond .gt 7, 3) := by decide +kernel
theorem dX4_sell_46 : decode cX4_sell 46 = .ok (.iconst 1, 1) := by decide +kernel
theorem dX4_sell_47 : decode cX4_sell 47 = .ok (.goto 4, 3) := by decide +kernel
theorem dX4_sell_50 : decode cX4_sell 50 = .ok (.iconst 0, 1) := by decide +kernel
theorem dX4_sell_51 : decode cX4_sell 51 = .ok (.invokestatic 48, 3) := by decide +kernel
theorem dX4_sell_54 : decode cX4_sell 54 = .ok (.iload_n 3, 1) := by decide +kernel
theorem dX4_sell_55 : decode cX4_sell 55 = .ok (.i2l, 1) := by decide +kernel
theorem dX4_sell_56 : decode cX4_sell 56 = .ok (.aload 4, 2) := by decide +kernel
theorem dX4_sell_58 : decode cX4_sell 58 = .ok (.getfield 92, 3) := by decide +kernel
theorem dX4_sell_61 : decode cX4_sell 61 = .ok (.invokestatic 112, 3) := by decide +kernel
theorem dX4_sell_64 : decode cX4_sell 64 = .ok (.lstore 5, 2) := by decide +kernel
theorem dX4_sell_66 : decode cX4_sell 66 = .ok (.lload 5, 2) := by decide +kernel
theorem dX4_sell_68 : decode cX4_sell 68 = .ok (.lconst 0, 1) := by decide +kernel
theorem dX4_sell_69 : decode cX4_sell 69 = .ok (.lcmp, 1) := by decide +kernel
theorem dX4_sell_70 : decode cX4_sell 70 = .ok (.ifCond .le 16, 3) := by decide +kernel
theorem dX4_sell_73 : decode cX4_sell 73 = .ok (.lload 5, 2) := by decide +kernel
theorem dX4_sell_75 : decode cX4_sell 75 = .ok (.ldc2_w 115, 3) := by decide +kernel
theorem dX4_sell_78 : decode cX4_sell 78 = .ok (.lcmp, 1) := by decide +kernel
theorem dX4_sell_79 : decode cX4_sell 79 = .ok (.ifCond .gt 7, 3) := by decide +kernel
theorem dX4_sell_82 : decode cX4_sell 82 = .ok (.iconst 1, 1) := by decide +kernel
theorem dX4_sell_83 : decode cX4_sell 83 = .ok (.goto 4, 3) := by decide +kernel
theorem dX4_sell_86 : decode cX4_sell 86 = .ok (.iconst 0, 1) := by decide +kernel
theorem dX4_sell_87 : decode cX4_sell 87 = .ok (.invokestatic 48, 3) := by decide +kernel
theorem dX4_sell_90 : decode cX4_sell 90 = .ok (.aload_n 0, 1) := by decide +kernel
theorem dX4_sell_91 : decode cX4_sell 91 = .ok (.aload 4, 2) := by decide +kernel
theorem dX4_sell_93 : decode cX4_sell 93 = .ok (.iload_n 3, 1) := by decide +kernel
theorem dX4_sell_94 : decode cX4_sell 94 = .ok (.ineg, 1) := by decide +kernel
theorem dX4_sell_95 : decode cX4_sell 95 = .ok (.i2l, 1) := by decide +kernel
theorem dX4_sell_96 : decode cX4_sell 96 = .ok (.lload 5, 2) := by decide +kernel
theorem dX4_sell_98 : decode cX4_sell 98 = .ok (.invokevirtual 104, 3) := by decide +kernel
theorem dX4_sell_101 : decode cX4_sell 101 = .ok (.ireturn, 1) := by decide +kernel
set_option maxRecDepth 20000 in
theorem ggX4_balance_X4_clientAt : GoodIn wsX4_balance wsX4_clientAt := goodIn_ca (goodIn_r _ [9, 10, 11, 12, 13, 14, 15, 16, 17, 18, 19, 8, 20, 21, 22, 23, 24, 25, 26, 27, 28, 29, 30, 31, 32, 33, 34, 35, 36, 37, 38, 39, 204, 205, 206, 207, 208, 214, 215, 216] (by decide +kernel) (by decide +kernel)) (goodIn_sub (fun _ h => List.mem_cons_of_mem _ (List.mem_append_left _ (List.mem_append_right _ h))) (by decide +kernel))
set_option maxRecDepth 20000 in
theorem gX4_balance_X4_clientAt : GoodIn wsX4_balance (wsV RX4 67 RX4 yX4_clientAt wsX4_clientAt) := goodIn_app (goodIn_of _ (by decide +kernel)) ggX4_balance_X4_clientAt
set_option maxRecDepth 20000 in
theorem ggX4_balance_Jx4a65c_size_8abf5 : GoodIn wsX4_balance wsJx4a65c_size_8abf5 := goodIn_r _ [16, 17, 214, 215, 216] (by decide +kernel) (by decide +kernel)
set_option maxRecDepth 20000 in
theorem gX4_balance_Jx4a65c_size_8abf5 : GoodIn wsX4_balance (wsV RX4 44 RJx4a65c yJx4a65c_size_8abf5 wsJx4a65c_size_8abf5) := goodIn_app (goodIn_of _ (by decide +kernel)) ggX4_balance_Jx4a65c_size_8abf5
set_option maxRecDepth 20000 in
theorem ggX4_balance_X4_checkPossible : GoodIn wsX4_balance wsX4_checkPossible := goodIn_ca (goodIn_r _ [42, 43, 44] (by decide +kernel) (by decide +kernel)) (goodIn_sub (fun _ h => List.mem_cons_of_mem _ (List.mem_append_right _ h)) (by decide +kernel))
set_option maxRecDepth 20000 in
theorem gX4_balance_X4_checkPossible : GoodIn wsX4_balance (va_wsS RX4 48 yX4_checkPossible wsX4_checkPossible) := goodIn_app (goodIn_of _ (by decide +kernel)) ggX4_balance_X4_checkPossible
set_option maxRecDepth 20000 in
theorem ggX4_balance_X4_wealthOf : GoodIn wsX4_balance wsX4_wealthOf := goodIn_r _ [47, 48, 3, 4, 12, 13, 14, 15, 16, 17, 23, 24, 25, 26, 27, 28, 29, 30, 31, 32, 33, 34, 35, 36, 37, 38, 39, 49, 50, 8, 51, 52, 53, 54, 55, 56, 57, 58, 209, 210, 211, 212, 213, 214, 215, 216, 217, 218, 219, 220, 221, 222, 223, 224] (by decide +kernel) (by decide +kernel)
set_option maxRecDepth 20000 in
theorem gX4_balance_X4_wealthOf : GoodIn wsX4_balance (va_wsS RX4 117 yX4_wealthOf wsX4_wealthOf) := goodIn_app (goodIn_of _ (by decide +kernel)) ggX4_balance_X4_wealthOf
set_option maxRecDepth 20000 in
theorem ggX4_balance_Jx4a65c_get_915e3 : GoodIn wsX4_balance wsJx4a65c_get_915e3 := goodIn_r _ [26, 17, 27, 28, 29, 30, 31, 32, 33, 34, 35, 36, 37, 15, 38, 39, 214, 215, 216] (by decide +kernel) (by decide +kernel)
set_option maxRecDepth 20000 in
theorem gX4_balance_Jx4a65c_get_915e3 : GoodIn wsX4_balance (wsV RX4 60 RJx4a65c yJx4a65c_get_915e3 wsJx4a65c_get_915e3) := goodIn_app (goodIn_of _ (by decide +kernel)) ggX4_balance_Jx4a65c_get_915e3
set_option maxRecDepth 20000 in
theorem ggX4_balance_X4_sellTooMuch : GoodIn wsX4_balance wsX4_sellTooMuch := goodIn_r _ [62, 53, 49, 50, 8, 51, 52, 54, 55, 56, 57, 58, 63, 64, 65, 66, 67, 68, 69, 70, 71, 72, 73, 74, 75, 76, 77, 78, 79, 80, 1, 81, 82, 12, 13, 14, 15, 16, 17, 83, 84, 85, 86, 87, 88, 89, 90, 91, 92, 93, 94, 95, 96, 97, 98, 99, 100, 101, 102, 103, 104, 105, 106, 39, 107, 108, 109, 110, 111, 112, 113, 114, 115, 116, 117, 118, 119, 120, 121, 122, 123, 124, 125, 126, 127, 128, 129, 130, 131, 132, 133, 134, 135, 136, 137, 138, 139, 140, 141, 142, 143, 144, 145, 146, 147, 148, 149, 150, 151, 152, 153, 154, 155, 156, 157, 158, 159, 160, 161, 162, 163, 164, 165, 166, 48, 167, 168, 169, 170, 171, 172, 173, 174, 175, 176, 177, 178, 179, 180, 181, 182, 183, 184, 185, 186, 187, 188, 189, 190, 191, 192, 193, 194, 195, 23, 24, 25, 26, 27, 28, 29, 30, 31, 32, 33, 34, 35, 36, 37, 38, 196, 197, 198, 199, 217, 218, 219, 220, 221, 222, 223, 224, 225, 226, 227, 228, 229, 230, 231, 232, 233, 204, 205, 206, 207, 208, 214, 215, 216, 209, 210, 211, 212, 213] (by decide +kernel) (by decide +kernel)
set_option maxRecDepth 20000 in
theorem gX4_balance_X4_sellTooMuch : GoodIn wsX4_balance (wsV RX4 123 RX4 yX4_sellTooMuch wsX4_sellTooMuch) := goodIn_app (goodIn_of _ (by decide +kernel)) ggX4_balance_X4_sellTooMuch
set_option maxRecDepth 20000 in
theorem ggX4_balance_X4_buyWhatLacks : GoodIn wsX4_balance wsX4_buyWhatLacks := goodIn_r _ [203, 166, 48, 67, 193, 194, 122, 195, 53, 63, 64, 8, 65, 66, 49, 50, 51, 52, 54, 55, 56, 57, 58, 68, 69, 70, 71, 72, 73, 74, 75, 76, 77, 78, 79, 80, 1, 81, 82, 12, 13, 14, 15, 16, 17, 83, 84, 85, 86, 87, 88, 89, 90, 91, 92, 93, 94, 95, 96, 97, 98, 99, 100, 101, 102, 103, 104, 105, 106, 39, 107, 108, 109, 110, 111, 112, 113, 114, 115, 116, 117, 118, 119, 120, 121, 123, 124, 125, 126, 127, 128, 129, 130, 131, 132, 133, 134, 135, 136, 137, 138, 139, 140, 141, 142, 143, 144, 145, 146, 147, 148, 149, 150, 151, 152, 153, 154, 155, 156, 157, 158, 159, 160, 161, 162, 163, 164, 165, 167, 168, 169, 170, 171, 172, 173, 174, 175, 176, 177, 178, 179, 180, 181, 182, 183, 184, 185, 186, 187, 188, 189, 190, 191, 192, 23, 24, 25, 26, 27, 28, 29, 30, 31, 32, 33, 34, 35, 36, 37, 38, 196, 197, 198, 199, 217, 218, 219, 220, 209, 210, 211, 212, 213, 221, 222, 223, 224, 225, 226, 227, 228, 229, 230, 231, 232, 233, 204, 205, 206, 207, 208, 214, 215, 216] (by decide +kernel) (by decide +kernel)
set_option maxRecDepth 20000 in
theorem gX4_balance_X4_buyWhatLacks : GoodIn wsX4_balance (wsV RX4 127 RX4 yX4_buyWhatLacks wsX4_buyWhatLacks) := goodIn_app (goodIn_of _ (by decide +kernel)) ggX4_balance_X4_buyWhatLacks
theorem dX4_balance_0 : decode cX4_balance 0 = .ok (.aload_n 0, 1) := by decide +kernel
theorem dX4_balance_1 : decode cX4_balance 1 = .ok (.iload_n 1, 1) := by decide +kernel
theorem dX4_balance_2 : decode cX4_balance 2 = .ok (.invokevirtual 67, 3) := by decide +kernel
theorem dX4_balance_5 : decode cX4_balance 5 = .ok (.astore_n 2, 1) := by decide +kernel
theorem dX4_balance_6 : decode cX4_balance 6 = .ok (.aload_n 0, 1) := by decide +kernel
theorem dX4_balance_7 : decode cX4_balance 7 = .ok (.getfield 19, 3) := by decide +kernel
theorem dX4_balance_10 : decode cX4_balance 10 = .ok (.invokevirtual 44, 3) := by decide +kernel
theorem dX4_balance_13 : decode cX4_balance 13 = .ok (.istore_n 3, 1) := by decide +kernel
theorem dX4_balance_14 : decode cX4_balance 14 = .ok (.iload_n 3, 1) := by decide +kernel
theorem dX4_balance_15 : decode cX4_balance 15 = .ok (.bipush 108, 2) := by decide +kernel
theorem dX4_balance_17 : decode cX4_balance 17 = .ok (.if_icmp .gt 7, 3) := by decide +kernel
theorem dX4_balance_20 : decode cX4_balance 20 = .ok (.iconst 1, 1) := by decide +kernel
theorem dX4_balance_21 : decode cX4_balance 21 = .ok (.goto 4, 3) := by decide +kernel
theorem dX4_balance_24 : decode cX4_balance 24 = .ok (.iconst 0, 1) := by decide +kernel
theorem dX4_balance_25 : decode cX4_balance 25 = .ok (.invokestatic 48, 3) := by decide +kernel
theorem dX4_balance_28 : decode cX4_balance 28 = .ok (.aload_n 2, 1) := by decide +kernel
theorem dX4_balance_29 : decode cX4_balance 29 = .ok (.invokestatic 117, 3) := by decide +kernel
theorem dX4_balance_32 : decode cX4_balance 32 = .ok (.lstore 4, 2) := by decide +kernel
theorem dX4_balance_34 : decode cX4_balance 34 = .ok (.lload 4, 2) := by decide +kernel
theorem dX4_balance_36 : decode cX4_balance 36 = .ok (.lconst 0, 1) := by decide +kernel
theorem dX4_balance_37 : decode cX4_balance 37 = .ok (.lcmp, 1) := by decide +kernel
theorem dX4_balance_38 : decode cX4_balance 38 = .ok (.ifCond .lt 16, 3) := by decide +kernel
theorem dX4_balance_41 : decode cX4_balance 41 = .ok (.lload 4, 2) := by decide +kernel
theorem dX4_balance_43 : decode cX4_balance 43 = .ok (.ldc2_w 121, 3) := by decide +kernel
theorem dX4_balance_46 : decode cX4_balance 46 = .ok (.lcmp, 1) := by decide +kernel
theorem dX4_balance_47 : decode cX4_balance 47 = .ok (.ifCond .gt 7, 3) := by decide +kernel
theorem dX4_balance_50 : decode cX4_balance 50 = .ok (.iconst 1, 1) := by decide +kernel
theorem dX4_balance_51 : decode cX4_balance 51 = .ok (.goto 4, 3) := by decide +kernel
theorem dX4_balance_54 : decode cX4_balance 54 = .ok (.iconst 0, 1) := by decide +kernel
theorem dX4_balance_55 : decode cX4_balance 55 = .ok (.invokestatic 48, 3) := by decide +kernel
theorem dX4_balance_58 : decode cX4_balance 58 = .ok (.iconst 0, 1) := by decide +kernel
theorem dX4_balance_59 : decode cX4_balance 59 = .ok (.istore 6, 2) := by decide +kernel
theorem dX4_balance_61 : decode cX4_balance 61 = .ok (.iload 6, 2) := by decide +kernel
theorem dX4_balance_63 : decode cX4_balance 63 = .ok (.aload_n 2, 1) := by decide +kernel
theorem dX4_balance_64 : decode cX4_balance 64 = .ok (.getfield 55, 3) := by decide +kernel
theorem dX4_balance_67 : decode cX4_balance 67 = .ok (.invokevirtual 44, 3) := by decide +kernel
theorem dX4_balance_70 : decode cX4_balance 70 = .ok (.if_icmp .ge 27, 3) := by decide +kernel
theorem dX4_balance_73 : decode cX4_balance 73 = .ok (.aload_n 0, 1) := by decide +kernel
theorem dX4_balance_74 : decode cX4_balance 74 = .ok (.aload_n 2, 1) := by decide +kernel
theorem dX4_balance_75 : decode cX4_balance 75 = .ok (.getfield 55, 3) := by decide +kernel
theorem dX4_balance_78 : decode cX4_balance 78 = .ok (.iload 6, 2) := by decide +kernel
theorem dX4_balance_80 : decode cX4_balance 80 = .ok (.invokevirtual 60, 3) := by decide +kernel
theorem dX4_balance_83 : decode cX4_balance 83 = .ok (.checkcast 58, 3) := by decide +kernel
theorem dX4_balance_86 : decode cX4_balance 86 = .ok (.lload 4, 2) := by decide +kernel
theorem dX4_balance_88 : decode cX4_balance 88 = .ok (.invokevirtual 123, 3) := by decide +kernel
theorem dX4_balance_91 : decode cX4_balance 91 = .ok (.iinc 6 1, 3) := by decide +kernel
theorem dX4_balance_94 : decode cX4_balance 94 = .ok (.goto (-33), 3) := by decide +kernel
theorem dX4_balance_97 : decode cX4_balance 97 = .ok (.iconst 0, 1) := by decide +kernel
theorem dX4_balance_98 : decode cX4_balance 98 = .ok (.istore 6, 2) := by decide +kernel
theorem dX4_balance_100 : decode cX4_balance 100 = .ok (.iload 6, 2) := by decide +kernel
theorem dX4_balance_102 : decode cX4_balance 102 = .ok (.aload_n 2, 1) := by decide +kernel
theorem dX4_balance_103 : decode cX4_balance 103 = .ok (.getfield 55, 3) := by decide +kernel
theorem dX4_balance_106 : decode cX4_balance 106 = .ok (.invokevirtual 44, 3) := by decide +kernel
theorem dX4_balance_109 : decode cX4_balance 109 = .ok (.if_icmp .ge 27, 3) := by decide +kernel
theorem dX4_balance_112 : decode cX4_balance 112 = .ok (.aload_n 0, 1) := by decide +kernel
theorem dX4_balance_113 : decode cX4_balance 113 = .ok (.aload_n 2, 1) := by decide +kernel
theorem dX4_balance_114 : decode cX4_balance 114 = .ok (.getfield 55, 3) := by decide +kernel
theorem dX4_balance_117 : decode cX4_balance 117 = .ok (.iload 6, 2) := by decide +kernel
theorem dX4_balance_119 : decode cX4_balance 119 = .ok (.invokevirtual 60, 3) := by decide +kernel
theorem dX4_balance_122 : decode cX4_balance 122 = .ok (.checkcast 58, 3) := by decide +kernel
theorem dX4_balance_125 : decode cX4_balance 125 = .ok (.lload 4, 2) := by decide +kernel
theorem dX4_balance_127 : decode cX4_balance 127 = .ok (.invokevirtual 127, 3) := by decide +kernel
theorem dX4_balance_130 : decode cX4_balance 130 = .ok (.iinc 6 1, 3) := by decide +kernel
theorem dX4_balance_133 : decode cX4_balance 133 = .ok (.goto (-33), 3) := by decide +kernel
theorem dX4_balance_136 : decode cX4_balance 136 = .ok (.aload_n 0, 1) := by decide +kernel
theorem dX4_balance_137 : decode cX4_balance 137 = .ok (.getfield 19, 3) := by decide +kernel
theorem dX4_balance_140 : decode cX4_balance 140 = .ok (.invokevirtual 44, 3) := by decide +kernel
theorem dX4_balance_143 : decode cX4_balance 143 = .ok (.iload_n 3, 1) := by decide +kernel
theorem dX4_balance_144 : decode cX4_balance 144 = .ok (.isub, 1) := by decide +kernel
theorem dX4_balance_145 : decode cX4_balance 145 = .ok (.ireturn, 1) := by decide +kernel
set_option maxRecDepth 20000 in
theorem ggX4_complain_X4_tradeAt : GoodIn wsX4_complain wsX4_tradeAt := goodIn_ca (goodIn_r _ [9, 10, 11, 12, 13, 14, 15, 16, 17, 18, 19, 8, 20, 21, 22, 23, 24, 25, 26, 27, 28, 29, 30, 31, 32, 33, 34, 35, 36, 37, 38, 39, 139, 140, 141, 142, 143, 144, 145, 146] (by decide +kernel) (by decide +kernel)) (goodIn_sub (fun _ h => List.mem_cons_of_mem _ (List.mem_append_left _ (List.mem_append_right _ h))) (by decide +kernel))
set_option maxRecDepth 20000 in
theorem gX4_complain_X4_tradeAt : GoodIn wsX4_complain (wsV RX4 130 RX4 yX4_tradeAt wsX4_tradeAt) := goodIn_app (goodIn_of _ (by decide +kernel)) ggX4_complain_X4_tradeAt
set_option maxRecDepth 20000 in
theorem ggX4_complain_X4_salesKeepTheirParts : GoodIn wsX4_complain wsX4_salesKeepTheirParts := goodIn_r _ [43, 10, 11, 2, 1, 4, 12, 13, 14, 15, 16, 17, 23, 24, 25, 26, 27, 28, 29, 30, 31, 32, 33, 34, 35, 36, 37, 38, 39, 139, 140, 141, 142, 143, 126, 127, 128, 129, 130, 131, 132, 133, 134, 144, 145, 146] (by decide +kernel) (by decide +kernel)
set_option maxRecDepth 20000 in
theorem gX4_complain_X4_salesKeepTheirParts : GoodIn wsX4_complain (wsV RX4 140 RX4 yX4_salesKeepTheirParts wsX4_salesKeepTheirParts) := goodIn_app (goodIn_of _ (by decide +kernel)) ggX4_complain_X4_salesKeepTheirParts
set_option maxRecDepth 20000 in
theorem ggX4_complain_X4_checkPossible : GoodIn wsX4_complain wsX4_checkPossible := goodIn_ca (goodIn_r _ [46, 47, 48] (by decide +kernel) (by decide +kernel)) (goodIn_sub (fun _ h => List.mem_cons_of_mem _ (List.mem_append_right _ h)) (by decide +kernel))
set_option maxRecDepth 20000 in
theorem gX4_complain_X4_checkPossible : GoodIn wsX4_complain (va_wsS RX4 48 yX4_checkPossible wsX4_checkPossible) := goodIn_app (goodIn_of _ (by decide +kernel)) ggX4_complain_X4_checkPossible
set_option maxRecDepth 20000 in
theorem ggX4_complain_X3_paid : GoodIn wsX4_complain wsX3_paid := goodIn_r _ [53, 54, 55, 56, 57, 58, 52, 59, 60, 126, 127, 128, 129, 130, 131, 132, 133, 134] (by decide +kernel) (by decide +kernel)
set_option maxRecDepth 20000 in
theorem gX4_complain_X3_paid : GoodIn wsX4_complain (wsV RX4 149 RX3 yX3_paid wsX3_paid) := goodIn_app (goodIn_of _ (by decide +kernel)) ggX4_complain_X3_paid
set_option maxRecDepth 20000 in
theorem ggX4_complain_X4_exchange : GoodIn wsX4_complain wsX4_exchange := goodIn_r _ [64, 65, 3, 66, 67, 68, 69, 70, 71, 72, 73, 74, 8, 75, 76, 77, 135, 136, 137, 138, 147, 148, 149, 150, 151, 139, 140, 141, 142, 143, 152, 153, 154, 155] (by decide +kernel) (by decide +kernel)
set_option maxRecDepth 20000 in
theorem gX4_complain_X4_exchange : GoodIn wsX4_complain (wsV RX4 153 RX4 yX4_exchange wsX4_exchange) := goodIn_app (goodIn_of _ (by decide +kernel)) ggX4_complain_X4_exchange
set_option maxRecDepth 20000 in
theorem ggX4_complain_X4_findLotsAnew : GoodIn wsX4_complain wsX4_findLotsAnew := goodIn_r _ [81, 82, 10, 11, 2, 3, 83, 84, 1, 85, 86, 87, 88, 12, 13, 14, 15, 16, 17, 23, 24, 25, 26, 27, 28, 29, 30, 31, 32, 33, 34, 35, 36, 37, 38, 39, 89, 90, 91, 8, 92, 93, 4, 94, 57, 58, 52, 59, 60, 95, 96, 97, 49, 50, 51, 53, 54, 55, 56, 98, 99, 100, 101, 102, 103, 104, 105, 106, 107, 108, 109, 110, 111, 112, 147, 148, 149, 150, 151, 139, 140, 141, 142, 143, 126, 127, 128, 129, 130, 131, 132, 133, 134, 135, 136, 137, 138, 144, 145, 146] (by decide +kernel) (by decide +kernel)
set_option maxRecDepth 20000 in
theorem gX4_complain_X4_findLotsAnew : GoodIn wsX4_complain (wsV RX4 157 RX4 yX4_findLotsAnew wsX4_findLotsAnew) := goodIn_app (goodIn_of _ (by decide +kernel)) ggX4_complain_X4_findLotsAnew
set_option maxRecDepth 20000 in
theorem ggX4_complain_X4_settleTaxes : GoodIn wsX4_complain wsX4_settleTaxes := goodIn_r _ [116, 117, 118, 119, 66, 95, 96, 8, 97, 120, 121, 122, 82, 103, 104, 105, 106, 123, 124, 125, 139, 140, 141, 142, 143, 147, 148, 149, 150, 151] (by decide +kernel) (by decide +kernel)
set_option maxRecDepth 20000 in
theorem gX4_complain_X4_settleTaxes : GoodIn wsX4_complain (wsV RX4 161 RX4 yX4_settleTaxes wsX4_settleTaxes) := goodIn_app (goodIn_of _ (by decide +kernel)) ggX4_complain_X4_settleTaxes
theorem dX4_complain_0 : decode cX4_complain 0 = .ok (.aload_n 0, 1) := by decide +kernel
theorem dX4_complain_1 : decode cX4_complain 1 = .ok (.iload_n 1, 1) := by decide +kernel
theorem dX4_complain_2 : decode cX4_complain 2 = .ok (.invokevirtual 130, 3) := by decide +kernel
theorem dX4_complain_5 : decode cX4_complain 5 = .ok (.astore_n 2, 1) := by decide +kernel
theorem dX4_complain_6 : decode cX4_complain 6 = .ok (.aload_n 2, 1) := by decide +kernel
theorem dX4_complain_7 : decode cX4_complain 7 = .ok (.getfield 134, 3) := by decide +kernel
theorem dX4_complain_10 : decode cX4_complain 10 = .ok (.ifCond .eq 15, 3) := by decide +kernel
theorem dX4_complain_13 : decode cX4_complain 13 = .ok (.aload_n 0, 1) := by decide +kernel
theorem dX4_complain_14 : decode cX4_complain 14 = .ok (.aload_n 2, 1) := by decide +kernel
theorem dX4_complain_15 : decode cX4_complain 15 = .ok (.invokevirtual 140, 3) := by decide +kernel
theorem dX4_complain_18 : decode cX4_complain 18 = .ok (.ifCond .eq 7, 3) := by decide +kernel
theorem dX4_complain_21 : decode cX4_complain 21 = .ok (.iconst 1, 1) := by decide +kernel
theorem dX4_complain_22 : decode cX4_complain 22 = .ok (.goto 4, 3) := by decide +kernel
theorem dX4_complain_25 : decode cX4_complain 25 = .ok (.iconst 0, 1) := by decide +kernel
theorem dX4_complain_26 : decode cX4_complain 26 = .ok (.invokestatic 48, 3) := by decide +kernel
theorem dX4_complain_29 : decode cX4_complain 29 = .ok (.aload_n 2, 1) := by decide +kernel
theorem dX4_complain_30 : decode cX4_complain 30 = .ok (.getfield 144, 3) := by decide +kernel
theorem dX4_complain_33 : decode cX4_complain 33 = .ok (.getfield 81, 3) := by decide +kernel
theorem dX4_complain_36 : decode cX4_complain 36 = .ok (.astore_n 3, 1) := by decide +kernel
theorem dX4_complain_37 : decode cX4_complain 37 = .ok (.aload_n 2, 1) := by decide +kernel
theorem dX4_complain_38 : decode cX4_complain 38 = .ok (.iconst 0, 1) := by decide +kernel
theorem dX4_complain_39 : decode cX4_complain 39 = .ok (.putfield 134, 3) := by decide +kernel
theorem dX4_complain_42 : decode cX4_complain 42 = .ok (.aload_n 0, 1) := by decide +kernel
theorem dX4_complain_43 : decode cX4_complain 43 = .ok (.aload_n 2, 1) := by decide +kernel
theorem dX4_complain_44 : decode cX4_complain 44 = .ok (.getfield 144, 3) := by decide +kernel
theorem dX4_complain_47 : decode cX4_complain 47 = .ok (.aload_n 2, 1) := by decide +kernel
theorem dX4_complain_48 : decode cX4_complain 48 = .ok (.getfield 148, 3) := by decide +kernel
theorem dX4_complain_51 : decode cX4_complain 51 = .ok (.lneg, 1) := by decide +kernel
theorem dX4_complain_52 : decode cX4_complain 52 = .ok (.aload_n 2, 1) := by decide +kernel
theorem dX4_complain_53 : decode cX4_complain 53 = .ok (.invokevirtual 149, 3) := by decide +kernel
theorem dX4_complain_56 : decode cX4_complain 56 = .ok (.lneg, 1) := by decide +kernel
theorem dX4_complain_57 : decode cX4_complain 57 = .ok (.invokevirtual 153, 3) := by decide +kernel
theorem dX4_complain_60 : decode cX4_complain 60 = .ok (.aload_n 0, 1) := by decide +kernel
theorem dX4_complain_61 : decode cX4_complain 61 = .ok (.aload_n 3, 1) := by decide +kernel
theorem dX4_complain_62 : decode cX4_complain 62 = .ok (.invokevirtual 157, 3) := by decide +kernel
theorem dX4_complain_65 : decode cX4_complain 65 = .ok (.aload_n 0, 1) := by decide +kernel
theorem dX4_complain_66 : decode cX4_complain 66 = .ok (.aload_n 3, 1) := by decide +kernel
theorem dX4_complain_67 : decode cX4_complain 67 = .ok (.invokevirtual 161, 3) := by decide +kernel
theorem dX4_complain_70 : decode cX4_complain 70 = .ok (.lreturn, 1) := by decide +kernel
set_option maxRecDepth 20000 in
theorem ggX4_pass_X4_checkRange : GoodIn wsX4_pass wsX4_checkRange := goodIn_ca (goodIn_r _ [5, 6, 7] (by decide +kernel) (by decide +kernel)) (goodIn_sub (fun _ h => List.mem_cons_of_mem _ (List.mem_append_left _ (List.mem_append_right _ h))) (by decide +kernel))
set_option maxRecDepth 20000 in
theorem gX4_pass_X4_checkRange : GoodIn wsX4_pass (va_wsS RX4 36 yX4_checkRange wsX4_checkRange) := goodIn_app (goodIn_of _ (by decide +kernel)) ggX4_pass_X4_checkRange
set_option maxRecDepth 20000 in
theorem ggX4_pass_X4_checkPossible : GoodIn wsX4_pass wsX4_checkPossible := goodIn_ca (goodIn_r _ [10, 11, 12] (by decide +kernel) (by decide +kernel)) (goodIn_sub (fun _ h => List.mem_cons_of_mem _ (List.mem_append_right _ h)) (by decide +kernel))
set_option maxRecDepth 20000 in
theorem gX4_pass_X4_checkPossible : GoodIn wsX4_pass (va_wsS RX4 48 yX4_checkPossible wsX4_checkPossible) := goodIn_app (goodIn_of _ (by decide +kernel)) ggX4_pass_X4_checkPossible
set_option maxRecDepth 20000 in
theorem ggX4_pass_X4_endDay : GoodIn wsX4_pass wsX4_endDay := goodIn_r _ [16, 17, 18, 19, 20, 1, 21, 22, 23, 24, 25, 26, 27, 28, 29, 30, 31, 32, 33, 34, 35, 36, 37, 38, 39, 40, 41, 42, 43, 44, 45, 46, 47, 48, 4, 49, 50, 51, 52, 53, 54, 55, 56, 57, 58, 59, 60, 61, 62, 63, 64, 65, 66, 67, 68, 69, 70, 71, 72, 73, 74, 75, 76, 77, 78, 79, 80, 81, 82, 83, 84, 85, 86, 87, 88, 89, 90] (by decide +kernel) (by decide +kernel)
set_option maxRecDepth 20000 in
theorem gX4_pass_X4_endDay : GoodIn wsX4_pass (wsV RX4 167 RX4 yX4_endDay wsX4_endDay) := goodIn_app (goodIn_of _ (by decide +kernel)) ggX4_pass_X4_endDay
theorem dX4_pass_0 : decode cX4_pass 0 = .ok (.iload_n 1, 1) := by decide +kernel
theorem dX4_pass_1 : decode cX4_pass 1 = .ok (.iconst 1, 1) := by decide +kernel
theorem dX4_pass_2 : decode cX4_pass 2 = .ok (.sipush 400, 3) := by decide +kernel
theorem dX4_pass_5 : decode cX4_pass 5 = .ok (.invokestatic 36, 3) := by decide +kernel
theorem dX4_pass_8 : decode cX4_pass 8 = .ok (.aload_n 0, 1) := by decide +kernel
theorem dX4_pass_9 : decode cX4_pass 9 = .ok (.getfield 164, 3) := by decide +kernel
theorem dX4_pass_12 : decode cX4_pass 12 = .ok (.iload_n 1, 1) := by decide +kernel
theorem dX4_pass_13 : decode cX4_pass 13 = .ok (.iadd, 1) := by decide +kernel
theorem dX4_pass_14 : decode cX4_pass 14 = .ok (.sipush 7200, 3) := by decide +kernel
theorem dX4_pass_17 : decode cX4_pass 17 = .ok (.if_icmp .gt 7, 3) := by decide +kernel
theorem dX4_pass_20 : decode cX4_pass 20 = .ok (.iconst 1, 1) := by decide +kernel
theorem dX4_pass_21 : decode cX4_pass 21 = .ok (.goto 4, 3) := by decide +kernel
theorem dX4_pass_24 : decode cX4_pass 24 = .ok (.iconst 0, 1) := by decide +kernel
theorem dX4_pass_25 : decode cX4_pass 25 = .ok (.invokestatic 48, 3) := by decide +kernel
theorem dX4_pass_28 : decode cX4_pass 28 = .ok (.iconst 0, 1) := by decide +kernel
theorem dX4_pass_29 : decode cX4_pass 29 = .ok (.istore_n 2, 1) := by decide +kernel
theorem dX4_pass_30 : decode cX4_pass 30 = .ok (.iload_n 2, 1) := by decide +kernel
theorem dX4_pass_31 : decode cX4_pass 31 = .ok (.iload_n 1, 1) := by decide +kernel
theorem dX4_pass_32 : decode cX4_pass 32 = .ok (.if_icmp .ge 13, 3) := by decide +kernel
theorem dX4_pass_35 : decode cX4_pass 35 = .ok (.aload_n 0, 1) := by decide +kernel
theorem dX4_pass_36 : decode cX4_pass 36 = .ok (.invokevirtual 167, 3) := by decide +kernel
theorem dX4_pass_39 : decode cX4_pass 39 = .ok (.iinc 2 1, 3) := by decide +kernel
theorem dX4_pass_42 : decode cX4_pass 42 = .ok (.goto (-12), 3) := by decide +kernel
theorem dX4_pass_45 : decode cX4_pass 45 = .ok (.aload_n 0, 1) := by decide +kernel
theorem dX4_pass_46 : decode cX4_pass 46 = .ok (.getfield 164, 3) := by decide +kernel
theorem dX4_pass_49 : decode cX4_pass 49 = .ok (.ireturn, 1) := by decide +kernel
set_option maxRecDepth 20000 in
theorem ggX4_cash_X4_clientAt : GoodIn wsX4_cash wsX4_clientAt := goodIn_ca (goodIn_r _ [7, 8, 9, 10, 11, 12, 13, 14, 15, 16, 17, 6, 18, 19, 20, 21, 22, 23, 24, 25, 26, 27, 28, 29, 30, 31, 32, 33, 34, 35, 36, 37, 38, 39, 40, 41, 42, 48, 49, 50] (by decide +kernel) (by decide +kernel)) (goodIn_sub (fun _ h => List.mem_cons_of_mem _ (List.mem_append_right _ h)) (by decide +kernel))
set_option maxRecDepth 20000 in
theorem gX4_cash_X4_clientAt : GoodIn wsX4_cash (wsV RX4 67 RX4 yX4_clientAt wsX4_clientAt) := goodIn_app (goodIn_of _ (by decide +kernel)) ggX4_cash_X4_clientAt
theorem dX4_cash_0 : decode cX4_cash 0 = .ok (.iload_n 1, 1) := by decide +kernel
theorem dX4_cash_1 : decode cX4_cash 1 = .ok (.iconst (-1), 1) := by decide +kernel
theorem dX4_cash_2 : decode cX4_cash 2 = .ok (.if_icmp .ne 8, 3) := by decide +kernel
theorem dX4_cash_5 : decode cX4_cash 5 = .ok (.aload_n 0, 1) := by decide +kernel
theorem dX4_cash_6 : decode cX4_cash 6 = .ok (.getfield 170, 3) := by decide +kernel
theorem dX4_cash_9 : decode cX4_cash 9 = .ok (.lreturn, 1) := by decide +kernel
theorem dX4_cash_10 : decode cX4_cash 10 = .ok (.aload_n 0, 1) := by decide +kernel
theorem dX4_cash_11 : decode cX4_cash 11 = .ok (.iload_n 1, 1) := by decide +kernel
theorem dX4_cash_12 : decode cX4_cash 12 = .ok (.invokevirtual 67, 3) := by decide +kernel
theorem dX4_cash_15 : decode cX4_cash 15 = .ok (.getfield 73, 3) := by decide +kernel
theorem dX4_cash_18 : decode cX4_cash 18 = .ok (.lreturn, 1) := by decide +kernel
set_option maxRecDepth 20000 in
theorem ggX4_parts_X4_fundAt : GoodIn wsX4_parts wsX4_fundAt := goodIn_ca (goodIn_r _ [7, 8, 9, 10, 11, 12, 13, 14, 15, 16, 17, 6, 18, 19, 20, 21, 22, 23, 24, 25, 26, 27, 28, 29, 30, 31, 32, 33, 34, 35, 36, 37, 58, 59, 60, 61, 62, 63, 64, 65] (by decide +kernel) (by decide +kernel)) (goodIn_sub (fun _ h => List.mem_cons_of_mem _ (List.mem_append_right _ h)) (by decide +kernel))
set_option maxRecDepth 20000 in
theorem gX4_parts_X4_fundAt : GoodIn wsX4_parts (wsV RX4 31 RX4 yX4_fundAt wsX4_fundAt) := goodIn_app (goodIn_of _ (by decide +kernel)) ggX4_parts_X4_fundAt
set_option maxRecDepth 20000 in
theorem ggX4_parts_X4_holdingAt : GoodIn wsX4_parts wsX4_holdingAt := goodIn_ca (goodIn_r _ [41, 42, 43, 44, 45, 46, 6, 47, 48, 49, 10, 11, 12, 13, 14, 15, 16, 17, 18, 19, 20, 21, 22, 23, 24, 25, 26, 27, 28, 29, 30, 31, 32, 33, 34, 35, 36, 37, 66, 67, 68, 69, 70, 58, 59, 60, 61, 62, 63, 64, 65] (by decide +kernel) (by decide +kernel)) (goodIn_sub (fun _ h => List.mem_cons_of_mem _ (List.mem_append_right _ h)) (by decide +kernel))
set_option maxRecDepth 20000 in
theorem gX4_parts_X4_holdingAt : GoodIn wsX4_parts (wsV RX4 77 RX4 yX4_holdingAt wsX4_holdingAt) := goodIn_app (goodIn_of _ (by decide +kernel)) ggX4_parts_X4_holdingAt
theorem dX4_parts_0 : decode cX4_parts 0 = .ok (.iload_n 1, 1) := by decide +kernel
theorem dX4_parts_1 : decode cX4_parts 1 = .ok (.iconst (-1), 1) := by decide +kernel
theorem dX4_parts_2 : decode cX4_parts 2 = .ok (.if_icmp .ne 12, 3) := by decide +kernel
theorem dX4_parts_5 : decode cX4_parts 5 = .ok (.aload_n 0, 1) := by decide +kernel
theorem dX4_parts_6 : decode cX4_parts 6 = .ok (.iload_n 2, 1) := by decide +kernel
theorem dX4_parts_7 : decode cX4_parts 7 = .ok (.invokevirtual 31, 3) := by decide +kernel
theorem dX4_parts_10 : decode cX4_parts 10 = .ok (.getfield 173, 3) := by decide +kernel
theorem dX4_parts_13 : decode cX4_parts 13 = .ok (.lreturn, 1) := by decide +kernel
theorem dX4_parts_14 : decode cX4_parts 14 = .ok (.aload_n 0, 1) := by decide +kernel
theorem dX4_parts_15 : decode cX4_parts 15 = .ok (.iload_n 1, 1) := by decide +kernel
theorem dX4_parts_16 : decode cX4_parts 16 = .ok (.iload_n 2, 1) := by decide +kernel
theorem dX4_parts_17 : decode cX4_parts 17 = .ok (.invokevirtual 77, 3) := by decide +kernel
theorem dX4_parts_20 : decode cX4_parts 20 = .ok (.getfield 109, 3) := by decide +kernel
theorem dX4_parts_23 : decode cX4_parts 23 = .ok (.lreturn, 1) := by decide +kernel
set_option maxRecDepth 20000 in
theorem ggX4_units_X4_fundAt : GoodIn wsX4_units wsX4_fundAt := goodIn_ca (goodIn_r _ [6, 7, 8, 9, 10, 11, 12, 13, 14, 15, 16, 5, 17, 18, 19, 20, 21, 22, 23, 24, 25, 26, 27, 28, 29, 30, 31, 32, 33, 34, 35, 36, 41, 42, 43, 44, 45, 46, 47, 48] (by decide +kernel) (by decide +kernel)) (goodIn_sub (fun _ h => List.mem_cons_of_mem _ (List.mem_append_right _ h)) (by decide +kernel))
set_option maxRecDepth 20000 in
theorem gX4_units_X4_fundAt : GoodIn wsX4_units (wsV RX4 31 RX4 yX4_fundAt wsX4_fundAt) := goodIn_app (goodIn_of _ (by decide +kernel)) ggX4_units_X4_fundAt
theorem dX4_units_0 : decode cX4_units 0 = .ok (.aload_n 0, 1) := by decide +kernel
theorem dX4_units_1 : decode cX4_units 1 = .ok (.iload_n 1, 1) := by decide +kernel
theorem dX4_units_2 : decode cX4_units 2 = .ok (.invokevirtual 31, 3) := by decide +kernel
theorem dX4_units_5 : decode cX4_units 5 = .ok (.getfield 176, 3) := by decide +kernel
theorem dX4_units_8 : decode cX4_units 8 = .ok (.lreturn, 1) := by decide +kernel
set_option maxRecDepth 20000 in
theorem ggX4_tradeOf_X4_tradeAt : GoodIn wsX4_tradeOf wsX4_tradeAt := goodIn_ca (goodIn_r _ [15, 16, 17, 18, 19, 20, 21, 22, 23, 24, 25, 14, 26, 27, 28, 29, 30, 31, 32, 33, 34, 35, 36, 37, 38, 39, 40, 41, 42, 43, 44, 45, 73, 74, 75, 76, 77, 78, 79, 80] (by decide +kernel) (by decide +kernel)) (goodIn_sub (fun _ h => List.mem_cons_of_mem _ (List.mem_append_left _ (List.mem_append_right _ h))) (by decide +kernel))
set_option maxRecDepth 20000 in
theorem gX4_tradeOf_X4_tradeAt : GoodIn wsX4_tradeOf (wsV RX4 130 RX4 yX4_tradeAt wsX4_tradeAt) := goodIn_app (goodIn_of _ (by decide +kernel)) ggX4_tradeOf_X4_tradeAt
set_option maxRecDepth 20000 in
theorem ggX4_tradeOf_X4_checkRange : GoodIn wsX4_tradeOf wsX4_checkRange := goodIn_ca (goodIn_r _ [48, 49, 50] (by decide +kernel) (by decide +kernel)) (goodIn_sub (fun _ h => List.mem_cons_of_mem _ (List.mem_append_right _ h)) (by decide +kernel))
set_option maxRecDepth 20000 in
theorem gX4_tradeOf_X4_checkRange : GoodIn wsX4_tradeOf (va_wsS RX4 36 yX4_checkRange wsX4_checkRange) := goodIn_app (goodIn_of _ (by decide +kernel)) ggX4_tradeOf_X4_checkRange
theorem dX4_tradeOf_0 : decode cX4_tradeOf 0 = .ok (.aload_n 0, 1) := by decide +kernel
theorem dX4_tradeOf_1 : decode cX4_tradeOf 1 = .ok (.iload_n 1, 1) := by decide +kernel
theorem dX4_tradeOf_2 : decode cX4_tradeOf 2 = .ok (.invokevirtual 130, 3) := by decide +kernel
theorem dX4_tradeOf_5 : decode cX4_tradeOf 5 = .ok (.astore_n 3, 1) := by decide +kernel
theorem dX4_tradeOf_6 : decode cX4_tradeOf 6 = .ok (.iload_n 2, 1) := by decide +kernel
theorem dX4_tradeOf_7 : decode cX4_tradeOf 7 = .ok (.iconst 0, 1) := by decide +kernel
theorem dX4_tradeOf_8 : decode cX4_tradeOf 8 = .ok (.bipush 6, 2) := by decide +kernel
theorem dX4_tradeOf_10 : decode cX4_tradeOf 10 = .ok (.invokestatic 36, 3) := by decide +kernel
theorem dX4_tradeOf_13 : decode cX4_tradeOf 13 = .ok (.iload_n 2, 1) := by decide +kernel
theorem dX4_tradeOf_14 : decode cX4_tradeOf 14 = .ok (.tableswitch 83 0 5 #[38, 50, 62, 67, 72, 77], 38) := by decide +kernel
theorem dX4_tradeOf_52 : decode cX4_tradeOf 52 = .ok (.aload_n 3, 1) := by decide +kernel
theorem dX4_tradeOf_53 : decode cX4_tradeOf 53 = .ok (.getfield 144, 3) := by decide +kernel
theorem dX4_tradeOf_56 : decode cX4_tradeOf 56 = .ok (.getfield 81, 3) := by decide +kernel
theorem dX4_tradeOf_59 : decode cX4_tradeOf 59 = .ok (.getfield 179, 3) := by decide +kernel
theorem dX4_tradeOf_62 : decode cX4_tradeOf 62 = .ok (.i2l, 1) := by decide +kernel
theorem dX4_tradeOf_63 : decode cX4_tradeOf 63 = .ok (.lreturn, 1) := by decide +kernel
theorem dX4_tradeOf_64 : decode cX4_tradeOf 64 = .ok (.aload_n 3, 1) := by decide +kernel
theorem dX4_tradeOf_65 : decode cX4_tradeOf 65 = .ok (.getfield 144, 3) := by decide +kernel
theorem dX4_tradeOf_68 : decode cX4_tradeOf 68 = .ok (.getfield 92, 3) := by decide +kernel
theorem dX4_tradeOf_71 : decode cX4_tradeOf 71 = .ok (.getfield 182, 3) := by decide +kernel
theorem dX4_tradeOf_74 : decode cX4_tradeOf 74 = .ok (.i2l, 1) := by decide +kernel
theorem dX4_tradeOf_75 : decode cX4_tradeOf 75 = .ok (.lreturn, 1) := by decide +kernel
theorem dX4_tradeOf_76 : decode cX4_tradeOf 76 = .ok (.aload_n 3, 1) := by decide +kernel
theorem dX4_tradeOf_77 : decode cX4_tradeOf 77 = .ok (.getfield 148, 3) := by decide +kernel
theorem dX4_tradeOf_80 : decode cX4_tradeOf 80 = .ok (.lreturn, 1) := by decide +kernel
theorem dX4_tradeOf_81 : decode cX4_tradeOf 81 = .ok (.aload_n 3, 1) := by decide +kernel
theorem dX4_tradeOf_82 : decode cX4_tradeOf 82 = .ok (.getfield 183, 3) := by decide +kernel
theorem dX4_tradeOf_85 : decode cX4_tradeOf 85 = .ok (.lreturn, 1) := by decide +kernel
theorem dX4_tradeOf_86 : decode cX4_tradeOf 86 = .ok (.aload_n 3, 1) := by decide +kernel
theorem dX4_tradeOf_87 : decode cX4_tradeOf 87 = .ok (.getfield 186, 3) := by decide +kernel
theorem dX4_tradeOf_90 : decode cX4_tradeOf 90 = .ok (.lreturn, 1) := by decide +kernel
theorem dX4_tradeOf_91 : decode cX4_tradeOf 91 = .ok (.aload_n 3, 1) := by decide +kernel
theorem dX4_tradeOf_92 : decode cX4_tradeOf 92 = .ok (.getfield 189, 3) := by decide +kernel
theorem dX4_tradeOf_95 : decode cX4_tradeOf 95 = .ok (.i2l, 1) := by decide +kernel
theorem dX4_tradeOf_96 : decode cX4_tradeOf 96 = .ok (.lreturn, 1) := by decide +kernel
theorem dX4_tradeOf_97 : decode cX4_tradeOf 97 = .ok (.aload_n 3, 1) := by decide +kernel
theorem dX4_tradeOf_98 : decode cX4_tradeOf 98 = .ok (.getfield 134, 3) := by decide +kernel
theorem dX4_tradeOf_101 : decode cX4_tradeOf 101 = .ok (.ifCond .eq 7, 3) := by decide +kernel
theorem dX4_tradeOf_104 : decode cX4_tradeOf 104 = .ok (.lconst 1, 1) := by decide +kernel
theorem dX4_tradeOf_105 : decode cX4_tradeOf 105 = .ok (.goto 4, 3) := by decide +kernel
theorem dX4_tradeOf_108 : decode cX4_tradeOf 108 = .ok (.lconst 0, 1) := by decide +kernel
theorem dX4_tradeOf_109 : decode cX4_tradeOf 109 = .ok (.lreturn, 1) := by decide +kernel
set_option maxRecDepth 20000 in
theorem ggX4_lot_X4_holdingAt : GoodIn wsX4_lot wsX4_holdingAt := goodIn_ca (goodIn_r _ [12, 13, 14, 15, 16, 17, 11, 18, 19, 20, 21, 22, 23, 24, 25, 26, 27, 28, 29, 30, 31, 32, 33, 34, 35, 36, 37, 38, 39, 40, 41, 42, 43, 44, 45, 46, 47, 48, 68, 69, 70, 71, 72, 54, 55, 56, 57, 58, 73, 74, 75] (by decide +kernel) (by decide +kernel)) (goodIn_sub (fun _ h => List.mem_cons_of_mem _ (List.mem_append_left _ (List.mem_append_right _ h))) (by decide +kernel))
set_option maxRecDepth 20000 in
theorem gX4_lot_X4_holdingAt : GoodIn wsX4_lot (wsV RX4 77 RX4 yX4_holdingAt wsX4_holdingAt) := goodIn_app (goodIn_of _ (by decide +kernel)) ggX4_lot_X4_holdingAt
set_option maxRecDepth 20000 in
theorem ggX4_lot_X4_checkExists : GoodIn wsX4_lot wsX4_checkExists := goodIn_ca (goodIn_r _ [29, 30, 31] (by decide +kernel) (by decide +kernel)) (goodIn_sub (fun _ h => List.mem_cons_of_mem _ (List.mem_append_left _ (List.mem_append_right _ h))) (by decide +kernel))
set_option maxRecDepth 20000 in
theorem gX4_lot_X4_checkExists : GoodIn wsX4_lot (va_wsS RX4 192 yX4_checkExists wsX4_checkExists) := goodIn_app (goodIn_of _ (by decide +kernel)) ggX4_lot_X4_checkExists
set_option maxRecDepth 20000 in
theorem ggX4_lot_X4_checkRange : GoodIn wsX4_lot wsX4_checkRange := goodIn_ca (goodIn_r _ [51, 52, 53] (by decide +kernel) (by decide +kernel)) (goodIn_sub (fun _ h => List.mem_cons_of_mem _ (List.mem_append_right _ h)) (by decide +kernel))
set_option maxRecDepth 20000 in
theorem gX4_lot_X4_checkRange : GoodIn wsX4_lot (va_wsS RX4 36 yX4_checkRange wsX4_checkRange) := goodIn_app (goodIn_of _ (by decide +kernel)) ggX4_lot_X4_checkRange
set_option maxRecDepth 20000 in
theorem ggX4_lot_Jx4a65c_size_8abf5 : GoodIn wsX4_lot wsJx4a65c_size_8abf5 := goodIn_r _ [25, 26, 73, 74, 75] (by decide +kernel) (by decide +kernel)
set_option maxRecDepth 20000 in
theorem gX4_lot_Jx4a65c_size_8abf5 : GoodIn wsX4_lot (wsV RX4 44 RJx4a65c yJx4a65c_size_8abf5 wsJx4a65c_size_8abf5) := goodIn_app (goodIn_of _ (by decide +kernel)) ggX4_lot_Jx4a65c_size_8abf5
set_option maxRecDepth 20000 in
theorem ggX4_lot_Jx4a65c_get_915e3 : GoodIn wsX4_lot wsJx4a65c_get_915e3 := goodIn_r _ [35, 26, 36, 37, 38, 39, 40, 41, 42, 43, 44, 45, 46, 24, 47, 48, 73, 74, 75] (by decide +kernel) (by decide +kernel)
set_option maxRecDepth 20000 in
theorem gX4_lot_Jx4a65c_get_915e3 : GoodIn wsX4_lot (wsV RX4 60 RJx4a65c yJx4a65c_get_915e3 wsJx4a65c_get_915e3) := goodIn_app (goodIn_of _ (by decide +kernel)) ggX4_lot_Jx4a65c_get_915e3
theorem dX4_lot_0 : decode cX4_lot 0 = .ok (.aload_n 0, 1) := by decide +kernel
theorem dX4_lot_1 : decode cX4_lot 1 = .ok (.iload_n 1, 1) := by decide +kernel
theorem dX4_lot_2 : decode cX4_lot 2 = .ok (.iload_n 2, 1) := by decide +kernel
theorem dX4_lot_3 : decode cX4_lot 3 = .ok (.invokevirtual 77, 3) := by decide +kernel
theorem dX4_lot_6 : decode cX4_lot 6 = .ok (.astore 5, 2) := by decide +kernel
theorem dX4_lot_8 : decode cX4_lot 8 = .ok (.iload_n 3, 1) := by decide +kernel
theorem dX4_lot_9 : decode cX4_lot 9 = .ok (.ifCond .lt 7, 3) := by decide +kernel
theorem dX4_lot_12 : decode cX4_lot 12 = .ok (.iconst 1, 1) := by decide +kernel
theorem dX4_lot_13 : decode cX4_lot 13 = .ok (.goto 4, 3) := by decide +kernel
theorem dX4_lot_16 : decode cX4_lot 16 = .ok (.iconst 0, 1) := by decide +kernel
theorem dX4_lot_17 : decode cX4_lot 17 = .ok (.invokestatic 192, 3) := by decide +kernel
theorem dX4_lot_20 : decode cX4_lot 20 = .ok (.iload 4, 2) := by decide +kernel
theorem dX4_lot_22 : decode cX4_lot 22 = .ok (.iconst 0, 1) := by decide +kernel
theorem dX4_lot_23 : decode cX4_lot 23 = .ok (.iconst 2, 1) := by decide +kernel
theorem dX4_lot_24 : decode cX4_lot 24 = .ok (.invokestatic 36, 3) := by decide +kernel
theorem dX4_lot_27 : decode cX4_lot 27 = .ok (.iconst 0, 1) := by decide +kernel
theorem dX4_lot_28 : decode cX4_lot 28 = .ok (.istore 6, 2) := by decide +kernel
theorem dX4_lot_30 : decode cX4_lot 30 = .ok (.iconst 0, 1) := by decide +kernel
theorem dX4_lot_31 : decode cX4_lot 31 = .ok (.istore 7, 2) := by decide +kernel
theorem dX4_lot_33 : decode cX4_lot 33 = .ok (.iload 7, 2) := by decide +kernel
theorem dX4_lot_35 : decode cX4_lot 35 = .ok (.aload_n 0, 1) := by decide +kernel
theorem dX4_lot_36 : decode cX4_lot 36 = .ok (.getfield 19, 3) := by decide +kernel
theorem dX4_lot_39 : decode cX4_lot 39 = .ok (.invokevirtual 44, 3) := by decide +kernel
theorem dX4_lot_42 : decode cX4_lot 42 = .ok (.if_icmp .ge 86, 3) := by decide +kernel
theorem dX4_lot_45 : decode cX4_lot 45 = .ok (.aload_n 0, 1) := by decide +kernel
theorem dX4_lot_46 : decode cX4_lot 46 = .ok (.getfield 19, 3) := by decide +kernel
theorem dX4_lot_49 : decode cX4_lot 49 = .ok (.iload 7, 2) := by decide +kernel
theorem dX4_lot_51 : decode cX4_lot 51 = .ok (.invokevirtual 60, 3) := by decide +kernel
theorem dX4_lot_54 : decode cX4_lot 54 = .ok (.checkcast 135, 3) := by decide +kernel
theorem dX4_lot_57 : decode cX4_lot 57 = .ok (.astore 8, 2) := by decide +kernel
theorem dX4_lot_59 : decode cX4_lot 59 = .ok (.aload 8, 2) := by decide +kernel
theorem dX4_lot_61 : decode cX4_lot 61 = .ok (.getfield 144, 3) := by decide +kernel
theorem dX4_lot_64 : decode cX4_lot 64 = .ok (.aload 5, 2) := by decide +kernel
theorem dX4_lot_66 : decode cX4_lot 66 = .ok (.if_acmp .ne 56, 3) := by decide +kernel
theorem dX4_lot_69 : decode cX4_lot 69 = .ok (.aload 8, 2) := by decide +kernel
theorem dX4_lot_71 : decode cX4_lot 71 = .ok (.getfield 195, 3) := by decide +kernel
theorem dX4_lot_74 : decode cX4_lot 74 = .ok (.lconst 0, 1) := by decide +kernel
theorem dX4_lot_75 : decode cX4_lot 75 = .ok (.lcmp, 1) := by decide +kernel
theorem dX4_lot_76 : decode cX4_lot 76 = .ok (.ifCond .le 46, 3) := by decide +kernel
theorem dX4_lot_79 : decode cX4_lot 79 = .ok (.iload 6, 2) := by decide +kernel
theorem dX4_lot_81 : decode cX4_lot 81 = .ok (.iload_n 3, 1) := by decide +kernel
theorem dX4_lot_82 : decode cX4_lot 82 = .ok (.if_icmp .ne 37, 3) := by decide +kernel
theorem dX4_lot_85 : decode cX4_lot 85 = .ok (.iload 4, 2) := by decide +kernel
theorem dX4_lot_87 : decode cX4_lot 87 = .ok (.ifCond .ne 12, 3) := by decide +kernel
theorem dX4_lot_90 : decode cX4_lot 90 = .ok (.aload 8, 2) := by decide +kernel
theorem dX4_lot_92 : decode cX4_lot 92 = .ok (.getfield 198, 3) := by decide +kernel
theorem dX4_lot_95 : decode cX4_lot 95 = .ok (.i2l, 1) := by decide +kernel
theorem dX4_lot_96 : decode cX4_lot 96 = .ok (.goto 22, 3) := by decide +kernel
theorem dX4_lot_99 : decode cX4_lot 99 = .ok (.iload 4, 2) := by decide +kernel
theorem dX4_lot_101 : decode cX4_lot 101 = .ok (.iconst 1, 1) := by decide +kernel
theorem dX4_lot_102 : decode cX4_lot 102 = .ok (.if_icmp .ne 11, 3) := by decide +kernel
theorem dX4_lot_105 : decode cX4_lot 105 = .ok (.aload 8, 2) := by decide +kernel
theorem dX4_lot_107 : decode cX4_lot 107 = .ok (.getfield 195, 3) := by decide +kernel
theorem dX4_lot_110 : decode cX4_lot 110 = .ok (.goto 8, 3) := by decide +kernel
theorem dX4_lot_113 : decode cX4_lot 113 = .ok (.aload 8, 2) := by decide +kernel
theorem dX4_lot_115 : decode cX4_lot 115 = .ok (.getfield 199, 3) := by decide +kernel
theorem dX4_lot_118 : decode cX4_lot 118 = .ok (.lreturn, 1) := by decide +kernel
theorem dX4_lot_119 : decode cX4_lot 119 = .ok (.iinc 6 1, 3) := by decide +kernel
theorem dX4_lot_122 : decode cX4_lot 122 = .ok (.iinc 7 1, 3) := by decide +kernel
theorem dX4_lot_125 : decode cX4_lot 125 = .ok (.goto (-92), 3) := by decide +kernel
theorem dX4_lot_128 : decode cX4_lot 128 = .ok (.ldc2_w 202, 3) := by decide +kernel
theorem dX4_lot_131 : decode cX4_lot 131 = .ok (.lreturn, 1) := by decide +kernel
set_option maxRecDepth 20000 in
theorem ggX4_year_X4_clientAt : GoodIn wsX4_year wsX4_clientAt := goodIn_ca (goodIn_r _ [8, 9, 10, 11, 12, 13, 14, 15, 16, 17, 18, 7, 19, 20, 21, 22, 23, 24, 25, 26, 27, 28, 29, 30, 31, 32, 33, 34, 35, 36, 37, 38, 59, 60, 61, 62, 63, 64, 65, 66] (by decide +kernel) (by decide +kernel)) (goodIn_sub (fun _ h => List.mem_cons_of_mem _ (List.mem_append_left _ (List.mem_append_right _ h))) (by decide +kernel))
set_option maxRecDepth 20000 in
theorem gX4_year_X4_clientAt : GoodIn wsX4_year (wsV RX4 67 RX4 yX4_clientAt wsX4_clientAt) := goodIn_app (goodIn_of _ (by decide +kernel)) ggX4_year_X4_clientAt
set_option maxRecDepth 20000 in
theorem ggX4_year_X4_checkExists : GoodIn wsX4_year wsX4_checkExists := goodIn_ca (goodIn_r _ [19, 20, 21] (by decide +kernel) (by decide +kernel)) (goodIn_sub (fun _ h => List.mem_cons_of_mem _ (List.mem_append_left _ (List.mem_append_right _ h))) (by decide +kernel))
set_option maxRecDepth 20000 in
theorem gX4_year_X4_checkExists : GoodIn wsX4_year (va_wsS RX4 192 yX4_checkExists wsX4_checkExists) := goodIn_app (goodIn_of _ (by decide +kernel)) ggX4_year_X4_checkExists
set_option maxRecDepth 20000 in
theorem ggX4_year_X4_checkRange : GoodIn wsX4_year wsX4_checkRange := goodIn_ca (goodIn_r _ [41, 42, 43] (by decide +kernel) (by decide +kernel)) (goodIn_sub (fun _ h => List.mem_cons_of_mem _ (List.mem_append_right _ h)) (by decide +kernel))
set_option maxRecDepth 20000 in
theorem gX4_year_X4_checkRange : GoodIn wsX4_year (va_wsS RX4 36 yX4_checkRange wsX4_checkRange) := goodIn_app (goodIn_of _ (by decide +kernel)) ggX4_year_X4_checkRange
set_option maxRecDepth 20000 in
theorem ggX4_year_X4_baseOf : GoodIn wsX4_year wsX4_baseOf := goodIn_r _ [46, 1, 47, 48, 49, 50, 51, 52, 53, 54, 55, 56, 57, 58] (by decide +kernel) (by decide +kernel)
set_option maxRecDepth 20000 in
theorem gX4_year_X4_baseOf : GoodIn wsX4_year (va_wsS RX4 211 yX4_baseOf wsX4_baseOf) := goodIn_app (goodIn_of _ (by decide +kernel)) ggX4_year_X4_baseOf
theorem dX4_year_0 : decode cX4_year 0 = .ok (.aload_n 0, 1) := by decide +kernel
theorem dX4_year_1 : decode cX4_year 1 = .ok (.iload_n 1, 1) := by decide +kernel
theorem dX4_year_2 : decode cX4_year 2 = .ok (.invokevirtual 67, 3) := by decide +kernel
theorem dX4_year_5 : decode cX4_year 5 = .ok (.astore 4, 2) := by decide +kernel
theorem dX4_year_7 : decode cX4_year 7 = .ok (.iload_n 2, 1) := by decide +kernel
theorem dX4_year_8 : decode cX4_year 8 = .ok (.ifCond .lt 27, 3) := by decide +kernel
theorem dX4_year_11 : decode cX4_year 11 = .ok (.iload_n 2, 1) := by decide +kernel
theorem dX4_year_12 : decode cX4_year 12 = .ok (.aload 4, 2) := by decide +kernel
theorem dX4_year_14 : decode cX4_year 14 = .ok (.getfield 204, 3) := by decide +kernel
theorem dX4_year_17 : decode cX4_year 17 = .ok (.arraylength, 1) := by decide +kernel
theorem dX4_year_18 : decode cX4_year 18 = .ok (.if_icmp .ge 17, 3) := by decide +kernel
theorem dX4_year_21 : decode cX4_year 21 = .ok (.iload_n 2, 1) := by decide +kernel
theorem dX4_year_22 : decode cX4_year 22 = .ok (.aload 4, 2) := by decide +kernel
theorem dX4_year_24 : decode cX4_year 24 = .ok (.getfield 208, 3) := by decide +kernel
theorem dX4_year_27 : decode cX4_year 27 = .ok (.arraylength, 1) := by decide +kernel
theorem dX4_year_28 : decode cX4_year 28 = .ok (.if_icmp .ge 7, 3) := by decide +kernel
theorem dX4_year_31 : decode cX4_year 31 = .ok (.iconst 1, 1) := by decide +kernel
theorem dX4_year_32 : decode cX4_year 32 = .ok (.goto 4, 3) := by decide +kernel
theorem dX4_year_35 : decode cX4_year 35 = .ok (.iconst 0, 1) := by decide +kernel
theorem dX4_year_36 : decode cX4_year 36 = .ok (.invokestatic 192, 3) := by decide +kernel
theorem dX4_year_39 : decode cX4_year 39 = .ok (.iload_n 3, 1) := by decide +kernel
theorem dX4_year_40 : decode cX4_year 40 = .ok (.iconst 0, 1) := by decide +kernel
theorem dX4_year_41 : decode cX4_year 41 = .ok (.iconst 3, 1) := by decide +kernel
theorem dX4_year_42 : decode cX4_year 42 = .ok (.invokestatic 36, 3) := by decide +kernel
theorem dX4_year_45 : decode cX4_year 45 = .ok (.iload_n 3, 1) := by decide +kernel
theorem dX4_year_46 : decode cX4_year 46 = .ok (.tableswitch 52 0 2 #[26, 34, 41], 26) := by decide +kernel
theorem dX4_year_72 : decode cX4_year 72 = .ok (.aload 4, 2) := by decide +kernel
theorem dX4_year_74 : decode cX4_year 74 = .ok (.getfield 204, 3) := by decide +kernel
theorem dX4_year_77 : decode cX4_year 77 = .ok (.iload_n 2, 1) := by decide +kernel
theorem dX4_year_78 : decode cX4_year 78 = .ok (.laload, 1) := by decide +kernel
theorem dX4_year_79 : decode cX4_year 79 = .ok (.lreturn, 1) := by decide +kernel
theorem dX4_year_80 : decode cX4_year 80 = .ok (.aload 4, 2) := by decide +kernel
theorem dX4_year_82 : decode cX4_year 82 = .ok (.iload_n 2, 1) := by decide +kernel
theorem dX4_year_83 : decode cX4_year 83 = .ok (.invokestatic 211, 3) := by decide +kernel
theorem dX4_year_86 : decode cX4_year 86 = .ok (.lreturn, 1) := by decide +kernel
theorem dX4_year_87 : decode cX4_year 87 = .ok (.aload 4, 2) := by decide +kernel
theorem dX4_year_89 : decode cX4_year 89 = .ok (.iload_n 2, 1) := by decide +kernel
theorem dX4_year_90 : decode cX4_year 90 = .ok (.invokestatic 211, 3) := by decide +kernel
theorem dX4_year_93 : decode cX4_year 93 = .ok (.ldc2_w 215, 3) := by decide +kernel
theorem dX4_year_96 : decode cX4_year 96 = .ok (.ldiv, 1) := by decide +kernel
theorem dX4_year_97 : decode cX4_year 97 = .ok (.lreturn, 1) := by decide +kernel
theorem dX4_year_98 : decode cX4_year 98 = .ok (.aload 4, 2) := by decide +kernel
theorem dX4_year_100 : decode cX4_year 100 = .ok (.getfield 208, 3) := by decide +kernel
theorem dX4_year_103 : decode cX4_year 103 = .ok (.iload_n 2, 1) := by decide +kernel
theorem dX4_year_104 : decode cX4_year 104 = .ok (.laload, 1) := by decide +kernel
theorem dX4_year_105 : decode cX4_year 105 = .ok (.lreturn, 1) := by decide +kernel
set_option maxRecDepth 20000 in
theorem ggX4_wealth_X4_clientAt : GoodIn wsX4_wealth wsX4_clientAt := goodIn_ca (goodIn_r _ [5, 6, 7, 8, 9, 10, 11, 12, 13, 14, 15, 4, 16, 17, 18, 19, 20, 21, 22, 23, 24, 25, 26, 27, 28, 29, 30, 31, 32, 33, 34, 35, 52, 53, 54, 55, 56, 57, 58, 59] (by decide +kernel) (by decide +kernel)) (goodIn_sub (fun _ h => List.mem_cons_of_mem _ (List.mem_append_right _ h)) (by decide +kernel))
set_option maxRecDepth 20000 in
theorem gX4_wealth_X4_clientAt : GoodIn wsX4_wealth (wsV RX4 67 RX4 yX4_clientAt wsX4_clientAt) := goodIn_app (goodIn_of _ (by decide +kernel)) ggX4_wealth_X4_clientAt
set_option maxRecDepth 20000 in
theorem ggX4_wealth_X4_wealthOf : GoodIn wsX4_wealth wsX4_wealthOf := goodIn_r _ [38, 39, 40, 41, 8, 9, 10, 11, 12, 13, 19, 20, 21, 22, 23, 24, 25, 26, 27, 28, 29, 30, 31, 32, 33, 34, 35, 42, 43, 4, 44, 45, 46, 47, 48, 49, 50, 51, 60, 61, 62, 63, 64, 57, 58, 59, 65, 66, 67, 68, 69, 70, 71, 72] (by decide +kernel) (by decide +kernel)
set_option maxRecDepth 20000 in
theorem gX4_wealth_X4_wealthOf : GoodIn wsX4_wealth (va_wsS RX4 117 yX4_wealthOf wsX4_wealthOf) := goodIn_app (goodIn_of _ (by decide +kernel)) ggX4_wealth_X4_wealthOf
theorem dX4_wealth_0 : decode cX4_wealth 0 = .ok (.aload_n 0, 1) := by decide +kernel
theorem dX4_wealth_1 : decode cX4_wealth 1 = .ok (.iload_n 1, 1) := by decide +kernel
theorem dX4_wealth_2 : decode cX4_wealth 2 = .ok (.invokevirtual 67, 3) := by decide +kernel
theorem dX4_wealth_5 : decode cX4_wealth 5 = .ok (.invokestatic 117, 3) := by decide +kernel
theorem dX4_wealth_8 : decode cX4_wealth 8 = .ok (.lreturn, 1) := by decide +kernel
theorem dX4_checkExists_0 : decode cX4_checkExists 0 = .ok (.iload_n 0, 1) := by decide +kernel
theorem dX4_checkExists_1 : decode cX4_checkExists 1 = .ok (.ifCond .ne 13, 3) := by decide +kernel
theorem dX4_checkExists_4 : decode cX4_checkExists 4 = .ok (.new 217, 3) := by decide +kernel
theorem dX4_checkExists_7 : decode cX4_checkExists 7 = .ok (.dup, 1) := by decide +kernel
theorem dX4_checkExists_8 : decode cX4_checkExists 8 = .ok (.ldc 219, 2) := by decide +kernel
theorem dX4_checkExists_10 : decode cX4_checkExists 10 = .ok (.invokespecial 221, 3) := by decide +kernel
theorem dX4_checkExists_13 : decode cX4_checkExists 13 = .ok (.athrow, 1) := by decide +kernel
theorem dX4_checkExists_14 : decode cX4_checkExists 14 = .ok (.return_, 1) := by decide +kernel
theorem dX4_checkRange_0 : decode cX4_checkRange 0 = .ok (.iload_n 0, 1) := by decide +kernel
theorem dX4_checkRange_1 : decode cX4_checkRange 1 = .ok (.iload_n 1, 1) := by decide +kernel
theorem dX4_checkRange_2 : decode cX4_checkRange 2 = .ok (.if_icmp .lt 8, 3) := by decide +kernel
theorem dX4_checkRange_5 : decode cX4_checkRange 5 = .ok (.iload_n 0, 1) := by decide +kernel
theorem dX4_checkRange_6 : decode cX4_checkRange 6 = .ok (.iload_n 2, 1) := by decide +kernel
theorem dX4_checkRange_7 : decode cX4_checkRange 7 = .ok (.if_icmp .le 13, 3) := by decide +kernel
theorem dX4_checkRange_10 : decode cX4_checkRange 10 = .ok (.new 224, 3) := by decide +kernel
theorem dX4_checkRange_13 : decode cX4_checkRange 13 = .ok (.dup, 1) := by decide +kernel
theorem dX4_checkRange_14 : decode cX4_checkRange 14 = .ok (.ldc 226, 2) := by decide +kernel
theorem dX4_checkRange_16 : decode cX4_checkRange 16 = .ok (.invokespecial 228, 3) := by decide +kernel
theorem dX4_checkRange_19 : decode cX4_checkRange 19 = .ok (.athrow, 1) := by decide +kernel
theorem dX4_checkRange_20 : decode cX4_checkRange 20 = .ok (.return_, 1) := by decide +kernel
theorem dX4_checkPossible_0 : decode cX4_checkPossible 0 = .ok (.iload_n 0, 1) := by decide +kernel
theorem dX4_checkPossible_1 : decode cX4_checkPossible 1 = .ok (.ifCond .ne 13, 3) := by decide +kernel
theorem dX4_checkPossible_4 : decode cX4_checkPossible 4 = .ok (.new 229, 3) := by decide +kernel
theorem dX4_checkPossible_7 : decode cX4_checkPossible 7 = .ok (.dup, 1) := by decide +kernel
theorem dX4_checkPossible_8 : decode cX4_checkPossible 8 = .ok (.ldc 231, 2) := by decide +kernel
theorem dX4_checkPossible_10 : decode cX4_checkPossible 10 = .ok (.invokespecial 233, 3) := by decide +kernel
theorem dX4_checkPossible_13 : decode cX4_checkPossible 13 = .ok (.athrow, 1) := by decide +kernel
theorem dX4_checkPossible_14 : decode cX4_checkPossible 14 = .ok (.return_, 1) := by decide +kernel
set_option maxRecDepth 20000 in
theorem ggX4_fundAt_Jx4a65c_size_8abf5 : GoodIn wsX4_fundAt wsJx4a65c_size_8abf5 := goodIn_r _ [7, 8, 37, 38, 39] (by decide +kernel) (by decide +kernel)
set_option maxRecDepth 20000 in
theorem gX4_fundAt_Jx4a65c_size_8abf5 : GoodIn wsX4_fundAt (wsV RX4 44 RJx4a65c yJx4a65c_size_8abf5 wsJx4a65c_size_8abf5) := goodIn_app (goodIn_of _ (by decide +kernel)) ggX4_fundAt_Jx4a65c_size_8abf5
set_option maxRecDepth 20000 in
theorem ggX4_fundAt_X4_checkExists : GoodIn wsX4_fundAt wsX4_checkExists := goodIn_ca (goodIn_r _ [12, 13, 14] (by decide +kernel) (by decide +kernel)) (goodIn_sub (fun _ h => List.mem_cons_of_mem _ (List.mem_append_right _ h)) (by decide +kernel))
set_option maxRecDepth 20000 in
theorem gX4_fundAt_X4_checkExists : GoodIn wsX4_fundAt (va_wsS RX4 192 yX4_checkExists wsX4_checkExists) := goodIn_app (goodIn_of _ (by decide +kernel)) ggX4_fundAt_X4_checkExists
set_option maxRecDepth 20000 in
theorem ggX4_fundAt_Jx4a65c_get_915e3 : GoodIn wsX4_fundAt wsJx4a65c_get_915e3 := goodIn_r _ [18, 8, 19, 20, 21, 22, 23, 24, 25, 26, 27, 28, 29, 6, 30, 31, 37, 38, 39] (by decide +kernel) (by decide +kernel)
set_option maxRecDepth 20000 in
theorem gX4_fundAt_Jx4a65c_get_915e3 : GoodIn wsX4_fundAt (wsV RX4 60 RJx4a65c yJx4a65c_get_915e3 wsJx4a65c_get_915e3) := goodIn_app (goodIn_of _ (by decide +kernel)) ggX4_fundAt_Jx4a65c_get_915e3
theorem dX4_fundAt_0 : decode cX4_fundAt 0 = .ok (.iload_n 1, 1) := by decide +kernel
theorem dX4_fundAt_1 : decode cX4_fundAt 1 = .ok (.ifCond .lt 18, 3) := by decide +kernel
theorem dX4_fundAt_4 : decode cX4_fundAt 4 = .ok (.iload_n 1, 1) := by decide +kernel
theorem dX4_fundAt_5 : decode cX4_fundAt 5 = .ok (.aload_n 0, 1) := by decide +kernel
theorem dX4_fundAt_6 : decode cX4_fundAt 6 = .ok (.getfield 10, 3) := by decide +kernel
theorem dX4_fundAt_9 : decode cX4_fundAt 9 = .ok (.invokevirtual 44, 3) := by decide +kernel
theorem dX4_fundAt_12 : decode cX4_fundAt 12 = .ok (.if_icmp .ge 7, 3) := by decide +kernel
theorem dX4_fundAt_15 : decode cX4_fundAt 15 = .ok (.iconst 1, 1) := by decide +kernel
theorem dX4_fundAt_16 : decode cX4_fundAt 16 = .ok (.goto 4, 3) := by decide +kernel
theorem dX4_fundAt_19 : decode cX4_fundAt 19 = .ok (.iconst 0, 1) := by decide +kernel
theorem dX4_fundAt_20 : decode cX4_fundAt 20 = .ok (.invokestatic 192, 3) := by decide +kernel
theorem dX4_fundAt_23 : decode cX4_fundAt 23 = .ok (.aload_n 0, 1) := by decide +kernel
theorem dX4_fundAt_24 : decode cX4_fundAt 24 = .ok (.getfield 10, 3) := by decide +kernel
theorem dX4_fundAt_27 : decode cX4_fundAt 27 = .ok (.iload_n 1, 1) := by decide +kernel
theorem dX4_fundAt_28 : decode cX4_fundAt 28 = .ok (.invokevirtual 60, 3) := by decide +kernel
theorem dX4_fundAt_31 : decode cX4_fundAt 31 = .ok (.checkcast 22, 3) := by decide +kernel
theorem dX4_fundAt_34 : decode cX4_fundAt 34 = .ok (.areturn, 1) := by decide +kernel
set_option maxRecDepth 20000 in
theorem ggX4_clientAt_Jx4a65c_size_8abf5 : GoodIn wsX4_clientAt wsJx4a65c_size_8abf5 := goodIn_r _ [7, 8, 37, 38, 39] (by decide +kernel) (by decide +kernel)
set_option maxRecDepth 20000 in
theorem gX4_clientAt_Jx4a65c_size_8abf5 : GoodIn wsX4_clientAt (wsV RX4 44 RJx4a65c yJx4a65c_size_8abf5 wsJx4a65c_size_8abf5) := goodIn_app (goodIn_of _ (by decide +kernel)) ggX4_clientAt_Jx4a65c_size_8abf5
set_option maxRecDepth 20000 in
theorem ggX4_clientAt_X4_checkExists : GoodIn wsX4_clientAt wsX4_checkExists := goodIn_ca (goodIn_r _ [12, 13, 14] (by decide +kernel) (by decide +kernel)) (goodIn_sub (fun _ h => List.mem_cons_of_mem _ (List.mem_append_right _ h)) (by decide +kernel))
set_option maxRecDepth 20000 in
theorem gX4_clientAt_X4_checkExists : GoodIn wsX4_clientAt (va_wsS RX4 192 yX4_checkExists wsX4_checkExists) := goodIn_app (goodIn_of _ (by decide +kernel)) ggX4_clientAt_X4_checkExists
set_option maxRecDepth 20000 in
theorem ggX4_clientAt_Jx4a65c_get_915e3 : GoodIn wsX4_clientAt wsJx4a65c_get_915e3 := goodIn_r _ [18, 8, 19, 20, 21, 22, 23, 24, 25, 26, 27, 28, 29, 6, 30, 31, 37, 38, 39] (by decide +kernel) (by decide +kernel)
set_option maxRecDepth 20000 in
theorem gX4_clientAt_Jx4a65c_get_915e3 : GoodIn wsX4_clientAt (wsV RX4 60 RJx4a65c yJx4a65c_get_915e3 wsJx4a65c_get_915e3) := goodIn_app (goodIn_of _ (by decide +kernel)) ggX4_clientAt_Jx4a65c_get_915e3
theorem dX4_clientAt_0 : decode cX4_clientAt 0 = .ok (.iload_n 1, 1) := by decide +kernel
theorem dX4_clientAt_1 : decode cX4_clientAt 1 = .ok (.ifCond .lt 18, 3) := by decide +kernel
theorem dX4_clientAt_4 : decode cX4_clientAt 4 = .ok (.iload_n 1, 1) := by decide +kernel
theorem dX4_clientAt_5 : decode cX4_clientAt 5 = .ok (.aload_n 0, 1) := by decide +kernel
theorem dX4_clientAt_6 : decode cX4_clientAt 6 = .ok (.getfield 16, 3) := by decide +kernel
theorem dX4_clientAt_9 : decode cX4_clientAt 9 = .ok (.invokevirtual 44, 3) := by decide +kernel
theorem dX4_clientAt_12 : decode cX4_clientAt 12 = .ok (.if_icmp .ge 7, 3) := by decide +kernel
theorem dX4_clientAt_15 : decode cX4_clientAt 15 = .ok (.iconst 1, 1) := by decide +kernel
theorem dX4_clientAt_16 : decode cX4_clientAt 16 = .ok (.goto 4, 3) := by decide +kernel
theorem dX4_clientAt_19 : decode cX4_clientAt 19 = .ok (.iconst 0, 1) := by decide +kernel
theorem dX4_clientAt_20 : decode cX4_clientAt 20 = .ok (.invokestatic 192, 3) := by decide +kernel
theorem dX4_clientAt_23 : decode cX4_clientAt 23 = .ok (.aload_n 0, 1) := by decide +kernel
theorem dX4_clientAt_24 : decode cX4_clientAt 24 = .ok (.getfield 16, 3) := by decide +kernel
theorem dX4_clientAt_27 : decode cX4_clientAt 27 = .ok (.iload_n 1, 1) := by decide +kernel
theorem dX4_clientAt_28 : decode cX4_clientAt 28 = .ok (.invokevirtual 60, 3) := by decide +kernel
theorem dX4_clientAt_31 : decode cX4_clientAt 31 = .ok (.checkcast 52, 3) := by decide +kernel
theorem dX4_clientAt_34 : decode cX4_clientAt 34 = .ok (.areturn, 1) := by decide +kernel
set_option maxRecDepth 20000 in
theorem ggX4_holdingAt_X4_clientAt : GoodIn wsX4_holdingAt wsX4_clientAt := goodIn_ca (goodIn_r _ [7, 8, 9, 10, 11, 12, 13, 14, 15, 16, 17, 6, 18, 19, 20, 21, 22, 23, 24, 25, 26, 27, 28, 29, 30, 31, 32, 33, 34, 35, 36, 37, 43, 44, 45, 46, 47, 48, 49, 50] (by decide +kernel) (by decide +kernel)) (goodIn_sub (fun _ h => List.mem_cons_of_mem _ (List.mem_append_right _ h)) (by decide +kernel))
set_option maxRecDepth 20000 in
theorem gX4_holdingAt_X4_clientAt : GoodIn wsX4_holdingAt (wsV RX4 67 RX4 yX4_clientAt wsX4_clientAt) := goodIn_app (goodIn_of _ (by decide +kernel)) ggX4_holdingAt_X4_clientAt
set_option maxRecDepth 20000 in
theorem ggX4_holdingAt_Jx4a65c_size_8abf5 : GoodIn wsX4_holdingAt wsJx4a65c_size_8abf5 := goodIn_r _ [14, 15, 48, 49, 50] (by decide +kernel) (by decide +kernel)
set_option maxRecDepth 20000 in
theorem gX4_holdingAt_Jx4a65c_size_8abf5 : GoodIn wsX4_holdingAt (wsV RX4 44 RJx4a65c yJx4a65c_size_8abf5 wsJx4a65c_size_8abf5) := goodIn_app (goodIn_of _ (by decide +kernel)) ggX4_holdingAt_Jx4a65c_size_8abf5
set_option maxRecDepth 20000 in
theorem ggX4_holdingAt_X4_checkExists : GoodIn wsX4_holdingAt wsX4_checkExists := goodIn_ca (goodIn_r _ [18, 19, 20] (by decide +kernel) (by decide +kernel)) (goodIn_sub (fun _ h => List.mem_cons_of_mem _ (List.mem_append_right _ h)) (by decide +kernel))
set_option maxRecDepth 20000 in
theorem gX4_holdingAt_X4_checkExists : GoodIn wsX4_holdingAt (va_wsS RX4 192 yX4_checkExists wsX4_checkExists) := goodIn_app (goodIn_of _ (by decide +kernel)) ggX4_holdingAt_X4_checkExists
set_option maxRecDepth 20000 in
theorem ggX4_holdingAt_Jx4a65c_get_915e3 : GoodIn wsX4_holdingAt wsJx4a65c_get_915e3 := goodIn_r _ [24, 15, 25, 26, 27, 28, 29, 30, 31, 32, 33, 34, 35, 13, 36, 37, 48, 49, 50] (by decide +kernel) (by decide +kernel)
set_option maxRecDepth 20000 in
theorem gX4_holdingAt_Jx4a65c_get_915e3 : GoodIn wsX4_holdingAt (wsV RX4 60 RJx4a65c yJx4a65c_get_915e3 wsJx4a65c_get_915e3) := goodIn_app (goodIn_of _ (by decide +kernel)) ggX4_holdingAt_Jx4a65c_get_915e3
theorem dX4_holdingAt_0 : decode cX4_holdingAt 0 = .ok (.aload_n 0, 1) := by decide +kernel
theorem dX4_holdingAt_1 : decode cX4_holdingAt 1 = .ok (.iload_n 1, 1) := by decide +kernel
theorem dX4_holdingAt_2 : decode cX4_holdingAt 2 = .ok (.invokevirtual 67, 3) := by decide +kernel
theorem dX4_holdingAt_5 : decode cX4_holdingAt 5 = .ok (.astore_n 3, 1) := by decide +kernel
theorem dX4_holdingAt_6 : decode cX4_holdingAt 6 = .ok (.iload_n 2, 1) := by decide +kernel
theorem dX4_holdingAt_7 : decode cX4_holdingAt 7 = .ok (.ifCond .lt 18, 3) := by decide +kernel
theorem dX4_holdingAt_10 : decode cX4_holdingAt 10 = .ok (.iload_n 2, 1) := by decide +kernel
theorem dX4_holdingAt_11 : decode cX4_holdingAt 11 = .ok (.aload_n 3, 1) := by decide +kernel
theorem dX4_holdingAt_12 : decode cX4_holdingAt 12 = .ok (.getfield 55, 3) := by decide +kernel
theorem dX4_holdingAt_15 : decode cX4_holdingAt 15 = .ok (.invokevirtual 44, 3) := by decide +kernel
theorem dX4_holdingAt_18 : decode cX4_holdingAt 18 = .ok (.if_icmp .ge 7, 3) := by decide +kernel
theorem dX4_holdingAt_21 : decode cX4_holdingAt 21 = .ok (.iconst 1, 1) := by decide +kernel
theorem dX4_holdingAt_22 : decode cX4_holdingAt 22 = .ok (.goto 4, 3) := by decide +kernel
theorem dX4_holdingAt_25 : decode cX4_holdingAt 25 = .ok (.iconst 0, 1) := by decide +kernel
theorem dX4_holdingAt_26 : decode cX4_holdingAt 26 = .ok (.invokestatic 192, 3) := by decide +kernel
theorem dX4_holdingAt_29 : decode cX4_holdingAt 29 = .ok (.aload_n 3, 1) := by decide +kernel
theorem dX4_holdingAt_30 : decode cX4_holdingAt 30 = .ok (.getfield 55, 3) := by decide +kernel
theorem dX4_holdingAt_33 : decode cX4_holdingAt 33 = .ok (.iload_n 2, 1) := by decide +kernel
theorem dX4_holdingAt_34 : decode cX4_holdingAt 34 = .ok (.invokevirtual 60, 3) := by decide +kernel
theorem dX4_holdingAt_37 : decode cX4_holdingAt 37 = .ok (.checkcast 58, 3) := by decide +kernel
theorem dX4_holdingAt_40 : decode cX4_holdingAt 40 = .ok (.areturn, 1) := by decide +kernel
set_option maxRecDepth 20000 in
theorem ggX4_tradeAt_Jx4a65c_size_8abf5 : GoodIn wsX4_tradeAt wsJx4a65c_size_8abf5 := goodIn_r _ [7, 8, 37, 38, 39] (by decide +kernel) (by decide +kernel)
set_option maxRecDepth 20000 in
theorem gX4_tradeAt_Jx4a65c_size_8abf5 : GoodIn wsX4_tradeAt (wsV RX4 44 RJx4a65c yJx4a65c_size_8abf5 wsJx4a65c_size_8abf5) := goodIn_app (goodIn_of _ (by decide +kernel)) ggX4_tradeAt_Jx4a65c_size_8abf5
set_option maxRecDepth 20000 in
theorem ggX4_tradeAt_X4_checkExists : GoodIn wsX4_tradeAt wsX4_checkExists := goodIn_ca (goodIn_r _ [12, 13, 14] (by decide +kernel) (by decide +kernel)) (goodIn_sub (fun _ h => List.mem_cons_of_mem _ (List.mem_append_right _ h)) (by decide +kernel))
set_option maxRecDepth 20000 in
theorem gX4_tradeAt_X4_checkExists : GoodIn wsX4_tradeAt (va_wsS RX4 192 yX4_checkExists wsX4_checkExists) := goodIn_app (goodIn_of _ (by decide +kernel)) ggX4_tradeAt_X4_checkExists
set_option maxRecDepth 20000 in
theorem ggX4_tradeAt_Jx4a65c_get_915e3 : GoodIn wsX4_tradeAt wsJx4a65c_get_915e3 := goodIn_r _ [18, 8, 19, 20, 21, 22, 23, 24, 25, 26, 27, 28, 29, 6, 30, 31, 37, 38, 39] (by decide +kernel) (by decide +kernel)
set_option maxRecDepth 20000 in
theorem gX4_tradeAt_Jx4a65c_get_915e3 : GoodIn wsX4_tradeAt (wsV RX4 60 RJx4a65c yJx4a65c_get_915e3 wsJx4a65c_get_915e3) := goodIn_app (goodIn_of _ (by decide +kernel)) ggX4_tradeAt_Jx4a65c_get_915e3
theorem dX4_tradeAt_0 : decode cX4_tradeAt 0 = .ok (.iload_n 1, 1) := by decide +kernel
theorem dX4_tradeAt_1 : decode cX4_tradeAt 1 = .ok (.ifCond .lt 18, 3) := by decide +kernel
theorem dX4_tradeAt_4 : decode cX4_tradeAt 4 = .ok (.iload_n 1, 1) := by decide +kernel
theorem dX4_tradeAt_5 : decode cX4_tradeAt 5 = .ok (.aload_n 0, 1) := by decide +kernel
theorem dX4_tradeAt_6 : decode cX4_tradeAt 6 = .ok (.getfield 19, 3) := by decide +kernel
theorem dX4_tradeAt_9 : decode cX4_tradeAt 9 = .ok (.invokevirtual 44, 3) := by decide +kernel
theorem dX4_tradeAt_12 : decode cX4_tradeAt 12 = .ok (.if_icmp .ge 7, 3) := by decide +kernel
theorem dX4_tradeAt_15 : decode cX4_tradeAt 15 = .ok (.iconst 1, 1) := by decide +kernel
theorem dX4_tradeAt_16 : decode cX4_tradeAt 16 = .ok (.goto 4, 3) := by decide +kernel
theorem dX4_tradeAt_19 : decode cX4_tradeAt 19 = .ok (.iconst 0, 1) := by decide +kernel
theorem dX4_tradeAt_20 : decode cX4_tradeAt 20 = .ok (.invokestatic 192, 3) := by decide +kernel
theorem dX4_tradeAt_23 : decode cX4_tradeAt 23 = .ok (.aload_n 0, 1) := by decide +kernel
theorem dX4_tradeAt_24 : decode cX4_tradeAt 24 = .ok (.getfield 19, 3) := by decide +kernel
theorem dX4_tradeAt_27 : decode cX4_tradeAt 27 = .ok (.iload_n 1, 1) := by decide +kernel
theorem dX4_tradeAt_28 : decode cX4_tradeAt 28 = .ok (.invokevirtual 60, 3) := by decide +kernel
theorem dX4_tradeAt_31 : decode cX4_tradeAt 31 = .ok (.checkcast 135, 3) := by decide +kernel
theorem dX4_tradeAt_34 : decode cX4_tradeAt 34 = .ok (.areturn, 1) := by decide +kernel
set_option maxRecDepth 20000 in
theorem ggX4_hundredthsTogether_Jx4a65c_size_8abf5 : GoodIn wsX4_hundredthsTogether wsJx4a65c_size_8abf5 := goodIn_r _ [8, 9, 36, 37, 38] (by decide +kernel) (by decide +kernel)
set_option maxRecDepth 20000 in
theorem gX4_hundredthsTogether_Jx4a65c_size_8abf5 : GoodIn wsX4_hundredthsTogether (wsV RX4 44 RJx4a65c yJx4a65c_size_8abf5 wsJx4a65c_size_8abf5) := goodIn_app (goodIn_of _ (by decide +kernel)) ggX4_hundredthsTogether_Jx4a65c_size_8abf5
set_option maxRecDepth 20000 in
theorem ggX4_hundredthsTogether_Jx4a65c_get_915e3 : GoodIn wsX4_hundredthsTogether wsJx4a65c_get_915e3 := goodIn_r _ [13, 9, 14, 15, 16, 17, 18, 19, 20, 21, 22, 23, 24, 7, 25, 26, 36, 37, 38] (by decide +kernel) (by decide +kernel)
set_option maxRecDepth 20000 in
theorem gX4_hundredthsTogether_Jx4a65c_get_915e3 : GoodIn wsX4_hundredthsTogether (wsV RX4 60 RJx4a65c yJx4a65c_get_915e3 wsJx4a65c_get_915e3) := goodIn_app (goodIn_of _ (by decide +kernel)) ggX4_hundredthsTogether_Jx4a65c_get_915e3
theorem dX4_hundredthsTogether_0 : decode cX4_hundredthsTogether 0 = .ok (.iconst 0, 1) := by decide +kernel
theorem dX4_hundredthsTogether_1 : decode cX4_hundredthsTogether 1 = .ok (.istore_n 1, 1) := by decide +kernel
theorem dX4_hundredthsTogether_2 : decode cX4_hundredthsTogether 2 = .ok (.iconst 0, 1) := by decide +kernel
theorem dX4_hundredthsTogether_3 : decode cX4_hundredthsTogether 3 = .ok (.istore_n 2, 1) := by decide +kernel
theorem dX4_hundredthsTogether_4 : decode cX4_hundredthsTogether 4 = .ok (.iload_n 2, 1) := by decide +kernel
theorem dX4_hundredthsTogether_5 : decode cX4_hundredthsTogether 5 = .ok (.aload_n 0, 1) := by decide +kernel
theorem dX4_hundredthsTogether_6 : decode cX4_hundredthsTogether 6 = .ok (.getfield 55, 3) := by decide +kernel
theorem dX4_hundredthsTogether_9 : decode cX4_hundredthsTogether 9 = .ok (.invokevirtual 44, 3) := by decide +kernel
theorem dX4_hundredthsTogether_12 : decode cX4_hundredthsTogether 12 = .ok (.if_icmp .ge 26, 3) := by decide +kernel
theorem dX4_hundredthsTogether_15 : decode cX4_hundredthsTogether 15 = .ok (.iload_n 1, 1) := by decide +kernel
theorem dX4_hundredthsTogether_16 : decode cX4_hundredthsTogether 16 = .ok (.aload_n 0, 1) := by decide +kernel
theorem dX4_hundredthsTogether_17 : decode cX4_hundredthsTogether 17 = .ok (.getfield 55, 3) := by decide +kernel
theorem dX4_hundredthsTogether_20 : decode cX4_hundredthsTogether 20 = .ok (.iload_n 2, 1) := by decide +kernel
theorem dX4_hundredthsTogether_21 : decode cX4_hundredthsTogether 21 = .ok (.invokevirtual 60, 3) := by decide +kernel
theorem dX4_hundredthsTogether_24 : decode cX4_hundredthsTogether 24 = .ok (.checkcast 58, 3) := by decide +kernel
theorem dX4_hundredthsTogether_27 : decode cX4_hundredthsTogether 27 = .ok (.getfield 89, 3) := by decide +kernel
theorem dX4_hundredthsTogether_30 : decode cX4_hundredthsTogether 30 = .ok (.iadd, 1) := by decide +kernel
theorem dX4_hundredthsTogether_31 : decode cX4_hundredthsTogether 31 = .ok (.istore_n 1, 1) := by decide +kernel
theorem dX4_hundredthsTogether_32 : decode cX4_hundredthsTogether 32 = .ok (.iinc 2 1, 3) := by decide +kernel
theorem dX4_hundredthsTogether_35 : decode cX4_hundredthsTogether 35 = .ok (.goto (-31), 3) := by decide +kernel
theorem dX4_hundredthsTogether_38 : decode cX4_hundredthsTogether 38 = .ok (.iload_n 1, 1) := by decide +kernel
theorem dX4_hundredthsTogether_39 : decode cX4_hundredthsTogether 39 = .ok (.ireturn, 1) := by decide +kernel
theorem dX4_cutQuotient_0 : decode cX4_cutQuotient 0 = .ok (.lload_n 2, 1) := by decide +kernel
theorem dX4_cutQuotient_1 : decode cX4_cutQuotient 1 = .ok (.lconst 0, 1) := by decide +kernel
theorem dX4_cutQuotient_2 : decode cX4_cutQuotient 2 = .ok (.lcmp, 1) := by decide +kernel
theorem dX4_cutQuotient_3 : decode cX4_cutQuotient 3 = .ok (.ifCond .ne 7, 3) := by decide +kernel
theorem dX4_cutQuotient_6 : decode cX4_cutQuotient 6 = .ok (.lconst 0, 1) := by decide +kernel
theorem dX4_cutQuotient_7 : decode cX4_cutQuotient 7 = .ok (.goto 6, 3) := by decide +kernel
theorem dX4_cutQuotient_10 : decode cX4_cutQuotient 10 = .ok (.lload_n 0, 1) := by decide +kernel
theorem dX4_cutQuotient_11 : decode cX4_cutQuotient 11 = .ok (.lload_n 2, 1) := by decide +kernel
theorem dX4_cutQuotient_12 : decode cX4_cutQuotient 12 = .ok (.ldiv, 1) := by decide +kernel
theorem dX4_cutQuotient_13 : decode cX4_cutQuotient 13 = .ok (.lreturn, 1) := by decide +kernel
set_option maxRecDepth 20000 in
theorem ggX4_partsFor_X4_cutQuotient : GoodIn wsX4_partsFor wsX4_cutQuotient := goodIn_r _ [6] (by decide +kernel) (by decide +kernel)
set_option maxRecDepth 20000 in
theorem gX4_partsFor_X4_cutQuotient : GoodIn wsX4_partsFor (va_wsS RX4 236 yX4_cutQuotient wsX4_cutQuotient) := goodIn_app (goodIn_of _ (by decide +kernel)) ggX4_partsFor_X4_cutQuotient
theorem dX4_partsFor_0 : decode cX4_partsFor 0 = .ok (.lload_n 0, 1) := by decide +kernel
theorem dX4_partsFor_1 : decode cX4_partsFor 1 = .ok (.ldc2_w 234, 3) := by decide +kernel
theorem dX4_partsFor_4 : decode cX4_partsFor 4 = .ok (.lmul, 1) := by decide +kernel
theorem dX4_partsFor_5 : decode cX4_partsFor 5 = .ok (.aload_n 2, 1) := by decide +kernel
theorem dX4_partsFor_6 : decode cX4_partsFor 6 = .ok (.getfield 40, 3) := by decide +kernel
theorem dX4_partsFor_9 : decode cX4_partsFor 9 = .ok (.i2l, 1) := by decide +kernel
theorem dX4_partsFor_10 : decode cX4_partsFor 10 = .ok (.invokestatic 236, 3) := by decide +kernel
theorem dX4_partsFor_13 : decode cX4_partsFor 13 = .ok (.lreturn, 1) := by decide +kernel
theorem dX4_amountFor_0 : decode cX4_amountFor 0 = .ok (.lload_n 0, 1) := by decide +kernel
theorem dX4_amountFor_1 : decode cX4_amountFor 1 = .ok (.aload_n 2, 1) := by decide +kernel
theorem dX4_amountFor_2 : decode cX4_amountFor 2 = .ok (.getfield 40, 3) := by decide +kernel
theorem dX4_amountFor_5 : decode cX4_amountFor 5 = .ok (.i2l, 1) := by decide +kernel
theorem dX4_amountFor_6 : decode cX4_amountFor 6 = .ok (.lmul, 1) := by decide +kernel
theorem dX4_amountFor_7 : decode cX4_amountFor 7 = .ok (.ldc2_w 234, 3) := by decide +kernel
theorem dX4_amountFor_10 : decode cX4_amountFor 10 = .ok (.ldiv, 1) := by decide +kernel
theorem dX4_amountFor_11 : decode cX4_amountFor 11 = .ok (.lreturn, 1) := by decide +kernel
theorem dX4_costsOf_0 : decode cX4_costsOf 0 = .ok (.lload_n 0, 1) := by decide +kernel
theorem dX4_costsOf_1 : decode cX4_costsOf 1 = .ok (.ldc2_w 240, 3) := by decide +kernel
theorem dX4_costsOf_4 : decode cX4_costsOf 4 = .ok (.lcmp, 1) := by decide +kernel
theorem dX4_costsOf_5 : decode cX4_costsOf 5 = .ok (.ifCond .ge 8, 3) := by decide +kernel
theorem dX4_costsOf_8 : decode cX4_costsOf 8 = .ok (.bipush 100, 2) := by decide +kernel
theorem dX4_costsOf_10 : decode cX4_costsOf 10 = .ok (.goto 18, 3) := by decide +kernel
theorem dX4_costsOf_13 : decode cX4_costsOf 13 = .ok (.lload_n 0, 1) := by decide +kernel
theorem dX4_costsOf_14 : decode cX4_costsOf 14 = .ok (.ldc2_w 242, 3) := by decide +kernel
theorem dX4_costsOf_17 : decode cX4_costsOf 17 = .ok (.lcmp, 1) := by decide +kernel
theorem dX4_costsOf_18 : decode cX4_costsOf 18 = .ok (.ifCond .ge 8, 3) := by decide +kernel
theorem dX4_costsOf_21 : decode cX4_costsOf 21 = .ok (.bipush 50, 2) := by decide +kernel
theorem dX4_costsOf_23 : decode cX4_costsOf 23 = .ok (.goto 5, 3) := by decide +kernel
theorem dX4_costsOf_26 : decode cX4_costsOf 26 = .ok (.bipush 20, 2) := by decide +kernel
theorem dX4_costsOf_28 : decode cX4_costsOf 28 = .ok (.istore_n 2, 1) := by decide +kernel
theorem dX4_costsOf_29 : decode cX4_costsOf 29 = .ok (.lload_n 0, 1) := by decide +kernel
theorem dX4_costsOf_30 : decode cX4_costsOf 30 = .ok (.iload_n 2, 1) := by decide +kernel
theorem dX4_costsOf_31 : decode cX4_costsOf 31 = .ok (.i2l, 1) := by decide +kernel
theorem dX4_costsOf_32 : decode cX4_costsOf 32 = .ok (.lmul, 1) := by decide +kernel
theorem dX4_costsOf_33 : decode cX4_costsOf 33 = .ok (.ldc2_w 240, 3) := by decide +kernel
theorem dX4_costsOf_36 : decode cX4_costsOf 36 = .ok (.ldiv, 1) := by decide +kernel
theorem dX4_costsOf_37 : decode cX4_costsOf 37 = .ok (.lreturn, 1) := by decide +kernel
set_option maxRecDepth 20000 in
theorem ggX4_worthOf_X4_amountFor : GoodIn wsX4_worthOf wsX4_amountFor := goodIn_r _ [6, 7, 8, 13, 14, 15, 16] (by decide +kernel) (by decide +kernel)
set_option maxRecDepth 20000 in
theorem gX4_worthOf_X4_amountFor : GoodIn wsX4_worthOf (va_wsS RX4 112 yX4_amountFor wsX4_amountFor) := goodIn_app (goodIn_of _ (by decide +kernel)) ggX4_worthOf_X4_amountFor
theorem dX4_worthOf_0 : decode cX4_worthOf 0 = .ok (.aload_n 0, 1) := by decide +kernel
theorem dX4_worthOf_1 : decode cX4_worthOf 1 = .ok (.getfield 109, 3) := by decide +kernel
theorem dX4_worthOf_4 : decode cX4_worthOf 4 = .ok (.aload_n 0, 1) := by decide +kernel
theorem dX4_worthOf_5 : decode cX4_worthOf 5 = .ok (.getfield 92, 3) := by decide +kernel
theorem dX4_worthOf_8 : decode cX4_worthOf 8 = .ok (.invokestatic 112, 3) := by decide +kernel
theorem dX4_worthOf_11 : decode cX4_worthOf 11 = .ok (.lreturn, 1) := by decide +kernel
set_option maxRecDepth 20000 in
theorem ggX4_wealthOf_Jx4a65c_size_8abf5 : GoodIn wsX4_wealthOf wsJx4a65c_size_8abf5 := goodIn_r _ [8, 9, 43, 44, 45] (by decide +kernel) (by decide +kernel)
set_option maxRecDepth 20000 in
theorem gX4_wealthOf_Jx4a65c_size_8abf5 : GoodIn wsX4_wealthOf (wsV RX4 44 RJx4a65c yJx4a65c_size_8abf5 wsJx4a65c_size_8abf5) := goodIn_app (goodIn_of _ (by decide +kernel)) ggX4_wealthOf_Jx4a65c_size_8abf5
set_option maxRecDepth 20000 in
theorem ggX4_wealthOf_Jx4a65c_get_915e3 : GoodIn wsX4_wealthOf wsJx4a65c_get_915e3 := goodIn_r _ [13, 9, 14, 15, 16, 17, 18, 19, 20, 21, 22, 23, 24, 7, 25, 26, 43, 44, 45] (by decide +kernel) (by decide +kernel)
set_option maxRecDepth 20000 in
theorem gX4_wealthOf_Jx4a65c_get_915e3 : GoodIn wsX4_wealthOf (wsV RX4 60 RJx4a65c yJx4a65c_get_915e3 wsJx4a65c_get_915e3) := goodIn_app (goodIn_of _ (by decide +kernel)) ggX4_wealthOf_Jx4a65c_get_915e3
set_option maxRecDepth 20000 in
theorem ggX4_wealthOf_X4_worthOf : GoodIn wsX4_wealthOf wsX4_worthOf := goodIn_r _ [30, 31, 32, 33, 34, 29, 35, 36, 37, 46, 47, 48, 49, 50, 51, 52, 53] (by decide +kernel) (by decide +kernel)
set_option maxRecDepth 20000 in
theorem gX4_wealthOf_X4_worthOf : GoodIn wsX4_wealthOf (va_wsS RX4 244 yX4_worthOf wsX4_worthOf) := goodIn_app (goodIn_of _ (by decide +kernel)) ggX4_wealthOf_X4_worthOf
theorem dX4_wealthOf_0 : decode cX4_wealthOf 0 = .ok (.aload_n 0, 1) := by decide +kernel
theorem dX4_wealthOf_1 : decode cX4_wealthOf 1 = .ok (.getfield 73, 3) := by decide +kernel
theorem dX4_wealthOf_4 : decode cX4_wealthOf 4 = .ok (.lstore_n 1, 1) := by decide +kernel
theorem dX4_wealthOf_5 : decode cX4_wealthOf 5 = .ok (.iconst 0, 1) := by decide +kernel
theorem dX4_wealthOf_6 : decode cX4_wealthOf 6 = .ok (.istore_n 3, 1) := by decide +kernel
theorem dX4_wealthOf_7 : decode cX4_wealthOf 7 = .ok (.iload_n 3, 1) := by decide +kernel
theorem dX4_wealthOf_8 : decode cX4_wealthOf 8 = .ok (.aload_n 0, 1) := by decide +kernel
theorem dX4_wealthOf_9 : decode cX4_wealthOf 9 = .ok (.getfield 55, 3) := by decide +kernel
theorem dX4_wealthOf_12 : decode cX4_wealthOf 12 = .ok (.invokevirtual 44, 3) := by decide +kernel
theorem dX4_wealthOf_15 : decode cX4_wealthOf 15 = .ok (.if_icmp .ge 26, 3) := by decide +kernel
theorem dX4_wealthOf_18 : decode cX4_wealthOf 18 = .ok (.lload_n 1, 1) := by decide +kernel
theorem dX4_wealthOf_19 : decode cX4_wealthOf 19 = .ok (.aload_n 0, 1) := by decide +kernel
theorem dX4_wealthOf_20 : decode cX4_wealthOf 20 = .ok (.getfield 55, 3) := by decide +kernel
theorem dX4_wealthOf_23 : decode cX4_wealthOf 23 = .ok (.iload_n 3, 1) := by decide +kernel
theorem dX4_wealthOf_24 : decode cX4_wealthOf 24 = .ok (.invokevirtual 60, 3) := by decide +kernel
theorem dX4_wealthOf_27 : decode cX4_wealthOf 27 = .ok (.checkcast 58, 3) := by decide +kernel
theorem dX4_wealthOf_30 : decode cX4_wealthOf 30 = .ok (.invokestatic 244, 3) := by decide +kernel
theorem dX4_wealthOf_33 : decode cX4_wealthOf 33 = .ok (.ladd, 1) := by decide +kernel
theorem dX4_wealthOf_34 : decode cX4_wealthOf 34 = .ok (.lstore_n 1, 1) := by decide +kernel
theorem dX4_wealthOf_35 : decode cX4_wealthOf 35 = .ok (.iinc 3 1, 3) := by decide +kernel
theorem dX4_wealthOf_38 : decode cX4_wealthOf 38 = .ok (.goto (-31), 3) := by decide +kernel
theorem dX4_wealthOf_41 : decode cX4_wealthOf 41 = .ok (.lload_n 1, 1) := by decide +kernel
theorem dX4_wealthOf_42 : decode cX4_wealthOf 42 = .ok (.lreturn, 1) := by decide +kernel
theorem dX4_targetOf_0 : decode cX4_targetOf 0 = .ok (.lload_n 1, 1) := by decide +kernel
theorem dX4_targetOf_1 : decode cX4_targetOf 1 = .ok (.aload_n 0, 1) := by decide +kernel
theorem dX4_targetOf_2 : decode cX4_targetOf 2 = .ok (.getfield 89, 3) := by decide +kernel
theorem dX4_targetOf_5 : decode cX4_targetOf 5 = .ok (.i2l, 1) := by decide +kernel
theorem dX4_targetOf_6 : decode cX4_targetOf 6 = .ok (.lmul, 1) := by decide +kernel
theorem dX4_targetOf_7 : decode cX4_targetOf 7 = .ok (.ldc2_w 248, 3) := by decide +kernel
theorem dX4_targetOf_10 : decode cX4_targetOf 10 = .ok (.ldiv, 1) := by decide +kernel
theorem dX4_targetOf_11 : decode cX4_targetOf 11 = .ok (.lreturn, 1) := by decide +kernel
set_option maxRecDepth 20000 in
theorem ggX4_sellTooMuch_X4_worthOf : GoodIn wsX4_sellTooMuch wsX4_worthOf := goodIn_r _ [5, 6, 1, 7, 8, 4, 9, 10, 11, 174, 175, 176, 177, 178, 179, 180, 181] (by decide +kernel) (by decide +kernel)
set_option maxRecDepth 20000 in
theorem gX4_sellTooMuch_X4_worthOf : GoodIn wsX4_sellTooMuch (va_wsS RX4 244 yX4_worthOf wsX4_worthOf) := goodIn_app (goodIn_of _ (by decide +kernel)) ggX4_sellTooMuch_X4_worthOf
set_option maxRecDepth 20000 in
theorem ggX4_sellTooMuch_X4_targetOf : GoodIn wsX4_sellTooMuch wsX4_targetOf := goodIn_r _ [14, 15, 16, 174, 175, 176, 177] (by decide +kernel) (by decide +kernel)
set_option maxRecDepth 20000 in
theorem gX4_sellTooMuch_X4_targetOf : GoodIn wsX4_sellTooMuch (va_wsS RX4 250 yX4_targetOf wsX4_targetOf) := goodIn_app (goodIn_of _ (by decide +kernel)) ggX4_sellTooMuch_X4_targetOf
set_option maxRecDepth 20000 in
theorem ggX4_sellTooMuch_X4_partsFor : GoodIn wsX4_sellTooMuch wsX4_partsFor := goodIn_r _ [19, 11, 10, 20, 21, 4, 22, 178, 179, 180, 181] (by decide +kernel) (by decide +kernel)
set_option maxRecDepth 20000 in
theorem gX4_sellTooMuch_X4_partsFor : GoodIn wsX4_sellTooMuch (va_wsS RX4 96 yX4_partsFor wsX4_partsFor) := goodIn_app (goodIn_of _ (by decide +kernel)) ggX4_sellTooMuch_X4_partsFor
set_option maxRecDepth 20000 in
theorem ggX4_sellTooMuch_X4_amountFor : GoodIn wsX4_sellTooMuch wsX4_amountFor := goodIn_r _ [9, 10, 11, 178, 179, 180, 181] (by decide +kernel) (by decide +kernel)
set_option maxRecDepth 20000 in
theorem gX4_sellTooMuch_X4_amountFor : GoodIn wsX4_sellTooMuch (va_wsS RX4 112 yX4_amountFor wsX4_amountFor) := goodIn_app (goodIn_of _ (by decide +kernel)) ggX4_sellTooMuch_X4_amountFor
set_option maxRecDepth 20000 in
theorem ggX4_sellTooMuch_X4_makeTrade : GoodIn wsX4_sellTooMuch wsX4_makeTrade := goodIn_r _ [26, 27, 28, 29, 30, 31, 32, 33, 34, 35, 36, 37, 38, 39, 40, 4, 41, 42, 43, 44, 45, 46, 47, 48, 49, 50, 51, 52, 53, 54, 55, 56, 57, 58, 59, 60, 61, 62, 63, 64, 65, 66, 67, 68, 69, 70, 71, 72, 73, 74, 75, 76, 77, 78, 79, 80, 81, 82, 83, 84, 85, 86, 87, 88, 89, 90, 91, 92, 93, 94, 95, 96, 97, 98, 99, 100, 101, 102, 103, 104, 105, 106, 107, 108, 109, 110, 111, 112, 113, 114, 115, 116, 117, 118, 119, 120, 121, 122, 1, 123, 124, 125, 6, 126, 127, 11, 128, 129, 130, 131, 132, 10, 133, 134, 135, 136, 137, 138, 139, 140, 141, 142, 143, 144, 145, 146, 147, 148, 149, 150, 151, 152, 153, 154, 155, 156, 157, 158, 159, 160, 161, 162, 163, 164, 165, 166, 167, 168, 169, 20, 21, 22, 170, 171, 172, 173, 182, 183, 184, 185, 186, 187, 188, 189, 190, 191, 192, 193, 194, 195, 196, 197, 198, 174, 175, 176, 177, 199, 200, 201, 202, 203, 178, 179, 180, 181] (by decide +kernel) (by decide +kernel)
set_option maxRecDepth 20000 in
theorem gX4_sellTooMuch_X4_makeTrade : GoodIn wsX4_sellTooMuch (wsV RX4 104 RX4 yX4_makeTrade wsX4_makeTrade) := goodIn_app (goodIn_of _ (by decide +kernel)) ggX4_sellTooMuch_X4_makeTrade
theorem dX4_sellTooMuch_0 : decode cX4_sellTooMuch 0 = .ok (.aload_n 1, 1) := by decide +kernel
theorem dX4_sellTooMuch_1 : decode cX4_sellTooMuch 1 = .ok (.invokestatic 244, 3) := by decide +kernel
theorem dX4_sellTooMuch_4 : decode cX4_sellTooMuch 4 = .ok (.aload_n 1, 1) := by decide +kernel
theorem dX4_sellTooMuch_5 : decode cX4_sellTooMuch 5 = .ok (.lload_n 2, 1) := by decide +kernel
theorem dX4_sellTooMuch_6 : decode cX4_sellTooMuch 6 = .ok (.invokestatic 250, 3) := by decide +kernel
theorem dX4_sellTooMuch_9 : decode cX4_sellTooMuch 9 = .ok (.lsub, 1) := by decide +kernel
theorem dX4_sellTooMuch_10 : decode cX4_sellTooMuch 10 = .ok (.lstore 4, 2) := by decide +kernel
theorem dX4_sellTooMuch_12 : decode cX4_sellTooMuch 12 = .ok (.lload 4, 2) := by decide +kernel
theorem dX4_sellTooMuch_14 : decode cX4_sellTooMuch 14 = .ok (.lconst 0, 1) := by decide +kernel
theorem dX4_sellTooMuch_15 : decode cX4_sellTooMuch 15 = .ok (.lcmp, 1) := by decide +kernel
theorem dX4_sellTooMuch_16 : decode cX4_sellTooMuch 16 = .ok (.ifCond .gt 4, 3) := by decide +kernel
theorem dX4_sellTooMuch_19 : decode cX4_sellTooMuch 19 = .ok (.return_, 1) := by decide +kernel
theorem dX4_sellTooMuch_20 : decode cX4_sellTooMuch 20 = .ok (.lload 4, 2) := by decide +kernel
theorem dX4_sellTooMuch_22 : decode cX4_sellTooMuch 22 = .ok (.aload_n 1, 1) := by decide +kernel
theorem dX4_sellTooMuch_23 : decode cX4_sellTooMuch 23 = .ok (.getfield 92, 3) := by decide +kernel
theorem dX4_sellTooMuch_26 : decode cX4_sellTooMuch 26 = .ok (.invokestatic 96, 3) := by decide +kernel
theorem dX4_sellTooMuch_29 : decode cX4_sellTooMuch 29 = .ok (.lstore 6, 2) := by decide +kernel
theorem dX4_sellTooMuch_31 : decode cX4_sellTooMuch 31 = .ok (.lload 6, 2) := by decide +kernel
theorem dX4_sellTooMuch_33 : decode cX4_sellTooMuch 33 = .ok (.aload_n 1, 1) := by decide +kernel
theorem dX4_sellTooMuch_34 : decode cX4_sellTooMuch 34 = .ok (.getfield 92, 3) := by decide +kernel
theorem dX4_sellTooMuch_37 : decode cX4_sellTooMuch 37 = .ok (.invokestatic 112, 3) := by decide +kernel
theorem dX4_sellTooMuch_40 : decode cX4_sellTooMuch 40 = .ok (.lstore 8, 2) := by decide +kernel
theorem dX4_sellTooMuch_42 : decode cX4_sellTooMuch 42 = .ok (.lload 6, 2) := by decide +kernel
theorem dX4_sellTooMuch_44 : decode cX4_sellTooMuch 44 = .ok (.lconst 0, 1) := by decide +kernel
theorem dX4_sellTooMuch_45 : decode cX4_sellTooMuch 45 = .ok (.lcmp, 1) := by decide +kernel
theorem dX4_sellTooMuch_46 : decode cX4_sellTooMuch 46 = .ok (.ifCond .le 21, 3) := by decide +kernel
theorem dX4_sellTooMuch_49 : decode cX4_sellTooMuch 49 = .ok (.lload 8, 2) := by decide +kernel
theorem dX4_sellTooMuch_51 : decode cX4_sellTooMuch 51 = .ok (.lconst 0, 1) := by decide +kernel
theorem dX4_sellTooMuch_52 : decode cX4_sellTooMuch 52 = .ok (.lcmp, 1) := by decide +kernel
theorem dX4_sellTooMuch_53 : decode cX4_sellTooMuch 53 = .ok (.ifCond .le 14, 3) := by decide +kernel
theorem dX4_sellTooMuch_56 : decode cX4_sellTooMuch 56 = .ok (.aload_n 0, 1) := by decide +kernel
theorem dX4_sellTooMuch_57 : decode cX4_sellTooMuch 57 = .ok (.aload_n 1, 1) := by decide +kernel
theorem dX4_sellTooMuch_58 : decode cX4_sellTooMuch 58 = .ok (.lload 6, 2) := by decide +kernel
theorem dX4_sellTooMuch_60 : decode cX4_sellTooMuch 60 = .ok (.lneg, 1) := by decide +kernel
theorem dX4_sellTooMuch_61 : decode cX4_sellTooMuch 61 = .ok (.lload 8, 2) := by decide +kernel
theorem dX4_sellTooMuch_63 : decode cX4_sellTooMuch 63 = .ok (.invokevirtual 104, 3) := by decide +kernel
theorem dX4_sellTooMuch_66 : decode cX4_sellTooMuch 66 = .ok (.pop, 1) := by decide +kernel
theorem dX4_sellTooMuch_67 : decode cX4_sellTooMuch 67 = .ok (.return_, 1) := by decide +kernel
set_option maxRecDepth 20000 in
theorem ggX4_buyWhatLacks_X4_targetOf : GoodIn wsX4_buyWhatLacks wsX4_targetOf := goodIn_r _ [12, 13, 3, 174, 175, 176, 177] (by decide +kernel) (by decide +kernel)
set_option maxRecDepth 20000 in
theorem gX4_buyWhatLacks_X4_targetOf : GoodIn wsX4_buyWhatLacks (va_wsS RX4 250 yX4_targetOf wsX4_targetOf) := goodIn_app (goodIn_of _ (by decide +kernel)) ggX4_buyWhatLacks_X4_targetOf
set_option maxRecDepth 20000 in
theorem ggX4_buyWhatLacks_X4_worthOf : GoodIn wsX4_buyWhatLacks wsX4_worthOf := goodIn_r _ [16, 17, 8, 18, 19, 11, 20, 21, 22, 174, 175, 176, 177, 183, 184, 185, 186] (by decide +kernel) (by decide +kernel)
set_option maxRecDepth 20000 in
theorem gX4_buyWhatLacks_X4_worthOf : GoodIn wsX4_buyWhatLacks (va_wsS RX4 244 yX4_worthOf wsX4_worthOf) := goodIn_app (goodIn_of _ (by decide +kernel)) ggX4_buyWhatLacks_X4_worthOf
set_option maxRecDepth 20000 in
theorem ggX4_buyWhatLacks_X4_partsFor : GoodIn wsX4_buyWhatLacks wsX4_partsFor := goodIn_r _ [25, 22, 21, 26, 27, 11, 28, 183, 184, 185, 186] (by decide +kernel) (by decide +kernel)
set_option maxRecDepth 20000 in
theorem gX4_buyWhatLacks_X4_partsFor : GoodIn wsX4_buyWhatLacks (va_wsS RX4 96 yX4_partsFor wsX4_partsFor) := goodIn_app (goodIn_of _ (by decide +kernel)) ggX4_buyWhatLacks_X4_partsFor
set_option maxRecDepth 20000 in
theorem ggX4_buyWhatLacks_X4_makeTrade : GoodIn wsX4_buyWhatLacks wsX4_makeTrade := goodIn_r _ [32, 33, 34, 35, 36, 37, 38, 39, 40, 41, 42, 43, 44, 45, 46, 11, 47, 48, 49, 50, 51, 52, 53, 54, 55, 56, 57, 58, 59, 60, 61, 62, 63, 64, 65, 66, 67, 68, 69, 70, 71, 72, 73, 74, 75, 76, 77, 78, 79, 80, 81, 82, 83, 84, 6, 85, 86, 87, 88, 89, 90, 91, 92, 93, 94, 95, 96, 97, 98, 99, 100, 101, 102, 103, 104, 105, 106, 107, 108, 109, 110, 111, 112, 113, 114, 115, 116, 117, 118, 119, 120, 121, 122, 123, 124, 125, 126, 127, 8, 1, 2, 128, 17, 129, 130, 22, 131, 132, 133, 134, 135, 21, 136, 137, 138, 139, 140, 141, 142, 143, 144, 145, 146, 147, 148, 149, 150, 151, 152, 153, 4, 5, 7, 154, 155, 156, 157, 158, 159, 160, 161, 162, 163, 164, 165, 166, 167, 168, 169, 26, 27, 28, 170, 171, 172, 173, 187, 188, 189, 190, 191, 192, 193, 194, 195, 196, 197, 198, 199, 200, 201, 202, 203, 174, 175, 176, 177, 178, 179, 180, 181, 182, 183, 184, 185, 186] (by decide +kernel) (by decide +kernel)
set_option maxRecDepth 20000 in
theorem gX4_buyWhatLacks_X4_makeTrade : GoodIn wsX4_buyWhatLacks (wsV RX4 104 RX4 yX4_makeTrade wsX4_makeTrade) := goodIn_app (goodIn_of _ (by decide +kernel)) ggX4_buyWhatLacks_X4_makeTrade
theorem dX4_buyWhatLacks_0 : decode cX4_buyWhatLacks 0 = .ok (.aload_n 1, 1) := by decide +kernel
theorem dX4_buyWhatLacks_1 : decode cX4_buyWhatLacks 1 = .ok (.lload_n 2, 1) := by decide +kernel
theorem dX4_buyWhatLacks_2 : decode cX4_buyWhatLacks 2 = .ok (.invokestatic 250, 3) := by decide +kernel
theorem dX4_buyWhatLacks_5 : decode cX4_buyWhatLacks 5 = .ok (.aload_n 1, 1) := by decide +kernel
theorem dX4_buyWhatLacks_6 : decode cX4_buyWhatLacks 6 = .ok (.invokestatic 244, 3) := by decide +kernel
theorem dX4_buyWhatLacks_9 : decode cX4_buyWhatLacks 9 = .ok (.lsub, 1) := by decide +kernel
theorem dX4_buyWhatLacks_10 : decode cX4_buyWhatLacks 10 = .ok (.lstore 4, 2) := by decide +kernel
theorem dX4_buyWhatLacks_12 : decode cX4_buyWhatLacks 12 = .ok (.lload 4, 2) := by decide +kernel
theorem dX4_buyWhatLacks_14 : decode cX4_buyWhatLacks 14 = .ok (.lconst 0, 1) := by decide +kernel
theorem dX4_buyWhatLacks_15 : decode cX4_buyWhatLacks 15 = .ok (.lcmp, 1) := by decide +kernel
theorem dX4_buyWhatLacks_16 : decode cX4_buyWhatLacks 16 = .ok (.ifCond .gt 4, 3) := by decide +kernel
theorem dX4_buyWhatLacks_19 : decode cX4_buyWhatLacks 19 = .ok (.return_, 1) := by decide +kernel
theorem dX4_buyWhatLacks_20 : decode cX4_buyWhatLacks 20 = .ok (.aload_n 1, 1) := by decide +kernel
theorem dX4_buyWhatLacks_21 : decode cX4_buyWhatLacks 21 = .ok (.getfield 81, 3) := by decide +kernel
theorem dX4_buyWhatLacks_24 : decode cX4_buyWhatLacks 24 = .ok (.getfield 73, 3) := by decide +kernel
theorem dX4_buyWhatLacks_27 : decode cX4_buyWhatLacks 27 = .ok (.lstore 6, 2) := by decide +kernel
theorem dX4_buyWhatLacks_29 : decode cX4_buyWhatLacks 29 = .ok (.lload 4, 2) := by decide +kernel
theorem dX4_buyWhatLacks_31 : decode cX4_buyWhatLacks 31 = .ok (.lload 6, 2) := by decide +kernel
theorem dX4_buyWhatLacks_33 : decode cX4_buyWhatLacks 33 = .ok (.lload 6, 2) := by decide +kernel
theorem dX4_buyWhatLacks_35 : decode cX4_buyWhatLacks 35 = .ok (.ldc2_w 248, 3) := by decide +kernel
theorem dX4_buyWhatLacks_38 : decode cX4_buyWhatLacks 38 = .ok (.ldiv, 1) := by decide +kernel
theorem dX4_buyWhatLacks_39 : decode cX4_buyWhatLacks 39 = .ok (.lsub, 1) := by decide +kernel
theorem dX4_buyWhatLacks_40 : decode cX4_buyWhatLacks 40 = .ok (.invokestatic 254, 3) := by decide +kernel
theorem dX4_buyWhatLacks_43 : decode cX4_buyWhatLacks 43 = .ok (.lstore 8, 2) := by decide +kernel
theorem dX4_buyWhatLacks_45 : decode cX4_buyWhatLacks 45 = .ok (.lload 8, 2) := by decide +kernel
theorem dX4_buyWhatLacks_47 : decode cX4_buyWhatLacks 47 = .ok (.aload_n 1, 1) := by decide +kernel
theorem dX4_buyWhatLacks_48 : decode cX4_buyWhatLacks 48 = .ok (.getfield 92, 3) := by decide +kernel
theorem dX4_buyWhatLacks_51 : decode cX4_buyWhatLacks 51 = .ok (.invokestatic 96, 3) := by decide +kernel
theorem dX4_buyWhatLacks_54 : decode cX4_buyWhatLacks 54 = .ok (.lstore 10, 2) := by decide +kernel
theorem dX4_buyWhatLacks_56 : decode cX4_buyWhatLacks 56 = .ok (.lload 10, 2) := by decide +kernel
theorem dX4_buyWhatLacks_58 : decode cX4_buyWhatLacks 58 = .ok (.lconst 0, 1) := by decide +kernel
theorem dX4_buyWhatLacks_59 : decode cX4_buyWhatLacks 59 = .ok (.lcmp, 1) := by decide +kernel
theorem dX4_buyWhatLacks_60 : decode cX4_buyWhatLacks 60 = .ok (.ifCond .le 20, 3) := by decide +kernel
theorem dX4_buyWhatLacks_63 : decode cX4_buyWhatLacks 63 = .ok (.lload 8, 2) := by decide +kernel
theorem dX4_buyWhatLacks_65 : decode cX4_buyWhatLacks 65 = .ok (.lconst 0, 1) := by decide +kernel
theorem dX4_buyWhatLacks_66 : decode cX4_buyWhatLacks 66 = .ok (.lcmp, 1) := by decide +kernel
theorem dX4_buyWhatLacks_67 : decode cX4_buyWhatLacks 67 = .ok (.ifCond .le 13, 3) := by decide +kernel
theorem dX4_buyWhatLacks_70 : decode cX4_buyWhatLacks 70 = .ok (.aload_n 0, 1) := by decide +kernel
theorem dX4_buyWhatLacks_71 : decode cX4_buyWhatLacks 71 = .ok (.aload_n 1, 1) := by decide +kernel
theorem dX4_buyWhatLacks_72 : decode cX4_buyWhatLacks 72 = .ok (.lload 10, 2) := by decide +kernel
theorem dX4_buyWhatLacks_74 : decode cX4_buyWhatLacks 74 = .ok (.lload 8, 2) := by decide +kernel
theorem dX4_buyWhatLacks_76 : decode cX4_buyWhatLacks 76 = .ok (.invokevirtual 104, 3) := by decide +kernel
theorem dX4_buyWhatLacks_79 : decode cX4_buyWhatLacks 79 = .ok (.pop, 1) := by decide +kernel
theorem dX4_buyWhatLacks_80 : decode cX4_buyWhatLacks 80 = .ok (.return_, 1) := by decide +kernel
set_option maxRecDepth 20000 in
theorem ggX4_makeTrade_Jx4a65c_size_8abf5 : GoodIn wsX4_makeTrade wsJx4a65c_size_8abf5 := goodIn_r _ [11, 12, 170, 171, 172] (by decide +kernel) (by decide +kernel)
set_option maxRecDepth 20000 in
theorem gX4_makeTrade_Jx4a65c_size_8abf5 : GoodIn wsX4_makeTrade (wsV RX4 44 RJx4a65c yJx4a65c_size_8abf5 wsJx4a65c_size_8abf5) := goodIn_app (goodIn_of _ (by decide +kernel)) ggX4_makeTrade_Jx4a65c_size_8abf5
set_option maxRecDepth 20000 in
theorem ggX4_makeTrade_X4_costsOf : GoodIn wsX4_makeTrade wsX4_costsOf := goodIn_r _ [16, 17, 18] (by decide +kernel) (by decide +kernel)
set_option maxRecDepth 20000 in
theorem gX4_makeTrade_X4_costsOf : GoodIn wsX4_makeTrade (va_wsS RX4 100 yX4_costsOf wsX4_costsOf) := goodIn_app (goodIn_of _ (by decide +kernel)) ggX4_makeTrade_X4_costsOf
set_option maxRecDepth 20000 in
theorem ggX4_makeTrade_X3_init : GoodIn wsX4_makeTrade wsX3_init := goodIn_r _ [21, 22, 23, 24, 25, 26, 27, 28, 29, 30, 31, 156, 157, 158, 159, 160, 161, 162, 163, 164] (by decide +kernel) (by decide +kernel)
set_option maxRecDepth 20000 in
theorem gX4_makeTrade_X3_init : GoodIn wsX4_makeTrade (wsX3_init) := ggX4_makeTrade_X3_init
set_option maxRecDepth 20000 in
theorem ggX4_makeTrade_Jx4a65c_add_9ea2d : GoodIn wsX4_makeTrade wsJx4a65c_add_9ea2d := goodIn_r _ [35, 36, 37, 38, 12, 39, 40, 41, 10, 42, 43, 44, 45, 46, 47, 48, 49, 50, 51, 52, 53, 54, 55, 56, 57, 58, 59, 60, 61, 62, 63, 64, 65, 66, 67, 68, 69, 70, 71, 72, 73, 74, 75, 76, 77, 78, 79, 80, 81, 82, 83, 84, 85, 170, 171, 172] (by decide +kernel) (by decide +kernel)
set_option maxRecDepth 20000 in
theorem gX4_makeTrade_Jx4a65c_add_9ea2d : GoodIn wsX4_makeTrade (wsV RX4 27 RJx4a65c yJx4a65c_add_9ea2d wsJx4a65c_add_9ea2d) := goodIn_app (goodIn_of _ (by decide +kernel)) ggX4_makeTrade_Jx4a65c_add_9ea2d
set_option maxRecDepth 20000 in
theorem ggX4_makeTrade_X3_paid : GoodIn wsX4_makeTrade wsX3_paid := goodIn_r _ [89, 30, 29, 90, 91, 92, 3, 93, 28, 156, 157, 158, 159, 160, 161, 162, 163, 164] (by decide +kernel) (by decide +kernel)
set_option maxRecDepth 20000 in
theorem gX4_makeTrade_X3_paid : GoodIn wsX4_makeTrade (wsV RX4 149 RX3 yX3_paid wsX3_paid) := goodIn_app (goodIn_of _ (by decide +kernel)) ggX4_makeTrade_X3_paid
set_option maxRecDepth 20000 in
theorem ggX4_makeTrade_X4_exchange : GoodIn wsX4_makeTrade wsX4_exchange := goodIn_r _ [97, 98, 99, 100, 101, 102, 103, 104, 105, 106, 107, 108, 15, 109, 110, 111, 173, 174, 175, 176, 177, 178, 179, 180, 181, 165, 166, 167, 168, 169, 182, 183, 184, 185] (by decide +kernel) (by decide +kernel)
set_option maxRecDepth 20000 in
theorem gX4_makeTrade_X4_exchange : GoodIn wsX4_makeTrade (wsV RX4 153 RX4 yX4_exchange wsX4_exchange) := goodIn_app (goodIn_of _ (by decide +kernel)) ggX4_makeTrade_X4_exchange
set_option maxRecDepth 20000 in
theorem ggX4_makeTrade_X4_enterIntoLots : GoodIn wsX4_makeTrade wsX4_enterIntoLots := goodIn_r _ [115, 116, 99, 117, 118, 119, 120, 121, 91, 92, 3, 93, 28, 122, 123, 15, 124, 86, 87, 88, 89, 30, 29, 90, 125, 126, 127, 128, 6, 4, 129, 130, 131, 54, 132, 7, 8, 9, 10, 11, 12, 133, 134, 135, 136, 137, 138, 139, 140, 141, 142, 143, 144, 145, 146, 147, 148, 38, 149, 150, 151, 152, 153, 154, 155, 156, 157, 158, 159, 160, 161, 162, 163, 164, 173, 174, 175, 176, 165, 166, 167, 168, 169, 170, 171, 172, 177, 178, 179, 180, 181] (by decide +kernel) (by decide +kernel)
set_option maxRecDepth 20000 in
theorem gX4_makeTrade_X4_enterIntoLots : GoodIn wsX4_makeTrade (wsV RX4 262 RX4 yX4_enterIntoLots wsX4_enterIntoLots) := goodIn_app (goodIn_of _ (by decide +kernel)) ggX4_makeTrade_X4_enterIntoLots
theorem dX4_makeTrade_0 : decode cX4_makeTrade 0 = .ok (.new 135, 3) := by decide +kernel
theorem dX4_makeTrade_3 : decode cX4_makeTrade 3 = .ok (.dup, 1) := by decide +kernel
theorem dX4_makeTrade_4 : decode cX4_makeTrade 4 = .ok (.aload_n 0, 1) := by decide +kernel
theorem dX4_makeTrade_5 : decode cX4_makeTrade 5 = .ok (.getfield 19, 3) := by decide +kernel
theorem dX4_makeTrade_8 : decode cX4_makeTrade 8 = .ok (.invokevirtual 44, 3) := by decide +kernel
theorem dX4_makeTrade_11 : decode cX4_makeTrade 11 = .ok (.aload_n 1, 1) := by decide +kernel
theorem dX4_makeTrade_12 : decode cX4_makeTrade 12 = .ok (.aload_n 0, 1) := by decide +kernel
theorem dX4_makeTrade_13 : decode cX4_makeTrade 13 = .ok (.getfield 164, 3) := by decide +kernel
theorem dX4_makeTrade_16 : decode cX4_makeTrade 16 = .ok (.lload_n 2, 1) := by decide +kernel
theorem dX4_makeTrade_17 : decode cX4_makeTrade 17 = .ok (.lload 4, 2) := by decide +kernel
theorem dX4_makeTrade_19 : decode cX4_makeTrade 19 = .ok (.lload 4, 2) := by decide +kernel
theorem dX4_makeTrade_21 : decode cX4_makeTrade 21 = .ok (.invokestatic 100, 3) := by decide +kernel
theorem dX4_makeTrade_24 : decode cX4_makeTrade 24 = .ok (.invokespecial 259, 3) := by decide +kernel
theorem dX4_makeTrade_27 : decode cX4_makeTrade 27 = .ok (.astore 6, 2) := by decide +kernel
theorem dX4_makeTrade_29 : decode cX4_makeTrade 29 = .ok (.aload_n 0, 1) := by decide +kernel
theorem dX4_makeTrade_30 : decode cX4_makeTrade 30 = .ok (.getfield 19, 3) := by decide +kernel
theorem dX4_makeTrade_33 : decode cX4_makeTrade 33 = .ok (.aload 6, 2) := by decide +kernel
theorem dX4_makeTrade_35 : decode cX4_makeTrade 35 = .ok (.invokevirtual 27, 3) := by decide +kernel
theorem dX4_makeTrade_38 : decode cX4_makeTrade 38 = .ok (.pop, 1) := by decide +kernel
theorem dX4_makeTrade_39 : decode cX4_makeTrade 39 = .ok (.aload_n 0, 1) := by decide +kernel
theorem dX4_makeTrade_40 : decode cX4_makeTrade 40 = .ok (.aload_n 1, 1) := by decide +kernel
theorem dX4_makeTrade_41 : decode cX4_makeTrade 41 = .ok (.lload_n 2, 1) := by decide +kernel
theorem dX4_makeTrade_42 : decode cX4_makeTrade 42 = .ok (.aload 6, 2) := by decide +kernel
theorem dX4_makeTrade_44 : decode cX4_makeTrade 44 = .ok (.invokevirtual 149, 3) := by decide +kernel
theorem dX4_makeTrade_47 : decode cX4_makeTrade 47 = .ok (.invokevirtual 153, 3) := by decide +kernel
theorem dX4_makeTrade_50 : decode cX4_makeTrade 50 = .ok (.aload_n 0, 1) := by decide +kernel
theorem dX4_makeTrade_51 : decode cX4_makeTrade 51 = .ok (.aload 6, 2) := by decide +kernel
theorem dX4_makeTrade_53 : decode cX4_makeTrade 53 = .ok (.invokevirtual 262, 3) := by decide +kernel
theorem dX4_makeTrade_56 : decode cX4_makeTrade 56 = .ok (.aload 6, 2) := by decide +kernel
theorem dX4_makeTrade_58 : decode cX4_makeTrade 58 = .ok (.getfield 198, 3) := by decide +kernel
theorem dX4_makeTrade_61 : decode cX4_makeTrade 61 = .ok (.ireturn, 1) := by decide +kernel
set_option maxRecDepth 20000 in
theorem ggX4_exchange_X4_tradeUnits : GoodIn wsX4_exchange wsX4_tradeUnits := goodIn_r _ [13, 14, 6, 8, 4, 15, 30, 31, 32, 33, 25, 26, 27, 28, 29] (by decide +kernel) (by decide +kernel)
set_option maxRecDepth 20000 in
theorem gX4_exchange_X4_tradeUnits : GoodIn wsX4_exchange (wsV RX4 268 RX4 yX4_tradeUnits wsX4_tradeUnits) := goodIn_app (goodIn_of _ (by decide +kernel)) ggX4_exchange_X4_tradeUnits
theorem dX4_exchange_0 : decode cX4_exchange 0 = .ok (.aload_n 1, 1) := by decide +kernel
theorem dX4_exchange_1 : decode cX4_exchange 1 = .ok (.getfield 92, 3) := by decide +kernel
theorem dX4_exchange_4 : decode cX4_exchange 4 = .ok (.astore 6, 2) := by decide +kernel
theorem dX4_exchange_6 : decode cX4_exchange 6 = .ok (.aload_n 1, 1) := by decide +kernel
theorem dX4_exchange_7 : decode cX4_exchange 7 = .ok (.getfield 81, 3) := by decide +kernel
theorem dX4_exchange_10 : decode cX4_exchange 10 = .ok (.dup, 1) := by decide +kernel
theorem dX4_exchange_11 : decode cX4_exchange 11 = .ok (.getfield 73, 3) := by decide +kernel
theorem dX4_exchange_14 : decode cX4_exchange 14 = .ok (.lload 4, 2) := by decide +kernel
theorem dX4_exchange_16 : decode cX4_exchange 16 = .ok (.lsub, 1) := by decide +kernel
theorem dX4_exchange_17 : decode cX4_exchange 17 = .ok (.putfield 73, 3) := by decide +kernel
theorem dX4_exchange_20 : decode cX4_exchange 20 = .ok (.aload_n 0, 1) := by decide +kernel
theorem dX4_exchange_21 : decode cX4_exchange 21 = .ok (.dup, 1) := by decide +kernel
theorem dX4_exchange_22 : decode cX4_exchange 22 = .ok (.getfield 170, 3) := by decide +kernel
theorem dX4_exchange_25 : decode cX4_exchange 25 = .ok (.lload 4, 2) := by decide +kernel
theorem dX4_exchange_27 : decode cX4_exchange 27 = .ok (.ladd, 1) := by decide +kernel
theorem dX4_exchange_28 : decode cX4_exchange 28 = .ok (.putfield 170, 3) := by decide +kernel
theorem dX4_exchange_31 : decode cX4_exchange 31 = .ok (.aload_n 1, 1) := by decide +kernel
theorem dX4_exchange_32 : decode cX4_exchange 32 = .ok (.dup, 1) := by decide +kernel
theorem dX4_exchange_33 : decode cX4_exchange 33 = .ok (.getfield 109, 3) := by decide +kernel
theorem dX4_exchange_36 : decode cX4_exchange 36 = .ok (.lload_n 2, 1) := by decide +kernel
theorem dX4_exchange_37 : decode cX4_exchange 37 = .ok (.ladd, 1) := by decide +kernel
theorem dX4_exchange_38 : decode cX4_exchange 38 = .ok (.putfield 109, 3) := by decide +kernel
theorem dX4_exchange_41 : decode cX4_exchange 41 = .ok (.aload 6, 2) := by decide +kernel
theorem dX4_exchange_43 : decode cX4_exchange 43 = .ok (.dup, 1) := by decide +kernel
theorem dX4_exchange_44 : decode cX4_exchange 44 = .ok (.getfield 173, 3) := by decide +kernel
theorem dX4_exchange_47 : decode cX4_exchange 47 = .ok (.lload_n 2, 1) := by decide +kernel
theorem dX4_exchange_48 : decode cX4_exchange 48 = .ok (.lsub, 1) := by decide +kernel
theorem dX4_exchange_49 : decode cX4_exchange 49 = .ok (.putfield 173, 3) := by decide +kernel
theorem dX4_exchange_52 : decode cX4_exchange 52 = .ok (.aload 6, 2) := by decide +kernel
theorem dX4_exchange_54 : decode cX4_exchange 54 = .ok (.getfield 173, 3) := by decide +kernel
theorem dX4_exchange_57 : decode cX4_exchange 57 = .ok (.lconst 0, 1) := by decide +kernel
theorem dX4_exchange_58 : decode cX4_exchange 58 = .ok (.lcmp, 1) := by decide +kernel
theorem dX4_exchange_59 : decode cX4_exchange 59 = .ok (.ifCond .ge 22, 3) := by decide +kernel
theorem dX4_exchange_62 : decode cX4_exchange 62 = .ok (.aload_n 0, 1) := by decide +kernel
theorem dX4_exchange_63 : decode cX4_exchange 63 = .ok (.aload 6, 2) := by decide +kernel
theorem dX4_exchange_65 : decode cX4_exchange 65 = .ok (.ldc2_w 266, 3) := by decide +kernel
theorem dX4_exchange_68 : decode cX4_exchange 68 = .ok (.aload 6, 2) := by decide +kernel
theorem dX4_exchange_70 : decode cX4_exchange 70 = .ok (.getfield 173, 3) := by decide +kernel
theorem dX4_exchange_73 : decode cX4_exchange 73 = .ok (.lsub, 1) := by decide +kernel
theorem dX4_exchange_74 : decode cX4_exchange 74 = .ok (.ldc2_w 234, 3) := by decide +kernel
theorem dX4_exchange_77 : decode cX4_exchange 77 = .ok (.ldiv, 1) := by decide +kernel
theorem dX4_exchange_78 : decode cX4_exchange 78 = .ok (.invokevirtual 268, 3) := by decide +kernel
theorem dX4_exchange_81 : decode cX4_exchange 81 = .ok (.return_, 1) := by decide +kernel
theorem dX4_tradeUnits_0 : decode cX4_tradeUnits 0 = .ok (.aload_n 1, 1) := by decide +kernel
theorem dX4_tradeUnits_1 : decode cX4_tradeUnits 1 = .ok (.dup, 1) := by decide +kernel
theorem dX4_tradeUnits_2 : decode cX4_tradeUnits 2 = .ok (.getfield 176, 3) := by decide +kernel
theorem dX4_tradeUnits_5 : decode cX4_tradeUnits 5 = .ok (.lload_n 2, 1) := by decide +kernel
theorem dX4_tradeUnits_6 : decode cX4_tradeUnits 6 = .ok (.ladd, 1) := by decide +kernel
theorem dX4_tradeUnits_7 : decode cX4_tradeUnits 7 = .ok (.putfield 176, 3) := by decide +kernel
theorem dX4_tradeUnits_10 : decode cX4_tradeUnits 10 = .ok (.aload_n 1, 1) := by decide +kernel
theorem dX4_tradeUnits_11 : decode cX4_tradeUnits 11 = .ok (.dup, 1) := by decide +kernel
theorem dX4_tradeUnits_12 : decode cX4_tradeUnits 12 = .ok (.getfield 173, 3) := by decide +kernel
theorem dX4_tradeUnits_15 : decode cX4_tradeUnits 15 = .ok (.lload_n 2, 1) := by decide +kernel
theorem dX4_tradeUnits_16 : decode cX4_tradeUnits 16 = .ok (.ldc2_w 234, 3) := by decide +kernel
theorem dX4_tradeUnits_19 : decode cX4_tradeUnits 19 = .ok (.lmul, 1) := by decide +kernel
theorem dX4_tradeUnits_20 : decode cX4_tradeUnits 20 = .ok (.ladd, 1) := by decide +kernel
theorem dX4_tradeUnits_21 : decode cX4_tradeUnits 21 = .ok (.putfield 173, 3) := by decide +kernel
theorem dX4_tradeUnits_24 : decode cX4_tradeUnits 24 = .ok (.aload_n 0, 1) := by decide +kernel
theorem dX4_tradeUnits_25 : decode cX4_tradeUnits 25 = .ok (.dup, 1) := by decide +kernel
theorem dX4_tradeUnits_26 : decode cX4_tradeUnits 26 = .ok (.getfield 170, 3) := by decide +kernel
theorem dX4_tradeUnits_29 : decode cX4_tradeUnits 29 = .ok (.lload_n 2, 1) := by decide +kernel
theorem dX4_tradeUnits_30 : decode cX4_tradeUnits 30 = .ok (.aload_n 1, 1) := by decide +kernel
theorem dX4_tradeUnits_31 : decode cX4_tradeUnits 31 = .ok (.getfield 40, 3) := by decide +kernel
theorem dX4_tradeUnits_34 : decode cX4_tradeUnits 34 = .ok (.i2l, 1) := by decide +kernel
theorem dX4_tradeUnits_35 : decode cX4_tradeUnits 35 = .ok (.lmul, 1) := by decide +kernel
theorem dX4_tradeUnits_36 : decode cX4_tradeUnits 36 = .ok (.lsub, 1) := by decide +kernel
theorem dX4_tradeUnits_37 : decode cX4_tradeUnits 37 = .ok (.putfield 170, 3) := by decide +kernel
theorem dX4_tradeUnits_40 : decode cX4_tradeUnits 40 = .ok (.return_, 1) := by decide +kernel
set_option maxRecDepth 20000 in
theorem ggX4_enterIntoLots_X3_isSale : GoodIn wsX4_enterIntoLots wsX3_isSale := goodIn_r _ [11, 12, 65, 66, 67, 68, 69, 70, 71, 72, 73] (by decide +kernel) (by decide +kernel)
set_option maxRecDepth 20000 in
theorem gX4_enterIntoLots_X3_isSale : GoodIn wsX4_enterIntoLots (wsV RX4 272 RX3 yX3_isSale wsX3_isSale) := goodIn_app (goodIn_of _ (by decide +kernel)) ggX4_enterIntoLots_X3_isSale
set_option maxRecDepth 20000 in
theorem ggX4_enterIntoLots_X4_yearOf : GoodIn wsX4_enterIntoLots wsX4_yearOf := goodIn_r _ [16] (by decide +kernel) (by decide +kernel)
set_option maxRecDepth 20000 in
theorem gX4_enterIntoLots_X4_yearOf : GoodIn wsX4_enterIntoLots (va_wsS RX4 276 yX4_yearOf wsX4_yearOf) := goodIn_app (goodIn_of _ (by decide +kernel)) ggX4_enterIntoLots_X4_yearOf
set_option maxRecDepth 20000 in
theorem ggX4_enterIntoLots_X3_paid : GoodIn wsX4_enterIntoLots wsX3_paid := goodIn_r _ [20, 21, 22, 23, 8, 9, 10, 11, 12, 65, 66, 67, 68, 69, 70, 71, 72, 73] (by decide +kernel) (by decide +kernel)
set_option maxRecDepth 20000 in
theorem gX4_enterIntoLots_X3_paid : GoodIn wsX4_enterIntoLots (wsV RX4 149 RX3 yX3_paid wsX3_paid) := goodIn_app (goodIn_of _ (by decide +kernel)) ggX4_enterIntoLots_X3_paid
set_option maxRecDepth 20000 in
theorem ggX4_enterIntoLots_X4_takeCostFromLots : GoodIn wsX4_enterIntoLots wsX4_takeCostFromLots := goodIn_r _ [27, 4, 28, 29, 30, 1, 5, 31, 32, 33, 34, 6, 35, 36, 37, 38, 39, 40, 41, 42, 43, 44, 45, 46, 47, 48, 49, 50, 51, 52, 53, 54, 55, 56, 57, 58, 59, 15, 60, 65, 66, 67, 68, 69, 70, 71, 72, 73, 78, 79, 80, 81, 82, 83, 84, 85] (by decide +kernel) (by decide +kernel)
set_option maxRecDepth 20000 in
theorem gX4_enterIntoLots_X4_takeCostFromLots : GoodIn wsX4_enterIntoLots (wsV RX4 280 RX4 yX4_takeCostFromLots wsX4_takeCostFromLots) := goodIn_app (goodIn_of _ (by decide +kernel)) ggX4_enterIntoLots_X4_takeCostFromLots
set_option maxRecDepth 20000 in
theorem ggX4_enterIntoLots_X4_addGain : GoodIn wsX4_enterIntoLots wsX4_addGain := goodIn_r _ [63, 64, 86, 87, 88, 89, 90] (by decide +kernel) (by decide +kernel)
set_option maxRecDepth 20000 in
theorem gX4_enterIntoLots_X4_addGain : GoodIn wsX4_enterIntoLots (va_wsS RX4 284 yX4_addGain wsX4_addGain) := goodIn_app (goodIn_of _ (by decide +kernel)) ggX4_enterIntoLots_X4_addGain
theorem dX4_enterIntoLots_0 : decode cX4_enterIntoLots 0 = .ok (.aload_n 1, 1) := by decide +kernel
theorem dX4_enterIntoLots_1 : decode cX4_enterIntoLots 1 = .ok (.invokevirtual 272, 3) := by decide +kernel
theorem dX4_enterIntoLots_4 : decode cX4_enterIntoLots 4 = .ok (.ifCond .eq 34, 3) := by decide +kernel
theorem dX4_enterIntoLots_7 : decode cX4_enterIntoLots 7 = .ok (.aload_n 1, 1) := by decide +kernel
theorem dX4_enterIntoLots_8 : decode cX4_enterIntoLots 8 = .ok (.getfield 144, 3) := by decide +kernel
theorem dX4_enterIntoLots_11 : decode cX4_enterIntoLots 11 = .ok (.getfield 81, 3) := by decide +kernel
theorem dX4_enterIntoLots_14 : decode cX4_enterIntoLots 14 = .ok (.aload_n 1, 1) := by decide +kernel
theorem dX4_enterIntoLots_15 : decode cX4_enterIntoLots 15 = .ok (.getfield 189, 3) := by decide +kernel
theorem dX4_enterIntoLots_18 : decode cX4_enterIntoLots 18 = .ok (.invokestatic 276, 3) := by decide +kernel
theorem dX4_enterIntoLots_21 : decode cX4_enterIntoLots 21 = .ok (.aload_n 1, 1) := by decide +kernel
theorem dX4_enterIntoLots_22 : decode cX4_enterIntoLots 22 = .ok (.invokevirtual 149, 3) := by decide +kernel
theorem dX4_enterIntoLots_25 : decode cX4_enterIntoLots 25 = .ok (.lneg, 1) := by decide +kernel
theorem dX4_enterIntoLots_26 : decode cX4_enterIntoLots 26 = .ok (.aload_n 0, 1) := by decide +kernel
theorem dX4_enterIntoLots_27 : decode cX4_enterIntoLots 27 = .ok (.aload_n 1, 1) := by decide +kernel
theorem dX4_enterIntoLots_28 : decode cX4_enterIntoLots 28 = .ok (.invokevirtual 280, 3) := by decide +kernel
theorem dX4_enterIntoLots_31 : decode cX4_enterIntoLots 31 = .ok (.lsub, 1) := by decide +kernel
theorem dX4_enterIntoLots_32 : decode cX4_enterIntoLots 32 = .ok (.invokestatic 284, 3) := by decide +kernel
theorem dX4_enterIntoLots_35 : decode cX4_enterIntoLots 35 = .ok (.goto 19, 3) := by decide +kernel
theorem dX4_enterIntoLots_38 : decode cX4_enterIntoLots 38 = .ok (.aload_n 1, 1) := by decide +kernel
theorem dX4_enterIntoLots_39 : decode cX4_enterIntoLots 39 = .ok (.aload_n 1, 1) := by decide +kernel
theorem dX4_enterIntoLots_40 : decode cX4_enterIntoLots 40 = .ok (.getfield 148, 3) := by decide +kernel
theorem dX4_enterIntoLots_43 : decode cX4_enterIntoLots 43 = .ok (.putfield 195, 3) := by decide +kernel
theorem dX4_enterIntoLots_46 : decode cX4_enterIntoLots 46 = .ok (.aload_n 1, 1) := by decide +kernel
theorem dX4_enterIntoLots_47 : decode cX4_enterIntoLots 47 = .ok (.aload_n 1, 1) := by decide +kernel
theorem dX4_enterIntoLots_48 : decode cX4_enterIntoLots 48 = .ok (.invokevirtual 149, 3) := by decide +kernel
theorem dX4_enterIntoLots_51 : decode cX4_enterIntoLots 51 = .ok (.putfield 199, 3) := by decide +kernel
theorem dX4_enterIntoLots_54 : decode cX4_enterIntoLots 54 = .ok (.return_, 1) := by decide +kernel
set_option maxRecDepth 20000 in
theorem ggX4_takeCostFromLots_Jx4a65c_size_8abf5 : GoodIn wsX4_takeCostFromLots wsJx4a65c_size_8abf5 := goodIn_r _ [16, 17, 53, 54, 55] (by decide +kernel) (by decide +kernel)
set_option maxRecDepth 20000 in
theorem gX4_takeCostFromLots_Jx4a65c_size_8abf5 : GoodIn wsX4_takeCostFromLots (wsV RX4 44 RJx4a65c yJx4a65c_size_8abf5 wsJx4a65c_size_8abf5) := goodIn_app (goodIn_of _ (by decide +kernel)) ggX4_takeCostFromLots_Jx4a65c_size_8abf5
set_option maxRecDepth 20000 in
theorem ggX4_takeCostFromLots_Jx4a65c_get_915e3 : GoodIn wsX4_takeCostFromLots wsJx4a65c_get_915e3 := goodIn_r _ [21, 17, 22, 23, 24, 25, 26, 27, 28, 29, 30, 31, 32, 15, 33, 34, 53, 54, 55] (by decide +kernel) (by decide +kernel)
set_option maxRecDepth 20000 in
theorem gX4_takeCostFromLots_Jx4a65c_get_915e3 : GoodIn wsX4_takeCostFromLots (wsV RX4 60 RJx4a65c yJx4a65c_get_915e3 wsJx4a65c_get_915e3) := goodIn_app (goodIn_of _ (by decide +kernel)) ggX4_takeCostFromLots_Jx4a65c_get_915e3
set_option maxRecDepth 20000 in
theorem ggX4_takeCostFromLots_X4_cutQuotient : GoodIn wsX4_takeCostFromLots wsX4_cutQuotient := goodIn_r _ [38] (by decide +kernel) (by decide +kernel)
set_option maxRecDepth 20000 in
theorem gX4_takeCostFromLots_X4_cutQuotient : GoodIn wsX4_takeCostFromLots (va_wsS RX4 236 yX4_cutQuotient wsX4_cutQuotient) := goodIn_app (goodIn_of _ (by decide +kernel)) ggX4_takeCostFromLots_X4_cutQuotient
theorem dX4_takeCostFromLots_0 : decode cX4_takeCostFromLots 0 = .ok (.aload_n 1, 1) := by decide +kernel
theorem dX4_takeCostFromLots_1 : decode cX4_takeCostFromLots 1 = .ok (.getfield 148, 3) := by decide +kernel
theorem dX4_takeCostFromLots_4 : decode cX4_takeCostFromLots 4 = .ok (.lneg, 1) := by decide +kernel
theorem dX4_takeCostFromLots_5 : decode cX4_takeCostFromLots 5 = .ok (.lstore_n 2, 1) := by decide +kernel
theorem dX4_takeCostFromLots_6 : decode cX4_takeCostFromLots 6 = .ok (.lconst 0, 1) := by decide +kernel
theorem dX4_takeCostFromLots_7 : decode cX4_takeCostFromLots 7 = .ok (.lstore 4, 2) := by decide +kernel
theorem dX4_takeCostFromLots_9 : decode cX4_takeCostFromLots 9 = .ok (.iconst 0, 1) := by decide +kernel
theorem dX4_takeCostFromLots_10 : decode cX4_takeCostFromLots 10 = .ok (.istore 6, 2) := by decide +kernel
theorem dX4_takeCostFromLots_12 : decode cX4_takeCostFromLots 12 = .ok (.iload 6, 2) := by decide +kernel
theorem dX4_takeCostFromLots_14 : decode cX4_takeCostFromLots 14 = .ok (.aload_n 1, 1) := by decide +kernel
theorem dX4_takeCostFromLots_15 : decode cX4_takeCostFromLots 15 = .ok (.getfield 198, 3) := by decide +kernel
theorem dX4_takeCostFromLots_18 : decode cX4_takeCostFromLots 18 = .ok (.if_icmp .ge 128, 3) := by decide +kernel
theorem dX4_takeCostFromLots_21 : decode cX4_takeCostFromLots 21 = .ok (.iload 6, 2) := by decide +kernel
theorem dX4_takeCostFromLots_23 : decode cX4_takeCostFromLots 23 = .ok (.aload_n 0, 1) := by decide +kernel
theorem dX4_takeCostFromLots_24 : decode cX4_takeCostFromLots 24 = .ok (.getfield 19, 3) := by decide +kernel
theorem dX4_takeCostFromLots_27 : decode cX4_takeCostFromLots 27 = .ok (.invokevirtual 44, 3) := by decide +kernel
theorem dX4_takeCostFromLots_30 : decode cX4_takeCostFromLots 30 = .ok (.if_icmp .ge 116, 3) := by decide +kernel
theorem dX4_takeCostFromLots_33 : decode cX4_takeCostFromLots 33 = .ok (.lload_n 2, 1) := by decide +kernel
theorem dX4_takeCostFromLots_34 : decode cX4_takeCostFromLots 34 = .ok (.lconst 0, 1) := by decide +kernel
theorem dX4_takeCostFromLots_35 : decode cX4_takeCostFromLots 35 = .ok (.lcmp, 1) := by decide +kernel
theorem dX4_takeCostFromLots_36 : decode cX4_takeCostFromLots 36 = .ok (.ifCond .le 110, 3) := by decide +kernel
theorem dX4_takeCostFromLots_39 : decode cX4_takeCostFromLots 39 = .ok (.aload_n 0, 1) := by decide +kernel
theorem dX4_takeCostFromLots_40 : decode cX4_takeCostFromLots 40 = .ok (.getfield 19, 3) := by decide +kernel
theorem dX4_takeCostFromLots_43 : decode cX4_takeCostFromLots 43 = .ok (.iload 6, 2) := by decide +kernel
theorem dX4_takeCostFromLots_45 : decode cX4_takeCostFromLots 45 = .ok (.invokevirtual 60, 3) := by decide +kernel
theorem dX4_takeCostFromLots_48 : decode cX4_takeCostFromLots 48 = .ok (.checkcast 135, 3) := by decide +kernel
theorem dX4_takeCostFromLots_51 : decode cX4_takeCostFromLots 51 = .ok (.astore 7, 2) := by decide +kernel
theorem dX4_takeCostFromLots_53 : decode cX4_takeCostFromLots 53 = .ok (.aload 7, 2) := by decide +kernel
theorem dX4_takeCostFromLots_55 : decode cX4_takeCostFromLots 55 = .ok (.getfield 144, 3) := by decide +kernel
theorem dX4_takeCostFromLots_58 : decode cX4_takeCostFromLots 58 = .ok (.aload_n 1, 1) := by decide +kernel
theorem dX4_takeCostFromLots_59 : decode cX4_takeCostFromLots 59 = .ok (.getfield 144, 3) := by decide +kernel
theorem dX4_takeCostFromLots_62 : decode cX4_takeCostFromLots 62 = .ok (.if_acmp .ne 78, 3) := by decide +kernel
theorem dX4_takeCostFromLots_65 : decode cX4_takeCostFromLots 65 = .ok (.aload 7, 2) := by decide +kernel
theorem dX4_takeCostFromLots_67 : decode cX4_takeCostFromLots 67 = .ok (.getfield 195, 3) := by decide +kernel
theorem dX4_takeCostFromLots_70 : decode cX4_takeCostFromLots 70 = .ok (.lconst 0, 1) := by decide +kernel
theorem dX4_takeCostFromLots_71 : decode cX4_takeCostFromLots 71 = .ok (.lcmp, 1) := by decide +kernel
theorem dX4_takeCostFromLots_72 : decode cX4_takeCostFromLots 72 = .ok (.ifCond .le 68, 3) := by decide +kernel
theorem dX4_takeCostFromLots_75 : decode cX4_takeCostFromLots 75 = .ok (.lload_n 2, 1) := by decide +kernel
theorem dX4_takeCostFromLots_76 : decode cX4_takeCostFromLots 76 = .ok (.aload 7, 2) := by decide +kernel
theorem dX4_takeCostFromLots_78 : decode cX4_takeCostFromLots 78 = .ok (.getfield 195, 3) := by decide +kernel
theorem dX4_takeCostFromLots_81 : decode cX4_takeCostFromLots 81 = .ok (.invokestatic 254, 3) := by decide +kernel
theorem dX4_takeCostFromLots_84 : decode cX4_takeCostFromLots 84 = .ok (.lstore 8, 2) := by decide +kernel
theorem dX4_takeCostFromLots_86 : decode cX4_takeCostFromLots 86 = .ok (.aload 7, 2) := by decide +kernel
theorem dX4_takeCostFromLots_88 : decode cX4_takeCostFromLots 88 = .ok (.getfield 199, 3) := by decide +kernel
theorem dX4_takeCostFromLots_91 : decode cX4_takeCostFromLots 91 = .ok (.lload 8, 2) := by decide +kernel
theorem dX4_takeCostFromLots_93 : decode cX4_takeCostFromLots 93 = .ok (.lmul, 1) := by decide +kernel
theorem dX4_takeCostFromLots_94 : decode cX4_takeCostFromLots 94 = .ok (.aload 7, 2) := by decide +kernel
theorem dX4_takeCostFromLots_96 : decode cX4_takeCostFromLots 96 = .ok (.getfield 195, 3) := by decide +kernel
theorem dX4_takeCostFromLots_99 : decode cX4_takeCostFromLots 99 = .ok (.invokestatic 236, 3) := by decide +kernel
theorem dX4_takeCostFromLots_102 : decode cX4_takeCostFromLots 102 = .ok (.lstore 10, 2) := by decide +kernel
theorem dX4_takeCostFromLots_104 : decode cX4_takeCostFromLots 104 = .ok (.aload 7, 2) := by decide +kernel
theorem dX4_takeCostFromLots_106 : decode cX4_takeCostFromLots 106 = .ok (.dup, 1) := by decide +kernel
theorem dX4_takeCostFromLots_107 : decode cX4_takeCostFromLots 107 = .ok (.getfield 195, 3) := by decide +kernel
theorem dX4_takeCostFromLots_110 : decode cX4_takeCostFromLots 110 = .ok (.lload 8, 2) := by decide +kernel
theorem dX4_takeCostFromLots_112 : decode cX4_takeCostFromLots 112 = .ok (.lsub, 1) := by decide +kernel
theorem dX4_takeCostFromLots_113 : decode cX4_takeCostFromLots 113 = .ok (.putfield 195, 3) := by decide +kernel
theorem dX4_takeCostFromLots_116 : decode cX4_takeCostFromLots 116 = .ok (.aload 7, 2) := by decide +kernel
theorem dX4_takeCostFromLots_118 : decode cX4_takeCostFromLots 118 = .ok (.dup, 1) := by decide +kernel
theorem dX4_takeCostFromLots_119 : decode cX4_takeCostFromLots 119 = .ok (.getfield 199, 3) := by decide +kernel
theorem dX4_takeCostFromLots_122 : decode cX4_takeCostFromLots 122 = .ok (.lload 10, 2) := by decide +kernel
theorem dX4_takeCostFromLots_124 : decode cX4_takeCostFromLots 124 = .ok (.lsub, 1) := by decide +kernel
theorem dX4_takeCostFromLots_125 : decode cX4_takeCostFromLots 125 = .ok (.putfield 199, 3) := by decide +kernel
theorem dX4_takeCostFromLots_128 : decode cX4_takeCostFromLots 128 = .ok (.lload_n 2, 1) := by decide +kernel
theorem dX4_takeCostFromLots_129 : decode cX4_takeCostFromLots 129 = .ok (.lload 8, 2) := by decide +kernel
theorem dX4_takeCostFromLots_131 : decode cX4_takeCostFromLots 131 = .ok (.lsub, 1) := by decide +kernel
theorem dX4_takeCostFromLots_132 : decode cX4_takeCostFromLots 132 = .ok (.lstore_n 2, 1) := by decide +kernel
theorem dX4_takeCostFromLots_133 : decode cX4_takeCostFromLots 133 = .ok (.lload 4, 2) := by decide +kernel
theorem dX4_takeCostFromLots_135 : decode cX4_takeCostFromLots 135 = .ok (.lload 10, 2) := by decide +kernel
theorem dX4_takeCostFromLots_137 : decode cX4_takeCostFromLots 137 = .ok (.ladd, 1) := by decide +kernel
theorem dX4_takeCostFromLots_138 : decode cX4_takeCostFromLots 138 = .ok (.lstore 4, 2) := by decide +kernel
theorem dX4_takeCostFromLots_140 : decode cX4_takeCostFromLots 140 = .ok (.iinc 6 1, 3) := by decide +kernel
theorem dX4_takeCostFromLots_143 : decode cX4_takeCostFromLots 143 = .ok (.goto (-131), 3) := by decide +kernel
theorem dX4_takeCostFromLots_146 : decode cX4_takeCostFromLots 146 = .ok (.lload 4, 2) := by decide +kernel
theorem dX4_takeCostFromLots_148 : decode cX4_takeCostFromLots 148 = .ok (.lreturn, 1) := by decide +kernel
theorem dX4_addGain_0 : decode cX4_addGain 0 = .ok (.iload_n 1, 1) := by decide +kernel
theorem dX4_addGain_1 : decode cX4_addGain 1 = .ok (.ifCond .lt 22, 3) := by decide +kernel
theorem dX4_addGain_4 : decode cX4_addGain 4 = .ok (.iload_n 1, 1) := by decide +kernel
theorem dX4_addGain_5 : decode cX4_addGain 5 = .ok (.aload_n 0, 1) := by decide +kernel
theorem dX4_addGain_6 : decode cX4_addGain 6 = .ok (.getfield 204, 3) := by decide +kernel
theorem dX4_addGain_9 : decode cX4_addGain 9 = .ok (.arraylength, 1) := by decide +kernel
theorem dX4_addGain_10 : decode cX4_addGain 10 = .ok (.if_icmp .ge 13, 3) := by decide +kernel
theorem dX4_addGain_13 : decode cX4_addGain 13 = .ok (.aload_n 0, 1) := by decide +kernel
theorem dX4_addGain_14 : decode cX4_addGain 14 = .ok (.getfield 204, 3) := by decide +kernel
theorem dX4_addGain_17 : decode cX4_addGain 17 = .ok (.iload_n 1, 1) := by decide +kernel
theorem dX4_addGain_18 : decode cX4_addGain 18 = .ok (.dup2, 1) := by decide +kernel
theorem dX4_addGain_19 : decode cX4_addGain 19 = .ok (.laload, 1) := by decide +kernel
theorem dX4_addGain_20 : decode cX4_addGain 20 = .ok (.lload_n 2, 1) := by decide +kernel
theorem dX4_addGain_21 : decode cX4_addGain 21 = .ok (.ladd, 1) := by decide +kernel
theorem dX4_addGain_22 : decode cX4_addGain 22 = .ok (.lastore, 1) := by decide +kernel
theorem dX4_addGain_23 : decode cX4_addGain 23 = .ok (.return_, 1) := by decide +kernel
set_option maxRecDepth 20000 in
theorem ggX4_salesKeepTheirParts_Jx4a65c_size_8abf5 : GoodIn wsX4_salesKeepTheirParts wsJx4a65c_size_8abf5 := goodIn_r _ [10, 11, 43, 44, 45] (by decide +kernel) (by decide +kernel)
set_option maxRecDepth 20000 in
theorem gX4_salesKeepTheirParts_Jx4a65c_size_8abf5 : GoodIn wsX4_salesKeepTheirParts (wsV RX4 44 RJx4a65c yJx4a65c_size_8abf5 wsJx4a65c_size_8abf5) := goodIn_app (goodIn_of _ (by decide +kernel)) ggX4_salesKeepTheirParts_Jx4a65c_size_8abf5
set_option maxRecDepth 20000 in
theorem ggX4_salesKeepTheirParts_Jx4a65c_get_915e3 : GoodIn wsX4_salesKeepTheirParts wsJx4a65c_get_915e3 := goodIn_r _ [15, 11, 16, 17, 18, 19, 20, 21, 22, 23, 24, 25, 26, 9, 27, 28, 43, 44, 45] (by decide +kernel) (by decide +kernel)
set_option maxRecDepth 20000 in
theorem gX4_salesKeepTheirParts_Jx4a65c_get_915e3 : GoodIn wsX4_salesKeepTheirParts (wsV RX4 60 RJx4a65c yJx4a65c_get_915e3 wsJx4a65c_get_915e3) := goodIn_app (goodIn_of _ (by decide +kernel)) ggX4_salesKeepTheirParts_Jx4a65c_get_915e3
theorem dX4_salesKeepTheirParts_0 : decode cX4_salesKeepTheirParts 0 = .ok (.lconst 0, 1) := by decide +kernel
theorem dX4_salesKeepTheirParts_1 : decode cX4_salesKeepTheirParts 1 = .ok (.lstore_n 2, 1) := by decide +kernel
theorem dX4_salesKeepTheirParts_2 : decode cX4_salesKeepTheirParts 2 = .ok (.iconst 0, 1) := by decide +kernel
theorem dX4_salesKeepTheirParts_3 : decode cX4_salesKeepTheirParts 3 = .ok (.istore 4, 2) := by decide +kernel
theorem dX4_salesKeepTheirParts_5 : decode cX4_salesKeepTheirParts 5 = .ok (.iload 4, 2) := by decide +kernel
theorem dX4_salesKeepTheirParts_7 : decode cX4_salesKeepTheirParts 7 = .ok (.aload_n 0, 1) := by decide +kernel
theorem dX4_salesKeepTheirParts_8 : decode cX4_salesKeepTheirParts 8 = .ok (.getfield 19, 3) := by decide +kernel
theorem dX4_salesKeepTheirParts_11 : decode cX4_salesKeepTheirParts 11 = .ok (.invokevirtual 44, 3) := by decide +kernel
theorem dX4_salesKeepTheirParts_14 : decode cX4_salesKeepTheirParts 14 = .ok (.if_icmp .ge 65, 3) := by decide +kernel
theorem dX4_salesKeepTheirParts_17 : decode cX4_salesKeepTheirParts 17 = .ok (.aload_n 0, 1) := by decide +kernel
theorem dX4_salesKeepTheirParts_18 : decode cX4_salesKeepTheirParts 18 = .ok (.getfield 19, 3) := by decide +kernel
theorem dX4_salesKeepTheirParts_21 : decode cX4_salesKeepTheirParts 21 = .ok (.iload 4, 2) := by decide +kernel
theorem dX4_salesKeepTheirParts_23 : decode cX4_salesKeepTheirParts 23 = .ok (.invokevirtual 60, 3) := by decide +kernel
theorem dX4_salesKeepTheirParts_26 : decode cX4_salesKeepTheirParts 26 = .ok (.checkcast 135, 3) := by decide +kernel
theorem dX4_salesKeepTheirParts_29 : decode cX4_salesKeepTheirParts 29 = .ok (.astore 5, 2) := by decide +kernel
theorem dX4_salesKeepTheirParts_31 : decode cX4_salesKeepTheirParts 31 = .ok (.aload 5, 2) := by decide +kernel
theorem dX4_salesKeepTheirParts_33 : decode cX4_salesKeepTheirParts 33 = .ok (.getfield 144, 3) := by decide +kernel
theorem dX4_salesKeepTheirParts_36 : decode cX4_salesKeepTheirParts 36 = .ok (.aload_n 1, 1) := by decide +kernel
theorem dX4_salesKeepTheirParts_37 : decode cX4_salesKeepTheirParts 37 = .ok (.getfield 144, 3) := by decide +kernel
theorem dX4_salesKeepTheirParts_40 : decode cX4_salesKeepTheirParts 40 = .ok (.if_acmp .ne 33, 3) := by decide +kernel
theorem dX4_salesKeepTheirParts_43 : decode cX4_salesKeepTheirParts 43 = .ok (.aload 5, 2) := by decide +kernel
theorem dX4_salesKeepTheirParts_45 : decode cX4_salesKeepTheirParts 45 = .ok (.getfield 134, 3) := by decide +kernel
theorem dX4_salesKeepTheirParts_48 : decode cX4_salesKeepTheirParts 48 = .ok (.ifCond .eq 25, 3) := by decide +kernel
theorem dX4_salesKeepTheirParts_51 : decode cX4_salesKeepTheirParts 51 = .ok (.aload 5, 2) := by decide +kernel
theorem dX4_salesKeepTheirParts_53 : decode cX4_salesKeepTheirParts 53 = .ok (.aload_n 1, 1) := by decide +kernel
theorem dX4_salesKeepTheirParts_54 : decode cX4_salesKeepTheirParts 54 = .ok (.if_acmp .eq 19, 3) := by decide +kernel
theorem dX4_salesKeepTheirParts_57 : decode cX4_salesKeepTheirParts 57 = .ok (.lload_n 2, 1) := by decide +kernel
theorem dX4_salesKeepTheirParts_58 : decode cX4_salesKeepTheirParts 58 = .ok (.aload 5, 2) := by decide +kernel
theorem dX4_salesKeepTheirParts_60 : decode cX4_salesKeepTheirParts 60 = .ok (.getfield 148, 3) := by decide +kernel
theorem dX4_salesKeepTheirParts_63 : decode cX4_salesKeepTheirParts 63 = .ok (.ladd, 1) := by decide +kernel
theorem dX4_salesKeepTheirParts_64 : decode cX4_salesKeepTheirParts 64 = .ok (.lstore_n 2, 1) := by decide +kernel
theorem dX4_salesKeepTheirParts_65 : decode cX4_salesKeepTheirParts 65 = .ok (.lload_n 2, 1) := by decide +kernel
theorem dX4_salesKeepTheirParts_66 : decode cX4_salesKeepTheirParts 66 = .ok (.lconst 0, 1) := by decide +kernel
theorem dX4_salesKeepTheirParts_67 : decode cX4_salesKeepTheirParts 67 = .ok (.lcmp, 1) := by decide +kernel
theorem dX4_salesKeepTheirParts_68 : decode cX4_salesKeepTheirParts 68 = .ok (.ifCond .ge 5, 3) := by decide +kernel
theorem dX4_salesKeepTheirParts_71 : decode cX4_salesKeepTheirParts 71 = .ok (.iconst 0, 1) := by decide +kernel
theorem dX4_salesKeepTheirParts_72 : decode cX4_salesKeepTheirParts 72 = .ok (.ireturn, 1) := by decide +kernel
theorem dX4_salesKeepTheirParts_73 : decode cX4_salesKeepTheirParts 73 = .ok (.iinc 4 1, 3) := by decide +kernel
theorem dX4_salesKeepTheirParts_76 : decode cX4_salesKeepTheirParts 76 = .ok (.goto (-71), 3) := by decide +kernel
theorem dX4_salesKeepTheirParts_79 : decode cX4_salesKeepTheirParts 79 = .ok (.iconst 1, 1) := by decide +kernel
theorem dX4_salesKeepTheirParts_80 : decode cX4_salesKeepTheirParts 80 = .ok (.ireturn, 1) := by decide +kernel
set_option maxRecDepth 20000 in
theorem ggX4_findLotsAnew_J7_fill_d0a16 : GoodIn wsX4_findLotsAnew wsJ7_fill_d0a16 := goodIn_r _ [12] (by decide +kernel) (by decide +kernel)
set_option maxRecDepth 20000 in
theorem gX4_findLotsAnew_J7_fill_d0a16 : GoodIn wsX4_findLotsAnew (va_wsS RX4 288 yJ7_fill_d0a16 wsJ7_fill_d0a16) := goodIn_app (goodIn_of _ (by decide +kernel)) ggX4_findLotsAnew_J7_fill_d0a16
set_option maxRecDepth 20000 in
theorem ggX4_findLotsAnew_Jx4a65c_size_8abf5 : GoodIn wsX4_findLotsAnew wsJx4a65c_size_8abf5 := goodIn_r _ [17, 18, 97, 98, 99] (by decide +kernel) (by decide +kernel)
set_option maxRecDepth 20000 in
theorem gX4_findLotsAnew_Jx4a65c_size_8abf5 : GoodIn wsX4_findLotsAnew (wsV RX4 44 RJx4a65c yJx4a65c_size_8abf5 wsJx4a65c_size_8abf5) := goodIn_app (goodIn_of _ (by decide +kernel)) ggX4_findLotsAnew_Jx4a65c_size_8abf5
set_option maxRecDepth 20000 in
theorem ggX4_findLotsAnew_Jx4a65c_get_915e3 : GoodIn wsX4_findLotsAnew wsJx4a65c_get_915e3 := goodIn_r _ [22, 18, 23, 24, 25, 26, 27, 28, 29, 30, 31, 32, 33, 16, 34, 35, 97, 98, 99] (by decide +kernel) (by decide +kernel)
set_option maxRecDepth 20000 in
theorem gX4_findLotsAnew_Jx4a65c_get_915e3 : GoodIn wsX4_findLotsAnew (wsV RX4 60 RJx4a65c yJx4a65c_get_915e3 wsJx4a65c_get_915e3) := goodIn_app (goodIn_of _ (by decide +kernel)) ggX4_findLotsAnew_Jx4a65c_get_915e3
set_option maxRecDepth 20000 in
theorem ggX4_findLotsAnew_X4_enterIntoLots : GoodIn wsX4_findLotsAnew wsX4_enterIntoLots := goodIn_r _ [40, 4, 5, 41, 42, 6, 7, 43, 44, 45, 46, 47, 48, 49, 50, 39, 51, 52, 53, 54, 55, 56, 57, 58, 59, 60, 61, 62, 63, 2, 3, 64, 65, 66, 67, 13, 14, 15, 16, 17, 18, 19, 20, 21, 22, 23, 24, 25, 26, 27, 28, 29, 30, 31, 32, 33, 34, 35, 68, 69, 70, 71, 72, 73, 1, 84, 85, 86, 87, 88, 89, 90, 91, 92, 93, 94, 95, 96, 79, 80, 81, 82, 83, 97, 98, 99, 74, 75, 76, 77, 78] (by decide +kernel) (by decide +kernel)
set_option maxRecDepth 20000 in
theorem gX4_findLotsAnew_X4_enterIntoLots : GoodIn wsX4_findLotsAnew (wsV RX4 262 RX4 yX4_enterIntoLots wsX4_enterIntoLots) := goodIn_app (goodIn_of _ (by decide +kernel)) ggX4_findLotsAnew_X4_enterIntoLots
theorem dX4_findLotsAnew_0 : decode cX4_findLotsAnew 0 = .ok (.aload_n 1, 1) := by decide +kernel
theorem dX4_findLotsAnew_1 : decode cX4_findLotsAnew 1 = .ok (.getfield 204, 3) := by decide +kernel
theorem dX4_findLotsAnew_4 : decode cX4_findLotsAnew 4 = .ok (.lconst 0, 1) := by decide +kernel
theorem dX4_findLotsAnew_5 : decode cX4_findLotsAnew 5 = .ok (.invokestatic 288, 3) := by decide +kernel
theorem dX4_findLotsAnew_8 : decode cX4_findLotsAnew 8 = .ok (.iconst 0, 1) := by decide +kernel
theorem dX4_findLotsAnew_9 : decode cX4_findLotsAnew 9 = .ok (.istore_n 2, 1) := by decide +kernel
theorem dX4_findLotsAnew_10 : decode cX4_findLotsAnew 10 = .ok (.iload_n 2, 1) := by decide +kernel
theorem dX4_findLotsAnew_11 : decode cX4_findLotsAnew 11 = .ok (.aload_n 0, 1) := by decide +kernel
theorem dX4_findLotsAnew_12 : decode cX4_findLotsAnew 12 = .ok (.getfield 19, 3) := by decide +kernel
theorem dX4_findLotsAnew_15 : decode cX4_findLotsAnew 15 = .ok (.invokevirtual 44, 3) := by decide +kernel
theorem dX4_findLotsAnew_18 : decode cX4_findLotsAnew 18 = .ok (.if_icmp .ge 54, 3) := by decide +kernel
theorem dX4_findLotsAnew_21 : decode cX4_findLotsAnew 21 = .ok (.aload_n 0, 1) := by decide +kernel
theorem dX4_findLotsAnew_22 : decode cX4_findLotsAnew 22 = .ok (.getfield 19, 3) := by decide +kernel
theorem dX4_findLotsAnew_25 : decode cX4_findLotsAnew 25 = .ok (.iload_n 2, 1) := by decide +kernel
theorem dX4_findLotsAnew_26 : decode cX4_findLotsAnew 26 = .ok (.invokevirtual 60, 3) := by decide +kernel
theorem dX4_findLotsAnew_29 : decode cX4_findLotsAnew 29 = .ok (.checkcast 135, 3) := by decide +kernel
theorem dX4_findLotsAnew_32 : decode cX4_findLotsAnew 32 = .ok (.astore_n 3, 1) := by decide +kernel
theorem dX4_findLotsAnew_33 : decode cX4_findLotsAnew 33 = .ok (.aload_n 3, 1) := by decide +kernel
theorem dX4_findLotsAnew_34 : decode cX4_findLotsAnew 34 = .ok (.getfield 144, 3) := by decide +kernel
theorem dX4_findLotsAnew_37 : decode cX4_findLotsAnew 37 = .ok (.getfield 81, 3) := by decide +kernel
theorem dX4_findLotsAnew_40 : decode cX4_findLotsAnew 40 = .ok (.aload_n 1, 1) := by decide +kernel
theorem dX4_findLotsAnew_41 : decode cX4_findLotsAnew 41 = .ok (.if_acmp .ne 25, 3) := by decide +kernel
theorem dX4_findLotsAnew_44 : decode cX4_findLotsAnew 44 = .ok (.aload_n 3, 1) := by decide +kernel
theorem dX4_findLotsAnew_45 : decode cX4_findLotsAnew 45 = .ok (.lconst 0, 1) := by decide +kernel
theorem dX4_findLotsAnew_46 : decode cX4_findLotsAnew 46 = .ok (.putfield 195, 3) := by decide +kernel
theorem dX4_findLotsAnew_49 : decode cX4_findLotsAnew 49 = .ok (.aload_n 3, 1) := by decide +kernel
theorem dX4_findLotsAnew_50 : decode cX4_findLotsAnew 50 = .ok (.lconst 0, 1) := by decide +kernel
theorem dX4_findLotsAnew_51 : decode cX4_findLotsAnew 51 = .ok (.putfield 199, 3) := by decide +kernel
theorem dX4_findLotsAnew_54 : decode cX4_findLotsAnew 54 = .ok (.aload_n 3, 1) := by decide +kernel
theorem dX4_findLotsAnew_55 : decode cX4_findLotsAnew 55 = .ok (.getfield 134, 3) := by decide +kernel
theorem dX4_findLotsAnew_58 : decode cX4_findLotsAnew 58 = .ok (.ifCond .eq 8, 3) := by decide +kernel
theorem dX4_findLotsAnew_61 : decode cX4_findLotsAnew 61 = .ok (.aload_n 0, 1) := by decide +kernel
theorem dX4_findLotsAnew_62 : decode cX4_findLotsAnew 62 = .ok (.aload_n 3, 1) := by decide +kernel
theorem dX4_findLotsAnew_63 : decode cX4_findLotsAnew 63 = .ok (.invokevirtual 262, 3) := by decide +kernel
theorem dX4_findLotsAnew_66 : decode cX4_findLotsAnew 66 = .ok (.iinc 2 1, 3) := by decide +kernel
theorem dX4_findLotsAnew_69 : decode cX4_findLotsAnew 69 = .ok (.goto (-59), 3) := by decide +kernel
theorem dX4_findLotsAnew_72 : decode cX4_findLotsAnew 72 = .ok (.return_, 1) := by decide +kernel
theorem dX4_yearOf_0 : decode cX4_yearOf 0 = .ok (.iload_n 0, 1) := by decide +kernel
theorem dX4_yearOf_1 : decode cX4_yearOf 1 = .ok (.sipush 360, 3) := by decide +kernel
theorem dX4_yearOf_4 : decode cX4_yearOf 4 = .ok (.idiv, 1) := by decide +kernel
theorem dX4_yearOf_5 : decode cX4_yearOf 5 = .ok (.ireturn, 1) := by decide +kernel
theorem dX4_baseOf_0 : decode cX4_baseOf 0 = .ok (.lconst 0, 1) := by decide +kernel
theorem dX4_baseOf_1 : decode cX4_baseOf 1 = .ok (.lstore_n 2, 1) := by decide +kernel
theorem dX4_baseOf_2 : decode cX4_baseOf 2 = .ok (.iconst 0, 1) := by decide +kernel
theorem dX4_baseOf_3 : decode cX4_baseOf 3 = .ok (.istore 4, 2) := by decide +kernel
theorem dX4_baseOf_5 : decode cX4_baseOf 5 = .ok (.iload 4, 2) := by decide +kernel
theorem dX4_baseOf_7 : decode cX4_baseOf 7 = .ok (.iload_n 1, 1) := by decide +kernel
theorem dX4_baseOf_8 : decode cX4_baseOf 8 = .ok (.if_icmp .gt 33, 3) := by decide +kernel
theorem dX4_baseOf_11 : decode cX4_baseOf 11 = .ok (.iload 4, 2) := by decide +kernel
theorem dX4_baseOf_13 : decode cX4_baseOf 13 = .ok (.aload_n 0, 1) := by decide +kernel
theorem dX4_baseOf_14 : decode cX4_baseOf 14 = .ok (.getfield 204, 3) := by decide +kernel
theorem dX4_baseOf_17 : decode cX4_baseOf 17 = .ok (.arraylength, 1) := by decide +kernel
theorem dX4_baseOf_18 : decode cX4_baseOf 18 = .ok (.if_icmp .ge 23, 3) := by decide +kernel
theorem dX4_baseOf_21 : decode cX4_baseOf 21 = .ok (.lload_n 2, 1) := by decide +kernel
theorem dX4_baseOf_22 : decode cX4_baseOf 22 = .ok (.lconst 0, 1) := by decide +kernel
theorem dX4_baseOf_23 : decode cX4_baseOf 23 = .ok (.invokestatic 254, 3) := by decide +kernel
theorem dX4_baseOf_26 : decode cX4_baseOf 26 = .ok (.aload_n 0, 1) := by decide +kernel
theorem dX4_baseOf_27 : decode cX4_baseOf 27 = .ok (.getfield 204, 3) := by decide +kernel
theorem dX4_baseOf_30 : decode cX4_baseOf 30 = .ok (.iload 4, 2) := by decide +kernel
theorem dX4_baseOf_32 : decode cX4_baseOf 32 = .ok (.laload, 1) := by decide +kernel
theorem dX4_baseOf_33 : decode cX4_baseOf 33 = .ok (.ladd, 1) := by decide +kernel
theorem dX4_baseOf_34 : decode cX4_baseOf 34 = .ok (.lstore_n 2, 1) := by decide +kernel
theorem dX4_baseOf_35 : decode cX4_baseOf 35 = .ok (.iinc 4 1, 3) := by decide +kernel
theorem dX4_baseOf_38 : decode cX4_baseOf 38 = .ok (.goto (-33), 3) := by decide +kernel
theorem dX4_baseOf_41 : decode cX4_baseOf 41 = .ok (.lload_n 2, 1) := by decide +kernel
theorem dX4_baseOf_42 : decode cX4_baseOf 42 = .ok (.lconst 0, 1) := by decide +kernel
theorem dX4_baseOf_43 : decode cX4_baseOf 43 = .ok (.invokestatic 294, 3) := by decide +kernel
theorem dX4_baseOf_46 : decode cX4_baseOf 46 = .ok (.lreturn, 1) := by decide +kernel
set_option maxRecDepth 20000 in
theorem ggX4_settleTaxes_X4_yearOf : GoodIn wsX4_settleTaxes wsX4_yearOf := goodIn_r _ [8] (by decide +kernel) (by decide +kernel)
set_option maxRecDepth 20000 in
theorem gX4_settleTaxes_X4_yearOf : GoodIn wsX4_settleTaxes (va_wsS RX4 276 yX4_yearOf wsX4_yearOf) := goodIn_app (goodIn_of _ (by decide +kernel)) ggX4_settleTaxes_X4_yearOf
set_option maxRecDepth 20000 in
theorem ggX4_settleTaxes_X4_baseOf : GoodIn wsX4_settleTaxes wsX4_baseOf := goodIn_r _ [11, 12, 13, 14, 15, 16, 17, 18, 19, 25, 26, 27, 28, 29] (by decide +kernel) (by decide +kernel)
set_option maxRecDepth 20000 in
theorem gX4_settleTaxes_X4_baseOf : GoodIn wsX4_settleTaxes (va_wsS RX4 211 yX4_baseOf wsX4_baseOf) := goodIn_app (goodIn_of _ (by decide +kernel)) ggX4_settleTaxes_X4_baseOf
theorem dX4_settleTaxes_0 : decode cX4_settleTaxes 0 = .ok (.lconst 0, 1) := by decide +kernel
theorem dX4_settleTaxes_1 : decode cX4_settleTaxes 1 = .ok (.lstore_n 2, 1) := by decide +kernel
theorem dX4_settleTaxes_2 : decode cX4_settleTaxes 2 = .ok (.iconst 0, 1) := by decide +kernel
theorem dX4_settleTaxes_3 : decode cX4_settleTaxes 3 = .ok (.istore 4, 2) := by decide +kernel
theorem dX4_settleTaxes_5 : decode cX4_settleTaxes 5 = .ok (.iload 4, 2) := by decide +kernel
theorem dX4_settleTaxes_7 : decode cX4_settleTaxes 7 = .ok (.aload_n 0, 1) := by decide +kernel
theorem dX4_settleTaxes_8 : decode cX4_settleTaxes 8 = .ok (.getfield 164, 3) := by decide +kernel
theorem dX4_settleTaxes_11 : decode cX4_settleTaxes 11 = .ok (.invokestatic 276, 3) := by decide +kernel
theorem dX4_settleTaxes_14 : decode cX4_settleTaxes 14 = .ok (.if_icmp .ge 53, 3) := by decide +kernel
theorem dX4_settleTaxes_17 : decode cX4_settleTaxes 17 = .ok (.iload 4, 2) := by decide +kernel
theorem dX4_settleTaxes_19 : decode cX4_settleTaxes 19 = .ok (.aload_n 1, 1) := by decide +kernel
theorem dX4_settleTaxes_20 : decode cX4_settleTaxes 20 = .ok (.getfield 208, 3) := by decide +kernel
theorem dX4_settleTaxes_23 : decode cX4_settleTaxes 23 = .ok (.arraylength, 1) := by decide +kernel
theorem dX4_settleTaxes_24 : decode cX4_settleTaxes 24 = .ok (.if_icmp .ge 43, 3) := by decide +kernel
theorem dX4_settleTaxes_27 : decode cX4_settleTaxes 27 = .ok (.aload_n 1, 1) := by decide +kernel
theorem dX4_settleTaxes_28 : decode cX4_settleTaxes 28 = .ok (.iload 4, 2) := by decide +kernel
theorem dX4_settleTaxes_30 : decode cX4_settleTaxes 30 = .ok (.invokestatic 211, 3) := by decide +kernel
theorem dX4_settleTaxes_33 : decode cX4_settleTaxes 33 = .ok (.ldc2_w 215, 3) := by decide +kernel
theorem dX4_settleTaxes_36 : decode cX4_settleTaxes 36 = .ok (.ldiv, 1) := by decide +kernel
theorem dX4_settleTaxes_37 : decode cX4_settleTaxes 37 = .ok (.lstore 5, 2) := by decide +kernel
theorem dX4_settleTaxes_39 : decode cX4_settleTaxes 39 = .ok (.lload_n 2, 1) := by decide +kernel
theorem dX4_settleTaxes_40 : decode cX4_settleTaxes 40 = .ok (.aload_n 1, 1) := by decide +kernel
theorem dX4_settleTaxes_41 : decode cX4_settleTaxes 41 = .ok (.getfield 208, 3) := by decide +kernel
theorem dX4_settleTaxes_44 : decode cX4_settleTaxes 44 = .ok (.iload 4, 2) := by decide +kernel
theorem dX4_settleTaxes_46 : decode cX4_settleTaxes 46 = .ok (.laload, 1) := by decide +kernel
theorem dX4_settleTaxes_47 : decode cX4_settleTaxes 47 = .ok (.lload 5, 2) := by decide +kernel
theorem dX4_settleTaxes_49 : decode cX4_settleTaxes 49 = .ok (.lsub, 1) := by decide +kernel
theorem dX4_settleTaxes_50 : decode cX4_settleTaxes 50 = .ok (.ladd, 1) := by decide +kernel
theorem dX4_settleTaxes_51 : decode cX4_settleTaxes 51 = .ok (.lstore_n 2, 1) := by decide +kernel
theorem dX4_settleTaxes_52 : decode cX4_settleTaxes 52 = .ok (.aload_n 1, 1) := by decide +kernel
theorem dX4_settleTaxes_53 : decode cX4_settleTaxes 53 = .ok (.getfield 208, 3) := by decide +kernel
theorem dX4_settleTaxes_56 : decode cX4_settleTaxes 56 = .ok (.iload 4, 2) := by decide +kernel
theorem dX4_settleTaxes_58 : decode cX4_settleTaxes 58 = .ok (.lload 5, 2) := by decide +kernel
theorem dX4_settleTaxes_60 : decode cX4_settleTaxes 60 = .ok (.lastore, 1) := by decide +kernel
theorem dX4_settleTaxes_61 : decode cX4_settleTaxes 61 = .ok (.iinc 4 1, 3) := by decide +kernel
theorem dX4_settleTaxes_64 : decode cX4_settleTaxes 64 = .ok (.goto (-59), 3) := by decide +kernel
theorem dX4_settleTaxes_67 : decode cX4_settleTaxes 67 = .ok (.aload_n 1, 1) := by decide +kernel
theorem dX4_settleTaxes_68 : decode cX4_settleTaxes 68 = .ok (.dup, 1) := by decide +kernel
theorem dX4_settleTaxes_69 : decode cX4_settleTaxes 69 = .ok (.getfield 73, 3) := by decide +kernel
theorem dX4_settleTaxes_72 : decode cX4_settleTaxes 72 = .ok (.lload_n 2, 1) := by decide +kernel
theorem dX4_settleTaxes_73 : decode cX4_settleTaxes 73 = .ok (.ladd, 1) := by decide +kernel
theorem dX4_settleTaxes_74 : decode cX4_settleTaxes 74 = .ok (.putfield 73, 3) := by decide +kernel
theorem dX4_settleTaxes_77 : decode cX4_settleTaxes 77 = .ok (.lload_n 2, 1) := by decide +kernel
theorem dX4_settleTaxes_78 : decode cX4_settleTaxes 78 = .ok (.lreturn, 1) := by decide +kernel
set_option maxRecDepth 20000 in
theorem ggX4_endDay_Jx4a65c_size_8abf5 : GoodIn wsX4_endDay wsJx4a65c_size_8abf5 := goodIn_r _ [12, 13, 69, 70, 71] (by decide +kernel) (by decide +kernel)
set_option maxRecDepth 20000 in
theorem gX4_endDay_Jx4a65c_size_8abf5 : GoodIn wsX4_endDay (wsV RX4 44 RJx4a65c yJx4a65c_size_8abf5 wsJx4a65c_size_8abf5) := goodIn_app (goodIn_of _ (by decide +kernel)) ggX4_endDay_Jx4a65c_size_8abf5
set_option maxRecDepth 20000 in
theorem ggX4_endDay_Jx4a65c_get_915e3 : GoodIn wsX4_endDay wsJx4a65c_get_915e3 := goodIn_r _ [17, 13, 18, 19, 20, 21, 22, 23, 24, 25, 26, 27, 28, 11, 29, 30, 69, 70, 71] (by decide +kernel) (by decide +kernel)
set_option maxRecDepth 20000 in
theorem gX4_endDay_Jx4a65c_get_915e3 : GoodIn wsX4_endDay (wsV RX4 60 RJx4a65c yJx4a65c_get_915e3 wsJx4a65c_get_915e3) := goodIn_app (goodIn_of _ (by decide +kernel)) ggX4_endDay_Jx4a65c_get_915e3
set_option maxRecDepth 20000 in
theorem ggX4_endDay_X4_tradeUnits : GoodIn wsX4_endDay wsX4_tradeUnits := goodIn_r _ [35, 36, 3, 4, 37, 38, 65, 66, 67, 68, 60, 61, 62, 63, 64] (by decide +kernel) (by decide +kernel)
set_option maxRecDepth 20000 in
theorem gX4_endDay_X4_tradeUnits : GoodIn wsX4_endDay (wsV RX4 268 RX4 yX4_tradeUnits wsX4_tradeUnits) := goodIn_app (goodIn_of _ (by decide +kernel)) ggX4_endDay_X4_tradeUnits
set_option maxRecDepth 20000 in
theorem ggX4_endDay_X4_settleTaxes : GoodIn wsX4_endDay wsX4_settleTaxes := goodIn_r _ [42, 5, 43, 44, 45, 46, 47, 34, 48, 49, 50, 51, 52, 53, 54, 55, 56, 57, 58, 59, 60, 61, 62, 63, 64, 72, 73, 74, 75, 76] (by decide +kernel) (by decide +kernel)
set_option maxRecDepth 20000 in
theorem gX4_endDay_X4_settleTaxes : GoodIn wsX4_endDay (wsV RX4 161 RX4 yX4_settleTaxes wsX4_settleTaxes) := goodIn_app (goodIn_of _ (by decide +kernel)) ggX4_endDay_X4_settleTaxes
theorem dX4_endDay_0 : decode cX4_endDay 0 = .ok (.iconst 0, 1) := by decide +kernel
theorem dX4_endDay_1 : decode cX4_endDay 1 = .ok (.istore_n 1, 1) := by decide +kernel
theorem dX4_endDay_2 : decode cX4_endDay 2 = .ok (.iload_n 1, 1) := by decide +kernel
theorem dX4_endDay_3 : decode cX4_endDay 3 = .ok (.aload_n 0, 1) := by decide +kernel
theorem dX4_endDay_4 : decode cX4_endDay 4 = .ok (.getfield 10, 3) := by decide +kernel
theorem dX4_endDay_7 : decode cX4_endDay 7 = .ok (.invokevirtual 44, 3) := by decide +kernel
theorem dX4_endDay_10 : decode cX4_endDay 10 = .ok (.if_icmp .ge 35, 3) := by decide +kernel
theorem dX4_endDay_13 : decode cX4_endDay 13 = .ok (.aload_n 0, 1) := by decide +kernel
theorem dX4_endDay_14 : decode cX4_endDay 14 = .ok (.getfield 10, 3) := by decide +kernel
theorem dX4_endDay_17 : decode cX4_endDay 17 = .ok (.iload_n 1, 1) := by decide +kernel
theorem dX4_endDay_18 : decode cX4_endDay 18 = .ok (.invokevirtual 60, 3) := by decide +kernel
theorem dX4_endDay_21 : decode cX4_endDay 21 = .ok (.checkcast 22, 3) := by decide +kernel
theorem dX4_endDay_24 : decode cX4_endDay 24 = .ok (.astore_n 2, 1) := by decide +kernel
theorem dX4_endDay_25 : decode cX4_endDay 25 = .ok (.aload_n 0, 1) := by decide +kernel
theorem dX4_endDay_26 : decode cX4_endDay 26 = .ok (.aload_n 2, 1) := by decide +kernel
theorem dX4_endDay_27 : decode cX4_endDay 27 = .ok (.aload_n 2, 1) := by decide +kernel
theorem dX4_endDay_28 : decode cX4_endDay 28 = .ok (.getfield 173, 3) := by decide +kernel
theorem dX4_endDay_31 : decode cX4_endDay 31 = .ok (.ldc2_w 234, 3) := by decide +kernel
theorem dX4_endDay_34 : decode cX4_endDay 34 = .ok (.ldiv, 1) := by decide +kernel
theorem dX4_endDay_35 : decode cX4_endDay 35 = .ok (.lneg, 1) := by decide +kernel
theorem dX4_endDay_36 : decode cX4_endDay 36 = .ok (.invokevirtual 268, 3) := by decide +kernel
theorem dX4_endDay_39 : decode cX4_endDay 39 = .ok (.iinc 1 1, 3) := by decide +kernel
theorem dX4_endDay_42 : decode cX4_endDay 42 = .ok (.goto (-40), 3) := by decide +kernel
theorem dX4_endDay_45 : decode cX4_endDay 45 = .ok (.aload_n 0, 1) := by decide +kernel
theorem dX4_endDay_46 : decode cX4_endDay 46 = .ok (.dup, 1) := by decide +kernel
theorem dX4_endDay_47 : decode cX4_endDay 47 = .ok (.getfield 164, 3) := by decide +kernel
theorem dX4_endDay_50 : decode cX4_endDay 50 = .ok (.iconst 1, 1) := by decide +kernel
theorem dX4_endDay_51 : decode cX4_endDay 51 = .ok (.iadd, 1) := by decide +kernel
theorem dX4_endDay_52 : decode cX4_endDay 52 = .ok (.putfield 164, 3) := by decide +kernel
theorem dX4_endDay_55 : decode cX4_endDay 55 = .ok (.aload_n 0, 1) := by decide +kernel
theorem dX4_endDay_56 : decode cX4_endDay 56 = .ok (.getfield 164, 3) := by decide +kernel
theorem dX4_endDay_59 : decode cX4_endDay 59 = .ok (.sipush 360, 3) := by decide +kernel
theorem dX4_endDay_62 : decode cX4_endDay 62 = .ok (.irem, 1) := by decide +kernel
theorem dX4_endDay_63 : decode cX4_endDay 63 = .ok (.ifCond .ne 38, 3) := by decide +kernel
theorem dX4_endDay_66 : decode cX4_endDay 66 = .ok (.iconst 0, 1) := by decide +kernel
theorem dX4_endDay_67 : decode cX4_endDay 67 = .ok (.istore_n 1, 1) := by decide +kernel
theorem dX4_endDay_68 : decode cX4_endDay 68 = .ok (.iload_n 1, 1) := by decide +kernel
theorem dX4_endDay_69 : decode cX4_endDay 69 = .ok (.aload_n 0, 1) := by decide +kernel
theorem dX4_endDay_70 : decode cX4_endDay 70 = .ok (.getfield 16, 3) := by decide +kernel
theorem dX4_endDay_73 : decode cX4_endDay 73 = .ok (.invokevirtual 44, 3) := by decide +kernel
theorem dX4_endDay_76 : decode cX4_endDay 76 = .ok (.if_icmp .ge 25, 3) := by decide +kernel
theorem dX4_endDay_79 : decode cX4_endDay 79 = .ok (.aload_n 0, 1) := by decide +kernel
theorem dX4_endDay_80 : decode cX4_endDay 80 = .ok (.aload_n 0, 1) := by decide +kernel
theorem dX4_endDay_81 : decode cX4_endDay 81 = .ok (.getfield 16, 3) := by decide +kernel
theorem dX4_endDay_84 : decode cX4_endDay 84 = .ok (.iload_n 1, 1) := by decide +kernel
theorem dX4_endDay_85 : decode cX4_endDay 85 = .ok (.invokevirtual 60, 3) := by decide +kernel
theorem dX4_endDay_88 : decode cX4_endDay 88 = .ok (.checkcast 52, 3) := by decide +kernel
theorem dX4_endDay_91 : decode cX4_endDay 91 = .ok (.invokevirtual 161, 3) := by decide +kernel
theorem dX4_endDay_94 : decode cX4_endDay 94 = .ok (.pop2, 1) := by decide +kernel
theorem dX4_endDay_95 : decode cX4_endDay 95 = .ok (.iinc 1 1, 3) := by decide +kernel
theorem dX4_endDay_98 : decode cX4_endDay 98 = .ok (.goto (-30), 3) := by decide +kernel
theorem dX4_endDay_101 : decode cX4_endDay 101 = .ok (.return_, 1) := by decide +kernel
end
section
theorem dJ9_max_7cf53_0 : decode cJ9_max_7cf53 0 = .ok (.iload_n 0, 1) := by decide +kernel
theorem dJ9_max_7cf53_1 : decode cJ9_max_7cf53 1 = .ok (.iload_n 1, 1) := by decide +kernel
theorem dJ9_max_7cf53_2 : decode cJ9_max_7cf53 2 = .ok (.if_icmp .lt 7, 3) := by decide +kernel
theorem dJ9_max_7cf53_5 : decode cJ9_max_7cf53 5 = .ok (.iload_n 0, 1) := by decide +kernel
theorem dJ9_max_7cf53_6 : decode cJ9_max_7cf53 6 = .ok (.goto 4, 3) := by decide +kernel
theorem dJ9_max_7cf53_9 : decode cJ9_max_7cf53 9 = .ok (.iload_n 1, 1) := by decide +kernel
theorem dJ9_max_7cf53_10 : decode cJ9_max_7cf53 10 = .ok (.ireturn, 1) := by decide +kernel
theorem dJ9_max_f86c9_0 : decode cJ9_max_f86c9 0 = .ok (.lload_n 0, 1) := by decide +kernel
theorem dJ9_max_f86c9_1 : decode cJ9_max_f86c9 1 = .ok (.lload_n 2, 1) := by decide +kernel
theorem dJ9_max_f86c9_2 : decode cJ9_max_f86c9 2 = .ok (.lcmp, 1) := by decide +kernel
theorem dJ9_max_f86c9_3 : decode cJ9_max_f86c9 3 = .ok (.ifCond .lt 7, 3) := by decide +kernel
theorem dJ9_max_f86c9_6 : decode cJ9_max_f86c9 6 = .ok (.lload_n 0, 1) := by decide +kernel
theorem dJ9_max_f86c9_7 : decode cJ9_max_f86c9 7 = .ok (.goto 4, 3) := by decide +kernel
theorem dJ9_max_f86c9_10 : decode cJ9_max_f86c9 10 = .ok (.lload_n 2, 1) := by decide +kernel
theorem dJ9_max_f86c9_11 : decode cJ9_max_f86c9 11 = .ok (.lreturn, 1) := by decide +kernel
theorem dJ9_min_7cf53_0 : decode cJ9_min_7cf53 0 = .ok (.iload_n 0, 1) := by decide +kernel
theorem dJ9_min_7cf53_1 : decode cJ9_min_7cf53 1 = .ok (.iload_n 1, 1) := by decide +kernel
theorem dJ9_min_7cf53_2 : decode cJ9_min_7cf53 2 = .ok (.if_icmp .gt 7, 3) := by decide +kernel
theorem dJ9_min_7cf53_5 : decode cJ9_min_7cf53 5 = .ok (.iload_n 0, 1) := by decide +kernel
theorem dJ9_min_7cf53_6 : decode cJ9_min_7cf53 6 = .ok (.goto 4, 3) := by decide +kernel
theorem dJ9_min_7cf53_9 : decode cJ9_min_7cf53 9 = .ok (.iload_n 1, 1) := by decide +kernel
theorem dJ9_min_7cf53_10 : decode cJ9_min_7cf53 10 = .ok (.ireturn, 1) := by decide +kernel
theorem dJ9_min_f86c9_0 : decode cJ9_min_f86c9 0 = .ok (.lload_n 0, 1) := by decide +kernel
theorem dJ9_min_f86c9_1 : decode cJ9_min_f86c9 1 = .ok (.lload_n 2, 1) := by decide +kernel
theorem dJ9_min_f86c9_2 : decode cJ9_min_f86c9 2 = .ok (.lcmp, 1) := by decide +kernel
theorem dJ9_min_f86c9_3 : decode cJ9_min_f86c9 3 = .ok (.ifCond .gt 7, 3) := by decide +kernel
theorem dJ9_min_f86c9_6 : decode cJ9_min_f86c9 6 = .ok (.lload_n 0, 1) := by decide +kernel
theorem dJ9_min_f86c9_7 : decode cJ9_min_f86c9 7 = .ok (.goto 4, 3) := by decide +kernel
theorem dJ9_min_f86c9_10 : decode cJ9_min_f86c9 10 = .ok (.lload_n 2, 1) := by decide +kernel
theorem dJ9_min_f86c9_11 : decode cJ9_min_f86c9 11 = .ok (.lreturn, 1) := by decide +kernel
theorem dJxa1e45_init_da8c8_0 : decode cJxa1e45_init_da8c8 0 = .ok (.aload_n 0, 1) := by decide +kernel
theorem dJxa1e45_init_da8c8_1 : decode cJxa1e45_init_da8c8 1 = .ok (.invokespecial 1, 3) := by decide +kernel
theorem dJxa1e45_init_da8c8_4 : decode cJxa1e45_init_da8c8 4 = .ok (.return_, 1) := by decide +kernel
set_option maxRecDepth 20000 in
theorem ggJxc12de_init_da8c8_Jxa1e45_init_da8c8 : GoodIn wsJxc12de_init_da8c8 wsJxa1e45_init_da8c8 := goodIn_r _ [5, 6, 7, 8] (by decide +kernel) (by decide +kernel)
set_option maxRecDepth 20000 in
theorem gJxc12de_init_da8c8_Jxa1e45_init_da8c8 : GoodIn wsJxc12de_init_da8c8 (wsJxa1e45_init_da8c8) := ggJxc12de_init_da8c8_Jxa1e45_init_da8c8
theorem dJxc12de_init_da8c8_0 : decode cJxc12de_init_da8c8 0 = .ok (.aload_n 0, 1) := by decide +kernel
theorem dJxc12de_init_da8c8_1 : decode cJxc12de_init_da8c8 1 = .ok (.invokespecial 1, 3) := by decide +kernel
theorem dJxc12de_init_da8c8_4 : decode cJxc12de_init_da8c8 4 = .ok (.aload_n 0, 1) := by decide +kernel
theorem dJxc12de_init_da8c8_5 : decode cJxc12de_init_da8c8 5 = .ok (.iconst 0, 1) := by decide +kernel
theorem dJxc12de_init_da8c8_6 : decode cJxc12de_init_da8c8 6 = .ok (.putfield 7, 3) := by decide +kernel
theorem dJxc12de_init_da8c8_9 : decode cJxc12de_init_da8c8 9 = .ok (.return_, 1) := by decide +kernel
set_option maxRecDepth 20000 in
theorem ggJx4a65c_init_da8c8_Jxc12de_init_da8c8 : GoodIn wsJx4a65c_init_da8c8 wsJxc12de_init_da8c8 := goodIn_r _ [6, 7, 8, 9, 10, 11, 12, 13, 14, 15, 16, 17] (by decide +kernel) (by decide +kernel)
set_option maxRecDepth 20000 in
theorem gJx4a65c_init_da8c8_Jxc12de_init_da8c8 : GoodIn wsJx4a65c_init_da8c8 (wsJxc12de_init_da8c8) := ggJx4a65c_init_da8c8_Jxc12de_init_da8c8
theorem dJx4a65c_init_da8c8_0 : decode cJx4a65c_init_da8c8 0 = .ok (.aload_n 0, 1) := by decide +kernel
theorem dJx4a65c_init_da8c8_1 : decode cJx4a65c_init_da8c8 1 = .ok (.invokespecial 1, 3) := by decide +kernel
theorem dJx4a65c_init_da8c8_4 : decode cJx4a65c_init_da8c8 4 = .ok (.aload_n 0, 1) := by decide +kernel
theorem dJx4a65c_init_da8c8_5 : decode cJx4a65c_init_da8c8 5 = .ok (.getstatic 39, 3) := by decide +kernel
theorem dJx4a65c_init_da8c8_8 : decode cJx4a65c_init_da8c8 8 = .ok (.putfield 9, 3) := by decide +kernel
theorem dJx4a65c_init_da8c8_11 : decode cJx4a65c_init_da8c8 11 = .ok (.return_, 1) := by decide +kernel
set_option maxRecDepth 20000 in
theorem ggJx4a65c_grow_92f84_J8_newLength_cabcc : GoodIn wsJx4a65c_grow_92f84 wsJ8_newLength_cabcc := goodIn_r _ [11, 12, 4, 5, 6, 13, 14, 15, 10, 16] (by decide +kernel) (by decide +kernel)
set_option maxRecDepth 20000 in
theorem gJx4a65c_grow_92f84_J8_newLength_cabcc : GoodIn wsJx4a65c_grow_92f84 (va_wsS RJx4a65c 73 yJ8_newLength_cabcc wsJ8_newLength_cabcc) := goodIn_app (goodIn_of _ (by decide +kernel)) ggJx4a65c_grow_92f84_J8_newLength_cabcc
set_option maxRecDepth 20000 in
theorem ggJx4a65c_grow_92f84_J7_copyOf_1904c : GoodIn wsJx4a65c_grow_92f84 wsJ7_copyOf_1904c := goodIn_r _ [20, 21, 22, 23, 24, 25, 26, 19, 27, 28, 29, 30, 31, 5, 32, 33, 34, 35, 36] (by decide +kernel) (by decide +kernel)
set_option maxRecDepth 20000 in
theorem gJx4a65c_grow_92f84_J7_copyOf_1904c : GoodIn wsJx4a65c_grow_92f84 (va_wsS RJx4a65c 66 yJ7_copyOf_1904c wsJ7_copyOf_1904c) := goodIn_app (goodIn_of _ (by decide +kernel)) ggJx4a65c_grow_92f84_J7_copyOf_1904c
theorem dJx4a65c_grow_92f84_0 : decode cJx4a65c_grow_92f84 0 = .ok (.aload_n 0, 1) := by decide +kernel
theorem dJx4a65c_grow_92f84_1 : decode cJx4a65c_grow_92f84 1 = .ok (.getfield 9, 3) := by decide +kernel
theorem dJx4a65c_grow_92f84_4 : decode cJx4a65c_grow_92f84 4 = .ok (.arraylength, 1) := by decide +kernel
theorem dJx4a65c_grow_92f84_5 : decode cJx4a65c_grow_92f84 5 = .ok (.istore_n 2, 1) := by decide +kernel
theorem dJx4a65c_grow_92f84_6 : decode cJx4a65c_grow_92f84 6 = .ok (.iload_n 2, 1) := by decide +kernel
theorem dJx4a65c_grow_92f84_7 : decode cJx4a65c_grow_92f84 7 = .ok (.ifCond .gt 13, 3) := by decide +kernel
theorem dJx4a65c_grow_92f84_10 : decode cJx4a65c_grow_92f84 10 = .ok (.aload_n 0, 1) := by decide +kernel
theorem dJx4a65c_grow_92f84_11 : decode cJx4a65c_grow_92f84 11 = .ok (.getfield 9, 3) := by decide +kernel
theorem dJx4a65c_grow_92f84_14 : decode cJx4a65c_grow_92f84 14 = .ok (.getstatic 39, 3) := by decide +kernel
theorem dJx4a65c_grow_92f84_17 : decode cJx4a65c_grow_92f84 17 = .ok (.if_acmp .eq 28, 3) := by decide +kernel
theorem dJx4a65c_grow_92f84_20 : decode cJx4a65c_grow_92f84 20 = .ok (.iload_n 2, 1) := by decide +kernel
theorem dJx4a65c_grow_92f84_21 : decode cJx4a65c_grow_92f84 21 = .ok (.iload_n 1, 1) := by decide +kernel
theorem dJx4a65c_grow_92f84_22 : decode cJx4a65c_grow_92f84 22 = .ok (.iload_n 2, 1) := by decide +kernel
theorem dJx4a65c_grow_92f84_23 : decode cJx4a65c_grow_92f84 23 = .ok (.isub, 1) := by decide +kernel
theorem dJx4a65c_grow_92f84_24 : decode cJx4a65c_grow_92f84 24 = .ok (.iload_n 2, 1) := by decide +kernel
theorem dJx4a65c_grow_92f84_25 : decode cJx4a65c_grow_92f84 25 = .ok (.iconst 1, 1) := by decide +kernel
theorem dJx4a65c_grow_92f84_26 : decode cJx4a65c_grow_92f84 26 = .ok (.ishr, 1) := by decide +kernel
theorem dJx4a65c_grow_92f84_27 : decode cJx4a65c_grow_92f84 27 = .ok (.invokestatic 73, 3) := by decide +kernel
theorem dJx4a65c_grow_92f84_30 : decode cJx4a65c_grow_92f84 30 = .ok (.istore_n 3, 1) := by decide +kernel
theorem dJx4a65c_grow_92f84_31 : decode cJx4a65c_grow_92f84 31 = .ok (.aload_n 0, 1) := by decide +kernel
theorem dJx4a65c_grow_92f84_32 : decode cJx4a65c_grow_92f84 32 = .ok (.aload_n 0, 1) := by decide +kernel
theorem dJx4a65c_grow_92f84_33 : decode cJx4a65c_grow_92f84 33 = .ok (.getfield 9, 3) := by decide +kernel
theorem dJx4a65c_grow_92f84_36 : decode cJx4a65c_grow_92f84 36 = .ok (.iload_n 3, 1) := by decide +kernel
theorem dJx4a65c_grow_92f84_37 : decode cJx4a65c_grow_92f84 37 = .ok (.invokestatic 66, 3) := by decide +kernel
theorem dJx4a65c_grow_92f84_40 : decode cJx4a65c_grow_92f84 40 = .ok (.dup_x1, 1) := by decide +kernel
theorem dJx4a65c_grow_92f84_41 : decode cJx4a65c_grow_92f84 41 = .ok (.putfield 9, 3) := by decide +kernel
theorem dJx4a65c_grow_92f84_44 : decode cJx4a65c_grow_92f84 44 = .ok (.areturn, 1) := by decide +kernel
theorem dJx4a65c_grow_92f84_45 : decode cJx4a65c_grow_92f84 45 = .ok (.aload_n 0, 1) := by decide +kernel
theorem dJx4a65c_grow_92f84_46 : decode cJx4a65c_grow_92f84 46 = .ok (.bipush 10, 2) := by decide +kernel
theorem dJx4a65c_grow_92f84_48 : decode cJx4a65c_grow_92f84 48 = .ok (.iload_n 1, 1) := by decide +kernel
theorem dJx4a65c_grow_92f84_49 : decode cJx4a65c_grow_92f84 49 = .ok (.invokestatic 79, 3) := by decide +kernel
theorem dJx4a65c_grow_92f84_52 : decode cJx4a65c_grow_92f84 52 = .ok (.anewarray 7, 3) := by decide +kernel
theorem dJx4a65c_grow_92f84_55 : decode cJx4a65c_grow_92f84 55 = .ok (.dup_x1, 1) := by decide +kernel
theorem dJx4a65c_grow_92f84_56 : decode cJx4a65c_grow_92f84 56 = .ok (.putfield 9, 3) := by decide +kernel
theorem dJx4a65c_grow_92f84_59 : decode cJx4a65c_grow_92f84 59 = .ok (.areturn, 1) := by decide +kernel
set_option maxRecDepth 20000 in
theorem ggJx4a65c_grow_d5877_Jx4a65c_grow_92f84 : GoodIn wsJx4a65c_grow_d5877 wsJx4a65c_grow_92f84 := goodIn_r _ [6, 7, 8, 9, 10, 11, 12, 13, 14, 15, 16, 17, 18, 19, 20, 21, 22, 23, 24, 25, 26, 27, 28, 29, 30, 31, 32, 33, 34, 35, 36, 37, 38, 39, 40, 41, 42, 43, 44, 45] (by decide +kernel) (by decide +kernel)
set_option maxRecDepth 20000 in
theorem gJx4a65c_grow_d5877_Jx4a65c_grow_92f84 : GoodIn wsJx4a65c_grow_d5877 (wsV RJx4a65c 69 RJx4a65c yJx4a65c_grow_92f84 wsJx4a65c_grow_92f84) := goodIn_app (goodIn_of _ (by decide +kernel)) ggJx4a65c_grow_d5877_Jx4a65c_grow_92f84
theorem dJx4a65c_grow_d5877_0 : decode cJx4a65c_grow_d5877 0 = .ok (.aload_n 0, 1) := by decide +kernel
theorem dJx4a65c_grow_d5877_1 : decode cJx4a65c_grow_d5877 1 = .ok (.aload_n 0, 1) := by decide +kernel
theorem dJx4a65c_grow_d5877_2 : decode cJx4a65c_grow_d5877 2 = .ok (.getfield 48, 3) := by decide +kernel
theorem dJx4a65c_grow_d5877_5 : decode cJx4a65c_grow_d5877 5 = .ok (.iconst 1, 1) := by decide +kernel
theorem dJx4a65c_grow_d5877_6 : decode cJx4a65c_grow_d5877 6 = .ok (.iadd, 1) := by decide +kernel
theorem dJx4a65c_grow_d5877_7 : decode cJx4a65c_grow_d5877 7 = .ok (.invokevirtual 69, 3) := by decide +kernel
theorem dJx4a65c_grow_d5877_10 : decode cJx4a65c_grow_d5877 10 = .ok (.areturn, 1) := by decide +kernel
theorem dJx4a65c_size_8abf5_0 : decode cJx4a65c_size_8abf5 0 = .ok (.aload_n 0, 1) := by decide +kernel
theorem dJx4a65c_size_8abf5_1 : decode cJx4a65c_size_8abf5 1 = .ok (.getfield 48, 3) := by decide +kernel
theorem dJx4a65c_size_8abf5_4 : decode cJx4a65c_size_8abf5 4 = .ok (.ireturn, 1) := by decide +kernel
theorem dJx4a65c_elementData_915e3_0 : decode cJx4a65c_elementData_915e3 0 = .ok (.aload_n 0, 1) := by decide +kernel
theorem dJx4a65c_elementData_915e3_1 : decode cJx4a65c_elementData_915e3 1 = .ok (.getfield 9, 3) := by decide +kernel
theorem dJx4a65c_elementData_915e3_4 : decode cJx4a65c_elementData_915e3 4 = .ok (.iload_n 1, 1) := by decide +kernel
theorem dJx4a65c_elementData_915e3_5 : decode cJx4a65c_elementData_915e3 5 = .ok (.aaload, 1) := by decide +kernel
theorem dJx4a65c_elementData_915e3_6 : decode cJx4a65c_elementData_915e3 6 = .ok (.areturn, 1) := by decide +kernel
set_option maxRecDepth 20000 in
theorem ggJx4a65c_get_915e3_J15_checkIndex_7cf53 : GoodIn wsJx4a65c_get_915e3 wsJ15_checkIndex_7cf53 := goodIn_r _ [5, 6, 7, 8, 9] (by decide +kernel) (by decide +kernel)
set_option maxRecDepth 20000 in
theorem gJx4a65c_get_915e3_J15_checkIndex_7cf53 : GoodIn wsJx4a65c_get_915e3 (va_wsS RJx4a65c 118 yJ15_checkIndex_7cf53 wsJ15_checkIndex_7cf53) := goodIn_app (goodIn_of _ (by decide +kernel)) ggJx4a65c_get_915e3_J15_checkIndex_7cf53
set_option maxRecDepth 20000 in
theorem ggJx4a65c_get_915e3_Jx4a65c_elementData_915e3 : GoodIn wsJx4a65c_get_915e3 wsJx4a65c_elementData_915e3 := goodIn_r _ [14, 15, 16, 17, 18] (by decide +kernel) (by decide +kernel)
set_option maxRecDepth 20000 in
theorem gJx4a65c_get_915e3_Jx4a65c_elementData_915e3 : GoodIn wsJx4a65c_get_915e3 (wsV RJx4a65c 123 RJx4a65c yJx4a65c_elementData_915e3 wsJx4a65c_elementData_915e3) := goodIn_app (goodIn_of _ (by decide +kernel)) ggJx4a65c_get_915e3_Jx4a65c_elementData_915e3
theorem dJx4a65c_get_915e3_0 : decode cJx4a65c_get_915e3 0 = .ok (.iload_n 1, 1) := by decide +kernel
theorem dJx4a65c_get_915e3_1 : decode cJx4a65c_get_915e3 1 = .ok (.aload_n 0, 1) := by decide +kernel
theorem dJx4a65c_get_915e3_2 : decode cJx4a65c_get_915e3 2 = .ok (.getfield 48, 3) := by decide +kernel
theorem dJx4a65c_get_915e3_5 : decode cJx4a65c_get_915e3 5 = .ok (.invokestatic 118, 3) := by decide +kernel
theorem dJx4a65c_get_915e3_8 : decode cJx4a65c_get_915e3 8 = .ok (.pop, 1) := by decide +kernel
theorem dJx4a65c_get_915e3_9 : decode cJx4a65c_get_915e3 9 = .ok (.aload_n 0, 1) := by decide +kernel
theorem dJx4a65c_get_915e3_10 : decode cJx4a65c_get_915e3 10 = .ok (.iload_n 1, 1) := by decide +kernel
theorem dJx4a65c_get_915e3_11 : decode cJx4a65c_get_915e3 11 = .ok (.invokevirtual 123, 3) := by decide +kernel
theorem dJx4a65c_get_915e3_14 : decode cJx4a65c_get_915e3 14 = .ok (.areturn, 1) := by decide +kernel
set_option maxRecDepth 20000 in
theorem ggJx4a65c_add_72be8_Jx4a65c_grow_d5877 : GoodIn wsJx4a65c_add_72be8 wsJx4a65c_grow_d5877 := goodIn_r _ [6, 1, 7, 8, 9, 5, 10, 11, 12, 13, 14, 15, 16, 17, 18, 19, 20, 21, 22, 23, 24, 25, 26, 27, 28, 29, 30, 31, 32, 33, 34, 35, 36, 37, 38, 39, 40, 41, 42, 43, 44, 45, 46, 47, 48, 49] (by decide +kernel) (by decide +kernel)
set_option maxRecDepth 20000 in
theorem gJx4a65c_add_72be8_Jx4a65c_grow_d5877 : GoodIn wsJx4a65c_add_72be8 (wsV RJx4a65c 129 RJx4a65c yJx4a65c_grow_d5877 wsJx4a65c_grow_d5877) := goodIn_app (goodIn_of _ (by decide +kernel)) ggJx4a65c_add_72be8_Jx4a65c_grow_d5877
theorem dJx4a65c_add_72be8_0 : decode cJx4a65c_add_72be8 0 = .ok (.iload_n 3, 1) := by decide +kernel
theorem dJx4a65c_add_72be8_1 : decode cJx4a65c_add_72be8 1 = .ok (.aload_n 2, 1) := by decide +kernel
theorem dJx4a65c_add_72be8_2 : decode cJx4a65c_add_72be8 2 = .ok (.arraylength, 1) := by decide +kernel
theorem dJx4a65c_add_72be8_3 : decode cJx4a65c_add_72be8 3 = .ok (.if_icmp .ne 8, 3) := by decide +kernel
theorem dJx4a65c_add_72be8_6 : decode cJx4a65c_add_72be8 6 = .ok (.aload_n 0, 1) := by decide +kernel
theorem dJx4a65c_add_72be8_7 : decode cJx4a65c_add_72be8 7 = .ok (.invokevirtual 129, 3) := by decide +kernel
theorem dJx4a65c_add_72be8_10 : decode cJx4a65c_add_72be8 10 = .ok (.astore_n 2, 1) := by decide +kernel
theorem dJx4a65c_add_72be8_11 : decode cJx4a65c_add_72be8 11 = .ok (.aload_n 2, 1) := by decide +kernel
theorem dJx4a65c_add_72be8_12 : decode cJx4a65c_add_72be8 12 = .ok (.iload_n 3, 1) := by decide +kernel
theorem dJx4a65c_add_72be8_13 : decode cJx4a65c_add_72be8 13 = .ok (.aload_n 1, 1) := by decide +kernel
theorem dJx4a65c_add_72be8_14 : decode cJx4a65c_add_72be8 14 = .ok (.aastore, 1) := by decide +kernel
theorem dJx4a65c_add_72be8_15 : decode cJx4a65c_add_72be8 15 = .ok (.aload_n 0, 1) := by decide +kernel
theorem dJx4a65c_add_72be8_16 : decode cJx4a65c_add_72be8 16 = .ok (.iload_n 3, 1) := by decide +kernel
theorem dJx4a65c_add_72be8_17 : decode cJx4a65c_add_72be8 17 = .ok (.iconst 1, 1) := by decide +kernel
theorem dJx4a65c_add_72be8_18 : decode cJx4a65c_add_72be8 18 = .ok (.iadd, 1) := by decide +kernel
theorem dJx4a65c_add_72be8_19 : decode cJx4a65c_add_72be8 19 = .ok (.putfield 48, 3) := by decide +kernel
theorem dJx4a65c_add_72be8_22 : decode cJx4a65c_add_72be8 22 = .ok (.return_, 1) := by decide +kernel
set_option maxRecDepth 20000 in
theorem ggJx4a65c_add_9ea2d_Jx4a65c_add_72be8 : GoodIn wsJx4a65c_add_9ea2d wsJx4a65c_add_72be8 := goodIn_r _ [9, 4, 10, 11, 12, 8, 13, 14, 15, 16, 17, 3, 18, 19, 20, 21, 22, 23, 24, 25, 26, 27, 28, 29, 30, 31, 32, 33, 34, 35, 36, 37, 38, 39, 40, 41, 42, 43, 44, 45, 46, 47, 48, 49, 50, 51, 52, 53, 54, 55] (by decide +kernel) (by decide +kernel)
set_option maxRecDepth 20000 in
theorem gJx4a65c_add_9ea2d_Jx4a65c_add_72be8 : GoodIn wsJx4a65c_add_9ea2d (wsV RJx4a65c 131 RJx4a65c yJx4a65c_add_72be8 wsJx4a65c_add_72be8) := goodIn_app (goodIn_of _ (by decide +kernel)) ggJx4a65c_add_9ea2d_Jx4a65c_add_72be8
theorem dJx4a65c_add_9ea2d_0 : decode cJx4a65c_add_9ea2d 0 = .ok (.aload_n 0, 1) := by decide +kernel
theorem dJx4a65c_add_9ea2d_1 : decode cJx4a65c_add_9ea2d 1 = .ok (.dup, 1) := by decide +kernel
theorem dJx4a65c_add_9ea2d_2 : decode cJx4a65c_add_9ea2d 2 = .ok (.getfield 63, 3) := by decide +kernel
theorem dJx4a65c_add_9ea2d_5 : decode cJx4a65c_add_9ea2d 5 = .ok (.iconst 1, 1) := by decide +kernel
theorem dJx4a65c_add_9ea2d_6 : decode cJx4a65c_add_9ea2d 6 = .ok (.iadd, 1) := by decide +kernel
theorem dJx4a65c_add_9ea2d_7 : decode cJx4a65c_add_9ea2d 7 = .ok (.putfield 63, 3) := by decide +kernel
theorem dJx4a65c_add_9ea2d_10 : decode cJx4a65c_add_9ea2d 10 = .ok (.aload_n 0, 1) := by decide +kernel
theorem dJx4a65c_add_9ea2d_11 : decode cJx4a65c_add_9ea2d 11 = .ok (.aload_n 1, 1) := by decide +kernel
theorem dJx4a65c_add_9ea2d_12 : decode cJx4a65c_add_9ea2d 12 = .ok (.aload_n 0, 1) := by decide +kernel
theorem dJx4a65c_add_9ea2d_13 : decode cJx4a65c_add_9ea2d 13 = .ok (.getfield 9, 3) := by decide +kernel
theorem dJx4a65c_add_9ea2d_16 : decode cJx4a65c_add_9ea2d 16 = .ok (.aload_n 0, 1) := by decide +kernel
theorem dJx4a65c_add_9ea2d_17 : decode cJx4a65c_add_9ea2d 17 = .ok (.getfield 48, 3) := by decide +kernel
theorem dJx4a65c_add_9ea2d_20 : decode cJx4a65c_add_9ea2d 20 = .ok (.invokevirtual 131, 3) := by decide +kernel
theorem dJx4a65c_add_9ea2d_23 : decode cJx4a65c_add_9ea2d 23 = .ok (.iconst 1, 1) := by decide +kernel
theorem dJx4a65c_add_9ea2d_24 : decode cJx4a65c_add_9ea2d 24 = .ok (.ireturn, 1) := by decide +kernel
theorem dJ7_fill_d0a16_0 : decode cJ7_fill_d0a16 0 = .ok (.iconst 0, 1) := by decide +kernel
theorem dJ7_fill_d0a16_1 : decode cJ7_fill_d0a16 1 = .ok (.istore_n 3, 1) := by decide +kernel
theorem dJ7_fill_d0a16_2 : decode cJ7_fill_d0a16 2 = .ok (.aload_n 0, 1) := by decide +kernel
theorem dJ7_fill_d0a16_3 : decode cJ7_fill_d0a16 3 = .ok (.arraylength, 1) := by decide +kernel
theorem dJ7_fill_d0a16_4 : decode cJ7_fill_d0a16 4 = .ok (.istore 4, 2) := by decide +kernel
theorem dJ7_fill_d0a16_6 : decode cJ7_fill_d0a16 6 = .ok (.iload_n 3, 1) := by decide +kernel
theorem dJ7_fill_d0a16_7 : decode cJ7_fill_d0a16 7 = .ok (.iload 4, 2) := by decide +kernel
theorem dJ7_fill_d0a16_9 : decode cJ7_fill_d0a16 9 = .ok (.if_icmp .ge 13, 3) := by decide +kernel
theorem dJ7_fill_d0a16_12 : decode cJ7_fill_d0a16 12 = .ok (.aload_n 0, 1) := by decide +kernel
theorem dJ7_fill_d0a16_13 : decode cJ7_fill_d0a16 13 = .ok (.iload_n 3, 1) := by decide +kernel
theorem dJ7_fill_d0a16_14 : decode cJ7_fill_d0a16 14 = .ok (.lload_n 1, 1) := by decide +kernel
theorem dJ7_fill_d0a16_15 : decode cJ7_fill_d0a16 15 = .ok (.lastore, 1) := by decide +kernel
theorem dJ7_fill_d0a16_16 : decode cJ7_fill_d0a16 16 = .ok (.iinc 3 1, 3) := by decide +kernel
theorem dJ7_fill_d0a16_19 : decode cJ7_fill_d0a16 19 = .ok (.goto (-13), 3) := by decide +kernel
theorem dJ7_fill_d0a16_22 : decode cJ7_fill_d0a16 22 = .ok (.return_, 1) := by decide +kernel
set_option maxRecDepth 20000 in
theorem ggJ7_copyOf_1904c_J7_copyOf_6403c : GoodIn wsJ7_copyOf_1904c wsJ7_copyOf_6403c := goodIn_r _ [8, 9, 10, 11, 12, 13, 14, 15, 16, 17, 18] (by decide +kernel) (by decide +kernel)
set_option maxRecDepth 20000 in
theorem gJ7_copyOf_1904c_J7_copyOf_6403c : GoodIn wsJ7_copyOf_1904c (va_wsS RJ7 300 yJ7_copyOf_6403c wsJ7_copyOf_6403c) := goodIn_app (goodIn_of _ (by decide +kernel)) ggJ7_copyOf_1904c_J7_copyOf_6403c
theorem dJ7_copyOf_1904c_0 : decode cJ7_copyOf_1904c 0 = .ok (.aload_n 0, 1) := by decide +kernel
theorem dJ7_copyOf_1904c_1 : decode cJ7_copyOf_1904c 1 = .ok (.iload_n 1, 1) := by decide +kernel
theorem dJ7_copyOf_1904c_2 : decode cJ7_copyOf_1904c 2 = .ok (.aload_n 0, 1) := by decide +kernel
theorem dJ7_copyOf_1904c_3 : decode cJ7_copyOf_1904c 3 = .ok (.invokevirtual 86, 3) := by decide +kernel
theorem dJ7_copyOf_1904c_6 : decode cJ7_copyOf_1904c 6 = .ok (.invokestatic 300, 3) := by decide +kernel
theorem dJ7_copyOf_1904c_9 : decode cJ7_copyOf_1904c 9 = .ok (.areturn, 1) := by decide +kernel
theorem dJ7_copyOf_6403c_0 : decode cJ7_copyOf_6403c 0 = .ok (.aload_n 2, 1) := by decide +kernel
theorem dJ7_copyOf_6403c_1 : decode cJ7_copyOf_6403c 1 = .ok (.ldc 110, 2) := by decide +kernel
theorem dJ7_copyOf_6403c_3 : decode cJ7_copyOf_6403c 3 = .ok (.if_acmp .ne 10, 3) := by decide +kernel
theorem dJ7_copyOf_6403c_6 : decode cJ7_copyOf_6403c 6 = .ok (.iload_n 1, 1) := by decide +kernel
theorem dJ7_copyOf_6403c_7 : decode cJ7_copyOf_6403c 7 = .ok (.anewarray 2, 3) := by decide +kernel
theorem dJ7_copyOf_6403c_10 : decode cJ7_copyOf_6403c 10 = .ok (.goto 14, 3) := by decide +kernel
theorem dJ7_copyOf_6403c_13 : decode cJ7_copyOf_6403c 13 = .ok (.aload_n 2, 1) := by decide +kernel
theorem dJ7_copyOf_6403c_14 : decode cJ7_copyOf_6403c 14 = .ok (.invokevirtual 90, 3) := by decide +kernel
theorem dJ7_copyOf_6403c_17 : decode cJ7_copyOf_6403c 17 = .ok (.iload_n 1, 1) := by decide +kernel
theorem dJ7_copyOf_6403c_18 : decode cJ7_copyOf_6403c 18 = .ok (.invokestatic 95, 3) := by decide +kernel
theorem dJ7_copyOf_6403c_21 : decode cJ7_copyOf_6403c 21 = .ok (.checkcast 110, 3) := by decide +kernel
theorem dJ7_copyOf_6403c_24 : decode cJ7_copyOf_6403c 24 = .ok (.astore_n 3, 1) := by decide +kernel
theorem dJ7_copyOf_6403c_25 : decode cJ7_copyOf_6403c 25 = .ok (.aload_n 0, 1) := by decide +kernel
theorem dJ7_copyOf_6403c_26 : decode cJ7_copyOf_6403c 26 = .ok (.iconst 0, 1) := by decide +kernel
theorem dJ7_copyOf_6403c_27 : decode cJ7_copyOf_6403c 27 = .ok (.aload_n 3, 1) := by decide +kernel
theorem dJ7_copyOf_6403c_28 : decode cJ7_copyOf_6403c 28 = .ok (.iconst 0, 1) := by decide +kernel
theorem dJ7_copyOf_6403c_29 : decode cJ7_copyOf_6403c 29 = .ok (.aload_n 0, 1) := by decide +kernel
theorem dJ7_copyOf_6403c_30 : decode cJ7_copyOf_6403c 30 = .ok (.arraylength, 1) := by decide +kernel
theorem dJ7_copyOf_6403c_31 : decode cJ7_copyOf_6403c 31 = .ok (.iload_n 1, 1) := by decide +kernel
theorem dJ7_copyOf_6403c_32 : decode cJ7_copyOf_6403c 32 = .ok (.invokestatic 304, 3) := by decide +kernel
theorem dJ7_copyOf_6403c_35 : decode cJ7_copyOf_6403c 35 = .ok (.invokestatic 150, 3) := by decide +kernel
theorem dJ7_copyOf_6403c_38 : decode cJ7_copyOf_6403c 38 = .ok (.aload_n 3, 1) := by decide +kernel
theorem dJ7_copyOf_6403c_39 : decode cJ7_copyOf_6403c 39 = .ok (.areturn, 1) := by decide +kernel
set_option maxRecDepth 20000 in
theorem ggJ15_checkIndex_7cf53_J3_checkIndex_8e157 : GoodIn wsJ15_checkIndex_7cf53 wsJ3_checkIndex_8e157 := goodIn_r _ [4] (by decide +kernel) (by decide +kernel)
set_option maxRecDepth 20000 in
theorem gJ15_checkIndex_7cf53_J3_checkIndex_8e157 : GoodIn wsJ15_checkIndex_7cf53 (va_wsS RJ15 105 yJ3_checkIndex_8e157 wsJ3_checkIndex_8e157) := goodIn_app (goodIn_of _ (by decide +kernel)) ggJ15_checkIndex_7cf53_J3_checkIndex_8e157
theorem dJ15_checkIndex_7cf53_0 : decode cJ15_checkIndex_7cf53 0 = .ok (.iload_n 0, 1) := by decide +kernel
theorem dJ15_checkIndex_7cf53_1 : decode cJ15_checkIndex_7cf53 1 = .ok (.iload_n 1, 1) := by decide +kernel
theorem dJ15_checkIndex_7cf53_2 : decode cJ15_checkIndex_7cf53 2 = .ok (.aconst_null, 1) := by decide +kernel
theorem dJ15_checkIndex_7cf53_3 : decode cJ15_checkIndex_7cf53 3 = .ok (.invokestatic 105, 3) := by decide +kernel
theorem dJ15_checkIndex_7cf53_6 : decode cJ15_checkIndex_7cf53 6 = .ok (.ireturn, 1) := by decide +kernel
set_option maxRecDepth 20000 in
theorem ggJ8_newLength_cabcc_J8_hugeLength_7cf53 : GoodIn wsJ8_newLength_cabcc wsJ8_hugeLength_7cf53 := goodIn_r _ [9, 5] (by decide +kernel) (by decide +kernel)
set_option maxRecDepth 20000 in
theorem gJ8_newLength_cabcc_J8_hugeLength_7cf53 : GoodIn wsJ8_newLength_cabcc (va_wsS RJ8 201 yJ8_hugeLength_7cf53 wsJ8_hugeLength_7cf53) := goodIn_app (goodIn_of _ (by decide +kernel)) ggJ8_newLength_cabcc_J8_hugeLength_7cf53
theorem dJ8_newLength_cabcc_0 : decode cJ8_newLength_cabcc 0 = .ok (.iload_n 0, 1) := by decide +kernel
theorem dJ8_newLength_cabcc_1 : decode cJ8_newLength_cabcc 1 = .ok (.iload_n 1, 1) := by decide +kernel
theorem dJ8_newLength_cabcc_2 : decode cJ8_newLength_cabcc 2 = .ok (.iload_n 2, 1) := by decide +kernel
theorem dJ8_newLength_cabcc_3 : decode cJ8_newLength_cabcc 3 = .ok (.invokestatic 194, 3) := by decide +kernel
theorem dJ8_newLength_cabcc_6 : decode cJ8_newLength_cabcc 6 = .ok (.iadd, 1) := by decide +kernel
theorem dJ8_newLength_cabcc_7 : decode cJ8_newLength_cabcc 7 = .ok (.istore_n 3, 1) := by decide +kernel
theorem dJ8_newLength_cabcc_8 : decode cJ8_newLength_cabcc 8 = .ok (.iconst 0, 1) := by decide +kernel
theorem dJ8_newLength_cabcc_9 : decode cJ8_newLength_cabcc 9 = .ok (.iload_n 3, 1) := by decide +kernel
theorem dJ8_newLength_cabcc_10 : decode cJ8_newLength_cabcc 10 = .ok (.if_icmp .ge 11, 3) := by decide +kernel
theorem dJ8_newLength_cabcc_13 : decode cJ8_newLength_cabcc 13 = .ok (.iload_n 3, 1) := by decide +kernel
theorem dJ8_newLength_cabcc_14 : decode cJ8_newLength_cabcc 14 = .ok (.ldc 200, 2) := by decide +kernel
theorem dJ8_newLength_cabcc_16 : decode cJ8_newLength_cabcc 16 = .ok (.if_icmp .gt 5, 3) := by decide +kernel
theorem dJ8_newLength_cabcc_19 : decode cJ8_newLength_cabcc 19 = .ok (.iload_n 3, 1) := by decide +kernel
theorem dJ8_newLength_cabcc_20 : decode cJ8_newLength_cabcc 20 = .ok (.ireturn, 1) := by decide +kernel
theorem dJ8_newLength_cabcc_21 : decode cJ8_newLength_cabcc 21 = .ok (.iload_n 0, 1) := by decide +kernel
theorem dJ8_newLength_cabcc_22 : decode cJ8_newLength_cabcc 22 = .ok (.iload_n 1, 1) := by decide +kernel
theorem dJ8_newLength_cabcc_23 : decode cJ8_newLength_cabcc 23 = .ok (.invokestatic 201, 3) := by decide +kernel
theorem dJ8_newLength_cabcc_26 : decode cJ8_newLength_cabcc 26 = .ok (.ireturn, 1) := by decide +kernel
theorem dJ8_hugeLength_7cf53_0 : decode cJ8_hugeLength_7cf53 0 = .ok (.iload_n 0, 1) := by decide +kernel
theorem dJ8_hugeLength_7cf53_1 : decode cJ8_hugeLength_7cf53 1 = .ok (.iload_n 1, 1) := by decide +kernel
theorem dJ8_hugeLength_7cf53_2 : decode cJ8_hugeLength_7cf53 2 = .ok (.iadd, 1) := by decide +kernel
theorem dJ8_hugeLength_7cf53_3 : decode cJ8_hugeLength_7cf53 3 = .ok (.istore_n 2, 1) := by decide +kernel
theorem dJ8_hugeLength_7cf53_4 : decode cJ8_hugeLength_7cf53 4 = .ok (.iload_n 2, 1) := by decide +kernel
theorem dJ8_hugeLength_7cf53_5 : decode cJ8_hugeLength_7cf53 5 = .ok (.ifCond .ge 44, 3) := by decide +kernel
theorem dJ8_hugeLength_7cf53_8 : decode cJ8_hugeLength_7cf53 8 = .ok (.new 204, 3) := by decide +kernel
theorem dJ8_hugeLength_7cf53_11 : decode cJ8_hugeLength_7cf53 11 = .ok (.dup, 1) := by decide +kernel
theorem dJ8_hugeLength_7cf53_12 : decode cJ8_hugeLength_7cf53 12 = .ok (.new 89, 3) := by decide +kernel
theorem dJ8_hugeLength_7cf53_15 : decode cJ8_hugeLength_7cf53 15 = .ok (.dup, 1) := by decide +kernel
theorem dJ8_hugeLength_7cf53_16 : decode cJ8_hugeLength_7cf53 16 = .ok (.invokespecial 91, 3) := by decide +kernel
theorem dJ8_hugeLength_7cf53_19 : decode cJ8_hugeLength_7cf53 19 = .ok (.ldc 206, 2) := by decide +kernel
theorem dJ8_hugeLength_7cf53_21 : decode cJ8_hugeLength_7cf53 21 = .ok (.invokevirtual 94, 3) := by decide +kernel
theorem dJ8_hugeLength_7cf53_24 : decode cJ8_hugeLength_7cf53 24 = .ok (.iload_n 0, 1) := by decide +kernel
theorem dJ8_hugeLength_7cf53_25 : decode cJ8_hugeLength_7cf53 25 = .ok (.invokevirtual 98, 3) := by decide +kernel
theorem dJ8_hugeLength_7cf53_28 : decode cJ8_hugeLength_7cf53 28 = .ok (.ldc 208, 2) := by decide +kernel
theorem dJ8_hugeLength_7cf53_30 : decode cJ8_hugeLength_7cf53 30 = .ok (.invokevirtual 94, 3) := by decide +kernel
theorem dJ8_hugeLength_7cf53_33 : decode cJ8_hugeLength_7cf53 33 = .ok (.iload_n 1, 1) := by decide +kernel
theorem dJ8_hugeLength_7cf53_34 : decode cJ8_hugeLength_7cf53 34 = .ok (.invokevirtual 98, 3) := by decide +kernel
theorem dJ8_hugeLength_7cf53_37 : decode cJ8_hugeLength_7cf53 37 = .ok (.ldc 210, 2) := by decide +kernel
theorem dJ8_hugeLength_7cf53_39 : decode cJ8_hugeLength_7cf53 39 = .ok (.invokevirtual 94, 3) := by decide +kernel
theorem dJ8_hugeLength_7cf53_42 : decode cJ8_hugeLength_7cf53 42 = .ok (.invokevirtual 101, 3) := by decide +kernel
theorem dJ8_hugeLength_7cf53_45 : decode cJ8_hugeLength_7cf53 45 = .ok (.invokespecial 212, 3) := by decide +kernel
theorem dJ8_hugeLength_7cf53_48 : decode cJ8_hugeLength_7cf53 48 = .ok (.athrow, 1) := by decide +kernel
theorem dJ8_hugeLength_7cf53_49 : decode cJ8_hugeLength_7cf53 49 = .ok (.iload_n 2, 1) := by decide +kernel
theorem dJ8_hugeLength_7cf53_50 : decode cJ8_hugeLength_7cf53 50 = .ok (.ldc 200, 2) := by decide +kernel
theorem dJ8_hugeLength_7cf53_52 : decode cJ8_hugeLength_7cf53 52 = .ok (.if_icmp .gt 6, 3) := by decide +kernel
theorem dJ8_hugeLength_7cf53_55 : decode cJ8_hugeLength_7cf53 55 = .ok (.ldc 200, 2) := by decide +kernel
theorem dJ8_hugeLength_7cf53_57 : decode cJ8_hugeLength_7cf53 57 = .ok (.ireturn, 1) := by decide +kernel
theorem dJ8_hugeLength_7cf53_58 : decode cJ8_hugeLength_7cf53 58 = .ok (.iload_n 2, 1) := by decide +kernel
theorem dJ8_hugeLength_7cf53_59 : decode cJ8_hugeLength_7cf53 59 = .ok (.ireturn, 1) := by decide +kernel
theorem dJ3_checkIndex_8e157_0 : decode cJ3_checkIndex_8e157 0 = .ok (.iload_n 0, 1) := by decide +kernel
theorem dJ3_checkIndex_8e157_1 : decode cJ3_checkIndex_8e157 1 = .ok (.ifCond .lt 8, 3) := by decide +kernel
theorem dJ3_checkIndex_8e157_4 : decode cJ3_checkIndex_8e157 4 = .ok (.iload_n 0, 1) := by decide +kernel
theorem dJ3_checkIndex_8e157_5 : decode cJ3_checkIndex_8e157 5 = .ok (.iload_n 1, 1) := by decide +kernel
theorem dJ3_checkIndex_8e157_6 : decode cJ3_checkIndex_8e157 6 = .ok (.if_icmp .lt 10, 3) := by decide +kernel
theorem dJ3_checkIndex_8e157_9 : decode cJ3_checkIndex_8e157 9 = .ok (.aload_n 2, 1) := by decide +kernel
theorem dJ3_checkIndex_8e157_10 : decode cJ3_checkIndex_8e157 10 = .ok (.iload_n 0, 1) := by decide +kernel
theorem dJ3_checkIndex_8e157_11 : decode cJ3_checkIndex_8e157 11 = .ok (.iload_n 1, 1) := by decide +kernel
theorem dJ3_checkIndex_8e157_12 : decode cJ3_checkIndex_8e157 12 = .ok (.invokestatic 95, 3) := by decide +kernel
theorem dJ3_checkIndex_8e157_15 : decode cJ3_checkIndex_8e157 15 = .ok (.athrow, 1) := by decide +kernel
theorem dJ3_checkIndex_8e157_16 : decode cJ3_checkIndex_8e157 16 = .ok (.iload_n 0, 1) := by decide +kernel
theorem dJ3_checkIndex_8e157_17 : decode cJ3_checkIndex_8e157 17 = .ok (.ireturn, 1) := by decide +kernel
theorem dL_part_0 : decode cL_part 0 = .ok (.iload_n 1, 1) := by decide +kernel
theorem dL_part_1 : decode cL_part 1 = .ok (.aload_n 0, 1) := by decide +kernel
theorem dL_part_2 : decode cL_part 2 = .ok (.arraylength, 1) := by decide +kernel
theorem dL_part_3 : decode cL_part 3 = .ok (.if_icmp .ge 9, 3) := by decide +kernel
theorem dL_part_6 : decode cL_part 6 = .ok (.aload_n 0, 1) := by decide +kernel
theorem dL_part_7 : decode cL_part 7 = .ok (.iload_n 1, 1) := by decide +kernel
theorem dL_part_8 : decode cL_part 8 = .ok (.iaload, 1) := by decide +kernel
theorem dL_part_9 : decode cL_part 9 = .ok (.goto 16, 3) := by decide +kernel
theorem dL_part_12 : decode cL_part 12 = .ok (.sipush 919, 3) := by decide +kernel
theorem dL_part_15 : decode cL_part 15 = .ok (.iload_n 1, 1) := by decide +kernel
theorem dL_part_16 : decode cL_part 16 = .ok (.imul, 1) := by decide +kernel
theorem dL_part_17 : decode cL_part 17 = .ok (.sipush 787, 3) := by decide +kernel
theorem dL_part_20 : decode cL_part 20 = .ok (.iload_n 1, 1) := by decide +kernel
theorem dL_part_21 : decode cL_part 21 = .ok (.imul, 1) := by decide +kernel
theorem dL_part_22 : decode cL_part 22 = .ok (.iload_n 1, 1) := by decide +kernel
theorem dL_part_23 : decode cL_part 23 = .ok (.imul, 1) := by decide +kernel
theorem dL_part_24 : decode cL_part 24 = .ok (.iadd, 1) := by decide +kernel
theorem dL_part_25 : decode cL_part 25 = .ok (.istore_n 3, 1) := by decide +kernel
theorem dL_part_26 : decode cL_part 26 = .ok (.iload_n 3, 1) := by decide +kernel
theorem dL_part_27 : decode cL_part 27 = .ok (.ldc 7, 2) := by decide +kernel
theorem dL_part_29 : decode cL_part 29 = .ok (.iand, 1) := by decide +kernel
theorem dL_part_30 : decode cL_part 30 = .ok (.iload_n 2, 1) := by decide +kernel
theorem dL_part_31 : decode cL_part 31 = .ok (.irem, 1) := by decide +kernel
theorem dL_part_32 : decode cL_part 32 = .ok (.ireturn, 1) := by decide +kernel
end
section
set_option maxRecDepth 20000 in
theorem ggL_does_X4_price : GoodIn wsL_does wsX4_price := goodIn_ca (goodIn_ca (goodIn_r _ [11, 12, 13, 14, 15, 16, 10, 17, 18, 19, 20, 21, 22, 23, 24, 25, 26, 27, 28, 29, 30, 31, 32, 33, 34, 35, 36, 37, 38, 39, 40, 41, 42, 43, 44, 45, 46, 47, 48, 49, 50, 51, 52, 358, 359, 360, 361, 362, 363, 364, 365, 366, 367, 368, 369] (by decide +kernel) (by decide +kernel)) (goodIn_sub (fun _ h => List.mem_cons_of_mem _ (List.mem_append_left _ (List.mem_append_left _ (List.mem_append_right _ h)))) (by decide +kernel))) (goodIn_sub (fun _ h => List.mem_cons_of_mem _ (List.mem_append_left _ (List.mem_append_right _ h))) (by decide +kernel))
set_option maxRecDepth 20000 in
theorem gL_does_X4_price : GoodIn wsL_does (wsV RL 8 RX4 yX4_price wsX4_price) := goodIn_app (goodIn_of _ (by decide +kernel)) ggL_does_X4_price
set_option maxRecDepth 20000 in
theorem ggL_does_X4_client : GoodIn wsL_does wsX4_client := goodIn_ca (goodIn_r _ [56, 57, 58, 59, 60, 18, 61, 62, 63, 64, 19, 20, 21, 22, 23, 24, 25, 65, 66, 10, 67, 68, 69, 70, 71, 72, 73, 74, 75, 76, 77, 78, 79, 80, 81, 82, 83, 84, 85, 86, 47, 87, 88, 89, 90, 91, 92, 93, 94, 95, 96, 31, 32, 33, 34, 35, 36, 37, 38, 39, 40, 41, 42, 43, 44, 45, 46, 97, 98, 99, 100, 101, 102, 103, 104, 105, 106, 107, 108, 109, 110, 111, 112, 113, 114, 115, 116, 117, 118, 119, 120, 121, 122, 123, 124, 125, 126, 127, 128, 129, 130, 131, 132, 133, 134, 135, 136, 137, 138, 139, 140, 141, 142, 143, 144, 145, 146, 147, 148, 149, 150, 151, 152, 153, 154, 362, 363, 364, 365, 366, 370, 371, 372, 373, 374, 375, 376, 377, 378, 367, 368, 369] (by decide +kernel) (by decide +kernel)) (goodIn_sub (fun _ h => List.mem_cons_of_mem _ (List.mem_append_right _ h)) (by decide +kernel))
set_option maxRecDepth 20000 in
theorem gL_does_X4_client : GoodIn wsL_does (wsV RL 14 RX4 yX4_client wsX4_client) := goodIn_app (goodIn_of _ (by decide +kernel)) ggL_does_X4_client
set_option maxRecDepth 20000 in
theorem ggL_does_X4_pay : GoodIn wsL_does wsX4_pay := goodIn_ca (goodIn_ca (goodIn_ca (goodIn_r _ [158, 159, 160, 161, 162, 163, 164, 10, 165, 57, 166, 20, 21, 22, 23, 24, 25, 26, 27, 28, 29, 30, 31, 32, 33, 34, 35, 36, 37, 38, 39, 40, 41, 42, 43, 44, 45, 46, 47, 48, 49, 50, 51, 52, 65, 66, 67, 68, 69, 370, 371, 372, 373, 374, 362, 363, 364, 365, 366, 367, 368, 369] (by decide +kernel) (by decide +kernel)) (goodIn_sub (fun _ h => List.mem_cons_of_mem _ (List.mem_append_left _ (List.mem_append_left _ (List.mem_append_right _ h)))) (by decide +kernel))) (goodIn_sub (fun _ h => List.mem_cons_of_mem _ (List.mem_append_left _ (List.mem_append_right _ h))) (by decide +kernel))) (goodIn_sub (fun _ h => List.mem_cons_of_mem _ (List.mem_append_right _ h)) (by decide +kernel))
set_option maxRecDepth 20000 in
theorem gL_does_X4_pay : GoodIn wsL_does (wsV RL 18 RX4 yX4_pay wsX4_pay) := goodIn_app (goodIn_of _ (by decide +kernel)) ggL_does_X4_pay
set_option maxRecDepth 20000 in
theorem ggL_does_X4_goal : GoodIn wsL_does wsX4_goal := goodIn_ca (goodIn_ca (goodIn_ca (goodIn_r _ [170, 171, 172, 173, 174, 175, 10, 176, 61, 177, 162, 163, 164, 165, 57, 166, 20, 21, 22, 23, 24, 25, 26, 27, 28, 29, 30, 31, 32, 33, 34, 35, 36, 37, 38, 39, 40, 41, 42, 43, 44, 45, 46, 47, 48, 49, 50, 51, 52, 178, 179, 180, 65, 66, 67, 68, 69, 375, 376, 377, 378, 370, 371, 372, 373, 374, 362, 363, 364, 365, 366, 367, 368, 369] (by decide +kernel) (by decide +kernel)) (goodIn_sub (fun _ h => List.mem_cons_of_mem _ (List.mem_append_left _ (List.mem_append_left _ (List.mem_append_right _ h)))) (by decide +kernel))) (goodIn_sub (fun _ h => List.mem_cons_of_mem _ (List.mem_append_left _ (List.mem_append_right _ h))) (by decide +kernel))) (goodIn_sub (fun _ h => List.mem_cons_of_mem _ (List.mem_append_right _ h)) (by decide +kernel))
set_option maxRecDepth 20000 in
theorem gL_does_X4_goal : GoodIn wsL_does (wsV RL 22 RX4 yX4_goal wsX4_goal) := goodIn_app (goodIn_of _ (by decide +kernel)) ggL_does_X4_goal
set_option maxRecDepth 20000 in
theorem ggL_does_X4_buy : GoodIn wsL_does wsX4_buy := goodIn_ca (goodIn_ca (goodIn_ca (goodIn_r _ [184, 160, 185, 186, 171, 161, 173, 174, 175, 10, 176, 61, 177, 162, 163, 164, 165, 57, 166, 20, 21, 22, 23, 24, 25, 26, 27, 28, 29, 30, 31, 32, 33, 34, 35, 36, 37, 38, 39, 40, 41, 42, 43, 44, 45, 46, 47, 48, 49, 50, 51, 52, 65, 66, 67, 68, 69, 187, 188, 189, 190, 13, 191, 192, 193, 194, 195, 196, 197, 198, 199, 200, 201, 202, 203, 204, 205, 206, 207, 208, 209, 210, 211, 74, 75, 212, 213, 214, 215, 216, 217, 218, 103, 104, 105, 106, 107, 108, 109, 110, 111, 112, 113, 114, 115, 116, 117, 118, 119, 120, 86, 121, 122, 123, 124, 125, 126, 127, 128, 129, 130, 131, 132, 133, 134, 135, 136, 137, 138, 139, 140, 141, 142, 143, 144, 145, 146, 147, 148, 149, 150, 151, 152, 153, 154, 219, 220, 221, 222, 223, 224, 225, 226, 227, 228, 229, 230, 231, 232, 233, 234, 235, 236, 237, 238, 239, 240, 241, 242, 243, 244, 245, 246, 247, 248, 249, 250, 251, 252, 253, 254, 255, 256, 257, 258, 259, 260, 261, 262, 263, 264, 362, 363, 364, 365, 366, 375, 376, 377, 378, 370, 371, 372, 373, 374, 367, 368, 369, 358, 359, 360, 361, 379, 380, 381, 382, 383, 384, 385, 386, 387] (by decide +kernel) (by decide +kernel)) (goodIn_sub (fun _ h => List.mem_cons_of_mem _ (List.mem_append_left _ (List.mem_append_left _ (List.mem_append_right _ h)))) (by decide +kernel))) (goodIn_sub (fun _ h => List.mem_cons_of_mem _ (List.mem_append_left _ (List.mem_append_right _ h))) (by decide +kernel))) (goodIn_sub (fun _ h => List.mem_cons_of_mem _ (List.mem_append_right _ h)) (by decide +kernel))
set_option maxRecDepth 20000 in
theorem gL_does_X4_buy : GoodIn wsL_does (wsV RL 26 RX4 yX4_buy wsX4_buy) := goodIn_app (goodIn_of _ (by decide +kernel)) ggL_does_X4_buy
set_option maxRecDepth 20000 in
theorem ggL_does_X4_sell : GoodIn wsL_does wsX4_sell := goodIn_ca (goodIn_ca (goodIn_ca (goodIn_r _ [268, 269, 185, 232, 186, 270, 173, 174, 175, 10, 176, 61, 177, 162, 163, 164, 165, 57, 166, 20, 21, 22, 23, 24, 25, 26, 27, 28, 29, 30, 31, 32, 33, 34, 35, 36, 37, 38, 39, 40, 41, 42, 43, 44, 45, 46, 47, 48, 49, 50, 51, 52, 65, 66, 67, 68, 69, 271, 272, 273, 13, 190, 199, 200, 201, 202, 203, 204, 205, 206, 207, 194, 195, 196, 197, 198, 208, 209, 210, 211, 74, 75, 212, 213, 214, 215, 216, 217, 218, 103, 104, 105, 106, 107, 108, 109, 110, 111, 112, 113, 114, 115, 116, 117, 118, 119, 120, 86, 121, 122, 123, 124, 125, 126, 127, 128, 129, 130, 131, 132, 133, 134, 135, 136, 137, 138, 139, 140, 141, 142, 143, 144, 145, 146, 147, 148, 149, 150, 151, 152, 153, 154, 219, 220, 221, 222, 223, 224, 225, 226, 227, 228, 229, 230, 171, 161, 231, 233, 234, 235, 236, 237, 238, 239, 240, 241, 242, 243, 244, 245, 246, 247, 248, 249, 250, 251, 252, 253, 254, 255, 256, 257, 258, 259, 260, 191, 192, 193, 261, 262, 263, 264, 362, 363, 364, 365, 366, 375, 376, 377, 378, 370, 371, 372, 373, 374, 367, 368, 369, 358, 359, 360, 361, 379, 380, 381, 382, 383, 384, 385, 386, 387] (by decide +kernel) (by decide +kernel)) (goodIn_sub (fun _ h => List.mem_cons_of_mem _ (List.mem_append_left _ (List.mem_append_left _ (List.mem_append_right _ h)))) (by decide +kernel))) (goodIn_sub (fun _ h => List.mem_cons_of_mem _ (List.mem_append_left _ (List.mem_append_right _ h))) (by decide +kernel))) (goodIn_sub (fun _ h => List.mem_cons_of_mem _ (List.mem_append_right _ h)) (by decide +kernel))
set_option maxRecDepth 20000 in
theorem gL_does_X4_sell : GoodIn wsL_does (wsV RL 29 RX4 yX4_sell wsX4_sell) := goodIn_app (goodIn_of _ (by decide +kernel)) ggL_does_X4_sell
set_option maxRecDepth 20000 in
theorem ggL_does_X4_balance : GoodIn wsL_does wsX4_balance := goodIn_ca (goodIn_ca (goodIn_r _ [277, 185, 278, 61, 177, 162, 163, 164, 10, 165, 57, 166, 20, 21, 22, 23, 24, 25, 26, 27, 28, 29, 30, 31, 32, 33, 34, 35, 36, 37, 38, 39, 40, 41, 42, 43, 44, 45, 46, 47, 65, 66, 67, 68, 69, 279, 280, 281, 161, 282, 283, 284, 232, 186, 271, 272, 273, 13, 190, 285, 286, 287, 288, 289, 290, 291, 172, 292, 187, 188, 189, 191, 192, 193, 199, 200, 201, 202, 203, 204, 205, 206, 207, 194, 195, 196, 197, 198, 208, 209, 210, 211, 74, 75, 212, 213, 214, 215, 216, 217, 218, 103, 104, 105, 106, 107, 108, 109, 110, 111, 112, 113, 114, 115, 116, 117, 118, 119, 120, 86, 121, 122, 123, 124, 125, 126, 127, 128, 129, 130, 131, 132, 133, 134, 135, 136, 137, 138, 139, 140, 141, 142, 143, 144, 145, 146, 147, 148, 149, 150, 151, 152, 153, 154, 219, 220, 221, 222, 223, 224, 225, 226, 227, 228, 229, 230, 171, 231, 233, 234, 235, 236, 237, 238, 239, 240, 241, 242, 243, 244, 245, 246, 247, 248, 249, 250, 251, 252, 253, 254, 255, 256, 257, 258, 259, 260, 261, 262, 263, 264, 293, 294, 295, 296, 362, 363, 364, 365, 366, 370, 371, 372, 373, 374, 367, 368, 369, 375, 376, 377, 378, 358, 359, 360, 361, 379, 380, 381, 382, 383, 384, 385, 386, 387] (by decide +kernel) (by decide +kernel)) (goodIn_sub (fun _ h => List.mem_cons_of_mem _ (List.mem_append_left _ (List.mem_append_left _ (List.mem_append_right _ h)))) (by decide +kernel))) (goodIn_sub (fun _ h => List.mem_cons_of_mem _ (List.mem_append_right _ h)) (by decide +kernel))
set_option maxRecDepth 20000 in
theorem gL_does_X4_balance : GoodIn wsL_does (wsV RL 32 RX4 yX4_balance wsX4_balance) := goodIn_app (goodIn_of _ (by decide +kernel)) ggL_does_X4_balance
set_option maxRecDepth 20000 in
theorem ggL_does_X4_complain : GoodIn wsL_does wsX4_complain := goodIn_ca (goodIn_ca (goodIn_r _ [300, 301, 244, 171, 246, 302, 303, 304, 10, 305, 185, 257, 20, 21, 22, 23, 24, 25, 26, 27, 28, 29, 30, 31, 32, 33, 34, 35, 36, 37, 38, 39, 40, 41, 42, 43, 44, 45, 46, 47, 306, 307, 308, 309, 65, 66, 67, 68, 69, 219, 220, 221, 205, 222, 217, 216, 223, 224, 225, 226, 215, 227, 228, 229, 230, 186, 161, 231, 232, 233, 234, 190, 235, 236, 237, 238, 239, 13, 310, 311, 312, 313, 264, 247, 248, 314, 315, 137, 316, 240, 241, 242, 243, 245, 249, 250, 251, 252, 253, 254, 255, 256, 207, 258, 259, 123, 260, 191, 192, 193, 261, 262, 263, 317, 318, 319, 320, 206, 321, 322, 323, 324, 325, 326, 327, 328, 379, 380, 381, 382, 383, 384, 385, 386, 387, 375, 376, 377, 378, 362, 363, 364, 365, 366, 367, 368, 369, 370, 371, 372, 373, 374, 358, 359, 360, 361] (by decide +kernel) (by decide +kernel)) (goodIn_sub (fun _ h => List.mem_cons_of_mem _ (List.mem_append_left _ (List.mem_append_left _ (List.mem_append_right _ h)))) (by decide +kernel))) (goodIn_sub (fun _ h => List.mem_cons_of_mem _ (List.mem_append_right _ h)) (by decide +kernel))
set_option maxRecDepth 20000 in
theorem gL_does_X4_complain : GoodIn wsL_does (wsV RL 36 RX4 yX4_complain wsX4_complain) := goodIn_app (goodIn_of _ (by decide +kernel)) ggL_does_X4_complain
set_option maxRecDepth 20000 in
theorem ggL_does_X4_pass : GoodIn wsL_does wsX4_pass := goodIn_ca (goodIn_ca (goodIn_r _ [332, 206, 48, 49, 10, 50, 51, 52, 65, 66, 67, 68, 69, 333, 334, 335, 336, 18, 19, 233, 190, 57, 166, 20, 21, 22, 23, 24, 25, 31, 32, 33, 34, 35, 36, 37, 38, 39, 40, 41, 42, 43, 44, 45, 46, 47, 235, 236, 237, 238, 239, 231, 13, 317, 318, 319, 320, 321, 322, 161, 250, 251, 252, 323, 324, 325, 264, 258, 259, 123, 260, 326, 327, 328, 362, 363, 364, 365, 366, 358, 359, 360, 361, 367, 368, 369, 370, 371, 372, 373, 374] (by decide +kernel) (by decide +kernel)) (goodIn_sub (fun _ h => List.mem_cons_of_mem _ (List.mem_append_left _ (List.mem_append_right _ h))) (by decide +kernel))) (goodIn_sub (fun _ h => List.mem_cons_of_mem _ (List.mem_append_right _ h)) (by decide +kernel))
set_option maxRecDepth 20000 in
theorem gL_does_X4_pass : GoodIn wsL_does (wsV RL 40 RX4 yX4_pass wsX4_pass) := goodIn_app (goodIn_of _ (by decide +kernel)) ggL_does_X4_pass
set_option maxRecDepth 20000 in
theorem ggL_does_X4_tradeOf : GoodIn wsL_does wsX4_tradeOf := goodIn_ca (goodIn_ca (goodIn_r _ [340, 244, 171, 341, 186, 342, 246, 343, 344, 245, 301, 302, 303, 304, 10, 305, 185, 257, 20, 21, 22, 23, 24, 25, 26, 27, 28, 29, 30, 31, 32, 33, 34, 35, 36, 37, 38, 39, 40, 41, 42, 43, 44, 45, 46, 47, 48, 49, 50, 51, 52, 379, 380, 381, 382, 383, 384, 385, 386, 387, 375, 376, 377, 378, 370, 371, 372, 373, 374, 358, 359, 360, 361, 362, 363, 364, 365, 366, 367, 368, 369] (by decide +kernel) (by decide +kernel)) (goodIn_sub (fun _ h => List.mem_cons_of_mem _ (List.mem_append_left _ (List.mem_append_left _ (List.mem_append_right _ h)))) (by decide +kernel))) (goodIn_sub (fun _ h => List.mem_cons_of_mem _ (List.mem_append_left _ (List.mem_append_right _ h))) (by decide +kernel))
set_option maxRecDepth 20000 in
theorem gL_does_X4_tradeOf : GoodIn wsL_does (wsV RL 43 RX4 yX4_tradeOf wsX4_tradeOf) := goodIn_app (goodIn_of _ (by decide +kernel)) ggL_does_X4_tradeOf
set_option maxRecDepth 20000 in
theorem ggL_does_X4_year : GoodIn wsL_does wsX4_year := goodIn_ca (goodIn_ca (goodIn_r _ [348, 264, 321, 322, 162, 163, 164, 10, 165, 57, 166, 20, 21, 22, 23, 24, 25, 26, 27, 28, 29, 30, 31, 32, 33, 34, 35, 36, 37, 38, 39, 40, 41, 42, 43, 44, 45, 46, 47, 48, 49, 50, 51, 52, 323, 324, 325, 258, 259, 123, 260, 326, 327, 328, 370, 371, 372, 373, 374, 362, 363, 364, 365, 366, 367, 368, 369] (by decide +kernel) (by decide +kernel)) (goodIn_sub (fun _ h => List.mem_cons_of_mem _ (List.mem_append_left _ (List.mem_append_left _ (List.mem_append_right _ h)))) (by decide +kernel))) (goodIn_sub (fun _ h => List.mem_cons_of_mem _ (List.mem_append_left _ (List.mem_append_right _ h))) (by decide +kernel))
set_option maxRecDepth 20000 in
theorem gL_does_X4_year : GoodIn wsL_does (wsV RL 46 RX4 yX4_year wsX4_year) := goodIn_app (goodIn_of _ (by decide +kernel)) ggL_does_X4_year
set_option maxRecDepth 20000 in
theorem ggL_does_X4_lot : GoodIn wsL_does wsX4_lot := goodIn_ca (goodIn_ca (goodIn_r _ [352, 185, 257, 244, 247, 207, 248, 353, 173, 174, 175, 10, 176, 61, 177, 162, 163, 164, 165, 57, 166, 20, 21, 22, 23, 24, 25, 26, 27, 28, 29, 30, 31, 32, 33, 34, 35, 36, 37, 38, 39, 40, 41, 42, 43, 44, 45, 46, 47, 48, 49, 50, 51, 52, 362, 363, 364, 365, 366, 379, 380, 381, 382, 383, 384, 385, 386, 387, 370, 371, 372, 373, 374, 367, 368, 369] (by decide +kernel) (by decide +kernel)) (goodIn_sub (fun _ h => List.mem_cons_of_mem _ (List.mem_append_left _ (List.mem_append_left _ (List.mem_append_right _ h)))) (by decide +kernel))) (goodIn_sub (fun _ h => List.mem_cons_of_mem _ (List.mem_append_left _ (List.mem_append_right _ h))) (by decide +kernel))
set_option maxRecDepth 20000 in
theorem gL_does_X4_lot : GoodIn wsL_does (wsV RL 50 RX4 yX4_lot wsX4_lot) := goodIn_app (goodIn_of _ (by decide +kernel)) ggL_does_X4_lot
set_option maxRecDepth 20000 in
theorem ggL_does_X4_parts : GoodIn wsL_does wsX4_parts := goodIn_ca (goodIn_r _ [357, 233, 232, 14, 15, 16, 10, 17, 18, 19, 20, 21, 22, 23, 24, 25, 26, 27, 28, 29, 30, 31, 32, 33, 34, 35, 36, 37, 38, 39, 40, 41, 42, 43, 44, 45, 46, 47, 173, 174, 175, 176, 61, 177, 162, 163, 164, 165, 57, 166, 358, 359, 360, 361, 375, 376, 377, 378, 362, 363, 364, 365, 366, 367, 368, 369, 370, 371, 372, 373, 374] (by decide +kernel) (by decide +kernel)) (goodIn_sub (fun _ h => List.mem_cons_of_mem _ (List.mem_append_left _ (List.mem_append_left _ (List.mem_append_right _ h)))) (by decide +kernel))
set_option maxRecDepth 20000 in
theorem gL_does_X4_parts : GoodIn wsL_does (wsV RL 54 RX4 yX4_parts wsX4_parts) := goodIn_app (goodIn_of _ (by decide +kernel)) ggL_does_X4_parts
theorem dL_does_0 : decode cL_does 0 = .ok (.iload_n 1, 1) := by decide +kernel
theorem dL_does_1 : decode cL_does 1 = .ok (.ifCond .ne 13, 3) := by decide +kernel
theorem dL_does_4 : decode cL_does 4 = .ok (.aload_n 0, 1) := by decide +kernel
theorem dL_does_5 : decode cL_does 5 = .ok (.iload_n 2, 1) := by decide +kernel
theorem dL_does_6 : decode cL_does 6 = .ok (.iload_n 3, 1) := by decide +kernel
theorem dL_does_7 : decode cL_does 7 = .ok (.invokevirtual 8, 3) := by decide +kernel
theorem dL_does_10 : decode cL_does 10 = .ok (.i2l, 1) := by decide +kernel
theorem dL_does_11 : decode cL_does 11 = .ok (.goto 181, 3) := by decide +kernel
theorem dL_does_14 : decode cL_does 14 = .ok (.iload_n 1, 1) := by decide +kernel
theorem dL_does_15 : decode cL_does 15 = .ok (.iconst 1, 1) := by decide +kernel
theorem dL_does_16 : decode cL_does 16 = .ok (.if_icmp .ne 11, 3) := by decide +kernel
theorem dL_does_19 : decode cL_does 19 = .ok (.aload_n 0, 1) := by decide +kernel
theorem dL_does_20 : decode cL_does 20 = .ok (.invokevirtual 14, 3) := by decide +kernel
theorem dL_does_23 : decode cL_does 23 = .ok (.i2l, 1) := by decide +kernel
theorem dL_does_24 : decode cL_does 24 = .ok (.goto 168, 3) := by decide +kernel
theorem dL_does_27 : decode cL_does 27 = .ok (.iload_n 1, 1) := by decide +kernel
theorem dL_does_28 : decode cL_does 28 = .ok (.iconst 2, 1) := by decide +kernel
theorem dL_does_29 : decode cL_does 29 = .ok (.if_icmp .ne 12, 3) := by decide +kernel
theorem dL_does_32 : decode cL_does 32 = .ok (.aload_n 0, 1) := by decide +kernel
theorem dL_does_33 : decode cL_does 33 = .ok (.iload_n 2, 1) := by decide +kernel
theorem dL_does_34 : decode cL_does 34 = .ok (.iload_n 3, 1) := by decide +kernel
theorem dL_does_35 : decode cL_does 35 = .ok (.invokevirtual 18, 3) := by decide +kernel
theorem dL_does_38 : decode cL_does 38 = .ok (.goto 154, 3) := by decide +kernel
theorem dL_does_41 : decode cL_does 41 = .ok (.iload_n 1, 1) := by decide +kernel
theorem dL_does_42 : decode cL_does 42 = .ok (.iconst 3, 1) := by decide +kernel
theorem dL_does_43 : decode cL_does 43 = .ok (.if_icmp .ne 15, 3) := by decide +kernel
theorem dL_does_46 : decode cL_does 46 = .ok (.aload_n 0, 1) := by decide +kernel
theorem dL_does_47 : decode cL_does 47 = .ok (.iload_n 2, 1) := by decide +kernel
theorem dL_does_48 : decode cL_does 48 = .ok (.iload_n 3, 1) := by decide +kernel
theorem dL_does_49 : decode cL_does 49 = .ok (.iload 4, 2) := by decide +kernel
theorem dL_does_51 : decode cL_does 51 = .ok (.invokevirtual 22, 3) := by decide +kernel
theorem dL_does_54 : decode cL_does 54 = .ok (.i2l, 1) := by decide +kernel
theorem dL_does_55 : decode cL_does 55 = .ok (.goto 137, 3) := by decide +kernel
theorem dL_does_58 : decode cL_does 58 = .ok (.iload_n 1, 1) := by decide +kernel
theorem dL_does_59 : decode cL_does 59 = .ok (.iconst 4, 1) := by decide +kernel
theorem dL_does_60 : decode cL_does 60 = .ok (.if_icmp .ne 15, 3) := by decide +kernel
theorem dL_does_63 : decode cL_does 63 = .ok (.aload_n 0, 1) := by decide +kernel
theorem dL_does_64 : decode cL_does 64 = .ok (.iload_n 2, 1) := by decide +kernel
theorem dL_does_65 : decode cL_does 65 = .ok (.iload_n 3, 1) := by decide +kernel
theorem dL_does_66 : decode cL_does 66 = .ok (.iload 4, 2) := by decide +kernel
theorem dL_does_68 : decode cL_does 68 = .ok (.invokevirtual 26, 3) := by decide +kernel
theorem dL_does_71 : decode cL_does 71 = .ok (.i2l, 1) := by decide +kernel
theorem dL_does_72 : decode cL_does 72 = .ok (.goto 120, 3) := by decide +kernel
theorem dL_does_75 : decode cL_does 75 = .ok (.iload_n 1, 1) := by decide +kernel
theorem dL_does_76 : decode cL_does 76 = .ok (.iconst 5, 1) := by decide +kernel
theorem dL_does_77 : decode cL_does 77 = .ok (.if_icmp .ne 15, 3) := by decide +kernel
theorem dL_does_80 : decode cL_does 80 = .ok (.aload_n 0, 1) := by decide +kernel
theorem dL_does_81 : decode cL_does 81 = .ok (.iload_n 2, 1) := by decide +kernel
theorem dL_does_82 : decode cL_does 82 = .ok (.iload_n 3, 1) := by decide +kernel
theorem dL_does_83 : decode cL_does 83 = .ok (.iload 4, 2) := by decide +kernel
theorem dL_does_85 : decode cL_does 85 = .ok (.invokevirtual 29, 3) := by decide +kernel
theorem dL_does_88 : decode cL_does 88 = .ok (.i2l, 1) := by decide +kernel
theorem dL_does_89 : decode cL_does 89 = .ok (.goto 103, 3) := by decide +kernel
theorem dL_does_92 : decode cL_does 92 = .ok (.iload_n 1, 1) := by decide +kernel
theorem dL_does_93 : decode cL_does 93 = .ok (.bipush 6, 2) := by decide +kernel
theorem dL_does_95 : decode cL_does 95 = .ok (.if_icmp .ne 12, 3) := by decide +kernel
theorem dL_does_98 : decode cL_does 98 = .ok (.aload_n 0, 1) := by decide +kernel
theorem dL_does_99 : decode cL_does 99 = .ok (.iload_n 2, 1) := by decide +kernel
theorem dL_does_100 : decode cL_does 100 = .ok (.invokevirtual 32, 3) := by decide +kernel
theorem dL_does_103 : decode cL_does 103 = .ok (.i2l, 1) := by decide +kernel
theorem dL_does_104 : decode cL_does 104 = .ok (.goto 88, 3) := by decide +kernel
theorem dL_does_107 : decode cL_does 107 = .ok (.iload_n 1, 1) := by decide +kernel
theorem dL_does_108 : decode cL_does 108 = .ok (.bipush 7, 2) := by decide +kernel
theorem dL_does_110 : decode cL_does 110 = .ok (.if_icmp .ne 11, 3) := by decide +kernel
theorem dL_does_113 : decode cL_does 113 = .ok (.aload_n 0, 1) := by decide +kernel
theorem dL_does_114 : decode cL_does 114 = .ok (.iload_n 2, 1) := by decide +kernel
theorem dL_does_115 : decode cL_does 115 = .ok (.invokevirtual 36, 3) := by decide +kernel
theorem dL_does_118 : decode cL_does 118 = .ok (.goto 74, 3) := by decide +kernel
theorem dL_does_121 : decode cL_does 121 = .ok (.iload_n 1, 1) := by decide +kernel
theorem dL_does_122 : decode cL_does 122 = .ok (.bipush 8, 2) := by decide +kernel
theorem dL_does_124 : decode cL_does 124 = .ok (.if_icmp .ne 12, 3) := by decide +kernel
theorem dL_does_127 : decode cL_does 127 = .ok (.aload_n 0, 1) := by decide +kernel
theorem dL_does_128 : decode cL_does 128 = .ok (.iload_n 2, 1) := by decide +kernel
theorem dL_does_129 : decode cL_does 129 = .ok (.invokevirtual 40, 3) := by decide +kernel
theorem dL_does_132 : decode cL_does 132 = .ok (.i2l, 1) := by decide +kernel
theorem dL_does_133 : decode cL_does 133 = .ok (.goto 59, 3) := by decide +kernel
theorem dL_does_136 : decode cL_does 136 = .ok (.iload_n 1, 1) := by decide +kernel
theorem dL_does_137 : decode cL_does 137 = .ok (.bipush 9, 2) := by decide +kernel
theorem dL_does_139 : decode cL_does 139 = .ok (.if_icmp .ne 12, 3) := by decide +kernel
theorem dL_does_142 : decode cL_does 142 = .ok (.aload_n 0, 1) := by decide +kernel
theorem dL_does_143 : decode cL_does 143 = .ok (.iload_n 2, 1) := by decide +kernel
theorem dL_does_144 : decode cL_does 144 = .ok (.iload_n 3, 1) := by decide +kernel
theorem dL_does_145 : decode cL_does 145 = .ok (.invokevirtual 43, 3) := by decide +kernel
theorem dL_does_148 : decode cL_does 148 = .ok (.goto 44, 3) := by decide +kernel
theorem dL_does_151 : decode cL_does 151 = .ok (.iload_n 1, 1) := by decide +kernel
theorem dL_does_152 : decode cL_does 152 = .ok (.bipush 10, 2) := by decide +kernel
theorem dL_does_154 : decode cL_does 154 = .ok (.if_icmp .ne 14, 3) := by decide +kernel
theorem dL_does_157 : decode cL_does 157 = .ok (.aload_n 0, 1) := by decide +kernel
theorem dL_does_158 : decode cL_does 158 = .ok (.iload_n 2, 1) := by decide +kernel
theorem dL_does_159 : decode cL_does 159 = .ok (.iload_n 3, 1) := by decide +kernel
theorem dL_does_160 : decode cL_does 160 = .ok (.iload 4, 2) := by decide +kernel
theorem dL_does_162 : decode cL_does 162 = .ok (.invokevirtual 46, 3) := by decide +kernel
theorem dL_does_165 : decode cL_does 165 = .ok (.goto 27, 3) := by decide +kernel
theorem dL_does_168 : decode cL_does 168 = .ok (.iload_n 1, 1) := by decide +kernel
theorem dL_does_169 : decode cL_does 169 = .ok (.bipush 11, 2) := by decide +kernel
theorem dL_does_171 : decode cL_does 171 = .ok (.if_icmp .ne 15, 3) := by decide +kernel
theorem dL_does_174 : decode cL_does 174 = .ok (.aload_n 0, 1) := by decide +kernel
theorem dL_does_175 : decode cL_does 175 = .ok (.iload_n 2, 1) := by decide +kernel
theorem dL_does_176 : decode cL_does 176 = .ok (.iload_n 3, 1) := by decide +kernel
theorem dL_does_177 : decode cL_does 177 = .ok (.iload 4, 2) := by decide +kernel
theorem dL_does_179 : decode cL_does 179 = .ok (.iconst 0, 1) := by decide +kernel
theorem dL_does_180 : decode cL_does 180 = .ok (.invokevirtual 50, 3) := by decide +kernel
theorem dL_does_183 : decode cL_does 183 = .ok (.goto 9, 3) := by decide +kernel
theorem dL_does_186 : decode cL_does 186 = .ok (.aload_n 0, 1) := by decide +kernel
theorem dL_does_187 : decode cL_does 187 = .ok (.iload_n 2, 1) := by decide +kernel
theorem dL_does_188 : decode cL_does 188 = .ok (.iload_n 3, 1) := by decide +kernel
theorem dL_does_189 : decode cL_does 189 = .ok (.invokevirtual 54, 3) := by decide +kernel
theorem dL_does_192 : decode cL_does 192 = .ok (.lreturn, 1) := by decide +kernel
theorem dL_does_193 : decode cL_does 193 = .ok (.astore 5, 2) := by decide +kernel
theorem dL_does_195 : decode cL_does 195 = .ok (.ldc2_w 59, 3) := by decide +kernel
theorem dL_does_198 : decode cL_does 198 = .ok (.lreturn, 1) := by decide +kernel
theorem dL_does_199 : decode cL_does 199 = .ok (.astore 5, 2) := by decide +kernel
theorem dL_does_201 : decode cL_does 201 = .ok (.ldc2_w 63, 3) := by decide +kernel
theorem dL_does_204 : decode cL_does 204 = .ok (.lreturn, 1) := by decide +kernel
theorem dL_does_205 : decode cL_does 205 = .ok (.astore 5, 2) := by decide +kernel
theorem dL_does_207 : decode cL_does 207 = .ok (.ldc2_w 67, 3) := by decide +kernel
theorem dL_does_210 : decode cL_does 210 = .ok (.lreturn, 1) := by decide +kernel
theorem dL_costs_0 : decode cL_costs 0 = .ok (.lload_n 0, 1) := by decide +kernel
theorem dL_costs_1 : decode cL_costs 1 = .ok (.ldc2_w 69, 3) := by decide +kernel
theorem dL_costs_4 : decode cL_costs 4 = .ok (.lcmp, 1) := by decide +kernel
theorem dL_costs_5 : decode cL_costs 5 = .ok (.ifCond .ge 11, 3) := by decide +kernel
theorem dL_costs_8 : decode cL_costs 8 = .ok (.lload_n 0, 1) := by decide +kernel
theorem dL_costs_9 : decode cL_costs 9 = .ok (.ldc2_w 71, 3) := by decide +kernel
theorem dL_costs_12 : decode cL_costs 12 = .ok (.ldiv, 1) := by decide +kernel
theorem dL_costs_13 : decode cL_costs 13 = .ok (.goto 24, 3) := by decide +kernel
theorem dL_costs_16 : decode cL_costs 16 = .ok (.lload_n 0, 1) := by decide +kernel
theorem dL_costs_17 : decode cL_costs 17 = .ok (.ldc2_w 73, 3) := by decide +kernel
theorem dL_costs_20 : decode cL_costs 20 = .ok (.lcmp, 1) := by decide +kernel
theorem dL_costs_21 : decode cL_costs 21 = .ok (.ifCond .ge 11, 3) := by decide +kernel
theorem dL_costs_24 : decode cL_costs 24 = .ok (.lload_n 0, 1) := by decide +kernel
theorem dL_costs_25 : decode cL_costs 25 = .ok (.ldc2_w 75, 3) := by decide +kernel
theorem dL_costs_28 : decode cL_costs 28 = .ok (.ldiv, 1) := by decide +kernel
theorem dL_costs_29 : decode cL_costs 29 = .ok (.goto 8, 3) := by decide +kernel
theorem dL_costs_32 : decode cL_costs 32 = .ok (.lload_n 0, 1) := by decide +kernel
theorem dL_costs_33 : decode cL_costs 33 = .ok (.ldc2_w 77, 3) := by decide +kernel
theorem dL_costs_36 : decode cL_costs 36 = .ok (.ldiv, 1) := by decide +kernel
theorem dL_costs_37 : decode cL_costs 37 = .ok (.lreturn, 1) := by decide +kernel
theorem dL_moves_0 : decode cL_moves 0 = .ok (.lload 5, 2) := by decide +kernel
theorem dL_moves_2 : decode cL_moves 2 = .ok (.aload_n 1, 1) := by decide +kernel
theorem dL_moves_3 : decode cL_moves 3 = .ok (.bipush 6, 2) := by decide +kernel
theorem dL_moves_5 : decode cL_moves 5 = .ok (.iload 4, 2) := by decide +kernel
theorem dL_moves_7 : decode cL_moves 7 = .ok (.iadd, 1) := by decide +kernel
theorem dL_moves_8 : decode cL_moves 8 = .ok (.laload, 1) := by decide +kernel
theorem dL_moves_9 : decode cL_moves 9 = .ok (.lsub, 1) := by decide +kernel
theorem dL_moves_10 : decode cL_moves 10 = .ok (.lstore 7, 2) := by decide +kernel
theorem dL_moves_12 : decode cL_moves 12 = .ok (.lload 7, 2) := by decide +kernel
theorem dL_moves_14 : decode cL_moves 14 = .ok (.lconst 0, 1) := by decide +kernel
theorem dL_moves_15 : decode cL_moves 15 = .ok (.lcmp, 1) := by decide +kernel
theorem dL_moves_16 : decode cL_moves 16 = .ok (.ifCond .le 16, 3) := by decide +kernel
theorem dL_moves_19 : decode cL_moves 19 = .ok (.lload 7, 2) := by decide +kernel
theorem dL_moves_21 : decode cL_moves 21 = .ok (.ldc2_w 79, 3) := by decide +kernel
theorem dL_moves_24 : decode cL_moves 24 = .ok (.ladd, 1) := by decide +kernel
theorem dL_moves_25 : decode cL_moves 25 = .ok (.ldc2_w 81, 3) := by decide +kernel
theorem dL_moves_28 : decode cL_moves 28 = .ok (.ldiv, 1) := by decide +kernel
theorem dL_moves_29 : decode cL_moves 29 = .ok (.goto 4, 3) := by decide +kernel
theorem dL_moves_32 : decode cL_moves 32 = .ok (.lconst 0, 1) := by decide +kernel
theorem dL_moves_33 : decode cL_moves 33 = .ok (.lstore 9, 2) := by decide +kernel
theorem dL_moves_35 : decode cL_moves 35 = .ok (.aload_n 1, 1) := by decide +kernel
theorem dL_moves_36 : decode cL_moves 36 = .ok (.iload 4, 2) := by decide +kernel
theorem dL_moves_38 : decode cL_moves 38 = .ok (.dup2, 1) := by decide +kernel
theorem dL_moves_39 : decode cL_moves 39 = .ok (.laload, 1) := by decide +kernel
theorem dL_moves_40 : decode cL_moves 40 = .ok (.lload 9, 2) := by decide +kernel
theorem dL_moves_42 : decode cL_moves 42 = .ok (.ladd, 1) := by decide +kernel
theorem dL_moves_43 : decode cL_moves 43 = .ok (.lastore, 1) := by decide +kernel
theorem dL_moves_44 : decode cL_moves 44 = .ok (.aload_n 1, 1) := by decide +kernel
theorem dL_moves_45 : decode cL_moves 45 = .ok (.bipush 15, 2) := by decide +kernel
theorem dL_moves_47 : decode cL_moves 47 = .ok (.dup2, 1) := by decide +kernel
theorem dL_moves_48 : decode cL_moves 48 = .ok (.laload, 1) := by decide +kernel
theorem dL_moves_49 : decode cL_moves 49 = .ok (.lload 9, 2) := by decide +kernel
theorem dL_moves_51 : decode cL_moves 51 = .ok (.aload_n 0, 1) := by decide +kernel
theorem dL_moves_52 : decode cL_moves 52 = .ok (.iload 4, 2) := by decide +kernel
theorem dL_moves_54 : decode cL_moves 54 = .ok (.iaload, 1) := by decide +kernel
theorem dL_moves_55 : decode cL_moves 55 = .ok (.i2l, 1) := by decide +kernel
theorem dL_moves_56 : decode cL_moves 56 = .ok (.lmul, 1) := by decide +kernel
theorem dL_moves_57 : decode cL_moves 57 = .ok (.lsub, 1) := by decide +kernel
theorem dL_moves_58 : decode cL_moves 58 = .ok (.lastore, 1) := by decide +kernel
theorem dL_moves_59 : decode cL_moves 59 = .ok (.aload_n 1, 1) := by decide +kernel
theorem dL_moves_60 : decode cL_moves 60 = .ok (.bipush 6, 2) := by decide +kernel
theorem dL_moves_62 : decode cL_moves 62 = .ok (.iload 4, 2) := by decide +kernel
theorem dL_moves_64 : decode cL_moves 64 = .ok (.iadd, 1) := by decide +kernel
theorem dL_moves_65 : decode cL_moves 65 = .ok (.dup2, 1) := by decide +kernel
theorem dL_moves_66 : decode cL_moves 66 = .ok (.laload, 1) := by decide +kernel
theorem dL_moves_67 : decode cL_moves 67 = .ok (.ldc2_w 81, 3) := by decide +kernel
theorem dL_moves_70 : decode cL_moves 70 = .ok (.lload 9, 2) := by decide +kernel
theorem dL_moves_72 : decode cL_moves 72 = .ok (.lmul, 1) := by decide +kernel
theorem dL_moves_73 : decode cL_moves 73 = .ok (.lload 5, 2) := by decide +kernel
theorem dL_moves_75 : decode cL_moves 75 = .ok (.lsub, 1) := by decide +kernel
theorem dL_moves_76 : decode cL_moves 76 = .ok (.ladd, 1) := by decide +kernel
theorem dL_moves_77 : decode cL_moves 77 = .ok (.lastore, 1) := by decide +kernel
theorem dL_moves_78 : decode cL_moves 78 = .ok (.aload_n 2, 1) := by decide +kernel
theorem dL_moves_79 : decode cL_moves 79 = .ok (.bipush 6, 2) := by decide +kernel
theorem dL_moves_81 : decode cL_moves 81 = .ok (.iload_n 3, 1) := by decide +kernel
theorem dL_moves_82 : decode cL_moves 82 = .ok (.imul, 1) := by decide +kernel
theorem dL_moves_83 : decode cL_moves 83 = .ok (.iload 4, 2) := by decide +kernel
theorem dL_moves_85 : decode cL_moves 85 = .ok (.iadd, 1) := by decide +kernel
theorem dL_moves_86 : decode cL_moves 86 = .ok (.dup2, 1) := by decide +kernel
theorem dL_moves_87 : decode cL_moves 87 = .ok (.laload, 1) := by decide +kernel
theorem dL_moves_88 : decode cL_moves 88 = .ok (.lload 5, 2) := by decide +kernel
theorem dL_moves_90 : decode cL_moves 90 = .ok (.ladd, 1) := by decide +kernel
theorem dL_moves_91 : decode cL_moves 91 = .ok (.lastore, 1) := by decide +kernel
theorem dL_moves_92 : decode cL_moves 92 = .ok (.return_, 1) := by decide +kernel
set_option maxRecDepth 20000 in
theorem ggL_trades_L_costs : GoodIn wsL_trades wsL_costs := goodIn_r _ [4, 5, 6, 7, 8, 9] (by decide +kernel) (by decide +kernel)
set_option maxRecDepth 20000 in
theorem gL_trades_L_costs : GoodIn wsL_trades (va_wsS RL 83 yL_costs wsL_costs) := goodIn_app (goodIn_of _ (by decide +kernel)) ggL_trades_L_costs
set_option maxRecDepth 20000 in
theorem ggL_trades_L_moves : GoodIn wsL_trades wsL_moves := goodIn_r _ [12, 13, 14] (by decide +kernel) (by decide +kernel)
set_option maxRecDepth 20000 in
theorem gL_trades_L_moves : GoodIn wsL_trades (va_wsS RL 89 yL_moves wsL_moves) := goodIn_app (goodIn_of _ (by decide +kernel)) ggL_trades_L_moves
theorem dL_trades_0 : decode cL_trades 0 = .ok (.lload 9, 2) := by decide +kernel
theorem dL_trades_2 : decode cL_trades 2 = .ok (.lconst 0, 1) := by decide +kernel
theorem dL_trades_3 : decode cL_trades 3 = .ok (.lcmp, 1) := by decide +kernel
theorem dL_trades_4 : decode cL_trades 4 = .ok (.ifCond .le 14, 3) := by decide +kernel
theorem dL_trades_7 : decode cL_trades 7 = .ok (.lload 11, 2) := by decide +kernel
theorem dL_trades_9 : decode cL_trades 9 = .ok (.lload 11, 2) := by decide +kernel
theorem dL_trades_11 : decode cL_trades 11 = .ok (.invokestatic 83, 3) := by decide +kernel
theorem dL_trades_14 : decode cL_trades 14 = .ok (.ladd, 1) := by decide +kernel
theorem dL_trades_15 : decode cL_trades 15 = .ok (.goto 11, 3) := by decide +kernel
theorem dL_trades_18 : decode cL_trades 18 = .ok (.lload 11, 2) := by decide +kernel
theorem dL_trades_20 : decode cL_trades 20 = .ok (.invokestatic 83, 3) := by decide +kernel
theorem dL_trades_23 : decode cL_trades 23 = .ok (.lload 11, 2) := by decide +kernel
theorem dL_trades_25 : decode cL_trades 25 = .ok (.lsub, 1) := by decide +kernel
theorem dL_trades_26 : decode cL_trades 26 = .ok (.lstore 13, 2) := by decide +kernel
theorem dL_trades_28 : decode cL_trades 28 = .ok (.aload_n 3, 1) := by decide +kernel
theorem dL_trades_29 : decode cL_trades 29 = .ok (.aload 6, 2) := by decide +kernel
theorem dL_trades_31 : decode cL_trades 31 = .ok (.iconst 2, 1) := by decide +kernel
theorem dL_trades_32 : decode cL_trades 32 = .ok (.iaload, 1) := by decide +kernel
theorem dL_trades_33 : decode cL_trades 33 = .ok (.iload 7, 2) := by decide +kernel
theorem dL_trades_35 : decode cL_trades 35 = .ok (.iconst 4, 1) := by decide +kernel
theorem dL_trades_36 : decode cL_trades 36 = .ok (.iload 8, 2) := by decide +kernel
theorem dL_trades_38 : decode cL_trades 38 = .ok (.imul, 1) := by decide +kernel
theorem dL_trades_39 : decode cL_trades 39 = .ok (.iadd, 1) := by decide +kernel
theorem dL_trades_40 : decode cL_trades 40 = .ok (.bipush 32, 2) := by decide +kernel
theorem dL_trades_42 : decode cL_trades 42 = .ok (.aload 6, 2) := by decide +kernel
theorem dL_trades_44 : decode cL_trades 44 = .ok (.iconst 0, 1) := by decide +kernel
theorem dL_trades_45 : decode cL_trades 45 = .ok (.iaload, 1) := by decide +kernel
theorem dL_trades_46 : decode cL_trades 46 = .ok (.imul, 1) := by decide +kernel
theorem dL_trades_47 : decode cL_trades 47 = .ok (.iadd, 1) := by decide +kernel
theorem dL_trades_48 : decode cL_trades 48 = .ok (.iastore, 1) := by decide +kernel
theorem dL_trades_49 : decode cL_trades 49 = .ok (.aload 4, 2) := by decide +kernel
theorem dL_trades_51 : decode cL_trades 51 = .ok (.aload 6, 2) := by decide +kernel
theorem dL_trades_53 : decode cL_trades 53 = .ok (.iconst 2, 1) := by decide +kernel
theorem dL_trades_54 : decode cL_trades 54 = .ok (.iaload, 1) := by decide +kernel
theorem dL_trades_55 : decode cL_trades 55 = .ok (.lload 9, 2) := by decide +kernel
theorem dL_trades_57 : decode cL_trades 57 = .ok (.lastore, 1) := by decide +kernel
theorem dL_trades_58 : decode cL_trades 58 = .ok (.aload 5, 2) := by decide +kernel
theorem dL_trades_60 : decode cL_trades 60 = .ok (.aload 6, 2) := by decide +kernel
theorem dL_trades_62 : decode cL_trades 62 = .ok (.iconst 2, 1) := by decide +kernel
theorem dL_trades_63 : decode cL_trades 63 = .ok (.iaload, 1) := by decide +kernel
theorem dL_trades_64 : decode cL_trades 64 = .ok (.lload 11, 2) := by decide +kernel
theorem dL_trades_66 : decode cL_trades 66 = .ok (.lastore, 1) := by decide +kernel
theorem dL_trades_67 : decode cL_trades 67 = .ok (.aload 6, 2) := by decide +kernel
theorem dL_trades_69 : decode cL_trades 69 = .ok (.iconst 2, 1) := by decide +kernel
theorem dL_trades_70 : decode cL_trades 70 = .ok (.dup2, 1) := by decide +kernel
theorem dL_trades_71 : decode cL_trades 71 = .ok (.iaload, 1) := by decide +kernel
theorem dL_trades_72 : decode cL_trades 72 = .ok (.iconst 1, 1) := by decide +kernel
theorem dL_trades_73 : decode cL_trades 73 = .ok (.iadd, 1) := by decide +kernel
theorem dL_trades_74 : decode cL_trades 74 = .ok (.iastore, 1) := by decide +kernel
theorem dL_trades_75 : decode cL_trades 75 = .ok (.aload_n 1, 1) := by decide +kernel
theorem dL_trades_76 : decode cL_trades 76 = .ok (.bipush 12, 2) := by decide +kernel
theorem dL_trades_78 : decode cL_trades 78 = .ok (.iload 7, 2) := by decide +kernel
theorem dL_trades_80 : decode cL_trades 80 = .ok (.iadd, 1) := by decide +kernel
theorem dL_trades_81 : decode cL_trades 81 = .ok (.dup2, 1) := by decide +kernel
theorem dL_trades_82 : decode cL_trades 82 = .ok (.laload, 1) := by decide +kernel
theorem dL_trades_83 : decode cL_trades 83 = .ok (.lload 13, 2) := by decide +kernel
theorem dL_trades_85 : decode cL_trades 85 = .ok (.lsub, 1) := by decide +kernel
theorem dL_trades_86 : decode cL_trades 86 = .ok (.lastore, 1) := by decide +kernel
theorem dL_trades_87 : decode cL_trades 87 = .ok (.aload_n 1, 1) := by decide +kernel
theorem dL_trades_88 : decode cL_trades 88 = .ok (.bipush 15, 2) := by decide +kernel
theorem dL_trades_90 : decode cL_trades 90 = .ok (.dup2, 1) := by decide +kernel
theorem dL_trades_91 : decode cL_trades 91 = .ok (.laload, 1) := by decide +kernel
theorem dL_trades_92 : decode cL_trades 92 = .ok (.lload 13, 2) := by decide +kernel
theorem dL_trades_94 : decode cL_trades 94 = .ok (.ladd, 1) := by decide +kernel
theorem dL_trades_95 : decode cL_trades 95 = .ok (.lastore, 1) := by decide +kernel
theorem dL_trades_96 : decode cL_trades 96 = .ok (.aload_n 0, 1) := by decide +kernel
theorem dL_trades_97 : decode cL_trades 97 = .ok (.aload_n 1, 1) := by decide +kernel
theorem dL_trades_98 : decode cL_trades 98 = .ok (.aload_n 2, 1) := by decide +kernel
theorem dL_trades_99 : decode cL_trades 99 = .ok (.iload 7, 2) := by decide +kernel
theorem dL_trades_101 : decode cL_trades 101 = .ok (.iload 8, 2) := by decide +kernel
theorem dL_trades_103 : decode cL_trades 103 = .ok (.lload 9, 2) := by decide +kernel
theorem dL_trades_105 : decode cL_trades 105 = .ok (.invokestatic 89, 3) := by decide +kernel
theorem dL_trades_108 : decode cL_trades 108 = .ok (.return_, 1) := by decide +kernel
set_option maxRecDepth 20000 in
theorem ggL_goes_L_costs : GoodIn wsL_goes wsL_costs := goodIn_r _ [5, 6, 7, 8, 9, 10] (by decide +kernel) (by decide +kernel)
set_option maxRecDepth 20000 in
theorem gL_goes_L_costs : GoodIn wsL_goes (va_wsS RL 83 yL_costs wsL_costs) := goodIn_app (goodIn_of _ (by decide +kernel)) ggL_goes_L_costs
theorem dL_goes_0 : decode cL_goes 0 = .ok (.iconst 0, 1) := by decide +kernel
theorem dL_goes_1 : decode cL_goes 1 = .ok (.istore 8, 2) := by decide +kernel
theorem dL_goes_3 : decode cL_goes 3 = .ok (.iload 8, 2) := by decide +kernel
theorem dL_goes_5 : decode cL_goes 5 = .ok (.aload_n 3, 1) := by decide +kernel
theorem dL_goes_6 : decode cL_goes 6 = .ok (.iconst 2, 1) := by decide +kernel
theorem dL_goes_7 : decode cL_goes 7 = .ok (.iaload, 1) := by decide +kernel
theorem dL_goes_8 : decode cL_goes 8 = .ok (.if_icmp .ge 338, 3) := by decide +kernel
theorem dL_goes_11 : decode cL_goes 11 = .ok (.aload_n 0, 1) := by decide +kernel
theorem dL_goes_12 : decode cL_goes 12 = .ok (.iload 8, 2) := by decide +kernel
theorem dL_goes_14 : decode cL_goes 14 = .ok (.iaload, 1) := by decide +kernel
theorem dL_goes_15 : decode cL_goes 15 = .ok (.ldc 93, 2) := by decide +kernel
theorem dL_goes_17 : decode cL_goes 17 = .ok (.if_icmp .ge 32, 3) := by decide +kernel
theorem dL_goes_20 : decode cL_goes 20 = .ok (.aload_n 0, 1) := by decide +kernel
theorem dL_goes_21 : decode cL_goes 21 = .ok (.iload 8, 2) := by decide +kernel
theorem dL_goes_23 : decode cL_goes 23 = .ok (.iaload, 1) := by decide +kernel
theorem dL_goes_24 : decode cL_goes 24 = .ok (.iconst 4, 1) := by decide +kernel
theorem dL_goes_25 : decode cL_goes 25 = .ok (.irem, 1) := by decide +kernel
theorem dL_goes_26 : decode cL_goes 26 = .ok (.iload 6, 2) := by decide +kernel
theorem dL_goes_28 : decode cL_goes 28 = .ok (.if_icmp .ne 21, 3) := by decide +kernel
theorem dL_goes_31 : decode cL_goes 31 = .ok (.aload_n 0, 1) := by decide +kernel
theorem dL_goes_32 : decode cL_goes 32 = .ok (.iload 8, 2) := by decide +kernel
theorem dL_goes_34 : decode cL_goes 34 = .ok (.iaload, 1) := by decide +kernel
theorem dL_goes_35 : decode cL_goes 35 = .ok (.iconst 4, 1) := by decide +kernel
theorem dL_goes_36 : decode cL_goes 36 = .ok (.idiv, 1) := by decide +kernel
theorem dL_goes_37 : decode cL_goes 37 = .ok (.bipush 8, 2) := by decide +kernel
theorem dL_goes_39 : decode cL_goes 39 = .ok (.irem, 1) := by decide +kernel
theorem dL_goes_40 : decode cL_goes 40 = .ok (.iload 7, 2) := by decide +kernel
theorem dL_goes_42 : decode cL_goes 42 = .ok (.if_icmp .ne 7, 3) := by decide +kernel
theorem dL_goes_45 : decode cL_goes 45 = .ok (.iconst 1, 1) := by decide +kernel
theorem dL_goes_46 : decode cL_goes 46 = .ok (.goto 4, 3) := by decide +kernel
theorem dL_goes_49 : decode cL_goes 49 = .ok (.iconst 0, 1) := by decide +kernel
theorem dL_goes_50 : decode cL_goes 50 = .ok (.istore 9, 2) := by decide +kernel
theorem dL_goes_52 : decode cL_goes 52 = .ok (.aload 4, 2) := by decide +kernel
theorem dL_goes_54 : decode cL_goes 54 = .ok (.iload 8, 2) := by decide +kernel
theorem dL_goes_56 : decode cL_goes 56 = .ok (.iload 9, 2) := by decide +kernel
theorem dL_goes_58 : decode cL_goes 58 = .ok (.ifCond .eq 19, 3) := by decide +kernel
theorem dL_goes_61 : decode cL_goes 61 = .ok (.aload_n 1, 1) := by decide +kernel
theorem dL_goes_62 : decode cL_goes 62 = .ok (.iload 8, 2) := by decide +kernel
theorem dL_goes_64 : decode cL_goes 64 = .ok (.laload, 1) := by decide +kernel
theorem dL_goes_65 : decode cL_goes 65 = .ok (.lconst 0, 1) := by decide +kernel
theorem dL_goes_66 : decode cL_goes 66 = .ok (.lcmp, 1) := by decide +kernel
theorem dL_goes_67 : decode cL_goes 67 = .ok (.ifCond .le 10, 3) := by decide +kernel
theorem dL_goes_70 : decode cL_goes 70 = .ok (.aload_n 1, 1) := by decide +kernel
theorem dL_goes_71 : decode cL_goes 71 = .ok (.iload 8, 2) := by decide +kernel
theorem dL_goes_73 : decode cL_goes 73 = .ok (.laload, 1) := by decide +kernel
theorem dL_goes_74 : decode cL_goes 74 = .ok (.goto 4, 3) := by decide +kernel
theorem dL_goes_77 : decode cL_goes 77 = .ok (.lconst 0, 1) := by decide +kernel
theorem dL_goes_78 : decode cL_goes 78 = .ok (.lastore, 1) := by decide +kernel
theorem dL_goes_79 : decode cL_goes 79 = .ok (.aload 4, 2) := by decide +kernel
theorem dL_goes_81 : decode cL_goes 81 = .ok (.bipush 30, 2) := by decide +kernel
theorem dL_goes_83 : decode cL_goes 83 = .ok (.iload 8, 2) := by decide +kernel
theorem dL_goes_85 : decode cL_goes 85 = .ok (.iadd, 1) := by decide +kernel
theorem dL_goes_86 : decode cL_goes 86 = .ok (.iload 9, 2) := by decide +kernel
theorem dL_goes_88 : decode cL_goes 88 = .ok (.ifCond .eq 27, 3) := by decide +kernel
theorem dL_goes_91 : decode cL_goes 91 = .ok (.aload_n 1, 1) := by decide +kernel
theorem dL_goes_92 : decode cL_goes 92 = .ok (.iload 8, 2) := by decide +kernel
theorem dL_goes_94 : decode cL_goes 94 = .ok (.laload, 1) := by decide +kernel
theorem dL_goes_95 : decode cL_goes 95 = .ok (.lconst 0, 1) := by decide +kernel
theorem dL_goes_96 : decode cL_goes 96 = .ok (.lcmp, 1) := by decide +kernel
theorem dL_goes_97 : decode cL_goes 97 = .ok (.ifCond .le 18, 3) := by decide +kernel
theorem dL_goes_100 : decode cL_goes 100 = .ok (.aload_n 2, 1) := by decide +kernel
theorem dL_goes_101 : decode cL_goes 101 = .ok (.iload 8, 2) := by decide +kernel
theorem dL_goes_103 : decode cL_goes 103 = .ok (.laload, 1) := by decide +kernel
theorem dL_goes_104 : decode cL_goes 104 = .ok (.aload_n 2, 1) := by decide +kernel
theorem dL_goes_105 : decode cL_goes 105 = .ok (.iload 8, 2) := by decide +kernel
theorem dL_goes_107 : decode cL_goes 107 = .ok (.laload, 1) := by decide +kernel
theorem dL_goes_108 : decode cL_goes 108 = .ok (.invokestatic 83, 3) := by decide +kernel
theorem dL_goes_111 : decode cL_goes 111 = .ok (.ladd, 1) := by decide +kernel
theorem dL_goes_112 : decode cL_goes 112 = .ok (.goto 4, 3) := by decide +kernel
theorem dL_goes_115 : decode cL_goes 115 = .ok (.lconst 0, 1) := by decide +kernel
theorem dL_goes_116 : decode cL_goes 116 = .ok (.lastore, 1) := by decide +kernel
theorem dL_goes_117 : decode cL_goes 117 = .ok (.iload 9, 2) := by decide +kernel
theorem dL_goes_119 : decode cL_goes 119 = .ok (.ifCond .eq 20, 3) := by decide +kernel
theorem dL_goes_122 : decode cL_goes 122 = .ok (.aload_n 1, 1) := by decide +kernel
theorem dL_goes_123 : decode cL_goes 123 = .ok (.iload 8, 2) := by decide +kernel
theorem dL_goes_125 : decode cL_goes 125 = .ok (.laload, 1) := by decide +kernel
theorem dL_goes_126 : decode cL_goes 126 = .ok (.lconst 0, 1) := by decide +kernel
theorem dL_goes_127 : decode cL_goes 127 = .ok (.lcmp, 1) := by decide +kernel
theorem dL_goes_128 : decode cL_goes 128 = .ok (.ifCond .ge 11, 3) := by decide +kernel
theorem dL_goes_131 : decode cL_goes 131 = .ok (.aload_n 1, 1) := by decide +kernel
theorem dL_goes_132 : decode cL_goes 132 = .ok (.iload 8, 2) := by decide +kernel
theorem dL_goes_134 : decode cL_goes 134 = .ok (.laload, 1) := by decide +kernel
theorem dL_goes_135 : decode cL_goes 135 = .ok (.lneg, 1) := by decide +kernel
theorem dL_goes_136 : decode cL_goes 136 = .ok (.goto 4, 3) := by decide +kernel
theorem dL_goes_139 : decode cL_goes 139 = .ok (.lconst 0, 1) := by decide +kernel
theorem dL_goes_140 : decode cL_goes 140 = .ok (.lstore 10, 2) := by decide +kernel
theorem dL_goes_142 : decode cL_goes 142 = .ok (.lconst 0, 1) := by decide +kernel
theorem dL_goes_143 : decode cL_goes 143 = .ok (.lstore 12, 2) := by decide +kernel
theorem dL_goes_145 : decode cL_goes 145 = .ok (.iconst 0, 1) := by decide +kernel
theorem dL_goes_146 : decode cL_goes 146 = .ok (.istore 14, 2) := by decide +kernel
theorem dL_goes_148 : decode cL_goes 148 = .ok (.iload 14, 2) := by decide +kernel
theorem dL_goes_150 : decode cL_goes 150 = .ok (.iload 8, 2) := by decide +kernel
theorem dL_goes_152 : decode cL_goes 152 = .ok (.if_icmp .ge 128, 3) := by decide +kernel
theorem dL_goes_155 : decode cL_goes 155 = .ok (.lload 10, 2) := by decide +kernel
theorem dL_goes_157 : decode cL_goes 157 = .ok (.lconst 0, 1) := by decide +kernel
theorem dL_goes_158 : decode cL_goes 158 = .ok (.lcmp, 1) := by decide +kernel
theorem dL_goes_159 : decode cL_goes 159 = .ok (.ifCond .le 121, 3) := by decide +kernel
theorem dL_goes_162 : decode cL_goes 162 = .ok (.lload 10, 2) := by decide +kernel
theorem dL_goes_164 : decode cL_goes 164 = .ok (.aload 4, 2) := by decide +kernel
theorem dL_goes_166 : decode cL_goes 166 = .ok (.iload 14, 2) := by decide +kernel
theorem dL_goes_168 : decode cL_goes 168 = .ok (.laload, 1) := by decide +kernel
theorem dL_goes_169 : decode cL_goes 169 = .ok (.lcmp, 1) := by decide +kernel
theorem dL_goes_170 : decode cL_goes 170 = .ok (.ifCond .ge 8, 3) := by decide +kernel
theorem dL_goes_173 : decode cL_goes 173 = .ok (.lload 10, 2) := by decide +kernel
theorem dL_goes_175 : decode cL_goes 175 = .ok (.goto 8, 3) := by decide +kernel
theorem dL_goes_178 : decode cL_goes 178 = .ok (.aload 4, 2) := by decide +kernel
theorem dL_goes_180 : decode cL_goes 180 = .ok (.iload 14, 2) := by decide +kernel
theorem dL_goes_182 : decode cL_goes 182 = .ok (.laload, 1) := by decide +kernel
theorem dL_goes_183 : decode cL_goes 183 = .ok (.lstore 15, 2) := by decide +kernel
theorem dL_goes_185 : decode cL_goes 185 = .ok (.lload 15, 2) := by decide +kernel
theorem dL_goes_187 : decode cL_goes 187 = .ok (.lconst 0, 1) := by decide +kernel
theorem dL_goes_188 : decode cL_goes 188 = .ok (.lcmp, 1) := by decide +kernel
theorem dL_goes_189 : decode cL_goes 189 = .ok (.ifCond .ne 7, 3) := by decide +kernel
theorem dL_goes_192 : decode cL_goes 192 = .ok (.lconst 0, 1) := by decide +kernel
theorem dL_goes_193 : decode cL_goes 193 = .ok (.goto 42, 3) := by decide +kernel
theorem dL_goes_196 : decode cL_goes 196 = .ok (.lload 15, 2) := by decide +kernel
theorem dL_goes_198 : decode cL_goes 198 = .ok (.aload 4, 2) := by decide +kernel
theorem dL_goes_200 : decode cL_goes 200 = .ok (.iload 14, 2) := by decide +kernel
theorem dL_goes_202 : decode cL_goes 202 = .ok (.laload, 1) := by decide +kernel
theorem dL_goes_203 : decode cL_goes 203 = .ok (.lcmp, 1) := by decide +kernel
theorem dL_goes_204 : decode cL_goes 204 = .ok (.ifCond .ne 14, 3) := by decide +kernel
theorem dL_goes_207 : decode cL_goes 207 = .ok (.aload 4, 2) := by decide +kernel
theorem dL_goes_209 : decode cL_goes 209 = .ok (.bipush 30, 2) := by decide +kernel
theorem dL_goes_211 : decode cL_goes 211 = .ok (.iload 14, 2) := by decide +kernel
theorem dL_goes_213 : decode cL_goes 213 = .ok (.iadd, 1) := by decide +kernel
theorem dL_goes_214 : decode cL_goes 214 = .ok (.laload, 1) := by decide +kernel
theorem dL_goes_215 : decode cL_goes 215 = .ok (.goto 20, 3) := by decide +kernel
theorem dL_goes_218 : decode cL_goes 218 = .ok (.aload 4, 2) := by decide +kernel
theorem dL_goes_220 : decode cL_goes 220 = .ok (.bipush 30, 2) := by decide +kernel
theorem dL_goes_222 : decode cL_goes 222 = .ok (.iload 14, 2) := by decide +kernel
theorem dL_goes_224 : decode cL_goes 224 = .ok (.iadd, 1) := by decide +kernel
theorem dL_goes_225 : decode cL_goes 225 = .ok (.laload, 1) := by decide +kernel
theorem dL_goes_226 : decode cL_goes 226 = .ok (.lload 15, 2) := by decide +kernel
theorem dL_goes_228 : decode cL_goes 228 = .ok (.lmul, 1) := by decide +kernel
theorem dL_goes_229 : decode cL_goes 229 = .ok (.aload 4, 2) := by decide +kernel
theorem dL_goes_231 : decode cL_goes 231 = .ok (.iload 14, 2) := by decide +kernel
theorem dL_goes_233 : decode cL_goes 233 = .ok (.laload, 1) := by decide +kernel
theorem dL_goes_234 : decode cL_goes 234 = .ok (.ldiv, 1) := by decide +kernel
theorem dL_goes_235 : decode cL_goes 235 = .ok (.lstore 17, 2) := by decide +kernel
theorem dL_goes_237 : decode cL_goes 237 = .ok (.aload 4, 2) := by decide +kernel
theorem dL_goes_239 : decode cL_goes 239 = .ok (.iload 14, 2) := by decide +kernel
theorem dL_goes_241 : decode cL_goes 241 = .ok (.dup2, 1) := by decide +kernel
theorem dL_goes_242 : decode cL_goes 242 = .ok (.laload, 1) := by decide +kernel
theorem dL_goes_243 : decode cL_goes 243 = .ok (.lload 15, 2) := by decide +kernel
theorem dL_goes_245 : decode cL_goes 245 = .ok (.lsub, 1) := by decide +kernel
theorem dL_goes_246 : decode cL_goes 246 = .ok (.lastore, 1) := by decide +kernel
theorem dL_goes_247 : decode cL_goes 247 = .ok (.aload 4, 2) := by decide +kernel
theorem dL_goes_249 : decode cL_goes 249 = .ok (.bipush 30, 2) := by decide +kernel
theorem dL_goes_251 : decode cL_goes 251 = .ok (.iload 14, 2) := by decide +kernel
theorem dL_goes_253 : decode cL_goes 253 = .ok (.iadd, 1) := by decide +kernel
theorem dL_goes_254 : decode cL_goes 254 = .ok (.dup2, 1) := by decide +kernel
theorem dL_goes_255 : decode cL_goes 255 = .ok (.laload, 1) := by decide +kernel
theorem dL_goes_256 : decode cL_goes 256 = .ok (.lload 17, 2) := by decide +kernel
theorem dL_goes_258 : decode cL_goes 258 = .ok (.lsub, 1) := by decide +kernel
theorem dL_goes_259 : decode cL_goes 259 = .ok (.lastore, 1) := by decide +kernel
theorem dL_goes_260 : decode cL_goes 260 = .ok (.lload 12, 2) := by decide +kernel
theorem dL_goes_262 : decode cL_goes 262 = .ok (.lload 17, 2) := by decide +kernel
theorem dL_goes_264 : decode cL_goes 264 = .ok (.ladd, 1) := by decide +kernel
theorem dL_goes_265 : decode cL_goes 265 = .ok (.lstore 12, 2) := by decide +kernel
theorem dL_goes_267 : decode cL_goes 267 = .ok (.lload 10, 2) := by decide +kernel
theorem dL_goes_269 : decode cL_goes 269 = .ok (.lload 15, 2) := by decide +kernel
theorem dL_goes_271 : decode cL_goes 271 = .ok (.lsub, 1) := by decide +kernel
theorem dL_goes_272 : decode cL_goes 272 = .ok (.lstore 10, 2) := by decide +kernel
theorem dL_goes_274 : decode cL_goes 274 = .ok (.iinc 14 1, 3) := by decide +kernel
theorem dL_goes_277 : decode cL_goes 277 = .ok (.goto (-129), 3) := by decide +kernel
theorem dL_goes_280 : decode cL_goes 280 = .ok (.lload 10, 2) := by decide +kernel
theorem dL_goes_282 : decode cL_goes 282 = .ok (.lconst 0, 1) := by decide +kernel
theorem dL_goes_283 : decode cL_goes 283 = .ok (.lcmp, 1) := by decide +kernel
theorem dL_goes_284 : decode cL_goes 284 = .ok (.ifCond .le 5, 3) := by decide +kernel
theorem dL_goes_287 : decode cL_goes 287 = .ok (.iconst 0, 1) := by decide +kernel
theorem dL_goes_288 : decode cL_goes 288 = .ok (.ireturn, 1) := by decide +kernel
theorem dL_goes_289 : decode cL_goes 289 = .ok (.aload 5, 2) := by decide +kernel
theorem dL_goes_291 : decode cL_goes 291 = .ok (.iload 9, 2) := by decide +kernel
theorem dL_goes_293 : decode cL_goes 293 = .ok (.ifCond .eq 26, 3) := by decide +kernel
theorem dL_goes_296 : decode cL_goes 296 = .ok (.aload_n 1, 1) := by decide +kernel
theorem dL_goes_297 : decode cL_goes 297 = .ok (.iload 8, 2) := by decide +kernel
theorem dL_goes_299 : decode cL_goes 299 = .ok (.laload, 1) := by decide +kernel
theorem dL_goes_300 : decode cL_goes 300 = .ok (.lconst 0, 1) := by decide +kernel
theorem dL_goes_301 : decode cL_goes 301 = .ok (.lcmp, 1) := by decide +kernel
theorem dL_goes_302 : decode cL_goes 302 = .ok (.ifCond .ge 17, 3) := by decide +kernel
theorem dL_goes_305 : decode cL_goes 305 = .ok (.aload_n 0, 1) := by decide +kernel
theorem dL_goes_306 : decode cL_goes 306 = .ok (.iload 8, 2) := by decide +kernel
theorem dL_goes_308 : decode cL_goes 308 = .ok (.iaload, 1) := by decide +kernel
theorem dL_goes_309 : decode cL_goes 309 = .ok (.bipush 32, 2) := by decide +kernel
theorem dL_goes_311 : decode cL_goes 311 = .ok (.idiv, 1) := by decide +kernel
theorem dL_goes_312 : decode cL_goes 312 = .ok (.sipush 360, 3) := by decide +kernel
theorem dL_goes_315 : decode cL_goes 315 = .ok (.idiv, 1) := by decide +kernel
theorem dL_goes_316 : decode cL_goes 316 = .ok (.goto 5, 3) := by decide +kernel
theorem dL_goes_319 : decode cL_goes 319 = .ok (.bipush 21, 2) := by decide +kernel
theorem dL_goes_321 : decode cL_goes 321 = .ok (.dup2, 1) := by decide +kernel
theorem dL_goes_322 : decode cL_goes 322 = .ok (.laload, 1) := by decide +kernel
theorem dL_goes_323 : decode cL_goes 323 = .ok (.aload_n 2, 1) := by decide +kernel
theorem dL_goes_324 : decode cL_goes 324 = .ok (.iload 8, 2) := by decide +kernel
theorem dL_goes_326 : decode cL_goes 326 = .ok (.laload, 1) := by decide +kernel
theorem dL_goes_327 : decode cL_goes 327 = .ok (.aload_n 2, 1) := by decide +kernel
theorem dL_goes_328 : decode cL_goes 328 = .ok (.iload 8, 2) := by decide +kernel
theorem dL_goes_330 : decode cL_goes 330 = .ok (.laload, 1) := by decide +kernel
theorem dL_goes_331 : decode cL_goes 331 = .ok (.invokestatic 83, 3) := by decide +kernel
theorem dL_goes_334 : decode cL_goes 334 = .ok (.lsub, 1) := by decide +kernel
theorem dL_goes_335 : decode cL_goes 335 = .ok (.lload 12, 2) := by decide +kernel
theorem dL_goes_337 : decode cL_goes 337 = .ok (.lsub, 1) := by decide +kernel
theorem dL_goes_338 : decode cL_goes 338 = .ok (.ladd, 1) := by decide +kernel
theorem dL_goes_339 : decode cL_goes 339 = .ok (.lastore, 1) := by decide +kernel
theorem dL_goes_340 : decode cL_goes 340 = .ok (.iinc 8 1, 3) := by decide +kernel
theorem dL_goes_343 : decode cL_goes 343 = .ok (.goto (-340), 3) := by decide +kernel
theorem dL_goes_346 : decode cL_goes 346 = .ok (.iconst 1, 1) := by decide +kernel
theorem dL_goes_347 : decode cL_goes 347 = .ok (.ireturn, 1) := by decide +kernel
set_option maxRecDepth 20000 in
theorem ggL_taxes_L_goes : GoodIn wsL_taxes wsL_goes := goodIn_r _ [4, 5, 6, 7, 3, 8, 9, 10, 11, 12, 13] (by decide +kernel) (by decide +kernel)
set_option maxRecDepth 20000 in
theorem gL_taxes_L_goes : GoodIn wsL_taxes (va_wsS RL 94 yL_goes wsL_goes) := goodIn_app (goodIn_of _ (by decide +kernel)) ggL_taxes_L_goes
theorem dL_taxes_0 : decode cL_taxes 0 = .ok (.iconst 0, 1) := by decide +kernel
theorem dL_taxes_1 : decode cL_taxes 1 = .ok (.istore 7, 2) := by decide +kernel
theorem dL_taxes_3 : decode cL_taxes 3 = .ok (.iload 7, 2) := by decide +kernel
theorem dL_taxes_5 : decode cL_taxes 5 = .ok (.bipush 64, 2) := by decide +kernel
theorem dL_taxes_7 : decode cL_taxes 7 = .ok (.if_icmp .ge 15, 3) := by decide +kernel
theorem dL_taxes_10 : decode cL_taxes 10 = .ok (.aload 5, 2) := by decide +kernel
theorem dL_taxes_12 : decode cL_taxes 12 = .ok (.iload 7, 2) := by decide +kernel
theorem dL_taxes_14 : decode cL_taxes 14 = .ok (.lconst 0, 1) := by decide +kernel
theorem dL_taxes_15 : decode cL_taxes 15 = .ok (.lastore, 1) := by decide +kernel
theorem dL_taxes_16 : decode cL_taxes 16 = .ok (.iinc 7 1, 3) := by decide +kernel
theorem dL_taxes_19 : decode cL_taxes 19 = .ok (.goto (-16), 3) := by decide +kernel
theorem dL_taxes_22 : decode cL_taxes 22 = .ok (.iconst 0, 1) := by decide +kernel
theorem dL_taxes_23 : decode cL_taxes 23 = .ok (.istore 7, 2) := by decide +kernel
theorem dL_taxes_25 : decode cL_taxes 25 = .ok (.iload 7, 2) := by decide +kernel
theorem dL_taxes_27 : decode cL_taxes 27 = .ok (.bipush 6, 2) := by decide +kernel
theorem dL_taxes_29 : decode cL_taxes 29 = .ok (.if_icmp .ge 44, 3) := by decide +kernel
theorem dL_taxes_32 : decode cL_taxes 32 = .ok (.aload_n 0, 1) := by decide +kernel
theorem dL_taxes_33 : decode cL_taxes 33 = .ok (.aload_n 1, 1) := by decide +kernel
theorem dL_taxes_34 : decode cL_taxes 34 = .ok (.aload_n 2, 1) := by decide +kernel
theorem dL_taxes_35 : decode cL_taxes 35 = .ok (.aload_n 3, 1) := by decide +kernel
theorem dL_taxes_36 : decode cL_taxes 36 = .ok (.aload 4, 2) := by decide +kernel
theorem dL_taxes_38 : decode cL_taxes 38 = .ok (.aload 5, 2) := by decide +kernel
theorem dL_taxes_40 : decode cL_taxes 40 = .ok (.iload 6, 2) := by decide +kernel
theorem dL_taxes_42 : decode cL_taxes 42 = .ok (.iload 7, 2) := by decide +kernel
theorem dL_taxes_44 : decode cL_taxes 44 = .ok (.invokestatic 94, 3) := by decide +kernel
theorem dL_taxes_47 : decode cL_taxes 47 = .ok (.istore 8, 2) := by decide +kernel
theorem dL_taxes_49 : decode cL_taxes 49 = .ok (.aload 5, 2) := by decide +kernel
theorem dL_taxes_51 : decode cL_taxes 51 = .ok (.bipush 63, 2) := by decide +kernel
theorem dL_taxes_53 : decode cL_taxes 53 = .ok (.dup2, 1) := by decide +kernel
theorem dL_taxes_54 : decode cL_taxes 54 = .ok (.laload, 1) := by decide +kernel
theorem dL_taxes_55 : decode cL_taxes 55 = .ok (.iload 8, 2) := by decide +kernel
theorem dL_taxes_57 : decode cL_taxes 57 = .ok (.ifCond .eq 7, 3) := by decide +kernel
theorem dL_taxes_60 : decode cL_taxes 60 = .ok (.lconst 0, 1) := by decide +kernel
theorem dL_taxes_61 : decode cL_taxes 61 = .ok (.goto 4, 3) := by decide +kernel
theorem dL_taxes_64 : decode cL_taxes 64 = .ok (.lconst 1, 1) := by decide +kernel
theorem dL_taxes_65 : decode cL_taxes 65 = .ok (.ladd, 1) := by decide +kernel
theorem dL_taxes_66 : decode cL_taxes 66 = .ok (.lastore, 1) := by decide +kernel
theorem dL_taxes_67 : decode cL_taxes 67 = .ok (.iinc 7 1, 3) := by decide +kernel
theorem dL_taxes_70 : decode cL_taxes 70 = .ok (.goto (-45), 3) := by decide +kernel
theorem dL_taxes_73 : decode cL_taxes 73 = .ok (.lconst 0, 1) := by decide +kernel
theorem dL_taxes_74 : decode cL_taxes 74 = .ok (.lstore 7, 2) := by decide +kernel
theorem dL_taxes_76 : decode cL_taxes 76 = .ok (.iconst 0, 1) := by decide +kernel
theorem dL_taxes_77 : decode cL_taxes 77 = .ok (.istore 9, 2) := by decide +kernel
theorem dL_taxes_79 : decode cL_taxes 79 = .ok (.iload 9, 2) := by decide +kernel
theorem dL_taxes_81 : decode cL_taxes 81 = .ok (.bipush 21, 2) := by decide +kernel
theorem dL_taxes_83 : decode cL_taxes 83 = .ok (.if_icmp .ge 55, 3) := by decide +kernel
theorem dL_taxes_86 : decode cL_taxes 86 = .ok (.aload 5, 2) := by decide +kernel
theorem dL_taxes_88 : decode cL_taxes 88 = .ok (.iload 9, 2) := by decide +kernel
theorem dL_taxes_90 : decode cL_taxes 90 = .ok (.laload, 1) := by decide +kernel
theorem dL_taxes_91 : decode cL_taxes 91 = .ok (.lload 7, 2) := by decide +kernel
theorem dL_taxes_93 : decode cL_taxes 93 = .ok (.ladd, 1) := by decide +kernel
theorem dL_taxes_94 : decode cL_taxes 94 = .ok (.lstore 10, 2) := by decide +kernel
theorem dL_taxes_96 : decode cL_taxes 96 = .ok (.aload 5, 2) := by decide +kernel
theorem dL_taxes_98 : decode cL_taxes 98 = .ok (.bipush 22, 2) := by decide +kernel
theorem dL_taxes_100 : decode cL_taxes 100 = .ok (.iload 9, 2) := by decide +kernel
theorem dL_taxes_102 : decode cL_taxes 102 = .ok (.iadd, 1) := by decide +kernel
theorem dL_taxes_103 : decode cL_taxes 103 = .ok (.lload 10, 2) := by decide +kernel
theorem dL_taxes_105 : decode cL_taxes 105 = .ok (.lconst 0, 1) := by decide +kernel
theorem dL_taxes_106 : decode cL_taxes 106 = .ok (.lcmp, 1) := by decide +kernel
theorem dL_taxes_107 : decode cL_taxes 107 = .ok (.ifCond .ge 7, 3) := by decide +kernel
theorem dL_taxes_110 : decode cL_taxes 110 = .ok (.lconst 0, 1) := by decide +kernel
theorem dL_taxes_111 : decode cL_taxes 111 = .ok (.goto 5, 3) := by decide +kernel
theorem dL_taxes_114 : decode cL_taxes 114 = .ok (.lload 10, 2) := by decide +kernel
theorem dL_taxes_116 : decode cL_taxes 116 = .ok (.lastore, 1) := by decide +kernel
theorem dL_taxes_117 : decode cL_taxes 117 = .ok (.lload 10, 2) := by decide +kernel
theorem dL_taxes_119 : decode cL_taxes 119 = .ok (.lconst 0, 1) := by decide +kernel
theorem dL_taxes_120 : decode cL_taxes 120 = .ok (.lcmp, 1) := by decide +kernel
theorem dL_taxes_121 : decode cL_taxes 121 = .ok (.ifCond .ge 8, 3) := by decide +kernel
theorem dL_taxes_124 : decode cL_taxes 124 = .ok (.lload 10, 2) := by decide +kernel
theorem dL_taxes_126 : decode cL_taxes 126 = .ok (.goto 4, 3) := by decide +kernel
theorem dL_taxes_129 : decode cL_taxes 129 = .ok (.lconst 0, 1) := by decide +kernel
theorem dL_taxes_130 : decode cL_taxes 130 = .ok (.lstore 7, 2) := by decide +kernel
theorem dL_taxes_132 : decode cL_taxes 132 = .ok (.iinc 9 1, 3) := by decide +kernel
theorem dL_taxes_135 : decode cL_taxes 135 = .ok (.goto (-56), 3) := by decide +kernel
theorem dL_taxes_138 : decode cL_taxes 138 = .ok (.return_, 1) := by decide +kernel
theorem dL_wealth_0 : decode cL_wealth 0 = .ok (.aload_n 1, 1) := by decide +kernel
theorem dL_wealth_1 : decode cL_wealth 1 = .ok (.bipush 12, 2) := by decide +kernel
theorem dL_wealth_3 : decode cL_wealth 3 = .ok (.iload_n 3, 1) := by decide +kernel
theorem dL_wealth_4 : decode cL_wealth 4 = .ok (.iadd, 1) := by decide +kernel
theorem dL_wealth_5 : decode cL_wealth 5 = .ok (.laload, 1) := by decide +kernel
theorem dL_wealth_6 : decode cL_wealth 6 = .ok (.lstore 4, 2) := by decide +kernel
theorem dL_wealth_8 : decode cL_wealth 8 = .ok (.iconst 0, 1) := by decide +kernel
theorem dL_wealth_9 : decode cL_wealth 9 = .ok (.istore 6, 2) := by decide +kernel
theorem dL_wealth_11 : decode cL_wealth 11 = .ok (.iload 6, 2) := by decide +kernel
theorem dL_wealth_13 : decode cL_wealth 13 = .ok (.bipush 6, 2) := by decide +kernel
theorem dL_wealth_15 : decode cL_wealth 15 = .ok (.if_icmp .ge 33, 3) := by decide +kernel
theorem dL_wealth_18 : decode cL_wealth 18 = .ok (.lload 4, 2) := by decide +kernel
theorem dL_wealth_20 : decode cL_wealth 20 = .ok (.aload_n 2, 1) := by decide +kernel
theorem dL_wealth_21 : decode cL_wealth 21 = .ok (.bipush 6, 2) := by decide +kernel
theorem dL_wealth_23 : decode cL_wealth 23 = .ok (.iload_n 3, 1) := by decide +kernel
theorem dL_wealth_24 : decode cL_wealth 24 = .ok (.imul, 1) := by decide +kernel
theorem dL_wealth_25 : decode cL_wealth 25 = .ok (.iload 6, 2) := by decide +kernel
theorem dL_wealth_27 : decode cL_wealth 27 = .ok (.iadd, 1) := by decide +kernel
theorem dL_wealth_28 : decode cL_wealth 28 = .ok (.laload, 1) := by decide +kernel
theorem dL_wealth_29 : decode cL_wealth 29 = .ok (.aload_n 0, 1) := by decide +kernel
theorem dL_wealth_30 : decode cL_wealth 30 = .ok (.iload 6, 2) := by decide +kernel
theorem dL_wealth_32 : decode cL_wealth 32 = .ok (.iaload, 1) := by decide +kernel
theorem dL_wealth_33 : decode cL_wealth 33 = .ok (.i2l, 1) := by decide +kernel
theorem dL_wealth_34 : decode cL_wealth 34 = .ok (.lmul, 1) := by decide +kernel
theorem dL_wealth_35 : decode cL_wealth 35 = .ok (.ldc2_w 81, 3) := by decide +kernel
theorem dL_wealth_38 : decode cL_wealth 38 = .ok (.ldiv, 1) := by decide +kernel
theorem dL_wealth_39 : decode cL_wealth 39 = .ok (.ladd, 1) := by decide +kernel
theorem dL_wealth_40 : decode cL_wealth 40 = .ok (.lstore 4, 2) := by decide +kernel
theorem dL_wealth_42 : decode cL_wealth 42 = .ok (.iinc 6 1, 3) := by decide +kernel
theorem dL_wealth_45 : decode cL_wealth 45 = .ok (.goto (-34), 3) := by decide +kernel
theorem dL_wealth_48 : decode cL_wealth 48 = .ok (.lload 4, 2) := by decide +kernel
theorem dL_wealth_50 : decode cL_wealth 50 = .ok (.lreturn, 1) := by decide +kernel
set_option maxRecDepth 20000 in
theorem ggL_balances_L_wealth : GoodIn wsL_balances wsL_wealth := goodIn_r _ [6, 2] (by decide +kernel) (by decide +kernel)
set_option maxRecDepth 20000 in
theorem gL_balances_L_wealth : GoodIn wsL_balances (va_wsS RL 98 yL_wealth wsL_wealth) := goodIn_app (goodIn_of _ (by decide +kernel)) ggL_balances_L_wealth
set_option maxRecDepth 20000 in
theorem ggL_balances_L_trades : GoodIn wsL_balances wsL_trades := goodIn_r _ [9, 10, 11, 5, 12, 13, 1, 14, 15, 16, 17, 18, 19, 20, 2] (by decide +kernel) (by decide +kernel)
set_option maxRecDepth 20000 in
theorem gL_balances_L_trades : GoodIn wsL_balances (va_wsS RL 102 yL_trades wsL_trades) := goodIn_app (goodIn_of _ (by decide +kernel)) ggL_balances_L_trades
theorem dL_balances_0 : decode cL_balances 0 = .ok (.aload 7, 2) := by decide +kernel
theorem dL_balances_2 : decode cL_balances 2 = .ok (.iconst 2, 1) := by decide +kernel
theorem dL_balances_3 : decode cL_balances 3 = .ok (.iaload, 1) := by decide +kernel
theorem dL_balances_4 : decode cL_balances 4 = .ok (.istore 9, 2) := by decide +kernel
theorem dL_balances_6 : decode cL_balances 6 = .ok (.aload_n 0, 1) := by decide +kernel
theorem dL_balances_7 : decode cL_balances 7 = .ok (.aload_n 1, 1) := by decide +kernel
theorem dL_balances_8 : decode cL_balances 8 = .ok (.aload_n 2, 1) := by decide +kernel
theorem dL_balances_9 : decode cL_balances 9 = .ok (.iload 8, 2) := by decide +kernel
theorem dL_balances_11 : decode cL_balances 11 = .ok (.invokestatic 98, 3) := by decide +kernel
theorem dL_balances_14 : decode cL_balances 14 = .ok (.lstore 10, 2) := by decide +kernel
theorem dL_balances_16 : decode cL_balances 16 = .ok (.iconst 0, 1) := by decide +kernel
theorem dL_balances_17 : decode cL_balances 17 = .ok (.istore 12, 2) := by decide +kernel
theorem dL_balances_19 : decode cL_balances 19 = .ok (.iload 12, 2) := by decide +kernel
theorem dL_balances_21 : decode cL_balances 21 = .ok (.bipush 12, 2) := by decide +kernel
theorem dL_balances_23 : decode cL_balances 23 = .ok (.if_icmp .ge 240, 3) := by decide +kernel
theorem dL_balances_26 : decode cL_balances 26 = .ok (.iload 12, 2) := by decide +kernel
theorem dL_balances_28 : decode cL_balances 28 = .ok (.bipush 6, 2) := by decide +kernel
theorem dL_balances_30 : decode cL_balances 30 = .ok (.irem, 1) := by decide +kernel
theorem dL_balances_31 : decode cL_balances 31 = .ok (.istore 13, 2) := by decide +kernel
theorem dL_balances_33 : decode cL_balances 33 = .ok (.lload 10, 2) := by decide +kernel
theorem dL_balances_35 : decode cL_balances 35 = .ok (.aload_n 3, 1) := by decide +kernel
theorem dL_balances_36 : decode cL_balances 36 = .ok (.bipush 6, 2) := by decide +kernel
theorem dL_balances_38 : decode cL_balances 38 = .ok (.iload 8, 2) := by decide +kernel
theorem dL_balances_40 : decode cL_balances 40 = .ok (.imul, 1) := by decide +kernel
theorem dL_balances_41 : decode cL_balances 41 = .ok (.iload 13, 2) := by decide +kernel
theorem dL_balances_43 : decode cL_balances 43 = .ok (.iadd, 1) := by decide +kernel
theorem dL_balances_44 : decode cL_balances 44 = .ok (.iaload, 1) := by decide +kernel
theorem dL_balances_45 : decode cL_balances 45 = .ok (.i2l, 1) := by decide +kernel
theorem dL_balances_46 : decode cL_balances 46 = .ok (.lmul, 1) := by decide +kernel
theorem dL_balances_47 : decode cL_balances 47 = .ok (.ldc2_w 71, 3) := by decide +kernel
theorem dL_balances_50 : decode cL_balances 50 = .ok (.ldiv, 1) := by decide +kernel
theorem dL_balances_51 : decode cL_balances 51 = .ok (.lstore 14, 2) := by decide +kernel
theorem dL_balances_53 : decode cL_balances 53 = .ok (.aload_n 2, 1) := by decide +kernel
theorem dL_balances_54 : decode cL_balances 54 = .ok (.bipush 6, 2) := by decide +kernel
theorem dL_balances_56 : decode cL_balances 56 = .ok (.iload 8, 2) := by decide +kernel
theorem dL_balances_58 : decode cL_balances 58 = .ok (.imul, 1) := by decide +kernel
theorem dL_balances_59 : decode cL_balances 59 = .ok (.iload 13, 2) := by decide +kernel
theorem dL_balances_61 : decode cL_balances 61 = .ok (.iadd, 1) := by decide +kernel
theorem dL_balances_62 : decode cL_balances 62 = .ok (.laload, 1) := by decide +kernel
theorem dL_balances_63 : decode cL_balances 63 = .ok (.aload_n 0, 1) := by decide +kernel
theorem dL_balances_64 : decode cL_balances 64 = .ok (.iload 13, 2) := by decide +kernel
theorem dL_balances_66 : decode cL_balances 66 = .ok (.iaload, 1) := by decide +kernel
theorem dL_balances_67 : decode cL_balances 67 = .ok (.i2l, 1) := by decide +kernel
theorem dL_balances_68 : decode cL_balances 68 = .ok (.lmul, 1) := by decide +kernel
theorem dL_balances_69 : decode cL_balances 69 = .ok (.ldc2_w 81, 3) := by decide +kernel
theorem dL_balances_72 : decode cL_balances 72 = .ok (.ldiv, 1) := by decide +kernel
theorem dL_balances_73 : decode cL_balances 73 = .ok (.lload 14, 2) := by decide +kernel
theorem dL_balances_75 : decode cL_balances 75 = .ok (.lsub, 1) := by decide +kernel
theorem dL_balances_76 : decode cL_balances 76 = .ok (.lstore 16, 2) := by decide +kernel
theorem dL_balances_78 : decode cL_balances 78 = .ok (.iload 12, 2) := by decide +kernel
theorem dL_balances_80 : decode cL_balances 80 = .ok (.bipush 6, 2) := by decide +kernel
theorem dL_balances_82 : decode cL_balances 82 = .ok (.if_icmp .ge 68, 3) := by decide +kernel
theorem dL_balances_85 : decode cL_balances 85 = .ok (.lload 16, 2) := by decide +kernel
theorem dL_balances_87 : decode cL_balances 87 = .ok (.lconst 0, 1) := by decide +kernel
theorem dL_balances_88 : decode cL_balances 88 = .ok (.lcmp, 1) := by decide +kernel
theorem dL_balances_89 : decode cL_balances 89 = .ok (.ifCond .le 61, 3) := by decide +kernel
theorem dL_balances_92 : decode cL_balances 92 = .ok (.lload 16, 2) := by decide +kernel
theorem dL_balances_94 : decode cL_balances 94 = .ok (.ldc2_w 81, 3) := by decide +kernel
theorem dL_balances_97 : decode cL_balances 97 = .ok (.lmul, 1) := by decide +kernel
theorem dL_balances_98 : decode cL_balances 98 = .ok (.aload_n 0, 1) := by decide +kernel
theorem dL_balances_99 : decode cL_balances 99 = .ok (.iload 13, 2) := by decide +kernel
theorem dL_balances_101 : decode cL_balances 101 = .ok (.iaload, 1) := by decide +kernel
theorem dL_balances_102 : decode cL_balances 102 = .ok (.i2l, 1) := by decide +kernel
theorem dL_balances_103 : decode cL_balances 103 = .ok (.ldiv, 1) := by decide +kernel
theorem dL_balances_104 : decode cL_balances 104 = .ok (.lstore 18, 2) := by decide +kernel
theorem dL_balances_106 : decode cL_balances 106 = .ok (.lload 18, 2) := by decide +kernel
theorem dL_balances_108 : decode cL_balances 108 = .ok (.aload_n 0, 1) := by decide +kernel
theorem dL_balances_109 : decode cL_balances 109 = .ok (.iload 13, 2) := by decide +kernel
theorem dL_balances_111 : decode cL_balances 111 = .ok (.iaload, 1) := by decide +kernel
theorem dL_balances_112 : decode cL_balances 112 = .ok (.i2l, 1) := by decide +kernel
theorem dL_balances_113 : decode cL_balances 113 = .ok (.lmul, 1) := by decide +kernel
theorem dL_balances_114 : decode cL_balances 114 = .ok (.ldc2_w 81, 3) := by decide +kernel
theorem dL_balances_117 : decode cL_balances 117 = .ok (.ldiv, 1) := by decide +kernel
theorem dL_balances_118 : decode cL_balances 118 = .ok (.lstore 20, 2) := by decide +kernel
theorem dL_balances_120 : decode cL_balances 120 = .ok (.lload 20, 2) := by decide +kernel
theorem dL_balances_122 : decode cL_balances 122 = .ok (.lconst 0, 1) := by decide +kernel
theorem dL_balances_123 : decode cL_balances 123 = .ok (.lcmp, 1) := by decide +kernel
theorem dL_balances_124 : decode cL_balances 124 = .ok (.ifCond .le 26, 3) := by decide +kernel
theorem dL_balances_127 : decode cL_balances 127 = .ok (.aload_n 0, 1) := by decide +kernel
theorem dL_balances_128 : decode cL_balances 128 = .ok (.aload_n 1, 1) := by decide +kernel
theorem dL_balances_129 : decode cL_balances 129 = .ok (.aload_n 2, 1) := by decide +kernel
theorem dL_balances_130 : decode cL_balances 130 = .ok (.aload 4, 2) := by decide +kernel
theorem dL_balances_132 : decode cL_balances 132 = .ok (.aload 5, 2) := by decide +kernel
theorem dL_balances_134 : decode cL_balances 134 = .ok (.aload 6, 2) := by decide +kernel
theorem dL_balances_136 : decode cL_balances 136 = .ok (.aload 7, 2) := by decide +kernel
theorem dL_balances_138 : decode cL_balances 138 = .ok (.iload 8, 2) := by decide +kernel
theorem dL_balances_140 : decode cL_balances 140 = .ok (.iload 13, 2) := by decide +kernel
theorem dL_balances_142 : decode cL_balances 142 = .ok (.lload 18, 2) := by decide +kernel
theorem dL_balances_144 : decode cL_balances 144 = .ok (.lneg, 1) := by decide +kernel
theorem dL_balances_145 : decode cL_balances 145 = .ok (.lload 20, 2) := by decide +kernel
theorem dL_balances_147 : decode cL_balances 147 = .ok (.invokestatic 102, 3) := by decide +kernel
theorem dL_balances_150 : decode cL_balances 150 = .ok (.iload 12, 2) := by decide +kernel
theorem dL_balances_152 : decode cL_balances 152 = .ok (.iconst 5, 1) := by decide +kernel
theorem dL_balances_153 : decode cL_balances 153 = .ok (.if_icmp .le 104, 3) := by decide +kernel
theorem dL_balances_156 : decode cL_balances 156 = .ok (.lload 16, 2) := by decide +kernel
theorem dL_balances_158 : decode cL_balances 158 = .ok (.lconst 0, 1) := by decide +kernel
theorem dL_balances_159 : decode cL_balances 159 = .ok (.lcmp, 1) := by decide +kernel
theorem dL_balances_160 : decode cL_balances 160 = .ok (.ifCond .ge 97, 3) := by decide +kernel
theorem dL_balances_163 : decode cL_balances 163 = .ok (.aload_n 1, 1) := by decide +kernel
theorem dL_balances_164 : decode cL_balances 164 = .ok (.bipush 12, 2) := by decide +kernel
theorem dL_balances_166 : decode cL_balances 166 = .ok (.iload 8, 2) := by decide +kernel
theorem dL_balances_168 : decode cL_balances 168 = .ok (.iadd, 1) := by decide +kernel
theorem dL_balances_169 : decode cL_balances 169 = .ok (.laload, 1) := by decide +kernel
theorem dL_balances_170 : decode cL_balances 170 = .ok (.aload_n 1, 1) := by decide +kernel
theorem dL_balances_171 : decode cL_balances 171 = .ok (.bipush 12, 2) := by decide +kernel
theorem dL_balances_173 : decode cL_balances 173 = .ok (.iload 8, 2) := by decide +kernel
theorem dL_balances_175 : decode cL_balances 175 = .ok (.iadd, 1) := by decide +kernel
theorem dL_balances_176 : decode cL_balances 176 = .ok (.laload, 1) := by decide +kernel
theorem dL_balances_177 : decode cL_balances 177 = .ok (.ldc2_w 71, 3) := by decide +kernel
theorem dL_balances_180 : decode cL_balances 180 = .ok (.ldiv, 1) := by decide +kernel
theorem dL_balances_181 : decode cL_balances 181 = .ok (.lsub, 1) := by decide +kernel
theorem dL_balances_182 : decode cL_balances 182 = .ok (.lstore 18, 2) := by decide +kernel
theorem dL_balances_184 : decode cL_balances 184 = .ok (.lload 16, 2) := by decide +kernel
theorem dL_balances_186 : decode cL_balances 186 = .ok (.lneg, 1) := by decide +kernel
theorem dL_balances_187 : decode cL_balances 187 = .ok (.lload 18, 2) := by decide +kernel
theorem dL_balances_189 : decode cL_balances 189 = .ok (.lcmp, 1) := by decide +kernel
theorem dL_balances_190 : decode cL_balances 190 = .ok (.ifCond .ge 9, 3) := by decide +kernel
theorem dL_balances_193 : decode cL_balances 193 = .ok (.lload 16, 2) := by decide +kernel
theorem dL_balances_195 : decode cL_balances 195 = .ok (.lneg, 1) := by decide +kernel
theorem dL_balances_196 : decode cL_balances 196 = .ok (.goto 5, 3) := by decide +kernel
theorem dL_balances_199 : decode cL_balances 199 = .ok (.lload 18, 2) := by decide +kernel
theorem dL_balances_201 : decode cL_balances 201 = .ok (.lstore 20, 2) := by decide +kernel
theorem dL_balances_203 : decode cL_balances 203 = .ok (.lload 20, 2) := by decide +kernel
theorem dL_balances_205 : decode cL_balances 205 = .ok (.lconst 0, 1) := by decide +kernel
theorem dL_balances_206 : decode cL_balances 206 = .ok (.lcmp, 1) := by decide +kernel
theorem dL_balances_207 : decode cL_balances 207 = .ok (.ifCond .le 18, 3) := by decide +kernel
theorem dL_balances_210 : decode cL_balances 210 = .ok (.lload 20, 2) := by decide +kernel
theorem dL_balances_212 : decode cL_balances 212 = .ok (.ldc2_w 81, 3) := by decide +kernel
theorem dL_balances_215 : decode cL_balances 215 = .ok (.lmul, 1) := by decide +kernel
theorem dL_balances_216 : decode cL_balances 216 = .ok (.aload_n 0, 1) := by decide +kernel
theorem dL_balances_217 : decode cL_balances 217 = .ok (.iload 13, 2) := by decide +kernel
theorem dL_balances_219 : decode cL_balances 219 = .ok (.iaload, 1) := by decide +kernel
theorem dL_balances_220 : decode cL_balances 220 = .ok (.i2l, 1) := by decide +kernel
theorem dL_balances_221 : decode cL_balances 221 = .ok (.ldiv, 1) := by decide +kernel
theorem dL_balances_222 : decode cL_balances 222 = .ok (.goto 4, 3) := by decide +kernel
theorem dL_balances_225 : decode cL_balances 225 = .ok (.lconst 0, 1) := by decide +kernel
theorem dL_balances_226 : decode cL_balances 226 = .ok (.lstore 22, 2) := by decide +kernel
theorem dL_balances_228 : decode cL_balances 228 = .ok (.lload 22, 2) := by decide +kernel
theorem dL_balances_230 : decode cL_balances 230 = .ok (.lconst 0, 1) := by decide +kernel
theorem dL_balances_231 : decode cL_balances 231 = .ok (.lcmp, 1) := by decide +kernel
theorem dL_balances_232 : decode cL_balances 232 = .ok (.ifCond .le 25, 3) := by decide +kernel
theorem dL_balances_235 : decode cL_balances 235 = .ok (.aload_n 0, 1) := by decide +kernel
theorem dL_balances_236 : decode cL_balances 236 = .ok (.aload_n 1, 1) := by decide +kernel
theorem dL_balances_237 : decode cL_balances 237 = .ok (.aload_n 2, 1) := by decide +kernel
theorem dL_balances_238 : decode cL_balances 238 = .ok (.aload 4, 2) := by decide +kernel
theorem dL_balances_240 : decode cL_balances 240 = .ok (.aload 5, 2) := by decide +kernel
theorem dL_balances_242 : decode cL_balances 242 = .ok (.aload 6, 2) := by decide +kernel
theorem dL_balances_244 : decode cL_balances 244 = .ok (.aload 7, 2) := by decide +kernel
theorem dL_balances_246 : decode cL_balances 246 = .ok (.iload 8, 2) := by decide +kernel
theorem dL_balances_248 : decode cL_balances 248 = .ok (.iload 13, 2) := by decide +kernel
theorem dL_balances_250 : decode cL_balances 250 = .ok (.lload 22, 2) := by decide +kernel
theorem dL_balances_252 : decode cL_balances 252 = .ok (.lload 20, 2) := by decide +kernel
theorem dL_balances_254 : decode cL_balances 254 = .ok (.invokestatic 102, 3) := by decide +kernel
theorem dL_balances_257 : decode cL_balances 257 = .ok (.iinc 12 1, 3) := by decide +kernel
theorem dL_balances_260 : decode cL_balances 260 = .ok (.goto (-241), 3) := by decide +kernel
theorem dL_balances_263 : decode cL_balances 263 = .ok (.aload 7, 2) := by decide +kernel
theorem dL_balances_265 : decode cL_balances 265 = .ok (.iconst 2, 1) := by decide +kernel
theorem dL_balances_266 : decode cL_balances 266 = .ok (.iaload, 1) := by decide +kernel
theorem dL_balances_267 : decode cL_balances 267 = .ok (.iload 9, 2) := by decide +kernel
theorem dL_balances_269 : decode cL_balances 269 = .ok (.isub, 1) := by decide +kernel
theorem dL_balances_270 : decode cL_balances 270 = .ok (.ireturn, 1) := by decide +kernel
end
section
set_option maxRecDepth 20000 in
theorem ggL_isSo_X4_cash : GoodIn wsL_isSo wsX4_cash := goodIn_ca (goodIn_r _ [10, 11, 12, 13, 14, 15, 9, 16, 17, 18, 19, 20, 21, 22, 23, 24, 25, 26, 27, 28, 29, 30, 31, 32, 33, 34, 35, 36, 37, 38, 39, 40, 41, 42, 43, 44, 45, 46, 395, 396, 397, 398, 399, 400, 401, 402, 403, 404, 405, 406, 407] (by decide +kernel) (by decide +kernel)) (goodIn_sub (fun _ h => List.mem_cons_of_mem _ (List.mem_append_left _ (List.mem_append_left _ (List.mem_append_right _ h)))) (by decide +kernel))
set_option maxRecDepth 20000 in
theorem gL_isSo_X4_cash : GoodIn wsL_isSo (wsV RL 106 RX4 yX4_cash wsX4_cash) := goodIn_app (goodIn_of _ (by decide +kernel)) ggL_isSo_X4_cash
set_option maxRecDepth 20000 in
theorem ggL_isSo_X4_parts : GoodIn wsL_isSo wsX4_parts := goodIn_ca (goodIn_r _ [50, 51, 52, 53, 54, 55, 9, 56, 57, 58, 19, 20, 21, 22, 23, 24, 25, 26, 27, 28, 29, 30, 31, 32, 33, 34, 35, 36, 37, 38, 39, 40, 41, 42, 43, 44, 45, 46, 59, 60, 61, 62, 63, 64, 13, 14, 15, 16, 17, 18, 408, 409, 410, 411, 412, 413, 414, 415, 395, 396, 397, 398, 399, 405, 406, 407, 400, 401, 402, 403, 404] (by decide +kernel) (by decide +kernel)) (goodIn_sub (fun _ h => List.mem_cons_of_mem _ (List.mem_append_left _ (List.mem_append_left _ (List.mem_append_right _ h)))) (by decide +kernel))
set_option maxRecDepth 20000 in
theorem gL_isSo_X4_parts : GoodIn wsL_isSo (wsV RL 54 RX4 yX4_parts wsX4_parts) := goodIn_app (goodIn_of _ (by decide +kernel)) ggL_isSo_X4_parts
set_option maxRecDepth 20000 in
theorem ggL_isSo_X4_units : GoodIn wsL_isSo wsX4_units := goodIn_ca (goodIn_r _ [68, 69, 53, 54, 55, 9, 56, 57, 58, 19, 20, 21, 22, 23, 24, 25, 26, 27, 28, 29, 30, 31, 32, 33, 34, 35, 36, 37, 38, 39, 40, 41, 42, 43, 44, 45, 46, 408, 409, 410, 411, 395, 396, 397, 398, 399, 405, 406, 407] (by decide +kernel) (by decide +kernel)) (goodIn_sub (fun _ h => List.mem_cons_of_mem _ (List.mem_append_left _ (List.mem_append_left _ (List.mem_append_right _ h)))) (by decide +kernel))
set_option maxRecDepth 20000 in
theorem gL_isSo_X4_units : GoodIn wsL_isSo (wsV RL 109 RX4 yX4_units wsX4_units) := goodIn_app (goodIn_of _ (by decide +kernel)) ggL_isSo_X4_units
set_option maxRecDepth 20000 in
theorem ggL_isSo_X4_wealth : GoodIn wsL_isSo wsX4_wealth := goodIn_ca (goodIn_r _ [73, 13, 14, 15, 9, 16, 17, 18, 19, 20, 21, 22, 23, 24, 25, 26, 27, 28, 29, 30, 31, 32, 33, 34, 35, 36, 37, 38, 39, 40, 41, 42, 43, 44, 45, 46, 74, 75, 76, 12, 63, 64, 77, 78, 79, 52, 80, 81, 82, 83, 84, 85, 395, 396, 397, 398, 399, 405, 406, 407, 400, 401, 402, 403, 404, 412, 413, 414, 415, 408, 409, 410, 411] (by decide +kernel) (by decide +kernel)) (goodIn_sub (fun _ h => List.mem_cons_of_mem _ (List.mem_append_left _ (List.mem_append_left _ (List.mem_append_right _ h)))) (by decide +kernel))
set_option maxRecDepth 20000 in
theorem gL_isSo_X4_wealth : GoodIn wsL_isSo (wsV RL 112 RX4 yX4_wealth wsX4_wealth) := goodIn_app (goodIn_of _ (by decide +kernel)) ggL_isSo_X4_wealth
set_option maxRecDepth 20000 in
theorem ggL_isSo_L_wealth : GoodIn wsL_isSo wsL_wealth := goodIn_r _ [89, 1] (by decide +kernel) (by decide +kernel)
set_option maxRecDepth 20000 in
theorem gL_isSo_L_wealth : GoodIn wsL_isSo (va_wsS RL 98 yL_wealth wsL_wealth) := goodIn_app (goodIn_of _ (by decide +kernel)) ggL_isSo_L_wealth
set_option maxRecDepth 20000 in
theorem ggL_isSo_X4_tradeOf : GoodIn wsL_isSo wsX4_tradeOf := goodIn_ca (goodIn_ca (goodIn_r _ [93, 94, 95, 96, 80, 97, 98, 99, 100, 101, 102, 103, 104, 105, 9, 106, 107, 108, 19, 20, 21, 22, 23, 24, 25, 26, 27, 28, 29, 30, 31, 32, 33, 34, 35, 36, 37, 38, 39, 40, 41, 42, 43, 44, 45, 46, 109, 110, 111, 112, 113, 416, 417, 418, 419, 420, 421, 422, 423, 424, 412, 413, 414, 415, 400, 401, 402, 403, 404, 408, 409, 410, 411, 395, 396, 397, 398, 399, 405, 406, 407] (by decide +kernel) (by decide +kernel)) (goodIn_sub (fun _ h => List.mem_cons_of_mem _ (List.mem_append_left _ (List.mem_append_left _ (List.mem_append_right _ h)))) (by decide +kernel))) (goodIn_sub (fun _ h => List.mem_cons_of_mem _ (List.mem_append_left _ (List.mem_append_right _ h))) (by decide +kernel))
set_option maxRecDepth 20000 in
theorem gL_isSo_X4_tradeOf : GoodIn wsL_isSo (wsV RL 43 RX4 yX4_tradeOf wsX4_tradeOf) := goodIn_app (goodIn_of _ (by decide +kernel)) ggL_isSo_X4_tradeOf
set_option maxRecDepth 20000 in
theorem ggL_isSo_L_costs : GoodIn wsL_isSo wsL_costs := goodIn_r _ [116, 117, 118, 119, 120, 121] (by decide +kernel) (by decide +kernel)
set_option maxRecDepth 20000 in
theorem gL_isSo_L_costs : GoodIn wsL_isSo (va_wsS RL 83 yL_costs wsL_costs) := goodIn_app (goodIn_of _ (by decide +kernel)) ggL_isSo_L_costs
set_option maxRecDepth 20000 in
theorem ggL_isSo_L_taxes : GoodIn wsL_isSo wsL_taxes := goodIn_r _ [124, 125, 126, 88, 127, 2, 114, 115, 116, 117, 118, 119, 120, 121] (by decide +kernel) (by decide +kernel)
set_option maxRecDepth 20000 in
theorem gL_isSo_L_taxes : GoodIn wsL_isSo (va_wsS RL 114 yL_taxes wsL_taxes) := goodIn_app (goodIn_of _ (by decide +kernel)) ggL_isSo_L_taxes
set_option maxRecDepth 20000 in
theorem ggL_isSo_X4_year : GoodIn wsL_isSo wsX4_year := goodIn_ca (goodIn_ca (goodIn_r _ [131, 132, 133, 134, 13, 14, 15, 9, 16, 17, 18, 19, 20, 21, 22, 23, 24, 25, 26, 27, 28, 29, 30, 31, 32, 33, 34, 35, 36, 37, 38, 39, 40, 41, 42, 43, 44, 45, 46, 109, 110, 111, 112, 113, 135, 136, 137, 138, 139, 140, 141, 142, 143, 144, 400, 401, 402, 403, 404, 395, 396, 397, 398, 399, 405, 406, 407] (by decide +kernel) (by decide +kernel)) (goodIn_sub (fun _ h => List.mem_cons_of_mem _ (List.mem_append_left _ (List.mem_append_left _ (List.mem_append_right _ h)))) (by decide +kernel))) (goodIn_sub (fun _ h => List.mem_cons_of_mem _ (List.mem_append_left _ (List.mem_append_right _ h))) (by decide +kernel))
set_option maxRecDepth 20000 in
theorem gL_isSo_X4_year : GoodIn wsL_isSo (wsV RL 46 RX4 yX4_year wsX4_year) := goodIn_app (goodIn_of _ (by decide +kernel)) ggL_isSo_X4_year
set_option maxRecDepth 20000 in
theorem ggL_isSo_L_goes : GoodIn wsL_isSo wsL_goes := goodIn_r _ [127, 2, 114, 115, 88, 116, 117, 118, 119, 120, 121] (by decide +kernel) (by decide +kernel)
set_option maxRecDepth 20000 in
theorem gL_isSo_L_goes : GoodIn wsL_isSo (va_wsS RL 94 yL_goes wsL_goes) := goodIn_app (goodIn_of _ (by decide +kernel)) ggL_isSo_L_goes
set_option maxRecDepth 20000 in
theorem ggL_isSo_X4_lot : GoodIn wsL_isSo wsX4_lot := goodIn_ca (goodIn_ca (goodIn_r _ [148, 107, 108, 94, 149, 150, 151, 152, 59, 60, 61, 9, 62, 63, 64, 13, 14, 15, 16, 17, 18, 19, 20, 21, 22, 23, 24, 25, 26, 27, 28, 29, 30, 31, 32, 33, 34, 35, 36, 37, 38, 39, 40, 41, 42, 43, 44, 45, 46, 109, 110, 111, 112, 113, 395, 396, 397, 398, 399, 416, 417, 418, 419, 420, 421, 422, 423, 424, 400, 401, 402, 403, 404, 405, 406, 407] (by decide +kernel) (by decide +kernel)) (goodIn_sub (fun _ h => List.mem_cons_of_mem _ (List.mem_append_left _ (List.mem_append_left _ (List.mem_append_right _ h)))) (by decide +kernel))) (goodIn_sub (fun _ h => List.mem_cons_of_mem _ (List.mem_append_left _ (List.mem_append_right _ h))) (by decide +kernel))
set_option maxRecDepth 20000 in
theorem gL_isSo_X4_lot : GoodIn wsL_isSo (wsV RL 50 RX4 yX4_lot wsX4_lot) := goodIn_app (goodIn_of _ (by decide +kernel)) ggL_isSo_X4_lot
set_option maxRecDepth 20000 in
theorem ggL_isSo_L_does : GoodIn wsL_isSo wsL_does := goodIn_ca (goodIn_ca (goodIn_ca (goodIn_r _ [155, 156, 157, 158, 5, 159, 160, 161, 162, 163, 9, 164, 165, 84, 53, 54, 55, 56, 57, 58, 19, 20, 21, 22, 23, 24, 25, 26, 27, 28, 29, 30, 31, 32, 33, 34, 35, 36, 37, 38, 39, 40, 41, 42, 43, 44, 45, 46, 109, 110, 111, 112, 113, 166, 167, 168, 169, 17, 170, 171, 172, 63, 173, 174, 175, 176, 177, 178, 179, 180, 181, 182, 183, 184, 185, 186, 187, 188, 189, 190, 191, 192, 193, 194, 195, 196, 197, 198, 199, 200, 201, 202, 203, 204, 205, 206, 207, 208, 209, 210, 211, 212, 213, 214, 215, 216, 217, 218, 219, 220, 221, 222, 223, 224, 225, 226, 227, 228, 229, 230, 231, 232, 233, 140, 234, 235, 236, 237, 238, 239, 240, 241, 242, 243, 244, 245, 246, 247, 248, 249, 250, 251, 252, 253, 254, 255, 256, 257, 258, 259, 260, 261, 262, 263, 264, 265, 266, 267, 268, 269, 270, 12, 13, 14, 15, 16, 18, 271, 272, 273, 274, 95, 275, 59, 60, 61, 62, 64, 276, 277, 278, 279, 280, 281, 282, 107, 80, 283, 284, 285, 85, 286, 287, 288, 289, 290, 291, 292, 293, 294, 295, 296, 297, 298, 299, 300, 301, 150, 302, 303, 304, 305, 306, 307, 308, 309, 310, 311, 312, 313, 314, 315, 316, 317, 318, 319, 320, 321, 322, 323, 324, 11, 52, 51, 325, 326, 327, 328, 329, 69, 330, 331, 332, 333, 94, 101, 98, 149, 151, 334, 335, 336, 337, 338, 339, 340, 341, 108, 138, 139, 141, 342, 343, 344, 132, 345, 346, 347, 348, 349, 350, 81, 82, 83, 351, 352, 353, 354, 355, 74, 75, 76, 77, 78, 79, 356, 357, 358, 359, 360, 361, 362, 363, 364, 365, 366, 367, 368, 369, 370, 371, 102, 103, 104, 105, 106, 372, 373, 374, 375, 376, 377, 378, 379, 380, 381, 382, 383, 384, 385, 386, 133, 134, 135, 136, 137, 142, 143, 144, 387, 388, 389, 390, 391, 392, 393, 394, 90, 91, 92, 93, 96, 97, 99, 100, 128, 129, 130, 131, 145, 146, 147, 148, 152, 47, 48, 49, 50, 408, 409, 410, 411, 395, 396, 397, 398, 399, 405, 406, 407, 400, 401, 402, 403, 404, 412, 413, 414, 415, 416, 417, 418, 419, 420, 421, 422, 423, 424] (by decide +kernel) (by decide +kernel)) (goodIn_sub (fun _ h => List.mem_cons_of_mem _ (List.mem_append_left _ (List.mem_append_left _ (List.mem_append_right _ h)))) (by decide +kernel))) (goodIn_sub (fun _ h => List.mem_cons_of_mem _ (List.mem_append_left _ (List.mem_append_right _ h))) (by decide +kernel))) (goodIn_sub (fun _ h => List.mem_cons_of_mem _ (List.mem_append_right _ h)) (by decide +kernel))
set_option maxRecDepth 20000 in
theorem gL_isSo_L_does : GoodIn wsL_isSo (va_wsS RL 122 yL_does wsL_does) := goodIn_app (goodIn_of _ (by decide +kernel)) ggL_isSo_L_does
theorem dL_isSo_0 : decode cL_isSo 0 = .ok (.aload_n 0, 1) := by decide +kernel
theorem dL_isSo_1 : decode cL_isSo 1 = .ok (.iconst (-1), 1) := by decide +kernel
theorem dL_isSo_2 : decode cL_isSo 2 = .ok (.invokevirtual 106, 3) := by decide +kernel
theorem dL_isSo_5 : decode cL_isSo 5 = .ok (.aload_n 2, 1) := by decide +kernel
theorem dL_isSo_6 : decode cL_isSo 6 = .ok (.bipush 15, 2) := by decide +kernel
theorem dL_isSo_8 : decode cL_isSo 8 = .ok (.laload, 1) := by decide +kernel
theorem dL_isSo_9 : decode cL_isSo 9 = .ok (.lcmp, 1) := by decide +kernel
theorem dL_isSo_10 : decode cL_isSo 10 = .ok (.ifCond .ne 7, 3) := by decide +kernel
theorem dL_isSo_13 : decode cL_isSo 13 = .ok (.iconst 1, 1) := by decide +kernel
theorem dL_isSo_14 : decode cL_isSo 14 = .ok (.goto 4, 3) := by decide +kernel
theorem dL_isSo_17 : decode cL_isSo 17 = .ok (.iconst 0, 1) := by decide +kernel
theorem dL_isSo_18 : decode cL_isSo 18 = .ok (.istore 13, 2) := by decide +kernel
theorem dL_isSo_20 : decode cL_isSo 20 = .ok (.iconst 0, 1) := by decide +kernel
theorem dL_isSo_21 : decode cL_isSo 21 = .ok (.istore 14, 2) := by decide +kernel
theorem dL_isSo_23 : decode cL_isSo 23 = .ok (.iload 14, 2) := by decide +kernel
theorem dL_isSo_25 : decode cL_isSo 25 = .ok (.bipush 6, 2) := by decide +kernel
theorem dL_isSo_27 : decode cL_isSo 27 = .ok (.if_icmp .ge 148, 3) := by decide +kernel
theorem dL_isSo_30 : decode cL_isSo 30 = .ok (.iload 13, 2) := by decide +kernel
theorem dL_isSo_32 : decode cL_isSo 32 = .ok (.ifCond .eq 143, 3) := by decide +kernel
theorem dL_isSo_35 : decode cL_isSo 35 = .ok (.aload_n 2, 1) := by decide +kernel
theorem dL_isSo_36 : decode cL_isSo 36 = .ok (.bipush 6, 2) := by decide +kernel
theorem dL_isSo_38 : decode cL_isSo 38 = .ok (.iload 14, 2) := by decide +kernel
theorem dL_isSo_40 : decode cL_isSo 40 = .ok (.iadd, 1) := by decide +kernel
theorem dL_isSo_41 : decode cL_isSo 41 = .ok (.laload, 1) := by decide +kernel
theorem dL_isSo_42 : decode cL_isSo 42 = .ok (.lstore 15, 2) := by decide +kernel
theorem dL_isSo_44 : decode cL_isSo 44 = .ok (.iconst 0, 1) := by decide +kernel
theorem dL_isSo_45 : decode cL_isSo 45 = .ok (.istore 17, 2) := by decide +kernel
theorem dL_isSo_47 : decode cL_isSo 47 = .ok (.iload 17, 2) := by decide +kernel
theorem dL_isSo_49 : decode cL_isSo 49 = .ok (.aload 7, 2) := by decide +kernel
theorem dL_isSo_51 : decode cL_isSo 51 = .ok (.iconst 1, 1) := by decide +kernel
theorem dL_isSo_52 : decode cL_isSo 52 = .ok (.iaload, 1) := by decide +kernel
theorem dL_isSo_53 : decode cL_isSo 53 = .ok (.if_icmp .ge 58, 3) := by decide +kernel
theorem dL_isSo_56 : decode cL_isSo 56 = .ok (.iload 13, 2) := by decide +kernel
theorem dL_isSo_58 : decode cL_isSo 58 = .ok (.ifCond .eq 53, 3) := by decide +kernel
theorem dL_isSo_61 : decode cL_isSo 61 = .ok (.lload 15, 2) := by decide +kernel
theorem dL_isSo_63 : decode cL_isSo 63 = .ok (.aload_n 3, 1) := by decide +kernel
theorem dL_isSo_64 : decode cL_isSo 64 = .ok (.bipush 6, 2) := by decide +kernel
theorem dL_isSo_66 : decode cL_isSo 66 = .ok (.iload 17, 2) := by decide +kernel
theorem dL_isSo_68 : decode cL_isSo 68 = .ok (.imul, 1) := by decide +kernel
theorem dL_isSo_69 : decode cL_isSo 69 = .ok (.iload 14, 2) := by decide +kernel
theorem dL_isSo_71 : decode cL_isSo 71 = .ok (.iadd, 1) := by decide +kernel
theorem dL_isSo_72 : decode cL_isSo 72 = .ok (.laload, 1) := by decide +kernel
theorem dL_isSo_73 : decode cL_isSo 73 = .ok (.ladd, 1) := by decide +kernel
theorem dL_isSo_74 : decode cL_isSo 74 = .ok (.lstore 15, 2) := by decide +kernel
theorem dL_isSo_76 : decode cL_isSo 76 = .ok (.aload_n 0, 1) := by decide +kernel
theorem dL_isSo_77 : decode cL_isSo 77 = .ok (.iload 17, 2) := by decide +kernel
theorem dL_isSo_79 : decode cL_isSo 79 = .ok (.iload 14, 2) := by decide +kernel
theorem dL_isSo_81 : decode cL_isSo 81 = .ok (.invokevirtual 54, 3) := by decide +kernel
theorem dL_isSo_84 : decode cL_isSo 84 = .ok (.aload_n 3, 1) := by decide +kernel
theorem dL_isSo_85 : decode cL_isSo 85 = .ok (.bipush 6, 2) := by decide +kernel
theorem dL_isSo_87 : decode cL_isSo 87 = .ok (.iload 17, 2) := by decide +kernel
theorem dL_isSo_89 : decode cL_isSo 89 = .ok (.imul, 1) := by decide +kernel
theorem dL_isSo_90 : decode cL_isSo 90 = .ok (.iload 14, 2) := by decide +kernel
theorem dL_isSo_92 : decode cL_isSo 92 = .ok (.iadd, 1) := by decide +kernel
theorem dL_isSo_93 : decode cL_isSo 93 = .ok (.laload, 1) := by decide +kernel
theorem dL_isSo_94 : decode cL_isSo 94 = .ok (.lcmp, 1) := by decide +kernel
theorem dL_isSo_95 : decode cL_isSo 95 = .ok (.ifCond .ne 7, 3) := by decide +kernel
theorem dL_isSo_98 : decode cL_isSo 98 = .ok (.iconst 1, 1) := by decide +kernel
theorem dL_isSo_99 : decode cL_isSo 99 = .ok (.goto 4, 3) := by decide +kernel
theorem dL_isSo_102 : decode cL_isSo 102 = .ok (.iconst 0, 1) := by decide +kernel
theorem dL_isSo_103 : decode cL_isSo 103 = .ok (.istore 13, 2) := by decide +kernel
theorem dL_isSo_105 : decode cL_isSo 105 = .ok (.iinc 17 1, 3) := by decide +kernel
theorem dL_isSo_108 : decode cL_isSo 108 = .ok (.goto (-61), 3) := by decide +kernel
theorem dL_isSo_111 : decode cL_isSo 111 = .ok (.iload 13, 2) := by decide +kernel
theorem dL_isSo_113 : decode cL_isSo 113 = .ok (.ifCond .eq 53, 3) := by decide +kernel
theorem dL_isSo_116 : decode cL_isSo 116 = .ok (.aload_n 0, 1) := by decide +kernel
theorem dL_isSo_117 : decode cL_isSo 117 = .ok (.iload 14, 2) := by decide +kernel
theorem dL_isSo_119 : decode cL_isSo 119 = .ok (.invokevirtual 109, 3) := by decide +kernel
theorem dL_isSo_122 : decode cL_isSo 122 = .ok (.aload_n 2, 1) := by decide +kernel
theorem dL_isSo_123 : decode cL_isSo 123 = .ok (.iload 14, 2) := by decide +kernel
theorem dL_isSo_125 : decode cL_isSo 125 = .ok (.laload, 1) := by decide +kernel
theorem dL_isSo_126 : decode cL_isSo 126 = .ok (.lcmp, 1) := by decide +kernel
theorem dL_isSo_127 : decode cL_isSo 127 = .ok (.ifCond .ne 39, 3) := by decide +kernel
theorem dL_isSo_130 : decode cL_isSo 130 = .ok (.aload_n 0, 1) := by decide +kernel
theorem dL_isSo_131 : decode cL_isSo 131 = .ok (.iconst (-1), 1) := by decide +kernel
theorem dL_isSo_132 : decode cL_isSo 132 = .ok (.iload 14, 2) := by decide +kernel
theorem dL_isSo_134 : decode cL_isSo 134 = .ok (.invokevirtual 54, 3) := by decide +kernel
theorem dL_isSo_137 : decode cL_isSo 137 = .ok (.aload_n 2, 1) := by decide +kernel
theorem dL_isSo_138 : decode cL_isSo 138 = .ok (.bipush 6, 2) := by decide +kernel
theorem dL_isSo_140 : decode cL_isSo 140 = .ok (.iload 14, 2) := by decide +kernel
theorem dL_isSo_142 : decode cL_isSo 142 = .ok (.iadd, 1) := by decide +kernel
theorem dL_isSo_143 : decode cL_isSo 143 = .ok (.laload, 1) := by decide +kernel
theorem dL_isSo_144 : decode cL_isSo 144 = .ok (.lcmp, 1) := by decide +kernel
theorem dL_isSo_145 : decode cL_isSo 145 = .ok (.ifCond .ne 21, 3) := by decide +kernel
theorem dL_isSo_148 : decode cL_isSo 148 = .ok (.lload 15, 2) := by decide +kernel
theorem dL_isSo_150 : decode cL_isSo 150 = .ok (.ldc2_w 81, 3) := by decide +kernel
theorem dL_isSo_153 : decode cL_isSo 153 = .ok (.aload_n 2, 1) := by decide +kernel
theorem dL_isSo_154 : decode cL_isSo 154 = .ok (.iload 14, 2) := by decide +kernel
theorem dL_isSo_156 : decode cL_isSo 156 = .ok (.laload, 1) := by decide +kernel
theorem dL_isSo_157 : decode cL_isSo 157 = .ok (.lmul, 1) := by decide +kernel
theorem dL_isSo_158 : decode cL_isSo 158 = .ok (.lcmp, 1) := by decide +kernel
theorem dL_isSo_159 : decode cL_isSo 159 = .ok (.ifCond .ne 7, 3) := by decide +kernel
theorem dL_isSo_162 : decode cL_isSo 162 = .ok (.iconst 1, 1) := by decide +kernel
theorem dL_isSo_163 : decode cL_isSo 163 = .ok (.goto 4, 3) := by decide +kernel
theorem dL_isSo_166 : decode cL_isSo 166 = .ok (.iconst 0, 1) := by decide +kernel
theorem dL_isSo_167 : decode cL_isSo 167 = .ok (.istore 13, 2) := by decide +kernel
theorem dL_isSo_169 : decode cL_isSo 169 = .ok (.iinc 14 1, 3) := by decide +kernel
theorem dL_isSo_172 : decode cL_isSo 172 = .ok (.goto (-149), 3) := by decide +kernel
theorem dL_isSo_175 : decode cL_isSo 175 = .ok (.iconst 0, 1) := by decide +kernel
theorem dL_isSo_176 : decode cL_isSo 176 = .ok (.istore 14, 2) := by decide +kernel
theorem dL_isSo_178 : decode cL_isSo 178 = .ok (.iload 14, 2) := by decide +kernel
theorem dL_isSo_180 : decode cL_isSo 180 = .ok (.aload 7, 2) := by decide +kernel
theorem dL_isSo_182 : decode cL_isSo 182 = .ok (.iconst 1, 1) := by decide +kernel
theorem dL_isSo_183 : decode cL_isSo 183 = .ok (.iaload, 1) := by decide +kernel
theorem dL_isSo_184 : decode cL_isSo 184 = .ok (.if_icmp .ge 56, 3) := by decide +kernel
theorem dL_isSo_187 : decode cL_isSo 187 = .ok (.iload 13, 2) := by decide +kernel
theorem dL_isSo_189 : decode cL_isSo 189 = .ok (.ifCond .eq 51, 3) := by decide +kernel
theorem dL_isSo_192 : decode cL_isSo 192 = .ok (.aload_n 0, 1) := by decide +kernel
theorem dL_isSo_193 : decode cL_isSo 193 = .ok (.iload 14, 2) := by decide +kernel
theorem dL_isSo_195 : decode cL_isSo 195 = .ok (.invokevirtual 106, 3) := by decide +kernel
theorem dL_isSo_198 : decode cL_isSo 198 = .ok (.aload_n 2, 1) := by decide +kernel
theorem dL_isSo_199 : decode cL_isSo 199 = .ok (.bipush 12, 2) := by decide +kernel
theorem dL_isSo_201 : decode cL_isSo 201 = .ok (.iload 14, 2) := by decide +kernel
theorem dL_isSo_203 : decode cL_isSo 203 = .ok (.iadd, 1) := by decide +kernel
theorem dL_isSo_204 : decode cL_isSo 204 = .ok (.laload, 1) := by decide +kernel
theorem dL_isSo_205 : decode cL_isSo 205 = .ok (.lcmp, 1) := by decide +kernel
theorem dL_isSo_206 : decode cL_isSo 206 = .ok (.ifCond .ne 25, 3) := by decide +kernel
theorem dL_isSo_209 : decode cL_isSo 209 = .ok (.aload_n 0, 1) := by decide +kernel
theorem dL_isSo_210 : decode cL_isSo 210 = .ok (.iload 14, 2) := by decide +kernel
theorem dL_isSo_212 : decode cL_isSo 212 = .ok (.invokevirtual 112, 3) := by decide +kernel
theorem dL_isSo_215 : decode cL_isSo 215 = .ok (.aload_n 1, 1) := by decide +kernel
theorem dL_isSo_216 : decode cL_isSo 216 = .ok (.aload_n 2, 1) := by decide +kernel
theorem dL_isSo_217 : decode cL_isSo 217 = .ok (.aload_n 3, 1) := by decide +kernel
theorem dL_isSo_218 : decode cL_isSo 218 = .ok (.iload 14, 2) := by decide +kernel
theorem dL_isSo_220 : decode cL_isSo 220 = .ok (.invokestatic 98, 3) := by decide +kernel
theorem dL_isSo_223 : decode cL_isSo 223 = .ok (.lcmp, 1) := by decide +kernel
theorem dL_isSo_224 : decode cL_isSo 224 = .ok (.ifCond .ne 7, 3) := by decide +kernel
theorem dL_isSo_227 : decode cL_isSo 227 = .ok (.iconst 1, 1) := by decide +kernel
theorem dL_isSo_228 : decode cL_isSo 228 = .ok (.goto 4, 3) := by decide +kernel
theorem dL_isSo_231 : decode cL_isSo 231 = .ok (.iconst 0, 1) := by decide +kernel
theorem dL_isSo_232 : decode cL_isSo 232 = .ok (.istore 13, 2) := by decide +kernel
theorem dL_isSo_234 : decode cL_isSo 234 = .ok (.iinc 14 1, 3) := by decide +kernel
theorem dL_isSo_237 : decode cL_isSo 237 = .ok (.goto (-59), 3) := by decide +kernel
theorem dL_isSo_240 : decode cL_isSo 240 = .ok (.iload 12, 2) := by decide +kernel
theorem dL_isSo_242 : decode cL_isSo 242 = .ok (.iconst 4, 1) := by decide +kernel
theorem dL_isSo_243 : decode cL_isSo 243 = .ok (.irem, 1) := by decide +kernel
theorem dL_isSo_244 : decode cL_isSo 244 = .ok (.istore 14, 2) := by decide +kernel
theorem dL_isSo_246 : decode cL_isSo 246 = .ok (.iload 14, 2) := by decide +kernel
theorem dL_isSo_248 : decode cL_isSo 248 = .ok (.aload 7, 2) := by decide +kernel
theorem dL_isSo_250 : decode cL_isSo 250 = .ok (.iconst 2, 1) := by decide +kernel
theorem dL_isSo_251 : decode cL_isSo 251 = .ok (.iaload, 1) := by decide +kernel
theorem dL_isSo_252 : decode cL_isSo 252 = .ok (.if_icmp .ge 164, 3) := by decide +kernel
theorem dL_isSo_255 : decode cL_isSo 255 = .ok (.iload 13, 2) := by decide +kernel
theorem dL_isSo_257 : decode cL_isSo 257 = .ok (.ifCond .eq 159, 3) := by decide +kernel
theorem dL_isSo_260 : decode cL_isSo 260 = .ok (.aload_n 0, 1) := by decide +kernel
theorem dL_isSo_261 : decode cL_isSo 261 = .ok (.iload 14, 2) := by decide +kernel
theorem dL_isSo_263 : decode cL_isSo 263 = .ok (.iconst 0, 1) := by decide +kernel
theorem dL_isSo_264 : decode cL_isSo 264 = .ok (.invokevirtual 43, 3) := by decide +kernel
theorem dL_isSo_267 : decode cL_isSo 267 = .ok (.aload 4, 2) := by decide +kernel
theorem dL_isSo_269 : decode cL_isSo 269 = .ok (.iload 14, 2) := by decide +kernel
theorem dL_isSo_271 : decode cL_isSo 271 = .ok (.iaload, 1) := by decide +kernel
theorem dL_isSo_272 : decode cL_isSo 272 = .ok (.iconst 4, 1) := by decide +kernel
theorem dL_isSo_273 : decode cL_isSo 273 = .ok (.irem, 1) := by decide +kernel
theorem dL_isSo_274 : decode cL_isSo 274 = .ok (.i2l, 1) := by decide +kernel
theorem dL_isSo_275 : decode cL_isSo 275 = .ok (.lcmp, 1) := by decide +kernel
theorem dL_isSo_276 : decode cL_isSo 276 = .ok (.ifCond .ne 131, 3) := by decide +kernel
theorem dL_isSo_279 : decode cL_isSo 279 = .ok (.aload_n 0, 1) := by decide +kernel
theorem dL_isSo_280 : decode cL_isSo 280 = .ok (.iload 14, 2) := by decide +kernel
theorem dL_isSo_282 : decode cL_isSo 282 = .ok (.iconst 1, 1) := by decide +kernel
theorem dL_isSo_283 : decode cL_isSo 283 = .ok (.invokevirtual 43, 3) := by decide +kernel
theorem dL_isSo_286 : decode cL_isSo 286 = .ok (.aload 4, 2) := by decide +kernel
theorem dL_isSo_288 : decode cL_isSo 288 = .ok (.iload 14, 2) := by decide +kernel
theorem dL_isSo_290 : decode cL_isSo 290 = .ok (.iaload, 1) := by decide +kernel
theorem dL_isSo_291 : decode cL_isSo 291 = .ok (.iconst 4, 1) := by decide +kernel
theorem dL_isSo_292 : decode cL_isSo 292 = .ok (.idiv, 1) := by decide +kernel
theorem dL_isSo_293 : decode cL_isSo 293 = .ok (.bipush 8, 2) := by decide +kernel
theorem dL_isSo_295 : decode cL_isSo 295 = .ok (.irem, 1) := by decide +kernel
theorem dL_isSo_296 : decode cL_isSo 296 = .ok (.i2l, 1) := by decide +kernel
theorem dL_isSo_297 : decode cL_isSo 297 = .ok (.lcmp, 1) := by decide +kernel
theorem dL_isSo_298 : decode cL_isSo 298 = .ok (.ifCond .ne 109, 3) := by decide +kernel
theorem dL_isSo_301 : decode cL_isSo 301 = .ok (.aload_n 0, 1) := by decide +kernel
theorem dL_isSo_302 : decode cL_isSo 302 = .ok (.iload 14, 2) := by decide +kernel
theorem dL_isSo_304 : decode cL_isSo 304 = .ok (.iconst 2, 1) := by decide +kernel
theorem dL_isSo_305 : decode cL_isSo 305 = .ok (.invokevirtual 43, 3) := by decide +kernel
theorem dL_isSo_308 : decode cL_isSo 308 = .ok (.aload 5, 2) := by decide +kernel
theorem dL_isSo_310 : decode cL_isSo 310 = .ok (.iload 14, 2) := by decide +kernel
theorem dL_isSo_312 : decode cL_isSo 312 = .ok (.laload, 1) := by decide +kernel
theorem dL_isSo_313 : decode cL_isSo 313 = .ok (.lcmp, 1) := by decide +kernel
theorem dL_isSo_314 : decode cL_isSo 314 = .ok (.ifCond .ne 93, 3) := by decide +kernel
theorem dL_isSo_317 : decode cL_isSo 317 = .ok (.aload_n 0, 1) := by decide +kernel
theorem dL_isSo_318 : decode cL_isSo 318 = .ok (.iload 14, 2) := by decide +kernel
theorem dL_isSo_320 : decode cL_isSo 320 = .ok (.iconst 3, 1) := by decide +kernel
theorem dL_isSo_321 : decode cL_isSo 321 = .ok (.invokevirtual 43, 3) := by decide +kernel
theorem dL_isSo_324 : decode cL_isSo 324 = .ok (.aload 6, 2) := by decide +kernel
theorem dL_isSo_326 : decode cL_isSo 326 = .ok (.iload 14, 2) := by decide +kernel
theorem dL_isSo_328 : decode cL_isSo 328 = .ok (.laload, 1) := by decide +kernel
theorem dL_isSo_329 : decode cL_isSo 329 = .ok (.lcmp, 1) := by decide +kernel
theorem dL_isSo_330 : decode cL_isSo 330 = .ok (.ifCond .ne 77, 3) := by decide +kernel
theorem dL_isSo_333 : decode cL_isSo 333 = .ok (.aload_n 0, 1) := by decide +kernel
theorem dL_isSo_334 : decode cL_isSo 334 = .ok (.iload 14, 2) := by decide +kernel
theorem dL_isSo_336 : decode cL_isSo 336 = .ok (.iconst 4, 1) := by decide +kernel
theorem dL_isSo_337 : decode cL_isSo 337 = .ok (.invokevirtual 43, 3) := by decide +kernel
theorem dL_isSo_340 : decode cL_isSo 340 = .ok (.aload 6, 2) := by decide +kernel
theorem dL_isSo_342 : decode cL_isSo 342 = .ok (.iload 14, 2) := by decide +kernel
theorem dL_isSo_344 : decode cL_isSo 344 = .ok (.laload, 1) := by decide +kernel
theorem dL_isSo_345 : decode cL_isSo 345 = .ok (.invokestatic 83, 3) := by decide +kernel
theorem dL_isSo_348 : decode cL_isSo 348 = .ok (.lcmp, 1) := by decide +kernel
theorem dL_isSo_349 : decode cL_isSo 349 = .ok (.ifCond .ne 58, 3) := by decide +kernel
theorem dL_isSo_352 : decode cL_isSo 352 = .ok (.aload_n 0, 1) := by decide +kernel
theorem dL_isSo_353 : decode cL_isSo 353 = .ok (.iload 14, 2) := by decide +kernel
theorem dL_isSo_355 : decode cL_isSo 355 = .ok (.iconst 5, 1) := by decide +kernel
theorem dL_isSo_356 : decode cL_isSo 356 = .ok (.invokevirtual 43, 3) := by decide +kernel
theorem dL_isSo_359 : decode cL_isSo 359 = .ok (.aload 4, 2) := by decide +kernel
theorem dL_isSo_361 : decode cL_isSo 361 = .ok (.iload 14, 2) := by decide +kernel
theorem dL_isSo_363 : decode cL_isSo 363 = .ok (.iaload, 1) := by decide +kernel
theorem dL_isSo_364 : decode cL_isSo 364 = .ok (.ldc 93, 2) := by decide +kernel
theorem dL_isSo_366 : decode cL_isSo 366 = .ok (.irem, 1) := by decide +kernel
theorem dL_isSo_367 : decode cL_isSo 367 = .ok (.bipush 32, 2) := by decide +kernel
theorem dL_isSo_369 : decode cL_isSo 369 = .ok (.idiv, 1) := by decide +kernel
theorem dL_isSo_370 : decode cL_isSo 370 = .ok (.i2l, 1) := by decide +kernel
theorem dL_isSo_371 : decode cL_isSo 371 = .ok (.lcmp, 1) := by decide +kernel
theorem dL_isSo_372 : decode cL_isSo 372 = .ok (.ifCond .ne 35, 3) := by decide +kernel
theorem dL_isSo_375 : decode cL_isSo 375 = .ok (.aload_n 0, 1) := by decide +kernel
theorem dL_isSo_376 : decode cL_isSo 376 = .ok (.iload 14, 2) := by decide +kernel
theorem dL_isSo_378 : decode cL_isSo 378 = .ok (.bipush 6, 2) := by decide +kernel
theorem dL_isSo_380 : decode cL_isSo 380 = .ok (.invokevirtual 43, 3) := by decide +kernel
theorem dL_isSo_383 : decode cL_isSo 383 = .ok (.aload 4, 2) := by decide +kernel
theorem dL_isSo_385 : decode cL_isSo 385 = .ok (.iload 14, 2) := by decide +kernel
theorem dL_isSo_387 : decode cL_isSo 387 = .ok (.iaload, 1) := by decide +kernel
theorem dL_isSo_388 : decode cL_isSo 388 = .ok (.ldc 93, 2) := by decide +kernel
theorem dL_isSo_390 : decode cL_isSo 390 = .ok (.if_icmp .ge 7, 3) := by decide +kernel
theorem dL_isSo_393 : decode cL_isSo 393 = .ok (.iconst 1, 1) := by decide +kernel
theorem dL_isSo_394 : decode cL_isSo 394 = .ok (.goto 4, 3) := by decide +kernel
theorem dL_isSo_397 : decode cL_isSo 397 = .ok (.iconst 0, 1) := by decide +kernel
theorem dL_isSo_398 : decode cL_isSo 398 = .ok (.i2l, 1) := by decide +kernel
theorem dL_isSo_399 : decode cL_isSo 399 = .ok (.lcmp, 1) := by decide +kernel
theorem dL_isSo_400 : decode cL_isSo 400 = .ok (.ifCond .ne 7, 3) := by decide +kernel
theorem dL_isSo_403 : decode cL_isSo 403 = .ok (.iconst 1, 1) := by decide +kernel
theorem dL_isSo_404 : decode cL_isSo 404 = .ok (.goto 4, 3) := by decide +kernel
theorem dL_isSo_407 : decode cL_isSo 407 = .ok (.iconst 0, 1) := by decide +kernel
theorem dL_isSo_408 : decode cL_isSo 408 = .ok (.istore 13, 2) := by decide +kernel
theorem dL_isSo_410 : decode cL_isSo 410 = .ok (.iinc 14 4, 3) := by decide +kernel
theorem dL_isSo_413 : decode cL_isSo 413 = .ok (.goto (-167), 3) := by decide +kernel
theorem dL_isSo_416 : decode cL_isSo 416 = .ok (.aload 7, 2) := by decide +kernel
theorem dL_isSo_418 : decode cL_isSo 418 = .ok (.iconst 1, 1) := by decide +kernel
theorem dL_isSo_419 : decode cL_isSo 419 = .ok (.iaload, 1) := by decide +kernel
theorem dL_isSo_420 : decode cL_isSo 420 = .ok (.ifCond .ne 7, 3) := by decide +kernel
theorem dL_isSo_423 : decode cL_isSo 423 = .ok (.iconst 0, 1) := by decide +kernel
theorem dL_isSo_424 : decode cL_isSo 424 = .ok (.goto 10, 3) := by decide +kernel
theorem dL_isSo_427 : decode cL_isSo 427 = .ok (.iload 11, 2) := by decide +kernel
theorem dL_isSo_429 : decode cL_isSo 429 = .ok (.aload 7, 2) := by decide +kernel
theorem dL_isSo_431 : decode cL_isSo 431 = .ok (.iconst 1, 1) := by decide +kernel
theorem dL_isSo_432 : decode cL_isSo 432 = .ok (.iaload, 1) := by decide +kernel
theorem dL_isSo_433 : decode cL_isSo 433 = .ok (.irem, 1) := by decide +kernel
theorem dL_isSo_434 : decode cL_isSo 434 = .ok (.istore 14, 2) := by decide +kernel
theorem dL_isSo_436 : decode cL_isSo 436 = .ok (.aload 4, 2) := by decide +kernel
theorem dL_isSo_438 : decode cL_isSo 438 = .ok (.aload 5, 2) := by decide +kernel
theorem dL_isSo_440 : decode cL_isSo 440 = .ok (.aload 6, 2) := by decide +kernel
theorem dL_isSo_442 : decode cL_isSo 442 = .ok (.aload 7, 2) := by decide +kernel
theorem dL_isSo_444 : decode cL_isSo 444 = .ok (.aload 8, 2) := by decide +kernel
theorem dL_isSo_446 : decode cL_isSo 446 = .ok (.aload 9, 2) := by decide +kernel
theorem dL_isSo_448 : decode cL_isSo 448 = .ok (.iload 14, 2) := by decide +kernel
theorem dL_isSo_450 : decode cL_isSo 450 = .ok (.invokestatic 114, 3) := by decide +kernel
theorem dL_isSo_453 : decode cL_isSo 453 = .ok (.iload 13, 2) := by decide +kernel
theorem dL_isSo_455 : decode cL_isSo 455 = .ok (.ifCond .eq 17, 3) := by decide +kernel
theorem dL_isSo_458 : decode cL_isSo 458 = .ok (.aload 9, 2) := by decide +kernel
theorem dL_isSo_460 : decode cL_isSo 460 = .ok (.bipush 63, 2) := by decide +kernel
theorem dL_isSo_462 : decode cL_isSo 462 = .ok (.laload, 1) := by decide +kernel
theorem dL_isSo_463 : decode cL_isSo 463 = .ok (.lconst 0, 1) := by decide +kernel
theorem dL_isSo_464 : decode cL_isSo 464 = .ok (.lcmp, 1) := by decide +kernel
theorem dL_isSo_465 : decode cL_isSo 465 = .ok (.ifCond .ne 7, 3) := by decide +kernel
theorem dL_isSo_468 : decode cL_isSo 468 = .ok (.iconst 1, 1) := by decide +kernel
theorem dL_isSo_469 : decode cL_isSo 469 = .ok (.goto 4, 3) := by decide +kernel
theorem dL_isSo_472 : decode cL_isSo 472 = .ok (.iconst 0, 1) := by decide +kernel
theorem dL_isSo_473 : decode cL_isSo 473 = .ok (.istore 13, 2) := by decide +kernel
theorem dL_isSo_475 : decode cL_isSo 475 = .ok (.iload 12, 2) := by decide +kernel
theorem dL_isSo_477 : decode cL_isSo 477 = .ok (.iconst 2, 1) := by decide +kernel
theorem dL_isSo_478 : decode cL_isSo 478 = .ok (.irem, 1) := by decide +kernel
theorem dL_isSo_479 : decode cL_isSo 479 = .ok (.istore 15, 2) := by decide +kernel
theorem dL_isSo_481 : decode cL_isSo 481 = .ok (.iload 15, 2) := by decide +kernel
theorem dL_isSo_483 : decode cL_isSo 483 = .ok (.bipush 21, 2) := by decide +kernel
theorem dL_isSo_485 : decode cL_isSo 485 = .ok (.if_icmp .ge 116, 3) := by decide +kernel
theorem dL_isSo_488 : decode cL_isSo 488 = .ok (.iload 13, 2) := by decide +kernel
theorem dL_isSo_490 : decode cL_isSo 490 = .ok (.ifCond .eq 111, 3) := by decide +kernel
theorem dL_isSo_493 : decode cL_isSo 493 = .ok (.aload 7, 2) := by decide +kernel
theorem dL_isSo_495 : decode cL_isSo 495 = .ok (.iconst 1, 1) := by decide +kernel
theorem dL_isSo_496 : decode cL_isSo 496 = .ok (.iaload, 1) := by decide +kernel
theorem dL_isSo_497 : decode cL_isSo 497 = .ok (.ifCond .le 104, 3) := by decide +kernel
theorem dL_isSo_500 : decode cL_isSo 500 = .ok (.aload_n 0, 1) := by decide +kernel
theorem dL_isSo_501 : decode cL_isSo 501 = .ok (.iload 14, 2) := by decide +kernel
theorem dL_isSo_503 : decode cL_isSo 503 = .ok (.iload 15, 2) := by decide +kernel
theorem dL_isSo_505 : decode cL_isSo 505 = .ok (.iconst 0, 1) := by decide +kernel
theorem dL_isSo_506 : decode cL_isSo 506 = .ok (.invokevirtual 46, 3) := by decide +kernel
theorem dL_isSo_509 : decode cL_isSo 509 = .ok (.aload 9, 2) := by decide +kernel
theorem dL_isSo_511 : decode cL_isSo 511 = .ok (.iload 15, 2) := by decide +kernel
theorem dL_isSo_513 : decode cL_isSo 513 = .ok (.laload, 1) := by decide +kernel
theorem dL_isSo_514 : decode cL_isSo 514 = .ok (.lcmp, 1) := by decide +kernel
theorem dL_isSo_515 : decode cL_isSo 515 = .ok (.ifCond .ne 77, 3) := by decide +kernel
theorem dL_isSo_518 : decode cL_isSo 518 = .ok (.aload_n 0, 1) := by decide +kernel
theorem dL_isSo_519 : decode cL_isSo 519 = .ok (.iload 14, 2) := by decide +kernel
theorem dL_isSo_521 : decode cL_isSo 521 = .ok (.iload 15, 2) := by decide +kernel
theorem dL_isSo_523 : decode cL_isSo 523 = .ok (.iconst 1, 1) := by decide +kernel
theorem dL_isSo_524 : decode cL_isSo 524 = .ok (.invokevirtual 46, 3) := by decide +kernel
theorem dL_isSo_527 : decode cL_isSo 527 = .ok (.aload 9, 2) := by decide +kernel
theorem dL_isSo_529 : decode cL_isSo 529 = .ok (.bipush 22, 2) := by decide +kernel
theorem dL_isSo_531 : decode cL_isSo 531 = .ok (.iload 15, 2) := by decide +kernel
theorem dL_isSo_533 : decode cL_isSo 533 = .ok (.iadd, 1) := by decide +kernel
theorem dL_isSo_534 : decode cL_isSo 534 = .ok (.laload, 1) := by decide +kernel
theorem dL_isSo_535 : decode cL_isSo 535 = .ok (.lcmp, 1) := by decide +kernel
theorem dL_isSo_536 : decode cL_isSo 536 = .ok (.ifCond .ne 56, 3) := by decide +kernel
theorem dL_isSo_539 : decode cL_isSo 539 = .ok (.aload_n 0, 1) := by decide +kernel
theorem dL_isSo_540 : decode cL_isSo 540 = .ok (.iload 14, 2) := by decide +kernel
theorem dL_isSo_542 : decode cL_isSo 542 = .ok (.iload 15, 2) := by decide +kernel
theorem dL_isSo_544 : decode cL_isSo 544 = .ok (.iconst 2, 1) := by decide +kernel
theorem dL_isSo_545 : decode cL_isSo 545 = .ok (.invokevirtual 46, 3) := by decide +kernel
theorem dL_isSo_548 : decode cL_isSo 548 = .ok (.aload 9, 2) := by decide +kernel
theorem dL_isSo_550 : decode cL_isSo 550 = .ok (.bipush 22, 2) := by decide +kernel
theorem dL_isSo_552 : decode cL_isSo 552 = .ok (.iload 15, 2) := by decide +kernel
theorem dL_isSo_554 : decode cL_isSo 554 = .ok (.iadd, 1) := by decide +kernel
theorem dL_isSo_555 : decode cL_isSo 555 = .ok (.laload, 1) := by decide +kernel
theorem dL_isSo_556 : decode cL_isSo 556 = .ok (.ldc2_w 118, 3) := by decide +kernel
theorem dL_isSo_559 : decode cL_isSo 559 = .ok (.ldiv, 1) := by decide +kernel
theorem dL_isSo_560 : decode cL_isSo 560 = .ok (.lcmp, 1) := by decide +kernel
theorem dL_isSo_561 : decode cL_isSo 561 = .ok (.ifCond .ne 31, 3) := by decide +kernel
theorem dL_isSo_564 : decode cL_isSo 564 = .ok (.aload_n 0, 1) := by decide +kernel
theorem dL_isSo_565 : decode cL_isSo 565 = .ok (.iload 14, 2) := by decide +kernel
theorem dL_isSo_567 : decode cL_isSo 567 = .ok (.iload 15, 2) := by decide +kernel
theorem dL_isSo_569 : decode cL_isSo 569 = .ok (.iconst 3, 1) := by decide +kernel
theorem dL_isSo_570 : decode cL_isSo 570 = .ok (.invokevirtual 46, 3) := by decide +kernel
theorem dL_isSo_573 : decode cL_isSo 573 = .ok (.aload 10, 2) := by decide +kernel
theorem dL_isSo_575 : decode cL_isSo 575 = .ok (.bipush 21, 2) := by decide +kernel
theorem dL_isSo_577 : decode cL_isSo 577 = .ok (.iload 14, 2) := by decide +kernel
theorem dL_isSo_579 : decode cL_isSo 579 = .ok (.imul, 1) := by decide +kernel
theorem dL_isSo_580 : decode cL_isSo 580 = .ok (.iload 15, 2) := by decide +kernel
theorem dL_isSo_582 : decode cL_isSo 582 = .ok (.iadd, 1) := by decide +kernel
theorem dL_isSo_583 : decode cL_isSo 583 = .ok (.laload, 1) := by decide +kernel
theorem dL_isSo_584 : decode cL_isSo 584 = .ok (.lcmp, 1) := by decide +kernel
theorem dL_isSo_585 : decode cL_isSo 585 = .ok (.ifCond .ne 7, 3) := by decide +kernel
theorem dL_isSo_588 : decode cL_isSo 588 = .ok (.iconst 1, 1) := by decide +kernel
theorem dL_isSo_589 : decode cL_isSo 589 = .ok (.goto 4, 3) := by decide +kernel
theorem dL_isSo_592 : decode cL_isSo 592 = .ok (.iconst 0, 1) := by decide +kernel
theorem dL_isSo_593 : decode cL_isSo 593 = .ok (.istore 13, 2) := by decide +kernel
theorem dL_isSo_595 : decode cL_isSo 595 = .ok (.iinc 15 2, 3) := by decide +kernel
theorem dL_isSo_598 : decode cL_isSo 598 = .ok (.goto (-117), 3) := by decide +kernel
theorem dL_isSo_601 : decode cL_isSo 601 = .ok (.iload 12, 2) := by decide +kernel
theorem dL_isSo_603 : decode cL_isSo 603 = .ok (.bipush 6, 2) := by decide +kernel
theorem dL_isSo_605 : decode cL_isSo 605 = .ok (.irem, 1) := by decide +kernel
theorem dL_isSo_606 : decode cL_isSo 606 = .ok (.istore 15, 2) := by decide +kernel
theorem dL_isSo_608 : decode cL_isSo 608 = .ok (.iconst 0, 1) := by decide +kernel
theorem dL_isSo_609 : decode cL_isSo 609 = .ok (.istore 16, 2) := by decide +kernel
theorem dL_isSo_611 : decode cL_isSo 611 = .ok (.aload 4, 2) := by decide +kernel
theorem dL_isSo_613 : decode cL_isSo 613 = .ok (.aload 5, 2) := by decide +kernel
theorem dL_isSo_615 : decode cL_isSo 615 = .ok (.aload 6, 2) := by decide +kernel
theorem dL_isSo_617 : decode cL_isSo 617 = .ok (.aload 7, 2) := by decide +kernel
theorem dL_isSo_619 : decode cL_isSo 619 = .ok (.aload 8, 2) := by decide +kernel
theorem dL_isSo_621 : decode cL_isSo 621 = .ok (.aload 9, 2) := by decide +kernel
theorem dL_isSo_623 : decode cL_isSo 623 = .ok (.iload 14, 2) := by decide +kernel
theorem dL_isSo_625 : decode cL_isSo 625 = .ok (.iload 15, 2) := by decide +kernel
theorem dL_isSo_627 : decode cL_isSo 627 = .ok (.invokestatic 94, 3) := by decide +kernel
theorem dL_isSo_630 : decode cL_isSo 630 = .ok (.istore 17, 2) := by decide +kernel
theorem dL_isSo_632 : decode cL_isSo 632 = .ok (.iconst 0, 1) := by decide +kernel
theorem dL_isSo_633 : decode cL_isSo 633 = .ok (.istore 18, 2) := by decide +kernel
theorem dL_isSo_635 : decode cL_isSo 635 = .ok (.iload 18, 2) := by decide +kernel
theorem dL_isSo_637 : decode cL_isSo 637 = .ok (.aload 7, 2) := by decide +kernel
theorem dL_isSo_639 : decode cL_isSo 639 = .ok (.iconst 2, 1) := by decide +kernel
theorem dL_isSo_640 : decode cL_isSo 640 = .ok (.iaload, 1) := by decide +kernel
theorem dL_isSo_641 : decode cL_isSo 641 = .ok (.if_icmp .ge 102, 3) := by decide +kernel
theorem dL_isSo_644 : decode cL_isSo 644 = .ok (.iload 13, 2) := by decide +kernel
theorem dL_isSo_646 : decode cL_isSo 646 = .ok (.ifCond .eq 97, 3) := by decide +kernel
theorem dL_isSo_649 : decode cL_isSo 649 = .ok (.aload 7, 2) := by decide +kernel
theorem dL_isSo_651 : decode cL_isSo 651 = .ok (.iconst 1, 1) := by decide +kernel
theorem dL_isSo_652 : decode cL_isSo 652 = .ok (.iaload, 1) := by decide +kernel
theorem dL_isSo_653 : decode cL_isSo 653 = .ok (.ifCond .le 90, 3) := by decide +kernel
theorem dL_isSo_656 : decode cL_isSo 656 = .ok (.aload 8, 2) := by decide +kernel
theorem dL_isSo_658 : decode cL_isSo 658 = .ok (.iload 18, 2) := by decide +kernel
theorem dL_isSo_660 : decode cL_isSo 660 = .ok (.laload, 1) := by decide +kernel
theorem dL_isSo_661 : decode cL_isSo 661 = .ok (.lconst 0, 1) := by decide +kernel
theorem dL_isSo_662 : decode cL_isSo 662 = .ok (.lcmp, 1) := by decide +kernel
theorem dL_isSo_663 : decode cL_isSo 663 = .ok (.ifCond .le 74, 3) := by decide +kernel
theorem dL_isSo_666 : decode cL_isSo 666 = .ok (.aload_n 0, 1) := by decide +kernel
theorem dL_isSo_667 : decode cL_isSo 667 = .ok (.iload 14, 2) := by decide +kernel
theorem dL_isSo_669 : decode cL_isSo 669 = .ok (.iload 15, 2) := by decide +kernel
theorem dL_isSo_671 : decode cL_isSo 671 = .ok (.iload 16, 2) := by decide +kernel
theorem dL_isSo_673 : decode cL_isSo 673 = .ok (.iconst 0, 1) := by decide +kernel
theorem dL_isSo_674 : decode cL_isSo 674 = .ok (.invokevirtual 50, 3) := by decide +kernel
theorem dL_isSo_677 : decode cL_isSo 677 = .ok (.iload 18, 2) := by decide +kernel
theorem dL_isSo_679 : decode cL_isSo 679 = .ok (.i2l, 1) := by decide +kernel
theorem dL_isSo_680 : decode cL_isSo 680 = .ok (.lcmp, 1) := by decide +kernel
theorem dL_isSo_681 : decode cL_isSo 681 = .ok (.ifCond .ne 50, 3) := by decide +kernel
theorem dL_isSo_684 : decode cL_isSo 684 = .ok (.aload_n 0, 1) := by decide +kernel
theorem dL_isSo_685 : decode cL_isSo 685 = .ok (.iload 14, 2) := by decide +kernel
theorem dL_isSo_687 : decode cL_isSo 687 = .ok (.iload 15, 2) := by decide +kernel
theorem dL_isSo_689 : decode cL_isSo 689 = .ok (.iload 16, 2) := by decide +kernel
theorem dL_isSo_691 : decode cL_isSo 691 = .ok (.iconst 1, 1) := by decide +kernel
theorem dL_isSo_692 : decode cL_isSo 692 = .ok (.invokevirtual 50, 3) := by decide +kernel
theorem dL_isSo_695 : decode cL_isSo 695 = .ok (.aload 8, 2) := by decide +kernel
theorem dL_isSo_697 : decode cL_isSo 697 = .ok (.iload 18, 2) := by decide +kernel
theorem dL_isSo_699 : decode cL_isSo 699 = .ok (.laload, 1) := by decide +kernel
theorem dL_isSo_700 : decode cL_isSo 700 = .ok (.lcmp, 1) := by decide +kernel
theorem dL_isSo_701 : decode cL_isSo 701 = .ok (.ifCond .ne 30, 3) := by decide +kernel
theorem dL_isSo_704 : decode cL_isSo 704 = .ok (.aload_n 0, 1) := by decide +kernel
theorem dL_isSo_705 : decode cL_isSo 705 = .ok (.iload 14, 2) := by decide +kernel
theorem dL_isSo_707 : decode cL_isSo 707 = .ok (.iload 15, 2) := by decide +kernel
theorem dL_isSo_709 : decode cL_isSo 709 = .ok (.iload 16, 2) := by decide +kernel
theorem dL_isSo_711 : decode cL_isSo 711 = .ok (.iconst 2, 1) := by decide +kernel
theorem dL_isSo_712 : decode cL_isSo 712 = .ok (.invokevirtual 50, 3) := by decide +kernel
theorem dL_isSo_715 : decode cL_isSo 715 = .ok (.aload 8, 2) := by decide +kernel
theorem dL_isSo_717 : decode cL_isSo 717 = .ok (.bipush 30, 2) := by decide +kernel
theorem dL_isSo_719 : decode cL_isSo 719 = .ok (.iload 18, 2) := by decide +kernel
theorem dL_isSo_721 : decode cL_isSo 721 = .ok (.iadd, 1) := by decide +kernel
theorem dL_isSo_722 : decode cL_isSo 722 = .ok (.laload, 1) := by decide +kernel
theorem dL_isSo_723 : decode cL_isSo 723 = .ok (.lcmp, 1) := by decide +kernel
theorem dL_isSo_724 : decode cL_isSo 724 = .ok (.ifCond .ne 7, 3) := by decide +kernel
theorem dL_isSo_727 : decode cL_isSo 727 = .ok (.iconst 1, 1) := by decide +kernel
theorem dL_isSo_728 : decode cL_isSo 728 = .ok (.goto 4, 3) := by decide +kernel
theorem dL_isSo_731 : decode cL_isSo 731 = .ok (.iconst 0, 1) := by decide +kernel
theorem dL_isSo_732 : decode cL_isSo 732 = .ok (.istore 13, 2) := by decide +kernel
theorem dL_isSo_734 : decode cL_isSo 734 = .ok (.iinc 16 1, 3) := by decide +kernel
theorem dL_isSo_737 : decode cL_isSo 737 = .ok (.iinc 18 1, 3) := by decide +kernel
theorem dL_isSo_740 : decode cL_isSo 740 = .ok (.goto (-105), 3) := by decide +kernel
theorem dL_isSo_743 : decode cL_isSo 743 = .ok (.iload 13, 2) := by decide +kernel
theorem dL_isSo_745 : decode cL_isSo 745 = .ok (.ifCond .eq 56, 3) := by decide +kernel
theorem dL_isSo_748 : decode cL_isSo 748 = .ok (.iload 17, 2) := by decide +kernel
theorem dL_isSo_750 : decode cL_isSo 750 = .ok (.ifCond .eq 51, 3) := by decide +kernel
theorem dL_isSo_753 : decode cL_isSo 753 = .ok (.aload 7, 2) := by decide +kernel
theorem dL_isSo_755 : decode cL_isSo 755 = .ok (.iconst 1, 1) := by decide +kernel
theorem dL_isSo_756 : decode cL_isSo 756 = .ok (.iaload, 1) := by decide +kernel
theorem dL_isSo_757 : decode cL_isSo 757 = .ok (.ifCond .eq 21, 3) := by decide +kernel
theorem dL_isSo_760 : decode cL_isSo 760 = .ok (.aload_n 0, 1) := by decide +kernel
theorem dL_isSo_761 : decode cL_isSo 761 = .ok (.iload 14, 2) := by decide +kernel
theorem dL_isSo_763 : decode cL_isSo 763 = .ok (.iload 15, 2) := by decide +kernel
theorem dL_isSo_765 : decode cL_isSo 765 = .ok (.iload 16, 2) := by decide +kernel
theorem dL_isSo_767 : decode cL_isSo 767 = .ok (.iconst 1, 1) := by decide +kernel
theorem dL_isSo_768 : decode cL_isSo 768 = .ok (.invokevirtual 50, 3) := by decide +kernel
theorem dL_isSo_771 : decode cL_isSo 771 = .ok (.ldc2_w 120, 3) := by decide +kernel
theorem dL_isSo_774 : decode cL_isSo 774 = .ok (.lcmp, 1) := by decide +kernel
theorem dL_isSo_775 : decode cL_isSo 775 = .ok (.ifCond .ne 26, 3) := by decide +kernel
theorem dL_isSo_778 : decode cL_isSo 778 = .ok (.aload_n 0, 1) := by decide +kernel
theorem dL_isSo_779 : decode cL_isSo 779 = .ok (.bipush 9, 2) := by decide +kernel
theorem dL_isSo_781 : decode cL_isSo 781 = .ok (.aload 7, 2) := by decide +kernel
theorem dL_isSo_783 : decode cL_isSo 783 = .ok (.iconst 2, 1) := by decide +kernel
theorem dL_isSo_784 : decode cL_isSo 784 = .ok (.iaload, 1) := by decide +kernel
theorem dL_isSo_785 : decode cL_isSo 785 = .ok (.iconst 0, 1) := by decide +kernel
theorem dL_isSo_786 : decode cL_isSo 786 = .ok (.iconst 0, 1) := by decide +kernel
theorem dL_isSo_787 : decode cL_isSo 787 = .ok (.invokestatic 122, 3) := by decide +kernel
theorem dL_isSo_790 : decode cL_isSo 790 = .ok (.ldc2_w 59, 3) := by decide +kernel
theorem dL_isSo_793 : decode cL_isSo 793 = .ok (.lcmp, 1) := by decide +kernel
theorem dL_isSo_794 : decode cL_isSo 794 = .ok (.ifCond .ne 7, 3) := by decide +kernel
theorem dL_isSo_797 : decode cL_isSo 797 = .ok (.iconst 1, 1) := by decide +kernel
theorem dL_isSo_798 : decode cL_isSo 798 = .ok (.goto 4, 3) := by decide +kernel
theorem dL_isSo_801 : decode cL_isSo 801 = .ok (.iconst 0, 1) := by decide +kernel
theorem dL_isSo_802 : decode cL_isSo 802 = .ok (.ireturn, 1) := by decide +kernel
end
section
theorem goodIn_1 {big : List Cond} {c : Cond} (i : Nat) (h : big[i]? = some c) (hg : goodWord c = true) : GoodIn big [c] := fun w hw => by
  cases List.mem_singleton.mp hw
  exact ⟨by first | exact List.mem_of_getElem? h | exact List.getElem?_mem h, good_of_word hg⟩
theorem goodIn_cons {big a : List Cond} {c : Cond} (h1 : GoodIn big [c]) (h2 : GoodIn big a) : GoodIn big (c :: a) := fun w hw => (List.mem_cons.mp hw).elim (fun e => h1 w (List.mem_singleton.mpr e)) (h2 w)
set_option maxRecDepth 20000 in
theorem ggL_law_X4_init : GoodIn wsL_law wsX4_init := goodIn_r _ [19, 20, 21, 22, 23, 24, 25, 26, 27, 28, 29, 30, 31, 32, 33, 34, 35, 36, 37, 38, 39, 40, 41, 42, 43, 44, 45, 46, 47, 48, 49, 50, 51, 52, 53, 54, 55, 56, 57, 58, 59, 60, 61, 62, 63, 64, 65, 66, 67, 68, 69, 70, 71, 72, 73, 74, 75, 76, 77, 78, 79, 80, 81, 82, 83, 84, 85, 86, 87, 88, 89, 90, 91, 92, 93, 94, 95, 96, 97, 98, 99, 100, 101, 102, 103, 104, 105, 440, 441, 442, 435, 436, 437, 438, 439, 443, 444, 445, 446] (by decide +kernel) (by decide +kernel)
set_option maxRecDepth 20000 in
theorem gL_law_X4_init : GoodIn wsL_law (wsX4_init) := ggL_law_X4_init
set_option maxRecDepth 20000 in
theorem ggL_law_L_does : GoodIn wsL_law wsL_does := goodIn_ca (goodIn_ca (goodIn_ca (goodIn_r _ [109, 110, 111, 112, 5, 6, 9, 113, 114, 115, 2, 116, 117, 118, 119, 120, 121, 122, 26, 123, 124, 125, 126, 25, 127, 59, 128, 129, 130, 131, 132, 133, 134, 135, 136, 137, 138, 139, 140, 141, 142, 143, 144, 145, 146, 147, 148, 36, 149, 150, 151, 152, 153, 154, 155, 156, 157, 27, 158, 159, 160, 161, 162, 163, 164, 165, 166, 167, 168, 169, 170, 171, 172, 173, 21, 22, 174, 175, 24, 176, 4, 177, 178, 179, 33, 34, 35, 37, 38, 39, 40, 41, 42, 43, 44, 45, 46, 180, 181, 182, 183, 184, 185, 53, 54, 55, 56, 57, 58, 60, 61, 62, 63, 64, 65, 66, 67, 68, 69, 70, 71, 72, 73, 74, 75, 76, 77, 78, 79, 80, 81, 82, 83, 84, 85, 86, 87, 88, 89, 90, 91, 92, 93, 94, 95, 96, 97, 98, 99, 100, 101, 102, 103, 104, 105, 186, 187, 188, 189, 190, 191, 192, 193, 194, 195, 196, 197, 198, 199, 200, 201, 202, 203, 204, 205, 206, 207, 208, 209, 210, 211, 212, 213, 214, 215, 28, 216, 217, 218, 219, 220, 221, 222, 223, 224, 225, 226, 227, 228, 229, 230, 231, 232, 233, 234, 235, 236, 237, 238, 239, 240, 241, 242, 243, 244, 245, 246, 247, 248, 249, 250, 251, 252, 253, 254, 255, 256, 257, 258, 259, 260, 261, 262, 263, 264, 265, 266, 267, 268, 269, 270, 271, 272, 273, 274, 275, 276, 277, 278, 279, 280, 281, 282, 283, 284, 285, 286, 287, 288, 289, 290, 291, 292, 293, 294, 295, 296, 297, 298, 299, 300, 301, 302, 303, 304, 305, 306, 307, 308, 309, 310, 311, 312, 313, 314, 315, 316, 317, 318, 319, 320, 321, 322, 323, 324, 325, 326, 327, 328, 329, 330, 331, 332, 333, 334, 335, 336, 337, 338, 339, 340, 341, 342, 343, 344, 345, 346, 347, 348, 349, 350, 351, 352, 353, 354, 355, 356, 357, 358, 359, 360, 361, 362, 363, 364, 365, 366, 367, 368, 369, 370, 371, 372, 373, 374, 375, 376, 377, 378, 379, 380, 381, 382, 383, 384, 385, 386, 387, 443, 444, 445, 446, 435, 436, 437, 438, 439, 440, 441, 442, 447, 448, 449, 450, 451, 452, 453, 454, 455, 456, 457, 458, 459, 460, 461, 462, 463, 464] (by decide +kernel) (by decide +kernel)) (goodIn_sub (fun _ h => List.mem_append_left _ (List.mem_append_left _ (List.mem_append_right _ h))) (by decide +kernel))) (goodIn_sub (fun _ h => List.mem_append_left _ (List.mem_append_right _ h)) (by decide +kernel))) (goodIn_sub (fun _ h => List.mem_append_right _ h) (by decide +kernel))
set_option maxRecDepth 20000 in
theorem gL_law_L_does : GoodIn wsL_law (va_wsS RL 122 yL_does wsL_does) := goodIn_app (goodIn_of _ (by decide +kernel)) ggL_law_L_does
set_option maxRecDepth 20000 in
theorem ggL_law_X4_cash : GoodIn wsL_law wsX4_cash := goodIn_ca (goodIn_r _ [391, 261, 192, 193, 194, 195, 2, 196, 27, 197, 124, 125, 126, 25, 127, 59, 128, 129, 130, 131, 132, 133, 134, 135, 136, 137, 138, 139, 140, 141, 142, 143, 144, 145, 146, 147, 148, 36, 435, 436, 437, 438, 439, 447, 448, 449, 450, 451, 440, 441, 442] (by decide +kernel) (by decide +kernel)) (goodIn_sub (fun _ h => List.mem_append_left _ (List.mem_append_left _ (List.mem_append_right _ h))) (by decide +kernel))
set_option maxRecDepth 20000 in
theorem gL_law_X4_cash : GoodIn wsL_law (wsV RL 106 RX4 yX4_cash wsX4_cash) := goodIn_app (goodIn_of _ (by decide +kernel)) ggL_law_X4_cash
set_option maxRecDepth 20000 in
theorem ggL_law_L_part : GoodIn wsL_law wsL_part := goodIn_r _ [394, 395] (by decide +kernel) (by decide +kernel)
set_option maxRecDepth 20000 in
theorem gL_law_L_part : GoodIn wsL_law (va_wsS RL 127 yL_part wsL_part) := goodIn_app (goodIn_of _ (by decide +kernel)) ggL_law_L_part
set_option maxRecDepth 20000 in
theorem ggL_law_L_costs : GoodIn wsL_law wsL_costs := goodIn_r _ [398, 399, 400, 401, 402, 403] (by decide +kernel) (by decide +kernel)
set_option maxRecDepth 20000 in
theorem gL_law_L_costs : GoodIn wsL_law (va_wsS RL 83 yL_costs wsL_costs) := goodIn_app (goodIn_of _ (by decide +kernel)) ggL_law_L_costs
set_option maxRecDepth 20000 in
theorem ggL_law_L_trades : GoodIn wsL_law wsL_trades := goodIn_r _ [406, 396, 397, 108, 398, 399, 400, 401, 402, 403, 407, 408, 409, 410, 10] (by decide +kernel) (by decide +kernel)
set_option maxRecDepth 20000 in
theorem gL_law_L_trades : GoodIn wsL_law (va_wsS RL 102 yL_trades wsL_trades) := goodIn_app (goodIn_of _ (by decide +kernel)) ggL_law_L_trades
set_option maxRecDepth 20000 in
theorem ggL_law_L_wealth : GoodIn wsL_law wsL_wealth := goodIn_r _ [413, 10] (by decide +kernel) (by decide +kernel)
set_option maxRecDepth 20000 in
theorem gL_law_L_wealth : GoodIn wsL_law (va_wsS RL 98 yL_wealth wsL_wealth) := goodIn_app (goodIn_of _ (by decide +kernel)) ggL_law_L_wealth
set_option maxRecDepth 20000 in
theorem ggL_law_L_balances : GoodIn wsL_law wsL_balances := goodIn_r _ [416, 400, 10, 411, 412, 108, 413, 404, 405, 406, 396, 397, 398, 399, 401, 402, 403, 407, 408, 409, 410] (by decide +kernel) (by decide +kernel)
set_option maxRecDepth 20000 in
theorem gL_law_L_balances : GoodIn wsL_law (va_wsS RL 140 yL_balances wsL_balances) := goodIn_app (goodIn_of _ (by decide +kernel)) ggL_law_L_balances
set_option maxRecDepth 20000 in
theorem ggL_law_L_goes : GoodIn wsL_law wsL_goes := goodIn_r _ [419, 15, 396, 397, 108, 398, 399, 400, 401, 402, 403] (by decide +kernel) (by decide +kernel)
set_option maxRecDepth 20000 in
theorem gL_law_L_goes : GoodIn wsL_law (va_wsS RL 94 yL_goes wsL_goes) := goodIn_app (goodIn_of _ (by decide +kernel)) ggL_law_L_goes
set_option maxRecDepth 20000 in
theorem ggL_law_L_moves : GoodIn wsL_law wsL_moves := goodIn_r _ [409, 410, 10] (by decide +kernel) (by decide +kernel)
set_option maxRecDepth 20000 in
theorem gL_law_L_moves : GoodIn wsL_law (va_wsS RL 89 yL_moves wsL_moves) := goodIn_app (goodIn_of _ (by decide +kernel)) ggL_law_L_moves
set_option maxRecDepth 20000 in
theorem ggL_law_L_taxes : GoodIn wsL_law wsL_taxes := goodIn_r _ [422, 417, 418, 108, 419, 15, 396, 397, 398, 399, 400, 401, 402, 403] (by decide +kernel) (by decide +kernel)
set_option maxRecDepth 20000 in
theorem gL_law_L_taxes : GoodIn wsL_law (va_wsS RL 114 yL_taxes wsL_taxes) := goodIn_app (goodIn_of _ (by decide +kernel)) ggL_law_L_taxes
end
section
set_option maxRecDepth 20000 in
theorem gp_wsL_isSo_r1 : GoodIn wsL_law wsL_isSo_r1 := goodIn_r _ [10, 15, 16, 426, 5, 388, 389, 390, 2, 391, 261, 192, 193, 194, 195, 196, 27, 197, 124, 125, 126, 25, 127, 59] (by decide +kernel) (by decide +kernel)
set_option maxRecDepth 20000 in
theorem gp_wsL_isSo_r2 : GoodIn wsL_law wsL_isSo_r2 := goodIn_r _ [128, 129, 130, 131, 132, 133, 134, 135, 136, 137, 138, 139, 140, 141, 142, 143, 144, 145, 146, 147, 148, 36, 384, 385] (by decide +kernel) (by decide +kernel)
set_option maxRecDepth 20000 in
theorem gp_wsL_isSo_r3 : GoodIn wsL_law wsL_isSo_r3 := goodIn_r _ [386, 387, 263, 262, 119, 120, 121, 122, 26, 123, 204, 205, 206, 207, 161, 208, 427, 428, 429, 430, 269, 431, 432, 433] (by decide +kernel) (by decide +kernel)
set_option maxRecDepth 20000 in
theorem gp_wsL_isSo_r4 : GoodIn wsL_law wsL_isSo_r4 := goodIn_r _ [434, 309, 310, 311, 312, 313, 314, 216, 301, 302, 303, 118, 220, 411, 412, 108, 413, 367, 368, 369, 370, 274, 202, 371] (by decide +kernel) (by decide +kernel)
set_option maxRecDepth 20000 in
theorem gp_wsL_isSo_r5 : GoodIn wsL_law wsL_isSo_r5 := goodIn_r _ [372, 276, 373, 374, 275, 331, 332, 333, 334, 335, 28, 287, 149, 150, 151, 152, 153, 396, 397, 398, 399, 400, 401, 402] (by decide +kernel) (by decide +kernel)
set_option maxRecDepth 20000 in
theorem gp_wsL_isSo_r6 : GoodIn wsL_law wsL_isSo_r6 := goodIn_r _ [403, 420, 421, 422, 417, 418, 419, 375, 376, 377, 378, 294, 351, 352, 353, 354, 355, 288, 289, 74, 290, 356, 357, 358] (by decide +kernel) (by decide +kernel)
set_option maxRecDepth 20000 in
theorem gp_wsL_isSo_r7 : GoodIn wsL_law wsL_isSo_r7 := goodIn_r _ [379, 380, 381, 382, 277, 237, 278, 383, 106, 107, 109, 110, 111, 112, 6, 9, 113, 114, 115, 116, 117, 154, 155, 156] (by decide +kernel) (by decide +kernel)
set_option maxRecDepth 20000 in
theorem gp_wsL_isSo_r8 : GoodIn wsL_law wsL_isSo_r8 := goodIn_r _ [157, 158, 159, 160, 162, 163, 164, 165, 166, 167, 168, 169, 170, 171, 172, 173, 21, 22, 174, 175, 24, 176, 4, 177] (by decide +kernel) (by decide +kernel)
set_option maxRecDepth 20000 in
theorem gp_wsL_isSo_r9 : GoodIn wsL_law wsL_isSo_r9 := goodIn_r _ [178, 179, 33, 34, 35, 37, 38, 39, 40, 41, 42, 43, 44, 45, 46, 180, 181, 182, 183, 184, 185, 53, 54, 55] (by decide +kernel) (by decide +kernel)
end
section
set_option maxRecDepth 20000 in
theorem gp_wsL_isSo_r10 : GoodIn wsL_law wsL_isSo_r10 := goodIn_r _ [56, 57, 58, 60, 61, 62, 63, 64, 65, 66, 67, 68, 69, 70, 71, 72, 73, 75, 76, 77, 78, 79, 80, 81] (by decide +kernel) (by decide +kernel)
set_option maxRecDepth 20000 in
theorem gp_wsL_isSo_r11 : GoodIn wsL_law wsL_isSo_r11 := goodIn_r _ [82, 83, 84, 85, 86, 87, 88, 89, 90, 91, 92, 93, 94, 95, 96, 97, 98, 99, 100, 101, 102, 103, 104, 105] (by decide +kernel) (by decide +kernel)
set_option maxRecDepth 20000 in
theorem gp_wsL_isSo_r12 : GoodIn wsL_law wsL_isSo_r12 := goodIn_r _ [186, 187, 188, 189, 190, 191, 198, 199, 200, 201, 203, 209, 210, 211, 212, 213, 214, 215, 217, 218, 219, 221, 222, 223] (by decide +kernel) (by decide +kernel)
set_option maxRecDepth 20000 in
theorem gp_wsL_isSo_r13 : GoodIn wsL_law wsL_isSo_r13 := goodIn_r _ [224, 225, 226, 227, 228, 229, 230, 231, 232, 233, 234, 235, 236, 238, 239, 240, 241, 242, 243, 244, 245, 246, 247, 248] (by decide +kernel) (by decide +kernel)
set_option maxRecDepth 20000 in
theorem gp_wsL_isSo_r14 : GoodIn wsL_law wsL_isSo_r14 := goodIn_r _ [249, 250, 251, 252, 253, 254, 255, 256, 257, 258, 259, 260, 264, 265, 266, 267, 268, 270, 271, 272, 273, 279, 280, 281] (by decide +kernel) (by decide +kernel)
set_option maxRecDepth 20000 in
theorem gp_wsL_isSo_r15 : GoodIn wsL_law wsL_isSo_r15 := goodIn_r _ [282, 283, 284, 285, 286, 291, 292, 293, 295, 296, 297, 298, 299, 300, 304, 305, 306, 307, 308, 315, 316, 317, 318, 319] (by decide +kernel) (by decide +kernel)
set_option maxRecDepth 20000 in
theorem gp_wsL_isSo_r16 : GoodIn wsL_law wsL_isSo_r16 := goodIn_r _ [320, 321, 322, 323, 324, 325, 326, 327, 328, 329, 330, 336, 337, 338, 339, 340, 341, 342, 343, 344, 345, 346, 347, 348] (by decide +kernel) (by decide +kernel)
set_option maxRecDepth 20000 in
theorem gp_wsL_isSo_r17 : GoodIn wsL_law wsL_isSo_r17 := goodIn_r _ [349, 350, 359, 360, 361, 362, 363, 364, 365, 366] (by decide +kernel) (by decide +kernel)
end
section
set_option maxRecDepth 20000 in
theorem ggL_law_L_isSo : GoodIn wsL_law wsL_isSo := goodIn_ca (goodIn_ca (goodIn_ca (goodIn_cons (goodIn_1 425 rfl rfl) (goodIn_app (goodIn_app (goodIn_app (goodIn_app (goodIn_app (goodIn_app (goodIn_app gp_wsL_isSo_r1 (goodIn_app gp_wsL_isSo_r2 (goodIn_app gp_wsL_isSo_r3 (goodIn_app gp_wsL_isSo_r4 (goodIn_app gp_wsL_isSo_r5 (goodIn_app gp_wsL_isSo_r6 (goodIn_app gp_wsL_isSo_r7 (goodIn_app gp_wsL_isSo_r8 (goodIn_app gp_wsL_isSo_r9 (goodIn_app gp_wsL_isSo_r10 (goodIn_app gp_wsL_isSo_r11 (goodIn_app gp_wsL_isSo_r12 (goodIn_app gp_wsL_isSo_r13 (goodIn_app gp_wsL_isSo_r14 (goodIn_app gp_wsL_isSo_r15 (goodIn_app gp_wsL_isSo_r16 (gp_wsL_isSo_r17))))))))))))))))) (goodIn_sub inlX4 (by decide +kernel))) (goodIn_sub inlX0 (by decide +kernel))) (goodIn_sub inlJx4a65c (by decide +kernel))) (goodIn_sub inlX1 (by decide +kernel))) (goodIn_sub inlX2 (by decide +kernel))) (goodIn_sub inlX3 (by decide +kernel)))) (goodIn_sub (fun _ h => List.mem_append_left _ (List.mem_append_left _ (List.mem_append_right _ h))) (by decide +kernel))) (goodIn_sub (fun _ h => List.mem_append_left _ (List.mem_append_right _ h)) (by decide +kernel))) (goodIn_sub (fun _ h => List.mem_append_right _ h) (by decide +kernel))
set_option maxRecDepth 20000 in
theorem gL_law_L_isSo : GoodIn wsL_law (va_wsS RL 144 yL_isSo wsL_isSo) := goodIn_app (goodIn_of _ (by decide +kernel)) ggL_law_L_isSo
end
section
theorem dL_law_0 : decode cL_law 0 = .ok (.new 9, 3) := by decide +kernel
theorem dL_law_3 : decode cL_law 3 = .ok (.dup, 1) := by decide +kernel
theorem dL_law_4 : decode cL_law 4 = .ok (.invokespecial 126, 3) := by decide +kernel
theorem dL_law_7 : decode cL_law 7 = .ok (.astore_n 1, 1) := by decide +kernel
theorem dL_law_8 : decode cL_law 8 = .ok (.bipush 6, 2) := by decide +kernel
theorem dL_law_10 : decode cL_law 10 = .ok (.newarray .int, 2) := by decide +kernel
theorem dL_law_12 : decode cL_law 12 = .ok (.astore_n 2, 1) := by decide +kernel
theorem dL_law_13 : decode cL_law 13 = .ok (.bipush 16, 2) := by decide +kernel
theorem dL_law_15 : decode cL_law 15 = .ok (.newarray .long, 2) := by decide +kernel
theorem dL_law_17 : decode cL_law 17 = .ok (.astore_n 3, 1) := by decide +kernel
theorem dL_law_18 : decode cL_law 18 = .ok (.bipush 18, 2) := by decide +kernel
theorem dL_law_20 : decode cL_law 20 = .ok (.newarray .long, 2) := by decide +kernel
theorem dL_law_22 : decode cL_law 22 = .ok (.astore 4, 2) := by decide +kernel
theorem dL_law_24 : decode cL_law 24 = .ok (.bipush 18, 2) := by decide +kernel
theorem dL_law_26 : decode cL_law 26 = .ok (.newarray .int, 2) := by decide +kernel
theorem dL_law_28 : decode cL_law 28 = .ok (.astore 5, 2) := by decide +kernel
theorem dL_law_30 : decode cL_law 30 = .ok (.bipush 30, 2) := by decide +kernel
theorem dL_law_32 : decode cL_law 32 = .ok (.newarray .int, 2) := by decide +kernel
theorem dL_law_34 : decode cL_law 34 = .ok (.astore 6, 2) := by decide +kernel
theorem dL_law_36 : decode cL_law 36 = .ok (.bipush 30, 2) := by decide +kernel
theorem dL_law_38 : decode cL_law 38 = .ok (.newarray .long, 2) := by decide +kernel
theorem dL_law_40 : decode cL_law 40 = .ok (.astore 7, 2) := by decide +kernel
theorem dL_law_42 : decode cL_law 42 = .ok (.bipush 30, 2) := by decide +kernel
theorem dL_law_44 : decode cL_law 44 = .ok (.newarray .long, 2) := by decide +kernel
theorem dL_law_46 : decode cL_law 46 = .ok (.astore 8, 2) := by decide +kernel
theorem dL_law_48 : decode cL_law 48 = .ok (.bipush 63, 2) := by decide +kernel
theorem dL_law_50 : decode cL_law 50 = .ok (.newarray .long, 2) := by decide +kernel
theorem dL_law_52 : decode cL_law 52 = .ok (.astore 9, 2) := by decide +kernel
theorem dL_law_54 : decode cL_law 54 = .ok (.bipush 60, 2) := by decide +kernel
theorem dL_law_56 : decode cL_law 56 = .ok (.newarray .long, 2) := by decide +kernel
theorem dL_law_58 : decode cL_law 58 = .ok (.astore 10, 2) := by decide +kernel
theorem dL_law_60 : decode cL_law 60 = .ok (.bipush 64, 2) := by decide +kernel
theorem dL_law_62 : decode cL_law 62 = .ok (.newarray .long, 2) := by decide +kernel
theorem dL_law_64 : decode cL_law 64 = .ok (.astore 11, 2) := by decide +kernel
theorem dL_law_66 : decode cL_law 66 = .ok (.iconst 3, 1) := by decide +kernel
theorem dL_law_67 : decode cL_law 67 = .ok (.newarray .int, 2) := by decide +kernel
theorem dL_law_69 : decode cL_law 69 = .ok (.astore 12, 2) := by decide +kernel
theorem dL_law_71 : decode cL_law 71 = .ok (.iconst 0, 1) := by decide +kernel
theorem dL_law_72 : decode cL_law 72 = .ok (.istore 13, 2) := by decide +kernel
theorem dL_law_74 : decode cL_law 74 = .ok (.iload 13, 2) := by decide +kernel
theorem dL_law_76 : decode cL_law 76 = .ok (.bipush 6, 2) := by decide +kernel
theorem dL_law_78 : decode cL_law 78 = .ok (.if_icmp .ge 16, 3) := by decide +kernel
theorem dL_law_81 : decode cL_law 81 = .ok (.aload_n 2, 1) := by decide +kernel
theorem dL_law_82 : decode cL_law 82 = .ok (.iload 13, 2) := by decide +kernel
theorem dL_law_84 : decode cL_law 84 = .ok (.sipush 10000, 3) := by decide +kernel
theorem dL_law_87 : decode cL_law 87 = .ok (.iastore, 1) := by decide +kernel
theorem dL_law_88 : decode cL_law 88 = .ok (.iinc 13 1, 3) := by decide +kernel
theorem dL_law_91 : decode cL_law 91 = .ok (.goto (-17), 3) := by decide +kernel
theorem dL_law_94 : decode cL_law 94 = .ok (.aload_n 1, 1) := by decide +kernel
theorem dL_law_95 : decode cL_law 95 = .ok (.iconst 0, 1) := by decide +kernel
theorem dL_law_96 : decode cL_law 96 = .ok (.bipush 6, 2) := by decide +kernel
theorem dL_law_98 : decode cL_law 98 = .ok (.iconst 1, 1) := by decide +kernel
theorem dL_law_99 : decode cL_law 99 = .ok (.iconst 0, 1) := by decide +kernel
theorem dL_law_100 : decode cL_law 100 = .ok (.invokestatic 122, 3) := by decide +kernel
theorem dL_law_103 : decode cL_law 103 = .ok (.ldc2_w 59, 3) := by decide +kernel
theorem dL_law_106 : decode cL_law 106 = .ok (.lcmp, 1) := by decide +kernel
theorem dL_law_107 : decode cL_law 107 = .ok (.ifCond .ne 99, 3) := by decide +kernel
theorem dL_law_110 : decode cL_law 110 = .ok (.aload_n 1, 1) := by decide +kernel
theorem dL_law_111 : decode cL_law 111 = .ok (.iconst 0, 1) := by decide +kernel
theorem dL_law_112 : decode cL_law 112 = .ok (.iconst 0, 1) := by decide +kernel
theorem dL_law_113 : decode cL_law 113 = .ok (.bipush 9, 2) := by decide +kernel
theorem dL_law_115 : decode cL_law 115 = .ok (.iconst 0, 1) := by decide +kernel
theorem dL_law_116 : decode cL_law 116 = .ok (.invokestatic 122, 3) := by decide +kernel
theorem dL_law_119 : decode cL_law 119 = .ok (.ldc2_w 63, 3) := by decide +kernel
theorem dL_law_122 : decode cL_law 122 = .ok (.lcmp, 1) := by decide +kernel
theorem dL_law_123 : decode cL_law 123 = .ok (.ifCond .ne 83, 3) := by decide +kernel
theorem dL_law_126 : decode cL_law 126 = .ok (.aload_n 1, 1) := by decide +kernel
theorem dL_law_127 : decode cL_law 127 = .ok (.iconst 2, 1) := by decide +kernel
theorem dL_law_128 : decode cL_law 128 = .ok (.iconst 0, 1) := by decide +kernel
theorem dL_law_129 : decode cL_law 129 = .ok (.iconst 1, 1) := by decide +kernel
theorem dL_law_130 : decode cL_law 130 = .ok (.iconst 0, 1) := by decide +kernel
theorem dL_law_131 : decode cL_law 131 = .ok (.invokestatic 122, 3) := by decide +kernel
theorem dL_law_134 : decode cL_law 134 = .ok (.ldc2_w 59, 3) := by decide +kernel
theorem dL_law_137 : decode cL_law 137 = .ok (.lcmp, 1) := by decide +kernel
theorem dL_law_138 : decode cL_law 138 = .ok (.ifCond .ne 68, 3) := by decide +kernel
theorem dL_law_141 : decode cL_law 141 = .ok (.aload_n 1, 1) := by decide +kernel
theorem dL_law_142 : decode cL_law 142 = .ok (.bipush 8, 2) := by decide +kernel
theorem dL_law_144 : decode cL_law 144 = .ok (.sipush 401, 3) := by decide +kernel
theorem dL_law_147 : decode cL_law 147 = .ok (.iconst 0, 1) := by decide +kernel
theorem dL_law_148 : decode cL_law 148 = .ok (.iconst 0, 1) := by decide +kernel
theorem dL_law_149 : decode cL_law 149 = .ok (.invokestatic 122, 3) := by decide +kernel
theorem dL_law_152 : decode cL_law 152 = .ok (.ldc2_w 63, 3) := by decide +kernel
theorem dL_law_155 : decode cL_law 155 = .ok (.lcmp, 1) := by decide +kernel
theorem dL_law_156 : decode cL_law 156 = .ok (.ifCond .ne 50, 3) := by decide +kernel
theorem dL_law_159 : decode cL_law 159 = .ok (.aload_n 1, 1) := by decide +kernel
theorem dL_law_160 : decode cL_law 160 = .ok (.bipush 12, 2) := by decide +kernel
theorem dL_law_162 : decode cL_law 162 = .ok (.bipush (-2), 2) := by decide +kernel
theorem dL_law_164 : decode cL_law 164 = .ok (.iconst 0, 1) := by decide +kernel
theorem dL_law_165 : decode cL_law 165 = .ok (.iconst 0, 1) := by decide +kernel
theorem dL_law_166 : decode cL_law 166 = .ok (.invokestatic 122, 3) := by decide +kernel
theorem dL_law_169 : decode cL_law 169 = .ok (.ldc2_w 59, 3) := by decide +kernel
theorem dL_law_172 : decode cL_law 172 = .ok (.lcmp, 1) := by decide +kernel
theorem dL_law_173 : decode cL_law 173 = .ok (.ifCond .ne 33, 3) := by decide +kernel
theorem dL_law_176 : decode cL_law 176 = .ok (.aload_n 1, 1) := by decide +kernel
theorem dL_law_177 : decode cL_law 177 = .ok (.bipush 10, 2) := by decide +kernel
theorem dL_law_179 : decode cL_law 179 = .ok (.iconst 0, 1) := by decide +kernel
theorem dL_law_180 : decode cL_law 180 = .ok (.iconst 0, 1) := by decide +kernel
theorem dL_law_181 : decode cL_law 181 = .ok (.iconst 0, 1) := by decide +kernel
theorem dL_law_182 : decode cL_law 182 = .ok (.invokestatic 122, 3) := by decide +kernel
theorem dL_law_185 : decode cL_law 185 = .ok (.ldc2_w 59, 3) := by decide +kernel
theorem dL_law_188 : decode cL_law 188 = .ok (.lcmp, 1) := by decide +kernel
theorem dL_law_189 : decode cL_law 189 = .ok (.ifCond .ne 17, 3) := by decide +kernel
theorem dL_law_192 : decode cL_law 192 = .ok (.aload_n 1, 1) := by decide +kernel
theorem dL_law_193 : decode cL_law 193 = .ok (.iconst (-1), 1) := by decide +kernel
theorem dL_law_194 : decode cL_law 194 = .ok (.invokevirtual 106, 3) := by decide +kernel
theorem dL_law_197 : decode cL_law 197 = .ok (.lconst 0, 1) := by decide +kernel
theorem dL_law_198 : decode cL_law 198 = .ok (.lcmp, 1) := by decide +kernel
theorem dL_law_199 : decode cL_law 199 = .ok (.ifCond .ne 7, 3) := by decide +kernel
theorem dL_law_202 : decode cL_law 202 = .ok (.iconst 1, 1) := by decide +kernel
theorem dL_law_203 : decode cL_law 203 = .ok (.goto 4, 3) := by decide +kernel
theorem dL_law_206 : decode cL_law 206 = .ok (.iconst 0, 1) := by decide +kernel
theorem dL_law_207 : decode cL_law 207 = .ok (.istore 13, 2) := by decide +kernel
theorem dL_law_209 : decode cL_law 209 = .ok (.iconst 0, 1) := by decide +kernel
theorem dL_law_210 : decode cL_law 210 = .ok (.istore 14, 2) := by decide +kernel
theorem dL_law_212 : decode cL_law 212 = .ok (.iload 14, 2) := by decide +kernel
theorem dL_law_214 : decode cL_law 214 = .ok (.bipush 60, 2) := by decide +kernel
theorem dL_law_216 : decode cL_law 216 = .ok (.if_icmp .ge 1977, 3) := by decide +kernel
theorem dL_law_219 : decode cL_law 219 = .ok (.iload 13, 2) := by decide +kernel
theorem dL_law_221 : decode cL_law 221 = .ok (.ifCond .eq 1972, 3) := by decide +kernel
theorem dL_law_224 : decode cL_law 224 = .ok (.iload 14, 2) := by decide +kernel
theorem dL_law_226 : decode cL_law 226 = .ok (.iconst 2, 1) := by decide +kernel
theorem dL_law_227 : decode cL_law 227 = .ok (.if_icmp .ge 7, 3) := by decide +kernel
theorem dL_law_230 : decode cL_law 230 = .ok (.iconst 1, 1) := by decide +kernel
theorem dL_law_231 : decode cL_law 231 = .ok (.goto 23, 3) := by decide +kernel
theorem dL_law_234 : decode cL_law 234 = .ok (.iload 14, 2) := by decide +kernel
theorem dL_law_236 : decode cL_law 236 = .ok (.iconst 4, 1) := by decide +kernel
theorem dL_law_237 : decode cL_law 237 = .ok (.if_icmp .ge 7, 3) := by decide +kernel
theorem dL_law_240 : decode cL_law 240 = .ok (.iconst 2, 1) := by decide +kernel
theorem dL_law_241 : decode cL_law 241 = .ok (.goto 13, 3) := by decide +kernel
theorem dL_law_244 : decode cL_law 244 = .ok (.aload_n 0, 1) := by decide +kernel
theorem dL_law_245 : decode cL_law 245 = .ok (.iconst 3, 1) := by decide +kernel
theorem dL_law_246 : decode cL_law 246 = .ok (.iload 14, 2) := by decide +kernel
theorem dL_law_248 : decode cL_law 248 = .ok (.imul, 1) := by decide +kernel
theorem dL_law_249 : decode cL_law 249 = .ok (.bipush 32, 2) := by decide +kernel
theorem dL_law_251 : decode cL_law 251 = .ok (.invokestatic 127, 3) := by decide +kernel
theorem dL_law_254 : decode cL_law 254 = .ok (.istore 15, 2) := by decide +kernel
theorem dL_law_256 : decode cL_law 256 = .ok (.aload_n 0, 1) := by decide +kernel
theorem dL_law_257 : decode cL_law 257 = .ok (.iconst 3, 1) := by decide +kernel
theorem dL_law_258 : decode cL_law 258 = .ok (.iload 14, 2) := by decide +kernel
theorem dL_law_260 : decode cL_law 260 = .ok (.imul, 1) := by decide +kernel
theorem dL_law_261 : decode cL_law 261 = .ok (.iconst 1, 1) := by decide +kernel
theorem dL_law_262 : decode cL_law 262 = .ok (.iadd, 1) := by decide +kernel
theorem dL_law_263 : decode cL_law 263 = .ok (.ldc 131, 2) := by decide +kernel
theorem dL_law_265 : decode cL_law 265 = .ok (.invokestatic 127, 3) := by decide +kernel
theorem dL_law_268 : decode cL_law 268 = .ok (.istore 16, 2) := by decide +kernel
theorem dL_law_270 : decode cL_law 270 = .ok (.aload_n 0, 1) := by decide +kernel
theorem dL_law_271 : decode cL_law 271 = .ok (.iconst 3, 1) := by decide +kernel
theorem dL_law_272 : decode cL_law 272 = .ok (.iload 14, 2) := by decide +kernel
theorem dL_law_274 : decode cL_law 274 = .ok (.imul, 1) := by decide +kernel
theorem dL_law_275 : decode cL_law 275 = .ok (.iconst 2, 1) := by decide +kernel
theorem dL_law_276 : decode cL_law 276 = .ok (.iadd, 1) := by decide +kernel
theorem dL_law_277 : decode cL_law 277 = .ok (.ldc 131, 2) := by decide +kernel
theorem dL_law_279 : decode cL_law 279 = .ok (.invokestatic 127, 3) := by decide +kernel
theorem dL_law_282 : decode cL_law 282 = .ok (.istore 17, 2) := by decide +kernel
theorem dL_law_284 : decode cL_law 284 = .ok (.iload 16, 2) := by decide +kernel
theorem dL_law_286 : decode cL_law 286 = .ok (.aload 12, 2) := by decide +kernel
theorem dL_law_288 : decode cL_law 288 = .ok (.iconst 1, 1) := by decide +kernel
theorem dL_law_289 : decode cL_law 289 = .ok (.iaload, 1) := by decide +kernel
theorem dL_law_290 : decode cL_law 290 = .ok (.iconst 1, 1) := by decide +kernel
theorem dL_law_291 : decode cL_law 291 = .ok (.iadd, 1) := by decide +kernel
theorem dL_law_292 : decode cL_law 292 = .ok (.irem, 1) := by decide +kernel
theorem dL_law_293 : decode cL_law 293 = .ok (.istore 18, 2) := by decide +kernel
theorem dL_law_295 : decode cL_law 295 = .ok (.iload 17, 2) := by decide +kernel
theorem dL_law_297 : decode cL_law 297 = .ok (.bipush 7, 2) := by decide +kernel
theorem dL_law_299 : decode cL_law 299 = .ok (.irem, 1) := by decide +kernel
theorem dL_law_300 : decode cL_law 300 = .ok (.istore 19, 2) := by decide +kernel
theorem dL_law_302 : decode cL_law 302 = .ok (.iload 18, 2) := by decide +kernel
theorem dL_law_304 : decode cL_law 304 = .ok (.aload 12, 2) := by decide +kernel
theorem dL_law_306 : decode cL_law 306 = .ok (.iconst 1, 1) := by decide +kernel
theorem dL_law_307 : decode cL_law 307 = .ok (.iaload, 1) := by decide +kernel
theorem dL_law_308 : decode cL_law 308 = .ok (.if_icmp .ge 7, 3) := by decide +kernel
theorem dL_law_311 : decode cL_law 311 = .ok (.iconst 1, 1) := by decide +kernel
theorem dL_law_312 : decode cL_law 312 = .ok (.goto 4, 3) := by decide +kernel
theorem dL_law_315 : decode cL_law 315 = .ok (.iconst 0, 1) := by decide +kernel
theorem dL_law_316 : decode cL_law 316 = .ok (.istore 20, 2) := by decide +kernel
theorem dL_law_318 : decode cL_law 318 = .ok (.iload 20, 2) := by decide +kernel
theorem dL_law_320 : decode cL_law 320 = .ok (.ifCond .eq 14, 3) := by decide +kernel
theorem dL_law_323 : decode cL_law 323 = .ok (.iload 19, 2) := by decide +kernel
theorem dL_law_325 : decode cL_law 325 = .ok (.bipush 6, 2) := by decide +kernel
theorem dL_law_327 : decode cL_law 327 = .ok (.if_icmp .ge 7, 3) := by decide +kernel
theorem dL_law_330 : decode cL_law 330 = .ok (.iconst 1, 1) := by decide +kernel
theorem dL_law_331 : decode cL_law 331 = .ok (.goto 4, 3) := by decide +kernel
theorem dL_law_334 : decode cL_law 334 = .ok (.iconst 0, 1) := by decide +kernel
theorem dL_law_335 : decode cL_law 335 = .ok (.istore 21, 2) := by decide +kernel
theorem dL_law_337 : decode cL_law 337 = .ok (.iload 19, 2) := by decide +kernel
theorem dL_law_339 : decode cL_law 339 = .ok (.bipush 6, 2) := by decide +kernel
theorem dL_law_341 : decode cL_law 341 = .ok (.irem, 1) := by decide +kernel
theorem dL_law_342 : decode cL_law 342 = .ok (.istore 22, 2) := by decide +kernel
theorem dL_law_344 : decode cL_law 344 = .ok (.iload 15, 2) := by decide +kernel
theorem dL_law_346 : decode cL_law 346 = .ok (.ifCond .eq 10, 3) := by decide +kernel
theorem dL_law_349 : decode cL_law 349 = .ok (.iload 15, 2) := by decide +kernel
theorem dL_law_351 : decode cL_law 351 = .ok (.bipush 29, 2) := by decide +kernel
theorem dL_law_353 : decode cL_law 353 = .ok (.if_icmp .le 92, 3) := by decide +kernel
theorem dL_law_356 : decode cL_law 356 = .ok (.iload 16, 2) := by decide +kernel
theorem dL_law_358 : decode cL_law 358 = .ok (.iconst 4, 1) := by decide +kernel
theorem dL_law_359 : decode cL_law 359 = .ok (.irem, 1) := by decide +kernel
theorem dL_law_360 : decode cL_law 360 = .ok (.ifCond .ne 14, 3) := by decide +kernel
theorem dL_law_363 : decode cL_law 363 = .ok (.bipush 10, 2) := by decide +kernel
theorem dL_law_365 : decode cL_law 365 = .ok (.iload 17, 2) := by decide +kernel
theorem dL_law_367 : decode cL_law 367 = .ok (.bipush 16, 2) := by decide +kernel
theorem dL_law_369 : decode cL_law 369 = .ok (.imul, 1) := by decide +kernel
theorem dL_law_370 : decode cL_law 370 = .ok (.iadd, 1) := by decide +kernel
theorem dL_law_371 : decode cL_law 371 = .ok (.goto 33, 3) := by decide +kernel
theorem dL_law_374 : decode cL_law 374 = .ok (.iload 16, 2) := by decide +kernel
theorem dL_law_376 : decode cL_law 376 = .ok (.iconst 4, 1) := by decide +kernel
theorem dL_law_377 : decode cL_law 377 = .ok (.irem, 1) := by decide +kernel
theorem dL_law_378 : decode cL_law 378 = .ok (.iconst 1, 1) := by decide +kernel
theorem dL_law_379 : decode cL_law 379 = .ok (.if_icmp .ne 15, 3) := by decide +kernel
theorem dL_law_382 : decode cL_law 382 = .ok (.bipush 10, 2) := by decide +kernel
theorem dL_law_384 : decode cL_law 384 = .ok (.iload 17, 2) := by decide +kernel
theorem dL_law_386 : decode cL_law 386 = .ok (.sipush 3000, 3) := by decide +kernel
theorem dL_law_389 : decode cL_law 389 = .ok (.irem, 1) := by decide +kernel
theorem dL_law_390 : decode cL_law 390 = .ok (.iadd, 1) := by decide +kernel
theorem dL_law_391 : decode cL_law 391 = .ok (.goto 13, 3) := by decide +kernel
theorem dL_law_394 : decode cL_law 394 = .ok (.sipush 5000, 3) := by decide +kernel
theorem dL_law_397 : decode cL_law 397 = .ok (.iload 17, 2) := by decide +kernel
theorem dL_law_399 : decode cL_law 399 = .ok (.sipush 20000, 3) := by decide +kernel
theorem dL_law_402 : decode cL_law 402 = .ok (.irem, 1) := by decide +kernel
theorem dL_law_403 : decode cL_law 403 = .ok (.iadd, 1) := by decide +kernel
theorem dL_law_404 : decode cL_law 404 = .ok (.istore 23, 2) := by decide +kernel
theorem dL_law_406 : decode cL_law 406 = .ok (.aload_n 2, 1) := by decide +kernel
theorem dL_law_407 : decode cL_law 407 = .ok (.iload 22, 2) := by decide +kernel
theorem dL_law_409 : decode cL_law 409 = .ok (.iaload, 1) := by decide +kernel
theorem dL_law_410 : decode cL_law 410 = .ok (.istore 24, 2) := by decide +kernel
theorem dL_law_412 : decode cL_law 412 = .ok (.aload_n 2, 1) := by decide +kernel
theorem dL_law_413 : decode cL_law 413 = .ok (.iload 22, 2) := by decide +kernel
theorem dL_law_415 : decode cL_law 415 = .ok (.iload 23, 2) := by decide +kernel
theorem dL_law_417 : decode cL_law 417 = .ok (.iastore, 1) := by decide +kernel
theorem dL_law_418 : decode cL_law 418 = .ok (.aload_n 1, 1) := by decide +kernel
theorem dL_law_419 : decode cL_law 419 = .ok (.iconst 0, 1) := by decide +kernel
theorem dL_law_420 : decode cL_law 420 = .ok (.iload 22, 2) := by decide +kernel
theorem dL_law_422 : decode cL_law 422 = .ok (.iload 23, 2) := by decide +kernel
theorem dL_law_424 : decode cL_law 424 = .ok (.iconst 0, 1) := by decide +kernel
theorem dL_law_425 : decode cL_law 425 = .ok (.invokestatic 122, 3) := by decide +kernel
theorem dL_law_428 : decode cL_law 428 = .ok (.iload 24, 2) := by decide +kernel
theorem dL_law_430 : decode cL_law 430 = .ok (.i2l, 1) := by decide +kernel
theorem dL_law_431 : decode cL_law 431 = .ok (.lcmp, 1) := by decide +kernel
theorem dL_law_432 : decode cL_law 432 = .ok (.ifCond .ne 7, 3) := by decide +kernel
theorem dL_law_435 : decode cL_law 435 = .ok (.iconst 1, 1) := by decide +kernel
theorem dL_law_436 : decode cL_law 436 = .ok (.goto 4, 3) := by decide +kernel
theorem dL_law_439 : decode cL_law 439 = .ok (.iconst 0, 1) := by decide +kernel
theorem dL_law_440 : decode cL_law 440 = .ok (.istore 13, 2) := by decide +kernel
theorem dL_law_442 : decode cL_law 442 = .ok (.goto 1704, 3) := by decide +kernel
theorem dL_law_445 : decode cL_law 445 = .ok (.iload 15, 2) := by decide +kernel
theorem dL_law_447 : decode cL_law 447 = .ok (.iconst 1, 1) := by decide +kernel
theorem dL_law_448 : decode cL_law 448 = .ok (.if_icmp .ne 48, 3) := by decide +kernel
theorem dL_law_451 : decode cL_law 451 = .ok (.aload 12, 2) := by decide +kernel
theorem dL_law_453 : decode cL_law 453 = .ok (.iconst 1, 1) := by decide +kernel
theorem dL_law_454 : decode cL_law 454 = .ok (.iaload, 1) := by decide +kernel
theorem dL_law_455 : decode cL_law 455 = .ok (.iconst 3, 1) := by decide +kernel
theorem dL_law_456 : decode cL_law 456 = .ok (.if_icmp .ge 1690, 3) := by decide +kernel
theorem dL_law_459 : decode cL_law 459 = .ok (.aload 12, 2) := by decide +kernel
theorem dL_law_461 : decode cL_law 461 = .ok (.iconst 1, 1) := by decide +kernel
theorem dL_law_462 : decode cL_law 462 = .ok (.dup2, 1) := by decide +kernel
theorem dL_law_463 : decode cL_law 463 = .ok (.iaload, 1) := by decide +kernel
theorem dL_law_464 : decode cL_law 464 = .ok (.iconst 1, 1) := by decide +kernel
theorem dL_law_465 : decode cL_law 465 = .ok (.iadd, 1) := by decide +kernel
theorem dL_law_466 : decode cL_law 466 = .ok (.iastore, 1) := by decide +kernel
theorem dL_law_467 : decode cL_law 467 = .ok (.aload_n 1, 1) := by decide +kernel
theorem dL_law_468 : decode cL_law 468 = .ok (.iconst 1, 1) := by decide +kernel
theorem dL_law_469 : decode cL_law 469 = .ok (.iconst 0, 1) := by decide +kernel
theorem dL_law_470 : decode cL_law 470 = .ok (.iconst 0, 1) := by decide +kernel
theorem dL_law_471 : decode cL_law 471 = .ok (.iconst 0, 1) := by decide +kernel
theorem dL_law_472 : decode cL_law 472 = .ok (.invokestatic 122, 3) := by decide +kernel
theorem dL_law_475 : decode cL_law 475 = .ok (.aload 12, 2) := by decide +kernel
theorem dL_law_477 : decode cL_law 477 = .ok (.iconst 1, 1) := by decide +kernel
theorem dL_law_478 : decode cL_law 478 = .ok (.iaload, 1) := by decide +kernel
theorem dL_law_479 : decode cL_law 479 = .ok (.iconst 1, 1) := by decide +kernel
theorem dL_law_480 : decode cL_law 480 = .ok (.isub, 1) := by decide +kernel
theorem dL_law_481 : decode cL_law 481 = .ok (.i2l, 1) := by decide +kernel
theorem dL_law_482 : decode cL_law 482 = .ok (.lcmp, 1) := by decide +kernel
theorem dL_law_483 : decode cL_law 483 = .ok (.ifCond .ne 7, 3) := by decide +kernel
theorem dL_law_486 : decode cL_law 486 = .ok (.iconst 1, 1) := by decide +kernel
theorem dL_law_487 : decode cL_law 487 = .ok (.goto 4, 3) := by decide +kernel
theorem dL_law_490 : decode cL_law 490 = .ok (.iconst 0, 1) := by decide +kernel
theorem dL_law_491 : decode cL_law 491 = .ok (.istore 13, 2) := by decide +kernel
theorem dL_law_493 : decode cL_law 493 = .ok (.goto 1653, 3) := by decide +kernel
theorem dL_law_496 : decode cL_law 496 = .ok (.iload 15, 2) := by decide +kernel
theorem dL_law_498 : decode cL_law 498 = .ok (.iconst 5, 1) := by decide +kernel
theorem dL_law_499 : decode cL_law 499 = .ok (.if_icmp .ge 146, 3) := by decide +kernel
theorem dL_law_502 : decode cL_law 502 = .ok (.iload 17, 2) := by decide +kernel
theorem dL_law_504 : decode cL_law 504 = .ok (.iconst 3, 1) := by decide +kernel
theorem dL_law_505 : decode cL_law 505 = .ok (.irem, 1) := by decide +kernel
theorem dL_law_506 : decode cL_law 506 = .ok (.ifCond .ne 15, 3) := by decide +kernel
theorem dL_law_509 : decode cL_law 509 = .ok (.iload 17, 2) := by decide +kernel
theorem dL_law_511 : decode cL_law 511 = .ok (.sipush 333, 3) := by decide +kernel
theorem dL_law_514 : decode cL_law 514 = .ok (.imul, 1) := by decide +kernel
theorem dL_law_515 : decode cL_law 515 = .ok (.ldc 132, 2) := by decide +kernel
theorem dL_law_517 : decode cL_law 517 = .ok (.isub, 1) := by decide +kernel
theorem dL_law_518 : decode cL_law 518 = .ok (.goto 8, 3) := by decide +kernel
theorem dL_law_521 : decode cL_law 521 = .ok (.iload 17, 2) := by decide +kernel
theorem dL_law_523 : decode cL_law 523 = .ok (.bipush 15, 2) := by decide +kernel
theorem dL_law_525 : decode cL_law 525 = .ok (.imul, 1) := by decide +kernel
theorem dL_law_526 : decode cL_law 526 = .ok (.istore 23, 2) := by decide +kernel
theorem dL_law_528 : decode cL_law 528 = .ok (.iload 20, 2) := by decide +kernel
theorem dL_law_530 : decode cL_law 530 = .ok (.ifCond .eq 28, 3) := by decide +kernel
theorem dL_law_533 : decode cL_law 533 = .ok (.iload 23, 2) := by decide +kernel
theorem dL_law_535 : decode cL_law 535 = .ok (.ifCond .ge 19, 3) := by decide +kernel
theorem dL_law_538 : decode cL_law 538 = .ok (.aload_n 3, 1) := by decide +kernel
theorem dL_law_539 : decode cL_law 539 = .ok (.bipush 12, 2) := by decide +kernel
theorem dL_law_541 : decode cL_law 541 = .ok (.iload 18, 2) := by decide +kernel
theorem dL_law_543 : decode cL_law 543 = .ok (.iadd, 1) := by decide +kernel
theorem dL_law_544 : decode cL_law 544 = .ok (.laload, 1) := by decide +kernel
theorem dL_law_545 : decode cL_law 545 = .ok (.iload 23, 2) := by decide +kernel
theorem dL_law_547 : decode cL_law 547 = .ok (.i2l, 1) := by decide +kernel
theorem dL_law_548 : decode cL_law 548 = .ok (.ladd, 1) := by decide +kernel
theorem dL_law_549 : decode cL_law 549 = .ok (.lconst 0, 1) := by decide +kernel
theorem dL_law_550 : decode cL_law 550 = .ok (.lcmp, 1) := by decide +kernel
theorem dL_law_551 : decode cL_law 551 = .ok (.ifCond .lt 7, 3) := by decide +kernel
theorem dL_law_554 : decode cL_law 554 = .ok (.iconst 1, 1) := by decide +kernel
theorem dL_law_555 : decode cL_law 555 = .ok (.goto 4, 3) := by decide +kernel
theorem dL_law_558 : decode cL_law 558 = .ok (.iconst 0, 1) := by decide +kernel
theorem dL_law_559 : decode cL_law 559 = .ok (.istore 24, 2) := by decide +kernel
theorem dL_law_561 : decode cL_law 561 = .ok (.aload_n 3, 1) := by decide +kernel
theorem dL_law_562 : decode cL_law 562 = .ok (.bipush 12, 2) := by decide +kernel
theorem dL_law_564 : decode cL_law 564 = .ok (.iload 24, 2) := by decide +kernel
theorem dL_law_566 : decode cL_law 566 = .ok (.ifCond .eq 8, 3) := by decide +kernel
theorem dL_law_569 : decode cL_law 569 = .ok (.iload 18, 2) := by decide +kernel
theorem dL_law_571 : decode cL_law 571 = .ok (.goto 4, 3) := by decide +kernel
theorem dL_law_574 : decode cL_law 574 = .ok (.iconst 0, 1) := by decide +kernel
theorem dL_law_575 : decode cL_law 575 = .ok (.iadd, 1) := by decide +kernel
theorem dL_law_576 : decode cL_law 576 = .ok (.dup2, 1) := by decide +kernel
theorem dL_law_577 : decode cL_law 577 = .ok (.laload, 1) := by decide +kernel
theorem dL_law_578 : decode cL_law 578 = .ok (.iload 24, 2) := by decide +kernel
theorem dL_law_580 : decode cL_law 580 = .ok (.ifCond .eq 9, 3) := by decide +kernel
theorem dL_law_583 : decode cL_law 583 = .ok (.iload 23, 2) := by decide +kernel
theorem dL_law_585 : decode cL_law 585 = .ok (.i2l, 1) := by decide +kernel
theorem dL_law_586 : decode cL_law 586 = .ok (.goto 4, 3) := by decide +kernel
theorem dL_law_589 : decode cL_law 589 = .ok (.lconst 0, 1) := by decide +kernel
theorem dL_law_590 : decode cL_law 590 = .ok (.ladd, 1) := by decide +kernel
theorem dL_law_591 : decode cL_law 591 = .ok (.lastore, 1) := by decide +kernel
theorem dL_law_592 : decode cL_law 592 = .ok (.aload_n 1, 1) := by decide +kernel
theorem dL_law_593 : decode cL_law 593 = .ok (.iconst 2, 1) := by decide +kernel
theorem dL_law_594 : decode cL_law 594 = .ok (.iload 18, 2) := by decide +kernel
theorem dL_law_596 : decode cL_law 596 = .ok (.iload 23, 2) := by decide +kernel
theorem dL_law_598 : decode cL_law 598 = .ok (.iconst 0, 1) := by decide +kernel
theorem dL_law_599 : decode cL_law 599 = .ok (.invokestatic 122, 3) := by decide +kernel
theorem dL_law_602 : decode cL_law 602 = .ok (.iload 20, 2) := by decide +kernel
theorem dL_law_604 : decode cL_law 604 = .ok (.ifCond .ne 9, 3) := by decide +kernel
theorem dL_law_607 : decode cL_law 607 = .ok (.ldc2_w 59, 3) := by decide +kernel
theorem dL_law_610 : decode cL_law 610 = .ok (.goto 21, 3) := by decide +kernel
theorem dL_law_613 : decode cL_law 613 = .ok (.iload 24, 2) := by decide +kernel
theorem dL_law_615 : decode cL_law 615 = .ok (.ifCond .eq 13, 3) := by decide +kernel
theorem dL_law_618 : decode cL_law 618 = .ok (.aload_n 3, 1) := by decide +kernel
theorem dL_law_619 : decode cL_law 619 = .ok (.bipush 12, 2) := by decide +kernel
theorem dL_law_621 : decode cL_law 621 = .ok (.iload 18, 2) := by decide +kernel
theorem dL_law_623 : decode cL_law 623 = .ok (.iadd, 1) := by decide +kernel
theorem dL_law_624 : decode cL_law 624 = .ok (.laload, 1) := by decide +kernel
theorem dL_law_625 : decode cL_law 625 = .ok (.goto 6, 3) := by decide +kernel
theorem dL_law_628 : decode cL_law 628 = .ok (.ldc2_w 67, 3) := by decide +kernel
theorem dL_law_631 : decode cL_law 631 = .ok (.lcmp, 1) := by decide +kernel
theorem dL_law_632 : decode cL_law 632 = .ok (.ifCond .ne 7, 3) := by decide +kernel
theorem dL_law_635 : decode cL_law 635 = .ok (.iconst 1, 1) := by decide +kernel
theorem dL_law_636 : decode cL_law 636 = .ok (.goto 4, 3) := by decide +kernel
theorem dL_law_639 : decode cL_law 639 = .ok (.iconst 0, 1) := by decide +kernel
theorem dL_law_640 : decode cL_law 640 = .ok (.istore 13, 2) := by decide +kernel
theorem dL_law_642 : decode cL_law 642 = .ok (.goto 1504, 3) := by decide +kernel
theorem dL_law_645 : decode cL_law 645 = .ok (.iload 15, 2) := by decide +kernel
theorem dL_law_647 : decode cL_law 647 = .ok (.bipush 8, 2) := by decide +kernel
theorem dL_law_649 : decode cL_law 649 = .ok (.if_icmp .ge 209, 3) := by decide +kernel
theorem dL_law_652 : decode cL_law 652 = .ok (.iload 17, 2) := by decide +kernel
theorem dL_law_654 : decode cL_law 654 = .ok (.bipush 7, 2) := by decide +kernel
theorem dL_law_656 : decode cL_law 656 = .ok (.idiv, 1) := by decide +kernel
theorem dL_law_657 : decode cL_law 657 = .ok (.iconst 3, 1) := by decide +kernel
theorem dL_law_658 : decode cL_law 658 = .ok (.irem, 1) := by decide +kernel
theorem dL_law_659 : decode cL_law 659 = .ok (.ifCond .ne 14, 3) := by decide +kernel
theorem dL_law_662 : decode cL_law 662 = .ok (.iload 17, 2) := by decide +kernel
theorem dL_law_664 : decode cL_law 664 = .ok (.bipush 7, 2) := by decide +kernel
theorem dL_law_666 : decode cL_law 666 = .ok (.idiv, 1) := by decide +kernel
theorem dL_law_667 : decode cL_law 667 = .ok (.bipush 102, 2) := by decide +kernel
theorem dL_law_669 : decode cL_law 669 = .ok (.irem, 1) := by decide +kernel
theorem dL_law_670 : decode cL_law 670 = .ok (.goto 11, 3) := by decide +kernel
theorem dL_law_673 : decode cL_law 673 = .ok (.iload 17, 2) := by decide +kernel
theorem dL_law_675 : decode cL_law 675 = .ok (.bipush 7, 2) := by decide +kernel
theorem dL_law_677 : decode cL_law 677 = .ok (.idiv, 1) := by decide +kernel
theorem dL_law_678 : decode cL_law 678 = .ok (.bipush 40, 2) := by decide +kernel
theorem dL_law_680 : decode cL_law 680 = .ok (.irem, 1) := by decide +kernel
theorem dL_law_681 : decode cL_law 681 = .ok (.istore 23, 2) := by decide +kernel
theorem dL_law_683 : decode cL_law 683 = .ok (.iload 23, 2) := by decide +kernel
theorem dL_law_685 : decode cL_law 685 = .ok (.istore 24, 2) := by decide +kernel
theorem dL_law_687 : decode cL_law 687 = .ok (.iconst 0, 1) := by decide +kernel
theorem dL_law_688 : decode cL_law 688 = .ok (.istore 25, 2) := by decide +kernel
theorem dL_law_690 : decode cL_law 690 = .ok (.iload 25, 2) := by decide +kernel
theorem dL_law_692 : decode cL_law 692 = .ok (.bipush 6, 2) := by decide +kernel
theorem dL_law_694 : decode cL_law 694 = .ok (.if_icmp .ge 41, 3) := by decide +kernel
theorem dL_law_697 : decode cL_law 697 = .ok (.iload 21, 2) := by decide +kernel
theorem dL_law_699 : decode cL_law 699 = .ok (.ifCond .eq 36, 3) := by decide +kernel
theorem dL_law_702 : decode cL_law 702 = .ok (.iload 24, 2) := by decide +kernel
theorem dL_law_704 : decode cL_law 704 = .ok (.iload 25, 2) := by decide +kernel
theorem dL_law_706 : decode cL_law 706 = .ok (.iload 19, 2) := by decide +kernel
theorem dL_law_708 : decode cL_law 708 = .ok (.if_icmp .ne 7, 3) := by decide +kernel
theorem dL_law_711 : decode cL_law 711 = .ok (.iconst 0, 1) := by decide +kernel
theorem dL_law_712 : decode cL_law 712 = .ok (.goto 14, 3) := by decide +kernel
theorem dL_law_715 : decode cL_law 715 = .ok (.aload 5, 2) := by decide +kernel
theorem dL_law_717 : decode cL_law 717 = .ok (.bipush 6, 2) := by decide +kernel
theorem dL_law_719 : decode cL_law 719 = .ok (.iload 18, 2) := by decide +kernel
theorem dL_law_721 : decode cL_law 721 = .ok (.imul, 1) := by decide +kernel
theorem dL_law_722 : decode cL_law 722 = .ok (.iload 25, 2) := by decide +kernel
theorem dL_law_724 : decode cL_law 724 = .ok (.iadd, 1) := by decide +kernel
theorem dL_law_725 : decode cL_law 725 = .ok (.iaload, 1) := by decide +kernel
theorem dL_law_726 : decode cL_law 726 = .ok (.iadd, 1) := by decide +kernel
theorem dL_law_727 : decode cL_law 727 = .ok (.istore 24, 2) := by decide +kernel
theorem dL_law_729 : decode cL_law 729 = .ok (.iinc 25 1, 3) := by decide +kernel
theorem dL_law_732 : decode cL_law 732 = .ok (.goto (-42), 3) := by decide +kernel
theorem dL_law_735 : decode cL_law 735 = .ok (.iload 21, 2) := by decide +kernel
theorem dL_law_737 : decode cL_law 737 = .ok (.ifCond .eq 21, 3) := by decide +kernel
theorem dL_law_740 : decode cL_law 740 = .ok (.iload 23, 2) := by decide +kernel
theorem dL_law_742 : decode cL_law 742 = .ok (.bipush 101, 2) := by decide +kernel
theorem dL_law_744 : decode cL_law 744 = .ok (.if_icmp .ge 14, 3) := by decide +kernel
theorem dL_law_747 : decode cL_law 747 = .ok (.iload 24, 2) := by decide +kernel
theorem dL_law_749 : decode cL_law 749 = .ok (.bipush 101, 2) := by decide +kernel
theorem dL_law_751 : decode cL_law 751 = .ok (.if_icmp .ge 7, 3) := by decide +kernel
theorem dL_law_754 : decode cL_law 754 = .ok (.iconst 1, 1) := by decide +kernel
theorem dL_law_755 : decode cL_law 755 = .ok (.goto 4, 3) := by decide +kernel
theorem dL_law_758 : decode cL_law 758 = .ok (.iconst 0, 1) := by decide +kernel
theorem dL_law_759 : decode cL_law 759 = .ok (.istore 25, 2) := by decide +kernel
theorem dL_law_761 : decode cL_law 761 = .ok (.aload 5, 2) := by decide +kernel
theorem dL_law_763 : decode cL_law 763 = .ok (.iload 25, 2) := by decide +kernel
theorem dL_law_765 : decode cL_law 765 = .ok (.ifCond .eq 14, 3) := by decide +kernel
theorem dL_law_768 : decode cL_law 768 = .ok (.bipush 6, 2) := by decide +kernel
end
section
theorem dL_law_770 : decode cL_law 770 = .ok (.iload 18, 2) := by decide +kernel
theorem dL_law_772 : decode cL_law 772 = .ok (.imul, 1) := by decide +kernel
theorem dL_law_773 : decode cL_law 773 = .ok (.iload 19, 2) := by decide +kernel
theorem dL_law_775 : decode cL_law 775 = .ok (.iadd, 1) := by decide +kernel
theorem dL_law_776 : decode cL_law 776 = .ok (.goto 4, 3) := by decide +kernel
theorem dL_law_779 : decode cL_law 779 = .ok (.iconst 0, 1) := by decide +kernel
theorem dL_law_780 : decode cL_law 780 = .ok (.iload 25, 2) := by decide +kernel
theorem dL_law_782 : decode cL_law 782 = .ok (.ifCond .eq 8, 3) := by decide +kernel
theorem dL_law_785 : decode cL_law 785 = .ok (.iload 23, 2) := by decide +kernel
theorem dL_law_787 : decode cL_law 787 = .ok (.goto 7, 3) := by decide +kernel
theorem dL_law_790 : decode cL_law 790 = .ok (.aload 5, 2) := by decide +kernel
theorem dL_law_792 : decode cL_law 792 = .ok (.iconst 0, 1) := by decide +kernel
theorem dL_law_793 : decode cL_law 793 = .ok (.iaload, 1) := by decide +kernel
theorem dL_law_794 : decode cL_law 794 = .ok (.iastore, 1) := by decide +kernel
theorem dL_law_795 : decode cL_law 795 = .ok (.aload_n 1, 1) := by decide +kernel
theorem dL_law_796 : decode cL_law 796 = .ok (.iconst 3, 1) := by decide +kernel
theorem dL_law_797 : decode cL_law 797 = .ok (.iload 18, 2) := by decide +kernel
theorem dL_law_799 : decode cL_law 799 = .ok (.iload 19, 2) := by decide +kernel
theorem dL_law_801 : decode cL_law 801 = .ok (.iload 23, 2) := by decide +kernel
theorem dL_law_803 : decode cL_law 803 = .ok (.invokestatic 122, 3) := by decide +kernel
theorem dL_law_806 : decode cL_law 806 = .ok (.iload 21, 2) := by decide +kernel
theorem dL_law_808 : decode cL_law 808 = .ok (.ifCond .ne 9, 3) := by decide +kernel
theorem dL_law_811 : decode cL_law 811 = .ok (.ldc2_w 59, 3) := by decide +kernel
theorem dL_law_814 : decode cL_law 814 = .ok (.goto 30, 3) := by decide +kernel
theorem dL_law_817 : decode cL_law 817 = .ok (.iload 23, 2) := by decide +kernel
theorem dL_law_819 : decode cL_law 819 = .ok (.bipush 100, 2) := by decide +kernel
theorem dL_law_821 : decode cL_law 821 = .ok (.if_icmp .le 9, 3) := by decide +kernel
theorem dL_law_824 : decode cL_law 824 = .ok (.ldc2_w 63, 3) := by decide +kernel
theorem dL_law_827 : decode cL_law 827 = .ok (.goto 17, 3) := by decide +kernel
theorem dL_law_830 : decode cL_law 830 = .ok (.iload 25, 2) := by decide +kernel
theorem dL_law_832 : decode cL_law 832 = .ok (.ifCond .eq 9, 3) := by decide +kernel
theorem dL_law_835 : decode cL_law 835 = .ok (.iload 24, 2) := by decide +kernel
theorem dL_law_837 : decode cL_law 837 = .ok (.i2l, 1) := by decide +kernel
theorem dL_law_838 : decode cL_law 838 = .ok (.goto 6, 3) := by decide +kernel
theorem dL_law_841 : decode cL_law 841 = .ok (.ldc2_w 67, 3) := by decide +kernel
theorem dL_law_844 : decode cL_law 844 = .ok (.lcmp, 1) := by decide +kernel
theorem dL_law_845 : decode cL_law 845 = .ok (.ifCond .ne 7, 3) := by decide +kernel
theorem dL_law_848 : decode cL_law 848 = .ok (.iconst 1, 1) := by decide +kernel
theorem dL_law_849 : decode cL_law 849 = .ok (.goto 4, 3) := by decide +kernel
theorem dL_law_852 : decode cL_law 852 = .ok (.iconst 0, 1) := by decide +kernel
theorem dL_law_853 : decode cL_law 853 = .ok (.istore 13, 2) := by decide +kernel
theorem dL_law_855 : decode cL_law 855 = .ok (.goto 1291, 3) := by decide +kernel
theorem dL_law_858 : decode cL_law 858 = .ok (.iload 15, 2) := by decide +kernel
theorem dL_law_860 : decode cL_law 860 = .ok (.bipush 14, 2) := by decide +kernel
theorem dL_law_862 : decode cL_law 862 = .ok (.if_icmp .ge 205, 3) := by decide +kernel
theorem dL_law_865 : decode cL_law 865 = .ok (.aload 12, 2) := by decide +kernel
theorem dL_law_867 : decode cL_law 867 = .ok (.iconst 2, 1) := by decide +kernel
theorem dL_law_868 : decode cL_law 868 = .ok (.iaload, 1) := by decide +kernel
theorem dL_law_869 : decode cL_law 869 = .ok (.bipush 18, 2) := by decide +kernel
theorem dL_law_871 : decode cL_law 871 = .ok (.if_icmp .ge 196, 3) := by decide +kernel
theorem dL_law_874 : decode cL_law 874 = .ok (.iload 17, 2) := by decide +kernel
theorem dL_law_876 : decode cL_law 876 = .ok (.bipush 7, 2) := by decide +kernel
theorem dL_law_878 : decode cL_law 878 = .ok (.idiv, 1) := by decide +kernel
theorem dL_law_879 : decode cL_law 879 = .ok (.iconst 3, 1) := by decide +kernel
theorem dL_law_880 : decode cL_law 880 = .ok (.irem, 1) := by decide +kernel
theorem dL_law_881 : decode cL_law 881 = .ok (.ifCond .ne 13, 3) := by decide +kernel
theorem dL_law_884 : decode cL_law 884 = .ok (.iconst 1, 1) := by decide +kernel
theorem dL_law_885 : decode cL_law 885 = .ok (.iload 17, 2) := by decide +kernel
theorem dL_law_887 : decode cL_law 887 = .ok (.bipush 100, 2) := by decide +kernel
theorem dL_law_889 : decode cL_law 889 = .ok (.imul, 1) := by decide +kernel
theorem dL_law_890 : decode cL_law 890 = .ok (.iadd, 1) := by decide +kernel
theorem dL_law_891 : decode cL_law 891 = .ok (.goto 29, 3) := by decide +kernel
theorem dL_law_894 : decode cL_law 894 = .ok (.iload 17, 2) := by decide +kernel
theorem dL_law_896 : decode cL_law 896 = .ok (.bipush 7, 2) := by decide +kernel
theorem dL_law_898 : decode cL_law 898 = .ok (.idiv, 1) := by decide +kernel
theorem dL_law_899 : decode cL_law 899 = .ok (.iconst 3, 1) := by decide +kernel
theorem dL_law_900 : decode cL_law 900 = .ok (.irem, 1) := by decide +kernel
theorem dL_law_901 : decode cL_law 901 = .ok (.iconst 1, 1) := by decide +kernel
theorem dL_law_902 : decode cL_law 902 = .ok (.if_icmp .ne 10, 3) := by decide +kernel
theorem dL_law_905 : decode cL_law 905 = .ok (.iconst 1, 1) := by decide +kernel
theorem dL_law_906 : decode cL_law 906 = .ok (.iload 17, 2) := by decide +kernel
theorem dL_law_908 : decode cL_law 908 = .ok (.iadd, 1) := by decide +kernel
theorem dL_law_909 : decode cL_law 909 = .ok (.goto 11, 3) := by decide +kernel
theorem dL_law_912 : decode cL_law 912 = .ok (.iconst 1, 1) := by decide +kernel
theorem dL_law_913 : decode cL_law 913 = .ok (.iload 17, 2) := by decide +kernel
theorem dL_law_915 : decode cL_law 915 = .ok (.sipush 12000, 3) := by decide +kernel
theorem dL_law_918 : decode cL_law 918 = .ok (.irem, 1) := by decide +kernel
theorem dL_law_919 : decode cL_law 919 = .ok (.iadd, 1) := by decide +kernel
theorem dL_law_920 : decode cL_law 920 = .ok (.istore 23, 2) := by decide +kernel
theorem dL_law_922 : decode cL_law 922 = .ok (.iload 21, 2) := by decide +kernel
theorem dL_law_924 : decode cL_law 924 = .ok (.ifCond .eq 46, 3) := by decide +kernel
theorem dL_law_927 : decode cL_law 927 = .ok (.iload 23, 2) := by decide +kernel
theorem dL_law_929 : decode cL_law 929 = .ok (.i2l, 1) := by decide +kernel
theorem dL_law_930 : decode cL_law 930 = .ok (.ldc2_w 81, 3) := by decide +kernel
theorem dL_law_933 : decode cL_law 933 = .ok (.lmul, 1) := by decide +kernel
theorem dL_law_934 : decode cL_law 934 = .ok (.aload_n 2, 1) := by decide +kernel
theorem dL_law_935 : decode cL_law 935 = .ok (.iload 22, 2) := by decide +kernel
theorem dL_law_937 : decode cL_law 937 = .ok (.iaload, 1) := by decide +kernel
theorem dL_law_938 : decode cL_law 938 = .ok (.i2l, 1) := by decide +kernel
theorem dL_law_939 : decode cL_law 939 = .ok (.ldiv, 1) := by decide +kernel
theorem dL_law_940 : decode cL_law 940 = .ok (.lconst 0, 1) := by decide +kernel
theorem dL_law_941 : decode cL_law 941 = .ok (.lcmp, 1) := by decide +kernel
theorem dL_law_942 : decode cL_law 942 = .ok (.ifCond .le 28, 3) := by decide +kernel
theorem dL_law_945 : decode cL_law 945 = .ok (.iload 23, 2) := by decide +kernel
theorem dL_law_947 : decode cL_law 947 = .ok (.i2l, 1) := by decide +kernel
theorem dL_law_948 : decode cL_law 948 = .ok (.iload 23, 2) := by decide +kernel
theorem dL_law_950 : decode cL_law 950 = .ok (.i2l, 1) := by decide +kernel
theorem dL_law_951 : decode cL_law 951 = .ok (.invokestatic 83, 3) := by decide +kernel
theorem dL_law_954 : decode cL_law 954 = .ok (.ladd, 1) := by decide +kernel
theorem dL_law_955 : decode cL_law 955 = .ok (.aload_n 3, 1) := by decide +kernel
theorem dL_law_956 : decode cL_law 956 = .ok (.bipush 12, 2) := by decide +kernel
theorem dL_law_958 : decode cL_law 958 = .ok (.iload 18, 2) := by decide +kernel
theorem dL_law_960 : decode cL_law 960 = .ok (.iadd, 1) := by decide +kernel
theorem dL_law_961 : decode cL_law 961 = .ok (.laload, 1) := by decide +kernel
theorem dL_law_962 : decode cL_law 962 = .ok (.lcmp, 1) := by decide +kernel
theorem dL_law_963 : decode cL_law 963 = .ok (.ifCond .gt 7, 3) := by decide +kernel
theorem dL_law_966 : decode cL_law 966 = .ok (.iconst 1, 1) := by decide +kernel
theorem dL_law_967 : decode cL_law 967 = .ok (.goto 4, 3) := by decide +kernel
theorem dL_law_970 : decode cL_law 970 = .ok (.iconst 0, 1) := by decide +kernel
theorem dL_law_971 : decode cL_law 971 = .ok (.istore 24, 2) := by decide +kernel
theorem dL_law_973 : decode cL_law 973 = .ok (.iload 24, 2) := by decide +kernel
theorem dL_law_975 : decode cL_law 975 = .ok (.ifCond .eq 38, 3) := by decide +kernel
theorem dL_law_978 : decode cL_law 978 = .ok (.aload_n 2, 1) := by decide +kernel
theorem dL_law_979 : decode cL_law 979 = .ok (.aload_n 3, 1) := by decide +kernel
theorem dL_law_980 : decode cL_law 980 = .ok (.aload 4, 2) := by decide +kernel
theorem dL_law_982 : decode cL_law 982 = .ok (.aload 6, 2) := by decide +kernel
theorem dL_law_984 : decode cL_law 984 = .ok (.aload 7, 2) := by decide +kernel
theorem dL_law_986 : decode cL_law 986 = .ok (.aload 8, 2) := by decide +kernel
theorem dL_law_988 : decode cL_law 988 = .ok (.aload 12, 2) := by decide +kernel
theorem dL_law_990 : decode cL_law 990 = .ok (.iload 18, 2) := by decide +kernel
theorem dL_law_992 : decode cL_law 992 = .ok (.iload 19, 2) := by decide +kernel
theorem dL_law_994 : decode cL_law 994 = .ok (.iload 23, 2) := by decide +kernel
theorem dL_law_996 : decode cL_law 996 = .ok (.i2l, 1) := by decide +kernel
theorem dL_law_997 : decode cL_law 997 = .ok (.ldc2_w 81, 3) := by decide +kernel
theorem dL_law_1000 : decode cL_law 1000 = .ok (.lmul, 1) := by decide +kernel
theorem dL_law_1001 : decode cL_law 1001 = .ok (.aload_n 2, 1) := by decide +kernel
theorem dL_law_1002 : decode cL_law 1002 = .ok (.iload 22, 2) := by decide +kernel
theorem dL_law_1004 : decode cL_law 1004 = .ok (.iaload, 1) := by decide +kernel
theorem dL_law_1005 : decode cL_law 1005 = .ok (.i2l, 1) := by decide +kernel
theorem dL_law_1006 : decode cL_law 1006 = .ok (.ldiv, 1) := by decide +kernel
theorem dL_law_1007 : decode cL_law 1007 = .ok (.iload 23, 2) := by decide +kernel
theorem dL_law_1009 : decode cL_law 1009 = .ok (.i2l, 1) := by decide +kernel
theorem dL_law_1010 : decode cL_law 1010 = .ok (.invokestatic 102, 3) := by decide +kernel
theorem dL_law_1013 : decode cL_law 1013 = .ok (.aload_n 1, 1) := by decide +kernel
theorem dL_law_1014 : decode cL_law 1014 = .ok (.iconst 4, 1) := by decide +kernel
theorem dL_law_1015 : decode cL_law 1015 = .ok (.iload 18, 2) := by decide +kernel
theorem dL_law_1017 : decode cL_law 1017 = .ok (.iload 19, 2) := by decide +kernel
theorem dL_law_1019 : decode cL_law 1019 = .ok (.iload 23, 2) := by decide +kernel
theorem dL_law_1021 : decode cL_law 1021 = .ok (.invokestatic 122, 3) := by decide +kernel
theorem dL_law_1024 : decode cL_law 1024 = .ok (.iload 21, 2) := by decide +kernel
theorem dL_law_1026 : decode cL_law 1026 = .ok (.ifCond .ne 9, 3) := by decide +kernel
theorem dL_law_1029 : decode cL_law 1029 = .ok (.ldc2_w 59, 3) := by decide +kernel
theorem dL_law_1032 : decode cL_law 1032 = .ok (.goto 21, 3) := by decide +kernel
theorem dL_law_1035 : decode cL_law 1035 = .ok (.iload 24, 2) := by decide +kernel
theorem dL_law_1037 : decode cL_law 1037 = .ok (.ifCond .eq 13, 3) := by decide +kernel
theorem dL_law_1040 : decode cL_law 1040 = .ok (.aload 12, 2) := by decide +kernel
theorem dL_law_1042 : decode cL_law 1042 = .ok (.iconst 2, 1) := by decide +kernel
theorem dL_law_1043 : decode cL_law 1043 = .ok (.iaload, 1) := by decide +kernel
theorem dL_law_1044 : decode cL_law 1044 = .ok (.iconst 1, 1) := by decide +kernel
theorem dL_law_1045 : decode cL_law 1045 = .ok (.isub, 1) := by decide +kernel
theorem dL_law_1046 : decode cL_law 1046 = .ok (.i2l, 1) := by decide +kernel
theorem dL_law_1047 : decode cL_law 1047 = .ok (.goto 6, 3) := by decide +kernel
theorem dL_law_1050 : decode cL_law 1050 = .ok (.ldc2_w 67, 3) := by decide +kernel
theorem dL_law_1053 : decode cL_law 1053 = .ok (.lcmp, 1) := by decide +kernel
theorem dL_law_1054 : decode cL_law 1054 = .ok (.ifCond .ne 7, 3) := by decide +kernel
theorem dL_law_1057 : decode cL_law 1057 = .ok (.iconst 1, 1) := by decide +kernel
theorem dL_law_1058 : decode cL_law 1058 = .ok (.goto 4, 3) := by decide +kernel
theorem dL_law_1061 : decode cL_law 1061 = .ok (.iconst 0, 1) := by decide +kernel
theorem dL_law_1062 : decode cL_law 1062 = .ok (.istore 13, 2) := by decide +kernel
theorem dL_law_1064 : decode cL_law 1064 = .ok (.goto 1082, 3) := by decide +kernel
theorem dL_law_1067 : decode cL_law 1067 = .ok (.iload 15, 2) := by decide +kernel
theorem dL_law_1069 : decode cL_law 1069 = .ok (.bipush 20, 2) := by decide +kernel
theorem dL_law_1071 : decode cL_law 1071 = .ok (.if_icmp .ge 227, 3) := by decide +kernel
theorem dL_law_1074 : decode cL_law 1074 = .ok (.aload 12, 2) := by decide +kernel
theorem dL_law_1076 : decode cL_law 1076 = .ok (.iconst 2, 1) := by decide +kernel
theorem dL_law_1077 : decode cL_law 1077 = .ok (.iaload, 1) := by decide +kernel
theorem dL_law_1078 : decode cL_law 1078 = .ok (.bipush 18, 2) := by decide +kernel
theorem dL_law_1080 : decode cL_law 1080 = .ok (.if_icmp .ge 218, 3) := by decide +kernel
theorem dL_law_1083 : decode cL_law 1083 = .ok (.iload 21, 2) := by decide +kernel
theorem dL_law_1085 : decode cL_law 1085 = .ok (.ifCond .eq 17, 3) := by decide +kernel
theorem dL_law_1088 : decode cL_law 1088 = .ok (.aload 4, 2) := by decide +kernel
theorem dL_law_1090 : decode cL_law 1090 = .ok (.bipush 6, 2) := by decide +kernel
theorem dL_law_1092 : decode cL_law 1092 = .ok (.iload 18, 2) := by decide +kernel
theorem dL_law_1094 : decode cL_law 1094 = .ok (.imul, 1) := by decide +kernel
theorem dL_law_1095 : decode cL_law 1095 = .ok (.iload 19, 2) := by decide +kernel
theorem dL_law_1097 : decode cL_law 1097 = .ok (.iadd, 1) := by decide +kernel
theorem dL_law_1098 : decode cL_law 1098 = .ok (.laload, 1) := by decide +kernel
theorem dL_law_1099 : decode cL_law 1099 = .ok (.goto 4, 3) := by decide +kernel
theorem dL_law_1102 : decode cL_law 1102 = .ok (.lconst 0, 1) := by decide +kernel
theorem dL_law_1103 : decode cL_law 1103 = .ok (.lstore 23, 2) := by decide +kernel
theorem dL_law_1105 : decode cL_law 1105 = .ok (.iload 17, 2) := by decide +kernel
theorem dL_law_1107 : decode cL_law 1107 = .ok (.bipush 7, 2) := by decide +kernel
theorem dL_law_1109 : decode cL_law 1109 = .ok (.idiv, 1) := by decide +kernel
theorem dL_law_1110 : decode cL_law 1110 = .ok (.iconst 3, 1) := by decide +kernel
theorem dL_law_1111 : decode cL_law 1111 = .ok (.irem, 1) := by decide +kernel
theorem dL_law_1112 : decode cL_law 1112 = .ok (.ifCond .ne 10, 3) := by decide +kernel
theorem dL_law_1115 : decode cL_law 1115 = .ok (.iconst 1, 1) := by decide +kernel
theorem dL_law_1116 : decode cL_law 1116 = .ok (.iload 17, 2) := by decide +kernel
theorem dL_law_1118 : decode cL_law 1118 = .ok (.iadd, 1) := by decide +kernel
theorem dL_law_1119 : decode cL_law 1119 = .ok (.goto 41, 3) := by decide +kernel
theorem dL_law_1122 : decode cL_law 1122 = .ok (.lload 23, 2) := by decide +kernel
theorem dL_law_1124 : decode cL_law 1124 = .ok (.lconst 0, 1) := by decide +kernel
theorem dL_law_1125 : decode cL_law 1125 = .ok (.lcmp, 1) := by decide +kernel
theorem dL_law_1126 : decode cL_law 1126 = .ok (.ifCond .le 32, 3) := by decide +kernel
theorem dL_law_1129 : decode cL_law 1129 = .ok (.lload 23, 2) := by decide +kernel
theorem dL_law_1131 : decode cL_law 1131 = .ok (.ldc2_w 133, 3) := by decide +kernel
theorem dL_law_1134 : decode cL_law 1134 = .ok (.lcmp, 1) := by decide +kernel
theorem dL_law_1135 : decode cL_law 1135 = .ok (.ifCond .ge 23, 3) := by decide +kernel
theorem dL_law_1138 : decode cL_law 1138 = .ok (.iconst 1, 1) := by decide +kernel
theorem dL_law_1139 : decode cL_law 1139 = .ok (.iload 17, 2) := by decide +kernel
theorem dL_law_1141 : decode cL_law 1141 = .ok (.i2l, 1) := by decide +kernel
theorem dL_law_1142 : decode cL_law 1142 = .ok (.ldc2_w 135, 3) := by decide +kernel
theorem dL_law_1145 : decode cL_law 1145 = .ok (.lmul, 1) := by decide +kernel
theorem dL_law_1146 : decode cL_law 1146 = .ok (.iload 16, 2) := by decide +kernel
theorem dL_law_1148 : decode cL_law 1148 = .ok (.i2l, 1) := by decide +kernel
theorem dL_law_1149 : decode cL_law 1149 = .ok (.ladd, 1) := by decide +kernel
theorem dL_law_1150 : decode cL_law 1150 = .ok (.lload 23, 2) := by decide +kernel
theorem dL_law_1152 : decode cL_law 1152 = .ok (.lrem, 1) := by decide +kernel
theorem dL_law_1153 : decode cL_law 1153 = .ok (.l2i, 1) := by decide +kernel
theorem dL_law_1154 : decode cL_law 1154 = .ok (.iadd, 1) := by decide +kernel
theorem dL_law_1155 : decode cL_law 1155 = .ok (.goto 5, 3) := by decide +kernel
theorem dL_law_1158 : decode cL_law 1158 = .ok (.ldc 137, 2) := by decide +kernel
theorem dL_law_1160 : decode cL_law 1160 = .ok (.istore 25, 2) := by decide +kernel
theorem dL_law_1162 : decode cL_law 1162 = .ok (.iload 25, 2) := by decide +kernel
theorem dL_law_1164 : decode cL_law 1164 = .ok (.i2l, 1) := by decide +kernel
theorem dL_law_1165 : decode cL_law 1165 = .ok (.aload_n 2, 1) := by decide +kernel
theorem dL_law_1166 : decode cL_law 1166 = .ok (.iload 22, 2) := by decide +kernel
theorem dL_law_1168 : decode cL_law 1168 = .ok (.iaload, 1) := by decide +kernel
theorem dL_law_1169 : decode cL_law 1169 = .ok (.i2l, 1) := by decide +kernel
theorem dL_law_1170 : decode cL_law 1170 = .ok (.lmul, 1) := by decide +kernel
theorem dL_law_1171 : decode cL_law 1171 = .ok (.ldc2_w 81, 3) := by decide +kernel
theorem dL_law_1174 : decode cL_law 1174 = .ok (.ldiv, 1) := by decide +kernel
theorem dL_law_1175 : decode cL_law 1175 = .ok (.lstore 26, 2) := by decide +kernel
theorem dL_law_1177 : decode cL_law 1177 = .ok (.iload 21, 2) := by decide +kernel
theorem dL_law_1179 : decode cL_law 1179 = .ok (.ifCond .eq 32, 3) := by decide +kernel
theorem dL_law_1182 : decode cL_law 1182 = .ok (.lload 23, 2) := by decide +kernel
theorem dL_law_1184 : decode cL_law 1184 = .ok (.iload 25, 2) := by decide +kernel
theorem dL_law_1186 : decode cL_law 1186 = .ok (.i2l, 1) := by decide +kernel
theorem dL_law_1187 : decode cL_law 1187 = .ok (.lcmp, 1) := by decide +kernel
theorem dL_law_1188 : decode cL_law 1188 = .ok (.ifCond .lt 23, 3) := by decide +kernel
theorem dL_law_1191 : decode cL_law 1191 = .ok (.lload 26, 2) := by decide +kernel
theorem dL_law_1193 : decode cL_law 1193 = .ok (.lconst 0, 1) := by decide +kernel
theorem dL_law_1194 : decode cL_law 1194 = .ok (.lcmp, 1) := by decide +kernel
theorem dL_law_1195 : decode cL_law 1195 = .ok (.ifCond .le 16, 3) := by decide +kernel
theorem dL_law_1198 : decode cL_law 1198 = .ok (.lload 26, 2) := by decide +kernel
theorem dL_law_1200 : decode cL_law 1200 = .ok (.ldc2_w 133, 3) := by decide +kernel
theorem dL_law_1203 : decode cL_law 1203 = .ok (.lcmp, 1) := by decide +kernel
theorem dL_law_1204 : decode cL_law 1204 = .ok (.ifCond .gt 7, 3) := by decide +kernel
theorem dL_law_1207 : decode cL_law 1207 = .ok (.iconst 1, 1) := by decide +kernel
theorem dL_law_1208 : decode cL_law 1208 = .ok (.goto 4, 3) := by decide +kernel
theorem dL_law_1211 : decode cL_law 1211 = .ok (.iconst 0, 1) := by decide +kernel
theorem dL_law_1212 : decode cL_law 1212 = .ok (.istore 28, 2) := by decide +kernel
theorem dL_law_1214 : decode cL_law 1214 = .ok (.iload 28, 2) := by decide +kernel
theorem dL_law_1216 : decode cL_law 1216 = .ok (.ifCond .eq 28, 3) := by decide +kernel
theorem dL_law_1219 : decode cL_law 1219 = .ok (.aload_n 2, 1) := by decide +kernel
theorem dL_law_1220 : decode cL_law 1220 = .ok (.aload_n 3, 1) := by decide +kernel
theorem dL_law_1221 : decode cL_law 1221 = .ok (.aload 4, 2) := by decide +kernel
theorem dL_law_1223 : decode cL_law 1223 = .ok (.aload 6, 2) := by decide +kernel
theorem dL_law_1225 : decode cL_law 1225 = .ok (.aload 7, 2) := by decide +kernel
theorem dL_law_1227 : decode cL_law 1227 = .ok (.aload 8, 2) := by decide +kernel
theorem dL_law_1229 : decode cL_law 1229 = .ok (.aload 12, 2) := by decide +kernel
theorem dL_law_1231 : decode cL_law 1231 = .ok (.iload 18, 2) := by decide +kernel
theorem dL_law_1233 : decode cL_law 1233 = .ok (.iload 19, 2) := by decide +kernel
theorem dL_law_1235 : decode cL_law 1235 = .ok (.iload 25, 2) := by decide +kernel
theorem dL_law_1237 : decode cL_law 1237 = .ok (.ineg, 1) := by decide +kernel
theorem dL_law_1238 : decode cL_law 1238 = .ok (.i2l, 1) := by decide +kernel
theorem dL_law_1239 : decode cL_law 1239 = .ok (.lload 26, 2) := by decide +kernel
theorem dL_law_1241 : decode cL_law 1241 = .ok (.invokestatic 102, 3) := by decide +kernel
theorem dL_law_1244 : decode cL_law 1244 = .ok (.aload_n 1, 1) := by decide +kernel
theorem dL_law_1245 : decode cL_law 1245 = .ok (.iconst 5, 1) := by decide +kernel
theorem dL_law_1246 : decode cL_law 1246 = .ok (.iload 18, 2) := by decide +kernel
theorem dL_law_1248 : decode cL_law 1248 = .ok (.iload 19, 2) := by decide +kernel
theorem dL_law_1250 : decode cL_law 1250 = .ok (.iload 25, 2) := by decide +kernel
theorem dL_law_1252 : decode cL_law 1252 = .ok (.invokestatic 122, 3) := by decide +kernel
theorem dL_law_1255 : decode cL_law 1255 = .ok (.iload 21, 2) := by decide +kernel
theorem dL_law_1257 : decode cL_law 1257 = .ok (.ifCond .ne 9, 3) := by decide +kernel
theorem dL_law_1260 : decode cL_law 1260 = .ok (.ldc2_w 59, 3) := by decide +kernel
theorem dL_law_1263 : decode cL_law 1263 = .ok (.goto 21, 3) := by decide +kernel
theorem dL_law_1266 : decode cL_law 1266 = .ok (.iload 28, 2) := by decide +kernel
theorem dL_law_1268 : decode cL_law 1268 = .ok (.ifCond .eq 13, 3) := by decide +kernel
theorem dL_law_1271 : decode cL_law 1271 = .ok (.aload 12, 2) := by decide +kernel
theorem dL_law_1273 : decode cL_law 1273 = .ok (.iconst 2, 1) := by decide +kernel
theorem dL_law_1274 : decode cL_law 1274 = .ok (.iaload, 1) := by decide +kernel
theorem dL_law_1275 : decode cL_law 1275 = .ok (.iconst 1, 1) := by decide +kernel
theorem dL_law_1276 : decode cL_law 1276 = .ok (.isub, 1) := by decide +kernel
theorem dL_law_1277 : decode cL_law 1277 = .ok (.i2l, 1) := by decide +kernel
theorem dL_law_1278 : decode cL_law 1278 = .ok (.goto 6, 3) := by decide +kernel
theorem dL_law_1281 : decode cL_law 1281 = .ok (.ldc2_w 67, 3) := by decide +kernel
theorem dL_law_1284 : decode cL_law 1284 = .ok (.lcmp, 1) := by decide +kernel
theorem dL_law_1285 : decode cL_law 1285 = .ok (.ifCond .ne 7, 3) := by decide +kernel
theorem dL_law_1288 : decode cL_law 1288 = .ok (.iconst 1, 1) := by decide +kernel
theorem dL_law_1289 : decode cL_law 1289 = .ok (.goto 4, 3) := by decide +kernel
theorem dL_law_1292 : decode cL_law 1292 = .ok (.iconst 0, 1) := by decide +kernel
theorem dL_law_1293 : decode cL_law 1293 = .ok (.istore 13, 2) := by decide +kernel
theorem dL_law_1295 : decode cL_law 1295 = .ok (.goto 851, 3) := by decide +kernel
theorem dL_law_1298 : decode cL_law 1298 = .ok (.iload 15, 2) := by decide +kernel
theorem dL_law_1300 : decode cL_law 1300 = .ok (.bipush 23, 2) := by decide +kernel
theorem dL_law_1302 : decode cL_law 1302 = .ok (.if_icmp .ge 130, 3) := by decide +kernel
theorem dL_law_1305 : decode cL_law 1305 = .ok (.aload 12, 2) := by decide +kernel
theorem dL_law_1307 : decode cL_law 1307 = .ok (.iconst 2, 1) := by decide +kernel
theorem dL_law_1308 : decode cL_law 1308 = .ok (.iaload, 1) := by decide +kernel
theorem dL_law_1309 : decode cL_law 1309 = .ok (.bipush 18, 2) := by decide +kernel
theorem dL_law_1311 : decode cL_law 1311 = .ok (.if_icmp .ge 121, 3) := by decide +kernel
theorem dL_law_1314 : decode cL_law 1314 = .ok (.iload 20, 2) := by decide +kernel
theorem dL_law_1316 : decode cL_law 1316 = .ok (.ifCond .eq 15, 3) := by decide +kernel
theorem dL_law_1319 : decode cL_law 1319 = .ok (.aload_n 2, 1) := by decide +kernel
theorem dL_law_1320 : decode cL_law 1320 = .ok (.aload_n 3, 1) := by decide +kernel
theorem dL_law_1321 : decode cL_law 1321 = .ok (.aload 4, 2) := by decide +kernel
theorem dL_law_1323 : decode cL_law 1323 = .ok (.iload 18, 2) := by decide +kernel
theorem dL_law_1325 : decode cL_law 1325 = .ok (.invokestatic 98, 3) := by decide +kernel
theorem dL_law_1328 : decode cL_law 1328 = .ok (.goto 4, 3) := by decide +kernel
theorem dL_law_1331 : decode cL_law 1331 = .ok (.lconst 0, 1) := by decide +kernel
theorem dL_law_1332 : decode cL_law 1332 = .ok (.lstore 23, 2) := by decide +kernel
theorem dL_law_1334 : decode cL_law 1334 = .ok (.iload 20, 2) := by decide +kernel
theorem dL_law_1336 : decode cL_law 1336 = .ok (.ifCond .eq 23, 3) := by decide +kernel
theorem dL_law_1339 : decode cL_law 1339 = .ok (.lload 23, 2) := by decide +kernel
theorem dL_law_1341 : decode cL_law 1341 = .ok (.lconst 0, 1) := by decide +kernel
theorem dL_law_1342 : decode cL_law 1342 = .ok (.lcmp, 1) := by decide +kernel
theorem dL_law_1343 : decode cL_law 1343 = .ok (.ifCond .lt 16, 3) := by decide +kernel
theorem dL_law_1346 : decode cL_law 1346 = .ok (.lload 23, 2) := by decide +kernel
theorem dL_law_1348 : decode cL_law 1348 = .ok (.ldc2_w 138, 3) := by decide +kernel
theorem dL_law_1351 : decode cL_law 1351 = .ok (.lcmp, 1) := by decide +kernel
theorem dL_law_1352 : decode cL_law 1352 = .ok (.ifCond .gt 7, 3) := by decide +kernel
theorem dL_law_1355 : decode cL_law 1355 = .ok (.iconst 1, 1) := by decide +kernel
theorem dL_law_1356 : decode cL_law 1356 = .ok (.goto 4, 3) := by decide +kernel
theorem dL_law_1359 : decode cL_law 1359 = .ok (.iconst 0, 1) := by decide +kernel
theorem dL_law_1360 : decode cL_law 1360 = .ok (.istore 25, 2) := by decide +kernel
theorem dL_law_1362 : decode cL_law 1362 = .ok (.aload_n 1, 1) := by decide +kernel
theorem dL_law_1363 : decode cL_law 1363 = .ok (.bipush 6, 2) := by decide +kernel
theorem dL_law_1365 : decode cL_law 1365 = .ok (.iload 18, 2) := by decide +kernel
theorem dL_law_1367 : decode cL_law 1367 = .ok (.iconst 0, 1) := by decide +kernel
theorem dL_law_1368 : decode cL_law 1368 = .ok (.iconst 0, 1) := by decide +kernel
theorem dL_law_1369 : decode cL_law 1369 = .ok (.invokestatic 122, 3) := by decide +kernel
theorem dL_law_1372 : decode cL_law 1372 = .ok (.lstore 26, 2) := by decide +kernel
theorem dL_law_1374 : decode cL_law 1374 = .ok (.lload 26, 2) := by decide +kernel
theorem dL_law_1376 : decode cL_law 1376 = .ok (.iload 20, 2) := by decide +kernel
theorem dL_law_1378 : decode cL_law 1378 = .ok (.ifCond .ne 9, 3) := by decide +kernel
theorem dL_law_1381 : decode cL_law 1381 = .ok (.ldc2_w 59, 3) := by decide +kernel
theorem dL_law_1384 : decode cL_law 1384 = .ok (.goto 34, 3) := by decide +kernel
theorem dL_law_1387 : decode cL_law 1387 = .ok (.iload 25, 2) := by decide +kernel
theorem dL_law_1389 : decode cL_law 1389 = .ok (.ifCond .eq 26, 3) := by decide +kernel
theorem dL_law_1392 : decode cL_law 1392 = .ok (.aload_n 2, 1) := by decide +kernel
theorem dL_law_1393 : decode cL_law 1393 = .ok (.aload_n 3, 1) := by decide +kernel
theorem dL_law_1394 : decode cL_law 1394 = .ok (.aload 4, 2) := by decide +kernel
theorem dL_law_1396 : decode cL_law 1396 = .ok (.aload 5, 2) := by decide +kernel
theorem dL_law_1398 : decode cL_law 1398 = .ok (.aload 6, 2) := by decide +kernel
theorem dL_law_1400 : decode cL_law 1400 = .ok (.aload 7, 2) := by decide +kernel
theorem dL_law_1402 : decode cL_law 1402 = .ok (.aload 8, 2) := by decide +kernel
theorem dL_law_1404 : decode cL_law 1404 = .ok (.aload 12, 2) := by decide +kernel
theorem dL_law_1406 : decode cL_law 1406 = .ok (.iload 18, 2) := by decide +kernel
theorem dL_law_1408 : decode cL_law 1408 = .ok (.invokestatic 140, 3) := by decide +kernel
theorem dL_law_1411 : decode cL_law 1411 = .ok (.i2l, 1) := by decide +kernel
theorem dL_law_1412 : decode cL_law 1412 = .ok (.goto 6, 3) := by decide +kernel
theorem dL_law_1415 : decode cL_law 1415 = .ok (.ldc2_w 67, 3) := by decide +kernel
theorem dL_law_1418 : decode cL_law 1418 = .ok (.lcmp, 1) := by decide +kernel
theorem dL_law_1419 : decode cL_law 1419 = .ok (.ifCond .ne 7, 3) := by decide +kernel
theorem dL_law_1422 : decode cL_law 1422 = .ok (.iconst 1, 1) := by decide +kernel
theorem dL_law_1423 : decode cL_law 1423 = .ok (.goto 4, 3) := by decide +kernel
theorem dL_law_1426 : decode cL_law 1426 = .ok (.iconst 0, 1) := by decide +kernel
theorem dL_law_1427 : decode cL_law 1427 = .ok (.istore 13, 2) := by decide +kernel
theorem dL_law_1429 : decode cL_law 1429 = .ok (.goto 717, 3) := by decide +kernel
theorem dL_law_1432 : decode cL_law 1432 = .ok (.iload 15, 2) := by decide +kernel
theorem dL_law_1434 : decode cL_law 1434 = .ok (.bipush 26, 2) := by decide +kernel
theorem dL_law_1436 : decode cL_law 1436 = .ok (.if_icmp .ge 387, 3) := by decide +kernel
theorem dL_law_1439 : decode cL_law 1439 = .ok (.iload 16, 2) := by decide +kernel
theorem dL_law_1441 : decode cL_law 1441 = .ok (.aload 12, 2) := by decide +kernel
theorem dL_law_1443 : decode cL_law 1443 = .ok (.iconst 2, 1) := by decide +kernel
theorem dL_law_1444 : decode cL_law 1444 = .ok (.iaload, 1) := by decide +kernel
theorem dL_law_1445 : decode cL_law 1445 = .ok (.iconst 1, 1) := by decide +kernel
theorem dL_law_1446 : decode cL_law 1446 = .ok (.iadd, 1) := by decide +kernel
theorem dL_law_1447 : decode cL_law 1447 = .ok (.irem, 1) := by decide +kernel
theorem dL_law_1448 : decode cL_law 1448 = .ok (.istore 23, 2) := by decide +kernel
theorem dL_law_1450 : decode cL_law 1450 = .ok (.iload 23, 2) := by decide +kernel
theorem dL_law_1452 : decode cL_law 1452 = .ok (.aload 12, 2) := by decide +kernel
theorem dL_law_1454 : decode cL_law 1454 = .ok (.iconst 2, 1) := by decide +kernel
theorem dL_law_1455 : decode cL_law 1455 = .ok (.iaload, 1) := by decide +kernel
theorem dL_law_1456 : decode cL_law 1456 = .ok (.if_icmp .ge 30, 3) := by decide +kernel
theorem dL_law_1459 : decode cL_law 1459 = .ok (.aload 6, 2) := by decide +kernel
theorem dL_law_1461 : decode cL_law 1461 = .ok (.iload 23, 2) := by decide +kernel
theorem dL_law_1463 : decode cL_law 1463 = .ok (.aload 12, 2) := by decide +kernel
theorem dL_law_1465 : decode cL_law 1465 = .ok (.iconst 2, 1) := by decide +kernel
theorem dL_law_1466 : decode cL_law 1466 = .ok (.iaload, 1) := by decide +kernel
theorem dL_law_1467 : decode cL_law 1467 = .ok (.if_icmp .ge 8, 3) := by decide +kernel
theorem dL_law_1470 : decode cL_law 1470 = .ok (.iload 23, 2) := by decide +kernel
theorem dL_law_1472 : decode cL_law 1472 = .ok (.goto 4, 3) := by decide +kernel
theorem dL_law_1475 : decode cL_law 1475 = .ok (.iconst 0, 1) := by decide +kernel
theorem dL_law_1476 : decode cL_law 1476 = .ok (.iaload, 1) := by decide +kernel
theorem dL_law_1477 : decode cL_law 1477 = .ok (.ldc 93, 2) := by decide +kernel
theorem dL_law_1479 : decode cL_law 1479 = .ok (.if_icmp .ge 7, 3) := by decide +kernel
theorem dL_law_1482 : decode cL_law 1482 = .ok (.iconst 1, 1) := by decide +kernel
theorem dL_law_1483 : decode cL_law 1483 = .ok (.goto 4, 3) := by decide +kernel
theorem dL_law_1486 : decode cL_law 1486 = .ok (.iconst 0, 1) := by decide +kernel
theorem dL_law_1487 : decode cL_law 1487 = .ok (.istore 24, 2) := by decide +kernel
theorem dL_law_1489 : decode cL_law 1489 = .ok (.iload 24, 2) := by decide +kernel
theorem dL_law_1491 : decode cL_law 1491 = .ok (.ifCond .eq 13, 3) := by decide +kernel
theorem dL_law_1494 : decode cL_law 1494 = .ok (.aload 6, 2) := by decide +kernel
theorem dL_law_1496 : decode cL_law 1496 = .ok (.iload 23, 2) := by decide +kernel
theorem dL_law_1498 : decode cL_law 1498 = .ok (.iaload, 1) := by decide +kernel
theorem dL_law_1499 : decode cL_law 1499 = .ok (.iconst 4, 1) := by decide +kernel
theorem dL_law_1500 : decode cL_law 1500 = .ok (.irem, 1) := by decide +kernel
theorem dL_law_1501 : decode cL_law 1501 = .ok (.goto 4, 3) := by decide +kernel
theorem dL_law_1504 : decode cL_law 1504 = .ok (.iconst 0, 1) := by decide +kernel
theorem dL_law_1505 : decode cL_law 1505 = .ok (.istore 25, 2) := by decide +kernel
theorem dL_law_1507 : decode cL_law 1507 = .ok (.lconst 0, 1) := by decide +kernel
theorem dL_law_1508 : decode cL_law 1508 = .ok (.lstore 26, 2) := by decide +kernel
theorem dL_law_1510 : decode cL_law 1510 = .ok (.iload 24, 2) := by decide +kernel
theorem dL_law_1512 : decode cL_law 1512 = .ok (.istore 28, 2) := by decide +kernel
theorem dL_law_1514 : decode cL_law 1514 = .ok (.iload 24, 2) := by decide +kernel
theorem dL_law_1516 : decode cL_law 1516 = .ok (.ifCond .eq 255, 3) := by decide +kernel
theorem dL_law_1519 : decode cL_law 1519 = .ok (.aload 6, 2) := by decide +kernel
theorem dL_law_1521 : decode cL_law 1521 = .ok (.iload 23, 2) := by decide +kernel
theorem dL_law_1523 : decode cL_law 1523 = .ok (.iaload, 1) := by decide +kernel
theorem dL_law_1524 : decode cL_law 1524 = .ok (.iconst 4, 1) := by decide +kernel
theorem dL_law_1525 : decode cL_law 1525 = .ok (.idiv, 1) := by decide +kernel
theorem dL_law_1526 : decode cL_law 1526 = .ok (.bipush 8, 2) := by decide +kernel
theorem dL_law_1528 : decode cL_law 1528 = .ok (.irem, 1) := by decide +kernel
theorem dL_law_1529 : decode cL_law 1529 = .ok (.istore 29, 2) := by decide +kernel
theorem dL_law_1531 : decode cL_law 1531 = .ok (.aload 6, 2) := by decide +kernel
theorem dL_law_1533 : decode cL_law 1533 = .ok (.iload 23, 2) := by decide +kernel
theorem dL_law_1535 : decode cL_law 1535 = .ok (.dup2, 1) := by decide +kernel
end
section
theorem dL_law_1536 : decode cL_law 1536 = .ok (.iaload, 1) := by decide +kernel
theorem dL_law_1537 : decode cL_law 1537 = .ok (.ldc 93, 2) := by decide +kernel
theorem dL_law_1539 : decode cL_law 1539 = .ok (.iadd, 1) := by decide +kernel
theorem dL_law_1540 : decode cL_law 1540 = .ok (.iastore, 1) := by decide +kernel
theorem dL_law_1541 : decode cL_law 1541 = .ok (.aload 6, 2) := by decide +kernel
theorem dL_law_1543 : decode cL_law 1543 = .ok (.aload 7, 2) := by decide +kernel
theorem dL_law_1545 : decode cL_law 1545 = .ok (.aload 8, 2) := by decide +kernel
theorem dL_law_1547 : decode cL_law 1547 = .ok (.aload 12, 2) := by decide +kernel
theorem dL_law_1549 : decode cL_law 1549 = .ok (.aload 10, 2) := by decide +kernel
theorem dL_law_1551 : decode cL_law 1551 = .ok (.aload 11, 2) := by decide +kernel
theorem dL_law_1553 : decode cL_law 1553 = .ok (.iload 25, 2) := by decide +kernel
theorem dL_law_1555 : decode cL_law 1555 = .ok (.iload 29, 2) := by decide +kernel
theorem dL_law_1557 : decode cL_law 1557 = .ok (.invokestatic 94, 3) := by decide +kernel
theorem dL_law_1560 : decode cL_law 1560 = .ok (.istore 28, 2) := by decide +kernel
theorem dL_law_1562 : decode cL_law 1562 = .ok (.aload 6, 2) := by decide +kernel
theorem dL_law_1564 : decode cL_law 1564 = .ok (.iload 23, 2) := by decide +kernel
theorem dL_law_1566 : decode cL_law 1566 = .ok (.dup2, 1) := by decide +kernel
theorem dL_law_1567 : decode cL_law 1567 = .ok (.iaload, 1) := by decide +kernel
theorem dL_law_1568 : decode cL_law 1568 = .ok (.iload 28, 2) := by decide +kernel
theorem dL_law_1570 : decode cL_law 1570 = .ok (.ifCond .eq 7, 3) := by decide +kernel
theorem dL_law_1573 : decode cL_law 1573 = .ok (.iconst 0, 1) := by decide +kernel
theorem dL_law_1574 : decode cL_law 1574 = .ok (.goto 5, 3) := by decide +kernel
theorem dL_law_1577 : decode cL_law 1577 = .ok (.ldc 93, 2) := by decide +kernel
theorem dL_law_1579 : decode cL_law 1579 = .ok (.isub, 1) := by decide +kernel
theorem dL_law_1580 : decode cL_law 1580 = .ok (.iastore, 1) := by decide +kernel
theorem dL_law_1581 : decode cL_law 1581 = .ok (.iload 28, 2) := by decide +kernel
theorem dL_law_1583 : decode cL_law 1583 = .ok (.ifCond .eq 188, 3) := by decide +kernel
theorem dL_law_1586 : decode cL_law 1586 = .ok (.aload 7, 2) := by decide +kernel
theorem dL_law_1588 : decode cL_law 1588 = .ok (.iload 23, 2) := by decide +kernel
theorem dL_law_1590 : decode cL_law 1590 = .ok (.laload, 1) := by decide +kernel
theorem dL_law_1591 : decode cL_law 1591 = .ok (.lconst 0, 1) := by decide +kernel
theorem dL_law_1592 : decode cL_law 1592 = .ok (.lcmp, 1) := by decide +kernel
theorem dL_law_1593 : decode cL_law 1593 = .ok (.ifCond .le 21, 3) := by decide +kernel
theorem dL_law_1596 : decode cL_law 1596 = .ok (.aload 8, 2) := by decide +kernel
theorem dL_law_1598 : decode cL_law 1598 = .ok (.iload 23, 2) := by decide +kernel
theorem dL_law_1600 : decode cL_law 1600 = .ok (.laload, 1) := by decide +kernel
theorem dL_law_1601 : decode cL_law 1601 = .ok (.lneg, 1) := by decide +kernel
theorem dL_law_1602 : decode cL_law 1602 = .ok (.aload 8, 2) := by decide +kernel
theorem dL_law_1604 : decode cL_law 1604 = .ok (.iload 23, 2) := by decide +kernel
theorem dL_law_1606 : decode cL_law 1606 = .ok (.laload, 1) := by decide +kernel
theorem dL_law_1607 : decode cL_law 1607 = .ok (.invokestatic 83, 3) := by decide +kernel
theorem dL_law_1610 : decode cL_law 1610 = .ok (.lsub, 1) := by decide +kernel
theorem dL_law_1611 : decode cL_law 1611 = .ok (.goto 17, 3) := by decide +kernel
theorem dL_law_1614 : decode cL_law 1614 = .ok (.aload 8, 2) := by decide +kernel
theorem dL_law_1616 : decode cL_law 1616 = .ok (.iload 23, 2) := by decide +kernel
theorem dL_law_1618 : decode cL_law 1618 = .ok (.laload, 1) := by decide +kernel
theorem dL_law_1619 : decode cL_law 1619 = .ok (.aload 8, 2) := by decide +kernel
theorem dL_law_1621 : decode cL_law 1621 = .ok (.iload 23, 2) := by decide +kernel
theorem dL_law_1623 : decode cL_law 1623 = .ok (.laload, 1) := by decide +kernel
theorem dL_law_1624 : decode cL_law 1624 = .ok (.invokestatic 83, 3) := by decide +kernel
theorem dL_law_1627 : decode cL_law 1627 = .ok (.lsub, 1) := by decide +kernel
theorem dL_law_1628 : decode cL_law 1628 = .ok (.lstore 30, 2) := by decide +kernel
theorem dL_law_1630 : decode cL_law 1630 = .ok (.aload_n 3, 1) := by decide +kernel
theorem dL_law_1631 : decode cL_law 1631 = .ok (.bipush 12, 2) := by decide +kernel
theorem dL_law_1633 : decode cL_law 1633 = .ok (.iload 25, 2) := by decide +kernel
theorem dL_law_1635 : decode cL_law 1635 = .ok (.iadd, 1) := by decide +kernel
theorem dL_law_1636 : decode cL_law 1636 = .ok (.dup2, 1) := by decide +kernel
theorem dL_law_1637 : decode cL_law 1637 = .ok (.laload, 1) := by decide +kernel
theorem dL_law_1638 : decode cL_law 1638 = .ok (.lload 30, 2) := by decide +kernel
theorem dL_law_1640 : decode cL_law 1640 = .ok (.lsub, 1) := by decide +kernel
theorem dL_law_1641 : decode cL_law 1641 = .ok (.lastore, 1) := by decide +kernel
theorem dL_law_1642 : decode cL_law 1642 = .ok (.aload_n 3, 1) := by decide +kernel
theorem dL_law_1643 : decode cL_law 1643 = .ok (.bipush 15, 2) := by decide +kernel
theorem dL_law_1645 : decode cL_law 1645 = .ok (.dup2, 1) := by decide +kernel
theorem dL_law_1646 : decode cL_law 1646 = .ok (.laload, 1) := by decide +kernel
theorem dL_law_1647 : decode cL_law 1647 = .ok (.lload 30, 2) := by decide +kernel
theorem dL_law_1649 : decode cL_law 1649 = .ok (.ladd, 1) := by decide +kernel
theorem dL_law_1650 : decode cL_law 1650 = .ok (.lastore, 1) := by decide +kernel
theorem dL_law_1651 : decode cL_law 1651 = .ok (.aload_n 2, 1) := by decide +kernel
theorem dL_law_1652 : decode cL_law 1652 = .ok (.aload_n 3, 1) := by decide +kernel
theorem dL_law_1653 : decode cL_law 1653 = .ok (.aload 4, 2) := by decide +kernel
theorem dL_law_1655 : decode cL_law 1655 = .ok (.iload 25, 2) := by decide +kernel
theorem dL_law_1657 : decode cL_law 1657 = .ok (.iload 29, 2) := by decide +kernel
theorem dL_law_1659 : decode cL_law 1659 = .ok (.aload 7, 2) := by decide +kernel
theorem dL_law_1661 : decode cL_law 1661 = .ok (.iload 23, 2) := by decide +kernel
theorem dL_law_1663 : decode cL_law 1663 = .ok (.laload, 1) := by decide +kernel
theorem dL_law_1664 : decode cL_law 1664 = .ok (.lneg, 1) := by decide +kernel
theorem dL_law_1665 : decode cL_law 1665 = .ok (.invokestatic 89, 3) := by decide +kernel
theorem dL_law_1668 : decode cL_law 1668 = .ok (.aload 6, 2) := by decide +kernel
theorem dL_law_1670 : decode cL_law 1670 = .ok (.aload 7, 2) := by decide +kernel
theorem dL_law_1672 : decode cL_law 1672 = .ok (.aload 8, 2) := by decide +kernel
theorem dL_law_1674 : decode cL_law 1674 = .ok (.aload 12, 2) := by decide +kernel
theorem dL_law_1676 : decode cL_law 1676 = .ok (.aload 10, 2) := by decide +kernel
theorem dL_law_1678 : decode cL_law 1678 = .ok (.aload 11, 2) := by decide +kernel
theorem dL_law_1680 : decode cL_law 1680 = .ok (.iload 25, 2) := by decide +kernel
theorem dL_law_1682 : decode cL_law 1682 = .ok (.invokestatic 114, 3) := by decide +kernel
theorem dL_law_1685 : decode cL_law 1685 = .ok (.iconst 0, 1) := by decide +kernel
theorem dL_law_1686 : decode cL_law 1686 = .ok (.istore 32, 2) := by decide +kernel
theorem dL_law_1688 : decode cL_law 1688 = .ok (.iload 32, 2) := by decide +kernel
theorem dL_law_1690 : decode cL_law 1690 = .ok (.aload 12, 2) := by decide +kernel
theorem dL_law_1692 : decode cL_law 1692 = .ok (.iconst 0, 1) := by decide +kernel
theorem dL_law_1693 : decode cL_law 1693 = .ok (.iaload, 1) := by decide +kernel
theorem dL_law_1694 : decode cL_law 1694 = .ok (.sipush 360, 3) := by decide +kernel
theorem dL_law_1697 : decode cL_law 1697 = .ok (.idiv, 1) := by decide +kernel
theorem dL_law_1698 : decode cL_law 1698 = .ok (.if_icmp .ge 61, 3) := by decide +kernel
theorem dL_law_1701 : decode cL_law 1701 = .ok (.lload 26, 2) := by decide +kernel
theorem dL_law_1703 : decode cL_law 1703 = .ok (.aload 9, 2) := by decide +kernel
theorem dL_law_1705 : decode cL_law 1705 = .ok (.bipush 21, 2) := by decide +kernel
theorem dL_law_1707 : decode cL_law 1707 = .ok (.iload 25, 2) := by decide +kernel
theorem dL_law_1709 : decode cL_law 1709 = .ok (.imul, 1) := by decide +kernel
theorem dL_law_1710 : decode cL_law 1710 = .ok (.iload 32, 2) := by decide +kernel
theorem dL_law_1712 : decode cL_law 1712 = .ok (.iadd, 1) := by decide +kernel
theorem dL_law_1713 : decode cL_law 1713 = .ok (.laload, 1) := by decide +kernel
theorem dL_law_1714 : decode cL_law 1714 = .ok (.aload 11, 2) := by decide +kernel
theorem dL_law_1716 : decode cL_law 1716 = .ok (.bipush 22, 2) := by decide +kernel
theorem dL_law_1718 : decode cL_law 1718 = .ok (.iload 32, 2) := by decide +kernel
theorem dL_law_1720 : decode cL_law 1720 = .ok (.iadd, 1) := by decide +kernel
theorem dL_law_1721 : decode cL_law 1721 = .ok (.laload, 1) := by decide +kernel
theorem dL_law_1722 : decode cL_law 1722 = .ok (.ldc2_w 118, 3) := by decide +kernel
theorem dL_law_1725 : decode cL_law 1725 = .ok (.ldiv, 1) := by decide +kernel
theorem dL_law_1726 : decode cL_law 1726 = .ok (.lsub, 1) := by decide +kernel
theorem dL_law_1727 : decode cL_law 1727 = .ok (.ladd, 1) := by decide +kernel
theorem dL_law_1728 : decode cL_law 1728 = .ok (.lstore 26, 2) := by decide +kernel
theorem dL_law_1730 : decode cL_law 1730 = .ok (.aload 9, 2) := by decide +kernel
theorem dL_law_1732 : decode cL_law 1732 = .ok (.bipush 21, 2) := by decide +kernel
theorem dL_law_1734 : decode cL_law 1734 = .ok (.iload 25, 2) := by decide +kernel
theorem dL_law_1736 : decode cL_law 1736 = .ok (.imul, 1) := by decide +kernel
theorem dL_law_1737 : decode cL_law 1737 = .ok (.iload 32, 2) := by decide +kernel
theorem dL_law_1739 : decode cL_law 1739 = .ok (.iadd, 1) := by decide +kernel
theorem dL_law_1740 : decode cL_law 1740 = .ok (.aload 11, 2) := by decide +kernel
theorem dL_law_1742 : decode cL_law 1742 = .ok (.bipush 22, 2) := by decide +kernel
theorem dL_law_1744 : decode cL_law 1744 = .ok (.iload 32, 2) := by decide +kernel
theorem dL_law_1746 : decode cL_law 1746 = .ok (.iadd, 1) := by decide +kernel
theorem dL_law_1747 : decode cL_law 1747 = .ok (.laload, 1) := by decide +kernel
theorem dL_law_1748 : decode cL_law 1748 = .ok (.ldc2_w 118, 3) := by decide +kernel
theorem dL_law_1751 : decode cL_law 1751 = .ok (.ldiv, 1) := by decide +kernel
theorem dL_law_1752 : decode cL_law 1752 = .ok (.lastore, 1) := by decide +kernel
theorem dL_law_1753 : decode cL_law 1753 = .ok (.iinc 32 1, 3) := by decide +kernel
theorem dL_law_1756 : decode cL_law 1756 = .ok (.goto (-68), 3) := by decide +kernel
theorem dL_law_1759 : decode cL_law 1759 = .ok (.aload_n 3, 1) := by decide +kernel
theorem dL_law_1760 : decode cL_law 1760 = .ok (.bipush 12, 2) := by decide +kernel
theorem dL_law_1762 : decode cL_law 1762 = .ok (.iload 25, 2) := by decide +kernel
theorem dL_law_1764 : decode cL_law 1764 = .ok (.iadd, 1) := by decide +kernel
theorem dL_law_1765 : decode cL_law 1765 = .ok (.dup2, 1) := by decide +kernel
theorem dL_law_1766 : decode cL_law 1766 = .ok (.laload, 1) := by decide +kernel
theorem dL_law_1767 : decode cL_law 1767 = .ok (.lload 26, 2) := by decide +kernel
theorem dL_law_1769 : decode cL_law 1769 = .ok (.ladd, 1) := by decide +kernel
theorem dL_law_1770 : decode cL_law 1770 = .ok (.lastore, 1) := by decide +kernel
theorem dL_law_1771 : decode cL_law 1771 = .ok (.aload_n 1, 1) := by decide +kernel
theorem dL_law_1772 : decode cL_law 1772 = .ok (.bipush 7, 2) := by decide +kernel
theorem dL_law_1774 : decode cL_law 1774 = .ok (.iload 23, 2) := by decide +kernel
theorem dL_law_1776 : decode cL_law 1776 = .ok (.iconst 0, 1) := by decide +kernel
theorem dL_law_1777 : decode cL_law 1777 = .ok (.iconst 0, 1) := by decide +kernel
theorem dL_law_1778 : decode cL_law 1778 = .ok (.invokestatic 122, 3) := by decide +kernel
theorem dL_law_1781 : decode cL_law 1781 = .ok (.iload 23, 2) := by decide +kernel
theorem dL_law_1783 : decode cL_law 1783 = .ok (.aload 12, 2) := by decide +kernel
theorem dL_law_1785 : decode cL_law 1785 = .ok (.iconst 2, 1) := by decide +kernel
theorem dL_law_1786 : decode cL_law 1786 = .ok (.iaload, 1) := by decide +kernel
theorem dL_law_1787 : decode cL_law 1787 = .ok (.if_icmp .ne 9, 3) := by decide +kernel
theorem dL_law_1790 : decode cL_law 1790 = .ok (.ldc2_w 59, 3) := by decide +kernel
theorem dL_law_1793 : decode cL_law 1793 = .ok (.goto 16, 3) := by decide +kernel
theorem dL_law_1796 : decode cL_law 1796 = .ok (.iload 28, 2) := by decide +kernel
theorem dL_law_1798 : decode cL_law 1798 = .ok (.ifCond .eq 8, 3) := by decide +kernel
theorem dL_law_1801 : decode cL_law 1801 = .ok (.lload 26, 2) := by decide +kernel
theorem dL_law_1803 : decode cL_law 1803 = .ok (.goto 6, 3) := by decide +kernel
theorem dL_law_1806 : decode cL_law 1806 = .ok (.ldc2_w 67, 3) := by decide +kernel
theorem dL_law_1809 : decode cL_law 1809 = .ok (.lcmp, 1) := by decide +kernel
theorem dL_law_1810 : decode cL_law 1810 = .ok (.ifCond .ne 7, 3) := by decide +kernel
theorem dL_law_1813 : decode cL_law 1813 = .ok (.iconst 1, 1) := by decide +kernel
theorem dL_law_1814 : decode cL_law 1814 = .ok (.goto 4, 3) := by decide +kernel
theorem dL_law_1817 : decode cL_law 1817 = .ok (.iconst 0, 1) := by decide +kernel
theorem dL_law_1818 : decode cL_law 1818 = .ok (.istore 13, 2) := by decide +kernel
theorem dL_law_1820 : decode cL_law 1820 = .ok (.goto 326, 3) := by decide +kernel
theorem dL_law_1823 : decode cL_law 1823 = .ok (.iload 15, 2) := by decide +kernel
theorem dL_law_1825 : decode cL_law 1825 = .ok (.bipush 30, 2) := by decide +kernel
theorem dL_law_1827 : decode cL_law 1827 = .ok (.if_icmp .ge 319, 3) := by decide +kernel
theorem dL_law_1830 : decode cL_law 1830 = .ok (.iload 16, 2) := by decide +kernel
theorem dL_law_1832 : decode cL_law 1832 = .ok (.iconst 3, 1) := by decide +kernel
theorem dL_law_1833 : decode cL_law 1833 = .ok (.irem, 1) := by decide +kernel
theorem dL_law_1834 : decode cL_law 1834 = .ok (.ifCond .ne 14, 3) := by decide +kernel
theorem dL_law_1837 : decode cL_law 1837 = .ok (.iconst 1, 1) := by decide +kernel
theorem dL_law_1838 : decode cL_law 1838 = .ok (.iload 16, 2) := by decide +kernel
theorem dL_law_1840 : decode cL_law 1840 = .ok (.sipush 400, 3) := by decide +kernel
theorem dL_law_1843 : decode cL_law 1843 = .ok (.irem, 1) := by decide +kernel
theorem dL_law_1844 : decode cL_law 1844 = .ok (.iadd, 1) := by decide +kernel
theorem dL_law_1845 : decode cL_law 1845 = .ok (.goto 33, 3) := by decide +kernel
theorem dL_law_1848 : decode cL_law 1848 = .ok (.iload 16, 2) := by decide +kernel
theorem dL_law_1850 : decode cL_law 1850 = .ok (.iconst 3, 1) := by decide +kernel
theorem dL_law_1851 : decode cL_law 1851 = .ok (.irem, 1) := by decide +kernel
theorem dL_law_1852 : decode cL_law 1852 = .ok (.iconst 1, 1) := by decide +kernel
theorem dL_law_1853 : decode cL_law 1853 = .ok (.if_icmp .ne 18, 3) := by decide +kernel
theorem dL_law_1856 : decode cL_law 1856 = .ok (.sipush 360, 3) := by decide +kernel
theorem dL_law_1859 : decode cL_law 1859 = .ok (.aload 12, 2) := by decide +kernel
theorem dL_law_1861 : decode cL_law 1861 = .ok (.iconst 0, 1) := by decide +kernel
theorem dL_law_1862 : decode cL_law 1862 = .ok (.iaload, 1) := by decide +kernel
theorem dL_law_1863 : decode cL_law 1863 = .ok (.sipush 360, 3) := by decide +kernel
theorem dL_law_1866 : decode cL_law 1866 = .ok (.irem, 1) := by decide +kernel
theorem dL_law_1867 : decode cL_law 1867 = .ok (.isub, 1) := by decide +kernel
theorem dL_law_1868 : decode cL_law 1868 = .ok (.goto 10, 3) := by decide +kernel
theorem dL_law_1871 : decode cL_law 1871 = .ok (.iconst 1, 1) := by decide +kernel
theorem dL_law_1872 : decode cL_law 1872 = .ok (.iload 16, 2) := by decide +kernel
theorem dL_law_1874 : decode cL_law 1874 = .ok (.bipush 9, 2) := by decide +kernel
theorem dL_law_1876 : decode cL_law 1876 = .ok (.irem, 1) := by decide +kernel
theorem dL_law_1877 : decode cL_law 1877 = .ok (.iadd, 1) := by decide +kernel
theorem dL_law_1878 : decode cL_law 1878 = .ok (.istore 23, 2) := by decide +kernel
theorem dL_law_1880 : decode cL_law 1880 = .ok (.aload 12, 2) := by decide +kernel
theorem dL_law_1882 : decode cL_law 1882 = .ok (.iconst 0, 1) := by decide +kernel
theorem dL_law_1883 : decode cL_law 1883 = .ok (.iaload, 1) := by decide +kernel
theorem dL_law_1884 : decode cL_law 1884 = .ok (.iload 23, 2) := by decide +kernel
theorem dL_law_1886 : decode cL_law 1886 = .ok (.iadd, 1) := by decide +kernel
theorem dL_law_1887 : decode cL_law 1887 = .ok (.sipush 7200, 3) := by decide +kernel
theorem dL_law_1890 : decode cL_law 1890 = .ok (.if_icmp .gt 7, 3) := by decide +kernel
theorem dL_law_1893 : decode cL_law 1893 = .ok (.iconst 1, 1) := by decide +kernel
theorem dL_law_1894 : decode cL_law 1894 = .ok (.goto 4, 3) := by decide +kernel
theorem dL_law_1897 : decode cL_law 1897 = .ok (.iconst 0, 1) := by decide +kernel
theorem dL_law_1898 : decode cL_law 1898 = .ok (.istore 24, 2) := by decide +kernel
theorem dL_law_1900 : decode cL_law 1900 = .ok (.iconst 0, 1) := by decide +kernel
theorem dL_law_1901 : decode cL_law 1901 = .ok (.istore 25, 2) := by decide +kernel
theorem dL_law_1903 : decode cL_law 1903 = .ok (.iload 25, 2) := by decide +kernel
theorem dL_law_1905 : decode cL_law 1905 = .ok (.iload 23, 2) := by decide +kernel
theorem dL_law_1907 : decode cL_law 1907 = .ok (.if_icmp .ge 202, 3) := by decide +kernel
theorem dL_law_1910 : decode cL_law 1910 = .ok (.iload 24, 2) := by decide +kernel
theorem dL_law_1912 : decode cL_law 1912 = .ok (.ifCond .eq 197, 3) := by decide +kernel
theorem dL_law_1915 : decode cL_law 1915 = .ok (.iconst 0, 1) := by decide +kernel
theorem dL_law_1916 : decode cL_law 1916 = .ok (.istore 26, 2) := by decide +kernel
theorem dL_law_1918 : decode cL_law 1918 = .ok (.iload 26, 2) := by decide +kernel
theorem dL_law_1920 : decode cL_law 1920 = .ok (.bipush 6, 2) := by decide +kernel
theorem dL_law_1922 : decode cL_law 1922 = .ok (.if_icmp .ge 62, 3) := by decide +kernel
theorem dL_law_1925 : decode cL_law 1925 = .ok (.aload_n 3, 1) := by decide +kernel
theorem dL_law_1926 : decode cL_law 1926 = .ok (.bipush 6, 2) := by decide +kernel
theorem dL_law_1928 : decode cL_law 1928 = .ok (.iload 26, 2) := by decide +kernel
theorem dL_law_1930 : decode cL_law 1930 = .ok (.iadd, 1) := by decide +kernel
theorem dL_law_1931 : decode cL_law 1931 = .ok (.laload, 1) := by decide +kernel
theorem dL_law_1932 : decode cL_law 1932 = .ok (.ldc2_w 81, 3) := by decide +kernel
theorem dL_law_1935 : decode cL_law 1935 = .ok (.ldiv, 1) := by decide +kernel
theorem dL_law_1936 : decode cL_law 1936 = .ok (.lstore 27, 2) := by decide +kernel
theorem dL_law_1938 : decode cL_law 1938 = .ok (.aload_n 3, 1) := by decide +kernel
theorem dL_law_1939 : decode cL_law 1939 = .ok (.iload 26, 2) := by decide +kernel
theorem dL_law_1941 : decode cL_law 1941 = .ok (.dup2, 1) := by decide +kernel
theorem dL_law_1942 : decode cL_law 1942 = .ok (.laload, 1) := by decide +kernel
theorem dL_law_1943 : decode cL_law 1943 = .ok (.lload 27, 2) := by decide +kernel
theorem dL_law_1945 : decode cL_law 1945 = .ok (.lsub, 1) := by decide +kernel
theorem dL_law_1946 : decode cL_law 1946 = .ok (.lastore, 1) := by decide +kernel
theorem dL_law_1947 : decode cL_law 1947 = .ok (.aload_n 3, 1) := by decide +kernel
theorem dL_law_1948 : decode cL_law 1948 = .ok (.bipush 6, 2) := by decide +kernel
theorem dL_law_1950 : decode cL_law 1950 = .ok (.iload 26, 2) := by decide +kernel
theorem dL_law_1952 : decode cL_law 1952 = .ok (.iadd, 1) := by decide +kernel
theorem dL_law_1953 : decode cL_law 1953 = .ok (.dup2, 1) := by decide +kernel
theorem dL_law_1954 : decode cL_law 1954 = .ok (.laload, 1) := by decide +kernel
theorem dL_law_1955 : decode cL_law 1955 = .ok (.ldc2_w 81, 3) := by decide +kernel
theorem dL_law_1958 : decode cL_law 1958 = .ok (.lload 27, 2) := by decide +kernel
theorem dL_law_1960 : decode cL_law 1960 = .ok (.lmul, 1) := by decide +kernel
theorem dL_law_1961 : decode cL_law 1961 = .ok (.lsub, 1) := by decide +kernel
theorem dL_law_1962 : decode cL_law 1962 = .ok (.lastore, 1) := by decide +kernel
theorem dL_law_1963 : decode cL_law 1963 = .ok (.aload_n 3, 1) := by decide +kernel
theorem dL_law_1964 : decode cL_law 1964 = .ok (.bipush 15, 2) := by decide +kernel
theorem dL_law_1966 : decode cL_law 1966 = .ok (.dup2, 1) := by decide +kernel
theorem dL_law_1967 : decode cL_law 1967 = .ok (.laload, 1) := by decide +kernel
theorem dL_law_1968 : decode cL_law 1968 = .ok (.lload 27, 2) := by decide +kernel
theorem dL_law_1970 : decode cL_law 1970 = .ok (.aload_n 2, 1) := by decide +kernel
theorem dL_law_1971 : decode cL_law 1971 = .ok (.iload 26, 2) := by decide +kernel
theorem dL_law_1973 : decode cL_law 1973 = .ok (.iaload, 1) := by decide +kernel
theorem dL_law_1974 : decode cL_law 1974 = .ok (.i2l, 1) := by decide +kernel
theorem dL_law_1975 : decode cL_law 1975 = .ok (.lmul, 1) := by decide +kernel
theorem dL_law_1976 : decode cL_law 1976 = .ok (.ladd, 1) := by decide +kernel
theorem dL_law_1977 : decode cL_law 1977 = .ok (.lastore, 1) := by decide +kernel
theorem dL_law_1978 : decode cL_law 1978 = .ok (.iinc 26 1, 3) := by decide +kernel
theorem dL_law_1981 : decode cL_law 1981 = .ok (.goto (-63), 3) := by decide +kernel
theorem dL_law_1984 : decode cL_law 1984 = .ok (.aload 12, 2) := by decide +kernel
theorem dL_law_1986 : decode cL_law 1986 = .ok (.iconst 0, 1) := by decide +kernel
theorem dL_law_1987 : decode cL_law 1987 = .ok (.dup2, 1) := by decide +kernel
theorem dL_law_1988 : decode cL_law 1988 = .ok (.iaload, 1) := by decide +kernel
theorem dL_law_1989 : decode cL_law 1989 = .ok (.iconst 1, 1) := by decide +kernel
theorem dL_law_1990 : decode cL_law 1990 = .ok (.iadd, 1) := by decide +kernel
theorem dL_law_1991 : decode cL_law 1991 = .ok (.iastore, 1) := by decide +kernel
theorem dL_law_1992 : decode cL_law 1992 = .ok (.iconst 0, 1) := by decide +kernel
theorem dL_law_1993 : decode cL_law 1993 = .ok (.istore 26, 2) := by decide +kernel
theorem dL_law_1995 : decode cL_law 1995 = .ok (.iload 26, 2) := by decide +kernel
theorem dL_law_1997 : decode cL_law 1997 = .ok (.aload 12, 2) := by decide +kernel
theorem dL_law_1999 : decode cL_law 1999 = .ok (.iconst 1, 1) := by decide +kernel
theorem dL_law_2000 : decode cL_law 2000 = .ok (.iaload, 1) := by decide +kernel
theorem dL_law_2001 : decode cL_law 2001 = .ok (.if_icmp .ge 102, 3) := by decide +kernel
theorem dL_law_2004 : decode cL_law 2004 = .ok (.aload 12, 2) := by decide +kernel
theorem dL_law_2006 : decode cL_law 2006 = .ok (.iconst 0, 1) := by decide +kernel
theorem dL_law_2007 : decode cL_law 2007 = .ok (.iaload, 1) := by decide +kernel
theorem dL_law_2008 : decode cL_law 2008 = .ok (.sipush 360, 3) := by decide +kernel
theorem dL_law_2011 : decode cL_law 2011 = .ok (.irem, 1) := by decide +kernel
theorem dL_law_2012 : decode cL_law 2012 = .ok (.ifCond .ne 91, 3) := by decide +kernel
theorem dL_law_2015 : decode cL_law 2015 = .ok (.aload 6, 2) := by decide +kernel
theorem dL_law_2017 : decode cL_law 2017 = .ok (.aload 7, 2) := by decide +kernel
theorem dL_law_2019 : decode cL_law 2019 = .ok (.aload 8, 2) := by decide +kernel
theorem dL_law_2021 : decode cL_law 2021 = .ok (.aload 12, 2) := by decide +kernel
theorem dL_law_2023 : decode cL_law 2023 = .ok (.aload 10, 2) := by decide +kernel
theorem dL_law_2025 : decode cL_law 2025 = .ok (.aload 11, 2) := by decide +kernel
theorem dL_law_2027 : decode cL_law 2027 = .ok (.iload 26, 2) := by decide +kernel
theorem dL_law_2029 : decode cL_law 2029 = .ok (.invokestatic 114, 3) := by decide +kernel
theorem dL_law_2032 : decode cL_law 2032 = .ok (.aload 9, 2) := by decide +kernel
theorem dL_law_2034 : decode cL_law 2034 = .ok (.bipush 21, 2) := by decide +kernel
theorem dL_law_2036 : decode cL_law 2036 = .ok (.iload 26, 2) := by decide +kernel
theorem dL_law_2038 : decode cL_law 2038 = .ok (.imul, 1) := by decide +kernel
theorem dL_law_2039 : decode cL_law 2039 = .ok (.aload 12, 2) := by decide +kernel
theorem dL_law_2041 : decode cL_law 2041 = .ok (.iconst 0, 1) := by decide +kernel
theorem dL_law_2042 : decode cL_law 2042 = .ok (.iaload, 1) := by decide +kernel
theorem dL_law_2043 : decode cL_law 2043 = .ok (.sipush 360, 3) := by decide +kernel
theorem dL_law_2046 : decode cL_law 2046 = .ok (.idiv, 1) := by decide +kernel
theorem dL_law_2047 : decode cL_law 2047 = .ok (.iadd, 1) := by decide +kernel
theorem dL_law_2048 : decode cL_law 2048 = .ok (.iconst 1, 1) := by decide +kernel
theorem dL_law_2049 : decode cL_law 2049 = .ok (.isub, 1) := by decide +kernel
theorem dL_law_2050 : decode cL_law 2050 = .ok (.aload 11, 2) := by decide +kernel
theorem dL_law_2052 : decode cL_law 2052 = .ok (.bipush 21, 2) := by decide +kernel
theorem dL_law_2054 : decode cL_law 2054 = .ok (.aload 12, 2) := by decide +kernel
theorem dL_law_2056 : decode cL_law 2056 = .ok (.iconst 0, 1) := by decide +kernel
theorem dL_law_2057 : decode cL_law 2057 = .ok (.iaload, 1) := by decide +kernel
theorem dL_law_2058 : decode cL_law 2058 = .ok (.sipush 360, 3) := by decide +kernel
theorem dL_law_2061 : decode cL_law 2061 = .ok (.idiv, 1) := by decide +kernel
theorem dL_law_2062 : decode cL_law 2062 = .ok (.iadd, 1) := by decide +kernel
theorem dL_law_2063 : decode cL_law 2063 = .ok (.laload, 1) := by decide +kernel
theorem dL_law_2064 : decode cL_law 2064 = .ok (.ldc2_w 118, 3) := by decide +kernel
theorem dL_law_2067 : decode cL_law 2067 = .ok (.ldiv, 1) := by decide +kernel
theorem dL_law_2068 : decode cL_law 2068 = .ok (.lastore, 1) := by decide +kernel
theorem dL_law_2069 : decode cL_law 2069 = .ok (.aload_n 3, 1) := by decide +kernel
theorem dL_law_2070 : decode cL_law 2070 = .ok (.bipush 12, 2) := by decide +kernel
theorem dL_law_2072 : decode cL_law 2072 = .ok (.iload 26, 2) := by decide +kernel
theorem dL_law_2074 : decode cL_law 2074 = .ok (.iadd, 1) := by decide +kernel
theorem dL_law_2075 : decode cL_law 2075 = .ok (.dup2, 1) := by decide +kernel
theorem dL_law_2076 : decode cL_law 2076 = .ok (.laload, 1) := by decide +kernel
theorem dL_law_2077 : decode cL_law 2077 = .ok (.aload 11, 2) := by decide +kernel
theorem dL_law_2079 : decode cL_law 2079 = .ok (.bipush 21, 2) := by decide +kernel
theorem dL_law_2081 : decode cL_law 2081 = .ok (.aload 12, 2) := by decide +kernel
theorem dL_law_2083 : decode cL_law 2083 = .ok (.iconst 0, 1) := by decide +kernel
theorem dL_law_2084 : decode cL_law 2084 = .ok (.iaload, 1) := by decide +kernel
theorem dL_law_2085 : decode cL_law 2085 = .ok (.sipush 360, 3) := by decide +kernel
theorem dL_law_2088 : decode cL_law 2088 = .ok (.idiv, 1) := by decide +kernel
theorem dL_law_2089 : decode cL_law 2089 = .ok (.iadd, 1) := by decide +kernel
theorem dL_law_2090 : decode cL_law 2090 = .ok (.laload, 1) := by decide +kernel
theorem dL_law_2091 : decode cL_law 2091 = .ok (.ldc2_w 118, 3) := by decide +kernel
theorem dL_law_2094 : decode cL_law 2094 = .ok (.ldiv, 1) := by decide +kernel
theorem dL_law_2095 : decode cL_law 2095 = .ok (.lsub, 1) := by decide +kernel
theorem dL_law_2096 : decode cL_law 2096 = .ok (.lastore, 1) := by decide +kernel
theorem dL_law_2097 : decode cL_law 2097 = .ok (.iinc 26 1, 3) := by decide +kernel
theorem dL_law_2100 : decode cL_law 2100 = .ok (.goto (-105), 3) := by decide +kernel
theorem dL_law_2103 : decode cL_law 2103 = .ok (.iinc 25 1, 3) := by decide +kernel
theorem dL_law_2106 : decode cL_law 2106 = .ok (.goto (-203), 3) := by decide +kernel
theorem dL_law_2109 : decode cL_law 2109 = .ok (.aload_n 1, 1) := by decide +kernel
theorem dL_law_2110 : decode cL_law 2110 = .ok (.bipush 8, 2) := by decide +kernel
theorem dL_law_2112 : decode cL_law 2112 = .ok (.iload 23, 2) := by decide +kernel
theorem dL_law_2114 : decode cL_law 2114 = .ok (.iconst 0, 1) := by decide +kernel
theorem dL_law_2115 : decode cL_law 2115 = .ok (.iconst 0, 1) := by decide +kernel
theorem dL_law_2116 : decode cL_law 2116 = .ok (.invokestatic 122, 3) := by decide +kernel
theorem dL_law_2119 : decode cL_law 2119 = .ok (.iload 24, 2) := by decide +kernel
theorem dL_law_2121 : decode cL_law 2121 = .ok (.ifCond .eq 11, 3) := by decide +kernel
theorem dL_law_2124 : decode cL_law 2124 = .ok (.aload 12, 2) := by decide +kernel
theorem dL_law_2126 : decode cL_law 2126 = .ok (.iconst 0, 1) := by decide +kernel
theorem dL_law_2127 : decode cL_law 2127 = .ok (.iaload, 1) := by decide +kernel
theorem dL_law_2128 : decode cL_law 2128 = .ok (.i2l, 1) := by decide +kernel
theorem dL_law_2129 : decode cL_law 2129 = .ok (.goto 6, 3) := by decide +kernel
theorem dL_law_2132 : decode cL_law 2132 = .ok (.ldc2_w 67, 3) := by decide +kernel
theorem dL_law_2135 : decode cL_law 2135 = .ok (.lcmp, 1) := by decide +kernel
theorem dL_law_2136 : decode cL_law 2136 = .ok (.ifCond .ne 7, 3) := by decide +kernel
theorem dL_law_2139 : decode cL_law 2139 = .ok (.iconst 1, 1) := by decide +kernel
theorem dL_law_2140 : decode cL_law 2140 = .ok (.goto 4, 3) := by decide +kernel
theorem dL_law_2143 : decode cL_law 2143 = .ok (.iconst 0, 1) := by decide +kernel
theorem dL_law_2144 : decode cL_law 2144 = .ok (.istore 13, 2) := by decide +kernel
theorem dL_law_2146 : decode cL_law 2146 = .ok (.iload 13, 2) := by decide +kernel
theorem dL_law_2148 : decode cL_law 2148 = .ok (.ifCond .eq 36, 3) := by decide +kernel
theorem dL_law_2151 : decode cL_law 2151 = .ok (.aload_n 1, 1) := by decide +kernel
theorem dL_law_2152 : decode cL_law 2152 = .ok (.aload_n 2, 1) := by decide +kernel
theorem dL_law_2153 : decode cL_law 2153 = .ok (.aload_n 3, 1) := by decide +kernel
theorem dL_law_2154 : decode cL_law 2154 = .ok (.aload 4, 2) := by decide +kernel
theorem dL_law_2156 : decode cL_law 2156 = .ok (.aload 6, 2) := by decide +kernel
theorem dL_law_2158 : decode cL_law 2158 = .ok (.aload 7, 2) := by decide +kernel
theorem dL_law_2160 : decode cL_law 2160 = .ok (.aload 8, 2) := by decide +kernel
theorem dL_law_2162 : decode cL_law 2162 = .ok (.aload 12, 2) := by decide +kernel
theorem dL_law_2164 : decode cL_law 2164 = .ok (.aload 10, 2) := by decide +kernel
theorem dL_law_2166 : decode cL_law 2166 = .ok (.aload 11, 2) := by decide +kernel
theorem dL_law_2168 : decode cL_law 2168 = .ok (.aload 9, 2) := by decide +kernel
theorem dL_law_2170 : decode cL_law 2170 = .ok (.iload 16, 2) := by decide +kernel
theorem dL_law_2172 : decode cL_law 2172 = .ok (.iload 17, 2) := by decide +kernel
theorem dL_law_2174 : decode cL_law 2174 = .ok (.invokestatic 144, 3) := by decide +kernel
theorem dL_law_2177 : decode cL_law 2177 = .ok (.ifCond .eq 7, 3) := by decide +kernel
theorem dL_law_2180 : decode cL_law 2180 = .ok (.iconst 1, 1) := by decide +kernel
theorem dL_law_2181 : decode cL_law 2181 = .ok (.goto 4, 3) := by decide +kernel
theorem dL_law_2184 : decode cL_law 2184 = .ok (.iconst 0, 1) := by decide +kernel
theorem dL_law_2185 : decode cL_law 2185 = .ok (.istore 13, 2) := by decide +kernel
theorem dL_law_2187 : decode cL_law 2187 = .ok (.iinc 14 1, 3) := by decide +kernel
theorem dL_law_2190 : decode cL_law 2190 = .ok (.goto (-1978), 3) := by decide +kernel
theorem dL_law_2193 : decode cL_law 2193 = .ok (.iload 13, 2) := by decide +kernel
theorem dL_law_2195 : decode cL_law 2195 = .ok (.ireturn, 1) := by decide +kernel
abbrev vwCl : List vw_C := [(RJx4a65c, TJx4a65c, 3), (RX0, TX0, 5), (RX1, TX1, 4), (RX2, TX2, 4), (RX3, TX3, 9), (RX4, TX4, 5)]
end
section
/-! ===== worlds by keys: a world gives each live key an address and a row; all rows of the kit are lifted to it ===== -/
abbrev zk_K : Type := Nat × Nat × Nat
abbrev zk_W : Type := (zk_K → Nat) × (zk_K → Prop) × (zk_K → va_E)
/-- the heap holds the world, in cells of A -/
def zk_H (D : va_G) (A : Nat → Prop) (w : zk_W) (H : Heap) : Prop :=
  ∃ ws : va_W, va_P D vwCl ws H ∧ va_D A ws ∧ (∀ k, w.2.1 k → ∃ i : Nat, ws[i]? = some (w.1 k, w.2.2 k)) ∧ ∀ k k', w.2.1 k → w.2.1 k' → w.1 k = w.1 k' → k = k'
/-- the row of one key has changed -/
def zk_up (w : zk_W) (k : zk_K) (e : va_E) (w' : zk_W) : Prop := w'.1 = w.1 ∧ w'.2.1 = w.2.1 ∧ w'.2.2 k = e ∧ ∀ k', k' ≠ k → w.2.1 k' → w'.2.2 k' = w.2.2 k'
/-- one key has a new cell; others may have gone -/
def zk_nw (w : zk_W) (k : zk_K) (q : Nat) (e : va_E) (w' : zk_W) : Prop := w'.1 k = q ∧ w'.2.2 k = e ∧ ∀ k', k' ≠ k → w'.2.1 k' → w.2.1 k' ∧ w'.1 k' = w.1 k' ∧ w'.2.2 k' = w.2.2 k'
/-- fewer keys -/
def zk_sb (w w' : zk_W) : Prop := ∀ k, w'.2.1 k → w.2.1 k ∧ w'.1 k = w.1 k ∧ w'.2.2 k = w.2.2 k
theorem zk_H.inj {D : va_G} {A : Nat → Prop} {w : zk_W} {H : Heap} (h : zk_H D A w H) {k k' : zk_K} (hk : w.2.1 k) (hk' : w.2.1 k') (e : w.1 k = w.1 k') : k = k' := by
  obtain ⟨ws, hP, hD, hL, hI⟩ := h
  exact hI k k' hk hk' e
theorem zk_H.sb {D : va_G} {A : Nat → Prop} {w w' : zk_W} {H : Heap} (h : zk_H D A w H) (hs : zk_sb w w') : zk_H D A w' H := by
  obtain ⟨ws, hP, hD, hL, hI⟩ := h
  refine ⟨ws, hP, hD, fun k hk => ?_, fun k k' hk hk' e => ?_⟩
  · obtain ⟨a, b, c⟩ := hs k hk
    obtain ⟨i, hi⟩ := hL k a
    exact ⟨i, by rw [hi, b, c]⟩
  · obtain ⟨a, b, c⟩ := hs k hk
    obtain ⟨a', b', c'⟩ := hs k' hk'
    rw [b, b'] at e
    exact hI k k' a a' e
theorem zk_set {D : va_G} {A : Nat → Prop} {w w' : zk_W} {H1 : Heap} {ws : va_W} {k : zk_K} {e0 e : va_E} {i : Nat} (hL : ∀ k, w.2.1 k → ∃ i : Nat, ws[i]? = some (w.1 k, w.2.2 k)) (hI : ∀ k k', w.2.1 k → w.2.1 k' → w.1 k = w.1 k' → k = k') (hk : w.2.1 k) (hi : ws[i]? = some (w.1 k, e0)) (hu : zk_up w k e w')
    (hP : va_P D vwCl (ws.set i (w.1 k, e)) H1) (hD : va_D A (ws.set i (w.1 k, e))) : zk_H D A w' H1 := by
  obtain ⟨h1, h2, h3, h4⟩ := hu
  have hlt := (List.getElem?_eq_some_iff.mp hi).1
  refine ⟨ws.set i (w.1 k, e), hP, hD, fun k' hk' => ?_, fun a b => by rw [h1, h2]; exact hI a b⟩
  rw [h2] at hk'
  rw [h1]
  by_cases hkk : k' = k
  · subst hkk
    exact ⟨i, by rw [List.getElem?_set_self hlt, h3]⟩
  · obtain ⟨j, hj⟩ := hL k' hk'
    have hij : i ≠ j := fun q => by
      subst q
      have := Option.some.inj (hi.symm.trans hj)
      exact hkk (hI _ _ hk' hk (congrArg Prod.fst this).symm)
    exact ⟨j, by rw [List.getElem?_set_ne hij, hj, h4 k' hkk hk']⟩
theorem zk_push {D : va_G} {A : Nat → Prop} {w w' : zk_W} {H1 : Heap} {ws : va_W} {k : zk_K} {q : Nat} {e : va_E} (hL : ∀ k, w.2.1 k → ∃ i : Nat, ws[i]? = some (w.1 k, w.2.2 k)) (hI : ∀ k k', w.2.1 k → w.2.1 k' → w.1 k = w.1 k' → k = k') (hn : zk_nw w k q e w')
    (hP : va_P D vwCl (ws ++ [(q, e)]) H1) (hD : va_D A (ws ++ [(q, e)])) : zk_H D A w' H1 := by
  obtain ⟨h1, h2, h3⟩ := hn
  have hlast : (ws ++ [(q, e)])[ws.length]? = some (q, e) := by
    rw [List.getElem?_append_right (Nat.le_refl _), Nat.sub_self]; rfl
  have hold : ∀ k', k' ≠ k → w'.2.1 k' → ∃ i, i < ws.length ∧ (ws ++ [(q, e)])[i]? = some (w'.1 k', w'.2.2 k') := by
    intro k' hne hk'
    obtain ⟨a, b, c⟩ := h3 k' hne hk'
    obtain ⟨i, hi⟩ := hL k' a
    have hlt := (List.getElem?_eq_some_iff.mp hi).1
    exact ⟨i, hlt, by rw [List.getElem?_append_left hlt, hi, b, c]⟩
  refine ⟨ws ++ [(q, e)], hP, hD, fun k' hk' => ?_, fun a b ha hb hab => ?_⟩
  · by_cases hkk : k' = k
    · subst hkk
      exact ⟨ws.length, by rw [hlast, h1, h2]⟩
    · obtain ⟨i, -, hi⟩ := hold k' hkk hk'
      exact ⟨i, hi⟩
  · by_cases ha' : a = k <;> by_cases hb' : b = k
    · rw [ha', hb']
    · subst ha'
      obtain ⟨i, hl, hi⟩ := hold b hb' hb
      have := hD.1 i ws.length _ _ hi hlast (by show w'.1 b = q; rw [← hab, h1])
      omega
    · subst hb'
      obtain ⟨i, hl, hi⟩ := hold a ha' ha
      have := hD.1 i ws.length _ _ hi hlast (by show w'.1 a = q; rw [hab, h1])
      omega
    · obtain ⟨x1, x2, x3⟩ := h3 a ha' ha
      obtain ⟨y1, y2, y3⟩ := h3 b hb' hb
      rw [x2, y2] at hab
      exact hI a b x1 y1 hab
/-! ===== what every method needs of the machine's state ===== -/
/-- the exceptions that the class throws -/
def zg_X : List String := ["java/lang/IndexOutOfBoundsException", "java/lang/IllegalArgumentException", "java/lang/IllegalStateException"]
def zg_Nc : List (String × String) := [("java/lang/IllegalArgumentException", "java/lang/IndexOutOfBoundsException"), ("java/lang/IllegalStateException", "java/lang/IndexOutOfBoundsException"), ("java/lang/IllegalStateException", "java/lang/IllegalArgumentException")]
/-- the classes whose objects lie in lists -/
def zg_O : List String := ["SavingsHall$Client", "SavingsHall$Fund", "SavingsHall$Holding", "SavingsHall$Trade"]
/-- the classes above those that the class throws -/
def zg_D : List String := ["java/lang/RuntimeException", "java/lang/Exception", Bundle.tN]
theorem zk_NwD {x : MethodName} {s U : State} (hW : s.WarmedH U.vm) (hZ : va_Nw (.declares x) s) : va_Nw (.declares x) U := va_tabs rfl (rfl : (s.setVm U.vm).vm = U.vm) (by rw [Cond.declares_setVm hW.alike]; exact hZ)
def zG (D : va_G) (tys : List (ClassId × FieldType)) (A : Nat → Prop) (g : Nat → Nat) (U : State) : Prop :=
  va_K D vwCl tys U ∧ (∀ q, U.heap.size ≤ q → A q) ∧ va_Z "java/util/ArrayList" "DEFAULTCAPACITY_EMPTY_ELEMENTDATA" "[Ljava/lang/Object;" (.ref (g 0)) A U U.heap ∧ va_T (.object "java/lang/Object") (g 0) 0 (fun _ => .null) A U U.heap ∧
  va_Mi "[Ljava/lang/Object;" (g 1) U ∧ va_Dc U ∧ vx_Zq Bundle.tN "UNASSIGNED_STACK" Bundle.steD A U U.heap ∧ vx_Zq Bundle.tN "SUPPRESSED_SENTINEL" Bundle.listD A U U.heap ∧
  (∀ x ∈ zg_X, va_Nw (.castable x x) U) ∧ (∀ q ∈ zg_Nc, va_Nc q.1 q.2 U) ∧ va_AO "java/lang/Object" U ∧
  vk_R RX4 219 "there is none of this number" (g 2) U ∧ vk_R RX4 226 "an argument is out of range" (g 3) U ∧ vk_R RX4 231 "this is not possible now" (g 4) U ∧
  (∀ x ∈ zg_O, va_Nw (.castable x "java/lang/Object") U) ∧ ∀ x ∈ zg_D, va_Nw (.declares (Bundle.initS x)) U
theorem zG.step {D : va_G} {tys : List (ClassId × FieldType)} {A : Nat → Prop} {g : Nat → Nat} {s U : State} {locs : List Loc} (h : zG D tys A g s) (hW : s.WarmedH U.vm) (hS : va_S A s.heap U.heap locs) : zG D tys A g U := by
  obtain ⟨h1, h2, h3, h4, h5, h6, h7, h8, h9, h10, h11, h12, h13, h14, h15, h16⟩ := h
  have hal := hW.alike
  refine ⟨va_K.moved hal h1, fun q hq => h2 q (Nat.le_trans hS.1 hq), va_Z.moved hal (h3.kept hS.2.1), va_T.moved hal (h4.kept hS.2.1), va_Mi.moved hal h5, va_Dc.moved hal h6, vx_Zq.moved hal (h7.kept hS.2.1), vx_Zq.moved hal (h8.kept hS.2.1),
    fun x hx => va_Nw.warmC hW (h9 x hx), fun q hq => va_Nc.moved hal (h10 q hq), va_AO.moved hal h11, vk_R.warm hW h12, vk_R.warm hW h13, vk_R.warm hW h14, fun x hx => va_Nw.warmC hW (h15 x hx), fun x hx => zk_NwD hW (h16 x hx)⟩
theorem zG.calling {D : va_G} {tys : List (ClassId × FieldType)} {A : Nat → Prop} {g : Nat → Nat} {U : State} {f : JFrame} {mk : MethodId} {a : Array Value} (h : zG D tys A g U) : zG D tys A g (U.calling f mk a) :=
  zG.step (locs := []) h (State.WarmedH.refl U) va_S.rf
/-! ===== contracts ===== -/
def zk_Pc (D : va_G) (tys : List (ClassId × FieldType)) (A : Nat → Prop) (g : Nat → Nat) (av : List Value) (w : zk_W) : Array Value → State → Prop := va_Pc av (fun U => zk_H D A w U.heap ∧ zG D tys A g U)
def zk_Qc (D : va_G) (A : Nat → Prop) (P : Option Value → zk_W → Prop) : State → Outcome → State → Prop := fun st oc t => (∃ (v : Option Value) (w' : zk_W), oc = .returned v ∧ P v w' ∧ zk_H D A w' t.heap) ∧ va_F A st t
def zk_XC (D : va_G) (A : Nat → Prop) (PX : String → zk_W → Prop) : String → State → State → Prop := fun E st t => (∃ w' : zk_W, PX E w' ∧ zk_H D A w' t.heap) ∧ va_F A st t
/-- a method that returns -/
def zM (l : Launch) (y : MethodName) (ws : List Cond) (rm : Room) (D : va_G) (tys : List (ClassId × FieldType)) (A : Nat → Prop) (g : Nat → Nat) (av : List Value) (w : zk_W) (P : Option Value → zk_W → Prop) : Prop :=
  Met l y ws rm (zk_Pc D tys A g av w) (fun _ => zk_Qc D A P) rm.cells rm.slots A
/-- a method that returns or throws -/
def zX (l : Launch) (y : MethodName) (ws : List Cond) (rm : Room) (D : va_G) (tys : List (ClassId × FieldType)) (A : Nat → Prop) (g : Nat → Nat) (av : List Value) (w : zk_W) (P : Option Value → zk_W → Prop) (PX : String → zk_W → Prop) : Prop :=
  vx_Met l y ws rm (zk_Pc D tys A g av w) (fun _ => zk_Qc D A P) (zk_XC D A PX) rm.cells rm.slots A
def zQi (P : Int32 → zk_W → Prop) : Option Value → zk_W → Prop := fun v w => ∃ r : Int32, v = some (.int r) ∧ P r w
def zQl (P : Int64 → zk_W → Prop) : Option Value → zk_W → Prop := fun v w => ∃ r : Int64, v = some (.long r) ∧ P r w
def zQv (P : zk_W → Prop) : Option Value → zk_W → Prop := fun v w => v = none ∧ P w
def zQr (P : Nat → zk_W → Prop) : Option Value → zk_W → Prop := fun v w => ∃ r : Nat, v = some (.ref r) ∧ P r w
/-- what holds in a method's body -/
def zC (p : Program) (l : Launch) (m : MethodId) (c : Code) (cc : ByteArray) (nL : Nat) (s : State) (args : Array Value) (Ts : List Cond) (own : String) (D : va_G) (tys : List (ClassId × FieldType)) (A : Nat → Prop) (g : Nat → Nat) (meth : Method) : Prop :=
  CallFix p m c cc nL s args Ts own ∧ zG D tys A g s ∧ meth.locks = false
theorem zk_blind {D : va_G} {tys : List (ClassId × FieldType)} {A : Nat → Prop} {g : Nat → Nat} {av : List Value} {w : zk_W} : FrameBlind (zk_Pc D tys A g av w) := fun _ _ _ _ h => ⟨h.1, h.2.1, zG.calling h.2.2⟩
section ZM
variable {l : Launch} {y : MethodName} {ws ws' : List Cond} {rm : Room} {D : va_G} {tys : List (ClassId × FieldType)} {A : Nat → Prop} {g : Nat → Nat} {av : List Value} {w : zk_W} {P : Option Value → zk_W → Prop} {PX : String → zk_W → Prop} {cc : ByteArray} {maxL : Nat} {ret : Option FieldType} {own : String}
theorem zM_of (hy : plainName y.cls = true) (hw : ws = Cond.code y cc maxL ret :: ws') (hav : (lg_sl av).length ≤ maxL) (ho : y.cls = own)
    (body : ∀ (p : Program) (e : Env) (s : State) (m : MethodId) (below : List Frame) (meth : Method) (c : Code), zC p l m c cc maxL s av.toArray ws own D tys A g meth → meth.sig.returnType = ret → meth.name = y.name →
      ∀ (H : Heap) (locs : List Loc) (ls : Array Slot), zk_H D A w H → va_S A s.heap H locs → lv_has ls maxL (lv_args 0 av) →
      W p l e rm s m av.toArray below meth c H locs 0 0 (MQ below (fun _ => zk_Qc D A P) av.toArray s rm.cells rm.slots A) (F0 m 0 ls [])) : zM l y ws rm D tys A g av w P := by
  refine Met.ofW (cc := cc) (maxL := maxL) (ret := ret) hy hw ?_
  intro p e s m args below meth c s₁ B hml hv
  obtain ⟨rfl, hH, hG⟩ := hv
  have hown : s.vm.findClass own = some m.cls := ho ▸ findClass_of_methodNamed B.named
  have hl := lv_entry av (n := maxL) hav
  rw [lg_entry_eq]
  exact body p e s m below meth c ⟨⟨B.exec, B.bytes, hml, hown, atoms_spec (ws := ws) B.pre⟩, hG, B.notSynchronized⟩ B.returns (name_of_methodNamed B.named B.method).1 s.heap [] _ hH va_S.rf hl
theorem zX_of (hy : plainName y.cls = true) (hw : ws = Cond.code y cc maxL ret :: ws') (hav : (lg_sl av).length ≤ maxL) (ho : y.cls = own)
    (body : ∀ (p : Program) (e : Env) (s : State) (m : MethodId) (below : List Frame) (meth : Method) (c : Code), zC p l m c cc maxL s av.toArray ws own D tys A g meth → meth.sig.returnType = ret → meth.name = y.name → (∀ x ∈ c.exceptionTable.toList, False) →
      ∀ (H : Heap) (locs : List Loc) (ls : Array Slot), zk_H D A w H → va_S A s.heap H locs → lv_has ls maxL (lv_args 0 av) →
      W p l e rm s m av.toArray below meth c H locs 0 0 (vx_MQ below (fun _ => zk_Qc D A P) (zk_XC D A PX) av.toArray s rm.cells rm.slots A) (F0 m 0 ls [])) : zX l y ws rm D tys A g av w P PX := by
  refine vx_ofW (cc := cc) (maxL := maxL) (ret := ret) hy hw ?_
  intro p e s m args below meth c s₁ B hml hex hv
  obtain ⟨rfl, hH, hG⟩ := hv
  have hown : s.vm.findClass own = some m.cls := ho ▸ findClass_of_methodNamed B.named
  have hl := lv_entry av (n := maxL) hav
  rw [lg_entry_eq]
  exact body p e s m below meth c ⟨⟨B.exec, B.bytes, hml, hown, atoms_spec (ws := ws) B.pre⟩, hG, B.notSynchronized⟩ B.returns (name_of_methodNamed B.named B.method).1 hex s.heap [] _ hH va_S.rf hl
end ZM
section ZR
variable {p : Program} {l : Launch} {e : Env} {R : Room} {s : State} {m : MethodId} {args : Array Value} {below : List Frame} {meth : Method} {c : Code} {H : Heap} {locs : List Loc} {cells slots : Nat} {Q : State → Prop}
variable {cc : ByteArray} {pc nL : Nat} {ls : Array Slot} {rest st0 : List Value} {D : va_G} {tys : List (ClassId × FieldType)} {A : Nat → Prop} {g : Nat → Nat} {Ts : List Cond} {own : String} {w w' : zk_W} {H0 : Heap}
variable {P : Option Value → zk_W → Prop} {PX : String → zk_W → Prop} {mc ms : Nat} {lc : List (Nat × Value)}
/-! returns -/
theorem zr_iret {Pi : Int32 → zk_W → Prop} {v : Int32} (C : zC p l m c cc nL s args Ts own D tys A g meth) (hr : meth.sig.returnType = some .int) (hP : Pi v w) (hH : zk_H D A w H) (hS : va_S A s.heap H locs) (hc : cells ≤ mc) (hs : slots ≤ ms) (hd : decode cc pc = .ok (.ireturn, 1)) :
    W p l e R s m args below meth c H locs cells slots (MQ below (fun _ => zk_Qc D A (zQi Pi)) args s mc ms A) (F0 m pc ls [.int v]) :=
  W.widen hc hs (W.iret (v := v) C.1.1 C.1.2.1 hr (fun t ht hW => ⟨⟨some (.int v), w, rfl, ⟨v, rfl, hP⟩, by rw [ht]; exact hH⟩, hS.F ht⟩) hS.2.2 hd C.2.2)
theorem zr_zret {Pi : Int32 → zk_W → Prop} {v : Int32} (C : zC p l m c cc nL s args Ts own D tys A g meth) (hr : meth.sig.returnType = some .boolean) (hv : v = 0 ∨ v = 1) (hP : Pi v w) (hH : zk_H D A w H) (hS : va_S A s.heap H locs) (hc : cells ≤ mc) (hs : slots ≤ ms) (hd : decode cc pc = .ok (.ireturn, 1)) :
    W p l e R s m args below meth c H locs cells slots (MQ below (fun _ => zk_Qc D A (zQi Pi)) args s mc ms A) (F0 m pc ls [.int v]) :=
  W.widen hc hs (W.zret (v := v) (ty := .boolean) C.1.1 C.1.2.1 hr (by rcases hv with rfl | rfl <;> decide) (fun t ht hW => ⟨⟨some (.int v), w, rfl, ⟨v, rfl, hP⟩, by rw [ht]; exact hH⟩, hS.F ht⟩) hS.2.2 hd C.2.2)
theorem zr_lret {Pl : Int64 → zk_W → Prop} {v : Int64} (C : zC p l m c cc nL s args Ts own D tys A g meth) (hr : meth.sig.returnType = some .long) (hP : Pl v w) (hH : zk_H D A w H) (hS : va_S A s.heap H locs) (hc : cells ≤ mc) (hs : slots ≤ ms) (hd : decode cc pc = .ok (.lreturn, 1)) :
    W p l e R s m args below meth c H locs cells slots (MQ below (fun _ => zk_Qc D A (zQl Pl)) args s mc ms A) (F0 m pc ls [.long v]) :=
  W.widen hc hs (W.lret (v := v) C.1.1 C.1.2.1 hr (fun t ht hW => ⟨⟨some (.long v), w, rfl, ⟨v, rfl, hP⟩, by rw [ht]; exact hH⟩, hS.F ht⟩) hS.2.2 hd C.2.2)
theorem zr_vret {Pv : zk_W → Prop} (C : zC p l m c cc nL s args Ts own D tys A g meth) (hr : meth.sig.returnType = none) (hP : Pv w) (hH : zk_H D A w H) (hS : va_S A s.heap H locs) (hc : cells ≤ mc) (hs : slots ≤ ms) (hd : decode cc pc = .ok (.return_, 1)) :
    W p l e R s m args below meth c H locs cells slots (MQ below (fun _ => zk_Qc D A (zQv Pv)) args s mc ms A) (F0 m pc ls []) :=
  W.widen hc hs (W.vret C.1.1 C.1.2.1 hr (fun t ht hW => ⟨⟨none, w, rfl, ⟨rfl, hP⟩, by rw [ht]; exact hH⟩, hS.F ht⟩) hS.2.2 hd C.2.2)
theorem zr_aret {Pr : Nat → zk_W → Prop} {a : Nat} {rt : FieldType} (C : zC p l m c cc nL s args Ts own D tys A g meth) (hr : meth.sig.returnType = some rt) (hrt : (∃ n, rt = .object n) ∨ ∃ t, rt = .array t) (hP : Pr a w) (hH : zk_H D A w H) (hS : va_S A s.heap H locs) (hc : cells ≤ mc) (hs : slots ≤ ms) (hd : decode cc pc = .ok (.areturn, 1)) :
    W p l e R s m args below meth c H locs cells slots (MQ below (fun _ => zk_Qc D A (zQr Pr)) args s mc ms A) (F0 m pc ls [.ref a]) :=
  W.widen hc hs (W.aret (v := .ref a) C.1.1 C.1.2.1 hr hrt (Or.inr ⟨a, rfl⟩) (fun t ht hW => ⟨⟨some (.ref a), w, rfl, ⟨a, rfl, hP⟩, by rw [ht]; exact hH⟩, hS.F ht⟩) hS.2.2 hd C.2.2)
/-! calls: how the machine gets there -/
variable {y : MethodName} {bytes : ByteArray} {maxL n index : Nat} {ret : Option FieldType} {ws ws' : List Cond} {rm : Room} {Cn : String} {b : Addr} {As : List Value}
theorem zk_pre (C : zC p l m c cc nL s args Ts own D tys A g meth) (hH : zk_H D A w H) (hS : va_S A s.heap H locs) (av : List Value) : PreS s H (zk_Pc D tys A g av w) av :=
  ⟨zk_blind, fun U hU hW => ⟨rfl, by rw [hU]; exact hH, zG.step (locs := locs) C.2.1 hW (by rw [hU]; exact hS)⟩⟩
theorem zk_recv (C : zC p l m c cc nL s args Ts own D tys A g meth) (hH : zk_H D A w H) {k : zk_K} (hk : w.2.1 k) {ci : Nat} {fs : List Value} (he : w.2.2 k = .inr (ci, fs)) {q : vw_C} (hc : vwCl[ci]? = some q) : ∃ cell : Cell, H[w.1 k]? = some cell ∧ cell.vm.isStatics = false ∧ s.vm.findClass q.1 = some cell.cls := by
  obtain ⟨ws, hP, hD, hL, hI⟩ := hH
  obtain ⟨i, hi⟩ := hL k hk
  rw [he] at hi
  exact va_recv C.2.1.1 hP hc hi
/-- invokevirtual of a method that returns -/
theorem zk_rV (C : zC p l m c cc nL s args Ts own D tys A g meth) {q : vw_C} {k : zk_K} {ci : Nat} {fs : List Value} (hM : zM l y ws rm D tys A g (.ref (w.1 k) :: As) w P) (hH : zk_H D A w H) (hS : va_S A s.heap H locs) (hk : w.2.1 k) (he : w.2.2 k = .inr (ci, fs)) (hc : vwCl[ci]? = some q)
    (hT : GoodIn Ts (wsV own index q.1 y ws)) (hw : ws = Cond.code y bytes maxL ret :: ws') (hn : As.length = n)
    (hd : y.cls = q.1 ∧ y.cls ≠ "java/lang/invoke/MethodHandle" ∧ y.cls ≠ "java/lang/invoke/VarHandle" ∧ (parseMethodDescriptor y.desc).map (fun d => d.parameters.length) = some n) (hR : rm.frames + 1 ≤ R.frames ∧ 8 + (maxL + 11) + rm.locals ≤ R.locals)
    (hl : lv_has ls nL lc) (hst : st0 = As.reverse ++ .ref (w.1 k) :: rest) (hW : (rest.map fun v => v.category).sum ≤ 8) (hdg : decode cc pc = .ok (.invokevirtual index, 3)) (hf : cells + rm.cells ≤ R.cells ∧ slots + rm.slots ≤ R.slots) :
    va_Run p l e R s m args below meth c H locs cells slots rm.cells rm.slots (F0 m pc ls st0) rest (zk_Qc D A P) A :=
  va_runV (As := As) (rest := rest) C.1 hM (cwV n C.1.2.2.2.2 hT hw rfl rfl hd hR) ⟨zk_blind, zk_recv C hH hk he hc, (zk_pre C hH hS _).2⟩ rfl hn hl.1 hst (lv_room (pc := pc) (ls := ls) hW) hdg hf
/-- invokestatic of a method that returns -/
theorem zk_rS (C : zC p l m c cc nL s args Ts own D tys A g meth) (hM : zM l y ws rm D tys A g As w P) (hH : zk_H D A w H) (hS : va_S A s.heap H locs)
    (hT : GoodIn Ts (va_wsS own index y ws)) (hw : ws = Cond.code y bytes maxL ret :: ws') (hn : As.length = n)
    (hd : y.cls ≠ "java/lang/invoke/MethodHandle" ∧ y.cls ≠ "java/lang/invoke/VarHandle" ∧ (parseMethodDescriptor y.desc).map (fun d => d.parameters.length) = some n) (hR : rm.frames + 1 ≤ R.frames ∧ 8 + (maxL + 11) + rm.locals ≤ R.locals)
    (hl : lv_has ls nL lc) (hst : st0 = As.reverse ++ rest) (hW : (rest.map fun v => v.category).sum ≤ 8) (hdg : decode cc pc = .ok (.invokestatic index, 3)) (hf : cells + rm.cells ≤ R.cells ∧ slots + rm.slots ≤ R.slots) :
    va_Run p l e R s m args below meth c H locs cells slots rm.cells rm.slots (F0 m pc ls st0) rest (zk_Qc D A P) A :=
  va_runS (As := As) (rest := rest) C.1 hM (va_cwS n C.1.2.2.2.2 hT hw rfl rfl hd hR) (zk_pre C hH hS _) rfl hn hl.1 hst (lv_room (pc := pc) (ls := ls) hW) hdg hf
/-- a constructor's call -/
theorem zk_rI (C : zC p l m c cc nL s args Ts own D tys A g meth) (hM : zM l y ws rm D tys A g (.ref b :: As) w P) (hH : zk_H D A w H) (hS : va_S A s.heap H locs)
    (hT : GoodIn Ts ws) (hw : ws = Cond.code y bytes maxL none :: ws') (hini : Cond.initialized y.cls ∈ Ts) (hlk : Cond.methodLink own index y ∈ Ts) (hin : Cond.instanceMethod y ∈ Ts) (hy1 : y.name = "<init>") (hn : As.length = n)
    (hd : y.cls ≠ "java/lang/invoke/MethodHandle" ∧ y.cls ≠ "java/lang/invoke/VarHandle" ∧ (parseMethodDescriptor y.desc).map (fun d => d.parameters.length) = some n) (hR : rm.frames + 1 ≤ R.frames ∧ 8 + (maxL + 11) + rm.locals ≤ R.locals)
    (hl : lv_has ls nL lc) (hst : st0 = As.reverse ++ .ref b :: rest) (hW : (rest.map fun v => v.category).sum ≤ 8) (hdg : decode cc pc = .ok (.invokespecial index, 3)) (hf : cells + rm.cells ≤ R.cells ∧ slots + rm.slots ≤ R.slots) :
    va_Run p l e R s m args below meth c H locs cells slots rm.cells rm.slots (F0 m pc ls st0) rest (zk_Qc D A P) A :=
  va_runI (As := As) (rest := rest) C.1 hM (cwI n C.1.2.2.2.2 hT hw rfl rfl (C.1.2.2.2.2 _ hini) (C.1.2.2.2.2 _ hlk) (C.1.2.2.2.2 _ hin) hy1 hd hR) (zk_pre C hH hS _) rfl hn hl.1 hst (lv_room (pc := pc) (ls := ls) hW) hdg hf
theorem zx_rV (C : zC p l m c cc nL s args Ts own D tys A g meth) {q : vw_C} {k : zk_K} {ci : Nat} {fs : List Value} (hM : zX l y ws rm D tys A g (.ref (w.1 k) :: As) w P PX) (hH : zk_H D A w H) (hS : va_S A s.heap H locs) (hk : w.2.1 k) (he : w.2.2 k = .inr (ci, fs)) (hc : vwCl[ci]? = some q)
    (hT : GoodIn Ts (wsV own index q.1 y ws)) (hw : ws = Cond.code y bytes maxL ret :: ws') (hn : As.length = n)
    (hd : y.cls = q.1 ∧ y.cls ≠ "java/lang/invoke/MethodHandle" ∧ y.cls ≠ "java/lang/invoke/VarHandle" ∧ (parseMethodDescriptor y.desc).map (fun d => d.parameters.length) = some n) (hR : rm.frames + 1 ≤ R.frames ∧ 8 + (maxL + 11) + rm.locals ≤ R.locals)
    (hl : lv_has ls nL lc) (hst : st0 = As.reverse ++ .ref (w.1 k) :: rest) (hW : (rest.map fun v => v.category).sum ≤ 8) (hdg : decode cc pc = .ok (.invokevirtual index, 3)) (hf : cells + rm.cells ≤ R.cells ∧ slots + rm.slots ≤ R.slots) :
    vx_Run p l e R s m args below meth c H locs cells slots rm.cells rm.slots (F0 m pc ls st0) rest (zk_Qc D A P) (zk_XC D A PX) A :=
  vx_runV (As := As) (rest := rest) C.1 hM (cwV n C.1.2.2.2.2 hT hw rfl rfl hd hR) ⟨zk_blind, zk_recv C hH hk he hc, (zk_pre C hH hS _).2⟩ rfl hn hl.1 hst (lv_room (pc := pc) (ls := ls) hW) hdg hf
theorem zx_rS (C : zC p l m c cc nL s args Ts own D tys A g meth) (hM : zX l y ws rm D tys A g As w P PX) (hH : zk_H D A w H) (hS : va_S A s.heap H locs)
    (hT : GoodIn Ts (va_wsS own index y ws)) (hw : ws = Cond.code y bytes maxL ret :: ws') (hn : As.length = n)
    (hd : y.cls ≠ "java/lang/invoke/MethodHandle" ∧ y.cls ≠ "java/lang/invoke/VarHandle" ∧ (parseMethodDescriptor y.desc).map (fun d => d.parameters.length) = some n) (hR : rm.frames + 1 ≤ R.frames ∧ 8 + (maxL + 11) + rm.locals ≤ R.locals)
    (hl : lv_has ls nL lc) (hst : st0 = As.reverse ++ rest) (hW : (rest.map fun v => v.category).sum ≤ 8) (hdg : decode cc pc = .ok (.invokestatic index, 3)) (hf : cells + rm.cells ≤ R.cells ∧ slots + rm.slots ≤ R.slots) :
    vx_Run p l e R s m args below meth c H locs cells slots rm.cells rm.slots (F0 m pc ls st0) rest (zk_Qc D A P) (zk_XC D A PX) A :=
  vx_runS (As := As) (rest := rest) C.1 hM (va_cwS n C.1.2.2.2.2 hT hw rfl rfl hd hR) (zk_pre C hH hS _) rfl hn hl.1 hst (lv_room (pc := pc) (ls := ls) hW) hdg hf
/-! calls: what comes behind -/
theorem zk_c (hr : va_Run p l e R s m args below meth c H locs cells slots mc ms (F0 m pc ls st0) rest (zk_Qc D A P) A) (hS : va_S A s.heap H locs)
    (kk : ∀ (v : Option Value) (w' : zk_W) (H1 : Heap) (locs1 : List Loc), P v w' → zk_H D A w' H1 → va_S A s.heap H1 locs1 → W p l e R s m args below meth c H1 locs1 (cells + mc) (slots + ms) Q (F0 m (pc + 3) ls (v.toList ++ rest))) : W p l e R s m args below meth c H locs cells slots Q (F0 m pc ls st0) := by
  intro T hT X
  obtain ⟨v, st₀, t, T', L, h0, X', hL, e1, e2, ⟨⟨v2, w', hv, hP, hH⟩, hF⟩, st⟩ := hr T hT X
  cases hv
  obtain ⟨k1, k2, k3⟩ := vx_keep (A1 := A) (free := A) h0 e1 hS (fun q _ h => h) (fun q h => h) hL hF
  obtain ⟨t2, a1, b1⟩ := kk v w' T'.heap (locs ++ L) hP (by rw [e1]; exact hH) k3 T' rfl X'
  exact ⟨t2, st t2 a1, b1⟩
theorem zk_ci {Pi : Int32 → zk_W → Prop} (hr : va_Run p l e R s m args below meth c H locs cells slots mc ms (F0 m pc ls st0) rest (zk_Qc D A (zQi Pi)) A) (hS : va_S A s.heap H locs)
    (kk : ∀ (r : Int32) (w' : zk_W) (H1 : Heap) (locs1 : List Loc), Pi r w' → zk_H D A w' H1 → va_S A s.heap H1 locs1 → W p l e R s m args below meth c H1 locs1 (cells + mc) (slots + ms) Q (F0 m (pc + 3) ls (.int r :: rest))) : W p l e R s m args below meth c H locs cells slots Q (F0 m pc ls st0) :=
  zk_c hr hS (fun v w' H1 locs1 hP hH hS => by obtain ⟨r, rfl, hP⟩ := hP; exact kk r w' H1 locs1 hP hH hS)
theorem zk_cl {Pl : Int64 → zk_W → Prop} (hr : va_Run p l e R s m args below meth c H locs cells slots mc ms (F0 m pc ls st0) rest (zk_Qc D A (zQl Pl)) A) (hS : va_S A s.heap H locs)
    (kk : ∀ (r : Int64) (w' : zk_W) (H1 : Heap) (locs1 : List Loc), Pl r w' → zk_H D A w' H1 → va_S A s.heap H1 locs1 → W p l e R s m args below meth c H1 locs1 (cells + mc) (slots + ms) Q (F0 m (pc + 3) ls (.long r :: rest))) : W p l e R s m args below meth c H locs cells slots Q (F0 m pc ls st0) :=
  zk_c hr hS (fun v w' H1 locs1 hP hH hS => by obtain ⟨r, rfl, hP⟩ := hP; exact kk r w' H1 locs1 hP hH hS)
theorem zk_cv {Pv : zk_W → Prop} (hr : va_Run p l e R s m args below meth c H locs cells slots mc ms (F0 m pc ls st0) rest (zk_Qc D A (zQv Pv)) A) (hS : va_S A s.heap H locs)
    (kk : ∀ (w' : zk_W) (H1 : Heap) (locs1 : List Loc), Pv w' → zk_H D A w' H1 → va_S A s.heap H1 locs1 → W p l e R s m args below meth c H1 locs1 (cells + mc) (slots + ms) Q (F0 m (pc + 3) ls rest)) : W p l e R s m args below meth c H locs cells slots Q (F0 m pc ls st0) :=
  zk_c hr hS (fun v w' H1 locs1 hP hH hS => by obtain ⟨rfl, hP⟩ := hP; exact kk w' H1 locs1 hP hH hS)
theorem zk_cr {Pr : Nat → zk_W → Prop} (hr : va_Run p l e R s m args below meth c H locs cells slots mc ms (F0 m pc ls st0) rest (zk_Qc D A (zQr Pr)) A) (hS : va_S A s.heap H locs)
    (kk : ∀ (r : Nat) (w' : zk_W) (H1 : Heap) (locs1 : List Loc), Pr r w' → zk_H D A w' H1 → va_S A s.heap H1 locs1 → W p l e R s m args below meth c H1 locs1 (cells + mc) (slots + ms) Q (F0 m (pc + 3) ls (.ref r :: rest))) : W p l e R s m args below meth c H locs cells slots Q (F0 m pc ls st0) :=
  zk_c hr hS (fun v w' H1 locs1 hP hH hS => by obtain ⟨r, rfl, hP⟩ := hP; exact kk r w' H1 locs1 hP hH hS)
theorem zx_c (hr : vx_Run p l e R s m args below meth c H locs cells slots mc ms (F0 m pc ls st0) rest (zk_Qc D A P) (zk_XC D A PX) A) (hS : va_S A s.heap H locs)
    (kx : ∀ (E : String) (ce : Cell) (q : Addr) (w' : zk_W) (H1 : Heap) (locs1 : List Loc), PX E w' → zk_H D A w' H1 → va_S A s.heap H1 locs1 → H1[q]? = some ce → ce.vm = .none → s.vm.findClass E = some ce.cls → vx_W p l e R s m args below meth c H1 locs1 (cells + mc) (slots + ms) Q (F0 m pc ls rest) q)
    (kk : ∀ (v : Option Value) (w' : zk_W) (H1 : Heap) (locs1 : List Loc), P v w' → zk_H D A w' H1 → va_S A s.heap H1 locs1 → W p l e R s m args below meth c H1 locs1 (cells + mc) (slots + ms) Q (F0 m (pc + 3) ls (v.toList ++ rest))) : W p l e R s m args below meth c H locs cells slots Q (F0 m pc ls st0) := by
  intro T hT X
  rcases hr T hT X with ⟨v, st₀, t, T', L, h0, X', hL, e1, e2, ⟨⟨v2, w', hv, hP, hH⟩, hF⟩, st⟩ | ⟨q, st₀, t, T', L, E, ce, h0, X', hL, e1, e2, ⟨⟨w', hP, hH⟩, hF⟩, hce, hcv, hcl, st⟩
  · cases hv
    obtain ⟨k1, k2, k3⟩ := vx_keep (A1 := A) (free := A) h0 e1 hS (fun q _ h => h) (fun q h => h) hL hF
    obtain ⟨t2, a1, b1⟩ := kk v w' T'.heap (locs ++ L) hP (by rw [e1]; exact hH) k3 T' rfl X'
    exact ⟨t2, st t2 a1, b1⟩
  · obtain ⟨k1, k2, k3⟩ := vx_keep (A1 := A) (free := A) h0 e1 hS (fun q _ h => h) (fun q h => h) hL hF
    obtain ⟨t2, a1, b1⟩ := kx E ce q w' T'.heap (locs ++ L) hP (by rw [e1]; exact hH) k3 (by rw [e1]; exact hce) hcv hcl T' rfl X'
    exact ⟨t2, st.trans a1, b1⟩
/-- what is thrown goes on to the caller -/
theorem zx_go {PX' : String → zk_W → Prop} {Qc : Array Value → State → Outcome → State → Prop} (C : zC p l m c cc nL s args Ts own D tys A g meth) (hex : ∀ x ∈ c.exceptionTable.toList, False) (hi : ∀ E w', PX E w' → PX' E w') (hc : cells ≤ mc) (hs : slots ≤ ms) :
    ∀ (E : String) (ce : Cell) (q : Addr) (w' : zk_W) (H1 : Heap) (locs1 : List Loc), PX E w' → zk_H D A w' H1 → va_S A s.heap H1 locs1 → H1[q]? = some ce → ce.vm = .none → s.vm.findClass E = some ce.cls → vx_W p l e R s m args below meth c H1 locs1 cells slots (vx_MQ below Qc (zk_XC D A PX') args s mc ms A) (F0 m pc ls rest) q :=
  fun E ce q w' H1 locs1 hP hH hS hce hcv hcl => vx_out (fun x hx => (hex x hx).elim) C.2.2 hce hcv hcl (fun t ht _ => ⟨⟨w', hi E w' hP, by rw [ht]; exact hH⟩, hS.F ht⟩) hS.2.2 hc hs
theorem zx_ci {Pi : Int32 → zk_W → Prop} (hr : vx_Run p l e R s m args below meth c H locs cells slots mc ms (F0 m pc ls st0) rest (zk_Qc D A (zQi Pi)) (zk_XC D A PX) A) (hS : va_S A s.heap H locs)
    (kx : ∀ (E : String) (ce : Cell) (q : Addr) (w' : zk_W) (H1 : Heap) (locs1 : List Loc), PX E w' → zk_H D A w' H1 → va_S A s.heap H1 locs1 → H1[q]? = some ce → ce.vm = .none → s.vm.findClass E = some ce.cls → vx_W p l e R s m args below meth c H1 locs1 (cells + mc) (slots + ms) Q (F0 m pc ls rest) q)
    (kk : ∀ (r : Int32) (w' : zk_W) (H1 : Heap) (locs1 : List Loc), Pi r w' → zk_H D A w' H1 → va_S A s.heap H1 locs1 → W p l e R s m args below meth c H1 locs1 (cells + mc) (slots + ms) Q (F0 m (pc + 3) ls (.int r :: rest))) : W p l e R s m args below meth c H locs cells slots Q (F0 m pc ls st0) :=
  zx_c hr hS kx (fun v w' H1 locs1 hP hH hS => by obtain ⟨r, rfl, hP⟩ := hP; exact kk r w' H1 locs1 hP hH hS)
theorem zx_cl {Pl : Int64 → zk_W → Prop} (hr : vx_Run p l e R s m args below meth c H locs cells slots mc ms (F0 m pc ls st0) rest (zk_Qc D A (zQl Pl)) (zk_XC D A PX) A) (hS : va_S A s.heap H locs)
    (kx : ∀ (E : String) (ce : Cell) (q : Addr) (w' : zk_W) (H1 : Heap) (locs1 : List Loc), PX E w' → zk_H D A w' H1 → va_S A s.heap H1 locs1 → H1[q]? = some ce → ce.vm = .none → s.vm.findClass E = some ce.cls → vx_W p l e R s m args below meth c H1 locs1 (cells + mc) (slots + ms) Q (F0 m pc ls rest) q)
    (kk : ∀ (r : Int64) (w' : zk_W) (H1 : Heap) (locs1 : List Loc), Pl r w' → zk_H D A w' H1 → va_S A s.heap H1 locs1 → W p l e R s m args below meth c H1 locs1 (cells + mc) (slots + ms) Q (F0 m (pc + 3) ls (.long r :: rest))) : W p l e R s m args below meth c H locs cells slots Q (F0 m pc ls st0) :=
  zx_c hr hS kx (fun v w' H1 locs1 hP hH hS => by obtain ⟨r, rfl, hP⟩ := hP; exact kk r w' H1 locs1 hP hH hS)
theorem zx_cv {Pv : zk_W → Prop} (hr : vx_Run p l e R s m args below meth c H locs cells slots mc ms (F0 m pc ls st0) rest (zk_Qc D A (zQv Pv)) (zk_XC D A PX) A) (hS : va_S A s.heap H locs)
    (kx : ∀ (E : String) (ce : Cell) (q : Addr) (w' : zk_W) (H1 : Heap) (locs1 : List Loc), PX E w' → zk_H D A w' H1 → va_S A s.heap H1 locs1 → H1[q]? = some ce → ce.vm = .none → s.vm.findClass E = some ce.cls → vx_W p l e R s m args below meth c H1 locs1 (cells + mc) (slots + ms) Q (F0 m pc ls rest) q)
    (kk : ∀ (w' : zk_W) (H1 : Heap) (locs1 : List Loc), Pv w' → zk_H D A w' H1 → va_S A s.heap H1 locs1 → W p l e R s m args below meth c H1 locs1 (cells + mc) (slots + ms) Q (F0 m (pc + 3) ls rest)) : W p l e R s m args below meth c H locs cells slots Q (F0 m pc ls st0) :=
  zx_c hr hS kx (fun v w' H1 locs1 hP hH hS => by obtain ⟨rfl, hP⟩ := hP; exact kk w' H1 locs1 hP hH hS)
theorem zx_cr {Pr : Nat → zk_W → Prop} (hr : vx_Run p l e R s m args below meth c H locs cells slots mc ms (F0 m pc ls st0) rest (zk_Qc D A (zQr Pr)) (zk_XC D A PX) A) (hS : va_S A s.heap H locs)
    (kx : ∀ (E : String) (ce : Cell) (q : Addr) (w' : zk_W) (H1 : Heap) (locs1 : List Loc), PX E w' → zk_H D A w' H1 → va_S A s.heap H1 locs1 → H1[q]? = some ce → ce.vm = .none → s.vm.findClass E = some ce.cls → vx_W p l e R s m args below meth c H1 locs1 (cells + mc) (slots + ms) Q (F0 m pc ls rest) q)
    (kk : ∀ (r : Nat) (w' : zk_W) (H1 : Heap) (locs1 : List Loc), Pr r w' → zk_H D A w' H1 → va_S A s.heap H1 locs1 → W p l e R s m args below meth c H1 locs1 (cells + mc) (slots + ms) Q (F0 m (pc + 3) ls (.ref r :: rest))) : W p l e R s m args below meth c H locs cells slots Q (F0 m pc ls st0) :=
  zx_c hr hS kx (fun v w' H1 locs1 hP hH hS => by obtain ⟨r, rfl, hP⟩ := hP; exact kk r w' H1 locs1 hP hH hS)
/-! fields -/
theorem zr_get (C : zC p l m c cc nL s args Ts own D tys A g meth) {ref Cn : String} {T : u_T} {N ci : Nat} (hin : ∀ w ∈ u_ws Cn T N, w ∈ Ts) (hc : vwCl[ci]? = some (Cn, T, N)) (hH : zk_H D A w H) (k : zk_K) (hk : w.2.1 k) {fs : List Value} (he : w.2.2 k = .inr (ci, fs)) (j : Nat) (hj : j < N)
    (hlink : Cond.fieldLink own index ref (T j).2.1 (T j).2.2.1 ∈ Ts) (hsame : ∀ x, s.fieldFound? (T j).1 (T j).2.1 (T j).2.2.1 = some x → s.fieldFound? ref (T j).2.1 (T j).2.2.1 = some x) {v : Value} (hv : fs[j]? = some v) (hdg : decode cc pc = .ok (.getfield index, 3))
    (kk : W p l e R s m args below meth c H locs cells slots Q (F0 m (pc + 3) ls (v :: rest))) : W p l e R s m args below meth c H locs cells slots Q (F0 m pc ls (.ref (w.1 k) :: rest)) := by
  obtain ⟨ws, hP, hD, hL, hI⟩ := hH
  obtain ⟨i, hi⟩ := hL k hk
  rw [he] at hi
  exact va_get C.1.1 C.1.2.1 C.1.2.2.2.2 hin C.1.2.2.2.1 C.2.1.1 hP i hi hc j hj (C.1.2.2.2.2 _ hlink) hsame hv hdg kk
theorem zr_put (C : zC p l m c cc nL s args Ts own D tys A g meth) {ref Cn : String} {T : u_T} {N ci : Nat} (hin : ∀ w ∈ u_ws Cn T N, w ∈ Ts) (hc : vwCl[ci]? = some (Cn, T, N)) (ty0 : Nat → FieldType) (hty : ∀ k, k < N → parseFieldDescriptor (T k).2.2.1 = some (ty0 k)) (hnm : ∀ a, a < N → ∀ b, b < N → a ≠ b → (T a).2.1 ≠ (T b).2.1) (hH : zk_H D A w H) (hS : va_S A H0 H locs) (k : zk_K) (hk : w.2.1 k) {fs : List Value} (he : w.2.2 k = .inr (ci, fs)) (j : Nat) (hj : j < N)
    (hlink : Cond.fieldLink own index ref (T j).2.1 (T j).2.2.1 ∈ Ts) (hsame : ∀ x, s.fieldFound? (T j).1 (T j).2.1 (T j).2.2.1 = some x → s.fieldFound? ref (T j).2.1 (T j).2.2.1 = some x) (hfin : (T j).2.2.2 = false) {v : Value} (hn : narrow (ty0 j) v = v) (hfit : fits (ty0 j) v = true) (hl : j < fs.length) (hdg : decode cc pc = .ok (.putfield index, 3))
    (w' : zk_W) (hu : zk_up w k (.inr (ci, fs.set j v)) w') (kk : ∀ (H1 : Heap) (locs1 : List Loc), zk_H D A w' H1 → va_S A H0 H1 locs1 → W p l e R s m args below meth c H1 locs1 cells slots Q (F0 m (pc + 3) ls rest)) : W p l e R s m args below meth c H locs cells slots Q (F0 m pc ls (v :: .ref (w.1 k) :: rest)) := by
  obtain ⟨ws, hP, hD, hL, hI⟩ := hH
  obtain ⟨i, hi⟩ := hL k hk
  rw [he] at hi
  exact va_put C.1.1 C.1.2.1 C.1.2.2.2.2 hin ty0 hty hnm C.1.2.2.2.1 C.2.1.1 hP hD hS i hi hc j hj (C.1.2.2.2.2 _ hlink) hsame hfin (hty j hj) hn hfit hl hdg (fun H1 locs1 hP1 hD1 hS1 => kk H1 locs1 (zk_set hL hI hk hi hu hP1 hD1) hS1)
theorem zr_putF (C : zC p l m c cc nL s args Ts own D tys A g meth) {ref Cn : String} {T : u_T} {N ci : Nat} (hin : ∀ w ∈ u_ws Cn T N, w ∈ Ts) (hc : vwCl[ci]? = some (Cn, T, N)) (ty0 : Nat → FieldType) (hty : ∀ k, k < N → parseFieldDescriptor (T k).2.2.1 = some (ty0 k)) (hnm : ∀ a, a < N → ∀ b, b < N → a ≠ b → (T a).2.1 ≠ (T b).2.1) (hH : zk_H D A w H) (hS : va_S A H0 H locs) (k : zk_K) (hk : w.2.1 k) {fs : List Value} (he : w.2.2 k = .inr (ci, fs)) (j : Nat) (hj : j < N)
    (hlink : Cond.fieldLink own index ref (T j).2.1 (T j).2.2.1 ∈ Ts) (hsame : ∀ x, s.fieldFound? (T j).1 (T j).2.1 (T j).2.2.1 = some x → s.fieldFound? ref (T j).2.1 (T j).2.2.1 = some x) (hfin : (T j).2.2.2 = true) (hin2 : meth.name = "<init>") (hdecl : (T j).1 = own) {v : Value} (hn : narrow (ty0 j) v = v) (hfit : fits (ty0 j) v = true) (hl : j < fs.length) (hdg : decode cc pc = .ok (.putfield index, 3))
    (w' : zk_W) (hu : zk_up w k (.inr (ci, fs.set j v)) w') (kk : ∀ (H1 : Heap) (locs1 : List Loc), zk_H D A w' H1 → va_S A H0 H1 locs1 → W p l e R s m args below meth c H1 locs1 cells slots Q (F0 m (pc + 3) ls rest)) : W p l e R s m args below meth c H locs cells slots Q (F0 m pc ls (v :: .ref (w.1 k) :: rest)) := by
  obtain ⟨ws, hP, hD, hL, hI⟩ := hH
  obtain ⟨i, hi⟩ := hL k hk
  rw [he] at hi
  exact va_putF C.1.1 C.1.2.1 C.1.2.2.2.2 hin ty0 hty hnm C.1.2.2.2.1 C.2.1.1 hP hD hS i hi hc j hj (C.1.2.2.2.2 _ hlink) hsame hfin hin2 hdecl (hty j hj) hn hfit hl hdg (fun H1 locs1 hP1 hD1 hS1 => kk H1 locs1 (zk_set hL hI hk hi hu hP1 hD1) hS1)
theorem zr_new (C : zC p l m c cc nL s args Ts own D tys A g meth) {Cn : String} {T : u_T} {N ci : Nat} (hin : ∀ w ∈ u_ws Cn T N, w ∈ Ts) (hc : vwCl[ci]? = some (Cn, T, N)) (ty : Nat → FieldType) (hty : ∀ k, k < N → parseFieldDescriptor (T k).2.2.1 = some (ty k)) (hcl : Cond.classLink own index Cn ∈ Ts) (hinst : Cond.instantiable Cn N ∈ Ts) (hini : Cond.initialized Cn ∈ Ts)
    (hH : zk_H D A w H) (hS : va_S A s.heap H locs) {fs : List Value} (hfs : ∀ j, j < N → defaultValue (ty j) = vp_V fs j) (hcells : cells + 1 ≤ R.cells) (hslots : slots + N ≤ R.slots) (hdg : decode cc pc = .ok (.new index, 3))
    (k : zk_K) (w' : Nat → zk_W) (hn : ∀ q, zk_nw w k q (.inr (ci, fs)) (w' q)) (kk : ∀ (q : Nat) (H1 : Heap), zk_H D A (w' q) H1 → va_S A s.heap H1 locs → W p l e R s m args below meth c H1 locs (cells + 1) (slots + N) Q (F0 m (pc + 3) ls (.ref q :: rest))) : W p l e R s m args below meth c H locs cells slots Q (F0 m pc ls rest) := by
  obtain ⟨ws, hP, hD, hL, hI⟩ := hH
  exact va_new C.1.1 C.1.2.1 C.1.2.2.2.2 hin ty hty C.1.2.2.2.1 (C.1.2.2.2.2 _ hcl) (C.1.2.2.2.2 _ hinst) (C.1.2.2.2.2 _ hini) C.2.1.1 hP hD hS C.2.1.2.1 hc hfs hcells hslots hdg (fun q H1 hP1 hD1 hS1 => kk q H1 (zk_push hL hI (hn q) hP1 hD1) hS1)
/-! arrays -/
theorem zr_iald (C : zC p l m c cc nL s args Ts own D tys A g meth) (hH : zk_H D A w H) (k : zk_K) (hk : w.2.1 k) {cA : ClassId} {n : Nat} {f : Nat → Int32} (he : w.2.2 k = .inl (cA, n, .inl f)) (t0 : Nat) (ht : tys[t0]? = some (cA, .int)) {i : Int32} {j : Nat} (hi : i = nI j) (hj : j < n) (hn : n < 2 ^ 31) (hdg : decode cc pc = .ok (.iaload, 1))
    (kk : W p l e R s m args below meth c H locs cells slots Q (F0 m (pc + 1) ls (.int (f j) :: rest))) : W p l e R s m args below meth c H locs cells slots Q (F0 m pc ls (.int i :: .ref (w.1 k) :: rest)) := by
  obtain ⟨ws, hP, hD, hL, hI⟩ := hH
  obtain ⟨x, hx⟩ := hL k hk
  rw [he] at hx
  subst hi
  refine va_iald C.1.1 C.1.2.1 C.2.1.1 hP x t0 hx ht (vp_in_nI hj hn) hdg ?_
  rw [nI_clamp (Nat.lt_trans hj hn)]
  exact kk
theorem zr_zald (C : zC p l m c cc nL s args Ts own D tys A g meth) (hH : zk_H D A w H) (k : zk_K) (hk : w.2.1 k) {cA : ClassId} {n : Nat} {f : Nat → Int32} (he : w.2.2 k = .inl (cA, n, .inl f)) (t0 : Nat) (ht : tys[t0]? = some (cA, .boolean)) {i : Int32} {j : Nat} (hi : i = nI j) (hj : j < n) (hn : n < 2 ^ 31) (hdg : decode cc pc = .ok (.baload, 1))
    (kk : W p l e R s m args below meth c H locs cells slots Q (F0 m (pc + 1) ls (.int (f j) :: rest))) : W p l e R s m args below meth c H locs cells slots Q (F0 m pc ls (.int i :: .ref (w.1 k) :: rest)) := by
  obtain ⟨ws, hP, hD, hL, hI⟩ := hH
  obtain ⟨x, hx⟩ := hL k hk
  rw [he] at hx
  subst hi
  refine va_zald C.1.1 C.1.2.1 C.2.1.1 hP x t0 hx ht (vp_in_nI hj hn) hdg ?_
  rw [nI_clamp (Nat.lt_trans hj hn)]
  exact kk
theorem zr_lald (C : zC p l m c cc nL s args Ts own D tys A g meth) (hH : zk_H D A w H) (k : zk_K) (hk : w.2.1 k) {cA : ClassId} {n : Nat} {f : Nat → Int64} (he : w.2.2 k = .inl (cA, n, .inr (.inl f))) (t0 : Nat) (ht : tys[t0]? = some (cA, .long)) {i : Int32} {j : Nat} (hi : i = nI j) (hj : j < n) (hn : n < 2 ^ 31) (hdg : decode cc pc = .ok (.laload, 1))
    (kk : W p l e R s m args below meth c H locs cells slots Q (F0 m (pc + 1) ls (.long (f j) :: rest))) : W p l e R s m args below meth c H locs cells slots Q (F0 m pc ls (.int i :: .ref (w.1 k) :: rest)) := by
  obtain ⟨ws, hP, hD, hL, hI⟩ := hH
  obtain ⟨x, hx⟩ := hL k hk
  rw [he] at hx
  subst hi
  refine va_lald C.1.1 C.1.2.1 C.2.1.1 hP x t0 hx ht (vp_in_nI hj hn) hdg ?_
  rw [nI_clamp (Nat.lt_trans hj hn)]
  exact kk
theorem zr_iast (C : zC p l m c cc nL s args Ts own D tys A g meth) (hH : zk_H D A w H) (hS : va_S A H0 H locs) (k : zk_K) (hk : w.2.1 k) {cA : ClassId} {n : Nat} {f : Nat → Int32} (he : w.2.2 k = .inl (cA, n, .inl f)) (t0 : Nat) (ht : tys[t0]? = some (cA, .int)) {i x : Int32} {j : Nat} (hi : i = nI j) (hj : j < n) (hn : n < 2 ^ 31) (hdg : decode cc pc = .ok (.iastore, 1))
    (w' : zk_W) (hu : zk_up w k (.inl (cA, n, .inl (upd f j x))) w') (kk : ∀ (H1 : Heap) (locs1 : List Loc), zk_H D A w' H1 → va_S A H0 H1 locs1 → W p l e R s m args below meth c H1 locs1 cells slots Q (F0 m (pc + 1) ls rest)) : W p l e R s m args below meth c H locs cells slots Q (F0 m pc ls (.int x :: .int i :: .ref (w.1 k) :: rest)) := by
  obtain ⟨ws, hP, hD, hL, hI⟩ := hH
  obtain ⟨z, hz⟩ := hL k hk
  rw [he] at hz
  subst hi
  refine va_iast C.1.1 C.1.2.1 C.2.1.1 hP hD hS z t0 hz ht (vp_in_nI hj hn) hdg (fun H1 locs1 hP1 hD1 hS1 => ?_)
  rw [nI_clamp (Nat.lt_trans hj hn)] at hP1 hD1
  exact kk H1 locs1 (zk_set hL hI hk hz hu hP1 hD1) hS1
theorem zr_zast (C : zC p l m c cc nL s args Ts own D tys A g meth) (hH : zk_H D A w H) (hS : va_S A H0 H locs) (k : zk_K) (hk : w.2.1 k) {cA : ClassId} {n : Nat} {f : Nat → Int32} (he : w.2.2 k = .inl (cA, n, .inl f)) (t0 : Nat) (ht : tys[t0]? = some (cA, .boolean)) {i x : Int32} (hx : x = 0 ∨ x = 1) {j : Nat} (hi : i = nI j) (hj : j < n) (hn : n < 2 ^ 31) (hdg : decode cc pc = .ok (.bastore, 1))
    (w' : zk_W) (hu : zk_up w k (.inl (cA, n, .inl (upd f j x))) w') (kk : ∀ (H1 : Heap) (locs1 : List Loc), zk_H D A w' H1 → va_S A H0 H1 locs1 → W p l e R s m args below meth c H1 locs1 cells slots Q (F0 m (pc + 1) ls rest)) : W p l e R s m args below meth c H locs cells slots Q (F0 m pc ls (.int x :: .int i :: .ref (w.1 k) :: rest)) := by
  obtain ⟨ws, hP, hD, hL, hI⟩ := hH
  obtain ⟨z, hz⟩ := hL k hk
  rw [he] at hz
  subst hi
  refine va_zast C.1.1 C.1.2.1 C.2.1.1 hP hD hS z t0 hz ht (vp_in_nI hj hn) hdg (fun H1 locs1 hP1 hD1 hS1 => ?_)
  have hb : vp_nar .boolean x = x := by rcases hx with rfl | rfl <;> decide
  rw [nI_clamp (Nat.lt_trans hj hn), hb] at hP1 hD1
  exact kk H1 locs1 (zk_set hL hI hk hz hu hP1 hD1) hS1
theorem zr_last (C : zC p l m c cc nL s args Ts own D tys A g meth) (hH : zk_H D A w H) (hS : va_S A H0 H locs) (k : zk_K) (hk : w.2.1 k) {cA : ClassId} {n : Nat} {f : Nat → Int64} (he : w.2.2 k = .inl (cA, n, .inr (.inl f))) (t0 : Nat) (ht : tys[t0]? = some (cA, .long)) {i : Int32} {x : Int64} {j : Nat} (hi : i = nI j) (hj : j < n) (hn : n < 2 ^ 31) (hdg : decode cc pc = .ok (.lastore, 1))
    (w' : zk_W) (hu : zk_up w k (.inl (cA, n, .inr (.inl (vp_updL f j x)))) w') (kk : ∀ (H1 : Heap) (locs1 : List Loc), zk_H D A w' H1 → va_S A H0 H1 locs1 → W p l e R s m args below meth c H1 locs1 cells slots Q (F0 m (pc + 1) ls rest)) : W p l e R s m args below meth c H locs cells slots Q (F0 m pc ls (.long x :: .int i :: .ref (w.1 k) :: rest)) := by
  obtain ⟨ws, hP, hD, hL, hI⟩ := hH
  obtain ⟨z, hz⟩ := hL k hk
  rw [he] at hz
  subst hi
  refine va_last C.1.1 C.1.2.1 C.2.1.1 hP hD hS z t0 hz ht (vp_in_nI hj hn) hdg (fun H1 locs1 hP1 hD1 hS1 => ?_)
  rw [nI_clamp (Nat.lt_trans hj hn)] at hP1 hD1
  exact kk H1 locs1 (zk_set hL hI hk hz hu hP1 hD1) hS1
theorem zr_alen (C : zC p l m c cc nL s args Ts own D tys A g meth) (hH : zk_H D A w H) (k : zk_K) (hk : w.2.1 k) {cA : ClassId} {x : vp_A} (he : w.2.2 k = .inl (cA, x)) (t0 : Nat) {ty : FieldType} (ht : tys[t0]? = some (cA, ty)) (hdg : decode cc pc = .ok (.arraylength, 1))
    (kk : W p l e R s m args below meth c H locs cells slots Q (F0 m (pc + 1) ls (.int (nI x.1) :: rest))) : W p l e R s m args below meth c H locs cells slots Q (F0 m pc ls (.ref (w.1 k) :: rest)) := by
  obtain ⟨ws, hP, hD, hL, hI⟩ := hH
  obtain ⟨z, hz⟩ := hL k hk
  rw [he] at hz
  exact va_alen C.1.1 C.1.2.1 C.2.1.1 hP z t0 hz ht rfl hdg kk
/-- a new array of numbers, of a class that is known already -/
theorem zr_newa (C : zC p l m c cc nL s args Ts own D tys A g meth) (atype : ArrayType) {ty : FieldType} (hty : newarray.typeOf atype = ty) (hprim : ∀ C, ty ≠ .object C) (harr : Cond.arrayClass ty ∈ Ts) (t0 : Nat) {cA : ClassId} (ht : tys[t0]? = some (cA, ty)) (hH : zk_H D A w H) (hS : va_S A s.heap H locs) {n : Int32} {N' : Nat} {a0 : vp_A} (ha : ∀ cA : ClassId, vp_cell cA a0 = arrV cA N' (fun _ => defaultValue ty))
    (hn : ¬ n < 0) (hN : n.toNatClampNeg = N') (hbytes : N' * componentBytes ty ≤ 536870912) (hcells : cells + 1 ≤ R.cells) (hslots : slots + N' ≤ R.slots) (hdg : decode cc pc = .ok (.newarray atype, 2))
    (k : zk_K) (w' : Nat → zk_W) (hnw : ∀ q, zk_nw w k q (.inl (cA, a0)) (w' q)) (kk : ∀ (q : Nat) (H1 : Heap), zk_H D A (w' q) H1 → va_S A s.heap H1 locs → W p l e R s m args below meth c H1 locs (cells + 1) (slots + N') Q (F0 m (pc + 2) ls (.ref q :: rest))) : W p l e R s m args below meth c H locs cells slots Q (F0 m pc ls (.int n :: rest)) := by
  obtain ⟨ws, hP, hD, hL, hI⟩ := hH
  subst hty
  refine va_newa C.1.1 C.1.2.1 (C.1.2.2.2.2 _ harr) rfl C.2.1.1 hP hD hS C.2.1.2.1 ha hn hN hbytes hcells hslots hdg (fun q cB H1 hK1 hP1 hD1 hS1 => ?_)
  have e1 : s.vm.findClass ("[" ++ (newarray.typeOf atype).toString) = some cA := by
    have := (C.2.1.1.2 t0 _ ht).2
    cases atype <;> exact this
  have e2 : s.vm.findClass ("[" ++ (newarray.typeOf atype).toString) = some cB := by
    have := (hK1.2 tys.length (cB, newarray.typeOf atype) (by rw [List.getElem?_append_right (Nat.le_refl _), Nat.sub_self]; rfl)).2
    cases atype <;> exact this
  cases e1.symm.trans e2
  exact kk q H1 (zk_push hL hI (hnw q) hP1 hD1) hS1
end ZR
section ZL
variable {p : Program} {l : Launch} {e : Env} {R : Room} {s : State} {m : MethodId} {args : Array Value} {below : List Frame} {meth : Method} {c : Code} {H : Heap} {locs : List Loc} {cells slots : Nat} {Q : State → Prop}
variable {cc : ByteArray} {pc : Nat} {ls : Array Slot} {rest : List Value}
theorem zl_cmp_eq (hx : p.tables.exec = Jvm.exec) (hb : c.code = cc) {x y : Int64} {off : Int} {tgt : Nat} (d1 : decode cc pc = .ok (.lcmp, 1)) (d2 : decode cc (pc + 1) = .ok (.ifCond .eq off, 3)) (ht : ((pc + 1 : Nat) : Int) + off = (tgt : Int))
    (kt : x = y → W p l e R s m args below meth c H locs cells slots Q (F0 m tgt ls rest)) (kf : ¬ x = y → W p l e R s m args below meth c H locs cells slots Q (F0 m (pc + 1 + 3) ls rest)) : W p l e R s m args below meth c H locs cells slots Q (F0 m pc ls (.long y :: .long x :: rest)) :=
  W.lcmp hx hb d1 (lv_if_eq hx hb d2 ht (fun h => kt ((lg_cmp_eq x y).mp h)) (fun h => kf (fun z => h ((lg_cmp_eq x y).mpr z))))
theorem zl_cmp_ne (hx : p.tables.exec = Jvm.exec) (hb : c.code = cc) {x y : Int64} {off : Int} {tgt : Nat} (d1 : decode cc pc = .ok (.lcmp, 1)) (d2 : decode cc (pc + 1) = .ok (.ifCond .ne off, 3)) (ht : ((pc + 1 : Nat) : Int) + off = (tgt : Int))
    (kt : ¬ x = y → W p l e R s m args below meth c H locs cells slots Q (F0 m tgt ls rest)) (kf : x = y → W p l e R s m args below meth c H locs cells slots Q (F0 m (pc + 1 + 3) ls rest)) : W p l e R s m args below meth c H locs cells slots Q (F0 m pc ls (.long y :: .long x :: rest)) :=
  W.lcmp hx hb d1 (lv_if_ne hx hb d2 ht (fun h => kt (fun z => h ((lg_cmp_eq x y).mpr z))) (fun h => kf ((lg_cmp_eq x y).mp h)))
theorem zl_cmp_lt (hx : p.tables.exec = Jvm.exec) (hb : c.code = cc) {x y : Int64} {off : Int} {tgt : Nat} (d1 : decode cc pc = .ok (.lcmp, 1)) (d2 : decode cc (pc + 1) = .ok (.ifCond .lt off, 3)) (ht : ((pc + 1 : Nat) : Int) + off = (tgt : Int))
    (kt : x < y → W p l e R s m args below meth c H locs cells slots Q (F0 m tgt ls rest)) (kf : ¬ x < y → W p l e R s m args below meth c H locs cells slots Q (F0 m (pc + 1 + 3) ls rest)) : W p l e R s m args below meth c H locs cells slots Q (F0 m pc ls (.long y :: .long x :: rest)) :=
  W.lcmp hx hb d1 (lv_if_lt hx hb d2 ht (fun h => kt ((lg_cmp_lt x y).mp h)) (fun h => kf (fun z => h ((lg_cmp_lt x y).mpr z))))
theorem zl_cmp_gt (hx : p.tables.exec = Jvm.exec) (hb : c.code = cc) {x y : Int64} {off : Int} {tgt : Nat} (d1 : decode cc pc = .ok (.lcmp, 1)) (d2 : decode cc (pc + 1) = .ok (.ifCond .gt off, 3)) (ht : ((pc + 1 : Nat) : Int) + off = (tgt : Int))
    (kt : y < x → W p l e R s m args below meth c H locs cells slots Q (F0 m tgt ls rest)) (kf : ¬ y < x → W p l e R s m args below meth c H locs cells slots Q (F0 m (pc + 1 + 3) ls rest)) : W p l e R s m args below meth c H locs cells slots Q (F0 m pc ls (.long y :: .long x :: rest)) :=
  W.lcmp hx hb d1 (lv_if_gt hx hb d2 ht (fun h => kt ((lg_cmp_gt x y).mp h)) (fun h => kf (fun z => h ((lg_cmp_gt x y).mpr z))))
theorem zl_cmp_ge (hx : p.tables.exec = Jvm.exec) (hb : c.code = cc) {x y : Int64} {off : Int} {tgt : Nat} (d1 : decode cc pc = .ok (.lcmp, 1)) (d2 : decode cc (pc + 1) = .ok (.ifCond .ge off, 3)) (ht : ((pc + 1 : Nat) : Int) + off = (tgt : Int))
    (kt : ¬ x < y → W p l e R s m args below meth c H locs cells slots Q (F0 m tgt ls rest)) (kf : x < y → W p l e R s m args below meth c H locs cells slots Q (F0 m (pc + 1 + 3) ls rest)) : W p l e R s m args below meth c H locs cells slots Q (F0 m pc ls (.long y :: .long x :: rest)) :=
  W.lcmp hx hb d1 (lv_if_ge hx hb d2 ht (fun h => kt (Int64.not_lt.mpr ((lg_cmp_ge x y).mp h))) (fun h => kf (Int64.not_le.mp (fun z => h ((lg_cmp_ge x y).mpr z)))))
theorem zl_cmp_le (hx : p.tables.exec = Jvm.exec) (hb : c.code = cc) {x y : Int64} {off : Int} {tgt : Nat} (d1 : decode cc pc = .ok (.lcmp, 1)) (d2 : decode cc (pc + 1) = .ok (.ifCond .le off, 3)) (ht : ((pc + 1 : Nat) : Int) + off = (tgt : Int))
    (kt : ¬ y < x → W p l e R s m args below meth c H locs cells slots Q (F0 m tgt ls rest)) (kf : y < x → W p l e R s m args below meth c H locs cells slots Q (F0 m (pc + 1 + 3) ls rest)) : W p l e R s m args below meth c H locs cells slots Q (F0 m pc ls (.long y :: .long x :: rest)) :=
  W.lcmp hx hb d1 (lv_if_le hx hb d2 ht (fun h => kt (Int64.not_lt.mpr ((lg_cmp_le x y).mp h))) (fun h => kf (Int64.not_le.mp (fun z => h ((lg_cmp_le x y).mpr z)))))
end ZL
/-- a place of a walk: every heap that holds the world -/
def zL (p : Program) (l : Launch) (e : Env) (R : Room) (s : State) (m : MethodId) (args : Array Value) (below : List Frame) (meth : Method) (c : Code) (nL : Nat) (D : va_G) (A : Nat → Prop) (Q : State → Prop) (w : zk_W) (cells slots pc : Nat) (lc : List (Nat × Value)) (st : List Value) : Prop :=
  ∀ (H : Heap) (locs : List Loc) (ls : Array Slot), zk_H D A w H → va_S A s.heap H locs → lv_has ls nL lc → W p l e R s m args below meth c H locs cells slots Q (F0 m pc ls st)
theorem z_loop {P : Nat → Prop} {n : Nat} (hx : P n) (hs : ∀ i, i < n → P (i + 1) → P i) : ∀ i, i ≤ n → P i := by
  intro i hi
  induction hk : n - i generalizing i with
  | zero => rw [show i = n by omega]; exact hx
  | succ k ih => exact hs i (by omega) (ih (i + 1) (by omega) (by omega))
theorem z_at {P : Nat → Prop} {G : Prop} {n : Nat} (i0 : Nat) (hi : i0 ≤ n) (use : P i0 → G) (hx : P n) (hs : ∀ i, i < n → P (i + 1) → P i) : G := use (z_loop hx hs i0 hi)
end
section
/-! ===== rows, and the reference's functions (as functions alone) ===== -/
abbrev zIA : Type := Nat → Nat → Int32
abbrev zLA : Type := Nat → Nat → Int64
/-- one place of one row is set -/
def up2 {α : Type} (f : Nat → Nat → α) (a i : Nat) (v : α) : Nat → Nat → α := fun a' i' => if a' = a ∧ i' = i then v else f a' i'
theorem up2_s {α : Type} (f : Nat → Nat → α) (a i : Nat) (v : α) : up2 f a i v a i = v := if_pos ⟨rfl, rfl⟩
theorem up2_a {α : Type} {f : Nat → Nat → α} {a i : Nat} {v : α} {a' : Nat} (h : a' ≠ a) : up2 f a i v a' = f a' := funext fun i' => if_neg (fun z => h z.1)
theorem up2_i {α : Type} {f : Nat → Nat → α} {a i : Nat} {v : α} {i' : Nat} (h : i' ≠ i) (a' : Nat) : up2 f a i v a' i' = f a' i' := if_neg (fun z => h z.2)
theorem up2_ne {α : Type} {f : Nat → Nat → α} {a i : Nat} {v : α} {a' i' : Nat} (h : a' ≠ a) : up2 f a i v a' i' = f a' i' := if_neg (fun z => h z.1)
theorem up2_I (f : zIA) (a i : Nat) (v : Int32) : up2 f a i v a = upd (f a) i v := by
  funext j
  by_cases h : j = i
  · subst h; simp [up2, upd]
  · simp [up2, upd, h]
theorem up2_L (f : zLA) (a i : Nat) (v : Int64) : up2 f a i v a = vp_updL (f a) i v := by
  funext j
  by_cases h : j = i
  · subst h; simp [up2, vp_updL]
  · simp [up2, vp_updL, h]
/-- arrays: of ints, longs, ints, references -/
def zt (cA : Nat → ClassId) : List (ClassId × FieldType) := [(cA 0, .int), (cA 1, .long), (cA 2, .int), (cA 3, .object "java/lang/Object")]
/-- x is a number below n -/
def zIn (x : Int32) (n : Nat) : Prop := ∃ j : Nat, j < n ∧ x = nI j
def zR (x a b : Int32) : Prop := a ≤ x ∧ x ≤ b
/-! ===== the reference's constructor ===== -/
def zk_ad (ad : zk_K → Nat) (k : zk_K) (q : Nat) : zk_K → Nat := fun k' => if k' = k then q else ad k'
theorem zk_ad_s (ad : zk_K → Nat) (k : zk_K) (q : Nat) : zk_ad ad k q k = q := if_pos rfl
theorem zk_ad_n {ad : zk_K → Nat} {k : zk_K} {q : Nat} {k' : zk_K} (h : k' ≠ k) : zk_ad ad k q k' = ad k' := if_neg h
def mpI : zIA := fun _ _ => 0
def mpL : zLA := fun _ _ => 0
def prI : Nat → zIA
  | 0 => mpI
  | i + 1 => up2 (prI i) 1 i 10000
theorem zi_add {x y : Int32} {a b : Nat} (hx : x = nI a) (hy : y = nI b) : x + y = nI (a + b) := by rw [hx, hy, nI_add]
theorem zi_mul {x y : Int32} {a b : Nat} (hx : x = nI a) (hy : y = nI b) : x * y = nI (a * b) := by rw [hx, hy, pk_mul]
/-- what 'fails' answers -/
def fV (k : Int32) : Int32 := if 0 < k then 1 else 0
/-- the costs of an amount -/
def costL (x : Int64) : Int64 := x * (if x < 10000 then 100 else if x < 100000 then 50 else 20) / 10000
def partsL (I : zIA) (f : Nat) (its : Int64) : Int64 := its * 1000 / Int32.toInt64 (I 1 f)
def amountL (I : zIA) (f : Nat) (many : Int64) : Int64 := many * Int32.toInt64 (I 1 f) / 1000
def valueL (I : zIA) (L : zLA) (c f : Nat) : Int64 := amountL I f (L 8 (6 * c + f))
/-- cash and the first k funds' values -/
def wealthL (I : zIA) (L : zLA) (c : Nat) : Nat → Int64
  | 0 => L 6 c
  | k + 1 => wealthL I L c k + valueL I L c k
/-- units that are bought when 'many' parts are more than the stock -/
def moreL (L : zLA) (f : Nat) (many : Int64) : Int64 := (many - L 3 f + 1000 - 1) / 1000
def moveM (I : zIA) (L : zLA) (f : Nat) (many : Int64) (mo : Int64) : Int64 := if L 3 f < many then mo - moreL L f many * Int32.toInt64 (I 1 f) else mo
def moveS (L : zLA) (f : Nat) (many : Int64) : zLA := if L 3 f < many then up2 (up2 L 2 f (L 2 f + moreL L f many)) 3 f (L 3 f + moreL L f many * 1000) else L
def moveL (L : zLA) (c f : Nat) (many : Int64) : zLA := up2 (up2 (moveS L f many) 3 f (moveS L f many 3 f - many)) 8 (6 * c + f) (L 8 (6 * c + f) + many)
def payL (L : zLA) (c : Nat) (its : Int64) : zLA := up2 L 6 c (L 6 c - its)
/-- what a trade takes from the client's cash -/
def paidL (many its : Int64) : Int64 := if 0 < many then its + costL its else costL its - its
/-- a trade's own rows -/
def noteI (I : zIA) (nt dy c f : Nat) : zIA := up2 (up2 (up2 (up2 I 11 nt (nI c)) 12 nt (nI f)) 16 nt (nI dy)) 17 nt 1
def noteR (L : zLA) (nt : Nat) (many its : Int64) : zLA := up2 (up2 (up2 L 13 nt many) 14 nt its) 15 nt (costL its)
def noteL (L : zLA) (nt c f : Nat) (many its : Int64) : zLA := moveL (payL (noteR L nt many its) c (paidL many its)) c f many
def noteM (I : zIA) (L : zLA) (f : Nat) (many its : Int64) (mo : Int64) : Int64 := moveM I L f many (mo + paidL many its)
theorem zIn_le {x b : Int32} {n : Nat} (hn : n < 2 ^ 30) (hb : b = nI n - 1) : b.toInt = (n : Int) - 1 := by
  have h := pk_sub_toInt (a := n) (b := 1) hn (by decide)
  rw [hb]
  exact h
theorem zIn_of {x b : Int32} {n : Nat} (hn : n < 2 ^ 30) (h : zR x 0 b) (hb : b = nI n - 1) : zIn x n := by
  have e := zIn_le (x := x) hn hb
  obtain ⟨j, hj, rfl⟩ := nI_of (Int32.not_lt.mpr h.1)
  have h2 := Int32.le_iff_toInt_le.mp h.2
  rw [e, nI_toInt hj] at h2
  exact ⟨j, by omega, rfl⟩
theorem zIn_no {x b : Int32} {n : Nat} (hn : n < 2 ^ 30) (h : ¬ zR x 0 b) (hb : b = nI n - 1) : ¬ zIn x n := by
  have e := zIn_le (x := x) hn hb
  rintro ⟨j, hj, rfl⟩
  refine h ⟨nI_pos' (by omega), Int32.le_iff_toInt_le.mpr ?_⟩
  rw [e, nI_toInt (by omega)]
  omega
end
section
/-! ===== what the reference's methods do, as functions ===== -/
def dN (x : Int32) : Nat := x.toNatClampNeg
/-- x is a number below n, which is dN x -/
def zD (x : Int32) (n : Nat) : Prop := x = nI (dN x) ∧ dN x < n
theorem zi_div {x y : Int32} {a b : Nat} (hx : x = nI a) (hy : y = nI b) (ha : a < 2 ^ 31) (h0 : 0 < b) (hb : b < 2 ^ 31) : x / y = nI (a / b) := by rw [hx, hy, pk_div ha h0 hb]
theorem up2_back {f : zIA} {a i : Nat} {v w : Int32} (h : f a i = w) : up2 (up2 f a i v) a i w = f := by
  funext x y
  by_cases hx : x = a ∧ y = i
  · obtain ⟨rfl, rfl⟩ := hx
    rw [up2_s, h]
  · show (if _ then _ else (if _ then _ else _)) = _
    rw [if_neg hx, if_neg hx]
/-- the goals together, with one changed -/
def sumG (I : zIA) (c f : Nat) (its : Int32) : Nat → Int32
  | 0 => its
  | k + 1 => sumG I c f its k + (if k = f then 0 else I 7 (6 * c + k))
theorem sumG_p {I : zIA} {c f : Nat} {its : Int32} {k : Nat} (h : k = f) : sumG I c f its (k + 1) = sumG I c f its k + 0 := by
  show sumG I c f its k + _ = _
  rw [if_pos h]
theorem sumG_n {I : zIA} {c f : Nat} {its : Int32} {k : Nat} (h : ¬ k = f) : sumG I c f its (k + 1) = sumG I c f its k + I 7 (6 * c + k) := by
  show sumG I c f its k + _ = _
  rw [if_neg h]
/-- count of trades made, trades, money, rows -/
abbrev zS : Type := Nat × Nat × Int64 × zIA × zLA
def noteS (dy c f : Nat) (many its : Int64) (s : zS) : zS := (s.1 + 1, s.2.1 + 1, noteM s.2.2.2.1 s.2.2.2.2 f many its s.2.2.1, noteI s.2.2.2.1 s.2.1 dy c f, noteL s.2.2.2.2 s.2.1 c f many its)
def sellMany (I : zIA) (L : zLA) (c f : Nat) (due : Int64) : Int64 := if 0 < valueL I L c f - due then partsL I f (valueL I L c f - due) else 0
def sellNo (I : zIA) (L : zLA) (c f : Nat) (due : Int64) : Prop := sellMany I L c f due = 0 ∨ amountL I f (sellMany I L c f due) = 0
def buyIts (I : zIA) (L : zLA) (c f : Nat) (due : Int64) : Int64 := if due - valueL I L c f < L 6 c - L 6 c / 100 then due - valueL I L c f else L 6 c - L 6 c / 100
def buyNo (I : zIA) (L : zLA) (c f : Nat) (due : Int64) : Prop := ¬ 0 < buyIts I L c f due ∨ partsL I f (buyIts I L c f due) = 0
def dueL (I : zIA) (all : Int64) (c f : Nat) : Int64 := all * Int32.toInt64 (I 7 (6 * c + f)) / 100
def sellsS (dy c f : Nat) (due : Int64) (s : zS) : zS := if sellMany s.2.2.2.1 s.2.2.2.2 c f due = 0 ∨ amountL s.2.2.2.1 f (sellMany s.2.2.2.1 s.2.2.2.2 c f due) = 0 then s else noteS dy c f (-sellMany s.2.2.2.1 s.2.2.2.2 c f due) (amountL s.2.2.2.1 f (sellMany s.2.2.2.1 s.2.2.2.2 c f due)) s
def buysS (dy c f : Nat) (due : Int64) (s : zS) : zS := if ¬ 0 < buyIts s.2.2.2.1 s.2.2.2.2 c f due ∨ partsL s.2.2.2.1 f (buyIts s.2.2.2.1 s.2.2.2.2 c f due) = 0 then s else noteS dy c f (partsL s.2.2.2.1 f (buyIts s.2.2.2.1 s.2.2.2.2 c f due)) (buyIts s.2.2.2.1 s.2.2.2.2 c f due) s
def selS (dy c : Nat) (all : Int64) (s : zS) : Nat → zS
  | 0 => s
  | k + 1 => sellsS dy c k (dueL (selS dy c all s k).2.2.2.1 all c k) (selS dy c all s k)
def buyS (dy c : Nat) (all : Int64) (s : zS) : Nat → zS
  | 0 => s
  | k + 1 => buysS dy c k (dueL (buyS dy c all s k).2.2.2.1 all c k) (buyS dy c all s k)
theorem selS_p {dy c : Nat} {all : Int64} {s : zS} {k : Nat} (h : sellNo (selS dy c all s k).2.2.2.1 (selS dy c all s k).2.2.2.2 c k (dueL (selS dy c all s k).2.2.2.1 all c k)) : selS dy c all s (k + 1) = selS dy c all s k := if_pos h
theorem selS_n {dy c : Nat} {all : Int64} {s : zS} {k : Nat} (h : ¬ sellNo (selS dy c all s k).2.2.2.1 (selS dy c all s k).2.2.2.2 c k (dueL (selS dy c all s k).2.2.2.1 all c k)) : selS dy c all s (k + 1) = noteS dy c k (-sellMany (selS dy c all s k).2.2.2.1 (selS dy c all s k).2.2.2.2 c k (dueL (selS dy c all s k).2.2.2.1 all c k)) (amountL (selS dy c all s k).2.2.2.1 k (sellMany (selS dy c all s k).2.2.2.1 (selS dy c all s k).2.2.2.2 c k (dueL (selS dy c all s k).2.2.2.1 all c k))) (selS dy c all s k) := if_neg h
theorem buyS_p {dy c : Nat} {all : Int64} {s : zS} {k : Nat} (h : buyNo (buyS dy c all s k).2.2.2.1 (buyS dy c all s k).2.2.2.2 c k (dueL (buyS dy c all s k).2.2.2.1 all c k)) : buyS dy c all s (k + 1) = buyS dy c all s k := if_pos h
theorem buyS_n {dy c : Nat} {all : Int64} {s : zS} {k : Nat} (h : ¬ buyNo (buyS dy c all s k).2.2.2.1 (buyS dy c all s k).2.2.2.2 c k (dueL (buyS dy c all s k).2.2.2.1 all c k)) : buyS dy c all s (k + 1) = noteS dy c k (partsL (buyS dy c all s k).2.2.2.1 k (buyIts (buyS dy c all s k).2.2.2.1 (buyS dy c all s k).2.2.2.2 c k (dueL (buyS dy c all s k).2.2.2.1 all c k))) (buyIts (buyS dy c all s k).2.2.2.1 (buyS dy c all s k).2.2.2.2 c k (dueL (buyS dy c all s k).2.2.2.1 all c k)) (buyS dy c all s k) := if_neg h
theorem selS_nt {dy c : Nat} {all : Int64} {s : zS} : ∀ k, (selS dy c all s k).2.1 ≤ s.2.1 + k
  | 0 => Nat.le_refl _
  | k + 1 => by
    have ih := selS_nt (dy := dy) (c := c) (all := all) (s := s) k
    show (sellsS _ _ _ _ _).2.1 ≤ _
    unfold sellsS
    split
    · omega
    · show (selS dy c all s k).2.1 + 1 ≤ _
      omega
theorem buyS_nt {dy c : Nat} {all : Int64} {s : zS} : ∀ k, (buyS dy c all s k).2.1 ≤ s.2.1 + k
  | 0 => Nat.le_refl _
  | k + 1 => by
    have ih := buyS_nt (dy := dy) (c := c) (all := all) (s := s) k
    show (buysS _ _ _ _ _).2.1 ≤ _
    unfold buysS
    split
    · omega
    · show (buyS dy c all s k).2.1 + 1 ≤ _
      omega
theorem noteI_1 (I : zIA) (nt dy c f : Nat) : noteI I nt dy c f 1 = I 1 := by
  unfold noteI
  rw [up2_a (by decide), up2_a (by decide), up2_a (by decide), up2_a (by decide)]
theorem noteI_7 (I : zIA) (nt dy c f : Nat) : noteI I nt dy c f 7 = I 7 := by
  unfold noteI
  rw [up2_a (by decide), up2_a (by decide), up2_a (by decide), up2_a (by decide)]
theorem noteS_1 {dy c f : Nat} {many its : Int64} {s : zS} : (noteS dy c f many its s).2.2.2.1 1 = s.2.2.2.1 1 := noteI_1 s.2.2.2.1 s.2.1 dy c f
theorem selS_1 {dy c : Nat} {all : Int64} {s : zS} : ∀ k, (selS dy c all s k).2.2.2.1 1 = s.2.2.2.1 1
  | 0 => rfl
  | k + 1 => by
    have ih := selS_1 (dy := dy) (c := c) (all := all) (s := s) k
    show (sellsS _ _ _ _ _).2.2.2.1 1 = _
    unfold sellsS
    split
    · exact ih
    · rw [noteS_1]; exact ih
theorem buyS_1 {dy c : Nat} {all : Int64} {s : zS} : ∀ k, (buyS dy c all s k).2.2.2.1 1 = s.2.2.2.1 1
  | 0 => rfl
  | k + 1 => by
    have ih := buyS_1 (dy := dy) (c := c) (all := all) (s := s) k
    show (buysS _ _ _ _ _).2.2.2.1 1 = _
    unfold buysS
    split
    · exact ih
    · rw [noteS_1]; exact ih
/-- a share, bit by bit -/
def shK (i : Nat) : Int32 := nI 50 - nI i
theorem shK_s (i : Nat) : shK i + (-1) = shK (i + 1) := by
  unfold shK
  rw [nI_succ i, Int32.sub_eq_add_neg (nI 50), Int32.sub_eq_add_neg (nI 50), Int32.neg_add, Int32.add_assoc, Int32.sub_eq_add_neg (-nI i)]
theorem shK_nn {i : Nat} (h : i < 51) : ¬ shK i < 0 := by
  unfold shK
  rw [pk_sub (by omega)]
  exact nI_pos (by omega)
def shR (its part : Int64) (i : Nat) (rest : Int64) : Int64 := 2 * rest + (its >>> ((Int32.toInt64 (shK i)) &&& 63) &&& 1) * part
def shF (its part whole : Int64) : Nat → Int64 × Int64
  | 0 => (0, 0)
  | i + 1 => (2 * (shF its part whole i).1 + shR its part i (shF its part whole i).2 / whole, shR its part i (shF its part whole i).2 - shR its part i (shF its part whole i).2 / whole * whole)
def shareV (its part whole : Int64) : Int64 := (shF its part whole 51).1
/-- taking parts from lots: cost, what is left, rows -/
def tkG (left p : Int64) : Int64 := if left < p then left else p
def tkI (L : zLA) (k : Nat) (goes : Int64) : Int64 := if goes = L 20 k then L 21 k else shareV (L 21 k) goes (L 20 k)
def tkL (L : zLA) (k : Nat) (goes its : Int64) : zLA := up2 (up2 L 21 k (L 21 k - its)) 20 k (up2 L 21 k (L 21 k - its) 20 k - goes)
def tkS (L : zLA) (many : Int64) : Nat → Int64 × Int64 × zLA
  | 0 => (0, many, L)
  | k + 1 => if 0 < tkG (tkS L many k).2.1 ((tkS L many k).2.2 20 k) then ((tkS L many k).1 + tkI (tkS L many k).2.2 k (tkG (tkS L many k).2.1 ((tkS L many k).2.2 20 k)), (tkS L many k).2.1 - tkG (tkS L many k).2.1 ((tkS L many k).2.2 20 k), tkL (tkS L many k).2.2 k (tkG (tkS L many k).2.1 ((tkS L many k).2.2 20 k)) (tkI (tkS L many k).2.2 k (tkG (tkS L many k).2.1 ((tkS L many k).2.2 20 k)))) else tkS L many k
theorem tkS_n {L : zLA} {many g : Int64} {k : Nat} (hg : tkG (tkS L many k).2.1 ((tkS L many k).2.2 20 k) = g) (h : ¬ 0 < g) : tkS L many (k + 1) = tkS L many k := by
  subst hg
  exact if_neg h
theorem tkS_p {L : zLA} {many g its : Int64} {k : Nat} (hg : tkG (tkS L many k).2.1 ((tkS L many k).2.2 20 k) = g) (h : 0 < g) (hi : tkI (tkS L many k).2.2 k g = its) : tkS L many (k + 1) = ((tkS L many k).1 + its, (tkS L many k).2.1 - g, tkL (tkS L many k).2.2 k g its) := by
  subst hg
  subst hi
  exact if_pos h
/-- finding the lots of a client and a fund: lots, rows -/
abbrev zF : Type := Nat × zIA × zLA
def fdT (s : zF) (c f t : Nat) : Prop := ¬ s.2.1 17 t = 0 ∧ s.2.1 11 t = nI c ∧ s.2.1 12 t = nI f
def fdB (s : zF) (t : Nat) : zF := (s.1 + 1, up2 s.2.1 19 s.1 (nI t), up2 (up2 s.2.2 20 s.1 (s.2.2 13 t)) 21 s.1 (up2 s.2.2 20 s.1 (s.2.2 13 t) 14 t + up2 s.2.2 20 s.1 (s.2.2 13 t) 15 t))
def fdG (s : zF) (t : Nat) : zF := (s.1, s.2.1, up2 (tkS s.2.2 (-s.2.2 13 t) s.1).2.2 22 (dN (s.2.1 16 t) / 360) (s.2.2 22 (dN (s.2.1 16 t) / 360) + (s.2.2 14 t - s.2.2 15 t - (tkS s.2.2 (-s.2.2 13 t) s.1).1)))
def fdS (I : zIA) (L : zLA) (c f : Nat) : Nat → zF
  | 0 => (0, I, L)
  | t + 1 => if ¬ (fdS I L c f t).2.1 17 t = 0 ∧ (fdS I L c f t).2.1 11 t = nI c ∧ (fdS I L c f t).2.1 12 t = nI f then (if 0 < (fdS I L c f t).2.2 13 t then fdB (fdS I L c f t) t else fdG (fdS I L c f t) t) else fdS I L c f t
theorem fdS_n {I : zIA} {L : zLA} {c f t : Nat} (h : ¬ fdT (fdS I L c f t) c f t) : fdS I L c f (t + 1) = fdS I L c f t := if_neg h
theorem fdS_b {I : zIA} {L : zLA} {c f t : Nat} (h : fdT (fdS I L c f t) c f t) (h2 : 0 < (fdS I L c f t).2.2 13 t) : fdS I L c f (t + 1) = fdB (fdS I L c f t) t := (if_pos h).trans (if_pos h2)
theorem fdS_g {I : zIA} {L : zLA} {c f t : Nat} (h : fdT (fdS I L c f t) c f t) (h2 : ¬ 0 < (fdS I L c f t).2.2 13 t) : fdS I L c f (t + 1) = fdG (fdS I L c f t) t := (if_pos h).trans (if_neg h2)
theorem fdS_I {I : zIA} {L : zLA} {c f a : Nat} (ha : a ≠ 19) : ∀ t, (fdS I L c f t).2.1 a = I a
  | 0 => rfl
  | t + 1 => by
    have ih := fdS_I (I := I) (L := L) (c := c) (f := f) ha t
    by_cases h : fdT (fdS I L c f t) c f t
    · by_cases h2 : 0 < (fdS I L c f t).2.2 13 t
      · rw [fdS_b h h2]
        exact (up2_a ha).trans ih
      · rw [fdS_g h h2]
        exact ih
    · rw [fdS_n h]
      exact ih
theorem fdS_nl {I : zIA} {L : zLA} {c f : Nat} : ∀ t, (fdS I L c f t).1 ≤ t
  | 0 => Nat.le_refl _
  | t + 1 => by
    have ih := fdS_nl (I := I) (L := L) (c := c) (f := f) t
    by_cases h : fdT (fdS I L c f t) c f t
    · by_cases h2 : 0 < (fdS I L c f t).2.2 13 t
      · rw [fdS_b h h2]
        show (fdS I L c f t).1 + 1 ≤ _
        omega
      · rw [fdS_g h h2]
        show (fdS I L c f t).1 ≤ _
        omega
    · rw [fdS_n h]
      omega
/-- the years of a client -/
def zrS (L : zLA) : Nat → zLA
  | 0 => L
  | k + 1 => up2 (zrS L k) 22 k 0
def fsS (s : zF) (c nt : Nat) : Nat → zF
  | 0 => s
  | f + 1 => fdS (fsS s c nt f).2.1 (fsS s c nt f).2.2 c f nt
theorem fsS_I {s : zF} {c nt a : Nat} (ha : a ≠ 19) : ∀ k, (fsS s c nt k).2.1 a = s.2.1 a
  | 0 => rfl
  | k + 1 => (fdS_I ha nt).trans (fsS_I ha k)
def byS (L : zLA) : Nat → Int64 × zLA
  | 0 => (0, L)
  | y + 1 => if (byS L y).2 22 y + (byS L y).1 < 0 then ((byS L y).2 22 y + (byS L y).1, up2 (byS L y).2 23 y 0) else (0, up2 (byS L y).2 23 y ((byS L y).2 22 y + (byS L y).1))
theorem byS_p {L : zLA} {y : Nat} (h : (byS L y).2 22 y + (byS L y).1 < 0) : byS L (y + 1) = ((byS L y).2 22 y + (byS L y).1, up2 (byS L y).2 23 y 0) := if_pos h
theorem byS_n {L : zLA} {y : Nat} (h : ¬ (byS L y).2 22 y + (byS L y).1 < 0) : byS L (y + 1) = (0, up2 (byS L y).2 23 y ((byS L y).2 22 y + (byS L y).1)) := if_neg h
def yrA (s : zF) : zF := (s.1, s.2.1, zrS s.2.2 21)
def yrB (s : zF) (c nt : Nat) : zF := fsS (yrA s) c nt 6
def yearsS (s : zF) (c nt : Nat) : zF := ((yrB s c nt).1, (yrB s c nt).2.1, (byS (yrB s c nt).2.2 21).2)
theorem yrB_I {s : zF} {c nt a : Nat} (ha : a ≠ 19) : (yrB s c nt).2.1 a = s.2.1 a := by
  unfold yrB
  exact fsS_I ha 6
theorem yearsS_I {s : zF} {c nt a : Nat} (ha : a ≠ 19) : (yearsS s c nt).2.1 a = s.2.1 a := by
  unfold yearsS
  dsimp only
  exact yrB_I ha
theorem fsS_nl {s : zF} {c nt : Nat} (h : s.1 ≤ 120) (hn : nt ≤ 120) : ∀ k, (fsS s c nt k).1 ≤ 120
  | 0 => h
  | k + 1 => Nat.le_trans (fdS_nl nt) hn
theorem yearsS_nl {s : zF} {c nt : Nat} (h : s.1 ≤ 120) (hn : nt ≤ 120) : (yearsS s c nt).1 ≤ 120 := by
  unfold yearsS
  dsimp only
  unfold yrB
  exact fsS_nl (s := yrA s) h hn 6
/-- are there parts enough: is, sum -/
def enA (I : zIA) (L : zLA) (c f t : Nat) : Int64 := if ¬ I 17 t = 0 ∧ I 11 t = nI c ∧ I 12 t = nI f then L 13 t else 0
def enS (I : zIA) (L : zLA) (c f : Nat) : Nat → Int32 × Int64
  | 0 => (1, 0)
  | t + 1 => if ¬ (enS I L c f t).1 = 0 ∧ ¬ (enS I L c f t).2 + enA I L c f t < 0 then (1, (enS I L c f t).2 + enA I L c f t) else (0, (enS I L c f t).2 + enA I L c f t)
theorem enS_p {I : zIA} {L : zLA} {c f t : Nat} {x : Int64} (ha : enA I L c f t = x) (h : ¬ (enS I L c f t).1 = 0 ∧ ¬ (enS I L c f t).2 + x < 0) : enS I L c f (t + 1) = (1, (enS I L c f t).2 + x) := by
  subst ha
  exact if_pos h
theorem enS_n {I : zIA} {L : zLA} {c f t : Nat} {x : Int64} (ha : enA I L c f t = x) (h : ¬ (¬ (enS I L c f t).1 = 0 ∧ ¬ (enS I L c f t).2 + x < 0)) : enS I L c f (t + 1) = (0, (enS I L c f t).2 + x) := by
  subst ha
  exact if_neg h
theorem enS_01 {I : zIA} {L : zLA} {c f : Nat} : ∀ t, (enS I L c f t).1 = 0 ∨ (enS I L c f t).1 = 1
  | 0 => Or.inr rfl
  | t + 1 => by
    by_cases h : ¬ (enS I L c f t).1 = 0 ∧ ¬ (enS I L c f t).2 + enA I L c f t < 0
    · rw [enS_p rfl h]
      exact Or.inr rfl
    · rw [enS_n rfl h]
      exact Or.inl rfl
/-- a complaint -/
def canS (I : zIA) (L : zLA) (nt t : Nat) : Prop := ¬ I 17 t = 0 ∧ ¬ (enS (up2 I 17 t 0) L (dN (I 11 t)) (dN (I 12 t)) nt).1 = 0
def unpaidL (L : zLA) (t : Nat) : Int64 := if 0 < L 13 t then -L 14 t - L 15 t else L 14 t - L 15 t
def cbS (L : zLA) (c : Nat) : Nat → Int64 × zLA
  | 0 => (0, L)
  | y + 1 => ((cbS L c y).1 + ((cbS L c y).2 9 (21 * c + y) - (cbS L c y).2 23 y / 4), up2 (cbS L c y).2 9 (21 * c + y) ((cbS L c y).2 23 y / 4))
/-- the rows ahead of the years, of a complaint about trade t -/
def cpL (L : zLA) (c f t : Nat) : zLA := moveL (payL L c (unpaidL L t)) c f (-payL L c (unpaidL L t) 13 t)
def cpM (I : zIA) (L : zLA) (c f t : Nat) (mo : Int64) : Int64 := moveM I (payL L c (unpaidL L t)) f (-payL L c (unpaidL L t) 13 t) (mo + unpaidL L t)
def cpS (nl : Nat) (I : zIA) (L : zLA) (nt c f t : Nat) : zF := yearsS (nl, up2 I 17 t 0, cpL L c f t) c nt
def cpB (nl : Nat) (I : zIA) (L : zLA) (nt dy c f t : Nat) : Int64 × zLA := cbS (cpS nl I L nt c f t).2.2 c (dy / 360)
/-- a day's end -/
def psS (I : zIA) (mo : Int64) (L : zLA) : Nat → Int64 × zLA
  | 0 => (mo, L)
  | f + 1 => ((psS I mo L f).1 + (psS I mo L f).2 3 f / 1000 * Int32.toInt64 (I 1 f), up2 (up2 (psS I mo L f).2 2 f ((psS I mo L f).2 2 f - (psS I mo L f).2 3 f / 1000)) 3 f (up2 (psS I mo L f).2 2 f ((psS I mo L f).2 2 f - (psS I mo L f).2 3 f / 1000) 3 f - (psS I mo L f).2 3 f / 1000 * 1000))
def ptL (L : zLA) (c y : Nat) : zLA := up2 (up2 L 9 (21 * c + y) (L 23 y / 4)) 6 c (up2 L 9 (21 * c + y) (L 23 y / 4) 6 c - up2 L 9 (21 * c + y) (L 23 y / 4) 23 y / 4)
def ptE (s : zF) (nt y c : Nat) : zF := ((yearsS s c nt).1, (yearsS s c nt).2.1, ptL (yearsS s c nt).2.2 c y)
theorem ptE_I {s : zF} {nt y c a : Nat} (ha : a ≠ 19) : (ptE s nt y c).2.1 a = s.2.1 a := by
  unfold ptE
  dsimp only
  exact yearsS_I ha
theorem ptE_nl {s : zF} {nt y c : Nat} (h : s.1 ≤ 120) (hn : nt ≤ 120) : (ptE s nt y c).1 ≤ 120 := by
  unfold ptE
  dsimp only
  exact yearsS_nl h hn
def ptS (s : zF) (nt y : Nat) : Nat → zF
  | 0 => s
  | c + 1 => ptE (ptS s nt y c) nt y c
theorem ptS_I {s : zF} {nt y a : Nat} (ha : a ≠ 19) : ∀ k, (ptS s nt y k).2.1 a = s.2.1 a
  | 0 => rfl
  | k + 1 => by
    rw [ptS, ptE_I ha]
    exact ptS_I ha k
theorem ptS_nl {s : zF} {nt y : Nat} (h : s.1 ≤ 120) (hn : nt ≤ 120) : ∀ k, (ptS s nt y k).1 ≤ 120
  | 0 => h
  | k + 1 => by
    rw [ptS]
    exact ptE_nl (ptS_nl h hn k) hn
/-- day, lots, money, rows -/
abbrev zP : Type := Nat × Nat × Int64 × zIA × zLA
def pwS (s : zP) : Int64 × zLA := psS s.2.2.2.1 s.2.2.1 s.2.2.2.2 6
def pxS (nc nt : Nat) (s : zP) : zF := ptS (s.2.1, s.2.2.2.1, (pwS s).2) nt ((s.1 + 1) / 360 - 1) nc
def passS (nc nt : Nat) (s : zP) : zP := if (s.1 + 1) % 360 = 0 then (s.1 + 1, (pxS nc nt s).1, (pwS s).1, (pxS nc nt s).2.1, (pxS nc nt s).2.2) else (s.1 + 1, s.2.1, (pwS s).1, s.2.2.2.1, (pwS s).2)
theorem passS_p {nc nt : Nat} {s : zP} (h : (s.1 + 1) % 360 = 0) : passS nc nt s = (s.1 + 1, (pxS nc nt s).1, (pwS s).1, (pxS nc nt s).2.1, (pxS nc nt s).2.2) := if_pos h
theorem passS_n {nc nt : Nat} {s : zP} (h : ¬ (s.1 + 1) % 360 = 0) : passS nc nt s = (s.1 + 1, s.2.1, (pwS s).1, s.2.2.2.1, (pwS s).2) := if_neg h
theorem pxS_I {nc nt a : Nat} {s : zP} (ha : a ≠ 19) : (pxS nc nt s).2.1 a = s.2.2.2.1 a := by
  unfold pxS
  exact ptS_I ha nc
theorem pxS_nl {nc nt : Nat} {s : zP} (h : s.2.1 ≤ 120) (hn : nt ≤ 120) : (pxS nc nt s).1 ≤ 120 := by
  unfold pxS
  exact ptS_nl h hn nc
def passN (nc nt : Nat) (s : zP) : Nat → zP
  | 0 => s
  | k + 1 => passS nc nt (passN nc nt s k)
theorem passS_I {nc nt a : Nat} {s : zP} (ha : a ≠ 19) : (passS nc nt s).2.2.2.1 a = s.2.2.2.1 a := by
  by_cases h : (s.1 + 1) % 360 = 0
  · rw [passS_p h]
    exact pxS_I ha
  · rw [passS_n h]
theorem passS_dy {nc nt : Nat} {s : zP} : (passS nc nt s).1 = s.1 + 1 := by
  by_cases h : (s.1 + 1) % 360 = 0
  · rw [passS_p h]
  · rw [passS_n h]
theorem passS_nl {nc nt : Nat} {s : zP} (h : s.2.1 ≤ 120) (hn : nt ≤ 120) : (passS nc nt s).2.1 ≤ 120 := by
  by_cases h2 : (s.1 + 1) % 360 = 0
  · rw [passS_p h2]
    exact pxS_nl h hn
  · rw [passS_n h2]
    exact h
theorem passN_I {nc nt a : Nat} {s : zP} (ha : a ≠ 19) : ∀ k, (passN nc nt s k).2.2.2.1 a = s.2.2.2.1 a
  | 0 => rfl
  | k + 1 => (passS_I ha).trans (passN_I ha k)
theorem passN_dy {nc nt : Nat} {s : zP} : ∀ k, (passN nc nt s k).1 = s.1 + k
  | 0 => rfl
  | k + 1 => by rw [show passN nc nt s (k + 1) = passS nc nt (passN nc nt s k) from rfl, passS_dy, passN_dy k]; omega
theorem passN_nl {nc nt : Nat} {s : zP} (h : s.2.1 ≤ 120) (hn : nt ≤ 120) : ∀ k, (passN nc nt s k).2.1 ≤ 120
  | 0 => h
  | k + 1 => passS_nl (passN_nl h hn k) hn
/-- a lot that is asked for: how many were passed, the answer -/
def ltV (I : zIA) (L : zLA) (what : Int32) (k : Nat) : Int64 := if what = 0 then Int32.toInt64 (I 19 k) else if what = 1 then L 20 k else L 21 k
def ltS (I : zIA) (L : zLA) (rank what : Int32) : Nat → Nat × Int64
  | 0 => (0, -1)
  | k + 1 => if 0 < L 20 k then ((ltS I L rank what k).1 + 1, if nI (ltS I L rank what k).1 = rank then ltV I L what k else (ltS I L rank what k).2) else ltS I L rank what k
theorem ltS_n {I : zIA} {L : zLA} {rank what : Int32} {k : Nat} (h : ¬ 0 < L 20 k) : ltS I L rank what (k + 1) = ltS I L rank what k := if_neg h
theorem ltS_p {I : zIA} {L : zLA} {rank what : Int32} {k : Nat} {x : Int64} (h : 0 < L 20 k) (hr : nI (ltS I L rank what k).1 = rank) (hv : ltV I L what k = x) : ltS I L rank what (k + 1) = ((ltS I L rank what k).1 + 1, x) := by
  subst hv
  exact (if_pos h).trans (by rw [if_pos hr])
theorem ltS_q {I : zIA} {L : zLA} {rank what : Int32} {k : Nat} (h : 0 < L 20 k) (hr : ¬ nI (ltS I L rank what k).1 = rank) : ltS I L rank what (k + 1) = ((ltS I L rank what k).1 + 1, (ltS I L rank what k).2) := (if_pos h).trans (by rw [if_neg hr])
theorem ltS_le {I : zIA} {L : zLA} {rank what : Int32} : ∀ k, (ltS I L rank what k).1 ≤ k
  | 0 => Nat.le_refl _
  | k + 1 => by
    have ih := ltS_le (I := I) (L := L) (rank := rank) (what := what) k
    by_cases h : 0 < L 20 k
    · by_cases hr : nI (ltS I L rank what k).1 = rank
      · rw [ltS_p h hr rfl]
        show (ltS I L rank what k).1 + 1 ≤ _
        omega
      · rw [ltS_q h hr]
        show (ltS I L rank what k).1 + 1 ≤ _
        omega
    · rw [ltS_n h]
      omega
/-- what is asked of a trade, of a year -/
def trV (I : zIA) (L : zLA) (t k : Nat) : Int64 := if k = 0 then Int32.toInt64 (I 11 t) else if k = 1 then Int32.toInt64 (I 12 t) else if k = 2 then L 13 t else if k = 3 then L 14 t else if k = 4 then L 15 t else if k = 5 then Int32.toInt64 (I 16 t) else if I 17 t = 0 then 0 else 1
def yrV (L : zLA) (c y : Nat) (what : Int32) : Int64 := if what = 0 then L 22 y else if what = 1 then L 23 y else if what = 2 then L 23 y / 4 else L 9 (21 * c + y)
theorem zR_nat {x a b : Int32} {n m : Nat} (hm : m < 2 ^ 31) (h : zR x a b) (ha : a = nI n) (hb : b = nI m) (hn : n < 2 ^ 31 := by decide) : ∃ j, n ≤ j ∧ j ≤ m ∧ x = nI j := by
  subst ha
  subst hb
  have h0 : ¬ x < 0 := Int32.not_lt.mpr (Int32.le_trans (nI_pos' hn) h.1)
  obtain ⟨j, hj, rfl⟩ := nI_of h0
  exact ⟨j, (nI_leI hn hj).mp h.1, (nI_leI hj hm).mp h.2, rfl⟩
theorem yearsS_v {nl : Nat} {I : zIA} {L : zLA} {c nt n6 n21 : Nat} (h6 : n6 = 6) (h21 : n21 = 21) : yearsS (nl, I, L) c nt = ((fsS (nl, I, zrS L n21) c nt n6).1, (fsS (nl, I, zrS L n21) c nt n6).2.1, (byS (fsS (nl, I, zrS L n21) c nt n6).2.2 n21).2) := by
  subst h6
  subst h21
  unfold yearsS yrB yrA
  dsimp only
theorem passS_pv {nc nt n6 dy nl : Nat} {mo : Int64} {I : zIA} {L : zLA} (h6 : n6 = 6) (h : (dy + 1) % 360 = 0) : passS nc nt (dy, nl, mo, I, L) = (dy + 1, (ptS (nl, I, (psS I mo L n6).2) nt ((dy + 1) / 360 - 1) nc).1, (psS I mo L n6).1, (ptS (nl, I, (psS I mo L n6).2) nt ((dy + 1) / 360 - 1) nc).2.1, (ptS (nl, I, (psS I mo L n6).2) nt ((dy + 1) / 360 - 1) nc).2.2) := by
  subst h6
  rw [passS_p h]
  unfold pxS pwS
  dsimp only
theorem passS_nv {nc nt n6 dy nl : Nat} {mo : Int64} {I : zIA} {L : zLA} (h6 : n6 = 6) (h : ¬ (dy + 1) % 360 = 0) : passS nc nt (dy, nl, mo, I, L) = (dy + 1, nl, (psS I mo L n6).1, I, (psS I mo L n6).2) := by
  subst h6
  rw [passS_n h]
  unfold pwS
  dsimp only
theorem ptS_s {s : zF} {nt y c : Nat} : ptS s nt y (c + 1) = ((yearsS ((ptS s nt y c).1, (ptS s nt y c).2.1, (ptS s nt y c).2.2) c nt).1, (yearsS ((ptS s nt y c).1, (ptS s nt y c).2.1, (ptS s nt y c).2.2) c nt).2.1, ptL (yearsS ((ptS s nt y c).1, (ptS s nt y c).2.1, (ptS s nt y c).2.2) c nt).2.2 c y) := by
  show ptE (ptS s nt y c) nt y c = _
  generalize ptS s nt y c = P
  unfold ptE
  rfl
theorem cpM_e {I : zIA} {L : zLA} {c f t : Nat} {mo : Int64} : moveM (up2 I 17 t 0) (payL L c (unpaidL L t)) f (-payL L c (unpaidL L t) 13 t) (mo + unpaidL L t) = cpM I L c f t mo := by
  unfold cpM moveM
  rw [up2_a (by decide)]
theorem cpS_e {nl : Nat} {I : zIA} {L : zLA} {nt c f t : Nat} : yearsS (nl, up2 I 17 t 0, moveL (payL L c (unpaidL L t)) c f (-payL L c (unpaidL L t) 13 t)) c nt = cpS nl I L nt c f t := by
  unfold cpS cpL
  rfl
theorem zi_rem {x y : Int32} {a b : Nat} (hx : x = nI a) (hy : y = nI b) (ha : a < 2 ^ 31) (h0 : 0 < b) (hb : b < 2 ^ 31) : x - x / y * y = nI (a % b) := by rw [hx, hy, pk_rem ha h0 hb]
theorem zR_06 {x : Int32} (h : zR x 0 6) : x = 0 ∨ x = 1 ∨ x = 2 ∨ x = 3 ∨ x = 4 ∨ x = 5 ∨ x = 6 := by
  obtain ⟨j, -, h2, rfl⟩ := zR_nat (a := 0) (b := 6) (n := 0) (m := 6) (by decide) h rfl rfl
  have : j = 0 ∨ j = 1 ∨ j = 2 ∨ j = 3 ∨ j = 4 ∨ j = 5 ∨ j = 6 := by omega
  rcases this with rfl | rfl | rfl | rfl | rfl | rfl | rfl <;> decide
theorem zR_02 {x : Int32} (h : zR x 0 2) : x = 0 ∨ x = 1 ∨ x = 2 := by
  obtain ⟨j, -, h2, rfl⟩ := zR_nat (a := 0) (b := 2) (n := 0) (m := 2) (by decide) h rfl rfl
  have : j = 0 ∨ j = 1 ∨ j = 2 := by omega
  rcases this with rfl | rfl | rfl <;> decide
theorem zR_03 {x : Int32} (h : zR x 0 3) : x = 0 ∨ x = 1 ∨ x = 2 ∨ x = 3 := by
  obtain ⟨j, -, h2, rfl⟩ := zR_nat (a := 0) (b := 3) (n := 0) (m := 3) (by decide) h rfl rfl
  have : j = 0 ∨ j = 1 ∨ j = 2 ∨ j = 3 := by omega
  rcases this with rfl | rfl | rfl | rfl <;> decide
end
section
/-! ===== two worlds side by side: what a method does in one it does beside the other ===== -/
def zk_sum (n : Nat) (w1 w2 : zk_W) : zk_W := (fun k => if k.1 < n then w1.1 k else w2.1 (k.1 - n, k.2), fun k => if k.1 < n then w1.2.1 k else w2.2.1 (k.1 - n, k.2), fun k => if k.1 < n then w1.2.2 k else w2.2.2 (k.1 - n, k.2))
theorem va_D_cons {A : Nat → Prop} {x : Nat × va_E} {ws : va_W} : va_D A (x :: ws) ↔ A x.1 ∧ (∀ q ∈ ws, q.1 ≠ x.1) ∧ va_D A ws := by
  constructor
  · rintro ⟨h1, h2⟩
    refine ⟨h2 0 x rfl, fun q hq e => ?_, fun i j p q hp hq e => ?_, fun k q hk => h2 (k + 1) q hk⟩
    · obtain ⟨i, hi⟩ := List.getElem?_of_mem hq
      have := h1 (i + 1) 0 q x hi rfl e
      omega
    · have := h1 (i + 1) (j + 1) p q hp hq e
      omega
  · rintro ⟨h1, h2, h3, h4⟩
    refine ⟨fun i j p q hp hq e => ?_, fun k q hk => ?_⟩
    · match i, j, hp, hq with
      | 0, 0, _, _ => rfl
      | 0, j + 1, hp, hq =>
        cases (show some x = some p from hp)
        exact absurd e.symm (h2 q (List.mem_of_getElem? (show ws[j]? = some q from hq)))
      | i + 1, 0, hp, hq =>
        cases (show some x = some q from hq)
        exact absurd e (h2 p (List.mem_of_getElem? (show ws[i]? = some p from hp)))
      | i + 1, j + 1, hp, hq => exact congrArg Nat.succ (h3 i j p q hp hq e)
    · match k, hk with
      | 0, hk =>
        cases (show some x = some q from hk)
        exact h1
      | k + 1, hk => exact h4 k q hk
theorem va_D_nil {A : Nat → Prop} : va_D A [] := ⟨fun i j p q hp => (by cases hp), fun k q hk => (by cases hk)⟩
theorem va_D_filter {A B : Nat → Prop} {f : Nat × va_E → Bool} (hB : ∀ q, f q = true → B q.1) : ∀ ws : va_W, va_D A ws → va_D (fun q => A q ∧ B q) (ws.filter f)
  | [], _ => va_D_nil
  | x :: ws, h => by
    obtain ⟨h1, h2, h3⟩ := va_D_cons.mp h
    have ih := va_D_filter hB ws h3
    by_cases hf : f x = true
    · rw [List.filter_cons_of_pos hf]
      exact va_D_cons.mpr ⟨⟨h1, hB x hf⟩, fun q hq => h2 q (List.mem_filter.mp hq).1, ih⟩
    · rw [List.filter_cons_of_neg hf]
      exact ih
theorem va_D_app {A : Nat → Prop} {w2 : va_W} (h2 : va_D A w2) : ∀ w1 : va_W, va_D A w1 → (∀ p ∈ w1, ∀ q ∈ w2, p.1 ≠ q.1) → va_D A (w1 ++ w2)
  | [], _, _ => h2
  | x :: w1, h1, hd => by
    obtain ⟨a, b, c⟩ := va_D_cons.mp h1
    refine va_D_cons.mpr ⟨a, fun q hq e => ?_, va_D_app h2 w1 c (fun p hp q hq => hd p (List.mem_cons_of_mem _ hp) q hq)⟩
    rcases List.mem_append.mp hq with hq | hq
    · exact b q hq e
    · exact hd x List.mem_cons_self q hq e.symm
theorem va_D_mono {A B : Nat → Prop} {ws : va_W} (h : va_D A ws) (hAB : ∀ q, A q → B q) : va_D B ws := ⟨h.1, fun k q hk => hAB _ (h.2 k q hk)⟩
/-- the part of a world that lies in B -/
theorem zk_cut {D : va_G} {A : Nat → Prop} {w : zk_W} {H : Heap} (h : zk_H D A w H) (B : Nat → Prop) : ∃ ws : va_W, va_P D vwCl ws H ∧ va_D (fun q => A q ∧ B q) ws ∧ ∀ k, w.2.1 k → B (w.1 k) → ∃ i : Nat, ws[i]? = some (w.1 k, w.2.2 k) := by
  obtain ⟨ws, hP, hD, hL, -⟩ := h
  obtain ⟨f, hf⟩ : ∃ f : Nat × va_E → Bool, ∀ q, f q = true ↔ B q.1 := ⟨fun q => @decide (B q.1) (Classical.propDecidable _), fun q => ⟨fun z => @of_decide_eq_true _ (Classical.propDecidable _) z, fun z => @decide_eq_true _ (Classical.propDecidable _) z⟩⟩
  refine ⟨ws.filter f, fun k q hk => ?_, va_D_filter (fun q hq => (hf q).mp hq) ws hD, fun k hk hB => ?_⟩
  · obtain ⟨i, hi⟩ := List.getElem?_of_mem (List.mem_filter.mp (List.mem_of_getElem? hk)).1
    exact hP i q hi
  · obtain ⟨i, hi⟩ := hL k hk
    exact List.getElem?_of_mem (List.mem_filter.mpr ⟨List.mem_of_getElem? hi, (hf _).mpr hB⟩)
theorem zG.narrow {D : va_G} {tys : List (ClassId × FieldType)} {A B : Nat → Prop} {g : Nat → Nat} {U : State} (h : zG D tys A g U) (hAB : ∀ q, B q → A q) (hB : ∀ q, U.heap.size ≤ q → B q) : zG D tys B g U := by
  obtain ⟨h1, h2, h3, h4, h5, h6, h7, h8, h9⟩ := h
  exact ⟨h1, hB, h3.narrow hAB, h4.narrow hAB, h5, h6, h7.narrow hAB, h8.narrow hAB, h9⟩
/-- a world beside another: its own cells, and what comes back beside the other -/
theorem zk_side {D : va_G} {A : Nat → Prop} {n : Nat} {w1 w2 : zk_W} {H : Heap} (h : zk_H D A (zk_sum n w1 w2) H) (hn : ∀ k, w1.2.1 k → k.1 < n) :
    ∃ A1 A2 : Nat → Prop, zk_H D A1 w1 H ∧ zk_H D A2 w2 H ∧ (∀ q, A1 q ∨ A2 q → A q ∧ q < H.size) ∧ ∀ q, ¬ (A1 q ∧ A2 q) := by
  obtain ⟨B, hB⟩ : ∃ B : Nat → Prop, B = fun q => ∃ k, w1.2.1 k ∧ w1.1 k = q := ⟨_, rfl⟩
  have hI := fun k k' => h.inj (k := k) (k' := k')
  have s1 : ∀ k, w1.2.1 k → (zk_sum n w1 w2).2.1 k ∧ (zk_sum n w1 w2).1 k = w1.1 k ∧ (zk_sum n w1 w2).2.2 k = w1.2.2 k := fun k hk => by
    have z := hn k hk
    refine ⟨?_, if_pos z, if_pos z⟩
    show if k.1 < n then w1.2.1 k else _
    rw [if_pos z]
    exact hk
  have s2 : ∀ k : zk_K, w2.2.1 k → (zk_sum n w1 w2).2.1 (k.1 + n, k.2) ∧ (zk_sum n w1 w2).1 (k.1 + n, k.2) = w2.1 k ∧ (zk_sum n w1 w2).2.2 (k.1 + n, k.2) = w2.2.2 k := fun k hk => by
    have z : ¬ k.1 + n < n := by omega
    have e : ((k.1 + n - n, k.2) : zk_K) = k := by rw [Nat.add_sub_cancel]
    refine ⟨?_, ?_, ?_⟩
    · show if k.1 + n < n then _ else w2.2.1 (k.1 + n - n, k.2)
      rw [if_neg z, e]
      exact hk
    · show (if k.1 + n < n then _ else w2.1 (k.1 + n - n, k.2)) = _
      rw [if_neg z, e]
    · show (if k.1 + n < n then _ else w2.2.2 (k.1 + n - n, k.2)) = _
      rw [if_neg z, e]
  obtain ⟨ws1, hP1, hD1, hL1⟩ := zk_cut h B
  obtain ⟨ws2, hP2, hD2, hL2⟩ := zk_cut h (fun q => ¬ B q)
  refine ⟨fun q => (A q ∧ B q) ∧ q < H.size, fun q => (A q ∧ ¬ B q) ∧ q < H.size, ⟨ws1, hP1, ⟨hD1.1, fun k q hk => ⟨hD1.2 k q hk, (hP1 k q hk).lt⟩⟩, fun k hk => ?_, fun k k' hk hk' e => ?_⟩, ⟨ws2, hP2, ⟨hD2.1, fun k q hk => ⟨hD2.2 k q hk, (hP2 k q hk).lt⟩⟩, fun k hk => ?_, fun k k' hk hk' e => ?_⟩, ?_, ?_⟩
  · obtain ⟨a, b, c⟩ := s1 k hk
    obtain ⟨i, hi⟩ := hL1 k a (by rw [b, hB]; exact ⟨k, hk, rfl⟩)
    exact ⟨i, by rw [hi, b, c]⟩
  · obtain ⟨a, b, c⟩ := s1 k hk
    obtain ⟨a', b', c'⟩ := s1 k' hk'
    exact hI k k' a a' (by rw [b, b', e])
  · obtain ⟨a, b, c⟩ := s2 k hk
    obtain ⟨i, hi⟩ := hL2 _ a (by
      rw [b, hB]
      rintro ⟨k1, h1, h2⟩
      obtain ⟨a1, b1, c1⟩ := s1 k1 h1
      have := hI k1 (k.1 + n, k.2) a1 a (by rw [b1, b, h2])
      have z := hn k1 h1
      rw [this] at z
      exact absurd (show k.1 + n < n from z) (by omega))
    exact ⟨i, by rw [hi, b, c]⟩
  · obtain ⟨a, b, c⟩ := s2 k hk
    obtain ⟨a', b', c'⟩ := s2 k' hk'
    have := hI _ _ a a' (by rw [b, b', e])
    have e1 : k.1 + n = k'.1 + n := (Prod.mk.inj this).1
    have e2 : k.2 = k'.2 := (Prod.mk.inj this).2
    exact Prod.ext (by omega) e2
  · rintro q (⟨⟨z1, -⟩, z2⟩ | ⟨⟨z1, -⟩, z2⟩) <;> exact ⟨z1, z2⟩
  · rintro q ⟨⟨⟨-, z1⟩, -⟩, ⟨-, z2⟩, -⟩
    exact z2 z1
theorem zk_join {D : va_G} {A A1 A2 : Nat → Prop} {n : Nat} {w1 w2 : zk_W} {H : Heap} (h1 : zk_H D A1 w1 H) (h2 : zk_H D A2 w2 H) (hA : ∀ q, A1 q ∨ A2 q → A q) (hd : ∀ q, ¬ (A1 q ∧ A2 q)) : zk_H D A (zk_sum n w1 w2) H := by
  obtain ⟨ws1, hP1, hD1, hL1, hI1⟩ := h1
  obtain ⟨ws2, hP2, hD2, hL2, hI2⟩ := h2
  have cell1 : ∀ k, w1.2.1 k → A1 (w1.1 k) := fun k hk => by
    obtain ⟨i, hi⟩ := hL1 k hk
    exact hD1.2 i _ hi
  have cell2 : ∀ k, w2.2.1 k → A2 (w2.1 k) := fun k hk => by
    obtain ⟨i, hi⟩ := hL2 k hk
    exact hD2.2 i _ hi
  refine ⟨ws1 ++ ws2, hP1.app hP2, va_D_app (va_D_mono hD2 (fun q h => hA q (Or.inr h))) ws1 (va_D_mono hD1 (fun q h => hA q (Or.inl h))) (fun p hp q hq e => ?_), fun k hk => ?_, fun k k' hk hk' e => ?_⟩
  · obtain ⟨i, hi⟩ := List.getElem?_of_mem hp
    obtain ⟨j, hj⟩ := List.getElem?_of_mem hq
    exact hd p.1 ⟨hD1.2 i p hi, by rw [e]; exact hD2.2 j q hj⟩
  · have hk2 : if k.1 < n then w1.2.1 k else w2.2.1 (k.1 - n, k.2) := hk
    show ∃ i, (ws1 ++ ws2)[i]? = some ((if k.1 < n then w1.1 k else w2.1 (k.1 - n, k.2)), (if k.1 < n then w1.2.2 k else w2.2.2 (k.1 - n, k.2)))
    by_cases z : k.1 < n
    · rw [if_pos z] at hk2
      rw [if_pos z, if_pos z]
      obtain ⟨i, hi⟩ := hL1 k hk2
      exact List.getElem?_of_mem (List.mem_append_left _ (List.mem_of_getElem? hi))
    · rw [if_neg z] at hk2
      rw [if_neg z, if_neg z]
      obtain ⟨i, hi⟩ := hL2 _ hk2
      exact List.getElem?_of_mem (List.mem_append_right _ (List.mem_of_getElem? hi))
  · have hk2 : if k.1 < n then w1.2.1 k else w2.2.1 (k.1 - n, k.2) := hk
    have hk2' : if k'.1 < n then w1.2.1 k' else w2.2.1 (k'.1 - n, k'.2) := hk'
    have e2 : (if k.1 < n then w1.1 k else w2.1 (k.1 - n, k.2)) = (if k'.1 < n then w1.1 k' else w2.1 (k'.1 - n, k'.2)) := e
    by_cases z : k.1 < n <;> by_cases z' : k'.1 < n
    · rw [if_pos z] at hk2 e2
      rw [if_pos z'] at hk2' e2
      exact hI1 k k' hk2 hk2' e2
    · rw [if_pos z] at hk2 e2
      rw [if_neg z'] at hk2' e2
      exact absurd ⟨cell1 k hk2, by rw [e2]; exact cell2 _ hk2'⟩ (hd (w1.1 k))
    · rw [if_neg z] at hk2 e2
      rw [if_pos z'] at hk2' e2
      exact absurd ⟨by rw [e2]; exact cell1 k' hk2', cell2 _ hk2⟩ (hd (w2.1 (k.1 - n, k.2)))
    · rw [if_neg z] at hk2 e2
      rw [if_neg z'] at hk2' e2
      have := hI2 _ _ hk2 hk2' e2
      have e3 : k.1 - n = k'.1 - n := (Prod.mk.inj this).1
      have e4 : k.2 = k'.2 := (Prod.mk.inj this).2
      exact Prod.ext (by omega) e4
theorem zk_H.keptF {D : va_G} {A : Nat → Prop} {w : zk_W} {H H1 : Heap} (h : zk_H D A w H) (hk : ∀ q, A q → q < H.size → H1[q]? = H[q]?) : zk_H D A w H1 := by
  obtain ⟨ws, hP, hD, hL, hI⟩ := h
  exact ⟨ws, hP.kept (fun k q hq => hk _ (hD.2 k q hq) (hP k q hq).lt), hD, hL, hI⟩
section SUM
variable {l : Launch} {y : MethodName} {ws : List Cond} {rm : Room} {D : va_G} {tys : List (ClassId × FieldType)} {g : Nat → Nat} {av : List Value} {w1 w2 : zk_W} {P : Option Value → zk_W → Prop} {PX : String → zk_W → Prop} {n : Nat}
/-- what comes back: the first beside the second -/
theorem zk_backL {A A1 A2 : Nat → Prop} {s t : State} {w1' : zk_W} (h2 : zk_H D A2 w2 s.heap) (hA : ∀ q, A1 q ∨ A2 q → A q ∧ q < s.heap.size) (hd : ∀ q, ¬ (A1 q ∧ A2 q)) (hsz : ∀ q, s.heap.size ≤ q → A q)
    (hF : va_F (fun q => A1 q ∨ s.heap.size ≤ q) s t) (h1 : zk_H D (fun q => A1 q ∨ s.heap.size ≤ q) w1' t.heap) : zk_H D A (zk_sum n w1' w2) t.heap ∧ va_F A s t := by
  refine ⟨zk_join h1 (h2.keptF (fun q hq hl => hF.2 q hl (fun z => ?_))) (fun q hq => ?_) (fun q hq => ?_), hF.1, fun q hl hn => hF.2 q hl (fun z => ?_)⟩
  · rcases z with z | z
    · exact hd q ⟨z, hq⟩
    · omega
  · rcases hq with (hq | hq) | hq
    · exact (hA q (Or.inl hq)).1
    · exact hsz q hq
    · exact (hA q (Or.inr hq)).1
  · obtain ⟨hq | hq, h⟩ := hq
    · exact hd q ⟨hq, h⟩
    · have := (hA q (Or.inr h)).2
      omega
  · rcases z with z | z
    · exact hn (hA q (Or.inl z)).1
    · exact hn (hsz q z)
theorem zk_backR {A A1 A2 : Nat → Prop} {s t : State} {w2' : zk_W} (h1 : zk_H D A1 w1 s.heap) (hA : ∀ q, A1 q ∨ A2 q → A q ∧ q < s.heap.size) (hd : ∀ q, ¬ (A1 q ∧ A2 q)) (hsz : ∀ q, s.heap.size ≤ q → A q)
    (hF : va_F (fun q => A2 q ∨ s.heap.size ≤ q) s t) (h2 : zk_H D (fun q => A2 q ∨ s.heap.size ≤ q) w2' t.heap) : zk_H D A (zk_sum n w1 w2') t.heap ∧ va_F A s t := by
  refine ⟨zk_join (h1.keptF (fun q hq hl => hF.2 q hl (fun z => ?_))) h2 (fun q hq => ?_) (fun q hq => ?_), hF.1, fun q hl hn => hF.2 q hl (fun z => ?_)⟩
  · rcases z with z | z
    · exact hd q ⟨hq, z⟩
    · omega
  · rcases hq with hq | hq | hq
    · exact (hA q (Or.inl hq)).1
    · exact (hA q (Or.inr hq)).1
    · exact hsz q hq
  · obtain ⟨h, hq | hq⟩ := hq
    · exact hd q ⟨h, hq⟩
    · have := (hA q (Or.inl h)).2
      omega
  · rcases z with z | z
    · exact hn (hA q (Or.inr z)).1
    · exact hn (hsz q z)
end SUM
end
section
/-! ===== a contract beside another world; methods with handlers ===== -/
theorem zk_H.mono {D : va_G} {A B : Nat → Prop} {w : zk_W} {H : Heap} (h : zk_H D A w H) (hAB : ∀ q, A q → B q) : zk_H D B w H := by
  obtain ⟨ws, hP, hD, hL, hI⟩ := h
  exact ⟨ws, hP, va_D_mono hD hAB, hL, hI⟩
section FR
variable {l : Launch} {y : MethodName} {ws ws' : List Cond} {rm : Room} {D : va_G} {tys : List (ClassId × FieldType)} {g : Nat → Nat} {av : List Value} {w1 w2 : zk_W} {P : Option Value → zk_W → Prop} {PX : String → zk_W → Prop} {n : Nat}
theorem zX_sumL (hM : ∀ A, zX l y ws rm D tys A g av w1 P PX) (hn : ∀ k, w1.2.1 k → k.1 < n) (A : Nat → Prop) : zX l y ws rm D tys A g av (zk_sum n w1 w2) (fun v W' => ∃ w1', P v w1' ∧ zk_sum n w1' w2 = W') (fun E W' => ∃ w1', PX E w1' ∧ zk_sum n w1' w2 = W') := by
  intro p e ha hc hk s m args below hf happ hP _
  obtain ⟨rfl, hH, hG⟩ := hP
  obtain ⟨A1, A2, h1, h2, hA, hd⟩ := zk_side hH hn
  have hsz := hG.2.1
  have hAA : ∀ q, (A1 q ∨ s.heap.size ≤ q) → A q := fun q z => z.elim (fun z => (hA q (Or.inl z)).1) (hsz q)
  obtain ⟨k, o, r1, r2, r3, r4⟩ := hM (fun q => A1 q ∨ s.heap.size ≤ q) p e ha hc hk s m _ below hf happ ⟨rfl, h1.mono (fun q z => Or.inl z), hG.narrow hAA (fun q z => Or.inr z)⟩ trivial
  refine ⟨k, o, r1, r2, r3, ?_⟩
  rcases r4 with ⟨⟨⟨v, w', ho, hPv, hH'⟩, hF⟩, L, hFE, hL⟩ | ⟨q, ho, E, ce, L, ⟨⟨w', hPX, hH'⟩, hF⟩, q1, q2, q3, q4, q5, q6⟩
  · obtain ⟨b1, b2⟩ := zk_backL (n := n) h2 hA hd hsz hF hH'
    exact Or.inl ⟨⟨⟨v, _, ho, ⟨w', hPv, rfl⟩, b1⟩, b2⟩, L, hFE, fun z hz => hAA _ (hL z hz)⟩
  · obtain ⟨b1, b2⟩ := zk_backL (n := n) h2 hA hd hsz hF hH'
    exact Or.inr ⟨q, ho, E, ce, L, ⟨⟨_, ⟨w', hPX, rfl⟩, b1⟩, b2⟩, q1, q2, q3, q4, q5, fun z hz => hAA _ (q6 z hz)⟩
theorem zM_sumL (hM : ∀ A, zM l y ws rm D tys A g av w1 P) (hn : ∀ k, w1.2.1 k → k.1 < n) (A : Nat → Prop) : zM l y ws rm D tys A g av (zk_sum n w1 w2) (fun v W' => ∃ w1', P v w1' ∧ zk_sum n w1' w2 = W') := by
  intro p e ha hc hk s m args below hf happ hP _
  obtain ⟨rfl, hH, hG⟩ := hP
  obtain ⟨A1, A2, h1, h2, hA, hd⟩ := zk_side hH hn
  have hsz := hG.2.1
  have hAA : ∀ q, (A1 q ∨ s.heap.size ≤ q) → A q := fun q z => z.elim (fun z => (hA q (Or.inl z)).1) (hsz q)
  obtain ⟨k, o, r1, r2, r3, ⟨⟨v, w', ho, hPv, hH'⟩, hF⟩, L, hFE, hL⟩ := hM (fun q => A1 q ∨ s.heap.size ≤ q) p e ha hc hk s m _ below hf happ ⟨rfl, h1.mono (fun q z => Or.inl z), hG.narrow hAA (fun q z => Or.inr z)⟩ trivial
  obtain ⟨b1, b2⟩ := zk_backL (n := n) h2 hA hd hsz hF hH'
  exact ⟨k, o, r1, r2, r3, ⟨⟨v, _, ho, ⟨w', hPv, rfl⟩, b1⟩, b2⟩, L, hFE, fun z hz => hAA _ (hL z hz)⟩
theorem zM_sumR (hM : ∀ A, zM l y ws rm D tys A g av w2 P) (hn : ∀ k, w1.2.1 k → k.1 < n) (A : Nat → Prop) : zM l y ws rm D tys A g av (zk_sum n w1 w2) (fun v W' => ∃ w2', P v w2' ∧ zk_sum n w1 w2' = W') := by
  intro p e ha hc hk s m args below hf happ hP _
  obtain ⟨rfl, hH, hG⟩ := hP
  obtain ⟨A1, A2, h1, h2, hA, hd⟩ := zk_side hH hn
  have hsz := hG.2.1
  have hAA : ∀ q, (A2 q ∨ s.heap.size ≤ q) → A q := fun q z => z.elim (fun z => (hA q (Or.inr z)).1) (hsz q)
  obtain ⟨k, o, r1, r2, r3, ⟨⟨v, w', ho, hPv, hH'⟩, hF⟩, L, hFE, hL⟩ := hM (fun q => A2 q ∨ s.heap.size ≤ q) p e ha hc hk s m _ below hf happ ⟨rfl, h2.mono (fun q z => Or.inl z), hG.narrow hAA (fun q z => Or.inr z)⟩ trivial
  obtain ⟨b1, b2⟩ := zk_backR (n := n) h1 hA hd hsz hF hH'
  exact ⟨k, o, r1, r2, r3, ⟨⟨v, _, ho, ⟨w', hPv, rfl⟩, b1⟩, b2⟩, L, hFE, fun z hz => hAA _ (hL z hz)⟩
variable {A : Nat → Prop} {w : zk_W} {cc : ByteArray} {maxL : Nat} {ret : Option FieldType} {own : String} {hh : List (Nat × Nat × Nat × Nat)}
/-- a method with handlers, that returns -/
theorem zM_ofH (hy : plainName y.cls = true) (hw : ws = Cond.codeWith y cc maxL ret hh :: ws') (hav : (lg_sl av).length ≤ maxL) (ho : y.cls = own)
    (body : ∀ (p : Program) (e : Env) (s : State) (m : MethodId) (below : List Frame) (meth : Method) (c : Code), zC p l m c cc maxL s av.toArray ws own D tys A g meth → meth.sig.returnType = ret → c.exceptionTable.toList = tableOf hh →
      ∀ (H : Heap) (locs : List Loc) (ls : Array Slot), zk_H D A w H → va_S A s.heap H locs → lv_has ls maxL (lv_args 0 av) →
      W p l e rm s m av.toArray below meth c H locs 0 0 (MQ below (fun _ => zk_Qc D A P) av.toArray s rm.cells rm.slots A) (F0 m 0 ls [])) : zM l y ws rm D tys A g av w P := by
  show MetFree l y (headSpec ws rm) (zk_Pc D tys A g av w) (fun _ _ _ _ _ => True) (fun _ st o t => zk_Qc D A P st o t ∧ ∃ L, FrameEnd st o t L rm.cells rm.slots ∧ ∀ q ∈ L, A q.base)
  refine MetFree.of_bodyS (code := cc) (maxLocals := maxL) (ret := ret) hy ?_ ?_
  · intro args s m h hn
    obtain ⟨m9, meth, c, hn9, h1, h2, h3, h4, -, h5, h6, -⟩ := Cond.codeWith_spec (atoms_spec (ws := ws) h _ (by rw [hw]; exact List.mem_cons_self))
    cases hn.symm.trans hn9
    exact ⟨meth, c, h1, h2, h3, h4, h5, h6⟩
  · intro p e s m args below meth c s₁ B hml hv _
    obtain ⟨rfl, hH, hG⟩ := hv
    have hh0 : s₁.heap = s.heap := by rw [B.state]; rfl
    have hown : s.vm.findClass own = some m.cls := ho ▸ findClass_of_methodNamed B.named
    have hl := lv_entry av (n := maxL) hav
    have htab : c.exceptionTable.toList = tableOf hh := vx_table (x := y) B (atoms_spec (ws := ws) B.pre _ (by rw [hw]; exact List.mem_cons_self))
    have hbody := body p e s m below meth c ⟨⟨B.exec, B.bytes, hml, hown, atoms_spec (ws := ws) B.pre⟩, hG, B.notSynchronized⟩ B.returns htab s.heap [] _ hH va_S.rf hl
    rw [← lg_entry_eq] at hbody
    obtain ⟨t, a1, o, b1, b2, b3⟩ := hbody s₁ hh0 (Stand.of_body B)
    exact ⟨t, o, a1, b1, b2, ⟨b3.1, b3.2⟩⟩
end FR
section FR2
variable {p : Program} {l : Launch} {e : Env} {R : Room} {s : State} {m : MethodId} {args : Array Value} {below : List Frame} {meth : Method} {c : Code} {H : Heap} {locs : List Loc} {cells slots : Nat} {Q : State → Prop}
variable {cc : ByteArray} {pc nL : Nat} {ls : Array Slot} {rest st0 : List Value} {D : va_G} {tys : List (ClassId × FieldType)} {A : Nat → Prop} {g : Nat → Nat} {Ts : List Cond} {own : String} {w w' : zk_W} {H0 : Heap}
variable {P : Option Value → zk_W → Prop} {lc : List (Nat × Value)} {y : MethodName} {bytes : ByteArray} {maxL n index : Nat} {ret : Option FieldType} {ws ws' : List Cond} {rm : Room} {As : List Value} {hh : List (Nat × Nat × Nat × Nat)}
/-- invokestatic of a method with handlers -/
theorem zk_rSH (C : zC p l m c cc nL s args Ts own D tys A g meth) (hM : zM l y ws rm D tys A g As w P) (hH : zk_H D A w H) (hS : va_S A s.heap H locs)
    (hT : GoodIn Ts (va_wsS own index y ws)) (hw : ws = Cond.codeWith y bytes maxL ret hh :: ws') (hn : As.length = n)
    (hd : y.cls ≠ "java/lang/invoke/MethodHandle" ∧ y.cls ≠ "java/lang/invoke/VarHandle" ∧ (parseMethodDescriptor y.desc).map (fun d => d.parameters.length) = some n) (hR : rm.frames + 1 ≤ R.frames ∧ 8 + (maxL + 11) + rm.locals ≤ R.locals)
    (hl : lv_has ls nL lc) (hst : st0 = As.reverse ++ rest) (hW : (rest.map fun v => v.category).sum ≤ 8) (hdg : decode cc pc = .ok (.invokestatic index, 3)) (hf : cells + rm.cells ≤ R.cells ∧ slots + rm.slots ≤ R.slots) :
    va_Run p l e R s m args below meth c H locs cells slots rm.cells rm.slots (F0 m pc ls st0) rest (zk_Qc D A P) A :=
  vx_runSW (As := As) (rest := rest) C.1 hM (vx_cwSW n C.1.2.2.2.2 hT hw rfl rfl hd hR) (zk_pre C hH hS _) rfl hn hl.1 hst (lv_room (pc := pc) (ls := ls) hW) hdg hf
/-- a handler of the law's catches what is thrown -/
theorem zx_catch {E : String} {ce : Cell} {q : Addr} (C : zC p l m c cc nL s args Ts own D tys A g meth) (htab : c.exceptionTable.toList = tableOf hh) (pre : List ExceptionTableEntry) (x : ExceptionTableEntry) (suf : List ExceptionTableEntry) (hsplit : tableOf hh = pre ++ x :: suf)
    (hE : E ∈ zg_X) (hlink : Cond.classLink own x.catchType E ∈ Ts) (hpass : ∀ z ∈ pre, z.catchType ≠ 0 ∧ ∃ nm : String, Cond.classLink own z.catchType nm ∈ Ts ∧ (E, nm) ∈ zg_Nc) (hx : covers x pc = true) (h0 : x.catchType ≠ 0) (hcell : H[q]? = some ce) (hv : ce.vm = .none) (hcl : s.vm.findClass E = some ce.cls)
    (kk : W p l e R s m args below meth c H locs cells slots Q (F0 m x.handlerPc ls [.ref q])) : vx_W p l e R s m args below meth c H locs cells slots Q (F0 m pc ls rest) q := by
  refine vx_catch (own := own) (name := E) C.1.2.2.2.1 pre x suf (htab.trans hsplit) (fun z hz => ?_) hx h0 (C.1.2.2.2.2 _ hlink) ?_ hcell hv hcl kk
  · obtain ⟨z1, nm, z2, z3⟩ := hpass z hz
    exact Or.inr ⟨z1, nm, C.1.2.2.2.2 _ z2, C.2.1.2.2.2.2.2.2.2.2.2.1 (E, nm) z3⟩
  · exact va_Nw.use rfl (C.2.1.2.2.2.2.2.2.2.2.1 E hE)
end FR2
end
section
/-! ===== the law's arrays as a world: p v o g t m a x q e n ===== -/
/-- the kind of a row of the law's: 0 ints, 1 longs; and its length -/
def aK : Nat → Nat
  | 1 => 1 | 2 => 1 | 5 => 1 | 6 => 1 | 7 => 1 | 8 => 1 | 9 => 1 | _ => 0
def aN : Nat → Nat
  | 0 => 6 | 1 => 16 | 2 => 18 | 3 => 18 | 4 => 30 | 5 => 30 | 6 => 30 | 7 => 63 | 8 => 60 | 9 => 64 | 10 => 3 | _ => 0
def aEnt (cA : Nat → ClassId) (I : zIA) (L : zLA) : zk_K → va_E := fun k => if aK k.1 = 1 then .inl (cA 1, aN k.1, .inr (.inl (L k.1))) else .inl (cA 0, aN k.1, .inl (I k.1))
/-- the first n arrays -/
def awp (cA : Nat → ClassId) (ad : zk_K → Nat) (n : Nat) (I : zIA) (L : zLA) : zk_W := (ad, fun k => k.2 = (0, 0) ∧ k.1 < n, aEnt cA I L)
abbrev aw (cA : Nat → ClassId) (ad : zk_K → Nat) (I : zIA) (L : zLA) : zk_W := awp cA ad 11 I L
theorem aN_lt : ∀ a, aN a < 2 ^ 31 := by
  intro a
  unfold aN
  split <;> decide
section AW
variable {cA : Nat → ClassId} {ad : zk_K → Nat} {I : zIA} {L : zLA} {n : Nat}
theorem ae_I {a : Nat} (h : aK a = 0) : aEnt cA I L (a, 0, 0) = .inl (cA 0, aN a, .inl (I a)) := if_neg (by show ¬ aK a = 1; omega)
theorem ae_L {a : Nat} (h : aK a = 1) : aEnt cA I L (a, 0, 0) = .inl (cA 1, aN a, .inr (.inl (L a))) := if_pos h
theorem au_I {a j : Nat} {x : Int32} (h : aK a = 0) : zk_up (awp cA ad n I L) (a, 0, 0) (.inl (cA 0, aN a, .inl (upd (I a) j x))) (awp cA ad n (up2 I a j x) L) := by
  refine ⟨rfl, rfl, ?_, fun k hk hl => ?_⟩
  · show aEnt _ _ _ (a, 0, 0) = _
    rw [ae_I h, up2_I]
  · have hne : k.1 ≠ a := fun z => hk (Prod.ext z hl.1)
    show aEnt _ _ _ k = aEnt _ _ _ k
    unfold aEnt
    rw [up2_a hne]
theorem au_L {a j : Nat} {x : Int64} (h : aK a = 1) : zk_up (awp cA ad n I L) (a, 0, 0) (.inl (cA 1, aN a, .inr (.inl (vp_updL (L a) j x)))) (awp cA ad n I (up2 L a j x)) := by
  refine ⟨rfl, rfl, ?_, fun k hk hl => ?_⟩
  · show aEnt _ _ _ (a, 0, 0) = _
    rw [ae_L h, up2_L]
  · have hne : k.1 ≠ a := fun z => hk (Prod.ext z hl.1)
    show aEnt _ _ _ k = aEnt _ _ _ k
    unfold aEnt
    rw [up2_a hne]
theorem sum_upR {w1 w2 w2' : zk_W} {k : zk_K} {e : va_E} {z : Nat} (h : zk_up w2 k e w2') : zk_up (zk_sum z w1 w2) (z + k.1, k.2) e (zk_sum z w1 w2') := by
  obtain ⟨h1, h2, h3, h4⟩ := h
  have hz : ¬ z + k.1 < z := by omega
  have hk : ((z + k.1 - z, k.2) : zk_K) = k := by rw [Nat.add_sub_cancel_left]
  refine ⟨?_, ?_, ?_, fun k' hk' hl => ?_⟩
  · funext q
    show (if q.1 < z then w1.1 q else w2'.1 (q.1 - z, q.2)) = (if q.1 < z then w1.1 q else w2.1 (q.1 - z, q.2))
    rw [h1]
  · funext q
    show (if q.1 < z then w1.2.1 q else w2'.2.1 (q.1 - z, q.2)) = (if q.1 < z then w1.2.1 q else w2.2.1 (q.1 - z, q.2))
    rw [h2]
  · show (if z + k.1 < z then _ else w2'.2.2 (z + k.1 - z, k.2)) = _
    rw [if_neg hz, hk, h3]
  · show (if k'.1 < z then w1.2.2 k' else w2'.2.2 (k'.1 - z, k'.2)) = (if k'.1 < z then w1.2.2 k' else w2.2.2 (k'.1 - z, k'.2))
    by_cases hq : k'.1 < z
    · rw [if_pos hq, if_pos hq]
    · rw [if_neg hq, if_neg hq]
      have hl2 : (if k'.1 < z then w1.2.1 k' else w2.2.1 (k'.1 - z, k'.2)) := hl
      rw [if_neg hq] at hl2
      refine h4 _ (fun e => hk' ?_) hl2
      have e1 : k'.1 - z = k.1 := congrArg Prod.fst e
      have e2 : k'.2 = k.2 := congrArg Prod.snd e
      exact Prod.ext (show k'.1 = z + k.1 by omega) e2
end AW
/-- a script that no cell of the world is -/
def zScr (sb L0 : Nat) (xs : Nat → Int32) (A : Nat → Prop) (U : State) : Prop := va_X sb L0 xs U U.heap ∧ sb < U.heap.size ∧ ¬ A sb
section AR
variable {p : Program} {l : Launch} {e : Env} {R : Room} {s : State} {m : MethodId} {args : Array Value} {below : List Frame} {meth : Method} {c : Code} {H : Heap} {locs : List Loc} {cells slots : Nat} {Q : State → Prop}
variable {cc : ByteArray} {pc nL index : Nat} {ls : Array Slot} {rest st0 : List Value} {D : va_G} {cA : Nat → ClassId} {A : Nat → Prop} {g : Nat → Nat} {Ts : List Cond} {own : String} {H0 : Heap}
variable {ad : zk_K → Nat} {I : zIA} {L : zLA} {n : Nat} {w1 : zk_W}
theorem la_ild (C : zC p l m c cc nL s args Ts own D (zt cA) A g meth) (hH : zk_H D A (awp cA ad n I L) H) (a : Nat) (h1 : aK a = 0) (hn : a < n) {i : Int32} {j : Nat} (hi : i = nI j) (hj : j < aN a) (hdg : decode cc pc = .ok (.iaload, 1))
    (kk : W p l e R s m args below meth c H locs cells slots Q (F0 m (pc + 1) ls (.int (I a j) :: rest))) : W p l e R s m args below meth c H locs cells slots Q (F0 m pc ls (.int i :: .ref (ad (a, 0, 0)) :: rest)) :=
  zr_iald C hH (a, 0, 0) ⟨rfl, hn⟩ (ae_I h1) 0 rfl hi hj (aN_lt a) hdg kk
theorem la_lld (C : zC p l m c cc nL s args Ts own D (zt cA) A g meth) (hH : zk_H D A (awp cA ad n I L) H) (a : Nat) (h1 : aK a = 1) (hn : a < n) {i : Int32} {j : Nat} (hi : i = nI j) (hj : j < aN a) (hdg : decode cc pc = .ok (.laload, 1))
    (kk : W p l e R s m args below meth c H locs cells slots Q (F0 m (pc + 1) ls (.long (L a j) :: rest))) : W p l e R s m args below meth c H locs cells slots Q (F0 m pc ls (.int i :: .ref (ad (a, 0, 0)) :: rest)) :=
  zr_lald C hH (a, 0, 0) ⟨rfl, hn⟩ (ae_L h1) 1 rfl hi hj (aN_lt a) hdg kk
theorem la_ist (C : zC p l m c cc nL s args Ts own D (zt cA) A g meth) (hH : zk_H D A (awp cA ad n I L) H) (hS : va_S A H0 H locs) (a : Nat) (h1 : aK a = 0) (hn : a < n) {i x : Int32} {j : Nat} (hi : i = nI j) (hj : j < aN a) (hdg : decode cc pc = .ok (.iastore, 1))
    (kk : ∀ (H1 : Heap) (locs1 : List Loc), zk_H D A (awp cA ad n (up2 I a j x) L) H1 → va_S A H0 H1 locs1 → W p l e R s m args below meth c H1 locs1 cells slots Q (F0 m (pc + 1) ls rest)) : W p l e R s m args below meth c H locs cells slots Q (F0 m pc ls (.int x :: .int i :: .ref (ad (a, 0, 0)) :: rest)) :=
  zr_iast C hH hS (a, 0, 0) ⟨rfl, hn⟩ (ae_I h1) 0 rfl hi hj (aN_lt a) hdg _ (au_I h1) kk
theorem la_lst (C : zC p l m c cc nL s args Ts own D (zt cA) A g meth) (hH : zk_H D A (awp cA ad n I L) H) (hS : va_S A H0 H locs) (a : Nat) (h1 : aK a = 1) (hn : a < n) {i : Int32} {x : Int64} {j : Nat} (hi : i = nI j) (hj : j < aN a) (hdg : decode cc pc = .ok (.lastore, 1))
    (kk : ∀ (H1 : Heap) (locs1 : List Loc), zk_H D A (awp cA ad n I (up2 L a j x)) H1 → va_S A H0 H1 locs1 → W p l e R s m args below meth c H1 locs1 cells slots Q (F0 m (pc + 1) ls rest)) : W p l e R s m args below meth c H locs cells slots Q (F0 m pc ls (.long x :: .int i :: .ref (ad (a, 0, 0)) :: rest)) :=
  zr_last C hH hS (a, 0, 0) ⟨rfl, hn⟩ (ae_L h1) 1 rfl hi hj (aN_lt a) hdg _ (au_L h1) kk
/-! the same beside the class's world -/
theorem ls_key {a : Nat} (ha : a < 11) : (zk_sum 50 w1 (aw cA ad I L)).2.1 (50 + a, 0, 0) ∧ (zk_sum 50 w1 (aw cA ad I L)).1 (50 + a, 0, 0) = ad (a, 0, 0) ∧ (zk_sum 50 w1 (aw cA ad I L)).2.2 (50 + a, 0, 0) = aEnt cA I L (a, 0, 0) := by
  have hz : ¬ 50 + a < 50 := by omega
  refine ⟨?_, ?_, ?_⟩
  · show if 50 + a < 50 then _ else (aw cA ad I L).2.1 (50 + a - 50, 0, 0)
    rw [if_neg hz, Nat.add_sub_cancel_left]
    exact ⟨rfl, ha⟩
  · show (if 50 + a < 50 then _ else (aw cA ad I L).1 (50 + a - 50, 0, 0)) = _
    rw [if_neg hz, Nat.add_sub_cancel_left]
  · show (if 50 + a < 50 then _ else (aw cA ad I L).2.2 (50 + a - 50, 0, 0)) = _
    rw [if_neg hz, Nat.add_sub_cancel_left]
theorem ls_ild (C : zC p l m c cc nL s args Ts own D (zt cA) A g meth) (hH : zk_H D A (zk_sum 50 w1 (aw cA ad I L)) H) (a : Nat) (h1 : aK a = 0) (hn : a < 11) {i : Int32} {j : Nat} (hi : i = nI j) (hj : j < aN a) (hdg : decode cc pc = .ok (.iaload, 1))
    (kk : W p l e R s m args below meth c H locs cells slots Q (F0 m (pc + 1) ls (.int (I a j) :: rest))) : W p l e R s m args below meth c H locs cells slots Q (F0 m pc ls (.int i :: .ref (ad (a, 0, 0)) :: rest)) := by
  obtain ⟨k1, k2, k3⟩ := ls_key (w1 := w1) (cA := cA) (ad := ad) (I := I) (L := L) hn
  rw [← k2]
  exact zr_iald C hH (50 + a, 0, 0) k1 (k3.trans (ae_I h1)) 0 rfl hi hj (aN_lt a) hdg kk
theorem ls_lld (C : zC p l m c cc nL s args Ts own D (zt cA) A g meth) (hH : zk_H D A (zk_sum 50 w1 (aw cA ad I L)) H) (a : Nat) (h1 : aK a = 1) (hn : a < 11) {i : Int32} {j : Nat} (hi : i = nI j) (hj : j < aN a) (hdg : decode cc pc = .ok (.laload, 1))
    (kk : W p l e R s m args below meth c H locs cells slots Q (F0 m (pc + 1) ls (.long (L a j) :: rest))) : W p l e R s m args below meth c H locs cells slots Q (F0 m pc ls (.int i :: .ref (ad (a, 0, 0)) :: rest)) := by
  obtain ⟨k1, k2, k3⟩ := ls_key (w1 := w1) (cA := cA) (ad := ad) (I := I) (L := L) hn
  rw [← k2]
  exact zr_lald C hH (50 + a, 0, 0) k1 (k3.trans (ae_L h1)) 1 rfl hi hj (aN_lt a) hdg kk
theorem ls_ist (C : zC p l m c cc nL s args Ts own D (zt cA) A g meth) (hH : zk_H D A (zk_sum 50 w1 (aw cA ad I L)) H) (hS : va_S A H0 H locs) (a : Nat) (h1 : aK a = 0) (hn : a < 11) {i x : Int32} {j : Nat} (hi : i = nI j) (hj : j < aN a) (hdg : decode cc pc = .ok (.iastore, 1))
    (kk : ∀ (H1 : Heap) (locs1 : List Loc), zk_H D A (zk_sum 50 w1 (aw cA ad (up2 I a j x) L)) H1 → va_S A H0 H1 locs1 → W p l e R s m args below meth c H1 locs1 cells slots Q (F0 m (pc + 1) ls rest)) : W p l e R s m args below meth c H locs cells slots Q (F0 m pc ls (.int x :: .int i :: .ref (ad (a, 0, 0)) :: rest)) := by
  obtain ⟨k1, k2, k3⟩ := ls_key (w1 := w1) (cA := cA) (ad := ad) (I := I) (L := L) hn
  rw [← k2]
  exact zr_iast C hH hS (50 + a, 0, 0) k1 (k3.trans (ae_I h1)) 0 rfl hi hj (aN_lt a) hdg _ (sum_upR (k := (a, 0, 0)) (au_I h1)) kk
theorem ls_lst (C : zC p l m c cc nL s args Ts own D (zt cA) A g meth) (hH : zk_H D A (zk_sum 50 w1 (aw cA ad I L)) H) (hS : va_S A H0 H locs) (a : Nat) (h1 : aK a = 1) (hn : a < 11) {i : Int32} {x : Int64} {j : Nat} (hi : i = nI j) (hj : j < aN a) (hdg : decode cc pc = .ok (.lastore, 1))
    (kk : ∀ (H1 : Heap) (locs1 : List Loc), zk_H D A (zk_sum 50 w1 (aw cA ad I (up2 L a j x))) H1 → va_S A H0 H1 locs1 → W p l e R s m args below meth c H1 locs1 cells slots Q (F0 m (pc + 1) ls rest)) : W p l e R s m args below meth c H locs cells slots Q (F0 m pc ls (.long x :: .int i :: .ref (ad (a, 0, 0)) :: rest)) := by
  obtain ⟨k1, k2, k3⟩ := ls_key (w1 := w1) (cA := cA) (ad := ad) (I := I) (L := L) hn
  rw [← k2]
  exact zr_last C hH hS (50 + a, 0, 0) k1 (k3.trans (ae_L h1)) 1 rfl hi hj (aN_lt a) hdg _ (sum_upR (k := (a, 0, 0)) (au_L h1)) kk
/-! a contract that wants the script -/
def zk_PcS (sb L0 : Nat) (xs : Nat → Int32) (D : va_G) (tys : List (ClassId × FieldType)) (A : Nat → Prop) (g : Nat → Nat) (av : List Value) (w : zk_W) : Array Value → State → Prop := va_Pc av (fun U => (zk_H D A w U.heap ∧ zG D tys A g U) ∧ zScr sb L0 xs A U)
theorem zScr.step {sb L0 : Nat} {xs : Nat → Int32} {U : State} (h : zScr sb L0 xs A s) (hW : s.WarmedH U.vm) (hS : va_S A s.heap U.heap locs) : zScr sb L0 xs A U :=
  ⟨va_X.moved hW.alike (h.1.kept (hS.2.1 sb h.2.1 h.2.2)), Nat.lt_of_lt_of_le h.2.1 hS.1, h.2.2⟩
theorem zk_preS {sb L0 : Nat} {xs : Nat → Int32} {w : zk_W} (C : zC p l m c cc nL s args Ts own D (zt cA) A g meth) (hX : zScr sb L0 xs A s) (hH : zk_H D A w H) (hS : va_S A s.heap H locs) (av : List Value) : PreS s H (zk_PcS sb L0 xs D (zt cA) A g av w) av :=
  ⟨fun _ _ _ _ h => ⟨h.1, ⟨h.2.1.1, zG.calling h.2.1.2⟩, zScr.step (locs := []) h.2.2 (State.WarmedH.refl _) va_S.rf⟩, fun U hU hW => ⟨rfl, ⟨by rw [hU]; exact hH, zG.step (locs := locs) C.2.1 hW (by rw [hU]; exact hS)⟩, zScr.step (locs := locs) hX hW (by rw [hU]; exact hS)⟩⟩
end AR
/-- several roads come to one place -/
theorem z_join {p : Program} {l : Launch} {e : Env} {R : Room} {s : State} {m : MethodId} {args : Array Value} {below : List Frame} {meth : Method} {c : Code} {H : Heap} {locs : List Loc} {cells slots : Nat} {Q : State → Prop} {ls : Array Slot} {pc nL : Nat} {st : List Value} {D : va_G} {A : Nat → Prop} {w : zk_W} {pcj : Nat} {lc : List (Nat × Value)} {st1 : List Value}
    (k : zL p l e R s m args below meth c nL D A Q w cells slots pcj lc st1 → W p l e R s m args below meth c H locs cells slots Q (F0 m pc ls st)) (j : zL p l e R s m args below meth c nL D A Q w cells slots pcj lc st1) : W p l e R s m args below meth c H locs cells slots Q (F0 m pc ls st) := k j
end
