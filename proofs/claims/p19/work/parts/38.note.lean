theorem capL_n {n : Nat} (h : n < 163) : n ≤ 109 ∨ n < capL n := by
  by_cases h1 : n ≤ 109
  · exact Or.inl h1
  · right
    unfold capL
    repeat' split
    all_goals omega
theorem zD_nI {c n : Nat} (h : c < n) (hn : n < 2 ^ 31) : zD (nI c) n := by
  refine ⟨by rw [dN_nI (n := c) (by omega)], ?_⟩
  rw [dN_nI (n := c) (by omega)]
  exact h
theorem note11 {I : zIA} {nt dy c f n : Nat} (h : ∀ t, t < nt → zD (I 11 t) n) (hc : c < n) (hn : n ≤ 12) : ∀ t, t < nt + 1 → zD (noteI I nt dy c f 11 t) n := by
  intro t ht
  unfold noteI
  rw [up2_ne (by decide), up2_ne (by decide), up2_ne (by decide)]
  by_cases e : t = nt
  · rw [e, up2_s]
    exact zD_nI hc (by omega)
  · rw [up2_i e]
    exact h t (by omega)
theorem note12 {I : zIA} {nt dy c f : Nat} (h : ∀ t, t < nt → zD (I 12 t) 6) (hf : f < 6) : ∀ t, t < nt + 1 → zD (noteI I nt dy c f 12 t) 6 := by
  intro t ht
  unfold noteI
  rw [up2_ne (by decide), up2_ne (by decide)]
  by_cases e : t = nt
  · rw [e, up2_s]
    exact zD_nI hf (by decide)
  · rw [up2_i e, up2_ne (by decide)]
    exact h t (by omega)
theorem note16 {I : zIA} {nt dy c f : Nat} (h : ∀ t, t < nt → zD (I 16 t) 7201) (hd : dy ≤ 7200) : ∀ t, t < nt + 1 → zD (noteI I nt dy c f 16 t) 7201 := by
  intro t ht
  unfold noteI
  rw [up2_ne (by decide)]
  by_cases e : t = nt
  · rw [e, up2_s]
    exact zD_nI (by omega) (by decide)
  · rw [up2_i e, up2_ne (by decide), up2_ne (by decide)]
    exact h t (by omega)
section ZW
variable {p : Program} {l : Launch} {e : Env} {R : Room} {s : State} {m : MethodId} {args : Array Value} {below : List Frame} {meth : Method} {c : Code} {H : Heap} {locs : List Loc} {cells slots : Nat} {Q : State → Prop}
variable {cc : ByteArray} {pc nL : Nat} {ls : Array Slot} {rest st0 : List Value} {D : va_G} {tys : List (ClassId × FieldType)} {A : Nat → Prop} {g : Nat → Nat} {Ts : List Cond} {own : String} {w w' : zk_W} {H0 : Heap}
variable {P : Option Value → zk_W → Prop} {PX : String → zk_W → Prop} {mc ms : Nat} {lc : List (Nat × Value)}
variable {y : MethodName} {bytes : ByteArray} {maxL n index : Nat} {ret : Option FieldType} {ws ws' : List Cond} {rm : Room} {Cn : String} {b : Addr} {As : List Value}
/-- invokestatic with a deep stack below -/
theorem zk_rS16 (C : zC p l m c cc nL s args Ts own D tys A g meth) (hM : zM l y ws rm D tys A g As w P) (hH : zk_H D A w H) (hS : va_S A s.heap H locs)
    (hT : GoodIn Ts (va_wsS own index y ws)) (hw : ws = Cond.code y bytes maxL ret :: ws') (hn : As.length = n)
    (hd : y.cls ≠ "java/lang/invoke/MethodHandle" ∧ y.cls ≠ "java/lang/invoke/VarHandle" ∧ (parseMethodDescriptor y.desc).map (fun d => d.parameters.length) = some n) (hR : rm.frames + 1 ≤ R.frames ∧ 16 + (maxL + 11) + rm.locals ≤ R.locals)
    (hl : lv_has ls nL lc) (hst : st0 = As.reverse ++ rest) (hW : (rest.map fun v => v.category).sum ≤ 16) (hdg : decode cc pc = .ok (.invokestatic index, 3)) (hf : cells + rm.cells ≤ R.cells ∧ slots + rm.slots ≤ R.slots) :
    va_Run p l e R s m args below meth c H locs cells slots rm.cells rm.slots (F0 m pc ls st0) rest (zk_Qc D A P) A := by
  have cw := va_cwS (R := R) n C.1.2.2.2.2 hT hw rfl rfl hd ⟨hR.1, by have := hR.2; omega⟩
  obtain ⟨⟨hrc, hrs, hfr, -, hws, hcw, hcode, hini, hy, hlen, hlk⟩, hstt⟩ := cw
  have hp := zk_pre C hH hS As
  have hK : Back l R p e below s args y 3 16 (PreOf R rm.cells rm.slots (zk_Pc D tys A g As w)) (PostOf (fun _ => zk_Qc D A P) rm.cells rm.slots A) := back_of (bytes := bytes) (maxL := maxL) (ret := ret) hM zk_blind hrc hrs hfr hR.2 hws hcw (fun a' U hW => word_at hW (Or.inl (by first | rfl | simp [Cond.onTables, Cond.keeps, Cond.steady])) hini)
  obtain ⟨hx, hb, hml, ho, -⟩ := C.1
  intro T hT X
  obtain ⟨v, vm₁, ⟨U', l2, c2, s2⟩, hW₁, X', ⟨g', mk, t, L, e1, e2, hq, h1, hL, h2, h3⟩, st⟩ := callS X hx (bytes := bytes) (maxL := maxL) (ret := ret) ho hlk hstt hini hcode hy hK (g := F0 m pc ls st0) rfl (hl.1.trans hml.symm) (argsL := As) (rest := rest) (fun sig h => hn.trans (hlen sig h)) hst (by show 2 * 0 + _ ≤ 16; omega) (by rw [hb]; exact hdg)
    (fun vm₁ hW₁ => ⟨hf.1, hf.2, hp.2 (T.setVm vm₁) hT hW₁⟩)
  dsimp only [Pt.U, Pt.locs, Pt.cells, Pt.slots] at X' e1 e2 h1 h2 h3 st
  subst h1; subst h2; subst h3
  exact ⟨v, (T.setVm vm₁).calling g' mk As.toArray, t, U', L, hT, X', hL, e1, e2, hq, st⟩
end ZW
