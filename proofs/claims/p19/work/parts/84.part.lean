/-! ===== the script's numbers ===== -/
/-- a method that reads the script -/
def zMS (sb L0 : Nat) (xs : Nat → Int32) (l : Launch) (y : MethodName) (ws : List Cond) (rm : Room) (D : va_G) (tys : List (ClassId × FieldType)) (A : Nat → Prop) (g : Nat → Nat) (av : List Value) (w : zk_W) (P : Option Value → zk_W → Prop) : Prop :=
  Met l y ws rm (zk_PcS sb L0 xs D tys A g av w) (fun _ => zk_Qc D A P) rm.cells rm.slots A
theorem zMS_of {sb L0 : Nat} {xs : Nat → Int32} {l : Launch} {y : MethodName} {ws ws' : List Cond} {rm : Room} {D : va_G} {tys : List (ClassId × FieldType)} {A : Nat → Prop} {g : Nat → Nat} {av : List Value} {w : zk_W} {P : Option Value → zk_W → Prop} {cc : ByteArray} {maxL : Nat} {ret : Option FieldType} {own : String}
    (hy : plainName y.cls = true) (hw : ws = Cond.code y cc maxL ret :: ws') (hav : (lg_sl av).length ≤ maxL) (ho : y.cls = own)
    (body : ∀ (p : Program) (e : Env) (s : State) (m : MethodId) (below : List Frame) (meth : Method) (c : Code), zC p l m c cc maxL s av.toArray ws own D tys A g meth → meth.sig.returnType = ret → meth.name = y.name → zScr sb L0 xs A s →
      ∀ (H : Heap) (locs : List Loc) (ls : Array Slot), zk_H D A w H → va_S A s.heap H locs → lv_has ls maxL (lv_args 0 av) →
      W p l e rm s m av.toArray below meth c H locs 0 0 (MQ below (fun _ => zk_Qc D A P) av.toArray s rm.cells rm.slots A) (F0 m 0 ls [])) : zMS sb L0 xs l y ws rm D tys A g av w P := by
  refine Met.ofW (cc := cc) (maxL := maxL) (ret := ret) hy hw ?_
  intro p e s m args below meth c s₁ B hml hv
  obtain ⟨rfl, ⟨hH, hG⟩, hX⟩ := hv
  have hown : s.vm.findClass own = some m.cls := ho ▸ findClass_of_methodNamed B.named
  have hl := lv_entry av (n := maxL) hav
  rw [lg_entry_eq]
  exact body p e s m below meth c ⟨⟨B.exec, B.bytes, hml, hown, atoms_spec (ws := ws) B.pre⟩, hG, B.notSynchronized⟩ B.returns (name_of_methodNamed B.named B.method).1 hX s.heap [] _ hH va_S.rf hl
section SP
variable {p : Program} {l : Launch} {e : Env} {R rm : Room} {s : State} {m : MethodId} {args : Array Value} {below : List Frame} {meth : Method} {c : Code} {H : Heap} {locs : List Loc} {cells slots : Nat}
variable {cc : ByteArray} {pc nL index maxL n : Nat} {ls : Array Slot} {rest st0 As : List Value} {D : va_G} {cA : Nat → ClassId} {A : Nat → Prop} {g : Nat → Nat} {Ts ws ws' : List Cond} {own : String} {y : MethodName} {bytes : ByteArray} {ret : Option FieldType} {lc : List (Nat × Value)} {w : zk_W} {P : Option Value → zk_W → Prop} {sb L0 : Nat} {xs : Nat → Int32}
theorem zk_rSS (C : zC p l m c cc nL s args Ts own D (zt cA) A g meth) (hM : zScr sb L0 xs A s ∧ zMS sb L0 xs l y ws rm D (zt cA) A g As w P) (hH : zk_H D A w H) (hS : va_S A s.heap H locs)
    (hT : GoodIn Ts (va_wsS own index y ws)) (hw : ws = Cond.code y bytes maxL ret :: ws') (hn : As.length = n)
    (hd : y.cls ≠ "java/lang/invoke/MethodHandle" ∧ y.cls ≠ "java/lang/invoke/VarHandle" ∧ (parseMethodDescriptor y.desc).map (fun d => d.parameters.length) = some n) (hR : rm.frames + 1 ≤ R.frames ∧ 8 + (maxL + 11) + rm.locals ≤ R.locals)
    (hl : lv_has ls nL lc) (hst : st0 = As.reverse ++ rest) (hW : (rest.map fun v => v.category).sum ≤ 8) (hdg : decode cc pc = .ok (.invokestatic index, 3)) (hf : cells + rm.cells ≤ R.cells ∧ slots + rm.slots ≤ R.slots) :
    va_Run p l e R s m args below meth c H locs cells slots rm.cells rm.slots (F0 m pc ls st0) rest (zk_Qc D A P) A :=
  va_runS (As := As) (rest := rest) C.1 hM.2 (va_cwS n C.1.2.2.2.2 hT hw rfl rfl hd hR) (zk_preS C hM.1 hH hS _) rfl hn hl.1 hst (lv_room (pc := pc) (ls := ls) hW) hdg hf
end SP
theorem and31 (x : Int32) : ∃ v, v < 2 ^ 31 ∧ x &&& 2147483647 = nI v := by
  refine ⟨(x &&& 2147483647).toBitVec.toNat, ?_, ?_⟩
  · rw [Int32.toBitVec_and, BitVec.toNat_and]
    exact Nat.lt_of_le_of_lt Nat.and_le_right (by decide)
  · apply Int32.toBitVec_inj.mp
    show _ = BitVec.ofNat 32 _
    rw [BitVec.ofNat_toNat, BitVec.setWidth_eq]
def rmH_part : Room := { frames := 0, cells := 0, slots := 0, locals := 0 }
set_option maxHeartbeats 600000 in
set_option maxRecDepth 100000 in
theorem cH_part (l : Launch) (D : va_G) (cA : Nat → ClassId) (A : Nat → Prop) (g : Nat → Nat) (w : zk_W) (sb L0 i N : Nat) (xs : Nat → Int32) (hL0 : L0 ≤ 260) (hi : i < 1000) (hN : 0 < N) (hN2 : N ≤ 60000) : zMS sb L0 xs l yL_part wsL_part rmH_part D (zt cA) A g [.ref sb, .int (nI i), .int (nI N)] w (zQi (fun r w' => (∃ j, j < N ∧ r = nI j) ∧ w = w')) := by
  refine zMS_of (cc := cL_part) (maxL := 4) (ret := (some .int)) (own := RL) (by decide +kernel) rfl (Nat.le_of_ble_eq_true rfl) rfl ?_
  intro p e s m below meth c C hr hnm hZ H locs ls hH hS hl
  obtain ⟨⟨hx, hb, hml, hown, hts⟩, hG, hlk⟩ := id C
  obtain ⟨hX, hbl, hbA⟩ := id hZ
  have hl : lv_has ls 4 [(0, .ref sb), (1, .int (nI i)), (2, .int (nI N))] := hl
  have J : ∀ (x : Int32) (ls : Array Slot), lv_has ls 4 [(3, .int x), (0, .ref sb), (1, .int (nI i)), (2, .int (nI N))] → W p l e rmH_part s m #[.ref sb, .int (nI i), .int (nI N)] below meth c H locs 0 0 (MQ below (fun _ => zk_Qc D A (zQi (fun r w' => (∃ j, j < N ∧ r = nI j) ∧ w = w'))) #[.ref sb, .int (nI i), .int (nI N)] s rmH_part.cells rmH_part.slots A) (F0 m 26 ls []) := by
    intro x ls hl
    refine lv_iload_n hx hb dL_part_26 rfl (lv_at hl 0 rfl) ?_
    refine lv_ldc (v := 2147483647) hx hb hown (hts (.constant RL 7 2147483647) (by decide +kernel)) dL_part_27 ?_
    refine lv_iand hx hb dL_part_29 ?_
    obtain ⟨v, hv, he⟩ := and31 x
    rw [he]
    refine lv_iload_n hx hb dL_part_30 rfl (lv_at hl 3 rfl) ?_
    refine lv_irem hx hb dL_part_31 (fun z => absurd ((nI_k0 (by omega)).mp z) (by omega)) ?_
    refine W.eq (g2 := F0 m 32 ls [.int (nI (v % N))]) (by rw [show (nI v - nI v / nI N * nI N : Int32) = nI (v % N) from (zi_rem rfl rfl hv hN (by omega))]) ?_
    refine zr_iret C hr ?_ hH hS (Nat.le_of_ble_eq_true rfl) (Nat.le_of_ble_eq_true rfl) dL_part_32
    exact ⟨⟨v % N, Nat.mod_lt _ hN, rfl⟩, rfl⟩
  refine lv_iload_n hx hb dL_part_0 rfl (lv_at hl 1 rfl) ?_
  refine lv_aload_n hx hb dL_part_1 rfl (lv_at hl 0 rfl) ?_
  refine va_slen hx hb hX hbl hbA hS dL_part_2 ?_
  refine lv_icmp_ge (tgt := 12) hx hb dL_part_3 (by decide) (fun c1 => ?_) (fun c1 => ?_)
  · refine lv_sipush (v := 919) hx hb dL_part_12 (by decide) ?_
    refine lv_iload_n hx hb dL_part_15 rfl (lv_at hl 1 rfl) ?_
    refine lv_imul hx hb dL_part_16 ?_
    refine lv_sipush (v := 787) hx hb dL_part_17 (by decide) ?_
    refine lv_iload_n hx hb dL_part_20 rfl (lv_at hl 1 rfl) ?_
    refine lv_imul hx hb dL_part_21 ?_
    refine lv_iload_n hx hb dL_part_22 rfl (lv_at hl 1 rfl) ?_
    refine lv_imul hx hb dL_part_23 ?_
    refine lv_iadd hx hb dL_part_24 ?_
    exact lv_istore_n (lv' := [(3, .int _), (0, .ref sb), (1, .int (nI i)), (2, .int (nI N))]) hx hb dL_part_25 rfl hl (by decide) rfl (fun ls hl => J _ ls hl)
  · have hlt : i < L0 := Nat.lt_of_not_le (fun z => c1 (nI_le z (by omega)))
    refine lv_aload_n hx hb dL_part_6 rfl (lv_at hl 0 rfl) ?_
    refine lv_iload_n hx hb dL_part_7 rfl (lv_at hl 1 rfl) ?_
    refine va_sld hx hb hX hbl hbA hS (vp_in_nI (by omega) (by omega)) dL_part_8 ?_
    refine lv_goto (tgt := 25) hx hb dL_part_9 (by decide) ?_
    exact lv_istore_n (lv' := [(3, .int _), (0, .ref sb), (1, .int (nI i)), (2, .int (nI N))]) hx hb dL_part_25 rfl hl (by decide) rfl (fun ls hl => J _ ls hl)
