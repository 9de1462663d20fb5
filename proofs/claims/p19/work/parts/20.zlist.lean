/-! ===== rows of references, lists ===== -/
/-- an address in a row of references: an object of a class whose objects lie in lists -/
def zO (ci : Nat) : Prop := ci = 1 ∨ ci = 2 ∨ ci = 3 ∨ ci = 4
def zEl (w : zk_W) (y : Nat) : Prop := ∃ (k : zk_K) (ci : Nat) (fs : List Value), w.2.1 k ∧ w.1 k = y ∧ w.2.2 k = .inr (ci, fs) ∧ zO ci
section ZQ
variable {p : Program} {l : Launch} {e : Env} {R : Room} {s : State} {m : MethodId} {args : Array Value} {below : List Frame} {meth : Method} {c : Code} {H : Heap} {locs : List Loc} {cells slots : Nat} {Q : State → Prop}
variable {cc : ByteArray} {pc nL index : Nat} {ls : Array Slot} {rest st0 : List Value} {D : va_G} {cA : Nat → ClassId} {A : Nat → Prop} {g : Nat → Nat} {Ts : List Cond} {own : String} {w w' : zk_W} {H0 : Heap} {lc : List (Nat × Value)}
theorem zk_any {ws : va_W} (hG : zG D (zt cA) A g s) (hP : va_P D vwCl ws H) {a q0 ci : Nat} {fs : List Value} (he : ws[q0]? = some (a, .inr (ci, fs))) (hO : zO ci) : va_Any "java/lang/Object" s H a := by
  obtain ⟨hK, -, -, -, -, -, -, -, -, -, -, -, -, -, hc, -⟩ := hG
  rcases hO with rfl | rfl | rfl | rfl
  · exact va_rAny (r := (RX0, TX0, 5)) hK hP he rfl (fun comp c0 h1 h2 => vb_asgC (hc "SavingsHall$Client" (by decide)) comp c0 h1 h2)
  · exact va_rAny (r := (RX1, TX1, 4)) hK hP he rfl (fun comp c0 h1 h2 => vb_asgC (hc "SavingsHall$Fund" (by decide)) comp c0 h1 h2)
  · exact va_rAny (r := (RX2, TX2, 4)) hK hP he rfl (fun comp c0 h1 h2 => vb_asgC (hc "SavingsHall$Holding" (by decide)) comp c0 h1 h2)
  · exact va_rAny (r := (RX3, TX3, 9)) hK hP he rfl (fun comp c0 h1 h2 => vb_asgC (hc "SavingsHall$Trade" (by decide)) comp c0 h1 h2)
theorem zr_aald (C : zC p l m c cc nL s args Ts own D (zt cA) A g meth) (hH : zk_H D A w H) (k : zk_K) (hk : w.2.1 k) {cB : ClassId} {n : Nat} {f : Nat → Option Nat} (he : w.2.2 k = .inl (cB, n, .inr (.inr (.inr (.inr f))))) (hB : cB = cA 3) {i : Int32} {j : Nat} (hi : i = nI j) (hj : j < n) (hn : n < 2 ^ 31) (hdg : decode cc pc = .ok (.aaload, 1))
    (kk : W p l e R s m args below meth c H locs cells slots Q (F0 m (pc + 1) ls (va_rf (f j) :: rest))) : W p l e R s m args below meth c H locs cells slots Q (F0 m pc ls (.int i :: .ref (w.1 k) :: rest)) := by
  obtain ⟨ws, hP, hD, hL, hI⟩ := hH
  obtain ⟨z, hz⟩ := hL k hk
  rw [he] at hz
  subst hi
  subst hB
  refine va_aldq C.1.1 C.1.2.1 C.2.1.1 hP z 3 hz rfl (vp_in_nI hj hn) hdg ?_
  rw [nI_clamp (Nat.lt_trans hj hn)]
  exact kk
theorem zr_aast (C : zC p l m c cc nL s args Ts own D (zt cA) A g meth) (hH : zk_H D A w H) (hS : va_S A H0 H locs) (k : zk_K) (hk : w.2.1 k) {cB : ClassId} {n : Nat} {f : Nat → Option Nat} (he : w.2.2 k = .inl (cB, n, .inr (.inr (.inr (.inr f))))) (hB : cB = cA 3) {v : Nat} (hv : zEl w v) {i : Int32} {j : Nat} (hi : i = nI j) (hj : j < n) (hn : n < 2 ^ 31) (hdg : decode cc pc = .ok (.aastore, 1))
    (w' : zk_W) (hu : zk_up w k (.inl (cB, n, .inr (.inr (.inr (.inr (va_up f j (some v))))))) w') (kk : ∀ (H1 : Heap) (locs1 : List Loc), zk_H D A w' H1 → va_S A H0 H1 locs1 → W p l e R s m args below meth c H1 locs1 cells slots Q (F0 m (pc + 1) ls rest)) : W p l e R s m args below meth c H locs cells slots Q (F0 m pc ls (.ref v :: .int i :: .ref (w.1 k) :: rest)) := by
  obtain ⟨ws, hP, hD, hL, hI⟩ := hH
  obtain ⟨z, hz⟩ := hL k hk
  rw [he] at hz
  obtain ⟨kv, ci, fs, hkv, rfl, hev, hO⟩ := hv
  obtain ⟨zv, hzv⟩ := hL kv hkv
  rw [hev] at hzv
  subst hi
  subst hB
  refine va_astqM C.1.1 C.1.2.1 C.2.1.1 hP hD hS z 3 hz rfl (zk_any C.2.1 hP hzv hO) (vp_in_nI hj hn) hdg (fun H1 locs1 hP1 hD1 hS1 => ?_)
  rw [nI_clamp (Nat.lt_trans hj hn)] at hP1 hD1
  exact kk H1 locs1 (zk_set hL hI hk hz hu hP1 hD1) hS1
/-- a new row of references -/
theorem zr_newq (C : zC p l m c cc nL s args Ts own D (zt cA) A g meth) (hcl : Cond.classLink own index "java/lang/Object" ∈ Ts) (hH : zk_H D A w H) (hS : va_S A s.heap H locs) {n : Int32} {N' : Nat} (hn : n = nI N') (hN : N' < 2 ^ 26) (hcells : cells + 1 ≤ R.cells) (hslots : slots + N' ≤ R.slots) (hdg : decode cc pc = .ok (.anewarray index, 3))
    (k : zk_K) (w' : Nat → zk_W) (hnw : ∀ q, zk_nw w k q (.inl (cA 3, N', .inr (.inr (.inr (.inr (fun _ => none)))))) (w' q)) (kk : ∀ (q : Nat) (H1 : Heap), zk_H D A (w' q) H1 → va_S A s.heap H1 locs → W p l e R s m args below meth c H1 locs (cells + 1) (slots + N') Q (F0 m (pc + 3) ls (.ref q :: rest))) : W p l e R s m args below meth c H locs cells slots Q (F0 m pc ls (.int n :: rest)) := by
  obtain ⟨ws, hP, hD, hL, hI⟩ := hH
  have h31 : N' < 2 ^ 31 := by omega
  subst hn
  have hAO := C.2.1.2.2.2.2.2.2.2.2.2.2.1
  refine va_newq C.1.1 C.1.2.1 C.1.2.2.2.1 (C.1.2.2.2.2 _ hcl) hAO C.2.1.1 hP hD hS C.2.1.2.1 (nI_pos h31) (nI_clamp h31) (by omega) hcells hslots hdg (fun q cB H1 hK1 hP1 hD1 hS1 => ?_)
  have e1 : s.vm.findClass ("[" ++ (FieldType.object "java/lang/Object").toString) = some (cA 3) := by
    obtain ⟨kA, comp, -, -, -, h⟩ := (C.2.1.1.2 3 _ rfl).2
    exact h
  have e2 : s.vm.findClass ("[" ++ (FieldType.object "java/lang/Object").toString) = some cB := by
    obtain ⟨kA, comp, -, -, -, h⟩ := (hK1.2 (zt cA).length (cB, .object "java/lang/Object") (by rw [List.getElem?_append_right (Nat.le_refl _), Nat.sub_self]; rfl)).2
    exact h
  cases e1.symm.trans e2
  exact kk q H1 (zk_push hL hI (hnw q) hP1 hD1) hS1
/-- a cast to the object's own class -/
theorem zr_castC (C : zC p l m c cc nL s args Ts own D (zt cA) A g meth) {nm : String} {T : u_T} {N ci : Nat} (hcl : Cond.classLink own index nm ∈ Ts) (hc : vwCl[ci]? = some (nm, T, N)) (hH : zk_H D A w H) (k : zk_K) (hk : w.2.1 k) {fs : List Value} (he : w.2.2 k = .inr (ci, fs)) {a : Nat} (ha : w.1 k = a) (hdg : decode cc pc = .ok (.checkcast index, 3))
    (kk : W p l e R s m args below meth c H locs cells slots Q (F0 m (pc + 3) ls (.ref a :: rest))) : W p l e R s m args below meth c H locs cells slots Q (F0 m pc ls (.ref a :: rest)) := by
  obtain ⟨ws, hP, hD, hL, hI⟩ := hH
  obtain ⟨z, hz⟩ := hL k hk
  rw [he, ha] at hz
  exact va_castS C.1.1 C.1.2.1 C.1.2.2.2.1 (C.1.2.2.2.2 _ hcl) (C.2.1.1.1 ci _ hc).2 (va_recv C.2.1.1 hP hc hz) hdg kk
theorem zt_ob (C : zC p l m c cc nL s args Ts own D (zt cA) A g meth) : s.vm.findClass "[Ljava/lang/Object;" = some (cA 3) := by
  obtain ⟨kA, comp, -, -, -, h⟩ := (C.2.1.1.2 3 _ rfl).2
  exact h
theorem zr_castA (C : zC p l m c cc nL s args Ts own D (zt cA) A g meth) (hcl : Cond.classLink own index "[Ljava/lang/Object;" ∈ Ts) (hH : zk_H D A w H) (k : zk_K) (hk : w.2.1 k) {x : vp_A} (he : w.2.2 k = .inl (cA 3, x)) {a : Nat} (ha : w.1 k = a) (hdg : decode cc pc = .ok (.checkcast index, 3))
    (kk : W p l e R s m args below meth c H locs cells slots Q (F0 m (pc + 3) ls (.ref a :: rest))) : W p l e R s m args below meth c H locs cells slots Q (F0 m pc ls (.ref a :: rest)) := by
  obtain ⟨ws, hP, hD, hL, hI⟩ := hH
  obtain ⟨z, hz⟩ := hL k hk
  rw [he, ha] at hz
  exact va_castA C.1.1 C.1.2.1 C.1.2.2.2.1 (C.1.2.2.2.2 _ hcl) hP z hz (zt_ob C) hdg kk
/-- the class of a row of references is asked for -/
theorem zr_getC (C : zC p l m c cc nL s args Ts own D (zt cA) A g meth) (hl : lv_has ls nL lc) (hlink : Cond.methodLink own index ⟨"java/lang/Object", "getClass", "()Ljava/lang/Class;"⟩ ∈ Ts)
    (hsel : Cond.selects "[Ljava/lang/Object;" ⟨"java/lang/Object", "getClass", "()Ljava/lang/Class;"⟩ ⟨"java/lang/Object", "getClass", "()Ljava/lang/Class;"⟩ ∈ Ts) (hinst : Cond.instanceMethod ⟨"java/lang/Object", "getClass", "()Ljava/lang/Class;"⟩ ∈ Ts) (hnat : Cond.native ⟨"java/lang/Object", "getClass", "()Ljava/lang/Class;"⟩ ∈ Ts)
    (hH : zk_H D A w H) (k : zk_K) (hk : w.2.1 k) {x : vp_A} (he : w.2.2 k = .inl (cA 3, x)) {a : Nat} (ha : w.1 k = a) (hframes : 1 ≤ R.frames) (hlocals : (rest.map fun v => v.category).sum + 14 ≤ R.locals) (hdg : decode cc pc = .ok (.invokevirtual index, 3))
    (kk : W p l e R s m args below meth c H locs cells slots Q (F0 m (pc + 3) ls (.ref (g 1) :: rest))) : W p l e R s m args below meth c H locs cells slots Q (F0 m pc ls (.ref a :: rest)) := by
  have hH2 := hH
  obtain ⟨ws, hP, hD, hL, hI⟩ := hH
  obtain ⟨z, hz⟩ := hL k hk
  rw [he, ha] at hz
  have hG := C.2.1
  obtain ⟨-, -, -, -, hMi, hDc, -⟩ := hG
  have hdecl : (Cond.declares ⟨"java/lang/Object", "getClass", "()Ljava/lang/Class;"⟩).before args s = true := hDc
  refine va_getC C.1.1 C.1.2.1 (by rw [C.1.2.2.1]; exact hl.1.symm) C.1.2.2.2.1 (C.1.2.2.2.2 _ hlink) hdecl (C.1.2.2.2.2 _ hsel) (C.1.2.2.2.2 _ hinst) (C.1.2.2.2.2 _ hnat) hMi ⟨_, hP z _ hz, ?_, ?_⟩ hframes hlocals hdg kk
  · obtain ⟨n, f | f | f | f | f⟩ := x <;> rfl
  · rw [zt_ob C]
    obtain ⟨n, f | f | f | f | f⟩ := x <;> rfl
/-- a stretch of references is copied into another row -/
theorem zr_copy (C : zC p l m c cc nL s args Ts own D (zt cA) A g meth) (hl : lv_has ls nL lc) (hlink : Cond.methodLink own index arraycopyName ∈ Ts) (hnat : Cond.native arraycopyName ∈ Ts) (hstat : Cond.static arraycopyName ∈ Ts) (hini : Cond.initialized "java/lang/System" ∈ Ts)
    (hH : zk_H D A w H) (hS : va_S A H0 H locs) (k0 k1 : zk_K) (hk0 : w.2.1 k0) (hk1 : w.2.1 k1) {n0 n1 : Nat} {f g' : Nat → Option Nat} (he0 : w.2.2 k0 = .inl (cA 3, n0, .inr (.inr (.inr (.inr f))))) (he1 : w.2.2 k1 = .inl (cA 3, n1, .inr (.inr (.inr (.inr g')))))
    {sp dp n : Int32} {sN dN' nN : Nat} (h1 : sp = nI sN) (h2 : dp = nI dN') (h3 : n = nI nN) (hb : sN < 2 ^ 30 ∧ dN' < 2 ^ 30 ∧ nN < 2 ^ 30) (h4 : sN + nN ≤ n0) (h5 : dN' + nN ≤ n1) (hel : ∀ i : Nat, i < nN → ∀ y : Nat, f (sN + i) = some y → zEl w y)
    (hframes : 1 ≤ R.frames) (hlocals : (rest.map fun v => v.category).sum + (nativeFrameWords "java/lang/System" "arraycopy" 5 + 11) ≤ R.locals) (hdg : decode cc pc = .ok (.invokestatic index, 3))
    (w' : zk_W) (hu : zk_up w k1 (.inl (cA 3, n1, .inr (.inr (.inr (.inr (va_cpy f g' sN dN' nN)))))) w') {a0 a1 : Nat} (ha0 : w.1 k0 = a0) (ha1 : w.1 k1 = a1)
    (kk : ∀ (H1 : Heap) (locs1 : List Loc), zk_H D A w' H1 → va_S A H0 H1 locs1 → W p l e R s m args below meth c H1 locs1 cells slots Q (F0 m (pc + 3) ls rest)) : W p l e R s m args below meth c H locs cells slots Q (F0 m pc ls (.int n :: .int dp :: .ref a1 :: .int sp :: .ref a0 :: rest)) := by
  obtain ⟨ws, hP, hD, hL, hI⟩ := hH
  obtain ⟨z0, hz0⟩ := hL k0 hk0
  obtain ⟨z1, hz1⟩ := hL k1 hk1
  rw [he0] at hz0
  rw [he1] at hz1
  subst h1
  subst h2
  subst h3
  subst ha0
  subst ha1
  have e1 : (nI sN).toNatClampNeg = sN := nI_clamp (by omega)
  have e2 : (nI dN').toNatClampNeg = dN' := nI_clamp (by omega)
  have e3 : (nI nN).toNatClampNeg = nN := nI_clamp (by omega)
  refine va_copyM C.1.1 C.1.2.1 (by rw [C.1.2.2.1]; exact hl.1.symm) C.1.2.2.2.1 (C.1.2.2.2.2 _ hlink) (C.1.2.2.2.2 _ hnat) (C.1.2.2.2.2 _ hstat) (C.1.2.2.2.2 _ hini) C.2.1.1 hP hD hS z0 z1 3 3 hz0 hz1 rfl rfl (nI_pos (by omega)) (nI_pos (by omega)) (nI_pos (by omega)) (by rw [e1, e3]; exact h4) (by rw [e2, e3]; exact h5) (fun i hi y hy => ?_) hframes hlocals hdg (fun H1 locs1 hP1 hD1 hS1 => ?_)
  · rw [e3] at hi
    rw [e1] at hy
    obtain ⟨kv, ci, fs, hkv, rfl, hev, hO⟩ := hel i hi y hy
    obtain ⟨zv, hzv⟩ := hL kv hkv
    rw [hev] at hzv
    exact zk_any C.2.1 hP hzv hO
  · rw [e1, e2, e3] at hP1 hD1
    exact kk H1 locs1 (zk_set hL hI hk1 hz1 hu hP1 hD1) hS1
theorem zr_aastA (C : zC p l m c cc nL s args Ts own D (zt cA) A g meth) (hH : zk_H D A w H) (hS : va_S A H0 H locs) (k : zk_K) (hk : w.2.1 k) {n : Nat} {f : Nat → Option Nat} (he : w.2.2 k = .inl (cA 3, n, .inr (.inr (.inr (.inr f))))) {a : Nat} (ha : w.1 k = a) {v : Nat} (hv : zEl w v) {i : Int32} {j : Nat} (hi : i = nI j) (hj : j < n) (hn : n < 2 ^ 31) (hdg : decode cc pc = .ok (.aastore, 1))
    (w' : zk_W) (hu : zk_up w k (.inl (cA 3, n, .inr (.inr (.inr (.inr (va_up f j (some v))))))) w') (kk : ∀ (H1 : Heap) (locs1 : List Loc), zk_H D A w' H1 → va_S A H0 H1 locs1 → W p l e R s m args below meth c H1 locs1 cells slots Q (F0 m (pc + 1) ls rest)) : W p l e R s m args below meth c H locs cells slots Q (F0 m pc ls (.ref v :: .int i :: .ref a :: rest)) := by
  subst ha
  exact zr_aast C hH hS k hk he rfl hv hi hj hn hdg w' hu kk
theorem zr_alenA (C : zC p l m c cc nL s args Ts own D (zt cA) A g meth) (hH : zk_H D A w H) (k : zk_K) (hk : w.2.1 k) {n : Nat} {f : Nat → Option Nat} (he : w.2.2 k = .inl (cA 3, n, .inr (.inr (.inr (.inr f))))) {a : Nat} (ha : w.1 k = a) (hdg : decode cc pc = .ok (.arraylength, 1))
    (kk : W p l e R s m args below meth c H locs cells slots Q (F0 m (pc + 1) ls (.int (nI n) :: rest))) : W p l e R s m args below meth c H locs cells slots Q (F0 m pc ls (.ref a :: rest)) := by
  subst ha
  exact zr_alen C hH k hk he 3 rfl hdg kk
end ZQ
section ZA
variable {p : Program} {l : Launch} {e : Env} {R : Room} {s : State} {m : MethodId} {args : Array Value} {below : List Frame} {meth : Method} {c : Code} {H : Heap} {locs : List Loc} {cells slots : Nat} {Q : State → Prop}
variable {cc : ByteArray} {pc nL : Nat} {ls : Array Slot} {rest st0 : List Value} {D : va_G} {tys : List (ClassId × FieldType)} {A : Nat → Prop} {g : Nat → Nat} {Ts : List Cond} {own : String} {w w' : zk_W} {H0 : Heap}
variable {P : Option Value → zk_W → Prop} {PX : String → zk_W → Prop} {mc ms : Nat} {lc : List (Nat × Value)} {index : Nat}
theorem zr_getA (C : zC p l m c cc nL s args Ts own D tys A g meth) {ref Cn : String} {T : u_T} {N ci : Nat} (hin : ∀ w ∈ u_ws Cn T N, w ∈ Ts) (hc : vwCl[ci]? = some (Cn, T, N)) (hH : zk_H D A w H) (k : zk_K) (hk : w.2.1 k) {fs : List Value} (he : w.2.2 k = .inr (ci, fs)) (j : Nat) (hj : j < N)
    (hlink : Cond.fieldLink own index ref (T j).2.1 (T j).2.2.1 ∈ Ts) (hsame : ∀ x, s.fieldFound? (T j).1 (T j).2.1 (T j).2.2.1 = some x → s.fieldFound? ref (T j).2.1 (T j).2.2.1 = some x) {v : Value} (hv : fs[j]? = some v) (hdg : decode cc pc = .ok (.getfield index, 3))
    (kk : W p l e R s m args below meth c H locs cells slots Q (F0 m (pc + 3) ls (v :: rest))) {a : Nat} (ha : w.1 k = a) : W p l e R s m args below meth c H locs cells slots Q (F0 m pc ls (.ref a :: rest)) := by
  subst ha
  exact zr_get C hin hc hH k hk he j hj hlink hsame hv hdg kk
theorem zr_putA (C : zC p l m c cc nL s args Ts own D tys A g meth) {ref Cn : String} {T : u_T} {N ci : Nat} (hin : ∀ w ∈ u_ws Cn T N, w ∈ Ts) (hc : vwCl[ci]? = some (Cn, T, N)) (ty0 : Nat → FieldType) (hty : ∀ k, k < N → parseFieldDescriptor (T k).2.2.1 = some (ty0 k)) (hnm : ∀ a, a < N → ∀ b, b < N → a ≠ b → (T a).2.1 ≠ (T b).2.1) (hH : zk_H D A w H) (hS : va_S A H0 H locs) (k : zk_K) (hk : w.2.1 k) {fs : List Value} (he : w.2.2 k = .inr (ci, fs)) (j : Nat) (hj : j < N)
    (hlink : Cond.fieldLink own index ref (T j).2.1 (T j).2.2.1 ∈ Ts) (hsame : ∀ x, s.fieldFound? (T j).1 (T j).2.1 (T j).2.2.1 = some x → s.fieldFound? ref (T j).2.1 (T j).2.2.1 = some x) (hfin : (T j).2.2.2 = false) {v : Value} (hn : narrow (ty0 j) v = v) (hfit : fits (ty0 j) v = true) (hl : j < fs.length) (hdg : decode cc pc = .ok (.putfield index, 3))
    (w' : zk_W) (hu : zk_up w k (.inr (ci, fs.set j v)) w') (kk : ∀ (H1 : Heap) (locs1 : List Loc), zk_H D A w' H1 → va_S A H0 H1 locs1 → W p l e R s m args below meth c H1 locs1 cells slots Q (F0 m (pc + 3) ls rest)) {a : Nat} (ha : w.1 k = a) : W p l e R s m args below meth c H locs cells slots Q (F0 m pc ls (v :: .ref a :: rest)) := by
  subst ha
  exact zr_put C hin hc ty0 hty hnm hH hS k hk he j hj hlink hsame hfin hn hfit hl hdg w' hu kk
theorem zr_putFA (C : zC p l m c cc nL s args Ts own D tys A g meth) {ref Cn : String} {T : u_T} {N ci : Nat} (hin : ∀ w ∈ u_ws Cn T N, w ∈ Ts) (hc : vwCl[ci]? = some (Cn, T, N)) (ty0 : Nat → FieldType) (hty : ∀ k, k < N → parseFieldDescriptor (T k).2.2.1 = some (ty0 k)) (hnm : ∀ a, a < N → ∀ b, b < N → a ≠ b → (T a).2.1 ≠ (T b).2.1) (hH : zk_H D A w H) (hS : va_S A H0 H locs) (k : zk_K) (hk : w.2.1 k) {fs : List Value} (he : w.2.2 k = .inr (ci, fs)) (j : Nat) (hj : j < N)
    (hlink : Cond.fieldLink own index ref (T j).2.1 (T j).2.2.1 ∈ Ts) (hsame : ∀ x, s.fieldFound? (T j).1 (T j).2.1 (T j).2.2.1 = some x → s.fieldFound? ref (T j).2.1 (T j).2.2.1 = some x) (hfin : (T j).2.2.2 = true) (hin2 : meth.name = "<init>") (hdecl : (T j).1 = own) {v : Value} (hn : narrow (ty0 j) v = v) (hfit : fits (ty0 j) v = true) (hl : j < fs.length) (hdg : decode cc pc = .ok (.putfield index, 3))
    (w' : zk_W) (hu : zk_up w k (.inr (ci, fs.set j v)) w') (kk : ∀ (H1 : Heap) (locs1 : List Loc), zk_H D A w' H1 → va_S A H0 H1 locs1 → W p l e R s m args below meth c H1 locs1 cells slots Q (F0 m (pc + 3) ls rest)) {a : Nat} (ha : w.1 k = a) : W p l e R s m args below meth c H locs cells slots Q (F0 m pc ls (v :: .ref a :: rest)) := by
  subst ha
  exact zr_putF C hin hc ty0 hty hnm hH hS k hk he j hj hlink hsame hfin hin2 hdecl hn hfit hl hdg w' hu kk
end ZA
