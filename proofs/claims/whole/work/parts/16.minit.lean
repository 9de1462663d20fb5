/-! ===== the reference's constructor ===== -/
def zk_ad (ad : zk_K → Nat) (k : zk_K) (q : Nat) : zk_K → Nat := fun k' => if k' = k then q else ad k'
theorem zk_ad_s (ad : zk_K → Nat) (k : zk_K) (q : Nat) : zk_ad ad k q k = q := if_pos rfl
theorem zk_ad_n {ad : zk_K → Nat} {k : zk_K} {q : Nat} {k' : zk_K} (h : k' ≠ k) : zk_ad ad k q k' = ad k' := if_neg h
/-- while it is made: the fields below q have their arrays -/
def mpF (ad : zk_K → Nat) (q j : Nat) : Value := if mK j = 9 then (if j = 4 then .long 0 else .int 0) else if j < q then .ref (ad (j, 0, 0)) else .null
def mpRow (ad : zk_K → Nat) (q : Nat) : List Value := (List.range 25).map (mpF ad q)
def mpLive (q : Nat) : zk_K → Prop := fun k => k.2 = (0, 0) ∧ (k.1 = 0 ∨ (mK k.1 ≠ 9 ∧ k.1 < q))
def mpI : zIA := fun _ _ => 0
def mpL : zLA := fun _ _ => 0
def mp (cA : Nat → ClassId) (ad : zk_K → Nat) (q : Nat) : zk_W := (ad, mpLive q, mEnt cA (mpRow ad q) mpI mpL)
theorem mpRow_set {ad : zk_K → Nat} {q j a : Nat} (hq : q ≤ j) (hskip : ∀ i, i < j → q ≤ i → mK i = 9) (hK : mK j ≠ 9) : (mpRow ad q).set j (.ref a) = mpRow (zk_ad ad (j, 0, 0) a) (j + 1) := by
  apply List.ext_getElem
  · simp [mpRow]
  · intro i h1 h2
    rw [List.getElem_set]
    simp only [mpRow, List.getElem_map, List.getElem_range]
    by_cases hi : j = i
    · subst hi
      rw [if_pos rfl]
      unfold mpF
      rw [if_neg hK, if_pos (Nat.lt_succ_self j), zk_ad_s]
    · rw [if_neg hi]
      unfold mpF
      by_cases h9 : mK i = 9
      · rw [if_pos h9, if_pos h9]
      · rw [if_neg h9, if_neg h9]
        by_cases hl : i < q
        · rw [if_pos hl, if_pos (by omega), zk_ad_n (fun z => hi (congrArg Prod.fst z).symm)]
        · rw [if_neg hl, if_neg]
          intro hl2
          exact h9 (hskip i (by omega) (by omega))
theorem mp_mw (cA : Nat → ClassId) (ad : zk_K → Nat) : zk_sb (mp cA ad 24) (mw cA ad 0 0 0 0 0 0 mpI mpL) := by
  intro k hk
  refine ⟨⟨hk.1, hk.2.imp id (fun h => ⟨h, ?_⟩)⟩, rfl, ?_⟩
  · have : ∀ i, 24 ≤ i → mK i = 9 := by
      intro i hi
      unfold mK
      split <;> first | omega | rfl
    exact Nat.lt_of_not_le (fun z => h (this _ z))
  · show mEnt _ _ _ _ k = mEnt _ _ _ _ k
    rfl
section MI
variable {p : Program} {l : Launch} {e : Env} {R : Room} {s : State} {m : MethodId} {args : Array Value} {below : List Frame} {meth : Method} {c : Code} {H : Heap} {locs : List Loc} {cells slots : Nat} {Q : State → Prop}
variable {cc : ByteArray} {pc nL index : Nat} {ls : Array Slot} {rest st0 : List Value} {D : va_G} {cA : Nat → ClassId} {A : Nat → Prop} {g : Nat → Nat} {Ts : List Cond} {own : String}
variable {ad : zk_K → Nat} {q : Nat}
theorem zm_na (C : zC p l m c cc nL s args Ts own D (zt cA) A g meth) (hin : ∀ w ∈ wsX50, w ∈ Ts) (hnm : meth.name = "<init>") {o : Nat} (h0 : ad (0, 0, 0) = o) (hH : zk_H D A (mp cA ad q) H) (hS : va_S A s.heap H locs) (j : Nat) (hj : j < 25) (hq : q ≤ j) (h0j : j ≠ 0) (hskip : ∀ i, i < j → q ≤ i → mK i = 9) (hK : mK j ≠ 9)
    (atype : ArrayType) {ty : FieldType} (hty : newarray.typeOf atype = ty) (hprim : ∀ C, ty ≠ .object C) (harr : Cond.arrayClass ty ∈ Ts) (t0 : Nat) (ht : (zt cA)[t0]? = some (cA t0, ty)) (a : (Nat → Int32) ⊕ (Nat → Int64) ⊕ (Nat → UInt32) ⊕ (Nat → UInt64) ⊕ (Nat → Option Nat)) (ha : ∀ cB : ClassId, vp_cell cB (mN j, a) = arrV cB (mN j) (fun _ => defaultValue ty))
    (he : (if mK j = 1 then Sum.inl (cA 1, mN j, Sum.inr (Sum.inl (mpL j))) else Sum.inl (cA (mK j), mN j, Sum.inl (mpI j)) : va_E) = .inl (cA t0, mN j, a)) {n : Int32} (hn : ¬ n < 0) (hN : n.toNatClampNeg = mN j) (hbytes : mN j * componentBytes ty ≤ 536870912) (hcells : cells + 1 ≤ R.cells) (hslots : slots + mN j ≤ R.slots) (hdg : decode cc pc = .ok (.newarray atype, 2))
    (hlink : Cond.fieldLink own index (TX5 j).1 (TX5 j).2.1 (TX5 j).2.2.1 ∈ Ts) (hfin : (TX5 j).2.2.2 = true) (hdecl : (TX5 j).1 = own) (hn2 : ∀ x, narrow (tyX5 j) (.ref x) = .ref x) (hfit : ∀ x, fits (tyX5 j) (.ref x) = true) (hdg2 : decode cc (pc + 2) = .ok (.putfield index, 3))
    (kk : ∀ (ad' : zk_K → Nat) (H1 : Heap) (locs1 : List Loc), ad' (0, 0, 0) = o → zk_H D A (mp cA ad' (j + 1)) H1 → va_S A s.heap H1 locs1 → W p l e R s m args below meth c H1 locs1 (cells + 1) (slots + mN j) Q (F0 m (pc + 2 + 3) ls rest)) : W p l e R s m args below meth c H locs cells slots Q (F0 m pc ls (.int n :: .ref o :: rest)) := by
  refine zr_newa C atype hty hprim harr t0 ht hH hS ha hn hN hbytes hcells hslots hdg (j, 0, 0) (fun q1 => (zk_ad ad (j, 0, 0) q1, mpLive (j + 1), mEnt cA (mpRow ad q) mpI mpL)) (fun q1 => ⟨zk_ad_s _ _ _, ?_, ?_⟩) (fun q1 H1 hH1 hS1 => ?_)
  · show mEnt cA (mpRow ad q) mpI mpL (j, 0, 0) = _
    unfold mEnt
    rw [if_neg h0j]
    exact he
  · intro k' hne hk'
    have hkj : k'.1 ≠ j := fun z => hne (Prod.ext z hk'.1)
    refine ⟨⟨hk'.1, hk'.2.imp id (fun h => ⟨h.1, Nat.lt_of_not_le (fun z => ?_)⟩)⟩, zk_ad_n hne, rfl⟩
    exact h.1 (hskip _ (by have := h.2; omega) z)
  · have e0 : zk_ad ad (j, 0, 0) q1 (0, 0, 0) = o := (zk_ad_n (fun z => h0j (congrArg Prod.fst z).symm)).trans h0
    rw [← e0]
    refine zr_putF C hin (ci := 6) rfl tyX5 tyX5_ok nmX5 hH1 hS1 (0, 0, 0) ⟨rfl, Or.inl rfl⟩ rfl j hj hlink (fun _ h => h) hfin hnm hdecl (hn2 q1) (hfit q1) (by rw [mpRow, List.length_map, List.length_range]; exact hj) hdg2 (mp cA (zk_ad ad (j, 0, 0) q1) (j + 1)) ⟨rfl, rfl, ?_, ?_⟩ (fun H2 locs2 hH2 hS2 => kk _ _ _ e0 hH2 hS2)
    · show mEnt cA (mpRow (zk_ad ad (j, 0, 0) q1) (j + 1)) mpI mpL (0, 0, 0) = _
      unfold mEnt
      rw [if_pos rfl, mpRow_set hq hskip hK]
    · intro k' hne hk'
      have hk0 : k'.1 ≠ 0 := fun z => hne (Prod.ext z hk'.1)
      show mEnt cA (mpRow (zk_ad ad (j, 0, 0) q1) (j + 1)) mpI mpL k' = mEnt cA (mpRow ad q) mpI mpL k'
      unfold mEnt
      rw [if_neg hk0, if_neg hk0]
end MI
/-- the prices, while they are set -/
def prI : Nat → zIA
  | 0 => mpI
  | i + 1 => up2 (prI i) 1 i 10000
