/-! ===== two worlds side by side: what a method does in one it does beside the other ===== -/
def zk_sum (n : Nat) (w1 w2 : zk_W) : zk_W := (fun k => if k.1 < n then w1.1 k else w2.1 (k.1 - n, k.2), fun k => if k.1 < n then w1.2.1 k else w2.2.1 (k.1 - n, k.2), fun k => if k.1 < n then w1.2.2 k else w2.2.2 (k.1 - n, k.2))
theorem va_D_cons {A : Nat → Prop} {x : Nat × va_E} {ws : va_W} : va_D A (x :: ws) ↔ A x.1 ∧ (∀ q ∈ ws, q.1 ≠ x.1) ∧ va_D A ws := by
  constructor
  · rintro ⟨h1, h2⟩
    refine ⟨h2 0 x rfl, fun q hq e => ?_, fun i j p q hp hq e => ?_, fun k q hk => h2 (k + 1) q hk⟩
    · obtain ⟨i, hi⟩ := List.getElem?_of_mem hq
      have := h1 (i + 1) 0 q x hi rfl e
      omega
    · have := h1 (i + 1) (j + 1) p q hp hq e
      omega
  · rintro ⟨h1, h2, h3, h4⟩
    refine ⟨fun i j p q hp hq e => ?_, fun k q hk => ?_⟩
    · match i, j, hp, hq with
      | 0, 0, _, _ => rfl
      | 0, j + 1, hp, hq =>
        cases (show some x = some p from hp)
        exact absurd e.symm (h2 q (List.mem_of_getElem? (show ws[j]? = some q from hq)))
      | i + 1, 0, hp, hq =>
        cases (show some x = some q from hq)
        exact absurd e (h2 p (List.mem_of_getElem? (show ws[i]? = some p from hp)))
      | i + 1, j + 1, hp, hq => exact congrArg Nat.succ (h3 i j p q hp hq e)
    · match k, hk with
      | 0, hk =>
        cases (show some x = some q from hk)
        exact h1
      | k + 1, hk => exact h4 k q hk
theorem va_D_nil {A : Nat → Prop} : va_D A [] := ⟨fun i j p q hp => (by cases hp), fun k q hk => (by cases hk)⟩
theorem va_D_filter {A B : Nat → Prop} {f : Nat × va_E → Bool} (hB : ∀ q, f q = true → B q.1) : ∀ ws : va_W, va_D A ws → va_D (fun q => A q ∧ B q) (ws.filter f)
  | [], _ => va_D_nil
  | x :: ws, h => by
    obtain ⟨h1, h2, h3⟩ := va_D_cons.mp h
    have ih := va_D_filter hB ws h3
    by_cases hf : f x = true
    · rw [List.filter_cons_of_pos hf]
      exact va_D_cons.mpr ⟨⟨h1, hB x hf⟩, fun q hq => h2 q (List.mem_filter.mp hq).1, ih⟩
    · rw [List.filter_cons_of_neg hf]
      exact ih
theorem va_D_app {A : Nat → Prop} {w2 : va_W} (h2 : va_D A w2) : ∀ w1 : va_W, va_D A w1 → (∀ p ∈ w1, ∀ q ∈ w2, p.1 ≠ q.1) → va_D A (w1 ++ w2)
  | [], _, _ => h2
  | x :: w1, h1, hd => by
    obtain ⟨a, b, c⟩ := va_D_cons.mp h1
    refine va_D_cons.mpr ⟨a, fun q hq e => ?_, va_D_app h2 w1 c (fun p hp q hq => hd p (List.mem_cons_of_mem _ hp) q hq)⟩
    rcases List.mem_append.mp hq with hq | hq
    · exact b q hq e
    · exact hd x List.mem_cons_self q hq e.symm
theorem va_D_mono {A B : Nat → Prop} {ws : va_W} (h : va_D A ws) (hAB : ∀ q, A q → B q) : va_D B ws := ⟨h.1, fun k q hk => hAB _ (h.2 k q hk)⟩
/-- the part of a world that lies in B -/
theorem zk_cut {D : va_G} {A : Nat → Prop} {w : zk_W} {H : Heap} (h : zk_H D A w H) (B : Nat → Prop) : ∃ ws : va_W, va_P D vwCl ws H ∧ va_D (fun q => A q ∧ B q) ws ∧ ∀ k, w.2.1 k → B (w.1 k) → ∃ i : Nat, ws[i]? = some (w.1 k, w.2.2 k) := by
  obtain ⟨ws, hP, hD, hL, -⟩ := h
  obtain ⟨f, hf⟩ : ∃ f : Nat × va_E → Bool, ∀ q, f q = true ↔ B q.1 := ⟨fun q => @decide (B q.1) (Classical.propDecidable _), fun q => ⟨fun z => @of_decide_eq_true _ (Classical.propDecidable _) z, fun z => @decide_eq_true _ (Classical.propDecidable _) z⟩⟩
  refine ⟨ws.filter f, fun k q hk => ?_, va_D_filter (fun q hq => (hf q).mp hq) ws hD, fun k hk hB => ?_⟩
  · obtain ⟨i, hi⟩ := List.getElem?_of_mem (List.mem_filter.mp (List.mem_of_getElem? hk)).1
    exact hP i q hi
  · obtain ⟨i, hi⟩ := hL k hk
    exact List.getElem?_of_mem (List.mem_filter.mpr ⟨List.mem_of_getElem? hi, (hf _).mpr hB⟩)
theorem zG.narrow {D : va_G} {tys : List (ClassId × FieldType)} {A B : Nat → Prop} {g : Nat → Nat} {U : State} (h : zG D tys A g U) (hAB : ∀ q, B q → A q) (hB : ∀ q, U.heap.size ≤ q → B q) : zG D tys B g U := by
  obtain ⟨h1, h2, h3, h4, h5, h6, h7, h8, h9⟩ := h
  exact ⟨h1, hB, h3.narrow hAB, h4.narrow hAB, h5, h6, h7.narrow hAB, h8.narrow hAB, h9⟩
/-- a world beside another: its own cells, and what comes back beside the other -/
theorem zk_side {D : va_G} {A : Nat → Prop} {n : Nat} {w1 w2 : zk_W} {H : Heap} (h : zk_H D A (zk_sum n w1 w2) H) (hn : ∀ k, w1.2.1 k → k.1 < n) :
    ∃ A1 A2 : Nat → Prop, zk_H D A1 w1 H ∧ zk_H D A2 w2 H ∧ (∀ q, A1 q ∨ A2 q → A q ∧ q < H.size) ∧ ∀ q, ¬ (A1 q ∧ A2 q) := by
  obtain ⟨B, hB⟩ : ∃ B : Nat → Prop, B = fun q => ∃ k, w1.2.1 k ∧ w1.1 k = q := ⟨_, rfl⟩
  have hI := fun k k' => h.inj (k := k) (k' := k')
  have s1 : ∀ k, w1.2.1 k → (zk_sum n w1 w2).2.1 k ∧ (zk_sum n w1 w2).1 k = w1.1 k ∧ (zk_sum n w1 w2).2.2 k = w1.2.2 k := fun k hk => by
    have z := hn k hk
    refine ⟨?_, if_pos z, if_pos z⟩
    show if k.1 < n then w1.2.1 k else _
    rw [if_pos z]
    exact hk
  have s2 : ∀ k : zk_K, w2.2.1 k → (zk_sum n w1 w2).2.1 (k.1 + n, k.2) ∧ (zk_sum n w1 w2).1 (k.1 + n, k.2) = w2.1 k ∧ (zk_sum n w1 w2).2.2 (k.1 + n, k.2) = w2.2.2 k := fun k hk => by
    have z : ¬ k.1 + n < n := by omega
    have e : ((k.1 + n - n, k.2) : zk_K) = k := by rw [Nat.add_sub_cancel]
    refine ⟨?_, ?_, ?_⟩
    · show if k.1 + n < n then _ else w2.2.1 (k.1 + n - n, k.2)
      rw [if_neg z, e]
      exact hk
    · show (if k.1 + n < n then _ else w2.1 (k.1 + n - n, k.2)) = _
      rw [if_neg z, e]
    · show (if k.1 + n < n then _ else w2.2.2 (k.1 + n - n, k.2)) = _
      rw [if_neg z, e]
  obtain ⟨ws1, hP1, hD1, hL1⟩ := zk_cut h B
  obtain ⟨ws2, hP2, hD2, hL2⟩ := zk_cut h (fun q => ¬ B q)
  refine ⟨fun q => (A q ∧ B q) ∧ q < H.size, fun q => (A q ∧ ¬ B q) ∧ q < H.size, ⟨ws1, hP1, ⟨hD1.1, fun k q hk => ⟨hD1.2 k q hk, (hP1 k q hk).lt⟩⟩, fun k hk => ?_, fun k k' hk hk' e => ?_⟩, ⟨ws2, hP2, ⟨hD2.1, fun k q hk => ⟨hD2.2 k q hk, (hP2 k q hk).lt⟩⟩, fun k hk => ?_, fun k k' hk hk' e => ?_⟩, ?_, ?_⟩
  · obtain ⟨a, b, c⟩ := s1 k hk
    obtain ⟨i, hi⟩ := hL1 k a (by rw [b, hB]; exact ⟨k, hk, rfl⟩)
    exact ⟨i, by rw [hi, b, c]⟩
  · obtain ⟨a, b, c⟩ := s1 k hk
    obtain ⟨a', b', c'⟩ := s1 k' hk'
    exact hI k k' a a' (by rw [b, b', e])
  · obtain ⟨a, b, c⟩ := s2 k hk
    obtain ⟨i, hi⟩ := hL2 _ a (by
      rw [b, hB]
      rintro ⟨k1, h1, h2⟩
      obtain ⟨a1, b1, c1⟩ := s1 k1 h1
      have := hI k1 (k.1 + n, k.2) a1 a (by rw [b1, b, h2])
      have z := hn k1 h1
      rw [this] at z
      exact absurd (show k.1 + n < n from z) (by omega))
    exact ⟨i, by rw [hi, b, c]⟩
  · obtain ⟨a, b, c⟩ := s2 k hk
    obtain ⟨a', b', c'⟩ := s2 k' hk'
    have := hI _ _ a a' (by rw [b, b', e])
    have e1 : k.1 + n = k'.1 + n := (Prod.mk.inj this).1
    have e2 : k.2 = k'.2 := (Prod.mk.inj this).2
    exact Prod.ext (by omega) e2
  · rintro q (⟨⟨z1, -⟩, z2⟩ | ⟨⟨z1, -⟩, z2⟩) <;> exact ⟨z1, z2⟩
  · rintro q ⟨⟨⟨-, z1⟩, -⟩, ⟨-, z2⟩, -⟩
    exact z2 z1
theorem zk_join {D : va_G} {A A1 A2 : Nat → Prop} {n : Nat} {w1 w2 : zk_W} {H : Heap} (h1 : zk_H D A1 w1 H) (h2 : zk_H D A2 w2 H) (hA : ∀ q, A1 q ∨ A2 q → A q) (hd : ∀ q, ¬ (A1 q ∧ A2 q)) : zk_H D A (zk_sum n w1 w2) H := by
  obtain ⟨ws1, hP1, hD1, hL1, hI1⟩ := h1
  obtain ⟨ws2, hP2, hD2, hL2, hI2⟩ := h2
  have cell1 : ∀ k, w1.2.1 k → A1 (w1.1 k) := fun k hk => by
    obtain ⟨i, hi⟩ := hL1 k hk
    exact hD1.2 i _ hi
  have cell2 : ∀ k, w2.2.1 k → A2 (w2.1 k) := fun k hk => by
    obtain ⟨i, hi⟩ := hL2 k hk
    exact hD2.2 i _ hi
  refine ⟨ws1 ++ ws2, hP1.app hP2, va_D_app (va_D_mono hD2 (fun q h => hA q (Or.inr h))) ws1 (va_D_mono hD1 (fun q h => hA q (Or.inl h))) (fun p hp q hq e => ?_), fun k hk => ?_, fun k k' hk hk' e => ?_⟩
  · obtain ⟨i, hi⟩ := List.getElem?_of_mem hp
    obtain ⟨j, hj⟩ := List.getElem?_of_mem hq
    exact hd p.1 ⟨hD1.2 i p hi, by rw [e]; exact hD2.2 j q hj⟩
  · have hk2 : if k.1 < n then w1.2.1 k else w2.2.1 (k.1 - n, k.2) := hk
    show ∃ i, (ws1 ++ ws2)[i]? = some ((if k.1 < n then w1.1 k else w2.1 (k.1 - n, k.2)), (if k.1 < n then w1.2.2 k else w2.2.2 (k.1 - n, k.2)))
    by_cases z : k.1 < n
    · rw [if_pos z] at hk2
      rw [if_pos z, if_pos z]
      obtain ⟨i, hi⟩ := hL1 k hk2
      exact List.getElem?_of_mem (List.mem_append_left _ (List.mem_of_getElem? hi))
    · rw [if_neg z] at hk2
      rw [if_neg z, if_neg z]
      obtain ⟨i, hi⟩ := hL2 _ hk2
      exact List.getElem?_of_mem (List.mem_append_right _ (List.mem_of_getElem? hi))
  · have hk2 : if k.1 < n then w1.2.1 k else w2.2.1 (k.1 - n, k.2) := hk
    have hk2' : if k'.1 < n then w1.2.1 k' else w2.2.1 (k'.1 - n, k'.2) := hk'
    have e2 : (if k.1 < n then w1.1 k else w2.1 (k.1 - n, k.2)) = (if k'.1 < n then w1.1 k' else w2.1 (k'.1 - n, k'.2)) := e
    by_cases z : k.1 < n <;> by_cases z' : k'.1 < n
    · rw [if_pos z] at hk2 e2
      rw [if_pos z'] at hk2' e2
      exact hI1 k k' hk2 hk2' e2
    · rw [if_pos z] at hk2 e2
      rw [if_neg z'] at hk2' e2
      exact absurd ⟨cell1 k hk2, by rw [e2]; exact cell2 _ hk2'⟩ (hd (w1.1 k))
    · rw [if_neg z] at hk2 e2
      rw [if_pos z'] at hk2' e2
      exact absurd ⟨by rw [e2]; exact cell1 k' hk2', cell2 _ hk2⟩ (hd (w2.1 (k.1 - n, k.2)))
    · rw [if_neg z] at hk2 e2
      rw [if_neg z'] at hk2' e2
      have := hI2 _ _ hk2 hk2' e2
      have e3 : k.1 - n = k'.1 - n := (Prod.mk.inj this).1
      have e4 : k.2 = k'.2 := (Prod.mk.inj this).2
      exact Prod.ext (by omega) e4
theorem zk_H.keptF {D : va_G} {A : Nat → Prop} {w : zk_W} {H H1 : Heap} (h : zk_H D A w H) (hk : ∀ q, A q → q < H.size → H1[q]? = H[q]?) : zk_H D A w H1 := by
  obtain ⟨ws, hP, hD, hL, hI⟩ := h
  exact ⟨ws, hP.kept (fun k q hq => hk _ (hD.2 k q hq) (hP k q hq).lt), hD, hL, hI⟩
section SUM
variable {l : Launch} {y : MethodName} {ws : List Cond} {rm : Room} {D : va_G} {tys : List (ClassId × FieldType)} {g : Nat → Nat} {av : List Value} {w1 w2 : zk_W} {P : Option Value → zk_W → Prop} {PX : String → zk_W → Prop} {n : Nat}
/-- what comes back: the first beside the second -/
theorem zk_backL {A A1 A2 : Nat → Prop} {s t : State} {w1' : zk_W} (h2 : zk_H D A2 w2 s.heap) (hA : ∀ q, A1 q ∨ A2 q → A q ∧ q < s.heap.size) (hd : ∀ q, ¬ (A1 q ∧ A2 q)) (hsz : ∀ q, s.heap.size ≤ q → A q)
    (hF : va_F (fun q => A1 q ∨ s.heap.size ≤ q) s t) (h1 : zk_H D (fun q => A1 q ∨ s.heap.size ≤ q) w1' t.heap) : zk_H D A (zk_sum n w1' w2) t.heap ∧ va_F A s t := by
  refine ⟨zk_join h1 (h2.keptF (fun q hq hl => hF.2 q hl (fun z => ?_))) (fun q hq => ?_) (fun q hq => ?_), hF.1, fun q hl hn => hF.2 q hl (fun z => ?_)⟩
  · rcases z with z | z
    · exact hd q ⟨z, hq⟩
    · omega
  · rcases hq with (hq | hq) | hq
    · exact (hA q (Or.inl hq)).1
    · exact hsz q hq
    · exact (hA q (Or.inr hq)).1
  · obtain ⟨hq | hq, h⟩ := hq
    · exact hd q ⟨hq, h⟩
    · have := (hA q (Or.inr h)).2
      omega
  · rcases z with z | z
    · exact hn (hA q (Or.inl z)).1
    · exact hn (hsz q z)
theorem zk_backR {A A1 A2 : Nat → Prop} {s t : State} {w2' : zk_W} (h1 : zk_H D A1 w1 s.heap) (hA : ∀ q, A1 q ∨ A2 q → A q ∧ q < s.heap.size) (hd : ∀ q, ¬ (A1 q ∧ A2 q)) (hsz : ∀ q, s.heap.size ≤ q → A q)
    (hF : va_F (fun q => A2 q ∨ s.heap.size ≤ q) s t) (h2 : zk_H D (fun q => A2 q ∨ s.heap.size ≤ q) w2' t.heap) : zk_H D A (zk_sum n w1 w2') t.heap ∧ va_F A s t := by
  refine ⟨zk_join (h1.keptF (fun q hq hl => hF.2 q hl (fun z => ?_))) h2 (fun q hq => ?_) (fun q hq => ?_), hF.1, fun q hl hn => hF.2 q hl (fun z => ?_)⟩
  · rcases z with z | z
    · exact hd q ⟨hq, z⟩
    · omega
  · rcases hq with hq | hq | hq
    · exact (hA q (Or.inl hq)).1
    · exact (hA q (Or.inr hq)).1
    · exact hsz q hq
  · obtain ⟨h, hq | hq⟩ := hq
    · exact hd q ⟨h, hq⟩
    · have := (hA q (Or.inl h)).2
      omega
  · rcases z with z | z
    · exact hn (hA q (Or.inr z)).1
    · exact hn (hsz q z)
end SUM
