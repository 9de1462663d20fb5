/-! ===== a complaint; a lot that is asked for ===== -/
noncomputable def cmL (I : zIA) (L : zLA) (nt t : Nat) : zLA := flS (up2 I 17 t 0) (exL L (dN (I 11 t)) (dN (I 12 t)) (-(L 13 t)) (-(payT L t))) (dN (I 11 t)) nt
def isL (I : zIA) (L : zLA) (c f t : Nat) : Prop := isH I c f t ∧ 0 < L 31 t
noncomputable def lcN (I : zIA) (L : zLA) (c f : Nat) : Nat → Nat
  | 0 => 0
  | i + 1 => @ite _ (isL I L c f i) (Classical.propDecidable _) (lcN I L c f i + 1) (lcN I L c f i)
theorem lcN_p {I : zIA} {L : zLA} {c f i : Nat} (h : isL I L c f i) : lcN I L c f (i + 1) = lcN I L c f i + 1 := if_pos h
theorem lcN_n {I : zIA} {L : zLA} {c f i : Nat} (h : ¬ isL I L c f i) : lcN I L c f (i + 1) = lcN I L c f i := if_neg h
theorem lcN_le {I : zIA} {L : zLA} {c f : Nat} : ∀ i, lcN I L c f i ≤ i
  | 0 => Nat.le_refl _
  | i + 1 => by
    have ih := lcN_le (I := I) (L := L) (c := c) (f := f) i
    by_cases h : isL I L c f i
    · rw [lcN_p h]; omega
    · rw [lcN_n h]; omega
def lvC (L : zLA) (what : Int32) (t : Nat) : Int64 := if what = 0 then Int32.toInt64 (nI t) else if what = 1 then L 31 t else L 32 t
noncomputable def lfS (I : zIA) (L : zLA) (c f : Nat) (rank what : Int32) : Nat → Option Int64
  | 0 => none
  | i + 1 => (lfS I L c f rank what i).elim (@ite _ (isL I L c f i ∧ nI (lcN I L c f i) = rank) (Classical.propDecidable _) (some (lvC L what i)) none) some
theorem lfS_s {I : zIA} {L : zLA} {c f i : Nat} {rank what : Int32} (h : lfS I L c f rank what i = none) (hl : isL I L c f i) (hr : nI (lcN I L c f i) = rank) : lfS I L c f rank what (i + 1) = some (lvC L what i) := by
  show (lfS I L c f rank what i).elim _ some = _
  rw [h]
  exact if_pos ⟨hl, hr⟩
theorem lfS_n {I : zIA} {L : zLA} {c f i : Nat} {rank what : Int32} (h : lfS I L c f rank what i = none) (hl : ¬ (isL I L c f i ∧ nI (lcN I L c f i) = rank)) : lfS I L c f rank what (i + 1) = none := by
  show (lfS I L c f rank what i).elim _ some = _
  rw [h]
  exact if_neg hl
theorem lfS_stay {I : zIA} {L : zLA} {c f i : Nat} {rank what : Int32} {v : Int64} (h : lfS I L c f rank what i = some v) : ∀ n, lfS I L c f rank what (i + n) = some v
  | 0 => h
  | n + 1 => by
    show (lfS I L c f rank what (i + n)).elim _ some = _
    rw [lfS_stay h n]
    rfl
theorem lfS_mono {I : zIA} {L : zLA} {c f i n : Nat} {rank what : Int32} {v : Int64} (h : lfS I L c f rank what i = some v) (hi : i ≤ n) : lfS I L c f rank what n = some v := by
  rw [show n = i + (n - i) by omega]
  exact lfS_stay h _
