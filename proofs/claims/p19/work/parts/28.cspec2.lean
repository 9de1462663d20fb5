/-! ===== lots, as functions ===== -/
theorem key13 {a b c d : Nat} (h : ((13, a, b) : zk_K) = (13, c, d)) : a = c ∧ b = d := ⟨congrArg (fun k => k.2.1) h, congrArg (fun k => k.2.2) h⟩
theorem key14 {a c : Nat} (h : ((14, a, 0) : zk_K) = (14, c, 0)) : a = c := congrArg (fun k => k.2.1) h
theorem key8 {a c : Nat} (h : ((8, a, 0) : zk_K) = (8, c, 0)) : a = c := congrArg (fun k => k.2.1) h
theorem dN_nI {n : Nat} (h : n < 2 ^ 31) : dN (nI n) = n := nI_clamp h
theorem zD_eq {x : Int32} {n c : Nat} (h : zD x n) (hc : c < 2 ^ 31) : x = nI c ↔ dN x = c := ⟨fun z => by rw [z]; exact dN_nI hc, fun z => by rw [← z]; exact h.1⟩
/-- trade t is of the holding of client c and fund f -/
def isH (I : zIA) (c f t : Nat) : Prop := dN (I 11 t) = c ∧ dN (I 12 t) = f
/-- are the parts enough: one step -/
theorem enS_keep {I : zIA} {L : zLA} {c f i : Nat} (h : ¬ (enS I L c f i).1 = 0 ∧ ¬ (enS I L c f i).2 < 0) (ha : enA I L c f i = 0) : enS I L c f (i + 1) = (1, (enS I L c f i).2) := by
  rw [enS_p ha ⟨h.1, by rw [Int64.add_zero]; exact h.2⟩, Int64.add_zero]
theorem enS_stay {I : zIA} {L : zLA} {c f i : Nat} (h : (enS I L c f i).1 = 0) : ∀ n, (enS I L c f (i + n)).1 = 0
  | 0 => h
  | n + 1 => by
    rw [show i + (n + 1) = (i + n) + 1 from rfl, enS_n rfl (fun z => z.1 (enS_stay h n))]
/-- taking from lots: cost, what is wanted, rows -/
def tcP (I : zIA) (c f i : Nat) (s : Int64 × Int64 × zLA) : Prop := 0 < s.2.1 ∧ isH I c f i ∧ 0 < s.2.2 31 i
def tcG (s : Int64 × Int64 × zLA) (i : Nat) : Int64 := if s.2.2 31 i < s.2.1 then s.2.2 31 i else s.2.1
def tcC (s : Int64 × Int64 × zLA) (i : Nat) : Int64 := s.2.2 32 i * tcG s i / s.2.2 31 i
def tcU (s : Int64 × Int64 × zLA) (i : Nat) : Int64 × Int64 × zLA := (s.1 + tcC s i, s.2.1 - tcG s i, up2 (up2 s.2.2 31 i (s.2.2 31 i - tcG s i)) 32 i (s.2.2 32 i - tcC s i))
noncomputable def tcS (I : zIA) (L : zLA) (c f : Nat) (w : Int64) : Nat → Int64 × Int64 × zLA
  | 0 => (0, w, L)
  | i + 1 => @ite _ (tcP I c f i (tcS I L c f w i)) (Classical.propDecidable _) (tcU (tcS I L c f w i) i) (tcS I L c f w i)
theorem tcS_p {I : zIA} {L : zLA} {c f i : Nat} {w : Int64} (h : tcP I c f i (tcS I L c f w i)) : tcS I L c f w (i + 1) = tcU (tcS I L c f w i) i := if_pos h
theorem tcS_n {I : zIA} {L : zLA} {c f i : Nat} {w : Int64} (h : ¬ tcP I c f i (tcS I L c f w i)) : tcS I L c f w (i + 1) = tcS I L c f w i := if_neg h
theorem tcS_stop {I : zIA} {L : zLA} {c f i : Nat} {w : Int64} (h : ¬ 0 < (tcS I L c f w i).2.1) : ∀ n, tcS I L c f w (i + n) = tcS I L c f w i
  | 0 => rfl
  | n + 1 => by
    have ih := tcS_stop h n
    rw [show i + (n + 1) = (i + n) + 1 from rfl, tcS_n (fun z => h (by rw [← ih]; exact z.1)), ih]
theorem tcS_stop' {I : zIA} {L : zLA} {c f i n : Nat} {w : Int64} (h : ¬ 0 < (tcS I L c f w i).2.1) (hi : i ≤ n) : tcS I L c f w n = tcS I L c f w i := by
  rw [show n = i + (n - i) by omega]
  exact tcS_stop h _
theorem enS_stay' {I : zIA} {L : zLA} {c f i n : Nat} (h : (enS I L c f i).1 = 0) (hi : i ≤ n) : (enS I L c f n).1 = 0 := by
  rw [show n = i + (n - i) by omega]
  exact enS_stay h _
theorem tcS_13 {I : zIA} {L : zLA} {c f : Nat} {w : Int64} {a : Nat} (h1 : a ≠ 31) (h2 : a ≠ 32) : ∀ i, (tcS I L c f w i).2.2 a = L a
  | 0 => rfl
  | i + 1 => by
    have ih := tcS_13 (I := I) (L := L) (c := c) (f := f) (w := w) h1 h2 i
    by_cases h : tcP I c f i (tcS I L c f w i)
    · rw [tcS_p h]
      show up2 (up2 _ 31 i _) 32 i _ a = _
      rw [up2_a h2, up2_a h1, ih]
    · rw [tcS_n h, ih]
/-- a trade enters into lots -/
noncomputable def elS (I : zIA) (L : zLA) (t : Nat) : zLA :=
  if L 13 t < 0 then up2 (tcS I L (dN (I 11 t)) (dN (I 12 t)) (-L 13 t) t).2.2 30 (21 * dN (I 11 t) + dN (I 16 t) / 360) ((tcS I L (dN (I 11 t)) (dN (I 12 t)) (-L 13 t) t).2.2 30 (21 * dN (I 11 t) + dN (I 16 t) / 360) + (-payT L t - (tcS I L (dN (I 11 t)) (dN (I 12 t)) (-L 13 t) t).1))
  else up2 (up2 L 31 t (L 13 t)) 32 t (payT L t)
theorem payT_31 {L : zLA} {t i : Nat} {x : Int64} : payT (up2 L 31 i x) t = payT L t := by
  unfold payT
  rw [up2_ne (by decide), up2_ne (by decide), up2_ne (by decide)]
/-- a client's gains are cleared -/
def z30 (L : zLA) (c : Nat) : zLA := fun a i => if a = 30 ∧ 21 * c ≤ i ∧ i < 21 * c + 21 then 0 else L a i
theorem z30_a {L : zLA} {c a : Nat} (h : a ≠ 30) : z30 L c a = L a := funext fun _ => if_neg (fun z => h z.1)
theorem cf_fill {cA : Nat → ClassId} {g0 : Nat} {ad : zk_K → Nat} {nf lc nc nt dy : Nat} {mo : Int64} {I : zIA} {L : zLA} (c : Nat) : zk_sb (zk_se (cw cA g0 ad nf lc nc 6 nt dy mo I L) (11, c, 0) (.inl (cA 1, 21, .inr (.inl (flL (fun y => if y < 21 then L 30 (21 * c + y) else 0) 0 21))))) (cw cA g0 ad nf lc nc 6 nt dy mo I (z30 L c)) := by
  intro k hk
  refine ⟨hk, rfl, ?_⟩
  by_cases h : k = (11, c, 0)
  · subst h
    rw [zk_se_s]
    have hF : (fun y => if y < 21 then z30 L c 30 (21 * c + y) else 0) = flL (fun y => if y < 21 then L 30 (21 * c + y) else 0) 0 21 := by
      funext y
      unfold flL z30
      by_cases h1 : y < 21
      · rw [if_pos h1, if_pos h1, if_pos ⟨rfl, by omega, by omega⟩]
      · rw [if_neg h1, if_neg h1]
        exact (if_neg h1).symm
    show cYears cA (z30 L c) 30 c = _
    unfold cYears
    rw [hF]
  · rw [zk_se_n h]
    obtain ⟨a, b, d⟩ := k
    by_cases h0 : a = 11
    · subst h0
      have hv2 : b < lc ∧ d = 0 := hk
      have hb : b ≠ c := fun z => h (by rw [z, hv2.2])
      have hF : (fun y => if y < 21 then z30 L c 30 (21 * b + y) else 0) = (fun y => if y < 21 then L 30 (21 * b + y) else 0) := by
        funext y
        by_cases h1 : y < 21
        · rw [if_pos h1, if_pos h1]
          exact if_neg (by omega)
        · rw [if_neg h1, if_neg h1]
      show cYears cA (z30 L c) 30 b = cYears cA L 30 b
      unfold cYears
      rw [hF]
    · show cEnt cA g0 ad nf lc nc 6 nt dy mo I (z30 L c) (a, b, d) = cEnt cA g0 ad nf lc nc 6 nt dy mo I L (a, b, d)
      unfold cEnt
      split <;> first | rfl | (rename_i h2; exact absurd h2 h0) | simp [cFund, cCli, cHol, cTra, cYears, z30]
/-- a client's lots, found anew -/
noncomputable def flS (I : zIA) (L : zLA) (c : Nat) : Nat → zLA
  | 0 => z30 L c
  | t + 1 => if dN (I 11 t) = c then (if I 17 t = 0 then up2 (up2 (flS I L c t) 31 t 0) 32 t 0 else elS I (up2 (up2 (flS I L c t) 31 t 0) 32 t 0) t) else flS I L c t
theorem flS_n {I : zIA} {L : zLA} {c t : Nat} (h : ¬ dN (I 11 t) = c) : flS I L c (t + 1) = flS I L c t := if_neg h
theorem flS_0 {I : zIA} {L : zLA} {c t : Nat} (h : dN (I 11 t) = c) (h2 : I 17 t = 0) : flS I L c (t + 1) = up2 (up2 (flS I L c t) 31 t 0) 32 t 0 := (if_pos h).trans (if_pos h2)
theorem flS_1 {I : zIA} {L : zLA} {c t : Nat} (h : dN (I 11 t) = c) (h2 : ¬ I 17 t = 0) : flS I L c (t + 1) = elS I (up2 (up2 (flS I L c t) 31 t 0) 32 t 0) t := (if_pos h).trans (if_neg h2)
