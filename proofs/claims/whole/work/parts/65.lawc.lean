/-! ===== the law's body: the cases ===== -/
/-- class, out, reference -/
def lwW (cA : Nat → ClassId) (g0 : Nat) (ad adm : zk_K → Nat) (o nc nt dy nl : Nat) (th : Int32) (mo : Int64) (I : zIA) (L : zLA) (h : Nat → Int64) : zk_W := zk_sum 100 (zk_sum 50 (cw cA g0 ad 6 nc nc 6 nt dy mo I L) (outW cA o h)) (mw cA adm dy nc nt nl th mo I L)
theorem sum50_lt {w : zk_W} {cA : Nat → ClassId} {o : Nat} {h : Nat → Int64} : ∀ k, (zk_sum 50 w (outW cA o h)).2.1 k → k.1 < 100 := by
  intro k hk
  by_cases z : k.1 < 50
  · omega
  · have hk2 : (if k.1 < 50 then w.2.1 k else (k.1 - 50, k.2) = (0, 0, 0)) := hk
    rw [if_neg z] at hk2
    have : k.1 - 50 = 0 := congrArg Prod.fst hk2
    omega
theorem cw_lt {cA : Nat → ClassId} {g0 : Nat} {ad : zk_K → Nat} {nf lc nc hl nt dy : Nat} {mo : Int64} {I : zIA} {L : zLA} : ∀ k, (cw cA g0 ad nf lc nc hl nt dy mo I L).2.1 k → k.1 < 50 := fun k hk => Nat.lt_of_le_of_lt (live14 hk) (by decide)
section LAW
variable {p : Program} {l : Launch} {e : Env} {s : State} {m : MethodId} {below : List Frame} {meth : Method} {c : Code} {H : Heap} {locs : List Loc} {cells slots : Nat} {Q : State → Prop} {ls : Array Slot} {D : va_G} {cA : Nat → ClassId} {A : Nat → Prop} {g : Nat → Nat}
variable {sb L0 i o b nc nt dy nl : Nat} {xs : Nat → Int32} {ad adm : zk_K → Nat} {th : Int32} {mo : Int64} {I : zIA} {L : zLA} {h : Nat → Int64}
/-- the law goes on behind a turn -/
def lwK (p : Program) (l : Launch) (e : Env) (s : State) (m : MethodId) (below : List Frame) (meth : Method) (c : Code) (D : va_G) (cA : Nat → ClassId) (A : Nat → Prop) (g : Nat → Nat) (sb i o b : Nat) (adm : zk_K → Nat) (cells slots : Nat) (Q : State → Prop) : Prop :=
  ∀ (ad : zk_K → Nat) (nc nt dy nl : Nat) (th : Int32) (mo : Int64) (I : zIA) (L : zLA) (h : Nat → Int64) (H : Heap) (locs : List Loc) (ls : Array Slot), zk_H D A (lwW cA (g 0) ad adm o nc nt dy nl th mo I L h) H → va_S A s.heap H locs → zInv nc nt dy b I L → lv_has ls 8 [(0, .ref sb), (1, .ref (ad (0, 0, 0))), (2, .ref (adm (0, 0, 0))), (3, .ref o), (4, .int (nI i))] →
    W p l e room_1 s m #[.ref sb] below meth c H locs cells slots Q (F0 m 1171 ls [])
theorem lw_ld {pc : Nat} {rest : List Value} {j : Nat} (hx : p.tables.exec = Jvm.exec) (hb : c.code = cL_law) (hX : va_X sb L0 xs s s.heap) (hbl : sb < s.heap.size) (hbA : ¬ A sb) (hS : va_S A s.heap H locs) (hi : i + 5 ≤ L0) (hL0 : L0 ≤ 2560) (hj : j < 5) (hdg : decode cL_law pc = .ok (.iaload, 1))
    (kk : W p l e room_1 s m #[.ref sb] below meth c H locs cells slots Q (F0 m (pc + 1) ls (.int (xs (i + j)) :: rest))) : W p l e room_1 s m #[.ref sb] below meth c H locs cells slots Q (F0 m pc ls (.int (nI i + nI j) :: .ref sb :: rest)) := by
  rw [nI_add]
  refine va_sld hx hb hX hbl hbA hS (vp_in_nI (by omega) (by omega)) hdg ?_
  rw [nI_clamp (by omega)]
  exact kk
set_option maxHeartbeats 2000000 in
set_option maxRecDepth 100000 in
theorem lw_price (C : zC p l m c cL_law 8 s #[.ref sb] wsL_law RL D (zt cA) A g meth) (hst : l.stackTraces = false) (hX : va_X sb L0 xs s s.heap) (hbl : sb < s.heap.size) (hbA : ¬ A sb) (hi : i + 5 ≤ L0) (hL0 : L0 ≤ 2560) (hI : zInv nc nt dy b I L) (hb8 : b ≤ 8000) (hH : zk_H D A (lwW cA (g 0) ad adm o nc nt dy nl th mo I L h) H) (hS : va_S A s.heap H locs) (hl : lv_has ls 8 [(0, .ref sb), (1, .ref (ad (0, 0, 0))), (2, .ref (adm (0, 0, 0))), (3, .ref o), (4, .int (nI i))]) (hc : cells + 30 ≤ 601024) (hs : slots + 2200 ≤ 7293034) (K : lwK p l e s m below meth c D cA A g sb i o (b + 12) adm (cells + 30) (slots + 2200) Q) : W p l e room_1 s m #[.ref sb] below meth c H locs cells slots Q (F0 m 116 ls []) := by
  obtain ⟨⟨hx, hb, hml, hown, hts⟩, hG, hlk⟩ := id C
  obtain ⟨hnc, hnt, hdy⟩ := hI.1
  have hpr := hI.pr
  obtain ⟨h11, h12, h16, hT11, h17⟩ := hI.t
  have hB := hI.2.2.2.2.2.2.2.2
  refine lv_aload_n hx hb dL_law_116 rfl (lv_at hl 1 rfl) ?_
  refine lv_aload_n hx hb dL_law_117 rfl (lv_at hl 0 rfl) ?_
  refine lv_iload hx hb dL_law_118 (lv_at hl 4 rfl) ?_
  refine lv_iconst (v := 1) hx hb dL_law_120 (by decide) ?_
  refine lv_iadd hx hb dL_law_121 ?_
  refine lw_ld (j := 1) hx hb hX hbl hbA hS hi hL0 (by decide) dL_law_122 ?_
  refine lv_aload_n hx hb dL_law_123 rfl (lv_at hl 0 rfl) ?_
  refine lv_iload hx hb dL_law_124 (lv_at hl 4 rfl) ?_
  refine lv_iconst (v := 2) hx hb dL_law_126 (by decide) ?_
  refine lv_iadd hx hb dL_law_127 ?_
  refine lw_ld (j := 2) hx hb hX hbl hbA hS hi hL0 (by decide) dL_law_128 ?_
  refine lv_aload_n hx hb dL_law_129 rfl (lv_at hl 3 rfl) ?_
  have hcls := (fun A => cC_price l hst D cA A g ad nc nt dy mo I L (xs (i + 1)) (xs (i + 2)) )
  have hw := zM_sumL (n := 100) (w2 := mw cA adm dy nc nt nl th mo I L) (cW_price l D cA g (cw cA (g 0) ad 6 nc nc 6 nt dy mo I L) rfl rfl cw_lt o h _ _ (xs (i + 1)) (xs (i + 2)) hcls (by
      intro E w' hp
      rcases hp with ⟨-, ⟨-, e⟩ | ⟨-, -, e⟩⟩
      · exact Or.inl e
      · exact Or.inr e)) sum50_lt A
  refine zk_c (zk_rSH (w := lwW cA (g 0) ad adm o nc nt dy nl th mo I L h) (As := [.ref (ad (0, 0, 0)), .int (xs (i + 1)), .int (xs (i + 2)), .ref o]) (rest := []) (n := 4) C hw hH hS gL_law_L_price rfl rfl (by decide +kernel) ⟨Nat.le_of_ble_eq_true rfl, Nat.le_of_ble_eq_true rfl⟩ hl rfl (Nat.le_of_ble_eq_true rfl) dL_law_130 ⟨by show cells + 2 ≤ 601024; omega, by show slots + 12 ≤ 7293034; omega⟩) hS (fun v_ W_ H locs hP hH_1 hS_1 => ?_)
  obtain ⟨W1, ⟨r, rfl, hC⟩, rfl⟩ := hP
  refine W.eq (g2 := F0 m 133 ls [.int r]) rfl ?_
  have hk1 : ∀ k, W1.2.1 k → k.1 < 100 := by
    rcases hC with ⟨_, _, _, _, rfl⟩ | ⟨_, _, _, rfl⟩ | ⟨_, _, _, rfl⟩ <;> exact sum50_lt
  refine lv_istore (lv' := [(5, .int r), (0, .ref sb), (1, .ref (ad (0, 0, 0))), (2, .ref (adm (0, 0, 0))), (3, .ref o), (4, .int (nI i))]) hx hb dL_law_133 hl (by decide) rfl (fun ls hl1 => ?_)
  refine lv_aload_n hx hb dL_law_135 rfl (lv_at hl1 3 rfl) ?_
  refine lv_aload_n hx hb dL_law_136 rfl (lv_at hl1 1 rfl) ?_
  refine lv_iload hx hb dL_law_137 (lv_at hl1 5 rfl) ?_
  refine lv_iconst (v := 1) hx hb dL_law_139 (by decide) ?_
  refine lv_iadd hx hb dL_law_140 ?_
  refine lw_ld (j := 1) hx hb hX hbl hbA hS_1 hi hL0 (by decide) dL_law_141 ?_
  refine lv_aload_n hx hb dL_law_142 rfl (lv_at hl1 1 rfl) ?_
  refine lv_iload hx hb dL_law_143 (lv_at hl1 5 rfl) ?_
  refine lv_iconst (v := 2) hx hb dL_law_145 (by decide) ?_
  refine lv_iadd hx hb dL_law_146 ?_
  refine lw_ld (j := 2) hx hb hX hbl hbA hS_1 hi hL0 (by decide) dL_law_147 ?_
  have hm : zM l yX5_price wsX5_price rmM_price D (zt cA) A g (.ref ((zk_sum 100 W1 (mw cA adm dy nc nt nl th mo I L)).1 (100, 0, 0)) :: [.int (xs (i + 1)), .int (xs (i + 2))]) (zk_sum 100 W1 (mw cA adm dy nc nt nl th mo I L)) _ := zM_sumR (n := 100) (w1 := W1) (fun A => cM_price l D cA A g adm dy nc nt nl th mo I L (xs (i + 1)) (xs (i + 2)) ) hk1 A
  refine zk_c (zk_rV (w := zk_sum 100 W1 (mw cA adm dy nc nt nl th mo I L)) (As := [.int (xs (i + 1)), .int (xs (i + 2))]) (rest := []) (n := 2) (k := (100, 0, 0)) C hm hH_1 hS_1 (show (zk_sum 100 W1 (mw cA adm dy nc nt nl th mo I L)).2.1 (100, 0, 0) from mL_o) rfl rfl gL_law_X5_price rfl rfl (by decide +kernel) ⟨Nat.le_of_ble_eq_true rfl, Nat.le_of_ble_eq_true rfl⟩ hl1 rfl (Nat.le_of_ble_eq_true rfl) dL_law_148 ⟨by show cells + 2 + 0 ≤ 601024; omega, by show slots + 12 + 0 ≤ 7293034; omega⟩) hS_1 (fun v_ W_ H locs hP hH_2 hS_2 => ?_)
  obtain ⟨w2, ⟨x, rfl, hM⟩, rfl⟩ := hP
  refine W.eq (g2 := F0 m 151 ls [.int x]) rfl ?_
  obtain ⟨ad2, nc2, nt2, dy2, nl2, mo2, I2, L2, h2, hA, rfl, rfl, hI2, hv⟩ := tn_price hI hb8 (xs (i + 1)) (xs (i + 2)) hC hM
  refine lv_istore (lv' := [(6, .int x), (5, .int r), (0, .ref sb), (1, .ref (ad (0, 0, 0))), (2, .ref (adm (0, 0, 0))), (3, .ref o), (4, .int (nI i))]) hx hb dL_law_151 hl1 (by decide) rfl (fun ls hl2 => ?_)
  refine lv_aload_n hx hb dL_law_153 rfl (lv_at hl2 4 rfl) ?_
  have ht : zM l yX5_thrown wsX5_thrown rmM_thrown D (zt cA) A g (.ref ((lwW cA (g 0) ad2 adm o nc2 nt2 dy2 nl2 r mo2 I2 L2 h2).1 (100, 0, 0)) :: []) (lwW cA (g 0) ad2 adm o nc2 nt2 dy2 nl2 r mo2 I2 L2 h2) _ := zM_sumR (n := 100) (w1 := zk_sum 50 (cw cA (g 0) ad2 6 nc2 nc2 6 nt2 dy2 mo2 I2 L2) (outW cA o h2)) (fun A => cM_thrown l D cA A g adm dy2 nc2 nt2 nl2 r mo2 I2 L2) sum50_lt A
  refine zk_c (zk_rV (w := lwW cA (g 0) ad2 adm o nc2 nt2 dy2 nl2 r mo2 I2 L2 h2) (As := []) (rest := []) (n := 0) (k := (100, 0, 0)) C ht hH_2 hS_2 (show (lwW cA (g 0) ad2 adm o nc2 nt2 dy2 nl2 r mo2 I2 L2 h2).2.1 (100, 0, 0) from mL_o) rfl rfl gL_law_X5_thrown rfl rfl (by decide +kernel) ⟨Nat.le_of_ble_eq_true rfl, Nat.le_of_ble_eq_true rfl⟩ hl2 rfl (Nat.le_of_ble_eq_true rfl) dL_law_154 ⟨by show cells + 2 + 0 + 0 ≤ 601024; omega, by show slots + 12 + 0 + 0 ≤ 7293034; omega⟩) hS_2 (fun v_ W_ H locs hP hH_3 hS_3 => ?_)
  obtain ⟨w3, ⟨r3, rfl, rfl, rfl⟩, rfl⟩ := hP
  refine W.eq (g2 := F0 m 157 ls [.int r]) rfl ?_
  have hl3 := lv_sub hl2 [2, 3, 4, 5, 6] rfl
  rw [← hA] at hl3
  refine lv_iload hx hb dL_law_157 (lv_at hl2 1 rfl) ?_
  refine lv_icmp_eq (tgt := 164) hx hb dL_law_159 (by decide) (fun _ => ?_) (fun c9 => absurd rfl c9)
  refine lv_iload hx hb dL_law_164 (lv_at hl2 1 rfl) ?_
  refine lv_if_ne (tgt := 181) hx hb dL_law_166 (by decide) (fun c1 => ?_) (fun c1 => ?_)
  · refine lv_goto (tgt := 1171) hx hb dL_law_181 (by decide) ?_
    exact W.widen (by show cells + 2 + 0 + 0 ≤ cells + 30; omega) (by show slots + 12 + 0 + 0 ≤ slots + 2200; omega) (K ad2 nc2 nt2 dy2 nl2 r mo2 I2 L2 h2 H locs ls hH_3 hS_3 hI2 hl3)
  · have hr0 : r = 0 := by first | exact c1 | exact Classical.not_not.mp c1
    refine lv_aload_n hx hb dL_law_169 rfl (lv_at hl2 5 rfl) ?_
    refine lv_iconst (v := 0) hx hb dL_law_170 (by decide) ?_
    refine zr_lald C hH_3 (50, 0, 0) (show (lwW cA (g 0) ad2 adm o nc2 nt2 dy2 nl2 r mo2 I2 L2 h2).2.1 (50, 0, 0) from rfl) (f := h2) rfl 1 rfl (j := 0) rfl (by decide) (by decide) dL_law_171 ?_
    refine lv_iload hx hb dL_law_172 (lv_at hl2 0 rfl) ?_
    refine lv_i2l (v := Int32.toInt64 x) hx hb dL_law_174 rfl ?_
    refine zl_cmp_eq (tgt := 181) hx hb dL_law_175 dL_law_176 (by decide) (fun _ => ?_) (fun c2 => absurd (hv hr0) c2)
    refine lv_goto (tgt := 1171) hx hb dL_law_181 (by decide) ?_
    exact W.widen (by show cells + 2 + 0 + 0 ≤ cells + 30; omega) (by show slots + 12 + 0 + 0 ≤ slots + 2200; omega) (K ad2 nc2 nt2 dy2 nl2 r mo2 I2 L2 h2 H locs ls hH_3 hS_3 hI2 hl3)
set_option maxHeartbeats 2000000 in
set_option maxRecDepth 100000 in
theorem lw_client (C : zC p l m c cL_law 8 s #[.ref sb] wsL_law RL D (zt cA) A g meth) (hst : l.stackTraces = false) (hX : va_X sb L0 xs s s.heap) (hbl : sb < s.heap.size) (hbA : ¬ A sb) (hi : i + 5 ≤ L0) (hL0 : L0 ≤ 2560) (hI : zInv nc nt dy b I L) (hb8 : b ≤ 8000) (hH : zk_H D A (lwW cA (g 0) ad adm o nc nt dy nl th mo I L h) H) (hS : va_S A s.heap H locs) (hl : lv_has ls 8 [(0, .ref sb), (1, .ref (ad (0, 0, 0))), (2, .ref (adm (0, 0, 0))), (3, .ref o), (4, .int (nI i))]) (hc : cells + 30 ≤ 601024) (hs : slots + 2200 ≤ 7293034) (K : lwK p l e s m below meth c D cA A g sb i o (b + 12) adm (cells + 30) (slots + 2200) Q) : W p l e room_1 s m #[.ref sb] below meth c H locs cells slots Q (F0 m 184 ls []) := by
  obtain ⟨⟨hx, hb, hml, hown, hts⟩, hG, hlk⟩ := id C
  obtain ⟨hnc, hnt, hdy⟩ := hI.1
  have hpr := hI.pr
  obtain ⟨h11, h12, h16, hT11, h17⟩ := hI.t
  have hB := hI.2.2.2.2.2.2.2.2
  refine lv_aload_n hx hb dL_law_184 rfl (lv_at hl 1 rfl) ?_
  refine lv_aload_n hx hb dL_law_185 rfl (lv_at hl 3 rfl) ?_
  have hcls := (fun A => cC_client l hst D cA A g ad nc nt dy mo I L  hnc hB (fun t ht => (h11 t ht).2))
  have hw := zM_sumL (n := 100) (w2 := mw cA adm dy nc nt nl th mo I L) (cW_client l D cA g (cw cA (g 0) ad 6 nc nc 6 nt dy mo I L) rfl rfl cw_lt o h _ _  hcls (by
      intro E w' hp
      obtain ⟨-, -, e⟩ := hp
      exact e)) sum50_lt A
  refine zk_c (zk_rSH (w := lwW cA (g 0) ad adm o nc nt dy nl th mo I L h) (As := [.ref (ad (0, 0, 0)), .ref o]) (rest := []) (n := 2) C hw hH hS gL_law_L_client rfl rfl (by decide +kernel) ⟨Nat.le_of_ble_eq_true rfl, Nat.le_of_ble_eq_true rfl⟩ hl rfl (Nat.le_of_ble_eq_true rfl) dL_law_186 ⟨by show cells + 17 ≤ 601024; omega, by show slots + 1215 ≤ 7293034; omega⟩) hS (fun v_ W_ H locs hP hH_1 hS_1 => ?_)
  obtain ⟨W1, ⟨r, rfl, hC⟩, rfl⟩ := hP
  refine W.eq (g2 := F0 m 189 ls [.int r]) rfl ?_
  have hk1 : ∀ k, W1.2.1 k → k.1 < 100 := by
    rcases hC with ⟨_, _, _, _, rfl⟩ | ⟨_, _, _, rfl⟩ <;> exact sum50_lt
  refine lv_istore (lv' := [(5, .int r), (0, .ref sb), (1, .ref (ad (0, 0, 0))), (2, .ref (adm (0, 0, 0))), (3, .ref o), (4, .int (nI i))]) hx hb dL_law_189 hl (by decide) rfl (fun ls hl1 => ?_)
  refine lv_aload_n hx hb dL_law_191 rfl (lv_at hl1 3 rfl) ?_
  have hm : zM l yX5_client wsX5_client rmM_client D (zt cA) A g (.ref ((zk_sum 100 W1 (mw cA adm dy nc nt nl th mo I L)).1 (100, 0, 0)) :: []) (zk_sum 100 W1 (mw cA adm dy nc nt nl th mo I L)) _ := zM_sumR (n := 100) (w1 := W1) (fun A => cM_client l D cA A g adm dy nc nt nl th mo I L  hnc) hk1 A
  refine zk_c (zk_rV (w := zk_sum 100 W1 (mw cA adm dy nc nt nl th mo I L)) (As := []) (rest := []) (n := 0) (k := (100, 0, 0)) C hm hH_1 hS_1 (show (zk_sum 100 W1 (mw cA adm dy nc nt nl th mo I L)).2.1 (100, 0, 0) from mL_o) rfl rfl gL_law_X5_client rfl rfl (by decide +kernel) ⟨Nat.le_of_ble_eq_true rfl, Nat.le_of_ble_eq_true rfl⟩ hl1 rfl (Nat.le_of_ble_eq_true rfl) dL_law_192 ⟨by show cells + 17 + 0 ≤ 601024; omega, by show slots + 1215 + 0 ≤ 7293034; omega⟩) hS_1 (fun v_ W_ H locs hP hH_2 hS_2 => ?_)
  obtain ⟨w2, ⟨x, rfl, hM⟩, rfl⟩ := hP
  refine W.eq (g2 := F0 m 195 ls [.int x]) rfl ?_
  obtain ⟨ad2, nc2, nt2, dy2, nl2, mo2, I2, L2, h2, hA, rfl, rfl, hI2, hv⟩ := tn_client hI hb8 hC hM
  refine lv_istore (lv' := [(6, .int x), (5, .int r), (0, .ref sb), (1, .ref (ad (0, 0, 0))), (2, .ref (adm (0, 0, 0))), (3, .ref o), (4, .int (nI i))]) hx hb dL_law_195 hl1 (by decide) rfl (fun ls hl2 => ?_)
  refine lv_aload_n hx hb dL_law_197 rfl (lv_at hl2 4 rfl) ?_
  have ht : zM l yX5_thrown wsX5_thrown rmM_thrown D (zt cA) A g (.ref ((lwW cA (g 0) ad2 adm o nc2 nt2 dy2 nl2 r mo2 I2 L2 h2).1 (100, 0, 0)) :: []) (lwW cA (g 0) ad2 adm o nc2 nt2 dy2 nl2 r mo2 I2 L2 h2) _ := zM_sumR (n := 100) (w1 := zk_sum 50 (cw cA (g 0) ad2 6 nc2 nc2 6 nt2 dy2 mo2 I2 L2) (outW cA o h2)) (fun A => cM_thrown l D cA A g adm dy2 nc2 nt2 nl2 r mo2 I2 L2) sum50_lt A
  refine zk_c (zk_rV (w := lwW cA (g 0) ad2 adm o nc2 nt2 dy2 nl2 r mo2 I2 L2 h2) (As := []) (rest := []) (n := 0) (k := (100, 0, 0)) C ht hH_2 hS_2 (show (lwW cA (g 0) ad2 adm o nc2 nt2 dy2 nl2 r mo2 I2 L2 h2).2.1 (100, 0, 0) from mL_o) rfl rfl gL_law_X5_thrown rfl rfl (by decide +kernel) ⟨Nat.le_of_ble_eq_true rfl, Nat.le_of_ble_eq_true rfl⟩ hl2 rfl (Nat.le_of_ble_eq_true rfl) dL_law_198 ⟨by show cells + 17 + 0 + 0 ≤ 601024; omega, by show slots + 1215 + 0 + 0 ≤ 7293034; omega⟩) hS_2 (fun v_ W_ H locs hP hH_3 hS_3 => ?_)
  obtain ⟨w3, ⟨r3, rfl, rfl, rfl⟩, rfl⟩ := hP
  refine W.eq (g2 := F0 m 201 ls [.int r]) rfl ?_
  have hl3 := lv_sub hl2 [2, 3, 4, 5, 6] rfl
  rw [← hA] at hl3
  refine lv_iload hx hb dL_law_201 (lv_at hl2 1 rfl) ?_
  refine lv_icmp_eq (tgt := 208) hx hb dL_law_203 (by decide) (fun _ => ?_) (fun c9 => absurd rfl c9)
  refine lv_iload hx hb dL_law_208 (lv_at hl2 1 rfl) ?_
  refine lv_if_ne (tgt := 225) hx hb dL_law_210 (by decide) (fun c1 => ?_) (fun c1 => ?_)
  · refine lv_goto (tgt := 1171) hx hb dL_law_225 (by decide) ?_
    exact W.widen (by show cells + 17 + 0 + 0 ≤ cells + 30; omega) (by show slots + 1215 + 0 + 0 ≤ slots + 2200; omega) (K ad2 nc2 nt2 dy2 nl2 r mo2 I2 L2 h2 H locs ls hH_3 hS_3 hI2 hl3)
  · have hr0 : r = 0 := by first | exact c1 | exact Classical.not_not.mp c1
    refine lv_aload_n hx hb dL_law_213 rfl (lv_at hl2 5 rfl) ?_
    refine lv_iconst (v := 0) hx hb dL_law_214 (by decide) ?_
    refine zr_lald C hH_3 (50, 0, 0) (show (lwW cA (g 0) ad2 adm o nc2 nt2 dy2 nl2 r mo2 I2 L2 h2).2.1 (50, 0, 0) from rfl) (f := h2) rfl 1 rfl (j := 0) rfl (by decide) (by decide) dL_law_215 ?_
    refine lv_iload hx hb dL_law_216 (lv_at hl2 0 rfl) ?_
    refine lv_i2l (v := Int32.toInt64 x) hx hb dL_law_218 rfl ?_
    refine zl_cmp_eq (tgt := 225) hx hb dL_law_219 dL_law_220 (by decide) (fun _ => ?_) (fun c2 => absurd (hv hr0) c2)
    refine lv_goto (tgt := 1171) hx hb dL_law_225 (by decide) ?_
    exact W.widen (by show cells + 17 + 0 + 0 ≤ cells + 30; omega) (by show slots + 1215 + 0 + 0 ≤ slots + 2200; omega) (K ad2 nc2 nt2 dy2 nl2 r mo2 I2 L2 h2 H locs ls hH_3 hS_3 hI2 hl3)
set_option maxHeartbeats 2000000 in
set_option maxRecDepth 100000 in
theorem lw_pay (C : zC p l m c cL_law 8 s #[.ref sb] wsL_law RL D (zt cA) A g meth) (hst : l.stackTraces = false) (hX : va_X sb L0 xs s s.heap) (hbl : sb < s.heap.size) (hbA : ¬ A sb) (hi : i + 5 ≤ L0) (hL0 : L0 ≤ 2560) (hI : zInv nc nt dy b I L) (hb8 : b ≤ 8000) (hH : zk_H D A (lwW cA (g 0) ad adm o nc nt dy nl th mo I L h) H) (hS : va_S A s.heap H locs) (hl : lv_has ls 8 [(0, .ref sb), (1, .ref (ad (0, 0, 0))), (2, .ref (adm (0, 0, 0))), (3, .ref o), (4, .int (nI i))]) (hc : cells + 30 ≤ 601024) (hs : slots + 2200 ≤ 7293034) (K : lwK p l e s m below meth c D cA A g sb i o (b + 12) adm (cells + 30) (slots + 2200) Q) : W p l e room_1 s m #[.ref sb] below meth c H locs cells slots Q (F0 m 228 ls []) := by
  obtain ⟨⟨hx, hb, hml, hown, hts⟩, hG, hlk⟩ := id C
  obtain ⟨hnc, hnt, hdy⟩ := hI.1
  have hpr := hI.pr
  obtain ⟨h11, h12, h16, hT11, h17⟩ := hI.t
  have hB := hI.2.2.2.2.2.2.2.2
  refine lv_aload_n hx hb dL_law_228 rfl (lv_at hl 1 rfl) ?_
  refine lv_aload_n hx hb dL_law_229 rfl (lv_at hl 0 rfl) ?_
  refine lv_iload hx hb dL_law_230 (lv_at hl 4 rfl) ?_
  refine lv_iconst (v := 1) hx hb dL_law_232 (by decide) ?_
  refine lv_iadd hx hb dL_law_233 ?_
  refine lw_ld (j := 1) hx hb hX hbl hbA hS hi hL0 (by decide) dL_law_234 ?_
  refine lv_aload_n hx hb dL_law_235 rfl (lv_at hl 0 rfl) ?_
  refine lv_iload hx hb dL_law_236 (lv_at hl 4 rfl) ?_
  refine lv_iconst (v := 2) hx hb dL_law_238 (by decide) ?_
  refine lv_iadd hx hb dL_law_239 ?_
  refine lw_ld (j := 2) hx hb hX hbl hbA hS hi hL0 (by decide) dL_law_240 ?_
  refine lv_aload_n hx hb dL_law_241 rfl (lv_at hl 3 rfl) ?_
  have hcls := (fun A => cC_pay l hst D cA A g ad nc nt dy mo I L (xs (i + 1)) (xs (i + 2)) hnc)
  have hw := zM_sumL (n := 100) (w2 := mw cA adm dy nc nt nl th mo I L) (cW_pay l D cA g (cw cA (g 0) ad 6 nc nc 6 nt dy mo I L) rfl rfl cw_lt o h _ _ (xs (i + 1)) (xs (i + 2)) hcls (by
      intro E w' hp
      rcases hp with ⟨-, ⟨-, e⟩ | ⟨-, -, e⟩ | ⟨_, -, -, -, -, -, e⟩⟩
      · exact Or.inl e
      · exact Or.inr (Or.inl e)
      · exact Or.inr (Or.inr e))) sum50_lt A
  refine zk_c (zk_rSH (w := lwW cA (g 0) ad adm o nc nt dy nl th mo I L h) (As := [.ref (ad (0, 0, 0)), .int (xs (i + 1)), .int (xs (i + 2)), .ref o]) (rest := []) (n := 4) C hw hH hS gL_law_L_pay rfl rfl (by decide +kernel) ⟨Nat.le_of_ble_eq_true rfl, Nat.le_of_ble_eq_true rfl⟩ hl rfl (Nat.le_of_ble_eq_true rfl) dL_law_242 ⟨by show cells + 2 ≤ 601024; omega, by show slots + 12 ≤ 7293034; omega⟩) hS (fun v_ W_ H locs hP hH_1 hS_1 => ?_)
  obtain ⟨W1, ⟨r, rfl, hC⟩, rfl⟩ := hP
  refine W.eq (g2 := F0 m 245 ls [.int r]) rfl ?_
  have hk1 : ∀ k, W1.2.1 k → k.1 < 100 := by
    rcases hC with ⟨_, _, _, _, rfl⟩ | ⟨_, _, _, rfl⟩ | ⟨_, _, _, rfl⟩ | ⟨_, _, _, rfl⟩ <;> exact sum50_lt
  refine lv_istore (lv' := [(5, .int r), (0, .ref sb), (1, .ref (ad (0, 0, 0))), (2, .ref (adm (0, 0, 0))), (3, .ref o), (4, .int (nI i))]) hx hb dL_law_245 hl (by decide) rfl (fun ls hl1 => ?_)
  refine lv_aload_n hx hb dL_law_247 rfl (lv_at hl1 3 rfl) ?_
  refine lv_aload_n hx hb dL_law_248 rfl (lv_at hl1 1 rfl) ?_
  refine lv_iload hx hb dL_law_249 (lv_at hl1 5 rfl) ?_
  refine lv_iconst (v := 1) hx hb dL_law_251 (by decide) ?_
  refine lv_iadd hx hb dL_law_252 ?_
  refine lw_ld (j := 1) hx hb hX hbl hbA hS_1 hi hL0 (by decide) dL_law_253 ?_
  refine lv_aload_n hx hb dL_law_254 rfl (lv_at hl1 1 rfl) ?_
  refine lv_iload hx hb dL_law_255 (lv_at hl1 5 rfl) ?_
  refine lv_iconst (v := 2) hx hb dL_law_257 (by decide) ?_
  refine lv_iadd hx hb dL_law_258 ?_
  refine lw_ld (j := 2) hx hb hX hbl hbA hS_1 hi hL0 (by decide) dL_law_259 ?_
  have hm : zM l yX5_pay wsX5_pay rmM_pay D (zt cA) A g (.ref ((zk_sum 100 W1 (mw cA adm dy nc nt nl th mo I L)).1 (100, 0, 0)) :: [.int (xs (i + 1)), .int (xs (i + 2))]) (zk_sum 100 W1 (mw cA adm dy nc nt nl th mo I L)) _ := zM_sumR (n := 100) (w1 := W1) (fun A => cM_pay l D cA A g adm dy nc nt nl th mo I L (xs (i + 1)) (xs (i + 2)) hnc) hk1 A
  refine zk_c (zk_rV (w := zk_sum 100 W1 (mw cA adm dy nc nt nl th mo I L)) (As := [.int (xs (i + 1)), .int (xs (i + 2))]) (rest := []) (n := 2) (k := (100, 0, 0)) C hm hH_1 hS_1 (show (zk_sum 100 W1 (mw cA adm dy nc nt nl th mo I L)).2.1 (100, 0, 0) from mL_o) rfl rfl gL_law_X5_pay rfl rfl (by decide +kernel) ⟨Nat.le_of_ble_eq_true rfl, Nat.le_of_ble_eq_true rfl⟩ hl1 rfl (Nat.le_of_ble_eq_true rfl) dL_law_260 ⟨by show cells + 2 + 0 ≤ 601024; omega, by show slots + 12 + 0 ≤ 7293034; omega⟩) hS_1 (fun v_ W_ H locs hP hH_2 hS_2 => ?_)
  obtain ⟨w2, ⟨x, rfl, hM⟩, rfl⟩ := hP
  refine W.eq (g2 := F0 m 263 ls [.long x]) rfl ?_
  obtain ⟨ad2, nc2, nt2, dy2, nl2, mo2, I2, L2, h2, hA, rfl, rfl, hI2, hv⟩ := tn_pay hI hb8 (xs (i + 1)) (xs (i + 2)) hC hM
  refine lv_lstore (lv' := [(6, .long x), (5, .int r), (0, .ref sb), (1, .ref (ad (0, 0, 0))), (2, .ref (adm (0, 0, 0))), (3, .ref o), (4, .int (nI i))]) hx hb dL_law_263 hl1 (by decide) rfl (fun ls hl2 => ?_)
  refine lv_aload_n hx hb dL_law_265 rfl (lv_at hl2 4 rfl) ?_
  have ht : zM l yX5_thrown wsX5_thrown rmM_thrown D (zt cA) A g (.ref ((lwW cA (g 0) ad2 adm o nc2 nt2 dy2 nl2 r mo2 I2 L2 h2).1 (100, 0, 0)) :: []) (lwW cA (g 0) ad2 adm o nc2 nt2 dy2 nl2 r mo2 I2 L2 h2) _ := zM_sumR (n := 100) (w1 := zk_sum 50 (cw cA (g 0) ad2 6 nc2 nc2 6 nt2 dy2 mo2 I2 L2) (outW cA o h2)) (fun A => cM_thrown l D cA A g adm dy2 nc2 nt2 nl2 r mo2 I2 L2) sum50_lt A
  refine zk_c (zk_rV (w := lwW cA (g 0) ad2 adm o nc2 nt2 dy2 nl2 r mo2 I2 L2 h2) (As := []) (rest := []) (n := 0) (k := (100, 0, 0)) C ht hH_2 hS_2 (show (lwW cA (g 0) ad2 adm o nc2 nt2 dy2 nl2 r mo2 I2 L2 h2).2.1 (100, 0, 0) from mL_o) rfl rfl gL_law_X5_thrown rfl rfl (by decide +kernel) ⟨Nat.le_of_ble_eq_true rfl, Nat.le_of_ble_eq_true rfl⟩ hl2 rfl (Nat.le_of_ble_eq_true rfl) dL_law_266 ⟨by show cells + 2 + 0 + 0 ≤ 601024; omega, by show slots + 12 + 0 + 0 ≤ 7293034; omega⟩) hS_2 (fun v_ W_ H locs hP hH_3 hS_3 => ?_)
  obtain ⟨w3, ⟨r3, rfl, rfl, rfl⟩, rfl⟩ := hP
  refine W.eq (g2 := F0 m 269 ls [.int r]) rfl ?_
  have hl3 := lv_sub hl2 [2, 3, 4, 5, 6] rfl
  rw [← hA] at hl3
  refine lv_iload hx hb dL_law_269 (lv_at hl2 1 rfl) ?_
  refine lv_icmp_eq (tgt := 276) hx hb dL_law_271 (by decide) (fun _ => ?_) (fun c9 => absurd rfl c9)
  refine lv_iload hx hb dL_law_276 (lv_at hl2 1 rfl) ?_
  refine lv_if_ne (tgt := 292) hx hb dL_law_278 (by decide) (fun c1 => ?_) (fun c1 => ?_)
  · refine lv_goto (tgt := 1171) hx hb dL_law_292 (by decide) ?_
    exact W.widen (by show cells + 2 + 0 + 0 ≤ cells + 30; omega) (by show slots + 12 + 0 + 0 ≤ slots + 2200; omega) (K ad2 nc2 nt2 dy2 nl2 r mo2 I2 L2 h2 H locs ls hH_3 hS_3 hI2 hl3)
  · have hr0 : r = 0 := by first | exact c1 | exact Classical.not_not.mp c1
    refine lv_aload_n hx hb dL_law_281 rfl (lv_at hl2 5 rfl) ?_
    refine lv_iconst (v := 0) hx hb dL_law_282 (by decide) ?_
    refine zr_lald C hH_3 (50, 0, 0) (show (lwW cA (g 0) ad2 adm o nc2 nt2 dy2 nl2 r mo2 I2 L2 h2).2.1 (50, 0, 0) from rfl) (f := h2) rfl 1 rfl (j := 0) rfl (by decide) (by decide) dL_law_283 ?_
    refine lv_lload hx hb dL_law_284 (lv_at hl2 0 rfl) ?_
    refine zl_cmp_eq (tgt := 292) hx hb dL_law_286 dL_law_287 (by decide) (fun _ => ?_) (fun c2 => absurd (hv hr0) c2)
    refine lv_goto (tgt := 1171) hx hb dL_law_292 (by decide) ?_
    exact W.widen (by show cells + 2 + 0 + 0 ≤ cells + 30; omega) (by show slots + 12 + 0 + 0 ≤ slots + 2200; omega) (K ad2 nc2 nt2 dy2 nl2 r mo2 I2 L2 h2 H locs ls hH_3 hS_3 hI2 hl3)
set_option maxHeartbeats 2000000 in
set_option maxRecDepth 100000 in
theorem lw_goal (C : zC p l m c cL_law 8 s #[.ref sb] wsL_law RL D (zt cA) A g meth) (hst : l.stackTraces = false) (hX : va_X sb L0 xs s s.heap) (hbl : sb < s.heap.size) (hbA : ¬ A sb) (hi : i + 5 ≤ L0) (hL0 : L0 ≤ 2560) (hI : zInv nc nt dy b I L) (hb8 : b ≤ 8000) (hH : zk_H D A (lwW cA (g 0) ad adm o nc nt dy nl th mo I L h) H) (hS : va_S A s.heap H locs) (hl : lv_has ls 8 [(0, .ref sb), (1, .ref (ad (0, 0, 0))), (2, .ref (adm (0, 0, 0))), (3, .ref o), (4, .int (nI i))]) (hc : cells + 30 ≤ 601024) (hs : slots + 2200 ≤ 7293034) (K : lwK p l e s m below meth c D cA A g sb i o (b + 12) adm (cells + 30) (slots + 2200) Q) : W p l e room_1 s m #[.ref sb] below meth c H locs cells slots Q (F0 m 295 ls []) := by
  obtain ⟨⟨hx, hb, hml, hown, hts⟩, hG, hlk⟩ := id C
  obtain ⟨hnc, hnt, hdy⟩ := hI.1
  have hpr := hI.pr
  obtain ⟨h11, h12, h16, hT11, h17⟩ := hI.t
  have hB := hI.2.2.2.2.2.2.2.2
  refine lv_aload_n hx hb dL_law_295 rfl (lv_at hl 1 rfl) ?_
  refine lv_aload_n hx hb dL_law_296 rfl (lv_at hl 0 rfl) ?_
  refine lv_iload hx hb dL_law_297 (lv_at hl 4 rfl) ?_
  refine lv_iconst (v := 1) hx hb dL_law_299 (by decide) ?_
  refine lv_iadd hx hb dL_law_300 ?_
  refine lw_ld (j := 1) hx hb hX hbl hbA hS hi hL0 (by decide) dL_law_301 ?_
  refine lv_aload_n hx hb dL_law_302 rfl (lv_at hl 0 rfl) ?_
  refine lv_iload hx hb dL_law_303 (lv_at hl 4 rfl) ?_
  refine lv_iconst (v := 2) hx hb dL_law_305 (by decide) ?_
  refine lv_iadd hx hb dL_law_306 ?_
  refine lw_ld (j := 2) hx hb hX hbl hbA hS hi hL0 (by decide) dL_law_307 ?_
  refine lv_aload_n hx hb dL_law_308 rfl (lv_at hl 0 rfl) ?_
  refine lv_iload hx hb dL_law_309 (lv_at hl 4 rfl) ?_
  refine lv_iconst (v := 3) hx hb dL_law_311 (by decide) ?_
  refine lv_iadd hx hb dL_law_312 ?_
  refine lw_ld (j := 3) hx hb hX hbl hbA hS hi hL0 (by decide) dL_law_313 ?_
  refine lv_aload_n hx hb dL_law_314 rfl (lv_at hl 3 rfl) ?_
  have hcls := (fun A => cC_goal l hst D cA A g ad nc nt dy mo I L (xs (i + 1)) (xs (i + 2)) (xs (i + 3)) hnc)
  have hw := zM_sumL (n := 100) (w2 := mw cA adm dy nc nt nl th mo I L) (cW_goal l D cA g (cw cA (g 0) ad 6 nc nc 6 nt dy mo I L) rfl rfl cw_lt o h _ _ (xs (i + 1)) (xs (i + 2)) (xs (i + 3)) hcls (by
      intro E w' hp
      rcases hp with ⟨-, ⟨-, e⟩ | ⟨-, -, -, e⟩ | ⟨_, _, -, -, -, -, -, -, e⟩⟩
      · exact Or.inl e
      · exact Or.inr (Or.inl e)
      · exact Or.inr (Or.inr e))) sum50_lt A
  refine zk_c (zk_rSH (w := lwW cA (g 0) ad adm o nc nt dy nl th mo I L h) (As := [.ref (ad (0, 0, 0)), .int (xs (i + 1)), .int (xs (i + 2)), .int (xs (i + 3)), .ref o]) (rest := []) (n := 5) C hw hH hS gL_law_L_goal rfl rfl (by decide +kernel) ⟨Nat.le_of_ble_eq_true rfl, Nat.le_of_ble_eq_true rfl⟩ hl rfl (Nat.le_of_ble_eq_true rfl) dL_law_315 ⟨by show cells + 3 ≤ 601024; omega, by show slots + 18 ≤ 7293034; omega⟩) hS (fun v_ W_ H locs hP hH_1 hS_1 => ?_)
  obtain ⟨W1, ⟨r, rfl, hC⟩, rfl⟩ := hP
  refine W.eq (g2 := F0 m 318 ls [.int r]) rfl ?_
  have hk1 : ∀ k, W1.2.1 k → k.1 < 100 := by
    rcases hC with ⟨_, _, _, _, rfl⟩ | ⟨_, _, _, rfl⟩ | ⟨_, _, _, rfl⟩ | ⟨_, _, _, rfl⟩ <;> exact sum50_lt
  refine lv_istore (lv' := [(5, .int r), (0, .ref sb), (1, .ref (ad (0, 0, 0))), (2, .ref (adm (0, 0, 0))), (3, .ref o), (4, .int (nI i))]) hx hb dL_law_318 hl (by decide) rfl (fun ls hl1 => ?_)
  refine lv_aload_n hx hb dL_law_320 rfl (lv_at hl1 3 rfl) ?_
  refine lv_aload_n hx hb dL_law_321 rfl (lv_at hl1 1 rfl) ?_
  refine lv_iload hx hb dL_law_322 (lv_at hl1 5 rfl) ?_
  refine lv_iconst (v := 1) hx hb dL_law_324 (by decide) ?_
  refine lv_iadd hx hb dL_law_325 ?_
  refine lw_ld (j := 1) hx hb hX hbl hbA hS_1 hi hL0 (by decide) dL_law_326 ?_
  refine lv_aload_n hx hb dL_law_327 rfl (lv_at hl1 1 rfl) ?_
  refine lv_iload hx hb dL_law_328 (lv_at hl1 5 rfl) ?_
  refine lv_iconst (v := 2) hx hb dL_law_330 (by decide) ?_
  refine lv_iadd hx hb dL_law_331 ?_
  refine lw_ld (j := 2) hx hb hX hbl hbA hS_1 hi hL0 (by decide) dL_law_332 ?_
  refine lv_aload_n hx hb dL_law_333 rfl (lv_at hl1 1 rfl) ?_
  refine lv_iload hx hb dL_law_334 (lv_at hl1 5 rfl) ?_
  refine lv_iconst (v := 3) hx hb dL_law_336 (by decide) ?_
  refine lv_iadd hx hb dL_law_337 ?_
  refine lw_ld (j := 3) hx hb hX hbl hbA hS_1 hi hL0 (by decide) dL_law_338 ?_
  have hm : zM l yX5_goal wsX5_goal rmM_goal D (zt cA) A g (.ref ((zk_sum 100 W1 (mw cA adm dy nc nt nl th mo I L)).1 (100, 0, 0)) :: [.int (xs (i + 1)), .int (xs (i + 2)), .int (xs (i + 3))]) (zk_sum 100 W1 (mw cA adm dy nc nt nl th mo I L)) _ := zM_sumR (n := 100) (w1 := W1) (fun A => cM_goal l D cA A g adm dy nc nt nl th mo I L (xs (i + 1)) (xs (i + 2)) (xs (i + 3)) hnc) hk1 A
  refine zk_c (zk_rV (w := zk_sum 100 W1 (mw cA adm dy nc nt nl th mo I L)) (As := [.int (xs (i + 1)), .int (xs (i + 2)), .int (xs (i + 3))]) (rest := []) (n := 3) (k := (100, 0, 0)) C hm hH_1 hS_1 (show (zk_sum 100 W1 (mw cA adm dy nc nt nl th mo I L)).2.1 (100, 0, 0) from mL_o) rfl rfl gL_law_X5_goal rfl rfl (by decide +kernel) ⟨Nat.le_of_ble_eq_true rfl, Nat.le_of_ble_eq_true rfl⟩ hl1 rfl (Nat.le_of_ble_eq_true rfl) dL_law_339 ⟨by show cells + 3 + 0 ≤ 601024; omega, by show slots + 18 + 0 ≤ 7293034; omega⟩) hS_1 (fun v_ W_ H locs hP hH_2 hS_2 => ?_)
  obtain ⟨w2, ⟨x, rfl, hM⟩, rfl⟩ := hP
  refine W.eq (g2 := F0 m 342 ls [.int x]) rfl ?_
  obtain ⟨ad2, nc2, nt2, dy2, nl2, mo2, I2, L2, h2, hA, rfl, rfl, hI2, hv⟩ := tn_goal hI hb8 (xs (i + 1)) (xs (i + 2)) (xs (i + 3)) hC hM
  refine lv_istore (lv' := [(6, .int x), (5, .int r), (0, .ref sb), (1, .ref (ad (0, 0, 0))), (2, .ref (adm (0, 0, 0))), (3, .ref o), (4, .int (nI i))]) hx hb dL_law_342 hl1 (by decide) rfl (fun ls hl2 => ?_)
  refine lv_aload_n hx hb dL_law_344 rfl (lv_at hl2 4 rfl) ?_
  have ht : zM l yX5_thrown wsX5_thrown rmM_thrown D (zt cA) A g (.ref ((lwW cA (g 0) ad2 adm o nc2 nt2 dy2 nl2 r mo2 I2 L2 h2).1 (100, 0, 0)) :: []) (lwW cA (g 0) ad2 adm o nc2 nt2 dy2 nl2 r mo2 I2 L2 h2) _ := zM_sumR (n := 100) (w1 := zk_sum 50 (cw cA (g 0) ad2 6 nc2 nc2 6 nt2 dy2 mo2 I2 L2) (outW cA o h2)) (fun A => cM_thrown l D cA A g adm dy2 nc2 nt2 nl2 r mo2 I2 L2) sum50_lt A
  refine zk_c (zk_rV (w := lwW cA (g 0) ad2 adm o nc2 nt2 dy2 nl2 r mo2 I2 L2 h2) (As := []) (rest := []) (n := 0) (k := (100, 0, 0)) C ht hH_2 hS_2 (show (lwW cA (g 0) ad2 adm o nc2 nt2 dy2 nl2 r mo2 I2 L2 h2).2.1 (100, 0, 0) from mL_o) rfl rfl gL_law_X5_thrown rfl rfl (by decide +kernel) ⟨Nat.le_of_ble_eq_true rfl, Nat.le_of_ble_eq_true rfl⟩ hl2 rfl (Nat.le_of_ble_eq_true rfl) dL_law_345 ⟨by show cells + 3 + 0 + 0 ≤ 601024; omega, by show slots + 18 + 0 + 0 ≤ 7293034; omega⟩) hS_2 (fun v_ W_ H locs hP hH_3 hS_3 => ?_)
  obtain ⟨w3, ⟨r3, rfl, rfl, rfl⟩, rfl⟩ := hP
  refine W.eq (g2 := F0 m 348 ls [.int r]) rfl ?_
  have hl3 := lv_sub hl2 [2, 3, 4, 5, 6] rfl
  rw [← hA] at hl3
  refine lv_iload hx hb dL_law_348 (lv_at hl2 1 rfl) ?_
  refine lv_icmp_eq (tgt := 355) hx hb dL_law_350 (by decide) (fun _ => ?_) (fun c9 => absurd rfl c9)
  refine lv_iload hx hb dL_law_355 (lv_at hl2 1 rfl) ?_
  refine lv_if_ne (tgt := 372) hx hb dL_law_357 (by decide) (fun c1 => ?_) (fun c1 => ?_)
  · refine lv_goto (tgt := 1171) hx hb dL_law_372 (by decide) ?_
    exact W.widen (by show cells + 3 + 0 + 0 ≤ cells + 30; omega) (by show slots + 18 + 0 + 0 ≤ slots + 2200; omega) (K ad2 nc2 nt2 dy2 nl2 r mo2 I2 L2 h2 H locs ls hH_3 hS_3 hI2 hl3)
  · have hr0 : r = 0 := by first | exact c1 | exact Classical.not_not.mp c1
    refine lv_aload_n hx hb dL_law_360 rfl (lv_at hl2 5 rfl) ?_
    refine lv_iconst (v := 0) hx hb dL_law_361 (by decide) ?_
    refine zr_lald C hH_3 (50, 0, 0) (show (lwW cA (g 0) ad2 adm o nc2 nt2 dy2 nl2 r mo2 I2 L2 h2).2.1 (50, 0, 0) from rfl) (f := h2) rfl 1 rfl (j := 0) rfl (by decide) (by decide) dL_law_362 ?_
    refine lv_iload hx hb dL_law_363 (lv_at hl2 0 rfl) ?_
    refine lv_i2l (v := Int32.toInt64 x) hx hb dL_law_365 rfl ?_
    refine zl_cmp_eq (tgt := 372) hx hb dL_law_366 dL_law_367 (by decide) (fun _ => ?_) (fun c2 => absurd (hv hr0) c2)
    refine lv_goto (tgt := 1171) hx hb dL_law_372 (by decide) ?_
    exact W.widen (by show cells + 3 + 0 + 0 ≤ cells + 30; omega) (by show slots + 18 + 0 + 0 ≤ slots + 2200; omega) (K ad2 nc2 nt2 dy2 nl2 r mo2 I2 L2 h2 H locs ls hH_3 hS_3 hI2 hl3)
set_option maxHeartbeats 2000000 in
set_option maxRecDepth 100000 in
theorem lw_buy (C : zC p l m c cL_law 8 s #[.ref sb] wsL_law RL D (zt cA) A g meth) (hst : l.stackTraces = false) (hX : va_X sb L0 xs s s.heap) (hbl : sb < s.heap.size) (hbA : ¬ A sb) (hi : i + 5 ≤ L0) (hL0 : L0 ≤ 2560) (hI : zInv nc nt dy b I L) (hb8 : b ≤ 8000) (hH : zk_H D A (lwW cA (g 0) ad adm o nc nt dy nl th mo I L h) H) (hS : va_S A s.heap H locs) (hl : lv_has ls 8 [(0, .ref sb), (1, .ref (ad (0, 0, 0))), (2, .ref (adm (0, 0, 0))), (3, .ref o), (4, .int (nI i))]) (hc : cells + 30 ≤ 601024) (hs : slots + 2200 ≤ 7293034) (K : lwK p l e s m below meth c D cA A g sb i o (b + 12) adm (cells + 30) (slots + 2200) Q) : W p l e room_1 s m #[.ref sb] below meth c H locs cells slots Q (F0 m 375 ls []) := by
  obtain ⟨⟨hx, hb, hml, hown, hts⟩, hG, hlk⟩ := id C
  obtain ⟨hnc, hnt, hdy⟩ := hI.1
  have hpr := hI.pr
  obtain ⟨h11, h12, h16, hT11, h17⟩ := hI.t
  have hB := hI.2.2.2.2.2.2.2.2
  refine lv_aload_n hx hb dL_law_375 rfl (lv_at hl 1 rfl) ?_
  refine lv_aload_n hx hb dL_law_376 rfl (lv_at hl 0 rfl) ?_
  refine lv_iload hx hb dL_law_377 (lv_at hl 4 rfl) ?_
  refine lv_iconst (v := 1) hx hb dL_law_379 (by decide) ?_
  refine lv_iadd hx hb dL_law_380 ?_
  refine lw_ld (j := 1) hx hb hX hbl hbA hS hi hL0 (by decide) dL_law_381 ?_
  refine lv_aload_n hx hb dL_law_382 rfl (lv_at hl 0 rfl) ?_
  refine lv_iload hx hb dL_law_383 (lv_at hl 4 rfl) ?_
  refine lv_iconst (v := 2) hx hb dL_law_385 (by decide) ?_
  refine lv_iadd hx hb dL_law_386 ?_
  refine lw_ld (j := 2) hx hb hX hbl hbA hS hi hL0 (by decide) dL_law_387 ?_
  refine lv_aload_n hx hb dL_law_388 rfl (lv_at hl 0 rfl) ?_
  refine lv_iload hx hb dL_law_389 (lv_at hl 4 rfl) ?_
  refine lv_iconst (v := 3) hx hb dL_law_391 (by decide) ?_
  refine lv_iadd hx hb dL_law_392 ?_
  refine lw_ld (j := 3) hx hb hX hbl hbA hS hi hL0 (by decide) dL_law_393 ?_
  refine lv_aload_n hx hb dL_law_394 rfl (lv_at hl 3 rfl) ?_
  have hcls := (fun A => cC_buy l hst D cA A g ad nc nt dy mo I L (xs (i + 1)) (xs (i + 2)) (xs (i + 3)) hpr hnt hnc hdy h11 h12 h16)
  have hw := zM_sumL (n := 100) (w2 := mw cA adm dy nc nt nl th mo I L) (cW_buy l D cA g (cw cA (g 0) ad 6 nc nc 6 nt dy mo I L) rfl rfl cw_lt o h _ _ (xs (i + 1)) (xs (i + 2)) (xs (i + 3)) hcls (by
      intro E w' hp
      rcases hp with ⟨-, ⟨-, e⟩ | ⟨-, -, -, e⟩ | ⟨_, _, -, -, -, -, -, -, e⟩⟩
      · exact Or.inl e
      · exact Or.inr (Or.inl e)
      · exact Or.inr (Or.inr e))) sum50_lt A
  refine zk_c (zk_rSH (w := lwW cA (g 0) ad adm o nc nt dy nl th mo I L h) (As := [.ref (ad (0, 0, 0)), .int (xs (i + 1)), .int (xs (i + 2)), .int (xs (i + 3)), .ref o]) (rest := []) (n := 5) C hw hH hS gL_law_L_buy rfl rfl (by decide +kernel) ⟨Nat.le_of_ble_eq_true rfl, Nat.le_of_ble_eq_true rfl⟩ hl rfl (Nat.le_of_ble_eq_true rfl) dL_law_395 ⟨by show cells + 4 ≤ 601024; omega, by show slots + 184 ≤ 7293034; omega⟩) hS (fun v_ W_ H locs hP hH_1 hS_1 => ?_)
  obtain ⟨W1, ⟨r, rfl, hC⟩, rfl⟩ := hP
  refine W.eq (g2 := F0 m 398 ls [.int r]) rfl ?_
  have hk1 : ∀ k, W1.2.1 k → k.1 < 100 := by
    rcases hC with ⟨_, _, _, _, rfl⟩ | ⟨_, _, _, rfl⟩ | ⟨_, _, _, rfl⟩ | ⟨_, _, _, rfl⟩ <;> exact sum50_lt
  refine lv_istore (lv' := [(5, .int r), (0, .ref sb), (1, .ref (ad (0, 0, 0))), (2, .ref (adm (0, 0, 0))), (3, .ref o), (4, .int (nI i))]) hx hb dL_law_398 hl (by decide) rfl (fun ls hl1 => ?_)
  refine lv_aload_n hx hb dL_law_400 rfl (lv_at hl1 3 rfl) ?_
  refine lv_aload_n hx hb dL_law_401 rfl (lv_at hl1 1 rfl) ?_
  refine lv_iload hx hb dL_law_402 (lv_at hl1 5 rfl) ?_
  refine lv_iconst (v := 1) hx hb dL_law_404 (by decide) ?_
  refine lv_iadd hx hb dL_law_405 ?_
  refine lw_ld (j := 1) hx hb hX hbl hbA hS_1 hi hL0 (by decide) dL_law_406 ?_
  refine lv_aload_n hx hb dL_law_407 rfl (lv_at hl1 1 rfl) ?_
  refine lv_iload hx hb dL_law_408 (lv_at hl1 5 rfl) ?_
  refine lv_iconst (v := 2) hx hb dL_law_410 (by decide) ?_
  refine lv_iadd hx hb dL_law_411 ?_
  refine lw_ld (j := 2) hx hb hX hbl hbA hS_1 hi hL0 (by decide) dL_law_412 ?_
  refine lv_aload_n hx hb dL_law_413 rfl (lv_at hl1 1 rfl) ?_
  refine lv_iload hx hb dL_law_414 (lv_at hl1 5 rfl) ?_
  refine lv_iconst (v := 3) hx hb dL_law_416 (by decide) ?_
  refine lv_iadd hx hb dL_law_417 ?_
  refine lw_ld (j := 3) hx hb hX hbl hbA hS_1 hi hL0 (by decide) dL_law_418 ?_
  have hm : zM l yX5_buy wsX5_buy rmM_buy D (zt cA) A g (.ref ((zk_sum 100 W1 (mw cA adm dy nc nt nl th mo I L)).1 (100, 0, 0)) :: [.int (xs (i + 1)), .int (xs (i + 2)), .int (xs (i + 3))]) (zk_sum 100 W1 (mw cA adm dy nc nt nl th mo I L)) _ := zM_sumR (n := 100) (w1 := W1) (fun A => cM_buy l D cA A g adm dy nc nt nl th mo I L (xs (i + 1)) (xs (i + 2)) (xs (i + 3)) hnc hnt hpr) hk1 A
  refine zk_c (zk_rV (w := zk_sum 100 W1 (mw cA adm dy nc nt nl th mo I L)) (As := [.int (xs (i + 1)), .int (xs (i + 2)), .int (xs (i + 3))]) (rest := []) (n := 3) (k := (100, 0, 0)) C hm hH_1 hS_1 (show (zk_sum 100 W1 (mw cA adm dy nc nt nl th mo I L)).2.1 (100, 0, 0) from mL_o) rfl rfl gL_law_X5_buy rfl rfl (by decide +kernel) ⟨Nat.le_of_ble_eq_true rfl, Nat.le_of_ble_eq_true rfl⟩ hl1 rfl (Nat.le_of_ble_eq_true rfl) dL_law_419 ⟨by show cells + 4 + 0 ≤ 601024; omega, by show slots + 184 + 0 ≤ 7293034; omega⟩) hS_1 (fun v_ W_ H locs hP hH_2 hS_2 => ?_)
  obtain ⟨w2, ⟨x, rfl, hM⟩, rfl⟩ := hP
  refine W.eq (g2 := F0 m 422 ls [.int x]) rfl ?_
  obtain ⟨ad2, nc2, nt2, dy2, nl2, mo2, I2, L2, h2, hA, rfl, rfl, hI2, hv⟩ := tn_buy hI hb8 (xs (i + 1)) (xs (i + 2)) (xs (i + 3)) hC hM
  refine lv_istore (lv' := [(6, .int x), (5, .int r), (0, .ref sb), (1, .ref (ad (0, 0, 0))), (2, .ref (adm (0, 0, 0))), (3, .ref o), (4, .int (nI i))]) hx hb dL_law_422 hl1 (by decide) rfl (fun ls hl2 => ?_)
  refine lv_aload_n hx hb dL_law_424 rfl (lv_at hl2 4 rfl) ?_
  have ht : zM l yX5_thrown wsX5_thrown rmM_thrown D (zt cA) A g (.ref ((lwW cA (g 0) ad2 adm o nc2 nt2 dy2 nl2 r mo2 I2 L2 h2).1 (100, 0, 0)) :: []) (lwW cA (g 0) ad2 adm o nc2 nt2 dy2 nl2 r mo2 I2 L2 h2) _ := zM_sumR (n := 100) (w1 := zk_sum 50 (cw cA (g 0) ad2 6 nc2 nc2 6 nt2 dy2 mo2 I2 L2) (outW cA o h2)) (fun A => cM_thrown l D cA A g adm dy2 nc2 nt2 nl2 r mo2 I2 L2) sum50_lt A
  refine zk_c (zk_rV (w := lwW cA (g 0) ad2 adm o nc2 nt2 dy2 nl2 r mo2 I2 L2 h2) (As := []) (rest := []) (n := 0) (k := (100, 0, 0)) C ht hH_2 hS_2 (show (lwW cA (g 0) ad2 adm o nc2 nt2 dy2 nl2 r mo2 I2 L2 h2).2.1 (100, 0, 0) from mL_o) rfl rfl gL_law_X5_thrown rfl rfl (by decide +kernel) ⟨Nat.le_of_ble_eq_true rfl, Nat.le_of_ble_eq_true rfl⟩ hl2 rfl (Nat.le_of_ble_eq_true rfl) dL_law_425 ⟨by show cells + 4 + 0 + 0 ≤ 601024; omega, by show slots + 184 + 0 + 0 ≤ 7293034; omega⟩) hS_2 (fun v_ W_ H locs hP hH_3 hS_3 => ?_)
  obtain ⟨w3, ⟨r3, rfl, rfl, rfl⟩, rfl⟩ := hP
  refine W.eq (g2 := F0 m 428 ls [.int r]) rfl ?_
  have hl3 := lv_sub hl2 [2, 3, 4, 5, 6] rfl
  rw [← hA] at hl3
  refine lv_iload hx hb dL_law_428 (lv_at hl2 1 rfl) ?_
  refine lv_icmp_eq (tgt := 435) hx hb dL_law_430 (by decide) (fun _ => ?_) (fun c9 => absurd rfl c9)
  refine lv_iload hx hb dL_law_435 (lv_at hl2 1 rfl) ?_
  refine lv_if_ne (tgt := 452) hx hb dL_law_437 (by decide) (fun c1 => ?_) (fun c1 => ?_)
  · refine lv_goto (tgt := 1171) hx hb dL_law_452 (by decide) ?_
    exact W.widen (by show cells + 4 + 0 + 0 ≤ cells + 30; omega) (by show slots + 184 + 0 + 0 ≤ slots + 2200; omega) (K ad2 nc2 nt2 dy2 nl2 r mo2 I2 L2 h2 H locs ls hH_3 hS_3 hI2 hl3)
  · have hr0 : r = 0 := by first | exact c1 | exact Classical.not_not.mp c1
    refine lv_aload_n hx hb dL_law_440 rfl (lv_at hl2 5 rfl) ?_
    refine lv_iconst (v := 0) hx hb dL_law_441 (by decide) ?_
    refine zr_lald C hH_3 (50, 0, 0) (show (lwW cA (g 0) ad2 adm o nc2 nt2 dy2 nl2 r mo2 I2 L2 h2).2.1 (50, 0, 0) from rfl) (f := h2) rfl 1 rfl (j := 0) rfl (by decide) (by decide) dL_law_442 ?_
    refine lv_iload hx hb dL_law_443 (lv_at hl2 0 rfl) ?_
    refine lv_i2l (v := Int32.toInt64 x) hx hb dL_law_445 rfl ?_
    refine zl_cmp_eq (tgt := 452) hx hb dL_law_446 dL_law_447 (by decide) (fun _ => ?_) (fun c2 => absurd (hv hr0) c2)
    refine lv_goto (tgt := 1171) hx hb dL_law_452 (by decide) ?_
    exact W.widen (by show cells + 4 + 0 + 0 ≤ cells + 30; omega) (by show slots + 184 + 0 + 0 ≤ slots + 2200; omega) (K ad2 nc2 nt2 dy2 nl2 r mo2 I2 L2 h2 H locs ls hH_3 hS_3 hI2 hl3)
set_option maxHeartbeats 2000000 in
set_option maxRecDepth 100000 in
theorem lw_sell (C : zC p l m c cL_law 8 s #[.ref sb] wsL_law RL D (zt cA) A g meth) (hst : l.stackTraces = false) (hX : va_X sb L0 xs s s.heap) (hbl : sb < s.heap.size) (hbA : ¬ A sb) (hi : i + 5 ≤ L0) (hL0 : L0 ≤ 2560) (hI : zInv nc nt dy b I L) (hb8 : b ≤ 8000) (hH : zk_H D A (lwW cA (g 0) ad adm o nc nt dy nl th mo I L h) H) (hS : va_S A s.heap H locs) (hl : lv_has ls 8 [(0, .ref sb), (1, .ref (ad (0, 0, 0))), (2, .ref (adm (0, 0, 0))), (3, .ref o), (4, .int (nI i))]) (hc : cells + 30 ≤ 601024) (hs : slots + 2200 ≤ 7293034) (K : lwK p l e s m below meth c D cA A g sb i o (b + 12) adm (cells + 30) (slots + 2200) Q) : W p l e room_1 s m #[.ref sb] below meth c H locs cells slots Q (F0 m 455 ls []) := by
  obtain ⟨⟨hx, hb, hml, hown, hts⟩, hG, hlk⟩ := id C
  obtain ⟨hnc, hnt, hdy⟩ := hI.1
  have hpr := hI.pr
  obtain ⟨h11, h12, h16, hT11, h17⟩ := hI.t
  have hB := hI.2.2.2.2.2.2.2.2
  refine lv_aload_n hx hb dL_law_455 rfl (lv_at hl 1 rfl) ?_
  refine lv_aload_n hx hb dL_law_456 rfl (lv_at hl 0 rfl) ?_
  refine lv_iload hx hb dL_law_457 (lv_at hl 4 rfl) ?_
  refine lv_iconst (v := 1) hx hb dL_law_459 (by decide) ?_
  refine lv_iadd hx hb dL_law_460 ?_
  refine lw_ld (j := 1) hx hb hX hbl hbA hS hi hL0 (by decide) dL_law_461 ?_
  refine lv_aload_n hx hb dL_law_462 rfl (lv_at hl 0 rfl) ?_
  refine lv_iload hx hb dL_law_463 (lv_at hl 4 rfl) ?_
  refine lv_iconst (v := 2) hx hb dL_law_465 (by decide) ?_
  refine lv_iadd hx hb dL_law_466 ?_
  refine lw_ld (j := 2) hx hb hX hbl hbA hS hi hL0 (by decide) dL_law_467 ?_
  refine lv_aload_n hx hb dL_law_468 rfl (lv_at hl 0 rfl) ?_
  refine lv_iload hx hb dL_law_469 (lv_at hl 4 rfl) ?_
  refine lv_iconst (v := 3) hx hb dL_law_471 (by decide) ?_
  refine lv_iadd hx hb dL_law_472 ?_
  refine lw_ld (j := 3) hx hb hX hbl hbA hS hi hL0 (by decide) dL_law_473 ?_
  refine lv_aload_n hx hb dL_law_474 rfl (lv_at hl 3 rfl) ?_
  have hcls := (fun A => cC_sell l hst D cA A g ad nc nt dy mo I L (xs (i + 1)) (xs (i + 2)) (xs (i + 3)) hpr hnt hnc hdy h11 h12 h16)
  have hw := zM_sumL (n := 100) (w2 := mw cA adm dy nc nt nl th mo I L) (cW_sell l D cA g (cw cA (g 0) ad 6 nc nc 6 nt dy mo I L) rfl rfl cw_lt o h _ _ (xs (i + 1)) (xs (i + 2)) (xs (i + 3)) hcls (by
      intro E w' hp
      rcases hp with ⟨-, ⟨-, e⟩ | ⟨-, -, -, e⟩ | ⟨_, _, -, -, -, -, -, -, e⟩⟩
      · exact Or.inl e
      · exact Or.inr (Or.inl e)
      · exact Or.inr (Or.inr e))) sum50_lt A
  refine zk_c (zk_rSH (w := lwW cA (g 0) ad adm o nc nt dy nl th mo I L h) (As := [.ref (ad (0, 0, 0)), .int (xs (i + 1)), .int (xs (i + 2)), .int (xs (i + 3)), .ref o]) (rest := []) (n := 5) C hw hH hS gL_law_L_sell rfl rfl (by decide +kernel) ⟨Nat.le_of_ble_eq_true rfl, Nat.le_of_ble_eq_true rfl⟩ hl rfl (Nat.le_of_ble_eq_true rfl) dL_law_475 ⟨by show cells + 4 ≤ 601024; omega, by show slots + 184 ≤ 7293034; omega⟩) hS (fun v_ W_ H locs hP hH_1 hS_1 => ?_)
  obtain ⟨W1, ⟨r, rfl, hC⟩, rfl⟩ := hP
  refine W.eq (g2 := F0 m 478 ls [.int r]) rfl ?_
  have hk1 : ∀ k, W1.2.1 k → k.1 < 100 := by
    rcases hC with ⟨_, _, _, _, rfl⟩ | ⟨_, _, _, rfl⟩ | ⟨_, _, _, rfl⟩ | ⟨_, _, _, rfl⟩ <;> exact sum50_lt
  refine lv_istore (lv' := [(5, .int r), (0, .ref sb), (1, .ref (ad (0, 0, 0))), (2, .ref (adm (0, 0, 0))), (3, .ref o), (4, .int (nI i))]) hx hb dL_law_478 hl (by decide) rfl (fun ls hl1 => ?_)
  refine lv_aload_n hx hb dL_law_480 rfl (lv_at hl1 3 rfl) ?_
  refine lv_aload_n hx hb dL_law_481 rfl (lv_at hl1 1 rfl) ?_
  refine lv_iload hx hb dL_law_482 (lv_at hl1 5 rfl) ?_
  refine lv_iconst (v := 1) hx hb dL_law_484 (by decide) ?_
  refine lv_iadd hx hb dL_law_485 ?_
  refine lw_ld (j := 1) hx hb hX hbl hbA hS_1 hi hL0 (by decide) dL_law_486 ?_
  refine lv_aload_n hx hb dL_law_487 rfl (lv_at hl1 1 rfl) ?_
  refine lv_iload hx hb dL_law_488 (lv_at hl1 5 rfl) ?_
  refine lv_iconst (v := 2) hx hb dL_law_490 (by decide) ?_
  refine lv_iadd hx hb dL_law_491 ?_
  refine lw_ld (j := 2) hx hb hX hbl hbA hS_1 hi hL0 (by decide) dL_law_492 ?_
  refine lv_aload_n hx hb dL_law_493 rfl (lv_at hl1 1 rfl) ?_
  refine lv_iload hx hb dL_law_494 (lv_at hl1 5 rfl) ?_
  refine lv_iconst (v := 3) hx hb dL_law_496 (by decide) ?_
  refine lv_iadd hx hb dL_law_497 ?_
  refine lw_ld (j := 3) hx hb hX hbl hbA hS_1 hi hL0 (by decide) dL_law_498 ?_
  have hm : zM l yX5_sell wsX5_sell rmM_sell D (zt cA) A g (.ref ((zk_sum 100 W1 (mw cA adm dy nc nt nl th mo I L)).1 (100, 0, 0)) :: [.int (xs (i + 1)), .int (xs (i + 2)), .int (xs (i + 3))]) (zk_sum 100 W1 (mw cA adm dy nc nt nl th mo I L)) _ := zM_sumR (n := 100) (w1 := W1) (fun A => cM_sell l D cA A g adm dy nc nt nl th mo I L (xs (i + 1)) (xs (i + 2)) (xs (i + 3)) hnc hnt) hk1 A
  refine zk_c (zk_rV (w := zk_sum 100 W1 (mw cA adm dy nc nt nl th mo I L)) (As := [.int (xs (i + 1)), .int (xs (i + 2)), .int (xs (i + 3))]) (rest := []) (n := 3) (k := (100, 0, 0)) C hm hH_1 hS_1 (show (zk_sum 100 W1 (mw cA adm dy nc nt nl th mo I L)).2.1 (100, 0, 0) from mL_o) rfl rfl gL_law_X5_sell rfl rfl (by decide +kernel) ⟨Nat.le_of_ble_eq_true rfl, Nat.le_of_ble_eq_true rfl⟩ hl1 rfl (Nat.le_of_ble_eq_true rfl) dL_law_499 ⟨by show cells + 4 + 0 ≤ 601024; omega, by show slots + 184 + 0 ≤ 7293034; omega⟩) hS_1 (fun v_ W_ H locs hP hH_2 hS_2 => ?_)
  obtain ⟨w2, ⟨x, rfl, hM⟩, rfl⟩ := hP
  refine W.eq (g2 := F0 m 502 ls [.int x]) rfl ?_
  obtain ⟨ad2, nc2, nt2, dy2, nl2, mo2, I2, L2, h2, hA, rfl, rfl, hI2, hv⟩ := tn_sell hI hb8 (xs (i + 1)) (xs (i + 2)) (xs (i + 3)) hC hM
  refine lv_istore (lv' := [(6, .int x), (5, .int r), (0, .ref sb), (1, .ref (ad (0, 0, 0))), (2, .ref (adm (0, 0, 0))), (3, .ref o), (4, .int (nI i))]) hx hb dL_law_502 hl1 (by decide) rfl (fun ls hl2 => ?_)
  refine lv_aload_n hx hb dL_law_504 rfl (lv_at hl2 4 rfl) ?_
  have ht : zM l yX5_thrown wsX5_thrown rmM_thrown D (zt cA) A g (.ref ((lwW cA (g 0) ad2 adm o nc2 nt2 dy2 nl2 r mo2 I2 L2 h2).1 (100, 0, 0)) :: []) (lwW cA (g 0) ad2 adm o nc2 nt2 dy2 nl2 r mo2 I2 L2 h2) _ := zM_sumR (n := 100) (w1 := zk_sum 50 (cw cA (g 0) ad2 6 nc2 nc2 6 nt2 dy2 mo2 I2 L2) (outW cA o h2)) (fun A => cM_thrown l D cA A g adm dy2 nc2 nt2 nl2 r mo2 I2 L2) sum50_lt A
  refine zk_c (zk_rV (w := lwW cA (g 0) ad2 adm o nc2 nt2 dy2 nl2 r mo2 I2 L2 h2) (As := []) (rest := []) (n := 0) (k := (100, 0, 0)) C ht hH_2 hS_2 (show (lwW cA (g 0) ad2 adm o nc2 nt2 dy2 nl2 r mo2 I2 L2 h2).2.1 (100, 0, 0) from mL_o) rfl rfl gL_law_X5_thrown rfl rfl (by decide +kernel) ⟨Nat.le_of_ble_eq_true rfl, Nat.le_of_ble_eq_true rfl⟩ hl2 rfl (Nat.le_of_ble_eq_true rfl) dL_law_505 ⟨by show cells + 4 + 0 + 0 ≤ 601024; omega, by show slots + 184 + 0 + 0 ≤ 7293034; omega⟩) hS_2 (fun v_ W_ H locs hP hH_3 hS_3 => ?_)
  obtain ⟨w3, ⟨r3, rfl, rfl, rfl⟩, rfl⟩ := hP
  refine W.eq (g2 := F0 m 508 ls [.int r]) rfl ?_
  have hl3 := lv_sub hl2 [2, 3, 4, 5, 6] rfl
  rw [← hA] at hl3
  refine lv_iload hx hb dL_law_508 (lv_at hl2 1 rfl) ?_
  refine lv_icmp_eq (tgt := 515) hx hb dL_law_510 (by decide) (fun _ => ?_) (fun c9 => absurd rfl c9)
  refine lv_iload hx hb dL_law_515 (lv_at hl2 1 rfl) ?_
  refine lv_if_ne (tgt := 532) hx hb dL_law_517 (by decide) (fun c1 => ?_) (fun c1 => ?_)
  · refine lv_goto (tgt := 1171) hx hb dL_law_532 (by decide) ?_
    exact W.widen (by show cells + 4 + 0 + 0 ≤ cells + 30; omega) (by show slots + 184 + 0 + 0 ≤ slots + 2200; omega) (K ad2 nc2 nt2 dy2 nl2 r mo2 I2 L2 h2 H locs ls hH_3 hS_3 hI2 hl3)
  · have hr0 : r = 0 := by first | exact c1 | exact Classical.not_not.mp c1
    refine lv_aload_n hx hb dL_law_520 rfl (lv_at hl2 5 rfl) ?_
    refine lv_iconst (v := 0) hx hb dL_law_521 (by decide) ?_
    refine zr_lald C hH_3 (50, 0, 0) (show (lwW cA (g 0) ad2 adm o nc2 nt2 dy2 nl2 r mo2 I2 L2 h2).2.1 (50, 0, 0) from rfl) (f := h2) rfl 1 rfl (j := 0) rfl (by decide) (by decide) dL_law_522 ?_
    refine lv_iload hx hb dL_law_523 (lv_at hl2 0 rfl) ?_
    refine lv_i2l (v := Int32.toInt64 x) hx hb dL_law_525 rfl ?_
    refine zl_cmp_eq (tgt := 532) hx hb dL_law_526 dL_law_527 (by decide) (fun _ => ?_) (fun c2 => absurd (hv hr0) c2)
    refine lv_goto (tgt := 1171) hx hb dL_law_532 (by decide) ?_
    exact W.widen (by show cells + 4 + 0 + 0 ≤ cells + 30; omega) (by show slots + 184 + 0 + 0 ≤ slots + 2200; omega) (K ad2 nc2 nt2 dy2 nl2 r mo2 I2 L2 h2 H locs ls hH_3 hS_3 hI2 hl3)
set_option maxHeartbeats 2000000 in
set_option maxRecDepth 100000 in
theorem lw_balance (C : zC p l m c cL_law 8 s #[.ref sb] wsL_law RL D (zt cA) A g meth) (hst : l.stackTraces = false) (hX : va_X sb L0 xs s s.heap) (hbl : sb < s.heap.size) (hbA : ¬ A sb) (hi : i + 5 ≤ L0) (hL0 : L0 ≤ 2560) (hI : zInv nc nt dy b I L) (hb8 : b ≤ 8000) (hH : zk_H D A (lwW cA (g 0) ad adm o nc nt dy nl th mo I L h) H) (hS : va_S A s.heap H locs) (hl : lv_has ls 8 [(0, .ref sb), (1, .ref (ad (0, 0, 0))), (2, .ref (adm (0, 0, 0))), (3, .ref o), (4, .int (nI i))]) (hc : cells + 30 ≤ 601024) (hs : slots + 2200 ≤ 7293034) (K : lwK p l e s m below meth c D cA A g sb i o (b + 12) adm (cells + 30) (slots + 2200) Q) : W p l e room_1 s m #[.ref sb] below meth c H locs cells slots Q (F0 m 535 ls []) := by
  obtain ⟨⟨hx, hb, hml, hown, hts⟩, hG, hlk⟩ := id C
  obtain ⟨hnc, hnt, hdy⟩ := hI.1
  have hpr := hI.pr
  obtain ⟨h11, h12, h16, hT11, h17⟩ := hI.t
  have hB := hI.2.2.2.2.2.2.2.2
  refine lv_aload_n hx hb dL_law_535 rfl (lv_at hl 1 rfl) ?_
  refine lv_aload_n hx hb dL_law_536 rfl (lv_at hl 0 rfl) ?_
  refine lv_iload hx hb dL_law_537 (lv_at hl 4 rfl) ?_
  refine lv_iconst (v := 1) hx hb dL_law_539 (by decide) ?_
  refine lv_iadd hx hb dL_law_540 ?_
  refine lw_ld (j := 1) hx hb hX hbl hbA hS hi hL0 (by decide) dL_law_541 ?_
  refine lv_aload_n hx hb dL_law_542 rfl (lv_at hl 3 rfl) ?_
  have hcls := (fun A => cC_balance l hst D cA A g ad nc nt dy mo I L (xs (i + 1)) hpr hnt hnc hdy h11 h12 h16)
  have hw := zM_sumL (n := 100) (w2 := mw cA adm dy nc nt nl th mo I L) (cW_balance l D cA g (cw cA (g 0) ad 6 nc nc 6 nt dy mo I L) rfl rfl cw_lt o h _ _ (xs (i + 1)) hcls (by
      intro E w' hp
      rcases hp with ⟨-, ⟨-, e⟩ | ⟨_, -, -, -, e⟩⟩
      · exact Or.inl e
      · exact Or.inr e)) sum50_lt A
  refine zk_c (zk_rSH (w := lwW cA (g 0) ad adm o nc nt dy nl th mo I L h) (As := [.ref (ad (0, 0, 0)), .int (xs (i + 1)), .ref o]) (rest := []) (n := 3) C hw hH hS gL_law_L_balance rfl rfl (by decide +kernel) ⟨Nat.le_of_ble_eq_true rfl, Nat.le_of_ble_eq_true rfl⟩ hl rfl (Nat.le_of_ble_eq_true rfl) dL_law_543 ⟨by show cells + 25 ≤ 601024; omega, by show slots + 2070 ≤ 7293034; omega⟩) hS (fun v_ W_ H locs hP hH_1 hS_1 => ?_)
  obtain ⟨W1, ⟨r, rfl, hC⟩, rfl⟩ := hP
  refine W.eq (g2 := F0 m 546 ls [.int r]) rfl ?_
  have hk1 : ∀ k, W1.2.1 k → k.1 < 100 := by
    rcases hC with ⟨_, _, _, _, rfl⟩ | ⟨_, _, _, rfl⟩ | ⟨_, _, _, rfl⟩ <;> exact sum50_lt
  refine lv_istore (lv' := [(5, .int r), (0, .ref sb), (1, .ref (ad (0, 0, 0))), (2, .ref (adm (0, 0, 0))), (3, .ref o), (4, .int (nI i))]) hx hb dL_law_546 hl (by decide) rfl (fun ls hl1 => ?_)
  refine lv_aload_n hx hb dL_law_548 rfl (lv_at hl1 3 rfl) ?_
  refine lv_aload_n hx hb dL_law_549 rfl (lv_at hl1 1 rfl) ?_
  refine lv_iload hx hb dL_law_550 (lv_at hl1 5 rfl) ?_
  refine lv_iconst (v := 1) hx hb dL_law_552 (by decide) ?_
  refine lv_iadd hx hb dL_law_553 ?_
  refine lw_ld (j := 1) hx hb hX hbl hbA hS_1 hi hL0 (by decide) dL_law_554 ?_
  have hm : zM l yX5_balance wsX5_balance rmM_balance D (zt cA) A g (.ref ((zk_sum 100 W1 (mw cA adm dy nc nt nl th mo I L)).1 (100, 0, 0)) :: [.int (xs (i + 1))]) (zk_sum 100 W1 (mw cA adm dy nc nt nl th mo I L)) _ := zM_sumR (n := 100) (w1 := W1) (fun A => cM_balance l D cA A g adm dy nc nt nl th mo I L (xs (i + 1)) hnc hnt hpr) hk1 A
  refine zk_c (zk_rV (w := zk_sum 100 W1 (mw cA adm dy nc nt nl th mo I L)) (As := [.int (xs (i + 1))]) (rest := []) (n := 1) (k := (100, 0, 0)) C hm hH_1 hS_1 (show (zk_sum 100 W1 (mw cA adm dy nc nt nl th mo I L)).2.1 (100, 0, 0) from mL_o) rfl rfl gL_law_X5_balance rfl rfl (by decide +kernel) ⟨Nat.le_of_ble_eq_true rfl, Nat.le_of_ble_eq_true rfl⟩ hl1 rfl (Nat.le_of_ble_eq_true rfl) dL_law_555 ⟨by show cells + 25 + 0 ≤ 601024; omega, by show slots + 2070 + 0 ≤ 7293034; omega⟩) hS_1 (fun v_ W_ H locs hP hH_2 hS_2 => ?_)
  obtain ⟨w2, ⟨x, rfl, hM⟩, rfl⟩ := hP
  refine W.eq (g2 := F0 m 558 ls [.int x]) rfl ?_
  obtain ⟨ad2, nc2, nt2, dy2, nl2, mo2, I2, L2, h2, hA, rfl, rfl, hI2, hv⟩ := tn_balance hI hb8 (xs (i + 1)) hC hM
  refine lv_istore (lv' := [(6, .int x), (5, .int r), (0, .ref sb), (1, .ref (ad (0, 0, 0))), (2, .ref (adm (0, 0, 0))), (3, .ref o), (4, .int (nI i))]) hx hb dL_law_558 hl1 (by decide) rfl (fun ls hl2 => ?_)
  refine lv_aload_n hx hb dL_law_560 rfl (lv_at hl2 4 rfl) ?_
  have ht : zM l yX5_thrown wsX5_thrown rmM_thrown D (zt cA) A g (.ref ((lwW cA (g 0) ad2 adm o nc2 nt2 dy2 nl2 r mo2 I2 L2 h2).1 (100, 0, 0)) :: []) (lwW cA (g 0) ad2 adm o nc2 nt2 dy2 nl2 r mo2 I2 L2 h2) _ := zM_sumR (n := 100) (w1 := zk_sum 50 (cw cA (g 0) ad2 6 nc2 nc2 6 nt2 dy2 mo2 I2 L2) (outW cA o h2)) (fun A => cM_thrown l D cA A g adm dy2 nc2 nt2 nl2 r mo2 I2 L2) sum50_lt A
  refine zk_c (zk_rV (w := lwW cA (g 0) ad2 adm o nc2 nt2 dy2 nl2 r mo2 I2 L2 h2) (As := []) (rest := []) (n := 0) (k := (100, 0, 0)) C ht hH_2 hS_2 (show (lwW cA (g 0) ad2 adm o nc2 nt2 dy2 nl2 r mo2 I2 L2 h2).2.1 (100, 0, 0) from mL_o) rfl rfl gL_law_X5_thrown rfl rfl (by decide +kernel) ⟨Nat.le_of_ble_eq_true rfl, Nat.le_of_ble_eq_true rfl⟩ hl2 rfl (Nat.le_of_ble_eq_true rfl) dL_law_561 ⟨by show cells + 25 + 0 + 0 ≤ 601024; omega, by show slots + 2070 + 0 + 0 ≤ 7293034; omega⟩) hS_2 (fun v_ W_ H locs hP hH_3 hS_3 => ?_)
  obtain ⟨w3, ⟨r3, rfl, rfl, rfl⟩, rfl⟩ := hP
  refine W.eq (g2 := F0 m 564 ls [.int r]) rfl ?_
  have hl3 := lv_sub hl2 [2, 3, 4, 5, 6] rfl
  rw [← hA] at hl3
  refine lv_iload hx hb dL_law_564 (lv_at hl2 1 rfl) ?_
  refine lv_icmp_eq (tgt := 571) hx hb dL_law_566 (by decide) (fun _ => ?_) (fun c9 => absurd rfl c9)
  refine lv_iload hx hb dL_law_571 (lv_at hl2 1 rfl) ?_
  refine lv_if_ne (tgt := 588) hx hb dL_law_573 (by decide) (fun c1 => ?_) (fun c1 => ?_)
  · refine lv_goto (tgt := 1171) hx hb dL_law_588 (by decide) ?_
    exact W.widen (by show cells + 25 + 0 + 0 ≤ cells + 30; omega) (by show slots + 2070 + 0 + 0 ≤ slots + 2200; omega) (K ad2 nc2 nt2 dy2 nl2 r mo2 I2 L2 h2 H locs ls hH_3 hS_3 hI2 hl3)
  · have hr0 : r = 0 := by first | exact c1 | exact Classical.not_not.mp c1
    refine lv_aload_n hx hb dL_law_576 rfl (lv_at hl2 5 rfl) ?_
    refine lv_iconst (v := 0) hx hb dL_law_577 (by decide) ?_
    refine zr_lald C hH_3 (50, 0, 0) (show (lwW cA (g 0) ad2 adm o nc2 nt2 dy2 nl2 r mo2 I2 L2 h2).2.1 (50, 0, 0) from rfl) (f := h2) rfl 1 rfl (j := 0) rfl (by decide) (by decide) dL_law_578 ?_
    refine lv_iload hx hb dL_law_579 (lv_at hl2 0 rfl) ?_
    refine lv_i2l (v := Int32.toInt64 x) hx hb dL_law_581 rfl ?_
    refine zl_cmp_eq (tgt := 588) hx hb dL_law_582 dL_law_583 (by decide) (fun _ => ?_) (fun c2 => absurd (hv hr0) c2)
    refine lv_goto (tgt := 1171) hx hb dL_law_588 (by decide) ?_
    exact W.widen (by show cells + 25 + 0 + 0 ≤ cells + 30; omega) (by show slots + 2070 + 0 + 0 ≤ slots + 2200; omega) (K ad2 nc2 nt2 dy2 nl2 r mo2 I2 L2 h2 H locs ls hH_3 hS_3 hI2 hl3)
set_option maxHeartbeats 2000000 in
set_option maxRecDepth 100000 in
theorem lw_complain (C : zC p l m c cL_law 8 s #[.ref sb] wsL_law RL D (zt cA) A g meth) (hst : l.stackTraces = false) (hX : va_X sb L0 xs s s.heap) (hbl : sb < s.heap.size) (hbA : ¬ A sb) (hi : i + 5 ≤ L0) (hL0 : L0 ≤ 2560) (hI : zInv nc nt dy b I L) (hb8 : b ≤ 8000) (hH : zk_H D A (lwW cA (g 0) ad adm o nc nt dy nl th mo I L h) H) (hS : va_S A s.heap H locs) (hl : lv_has ls 8 [(0, .ref sb), (1, .ref (ad (0, 0, 0))), (2, .ref (adm (0, 0, 0))), (3, .ref o), (4, .int (nI i))]) (hc : cells + 30 ≤ 601024) (hs : slots + 2200 ≤ 7293034) (K : lwK p l e s m below meth c D cA A g sb i o (b + 12) adm (cells + 30) (slots + 2200) Q) : W p l e room_1 s m #[.ref sb] below meth c H locs cells slots Q (F0 m 591 ls []) := by
  obtain ⟨⟨hx, hb, hml, hown, hts⟩, hG, hlk⟩ := id C
  obtain ⟨hnc, hnt, hdy⟩ := hI.1
  have hpr := hI.pr
  obtain ⟨h11, h12, h16, hT11, h17⟩ := hI.t
  have hB := hI.2.2.2.2.2.2.2.2
  refine lv_aload_n hx hb dL_law_591 rfl (lv_at hl 1 rfl) ?_
  refine lv_aload_n hx hb dL_law_592 rfl (lv_at hl 0 rfl) ?_
  refine lv_iload hx hb dL_law_593 (lv_at hl 4 rfl) ?_
  refine lv_iconst (v := 1) hx hb dL_law_595 (by decide) ?_
  refine lv_iadd hx hb dL_law_596 ?_
  refine lw_ld (j := 1) hx hb hX hbl hbA hS hi hL0 (by decide) dL_law_597 ?_
  refine lv_aload_n hx hb dL_law_598 rfl (lv_at hl 3 rfl) ?_
  have hcls := (fun A => cC_complain l hst D cA A g ad nc nt dy mo I L (xs (i + 1)) hdy hnt hnc h11 h12 h16)
  have hw := zM_sumL (n := 100) (w2 := mw cA adm dy nc nt nl th mo I L) (cW_complain l D cA g (cw cA (g 0) ad 6 nc nc 6 nt dy mo I L) rfl rfl cw_lt o h _ _ (xs (i + 1)) hcls (by
      intro E w' hp
      rcases hp with ⟨-, ⟨-, e⟩ | ⟨_, -, -, -, e⟩⟩
      · exact Or.inl e
      · exact Or.inr e)) sum50_lt A
  refine zk_c (zk_rSH (w := lwW cA (g 0) ad adm o nc nt dy nl th mo I L h) (As := [.ref (ad (0, 0, 0)), .int (xs (i + 1)), .ref o]) (rest := []) (n := 3) C hw hH hS gL_law_L_complain rfl rfl (by decide +kernel) ⟨Nat.le_of_ble_eq_true rfl, Nat.le_of_ble_eq_true rfl⟩ hl rfl (Nat.le_of_ble_eq_true rfl) dL_law_599 ⟨by show cells + 2 ≤ 601024; omega, by show slots + 12 ≤ 7293034; omega⟩) hS (fun v_ W_ H locs hP hH_1 hS_1 => ?_)
  obtain ⟨W1, ⟨r, rfl, hC⟩, rfl⟩ := hP
  refine W.eq (g2 := F0 m 602 ls [.int r]) rfl ?_
  have hk1 : ∀ k, W1.2.1 k → k.1 < 100 := by
    rcases hC with ⟨_, _, _, _, rfl⟩ | ⟨_, _, _, rfl⟩ | ⟨_, _, _, rfl⟩ <;> exact sum50_lt
  refine lv_istore (lv' := [(5, .int r), (0, .ref sb), (1, .ref (ad (0, 0, 0))), (2, .ref (adm (0, 0, 0))), (3, .ref o), (4, .int (nI i))]) hx hb dL_law_602 hl (by decide) rfl (fun ls hl1 => ?_)
  refine lv_aload_n hx hb dL_law_604 rfl (lv_at hl1 3 rfl) ?_
  refine lv_aload_n hx hb dL_law_605 rfl (lv_at hl1 1 rfl) ?_
  refine lv_iload hx hb dL_law_606 (lv_at hl1 5 rfl) ?_
  refine lv_iconst (v := 1) hx hb dL_law_608 (by decide) ?_
  refine lv_iadd hx hb dL_law_609 ?_
  refine lw_ld (j := 1) hx hb hX hbl hbA hS_1 hi hL0 (by decide) dL_law_610 ?_
  have hm : zM l yX5_complain wsX5_complain rmM_complain D (zt cA) A g (.ref ((zk_sum 100 W1 (mw cA adm dy nc nt nl th mo I L)).1 (100, 0, 0)) :: [.int (xs (i + 1))]) (zk_sum 100 W1 (mw cA adm dy nc nt nl th mo I L)) _ := zM_sumR (n := 100) (w1 := W1) (fun A => cM_complain l D cA A g adm dy nc nt nl th mo I L (xs (i + 1)) hnt hdy h17 hT11 h12 h16) hk1 A
  refine zk_c (zk_rV (w := zk_sum 100 W1 (mw cA adm dy nc nt nl th mo I L)) (As := [.int (xs (i + 1))]) (rest := []) (n := 1) (k := (100, 0, 0)) C hm hH_1 hS_1 (show (zk_sum 100 W1 (mw cA adm dy nc nt nl th mo I L)).2.1 (100, 0, 0) from mL_o) rfl rfl gL_law_X5_complain rfl rfl (by decide +kernel) ⟨Nat.le_of_ble_eq_true rfl, Nat.le_of_ble_eq_true rfl⟩ hl1 rfl (Nat.le_of_ble_eq_true rfl) dL_law_611 ⟨by show cells + 2 + 0 ≤ 601024; omega, by show slots + 12 + 0 ≤ 7293034; omega⟩) hS_1 (fun v_ W_ H locs hP hH_2 hS_2 => ?_)
  obtain ⟨w2, ⟨x, rfl, hM⟩, rfl⟩ := hP
  refine W.eq (g2 := F0 m 614 ls [.long x]) rfl ?_
  obtain ⟨ad2, nc2, nt2, dy2, nl2, mo2, I2, L2, h2, hA, rfl, rfl, hI2, hv⟩ := tn_complain hI hb8 (xs (i + 1)) hC hM
  refine lv_lstore (lv' := [(6, .long x), (5, .int r), (0, .ref sb), (1, .ref (ad (0, 0, 0))), (2, .ref (adm (0, 0, 0))), (3, .ref o), (4, .int (nI i))]) hx hb dL_law_614 hl1 (by decide) rfl (fun ls hl2 => ?_)
  refine lv_aload_n hx hb dL_law_616 rfl (lv_at hl2 4 rfl) ?_
  have ht : zM l yX5_thrown wsX5_thrown rmM_thrown D (zt cA) A g (.ref ((lwW cA (g 0) ad2 adm o nc2 nt2 dy2 nl2 r mo2 I2 L2 h2).1 (100, 0, 0)) :: []) (lwW cA (g 0) ad2 adm o nc2 nt2 dy2 nl2 r mo2 I2 L2 h2) _ := zM_sumR (n := 100) (w1 := zk_sum 50 (cw cA (g 0) ad2 6 nc2 nc2 6 nt2 dy2 mo2 I2 L2) (outW cA o h2)) (fun A => cM_thrown l D cA A g adm dy2 nc2 nt2 nl2 r mo2 I2 L2) sum50_lt A
  refine zk_c (zk_rV (w := lwW cA (g 0) ad2 adm o nc2 nt2 dy2 nl2 r mo2 I2 L2 h2) (As := []) (rest := []) (n := 0) (k := (100, 0, 0)) C ht hH_2 hS_2 (show (lwW cA (g 0) ad2 adm o nc2 nt2 dy2 nl2 r mo2 I2 L2 h2).2.1 (100, 0, 0) from mL_o) rfl rfl gL_law_X5_thrown rfl rfl (by decide +kernel) ⟨Nat.le_of_ble_eq_true rfl, Nat.le_of_ble_eq_true rfl⟩ hl2 rfl (Nat.le_of_ble_eq_true rfl) dL_law_617 ⟨by show cells + 2 + 0 + 0 ≤ 601024; omega, by show slots + 12 + 0 + 0 ≤ 7293034; omega⟩) hS_2 (fun v_ W_ H locs hP hH_3 hS_3 => ?_)
  obtain ⟨w3, ⟨r3, rfl, rfl, rfl⟩, rfl⟩ := hP
  refine W.eq (g2 := F0 m 620 ls [.int r]) rfl ?_
  have hl3 := lv_sub hl2 [2, 3, 4, 5, 6] rfl
  rw [← hA] at hl3
  refine lv_iload hx hb dL_law_620 (lv_at hl2 1 rfl) ?_
  refine lv_icmp_eq (tgt := 627) hx hb dL_law_622 (by decide) (fun _ => ?_) (fun c9 => absurd rfl c9)
  refine lv_iload hx hb dL_law_627 (lv_at hl2 1 rfl) ?_
  refine lv_if_ne (tgt := 643) hx hb dL_law_629 (by decide) (fun c1 => ?_) (fun c1 => ?_)
  · refine lv_goto (tgt := 1171) hx hb dL_law_643 (by decide) ?_
    exact W.widen (by show cells + 2 + 0 + 0 ≤ cells + 30; omega) (by show slots + 12 + 0 + 0 ≤ slots + 2200; omega) (K ad2 nc2 nt2 dy2 nl2 r mo2 I2 L2 h2 H locs ls hH_3 hS_3 hI2 hl3)
  · have hr0 : r = 0 := by first | exact c1 | exact Classical.not_not.mp c1
    refine lv_aload_n hx hb dL_law_632 rfl (lv_at hl2 5 rfl) ?_
    refine lv_iconst (v := 0) hx hb dL_law_633 (by decide) ?_
    refine zr_lald C hH_3 (50, 0, 0) (show (lwW cA (g 0) ad2 adm o nc2 nt2 dy2 nl2 r mo2 I2 L2 h2).2.1 (50, 0, 0) from rfl) (f := h2) rfl 1 rfl (j := 0) rfl (by decide) (by decide) dL_law_634 ?_
    refine lv_lload hx hb dL_law_635 (lv_at hl2 0 rfl) ?_
    refine zl_cmp_eq (tgt := 643) hx hb dL_law_637 dL_law_638 (by decide) (fun _ => ?_) (fun c2 => absurd (hv hr0) c2)
    refine lv_goto (tgt := 1171) hx hb dL_law_643 (by decide) ?_
    exact W.widen (by show cells + 2 + 0 + 0 ≤ cells + 30; omega) (by show slots + 12 + 0 + 0 ≤ slots + 2200; omega) (K ad2 nc2 nt2 dy2 nl2 r mo2 I2 L2 h2 H locs ls hH_3 hS_3 hI2 hl3)
set_option maxHeartbeats 2000000 in
set_option maxRecDepth 100000 in
theorem lw_pass (C : zC p l m c cL_law 8 s #[.ref sb] wsL_law RL D (zt cA) A g meth) (hst : l.stackTraces = false) (hX : va_X sb L0 xs s s.heap) (hbl : sb < s.heap.size) (hbA : ¬ A sb) (hi : i + 5 ≤ L0) (hL0 : L0 ≤ 2560) (hI : zInv nc nt dy b I L) (hb8 : b ≤ 8000) (hH : zk_H D A (lwW cA (g 0) ad adm o nc nt dy nl th mo I L h) H) (hS : va_S A s.heap H locs) (hl : lv_has ls 8 [(0, .ref sb), (1, .ref (ad (0, 0, 0))), (2, .ref (adm (0, 0, 0))), (3, .ref o), (4, .int (nI i))]) (hc : cells + 30 ≤ 601024) (hs : slots + 2200 ≤ 7293034) (K : lwK p l e s m below meth c D cA A g sb i o (b + 12) adm (cells + 30) (slots + 2200) Q) : W p l e room_1 s m #[.ref sb] below meth c H locs cells slots Q (F0 m 646 ls []) := by
  obtain ⟨⟨hx, hb, hml, hown, hts⟩, hG, hlk⟩ := id C
  obtain ⟨hnc, hnt, hdy⟩ := hI.1
  have hpr := hI.pr
  obtain ⟨h11, h12, h16, hT11, h17⟩ := hI.t
  have hB := hI.2.2.2.2.2.2.2.2
  refine lv_aload_n hx hb dL_law_646 rfl (lv_at hl 1 rfl) ?_
  refine lv_aload_n hx hb dL_law_647 rfl (lv_at hl 0 rfl) ?_
  refine lv_iload hx hb dL_law_648 (lv_at hl 4 rfl) ?_
  refine lv_iconst (v := 1) hx hb dL_law_650 (by decide) ?_
  refine lv_iadd hx hb dL_law_651 ?_
  refine lw_ld (j := 1) hx hb hX hbl hbA hS hi hL0 (by decide) dL_law_652 ?_
  refine lv_aload_n hx hb dL_law_653 rfl (lv_at hl 3 rfl) ?_
  have hcls := (fun A => cC_pass l hst D cA A g ad nc nt dy mo I L (xs (i + 1)) hnc hdy)
  have hw := zM_sumL (n := 100) (w2 := mw cA adm dy nc nt nl th mo I L) (cW_pass l D cA g (cw cA (g 0) ad 6 nc nc 6 nt dy mo I L) rfl rfl cw_lt o h _ _ (xs (i + 1)) hcls (by
      intro E w' hp
      rcases hp with ⟨-, ⟨-, e⟩ | ⟨_, -, -, -, -, e⟩⟩
      · exact Or.inl e
      · exact Or.inr e)) sum50_lt A
  refine zk_c (zk_rSH (w := lwW cA (g 0) ad adm o nc nt dy nl th mo I L h) (As := [.ref (ad (0, 0, 0)), .int (xs (i + 1)), .ref o]) (rest := []) (n := 3) C hw hH hS gL_law_L_pass rfl rfl (by decide +kernel) ⟨Nat.le_of_ble_eq_true rfl, Nat.le_of_ble_eq_true rfl⟩ hl rfl (Nat.le_of_ble_eq_true rfl) dL_law_654 ⟨by show cells + 1 ≤ 601024; omega, by show slots + 6 ≤ 7293034; omega⟩) hS (fun v_ W_ H locs hP hH_1 hS_1 => ?_)
  obtain ⟨W1, ⟨r, rfl, hC⟩, rfl⟩ := hP
  refine W.eq (g2 := F0 m 657 ls [.int r]) rfl ?_
  have hk1 : ∀ k, W1.2.1 k → k.1 < 100 := by
    rcases hC with ⟨_, _, _, _, rfl⟩ | ⟨_, _, _, rfl⟩ | ⟨_, _, _, rfl⟩ <;> exact sum50_lt
  refine lv_istore (lv' := [(5, .int r), (0, .ref sb), (1, .ref (ad (0, 0, 0))), (2, .ref (adm (0, 0, 0))), (3, .ref o), (4, .int (nI i))]) hx hb dL_law_657 hl (by decide) rfl (fun ls hl1 => ?_)
  refine lv_aload_n hx hb dL_law_659 rfl (lv_at hl1 3 rfl) ?_
  refine lv_aload_n hx hb dL_law_660 rfl (lv_at hl1 1 rfl) ?_
  refine lv_iload hx hb dL_law_661 (lv_at hl1 5 rfl) ?_
  refine lv_iconst (v := 1) hx hb dL_law_663 (by decide) ?_
  refine lv_iadd hx hb dL_law_664 ?_
  refine lw_ld (j := 1) hx hb hX hbl hbA hS_1 hi hL0 (by decide) dL_law_665 ?_
  have hm : zM l yX5_pass wsX5_pass rmM_pass D (zt cA) A g (.ref ((zk_sum 100 W1 (mw cA adm dy nc nt nl th mo I L)).1 (100, 0, 0)) :: [.int (xs (i + 1))]) (zk_sum 100 W1 (mw cA adm dy nc nt nl th mo I L)) _ := zM_sumR (n := 100) (w1 := W1) (fun A => cM_pass l D cA A g adm dy nc nt nl th mo I L (xs (i + 1)) hnc hnt hdy h16) hk1 A
  refine zk_c (zk_rV (w := zk_sum 100 W1 (mw cA adm dy nc nt nl th mo I L)) (As := [.int (xs (i + 1))]) (rest := []) (n := 1) (k := (100, 0, 0)) C hm hH_1 hS_1 (show (zk_sum 100 W1 (mw cA adm dy nc nt nl th mo I L)).2.1 (100, 0, 0) from mL_o) rfl rfl gL_law_X5_pass rfl rfl (by decide +kernel) ⟨Nat.le_of_ble_eq_true rfl, Nat.le_of_ble_eq_true rfl⟩ hl1 rfl (Nat.le_of_ble_eq_true rfl) dL_law_666 ⟨by show cells + 1 + 0 ≤ 601024; omega, by show slots + 6 + 0 ≤ 7293034; omega⟩) hS_1 (fun v_ W_ H locs hP hH_2 hS_2 => ?_)
  obtain ⟨w2, ⟨x, rfl, hM⟩, rfl⟩ := hP
  refine W.eq (g2 := F0 m 669 ls [.int x]) rfl ?_
  obtain ⟨ad2, nc2, nt2, dy2, nl2, mo2, I2, L2, h2, hA, rfl, rfl, hI2, hv⟩ := tn_pass hI hb8 (xs (i + 1)) hC hM
  refine lv_istore (lv' := [(6, .int x), (5, .int r), (0, .ref sb), (1, .ref (ad (0, 0, 0))), (2, .ref (adm (0, 0, 0))), (3, .ref o), (4, .int (nI i))]) hx hb dL_law_669 hl1 (by decide) rfl (fun ls hl2 => ?_)
  refine lv_aload_n hx hb dL_law_671 rfl (lv_at hl2 4 rfl) ?_
  have ht : zM l yX5_thrown wsX5_thrown rmM_thrown D (zt cA) A g (.ref ((lwW cA (g 0) ad2 adm o nc2 nt2 dy2 nl2 r mo2 I2 L2 h2).1 (100, 0, 0)) :: []) (lwW cA (g 0) ad2 adm o nc2 nt2 dy2 nl2 r mo2 I2 L2 h2) _ := zM_sumR (n := 100) (w1 := zk_sum 50 (cw cA (g 0) ad2 6 nc2 nc2 6 nt2 dy2 mo2 I2 L2) (outW cA o h2)) (fun A => cM_thrown l D cA A g adm dy2 nc2 nt2 nl2 r mo2 I2 L2) sum50_lt A
  refine zk_c (zk_rV (w := lwW cA (g 0) ad2 adm o nc2 nt2 dy2 nl2 r mo2 I2 L2 h2) (As := []) (rest := []) (n := 0) (k := (100, 0, 0)) C ht hH_2 hS_2 (show (lwW cA (g 0) ad2 adm o nc2 nt2 dy2 nl2 r mo2 I2 L2 h2).2.1 (100, 0, 0) from mL_o) rfl rfl gL_law_X5_thrown rfl rfl (by decide +kernel) ⟨Nat.le_of_ble_eq_true rfl, Nat.le_of_ble_eq_true rfl⟩ hl2 rfl (Nat.le_of_ble_eq_true rfl) dL_law_672 ⟨by show cells + 1 + 0 + 0 ≤ 601024; omega, by show slots + 6 + 0 + 0 ≤ 7293034; omega⟩) hS_2 (fun v_ W_ H locs hP hH_3 hS_3 => ?_)
  obtain ⟨w3, ⟨r3, rfl, rfl, rfl⟩, rfl⟩ := hP
  refine W.eq (g2 := F0 m 675 ls [.int r]) rfl ?_
  have hl3 := lv_sub hl2 [2, 3, 4, 5, 6] rfl
  rw [← hA] at hl3
  refine lv_iload hx hb dL_law_675 (lv_at hl2 1 rfl) ?_
  refine lv_icmp_eq (tgt := 682) hx hb dL_law_677 (by decide) (fun _ => ?_) (fun c9 => absurd rfl c9)
  refine lv_iload hx hb dL_law_682 (lv_at hl2 1 rfl) ?_
  refine lv_if_ne (tgt := 699) hx hb dL_law_684 (by decide) (fun c1 => ?_) (fun c1 => ?_)
  · refine lv_goto (tgt := 1171) hx hb dL_law_699 (by decide) ?_
    exact W.widen (by show cells + 1 + 0 + 0 ≤ cells + 30; omega) (by show slots + 6 + 0 + 0 ≤ slots + 2200; omega) (K ad2 nc2 nt2 dy2 nl2 r mo2 I2 L2 h2 H locs ls hH_3 hS_3 hI2 hl3)
  · have hr0 : r = 0 := by first | exact c1 | exact Classical.not_not.mp c1
    refine lv_aload_n hx hb dL_law_687 rfl (lv_at hl2 5 rfl) ?_
    refine lv_iconst (v := 0) hx hb dL_law_688 (by decide) ?_
    refine zr_lald C hH_3 (50, 0, 0) (show (lwW cA (g 0) ad2 adm o nc2 nt2 dy2 nl2 r mo2 I2 L2 h2).2.1 (50, 0, 0) from rfl) (f := h2) rfl 1 rfl (j := 0) rfl (by decide) (by decide) dL_law_689 ?_
    refine lv_iload hx hb dL_law_690 (lv_at hl2 0 rfl) ?_
    refine lv_i2l (v := Int32.toInt64 x) hx hb dL_law_692 rfl ?_
    refine zl_cmp_eq (tgt := 699) hx hb dL_law_693 dL_law_694 (by decide) (fun _ => ?_) (fun c2 => absurd (hv hr0) c2)
    refine lv_goto (tgt := 1171) hx hb dL_law_699 (by decide) ?_
    exact W.widen (by show cells + 1 + 0 + 0 ≤ cells + 30; omega) (by show slots + 6 + 0 + 0 ≤ slots + 2200; omega) (K ad2 nc2 nt2 dy2 nl2 r mo2 I2 L2 h2 H locs ls hH_3 hS_3 hI2 hl3)
set_option maxHeartbeats 2000000 in
set_option maxRecDepth 100000 in
theorem lw_cash (C : zC p l m c cL_law 8 s #[.ref sb] wsL_law RL D (zt cA) A g meth) (hst : l.stackTraces = false) (hX : va_X sb L0 xs s s.heap) (hbl : sb < s.heap.size) (hbA : ¬ A sb) (hi : i + 5 ≤ L0) (hL0 : L0 ≤ 2560) (hI : zInv nc nt dy b I L) (hb8 : b ≤ 8000) (hH : zk_H D A (lwW cA (g 0) ad adm o nc nt dy nl th mo I L h) H) (hS : va_S A s.heap H locs) (hl : lv_has ls 8 [(0, .ref sb), (1, .ref (ad (0, 0, 0))), (2, .ref (adm (0, 0, 0))), (3, .ref o), (4, .int (nI i))]) (hc : cells + 30 ≤ 601024) (hs : slots + 2200 ≤ 7293034) (K : lwK p l e s m below meth c D cA A g sb i o (b + 12) adm (cells + 30) (slots + 2200) Q) : W p l e room_1 s m #[.ref sb] below meth c H locs cells slots Q (F0 m 702 ls []) := by
  obtain ⟨⟨hx, hb, hml, hown, hts⟩, hG, hlk⟩ := id C
  obtain ⟨hnc, hnt, hdy⟩ := hI.1
  have hpr := hI.pr
  obtain ⟨h11, h12, h16, hT11, h17⟩ := hI.t
  have hB := hI.2.2.2.2.2.2.2.2
  refine lv_aload_n hx hb dL_law_702 rfl (lv_at hl 1 rfl) ?_
  refine lv_aload_n hx hb dL_law_703 rfl (lv_at hl 0 rfl) ?_
  refine lv_iload hx hb dL_law_704 (lv_at hl 4 rfl) ?_
  refine lv_iconst (v := 1) hx hb dL_law_706 (by decide) ?_
  refine lv_iadd hx hb dL_law_707 ?_
  refine lw_ld (j := 1) hx hb hX hbl hbA hS hi hL0 (by decide) dL_law_708 ?_
  refine lv_aload_n hx hb dL_law_709 rfl (lv_at hl 3 rfl) ?_
  have hcls := (fun A => cC_cash l hst D cA A g ad nc nt dy mo I L (xs (i + 1)) hnc)
  have hw := zM_sumL (n := 100) (w2 := mw cA adm dy nc nt nl th mo I L) (cW_cash l D cA g (cw cA (g 0) ad 6 nc nc 6 nt dy mo I L) rfl rfl cw_lt o h _ _ (xs (i + 1)) hcls (by
      intro E w' hp
      obtain ⟨-, -, e⟩ := hp
      exact e)) sum50_lt A
  refine zk_c (zk_rSH (w := lwW cA (g 0) ad adm o nc nt dy nl th mo I L h) (As := [.ref (ad (0, 0, 0)), .int (xs (i + 1)), .ref o]) (rest := []) (n := 3) C hw hH hS gL_law_L_cash rfl rfl (by decide +kernel) ⟨Nat.le_of_ble_eq_true rfl, Nat.le_of_ble_eq_true rfl⟩ hl rfl (Nat.le_of_ble_eq_true rfl) dL_law_710 ⟨by show cells + 1 ≤ 601024; omega, by show slots + 6 ≤ 7293034; omega⟩) hS (fun v_ W_ H locs hP hH_1 hS_1 => ?_)
  obtain ⟨W1, ⟨r, rfl, hC⟩, rfl⟩ := hP
  refine W.eq (g2 := F0 m 713 ls [.int r]) rfl ?_
  have hk1 : ∀ k, W1.2.1 k → k.1 < 100 := by
    rcases hC with ⟨_, _, _, _, rfl⟩ | ⟨_, _, _, rfl⟩ <;> exact sum50_lt
  refine lv_istore (lv' := [(5, .int r), (0, .ref sb), (1, .ref (ad (0, 0, 0))), (2, .ref (adm (0, 0, 0))), (3, .ref o), (4, .int (nI i))]) hx hb dL_law_713 hl (by decide) rfl (fun ls hl1 => ?_)
  refine lv_aload_n hx hb dL_law_715 rfl (lv_at hl1 3 rfl) ?_
  refine lv_aload_n hx hb dL_law_716 rfl (lv_at hl1 1 rfl) ?_
  refine lv_iload hx hb dL_law_717 (lv_at hl1 5 rfl) ?_
  refine lv_iconst (v := 1) hx hb dL_law_719 (by decide) ?_
  refine lv_iadd hx hb dL_law_720 ?_
  refine lw_ld (j := 1) hx hb hX hbl hbA hS_1 hi hL0 (by decide) dL_law_721 ?_
  have hm : zM l yX5_cash wsX5_cash rmM_cash D (zt cA) A g (.ref ((zk_sum 100 W1 (mw cA adm dy nc nt nl th mo I L)).1 (100, 0, 0)) :: [.int (xs (i + 1))]) (zk_sum 100 W1 (mw cA adm dy nc nt nl th mo I L)) _ := zM_sumR (n := 100) (w1 := W1) (fun A => cM_cash l D cA A g adm dy nc nt nl th mo I L (xs (i + 1)) hnc) hk1 A
  refine zk_c (zk_rV (w := zk_sum 100 W1 (mw cA adm dy nc nt nl th mo I L)) (As := [.int (xs (i + 1))]) (rest := []) (n := 1) (k := (100, 0, 0)) C hm hH_1 hS_1 (show (zk_sum 100 W1 (mw cA adm dy nc nt nl th mo I L)).2.1 (100, 0, 0) from mL_o) rfl rfl gL_law_X5_cash rfl rfl (by decide +kernel) ⟨Nat.le_of_ble_eq_true rfl, Nat.le_of_ble_eq_true rfl⟩ hl1 rfl (Nat.le_of_ble_eq_true rfl) dL_law_722 ⟨by show cells + 1 + 0 ≤ 601024; omega, by show slots + 6 + 0 ≤ 7293034; omega⟩) hS_1 (fun v_ W_ H locs hP hH_2 hS_2 => ?_)
  obtain ⟨w2, ⟨x, rfl, hM⟩, rfl⟩ := hP
  refine W.eq (g2 := F0 m 725 ls [.long x]) rfl ?_
  obtain ⟨ad2, nc2, nt2, dy2, nl2, mo2, I2, L2, h2, hA, rfl, rfl, hI2, hv⟩ := tn_cash hI hb8 (xs (i + 1)) hC hM
  refine lv_lstore (lv' := [(6, .long x), (5, .int r), (0, .ref sb), (1, .ref (ad (0, 0, 0))), (2, .ref (adm (0, 0, 0))), (3, .ref o), (4, .int (nI i))]) hx hb dL_law_725 hl1 (by decide) rfl (fun ls hl2 => ?_)
  refine lv_aload_n hx hb dL_law_727 rfl (lv_at hl2 4 rfl) ?_
  have ht : zM l yX5_thrown wsX5_thrown rmM_thrown D (zt cA) A g (.ref ((lwW cA (g 0) ad2 adm o nc2 nt2 dy2 nl2 r mo2 I2 L2 h2).1 (100, 0, 0)) :: []) (lwW cA (g 0) ad2 adm o nc2 nt2 dy2 nl2 r mo2 I2 L2 h2) _ := zM_sumR (n := 100) (w1 := zk_sum 50 (cw cA (g 0) ad2 6 nc2 nc2 6 nt2 dy2 mo2 I2 L2) (outW cA o h2)) (fun A => cM_thrown l D cA A g adm dy2 nc2 nt2 nl2 r mo2 I2 L2) sum50_lt A
  refine zk_c (zk_rV (w := lwW cA (g 0) ad2 adm o nc2 nt2 dy2 nl2 r mo2 I2 L2 h2) (As := []) (rest := []) (n := 0) (k := (100, 0, 0)) C ht hH_2 hS_2 (show (lwW cA (g 0) ad2 adm o nc2 nt2 dy2 nl2 r mo2 I2 L2 h2).2.1 (100, 0, 0) from mL_o) rfl rfl gL_law_X5_thrown rfl rfl (by decide +kernel) ⟨Nat.le_of_ble_eq_true rfl, Nat.le_of_ble_eq_true rfl⟩ hl2 rfl (Nat.le_of_ble_eq_true rfl) dL_law_728 ⟨by show cells + 1 + 0 + 0 ≤ 601024; omega, by show slots + 6 + 0 + 0 ≤ 7293034; omega⟩) hS_2 (fun v_ W_ H locs hP hH_3 hS_3 => ?_)
  obtain ⟨w3, ⟨r3, rfl, rfl, rfl⟩, rfl⟩ := hP
  refine W.eq (g2 := F0 m 731 ls [.int r]) rfl ?_
  have hl3 := lv_sub hl2 [2, 3, 4, 5, 6] rfl
  rw [← hA] at hl3
  refine lv_iload hx hb dL_law_731 (lv_at hl2 1 rfl) ?_
  refine lv_icmp_eq (tgt := 738) hx hb dL_law_733 (by decide) (fun _ => ?_) (fun c9 => absurd rfl c9)
  refine lv_iload hx hb dL_law_738 (lv_at hl2 1 rfl) ?_
  refine lv_if_ne (tgt := 754) hx hb dL_law_740 (by decide) (fun c1 => ?_) (fun c1 => ?_)
  · refine lv_goto (tgt := 1171) hx hb dL_law_754 (by decide) ?_
    exact W.widen (by show cells + 1 + 0 + 0 ≤ cells + 30; omega) (by show slots + 6 + 0 + 0 ≤ slots + 2200; omega) (K ad2 nc2 nt2 dy2 nl2 r mo2 I2 L2 h2 H locs ls hH_3 hS_3 hI2 hl3)
  · have hr0 : r = 0 := by first | exact c1 | exact Classical.not_not.mp c1
    refine lv_aload_n hx hb dL_law_743 rfl (lv_at hl2 5 rfl) ?_
    refine lv_iconst (v := 0) hx hb dL_law_744 (by decide) ?_
    refine zr_lald C hH_3 (50, 0, 0) (show (lwW cA (g 0) ad2 adm o nc2 nt2 dy2 nl2 r mo2 I2 L2 h2).2.1 (50, 0, 0) from rfl) (f := h2) rfl 1 rfl (j := 0) rfl (by decide) (by decide) dL_law_745 ?_
    refine lv_lload hx hb dL_law_746 (lv_at hl2 0 rfl) ?_
    refine zl_cmp_eq (tgt := 754) hx hb dL_law_748 dL_law_749 (by decide) (fun _ => ?_) (fun c2 => absurd (hv hr0) c2)
    refine lv_goto (tgt := 1171) hx hb dL_law_754 (by decide) ?_
    exact W.widen (by show cells + 1 + 0 + 0 ≤ cells + 30; omega) (by show slots + 6 + 0 + 0 ≤ slots + 2200; omega) (K ad2 nc2 nt2 dy2 nl2 r mo2 I2 L2 h2 H locs ls hH_3 hS_3 hI2 hl3)
set_option maxHeartbeats 2000000 in
set_option maxRecDepth 100000 in
theorem lw_parts (C : zC p l m c cL_law 8 s #[.ref sb] wsL_law RL D (zt cA) A g meth) (hst : l.stackTraces = false) (hX : va_X sb L0 xs s s.heap) (hbl : sb < s.heap.size) (hbA : ¬ A sb) (hi : i + 5 ≤ L0) (hL0 : L0 ≤ 2560) (hI : zInv nc nt dy b I L) (hb8 : b ≤ 8000) (hH : zk_H D A (lwW cA (g 0) ad adm o nc nt dy nl th mo I L h) H) (hS : va_S A s.heap H locs) (hl : lv_has ls 8 [(0, .ref sb), (1, .ref (ad (0, 0, 0))), (2, .ref (adm (0, 0, 0))), (3, .ref o), (4, .int (nI i))]) (hc : cells + 30 ≤ 601024) (hs : slots + 2200 ≤ 7293034) (K : lwK p l e s m below meth c D cA A g sb i o (b + 12) adm (cells + 30) (slots + 2200) Q) : W p l e room_1 s m #[.ref sb] below meth c H locs cells slots Q (F0 m 757 ls []) := by
  obtain ⟨⟨hx, hb, hml, hown, hts⟩, hG, hlk⟩ := id C
  obtain ⟨hnc, hnt, hdy⟩ := hI.1
  have hpr := hI.pr
  obtain ⟨h11, h12, h16, hT11, h17⟩ := hI.t
  have hB := hI.2.2.2.2.2.2.2.2
  refine lv_aload_n hx hb dL_law_757 rfl (lv_at hl 1 rfl) ?_
  refine lv_aload_n hx hb dL_law_758 rfl (lv_at hl 0 rfl) ?_
  refine lv_iload hx hb dL_law_759 (lv_at hl 4 rfl) ?_
  refine lv_iconst (v := 1) hx hb dL_law_761 (by decide) ?_
  refine lv_iadd hx hb dL_law_762 ?_
  refine lw_ld (j := 1) hx hb hX hbl hbA hS hi hL0 (by decide) dL_law_763 ?_
  refine lv_aload_n hx hb dL_law_764 rfl (lv_at hl 0 rfl) ?_
  refine lv_iload hx hb dL_law_765 (lv_at hl 4 rfl) ?_
  refine lv_iconst (v := 2) hx hb dL_law_767 (by decide) ?_
  refine lv_iadd hx hb dL_law_768 ?_
  refine lw_ld (j := 2) hx hb hX hbl hbA hS hi hL0 (by decide) dL_law_769 ?_
  refine lv_aload_n hx hb dL_law_770 rfl (lv_at hl 3 rfl) ?_
  have hcls := (fun A => cC_parts l hst D cA A g ad nc nt dy mo I L (xs (i + 1)) (xs (i + 2)) hnc)
  have hw := zM_sumL (n := 100) (w2 := mw cA adm dy nc nt nl th mo I L) (cW_parts l D cA g (cw cA (g 0) ad 6 nc nc 6 nt dy mo I L) rfl rfl cw_lt o h _ _ (xs (i + 1)) (xs (i + 2)) hcls (by
      intro E w' hp
      obtain ⟨-, -, e⟩ := hp
      exact e)) sum50_lt A
  refine zk_c (zk_rSH (w := lwW cA (g 0) ad adm o nc nt dy nl th mo I L h) (As := [.ref (ad (0, 0, 0)), .int (xs (i + 1)), .int (xs (i + 2)), .ref o]) (rest := []) (n := 4) C hw hH hS gL_law_L_parts rfl rfl (by decide +kernel) ⟨Nat.le_of_ble_eq_true rfl, Nat.le_of_ble_eq_true rfl⟩ hl rfl (Nat.le_of_ble_eq_true rfl) dL_law_771 ⟨by show cells + 2 ≤ 601024; omega, by show slots + 12 ≤ 7293034; omega⟩) hS (fun v_ W_ H locs hP hH_1 hS_1 => ?_)
  obtain ⟨W1, ⟨r, rfl, hC⟩, rfl⟩ := hP
  refine W.eq (g2 := F0 m 774 ls [.int r]) rfl ?_
  have hk1 : ∀ k, W1.2.1 k → k.1 < 100 := by
    rcases hC with ⟨_, _, _, _, rfl⟩ | ⟨_, _, _, rfl⟩ <;> exact sum50_lt
  refine lv_istore (lv' := [(5, .int r), (0, .ref sb), (1, .ref (ad (0, 0, 0))), (2, .ref (adm (0, 0, 0))), (3, .ref o), (4, .int (nI i))]) hx hb dL_law_774 hl (by decide) rfl (fun ls hl1 => ?_)
  refine lv_aload_n hx hb dL_law_776 rfl (lv_at hl1 3 rfl) ?_
  refine lv_aload_n hx hb dL_law_777 rfl (lv_at hl1 1 rfl) ?_
  refine lv_iload hx hb dL_law_778 (lv_at hl1 5 rfl) ?_
  refine lv_iconst (v := 1) hx hb dL_law_780 (by decide) ?_
  refine lv_iadd hx hb dL_law_781 ?_
  refine lw_ld (j := 1) hx hb hX hbl hbA hS_1 hi hL0 (by decide) dL_law_782 ?_
  refine lv_aload_n hx hb dL_law_783 rfl (lv_at hl1 1 rfl) ?_
  refine lv_iload hx hb dL_law_784 (lv_at hl1 5 rfl) ?_
  refine lv_iconst (v := 2) hx hb dL_law_786 (by decide) ?_
  refine lv_iadd hx hb dL_law_787 ?_
  refine lw_ld (j := 2) hx hb hX hbl hbA hS_1 hi hL0 (by decide) dL_law_788 ?_
  have hm : zM l yX5_parts wsX5_parts rmM_parts D (zt cA) A g (.ref ((zk_sum 100 W1 (mw cA adm dy nc nt nl th mo I L)).1 (100, 0, 0)) :: [.int (xs (i + 1)), .int (xs (i + 2))]) (zk_sum 100 W1 (mw cA adm dy nc nt nl th mo I L)) _ := zM_sumR (n := 100) (w1 := W1) (fun A => cM_parts l D cA A g adm dy nc nt nl th mo I L (xs (i + 1)) (xs (i + 2)) hnc) hk1 A
  refine zk_c (zk_rV (w := zk_sum 100 W1 (mw cA adm dy nc nt nl th mo I L)) (As := [.int (xs (i + 1)), .int (xs (i + 2))]) (rest := []) (n := 2) (k := (100, 0, 0)) C hm hH_1 hS_1 (show (zk_sum 100 W1 (mw cA adm dy nc nt nl th mo I L)).2.1 (100, 0, 0) from mL_o) rfl rfl gL_law_X5_parts rfl rfl (by decide +kernel) ⟨Nat.le_of_ble_eq_true rfl, Nat.le_of_ble_eq_true rfl⟩ hl1 rfl (Nat.le_of_ble_eq_true rfl) dL_law_789 ⟨by show cells + 2 + 0 ≤ 601024; omega, by show slots + 12 + 0 ≤ 7293034; omega⟩) hS_1 (fun v_ W_ H locs hP hH_2 hS_2 => ?_)
  obtain ⟨w2, ⟨x, rfl, hM⟩, rfl⟩ := hP
  refine W.eq (g2 := F0 m 792 ls [.long x]) rfl ?_
  obtain ⟨ad2, nc2, nt2, dy2, nl2, mo2, I2, L2, h2, hA, rfl, rfl, hI2, hv⟩ := tn_parts hI hb8 (xs (i + 1)) (xs (i + 2)) hC hM
  refine lv_lstore (lv' := [(6, .long x), (5, .int r), (0, .ref sb), (1, .ref (ad (0, 0, 0))), (2, .ref (adm (0, 0, 0))), (3, .ref o), (4, .int (nI i))]) hx hb dL_law_792 hl1 (by decide) rfl (fun ls hl2 => ?_)
  refine lv_aload_n hx hb dL_law_794 rfl (lv_at hl2 4 rfl) ?_
  have ht : zM l yX5_thrown wsX5_thrown rmM_thrown D (zt cA) A g (.ref ((lwW cA (g 0) ad2 adm o nc2 nt2 dy2 nl2 r mo2 I2 L2 h2).1 (100, 0, 0)) :: []) (lwW cA (g 0) ad2 adm o nc2 nt2 dy2 nl2 r mo2 I2 L2 h2) _ := zM_sumR (n := 100) (w1 := zk_sum 50 (cw cA (g 0) ad2 6 nc2 nc2 6 nt2 dy2 mo2 I2 L2) (outW cA o h2)) (fun A => cM_thrown l D cA A g adm dy2 nc2 nt2 nl2 r mo2 I2 L2) sum50_lt A
  refine zk_c (zk_rV (w := lwW cA (g 0) ad2 adm o nc2 nt2 dy2 nl2 r mo2 I2 L2 h2) (As := []) (rest := []) (n := 0) (k := (100, 0, 0)) C ht hH_2 hS_2 (show (lwW cA (g 0) ad2 adm o nc2 nt2 dy2 nl2 r mo2 I2 L2 h2).2.1 (100, 0, 0) from mL_o) rfl rfl gL_law_X5_thrown rfl rfl (by decide +kernel) ⟨Nat.le_of_ble_eq_true rfl, Nat.le_of_ble_eq_true rfl⟩ hl2 rfl (Nat.le_of_ble_eq_true rfl) dL_law_795 ⟨by show cells + 2 + 0 + 0 ≤ 601024; omega, by show slots + 12 + 0 + 0 ≤ 7293034; omega⟩) hS_2 (fun v_ W_ H locs hP hH_3 hS_3 => ?_)
  obtain ⟨w3, ⟨r3, rfl, rfl, rfl⟩, rfl⟩ := hP
  refine W.eq (g2 := F0 m 798 ls [.int r]) rfl ?_
  have hl3 := lv_sub hl2 [2, 3, 4, 5, 6] rfl
  rw [← hA] at hl3
  refine lv_iload hx hb dL_law_798 (lv_at hl2 1 rfl) ?_
  refine lv_icmp_eq (tgt := 805) hx hb dL_law_800 (by decide) (fun _ => ?_) (fun c9 => absurd rfl c9)
  refine lv_iload hx hb dL_law_805 (lv_at hl2 1 rfl) ?_
  refine lv_if_ne (tgt := 821) hx hb dL_law_807 (by decide) (fun c1 => ?_) (fun c1 => ?_)
  · refine lv_goto (tgt := 1171) hx hb dL_law_821 (by decide) ?_
    exact W.widen (by show cells + 2 + 0 + 0 ≤ cells + 30; omega) (by show slots + 12 + 0 + 0 ≤ slots + 2200; omega) (K ad2 nc2 nt2 dy2 nl2 r mo2 I2 L2 h2 H locs ls hH_3 hS_3 hI2 hl3)
  · have hr0 : r = 0 := by first | exact c1 | exact Classical.not_not.mp c1
    refine lv_aload_n hx hb dL_law_810 rfl (lv_at hl2 5 rfl) ?_
    refine lv_iconst (v := 0) hx hb dL_law_811 (by decide) ?_
    refine zr_lald C hH_3 (50, 0, 0) (show (lwW cA (g 0) ad2 adm o nc2 nt2 dy2 nl2 r mo2 I2 L2 h2).2.1 (50, 0, 0) from rfl) (f := h2) rfl 1 rfl (j := 0) rfl (by decide) (by decide) dL_law_812 ?_
    refine lv_lload hx hb dL_law_813 (lv_at hl2 0 rfl) ?_
    refine zl_cmp_eq (tgt := 821) hx hb dL_law_815 dL_law_816 (by decide) (fun _ => ?_) (fun c2 => absurd (hv hr0) c2)
    refine lv_goto (tgt := 1171) hx hb dL_law_821 (by decide) ?_
    exact W.widen (by show cells + 2 + 0 + 0 ≤ cells + 30; omega) (by show slots + 12 + 0 + 0 ≤ slots + 2200; omega) (K ad2 nc2 nt2 dy2 nl2 r mo2 I2 L2 h2 H locs ls hH_3 hS_3 hI2 hl3)
set_option maxHeartbeats 2000000 in
set_option maxRecDepth 100000 in
theorem lw_units (C : zC p l m c cL_law 8 s #[.ref sb] wsL_law RL D (zt cA) A g meth) (hst : l.stackTraces = false) (hX : va_X sb L0 xs s s.heap) (hbl : sb < s.heap.size) (hbA : ¬ A sb) (hi : i + 5 ≤ L0) (hL0 : L0 ≤ 2560) (hI : zInv nc nt dy b I L) (hb8 : b ≤ 8000) (hH : zk_H D A (lwW cA (g 0) ad adm o nc nt dy nl th mo I L h) H) (hS : va_S A s.heap H locs) (hl : lv_has ls 8 [(0, .ref sb), (1, .ref (ad (0, 0, 0))), (2, .ref (adm (0, 0, 0))), (3, .ref o), (4, .int (nI i))]) (hc : cells + 30 ≤ 601024) (hs : slots + 2200 ≤ 7293034) (K : lwK p l e s m below meth c D cA A g sb i o (b + 12) adm (cells + 30) (slots + 2200) Q) : W p l e room_1 s m #[.ref sb] below meth c H locs cells slots Q (F0 m 824 ls []) := by
  obtain ⟨⟨hx, hb, hml, hown, hts⟩, hG, hlk⟩ := id C
  obtain ⟨hnc, hnt, hdy⟩ := hI.1
  have hpr := hI.pr
  obtain ⟨h11, h12, h16, hT11, h17⟩ := hI.t
  have hB := hI.2.2.2.2.2.2.2.2
  refine lv_aload_n hx hb dL_law_824 rfl (lv_at hl 1 rfl) ?_
  refine lv_aload_n hx hb dL_law_825 rfl (lv_at hl 0 rfl) ?_
  refine lv_iload hx hb dL_law_826 (lv_at hl 4 rfl) ?_
  refine lv_iconst (v := 1) hx hb dL_law_828 (by decide) ?_
  refine lv_iadd hx hb dL_law_829 ?_
  refine lw_ld (j := 1) hx hb hX hbl hbA hS hi hL0 (by decide) dL_law_830 ?_
  refine lv_aload_n hx hb dL_law_831 rfl (lv_at hl 3 rfl) ?_
  have hcls := (fun A => cC_units l hst D cA A g ad nc nt dy mo I L (xs (i + 1)) )
  have hw := zM_sumL (n := 100) (w2 := mw cA adm dy nc nt nl th mo I L) (cW_units l D cA g (cw cA (g 0) ad 6 nc nc 6 nt dy mo I L) rfl rfl cw_lt o h _ _ (xs (i + 1)) hcls (by
      intro E w' hp
      obtain ⟨-, -, e⟩ := hp
      exact e)) sum50_lt A
  refine zk_c (zk_rSH (w := lwW cA (g 0) ad adm o nc nt dy nl th mo I L h) (As := [.ref (ad (0, 0, 0)), .int (xs (i + 1)), .ref o]) (rest := []) (n := 3) C hw hH hS gL_law_L_units rfl rfl (by decide +kernel) ⟨Nat.le_of_ble_eq_true rfl, Nat.le_of_ble_eq_true rfl⟩ hl rfl (Nat.le_of_ble_eq_true rfl) dL_law_832 ⟨by show cells + 1 ≤ 601024; omega, by show slots + 6 ≤ 7293034; omega⟩) hS (fun v_ W_ H locs hP hH_1 hS_1 => ?_)
  obtain ⟨W1, ⟨r, rfl, hC⟩, rfl⟩ := hP
  refine W.eq (g2 := F0 m 835 ls [.int r]) rfl ?_
  have hk1 : ∀ k, W1.2.1 k → k.1 < 100 := by
    rcases hC with ⟨_, _, _, _, rfl⟩ | ⟨_, _, _, rfl⟩ <;> exact sum50_lt
  refine lv_istore (lv' := [(5, .int r), (0, .ref sb), (1, .ref (ad (0, 0, 0))), (2, .ref (adm (0, 0, 0))), (3, .ref o), (4, .int (nI i))]) hx hb dL_law_835 hl (by decide) rfl (fun ls hl1 => ?_)
  refine lv_aload_n hx hb dL_law_837 rfl (lv_at hl1 3 rfl) ?_
  refine lv_aload_n hx hb dL_law_838 rfl (lv_at hl1 1 rfl) ?_
  refine lv_iload hx hb dL_law_839 (lv_at hl1 5 rfl) ?_
  refine lv_iconst (v := 1) hx hb dL_law_841 (by decide) ?_
  refine lv_iadd hx hb dL_law_842 ?_
  refine lw_ld (j := 1) hx hb hX hbl hbA hS_1 hi hL0 (by decide) dL_law_843 ?_
  have hm : zM l yX5_units wsX5_units rmM_units D (zt cA) A g (.ref ((zk_sum 100 W1 (mw cA adm dy nc nt nl th mo I L)).1 (100, 0, 0)) :: [.int (xs (i + 1))]) (zk_sum 100 W1 (mw cA adm dy nc nt nl th mo I L)) _ := zM_sumR (n := 100) (w1 := W1) (fun A => cM_units l D cA A g adm dy nc nt nl th mo I L (xs (i + 1)) ) hk1 A
  refine zk_c (zk_rV (w := zk_sum 100 W1 (mw cA adm dy nc nt nl th mo I L)) (As := [.int (xs (i + 1))]) (rest := []) (n := 1) (k := (100, 0, 0)) C hm hH_1 hS_1 (show (zk_sum 100 W1 (mw cA adm dy nc nt nl th mo I L)).2.1 (100, 0, 0) from mL_o) rfl rfl gL_law_X5_units rfl rfl (by decide +kernel) ⟨Nat.le_of_ble_eq_true rfl, Nat.le_of_ble_eq_true rfl⟩ hl1 rfl (Nat.le_of_ble_eq_true rfl) dL_law_844 ⟨by show cells + 1 + 0 ≤ 601024; omega, by show slots + 6 + 0 ≤ 7293034; omega⟩) hS_1 (fun v_ W_ H locs hP hH_2 hS_2 => ?_)
  obtain ⟨w2, ⟨x, rfl, hM⟩, rfl⟩ := hP
  refine W.eq (g2 := F0 m 847 ls [.long x]) rfl ?_
  obtain ⟨ad2, nc2, nt2, dy2, nl2, mo2, I2, L2, h2, hA, rfl, rfl, hI2, hv⟩ := tn_units hI hb8 (xs (i + 1)) hC hM
  refine lv_lstore (lv' := [(6, .long x), (5, .int r), (0, .ref sb), (1, .ref (ad (0, 0, 0))), (2, .ref (adm (0, 0, 0))), (3, .ref o), (4, .int (nI i))]) hx hb dL_law_847 hl1 (by decide) rfl (fun ls hl2 => ?_)
  refine lv_aload_n hx hb dL_law_849 rfl (lv_at hl2 4 rfl) ?_
  have ht : zM l yX5_thrown wsX5_thrown rmM_thrown D (zt cA) A g (.ref ((lwW cA (g 0) ad2 adm o nc2 nt2 dy2 nl2 r mo2 I2 L2 h2).1 (100, 0, 0)) :: []) (lwW cA (g 0) ad2 adm o nc2 nt2 dy2 nl2 r mo2 I2 L2 h2) _ := zM_sumR (n := 100) (w1 := zk_sum 50 (cw cA (g 0) ad2 6 nc2 nc2 6 nt2 dy2 mo2 I2 L2) (outW cA o h2)) (fun A => cM_thrown l D cA A g adm dy2 nc2 nt2 nl2 r mo2 I2 L2) sum50_lt A
  refine zk_c (zk_rV (w := lwW cA (g 0) ad2 adm o nc2 nt2 dy2 nl2 r mo2 I2 L2 h2) (As := []) (rest := []) (n := 0) (k := (100, 0, 0)) C ht hH_2 hS_2 (show (lwW cA (g 0) ad2 adm o nc2 nt2 dy2 nl2 r mo2 I2 L2 h2).2.1 (100, 0, 0) from mL_o) rfl rfl gL_law_X5_thrown rfl rfl (by decide +kernel) ⟨Nat.le_of_ble_eq_true rfl, Nat.le_of_ble_eq_true rfl⟩ hl2 rfl (Nat.le_of_ble_eq_true rfl) dL_law_850 ⟨by show cells + 1 + 0 + 0 ≤ 601024; omega, by show slots + 6 + 0 + 0 ≤ 7293034; omega⟩) hS_2 (fun v_ W_ H locs hP hH_3 hS_3 => ?_)
  obtain ⟨w3, ⟨r3, rfl, rfl, rfl⟩, rfl⟩ := hP
  refine W.eq (g2 := F0 m 853 ls [.int r]) rfl ?_
  have hl3 := lv_sub hl2 [2, 3, 4, 5, 6] rfl
  rw [← hA] at hl3
  refine lv_iload hx hb dL_law_853 (lv_at hl2 1 rfl) ?_
  refine lv_icmp_eq (tgt := 860) hx hb dL_law_855 (by decide) (fun _ => ?_) (fun c9 => absurd rfl c9)
  refine lv_iload hx hb dL_law_860 (lv_at hl2 1 rfl) ?_
  refine lv_if_ne (tgt := 876) hx hb dL_law_862 (by decide) (fun c1 => ?_) (fun c1 => ?_)
  · refine lv_goto (tgt := 1171) hx hb dL_law_876 (by decide) ?_
    exact W.widen (by show cells + 1 + 0 + 0 ≤ cells + 30; omega) (by show slots + 6 + 0 + 0 ≤ slots + 2200; omega) (K ad2 nc2 nt2 dy2 nl2 r mo2 I2 L2 h2 H locs ls hH_3 hS_3 hI2 hl3)
  · have hr0 : r = 0 := by first | exact c1 | exact Classical.not_not.mp c1
    refine lv_aload_n hx hb dL_law_865 rfl (lv_at hl2 5 rfl) ?_
    refine lv_iconst (v := 0) hx hb dL_law_866 (by decide) ?_
    refine zr_lald C hH_3 (50, 0, 0) (show (lwW cA (g 0) ad2 adm o nc2 nt2 dy2 nl2 r mo2 I2 L2 h2).2.1 (50, 0, 0) from rfl) (f := h2) rfl 1 rfl (j := 0) rfl (by decide) (by decide) dL_law_867 ?_
    refine lv_lload hx hb dL_law_868 (lv_at hl2 0 rfl) ?_
    refine zl_cmp_eq (tgt := 876) hx hb dL_law_870 dL_law_871 (by decide) (fun _ => ?_) (fun c2 => absurd (hv hr0) c2)
    refine lv_goto (tgt := 1171) hx hb dL_law_876 (by decide) ?_
    exact W.widen (by show cells + 1 + 0 + 0 ≤ cells + 30; omega) (by show slots + 6 + 0 + 0 ≤ slots + 2200; omega) (K ad2 nc2 nt2 dy2 nl2 r mo2 I2 L2 h2 H locs ls hH_3 hS_3 hI2 hl3)
set_option maxHeartbeats 2000000 in
set_option maxRecDepth 100000 in
theorem lw_tradeOf (C : zC p l m c cL_law 8 s #[.ref sb] wsL_law RL D (zt cA) A g meth) (hst : l.stackTraces = false) (hX : va_X sb L0 xs s s.heap) (hbl : sb < s.heap.size) (hbA : ¬ A sb) (hi : i + 5 ≤ L0) (hL0 : L0 ≤ 2560) (hI : zInv nc nt dy b I L) (hb8 : b ≤ 8000) (hH : zk_H D A (lwW cA (g 0) ad adm o nc nt dy nl th mo I L h) H) (hS : va_S A s.heap H locs) (hl : lv_has ls 8 [(0, .ref sb), (1, .ref (ad (0, 0, 0))), (2, .ref (adm (0, 0, 0))), (3, .ref o), (4, .int (nI i))]) (hc : cells + 30 ≤ 601024) (hs : slots + 2200 ≤ 7293034) (K : lwK p l e s m below meth c D cA A g sb i o (b + 12) adm (cells + 30) (slots + 2200) Q) : W p l e room_1 s m #[.ref sb] below meth c H locs cells slots Q (F0 m 879 ls []) := by
  obtain ⟨⟨hx, hb, hml, hown, hts⟩, hG, hlk⟩ := id C
  obtain ⟨hnc, hnt, hdy⟩ := hI.1
  have hpr := hI.pr
  obtain ⟨h11, h12, h16, hT11, h17⟩ := hI.t
  have hB := hI.2.2.2.2.2.2.2.2
  refine lv_aload_n hx hb dL_law_879 rfl (lv_at hl 1 rfl) ?_
  refine lv_aload_n hx hb dL_law_880 rfl (lv_at hl 0 rfl) ?_
  refine lv_iload hx hb dL_law_881 (lv_at hl 4 rfl) ?_
  refine lv_iconst (v := 1) hx hb dL_law_883 (by decide) ?_
  refine lv_iadd hx hb dL_law_884 ?_
  refine lw_ld (j := 1) hx hb hX hbl hbA hS hi hL0 (by decide) dL_law_885 ?_
  refine lv_aload_n hx hb dL_law_886 rfl (lv_at hl 0 rfl) ?_
  refine lv_iload hx hb dL_law_887 (lv_at hl 4 rfl) ?_
  refine lv_iconst (v := 2) hx hb dL_law_889 (by decide) ?_
  refine lv_iadd hx hb dL_law_890 ?_
  refine lw_ld (j := 2) hx hb hX hbl hbA hS hi hL0 (by decide) dL_law_891 ?_
  refine lv_aload_n hx hb dL_law_892 rfl (lv_at hl 3 rfl) ?_
  have hcls := (fun A => cC_tradeOf l hst D cA A g ad nc nt dy mo I L (xs (i + 1)) (xs (i + 2)) hnt h11 h12)
  have hw := zM_sumL (n := 100) (w2 := mw cA adm dy nc nt nl th mo I L) (cW_tradeOf l D cA g (cw cA (g 0) ad 6 nc nc 6 nt dy mo I L) rfl rfl cw_lt o h _ _ (xs (i + 1)) (xs (i + 2)) hcls (by
      intro E w' hp
      rcases hp with ⟨-, ⟨-, e⟩ | ⟨-, -, e⟩⟩
      · exact Or.inl e
      · exact Or.inr e)) sum50_lt A
  refine zk_c (zk_rSH (w := lwW cA (g 0) ad adm o nc nt dy nl th mo I L h) (As := [.ref (ad (0, 0, 0)), .int (xs (i + 1)), .int (xs (i + 2)), .ref o]) (rest := []) (n := 4) C hw hH hS gL_law_L_tradeOf rfl rfl (by decide +kernel) ⟨Nat.le_of_ble_eq_true rfl, Nat.le_of_ble_eq_true rfl⟩ hl rfl (Nat.le_of_ble_eq_true rfl) dL_law_893 ⟨by show cells + 2 ≤ 601024; omega, by show slots + 12 ≤ 7293034; omega⟩) hS (fun v_ W_ H locs hP hH_1 hS_1 => ?_)
  obtain ⟨W1, ⟨r, rfl, hC⟩, rfl⟩ := hP
  refine W.eq (g2 := F0 m 896 ls [.int r]) rfl ?_
  have hk1 : ∀ k, W1.2.1 k → k.1 < 100 := by
    rcases hC with ⟨_, _, _, _, rfl⟩ | ⟨_, _, _, rfl⟩ | ⟨_, _, _, rfl⟩ <;> exact sum50_lt
  refine lv_istore (lv' := [(5, .int r), (0, .ref sb), (1, .ref (ad (0, 0, 0))), (2, .ref (adm (0, 0, 0))), (3, .ref o), (4, .int (nI i))]) hx hb dL_law_896 hl (by decide) rfl (fun ls hl1 => ?_)
  refine lv_aload_n hx hb dL_law_898 rfl (lv_at hl1 3 rfl) ?_
  refine lv_aload_n hx hb dL_law_899 rfl (lv_at hl1 1 rfl) ?_
  refine lv_iload hx hb dL_law_900 (lv_at hl1 5 rfl) ?_
  refine lv_iconst (v := 1) hx hb dL_law_902 (by decide) ?_
  refine lv_iadd hx hb dL_law_903 ?_
  refine lw_ld (j := 1) hx hb hX hbl hbA hS_1 hi hL0 (by decide) dL_law_904 ?_
  refine lv_aload_n hx hb dL_law_905 rfl (lv_at hl1 1 rfl) ?_
  refine lv_iload hx hb dL_law_906 (lv_at hl1 5 rfl) ?_
  refine lv_iconst (v := 2) hx hb dL_law_908 (by decide) ?_
  refine lv_iadd hx hb dL_law_909 ?_
  refine lw_ld (j := 2) hx hb hX hbl hbA hS_1 hi hL0 (by decide) dL_law_910 ?_
  have hm : zM l yX5_tradeOf wsX5_tradeOf rmM_tradeOf D (zt cA) A g (.ref ((zk_sum 100 W1 (mw cA adm dy nc nt nl th mo I L)).1 (100, 0, 0)) :: [.int (xs (i + 1)), .int (xs (i + 2))]) (zk_sum 100 W1 (mw cA adm dy nc nt nl th mo I L)) _ := zM_sumR (n := 100) (w1 := W1) (fun A => cM_tradeOf l D cA A g adm dy nc nt nl th mo I L (xs (i + 1)) (xs (i + 2)) hnt) hk1 A
  refine zk_c (zk_rV (w := zk_sum 100 W1 (mw cA adm dy nc nt nl th mo I L)) (As := [.int (xs (i + 1)), .int (xs (i + 2))]) (rest := []) (n := 2) (k := (100, 0, 0)) C hm hH_1 hS_1 (show (zk_sum 100 W1 (mw cA adm dy nc nt nl th mo I L)).2.1 (100, 0, 0) from mL_o) rfl rfl gL_law_X5_tradeOf rfl rfl (by decide +kernel) ⟨Nat.le_of_ble_eq_true rfl, Nat.le_of_ble_eq_true rfl⟩ hl1 rfl (Nat.le_of_ble_eq_true rfl) dL_law_911 ⟨by show cells + 2 + 0 ≤ 601024; omega, by show slots + 12 + 0 ≤ 7293034; omega⟩) hS_1 (fun v_ W_ H locs hP hH_2 hS_2 => ?_)
  obtain ⟨w2, ⟨x, rfl, hM⟩, rfl⟩ := hP
  refine W.eq (g2 := F0 m 914 ls [.long x]) rfl ?_
  obtain ⟨ad2, nc2, nt2, dy2, nl2, mo2, I2, L2, h2, hA, rfl, rfl, hI2, hv⟩ := tn_tradeOf hI hb8 (xs (i + 1)) (xs (i + 2)) hC hM
  refine lv_lstore (lv' := [(6, .long x), (5, .int r), (0, .ref sb), (1, .ref (ad (0, 0, 0))), (2, .ref (adm (0, 0, 0))), (3, .ref o), (4, .int (nI i))]) hx hb dL_law_914 hl1 (by decide) rfl (fun ls hl2 => ?_)
  refine lv_aload_n hx hb dL_law_916 rfl (lv_at hl2 4 rfl) ?_
  have ht : zM l yX5_thrown wsX5_thrown rmM_thrown D (zt cA) A g (.ref ((lwW cA (g 0) ad2 adm o nc2 nt2 dy2 nl2 r mo2 I2 L2 h2).1 (100, 0, 0)) :: []) (lwW cA (g 0) ad2 adm o nc2 nt2 dy2 nl2 r mo2 I2 L2 h2) _ := zM_sumR (n := 100) (w1 := zk_sum 50 (cw cA (g 0) ad2 6 nc2 nc2 6 nt2 dy2 mo2 I2 L2) (outW cA o h2)) (fun A => cM_thrown l D cA A g adm dy2 nc2 nt2 nl2 r mo2 I2 L2) sum50_lt A
  refine zk_c (zk_rV (w := lwW cA (g 0) ad2 adm o nc2 nt2 dy2 nl2 r mo2 I2 L2 h2) (As := []) (rest := []) (n := 0) (k := (100, 0, 0)) C ht hH_2 hS_2 (show (lwW cA (g 0) ad2 adm o nc2 nt2 dy2 nl2 r mo2 I2 L2 h2).2.1 (100, 0, 0) from mL_o) rfl rfl gL_law_X5_thrown rfl rfl (by decide +kernel) ⟨Nat.le_of_ble_eq_true rfl, Nat.le_of_ble_eq_true rfl⟩ hl2 rfl (Nat.le_of_ble_eq_true rfl) dL_law_917 ⟨by show cells + 2 + 0 + 0 ≤ 601024; omega, by show slots + 12 + 0 + 0 ≤ 7293034; omega⟩) hS_2 (fun v_ W_ H locs hP hH_3 hS_3 => ?_)
  obtain ⟨w3, ⟨r3, rfl, rfl, rfl⟩, rfl⟩ := hP
  refine W.eq (g2 := F0 m 920 ls [.int r]) rfl ?_
  have hl3 := lv_sub hl2 [2, 3, 4, 5, 6] rfl
  rw [← hA] at hl3
  refine lv_iload hx hb dL_law_920 (lv_at hl2 1 rfl) ?_
  refine lv_icmp_eq (tgt := 927) hx hb dL_law_922 (by decide) (fun _ => ?_) (fun c9 => absurd rfl c9)
  refine lv_iload hx hb dL_law_927 (lv_at hl2 1 rfl) ?_
  refine lv_if_ne (tgt := 943) hx hb dL_law_929 (by decide) (fun c1 => ?_) (fun c1 => ?_)
  · refine lv_goto (tgt := 1171) hx hb dL_law_943 (by decide) ?_
    exact W.widen (by show cells + 2 + 0 + 0 ≤ cells + 30; omega) (by show slots + 12 + 0 + 0 ≤ slots + 2200; omega) (K ad2 nc2 nt2 dy2 nl2 r mo2 I2 L2 h2 H locs ls hH_3 hS_3 hI2 hl3)
  · have hr0 : r = 0 := by first | exact c1 | exact Classical.not_not.mp c1
    refine lv_aload_n hx hb dL_law_932 rfl (lv_at hl2 5 rfl) ?_
    refine lv_iconst (v := 0) hx hb dL_law_933 (by decide) ?_
    refine zr_lald C hH_3 (50, 0, 0) (show (lwW cA (g 0) ad2 adm o nc2 nt2 dy2 nl2 r mo2 I2 L2 h2).2.1 (50, 0, 0) from rfl) (f := h2) rfl 1 rfl (j := 0) rfl (by decide) (by decide) dL_law_934 ?_
    refine lv_lload hx hb dL_law_935 (lv_at hl2 0 rfl) ?_
    refine zl_cmp_eq (tgt := 943) hx hb dL_law_937 dL_law_938 (by decide) (fun _ => ?_) (fun c2 => absurd (hv hr0) c2)
    refine lv_goto (tgt := 1171) hx hb dL_law_943 (by decide) ?_
    exact W.widen (by show cells + 2 + 0 + 0 ≤ cells + 30; omega) (by show slots + 12 + 0 + 0 ≤ slots + 2200; omega) (K ad2 nc2 nt2 dy2 nl2 r mo2 I2 L2 h2 H locs ls hH_3 hS_3 hI2 hl3)
set_option maxHeartbeats 2000000 in
set_option maxRecDepth 100000 in
theorem lw_lot (C : zC p l m c cL_law 8 s #[.ref sb] wsL_law RL D (zt cA) A g meth) (hst : l.stackTraces = false) (hX : va_X sb L0 xs s s.heap) (hbl : sb < s.heap.size) (hbA : ¬ A sb) (hi : i + 5 ≤ L0) (hL0 : L0 ≤ 2560) (hI : zInv nc nt dy b I L) (hb8 : b ≤ 8000) (hH : zk_H D A (lwW cA (g 0) ad adm o nc nt dy nl th mo I L h) H) (hS : va_S A s.heap H locs) (hl : lv_has ls 8 [(0, .ref sb), (1, .ref (ad (0, 0, 0))), (2, .ref (adm (0, 0, 0))), (3, .ref o), (4, .int (nI i))]) (hc : cells + 30 ≤ 601024) (hs : slots + 2200 ≤ 7293034) (K : lwK p l e s m below meth c D cA A g sb i o (b + 12) adm (cells + 30) (slots + 2200) Q) : W p l e room_1 s m #[.ref sb] below meth c H locs cells slots Q (F0 m 946 ls []) := by
  obtain ⟨⟨hx, hb, hml, hown, hts⟩, hG, hlk⟩ := id C
  obtain ⟨hnc, hnt, hdy⟩ := hI.1
  have hpr := hI.pr
  obtain ⟨h11, h12, h16, hT11, h17⟩ := hI.t
  have hB := hI.2.2.2.2.2.2.2.2
  refine lv_aload_n hx hb dL_law_946 rfl (lv_at hl 1 rfl) ?_
  refine lv_aload_n hx hb dL_law_947 rfl (lv_at hl 0 rfl) ?_
  refine lv_iload hx hb dL_law_948 (lv_at hl 4 rfl) ?_
  refine lv_iconst (v := 1) hx hb dL_law_950 (by decide) ?_
  refine lv_iadd hx hb dL_law_951 ?_
  refine lw_ld (j := 1) hx hb hX hbl hbA hS hi hL0 (by decide) dL_law_952 ?_
  refine lv_aload_n hx hb dL_law_953 rfl (lv_at hl 0 rfl) ?_
  refine lv_iload hx hb dL_law_954 (lv_at hl 4 rfl) ?_
  refine lv_iconst (v := 2) hx hb dL_law_956 (by decide) ?_
  refine lv_iadd hx hb dL_law_957 ?_
  refine lw_ld (j := 2) hx hb hX hbl hbA hS hi hL0 (by decide) dL_law_958 ?_
  refine lv_aload_n hx hb dL_law_959 rfl (lv_at hl 0 rfl) ?_
  refine lv_iload hx hb dL_law_960 (lv_at hl 4 rfl) ?_
  refine lv_iconst (v := 3) hx hb dL_law_962 (by decide) ?_
  refine lv_iadd hx hb dL_law_963 ?_
  refine lw_ld (j := 3) hx hb hX hbl hbA hS hi hL0 (by decide) dL_law_964 ?_
  refine lv_aload_n hx hb dL_law_965 rfl (lv_at hl 0 rfl) ?_
  refine lv_iload hx hb dL_law_966 (lv_at hl 4 rfl) ?_
  refine lv_iconst (v := 4) hx hb dL_law_968 (by decide) ?_
  refine lv_iadd hx hb dL_law_969 ?_
  refine lw_ld (j := 4) hx hb hX hbl hbA hS hi hL0 (by decide) dL_law_970 ?_
  refine lv_aload_n hx hb dL_law_971 rfl (lv_at hl 3 rfl) ?_
  have hcls := (fun A => cC_lot l hst D cA A g ad nc nt dy mo I L (xs (i + 1)) (xs (i + 2)) (xs (i + 3)) (xs (i + 4)) hnt hnc h11 h12)
  have hw := zM_sumL (n := 100) (w2 := mw cA adm dy nc nt nl th mo I L) (cW_lot l D cA g (cw cA (g 0) ad 6 nc nc 6 nt dy mo I L) rfl rfl cw_lt o h _ _ (xs (i + 1)) (xs (i + 2)) (xs (i + 3)) (xs (i + 4)) hcls (by
      intro E w' hp
      rcases hp with ⟨-, ⟨-, e⟩ | ⟨-, -, -, -, e⟩⟩
      · exact Or.inl e
      · exact Or.inr e)) sum50_lt A
  refine zk_c (zk_rSH (w := lwW cA (g 0) ad adm o nc nt dy nl th mo I L h) (As := [.ref (ad (0, 0, 0)), .int (xs (i + 1)), .int (xs (i + 2)), .int (xs (i + 3)), .int (xs (i + 4)), .ref o]) (rest := []) (n := 6) C hw hH hS gL_law_L_lot rfl rfl (by decide +kernel) ⟨Nat.le_of_ble_eq_true rfl, Nat.le_of_ble_eq_true rfl⟩ hl rfl (Nat.le_of_ble_eq_true rfl) dL_law_972 ⟨by show cells + 3 ≤ 601024; omega, by show slots + 18 ≤ 7293034; omega⟩) hS (fun v_ W_ H locs hP hH_1 hS_1 => ?_)
  obtain ⟨W1, ⟨r, rfl, hC⟩, rfl⟩ := hP
  refine W.eq (g2 := F0 m 975 ls [.int r]) rfl ?_
  have hk1 : ∀ k, W1.2.1 k → k.1 < 100 := by
    rcases hC with ⟨_, _, _, _, rfl⟩ | ⟨_, _, _, rfl⟩ | ⟨_, _, _, rfl⟩ <;> exact sum50_lt
  refine lv_istore (lv' := [(5, .int r), (0, .ref sb), (1, .ref (ad (0, 0, 0))), (2, .ref (adm (0, 0, 0))), (3, .ref o), (4, .int (nI i))]) hx hb dL_law_975 hl (by decide) rfl (fun ls hl1 => ?_)
  refine lv_aload_n hx hb dL_law_977 rfl (lv_at hl1 3 rfl) ?_
  refine lv_aload_n hx hb dL_law_978 rfl (lv_at hl1 1 rfl) ?_
  refine lv_iload hx hb dL_law_979 (lv_at hl1 5 rfl) ?_
  refine lv_iconst (v := 1) hx hb dL_law_981 (by decide) ?_
  refine lv_iadd hx hb dL_law_982 ?_
  refine lw_ld (j := 1) hx hb hX hbl hbA hS_1 hi hL0 (by decide) dL_law_983 ?_
  refine lv_aload_n hx hb dL_law_984 rfl (lv_at hl1 1 rfl) ?_
  refine lv_iload hx hb dL_law_985 (lv_at hl1 5 rfl) ?_
  refine lv_iconst (v := 2) hx hb dL_law_987 (by decide) ?_
  refine lv_iadd hx hb dL_law_988 ?_
  refine lw_ld (j := 2) hx hb hX hbl hbA hS_1 hi hL0 (by decide) dL_law_989 ?_
  refine lv_aload_n hx hb dL_law_990 rfl (lv_at hl1 1 rfl) ?_
  refine lv_iload hx hb dL_law_991 (lv_at hl1 5 rfl) ?_
  refine lv_iconst (v := 3) hx hb dL_law_993 (by decide) ?_
  refine lv_iadd hx hb dL_law_994 ?_
  refine lw_ld (j := 3) hx hb hX hbl hbA hS_1 hi hL0 (by decide) dL_law_995 ?_
  refine lv_aload_n hx hb dL_law_996 rfl (lv_at hl1 1 rfl) ?_
  refine lv_iload hx hb dL_law_997 (lv_at hl1 5 rfl) ?_
  refine lv_iconst (v := 4) hx hb dL_law_999 (by decide) ?_
  refine lv_iadd hx hb dL_law_1000 ?_
  refine lw_ld (j := 4) hx hb hX hbl hbA hS_1 hi hL0 (by decide) dL_law_1001 ?_
  have hm : zM l yX5_lot wsX5_lot rmM_lot D (zt cA) A g (.ref ((zk_sum 100 W1 (mw cA adm dy nc nt nl th mo I L)).1 (100, 0, 0)) :: [.int (xs (i + 1)), .int (xs (i + 2)), .int (xs (i + 3)), .int (xs (i + 4))]) (zk_sum 100 W1 (mw cA adm dy nc nt nl th mo I L)) _ := zM_sumR (n := 100) (w1 := W1) (fun A => cM_lot l D cA A g adm dy nc nt nl th mo I L (xs (i + 1)) (xs (i + 2)) (xs (i + 3)) (xs (i + 4)) hnc hnt h16) hk1 A
  refine zk_c (zk_rV (w := zk_sum 100 W1 (mw cA adm dy nc nt nl th mo I L)) (As := [.int (xs (i + 1)), .int (xs (i + 2)), .int (xs (i + 3)), .int (xs (i + 4))]) (rest := []) (n := 4) (k := (100, 0, 0)) C hm hH_1 hS_1 (show (zk_sum 100 W1 (mw cA adm dy nc nt nl th mo I L)).2.1 (100, 0, 0) from mL_o) rfl rfl gL_law_X5_lot rfl rfl (by decide +kernel) ⟨Nat.le_of_ble_eq_true rfl, Nat.le_of_ble_eq_true rfl⟩ hl1 rfl (Nat.le_of_ble_eq_true rfl) dL_law_1002 ⟨by show cells + 3 + 0 ≤ 601024; omega, by show slots + 18 + 0 ≤ 7293034; omega⟩) hS_1 (fun v_ W_ H locs hP hH_2 hS_2 => ?_)
  obtain ⟨w2, ⟨x, rfl, hM⟩, rfl⟩ := hP
  refine W.eq (g2 := F0 m 1005 ls [.long x]) rfl ?_
  obtain ⟨ad2, nc2, nt2, dy2, nl2, mo2, I2, L2, h2, hA, rfl, rfl, hI2, hv⟩ := tn_lot hI hb8 (xs (i + 1)) (xs (i + 2)) (xs (i + 3)) (xs (i + 4)) hC hM
  refine lv_lstore (lv' := [(6, .long x), (5, .int r), (0, .ref sb), (1, .ref (ad (0, 0, 0))), (2, .ref (adm (0, 0, 0))), (3, .ref o), (4, .int (nI i))]) hx hb dL_law_1005 hl1 (by decide) rfl (fun ls hl2 => ?_)
  refine lv_aload_n hx hb dL_law_1007 rfl (lv_at hl2 4 rfl) ?_
  have ht : zM l yX5_thrown wsX5_thrown rmM_thrown D (zt cA) A g (.ref ((lwW cA (g 0) ad2 adm o nc2 nt2 dy2 nl2 r mo2 I2 L2 h2).1 (100, 0, 0)) :: []) (lwW cA (g 0) ad2 adm o nc2 nt2 dy2 nl2 r mo2 I2 L2 h2) _ := zM_sumR (n := 100) (w1 := zk_sum 50 (cw cA (g 0) ad2 6 nc2 nc2 6 nt2 dy2 mo2 I2 L2) (outW cA o h2)) (fun A => cM_thrown l D cA A g adm dy2 nc2 nt2 nl2 r mo2 I2 L2) sum50_lt A
  refine zk_c (zk_rV (w := lwW cA (g 0) ad2 adm o nc2 nt2 dy2 nl2 r mo2 I2 L2 h2) (As := []) (rest := []) (n := 0) (k := (100, 0, 0)) C ht hH_2 hS_2 (show (lwW cA (g 0) ad2 adm o nc2 nt2 dy2 nl2 r mo2 I2 L2 h2).2.1 (100, 0, 0) from mL_o) rfl rfl gL_law_X5_thrown rfl rfl (by decide +kernel) ⟨Nat.le_of_ble_eq_true rfl, Nat.le_of_ble_eq_true rfl⟩ hl2 rfl (Nat.le_of_ble_eq_true rfl) dL_law_1008 ⟨by show cells + 3 + 0 + 0 ≤ 601024; omega, by show slots + 18 + 0 + 0 ≤ 7293034; omega⟩) hS_2 (fun v_ W_ H locs hP hH_3 hS_3 => ?_)
  obtain ⟨w3, ⟨r3, rfl, rfl, rfl⟩, rfl⟩ := hP
  refine W.eq (g2 := F0 m 1011 ls [.int r]) rfl ?_
  have hl3 := lv_sub hl2 [2, 3, 4, 5, 6] rfl
  rw [← hA] at hl3
  refine lv_iload hx hb dL_law_1011 (lv_at hl2 1 rfl) ?_
  refine lv_icmp_eq (tgt := 1018) hx hb dL_law_1013 (by decide) (fun _ => ?_) (fun c9 => absurd rfl c9)
  refine lv_iload hx hb dL_law_1018 (lv_at hl2 1 rfl) ?_
  refine lv_if_ne (tgt := 1034) hx hb dL_law_1020 (by decide) (fun c1 => ?_) (fun c1 => ?_)
  · refine lv_goto (tgt := 1171) hx hb dL_law_1034 (by decide) ?_
    exact W.widen (by show cells + 3 + 0 + 0 ≤ cells + 30; omega) (by show slots + 18 + 0 + 0 ≤ slots + 2200; omega) (K ad2 nc2 nt2 dy2 nl2 r mo2 I2 L2 h2 H locs ls hH_3 hS_3 hI2 hl3)
  · have hr0 : r = 0 := by first | exact c1 | exact Classical.not_not.mp c1
    refine lv_aload_n hx hb dL_law_1023 rfl (lv_at hl2 5 rfl) ?_
    refine lv_iconst (v := 0) hx hb dL_law_1024 (by decide) ?_
    refine zr_lald C hH_3 (50, 0, 0) (show (lwW cA (g 0) ad2 adm o nc2 nt2 dy2 nl2 r mo2 I2 L2 h2).2.1 (50, 0, 0) from rfl) (f := h2) rfl 1 rfl (j := 0) rfl (by decide) (by decide) dL_law_1025 ?_
    refine lv_lload hx hb dL_law_1026 (lv_at hl2 0 rfl) ?_
    refine zl_cmp_eq (tgt := 1034) hx hb dL_law_1028 dL_law_1029 (by decide) (fun _ => ?_) (fun c2 => absurd (hv hr0) c2)
    refine lv_goto (tgt := 1171) hx hb dL_law_1034 (by decide) ?_
    exact W.widen (by show cells + 3 + 0 + 0 ≤ cells + 30; omega) (by show slots + 18 + 0 + 0 ≤ slots + 2200; omega) (K ad2 nc2 nt2 dy2 nl2 r mo2 I2 L2 h2 H locs ls hH_3 hS_3 hI2 hl3)
set_option maxHeartbeats 2000000 in
set_option maxRecDepth 100000 in
theorem lw_year (C : zC p l m c cL_law 8 s #[.ref sb] wsL_law RL D (zt cA) A g meth) (hst : l.stackTraces = false) (hX : va_X sb L0 xs s s.heap) (hbl : sb < s.heap.size) (hbA : ¬ A sb) (hi : i + 5 ≤ L0) (hL0 : L0 ≤ 2560) (hI : zInv nc nt dy b I L) (hb8 : b ≤ 8000) (hH : zk_H D A (lwW cA (g 0) ad adm o nc nt dy nl th mo I L h) H) (hS : va_S A s.heap H locs) (hl : lv_has ls 8 [(0, .ref sb), (1, .ref (ad (0, 0, 0))), (2, .ref (adm (0, 0, 0))), (3, .ref o), (4, .int (nI i))]) (hc : cells + 30 ≤ 601024) (hs : slots + 2200 ≤ 7293034) (K : lwK p l e s m below meth c D cA A g sb i o (b + 12) adm (cells + 30) (slots + 2200) Q) : W p l e room_1 s m #[.ref sb] below meth c H locs cells slots Q (F0 m 1037 ls []) := by
  obtain ⟨⟨hx, hb, hml, hown, hts⟩, hG, hlk⟩ := id C
  obtain ⟨hnc, hnt, hdy⟩ := hI.1
  have hpr := hI.pr
  obtain ⟨h11, h12, h16, hT11, h17⟩ := hI.t
  have hB := hI.2.2.2.2.2.2.2.2
  refine lv_aload_n hx hb dL_law_1037 rfl (lv_at hl 1 rfl) ?_
  refine lv_aload_n hx hb dL_law_1038 rfl (lv_at hl 0 rfl) ?_
  refine lv_iload hx hb dL_law_1039 (lv_at hl 4 rfl) ?_
  refine lv_iconst (v := 1) hx hb dL_law_1041 (by decide) ?_
  refine lv_iadd hx hb dL_law_1042 ?_
  refine lw_ld (j := 1) hx hb hX hbl hbA hS hi hL0 (by decide) dL_law_1043 ?_
  refine lv_aload_n hx hb dL_law_1044 rfl (lv_at hl 0 rfl) ?_
  refine lv_iload hx hb dL_law_1045 (lv_at hl 4 rfl) ?_
  refine lv_iconst (v := 2) hx hb dL_law_1047 (by decide) ?_
  refine lv_iadd hx hb dL_law_1048 ?_
  refine lw_ld (j := 2) hx hb hX hbl hbA hS hi hL0 (by decide) dL_law_1049 ?_
  refine lv_aload_n hx hb dL_law_1050 rfl (lv_at hl 0 rfl) ?_
  refine lv_iload hx hb dL_law_1051 (lv_at hl 4 rfl) ?_
  refine lv_iconst (v := 3) hx hb dL_law_1053 (by decide) ?_
  refine lv_iadd hx hb dL_law_1054 ?_
  refine lw_ld (j := 3) hx hb hX hbl hbA hS hi hL0 (by decide) dL_law_1055 ?_
  refine lv_aload_n hx hb dL_law_1056 rfl (lv_at hl 3 rfl) ?_
  have hcls := (fun A => cC_year l hst D cA A g ad nc nt dy mo I L (xs (i + 1)) (xs (i + 2)) (xs (i + 3)) hnc)
  have hw := zM_sumL (n := 100) (w2 := mw cA adm dy nc nt nl th mo I L) (cW_year l D cA g (cw cA (g 0) ad 6 nc nc 6 nt dy mo I L) rfl rfl cw_lt o h _ _ (xs (i + 1)) (xs (i + 2)) (xs (i + 3)) hcls (by
      intro E w' hp
      rcases hp with ⟨-, ⟨-, e⟩ | ⟨-, -, -, e⟩⟩
      · exact Or.inl e
      · exact Or.inr e)) sum50_lt A
  refine zk_c (zk_rSH (w := lwW cA (g 0) ad adm o nc nt dy nl th mo I L h) (As := [.ref (ad (0, 0, 0)), .int (xs (i + 1)), .int (xs (i + 2)), .int (xs (i + 3)), .ref o]) (rest := []) (n := 5) C hw hH hS gL_law_L_year rfl rfl (by decide +kernel) ⟨Nat.le_of_ble_eq_true rfl, Nat.le_of_ble_eq_true rfl⟩ hl rfl (Nat.le_of_ble_eq_true rfl) dL_law_1057 ⟨by show cells + 2 ≤ 601024; omega, by show slots + 12 ≤ 7293034; omega⟩) hS (fun v_ W_ H locs hP hH_1 hS_1 => ?_)
  obtain ⟨W1, ⟨r, rfl, hC⟩, rfl⟩ := hP
  refine W.eq (g2 := F0 m 1060 ls [.int r]) rfl ?_
  have hk1 : ∀ k, W1.2.1 k → k.1 < 100 := by
    rcases hC with ⟨_, _, _, _, rfl⟩ | ⟨_, _, _, rfl⟩ | ⟨_, _, _, rfl⟩ <;> exact sum50_lt
  refine lv_istore (lv' := [(5, .int r), (0, .ref sb), (1, .ref (ad (0, 0, 0))), (2, .ref (adm (0, 0, 0))), (3, .ref o), (4, .int (nI i))]) hx hb dL_law_1060 hl (by decide) rfl (fun ls hl1 => ?_)
  refine lv_aload_n hx hb dL_law_1062 rfl (lv_at hl1 3 rfl) ?_
  refine lv_aload_n hx hb dL_law_1063 rfl (lv_at hl1 1 rfl) ?_
  refine lv_iload hx hb dL_law_1064 (lv_at hl1 5 rfl) ?_
  refine lv_iconst (v := 1) hx hb dL_law_1066 (by decide) ?_
  refine lv_iadd hx hb dL_law_1067 ?_
  refine lw_ld (j := 1) hx hb hX hbl hbA hS_1 hi hL0 (by decide) dL_law_1068 ?_
  refine lv_aload_n hx hb dL_law_1069 rfl (lv_at hl1 1 rfl) ?_
  refine lv_iload hx hb dL_law_1070 (lv_at hl1 5 rfl) ?_
  refine lv_iconst (v := 2) hx hb dL_law_1072 (by decide) ?_
  refine lv_iadd hx hb dL_law_1073 ?_
  refine lw_ld (j := 2) hx hb hX hbl hbA hS_1 hi hL0 (by decide) dL_law_1074 ?_
  refine lv_aload_n hx hb dL_law_1075 rfl (lv_at hl1 1 rfl) ?_
  refine lv_iload hx hb dL_law_1076 (lv_at hl1 5 rfl) ?_
  refine lv_iconst (v := 3) hx hb dL_law_1078 (by decide) ?_
  refine lv_iadd hx hb dL_law_1079 ?_
  refine lw_ld (j := 3) hx hb hX hbl hbA hS_1 hi hL0 (by decide) dL_law_1080 ?_
  have hm : zM l yX5_year wsX5_year rmM_year D (zt cA) A g (.ref ((zk_sum 100 W1 (mw cA adm dy nc nt nl th mo I L)).1 (100, 0, 0)) :: [.int (xs (i + 1)), .int (xs (i + 2)), .int (xs (i + 3))]) (zk_sum 100 W1 (mw cA adm dy nc nt nl th mo I L)) _ := zM_sumR (n := 100) (w1 := W1) (fun A => cM_year l D cA A g adm dy nc nt nl th mo I L (xs (i + 1)) (xs (i + 2)) (xs (i + 3)) hnc hnt h16) hk1 A
  refine zk_c (zk_rV (w := zk_sum 100 W1 (mw cA adm dy nc nt nl th mo I L)) (As := [.int (xs (i + 1)), .int (xs (i + 2)), .int (xs (i + 3))]) (rest := []) (n := 3) (k := (100, 0, 0)) C hm hH_1 hS_1 (show (zk_sum 100 W1 (mw cA adm dy nc nt nl th mo I L)).2.1 (100, 0, 0) from mL_o) rfl rfl gL_law_X5_year rfl rfl (by decide +kernel) ⟨Nat.le_of_ble_eq_true rfl, Nat.le_of_ble_eq_true rfl⟩ hl1 rfl (Nat.le_of_ble_eq_true rfl) dL_law_1081 ⟨by show cells + 2 + 0 ≤ 601024; omega, by show slots + 12 + 0 ≤ 7293034; omega⟩) hS_1 (fun v_ W_ H locs hP hH_2 hS_2 => ?_)
  obtain ⟨w2, ⟨x, rfl, hM⟩, rfl⟩ := hP
  refine W.eq (g2 := F0 m 1084 ls [.long x]) rfl ?_
  obtain ⟨ad2, nc2, nt2, dy2, nl2, mo2, I2, L2, h2, hA, rfl, rfl, hI2, hv⟩ := tn_year hI hb8 (xs (i + 1)) (xs (i + 2)) (xs (i + 3)) hC hM
  refine lv_lstore (lv' := [(6, .long x), (5, .int r), (0, .ref sb), (1, .ref (ad (0, 0, 0))), (2, .ref (adm (0, 0, 0))), (3, .ref o), (4, .int (nI i))]) hx hb dL_law_1084 hl1 (by decide) rfl (fun ls hl2 => ?_)
  refine lv_aload_n hx hb dL_law_1086 rfl (lv_at hl2 4 rfl) ?_
  have ht : zM l yX5_thrown wsX5_thrown rmM_thrown D (zt cA) A g (.ref ((lwW cA (g 0) ad2 adm o nc2 nt2 dy2 nl2 r mo2 I2 L2 h2).1 (100, 0, 0)) :: []) (lwW cA (g 0) ad2 adm o nc2 nt2 dy2 nl2 r mo2 I2 L2 h2) _ := zM_sumR (n := 100) (w1 := zk_sum 50 (cw cA (g 0) ad2 6 nc2 nc2 6 nt2 dy2 mo2 I2 L2) (outW cA o h2)) (fun A => cM_thrown l D cA A g adm dy2 nc2 nt2 nl2 r mo2 I2 L2) sum50_lt A
  refine zk_c (zk_rV (w := lwW cA (g 0) ad2 adm o nc2 nt2 dy2 nl2 r mo2 I2 L2 h2) (As := []) (rest := []) (n := 0) (k := (100, 0, 0)) C ht hH_2 hS_2 (show (lwW cA (g 0) ad2 adm o nc2 nt2 dy2 nl2 r mo2 I2 L2 h2).2.1 (100, 0, 0) from mL_o) rfl rfl gL_law_X5_thrown rfl rfl (by decide +kernel) ⟨Nat.le_of_ble_eq_true rfl, Nat.le_of_ble_eq_true rfl⟩ hl2 rfl (Nat.le_of_ble_eq_true rfl) dL_law_1087 ⟨by show cells + 2 + 0 + 0 ≤ 601024; omega, by show slots + 12 + 0 + 0 ≤ 7293034; omega⟩) hS_2 (fun v_ W_ H locs hP hH_3 hS_3 => ?_)
  obtain ⟨w3, ⟨r3, rfl, rfl, rfl⟩, rfl⟩ := hP
  refine W.eq (g2 := F0 m 1090 ls [.int r]) rfl ?_
  have hl3 := lv_sub hl2 [2, 3, 4, 5, 6] rfl
  rw [← hA] at hl3
  refine lv_iload hx hb dL_law_1090 (lv_at hl2 1 rfl) ?_
  refine lv_icmp_eq (tgt := 1097) hx hb dL_law_1092 (by decide) (fun _ => ?_) (fun c9 => absurd rfl c9)
  refine lv_iload hx hb dL_law_1097 (lv_at hl2 1 rfl) ?_
  refine lv_if_ne (tgt := 1113) hx hb dL_law_1099 (by decide) (fun c1 => ?_) (fun c1 => ?_)
  · refine lv_goto (tgt := 1171) hx hb dL_law_1113 (by decide) ?_
    exact W.widen (by show cells + 2 + 0 + 0 ≤ cells + 30; omega) (by show slots + 12 + 0 + 0 ≤ slots + 2200; omega) (K ad2 nc2 nt2 dy2 nl2 r mo2 I2 L2 h2 H locs ls hH_3 hS_3 hI2 hl3)
  · have hr0 : r = 0 := by first | exact c1 | exact Classical.not_not.mp c1
    refine lv_aload_n hx hb dL_law_1102 rfl (lv_at hl2 5 rfl) ?_
    refine lv_iconst (v := 0) hx hb dL_law_1103 (by decide) ?_
    refine zr_lald C hH_3 (50, 0, 0) (show (lwW cA (g 0) ad2 adm o nc2 nt2 dy2 nl2 r mo2 I2 L2 h2).2.1 (50, 0, 0) from rfl) (f := h2) rfl 1 rfl (j := 0) rfl (by decide) (by decide) dL_law_1104 ?_
    refine lv_lload hx hb dL_law_1105 (lv_at hl2 0 rfl) ?_
    refine zl_cmp_eq (tgt := 1113) hx hb dL_law_1107 dL_law_1108 (by decide) (fun _ => ?_) (fun c2 => absurd (hv hr0) c2)
    refine lv_goto (tgt := 1171) hx hb dL_law_1113 (by decide) ?_
    exact W.widen (by show cells + 2 + 0 + 0 ≤ cells + 30; omega) (by show slots + 12 + 0 + 0 ≤ slots + 2200; omega) (K ad2 nc2 nt2 dy2 nl2 r mo2 I2 L2 h2 H locs ls hH_3 hS_3 hI2 hl3)
set_option maxHeartbeats 2000000 in
set_option maxRecDepth 100000 in
theorem lw_wealth (C : zC p l m c cL_law 8 s #[.ref sb] wsL_law RL D (zt cA) A g meth) (hst : l.stackTraces = false) (hX : va_X sb L0 xs s s.heap) (hbl : sb < s.heap.size) (hbA : ¬ A sb) (hi : i + 5 ≤ L0) (hL0 : L0 ≤ 2560) (hI : zInv nc nt dy b I L) (hb8 : b ≤ 8000) (hH : zk_H D A (lwW cA (g 0) ad adm o nc nt dy nl th mo I L h) H) (hS : va_S A s.heap H locs) (hl : lv_has ls 8 [(0, .ref sb), (1, .ref (ad (0, 0, 0))), (2, .ref (adm (0, 0, 0))), (3, .ref o), (4, .int (nI i))]) (hc : cells + 30 ≤ 601024) (hs : slots + 2200 ≤ 7293034) (K : lwK p l e s m below meth c D cA A g sb i o (b + 12) adm (cells + 30) (slots + 2200) Q) : W p l e room_1 s m #[.ref sb] below meth c H locs cells slots Q (F0 m 1116 ls []) := by
  obtain ⟨⟨hx, hb, hml, hown, hts⟩, hG, hlk⟩ := id C
  obtain ⟨hnc, hnt, hdy⟩ := hI.1
  have hpr := hI.pr
  obtain ⟨h11, h12, h16, hT11, h17⟩ := hI.t
  have hB := hI.2.2.2.2.2.2.2.2
  refine lv_aload_n hx hb dL_law_1116 rfl (lv_at hl 1 rfl) ?_
  refine lv_aload_n hx hb dL_law_1117 rfl (lv_at hl 0 rfl) ?_
  refine lv_iload hx hb dL_law_1118 (lv_at hl 4 rfl) ?_
  refine lv_iconst (v := 1) hx hb dL_law_1120 (by decide) ?_
  refine lv_iadd hx hb dL_law_1121 ?_
  refine lw_ld (j := 1) hx hb hX hbl hbA hS hi hL0 (by decide) dL_law_1122 ?_
  refine lv_aload_n hx hb dL_law_1123 rfl (lv_at hl 3 rfl) ?_
  have hcls := (fun A => cC_wealth l hst D cA A g ad nc nt dy mo I L (xs (i + 1)) hnc)
  have hw := zM_sumL (n := 100) (w2 := mw cA adm dy nc nt nl th mo I L) (cW_wealth l D cA g (cw cA (g 0) ad 6 nc nc 6 nt dy mo I L) rfl rfl cw_lt o h _ _ (xs (i + 1)) hcls (by
      intro E w' hp
      obtain ⟨-, -, e⟩ := hp
      exact e)) sum50_lt A
  refine zk_c (zk_rSH (w := lwW cA (g 0) ad adm o nc nt dy nl th mo I L h) (As := [.ref (ad (0, 0, 0)), .int (xs (i + 1)), .ref o]) (rest := []) (n := 3) C hw hH hS gL_law_L_wealth rfl rfl (by decide +kernel) ⟨Nat.le_of_ble_eq_true rfl, Nat.le_of_ble_eq_true rfl⟩ hl rfl (Nat.le_of_ble_eq_true rfl) dL_law_1124 ⟨by show cells + 1 ≤ 601024; omega, by show slots + 6 ≤ 7293034; omega⟩) hS (fun v_ W_ H locs hP hH_1 hS_1 => ?_)
  obtain ⟨W1, ⟨r, rfl, hC⟩, rfl⟩ := hP
  refine W.eq (g2 := F0 m 1127 ls [.int r]) rfl ?_
  have hk1 : ∀ k, W1.2.1 k → k.1 < 100 := by
    rcases hC with ⟨_, _, _, _, rfl⟩ | ⟨_, _, _, rfl⟩ <;> exact sum50_lt
  refine lv_istore (lv' := [(5, .int r), (0, .ref sb), (1, .ref (ad (0, 0, 0))), (2, .ref (adm (0, 0, 0))), (3, .ref o), (4, .int (nI i))]) hx hb dL_law_1127 hl (by decide) rfl (fun ls hl1 => ?_)
  refine lv_aload_n hx hb dL_law_1129 rfl (lv_at hl1 3 rfl) ?_
  refine lv_aload_n hx hb dL_law_1130 rfl (lv_at hl1 1 rfl) ?_
  refine lv_iload hx hb dL_law_1131 (lv_at hl1 5 rfl) ?_
  refine lv_iconst (v := 1) hx hb dL_law_1133 (by decide) ?_
  refine lv_iadd hx hb dL_law_1134 ?_
  refine lw_ld (j := 1) hx hb hX hbl hbA hS_1 hi hL0 (by decide) dL_law_1135 ?_
  have hm : zM l yX5_wealth wsX5_wealth rmM_wealth D (zt cA) A g (.ref ((zk_sum 100 W1 (mw cA adm dy nc nt nl th mo I L)).1 (100, 0, 0)) :: [.int (xs (i + 1))]) (zk_sum 100 W1 (mw cA adm dy nc nt nl th mo I L)) _ := zM_sumR (n := 100) (w1 := W1) (fun A => cM_wealth l D cA A g adm dy nc nt nl th mo I L (xs (i + 1)) hnc) hk1 A
  refine zk_c (zk_rV (w := zk_sum 100 W1 (mw cA adm dy nc nt nl th mo I L)) (As := [.int (xs (i + 1))]) (rest := []) (n := 1) (k := (100, 0, 0)) C hm hH_1 hS_1 (show (zk_sum 100 W1 (mw cA adm dy nc nt nl th mo I L)).2.1 (100, 0, 0) from mL_o) rfl rfl gL_law_X5_wealth rfl rfl (by decide +kernel) ⟨Nat.le_of_ble_eq_true rfl, Nat.le_of_ble_eq_true rfl⟩ hl1 rfl (Nat.le_of_ble_eq_true rfl) dL_law_1136 ⟨by show cells + 1 + 0 ≤ 601024; omega, by show slots + 6 + 0 ≤ 7293034; omega⟩) hS_1 (fun v_ W_ H locs hP hH_2 hS_2 => ?_)
  obtain ⟨w2, ⟨x, rfl, hM⟩, rfl⟩ := hP
  refine W.eq (g2 := F0 m 1139 ls [.long x]) rfl ?_
  obtain ⟨ad2, nc2, nt2, dy2, nl2, mo2, I2, L2, h2, hA, rfl, rfl, hI2, hv⟩ := tn_wealth hI hb8 (xs (i + 1)) hC hM
  refine lv_lstore (lv' := [(6, .long x), (5, .int r), (0, .ref sb), (1, .ref (ad (0, 0, 0))), (2, .ref (adm (0, 0, 0))), (3, .ref o), (4, .int (nI i))]) hx hb dL_law_1139 hl1 (by decide) rfl (fun ls hl2 => ?_)
  refine lv_aload_n hx hb dL_law_1141 rfl (lv_at hl2 4 rfl) ?_
  have ht : zM l yX5_thrown wsX5_thrown rmM_thrown D (zt cA) A g (.ref ((lwW cA (g 0) ad2 adm o nc2 nt2 dy2 nl2 r mo2 I2 L2 h2).1 (100, 0, 0)) :: []) (lwW cA (g 0) ad2 adm o nc2 nt2 dy2 nl2 r mo2 I2 L2 h2) _ := zM_sumR (n := 100) (w1 := zk_sum 50 (cw cA (g 0) ad2 6 nc2 nc2 6 nt2 dy2 mo2 I2 L2) (outW cA o h2)) (fun A => cM_thrown l D cA A g adm dy2 nc2 nt2 nl2 r mo2 I2 L2) sum50_lt A
  refine zk_c (zk_rV (w := lwW cA (g 0) ad2 adm o nc2 nt2 dy2 nl2 r mo2 I2 L2 h2) (As := []) (rest := []) (n := 0) (k := (100, 0, 0)) C ht hH_2 hS_2 (show (lwW cA (g 0) ad2 adm o nc2 nt2 dy2 nl2 r mo2 I2 L2 h2).2.1 (100, 0, 0) from mL_o) rfl rfl gL_law_X5_thrown rfl rfl (by decide +kernel) ⟨Nat.le_of_ble_eq_true rfl, Nat.le_of_ble_eq_true rfl⟩ hl2 rfl (Nat.le_of_ble_eq_true rfl) dL_law_1142 ⟨by show cells + 1 + 0 + 0 ≤ 601024; omega, by show slots + 6 + 0 + 0 ≤ 7293034; omega⟩) hS_2 (fun v_ W_ H locs hP hH_3 hS_3 => ?_)
  obtain ⟨w3, ⟨r3, rfl, rfl, rfl⟩, rfl⟩ := hP
  refine W.eq (g2 := F0 m 1145 ls [.int r]) rfl ?_
  have hl3 := lv_sub hl2 [2, 3, 4, 5, 6] rfl
  rw [← hA] at hl3
  refine lv_iload hx hb dL_law_1145 (lv_at hl2 1 rfl) ?_
  refine lv_icmp_eq (tgt := 1152) hx hb dL_law_1147 (by decide) (fun _ => ?_) (fun c9 => absurd rfl c9)
  refine lv_iload hx hb dL_law_1152 (lv_at hl2 1 rfl) ?_
  refine lv_if_ne (tgt := 1168) hx hb dL_law_1154 (by decide) (fun c1 => ?_) (fun c1 => ?_)
  · refine lv_goto (tgt := 1171) hx hb dL_law_1168 (by decide) ?_
    exact W.widen (by show cells + 1 + 0 + 0 ≤ cells + 30; omega) (by show slots + 6 + 0 + 0 ≤ slots + 2200; omega) (K ad2 nc2 nt2 dy2 nl2 r mo2 I2 L2 h2 H locs ls hH_3 hS_3 hI2 hl3)
  · have hr0 : r = 0 := by first | exact c1 | exact Classical.not_not.mp c1
    refine lv_aload_n hx hb dL_law_1157 rfl (lv_at hl2 5 rfl) ?_
    refine lv_iconst (v := 0) hx hb dL_law_1158 (by decide) ?_
    refine zr_lald C hH_3 (50, 0, 0) (show (lwW cA (g 0) ad2 adm o nc2 nt2 dy2 nl2 r mo2 I2 L2 h2).2.1 (50, 0, 0) from rfl) (f := h2) rfl 1 rfl (j := 0) rfl (by decide) (by decide) dL_law_1159 ?_
    refine lv_lload hx hb dL_law_1160 (lv_at hl2 0 rfl) ?_
    refine zl_cmp_eq (tgt := 1168) hx hb dL_law_1162 dL_law_1163 (by decide) (fun _ => ?_) (fun c2 => absurd (hv hr0) c2)
    refine lv_goto (tgt := 1171) hx hb dL_law_1168 (by decide) ?_
    exact W.widen (by show cells + 1 + 0 + 0 ≤ cells + 30; omega) (by show slots + 6 + 0 + 0 ≤ slots + 2200; omega) (K ad2 nc2 nt2 dy2 nl2 r mo2 I2 L2 h2 H locs ls hH_3 hS_3 hI2 hl3)
end LAW
