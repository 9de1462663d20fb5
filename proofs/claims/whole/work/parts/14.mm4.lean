def rmM_finds : Room := { frames := 2, cells := 0, slots := 0, locals := 61 }
set_option maxHeartbeats 600000 in
set_option maxRecDepth 100000 in
theorem cM_finds (l : Launch) (D : va_G) (cA : Nat → ClassId) (A : Nat → Prop) (g : Nat → Nat) (ad : zk_K → Nat) (dy nc nt nl : Nat) (th : Int32) (mo : Int64) (I : zIA) (L : zLA) (cc f : Nat) (hnt : nt ≤ 120) (hT16 : ∀ t, t < nt → zD (I 16 t) 7201) : zM l yX5_finds wsX5_finds rmM_finds D (zt cA) A g [.ref (ad (0, 0, 0)), .int (nI cc), .int (nI f)] (mw cA ad dy nc nt nl th mo I L) (zQv (fun w' => mw cA ad dy nc nt (fdS I L cc f nt).1 th mo (fdS I L cc f nt).2.1 (fdS I L cc f nt).2.2 = w')) := by
  refine zM_of (cc := cX5_finds) (maxL := 4) (ret := none) (own := RX5) (by decide +kernel) rfl (Nat.le_of_ble_eq_true rfl) rfl ?_
  intro p e s m below meth c C hr hnm H locs ls hH hS hl
  obtain ⟨⟨hx, hb, hml, hown, hts⟩, hG, hlk⟩ := id C
  have hin : ∀ w ∈ wsX50, w ∈ wsX5_finds := by decide +kernel
  have hl : lv_has ls 4 [(0, .ref (ad (0, 0, 0))), (1, .int (nI cc)), (2, .int (nI f))] := hl
  refine lv_aload_n hx hb dX5_finds_0 rfl (lv_at hl 0 rfl) ?_
  refine lv_iconst (v := 0) hx hb dX5_finds_1 (by decide) ?_
  refine zm_put C hin hH hS 18 (by decide) (by decide +kernel) rfl rfl rfl dX5_finds_2 dy nc nt 0 th mo (by rw [show (0 : Int32) = nI 0 from rfl]; rfl) (fun H locs hH_1 hS_2 => ?_)
  refine lv_iconst (v := 0) hx hb dX5_finds_5 (by decide) ?_
  refine lv_istore_n (lv' := [(3, .int 0), (0, .ref (ad (0, 0, 0))), (1, .int (nI cc)), (2, .int (nI f))]) hx hb dX5_finds_6 rfl hl (by decide) rfl (fun ls hl_3 => ?_)
  refine z_at (n := nt) (P := fun i_4 => zL p l e rmM_finds s m _ below meth c 4 D A _ (mw cA ad dy nc nt ((fdS I L cc f i_4).1) th mo ((fdS I L cc f i_4).2.1) ((fdS I L cc f i_4).2.2)) 0 0 7 [(0, .ref (ad (0, 0, 0))), (1, .int (nI cc)), (2, .int (nI f)), (3, .int (nI i_4))] []) 0 (Nat.zero_le _) (fun h => h _ _ _ hH_1 hS_2 (lv_sub hl_3 [1, 2, 3, 0] rfl)) ?_ ?_
  · intro H locs ls hH_6 hS_7 hl_8
    refine lv_iload_n hx hb dX5_finds_7 rfl (lv_at hl_8 3 rfl) ?_
    refine lv_aload_n hx hb dX5_finds_8 rfl (lv_at hl_8 0 rfl) ?_
    refine zm_get C hin hH_6 10 (by decide) (by decide +kernel) rfl dX5_finds_9 ?_
    refine lv_icmp_ge (tgt := 164) hx hb dX5_finds_12 (by decide) (fun c_9 => ?_) (fun c_9 => absurd (Int32.le_refl _) c_9)
    refine zr_vret C hr ?_ hH_6 hS_7 (Nat.le_of_ble_eq_true rfl) (Nat.le_of_ble_eq_true rfl) dX5_finds_164
    rfl
  · intro i_4 hi_4 ih_5 H locs ls hH_10 hS_11 hl_12
    refine lv_iload_n hx hb dX5_finds_7 rfl (lv_at hl_12 3 rfl) ?_
    refine lv_aload_n hx hb dX5_finds_8 rfl (lv_at hl_12 0 rfl) ?_
    refine zm_get C hin hH_10 10 (by decide) (by decide +kernel) rfl dX5_finds_9 ?_
    refine lv_icmp_ge (tgt := 164) hx hb dX5_finds_12 (by decide) (fun c_13 => absurd c_13 (nI_ge hi_4 (by first | decide | omega))) (fun c_13 => ?_)
    refine lv_aload_n hx hb dX5_finds_15 rfl (lv_at hl_12 0 rfl) ?_
    refine zm_get C hin hH_10 17 (by decide) (by decide +kernel) rfl dX5_finds_16 ?_
    refine lv_iload_n hx hb dX5_finds_19 rfl (lv_at hl_12 3 rfl) ?_
    refine zm_zld C hH_10 17 (by decide) rfl (j := i_4) rfl (show i_4 < 120 by omega) dX5_finds_20 ?_
    refine lv_if_eq (tgt := 158) hx hb dX5_finds_21 (by decide) (fun c_14 => ?_) (fun c_14 => ?_)
    · refine lv_iinc (v := nI (i_4 + 1)) (lv' := [(3, .int (nI (i_4 + 1))), (0, .ref (ad (0, 0, 0))), (1, .int (nI cc)), (2, .int (nI f))]) hx hb dX5_finds_158 hl_12 (k := 3) rfl (nI_1 i_4) (by decide) rfl (fun ls hl_15 => ?_)
      refine lv_goto (tgt := 7) hx hb dX5_finds_161 (by decide) ?_
      exact ih_5 _ _ _ (by rw [fdS_n (fun z => z.1 c_14)]; exact hH_10) hS_11 (lv_sub hl_15 [1, 2, 3, 0] rfl)
    · refine lv_aload_n hx hb dX5_finds_24 rfl (lv_at hl_12 0 rfl) ?_
      refine zm_get C hin hH_10 11 (by decide) (by decide +kernel) rfl dX5_finds_25 ?_
      refine lv_iload_n hx hb dX5_finds_28 rfl (lv_at hl_12 3 rfl) ?_
      refine zm_ild C hH_10 11 (by decide) rfl (j := i_4) rfl (show i_4 < 120 by omega) dX5_finds_29 ?_
      refine lv_iload_n hx hb dX5_finds_30 rfl (lv_at hl_12 1 rfl) ?_
      refine lv_icmp_ne (tgt := 158) hx hb dX5_finds_31 (by decide) (fun c_16 => ?_) (fun c_16 => ?_)
      · refine lv_iinc (v := nI (i_4 + 1)) (lv' := [(3, .int (nI (i_4 + 1))), (0, .ref (ad (0, 0, 0))), (1, .int (nI cc)), (2, .int (nI f))]) hx hb dX5_finds_158 hl_12 (k := 3) rfl (nI_1 i_4) (by decide) rfl (fun ls hl_17 => ?_)
        refine lv_goto (tgt := 7) hx hb dX5_finds_161 (by decide) ?_
        exact ih_5 _ _ _ (by rw [fdS_n (fun z => c_16 z.2.1)]; exact hH_10) hS_11 (lv_sub hl_17 [1, 2, 3, 0] rfl)
      · refine lv_aload_n hx hb dX5_finds_34 rfl (lv_at hl_12 0 rfl) ?_
        refine zm_get C hin hH_10 12 (by decide) (by decide +kernel) rfl dX5_finds_35 ?_
        refine lv_iload_n hx hb dX5_finds_38 rfl (lv_at hl_12 3 rfl) ?_
        refine zm_ild C hH_10 12 (by decide) rfl (j := i_4) rfl (show i_4 < 120 by omega) dX5_finds_39 ?_
        refine lv_iload_n hx hb dX5_finds_40 rfl (lv_at hl_12 2 rfl) ?_
        refine lv_icmp_ne (tgt := 158) hx hb dX5_finds_41 (by decide) (fun c_18 => ?_) (fun c_18 => ?_)
        · refine lv_iinc (v := nI (i_4 + 1)) (lv' := [(3, .int (nI (i_4 + 1))), (0, .ref (ad (0, 0, 0))), (1, .int (nI cc)), (2, .int (nI f))]) hx hb dX5_finds_158 hl_12 (k := 3) rfl (nI_1 i_4) (by decide) rfl (fun ls hl_19 => ?_)
          refine lv_goto (tgt := 7) hx hb dX5_finds_161 (by decide) ?_
          exact ih_5 _ _ _ (by rw [fdS_n (fun z => c_18 z.2.2)]; exact hH_10) hS_11 (lv_sub hl_19 [1, 2, 3, 0] rfl)
        · refine lv_aload_n hx hb dX5_finds_44 rfl (lv_at hl_12 0 rfl) ?_
          refine zm_get C hin hH_10 13 (by decide) (by decide +kernel) rfl dX5_finds_45 ?_
          refine lv_iload_n hx hb dX5_finds_48 rfl (lv_at hl_12 3 rfl) ?_
          refine zm_lld C hH_10 13 rfl (j := i_4) rfl (show i_4 < 120 by omega) dX5_finds_49 ?_
          refine lv_lconst (v := 0) hx hb dX5_finds_50 (by decide) ?_
          refine zl_cmp_le (tgt := 115) hx hb dX5_finds_51 dX5_finds_52 (by decide) (fun c_20 => ?_) (fun c_20 => ?_)
          · have hnl := fdS_nl (I := I) (L := L) (c := cc) (f := f) i_4
            refine lv_aload_n hx hb dX5_finds_115 rfl (lv_at hl_12 0 rfl) ?_
            refine zm_get C hin hH_10 22 (by decide) (by decide +kernel) rfl dX5_finds_116 ?_
            refine lv_aload_n hx hb dX5_finds_119 rfl (lv_at hl_12 0 rfl) ?_
            refine zm_get C hin hH_10 16 (by decide) (by decide +kernel) rfl dX5_finds_120 ?_
            refine lv_iload_n hx hb dX5_finds_123 rfl (lv_at hl_12 3 rfl) ?_
            refine zm_ild C hH_10 16 (by decide) rfl (j := i_4) rfl (show i_4 < 120 by omega) dX5_finds_124 ?_
            have hd_21 : zD (((fdS I L cc f i_4).2.1) 16 i_4) 7201 := (by rw [fdS_I (by decide)]; exact hT16 i_4 hi_4)
            have hd_21b := hd_21.2
            refine W.eq (g2 := F0 m 125 ls [.int (nI (dN (((fdS I L cc f i_4).2.1) 16 i_4))), .ref (ad (22, 0, 0))]) (by rw [← hd_21.1]) ?_
            refine lv_sipush (v := 360) hx hb dX5_finds_125 (by decide) ?_
            refine lv_idiv hx hb dX5_finds_128 (by decide) ?_
            refine W.eq (g2 := F0 m 129 ls [.int (nI ((dN (((fdS I L cc f i_4).2.1) 16 i_4)) / 360)), .ref (ad (22, 0, 0))]) (by rw [show ((nI (dN (((fdS I L cc f i_4).2.1) 16 i_4))) / 360 : Int32) = nI ((dN (((fdS I L cc f i_4).2.1) 16 i_4)) / 360) from (zi_div rfl (b := 360) rfl (by omega) (by decide) (by decide))]) ?_
            refine lv_dup2_11 hx hb dX5_finds_129 rfl rfl ?_
            refine zm_lld C hH_10 22 rfl (j := ((dN (((fdS I L cc f i_4).2.1) 16 i_4)) / 360)) rfl (show ((dN (((fdS I L cc f i_4).2.1) 16 i_4)) / 360) < 21 by omega) dX5_finds_130 ?_
            refine lv_aload_n hx hb dX5_finds_131 rfl (lv_at hl_12 0 rfl) ?_
            refine zm_get C hin hH_10 14 (by decide) (by decide +kernel) rfl dX5_finds_132 ?_
            refine lv_iload_n hx hb dX5_finds_135 rfl (lv_at hl_12 3 rfl) ?_
            refine zm_lld C hH_10 14 rfl (j := i_4) rfl (show i_4 < 120 by omega) dX5_finds_136 ?_
            refine lv_aload_n hx hb dX5_finds_137 rfl (lv_at hl_12 0 rfl) ?_
            refine zm_get C hin hH_10 15 (by decide) (by decide +kernel) rfl dX5_finds_138 ?_
            refine lv_iload_n hx hb dX5_finds_141 rfl (lv_at hl_12 3 rfl) ?_
            refine zm_lld C hH_10 15 rfl (j := i_4) rfl (show i_4 < 120 by omega) dX5_finds_142 ?_
            refine lv_lsub hx hb dX5_finds_143 ?_
            refine lv_aload_n hx hb dX5_finds_144 rfl (lv_at hl_12 0 rfl) ?_
            refine lv_aload_n hx hb dX5_finds_145 rfl (lv_at hl_12 0 rfl) ?_
            refine zm_get C hin hH_10 13 (by decide) (by decide +kernel) rfl dX5_finds_146 ?_
            refine lv_iload_n hx hb dX5_finds_149 rfl (lv_at hl_12 3 rfl) ?_
            refine zm_lld C hH_10 13 rfl (j := i_4) rfl (show i_4 < 120 by omega) dX5_finds_150 ?_
            refine lv_lneg hx hb dX5_finds_151 ?_
            refine zk_cl (zk_rV (As := [.long (-(((fdS I L cc f i_4).2.2) 13 i_4))]) (rest := [.long ((((fdS I L cc f i_4).2.2) 14 i_4) - (((fdS I L cc f i_4).2.2) 15 i_4)), .long (((fdS I L cc f i_4).2.2) 22 ((dN (((fdS I L cc f i_4).2.1) 16 i_4)) / 360)), .int (nI ((dN (((fdS I L cc f i_4).2.1) 16 i_4)) / 360)), .ref (ad (22, 0, 0))]) (n := 1) (k := (0, 0, 0)) C (cM_takes l D cA A g ad dy nc nt ((fdS I L cc f i_4).1) th mo ((fdS I L cc f i_4).2.1) ((fdS I L cc f i_4).2.2) (-(((fdS I L cc f i_4).2.2) 13 i_4)) (by omega)) hH_10 hS_11 mL_o rfl rfl gX5_finds_X5_takes rfl rfl (by decide +kernel) ⟨Nat.le_of_ble_eq_true rfl, Nat.le_of_ble_eq_true rfl⟩ hl_12 rfl (Nat.le_of_ble_eq_true rfl) dX5_finds_152 ⟨Nat.le_of_ble_eq_true rfl, Nat.le_of_ble_eq_true rfl⟩) hS_11 (fun r_22 w_23 H locs hP hH_24 hS_25 => ?_)
            obtain ⟨rfl, rfl⟩ := hP
            refine lv_lsub hx hb dX5_finds_155 ?_
            refine lv_ladd hx hb dX5_finds_156 ?_
            refine zm_lst C hH_24 hS_25 22 rfl (j := ((dN (((fdS I L cc f i_4).2.1) 16 i_4)) / 360)) rfl (show ((dN (((fdS I L cc f i_4).2.1) 16 i_4)) / 360) < 21 by omega) dX5_finds_157 (fun H locs hH_26 hS_27 => ?_)
            refine lv_iinc (v := nI (i_4 + 1)) (lv' := [(3, .int (nI (i_4 + 1))), (0, .ref (ad (0, 0, 0))), (1, .int (nI cc)), (2, .int (nI f))]) hx hb dX5_finds_158 hl_12 (k := 3) rfl (nI_1 i_4) (by decide) rfl (fun ls hl_28 => ?_)
            refine lv_goto (tgt := 7) hx hb dX5_finds_161 (by decide) ?_
            exact ih_5 _ _ _ (by rw [fdS_g ⟨c_14, c_16, c_18⟩ c_20]; exact hH_26) hS_27 (lv_sub hl_28 [1, 2, 3, 0] rfl)
          · have hnl := fdS_nl (I := I) (L := L) (c := cc) (f := f) i_4
            refine lv_aload_n hx hb dX5_finds_55 rfl (lv_at hl_12 0 rfl) ?_
            refine zm_get C hin hH_10 19 (by decide) (by decide +kernel) rfl dX5_finds_56 ?_
            refine lv_aload_n hx hb dX5_finds_59 rfl (lv_at hl_12 0 rfl) ?_
            refine zm_get C hin hH_10 18 (by decide) (by decide +kernel) rfl dX5_finds_60 ?_
            refine lv_iload_n hx hb dX5_finds_63 rfl (lv_at hl_12 3 rfl) ?_
            refine zm_ist C hH_10 hS_11 19 (by decide) rfl (j := (fdS I L cc f i_4).1) rfl (show (fdS I L cc f i_4).1 < 120 by omega) dX5_finds_64 (fun H locs hH_29 hS_30 => ?_)
            refine lv_aload_n hx hb dX5_finds_65 rfl (lv_at hl_12 0 rfl) ?_
            refine zm_get C hin hH_29 20 (by decide) (by decide +kernel) rfl dX5_finds_66 ?_
            refine lv_aload_n hx hb dX5_finds_69 rfl (lv_at hl_12 0 rfl) ?_
            refine zm_get C hin hH_29 18 (by decide) (by decide +kernel) rfl dX5_finds_70 ?_
            refine lv_aload_n hx hb dX5_finds_73 rfl (lv_at hl_12 0 rfl) ?_
            refine zm_get C hin hH_29 13 (by decide) (by decide +kernel) rfl dX5_finds_74 ?_
            refine lv_iload_n hx hb dX5_finds_77 rfl (lv_at hl_12 3 rfl) ?_
            refine zm_lld C hH_29 13 rfl (j := i_4) rfl (show i_4 < 120 by omega) dX5_finds_78 ?_
            refine zm_lst C hH_29 hS_30 20 rfl (j := (fdS I L cc f i_4).1) rfl (show (fdS I L cc f i_4).1 < 120 by omega) dX5_finds_79 (fun H locs hH_31 hS_32 => ?_)
            refine lv_aload_n hx hb dX5_finds_80 rfl (lv_at hl_12 0 rfl) ?_
            refine zm_get C hin hH_31 21 (by decide) (by decide +kernel) rfl dX5_finds_81 ?_
            refine lv_aload_n hx hb dX5_finds_84 rfl (lv_at hl_12 0 rfl) ?_
            refine zm_get C hin hH_31 18 (by decide) (by decide +kernel) rfl dX5_finds_85 ?_
            refine lv_aload_n hx hb dX5_finds_88 rfl (lv_at hl_12 0 rfl) ?_
            refine zm_get C hin hH_31 14 (by decide) (by decide +kernel) rfl dX5_finds_89 ?_
            refine lv_iload_n hx hb dX5_finds_92 rfl (lv_at hl_12 3 rfl) ?_
            refine zm_lld C hH_31 14 rfl (j := i_4) rfl (show i_4 < 120 by omega) dX5_finds_93 ?_
            refine lv_aload_n hx hb dX5_finds_94 rfl (lv_at hl_12 0 rfl) ?_
            refine zm_get C hin hH_31 15 (by decide) (by decide +kernel) rfl dX5_finds_95 ?_
            refine lv_iload_n hx hb dX5_finds_98 rfl (lv_at hl_12 3 rfl) ?_
            refine zm_lld C hH_31 15 rfl (j := i_4) rfl (show i_4 < 120 by omega) dX5_finds_99 ?_
            refine lv_ladd hx hb dX5_finds_100 ?_
            refine zm_lst C hH_31 hS_32 21 rfl (j := (fdS I L cc f i_4).1) rfl (show (fdS I L cc f i_4).1 < 120 by omega) dX5_finds_101 (fun H locs hH_33 hS_34 => ?_)
            refine lv_aload_n hx hb dX5_finds_102 rfl (lv_at hl_12 0 rfl) ?_
            refine lv_dup hx hb dX5_finds_103 rfl ?_
            refine zm_get C hin hH_33 18 (by decide) (by decide +kernel) rfl dX5_finds_104 ?_
            refine lv_iconst (v := 1) hx hb dX5_finds_107 (by decide) ?_
            refine lv_iadd hx hb dX5_finds_108 ?_
            refine W.eq (g2 := F0 m 109 ls [.int (nI (((fdS I L cc f i_4).1) + 1)), .ref (ad (0, 0, 0))]) (by rw [show ((nI ((fdS I L cc f i_4).1)) + 1 : Int32) = nI (((fdS I L cc f i_4).1) + 1) from (zi_add rfl rfl)]) ?_
            refine zm_put C hin hH_33 hS_34 18 (by decide) (by decide +kernel) rfl rfl rfl dX5_finds_109 dy nc nt (((fdS I L cc f i_4).1) + 1) th mo (by rw [show (nI (((fdS I L cc f i_4).1) + 1) : Int32) = nI (((fdS I L cc f i_4).1) + 1) from rfl]; rfl) (fun H locs hH_35 hS_36 => ?_)
            refine lv_goto (tgt := 158) hx hb dX5_finds_112 (by decide) ?_
            refine lv_iinc (v := nI (i_4 + 1)) (lv' := [(3, .int (nI (i_4 + 1))), (0, .ref (ad (0, 0, 0))), (1, .int (nI cc)), (2, .int (nI f))]) hx hb dX5_finds_158 hl_12 (k := 3) rfl (nI_1 i_4) (by decide) rfl (fun ls hl_37 => ?_)
            refine lv_goto (tgt := 7) hx hb dX5_finds_161 (by decide) ?_
            exact ih_5 _ _ _ (by rw [fdS_b ⟨c_14, c_16, c_18⟩ c_20]; exact hH_35) hS_36 (lv_sub hl_37 [1, 2, 3, 0] rfl)
def rmM_years : Room := { frames := 3, cells := 0, slots := 0, locals := 84 }
set_option maxHeartbeats 600000 in
set_option maxRecDepth 100000 in
theorem cM_years (l : Launch) (D : va_G) (cA : Nat → ClassId) (A : Nat → Prop) (g : Nat → Nat) (ad : zk_K → Nat) (dy nc nt nl : Nat) (th : Int32) (mo : Int64) (I : zIA) (L : zLA) (cc : Nat) (hnt : nt ≤ 120) (hT16 : ∀ t, t < nt → zD (I 16 t) 7201) : zM l yX5_years wsX5_years rmM_years D (zt cA) A g [.ref (ad (0, 0, 0)), .int (nI cc)] (mw cA ad dy nc nt nl th mo I L) (zQv (fun w' => mw cA ad dy nc nt (yearsS (nl, I, L) cc nt).1 th mo (yearsS (nl, I, L) cc nt).2.1 (yearsS (nl, I, L) cc nt).2.2 = w')) := by
  obtain ⟨n6, hn6⟩ : ∃ n : Nat, n = 6 := ⟨6, rfl⟩
  obtain ⟨n21, hn21⟩ : ∃ n : Nat, n = 21 := ⟨21, rfl⟩
  refine zM_of (cc := cX5_years) (maxL := 7) (ret := none) (own := RX5) (by decide +kernel) rfl (Nat.le_of_ble_eq_true rfl) rfl ?_
  intro p e s m below meth c C hr hnm H locs ls hH hS hl
  obtain ⟨⟨hx, hb, hml, hown, hts⟩, hG, hlk⟩ := id C
  have hin : ∀ w ∈ wsX50, w ∈ wsX5_years := by decide +kernel
  have hl : lv_has ls 7 [(0, .ref (ad (0, 0, 0))), (1, .int (nI cc))] := hl
  refine lv_iconst (v := 0) hx hb dX5_years_0 (by decide) ?_
  refine lv_istore_n (lv' := [(2, .int 0), (0, .ref (ad (0, 0, 0))), (1, .int (nI cc))]) hx hb dX5_years_1 rfl hl (by decide) rfl (fun ls hl_1 => ?_)
  refine z_at (n := n21) (P := fun i_2 => zL p l e rmM_years s m _ below meth c 7 D A _ (mw cA ad dy nc nt nl th mo I (zrS L i_2)) 0 0 2 [(0, .ref (ad (0, 0, 0))), (1, .int (nI cc)), (2, .int (nI i_2))] []) 0 (Nat.zero_le _) (fun h => h _ _ _ hH hS (lv_sub hl_1 [1, 2, 0] rfl)) ?_ ?_
  · intro H locs ls hH_4 hS_5 hl_6
    refine lv_iload_n hx hb dX5_years_2 rfl (lv_at hl_6 2 rfl) ?_
    refine lv_bipush (v := 21) hx hb dX5_years_3 (by decide) ?_
    refine lv_icmp_ge (tgt := 21) hx hb dX5_years_5 (by decide) (fun c_7 => ?_) (fun c_7 => absurd (by rw [hn21]; exact Int32.le_refl _) c_7)
    refine lv_iconst (v := 0) hx hb dX5_years_21 (by decide) ?_
    refine lv_istore_n (lv' := [(2, .int 0), (0, .ref (ad (0, 0, 0))), (1, .int (nI cc))]) hx hb dX5_years_22 rfl hl_6 (by decide) rfl (fun ls hl_8 => ?_)
    refine z_at (n := n6) (P := fun i_9 => zL p l e rmM_years s m _ below meth c 7 D A _ (mw cA ad dy nc nt ((fsS (nl, I, zrS L n21) cc nt i_9).1) th mo ((fsS (nl, I, zrS L n21) cc nt i_9).2.1) ((fsS (nl, I, zrS L n21) cc nt i_9).2.2)) 0 0 23 [(0, .ref (ad (0, 0, 0))), (1, .int (nI cc)), (2, .int (nI i_9))] []) 0 (Nat.zero_le _) (fun h => h _ _ _ hH_4 hS_5 (lv_sub hl_8 [1, 2, 0] rfl)) ?_ ?_
    · intro H locs ls hH_11 hS_12 hl_13
      refine lv_iload_n hx hb dX5_years_23 rfl (lv_at hl_13 2 rfl) ?_
      refine lv_bipush (v := 6) hx hb dX5_years_24 (by decide) ?_
      refine lv_icmp_ge (tgt := 41) hx hb dX5_years_26 (by decide) (fun c_14 => ?_) (fun c_14 => absurd (by rw [hn6]; exact Int32.le_refl _) c_14)
      refine lv_lconst (v := 0) hx hb dX5_years_41 (by decide) ?_
      refine lv_lstore_n (lv' := [(2, .long 0), (0, .ref (ad (0, 0, 0))), (1, .int (nI cc))]) hx hb dX5_years_42 rfl hl_13 (by decide) rfl (fun ls hl_15 => ?_)
      refine lv_iconst (v := 0) hx hb dX5_years_43 (by decide) ?_
      refine lv_istore (lv' := [(4, .int 0), (2, .long 0), (0, .ref (ad (0, 0, 0))), (1, .int (nI cc))]) hx hb dX5_years_44 hl_15 (by decide) rfl (fun ls hl_16 => ?_)
      refine z_at (n := n21) (P := fun i_17 => zL p l e rmM_years s m _ below meth c 7 D A _ (mw cA ad dy nc nt ((fsS (nl, I, zrS L n21) cc nt n6).1) th mo ((fsS (nl, I, zrS L n21) cc nt n6).2.1) ((byS (fsS (nl, I, zrS L n21) cc nt n6).2.2 i_17).2)) 0 0 46 [(0, .ref (ad (0, 0, 0))), (1, .int (nI cc)), (2, .long ((byS (fsS (nl, I, zrS L n21) cc nt n6).2.2 i_17).1)), (4, .int (nI i_17))] []) 0 (Nat.zero_le _) (fun h => h _ _ _ hH_11 hS_12 (lv_sub hl_16 [2, 3, 1, 0] rfl)) ?_ ?_
      · intro H locs ls hH_19 hS_20 hl_21
        refine lv_iload hx hb dX5_years_46 (lv_at hl_21 3 rfl) ?_
        refine lv_bipush (v := 21) hx hb dX5_years_48 (by decide) ?_
        refine lv_icmp_ge (tgt := 104) hx hb dX5_years_50 (by decide) (fun c_22 => ?_) (fun c_22 => absurd (by rw [hn21]; exact Int32.le_refl _) c_22)
        refine zr_vret C hr ?_ hH_19 hS_20 (Nat.le_of_ble_eq_true rfl) (Nat.le_of_ble_eq_true rfl) dX5_years_104
        rw [yearsS_v hn6 hn21]
      · intro i_17 hi_17 ih_18 H locs ls hH_23 hS_24 hl_25
        refine lv_iload hx hb dX5_years_46 (lv_at hl_25 3 rfl) ?_
        refine lv_bipush (v := 21) hx hb dX5_years_48 (by decide) ?_
        refine lv_icmp_ge (tgt := 104) hx hb dX5_years_50 (by decide) (fun c_26 => absurd c_26 (nI_ge (b := 21) (by omega) (by omega))) (fun c_26 => ?_)
        refine lv_aload_n hx hb dX5_years_53 rfl (lv_at hl_25 0 rfl) ?_
        refine zm_get C hin hH_23 22 (by decide) (by decide +kernel) rfl dX5_years_54 ?_
        refine lv_iload hx hb dX5_years_57 (lv_at hl_25 3 rfl) ?_
        refine zm_lld C hH_23 22 rfl (j := i_17) rfl (show i_17 < 21 by omega) dX5_years_59 ?_
        refine lv_lload_n hx hb dX5_years_60 rfl (lv_at hl_25 2 rfl) ?_
        refine lv_ladd hx hb dX5_years_61 ?_
        refine lv_lstore (lv' := [(5, .long ((((byS (fsS (nl, I, zrS L n21) cc nt n6).2.2 i_17).2) 22 i_17) + ((byS (fsS (nl, I, zrS L n21) cc nt n6).2.2 i_17).1))), (0, .ref (ad (0, 0, 0))), (1, .int (nI cc)), (2, .long ((byS (fsS (nl, I, zrS L n21) cc nt n6).2.2 i_17).1)), (4, .int (nI i_17))]) hx hb dX5_years_62 hl_25 (by decide) rfl (fun ls hl_27 => ?_)
        refine lv_aload_n hx hb dX5_years_64 rfl (lv_at hl_27 1 rfl) ?_
        refine zm_get C hin hH_23 23 (by decide) (by decide +kernel) rfl dX5_years_65 ?_
        refine lv_iload hx hb dX5_years_68 (lv_at hl_27 4 rfl) ?_
        refine lv_lload hx hb dX5_years_70 (lv_at hl_27 0 rfl) ?_
        refine lv_lconst (v := 0) hx hb dX5_years_72 (by decide) ?_
        refine zl_cmp_ge (tgt := 81) hx hb dX5_years_73 dX5_years_74 (by decide) (fun c_28 => ?_) (fun c_28 => ?_)
        · refine lv_lload hx hb dX5_years_81 (lv_at hl_27 0 rfl) ?_
          refine zm_lst C hH_23 hS_24 23 rfl (j := i_17) rfl (show i_17 < 21 by omega) dX5_years_83 (fun H locs hH_29 hS_30 => ?_)
          refine lv_lload hx hb dX5_years_84 (lv_at hl_27 0 rfl) ?_
          refine lv_lconst (v := 0) hx hb dX5_years_86 (by decide) ?_
          refine zl_cmp_ge (tgt := 96) hx hb dX5_years_87 dX5_years_88 (by decide) (fun c_31 => ?_) (fun c_31 => absurd c_31 (c_28))
          refine lv_lconst (v := 0) hx hb dX5_years_96 (by decide) ?_
          refine lv_lstore_n (lv' := [(2, .long 0), (5, .long ((((byS (fsS (nl, I, zrS L n21) cc nt n6).2.2 i_17).2) 22 i_17) + ((byS (fsS (nl, I, zrS L n21) cc nt n6).2.2 i_17).1))), (0, .ref (ad (0, 0, 0))), (1, .int (nI cc)), (4, .int (nI i_17))]) hx hb dX5_years_97 rfl hl_27 (by decide) rfl (fun ls hl_32 => ?_)
          refine lv_iinc (v := nI (i_17 + 1)) (lv' := [(4, .int (nI (i_17 + 1))), (2, .long 0), (5, .long ((((byS (fsS (nl, I, zrS L n21) cc nt n6).2.2 i_17).2) 22 i_17) + ((byS (fsS (nl, I, zrS L n21) cc nt n6).2.2 i_17).1))), (0, .ref (ad (0, 0, 0))), (1, .int (nI cc))]) hx hb dX5_years_98 hl_32 (k := 4) rfl (nI_1 i_17) (by decide) rfl (fun ls hl_33 => ?_)
          refine lv_goto (tgt := 46) hx hb dX5_years_101 (by decide) ?_
          exact ih_18 _ _ _ (by rw [byS_n c_28]; exact hH_29) hS_30 (by rw [byS_n c_28]; exact lv_sub hl_33 [3, 4, 1, 0] rfl)
        · refine lv_lconst (v := 0) hx hb dX5_years_77 (by decide) ?_
          refine lv_goto (tgt := 83) hx hb dX5_years_78 (by decide) ?_
          refine zm_lst C hH_23 hS_24 23 rfl (j := i_17) rfl (show i_17 < 21 by omega) dX5_years_83 (fun H locs hH_34 hS_35 => ?_)
          refine lv_lload hx hb dX5_years_84 (lv_at hl_27 0 rfl) ?_
          refine lv_lconst (v := 0) hx hb dX5_years_86 (by decide) ?_
          refine zl_cmp_ge (tgt := 96) hx hb dX5_years_87 dX5_years_88 (by decide) (fun c_36 => absurd c_28 c_36) (fun c_36 => ?_)
          refine lv_lload hx hb dX5_years_91 (lv_at hl_27 0 rfl) ?_
          refine lv_goto (tgt := 97) hx hb dX5_years_93 (by decide) ?_
          refine lv_lstore_n (lv' := [(2, .long ((((byS (fsS (nl, I, zrS L n21) cc nt n6).2.2 i_17).2) 22 i_17) + ((byS (fsS (nl, I, zrS L n21) cc nt n6).2.2 i_17).1))), (5, .long ((((byS (fsS (nl, I, zrS L n21) cc nt n6).2.2 i_17).2) 22 i_17) + ((byS (fsS (nl, I, zrS L n21) cc nt n6).2.2 i_17).1))), (0, .ref (ad (0, 0, 0))), (1, .int (nI cc)), (4, .int (nI i_17))]) hx hb dX5_years_97 rfl hl_27 (by decide) rfl (fun ls hl_37 => ?_)
          refine lv_iinc (v := nI (i_17 + 1)) (lv' := [(4, .int (nI (i_17 + 1))), (2, .long ((((byS (fsS (nl, I, zrS L n21) cc nt n6).2.2 i_17).2) 22 i_17) + ((byS (fsS (nl, I, zrS L n21) cc nt n6).2.2 i_17).1))), (5, .long ((((byS (fsS (nl, I, zrS L n21) cc nt n6).2.2 i_17).2) 22 i_17) + ((byS (fsS (nl, I, zrS L n21) cc nt n6).2.2 i_17).1))), (0, .ref (ad (0, 0, 0))), (1, .int (nI cc))]) hx hb dX5_years_98 hl_37 (k := 4) rfl (nI_1 i_17) (by decide) rfl (fun ls hl_38 => ?_)
          refine lv_goto (tgt := 46) hx hb dX5_years_101 (by decide) ?_
          exact ih_18 _ _ _ (by rw [byS_p c_28]; exact hH_34) hS_35 (by rw [byS_p c_28]; exact lv_sub hl_38 [3, 4, 1, 0] rfl)
    · intro i_9 hi_9 ih_10 H locs ls hH_39 hS_40 hl_41
      refine lv_iload_n hx hb dX5_years_23 rfl (lv_at hl_41 2 rfl) ?_
      refine lv_bipush (v := 6) hx hb dX5_years_24 (by decide) ?_
      refine lv_icmp_ge (tgt := 41) hx hb dX5_years_26 (by decide) (fun c_42 => absurd c_42 (nI_ge (b := 6) (by omega) (by omega))) (fun c_42 => ?_)
      refine lv_aload_n hx hb dX5_years_29 rfl (lv_at hl_41 0 rfl) ?_
      refine lv_iload_n hx hb dX5_years_30 rfl (lv_at hl_41 1 rfl) ?_
      refine lv_iload_n hx hb dX5_years_31 rfl (lv_at hl_41 2 rfl) ?_
      refine zk_cv (zk_rV (As := [.int (nI cc), .int (nI i_9)]) (rest := []) (n := 2) (k := (0, 0, 0)) C (cM_finds l D cA A g ad dy nc nt ((fsS (nl, I, zrS L n21) cc nt i_9).1) th mo ((fsS (nl, I, zrS L n21) cc nt i_9).2.1) ((fsS (nl, I, zrS L n21) cc nt i_9).2.2) cc i_9 hnt (by intro t ht; rw [fsS_I (by decide)]; exact hT16 t ht)) hH_39 hS_40 mL_o rfl rfl gX5_years_X5_finds rfl rfl (by decide +kernel) ⟨Nat.le_of_ble_eq_true rfl, Nat.le_of_ble_eq_true rfl⟩ hl_41 rfl (Nat.le_of_ble_eq_true rfl) dX5_years_32 ⟨Nat.le_of_ble_eq_true rfl, Nat.le_of_ble_eq_true rfl⟩) hS_40 (fun w_44 H locs hP hH_45 hS_46 => ?_)
      subst hP
      refine lv_iinc (v := nI (i_9 + 1)) (lv' := [(2, .int (nI (i_9 + 1))), (0, .ref (ad (0, 0, 0))), (1, .int (nI cc))]) hx hb dX5_years_35 hl_41 (k := 2) rfl (nI_1 i_9) (by decide) rfl (fun ls hl_47 => ?_)
      refine lv_goto (tgt := 23) hx hb dX5_years_38 (by decide) ?_
      exact ih_10 _ _ _ hH_45 hS_46 (lv_sub hl_47 [1, 2, 0] rfl)
  · intro i_2 hi_2 ih_3 H locs ls hH_48 hS_49 hl_50
    refine lv_iload_n hx hb dX5_years_2 rfl (lv_at hl_50 2 rfl) ?_
    refine lv_bipush (v := 21) hx hb dX5_years_3 (by decide) ?_
    refine lv_icmp_ge (tgt := 21) hx hb dX5_years_5 (by decide) (fun c_51 => absurd c_51 (nI_ge (b := 21) (by omega) (by omega))) (fun c_51 => ?_)
    refine lv_aload_n hx hb dX5_years_8 rfl (lv_at hl_50 0 rfl) ?_
    refine zm_get C hin hH_48 22 (by decide) (by decide +kernel) rfl dX5_years_9 ?_
    refine lv_iload_n hx hb dX5_years_12 rfl (lv_at hl_50 2 rfl) ?_
    refine lv_lconst (v := 0) hx hb dX5_years_13 (by decide) ?_
    refine zm_lst C hH_48 hS_49 22 rfl (j := i_2) rfl (show i_2 < 21 by omega) dX5_years_14 (fun H locs hH_52 hS_53 => ?_)
    refine lv_iinc (v := nI (i_2 + 1)) (lv' := [(2, .int (nI (i_2 + 1))), (0, .ref (ad (0, 0, 0))), (1, .int (nI cc))]) hx hb dX5_years_15 hl_50 (k := 2) rfl (nI_1 i_2) (by decide) rfl (fun ls hl_54 => ?_)
    refine lv_goto (tgt := 2) hx hb dX5_years_18 (by decide) ?_
    exact ih_3 _ _ _ hH_52 hS_53 (lv_sub hl_54 [1, 2, 0] rfl)
def rmM_isEnough : Room := { frames := 0, cells := 0, slots := 0, locals := 0 }
set_option maxHeartbeats 600000 in
set_option maxRecDepth 100000 in
theorem cM_isEnough (l : Launch) (D : va_G) (cA : Nat → ClassId) (A : Nat → Prop) (g : Nat → Nat) (ad : zk_K → Nat) (dy nc nt nl : Nat) (th : Int32) (mo : Int64) (I : zIA) (L : zLA) (cc f : Nat) (hnt : nt ≤ 120) : zM l yX5_isEnough wsX5_isEnough rmM_isEnough D (zt cA) A g [.ref (ad (0, 0, 0)), .int (nI cc), .int (nI f)] (mw cA ad dy nc nt nl th mo I L) (zQi (fun r w' => (enS I L cc f nt).1 = r ∧ mw cA ad dy nc nt nl th mo I L = w')) := by
  refine zM_of (cc := cX5_isEnough) (maxL := 7) (ret := (some .boolean)) (own := RX5) (by decide +kernel) rfl (Nat.le_of_ble_eq_true rfl) rfl ?_
  intro p e s m below meth c C hr hnm H locs ls hH hS hl
  obtain ⟨⟨hx, hb, hml, hown, hts⟩, hG, hlk⟩ := id C
  have hin : ∀ w ∈ wsX50, w ∈ wsX5_isEnough := by decide +kernel
  have hl : lv_has ls 7 [(0, .ref (ad (0, 0, 0))), (1, .int (nI cc)), (2, .int (nI f))] := hl
  refine lv_iconst (v := 1) hx hb dX5_isEnough_0 (by decide) ?_
  refine lv_istore_n (lv' := [(3, .int 1), (0, .ref (ad (0, 0, 0))), (1, .int (nI cc)), (2, .int (nI f))]) hx hb dX5_isEnough_1 rfl hl (by decide) rfl (fun ls hl_1 => ?_)
  refine lv_lconst (v := 0) hx hb dX5_isEnough_2 (by decide) ?_
  refine lv_lstore (lv' := [(4, .long 0), (3, .int 1), (0, .ref (ad (0, 0, 0))), (1, .int (nI cc)), (2, .int (nI f))]) hx hb dX5_isEnough_3 hl_1 (by decide) rfl (fun ls hl_2 => ?_)
  refine lv_iconst (v := 0) hx hb dX5_isEnough_5 (by decide) ?_
  refine lv_istore (lv' := [(6, .int 0), (4, .long 0), (3, .int 1), (0, .ref (ad (0, 0, 0))), (1, .int (nI cc)), (2, .int (nI f))]) hx hb dX5_isEnough_6 hl_2 (by decide) rfl (fun ls hl_3 => ?_)
  refine z_at (n := nt) (P := fun i_4 => zL p l e rmM_isEnough s m _ below meth c 7 D A _ (mw cA ad dy nc nt nl th mo I L) 0 0 8 [(0, .ref (ad (0, 0, 0))), (1, .int (nI cc)), (2, .int (nI f)), (3, .int ((enS I L cc f i_4).1)), (4, .long ((enS I L cc f i_4).2)), (6, .int (nI i_4))] []) 0 (Nat.zero_le _) (fun h => h _ _ _ hH hS (lv_sub hl_3 [3, 4, 5, 2, 1, 0] rfl)) ?_ ?_
  · intro H locs ls hH_6 hS_7 hl_8
    refine lv_iload hx hb dX5_isEnough_8 (lv_at hl_8 5 rfl) ?_
    refine lv_aload_n hx hb dX5_isEnough_10 rfl (lv_at hl_8 0 rfl) ?_
    refine zm_get C hin hH_6 10 (by decide) (by decide +kernel) rfl dX5_isEnough_11 ?_
    refine lv_icmp_ge (tgt := 88) hx hb dX5_isEnough_14 (by decide) (fun c_9 => ?_) (fun c_9 => absurd (Int32.le_refl _) c_9)
    refine lv_iload_n hx hb dX5_isEnough_88 rfl (lv_at hl_8 3 rfl) ?_
    refine zr_zret C hr (enS_01 nt) ?_ hH_6 hS_7 (Nat.le_of_ble_eq_true rfl) (Nat.le_of_ble_eq_true rfl) dX5_isEnough_89
    exact ⟨rfl, rfl⟩
  · intro i_4 hi_4 ih_5 H locs ls hH_10 hS_11 hl_12
    refine lv_iload hx hb dX5_isEnough_8 (lv_at hl_12 5 rfl) ?_
    refine lv_aload_n hx hb dX5_isEnough_10 rfl (lv_at hl_12 0 rfl) ?_
    refine zm_get C hin hH_10 10 (by decide) (by decide +kernel) rfl dX5_isEnough_11 ?_
    refine lv_icmp_ge (tgt := 88) hx hb dX5_isEnough_14 (by decide) (fun c_13 => absurd c_13 (nI_ge hi_4 (by first | decide | omega))) (fun c_13 => ?_)
    refine lv_lload hx hb dX5_isEnough_17 (lv_at hl_12 4 rfl) ?_
    refine lv_aload_n hx hb dX5_isEnough_19 rfl (lv_at hl_12 0 rfl) ?_
    refine zm_get C hin hH_10 17 (by decide) (by decide +kernel) rfl dX5_isEnough_20 ?_
    refine lv_iload hx hb dX5_isEnough_23 (lv_at hl_12 5 rfl) ?_
    refine zm_zld C hH_10 17 (by decide) rfl (j := i_4) rfl (show i_4 < 120 by omega) dX5_isEnough_25 ?_
    refine lv_if_eq (tgt := 61) hx hb dX5_isEnough_26 (by decide) (fun c_14 => ?_) (fun c_14 => ?_)
    · refine lv_lconst (v := 0) hx hb dX5_isEnough_61 (by decide) ?_
      refine lv_ladd hx hb dX5_isEnough_62 ?_
      refine lv_lstore (lv' := [(4, .long (((enS I L cc f i_4).2) + 0)), (0, .ref (ad (0, 0, 0))), (1, .int (nI cc)), (2, .int (nI f)), (3, .int ((enS I L cc f i_4).1)), (6, .int (nI i_4))]) hx hb dX5_isEnough_63 hl_12 (by decide) rfl (fun ls hl_15 => ?_)
      refine lv_iload_n hx hb dX5_isEnough_65 rfl (lv_at hl_15 4 rfl) ?_
      refine lv_if_eq (tgt := 80) hx hb dX5_isEnough_66 (by decide) (fun c_16 => ?_) (fun c_16 => ?_)
      · refine lv_iconst (v := 0) hx hb dX5_isEnough_80 (by decide) ?_
        refine lv_istore_n (lv' := [(3, .int 0), (4, .long (((enS I L cc f i_4).2) + 0)), (0, .ref (ad (0, 0, 0))), (1, .int (nI cc)), (2, .int (nI f)), (6, .int (nI i_4))]) hx hb dX5_isEnough_81 rfl hl_15 (by decide) rfl (fun ls hl_17 => ?_)
        refine lv_iinc (v := nI (i_4 + 1)) (lv' := [(6, .int (nI (i_4 + 1))), (3, .int 0), (4, .long (((enS I L cc f i_4).2) + 0)), (0, .ref (ad (0, 0, 0))), (1, .int (nI cc)), (2, .int (nI f))]) hx hb dX5_isEnough_82 hl_17 (k := 5) rfl (nI_1 i_4) (by decide) rfl (fun ls hl_18 => ?_)
        refine lv_goto (tgt := 8) hx hb dX5_isEnough_85 (by decide) ?_
        exact ih_5 _ _ _ hH_10 hS_11 (by rw [enS_n (if_neg (fun z => z.1 c_14)) (fun z => z.1 c_16)]; exact lv_sub hl_18 [3, 4, 5, 1, 2, 0] rfl)
      · refine lv_lload hx hb dX5_isEnough_69 (lv_at hl_15 0 rfl) ?_
        refine lv_lconst (v := 0) hx hb dX5_isEnough_71 (by decide) ?_
        refine zl_cmp_lt (tgt := 80) hx hb dX5_isEnough_72 dX5_isEnough_73 (by decide) (fun c_19 => ?_) (fun c_19 => ?_)
        · refine lv_iconst (v := 0) hx hb dX5_isEnough_80 (by decide) ?_
          refine lv_istore_n (lv' := [(3, .int 0), (4, .long (((enS I L cc f i_4).2) + 0)), (0, .ref (ad (0, 0, 0))), (1, .int (nI cc)), (2, .int (nI f)), (6, .int (nI i_4))]) hx hb dX5_isEnough_81 rfl hl_15 (by decide) rfl (fun ls hl_20 => ?_)
          refine lv_iinc (v := nI (i_4 + 1)) (lv' := [(6, .int (nI (i_4 + 1))), (3, .int 0), (4, .long (((enS I L cc f i_4).2) + 0)), (0, .ref (ad (0, 0, 0))), (1, .int (nI cc)), (2, .int (nI f))]) hx hb dX5_isEnough_82 hl_20 (k := 5) rfl (nI_1 i_4) (by decide) rfl (fun ls hl_21 => ?_)
          refine lv_goto (tgt := 8) hx hb dX5_isEnough_85 (by decide) ?_
          exact ih_5 _ _ _ hH_10 hS_11 (by rw [enS_n (if_neg (fun z => z.1 c_14)) (fun z => z.2 c_19)]; exact lv_sub hl_21 [3, 4, 5, 1, 2, 0] rfl)
        · refine lv_iconst (v := 1) hx hb dX5_isEnough_76 (by decide) ?_
          refine lv_goto (tgt := 81) hx hb dX5_isEnough_77 (by decide) ?_
          refine lv_istore_n (lv' := [(3, .int 1), (4, .long (((enS I L cc f i_4).2) + 0)), (0, .ref (ad (0, 0, 0))), (1, .int (nI cc)), (2, .int (nI f)), (6, .int (nI i_4))]) hx hb dX5_isEnough_81 rfl hl_15 (by decide) rfl (fun ls hl_22 => ?_)
          refine lv_iinc (v := nI (i_4 + 1)) (lv' := [(6, .int (nI (i_4 + 1))), (3, .int 1), (4, .long (((enS I L cc f i_4).2) + 0)), (0, .ref (ad (0, 0, 0))), (1, .int (nI cc)), (2, .int (nI f))]) hx hb dX5_isEnough_82 hl_22 (k := 5) rfl (nI_1 i_4) (by decide) rfl (fun ls hl_23 => ?_)
          refine lv_goto (tgt := 8) hx hb dX5_isEnough_85 (by decide) ?_
          exact ih_5 _ _ _ hH_10 hS_11 (by rw [enS_p (if_neg (fun z => z.1 c_14)) ⟨c_16, c_19⟩]; exact lv_sub hl_23 [3, 4, 5, 1, 2, 0] rfl)
    · refine lv_aload_n hx hb dX5_isEnough_29 rfl (lv_at hl_12 0 rfl) ?_
      refine zm_get C hin hH_10 11 (by decide) (by decide +kernel) rfl dX5_isEnough_30 ?_
      refine lv_iload hx hb dX5_isEnough_33 (lv_at hl_12 5 rfl) ?_
      refine zm_ild C hH_10 11 (by decide) rfl (j := i_4) rfl (show i_4 < 120 by omega) dX5_isEnough_35 ?_
      refine lv_iload_n hx hb dX5_isEnough_36 rfl (lv_at hl_12 1 rfl) ?_
      refine lv_icmp_ne (tgt := 61) hx hb dX5_isEnough_37 (by decide) (fun c_24 => ?_) (fun c_24 => ?_)
      · refine lv_lconst (v := 0) hx hb dX5_isEnough_61 (by decide) ?_
        refine lv_ladd hx hb dX5_isEnough_62 ?_
        refine lv_lstore (lv' := [(4, .long (((enS I L cc f i_4).2) + 0)), (0, .ref (ad (0, 0, 0))), (1, .int (nI cc)), (2, .int (nI f)), (3, .int ((enS I L cc f i_4).1)), (6, .int (nI i_4))]) hx hb dX5_isEnough_63 hl_12 (by decide) rfl (fun ls hl_25 => ?_)
        refine lv_iload_n hx hb dX5_isEnough_65 rfl (lv_at hl_25 4 rfl) ?_
        refine lv_if_eq (tgt := 80) hx hb dX5_isEnough_66 (by decide) (fun c_26 => ?_) (fun c_26 => ?_)
        · refine lv_iconst (v := 0) hx hb dX5_isEnough_80 (by decide) ?_
          refine lv_istore_n (lv' := [(3, .int 0), (4, .long (((enS I L cc f i_4).2) + 0)), (0, .ref (ad (0, 0, 0))), (1, .int (nI cc)), (2, .int (nI f)), (6, .int (nI i_4))]) hx hb dX5_isEnough_81 rfl hl_25 (by decide) rfl (fun ls hl_27 => ?_)
          refine lv_iinc (v := nI (i_4 + 1)) (lv' := [(6, .int (nI (i_4 + 1))), (3, .int 0), (4, .long (((enS I L cc f i_4).2) + 0)), (0, .ref (ad (0, 0, 0))), (1, .int (nI cc)), (2, .int (nI f))]) hx hb dX5_isEnough_82 hl_27 (k := 5) rfl (nI_1 i_4) (by decide) rfl (fun ls hl_28 => ?_)
          refine lv_goto (tgt := 8) hx hb dX5_isEnough_85 (by decide) ?_
          exact ih_5 _ _ _ hH_10 hS_11 (by rw [enS_n (if_neg (fun z => c_24 z.2.1)) (fun z => z.1 c_26)]; exact lv_sub hl_28 [3, 4, 5, 1, 2, 0] rfl)
        · refine lv_lload hx hb dX5_isEnough_69 (lv_at hl_25 0 rfl) ?_
          refine lv_lconst (v := 0) hx hb dX5_isEnough_71 (by decide) ?_
          refine zl_cmp_lt (tgt := 80) hx hb dX5_isEnough_72 dX5_isEnough_73 (by decide) (fun c_29 => ?_) (fun c_29 => ?_)
          · refine lv_iconst (v := 0) hx hb dX5_isEnough_80 (by decide) ?_
            refine lv_istore_n (lv' := [(3, .int 0), (4, .long (((enS I L cc f i_4).2) + 0)), (0, .ref (ad (0, 0, 0))), (1, .int (nI cc)), (2, .int (nI f)), (6, .int (nI i_4))]) hx hb dX5_isEnough_81 rfl hl_25 (by decide) rfl (fun ls hl_30 => ?_)
            refine lv_iinc (v := nI (i_4 + 1)) (lv' := [(6, .int (nI (i_4 + 1))), (3, .int 0), (4, .long (((enS I L cc f i_4).2) + 0)), (0, .ref (ad (0, 0, 0))), (1, .int (nI cc)), (2, .int (nI f))]) hx hb dX5_isEnough_82 hl_30 (k := 5) rfl (nI_1 i_4) (by decide) rfl (fun ls hl_31 => ?_)
            refine lv_goto (tgt := 8) hx hb dX5_isEnough_85 (by decide) ?_
            exact ih_5 _ _ _ hH_10 hS_11 (by rw [enS_n (if_neg (fun z => c_24 z.2.1)) (fun z => z.2 c_29)]; exact lv_sub hl_31 [3, 4, 5, 1, 2, 0] rfl)
          · refine lv_iconst (v := 1) hx hb dX5_isEnough_76 (by decide) ?_
            refine lv_goto (tgt := 81) hx hb dX5_isEnough_77 (by decide) ?_
            refine lv_istore_n (lv' := [(3, .int 1), (4, .long (((enS I L cc f i_4).2) + 0)), (0, .ref (ad (0, 0, 0))), (1, .int (nI cc)), (2, .int (nI f)), (6, .int (nI i_4))]) hx hb dX5_isEnough_81 rfl hl_25 (by decide) rfl (fun ls hl_32 => ?_)
            refine lv_iinc (v := nI (i_4 + 1)) (lv' := [(6, .int (nI (i_4 + 1))), (3, .int 1), (4, .long (((enS I L cc f i_4).2) + 0)), (0, .ref (ad (0, 0, 0))), (1, .int (nI cc)), (2, .int (nI f))]) hx hb dX5_isEnough_82 hl_32 (k := 5) rfl (nI_1 i_4) (by decide) rfl (fun ls hl_33 => ?_)
            refine lv_goto (tgt := 8) hx hb dX5_isEnough_85 (by decide) ?_
            exact ih_5 _ _ _ hH_10 hS_11 (by rw [enS_p (if_neg (fun z => c_24 z.2.1)) ⟨c_26, c_29⟩]; exact lv_sub hl_33 [3, 4, 5, 1, 2, 0] rfl)
      · refine lv_aload_n hx hb dX5_isEnough_40 rfl (lv_at hl_12 0 rfl) ?_
        refine zm_get C hin hH_10 12 (by decide) (by decide +kernel) rfl dX5_isEnough_41 ?_
        refine lv_iload hx hb dX5_isEnough_44 (lv_at hl_12 5 rfl) ?_
        refine zm_ild C hH_10 12 (by decide) rfl (j := i_4) rfl (show i_4 < 120 by omega) dX5_isEnough_46 ?_
        refine lv_iload_n hx hb dX5_isEnough_47 rfl (lv_at hl_12 2 rfl) ?_
        refine lv_icmp_ne (tgt := 61) hx hb dX5_isEnough_48 (by decide) (fun c_34 => ?_) (fun c_34 => ?_)
        · refine lv_lconst (v := 0) hx hb dX5_isEnough_61 (by decide) ?_
          refine lv_ladd hx hb dX5_isEnough_62 ?_
          refine lv_lstore (lv' := [(4, .long (((enS I L cc f i_4).2) + 0)), (0, .ref (ad (0, 0, 0))), (1, .int (nI cc)), (2, .int (nI f)), (3, .int ((enS I L cc f i_4).1)), (6, .int (nI i_4))]) hx hb dX5_isEnough_63 hl_12 (by decide) rfl (fun ls hl_35 => ?_)
          refine lv_iload_n hx hb dX5_isEnough_65 rfl (lv_at hl_35 4 rfl) ?_
          refine lv_if_eq (tgt := 80) hx hb dX5_isEnough_66 (by decide) (fun c_36 => ?_) (fun c_36 => ?_)
          · refine lv_iconst (v := 0) hx hb dX5_isEnough_80 (by decide) ?_
            refine lv_istore_n (lv' := [(3, .int 0), (4, .long (((enS I L cc f i_4).2) + 0)), (0, .ref (ad (0, 0, 0))), (1, .int (nI cc)), (2, .int (nI f)), (6, .int (nI i_4))]) hx hb dX5_isEnough_81 rfl hl_35 (by decide) rfl (fun ls hl_37 => ?_)
            refine lv_iinc (v := nI (i_4 + 1)) (lv' := [(6, .int (nI (i_4 + 1))), (3, .int 0), (4, .long (((enS I L cc f i_4).2) + 0)), (0, .ref (ad (0, 0, 0))), (1, .int (nI cc)), (2, .int (nI f))]) hx hb dX5_isEnough_82 hl_37 (k := 5) rfl (nI_1 i_4) (by decide) rfl (fun ls hl_38 => ?_)
            refine lv_goto (tgt := 8) hx hb dX5_isEnough_85 (by decide) ?_
            exact ih_5 _ _ _ hH_10 hS_11 (by rw [enS_n (if_neg (fun z => c_34 z.2.2)) (fun z => z.1 c_36)]; exact lv_sub hl_38 [3, 4, 5, 1, 2, 0] rfl)
          · refine lv_lload hx hb dX5_isEnough_69 (lv_at hl_35 0 rfl) ?_
            refine lv_lconst (v := 0) hx hb dX5_isEnough_71 (by decide) ?_
            refine zl_cmp_lt (tgt := 80) hx hb dX5_isEnough_72 dX5_isEnough_73 (by decide) (fun c_39 => ?_) (fun c_39 => ?_)
            · refine lv_iconst (v := 0) hx hb dX5_isEnough_80 (by decide) ?_
              refine lv_istore_n (lv' := [(3, .int 0), (4, .long (((enS I L cc f i_4).2) + 0)), (0, .ref (ad (0, 0, 0))), (1, .int (nI cc)), (2, .int (nI f)), (6, .int (nI i_4))]) hx hb dX5_isEnough_81 rfl hl_35 (by decide) rfl (fun ls hl_40 => ?_)
              refine lv_iinc (v := nI (i_4 + 1)) (lv' := [(6, .int (nI (i_4 + 1))), (3, .int 0), (4, .long (((enS I L cc f i_4).2) + 0)), (0, .ref (ad (0, 0, 0))), (1, .int (nI cc)), (2, .int (nI f))]) hx hb dX5_isEnough_82 hl_40 (k := 5) rfl (nI_1 i_4) (by decide) rfl (fun ls hl_41 => ?_)
              refine lv_goto (tgt := 8) hx hb dX5_isEnough_85 (by decide) ?_
              exact ih_5 _ _ _ hH_10 hS_11 (by rw [enS_n (if_neg (fun z => c_34 z.2.2)) (fun z => z.2 c_39)]; exact lv_sub hl_41 [3, 4, 5, 1, 2, 0] rfl)
            · refine lv_iconst (v := 1) hx hb dX5_isEnough_76 (by decide) ?_
              refine lv_goto (tgt := 81) hx hb dX5_isEnough_77 (by decide) ?_
              refine lv_istore_n (lv' := [(3, .int 1), (4, .long (((enS I L cc f i_4).2) + 0)), (0, .ref (ad (0, 0, 0))), (1, .int (nI cc)), (2, .int (nI f)), (6, .int (nI i_4))]) hx hb dX5_isEnough_81 rfl hl_35 (by decide) rfl (fun ls hl_42 => ?_)
              refine lv_iinc (v := nI (i_4 + 1)) (lv' := [(6, .int (nI (i_4 + 1))), (3, .int 1), (4, .long (((enS I L cc f i_4).2) + 0)), (0, .ref (ad (0, 0, 0))), (1, .int (nI cc)), (2, .int (nI f))]) hx hb dX5_isEnough_82 hl_42 (k := 5) rfl (nI_1 i_4) (by decide) rfl (fun ls hl_43 => ?_)
              refine lv_goto (tgt := 8) hx hb dX5_isEnough_85 (by decide) ?_
              exact ih_5 _ _ _ hH_10 hS_11 (by rw [enS_p (if_neg (fun z => c_34 z.2.2)) ⟨c_36, c_39⟩]; exact lv_sub hl_43 [3, 4, 5, 1, 2, 0] rfl)
        · refine lv_aload_n hx hb dX5_isEnough_51 rfl (lv_at hl_12 0 rfl) ?_
          refine zm_get C hin hH_10 13 (by decide) (by decide +kernel) rfl dX5_isEnough_52 ?_
          refine lv_iload hx hb dX5_isEnough_55 (lv_at hl_12 5 rfl) ?_
          refine zm_lld C hH_10 13 rfl (j := i_4) rfl (show i_4 < 120 by omega) dX5_isEnough_57 ?_
          refine lv_goto (tgt := 62) hx hb dX5_isEnough_58 (by decide) ?_
          refine lv_ladd hx hb dX5_isEnough_62 ?_
          refine lv_lstore (lv' := [(4, .long (((enS I L cc f i_4).2) + (L 13 i_4))), (0, .ref (ad (0, 0, 0))), (1, .int (nI cc)), (2, .int (nI f)), (3, .int ((enS I L cc f i_4).1)), (6, .int (nI i_4))]) hx hb dX5_isEnough_63 hl_12 (by decide) rfl (fun ls hl_44 => ?_)
          refine lv_iload_n hx hb dX5_isEnough_65 rfl (lv_at hl_44 4 rfl) ?_
          refine lv_if_eq (tgt := 80) hx hb dX5_isEnough_66 (by decide) (fun c_45 => ?_) (fun c_45 => ?_)
          · refine lv_iconst (v := 0) hx hb dX5_isEnough_80 (by decide) ?_
            refine lv_istore_n (lv' := [(3, .int 0), (4, .long (((enS I L cc f i_4).2) + (L 13 i_4))), (0, .ref (ad (0, 0, 0))), (1, .int (nI cc)), (2, .int (nI f)), (6, .int (nI i_4))]) hx hb dX5_isEnough_81 rfl hl_44 (by decide) rfl (fun ls hl_46 => ?_)
            refine lv_iinc (v := nI (i_4 + 1)) (lv' := [(6, .int (nI (i_4 + 1))), (3, .int 0), (4, .long (((enS I L cc f i_4).2) + (L 13 i_4))), (0, .ref (ad (0, 0, 0))), (1, .int (nI cc)), (2, .int (nI f))]) hx hb dX5_isEnough_82 hl_46 (k := 5) rfl (nI_1 i_4) (by decide) rfl (fun ls hl_47 => ?_)
            refine lv_goto (tgt := 8) hx hb dX5_isEnough_85 (by decide) ?_
            exact ih_5 _ _ _ hH_10 hS_11 (by rw [enS_n (if_pos ⟨c_14, c_24, c_34⟩) (fun z => z.1 c_45)]; exact lv_sub hl_47 [3, 4, 5, 1, 2, 0] rfl)
          · refine lv_lload hx hb dX5_isEnough_69 (lv_at hl_44 0 rfl) ?_
            refine lv_lconst (v := 0) hx hb dX5_isEnough_71 (by decide) ?_
            refine zl_cmp_lt (tgt := 80) hx hb dX5_isEnough_72 dX5_isEnough_73 (by decide) (fun c_48 => ?_) (fun c_48 => ?_)
            · refine lv_iconst (v := 0) hx hb dX5_isEnough_80 (by decide) ?_
              refine lv_istore_n (lv' := [(3, .int 0), (4, .long (((enS I L cc f i_4).2) + (L 13 i_4))), (0, .ref (ad (0, 0, 0))), (1, .int (nI cc)), (2, .int (nI f)), (6, .int (nI i_4))]) hx hb dX5_isEnough_81 rfl hl_44 (by decide) rfl (fun ls hl_49 => ?_)
              refine lv_iinc (v := nI (i_4 + 1)) (lv' := [(6, .int (nI (i_4 + 1))), (3, .int 0), (4, .long (((enS I L cc f i_4).2) + (L 13 i_4))), (0, .ref (ad (0, 0, 0))), (1, .int (nI cc)), (2, .int (nI f))]) hx hb dX5_isEnough_82 hl_49 (k := 5) rfl (nI_1 i_4) (by decide) rfl (fun ls hl_50 => ?_)
              refine lv_goto (tgt := 8) hx hb dX5_isEnough_85 (by decide) ?_
              exact ih_5 _ _ _ hH_10 hS_11 (by rw [enS_n (if_pos ⟨c_14, c_24, c_34⟩) (fun z => z.2 c_48)]; exact lv_sub hl_50 [3, 4, 5, 1, 2, 0] rfl)
            · refine lv_iconst (v := 1) hx hb dX5_isEnough_76 (by decide) ?_
              refine lv_goto (tgt := 81) hx hb dX5_isEnough_77 (by decide) ?_
              refine lv_istore_n (lv' := [(3, .int 1), (4, .long (((enS I L cc f i_4).2) + (L 13 i_4))), (0, .ref (ad (0, 0, 0))), (1, .int (nI cc)), (2, .int (nI f)), (6, .int (nI i_4))]) hx hb dX5_isEnough_81 rfl hl_44 (by decide) rfl (fun ls hl_51 => ?_)
              refine lv_iinc (v := nI (i_4 + 1)) (lv' := [(6, .int (nI (i_4 + 1))), (3, .int 1), (4, .long (((enS I L cc f i_4).2) + (L 13 i_4))), (0, .ref (ad (0, 0, 0))), (1, .int (nI cc)), (2, .int (nI f))]) hx hb dX5_isEnough_82 hl_51 (k := 5) rfl (nI_1 i_4) (by decide) rfl (fun ls hl_52 => ?_)
              refine lv_goto (tgt := 8) hx hb dX5_isEnough_85 (by decide) ?_
              exact ih_5 _ _ _ hH_10 hS_11 (by rw [enS_p (if_pos ⟨c_14, c_24, c_34⟩) ⟨c_45, c_48⟩]; exact lv_sub hl_52 [3, 4, 5, 1, 2, 0] rfl)
def rmM_isTrade : Room := { frames := 1, cells := 0, slots := 0, locals := 22 }
set_option maxHeartbeats 600000 in
set_option maxRecDepth 100000 in
theorem cM_isTrade (l : Launch) (D : va_G) (cA : Nat → ClassId) (A : Nat → Prop) (g : Nat → Nat) (ad : zk_K → Nat) (dy nc nt nl : Nat) (th : Int32) (mo : Int64) (I : zIA) (L : zLA) (tx : Int32) (hnt : nt ≤ 120) : zM l yX5_isTrade wsX5_isTrade rmM_isTrade D (zt cA) A g [.ref (ad (0, 0, 0)), .int tx] (mw cA ad dy nc nt nl th mo I L) (zQi (fun r w' => mw cA ad dy nc nt nl th mo I L = w' ∧ ((r = 1 ∧ zIn tx nt) ∨ (r = 0 ∧ ¬ zIn tx nt)))) := by
  refine zM_of (cc := cX5_isTrade) (maxL := 2) (ret := (some .boolean)) (own := RX5) (by decide +kernel) rfl (Nat.le_of_ble_eq_true rfl) rfl ?_
  intro p e s m below meth c C hr hnm H locs ls hH hS hl
  obtain ⟨⟨hx, hb, hml, hown, hts⟩, hG, hlk⟩ := id C
  have hin : ∀ w ∈ wsX50, w ∈ wsX5_isTrade := by decide +kernel
  have hl : lv_has ls 2 [(0, .ref (ad (0, 0, 0))), (1, .int tx)] := hl
  refine lv_iload_n hx hb dX5_isTrade_0 rfl (lv_at hl 1 rfl) ?_
  refine lv_iconst (v := 0) hx hb dX5_isTrade_1 (by decide) ?_
  refine lv_aload_n hx hb dX5_isTrade_2 rfl (lv_at hl 0 rfl) ?_
  refine zm_get C hin hH 10 (by decide) (by decide +kernel) rfl dX5_isTrade_3 ?_
  refine lv_iconst (v := 1) hx hb dX5_isTrade_6 (by decide) ?_
  refine lv_isub hx hb dX5_isTrade_7 ?_
  refine zk_ci (zk_rS (As := [.int tx, .int 0, .int ((nI nt) - 1)]) (rest := []) (n := 3) C (cM_isIn l D cA A g _ tx 0 ((nI nt) - 1)) hH hS gX5_isTrade_X5_isIn rfl rfl (by decide +kernel) ⟨Nat.le_of_ble_eq_true rfl, Nat.le_of_ble_eq_true rfl⟩ hl rfl (Nat.le_of_ble_eq_true rfl) dX5_isTrade_8 ⟨Nat.le_of_ble_eq_true rfl, Nat.le_of_ble_eq_true rfl⟩) hS (fun r_1 w_2 H locs hP hH_3 hS_4 => ?_)
  obtain ⟨rfl, (⟨rfl, h_r_1⟩ | ⟨rfl, h_r_1⟩)⟩ := hP
  · refine zr_zret C hr (Or.inr rfl) ?_ hH_3 hS_4 (Nat.le_of_ble_eq_true rfl) (Nat.le_of_ble_eq_true rfl) dX5_isTrade_11
    exact ⟨rfl, Or.inl ⟨rfl, zIn_of (by omega) h_r_1 rfl⟩⟩
  · refine zr_zret C hr (Or.inl rfl) ?_ hH_3 hS_4 (Nat.le_of_ble_eq_true rfl) (Nat.le_of_ble_eq_true rfl) dX5_isTrade_11
    exact ⟨rfl, Or.inr ⟨rfl, zIn_no (by omega) h_r_1 rfl⟩⟩
def rmM_canUnwind : Room := { frames := 1, cells := 0, slots := 0, locals := 26 }
set_option maxHeartbeats 600000 in
set_option maxRecDepth 100000 in
theorem cM_canUnwind (l : Launch) (D : va_G) (cA : Nat → ClassId) (A : Nat → Prop) (g : Nat → Nat) (ad : zk_K → Nat) (dy nc nt nl : Nat) (th : Int32) (mo : Int64) (I : zIA) (L : zLA) (t : Nat) (ht : t < nt) (hnt : nt ≤ 120) (hT17 : ∀ t, t < nt → I 17 t = 0 ∨ I 17 t = 1) (hT11 : ∀ t, t < nt → zD (I 11 t) 12) (hT12 : ∀ t, t < nt → zD (I 12 t) 6) : zM l yX5_canUnwind wsX5_canUnwind rmM_canUnwind D (zt cA) A g [.ref (ad (0, 0, 0)), .int (nI t)] (mw cA ad dy nc nt nl th mo I L) (zQi (fun r w' => (I 17 t = 0 ∧ 0 = r ∧ mw cA ad dy nc nt nl th mo I L = w') ∨ (¬ I 17 t = 0 ∧ (enS (up2 I 17 t 0) L (dN (I 11 t)) (dN (I 12 t)) nt).1 = r ∧ mw cA ad dy nc nt nl th mo I L = w'))) := by
  refine zM_of (cc := cX5_canUnwind) (maxL := 3) (ret := (some .boolean)) (own := RX5) (by decide +kernel) rfl (Nat.le_of_ble_eq_true rfl) rfl ?_
  intro p e s m below meth c C hr hnm H locs ls hH hS hl
  obtain ⟨⟨hx, hb, hml, hown, hts⟩, hG, hlk⟩ := id C
  have hin : ∀ w ∈ wsX50, w ∈ wsX5_canUnwind := by decide +kernel
  have hl : lv_has ls 3 [(0, .ref (ad (0, 0, 0))), (1, .int (nI t))] := hl
  refine lv_aload_n hx hb dX5_canUnwind_0 rfl (lv_at hl 0 rfl) ?_
  refine zm_get C hin hH 17 (by decide) (by decide +kernel) rfl dX5_canUnwind_1 ?_
  refine lv_iload_n hx hb dX5_canUnwind_4 rfl (lv_at hl 1 rfl) ?_
  refine zm_zld C hH 17 (by decide) rfl (j := t) rfl (show t < 120 by omega) dX5_canUnwind_5 ?_
  refine lv_if_ne (tgt := 11) hx hb dX5_canUnwind_6 (by decide) (fun c_1 => ?_) (fun c_1 => ?_)
  · refine lv_aload_n hx hb dX5_canUnwind_11 rfl (lv_at hl 0 rfl) ?_
    refine zm_get C hin hH 17 (by decide) (by decide +kernel) rfl dX5_canUnwind_12 ?_
    refine lv_iload_n hx hb dX5_canUnwind_15 rfl (lv_at hl 1 rfl) ?_
    refine lv_iconst (v := 0) hx hb dX5_canUnwind_16 (by decide) ?_
    refine zm_zst C hH hS 17 (by decide) rfl (Or.inl rfl) (j := t) rfl (show t < 120 by omega) dX5_canUnwind_17 (fun H locs hH_2 hS_3 => ?_)
    refine lv_aload_n hx hb dX5_canUnwind_18 rfl (lv_at hl 0 rfl) ?_
    refine lv_aload_n hx hb dX5_canUnwind_19 rfl (lv_at hl 0 rfl) ?_
    refine zm_get C hin hH_2 11 (by decide) (by decide +kernel) rfl dX5_canUnwind_20 ?_
    refine lv_iload_n hx hb dX5_canUnwind_23 rfl (lv_at hl 1 rfl) ?_
    refine zm_ild C hH_2 11 (by decide) rfl (j := t) rfl (show t < 120 by omega) dX5_canUnwind_24 ?_
    rw [up2_ne (show (11 : Nat) ≠ 17 by decide)]
    have hd_4 : zD (I 11 t) 12 := hT11 t ht
    have hd_4b := hd_4.2
    refine W.eq (g2 := F0 m 25 ls [.int (nI (dN (I 11 t))), .ref (ad (0, 0, 0))]) (by rw [← hd_4.1]) ?_
    refine lv_aload_n hx hb dX5_canUnwind_25 rfl (lv_at hl 0 rfl) ?_
    refine zm_get C hin hH_2 12 (by decide) (by decide +kernel) rfl dX5_canUnwind_26 ?_
    refine lv_iload_n hx hb dX5_canUnwind_29 rfl (lv_at hl 1 rfl) ?_
    refine zm_ild C hH_2 12 (by decide) rfl (j := t) rfl (show t < 120 by omega) dX5_canUnwind_30 ?_
    rw [up2_ne (show (12 : Nat) ≠ 17 by decide)]
    have hd_5 : zD (I 12 t) 6 := hT12 t ht
    have hd_5b := hd_5.2
    refine W.eq (g2 := F0 m 31 ls [.int (nI (dN (I 12 t))), .int (nI (dN (I 11 t))), .ref (ad (0, 0, 0))]) (by rw [← hd_5.1]) ?_
    refine zk_ci (zk_rV (As := [.int (nI (dN (I 11 t))), .int (nI (dN (I 12 t)))]) (rest := []) (n := 2) (k := (0, 0, 0)) C (cM_isEnough l D cA A g ad dy nc nt nl th mo (up2 I 17 t 0) L (dN (I 11 t)) (dN (I 12 t)) hnt) hH_2 hS_3 mL_o rfl rfl gX5_canUnwind_X5_isEnough rfl rfl (by decide +kernel) ⟨Nat.le_of_ble_eq_true rfl, Nat.le_of_ble_eq_true rfl⟩ hl rfl (Nat.le_of_ble_eq_true rfl) dX5_canUnwind_31 ⟨Nat.le_of_ble_eq_true rfl, Nat.le_of_ble_eq_true rfl⟩) hS_3 (fun r_6 w_7 H locs hP hH_8 hS_9 => ?_)
    obtain ⟨rfl, rfl⟩ := hP
    refine lv_istore_n (lv' := [(2, .int ((enS (up2 I 17 t 0) L (dN (I 11 t)) (dN (I 12 t)) nt).1)), (0, .ref (ad (0, 0, 0))), (1, .int (nI t))]) hx hb dX5_canUnwind_34 rfl hl (by decide) rfl (fun ls hl_10 => ?_)
    refine lv_aload_n hx hb dX5_canUnwind_35 rfl (lv_at hl_10 1 rfl) ?_
    refine zm_get C hin hH_8 17 (by decide) (by decide +kernel) rfl dX5_canUnwind_36 ?_
    refine lv_iload_n hx hb dX5_canUnwind_39 rfl (lv_at hl_10 2 rfl) ?_
    refine lv_iconst (v := 1) hx hb dX5_canUnwind_40 (by decide) ?_
    refine zm_zst C hH_8 hS_9 17 (by decide) rfl (Or.inr rfl) (j := t) rfl (show t < 120 by omega) dX5_canUnwind_41 (fun H locs hH_11 hS_12 => ?_)
    refine lv_iload_n hx hb dX5_canUnwind_42 rfl (lv_at hl_10 0 rfl) ?_
    refine zr_zret C hr (enS_01 nt) ?_ hH_11 hS_12 (Nat.le_of_ble_eq_true rfl) (Nat.le_of_ble_eq_true rfl) dX5_canUnwind_43
    exact Or.inr ⟨c_1, rfl, by rw [up2_back ((hT17 t ht).resolve_left c_1)]⟩
  · refine lv_iconst (v := 0) hx hb dX5_canUnwind_9 (by decide) ?_
    refine zr_zret C hr (Or.inl rfl) ?_ hH hS (Nat.le_of_ble_eq_true rfl) (Nat.le_of_ble_eq_true rfl) dX5_canUnwind_10
    exact Or.inl ⟨by assumption, rfl, rfl⟩
def rmM_complain : Room := { frames := 4, cells := 0, slots := 0, locals := 110 }
set_option maxHeartbeats 600000 in
set_option maxRecDepth 100000 in
theorem cM_complain (l : Launch) (D : va_G) (cA : Nat → ClassId) (A : Nat → Prop) (g : Nat → Nat) (ad : zk_K → Nat) (dy nc nt nl : Nat) (th : Int32) (mo : Int64) (I : zIA) (L : zLA) (tx : Int32) (hnt : nt ≤ 120) (hdy : dy ≤ 7200) (hT17 : ∀ t, t < nt → I 17 t = 0 ∨ I 17 t = 1) (hT11 : ∀ t, t < nt → zD (I 11 t) 12) (hT12 : ∀ t, t < nt → zD (I 12 t) 6) (hT16 : ∀ t, t < nt → zD (I 16 t) 7201) : zM l yX5_complain wsX5_complain rmM_complain D (zt cA) A g [.ref (ad (0, 0, 0)), .int tx] (mw cA ad dy nc nt nl th mo I L) (zQl (fun r w' => (¬ zIn tx nt ∧ mw cA ad dy nc nt nl 1 mo I L = w') ∨ (∃ j, j < nt ∧ tx = nI j ∧ ((¬ canS I L nt j ∧ mw cA ad dy nc nt nl 2 mo I L = w') ∨ (canS I L nt j ∧ (cpB nl I L nt dy (dN (I 11 j)) (dN (I 12 j)) j).1 = r ∧ mw cA ad dy nc nt (cpS nl I L nt (dN (I 11 j)) (dN (I 12 j)) j).1 0 (cpM I L (dN (I 11 j)) (dN (I 12 j)) j mo) (cpS nl I L nt (dN (I 11 j)) (dN (I 12 j)) j).2.1 (up2 (cpB nl I L nt dy (dN (I 11 j)) (dN (I 12 j)) j).2 6 (dN (I 11 j)) ((cpB nl I L nt dy (dN (I 11 j)) (dN (I 12 j)) j).2 6 (dN (I 11 j)) + (cpB nl I L nt dy (dN (I 11 j)) (dN (I 12 j)) j).1)) = w'))))) := by
  refine zM_of (cc := cX5_complain) (maxL := 6) (ret := (some .long)) (own := RX5) (by decide +kernel) rfl (Nat.le_of_ble_eq_true rfl) rfl ?_
  intro p e s m below meth c C hr hnm H locs ls hH hS hl
  obtain ⟨⟨hx, hb, hml, hown, hts⟩, hG, hlk⟩ := id C
  have hin : ∀ w ∈ wsX50, w ∈ wsX5_complain := by decide +kernel
  have hl : lv_has ls 6 [(0, .ref (ad (0, 0, 0))), (1, .int tx)] := hl
  refine lv_aload_n hx hb dX5_complain_0 rfl (lv_at hl 0 rfl) ?_
  refine lv_aload_n hx hb dX5_complain_1 rfl (lv_at hl 0 rfl) ?_
  refine lv_iload_n hx hb dX5_complain_2 rfl (lv_at hl 1 rfl) ?_
  refine zk_ci (zk_rV (As := [.int tx]) (rest := [.ref (ad (0, 0, 0))]) (n := 1) (k := (0, 0, 0)) C (cM_isTrade l D cA A g ad dy nc nt nl th mo I L tx hnt) hH hS mL_o rfl rfl gX5_complain_X5_isTrade rfl rfl (by decide +kernel) ⟨Nat.le_of_ble_eq_true rfl, Nat.le_of_ble_eq_true rfl⟩ hl rfl (Nat.le_of_ble_eq_true rfl) dX5_complain_3 ⟨Nat.le_of_ble_eq_true rfl, Nat.le_of_ble_eq_true rfl⟩) hS (fun r_1 w_2 H locs hP hH_3 hS_4 => ?_)
  obtain ⟨rfl, (⟨rfl, h_r_1⟩ | ⟨rfl, h_r_1⟩)⟩ := hP
  · obtain ⟨txj, htxj, rfl⟩ := h_r_1
    refine lv_if_ne (tgt := 13) hx hb dX5_complain_6 (by decide) (fun c_5 => ?_) (fun c_5 => absurd c_5 (by decide))
    refine lv_aload_n hx hb dX5_complain_13 rfl (lv_at hl 0 rfl) ?_
    refine lv_iload_n hx hb dX5_complain_14 rfl (lv_at hl 1 rfl) ?_
    refine zk_ci (zk_rV (As := [.int (nI txj)]) (rest := [.ref (ad (0, 0, 0))]) (n := 1) (k := (0, 0, 0)) C (cM_canUnwind l D cA A g ad dy nc nt nl th mo I L txj (by omega) hnt hT17 hT11 hT12) hH_3 hS_4 mL_o rfl rfl gX5_complain_X5_canUnwind rfl rfl (by decide +kernel) ⟨Nat.le_of_ble_eq_true rfl, Nat.le_of_ble_eq_true rfl⟩ hl rfl (Nat.le_of_ble_eq_true rfl) dX5_complain_15 ⟨Nat.le_of_ble_eq_true rfl, Nat.le_of_ble_eq_true rfl⟩) hS_4 (fun r_6 w_7 H locs hP hH_8 hS_9 => ?_)
    obtain (⟨h_r_6, rfl, rfl⟩ | ⟨h_r_6, rfl, rfl⟩) := hP
    · refine lv_if_eq (tgt := 25) hx hb dX5_complain_18 (by decide) (fun c_10 => ?_) (fun c_10 => absurd c_10 (by decide))
      refine lv_iconst (v := 2) hx hb dX5_complain_25 (by decide) ?_
      refine zk_ci (zk_rV (As := [.int 2]) (rest := []) (n := 1) (k := (0, 0, 0)) C (cM_fails l D cA A g ad dy nc nt nl th mo I L 2) hH_8 hS_9 mL_o rfl rfl gX5_complain_X5_fails rfl rfl (by decide +kernel) ⟨Nat.le_of_ble_eq_true rfl, Nat.le_of_ble_eq_true rfl⟩ hl rfl (Nat.le_of_ble_eq_true rfl) dX5_complain_26 ⟨Nat.le_of_ble_eq_true rfl, Nat.le_of_ble_eq_true rfl⟩) hS_9 (fun r_11 w_12 H locs hP hH_13 hS_14 => ?_)
      obtain ⟨rfl, rfl⟩ := hP
      refine lv_if_eq (tgt := 34) hx hb dX5_complain_29 (by decide) (fun c_15 => absurd c_15 (by decide)) (fun c_15 => ?_)
      refine lv_lconst (v := 0) hx hb dX5_complain_32 (by decide) ?_
      refine zr_lret C hr ?_ hH_13 hS_14 (Nat.le_of_ble_eq_true rfl) (Nat.le_of_ble_eq_true rfl) dX5_complain_33
      exact Or.inr ⟨txj, htxj, rfl, Or.inl ⟨fun z => by first | exact absurd h_r_6 z.1 | exact absurd c_10 z.2, rfl⟩⟩
    · refine lv_if_eq (tgt := 25) hx hb dX5_complain_18 (by decide) (fun c_16 => ?_) (fun c_16 => ?_)
      · refine lv_iconst (v := 2) hx hb dX5_complain_25 (by decide) ?_
        refine zk_ci (zk_rV (As := [.int 2]) (rest := []) (n := 1) (k := (0, 0, 0)) C (cM_fails l D cA A g ad dy nc nt nl th mo I L 2) hH_8 hS_9 mL_o rfl rfl gX5_complain_X5_fails rfl rfl (by decide +kernel) ⟨Nat.le_of_ble_eq_true rfl, Nat.le_of_ble_eq_true rfl⟩ hl rfl (Nat.le_of_ble_eq_true rfl) dX5_complain_26 ⟨Nat.le_of_ble_eq_true rfl, Nat.le_of_ble_eq_true rfl⟩) hS_9 (fun r_17 w_18 H locs hP hH_19 hS_20 => ?_)
        obtain ⟨rfl, rfl⟩ := hP
        refine lv_if_eq (tgt := 34) hx hb dX5_complain_29 (by decide) (fun c_21 => absurd c_21 (by decide)) (fun c_21 => ?_)
        refine lv_lconst (v := 0) hx hb dX5_complain_32 (by decide) ?_
        refine zr_lret C hr ?_ hH_19 hS_20 (Nat.le_of_ble_eq_true rfl) (Nat.le_of_ble_eq_true rfl) dX5_complain_33
        exact Or.inr ⟨txj, htxj, rfl, Or.inl ⟨fun z => by first | exact absurd h_r_6 z.1 | exact absurd c_16 z.2, rfl⟩⟩
      · refine lv_iconst (v := 0) hx hb dX5_complain_21 (by decide) ?_
        refine lv_goto (tgt := 26) hx hb dX5_complain_22 (by decide) ?_
        refine zk_ci (zk_rV (As := [.int 0]) (rest := []) (n := 1) (k := (0, 0, 0)) C (cM_fails l D cA A g ad dy nc nt nl th mo I L 0) hH_8 hS_9 mL_o rfl rfl gX5_complain_X5_fails rfl rfl (by decide +kernel) ⟨Nat.le_of_ble_eq_true rfl, Nat.le_of_ble_eq_true rfl⟩ hl rfl (Nat.le_of_ble_eq_true rfl) dX5_complain_26 ⟨Nat.le_of_ble_eq_true rfl, Nat.le_of_ble_eq_true rfl⟩) hS_9 (fun r_22 w_23 H locs hP hH_24 hS_25 => ?_)
        obtain ⟨rfl, rfl⟩ := hP
        refine lv_if_eq (tgt := 34) hx hb dX5_complain_29 (by decide) (fun c_26 => ?_) (fun c_26 => absurd c_26 (by decide))
        refine lv_aload_n hx hb dX5_complain_34 rfl (lv_at hl 0 rfl) ?_
        refine zm_get C hin hH_24 11 (by decide) (by decide +kernel) rfl dX5_complain_35 ?_
        refine lv_iload_n hx hb dX5_complain_38 rfl (lv_at hl 1 rfl) ?_
        refine zm_ild C hH_24 11 (by decide) rfl (j := txj) rfl (show txj < 120 by omega) dX5_complain_39 ?_
        have hd_27 : zD (I 11 txj) 12 := hT11 txj htxj
        have hd_27b := hd_27.2
        refine W.eq (g2 := F0 m 40 ls [.int (nI (dN (I 11 txj)))]) (by rw [← hd_27.1]) ?_
        refine lv_istore_n (lv' := [(2, .int (nI (dN (I 11 txj)))), (0, .ref (ad (0, 0, 0))), (1, .int (nI txj))]) hx hb dX5_complain_40 rfl hl (by decide) rfl (fun ls hl_28 => ?_)
        refine lv_aload_n hx hb dX5_complain_41 rfl (lv_at hl_28 1 rfl) ?_
        refine zm_get C hin hH_24 17 (by decide) (by decide +kernel) rfl dX5_complain_42 ?_
        refine lv_iload_n hx hb dX5_complain_45 rfl (lv_at hl_28 2 rfl) ?_
        refine lv_iconst (v := 0) hx hb dX5_complain_46 (by decide) ?_
        refine zm_zst C hH_24 hS_25 17 (by decide) rfl (Or.inl rfl) (j := txj) rfl (show txj < 120 by omega) dX5_complain_47 (fun H locs hH_29 hS_30 => ?_)
        refine lv_aload_n hx hb dX5_complain_48 rfl (lv_at hl_28 1 rfl) ?_
        refine lv_iload_n hx hb dX5_complain_49 rfl (lv_at hl_28 0 rfl) ?_
        refine lv_aload_n hx hb dX5_complain_50 rfl (lv_at hl_28 1 rfl) ?_
        refine zm_get C hin hH_29 13 (by decide) (by decide +kernel) rfl dX5_complain_51 ?_
        refine lv_iload_n hx hb dX5_complain_54 rfl (lv_at hl_28 2 rfl) ?_
        refine zm_lld C hH_29 13 rfl (j := txj) rfl (show txj < 120 by omega) dX5_complain_55 ?_
        refine lv_lconst (v := 0) hx hb dX5_complain_56 (by decide) ?_
        refine zl_cmp_le (tgt := 78) hx hb dX5_complain_57 dX5_complain_58 (by decide) (fun c_31 => ?_) (fun c_31 => ?_)
        · refine lv_aload_n hx hb dX5_complain_78 rfl (lv_at hl_28 1 rfl) ?_
          refine zm_get C hin hH_29 14 (by decide) (by decide +kernel) rfl dX5_complain_79 ?_
          refine lv_iload_n hx hb dX5_complain_82 rfl (lv_at hl_28 2 rfl) ?_
          refine zm_lld C hH_29 14 rfl (j := txj) rfl (show txj < 120 by omega) dX5_complain_83 ?_
          refine lv_aload_n hx hb dX5_complain_84 rfl (lv_at hl_28 1 rfl) ?_
          refine zm_get C hin hH_29 15 (by decide) (by decide +kernel) rfl dX5_complain_85 ?_
          refine lv_iload_n hx hb dX5_complain_88 rfl (lv_at hl_28 2 rfl) ?_
          refine zm_lld C hH_29 15 rfl (j := txj) rfl (show txj < 120 by omega) dX5_complain_89 ?_
          refine lv_lsub hx hb dX5_complain_90 ?_
          refine W.eq (g2 := F0 m 91 ls [.long (unpaidL L txj), .int (nI (dN (I 11 txj))), .ref (ad (0, 0, 0))]) (by rw [show unpaidL L txj = (L 14 txj) - (L 15 txj) from if_neg c_31]) ?_
          refine zk_cv (zk_rV (As := [.int (nI (dN (I 11 txj))), .long (unpaidL L txj)]) (rest := []) (n := 2) (k := (0, 0, 0)) C (cM_pays l D cA A g ad dy nc nt nl 0 mo (up2 I 17 txj 0) L (dN (I 11 txj)) (unpaidL L txj) (by omega)) hH_29 hS_30 mL_o rfl rfl gX5_complain_X5_pays rfl rfl (by decide +kernel) ⟨Nat.le_of_ble_eq_true rfl, Nat.le_of_ble_eq_true rfl⟩ hl_28 rfl (Nat.le_of_ble_eq_true rfl) dX5_complain_91 ⟨Nat.le_of_ble_eq_true rfl, Nat.le_of_ble_eq_true rfl⟩) hS_30 (fun w_33 H locs hP hH_34 hS_35 => ?_)
          subst hP
          refine lv_aload_n hx hb dX5_complain_94 rfl (lv_at hl_28 1 rfl) ?_
          refine lv_iload_n hx hb dX5_complain_95 rfl (lv_at hl_28 0 rfl) ?_
          refine lv_aload_n hx hb dX5_complain_96 rfl (lv_at hl_28 1 rfl) ?_
          refine zm_get C hin hH_34 12 (by decide) (by decide +kernel) rfl dX5_complain_97 ?_
          refine lv_iload_n hx hb dX5_complain_100 rfl (lv_at hl_28 2 rfl) ?_
          refine zm_ild C hH_34 12 (by decide) rfl (j := txj) rfl (show txj < 120 by omega) dX5_complain_101 ?_
          rw [up2_ne (show (12 : Nat) ≠ 17 by decide)]
          have hd_36 : zD (I 12 txj) 6 := hT12 txj htxj
          have hd_36b := hd_36.2
          refine W.eq (g2 := F0 m 102 ls [.int (nI (dN (I 12 txj))), .int (nI (dN (I 11 txj))), .ref (ad (0, 0, 0))]) (by rw [← hd_36.1]) ?_
          refine lv_aload_n hx hb dX5_complain_102 rfl (lv_at hl_28 1 rfl) ?_
          refine zm_get C hin hH_34 13 (by decide) (by decide +kernel) rfl dX5_complain_103 ?_
          refine lv_iload_n hx hb dX5_complain_106 rfl (lv_at hl_28 2 rfl) ?_
          refine zm_lld C hH_34 13 rfl (j := txj) rfl (show txj < 120 by omega) dX5_complain_107 ?_
          refine lv_lneg hx hb dX5_complain_108 ?_
          refine zk_cv (zk_rV (As := [.int (nI (dN (I 11 txj))), .int (nI (dN (I 12 txj))), .long (-((payL L (dN (I 11 txj)) (unpaidL L txj)) 13 txj))]) (rest := []) (n := 3) (k := (0, 0, 0)) C (cM_moves l D cA A g ad dy nc nt nl 0 (mo + (unpaidL L txj)) (up2 I 17 txj 0) (payL L (dN (I 11 txj)) (unpaidL L txj)) (dN (I 11 txj)) (dN (I 12 txj)) (-((payL L (dN (I 11 txj)) (unpaidL L txj)) 13 txj)) (by omega) (by omega)) hH_34 hS_35 mL_o rfl rfl gX5_complain_X5_moves rfl rfl (by decide +kernel) ⟨Nat.le_of_ble_eq_true rfl, Nat.le_of_ble_eq_true rfl⟩ hl_28 rfl (Nat.le_of_ble_eq_true rfl) dX5_complain_109 ⟨Nat.le_of_ble_eq_true rfl, Nat.le_of_ble_eq_true rfl⟩) hS_35 (fun w_38 H locs hP hH_39 hS_40 => ?_)
          subst hP
          refine lv_aload_n hx hb dX5_complain_112 rfl (lv_at hl_28 1 rfl) ?_
          refine lv_iload_n hx hb dX5_complain_113 rfl (lv_at hl_28 0 rfl) ?_
          refine zk_cv (zk_rV (As := [.int (nI (dN (I 11 txj)))]) (rest := []) (n := 1) (k := (0, 0, 0)) C (cM_years l D cA A g ad dy nc nt nl 0 (moveM (up2 I 17 txj 0) (payL L (dN (I 11 txj)) (unpaidL L txj)) (dN (I 12 txj)) (-((payL L (dN (I 11 txj)) (unpaidL L txj)) 13 txj)) (mo + (unpaidL L txj))) (up2 I 17 txj 0) (moveL (payL L (dN (I 11 txj)) (unpaidL L txj)) (dN (I 11 txj)) (dN (I 12 txj)) (-((payL L (dN (I 11 txj)) (unpaidL L txj)) 13 txj))) (dN (I 11 txj)) hnt (by intro t ht; rw [up2_ne (show (16 : Nat) ≠ 17 by decide)]; exact hT16 t ht)) hH_39 hS_40 mL_o rfl rfl gX5_complain_X5_years rfl rfl (by decide +kernel) ⟨Nat.le_of_ble_eq_true rfl, Nat.le_of_ble_eq_true rfl⟩ hl_28 rfl (Nat.le_of_ble_eq_true rfl) dX5_complain_114 ⟨Nat.le_of_ble_eq_true rfl, Nat.le_of_ble_eq_true rfl⟩) hS_40 (fun w_42 H locs hP hH_43 hS_44 => ?_)
          subst hP
          refine lv_lconst (v := 0) hx hb dX5_complain_117 (by decide) ?_
          refine lv_lstore_n (lv' := [(3, .long 0), (2, .int (nI (dN (I 11 txj)))), (0, .ref (ad (0, 0, 0))), (1, .int (nI txj))]) hx hb dX5_complain_118 rfl hl_28 (by decide) rfl (fun ls hl_45 => ?_)
          refine lv_iconst (v := 0) hx hb dX5_complain_119 (by decide) ?_
          refine lv_istore (lv' := [(5, .int 0), (3, .long 0), (2, .int (nI (dN (I 11 txj)))), (0, .ref (ad (0, 0, 0))), (1, .int (nI txj))]) hx hb dX5_complain_120 hl_45 (by decide) rfl (fun ls hl_46 => ?_)
          rw [cpM_e, cpS_e] at hH_43
          obtain ⟨Y, hY⟩ : ∃ z : zF, z = (cpS nl I L nt (dN (I 11 txj)) (dN (I 12 txj)) txj) := ⟨_, rfl⟩
          rw [← hY] at hH_43
          refine z_at (n := (dy / 360)) (P := fun i_47 => zL p l e rmM_complain s m _ below meth c 6 D A _ (mw cA ad dy nc nt Y.1 0 (cpM I L (dN (I 11 txj)) (dN (I 12 txj)) txj mo) Y.2.1 ((cbS Y.2.2 (dN (I 11 txj)) i_47).2)) 0 0 122 [(0, .ref (ad (0, 0, 0))), (1, .int (nI txj)), (2, .int (nI (dN (I 11 txj)))), (3, .long ((cbS Y.2.2 (dN (I 11 txj)) i_47).1)), (5, .int (nI i_47))] []) 0 (Nat.zero_le _) (fun h => h _ _ _ hH_43 hS_44 (lv_sub hl_46 [3, 4, 2, 1, 0] rfl)) ?_ ?_
          · intro H locs ls hH_49 hS_50 hl_51
            refine lv_iload hx hb dX5_complain_122 (lv_at hl_51 4 rfl) ?_
            refine lv_aload_n hx hb dX5_complain_124 rfl (lv_at hl_51 0 rfl) ?_
            refine zm_get C hin hH_49 0 (by decide) (by decide +kernel) rfl dX5_complain_125 ?_
            refine lv_sipush (v := 360) hx hb dX5_complain_128 (by decide) ?_
            refine lv_idiv hx hb dX5_complain_131 (by decide) ?_
            refine W.eq (g2 := F0 m 132 ls [.int (nI (dy / 360)), .int (nI (dy / 360))]) (by rw [show ((nI dy) / 360 : Int32) = nI (dy / 360) from (zi_div rfl (b := 360) rfl (by omega) (by decide) (by decide))]) ?_
            refine lv_icmp_ge (tgt := 191) hx hb dX5_complain_132 (by decide) (fun c_52 => ?_) (fun c_52 => absurd (Int32.le_refl _) c_52)
            refine lv_aload_n hx hb dX5_complain_191 rfl (lv_at hl_51 0 rfl) ?_
            refine zm_get C hin hH_49 6 (by decide) (by decide +kernel) rfl dX5_complain_192 ?_
            refine lv_iload_n hx hb dX5_complain_195 rfl (lv_at hl_51 2 rfl) ?_
            refine lv_dup2_11 hx hb dX5_complain_196 rfl rfl ?_
            refine zm_lld C hH_49 6 rfl (j := (dN (I 11 txj))) rfl (show (dN (I 11 txj)) < 12 by omega) dX5_complain_197 ?_
            refine lv_lload_n hx hb dX5_complain_198 rfl (lv_at hl_51 3 rfl) ?_
            refine lv_ladd hx hb dX5_complain_199 ?_
            refine zm_lst C hH_49 hS_50 6 rfl (j := (dN (I 11 txj))) rfl (show (dN (I 11 txj)) < 12 by omega) dX5_complain_200 (fun H locs hH_53 hS_54 => ?_)
            refine lv_lload_n hx hb dX5_complain_201 rfl (lv_at hl_51 3 rfl) ?_
            refine zr_lret C hr ?_ hH_53 hS_54 (Nat.le_of_ble_eq_true rfl) (Nat.le_of_ble_eq_true rfl) dX5_complain_202
            subst hY
            exact Or.inr ⟨txj, htxj, rfl, Or.inr ⟨⟨h_r_6, c_16⟩, rfl, rfl⟩⟩
          · intro i_47 hi_47 ih_48 H locs ls hH_55 hS_56 hl_57
            refine lv_iload hx hb dX5_complain_122 (lv_at hl_57 4 rfl) ?_
            refine lv_aload_n hx hb dX5_complain_124 rfl (lv_at hl_57 0 rfl) ?_
            refine zm_get C hin hH_55 0 (by decide) (by decide +kernel) rfl dX5_complain_125 ?_
            refine lv_sipush (v := 360) hx hb dX5_complain_128 (by decide) ?_
            refine lv_idiv hx hb dX5_complain_131 (by decide) ?_
            refine W.eq (g2 := F0 m 132 ls [.int (nI (dy / 360)), .int (nI i_47)]) (by rw [show ((nI dy) / 360 : Int32) = nI (dy / 360) from (zi_div rfl (b := 360) rfl (by omega) (by decide) (by decide))]) ?_
            refine lv_icmp_ge (tgt := 191) hx hb dX5_complain_132 (by decide) (fun c_58 => absurd c_58 (nI_ge hi_47 (by first | decide | omega))) (fun c_58 => ?_)
            refine lv_lload_n hx hb dX5_complain_135 rfl (lv_at hl_57 3 rfl) ?_
            refine lv_aload_n hx hb dX5_complain_136 rfl (lv_at hl_57 0 rfl) ?_
            refine zm_get C hin hH_55 9 (by decide) (by decide +kernel) rfl dX5_complain_137 ?_
            refine lv_bipush (v := 21) hx hb dX5_complain_140 (by decide) ?_
            refine lv_iload_n hx hb dX5_complain_142 rfl (lv_at hl_57 2 rfl) ?_
            refine lv_imul hx hb dX5_complain_143 ?_
            refine lv_iload hx hb dX5_complain_144 (lv_at hl_57 4 rfl) ?_
            refine lv_iadd hx hb dX5_complain_146 ?_
            refine W.eq (g2 := F0 m 147 ls [.int (nI ((21 * (dN (I 11 txj))) + i_47)), .ref (ad (9, 0, 0)), .long ((cbS Y.2.2 (dN (I 11 txj)) i_47).1)]) (by rw [show ((21 * (nI (dN (I 11 txj)))) + (nI i_47) : Int32) = nI ((21 * (dN (I 11 txj))) + i_47) from (zi_add (zi_mul rfl rfl) rfl)]) ?_
            refine zm_lld C hH_55 9 rfl (j := ((21 * (dN (I 11 txj))) + i_47)) rfl (show ((21 * (dN (I 11 txj))) + i_47) < 252 by omega) dX5_complain_147 ?_
            refine lv_aload_n hx hb dX5_complain_148 rfl (lv_at hl_57 0 rfl) ?_
            refine zm_get C hin hH_55 23 (by decide) (by decide +kernel) rfl dX5_complain_149 ?_
            refine lv_iload hx hb dX5_complain_152 (lv_at hl_57 4 rfl) ?_
            refine zm_lld C hH_55 23 rfl (j := i_47) rfl (show i_47 < 21 by omega) dX5_complain_154 ?_
            refine lv_ldc2 (v := 4) hx hb hown (hts (.constantLong RX5 188 4) (by decide +kernel)) dX5_complain_155 ?_
            refine lv_ldiv hx hb dX5_complain_158 (by decide) ?_
            refine lv_lsub hx hb dX5_complain_159 ?_
            refine lv_ladd hx hb dX5_complain_160 ?_
            refine lv_lstore_n (lv' := [(3, .long (((cbS Y.2.2 (dN (I 11 txj)) i_47).1) + ((((cbS Y.2.2 (dN (I 11 txj)) i_47).2) 9 ((21 * (dN (I 11 txj))) + i_47)) - ((((cbS Y.2.2 (dN (I 11 txj)) i_47).2) 23 i_47) / 4)))), (0, .ref (ad (0, 0, 0))), (1, .int (nI txj)), (2, .int (nI (dN (I 11 txj)))), (5, .int (nI i_47))]) hx hb dX5_complain_161 rfl hl_57 (by decide) rfl (fun ls hl_59 => ?_)
            refine lv_aload_n hx hb dX5_complain_162 rfl (lv_at hl_59 1 rfl) ?_
            refine zm_get C hin hH_55 9 (by decide) (by decide +kernel) rfl dX5_complain_163 ?_
            refine lv_bipush (v := 21) hx hb dX5_complain_166 (by decide) ?_
            refine lv_iload_n hx hb dX5_complain_168 rfl (lv_at hl_59 3 rfl) ?_
            refine lv_imul hx hb dX5_complain_169 ?_
            refine lv_iload hx hb dX5_complain_170 (lv_at hl_59 4 rfl) ?_
            refine lv_iadd hx hb dX5_complain_172 ?_
            refine W.eq (g2 := F0 m 173 ls [.int (nI ((21 * (dN (I 11 txj))) + i_47)), .ref (ad (9, 0, 0))]) (by rw [show ((21 * (nI (dN (I 11 txj)))) + (nI i_47) : Int32) = nI ((21 * (dN (I 11 txj))) + i_47) from (zi_add (zi_mul rfl rfl) rfl)]) ?_
            refine lv_aload_n hx hb dX5_complain_173 rfl (lv_at hl_59 1 rfl) ?_
            refine zm_get C hin hH_55 23 (by decide) (by decide +kernel) rfl dX5_complain_174 ?_
            refine lv_iload hx hb dX5_complain_177 (lv_at hl_59 4 rfl) ?_
            refine zm_lld C hH_55 23 rfl (j := i_47) rfl (show i_47 < 21 by omega) dX5_complain_179 ?_
            refine lv_ldc2 (v := 4) hx hb hown (hts (.constantLong RX5 188 4) (by decide +kernel)) dX5_complain_180 ?_
            refine lv_ldiv hx hb dX5_complain_183 (by decide) ?_
            refine zm_lst C hH_55 hS_56 9 rfl (j := ((21 * (dN (I 11 txj))) + i_47)) rfl (show ((21 * (dN (I 11 txj))) + i_47) < 252 by omega) dX5_complain_184 (fun H locs hH_60 hS_61 => ?_)
            refine lv_iinc (v := nI (i_47 + 1)) (lv' := [(5, .int (nI (i_47 + 1))), (3, .long (((cbS Y.2.2 (dN (I 11 txj)) i_47).1) + ((((cbS Y.2.2 (dN (I 11 txj)) i_47).2) 9 ((21 * (dN (I 11 txj))) + i_47)) - ((((cbS Y.2.2 (dN (I 11 txj)) i_47).2) 23 i_47) / 4)))), (0, .ref (ad (0, 0, 0))), (1, .int (nI txj)), (2, .int (nI (dN (I 11 txj))))]) hx hb dX5_complain_185 hl_59 (k := 4) rfl (nI_1 i_47) (by decide) rfl (fun ls hl_62 => ?_)
            refine lv_goto (tgt := 122) hx hb dX5_complain_188 (by decide) ?_
            exact ih_48 _ _ _ hH_60 hS_61 (lv_sub hl_62 [2, 3, 4, 1, 0] rfl)
        · refine lv_aload_n hx hb dX5_complain_61 rfl (lv_at hl_28 1 rfl) ?_
          refine zm_get C hin hH_29 14 (by decide) (by decide +kernel) rfl dX5_complain_62 ?_
          refine lv_iload_n hx hb dX5_complain_65 rfl (lv_at hl_28 2 rfl) ?_
          refine zm_lld C hH_29 14 rfl (j := txj) rfl (show txj < 120 by omega) dX5_complain_66 ?_
          refine lv_lneg hx hb dX5_complain_67 ?_
          refine lv_aload_n hx hb dX5_complain_68 rfl (lv_at hl_28 1 rfl) ?_
          refine zm_get C hin hH_29 15 (by decide) (by decide +kernel) rfl dX5_complain_69 ?_
          refine lv_iload_n hx hb dX5_complain_72 rfl (lv_at hl_28 2 rfl) ?_
          refine zm_lld C hH_29 15 rfl (j := txj) rfl (show txj < 120 by omega) dX5_complain_73 ?_
          refine lv_lsub hx hb dX5_complain_74 ?_
          refine lv_goto (tgt := 91) hx hb dX5_complain_75 (by decide) ?_
          refine W.eq (g2 := F0 m 91 ls [.long (unpaidL L txj), .int (nI (dN (I 11 txj))), .ref (ad (0, 0, 0))]) (by rw [show unpaidL L txj = (-(L 14 txj)) - (L 15 txj) from if_pos c_31]) ?_
          refine zk_cv (zk_rV (As := [.int (nI (dN (I 11 txj))), .long (unpaidL L txj)]) (rest := []) (n := 2) (k := (0, 0, 0)) C (cM_pays l D cA A g ad dy nc nt nl 0 mo (up2 I 17 txj 0) L (dN (I 11 txj)) (unpaidL L txj) (by omega)) hH_29 hS_30 mL_o rfl rfl gX5_complain_X5_pays rfl rfl (by decide +kernel) ⟨Nat.le_of_ble_eq_true rfl, Nat.le_of_ble_eq_true rfl⟩ hl_28 rfl (Nat.le_of_ble_eq_true rfl) dX5_complain_91 ⟨Nat.le_of_ble_eq_true rfl, Nat.le_of_ble_eq_true rfl⟩) hS_30 (fun w_64 H locs hP hH_65 hS_66 => ?_)
          subst hP
          refine lv_aload_n hx hb dX5_complain_94 rfl (lv_at hl_28 1 rfl) ?_
          refine lv_iload_n hx hb dX5_complain_95 rfl (lv_at hl_28 0 rfl) ?_
          refine lv_aload_n hx hb dX5_complain_96 rfl (lv_at hl_28 1 rfl) ?_
          refine zm_get C hin hH_65 12 (by decide) (by decide +kernel) rfl dX5_complain_97 ?_
          refine lv_iload_n hx hb dX5_complain_100 rfl (lv_at hl_28 2 rfl) ?_
          refine zm_ild C hH_65 12 (by decide) rfl (j := txj) rfl (show txj < 120 by omega) dX5_complain_101 ?_
          rw [up2_ne (show (12 : Nat) ≠ 17 by decide)]
          have hd_67 : zD (I 12 txj) 6 := hT12 txj htxj
          have hd_67b := hd_67.2
          refine W.eq (g2 := F0 m 102 ls [.int (nI (dN (I 12 txj))), .int (nI (dN (I 11 txj))), .ref (ad (0, 0, 0))]) (by rw [← hd_67.1]) ?_
          refine lv_aload_n hx hb dX5_complain_102 rfl (lv_at hl_28 1 rfl) ?_
          refine zm_get C hin hH_65 13 (by decide) (by decide +kernel) rfl dX5_complain_103 ?_
          refine lv_iload_n hx hb dX5_complain_106 rfl (lv_at hl_28 2 rfl) ?_
          refine zm_lld C hH_65 13 rfl (j := txj) rfl (show txj < 120 by omega) dX5_complain_107 ?_
          refine lv_lneg hx hb dX5_complain_108 ?_
          refine zk_cv (zk_rV (As := [.int (nI (dN (I 11 txj))), .int (nI (dN (I 12 txj))), .long (-((payL L (dN (I 11 txj)) (unpaidL L txj)) 13 txj))]) (rest := []) (n := 3) (k := (0, 0, 0)) C (cM_moves l D cA A g ad dy nc nt nl 0 (mo + (unpaidL L txj)) (up2 I 17 txj 0) (payL L (dN (I 11 txj)) (unpaidL L txj)) (dN (I 11 txj)) (dN (I 12 txj)) (-((payL L (dN (I 11 txj)) (unpaidL L txj)) 13 txj)) (by omega) (by omega)) hH_65 hS_66 mL_o rfl rfl gX5_complain_X5_moves rfl rfl (by decide +kernel) ⟨Nat.le_of_ble_eq_true rfl, Nat.le_of_ble_eq_true rfl⟩ hl_28 rfl (Nat.le_of_ble_eq_true rfl) dX5_complain_109 ⟨Nat.le_of_ble_eq_true rfl, Nat.le_of_ble_eq_true rfl⟩) hS_66 (fun w_69 H locs hP hH_70 hS_71 => ?_)
          subst hP
          refine lv_aload_n hx hb dX5_complain_112 rfl (lv_at hl_28 1 rfl) ?_
          refine lv_iload_n hx hb dX5_complain_113 rfl (lv_at hl_28 0 rfl) ?_
          refine zk_cv (zk_rV (As := [.int (nI (dN (I 11 txj)))]) (rest := []) (n := 1) (k := (0, 0, 0)) C (cM_years l D cA A g ad dy nc nt nl 0 (moveM (up2 I 17 txj 0) (payL L (dN (I 11 txj)) (unpaidL L txj)) (dN (I 12 txj)) (-((payL L (dN (I 11 txj)) (unpaidL L txj)) 13 txj)) (mo + (unpaidL L txj))) (up2 I 17 txj 0) (moveL (payL L (dN (I 11 txj)) (unpaidL L txj)) (dN (I 11 txj)) (dN (I 12 txj)) (-((payL L (dN (I 11 txj)) (unpaidL L txj)) 13 txj))) (dN (I 11 txj)) hnt (by intro t ht; rw [up2_ne (show (16 : Nat) ≠ 17 by decide)]; exact hT16 t ht)) hH_70 hS_71 mL_o rfl rfl gX5_complain_X5_years rfl rfl (by decide +kernel) ⟨Nat.le_of_ble_eq_true rfl, Nat.le_of_ble_eq_true rfl⟩ hl_28 rfl (Nat.le_of_ble_eq_true rfl) dX5_complain_114 ⟨Nat.le_of_ble_eq_true rfl, Nat.le_of_ble_eq_true rfl⟩) hS_71 (fun w_73 H locs hP hH_74 hS_75 => ?_)
          subst hP
          refine lv_lconst (v := 0) hx hb dX5_complain_117 (by decide) ?_
          refine lv_lstore_n (lv' := [(3, .long 0), (2, .int (nI (dN (I 11 txj)))), (0, .ref (ad (0, 0, 0))), (1, .int (nI txj))]) hx hb dX5_complain_118 rfl hl_28 (by decide) rfl (fun ls hl_76 => ?_)
          refine lv_iconst (v := 0) hx hb dX5_complain_119 (by decide) ?_
          refine lv_istore (lv' := [(5, .int 0), (3, .long 0), (2, .int (nI (dN (I 11 txj)))), (0, .ref (ad (0, 0, 0))), (1, .int (nI txj))]) hx hb dX5_complain_120 hl_76 (by decide) rfl (fun ls hl_77 => ?_)
          rw [cpM_e, cpS_e] at hH_74
          obtain ⟨Y, hY⟩ : ∃ z : zF, z = (cpS nl I L nt (dN (I 11 txj)) (dN (I 12 txj)) txj) := ⟨_, rfl⟩
          rw [← hY] at hH_74
          refine z_at (n := (dy / 360)) (P := fun i_78 => zL p l e rmM_complain s m _ below meth c 6 D A _ (mw cA ad dy nc nt Y.1 0 (cpM I L (dN (I 11 txj)) (dN (I 12 txj)) txj mo) Y.2.1 ((cbS Y.2.2 (dN (I 11 txj)) i_78).2)) 0 0 122 [(0, .ref (ad (0, 0, 0))), (1, .int (nI txj)), (2, .int (nI (dN (I 11 txj)))), (3, .long ((cbS Y.2.2 (dN (I 11 txj)) i_78).1)), (5, .int (nI i_78))] []) 0 (Nat.zero_le _) (fun h => h _ _ _ hH_74 hS_75 (lv_sub hl_77 [3, 4, 2, 1, 0] rfl)) ?_ ?_
          · intro H locs ls hH_80 hS_81 hl_82
            refine lv_iload hx hb dX5_complain_122 (lv_at hl_82 4 rfl) ?_
            refine lv_aload_n hx hb dX5_complain_124 rfl (lv_at hl_82 0 rfl) ?_
            refine zm_get C hin hH_80 0 (by decide) (by decide +kernel) rfl dX5_complain_125 ?_
            refine lv_sipush (v := 360) hx hb dX5_complain_128 (by decide) ?_
            refine lv_idiv hx hb dX5_complain_131 (by decide) ?_
            refine W.eq (g2 := F0 m 132 ls [.int (nI (dy / 360)), .int (nI (dy / 360))]) (by rw [show ((nI dy) / 360 : Int32) = nI (dy / 360) from (zi_div rfl (b := 360) rfl (by omega) (by decide) (by decide))]) ?_
            refine lv_icmp_ge (tgt := 191) hx hb dX5_complain_132 (by decide) (fun c_83 => ?_) (fun c_83 => absurd (Int32.le_refl _) c_83)
            refine lv_aload_n hx hb dX5_complain_191 rfl (lv_at hl_82 0 rfl) ?_
            refine zm_get C hin hH_80 6 (by decide) (by decide +kernel) rfl dX5_complain_192 ?_
            refine lv_iload_n hx hb dX5_complain_195 rfl (lv_at hl_82 2 rfl) ?_
            refine lv_dup2_11 hx hb dX5_complain_196 rfl rfl ?_
            refine zm_lld C hH_80 6 rfl (j := (dN (I 11 txj))) rfl (show (dN (I 11 txj)) < 12 by omega) dX5_complain_197 ?_
            refine lv_lload_n hx hb dX5_complain_198 rfl (lv_at hl_82 3 rfl) ?_
            refine lv_ladd hx hb dX5_complain_199 ?_
            refine zm_lst C hH_80 hS_81 6 rfl (j := (dN (I 11 txj))) rfl (show (dN (I 11 txj)) < 12 by omega) dX5_complain_200 (fun H locs hH_84 hS_85 => ?_)
            refine lv_lload_n hx hb dX5_complain_201 rfl (lv_at hl_82 3 rfl) ?_
            refine zr_lret C hr ?_ hH_84 hS_85 (Nat.le_of_ble_eq_true rfl) (Nat.le_of_ble_eq_true rfl) dX5_complain_202
            subst hY
            exact Or.inr ⟨txj, htxj, rfl, Or.inr ⟨⟨h_r_6, c_16⟩, rfl, rfl⟩⟩
          · intro i_78 hi_78 ih_79 H locs ls hH_86 hS_87 hl_88
            refine lv_iload hx hb dX5_complain_122 (lv_at hl_88 4 rfl) ?_
            refine lv_aload_n hx hb dX5_complain_124 rfl (lv_at hl_88 0 rfl) ?_
            refine zm_get C hin hH_86 0 (by decide) (by decide +kernel) rfl dX5_complain_125 ?_
            refine lv_sipush (v := 360) hx hb dX5_complain_128 (by decide) ?_
            refine lv_idiv hx hb dX5_complain_131 (by decide) ?_
            refine W.eq (g2 := F0 m 132 ls [.int (nI (dy / 360)), .int (nI i_78)]) (by rw [show ((nI dy) / 360 : Int32) = nI (dy / 360) from (zi_div rfl (b := 360) rfl (by omega) (by decide) (by decide))]) ?_
            refine lv_icmp_ge (tgt := 191) hx hb dX5_complain_132 (by decide) (fun c_89 => absurd c_89 (nI_ge hi_78 (by first | decide | omega))) (fun c_89 => ?_)
            refine lv_lload_n hx hb dX5_complain_135 rfl (lv_at hl_88 3 rfl) ?_
            refine lv_aload_n hx hb dX5_complain_136 rfl (lv_at hl_88 0 rfl) ?_
            refine zm_get C hin hH_86 9 (by decide) (by decide +kernel) rfl dX5_complain_137 ?_
            refine lv_bipush (v := 21) hx hb dX5_complain_140 (by decide) ?_
            refine lv_iload_n hx hb dX5_complain_142 rfl (lv_at hl_88 2 rfl) ?_
            refine lv_imul hx hb dX5_complain_143 ?_
            refine lv_iload hx hb dX5_complain_144 (lv_at hl_88 4 rfl) ?_
            refine lv_iadd hx hb dX5_complain_146 ?_
            refine W.eq (g2 := F0 m 147 ls [.int (nI ((21 * (dN (I 11 txj))) + i_78)), .ref (ad (9, 0, 0)), .long ((cbS Y.2.2 (dN (I 11 txj)) i_78).1)]) (by rw [show ((21 * (nI (dN (I 11 txj)))) + (nI i_78) : Int32) = nI ((21 * (dN (I 11 txj))) + i_78) from (zi_add (zi_mul rfl rfl) rfl)]) ?_
            refine zm_lld C hH_86 9 rfl (j := ((21 * (dN (I 11 txj))) + i_78)) rfl (show ((21 * (dN (I 11 txj))) + i_78) < 252 by omega) dX5_complain_147 ?_
            refine lv_aload_n hx hb dX5_complain_148 rfl (lv_at hl_88 0 rfl) ?_
            refine zm_get C hin hH_86 23 (by decide) (by decide +kernel) rfl dX5_complain_149 ?_
            refine lv_iload hx hb dX5_complain_152 (lv_at hl_88 4 rfl) ?_
            refine zm_lld C hH_86 23 rfl (j := i_78) rfl (show i_78 < 21 by omega) dX5_complain_154 ?_
            refine lv_ldc2 (v := 4) hx hb hown (hts (.constantLong RX5 188 4) (by decide +kernel)) dX5_complain_155 ?_
            refine lv_ldiv hx hb dX5_complain_158 (by decide) ?_
            refine lv_lsub hx hb dX5_complain_159 ?_
            refine lv_ladd hx hb dX5_complain_160 ?_
            refine lv_lstore_n (lv' := [(3, .long (((cbS Y.2.2 (dN (I 11 txj)) i_78).1) + ((((cbS Y.2.2 (dN (I 11 txj)) i_78).2) 9 ((21 * (dN (I 11 txj))) + i_78)) - ((((cbS Y.2.2 (dN (I 11 txj)) i_78).2) 23 i_78) / 4)))), (0, .ref (ad (0, 0, 0))), (1, .int (nI txj)), (2, .int (nI (dN (I 11 txj)))), (5, .int (nI i_78))]) hx hb dX5_complain_161 rfl hl_88 (by decide) rfl (fun ls hl_90 => ?_)
            refine lv_aload_n hx hb dX5_complain_162 rfl (lv_at hl_90 1 rfl) ?_
            refine zm_get C hin hH_86 9 (by decide) (by decide +kernel) rfl dX5_complain_163 ?_
            refine lv_bipush (v := 21) hx hb dX5_complain_166 (by decide) ?_
            refine lv_iload_n hx hb dX5_complain_168 rfl (lv_at hl_90 3 rfl) ?_
            refine lv_imul hx hb dX5_complain_169 ?_
            refine lv_iload hx hb dX5_complain_170 (lv_at hl_90 4 rfl) ?_
            refine lv_iadd hx hb dX5_complain_172 ?_
            refine W.eq (g2 := F0 m 173 ls [.int (nI ((21 * (dN (I 11 txj))) + i_78)), .ref (ad (9, 0, 0))]) (by rw [show ((21 * (nI (dN (I 11 txj)))) + (nI i_78) : Int32) = nI ((21 * (dN (I 11 txj))) + i_78) from (zi_add (zi_mul rfl rfl) rfl)]) ?_
            refine lv_aload_n hx hb dX5_complain_173 rfl (lv_at hl_90 1 rfl) ?_
            refine zm_get C hin hH_86 23 (by decide) (by decide +kernel) rfl dX5_complain_174 ?_
            refine lv_iload hx hb dX5_complain_177 (lv_at hl_90 4 rfl) ?_
            refine zm_lld C hH_86 23 rfl (j := i_78) rfl (show i_78 < 21 by omega) dX5_complain_179 ?_
            refine lv_ldc2 (v := 4) hx hb hown (hts (.constantLong RX5 188 4) (by decide +kernel)) dX5_complain_180 ?_
            refine lv_ldiv hx hb dX5_complain_183 (by decide) ?_
            refine zm_lst C hH_86 hS_87 9 rfl (j := ((21 * (dN (I 11 txj))) + i_78)) rfl (show ((21 * (dN (I 11 txj))) + i_78) < 252 by omega) dX5_complain_184 (fun H locs hH_91 hS_92 => ?_)
            refine lv_iinc (v := nI (i_78 + 1)) (lv' := [(5, .int (nI (i_78 + 1))), (3, .long (((cbS Y.2.2 (dN (I 11 txj)) i_78).1) + ((((cbS Y.2.2 (dN (I 11 txj)) i_78).2) 9 ((21 * (dN (I 11 txj))) + i_78)) - ((((cbS Y.2.2 (dN (I 11 txj)) i_78).2) 23 i_78) / 4)))), (0, .ref (ad (0, 0, 0))), (1, .int (nI txj)), (2, .int (nI (dN (I 11 txj))))]) hx hb dX5_complain_185 hl_90 (k := 4) rfl (nI_1 i_78) (by decide) rfl (fun ls hl_93 => ?_)
            refine lv_goto (tgt := 122) hx hb dX5_complain_188 (by decide) ?_
            exact ih_79 _ _ _ hH_91 hS_92 (lv_sub hl_93 [2, 3, 4, 1, 0] rfl)
  · refine lv_if_ne (tgt := 13) hx hb dX5_complain_6 (by decide) (fun c_94 => absurd c_94 (by decide)) (fun c_94 => ?_)
    refine lv_iconst (v := 1) hx hb dX5_complain_9 (by decide) ?_
    refine lv_goto (tgt := 26) hx hb dX5_complain_10 (by decide) ?_
    refine zk_ci (zk_rV (As := [.int 1]) (rest := []) (n := 1) (k := (0, 0, 0)) C (cM_fails l D cA A g ad dy nc nt nl th mo I L 1) hH_3 hS_4 mL_o rfl rfl gX5_complain_X5_fails rfl rfl (by decide +kernel) ⟨Nat.le_of_ble_eq_true rfl, Nat.le_of_ble_eq_true rfl⟩ hl rfl (Nat.le_of_ble_eq_true rfl) dX5_complain_26 ⟨Nat.le_of_ble_eq_true rfl, Nat.le_of_ble_eq_true rfl⟩) hS_4 (fun r_95 w_96 H locs hP hH_97 hS_98 => ?_)
    obtain ⟨rfl, rfl⟩ := hP
    refine lv_if_eq (tgt := 34) hx hb dX5_complain_29 (by decide) (fun c_99 => absurd c_99 (by decide)) (fun c_99 => ?_)
    refine lv_lconst (v := 0) hx hb dX5_complain_32 (by decide) ?_
    refine zr_lret C hr ?_ hH_97 hS_98 (Nat.le_of_ble_eq_true rfl) (Nat.le_of_ble_eq_true rfl) dX5_complain_33
    exact Or.inl ⟨by assumption, rfl⟩
def rmM_passes : Room := { frames := 4, cells := 0, slots := 0, locals := 110 }
set_option maxHeartbeats 600000 in
set_option maxRecDepth 100000 in
theorem cM_passes (l : Launch) (D : va_G) (cA : Nat → ClassId) (A : Nat → Prop) (g : Nat → Nat) (ad : zk_K → Nat) (dy nc nt nl : Nat) (th : Int32) (mo : Int64) (I : zIA) (L : zLA) (hnc : nc ≤ 12) (hnt : nt ≤ 120) (hdy : dy < 7200) (hT16 : ∀ t, t < nt → zD (I 16 t) 7201) : zM l yX5_passes wsX5_passes rmM_passes D (zt cA) A g [.ref (ad (0, 0, 0))] (mw cA ad dy nc nt nl th mo I L) (zQv (fun w' => mw cA ad (passS nc nt (dy, nl, mo, I, L)).1 nc nt (passS nc nt (dy, nl, mo, I, L)).2.1 th (passS nc nt (dy, nl, mo, I, L)).2.2.1 (passS nc nt (dy, nl, mo, I, L)).2.2.2.1 (passS nc nt (dy, nl, mo, I, L)).2.2.2.2 = w')) := by
  obtain ⟨n6, hn6⟩ : ∃ n : Nat, n = 6 := ⟨6, rfl⟩
  refine zM_of (cc := cX5_passes) (maxL := 4) (ret := none) (own := RX5) (by decide +kernel) rfl (Nat.le_of_ble_eq_true rfl) rfl ?_
  intro p e s m below meth c C hr hnm H locs ls hH hS hl
  obtain ⟨⟨hx, hb, hml, hown, hts⟩, hG, hlk⟩ := id C
  have hin : ∀ w ∈ wsX50, w ∈ wsX5_passes := by decide +kernel
  have hl : lv_has ls 4 [(0, .ref (ad (0, 0, 0)))] := hl
  refine lv_iconst (v := 0) hx hb dX5_passes_0 (by decide) ?_
  refine lv_istore_n (lv' := [(1, .int 0), (0, .ref (ad (0, 0, 0)))]) hx hb dX5_passes_1 rfl hl (by decide) rfl (fun ls hl_1 => ?_)
  refine z_at (n := n6) (P := fun i_2 => zL p l e rmM_passes s m _ below meth c 4 D A _ (mw cA ad dy nc nt nl th ((psS I mo L i_2).1) I ((psS I mo L i_2).2)) 0 0 2 [(0, .ref (ad (0, 0, 0))), (1, .int (nI i_2))] []) 0 (Nat.zero_le _) (fun h => h _ _ _ hH hS (lv_sub hl_1 [1, 0] rfl)) ?_ ?_
  · intro H locs ls hH_4 hS_5 hl_6
    refine lv_iload_n hx hb dX5_passes_2 rfl (lv_at hl_6 1 rfl) ?_
    refine lv_bipush (v := 6) hx hb dX5_passes_3 (by decide) ?_
    refine lv_icmp_ge (tgt := 67) hx hb dX5_passes_5 (by decide) (fun c_7 => ?_) (fun c_7 => absurd (by rw [hn6]; exact Int32.le_refl _) c_7)
    refine lv_aload_n hx hb dX5_passes_67 rfl (lv_at hl_6 0 rfl) ?_
    refine lv_dup hx hb dX5_passes_68 rfl ?_
    refine zm_get C hin hH_4 0 (by decide) (by decide +kernel) rfl dX5_passes_69 ?_
    refine lv_iconst (v := 1) hx hb dX5_passes_72 (by decide) ?_
    refine lv_iadd hx hb dX5_passes_73 ?_
    refine W.eq (g2 := F0 m 74 ls [.int (nI (dy + 1)), .ref (ad (0, 0, 0))]) (by rw [show ((nI dy) + 1 : Int32) = nI (dy + 1) from (zi_add rfl rfl)]) ?_
    refine zm_put C hin hH_4 hS_5 0 (by decide) (by decide +kernel) rfl rfl rfl dX5_passes_74 (dy + 1) nc nt nl th ((psS I mo L n6).1) (by rw [show (nI (dy + 1) : Int32) = nI (dy + 1) from rfl]; rfl) (fun H locs hH_8 hS_9 => ?_)
    refine lv_iconst (v := 0) hx hb dX5_passes_77 (by decide) ?_
    refine lv_istore_n (lv' := [(1, .int 0), (0, .ref (ad (0, 0, 0)))]) hx hb dX5_passes_78 rfl hl_6 (by decide) rfl (fun ls hl_10 => ?_)
    by_cases h360 : (dy + 1) % 360 = 0
    · refine z_at (n := nc) (P := fun i_11 => zL p l e rmM_passes s m _ below meth c 4 D A _ (mw cA ad (dy + 1) nc nt ((ptS (nl, I, (psS I mo L n6).2) nt ((dy + 1) / 360 - 1) i_11).1) th ((psS I mo L n6).1) ((ptS (nl, I, (psS I mo L n6).2) nt ((dy + 1) / 360 - 1) i_11).2.1) ((ptS (nl, I, (psS I mo L n6).2) nt ((dy + 1) / 360 - 1) i_11).2.2)) 0 0 79 [(0, .ref (ad (0, 0, 0))), (1, .int (nI i_11))] []) 0 (Nat.zero_le _) (fun h => h _ _ _ hH_8 hS_9 (lv_sub hl_10 [1, 0] rfl)) ?_ ?_
      · intro H locs ls hH_13 hS_14 hl_15
        refine lv_iload_n hx hb dX5_passes_79 rfl (lv_at hl_15 1 rfl) ?_
        refine lv_aload_n hx hb dX5_passes_80 rfl (lv_at hl_15 0 rfl) ?_
        refine zm_get C hin hH_13 5 (by decide) (by decide +kernel) rfl dX5_passes_81 ?_
        refine lv_icmp_ge (tgt := 160) hx hb dX5_passes_84 (by decide) (fun c_16 => ?_) (fun c_16 => absurd (Int32.le_refl _) c_16)
        refine zr_vret C hr ?_ hH_13 hS_14 (Nat.le_of_ble_eq_true rfl) (Nat.le_of_ble_eq_true rfl) dX5_passes_160
        rw [passS_pv hn6 h360]
      · intro i_11 hi_11 ih_12 H locs ls hH_17 hS_18 hl_19
        refine lv_iload_n hx hb dX5_passes_79 rfl (lv_at hl_19 1 rfl) ?_
        refine lv_aload_n hx hb dX5_passes_80 rfl (lv_at hl_19 0 rfl) ?_
        refine zm_get C hin hH_17 5 (by decide) (by decide +kernel) rfl dX5_passes_81 ?_
        refine lv_icmp_ge (tgt := 160) hx hb dX5_passes_84 (by decide) (fun c_20 => absurd c_20 (nI_ge hi_11 (by first | decide | omega))) (fun c_20 => ?_)
        refine lv_aload_n hx hb dX5_passes_87 rfl (lv_at hl_19 0 rfl) ?_
        refine zm_get C hin hH_17 0 (by decide) (by decide +kernel) rfl dX5_passes_88 ?_
        refine lv_sipush (v := 360) hx hb dX5_passes_91 (by decide) ?_
        refine lv_irem hx hb dX5_passes_94 (by decide) ?_
        refine W.eq (g2 := F0 m 95 ls [.int (nI ((dy + 1) % 360))]) (by rw [show ((nI (dy + 1)) - (nI (dy + 1)) / 360 * 360 : Int32) = nI ((dy + 1) % 360) from (zi_rem rfl (b := 360) rfl (by omega) (by decide) (by decide))]) ?_
        refine lv_if_ne (tgt := 160) hx hb dX5_passes_95 (by decide) (fun c_21 => absurd (show nI ((dy + 1) % 360) = 0 by rw [h360]; rfl) c_21) (fun c_21 => ?_)
        refine lv_aload_n hx hb dX5_passes_98 rfl (lv_at hl_19 0 rfl) ?_
        refine zm_get C hin hH_17 0 (by decide) (by decide +kernel) rfl dX5_passes_99 ?_
        refine lv_sipush (v := 360) hx hb dX5_passes_102 (by decide) ?_
        refine lv_idiv hx hb dX5_passes_105 (by decide) ?_
        refine W.eq (g2 := F0 m 106 ls [.int (nI ((dy + 1) / 360))]) (by rw [show ((nI (dy + 1)) / 360 : Int32) = nI ((dy + 1) / 360) from (zi_div rfl (b := 360) rfl (by omega) (by decide) (by decide))]) ?_
        refine lv_iconst (v := 1) hx hb dX5_passes_106 (by decide) ?_
        refine lv_isub hx hb dX5_passes_107 ?_
        have h36 : 1 ≤ (dy + 1) / 360 := by omega
        refine W.eq (g2 := F0 m 108 ls [.int (nI ((dy + 1) / 360 - 1))]) (by rw [← pk_sub h36]; rfl) ?_
        refine lv_istore_n (lv' := [(2, .int (nI ((dy + 1) / 360 - 1))), (0, .ref (ad (0, 0, 0))), (1, .int (nI i_11))]) hx hb dX5_passes_108 rfl hl_19 (by decide) rfl (fun ls hl_22 => ?_)
        refine lv_aload_n hx hb dX5_passes_109 rfl (lv_at hl_22 1 rfl) ?_
        refine lv_iload_n hx hb dX5_passes_110 rfl (lv_at hl_22 2 rfl) ?_
        refine zk_cv (zk_rV (As := [.int (nI i_11)]) (rest := []) (n := 1) (k := (0, 0, 0)) C (cM_years l D cA A g ad (dy + 1) nc nt ((ptS (nl, I, (psS I mo L n6).2) nt ((dy + 1) / 360 - 1) i_11).1) th ((psS I mo L n6).1) ((ptS (nl, I, (psS I mo L n6).2) nt ((dy + 1) / 360 - 1) i_11).2.1) ((ptS (nl, I, (psS I mo L n6).2) nt ((dy + 1) / 360 - 1) i_11).2.2) i_11 hnt (by intro t ht; rw [ptS_I (by decide)]; exact hT16 t ht)) hH_17 hS_18 mL_o rfl rfl gX5_passes_X5_years rfl rfl (by decide +kernel) ⟨Nat.le_of_ble_eq_true rfl, Nat.le_of_ble_eq_true rfl⟩ hl_22 rfl (Nat.le_of_ble_eq_true rfl) dX5_passes_111 ⟨Nat.le_of_ble_eq_true rfl, Nat.le_of_ble_eq_true rfl⟩) hS_18 (fun w_24 H locs hP hH_25 hS_26 => ?_)
        subst hP
        refine lv_aload_n hx hb dX5_passes_114 rfl (lv_at hl_22 1 rfl) ?_
        refine zm_get C hin hH_25 9 (by decide) (by decide +kernel) rfl dX5_passes_115 ?_
        refine lv_bipush (v := 21) hx hb dX5_passes_118 (by decide) ?_
        refine lv_iload_n hx hb dX5_passes_120 rfl (lv_at hl_22 2 rfl) ?_
        refine lv_imul hx hb dX5_passes_121 ?_
        refine lv_iload_n hx hb dX5_passes_122 rfl (lv_at hl_22 0 rfl) ?_
        refine lv_iadd hx hb dX5_passes_123 ?_
        refine W.eq (g2 := F0 m 124 ls [.int (nI ((21 * i_11) + ((dy + 1) / 360 - 1))), .ref (ad (9, 0, 0))]) (by rw [show ((21 * (nI i_11)) + (nI ((dy + 1) / 360 - 1)) : Int32) = nI ((21 * i_11) + ((dy + 1) / 360 - 1)) from (zi_add (zi_mul rfl rfl) rfl)]) ?_
        refine lv_aload_n hx hb dX5_passes_124 rfl (lv_at hl_22 1 rfl) ?_
        refine zm_get C hin hH_25 23 (by decide) (by decide +kernel) rfl dX5_passes_125 ?_
        refine lv_iload_n hx hb dX5_passes_128 rfl (lv_at hl_22 0 rfl) ?_
        refine zm_lld C hH_25 23 rfl (j := ((dy + 1) / 360 - 1)) rfl (show ((dy + 1) / 360 - 1) < 21 by omega) dX5_passes_129 ?_
        refine lv_ldc2 (v := 4) hx hb hown (hts (.constantLong RX5 188 4) (by decide +kernel)) dX5_passes_130 ?_
        refine lv_ldiv hx hb dX5_passes_133 (by decide) ?_
        refine zm_lst C hH_25 hS_26 9 rfl (j := ((21 * i_11) + ((dy + 1) / 360 - 1))) rfl (show ((21 * i_11) + ((dy + 1) / 360 - 1)) < 252 by omega) dX5_passes_134 (fun H locs hH_27 hS_28 => ?_)
        refine lv_aload_n hx hb dX5_passes_135 rfl (lv_at hl_22 1 rfl) ?_
        refine zm_get C hin hH_27 6 (by decide) (by decide +kernel) rfl dX5_passes_136 ?_
        refine lv_iload_n hx hb dX5_passes_139 rfl (lv_at hl_22 2 rfl) ?_
        refine lv_dup2_11 hx hb dX5_passes_140 rfl rfl ?_
        refine zm_lld C hH_27 6 rfl (j := i_11) rfl (show i_11 < 12 by omega) dX5_passes_141 ?_
        refine lv_aload_n hx hb dX5_passes_142 rfl (lv_at hl_22 1 rfl) ?_
        refine zm_get C hin hH_27 23 (by decide) (by decide +kernel) rfl dX5_passes_143 ?_
        refine lv_iload_n hx hb dX5_passes_146 rfl (lv_at hl_22 0 rfl) ?_
        refine zm_lld C hH_27 23 rfl (j := ((dy + 1) / 360 - 1)) rfl (show ((dy + 1) / 360 - 1) < 21 by omega) dX5_passes_147 ?_
        refine lv_ldc2 (v := 4) hx hb hown (hts (.constantLong RX5 188 4) (by decide +kernel)) dX5_passes_148 ?_
        refine lv_ldiv hx hb dX5_passes_151 (by decide) ?_
        refine lv_lsub hx hb dX5_passes_152 ?_
        refine zm_lst C hH_27 hS_28 6 rfl (j := i_11) rfl (show i_11 < 12 by omega) dX5_passes_153 (fun H locs hH_29 hS_30 => ?_)
        refine lv_iinc (v := nI (i_11 + 1)) (lv' := [(1, .int (nI (i_11 + 1))), (2, .int (nI ((dy + 1) / 360 - 1))), (0, .ref (ad (0, 0, 0)))]) hx hb dX5_passes_154 hl_22 (k := 2) rfl (nI_1 i_11) (by decide) rfl (fun ls hl_31 => ?_)
        refine lv_goto (tgt := 79) hx hb dX5_passes_157 (by decide) ?_
        exact ih_12 _ _ _ (by rw [ptS_s]; dsimp only; exact hH_29) hS_30 (lv_sub hl_31 [2, 0] rfl)
    · refine lv_iload_n hx hb dX5_passes_79 rfl (lv_at hl_10 0 rfl) ?_
      refine lv_aload_n hx hb dX5_passes_80 rfl (lv_at hl_10 1 rfl) ?_
      refine zm_get C hin hH_8 5 (by decide) (by decide +kernel) rfl dX5_passes_81 ?_
      refine lv_icmp_ge (tgt := 160) hx hb dX5_passes_84 (by decide) (fun c_32 => ?_) (fun c_32 => ?_)
      · refine zr_vret C hr ?_ hH_8 hS_9 (Nat.le_of_ble_eq_true rfl) (Nat.le_of_ble_eq_true rfl) dX5_passes_160
        rw [passS_nv hn6 h360]
      · refine lv_aload_n hx hb dX5_passes_87 rfl (lv_at hl_10 1 rfl) ?_
        refine zm_get C hin hH_8 0 (by decide) (by decide +kernel) rfl dX5_passes_88 ?_
        refine lv_sipush (v := 360) hx hb dX5_passes_91 (by decide) ?_
        refine lv_irem hx hb dX5_passes_94 (by decide) ?_
        refine W.eq (g2 := F0 m 95 ls [.int (nI ((dy + 1) % 360))]) (by rw [show ((nI (dy + 1)) - (nI (dy + 1)) / 360 * 360 : Int32) = nI ((dy + 1) % 360) from (zi_rem rfl (b := 360) rfl (by omega) (by decide) (by decide))]) ?_
        refine lv_if_ne (tgt := 160) hx hb dX5_passes_95 (by decide) (fun c_33 => ?_) (fun c_33 => absurd c_33 (fun z => h360 ((nI_eq (by omega) (by decide)).mp z)))
        refine zr_vret C hr ?_ hH_8 hS_9 (Nat.le_of_ble_eq_true rfl) (Nat.le_of_ble_eq_true rfl) dX5_passes_160
        rw [passS_nv hn6 h360]
  · intro i_2 hi_2 ih_3 H locs ls hH_34 hS_35 hl_36
    refine lv_iload_n hx hb dX5_passes_2 rfl (lv_at hl_36 1 rfl) ?_
    refine lv_bipush (v := 6) hx hb dX5_passes_3 (by decide) ?_
    refine lv_icmp_ge (tgt := 67) hx hb dX5_passes_5 (by decide) (fun c_37 => absurd c_37 (nI_ge (b := 6) (by omega) (by omega))) (fun c_37 => ?_)
    refine lv_aload_n hx hb dX5_passes_8 rfl (lv_at hl_36 0 rfl) ?_
    refine zm_get C hin hH_34 3 (by decide) (by decide +kernel) rfl dX5_passes_9 ?_
    refine lv_iload_n hx hb dX5_passes_12 rfl (lv_at hl_36 1 rfl) ?_
    refine zm_lld C hH_34 3 rfl (j := i_2) rfl (show i_2 < 6 by omega) dX5_passes_13 ?_
    refine lv_ldc2 (v := 1000) hx hb hown (hts (.constantLong RX5 103 1000) (by decide +kernel)) dX5_passes_14 ?_
    refine lv_ldiv hx hb dX5_passes_17 (by decide) ?_
    refine lv_lstore_n (lv' := [(2, .long ((((psS I mo L i_2).2) 3 i_2) / 1000)), (0, .ref (ad (0, 0, 0))), (1, .int (nI i_2))]) hx hb dX5_passes_18 rfl hl_36 (by decide) rfl (fun ls hl_38 => ?_)
    refine lv_aload_n hx hb dX5_passes_19 rfl (lv_at hl_38 1 rfl) ?_
    refine zm_get C hin hH_34 2 (by decide) (by decide +kernel) rfl dX5_passes_20 ?_
    refine lv_iload_n hx hb dX5_passes_23 rfl (lv_at hl_38 2 rfl) ?_
    refine lv_dup2_11 hx hb dX5_passes_24 rfl rfl ?_
    refine zm_lld C hH_34 2 rfl (j := i_2) rfl (show i_2 < 6 by omega) dX5_passes_25 ?_
    refine lv_lload_n hx hb dX5_passes_26 rfl (lv_at hl_38 0 rfl) ?_
    refine lv_lsub hx hb dX5_passes_27 ?_
    refine zm_lst C hH_34 hS_35 2 rfl (j := i_2) rfl (show i_2 < 6 by omega) dX5_passes_28 (fun H locs hH_39 hS_40 => ?_)
    refine lv_aload_n hx hb dX5_passes_29 rfl (lv_at hl_38 1 rfl) ?_
    refine zm_get C hin hH_39 3 (by decide) (by decide +kernel) rfl dX5_passes_30 ?_
    refine lv_iload_n hx hb dX5_passes_33 rfl (lv_at hl_38 2 rfl) ?_
    refine lv_dup2_11 hx hb dX5_passes_34 rfl rfl ?_
    refine zm_lld C hH_39 3 rfl (j := i_2) rfl (show i_2 < 6 by omega) dX5_passes_35 ?_
    refine lv_lload_n hx hb dX5_passes_36 rfl (lv_at hl_38 0 rfl) ?_
    refine lv_ldc2 (v := 1000) hx hb hown (hts (.constantLong RX5 103 1000) (by decide +kernel)) dX5_passes_37 ?_
    refine lv_lmul hx hb dX5_passes_40 ?_
    refine lv_lsub hx hb dX5_passes_41 ?_
    refine zm_lst C hH_39 hS_40 3 rfl (j := i_2) rfl (show i_2 < 6 by omega) dX5_passes_42 (fun H locs hH_41 hS_42 => ?_)
    refine lv_aload_n hx hb dX5_passes_43 rfl (lv_at hl_38 1 rfl) ?_
    refine lv_dup hx hb dX5_passes_44 rfl ?_
    refine zm_get C hin hH_41 4 (by decide) (by decide +kernel) rfl dX5_passes_45 ?_
    refine lv_lload_n hx hb dX5_passes_48 rfl (lv_at hl_38 0 rfl) ?_
    refine lv_aload_n hx hb dX5_passes_49 rfl (lv_at hl_38 1 rfl) ?_
    refine zm_get C hin hH_41 1 (by decide) (by decide +kernel) rfl dX5_passes_50 ?_
    refine lv_iload_n hx hb dX5_passes_53 rfl (lv_at hl_38 2 rfl) ?_
    refine zm_ild C hH_41 1 (by decide) rfl (j := i_2) rfl (show i_2 < 6 by omega) dX5_passes_54 ?_
    refine lv_i2l (v := Int32.toInt64 (I 1 i_2)) hx hb dX5_passes_55 rfl ?_
    refine lv_lmul hx hb dX5_passes_56 ?_
    refine lv_ladd hx hb dX5_passes_57 ?_
    refine zm_put C hin hH_41 hS_42 4 (by decide) (by decide +kernel) rfl rfl rfl dX5_passes_58 dy nc nt nl th (((psS I mo L i_2).1) + (((((psS I mo L i_2).2) 3 i_2) / 1000) * (Int32.toInt64 (I 1 i_2)))) rfl (fun H locs hH_43 hS_44 => ?_)
    refine lv_iinc (v := nI (i_2 + 1)) (lv' := [(1, .int (nI (i_2 + 1))), (2, .long ((((psS I mo L i_2).2) 3 i_2) / 1000)), (0, .ref (ad (0, 0, 0)))]) hx hb dX5_passes_61 hl_38 (k := 2) rfl (nI_1 i_2) (by decide) rfl (fun ls hl_45 => ?_)
    refine lv_goto (tgt := 2) hx hb dX5_passes_64 (by decide) ?_
    exact ih_3 _ _ _ hH_43 hS_44 (lv_sub hl_45 [2, 0] rfl)
def rmM_pass : Room := { frames := 5, cells := 0, slots := 0, locals := 133 }
set_option maxHeartbeats 600000 in
set_option maxRecDepth 100000 in
theorem cM_pass (l : Launch) (D : va_G) (cA : Nat → ClassId) (A : Nat → Prop) (g : Nat → Nat) (ad : zk_K → Nat) (dy nc nt nl : Nat) (th : Int32) (mo : Int64) (I : zIA) (L : zLA) (days : Int32) (hnc : nc ≤ 12) (hnt : nt ≤ 120) (hdy : dy ≤ 7200) (hT16 : ∀ t, t < nt → zD (I 16 t) 7201) : zM l yX5_pass wsX5_pass rmM_pass D (zt cA) A g [.ref (ad (0, 0, 0)), .int days] (mw cA ad dy nc nt nl th mo I L) (zQi (fun r w' => (¬ zR days 1 400 ∧ mw cA ad dy nc nt nl 1 mo I L = w') ∨ (∃ j, 1 ≤ j ∧ j ≤ 400 ∧ days = nI j ∧ ((7200 < dy + j ∧ mw cA ad dy nc nt nl 2 mo I L = w') ∨ (dy + j ≤ 7200 ∧ nI (dy + j) = r ∧ ∃ s : zP, s = passN nc nt (dy, nl, mo, I, L) j ∧ mw cA ad s.1 nc nt s.2.1 0 s.2.2.1 s.2.2.2.1 s.2.2.2.2 = w'))))) := by
  refine zM_of (cc := cX5_pass) (maxL := 3) (ret := (some .int)) (own := RX5) (by decide +kernel) rfl (Nat.le_of_ble_eq_true rfl) rfl ?_
  intro p e s m below meth c C hr hnm H locs ls hH hS hl
  obtain ⟨⟨hx, hb, hml, hown, hts⟩, hG, hlk⟩ := id C
  have hin : ∀ w ∈ wsX50, w ∈ wsX5_pass := by decide +kernel
  have hl : lv_has ls 3 [(0, .ref (ad (0, 0, 0))), (1, .int days)] := hl
  refine lv_aload_n hx hb dX5_pass_0 rfl (lv_at hl 0 rfl) ?_
  refine lv_iload_n hx hb dX5_pass_1 rfl (lv_at hl 1 rfl) ?_
  refine lv_iconst (v := 1) hx hb dX5_pass_2 (by decide) ?_
  refine lv_sipush (v := 400) hx hb dX5_pass_3 (by decide) ?_
  refine zk_ci (zk_rS (As := [.int days, .int 1, .int 400]) (rest := [.ref (ad (0, 0, 0))]) (n := 3) C (cM_isIn l D cA A g _ days 1 400) hH hS gX5_pass_X5_isIn rfl rfl (by decide +kernel) ⟨Nat.le_of_ble_eq_true rfl, Nat.le_of_ble_eq_true rfl⟩ hl rfl (Nat.le_of_ble_eq_true rfl) dX5_pass_6 ⟨Nat.le_of_ble_eq_true rfl, Nat.le_of_ble_eq_true rfl⟩) hS (fun r_1 w_2 H locs hP hH_3 hS_4 => ?_)
  obtain ⟨rfl, (⟨rfl, h_r_1⟩ | ⟨rfl, h_r_1⟩)⟩ := hP
  · obtain ⟨dj, hd1, hd2, rfl⟩ := zR_nat (a := 1) (b := 400) (n := 1) (m := 400) (by decide) h_r_1 rfl rfl
    refine lv_if_ne (tgt := 16) hx hb dX5_pass_9 (by decide) (fun c_5 => ?_) (fun c_5 => absurd c_5 (by decide))
    refine lv_aload_n hx hb dX5_pass_16 rfl (lv_at hl 0 rfl) ?_
    refine zm_get C hin hH_3 0 (by decide) (by decide +kernel) rfl dX5_pass_17 ?_
    refine lv_iload_n hx hb dX5_pass_20 rfl (lv_at hl 1 rfl) ?_
    refine lv_iadd hx hb dX5_pass_21 ?_
    refine W.eq (g2 := F0 m 22 ls [.int (nI (dy + dj)), .ref (ad (0, 0, 0))]) (by rw [show ((nI dy) + (nI dj) : Int32) = nI (dy + dj) from (zi_add rfl rfl)]) ?_
    refine lv_sipush (v := 7200) hx hb dX5_pass_22 (by decide) ?_
    refine lv_icmp_le (tgt := 32) hx hb dX5_pass_25 (by decide) (fun c_6 => ?_) (fun c_6 => ?_)
    · have hle : dy + dj ≤ 7200 := (nI_leI (by omega) (by decide)).mp c_6
      refine lv_iconst (v := 0) hx hb dX5_pass_32 (by decide) ?_
      refine zk_ci (zk_rV (As := [.int 0]) (rest := []) (n := 1) (k := (0, 0, 0)) C (cM_fails l D cA A g ad dy nc nt nl th mo I L 0) hH_3 hS_4 mL_o rfl rfl gX5_pass_X5_fails rfl rfl (by decide +kernel) ⟨Nat.le_of_ble_eq_true rfl, Nat.le_of_ble_eq_true rfl⟩ hl rfl (Nat.le_of_ble_eq_true rfl) dX5_pass_33 ⟨Nat.le_of_ble_eq_true rfl, Nat.le_of_ble_eq_true rfl⟩) hS_4 (fun r_7 w_8 H locs hP hH_9 hS_10 => ?_)
      obtain ⟨rfl, rfl⟩ := hP
      refine lv_if_eq (tgt := 41) hx hb dX5_pass_36 (by decide) (fun c_11 => ?_) (fun c_11 => absurd c_11 (by decide))
      refine lv_iconst (v := 0) hx hb dX5_pass_41 (by decide) ?_
      refine lv_istore_n (lv' := [(2, .int 0), (0, .ref (ad (0, 0, 0))), (1, .int (nI dj))]) hx hb dX5_pass_42 rfl hl (by decide) rfl (fun ls hl_12 => ?_)
      refine z_at (n := dj) (P := fun i_13 => zL p l e rmM_pass s m _ below meth c 3 D A _ (mw cA ad ((passN nc nt (dy, nl, mo, I, L) i_13).1) nc nt ((passN nc nt (dy, nl, mo, I, L) i_13).2.1) 0 ((passN nc nt (dy, nl, mo, I, L) i_13).2.2.1) ((passN nc nt (dy, nl, mo, I, L) i_13).2.2.2.1) ((passN nc nt (dy, nl, mo, I, L) i_13).2.2.2.2)) 0 0 43 [(0, .ref (ad (0, 0, 0))), (1, .int (nI dj)), (2, .int (nI i_13))] []) 0 (Nat.zero_le _) (fun h => h _ _ _ hH_9 hS_10 (lv_sub hl_12 [1, 2, 0] rfl)) ?_ ?_
      · intro H locs ls hH_15 hS_16 hl_17
        refine lv_iload_n hx hb dX5_pass_43 rfl (lv_at hl_17 2 rfl) ?_
        refine lv_iload_n hx hb dX5_pass_44 rfl (lv_at hl_17 1 rfl) ?_
        refine lv_icmp_ge (tgt := 58) hx hb dX5_pass_45 (by decide) (fun c_18 => ?_) (fun c_18 => absurd (Int32.le_refl _) c_18)
        refine lv_aload_n hx hb dX5_pass_58 rfl (lv_at hl_17 0 rfl) ?_
        refine zm_get C hin hH_15 0 (by decide) (by decide +kernel) rfl dX5_pass_59 ?_
        refine zr_iret C hr ?_ hH_15 hS_16 (Nat.le_of_ble_eq_true rfl) (Nat.le_of_ble_eq_true rfl) dX5_pass_62
        exact Or.inr ⟨dj, hd1, hd2, rfl, Or.inr ⟨hle, by rw [passN_dy], _, rfl, rfl⟩⟩
      · intro i_13 hi_13 ih_14 H locs ls hH_19 hS_20 hl_21
        refine lv_iload_n hx hb dX5_pass_43 rfl (lv_at hl_21 2 rfl) ?_
        refine lv_iload_n hx hb dX5_pass_44 rfl (lv_at hl_21 1 rfl) ?_
        refine lv_icmp_ge (tgt := 58) hx hb dX5_pass_45 (by decide) (fun c_22 => absurd c_22 (nI_ge hi_13 (by first | decide | omega))) (fun c_22 => ?_)
        have hdk : (passN nc nt (dy, nl, mo, I, L) i_13).1 < 7200 := by rw [passN_dy]; show dy + i_13 < 7200; omega
        refine lv_aload_n hx hb dX5_pass_48 rfl (lv_at hl_21 0 rfl) ?_
        refine zk_cv (zk_rV (As := []) (rest := []) (n := 0) (k := (0, 0, 0)) C (cM_passes l D cA A g ad ((passN nc nt (dy, nl, mo, I, L) i_13).1) nc nt ((passN nc nt (dy, nl, mo, I, L) i_13).2.1) 0 ((passN nc nt (dy, nl, mo, I, L) i_13).2.2.1) ((passN nc nt (dy, nl, mo, I, L) i_13).2.2.2.1) ((passN nc nt (dy, nl, mo, I, L) i_13).2.2.2.2) hnc hnt hdk (by intro t ht; rw [passN_I (by decide)]; exact hT16 t ht)) hH_19 hS_20 mL_o rfl rfl gX5_pass_X5_passes rfl rfl (by decide +kernel) ⟨Nat.le_of_ble_eq_true rfl, Nat.le_of_ble_eq_true rfl⟩ hl_21 rfl (Nat.le_of_ble_eq_true rfl) dX5_pass_49 ⟨Nat.le_of_ble_eq_true rfl, Nat.le_of_ble_eq_true rfl⟩) hS_20 (fun w_24 H locs hP hH_25 hS_26 => ?_)
        subst hP
        refine lv_iinc (v := nI (i_13 + 1)) (lv' := [(2, .int (nI (i_13 + 1))), (0, .ref (ad (0, 0, 0))), (1, .int (nI dj))]) hx hb dX5_pass_52 hl_21 (k := 2) rfl (nI_1 i_13) (by decide) rfl (fun ls hl_27 => ?_)
        refine lv_goto (tgt := 43) hx hb dX5_pass_55 (by decide) ?_
        exact ih_14 _ _ _ hH_25 hS_26 (lv_sub hl_27 [1, 2, 0] rfl)
    · have hgt : 7200 < dy + dj := Nat.lt_of_not_le (fun z => c_6 ((nI_leI (by omega) (by decide)).mpr z))
      refine lv_iconst (v := 2) hx hb dX5_pass_28 (by decide) ?_
      refine lv_goto (tgt := 33) hx hb dX5_pass_29 (by decide) ?_
      refine zk_ci (zk_rV (As := [.int 2]) (rest := []) (n := 1) (k := (0, 0, 0)) C (cM_fails l D cA A g ad dy nc nt nl th mo I L 2) hH_3 hS_4 mL_o rfl rfl gX5_pass_X5_fails rfl rfl (by decide +kernel) ⟨Nat.le_of_ble_eq_true rfl, Nat.le_of_ble_eq_true rfl⟩ hl rfl (Nat.le_of_ble_eq_true rfl) dX5_pass_33 ⟨Nat.le_of_ble_eq_true rfl, Nat.le_of_ble_eq_true rfl⟩) hS_4 (fun r_28 w_29 H locs hP hH_30 hS_31 => ?_)
      obtain ⟨rfl, rfl⟩ := hP
      refine lv_if_eq (tgt := 41) hx hb dX5_pass_36 (by decide) (fun c_32 => absurd c_32 (by decide)) (fun c_32 => ?_)
      refine lv_iconst (v := 0) hx hb dX5_pass_39 (by decide) ?_
      refine zr_iret C hr ?_ hH_30 hS_31 (Nat.le_of_ble_eq_true rfl) (Nat.le_of_ble_eq_true rfl) dX5_pass_40
      exact Or.inr ⟨dj, hd1, hd2, rfl, Or.inl ⟨hgt, rfl⟩⟩
  · refine lv_if_ne (tgt := 16) hx hb dX5_pass_9 (by decide) (fun c_33 => absurd c_33 (by decide)) (fun c_33 => ?_)
    refine lv_iconst (v := 1) hx hb dX5_pass_12 (by decide) ?_
    refine lv_goto (tgt := 33) hx hb dX5_pass_13 (by decide) ?_
    refine zk_ci (zk_rV (As := [.int 1]) (rest := []) (n := 1) (k := (0, 0, 0)) C (cM_fails l D cA A g ad dy nc nt nl th mo I L 1) hH_3 hS_4 mL_o rfl rfl gX5_pass_X5_fails rfl rfl (by decide +kernel) ⟨Nat.le_of_ble_eq_true rfl, Nat.le_of_ble_eq_true rfl⟩ hl rfl (Nat.le_of_ble_eq_true rfl) dX5_pass_33 ⟨Nat.le_of_ble_eq_true rfl, Nat.le_of_ble_eq_true rfl⟩) hS_4 (fun r_34 w_35 H locs hP hH_36 hS_37 => ?_)
    obtain ⟨rfl, rfl⟩ := hP
    refine lv_if_eq (tgt := 41) hx hb dX5_pass_36 (by decide) (fun c_38 => absurd c_38 (by decide)) (fun c_38 => ?_)
    refine lv_iconst (v := 0) hx hb dX5_pass_39 (by decide) ?_
    refine zr_iret C hr ?_ hH_36 hS_37 (Nat.le_of_ble_eq_true rfl) (Nat.le_of_ble_eq_true rfl) dX5_pass_40
    exact Or.inl ⟨by assumption, rfl⟩
