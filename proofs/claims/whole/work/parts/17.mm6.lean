def rmM_init : Room := { frames := 1, cells := 19, slots := 1668, locals := 32 }
set_option maxHeartbeats 600000 in
set_option maxRecDepth 100000 in
theorem cM_init (l : Launch) (D : va_G) (cA : Nat → ClassId) (A : Nat → Prop) (g : Nat → Nat) (ad : zk_K → Nat) (o : Nat) (h0 : ad (0, 0, 0) = o) : zM l yX5_init wsX5_init rmM_init D (zt cA) A g [.ref o] (mp cA ad 0) (zQv (fun w' => ∃ ad' : zk_K → Nat, ad' (0, 0, 0) = o ∧ mw cA ad' 0 0 0 0 0 0 (prI 6) mpL = w')) := by
  obtain ⟨n6, hn6⟩ : ∃ n : Nat, n = 6 := ⟨6, rfl⟩
  refine zM_of (cc := cX5_init) (maxL := 2) (ret := none) (own := RX5) (by decide +kernel) rfl (Nat.le_of_ble_eq_true rfl) rfl ?_
  intro p e s m below meth c C hr hnm H locs ls hH hS hl
  obtain ⟨⟨hx, hb, hml, hown, hts⟩, hG, hlk⟩ := id C
  have hin : ∀ w ∈ wsX50, w ∈ wsX5_init := by decide +kernel
  have hl : lv_has ls 2 [(0, .ref o)] := hl
  refine lv_aload_n hx hb dX5_init_0 rfl (lv_at hl 0 rfl) ?_
  refine W.objInit hx hb hown (hts (.methodLink RX5 1 objectInit) (by decide +kernel)) (hts (.instanceMethod objectInit) (by decide +kernel)) (hts _ (by decide +kernel)) rfl (by rw [hml]; exact hl.1) rfl dX5_init_1 (Nat.le_of_ble_eq_true rfl) (Nat.le_of_ble_eq_true rfl) ?_
  refine W.eq (g2 := F0 m 4 ls []) rfl ?_
  refine lv_aload_n hx hb dX5_init_4 rfl (lv_at hl 0 rfl) ?_
  refine lv_bipush (v := 6) hx hb dX5_init_5 (by decide) ?_
  refine zm_na C hin hnm h0 hH hS 1 (by decide) (by decide) (by decide) (by decide) (by decide) .int (ty := .int) rfl (fun _ h => by cases h) (by decide +kernel) 0 rfl (.inl (mpI 1)) (fun _ => rfl) rfl (by decide) (by decide) (by decide) (Nat.le_of_ble_eq_true rfl) (Nat.le_of_ble_eq_true rfl) dX5_init_7 (by decide +kernel) rfl rfl (fun _ => rfl) (fun _ => rfl) dX5_init_9 (fun ad H locs h0_3 hH_1 hS_2 => ?_)
  refine lv_aload_n hx hb dX5_init_12 rfl (lv_at hl 0 rfl) ?_
  refine lv_bipush (v := 6) hx hb dX5_init_13 (by decide) ?_
  refine zm_na C hin hnm h0_3 hH_1 hS_2 2 (by decide) (by decide) (by decide) (by decide) (by decide) .long (ty := .long) rfl (fun _ h => by cases h) (by decide +kernel) 1 rfl (.inr (.inl (mpL 2))) (fun _ => rfl) rfl (by decide) (by decide) (by decide) (Nat.le_of_ble_eq_true rfl) (Nat.le_of_ble_eq_true rfl) dX5_init_15 (by decide +kernel) rfl rfl (fun _ => rfl) (fun _ => rfl) dX5_init_17 (fun ad H locs h0_6 hH_4 hS_5 => ?_)
  refine lv_aload_n hx hb dX5_init_20 rfl (lv_at hl 0 rfl) ?_
  refine lv_bipush (v := 6) hx hb dX5_init_21 (by decide) ?_
  refine zm_na C hin hnm h0_6 hH_4 hS_5 3 (by decide) (by decide) (by decide) (by decide) (by decide) .long (ty := .long) rfl (fun _ h => by cases h) (by decide +kernel) 1 rfl (.inr (.inl (mpL 3))) (fun _ => rfl) rfl (by decide) (by decide) (by decide) (Nat.le_of_ble_eq_true rfl) (Nat.le_of_ble_eq_true rfl) dX5_init_23 (by decide +kernel) rfl rfl (fun _ => rfl) (fun _ => rfl) dX5_init_25 (fun ad H locs h0_9 hH_7 hS_8 => ?_)
  refine lv_aload_n hx hb dX5_init_28 rfl (lv_at hl 0 rfl) ?_
  refine lv_bipush (v := 12) hx hb dX5_init_29 (by decide) ?_
  refine zm_na C hin hnm h0_9 hH_7 hS_8 6 (by decide) (by decide) (by decide) (by decide) (by decide) .long (ty := .long) rfl (fun _ h => by cases h) (by decide +kernel) 1 rfl (.inr (.inl (mpL 6))) (fun _ => rfl) rfl (by decide) (by decide) (by decide) (Nat.le_of_ble_eq_true rfl) (Nat.le_of_ble_eq_true rfl) dX5_init_31 (by decide +kernel) rfl rfl (fun _ => rfl) (fun _ => rfl) dX5_init_33 (fun ad H locs h0_12 hH_10 hS_11 => ?_)
  refine lv_aload_n hx hb dX5_init_36 rfl (lv_at hl 0 rfl) ?_
  refine lv_bipush (v := 72) hx hb dX5_init_37 (by decide) ?_
  refine zm_na C hin hnm h0_12 hH_10 hS_11 7 (by decide) (by decide) (by decide) (by decide) (by decide) .int (ty := .int) rfl (fun _ h => by cases h) (by decide +kernel) 0 rfl (.inl (mpI 7)) (fun _ => rfl) rfl (by decide) (by decide) (by decide) (Nat.le_of_ble_eq_true rfl) (Nat.le_of_ble_eq_true rfl) dX5_init_39 (by decide +kernel) rfl rfl (fun _ => rfl) (fun _ => rfl) dX5_init_41 (fun ad H locs h0_15 hH_13 hS_14 => ?_)
  refine lv_aload_n hx hb dX5_init_44 rfl (lv_at hl 0 rfl) ?_
  refine lv_bipush (v := 72) hx hb dX5_init_45 (by decide) ?_
  refine zm_na C hin hnm h0_15 hH_13 hS_14 8 (by decide) (by decide) (by decide) (by decide) (by decide) .long (ty := .long) rfl (fun _ h => by cases h) (by decide +kernel) 1 rfl (.inr (.inl (mpL 8))) (fun _ => rfl) rfl (by decide) (by decide) (by decide) (Nat.le_of_ble_eq_true rfl) (Nat.le_of_ble_eq_true rfl) dX5_init_47 (by decide +kernel) rfl rfl (fun _ => rfl) (fun _ => rfl) dX5_init_49 (fun ad H locs h0_18 hH_16 hS_17 => ?_)
  refine lv_aload_n hx hb dX5_init_52 rfl (lv_at hl 0 rfl) ?_
  refine lv_sipush (v := 252) hx hb dX5_init_53 (by decide) ?_
  refine zm_na C hin hnm h0_18 hH_16 hS_17 9 (by decide) (by decide) (by decide) (by decide) (by decide) .long (ty := .long) rfl (fun _ h => by cases h) (by decide +kernel) 1 rfl (.inr (.inl (mpL 9))) (fun _ => rfl) rfl (by decide) (by decide) (by decide) (Nat.le_of_ble_eq_true rfl) (Nat.le_of_ble_eq_true rfl) dX5_init_56 (by decide +kernel) rfl rfl (fun _ => rfl) (fun _ => rfl) dX5_init_58 (fun ad H locs h0_21 hH_19 hS_20 => ?_)
  refine lv_aload_n hx hb dX5_init_61 rfl (lv_at hl 0 rfl) ?_
  refine lv_bipush (v := 120) hx hb dX5_init_62 (by decide) ?_
  refine zm_na C hin hnm h0_21 hH_19 hS_20 11 (by decide) (by decide) (by decide) (by decide) (by decide) .int (ty := .int) rfl (fun _ h => by cases h) (by decide +kernel) 0 rfl (.inl (mpI 11)) (fun _ => rfl) rfl (by decide) (by decide) (by decide) (Nat.le_of_ble_eq_true rfl) (Nat.le_of_ble_eq_true rfl) dX5_init_64 (by decide +kernel) rfl rfl (fun _ => rfl) (fun _ => rfl) dX5_init_66 (fun ad H locs h0_24 hH_22 hS_23 => ?_)
  refine lv_aload_n hx hb dX5_init_69 rfl (lv_at hl 0 rfl) ?_
  refine lv_bipush (v := 120) hx hb dX5_init_70 (by decide) ?_
  refine zm_na C hin hnm h0_24 hH_22 hS_23 12 (by decide) (by decide) (by decide) (by decide) (by decide) .int (ty := .int) rfl (fun _ h => by cases h) (by decide +kernel) 0 rfl (.inl (mpI 12)) (fun _ => rfl) rfl (by decide) (by decide) (by decide) (Nat.le_of_ble_eq_true rfl) (Nat.le_of_ble_eq_true rfl) dX5_init_72 (by decide +kernel) rfl rfl (fun _ => rfl) (fun _ => rfl) dX5_init_74 (fun ad H locs h0_27 hH_25 hS_26 => ?_)
  refine lv_aload_n hx hb dX5_init_77 rfl (lv_at hl 0 rfl) ?_
  refine lv_bipush (v := 120) hx hb dX5_init_78 (by decide) ?_
  refine zm_na C hin hnm h0_27 hH_25 hS_26 13 (by decide) (by decide) (by decide) (by decide) (by decide) .long (ty := .long) rfl (fun _ h => by cases h) (by decide +kernel) 1 rfl (.inr (.inl (mpL 13))) (fun _ => rfl) rfl (by decide) (by decide) (by decide) (Nat.le_of_ble_eq_true rfl) (Nat.le_of_ble_eq_true rfl) dX5_init_80 (by decide +kernel) rfl rfl (fun _ => rfl) (fun _ => rfl) dX5_init_82 (fun ad H locs h0_30 hH_28 hS_29 => ?_)
  refine lv_aload_n hx hb dX5_init_85 rfl (lv_at hl 0 rfl) ?_
  refine lv_bipush (v := 120) hx hb dX5_init_86 (by decide) ?_
  refine zm_na C hin hnm h0_30 hH_28 hS_29 14 (by decide) (by decide) (by decide) (by decide) (by decide) .long (ty := .long) rfl (fun _ h => by cases h) (by decide +kernel) 1 rfl (.inr (.inl (mpL 14))) (fun _ => rfl) rfl (by decide) (by decide) (by decide) (Nat.le_of_ble_eq_true rfl) (Nat.le_of_ble_eq_true rfl) dX5_init_88 (by decide +kernel) rfl rfl (fun _ => rfl) (fun _ => rfl) dX5_init_90 (fun ad H locs h0_33 hH_31 hS_32 => ?_)
  refine lv_aload_n hx hb dX5_init_93 rfl (lv_at hl 0 rfl) ?_
  refine lv_bipush (v := 120) hx hb dX5_init_94 (by decide) ?_
  refine zm_na C hin hnm h0_33 hH_31 hS_32 15 (by decide) (by decide) (by decide) (by decide) (by decide) .long (ty := .long) rfl (fun _ h => by cases h) (by decide +kernel) 1 rfl (.inr (.inl (mpL 15))) (fun _ => rfl) rfl (by decide) (by decide) (by decide) (Nat.le_of_ble_eq_true rfl) (Nat.le_of_ble_eq_true rfl) dX5_init_96 (by decide +kernel) rfl rfl (fun _ => rfl) (fun _ => rfl) dX5_init_98 (fun ad H locs h0_36 hH_34 hS_35 => ?_)
  refine lv_aload_n hx hb dX5_init_101 rfl (lv_at hl 0 rfl) ?_
  refine lv_bipush (v := 120) hx hb dX5_init_102 (by decide) ?_
  refine zm_na C hin hnm h0_36 hH_34 hS_35 16 (by decide) (by decide) (by decide) (by decide) (by decide) .int (ty := .int) rfl (fun _ h => by cases h) (by decide +kernel) 0 rfl (.inl (mpI 16)) (fun _ => rfl) rfl (by decide) (by decide) (by decide) (Nat.le_of_ble_eq_true rfl) (Nat.le_of_ble_eq_true rfl) dX5_init_104 (by decide +kernel) rfl rfl (fun _ => rfl) (fun _ => rfl) dX5_init_106 (fun ad H locs h0_39 hH_37 hS_38 => ?_)
  refine lv_aload_n hx hb dX5_init_109 rfl (lv_at hl 0 rfl) ?_
  refine lv_bipush (v := 120) hx hb dX5_init_110 (by decide) ?_
  refine zm_na C hin hnm h0_39 hH_37 hS_38 17 (by decide) (by decide) (by decide) (by decide) (by decide) .boolean (ty := .boolean) rfl (fun _ h => by cases h) (by decide +kernel) 2 rfl (.inl (mpI 17)) (fun _ => rfl) rfl (by decide) (by decide) (by decide) (Nat.le_of_ble_eq_true rfl) (Nat.le_of_ble_eq_true rfl) dX5_init_112 (by decide +kernel) rfl rfl (fun _ => rfl) (fun _ => rfl) dX5_init_114 (fun ad H locs h0_42 hH_40 hS_41 => ?_)
  refine lv_aload_n hx hb dX5_init_117 rfl (lv_at hl 0 rfl) ?_
  refine lv_bipush (v := 120) hx hb dX5_init_118 (by decide) ?_
  refine zm_na C hin hnm h0_42 hH_40 hS_41 19 (by decide) (by decide) (by decide) (by decide) (by decide) .int (ty := .int) rfl (fun _ h => by cases h) (by decide +kernel) 0 rfl (.inl (mpI 19)) (fun _ => rfl) rfl (by decide) (by decide) (by decide) (Nat.le_of_ble_eq_true rfl) (Nat.le_of_ble_eq_true rfl) dX5_init_120 (by decide +kernel) rfl rfl (fun _ => rfl) (fun _ => rfl) dX5_init_122 (fun ad H locs h0_45 hH_43 hS_44 => ?_)
  refine lv_aload_n hx hb dX5_init_125 rfl (lv_at hl 0 rfl) ?_
  refine lv_bipush (v := 120) hx hb dX5_init_126 (by decide) ?_
  refine zm_na C hin hnm h0_45 hH_43 hS_44 20 (by decide) (by decide) (by decide) (by decide) (by decide) .long (ty := .long) rfl (fun _ h => by cases h) (by decide +kernel) 1 rfl (.inr (.inl (mpL 20))) (fun _ => rfl) rfl (by decide) (by decide) (by decide) (Nat.le_of_ble_eq_true rfl) (Nat.le_of_ble_eq_true rfl) dX5_init_128 (by decide +kernel) rfl rfl (fun _ => rfl) (fun _ => rfl) dX5_init_130 (fun ad H locs h0_48 hH_46 hS_47 => ?_)
  refine lv_aload_n hx hb dX5_init_133 rfl (lv_at hl 0 rfl) ?_
  refine lv_bipush (v := 120) hx hb dX5_init_134 (by decide) ?_
  refine zm_na C hin hnm h0_48 hH_46 hS_47 21 (by decide) (by decide) (by decide) (by decide) (by decide) .long (ty := .long) rfl (fun _ h => by cases h) (by decide +kernel) 1 rfl (.inr (.inl (mpL 21))) (fun _ => rfl) rfl (by decide) (by decide) (by decide) (Nat.le_of_ble_eq_true rfl) (Nat.le_of_ble_eq_true rfl) dX5_init_136 (by decide +kernel) rfl rfl (fun _ => rfl) (fun _ => rfl) dX5_init_138 (fun ad H locs h0_51 hH_49 hS_50 => ?_)
  refine lv_aload_n hx hb dX5_init_141 rfl (lv_at hl 0 rfl) ?_
  refine lv_bipush (v := 21) hx hb dX5_init_142 (by decide) ?_
  refine zm_na C hin hnm h0_51 hH_49 hS_50 22 (by decide) (by decide) (by decide) (by decide) (by decide) .long (ty := .long) rfl (fun _ h => by cases h) (by decide +kernel) 1 rfl (.inr (.inl (mpL 22))) (fun _ => rfl) rfl (by decide) (by decide) (by decide) (Nat.le_of_ble_eq_true rfl) (Nat.le_of_ble_eq_true rfl) dX5_init_144 (by decide +kernel) rfl rfl (fun _ => rfl) (fun _ => rfl) dX5_init_146 (fun ad H locs h0_54 hH_52 hS_53 => ?_)
  refine lv_aload_n hx hb dX5_init_149 rfl (lv_at hl 0 rfl) ?_
  refine lv_bipush (v := 21) hx hb dX5_init_150 (by decide) ?_
  refine zm_na C hin hnm h0_54 hH_52 hS_53 23 (by decide) (by decide) (by decide) (by decide) (by decide) .long (ty := .long) rfl (fun _ h => by cases h) (by decide +kernel) 1 rfl (.inr (.inl (mpL 23))) (fun _ => rfl) rfl (by decide) (by decide) (by decide) (Nat.le_of_ble_eq_true rfl) (Nat.le_of_ble_eq_true rfl) dX5_init_152 (by decide +kernel) rfl rfl (fun _ => rfl) (fun _ => rfl) dX5_init_154 (fun ad H locs h0_57 hH_55 hS_56 => ?_)
  refine lv_iconst (v := 0) hx hb dX5_init_157 (by decide) ?_
  refine lv_istore_n (lv' := [(1, .int 0), (0, .ref o)]) hx hb dX5_init_158 rfl hl (by decide) rfl (fun ls hl_58 => ?_)
  have hM := hH_55.sb (mp_mw cA ad)
  subst h0_57
  refine z_at (n := n6) (P := fun i_59 => zL p l e rmM_init s m _ below meth c 2 D A _ (mw cA ad 0 0 0 0 0 0 (prI i_59) mpL) 19 1668 159 [(0, .ref (ad (0, 0, 0))), (1, .int (nI i_59))] []) 0 (Nat.zero_le _) (fun h => h _ _ _ hM hS_56 (lv_sub hl_58 [1, 0] rfl)) ?_ ?_
  · intro H locs ls hH_61 hS_62 hl_63
    refine lv_iload_n hx hb dX5_init_159 rfl (lv_at hl_63 1 rfl) ?_
    refine lv_bipush (v := 6) hx hb dX5_init_160 (by decide) ?_
    refine lv_icmp_ge (tgt := 180) hx hb dX5_init_162 (by decide) (fun c_64 => ?_) (fun c_64 => absurd (by rw [hn6]; exact Int32.le_refl _) c_64)
    refine zr_vret C hr ?_ hH_61 hS_62 (Nat.le_of_ble_eq_true rfl) (Nat.le_of_ble_eq_true rfl) dX5_init_180
    subst hn6
    exact ⟨_, rfl, rfl⟩
  · intro i_59 hi_59 ih_60 H locs ls hH_65 hS_66 hl_67
    refine lv_iload_n hx hb dX5_init_159 rfl (lv_at hl_67 1 rfl) ?_
    refine lv_bipush (v := 6) hx hb dX5_init_160 (by decide) ?_
    refine lv_icmp_ge (tgt := 180) hx hb dX5_init_162 (by decide) (fun c_68 => absurd c_68 (nI_ge (b := 6) (by omega) (by omega))) (fun c_68 => ?_)
    refine lv_aload_n hx hb dX5_init_165 rfl (lv_at hl_67 0 rfl) ?_
    refine zm_get C hin hH_65 1 (by decide) (by decide +kernel) rfl dX5_init_166 ?_
    refine lv_iload_n hx hb dX5_init_169 rfl (lv_at hl_67 1 rfl) ?_
    refine lv_sipush (v := 10000) hx hb dX5_init_170 (by decide) ?_
    refine zm_ist C hH_65 hS_66 1 (by decide) rfl (j := i_59) rfl (show i_59 < 6 by omega) dX5_init_173 (fun H locs hH_69 hS_70 => ?_)
    refine lv_iinc (v := nI (i_59 + 1)) (lv' := [(1, .int (nI (i_59 + 1))), (0, .ref (ad (0, 0, 0)))]) hx hb dX5_init_174 hl_67 (k := 1) rfl (nI_1 i_59) (by decide) rfl (fun ls hl_71 => ?_)
    refine lv_goto (tgt := 159) hx hb dX5_init_177 (by decide) ?_
    exact ih_60 _ _ _ hH_69 hS_70 (lv_sub hl_71 [1, 0] rfl)
