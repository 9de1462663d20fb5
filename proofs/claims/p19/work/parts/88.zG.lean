/-! ===== what the Statement gives of the start ===== -/
theorem arr_known {s : State} {b : Nat} {ty : FieldType} (h : (Cond.arrayClass ty).before #[Value.ref b] s = true) : ∃ c : ClassId, ArrOfT s c ty ∧ s.vm.findClass ("[" ++ ty.toString) = some c := by
  obtain ⟨c, k, comp, h1, h2, h3⟩ := Cond.arrayClass_spec h
  exact ⟨c, fun n z => ⟨fun k h => (by cases h), k, h2, comp, h3⟩, h1⟩
theorem lw_zG {s : State} {b : Nat} (hts : ∀ w ∈ lw_tbl, w.before #[Value.ref b] s = true) (hgv : (Jvm.Cond.and given_1 narrow_1).before #[Value.ref b] s = true) : ∃ (D : va_G) (cA : Nat → ClassId) (g : Nat → Nat), zG D (zt cA) (fun q => s.heap.size ≤ q) g s := by
  have hs := flat_of_before _ hgv
  have hA : ∀ a : Nat, a < s.heap.size → ¬ (fun q => s.heap.size ≤ q) a := fun a h => Nat.not_le.mpr h
  obtain ⟨c0, i0, k0⟩ := u_known (C := RJx4a65c) (T := TJx4a65c) (N := 3) (n := 3) hts inJx4a65c (hts (.instantiable RJx4a65c 3) (by decide +kernel))
  obtain ⟨c1, i1, k1⟩ := u_known (C := RX0) (T := TX0) (N := 5) (n := 5) hts inX0 (hts (.instantiable RX0 5) (by decide +kernel))
  obtain ⟨c2, i2, k2⟩ := u_known (C := RX1) (T := TX1) (N := 4) (n := 4) hts inX1 (hts (.instantiable RX1 4) (by decide +kernel))
  obtain ⟨c3, i3, k3⟩ := u_known (C := RX2) (T := TX2) (N := 4) (n := 4) hts inX2 (hts (.instantiable RX2 4) (by decide +kernel))
  obtain ⟨c4, i4, k4⟩ := u_known (C := RX3) (T := TX3) (N := 9) (n := 9) hts inX3 (hts (.instantiable RX3 9) (by decide +kernel))
  obtain ⟨c5, i5, k5⟩ := u_known (C := RX4) (T := TX4) (N := 5) (n := 5) hts inX4 (hts (.instantiable RX4 5) (by decide +kernel))
  obtain ⟨a0, b0, d0⟩ := arr_known (hts (.arrayClass .int) (by decide +kernel))
  obtain ⟨a1, b1, d1⟩ := arr_known (hts (.arrayClass .long) (by decide +kernel))
  obtain ⟨comp, a3, kk, e1, -, e3, e4, e5⟩ := Cond.arrayOver_spec (hts (.arrayOver (.object "java/lang/Object")) (by decide +kernel))
  have hW : (Cond.isRef (.static "java/util/ArrayList" "DEFAULTCAPACITY_EMPTY_ELEMENTDATA" "[Ljava/lang/Object;")).before #[Value.ref b] s = true := hs _ (by decide +kernel)
  obtain ⟨t0, ht0, hT0⟩ := va_Tof (ty := .object "java/lang/Object") (tm := .static "java/util/ArrayList" "DEFAULTCAPACITY_EMPTY_ELEMENTDATA" "[Ljava/lang/Object;") (N := 0) (f := fun _ => .null) (by decide) (hs _ (by decide +kernel)) (va_eqt (z := 0) (hs _ (by decide +kernel))) (fun j hj => absurd hj (Nat.not_lt_zero j)) hA
  obtain ⟨mi, hmi⟩ := va_Mi.of (C := "[Ljava/lang/Object;") (hs (.isRef (.mirror "[Ljava/lang/Object;")) (by decide +kernel))
  obtain ⟨s1, -, -, -, g1, -⟩ := Cond.exactly_spec (hs (.exactly (.string "SavingsHall" 219) "java/lang/String") (by decide +kernel))
  obtain ⟨s2, -, -, -, g2, -⟩ := Cond.exactly_spec (hs (.exactly (.string "SavingsHall" 226) "java/lang/String") (by decide +kernel))
  obtain ⟨s3, -, -, -, g3, -⟩ := Cond.exactly_spec (hs (.exactly (.string "SavingsHall" 231) "java/lang/String") (by decide +kernel))
  refine ⟨(fun k => match k with | 0 => c0 | 1 => c1 | 2 => c2 | 3 => c3 | 4 => c4 | _ => c5, fun k => match k with | 0 => i0 | 1 => i1 | 2 => i2 | 3 => i3 | 4 => i4 | _ => i5), fun k => match k with | 0 => a0 | 1 => a1 | 2 => a0 | _ => a3, fun k => match k with | 0 => t0 | 1 => mi | 2 => s1 | 3 => s2 | _ => s3, ?_⟩
  refine ⟨⟨fun k q hq => ?_, fun k q hq => ?_⟩, fun q h => h, ?_, hT0, hmi, ?_, ?_, ?_, ?_, ?_, ?_, ?_, ?_, ?_, ?_, ?_⟩
  · match k, hq with
    | 0, hq => cases hq; exact k0
    | 1, hq => cases hq; exact k1
    | 2, hq => cases hq; exact k2
    | 3, hq => cases hq; exact k3
    | 4, hq => cases hq; exact k4
    | 5, hq => cases hq; exact k5
    | k + 6, hq => exact absurd hq (by simp [vwCl])
  · match k, hq with
    | 0, hq => cases hq; exact ⟨b0, d0⟩
    | 1, hq => cases hq; exact ⟨b1, d1⟩
    | 2, hq => cases hq; exact ⟨b0, d0⟩
    | 3, hq => cases hq; exact ⟨fun n z => ⟨fun k h => (by cases h), kk, e3, comp, e4⟩, kk, comp, e3, e4, e1, e5⟩
    | k + 4, hq => exact absurd hq (by simp [zt])
  · exact va_Zof (hts _ (by decide +kernel)) (hts _ (by decide +kernel)) ht0 hA
  · exact va_Dc.of (hts _ (by decide +kernel))
  · exact vx_Zqof (hts (.laysStatic Bundle.tN "UNASSIGNED_STACK" Bundle.steD) (by decide +kernel)) (hts (.initialized Bundle.tN) (by decide +kernel)) (hs (.isRef (.static Bundle.tN "UNASSIGNED_STACK" Bundle.steD)) (by decide +kernel)) hA
  · exact vx_Zqof (hts (.laysStatic Bundle.tN "SUPPRESSED_SENTINEL" Bundle.listD) (by decide +kernel)) (hts (.initialized Bundle.tN) (by decide +kernel)) (hs (.isRef (.static Bundle.tN "SUPPRESSED_SENTINEL" Bundle.listD)) (by decide +kernel)) hA
  · intro x hx
    rcases List.mem_cons.mp hx with rfl | hx
    · exact va_Nw.of rfl (hts (.castable "java/lang/IndexOutOfBoundsException" "java/lang/IndexOutOfBoundsException") (by decide +kernel))
    · rcases List.mem_cons.mp hx with rfl | hx
      · exact va_Nw.of rfl (hts (.castable "java/lang/IllegalArgumentException" "java/lang/IllegalArgumentException") (by decide +kernel))
      · cases List.mem_singleton.mp hx
        exact va_Nw.of rfl (hts (.castable "java/lang/IllegalStateException" "java/lang/IllegalStateException") (by decide +kernel))
  · intro x hx
    rcases List.mem_cons.mp hx with rfl | hx
    · exact va_Nc.of (hs (.not (.castable "java/lang/IllegalArgumentException" "java/lang/IndexOutOfBoundsException")) (by decide +kernel))
    · rcases List.mem_cons.mp hx with rfl | hx
      · exact va_Nc.of (hs (.not (.castable "java/lang/IllegalStateException" "java/lang/IndexOutOfBoundsException")) (by decide +kernel))
      · cases List.mem_singleton.mp hx
        exact va_Nc.of (hs (.not (.castable "java/lang/IllegalStateException" "java/lang/IllegalArgumentException")) (by decide +kernel))
  · exact va_AO.of (hts (.arrayOver (.object "java/lang/Object")) (by decide +kernel))
  · exact vk_R.of (hts (.stringRef RX4 219 "there is none of this number") (by decide +kernel)) g1
  · exact vk_R.of (hts (.stringRef RX4 226 "an argument is out of range") (by decide +kernel)) g2
  · exact vk_R.of (hts (.stringRef RX4 231 "this is not possible now") (by decide +kernel)) g3
  · intro x hx
    rcases List.mem_cons.mp hx with rfl | hx
    · exact va_Nw.of rfl (hts (.castable "SavingsHall$Client" "java/lang/Object") (by decide +kernel))
    · rcases List.mem_cons.mp hx with rfl | hx
      · exact va_Nw.of rfl (hts (.castable "SavingsHall$Fund" "java/lang/Object") (by decide +kernel))
      · rcases List.mem_cons.mp hx with rfl | hx
        · exact va_Nw.of rfl (hts (.castable "SavingsHall$Holding" "java/lang/Object") (by decide +kernel))
        · cases List.mem_singleton.mp hx
          exact va_Nw.of rfl (hts (.castable "SavingsHall$Trade" "java/lang/Object") (by decide +kernel))
  · intro x hx
    rcases List.mem_cons.mp hx with rfl | hx
    · exact va_Nw.of rfl (hts (.declares (Bundle.initS "java/lang/RuntimeException")) (by decide +kernel))
    · rcases List.mem_cons.mp hx with rfl | hx
      · exact va_Nw.of rfl (hts (.declares (Bundle.initS "java/lang/Exception")) (by decide +kernel))
      · cases List.mem_singleton.mp hx
        exact va_Nw.of rfl (hts (.declares (Bundle.initS Bundle.tN)) (by decide +kernel))
