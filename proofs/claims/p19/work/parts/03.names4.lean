theorem in18_0 : Cond.static yL_moves ∈ lw_tbl := by decide +kernel
set_option maxRecDepth 20000 in
theorem in18_1 : Cond.code yL_moves cL_moves 11 none ∈ lw_tbl := List.mem_of_getElem? (i := 588) rfl
theorem in18_2 : Cond.constantLong RL 79 (999) ∈ lw_tbl := by decide +kernel
theorem in18_3 : Cond.methodLink RL 98 yL_wealth ∈ lw_tbl := by decide +kernel
theorem in18_4 : Cond.static yL_wealth ∈ lw_tbl := by decide +kernel
set_option maxRecDepth 20000 in
theorem in18_5 : Cond.code yL_wealth cL_wealth 7 (some .long) ∈ lw_tbl := List.mem_of_getElem? (i := 603) rfl
theorem in18_6 : Cond.methodLink RL 140 yL_balances ∈ lw_tbl := by decide +kernel
theorem in18_7 : Cond.static yL_balances ∈ lw_tbl := by decide +kernel
set_option maxRecDepth 20000 in
theorem in18_8 : Cond.code yL_balances cL_balances 24 (some .int) ∈ lw_tbl := List.mem_of_getElem? (i := 606) rfl
theorem in18_9 : Cond.methodLink RL 94 yL_goes ∈ lw_tbl := by decide +kernel
theorem in18_10 : Cond.static yL_goes ∈ lw_tbl := by decide +kernel
set_option maxRecDepth 20000 in
theorem in18_11 : Cond.code yL_goes cL_goes 19 (some .boolean) ∈ lw_tbl := List.mem_of_getElem? (i := 596) rfl
theorem in18_12 : Cond.methodLink RL 114 yL_taxes ∈ lw_tbl := by decide +kernel
theorem in18_13 : Cond.static yL_taxes ∈ lw_tbl := by decide +kernel
set_option maxRecDepth 20000 in
theorem in18_14 : Cond.code yL_taxes cL_taxes 12 none ∈ lw_tbl := List.mem_of_getElem? (i := 600) rfl
theorem in18_15 : Cond.methodLink RL 144 yL_isSo ∈ lw_tbl := by decide +kernel
theorem in18_16 : Cond.static yL_isSo ∈ lw_tbl := by decide +kernel
set_option maxRecDepth 20000 in
theorem in18_17 : Cond.code yL_isSo cL_isSo 19 (some .boolean) ∈ lw_tbl := List.mem_of_getElem? (i := 609) rfl
theorem in18_18 : Cond.constantLong RL 120 (-1) ∈ lw_tbl := by decide +kernel
theorem in18_19 : Cond.methodLink RL 109 yX4_units ∈ lw_tbl := by decide +kernel
theorem in18_20 : Cond.instanceMethod yX4_units ∈ lw_tbl := by decide +kernel
theorem in18_21 : Cond.selects RX4 yX4_units yX4_units ∈ lw_tbl := by decide +kernel
set_option maxRecDepth 20000 in
theorem in18_22 : Cond.code yX4_units cX4_units 2 (some .long) ∈ lw_tbl := List.mem_of_getElem? (i := 613) rfl
theorem in18_23 : Cond.methodLink RL 112 yX4_wealth ∈ lw_tbl := by decide +kernel
theorem in_wsL_law0_r18 : ∀ w ∈ wsL_law0_r18, w ∈ lw_tbl := (List.forall_mem_cons.mpr ⟨in18_0, (List.forall_mem_cons.mpr ⟨in18_1, (List.forall_mem_cons.mpr ⟨in18_2, (List.forall_mem_cons.mpr ⟨in18_3, (List.forall_mem_cons.mpr ⟨in18_4, (List.forall_mem_cons.mpr ⟨in18_5, (List.forall_mem_cons.mpr ⟨in18_6, (List.forall_mem_cons.mpr ⟨in18_7, (List.forall_mem_cons.mpr ⟨in18_8, (List.forall_mem_cons.mpr ⟨in18_9, (List.forall_mem_cons.mpr ⟨in18_10, (List.forall_mem_cons.mpr ⟨in18_11, (List.forall_mem_cons.mpr ⟨in18_12, (List.forall_mem_cons.mpr ⟨in18_13, (List.forall_mem_cons.mpr ⟨in18_14, (List.forall_mem_cons.mpr ⟨in18_15, (List.forall_mem_cons.mpr ⟨in18_16, (List.forall_mem_cons.mpr ⟨in18_17, (List.forall_mem_cons.mpr ⟨in18_18, (List.forall_mem_cons.mpr ⟨in18_19, (List.forall_mem_cons.mpr ⟨in18_20, (List.forall_mem_cons.mpr ⟨in18_21, (List.forall_mem_cons.mpr ⟨in18_22, (List.forall_mem_cons.mpr ⟨in18_23, (fun _ h => absurd h List.not_mem_nil)⟩)⟩)⟩)⟩)⟩)⟩)⟩)⟩)⟩)⟩)⟩)⟩)⟩)⟩)⟩)⟩)⟩)⟩)⟩)⟩)⟩)⟩)⟩)⟩)
set_option maxRecDepth 20000 in
theorem in_wsL_law0_r19 : ∀ w ∈ wsL_law0_r19, w ∈ lw_tbl := fun w h => (goodIn_p wsL_law0_r19 [617] (by decide +kernel) (by decide +kernel) w h).1
theorem in0_wsX40 : ∀ w ∈ wsX40, w ∈ lw_tbl := by decide +kernel
theorem in0_wsJx4a65c0 : ∀ w ∈ wsJx4a65c0, w ∈ lw_tbl := by decide +kernel
theorem in0_wsX10 : ∀ w ∈ wsX10, w ∈ lw_tbl := by decide +kernel
theorem in0_wsX00 : ∀ w ∈ wsX00, w ∈ lw_tbl := by decide +kernel
theorem in0_wsX20 : ∀ w ∈ wsX20, w ∈ lw_tbl := by decide +kernel
theorem in0_wsX30 : ∀ w ∈ wsX30, w ∈ lw_tbl := by decide +kernel
