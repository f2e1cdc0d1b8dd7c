set_option maxRecDepth 20000 in
theorem lin_19 : ∀ w ∈ wsL_law0_r19, w ∈ lw_tbl := by decide +kernel
set_option maxRecDepth 20000 in
theorem lin_20 : ∀ w ∈ wsL_law0_r20, w ∈ lw_tbl := by decide +kernel
set_option maxRecDepth 20000 in
theorem lin_21 : ∀ w ∈ wsL_law0_r21, w ∈ lw_tbl := by decide +kernel
set_option maxRecDepth 20000 in
theorem lin_22 : ∀ w ∈ wsL_law0_r22, w ∈ lw_tbl := by decide +kernel
set_option maxRecDepth 20000 in
theorem lin_23_0 : Cond.selects RX6 yX6_visible yX6_visible ∈ lw_tbl := by decide +kernel
set_option maxRecDepth 20000 in
theorem lin_23_1 : Cond.code yX6_visible cX6_visible 1 (some .double) ∈ lw_tbl := by decide +kernel
set_option maxRecDepth 20000 in
theorem lin_23_2 : Cond.constantDouble RX6 188 (4629137466983448576) ∈ lw_tbl := by decide +kernel
set_option maxRecDepth 20000 in
theorem lin_23_3 : Cond.methodLink RX6 185 yX4_seeingPairs ∈ lw_tbl := by decide +kernel
set_option maxRecDepth 20000 in
theorem lin_23_4 : Cond.instanceMethod yX4_seeingPairs ∈ lw_tbl := by decide +kernel
set_option maxRecDepth 20000 in
theorem lin_23_5 : Cond.selects RX4 yX4_seeingPairs yX4_seeingPairs ∈ lw_tbl := by decide +kernel
set_option maxRecDepth 20000 in
theorem lin_23_6 : Cond.code yX4_seeingPairs cX4_seeingPairs 4 (some .int) ∈ lw_tbl := by decide +kernel
set_option maxRecDepth 20000 in
theorem lin_23_7 : Cond.methodLink RX4 31 yX4_hasView ∈ lw_tbl := by decide +kernel
set_option maxRecDepth 20000 in
theorem lin_23_8 : Cond.instanceMethod yX4_hasView ∈ lw_tbl := by decide +kernel
set_option maxRecDepth 20000 in
theorem lin_23_9 : Cond.selects RX4 yX4_hasView yX4_hasView ∈ lw_tbl := by decide +kernel
set_option maxRecDepth 20000 in
theorem lin_23_10 : Cond.code yX4_hasView cX4_hasView 4 (some .boolean) ∈ lw_tbl := by decide +kernel
set_option maxRecDepth 20000 in
theorem lin_23_11 : Cond.methodLink RX4 35 yX4_mood ∈ lw_tbl := by decide +kernel
set_option maxRecDepth 20000 in
theorem lin_23_12 : Cond.methodLink RL 175 yL_cell ∈ lw_tbl := by decide +kernel
set_option maxRecDepth 20000 in
theorem lin_23_13 : Cond.static yL_cell ∈ lw_tbl := by decide +kernel
set_option maxRecDepth 20000 in
theorem lin_23_14 : Cond.code yL_cell cL_cell 2 (some .int) ∈ lw_tbl := by decide +kernel
set_option maxRecDepth 20000 in
theorem lin_23_15 : Cond.constant RL 7 (1505215457) ∈ lw_tbl := by decide +kernel
set_option maxRecDepth 20000 in
theorem lin_23_16 : Cond.methodLink RL 179 yL_act ∈ lw_tbl := by decide +kernel
set_option maxRecDepth 20000 in
theorem lin_23_17 : Cond.static yL_act ∈ lw_tbl := by decide +kernel
set_option maxRecDepth 20000 in
theorem lin_23_18 : Cond.code yL_act cL_act 12 (some .int) ∈ lw_tbl := List.mem_append_right _ (List.mem_append_right _ (List.mem_append_right _ (List.mem_append_right _ (List.mem_of_getElem? (i := 39) rfl))))
set_option maxRecDepth 20000 in
theorem lin_23_19 : Cond.methodLink RL 95 yL_low ∈ lw_tbl := by decide +kernel
set_option maxRecDepth 20000 in
theorem lin_23_20 : Cond.static yL_low ∈ lw_tbl := by decide +kernel
set_option maxRecDepth 20000 in
theorem lin_23_21 : Cond.code yL_low cL_low 2 (some .int) ∈ lw_tbl := by decide +kernel
set_option maxRecDepth 20000 in
theorem lin_23_22 : Cond.constant RL 8 (2147483647) ∈ lw_tbl := by decide +kernel
set_option maxRecDepth 20000 in
theorem lin_23_23 : Cond.methodLink RL 125 yX6_underWay ∈ lw_tbl := by decide +kernel
theorem lin_23 : ∀ w ∈ wsL_law0_r23, w ∈ lw_tbl := List.forall_mem_cons.mpr ⟨lin_23_0, List.forall_mem_cons.mpr ⟨lin_23_1, List.forall_mem_cons.mpr ⟨lin_23_2, List.forall_mem_cons.mpr ⟨lin_23_3, List.forall_mem_cons.mpr ⟨lin_23_4, List.forall_mem_cons.mpr ⟨lin_23_5, List.forall_mem_cons.mpr ⟨lin_23_6, List.forall_mem_cons.mpr ⟨lin_23_7, List.forall_mem_cons.mpr ⟨lin_23_8, List.forall_mem_cons.mpr ⟨lin_23_9, List.forall_mem_cons.mpr ⟨lin_23_10, List.forall_mem_cons.mpr ⟨lin_23_11, List.forall_mem_cons.mpr ⟨lin_23_12, List.forall_mem_cons.mpr ⟨lin_23_13, List.forall_mem_cons.mpr ⟨lin_23_14, List.forall_mem_cons.mpr ⟨lin_23_15, List.forall_mem_cons.mpr ⟨lin_23_16, List.forall_mem_cons.mpr ⟨lin_23_17, List.forall_mem_cons.mpr ⟨lin_23_18, List.forall_mem_cons.mpr ⟨lin_23_19, List.forall_mem_cons.mpr ⟨lin_23_20, List.forall_mem_cons.mpr ⟨lin_23_21, List.forall_mem_cons.mpr ⟨lin_23_22, List.forall_mem_cons.mpr ⟨lin_23_23, (fun _ h => absurd h List.not_mem_nil)⟩⟩⟩⟩⟩⟩⟩⟩⟩⟩⟩⟩⟩⟩⟩⟩⟩⟩⟩⟩⟩⟩⟩⟩
set_option maxRecDepth 20000 in
theorem lin_24 : ∀ w ∈ wsL_law0_r24, w ∈ lw_tbl := by decide +kernel
set_option maxRecDepth 20000 in
theorem lin_25 : ∀ w ∈ wsL_law0_r25, w ∈ lw_tbl := by decide +kernel
theorem lin_wsX60 : ∀ w ∈ wsX60, w ∈ lw_tbl := by decide +kernel
theorem lin_wsX50 : ∀ w ∈ wsX50, w ∈ lw_tbl := by decide +kernel
theorem lin_wsX20 : ∀ w ∈ wsX20, w ∈ lw_tbl := by decide +kernel
theorem lin_wsX30 : ∀ w ∈ wsX30, w ∈ lw_tbl := by decide +kernel
theorem lin_wsX10 : ∀ w ∈ wsX10, w ∈ lw_tbl := by decide +kernel
theorem lin_wsX40 : ∀ w ∈ wsX40, w ∈ lw_tbl := by decide +kernel
theorem lin_wsX00 : ∀ w ∈ wsX00, w ∈ lw_tbl := by decide +kernel
