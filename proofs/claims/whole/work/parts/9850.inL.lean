-- THE LAW: its words among the tables' words
set_option maxRecDepth 20000 in
theorem wsL_law0_in1 : ∀ w ∈ wsL_law0_r1, w ∈ lw_tbl := sorry
set_option maxRecDepth 20000 in
theorem wsL_law0_in2 : ∀ w ∈ wsL_law0_r2, w ∈ lw_tbl := sorry
set_option maxRecDepth 20000 in
theorem wsL_law0_in3 : ∀ w ∈ wsL_law0_r3, w ∈ lw_tbl := sorry
set_option maxRecDepth 20000 in
theorem wsL_law0_in4 : ∀ w ∈ wsL_law0_r4, w ∈ lw_tbl := sorry
set_option maxRecDepth 20000 in
theorem wsL_law0_in5 : ∀ w ∈ wsL_law0_r5, w ∈ lw_tbl := sorry
set_option maxRecDepth 20000 in
theorem wsL_law0_in6 : ∀ w ∈ wsL_law0_r6, w ∈ lw_tbl := sorry
set_option maxRecDepth 20000 in
theorem wsL_law0_in7 : ∀ w ∈ wsL_law0_r7, w ∈ lw_tbl := sorry
set_option maxRecDepth 20000 in
theorem wsL_law0_in8 : ∀ w ∈ wsL_law0_r8, w ∈ lw_tbl := sorry
set_option maxRecDepth 20000 in
theorem wsL_law0_in9 : ∀ w ∈ wsL_law0_r9, w ∈ lw_tbl := sorry
set_option maxRecDepth 20000 in
theorem wsL_law0_in10 : ∀ w ∈ wsL_law0_r10, w ∈ lw_tbl := sorry
set_option maxRecDepth 20000 in
theorem wsL_law0_in11 : ∀ w ∈ wsL_law0_r11, w ∈ lw_tbl := sorry
set_option maxRecDepth 20000 in
theorem wsL_law0_in12 : ∀ w ∈ wsL_law0_r12, w ∈ lw_tbl := sorry
set_option maxRecDepth 20000 in
theorem wsL_law0_in13 : ∀ w ∈ wsL_law0_r13, w ∈ lw_tbl := sorry
set_option maxRecDepth 20000 in
theorem wsL_law0_in14 : ∀ w ∈ wsL_law0_r14, w ∈ lw_tbl := sorry
set_option maxRecDepth 20000 in
theorem wsL_law0_in15 : ∀ w ∈ wsL_law0_r15, w ∈ lw_tbl := sorry
set_option maxRecDepth 20000 in
theorem wsL_law0_in16 : ∀ w ∈ wsL_law0_r16, w ∈ lw_tbl := sorry
set_option maxRecDepth 20000 in
theorem wsL_law0_in17 : ∀ w ∈ wsL_law0_r17, w ∈ lw_tbl := sorry
set_option maxRecDepth 20000 in
theorem wsL_law0_in18 : ∀ w ∈ wsL_law0_r18, w ∈ lw_tbl := sorry
set_option maxRecDepth 20000 in
theorem wsL_law0_in19 : ∀ w ∈ wsL_law0_r19, w ∈ lw_tbl := sorry
set_option maxRecDepth 20000 in
theorem wsL_law0_in20 : ∀ w ∈ wsL_law0_r20, w ∈ lw_tbl := sorry
set_option maxRecDepth 20000 in
theorem wsL_law0_in21 : ∀ w ∈ wsL_law0_r21, w ∈ lw_tbl := sorry
set_option maxRecDepth 20000 in
theorem wsL_law0_in22 : ∀ w ∈ wsL_law0_r22, w ∈ lw_tbl := sorry
set_option maxRecDepth 20000 in
theorem wsL_law0_in23 : ∀ w ∈ wsL_law0_r23, w ∈ lw_tbl := sorry
set_option maxRecDepth 20000 in
theorem wsL_law0_in24 : ∀ w ∈ wsL_law0_r24, w ∈ lw_tbl := sorry
set_option maxRecDepth 20000 in
theorem wsL_law0_in25 : ∀ w ∈ wsL_law0_r25, w ∈ lw_tbl := sorry
set_option maxRecDepth 20000 in
theorem wsL_law0_in26 : ∀ w ∈ wsL_law0_r26, w ∈ lw_tbl := sorry
set_option maxRecDepth 20000 in
theorem wsL_law0_in27 : ∀ w ∈ wsL_law0_r27, w ∈ lw_tbl := sorry
set_option maxRecDepth 20000 in
theorem wsL_law0_in28 : ∀ w ∈ wsL_law0_r28, w ∈ lw_tbl := sorry
set_option maxRecDepth 20000 in
theorem wsL_law0_in29 : ∀ w ∈ wsL_law0_r29, w ∈ lw_tbl := sorry
set_option maxRecDepth 20000 in
theorem wsL_law0_in30 : ∀ w ∈ wsL_law0_r30, w ∈ lw_tbl := sorry
set_option maxRecDepth 20000 in
theorem wsL_law0_in31 : ∀ w ∈ wsL_law0_r31, w ∈ lw_tbl := sorry
set_option maxRecDepth 20000 in
theorem wsL_law0_in32 : ∀ w ∈ wsL_law0_r32, w ∈ lw_tbl := sorry
set_option maxRecDepth 20000 in
theorem wsL_law0_in33 : ∀ w ∈ wsL_law0_r33, w ∈ lw_tbl := sorry
set_option maxRecDepth 20000 in
theorem wsL_law0_in34 : ∀ w ∈ wsL_law0_r34, w ∈ lw_tbl := sorry
set_option maxRecDepth 20000 in
theorem wsL_law0_in35 : ∀ w ∈ wsL_law0_r35, w ∈ lw_tbl := sorry
set_option maxRecDepth 20000 in
theorem wsL_law0_in36 : ∀ w ∈ wsL_law0_r36, w ∈ lw_tbl := sorry
set_option maxRecDepth 20000 in
theorem wsL_law0_in37 : ∀ w ∈ wsL_law0_r37, w ∈ lw_tbl := sorry
set_option maxRecDepth 20000 in
theorem wsL_law0_in38 : ∀ w ∈ wsL_law0_r38, w ∈ lw_tbl := sorry
set_option maxRecDepth 20000 in
theorem wsL_law0_in39 : ∀ w ∈ wsL_law0_r39, w ∈ lw_tbl := sorry
set_option maxRecDepth 20000 in
theorem wsL_law0_in40 : ∀ w ∈ wsL_law0_r40, w ∈ lw_tbl := sorry
set_option maxRecDepth 20000 in
theorem wsL_law0_in41 : ∀ w ∈ wsL_law0_r41, w ∈ lw_tbl := sorry
set_option maxRecDepth 20000 in
theorem wsL_law0_in42 : ∀ w ∈ wsL_law0_r42, w ∈ lw_tbl := sorry
theorem wsX_in7 : ∀ w ∈ wsX70, w ∈ lw_tbl := sorry
theorem wsX_in8 : ∀ w ∈ wsX80, w ∈ lw_tbl := sorry
theorem wsX_in6 : ∀ w ∈ wsX60, w ∈ lw_tbl := sorry
theorem wsX_in4 : ∀ w ∈ wsX40, w ∈ lw_tbl := sorry
theorem wsX_in3 : ∀ w ∈ wsX30, w ∈ lw_tbl := sorry
theorem wsX_in1 : ∀ w ∈ wsX10, w ∈ lw_tbl := sorry
theorem wsX_in0 : ∀ w ∈ wsX00, w ∈ lw_tbl := sorry
theorem wsX_in2 : ∀ w ∈ wsX20, w ∈ lw_tbl := sorry
theorem wsX_in5 : ∀ w ∈ wsX50, w ∈ lw_tbl := sorry
theorem wsL_law_in0 : ∀ w ∈ wsL_law0, w ∈ lw_tbl := List.forall_mem_append.mpr ⟨List.forall_mem_append.mpr ⟨List.forall_mem_append.mpr ⟨List.forall_mem_append.mpr ⟨List.forall_mem_append.mpr ⟨List.forall_mem_append.mpr ⟨List.forall_mem_append.mpr ⟨List.forall_mem_append.mpr ⟨List.forall_mem_append.mpr ⟨List.forall_mem_append.mpr ⟨List.forall_mem_append.mpr ⟨wsL_law0_in1, List.forall_mem_append.mpr ⟨wsL_law0_in2, List.forall_mem_append.mpr ⟨wsL_law0_in3, List.forall_mem_append.mpr ⟨wsL_law0_in4, List.forall_mem_append.mpr ⟨wsL_law0_in5, List.forall_mem_append.mpr ⟨wsL_law0_in6, List.forall_mem_append.mpr ⟨wsL_law0_in7, List.forall_mem_append.mpr ⟨wsL_law0_in8, List.forall_mem_append.mpr ⟨wsL_law0_in9, List.forall_mem_append.mpr ⟨wsL_law0_in10, List.forall_mem_append.mpr ⟨wsL_law0_in11, List.forall_mem_append.mpr ⟨wsL_law0_in12, List.forall_mem_append.mpr ⟨wsL_law0_in13, List.forall_mem_append.mpr ⟨wsL_law0_in14, List.forall_mem_append.mpr ⟨wsL_law0_in15, List.forall_mem_append.mpr ⟨wsL_law0_in16, List.forall_mem_append.mpr ⟨wsL_law0_in17, List.forall_mem_append.mpr ⟨wsL_law0_in18, List.forall_mem_append.mpr ⟨wsL_law0_in19, List.forall_mem_append.mpr ⟨wsL_law0_in20, List.forall_mem_append.mpr ⟨wsL_law0_in21, List.forall_mem_append.mpr ⟨wsL_law0_in22, List.forall_mem_append.mpr ⟨wsL_law0_in23, List.forall_mem_append.mpr ⟨wsL_law0_in24, List.forall_mem_append.mpr ⟨wsL_law0_in25, List.forall_mem_append.mpr ⟨wsL_law0_in26, List.forall_mem_append.mpr ⟨wsL_law0_in27, List.forall_mem_append.mpr ⟨wsL_law0_in28, List.forall_mem_append.mpr ⟨wsL_law0_in29, List.forall_mem_append.mpr ⟨wsL_law0_in30, List.forall_mem_append.mpr ⟨wsL_law0_in31, List.forall_mem_append.mpr ⟨wsL_law0_in32, List.forall_mem_append.mpr ⟨wsL_law0_in33, List.forall_mem_append.mpr ⟨wsL_law0_in34, List.forall_mem_append.mpr ⟨wsL_law0_in35, List.forall_mem_append.mpr ⟨wsL_law0_in36, List.forall_mem_append.mpr ⟨wsL_law0_in37, List.forall_mem_append.mpr ⟨wsL_law0_in38, List.forall_mem_append.mpr ⟨wsL_law0_in39, List.forall_mem_append.mpr ⟨wsL_law0_in40, List.forall_mem_append.mpr ⟨wsL_law0_in41, wsL_law0_in42⟩⟩⟩⟩⟩⟩⟩⟩⟩⟩⟩⟩⟩⟩⟩⟩⟩⟩⟩⟩⟩⟩⟩⟩⟩⟩⟩⟩⟩⟩⟩⟩⟩⟩⟩⟩⟩⟩⟩⟩⟩, wsX_in7⟩, wsX_in8⟩, wsX_in6⟩, wsX_in4⟩, wsX_in3⟩, wsX_in1⟩, wsX_in0⟩, wsX_in2⟩, wsX_in5⟩, fun _ h => absurd h List.not_mem_nil⟩
theorem wsL_law_x0 : ∀ w ∈ (vx_atS RX7 239 "java/lang/IllegalArgumentException" ["java/lang/RuntimeException", "java/lang/Exception"]).filter goodWord, w ∈ lw_tbl := sorry
theorem wsL_law_x1 : ∀ w ∈ (vx_atS RX7 246 "java/lang/IllegalStateException" ["java/lang/RuntimeException", "java/lang/Exception"]).filter goodWord, w ∈ lw_tbl := sorry
theorem wsL_law_x2 : ∀ w ∈ (vx_atS RX7 251 "java/lang/IndexOutOfBoundsException" ["java/lang/RuntimeException", "java/lang/Exception"]).filter goodWord, w ∈ lw_tbl := sorry
theorem wsL_law_in : ∀ w ∈ wsL_law, w ∈ lw_tbl := fun w h => (List.mem_append.mp h).elim (fun h => (List.mem_append.mp h).elim (fun h => (List.mem_append.mp h).elim (fun h => wsL_law_in0 w h) (fun h => wsL_law_x0 w h)) (fun h => wsL_law_x1 w h)) (fun h => wsL_law_x2 w h)
