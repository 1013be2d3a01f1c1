theorem w_642 : (.classLink R_Law 7 R_T : Cond) ∈ lw_g := lw_gm (lw_t0 (List.mem_of_getElem? (i := 13) (by first | rfl | decide +kernel))) (by first | rfl | decide +kernel)
theorem w_643 : (.instantiable R_T 9 : Cond) ∈ lw_g := lw_gm (lw_t0 (List.mem_of_getElem? (i := 14) (by first | rfl | decide +kernel))) (by first | rfl | decide +kernel)
theorem w_644 : (.code y_T_init cd_T_init 1 none : Cond) ∈ lw_g := lw_gm (lw_t0 (List.mem_of_getElem? (i := 17) (by first | rfl | decide +kernel))) (by first | rfl | decide +kernel)
theorem w_645 : (.methodLink R_Law 9 y_T_init : Cond) ∈ lw_g := lw_gm (lw_t0 (List.mem_of_getElem? (i := 15) (by first | rfl | decide +kernel))) (by first | rfl | decide +kernel)
theorem w_646 : (.instanceMethod y_T_init : Cond) ∈ lw_g := lw_gm (lw_t0 (List.mem_of_getElem? (i := 16) (by first | rfl | decide +kernel))) (by first | rfl | decide +kernel)
theorem w_647 : (.classLink R_Law 10 R_Mo : Cond) ∈ lw_g := lw_gm (lw_t2 (List.mem_of_getElem? (i := 67) (by first | rfl | decide +kernel))) (by first | rfl | decide +kernel)
theorem w_648 : (.instantiable R_Mo 21 : Cond) ∈ lw_g := lw_gm (lw_t2 (List.mem_of_getElem? (i := 68) (by first | rfl | decide +kernel))) (by first | rfl | decide +kernel)
theorem w_649 : (.code y_Mo_init cd_Mo_init 1 none : Cond) ∈ lw_g := lw_gm (lw_t2 (List.mem_of_getElem? (i := 71) (by first | rfl | decide +kernel))) (by first | rfl | decide +kernel)
theorem w_650 : (.methodLink R_Law 12 y_Mo_init : Cond) ∈ lw_g := lw_gm (lw_t2 (List.mem_of_getElem? (i := 69) (by first | rfl | decide +kernel))) (by first | rfl | decide +kernel)
theorem w_651 : (.instanceMethod y_Mo_init : Cond) ∈ lw_g := lw_gm (lw_t2 (List.mem_of_getElem? (i := 70) (by first | rfl | decide +kernel))) (by first | rfl | decide +kernel)
theorem hd_T_init : y_T_init.cls ≠ "java/lang/invoke/MethodHandle" ∧ y_T_init.cls ≠ "java/lang/invoke/VarHandle" ∧ (parseMethodDescriptor y_T_init.desc).map (fun d => d.parameters.length) = some 0 := by decide +kernel
theorem hd_Mo_init : y_Mo_init.cls ≠ "java/lang/invoke/MethodHandle" ∧ y_Mo_init.cls ≠ "java/lang/invoke/VarHandle" ∧ (parseMethodDescriptor y_Mo_init.desc).map (fun d => d.parameters.length) = some 0 := by decide +kernel
