theorem w_650 : (.classLink R_Law 7 R_T : Cond) ∈ lw_g := lw_gm (lw_t0 (List.mem_of_getElem? (i := 13) (by first | rfl | decide +kernel))) (by first | rfl | decide +kernel)
theorem w_651 : (.instantiable R_T 9 : Cond) ∈ lw_g := lw_gm (lw_t0 (List.mem_of_getElem? (i := 14) (by first | rfl | decide +kernel))) (by first | rfl | decide +kernel)
theorem w_652 : (.code y_T_init cd_T_init 1 none : Cond) ∈ lw_g := lw_gm (lw_t0 (List.mem_of_getElem? (i := 17) (by first | rfl | decide +kernel))) (by first | rfl | decide +kernel)
theorem w_653 : (.methodLink R_Law 9 y_T_init : Cond) ∈ lw_g := lw_gm (lw_t0 (List.mem_of_getElem? (i := 15) (by first | rfl | decide +kernel))) (by first | rfl | decide +kernel)
theorem w_654 : (.instanceMethod y_T_init : Cond) ∈ lw_g := lw_gm (lw_t0 (List.mem_of_getElem? (i := 16) (by first | rfl | decide +kernel))) (by first | rfl | decide +kernel)
theorem w_655 : (.classLink R_Law 10 R_Mo : Cond) ∈ lw_g := lw_gm (lw_t2 (List.mem_of_getElem? (i := 75) (by first | rfl | decide +kernel))) (by first | rfl | decide +kernel)
theorem w_656 : (.instantiable R_Mo 21 : Cond) ∈ lw_g := lw_gm (lw_t2 (List.mem_of_getElem? (i := 76) (by first | rfl | decide +kernel))) (by first | rfl | decide +kernel)
theorem w_657 : (.code y_Mo_init cd_Mo_init 1 none : Cond) ∈ lw_g := lw_gm (lw_t2 (List.mem_of_getElem? (i := 79) (by first | rfl | decide +kernel))) (by first | rfl | decide +kernel)
theorem w_658 : (.methodLink R_Law 12 y_Mo_init : Cond) ∈ lw_g := lw_gm (lw_t2 (List.mem_of_getElem? (i := 77) (by first | rfl | decide +kernel))) (by first | rfl | decide +kernel)
theorem w_659 : (.instanceMethod y_Mo_init : Cond) ∈ lw_g := lw_gm (lw_t2 (List.mem_of_getElem? (i := 78) (by first | rfl | decide +kernel))) (by first | rfl | decide +kernel)
theorem hd_T_init : y_T_init.cls ≠ "java/lang/invoke/MethodHandle" ∧ y_T_init.cls ≠ "java/lang/invoke/VarHandle" ∧ (parseMethodDescriptor y_T_init.desc).map (fun d => d.parameters.length) = some 0 := by decide +kernel
theorem hd_Mo_init : y_Mo_init.cls ≠ "java/lang/invoke/MethodHandle" ∧ y_Mo_init.cls ≠ "java/lang/invoke/VarHandle" ∧ (parseMethodDescriptor y_Mo_init.desc).map (fun d => d.parameters.length) = some 0 := by decide +kernel
