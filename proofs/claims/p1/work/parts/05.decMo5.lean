def dt_Mo_outside : List (Nat × Instr × Nat) := [(0, .aload_n 0, 1), (1, .getfield 173, 3), (4, .ireturn, 1)]
set_option maxRecDepth 100000 in
theorem da_Mo_outside : ∀ q ∈ dt_Mo_outside, decode b_Mo_outside q.1 = .ok q.2 := by decide +kernel
theorem dm_Mo_outside (i : Nat) {pc len : Nat} {ins : Instr} (h : dt_Mo_outside[i]? = some (pc, ins, len)) : decode b_Mo_outside pc = .ok (ins, len) := da_Mo_outside (pc, ins, len) (List.mem_of_getElem? h)
