def dt_Mt_min_0 : List (Nat × Instr × Nat) := [(0, .iload_n 0, 1), (1, .iload_n 1, 1), (2, .if_icmp .gt 7, 3), (5, .iload_n 0, 1), (6, .goto 4, 3), (9, .iload_n 1, 1), (10, .ireturn, 1)]
set_option maxRecDepth 100000 in
theorem da_Mt_min_0 : ∀ q ∈ dt_Mt_min_0, decode b_Mt_min_0 q.1 = .ok q.2 := by decide +kernel
theorem dm_Mt_min_0 (i : Nat) {pc len : Nat} {ins : Instr} (h : dt_Mt_min_0[i]? = some (pc, ins, len)) : decode b_Mt_min_0 pc = .ok (ins, len) := da_Mt_min_0 (pc, ins, len) (List.mem_of_getElem? h)
def dt_Mt_abs : List (Nat × Instr × Nat) := [(0, .lload_n 0, 1), (1, .lconst 0, 1), (2, .lcmp, 1), (3, .ifCond .ge 8, 3), (6, .lload_n 0, 1), (7, .lneg, 1), (8, .goto 4, 3), (11, .lload_n 0, 1), (12, .lreturn, 1)]
set_option maxRecDepth 100000 in
theorem da_Mt_abs : ∀ q ∈ dt_Mt_abs, decode b_Mt_abs q.1 = .ok q.2 := by decide +kernel
theorem dm_Mt_abs (i : Nat) {pc len : Nat} {ins : Instr} (h : dt_Mt_abs[i]? = some (pc, ins, len)) : decode b_Mt_abs pc = .ok (ins, len) := da_Mt_abs (pc, ins, len) (List.mem_of_getElem? h)
def dt_Mt_min_1 : List (Nat × Instr × Nat) := [(0, .lload_n 0, 1), (1, .lload_n 2, 1), (2, .lcmp, 1), (3, .ifCond .gt 7, 3), (6, .lload_n 0, 1), (7, .goto 4, 3), (10, .lload_n 2, 1), (11, .lreturn, 1)]
set_option maxRecDepth 100000 in
theorem da_Mt_min_1 : ∀ q ∈ dt_Mt_min_1, decode b_Mt_min_1 q.1 = .ok q.2 := by decide +kernel
theorem dm_Mt_min_1 (i : Nat) {pc len : Nat} {ins : Instr} (h : dt_Mt_min_1[i]? = some (pc, ins, len)) : decode b_Mt_min_1 pc = .ok (ins, len) := da_Mt_min_1 (pc, ins, len) (List.mem_of_getElem? h)
def dt_Mt_max_0 : List (Nat × Instr × Nat) := [(0, .lload_n 0, 1), (1, .lload_n 2, 1), (2, .lcmp, 1), (3, .ifCond .lt 7, 3), (6, .lload_n 0, 1), (7, .goto 4, 3), (10, .lload_n 2, 1), (11, .lreturn, 1)]
set_option maxRecDepth 100000 in
theorem da_Mt_max_0 : ∀ q ∈ dt_Mt_max_0, decode b_Mt_max_0 q.1 = .ok q.2 := by decide +kernel
theorem dm_Mt_max_0 (i : Nat) {pc len : Nat} {ins : Instr} (h : dt_Mt_max_0[i]? = some (pc, ins, len)) : decode b_Mt_max_0 pc = .ok (ins, len) := da_Mt_max_0 (pc, ins, len) (List.mem_of_getElem? h)
def dt_Mt_floorMod : List (Nat × Instr × Nat) := [(0, .lload_n 0, 1), (1, .lload_n 2, 1), (2, .lrem, 1), (3, .lstore 4, 2), (5, .lload_n 0, 1), (6, .lload_n 2, 1), (7, .lxor, 1), (8, .lconst 0, 1), (9, .lcmp, 1), (10, .ifCond .ge 15, 3), (13, .lload 4, 2), (15, .lconst 0, 1), (16, .lcmp, 1), (17, .ifCond .eq 8, 3), (20, .lload 4, 2), (22, .lload_n 2, 1), (23, .ladd, 1), (24, .lreturn, 1), (25, .lload 4, 2), (27, .lreturn, 1)]
set_option maxRecDepth 100000 in
theorem da_Mt_floorMod : ∀ q ∈ dt_Mt_floorMod, decode b_Mt_floorMod q.1 = .ok q.2 := by decide +kernel
theorem dm_Mt_floorMod (i : Nat) {pc len : Nat} {ins : Instr} (h : dt_Mt_floorMod[i]? = some (pc, ins, len)) : decode b_Mt_floorMod pc = .ok (ins, len) := da_Mt_floorMod (pc, ins, len) (List.mem_of_getElem? h)
def dt_Ar_fill_0 : List (Nat × Instr × Nat) := [(0, .iconst 0, 1), (1, .istore_n 2, 1), (2, .aload_n 0, 1), (3, .arraylength, 1), (4, .istore_n 3, 1), (5, .iload_n 2, 1), (6, .iload_n 3, 1), (7, .if_icmp .ge 13, 3), (10, .aload_n 0, 1), (11, .iload_n 2, 1), (12, .iload_n 1, 1), (13, .iastore, 1), (14, .iinc 2 1, 3), (17, .goto (-12), 3), (20, .return_, 1)]
set_option maxRecDepth 100000 in
theorem da_Ar_fill_0 : ∀ q ∈ dt_Ar_fill_0, decode b_Ar_fill_0 q.1 = .ok q.2 := by decide +kernel
theorem dm_Ar_fill_0 (i : Nat) {pc len : Nat} {ins : Instr} (h : dt_Ar_fill_0[i]? = some (pc, ins, len)) : decode b_Ar_fill_0 pc = .ok (ins, len) := da_Ar_fill_0 (pc, ins, len) (List.mem_of_getElem? h)
def dt_Ar_fill_1 : List (Nat × Instr × Nat) := [(0, .iconst 0, 1), (1, .istore_n 3, 1), (2, .aload_n 0, 1), (3, .arraylength, 1), (4, .istore 4, 2), (6, .iload_n 3, 1), (7, .iload 4, 2), (9, .if_icmp .ge 13, 3), (12, .aload_n 0, 1), (13, .iload_n 3, 1), (14, .lload_n 1, 1), (15, .lastore, 1), (16, .iinc 3 1, 3), (19, .goto (-13), 3), (22, .return_, 1)]
set_option maxRecDepth 100000 in
theorem da_Ar_fill_1 : ∀ q ∈ dt_Ar_fill_1, decode b_Ar_fill_1 q.1 = .ok q.2 := by decide +kernel
theorem dm_Ar_fill_1 (i : Nat) {pc len : Nat} {ins : Instr} (h : dt_Ar_fill_1[i]? = some (pc, ins, len)) : decode b_Ar_fill_1 pc = .ok (ins, len) := da_Ar_fill_1 (pc, ins, len) (List.mem_of_getElem? h)
def dt_Ar_fill_2 : List (Nat × Instr × Nat) := [(0, .aload_n 0, 1), (1, .arraylength, 1), (2, .iload_n 1, 1), (3, .iload_n 2, 1), (4, .invokestatic 13, 3), (7, .iload_n 1, 1), (8, .istore 4, 2), (10, .iload 4, 2), (12, .iload_n 2, 1), (13, .if_icmp .ge 14, 3), (16, .aload_n 0, 1), (17, .iload 4, 2), (19, .iload_n 3, 1), (20, .iastore, 1), (21, .iinc 4 1, 3), (24, .goto (-14), 3), (27, .return_, 1)]
set_option maxRecDepth 100000 in
theorem da_Ar_fill_2 : ∀ q ∈ dt_Ar_fill_2, decode b_Ar_fill_2 q.1 = .ok q.2 := by decide +kernel
theorem dm_Ar_fill_2 (i : Nat) {pc len : Nat} {ins : Instr} (h : dt_Ar_fill_2[i]? = some (pc, ins, len)) : decode b_Ar_fill_2 pc = .ok (ins, len) := da_Ar_fill_2 (pc, ins, len) (List.mem_of_getElem? h)
def dt_Ar_rangeCheck : List (Nat × Instr × Nat) := [(0, .iload_n 1, 1), (1, .iload_n 2, 1), (2, .if_icmp .le 44, 3), (5, .new 43, 3), (8, .dup, 1), (9, .new 45, 3), (12, .dup, 1), (13, .invokespecial 47, 3), (16, .ldc 48, 2), (18, .invokevirtual 50, 3), (21, .iload_n 1, 1), (22, .invokevirtual 54, 3), (25, .ldc 57, 2), (27, .invokevirtual 50, 3), (30, .iload_n 2, 1), (31, .invokevirtual 54, 3), (34, .ldc 59, 2), (36, .invokevirtual 50, 3), (39, .invokevirtual 61, 3), (42, .invokespecial 65, 3), (45, .athrow, 1), (46, .iload_n 1, 1), (47, .ifCond .ge 12, 3), (50, .new 68, 3), (53, .dup, 1), (54, .iload_n 1, 1), (55, .invokespecial 70, 3), (58, .athrow, 1), (59, .iload_n 2, 1), (60, .iload_n 0, 1), (61, .if_icmp .le 12, 3), (64, .new 68, 3), (67, .dup, 1), (68, .iload_n 2, 1), (69, .invokespecial 70, 3), (72, .athrow, 1), (73, .return_, 1)]
set_option maxRecDepth 100000 in
theorem da_Ar_rangeCheck : ∀ q ∈ dt_Ar_rangeCheck, decode b_Ar_rangeCheck q.1 = .ok q.2 := by decide +kernel
theorem dm_Ar_rangeCheck (i : Nat) {pc len : Nat} {ins : Instr} (h : dt_Ar_rangeCheck[i]? = some (pc, ins, len)) : decode b_Ar_rangeCheck pc = .ok (ins, len) := da_Ar_rangeCheck (pc, ins, len) (List.mem_of_getElem? h)
def dt_Mt_max_1 : List (Nat × Instr × Nat) := [(0, .iload_n 0, 1), (1, .iload_n 1, 1), (2, .if_icmp .lt 7, 3), (5, .iload_n 0, 1), (6, .goto 4, 3), (9, .iload_n 1, 1), (10, .ireturn, 1)]
set_option maxRecDepth 100000 in
theorem da_Mt_max_1 : ∀ q ∈ dt_Mt_max_1, decode b_Mt_max_1 q.1 = .ok q.2 := by decide +kernel
theorem dm_Mt_max_1 (i : Nat) {pc len : Nat} {ins : Instr} (h : dt_Mt_max_1[i]? = some (pc, ins, len)) : decode b_Mt_max_1 pc = .ok (ins, len) := da_Mt_max_1 (pc, ins, len) (List.mem_of_getElem? h)
