def dt_Va_init : List (Nat × Instr × Nat) := [(0, .aload_n 0, 1), (1, .invokespecial 3, 3), (4, .return_, 1)]
set_option maxRecDepth 100000 in
theorem da_Va_init : ∀ q ∈ dt_Va_init, decode b_Va_init q.1 = .ok q.2 := by decide +kernel
theorem dm_Va_init (i : Nat) {pc len : Nat} {ins : Instr} (h : dt_Va_init[i]? = some (pc, ins, len)) : decode b_Va_init pc = .ok (ins, len) := da_Va_init (pc, ins, len) (List.mem_of_getElem? h)
def dt_Va_beSpan : List (Nat × Instr × Nat) := [(0, .aload_n 0, 1), (1, .iconst 0, 1), (2, .putfield 9, 3), (5, .aload_n 0, 1), (6, .lload_n 1, 1), (7, .putfield 15, 3), (10, .aload_n 0, 1), (11, .lload_n 3, 1), (12, .putfield 19, 3), (15, .aload_n 0, 1), (16, .lload_n 1, 1), (17, .lload_n 3, 1), (18, .lcmp, 1), (19, .ifCond .ne 7, 3), (22, .lconst 0, 1), (23, .goto 5, 3), (26, .lload 5, 2), (28, .putfield 22, 3), (31, .aload_n 0, 1), (32, .iconst 0, 1), (33, .putfield 25, 3), (36, .aload_n 0, 1), (37, .iconst 0, 1), (38, .putfield 29, 3), (41, .return_, 1)]
set_option maxRecDepth 100000 in
theorem da_Va_beSpan : ∀ q ∈ dt_Va_beSpan, decode b_Va_beSpan q.1 = .ok q.2 := by decide +kernel
theorem dm_Va_beSpan (i : Nat) {pc len : Nat} {ins : Instr} (h : dt_Va_beSpan[i]? = some (pc, ins, len)) : decode b_Va_beSpan pc = .ok (ins, len) := da_Va_beSpan (pc, ins, len) (List.mem_of_getElem? h)
def dt_Va_isNothing : List (Nat × Instr × Nat) := [(0, .aload_n 0, 1), (1, .getfield 9, 3), (4, .ifCond .eq 25, 3), (7, .aload_n 0, 1), (8, .getfield 25, 3), (11, .ifCond .ne 14, 3), (14, .aload_n 0, 1), (15, .getfield 29, 3), (18, .ifCond .ne 7, 3), (21, .iconst 1, 1), (22, .goto 24, 3), (25, .iconst 0, 1), (26, .goto 20, 3), (29, .aload_n 0, 1), (30, .getfield 15, 3), (33, .aload_n 0, 1), (34, .getfield 19, 3), (37, .lcmp, 1), (38, .ifCond .le 7, 3), (41, .iconst 1, 1), (42, .goto 4, 3), (45, .iconst 0, 1), (46, .ireturn, 1)]
set_option maxRecDepth 100000 in
theorem da_Va_isNothing : ∀ q ∈ dt_Va_isNothing, decode b_Va_isNothing q.1 = .ok q.2 := by decide +kernel
theorem dm_Va_isNothing (i : Nat) {pc len : Nat} {ins : Instr} (h : dt_Va_isNothing[i]? = some (pc, ins, len)) : decode b_Va_isNothing pc = .ok (ins, len) := da_Va_isNothing (pc, ins, len) (List.mem_of_getElem? h)
