section GI0
/-- locals, the newest first; a long takes two places -/
def gi_look : List (Nat × Value) → Nat → Option Value
  | [], _ => none
  | (j, v) :: L, i => bif Nat.beq j i then some v else bif (Nat.beq (j + 1) i && Nat.beq v.category 2) then none else
      match gi_look L i with
      | some w => bif (Nat.beq j (i + 1) && Nat.beq w.category 2) then none else some w
      | none => none
theorem gi_look_cons {i j : Nat} {v w : Value} {L : List (Nat × Value)} (h : gi_look ((i, v) :: L) j = some w) : (i = j ∧ v = w) ∨ (i ≠ j ∧ gi_look L j = some w ∧ ¬ (i + 1 = j ∧ v.category = 2) ∧ ¬ (i = j + 1 ∧ w.category = 2)) := by
  unfold gi_look at h
  cases h1 : Nat.beq i j with
  | true =>
    rw [h1] at h
    exact Or.inl ⟨Nat.eq_of_beq_eq_true h1, Option.some.inj h⟩
  | false =>
    rw [h1] at h
    have n1 : i ≠ j := Nat.ne_of_beq_eq_false h1
    cases h2 : (Nat.beq (i + 1) j && Nat.beq v.category 2) with
    | true => rw [h2] at h; cases h
    | false =>
      rw [h2] at h
      simp only [cond_false] at h
      cases h3 : gi_look L j with
      | none => rw [h3] at h; cases h
      | some u =>
        rw [h3] at h
        simp only at h
        cases h4 : (Nat.beq i (j + 1) && Nat.beq u.category 2) with
        | true => rw [h4] at h; cases h
        | false =>
          rw [h4] at h
          have hu : u = w := Option.some.inj h
          subst hu
          refine Or.inr ⟨n1, rfl, fun q => ?_, fun q => ?_⟩
          · rw [q.1, q.2] at h2
            simp at h2
          · rw [q.1, q.2] at h4
            simp at h4
theorem gi_look_mem : ∀ {L : List (Nat × Value)} {i : Nat} {v : Value}, gi_look L i = some v → (i, v) ∈ L
  | [], i, v, h => by cases h
  | (j, u) :: L, i, v, h => by
    rcases gi_look_cons h with ⟨rfl, rfl⟩ | ⟨-, h2, -⟩
    · exact List.mem_cons_self
    · exact List.mem_cons_of_mem _ (gi_look_mem h2)
def gi_has (ls : Array Slot) (nL : Nat) (L : List (Nat × Value)) : Prop := ls.size = nL ∧ lv_wf ls ∧ ∀ (i : Nat) (v : Value), gi_look L i = some v → ls[i]? = some (.val v)
theorem gi_has_of {ls : Array Slot} {nL : Nat} {L : List (Nat × Value)} (h : lv_has ls nL L) : gi_has ls nL L := ⟨h.1, h.2.1, fun i v hv => h.2.2 (i, v) (gi_look_mem hv)⟩
/-- all that a list of locals says, each place once -/
def gi_all (nL : Nat) (L : List (Nat × Value)) : List (Nat × Value) := (List.range nL).filterMap (fun j => (gi_look L j).map (fun w => (j, w)))
theorem gi_all_has {ls : Array Slot} {nL : Nat} {L : List (Nat × Value)} (h : gi_has ls nL L) : lv_has ls nL (gi_all nL L) := by
  refine ⟨h.1, h.2.1, fun q hq => ?_⟩
  obtain ⟨j, -, hj⟩ := List.mem_filterMap.mp hq
  cases hw : gi_look L j with
  | none => rw [hw] at hj; cases hj
  | some w =>
    rw [hw] at hj
    have : q = (j, w) := (Option.some.inj hj).symm
    subst this
    exact h.2.2 j w hw
theorem gi_all_mem {ls : Array Slot} {nL : Nat} {L : List (Nat × Value)} (h : gi_has ls nL L) {j : Nat} {w : Value} (hw : gi_look L j = some w) : (j, w) ∈ gi_all nL L := by
  refine List.mem_filterMap.mpr ⟨j, List.mem_range.mpr ?_, by rw [hw]; rfl⟩
  have := (Array.getElem?_eq_some_iff.mp (h.2.2 j w hw)).1
  rw [h.1] at this
  exact this
theorem gi_store1 {ls : Array Slot} {nL : Nat} {L : List (Nat × Value)} {i : Nat} {v : Value} (h : gi_has ls nL L) (hi : i < nL) (hc : v.category = 1) : ∃ ls', storeLocals ls i v = some ls' ∧ gi_has ls' nL ((i, v) :: L) := by
  obtain ⟨ls', e, h'⟩ := lv_store1 (v := v) (gi_all_has h) hi hc
  refine ⟨ls', e, h'.1, h'.2.1, fun j w hj => ?_⟩
  rcases gi_look_cons hj with ⟨rfl, rfl⟩ | ⟨h1, h2, h3, h4⟩
  · exact h'.2.2 (i, v) List.mem_cons_self
  · refine h'.2.2 (j, w) (List.mem_cons_of_mem _ (List.mem_filter.mpr ⟨gi_all_mem h h2, ?_⟩))
    have a1 : (j == i) = false := by simpa using fun q : j = i => h1 q.symm
    have a2 : (j + 1 == i && w.category == 2) = false := by
      cases hq : (j + 1 == i && w.category == 2) with
      | false => rfl
      | true =>
        simp only [Bool.and_eq_true, beq_iff_eq] at hq
        exact absurd ⟨hq.1.symm, hq.2⟩ h4
    simp [a1, a2]
theorem gi_store2 {ls : Array Slot} {nL : Nat} {L : List (Nat × Value)} {i : Nat} {v : Value} (h : gi_has ls nL L) (hi : i + 1 < nL) (hc : v.category = 2) : ∃ ls', storeLocals ls i v = some ls' ∧ gi_has ls' nL ((i, v) :: L) := by
  obtain ⟨ls', e, h'⟩ := lv_store2 (v := v) (gi_all_has h) hi hc
  refine ⟨ls', e, h'.1, h'.2.1, fun j w hj => ?_⟩
  rcases gi_look_cons hj with ⟨rfl, rfl⟩ | ⟨h1, h2, h3, h4⟩
  · exact h'.2.2 (i, v) List.mem_cons_self
  · refine h'.2.2 (j, w) (List.mem_cons_of_mem _ (List.mem_filter.mpr ⟨gi_all_mem h h2, ?_⟩))
    have a1 : (j == i) = false := by simpa using fun q : j = i => h1 q.symm
    have a3 : (j == i + 1) = false := by simpa using fun q : j = i + 1 => h3 ⟨q.symm, hc⟩
    have a2 : (j + 1 == i && w.category == 2) = false := by
      cases hq : (j + 1 == i && w.category == 2) with
      | false => rfl
      | true =>
        simp only [Bool.and_eq_true, beq_iff_eq] at hq
        exact absurd ⟨hq.1.symm, hq.2⟩ h4
    simp [a1, a2, a3]
/-- the same places, told by another list -/
theorem gi_has_to {ls : Array Slot} {nL : Nat} {L L' : List (Nat × Value)} (h : gi_has ls nL L) (hq : ∀ q ∈ L', gi_look L q.1 = some q.2) : gi_has ls nL L' := ⟨h.1, h.2.1, fun i v hv => h.2.2 i v (hq (i, v) (gi_look_mem hv))⟩
abbrev gi_E : Type := (Nat × vp_A) ⊕ (Nat × List Value)
abbrev gi_H : Type := Nat → Option gi_E
abbrev gi_I (k n : Nat) (f : Nat → Int32) : gi_E := .inl (k, n, .inl f)
abbrev gi_J (k n : Nat) (f : Nat → Int64) : gi_E := .inl (k, n, .inr (.inl f))
abbrev gi_R (k n : Nat) (f : Nat → Option Nat) : gi_E := .inl (k, n, .inr (.inr (.inr (.inr f))))
abbrev gi_O (ci : Nat) (fs : List Value) : gi_E := .inr (ci, fs)
def gi_tr (cA : Nat → ClassId) (e : gi_E) : va_E := match e with
  | .inl x => .inl (cA x.1, x.2)
  | .inr o => .inr o
/-- what is fixed: the classes' numbers, the array classes' numbers, the first address that is ours -/
abbrev gi_V : Type := va_G × (Nat → ClassId) × Nat
def gi_hp (V : gi_V) (n : Nat) (h : gi_H) (H : Heap) : Prop := H.size = n ∧ V.2.2 ≤ n ∧ ∀ (a : Nat) (e : gi_E), h a = some e → V.2.2 ≤ a ∧ va_at V.1 vwCl (a, gi_tr V.2.1 e) H
def gi_up (h : gi_H) (a : Nat) (e : gi_E) : gi_H := fun b => if b = a then some e else h b
theorem gi_up_self (h : gi_H) (a : Nat) (e : gi_E) : gi_up h a e a = some e := by simp [gi_up]
theorem gi_up_ne {h : gi_H} {a b : Nat} {e : gi_E} (hb : b ≠ a) : gi_up h a e b = h b := by simp [gi_up, hb]
theorem gi_up_up (h : gi_H) (a : Nat) (e e' : gi_E) : gi_up (gi_up h a e) a e' = gi_up h a e' := by
  funext b
  by_cases hb : b = a <;> simp [gi_up, hb]
theorem gi_up_comm {h : gi_H} {a b : Nat} {e e' : gi_E} (hab : a ≠ b) : gi_up (gi_up h a e) b e' = gi_up (gi_up h b e') a e := by
  funext c
  by_cases h1 : c = a
  · subst h1; simp [gi_up, hab]
  · by_cases h2 : c = b
    · subst h2; simp [gi_up, h1]
    · simp [gi_up, h1, h2]
theorem gi_up_id {h : gi_H} {a : Nat} {e : gi_E} (ha : h a = some e) : gi_up h a e = h := by
  funext b
  by_cases hb : b = a
  · subst hb; simp [gi_up, ha]
  · simp [gi_up, hb]
theorem gi_hp.lt {V : gi_V} {n : Nat} {h : gi_H} {H : Heap} (hh : gi_hp V n h H) {a : Nat} {e : gi_E} (ha : h a = some e) : a < n := by
  have := (hh.2.2 a e ha).2.lt
  rw [hh.1] at this
  exact this
theorem gi_hp.set {V : gi_V} {n : Nat} {h : gi_H} {H H1 : Heap} (hh : gi_hp V n h H) {a : Nat} {e e0 : gi_E} (ha : h a = some e0) (hz : H1.size = H.size) (he : va_at V.1 vwCl (a, gi_tr V.2.1 e) H1) (oq : ∀ q : Nat, q ≠ a → H1[q]? = H[q]?) : gi_hp V n (gi_up h a e) H1 := by
  refine ⟨hz.trans hh.1, hh.2.1, fun b x hb => ?_⟩
  by_cases hba : b = a
  · subst hba
    rw [gi_up_self] at hb
    cases hb
    exact ⟨(hh.2.2 b e0 ha).1, he⟩
  · rw [gi_up_ne hba] at hb
    obtain ⟨h1, h2⟩ := hh.2.2 b x hb
    exact ⟨h1, h2.kept (oq b hba)⟩
theorem gi_hp.push {V : gi_V} {n : Nat} {h : gi_H} {H H1 : Heap} (hh : gi_hp V n h H) {e : gi_E} (hz : H1.size = n + 1) (he : va_at V.1 vwCl (n, gi_tr V.2.1 e) H1) (oq : ∀ q : Nat, q < n → H1[q]? = H[q]?) : gi_hp V (n + 1) (gi_up h n e) H1 := by
  refine ⟨hz, Nat.le_succ_of_le hh.2.1, fun b x hb => ?_⟩
  by_cases hba : b = n
  · subst hba
    rw [gi_up_self] at hb
    cases hb
    exact ⟨hh.2.1, he⟩
  · rw [gi_up_ne hba] at hb
    obtain ⟨h1, h2⟩ := hh.2.2 b x hb
    exact ⟨h1, h2.kept (oq b (hh.lt hb))⟩
end GI0

section GIK
theorem gi_nw_tab : ∀ w ∈ gi_nw, w.onTables = true := by decide +kernel
theorem gi_nw_kind : ∀ w ∈ gi_nw, (∃ (a : String) (i : Nat) (b n d h : String), w = .fieldLinkNest a i b n d h) ∨ ∃ (a : String) (i : Nat) (x : MethodName) (h : String), w = .methodLinkNest a i x h := List.forall_mem_cons.mpr ⟨Or.inr ⟨_, _, _, _, rfl⟩, List.forall_mem_cons.mpr ⟨Or.inr ⟨_, _, _, _, rfl⟩, List.forall_mem_cons.mpr ⟨Or.inr ⟨_, _, _, _, rfl⟩, List.forall_mem_cons.mpr ⟨Or.inr ⟨_, _, _, _, rfl⟩, List.forall_mem_cons.mpr ⟨Or.inr ⟨_, _, _, _, rfl⟩, List.forall_mem_cons.mpr ⟨Or.inr ⟨_, _, _, _, rfl⟩, List.forall_mem_cons.mpr ⟨Or.inr ⟨_, _, _, _, rfl⟩, List.forall_mem_cons.mpr ⟨Or.inr ⟨_, _, _, _, rfl⟩, List.forall_mem_cons.mpr ⟨Or.inr ⟨_, _, _, _, rfl⟩, List.forall_mem_cons.mpr ⟨Or.inl ⟨_, _, _, _, _, _, rfl⟩, List.forall_mem_cons.mpr ⟨Or.inl ⟨_, _, _, _, _, _, rfl⟩, fun _ h => absurd h List.not_mem_nil⟩⟩⟩⟩⟩⟩⟩⟩⟩⟩⟩
def gi_tkL : List Int32 := [0, 0, 0, 0, 3, 3, 15, 5, 5, 5, 5, 5, 5, 5, 5, 5, 5, 5, 1, 0, 5, 5, 5, 5, 5, 5, 2, 2, 1, 2, 9, 37, 0, 0, 0, 1]
def gi_ldL : List Int64 := [-2147483648, -32768, -128, -1, 0, 1, 127, 255, 32767, 65535, 2147483647]
def gi_tk : Nat → Value := fun j => .int (gi_tkL.getD j 0)
def gi_ld : Nat → Value := fun j => .long (gi_ldL.getD j 0)
/-- the two static tables of the class -/
def gi_S (V : gi_V) (U : State) : Prop := ∃ tT tL : Nat, va_Z R_H "TAKES" "[I" (.ref tT) (fun q : Nat => V.2.2 ≤ q) U U.heap ∧ va_T .int tT 36 gi_tk (fun q : Nat => V.2.2 ≤ q) U U.heap ∧ va_Z R_H "LEDGES" "[J" (.ref tL) (fun q : Nat => V.2.2 ≤ q) U U.heap ∧ va_T .long tL 11 gi_ld (fun q : Nat => V.2.2 ≤ q) U U.heap
def gi_ao : List String := [R_Ro, R_Va]
def gi_K (V : gi_V) (U : State) : Prop := va_K V.1 vwCl (gi_tys V.2.1) U ∧ (∀ w ∈ gi_nw, va_Nw w U) ∧ gi_S V U ∧ ∀ c ∈ gi_ao, va_AO c U
theorem gi_K.to {V : gi_V} {u U : State} (hvm : u.vm.Alike U.vm) (hn : ∀ w ∈ gi_nw, va_Nw w u → va_Nw w U) (hq : ∀ a : Nat, a < u.heap.size → ¬ V.2.2 ≤ a → U.heap[a]? = u.heap[a]?) (h : gi_K V u) : gi_K V U := by
  obtain ⟨h1, h2, ⟨tT, tL, h3, h4, h5, h6⟩, h7⟩ := h
  exact ⟨va_K.moved hvm h1, fun w hw => hn w hw (h2 w hw), ⟨tT, tL, (va_Z.moved hvm h3).kept hq, (va_T.moved hvm h4).kept hq, (va_Z.moved hvm h5).kept hq, (va_T.moved hvm h6).kept hq⟩, fun c hc => va_AO.moved hvm (h7 c hc)⟩
theorem gi_K.same {V : gi_V} {u U : State} (hv : u.vm = U.vm) (hh : u.heap = U.heap) (h : gi_K V u) : gi_K V U :=
  gi_K.to (by rw [hv]; exact Vm.Alike.refl _) (fun w hw hz => va_Nw.same (gi_nw_tab w hw) hv hz) (fun a _ _ => by rw [hh]) h
theorem gi_K.moved {V : gi_V} {s U : State} {locs : List Loc} (hW : s.WarmedH U.vm) (hS : va_S (fun q : Nat => V.2.2 ≤ q) s.heap U.heap locs) (h : gi_K V s) : gi_K V U := by
  refine gi_K.to hW.alike (fun w hw hz => ?_) (fun a h1 h2 => hS.2.1 a h1 h2) h
  rcases gi_nw_kind w hw with ⟨a, i, b, n, d, x, rfl⟩ | ⟨a, i, x, h, rfl⟩
  · exact va_Nw.warmF hW hz
  · exact va_Nw.warmM hW hz
end GIK
section GI1
variable {p : Program} {l : Launch} {e : Env} {R : Room} {s : State} {m : MethodId} {args : Array Value} {below : List Frame} {meth : Method} {c : Code} {Q : State → Prop} {cc : ByteArray} {nL : Nat} {own : String} {V : gi_V} {cells slots pc n : Nat} {L : List (Nat × Value)} {st : List Value} {h : gi_H}
/-- the machine, at a place of the method, with these locals, this stack and this heap, comes to a state with Q -/
def gi_G (p : Program) (l : Launch) (e : Env) (R : Room) (s : State) (m : MethodId) (args : Array Value) (below : List Frame) (meth : Method) (c : Code) (Q : State → Prop) (V : gi_V) (nL cells slots pc : Nat) (L : List (Nat × Value)) (st : List Value) (n : Nat) (h : gi_H) : Prop :=
  ∀ (ls : Array Slot) (H : Heap) (locs : List Loc), gi_has ls nL L → gi_hp V n h H → va_S (fun q : Nat => V.2.2 ≤ q) s.heap H locs → W p l e R s m args below meth c H locs cells slots Q (F0 m pc ls st)
/-- what is fixed while a method runs -/
def gi_C (p : Program) (s : State) (m : MethodId) (args : Array Value) (meth : Method) (c : Code) (cc : ByteArray) (nL : Nat) (own : String) (V : gi_V) : Prop :=
  p.tables.exec = Jvm.exec ∧ c.code = cc ∧ c.maxLocals = nL ∧ s.vm.findClass own = some m.cls ∧ (∀ w ∈ gi_tb, w.before args s = true) ∧ gi_K V s ∧ meth.locks = false ∧ V.2.2 ≤ s.heap.size
theorem gi_to {L' : List (Nat × Value)} (hq : ∀ q ∈ L', gi_look L q.1 = some q.2) (k : gi_G p l e R s m args below meth c Q V nL cells slots (pc) (L') (st) (n) (h)) : gi_G p l e R s m args below meth c Q V nL cells slots (pc) (L) (st) (n) (h) := fun ls H locs hl hh hs => k ls H locs (gi_has_to hl hq) hh hs
theorem gi_widen {k1 n1 : Nat} (h1 : cells ≤ k1) (h2 : slots ≤ n1) (k : gi_G p l e R s m args below meth c Q V nL k1 n1 (pc) (L) (st) (n) (h)) : gi_G p l e R s m args below meth c Q V nL cells slots (pc) (L) (st) (n) (h) := fun ls H locs hl hh hs => W.widen h1 h2 (k ls H locs hl hh hs)
theorem gi_pc {pc' : Nat} (hp : pc' = pc) (k : gi_G p l e R s m args below meth c Q V nL cells slots (pc') (L) (st) (n) (h)) : gi_G p l e R s m args below meth c Q V nL cells slots (pc) (L) (st) (n) (h) := by subst hp; exact k

theorem gi_iconst {i : Int} {v : Int32} {q : Nat} (C : gi_C p s m args meth c cc nL own V) (hd : decode cc pc = .ok (.iconst i, 1)) (hq : pc + 1 = q) (hv : Int32.ofInt i = v) (k : gi_G p l e R s m args below meth c Q V nL cells slots (q) (L) (.int v :: st) (n) (h)) : gi_G p l e R s m args below meth c Q V nL cells slots (pc) (L) (st) (n) (h) := by subst hq; exact fun ls H locs hl hh hs => lv_iconst C.1 C.2.1 hd hv (k ls H locs hl hh hs)
theorem gi_bipush {i : Int} {v : Int32} {q : Nat} (C : gi_C p s m args meth c cc nL own V) (hd : decode cc pc = .ok (.bipush i, 2)) (hq : pc + 2 = q) (hv : (Int8.ofInt i).toInt32 = v) (k : gi_G p l e R s m args below meth c Q V nL cells slots (q) (L) (.int v :: st) (n) (h)) : gi_G p l e R s m args below meth c Q V nL cells slots (pc) (L) (st) (n) (h) := by subst hq; exact fun ls H locs hl hh hs => lv_bipush C.1 C.2.1 hd hv (k ls H locs hl hh hs)
theorem gi_sipush {i : Int} {v : Int32} {q : Nat} (C : gi_C p s m args meth c cc nL own V) (hd : decode cc pc = .ok (.sipush i, 3)) (hq : pc + 3 = q) (hv : (Int16.ofInt i).toInt32 = v) (k : gi_G p l e R s m args below meth c Q V nL cells slots (q) (L) (.int v :: st) (n) (h)) : gi_G p l e R s m args below meth c Q V nL cells slots (pc) (L) (st) (n) (h) := by subst hq; exact fun ls H locs hl hh hs => lv_sipush C.1 C.2.1 hd hv (k ls H locs hl hh hs)
theorem gi_lconst {i : Fin 2} {v : Int64} {q : Nat} (C : gi_C p s m args meth c cc nL own V) (hd : decode cc pc = .ok (.lconst i, 1)) (hq : pc + 1 = q) (hv : Int64.ofNat (i : Nat) = v) (k : gi_G p l e R s m args below meth c Q V nL cells slots (q) (L) (.long v :: st) (n) (h)) : gi_G p l e R s m args below meth c Q V nL cells slots (pc) (L) (st) (n) (h) := by subst hq; exact fun ls H locs hl hh hs => lv_lconst C.1 C.2.1 hd hv (k ls H locs hl hh hs)
theorem gi_iload_n {k4 : Fin 4} {i : Nat} {x : Int32} {q : Nat} (C : gi_C p s m args meth c cc nL own V) (hd : decode cc pc = .ok (.iload_n k4, 1)) (hq : pc + 1 = q) (hi : (k4 : Nat) = i) (hx : gi_look L i = some (.int x)) (k : gi_G p l e R s m args below meth c Q V nL cells slots (q) (L) (.int x :: st) (n) (h)) : gi_G p l e R s m args below meth c Q V nL cells slots (pc) (L) (st) (n) (h) := by subst hq; exact fun ls H locs hl hh hs => lv_iload_n C.1 C.2.1 hd hi (hl.2.2 _ _ hx) (k ls H locs hl hh hs)
theorem gi_iload {i : Nat} {x : Int32} {q : Nat} (C : gi_C p s m args meth c cc nL own V) (hd : decode cc pc = .ok (.iload i, 2)) (hq : pc + 2 = q) (hx : gi_look L i = some (.int x)) (k : gi_G p l e R s m args below meth c Q V nL cells slots (q) (L) (.int x :: st) (n) (h)) : gi_G p l e R s m args below meth c Q V nL cells slots (pc) (L) (st) (n) (h) := by subst hq; exact fun ls H locs hl hh hs => lv_iload C.1 C.2.1 hd (hl.2.2 _ _ hx) (k ls H locs hl hh hs)
theorem gi_lload_n {k4 : Fin 4} {i : Nat} {x : Int64} {q : Nat} (C : gi_C p s m args meth c cc nL own V) (hd : decode cc pc = .ok (.lload_n k4, 1)) (hq : pc + 1 = q) (hi : (k4 : Nat) = i) (hx : gi_look L i = some (.long x)) (k : gi_G p l e R s m args below meth c Q V nL cells slots (q) (L) (.long x :: st) (n) (h)) : gi_G p l e R s m args below meth c Q V nL cells slots (pc) (L) (st) (n) (h) := by subst hq; exact fun ls H locs hl hh hs => lv_lload_n C.1 C.2.1 hd hi (hl.2.2 _ _ hx) (k ls H locs hl hh hs)
theorem gi_lload {i : Nat} {x : Int64} {q : Nat} (C : gi_C p s m args meth c cc nL own V) (hd : decode cc pc = .ok (.lload i, 2)) (hq : pc + 2 = q) (hx : gi_look L i = some (.long x)) (k : gi_G p l e R s m args below meth c Q V nL cells slots (q) (L) (.long x :: st) (n) (h)) : gi_G p l e R s m args below meth c Q V nL cells slots (pc) (L) (st) (n) (h) := by subst hq; exact fun ls H locs hl hh hs => lv_lload C.1 C.2.1 hd (hl.2.2 _ _ hx) (k ls H locs hl hh hs)
theorem gi_aload_n {k4 : Fin 4} {i : Nat} {x : Nat} {q : Nat} (C : gi_C p s m args meth c cc nL own V) (hd : decode cc pc = .ok (.aload_n k4, 1)) (hq : pc + 1 = q) (hi : (k4 : Nat) = i) (hx : gi_look L i = some (.ref x)) (k : gi_G p l e R s m args below meth c Q V nL cells slots (q) (L) (.ref x :: st) (n) (h)) : gi_G p l e R s m args below meth c Q V nL cells slots (pc) (L) (st) (n) (h) := by subst hq; exact fun ls H locs hl hh hs => lv_aload_n C.1 C.2.1 hd hi (hl.2.2 _ _ hx) (k ls H locs hl hh hs)
theorem gi_aload {i : Nat} {x : Nat} {q : Nat} (C : gi_C p s m args meth c cc nL own V) (hd : decode cc pc = .ok (.aload i, 2)) (hq : pc + 2 = q) (hx : gi_look L i = some (.ref x)) (k : gi_G p l e R s m args below meth c Q V nL cells slots (q) (L) (.ref x :: st) (n) (h)) : gi_G p l e R s m args below meth c Q V nL cells slots (pc) (L) (st) (n) (h) := by subst hq; exact fun ls H locs hl hh hs => lv_aload C.1 C.2.1 hd (hl.2.2 _ _ hx) (k ls H locs hl hh hs)
theorem gi_aload_nN {k4 : Fin 4} {i : Nat} {q : Nat} (C : gi_C p s m args meth c cc nL own V) (hd : decode cc pc = .ok (.aload_n k4, 1)) (hq : pc + 1 = q) (hi : (k4 : Nat) = i) (hx : gi_look L i = some .null) (k : gi_G p l e R s m args below meth c Q V nL cells slots (q) (L) (.null :: st) (n) (h)) : gi_G p l e R s m args below meth c Q V nL cells slots (pc) (L) (st) (n) (h) := by subst hq; exact fun ls H locs hl hh hs => lv_aload_nN C.1 C.2.1 hd hi (hl.2.2 _ _ hx) (k ls H locs hl hh hs)
theorem gi_aloadN {i : Nat} {q : Nat} (C : gi_C p s m args meth c cc nL own V) (hd : decode cc pc = .ok (.aload i, 2)) (hq : pc + 2 = q) (hx : gi_look L i = some .null) (k : gi_G p l e R s m args below meth c Q V nL cells slots (q) (L) (.null :: st) (n) (h)) : gi_G p l e R s m args below meth c Q V nL cells slots (pc) (L) (st) (n) (h) := by subst hq; exact fun ls H locs hl hh hs => lv_aloadN C.1 C.2.1 hd (hl.2.2 _ _ hx) (k ls H locs hl hh hs)
theorem gi_istore_n {k4 : Fin 4} {i : Nat} {x : Int32} {q : Nat} (C : gi_C p s m args meth c cc nL own V) (hd : decode cc pc = .ok (.istore_n k4, 1)) (hq : pc + 1 = q) (hi : (k4 : Nat) = i) (hn : i < nL) (k : gi_G p l e R s m args below meth c Q V nL cells slots (q) ((i, .int x) :: L) (st) (n) (h)) : gi_G p l e R s m args below meth c Q V nL cells slots (pc) (L) (.int x :: st) (n) (h) := by
  subst hq
  intro ls H locs hl hh hs
  subst hi
  obtain ⟨ls', e', h'⟩ := gi_store1 (v := .int x) hl hn rfl
  have hexec := C.1
  have hb := C.2.1
  intro T hT X
  obtain ⟨t, a, b⟩ := k ls' H locs h' hh hs T hT X
  refine ⟨t, ?_, b⟩
  jvm_step X.here [X.here.top, ↓top_set X.here.top, hexec, hb, hd, e']
  exact a
theorem gi_istore {i : Nat} {x : Int32} {q : Nat} (C : gi_C p s m args meth c cc nL own V) (hd : decode cc pc = .ok (.istore i, 2)) (hq : pc + 2 = q) (hn : i < nL) (k : gi_G p l e R s m args below meth c Q V nL cells slots (q) ((i, .int x) :: L) (st) (n) (h)) : gi_G p l e R s m args below meth c Q V nL cells slots (pc) (L) (.int x :: st) (n) (h) := by
  subst hq
  intro ls H locs hl hh hs
  obtain ⟨ls', e', h'⟩ := gi_store1 (v := .int x) hl hn rfl
  have hexec := C.1
  have hb := C.2.1
  intro T hT X
  obtain ⟨t, a, b⟩ := k ls' H locs h' hh hs T hT X
  refine ⟨t, ?_, b⟩
  jvm_step X.here [X.here.top, ↓top_set X.here.top, hexec, hb, hd, e']
  exact a
theorem gi_lstore_n {k4 : Fin 4} {i : Nat} {x : Int64} {q : Nat} (C : gi_C p s m args meth c cc nL own V) (hd : decode cc pc = .ok (.lstore_n k4, 1)) (hq : pc + 1 = q) (hi : (k4 : Nat) = i) (hn : i + 1 < nL) (k : gi_G p l e R s m args below meth c Q V nL cells slots (q) ((i, .long x) :: L) (st) (n) (h)) : gi_G p l e R s m args below meth c Q V nL cells slots (pc) (L) (.long x :: st) (n) (h) := by
  subst hq
  intro ls H locs hl hh hs
  subst hi
  obtain ⟨ls', e', h'⟩ := gi_store2 (v := .long x) hl hn rfl
  have hexec := C.1
  have hb := C.2.1
  intro T hT X
  obtain ⟨t, a, b⟩ := k ls' H locs h' hh hs T hT X
  refine ⟨t, ?_, b⟩
  jvm_step X.here [X.here.top, ↓top_set X.here.top, hexec, hb, hd, e']
  exact a
theorem gi_lstore {i : Nat} {x : Int64} {q : Nat} (C : gi_C p s m args meth c cc nL own V) (hd : decode cc pc = .ok (.lstore i, 2)) (hq : pc + 2 = q) (hn : i + 1 < nL) (k : gi_G p l e R s m args below meth c Q V nL cells slots (q) ((i, .long x) :: L) (st) (n) (h)) : gi_G p l e R s m args below meth c Q V nL cells slots (pc) (L) (.long x :: st) (n) (h) := by
  subst hq
  intro ls H locs hl hh hs
  obtain ⟨ls', e', h'⟩ := gi_store2 (v := .long x) hl hn rfl
  have hexec := C.1
  have hb := C.2.1
  intro T hT X
  obtain ⟨t, a, b⟩ := k ls' H locs h' hh hs T hT X
  refine ⟨t, ?_, b⟩
  jvm_step X.here [X.here.top, ↓top_set X.here.top, hexec, hb, hd, e']
  exact a
theorem gi_astore_n {k4 : Fin 4} {i : Nat} {x : Nat} {q : Nat} (C : gi_C p s m args meth c cc nL own V) (hd : decode cc pc = .ok (.astore_n k4, 1)) (hq : pc + 1 = q) (hi : (k4 : Nat) = i) (hn : i < nL) (k : gi_G p l e R s m args below meth c Q V nL cells slots (q) ((i, .ref x) :: L) (st) (n) (h)) : gi_G p l e R s m args below meth c Q V nL cells slots (pc) (L) (.ref x :: st) (n) (h) := by
  subst hq
  intro ls H locs hl hh hs
  subst hi
  obtain ⟨ls', e', h'⟩ := gi_store1 (v := .ref x) hl hn rfl
  have hexec := C.1
  have hb := C.2.1
  intro T hT X
  obtain ⟨t, a, b⟩ := k ls' H locs h' hh hs T hT X
  refine ⟨t, ?_, b⟩
  jvm_step X.here [X.here.top, ↓top_set X.here.top, hexec, hb, hd, e', Value.isRef]
  exact a
theorem gi_astore {i : Nat} {x : Nat} {q : Nat} (C : gi_C p s m args meth c cc nL own V) (hd : decode cc pc = .ok (.astore i, 2)) (hq : pc + 2 = q) (hn : i < nL) (k : gi_G p l e R s m args below meth c Q V nL cells slots (q) ((i, .ref x) :: L) (st) (n) (h)) : gi_G p l e R s m args below meth c Q V nL cells slots (pc) (L) (.ref x :: st) (n) (h) := by
  subst hq
  intro ls H locs hl hh hs
  obtain ⟨ls', e', h'⟩ := gi_store1 (v := .ref x) hl hn rfl
  have hexec := C.1
  have hb := C.2.1
  intro T hT X
  obtain ⟨t, a, b⟩ := k ls' H locs h' hh hs T hT X
  refine ⟨t, ?_, b⟩
  jvm_step X.here [X.here.top, ↓top_set X.here.top, hexec, hb, hd, e', Value.isRef]
  exact a
theorem gi_astore_nN {k4 : Fin 4} {i : Nat} {q : Nat} (C : gi_C p s m args meth c cc nL own V) (hd : decode cc pc = .ok (.astore_n k4, 1)) (hq : pc + 1 = q) (hi : (k4 : Nat) = i) (hn : i < nL) (k : gi_G p l e R s m args below meth c Q V nL cells slots (q) ((i, .null) :: L) (st) (n) (h)) : gi_G p l e R s m args below meth c Q V nL cells slots (pc) (L) (.null :: st) (n) (h) := by
  subst hq
  intro ls H locs hl hh hs
  subst hi
  obtain ⟨ls', e', h'⟩ := gi_store1 (v := .null) hl hn rfl
  have hexec := C.1
  have hb := C.2.1
  intro T hT X
  obtain ⟨t, a, b⟩ := k ls' H locs h' hh hs T hT X
  refine ⟨t, ?_, b⟩
  jvm_step X.here [X.here.top, ↓top_set X.here.top, hexec, hb, hd, e', Value.isRef]
  exact a
theorem gi_astoreN {i : Nat} {q : Nat} (C : gi_C p s m args meth c cc nL own V) (hd : decode cc pc = .ok (.astore i, 2)) (hq : pc + 2 = q) (hn : i < nL) (k : gi_G p l e R s m args below meth c Q V nL cells slots (q) ((i, .null) :: L) (st) (n) (h)) : gi_G p l e R s m args below meth c Q V nL cells slots (pc) (L) (.null :: st) (n) (h) := by
  subst hq
  intro ls H locs hl hh hs
  obtain ⟨ls', e', h'⟩ := gi_store1 (v := .null) hl hn rfl
  have hexec := C.1
  have hb := C.2.1
  intro T hT X
  obtain ⟨t, a, b⟩ := k ls' H locs h' hh hs T hT X
  refine ⟨t, ?_, b⟩
  jvm_step X.here [X.here.top, ↓top_set X.here.top, hexec, hb, hd, e', Value.isRef]
  exact a
theorem gi_iinc {i : Nat} {d : Int} {x v : Int32} {q : Nat} (C : gi_C p s m args meth c cc nL own V) (hd : decode cc pc = .ok (.iinc i d, 3)) (hq : pc + 3 = q) (hx : gi_look L i = some (.int x)) (hv : Int32.ofInt d = v) (hn : i < nL) (k : gi_G p l e R s m args below meth c Q V nL cells slots (q) ((i, .int (x + v)) :: L) (st) (n) (h)) : gi_G p l e R s m args below meth c Q V nL cells slots (pc) (L) (st) (n) (h) := by
  intro ls H locs hl hh hs
  subst hq
  subst hv
  have hg := hl.2.2 _ _ hx
  obtain ⟨ls', e', h'⟩ := gi_store1 (v := .int (x + Int32.ofInt d)) hl hn rfl
  have hexec := C.1
  have hb := C.2.1
  intro T hT X
  obtain ⟨t, a, b⟩ := k ls' H locs h' hh hs T hT X
  refine ⟨t, ?_, b⟩
  jvm_step X.here [X.here.top, ↓top_set X.here.top, hexec, hb, hd, hg, e']
  exact a
theorem gi_iadd {x y : Int32} {q : Nat} (C : gi_C p s m args meth c cc nL own V) (hd : decode cc pc = .ok (.iadd, 1)) (hq : pc + 1 = q)  (k : gi_G p l e R s m args below meth c Q V nL cells slots (q) (L) (.int (x + y) :: st) (n) (h)) : gi_G p l e R s m args below meth c Q V nL cells slots (pc) (L) (.int y :: .int x :: st) (n) (h) := by subst hq; exact fun ls H locs hl hh hs => lv_iadd C.1 C.2.1 hd (k ls H locs hl hh hs)
theorem gi_isub {x y : Int32} {q : Nat} (C : gi_C p s m args meth c cc nL own V) (hd : decode cc pc = .ok (.isub, 1)) (hq : pc + 1 = q)  (k : gi_G p l e R s m args below meth c Q V nL cells slots (q) (L) (.int (x - y) :: st) (n) (h)) : gi_G p l e R s m args below meth c Q V nL cells slots (pc) (L) (.int y :: .int x :: st) (n) (h) := by subst hq; exact fun ls H locs hl hh hs => lv_isub C.1 C.2.1 hd (k ls H locs hl hh hs)
theorem gi_imul {x y : Int32} {q : Nat} (C : gi_C p s m args meth c cc nL own V) (hd : decode cc pc = .ok (.imul, 1)) (hq : pc + 1 = q)  (k : gi_G p l e R s m args below meth c Q V nL cells slots (q) (L) (.int (x * y) :: st) (n) (h)) : gi_G p l e R s m args below meth c Q V nL cells slots (pc) (L) (.int y :: .int x :: st) (n) (h) := by subst hq; exact fun ls H locs hl hh hs => lv_imul C.1 C.2.1 hd (k ls H locs hl hh hs)
theorem gi_iand {x y : Int32} {q : Nat} (C : gi_C p s m args meth c cc nL own V) (hd : decode cc pc = .ok (.iand, 1)) (hq : pc + 1 = q)  (k : gi_G p l e R s m args below meth c Q V nL cells slots (q) (L) (.int (x &&& y) :: st) (n) (h)) : gi_G p l e R s m args below meth c Q V nL cells slots (pc) (L) (.int y :: .int x :: st) (n) (h) := by subst hq; exact fun ls H locs hl hh hs => lv_iand C.1 C.2.1 hd (k ls H locs hl hh hs)
theorem gi_ior {x y : Int32} {q : Nat} (C : gi_C p s m args meth c cc nL own V) (hd : decode cc pc = .ok (.ior, 1)) (hq : pc + 1 = q)  (k : gi_G p l e R s m args below meth c Q V nL cells slots (q) (L) (.int (x ||| y) :: st) (n) (h)) : gi_G p l e R s m args below meth c Q V nL cells slots (pc) (L) (.int y :: .int x :: st) (n) (h) := by subst hq; exact fun ls H locs hl hh hs => lv_ior C.1 C.2.1 hd (k ls H locs hl hh hs)
theorem gi_ixor {x y : Int32} {q : Nat} (C : gi_C p s m args meth c cc nL own V) (hd : decode cc pc = .ok (.ixor, 1)) (hq : pc + 1 = q)  (k : gi_G p l e R s m args below meth c Q V nL cells slots (q) (L) (.int (x ^^^ y) :: st) (n) (h)) : gi_G p l e R s m args below meth c Q V nL cells slots (pc) (L) (.int y :: .int x :: st) (n) (h) := by subst hq; exact fun ls H locs hl hh hs => lv_ixor C.1 C.2.1 hd (k ls H locs hl hh hs)
theorem gi_ishl {x y : Int32} {q : Nat} (C : gi_C p s m args meth c cc nL own V) (hd : decode cc pc = .ok (.ishl, 1)) (hq : pc + 1 = q)  (k : gi_G p l e R s m args below meth c Q V nL cells slots (q) (L) (.int (x <<< (y &&& 31)) :: st) (n) (h)) : gi_G p l e R s m args below meth c Q V nL cells slots (pc) (L) (.int y :: .int x :: st) (n) (h) := by subst hq; exact fun ls H locs hl hh hs => lv_ishl C.1 C.2.1 hd (k ls H locs hl hh hs)
theorem gi_ishr {x y : Int32} {q : Nat} (C : gi_C p s m args meth c cc nL own V) (hd : decode cc pc = .ok (.ishr, 1)) (hq : pc + 1 = q)  (k : gi_G p l e R s m args below meth c Q V nL cells slots (q) (L) (.int (x >>> (y &&& 31)) :: st) (n) (h)) : gi_G p l e R s m args below meth c Q V nL cells slots (pc) (L) (.int y :: .int x :: st) (n) (h) := by subst hq; exact fun ls H locs hl hh hs => lv_ishr C.1 C.2.1 hd (k ls H locs hl hh hs)
theorem gi_ladd {x y : Int64} {q : Nat} (C : gi_C p s m args meth c cc nL own V) (hd : decode cc pc = .ok (.ladd, 1)) (hq : pc + 1 = q)  (k : gi_G p l e R s m args below meth c Q V nL cells slots (q) (L) (.long (x + y) :: st) (n) (h)) : gi_G p l e R s m args below meth c Q V nL cells slots (pc) (L) (.long y :: .long x :: st) (n) (h) := by subst hq; exact fun ls H locs hl hh hs => lv_ladd C.1 C.2.1 hd (k ls H locs hl hh hs)
theorem gi_lsub {x y : Int64} {q : Nat} (C : gi_C p s m args meth c cc nL own V) (hd : decode cc pc = .ok (.lsub, 1)) (hq : pc + 1 = q)  (k : gi_G p l e R s m args below meth c Q V nL cells slots (q) (L) (.long (x - y) :: st) (n) (h)) : gi_G p l e R s m args below meth c Q V nL cells slots (pc) (L) (.long y :: .long x :: st) (n) (h) := by subst hq; exact fun ls H locs hl hh hs => lv_lsub C.1 C.2.1 hd (k ls H locs hl hh hs)
theorem gi_lmul {x y : Int64} {q : Nat} (C : gi_C p s m args meth c cc nL own V) (hd : decode cc pc = .ok (.lmul, 1)) (hq : pc + 1 = q)  (k : gi_G p l e R s m args below meth c Q V nL cells slots (q) (L) (.long (x * y) :: st) (n) (h)) : gi_G p l e R s m args below meth c Q V nL cells slots (pc) (L) (.long y :: .long x :: st) (n) (h) := by subst hq; exact fun ls H locs hl hh hs => lv_lmul C.1 C.2.1 hd (k ls H locs hl hh hs)
theorem gi_land {x y : Int64} {q : Nat} (C : gi_C p s m args meth c cc nL own V) (hd : decode cc pc = .ok (.land, 1)) (hq : pc + 1 = q)  (k : gi_G p l e R s m args below meth c Q V nL cells slots (q) (L) (.long (x &&& y) :: st) (n) (h)) : gi_G p l e R s m args below meth c Q V nL cells slots (pc) (L) (.long y :: .long x :: st) (n) (h) := by subst hq; exact fun ls H locs hl hh hs => lv_land C.1 C.2.1 hd (k ls H locs hl hh hs)
theorem gi_lor {x y : Int64} {q : Nat} (C : gi_C p s m args meth c cc nL own V) (hd : decode cc pc = .ok (.lor, 1)) (hq : pc + 1 = q)  (k : gi_G p l e R s m args below meth c Q V nL cells slots (q) (L) (.long (x ||| y) :: st) (n) (h)) : gi_G p l e R s m args below meth c Q V nL cells slots (pc) (L) (.long y :: .long x :: st) (n) (h) := by subst hq; exact fun ls H locs hl hh hs => lv_lor C.1 C.2.1 hd (k ls H locs hl hh hs)
theorem gi_lxor {x y : Int64} {q : Nat} (C : gi_C p s m args meth c cc nL own V) (hd : decode cc pc = .ok (.lxor, 1)) (hq : pc + 1 = q)  (k : gi_G p l e R s m args below meth c Q V nL cells slots (q) (L) (.long (x ^^^ y) :: st) (n) (h)) : gi_G p l e R s m args below meth c Q V nL cells slots (pc) (L) (.long y :: .long x :: st) (n) (h) := by subst hq; exact fun ls H locs hl hh hs => lv_lxor C.1 C.2.1 hd (k ls H locs hl hh hs)
theorem gi_idiv {x y : Int32} {q : Nat} (C : gi_C p s m args meth c cc nL own V) (hd : decode cc pc = .ok (.idiv, 1)) (hq : pc + 1 = q) (hne : ¬ y = 0) (k : gi_G p l e R s m args below meth c Q V nL cells slots (q) (L) (.int (x / y) :: st) (n) (h)) : gi_G p l e R s m args below meth c Q V nL cells slots (pc) (L) (.int y :: .int x :: st) (n) (h) := by subst hq; exact fun ls H locs hl hh hs => lv_idiv C.1 C.2.1 hd hne (k ls H locs hl hh hs)
theorem gi_irem {x y : Int32} {q : Nat} (C : gi_C p s m args meth c cc nL own V) (hd : decode cc pc = .ok (.irem, 1)) (hq : pc + 1 = q) (hne : ¬ y = 0) (k : gi_G p l e R s m args below meth c Q V nL cells slots (q) (L) (.int (x - x / y * y) :: st) (n) (h)) : gi_G p l e R s m args below meth c Q V nL cells slots (pc) (L) (.int y :: .int x :: st) (n) (h) := by subst hq; exact fun ls H locs hl hh hs => lv_irem C.1 C.2.1 hd hne (k ls H locs hl hh hs)
theorem gi_ldiv {x y : Int64} {q : Nat} (C : gi_C p s m args meth c cc nL own V) (hd : decode cc pc = .ok (.ldiv, 1)) (hq : pc + 1 = q) (hne : ¬ y = 0) (k : gi_G p l e R s m args below meth c Q V nL cells slots (q) (L) (.long (x / y) :: st) (n) (h)) : gi_G p l e R s m args below meth c Q V nL cells slots (pc) (L) (.long y :: .long x :: st) (n) (h) := by subst hq; exact fun ls H locs hl hh hs => lv_ldiv C.1 C.2.1 hd hne (k ls H locs hl hh hs)
theorem gi_lrem {x y : Int64} {q : Nat} (C : gi_C p s m args meth c cc nL own V) (hd : decode cc pc = .ok (.lrem, 1)) (hq : pc + 1 = q) (hne : ¬ y = 0) (k : gi_G p l e R s m args below meth c Q V nL cells slots (q) (L) (.long (x - x / y * y) :: st) (n) (h)) : gi_G p l e R s m args below meth c Q V nL cells slots (pc) (L) (.long y :: .long x :: st) (n) (h) := by subst hq; exact fun ls H locs hl hh hs => lv_lrem C.1 C.2.1 hd hne (k ls H locs hl hh hs)
theorem gi_ineg {x : Int32} {q : Nat} (C : gi_C p s m args meth c cc nL own V) (hd : decode cc pc = .ok (.ineg, 1)) (hq : pc + 1 = q)  (k : gi_G p l e R s m args below meth c Q V nL cells slots (q) (L) (.int (-x) :: st) (n) (h)) : gi_G p l e R s m args below meth c Q V nL cells slots (pc) (L) (.int x :: st) (n) (h) := by subst hq; exact fun ls H locs hl hh hs => lv_ineg C.1 C.2.1 hd (k ls H locs hl hh hs)
theorem gi_lneg {x : Int64} {q : Nat} (C : gi_C p s m args meth c cc nL own V) (hd : decode cc pc = .ok (.lneg, 1)) (hq : pc + 1 = q)  (k : gi_G p l e R s m args below meth c Q V nL cells slots (q) (L) (.long (-x) :: st) (n) (h)) : gi_G p l e R s m args below meth c Q V nL cells slots (pc) (L) (.long x :: st) (n) (h) := by subst hq; exact fun ls H locs hl hh hs => lv_lneg C.1 C.2.1 hd (k ls H locs hl hh hs)
theorem gi_i2l {x : Int32} {q : Nat} (C : gi_C p s m args meth c cc nL own V) (hd : decode cc pc = .ok (.i2l, 1)) (hq : pc + 1 = q)  (k : gi_G p l e R s m args below meth c Q V nL cells slots (q) (L) (.long x.toInt64 :: st) (n) (h)) : gi_G p l e R s m args below meth c Q V nL cells slots (pc) (L) (.int x :: st) (n) (h) := by subst hq; exact fun ls H locs hl hh hs => lv_i2l C.1 C.2.1 hd rfl (k ls H locs hl hh hs)
theorem gi_l2i {x : Int64} {q : Nat} (C : gi_C p s m args meth c cc nL own V) (hd : decode cc pc = .ok (.l2i, 1)) (hq : pc + 1 = q)  (k : gi_G p l e R s m args below meth c Q V nL cells slots (q) (L) (.int x.toInt32 :: st) (n) (h)) : gi_G p l e R s m args below meth c Q V nL cells slots (pc) (L) (.long x :: st) (n) (h) := by subst hq; exact fun ls H locs hl hh hs => lv_l2i C.1 C.2.1 hd rfl (k ls H locs hl hh hs)
theorem gi_lcmp {x y : Int64} {q : Nat} (C : gi_C p s m args meth c cc nL own V) (hd : decode cc pc = .ok (.lcmp, 1)) (hq : pc + 1 = q)  (k : gi_G p l e R s m args below meth c Q V nL cells slots (q) (L) (.int (lg_cmp x y) :: st) (n) (h)) : gi_G p l e R s m args below meth c Q V nL cells slots (pc) (L) (.long y :: .long x :: st) (n) (h) := by subst hq; exact fun ls H locs hl hh hs => W.lcmp C.1 C.2.1 hd (k ls H locs hl hh hs)
theorem gi_null  {q : Nat} (C : gi_C p s m args meth c cc nL own V) (hd : decode cc pc = .ok (.aconst_null, 1)) (hq : pc + 1 = q)  (k : gi_G p l e R s m args below meth c Q V nL cells slots (q) (L) (.null :: st) (n) (h)) : gi_G p l e R s m args below meth c Q V nL cells slots (pc) (L) (st) (n) (h) := by subst hq; exact fun ls H locs hl hh hs => lv_null C.1 C.2.1 hd (k ls H locs hl hh hs)
theorem gi_if_eq {x : Int32} {off : Int} {tgt q : Nat} (C : gi_C p s m args meth c cc nL own V) (hd : decode cc pc = .ok (.ifCond .eq off, 3)) (hq : pc + 3 = q) (ht : (pc : Int) + off = (tgt : Int)) (kt : x = 0 → gi_G p l e R s m args below meth c Q V nL cells slots (tgt) (L) (st) (n) (h)) (kf : ¬ (x = 0) → gi_G p l e R s m args below meth c Q V nL cells slots (q) (L) (st) (n) (h)) : gi_G p l e R s m args below meth c Q V nL cells slots (pc) (L) (.int x :: st) (n) (h) := by subst hq; exact fun ls H locs hl hh hs => lv_if_eq C.1 C.2.1 hd ht (fun q => kt q ls H locs hl hh hs) (fun q => kf q ls H locs hl hh hs)
theorem gi_if_ne {x : Int32} {off : Int} {tgt q : Nat} (C : gi_C p s m args meth c cc nL own V) (hd : decode cc pc = .ok (.ifCond .ne off, 3)) (hq : pc + 3 = q) (ht : (pc : Int) + off = (tgt : Int)) (kt : ¬ x = 0 → gi_G p l e R s m args below meth c Q V nL cells slots (tgt) (L) (st) (n) (h)) (kf : x = 0 → gi_G p l e R s m args below meth c Q V nL cells slots (q) (L) (st) (n) (h)) : gi_G p l e R s m args below meth c Q V nL cells slots (pc) (L) (.int x :: st) (n) (h) := by subst hq; exact fun ls H locs hl hh hs => lv_if_ne C.1 C.2.1 hd ht (fun q => kt q ls H locs hl hh hs) (fun q => kf q ls H locs hl hh hs)
theorem gi_if_lt {x : Int32} {off : Int} {tgt q : Nat} (C : gi_C p s m args meth c cc nL own V) (hd : decode cc pc = .ok (.ifCond .lt off, 3)) (hq : pc + 3 = q) (ht : (pc : Int) + off = (tgt : Int)) (kt : x < 0 → gi_G p l e R s m args below meth c Q V nL cells slots (tgt) (L) (st) (n) (h)) (kf : ¬ (x < 0) → gi_G p l e R s m args below meth c Q V nL cells slots (q) (L) (st) (n) (h)) : gi_G p l e R s m args below meth c Q V nL cells slots (pc) (L) (.int x :: st) (n) (h) := by subst hq; exact fun ls H locs hl hh hs => lv_if_lt C.1 C.2.1 hd ht (fun q => kt q ls H locs hl hh hs) (fun q => kf q ls H locs hl hh hs)
theorem gi_if_ge {x : Int32} {off : Int} {tgt q : Nat} (C : gi_C p s m args meth c cc nL own V) (hd : decode cc pc = .ok (.ifCond .ge off, 3)) (hq : pc + 3 = q) (ht : (pc : Int) + off = (tgt : Int)) (kt : 0 ≤ x → gi_G p l e R s m args below meth c Q V nL cells slots (tgt) (L) (st) (n) (h)) (kf : ¬ (0 ≤ x) → gi_G p l e R s m args below meth c Q V nL cells slots (q) (L) (st) (n) (h)) : gi_G p l e R s m args below meth c Q V nL cells slots (pc) (L) (.int x :: st) (n) (h) := by subst hq; exact fun ls H locs hl hh hs => lv_if_ge C.1 C.2.1 hd ht (fun q => kt q ls H locs hl hh hs) (fun q => kf q ls H locs hl hh hs)
theorem gi_if_gt {x : Int32} {off : Int} {tgt q : Nat} (C : gi_C p s m args meth c cc nL own V) (hd : decode cc pc = .ok (.ifCond .gt off, 3)) (hq : pc + 3 = q) (ht : (pc : Int) + off = (tgt : Int)) (kt : 0 < x → gi_G p l e R s m args below meth c Q V nL cells slots (tgt) (L) (st) (n) (h)) (kf : ¬ (0 < x) → gi_G p l e R s m args below meth c Q V nL cells slots (q) (L) (st) (n) (h)) : gi_G p l e R s m args below meth c Q V nL cells slots (pc) (L) (.int x :: st) (n) (h) := by subst hq; exact fun ls H locs hl hh hs => lv_if_gt C.1 C.2.1 hd ht (fun q => kt q ls H locs hl hh hs) (fun q => kf q ls H locs hl hh hs)
theorem gi_if_le {x : Int32} {off : Int} {tgt q : Nat} (C : gi_C p s m args meth c cc nL own V) (hd : decode cc pc = .ok (.ifCond .le off, 3)) (hq : pc + 3 = q) (ht : (pc : Int) + off = (tgt : Int)) (kt : x ≤ 0 → gi_G p l e R s m args below meth c Q V nL cells slots (tgt) (L) (st) (n) (h)) (kf : ¬ (x ≤ 0) → gi_G p l e R s m args below meth c Q V nL cells slots (q) (L) (st) (n) (h)) : gi_G p l e R s m args below meth c Q V nL cells slots (pc) (L) (.int x :: st) (n) (h) := by subst hq; exact fun ls H locs hl hh hs => lv_if_le C.1 C.2.1 hd ht (fun q => kt q ls H locs hl hh hs) (fun q => kf q ls H locs hl hh hs)
theorem gi_icmp_eq {x y : Int32} {off : Int} {tgt q : Nat} (C : gi_C p s m args meth c cc nL own V) (hd : decode cc pc = .ok (.if_icmp .eq off, 3)) (hq : pc + 3 = q) (ht : (pc : Int) + off = (tgt : Int)) (kt : x = y → gi_G p l e R s m args below meth c Q V nL cells slots (tgt) (L) (st) (n) (h)) (kf : ¬ (x = y) → gi_G p l e R s m args below meth c Q V nL cells slots (q) (L) (st) (n) (h)) : gi_G p l e R s m args below meth c Q V nL cells slots (pc) (L) (.int y :: .int x :: st) (n) (h) := by subst hq; exact fun ls H locs hl hh hs => lv_icmp_eq C.1 C.2.1 hd ht (fun q => kt q ls H locs hl hh hs) (fun q => kf q ls H locs hl hh hs)
theorem gi_icmp_ne {x y : Int32} {off : Int} {tgt q : Nat} (C : gi_C p s m args meth c cc nL own V) (hd : decode cc pc = .ok (.if_icmp .ne off, 3)) (hq : pc + 3 = q) (ht : (pc : Int) + off = (tgt : Int)) (kt : ¬ x = y → gi_G p l e R s m args below meth c Q V nL cells slots (tgt) (L) (st) (n) (h)) (kf : x = y → gi_G p l e R s m args below meth c Q V nL cells slots (q) (L) (st) (n) (h)) : gi_G p l e R s m args below meth c Q V nL cells slots (pc) (L) (.int y :: .int x :: st) (n) (h) := by subst hq; exact fun ls H locs hl hh hs => lv_icmp_ne C.1 C.2.1 hd ht (fun q => kt q ls H locs hl hh hs) (fun q => kf q ls H locs hl hh hs)
theorem gi_icmp_lt {x y : Int32} {off : Int} {tgt q : Nat} (C : gi_C p s m args meth c cc nL own V) (hd : decode cc pc = .ok (.if_icmp .lt off, 3)) (hq : pc + 3 = q) (ht : (pc : Int) + off = (tgt : Int)) (kt : x < y → gi_G p l e R s m args below meth c Q V nL cells slots (tgt) (L) (st) (n) (h)) (kf : ¬ (x < y) → gi_G p l e R s m args below meth c Q V nL cells slots (q) (L) (st) (n) (h)) : gi_G p l e R s m args below meth c Q V nL cells slots (pc) (L) (.int y :: .int x :: st) (n) (h) := by subst hq; exact fun ls H locs hl hh hs => lv_icmp_lt C.1 C.2.1 hd ht (fun q => kt q ls H locs hl hh hs) (fun q => kf q ls H locs hl hh hs)
theorem gi_icmp_ge {x y : Int32} {off : Int} {tgt q : Nat} (C : gi_C p s m args meth c cc nL own V) (hd : decode cc pc = .ok (.if_icmp .ge off, 3)) (hq : pc + 3 = q) (ht : (pc : Int) + off = (tgt : Int)) (kt : y ≤ x → gi_G p l e R s m args below meth c Q V nL cells slots (tgt) (L) (st) (n) (h)) (kf : ¬ (y ≤ x) → gi_G p l e R s m args below meth c Q V nL cells slots (q) (L) (st) (n) (h)) : gi_G p l e R s m args below meth c Q V nL cells slots (pc) (L) (.int y :: .int x :: st) (n) (h) := by subst hq; exact fun ls H locs hl hh hs => lv_icmp_ge C.1 C.2.1 hd ht (fun q => kt q ls H locs hl hh hs) (fun q => kf q ls H locs hl hh hs)
theorem gi_icmp_gt {x y : Int32} {off : Int} {tgt q : Nat} (C : gi_C p s m args meth c cc nL own V) (hd : decode cc pc = .ok (.if_icmp .gt off, 3)) (hq : pc + 3 = q) (ht : (pc : Int) + off = (tgt : Int)) (kt : y < x → gi_G p l e R s m args below meth c Q V nL cells slots (tgt) (L) (st) (n) (h)) (kf : ¬ (y < x) → gi_G p l e R s m args below meth c Q V nL cells slots (q) (L) (st) (n) (h)) : gi_G p l e R s m args below meth c Q V nL cells slots (pc) (L) (.int y :: .int x :: st) (n) (h) := by subst hq; exact fun ls H locs hl hh hs => lv_icmp_gt C.1 C.2.1 hd ht (fun q => kt q ls H locs hl hh hs) (fun q => kf q ls H locs hl hh hs)
theorem gi_icmp_le {x y : Int32} {off : Int} {tgt q : Nat} (C : gi_C p s m args meth c cc nL own V) (hd : decode cc pc = .ok (.if_icmp .le off, 3)) (hq : pc + 3 = q) (ht : (pc : Int) + off = (tgt : Int)) (kt : x ≤ y → gi_G p l e R s m args below meth c Q V nL cells slots (tgt) (L) (st) (n) (h)) (kf : ¬ (x ≤ y) → gi_G p l e R s m args below meth c Q V nL cells slots (q) (L) (st) (n) (h)) : gi_G p l e R s m args below meth c Q V nL cells slots (pc) (L) (.int y :: .int x :: st) (n) (h) := by subst hq; exact fun ls H locs hl hh hs => lv_icmp_le C.1 C.2.1 hd ht (fun q => kt q ls H locs hl hh hs) (fun q => kf q ls H locs hl hh hs)
theorem gi_goto {off : Int} {tgt : Nat} (C : gi_C p s m args meth c cc nL own V) (hd : decode cc pc = .ok (.goto off, 3)) (ht : (pc : Int) + off = (tgt : Int)) (k : gi_G p l e R s m args below meth c Q V nL cells slots (tgt) (L) (st) (n) (h)) : gi_G p l e R s m args below meth c Q V nL cells slots (pc) (L) (st) (n) (h) := fun ls H locs hl hh hs => lv_goto C.1 C.2.1 hd ht (k ls H locs hl hh hs)
theorem gi_iushr {x y : Int32} {q : Nat} (C : gi_C p s m args meth c cc nL own V) (hd : decode cc pc = .ok (.iushr, 1)) (hq : pc + 1 = q)  (k : gi_G p l e R s m args below meth c Q V nL cells slots (q) (L) (.int ((x.toUInt32 >>> (y.toUInt32 &&& Int32.toUInt32 31)).toInt32) :: st) (n) (h)) : gi_G p l e R s m args below meth c Q V nL cells slots (pc) (L) (.int y :: .int x :: st) (n) (h) := by subst hq; exact fun ls H locs hl hh hs => lv_iushr C.1 C.2.1 hd rfl (k ls H locs hl hh hs)
theorem gi_lushr {x : Int64} {y : Int32} {q : Nat} (C : gi_C p s m args meth c cc nL own V) (hd : decode cc pc = .ok (.lushr, 1)) (hq : pc + 1 = q)  (k : gi_G p l e R s m args below meth c Q V nL cells slots (q) (L) (.long ((x.toUInt64 >>> (y.toInt64.toUInt64 &&& Int64.toUInt64 63)).toInt64) :: st) (n) (h)) : gi_G p l e R s m args below meth c Q V nL cells slots (pc) (L) (.int y :: .long x :: st) (n) (h) := by subst hq; exact fun ls H locs hl hh hs => lv_lushr C.1 C.2.1 hd rfl (k ls H locs hl hh hs)
theorem gi_lshl {x : Int64} {y : Int32} {q : Nat} (C : gi_C p s m args meth c cc nL own V) (hd : decode cc pc = .ok (.lshl, 1)) (hq : pc + 1 = q)  (k : gi_G p l e R s m args below meth c Q V nL cells slots (q) (L) (.long (x <<< (y.toInt64 &&& 63)) :: st) (n) (h)) : gi_G p l e R s m args below meth c Q V nL cells slots (pc) (L) (.int y :: .long x :: st) (n) (h) := by subst hq; exact fun ls H locs hl hh hs => lv_lshl C.1 C.2.1 hd rfl (k ls H locs hl hh hs)
theorem gi_lshr {x : Int64} {y : Int32} {q : Nat} (C : gi_C p s m args meth c cc nL own V) (hd : decode cc pc = .ok (.lshr, 1)) (hq : pc + 1 = q)  (k : gi_G p l e R s m args below meth c Q V nL cells slots (q) (L) (.long (x >>> (y.toInt64 &&& 63)) :: st) (n) (h)) : gi_G p l e R s m args below meth c Q V nL cells slots (pc) (L) (.int y :: .long x :: st) (n) (h) := by subst hq; exact fun ls H locs hl hh hs => lv_lshr C.1 C.2.1 hd rfl (k ls H locs hl hh hs)
theorem gi_dup {va : Value} {q : Nat} (C : gi_C p s m args meth c cc nL own V) (hd : decode cc pc = .ok (.dup, 1)) (hq : pc + 1 = q) (h1 : va.category = 1) (k : gi_G p l e R s m args below meth c Q V nL cells slots (q) (L) (va :: va :: st) (n) (h)) : gi_G p l e R s m args below meth c Q V nL cells slots (pc) (L) (va :: st) (n) (h) := by subst hq; exact fun ls H locs hl hh hs => lv_dup C.1 C.2.1 hd h1 (k ls H locs hl hh hs)
theorem gi_pop {va : Value} {q : Nat} (C : gi_C p s m args meth c cc nL own V) (hd : decode cc pc = .ok (.pop, 1)) (hq : pc + 1 = q) (h1 : va.category = 1) (k : gi_G p l e R s m args below meth c Q V nL cells slots (q) (L) (st) (n) (h)) : gi_G p l e R s m args below meth c Q V nL cells slots (pc) (L) (va :: st) (n) (h) := by subst hq; exact fun ls H locs hl hh hs => lv_pop C.1 C.2.1 hd h1 (k ls H locs hl hh hs)
theorem gi_dup_x1 {va vb : Value} {q : Nat} (C : gi_C p s m args meth c cc nL own V) (hd : decode cc pc = .ok (.dup_x1, 1)) (hq : pc + 1 = q) (h1 : va.category = 1) (h2 : vb.category = 1) (k : gi_G p l e R s m args below meth c Q V nL cells slots (q) (L) (va :: vb :: va :: st) (n) (h)) : gi_G p l e R s m args below meth c Q V nL cells slots (pc) (L) (va :: vb :: st) (n) (h) := by subst hq; exact fun ls H locs hl hh hs => lv_dup_x1 C.1 C.2.1 hd h1 h2 (k ls H locs hl hh hs)
theorem gi_dup_x2 {va vb vd : Value} {q : Nat} (C : gi_C p s m args meth c cc nL own V) (hd : decode cc pc = .ok (.dup_x2, 1)) (hq : pc + 1 = q) (h1 : va.category = 1) (h2 : vb.category = 1) (h3 : vd.category = 1) (k : gi_G p l e R s m args below meth c Q V nL cells slots (q) (L) (va :: vb :: vd :: va :: st) (n) (h)) : gi_G p l e R s m args below meth c Q V nL cells slots (pc) (L) (va :: vb :: vd :: st) (n) (h) := by subst hq; exact fun ls H locs hl hh hs => lv_dup_x2 C.1 C.2.1 hd h1 h2 h3 (k ls H locs hl hh hs)
theorem gi_dup2_11 {va vb : Value} {q : Nat} (C : gi_C p s m args meth c cc nL own V) (hd : decode cc pc = .ok (.dup2, 1)) (hq : pc + 1 = q) (h1 : va.category = 1) (h2 : vb.category = 1) (k : gi_G p l e R s m args below meth c Q V nL cells slots (q) (L) (va :: vb :: va :: vb :: st) (n) (h)) : gi_G p l e R s m args below meth c Q V nL cells slots (pc) (L) (va :: vb :: st) (n) (h) := by subst hq; exact fun ls H locs hl hh hs => lv_dup2_11 C.1 C.2.1 hd h1 h2 (k ls H locs hl hh hs)
theorem gi_dup2_2 {va : Value} {q : Nat} (C : gi_C p s m args meth c cc nL own V) (hd : decode cc pc = .ok (.dup2, 1)) (hq : pc + 1 = q) (h1 : va.category = 2) (k : gi_G p l e R s m args below meth c Q V nL cells slots (q) (L) (va :: va :: st) (n) (h)) : gi_G p l e R s m args below meth c Q V nL cells slots (pc) (L) (va :: st) (n) (h) := by subst hq; exact fun ls H locs hl hh hs => lv_dup2_2 C.1 C.2.1 hd h1 (k ls H locs hl hh hs)
theorem gi_pop2_2 {va : Value} {q : Nat} (C : gi_C p s m args meth c cc nL own V) (hd : decode cc pc = .ok (.pop2, 1)) (hq : pc + 1 = q) (h1 : va.category = 2) (k : gi_G p l e R s m args below meth c Q V nL cells slots (q) (L) (st) (n) (h)) : gi_G p l e R s m args below meth c Q V nL cells slots (pc) (L) (va :: st) (n) (h) := by subst hq; exact fun ls H locs hl hh hs => lv_pop2_2 C.1 C.2.1 hd h1 (k ls H locs hl hh hs)
theorem gi_dup2_x1_2 {va vb : Value} {q : Nat} (C : gi_C p s m args meth c cc nL own V) (hd : decode cc pc = .ok (.dup2_x1, 1)) (hq : pc + 1 = q) (h1 : va.category = 2) (h2 : vb.category = 1) (k : gi_G p l e R s m args below meth c Q V nL cells slots (q) (L) (va :: vb :: va :: st) (n) (h)) : gi_G p l e R s m args below meth c Q V nL cells slots (pc) (L) (va :: vb :: st) (n) (h) := by subst hq; exact fun ls H locs hl hh hs => lv_dup2_x1_2 C.1 C.2.1 hd h1 h2 (k ls H locs hl hh hs)
theorem gi_dup2_x2_2 {va vb vd : Value} {q : Nat} (C : gi_C p s m args meth c cc nL own V) (hd : decode cc pc = .ok (.dup2_x2, 1)) (hq : pc + 1 = q) (h1 : va.category = 2) (h2 : vb.category = 1) (h3 : vd.category = 1) (k : gi_G p l e R s m args below meth c Q V nL cells slots (q) (L) (va :: vb :: vd :: va :: st) (n) (h)) : gi_G p l e R s m args below meth c Q V nL cells slots (pc) (L) (va :: vb :: vd :: st) (n) (h) := by subst hq; exact fun ls H locs hl hh hs => lv_dup2_x2_2 C.1 C.2.1 hd h1 h2 h3 (k ls H locs hl hh hs)
theorem gi_ifnonnull {x : Nat} {off : Int} {tgt : Nat} (C : gi_C p s m args meth c cc nL own V) (hd : decode cc pc = .ok (.ifnonnull off, 3)) (ht : (pc : Int) + off = (tgt : Int)) (k : gi_G p l e R s m args below meth c Q V nL cells slots (tgt) (L) (st) (n) (h)) : gi_G p l e R s m args below meth c Q V nL cells slots (pc) (L) (.ref x :: st) (n) (h) := fun ls H locs hl hh hs => lv_ifnonnull C.1 C.2.1 hd ht (k ls H locs hl hh hs)
theorem gi_ifnull {x : Nat} {off : Int} {q : Nat} (C : gi_C p s m args meth c cc nL own V) (hd : decode cc pc = .ok (.ifnull off, 3)) (hq : pc + 3 = q) (k : gi_G p l e R s m args below meth c Q V nL cells slots (q) (L) (st) (n) (h)) : gi_G p l e R s m args below meth c Q V nL cells slots (pc) (L) (.ref x :: st) (n) (h) := by subst hq; exact fun ls H locs hl hh hs => lv_ifnull C.1 C.2.1 hd (k ls H locs hl hh hs)
theorem gi_ifnullN {off : Int} {tgt : Nat} (C : gi_C p s m args meth c cc nL own V) (hd : decode cc pc = .ok (.ifnull off, 3)) (ht : (pc : Int) + off = (tgt : Int)) (k : gi_G p l e R s m args below meth c Q V nL cells slots (tgt) (L) (st) (n) (h)) : gi_G p l e R s m args below meth c Q V nL cells slots (pc) (L) (.null :: st) (n) (h) := fun ls H locs hl hh hs => lv_ifnullN C.1 C.2.1 hd ht (k ls H locs hl hh hs)
theorem gi_ifnonnullN {off : Int} {q : Nat} (C : gi_C p s m args meth c cc nL own V) (hd : decode cc pc = .ok (.ifnonnull off, 3)) (hq : pc + 3 = q) (k : gi_G p l e R s m args below meth c Q V nL cells slots (q) (L) (st) (n) (h)) : gi_G p l e R s m args below meth c Q V nL cells slots (pc) (L) (.null :: st) (n) (h) := by subst hq; exact fun ls H locs hl hh hs => lv_ifnonnullN C.1 C.2.1 hd (k ls H locs hl hh hs)
theorem gi_ldc {idx q : Nat} {v : Int32} (C : gi_C p s m args meth c cc nL own V) (hd : decode cc pc = .ok (.ldc idx, 2)) (hq : pc + 2 = q) (hw : Cond.constant own idx v ∈ gi_tb) (k : gi_G p l e R s m args below meth c Q V nL cells slots (q) (L) (.int v :: st) (n) (h)) : gi_G p l e R s m args below meth c Q V nL cells slots (pc) (L) (st) (n) (h) := by subst hq; exact fun ls H locs hl hh hs => lv_ldc C.1 C.2.1 C.2.2.2.1 (C.2.2.2.2.1 _ hw) hd (k ls H locs hl hh hs)
theorem gi_ldc2 {idx q : Nat} {v : Int64} (C : gi_C p s m args meth c cc nL own V) (hd : decode cc pc = .ok (.ldc2_w idx, 3)) (hq : pc + 3 = q) (hw : Cond.constantLong own idx v ∈ gi_tb) (k : gi_G p l e R s m args below meth c Q V nL cells slots (q) (L) (.long v :: st) (n) (h)) : gi_G p l e R s m args below meth c Q V nL cells slots (pc) (L) (st) (n) (h) := by subst hq; exact fun ls H locs hl hh hs => lv_ldc2 C.1 C.2.1 C.2.2.2.1 (C.2.2.2.2.1 _ hw) hd (k ls H locs hl hh hs)
theorem gi_lookup {dflt : Int} {ps : Array (Int × Int)} {len : Nat} {x : Int32} {off : Int} {tgt : Nat} (C : gi_C p s m args meth c cc nL own V) (hd : decode cc pc = .ok (.lookupswitch dflt ps, len)) (hp : (ps.toList.zip (ps.toList.drop 1)).all (fun (a, next) => a.1 < next.1) = true) (ho : Op.lookupswitch.offset ps.toList dflt x.toInt = off) (ht : (pc : Int) + off = (tgt : Int)) (k : gi_G p l e R s m args below meth c Q V nL cells slots (tgt) (L) (st) (n) (h)) : gi_G p l e R s m args below meth c Q V nL cells slots (pc) (L) (.int x :: st) (n) (h) := fun ls H locs hl hh hs => lv_lookup C.1 C.2.1 hd hp ho ht (k ls H locs hl hh hs)
theorem gi_tableOut {dflt lo hi : Int} {offs : Array Int} {len : Nat} {x : Int32} {tgt : Nat} (C : gi_C p s m args meth c cc nL own V) (hd : decode cc pc = .ok (.tableswitch dflt lo hi offs, len)) (h1 : x.toInt < lo ∨ hi < x.toInt) (ht : (pc : Int) + dflt = (tgt : Int)) (k : gi_G p l e R s m args below meth c Q V nL cells slots (tgt) (L) (st) (n) (h)) : gi_G p l e R s m args below meth c Q V nL cells slots (pc) (L) (.int x :: st) (n) (h) := fun ls H locs hl hh hs => lv_tableOut C.1 C.2.1 hd h1 ht (k ls H locs hl hh hs)
theorem gi_tableIn {dflt lo hi : Int} {offs : Array Int} {len : Nat} {x : Int32} {off : Int} {tgt : Nat} (C : gi_C p s m args meth c cc nL own V) (hd : decode cc pc = .ok (.tableswitch dflt lo hi offs, len)) (h1 : ¬ x.toInt < lo) (h2 : ¬ hi < x.toInt) (ho : offs[(x.toInt - lo).toNat]? = some off) (ht : (pc : Int) + off = (tgt : Int)) (k : gi_G p l e R s m args below meth c Q V nL cells slots (tgt) (L) (st) (n) (h)) : gi_G p l e R s m args below meth c Q V nL cells slots (pc) (L) (.int x :: st) (n) (h) := fun ls H locs hl hh hs => lv_tableIn C.1 C.2.1 hd h1 h2 ho ht (k ls H locs hl hh hs)
end GI1

section GI2
variable {p : Program} {l : Launch} {e : Env} {R : Room} {s : State} {m : MethodId} {args : Array Value} {below : List Frame} {meth : Method} {c : Code} {Q : State → Prop} {cc : ByteArray} {nL : Nat} {own : String} {V : gi_V} {cells slots pc n : Nat} {L : List (Nat × Value)} {st : List Value} {h : gi_H}
theorem gi_C.ts (C : gi_C p s m args meth c cc nL own V) : ∀ w ∈ gi_tb, w.before args s = true := C.2.2.2.2.1
theorem gi_C.K (C : gi_C p s m args meth c cc nL own V) : gi_K V s := C.2.2.2.2.2.1
theorem gi_C.ow (C : gi_C p s m args meth c cc nL own V) : s.vm.findClass own = some m.cls := C.2.2.2.1
theorem gi_C.locks (C : gi_C p s m args meth c cc nL own V) : meth.locks = false := C.2.2.2.2.2.2.1
theorem gi_C.base (C : gi_C p s m args meth c cc nL own V) : V.2.2 ≤ s.heap.size := C.2.2.2.2.2.2.2
theorem gi_at {H : Heap} (hh : gi_hp V n h H) {a : Nat} {x : gi_E} (ha : h a = some x) : va_P V.1 vwCl [(a, gi_tr V.2.1 x)] H := fun k q hk => by
  cases k with
  | zero => cases hk; exact (hh.2.2 a x ha).2
  | succ k => simp at hk
theorem gi_tys_at {cA : Nat → ClassId} {k : Nat} {ty : FieldType} (hk : gi_kinds[k]? = some ty) : (gi_tys cA)[k]? = some (cA k, ty) := by
  have hlt := (List.getElem?_eq_some_iff.mp hk).1
  simp only [gi_tys, List.getElem?_map, List.getElem?_range hlt, Option.map_some]
  rw [List.getD_eq_getElem?_getD, hk]
  rfl
/-- what the tables say of a field: own's pool row idx is field k of class ci -/
def gi_fl (own : String) (idx ci k : Nat) : Prop := ∃ (Cn : String) (T : u_T) (N : Nat), vwCl[ci]? = some (Cn, T, N) ∧ k < N ∧ (∀ w ∈ u_ws Cn T N, w ∈ gi_tb) ∧ (Cond.fieldLink own idx (T k).1 (T k).2.1 (T k).2.2.1 ∈ gi_tb ∨ ∃ host : String, Cond.fieldLinkNest own idx (T k).1 (T k).2.1 (T k).2.2.1 host ∈ gi_nw)
theorem gi_get {ci k a idx q : Nat} {fs : List Value} {v : Value} (C : gi_C p s m args meth c cc nL own V) (hd : decode cc pc = .ok (.getfield idx, 3)) (hq : pc + 3 = q) (hf : gi_fl own idx ci k) (ha : h a = some (gi_O ci fs)) (hv : fs[k]? = some v) (kk : gi_G p l e R s m args below meth c Q V nL cells slots q L (v :: st) n h) : gi_G p l e R s m args below meth c Q V nL cells slots pc L (.ref a :: st) n h := by
  subst hq
  intro ls H locs hl hh hs
  obtain ⟨Cn, T, N, hc, hk, hin, hlk⟩ := hf
  rcases hlk with hlk | ⟨host, hlk⟩
  · exact va_get C.1 C.2.1 C.ts hin C.ow C.K.1 (gi_at hh ha) 0 rfl hc k hk (C.ts _ hlk) (fun _ h9 => h9) hv hd (kk ls H locs hl hh hs)
  · exact va_getN C.1 C.2.1 C.ts hin C.ow C.K.1 (gi_at hh ha) 0 rfl hc k hk (va_Nw.use rfl (C.K.2.1 _ hlk)) (fun _ h9 => h9) hv hd (kk ls H locs hl hh hs)
/-- .. and of a class's fields, for a store -/
def gi_fp (ci k : Nat) (fin : Bool) (ty : FieldType) : Prop := ∃ (Cn : String) (T : u_T) (N : Nat) (ty0 : Nat → FieldType), vwCl[ci]? = some (Cn, T, N) ∧ k < N ∧ (∀ k, k < N → parseFieldDescriptor (T k).2.2.1 = some (ty0 k)) ∧ (∀ a, a < N → ∀ b, b < N → a ≠ b → (T a).2.1 ≠ (T b).2.1) ∧ (T k).2.2.2 = fin ∧ ty0 k = ty ∧ (fin = true → (T k).1 = Cn)
theorem gi_put {ci k a idx q : Nat} {fs : List Value} {v : Value} {ty : FieldType} (C : gi_C p s m args meth c cc nL own V) (hd : decode cc pc = .ok (.putfield idx, 3)) (hq : pc + 3 = q) (hf : gi_fl own idx ci k) (hp : gi_fp ci k false ty) (ha : h a = some (gi_O ci fs)) (hl2 : k < fs.length) (hn : narrow ty v = v) (hfit : fits ty v = true) (kk : gi_G p l e R s m args below meth c Q V nL cells slots q L st n (gi_up h a (gi_O ci (fs.set k v)))) : gi_G p l e R s m args below meth c Q V nL cells slots pc L (v :: .ref a :: st) n h := by
  subst hq
  intro ls H locs hl hh hs
  obtain ⟨Cn, T, N, hc, hk, hin, hlk⟩ := hf
  obtain ⟨Cn', T', N', ty0, hc', -, hty, hnm, hfin, hty2, -⟩ := hp
  cases hc.symm.trans hc'
  have hA := hh.2.2 a _ ha
  have hap := va_apart (own := own) C.ts hin ty0 hty hnm C.K.1 hc
  obtain ⟨r, h1, cell, q1, q2, q3, q4⟩ := hA.2
  have hr : r = (Cn, T, N) := Option.some.inj (h1.symm.trans hc)
  subst hr
  obtain ⟨hS, hfc, kC, hkC, hkind⟩ := C.K.1.1 ci _ hc
  obtain ⟨cf, kf, fi, f, hi, hsl⟩ := hS k hk
  have hlay := C.ts _ (hin _ (u_in_lay hk))
  unfold u_lay at hlay
  rw [if_neg (by rw [hfin]; decide)] at hlay
  have hst := (u_facts hfc hkC (u_lays C.ts hin hk) hi).1
  have h6 := u_store hfc hkC hkind hlay hi (by rw [← hty2]; exact hty k hk) hn hfit
  have fin : ∀ H1 : Heap, H1[a]? = some (cell.setSlot f.slot v) → H1.size = H.size → (∀ q, q ≠ a → H1[q]? = H[q]?) → W p l e R s m args below meth c H1 (locs ++ [⟨a, f.slot⟩]) cells slots Q (F0 m (pc + 3) ls st) := by
    intro H1 e1 e2 e3
    refine kk ls H1 _ hl (hh.set ha e2 ?_ e3) (hs.put e2 e3 hA.1)
    rw [hsl] at e1
    exact ⟨_, hc, t_OB.to (V := updV (vp_V fs) k v) ⟨_, e1, q2, q3, t_set q4 hap hk v⟩ (fun j _ => vp_updV_set hl2 v j)⟩
  rcases hlk with hlk | ⟨host, hlk⟩
  · exact W.putK C.1 C.2.1 (f := f) ⟨C.ow, C.ts _ hlk, ⟨_, _, _, hi⟩, hst⟩ (by rw [q2]; exact h6) q1 q3 (by rw [hsl]; exact k2_hasslot (q4 k hk)) rfl rfl hd fin
  · exact va_WputK C.1 C.2.1 (f := f) C.ow (va_Nw.use rfl (C.K.2.1 _ hlk)) hi hst (by rw [q2]; exact h6) q1 q3 (by rw [hsl]; exact k2_hasslot (q4 k hk)) rfl rfl hd fin
/-- a final field: by its own class's link -/
def gi_fF (own : String) (idx ci k : Nat) : Prop := ∃ (Cn : String) (T : u_T) (N : Nat), vwCl[ci]? = some (Cn, T, N) ∧ k < N ∧ (∀ w ∈ u_ws Cn T N, w ∈ gi_tb) ∧ Cond.fieldLink own idx (T k).1 (T k).2.1 (T k).2.2.1 ∈ gi_tb
/-- a final field, in its class's constructor -/
theorem gi_putF {ci k a idx q : Nat} {fs : List Value} {v : Value} {ty : FieldType} (C : gi_C p s m args meth c cc nL own V) (hin2 : meth.name = "<init>") (hd : decode cc pc = .ok (.putfield idx, 3)) (hq : pc + 3 = q) (hf : gi_fF own idx ci k) (hp : gi_fp ci k true ty) (hcl : (vwCl[ci]?).map (fun q => q.1) = some own) (ha : h a = some (gi_O ci fs)) (hl2 : k < fs.length) (hn : narrow ty v = v) (hfit : fits ty v = true) (kk : gi_G p l e R s m args below meth c Q V nL cells slots q L st n (gi_up h a (gi_O ci (fs.set k v)))) : gi_G p l e R s m args below meth c Q V nL cells slots pc L (v :: .ref a :: st) n h := by
  subst hq
  intro ls H locs hl hh hs
  obtain ⟨Cn, T, N, hc, hk, hin, hlk⟩ := hf
  obtain ⟨Cn', T', N', ty0, hc', -, hty, hnm, hfin, hty2, hdecl⟩ := hp
  cases hc.symm.trans hc'
  rw [hc] at hcl
  have hCo : Cn = own := Option.some.inj hcl
  have hA := hh.2.2 a _ ha
  have hap := va_apart (own := own) C.ts hin ty0 hty hnm C.K.1 hc
  obtain ⟨r, h1, cell, q1, q2, q3, q4⟩ := hA.2
  have hr : r = (Cn, T, N) := Option.some.inj (h1.symm.trans hc)
  subst hr
  obtain ⟨hS, hfc, kC, hkC, hkind⟩ := C.K.1.1 ci _ hc
  obtain ⟨cf, kf, fi, f, hi, hsl⟩ := hS k hk
  have hlay := C.ts _ (hin _ (u_in_lay hk))
  unfold u_lay at hlay
  rw [if_pos hfin] at hlay
  have hst := (u_facts hfc hkC (Or.inr hlay) hi).1
  have h6 := u_fits hfc hkC hkind (Or.inr hlay) hi (by rw [← hty2]; exact hty k hk) hn hfit
  have hcf : m.cls = cf := by
    obtain ⟨_, _, c', _, _, _, -, -, hf', -, -, -, hown2, -⟩ := Cond.laysFinal_spec hlay
    have e1 : c' = cf := by have := hi.symm.trans hf'; simp at this; exact this.1.symm
    rw [hdecl rfl, hCo] at hown2
    rw [← e1]; exact Option.some.inj (C.ow.symm.trans hown2)
  have fin : ∀ H1 : Heap, H1[a]? = some (cell.setSlot f.slot v) → H1.size = H.size → (∀ q, q ≠ a → H1[q]? = H[q]?) → W p l e R s m args below meth c H1 (locs ++ [⟨a, f.slot⟩]) cells slots Q (F0 m (pc + 3) ls st) := by
    intro H1 e1 e2 e3
    refine kk ls H1 _ hl (hh.set ha e2 ?_ e3) (hs.put e2 e3 hA.1)
    rw [hsl] at e1
    exact ⟨_, hc, t_OB.to (V := updV (vp_V fs) k v) ⟨_, e1, q2, q3, t_set q4 hap hk v⟩ (fun j _ => vp_updV_set hl2 v j)⟩
  exact W.putFinK C.1 C.2.1 C.ow (C.ts _ hlk) hi hst hcf hin2 (by rw [q2]; exact h6) q1 q3 (by rw [hsl]; exact k2_hasslot (q4 k hk)) rfl rfl hd fin
theorem gi_iald {kd a n0 q : Nat} {f : Nat → Int32} {i : Int32} (C : gi_C p s m args meth c cc nL own V) (hd : decode cc pc = .ok (.iaload, 1)) (hq : pc + 1 = q) (ht : gi_kinds[kd]? = some .int) (ha : h a = some (gi_I kd n0 f)) (hin : vp_in i n0) (k : gi_G p l e R s m args below meth c Q V nL cells slots q (L) (.int (f i.toNatClampNeg) :: st) (n) (h)) : gi_G p l e R s m args below meth c Q V nL cells slots pc (L) (.int i :: .ref a :: st) (n) (h) := by subst hq; exact fun ls H locs hl hh hs => va_iald C.1 C.2.1 C.K.1 (gi_at hh ha) 0 kd rfl (gi_tys_at ht) hin hd (k ls H locs hl hh hs)
theorem gi_zald {kd a n0 q : Nat} {f : Nat → Int32} {i : Int32} (C : gi_C p s m args meth c cc nL own V) (hd : decode cc pc = .ok (.baload, 1)) (hq : pc + 1 = q) (ht : gi_kinds[kd]? = some .boolean) (ha : h a = some (gi_I kd n0 f)) (hin : vp_in i n0) (k : gi_G p l e R s m args below meth c Q V nL cells slots q (L) (.int (f i.toNatClampNeg) :: st) (n) (h)) : gi_G p l e R s m args below meth c Q V nL cells slots pc (L) (.int i :: .ref a :: st) (n) (h) := by subst hq; exact fun ls H locs hl hh hs => va_zald C.1 C.2.1 C.K.1 (gi_at hh ha) 0 kd rfl (gi_tys_at ht) hin hd (k ls H locs hl hh hs)
theorem gi_bald {kd a n0 q : Nat} {f : Nat → Int32} {i : Int32} (C : gi_C p s m args meth c cc nL own V) (hd : decode cc pc = .ok (.baload, 1)) (hq : pc + 1 = q) (ht : gi_kinds[kd]? = some .byte) (ha : h a = some (gi_I kd n0 f)) (hin : vp_in i n0) (k : gi_G p l e R s m args below meth c Q V nL cells slots q (L) (.int (f i.toNatClampNeg) :: st) (n) (h)) : gi_G p l e R s m args below meth c Q V nL cells slots pc (L) (.int i :: .ref a :: st) (n) (h) := by subst hq; exact fun ls H locs hl hh hs => va_bald C.1 C.2.1 C.K.1 (gi_at hh ha) 0 kd rfl (gi_tys_at ht) hin hd (k ls H locs hl hh hs)
theorem gi_lald {kd a n0 q : Nat} {f : Nat → Int64} {i : Int32} (C : gi_C p s m args meth c cc nL own V) (hd : decode cc pc = .ok (.laload, 1)) (hq : pc + 1 = q) (ht : gi_kinds[kd]? = some .long) (ha : h a = some (gi_J kd n0 f)) (hin : vp_in i n0) (k : gi_G p l e R s m args below meth c Q V nL cells slots q (L) (.long (f i.toNatClampNeg) :: st) (n) (h)) : gi_G p l e R s m args below meth c Q V nL cells slots pc (L) (.int i :: .ref a :: st) (n) (h) := by subst hq; exact fun ls H locs hl hh hs => va_lald C.1 C.2.1 C.K.1 (gi_at hh ha) 0 kd rfl (gi_tys_at ht) hin hd (k ls H locs hl hh hs)
theorem gi_aald {kd a n0 q : Nat} {Cn : String} {f : Nat → Option Nat} {i : Int32} {v : Value} (C : gi_C p s m args meth c cc nL own V) (hd : decode cc pc = .ok (.aaload, 1)) (hq : pc + 1 = q) (ht : gi_kinds[kd]? = some (.object Cn)) (ha : h a = some (gi_R kd n0 f)) (hin : vp_in i n0) (hv : va_rf (f i.toNatClampNeg) = v) (k : gi_G p l e R s m args below meth c Q V nL cells slots q (L) (v :: st) (n) (h)) : gi_G p l e R s m args below meth c Q V nL cells slots pc (L) (.int i :: .ref a :: st) (n) (h) := by subst hq; exact fun ls H locs hl hh hs => va_aldq C.1 C.2.1 C.K.1 (gi_at hh ha) 0 kd rfl (gi_tys_at ht) hin hd (hv ▸ k ls H locs hl hh hs)
theorem gi_alen {kd a q : Nat} {ty : FieldType} {x : vp_A} {v : Int32} (C : gi_C p s m args meth c cc nL own V) (hd : decode cc pc = .ok (.arraylength, 1)) (hq : pc + 1 = q) (ht : gi_kinds[kd]? = some ty) (ha : h a = some (.inl (kd, x))) (hv : Int32.ofNat x.1 = v) (k : gi_G p l e R s m args below meth c Q V nL cells slots q (L) (.int v :: st) (n) (h)) : gi_G p l e R s m args below meth c Q V nL cells slots pc (L) (.ref a :: st) (n) (h) := by subst hq; exact fun ls H locs hl hh hs => va_alen C.1 C.2.1 C.K.1 (gi_at hh ha) 0 kd rfl (gi_tys_at ht) hv hd (k ls H locs hl hh hs)
theorem gi_iast {kd a n0 q : Nat} {f : Nat → Int32} {i : Int32} {x : Int32} (C : gi_C p s m args meth c cc nL own V) (hd : decode cc pc = .ok (.iastore, 1)) (hq : pc + 1 = q) (ht : gi_kinds[kd]? = some .int) (ha : h a = some (gi_I kd n0 f)) (hin : vp_in i n0) (k : gi_G p l e R s m args below meth c Q V nL cells slots q (L) (st) (n) (gi_up h a (gi_I kd n0 (upd f i.toNatClampNeg x)))) : gi_G p l e R s m args below meth c Q V nL cells slots pc (L) (.int x :: .int i :: .ref a :: st) (n) (h) := by
  subst hq
  intro ls H locs hl hh hs
  have hA := hh.2.2 a _ ha
  refine W.iast C.1 C.2.1 hA.2 ((C.K.1.2 kd _ (gi_tys_at ht)).1 n0 (fun j => .int (f j))) (fun q => by cases q) (by show ¬ (i < 0 ∨ (arrV _ _ _).slots.size ≤ _); rw [arrV_size]; exact hin) rfl rfl hd fun H1 e1 z oq => ?_
  refine k ls H1 _ hl (hh.set ha z ?_ oq) (hs.put z oq hA.1)
  show H1[a]? = some (vp_cell _ _)
  rw [e1]
  rw [vp_cell_i, vp_cell_i, arrV_store]
  congr 2
  funext q
  by_cases hq : q = i.toNatClampNeg
  · subst hq
    simp [updV, upd]
    try rfl
  · simp [updV, upd, hq]
theorem gi_zast {kd a n0 q : Nat} {f : Nat → Int32} {i : Int32} {x : Int32} (C : gi_C p s m args meth c cc nL own V) (hd : decode cc pc = .ok (.bastore, 1)) (hq : pc + 1 = q) (ht : gi_kinds[kd]? = some .boolean) (ha : h a = some (gi_I kd n0 f)) (hin : vp_in i n0) (k : gi_G p l e R s m args below meth c Q V nL cells slots q (L) (st) (n) (gi_up h a (gi_I kd n0 (upd f i.toNatClampNeg (vp_nar .boolean x))))) : gi_G p l e R s m args below meth c Q V nL cells slots pc (L) (.int x :: .int i :: .ref a :: st) (n) (h) := by
  subst hq
  intro ls H locs hl hh hs
  have hA := hh.2.2 a _ ha
  refine W.zast C.1 C.2.1 hA.2 ((C.K.1.2 kd _ (gi_tys_at ht)).1 n0 (fun j => .int (f j))) (fun q => by cases q) (by show ¬ (i < 0 ∨ (arrV _ _ _).slots.size ≤ _); rw [arrV_size]; exact hin) rfl rfl hd fun H1 e1 z oq => ?_
  refine k ls H1 _ hl (hh.set ha z ?_ oq) (hs.put z oq hA.1)
  show H1[a]? = some (vp_cell _ _)
  rw [e1]
  rw [vp_cell_i, vp_cell_i, arrV_store]
  congr 2
  funext q
  by_cases hq : q = i.toNatClampNeg
  · subst hq
    simp [updV, upd, vp_nar]
    try rfl
  · simp [updV, upd, hq]
theorem gi_bast {kd a n0 q : Nat} {f : Nat → Int32} {i : Int32} {x : Int32} (C : gi_C p s m args meth c cc nL own V) (hd : decode cc pc = .ok (.bastore, 1)) (hq : pc + 1 = q) (ht : gi_kinds[kd]? = some .byte) (ha : h a = some (gi_I kd n0 f)) (hin : vp_in i n0) (k : gi_G p l e R s m args below meth c Q V nL cells slots q (L) (st) (n) (gi_up h a (gi_I kd n0 (upd f i.toNatClampNeg (vp_nar .byte x))))) : gi_G p l e R s m args below meth c Q V nL cells slots pc (L) (.int x :: .int i :: .ref a :: st) (n) (h) := by
  subst hq
  intro ls H locs hl hh hs
  have hA := hh.2.2 a _ ha
  refine W.bast C.1 C.2.1 hA.2 ((C.K.1.2 kd _ (gi_tys_at ht)).1 n0 (fun j => .int (f j))) (fun q => by cases q) (by show ¬ (i < 0 ∨ (arrV _ _ _).slots.size ≤ _); rw [arrV_size]; exact hin) rfl rfl hd fun H1 e1 z oq => ?_
  refine k ls H1 _ hl (hh.set ha z ?_ oq) (hs.put z oq hA.1)
  show H1[a]? = some (vp_cell _ _)
  rw [e1]
  rw [vp_cell_i, vp_cell_i, arrV_store]
  congr 2
  funext q
  by_cases hq : q = i.toNatClampNeg
  · subst hq
    simp [updV, upd, vp_nar]
    try rfl
  · simp [updV, upd, hq]
theorem gi_last {kd a n0 q : Nat} {f : Nat → Int64} {i : Int32} {x : Int64} (C : gi_C p s m args meth c cc nL own V) (hd : decode cc pc = .ok (.lastore, 1)) (hq : pc + 1 = q) (ht : gi_kinds[kd]? = some .long) (ha : h a = some (gi_J kd n0 f)) (hin : vp_in i n0) (k : gi_G p l e R s m args below meth c Q V nL cells slots q (L) (st) (n) (gi_up h a (gi_J kd n0 (vp_updL f i.toNatClampNeg x)))) : gi_G p l e R s m args below meth c Q V nL cells slots pc (L) (.long x :: .int i :: .ref a :: st) (n) (h) := by
  subst hq
  intro ls H locs hl hh hs
  have hA := hh.2.2 a _ ha
  refine W.last C.1 C.2.1 hA.2 ((C.K.1.2 kd _ (gi_tys_at ht)).1 n0 (fun j => .long (f j))) (fun q => by cases q) (by show ¬ (i < 0 ∨ (arrV _ _ _).slots.size ≤ _); rw [arrV_size]; exact hin) rfl rfl hd fun H1 e1 z oq => ?_
  refine k ls H1 _ hl (hh.set ha z ?_ oq) (hs.put z oq hA.1)
  show H1[a]? = some (vp_cell _ _)
  rw [e1]
  rw [vp_cell_l, vp_cell_l, arrV_store]
  congr 2
  funext q
  by_cases hq : q = i.toNatClampNeg
  · subst hq
    simp [updV, vp_updL]
    try rfl
  · simp [updV, vp_updL, hq]
theorem gi_aast {kd a n0 v ci q : Nat} {r : vw_C} {vs : List Value} {f : Nat → Option Nat} {i : Int32} (C : gi_C p s m args meth c cc nL own V) (hd : decode cc pc = .ok (.aastore, 1)) (hq : pc + 1 = q) (hc : vwCl[ci]? = some r) (ht : gi_kinds[kd]? = some (.object r.1)) (ha : h a = some (gi_R kd n0 f)) (hv : h v = some (gi_O ci vs)) (hin : vp_in i n0) (k : gi_G p l e R s m args below meth c Q V nL cells slots q (L) (st) (n) (gi_up h a (gi_R kd n0 (va_up f i.toNatClampNeg (some v))))) : gi_G p l e R s m args below meth c Q V nL cells slots pc (L) (.ref v :: .int i :: .ref a :: st) (n) (h) := by
  subst hq
  intro ls H locs hl hh hs
  have hA := hh.2.2 a _ ha
  have hlt : i.toNatClampNeg < n0 := Nat.not_le.mp fun q => hin (Or.inr q)
  have h0 : ¬ i < 0 := fun q => hin (Or.inl q)
  obtain ⟨r', hr', cellV, g1, g2, g3, -⟩ := (hh.2.2 v _ hv).2
  have hcls := (C.K.1.1 ci r hc).2
  obtain ⟨kA, comp, k1, k2, k3, -⟩ := (C.K.1.2 kd _ (gi_tys_at ht)).2
  have hcomp : comp = V.1.1 ci := Option.some.inj (k3.symm.trans hcls.1)
  subst hcomp
  obtain ⟨kC, hkC, -⟩ := hcls.2
  refine W.aast C.1 C.2.1 hA.2 (fun q h => by cases h) (fun h => by cases h) k1 k2 rfl hkC ⟨h0, by show _ < (arrV _ _ _).slots.size; rw [arrV_size]; exact hlt⟩ g1 (fun q h => by rw [g3] at h; cases h) (by rw [g2]; exact hkC) (by rw [g2]; exact va_assign hcls) rfl rfl hd fun H1 e1 z oq => ?_
  refine k ls H1 _ hl (hh.set ha z ?_ oq) (hs.put z oq hA.1)
  show H1[a]? = some (vp_cell _ _)
  rw [e1]
  rw [vp_cell_q, vp_cell_q, arrV_store]
  congr 2
  funext q
  by_cases hq : q = i.toNatClampNeg
  · subst hq
    simp [updV, va_up, va_rf]
  · simp [updV, va_up, hq]
/-- what the tables say of a class that is made: own's pool row idx is class ci, of N fields, that begin as fs says -/
def gi_nc (own : String) (idx ci N : Nat) (fs : List Value) : Prop := ∃ (Cn : String) (T : u_T) (ty0 : Nat → FieldType), vwCl[ci]? = some (Cn, T, N) ∧ (∀ w ∈ u_ws Cn T N, w ∈ gi_tb) ∧ (∀ k, k < N → parseFieldDescriptor (T k).2.2.1 = some (ty0 k)) ∧ Cond.classLink own idx Cn ∈ gi_tb ∧ Cond.instantiable Cn N ∈ gi_tb ∧ Cond.initialized Cn ∈ gi_tb ∧ ∀ j, j < N → defaultValue (ty0 j) = vp_V fs j
theorem gi_new {ci idx N q : Nat} {fs : List Value} (C : gi_C p s m args meth c cc nL own V) (hd : decode cc pc = .ok (.new idx, 3)) (hq : pc + 3 = q) (hf : gi_nc own idx ci N fs) (hcells : cells + 1 ≤ R.cells) (hslots : slots + N ≤ R.slots) (k : gi_G p l e R s m args below meth c Q V nL (cells + 1) (slots + N) q (L) (.ref n :: st) (n + 1) (gi_up h n (gi_O ci fs))) : gi_G p l e R s m args below meth c Q V nL cells slots pc (L) (st) (n) (h) := by
  subst hq
  intro ls H locs hl hh hs
  obtain ⟨Cn, T, ty0, hc, hin, hty, hcl, hinst, hini, hfs⟩ := hf
  have hKn := C.K.1.1 ci _ hc
  refine W.newcK C.1 C.2.1 C.ow (C.ts _ hcl) (C.ts _ hinst) (C.ts _ hini) rfl hd hcells hslots hKn.2.1 hh.1 fun H1 kC hkC e1 z1 o1 => ?_
  refine k ls H1 locs hl (hh.push z1 ?_ o1) ⟨Nat.le_trans hs.1 (by rw [hh.1, z1]; omega), fun x h1 h2 => (o1 x (by rw [← hh.1]; exact Nat.lt_of_lt_of_le h1 hs.1)).trans (hs.2.1 x h1 h2), hs.2.2⟩
  exact ⟨_, hc, (u_born ty0 C.ts hin hKn hkC e1 hty).to hfs⟩
theorem gi_newa {kd q : Nat} {at0 : ArrayType} {ty : FieldType} {x : Int32} {N : Nat} {a0 : vp_A} (C : gi_C p s m args meth c cc nL own V) (hd : decode cc pc = .ok (.newarray at0, 2)) (hq : pc + 2 = q) (hw : Cond.arrayClass ty ∈ gi_tb) (hty : newarray.typeOf at0 = ty) (ht : gi_kinds[kd]? = some ty) (ha : ∀ cA : ClassId, vp_cell cA a0 = arrV cA N (fun _ => defaultValue ty)) (hn : ¬ x < 0) (hN : x.toNatClampNeg = N) (hbytes : N * componentBytes ty ≤ 536870912) (hcells : cells + 1 ≤ R.cells) (hslots : slots + N ≤ R.slots) (k : gi_G p l e R s m args below meth c Q V nL (cells + 1) (slots + N) q (L) (.ref n :: st) (n + 1) (gi_up h n (.inl (kd, a0)))) : gi_G p l e R s m args below meth c Q V nL cells slots pc (L) (.int x :: st) (n) (h) := by
  subst hq
  intro ls H locs hl hh hs
  subst hty
  refine va_newaK C.1 C.2.1 (C.ts _ hw) rfl hd rfl hn hN hbytes hcells hslots hh.1 fun H1 cA e1 z1 o1 hAr hNm => ?_
  have hcA : cA = V.2.1 kd := by
    have h2 := (C.K.1.2 kd _ (gi_tys_at ht)).2
    have h3 : s.vm.findClass ("[" ++ (newarray.typeOf at0).toString) = some (V.2.1 kd) := by cases at0 <;> exact h2
    exact Option.some.inj (hNm.symm.trans h3)
  subst hcA
  refine k ls H1 locs hl (hh.push z1 ?_ o1) ⟨Nat.le_trans hs.1 (by rw [hh.1, z1]; omega), fun x h1 h2 => (o1 x (by rw [← hh.1]; exact Nat.lt_of_lt_of_le h1 hs.1)).trans (hs.2.1 x h1 h2), hs.2.2⟩
  show H1[n]? = some (vp_cell _ _)
  rw [ha]
  exact e1
theorem gi_newq {kd idx q : Nat} {Cn : String} {x : Int32} {N : Nat} (C : gi_C p s m args meth c cc nL own V) (hd : decode cc pc = .ok (.anewarray idx, 3)) (hq : pc + 3 = q) (hlk : Cond.classLink own idx Cn ∈ gi_tb) (hov : Cn ∈ gi_ao) (ht : gi_kinds[kd]? = some (.object Cn)) (hn : ¬ x < 0) (hN : x.toNatClampNeg = N) (hbytes : N * 4 ≤ 536870912) (hcells : cells + 1 ≤ R.cells) (hslots : slots + N ≤ R.slots) (k : gi_G p l e R s m args below meth c Q V nL (cells + 1) (slots + N) q (L) (.ref n :: st) (n + 1) (gi_up h n (gi_R kd N (fun _ => none)))) : gi_G p l e R s m args below meth c Q V nL cells slots pc (L) (.int x :: st) (n) (h) := by
  subst hq
  intro ls H locs hl hh hs
  subst hN
  refine W.anew C.1 C.2.1 C.ow (C.ts _ hlk) (va_AO.use (C.K.2.2.2 _ hov)) rfl hd rfl hn hbytes hcells hslots fun cA kA comp f1 f2 f3 f4 => ?_
  have hcA : cA = V.2.1 kd := by
    obtain ⟨kA', comp', g1, g2, g3, g4⟩ := (C.K.1.2 kd _ (gi_tys_at ht)).2
    exact Option.some.inj (f1.symm.trans g4)
  subst hcA
  have hz := hh.1
  generalize hH1 : H.push ({ cls := V.2.1 kd, slots := Array.replicate x.toNatClampNeg .null, vm := .none } : Cell) = H1
  have z1 : H1.size = n + 1 := by rw [← hH1, Array.size_push, hz]
  have e1 : H1[n]? = some (arrV (V.2.1 kd) x.toNatClampNeg (fun _ => .null)) := by rw [← hH1, ← hz, Array.getElem?_push_size, ← arrV_new]
  have o1 : ∀ q : Nat, q < n → H1[q]? = H[q]? := fun q hq => by rw [← hH1, Array.getElem?_push, if_neg (by omega)]
  rw [hz]
  refine k ls H1 locs hl (hh.push z1 ?_ o1) ⟨Nat.le_trans hs.1 (by rw [hz, z1]; omega), fun x h1 h2 => (o1 x (by rw [← hz]; exact Nat.lt_of_lt_of_le h1 hs.1)).trans (hs.2.1 x h1 h2), hs.2.2⟩
  show H1[n]? = some (vp_cell _ _)
  rw [vp_cell_q]
  exact e1
end GI2

section GI3
variable {p : Program} {l : Launch} {e : Env} {R : Room} {s : State} {m : MethodId} {args : Array Value} {below : List Frame} {meth : Method} {c : Code} {Q : State → Prop} {cc : ByteArray} {nL : Nat} {own : String} {V : gi_V} {cells slots pc n : Nat} {L : List (Nat × Value)} {st : List Value} {h : gi_H}
def gi_Pc (V : gi_V) (vs : List Value) (n : Nat) (h : gi_H) : Array Value → State → Prop := fun v U => v = vs.toArray ∧ gi_hp V n h U.heap ∧ gi_K V U
def gi_Qc (V : gi_V) (Post : Option Value → Nat → gi_H → Prop) : Array Value → State → Outcome → State → Prop := fun _ st o t => (∃ (r : Option Value) (n' : Nat) (h' : gi_H), o = .returned r ∧ gi_hp V n' h' t.heap ∧ Post r n' h') ∧ va_F (fun q : Nat => V.2.2 ≤ q) st t
def gi_ws (y : MethodName) (bytes : ByteArray) (maxL : Nat) (ret : Option FieldType) : List Cond := Cond.code y bytes maxL ret :: gi_tb
/-- a method's triple: from these arguments, this heap: it returns, with Post; mc cells of ms slots come -/
def gi_T (l : Launch) (V : gi_V) (y : MethodName) (bytes : ByteArray) (maxL : Nat) (ret : Option FieldType) (fr lo mc ms : Nat) (vs : List Value) (n : Nat) (h : gi_H) (Post : Option Value → Nat → gi_H → Prop) : Prop :=
  Met l y (gi_ws y bytes maxL ret) { frames := fr, cells := mc, slots := ms, locals := lo } (gi_Pc V vs n h) (gi_Qc V Post) mc ms (fun q : Nat => V.2.2 ≤ q)
theorem gi_blind {vs : List Value} : FrameBlind (gi_Pc V vs n h) := fun a U g mk q => ⟨q.1, q.2.1, gi_K.same (u := U) (U := U.calling g mk a) rfl rfl q.2.2⟩
theorem gi_enter {y : MethodName} {ret : Option FieldType} {fr lo mc ms : Nat} {vs : List Value} {Post : Option Value → Nat → gi_H → Prop} (hy : plainName y.cls = true) (hlen : (lg_sl vs).length ≤ nL)
    (body : ∀ (p : Program) (e : Env) (s : State) (m : MethodId) (args : Array Value) (below : List Frame) (meth : Method) (c : Code), gi_C p s m args meth c cc nL y.cls V → meth.sig.returnType = ret → meth.name = y.name →
      gi_G p l e { frames := fr, cells := mc, slots := ms, locals := lo } s m args below meth c (MQ below (gi_Qc V Post) args s mc ms (fun q : Nat => V.2.2 ≤ q)) V nL 0 0 0 (lv_args 0 vs) [] n h) :
    gi_T l V y cc nL ret fr lo mc ms vs n h Post := by
  refine Met.ofW (cc := cc) (maxL := nL) (ret := ret) hy rfl ?_
  intro p e s m args below meth c s₁ B hml hv
  obtain ⟨rfl, hh, hK⟩ := hv
  have hts := atoms_spec (ws := gi_ws y cc nL ret) B.pre
  have hown : s.vm.findClass y.cls = some m.cls := findClass_of_methodNamed B.named
  have hnm : meth.name = y.name := (name_of_methodNamed B.named B.method).1
  have hl := lv_entry vs (n := nL) hlen
  rw [lg_entry_eq]
  generalize (lg_sl vs ++ List.replicate (nL - (lg_sl vs).length) Slot.unset).toArray = ls at hl ⊢
  exact body p e s m vs.toArray below meth c ⟨B.exec, B.bytes, hml, hown, fun w hw => hts w (List.mem_cons_of_mem _ hw), hK, B.notSynchronized, by rw [hh.1]; exact hh.2.1⟩ B.returns hnm ls s.heap [] (gi_has_of hl) hh va_S.rf
variable {Post : Option Value → Nat → gi_H → Prop}
theorem gi_iret {v : Int32} (C : gi_C p s m args meth c cc nL own V) (hr : meth.sig.returnType = some .int) (hd : decode cc pc = .ok (.ireturn, 1)) (hp : Post (some (.int v)) n h) : gi_G p l e R s m args below meth c (MQ below (gi_Qc V Post) args s cells slots (fun q : Nat => V.2.2 ≤ q)) V nL cells slots pc L [.int v] n h := fun ls H locs hl hh hs => W.iret C.1 C.2.1 hr (fun t ht hW => ⟨⟨_, n, h, rfl, by rw [ht]; exact hh, hp⟩, hs.F ht⟩) hs.2.2 hd (hlocks := C.locks)
theorem gi_zret {v : Int32} (C : gi_C p s m args meth c cc nL own V) (hr : meth.sig.returnType = some .boolean) (hd : decode cc pc = .ok (.ireturn, 1)) (hn : narrow .boolean (.int v) = .int v) (hp : Post (some (.int v)) n h) : gi_G p l e R s m args below meth c (MQ below (gi_Qc V Post) args s cells slots (fun q : Nat => V.2.2 ≤ q)) V nL cells slots pc L [.int v] n h := fun ls H locs hl hh hs => W.zret C.1 C.2.1 hr hn (fun t ht hW => ⟨⟨_, n, h, rfl, by rw [ht]; exact hh, hp⟩, hs.F ht⟩) hs.2.2 hd (hlocks := C.locks)
theorem gi_lret {v : Int64} (C : gi_C p s m args meth c cc nL own V) (hr : meth.sig.returnType = some .long) (hd : decode cc pc = .ok (.lreturn, 1)) (hp : Post (some (.long v)) n h) : gi_G p l e R s m args below meth c (MQ below (gi_Qc V Post) args s cells slots (fun q : Nat => V.2.2 ≤ q)) V nL cells slots pc L [.long v] n h := fun ls H locs hl hh hs => W.lret C.1 C.2.1 hr (fun t ht hW => ⟨⟨_, n, h, rfl, by rw [ht]; exact hh, hp⟩, hs.F ht⟩) hs.2.2 hd (hlocks := C.locks)
theorem gi_vret (C : gi_C p s m args meth c cc nL own V) (hr : meth.sig.returnType = none) (hd : decode cc pc = .ok (.return_, 1)) (hp : Post none n h) : gi_G p l e R s m args below meth c (MQ below (gi_Qc V Post) args s cells slots (fun q : Nat => V.2.2 ≤ q)) V nL cells slots pc L [] n h := fun ls H locs hl hh hs => W.vret C.1 C.2.1 hr (fun t ht hW => ⟨⟨_, n, h, rfl, by rw [ht]; exact hh, hp⟩, hs.F ht⟩) hs.2.2 hd (hlocks := C.locks)
theorem gi_aret {v : Value} {rt : FieldType} (C : gi_C p s m args meth c cc nL own V) (hr : meth.sig.returnType = some rt) (hrt : (∃ n, rt = .object n) ∨ ∃ t, rt = .array t) (hv : v = .null ∨ ∃ a, v = .ref a) (hd : decode cc pc = .ok (.areturn, 1)) (hp : Post (some v) n h) : gi_G p l e R s m args below meth c (MQ below (gi_Qc V Post) args s cells slots (fun q : Nat => V.2.2 ≤ q)) V nL cells slots pc L [v] n h := fun ls H locs hl hh hs => W.aret C.1 C.2.1 hr hrt hv (fun t ht hW => ⟨⟨_, n, h, rfl, by rw [ht]; exact hh, hp⟩, hs.F ht⟩) hs.2.2 hd (hlocks := C.locks)
/-- behind a call -/
theorem gi_back {mc ms : Nat} {st0 : List Value} {a : Array Value} (k : ∀ (r : Option Value) (n' : Nat) (h' : gi_H), Post r n' h' → gi_G p l e R s m args below meth c Q V nL (cells + mc) (slots + ms) (pc + 3) L (r.toList ++ st) n' h') {ls : Array Slot} {H : Heap} {locs : List Loc} (hl : gi_has ls nL L) (hs : va_S (fun q : Nat => V.2.2 ≤ q) s.heap H locs)
    (hr : va_Run p l e R s m args below meth c H locs cells slots mc ms (F0 m pc ls st0) st (gi_Qc V Post a) (fun q : Nat => V.2.2 ≤ q)) : W p l e R s m args below meth c H locs cells slots Q (F0 m pc ls st0) := by
  intro T hT X
  obtain ⟨v, st₀, t, T', L', h0, X', hL, e1, e2, ⟨⟨r, n', h', hv, hh', hp⟩, hz, hk⟩, stp⟩ := hr T hT X
  cases hv
  rw [h0] at hz hk
  obtain ⟨t2, a1, b1⟩ := k _ n' h' hp ls T'.heap (locs ++ L') hl (by rw [e1]; exact hh')
    ⟨Nat.le_trans hs.1 (by rw [e1]; exact hz), fun q h1 h2 => by rw [e1, hk q (Nat.lt_of_lt_of_le h1 hs.1) h2]; exact hs.2.1 q h1 h2, fun q hq => by
      rcases List.mem_append.mp hq with h | h
      · exact hs.2.2 q h
      · exact hL q h⟩ T' rfl X'
  exact ⟨t2, stp t2 a1, b1⟩
/-- what the tables say of a method that is called -/
def gi_my (y : MethodName) (bytes : ByteArray) (maxL : Nat) (ret : Option FieldType) (np : Nat) : Prop := Cond.code y bytes maxL ret ∈ gi_tb ∧ Cond.initialized y.cls ∈ gi_tb ∧ y.cls ≠ "java/lang/invoke/MethodHandle" ∧ y.cls ≠ "java/lang/invoke/VarHandle" ∧ (parseMethodDescriptor y.desc).map (fun d => d.parameters.length) = some np
theorem gi_goodws {y : MethodName} {bytes : ByteArray} {maxL np : Nat} {ret : Option FieldType} (hm : gi_my y bytes maxL ret np) : GoodIn gi_tb (gi_ws y bytes maxL ret) := fun w hw => by
  rcases List.mem_cons.mp hw with rfl | h2
  · exact ⟨hm.1, gi_good _ hm.1⟩
  · exact ⟨h2, gi_good _ h2⟩
theorem gi_callB {y : MethodName} {bytes : ByteArray} {maxL np fr lo mc ms idx : Nat} {ret : Option FieldType} (C : gi_C p s m args meth c cc nL own V) (hm : gi_my y bytes maxL ret np) (hlk : Cond.methodLink own idx y ∈ gi_tb) (hR : fr + 1 ≤ R.frames ∧ 8 + (maxL + 11) + lo ≤ R.locals) :
    CallB R s args own idx y bytes maxL ret (gi_ws y bytes maxL ret) { frames := fr, cells := mc, slots := ms, locals := lo } mc ms np :=
  callB_of np C.ts (gi_goodws hm) rfl rfl rfl (C.ts _ hm.2.1) (C.ts _ hlk) hm.2.2 hR
theorem gi_callN {y : MethodName} {bytes : ByteArray} {maxL np fr lo mc ms idx : Nat} {ret : Option FieldType} {host : String} (C : gi_C p s m args meth c cc nL own V) (hm : gi_my y bytes maxL ret np) (hlk : Cond.methodLinkNest own idx y host ∈ gi_nw) (hR : fr + 1 ≤ R.frames ∧ 8 + (maxL + 11) + lo ≤ R.locals) :
    va_CN R s args own idx y host bytes maxL ret (gi_ws y bytes maxL ret) { frames := fr, cells := mc, slots := ms, locals := lo } mc ms np :=
  va_cnB np C.ts (gi_goodws hm) rfl rfl rfl (C.K.2.1 _ hlk) (C.ts _ hm.2.1) hm.2.2 hR
theorem gi_pre {vs : List Value} {H : Heap} {locs : List Loc} (C : gi_C p s m args meth c cc nL own V) (hh : gi_hp V n h H) (hs : va_S (fun q : Nat => V.2.2 ≤ q) s.heap H locs) : PreS s H (gi_Pc V vs n h) vs :=
  ⟨gi_blind, fun U hU hW => ⟨rfl, by rw [hU]; exact hh, gi_K.moved hW (by rw [hU]; exact hs) C.K⟩⟩
/-- the link of a call: of the tables, or between nest mates -/
def gi_lk (own : String) (idx : Nat) (y : MethodName) : Prop := Cond.methodLink own idx y ∈ gi_tb ∨ ∃ host : String, Cond.methodLinkNest own idx y host ∈ gi_nw
theorem gi_callv {y : MethodName} {bytes : ByteArray} {maxL fr lo mc ms idx ci b : Nat} {ret : Option FieldType} {As st0 fs : List Value} (np : Nat) {q : Nat} (C : gi_C p s m args meth c cc nL own V) (hd : decode cc pc = .ok (.invokevirtual idx, 3)) (hq : pc + 3 = q) (hm : gi_my y bytes maxL ret np) (hlk : gi_lk own idx y) (hin : Cond.instanceMethod y ∈ gi_tb ∧ Cond.selects y.cls y y ∈ gi_tb) (hcl : (vwCl[ci]?).map (fun q => q.1) = some y.cls)
    (hM : gi_T l V y bytes maxL ret fr lo mc ms (.ref b :: As) n h Post) (hb : h b = some (gi_O ci fs)) (hst : st0 = As.reverse ++ .ref b :: st) (hn : As.length = np) (hR : fr + 1 ≤ R.frames ∧ 8 + (maxL + 11) + lo ≤ R.locals) (hW : (st.map fun v => v.category).sum ≤ 8) (hf : cells + mc ≤ R.cells ∧ slots + ms ≤ R.slots)
    (k : ∀ (r : Option Value) (n' : Nat) (h' : gi_H), Post r n' h' → gi_G p l e R s m args below meth c Q V nL (cells + mc) (slots + ms) q L (r.toList ++ st) n' h') : gi_G p l e R s m args below meth c Q V nL cells slots pc L st0 n h := by
  subst hq
  intro ls H locs hl hh hs
  subst hst
  obtain ⟨q, hq, hq1⟩ := Option.map_eq_some_iff.mp hcl
  have hrecv : ∃ cell : Cell, H[b]? = some cell ∧ cell.vm.isStatics = false ∧ s.vm.findClass y.cls = some cell.cls := by
    rw [← hq1]
    exact va_recv C.K.1 (gi_at hh hb) (q0 := 0) (fs := fs) hq rfl
  have hp := gi_pre (vs := .ref b :: As) C hh hs
  rcases hlk with hlk | ⟨host, hlk⟩
  · exact gi_back k hl hs (va_runV (As := As) (rest := st) (C := y.cls) ⟨C.1, C.2.1, C.2.2.1, C.ow, C.ts⟩ hM ⟨gi_callB C hm hlk hR, C.ts _ hin.1, C.ts _ hin.2⟩ ⟨hp.1, hrecv, hp.2⟩ rfl hn hl.1 rfl (lv_room hW) hd hf)
  · exact gi_back k hl hs (va_runVN (As := As) (rest := st) (C := y.cls) ⟨C.1, C.2.1, C.2.2.1, C.ow, C.ts⟩ hM ⟨gi_callN C hm hlk hR, C.ts _ hin.1, C.ts _ hin.2⟩ ⟨hp.1, hrecv, hp.2⟩ rfl hn hl.1 rfl (lv_room hW) hd hf)
theorem gi_calls {y : MethodName} {bytes : ByteArray} {maxL fr lo mc ms idx : Nat} {ret : Option FieldType} {As st0 : List Value} (np : Nat) {q : Nat} (C : gi_C p s m args meth c cc nL own V) (hd : decode cc pc = .ok (.invokestatic idx, 3)) (hq : pc + 3 = q) (hm : gi_my y bytes maxL ret np) (hlk : gi_lk own idx y) (hin : Cond.static y ∈ gi_tb)
    (hM : gi_T l V y bytes maxL ret fr lo mc ms As n h Post) (hst : st0 = As.reverse ++ st) (hn : As.length = np) (hR : fr + 1 ≤ R.frames ∧ 8 + (maxL + 11) + lo ≤ R.locals) (hW : (st.map fun v => v.category).sum ≤ 8) (hf : cells + mc ≤ R.cells ∧ slots + ms ≤ R.slots)
    (k : ∀ (r : Option Value) (n' : Nat) (h' : gi_H), Post r n' h' → gi_G p l e R s m args below meth c Q V nL (cells + mc) (slots + ms) q L (r.toList ++ st) n' h') : gi_G p l e R s m args below meth c Q V nL cells slots pc L st0 n h := by
  subst hq
  intro ls H locs hl hh hs
  subst hst
  have hp := gi_pre (vs := As) C hh hs
  rcases hlk with hlk | ⟨host, hlk⟩
  · exact gi_back k hl hs (va_runS (As := As) (rest := st) ⟨C.1, C.2.1, C.2.2.1, C.ow, C.ts⟩ hM ⟨gi_callB C hm hlk hR, C.ts _ hin⟩ hp rfl hn hl.1 rfl (lv_room hW) hd hf)
  · exact gi_back k hl hs (va_runSN (As := As) (rest := st) ⟨C.1, C.2.1, C.2.2.1, C.ow, C.ts⟩ hM ⟨gi_callN C hm hlk hR, C.ts _ hin, trivial⟩ hp rfl hn hl.1 rfl (lv_room hW) hd hf)
theorem gi_calli {y : MethodName} {bytes : ByteArray} {maxL fr lo mc ms idx b : Nat} {As st0 : List Value} (np : Nat) {q : Nat} (C : gi_C p s m args meth c cc nL own V) (hd : decode cc pc = .ok (.invokespecial idx, 3)) (hq : pc + 3 = q) (hm : gi_my y bytes maxL none np) (hlk : gi_lk own idx y) (hin : Cond.instanceMethod y ∈ gi_tb) (hnm : y.name = "<init>")
    (hM : gi_T l V y bytes maxL none fr lo mc ms (.ref b :: As) n h Post) (hst : st0 = As.reverse ++ .ref b :: st) (hn : As.length = np) (hR : fr + 1 ≤ R.frames ∧ 8 + (maxL + 11) + lo ≤ R.locals) (hW : (st.map fun v => v.category).sum ≤ 8) (hf : cells + mc ≤ R.cells ∧ slots + ms ≤ R.slots)
    (k : ∀ (r : Option Value) (n' : Nat) (h' : gi_H), Post r n' h' → gi_G p l e R s m args below meth c Q V nL (cells + mc) (slots + ms) q L (r.toList ++ st) n' h') : gi_G p l e R s m args below meth c Q V nL cells slots pc L st0 n h := by
  subst hq
  intro ls H locs hl hh hs
  subst hst
  have hp := gi_pre (vs := .ref b :: As) C hh hs
  rcases hlk with hlk | ⟨host, hlk⟩
  · exact gi_back k hl hs (va_runI (As := As) (rest := st) ⟨C.1, C.2.1, C.2.2.1, C.ow, C.ts⟩ hM ⟨gi_callB C hm hlk hR, hnm, C.ts _ hin⟩ hp rfl hn hl.1 rfl (lv_room hW) hd hf)
  · exact gi_back k hl hs (va_runIN (As := As) (rest := st) ⟨C.1, C.2.1, C.2.2.1, C.ow, C.ts⟩ hM ⟨gi_callN C hm hlk hR, hnm, C.ts _ hin⟩ hp rfl hn hl.1 rfl (lv_room hW) hd hf)
theorem gi_objInit {idx a q : Nat} (C : gi_C p s m args meth c cc nL own V) (hd : decode cc pc = .ok (.invokespecial idx, 3)) (hq : pc + 3 = q) (hlk : Cond.methodLink own idx Lib.objectInit ∈ gi_tb) (hw : Cond.instanceMethod Lib.objectInit ∈ gi_tb ∧ Cond.code Lib.objectInit ⟨#[0xb1]⟩ 1 none ∈ gi_tb) (hframes : 1 ≤ R.frames) (hlocals : (st.map fun v => v.category).sum + 12 ≤ R.locals) (k : gi_G p l e R s m args below meth c Q V nL cells slots q L st n h) : gi_G p l e R s m args below meth c Q V nL cells slots pc L (.ref a :: st) n h := by subst hq; exact fun ls H locs hl hh hs => W.objInit C.1 C.2.1 C.ow (C.ts _ hlk) (C.ts _ hw.1) (C.ts _ hw.2) rfl (by rw [C.2.2.1]; exact hl.1) rfl hd hframes (by show 2 * 0 + _ + 12 ≤ _; omega) (k ls H locs hl hh hs)
/-- a triple says more than another -/
theorem gi_T.mono {y : MethodName} {bytes : ByteArray} {maxL fr lo mc ms : Nat} {ret : Option FieldType} {vs : List Value} {Post' : Option Value → Nat → gi_H → Prop} (hM : gi_T l V y bytes maxL ret fr lo mc ms vs n h Post) (hp : ∀ r n' h', Post r n' h' → Post' r n' h') : gi_T l V y bytes maxL ret fr lo mc ms vs n h Post' := by
  intro p e ha hc hk s m args below hf happ hP hK
  obtain ⟨k, o, h1, h2, h3, ⟨⟨r, n', h', e1, e2, e3⟩, e4⟩, e5⟩ := hM p e ha hc hk s m args below hf happ hP hK
  exact ⟨k, o, h1, h2, h3, ⟨⟨r, n', h', e1, e2, hp _ _ _ e3⟩, e4⟩, e5⟩
end GI3

