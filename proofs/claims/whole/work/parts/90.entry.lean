def R_law : String := "AnalysisHouseLaw"
def lw_P (b : Addr) (xs : List Int32) (args : Array Value) (s : State) : Prop := args = #[.ref b] ∧ s.IntsAt b xs ∧ xs.length ≤ 3072 ∧ (Jvm.Cond.and given_1 narrow_1).before args s = true
def lw_Q (_ : Array Value) (s : State) (o : Outcome) (t : State) : Prop := o = .returned (some (.int 1)) ∧ Framed s o t [] 600000 7302250
def lw_Z (below : List Frame) (a : Array Value) (s : State) : State → Prop := fun t => ∃ o, t.status = .running ∧ Ended t below o ∧ lw_Q a s o t
/-- the law's own end, with 1 on the stack, nothing written that was there before, its room as the claim has it -/
theorem lw_ret {p : Program} {l : Launch} {e : Env} {s : State} {m : MethodId} {below : List Frame} {meth : Method} {c : Code} {b : Nat} (hx : p.tables.exec = Jvm.exec) (hb : c.code = code) (hr : meth.sig.returnType = ret) (hlocks : meth.locks = false) {pc : Nat} {H : Heap} {ls : Array Slot} (hdg : decode code pc = .ok (.ireturn, 1)) : W p l e room_1 s m #[Value.ref b] below meth c H [] 600000 7302250 (lw_Z below #[Value.ref b] s) (F0 m pc ls [.int 1]) := by
  intro T hT X
  obtain ⟨fs, hret, hrun, hended, hW, hframe⟩ := X.leave (v := some (.int 1)) (hlocks := hlocks) (fun h => by rw [hr] at h; cases h)
  have hmeth' : T.vm.method? m = some meth := X.method'
  refine ⟨T.setFrames fs, ?_, .returned (some (.int 1)), hrun, hended, rfl, ⟨_, rfl⟩, hW, hframe⟩
  jvm_step X.here [X.here.top, hx, hb, hdg, hmeth', hr, ret, narrow_b1]
  (try refine ⟨rfl, ?_⟩); (try refine ⟨rfl, ?_⟩)
  first | (intro acts; rw [hret _ acts rfl rfl rfl]) | rw [hret _ _ rfl rfl rfl]
  exact Steps.refl _
/-- what holds at the law's entry: the machine, the code, the tables' words (any of lw_tbl by 'hts w (by decide +kernel)'), the script of L ints xs at the cell b, what the Statement gives of the start (any of its parts by flat_of_before) -/
def lw_At (p : Program) (s : State) (m : MethodId) (meth : Method) (c : Code) (b L : Nat) (xs : Nat → Int32) : Prop :=
  p.tables.exec = Jvm.exec ∧ c.code = code ∧ meth.sig.returnType = ret ∧ c.maxLocals = 4 ∧ s.vm.findClass R_law = some m.cls ∧ (∀ w ∈ lw_tbl, w.before #[Value.ref b] s = true) ∧ va_X b L xs s s.heap ∧ b < s.heap.size ∧ meth.locks = false ∧ (Jvm.Cond.and given_1 narrow_1).before #[Value.ref b] s = true
theorem lt_m1 {w : Cond} (j : Nat) (h : tables_1_1[j]? = some w) : w ∈ lw_tbl := List.mem_append_right _ (show w ∈ tables_1 from (List.mem_append_left _ (List.mem_of_getElem? h)))
theorem lt_m2 {w : Cond} (j : Nat) (h : tables_1_2[j]? = some w) : w ∈ lw_tbl := List.mem_append_right _ (show w ∈ tables_1 from (List.mem_append_right _ (List.mem_append_left _ (List.mem_of_getElem? h))))
theorem lt_m3 {w : Cond} (j : Nat) (h : tables_1_3[j]? = some w) : w ∈ lw_tbl := List.mem_append_right _ (show w ∈ tables_1 from (List.mem_append_right _ (List.mem_append_right _ (List.mem_append_left _ (List.mem_of_getElem? h)))))
theorem lt_m4 {w : Cond} (j : Nat) (h : tables_1_4[j]? = some w) : w ∈ lw_tbl := List.mem_append_right _ (show w ∈ tables_1 from (List.mem_append_right _ (List.mem_append_right _ (List.mem_append_right _ (List.mem_append_left _ (List.mem_of_getElem? h))))))
theorem lt_m5 {w : Cond} (j : Nat) (h : tables_1_5[j]? = some w) : w ∈ lw_tbl := List.mem_append_right _ (show w ∈ tables_1 from (List.mem_append_right _ (List.mem_append_right _ (List.mem_append_right _ (List.mem_append_right _ (List.mem_append_left _ (List.mem_of_getElem? h)))))))
theorem lt_m6 {w : Cond} (j : Nat) (h : tables_1_6[j]? = some w) : w ∈ lw_tbl := List.mem_append_right _ (show w ∈ tables_1 from (List.mem_append_right _ (List.mem_append_right _ (List.mem_append_right _ (List.mem_append_right _ (List.mem_append_right _ (List.mem_append_left _ (List.mem_of_getElem? h))))))))
theorem lt_m7 {w : Cond} (j : Nat) (h : tables_1_7[j]? = some w) : w ∈ lw_tbl := List.mem_append_right _ (show w ∈ tables_1 from (List.mem_append_right _ (List.mem_append_right _ (List.mem_append_right _ (List.mem_append_right _ (List.mem_append_right _ (List.mem_append_right _ (List.mem_append_left _ (List.mem_of_getElem? h)))))))))
theorem lt_m8 {w : Cond} (j : Nat) (h : tables_1_8[j]? = some w) : w ∈ lw_tbl := List.mem_append_right _ (show w ∈ tables_1 from (List.mem_append_right _ (List.mem_append_right _ (List.mem_append_right _ (List.mem_append_right _ (List.mem_append_right _ (List.mem_append_right _ (List.mem_append_right _ (List.mem_append_left _ (List.mem_of_getElem? h))))))))))
theorem lt_m9 {w : Cond} (j : Nat) (h : tables_1_9[j]? = some w) : w ∈ lw_tbl := List.mem_append_right _ (show w ∈ tables_1 from (List.mem_append_right _ (List.mem_append_right _ (List.mem_append_right _ (List.mem_append_right _ (List.mem_append_right _ (List.mem_append_right _ (List.mem_append_right _ (List.mem_append_right _ (List.mem_of_getElem? h))))))))))
section EN
variable {s : State} {args : Array Value}
theorem en_sub {w : Cond} (h : w ∈ gi_tb) : w ∈ lw_tbl := (List.mem_filter.mp h).1
theorem en_cl (hts : ∀ w ∈ lw_tbl, w.before args s = true) : ∀ q ∈ vwCl, ∃ d : ClassId × (Nat → Nat), u_Kn s q.1 q.2.1 q.2.2 d.1 d.2 := by
  have ht : ∀ w ∈ gi_tb, w.before args s = true := fun w h => hts w (en_sub h)
  have key : ∀ {C : String} {T : u_T} {N n : Nat}, (∀ w ∈ u_ws C T N, w ∈ gi_tb) → Cond.instantiable C n ∈ gi_tb → ∃ d : ClassId × (Nat → Nat), u_Kn s C T N d.1 d.2 := fun h1 h2 => by
    obtain ⟨c, i, h⟩ := u_known ht h1 (ht _ h2)
    exact ⟨(c, i), h⟩
  exact List.forall_mem_cons.mpr ⟨key i_H (gi_m1 17 rfl rfl), List.forall_mem_cons.mpr ⟨key i_Pr (gi_m1 25 rfl rfl), List.forall_mem_cons.mpr ⟨key i_Bu (gi_m1 59 rfl rfl), List.forall_mem_cons.mpr ⟨key i_Fa (gi_m1 117 rfl rfl), List.forall_mem_cons.mpr ⟨key i_Ro (gi_m1 124 rfl rfl), List.forall_mem_cons.mpr ⟨key i_Va (gi_m1 131 rfl rfl), List.forall_mem_cons.mpr ⟨key i_St (gi_m1 214 rfl rfl), List.forall_mem_cons.mpr ⟨key i_Re (gi_m1 220 rfl rfl), List.forall_mem_cons.mpr ⟨key i_Ju (gi_m2 58 rfl rfl), List.forall_mem_cons.mpr ⟨key i_Gi (gi_m2 71 rfl rfl), List.forall_mem_cons.mpr ⟨key i_Ma (gi_m2 91 rfl rfl), List.forall_mem_cons.mpr ⟨key i_He (gi_m2 97 rfl rfl), List.forall_mem_cons.mpr ⟨key i_Mo (gi_m6 21 rfl rfl), fun _ h => absurd h List.not_mem_nil⟩⟩⟩⟩⟩⟩⟩⟩⟩⟩⟩⟩⟩
theorem en_ac {ty : FieldType} (hne : ∀ C, ty ≠ .object C) (h : (Cond.arrayClass ty).before args s = true) : ∃ cA : ClassId, ArrOfT s cA ty ∧ va_RA s cA ty := by
  obtain ⟨c, k, comp, h1, h2, h3⟩ := Cond.arrayClass_spec h
  refine ⟨c, fun n z => ⟨fun k h => (by cases h), k, h2, comp, h3⟩, ?_⟩
  cases ty with
  | object C => exact absurd rfl (hne C)
  | _ => exact h1
theorem en_ao {C : String} (h : (Cond.arrayOver (.object C)).before args s = true) : ∃ cA : ClassId, ArrOfT s cA (.object C) ∧ va_RA s cA (.object C) := by
  obtain ⟨comp, c, k, h1, h2, h3, h4, h5⟩ := Cond.arrayOver_spec h
  exact ⟨c, fun n z => ⟨fun k h => (by cases h), k, h3, comp, h4⟩, k, comp, h3, h4, h1, h5⟩
theorem en_ar (hts : ∀ w ∈ lw_tbl, w.before args s = true) : ∀ ty ∈ gi_kinds, ∃ cA : ClassId, ArrOfT s cA ty ∧ va_RA s cA ty := by
  exact List.forall_mem_cons.mpr ⟨en_ac (fun _ h => by cases h) (hts _ (lt_m1 57 rfl)), List.forall_mem_cons.mpr ⟨en_ac (fun _ h => by cases h) (hts _ (lt_m1 115 rfl)), List.forall_mem_cons.mpr ⟨en_ac (fun _ h => by cases h) (hts _ (lt_m2 172 rfl)), List.forall_mem_cons.mpr ⟨en_ac (fun _ h => by cases h) (hts _ (lt_m7 54 rfl)), List.forall_mem_cons.mpr ⟨en_ao (hts _ (lt_m1 123 rfl)), List.forall_mem_cons.mpr ⟨en_ao (hts _ (lt_m1 130 rfl)), fun _ h => absurd h List.not_mem_nil⟩⟩⟩⟩⟩⟩
theorem en_nw (hts : ∀ w ∈ lw_tbl, w.before args s = true) : ∀ w ∈ gi_nw, va_Nw w s := by
  exact List.forall_mem_cons.mpr ⟨va_Nw.of rfl (hts _ (lt_m1 26 rfl)), List.forall_mem_cons.mpr ⟨va_Nw.of rfl (hts _ (lt_m1 132 rfl)), List.forall_mem_cons.mpr ⟨va_Nw.of rfl (hts _ (lt_m1 221 rfl)), List.forall_mem_cons.mpr ⟨va_Nw.of rfl (hts _ (lt_m1 226 rfl)), List.forall_mem_cons.mpr ⟨va_Nw.of rfl (hts _ (lt_m1 237 rfl)), List.forall_mem_cons.mpr ⟨va_Nw.of rfl (hts _ (lt_m2 72 rfl)), List.forall_mem_cons.mpr ⟨va_Nw.of rfl (hts _ (lt_m2 98 rfl)), List.forall_mem_cons.mpr ⟨va_Nw.of rfl (hts _ (lt_m3 215 rfl)), List.forall_mem_cons.mpr ⟨va_Nw.of rfl (hts _ (lt_m4 40 rfl)), List.forall_mem_cons.mpr ⟨va_Nw.of rfl (hts _ (lt_m3 64 rfl)), List.forall_mem_cons.mpr ⟨va_Nw.of rfl (hts _ (lt_m3 231 rfl)), fun _ h => absurd h List.not_mem_nil⟩⟩⟩⟩⟩⟩⟩⟩⟩⟩⟩
theorem en_st (hts : ∀ w ∈ lw_tbl, w.before args s = true) (hg : (Jvm.Cond.and given_1 narrow_1).before args s = true) (V : gi_V) (hV : V.2.2 = s.heap.size) : gi_S V s := by
  have hs := flat_of_before _ hg
  have hA : ∀ a : Nat, a < s.heap.size → ¬ (fun q : Nat => V.2.2 ≤ q) a := fun a h h2 => by
    have h3 : V.2.2 ≤ a := h2
    rw [hV] at h3
    omega
  have t1 : ∀ j : Nat, j < 36 → Cond.eq (.elem (.static "AnalysisHouse" "TAKES" "[I") (.int (Int32.ofNat j))) (.int (gi_tkL.getD j 0)) ∈ flatC (Jvm.Cond.and given_1 narrow_1) := by decide +kernel
  have t2 : ∀ j : Nat, j < 11 → Cond.eq (.elem (.static "AnalysisHouse" "LEDGES" "[J") (.int (Int32.ofNat j))) (.long (gi_ldL.getD j 0)) ∈ flatC (Jvm.Cond.and given_1 narrow_1) := by decide +kernel
  obtain ⟨tT, hT, hT2⟩ := va_Tof (tm := .static "AnalysisHouse" "TAKES" "[I") (ty := .int) (N := 36) (f := gi_tk) (A := fun q : Nat => V.2.2 ≤ q) (by decide) (hs _ (by decide +kernel)) (va_eqt (hs (Cond.eq (.length (.static "AnalysisHouse" "TAKES" "[I")) (.int 36)) (by decide +kernel))) (fun j hj => va_eqt (hs _ (t1 j hj))) hA
  obtain ⟨tL, hL, hL2⟩ := va_Tof (tm := .static "AnalysisHouse" "LEDGES" "[J") (ty := .long) (N := 11) (f := gi_ld) (A := fun q : Nat => V.2.2 ≤ q) (by decide) (hs _ (by decide +kernel)) (va_eqt (hs (Cond.eq (.length (.static "AnalysisHouse" "LEDGES" "[J")) (.int 11)) (by decide +kernel))) (fun j hj => va_eqtl (hs _ (t2 j hj))) hA
  exact ⟨tT, tL, va_Zref (hts _ (lt_m3 65 rfl)) (hts _ (lt_m1 1 rfl)) hT hA, hT2, va_Zref (hts _ (lt_m3 232 rfl)) (hts _ (lt_m1 1 rfl)) hL hA, hL2⟩
theorem en_K (hts : ∀ w ∈ lw_tbl, w.before args s = true) (hg : (Jvm.Cond.and given_1 narrow_1).before args s = true) : ∃ V : gi_V, V.2.2 = s.heap.size ∧ gi_K V s := by
  have k1 : ∀ c : Nat, ∃ d : ClassId × (Nat → Nat), ∀ q, vwCl[c]? = some q → u_Kn s q.1 q.2.1 q.2.2 d.1 d.2 := fun c => by
    cases hc : vwCl[c]? with
    | none => exact ⟨(0, fun _ => 0), fun q h => by cases h⟩
    | some q =>
      obtain ⟨d, hd⟩ := en_cl hts q (List.mem_of_getElem? hc)
      exact ⟨d, fun q' h => by cases h; exact hd⟩
  have k2 : ∀ c : Nat, ∃ d : ClassId, ∀ ty, gi_kinds[c]? = some ty → ArrOfT s d ty ∧ va_RA s d ty := fun c => by
    cases hc : gi_kinds[c]? with
    | none => exact ⟨0, fun q h => by cases h⟩
    | some q =>
      obtain ⟨d, hd⟩ := en_ar hts q (List.mem_of_getElem? hc)
      exact ⟨d, fun q' h => by cases h; exact hd⟩
  obtain ⟨D, hD⟩ := Classical.axiomOfChoice k1
  obtain ⟨A, hA⟩ := Classical.axiomOfChoice k2
  refine ⟨((fun c => (D c).1, fun c => (D c).2), A, s.heap.size), rfl, ⟨fun c q hq => hD c q hq, fun k q hk => ?_⟩, en_nw hts, en_st hts hg _ rfl, ?_⟩
  · have hlt : k < gi_kinds.length := by
      have := (List.getElem?_eq_some_iff.mp hk).1
      simpa [gi_tys] using this
    have hk2 : gi_kinds[k]? = some (gi_kinds[k]) := List.getElem?_eq_getElem hlt
    have := gi_tys_at (cA := A) hk2
    rw [show (gi_tys A)[k]? = some q from hk] at this
    cases this
    exact hA k _ hk2
  · exact List.forall_mem_cons.mpr ⟨va_AO.of (hts _ (lt_m1 123 rfl)), List.forall_mem_cons.mpr ⟨va_AO.of (hts _ (lt_m1 130 rfl)), fun _ h => absurd h List.not_mem_nil⟩⟩
end EN
