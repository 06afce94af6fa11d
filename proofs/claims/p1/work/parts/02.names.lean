/-- the tables' words that hold wherever the machine goes on -/
def gi_tb : List Cond := lw_tbl.filter goodWord
theorem gi_good : ∀ w ∈ gi_tb, (w.onTables && w.keeps) = true ∨ ∃ ty, w = .arrayClass ty := fun w hw => good_of_word (List.mem_filter.mp hw).2
theorem gi_in {w : Cond} (h : w ∈ tables_1) (hg : goodWord w = true) : w ∈ gi_tb := List.mem_filter.mpr ⟨List.mem_append_right _ h, hg⟩
theorem gi_ms {w : Cond} (j : Nat) (h : (k2_sels lw_privs)[j]? = some w) (hg : goodWord w = true) : w ∈ gi_tb := List.mem_filter.mpr ⟨List.mem_append_left _ (List.mem_of_getElem? h), hg⟩
theorem gi_m1 {w : Cond} (j : Nat) (h : tables_1_1[j]? = some w) (hg : goodWord w = true) : w ∈ gi_tb := gi_in (show w ∈ tables_1 from (List.mem_append_left _ (List.mem_of_getElem? h))) hg
theorem gi_m2 {w : Cond} (j : Nat) (h : tables_1_2[j]? = some w) (hg : goodWord w = true) : w ∈ gi_tb := gi_in (show w ∈ tables_1 from (List.mem_append_right _ (List.mem_append_left _ (List.mem_of_getElem? h)))) hg
theorem gi_m3 {w : Cond} (j : Nat) (h : tables_1_3[j]? = some w) (hg : goodWord w = true) : w ∈ gi_tb := gi_in (show w ∈ tables_1 from (List.mem_append_right _ (List.mem_append_right _ (List.mem_append_left _ (List.mem_of_getElem? h))))) hg
theorem gi_m4 {w : Cond} (j : Nat) (h : tables_1_4[j]? = some w) (hg : goodWord w = true) : w ∈ gi_tb := gi_in (show w ∈ tables_1 from (List.mem_append_right _ (List.mem_append_right _ (List.mem_append_right _ (List.mem_append_left _ (List.mem_of_getElem? h)))))) hg
theorem gi_m5 {w : Cond} (j : Nat) (h : tables_1_5[j]? = some w) (hg : goodWord w = true) : w ∈ gi_tb := gi_in (show w ∈ tables_1 from (List.mem_append_right _ (List.mem_append_right _ (List.mem_append_right _ (List.mem_append_right _ (List.mem_append_left _ (List.mem_of_getElem? h))))))) hg
theorem gi_m6 {w : Cond} (j : Nat) (h : tables_1_6[j]? = some w) (hg : goodWord w = true) : w ∈ gi_tb := gi_in (show w ∈ tables_1 from (List.mem_append_right _ (List.mem_append_right _ (List.mem_append_right _ (List.mem_append_right _ (List.mem_append_right _ (List.mem_append_left _ (List.mem_of_getElem? h)))))))) hg
theorem gi_m7 {w : Cond} (j : Nat) (h : tables_1_7[j]? = some w) (hg : goodWord w = true) : w ∈ gi_tb := gi_in (show w ∈ tables_1 from (List.mem_append_right _ (List.mem_append_right _ (List.mem_append_right _ (List.mem_append_right _ (List.mem_append_right _ (List.mem_append_right _ (List.mem_append_left _ (List.mem_of_getElem? h))))))))) hg
theorem gi_m8 {w : Cond} (j : Nat) (h : tables_1_8[j]? = some w) (hg : goodWord w = true) : w ∈ gi_tb := gi_in (show w ∈ tables_1 from (List.mem_append_right _ (List.mem_append_right _ (List.mem_append_right _ (List.mem_append_right _ (List.mem_append_right _ (List.mem_append_right _ (List.mem_append_right _ (List.mem_append_left _ (List.mem_of_getElem? h)))))))))) hg
theorem gi_m9 {w : Cond} (j : Nat) (h : tables_1_9[j]? = some w) (hg : goodWord w = true) : w ∈ gi_tb := gi_in (show w ∈ tables_1 from (List.mem_append_right _ (List.mem_append_right _ (List.mem_append_right _ (List.mem_append_right _ (List.mem_append_right _ (List.mem_append_right _ (List.mem_append_right _ (List.mem_append_right _ (List.mem_of_getElem? h)))))))))) hg
def R_H : String := "AnalysisHouse"
def R_Bu : String := "AnalysisHouse$Building"
def R_Fa : String := "AnalysisHouse$Facts"
def R_Gi : String := "AnalysisHouse$Given"
def R_He : String := "AnalysisHouse$Heap"
def R_Ju : String := "AnalysisHouse$Judge"
def R_Ma : String := "AnalysisHouse$Machine"
def R_Pr : String := "AnalysisHouse$Program"
def R_Re : String := "AnalysisHouse$Reckoner"
def R_Ro : String := "AnalysisHouse$Row"
def R_St : String := "AnalysisHouse$Stepper"
def R_Va : String := "AnalysisHouse$Value"
def R_Mo : String := "AnalysisHouseModel"
def R_La : String := "AnalysisHouseLaw"
def R_Mt : String := "java/lang/Math"
def R_Ar : String := "java/util/Arrays"
def R_Ob : String := "java/lang/Object"
def F_H : u_T := fun k => match k with
  | 0 => ("AnalysisHouse", "program", "LAnalysisHouse$Program;", true)
  | 1 => ("AnalysisHouse", "building", "LAnalysisHouse$Building;", true)
  | 2 => ("AnalysisHouse", "certificate", "LAnalysisHouse$Facts;", true)
  | 3 => ("AnalysisHouse", "other", "LAnalysisHouse$Facts;", true)
  | 4 => ("AnalysisHouse", "stepper", "LAnalysisHouse$Stepper;", true)
  | 5 => ("AnalysisHouse", "judge", "LAnalysisHouse$Judge;", true)
  | 6 => ("AnalysisHouse", "given", "LAnalysisHouse$Given;", true)
  | 7 => ("AnalysisHouse", "machine", "LAnalysisHouse$Machine;", true)
  | 8 => ("AnalysisHouse", "certified", "Z", false)
  | _ => ("AnalysisHouse", "certifiedRoots", "I", false)
def t_H : Nat → FieldType := fun k => match k with
  | 0 => .object "AnalysisHouse$Program"
  | 1 => .object "AnalysisHouse$Building"
  | 2 => .object "AnalysisHouse$Facts"
  | 3 => .object "AnalysisHouse$Facts"
  | 4 => .object "AnalysisHouse$Stepper"
  | 5 => .object "AnalysisHouse$Judge"
  | 6 => .object "AnalysisHouse$Given"
  | 7 => .object "AnalysisHouse$Machine"
  | 8 => .boolean
  | _ => .int
theorem n_H : ∀ a, a < 10 → ∀ b, b < 10 → a ≠ b → (F_H a).2.1 ≠ (F_H b).2.1 := by decide +kernel
theorem t_H_ok : ∀ k, k < 10 → parseFieldDescriptor (F_H k).2.2.1 = some (t_H k) := by decide +kernel
set_option maxRecDepth 20000 in
theorem i_H : ∀ w ∈ u_ws R_H F_H 10, w ∈ gi_tb := List.forall_mem_cons.mpr ⟨(gi_m2 183 rfl rfl), List.forall_mem_cons.mpr ⟨(gi_m2 185 rfl rfl), List.forall_mem_cons.mpr ⟨(gi_m2 187 rfl rfl), List.forall_mem_cons.mpr ⟨(gi_m2 189 rfl rfl), List.forall_mem_cons.mpr ⟨(gi_m2 191 rfl rfl), List.forall_mem_cons.mpr ⟨(gi_m2 193 rfl rfl), List.forall_mem_cons.mpr ⟨(gi_m2 195 rfl rfl), List.forall_mem_cons.mpr ⟨(gi_m2 197 rfl rfl), List.forall_mem_cons.mpr ⟨(gi_m2 199 rfl rfl), List.forall_mem_cons.mpr ⟨(gi_m2 201 rfl rfl), fun _ h => absurd h List.not_mem_nil⟩⟩⟩⟩⟩⟩⟩⟩⟩⟩
def F_Pr : u_T := fun k => match k with
  | 0 => ("AnalysisHouse$Program", "count", "I", false)
  | 1 => ("AnalysisHouse$Program", "arguments", "[I", true)
  | 2 => ("AnalysisHouse$Program", "locals", "[I", true)
  | 3 => ("AnalysisHouse$Program", "kinds", "[I", true)
  | 4 => ("AnalysisHouse$Program", "results", "[I", true)
  | 5 => ("AnalysisHouse$Program", "lengths", "[I", true)
  | 6 => ("AnalysisHouse$Program", "ops", "[I", true)
  | _ => ("AnalysisHouse$Program", "operands", "[I", true)
def t_Pr : Nat → FieldType := fun k => match k with
  | 0 => .int
  | 1 => .array (.int)
  | 2 => .array (.int)
  | 3 => .array (.int)
  | 4 => .array (.int)
  | 5 => .array (.int)
  | 6 => .array (.int)
  | _ => .array (.int)
theorem n_Pr : ∀ a, a < 8 → ∀ b, b < 8 → a ≠ b → (F_Pr a).2.1 ≠ (F_Pr b).2.1 := by decide +kernel
theorem t_Pr_ok : ∀ k, k < 8 → parseFieldDescriptor (F_Pr k).2.2.1 = some (t_Pr k) := by decide +kernel
set_option maxRecDepth 20000 in
theorem i_Pr : ∀ w ∈ u_ws R_Pr F_Pr 8, w ∈ gi_tb := List.forall_mem_cons.mpr ⟨(gi_m1 40 rfl rfl), List.forall_mem_cons.mpr ⟨(gi_m1 42 rfl rfl), List.forall_mem_cons.mpr ⟨(gi_m1 44 rfl rfl), List.forall_mem_cons.mpr ⟨(gi_m1 46 rfl rfl), List.forall_mem_cons.mpr ⟨(gi_m1 48 rfl rfl), List.forall_mem_cons.mpr ⟨(gi_m1 50 rfl rfl), List.forall_mem_cons.mpr ⟨(gi_m1 52 rfl rfl), List.forall_mem_cons.mpr ⟨(gi_m1 54 rfl rfl), fun _ h => absurd h List.not_mem_nil⟩⟩⟩⟩⟩⟩⟩⟩
def F_Bu : u_T := fun k => match k with
  | 0 => ("AnalysisHouse$Building", "made", "Z", false)
  | 1 => ("AnalysisHouse$Building", "sites", "I", false)
  | 2 => ("AnalysisHouse$Building", "fault", "I", false)
  | 3 => ("AnalysisHouse$Building", "faultMethod", "I", false)
  | 4 => ("AnalysisHouse$Building", "faultPlace", "I", false)
  | 5 => ("AnalysisHouse$Building", "program", "LAnalysisHouse$Program;", true)
  | 6 => ("AnalysisHouse$Building", "depths", "[I", true)
  | 7 => ("AnalysisHouse$Building", "shapes", "[I", true)
  | 8 => ("AnalysisHouse$Building", "looked", "[Z", true)
  | 9 => ("AnalysisHouse$Building", "wide", "[Z", true)
  | 10 => ("AnalysisHouse$Building", "siteNumbers", "[I", true)
  | 11 => ("AnalysisHouse$Building", "siteMethods", "[I", true)
  | 12 => ("AnalysisHouse$Building", "sitePlaces", "[I", true)
  | 13 => ("AnalysisHouse$Building", "depth", "I", false)
  | _ => ("AnalysisHouse$Building", "shape", "I", false)
def t_Bu : Nat → FieldType := fun k => match k with
  | 0 => .boolean
  | 1 => .int
  | 2 => .int
  | 3 => .int
  | 4 => .int
  | 5 => .object "AnalysisHouse$Program"
  | 6 => .array (.int)
  | 7 => .array (.int)
  | 8 => .array (.boolean)
  | 9 => .array (.boolean)
  | 10 => .array (.int)
  | 11 => .array (.int)
  | 12 => .array (.int)
  | 13 => .int
  | _ => .int
theorem n_Bu : ∀ a, a < 15 → ∀ b, b < 15 → a ≠ b → (F_Bu a).2.1 ≠ (F_Bu b).2.1 := by decide +kernel
theorem t_Bu_ok : ∀ k, k < 15 → parseFieldDescriptor (F_Bu k).2.2.1 = some (t_Bu k) := by decide +kernel
set_option maxRecDepth 20000 in
theorem i_Bu : ∀ w ∈ u_ws R_Bu F_Bu 15, w ∈ gi_tb := List.forall_mem_cons.mpr ⟨(gi_m1 84 rfl rfl), List.forall_mem_cons.mpr ⟨(gi_m1 86 rfl rfl), List.forall_mem_cons.mpr ⟨(gi_m1 88 rfl rfl), List.forall_mem_cons.mpr ⟨(gi_m1 90 rfl rfl), List.forall_mem_cons.mpr ⟨(gi_m1 92 rfl rfl), List.forall_mem_cons.mpr ⟨(gi_m1 94 rfl rfl), List.forall_mem_cons.mpr ⟨(gi_m1 96 rfl rfl), List.forall_mem_cons.mpr ⟨(gi_m1 98 rfl rfl), List.forall_mem_cons.mpr ⟨(gi_m1 100 rfl rfl), List.forall_mem_cons.mpr ⟨(gi_m1 102 rfl rfl), List.forall_mem_cons.mpr ⟨(gi_m1 104 rfl rfl), List.forall_mem_cons.mpr ⟨(gi_m1 106 rfl rfl), List.forall_mem_cons.mpr ⟨(gi_m1 108 rfl rfl), List.forall_mem_cons.mpr ⟨(gi_m1 110 rfl rfl), List.forall_mem_cons.mpr ⟨(gi_m1 112 rfl rfl), fun _ h => absurd h List.not_mem_nil⟩⟩⟩⟩⟩⟩⟩⟩⟩⟩⟩⟩⟩⟩⟩
def F_Fa : u_T := fun k => match k with
  | 0 => ("AnalysisHouse$Facts", "states", "[LAnalysisHouse$Row;", true)
  | 1 => ("AnalysisHouse$Facts", "lengths", "[LAnalysisHouse$Row;", true)
  | 2 => ("AnalysisHouse$Facts", "elements", "[LAnalysisHouse$Row;", true)
  | 3 => ("AnalysisHouse$Facts", "fields", "[LAnalysisHouse$Row;", true)
  | _ => ("AnalysisHouse$Facts", "results", "[LAnalysisHouse$Row;", true)
def t_Fa : Nat → FieldType := fun k => match k with
  | 0 => .array (.object "AnalysisHouse$Row")
  | 1 => .array (.object "AnalysisHouse$Row")
  | 2 => .array (.object "AnalysisHouse$Row")
  | 3 => .array (.object "AnalysisHouse$Row")
  | _ => .array (.object "AnalysisHouse$Row")
theorem n_Fa : ∀ a, a < 5 → ∀ b, b < 5 → a ≠ b → (F_Fa a).2.1 ≠ (F_Fa b).2.1 := by decide +kernel
theorem t_Fa_ok : ∀ k, k < 5 → parseFieldDescriptor (F_Fa k).2.2.1 = some (t_Fa k) := by decide +kernel
set_option maxRecDepth 20000 in
theorem i_Fa : ∀ w ∈ u_ws R_Fa F_Fa 5, w ∈ gi_tb := List.forall_mem_cons.mpr ⟨(gi_m1 202 rfl rfl), List.forall_mem_cons.mpr ⟨(gi_m1 204 rfl rfl), List.forall_mem_cons.mpr ⟨(gi_m1 206 rfl rfl), List.forall_mem_cons.mpr ⟨(gi_m1 208 rfl rfl), List.forall_mem_cons.mpr ⟨(gi_m1 210 rfl rfl), fun _ h => absurd h List.not_mem_nil⟩⟩⟩⟩⟩
def F_Ro : u_T := fun k => match k with
  | 0 => ("AnalysisHouse$Row", "values", "[LAnalysisHouse$Value;", true)
  | 1 => ("AnalysisHouse$Row", "marks", "[I", true)
  | 2 => ("AnalysisHouse$Row", "size", "I", false)
  | 3 => ("AnalysisHouse$Row", "told", "Z", false)
  | _ => ("AnalysisHouse$Row", "changes", "I", false)
def t_Ro : Nat → FieldType := fun k => match k with
  | 0 => .array (.object "AnalysisHouse$Value")
  | 1 => .array (.int)
  | 2 => .int
  | 3 => .boolean
  | _ => .int
theorem n_Ro : ∀ a, a < 5 → ∀ b, b < 5 → a ≠ b → (F_Ro a).2.1 ≠ (F_Ro b).2.1 := by decide +kernel
theorem t_Ro_ok : ∀ k, k < 5 → parseFieldDescriptor (F_Ro k).2.2.1 = some (t_Ro k) := by decide +kernel
set_option maxRecDepth 20000 in
theorem i_Ro : ∀ w ∈ u_ws R_Ro F_Ro 5, w ∈ gi_tb := List.forall_mem_cons.mpr ⟨(gi_m1 186 rfl rfl), List.forall_mem_cons.mpr ⟨(gi_m1 188 rfl rfl), List.forall_mem_cons.mpr ⟨(gi_m1 190 rfl rfl), List.forall_mem_cons.mpr ⟨(gi_m1 192 rfl rfl), List.forall_mem_cons.mpr ⟨(gi_m1 194 rfl rfl), fun _ h => absurd h List.not_mem_nil⟩⟩⟩⟩⟩
def F_Va : u_T := fun k => match k with
  | 0 => ("AnalysisHouse$Value", "array", "Z", false)
  | 1 => ("AnalysisHouse$Value", "low", "J", false)
  | 2 => ("AnalysisHouse$Value", "high", "J", false)
  | 3 => ("AnalysisHouse$Value", "stride", "J", false)
  | 4 => ("AnalysisHouse$Value", "sites", "I", false)
  | _ => ("AnalysisHouse$Value", "orNull", "Z", false)
def t_Va : Nat → FieldType := fun k => match k with
  | 0 => .boolean
  | 1 => .long
  | 2 => .long
  | 3 => .long
  | 4 => .int
  | _ => .boolean
theorem n_Va : ∀ a, a < 6 → ∀ b, b < 6 → a ≠ b → (F_Va a).2.1 ≠ (F_Va b).2.1 := by decide +kernel
theorem t_Va_ok : ∀ k, k < 6 → parseFieldDescriptor (F_Va k).2.2.1 = some (t_Va k) := by decide +kernel
set_option maxRecDepth 20000 in
theorem i_Va : ∀ w ∈ u_ws R_Va F_Va 6, w ∈ gi_tb := List.forall_mem_cons.mpr ⟨(gi_m1 159 rfl rfl), List.forall_mem_cons.mpr ⟨(gi_m1 161 rfl rfl), List.forall_mem_cons.mpr ⟨(gi_m1 163 rfl rfl), List.forall_mem_cons.mpr ⟨(gi_m1 165 rfl rfl), List.forall_mem_cons.mpr ⟨(gi_m1 167 rfl rfl), List.forall_mem_cons.mpr ⟨(gi_m1 169 rfl rfl), fun _ h => absurd h List.not_mem_nil⟩⟩⟩⟩⟩⟩
def F_St : u_T := fun k => match k with
  | 0 => ("AnalysisHouse$Stepper", "changed", "Z", false)
  | 1 => ("AnalysisHouse$Stepper", "program", "LAnalysisHouse$Program;", true)
  | 2 => ("AnalysisHouse$Stepper", "building", "LAnalysisHouse$Building;", true)
  | 3 => ("AnalysisHouse$Stepper", "reckoner", "LAnalysisHouse$Reckoner;", true)
  | 4 => ("AnalysisHouse$Stepper", "from", "LAnalysisHouse$Facts;", false)
  | 5 => ("AnalysisHouse$Stepper", "to", "LAnalysisHouse$Facts;", false)
  | 6 => ("AnalysisHouse$Stepper", "mood", "I", false)
  | 7 => ("AnalysisHouse$Stepper", "method", "I", false)
  | 8 => ("AnalysisHouse$Stepper", "place", "I", false)
  | 9 => ("AnalysisHouse$Stepper", "work", "LAnalysisHouse$Row;", true)
  | 10 => ("AnalysisHouse$Stepper", "way", "LAnalysisHouse$Row;", true)
  | 11 => ("AnalysisHouse$Stepper", "entry", "LAnalysisHouse$Row;", true)
  | 12 => ("AnalysisHouse$Stepper", "lone", "LAnalysisHouse$Row;", true)
  | 13 => ("AnalysisHouse$Stepper", "x", "LAnalysisHouse$Value;", true)
  | 14 => ("AnalysisHouse$Stepper", "y", "LAnalysisHouse$Value;", true)
  | 15 => ("AnalysisHouse$Stepper", "nextX", "LAnalysisHouse$Value;", true)
  | 16 => ("AnalysisHouse$Stepper", "nextY", "LAnalysisHouse$Value;", true)
  | 17 => ("AnalysisHouse$Stepper", "array", "LAnalysisHouse$Value;", true)
  | _ => ("AnalysisHouse$Stepper", "out", "LAnalysisHouse$Value;", true)
def t_St : Nat → FieldType := fun k => match k with
  | 0 => .boolean
  | 1 => .object "AnalysisHouse$Program"
  | 2 => .object "AnalysisHouse$Building"
  | 3 => .object "AnalysisHouse$Reckoner"
  | 4 => .object "AnalysisHouse$Facts"
  | 5 => .object "AnalysisHouse$Facts"
  | 6 => .int
  | 7 => .int
  | 8 => .int
  | 9 => .object "AnalysisHouse$Row"
  | 10 => .object "AnalysisHouse$Row"
  | 11 => .object "AnalysisHouse$Row"
  | 12 => .object "AnalysisHouse$Row"
  | 13 => .object "AnalysisHouse$Value"
  | 14 => .object "AnalysisHouse$Value"
  | 15 => .object "AnalysisHouse$Value"
  | 16 => .object "AnalysisHouse$Value"
  | 17 => .object "AnalysisHouse$Value"
  | _ => .object "AnalysisHouse$Value"
theorem n_St : ∀ a, a < 19 → ∀ b, b < 19 → a ≠ b → (F_St a).2.1 ≠ (F_St b).2.1 := by decide +kernel
theorem t_St_ok : ∀ k, k < 19 → parseFieldDescriptor (F_St k).2.2.1 = some (t_St k) := by decide +kernel
set_option maxRecDepth 20000 in
theorem i_St : ∀ w ∈ u_ws R_St F_St 19, w ∈ gi_tb := List.forall_mem_cons.mpr ⟨(gi_m2 18 rfl rfl), List.forall_mem_cons.mpr ⟨(gi_m2 20 rfl rfl), List.forall_mem_cons.mpr ⟨(gi_m2 22 rfl rfl), List.forall_mem_cons.mpr ⟨(gi_m2 24 rfl rfl), List.forall_mem_cons.mpr ⟨(gi_m2 26 rfl rfl), List.forall_mem_cons.mpr ⟨(gi_m2 28 rfl rfl), List.forall_mem_cons.mpr ⟨(gi_m2 30 rfl rfl), List.forall_mem_cons.mpr ⟨(gi_m2 32 rfl rfl), List.forall_mem_cons.mpr ⟨(gi_m2 34 rfl rfl), List.forall_mem_cons.mpr ⟨(gi_m2 36 rfl rfl), List.forall_mem_cons.mpr ⟨(gi_m2 38 rfl rfl), List.forall_mem_cons.mpr ⟨(gi_m2 40 rfl rfl), List.forall_mem_cons.mpr ⟨(gi_m2 42 rfl rfl), List.forall_mem_cons.mpr ⟨(gi_m2 44 rfl rfl), List.forall_mem_cons.mpr ⟨(gi_m2 46 rfl rfl), List.forall_mem_cons.mpr ⟨(gi_m2 48 rfl rfl), List.forall_mem_cons.mpr ⟨(gi_m2 50 rfl rfl), List.forall_mem_cons.mpr ⟨(gi_m2 52 rfl rfl), List.forall_mem_cons.mpr ⟨(gi_m2 54 rfl rfl), fun _ h => absurd h List.not_mem_nil⟩⟩⟩⟩⟩⟩⟩⟩⟩⟩⟩⟩⟩⟩⟩⟩⟩⟩⟩
def F_Re : u_T := fun k => match k with
  | 0 => ("AnalysisHouse$Reckoner", "below", "LAnalysisHouse$Value;", true)
  | _ => ("AnalysisHouse$Reckoner", "above", "LAnalysisHouse$Value;", true)
def t_Re : Nat → FieldType := fun k => match k with
  | 0 => .object "AnalysisHouse$Value"
  | _ => .object "AnalysisHouse$Value"
theorem n_Re : ∀ a, a < 2 → ∀ b, b < 2 → a ≠ b → (F_Re a).2.1 ≠ (F_Re b).2.1 := by decide +kernel
theorem t_Re_ok : ∀ k, k < 2 → parseFieldDescriptor (F_Re k).2.2.1 = some (t_Re k) := by decide +kernel
set_option maxRecDepth 20000 in
theorem i_Re : ∀ w ∈ u_ws R_Re F_Re 2, w ∈ gi_tb := List.forall_mem_cons.mpr ⟨(gi_m1 229 rfl rfl), List.forall_mem_cons.mpr ⟨(gi_m1 231 rfl rfl), fun _ h => absurd h List.not_mem_nil⟩⟩
def F_Ju : u_T := fun k => match k with
  | 0 => ("AnalysisHouse$Judge", "program", "LAnalysisHouse$Program;", true)
  | _ => ("AnalysisHouse$Judge", "facts", "LAnalysisHouse$Facts;", true)
def t_Ju : Nat → FieldType := fun k => match k with
  | 0 => .object "AnalysisHouse$Program"
  | _ => .object "AnalysisHouse$Facts"
theorem n_Ju : ∀ a, a < 2 → ∀ b, b < 2 → a ≠ b → (F_Ju a).2.1 ≠ (F_Ju b).2.1 := by decide +kernel
theorem t_Ju_ok : ∀ k, k < 2 → parseFieldDescriptor (F_Ju k).2.2.1 = some (t_Ju k) := by decide +kernel
set_option maxRecDepth 20000 in
theorem i_Ju : ∀ w ∈ u_ws R_Ju F_Ju 2, w ∈ gi_tb := List.forall_mem_cons.mpr ⟨(gi_m2 65 rfl rfl), List.forall_mem_cons.mpr ⟨(gi_m2 67 rfl rfl), fun _ h => absurd h List.not_mem_nil⟩⟩
def F_Gi : u_T := fun k => match k with
  | 0 => ("AnalysisHouse$Given", "count", "I", false)
  | 1 => ("AnalysisHouse$Given", "kinds", "[I", true)
  | 2 => ("AnalysisHouse$Given", "values", "[I", true)
  | _ => ("AnalysisHouse$Given", "ints", "[I", true)
def t_Gi : Nat → FieldType := fun k => match k with
  | 0 => .int
  | 1 => .array (.int)
  | 2 => .array (.int)
  | _ => .array (.int)
theorem n_Gi : ∀ a, a < 4 → ∀ b, b < 4 → a ≠ b → (F_Gi a).2.1 ≠ (F_Gi b).2.1 := by decide +kernel
theorem t_Gi_ok : ∀ k, k < 4 → parseFieldDescriptor (F_Gi k).2.2.1 = some (t_Gi k) := by decide +kernel
set_option maxRecDepth 20000 in
theorem i_Gi : ∀ w ∈ u_ws R_Gi F_Gi 4, w ∈ gi_tb := List.forall_mem_cons.mpr ⟨(gi_m2 81 rfl rfl), List.forall_mem_cons.mpr ⟨(gi_m2 83 rfl rfl), List.forall_mem_cons.mpr ⟨(gi_m2 85 rfl rfl), List.forall_mem_cons.mpr ⟨(gi_m2 87 rfl rfl), fun _ h => absurd h List.not_mem_nil⟩⟩⟩⟩
def F_Ma : u_T := fun k => match k with
  | 0 => ("AnalysisHouse$Machine", "strayedAt", "I", false)
  | 1 => ("AnalysisHouse$Machine", "program", "LAnalysisHouse$Program;", true)
  | 2 => ("AnalysisHouse$Machine", "building", "LAnalysisHouse$Building;", true)
  | 3 => ("AnalysisHouse$Machine", "facts", "LAnalysisHouse$Facts;", true)
  | 4 => ("AnalysisHouse$Machine", "given", "LAnalysisHouse$Given;", true)
  | 5 => ("AnalysisHouse$Machine", "heap", "LAnalysisHouse$Heap;", true)
  | 6 => ("AnalysisHouse$Machine", "report", "[J", true)
  | 7 => ("AnalysisHouse$Machine", "fields", "[I", true)
  | 8 => ("AnalysisHouse$Machine", "slots", "[I", true)
  | 9 => ("AnalysisHouse$Machine", "sizes", "[I", true)
  | 10 => ("AnalysisHouse$Machine", "methods", "[I", true)
  | 11 => ("AnalysisHouse$Machine", "places", "[I", true)
  | 12 => ("AnalysisHouse$Machine", "top", "I", false)
  | 13 => ("AnalysisHouse$Machine", "wrong", "I", false)
  | 14 => ("AnalysisHouse$Machine", "watching", "Z", false)
  | _ => ("AnalysisHouse$Machine", "strayed", "Z", false)
def t_Ma : Nat → FieldType := fun k => match k with
  | 0 => .int
  | 1 => .object "AnalysisHouse$Program"
  | 2 => .object "AnalysisHouse$Building"
  | 3 => .object "AnalysisHouse$Facts"
  | 4 => .object "AnalysisHouse$Given"
  | 5 => .object "AnalysisHouse$Heap"
  | 6 => .array (.long)
  | 7 => .array (.int)
  | 8 => .array (.int)
  | 9 => .array (.int)
  | 10 => .array (.int)
  | 11 => .array (.int)
  | 12 => .int
  | 13 => .int
  | 14 => .boolean
  | _ => .boolean
theorem n_Ma : ∀ a, a < 16 → ∀ b, b < 16 → a ≠ b → (F_Ma a).2.1 ≠ (F_Ma b).2.1 := by decide +kernel
theorem t_Ma_ok : ∀ k, k < 16 → parseFieldDescriptor (F_Ma k).2.2.1 = some (t_Ma k) := by decide +kernel
set_option maxRecDepth 20000 in
theorem i_Ma : ∀ w ∈ u_ws R_Ma F_Ma 16, w ∈ gi_tb := List.forall_mem_cons.mpr ⟨(gi_m2 139 rfl rfl), List.forall_mem_cons.mpr ⟨(gi_m2 141 rfl rfl), List.forall_mem_cons.mpr ⟨(gi_m2 143 rfl rfl), List.forall_mem_cons.mpr ⟨(gi_m2 145 rfl rfl), List.forall_mem_cons.mpr ⟨(gi_m2 147 rfl rfl), List.forall_mem_cons.mpr ⟨(gi_m2 149 rfl rfl), List.forall_mem_cons.mpr ⟨(gi_m2 151 rfl rfl), List.forall_mem_cons.mpr ⟨(gi_m2 153 rfl rfl), List.forall_mem_cons.mpr ⟨(gi_m2 155 rfl rfl), List.forall_mem_cons.mpr ⟨(gi_m2 157 rfl rfl), List.forall_mem_cons.mpr ⟨(gi_m2 159 rfl rfl), List.forall_mem_cons.mpr ⟨(gi_m2 161 rfl rfl), List.forall_mem_cons.mpr ⟨(gi_m2 163 rfl rfl), List.forall_mem_cons.mpr ⟨(gi_m2 165 rfl rfl), List.forall_mem_cons.mpr ⟨(gi_m2 167 rfl rfl), List.forall_mem_cons.mpr ⟨(gi_m2 169 rfl rfl), fun _ h => absurd h List.not_mem_nil⟩⟩⟩⟩⟩⟩⟩⟩⟩⟩⟩⟩⟩⟩⟩⟩
def F_He : u_T := fun k => match k with
  | 0 => ("AnalysisHouse$Heap", "count", "I", false)
  | 1 => ("AnalysisHouse$Heap", "used", "I", false)
  | 2 => ("AnalysisHouse$Heap", "starts", "[I", true)
  | 3 => ("AnalysisHouse$Heap", "lengths", "[I", true)
  | 4 => ("AnalysisHouse$Heap", "sites", "[I", true)
  | _ => ("AnalysisHouse$Heap", "ints", "[I", true)
def t_He : Nat → FieldType := fun k => match k with
  | 0 => .int
  | 1 => .int
  | 2 => .array (.int)
  | 3 => .array (.int)
  | 4 => .array (.int)
  | _ => .array (.int)
theorem n_He : ∀ a, a < 6 → ∀ b, b < 6 → a ≠ b → (F_He a).2.1 ≠ (F_He b).2.1 := by decide +kernel
theorem t_He_ok : ∀ k, k < 6 → parseFieldDescriptor (F_He k).2.2.1 = some (t_He k) := by decide +kernel
set_option maxRecDepth 20000 in
theorem i_He : ∀ w ∈ u_ws R_He F_He 6, w ∈ gi_tb := List.forall_mem_cons.mpr ⟨(gi_m2 109 rfl rfl), List.forall_mem_cons.mpr ⟨(gi_m2 111 rfl rfl), List.forall_mem_cons.mpr ⟨(gi_m2 113 rfl rfl), List.forall_mem_cons.mpr ⟨(gi_m2 115 rfl rfl), List.forall_mem_cons.mpr ⟨(gi_m2 117 rfl rfl), List.forall_mem_cons.mpr ⟨(gi_m2 119 rfl rfl), fun _ h => absurd h List.not_mem_nil⟩⟩⟩⟩⟩⟩
def F_Mo : u_T := fun k => match k with
  | 0 => ("AnalysisHouseModel", "methods", "I", false)
  | 1 => ("AnalysisHouseModel", "arguments", "[I", true)
  | 2 => ("AnalysisHouseModel", "locals", "[I", true)
  | 3 => ("AnalysisHouseModel", "kinds", "[I", true)
  | 4 => ("AnalysisHouseModel", "results", "[I", true)
  | 5 => ("AnalysisHouseModel", "sizes", "[I", true)
  | 6 => ("AnalysisHouseModel", "ops", "[I", true)
  | 7 => ("AnalysisHouseModel", "operands", "[I", true)
  | 8 => ("AnalysisHouseModel", "isBuilt", "Z", false)
  | 9 => ("AnalysisHouseModel", "hasCertificate", "Z", false)
  | 10 => ("AnalysisHouseModel", "faultMethod", "I", false)
  | 11 => ("AnalysisHouseModel", "faultPlace", "I", false)
  | 12 => ("AnalysisHouseModel", "shapeDepth", "[I", true)
  | 13 => ("AnalysisHouseModel", "shapeBits", "[I", true)
  | 14 => ("AnalysisHouseModel", "isLooked", "[Z", true)
  | 15 => ("AnalysisHouseModel", "siteOf", "[I", true)
  | 16 => ("AnalysisHouseModel", "isHead", "[Z", true)
  | 17 => ("AnalysisHouseModel", "siteAt", "[I", true)
  | 18 => ("AnalysisHouseModel", "sites", "I", false)
  | 19 => ("AnalysisHouseModel", "depth", "I", false)
  | 20 => ("AnalysisHouseModel", "bits", "I", false)
  | 21 => ("AnalysisHouseModel", "isWrong", "Z", false)
  | 22 => ("AnalysisHouseModel", "rl", "J", false)
  | 23 => ("AnalysisHouseModel", "rh", "J", false)
  | 24 => ("AnalysisHouseModel", "rs", "J", false)
  | 25 => ("AnalysisHouseModel", "negLow", "J", false)
  | 26 => ("AnalysisHouseModel", "negHigh", "J", false)
  | 27 => ("AnalysisHouseModel", "posLow", "J", false)
  | 28 => ("AnalysisHouseModel", "posHigh", "J", false)
  | 29 => ("AnalysisHouseModel", "hasNeg", "Z", false)
  | 30 => ("AnalysisHouseModel", "hasPos", "Z", false)
  | 31 => ("AnalysisHouseModel", "isState", "[Z", true)
  | 32 => ("AnalysisHouseModel", "low", "[J", true)
  | 33 => ("AnalysisHouseModel", "high", "[J", true)
  | 34 => ("AnalysisHouseModel", "stride", "[J", true)
  | 35 => ("AnalysisHouseModel", "siteBits", "[I", true)
  | 36 => ("AnalysisHouseModel", "isNull", "[Z", true)
  | 37 => ("AnalysisHouseModel", "mark", "[B", true)
  | 38 => ("AnalysisHouseModel", "changes", "[I", true)
  | 39 => ("AnalysisHouseModel", "isTold", "[Z", true)
  | 40 => ("AnalysisHouseModel", "toldLow", "[J", true)
  | 41 => ("AnalysisHouseModel", "toldHigh", "[J", true)
  | 42 => ("AnalysisHouseModel", "toldStride", "[J", true)
  | 43 => ("AnalysisHouseModel", "toldBits", "[I", true)
  | 44 => ("AnalysisHouseModel", "toldNull", "[Z", true)
  | 45 => ("AnalysisHouseModel", "toldChanges", "[I", true)
  | 46 => ("AnalysisHouseModel", "roots", "I", false)
  | 47 => ("AnalysisHouseModel", "mode", "I", false)
  | 48 => ("AnalysisHouseModel", "readAt", "I", false)
  | 49 => ("AnalysisHouseModel", "readTold", "I", false)
  | 50 => ("AnalysisHouseModel", "isChanged", "Z", false)
  | 51 => ("AnalysisHouseModel", "holds", "Z", false)
  | 52 => ("AnalysisHouseModel", "wl", "[J", true)
  | 53 => ("AnalysisHouseModel", "wh", "[J", true)
  | 54 => ("AnalysisHouseModel", "ws", "[J", true)
  | 55 => ("AnalysisHouseModel", "wb", "[I", true)
  | 56 => ("AnalysisHouseModel", "wn", "[Z", true)
  | 57 => ("AnalysisHouseModel", "wm", "[I", true)
  | 58 => ("AnalysisHouseModel", "top", "I", false)
  | 59 => ("AnalysisHouseModel", "method", "I", false)
  | 60 => ("AnalysisHouseModel", "kl", "[J", true)
  | 61 => ("AnalysisHouseModel", "kh", "[J", true)
  | 62 => ("AnalysisHouseModel", "ks", "[J", true)
  | 63 => ("AnalysisHouseModel", "kb", "[I", true)
  | 64 => ("AnalysisHouseModel", "kn", "[Z", true)
  | 65 => ("AnalysisHouseModel", "km", "[I", true)
  | 66 => ("AnalysisHouseModel", "keptTop", "I", false)
  | 67 => ("AnalysisHouseModel", "argumentMany", "I", false)
  | 68 => ("AnalysisHouseModel", "argumentKind", "[I", true)
  | 69 => ("AnalysisHouseModel", "argumentValue", "[I", true)
  | 70 => ("AnalysisHouseModel", "argumentCells", "[I", true)
  | 71 => ("AnalysisHouseModel", "cells", "[I", true)
  | 72 => ("AnalysisHouseModel", "arrayFrom", "[I", true)
  | 73 => ("AnalysisHouseModel", "arrayLength", "[I", true)
  | 74 => ("AnalysisHouseModel", "arraySite", "[I", true)
  | 75 => ("AnalysisHouseModel", "arrays", "I", false)
  | 76 => ("AnalysisHouseModel", "cellMany", "I", false)
  | 77 => ("AnalysisHouseModel", "fieldNow", "[I", true)
  | 78 => ("AnalysisHouseModel", "slots", "[I", true)
  | 79 => ("AnalysisHouseModel", "frameAt", "[I", true)
  | 80 => ("AnalysisHouseModel", "frameTop", "[I", true)
  | 81 => ("AnalysisHouseModel", "frames", "I", false)
  | 82 => ("AnalysisHouseModel", "wrong", "I", false)
  | 83 => ("AnalysisHouseModel", "begun", "I", false)
  | 84 => ("AnalysisHouseModel", "lastAt", "I", false)
  | 85 => ("AnalysisHouseModel", "deepest", "I", false)
  | 86 => ("AnalysisHouseModel", "given", "J", false)
  | 87 => ("AnalysisHouseModel", "outsideAt", "I", false)
  | _ => ("AnalysisHouseModel", "isAstray", "Z", false)
def t_Mo : Nat → FieldType := fun k => match k with
  | 0 => .int
  | 1 => .array (.int)
  | 2 => .array (.int)
  | 3 => .array (.int)
  | 4 => .array (.int)
  | 5 => .array (.int)
  | 6 => .array (.int)
  | 7 => .array (.int)
  | 8 => .boolean
  | 9 => .boolean
  | 10 => .int
  | 11 => .int
  | 12 => .array (.int)
  | 13 => .array (.int)
  | 14 => .array (.boolean)
  | 15 => .array (.int)
  | 16 => .array (.boolean)
  | 17 => .array (.int)
  | 18 => .int
  | 19 => .int
  | 20 => .int
  | 21 => .boolean
  | 22 => .long
  | 23 => .long
  | 24 => .long
  | 25 => .long
  | 26 => .long
  | 27 => .long
  | 28 => .long
  | 29 => .boolean
  | 30 => .boolean
  | 31 => .array (.boolean)
  | 32 => .array (.long)
  | 33 => .array (.long)
  | 34 => .array (.long)
  | 35 => .array (.int)
  | 36 => .array (.boolean)
  | 37 => .array (.byte)
  | 38 => .array (.int)
  | 39 => .array (.boolean)
  | 40 => .array (.long)
  | 41 => .array (.long)
  | 42 => .array (.long)
  | 43 => .array (.int)
  | 44 => .array (.boolean)
  | 45 => .array (.int)
  | 46 => .int
  | 47 => .int
  | 48 => .int
  | 49 => .int
  | 50 => .boolean
  | 51 => .boolean
  | 52 => .array (.long)
  | 53 => .array (.long)
  | 54 => .array (.long)
  | 55 => .array (.int)
  | 56 => .array (.boolean)
  | 57 => .array (.int)
  | 58 => .int
  | 59 => .int
  | 60 => .array (.long)
  | 61 => .array (.long)
  | 62 => .array (.long)
  | 63 => .array (.int)
  | 64 => .array (.boolean)
  | 65 => .array (.int)
  | 66 => .int
  | 67 => .int
  | 68 => .array (.int)
  | 69 => .array (.int)
  | 70 => .array (.int)
  | 71 => .array (.int)
  | 72 => .array (.int)
  | 73 => .array (.int)
  | 74 => .array (.int)
  | 75 => .int
  | 76 => .int
  | 77 => .array (.int)
  | 78 => .array (.int)
  | 79 => .array (.int)
  | 80 => .array (.int)
  | 81 => .int
  | 82 => .int
  | 83 => .int
  | 84 => .int
  | 85 => .int
  | 86 => .long
  | 87 => .int
  | _ => .boolean
theorem n_Mo : ∀ a, a < 89 → ∀ b, b < 89 → a ≠ b → (F_Mo a).2.1 ≠ (F_Mo b).2.1 := by decide +kernel
theorem t_Mo_ok : ∀ k, k < 89 → parseFieldDescriptor (F_Mo k).2.2.1 = some (t_Mo k) := by decide +kernel
set_option maxRecDepth 20000 in
theorem i_Mo : ∀ w ∈ u_ws R_Mo F_Mo 89, w ∈ gi_tb := List.forall_mem_cons.mpr ⟨(gi_m6 115 rfl rfl), List.forall_mem_cons.mpr ⟨(gi_m6 117 rfl rfl), List.forall_mem_cons.mpr ⟨(gi_m6 119 rfl rfl), List.forall_mem_cons.mpr ⟨(gi_m6 121 rfl rfl), List.forall_mem_cons.mpr ⟨(gi_m6 123 rfl rfl), List.forall_mem_cons.mpr ⟨(gi_m6 125 rfl rfl), List.forall_mem_cons.mpr ⟨(gi_m6 127 rfl rfl), List.forall_mem_cons.mpr ⟨(gi_m6 129 rfl rfl), List.forall_mem_cons.mpr ⟨(gi_m6 131 rfl rfl), List.forall_mem_cons.mpr ⟨(gi_m6 133 rfl rfl), List.forall_mem_cons.mpr ⟨(gi_m6 135 rfl rfl), List.forall_mem_cons.mpr ⟨(gi_m6 137 rfl rfl), List.forall_mem_cons.mpr ⟨(gi_m6 139 rfl rfl), List.forall_mem_cons.mpr ⟨(gi_m6 141 rfl rfl), List.forall_mem_cons.mpr ⟨(gi_m6 143 rfl rfl), List.forall_mem_cons.mpr ⟨(gi_m6 145 rfl rfl), List.forall_mem_cons.mpr ⟨(gi_m6 147 rfl rfl), List.forall_mem_cons.mpr ⟨(gi_m6 149 rfl rfl), List.forall_mem_cons.mpr ⟨(gi_m6 151 rfl rfl), List.forall_mem_cons.mpr ⟨(gi_m6 153 rfl rfl), List.forall_mem_cons.mpr ⟨(gi_m6 155 rfl rfl), List.forall_mem_cons.mpr ⟨(gi_m6 157 rfl rfl), List.forall_mem_cons.mpr ⟨(gi_m6 159 rfl rfl), List.forall_mem_cons.mpr ⟨(gi_m6 161 rfl rfl), List.forall_mem_cons.mpr ⟨(gi_m6 163 rfl rfl), List.forall_mem_cons.mpr ⟨(gi_m6 165 rfl rfl), List.forall_mem_cons.mpr ⟨(gi_m6 167 rfl rfl), List.forall_mem_cons.mpr ⟨(gi_m6 169 rfl rfl), List.forall_mem_cons.mpr ⟨(gi_m6 171 rfl rfl), List.forall_mem_cons.mpr ⟨(gi_m6 173 rfl rfl), List.forall_mem_cons.mpr ⟨(gi_m6 175 rfl rfl), List.forall_mem_cons.mpr ⟨(gi_m6 177 rfl rfl), List.forall_mem_cons.mpr ⟨(gi_m6 179 rfl rfl), List.forall_mem_cons.mpr ⟨(gi_m6 181 rfl rfl), List.forall_mem_cons.mpr ⟨(gi_m6 183 rfl rfl), List.forall_mem_cons.mpr ⟨(gi_m6 185 rfl rfl), List.forall_mem_cons.mpr ⟨(gi_m6 187 rfl rfl), List.forall_mem_cons.mpr ⟨(gi_m6 189 rfl rfl), List.forall_mem_cons.mpr ⟨(gi_m6 191 rfl rfl), List.forall_mem_cons.mpr ⟨(gi_m6 193 rfl rfl), List.forall_mem_cons.mpr ⟨(gi_m6 195 rfl rfl), List.forall_mem_cons.mpr ⟨(gi_m6 197 rfl rfl), List.forall_mem_cons.mpr ⟨(gi_m6 199 rfl rfl), List.forall_mem_cons.mpr ⟨(gi_m6 201 rfl rfl), List.forall_mem_cons.mpr ⟨(gi_m6 203 rfl rfl), List.forall_mem_cons.mpr ⟨(gi_m6 205 rfl rfl), List.forall_mem_cons.mpr ⟨(gi_m6 207 rfl rfl), List.forall_mem_cons.mpr ⟨(gi_m6 209 rfl rfl), List.forall_mem_cons.mpr ⟨(gi_m6 211 rfl rfl), List.forall_mem_cons.mpr ⟨(gi_m6 213 rfl rfl), List.forall_mem_cons.mpr ⟨(gi_m6 215 rfl rfl), List.forall_mem_cons.mpr ⟨(gi_m6 217 rfl rfl), List.forall_mem_cons.mpr ⟨(gi_m6 219 rfl rfl), List.forall_mem_cons.mpr ⟨(gi_m6 221 rfl rfl), List.forall_mem_cons.mpr ⟨(gi_m6 223 rfl rfl), List.forall_mem_cons.mpr ⟨(gi_m6 225 rfl rfl), List.forall_mem_cons.mpr ⟨(gi_m6 227 rfl rfl), List.forall_mem_cons.mpr ⟨(gi_m6 229 rfl rfl), List.forall_mem_cons.mpr ⟨(gi_m6 231 rfl rfl), List.forall_mem_cons.mpr ⟨(gi_m6 233 rfl rfl), List.forall_mem_cons.mpr ⟨(gi_m6 235 rfl rfl), List.forall_mem_cons.mpr ⟨(gi_m6 237 rfl rfl), List.forall_mem_cons.mpr ⟨(gi_m6 239 rfl rfl), List.forall_mem_cons.mpr ⟨(gi_m7 1 rfl rfl), List.forall_mem_cons.mpr ⟨(gi_m7 3 rfl rfl), List.forall_mem_cons.mpr ⟨(gi_m7 5 rfl rfl), List.forall_mem_cons.mpr ⟨(gi_m7 7 rfl rfl), List.forall_mem_cons.mpr ⟨(gi_m7 9 rfl rfl), List.forall_mem_cons.mpr ⟨(gi_m7 11 rfl rfl), List.forall_mem_cons.mpr ⟨(gi_m7 13 rfl rfl), List.forall_mem_cons.mpr ⟨(gi_m7 15 rfl rfl), List.forall_mem_cons.mpr ⟨(gi_m7 17 rfl rfl), List.forall_mem_cons.mpr ⟨(gi_m7 19 rfl rfl), List.forall_mem_cons.mpr ⟨(gi_m7 21 rfl rfl), List.forall_mem_cons.mpr ⟨(gi_m7 23 rfl rfl), List.forall_mem_cons.mpr ⟨(gi_m7 25 rfl rfl), List.forall_mem_cons.mpr ⟨(gi_m7 27 rfl rfl), List.forall_mem_cons.mpr ⟨(gi_m7 29 rfl rfl), List.forall_mem_cons.mpr ⟨(gi_m7 31 rfl rfl), List.forall_mem_cons.mpr ⟨(gi_m7 33 rfl rfl), List.forall_mem_cons.mpr ⟨(gi_m7 35 rfl rfl), List.forall_mem_cons.mpr ⟨(gi_m7 37 rfl rfl), List.forall_mem_cons.mpr ⟨(gi_m7 39 rfl rfl), List.forall_mem_cons.mpr ⟨(gi_m7 41 rfl rfl), List.forall_mem_cons.mpr ⟨(gi_m7 43 rfl rfl), List.forall_mem_cons.mpr ⟨(gi_m7 45 rfl rfl), List.forall_mem_cons.mpr ⟨(gi_m7 47 rfl rfl), List.forall_mem_cons.mpr ⟨(gi_m7 49 rfl rfl), List.forall_mem_cons.mpr ⟨(gi_m7 51 rfl rfl), fun _ h => absurd h List.not_mem_nil⟩⟩⟩⟩⟩⟩⟩⟩⟩⟩⟩⟩⟩⟩⟩⟩⟩⟩⟩⟩⟩⟩⟩⟩⟩⟩⟩⟩⟩⟩⟩⟩⟩⟩⟩⟩⟩⟩⟩⟩⟩⟩⟩⟩⟩⟩⟩⟩⟩⟩⟩⟩⟩⟩⟩⟩⟩⟩⟩⟩⟩⟩⟩⟩⟩⟩⟩⟩⟩⟩⟩⟩⟩⟩⟩⟩⟩⟩⟩⟩⟩⟩⟩⟩⟩⟩⟩⟩⟩
def vwCl : List vw_C := [(R_H, F_H, 10), (R_Pr, F_Pr, 8), (R_Bu, F_Bu, 15), (R_Fa, F_Fa, 5), (R_Ro, F_Ro, 5), (R_Va, F_Va, 6), (R_St, F_St, 19), (R_Re, F_Re, 2), (R_Ju, F_Ju, 2), (R_Gi, F_Gi, 4), (R_Ma, F_Ma, 16), (R_He, F_He, 6), (R_Mo, F_Mo, 89)]
def gi_kinds : List FieldType := [.int, .boolean, .long, .byte, .object "AnalysisHouse$Row", .object "AnalysisHouse$Value"]
def gi_tys (cA : Nat → ClassId) : List (ClassId × FieldType) := (List.range gi_kinds.length).map (fun k => (cA k, gi_kinds.getD k .int))
def y_H_init : MethodName := ⟨R_H, "<init>", "()V"⟩
def y_Ob_init : MethodName := ⟨R_Ob, "<init>", "()V"⟩
def y_Pr_init : MethodName := ⟨R_Pr, "<init>", "()V"⟩
def y_Bu_init : MethodName := ⟨R_Bu, "<init>", "(LAnalysisHouse$Program;)V"⟩
def y_Fa_init : MethodName := ⟨R_Fa, "<init>", "()V"⟩
def y_Ro_init : MethodName := ⟨R_Ro, "<init>", "(I)V"⟩
def y_Va_init : MethodName := ⟨R_Va, "<init>", "()V"⟩
def y_St_init : MethodName := ⟨R_St, "<init>", "(LAnalysisHouse$Program;LAnalysisHouse$Building;LAnalysisHouse$Facts;)V"⟩
def y_Re_init : MethodName := ⟨R_Re, "<init>", "()V"⟩
def y_Ju_init : MethodName := ⟨R_Ju, "<init>", "(LAnalysisHouse$Program;LAnalysisHouse$Facts;)V"⟩
def y_Gi_init : MethodName := ⟨R_Gi, "<init>", "()V"⟩
def y_Ma_init : MethodName := ⟨R_Ma, "<init>", "(LAnalysisHouse$Program;LAnalysisHouse$Building;LAnalysisHouse$Facts;LAnalysisHouse$Given;)V"⟩
def y_He_init : MethodName := ⟨R_He, "<init>", "()V"⟩
def y_H_method : MethodName := ⟨R_H, "method", "(IIII)I"⟩
def y_Pr_addMethod : MethodName := ⟨R_Pr, "addMethod", "(IIII)I"⟩
def y_H_takeAway : MethodName := ⟨R_H, "takeAway", "()V"⟩
def y_H_code : MethodName := ⟨R_H, "code", "(III)I"⟩
def y_Pr_addInstruction : MethodName := ⟨R_Pr, "addInstruction", "(III)I"⟩
def y_Pr_hasMethod : MethodName := ⟨R_Pr, "hasMethod", "(I)Z"⟩
def y_H_wipe : MethodName := ⟨R_H, "wipe", "(I)I"⟩
def y_Pr_clear : MethodName := ⟨R_Pr, "clear", "(I)I"⟩
def y_H_build : MethodName := ⟨R_H, "build", "()I"⟩
def y_Bu_make : MethodName := ⟨R_Bu, "make", "()I"⟩
def y_Bu_findOperandFault : MethodName := ⟨R_Bu, "findOperandFault", "()V"⟩
def y_Pr_lengthOf : MethodName := ⟨R_Pr, "lengthOf", "(I)I"⟩
def y_Pr_opAt : MethodName := ⟨R_Pr, "opAt", "(II)I"⟩
def y_Pr_hasPlace : MethodName := ⟨R_Pr, "hasPlace", "(II)Z"⟩
def y_Pr_operandAt : MethodName := ⟨R_Pr, "operandAt", "(II)I"⟩
def y_Pr_hasOperand : MethodName := ⟨R_Pr, "hasOperand", "(III)Z"⟩
def y_Pr_localsOf : MethodName := ⟨R_Pr, "localsOf", "(I)I"⟩
def y_Bu_faultIs : MethodName := ⟨R_Bu, "faultIs", "(III)V"⟩
def y_Bu_shapeMethod : MethodName := ⟨R_Bu, "shapeMethod", "(I)V"⟩
def y_Bu_lookAt : MethodName := ⟨R_Bu, "lookAt", "(II)V"⟩
def y_Bu_takeShape : MethodName := ⟨R_Bu, "takeShape", "(III)Z"⟩
def y_Pr_holdsArray : MethodName := ⟨R_Pr, "holdsArray", "(II)Z"⟩
def y_Bu_takeKind : MethodName := ⟨R_Bu, "takeKind", "(I)Z"⟩
def y_Pr_resultSort : MethodName := ⟨R_Pr, "resultSort", "(I)I"⟩
def y_Pr_argumentsOf : MethodName := ⟨R_Pr, "argumentsOf", "(I)I"⟩
def y_Bu_putShape : MethodName := ⟨R_Bu, "putShape", "(III)V"⟩
def y_Bu_putKind : MethodName := ⟨R_Bu, "putKind", "(Z)V"⟩
def y_Bu_swapKinds : MethodName := ⟨R_Bu, "swapKinds", "()V"⟩
def y_Bu_shapeComes : MethodName := ⟨R_Bu, "shapeComes", "(III)V"⟩
def y_Bu_leastUnlooked : MethodName := ⟨R_Bu, "leastUnlooked", "(II)I"⟩
def y_Bu_findSites : MethodName := ⟨R_Bu, "findSites", "()V"⟩
def y_Bu_findWidePlaces : MethodName := ⟨R_Bu, "findWidePlaces", "()V"⟩
def y_H_faultAt : MethodName := ⟨R_H, "faultAt", "(I)I"⟩
def y_H_analyze : MethodName := ⟨R_H, "analyze", "(I)I"⟩
def y_Fa_begin : MethodName := ⟨R_Fa, "begin", "()V"⟩
def y_Ro_empty : MethodName := ⟨R_Ro, "empty", "()V"⟩
def y_Ro_push : MethodName := ⟨R_Ro, "push", "()LAnalysisHouse$Value;"⟩
def y_Ro_markTop : MethodName := ⟨R_Ro, "markTop", "(I)V"⟩
def y_Ro_hasIndex : MethodName := ⟨R_Ro, "hasIndex", "(I)Z"⟩
def y_Ro_valueAt : MethodName := ⟨R_Ro, "valueAt", "(I)LAnalysisHouse$Value;"⟩
def y_Va_beSingle : MethodName := ⟨R_Va, "beSingle", "(J)V"⟩
def y_Va_beSpan : MethodName := ⟨R_Va, "beSpan", "(JJJ)V"⟩
def y_Va_beAll : MethodName := ⟨R_Va, "beAll", "()V"⟩
def y_St_prepare : MethodName := ⟨R_St, "prepare", "(ILAnalysisHouse$Facts;LAnalysisHouse$Facts;)V"⟩
def y_H_pass : MethodName := ⟨R_H, "pass", "(I)V"⟩
def y_H_isRoot : MethodName := ⟨R_H, "isRoot", "(II)Z"⟩
def y_St_enterRoot : MethodName := ⟨R_St, "enterRoot", "(I)V"⟩
def y_St_openEntry : MethodName := ⟨R_St, "openEntry", "(I)V"⟩
def y_Va_beSet : MethodName := ⟨R_Va, "beSet", "(IZ)V"⟩
def y_Fa_stateAt : MethodName := ⟨R_Fa, "stateAt", "(II)LAnalysisHouse$Row;"⟩
def y_St_come : MethodName := ⟨R_St, "come", "(LAnalysisHouse$Row;LAnalysisHouse$Row;Z)V"⟩
def y_Ro_covers : MethodName := ⟨R_Ro, "covers", "(LAnalysisHouse$Row;)Z"⟩
def y_Va_covers : MethodName := ⟨R_Va, "covers", "(LAnalysisHouse$Value;)Z"⟩
def y_Ro_join : MethodName := ⟨R_Ro, "join", "(LAnalysisHouse$Row;Z)Z"⟩
def y_Ro_copy : MethodName := ⟨R_Ro, "copy", "(LAnalysisHouse$Row;)V"⟩
def y_Mt_min_0 : MethodName := ⟨R_Mt, "min", "(II)I"⟩
def y_Mt_min_1 : MethodName := ⟨R_Mt, "min", "(JJ)J"⟩
def y_Va_copy : MethodName := ⟨R_Va, "copy", "(LAnalysisHouse$Value;)V"⟩
def y_Va_both : MethodName := ⟨R_Va, "both", "(LAnalysisHouse$Value;)V"⟩
def y_Va_isNothing : MethodName := ⟨R_Va, "isNothing", "()Z"⟩
def y_H_gcd : MethodName := ⟨R_H, "gcd", "(JJ)J"⟩
def y_Mt_abs : MethodName := ⟨R_Mt, "abs", "(J)J"⟩
def y_Mt_max_0 : MethodName := ⟨R_Mt, "max", "(JJ)J"⟩
def y_Mt_max_1 : MethodName := ⟨R_Mt, "max", "(II)I"⟩
def y_Va_spread : MethodName := ⟨R_Va, "spread", "(JJ)V"⟩
def y_St_step : MethodName := ⟨R_St, "step", "(II)V"⟩
def y_St_move : MethodName := ⟨R_St, "move", "(II)Z"⟩
def y_Ro_pop : MethodName := ⟨R_Ro, "pop", "(LAnalysisHouse$Value;)I"⟩
def y_Ro_dropMarks : MethodName := ⟨R_Ro, "dropMarks", "(I)V"⟩
def y_Ro_swapTop : MethodName := ⟨R_Ro, "swapTop", "()V"⟩
def y_St_reckon : MethodName := ⟨R_St, "reckon", "(I)Z"⟩
def y_Va_loseAtEnds : MethodName := ⟨R_Va, "loseAtEnds", "(J)V"⟩
def y_Va_within : MethodName := ⟨R_Va, "within", "(JJ)V"⟩
def y_Ro_tell : MethodName := ⟨R_Ro, "tell", "(ILAnalysisHouse$Value;)V"⟩
def y_Re_reckon : MethodName := ⟨R_Re, "reckon", "(ILAnalysisHouse$Value;LAnalysisHouse$Value;LAnalysisHouse$Value;)V"⟩
def y_Re_turn : MethodName := ⟨R_Re, "turn", "(JJJLAnalysisHouse$Value;)V"⟩
def y_Mt_floorMod : MethodName := ⟨R_Mt, "floorMod", "(JJ)J"⟩
def y_Va_isSingle : MethodName := ⟨R_Va, "isSingle", "()Z"⟩
def y_Re_times : MethodName := ⟨R_Re, "times", "(JLAnalysisHouse$Value;LAnalysisHouse$Value;)V"⟩
def y_Re_multiply : MethodName := ⟨R_Re, "multiply", "(LAnalysisHouse$Value;LAnalysisHouse$Value;LAnalysisHouse$Value;)V"⟩
def y_Re_divide : MethodName := ⟨R_Re, "divide", "(LAnalysisHouse$Value;LAnalysisHouse$Value;LAnalysisHouse$Value;)V"⟩
def y_Va_has : MethodName := ⟨R_Va, "has", "(J)Z"⟩
def y_Re_splitDivisor : MethodName := ⟨R_Re, "splitDivisor", "(LAnalysisHouse$Value;)V"⟩
def y_Va_beNothing : MethodName := ⟨R_Va, "beNothing", "()V"⟩
def y_Re_reachQuotients : MethodName := ⟨R_Re, "reachQuotients", "(LAnalysisHouse$Value;LAnalysisHouse$Value;LAnalysisHouse$Value;)V"⟩
def y_Va_reach : MethodName := ⟨R_Va, "reach", "(J)V"⟩
def y_Re_remain : MethodName := ⟨R_Re, "remain", "(LAnalysisHouse$Value;LAnalysisHouse$Value;LAnalysisHouse$Value;)V"⟩
def y_Re_combine : MethodName := ⟨R_Re, "combine", "(ILAnalysisHouse$Value;LAnalysisHouse$Value;LAnalysisHouse$Value;)V"⟩
def y_Re_shiftRight : MethodName := ⟨R_Re, "shiftRight", "(LAnalysisHouse$Value;LAnalysisHouse$Value;LAnalysisHouse$Value;)V"⟩
def y_Re_shiftBare : MethodName := ⟨R_Re, "shiftBare", "(LAnalysisHouse$Value;LAnalysisHouse$Value;LAnalysisHouse$Value;)V"⟩
def y_Bu_isWide : MethodName := ⟨R_Bu, "isWide", "(II)Z"⟩
def y_St_compare : MethodName := ⟨R_St, "compare", "(II)V"⟩
def y_St_narrow : MethodName := ⟨R_St, "narrow", "(I)V"⟩
def y_St_opens : MethodName := ⟨R_St, "opens", "(II)Z"⟩
def y_St_askNull : MethodName := ⟨R_St, "askNull", "(II)V"⟩
def y_St_opensNull : MethodName := ⟨R_St, "opensNull", "(ZI)Z"⟩
def y_St_makeArray : MethodName := ⟨R_St, "makeArray", "()Z"⟩
def y_Bu_siteAt : MethodName := ⟨R_Bu, "siteAt", "(II)I"⟩
def y_Fa_lengthOf : MethodName := ⟨R_Fa, "lengthOf", "(I)LAnalysisHouse$Row;"⟩
def y_St_alone : MethodName := ⟨R_St, "alone", "(LAnalysisHouse$Value;)LAnalysisHouse$Row;"⟩
def y_Fa_elementOf : MethodName := ⟨R_Fa, "elementOf", "(I)LAnalysisHouse$Row;"⟩
def y_St_useArray : MethodName := ⟨R_St, "useArray", "(I)Z"⟩
def y_St_gather : MethodName := ⟨R_St, "gather", "(ZLAnalysisHouse$Value;)V"⟩
def y_St_enter : MethodName := ⟨R_St, "enter", "(I)Z"⟩
def y_Fa_resultOf : MethodName := ⟨R_Fa, "resultOf", "(I)LAnalysisHouse$Row;"⟩
def y_St_giveBack : MethodName := ⟨R_St, "giveBack", "()V"⟩
def y_St_useField : MethodName := ⟨R_St, "useField", "(II)Z"⟩
def y_Fa_fieldOf : MethodName := ⟨R_Fa, "fieldOf", "(I)LAnalysisHouse$Row;"⟩
def y_H_reached : MethodName := ⟨R_H, "reached", "(II)Z"⟩
def y_H_state : MethodName := ⟨R_H, "state", "(IIII)J"⟩
def y_H_told : MethodName := ⟨R_H, "told", "(III)LAnalysisHouse$Value;"⟩
def y_H_indexOf : MethodName := ⟨R_H, "indexOf", "(II)I"⟩
def y_Ro_markAt : MethodName := ⟨R_Ro, "markAt", "(I)I"⟩
def y_Va_part : MethodName := ⟨R_Va, "part", "(I)J"⟩
def y_H_site : MethodName := ⟨R_H, "site", "(II)J"⟩
def y_Bu_siteMethod : MethodName := ⟨R_Bu, "siteMethod", "(I)I"⟩
def y_Bu_sitePlace : MethodName := ⟨R_Bu, "sitePlace", "(I)I"⟩
def y_H_field : MethodName := ⟨R_H, "field", "(II)J"⟩
def y_H_result : MethodName := ⟨R_H, "result", "(II)J"⟩
def y_H_verdict : MethodName := ⟨R_H, "verdict", "(III)I"⟩
def y_Ju_judge : MethodName := ⟨R_Ju, "judge", "(III)I"⟩
def y_Ju_judgeIndex : MethodName := ⟨R_Ju, "judgeIndex", "(LAnalysisHouse$Value;LAnalysisHouse$Value;)I"⟩
def y_H_verdicts : MethodName := ⟨R_H, "verdicts", "(I)I"⟩
def y_Ju_howMany : MethodName := ⟨R_Ju, "howMany", "(III)I"⟩
def y_Ju_canBe : MethodName := ⟨R_Ju, "canBe", "(II)Z"⟩
def y_H_plant : MethodName := ⟨R_H, "plant", "(IIIII)Z"⟩
def y_H_forgetState : MethodName := ⟨R_H, "forgetState", "(II)Z"⟩
def y_H_check : MethodName := ⟨R_H, "check", "()I"⟩
def y_H_argument : MethodName := ⟨R_H, "argument", "(II)I"⟩
def y_Gi_add : MethodName := ⟨R_Gi, "add", "(II)I"⟩
def y_H_fill : MethodName := ⟨R_H, "fill", "(III)I"⟩
def y_Gi_put : MethodName := ⟨R_Gi, "put", "(III)I"⟩
def y_H_forget : MethodName := ⟨R_H, "forget", "()I"⟩
def y_H_run : MethodName := ⟨R_H, "run", "(II)I"⟩
def y_Gi_fits : MethodName := ⟨R_Gi, "fits", "(LAnalysisHouse$Program;I)Z"⟩
def y_Ma_make : MethodName := ⟨R_Ma, "make", "(IIZ)I"⟩
def y_Ma_begin : MethodName := ⟨R_Ma, "begin", "(I)V"⟩
def y_He_clear : MethodName := ⟨R_He, "clear", "()V"⟩
def y_Ar_fill_0 : MethodName := ⟨R_Ar, "fill", "([II)V"⟩
def y_Ar_fill_1 : MethodName := ⟨R_Ar, "fill", "([JJ)V"⟩
def y_Ar_fill_2 : MethodName := ⟨R_Ar, "fill", "([IIII)V"⟩
def y_Ma_openFrame : MethodName := ⟨R_Ma, "openFrame", "(I)Z"⟩
def y_Gi_kindOf : MethodName := ⟨R_Gi, "kindOf", "(I)I"⟩
def y_Gi_valueOf : MethodName := ⟨R_Gi, "valueOf", "(I)I"⟩
def y_Ma_bring : MethodName := ⟨R_Ma, "bring", "(I)I"⟩
def y_He_add : MethodName := ⟨R_He, "add", "(II)I"⟩
def y_Ar_rangeCheck : MethodName := ⟨R_Ar, "rangeCheck", "(III)V"⟩
def y_Gi_intAt : MethodName := ⟨R_Gi, "intAt", "(II)I"⟩
def y_He_set : MethodName := ⟨R_He, "set", "(III)V"⟩
def y_He_hasIndex : MethodName := ⟨R_He, "hasIndex", "(II)Z"⟩
def y_He_isArray : MethodName := ⟨R_He, "isArray", "(I)Z"⟩
def y_Ma_isTold : MethodName := ⟨R_Ma, "isTold", "()Z"⟩
def y_Ma_isToldBy : MethodName := ⟨R_Ma, "isToldBy", "(LAnalysisHouse$Value;I)Z"⟩
def y_He_siteOf : MethodName := ⟨R_He, "siteOf", "(I)I"⟩
def y_Ma_perform : MethodName := ⟨R_Ma, "perform", "()I"⟩
def y_Ma_leave : MethodName := ⟨R_Ma, "leave", "()I"⟩
def y_Ma_pop : MethodName := ⟨R_Ma, "pop", "()I"⟩
def y_He_lengthOf : MethodName := ⟨R_He, "lengthOf", "(I)I"⟩
def y_Ma_push : MethodName := ⟨R_Ma, "push", "(I)V"⟩
def y_Ma_move : MethodName := ⟨R_Ma, "move", "(II)I"⟩
def y_Ma_hasLocal : MethodName := ⟨R_Ma, "hasLocal", "(I)Z"⟩
def y_Ma_reckon : MethodName := ⟨R_Ma, "reckon", "(I)I"⟩
def y_Ma_goWrong : MethodName := ⟨R_Ma, "goWrong", "(I)I"⟩
def y_Ma_reckoned : MethodName := ⟨R_Ma, "reckoned", "(III)I"⟩
def y_Ma_jump : MethodName := ⟨R_Ma, "jump", "(II)I"⟩
def y_Ma_compares : MethodName := ⟨R_Ma, "compares", "(III)Z"⟩
def y_Ma_makeArray : MethodName := ⟨R_Ma, "makeArray", "(I)I"⟩
def y_Ma_tells : MethodName := ⟨R_Ma, "tells", "(LAnalysisHouse$Row;I)Z"⟩
def y_Ma_useArray : MethodName := ⟨R_Ma, "useArray", "(I)I"⟩
def y_He_get : MethodName := ⟨R_He, "get", "(II)I"⟩
def y_Ma_enter : MethodName := ⟨R_Ma, "enter", "(I)I"⟩
def y_Ma_useField : MethodName := ⟨R_Ma, "useField", "(II)I"⟩
def y_H_ran : MethodName := ⟨R_H, "ran", "(I)J"⟩
def y_Ma_told : MethodName := ⟨R_Ma, "told", "(I)J"⟩
def y_H_outside : MethodName := ⟨R_H, "outside", "()I"⟩
def y_Mo_init : MethodName := ⟨R_Mo, "<init>", "()V"⟩
def y_Mo_method : MethodName := ⟨R_Mo, "method", "(IIII)I"⟩
def y_Mo_code : MethodName := ⟨R_Mo, "code", "(III)I"⟩
def y_Mo_isMethod : MethodName := ⟨R_Mo, "isMethod", "(I)Z"⟩
def y_Mo_wipe : MethodName := ⟨R_Mo, "wipe", "(I)I"⟩
def y_Mo_build : MethodName := ⟨R_Mo, "build", "()I"⟩
def y_Mo_isOperand : MethodName := ⟨R_Mo, "isOperand", "(III)Z"⟩
def y_Mo_goesTo : MethodName := ⟨R_Mo, "goesTo", "(I)Z"⟩
def y_Mo_fault : MethodName := ⟨R_Mo, "fault", "(III)I"⟩
def y_Mo_shapes : MethodName := ⟨R_Mo, "shapes", "(I)I"⟩
def y_Mo_shape : MethodName := ⟨R_Mo, "shape", "(III)V"⟩
def y_Mo_puts : MethodName := ⟨R_Mo, "puts", "(I)V"⟩
def y_Mo_kindOf : MethodName := ⟨R_Mo, "kindOf", "(II)I"⟩
def y_Mo_takes : MethodName := ⟨R_Mo, "takes", "(I)V"⟩
def y_Mo_takesAny : MethodName := ⟨R_Mo, "takesAny", "()I"⟩
def y_Mo_goesOn : MethodName := ⟨R_Mo, "goesOn", "(I)Z"⟩
def y_Mo_comes : MethodName := ⟨R_Mo, "comes", "(III)I"⟩
def y_Mo_faultAt : MethodName := ⟨R_Mo, "faultAt", "(I)I"⟩
def y_Mo_analyze : MethodName := ⟨R_Mo, "analyze", "(I)I"⟩
def y_Mo_nothing : MethodName := ⟨R_Mo, "nothing", "()V"⟩
def y_Mo_rootsCome : MethodName := ⟨R_Mo, "rootsCome", "()V"⟩
def y_Mo_root : MethodName := ⟨R_Mo, "root", "(I)V"⟩
def y_Mo_span : MethodName := ⟨R_Mo, "span", "(IJJJ)V"⟩
def y_Mo_setOf : MethodName := ⟨R_Mo, "setOf", "(IIZ)V"⟩
def y_Mo_comeTo : MethodName := ⟨R_Mo, "comeTo", "(I)V"⟩
def y_Mo_isHeld : MethodName := ⟨R_Mo, "isHeld", "(I)Z"⟩
def y_Mo_isSlot : MethodName := ⟨R_Mo, "isSlot", "(II)Z"⟩
def y_Mo_isArray : MethodName := ⟨R_Mo, "isArray", "(II)Z"⟩
def y_Mo_isIn : MethodName := ⟨R_Mo, "isIn", "(JJJJJJ)Z"⟩
def y_Mo_both : MethodName := ⟨R_Mo, "both", "(JJJJJJ)V"⟩
def y_Mo_min : MethodName := ⟨R_Mo, "min", "(JJ)J"⟩
def y_Mo_max : MethodName := ⟨R_Mo, "max", "(JJ)J"⟩
def y_Mo_gcd : MethodName := ⟨R_Mo, "gcd", "(JJ)J"⟩
def y_Mo_set : MethodName := ⟨R_Mo, "set", "(JJJ)V"⟩
def y_Mo_moved : MethodName := ⟨R_Mo, "moved", "(JJ)V"⟩
def y_Mo_pointBelow : MethodName := ⟨R_Mo, "pointBelow", "(J)J"⟩
def y_Mo_pointAbove : MethodName := ⟨R_Mo, "pointAbove", "(J)J"⟩
def y_Mo_step : MethodName := ⟨R_Mo, "step", "(I)V"⟩
def y_Mo_load : MethodName := ⟨R_Mo, "load", "(I)V"⟩
def y_Mo_pushSpan : MethodName := ⟨R_Mo, "pushSpan", "(JJJ)V"⟩
def y_Mo_copy : MethodName := ⟨R_Mo, "copy", "(II)V"⟩
def y_Mo_pushSet : MethodName := ⟨R_Mo, "pushSet", "(IZ)V"⟩
def y_Mo_swap : MethodName := ⟨R_Mo, "swap", "()V"⟩
def y_Mo_keep : MethodName := ⟨R_Mo, "keep", "()V"⟩
def y_Mo_onNull : MethodName := ⟨R_Mo, "onNull", "(ZI)V"⟩
def y_Mo_markedSet : MethodName := ⟨R_Mo, "markedSet", "(IIZ)V"⟩
def y_Mo_again : MethodName := ⟨R_Mo, "again", "()V"⟩
def y_Mo_make : MethodName := ⟨R_Mo, "make", "(II)V"⟩
def y_Mo_within : MethodName := ⟨R_Mo, "within", "(JJJJJ)Z"⟩
def y_Mo_upTo : MethodName := ⟨R_Mo, "upTo", "(JJJ)J"⟩
def y_Mo_downTo : MethodName := ⟨R_Mo, "downTo", "(JJJ)J"⟩
def y_Mo_tell : MethodName := ⟨R_Mo, "tell", "(IJJJ)V"⟩
def y_Mo_markedSpan : MethodName := ⟨R_Mo, "markedSpan", "(IJJJ)V"⟩
def y_Mo_array : MethodName := ⟨R_Mo, "array", "(II)V"⟩
def y_Mo_ofSites : MethodName := ⟨R_Mo, "ofSites", "(II)Z"⟩
def y_Mo_call : MethodName := ⟨R_Mo, "call", "(II)V"⟩
def y_Mo_returns : MethodName := ⟨R_Mo, "returns", "()V"⟩
def y_Mo_tellSet : MethodName := ⟨R_Mo, "tellSet", "(IIZ)V"⟩
def y_Mo_reckon : MethodName := ⟨R_Mo, "reckon", "(II)V"⟩
def y_Mo_act : MethodName := ⟨R_Mo, "act", "(IJJJJJJ)V"⟩
def y_Mo_turned : MethodName := ⟨R_Mo, "turned", "(JJJ)V"⟩
def y_Mo_floor : MethodName := ⟨R_Mo, "floor", "(JJ)J"⟩
def y_Mo_times : MethodName := ⟨R_Mo, "times", "(JJJJ)V"⟩
def y_Mo_low5 : MethodName := ⟨R_Mo, "low5", "(J)J"⟩
def y_Mo_all : MethodName := ⟨R_Mo, "all", "(J)V"⟩
def y_Mo_over : MethodName := ⟨R_Mo, "over", "(JJJJJ)V"⟩
def y_Mo_has : MethodName := ⟨R_Mo, "has", "(JJJJ)Z"⟩
def y_Mo_parts : MethodName := ⟨R_Mo, "parts", "(JJJ)V"⟩
def y_Mo_rest : MethodName := ⟨R_Mo, "rest", "(JJJJJJ)V"⟩
def y_Mo_logic : MethodName := ⟨R_Mo, "logic", "(IJJJJ)V"⟩
def y_Mo_unsigned : MethodName := ⟨R_Mo, "unsigned", "(JJJJZ)V"⟩
def y_Mo_withoutEnd : MethodName := ⟨R_Mo, "withoutEnd", "(JJJJ)Z"⟩
def y_Mo_compared : MethodName := ⟨R_Mo, "compared", "(II)V"⟩
def y_Mo_anew : MethodName := ⟨R_Mo, "anew", "()V"⟩
def y_Mo_check : MethodName := ⟨R_Mo, "check", "()I"⟩
def y_Mo_reached : MethodName := ⟨R_Mo, "reached", "(II)Z"⟩
def y_Mo_isPlace : MethodName := ⟨R_Mo, "isPlace", "(II)Z"⟩
def y_Mo_state : MethodName := ⟨R_Mo, "state", "(IIII)J"⟩
def y_Mo_slotOf : MethodName := ⟨R_Mo, "slotOf", "(III)I"⟩
def y_Mo_site : MethodName := ⟨R_Mo, "site", "(II)J"⟩
def y_Mo_toldOf : MethodName := ⟨R_Mo, "toldOf", "(II)J"⟩
def y_Mo_field : MethodName := ⟨R_Mo, "field", "(II)J"⟩
def y_Mo_result : MethodName := ⟨R_Mo, "result", "(II)J"⟩
def y_Mo_verdict : MethodName := ⟨R_Mo, "verdict", "(III)I"⟩
def y_Mo_verdictOf : MethodName := ⟨R_Mo, "verdictOf", "(II)I"⟩
def y_Mo_asks : MethodName := ⟨R_Mo, "asks", "(II)Z"⟩
def y_Mo_verdicts : MethodName := ⟨R_Mo, "verdicts", "(I)I"⟩
def y_Mo_plant : MethodName := ⟨R_Mo, "plant", "(IIIII)Z"⟩
def y_Mo_forgetState : MethodName := ⟨R_Mo, "forgetState", "(II)Z"⟩
def y_Mo_argument : MethodName := ⟨R_Mo, "argument", "(II)I"⟩
def y_Mo_fill : MethodName := ⟨R_Mo, "fill", "(III)I"⟩
def y_Mo_forget : MethodName := ⟨R_Mo, "forget", "()I"⟩
def y_Mo_run : MethodName := ⟨R_Mo, "run", "(II)I"⟩
def y_Mo_fits : MethodName := ⟨R_Mo, "fits", "(I)Z"⟩
def y_Mo_isToldBy : MethodName := ⟨R_Mo, "isToldBy", "(II)Z"⟩
def y_Mo_enter : MethodName := ⟨R_Mo, "enter", "(I)V"⟩
def y_Mo_f : MethodName := ⟨R_Mo, "f", "(I)I"⟩
def y_Mo_makeArray : MethodName := ⟨R_Mo, "makeArray", "(II)I"⟩
def y_Mo_look : MethodName := ⟨R_Mo, "look", "()V"⟩
def y_Mo_one : MethodName := ⟨R_Mo, "one", "()V"⟩
def y_Mo_pop : MethodName := ⟨R_Mo, "pop", "()I"⟩
def y_Mo_reckoned : MethodName := ⟨R_Mo, "reckoned", "(III)I"⟩
def y_Mo_push : MethodName := ⟨R_Mo, "push", "(I)V"⟩
def y_Mo_isSo : MethodName := ⟨R_Mo, "isSo", "(III)Z"⟩
def y_Mo_other : MethodName := ⟨R_Mo, "other", "(IIII)V"⟩
def y_Mo_made : MethodName := ⟨R_Mo, "made", "(II)V"⟩
def y_Mo_touched : MethodName := ⟨R_Mo, "touched", "(I)V"⟩
def y_Mo_called : MethodName := ⟨R_Mo, "called", "(I)V"⟩
def y_Mo_left : MethodName := ⟨R_Mo, "left", "(I)V"⟩
def y_Mo_ran : MethodName := ⟨R_Mo, "ran", "(I)J"⟩
def y_Mo_outside : MethodName := ⟨R_Mo, "outside", "()I"⟩
/-- the words between nest mates -/
def gi_nw : List Cond := [.methodLinkNest R_H 11 y_Pr_init R_H, .methodLinkNest R_Ro 21 y_Va_init R_H, .methodLinkNest R_St 11 y_Re_init R_H, .methodLinkNest R_Re 11 y_Va_init R_H, .methodLinkNest R_St 38 y_Va_init R_H, .methodLinkNest R_H 55 y_Gi_init R_H, .methodLinkNest R_Ma 17 y_He_init R_H, .methodLinkNest R_Va 48 y_H_gcd R_H, .methodLinkNest R_Re 31 y_H_gcd R_H, .fieldLinkNest R_Bu 131 R_H "TAKES" "[I" R_H, .fieldLinkNest R_Va 68 R_H "LEDGES" "[J" R_H]
