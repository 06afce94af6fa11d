section MEET
variable {p : Program} {l : Launch} {e : Env} {R : Room} {s : State} {m : MethodId} {args : Array Value} {below : List Frame} {meth : Method} {c : Code} {Q : State → Prop} {nL : Nat} {V : gi_V} {cells slots pc n : Nat} {L : List (Nat × Value)} {st : List Value} {h : gi_H}
/-- ways that meet again: what is known there is I -/
theorem gi_meet {σ : Type} (pc' : Nat) (Lf : σ → List (Nat × Value)) (sf : σ → List Value) (I : σ → gi_H → Prop) (J : ∀ (x : σ) (y : gi_H), I x y → gi_G p l e R s m args below meth c Q V nL cells slots pc' (Lf x) (sf x) n y) (K : (∀ (x : σ) (y : gi_H), I x y → gi_G p l e R s m args below meth c Q V nL cells slots pc' (Lf x) (sf x) n y) → gi_G p l e R s m args below meth c Q V nL cells slots pc L st n h) : gi_G p l e R s m args below meth c Q V nL cells slots pc L st n h := K J
theorem gi_enterF {cc : ByteArray} {y : MethodName} {ret : Option FieldType} {fr lo mc ms : Nat} {vs : List Value} {Post : Option Value → Nat → gi_H → Prop} (hy : plainFor y = true) (hlen : (lg_sl vs).length ≤ nL)
    (body : ∀ (p : Program) (e : Env) (s : State) (m : MethodId) (args : Array Value) (below : List Frame) (meth : Method) (c : Code), gi_C p s m args meth c cc nL y.cls V → meth.sig.returnType = ret → meth.name = y.name →
      gi_G p l e { frames := fr, cells := mc, slots := ms, locals := lo } s m args below meth c (MQ below (gi_Qc V Post) args s mc ms (fun q : Nat => V.2.2 ≤ q)) V nL 0 0 0 (lv_args 0 vs) [] n h) :
    gi_T l V y cc nL ret fr lo mc ms vs n h Post := by
  refine va_MetF (cc := cc) (maxL := nL) (ret := ret) hy rfl ?_
  intro p e s m args below meth c s₁ B hml hv
  obtain ⟨rfl, hh, hK⟩ := hv
  have hts := atoms_spec (ws := gi_ws y cc nL ret) B.pre
  have hown : s.vm.findClass y.cls = some m.cls := findClass_of_methodNamed B.named
  have hnm : meth.name = y.name := (name_of_methodNamed B.named B.method).1
  have hl := lv_entry vs (n := nL) hlen
  rw [lg_entry_eq]
  generalize (lg_sl vs ++ List.replicate (nL - (lg_sl vs).length) Slot.unset).toArray = ls at hl ⊢
  exact body p e s m vs.toArray below meth c ⟨B.exec, B.bytes, hml, hown, fun w hw => hts w (List.mem_cons_of_mem _ hw), hK, B.notSynchronized, by rw [hh.1]; exact hh.2.1⟩ B.returns hnm ls s.heap [] (gi_has_of hl) hh va_S.rf
end MEET
section NUM
/-- the long of a whole number -/
def eL (a : Int) : Int64 := Int64.ofInt a
theorem eL_toInt {a : Int} (h1 : -9223372036854775808 ≤ a) (h2 : a < 9223372036854775808) : (eL a).toInt = a := Int64.toInt_ofInt_of_le h1 h2
theorem eL_add (a b : Int) : eL a + eL b = eL (a + b) := (Int64.ofInt_add a b).symm
theorem eL_sub (a b : Int) : eL a - eL b = eL (a - b) := (Int64.ofInt_sub a b).symm
theorem eL_mul (a b : Int) : eL a * eL b = eL (a * b) := (Int64.ofInt_mul a b).symm
theorem eL_neg (a : Int) : -eL a = eL (-a) := (Int64.ofInt_neg a).symm
theorem eL_lt {a b : Int} (h1 : -9223372036854775808 ≤ a) (h2 : a < 9223372036854775808) (h3 : -9223372036854775808 ≤ b) (h4 : b < 9223372036854775808) : eL a < eL b ↔ a < b := by
  rw [Int64.lt_iff_toInt_lt, eL_toInt h1 h2, eL_toInt h3 h4]
theorem eL_le {a b : Int} (h1 : -9223372036854775808 ≤ a) (h2 : a < 9223372036854775808) (h3 : -9223372036854775808 ≤ b) (h4 : b < 9223372036854775808) : eL a ≤ eL b ↔ a ≤ b := by
  rw [Int64.le_iff_toInt_le, eL_toInt h1 h2, eL_toInt h3 h4]
theorem eL_eq {a b : Int} (h1 : -9223372036854775808 ≤ a) (h2 : a < 9223372036854775808) (h3 : -9223372036854775808 ≤ b) (h4 : b < 9223372036854775808) : eL a = eL b ↔ a = b := by
  rw [← Int64.toInt_inj, eL_toInt h1 h2, eL_toInt h3 h4]
theorem eL_of (x : Int64) : x = eL x.toInt := (Int64.ofInt_toInt x).symm
theorem tdiv_abs (a b : Int) : (a.tdiv b).natAbs ≤ a.natAbs := by
  rw [Int.natAbs_tdiv]
  exact Nat.div_le_self _ _
theorem eL_div {a b : Int} (h1 : -9223372036854775808 < a) (h2 : a < 9223372036854775808) (h3 : -9223372036854775808 ≤ b) (h4 : b < 9223372036854775808) : eL a / eL b = eL (a.tdiv b) := by
  have ht := tdiv_abs a b
  apply Int64.toInt_inj.mp
  rw [Int64.toInt_div, eL_toInt (by omega) h2, eL_toInt h3 h4, eL_toInt (by omega) (by omega)]
  exact Int.bmod_eq_of_le (by omega) (by omega)
theorem eL_rem {a b : Int} (h1 : -9223372036854775808 < a) (h2 : a < 9223372036854775808) (h3 : -9223372036854775808 ≤ b) (h4 : b < 9223372036854775808) : eL a - eL a / eL b * eL b = eL (a.tmod b) := by
  rw [eL_div h1 h2 h3 h4, eL_mul, eL_sub]
  rw [Int.tmod_def, Int.mul_comm]
theorem eL_divN {a b : Int} (h0 : 0 ≤ a) (h2 : a < 9223372036854775808) (h3 : 0 ≤ b) (h4 : b < 9223372036854775808) : eL a / eL b = eL (a / b) := by
  rw [eL_div (by omega) h2 (by omega) h4, Int.tdiv_eq_ediv_of_nonneg h0]
theorem eL_remN {a b : Int} (h0 : 0 ≤ a) (h2 : a < 9223372036854775808) (h3 : 0 ≤ b) (h4 : b < 9223372036854775808) : eL a - eL a / eL b * eL b = eL (a % b) := by
  rw [eL_rem (by omega) h2 (by omega) h4, Int.tmod_eq_emod_of_nonneg h0]
theorem eL_mod0 {a b : Int} (h0 : 0 < b) (h2 : b < 9223372036854775808) : eL (a % b) = eL 0 ↔ a % b = 0 := by
  have h3 := Int.emod_nonneg a (show b ≠ 0 by omega)
  have h4 := Int.emod_lt_of_pos a h0
  exact eL_eq (by omega) (by omega) (by omega) (by omega)
theorem eL_i (x : Int32) : x.toInt64 = eL x.toInt := rfl
theorem eL_0 : (0 : Int64) = eL 0 := rfl
theorem eL_1 : (1 : Int64) = eL 1 := rfl
theorem eL_m1 : (-1 : Int64) = eL (-1) := by decide
theorem eL_2 : (2 : Int64) = eL 2 := rfl
theorem eL_LO : (-2147483648 : Int64) = eL (-2147483648) := by decide
theorem eL_HI : (2147483647 : Int64) = eL 2147483647 := rfl
theorem eL_W : (4294967296 : Int64) = eL 4294967296 := rfl
/-! spans: low, high, stride -/
abbrev Sp : Type := Int × Int × Int
def okS (x : Sp) : Prop := -2147483648 ≤ x.1 ∧ x.1 ≤ x.2.1 ∧ x.2.1 ≤ 2147483647 ∧ 0 ≤ x.2.2 ∧ (x.1 = x.2.1 → x.2.2 = 0) ∧ x.2.2 ∣ x.2.1 - x.1
def mkS (l h s : Int) : Sp := if l = h then (l, h, 0) else (l, h, s)
theorem okS.st {x : Sp} (h : okS x) : x.2.2 ≤ x.2.1 - x.1 := by
  obtain ⟨-, h2, -, h4, h5, h6⟩ := h
  by_cases e : x.1 = x.2.1
  · rw [h5 e]; omega
  · exact Int.le_of_dvd (by omega) h6
theorem okS.z {x : Sp} (h : okS x) (h0 : x.2.2 = 0) : x.1 = x.2.1 := by
  obtain ⟨-, -, -, -, -, h6⟩ := h
  rw [h0] at h6
  have := Int.zero_dvd.mp h6
  omega
theorem okS_mk {l h s : Int} (h1 : -2147483648 ≤ l) (h2 : l ≤ h) (h3 : h ≤ 2147483647) (h4 : l ≠ h → 0 ≤ s ∧ s ∣ h - l) : okS (mkS l h s) := by
  unfold mkS
  split
  · rename_i e
    exact ⟨h1, h2, h3, Int.le_refl 0, fun _ => rfl, by subst e; simp⟩
  · rename_i e
    obtain ⟨h5, h6⟩ := h4 e
    exact ⟨h1, h2, h3, h5, fun q => absurd q e, h6⟩
/-- BOTH -/
def bothS (x y : Sp) : Sp := (min x.1 y.1, max x.2.1 y.2.1, (Int.gcd (Int.gcd x.2.2 y.2.2 : Nat) (x.1 - y.1) : Nat))
/-- WITHIN a .. b -/
def upS1 (x : Sp) (a : Int) : Int := if x.1 < a then (if x.2.2 = 0 then x.2.1 + 1 else x.1 + (a - x.1 + x.2.2 - 1) / x.2.2 * x.2.2) else x.1
def dnS1 (x : Sp) (b : Int) : Int := if b < x.2.1 then (if x.2.2 = 0 then x.1 - 1 else x.2.1 - (x.2.1 - b + x.2.2 - 1) / x.2.2 * x.2.2) else x.2.1
def withinS (x : Sp) (a b : Int) : Option Sp := if upS1 x a ≤ dnS1 x b then some (mkS (upS1 x a) (dnS1 x b) x.2.2) else none
theorem ceil_1 {d s : Int} (hs : 0 < s) : d ≤ (d + s - 1) / s * s ∧ (d + s - 1) / s * s ≤ d + s - 1 := by
  have h1 := Int.emod_nonneg (d + s - 1) (show s ≠ 0 by omega)
  have h2 := Int.emod_lt_of_pos (d + s - 1) hs
  have h3 := Int.mul_ediv_add_emod (d + s - 1) s
  rw [Int.mul_comm] at h3
  omega
theorem upS1_le {x : Sp} (h : okS x) (a : Int) : x.1 ≤ upS1 x a ∧ upS1 x a ≤ max (a + 4294967296) 2147483648 := by
  have := h.st
  obtain ⟨h1, h2, h3, h4, h5, h6⟩ := h
  unfold upS1
  split
  · split
    · omega
    · have := ceil_1 (d := a - x.1) (s := x.2.2) (by omega)
      omega
  · omega
theorem dnS1_le {x : Sp} (h : okS x) (b : Int) : dnS1 x b ≤ x.2.1 ∧ min (b - 4294967296) (-2147483649) ≤ dnS1 x b := by
  have := h.st
  obtain ⟨h1, h2, h3, h4, h5, h6⟩ := h
  unfold dnS1
  split
  · split
    · omega
    · have := ceil_1 (d := x.2.1 - b) (s := x.2.2) (by omega)
      omega
  · omega
theorem upS1_dvd {x : Sp} (h0 : x.2.2 ≠ 0) (a : Int) : x.2.2 ∣ upS1 x a - x.1 := by
  unfold upS1
  split
  · exact ⟨(a - x.1 + x.2.2 - 1) / x.2.2, by rw [Int.mul_comm]; omega⟩
  · simp
theorem dnS1_dvd {x : Sp} (h0 : x.2.2 ≠ 0) (b : Int) : x.2.2 ∣ x.2.1 - dnS1 x b := by
  unfold dnS1
  split
  · exact ⟨(x.2.1 - b + x.2.2 - 1) / x.2.2, by rw [Int.mul_comm]; omega⟩
  · simp
theorem within_ok {x y : Sp} (h : okS x) {a b : Int} (e : withinS x a b = some y) : okS y ∧ a ≤ y.1 ∧ y.2.1 ≤ b ∧ x.1 ≤ y.1 ∧ y.2.1 ≤ x.2.1 := by
  unfold withinS at e
  split at e
  · rename_i hle
    have hu := upS1_le h a
    have hd := dnS1_le h b
    have hz := fun q => h.z q
    have hst := h.st
    obtain ⟨h1, h2, h3, h4, h5, h6⟩ := h
    have e' := Option.some.inj e
    subst e'
    have e1 : (mkS (upS1 x a) (dnS1 x b) x.2.2).1 = upS1 x a := by unfold mkS; split <;> rfl
    have e2 : (mkS (upS1 x a) (dnS1 x b) x.2.2).2.1 = dnS1 x b := by unfold mkS; split <;> rfl
    rw [e1, e2]
    refine ⟨okS_mk (by omega) hle (by omega) (fun hne => ⟨h4, ?_⟩), ?_, ?_, hu.1, hd.1⟩
    · by_cases h0 : x.2.2 = 0
      · have := hz h0
        exfalso
        unfold upS1 dnS1 at hle hne
        rw [if_pos h0, if_pos h0] at hle hne
        (try split at hle) <;> (try split at hle) <;> omega
      · have k1 := upS1_dvd h0 a
        have k2 := dnS1_dvd h0 b
        have k3 := Int.dvd_sub h6 (Int.dvd_add k1 k2)
        have : x.2.1 - x.1 - (upS1 x a - x.1 + (x.2.1 - dnS1 x b)) = dnS1 x b - upS1 x a := by omega
        rw [this] at k3
        exact k3
    · by_cases h0 : x.2.2 = 0
      · have := hz h0
        unfold upS1 dnS1 at hle
        unfold upS1
        rw [if_pos h0, if_pos h0] at hle
        rw [if_pos h0]
        split <;> (try split at hle) <;> (try split at hle) <;> omega
      · have := ceil_1 (d := a - x.1) (s := x.2.2) (by omega)
        unfold upS1
        rw [if_neg h0]
        split <;> omega
    · by_cases h0 : x.2.2 = 0
      · have := hz h0
        unfold upS1 dnS1 at hle
        unfold dnS1
        rw [if_pos h0, if_pos h0] at hle
        rw [if_pos h0]
        split <;> (try split at hle) <;> (try split at hle) <;> omega
      · have := ceil_1 (d := x.2.1 - b) (s := x.2.2) (by omega)
        unfold dnS1
        rw [if_neg h0]
        split <;> omega
  · cases e
/-- without c at its ends -/
def loseS (x : Sp) (c : Int) : Option Sp := if x.1 = c ∧ x.2.1 = c then none else some (mkS (if x.1 = c then x.1 + x.2.2 else x.1) (if x.2.1 = c then x.2.1 - x.2.2 else x.2.1) x.2.2)
def hasS (x : Sp) (c : Int) : Bool := decide (x.1 ≤ c) && decide (c ≤ x.2.1) && (decide (x.2.2 = 0) || decide ((c - x.1) % x.2.2 = 0))
/-- x covers y -/
def covS (x y : Sp) : Bool := decide (x.1 ≤ y.1) && decide (y.2.1 ≤ x.2.1) && (decide (x.2.2 = 0) || (decide ((y.1 - x.1) % x.2.2 = 0) && decide (y.2.2 % x.2.2 = 0)))
/-- TURNED -/
def turnS (l h s : Int) : Sp := if h - (l + 2147483648) / 4294967296 * 4294967296 ≤ 2147483647 then mkS (l - (l + 2147483648) / 4294967296 * 4294967296) (h - (l + 2147483648) / 4294967296 * 4294967296) s else mkS (-2147483648 + (l + 2147483648) % (Int.gcd s 4294967296 : Nat)) (2147483647 - (2147483647 - l) % (Int.gcd s 4294967296 : Nat)) (Int.gcd s 4294967296 : Nat)
def timesS (c : Int) (x : Sp) : Sp := if 0 ≤ c then turnS (c * x.1) (c * x.2.1) (c * x.2.2) else turnS (c * x.2.1) (c * x.1) (-c * x.2.2)
def allS : Sp := (-2147483648, 2147483647, 1)
theorem okS_all : okS allS := by unfold okS allS; decide
/-- the nearest ledges -/
def ledD (v : Int) : Int := if 2147483647 ≤ v then 2147483647 else if 65535 ≤ v then 65535 else if 32767 ≤ v then 32767 else if 255 ≤ v then 255 else if 127 ≤ v then 127 else if 1 ≤ v then 1 else if 0 ≤ v then 0 else if -1 ≤ v then -1 else if -128 ≤ v then -128 else if -32768 ≤ v then -32768 else -2147483648
def ledU (v : Int) : Int := if v ≤ -2147483648 then -2147483648 else if v ≤ -32768 then -32768 else if v ≤ -128 then -128 else if v ≤ -1 then -1 else if v ≤ 0 then 0 else if v ≤ 1 then 1 else if v ≤ 127 then 127 else if v ≤ 255 then 255 else if v ≤ 32767 then 32767 else if v ≤ 65535 then 65535 else 2147483647
/-- BOTH, its ends moved on: those that are others than l, h -/
def movS (x : Sp) (l h : Int) : Sp := (if x.1 < l then x.1 - (x.1 - ledD x.1) / x.2.2 * x.2.2 else x.1, if h < x.2.1 then x.2.1 + (ledU x.2.1 - x.2.1) / x.2.2 * x.2.2 else x.2.1, x.2.2)
end NUM
