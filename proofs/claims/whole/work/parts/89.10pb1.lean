-- needs: 89.02
section PB1
/-! how a program is built -/
abbrev Flt : Type := Nat × Nat × Nat
abbrev ShL : Type := (Nat → Option Sh) × (Nat → Bool)
def upO {α : Type} (f : Nat → α) (i : Nat) (v : α) : Nat → α := fun j => if j = i then v else f j
theorem upO_self {α : Type} {f : Nat → α} {i : Nat} {v : α} : upO f i v i = v := by simp [upO]
theorem upO_ne {α : Type} {f : Nat → α} {i j : Nat} {v : α} (h : j ≠ i) : upO f i v j = f j := by simp [upO, h]
variable {k : Nat} {P : Pm}
/-- a shape comes -/
def cmS (P : Pm) (m i t : Nat) (y : Sh) (s : Nat → Option Sh) : Flt ⊕ (Nat → Option Sh) := if t < pN P 5 m then (match s (60 * m + t) with
    | none => .inr (upO s (60 * m + t) (some y))
    | some z => if z = y then .inr s else .inl (5, m, i)) else .inl (4, m, i)
def cm1 (P : Pm) (m i : Nat) (y : Sh) (s : Nat → Option Sh) : Flt ⊕ (Nat → Option Sh) := if pN P 6 (60 * m + i) ≠ 19 ∧ pN P 6 (60 * m + i) ≠ 33 then cmS P m i (i + 1) y s else .inr s
def cm2 (P : Pm) (m i : Nat) (y : Sh) (s : Nat → Option Sh) : Flt ⊕ (Nat → Option Sh) := if 19 ≤ pN P 6 (60 * m + i) ∧ pN P 6 (60 * m + i) ≤ 27 then cmS P m i (pN P 7 (60 * m + i)) y s else .inr s
def cm12 (P : Pm) (m i : Nat) (y : Sh) (s : Nat → Option Sh) : Flt ⊕ (Nat → Option Sh) := match cm1 P m i y s with
  | .inl e => .inl e
  | .inr s' => cm2 P m i y s'
/-- a place is looked at -/
def lkX (P : Pm) (m i : Nat) (x : Sh) (s : Nat → Option Sh) : Flt ⊕ (Nat → Option Sh) := match shS P m (pN P 6 (60 * m + i)) (pN P 7 (60 * m + i)) x with
  | none => .inl (2, m, i)
  | some y => if 8 < y.1 then .inl (3, m, i) else cm12 P m i y s
def lkS (P : Pm) (m i : Nat) (Z : ShL) : Flt ⊕ ShL := match Z.1 (60 * m + i) with
  | none => .inr Z
  | some x => match lkX P m i x Z.1 with
    | .inl e => .inl e
    | .inr s => .inr (s, upO Z.2 (60 * m + i) true)
def unl (m : Nat) (Z : ShL) (i : Nat) : Bool := (Z.1 (60 * m + i)).isSome && !Z.2 (60 * m + i)
def nxU (P : Pm) (m : Nat) (Z : ShL) : Option Nat := (List.range (pN P 5 m)).find? (unl m Z)
def lpS (P : Pm) (m : Nat) : Nat → ShL → Flt ⊕ ShL
  | 0, Z => .inr Z
  | f + 1, Z => match nxU P m Z with
    | none => .inr Z
    | some i => match lkS P m i Z with
      | .inl e => .inl e
      | .inr Z' => lpS P m f Z'
def st0 (m : Nat) (s : Nat → Option Sh) : ShL := (upO s (60 * m) (some (0, 0)), fun _ => false)
def meS (P : Pm) (m : Nat) (s : Nat → Option Sh) : Flt ⊕ (Nat → Option Sh) := if pN P 5 m = 0 then .inl (4, m, 0) else (match lpS P m 60 (st0 m s) with
  | .inl e => .inl e
  | .inr Z => .inr Z.1)
def shA (P : Pm) : Nat → Flt ⊕ (Nat → Option Sh)
  | 0 => .inr (fun _ => none)
  | m + 1 => match shA P m with
    | .inl e => .inl e
    | .inr s => meS P m s
theorem rng_find {n : Nat} {f : Nat → Bool} {i : Nat} (h : (List.range n).find? f = some i) : i < n ∧ f i = true ∧ ∀ j, j < i → f j = false := by
  rw [List.find?_range_eq_some] at h
  refine ⟨List.mem_range.mp h.2.1, h.1, fun j hj => ?_⟩
  have := h.2.2 j hj
  simpa using this
theorem rng_none {n : Nat} {f : Nat → Bool} (h : (List.range n).find? f = none) : ∀ i, i < n → f i = false := by
  rw [List.find?_range_eq_none] at h
  intro i hi
  have := h i hi
  simpa using this
theorem rng_some {n : Nat} {f : Nat → Bool} {i : Nat} (h1 : i < n) (h2 : f i = true) (h3 : ∀ j, j < i → f j = false) : (List.range n).find? f = some i := by
  rw [List.find?_range_eq_some]
  exact ⟨h2, List.mem_range.mpr h1, fun j hj => by simp [h3 j hj]⟩
theorem rng_no {n : Nat} {f : Nat → Bool} (h : ∀ i, i < n → f i = false) : (List.range n).find? f = none := by
  rw [List.find?_range_eq_none]
  intro i hi
  simp [h i hi]
/-! what is kept while shapes come -/
def okSh (k : Nat) (P : Pm) (s : Nat → Option Sh) : Prop := ∀ p x, s p = some x → ∃ m i, m < k ∧ i < pN P 5 m ∧ p = 60 * m + i ∧ x.1 ≤ 8 ∧ x.2 < 2 ^ x.1
/-- what was told stays told -/
def leS (m : Nat) (s s' : Nat → Option Sh) : Prop := (∀ p x, s p = some x → s' p = some x) ∧ ∀ p, p < 60 * m ∨ 60 * m + 60 ≤ p → s' p = s p
theorem leS.rf {m : Nat} {s : Nat → Option Sh} : leS m s s := ⟨fun _ _ h => h, fun _ _ => rfl⟩
theorem leS.tr {m : Nat} {a b c : Nat → Option Sh} (h : leS m a b) (g : leS m b c) : leS m a c := ⟨fun p x e => g.1 p x (h.1 p x e), fun p e => (g.2 p e).trans (h.2 p e)⟩
theorem cmS_in {m i t : Nat} {y : Sh} {s s' : Nat → Option Sh} (W : wfP k P) (hm : m < k) (hy : y.1 ≤ 8) (hy2 : y.2 < 2 ^ y.1) (ho : okSh k P s) (h : cmS P m i t y s = .inr s') : t < pN P 5 m ∧ s' (60 * m + t) = some y ∧ leS m s s' ∧ okSh k P s' := by
  unfold cmS at h
  by_cases ht : t < pN P 5 m
  · have wm := wf_ar W hm
    rw [if_pos ht] at h
    cases e : s (60 * m + t) with
    | none =>
      rw [e] at h
      have h := Sum.inr.inj h
      subst h
      refine ⟨ht, upO_self, ⟨fun p x hx => ?_, fun p hp => upO_ne (by omega)⟩, fun p x hx => ?_⟩
      · by_cases q : p = 60 * m + t
        · rw [q, e] at hx; cases hx
        · rw [upO_ne q]; exact hx
      · by_cases q : p = 60 * m + t
        · rw [q, upO_self] at hx
          cases hx
          exact ⟨m, t, hm, ht, q, hy, hy2⟩
        · rw [upO_ne q] at hx; exact ho p x hx
    | some z =>
      rw [e] at h
      simp only [] at h
      split at h
      · rename_i ez
        have h := Sum.inr.inj h
        subst h
        subst ez
        exact ⟨ht, e, leS.rf, ho⟩
      · cases h
  · rw [if_neg ht] at h; cases h
theorem ptS_ok {q : Bool} {x : Sh} (h : x.2 < 2 ^ x.1) : (ptS q x).2 < 2 ^ (ptS q x).1 := by
  show 2 ^ x.1 * q.toNat + x.2 < 2 ^ (x.1 + 1)
  rw [Nat.pow_succ]
  have : 2 ^ x.1 * q.toNat ≤ 2 ^ x.1 := by cases q <;> simp
  omega
theorem dpS_ok {x : Sh} : (dpS x).2 < 2 ^ (dpS x).1 := Nat.mod_lt _ (Nat.two_pow_pos _)
theorem tkS_ok {q : Bool} {x y : Sh} (e : tkS q x = some y) : y.2 < 2 ^ y.1 := by
  unfold tkS at e
  split at e
  · cases e
  · split at e
    · cases e; exact dpS_ok
    · cases e
theorem tkN_ok {a : Nat} : ∀ (k : Nat) {x y : Sh}, x.2 < 2 ^ x.1 → tkN P a k x = some y → y.2 < 2 ^ y.1
  | 0, x, y, h, e => by cases e; exact h
  | k + 1, x, y, h, e => by
    obtain ⟨z, e1, e2⟩ := Option.bind_eq_some_iff.mp e
    exact tkN_ok k (tkS_ok e1) e2
theorem shS_ok {m op a : Nat} {x y : Sh} (h : x.2 < 2 ^ x.1) (e : shS P m op a x = some y) : y.2 < 2 ^ y.1 := by
  have M : ∀ {o : Option Sh} {q : Bool} {y : Sh}, (∀ z, o = some z → z.2 < 2 ^ z.1) → o.map (ptS q) = some y → y.2 < 2 ^ y.1 := by
    intro o q y hz e
    obtain ⟨z, e1, rfl⟩ := Option.map_eq_some_iff.mp e
    exact ptS_ok (hz z e1)
  have Bd : ∀ {o : Option Sh} {q : Bool} {y : Sh}, o.bind (tkS q) = some y → y.2 < 2 ^ y.1 := by
    intro o q y e
    obtain ⟨z, e1, e2⟩ := Option.bind_eq_some_iff.mp e
    exact tkS_ok e2
  unfold shS at e
  by_cases g0 : op = 0 ∨ op = 34
  · rw [if_pos g0] at e
    cases e; exact ptS_ok h
  rw [if_neg g0] at e
  by_cases g1 : op = 1
  · rw [if_pos g1] at e
    cases e; exact ptS_ok h
  rw [if_neg g1] at e
  by_cases g2 : op = 2
  · rw [if_pos g2] at e
    exact tkS_ok e
  rw [if_neg g2] at e
  by_cases g3 : op = 3
  · rw [if_pos g3] at e
    cases e; exact ptS_ok h
  rw [if_neg g3] at e
  by_cases g4 : op = 4
  · rw [if_pos g4] at e
    split at e
    · cases e
    · cases e; exact dpS_ok
  rw [if_neg g4] at e
  by_cases g5 : op = 5
  · rw [if_pos g5] at e
    split at e
    · cases e
    · cases e; exact ptS_ok h
  rw [if_neg g5] at e
  by_cases g6 : op = 6
  · rw [if_pos g6] at e
    split at e
    · cases e
    · cases e; exact ptS_ok (ptS_ok dpS_ok)
  rw [if_neg g6] at e
  by_cases g7 : op ≤ 17
  · rw [if_pos g7] at e
    exact M (fun z hz => Bd hz) e
  rw [if_neg g7] at e
  by_cases g8 : op = 18
  · rw [if_pos g8] at e
    exact M (fun z hz => tkS_ok hz) e
  rw [if_neg g8] at e
  by_cases g9 : op = 19
  · rw [if_pos g9] at e
    cases e; exact h
  rw [if_neg g9] at e
  by_cases g10 : op ≤ 25
  · rw [if_pos g10] at e
    exact Bd e
  rw [if_neg g10] at e
  by_cases g11 : op ≤ 27
  · rw [if_pos g11] at e
    exact tkS_ok e
  rw [if_neg g11] at e
  by_cases g12 : op = 28
  · rw [if_pos g12] at e
    exact M (fun z hz => tkS_ok hz) e
  rw [if_neg g12] at e
  by_cases g13 : op = 29
  · rw [if_pos g13] at e
    exact M (fun z hz => tkS_ok hz) e
  rw [if_neg g13] at e
  by_cases g14 : op = 30
  · rw [if_pos g14] at e
    exact M (fun z hz => Bd hz) e
  rw [if_neg g14] at e
  by_cases g15 : op = 31
  · rw [if_pos g15] at e
    exact Bd e
  rw [if_neg g15] at e
  by_cases g16 : op = 32
  · rw [if_pos g16] at e
    obtain ⟨z, e1, e2⟩ := Option.map_eq_some_iff.mp e
    have hz := tkN_ok _ h e1
    subst e2
    split
    · exact hz
    · exact ptS_ok hz
  rw [if_neg g16] at e
  by_cases g17 : op = 33
  · rw [if_pos g17] at e
    split at e
    · cases e; exact h
    · exact tkS_ok e
  rw [if_neg g17] at e
  exact tkS_ok e
/-- what was looked at goes where there are shapes -/
def nxO (k : Nat) (P : Pm) (s : Nat → Option Sh) (m i : Nat) : Prop := ∀ x, s (60 * m + i) = some x → ∃ y, shS P m (pN P 6 (60 * m + i)) (pN P 7 (60 * m + i)) x = some y ∧ (pN P 6 (60 * m + i) ≠ 19 → pN P 6 (60 * m + i) ≠ 33 → i + 1 < pN P 5 m ∧ s (60 * m + i + 1) = some y) ∧ (19 ≤ pN P 6 (60 * m + i) → pN P 6 (60 * m + i) ≤ 27 → s (60 * m + pN P 7 (60 * m + i)) = some y)
theorem cm12_in {m i : Nat} {y : Sh} {s s' : Nat → Option Sh} (W : wfP k P) (hm : m < k) (hy : y.1 ≤ 8) (hy2 : y.2 < 2 ^ y.1) (ho : okSh k P s) (h : cm12 P m i y s = .inr s') : leS m s s' ∧ okSh k P s' ∧ (pN P 6 (60 * m + i) ≠ 19 → pN P 6 (60 * m + i) ≠ 33 → i + 1 < pN P 5 m ∧ s' (60 * m + i + 1) = some y) ∧ (19 ≤ pN P 6 (60 * m + i) → pN P 6 (60 * m + i) ≤ 27 → s' (60 * m + pN P 7 (60 * m + i)) = some y) := by
  unfold cm12 at h
  cases e1 : cm1 P m i y s with
  | inl e => rw [e1] at h; cases h
  | inr s1 =>
    rw [e1] at h
    simp only [] at h
    have A : leS m s s1 ∧ okSh k P s1 ∧ (pN P 6 (60 * m + i) ≠ 19 → pN P 6 (60 * m + i) ≠ 33 → i + 1 < pN P 5 m ∧ s1 (60 * m + i + 1) = some y) := by
      unfold cm1 at e1
      split at e1
      · obtain ⟨a1, a2, a3, a4⟩ := cmS_in W hm hy hy2 ho e1
        exact ⟨a3, a4, fun _ _ => ⟨a1, a2⟩⟩
      · rename_i q
        cases e1
        exact ⟨leS.rf, ho, fun h1 h2 => absurd ⟨h1, h2⟩ q⟩
    obtain ⟨A1, A2, A3⟩ := A
    unfold cm2 at h
    split at h
    · obtain ⟨a1, a2, a3, a4⟩ := cmS_in W hm hy hy2 A2 h
      exact ⟨A1.tr a3, a4, fun h1 h2 => ⟨(A3 h1 h2).1, a3.1 _ _ (A3 h1 h2).2⟩, fun _ _ => a2⟩
    · rename_i q
      cases h
      exact ⟨A1, A2, A3, fun h1 h2 => absurd ⟨h1, h2⟩ q⟩
theorem nxO_mono {m m' i : Nat} {s s' : Nat → Option Sh} (h : nxO k P s m i) (hl : leS m' s s') (hs : ∃ x, s (60 * m + i) = some x) : nxO k P s' m i := fun x hx => by
  obtain ⟨z, hz⟩ := hs
  have e : x = z := by
    have := hl.1 _ _ hz
    rw [hx] at this
    exact Option.some.inj this
  subst e
  obtain ⟨y, y1, y2, y3⟩ := h x hz
  exact ⟨y, y1, fun h1 h2 => ⟨(y2 h1 h2).1, hl.1 _ _ (y2 h1 h2).2⟩, fun h1 h2 => hl.1 _ _ (y3 h1 h2)⟩
/-- the state of a method's shaping -/
def lpI (k : Nat) (P : Pm) (m : Nat) (s0 : Nat → Option Sh) (Z : ShL) : Prop := okSh k P Z.1 ∧ leS m s0 Z.1 ∧ (∀ i, i < pN P 5 m → Z.2 (60 * m + i) = true → (∃ x, Z.1 (60 * m + i) = some x) ∧ nxO k P Z.1 m i)
theorem lkS_in {m i : Nat} {s0 : Nat → Option Sh} {Z Z' : ShL} (W : wfP k P) (hm : m < k) (hI : lpI k P m s0 Z) (h : lkS P m i Z = .inr Z') (hi : (Z.1 (60 * m + i)).isSome = true) : lpI k P m s0 Z' ∧ Z'.2 = upO Z.2 (60 * m + i) true := by
  obtain ⟨I1, I2, I3⟩ := hI
  unfold lkS at h
  cases ex : Z.1 (60 * m + i) with
  | none => rw [ex] at hi; cases hi
  | some x =>
    rw [ex] at h
    simp only [] at h
    cases ek : lkX P m i x Z.1 with
    | inl e => rw [ek] at h; cases h
    | inr s =>
      rw [ek] at h
      have h := Sum.inr.inj h
      subst h
      unfold lkX at ek
      obtain ⟨-, -, -, -, -, -, hx2⟩ := I1 _ _ ex
      cases ey : shS P m (pN P 6 (60 * m + i)) (pN P 7 (60 * m + i)) x with
      | none => rw [ey] at ek; cases ek
      | some y =>
        rw [ey] at ek
        simp only [] at ek
        split at ek
        · cases ek
        · rename_i y8
          obtain ⟨c1, c2, c3, c4⟩ := cm12_in W hm (by omega) (shS_ok hx2 ey) I1 ek
          refine ⟨⟨c2, I2.tr c1, fun j hj hl => ?_⟩, rfl⟩
          by_cases q : j = i
          · subst q
            refine ⟨⟨x, c1.1 _ _ ex⟩, fun x' hx' => ?_⟩
            have hx' : s (60 * m + j) = some x' := hx'
            have : x' = x := by
              have := c1.1 _ _ ex
              rw [hx'] at this
              exact Option.some.inj this
            subst this
            exact ⟨y, ey, c3, c4⟩
          · have hl : Z.2 (60 * m + j) = true := by
              have h2 : upO Z.2 (60 * m + i) true (60 * m + j) = true := hl
              rw [upO_ne (by omega)] at h2
              exact h2
            obtain ⟨b1, b2⟩ := I3 j hj hl
            obtain ⟨z, hz⟩ := b1
            exact ⟨⟨z, c1.1 _ _ hz⟩, nxO_mono b2 c1 ⟨z, hz⟩⟩
/-- how many are not looked at -/
def cnU (P : Pm) (m : Nat) (Z : ShL) : Nat := ((List.range (pN P 5 m)).filter (fun i => !Z.2 (60 * m + i))).length
theorem filt_lt {f g : Nat → Bool} : ∀ (l : List Nat) {i : Nat}, i ∈ l → f i = true → g i = false → (∀ j, g j = true → f j = true) → (l.filter g).length + 1 ≤ (l.filter f).length
  | [], i, h, _, _, _ => by cases h
  | a :: l, i, h, h1, h2, h3 => by
    have L : ∀ l : List Nat, (l.filter g).length ≤ (l.filter f).length := by
      intro l
      induction l with
      | nil => simp
      | cons b l ih =>
        rw [List.filter_cons, List.filter_cons]
        cases eg : g b with
        | true => rw [if_pos rfl, if_pos (h3 b eg)]; simpa using ih
        | false =>
          rw [if_neg (by decide)]
          split
          · simp; omega
          · exact ih
    rw [List.filter_cons, List.filter_cons]
    rcases List.mem_cons.mp h with e | e
    · subst e
      rw [h1, h2, if_neg (by decide), if_pos rfl]
      have := L l
      simp; omega
    · have ih := filt_lt l e h1 h2 h3
      cases eg : g a with
      | true => rw [if_pos rfl, if_pos (h3 a eg)]; simpa using ih
      | false =>
        rw [if_neg (by decide)]
        split
        · simp; omega
        · exact ih
theorem cnU_lt {m i : Nat} {Z Z' : ShL} (hi : i < pN P 5 m) (hu : Z.2 (60 * m + i) = false) (h : Z'.2 = upO Z.2 (60 * m + i) true) : cnU P m Z' + 1 ≤ cnU P m Z := by
  unfold cnU
  refine filt_lt _ (List.mem_range.mpr hi) (by rw [hu]; rfl) ?_ (fun j hj => ?_)
  · show (!Z'.2 (60 * m + i)) = false
    rw [h, upO_self]; rfl
  · show (!Z.2 (60 * m + j)) = true
    have : (!Z'.2 (60 * m + j)) = true := hj
    rw [h] at this
    by_cases q : 60 * m + j = 60 * m + i
    · rw [q, upO_self] at this; cases this
    · rw [upO_ne q] at this; exact this
theorem nxU_in {m i : Nat} {Z : ShL} (h : nxU P m Z = some i) : i < pN P 5 m ∧ (Z.1 (60 * m + i)).isSome = true ∧ Z.2 (60 * m + i) = false ∧ ∀ j, j < i → unl m Z j = false := by
  obtain ⟨h1, h2, h3⟩ := rng_find h
  unfold unl at h2
  rw [Bool.and_eq_true] at h2
  exact ⟨h1, h2.1, by simpa using h2.2, h3⟩
theorem cnU_0 {m i : Nat} {Z : ShL} (h : nxU P m Z = some i) : 0 < cnU P m Z := by
  obtain ⟨h1, h2, h3, h4⟩ := nxU_in h
  have := cnU_lt (Z' := (Z.1, upO Z.2 (60 * m + i) true)) h1 h3 rfl
  omega
theorem lpS_in {m : Nat} {s0 : Nat → Option Sh} (W : wfP k P) (hm : m < k) : ∀ (f : Nat) {Z Z' : ShL}, lpI k P m s0 Z → cnU P m Z ≤ f → lpS P m f Z = .inr Z' → lpI k P m s0 Z' ∧ nxU P m Z' = none
  | 0, Z, Z', hI, hc, h => by
    have h := Sum.inr.inj h
    subst h
    refine ⟨hI, ?_⟩
    cases e : nxU P m Z with
    | none => rfl
    | some i => have := cnU_0 e; omega
  | f + 1, Z, Z', hI, hc, h => by
    unfold lpS at h
    cases e : nxU P m Z with
    | none =>
      rw [e] at h
      have h := Sum.inr.inj h
      subst h
      exact ⟨hI, e⟩
    | some i =>
      rw [e] at h
      simp only [] at h
      obtain ⟨h1, h2, h3, h4⟩ := nxU_in e
      cases el : lkS P m i Z with
      | inl e => rw [el] at h; cases h
      | inr Z1 =>
        rw [el] at h
        obtain ⟨a1, a2⟩ := lkS_in W hm hI el h2
        have := cnU_lt h1 h3 a2
        exact lpS_in W hm f a1 (by omega) h
/-- the shapes of the methods before m -/
def shI (k : Nat) (P : Pm) (m : Nat) (s : Nat → Option Sh) : Prop := okSh k P s ∧ (∀ p x, s p = some x → p < 60 * m) ∧ (∀ j, j < m → 0 < pN P 5 j ∧ s (60 * j) = some (0, 0) ∧ ∀ i, i < pN P 5 j → nxO k P s j i)
theorem meS_in {m : Nat} {s s' : Nat → Option Sh} (W : wfP k P) (hm : m < k) (hI : shI k P m s) (h : meS P m s = .inr s') : shI k P (m + 1) s' := by
  obtain ⟨I1, I2, I3⟩ := hI
  have wm := wf_ar W hm
  unfold meS at h
  split at h
  · cases h
  · rename_i hl
    cases e : lpS P m 60 (st0 m s) with
    | inl e' => rw [e] at h; cases h
    | inr Z =>
      rw [e] at h
      have h := Sum.inr.inj h
      subst h
      have c : cnU P m (st0 m s) ≤ 60 := by
        unfold cnU
        refine Nat.le_trans (List.length_filter_le _ _) ?_
        rw [List.length_range]
        omega
      have s00 : s (60 * m) = none := by
        cases q : s (60 * m) with
        | none => rfl
        | some x => have := I2 _ _ q; omega
      have J : lpI k P m (upO s (60 * m) (some (0, 0))) (st0 m s) := by
        refine ⟨fun p x hx => ?_, leS.rf, fun i _ hq => by cases hq⟩
        have hx : upO s (60 * m) (some (0, 0)) p = some x := hx
        by_cases q : p = 60 * m
        · rw [q, upO_self] at hx
          cases hx
          exact ⟨m, 0, hm, by omega, by omega, by decide, by decide⟩
        · rw [upO_ne q] at hx
          exact I1 p x hx
      obtain ⟨⟨J1, J2, J3⟩, J4⟩ := lpS_in W hm 60 J c e
      have L : leS m s Z.1 := by
        refine ⟨fun p x hx => J2.1 p x ?_, fun p hp => (J2.2 p hp).trans (upO_ne (by omega))⟩
        by_cases q : p = 60 * m
        · rw [q, s00] at hx; cases hx
        · rw [upO_ne q]; exact hx
      refine ⟨J1, fun p x hx => ?_, fun j hj => ?_⟩
      · obtain ⟨m', i', a1, a2, a3, -⟩ := J1 p x hx
        rcases Nat.lt_or_ge p (60 * m) with q | q
        · omega
        · rcases Nat.lt_or_ge p (60 * m + 60) with q2 | q2
          · omega
          · have := I2 p x (by rw [← L.2 p (Or.inr q2)]; exact hx)
            omega
      · by_cases q : j = m
        · subst q
          refine ⟨by omega, J2.1 _ _ upO_self, fun i hi x hx => ?_⟩
          have u := rng_none J4 i hi
          unfold unl at u
          rw [hx] at u
          have lk : Z.2 (60 * j + i) = true := by simpa using u
          exact (J3 i hi lk).2 x hx
        · obtain ⟨b1, b2, b3⟩ := I3 j (by omega)
          refine ⟨b1, L.1 _ _ b2, fun i hi x hx => ?_⟩
          have wj := wf_ar W (show j < k by omega)
          have e1 : s (60 * j + i) = some x := by rw [← L.2 (60 * j + i) (by omega)]; exact hx
          exact nxO_mono (b3 i hi) L ⟨x, e1⟩ x hx
theorem shA_in (W : wfP k P) : ∀ (m : Nat) {s : Nat → Option Sh}, m ≤ k → shA P m = .inr s → shI k P m s
  | 0, s, _, h => by
    have h := Sum.inr.inj h
    subst h
    exact ⟨fun p x hx => (by cases hx), fun p x hx => (by cases hx), fun j hj => absurd hj (by omega)⟩
  | m + 1, s, hm, h => by
    unfold shA at h
    cases e : shA P m with
    | inl e' => rw [e] at h; cases h
    | inr s0 =>
      rw [e] at h
      exact meS_in W (by omega) (shA_in W m (by omega) e) h
/-! sites, wide places -/
def vldB (k : Nat) (P : Pm) (p : Nat) : Bool := decide (p / 60 < k) && decide (p % 60 < pN P 5 (p / 60))
theorem vldB_iff {p : Nat} : vldB k P p = true ↔ vld k P p := by
  unfold vldB vld
  rw [Bool.and_eq_true, decide_eq_true_iff, decide_eq_true_iff]
def opdB (k : Nat) (P : Pm) (m op : Nat) (a : Int32) : Bool := (!(decide (op = 1) || decide (op = 2)) || (decide (0 ≤ a.toInt) && decide (a.toInt < pN P 2 m))) && ((!(decide (19 ≤ op) && decide (op ≤ 27)) || (decide (0 ≤ a.toInt) && decide (a.toInt < pN P 5 m))) && ((!decide (op = 32) || (decide (0 ≤ a.toInt) && decide (a.toInt < k))) && (!(decide (op = 34) || decide (op = 35)) || (decide (0 ≤ a.toInt) && decide (a.toInt < 4)))))
theorem opdB_iff {m op : Nat} {a : Int32} : opdB k P m op a = true ↔ opdOk k P m op a := by
  unfold opdB opdOk
  simp only [Bool.and_eq_true, Bool.or_eq_true, Bool.not_eq_true', Bool.or_eq_false_iff, Bool.and_eq_false_iff, decide_eq_true_eq, decide_eq_false_iff_not]
  omega
def odF (k : Nat) (P : Pm) : Option Nat := (List.range 480).find? (fun p => vldB k P p && !opdB k P (p / 60) (pN P 6 p) (P 7 p))
def isSi (k : Nat) (P : Pm) (s : Nat → Option Sh) (p : Nat) : Bool := vldB k P p && (decide (pN P 6 p = 28) && (s p).isSome)
def sct (k : Nat) (P : Pm) (s : Nat → Option Sh) : Nat → Nat
  | 0 => 0
  | p + 1 => if isSi k P s p = true then sct k P s p + 1 else sct k P s p
def siF (k : Nat) (P : Pm) (s : Nat → Option Sh) : Option Nat := (List.range 480).find? (fun p => isSi k P s p && decide (24 ≤ sct k P s p))
def snF (k : Nat) (P : Pm) (s : Nat → Option Sh) (p : Nat) : Nat := 1 + sct k P s p
def wdF (k : Nat) (P : Pm) (p : Nat) : Bool := decide (p % 60 = 0) || (List.range 60).any (fun i => vldB k P (60 * (p / 60) + i) && (decide (19 ≤ pN P 6 (60 * (p / 60) + i)) && (decide (pN P 6 (60 * (p / 60) + i) ≤ 27) && (decide (pN P 7 (60 * (p / 60) + i) = p % 60) && decide (p % 60 ≤ i)))))
/-- what a build makes: a fault, or the shapes -/
def bldF (k : Nat) (P : Pm) : Flt ⊕ (Nat → Option Sh) := match odF k P with
  | some p => .inl (1, p / 60, p % 60)
  | none => match shA P k with
    | .inl e => .inl e
    | .inr s => match siF k P s with
      | some p => .inl (6, p / 60, p % 60)
      | none => .inr s
theorem bld_built {s : Nat → Option Sh} (W : wfP k P) (h : bldF k P = .inr s) : Built k P s (snF k P s) (wdF k P) ∧ (∀ p, p < 480 → isSi k P s p = true → sct k P s p < 24) := by
  unfold bldF at h
  cases e1 : odF k P with
  | some p => rw [e1] at h; cases h
  | none =>
    rw [e1] at h
    simp only [] at h
    cases e2 : shA P k with
    | inl e => rw [e2] at h; cases h
    | inr s' =>
      rw [e2] at h
      simp only [] at h
      cases e3 : siF k P s' with
      | some p => rw [e3] at h; cases h
      | none =>
        rw [e3] at h
        have h := Sum.inr.inj h
        subst h
        have k8 := W.k8
        obtain ⟨I1, I2, I3⟩ := shA_in W k (Nat.le_refl _) e2
        have O := rng_none e1
        have S3 : ∀ p, p < 480 → isSi k P s' p = true → sct k P s' p < 24 := fun p hp hs => by
          have := rng_none e3 p hp
          rw [hs, Bool.true_and, decide_eq_false_iff_not] at this
          omega
        have V : ∀ m i, m < k → i < pN P 5 m → 60 * m + i < 480 ∧ (60 * m + i) / 60 = m ∧ (60 * m + i) % 60 = i ∧ vldB k P (60 * m + i) = true := fun m i hm hi => by
          have wm := wf_ar W hm
          have a : (60 * m + i) / 60 = m := by omega
          have b : (60 * m + i) % 60 = i := by omega
          refine ⟨by omega, a, b, vldB_iff.mpr ?_⟩
          unfold vld
          rw [a, b]
          exact ⟨hm, hi⟩
        refine ⟨⟨W, I1, fun m hm => ⟨(I3 m hm).1, (I3 m hm).2.1⟩, fun m i x hm hi hx => ⟨?_, (I3 m hm).2.2 i hi x hx⟩, fun m hm => ?_, fun m i hm hi h1 h2 h3 => ?_, fun p x hx h28 => ?_⟩, S3⟩
        · obtain ⟨v1, v2, v3, v4⟩ := V m i hm hi
          have := O _ v1
          rw [v4, v2, Bool.true_and] at this
          refine opdB_iff.mp ?_
          simpa using this
        · unfold wdF
          rw [show 60 * m % 60 = 0 by omega]
          simp
        · obtain ⟨v1, v2, v3, v4⟩ := V m i hm hi
          have od : opdOk k P m (pN P 6 (60 * m + i)) (P 7 (60 * m + i)) := by
            have := O _ v1
            rw [v4, v2, Bool.true_and] at this
            refine opdB_iff.mp ?_
            simpa using this
          have a2 := od.2.1 ⟨h1, h2⟩
          have wm := wf_ar W hm
          unfold wdF
          rw [show (60 * m + pN P 7 (60 * m + i)) / 60 = m by omega, show (60 * m + pN P 7 (60 * m + i)) % 60 = pN P 7 (60 * m + i) by omega]
          rw [Bool.or_eq_true]
          right
          rw [List.any_eq_true]
          refine ⟨i, List.mem_range.mpr (by omega), ?_⟩
          simp [v4, h1, h2, h3]
        · obtain ⟨m, i, hm, hi, hp, -⟩ := I1 p x hx
          obtain ⟨v1, v2, v3, v4⟩ := V m i hm hi
          rw [← hp] at v4 v1
          have si : isSi k P s' p = true := by
            unfold isSi
            rw [v4, hx, decide_eq_true h28]
            rfl
          have := S3 p v1 si
          unfold snF
          omega
end PB1
