section PURE4
/-- a value: a span, or a set of sites with or without null -/
abbrev Av : Type := Sp ⊕ (Int32 × Bool)
def okAv : Av → Prop
  | .inl x => okS x
  | .inr (_, _) => True
def arA : Av → Bool
  | .inl _ => false
  | .inr (_, _) => true
def covA : Av → Av → Bool
  | .inl x, .inl y => covS x y
  | .inr (b, o), .inr (c, p) => decide (c &&& (b ^^^ -1) = 0) && (o || !p)
  | _, _ => false
def bothA : Av → Av → Av
  | .inl x, .inl y => .inl (bothS x y)
  | .inr (b, o), .inr (c, p) => .inr (b ||| c, o || p)
  | x, _ => x
def farA : Av → Av → Av
  | .inl x, .inl y => .inl (movS (bothS x y) x.1 x.2.1)
  | x, y => bothA x y
abbrev Sl : Type := Av × Int32
abbrev Rw : Type := Bool × Nat × Nat × (Nat → Sl)
abbrev Rw.told (r : Rw) : Bool := r.1
abbrev Rw.ch (r : Rw) : Nat := r.2.1
abbrev Rw.n (r : Rw) : Nat := r.2.2.1
abbrev Rw.f (r : Rw) : Nat → Sl := r.2.2.2
abbrev mkR (t : Bool) (c n : Nat) (f : Nat → Sl) : Rw := (t, c, n, f)
/-- what comes to a row: its number, how many, and which -/
abbrev Con : Type := Nat × Nat × (Nat → Sl)
def covM (a b : Int32) : Bool := decide (a = -1) || decide (a = b)
def covR (r : Rw) (n : Nat) (g : Nat → Sl) : Bool := decide (n = r.n) && (List.range r.n).all (fun i => covA (r.f i).1 (g i).1 && covM (r.f i).2 (g i).2)
def joinM (a b : Int32) : Int32 := if a = b then a else -1
def joinSl (far : Bool) (a b : Sl) : Sl := (if far then farA a.1 b.1 else bothA a.1 b.1, joinM a.2 b.2)
def newR (r : Rw) (n : Nat) (g : Nat → Sl) : Bool := !r.told || !covR r n g
def joinR (wd : Bool) (r : Rw) (n : Nat) (g : Nat → Sl) : Rw := if r.told = false then mkR true r.ch n g else if covR r n g = true then r else mkR r.told (r.ch + 1) r.n (fun i => joinSl (wd && decide (4 ≤ r.ch + 1)) (r.f i) (g i))
abbrev Fa : Type := Nat → Rw
def come (gr : Nat → Bool) (X : Fa × Bool) (c : Con) : Fa × Bool := (fun t => if t = c.1 then joinR (gr t) (X.1 t) c.2.1 c.2.2 else X.1 t, X.2 || newR (X.1 c.1) c.2.1 c.2.2)
/-- how many, how many of them locals, and which are arrays -/
abbrev Ty : Type := Nat × Nat × (Nat → Bool)
def okMk (T : Ty) (i : Nat) (m : Int32) : Prop := m = -1 ∨ (T.2.1 ≤ i ∧ ∃ j, j < T.2.1 ∧ m = Int32.ofNat j ∧ T.2.2 j = T.2.2 i)
def okG (T : Ty) (n : Nat) (g : Nat → Sl) : Prop := n = T.1 ∧ ∀ i, i < T.1 → okAv (g i).1 ∧ arA (g i).1 = T.2.2 i ∧ okMk T i (g i).2
def okR (T : Ty) (r : Rw) : Prop := r.told = true → okG T r.n r.f
theorem covR_iff {r : Rw} {n : Nat} {g : Nat → Sl} : covR r n g = true ↔ n = r.n ∧ ∀ i, i < r.n → covA (r.f i).1 (g i).1 = true ∧ covM (r.f i).2 (g i).2 = true := by
  unfold covR
  simp [List.all_eq_true]
theorem newR_iff {r : Rw} {n : Nat} {g : Nat → Sl} : newR r n g = false ↔ r.told = true ∧ covR r n g = true := by
  unfold newR
  simp
theorem join_self {wd : Bool} {r : Rw} {n : Nat} {g : Nat → Sl} (h : newR r n g = false) : joinR wd r n g = r := by
  obtain ⟨h1, h2⟩ := newR_iff.mp h
  unfold joinR
  rw [if_neg (by simp [h1]), if_pos h2]
/-! values -/
theorem set_cov {b c : Int32} : c &&& (b ^^^ -1) = 0 ↔ ∀ i, i < 32 → c.toBitVec.getLsbD i = true → b.toBitVec.getLsbD i = true := by
  have hm : (-1 : Int32).toBitVec = BitVec.allOnes 32 := rfl
  constructor
  · intro h i hi hc
    have h2 := congrArg (fun x : Int32 => x.toBitVec.getLsbD i) h
    simp only [Int32.toBitVec_and, Int32.toBitVec_xor, BitVec.getLsbD_and, BitVec.getLsbD_xor, hm, BitVec.getLsbD_allOnes, hc, hi] at h2
    simpa using h2
  · intro h
    apply Int32.toBitVec_inj.mp
    apply BitVec.eq_of_getLsbD_eq
    intro i hi
    simp only [Int32.toBitVec_and, Int32.toBitVec_xor, BitVec.getLsbD_and, BitVec.getLsbD_xor, hm, BitVec.getLsbD_allOnes, hi]
    have := h i hi
    cases hc : c.toBitVec.getLsbD i
    · simp
    · simp [this hc]
theorem covA_refl (a : Av) : covA a a = true := by
  cases a with
  | inl x => exact cov_refl x
  | inr bo =>
    obtain ⟨b, o⟩ := bo
    simp only [covA, Bool.and_eq_true, decide_eq_true_eq]
    exact ⟨set_cov.mpr (fun _ _ h => h), by cases o <;> rfl⟩
theorem covA_trans {a b c : Av} (hb : okAv b) (hc : okAv c) (h1 : covA a b = true) (h2 : covA b c = true) : covA a c = true := by
  cases a <;> cases b <;> cases c <;> simp only [covA] at h1 h2 ⊢ <;> first | cases h1 | cases h2 | skip
  · exact cov_trans hb hc h1 h2
  · simp only [Bool.and_eq_true, decide_eq_true_eq, Bool.or_eq_true] at h1 h2 ⊢
    refine ⟨set_cov.mpr (fun i hi h => set_cov.mp h1.1 i hi (set_cov.mp h2.1 i hi h)), ?_⟩
    rename_i ao bo co
    obtain ⟨_, o⟩ := ao
    obtain ⟨_, p⟩ := bo
    obtain ⟨_, q⟩ := co
    cases o <;> cases p <;> cases q <;> simp at h1 h2 ⊢
theorem bothA_ar (a b : Av) : arA (bothA a b) = arA a := by cases a <;> cases b <;> rfl
theorem farA_ar (a b : Av) : arA (farA a b) = arA a := by cases a <;> cases b <;> rfl
theorem bothA_ok {a b : Av} (ha : okAv a) (hb : okAv b) : okAv (bothA a b) := by
  cases a <;> cases b <;> first | exact both_ok ha hb | exact ha | trivial
theorem farA_ok {a b : Av} (ha : okAv a) (hb : okAv b) : okAv (farA a b) := by
  cases a <;> cases b <;> first | exact mov_ok (both_ok ha hb) _ _ | exact ha | trivial
theorem set_or {b c : Int32} : (c &&& ((b ||| c) ^^^ -1) = 0) ∧ (b &&& ((b ||| c) ^^^ -1) = 0) := by
  constructor
  · exact set_cov.mpr (fun i _ h => by simp [h])
  · exact set_cov.mpr (fun i _ h => by simp [h])
theorem bothA_cov {a b : Av} (hk : arA a = arA b) : covA (bothA a b) a = true ∧ covA (bothA a b) b = true := by
  cases a <;> cases b <;> first | cases hk | skip
  · exact both_cov
  · simp only [bothA, covA, Bool.and_eq_true, decide_eq_true_eq]
    rename_i cx dx
    obtain ⟨c, o⟩ := cx
    obtain ⟨d, p⟩ := dx
    exact ⟨⟨set_or.2, by cases o <;> cases p <;> rfl⟩, set_or.1, by cases o <;> cases p <;> rfl⟩
theorem farA_cov {a b : Av} (ha : okAv a) (hb : okAv b) (hk : arA a = arA b) : covA (farA a b) a = true ∧ covA (farA a b) b = true := by
  cases a <;> cases b <;> first | cases hk | skip
  · have k := both_cov (x := ‹Sp›) (y := ‹Sp›)
    rename_i x y
    have h1 := both_ok ha hb
    exact ⟨cov_trans h1 ha (mov_cov h1 _ _) both_cov.1, cov_trans h1 hb (mov_cov h1 _ _) both_cov.2⟩
  · exact bothA_cov (a := .inr (_, _)) (b := .inr (_, _)) (by rfl)
/-! marks -/
theorem covM_iff {a b : Int32} : covM a b = true ↔ a = -1 ∨ a = b := by simp [covM]
theorem joinM_ok {T : Ty} {i : Nat} {a b : Int32} (ha : okMk T i a) : okMk T i (joinM a b) := by
  unfold joinM
  split
  · exact ha
  · exact Or.inl rfl
theorem joinM_cov {a b : Int32} : covM (joinM a b) a = true ∧ covM (joinM a b) b = true := by
  simp only [covM_iff, joinM]
  split <;> simp_all
theorem covM_trans {a b c : Int32} (h1 : covM a b = true) (h2 : covM b c = true) : covM a c = true := by
  rw [covM_iff] at *
  rcases h1 with h1 | h1
  · exact Or.inl h1
  · subst h1
    exact h2
/-! rows -/
theorem joinSl_ok {T : Ty} {i : Nat} {far : Bool} {a b : Sl} (ha : okAv a.1 ∧ arA a.1 = T.2.2 i ∧ okMk T i a.2) (hb : okAv b.1) : okAv (joinSl far a b).1 ∧ arA (joinSl far a b).1 = T.2.2 i ∧ okMk T i (joinSl far a b).2 := by
  refine ⟨?_, ?_, joinM_ok ha.2.2⟩
  · simp only [joinSl]; split
    · exact farA_ok ha.1 hb
    · exact bothA_ok ha.1 hb
  · simp only [joinSl]; split
    · rw [farA_ar]; exact ha.2.1
    · rw [bothA_ar]; exact ha.2.1
theorem joinSl_cov {far : Bool} {a b : Sl} (ha : okAv a.1) (hb : okAv b.1) (hk : arA a.1 = arA b.1) : (covA (joinSl far a b).1 a.1 = true ∧ covM (joinSl far a b).2 a.2 = true) ∧ covA (joinSl far a b).1 b.1 = true ∧ covM (joinSl far a b).2 b.2 = true := by
  have : covA (joinSl far a b).1 a.1 = true ∧ covA (joinSl far a b).1 b.1 = true := by
    simp only [joinSl]; split
    · exact farA_cov ha hb hk
    · exact bothA_cov hk
  exact ⟨⟨this.1, joinM_cov.1⟩, this.2, joinM_cov.2⟩
theorem joinR_ok {T : Ty} {wd : Bool} {r : Rw} {n : Nat} {g : Nat → Sl} (hr : okR T r) (hg : okG T n g) : okR T (joinR wd r n g) := by
  unfold joinR
  split
  · exact fun _ => hg
  · split
    · exact hr
    · rename_i h1 h2
      intro _
      have hr' := hr (by simpa using h1)
      exact ⟨hr'.1, fun i hi => joinSl_ok (hr'.2 i hi) (hg.2 i hi).1⟩
theorem joinR_told {wd : Bool} {r : Rw} {n : Nat} {g : Nat → Sl} : (joinR wd r n g).told = true := by
  unfold joinR
  split
  · rfl
  · split <;> (rename_i h _; simpa using h)
/-- what has come is there -/
theorem join_acc {T : Ty} {wd : Bool} {r : Rw} {n : Nat} {g : Nat → Sl} (hr : okR T r) (hg : okG T n g) : newR (joinR wd r n g) n g = false := by
  rw [newR_iff]
  refine ⟨joinR_told, ?_⟩
  unfold joinR
  split
  · rw [covR_iff]
    exact ⟨rfl, fun i _ => ⟨covA_refl _, by simp [covM]⟩⟩
  · split
    · assumption
    · rename_i h1 h2
      have hr' := hr (by simpa using h1)
      rw [covR_iff]
      refine ⟨by rw [hg.1, hr'.1], fun i hi => ?_⟩
      have hi' : i < T.1 := by have := hr'.1; have hi2 : i < r.n := hi; omega
      have a := hr'.2 i hi'
      have b := hg.2 i hi'
      exact (joinSl_cov a.1 b.1 (by rw [a.2.1, b.2.1])).2
/-- what was there stays -/
theorem acc_join {T : Ty} {wd : Bool} {r : Rw} {n m : Nat} {g k : Nat → Sl} (hr : okR T r) (hg : okG T n g) (hk : okG T m k) (h : newR r m k = false) : newR (joinR wd r n g) m k = false := by
  rw [newR_iff] at h ⊢
  refine ⟨joinR_told, ?_⟩
  unfold joinR
  split
  · rename_i q
    rw [h.1] at q
    cases q
  · split
    · exact h.2
    · have hr' := hr h.1
      have hc := covR_iff.mp h.2
      rw [covR_iff]
      refine ⟨hc.1, fun i hi => ?_⟩
      have hi' : i < T.1 := by have := hr'.1; have hi2 : i < r.n := hi; omega
      have a := hr'.2 i hi'
      have b := hg.2 i hi'
      have c := hk.2 i hi'
      have j := (joinSl_cov (far := wd && decide (4 ≤ r.ch + 1)) a.1 b.1 (by rw [a.2.1, b.2.1])).1
      exact ⟨covA_trans a.1 c.1 j.1 (hc.2 i hi).1, covM_trans j.2 (hc.2 i hi).2⟩
/-! weights -/
def sm (f : Nat → Nat) : Nat → Nat
  | 0 => 0
  | n + 1 => sm f n + f n
theorem sm_le {f g : Nat → Nat} : ∀ {n : Nat}, (∀ i, i < n → f i ≤ g i) → sm f n ≤ sm g n
  | 0, _ => Nat.le_refl _
  | n + 1, h => Nat.add_le_add (sm_le (fun i hi => h i (by omega))) (h n (by omega))
theorem sm_lt {f g : Nat → Nat} : ∀ {n : Nat}, (∀ i, i < n → f i ≤ g i) → (∃ i, i < n ∧ f i < g i) → sm f n < sm g n
  | 0, _, ⟨i, hi, _⟩ => absurd hi (by omega)
  | n + 1, h, ⟨i, hi, hl⟩ => by
    have h1 := sm_le (f := f) (g := g) (n := n) (fun i hi => h i (by omega))
    have h2 := h n (by omega)
    simp only [sm]
    by_cases e : i = n
    · subst e; omega
    · have := sm_lt (f := f) (g := g) (n := n) (fun i hi => h i (by omega)) ⟨i, by omega, hl⟩
      omega
theorem sm_b {f : Nat → Nat} {k : Nat} : ∀ {n : Nat}, (∀ i, i < n → f i ≤ k) → sm f n ≤ k * n
  | 0, _ => by simp [sm]
  | n + 1, h => by
    have := sm_b (f := f) (k := k) (n := n) (fun i hi => h i (by omega))
    have := h n (by omega)
    simp only [sm, Nat.mul_succ]
    omega
theorem sm_eq {f g : Nat → Nat} {n : Nat} (h : ∀ i, i < n → f i ≤ g i) (e : sm f n = sm g n) : ∀ i, i < n → f i = g i := by
  intro i hi
  rcases Nat.lt_or_eq_of_le (h i hi) with q | q
  · have := sm_lt h ⟨i, hi, q⟩
    omega
  · exact q
def phiA : Av → Nat
  | .inl x => phiS x
  | .inr (b, o) => sm (fun i => if b.toBitVec.getLsbD i = true then 0 else 1) 32 + if o then 0 else 1
def phiM (m : Int32) : Nat := if m = -1 then 0 else 1
theorem phiA_le {a : Av} (h : okAv a) : phiA a ≤ 138 := by
  cases a with
  | inl x => exact phi_le h
  | inr bo =>
    obtain ⟨b, o⟩ := bo
    have := sm_b (f := fun i => if b.toBitVec.getLsbD i = true then 0 else 1) (k := 1) (n := 32) (fun i _ => by (try dsimp only); split <;> omega)
    simp only [phiA]
    split <;> omega
theorem phiA_cov {a b : Av} (ha : okAv a) (hb : okAv b) (h : covA b a = true) : phiA b ≤ phiA a := by
  cases a <;> cases b <;> simp only [covA] at h <;> first | cases h | skip
  · exact phi_cov ha hb h
  · rename_i cx dx
    obtain ⟨c, o⟩ := cx
    obtain ⟨d, p⟩ := dx
    simp only [Bool.and_eq_true, decide_eq_true_eq, Bool.or_eq_true] at h
    have := sm_le (f := fun i => if d.toBitVec.getLsbD i = true then 0 else 1) (g := fun i => if c.toBitVec.getLsbD i = true then 0 else 1) (n := 32) (fun i hi => by
      (try dsimp only)
      by_cases q : c.toBitVec.getLsbD i = true
      · rw [if_pos q, if_pos (set_cov.mp h.1 i hi q)]; omega
      · rw [if_neg q]; split <;> omega)
    simp only [phiA]
    cases o <;> cases p <;> simp at h ⊢ <;> omega
theorem phiA_far {a b : Av} (ha : okAv a) (hb : okAv b) (hk : arA a = arA b) (h : covA a b = false) : phiA (farA a b) + 1 ≤ phiA a := by
  cases a <;> cases b <;> first | cases hk | skip
  · exact phi_mov ha hb h
  · rename_i cx dx
    obtain ⟨c, o⟩ := cx
    obtain ⟨d, p⟩ := dx
    simp only [farA, bothA, phiA]
    have hle : ∀ i, i < 32 → (fun i => if (c ||| d).toBitVec.getLsbD i = true then 0 else 1) i ≤ (fun i => if c.toBitVec.getLsbD i = true then 0 else 1) i := fun i hi => by
      (try dsimp only)
      by_cases q : c.toBitVec.getLsbD i = true
      · rw [if_pos q, if_pos (by simp [q])]; omega
      · rw [if_neg q]; split <;> omega
    by_cases q : d &&& (c ^^^ -1) = 0
    · have l := sm_le hle
      revert l
      generalize sm (fun i => if (c ||| d).toBitVec.getLsbD i = true then 0 else 1) 32 = A
      generalize sm (fun i => if c.toBitVec.getLsbD i = true then 0 else 1) 32 = B
      intro l
      simp only [covA, q, decide_true, Bool.true_and] at h
      cases o <;> cases p <;> simp at h ⊢ <;> omega
    · have : ∃ i, i < 32 ∧ d.toBitVec.getLsbD i = true ∧ ¬ c.toBitVec.getLsbD i = true := by
        apply Classical.byContradiction
        intro hn
        apply q
        apply set_cov.mpr
        intro i hi hd
        apply Classical.byContradiction
        intro hc
        exact hn ⟨i, hi, hd, hc⟩
      obtain ⟨i, hi, hd, hc⟩ := this
      have l := sm_lt hle ⟨i, hi, by (try dsimp only); rw [if_neg hc, if_pos (by simp [hd])]; omega⟩
      revert l
      generalize sm (fun i => if (c ||| d).toBitVec.getLsbD i = true then 0 else 1) 32 = A
      generalize sm (fun i => if c.toBitVec.getLsbD i = true then 0 else 1) 32 = B
      intro l
      cases o <;> cases p <;> simp <;> omega
theorem phiM_join {a b : Int32} : phiM (joinM a b) ≤ phiM a ∧ (covM a b = false → phiM (joinM a b) + 1 ≤ phiM a) := by
  unfold phiM joinM covM
  by_cases h1 : a = -1 <;> by_cases h2 : a = b <;> simp [h1, h2] <;> (try split) <;> omega
def psiR (T : Ty) (r : Rw) : Nat := if r.told then (3 - r.ch) + sm (fun i => phiA (r.f i).1 + phiM (r.f i).2) T.1 else 139 * T.1 + 4
theorem psi_mk {T : Ty} {c n : Nat} {f : Nat → Sl} : psiR T (mkR true c n f) = (3 - c) + sm (fun i => phiA (f i).1 + phiM (f i).2) T.1 := rfl
theorem psi_t {T : Ty} {r : Rw} (h : r.told = true) : psiR T r = (3 - r.ch) + sm (fun i => phiA (r.f i).1 + phiM (r.f i).2) T.1 := by
  unfold psiR
  rw [if_pos h]
theorem psi_f {T : Ty} {r : Rw} (h : r.told = false) : psiR T r = 139 * T.1 + 4 := by
  unfold psiR
  rw [if_neg (by simp [h])]
theorem psi_le {T : Ty} {r : Rw} (h : okR T r) : psiR T r ≤ 139 * T.1 + 4 := by
  unfold psiR
  split
  · rename_i q
    have hr := h q
    have := sm_b (f := fun i => phiA (r.f i).1 + phiM (r.f i).2) (k := 139) (n := T.1) (fun i hi => by
      have := phiA_le (hr.2 i hi).1
      (try dsimp only)
      unfold phiM
      split <;> omega)
    omega
  · omega
theorem psi_join {T : Ty} {r : Rw} {n : Nat} {g : Nat → Sl} (hr : okR T r) (hg : okG T n g) (hn : newR r n g = true) : psiR T (joinR true r n g) + 1 ≤ psiR T r := by
  by_cases ht : r.told = true
  · have hr' := hr ht
    have hc : covR r n g = false := by
      simp [newR, ht] at hn
      exact hn
    have e : joinR true r n g = mkR r.told (r.ch + 1) r.n (fun i => joinSl (true && decide (4 ≤ r.ch + 1)) (r.f i) (g i)) := by
      unfold joinR
      rw [if_neg (by simp [ht]), if_neg (by simp [hc])]
    rw [e, psi_t ht, ht, psi_mk]
    have hle : ∀ i, i < T.1 → (fun i => phiA (joinSl (true && decide (4 ≤ r.ch + 1)) (r.f i) (g i)).1 + phiM (joinSl (true && decide (4 ≤ r.ch + 1)) (r.f i) (g i)).2) i ≤ (fun i => phiA (r.f i).1 + phiM (r.f i).2) i := fun i hi => by
      have a := hr'.2 i hi
      have b := hg.2 i hi
      have j := (joinSl_cov (far := true && decide (4 ≤ r.ch + 1)) a.1 b.1 (by rw [a.2.1, b.2.1])).1
      have o := joinSl_ok (far := true && decide (4 ≤ r.ch + 1)) a b.1
      exact Nat.add_le_add (phiA_cov a.1 o.1 j.1) phiM_join.1
    by_cases q : 4 ≤ r.ch + 1
    · have : ∃ i, i < T.1 ∧ ¬ (covA (r.f i).1 (g i).1 = true ∧ covM (r.f i).2 (g i).2 = true) := by
        apply Classical.byContradiction
        intro hno
        have : covR r n g = true := covR_iff.mpr ⟨by rw [hg.1, hr'.1], fun i hi => by
          apply Classical.byContradiction
          intro hx
          exact hno ⟨i, by have := hr'.1; omega, hx⟩⟩
        rw [this] at hc
        cases hc
      obtain ⟨i, hi, hx⟩ := this
      have l := sm_lt hle ⟨i, hi, by
        have a := hr'.2 i hi
        have b := hg.2 i hi
        simp only [joinSl, q, decide_true, Bool.and_true, if_true]
        cases h1 : covA (r.f i).1 (g i).1 with
        | false =>
          have := phiA_far a.1 b.1 (by rw [a.2.1, b.2.1]) h1
          have := (phiM_join (a := (r.f i).2) (b := (g i).2)).1
          omega
        | true =>
          have h2 : covM (r.f i).2 (g i).2 = false := by
            cases h2 : covM (r.f i).2 (g i).2
            · rfl
            · exact absurd ⟨h1, h2⟩ hx
          have := (phiM_join (a := (r.f i).2) (b := (g i).2)).2 h2
          have := phiA_cov a.1 (farA_ok a.1 b.1) (farA_cov a.1 b.1 (by rw [a.2.1, b.2.1])).1
          omega⟩
      omega
    · have l := sm_le hle
      omega
  · have hf : r.told = false := by simpa using ht
    have e : joinR true r n g = mkR true r.ch n g := by
      unfold joinR
      rw [if_pos hf]
    rw [e]
    have := sm_b (f := fun i => phiA (g i).1 + phiM (g i).2) (k := 139) (n := T.1) (fun i hi => by
      have := phiA_le (hg.2 i hi).1
      (try dsimp only)
      unfold phiM
      split <;> omega)
    rw [psi_f hf, psi_mk]
    omega
end PURE4
