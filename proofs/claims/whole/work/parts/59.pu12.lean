section PURE12
variable {k : Nat} {P : Pm} {sh : Nat → Option Sh} {sn : Nat → Nat} {wd : Nat → Bool}
def hiA (v : Av) : Int := (spA v).2.1
theorem cov_hi {a b : Av} (h : covA b a = true) (hp : 0 ≤ hiA a) : 0 ≤ hiA b := by
  cases a <;> cases b <;> simp only [covA] at h <;> first | cases h | skip
  · have := cov_lo h
    simp only [hiA, spA] at *
    omega
  · exact Int.le_refl _
def leR (r r' : Rw) : Prop := r.told = true → r'.told = true ∧ r'.n = r.n ∧ ∀ i, i < r.n → covA (r'.f i).1 (r.f i).1 = true ∧ covM (r'.f i).2 (r.f i).2 = true
def leF (F G : Fa) : Prop := ∀ t, t < 542 → leR (F t) (G t)
/-- marks tell what is the same -/
def eM (n : Nat) (f : Nat → Sl) : Prop := ∀ i, i < n → (f i).2 ≠ -1 → (f i).1 = (f (f i).2.toNatClampNeg).1
def okL (L n : Nat) (f : Nat → Sl) : Prop := ∀ i, i < n → (f i).2 = -1 ∨ (L ≤ i ∧ ∃ j, j < L ∧ (f i).2 = Int32.ofNat j)
theorem ofNat_cl {j : Nat} (h : j < 60) : (Int32.ofNat j).toNatClampNeg = j := by
  rw [Int32.toNatClampNeg, Int32.toInt_ofNat_of_lt (by omega)]
  omega
theorem ofNat_inj {i j : Nat} (hi : i < 60) (hj : j < 60) (h : Int32.ofNat i = Int32.ofNat j) : i = j := by
  rw [← ofNat_cl hi, ← ofNat_cl hj, h]
theorem okL_of {m : Nat} {x : Sh} {n : Nat} {f : Nat → Sl} (h : tyG P m x n f) : okL (pN P 2 m) n f := fun i hi => by
  have t := tyG_mk h hi
  rcases t.2.2.1 with q | ⟨j, j1, j2, -⟩
  · exact Or.inl q
  · by_cases z : i < pN P 2 m
    · exact Or.inl (t.2.2.2 z)
    · exact Or.inr ⟨by omega, j, j1, j2⟩
theorem eM_pop {n m : Nat} {f : Nat → Sl} (h : eM n f) (hm : m ≤ n) : eM m f := fun i hi => h i (by omega)
theorem eM_push {L n : Nat} {f : Nat → Sl} {v : Sl} (hL : L ≤ 6) (hn : L ≤ n) (ho : okL L n f) (h : eM n f) (hv : v.2 ≠ -1 → ∃ j, j < L ∧ v.2 = Int32.ofNat j ∧ v.1 = (f j).1) : eM (n + 1) (upF f n v) := by
  intro i hi hne
  by_cases e : i = n
  · subst e
    simp only [upF, if_true] at hne ⊢
    obtain ⟨j, j1, j2, j3⟩ := hv hne
    rw [j2, ofNat_cl (by omega), if_neg (by omega)]
    exact j3
  · simp only [upF, e, if_false] at hne ⊢
    rcases ho i (by omega) with q | ⟨q1, j, q2, q3⟩
    · exact absurd q hne
    · have := h i (by omega) hne
      rw [q3, ofNat_cl (by omega)] at this ⊢
      rw [if_neg (by omega)]
      exact this
theorem tell_at {L n T : Nat} {f : Nat → Sl} {mk : Int32} {v : Av} (hL : L ≤ 6) (hm : mk = -1 ∨ ∃ j, j < L ∧ mk = Int32.ofNat j) (hT : L ≤ T) (hn : T < n) : tellF n f mk v T = if mk ≠ -1 ∧ (f T).2 = mk then (v, (f T).2) else f T := by
  unfold tellF
  by_cases q : mk = -1
  · rw [if_pos q, if_neg (by simp [q])]
  · rw [if_neg q]
    rcases hm with hm | ⟨j, j1, j2⟩
    · exact absurd hm q
    · have cj : mk.toNatClampNeg = j := by rw [j2, ofNat_cl (by omega)]
      by_cases c : (f T).2 = mk
      · rw [if_pos (Or.inr ⟨hn, c⟩), if_pos ⟨q, c⟩]
      · rw [if_neg (by rw [cj]; rintro (z | z); · omega
                       · exact c z.2), if_neg (fun z => c z.2)]
theorem tell_mk {n i : Nat} {f : Nat → Sl} {mk : Int32} {v : Av} : (tellF n f mk v i).2 = (f i).2 := by
  unfold tellF
  split
  · rfl
  · dsimp only
    split <;> rfl
theorem okL_tell {L n n' : Nat} {f : Nat → Sl} {mk : Int32} {v : Av} (h : okL L n f) : okL L n (tellF n' f mk v) := fun i hi => by
  rw [tell_mk]
  exact h i hi
theorem eM_tell {L n : Nat} {f : Nat → Sl} {mk : Int32} {v : Av} (hL : L ≤ 6) (_ : L ≤ n) (ho : okL L n f) (h : eM n f) (hm : mk = -1 ∨ ∃ j, j < L ∧ mk = Int32.ofNat j) : eM n (tellF n f mk v) := by
  by_cases q : mk = -1
  · unfold tellF
    rw [if_pos q]
    exact h
  rcases hm with hm | ⟨j, j1, j2⟩
  · exact absurd hm q
  have cj : mk.toNatClampNeg = j := by rw [j2, ofNat_cl (by omega)]
  intro i hi hne
  rw [tell_mk] at hne ⊢
  rcases ho i hi with z | ⟨z1, j', z2, z3⟩
  · exact absurd z hne
  have hloc : (f j').2 = -1 := by
    rcases ho j' (by omega) with y | ⟨y, -⟩
    · exact y
    · omega
  have := h i hi hne
  rw [z3, ofNat_cl (by omega)] at this ⊢
  unfold tellF
  rw [if_neg q]
  rw [cj]
  by_cases e : j' = j
  · subst e
    rw [if_pos (Or.inr ⟨hi, by rw [z3, j2]⟩), if_pos (Or.inl rfl)]
  · have ne : Int32.ofNat j' ≠ mk := by
      rw [j2]
      exact fun y => e (ofNat_inj (by omega) (by omega) y)
    rw [if_neg (by
      rintro (y | y)
      · omega
      · rw [z3] at y; exact ne y.2), if_neg (by
      rintro (y | y)
      · exact e y
      · rw [hloc] at y; exact q y.2.symm)]
    exact this
theorem eM_drop {L n a : Nat} {f : Nat → Sl} {v : Av} (hL : L ≤ 6) (ha : a < L) (ho : okL L n f) (h : eM n f) : eM n (dropF n (upF f a (v, (f a).2)) (Int32.ofNat a)) := by
  have mk : ∀ i, (upF f a (v, (f a).2) i).2 = (f i).2 := fun i => by
    unfold upF
    split
    · rename_i e; rw [e]
    · rfl
  intro i hi hne
  unfold dropF at hne ⊢
  simp only [mk] at hne ⊢
  by_cases c : i < n ∧ (f i).2 = Int32.ofNat a
  · rw [if_pos c] at hne
    exact absurd rfl hne
  · rw [if_neg c] at hne ⊢
    rw [mk] at hne ⊢
    rcases ho i hi with z | ⟨z1, j, z2, z3⟩
    · exact absurd z hne
    have := h i hi hne
    have ne : j ≠ a := fun e => c ⟨hi, by rw [z3, e]⟩
    rw [z3, ofNat_cl (by omega)] at this ⊢
    have hl : (f j).2 = -1 := by
      rcases ho j (by omega) with y | ⟨y, -⟩
      · exact y
      · omega
    rw [if_neg (by
      rintro ⟨-, y⟩
      rw [hl] at y
      have : (-1 : Int32).toNatClampNeg = a := by rw [y, ofNat_cl (by omega)]
      have e2 : (-1 : Int32).toInt = (Int32.ofNat a).toInt := by rw [y]
      rw [Int32.toInt_ofNat_of_lt (by omega)] at e2
      have : (-1 : Int32).toInt = -1 := rfl
      omega)]
    unfold upF
    rw [if_neg (by omega), if_neg ne]
    exact this
theorem join_eM {T : Ty} {wd : Bool} {r : Rw} {n : Nat} {g : Nat → Sl} (hr : okR T r) (hg : okG T n g) (h1 : r.told = true → eM r.n r.f) (h2 : eM n g) : eM (joinR wd r n g).n (joinR wd r n g).f := by
  unfold joinR
  split
  · exact h2
  · rename_i q
    have ht : r.told = true := by simpa using q
    split
    · exact h1 ht
    · have hr' := hr ht
      intro i hi hne
      have hir : i < r.n := hi
      clear hi
      have hne : (joinM (r.f i).2 (g i).2) ≠ -1 := hne
      show (joinSl (wd && decide (4 ≤ r.ch + 1)) (r.f i) (g i)).1 = (joinSl (wd && decide (4 ≤ r.ch + 1)) (r.f (joinM (r.f i).2 (g i).2).toNatClampNeg) (g (joinM (r.f i).2 (g i).2).toNatClampNeg)).1
      simp only [joinSl, joinM] at hne ⊢
      by_cases c : (r.f i).2 = (g i).2
      · rw [if_pos c] at hne ⊢
        have hi' : i < T.1 := by have := hr'.1; omega
        have a := h1 ht i hir hne
        have b := h2 i (by have := hg.1; omega) (by rw [← c]; exact hne)
        rw [← c] at b
        rw [a, b]
      · rw [if_neg c] at hne
        exact absurd rfl hne
end PURE12
