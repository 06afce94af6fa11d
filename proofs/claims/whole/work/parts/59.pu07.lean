section PURE7
variable {k : Nat} {P : Pm} {sh : Nat → Option Sh} {sn : Nat → Nat} {wd : Nat → Bool}
/-- a row of a place with shape x, in method m -/
def tyG (P : Pm) (m : Nat) (x : Sh) (n : Nat) (f : Nat → Sl) : Prop := okG (tyS P m x) n f
def mkO (P : Pm) (m : Nat) (b : Bool) (mk : Int32) : Prop := mk = -1 ∨ ∃ j, j < pN P 2 m ∧ mk = Int32.ofNat j ∧ kdB P m j = b
theorem kdF_lo {m : Nat} {x : Sh} {i : Nat} (h : i < pN P 2 m) : kdF P m x i = kdB P m i := by simp [kdF, h]
theorem kdF_hi {m : Nat} {x : Sh} {i : Nat} : kdF P m x (pN P 2 m + i) = x.2.testBit i := by
  unfold kdF
  rw [if_neg (by omega), show pN P 2 m + i - pN P 2 m = i by omega]
theorem tyG_mk {m : Nat} {x : Sh} {n i : Nat} {f : Nat → Sl} (h : tyG P m x n f) (hi : i < n) : okAv (f i).1 ∧ arA (f i).1 = kdF P m x i ∧ mkO P m (kdF P m x i) (f i).2 ∧ (i < pN P 2 m → (f i).2 = -1) := by
  have e : n = pN P 2 m + x.1 := h.1
  obtain ⟨a, b, c⟩ := h.2 i (by show i < pN P 2 m + x.1; omega)
  refine ⟨a, b, ?_, fun hl => ?_⟩
  · rcases c with c | ⟨c1, j, c2, c3, c4⟩
    · exact Or.inl c
    · refine Or.inr ⟨j, c2, c3, ?_⟩
      have c2' : j < pN P 2 m := c2
      have c4' : kdF P m x j = kdF P m x i := c4
      rw [kdF_lo c2'] at c4'
      exact c4'
  · rcases c with c | ⟨c1, -⟩
    · exact c
    · have : pN P 2 m ≤ i := c1
      omega
theorem tyG_of {m : Nat} {x : Sh} {n : Nat} {f : Nat → Sl} (hn : n = pN P 2 m + x.1) (h : ∀ i, i < n → okAv (f i).1 ∧ arA (f i).1 = kdF P m x i ∧ mkO P m (kdF P m x i) (f i).2 ∧ (i < pN P 2 m → (f i).2 = -1)) : tyG P m x n f := by
  refine ⟨hn, fun i hi => ?_⟩
  have hi' : i < pN P 2 m + x.1 := hi
  obtain ⟨a, b, c, d⟩ := h i (by omega)
  refine ⟨a, b, ?_⟩
  by_cases q : i < pN P 2 m
  · exact Or.inl (d q)
  · rcases c with c | ⟨j, c1, c2, c3⟩
    · exact Or.inl c
    · refine Or.inr ⟨by show pN P 2 m ≤ i; omega, j, c1, c2, ?_⟩
      show kdF P m x j = kdF P m x i
      rw [kdF_lo c1]
      exact c3
theorem pt_bit {q : Bool} {x : Sh} (hx : x.2 < 2 ^ x.1) (i : Nat) : (ptS q x).2.testBit i = if i < x.1 then x.2.testBit i else (q.toNat).testBit (i - x.1) := Nat.testBit_two_pow_mul_add _ hx i
theorem pt_lt {q : Bool} {x : Sh} (hx : x.2 < 2 ^ x.1) : (ptS q x).2 < 2 ^ (ptS q x).1 := by
  unfold ptS
  rw [Nat.pow_succ]
  cases q <;> simp <;> omega
theorem dp_lt {x : Sh} : (dpS x).2 < 2 ^ (dpS x).1 := Nat.mod_lt _ (Nat.pow_pos (by decide))
theorem dp_bit {x : Sh} {i : Nat} (h : i < x.1 - 1) : (dpS x).2.testBit i = x.2.testBit i := by
  unfold dpS
  rw [Nat.testBit_mod_two_pow]
  simp [h]
theorem G_n {m : Nat} {x : Sh} {n : Nat} {f : Nat → Sl} (h : tyG P m x n f) : n = pN P 2 m + x.1 := h.1
theorem G_pop {m : Nat} {x : Sh} {n : Nat} {f : Nat → Sl} (h : tyG P m x n f) (h0 : x.1 ≠ 0) : tyG P m (dpS x) (n - 1) f ∧ okAv (f (n - 1)).1 ∧ arA (f (n - 1)).1 = tpS x ∧ mkO P m (tpS x) (f (n - 1)).2 ∧ n - 1 = pN P 2 m + (x.1 - 1) ∧ 1 ≤ n := by
  have e := G_n h
  have t := tyG_mk h (i := n - 1) (by omega)
  have kt : kdF P m x (n - 1) = tpS x := by
    rw [show n - 1 = pN P 2 m + (x.1 - 1) by omega, kdF_hi]
    rfl
  rw [kt] at t
  refine ⟨tyG_of (by simp only [dpS]; omega) (fun i hi => ?_), t.1, t.2.1, t.2.2.1, by omega, by omega⟩
  have s := tyG_mk h (i := i) (by omega)
  have ki : kdF P m (dpS x) i = kdF P m x i := by
    by_cases q : i < pN P 2 m
    · rw [kdF_lo q, kdF_lo q]
    · obtain ⟨j, rfl⟩ : ∃ j, i = pN P 2 m + j := ⟨i - pN P 2 m, by omega⟩
      rw [kdF_hi, kdF_hi, dp_bit (by omega)]
  rw [ki]
  exact s
theorem G_push {m : Nat} {x : Sh} {n : Nat} {f : Nat → Sl} {v : Sl} {b : Bool} (h : tyG P m x n f) (hx : x.2 < 2 ^ x.1) (h1 : okAv v.1) (h2 : arA v.1 = b) (h3 : mkO P m b v.2) : tyG P m (ptS b x) (n + 1) (upF f n v) := by
  have e := G_n h
  refine tyG_of (by simp only [ptS]; omega) (fun i hi => ?_)
  by_cases q : i = n
  · subst q
    have ki : kdF P m (ptS b x) i = b := by
      rw [e, kdF_hi, pt_bit hx]
      cases b <;> simp
    rw [ki]
    simp only [upF, if_true]
    exact ⟨h1, h2, h3, fun hl => absurd hl (by omega)⟩
  · have ki : kdF P m (ptS b x) i = kdF P m x i := by
      by_cases q2 : i < pN P 2 m
      · rw [kdF_lo q2, kdF_lo q2]
      · obtain ⟨j, rfl⟩ : ∃ j, i = pN P 2 m + j := ⟨i - pN P 2 m, by omega⟩
        rw [kdF_hi, kdF_hi, pt_bit hx, if_pos (by omega)]
    rw [ki]
    simp only [upF, q, if_false]
    exact tyG_mk h (by omega)
theorem G_tell {m : Nat} {x : Sh} {n : Nat} {f : Nat → Sl} {mk : Int32} {v : Av} {b : Bool} (h : tyG P m x n f) (hl : pN P 2 m ≤ 6) (hm : mkO P m b mk) (h1 : okAv v) (h2 : arA v = b) : tyG P m x n (tellF n f mk v) := by
  unfold tellF
  split
  · exact h
  · rename_i q
    rcases hm with hm | ⟨j, j1, j2, j3⟩
    · exact absurd hm q
    · have e := G_n h
      have cj : mk.toNatClampNeg = j := by
        rw [j2, Int32.toNatClampNeg, Int32.toInt_ofNat_of_lt (by omega)]
        omega
      refine tyG_of e (fun i hi => ?_)
      have t := tyG_mk h hi
      split
      · rename_i c
        have ki : kdF P m x i = b := by
          rcases c with c | c
          · rw [c, cj, kdF_lo j1, j3]
          · rcases t.2.2.1 with z | ⟨j', z1, z2, z3⟩
            · rw [c.2] at z; exact absurd z q
            · rw [c.2, j2] at z2
              have : j = j' := by
                have := congrArg Int32.toInt z2
                rw [Int32.toInt_ofNat_of_lt (by omega), Int32.toInt_ofNat_of_lt (by omega)] at this
                omega
              rw [← z3, ← this, j3]
        exact ⟨h1, by rw [h2, ki], t.2.2.1, t.2.2.2⟩
      · exact t
theorem G_drop {m : Nat} {x : Sh} {n : Nat} {f : Nat → Sl} {mk : Int32} (h : tyG P m x n f) : tyG P m x n (dropF n f mk) := by
  refine tyG_of (G_n h) (fun i hi => ?_)
  have t := tyG_mk h hi
  unfold dropF
  split
  · exact ⟨t.1, t.2.1, Or.inl rfl, fun _ => rfl⟩
  · exact t
theorem G_loc {m : Nat} {x : Sh} {n a : Nat} {f : Nat → Sl} {v : Av} (h : tyG P m x n f) (ha : a < pN P 2 m) (h1 : okAv v) (h2 : arA v = kdB P m a) : tyG P m x n (upF f a (v, (f a).2)) := by
  refine tyG_of (G_n h) (fun i hi => ?_)
  have t := tyG_mk h hi
  unfold upF
  split
  · rename_i q
    subst q
    refine ⟨h1, ?_, t.2.2.1, t.2.2.2⟩
    rw [kdF_lo ha]
    exact h2
  · exact t
theorem tkS_some {q : Bool} {x y : Sh} (h : tkS q x = some y) : x.1 ≠ 0 ∧ tpS x = q ∧ y = dpS x := by
  unfold tkS at h
  split at h
  · cases h
  · split at h
    · rename_i h1 h2
      exact ⟨h1, h2, (Option.some.inj h).symm⟩
    · cases h
theorem ar_s {a : Av} (h : arA a = false) : a = .inl (spA a) := by cases a <;> first | rfl | cases h
theorem ar_t {a : Av} (h : arA a = true) : a = .inr (stA a, (nuA a)) := by cases a <;> first | rfl | cases h
theorem ok_sp {a : Av} (h : okAv a) (h2 : arA a = false) : okS (spA a) := by cases a <;> first | exact h | cases h2
theorem gath_ok {F : Fa} {base : Nat} {b : Int32} (H : ∀ s, s < 25 → (F (base + s)).told = true → okS (spA ((F (base + s)).f 0).1)) : ∀ k, k ≤ 25 → ∀ z, gathF F base b k = some z → okS z
  | 0, _, z, h => by cases h
  | k + 1, hk, z, h => by
    unfold gathF at h
    have ih := gath_ok (b := b) H k (by omega)
    split at h
    · rename_i c
      have hh := H k (by omega) c.2
      split at h
      · cases h; exact hh
      · rename_i w e
        cases h
        exact both_ok (ih w e) hh
    · exact ih z h
theorem nar_ok {op : Nat} {x y u : Sp} (hx : okS x) (h : narX op x y = some u) : okS u := by
  unfold narX at h
  repeat' split at h
  all_goals first | exact (within_ok hx h).1 | exact lose_ok hx h | (cases h; exact hx)
theorem narY_ok {op : Nat} {x y u : Sp} (hy : okS y) (h : narY op x y = some u) : okS u := by
  unfold narY at h
  repeat' split at h
  all_goals first | exact (within_ok hy h).1 | exact lose_ok hy h | (cases h; exact hy)
theorem G_opens {m : Nat} {s : Sh} {op n : Nat} {f g : Nat → Sl} {x y : Sp} {mx my : Int32} (h : tyG P m s n f) (hl : pN P 2 m ≤ 6) (hx : okS x) (hy : okS y) (h1 : mkO P m false mx) (h2 : mkO P m false my) (e : opensF op n f x y mx my = some g) : tyG P m s n g := by
  unfold opensF at e
  split at e
  · rename_i u v eu ev
    have ou := nar_ok hx eu
    have ov := narY_ok hy ev
    split at e
    · split at e
      · rename_i z ez
        cases e
        exact G_tell h hl h1 (within_ok ou ez).1 rfl
      · cases e
    · cases e
      exact G_tell (G_tell h hl h1 (v := .inl u) ou rfl) hl h2 (v := .inl v) ov rfl
  · cases e
theorem G_null {m : Nat} {s : Sh} {q : Bool} {n : Nat} {f g : Nat → Sl} (h : tyG P m s n f) (hl : pN P 2 m ≤ 6) (h1 : mkO P m true (f n).2) (e : nullF q n f = some g) : tyG P m s n g := by
  unfold nullF at e
  repeat' split at e
  all_goals first
    | (cases e; exact G_tell h hl h1 trivial rfl)
    | cases e
end PURE7
