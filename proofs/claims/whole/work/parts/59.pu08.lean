section PURE8
variable {k : Nat} {P : Pm} {sh : Nat → Option Sh} {sn : Nat → Nat} {wd : Nat → Bool}
theorem tyF_st {m i : Nat} {x : Sh} (hm : m < 8) (hi : i < 60) (h : sh (60 * m + i) = some x) : tyF P sh (60 * m + i) = tyS P m x := by
  unfold tyF
  rw [if_pos (by omega), h]
  simp only
  rw [show (60 * m + i) / 60 = m by omega]
theorem okC_st {m i : Nat} {x : Sh} {n : Nat} {g : Nat → Sl} (hm : m < 8) (hi : i < 60) (h : sh (60 * m + i) = some x) (hg : tyG P m x n g) : okC (tyF P sh) (60 * m + i, n, g) := by
  refine ⟨by show 60 * m + i < 542; omega, ?_⟩
  rw [show ((60 * m + i, n, g) : Con).1 = 60 * m + i from rfl, tyF_st hm hi h]
  exact ⟨hg, by show pN P 2 m ≤ pN P 2 m + x.1; omega⟩
theorem okC_one {t : Nat} {v : Av} (h1 : 480 ≤ t) (h2 : t < 534) (hv : okAv v) (ha : arA v = false) : okC (tyF P sh) (t, 1, one v) := by
  have e : tyF P sh t = (1, 0, fun _ => false) := by unfold tyF; rw [if_neg (by omega), if_pos h2]
  refine ⟨by show t < 542; omega, ?_⟩
  rw [show ((t, 1, one v) : Con).1 = t from rfl, e]
  exact ⟨⟨rfl, fun i _ => ⟨hv, ha, Or.inl rfl⟩⟩, by decide⟩
theorem tld_one {F : Fa} {t : Nat} (hF : okF (tyF P sh) F) (h1 : 480 ≤ t) (h2 : t < 534) (ht : (F t).told = true) : (F t).n = 1 ∧ okAv ((F t).f 0).1 ∧ arA ((F t).f 0).1 = false := by
  have e : tyF P sh t = (1, 0, fun _ => false) := by unfold tyF; rw [if_neg (by omega), if_pos h2]
  have o := (hF t (by omega)).1 ht
  rw [e] at o
  obtain ⟨a, b, -⟩ := o.2 0 (by decide)
  exact ⟨o.1, a, b⟩
theorem tld_res {F : Fa} {a : Nat} (hF : okF (tyF P sh) F) (ha : a < 8) (ht : (F (534 + a)).told = true) (hr : pN P 4 a ≠ 0) : (F (534 + a)).n = 1 ∧ okAv ((F (534 + a)).f 0).1 ∧ arA ((F (534 + a)).f 0).1 = decide (pN P 4 a = 2) := by
  have e : tyF P sh (534 + a) = (1, 0, fun _ => decide (pN P 4 a = 2)) := by unfold tyF; rw [if_neg (by omega), if_neg (by omega), show 534 + a - 534 = a by omega, if_neg hr]
  have o := (hF (534 + a) (by omega)).1 ht
  rw [e] at o
  obtain ⟨x, b, -⟩ := o.2 0 (Nat.zero_lt_one)
  exact ⟨o.1, x, b⟩
theorem okC_res {a n : Nat} {g : Nat → Sl} (ha : a < 8) (hn : n = if pN P 4 a = 0 then 0 else 1) (hg : pN P 4 a ≠ 0 → okAv (g 0).1 ∧ arA (g 0).1 = decide (pN P 4 a = 2) ∧ (g 0).2 = -1) : okC (tyF P sh) (534 + a, n, g) := by
  have e : tyF P sh (534 + a) = (if pN P 4 a = 0 then 0 else 1, 0, fun _ => decide (pN P 4 a = 2)) := by unfold tyF; rw [if_neg (by omega), if_neg (by omega), show 534 + a - 534 = a by omega]
  refine ⟨by show 534 + a < 542; omega, ?_⟩
  rw [show ((534 + a, n, g) : Con).1 = 534 + a from rfl, e]
  refine ⟨⟨hn, fun i hi => ?_⟩, Nat.zero_le _⟩
  simp only at hi
  split at hi
  · omega
  · rename_i q
    have := hg q
    rw [show i = 0 by omega]
    exact ⟨this.1, this.2.1, Or.inl this.2.2⟩
theorem wf_ar (W : wfP k P) {m : Nat} (hm : m < k) : pN P 1 m ≤ 3 ∧ pN P 2 m ≤ 6 ∧ pN P 1 m ≤ pN P 2 m ∧ pN P 4 m ≤ 2 ∧ pN P 5 m ≤ 60 := by
  have cl : ∀ x : Nat, x < 2 ^ 31 → (Int32.ofNat x).toNatClampNeg = x := fun x hx => by
    rw [Int32.toNatClampNeg, Int32.toInt_ofNat_of_lt hx]; omega
  obtain ⟨x1, e1, l1⟩ := W.ar m hm
  obtain ⟨x2, e2, l2⟩ := W.lc m hm
  obtain ⟨x4, e4, l4⟩ := W.rs m hm
  obtain ⟨x5, e5, l5⟩ := W.ln m hm
  have a := W.al m hm
  unfold pN at *
  rw [e1, cl x1 (by omega)] at *
  rw [e2, cl x2 (by omega)] at *
  rw [e4, e5, cl x4 (by omega), cl x5 (by omega)]
  omega
theorem tkN_ty {m a : Nat} {f : Nat → Sl} : ∀ (c : Nat) {x y : Sh} {n : Nat}, tyG P m x n f → tkN P a c x = some y → (x.2 < 2 ^ x.1) → tyG P m y (n - c) f ∧ c ≤ x.1 ∧ y.1 = x.1 - c ∧ y.2 < 2 ^ y.1 ∧ ∀ i, i < c → okAv (f (n - c + i)).1 ∧ arA (f (n - c + i)).1 = kdB P a i
  | 0, x, y, n, h, e, hx => by
    cases e
    exact ⟨h, by omega, rfl, hx, fun i hi => absurd hi (by omega)⟩
  | c + 1, x, y, n, h, e, hx => by
    unfold tkN at e
    obtain ⟨z, ez, e2⟩ := Option.bind_eq_some_iff.mp e
    obtain ⟨t1, t2, t3⟩ := tkS_some ez
    have g := G_pop h t1
    subst t3
    obtain ⟨r1, r2, r3, r4, r5⟩ := tkN_ty c g.1 e2 dp_lt
    have en := G_n h
    rw [show n - 1 - c = n - (c + 1) by omega] at r1 r5
    have : (dpS x).1 = x.1 - 1 := rfl
    refine ⟨r1, by omega, by omega, r4, fun i hi => ?_⟩
    by_cases q : i = c
    · subst q
      rw [show n - (i + 1) + i = n - 1 by omega]
      exact ⟨g.2.1, by rw [g.2.2.1, t2]⟩
    · exact r5 i (by omega)
theorem okS0 : okS (0, 0, 0) := ⟨by decide, by decide, by decide, by decide, fun _ => rfl, by decide⟩
theorem ent_ty {a n : Nat} {f : Nat → Sl} (h : ∀ i, i < pN P 1 a → okAv (f (n - pN P 1 a + i)).1 ∧ arA (f (n - pN P 1 a + i)).1 = kdB P a i) : tyG P a (0, 0) (pN P 2 a) (entF P a n f) := by
  refine tyG_of rfl (fun i hi => ?_)
  rw [kdF_lo hi]
  unfold entF
  split
  · rename_i q
    exact ⟨(h i q).1, (h i q).2, Or.inl rfl, fun _ => rfl⟩
  · split
    · rename_i q
      exact ⟨trivial, by rw [q]; rfl, Or.inl rfl, fun _ => rfl⟩
    · rename_i q
      exact ⟨okS0, by simp at q; rw [q]; rfl, Or.inl rfl, fun _ => rfl⟩
theorem rt_ty {m : Nat} : tyG P m (0, 0) (pN P 2 m) (rtF P m) := by
  refine tyG_of rfl (fun i hi => ?_)
  rw [kdF_lo hi]
  unfold rtF
  split
  · rename_i q
    exact ⟨trivial, by rw [q]; rfl, Or.inl rfl, fun _ => rfl⟩
  · rename_i q
    refine ⟨?_, by simp at q; rw [q]; rfl, Or.inl rfl, fun _ => rfl⟩
    simp only
    split
    · exact okS_all
    · exact okS0
theorem mem_conO {t n : Nat} {o : Option (Nat → Sl)} {c : Con} (h : c ∈ conO t n o) : ∃ g, o = some g ∧ c = (t, n, g) := by
  cases o with
  | none => cases h
  | some g => exact ⟨g, rfl, by simpa [conO] using h⟩
theorem lose_0 {y z : Sp} (hy : okS y) (e : loseS y 0 = some z) : ¬ (z.1 = 0 ∧ z.2.1 = 0) := by
  intro q
  have hst := hy.st
  have hz := fun q => hy.z q
  obtain ⟨h1, h2, h3, h4, h5, h6⟩ := id hy
  unfold loseS at e
  split at e
  · cases e
  · cases e
    rw [mkS_1, mkS_2] at q
    obtain ⟨q1, q2⟩ := q
    split at q1 <;> split at q2 <;> omega
end PURE8
