section PURE1
theorem mkS_1 (a b s : Int) : (mkS a b s).1 = a := by unfold mkS; split <;> rfl
theorem mkS_3 (a b s : Int) : (mkS a b s).2.2 = if a = b then 0 else s := by unfold mkS; split <;> rfl
theorem mkS_2 (a b s : Int) : (mkS a b s).2.1 = b := by unfold mkS; split <;> rfl
theorem hasS_iff {x : Sp} {c : Int} : hasS x c = true ↔ x.1 ≤ c ∧ c ≤ x.2.1 ∧ (x.2.2 = 0 ∨ x.2.2 ∣ c - x.1) := by
  unfold hasS
  rw [Bool.and_eq_true, Bool.and_eq_true, Bool.or_eq_true, decide_eq_true_eq, decide_eq_true_eq, decide_eq_true_eq, decide_eq_true_eq, and_assoc]
  refine and_congr Iff.rfl (and_congr Iff.rfl (or_congr Iff.rfl ⟨Int.dvd_of_emod_eq_zero, Int.emod_eq_zero_of_dvd⟩))
theorem has_lo {x : Sp} (h : okS x) : hasS x x.1 = true := hasS_iff.mpr ⟨by omega, h.2.1, Or.inr (by simp)⟩
theorem has_hi {x : Sp} (h : okS x) : hasS x x.2.1 = true := hasS_iff.mpr ⟨h.2.1, by omega, Or.inr h.2.2.2.2.2⟩
/-- what WITHIN leaves: what was there from a to b -/
theorem within_has {x y : Sp} (h : okS x) {a b : Int} (e : withinS x a b = some y) {c : Int} (hc : hasS y c = true) : hasS x c = true ∧ a ≤ c ∧ c ≤ b := by
  have ⟨k1, k2, k3, k4, k5⟩ := within_ok h e
  have hz := fun q => h.z q
  rw [hasS_iff] at hc ⊢
  refine ⟨⟨by omega, by omega, ?_⟩, by omega, by omega⟩
  by_cases h0 : x.2.2 = 0
  · exact Or.inl h0
  right
  have hu := upS1_dvd h0 a
  unfold withinS at e
  split at e
  · have e' := Option.some.inj e
    subst e'
    rw [mkS_1, mkS_2] at hc
    have hh : (mkS (upS1 x a) (dnS1 x b) x.2.2).2.2 = 0 ∨ (mkS (upS1 x a) (dnS1 x b) x.2.2).2.2 ∣ c - upS1 x a → x.2.2 ∣ c - upS1 x a := by
      unfold mkS
      split
      · intro _
        have : c = upS1 x a := by omega
        rw [this]
        simp
      · rintro (q | q)
        · exact absurd q h0
        · exact q
    have k := Int.dvd_add (hh hc.2.2) hu
    have : c - upS1 x a + (upS1 x a - x.1) = c - x.1 := by omega
    rw [this] at k
    exact k
  · cases e
theorem up_least {x : Sp} (h : okS x) {a c : Int} (hc : hasS x c = true) (ha : a ≤ c) : upS1 x a ≤ c := by
  have hz := fun q => h.z q
  obtain ⟨h1, h2, h3, h4, h5, h6⟩ := id h
  rw [hasS_iff] at hc
  unfold upS1
  split
  · split
    · omega
    · rename_i q1 q2
      obtain ⟨k, hk⟩ := hc.2.2.resolve_left q2
      have : (a - x.1 + x.2.2 - 1) / x.2.2 ≤ k := by
        have : (a - x.1 + x.2.2 - 1) / x.2.2 < k + 1 := by
          apply Int.ediv_lt_of_lt_mul (by omega)
          rw [Int.add_mul, Int.mul_comm k]
          omega
        omega
      have := Int.mul_le_mul_of_nonneg_right this h4
      rw [Int.mul_comm k] at this
      omega
  · omega
theorem dn_most {x : Sp} (h : okS x) {b c : Int} (hc : hasS x c = true) (hb : c ≤ b) : c ≤ dnS1 x b := by
  have hz := fun q => h.z q
  obtain ⟨h1, h2, h3, h4, h5, h6⟩ := id h
  rw [hasS_iff] at hc
  unfold dnS1
  split
  · split
    · omega
    · rename_i q1 q2
      have hd : x.2.2 ∣ x.2.1 - c := by
        have := Int.dvd_sub h6 (hc.2.2.resolve_left q2)
        have e : x.2.1 - x.1 - (c - x.1) = x.2.1 - c := by omega
        rwa [e] at this
      obtain ⟨k, hk⟩ := hd
      have : (x.2.1 - b + x.2.2 - 1) / x.2.2 ≤ k := by
        have : (x.2.1 - b + x.2.2 - 1) / x.2.2 < k + 1 := by
          apply Int.ediv_lt_of_lt_mul (by omega)
          rw [Int.add_mul, Int.mul_comm k]
          omega
        omega
      have := Int.mul_le_mul_of_nonneg_right this h4
      rw [Int.mul_comm k] at this
      omega
  · omega
theorem within_some {x : Sp} (h : okS x) {a b c : Int} (hc : hasS x c = true) (ha : a ≤ c) (hb : c ≤ b) : ∃ y, withinS x a b = some y ∧ hasS y c = true := by
  have u := up_least h hc ha
  have d := dn_most h hc hb
  refine ⟨_, by unfold withinS; rw [if_pos (by omega)], ?_⟩
  rw [hasS_iff] at hc ⊢
  rw [mkS_1, mkS_2]
  refine ⟨u, d, ?_⟩
  by_cases h0 : x.2.2 = 0
  · left
    unfold mkS
    split <;> simp [h0]
  unfold mkS
  split
  · left; rfl
  · right
    have := Int.dvd_sub (hc.2.2.resolve_left h0) (upS1_dvd h0 a)
    have e : c - x.1 - (upS1 x a - x.1) = c - upS1 x a := by omega
    rw [e] at this
    exact this
theorem lose_ok {x y : Sp} (h : okS x) {c : Int} (e : loseS x c = some y) : okS y := by
  have hst := h.st
  have hz := fun q => h.z q
  obtain ⟨h1, h2, h3, h4, h5, h6⟩ := id h
  unfold loseS at e
  split at e
  · cases e
  · rename_i q
    have e' := Option.some.inj e
    subst e'
    have hs : x.2.2 = 0 ∨ 0 < x.2.2 := by omega
    obtain ⟨k, hk⟩ := h6
    refine okS_mk ?_ ?_ ?_ (fun _ => ⟨h4, ?_⟩)
    · split <;> omega
    · split <;> split <;> omega
    · split <;> omega
    · split <;> split
      · omega
      · exact ⟨k - 1, by rw [Int.mul_sub]; omega⟩
      · exact ⟨k - 1, by rw [Int.mul_sub]; omega⟩
      · exact ⟨k, by omega⟩
theorem lose_has {x : Sp} (h : okS x) {c v : Int} (hv : hasS x v = true) (hn : v ≠ c) : ∃ y, loseS x c = some y ∧ hasS y v = true := by
  have hst := h.st
  have hz := fun q => h.z q
  obtain ⟨h1, h2, h3, h4, h5, h6⟩ := id h
  rw [hasS_iff] at hv
  unfold loseS
  rw [if_neg (by omega)]
  refine ⟨_, rfl, ?_⟩
  rw [hasS_iff, mkS_1, mkS_2]
  by_cases h0 : x.2.2 = 0
  · have e1 := hz h0
    refine ⟨by split <;> omega, by split <;> omega, Or.inl ?_⟩
    unfold mkS
    split <;> simp [h0]
  · obtain ⟨k, hk⟩ := hv.2.2.resolve_left h0
    obtain ⟨j, hj⟩ := h6
    have hs : 0 < x.2.2 := by omega
    have a1 : x.1 = c → x.1 + x.2.2 ≤ v := by
      intro q
      have : 0 < k := by
        rcases Int.lt_or_le 0 k with z | z
        · exact z
        · have := Int.mul_le_mul_of_nonneg_left z h4
          omega
      have := Int.mul_le_mul_of_nonneg_left (show 1 ≤ k by omega) h4
      omega
    have a2 : x.2.1 = c → v ≤ x.2.1 - x.2.2 := by
      intro q
      have e1 : x.2.2 * (j - k) = x.2.1 - v := by rw [Int.mul_sub]; omega
      have : 0 < j - k := by
        rcases Int.lt_or_le 0 (j - k) with z | z
        · exact z
        · have := Int.mul_le_mul_of_nonneg_left z h4
          omega
      have := Int.mul_le_mul_of_nonneg_left (show 1 ≤ j - k by omega) h4
      omega
    refine ⟨by split <;> omega, by split <;> omega, ?_⟩
    rw [mkS_3]
    generalize (if x.2.1 = c then x.2.1 - x.2.2 else x.2.1) = B
    by_cases qq : (if x.1 = c then x.1 + x.2.2 else x.1) = B
    · left; rw [if_pos qq]
    · right
      rw [if_neg qq]
      split
      · exact ⟨k - 1, by rw [Int.mul_sub]; omega⟩
      · exact ⟨k, hk⟩
theorem lose_sub {x y : Sp} (h : okS x) {c v : Int} (e : loseS x c = some y) (hv : hasS y v = true) : hasS x v = true ∧ (x.1 = c ∨ x.2.1 = c → v ≠ c) := by
  have hst := h.st
  have hz := fun q => h.z q
  obtain ⟨h1, h2, h3, h4, h5, h6⟩ := id h
  unfold loseS at e
  split at e
  · cases e
  · rename_i q
    have e' := Option.some.inj e
    subst e'
    rw [hasS_iff, mkS_1, mkS_2] at hv
    rw [hasS_iff]
    have hs : x.2.2 = 0 ∨ 0 < x.2.2 := by omega
    obtain ⟨v1, v2, v3⟩ := hv
    refine ⟨⟨by split at v1 <;> omega, by split at v2 <;> omega, ?_⟩, ?_⟩
    · by_cases h0 : x.2.2 = 0
      · exact Or.inl h0
      right
      have key : x.2.2 ∣ v - (if x.1 = c then x.1 + x.2.2 else x.1) := by
        rw [mkS_3] at v3
        revert v1 v2 v3
        generalize (if x.2.1 = c then x.2.1 - x.2.2 else x.2.1) = B
        generalize (if x.1 = c then x.1 + x.2.2 else x.1) = A
        intro v1 v2 v3
        by_cases q4 : A = B
        · have : v = A := by omega
          rw [← this]
          simp
        · rw [if_neg q4] at v3
          rcases v3 with v3 | v3
          · exact absurd v3 h0
          · exact v3
      split at key
      · have := Int.dvd_add key (Int.dvd_refl x.2.2)
        have e2 : v - (x.1 + x.2.2) + x.2.2 = v - x.1 := by omega
        rwa [e2] at this
      · exact key
    · intro hc hvc
      split at v1 <;> split at v2 <;> omega
/-- TURNED is a span -/
theorem turn_ok {l h s : Int} (hl : l ≤ h) (hs : 0 ≤ s) (hd : s ∣ h - l) : okS (turnS l h s) := by
  unfold turnS
  have hb := Int.emod_nonneg (l + 2147483648) (show (4294967296 : Int) ≠ 0 by decide)
  split
  · exact okS_mk (by omega) (by omega) (by omega) (fun _ => ⟨hs, by rw [show h - (l + 2147483648) / 4294967296 * 4294967296 - (l - (l + 2147483648) / 4294967296 * 4294967296) = h - l by omega]; exact hd⟩)
  · have g1 : 0 < Int.gcd s 4294967296 := Int.gcd_pos_of_ne_zero_right _ (by decide)
    have g2 := Nat.le_of_dvd (by decide) (Int.gcd_dvd_natAbs_right s 4294967296)
    have g3 : (4294967296 : Int).natAbs = 4294967296 := rfl
    generalize Int.gcd s 4294967296 = g at *
    have m1 := Int.emod_nonneg (l + 2147483648) (show (g : Int) ≠ 0 by omega)
    have m2 := Int.emod_lt_of_pos (l + 2147483648) (show 0 < (g : Int) by omega)
    have m3 := Int.emod_nonneg (2147483647 - l) (show (g : Int) ≠ 0 by omega)
    have m4 := Int.emod_lt_of_pos (2147483647 - l) (show 0 < (g : Int) by omega)
    have d1 : (g : Int) ∣ (l + 2147483648) - (l + 2147483648) % g := ⟨(l + 2147483648) / g, by have := Int.mul_ediv_add_emod (l + 2147483648) g; omega⟩
    have d2 : (g : Int) ∣ (2147483647 - l) - (2147483647 - l) % g := ⟨(2147483647 - l) / g, by have := Int.mul_ediv_add_emod (2147483647 - l) g; omega⟩
    have d3 := Int.dvd_add d1 d2
    have e : (l + 2147483648) - (l + 2147483648) % g + ((2147483647 - l) - (2147483647 - l) % g) = 2147483647 - (2147483647 - l) % g - (-2147483648 + (l + 2147483648) % g) := by omega
    rw [e] at d3
    refine okS_mk (by omega) ?_ (by omega) (fun _ => ⟨by omega, d3⟩)
    obtain ⟨k, hk⟩ := d3
    rcases Int.lt_or_le k 0 with z | z
    · have := Int.mul_le_mul_of_nonneg_left (show k ≤ -1 by omega) (show (0 : Int) ≤ g by omega)
      omega
    · have := Int.mul_nonneg (show (0 : Int) ≤ g by omega) z
      omega
theorem times_ok {c : Int} {x : Sp} (h : okS x) : okS (timesS c x) := by
  obtain ⟨h1, h2, h3, h4, h5, h6⟩ := id h
  obtain ⟨k, hk⟩ := h6
  unfold timesS
  split
  · rename_i hc
    exact turn_ok (Int.mul_le_mul_of_nonneg_left h2 hc) (Int.mul_nonneg hc h4) ⟨k, by rw [← Int.mul_sub, hk, Int.mul_assoc]⟩
  · rename_i hc
    exact turn_ok (Int.mul_le_mul_of_nonpos_left (by omega) h2) (Int.mul_nonneg (by omega) h4) ⟨k, by rw [← Int.mul_sub, show x.1 - x.2.1 = -(x.2.2 * k) by omega, Int.mul_neg, Int.mul_assoc, Int.neg_mul]⟩
theorem mul_ok (x y : Sp) : okS (mulS x y) := turn_ok (by omega) (by decide) (by simp)
theorem tdiv_b {a b : Int} (h1 : -2147483648 ≤ a) (h2 : a ≤ 2147483647) (h : ¬ (a = -2147483648 ∧ b = -1)) : -2147483648 ≤ a.tdiv b ∧ a.tdiv b ≤ 2147483647 := by
  have k := tdiv_abs a b
  by_cases q : a = -2147483648
  · have hb : b ≠ -1 := fun e => h ⟨q, e⟩
    subst q
    have : (Int.tdiv (-2147483648) b).natAbs = 2147483648 / b.natAbs := Int.natAbs_tdiv _ _
    rcases Int.lt_trichotomy b 0 with z | z | z
    · have h2b : 2 ≤ b.natAbs := by omega
      have : 2147483648 / b.natAbs ≤ 1073741824 := Nat.le_of_lt_succ (Nat.div_lt_of_lt_mul (by omega))
      omega
    · subst z
      simp
    · have : Int.tdiv (-2147483648) b ≤ 0 := by
        have e : Int.tdiv (-2147483648) b = -(Int.tdiv 2147483648 b) := Int.neg_tdiv _ _
        have : 0 ≤ Int.tdiv 2147483648 b := Int.tdiv_nonneg (by decide) (by omega)
        omega
      omega
  · omega
theorem tmod_b (a b : Int) : (a.tmod b).natAbs ≤ a.natAbs := by
  rw [Int.natAbs_tmod]
  exact Nat.mod_le _ _
theorem quo_b {x p : Sp} (hx : okS x) (hp : okS p) (h : ¬ (x.1 = -2147483648 ∧ p.2.1 = -1)) (hn : p.2.1 < 0 ∨ 0 < p.1) : -2147483648 ≤ quoL x p ∧ quoL x p ≤ quoH x p ∧ quoH x p ≤ 2147483647 := by
  obtain ⟨h1, h2, h3, h4, h5, h6⟩ := id hx
  obtain ⟨w1, w2, w3, w4, w5, w6⟩ := id hp
  have a1 := tdiv_b (a := x.1) (b := p.1) (by omega) (by omega) (by omega)
  have a2 := tdiv_b (a := x.1) (b := p.2.1) (by omega) (by omega) (by omega)
  have a3 := tdiv_b (a := x.2.1) (b := p.1) (by omega) (by omega) (by omega)
  have a4 := tdiv_b (a := x.2.1) (b := p.2.1) (by omega) (by omega) (by omega)
  unfold quoL quoH
  omega
theorem neg_has {y p : Sp} (h : okS y) (e : negS y = some p) : okS p ∧ p.2.1 ≤ -1 ∧ (p.2.1 = -1 → hasS y (-1) = true) := by
  have k := within_ok h e
  refine ⟨k.1, k.2.2.1, fun q => ?_⟩
  have := within_has h e (has_hi k.1)
  rw [q] at this
  exact this.1
theorem pos_has {y p : Sp} (h : okS y) (e : posS y = some p) : okS p ∧ 1 ≤ p.1 := by
  have k := within_ok h e
  exact ⟨k.1, k.2.1⟩
theorem np_some {y : Sp} (h : okS y) (h0 : ¬ (y.1 = 0 ∧ y.2.1 = 0)) : negS y ≠ none ∨ posS y ≠ none := by
  obtain ⟨h1, h2, h3, h4, h5, h6⟩ := id h
  by_cases q : y.1 < 0
  · left
    obtain ⟨z, e, -⟩ := within_some h (a := -2147483648) (b := -1) (has_lo h) (by omega) (by omega)
    unfold negS; rw [e]; simp
  · right
    obtain ⟨z, e, -⟩ := within_some h (a := 1) (b := 2147483647) (has_hi h) (by omega) (by omega)
    unfold posS; rw [e]; simp
theorem over_ok {x y : Sp} (hx : okS x) (hy : okS y) (h0 : ¬ (y.1 = 0 ∧ y.2.1 = 0)) : okS (overS x y) := by
  obtain ⟨h1, h2, h3, h4, h5, h6⟩ := id hx
  unfold overS
  split
  · split
    · exact ⟨by decide, by decide, by decide, by decide, fun _ => rfl, by decide⟩
    · rename_i q1 q2
      have := tdiv_b (a := x.1) (b := y.1) (by omega) (by omega) (by omega)
      exact ⟨this.1, Int.le_refl _, this.2, Int.le_refl _, fun _ => rfl, by simp⟩
  · split
    · exact okS_all
    · rename_i q1 q2
      have hh := np_some hy h0
      split
      · rename_i p q ep eq_
        have n1 := neg_has hy ep
        have n2 := pos_has hy eq_
        have b1 := quo_b hx n1.1 (fun z => q2 ⟨z.1, n1.2.2 z.2⟩) (by omega)
        have b2 := quo_b hx n2.1 (by have := n2.1.2.1; omega) (by omega)
        exact okS_mk (by omega) (by omega) (by omega) (fun _ => ⟨by decide, by simp⟩)
      · rename_i p ep eq_
        have n1 := neg_has hy ep
        have b1 := quo_b hx n1.1 (fun z => q2 ⟨z.1, n1.2.2 z.2⟩) (by omega)
        exact okS_mk (by omega) (by omega) (by omega) (fun _ => ⟨by decide, by simp⟩)
      · rename_i q ep eq_
        have n2 := pos_has hy eq_
        have b2 := quo_b hx n2.1 (by have := n2.1.2.1; omega) (by omega)
        exact okS_mk (by omega) (by omega) (by omega) (fun _ => ⟨by decide, by simp⟩)
      · rename_i ep eq_
        rcases hh with hh | hh
        · exact absurd ep hh
        · exact absurd eq_ hh
theorem siz_1 {y : Sp} (hy : okS y) (h0 : ¬ (y.1 = 0 ∧ y.2.1 = 0)) : 1 ≤ sizH y := by
  have hh := np_some hy h0
  unfold sizH
  split
  · rename_i p q ep eq_
    have n2 := pos_has hy eq_
    have := n2.1.2.1
    omega
  · rename_i p ep eq_
    have n1 := neg_has hy ep
    have := n1.1.2.1
    omega
  · rename_i q ep eq_
    have n2 := pos_has hy eq_
    have := n2.1.2.1
    omega
  · rename_i ep eq_
    rcases hh with hh | hh
    · exact absurd ep hh
    · exact absurd eq_ hh
theorem rest_ok {x y : Sp} (hx : okS x) (hy : okS y) (h0 : ¬ (y.1 = 0 ∧ y.2.1 = 0)) : okS (restS x y) := by
  have hs := siz_1 hy h0
  obtain ⟨h1, h2, h3, h4, h5, h6⟩ := id hx
  unfold restS
  split
  · have t := tmod_b x.1 y.1
    have : ¬ (x.1.tmod y.1 = 2147483648) := by
      intro e
      have : 0 ≤ x.1 ∨ x.1 < 0 := by omega
      rcases this with z | z
      · omega
      · have e2 : x.1.tmod y.1 = -((-x.1).tmod y.1) := by rw [← Int.neg_tmod, Int.neg_neg]
        have : 0 ≤ (-x.1).tmod y.1 := Int.tmod_nonneg _ (by omega)
        omega
    exact ⟨by show -2147483648 ≤ x.1.tmod y.1; omega, Int.le_refl _, by show x.1.tmod y.1 ≤ 2147483647; omega, Int.le_refl _, fun _ => rfl, by simp⟩
  · split
    · exact hx
    · refine okS_mk ?_ ?_ ?_ (fun _ => ⟨by decide, by simp⟩)
      · split <;> omega
      · split <;> split <;> omega
      · split <;> omega
end PURE1
