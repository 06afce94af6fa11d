section PURE11
theorem mul_btw {a b a1 a2 b1 b2 : Int} (h1 : a1 ≤ a) (h2 : a ≤ a2) (h3 : b1 ≤ b) (h4 : b ≤ b2) : min (min (a1 * b1) (a1 * b2)) (min (a2 * b1) (a2 * b2)) ≤ a * b ∧ a * b ≤ max (max (a1 * b1) (a1 * b2)) (max (a2 * b1) (a2 * b2)) := by
  have e : ∀ z : Int, (0 ≤ z ∧ z * b1 ≤ z * b ∧ z * b ≤ z * b2) ∨ (z ≤ 0 ∧ z * b2 ≤ z * b ∧ z * b ≤ z * b1) := fun z => by
    rcases Int.le_total 0 z with q | q
    · exact Or.inl ⟨q, Int.mul_le_mul_of_nonneg_left h3 q, Int.mul_le_mul_of_nonneg_left h4 q⟩
    · exact Or.inr ⟨q, Int.mul_le_mul_of_nonpos_left q h4, Int.mul_le_mul_of_nonpos_left q h3⟩
  have e1 := e a1
  have e2 := e a2
  rcases Int.le_total 0 b with q | q
  · have f1 := Int.mul_le_mul_of_nonneg_right h1 q
    have f2 := Int.mul_le_mul_of_nonneg_right h2 q
    omega
  · have f1 := Int.mul_le_mul_of_nonpos_right h1 q
    have f2 := Int.mul_le_mul_of_nonpos_right h2 q
    omega
theorem times_pos {c : Int} {x x' : Sp} (hx : okS x) (hx' : okS x') (h : covS x' x = true) (hp : 0 ≤ (timesS c x).2.1) : 0 ≤ (timesS c x').2.1 := by
  have l := cov_lo h
  obtain ⟨⟨k1, e1⟩, k2, e2⟩ := cov_dvd hx hx' h
  obtain ⟨k3, e3⟩ := hx.2.2.2.2.2
  have o2 := hx.2.1
  have o4 := hx.2.2.2.1
  have w6 := hx'.2.2.2.2.2
  obtain ⟨k4, e4⟩ := w6
  unfold timesS at hp ⊢
  split at hp
  · rename_i q
    rw [if_pos q]
    refine turn_pos (Int.mul_le_mul_of_nonneg_left o2 q) (Int.mul_le_mul_of_nonneg_left l.1 q) (Int.mul_le_mul_of_nonneg_left l.2 q) (Int.mul_nonneg q o4) ⟨k3, ?_⟩ ⟨k1, ?_⟩ ⟨k2, ?_⟩ hp
    · rw [← Int.mul_sub, e3, Int.mul_assoc]
    · rw [← Int.mul_sub, e1, Int.mul_assoc]
    · rw [e2, Int.mul_assoc]
  · rename_i q
    rw [if_neg q]
    have q' : c ≤ 0 := by omega
    refine turn_pos (Int.mul_le_mul_of_nonpos_left q' o2) (Int.mul_le_mul_of_nonpos_left q' l.2) (Int.mul_le_mul_of_nonpos_left q' l.1) (Int.mul_nonneg (by omega) o4) ⟨k3, ?_⟩ ⟨k4 - k2 * k3 - k1, ?_⟩ ⟨k2, ?_⟩ hp
    · rw [← Int.mul_sub, show x.1 - x.2.1 = -(x.2.2 * k3) by omega, Int.mul_neg, Int.mul_assoc, Int.neg_mul]
    · rw [← Int.mul_sub, show x.2.1 - x'.2.1 = -(x'.2.2 * (k4 - k2 * k3 - k1)) by
        rw [Int.mul_sub, Int.mul_sub, ← e4, ← e1, ← Int.mul_assoc, ← e2, ← e3]; omega, Int.mul_neg, Int.mul_assoc, Int.neg_mul]
    · rw [e2, Int.mul_assoc]
/-- x times y where x is one -/
theorem times_mul {c : Int} {y x' y' : Sp} (hy : okS y) (hc : x'.1 ≤ c ∧ c ≤ x'.2.1) (h : y'.1 ≤ y.1 ∧ y.2.1 ≤ y'.2.1) (hp : 0 ≤ (timesS c y).2.1) : 0 ≤ (mulS x' y').2.1 := by
  have o2 := hy.2.1
  have b1 := mul_btw hc.1 hc.2 h.1 (show y.1 ≤ y'.2.1 by omega)
  have b2 := mul_btw hc.1 hc.2 (show y'.1 ≤ y.2.1 by omega) h.2
  obtain ⟨k3, e3⟩ := hy.2.2.2.2.2
  unfold timesS at hp
  unfold mulS
  split at hp
  · rename_i q
    exact turn_pos (Int.mul_le_mul_of_nonneg_left o2 q) b1.1 b2.2 (Int.mul_nonneg q hy.2.2.2.1) ⟨k3, by rw [← Int.mul_sub, e3, Int.mul_assoc]⟩ (by simp) (by simp) hp
  · rename_i q
    exact turn_pos (Int.mul_le_mul_of_nonpos_left (by omega) o2) b2.1 b1.2 (Int.mul_nonneg (by omega) hy.2.2.2.1) ⟨k3, by rw [← Int.mul_sub, show y.1 - y.2.1 = -(y.2.2 * k3) by omega, Int.mul_neg, Int.mul_assoc, Int.neg_mul]⟩ (by simp) (by simp) hp
theorem mulS_comm (x y : Sp) : mulS x y = mulS y x := by
  unfold mulS
  rw [Int.mul_comm x.1 y.1, Int.mul_comm x.1 y.2.1, Int.mul_comm x.2.1 y.1, Int.mul_comm x.2.1 y.2.1]
  congr 1 <;> omega
theorem mul_pos {x y x' y' : Sp} (hx : okS x) (hy : okS y) (h1 : x'.1 ≤ x.1 ∧ x.2.1 ≤ x'.2.1) (h2 : y'.1 ≤ y.1 ∧ y.2.1 ≤ y'.2.1) (hp : 0 ≤ (mulS x y).2.1) : 0 ≤ (mulS x' y').2.1 := by
  have o2 := hx.2.1
  have w2 := hy.2.1
  have b1 := mul_btw h1.1 (show x.1 ≤ x'.2.1 by omega) h2.1 (show y.1 ≤ y'.2.1 by omega)
  have b2 := mul_btw h1.1 (show x.1 ≤ x'.2.1 by omega) (show y'.1 ≤ y.2.1 by omega) h2.2
  have b3 := mul_btw (show x'.1 ≤ x.2.1 by omega) h1.2 h2.1 (show y.1 ≤ y'.2.1 by omega)
  have b4 := mul_btw (show x'.1 ≤ x.2.1 by omega) h1.2 (show y'.1 ≤ y.2.1 by omega) h2.2
  unfold mulS at hp ⊢
  exact turn_pos (by omega) (by omega) (by omega) (by decide) (by simp) (by simp) (by simp) hp
theorem mact_pos {x y x' y' : Sp} (hx : okS x) (hy : okS y) (hx' : okS x') (hy' : okS y') (h1 : covS x' x = true) (h2 : covS y' y = true) (hp : 0 ≤ (if x.1 = x.2.1 then timesS x.1 y else if y.1 = y.2.1 then timesS y.1 x else mulS x y).2.1) : 0 ≤ (if x'.1 = x'.2.1 then timesS x'.1 y' else if y'.1 = y'.2.1 then timesS y'.1 x' else mulS x' y').2.1 := by
  have l1 := cov_lo h1
  have l2 := cov_lo h2
  have o2 := hx.2.1
  have w2 := hy.2.1
  by_cases a : x'.1 = x'.2.1
  · have e := cov_one hx hx' h1 a
    subst e
    rw [if_pos a] at hp ⊢
    exact times_pos hy hy' h2 hp
  rw [if_neg a]
  by_cases b : y'.1 = y'.2.1
  · have e := cov_one hy hy' h2 b
    subst e
    rw [if_pos b] at hp ⊢
    by_cases c : x.1 = x.2.1
    · rw [if_pos c] at hp
      have e2 : timesS x.1 y = timesS y.1 x := by
        have s1 := hx.2.2.2.2.1 c
        have s2 := hy.2.2.2.2.1 b
        unfold timesS
        rw [← b, ← c, s1, s2, Int.mul_comm x.1 y.1]
        split <;> split <;> simp
      rw [e2] at hp
      exact times_pos hx hx' h1 hp
    · rw [if_neg c] at hp
      exact times_pos hx hx' h1 hp
  rw [if_neg b]
  split at hp
  · exact times_mul hy ⟨by omega, by omega⟩ l2 hp
  · split at hp
    · rw [mulS_comm]
      exact times_mul hx ⟨by omega, by omega⟩ l1 hp
    · exact mul_pos hx hy l1 l2 hp
/-! division -/
theorem tdiv_pp {a b : Int} (h1 : 0 ≤ a) (h2 : 0 < b) : 0 ≤ a.tdiv b := Int.tdiv_nonneg h1 (by omega)
theorem tdiv_nn {a b : Int} (h1 : a ≤ 0) (h2 : b < 0) : 0 ≤ a.tdiv b := by
  have : a.tdiv b = (-a).tdiv (-b) := by rw [Int.tdiv_neg, Int.neg_tdiv, Int.neg_neg]
  rw [this]
  exact Int.tdiv_nonneg (by omega) (by omega)
theorem tdiv_sm {a b : Int} (h : a.natAbs < b.natAbs) : a.tdiv b = 0 := by
  have : (a.tdiv b).natAbs = 0 := by rw [Int.natAbs_tdiv]; exact Nat.div_eq_of_lt h
  omega
theorem tdiv_neg1 {a b : Int} (h1 : a < 0) (h2 : 0 < b) (h : 0 ≤ a.tdiv b) : a.natAbs < b.natAbs := by
  rcases Nat.lt_or_ge a.natAbs b.natAbs with q | q
  · exact q
  · exfalso
    have e : a.tdiv b = -((-a).tdiv b) := by rw [Int.neg_tdiv, Int.neg_neg]
    have : 1 ≤ (-a).tdiv b := by
      rw [Int.tdiv_eq_ediv_of_nonneg (by omega)]
      exact (Int.le_ediv_iff_mul_le h2).mpr (by omega)
    omega
theorem tdiv_neg2 {a b : Int} (h1 : 0 < a) (h2 : b < 0) (h : 0 ≤ a.tdiv b) : a.natAbs < b.natAbs := by
  rcases Nat.lt_or_ge a.natAbs b.natAbs with q | q
  · exact q
  · exfalso
    have e : a.tdiv b = -(a.tdiv (-b)) := by rw [Int.tdiv_neg, Int.neg_neg]
    have : 1 ≤ a.tdiv (-b) := by
      rw [Int.tdiv_eq_ediv_of_nonneg (by omega)]
      exact (Int.le_ediv_iff_mul_le (by omega)).mpr (by omega)
    omega
theorem quoH_pos {x p : Sp} {a b : Int} (ha : x.1 ≤ a ∧ a ≤ x.2.1) (hb : p.1 ≤ b ∧ b ≤ p.2.1) (hs : p.2.1 < 0 ∨ 0 < p.1) (h : 0 ≤ a.tdiv b) : 0 ≤ quoH x p := by
  unfold quoH
  rcases hs with hs | hs
  · rcases Int.lt_or_le 0 x.1 with q | q
    · have := tdiv_neg2 (a := a) (b := b) (by omega) (by omega) h
      have := tdiv_sm (a := x.1) (b := p.1) (by omega)
      omega
    · have := tdiv_nn (a := x.1) (b := p.1) q (by omega)
      omega
  · rcases Int.lt_or_le x.2.1 0 with q | q
    · have := tdiv_neg1 (a := a) (b := b) (by omega) (by omega) h
      have := tdiv_sm (a := x.2.1) (b := p.2.1) (by omega)
      omega
    · have := tdiv_pp (a := x.2.1) (b := p.2.1) q (by omega)
      omega
theorem quoH_ex {x p : Sp} (hx : okS x) (hp : okS p) (h : 0 ≤ quoH x p) : ∃ a b, x.1 ≤ a ∧ a ≤ x.2.1 ∧ hasS p b = true ∧ 0 ≤ a.tdiv b := by
  have o2 := hx.2.1
  unfold quoH at h
  have l := has_lo hp
  have u := has_hi hp
  by_cases c1 : 0 ≤ x.1.tdiv p.1
  · exact ⟨_, _, Int.le_refl _, o2, l, c1⟩
  by_cases c2 : 0 ≤ x.1.tdiv p.2.1
  · exact ⟨_, _, Int.le_refl _, o2, u, c2⟩
  by_cases c3 : 0 ≤ x.2.1.tdiv p.1
  · exact ⟨_, _, o2, Int.le_refl _, l, c3⟩
  · exact ⟨_, _, o2, Int.le_refl _, u, by omega⟩
theorem over_ex {x y : Sp} (hx : okS x) (hy : okS y) (h0 : ¬ (y.1 = 0 ∧ y.2.1 = 0)) (h : 0 ≤ (overS x y).2.1) : ∃ a b, x.1 ≤ a ∧ a ≤ x.2.1 ∧ hasS y b = true ∧ b ≠ 0 ∧ 0 ≤ a.tdiv b := by
  have o2 := hx.2.1
  have hh := np_some hy h0
  unfold overS at h
  split at h
  · rename_i q
    split at h
    · exact absurd h (by decide)
    · exact ⟨x.1, y.1, Int.le_refl _, o2, has_lo hy, by omega, h⟩
  · split at h
    · rename_i q1 q2
      exact ⟨x.1, -1, Int.le_refl _, o2, q2.2, by decide, by rw [q2.1]; decide⟩
    · have nn : ∀ p, negS y = some p → 0 ≤ quoH x p → ∃ a b, x.1 ≤ a ∧ a ≤ x.2.1 ∧ hasS y b = true ∧ b ≠ 0 ∧ 0 ≤ a.tdiv b := by
        intro p ep hq
        have n1 := neg_has hy ep
        obtain ⟨a, b, a1, a2, a3, a4⟩ := quoH_ex hx n1.1 hq
        have t := within_has hy ep a3
        exact ⟨a, b, a1, a2, t.1, by omega, a4⟩
      have pp : ∀ p, posS y = some p → 0 ≤ quoH x p → ∃ a b, x.1 ≤ a ∧ a ≤ x.2.1 ∧ hasS y b = true ∧ b ≠ 0 ∧ 0 ≤ a.tdiv b := by
        intro p ep hq
        have n1 := pos_has hy ep
        obtain ⟨a, b, a1, a2, a3, a4⟩ := quoH_ex hx n1.1 hq
        have t := within_has hy ep a3
        exact ⟨a, b, a1, a2, t.1, by omega, a4⟩
      split at h
      · rename_i p q ep eq_
        rw [mkS_2] at h
        by_cases c : 0 ≤ quoH x p
        · exact nn p ep c
        · exact pp q eq_ (by omega)
      · rename_i p ep eq_
        rw [mkS_2] at h
        exact nn p ep h
      · rename_i q ep eq_
        rw [mkS_2] at h
        exact pp q eq_ h
      · rename_i ep eq_
        rcases hh with hh | hh
        · exact absurd ep hh
        · exact absurd eq_ hh
theorem over_of {x y : Sp} (hy : okS y) (h1 : ¬ (x.1 = x.2.1 ∧ y.1 = y.2.1)) {a b : Int} (ha : x.1 ≤ a ∧ a ≤ x.2.1) (hb : hasS y b = true) (h0 : b ≠ 0) (h : 0 ≤ a.tdiv b) : 0 ≤ (overS x y).2.1 := by
  unfold overS
  rw [if_neg h1]
  split
  · exact (by decide : (0 : Int) ≤ allS.2.1)
  · have nb := hasS_iff.mp hb
    rcases Int.lt_or_le b 0 with q | q
    · obtain ⟨p, ep, hp⟩ := within_some hy (a := -2147483648) (b := -1) hb (by have := hy.1; omega) (by omega)
      have ep' : negS y = some p := ep
      have n1 := neg_has hy ep'
      have hp' := hasS_iff.mp hp
      have k := quoH_pos ha ⟨hp'.1, hp'.2.1⟩ (by omega) h
      rw [ep']
      split
      · rename_i p' q' e1 e2
        cases e1
        rw [mkS_2]
        omega
      · rename_i p' e1 e2
        cases e1
        rw [mkS_2]
        exact k
      · rename_i e1 e2
        cases e1
      · rename_i e1 e2
        cases e1
    · obtain ⟨p, ep, hp⟩ := within_some hy (a := 1) (b := 2147483647) hb (by omega) (by have := hy.2.2.1; omega)
      have ep' : posS y = some p := ep
      have n1 := pos_has hy ep'
      have hp' := hasS_iff.mp hp
      have k := quoH_pos ha ⟨hp'.1, hp'.2.1⟩ (by omega) h
      rw [ep']
      split
      · rename_i p' q' e1 e2
        cases e2
        rw [mkS_2]
        omega
      · rename_i p' e1 e2
        cases e2
      · rename_i e1 e2
        cases e2
        rw [mkS_2]
        exact k
      · rename_i e1 e2
        cases e2
theorem over_pos {x y x' y' : Sp} (hx : okS x) (hy : okS y) (hx' : okS x') (hy' : okS y') (h1 : covS x' x = true) (h2 : covS y' y = true) (h0 : ¬ (y.1 = 0 ∧ y.2.1 = 0)) (hp : 0 ≤ (overS x y).2.1) : 0 ≤ (overS x' y').2.1 := by
  by_cases c : x'.1 = x'.2.1 ∧ y'.1 = y'.2.1
  · rw [cov_one hx hx' h1 c.1, cov_one hy hy' h2 c.2] at hp
    exact hp
  · obtain ⟨a, b, a1, a2, a3, a4, a5⟩ := over_ex hx hy h0 hp
    have l := cov_lo h1
    exact over_of hy' c ⟨by omega, by omega⟩ (cov_has h2 hy a3) a4 a5
/-! the rest -/
theorem siz_ex {y : Sp} (hy : okS y) (h0 : ¬ (y.1 = 0 ∧ y.2.1 = 0)) : ∃ b, hasS y b = true ∧ b ≠ 0 ∧ sizL y = b.natAbs := by
  have hh := np_some hy h0
  unfold sizL
  have nn : ∀ p, negS y = some p → hasS y p.2.1 = true ∧ p.2.1 < 0 := fun p ep => by
    have n1 := neg_has hy ep
    exact ⟨(within_has hy ep (has_hi n1.1)).1, by omega⟩
  have pp : ∀ p, posS y = some p → hasS y p.1 = true ∧ 0 < p.1 := fun p ep => by
    have n1 := pos_has hy ep
    exact ⟨(within_has hy ep (has_lo n1.1)).1, by omega⟩
  split
  · rename_i p q ep eq_
    have a := nn p ep
    have b := pp q eq_
    by_cases c : -p.2.1 ≤ q.1
    · exact ⟨p.2.1, a.1, by omega, by omega⟩
    · exact ⟨q.1, b.1, by omega, by omega⟩
  · rename_i p ep eq_
    have a := nn p ep
    exact ⟨p.2.1, a.1, by omega, by omega⟩
  · rename_i q ep eq_
    have b := pp q eq_
    exact ⟨q.1, b.1, by omega, by omega⟩
  · rename_i ep eq_
    rcases hh with hh | hh
    · exact absurd ep hh
    · exact absurd eq_ hh
theorem siz_le {y : Sp} (hy : okS y) {b : Int} (hb : hasS y b = true) (h0 : b ≠ 0) : sizL y ≤ b.natAbs := by
  have o1 := hy.1
  have o3 := hy.2.2.1
  have nb := hasS_iff.mp hb
  unfold sizL
  rcases Int.lt_or_le b 0 with q | q
  · obtain ⟨p, ep, hp⟩ := within_some hy (a := -2147483648) (b := -1) hb (by omega) (by omega)
    have ep' : negS y = some p := ep
    have hp' := hasS_iff.mp hp
    rw [ep']
    split
    · rename_i p' q' e1 e2
      cases e1
      omega
    · rename_i p' e1 e2
      cases e1
      omega
    · rename_i e1 e2
      cases e1
    · rename_i e1 e2
      cases e1
  · obtain ⟨p, ep, hp⟩ := within_some hy (a := 1) (b := 2147483647) hb (by omega) (by omega)
    have ep' : posS y = some p := ep
    have hp' := hasS_iff.mp hp
    rw [ep']
    split
    · rename_i p' q' e1 e2
      cases e2
      omega
    · rename_i p' e1 e2
      cases e2
    · rename_i e1 e2
      cases e2
      omega
    · rename_i e1 e2
      cases e2
theorem rest_pos {x y x' y' : Sp} (hx : okS x) (hy : okS y) (hx' : okS x') (hy' : okS y') (h1 : covS x' x = true) (h2 : covS y' y = true) (h0 : ¬ (y.1 = 0 ∧ y.2.1 = 0)) (hp : 0 ≤ (restS x y).2.1) : 0 ≤ (restS x' y').2.1 := by
  by_cases c : x'.1 = x'.2.1 ∧ y'.1 = y'.2.1
  · rw [cov_one hx hx' h1 c.1, cov_one hy hy' h2 c.2] at hp
    exact hp
  have l1 := cov_lo h1
  have l2 := cov_lo h2
  have o2 := hx.2.1
  have w2 := hy.2.1
  have h0' : ¬ (y'.1 = 0 ∧ y'.2.1 = 0) := by omega
  have s1 := siz_1 hy' h0'
  obtain ⟨b, b1, b2, b3⟩ := siz_ex hy h0
  have s2 := siz_le hy' (cov_has h2 hy b1) b2
  have hsl := siz_le hy' (cov_has h2 hy (has_lo hy))
  unfold restS at hp ⊢
  rw [if_neg c]
  split
  · rename_i q
    split at hp
    · rename_i q2
      have nl : y.1 ≠ 0 := by omega
      have := hsl nl
      have e : x.1.tmod y.1 = x.1 := by
        rw [Int.tmod_def, tdiv_sm (by omega)]
        simp
      rw [e] at hp
      have hp2 : 0 ≤ x.1 := hp
      omega
    · split at hp
      · omega
      · rename_i q3
        exfalso
        apply q3
        omega
  · rw [mkS_2]
    split <;> omega
theorem log_pos {op : Nat} {x y x' y' : Sp} (hx : okS x) (hy : okS y) (hx' : okS x') (hy' : okS y') (h1 : covS x' x = true) (h2 : covS y' y = true) (hp : 0 ≤ (logS op x y).2.1) : 0 ≤ (logS op x' y').2.1 := by
  by_cases c : x'.1 = x'.2.1 ∧ y'.1 = y'.2.1
  · rw [cov_one hx hx' h1 c.1, cov_one hy hy' h2 c.2] at hp
    exact hp
  have t := top_b (max x'.2.1 y'.2.1)
  have a2 := hx'.2.1
  have b2 := hy'.2.1
  have al : (0 : Int) ≤ allS.2.1 := by decide
  unfold logS
  rw [if_neg c]
  repeat' split
  all_goals first | exact al | (rw [mkS_2]; omega)
theorem shr_pos {x y x' y' : Sp} (h1 : covS x' x = true) (hp : 0 ≤ (shrS x y).2.1) : 0 ≤ (shrS x' y').2.1 := by
  have l1 := cov_lo h1
  have hx0 : 0 ≤ x.2.1 := by
    have d := div_c x.2.1 (y.1 % 32).toNat
    unfold shrS at hp
    split at hp
    · rw [mkS_2] at hp
      omega
    · rw [mkS_2] at hp
      split at hp <;> omega
  have d := div_c x'.2.1 (y'.1 % 32).toNat
  unfold shrS
  split
  · rw [mkS_2]; omega
  · rw [mkS_2]; rw [if_pos (by omega)]; omega
theorem ush_pos {x y x' y' : Sp} (hx' : okS x') (hy : okS y) (hy' : okS y') (h1 : covS x' x = true) (h2 : covS y' y = true) (hp : 0 ≤ (ushS x y).2.1) : 0 ≤ (ushS x' y').2.1 := by
  have l1 := cov_lo h1
  have o := hx'.2.1
  unfold ushS
  split
  · rename_i q
    have e := cov_one hy hy' h2 q.1
    subst e
    unfold ushS at hp
    rw [if_pos q] at hp
    omega
  · split
    · have d := div_c x'.2.1 (y'.1 % 32).toNat
      unfold shrS
      split
      · rw [mkS_2]; omega
      · rw [mkS_2]; rw [if_pos (by omega)]; omega
    · split
      · exact (by decide : (0 : Int) ≤ allS.2.1)
      · split
        · have d := div_c (x'.2.1 + 4294967296) (y'.1 % 32).toNat
          have := hx'.1
          rw [mkS_2]; omega
        · rw [mkS_2]
          have : (1 : Int) ≤ 2 ^ (32 - (y'.1 % 32).toNat) := Int.pow_pos (by decide)
          omega
/-- what 7 to 18 make of more is not below 0 alone, where it was not of less -/
theorem act_pos {op : Nat} {x y x' y' : Sp} (hx : okS x) (hy : okS y) (hx' : okS x') (hy' : okS y') (h1 : covS x' x = true) (h2 : covS y' y = true) (h0 : op = 10 ∨ op = 11 → ¬ (y.1 = 0 ∧ y.2.1 = 0)) (hp : 0 ≤ (actS op x y).2.1) : 0 ≤ (actS op x' y').2.1 := by
  have l1 := cov_lo h1
  have l2 := cov_lo h2
  have o2 := hx.2.1
  have w2 := hy.2.1
  have gd := gcd_dvd_add hx hy
  obtain ⟨e1, e2⟩ := cov_dvd hx hx' h1
  obtain ⟨f1, f2⟩ := cov_dvd hy hy' h2
  have g0 : ((Int.gcd x'.2.2 y'.2.2 : Nat) : Int) ∣ ((Int.gcd x.2.2 y.2.2 : Nat) : Int) := Int.dvd_coe_gcd (Int.dvd_trans (Int.gcd_dvd_left ..) e2) (Int.dvd_trans (Int.gcd_dvd_right ..) f2)
  have gx : ((Int.gcd x'.2.2 y'.2.2 : Nat) : Int) ∣ x.1 - x'.1 := Int.dvd_trans (Int.gcd_dvd_left ..) e1
  have gy : ((Int.gcd x'.2.2 y'.2.2 : Nat) : Int) ∣ y.1 - y'.1 := Int.dvd_trans (Int.gcd_dvd_right ..) f1
  have hi : ∀ {u v : Sp}, okS u → okS v → covS v u = true → v.2.2 ∣ u.2.1 - v.2.1 := fun {u v} hu hv hc => by
    obtain ⟨a1, a2⟩ := cov_dvd hu hv hc
    have := Int.dvd_sub (Int.dvd_add a1 (Int.dvd_trans a2 hu.2.2.2.2.2)) hv.2.2.2.2.2
    rwa [show u.1 - v.1 + (u.2.1 - u.1) - (v.2.1 - v.1) = u.2.1 - v.2.1 by omega] at this
  have gy2 : ((Int.gcd x'.2.2 y'.2.2 : Nat) : Int) ∣ y.2.1 - y'.2.1 := Int.dvd_trans (Int.gcd_dvd_right ..) (hi hy hy' h2)
  unfold actS at hp ⊢
  by_cases q7 : op = 7
  · rw [if_pos q7] at hp ⊢
    refine turn_pos (by omega) (by omega) (by omega) (by omega) (by rw [show x.2.1 + y.2.1 - (x.1 + y.1) = x.2.1 - x.1 + (y.2.1 - y.1) by omega]; exact gd) ?_ g0 hp
    have := Int.dvd_add gx gy
    rwa [show x.1 - x'.1 + (y.1 - y'.1) = x.1 + y.1 - (x'.1 + y'.1) by omega] at this
  rw [if_neg q7] at hp ⊢
  by_cases q8 : op = 8
  · rw [if_pos q8] at hp ⊢
    refine turn_pos (by omega) (by omega) (by omega) (by omega) (by rw [show x.2.1 - y.1 - (x.1 - y.2.1) = x.2.1 - x.1 + (y.2.1 - y.1) by omega]; exact gd) ?_ g0 hp
    have := Int.dvd_sub gx gy2
    rwa [show x.1 - x'.1 - (y.2.1 - y'.2.1) = x.1 - y.2.1 - (x'.1 - y'.2.1) by omega] at this
  rw [if_neg q8] at hp ⊢
  by_cases q9 : op = 9
  · rw [if_pos q9] at hp ⊢
    exact mact_pos hx hy hx' hy' h1 h2 hp
  rw [if_neg q9] at hp ⊢
  by_cases q10 : op = 10
  · rw [if_pos q10] at hp ⊢
    exact over_pos hx hy hx' hy' h1 h2 (h0 (Or.inl q10)) hp
  rw [if_neg q10] at hp ⊢
  by_cases q11 : op = 11
  · rw [if_pos q11] at hp ⊢
    exact rest_pos hx hy hx' hy' h1 h2 (h0 (Or.inr q11)) hp
  rw [if_neg q11] at hp ⊢
  by_cases q12 : op = 12 ∨ op = 13 ∨ op = 14
  · rw [if_pos q12] at hp ⊢
    exact log_pos hx hy hx' hy' h1 h2 hp
  rw [if_neg q12] at hp ⊢
  by_cases q15 : op = 15
  · rw [if_pos q15] at hp ⊢
    split
    · rename_i q
      have e := cov_one hy hy' h2 q
      subst e
      rw [if_pos q] at hp
      exact times_pos hx hx' h1 hp
    · exact (by decide : (0 : Int) ≤ allS.2.1)
  rw [if_neg q15] at hp ⊢
  by_cases q16 : op = 16
  · rw [if_pos q16] at hp ⊢
    exact shr_pos h1 hp
  rw [if_neg q16] at hp ⊢
  by_cases q18 : op = 18
  · rw [if_pos q18] at hp ⊢
    refine turn_pos (by omega) (by omega) (by omega) hx.2.2.2.1 (by rw [show -x.1 - -x.2.1 = x.2.1 - x.1 by omega]; exact hx.2.2.2.2.2) ?_ e2 hp
    have := hi hx hx' h1
    rw [show -x.2.1 - -x'.2.1 = -(x.2.1 - x'.2.1) by omega]
    exact Int.dvd_neg.mpr this
  rw [if_neg q18] at hp ⊢
  exact ush_pos hx' hy hy' h1 h2 hp
end PURE11
