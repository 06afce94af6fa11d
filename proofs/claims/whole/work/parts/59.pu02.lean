section PURE2
theorem i32_eL {a : Int} (h1 : -2147483648 ≤ a) (h2 : a ≤ 2147483647) : eL a = (Int32.ofInt a).toInt64 := by
  apply Int64.toInt_inj.mp
  rw [eL_toInt (by omega) (by omega), Int32.toInt_toInt64, Int32.toInt_ofInt_of_le h1 (by omega)]
theorem i32_b (x : Int32) : -2147483648 ≤ x.toInt ∧ x.toInt ≤ 2147483647 := ⟨x.le_toInt, by have := x.toInt_lt; omega⟩
theorem bit_b {op : Nat} {a b : Int} (h1 : -2147483648 ≤ a) (h2 : a ≤ 2147483647) (h3 : -2147483648 ≤ b) (h4 : b ≤ 2147483647) : -2147483648 ≤ bitS op a b ∧ bitS op a b ≤ 2147483647 := by
  unfold bitS
  rw [i32_eL h1 h2, i32_eL h3 h4, ← Int32.toInt64_and, ← Int32.toInt64_or, ← Int32.toInt64_xor, Int32.toInt_toInt64, Int32.toInt_toInt64, Int32.toInt_toInt64]
  split
  · exact i32_b _
  · split
    · exact i32_b _
    · exact i32_b _
theorem pow2_le {m n : Nat} (h : m ≤ n) : (2 : Int) ^ m ≤ 2 ^ n := by
  obtain ⟨d, rfl⟩ : ∃ d, n = m + d := ⟨n - m, by omega⟩
  rw [Int.pow_add]
  have h1 : (0 : Int) < 2 ^ m := Int.pow_pos (by decide)
  have h2 : (0 : Int) < 2 ^ d := Int.pow_pos (by decide)
  have := Int.mul_le_mul_of_nonneg_left (show (1 : Int) ≤ 2 ^ d from h2) (Int.le_of_lt h1)
  omega
theorem p31 : (2 : Int) ^ 31 = 2147483648 := by decide
theorem topF_b : ∀ (f : Nat) (t v : Int), 0 ≤ t → t + 1 ≤ 2 ^ (31 - f) → f ≤ 31 → 0 ≤ topF f t v ∧ topF f t v ≤ 2147483647
  | 0, t, v, h0, h1, _ => by
    simp only [topF]
    have := p31
    rw [Nat.sub_zero] at h1
    omega
  | f + 1, t, v, h0, h1, hf => by
    simp only [topF]
    have e : (2 : Int) ^ (31 - f) = 2 * 2 ^ (31 - (f + 1)) := by
      rw [show 31 - f = (31 - (f + 1)) + 1 by omega, Int.pow_succ, Int.mul_comm]
    split
    · exact topF_b f (2 * t + 1) v (by omega) (by omega) (by omega)
    · have : (2 : Int) ^ (31 - (f + 1)) ≤ 2 ^ 31 := pow2_le (by omega)
      have := p31
      omega
theorem topF_v : ∀ (f : Nat) (t v : Int), v + 1 ≤ (t + 1) * 2 ^ f → v ≤ topF f t v
  | 0, t, v, h => by
    simp only [topF]
    simp at h
    omega
  | f + 1, t, v, h => by
    simp only [topF]
    split
    · refine topF_v f (2 * t + 1) v ?_
      have : (2 * t + 1 + 1) * 2 ^ f = (t + 1) * 2 ^ (f + 1) := by
        rw [Int.pow_succ, show 2 * t + 1 + 1 = (t + 1) * 2 by omega, Int.mul_assoc, Int.mul_comm 2]
      omega
    · omega
theorem top_b (v : Int) : 0 ≤ topF 31 0 v ∧ topF 31 0 v ≤ 2147483647 := topF_b 31 0 v (by decide) (by decide) (by decide)
theorem top_v {v : Int} (h : v ≤ 2147483647) : v ≤ topF 31 0 v := topF_v 31 0 v (by have := p31; omega)
theorem log_ok {op : Nat} {x y : Sp} (hx : okS x) (hy : okS y) : okS (logS op x y) := by
  obtain ⟨h1, h2, h3, h4, h5, h6⟩ := id hx
  obtain ⟨w1, w2, w3, w4, w5, w6⟩ := id hy
  have hb := bit_b (op := op) h1 (show x.1 ≤ 2147483647 by omega) w1 (show y.1 ≤ 2147483647 by omega)
  have t1 := top_b (max x.2.1 y.2.1)
  have t2 := top_v (v := max x.2.1 y.2.1) (by omega)
  have D : ∀ z : Int, z ≠ z → (0 : Int) ≤ 1 ∧ (1 : Int) ∣ 0 := fun _ _ => ⟨by decide, by simp⟩
  unfold logS
  repeat' split
  all_goals first
    | exact okS_all
    | exact ⟨hb.1, Int.le_refl _, hb.2, Int.le_refl _, fun _ => rfl, by simp⟩
    | exact okS_mk (by omega) (by omega) (by omega) (fun _ => ⟨by decide, by simp⟩)
theorem div_mono {a b : Int} (c : Nat) (h : a ≤ b) : a / 2 ^ c ≤ b / 2 ^ c := Int.ediv_le_ediv (Int.pow_pos (by decide)) h
theorem div_lo {a : Int} (c : Nat) (h : a < 0) : a ≤ a / 2 ^ c ∧ a / 2 ^ c ≤ -1 := by
  have hp : (0 : Int) < 2 ^ c := Int.pow_pos (by decide)
  constructor
  · apply (Int.le_ediv_iff_mul_le hp).mpr
    have h4 := Int.mul_le_mul_of_nonpos_left (show a ≤ 0 by omega) (show (1 : Int) ≤ 2 ^ c from hp)
    omega
  · have := Int.ediv_neg_of_neg_of_pos h hp
    omega
theorem div_hi {a : Int} (c : Nat) (h : 0 ≤ a) : 0 ≤ a / 2 ^ c ∧ a / 2 ^ c ≤ a := ⟨Int.ediv_nonneg h (Int.le_of_lt (Int.pow_pos (by decide))), Int.ediv_le_self _ h⟩
theorem div_c (a : Int) (c : Nat) : (0 ≤ a → 0 ≤ a / 2 ^ c ∧ a / 2 ^ c ≤ a) ∧ (a < 0 → a ≤ a / 2 ^ c ∧ a / 2 ^ c ≤ -1) := ⟨div_hi c, div_lo c⟩
theorem shr_ok {x y : Sp} (hx : okS x) : okS (shrS x y) := by
  obtain ⟨h1, h2, h3, h4, h5, h6⟩ := id hx
  have a1 := div_c x.1 (y.1 % 32).toNat
  have a2 := div_c x.2.1 (y.1 % 32).toNat
  have a3 := div_mono (y.1 % 32).toNat h2
  unfold shrS
  split
  · exact okS_mk (by omega) (by omega) (by omega) (fun _ => ⟨by decide, by simp⟩)
  · exact okS_mk (by omega) (by split <;> omega) (by split <;> omega) (fun _ => ⟨by decide, by simp⟩)
theorem div_two {a : Int} {c : Nat} (hc : 1 ≤ c) (h0 : 0 ≤ a) (h1 : a ≤ 4294967295) : 0 ≤ a / 2 ^ c ∧ a / 2 ^ c ≤ 2147483647 := by
  refine ⟨(div_hi c h0).1, ?_⟩
  obtain ⟨d, rfl⟩ : ∃ d, c = 1 + d := ⟨c - 1, by omega⟩
  rw [Int.pow_add, ← Int.ediv_ediv_of_nonneg (by decide)]
  have := div_hi d (show (0 : Int) ≤ a / 2 ^ 1 by rw [show (2 : Int) ^ 1 = 2 from rfl]; omega)
  have : a / 2 ^ 1 = a / 2 := rfl
  omega
theorem ush_ok {x y : Sp} (hx : okS x) : okS (ushS x y) := by
  obtain ⟨h1, h2, h3, h4, h5, h6⟩ := id hx
  unfold ushS
  split
  · exact hx
  · split
    · exact shr_ok hx
    · split
      · exact okS_all
      · have hc : 1 ≤ (y.1 % 32).toNat ∧ (y.1 % 32).toNat ≤ 31 := by omega
        split
        · have a1 := div_two (a := x.1 + 4294967296) hc.1 (by omega) (by omega)
          have a2 := div_two (a := x.2.1 + 4294967296) hc.1 (by omega) (by omega)
          have a3 := div_mono (y.1 % 32).toNat (show x.1 + 4294967296 ≤ x.2.1 + 4294967296 by omega)
          exact okS_mk (by omega) a3 (by omega) (fun _ => ⟨by decide, by simp⟩)
        · have p1 : (1 : Int) ≤ 2 ^ (32 - (y.1 % 32).toNat) := Int.pow_pos (by decide)
          have p2 : (2 : Int) ^ (32 - (y.1 % 32).toNat) ≤ 2 ^ 31 := pow2_le (by omega)
          rw [p31] at p2
          exact okS_mk (by omega) (by omega) (by omega) (fun _ => ⟨by decide, by simp⟩)
theorem gcd_dvd_add {x y : Sp} (hx : okS x) (hy : okS y) : ((Int.gcd x.2.2 y.2.2 : Nat) : Int) ∣ x.2.1 - x.1 + (y.2.1 - y.1) :=
  Int.dvd_add (Int.dvd_trans (Int.gcd_dvd_left ..) hx.2.2.2.2.2) (Int.dvd_trans (Int.gcd_dvd_right ..) hy.2.2.2.2.2)
theorem act_ok {op : Nat} {x y : Sp} (hx : okS x) (hy : okS y) (h0 : op = 10 ∨ op = 11 → ¬ (y.1 = 0 ∧ y.2.1 = 0)) : okS (actS op x y) := by
  have o2 := hx.2.1
  have w2 := hy.2.1
  have gd := gcd_dvd_add hx hy
  unfold actS
  split
  · exact turn_ok (by omega) (by omega) (by rw [show x.2.1 + y.2.1 - (x.1 + y.1) = x.2.1 - x.1 + (y.2.1 - y.1) by omega]; exact gd)
  split
  · exact turn_ok (by omega) (by omega) (by rw [show x.2.1 - y.1 - (x.1 - y.2.1) = x.2.1 - x.1 + (y.2.1 - y.1) by omega]; exact gd)
  split
  · split
    · exact times_ok hy
    · split
      · exact times_ok hx
      · exact mul_ok x y
  split
  · exact over_ok hx hy (h0 (by omega))
  split
  · exact rest_ok hx hy (h0 (by omega))
  split
  · exact log_ok hx hy
  split
  · split
    · exact times_ok hx
    · exact okS_all
  split
  · exact shr_ok hx
  split
  · exact turn_ok (by omega) hx.2.2.2.1 (by rw [show -x.1 - -x.2.1 = x.2.1 - x.1 by omega]; exact hx.2.2.2.2.2)
  · exact ush_ok hx
/-! covering -/
theorem covS_iff {x y : Sp} : covS x y = true ↔ x.1 ≤ y.1 ∧ y.2.1 ≤ x.2.1 ∧ (x.2.2 = 0 ∨ (x.2.2 ∣ y.1 - x.1 ∧ x.2.2 ∣ y.2.2)) := by
  unfold covS
  rw [Bool.and_eq_true, Bool.and_eq_true, Bool.or_eq_true, Bool.and_eq_true, decide_eq_true_eq, decide_eq_true_eq, decide_eq_true_eq, decide_eq_true_eq, decide_eq_true_eq, and_assoc]
  refine and_congr Iff.rfl (and_congr Iff.rfl (or_congr Iff.rfl (and_congr ⟨Int.dvd_of_emod_eq_zero, Int.emod_eq_zero_of_dvd⟩ ⟨Int.dvd_of_emod_eq_zero, Int.emod_eq_zero_of_dvd⟩)))
theorem cov_refl (x : Sp) : covS x x = true := covS_iff.mpr ⟨by omega, by omega, Or.inr ⟨by simp, Int.dvd_refl _⟩⟩
theorem cov_trans {x y z : Sp} (hy : okS y) (hz : okS z) (h1 : covS x y = true) (h2 : covS y z = true) : covS x z = true := by
  rw [covS_iff] at h1 h2 ⊢
  obtain ⟨a1, a2, a3⟩ := h1
  obtain ⟨b1, b2, b3⟩ := h2
  refine ⟨by omega, by omega, ?_⟩
  rcases a3 with a3 | ⟨a3, a4⟩
  · exact Or.inl a3
  · rcases b3 with b3 | ⟨b3, b4⟩
    · right
      have e1 := hy.z b3
      have hz2 := hz.2.1
      have hz5 := hz.2.2.2.2.1
      rw [hz5 (by omega)]
      exact ⟨by rw [show z.1 = y.1 by omega]; exact a3, by simp⟩
    · right
      refine ⟨?_, Int.dvd_trans a4 b4⟩
      have := Int.dvd_add a3 (Int.dvd_trans a4 b3)
      rwa [show y.1 - x.1 + (z.1 - y.1) = z.1 - x.1 by omega] at this
theorem cov_has {x y : Sp} (h : covS x y = true) {c : Int} (hy : okS y) (hc : hasS y c = true) : hasS x c = true := by
  rw [covS_iff] at h
  rw [hasS_iff] at hc ⊢
  refine ⟨by omega, by omega, ?_⟩
  rcases h.2.2 with h3 | ⟨h3, h4⟩
  · exact Or.inl h3
  · right
    rcases hc.2.2 with q | q
    · have := hy.z q
      rw [show c = y.1 by omega]
      exact h3
    · have := Int.dvd_add h3 (Int.dvd_trans h4 q)
      rwa [show y.1 - x.1 + (c - y.1) = c - x.1 by omega] at this
theorem both_ok {x y : Sp} (hx : okS x) (hy : okS y) : okS (bothS x y) := by
  have hz := fun q => hx.z q
  obtain ⟨h1, h2, h3, h4, h5, h6⟩ := id hx
  obtain ⟨w1, w2, w3, w4, w5, w6⟩ := id hy
  refine ⟨by simp only [bothS]; omega, by simp only [bothS]; omega, by simp only [bothS]; omega, by simp only [bothS]; omega, ?_, ?_⟩
  · simp only [bothS]
    intro e
    rw [h5 (by omega), w5 (by omega), show x.1 - y.1 = 0 by omega]
    rfl
  · simp only [bothS]
    have g1 : ((Int.gcd (Int.gcd x.2.2 y.2.2 : Nat) (x.1 - y.1) : Nat) : Int) ∣ x.2.2 := Int.dvd_trans (Int.gcd_dvd_left ..) (Int.gcd_dvd_left ..)
    have g2 : ((Int.gcd (Int.gcd x.2.2 y.2.2 : Nat) (x.1 - y.1) : Nat) : Int) ∣ y.2.2 := Int.dvd_trans (Int.gcd_dvd_left ..) (Int.gcd_dvd_right ..)
    have g3 : ((Int.gcd (Int.gcd x.2.2 y.2.2 : Nat) (x.1 - y.1) : Nat) : Int) ∣ x.1 - y.1 := Int.gcd_dvd_right ..
    have k1 := Int.dvd_trans g1 h6
    have k2 := Int.dvd_trans g2 w6
    generalize ((Int.gcd (Int.gcd x.2.2 y.2.2 : Nat) (x.1 - y.1) : Nat) : Int) = g at *
    rcases Int.le_total x.1 y.1 with p | p <;> rcases Int.le_total x.2.1 y.2.1 with q | q
    · rw [Int.min_eq_left p, Int.max_eq_right q]
      have := Int.dvd_sub k2 g3
      rwa [show y.2.1 - y.1 - (x.1 - y.1) = y.2.1 - x.1 by omega] at this
    · rw [Int.min_eq_left p, Int.max_eq_left q]
      exact k1
    · rw [Int.min_eq_right p, Int.max_eq_right q]
      exact k2
    · rw [Int.min_eq_right p, Int.max_eq_left q]
      have := Int.dvd_add k1 g3
      rwa [show x.2.1 - x.1 + (x.1 - y.1) = x.2.1 - y.1 by omega] at this
theorem both_cov {x y : Sp} : covS (bothS x y) x = true ∧ covS (bothS x y) y = true := by
  have g1 : ((Int.gcd (Int.gcd x.2.2 y.2.2 : Nat) (x.1 - y.1) : Nat) : Int) ∣ x.2.2 := Int.dvd_trans (Int.gcd_dvd_left ..) (Int.gcd_dvd_left ..)
  have g2 : ((Int.gcd (Int.gcd x.2.2 y.2.2 : Nat) (x.1 - y.1) : Nat) : Int) ∣ y.2.2 := Int.dvd_trans (Int.gcd_dvd_left ..) (Int.gcd_dvd_right ..)
  have g3 : ((Int.gcd (Int.gcd x.2.2 y.2.2 : Nat) (x.1 - y.1) : Nat) : Int) ∣ x.1 - y.1 := Int.gcd_dvd_right ..
  rw [covS_iff, covS_iff]
  simp only [bothS]
  generalize ((Int.gcd (Int.gcd x.2.2 y.2.2 : Nat) (x.1 - y.1) : Nat) : Int) = g at *
  refine ⟨⟨by omega, by omega, Or.inr ⟨?_, g1⟩⟩, by omega, by omega, Or.inr ⟨?_, g2⟩⟩
  · rcases Int.le_total x.1 y.1 with p | p
    · rw [Int.min_eq_left p]; simp
    · rw [Int.min_eq_right p]; exact g3
  · rcases Int.le_total x.1 y.1 with p | p
    · rw [Int.min_eq_left p, show y.1 - x.1 = -(x.1 - y.1) by omega]
      exact Int.dvd_neg.mpr g3
    · rw [Int.min_eq_right p]; simp
/-- BOTH changes nothing just where it was covered -/
theorem both_eq {x y : Sp} (hx : okS x) (hy : okS y) : bothS x y = x ↔ covS x y = true := by
  constructor
  · intro e
    have := (both_cov (x := x) (y := y)).2
    rwa [e] at this
  · intro h
    have hz := fun q => hx.z q
    obtain ⟨h1, h2, h3, h4, h5, h6⟩ := id hx
    obtain ⟨w1, w2, w3, w4, w5, w6⟩ := id hy
    rw [covS_iff] at h
    obtain ⟨a1, a2, a3⟩ := h
    have e3 : ((Int.gcd (Int.gcd x.2.2 y.2.2 : Nat) (x.1 - y.1) : Nat) : Int) = x.2.2 := by
      by_cases q : x.2.2 = 0
      · have := hz q
        rw [w5 (by omega), q, show x.1 - y.1 = 0 by omega]
        rfl
      · obtain ⟨a3, a4⟩ := a3.resolve_left q
        rw [Int.gcd_eq_left h4 a4]
        have a5 : x.2.2 ∣ x.1 - y.1 := by
          rw [show x.1 - y.1 = -(y.1 - x.1) by omega]
          exact Int.dvd_neg.mpr a3
        exact Int.gcd_eq_left h4 a5
    unfold bothS
    rw [e3, Int.min_eq_left a1, Int.max_eq_left a2]
end PURE2
