section PURE10
theorem cov_lo {x y : Sp} (h : covS x y = true) : x.1 ≤ y.1 ∧ y.2.1 ≤ x.2.1 := by
  rw [covS_iff] at h
  exact ⟨h.1, h.2.1⟩
theorem cov_dvd {x y : Sp} (hy : okS y) (hx : okS x) (h : covS x y = true) : x.2.2 ∣ y.1 - x.1 ∧ x.2.2 ∣ y.2.2 := by
  rw [covS_iff] at h
  rcases h.2.2 with q | q
  · have := hx.z q
    have h2 := hy.2.1
    rw [show y.1 - x.1 = 0 by omega, hy.2.2.2.2.1 (by omega)]
    simp
  · exact q
theorem cov_one {x y : Sp} (hy : okS y) (hx : okS x) (h : covS x y = true) (h1 : x.1 = x.2.1) : y = x := by
  have c := cov_lo h
  have h2 := hy.2.1
  have a := hy.2.2.2.2.1 (by omega)
  have b := hx.2.2.2.2.1 h1
  exact Prod.ext (by omega) (Prod.ext (by omega) (by rw [a, b]))
theorem gcd_mod {a : Int} {g : Int} (_ : 0 < g) (v : Int) (h : g ∣ v - a) (c : Int) : (a + c) % g = (v + c) % g := by
  have : (v + c) = (a + c) + (v - a) := by omega
  rw [this]
  obtain ⟨k, hk⟩ := h
  rw [hk, Int.add_mul_emod_self_left]
/-- what is turned of less is turned of more -/
theorem turn_sub {l h s l' h' s' : Int} (h1 : l ≤ h) (h2 : l' ≤ l) (h3 : h ≤ h') (h4 : 0 ≤ s) (h5 : s ∣ h - l) (h6 : s' ∣ l - l') (h7 : s' ∣ s) {v : Int} (hv : hasS (turnS l h s) v = true) : hasS (turnS l' h' s') v = true := by
  have okt := turn_ok h1 h4 h5
  rw [hasS_iff] at hv
  unfold turnS at hv ⊢
  have m1 := Int.emod_nonneg (l + 2147483648) (show (4294967296 : Int) ≠ 0 by decide)
  have m2 := Int.emod_lt_of_pos (l + 2147483648) (show (0 : Int) < 4294967296 by decide)
  have m1' := Int.emod_nonneg (l' + 2147483648) (show (4294967296 : Int) ≠ 0 by decide)
  have gp : ∀ z : Int, 0 < ((Int.gcd z 4294967296 : Nat) : Int) := fun z => by have : 0 < Int.gcd z 4294967296 := Int.gcd_pos_of_ne_zero_right _ (by decide); omega
  -- v lies in the range, and goes with l by the stride that is left
  have key : -2147483648 ≤ v ∧ v ≤ 2147483647 ∧ ((Int.gcd s 4294967296 : Nat) : Int) ∣ v - l ∧ (h - (l + 2147483648) / 4294967296 * 4294967296 ≤ 2147483647 → l - (l + 2147483648) / 4294967296 * 4294967296 ≤ v ∧ v ≤ h - (l + 2147483648) / 4294967296 * 4294967296 ∧ s ∣ v - (l - (l + 2147483648) / 4294967296 * 4294967296)) := by
    have gl : ((Int.gcd s 4294967296 : Nat) : Int) ∣ s := Int.gcd_dvd_left ..
    have gr : ((Int.gcd s 4294967296 : Nat) : Int) ∣ 4294967296 := Int.gcd_dvd_right ..
    split at hv
    · rename_i q
      rw [mkS_1, mkS_2, mkS_3] at hv
      have d : s ∣ v - (l - (l + 2147483648) / 4294967296 * 4294967296) := by
        obtain ⟨a1, a2, a3⟩ := hv
        split at a3
        · rename_i e
          rw [show v - (l - (l + 2147483648) / 4294967296 * 4294967296) = 0 by omega]; simp
        · rcases a3 with a3 | a3
          · rw [a3] at h5 ⊢
            have := Int.zero_dvd.mp h5
            rw [show v - (l - (l + 2147483648) / 4294967296 * 4294967296) = 0 by omega]; simp
          · exact a3
      refine ⟨by omega, by omega, ?_, fun _ => ⟨hv.1, hv.2.1, d⟩⟩
      have e : v - l = (v - (l - (l + 2147483648) / 4294967296 * 4294967296)) - (l + 2147483648) / 4294967296 * 4294967296 := by omega
      rw [e]
      exact Int.dvd_sub (Int.dvd_trans gl d) (Int.dvd_trans gr ⟨(l + 2147483648) / 4294967296, by rw [Int.mul_comm]⟩)
    · rename_i q
      have g0 := gp s
      rw [mkS_1, mkS_2, mkS_3] at hv
      generalize ((Int.gcd s 4294967296 : Nat) : Int) = g at *
      have e1 := Int.mul_ediv_add_emod (l + 2147483648) g
      have n1 := Int.emod_nonneg (l + 2147483648) (show g ≠ 0 by omega)
      have n2 := Int.emod_nonneg (2147483647 - l) (show g ≠ 0 by omega)
      refine ⟨by omega, by omega, ?_, fun z => absurd z q⟩
      have dl : g ∣ (-2147483648 + (l + 2147483648) % g) - l := ⟨-((l + 2147483648) / g), by rw [Int.mul_neg]; omega⟩
      obtain ⟨a1, a2, a3⟩ := hv
      have : g ∣ v - (-2147483648 + (l + 2147483648) % g) := by
        split at a3
        · rw [show v - (-2147483648 + (l + 2147483648) % g) = 0 by omega]; simp
        · rcases a3 with a3 | a3
          · omega
          · exact a3
      have := Int.dvd_add this dl
      rwa [show v - (-2147483648 + (l + 2147483648) % g) + (-2147483648 + (l + 2147483648) % g - l) = v - l by omega] at this
  clear hv
  obtain ⟨k1, k2, k3, k4⟩ := key
  have g' : ((Int.gcd s' 4294967296 : Nat) : Int) ∣ v - l' := by
    have a : ((Int.gcd s' 4294967296 : Nat) : Int) ∣ ((Int.gcd s 4294967296 : Nat) : Int) := Int.dvd_coe_gcd (Int.dvd_trans (Int.gcd_dvd_left ..) h7) (Int.gcd_dvd_right ..)
    have b := Int.dvd_add (Int.dvd_trans a k3) (Int.dvd_trans (Int.gcd_dvd_left s' 4294967296) h6)
    rwa [show v - l + (l - l') = v - l' by omega] at b
  rw [hasS_iff]
  split
  · rename_i q
    have hb : (l + 2147483648) / 4294967296 = (l' + 2147483648) / 4294967296 := by omega
    rw [hb] at k4
    obtain ⟨a1, a2, a3⟩ := k4 (by omega)
    rw [mkS_1, mkS_2, mkS_3]
    refine ⟨by omega, by omega, ?_⟩
    split
    · exact Or.inl rfl
    · right
      have := Int.dvd_add (Int.dvd_trans h7 a3) h6
      rwa [show v - (l - (l' + 2147483648) / 4294967296 * 4294967296) + (l - l') = v - (l' - (l' + 2147483648) / 4294967296 * 4294967296) by omega] at this
  · have g0 := gp s'
    generalize ((Int.gcd s' 4294967296 : Nat) : Int) = g at *
    rw [mkS_1, mkS_2, mkS_3]
    have e1 := gcd_mod g0 v g' 2147483648
    have e2 : (2147483647 - l') % g = (2147483647 - v) % g := by
      have := gcd_mod (a := v) g0 (v := l') (by rw [show l' - v = -(v - l') by omega]; exact Int.dvd_neg.mpr g') 0
      have d : g ∣ (2147483647 - v) - (2147483647 - l') := by rw [show 2147483647 - v - (2147483647 - l') = -(v - l') by omega]; exact Int.dvd_neg.mpr g'
      have := gcd_mod (a := 2147483647 - l') g0 (v := 2147483647 - v) d 0
      simpa using this
    have n1 := Int.emod_nonneg (v + 2147483648) (show g ≠ 0 by omega)
    have n2 := Int.emod_nonneg (2147483647 - v) (show g ≠ 0 by omega)
    have p1 : (v + 2147483648) % g ≤ v + 2147483648 := by
      have := Int.mul_ediv_add_emod (v + 2147483648) g
      have := Int.mul_nonneg (show 0 ≤ g by omega) (Int.ediv_nonneg (show 0 ≤ v + 2147483648 by omega) (show 0 ≤ g by omega))
      omega
    have p2 : (2147483647 - v) % g ≤ 2147483647 - v := by
      have := Int.mul_ediv_add_emod (2147483647 - v) g
      have := Int.mul_nonneg (show 0 ≤ g by omega) (Int.ediv_nonneg (show 0 ≤ 2147483647 - v by omega) (show 0 ≤ g by omega))
      omega
    rw [e1, e2]
    refine ⟨by omega, by omega, ?_⟩
    split
    · exact Or.inl rfl
    · right
      have := Int.mul_ediv_add_emod (v + 2147483648) g
      exact ⟨(v + 2147483648) / g, by omega⟩
theorem turn_pos {l h s l' h' s' : Int} (h1 : l ≤ h) (h2 : l' ≤ l) (h3 : h ≤ h') (h4 : 0 ≤ s) (h5 : s ∣ h - l) (h6 : s' ∣ l - l') (h7 : s' ∣ s) (hp : 0 ≤ (turnS l h s).2.1) : 0 ≤ (turnS l' h' s').2.1 := by
  have := turn_sub h1 h2 h3 h4 h5 h6 h7 (has_hi (turn_ok h1 h4 h5))
  rw [hasS_iff] at this
  omega
end PURE10
