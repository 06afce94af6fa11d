section PURE3
def rkD (v : Int) : Nat := if 2147483647 ≤ v then 10 else if 65535 ≤ v then 9 else if 32767 ≤ v then 8 else if 255 ≤ v then 7 else if 127 ≤ v then 6 else if 1 ≤ v then 5 else if 0 ≤ v then 4 else if -1 ≤ v then 3 else if -128 ≤ v then 2 else if -32768 ≤ v then 1 else 0
def rkU (v : Int) : Nat := if v ≤ -2147483648 then 10 else if v ≤ -32768 then 9 else if v ≤ -128 then 8 else if v ≤ -1 then 7 else if v ≤ 0 then 6 else if v ≤ 1 then 5 else if v ≤ 127 then 4 else if v ≤ 255 then 3 else if v ≤ 32767 then 2 else if v ≤ 65535 then 1 else 0
theorem casD (v : Int) : (2147483647 ≤ v ∧ ledD v = 2147483647 ∧ rkD v = 10) ∨ (65535 ≤ v ∧ v < 2147483647 ∧ ledD v = 65535 ∧ rkD v = 9) ∨ (32767 ≤ v ∧ v < 65535 ∧ ledD v = 32767 ∧ rkD v = 8) ∨ (255 ≤ v ∧ v < 32767 ∧ ledD v = 255 ∧ rkD v = 7) ∨ (127 ≤ v ∧ v < 255 ∧ ledD v = 127 ∧ rkD v = 6) ∨ (1 ≤ v ∧ v < 127 ∧ ledD v = 1 ∧ rkD v = 5) ∨ (0 ≤ v ∧ v < 1 ∧ ledD v = 0 ∧ rkD v = 4) ∨ ((-1) ≤ v ∧ v < 0 ∧ ledD v = (-1) ∧ rkD v = 3) ∨ ((-128) ≤ v ∧ v < (-1) ∧ ledD v = (-128) ∧ rkD v = 2) ∨ ((-32768) ≤ v ∧ v < (-128) ∧ ledD v = (-32768) ∧ rkD v = 1) ∨ (v < (-32768) ∧ ledD v = (-2147483648) ∧ rkD v = 0) := by
  by_cases q10 : 2147483647 ≤ v
  · have e1 : ledD v = 2147483647 := by unfold ledD; rw [if_pos q10]
    have e2 : rkD v = 10 := by unfold rkD; rw [if_pos q10]
    exact Or.inl ⟨q10, e1, e2⟩
  by_cases q9 : 65535 ≤ v
  · have e1 : ledD v = 65535 := by unfold ledD; rw [if_neg q10, if_pos q9]
    have e2 : rkD v = 9 := by unfold rkD; rw [if_neg q10, if_pos q9]
    exact Or.inr (Or.inl ⟨q9, by omega, e1, e2⟩)
  by_cases q8 : 32767 ≤ v
  · have e1 : ledD v = 32767 := by unfold ledD; rw [if_neg q10, if_neg q9, if_pos q8]
    have e2 : rkD v = 8 := by unfold rkD; rw [if_neg q10, if_neg q9, if_pos q8]
    exact Or.inr (Or.inr (Or.inl ⟨q8, by omega, e1, e2⟩))
  by_cases q7 : 255 ≤ v
  · have e1 : ledD v = 255 := by unfold ledD; rw [if_neg q10, if_neg q9, if_neg q8, if_pos q7]
    have e2 : rkD v = 7 := by unfold rkD; rw [if_neg q10, if_neg q9, if_neg q8, if_pos q7]
    exact Or.inr (Or.inr (Or.inr (Or.inl ⟨q7, by omega, e1, e2⟩)))
  by_cases q6 : 127 ≤ v
  · have e1 : ledD v = 127 := by unfold ledD; rw [if_neg q10, if_neg q9, if_neg q8, if_neg q7, if_pos q6]
    have e2 : rkD v = 6 := by unfold rkD; rw [if_neg q10, if_neg q9, if_neg q8, if_neg q7, if_pos q6]
    exact Or.inr (Or.inr (Or.inr (Or.inr (Or.inl ⟨q6, by omega, e1, e2⟩))))
  by_cases q5 : 1 ≤ v
  · have e1 : ledD v = 1 := by unfold ledD; rw [if_neg q10, if_neg q9, if_neg q8, if_neg q7, if_neg q6, if_pos q5]
    have e2 : rkD v = 5 := by unfold rkD; rw [if_neg q10, if_neg q9, if_neg q8, if_neg q7, if_neg q6, if_pos q5]
    exact Or.inr (Or.inr (Or.inr (Or.inr (Or.inr (Or.inl ⟨q5, by omega, e1, e2⟩)))))
  by_cases q4 : 0 ≤ v
  · have e1 : ledD v = 0 := by unfold ledD; rw [if_neg q10, if_neg q9, if_neg q8, if_neg q7, if_neg q6, if_neg q5, if_pos q4]
    have e2 : rkD v = 4 := by unfold rkD; rw [if_neg q10, if_neg q9, if_neg q8, if_neg q7, if_neg q6, if_neg q5, if_pos q4]
    exact Or.inr (Or.inr (Or.inr (Or.inr (Or.inr (Or.inr (Or.inl ⟨q4, by omega, e1, e2⟩))))))
  by_cases q3 : (-1) ≤ v
  · have e1 : ledD v = (-1) := by unfold ledD; rw [if_neg q10, if_neg q9, if_neg q8, if_neg q7, if_neg q6, if_neg q5, if_neg q4, if_pos q3]
    have e2 : rkD v = 3 := by unfold rkD; rw [if_neg q10, if_neg q9, if_neg q8, if_neg q7, if_neg q6, if_neg q5, if_neg q4, if_pos q3]
    exact Or.inr (Or.inr (Or.inr (Or.inr (Or.inr (Or.inr (Or.inr (Or.inl ⟨q3, by omega, e1, e2⟩)))))))
  by_cases q2 : (-128) ≤ v
  · have e1 : ledD v = (-128) := by unfold ledD; rw [if_neg q10, if_neg q9, if_neg q8, if_neg q7, if_neg q6, if_neg q5, if_neg q4, if_neg q3, if_pos q2]
    have e2 : rkD v = 2 := by unfold rkD; rw [if_neg q10, if_neg q9, if_neg q8, if_neg q7, if_neg q6, if_neg q5, if_neg q4, if_neg q3, if_pos q2]
    exact Or.inr (Or.inr (Or.inr (Or.inr (Or.inr (Or.inr (Or.inr (Or.inr (Or.inl ⟨q2, by omega, e1, e2⟩))))))))
  by_cases q1 : (-32768) ≤ v
  · have e1 : ledD v = (-32768) := by unfold ledD; rw [if_neg q10, if_neg q9, if_neg q8, if_neg q7, if_neg q6, if_neg q5, if_neg q4, if_neg q3, if_neg q2, if_pos q1]
    have e2 : rkD v = 1 := by unfold rkD; rw [if_neg q10, if_neg q9, if_neg q8, if_neg q7, if_neg q6, if_neg q5, if_neg q4, if_neg q3, if_neg q2, if_pos q1]
    exact Or.inr (Or.inr (Or.inr (Or.inr (Or.inr (Or.inr (Or.inr (Or.inr (Or.inr (Or.inl ⟨q1, by omega, e1, e2⟩)))))))))
  have e1 : ledD v = (-2147483648) := by unfold ledD; rw [if_neg q10, if_neg q9, if_neg q8, if_neg q7, if_neg q6, if_neg q5, if_neg q4, if_neg q3, if_neg q2, if_neg q1]
  have e2 : rkD v = 0 := by unfold rkD; rw [if_neg q10, if_neg q9, if_neg q8, if_neg q7, if_neg q6, if_neg q5, if_neg q4, if_neg q3, if_neg q2, if_neg q1]
  exact Or.inr (Or.inr (Or.inr (Or.inr (Or.inr (Or.inr (Or.inr (Or.inr (Or.inr (Or.inr (⟨by omega, e1, e2⟩))))))))))
theorem casU (v : Int) : (v ≤ (-2147483648) ∧ ledU v = (-2147483648) ∧ rkU v = 10) ∨ (v ≤ (-32768) ∧ (-2147483648) < v ∧ ledU v = (-32768) ∧ rkU v = 9) ∨ (v ≤ (-128) ∧ (-32768) < v ∧ ledU v = (-128) ∧ rkU v = 8) ∨ (v ≤ (-1) ∧ (-128) < v ∧ ledU v = (-1) ∧ rkU v = 7) ∨ (v ≤ 0 ∧ (-1) < v ∧ ledU v = 0 ∧ rkU v = 6) ∨ (v ≤ 1 ∧ 0 < v ∧ ledU v = 1 ∧ rkU v = 5) ∨ (v ≤ 127 ∧ 1 < v ∧ ledU v = 127 ∧ rkU v = 4) ∨ (v ≤ 255 ∧ 127 < v ∧ ledU v = 255 ∧ rkU v = 3) ∨ (v ≤ 32767 ∧ 255 < v ∧ ledU v = 32767 ∧ rkU v = 2) ∨ (v ≤ 65535 ∧ 32767 < v ∧ ledU v = 65535 ∧ rkU v = 1) ∨ (65535 < v ∧ ledU v = 2147483647 ∧ rkU v = 0) := by
  by_cases q0 : v ≤ (-2147483648)
  · have e1 : ledU v = (-2147483648) := by unfold ledU; rw [if_pos q0]
    have e2 : rkU v = 10 := by unfold rkU; rw [if_pos q0]
    exact Or.inl ⟨q0, e1, e2⟩
  by_cases q1 : v ≤ (-32768)
  · have e1 : ledU v = (-32768) := by unfold ledU; rw [if_neg q0, if_pos q1]
    have e2 : rkU v = 9 := by unfold rkU; rw [if_neg q0, if_pos q1]
    exact Or.inr (Or.inl ⟨q1, by omega, e1, e2⟩)
  by_cases q2 : v ≤ (-128)
  · have e1 : ledU v = (-128) := by unfold ledU; rw [if_neg q0, if_neg q1, if_pos q2]
    have e2 : rkU v = 8 := by unfold rkU; rw [if_neg q0, if_neg q1, if_pos q2]
    exact Or.inr (Or.inr (Or.inl ⟨q2, by omega, e1, e2⟩))
  by_cases q3 : v ≤ (-1)
  · have e1 : ledU v = (-1) := by unfold ledU; rw [if_neg q0, if_neg q1, if_neg q2, if_pos q3]
    have e2 : rkU v = 7 := by unfold rkU; rw [if_neg q0, if_neg q1, if_neg q2, if_pos q3]
    exact Or.inr (Or.inr (Or.inr (Or.inl ⟨q3, by omega, e1, e2⟩)))
  by_cases q4 : v ≤ 0
  · have e1 : ledU v = 0 := by unfold ledU; rw [if_neg q0, if_neg q1, if_neg q2, if_neg q3, if_pos q4]
    have e2 : rkU v = 6 := by unfold rkU; rw [if_neg q0, if_neg q1, if_neg q2, if_neg q3, if_pos q4]
    exact Or.inr (Or.inr (Or.inr (Or.inr (Or.inl ⟨q4, by omega, e1, e2⟩))))
  by_cases q5 : v ≤ 1
  · have e1 : ledU v = 1 := by unfold ledU; rw [if_neg q0, if_neg q1, if_neg q2, if_neg q3, if_neg q4, if_pos q5]
    have e2 : rkU v = 5 := by unfold rkU; rw [if_neg q0, if_neg q1, if_neg q2, if_neg q3, if_neg q4, if_pos q5]
    exact Or.inr (Or.inr (Or.inr (Or.inr (Or.inr (Or.inl ⟨q5, by omega, e1, e2⟩)))))
  by_cases q6 : v ≤ 127
  · have e1 : ledU v = 127 := by unfold ledU; rw [if_neg q0, if_neg q1, if_neg q2, if_neg q3, if_neg q4, if_neg q5, if_pos q6]
    have e2 : rkU v = 4 := by unfold rkU; rw [if_neg q0, if_neg q1, if_neg q2, if_neg q3, if_neg q4, if_neg q5, if_pos q6]
    exact Or.inr (Or.inr (Or.inr (Or.inr (Or.inr (Or.inr (Or.inl ⟨q6, by omega, e1, e2⟩))))))
  by_cases q7 : v ≤ 255
  · have e1 : ledU v = 255 := by unfold ledU; rw [if_neg q0, if_neg q1, if_neg q2, if_neg q3, if_neg q4, if_neg q5, if_neg q6, if_pos q7]
    have e2 : rkU v = 3 := by unfold rkU; rw [if_neg q0, if_neg q1, if_neg q2, if_neg q3, if_neg q4, if_neg q5, if_neg q6, if_pos q7]
    exact Or.inr (Or.inr (Or.inr (Or.inr (Or.inr (Or.inr (Or.inr (Or.inl ⟨q7, by omega, e1, e2⟩)))))))
  by_cases q8 : v ≤ 32767
  · have e1 : ledU v = 32767 := by unfold ledU; rw [if_neg q0, if_neg q1, if_neg q2, if_neg q3, if_neg q4, if_neg q5, if_neg q6, if_neg q7, if_pos q8]
    have e2 : rkU v = 2 := by unfold rkU; rw [if_neg q0, if_neg q1, if_neg q2, if_neg q3, if_neg q4, if_neg q5, if_neg q6, if_neg q7, if_pos q8]
    exact Or.inr (Or.inr (Or.inr (Or.inr (Or.inr (Or.inr (Or.inr (Or.inr (Or.inl ⟨q8, by omega, e1, e2⟩))))))))
  by_cases q9 : v ≤ 65535
  · have e1 : ledU v = 65535 := by unfold ledU; rw [if_neg q0, if_neg q1, if_neg q2, if_neg q3, if_neg q4, if_neg q5, if_neg q6, if_neg q7, if_neg q8, if_pos q9]
    have e2 : rkU v = 1 := by unfold rkU; rw [if_neg q0, if_neg q1, if_neg q2, if_neg q3, if_neg q4, if_neg q5, if_neg q6, if_neg q7, if_neg q8, if_pos q9]
    exact Or.inr (Or.inr (Or.inr (Or.inr (Or.inr (Or.inr (Or.inr (Or.inr (Or.inr (Or.inl ⟨q9, by omega, e1, e2⟩)))))))))
  have e1 : ledU v = 2147483647 := by unfold ledU; rw [if_neg q0, if_neg q1, if_neg q2, if_neg q3, if_neg q4, if_neg q5, if_neg q6, if_neg q7, if_neg q8, if_neg q9]
  have e2 : rkU v = 0 := by unfold rkU; rw [if_neg q0, if_neg q1, if_neg q2, if_neg q3, if_neg q4, if_neg q5, if_neg q6, if_neg q7, if_neg q8, if_neg q9]
  exact Or.inr (Or.inr (Or.inr (Or.inr (Or.inr (Or.inr (Or.inr (Or.inr (Or.inr (Or.inr (⟨by omega, e1, e2⟩))))))))))
theorem rkD_le (v : Int) : rkD v ≤ 10 := by
  have := casD v
  omega
theorem rkU_le (v : Int) : rkU v ≤ 10 := by
  have := casU v
  omega
theorem ldD_le {v : Int} (h : -2147483648 ≤ v) : ledD v ≤ v ∧ -2147483648 ≤ ledD v := by
  have := casD v
  omega
theorem ldU_le {v : Int} (h : v ≤ 2147483647) : v ≤ ledU v ∧ ledU v ≤ 2147483647 := by
  have := casU v
  omega
theorem rkD_mono {a b : Int} (h : a ≤ b) : rkD a ≤ rkD b := by
  have ca := casD a
  have cb := casD b
  rcases ca with p | p | p | p | p | p | p | p | p | p | p <;> rcases cb with q | q | q | q | q | q | q | q | q | q | q <;> omega
theorem rkU_mono {a b : Int} (h : a ≤ b) : rkU b ≤ rkU a := by
  have ca := casU a
  have cb := casU b
  rcases ca with p | p | p | p | p | p | p | p | p | p | p <;> rcases cb with q | q | q | q | q | q | q | q | q | q | q <;> omega
theorem rkD_lt {a b : Int} (h : a < ledD b) (h1 : -2147483648 ≤ a) : rkD a < rkD b := by
  have ca := casD a
  have cb := casD b
  rcases ca with p | p | p | p | p | p | p | p | p | p | p <;> rcases cb with q | q | q | q | q | q | q | q | q | q | q <;> omega
theorem rkU_lt {a b : Int} (h : ledU b < a) (h1 : a ≤ 2147483647) : rkU a < rkU b := by
  have ca := casU a
  have cb := casU b
  rcases ca with p | p | p | p | p | p | p | p | p | p | p <;> rcases cb with q | q | q | q | q | q | q | q | q | q | q <;> omega
theorem ledD_btw {a b : Int} (h1 : ledD a ≤ b) (h2 : b ≤ a) : ledD b = ledD a := by
  have ca := casD a
  have cb := casD b
  rcases ca with p | p | p | p | p | p | p | p | p | p | p <;> rcases cb with q | q | q | q | q | q | q | q | q | q | q <;> omega
theorem ledU_btw {a b : Int} (h1 : b ≤ ledU a) (h2 : a ≤ b) : ledU b = ledU a := by
  have ca := casU a
  have cb := casU b
  rcases ca with p | p | p | p | p | p | p | p | p | p | p <;> rcases cb with q | q | q | q | q | q | q | q | q | q | q <;> omega
/-- how often a stride can still fall -/
def nuS (s : Int) : Nat := if s = 0 then 32 else Nat.log2 s.toNat
def dlD (x : Sp) : Nat := 2 * rkD x.1 + (if x.1 < ledD x.1 + x.2.2 then 0 else 1)
def dlU (x : Sp) : Nat := 2 * rkU x.2.1 + (if ledU x.2.1 - x.2.2 < x.2.1 then 0 else 1)
def phiS (x : Sp) : Nat := 3 * nuS x.2.2 + dlD x + dlU x
theorem nuS_le {s : Int} (h0 : 0 ≤ s) (h : s < 4294967296) : nuS s ≤ 32 := by
  unfold nuS
  split
  · omega
  · have := (Nat.log2_lt (n := s.toNat) (k := 32) (by omega)).mpr (by omega)
    omega
theorem phi_le {x : Sp} (h : okS x) : phiS x ≤ 138 := by
  have a := rkD_le x.1
  have b := rkU_le x.2.1
  have c := nuS_le h.2.2.2.1 (by have := h.st; obtain ⟨h1, h2, h3, -⟩ := h; omega)
  unfold phiS dlD dlU
  split <;> split <;> omega
theorem nu_dvd {s t : Int} (hs : 0 ≤ s) (ht : 0 < t) (ht2 : t < 4294967296) (hd : t ∣ s) (hn : t ≠ s) : nuS t + 1 ≤ nuS s := by
  unfold nuS
  rw [if_neg (by omega)]
  split
  · have := (Nat.log2_lt (n := t.toNat) (k := 32) (by omega)).mpr (by omega)
    omega
  · obtain ⟨k, hk⟩ := hd
    have hk2 : 2 ≤ k := by
      rcases Int.lt_or_le k 2 with z | z
      · exfalso
        rcases Int.lt_or_le k 1 with z1 | z1
        · have := Int.mul_le_mul_of_nonneg_left (show k ≤ 0 by omega) (Int.le_of_lt ht)
          omega
        · have : k = 1 := by omega
          subst this
          omega
      · exact z
    have h2 : 2 * t ≤ s := by
      have := Int.mul_le_mul_of_nonneg_left hk2 (Int.le_of_lt ht)
      omega
    have h3 : Nat.log2 t.toNat + 1 ≤ Nat.log2 s.toNat := by
      rw [Nat.le_log2 (by omega), Nat.pow_succ]
      have := Nat.log2_self_le (n := t.toNat) (by omega)
      omega
    exact h3
/-- ends that move on -/
theorem mov_lo {x : Sp} (h : okS x) (l : Int) : (movS x l 0).1 ≤ x.1 ∧ ledD x.1 ≤ (movS x l 0).1 ∧ x.2.2 ∣ x.1 - (movS x l 0).1 ∧ (x.1 < l → 0 < x.2.2 → (movS x l 0).1 < ledD x.1 + x.2.2) := by
  have k := ldD_le h.1
  unfold movS
  simp only
  split
  · rename_i q
    by_cases h0 : x.2.2 = 0
    · rw [h0, Int.ediv_zero]
      simp
      omega
    · have hs : 0 < x.2.2 := by have := h.2.2.2.1; omega
      have m1 := Int.emod_nonneg (x.1 - ledD x.1) h0
      have m2 := Int.emod_lt_of_pos (x.1 - ledD x.1) hs
      have m3 := Int.mul_ediv_add_emod (x.1 - ledD x.1) x.2.2
      have m4 := Int.mul_nonneg h.2.2.2.1 (Int.ediv_nonneg (show 0 ≤ x.1 - ledD x.1 by omega) h.2.2.2.1)
      rw [Int.mul_comm ((x.1 - ledD x.1) / x.2.2)]
      exact ⟨by omega, by omega, ⟨(x.1 - ledD x.1) / x.2.2, by omega⟩, fun _ _ => by omega⟩
  · rename_i q
    exact ⟨by omega, k.1, by simp, fun z => absurd z q⟩
theorem mov_hi {x : Sp} (h : okS x) (u : Int) : x.2.1 ≤ (movS x 0 u).2.1 ∧ (movS x 0 u).2.1 ≤ ledU x.2.1 ∧ x.2.2 ∣ (movS x 0 u).2.1 - x.2.1 ∧ (u < x.2.1 → 0 < x.2.2 → ledU x.2.1 - x.2.2 < (movS x 0 u).2.1) := by
  have k := ldU_le h.2.2.1
  unfold movS
  simp only
  split
  · rename_i q
    by_cases h0 : x.2.2 = 0
    · rw [h0, Int.ediv_zero]
      simp
      omega
    · have hs : 0 < x.2.2 := by have := h.2.2.2.1; omega
      have m1 := Int.emod_nonneg (ledU x.2.1 - x.2.1) h0
      have m2 := Int.emod_lt_of_pos (ledU x.2.1 - x.2.1) hs
      have m3 := Int.mul_ediv_add_emod (ledU x.2.1 - x.2.1) x.2.2
      have m4 := Int.mul_nonneg h.2.2.2.1 (Int.ediv_nonneg (show 0 ≤ ledU x.2.1 - x.2.1 by omega) h.2.2.2.1)
      rw [Int.mul_comm ((ledU x.2.1 - x.2.1) / x.2.2)]
      exact ⟨by omega, by omega, ⟨(ledU x.2.1 - x.2.1) / x.2.2, by omega⟩, fun _ _ => by omega⟩
  · rename_i q
    exact ⟨by omega, k.1, by simp, fun z => absurd z q⟩
theorem mov_1 (x : Sp) (l u : Int) : (movS x l u).1 = (movS x l 0).1 := rfl
theorem mov_2 (x : Sp) (l u : Int) : (movS x l u).2.1 = (movS x 0 u).2.1 := rfl
theorem mov_3 (x : Sp) (l u : Int) : (movS x l u).2.2 = x.2.2 := rfl
theorem mov_ok {x : Sp} (h : okS x) (l u : Int) : okS (movS x l u) := by
  have a := mov_lo h l
  have b := mov_hi h u
  have hz := fun q => h.z q
  have k1 := ldD_le h.1
  have k2 := ldU_le h.2.2.1
  obtain ⟨h1, h2, h3, h4, h5, h6⟩ := id h
  refine ⟨?_, ?_, ?_, h4, ?_, ?_⟩
  · rw [mov_1]; omega
  · rw [mov_1, mov_2]; omega
  · rw [mov_2]; omega
  · rw [mov_1, mov_2, mov_3]
    intro e
    exact h5 (by omega)
  · rw [mov_1, mov_2, mov_3]
    have := Int.dvd_add (Int.dvd_add a.2.2.1 h6) b.2.2.1
    rwa [show x.1 - (movS x l 0).1 + (x.2.1 - x.1) + ((movS x 0 u).2.1 - x.2.1) = (movS x 0 u).2.1 - (movS x l 0).1 by omega] at this
theorem mov_cov {x : Sp} (h : okS x) (l u : Int) : covS (movS x l u) x = true := by
  have a := mov_lo h l
  have b := mov_hi h u
  rw [covS_iff, mov_1, mov_2, mov_3]
  exact ⟨a.1, b.1, Or.inr ⟨a.2.2.1, Int.dvd_refl _⟩⟩
/-- the end that moves on does not come over 0 -/
theorem mov_neg {x : Sp} (h : okS x) (l u : Int) (hn : x.2.1 < 0) : (movS x l u).2.1 < 0 := by
  have b := mov_hi h u
  rw [mov_2]
  have : ledU x.2.1 ≤ -1 := by
    unfold ledU
    repeat' split
    all_goals omega
  omega
theorem dl_D {x z : Sp} (hx : okS x) (hz : okS z) (h1 : z.1 ≤ x.1) (e : z.2.2 = x.2.2) (hd : x.2.2 ∣ x.1 - z.1) : dlD z ≤ dlD x := by
  have m := rkD_mono h1
  unfold dlD
  by_cases q : x.1 < ledD x.1 + x.2.2
  · rw [if_pos q]
    by_cases q2 : z.1 = x.1
    · rw [q2, e, if_pos q]
      omega
    · have hs : 0 < x.2.2 := by have := ldD_le hx.1; omega
      have : x.2.2 ≤ x.1 - z.1 := Int.le_of_dvd (by omega) hd
      have r := rkD_lt (a := z.1) (b := x.1) (by omega) hz.1
      split <;> omega
  · rw [if_neg q]
    split <;> omega
theorem dl_U {x z : Sp} (hx : okS x) (hz : okS z) (h1 : x.2.1 ≤ z.2.1) (e : z.2.2 = x.2.2) (hd : x.2.2 ∣ z.2.1 - x.2.1) : dlU z ≤ dlU x := by
  have m := rkU_mono h1
  unfold dlU
  by_cases q : ledU x.2.1 - x.2.2 < x.2.1
  · rw [if_pos q]
    by_cases q2 : z.2.1 = x.2.1
    · rw [q2, e, if_pos q]
      omega
    · have hs : 0 < x.2.2 := by have := ldU_le hx.2.2.1; omega
      have : x.2.2 ≤ z.2.1 - x.2.1 := Int.le_of_dvd (by omega) hd
      have r := rkU_lt (a := z.2.1) (b := x.2.1) (by omega) hz.2.2.1
      split <;> omega
  · rw [if_neg q]
    split <;> omega
/-- a span that covers another weighs no more -/
theorem phi_cov {x z : Sp} (hx : okS x) (hz : okS z) (h : covS z x = true) : phiS z ≤ phiS x := by
  rw [covS_iff] at h
  obtain ⟨a1, a2, a3⟩ := h
  have zz := fun q => hz.z q
  have xz := fun q => hx.z q
  obtain ⟨h1, h2, h3, h4, h5, h6⟩ := id hx
  obtain ⟨w1, w2, w3, w4, w5, w6⟩ := id hz
  have hst := hz.st
  by_cases e : z.2.2 = x.2.2
  · have d1 : x.2.2 ∣ x.1 - z.1 := by
      rcases a3 with q | q
      · have := zz q
        rw [show x.1 - z.1 = 0 by omega]; simp
      · rw [← e]; exact q.1
    have d2 : x.2.2 ∣ z.2.1 - x.2.1 := by
      have t := Int.dvd_sub (by rw [e] at w6; exact w6) (Int.dvd_add d1 h6)
      rwa [show z.2.1 - z.1 - (x.1 - z.1 + (x.2.1 - x.1)) = z.2.1 - x.2.1 by omega] at t
    have := dl_D hx hz a1 e d1
    have := dl_U hx hz a2 e d2
    unfold phiS
    rw [e]
    omega
  · have hzn : z.2.2 ≠ 0 := by
      intro q
      have := zz q
      have := h5 (by omega)
      omega
    have hd := (a3.resolve_left hzn).2
    have := nu_dvd (s := x.2.2) (t := z.2.2) h4 (by omega) (by omega) hd e
    have m1 := rkD_mono a1
    have m2 := rkU_mono a2
    unfold phiS dlD dlU
    repeat' split
    all_goals omega
/-- and one that has moved on weighs less -/
theorem phi_mov {x y : Sp} (hx : okS x) (hy : okS y) (hc : covS x y = false) : phiS (movS (bothS x y) x.1 x.2.1) + 1 ≤ phiS x := by
  have hb := both_ok hx hy
  have bc := (both_cov (x := x) (y := y)).1
  have hm := mov_ok hb x.1 x.2.1
  have ne : bothS x y ≠ x := fun e => by rw [(both_eq hx hy).mp e] at hc; cases hc
  have l1 : (bothS x y).1 ≤ x.1 := by simp only [bothS]; omega
  have u1 : x.2.1 ≤ (bothS x y).2.1 := by simp only [bothS]; omega
  have L := mov_lo hb x.1
  have U := mov_hi hb x.2.1
  generalize bothS x y = b at *
  rw [covS_iff] at bc
  obtain ⟨a1, a2, a3⟩ := bc
  have zz := fun q => hb.z q
  obtain ⟨h1, h2, h3, h4, h5, h6⟩ := id hx
  obtain ⟨w1, w2, w3, w4, w5, w6⟩ := id hb
  have hst := hb.st
  by_cases e : b.2.2 = x.2.2
  · have d1 : x.2.2 ∣ x.1 - b.1 := by
      rcases a3 with q | q
      · have := zz q
        rw [show x.1 - b.1 = 0 by omega]; simp
      · rw [← e]; exact q.1
    have d2 : x.2.2 ∣ b.2.1 - x.2.1 := by
      have t := Int.dvd_sub (by rw [e] at w6; exact w6) (Int.dvd_add d1 h6)
      rwa [show b.2.1 - b.1 - (x.1 - b.1 + (x.2.1 - x.1)) = b.2.1 - x.2.1 by omega] at t
    have s0 : 0 < x.2.2 := by
      rcases Int.lt_or_eq_of_le h4 with z | z
      · exact z
      · exfalso
        have q1 := zz (by omega)
        have q2 := hx.z z.symm
        exact ne (Prod.ext (by omega) (Prod.ext (by omega) e))
    have dD : x.1 - (movS b x.1 x.2.1).1 = x.1 - b.1 + (b.1 - (movS b x.1 0).1) := by rw [mov_1]; omega
    have dU : (movS b x.1 x.2.1).2.1 - x.2.1 = b.2.1 - x.2.1 + ((movS b 0 x.2.1).2.1 - b.2.1) := by rw [mov_2]; omega
    have A := dl_D hx hm (by rw [mov_1]; omega) (by rw [mov_3]; exact e) (by rw [dD]; exact Int.dvd_add d1 (by rw [← e]; exact L.2.2.1))
    have B := dl_U hx hm (by rw [mov_2]; omega) (by rw [mov_3]; exact e) (by rw [dU]; exact Int.dvd_add d2 (by rw [← e]; exact U.2.2.1))
    have key : b.1 < x.1 ∨ x.2.1 < b.2.1 := by
      rcases Int.lt_or_eq_of_le l1 with z | z
      · exact Or.inl z
      · rcases Int.lt_or_eq_of_le u1 with z2 | z2
        · exact Or.inr z2
        · exact absurd (Prod.ext z (Prod.ext z2.symm e)) ne
    unfold phiS
    rw [mov_3, e]
    rcases key with z | z
    · have hle := L.2.2.2 z (by omega)
      have eq1 := ledD_btw L.2.1 L.1
      have : dlD (movS b x.1 x.2.1) + 1 ≤ dlD x := by
        unfold dlD
        rw [mov_1, mov_3, if_pos (show (movS b x.1 0).1 < ledD (movS b x.1 0).1 + b.2.2 by omega)]
        have m1 := rkD_mono (show (movS b x.1 0).1 ≤ x.1 by omega)
        by_cases q : x.1 < ledD x.1 + x.2.2
        · rw [if_pos q]
          have : x.2.2 ≤ x.1 - b.1 := Int.le_of_dvd (by omega) d1
          have r := rkD_lt (a := (movS b x.1 0).1) (b := x.1) (by omega) (by have := hm.1; rw [mov_1] at this; exact this)
          omega
        · rw [if_neg q]
          omega
      omega
    · have hle := U.2.2.2 z (by omega)
      have eq1 := ledU_btw U.2.1 U.1
      have : dlU (movS b x.1 x.2.1) + 1 ≤ dlU x := by
        unfold dlU
        rw [mov_2, mov_3, if_pos (show ledU (movS b 0 x.2.1).2.1 - b.2.2 < (movS b 0 x.2.1).2.1 by omega)]
        have m1 := rkU_mono (show x.2.1 ≤ (movS b 0 x.2.1).2.1 by omega)
        by_cases q : ledU x.2.1 - x.2.2 < x.2.1
        · rw [if_pos q]
          have : x.2.2 ≤ b.2.1 - x.2.1 := Int.le_of_dvd (by omega) d2
          have r := rkU_lt (a := (movS b 0 x.2.1).2.1) (b := x.2.1) (by omega) (by have := hm.2.2.1; rw [mov_2] at this; exact this)
          omega
        · rw [if_neg q]
          omega
      omega
  · have hzn : b.2.2 ≠ 0 := by
      intro q
      have := zz q
      have := h5 (by omega)
      omega
    have hd := (a3.resolve_left hzn).2
    have := nu_dvd (s := x.2.2) (t := b.2.2) h4 (by omega) (by omega) hd e
    have m1 := rkD_mono (show (movS b x.1 x.2.1).1 ≤ x.1 by rw [mov_1]; omega)
    have m2 := rkU_mono (show x.2.1 ≤ (movS b x.1 x.2.1).2.1 by rw [mov_2]; omega)
    unfold phiS dlD dlU
    rw [mov_3]
    repeat' split
    all_goals omega
end PURE3
