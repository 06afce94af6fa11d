-- needs: 89.51
section RN3
variable {l : Launch} {V : gi_V} {n : Nat} {h h' : gi_H} {M : Nat} {S S' : Nat → Int32} {J J' : Nat → Int64} {F : Nat → Nat → Int32} {G : Nat → Nat → Int64}
theorem tdv_p {a b : Int} (h : 0 ≤ a) : a.tdiv b = a / b := Int.tdiv_eq_ediv_of_nonneg h
theorem tdv_0 {a b : Int} (hb : 0 < b) (h : a.tmod b = 0) : a.tdiv b = a / b := by
  have d : b ∣ a := Int.dvd_of_tmod_eq_zero h
  exact Int.tdiv_eq_ediv_of_dvd d
theorem tdv_n {a b : Int} (hb : 0 < b) (ha : a < 0) (h : a.tmod b ≠ 0) : a.tdiv b - 1 = a / b := by
  have e := Int.tdiv_eq_ediv (a := a) (b := b)
  rw [if_neg (by
    rintro (q | q)
    · omega
    · exact h (Int.tmod_eq_zero_of_dvd q)), Int.sign_eq_one_of_pos hb] at e
  omega
theorem tmd_n {a b : Int} (hb : 0 < b) : a % b = if a.tmod b < 0 then a.tmod b + b else a.tmod b := by
  have e := Int.tmod_eq_emod (a := a) (b := b)
  have e1 := Int.emod_nonneg a (show b ≠ 0 by omega)
  have e2 := Int.emod_lt_of_pos a hb
  split at e
  · rw [if_neg (by omega)]
    omega
  · rename_i q
    have e3 : (b.natAbs : Int) = b := by omega
    rw [e3] at e
    rw [if_pos (by omega)]
    omega
set_option maxHeartbeats 4000000 in
set_option maxRecDepth 100000 in
theorem c_Mo_floor (a b : Int) (a1 : -9223372036854775808 < a) (a2 : a < 9223372036854775808) (b1 : 0 < b) (b2 : b < 9223372036854775808) : gi_T l V y_Mo_floor b_Mo_floor 6 (some .long) 0 0 0 0 [.long (eL a), .long (eL b)] n h (gi_is (some (.long (eL (a / b)))) n h) := by
  refine gi_enter (by decide) (Nat.le_of_ble_eq_true rfl) ?_
  intro _ _ _ _ _ _ _ _ C hr hnm
  refine gi_lload_n (q := 1) (i := 0) C (dm_Mo_floor 0 rfl) rfl rfl rfl ?_
  refine gi_lload_n (q := 2) (i := 2) C (dm_Mo_floor 1 rfl) rfl rfl rfl ?_
  refine gi_ldiv (q := 3) C (dm_Mo_floor 2 rfl) rfl (fun q => absurd ((eL_eq (by omega) (by omega) (by omega) (by omega)).mp (q.trans eL_0)) (by omega)) ?_
  refine gi_lstore (q := 5) C (dm_Mo_floor 3 rfl) rfl (Nat.le_of_ble_eq_true rfl) ?_
  refine gi_lload_n (q := 6) (i := 0) C (dm_Mo_floor 4 rfl) rfl rfl rfl ?_
  refine gi_lload_n (q := 7) (i := 2) C (dm_Mo_floor 5 rfl) rfl rfl rfl ?_
  refine gi_lrem (q := 8) C (dm_Mo_floor 6 rfl) rfl (fun q => absurd ((eL_eq (by omega) (by omega) (by omega) (by omega)).mp (q.trans eL_0)) (by omega)) ?_
  refine gi_lconst (q := 9) (v := 0) C (dm_Mo_floor 7 rfl) rfl (by decide) ?_
  refine gi_lcmp (q := 10) C (dm_Mo_floor 8 rfl) rfl ?_
  refine gi_if_eq (q := 13) (tgt := 45) C (dm_Mo_floor 9 rfl) rfl (by decide) (fun c10 => ?_) (fun c10 => ?_)
  · refine gi_lload (q := 47) C (dm_Mo_floor 29 rfl) rfl rfl ?_
    refine gi_lret C hr (dm_Mo_floor 30 rfl) ?_
    have tb : -9223372036854775808 < a.tmod b ∧ a.tmod b < 9223372036854775808 := by
      have t1 := Int.tmod_lt_of_pos a b1
      have t2 := Int.lt_tmod_of_pos a b1
      omega
    rw [eL_rem a1 a2 (by omega) b2] at c10
    rw [eL_div a1 a2 (by omega) b2]
    (try simp (disch := omega) only [lg_cmp_ge, lg_cmp_le, lg_cmp_gt, lg_cmp_lt, lg_cmp_eq, eL_0, eL_1, eL_m1, eL_LO, eL_HI, eL_W, eL_add, eL_sub, eL_mul, eL_neg, eL_lt, eL_le, eL_eq, eL_remN, eL_mod0, ne_eq, Int64.not_lt, Int64.not_le] at c10)
    refine ⟨?_, rfl, rfl⟩
    first
      | (rw [tdv_0 b1 (by omega)]; done)
      | (rw [tdv_p (by omega)]; done)
      | (rw [eL_1, eL_sub, tdv_n b1 (by omega) (by omega)]; done)
      | exact absurd c35 (by decide)
      | exact absurd rfl c35
  · refine gi_lload_n (q := 14) (i := 0) C (dm_Mo_floor 10 rfl) rfl rfl rfl ?_
    refine gi_lconst (q := 15) (v := 0) C (dm_Mo_floor 11 rfl) rfl (by decide) ?_
    refine gi_lcmp (q := 16) C (dm_Mo_floor 12 rfl) rfl ?_
    refine gi_if_ge (q := 19) (tgt := 23) C (dm_Mo_floor 13 rfl) rfl (by decide) (fun c16 => ?_) (fun c16 => ?_)
    · refine gi_iconst (q := 24) (v := 0) C (dm_Mo_floor 16 rfl) rfl (by decide) ?_
      refine gi_lload_n (q := 25) (i := 2) C (dm_Mo_floor 17 rfl) rfl rfl rfl ?_
      refine gi_lconst (q := 26) (v := 0) C (dm_Mo_floor 18 rfl) rfl (by decide) ?_
      refine gi_lcmp (q := 27) C (dm_Mo_floor 19 rfl) rfl ?_
      refine gi_if_ge (q := 30) (tgt := 34) C (dm_Mo_floor 20 rfl) rfl (by decide) (fun c27 => ?_) (fun c27 => ?_)
      · refine gi_iconst (q := 35) (v := 0) C (dm_Mo_floor 23 rfl) rfl (by decide) ?_
        refine gi_icmp_eq (q := 38) (tgt := 45) C (dm_Mo_floor 24 rfl) rfl (by decide) (fun c35 => ?_) (fun c35 => ?_)
        · refine gi_lload (q := 47) C (dm_Mo_floor 29 rfl) rfl rfl ?_
          refine gi_lret C hr (dm_Mo_floor 30 rfl) ?_
          have tb : -9223372036854775808 < a.tmod b ∧ a.tmod b < 9223372036854775808 := by
            have t1 := Int.tmod_lt_of_pos a b1
            have t2 := Int.lt_tmod_of_pos a b1
            omega
          rw [eL_rem a1 a2 (by omega) b2] at c10
          rw [eL_div a1 a2 (by omega) b2]
          (try simp (disch := omega) only [lg_cmp_ge, lg_cmp_le, lg_cmp_gt, lg_cmp_lt, lg_cmp_eq, eL_0, eL_1, eL_m1, eL_LO, eL_HI, eL_W, eL_add, eL_sub, eL_mul, eL_neg, eL_lt, eL_le, eL_eq, eL_remN, eL_mod0, ne_eq, Int64.not_lt, Int64.not_le] at c10)
          (try simp (disch := omega) only [lg_cmp_ge, lg_cmp_le, lg_cmp_gt, lg_cmp_lt, lg_cmp_eq, eL_0, eL_1, eL_m1, eL_LO, eL_HI, eL_W, eL_add, eL_sub, eL_mul, eL_neg, eL_lt, eL_le, eL_eq, eL_remN, eL_mod0, ne_eq, Int64.not_lt, Int64.not_le] at c16)
          (try simp (disch := omega) only [lg_cmp_ge, lg_cmp_le, lg_cmp_gt, lg_cmp_lt, lg_cmp_eq, eL_0, eL_1, eL_m1, eL_LO, eL_HI, eL_W, eL_add, eL_sub, eL_mul, eL_neg, eL_lt, eL_le, eL_eq, eL_remN, eL_mod0, ne_eq, Int64.not_lt, Int64.not_le] at c27)
          (try simp (disch := omega) only [lg_cmp_ge, lg_cmp_le, lg_cmp_gt, lg_cmp_lt, lg_cmp_eq, eL_0, eL_1, eL_m1, eL_LO, eL_HI, eL_W, eL_add, eL_sub, eL_mul, eL_neg, eL_lt, eL_le, eL_eq, eL_remN, eL_mod0, ne_eq, Int64.not_lt, Int64.not_le] at c35)
          refine ⟨?_, rfl, rfl⟩
          first
            | (rw [tdv_0 b1 (by omega)]; done)
            | (rw [tdv_p (by omega)]; done)
            | (rw [eL_1, eL_sub, tdv_n b1 (by omega) (by omega)]; done)
            | exact absurd c35 (by decide)
            | exact absurd rfl c35
        · refine gi_lload (q := 40) C (dm_Mo_floor 25 rfl) rfl rfl ?_
          refine gi_lconst (q := 41) (v := 1) C (dm_Mo_floor 26 rfl) rfl (by decide) ?_
          refine gi_lsub (q := 42) C (dm_Mo_floor 27 rfl) rfl ?_
          refine gi_goto (tgt := 47) C (dm_Mo_floor 28 rfl) (by decide) ?_
          refine gi_lret C hr (dm_Mo_floor 30 rfl) ?_
          have tb : -9223372036854775808 < a.tmod b ∧ a.tmod b < 9223372036854775808 := by
            have t1 := Int.tmod_lt_of_pos a b1
            have t2 := Int.lt_tmod_of_pos a b1
            omega
          rw [eL_rem a1 a2 (by omega) b2] at c10
          rw [eL_div a1 a2 (by omega) b2]
          (try simp (disch := omega) only [lg_cmp_ge, lg_cmp_le, lg_cmp_gt, lg_cmp_lt, lg_cmp_eq, eL_0, eL_1, eL_m1, eL_LO, eL_HI, eL_W, eL_add, eL_sub, eL_mul, eL_neg, eL_lt, eL_le, eL_eq, eL_remN, eL_mod0, ne_eq, Int64.not_lt, Int64.not_le] at c10)
          (try simp (disch := omega) only [lg_cmp_ge, lg_cmp_le, lg_cmp_gt, lg_cmp_lt, lg_cmp_eq, eL_0, eL_1, eL_m1, eL_LO, eL_HI, eL_W, eL_add, eL_sub, eL_mul, eL_neg, eL_lt, eL_le, eL_eq, eL_remN, eL_mod0, ne_eq, Int64.not_lt, Int64.not_le] at c16)
          (try simp (disch := omega) only [lg_cmp_ge, lg_cmp_le, lg_cmp_gt, lg_cmp_lt, lg_cmp_eq, eL_0, eL_1, eL_m1, eL_LO, eL_HI, eL_W, eL_add, eL_sub, eL_mul, eL_neg, eL_lt, eL_le, eL_eq, eL_remN, eL_mod0, ne_eq, Int64.not_lt, Int64.not_le] at c27)
          (try simp (disch := omega) only [lg_cmp_ge, lg_cmp_le, lg_cmp_gt, lg_cmp_lt, lg_cmp_eq, eL_0, eL_1, eL_m1, eL_LO, eL_HI, eL_W, eL_add, eL_sub, eL_mul, eL_neg, eL_lt, eL_le, eL_eq, eL_remN, eL_mod0, ne_eq, Int64.not_lt, Int64.not_le] at c35)
          refine ⟨?_, rfl, rfl⟩
          first
            | (rw [tdv_0 b1 (by omega)]; done)
            | (rw [tdv_p (by omega)]; done)
            | (rw [eL_1, eL_sub, tdv_n b1 (by omega) (by omega)]; done)
            | exact absurd c35 (by decide)
            | exact absurd rfl c35
      · refine gi_iconst (q := 31) (v := 1) C (dm_Mo_floor 21 rfl) rfl (by decide) ?_
        refine gi_goto (tgt := 35) C (dm_Mo_floor 22 rfl) (by decide) ?_
        refine gi_icmp_eq (q := 38) (tgt := 45) C (dm_Mo_floor 24 rfl) rfl (by decide) (fun c35 => ?_) (fun c35 => ?_)
        · refine gi_lload (q := 47) C (dm_Mo_floor 29 rfl) rfl rfl ?_
          refine gi_lret C hr (dm_Mo_floor 30 rfl) ?_
          have tb : -9223372036854775808 < a.tmod b ∧ a.tmod b < 9223372036854775808 := by
            have t1 := Int.tmod_lt_of_pos a b1
            have t2 := Int.lt_tmod_of_pos a b1
            omega
          rw [eL_rem a1 a2 (by omega) b2] at c10
          rw [eL_div a1 a2 (by omega) b2]
          (try simp (disch := omega) only [lg_cmp_ge, lg_cmp_le, lg_cmp_gt, lg_cmp_lt, lg_cmp_eq, eL_0, eL_1, eL_m1, eL_LO, eL_HI, eL_W, eL_add, eL_sub, eL_mul, eL_neg, eL_lt, eL_le, eL_eq, eL_remN, eL_mod0, ne_eq, Int64.not_lt, Int64.not_le] at c10)
          (try simp (disch := omega) only [lg_cmp_ge, lg_cmp_le, lg_cmp_gt, lg_cmp_lt, lg_cmp_eq, eL_0, eL_1, eL_m1, eL_LO, eL_HI, eL_W, eL_add, eL_sub, eL_mul, eL_neg, eL_lt, eL_le, eL_eq, eL_remN, eL_mod0, ne_eq, Int64.not_lt, Int64.not_le] at c16)
          (try simp (disch := omega) only [lg_cmp_ge, lg_cmp_le, lg_cmp_gt, lg_cmp_lt, lg_cmp_eq, eL_0, eL_1, eL_m1, eL_LO, eL_HI, eL_W, eL_add, eL_sub, eL_mul, eL_neg, eL_lt, eL_le, eL_eq, eL_remN, eL_mod0, ne_eq, Int64.not_lt, Int64.not_le] at c27)
          (try simp (disch := omega) only [lg_cmp_ge, lg_cmp_le, lg_cmp_gt, lg_cmp_lt, lg_cmp_eq, eL_0, eL_1, eL_m1, eL_LO, eL_HI, eL_W, eL_add, eL_sub, eL_mul, eL_neg, eL_lt, eL_le, eL_eq, eL_remN, eL_mod0, ne_eq, Int64.not_lt, Int64.not_le] at c35)
          refine ⟨?_, rfl, rfl⟩
          first
            | (rw [tdv_0 b1 (by omega)]; done)
            | (rw [tdv_p (by omega)]; done)
            | (rw [eL_1, eL_sub, tdv_n b1 (by omega) (by omega)]; done)
            | exact absurd c35 (by decide)
            | exact absurd rfl c35
        · refine gi_lload (q := 40) C (dm_Mo_floor 25 rfl) rfl rfl ?_
          refine gi_lconst (q := 41) (v := 1) C (dm_Mo_floor 26 rfl) rfl (by decide) ?_
          refine gi_lsub (q := 42) C (dm_Mo_floor 27 rfl) rfl ?_
          refine gi_goto (tgt := 47) C (dm_Mo_floor 28 rfl) (by decide) ?_
          refine gi_lret C hr (dm_Mo_floor 30 rfl) ?_
          have tb : -9223372036854775808 < a.tmod b ∧ a.tmod b < 9223372036854775808 := by
            have t1 := Int.tmod_lt_of_pos a b1
            have t2 := Int.lt_tmod_of_pos a b1
            omega
          rw [eL_rem a1 a2 (by omega) b2] at c10
          rw [eL_div a1 a2 (by omega) b2]
          (try simp (disch := omega) only [lg_cmp_ge, lg_cmp_le, lg_cmp_gt, lg_cmp_lt, lg_cmp_eq, eL_0, eL_1, eL_m1, eL_LO, eL_HI, eL_W, eL_add, eL_sub, eL_mul, eL_neg, eL_lt, eL_le, eL_eq, eL_remN, eL_mod0, ne_eq, Int64.not_lt, Int64.not_le] at c10)
          (try simp (disch := omega) only [lg_cmp_ge, lg_cmp_le, lg_cmp_gt, lg_cmp_lt, lg_cmp_eq, eL_0, eL_1, eL_m1, eL_LO, eL_HI, eL_W, eL_add, eL_sub, eL_mul, eL_neg, eL_lt, eL_le, eL_eq, eL_remN, eL_mod0, ne_eq, Int64.not_lt, Int64.not_le] at c16)
          (try simp (disch := omega) only [lg_cmp_ge, lg_cmp_le, lg_cmp_gt, lg_cmp_lt, lg_cmp_eq, eL_0, eL_1, eL_m1, eL_LO, eL_HI, eL_W, eL_add, eL_sub, eL_mul, eL_neg, eL_lt, eL_le, eL_eq, eL_remN, eL_mod0, ne_eq, Int64.not_lt, Int64.not_le] at c27)
          (try simp (disch := omega) only [lg_cmp_ge, lg_cmp_le, lg_cmp_gt, lg_cmp_lt, lg_cmp_eq, eL_0, eL_1, eL_m1, eL_LO, eL_HI, eL_W, eL_add, eL_sub, eL_mul, eL_neg, eL_lt, eL_le, eL_eq, eL_remN, eL_mod0, ne_eq, Int64.not_lt, Int64.not_le] at c35)
          refine ⟨?_, rfl, rfl⟩
          first
            | (rw [tdv_0 b1 (by omega)]; done)
            | (rw [tdv_p (by omega)]; done)
            | (rw [eL_1, eL_sub, tdv_n b1 (by omega) (by omega)]; done)
            | exact absurd c35 (by decide)
            | exact absurd rfl c35
    · refine gi_iconst (q := 20) (v := 1) C (dm_Mo_floor 14 rfl) rfl (by decide) ?_
      refine gi_goto (tgt := 24) C (dm_Mo_floor 15 rfl) (by decide) ?_
      refine gi_lload_n (q := 25) (i := 2) C (dm_Mo_floor 17 rfl) rfl rfl rfl ?_
      refine gi_lconst (q := 26) (v := 0) C (dm_Mo_floor 18 rfl) rfl (by decide) ?_
      refine gi_lcmp (q := 27) C (dm_Mo_floor 19 rfl) rfl ?_
      refine gi_if_ge (q := 30) (tgt := 34) C (dm_Mo_floor 20 rfl) rfl (by decide) (fun c27 => ?_) (fun c27 => ?_)
      · refine gi_iconst (q := 35) (v := 0) C (dm_Mo_floor 23 rfl) rfl (by decide) ?_
        refine gi_icmp_eq (q := 38) (tgt := 45) C (dm_Mo_floor 24 rfl) rfl (by decide) (fun c35 => ?_) (fun c35 => ?_)
        · refine gi_lload (q := 47) C (dm_Mo_floor 29 rfl) rfl rfl ?_
          refine gi_lret C hr (dm_Mo_floor 30 rfl) ?_
          have tb : -9223372036854775808 < a.tmod b ∧ a.tmod b < 9223372036854775808 := by
            have t1 := Int.tmod_lt_of_pos a b1
            have t2 := Int.lt_tmod_of_pos a b1
            omega
          rw [eL_rem a1 a2 (by omega) b2] at c10
          rw [eL_div a1 a2 (by omega) b2]
          (try simp (disch := omega) only [lg_cmp_ge, lg_cmp_le, lg_cmp_gt, lg_cmp_lt, lg_cmp_eq, eL_0, eL_1, eL_m1, eL_LO, eL_HI, eL_W, eL_add, eL_sub, eL_mul, eL_neg, eL_lt, eL_le, eL_eq, eL_remN, eL_mod0, ne_eq, Int64.not_lt, Int64.not_le] at c10)
          (try simp (disch := omega) only [lg_cmp_ge, lg_cmp_le, lg_cmp_gt, lg_cmp_lt, lg_cmp_eq, eL_0, eL_1, eL_m1, eL_LO, eL_HI, eL_W, eL_add, eL_sub, eL_mul, eL_neg, eL_lt, eL_le, eL_eq, eL_remN, eL_mod0, ne_eq, Int64.not_lt, Int64.not_le] at c16)
          (try simp (disch := omega) only [lg_cmp_ge, lg_cmp_le, lg_cmp_gt, lg_cmp_lt, lg_cmp_eq, eL_0, eL_1, eL_m1, eL_LO, eL_HI, eL_W, eL_add, eL_sub, eL_mul, eL_neg, eL_lt, eL_le, eL_eq, eL_remN, eL_mod0, ne_eq, Int64.not_lt, Int64.not_le] at c27)
          (try simp (disch := omega) only [lg_cmp_ge, lg_cmp_le, lg_cmp_gt, lg_cmp_lt, lg_cmp_eq, eL_0, eL_1, eL_m1, eL_LO, eL_HI, eL_W, eL_add, eL_sub, eL_mul, eL_neg, eL_lt, eL_le, eL_eq, eL_remN, eL_mod0, ne_eq, Int64.not_lt, Int64.not_le] at c35)
          refine ⟨?_, rfl, rfl⟩
          first
            | (rw [tdv_0 b1 (by omega)]; done)
            | (rw [tdv_p (by omega)]; done)
            | (rw [eL_1, eL_sub, tdv_n b1 (by omega) (by omega)]; done)
            | exact absurd c35 (by decide)
            | exact absurd rfl c35
        · refine gi_lload (q := 40) C (dm_Mo_floor 25 rfl) rfl rfl ?_
          refine gi_lconst (q := 41) (v := 1) C (dm_Mo_floor 26 rfl) rfl (by decide) ?_
          refine gi_lsub (q := 42) C (dm_Mo_floor 27 rfl) rfl ?_
          refine gi_goto (tgt := 47) C (dm_Mo_floor 28 rfl) (by decide) ?_
          refine gi_lret C hr (dm_Mo_floor 30 rfl) ?_
          have tb : -9223372036854775808 < a.tmod b ∧ a.tmod b < 9223372036854775808 := by
            have t1 := Int.tmod_lt_of_pos a b1
            have t2 := Int.lt_tmod_of_pos a b1
            omega
          rw [eL_rem a1 a2 (by omega) b2] at c10
          rw [eL_div a1 a2 (by omega) b2]
          (try simp (disch := omega) only [lg_cmp_ge, lg_cmp_le, lg_cmp_gt, lg_cmp_lt, lg_cmp_eq, eL_0, eL_1, eL_m1, eL_LO, eL_HI, eL_W, eL_add, eL_sub, eL_mul, eL_neg, eL_lt, eL_le, eL_eq, eL_remN, eL_mod0, ne_eq, Int64.not_lt, Int64.not_le] at c10)
          (try simp (disch := omega) only [lg_cmp_ge, lg_cmp_le, lg_cmp_gt, lg_cmp_lt, lg_cmp_eq, eL_0, eL_1, eL_m1, eL_LO, eL_HI, eL_W, eL_add, eL_sub, eL_mul, eL_neg, eL_lt, eL_le, eL_eq, eL_remN, eL_mod0, ne_eq, Int64.not_lt, Int64.not_le] at c16)
          (try simp (disch := omega) only [lg_cmp_ge, lg_cmp_le, lg_cmp_gt, lg_cmp_lt, lg_cmp_eq, eL_0, eL_1, eL_m1, eL_LO, eL_HI, eL_W, eL_add, eL_sub, eL_mul, eL_neg, eL_lt, eL_le, eL_eq, eL_remN, eL_mod0, ne_eq, Int64.not_lt, Int64.not_le] at c27)
          (try simp (disch := omega) only [lg_cmp_ge, lg_cmp_le, lg_cmp_gt, lg_cmp_lt, lg_cmp_eq, eL_0, eL_1, eL_m1, eL_LO, eL_HI, eL_W, eL_add, eL_sub, eL_mul, eL_neg, eL_lt, eL_le, eL_eq, eL_remN, eL_mod0, ne_eq, Int64.not_lt, Int64.not_le] at c35)
          refine ⟨?_, rfl, rfl⟩
          first
            | (rw [tdv_0 b1 (by omega)]; done)
            | (rw [tdv_p (by omega)]; done)
            | (rw [eL_1, eL_sub, tdv_n b1 (by omega) (by omega)]; done)
            | exact absurd c35 (by decide)
            | exact absurd rfl c35
      · refine gi_iconst (q := 31) (v := 1) C (dm_Mo_floor 21 rfl) rfl (by decide) ?_
        refine gi_goto (tgt := 35) C (dm_Mo_floor 22 rfl) (by decide) ?_
        refine gi_icmp_eq (q := 38) (tgt := 45) C (dm_Mo_floor 24 rfl) rfl (by decide) (fun c35 => ?_) (fun c35 => ?_)
        · refine gi_lload (q := 47) C (dm_Mo_floor 29 rfl) rfl rfl ?_
          refine gi_lret C hr (dm_Mo_floor 30 rfl) ?_
          have tb : -9223372036854775808 < a.tmod b ∧ a.tmod b < 9223372036854775808 := by
            have t1 := Int.tmod_lt_of_pos a b1
            have t2 := Int.lt_tmod_of_pos a b1
            omega
          rw [eL_rem a1 a2 (by omega) b2] at c10
          rw [eL_div a1 a2 (by omega) b2]
          (try simp (disch := omega) only [lg_cmp_ge, lg_cmp_le, lg_cmp_gt, lg_cmp_lt, lg_cmp_eq, eL_0, eL_1, eL_m1, eL_LO, eL_HI, eL_W, eL_add, eL_sub, eL_mul, eL_neg, eL_lt, eL_le, eL_eq, eL_remN, eL_mod0, ne_eq, Int64.not_lt, Int64.not_le] at c10)
          (try simp (disch := omega) only [lg_cmp_ge, lg_cmp_le, lg_cmp_gt, lg_cmp_lt, lg_cmp_eq, eL_0, eL_1, eL_m1, eL_LO, eL_HI, eL_W, eL_add, eL_sub, eL_mul, eL_neg, eL_lt, eL_le, eL_eq, eL_remN, eL_mod0, ne_eq, Int64.not_lt, Int64.not_le] at c16)
          (try simp (disch := omega) only [lg_cmp_ge, lg_cmp_le, lg_cmp_gt, lg_cmp_lt, lg_cmp_eq, eL_0, eL_1, eL_m1, eL_LO, eL_HI, eL_W, eL_add, eL_sub, eL_mul, eL_neg, eL_lt, eL_le, eL_eq, eL_remN, eL_mod0, ne_eq, Int64.not_lt, Int64.not_le] at c27)
          (try simp (disch := omega) only [lg_cmp_ge, lg_cmp_le, lg_cmp_gt, lg_cmp_lt, lg_cmp_eq, eL_0, eL_1, eL_m1, eL_LO, eL_HI, eL_W, eL_add, eL_sub, eL_mul, eL_neg, eL_lt, eL_le, eL_eq, eL_remN, eL_mod0, ne_eq, Int64.not_lt, Int64.not_le] at c35)
          refine ⟨?_, rfl, rfl⟩
          first
            | (rw [tdv_0 b1 (by omega)]; done)
            | (rw [tdv_p (by omega)]; done)
            | (rw [eL_1, eL_sub, tdv_n b1 (by omega) (by omega)]; done)
            | exact absurd c35 (by decide)
            | exact absurd rfl c35
        · refine gi_lload (q := 40) C (dm_Mo_floor 25 rfl) rfl rfl ?_
          refine gi_lconst (q := 41) (v := 1) C (dm_Mo_floor 26 rfl) rfl (by decide) ?_
          refine gi_lsub (q := 42) C (dm_Mo_floor 27 rfl) rfl ?_
          refine gi_goto (tgt := 47) C (dm_Mo_floor 28 rfl) (by decide) ?_
          refine gi_lret C hr (dm_Mo_floor 30 rfl) ?_
          have tb : -9223372036854775808 < a.tmod b ∧ a.tmod b < 9223372036854775808 := by
            have t1 := Int.tmod_lt_of_pos a b1
            have t2 := Int.lt_tmod_of_pos a b1
            omega
          rw [eL_rem a1 a2 (by omega) b2] at c10
          rw [eL_div a1 a2 (by omega) b2]
          (try simp (disch := omega) only [lg_cmp_ge, lg_cmp_le, lg_cmp_gt, lg_cmp_lt, lg_cmp_eq, eL_0, eL_1, eL_m1, eL_LO, eL_HI, eL_W, eL_add, eL_sub, eL_mul, eL_neg, eL_lt, eL_le, eL_eq, eL_remN, eL_mod0, ne_eq, Int64.not_lt, Int64.not_le] at c10)
          (try simp (disch := omega) only [lg_cmp_ge, lg_cmp_le, lg_cmp_gt, lg_cmp_lt, lg_cmp_eq, eL_0, eL_1, eL_m1, eL_LO, eL_HI, eL_W, eL_add, eL_sub, eL_mul, eL_neg, eL_lt, eL_le, eL_eq, eL_remN, eL_mod0, ne_eq, Int64.not_lt, Int64.not_le] at c16)
          (try simp (disch := omega) only [lg_cmp_ge, lg_cmp_le, lg_cmp_gt, lg_cmp_lt, lg_cmp_eq, eL_0, eL_1, eL_m1, eL_LO, eL_HI, eL_W, eL_add, eL_sub, eL_mul, eL_neg, eL_lt, eL_le, eL_eq, eL_remN, eL_mod0, ne_eq, Int64.not_lt, Int64.not_le] at c27)
          (try simp (disch := omega) only [lg_cmp_ge, lg_cmp_le, lg_cmp_gt, lg_cmp_lt, lg_cmp_eq, eL_0, eL_1, eL_m1, eL_LO, eL_HI, eL_W, eL_add, eL_sub, eL_mul, eL_neg, eL_lt, eL_le, eL_eq, eL_remN, eL_mod0, ne_eq, Int64.not_lt, Int64.not_le] at c35)
          refine ⟨?_, rfl, rfl⟩
          first
            | (rw [tdv_0 b1 (by omega)]; done)
            | (rw [tdv_p (by omega)]; done)
            | (rw [eL_1, eL_sub, tdv_n b1 (by omega) (by omega)]; done)
            | exact absurd c35 (by decide)
            | exact absurd rfl c35
set_option maxHeartbeats 4000000 in
set_option maxRecDepth 100000 in
theorem c_Mo_turned (x y s : Int) (h1 : -4611686018427387904 ≤ x) (h2 : x ≤ y) (h3 : y ≤ 4611686018427387904) (h6 : y - x ≤ 9223372034707292160) (h4 : 0 ≤ s) (h5 : s < 9223372036854775808) (H : mo_at M S J F G h) : gi_T l V y_Mo_turned b_Mo_turned 13 none 1 29 0 0 [.ref M, .long (eL x), .long (eL y), .long (eL s)] n h (fun v n' h' => v = none ∧ n' = n ∧ moN M F G h S J (turnS x y s) h') := by
  refine gi_enter (by decide) (Nat.le_of_ble_eq_true rfl) ?_
  intro _ _ _ _ _ _ _ _ C hr hnm
  obtain ⟨fs, Ha, Hf⟩ := id H.1
  have ho : outM M h h := outM.rf
  have gp : 0 < (Int.gcd s 4294967296 : Int) := by
    have : 0 < Int.gcd s 4294967296 := Int.gcd_pos_of_ne_zero_right s (by decide)
    omega
  have gl : (Int.gcd s 4294967296 : Int) ≤ 4294967296 := by
    have := Int.gcd_le_natAbs_right (a := s) (b := 4294967296) (by decide)
    omega
  obtain ⟨g, eg⟩ : ∃ g : Int, g = (Int.gcd s 4294967296 : Int) := ⟨_, rfl⟩
  rw [← eg] at gp gl
  have d1 := Int.mul_ediv_add_emod (x + 2147483648) 4294967296
  have d2 := Int.emod_nonneg (x + 2147483648) (show (4294967296 : Int) ≠ 0 by decide)
  have d3 := Int.emod_lt_of_pos (x + 2147483648) (show (0 : Int) < 4294967296 by decide)
  obtain ⟨q, eq⟩ : ∃ q, q = (x + 2147483648) / 4294967296 := ⟨_, rfl⟩
  rw [← eq] at d1
  have tb1 := Int.tmod_lt_of_pos (x + 2147483648) gp
  have tb2 := Int.lt_tmod_of_pos (x + 2147483648) gp
  have mg := tmd_n (a := x + 2147483648) gp
  have f1 := Int.emod_nonneg (x + 2147483648) (show g ≠ 0 by omega)
  have f2 := Int.emod_lt_of_pos (x + 2147483648) gp
  have u1 := Int.mul_ediv_add_emod (2147483647 - (-2147483648 + (x + 2147483648) % g)) g
  have u2 := Int.emod_nonneg (2147483647 - (-2147483648 + (x + 2147483648) % g)) (show g ≠ 0 by omega)
  have u3 := Int.emod_lt_of_pos (2147483647 - (-2147483648 + (x + 2147483648) % g)) gp
  rw [Int.mul_comm] at u1
  refine gi_lload_n (q := 1) (i := 1) C (dm_Mo_turned 0 rfl) rfl rfl rfl ?_
  refine gi_ldc2 (q := 4) C (dm_Mo_turned 1 rfl) rfl kc_Mo_273 ?_
  refine gi_lsub (q := 5) C (dm_Mo_turned 2 rfl) rfl ?_
  refine gi_ldc2 (q := 8) C (dm_Mo_turned 3 rfl) rfl kc_Mo_275 ?_
  rw [eL_LO, eL_W, eL_sub, show x - -2147483648 = x + 2147483648 by omega]
  refine gi_calls 2 (q := 11) C (dm_Mo_turned 4 rfl) rfl my_Mo_floor lk_Mo_277 sm_Mo_floor (c_Mo_floor (x + 2147483648) 4294967296 (by omega) (by omega) (by decide) (by decide)) rfl rfl ⟨(Nat.le_of_ble_eq_true rfl), (Nat.le_of_ble_eq_true rfl)⟩ (Nat.le_of_ble_eq_true rfl) ⟨(Nat.le_of_ble_eq_true rfl), (Nat.le_of_ble_eq_true rfl)⟩ (fun r8 n8 h8 e8 => ?_)
  obtain ⟨rfl, q8, u8⟩ := e8
  rw [q8, u8]
  refine gi_ldc2 (q := 14) C (dm_Mo_turned 5 rfl) rfl kc_Mo_275 ?_
  refine gi_lmul (q := 15) C (dm_Mo_turned 6 rfl) rfl ?_
  rw [← eq, eL_W, eL_mul]
  refine gi_lstore (q := 17) C (dm_Mo_turned 7 rfl) rfl (Nat.le_of_ble_eq_true rfl) ?_
  refine gi_lload_n (q := 18) (i := 3) C (dm_Mo_turned 8 rfl) rfl rfl rfl ?_
  refine gi_lload (q := 20) C (dm_Mo_turned 9 rfl) rfl rfl ?_
  refine gi_lsub (q := 21) C (dm_Mo_turned 10 rfl) rfl ?_
  refine gi_ldc2 (q := 24) C (dm_Mo_turned 11 rfl) rfl kc_Mo_280 ?_
  refine gi_lcmp (q := 25) C (dm_Mo_turned 12 rfl) rfl ?_
  refine gi_if_gt (q := 28) (tgt := 43) C (dm_Mo_turned 13 rfl) rfl (by decide) (fun c25 => ?_) (fun c25 => ?_)
  · refine gi_lload (q := 45) C (dm_Mo_turned 24 rfl) rfl rfl ?_
    refine gi_ldc2 (q := 48) C (dm_Mo_turned 25 rfl) rfl kc_Mo_275 ?_
    rw [eL_W]
    refine gi_calls 2 (q := 51) C (dm_Mo_turned 26 rfl) rfl my_Mo_gcd lk_Mo_259 sm_Mo_gcd (c_Mo_gcd s 4294967296 (by omega) (by omega) (by decide) (by decide)) rfl rfl ⟨(Nat.le_of_ble_eq_true rfl), (Nat.le_of_ble_eq_true rfl)⟩ (Nat.le_of_ble_eq_true rfl) ⟨(Nat.le_of_ble_eq_true rfl), (Nat.le_of_ble_eq_true rfl)⟩ (fun r48 n48 h48 e48 => ?_)
    obtain ⟨rfl, q48, u48⟩ := e48
    rw [q48, u48]
    rw [← eg]
    refine gi_lstore (q := 53) C (dm_Mo_turned 27 rfl) rfl (Nat.le_of_ble_eq_true rfl) ?_
    refine gi_ldc2 (q := 56) C (dm_Mo_turned 28 rfl) rfl kc_Mo_273 ?_
    refine gi_lload_n (q := 57) (i := 1) C (dm_Mo_turned 29 rfl) rfl rfl rfl ?_
    refine gi_ldc2 (q := 60) C (dm_Mo_turned 30 rfl) rfl kc_Mo_273 ?_
    refine gi_lsub (q := 61) C (dm_Mo_turned 31 rfl) rfl ?_
    refine gi_lload (q := 63) C (dm_Mo_turned 32 rfl) rfl rfl ?_
    refine gi_lrem (q := 64) C (dm_Mo_turned 33 rfl) rfl (fun q => absurd ((eL_eq (by omega) (by omega) (by omega) (by omega)).mp (q.trans eL_0)) (by omega)) ?_
    rw [eL_LO, eL_sub, show x - -2147483648 = x + 2147483648 by omega, eL_rem (by omega) (by omega) (by omega) (by omega)]
    refine gi_ladd (q := 65) C (dm_Mo_turned 34 rfl) rfl ?_
    rw [eL_add]
    refine gi_lstore (q := 67) C (dm_Mo_turned 35 rfl) rfl (Nat.le_of_ble_eq_true rfl) ?_
    refine gi_lload (q := 69) C (dm_Mo_turned 36 rfl) rfl rfl ?_
    refine gi_ldc2 (q := 72) C (dm_Mo_turned 37 rfl) rfl kc_Mo_273 ?_
    refine gi_lcmp (q := 73) C (dm_Mo_turned 38 rfl) rfl ?_
    refine gi_if_ge (q := 76) (tgt := 84) C (dm_Mo_turned 39 rfl) rfl (by decide) (fun c73 => ?_) (fun c73 => ?_)
    · refine gi_lload (q := 86) C (dm_Mo_turned 44 rfl) rfl rfl ?_
      (try simp (disch := omega) only [lg_cmp_ge, lg_cmp_le, lg_cmp_gt, lg_cmp_lt, lg_cmp_eq, eL_0, eL_1, eL_m1, eL_LO, eL_HI, eL_W, eL_add, eL_sub, eL_mul, eL_neg, eL_lt, eL_le, eL_eq, eL_remN, eL_mod0, ne_eq, Int64.not_lt, Int64.not_le] at c73)
      rw [show -2147483648 + (x + 2147483648).tmod g = -2147483648 + (x + 2147483648) % g from by rw [mg, if_neg (by omega)]]
      refine gi_lstore (q := 88) C (dm_Mo_turned 45 rfl) rfl (Nat.le_of_ble_eq_true rfl) ?_
      refine gi_aload_n (q := 89) (i := 0) C (dm_Mo_turned 46 rfl) rfl rfl rfl ?_
      refine gi_lload (q := 91) C (dm_Mo_turned 47 rfl) rfl rfl ?_
      refine gi_lload (q := 93) C (dm_Mo_turned 48 rfl) rfl rfl ?_
      refine gi_ldc2 (q := 96) C (dm_Mo_turned 49 rfl) rfl kc_Mo_280 ?_
      refine gi_lload (q := 98) C (dm_Mo_turned 50 rfl) rfl rfl ?_
      refine gi_lsub (q := 99) C (dm_Mo_turned 51 rfl) rfl ?_
      refine gi_lload (q := 101) C (dm_Mo_turned 52 rfl) rfl rfl ?_
      refine gi_ldiv (q := 102) C (dm_Mo_turned 53 rfl) rfl (fun q => absurd ((eL_eq (by omega) (by omega) (by omega) (by omega)).mp (q.trans eL_0)) (by omega)) ?_
      refine gi_lload (q := 104) C (dm_Mo_turned 54 rfl) rfl rfl ?_
      refine gi_lmul (q := 105) C (dm_Mo_turned 55 rfl) rfl ?_
      refine gi_ladd (q := 106) C (dm_Mo_turned 56 rfl) rfl ?_
      refine gi_lload (q := 108) C (dm_Mo_turned 57 rfl) rfl rfl ?_
      rw [eL_HI, eL_sub, eL_divN (by omega) (by omega) (by omega) (by omega), eL_mul, eL_add]
      refine gi_callv 3 (q := 111) C (dm_Mo_turned 58 rfl) rfl my_Mo_set lk_Mo_262 im_Mo_set rfl (c_Mo_set (-2147483648 + (x + 2147483648) % g) (-2147483648 + (x + 2147483648) % g + (2147483647 - (-2147483648 + (x + 2147483648) % g)) / g * g) g (by omega) (by omega) (by omega) (by omega) H) Ha rfl rfl ⟨(Nat.le_of_ble_eq_true rfl), (Nat.le_of_ble_eq_true rfl)⟩ (Nat.le_of_ble_eq_true rfl) ⟨(Nat.le_of_ble_eq_true rfl), (Nat.le_of_ble_eq_true rfl)⟩ (fun r108 n108 h108 e108 => ?_)
      obtain ⟨rfl, rfl, W108⟩ := e108
      refine gi_vret C hr (dm_Mo_turned 59 rfl) ?_
      (try simp (disch := omega) only [lg_cmp_ge, lg_cmp_le, lg_cmp_gt, lg_cmp_lt, lg_cmp_eq, eL_0, eL_1, eL_m1, eL_LO, eL_HI, eL_W, eL_add, eL_sub, eL_mul, eL_neg, eL_lt, eL_le, eL_eq, eL_remN, eL_mod0, ne_eq, Int64.not_lt, Int64.not_le] at c25)
      (try simp (disch := omega) only [lg_cmp_ge, lg_cmp_le, lg_cmp_gt, lg_cmp_lt, lg_cmp_eq, eL_0, eL_1, eL_m1, eL_LO, eL_HI, eL_W, eL_add, eL_sub, eL_mul, eL_neg, eL_lt, eL_le, eL_eq, eL_remN, eL_mod0, ne_eq, Int64.not_lt, Int64.not_le] at c73)
      rw [show turnS x y s = mkS (-2147483648 + (x + 2147483648) % g) (-2147483648 + (x + 2147483648) % g + (2147483647 - (-2147483648 + (x + 2147483648) % g)) / g * g) g from by
        unfold turnS
        rw [← eq, if_neg (by omega), ← eg]
        congr 1
        have p1 := Int.mul_ediv_add_emod (2147483647 - (-2147483648 + (x + 2147483648) % g)) g
        have p2 : (2147483647 - (-2147483648 + (x + 2147483648) % g)) % g = (2147483647 - x) % g := by
          have p3 := Int.mul_ediv_add_emod (x + 2147483648) g
          rw [show 2147483647 - (-2147483648 + (x + 2147483648) % g) = 2147483647 - x + g * ((x + 2147483648) / g) by omega, Int.add_mul_emod_self_left]
        rw [p2, Int.mul_comm] at p1
        omega]
      exact ⟨rfl, rfl, W108⟩
    · refine gi_lload (q := 78) C (dm_Mo_turned 40 rfl) rfl rfl ?_
      refine gi_lload (q := 80) C (dm_Mo_turned 41 rfl) rfl rfl ?_
      refine gi_ladd (q := 81) C (dm_Mo_turned 42 rfl) rfl ?_
      refine gi_goto (tgt := 86) C (dm_Mo_turned 43 rfl) (by decide) ?_
      (try simp (disch := omega) only [lg_cmp_ge, lg_cmp_le, lg_cmp_gt, lg_cmp_lt, lg_cmp_eq, eL_0, eL_1, eL_m1, eL_LO, eL_HI, eL_W, eL_add, eL_sub, eL_mul, eL_neg, eL_lt, eL_le, eL_eq, eL_remN, eL_mod0, ne_eq, Int64.not_lt, Int64.not_le] at c73)
      rw [eL_add, show -2147483648 + (x + 2147483648).tmod g + g = -2147483648 + (x + 2147483648) % g from by rw [mg, if_pos (by omega)]; omega]
      refine gi_lstore (q := 88) C (dm_Mo_turned 45 rfl) rfl (Nat.le_of_ble_eq_true rfl) ?_
      refine gi_aload_n (q := 89) (i := 0) C (dm_Mo_turned 46 rfl) rfl rfl rfl ?_
      refine gi_lload (q := 91) C (dm_Mo_turned 47 rfl) rfl rfl ?_
      refine gi_lload (q := 93) C (dm_Mo_turned 48 rfl) rfl rfl ?_
      refine gi_ldc2 (q := 96) C (dm_Mo_turned 49 rfl) rfl kc_Mo_280 ?_
      refine gi_lload (q := 98) C (dm_Mo_turned 50 rfl) rfl rfl ?_
      refine gi_lsub (q := 99) C (dm_Mo_turned 51 rfl) rfl ?_
      refine gi_lload (q := 101) C (dm_Mo_turned 52 rfl) rfl rfl ?_
      refine gi_ldiv (q := 102) C (dm_Mo_turned 53 rfl) rfl (fun q => absurd ((eL_eq (by omega) (by omega) (by omega) (by omega)).mp (q.trans eL_0)) (by omega)) ?_
      refine gi_lload (q := 104) C (dm_Mo_turned 54 rfl) rfl rfl ?_
      refine gi_lmul (q := 105) C (dm_Mo_turned 55 rfl) rfl ?_
      refine gi_ladd (q := 106) C (dm_Mo_turned 56 rfl) rfl ?_
      refine gi_lload (q := 108) C (dm_Mo_turned 57 rfl) rfl rfl ?_
      rw [eL_HI, eL_sub, eL_divN (by omega) (by omega) (by omega) (by omega), eL_mul, eL_add]
      refine gi_callv 3 (q := 111) C (dm_Mo_turned 58 rfl) rfl my_Mo_set lk_Mo_262 im_Mo_set rfl (c_Mo_set (-2147483648 + (x + 2147483648) % g) (-2147483648 + (x + 2147483648) % g + (2147483647 - (-2147483648 + (x + 2147483648) % g)) / g * g) g (by omega) (by omega) (by omega) (by omega) H) Ha rfl rfl ⟨(Nat.le_of_ble_eq_true rfl), (Nat.le_of_ble_eq_true rfl)⟩ (Nat.le_of_ble_eq_true rfl) ⟨(Nat.le_of_ble_eq_true rfl), (Nat.le_of_ble_eq_true rfl)⟩ (fun r108 n108 h108 e108 => ?_)
      obtain ⟨rfl, rfl, W108⟩ := e108
      refine gi_vret C hr (dm_Mo_turned 59 rfl) ?_
      (try simp (disch := omega) only [lg_cmp_ge, lg_cmp_le, lg_cmp_gt, lg_cmp_lt, lg_cmp_eq, eL_0, eL_1, eL_m1, eL_LO, eL_HI, eL_W, eL_add, eL_sub, eL_mul, eL_neg, eL_lt, eL_le, eL_eq, eL_remN, eL_mod0, ne_eq, Int64.not_lt, Int64.not_le] at c25)
      (try simp (disch := omega) only [lg_cmp_ge, lg_cmp_le, lg_cmp_gt, lg_cmp_lt, lg_cmp_eq, eL_0, eL_1, eL_m1, eL_LO, eL_HI, eL_W, eL_add, eL_sub, eL_mul, eL_neg, eL_lt, eL_le, eL_eq, eL_remN, eL_mod0, ne_eq, Int64.not_lt, Int64.not_le] at c73)
      rw [show turnS x y s = mkS (-2147483648 + (x + 2147483648) % g) (-2147483648 + (x + 2147483648) % g + (2147483647 - (-2147483648 + (x + 2147483648) % g)) / g * g) g from by
        unfold turnS
        rw [← eq, if_neg (by omega), ← eg]
        congr 1
        have p1 := Int.mul_ediv_add_emod (2147483647 - (-2147483648 + (x + 2147483648) % g)) g
        have p2 : (2147483647 - (-2147483648 + (x + 2147483648) % g)) % g = (2147483647 - x) % g := by
          have p3 := Int.mul_ediv_add_emod (x + 2147483648) g
          rw [show 2147483647 - (-2147483648 + (x + 2147483648) % g) = 2147483647 - x + g * ((x + 2147483648) / g) by omega, Int.add_mul_emod_self_left]
        rw [p2, Int.mul_comm] at p1
        omega]
      exact ⟨rfl, rfl, W108⟩
  · refine gi_aload_n (q := 29) (i := 0) C (dm_Mo_turned 14 rfl) rfl rfl rfl ?_
    refine gi_lload_n (q := 30) (i := 1) C (dm_Mo_turned 15 rfl) rfl rfl rfl ?_
    refine gi_lload (q := 32) C (dm_Mo_turned 16 rfl) rfl rfl ?_
    refine gi_lsub (q := 33) C (dm_Mo_turned 17 rfl) rfl ?_
    refine gi_lload_n (q := 34) (i := 3) C (dm_Mo_turned 18 rfl) rfl rfl rfl ?_
    refine gi_lload (q := 36) C (dm_Mo_turned 19 rfl) rfl rfl ?_
    refine gi_lsub (q := 37) C (dm_Mo_turned 20 rfl) rfl ?_
    refine gi_lload (q := 39) C (dm_Mo_turned 21 rfl) rfl rfl ?_
    rw [eL_sub, eL_sub]
    refine gi_callv 3 (q := 42) C (dm_Mo_turned 22 rfl) rfl my_Mo_set lk_Mo_262 im_Mo_set rfl (c_Mo_set (x - q * 4294967296) (y - q * 4294967296) s (by omega) (by omega) (by omega) (by omega) H) Ha rfl rfl ⟨(Nat.le_of_ble_eq_true rfl), (Nat.le_of_ble_eq_true rfl)⟩ (Nat.le_of_ble_eq_true rfl) ⟨(Nat.le_of_ble_eq_true rfl), (Nat.le_of_ble_eq_true rfl)⟩ (fun r39 n39 h39 e39 => ?_)
    obtain ⟨rfl, rfl, W39⟩ := e39
    refine gi_vret C hr (dm_Mo_turned 23 rfl) ?_
    (try simp (disch := omega) only [lg_cmp_ge, lg_cmp_le, lg_cmp_gt, lg_cmp_lt, lg_cmp_eq, eL_0, eL_1, eL_m1, eL_LO, eL_HI, eL_W, eL_add, eL_sub, eL_mul, eL_neg, eL_lt, eL_le, eL_eq, eL_remN, eL_mod0, ne_eq, Int64.not_lt, Int64.not_le] at c25)
    rw [show turnS x y s = mkS (x - q * 4294967296) (y - q * 4294967296) s from by
      unfold turnS
      rw [← eq, if_pos (by omega)]]
    exact ⟨rfl, rfl, W39⟩
theorem cov_in {x y : Sp} (hx : okS x) (hy : okS y) : covS y x = (decide (y.1 ≤ x.1) && (decide (x.2.1 ≤ y.2.1) && (if y.2.2 = 0 then decide (x.1 = y.1) && decide (x.2.2 = 0) else decide ((x.1 - y.1) % y.2.2 = 0) && decide (x.2.2 % y.2.2 = 0)))) := by
  have zx := hx.2.2.2.2.1
  have zy := hy.z
  have x2 := hx.2.1
  unfold covS
  by_cases q1 : y.1 ≤ x.1
  · by_cases q2 : x.2.1 ≤ y.2.1
    · rw [decide_eq_true q1, decide_eq_true q2]
      by_cases q : y.2.2 = 0
      · have := zy q
        rw [if_pos q, decide_eq_true q, decide_eq_true (show x.1 = y.1 by omega), decide_eq_true (zx (by omega))]
        rfl
      · rw [if_neg q, decide_eq_false q]
        simp
    · rw [decide_eq_false q2]
      simp
  · rw [decide_eq_false q1]
    simp
set_option maxHeartbeats 4000000 in
set_option maxRecDepth 100000 in
theorem c_Mo_has (x : Sp) (c : Int) (hx : okS x) (c1 : -4611686018427387904 ≤ c) (c2 : c ≤ 4611686018427387904) : gi_T l V y_Mo_has b_Mo_has 8 (some .boolean) 0 0 0 0 [.long (eL x.1), .long (eL x.2.1), .long (eL x.2.2), .long (eL c)] n h (gi_is (some (.int (bI (hasS x c)))) n h) := by
  refine gi_enter (by decide) (Nat.le_of_ble_eq_true rfl) ?_
  intro _ _ _ _ _ _ _ _ C hr hnm
  obtain ⟨x1, x2, x3, x4, -⟩ := id hx
  have x5 := hx.st
  refine gi_lload (q := 2) C (dm_Mo_has 0 rfl) rfl rfl ?_
  refine gi_lload_n (q := 3) (i := 0) C (dm_Mo_has 1 rfl) rfl rfl rfl ?_
  refine gi_lcmp (q := 4) C (dm_Mo_has 2 rfl) rfl ?_
  refine gi_if_lt (q := 7) (tgt := 37) C (dm_Mo_has 3 rfl) rfl (by decide) (fun c4 => ?_) (fun c4 => ?_)
  · refine gi_iconst (q := 38) (v := 0) C (dm_Mo_has 22 rfl) rfl (by decide) ?_
    refine gi_zret C hr (dm_Mo_has 23 rfl) rfl ?_
    (try simp (disch := omega) only [lg_cmp_ge, lg_cmp_le, lg_cmp_gt, lg_cmp_lt, lg_cmp_eq, eL_0, eL_1, eL_m1, eL_LO, eL_HI, eL_W, eL_add, eL_sub, eL_mul, eL_neg, eL_lt, eL_le, eL_eq, eL_remN, eL_mod0, ne_eq, Int64.not_lt, Int64.not_le] at c4)
    refine ⟨?_, rfl, rfl⟩
    unfold hasS
    first
      | (rw [show (decide (x.1 ≤ c) && decide (c ≤ x.2.1) && (decide (x.2.2 = 0) || decide ((c - x.1) % x.2.2 = 0))) = true from by simp; omega]; rfl)
      | (rw [show (decide (x.1 ≤ c) && decide (c ≤ x.2.1) && (decide (x.2.2 = 0) || decide ((c - x.1) % x.2.2 = 0))) = false from by simp; omega]; rfl)
  · refine gi_lload (q := 9) C (dm_Mo_has 4 rfl) rfl rfl ?_
    refine gi_lload_n (q := 10) (i := 2) C (dm_Mo_has 5 rfl) rfl rfl rfl ?_
    refine gi_lcmp (q := 11) C (dm_Mo_has 6 rfl) rfl ?_
    refine gi_if_gt (q := 14) (tgt := 37) C (dm_Mo_has 7 rfl) rfl (by decide) (fun c11 => ?_) (fun c11 => ?_)
    · refine gi_iconst (q := 38) (v := 0) C (dm_Mo_has 22 rfl) rfl (by decide) ?_
      refine gi_zret C hr (dm_Mo_has 23 rfl) rfl ?_
      (try simp (disch := omega) only [lg_cmp_ge, lg_cmp_le, lg_cmp_gt, lg_cmp_lt, lg_cmp_eq, eL_0, eL_1, eL_m1, eL_LO, eL_HI, eL_W, eL_add, eL_sub, eL_mul, eL_neg, eL_lt, eL_le, eL_eq, eL_remN, eL_mod0, ne_eq, Int64.not_lt, Int64.not_le] at c4)
      (try simp (disch := omega) only [lg_cmp_ge, lg_cmp_le, lg_cmp_gt, lg_cmp_lt, lg_cmp_eq, eL_0, eL_1, eL_m1, eL_LO, eL_HI, eL_W, eL_add, eL_sub, eL_mul, eL_neg, eL_lt, eL_le, eL_eq, eL_remN, eL_mod0, ne_eq, Int64.not_lt, Int64.not_le] at c11)
      refine ⟨?_, rfl, rfl⟩
      unfold hasS
      first
        | (rw [show (decide (x.1 ≤ c) && decide (c ≤ x.2.1) && (decide (x.2.2 = 0) || decide ((c - x.1) % x.2.2 = 0))) = true from by simp; omega]; rfl)
        | (rw [show (decide (x.1 ≤ c) && decide (c ≤ x.2.1) && (decide (x.2.2 = 0) || decide ((c - x.1) % x.2.2 = 0))) = false from by simp; omega]; rfl)
    · refine gi_lload (q := 16) C (dm_Mo_has 8 rfl) rfl rfl ?_
      refine gi_lconst (q := 17) (v := 0) C (dm_Mo_has 9 rfl) rfl (by decide) ?_
      refine gi_lcmp (q := 18) C (dm_Mo_has 10 rfl) rfl ?_
      refine gi_if_eq (q := 21) (tgt := 33) C (dm_Mo_has 11 rfl) rfl (by decide) (fun c18 => ?_) (fun c18 => ?_)
      · refine gi_iconst (q := 34) (v := 1) C (dm_Mo_has 20 rfl) rfl (by decide) ?_
        refine gi_goto (tgt := 38) C (dm_Mo_has 21 rfl) (by decide) ?_
        refine gi_zret C hr (dm_Mo_has 23 rfl) rfl ?_
        (try simp (disch := omega) only [lg_cmp_ge, lg_cmp_le, lg_cmp_gt, lg_cmp_lt, lg_cmp_eq, eL_0, eL_1, eL_m1, eL_LO, eL_HI, eL_W, eL_add, eL_sub, eL_mul, eL_neg, eL_lt, eL_le, eL_eq, eL_remN, eL_mod0, ne_eq, Int64.not_lt, Int64.not_le] at c4)
        (try simp (disch := omega) only [lg_cmp_ge, lg_cmp_le, lg_cmp_gt, lg_cmp_lt, lg_cmp_eq, eL_0, eL_1, eL_m1, eL_LO, eL_HI, eL_W, eL_add, eL_sub, eL_mul, eL_neg, eL_lt, eL_le, eL_eq, eL_remN, eL_mod0, ne_eq, Int64.not_lt, Int64.not_le] at c11)
        (try simp (disch := omega) only [lg_cmp_ge, lg_cmp_le, lg_cmp_gt, lg_cmp_lt, lg_cmp_eq, eL_0, eL_1, eL_m1, eL_LO, eL_HI, eL_W, eL_add, eL_sub, eL_mul, eL_neg, eL_lt, eL_le, eL_eq, eL_remN, eL_mod0, ne_eq, Int64.not_lt, Int64.not_le] at c18)
        refine ⟨?_, rfl, rfl⟩
        unfold hasS
        first
          | (rw [show (decide (x.1 ≤ c) && decide (c ≤ x.2.1) && (decide (x.2.2 = 0) || decide ((c - x.1) % x.2.2 = 0))) = true from by simp; omega]; rfl)
          | (rw [show (decide (x.1 ≤ c) && decide (c ≤ x.2.1) && (decide (x.2.2 = 0) || decide ((c - x.1) % x.2.2 = 0))) = false from by simp; omega]; rfl)
      · refine gi_lload (q := 23) C (dm_Mo_has 12 rfl) rfl rfl ?_
        refine gi_lload_n (q := 24) (i := 0) C (dm_Mo_has 13 rfl) rfl rfl rfl ?_
        refine gi_lsub (q := 25) C (dm_Mo_has 14 rfl) rfl ?_
        refine gi_lload (q := 27) C (dm_Mo_has 15 rfl) rfl rfl ?_
        refine gi_lrem (q := 28) C (dm_Mo_has 16 rfl) rfl (fun q => c18 ((lg_cmp_eq _ _).mpr q)) ?_
        refine gi_lconst (q := 29) (v := 0) C (dm_Mo_has 17 rfl) rfl (by decide) ?_
        refine gi_lcmp (q := 30) C (dm_Mo_has 18 rfl) rfl ?_
        refine gi_if_ne (q := 33) (tgt := 37) C (dm_Mo_has 19 rfl) rfl (by decide) (fun c30 => ?_) (fun c30 => ?_)
        · refine gi_iconst (q := 38) (v := 0) C (dm_Mo_has 22 rfl) rfl (by decide) ?_
          refine gi_zret C hr (dm_Mo_has 23 rfl) rfl ?_
          (try simp (disch := omega) only [lg_cmp_ge, lg_cmp_le, lg_cmp_gt, lg_cmp_lt, lg_cmp_eq, eL_0, eL_1, eL_m1, eL_LO, eL_HI, eL_W, eL_add, eL_sub, eL_mul, eL_neg, eL_lt, eL_le, eL_eq, eL_remN, eL_mod0, ne_eq, Int64.not_lt, Int64.not_le] at c4)
          (try simp (disch := omega) only [lg_cmp_ge, lg_cmp_le, lg_cmp_gt, lg_cmp_lt, lg_cmp_eq, eL_0, eL_1, eL_m1, eL_LO, eL_HI, eL_W, eL_add, eL_sub, eL_mul, eL_neg, eL_lt, eL_le, eL_eq, eL_remN, eL_mod0, ne_eq, Int64.not_lt, Int64.not_le] at c11)
          (try simp (disch := omega) only [lg_cmp_ge, lg_cmp_le, lg_cmp_gt, lg_cmp_lt, lg_cmp_eq, eL_0, eL_1, eL_m1, eL_LO, eL_HI, eL_W, eL_add, eL_sub, eL_mul, eL_neg, eL_lt, eL_le, eL_eq, eL_remN, eL_mod0, ne_eq, Int64.not_lt, Int64.not_le] at c18)
          (try simp (disch := omega) only [lg_cmp_ge, lg_cmp_le, lg_cmp_gt, lg_cmp_lt, lg_cmp_eq, eL_0, eL_1, eL_m1, eL_LO, eL_HI, eL_W, eL_add, eL_sub, eL_mul, eL_neg, eL_lt, eL_le, eL_eq, eL_remN, eL_mod0, ne_eq, Int64.not_lt, Int64.not_le] at c30)
          refine ⟨?_, rfl, rfl⟩
          unfold hasS
          first
            | (rw [show (decide (x.1 ≤ c) && decide (c ≤ x.2.1) && (decide (x.2.2 = 0) || decide ((c - x.1) % x.2.2 = 0))) = true from by simp; omega]; rfl)
            | (rw [show (decide (x.1 ≤ c) && decide (c ≤ x.2.1) && (decide (x.2.2 = 0) || decide ((c - x.1) % x.2.2 = 0))) = false from by simp; omega]; rfl)
        · refine gi_iconst (q := 34) (v := 1) C (dm_Mo_has 20 rfl) rfl (by decide) ?_
          refine gi_goto (tgt := 38) C (dm_Mo_has 21 rfl) (by decide) ?_
          refine gi_zret C hr (dm_Mo_has 23 rfl) rfl ?_
          (try simp (disch := omega) only [lg_cmp_ge, lg_cmp_le, lg_cmp_gt, lg_cmp_lt, lg_cmp_eq, eL_0, eL_1, eL_m1, eL_LO, eL_HI, eL_W, eL_add, eL_sub, eL_mul, eL_neg, eL_lt, eL_le, eL_eq, eL_remN, eL_mod0, ne_eq, Int64.not_lt, Int64.not_le] at c4)
          (try simp (disch := omega) only [lg_cmp_ge, lg_cmp_le, lg_cmp_gt, lg_cmp_lt, lg_cmp_eq, eL_0, eL_1, eL_m1, eL_LO, eL_HI, eL_W, eL_add, eL_sub, eL_mul, eL_neg, eL_lt, eL_le, eL_eq, eL_remN, eL_mod0, ne_eq, Int64.not_lt, Int64.not_le] at c11)
          (try simp (disch := omega) only [lg_cmp_ge, lg_cmp_le, lg_cmp_gt, lg_cmp_lt, lg_cmp_eq, eL_0, eL_1, eL_m1, eL_LO, eL_HI, eL_W, eL_add, eL_sub, eL_mul, eL_neg, eL_lt, eL_le, eL_eq, eL_remN, eL_mod0, ne_eq, Int64.not_lt, Int64.not_le] at c18)
          (try simp (disch := omega) only [lg_cmp_ge, lg_cmp_le, lg_cmp_gt, lg_cmp_lt, lg_cmp_eq, eL_0, eL_1, eL_m1, eL_LO, eL_HI, eL_W, eL_add, eL_sub, eL_mul, eL_neg, eL_lt, eL_le, eL_eq, eL_remN, eL_mod0, ne_eq, Int64.not_lt, Int64.not_le] at c30)
          refine ⟨?_, rfl, rfl⟩
          unfold hasS
          first
            | (rw [show (decide (x.1 ≤ c) && decide (c ≤ x.2.1) && (decide (x.2.2 = 0) || decide ((c - x.1) % x.2.2 = 0))) = true from by simp; omega]; rfl)
            | (rw [show (decide (x.1 ≤ c) && decide (c ≤ x.2.1) && (decide (x.2.2 = 0) || decide ((c - x.1) % x.2.2 = 0))) = false from by simp; omega]; rfl)
end RN3
