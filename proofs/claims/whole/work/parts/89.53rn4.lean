-- needs: 89.52
section RN4
variable {l : Launch} {V : gi_V} {n : Nat} {h h' : gi_H} {M : Nat} {S S' : Nat → Int32} {J J' : Nat → Int64} {F : Nat → Nat → Int32} {G : Nat → Nat → Int64}
set_option maxHeartbeats 4000000 in
set_option maxRecDepth 100000 in
theorem c_Mo_isIn (x y : Sp) (hx : okS x) (hy : okS y) : gi_T l V y_Mo_isIn b_Mo_isIn 12 (some .boolean) 0 0 0 0 [.long (eL x.1), .long (eL x.2.1), .long (eL x.2.2), .long (eL y.1), .long (eL y.2.1), .long (eL y.2.2)] n h (gi_is (some (.int (bI (covS y x)))) n h) := by
  refine gi_enter (by decide) (Nat.le_of_ble_eq_true rfl) ?_
  intro _ _ _ _ _ _ _ _ C hr hnm
  obtain ⟨x1, x2, x3, x4, -⟩ := id hx
  have x5 := hx.st
  obtain ⟨y1, y2, y3, y4, -⟩ := id hy
  have y5 := hy.st
  refine gi_lload_n (q := 1) (i := 0) C (dm_Mo_isIn 0 rfl) rfl rfl rfl ?_
  refine gi_lload (q := 3) C (dm_Mo_isIn 1 rfl) rfl rfl ?_
  refine gi_lcmp (q := 4) C (dm_Mo_isIn 2 rfl) rfl ?_
  refine gi_if_lt (q := 7) (tgt := 64) C (dm_Mo_isIn 3 rfl) rfl (by decide) (fun c4 => ?_) (fun c4 => ?_)
  · refine gi_iconst (q := 65) (v := 0) C (dm_Mo_isIn 37 rfl) rfl (by decide) ?_
    refine gi_zret C hr (dm_Mo_isIn 38 rfl) rfl ?_
    (try simp (disch := omega) only [lg_cmp_ge, lg_cmp_le, lg_cmp_gt, lg_cmp_lt, lg_cmp_eq, eL_0, eL_1, eL_m1, eL_LO, eL_HI, eL_W, eL_add, eL_sub, eL_mul, eL_neg, eL_lt, eL_le, eL_eq, eL_remN, eL_mod0, ne_eq, Int64.not_lt, Int64.not_le] at c4)
    refine ⟨?_, rfl, rfl⟩
    rw [cov_in hx hy]
    first
      | (rw [show (decide (y.1 ≤ x.1) && (decide (x.2.1 ≤ y.2.1) && (if y.2.2 = 0 then decide (x.1 = y.1) && decide (x.2.2 = 0) else decide ((x.1 - y.1) % y.2.2 = 0) && decide (x.2.2 % y.2.2 = 0)))) = true from by
          first
            | (rw [if_pos (by omega)]; simp; omega)
            | (rw [if_neg (by omega)]; simp; omega)]; rfl)
      | (rw [show (decide (y.1 ≤ x.1) && (decide (x.2.1 ≤ y.2.1) && (if y.2.2 = 0 then decide (x.1 = y.1) && decide (x.2.2 = 0) else decide ((x.1 - y.1) % y.2.2 = 0) && decide (x.2.2 % y.2.2 = 0)))) = false from by
          first
            | (rw [decide_eq_false (by omega)]; simp; done)
            | (rw [decide_eq_true (show y.1 ≤ x.1 by omega), decide_eq_false (by omega)]; simp; done)
            | (rw [if_pos (by omega), decide_eq_false (show ¬ (x.1 = y.1) by omega)]; simp; done)
            | (rw [if_pos (by omega), decide_eq_false (show ¬ (x.2.2 = 0) by omega)]; simp; done)
            | (rw [if_neg (by omega), decide_eq_false (show ¬ ((x.1 - y.1) % y.2.2 = 0) by omega)]; simp; done)
            | (rw [if_neg (by omega), decide_eq_false (show ¬ (x.2.2 % y.2.2 = 0) by omega)]; simp; done)]; rfl)
  · refine gi_lload_n (q := 8) (i := 2) C (dm_Mo_isIn 4 rfl) rfl rfl rfl ?_
    refine gi_lload (q := 10) C (dm_Mo_isIn 5 rfl) rfl rfl ?_
    refine gi_lcmp (q := 11) C (dm_Mo_isIn 6 rfl) rfl ?_
    refine gi_if_gt (q := 14) (tgt := 64) C (dm_Mo_isIn 7 rfl) rfl (by decide) (fun c11 => ?_) (fun c11 => ?_)
    · refine gi_iconst (q := 65) (v := 0) C (dm_Mo_isIn 37 rfl) rfl (by decide) ?_
      refine gi_zret C hr (dm_Mo_isIn 38 rfl) rfl ?_
      (try simp (disch := omega) only [lg_cmp_ge, lg_cmp_le, lg_cmp_gt, lg_cmp_lt, lg_cmp_eq, eL_0, eL_1, eL_m1, eL_LO, eL_HI, eL_W, eL_add, eL_sub, eL_mul, eL_neg, eL_lt, eL_le, eL_eq, eL_remN, eL_mod0, ne_eq, Int64.not_lt, Int64.not_le] at c4)
      (try simp (disch := omega) only [lg_cmp_ge, lg_cmp_le, lg_cmp_gt, lg_cmp_lt, lg_cmp_eq, eL_0, eL_1, eL_m1, eL_LO, eL_HI, eL_W, eL_add, eL_sub, eL_mul, eL_neg, eL_lt, eL_le, eL_eq, eL_remN, eL_mod0, ne_eq, Int64.not_lt, Int64.not_le] at c11)
      refine ⟨?_, rfl, rfl⟩
      rw [cov_in hx hy]
      first
        | (rw [show (decide (y.1 ≤ x.1) && (decide (x.2.1 ≤ y.2.1) && (if y.2.2 = 0 then decide (x.1 = y.1) && decide (x.2.2 = 0) else decide ((x.1 - y.1) % y.2.2 = 0) && decide (x.2.2 % y.2.2 = 0)))) = true from by
            first
              | (rw [if_pos (by omega)]; simp; omega)
              | (rw [if_neg (by omega)]; simp; omega)]; rfl)
        | (rw [show (decide (y.1 ≤ x.1) && (decide (x.2.1 ≤ y.2.1) && (if y.2.2 = 0 then decide (x.1 = y.1) && decide (x.2.2 = 0) else decide ((x.1 - y.1) % y.2.2 = 0) && decide (x.2.2 % y.2.2 = 0)))) = false from by
            first
              | (rw [decide_eq_false (by omega)]; simp; done)
              | (rw [decide_eq_true (show y.1 ≤ x.1 by omega), decide_eq_false (by omega)]; simp; done)
              | (rw [if_pos (by omega), decide_eq_false (show ¬ (x.1 = y.1) by omega)]; simp; done)
              | (rw [if_pos (by omega), decide_eq_false (show ¬ (x.2.2 = 0) by omega)]; simp; done)
              | (rw [if_neg (by omega), decide_eq_false (show ¬ ((x.1 - y.1) % y.2.2 = 0) by omega)]; simp; done)
              | (rw [if_neg (by omega), decide_eq_false (show ¬ (x.2.2 % y.2.2 = 0) by omega)]; simp; done)]; rfl)
    · refine gi_lload (q := 16) C (dm_Mo_isIn 8 rfl) rfl rfl ?_
      refine gi_lconst (q := 17) (v := 0) C (dm_Mo_isIn 9 rfl) rfl (by decide) ?_
      refine gi_lcmp (q := 18) C (dm_Mo_isIn 10 rfl) rfl ?_
      refine gi_if_ne (q := 21) (tgt := 38) C (dm_Mo_isIn 11 rfl) rfl (by decide) (fun c18 => ?_) (fun c18 => ?_)
      · refine gi_lload_n (q := 39) (i := 0) C (dm_Mo_isIn 21 rfl) rfl rfl rfl ?_
        refine gi_lload (q := 41) C (dm_Mo_isIn 22 rfl) rfl rfl ?_
        refine gi_lsub (q := 42) C (dm_Mo_isIn 23 rfl) rfl ?_
        refine gi_lload (q := 44) C (dm_Mo_isIn 24 rfl) rfl rfl ?_
        refine gi_lrem (q := 45) C (dm_Mo_isIn 25 rfl) rfl (fun q => c18 ((lg_cmp_eq _ _).mpr q)) ?_
        refine gi_lconst (q := 46) (v := 0) C (dm_Mo_isIn 26 rfl) rfl (by decide) ?_
        refine gi_lcmp (q := 47) C (dm_Mo_isIn 27 rfl) rfl ?_
        refine gi_if_ne (q := 50) (tgt := 64) C (dm_Mo_isIn 28 rfl) rfl (by decide) (fun c47 => ?_) (fun c47 => ?_)
        · refine gi_iconst (q := 65) (v := 0) C (dm_Mo_isIn 37 rfl) rfl (by decide) ?_
          refine gi_zret C hr (dm_Mo_isIn 38 rfl) rfl ?_
          (try simp (disch := omega) only [lg_cmp_ge, lg_cmp_le, lg_cmp_gt, lg_cmp_lt, lg_cmp_eq, eL_0, eL_1, eL_m1, eL_LO, eL_HI, eL_W, eL_add, eL_sub, eL_mul, eL_neg, eL_lt, eL_le, eL_eq, eL_remN, eL_mod0, ne_eq, Int64.not_lt, Int64.not_le] at c4)
          (try simp (disch := omega) only [lg_cmp_ge, lg_cmp_le, lg_cmp_gt, lg_cmp_lt, lg_cmp_eq, eL_0, eL_1, eL_m1, eL_LO, eL_HI, eL_W, eL_add, eL_sub, eL_mul, eL_neg, eL_lt, eL_le, eL_eq, eL_remN, eL_mod0, ne_eq, Int64.not_lt, Int64.not_le] at c11)
          (try simp (disch := omega) only [lg_cmp_ge, lg_cmp_le, lg_cmp_gt, lg_cmp_lt, lg_cmp_eq, eL_0, eL_1, eL_m1, eL_LO, eL_HI, eL_W, eL_add, eL_sub, eL_mul, eL_neg, eL_lt, eL_le, eL_eq, eL_remN, eL_mod0, ne_eq, Int64.not_lt, Int64.not_le] at c18)
          (try simp (disch := omega) only [lg_cmp_ge, lg_cmp_le, lg_cmp_gt, lg_cmp_lt, lg_cmp_eq, eL_0, eL_1, eL_m1, eL_LO, eL_HI, eL_W, eL_add, eL_sub, eL_mul, eL_neg, eL_lt, eL_le, eL_eq, eL_remN, eL_mod0, ne_eq, Int64.not_lt, Int64.not_le] at c47)
          refine ⟨?_, rfl, rfl⟩
          rw [cov_in hx hy]
          first
            | (rw [show (decide (y.1 ≤ x.1) && (decide (x.2.1 ≤ y.2.1) && (if y.2.2 = 0 then decide (x.1 = y.1) && decide (x.2.2 = 0) else decide ((x.1 - y.1) % y.2.2 = 0) && decide (x.2.2 % y.2.2 = 0)))) = true from by
                first
                  | (rw [if_pos (by omega)]; simp; omega)
                  | (rw [if_neg (by omega)]; simp; omega)]; rfl)
            | (rw [show (decide (y.1 ≤ x.1) && (decide (x.2.1 ≤ y.2.1) && (if y.2.2 = 0 then decide (x.1 = y.1) && decide (x.2.2 = 0) else decide ((x.1 - y.1) % y.2.2 = 0) && decide (x.2.2 % y.2.2 = 0)))) = false from by
                first
                  | (rw [decide_eq_false (by omega)]; simp; done)
                  | (rw [decide_eq_true (show y.1 ≤ x.1 by omega), decide_eq_false (by omega)]; simp; done)
                  | (rw [if_pos (by omega), decide_eq_false (show ¬ (x.1 = y.1) by omega)]; simp; done)
                  | (rw [if_pos (by omega), decide_eq_false (show ¬ (x.2.2 = 0) by omega)]; simp; done)
                  | (rw [if_neg (by omega), decide_eq_false (show ¬ ((x.1 - y.1) % y.2.2 = 0) by omega)]; simp; done)
                  | (rw [if_neg (by omega), decide_eq_false (show ¬ (x.2.2 % y.2.2 = 0) by omega)]; simp; done)]; rfl)
        · refine gi_lload (q := 52) C (dm_Mo_isIn 29 rfl) rfl rfl ?_
          refine gi_lload (q := 54) C (dm_Mo_isIn 30 rfl) rfl rfl ?_
          refine gi_lrem (q := 55) C (dm_Mo_isIn 31 rfl) rfl (fun q => c18 ((lg_cmp_eq _ _).mpr q)) ?_
          refine gi_lconst (q := 56) (v := 0) C (dm_Mo_isIn 32 rfl) rfl (by decide) ?_
          refine gi_lcmp (q := 57) C (dm_Mo_isIn 33 rfl) rfl ?_
          refine gi_if_ne (q := 60) (tgt := 64) C (dm_Mo_isIn 34 rfl) rfl (by decide) (fun c57 => ?_) (fun c57 => ?_)
          · refine gi_iconst (q := 65) (v := 0) C (dm_Mo_isIn 37 rfl) rfl (by decide) ?_
            refine gi_zret C hr (dm_Mo_isIn 38 rfl) rfl ?_
            (try simp (disch := omega) only [lg_cmp_ge, lg_cmp_le, lg_cmp_gt, lg_cmp_lt, lg_cmp_eq, eL_0, eL_1, eL_m1, eL_LO, eL_HI, eL_W, eL_add, eL_sub, eL_mul, eL_neg, eL_lt, eL_le, eL_eq, eL_remN, eL_mod0, ne_eq, Int64.not_lt, Int64.not_le] at c4)
            (try simp (disch := omega) only [lg_cmp_ge, lg_cmp_le, lg_cmp_gt, lg_cmp_lt, lg_cmp_eq, eL_0, eL_1, eL_m1, eL_LO, eL_HI, eL_W, eL_add, eL_sub, eL_mul, eL_neg, eL_lt, eL_le, eL_eq, eL_remN, eL_mod0, ne_eq, Int64.not_lt, Int64.not_le] at c11)
            (try simp (disch := omega) only [lg_cmp_ge, lg_cmp_le, lg_cmp_gt, lg_cmp_lt, lg_cmp_eq, eL_0, eL_1, eL_m1, eL_LO, eL_HI, eL_W, eL_add, eL_sub, eL_mul, eL_neg, eL_lt, eL_le, eL_eq, eL_remN, eL_mod0, ne_eq, Int64.not_lt, Int64.not_le] at c18)
            (try simp (disch := omega) only [lg_cmp_ge, lg_cmp_le, lg_cmp_gt, lg_cmp_lt, lg_cmp_eq, eL_0, eL_1, eL_m1, eL_LO, eL_HI, eL_W, eL_add, eL_sub, eL_mul, eL_neg, eL_lt, eL_le, eL_eq, eL_remN, eL_mod0, ne_eq, Int64.not_lt, Int64.not_le] at c47)
            (try simp (disch := omega) only [lg_cmp_ge, lg_cmp_le, lg_cmp_gt, lg_cmp_lt, lg_cmp_eq, eL_0, eL_1, eL_m1, eL_LO, eL_HI, eL_W, eL_add, eL_sub, eL_mul, eL_neg, eL_lt, eL_le, eL_eq, eL_remN, eL_mod0, ne_eq, Int64.not_lt, Int64.not_le] at c57)
            refine ⟨?_, rfl, rfl⟩
            rw [cov_in hx hy]
            first
              | (rw [show (decide (y.1 ≤ x.1) && (decide (x.2.1 ≤ y.2.1) && (if y.2.2 = 0 then decide (x.1 = y.1) && decide (x.2.2 = 0) else decide ((x.1 - y.1) % y.2.2 = 0) && decide (x.2.2 % y.2.2 = 0)))) = true from by
                  first
                    | (rw [if_pos (by omega)]; simp; omega)
                    | (rw [if_neg (by omega)]; simp; omega)]; rfl)
              | (rw [show (decide (y.1 ≤ x.1) && (decide (x.2.1 ≤ y.2.1) && (if y.2.2 = 0 then decide (x.1 = y.1) && decide (x.2.2 = 0) else decide ((x.1 - y.1) % y.2.2 = 0) && decide (x.2.2 % y.2.2 = 0)))) = false from by
                  first
                    | (rw [decide_eq_false (by omega)]; simp; done)
                    | (rw [decide_eq_true (show y.1 ≤ x.1 by omega), decide_eq_false (by omega)]; simp; done)
                    | (rw [if_pos (by omega), decide_eq_false (show ¬ (x.1 = y.1) by omega)]; simp; done)
                    | (rw [if_pos (by omega), decide_eq_false (show ¬ (x.2.2 = 0) by omega)]; simp; done)
                    | (rw [if_neg (by omega), decide_eq_false (show ¬ ((x.1 - y.1) % y.2.2 = 0) by omega)]; simp; done)
                    | (rw [if_neg (by omega), decide_eq_false (show ¬ (x.2.2 % y.2.2 = 0) by omega)]; simp; done)]; rfl)
          · refine gi_iconst (q := 61) (v := 1) C (dm_Mo_isIn 35 rfl) rfl (by decide) ?_
            refine gi_goto (tgt := 65) C (dm_Mo_isIn 36 rfl) (by decide) ?_
            refine gi_zret C hr (dm_Mo_isIn 38 rfl) rfl ?_
            (try simp (disch := omega) only [lg_cmp_ge, lg_cmp_le, lg_cmp_gt, lg_cmp_lt, lg_cmp_eq, eL_0, eL_1, eL_m1, eL_LO, eL_HI, eL_W, eL_add, eL_sub, eL_mul, eL_neg, eL_lt, eL_le, eL_eq, eL_remN, eL_mod0, ne_eq, Int64.not_lt, Int64.not_le] at c4)
            (try simp (disch := omega) only [lg_cmp_ge, lg_cmp_le, lg_cmp_gt, lg_cmp_lt, lg_cmp_eq, eL_0, eL_1, eL_m1, eL_LO, eL_HI, eL_W, eL_add, eL_sub, eL_mul, eL_neg, eL_lt, eL_le, eL_eq, eL_remN, eL_mod0, ne_eq, Int64.not_lt, Int64.not_le] at c11)
            (try simp (disch := omega) only [lg_cmp_ge, lg_cmp_le, lg_cmp_gt, lg_cmp_lt, lg_cmp_eq, eL_0, eL_1, eL_m1, eL_LO, eL_HI, eL_W, eL_add, eL_sub, eL_mul, eL_neg, eL_lt, eL_le, eL_eq, eL_remN, eL_mod0, ne_eq, Int64.not_lt, Int64.not_le] at c18)
            (try simp (disch := omega) only [lg_cmp_ge, lg_cmp_le, lg_cmp_gt, lg_cmp_lt, lg_cmp_eq, eL_0, eL_1, eL_m1, eL_LO, eL_HI, eL_W, eL_add, eL_sub, eL_mul, eL_neg, eL_lt, eL_le, eL_eq, eL_remN, eL_mod0, ne_eq, Int64.not_lt, Int64.not_le] at c47)
            (try simp (disch := omega) only [lg_cmp_ge, lg_cmp_le, lg_cmp_gt, lg_cmp_lt, lg_cmp_eq, eL_0, eL_1, eL_m1, eL_LO, eL_HI, eL_W, eL_add, eL_sub, eL_mul, eL_neg, eL_lt, eL_le, eL_eq, eL_remN, eL_mod0, ne_eq, Int64.not_lt, Int64.not_le] at c57)
            refine ⟨?_, rfl, rfl⟩
            rw [cov_in hx hy]
            first
              | (rw [show (decide (y.1 ≤ x.1) && (decide (x.2.1 ≤ y.2.1) && (if y.2.2 = 0 then decide (x.1 = y.1) && decide (x.2.2 = 0) else decide ((x.1 - y.1) % y.2.2 = 0) && decide (x.2.2 % y.2.2 = 0)))) = true from by
                  first
                    | (rw [if_pos (by omega)]; simp; omega)
                    | (rw [if_neg (by omega)]; simp; omega)]; rfl)
              | (rw [show (decide (y.1 ≤ x.1) && (decide (x.2.1 ≤ y.2.1) && (if y.2.2 = 0 then decide (x.1 = y.1) && decide (x.2.2 = 0) else decide ((x.1 - y.1) % y.2.2 = 0) && decide (x.2.2 % y.2.2 = 0)))) = false from by
                  first
                    | (rw [decide_eq_false (by omega)]; simp; done)
                    | (rw [decide_eq_true (show y.1 ≤ x.1 by omega), decide_eq_false (by omega)]; simp; done)
                    | (rw [if_pos (by omega), decide_eq_false (show ¬ (x.1 = y.1) by omega)]; simp; done)
                    | (rw [if_pos (by omega), decide_eq_false (show ¬ (x.2.2 = 0) by omega)]; simp; done)
                    | (rw [if_neg (by omega), decide_eq_false (show ¬ ((x.1 - y.1) % y.2.2 = 0) by omega)]; simp; done)
                    | (rw [if_neg (by omega), decide_eq_false (show ¬ (x.2.2 % y.2.2 = 0) by omega)]; simp; done)]; rfl)
      · refine gi_lload_n (q := 22) (i := 0) C (dm_Mo_isIn 12 rfl) rfl rfl rfl ?_
        refine gi_lload (q := 24) C (dm_Mo_isIn 13 rfl) rfl rfl ?_
        refine gi_lcmp (q := 25) C (dm_Mo_isIn 14 rfl) rfl ?_
        refine gi_if_ne (q := 28) (tgt := 64) C (dm_Mo_isIn 15 rfl) rfl (by decide) (fun c25 => ?_) (fun c25 => ?_)
        · refine gi_iconst (q := 65) (v := 0) C (dm_Mo_isIn 37 rfl) rfl (by decide) ?_
          refine gi_zret C hr (dm_Mo_isIn 38 rfl) rfl ?_
          (try simp (disch := omega) only [lg_cmp_ge, lg_cmp_le, lg_cmp_gt, lg_cmp_lt, lg_cmp_eq, eL_0, eL_1, eL_m1, eL_LO, eL_HI, eL_W, eL_add, eL_sub, eL_mul, eL_neg, eL_lt, eL_le, eL_eq, eL_remN, eL_mod0, ne_eq, Int64.not_lt, Int64.not_le] at c4)
          (try simp (disch := omega) only [lg_cmp_ge, lg_cmp_le, lg_cmp_gt, lg_cmp_lt, lg_cmp_eq, eL_0, eL_1, eL_m1, eL_LO, eL_HI, eL_W, eL_add, eL_sub, eL_mul, eL_neg, eL_lt, eL_le, eL_eq, eL_remN, eL_mod0, ne_eq, Int64.not_lt, Int64.not_le] at c11)
          (try simp (disch := omega) only [lg_cmp_ge, lg_cmp_le, lg_cmp_gt, lg_cmp_lt, lg_cmp_eq, eL_0, eL_1, eL_m1, eL_LO, eL_HI, eL_W, eL_add, eL_sub, eL_mul, eL_neg, eL_lt, eL_le, eL_eq, eL_remN, eL_mod0, ne_eq, Int64.not_lt, Int64.not_le] at c18)
          (try simp (disch := omega) only [lg_cmp_ge, lg_cmp_le, lg_cmp_gt, lg_cmp_lt, lg_cmp_eq, eL_0, eL_1, eL_m1, eL_LO, eL_HI, eL_W, eL_add, eL_sub, eL_mul, eL_neg, eL_lt, eL_le, eL_eq, eL_remN, eL_mod0, ne_eq, Int64.not_lt, Int64.not_le] at c25)
          refine ⟨?_, rfl, rfl⟩
          rw [cov_in hx hy]
          first
            | (rw [show (decide (y.1 ≤ x.1) && (decide (x.2.1 ≤ y.2.1) && (if y.2.2 = 0 then decide (x.1 = y.1) && decide (x.2.2 = 0) else decide ((x.1 - y.1) % y.2.2 = 0) && decide (x.2.2 % y.2.2 = 0)))) = true from by
                first
                  | (rw [if_pos (by omega)]; simp; omega)
                  | (rw [if_neg (by omega)]; simp; omega)]; rfl)
            | (rw [show (decide (y.1 ≤ x.1) && (decide (x.2.1 ≤ y.2.1) && (if y.2.2 = 0 then decide (x.1 = y.1) && decide (x.2.2 = 0) else decide ((x.1 - y.1) % y.2.2 = 0) && decide (x.2.2 % y.2.2 = 0)))) = false from by
                first
                  | (rw [decide_eq_false (by omega)]; simp; done)
                  | (rw [decide_eq_true (show y.1 ≤ x.1 by omega), decide_eq_false (by omega)]; simp; done)
                  | (rw [if_pos (by omega), decide_eq_false (show ¬ (x.1 = y.1) by omega)]; simp; done)
                  | (rw [if_pos (by omega), decide_eq_false (show ¬ (x.2.2 = 0) by omega)]; simp; done)
                  | (rw [if_neg (by omega), decide_eq_false (show ¬ ((x.1 - y.1) % y.2.2 = 0) by omega)]; simp; done)
                  | (rw [if_neg (by omega), decide_eq_false (show ¬ (x.2.2 % y.2.2 = 0) by omega)]; simp; done)]; rfl)
        · refine gi_lload (q := 30) C (dm_Mo_isIn 16 rfl) rfl rfl ?_
          refine gi_lconst (q := 31) (v := 0) C (dm_Mo_isIn 17 rfl) rfl (by decide) ?_
          refine gi_lcmp (q := 32) C (dm_Mo_isIn 18 rfl) rfl ?_
          refine gi_if_ne (q := 35) (tgt := 64) C (dm_Mo_isIn 19 rfl) rfl (by decide) (fun c32 => ?_) (fun c32 => ?_)
          · refine gi_iconst (q := 65) (v := 0) C (dm_Mo_isIn 37 rfl) rfl (by decide) ?_
            refine gi_zret C hr (dm_Mo_isIn 38 rfl) rfl ?_
            (try simp (disch := omega) only [lg_cmp_ge, lg_cmp_le, lg_cmp_gt, lg_cmp_lt, lg_cmp_eq, eL_0, eL_1, eL_m1, eL_LO, eL_HI, eL_W, eL_add, eL_sub, eL_mul, eL_neg, eL_lt, eL_le, eL_eq, eL_remN, eL_mod0, ne_eq, Int64.not_lt, Int64.not_le] at c4)
            (try simp (disch := omega) only [lg_cmp_ge, lg_cmp_le, lg_cmp_gt, lg_cmp_lt, lg_cmp_eq, eL_0, eL_1, eL_m1, eL_LO, eL_HI, eL_W, eL_add, eL_sub, eL_mul, eL_neg, eL_lt, eL_le, eL_eq, eL_remN, eL_mod0, ne_eq, Int64.not_lt, Int64.not_le] at c11)
            (try simp (disch := omega) only [lg_cmp_ge, lg_cmp_le, lg_cmp_gt, lg_cmp_lt, lg_cmp_eq, eL_0, eL_1, eL_m1, eL_LO, eL_HI, eL_W, eL_add, eL_sub, eL_mul, eL_neg, eL_lt, eL_le, eL_eq, eL_remN, eL_mod0, ne_eq, Int64.not_lt, Int64.not_le] at c18)
            (try simp (disch := omega) only [lg_cmp_ge, lg_cmp_le, lg_cmp_gt, lg_cmp_lt, lg_cmp_eq, eL_0, eL_1, eL_m1, eL_LO, eL_HI, eL_W, eL_add, eL_sub, eL_mul, eL_neg, eL_lt, eL_le, eL_eq, eL_remN, eL_mod0, ne_eq, Int64.not_lt, Int64.not_le] at c25)
            (try simp (disch := omega) only [lg_cmp_ge, lg_cmp_le, lg_cmp_gt, lg_cmp_lt, lg_cmp_eq, eL_0, eL_1, eL_m1, eL_LO, eL_HI, eL_W, eL_add, eL_sub, eL_mul, eL_neg, eL_lt, eL_le, eL_eq, eL_remN, eL_mod0, ne_eq, Int64.not_lt, Int64.not_le] at c32)
            refine ⟨?_, rfl, rfl⟩
            rw [cov_in hx hy]
            first
              | (rw [show (decide (y.1 ≤ x.1) && (decide (x.2.1 ≤ y.2.1) && (if y.2.2 = 0 then decide (x.1 = y.1) && decide (x.2.2 = 0) else decide ((x.1 - y.1) % y.2.2 = 0) && decide (x.2.2 % y.2.2 = 0)))) = true from by
                  first
                    | (rw [if_pos (by omega)]; simp; omega)
                    | (rw [if_neg (by omega)]; simp; omega)]; rfl)
              | (rw [show (decide (y.1 ≤ x.1) && (decide (x.2.1 ≤ y.2.1) && (if y.2.2 = 0 then decide (x.1 = y.1) && decide (x.2.2 = 0) else decide ((x.1 - y.1) % y.2.2 = 0) && decide (x.2.2 % y.2.2 = 0)))) = false from by
                  first
                    | (rw [decide_eq_false (by omega)]; simp; done)
                    | (rw [decide_eq_true (show y.1 ≤ x.1 by omega), decide_eq_false (by omega)]; simp; done)
                    | (rw [if_pos (by omega), decide_eq_false (show ¬ (x.1 = y.1) by omega)]; simp; done)
                    | (rw [if_pos (by omega), decide_eq_false (show ¬ (x.2.2 = 0) by omega)]; simp; done)
                    | (rw [if_neg (by omega), decide_eq_false (show ¬ ((x.1 - y.1) % y.2.2 = 0) by omega)]; simp; done)
                    | (rw [if_neg (by omega), decide_eq_false (show ¬ (x.2.2 % y.2.2 = 0) by omega)]; simp; done)]; rfl)
          · refine gi_goto (tgt := 60) C (dm_Mo_isIn 20 rfl) (by decide) ?_
            refine gi_iconst (q := 61) (v := 1) C (dm_Mo_isIn 35 rfl) rfl (by decide) ?_
            refine gi_goto (tgt := 65) C (dm_Mo_isIn 36 rfl) (by decide) ?_
            refine gi_zret C hr (dm_Mo_isIn 38 rfl) rfl ?_
            (try simp (disch := omega) only [lg_cmp_ge, lg_cmp_le, lg_cmp_gt, lg_cmp_lt, lg_cmp_eq, eL_0, eL_1, eL_m1, eL_LO, eL_HI, eL_W, eL_add, eL_sub, eL_mul, eL_neg, eL_lt, eL_le, eL_eq, eL_remN, eL_mod0, ne_eq, Int64.not_lt, Int64.not_le] at c4)
            (try simp (disch := omega) only [lg_cmp_ge, lg_cmp_le, lg_cmp_gt, lg_cmp_lt, lg_cmp_eq, eL_0, eL_1, eL_m1, eL_LO, eL_HI, eL_W, eL_add, eL_sub, eL_mul, eL_neg, eL_lt, eL_le, eL_eq, eL_remN, eL_mod0, ne_eq, Int64.not_lt, Int64.not_le] at c11)
            (try simp (disch := omega) only [lg_cmp_ge, lg_cmp_le, lg_cmp_gt, lg_cmp_lt, lg_cmp_eq, eL_0, eL_1, eL_m1, eL_LO, eL_HI, eL_W, eL_add, eL_sub, eL_mul, eL_neg, eL_lt, eL_le, eL_eq, eL_remN, eL_mod0, ne_eq, Int64.not_lt, Int64.not_le] at c18)
            (try simp (disch := omega) only [lg_cmp_ge, lg_cmp_le, lg_cmp_gt, lg_cmp_lt, lg_cmp_eq, eL_0, eL_1, eL_m1, eL_LO, eL_HI, eL_W, eL_add, eL_sub, eL_mul, eL_neg, eL_lt, eL_le, eL_eq, eL_remN, eL_mod0, ne_eq, Int64.not_lt, Int64.not_le] at c25)
            (try simp (disch := omega) only [lg_cmp_ge, lg_cmp_le, lg_cmp_gt, lg_cmp_lt, lg_cmp_eq, eL_0, eL_1, eL_m1, eL_LO, eL_HI, eL_W, eL_add, eL_sub, eL_mul, eL_neg, eL_lt, eL_le, eL_eq, eL_remN, eL_mod0, ne_eq, Int64.not_lt, Int64.not_le] at c32)
            refine ⟨?_, rfl, rfl⟩
            rw [cov_in hx hy]
            first
              | (rw [show (decide (y.1 ≤ x.1) && (decide (x.2.1 ≤ y.2.1) && (if y.2.2 = 0 then decide (x.1 = y.1) && decide (x.2.2 = 0) else decide ((x.1 - y.1) % y.2.2 = 0) && decide (x.2.2 % y.2.2 = 0)))) = true from by
                  first
                    | (rw [if_pos (by omega)]; simp; omega)
                    | (rw [if_neg (by omega)]; simp; omega)]; rfl)
              | (rw [show (decide (y.1 ≤ x.1) && (decide (x.2.1 ≤ y.2.1) && (if y.2.2 = 0 then decide (x.1 = y.1) && decide (x.2.2 = 0) else decide ((x.1 - y.1) % y.2.2 = 0) && decide (x.2.2 % y.2.2 = 0)))) = false from by
                  first
                    | (rw [decide_eq_false (by omega)]; simp; done)
                    | (rw [decide_eq_true (show y.1 ≤ x.1 by omega), decide_eq_false (by omega)]; simp; done)
                    | (rw [if_pos (by omega), decide_eq_false (show ¬ (x.1 = y.1) by omega)]; simp; done)
                    | (rw [if_pos (by omega), decide_eq_false (show ¬ (x.2.2 = 0) by omega)]; simp; done)
                    | (rw [if_neg (by omega), decide_eq_false (show ¬ ((x.1 - y.1) % y.2.2 = 0) by omega)]; simp; done)
                    | (rw [if_neg (by omega), decide_eq_false (show ¬ (x.2.2 % y.2.2 = 0) by omega)]; simp; done)]; rfl)
set_option maxHeartbeats 4000000 in
set_option maxRecDepth 100000 in
theorem c_Mo_all (H : mo_at M S J F G h) : gi_T l V y_Mo_all b_Mo_all 3 none 1 26 0 0 [.ref M, .long (eL 1)] n h (fun v n' h' => v = none ∧ n' = n ∧ moN M F G h S J allS h') := by
  refine gi_enter (by decide) (Nat.le_of_ble_eq_true rfl) ?_
  intro _ _ _ _ _ _ _ _ C hr hnm
  obtain ⟨fs, Ha, Hf⟩ := id H.1
  have ho : outM M h h := outM.rf
  refine gi_aload_n (q := 1) (i := 0) C (dm_Mo_all 0 rfl) rfl rfl rfl ?_
  refine gi_ldc2 (q := 4) C (dm_Mo_all 1 rfl) rfl kc_Mo_273 ?_
  refine gi_ldc2 (q := 7) C (dm_Mo_all 2 rfl) rfl kc_Mo_280 ?_
  refine gi_lload_n (q := 8) (i := 1) C (dm_Mo_all 3 rfl) rfl rfl rfl ?_
  rw [eL_LO, eL_HI]
  refine gi_callv 3 (q := 11) C (dm_Mo_all 4 rfl) rfl my_Mo_set lk_Mo_262 im_Mo_set rfl (c_Mo_set (-2147483648) 2147483647 1 (by decide) (by decide) (by decide) (by decide) H) Ha rfl rfl ⟨(Nat.le_of_ble_eq_true rfl), (Nat.le_of_ble_eq_true rfl)⟩ (Nat.le_of_ble_eq_true rfl) ⟨(Nat.le_of_ble_eq_true rfl), (Nat.le_of_ble_eq_true rfl)⟩ (fun r8 n8 h8 e8 => ?_)
  obtain ⟨rfl, rfl, W8⟩ := e8
  refine gi_vret C hr (dm_Mo_all 5 rfl) ?_
  exact ⟨rfl, rfl, W8⟩
set_option maxHeartbeats 4000000 in
set_option maxRecDepth 100000 in
theorem c_Mo_low5 (y : Int) : gi_T l V y_Mo_low5 b_Mo_low5 2 (some .long) 0 0 0 0 [.long (eL y)] n h (gi_is (some (.long (eL (y % 32)))) n h) := by
  refine gi_enter (by decide) (Nat.le_of_ble_eq_true rfl) ?_
  intro _ _ _ _ _ _ _ _ C hr hnm
  refine gi_lload_n (q := 1) (i := 0) C (dm_Mo_low5 0 rfl) rfl rfl rfl ?_
  refine gi_ldc2 (q := 4) C (dm_Mo_low5 1 rfl) rfl kc_Mo_285 ?_
  refine gi_land (q := 5) C (dm_Mo_low5 2 rfl) rfl ?_
  refine gi_lret C hr (dm_Mo_low5 3 rfl) ?_
  exact ⟨by rw [sp_low5L], rfl, rfl⟩
set_option maxHeartbeats 4000000 in
set_option maxRecDepth 100000 in
theorem c_Mo_set_same (u : Int64) (H : mo_at M S J F G h) : gi_T l V y_Mo_set b_Mo_set 7 none 0 0 0 0 [.ref M, .long u, .long u, .long 0] n h (fun v n' h' => v = none ∧ n' = n ∧ moN M F G h S J (u.toInt, u.toInt, 0) h') := by
  refine gi_enter (by decide) (Nat.le_of_ble_eq_true rfl) ?_
  intro _ _ _ _ _ _ _ _ C hr hnm
  obtain ⟨fs, Ha, Hf⟩ := id H.1
  have ho : outM M h h := outM.rf
  refine gi_aload_n (q := 1) (i := 0) C (dm_Mo_set 0 rfl) rfl rfl rfl ?_
  refine gi_lload_n (q := 2) (i := 1) C (dm_Mo_set 1 rfl) rfl rfl rfl ?_
  refine gi_put (q := 5) C (dm_Mo_set 2 rfl) rfl fl_Mo_242 fp_Mo_22 Ha (by rw [Hf.1]; decide) rfl rfl ?_
  refine gi_genM (H.putJ Ha Hf (by decide) rfl) (ho.up (by omega) (by omega)) (fun y H ho => ?_)
  obtain ⟨fs, Ha, Hf⟩ := id H.1
  refine gi_aload_n (q := 6) (i := 0) C (dm_Mo_set 3 rfl) rfl rfl rfl ?_
  refine gi_lload_n (q := 7) (i := 3) C (dm_Mo_set 4 rfl) rfl rfl rfl ?_
  refine gi_put (q := 10) C (dm_Mo_set 5 rfl) rfl fl_Mo_246 fp_Mo_23 Ha (by rw [Hf.1]; decide) rfl rfl ?_
  refine gi_genM (H.putJ Ha Hf (by decide) rfl) (ho.up (by omega) (by omega)) (fun y H ho => ?_)
  obtain ⟨fs, Ha, Hf⟩ := id H.1
  refine gi_aload_n (q := 11) (i := 0) C (dm_Mo_set 6 rfl) rfl rfl rfl ?_
  refine gi_lload_n (q := 12) (i := 1) C (dm_Mo_set 7 rfl) rfl rfl rfl ?_
  refine gi_lload_n (q := 13) (i := 3) C (dm_Mo_set 8 rfl) rfl rfl rfl ?_
  refine gi_lcmp (q := 14) C (dm_Mo_set 9 rfl) rfl ?_
  refine gi_if_ne (q := 17) (tgt := 21) C (dm_Mo_set 10 rfl) rfl (by decide) (fun c14 => ?_) (fun c14 => ?_)
  · exact absurd ((lg_cmp_eq _ _).mpr rfl) c14
  · refine gi_lconst (q := 18) (v := 0) C (dm_Mo_set 11 rfl) rfl (by decide) ?_
    refine gi_goto (tgt := 23) C (dm_Mo_set 12 rfl) (by decide) ?_
    refine gi_put (q := 26) C (dm_Mo_set 14 rfl) rfl fl_Mo_249 fp_Mo_24 Ha (by rw [Hf.1]; decide) rfl rfl ?_
    refine gi_genM (H.putJ Ha Hf (by decide) rfl) (ho.up (by omega) (by omega)) (fun y H ho => ?_)
    obtain ⟨fs, Ha, Hf⟩ := id H.1
    refine gi_vret C hr (dm_Mo_set 15 rfl) ?_
    refine ⟨rfl, rfl, _, _, H, ho, ⟨fun j hj => by
        unfold upL
        rw [if_neg (by omega), if_neg (by omega), if_neg (by omega)], rfl⟩, ?_⟩
    exact ⟨eL_of u, eL_of u, rfl⟩
set_option maxHeartbeats 4000000 in
set_option maxRecDepth 100000 in
theorem c_Mo_times (c : Int) (x : Sp) (c1 : -2147483648 ≤ c) (c2 : c ≤ 2147483648) (hx : okS x) (H : mo_at M S J F G h) : gi_T l V y_Mo_times b_Mo_times 13 none 2 61 0 0 [.ref M, .long (eL c), .long (eL x.1), .long (eL x.2.1), .long (eL x.2.2)] n h (fun v n' h' => v = none ∧ n' = n ∧ moN M F G h S J (timesS c x) h') := by
  refine gi_enter (by decide) (Nat.le_of_ble_eq_true rfl) ?_
  intro _ _ _ _ _ _ _ _ C hr hnm
  obtain ⟨fs, Ha, Hf⟩ := id H.1
  have ho : outM M h h := outM.rf
  obtain ⟨m1, m2, m3, m4⟩ := mul_c hx c1 c2
  obtain ⟨x1, x2, x3, x4, -⟩ := id hx
  have x5 := hx.st
  refine gi_lload_n (q := 1) (i := 1) C (dm_Mo_times 0 rfl) rfl rfl rfl ?_
  refine gi_lload_n (q := 2) (i := 3) C (dm_Mo_times 1 rfl) rfl rfl rfl ?_
  refine gi_lmul (q := 3) C (dm_Mo_times 2 rfl) rfl ?_
  rw [eL_mul]
  refine gi_lstore (q := 5) C (dm_Mo_times 3 rfl) rfl (Nat.le_of_ble_eq_true rfl) ?_
  refine gi_lload_n (q := 6) (i := 1) C (dm_Mo_times 4 rfl) rfl rfl rfl ?_
  refine gi_lload (q := 8) C (dm_Mo_times 5 rfl) rfl rfl ?_
  refine gi_lmul (q := 9) C (dm_Mo_times 6 rfl) rfl ?_
  rw [eL_mul]
  refine gi_lstore (q := 11) C (dm_Mo_times 7 rfl) rfl (Nat.le_of_ble_eq_true rfl) ?_
  refine gi_aload_n (q := 12) (i := 0) C (dm_Mo_times 8 rfl) rfl rfl rfl ?_
  refine gi_lload (q := 14) C (dm_Mo_times 9 rfl) rfl rfl ?_
  refine gi_lload (q := 16) C (dm_Mo_times 10 rfl) rfl rfl ?_
  refine gi_calls 2 (q := 19) C (dm_Mo_times 11 rfl) rfl my_Mo_min lk_Mo_252 sm_Mo_min (c_Mo_min (c * x.1) (c * x.2.1) (by omega) (by omega) (by omega) (by omega)) rfl rfl ⟨(Nat.le_of_ble_eq_true rfl), (Nat.le_of_ble_eq_true rfl)⟩ (Nat.le_of_ble_eq_true rfl) ⟨(Nat.le_of_ble_eq_true rfl), (Nat.le_of_ble_eq_true rfl)⟩ (fun r16 n16 h16 e16 => ?_)
  obtain ⟨rfl, q16, u16⟩ := e16
  rw [q16, u16]
  refine gi_lload (q := 21) C (dm_Mo_times 12 rfl) rfl rfl ?_
  refine gi_lload (q := 23) C (dm_Mo_times 13 rfl) rfl rfl ?_
  refine gi_calls 2 (q := 26) C (dm_Mo_times 14 rfl) rfl my_Mo_max lk_Mo_256 sm_Mo_max (c_Mo_max (c * x.1) (c * x.2.1) (by omega) (by omega) (by omega) (by omega)) rfl rfl ⟨(Nat.le_of_ble_eq_true rfl), (Nat.le_of_ble_eq_true rfl)⟩ (Nat.le_of_ble_eq_true rfl) ⟨(Nat.le_of_ble_eq_true rfl), (Nat.le_of_ble_eq_true rfl)⟩ (fun r23 n23 h23 e23 => ?_)
  obtain ⟨rfl, q23, u23⟩ := e23
  rw [q23, u23]
  refine gi_lload_n (q := 27) (i := 1) C (dm_Mo_times 15 rfl) rfl rfl rfl ?_
  refine gi_lconst (q := 28) (v := 0) C (dm_Mo_times 16 rfl) rfl (by decide) ?_
  refine gi_lcmp (q := 29) C (dm_Mo_times 17 rfl) rfl ?_
  refine gi_if_ge (q := 32) (tgt := 37) C (dm_Mo_times 18 rfl) rfl (by decide) (fun c29 => ?_) (fun c29 => ?_)
  · refine gi_lload_n (q := 38) (i := 1) C (dm_Mo_times 22 rfl) rfl rfl rfl ?_
    refine gi_lload (q := 40) C (dm_Mo_times 23 rfl) rfl rfl ?_
    refine gi_lmul (q := 41) C (dm_Mo_times 24 rfl) rfl ?_
    (try simp (disch := omega) only [lg_cmp_ge, lg_cmp_le, lg_cmp_gt, lg_cmp_lt, lg_cmp_eq, eL_0, eL_1, eL_m1, eL_LO, eL_HI, eL_W, eL_add, eL_sub, eL_mul, eL_neg, eL_lt, eL_le, eL_eq, eL_remN, eL_mod0, ne_eq, Int64.not_lt, Int64.not_le] at c29)
    have k := m3 (by omega)
    rw [eL_mul, show min (c * x.1) (c * x.2.1) = c * x.1 by omega, show max (c * x.1) (c * x.2.1) = c * x.2.1 by omega]
    refine gi_callv 3 (q := 44) C (dm_Mo_times 25 rfl) rfl my_Mo_turned lk_Mo_282 im_Mo_turned rfl (c_Mo_turned (c * x.1) (c * x.2.1) (c * x.2.2) (by omega) (by omega) (by omega) (by omega) (by omega) (by omega) H) Ha rfl rfl ⟨(Nat.le_of_ble_eq_true rfl), (Nat.le_of_ble_eq_true rfl)⟩ (Nat.le_of_ble_eq_true rfl) ⟨(Nat.le_of_ble_eq_true rfl), (Nat.le_of_ble_eq_true rfl)⟩ (fun r41 n41 h41 e41 => ?_)
    obtain ⟨rfl, rfl, W41⟩ := e41
    refine gi_vret C hr (dm_Mo_times 26 rfl) ?_
    rw [show timesS c x = turnS (c * x.1) (c * x.2.1) (c * x.2.2) from by
      unfold timesS
      rw [if_pos (by omega)]]
    exact ⟨rfl, rfl, W41⟩
  · refine gi_lload_n (q := 33) (i := 1) C (dm_Mo_times 19 rfl) rfl rfl rfl ?_
    refine gi_lneg (q := 34) C (dm_Mo_times 20 rfl) rfl ?_
    refine gi_goto (tgt := 38) C (dm_Mo_times 21 rfl) (by decide) ?_
    refine gi_lload (q := 40) C (dm_Mo_times 23 rfl) rfl rfl ?_
    refine gi_lmul (q := 41) C (dm_Mo_times 24 rfl) rfl ?_
    (try simp (disch := omega) only [lg_cmp_ge, lg_cmp_le, lg_cmp_gt, lg_cmp_lt, lg_cmp_eq, eL_0, eL_1, eL_m1, eL_LO, eL_HI, eL_W, eL_add, eL_sub, eL_mul, eL_neg, eL_lt, eL_le, eL_eq, eL_remN, eL_mod0, ne_eq, Int64.not_lt, Int64.not_le] at c29)
    have k := m4 (by omega)
    rw [eL_neg, eL_mul, show min (c * x.1) (c * x.2.1) = c * x.2.1 by omega, show max (c * x.1) (c * x.2.1) = c * x.1 by omega]
    refine gi_callv 3 (q := 44) C (dm_Mo_times 25 rfl) rfl my_Mo_turned lk_Mo_282 im_Mo_turned rfl (c_Mo_turned (c * x.2.1) (c * x.1) (-c * x.2.2) (by omega) (by omega) (by omega) (by omega) (by omega) (by omega) H) Ha rfl rfl ⟨(Nat.le_of_ble_eq_true rfl), (Nat.le_of_ble_eq_true rfl)⟩ (Nat.le_of_ble_eq_true rfl) ⟨(Nat.le_of_ble_eq_true rfl), (Nat.le_of_ble_eq_true rfl)⟩ (fun r41 n41 h41 e41 => ?_)
    obtain ⟨rfl, rfl, W41⟩ := e41
    refine gi_vret C hr (dm_Mo_times 26 rfl) ?_
    rw [show timesS c x = turnS (c * x.2.1) (c * x.1) (-c * x.2.2) from by
      unfold timesS
      rw [if_neg (by omega)]]
    exact ⟨rfl, rfl, W41⟩
theorem pw31 : ∀ j : Nat, j < 32 → (2 : Int) ^ j ≤ 2147483648 := by decide +kernel
set_option maxHeartbeats 4000000 in
set_option maxRecDepth 100000 in
theorem c_Mo_logic (op : Nat) (x y : Sp) (h12 : 12 ≤ op) (h14 : op ≤ 14) (hx : okS x) (hy : okS y) (H : mo_at M S J F G h) : gi_T l V y_Mo_logic b_Mo_logic 12 none 2 48 0 0 [.ref M, .int (nI op), .long (eL x.1), .long (eL x.2.1), .long (eL y.1), .long (eL y.2.1)] n h (fun v n' h' => v = none ∧ n' = n ∧ moN M F G h S J (logS op x y) h') := by
  refine gi_enter (by decide) (Nat.le_of_ble_eq_true rfl) ?_
  intro _ _ _ _ _ _ _ _ C hr hnm
  obtain ⟨fs, Ha, Hf⟩ := id H.1
  have ho : outM M h h := outM.rf
  have jo12 : (nI op = 12) = (op = 12) := nI_eqP (b := 12) (by omega) (by decide)
  have jo13 : (nI op = 13) = (op = 13) := nI_eqP (b := 13) (by omega) (by decide)
  obtain ⟨x1, x2, x3, x4, -⟩ := id hx
  have x5 := hx.st
  obtain ⟨y1, y2, y3, y4, -⟩ := id hy
  have y5 := hy.st
  refine gi_lload_n (q := 1) (i := 2) C (dm_Mo_logic 0 rfl) rfl rfl rfl ?_
  refine gi_lload (q := 3) C (dm_Mo_logic 1 rfl) rfl rfl ?_
  refine gi_lcmp (q := 4) C (dm_Mo_logic 2 rfl) rfl ?_
  refine gi_if_ne (q := 7) (tgt := 59) C (dm_Mo_logic 3 rfl) rfl (by decide) (fun c4 => ?_) (fun c4 => ?_)
  · refine gi_iload_n (q := 60) (i := 1) C (dm_Mo_logic 32 rfl) rfl rfl rfl ?_
    refine gi_bipush (q := 62) (v := 12) C (dm_Mo_logic 33 rfl) rfl (by decide) ?_
    refine gi_icmp_ne (q := 65) (tgt := 137) C (dm_Mo_logic 34 rfl) rfl (by decide) (fun c62 => ?_) (fun c62 => ?_)
    · refine gi_lload_n (q := 138) (i := 2) C (dm_Mo_logic 75 rfl) rfl rfl rfl ?_
      refine gi_lconst (q := 139) (v := 0) C (dm_Mo_logic 76 rfl) rfl (by decide) ?_
      refine gi_lcmp (q := 140) C (dm_Mo_logic 77 rfl) rfl ?_
      refine gi_if_lt (q := 143) (tgt := 205) C (dm_Mo_logic 78 rfl) rfl (by decide) (fun c140 => ?_) (fun c140 => ?_)
      · refine gi_aload_n (q := 206) (i := 0) C (dm_Mo_logic 111 rfl) rfl rfl rfl ?_
        refine gi_lconst (q := 207) (v := 1) C (dm_Mo_logic 112 rfl) rfl (by decide) ?_
        rw [eL_1]
        refine gi_callv 1 (q := 210) C (dm_Mo_logic 113 rfl) rfl my_Mo_all lk_Mo_295 im_Mo_all rfl (c_Mo_all H) Ha rfl rfl ⟨(Nat.le_of_ble_eq_true rfl), (Nat.le_of_ble_eq_true rfl)⟩ (Nat.le_of_ble_eq_true rfl) ⟨(Nat.le_of_ble_eq_true rfl), (Nat.le_of_ble_eq_true rfl)⟩ (fun r207 n207 h207 e207 => ?_)
        obtain ⟨rfl, rfl, W207⟩ := e207
        refine gi_vret C hr (dm_Mo_logic 114 rfl) ?_
        (try simp (disch := omega) only [lg_cmp_ge, lg_cmp_le, lg_cmp_gt, lg_cmp_lt, lg_cmp_eq, eL_0, eL_1, eL_m1, eL_LO, eL_HI, eL_W, eL_add, eL_sub, eL_mul, eL_neg, eL_lt, eL_le, eL_eq, eL_remN, eL_mod0, ne_eq, Int64.not_lt, Int64.not_le] at c4)
        (try simp (disch := omega) only [lg_cmp_ge, lg_cmp_le, lg_cmp_gt, lg_cmp_lt, lg_cmp_eq, eL_0, eL_1, eL_m1, eL_LO, eL_HI, eL_W, eL_add, eL_sub, eL_mul, eL_neg, eL_lt, eL_le, eL_eq, eL_remN, eL_mod0, ne_eq, Int64.not_lt, Int64.not_le] at c12)
        (try simp (disch := omega) only [lg_cmp_ge, lg_cmp_le, lg_cmp_gt, lg_cmp_lt, lg_cmp_eq, eL_0, eL_1, eL_m1, eL_LO, eL_HI, eL_W, eL_add, eL_sub, eL_mul, eL_neg, eL_lt, eL_le, eL_eq, eL_remN, eL_mod0, ne_eq, Int64.not_lt, Int64.not_le] at c68)
        (try simp (disch := omega) only [lg_cmp_ge, lg_cmp_le, lg_cmp_gt, lg_cmp_lt, lg_cmp_eq, eL_0, eL_1, eL_m1, eL_LO, eL_HI, eL_W, eL_add, eL_sub, eL_mul, eL_neg, eL_lt, eL_le, eL_eq, eL_remN, eL_mod0, ne_eq, Int64.not_lt, Int64.not_le] at c75)
        (try simp (disch := omega) only [lg_cmp_ge, lg_cmp_le, lg_cmp_gt, lg_cmp_lt, lg_cmp_eq, eL_0, eL_1, eL_m1, eL_LO, eL_HI, eL_W, eL_add, eL_sub, eL_mul, eL_neg, eL_lt, eL_le, eL_eq, eL_remN, eL_mod0, ne_eq, Int64.not_lt, Int64.not_le] at c97)
        (try simp (disch := omega) only [lg_cmp_ge, lg_cmp_le, lg_cmp_gt, lg_cmp_lt, lg_cmp_eq, eL_0, eL_1, eL_m1, eL_LO, eL_HI, eL_W, eL_add, eL_sub, eL_mul, eL_neg, eL_lt, eL_le, eL_eq, eL_remN, eL_mod0, ne_eq, Int64.not_lt, Int64.not_le] at c104)
        (try simp (disch := omega) only [lg_cmp_ge, lg_cmp_le, lg_cmp_gt, lg_cmp_lt, lg_cmp_eq, eL_0, eL_1, eL_m1, eL_LO, eL_HI, eL_W, eL_add, eL_sub, eL_mul, eL_neg, eL_lt, eL_le, eL_eq, eL_remN, eL_mod0, ne_eq, Int64.not_lt, Int64.not_le] at c112)
        (try simp (disch := omega) only [lg_cmp_ge, lg_cmp_le, lg_cmp_gt, lg_cmp_lt, lg_cmp_eq, eL_0, eL_1, eL_m1, eL_LO, eL_HI, eL_W, eL_add, eL_sub, eL_mul, eL_neg, eL_lt, eL_le, eL_eq, eL_remN, eL_mod0, ne_eq, Int64.not_lt, Int64.not_le] at c140)
        (try simp (disch := omega) only [lg_cmp_ge, lg_cmp_le, lg_cmp_gt, lg_cmp_lt, lg_cmp_eq, eL_0, eL_1, eL_m1, eL_LO, eL_HI, eL_W, eL_add, eL_sub, eL_mul, eL_neg, eL_lt, eL_le, eL_eq, eL_remN, eL_mod0, ne_eq, Int64.not_lt, Int64.not_le] at c147)
        (try simp only [jo12, jo13] at c18)
        (try simp only [jo12, jo13] at c31)
        (try simp only [jo12, jo13] at c62)
        rw [show logS op x y = allS from by
          unfold logS
          rw [if_neg (by omega), if_neg (by omega), if_neg (by omega)]]
        exact ⟨rfl, rfl, W207⟩
      · refine gi_lload (q := 145) C (dm_Mo_logic 79 rfl) rfl rfl ?_
        refine gi_lconst (q := 146) (v := 0) C (dm_Mo_logic 80 rfl) rfl (by decide) ?_
        refine gi_lcmp (q := 147) C (dm_Mo_logic 81 rfl) rfl ?_
        refine gi_if_lt (q := 150) (tgt := 205) C (dm_Mo_logic 82 rfl) rfl (by decide) (fun c147 => ?_) (fun c147 => ?_)
        · refine gi_aload_n (q := 206) (i := 0) C (dm_Mo_logic 111 rfl) rfl rfl rfl ?_
          refine gi_lconst (q := 207) (v := 1) C (dm_Mo_logic 112 rfl) rfl (by decide) ?_
          rw [eL_1]
          refine gi_callv 1 (q := 210) C (dm_Mo_logic 113 rfl) rfl my_Mo_all lk_Mo_295 im_Mo_all rfl (c_Mo_all H) Ha rfl rfl ⟨(Nat.le_of_ble_eq_true rfl), (Nat.le_of_ble_eq_true rfl)⟩ (Nat.le_of_ble_eq_true rfl) ⟨(Nat.le_of_ble_eq_true rfl), (Nat.le_of_ble_eq_true rfl)⟩ (fun r207 n207 h207 e207 => ?_)
          obtain ⟨rfl, rfl, W207⟩ := e207
          refine gi_vret C hr (dm_Mo_logic 114 rfl) ?_
          (try simp (disch := omega) only [lg_cmp_ge, lg_cmp_le, lg_cmp_gt, lg_cmp_lt, lg_cmp_eq, eL_0, eL_1, eL_m1, eL_LO, eL_HI, eL_W, eL_add, eL_sub, eL_mul, eL_neg, eL_lt, eL_le, eL_eq, eL_remN, eL_mod0, ne_eq, Int64.not_lt, Int64.not_le] at c4)
          (try simp (disch := omega) only [lg_cmp_ge, lg_cmp_le, lg_cmp_gt, lg_cmp_lt, lg_cmp_eq, eL_0, eL_1, eL_m1, eL_LO, eL_HI, eL_W, eL_add, eL_sub, eL_mul, eL_neg, eL_lt, eL_le, eL_eq, eL_remN, eL_mod0, ne_eq, Int64.not_lt, Int64.not_le] at c12)
          (try simp (disch := omega) only [lg_cmp_ge, lg_cmp_le, lg_cmp_gt, lg_cmp_lt, lg_cmp_eq, eL_0, eL_1, eL_m1, eL_LO, eL_HI, eL_W, eL_add, eL_sub, eL_mul, eL_neg, eL_lt, eL_le, eL_eq, eL_remN, eL_mod0, ne_eq, Int64.not_lt, Int64.not_le] at c68)
          (try simp (disch := omega) only [lg_cmp_ge, lg_cmp_le, lg_cmp_gt, lg_cmp_lt, lg_cmp_eq, eL_0, eL_1, eL_m1, eL_LO, eL_HI, eL_W, eL_add, eL_sub, eL_mul, eL_neg, eL_lt, eL_le, eL_eq, eL_remN, eL_mod0, ne_eq, Int64.not_lt, Int64.not_le] at c75)
          (try simp (disch := omega) only [lg_cmp_ge, lg_cmp_le, lg_cmp_gt, lg_cmp_lt, lg_cmp_eq, eL_0, eL_1, eL_m1, eL_LO, eL_HI, eL_W, eL_add, eL_sub, eL_mul, eL_neg, eL_lt, eL_le, eL_eq, eL_remN, eL_mod0, ne_eq, Int64.not_lt, Int64.not_le] at c97)
          (try simp (disch := omega) only [lg_cmp_ge, lg_cmp_le, lg_cmp_gt, lg_cmp_lt, lg_cmp_eq, eL_0, eL_1, eL_m1, eL_LO, eL_HI, eL_W, eL_add, eL_sub, eL_mul, eL_neg, eL_lt, eL_le, eL_eq, eL_remN, eL_mod0, ne_eq, Int64.not_lt, Int64.not_le] at c104)
          (try simp (disch := omega) only [lg_cmp_ge, lg_cmp_le, lg_cmp_gt, lg_cmp_lt, lg_cmp_eq, eL_0, eL_1, eL_m1, eL_LO, eL_HI, eL_W, eL_add, eL_sub, eL_mul, eL_neg, eL_lt, eL_le, eL_eq, eL_remN, eL_mod0, ne_eq, Int64.not_lt, Int64.not_le] at c112)
          (try simp (disch := omega) only [lg_cmp_ge, lg_cmp_le, lg_cmp_gt, lg_cmp_lt, lg_cmp_eq, eL_0, eL_1, eL_m1, eL_LO, eL_HI, eL_W, eL_add, eL_sub, eL_mul, eL_neg, eL_lt, eL_le, eL_eq, eL_remN, eL_mod0, ne_eq, Int64.not_lt, Int64.not_le] at c140)
          (try simp (disch := omega) only [lg_cmp_ge, lg_cmp_le, lg_cmp_gt, lg_cmp_lt, lg_cmp_eq, eL_0, eL_1, eL_m1, eL_LO, eL_HI, eL_W, eL_add, eL_sub, eL_mul, eL_neg, eL_lt, eL_le, eL_eq, eL_remN, eL_mod0, ne_eq, Int64.not_lt, Int64.not_le] at c147)
          (try simp only [jo12, jo13] at c18)
          (try simp only [jo12, jo13] at c31)
          (try simp only [jo12, jo13] at c62)
          rw [show logS op x y = allS from by
            unfold logS
            rw [if_neg (by omega), if_neg (by omega), if_neg (by omega)]]
          exact ⟨rfl, rfl, W207⟩
        · refine gi_lconst (q := 151) (v := 0) C (dm_Mo_logic 83 rfl) rfl (by decide) ?_
          refine gi_lstore (q := 153) C (dm_Mo_logic 84 rfl) rfl (Nat.le_of_ble_eq_true rfl) ?_
          (try simp only [jo12, jo13] at c62)
          (try simp (disch := omega) only [lg_cmp_ge, lg_cmp_le, lg_cmp_gt, lg_cmp_lt, lg_cmp_eq, eL_0, eL_1, eL_m1, eL_LO, eL_HI, eL_W, eL_add, eL_sub, eL_mul, eL_neg, eL_lt, eL_le, eL_eq, eL_remN, eL_mod0, ne_eq, Int64.not_lt, Int64.not_le] at c4)
          (try simp (disch := omega) only [lg_cmp_ge, lg_cmp_le, lg_cmp_gt, lg_cmp_lt, lg_cmp_eq, eL_0, eL_1, eL_m1, eL_LO, eL_HI, eL_W, eL_add, eL_sub, eL_mul, eL_neg, eL_lt, eL_le, eL_eq, eL_remN, eL_mod0, ne_eq, Int64.not_lt, Int64.not_le] at c62)
          (try simp (disch := omega) only [lg_cmp_ge, lg_cmp_le, lg_cmp_gt, lg_cmp_lt, lg_cmp_eq, eL_0, eL_1, eL_m1, eL_LO, eL_HI, eL_W, eL_add, eL_sub, eL_mul, eL_neg, eL_lt, eL_le, eL_eq, eL_remN, eL_mod0, ne_eq, Int64.not_lt, Int64.not_le] at c140)
          (try simp (disch := omega) only [lg_cmp_ge, lg_cmp_le, lg_cmp_gt, lg_cmp_lt, lg_cmp_eq, eL_0, eL_1, eL_m1, eL_LO, eL_HI, eL_W, eL_add, eL_sub, eL_mul, eL_neg, eL_lt, eL_le, eL_eq, eL_remN, eL_mod0, ne_eq, Int64.not_lt, Int64.not_le] at c147)
          refine gi_while (σ := Nat × Int) (fun q => 31 - q.1) (fun q => [(10, .long (eL q.2)), (0, .ref M), (1, .int (nI op)), (2, .long (eL x.1)), (4, .long (eL x.2.1)), (6, .long (eL y.1)), (8, .long (eL y.2.1))]) (fun _ => n) (fun _ => 0) (fun _ => 0) (fun q y' => h = y' ∧ q.1 ≤ 31 ∧ q.2 = 2 ^ q.1 - 1 ∧ topF 31 0 (max x.2.1 y.2.1) = topF (31 - q.1) q.2 (max x.2.1 y.2.1)) (0, 0) ⟨rfl, by decide, by decide, rfl⟩ ?_ (List.forall_mem_cons.mpr ⟨rfl, List.forall_mem_cons.mpr ⟨rfl, List.forall_mem_cons.mpr ⟨rfl, List.forall_mem_cons.mpr ⟨rfl, List.forall_mem_cons.mpr ⟨rfl, List.forall_mem_cons.mpr ⟨rfl, List.forall_mem_cons.mpr ⟨rfl, fun _ h => absurd h List.not_mem_nil⟩⟩⟩⟩⟩⟩⟩) rfl rfl rfl
          rintro ⟨j, t⟩ y' ⟨rfl, hj, hp, ht⟩ ih
          try dsimp only at *
          have pw : (1 : Int) ≤ 2 ^ j := Int.pow_pos (by decide)
          have pb := pw31 j (by omega)
          have tb : 0 ≤ t ∧ t ≤ 2147483647 := by omega
          refine gi_lload (q := 155) C (dm_Mo_logic 85 rfl) rfl rfl ?_
          refine gi_lload (q := 157) C (dm_Mo_logic 86 rfl) rfl rfl ?_
          refine gi_lload (q := 159) C (dm_Mo_logic 87 rfl) rfl rfl ?_
          refine gi_calls 2 (q := 162) C (dm_Mo_logic 88 rfl) rfl my_Mo_max lk_Mo_256 sm_Mo_max (c_Mo_max x.2.1 y.2.1 (by omega) (by omega) (by omega) (by omega)) rfl rfl ⟨(Nat.le_of_ble_eq_true rfl), (Nat.le_of_ble_eq_true rfl)⟩ (Nat.le_of_ble_eq_true rfl) ⟨(Nat.le_of_ble_eq_true rfl), (Nat.le_of_ble_eq_true rfl)⟩ (fun r159 n159 h159 e159 => ?_)
          obtain ⟨rfl, q159, u159⟩ := e159
          rw [q159, u159]
          refine gi_lcmp (q := 163) C (dm_Mo_logic 89 rfl) rfl ?_
          refine gi_if_ge (q := 166) (tgt := 179) C (dm_Mo_logic 90 rfl) rfl (by decide) (fun c163 => ?_) (fun c163 => ?_)
          · (try simp (disch := omega) only [lg_cmp_ge, lg_cmp_le, lg_cmp_gt, lg_cmp_lt, lg_cmp_eq, eL_0, eL_1, eL_m1, eL_LO, eL_HI, eL_W, eL_add, eL_sub, eL_mul, eL_neg, eL_lt, eL_le, eL_eq, eL_remN, eL_mod0, ne_eq, Int64.not_lt, Int64.not_le] at c163)
            have te : topF 31 0 (max x.2.1 y.2.1) = t := by
              rw [ht]
              rcases Nat.eq_zero_or_pos (31 - j) with q | q
              · rw [q]; rfl
              · obtain ⟨f, ef⟩ : ∃ f, 31 - j = f + 1 := ⟨31 - j - 1, by omega⟩
                rw [ef]
                show (if t < max x.2.1 y.2.1 then _ else t) = t
                rw [if_neg (by omega)]
            refine gi_aload_n (q := 180) (i := 0) C (dm_Mo_logic 98 rfl) rfl rfl rfl ?_
            refine gi_iload_n (q := 181) (i := 1) C (dm_Mo_logic 99 rfl) rfl rfl rfl ?_
            refine gi_bipush (q := 183) (v := 13) C (dm_Mo_logic 100 rfl) rfl (by decide) ?_
            refine gi_icmp_ne (q := 186) (tgt := 195) C (dm_Mo_logic 101 rfl) rfl (by decide) (fun c183 => ?_) (fun c183 => ?_)
            · refine gi_lconst (q := 196) (v := 0) C (dm_Mo_logic 106 rfl) rfl (by decide) ?_
              refine gi_lload (q := 198) C (dm_Mo_logic 107 rfl) rfl rfl ?_
              refine gi_lconst (q := 199) (v := 1) C (dm_Mo_logic 108 rfl) rfl (by decide) ?_
              rw [eL_1]
              refine gi_callv 3 (q := 202) C (dm_Mo_logic 109 rfl) rfl my_Mo_set lk_Mo_262 im_Mo_set rfl (c_Mo_set 0 t 1 (by omega) (by omega) (by omega) (by omega) H) Ha rfl rfl ⟨(Nat.le_of_ble_eq_true rfl), (Nat.le_of_ble_eq_true rfl)⟩ (Nat.le_of_ble_eq_true rfl) ⟨(Nat.le_of_ble_eq_true rfl), (Nat.le_of_ble_eq_true rfl)⟩ (fun r199 n199 h199 e199 => ?_)
              obtain ⟨rfl, rfl, W199⟩ := e199
              refine gi_goto (tgt := 210) C (dm_Mo_logic 110 rfl) (by decide) ?_
              refine gi_vret C hr (dm_Mo_logic 114 rfl) ?_
              (try simp only [jo12, jo13] at c62)
              (try simp only [jo12, jo13] at c183)
              rw [show logS op x y = mkS 0 t 1 from by
                unfold logS
                rw [if_neg (by omega), if_neg (by omega), if_pos (by omega), if_neg (by omega), te]]
              exact ⟨rfl, rfl, W199⟩
            · refine gi_lload_n (q := 187) (i := 2) C (dm_Mo_logic 102 rfl) rfl rfl rfl ?_
              refine gi_lload (q := 189) C (dm_Mo_logic 103 rfl) rfl rfl ?_
              refine gi_calls 2 (q := 192) C (dm_Mo_logic 104 rfl) rfl my_Mo_max lk_Mo_256 sm_Mo_max (c_Mo_max x.1 y.1 (by omega) (by omega) (by omega) (by omega)) rfl rfl ⟨(Nat.le_of_ble_eq_true rfl), (Nat.le_of_ble_eq_true rfl)⟩ (Nat.le_of_ble_eq_true rfl) ⟨(Nat.le_of_ble_eq_true rfl), (Nat.le_of_ble_eq_true rfl)⟩ (fun r189 n189 h189 e189 => ?_)
              obtain ⟨rfl, q189, u189⟩ := e189
              rw [q189, u189]
              refine gi_goto (tgt := 196) C (dm_Mo_logic 105 rfl) (by decide) ?_
              refine gi_lload (q := 198) C (dm_Mo_logic 107 rfl) rfl rfl ?_
              refine gi_lconst (q := 199) (v := 1) C (dm_Mo_logic 108 rfl) rfl (by decide) ?_
              rw [eL_1]
              refine gi_callv 3 (q := 202) C (dm_Mo_logic 109 rfl) rfl my_Mo_set lk_Mo_262 im_Mo_set rfl (c_Mo_set (max x.1 y.1) t 1 (by omega) (by omega) (by omega) (by omega) H) Ha rfl rfl ⟨(Nat.le_of_ble_eq_true rfl), (Nat.le_of_ble_eq_true rfl)⟩ (Nat.le_of_ble_eq_true rfl) ⟨(Nat.le_of_ble_eq_true rfl), (Nat.le_of_ble_eq_true rfl)⟩ (fun r199 n199 h199 e199 => ?_)
              obtain ⟨rfl, rfl, W199⟩ := e199
              refine gi_goto (tgt := 210) C (dm_Mo_logic 110 rfl) (by decide) ?_
              refine gi_vret C hr (dm_Mo_logic 114 rfl) ?_
              (try simp only [jo12, jo13] at c62)
              (try simp only [jo12, jo13] at c183)
              rw [show logS op x y = mkS (max x.1 y.1) t 1 from by
                unfold logS
                rw [if_neg (by omega), if_neg (by omega), if_pos (by omega), if_pos (by omega), te]]
              exact ⟨rfl, rfl, W199⟩
          · refine gi_ldc2 (q := 169) C (dm_Mo_logic 91 rfl) rfl kc_Mo_351 ?_
            refine gi_lload (q := 171) C (dm_Mo_logic 92 rfl) rfl rfl ?_
            refine gi_lmul (q := 172) C (dm_Mo_logic 93 rfl) rfl ?_
            rw [eL_2, eL_mul]
            refine gi_lconst (q := 173) (v := 1) C (dm_Mo_logic 94 rfl) rfl (by decide) ?_
            refine gi_ladd (q := 174) C (dm_Mo_logic 95 rfl) rfl ?_
            rw [eL_1, eL_add]
            refine gi_lstore (q := 176) C (dm_Mo_logic 96 rfl) rfl (Nat.le_of_ble_eq_true rfl) ?_
            (try simp (disch := omega) only [lg_cmp_ge, lg_cmp_le, lg_cmp_gt, lg_cmp_lt, lg_cmp_eq, eL_0, eL_1, eL_m1, eL_LO, eL_HI, eL_W, eL_add, eL_sub, eL_mul, eL_neg, eL_lt, eL_le, eL_eq, eL_remN, eL_mod0, ne_eq, Int64.not_lt, Int64.not_le] at c163)
            refine gi_goto (tgt := 153) C (dm_Mo_logic 97 rfl) (by decide) ?_
            have k1 : j < 31 := by
              rcases Nat.lt_or_ge j 31 with q | q
              · exact q
              · have : j = 31 := by omega
                subst this
                have : (2 : Int) ^ 31 = 2147483648 := by decide
                omega
            refine gi_close (ih (j + 1, 2 * t + 1) _ ⟨rfl, by omega, ?_, ?_⟩ (by dsimp only; omega)) (List.forall_mem_cons.mpr ⟨rfl, List.forall_mem_cons.mpr ⟨rfl, List.forall_mem_cons.mpr ⟨rfl, List.forall_mem_cons.mpr ⟨rfl, List.forall_mem_cons.mpr ⟨rfl, List.forall_mem_cons.mpr ⟨rfl, List.forall_mem_cons.mpr ⟨rfl, fun _ h => absurd h List.not_mem_nil⟩⟩⟩⟩⟩⟩⟩) rfl rfl rfl
            · show 2 * t + 1 = 2 ^ (j + 1) - 1
              rw [Int.pow_succ]
              omega
            · rw [ht, show 31 - j = (31 - (j + 1)) + 1 by omega]
              show (if t < max x.2.1 y.2.1 then topF (31 - (j + 1)) (2 * t + 1) (max x.2.1 y.2.1) else t) = _
              rw [if_pos (by omega)]
    · refine gi_lload_n (q := 66) (i := 2) C (dm_Mo_logic 35 rfl) rfl rfl rfl ?_
      refine gi_lconst (q := 67) (v := 0) C (dm_Mo_logic 36 rfl) rfl (by decide) ?_
      refine gi_lcmp (q := 68) C (dm_Mo_logic 37 rfl) rfl ?_
      refine gi_if_lt (q := 71) (tgt := 94) C (dm_Mo_logic 38 rfl) rfl (by decide) (fun c68 => ?_) (fun c68 => ?_)
      · refine gi_lload_n (q := 95) (i := 2) C (dm_Mo_logic 51 rfl) rfl rfl rfl ?_
        refine gi_lconst (q := 96) (v := 0) C (dm_Mo_logic 52 rfl) rfl (by decide) ?_
        refine gi_lcmp (q := 97) C (dm_Mo_logic 53 rfl) rfl ?_
        refine gi_if_ge (q := 100) (tgt := 107) C (dm_Mo_logic 54 rfl) rfl (by decide) (fun c97 => ?_) (fun c97 => ?_)
        · refine gi_aload_n (q := 108) (i := 0) C (dm_Mo_logic 59 rfl) rfl rfl rfl ?_
          refine gi_lconst (q := 109) (v := 0) C (dm_Mo_logic 60 rfl) rfl (by decide) ?_
          refine gi_lload_n (q := 110) (i := 2) C (dm_Mo_logic 61 rfl) rfl rfl rfl ?_
          refine gi_lconst (q := 111) (v := 0) C (dm_Mo_logic 62 rfl) rfl (by decide) ?_
          refine gi_lcmp (q := 112) C (dm_Mo_logic 63 rfl) rfl ?_
          refine gi_if_lt (q := 115) (tgt := 120) C (dm_Mo_logic 64 rfl) rfl (by decide) (fun c112 => ?_) (fun c112 => ?_)
          · refine gi_lload (q := 122) C (dm_Mo_logic 67 rfl) rfl rfl ?_
            refine gi_lconst (q := 123) (v := 1) C (dm_Mo_logic 68 rfl) rfl (by decide) ?_
            rw [eL_1]
            refine gi_callv 3 (q := 126) C (dm_Mo_logic 69 rfl) rfl my_Mo_set lk_Mo_262 im_Mo_set rfl (c_Mo_set 0 y.2.1 1 (by omega) (by omega) (by omega) (by omega) H) Ha rfl rfl ⟨(Nat.le_of_ble_eq_true rfl), (Nat.le_of_ble_eq_true rfl)⟩ (Nat.le_of_ble_eq_true rfl) ⟨(Nat.le_of_ble_eq_true rfl), (Nat.le_of_ble_eq_true rfl)⟩ (fun r123 n123 h123 e123 => ?_)
            obtain ⟨rfl, rfl, W123⟩ := e123
            refine gi_goto (tgt := 210) C (dm_Mo_logic 70 rfl) (by decide) ?_
            refine gi_vret C hr (dm_Mo_logic 114 rfl) ?_
            (try simp (disch := omega) only [lg_cmp_ge, lg_cmp_le, lg_cmp_gt, lg_cmp_lt, lg_cmp_eq, eL_0, eL_1, eL_m1, eL_LO, eL_HI, eL_W, eL_add, eL_sub, eL_mul, eL_neg, eL_lt, eL_le, eL_eq, eL_remN, eL_mod0, ne_eq, Int64.not_lt, Int64.not_le] at c4)
            (try simp (disch := omega) only [lg_cmp_ge, lg_cmp_le, lg_cmp_gt, lg_cmp_lt, lg_cmp_eq, eL_0, eL_1, eL_m1, eL_LO, eL_HI, eL_W, eL_add, eL_sub, eL_mul, eL_neg, eL_lt, eL_le, eL_eq, eL_remN, eL_mod0, ne_eq, Int64.not_lt, Int64.not_le] at c12)
            (try simp (disch := omega) only [lg_cmp_ge, lg_cmp_le, lg_cmp_gt, lg_cmp_lt, lg_cmp_eq, eL_0, eL_1, eL_m1, eL_LO, eL_HI, eL_W, eL_add, eL_sub, eL_mul, eL_neg, eL_lt, eL_le, eL_eq, eL_remN, eL_mod0, ne_eq, Int64.not_lt, Int64.not_le] at c68)
            (try simp (disch := omega) only [lg_cmp_ge, lg_cmp_le, lg_cmp_gt, lg_cmp_lt, lg_cmp_eq, eL_0, eL_1, eL_m1, eL_LO, eL_HI, eL_W, eL_add, eL_sub, eL_mul, eL_neg, eL_lt, eL_le, eL_eq, eL_remN, eL_mod0, ne_eq, Int64.not_lt, Int64.not_le] at c75)
            (try simp (disch := omega) only [lg_cmp_ge, lg_cmp_le, lg_cmp_gt, lg_cmp_lt, lg_cmp_eq, eL_0, eL_1, eL_m1, eL_LO, eL_HI, eL_W, eL_add, eL_sub, eL_mul, eL_neg, eL_lt, eL_le, eL_eq, eL_remN, eL_mod0, ne_eq, Int64.not_lt, Int64.not_le] at c97)
            (try simp (disch := omega) only [lg_cmp_ge, lg_cmp_le, lg_cmp_gt, lg_cmp_lt, lg_cmp_eq, eL_0, eL_1, eL_m1, eL_LO, eL_HI, eL_W, eL_add, eL_sub, eL_mul, eL_neg, eL_lt, eL_le, eL_eq, eL_remN, eL_mod0, ne_eq, Int64.not_lt, Int64.not_le] at c104)
            (try simp (disch := omega) only [lg_cmp_ge, lg_cmp_le, lg_cmp_gt, lg_cmp_lt, lg_cmp_eq, eL_0, eL_1, eL_m1, eL_LO, eL_HI, eL_W, eL_add, eL_sub, eL_mul, eL_neg, eL_lt, eL_le, eL_eq, eL_remN, eL_mod0, ne_eq, Int64.not_lt, Int64.not_le] at c112)
            (try simp (disch := omega) only [lg_cmp_ge, lg_cmp_le, lg_cmp_gt, lg_cmp_lt, lg_cmp_eq, eL_0, eL_1, eL_m1, eL_LO, eL_HI, eL_W, eL_add, eL_sub, eL_mul, eL_neg, eL_lt, eL_le, eL_eq, eL_remN, eL_mod0, ne_eq, Int64.not_lt, Int64.not_le] at c140)
            (try simp (disch := omega) only [lg_cmp_ge, lg_cmp_le, lg_cmp_gt, lg_cmp_lt, lg_cmp_eq, eL_0, eL_1, eL_m1, eL_LO, eL_HI, eL_W, eL_add, eL_sub, eL_mul, eL_neg, eL_lt, eL_le, eL_eq, eL_remN, eL_mod0, ne_eq, Int64.not_lt, Int64.not_le] at c147)
            (try simp only [jo12, jo13] at c18)
            (try simp only [jo12, jo13] at c31)
            (try simp only [jo12, jo13] at c62)
            rw [show logS op x y = mkS 0 y.2.1 1 from by
              unfold logS
              rw [if_neg (by omega), if_pos (by omega), if_neg (by omega)]
              first
                | (rw [if_pos (by omega)]; done)
                | (rw [if_neg (by omega), if_pos (by omega)]; done)]
            exact ⟨rfl, rfl, W123⟩
          · refine gi_lload (q := 117) C (dm_Mo_logic 65 rfl) rfl rfl ?_
            refine gi_goto (tgt := 122) C (dm_Mo_logic 66 rfl) (by decide) ?_
            refine gi_lconst (q := 123) (v := 1) C (dm_Mo_logic 68 rfl) rfl (by decide) ?_
            rw [eL_1]
            refine gi_callv 3 (q := 126) C (dm_Mo_logic 69 rfl) rfl my_Mo_set lk_Mo_262 im_Mo_set rfl (c_Mo_set 0 x.2.1 1 (by omega) (by omega) (by omega) (by omega) H) Ha rfl rfl ⟨(Nat.le_of_ble_eq_true rfl), (Nat.le_of_ble_eq_true rfl)⟩ (Nat.le_of_ble_eq_true rfl) ⟨(Nat.le_of_ble_eq_true rfl), (Nat.le_of_ble_eq_true rfl)⟩ (fun r123 n123 h123 e123 => ?_)
            obtain ⟨rfl, rfl, W123⟩ := e123
            refine gi_goto (tgt := 210) C (dm_Mo_logic 70 rfl) (by decide) ?_
            refine gi_vret C hr (dm_Mo_logic 114 rfl) ?_
            (try simp (disch := omega) only [lg_cmp_ge, lg_cmp_le, lg_cmp_gt, lg_cmp_lt, lg_cmp_eq, eL_0, eL_1, eL_m1, eL_LO, eL_HI, eL_W, eL_add, eL_sub, eL_mul, eL_neg, eL_lt, eL_le, eL_eq, eL_remN, eL_mod0, ne_eq, Int64.not_lt, Int64.not_le] at c4)
            (try simp (disch := omega) only [lg_cmp_ge, lg_cmp_le, lg_cmp_gt, lg_cmp_lt, lg_cmp_eq, eL_0, eL_1, eL_m1, eL_LO, eL_HI, eL_W, eL_add, eL_sub, eL_mul, eL_neg, eL_lt, eL_le, eL_eq, eL_remN, eL_mod0, ne_eq, Int64.not_lt, Int64.not_le] at c12)
            (try simp (disch := omega) only [lg_cmp_ge, lg_cmp_le, lg_cmp_gt, lg_cmp_lt, lg_cmp_eq, eL_0, eL_1, eL_m1, eL_LO, eL_HI, eL_W, eL_add, eL_sub, eL_mul, eL_neg, eL_lt, eL_le, eL_eq, eL_remN, eL_mod0, ne_eq, Int64.not_lt, Int64.not_le] at c68)
            (try simp (disch := omega) only [lg_cmp_ge, lg_cmp_le, lg_cmp_gt, lg_cmp_lt, lg_cmp_eq, eL_0, eL_1, eL_m1, eL_LO, eL_HI, eL_W, eL_add, eL_sub, eL_mul, eL_neg, eL_lt, eL_le, eL_eq, eL_remN, eL_mod0, ne_eq, Int64.not_lt, Int64.not_le] at c75)
            (try simp (disch := omega) only [lg_cmp_ge, lg_cmp_le, lg_cmp_gt, lg_cmp_lt, lg_cmp_eq, eL_0, eL_1, eL_m1, eL_LO, eL_HI, eL_W, eL_add, eL_sub, eL_mul, eL_neg, eL_lt, eL_le, eL_eq, eL_remN, eL_mod0, ne_eq, Int64.not_lt, Int64.not_le] at c97)
            (try simp (disch := omega) only [lg_cmp_ge, lg_cmp_le, lg_cmp_gt, lg_cmp_lt, lg_cmp_eq, eL_0, eL_1, eL_m1, eL_LO, eL_HI, eL_W, eL_add, eL_sub, eL_mul, eL_neg, eL_lt, eL_le, eL_eq, eL_remN, eL_mod0, ne_eq, Int64.not_lt, Int64.not_le] at c104)
            (try simp (disch := omega) only [lg_cmp_ge, lg_cmp_le, lg_cmp_gt, lg_cmp_lt, lg_cmp_eq, eL_0, eL_1, eL_m1, eL_LO, eL_HI, eL_W, eL_add, eL_sub, eL_mul, eL_neg, eL_lt, eL_le, eL_eq, eL_remN, eL_mod0, ne_eq, Int64.not_lt, Int64.not_le] at c112)
            (try simp (disch := omega) only [lg_cmp_ge, lg_cmp_le, lg_cmp_gt, lg_cmp_lt, lg_cmp_eq, eL_0, eL_1, eL_m1, eL_LO, eL_HI, eL_W, eL_add, eL_sub, eL_mul, eL_neg, eL_lt, eL_le, eL_eq, eL_remN, eL_mod0, ne_eq, Int64.not_lt, Int64.not_le] at c140)
            (try simp (disch := omega) only [lg_cmp_ge, lg_cmp_le, lg_cmp_gt, lg_cmp_lt, lg_cmp_eq, eL_0, eL_1, eL_m1, eL_LO, eL_HI, eL_W, eL_add, eL_sub, eL_mul, eL_neg, eL_lt, eL_le, eL_eq, eL_remN, eL_mod0, ne_eq, Int64.not_lt, Int64.not_le] at c147)
            (try simp only [jo12, jo13] at c18)
            (try simp only [jo12, jo13] at c31)
            (try simp only [jo12, jo13] at c62)
            rw [show logS op x y = mkS 0 x.2.1 1 from by
              unfold logS
              rw [if_neg (by omega), if_pos (by omega), if_neg (by omega)]
              first
                | (rw [if_pos (by omega)]; done)
                | (rw [if_neg (by omega), if_pos (by omega)]; done)]
            exact ⟨rfl, rfl, W123⟩
        · refine gi_lload (q := 102) C (dm_Mo_logic 55 rfl) rfl rfl ?_
          refine gi_lconst (q := 103) (v := 0) C (dm_Mo_logic 56 rfl) rfl (by decide) ?_
          refine gi_lcmp (q := 104) C (dm_Mo_logic 57 rfl) rfl ?_
          refine gi_if_lt (q := 107) (tgt := 129) C (dm_Mo_logic 58 rfl) rfl (by decide) (fun c104 => ?_) (fun c104 => ?_)
          · refine gi_aload_n (q := 130) (i := 0) C (dm_Mo_logic 71 rfl) rfl rfl rfl ?_
            refine gi_lconst (q := 131) (v := 1) C (dm_Mo_logic 72 rfl) rfl (by decide) ?_
            rw [eL_1]
            refine gi_callv 1 (q := 134) C (dm_Mo_logic 73 rfl) rfl my_Mo_all lk_Mo_295 im_Mo_all rfl (c_Mo_all H) Ha rfl rfl ⟨(Nat.le_of_ble_eq_true rfl), (Nat.le_of_ble_eq_true rfl)⟩ (Nat.le_of_ble_eq_true rfl) ⟨(Nat.le_of_ble_eq_true rfl), (Nat.le_of_ble_eq_true rfl)⟩ (fun r131 n131 h131 e131 => ?_)
            obtain ⟨rfl, rfl, W131⟩ := e131
            refine gi_goto (tgt := 210) C (dm_Mo_logic 74 rfl) (by decide) ?_
            refine gi_vret C hr (dm_Mo_logic 114 rfl) ?_
            (try simp (disch := omega) only [lg_cmp_ge, lg_cmp_le, lg_cmp_gt, lg_cmp_lt, lg_cmp_eq, eL_0, eL_1, eL_m1, eL_LO, eL_HI, eL_W, eL_add, eL_sub, eL_mul, eL_neg, eL_lt, eL_le, eL_eq, eL_remN, eL_mod0, ne_eq, Int64.not_lt, Int64.not_le] at c4)
            (try simp (disch := omega) only [lg_cmp_ge, lg_cmp_le, lg_cmp_gt, lg_cmp_lt, lg_cmp_eq, eL_0, eL_1, eL_m1, eL_LO, eL_HI, eL_W, eL_add, eL_sub, eL_mul, eL_neg, eL_lt, eL_le, eL_eq, eL_remN, eL_mod0, ne_eq, Int64.not_lt, Int64.not_le] at c12)
            (try simp (disch := omega) only [lg_cmp_ge, lg_cmp_le, lg_cmp_gt, lg_cmp_lt, lg_cmp_eq, eL_0, eL_1, eL_m1, eL_LO, eL_HI, eL_W, eL_add, eL_sub, eL_mul, eL_neg, eL_lt, eL_le, eL_eq, eL_remN, eL_mod0, ne_eq, Int64.not_lt, Int64.not_le] at c68)
            (try simp (disch := omega) only [lg_cmp_ge, lg_cmp_le, lg_cmp_gt, lg_cmp_lt, lg_cmp_eq, eL_0, eL_1, eL_m1, eL_LO, eL_HI, eL_W, eL_add, eL_sub, eL_mul, eL_neg, eL_lt, eL_le, eL_eq, eL_remN, eL_mod0, ne_eq, Int64.not_lt, Int64.not_le] at c75)
            (try simp (disch := omega) only [lg_cmp_ge, lg_cmp_le, lg_cmp_gt, lg_cmp_lt, lg_cmp_eq, eL_0, eL_1, eL_m1, eL_LO, eL_HI, eL_W, eL_add, eL_sub, eL_mul, eL_neg, eL_lt, eL_le, eL_eq, eL_remN, eL_mod0, ne_eq, Int64.not_lt, Int64.not_le] at c97)
            (try simp (disch := omega) only [lg_cmp_ge, lg_cmp_le, lg_cmp_gt, lg_cmp_lt, lg_cmp_eq, eL_0, eL_1, eL_m1, eL_LO, eL_HI, eL_W, eL_add, eL_sub, eL_mul, eL_neg, eL_lt, eL_le, eL_eq, eL_remN, eL_mod0, ne_eq, Int64.not_lt, Int64.not_le] at c104)
            (try simp (disch := omega) only [lg_cmp_ge, lg_cmp_le, lg_cmp_gt, lg_cmp_lt, lg_cmp_eq, eL_0, eL_1, eL_m1, eL_LO, eL_HI, eL_W, eL_add, eL_sub, eL_mul, eL_neg, eL_lt, eL_le, eL_eq, eL_remN, eL_mod0, ne_eq, Int64.not_lt, Int64.not_le] at c112)
            (try simp (disch := omega) only [lg_cmp_ge, lg_cmp_le, lg_cmp_gt, lg_cmp_lt, lg_cmp_eq, eL_0, eL_1, eL_m1, eL_LO, eL_HI, eL_W, eL_add, eL_sub, eL_mul, eL_neg, eL_lt, eL_le, eL_eq, eL_remN, eL_mod0, ne_eq, Int64.not_lt, Int64.not_le] at c140)
            (try simp (disch := omega) only [lg_cmp_ge, lg_cmp_le, lg_cmp_gt, lg_cmp_lt, lg_cmp_eq, eL_0, eL_1, eL_m1, eL_LO, eL_HI, eL_W, eL_add, eL_sub, eL_mul, eL_neg, eL_lt, eL_le, eL_eq, eL_remN, eL_mod0, ne_eq, Int64.not_lt, Int64.not_le] at c147)
            (try simp only [jo12, jo13] at c18)
            (try simp only [jo12, jo13] at c31)
            (try simp only [jo12, jo13] at c62)
            rw [show logS op x y = allS from by
              unfold logS
              rw [if_neg (by omega), if_pos (by omega), if_neg (by omega), if_neg (by omega), if_neg (by omega)]]
            exact ⟨rfl, rfl, W131⟩
          · refine gi_aload_n (q := 108) (i := 0) C (dm_Mo_logic 59 rfl) rfl rfl rfl ?_
            refine gi_lconst (q := 109) (v := 0) C (dm_Mo_logic 60 rfl) rfl (by decide) ?_
            refine gi_lload_n (q := 110) (i := 2) C (dm_Mo_logic 61 rfl) rfl rfl rfl ?_
            refine gi_lconst (q := 111) (v := 0) C (dm_Mo_logic 62 rfl) rfl (by decide) ?_
            refine gi_lcmp (q := 112) C (dm_Mo_logic 63 rfl) rfl ?_
            refine gi_if_lt (q := 115) (tgt := 120) C (dm_Mo_logic 64 rfl) rfl (by decide) (fun c112 => ?_) (fun c112 => ?_)
            · refine gi_lload (q := 122) C (dm_Mo_logic 67 rfl) rfl rfl ?_
              refine gi_lconst (q := 123) (v := 1) C (dm_Mo_logic 68 rfl) rfl (by decide) ?_
              rw [eL_1]
              refine gi_callv 3 (q := 126) C (dm_Mo_logic 69 rfl) rfl my_Mo_set lk_Mo_262 im_Mo_set rfl (c_Mo_set 0 y.2.1 1 (by omega) (by omega) (by omega) (by omega) H) Ha rfl rfl ⟨(Nat.le_of_ble_eq_true rfl), (Nat.le_of_ble_eq_true rfl)⟩ (Nat.le_of_ble_eq_true rfl) ⟨(Nat.le_of_ble_eq_true rfl), (Nat.le_of_ble_eq_true rfl)⟩ (fun r123 n123 h123 e123 => ?_)
              obtain ⟨rfl, rfl, W123⟩ := e123
              refine gi_goto (tgt := 210) C (dm_Mo_logic 70 rfl) (by decide) ?_
              refine gi_vret C hr (dm_Mo_logic 114 rfl) ?_
              (try simp (disch := omega) only [lg_cmp_ge, lg_cmp_le, lg_cmp_gt, lg_cmp_lt, lg_cmp_eq, eL_0, eL_1, eL_m1, eL_LO, eL_HI, eL_W, eL_add, eL_sub, eL_mul, eL_neg, eL_lt, eL_le, eL_eq, eL_remN, eL_mod0, ne_eq, Int64.not_lt, Int64.not_le] at c4)
              (try simp (disch := omega) only [lg_cmp_ge, lg_cmp_le, lg_cmp_gt, lg_cmp_lt, lg_cmp_eq, eL_0, eL_1, eL_m1, eL_LO, eL_HI, eL_W, eL_add, eL_sub, eL_mul, eL_neg, eL_lt, eL_le, eL_eq, eL_remN, eL_mod0, ne_eq, Int64.not_lt, Int64.not_le] at c12)
              (try simp (disch := omega) only [lg_cmp_ge, lg_cmp_le, lg_cmp_gt, lg_cmp_lt, lg_cmp_eq, eL_0, eL_1, eL_m1, eL_LO, eL_HI, eL_W, eL_add, eL_sub, eL_mul, eL_neg, eL_lt, eL_le, eL_eq, eL_remN, eL_mod0, ne_eq, Int64.not_lt, Int64.not_le] at c68)
              (try simp (disch := omega) only [lg_cmp_ge, lg_cmp_le, lg_cmp_gt, lg_cmp_lt, lg_cmp_eq, eL_0, eL_1, eL_m1, eL_LO, eL_HI, eL_W, eL_add, eL_sub, eL_mul, eL_neg, eL_lt, eL_le, eL_eq, eL_remN, eL_mod0, ne_eq, Int64.not_lt, Int64.not_le] at c75)
              (try simp (disch := omega) only [lg_cmp_ge, lg_cmp_le, lg_cmp_gt, lg_cmp_lt, lg_cmp_eq, eL_0, eL_1, eL_m1, eL_LO, eL_HI, eL_W, eL_add, eL_sub, eL_mul, eL_neg, eL_lt, eL_le, eL_eq, eL_remN, eL_mod0, ne_eq, Int64.not_lt, Int64.not_le] at c97)
              (try simp (disch := omega) only [lg_cmp_ge, lg_cmp_le, lg_cmp_gt, lg_cmp_lt, lg_cmp_eq, eL_0, eL_1, eL_m1, eL_LO, eL_HI, eL_W, eL_add, eL_sub, eL_mul, eL_neg, eL_lt, eL_le, eL_eq, eL_remN, eL_mod0, ne_eq, Int64.not_lt, Int64.not_le] at c104)
              (try simp (disch := omega) only [lg_cmp_ge, lg_cmp_le, lg_cmp_gt, lg_cmp_lt, lg_cmp_eq, eL_0, eL_1, eL_m1, eL_LO, eL_HI, eL_W, eL_add, eL_sub, eL_mul, eL_neg, eL_lt, eL_le, eL_eq, eL_remN, eL_mod0, ne_eq, Int64.not_lt, Int64.not_le] at c112)
              (try simp (disch := omega) only [lg_cmp_ge, lg_cmp_le, lg_cmp_gt, lg_cmp_lt, lg_cmp_eq, eL_0, eL_1, eL_m1, eL_LO, eL_HI, eL_W, eL_add, eL_sub, eL_mul, eL_neg, eL_lt, eL_le, eL_eq, eL_remN, eL_mod0, ne_eq, Int64.not_lt, Int64.not_le] at c140)
              (try simp (disch := omega) only [lg_cmp_ge, lg_cmp_le, lg_cmp_gt, lg_cmp_lt, lg_cmp_eq, eL_0, eL_1, eL_m1, eL_LO, eL_HI, eL_W, eL_add, eL_sub, eL_mul, eL_neg, eL_lt, eL_le, eL_eq, eL_remN, eL_mod0, ne_eq, Int64.not_lt, Int64.not_le] at c147)
              (try simp only [jo12, jo13] at c18)
              (try simp only [jo12, jo13] at c31)
              (try simp only [jo12, jo13] at c62)
              rw [show logS op x y = mkS 0 y.2.1 1 from by
                unfold logS
                rw [if_neg (by omega), if_pos (by omega), if_neg (by omega)]
                first
                  | (rw [if_pos (by omega)]; done)
                  | (rw [if_neg (by omega), if_pos (by omega)]; done)]
              exact ⟨rfl, rfl, W123⟩
            · refine gi_lload (q := 117) C (dm_Mo_logic 65 rfl) rfl rfl ?_
              refine gi_goto (tgt := 122) C (dm_Mo_logic 66 rfl) (by decide) ?_
              refine gi_lconst (q := 123) (v := 1) C (dm_Mo_logic 68 rfl) rfl (by decide) ?_
              rw [eL_1]
              refine gi_callv 3 (q := 126) C (dm_Mo_logic 69 rfl) rfl my_Mo_set lk_Mo_262 im_Mo_set rfl (c_Mo_set 0 x.2.1 1 (by omega) (by omega) (by omega) (by omega) H) Ha rfl rfl ⟨(Nat.le_of_ble_eq_true rfl), (Nat.le_of_ble_eq_true rfl)⟩ (Nat.le_of_ble_eq_true rfl) ⟨(Nat.le_of_ble_eq_true rfl), (Nat.le_of_ble_eq_true rfl)⟩ (fun r123 n123 h123 e123 => ?_)
              obtain ⟨rfl, rfl, W123⟩ := e123
              refine gi_goto (tgt := 210) C (dm_Mo_logic 70 rfl) (by decide) ?_
              refine gi_vret C hr (dm_Mo_logic 114 rfl) ?_
              (try simp (disch := omega) only [lg_cmp_ge, lg_cmp_le, lg_cmp_gt, lg_cmp_lt, lg_cmp_eq, eL_0, eL_1, eL_m1, eL_LO, eL_HI, eL_W, eL_add, eL_sub, eL_mul, eL_neg, eL_lt, eL_le, eL_eq, eL_remN, eL_mod0, ne_eq, Int64.not_lt, Int64.not_le] at c4)
              (try simp (disch := omega) only [lg_cmp_ge, lg_cmp_le, lg_cmp_gt, lg_cmp_lt, lg_cmp_eq, eL_0, eL_1, eL_m1, eL_LO, eL_HI, eL_W, eL_add, eL_sub, eL_mul, eL_neg, eL_lt, eL_le, eL_eq, eL_remN, eL_mod0, ne_eq, Int64.not_lt, Int64.not_le] at c12)
              (try simp (disch := omega) only [lg_cmp_ge, lg_cmp_le, lg_cmp_gt, lg_cmp_lt, lg_cmp_eq, eL_0, eL_1, eL_m1, eL_LO, eL_HI, eL_W, eL_add, eL_sub, eL_mul, eL_neg, eL_lt, eL_le, eL_eq, eL_remN, eL_mod0, ne_eq, Int64.not_lt, Int64.not_le] at c68)
              (try simp (disch := omega) only [lg_cmp_ge, lg_cmp_le, lg_cmp_gt, lg_cmp_lt, lg_cmp_eq, eL_0, eL_1, eL_m1, eL_LO, eL_HI, eL_W, eL_add, eL_sub, eL_mul, eL_neg, eL_lt, eL_le, eL_eq, eL_remN, eL_mod0, ne_eq, Int64.not_lt, Int64.not_le] at c75)
              (try simp (disch := omega) only [lg_cmp_ge, lg_cmp_le, lg_cmp_gt, lg_cmp_lt, lg_cmp_eq, eL_0, eL_1, eL_m1, eL_LO, eL_HI, eL_W, eL_add, eL_sub, eL_mul, eL_neg, eL_lt, eL_le, eL_eq, eL_remN, eL_mod0, ne_eq, Int64.not_lt, Int64.not_le] at c97)
              (try simp (disch := omega) only [lg_cmp_ge, lg_cmp_le, lg_cmp_gt, lg_cmp_lt, lg_cmp_eq, eL_0, eL_1, eL_m1, eL_LO, eL_HI, eL_W, eL_add, eL_sub, eL_mul, eL_neg, eL_lt, eL_le, eL_eq, eL_remN, eL_mod0, ne_eq, Int64.not_lt, Int64.not_le] at c104)
              (try simp (disch := omega) only [lg_cmp_ge, lg_cmp_le, lg_cmp_gt, lg_cmp_lt, lg_cmp_eq, eL_0, eL_1, eL_m1, eL_LO, eL_HI, eL_W, eL_add, eL_sub, eL_mul, eL_neg, eL_lt, eL_le, eL_eq, eL_remN, eL_mod0, ne_eq, Int64.not_lt, Int64.not_le] at c112)
              (try simp (disch := omega) only [lg_cmp_ge, lg_cmp_le, lg_cmp_gt, lg_cmp_lt, lg_cmp_eq, eL_0, eL_1, eL_m1, eL_LO, eL_HI, eL_W, eL_add, eL_sub, eL_mul, eL_neg, eL_lt, eL_le, eL_eq, eL_remN, eL_mod0, ne_eq, Int64.not_lt, Int64.not_le] at c140)
              (try simp (disch := omega) only [lg_cmp_ge, lg_cmp_le, lg_cmp_gt, lg_cmp_lt, lg_cmp_eq, eL_0, eL_1, eL_m1, eL_LO, eL_HI, eL_W, eL_add, eL_sub, eL_mul, eL_neg, eL_lt, eL_le, eL_eq, eL_remN, eL_mod0, ne_eq, Int64.not_lt, Int64.not_le] at c147)
              (try simp only [jo12, jo13] at c18)
              (try simp only [jo12, jo13] at c31)
              (try simp only [jo12, jo13] at c62)
              rw [show logS op x y = mkS 0 x.2.1 1 from by
                unfold logS
                rw [if_neg (by omega), if_pos (by omega), if_neg (by omega)]
                first
                  | (rw [if_pos (by omega)]; done)
                  | (rw [if_neg (by omega), if_pos (by omega)]; done)]
              exact ⟨rfl, rfl, W123⟩
      · refine gi_lload (q := 73) C (dm_Mo_logic 39 rfl) rfl rfl ?_
        refine gi_lconst (q := 74) (v := 0) C (dm_Mo_logic 40 rfl) rfl (by decide) ?_
        refine gi_lcmp (q := 75) C (dm_Mo_logic 41 rfl) rfl ?_
        refine gi_if_lt (q := 78) (tgt := 94) C (dm_Mo_logic 42 rfl) rfl (by decide) (fun c75 => ?_) (fun c75 => ?_)
        · refine gi_lload_n (q := 95) (i := 2) C (dm_Mo_logic 51 rfl) rfl rfl rfl ?_
          refine gi_lconst (q := 96) (v := 0) C (dm_Mo_logic 52 rfl) rfl (by decide) ?_
          refine gi_lcmp (q := 97) C (dm_Mo_logic 53 rfl) rfl ?_
          refine gi_if_ge (q := 100) (tgt := 107) C (dm_Mo_logic 54 rfl) rfl (by decide) (fun c97 => ?_) (fun c97 => ?_)
          · refine gi_aload_n (q := 108) (i := 0) C (dm_Mo_logic 59 rfl) rfl rfl rfl ?_
            refine gi_lconst (q := 109) (v := 0) C (dm_Mo_logic 60 rfl) rfl (by decide) ?_
            refine gi_lload_n (q := 110) (i := 2) C (dm_Mo_logic 61 rfl) rfl rfl rfl ?_
            refine gi_lconst (q := 111) (v := 0) C (dm_Mo_logic 62 rfl) rfl (by decide) ?_
            refine gi_lcmp (q := 112) C (dm_Mo_logic 63 rfl) rfl ?_
            refine gi_if_lt (q := 115) (tgt := 120) C (dm_Mo_logic 64 rfl) rfl (by decide) (fun c112 => ?_) (fun c112 => ?_)
            · refine gi_lload (q := 122) C (dm_Mo_logic 67 rfl) rfl rfl ?_
              refine gi_lconst (q := 123) (v := 1) C (dm_Mo_logic 68 rfl) rfl (by decide) ?_
              rw [eL_1]
              refine gi_callv 3 (q := 126) C (dm_Mo_logic 69 rfl) rfl my_Mo_set lk_Mo_262 im_Mo_set rfl (c_Mo_set 0 y.2.1 1 (by omega) (by omega) (by omega) (by omega) H) Ha rfl rfl ⟨(Nat.le_of_ble_eq_true rfl), (Nat.le_of_ble_eq_true rfl)⟩ (Nat.le_of_ble_eq_true rfl) ⟨(Nat.le_of_ble_eq_true rfl), (Nat.le_of_ble_eq_true rfl)⟩ (fun r123 n123 h123 e123 => ?_)
              obtain ⟨rfl, rfl, W123⟩ := e123
              refine gi_goto (tgt := 210) C (dm_Mo_logic 70 rfl) (by decide) ?_
              refine gi_vret C hr (dm_Mo_logic 114 rfl) ?_
              (try simp (disch := omega) only [lg_cmp_ge, lg_cmp_le, lg_cmp_gt, lg_cmp_lt, lg_cmp_eq, eL_0, eL_1, eL_m1, eL_LO, eL_HI, eL_W, eL_add, eL_sub, eL_mul, eL_neg, eL_lt, eL_le, eL_eq, eL_remN, eL_mod0, ne_eq, Int64.not_lt, Int64.not_le] at c4)
              (try simp (disch := omega) only [lg_cmp_ge, lg_cmp_le, lg_cmp_gt, lg_cmp_lt, lg_cmp_eq, eL_0, eL_1, eL_m1, eL_LO, eL_HI, eL_W, eL_add, eL_sub, eL_mul, eL_neg, eL_lt, eL_le, eL_eq, eL_remN, eL_mod0, ne_eq, Int64.not_lt, Int64.not_le] at c12)
              (try simp (disch := omega) only [lg_cmp_ge, lg_cmp_le, lg_cmp_gt, lg_cmp_lt, lg_cmp_eq, eL_0, eL_1, eL_m1, eL_LO, eL_HI, eL_W, eL_add, eL_sub, eL_mul, eL_neg, eL_lt, eL_le, eL_eq, eL_remN, eL_mod0, ne_eq, Int64.not_lt, Int64.not_le] at c68)
              (try simp (disch := omega) only [lg_cmp_ge, lg_cmp_le, lg_cmp_gt, lg_cmp_lt, lg_cmp_eq, eL_0, eL_1, eL_m1, eL_LO, eL_HI, eL_W, eL_add, eL_sub, eL_mul, eL_neg, eL_lt, eL_le, eL_eq, eL_remN, eL_mod0, ne_eq, Int64.not_lt, Int64.not_le] at c75)
              (try simp (disch := omega) only [lg_cmp_ge, lg_cmp_le, lg_cmp_gt, lg_cmp_lt, lg_cmp_eq, eL_0, eL_1, eL_m1, eL_LO, eL_HI, eL_W, eL_add, eL_sub, eL_mul, eL_neg, eL_lt, eL_le, eL_eq, eL_remN, eL_mod0, ne_eq, Int64.not_lt, Int64.not_le] at c97)
              (try simp (disch := omega) only [lg_cmp_ge, lg_cmp_le, lg_cmp_gt, lg_cmp_lt, lg_cmp_eq, eL_0, eL_1, eL_m1, eL_LO, eL_HI, eL_W, eL_add, eL_sub, eL_mul, eL_neg, eL_lt, eL_le, eL_eq, eL_remN, eL_mod0, ne_eq, Int64.not_lt, Int64.not_le] at c104)
              (try simp (disch := omega) only [lg_cmp_ge, lg_cmp_le, lg_cmp_gt, lg_cmp_lt, lg_cmp_eq, eL_0, eL_1, eL_m1, eL_LO, eL_HI, eL_W, eL_add, eL_sub, eL_mul, eL_neg, eL_lt, eL_le, eL_eq, eL_remN, eL_mod0, ne_eq, Int64.not_lt, Int64.not_le] at c112)
              (try simp (disch := omega) only [lg_cmp_ge, lg_cmp_le, lg_cmp_gt, lg_cmp_lt, lg_cmp_eq, eL_0, eL_1, eL_m1, eL_LO, eL_HI, eL_W, eL_add, eL_sub, eL_mul, eL_neg, eL_lt, eL_le, eL_eq, eL_remN, eL_mod0, ne_eq, Int64.not_lt, Int64.not_le] at c140)
              (try simp (disch := omega) only [lg_cmp_ge, lg_cmp_le, lg_cmp_gt, lg_cmp_lt, lg_cmp_eq, eL_0, eL_1, eL_m1, eL_LO, eL_HI, eL_W, eL_add, eL_sub, eL_mul, eL_neg, eL_lt, eL_le, eL_eq, eL_remN, eL_mod0, ne_eq, Int64.not_lt, Int64.not_le] at c147)
              (try simp only [jo12, jo13] at c18)
              (try simp only [jo12, jo13] at c31)
              (try simp only [jo12, jo13] at c62)
              rw [show logS op x y = mkS 0 y.2.1 1 from by
                unfold logS
                rw [if_neg (by omega), if_pos (by omega), if_neg (by omega)]
                first
                  | (rw [if_pos (by omega)]; done)
                  | (rw [if_neg (by omega), if_pos (by omega)]; done)]
              exact ⟨rfl, rfl, W123⟩
            · refine gi_lload (q := 117) C (dm_Mo_logic 65 rfl) rfl rfl ?_
              refine gi_goto (tgt := 122) C (dm_Mo_logic 66 rfl) (by decide) ?_
              refine gi_lconst (q := 123) (v := 1) C (dm_Mo_logic 68 rfl) rfl (by decide) ?_
              rw [eL_1]
              refine gi_callv 3 (q := 126) C (dm_Mo_logic 69 rfl) rfl my_Mo_set lk_Mo_262 im_Mo_set rfl (c_Mo_set 0 x.2.1 1 (by omega) (by omega) (by omega) (by omega) H) Ha rfl rfl ⟨(Nat.le_of_ble_eq_true rfl), (Nat.le_of_ble_eq_true rfl)⟩ (Nat.le_of_ble_eq_true rfl) ⟨(Nat.le_of_ble_eq_true rfl), (Nat.le_of_ble_eq_true rfl)⟩ (fun r123 n123 h123 e123 => ?_)
              obtain ⟨rfl, rfl, W123⟩ := e123
              refine gi_goto (tgt := 210) C (dm_Mo_logic 70 rfl) (by decide) ?_
              refine gi_vret C hr (dm_Mo_logic 114 rfl) ?_
              (try simp (disch := omega) only [lg_cmp_ge, lg_cmp_le, lg_cmp_gt, lg_cmp_lt, lg_cmp_eq, eL_0, eL_1, eL_m1, eL_LO, eL_HI, eL_W, eL_add, eL_sub, eL_mul, eL_neg, eL_lt, eL_le, eL_eq, eL_remN, eL_mod0, ne_eq, Int64.not_lt, Int64.not_le] at c4)
              (try simp (disch := omega) only [lg_cmp_ge, lg_cmp_le, lg_cmp_gt, lg_cmp_lt, lg_cmp_eq, eL_0, eL_1, eL_m1, eL_LO, eL_HI, eL_W, eL_add, eL_sub, eL_mul, eL_neg, eL_lt, eL_le, eL_eq, eL_remN, eL_mod0, ne_eq, Int64.not_lt, Int64.not_le] at c12)
              (try simp (disch := omega) only [lg_cmp_ge, lg_cmp_le, lg_cmp_gt, lg_cmp_lt, lg_cmp_eq, eL_0, eL_1, eL_m1, eL_LO, eL_HI, eL_W, eL_add, eL_sub, eL_mul, eL_neg, eL_lt, eL_le, eL_eq, eL_remN, eL_mod0, ne_eq, Int64.not_lt, Int64.not_le] at c68)
              (try simp (disch := omega) only [lg_cmp_ge, lg_cmp_le, lg_cmp_gt, lg_cmp_lt, lg_cmp_eq, eL_0, eL_1, eL_m1, eL_LO, eL_HI, eL_W, eL_add, eL_sub, eL_mul, eL_neg, eL_lt, eL_le, eL_eq, eL_remN, eL_mod0, ne_eq, Int64.not_lt, Int64.not_le] at c75)
              (try simp (disch := omega) only [lg_cmp_ge, lg_cmp_le, lg_cmp_gt, lg_cmp_lt, lg_cmp_eq, eL_0, eL_1, eL_m1, eL_LO, eL_HI, eL_W, eL_add, eL_sub, eL_mul, eL_neg, eL_lt, eL_le, eL_eq, eL_remN, eL_mod0, ne_eq, Int64.not_lt, Int64.not_le] at c97)
              (try simp (disch := omega) only [lg_cmp_ge, lg_cmp_le, lg_cmp_gt, lg_cmp_lt, lg_cmp_eq, eL_0, eL_1, eL_m1, eL_LO, eL_HI, eL_W, eL_add, eL_sub, eL_mul, eL_neg, eL_lt, eL_le, eL_eq, eL_remN, eL_mod0, ne_eq, Int64.not_lt, Int64.not_le] at c104)
              (try simp (disch := omega) only [lg_cmp_ge, lg_cmp_le, lg_cmp_gt, lg_cmp_lt, lg_cmp_eq, eL_0, eL_1, eL_m1, eL_LO, eL_HI, eL_W, eL_add, eL_sub, eL_mul, eL_neg, eL_lt, eL_le, eL_eq, eL_remN, eL_mod0, ne_eq, Int64.not_lt, Int64.not_le] at c112)
              (try simp (disch := omega) only [lg_cmp_ge, lg_cmp_le, lg_cmp_gt, lg_cmp_lt, lg_cmp_eq, eL_0, eL_1, eL_m1, eL_LO, eL_HI, eL_W, eL_add, eL_sub, eL_mul, eL_neg, eL_lt, eL_le, eL_eq, eL_remN, eL_mod0, ne_eq, Int64.not_lt, Int64.not_le] at c140)
              (try simp (disch := omega) only [lg_cmp_ge, lg_cmp_le, lg_cmp_gt, lg_cmp_lt, lg_cmp_eq, eL_0, eL_1, eL_m1, eL_LO, eL_HI, eL_W, eL_add, eL_sub, eL_mul, eL_neg, eL_lt, eL_le, eL_eq, eL_remN, eL_mod0, ne_eq, Int64.not_lt, Int64.not_le] at c147)
              (try simp only [jo12, jo13] at c18)
              (try simp only [jo12, jo13] at c31)
              (try simp only [jo12, jo13] at c62)
              rw [show logS op x y = mkS 0 x.2.1 1 from by
                unfold logS
                rw [if_neg (by omega), if_pos (by omega), if_neg (by omega)]
                first
                  | (rw [if_pos (by omega)]; done)
                  | (rw [if_neg (by omega), if_pos (by omega)]; done)]
              exact ⟨rfl, rfl, W123⟩
          · refine gi_lload (q := 102) C (dm_Mo_logic 55 rfl) rfl rfl ?_
            refine gi_lconst (q := 103) (v := 0) C (dm_Mo_logic 56 rfl) rfl (by decide) ?_
            refine gi_lcmp (q := 104) C (dm_Mo_logic 57 rfl) rfl ?_
            refine gi_if_lt (q := 107) (tgt := 129) C (dm_Mo_logic 58 rfl) rfl (by decide) (fun c104 => ?_) (fun c104 => ?_)
            · refine gi_aload_n (q := 130) (i := 0) C (dm_Mo_logic 71 rfl) rfl rfl rfl ?_
              refine gi_lconst (q := 131) (v := 1) C (dm_Mo_logic 72 rfl) rfl (by decide) ?_
              rw [eL_1]
              refine gi_callv 1 (q := 134) C (dm_Mo_logic 73 rfl) rfl my_Mo_all lk_Mo_295 im_Mo_all rfl (c_Mo_all H) Ha rfl rfl ⟨(Nat.le_of_ble_eq_true rfl), (Nat.le_of_ble_eq_true rfl)⟩ (Nat.le_of_ble_eq_true rfl) ⟨(Nat.le_of_ble_eq_true rfl), (Nat.le_of_ble_eq_true rfl)⟩ (fun r131 n131 h131 e131 => ?_)
              obtain ⟨rfl, rfl, W131⟩ := e131
              refine gi_goto (tgt := 210) C (dm_Mo_logic 74 rfl) (by decide) ?_
              refine gi_vret C hr (dm_Mo_logic 114 rfl) ?_
              (try simp (disch := omega) only [lg_cmp_ge, lg_cmp_le, lg_cmp_gt, lg_cmp_lt, lg_cmp_eq, eL_0, eL_1, eL_m1, eL_LO, eL_HI, eL_W, eL_add, eL_sub, eL_mul, eL_neg, eL_lt, eL_le, eL_eq, eL_remN, eL_mod0, ne_eq, Int64.not_lt, Int64.not_le] at c4)
              (try simp (disch := omega) only [lg_cmp_ge, lg_cmp_le, lg_cmp_gt, lg_cmp_lt, lg_cmp_eq, eL_0, eL_1, eL_m1, eL_LO, eL_HI, eL_W, eL_add, eL_sub, eL_mul, eL_neg, eL_lt, eL_le, eL_eq, eL_remN, eL_mod0, ne_eq, Int64.not_lt, Int64.not_le] at c12)
              (try simp (disch := omega) only [lg_cmp_ge, lg_cmp_le, lg_cmp_gt, lg_cmp_lt, lg_cmp_eq, eL_0, eL_1, eL_m1, eL_LO, eL_HI, eL_W, eL_add, eL_sub, eL_mul, eL_neg, eL_lt, eL_le, eL_eq, eL_remN, eL_mod0, ne_eq, Int64.not_lt, Int64.not_le] at c68)
              (try simp (disch := omega) only [lg_cmp_ge, lg_cmp_le, lg_cmp_gt, lg_cmp_lt, lg_cmp_eq, eL_0, eL_1, eL_m1, eL_LO, eL_HI, eL_W, eL_add, eL_sub, eL_mul, eL_neg, eL_lt, eL_le, eL_eq, eL_remN, eL_mod0, ne_eq, Int64.not_lt, Int64.not_le] at c75)
              (try simp (disch := omega) only [lg_cmp_ge, lg_cmp_le, lg_cmp_gt, lg_cmp_lt, lg_cmp_eq, eL_0, eL_1, eL_m1, eL_LO, eL_HI, eL_W, eL_add, eL_sub, eL_mul, eL_neg, eL_lt, eL_le, eL_eq, eL_remN, eL_mod0, ne_eq, Int64.not_lt, Int64.not_le] at c97)
              (try simp (disch := omega) only [lg_cmp_ge, lg_cmp_le, lg_cmp_gt, lg_cmp_lt, lg_cmp_eq, eL_0, eL_1, eL_m1, eL_LO, eL_HI, eL_W, eL_add, eL_sub, eL_mul, eL_neg, eL_lt, eL_le, eL_eq, eL_remN, eL_mod0, ne_eq, Int64.not_lt, Int64.not_le] at c104)
              (try simp (disch := omega) only [lg_cmp_ge, lg_cmp_le, lg_cmp_gt, lg_cmp_lt, lg_cmp_eq, eL_0, eL_1, eL_m1, eL_LO, eL_HI, eL_W, eL_add, eL_sub, eL_mul, eL_neg, eL_lt, eL_le, eL_eq, eL_remN, eL_mod0, ne_eq, Int64.not_lt, Int64.not_le] at c112)
              (try simp (disch := omega) only [lg_cmp_ge, lg_cmp_le, lg_cmp_gt, lg_cmp_lt, lg_cmp_eq, eL_0, eL_1, eL_m1, eL_LO, eL_HI, eL_W, eL_add, eL_sub, eL_mul, eL_neg, eL_lt, eL_le, eL_eq, eL_remN, eL_mod0, ne_eq, Int64.not_lt, Int64.not_le] at c140)
              (try simp (disch := omega) only [lg_cmp_ge, lg_cmp_le, lg_cmp_gt, lg_cmp_lt, lg_cmp_eq, eL_0, eL_1, eL_m1, eL_LO, eL_HI, eL_W, eL_add, eL_sub, eL_mul, eL_neg, eL_lt, eL_le, eL_eq, eL_remN, eL_mod0, ne_eq, Int64.not_lt, Int64.not_le] at c147)
              (try simp only [jo12, jo13] at c18)
              (try simp only [jo12, jo13] at c31)
              (try simp only [jo12, jo13] at c62)
              rw [show logS op x y = allS from by
                unfold logS
                rw [if_neg (by omega), if_pos (by omega), if_neg (by omega), if_neg (by omega), if_neg (by omega)]]
              exact ⟨rfl, rfl, W131⟩
            · refine gi_aload_n (q := 108) (i := 0) C (dm_Mo_logic 59 rfl) rfl rfl rfl ?_
              refine gi_lconst (q := 109) (v := 0) C (dm_Mo_logic 60 rfl) rfl (by decide) ?_
              refine gi_lload_n (q := 110) (i := 2) C (dm_Mo_logic 61 rfl) rfl rfl rfl ?_
              refine gi_lconst (q := 111) (v := 0) C (dm_Mo_logic 62 rfl) rfl (by decide) ?_
              refine gi_lcmp (q := 112) C (dm_Mo_logic 63 rfl) rfl ?_
              refine gi_if_lt (q := 115) (tgt := 120) C (dm_Mo_logic 64 rfl) rfl (by decide) (fun c112 => ?_) (fun c112 => ?_)
              · refine gi_lload (q := 122) C (dm_Mo_logic 67 rfl) rfl rfl ?_
                refine gi_lconst (q := 123) (v := 1) C (dm_Mo_logic 68 rfl) rfl (by decide) ?_
                rw [eL_1]
                refine gi_callv 3 (q := 126) C (dm_Mo_logic 69 rfl) rfl my_Mo_set lk_Mo_262 im_Mo_set rfl (c_Mo_set 0 y.2.1 1 (by omega) (by omega) (by omega) (by omega) H) Ha rfl rfl ⟨(Nat.le_of_ble_eq_true rfl), (Nat.le_of_ble_eq_true rfl)⟩ (Nat.le_of_ble_eq_true rfl) ⟨(Nat.le_of_ble_eq_true rfl), (Nat.le_of_ble_eq_true rfl)⟩ (fun r123 n123 h123 e123 => ?_)
                obtain ⟨rfl, rfl, W123⟩ := e123
                refine gi_goto (tgt := 210) C (dm_Mo_logic 70 rfl) (by decide) ?_
                refine gi_vret C hr (dm_Mo_logic 114 rfl) ?_
                (try simp (disch := omega) only [lg_cmp_ge, lg_cmp_le, lg_cmp_gt, lg_cmp_lt, lg_cmp_eq, eL_0, eL_1, eL_m1, eL_LO, eL_HI, eL_W, eL_add, eL_sub, eL_mul, eL_neg, eL_lt, eL_le, eL_eq, eL_remN, eL_mod0, ne_eq, Int64.not_lt, Int64.not_le] at c4)
                (try simp (disch := omega) only [lg_cmp_ge, lg_cmp_le, lg_cmp_gt, lg_cmp_lt, lg_cmp_eq, eL_0, eL_1, eL_m1, eL_LO, eL_HI, eL_W, eL_add, eL_sub, eL_mul, eL_neg, eL_lt, eL_le, eL_eq, eL_remN, eL_mod0, ne_eq, Int64.not_lt, Int64.not_le] at c12)
                (try simp (disch := omega) only [lg_cmp_ge, lg_cmp_le, lg_cmp_gt, lg_cmp_lt, lg_cmp_eq, eL_0, eL_1, eL_m1, eL_LO, eL_HI, eL_W, eL_add, eL_sub, eL_mul, eL_neg, eL_lt, eL_le, eL_eq, eL_remN, eL_mod0, ne_eq, Int64.not_lt, Int64.not_le] at c68)
                (try simp (disch := omega) only [lg_cmp_ge, lg_cmp_le, lg_cmp_gt, lg_cmp_lt, lg_cmp_eq, eL_0, eL_1, eL_m1, eL_LO, eL_HI, eL_W, eL_add, eL_sub, eL_mul, eL_neg, eL_lt, eL_le, eL_eq, eL_remN, eL_mod0, ne_eq, Int64.not_lt, Int64.not_le] at c75)
                (try simp (disch := omega) only [lg_cmp_ge, lg_cmp_le, lg_cmp_gt, lg_cmp_lt, lg_cmp_eq, eL_0, eL_1, eL_m1, eL_LO, eL_HI, eL_W, eL_add, eL_sub, eL_mul, eL_neg, eL_lt, eL_le, eL_eq, eL_remN, eL_mod0, ne_eq, Int64.not_lt, Int64.not_le] at c97)
                (try simp (disch := omega) only [lg_cmp_ge, lg_cmp_le, lg_cmp_gt, lg_cmp_lt, lg_cmp_eq, eL_0, eL_1, eL_m1, eL_LO, eL_HI, eL_W, eL_add, eL_sub, eL_mul, eL_neg, eL_lt, eL_le, eL_eq, eL_remN, eL_mod0, ne_eq, Int64.not_lt, Int64.not_le] at c104)
                (try simp (disch := omega) only [lg_cmp_ge, lg_cmp_le, lg_cmp_gt, lg_cmp_lt, lg_cmp_eq, eL_0, eL_1, eL_m1, eL_LO, eL_HI, eL_W, eL_add, eL_sub, eL_mul, eL_neg, eL_lt, eL_le, eL_eq, eL_remN, eL_mod0, ne_eq, Int64.not_lt, Int64.not_le] at c112)
                (try simp (disch := omega) only [lg_cmp_ge, lg_cmp_le, lg_cmp_gt, lg_cmp_lt, lg_cmp_eq, eL_0, eL_1, eL_m1, eL_LO, eL_HI, eL_W, eL_add, eL_sub, eL_mul, eL_neg, eL_lt, eL_le, eL_eq, eL_remN, eL_mod0, ne_eq, Int64.not_lt, Int64.not_le] at c140)
                (try simp (disch := omega) only [lg_cmp_ge, lg_cmp_le, lg_cmp_gt, lg_cmp_lt, lg_cmp_eq, eL_0, eL_1, eL_m1, eL_LO, eL_HI, eL_W, eL_add, eL_sub, eL_mul, eL_neg, eL_lt, eL_le, eL_eq, eL_remN, eL_mod0, ne_eq, Int64.not_lt, Int64.not_le] at c147)
                (try simp only [jo12, jo13] at c18)
                (try simp only [jo12, jo13] at c31)
                (try simp only [jo12, jo13] at c62)
                rw [show logS op x y = mkS 0 y.2.1 1 from by
                  unfold logS
                  rw [if_neg (by omega), if_pos (by omega), if_neg (by omega)]
                  first
                    | (rw [if_pos (by omega)]; done)
                    | (rw [if_neg (by omega), if_pos (by omega)]; done)]
                exact ⟨rfl, rfl, W123⟩
              · refine gi_lload (q := 117) C (dm_Mo_logic 65 rfl) rfl rfl ?_
                refine gi_goto (tgt := 122) C (dm_Mo_logic 66 rfl) (by decide) ?_
                refine gi_lconst (q := 123) (v := 1) C (dm_Mo_logic 68 rfl) rfl (by decide) ?_
                rw [eL_1]
                refine gi_callv 3 (q := 126) C (dm_Mo_logic 69 rfl) rfl my_Mo_set lk_Mo_262 im_Mo_set rfl (c_Mo_set 0 x.2.1 1 (by omega) (by omega) (by omega) (by omega) H) Ha rfl rfl ⟨(Nat.le_of_ble_eq_true rfl), (Nat.le_of_ble_eq_true rfl)⟩ (Nat.le_of_ble_eq_true rfl) ⟨(Nat.le_of_ble_eq_true rfl), (Nat.le_of_ble_eq_true rfl)⟩ (fun r123 n123 h123 e123 => ?_)
                obtain ⟨rfl, rfl, W123⟩ := e123
                refine gi_goto (tgt := 210) C (dm_Mo_logic 70 rfl) (by decide) ?_
                refine gi_vret C hr (dm_Mo_logic 114 rfl) ?_
                (try simp (disch := omega) only [lg_cmp_ge, lg_cmp_le, lg_cmp_gt, lg_cmp_lt, lg_cmp_eq, eL_0, eL_1, eL_m1, eL_LO, eL_HI, eL_W, eL_add, eL_sub, eL_mul, eL_neg, eL_lt, eL_le, eL_eq, eL_remN, eL_mod0, ne_eq, Int64.not_lt, Int64.not_le] at c4)
                (try simp (disch := omega) only [lg_cmp_ge, lg_cmp_le, lg_cmp_gt, lg_cmp_lt, lg_cmp_eq, eL_0, eL_1, eL_m1, eL_LO, eL_HI, eL_W, eL_add, eL_sub, eL_mul, eL_neg, eL_lt, eL_le, eL_eq, eL_remN, eL_mod0, ne_eq, Int64.not_lt, Int64.not_le] at c12)
                (try simp (disch := omega) only [lg_cmp_ge, lg_cmp_le, lg_cmp_gt, lg_cmp_lt, lg_cmp_eq, eL_0, eL_1, eL_m1, eL_LO, eL_HI, eL_W, eL_add, eL_sub, eL_mul, eL_neg, eL_lt, eL_le, eL_eq, eL_remN, eL_mod0, ne_eq, Int64.not_lt, Int64.not_le] at c68)
                (try simp (disch := omega) only [lg_cmp_ge, lg_cmp_le, lg_cmp_gt, lg_cmp_lt, lg_cmp_eq, eL_0, eL_1, eL_m1, eL_LO, eL_HI, eL_W, eL_add, eL_sub, eL_mul, eL_neg, eL_lt, eL_le, eL_eq, eL_remN, eL_mod0, ne_eq, Int64.not_lt, Int64.not_le] at c75)
                (try simp (disch := omega) only [lg_cmp_ge, lg_cmp_le, lg_cmp_gt, lg_cmp_lt, lg_cmp_eq, eL_0, eL_1, eL_m1, eL_LO, eL_HI, eL_W, eL_add, eL_sub, eL_mul, eL_neg, eL_lt, eL_le, eL_eq, eL_remN, eL_mod0, ne_eq, Int64.not_lt, Int64.not_le] at c97)
                (try simp (disch := omega) only [lg_cmp_ge, lg_cmp_le, lg_cmp_gt, lg_cmp_lt, lg_cmp_eq, eL_0, eL_1, eL_m1, eL_LO, eL_HI, eL_W, eL_add, eL_sub, eL_mul, eL_neg, eL_lt, eL_le, eL_eq, eL_remN, eL_mod0, ne_eq, Int64.not_lt, Int64.not_le] at c104)
                (try simp (disch := omega) only [lg_cmp_ge, lg_cmp_le, lg_cmp_gt, lg_cmp_lt, lg_cmp_eq, eL_0, eL_1, eL_m1, eL_LO, eL_HI, eL_W, eL_add, eL_sub, eL_mul, eL_neg, eL_lt, eL_le, eL_eq, eL_remN, eL_mod0, ne_eq, Int64.not_lt, Int64.not_le] at c112)
                (try simp (disch := omega) only [lg_cmp_ge, lg_cmp_le, lg_cmp_gt, lg_cmp_lt, lg_cmp_eq, eL_0, eL_1, eL_m1, eL_LO, eL_HI, eL_W, eL_add, eL_sub, eL_mul, eL_neg, eL_lt, eL_le, eL_eq, eL_remN, eL_mod0, ne_eq, Int64.not_lt, Int64.not_le] at c140)
                (try simp (disch := omega) only [lg_cmp_ge, lg_cmp_le, lg_cmp_gt, lg_cmp_lt, lg_cmp_eq, eL_0, eL_1, eL_m1, eL_LO, eL_HI, eL_W, eL_add, eL_sub, eL_mul, eL_neg, eL_lt, eL_le, eL_eq, eL_remN, eL_mod0, ne_eq, Int64.not_lt, Int64.not_le] at c147)
                (try simp only [jo12, jo13] at c18)
                (try simp only [jo12, jo13] at c31)
                (try simp only [jo12, jo13] at c62)
                rw [show logS op x y = mkS 0 x.2.1 1 from by
                  unfold logS
                  rw [if_neg (by omega), if_pos (by omega), if_neg (by omega)]
                  first
                    | (rw [if_pos (by omega)]; done)
                    | (rw [if_neg (by omega), if_pos (by omega)]; done)]
                exact ⟨rfl, rfl, W123⟩
        · refine gi_aload_n (q := 79) (i := 0) C (dm_Mo_logic 43 rfl) rfl rfl rfl ?_
          refine gi_lconst (q := 80) (v := 0) C (dm_Mo_logic 44 rfl) rfl (by decide) ?_
          refine gi_lload (q := 82) C (dm_Mo_logic 45 rfl) rfl rfl ?_
          refine gi_lload (q := 84) C (dm_Mo_logic 46 rfl) rfl rfl ?_
          refine gi_calls 2 (q := 87) C (dm_Mo_logic 47 rfl) rfl my_Mo_min lk_Mo_252 sm_Mo_min (c_Mo_min x.2.1 y.2.1 (by omega) (by omega) (by omega) (by omega)) rfl rfl ⟨(Nat.le_of_ble_eq_true rfl), (Nat.le_of_ble_eq_true rfl)⟩ (Nat.le_of_ble_eq_true rfl) ⟨(Nat.le_of_ble_eq_true rfl), (Nat.le_of_ble_eq_true rfl)⟩ (fun r84 n84 h84 e84 => ?_)
          obtain ⟨rfl, q84, u84⟩ := e84
          rw [q84, u84]
          refine gi_lconst (q := 88) (v := 1) C (dm_Mo_logic 48 rfl) rfl (by decide) ?_
          rw [eL_1]
          refine gi_callv 3 (q := 91) C (dm_Mo_logic 49 rfl) rfl my_Mo_set lk_Mo_262 im_Mo_set rfl (c_Mo_set 0 (min x.2.1 y.2.1) 1 (by omega) (by omega) (by omega) (by omega) H) Ha rfl rfl ⟨(Nat.le_of_ble_eq_true rfl), (Nat.le_of_ble_eq_true rfl)⟩ (Nat.le_of_ble_eq_true rfl) ⟨(Nat.le_of_ble_eq_true rfl), (Nat.le_of_ble_eq_true rfl)⟩ (fun r88 n88 h88 e88 => ?_)
          obtain ⟨rfl, rfl, W88⟩ := e88
          refine gi_goto (tgt := 210) C (dm_Mo_logic 50 rfl) (by decide) ?_
          refine gi_vret C hr (dm_Mo_logic 114 rfl) ?_
          (try simp (disch := omega) only [lg_cmp_ge, lg_cmp_le, lg_cmp_gt, lg_cmp_lt, lg_cmp_eq, eL_0, eL_1, eL_m1, eL_LO, eL_HI, eL_W, eL_add, eL_sub, eL_mul, eL_neg, eL_lt, eL_le, eL_eq, eL_remN, eL_mod0, ne_eq, Int64.not_lt, Int64.not_le] at c4)
          (try simp (disch := omega) only [lg_cmp_ge, lg_cmp_le, lg_cmp_gt, lg_cmp_lt, lg_cmp_eq, eL_0, eL_1, eL_m1, eL_LO, eL_HI, eL_W, eL_add, eL_sub, eL_mul, eL_neg, eL_lt, eL_le, eL_eq, eL_remN, eL_mod0, ne_eq, Int64.not_lt, Int64.not_le] at c12)
          (try simp (disch := omega) only [lg_cmp_ge, lg_cmp_le, lg_cmp_gt, lg_cmp_lt, lg_cmp_eq, eL_0, eL_1, eL_m1, eL_LO, eL_HI, eL_W, eL_add, eL_sub, eL_mul, eL_neg, eL_lt, eL_le, eL_eq, eL_remN, eL_mod0, ne_eq, Int64.not_lt, Int64.not_le] at c68)
          (try simp (disch := omega) only [lg_cmp_ge, lg_cmp_le, lg_cmp_gt, lg_cmp_lt, lg_cmp_eq, eL_0, eL_1, eL_m1, eL_LO, eL_HI, eL_W, eL_add, eL_sub, eL_mul, eL_neg, eL_lt, eL_le, eL_eq, eL_remN, eL_mod0, ne_eq, Int64.not_lt, Int64.not_le] at c75)
          (try simp (disch := omega) only [lg_cmp_ge, lg_cmp_le, lg_cmp_gt, lg_cmp_lt, lg_cmp_eq, eL_0, eL_1, eL_m1, eL_LO, eL_HI, eL_W, eL_add, eL_sub, eL_mul, eL_neg, eL_lt, eL_le, eL_eq, eL_remN, eL_mod0, ne_eq, Int64.not_lt, Int64.not_le] at c97)
          (try simp (disch := omega) only [lg_cmp_ge, lg_cmp_le, lg_cmp_gt, lg_cmp_lt, lg_cmp_eq, eL_0, eL_1, eL_m1, eL_LO, eL_HI, eL_W, eL_add, eL_sub, eL_mul, eL_neg, eL_lt, eL_le, eL_eq, eL_remN, eL_mod0, ne_eq, Int64.not_lt, Int64.not_le] at c104)
          (try simp (disch := omega) only [lg_cmp_ge, lg_cmp_le, lg_cmp_gt, lg_cmp_lt, lg_cmp_eq, eL_0, eL_1, eL_m1, eL_LO, eL_HI, eL_W, eL_add, eL_sub, eL_mul, eL_neg, eL_lt, eL_le, eL_eq, eL_remN, eL_mod0, ne_eq, Int64.not_lt, Int64.not_le] at c112)
          (try simp (disch := omega) only [lg_cmp_ge, lg_cmp_le, lg_cmp_gt, lg_cmp_lt, lg_cmp_eq, eL_0, eL_1, eL_m1, eL_LO, eL_HI, eL_W, eL_add, eL_sub, eL_mul, eL_neg, eL_lt, eL_le, eL_eq, eL_remN, eL_mod0, ne_eq, Int64.not_lt, Int64.not_le] at c140)
          (try simp (disch := omega) only [lg_cmp_ge, lg_cmp_le, lg_cmp_gt, lg_cmp_lt, lg_cmp_eq, eL_0, eL_1, eL_m1, eL_LO, eL_HI, eL_W, eL_add, eL_sub, eL_mul, eL_neg, eL_lt, eL_le, eL_eq, eL_remN, eL_mod0, ne_eq, Int64.not_lt, Int64.not_le] at c147)
          (try simp only [jo12, jo13] at c18)
          (try simp only [jo12, jo13] at c31)
          (try simp only [jo12, jo13] at c62)
          rw [show logS op x y = mkS 0 (min x.2.1 y.2.1) 1 from by
            unfold logS
            rw [if_neg (by omega), if_pos (by omega), if_pos (by omega)]]
          exact ⟨rfl, rfl, W88⟩
  · refine gi_lload (q := 9) C (dm_Mo_logic 4 rfl) rfl rfl ?_
    refine gi_lload (q := 11) C (dm_Mo_logic 5 rfl) rfl rfl ?_
    refine gi_lcmp (q := 12) C (dm_Mo_logic 6 rfl) rfl ?_
    refine gi_if_ne (q := 15) (tgt := 59) C (dm_Mo_logic 7 rfl) rfl (by decide) (fun c12 => ?_) (fun c12 => ?_)
    · refine gi_iload_n (q := 60) (i := 1) C (dm_Mo_logic 32 rfl) rfl rfl rfl ?_
      refine gi_bipush (q := 62) (v := 12) C (dm_Mo_logic 33 rfl) rfl (by decide) ?_
      refine gi_icmp_ne (q := 65) (tgt := 137) C (dm_Mo_logic 34 rfl) rfl (by decide) (fun c62 => ?_) (fun c62 => ?_)
      · refine gi_lload_n (q := 138) (i := 2) C (dm_Mo_logic 75 rfl) rfl rfl rfl ?_
        refine gi_lconst (q := 139) (v := 0) C (dm_Mo_logic 76 rfl) rfl (by decide) ?_
        refine gi_lcmp (q := 140) C (dm_Mo_logic 77 rfl) rfl ?_
        refine gi_if_lt (q := 143) (tgt := 205) C (dm_Mo_logic 78 rfl) rfl (by decide) (fun c140 => ?_) (fun c140 => ?_)
        · refine gi_aload_n (q := 206) (i := 0) C (dm_Mo_logic 111 rfl) rfl rfl rfl ?_
          refine gi_lconst (q := 207) (v := 1) C (dm_Mo_logic 112 rfl) rfl (by decide) ?_
          rw [eL_1]
          refine gi_callv 1 (q := 210) C (dm_Mo_logic 113 rfl) rfl my_Mo_all lk_Mo_295 im_Mo_all rfl (c_Mo_all H) Ha rfl rfl ⟨(Nat.le_of_ble_eq_true rfl), (Nat.le_of_ble_eq_true rfl)⟩ (Nat.le_of_ble_eq_true rfl) ⟨(Nat.le_of_ble_eq_true rfl), (Nat.le_of_ble_eq_true rfl)⟩ (fun r207 n207 h207 e207 => ?_)
          obtain ⟨rfl, rfl, W207⟩ := e207
          refine gi_vret C hr (dm_Mo_logic 114 rfl) ?_
          (try simp (disch := omega) only [lg_cmp_ge, lg_cmp_le, lg_cmp_gt, lg_cmp_lt, lg_cmp_eq, eL_0, eL_1, eL_m1, eL_LO, eL_HI, eL_W, eL_add, eL_sub, eL_mul, eL_neg, eL_lt, eL_le, eL_eq, eL_remN, eL_mod0, ne_eq, Int64.not_lt, Int64.not_le] at c4)
          (try simp (disch := omega) only [lg_cmp_ge, lg_cmp_le, lg_cmp_gt, lg_cmp_lt, lg_cmp_eq, eL_0, eL_1, eL_m1, eL_LO, eL_HI, eL_W, eL_add, eL_sub, eL_mul, eL_neg, eL_lt, eL_le, eL_eq, eL_remN, eL_mod0, ne_eq, Int64.not_lt, Int64.not_le] at c12)
          (try simp (disch := omega) only [lg_cmp_ge, lg_cmp_le, lg_cmp_gt, lg_cmp_lt, lg_cmp_eq, eL_0, eL_1, eL_m1, eL_LO, eL_HI, eL_W, eL_add, eL_sub, eL_mul, eL_neg, eL_lt, eL_le, eL_eq, eL_remN, eL_mod0, ne_eq, Int64.not_lt, Int64.not_le] at c68)
          (try simp (disch := omega) only [lg_cmp_ge, lg_cmp_le, lg_cmp_gt, lg_cmp_lt, lg_cmp_eq, eL_0, eL_1, eL_m1, eL_LO, eL_HI, eL_W, eL_add, eL_sub, eL_mul, eL_neg, eL_lt, eL_le, eL_eq, eL_remN, eL_mod0, ne_eq, Int64.not_lt, Int64.not_le] at c75)
          (try simp (disch := omega) only [lg_cmp_ge, lg_cmp_le, lg_cmp_gt, lg_cmp_lt, lg_cmp_eq, eL_0, eL_1, eL_m1, eL_LO, eL_HI, eL_W, eL_add, eL_sub, eL_mul, eL_neg, eL_lt, eL_le, eL_eq, eL_remN, eL_mod0, ne_eq, Int64.not_lt, Int64.not_le] at c97)
          (try simp (disch := omega) only [lg_cmp_ge, lg_cmp_le, lg_cmp_gt, lg_cmp_lt, lg_cmp_eq, eL_0, eL_1, eL_m1, eL_LO, eL_HI, eL_W, eL_add, eL_sub, eL_mul, eL_neg, eL_lt, eL_le, eL_eq, eL_remN, eL_mod0, ne_eq, Int64.not_lt, Int64.not_le] at c104)
          (try simp (disch := omega) only [lg_cmp_ge, lg_cmp_le, lg_cmp_gt, lg_cmp_lt, lg_cmp_eq, eL_0, eL_1, eL_m1, eL_LO, eL_HI, eL_W, eL_add, eL_sub, eL_mul, eL_neg, eL_lt, eL_le, eL_eq, eL_remN, eL_mod0, ne_eq, Int64.not_lt, Int64.not_le] at c112)
          (try simp (disch := omega) only [lg_cmp_ge, lg_cmp_le, lg_cmp_gt, lg_cmp_lt, lg_cmp_eq, eL_0, eL_1, eL_m1, eL_LO, eL_HI, eL_W, eL_add, eL_sub, eL_mul, eL_neg, eL_lt, eL_le, eL_eq, eL_remN, eL_mod0, ne_eq, Int64.not_lt, Int64.not_le] at c140)
          (try simp (disch := omega) only [lg_cmp_ge, lg_cmp_le, lg_cmp_gt, lg_cmp_lt, lg_cmp_eq, eL_0, eL_1, eL_m1, eL_LO, eL_HI, eL_W, eL_add, eL_sub, eL_mul, eL_neg, eL_lt, eL_le, eL_eq, eL_remN, eL_mod0, ne_eq, Int64.not_lt, Int64.not_le] at c147)
          (try simp only [jo12, jo13] at c18)
          (try simp only [jo12, jo13] at c31)
          (try simp only [jo12, jo13] at c62)
          rw [show logS op x y = allS from by
            unfold logS
            rw [if_neg (by omega), if_neg (by omega), if_neg (by omega)]]
          exact ⟨rfl, rfl, W207⟩
        · refine gi_lload (q := 145) C (dm_Mo_logic 79 rfl) rfl rfl ?_
          refine gi_lconst (q := 146) (v := 0) C (dm_Mo_logic 80 rfl) rfl (by decide) ?_
          refine gi_lcmp (q := 147) C (dm_Mo_logic 81 rfl) rfl ?_
          refine gi_if_lt (q := 150) (tgt := 205) C (dm_Mo_logic 82 rfl) rfl (by decide) (fun c147 => ?_) (fun c147 => ?_)
          · refine gi_aload_n (q := 206) (i := 0) C (dm_Mo_logic 111 rfl) rfl rfl rfl ?_
            refine gi_lconst (q := 207) (v := 1) C (dm_Mo_logic 112 rfl) rfl (by decide) ?_
            rw [eL_1]
            refine gi_callv 1 (q := 210) C (dm_Mo_logic 113 rfl) rfl my_Mo_all lk_Mo_295 im_Mo_all rfl (c_Mo_all H) Ha rfl rfl ⟨(Nat.le_of_ble_eq_true rfl), (Nat.le_of_ble_eq_true rfl)⟩ (Nat.le_of_ble_eq_true rfl) ⟨(Nat.le_of_ble_eq_true rfl), (Nat.le_of_ble_eq_true rfl)⟩ (fun r207 n207 h207 e207 => ?_)
            obtain ⟨rfl, rfl, W207⟩ := e207
            refine gi_vret C hr (dm_Mo_logic 114 rfl) ?_
            (try simp (disch := omega) only [lg_cmp_ge, lg_cmp_le, lg_cmp_gt, lg_cmp_lt, lg_cmp_eq, eL_0, eL_1, eL_m1, eL_LO, eL_HI, eL_W, eL_add, eL_sub, eL_mul, eL_neg, eL_lt, eL_le, eL_eq, eL_remN, eL_mod0, ne_eq, Int64.not_lt, Int64.not_le] at c4)
            (try simp (disch := omega) only [lg_cmp_ge, lg_cmp_le, lg_cmp_gt, lg_cmp_lt, lg_cmp_eq, eL_0, eL_1, eL_m1, eL_LO, eL_HI, eL_W, eL_add, eL_sub, eL_mul, eL_neg, eL_lt, eL_le, eL_eq, eL_remN, eL_mod0, ne_eq, Int64.not_lt, Int64.not_le] at c12)
            (try simp (disch := omega) only [lg_cmp_ge, lg_cmp_le, lg_cmp_gt, lg_cmp_lt, lg_cmp_eq, eL_0, eL_1, eL_m1, eL_LO, eL_HI, eL_W, eL_add, eL_sub, eL_mul, eL_neg, eL_lt, eL_le, eL_eq, eL_remN, eL_mod0, ne_eq, Int64.not_lt, Int64.not_le] at c68)
            (try simp (disch := omega) only [lg_cmp_ge, lg_cmp_le, lg_cmp_gt, lg_cmp_lt, lg_cmp_eq, eL_0, eL_1, eL_m1, eL_LO, eL_HI, eL_W, eL_add, eL_sub, eL_mul, eL_neg, eL_lt, eL_le, eL_eq, eL_remN, eL_mod0, ne_eq, Int64.not_lt, Int64.not_le] at c75)
            (try simp (disch := omega) only [lg_cmp_ge, lg_cmp_le, lg_cmp_gt, lg_cmp_lt, lg_cmp_eq, eL_0, eL_1, eL_m1, eL_LO, eL_HI, eL_W, eL_add, eL_sub, eL_mul, eL_neg, eL_lt, eL_le, eL_eq, eL_remN, eL_mod0, ne_eq, Int64.not_lt, Int64.not_le] at c97)
            (try simp (disch := omega) only [lg_cmp_ge, lg_cmp_le, lg_cmp_gt, lg_cmp_lt, lg_cmp_eq, eL_0, eL_1, eL_m1, eL_LO, eL_HI, eL_W, eL_add, eL_sub, eL_mul, eL_neg, eL_lt, eL_le, eL_eq, eL_remN, eL_mod0, ne_eq, Int64.not_lt, Int64.not_le] at c104)
            (try simp (disch := omega) only [lg_cmp_ge, lg_cmp_le, lg_cmp_gt, lg_cmp_lt, lg_cmp_eq, eL_0, eL_1, eL_m1, eL_LO, eL_HI, eL_W, eL_add, eL_sub, eL_mul, eL_neg, eL_lt, eL_le, eL_eq, eL_remN, eL_mod0, ne_eq, Int64.not_lt, Int64.not_le] at c112)
            (try simp (disch := omega) only [lg_cmp_ge, lg_cmp_le, lg_cmp_gt, lg_cmp_lt, lg_cmp_eq, eL_0, eL_1, eL_m1, eL_LO, eL_HI, eL_W, eL_add, eL_sub, eL_mul, eL_neg, eL_lt, eL_le, eL_eq, eL_remN, eL_mod0, ne_eq, Int64.not_lt, Int64.not_le] at c140)
            (try simp (disch := omega) only [lg_cmp_ge, lg_cmp_le, lg_cmp_gt, lg_cmp_lt, lg_cmp_eq, eL_0, eL_1, eL_m1, eL_LO, eL_HI, eL_W, eL_add, eL_sub, eL_mul, eL_neg, eL_lt, eL_le, eL_eq, eL_remN, eL_mod0, ne_eq, Int64.not_lt, Int64.not_le] at c147)
            (try simp only [jo12, jo13] at c18)
            (try simp only [jo12, jo13] at c31)
            (try simp only [jo12, jo13] at c62)
            rw [show logS op x y = allS from by
              unfold logS
              rw [if_neg (by omega), if_neg (by omega), if_neg (by omega)]]
            exact ⟨rfl, rfl, W207⟩
          · refine gi_lconst (q := 151) (v := 0) C (dm_Mo_logic 83 rfl) rfl (by decide) ?_
            refine gi_lstore (q := 153) C (dm_Mo_logic 84 rfl) rfl (Nat.le_of_ble_eq_true rfl) ?_
            (try simp only [jo12, jo13] at c62)
            (try simp (disch := omega) only [lg_cmp_ge, lg_cmp_le, lg_cmp_gt, lg_cmp_lt, lg_cmp_eq, eL_0, eL_1, eL_m1, eL_LO, eL_HI, eL_W, eL_add, eL_sub, eL_mul, eL_neg, eL_lt, eL_le, eL_eq, eL_remN, eL_mod0, ne_eq, Int64.not_lt, Int64.not_le] at c4)
            (try simp (disch := omega) only [lg_cmp_ge, lg_cmp_le, lg_cmp_gt, lg_cmp_lt, lg_cmp_eq, eL_0, eL_1, eL_m1, eL_LO, eL_HI, eL_W, eL_add, eL_sub, eL_mul, eL_neg, eL_lt, eL_le, eL_eq, eL_remN, eL_mod0, ne_eq, Int64.not_lt, Int64.not_le] at c12)
            (try simp (disch := omega) only [lg_cmp_ge, lg_cmp_le, lg_cmp_gt, lg_cmp_lt, lg_cmp_eq, eL_0, eL_1, eL_m1, eL_LO, eL_HI, eL_W, eL_add, eL_sub, eL_mul, eL_neg, eL_lt, eL_le, eL_eq, eL_remN, eL_mod0, ne_eq, Int64.not_lt, Int64.not_le] at c62)
            (try simp (disch := omega) only [lg_cmp_ge, lg_cmp_le, lg_cmp_gt, lg_cmp_lt, lg_cmp_eq, eL_0, eL_1, eL_m1, eL_LO, eL_HI, eL_W, eL_add, eL_sub, eL_mul, eL_neg, eL_lt, eL_le, eL_eq, eL_remN, eL_mod0, ne_eq, Int64.not_lt, Int64.not_le] at c140)
            (try simp (disch := omega) only [lg_cmp_ge, lg_cmp_le, lg_cmp_gt, lg_cmp_lt, lg_cmp_eq, eL_0, eL_1, eL_m1, eL_LO, eL_HI, eL_W, eL_add, eL_sub, eL_mul, eL_neg, eL_lt, eL_le, eL_eq, eL_remN, eL_mod0, ne_eq, Int64.not_lt, Int64.not_le] at c147)
            refine gi_while (σ := Nat × Int) (fun q => 31 - q.1) (fun q => [(10, .long (eL q.2)), (0, .ref M), (1, .int (nI op)), (2, .long (eL x.1)), (4, .long (eL x.2.1)), (6, .long (eL y.1)), (8, .long (eL y.2.1))]) (fun _ => n) (fun _ => 0) (fun _ => 0) (fun q y' => h = y' ∧ q.1 ≤ 31 ∧ q.2 = 2 ^ q.1 - 1 ∧ topF 31 0 (max x.2.1 y.2.1) = topF (31 - q.1) q.2 (max x.2.1 y.2.1)) (0, 0) ⟨rfl, by decide, by decide, rfl⟩ ?_ (List.forall_mem_cons.mpr ⟨rfl, List.forall_mem_cons.mpr ⟨rfl, List.forall_mem_cons.mpr ⟨rfl, List.forall_mem_cons.mpr ⟨rfl, List.forall_mem_cons.mpr ⟨rfl, List.forall_mem_cons.mpr ⟨rfl, List.forall_mem_cons.mpr ⟨rfl, fun _ h => absurd h List.not_mem_nil⟩⟩⟩⟩⟩⟩⟩) rfl rfl rfl
            rintro ⟨j, t⟩ y' ⟨rfl, hj, hp, ht⟩ ih
            try dsimp only at *
            have pw : (1 : Int) ≤ 2 ^ j := Int.pow_pos (by decide)
            have pb := pw31 j (by omega)
            have tb : 0 ≤ t ∧ t ≤ 2147483647 := by omega
            refine gi_lload (q := 155) C (dm_Mo_logic 85 rfl) rfl rfl ?_
            refine gi_lload (q := 157) C (dm_Mo_logic 86 rfl) rfl rfl ?_
            refine gi_lload (q := 159) C (dm_Mo_logic 87 rfl) rfl rfl ?_
            refine gi_calls 2 (q := 162) C (dm_Mo_logic 88 rfl) rfl my_Mo_max lk_Mo_256 sm_Mo_max (c_Mo_max x.2.1 y.2.1 (by omega) (by omega) (by omega) (by omega)) rfl rfl ⟨(Nat.le_of_ble_eq_true rfl), (Nat.le_of_ble_eq_true rfl)⟩ (Nat.le_of_ble_eq_true rfl) ⟨(Nat.le_of_ble_eq_true rfl), (Nat.le_of_ble_eq_true rfl)⟩ (fun r159 n159 h159 e159 => ?_)
            obtain ⟨rfl, q159, u159⟩ := e159
            rw [q159, u159]
            refine gi_lcmp (q := 163) C (dm_Mo_logic 89 rfl) rfl ?_
            refine gi_if_ge (q := 166) (tgt := 179) C (dm_Mo_logic 90 rfl) rfl (by decide) (fun c163 => ?_) (fun c163 => ?_)
            · (try simp (disch := omega) only [lg_cmp_ge, lg_cmp_le, lg_cmp_gt, lg_cmp_lt, lg_cmp_eq, eL_0, eL_1, eL_m1, eL_LO, eL_HI, eL_W, eL_add, eL_sub, eL_mul, eL_neg, eL_lt, eL_le, eL_eq, eL_remN, eL_mod0, ne_eq, Int64.not_lt, Int64.not_le] at c163)
              have te : topF 31 0 (max x.2.1 y.2.1) = t := by
                rw [ht]
                rcases Nat.eq_zero_or_pos (31 - j) with q | q
                · rw [q]; rfl
                · obtain ⟨f, ef⟩ : ∃ f, 31 - j = f + 1 := ⟨31 - j - 1, by omega⟩
                  rw [ef]
                  show (if t < max x.2.1 y.2.1 then _ else t) = t
                  rw [if_neg (by omega)]
              refine gi_aload_n (q := 180) (i := 0) C (dm_Mo_logic 98 rfl) rfl rfl rfl ?_
              refine gi_iload_n (q := 181) (i := 1) C (dm_Mo_logic 99 rfl) rfl rfl rfl ?_
              refine gi_bipush (q := 183) (v := 13) C (dm_Mo_logic 100 rfl) rfl (by decide) ?_
              refine gi_icmp_ne (q := 186) (tgt := 195) C (dm_Mo_logic 101 rfl) rfl (by decide) (fun c183 => ?_) (fun c183 => ?_)
              · refine gi_lconst (q := 196) (v := 0) C (dm_Mo_logic 106 rfl) rfl (by decide) ?_
                refine gi_lload (q := 198) C (dm_Mo_logic 107 rfl) rfl rfl ?_
                refine gi_lconst (q := 199) (v := 1) C (dm_Mo_logic 108 rfl) rfl (by decide) ?_
                rw [eL_1]
                refine gi_callv 3 (q := 202) C (dm_Mo_logic 109 rfl) rfl my_Mo_set lk_Mo_262 im_Mo_set rfl (c_Mo_set 0 t 1 (by omega) (by omega) (by omega) (by omega) H) Ha rfl rfl ⟨(Nat.le_of_ble_eq_true rfl), (Nat.le_of_ble_eq_true rfl)⟩ (Nat.le_of_ble_eq_true rfl) ⟨(Nat.le_of_ble_eq_true rfl), (Nat.le_of_ble_eq_true rfl)⟩ (fun r199 n199 h199 e199 => ?_)
                obtain ⟨rfl, rfl, W199⟩ := e199
                refine gi_goto (tgt := 210) C (dm_Mo_logic 110 rfl) (by decide) ?_
                refine gi_vret C hr (dm_Mo_logic 114 rfl) ?_
                (try simp only [jo12, jo13] at c62)
                (try simp only [jo12, jo13] at c183)
                rw [show logS op x y = mkS 0 t 1 from by
                  unfold logS
                  rw [if_neg (by omega), if_neg (by omega), if_pos (by omega), if_neg (by omega), te]]
                exact ⟨rfl, rfl, W199⟩
              · refine gi_lload_n (q := 187) (i := 2) C (dm_Mo_logic 102 rfl) rfl rfl rfl ?_
                refine gi_lload (q := 189) C (dm_Mo_logic 103 rfl) rfl rfl ?_
                refine gi_calls 2 (q := 192) C (dm_Mo_logic 104 rfl) rfl my_Mo_max lk_Mo_256 sm_Mo_max (c_Mo_max x.1 y.1 (by omega) (by omega) (by omega) (by omega)) rfl rfl ⟨(Nat.le_of_ble_eq_true rfl), (Nat.le_of_ble_eq_true rfl)⟩ (Nat.le_of_ble_eq_true rfl) ⟨(Nat.le_of_ble_eq_true rfl), (Nat.le_of_ble_eq_true rfl)⟩ (fun r189 n189 h189 e189 => ?_)
                obtain ⟨rfl, q189, u189⟩ := e189
                rw [q189, u189]
                refine gi_goto (tgt := 196) C (dm_Mo_logic 105 rfl) (by decide) ?_
                refine gi_lload (q := 198) C (dm_Mo_logic 107 rfl) rfl rfl ?_
                refine gi_lconst (q := 199) (v := 1) C (dm_Mo_logic 108 rfl) rfl (by decide) ?_
                rw [eL_1]
                refine gi_callv 3 (q := 202) C (dm_Mo_logic 109 rfl) rfl my_Mo_set lk_Mo_262 im_Mo_set rfl (c_Mo_set (max x.1 y.1) t 1 (by omega) (by omega) (by omega) (by omega) H) Ha rfl rfl ⟨(Nat.le_of_ble_eq_true rfl), (Nat.le_of_ble_eq_true rfl)⟩ (Nat.le_of_ble_eq_true rfl) ⟨(Nat.le_of_ble_eq_true rfl), (Nat.le_of_ble_eq_true rfl)⟩ (fun r199 n199 h199 e199 => ?_)
                obtain ⟨rfl, rfl, W199⟩ := e199
                refine gi_goto (tgt := 210) C (dm_Mo_logic 110 rfl) (by decide) ?_
                refine gi_vret C hr (dm_Mo_logic 114 rfl) ?_
                (try simp only [jo12, jo13] at c62)
                (try simp only [jo12, jo13] at c183)
                rw [show logS op x y = mkS (max x.1 y.1) t 1 from by
                  unfold logS
                  rw [if_neg (by omega), if_neg (by omega), if_pos (by omega), if_pos (by omega), te]]
                exact ⟨rfl, rfl, W199⟩
            · refine gi_ldc2 (q := 169) C (dm_Mo_logic 91 rfl) rfl kc_Mo_351 ?_
              refine gi_lload (q := 171) C (dm_Mo_logic 92 rfl) rfl rfl ?_
              refine gi_lmul (q := 172) C (dm_Mo_logic 93 rfl) rfl ?_
              rw [eL_2, eL_mul]
              refine gi_lconst (q := 173) (v := 1) C (dm_Mo_logic 94 rfl) rfl (by decide) ?_
              refine gi_ladd (q := 174) C (dm_Mo_logic 95 rfl) rfl ?_
              rw [eL_1, eL_add]
              refine gi_lstore (q := 176) C (dm_Mo_logic 96 rfl) rfl (Nat.le_of_ble_eq_true rfl) ?_
              (try simp (disch := omega) only [lg_cmp_ge, lg_cmp_le, lg_cmp_gt, lg_cmp_lt, lg_cmp_eq, eL_0, eL_1, eL_m1, eL_LO, eL_HI, eL_W, eL_add, eL_sub, eL_mul, eL_neg, eL_lt, eL_le, eL_eq, eL_remN, eL_mod0, ne_eq, Int64.not_lt, Int64.not_le] at c163)
              refine gi_goto (tgt := 153) C (dm_Mo_logic 97 rfl) (by decide) ?_
              have k1 : j < 31 := by
                rcases Nat.lt_or_ge j 31 with q | q
                · exact q
                · have : j = 31 := by omega
                  subst this
                  have : (2 : Int) ^ 31 = 2147483648 := by decide
                  omega
              refine gi_close (ih (j + 1, 2 * t + 1) _ ⟨rfl, by omega, ?_, ?_⟩ (by dsimp only; omega)) (List.forall_mem_cons.mpr ⟨rfl, List.forall_mem_cons.mpr ⟨rfl, List.forall_mem_cons.mpr ⟨rfl, List.forall_mem_cons.mpr ⟨rfl, List.forall_mem_cons.mpr ⟨rfl, List.forall_mem_cons.mpr ⟨rfl, List.forall_mem_cons.mpr ⟨rfl, fun _ h => absurd h List.not_mem_nil⟩⟩⟩⟩⟩⟩⟩) rfl rfl rfl
              · show 2 * t + 1 = 2 ^ (j + 1) - 1
                rw [Int.pow_succ]
                omega
              · rw [ht, show 31 - j = (31 - (j + 1)) + 1 by omega]
                show (if t < max x.2.1 y.2.1 then topF (31 - (j + 1)) (2 * t + 1) (max x.2.1 y.2.1) else t) = _
                rw [if_pos (by omega)]
      · refine gi_lload_n (q := 66) (i := 2) C (dm_Mo_logic 35 rfl) rfl rfl rfl ?_
        refine gi_lconst (q := 67) (v := 0) C (dm_Mo_logic 36 rfl) rfl (by decide) ?_
        refine gi_lcmp (q := 68) C (dm_Mo_logic 37 rfl) rfl ?_
        refine gi_if_lt (q := 71) (tgt := 94) C (dm_Mo_logic 38 rfl) rfl (by decide) (fun c68 => ?_) (fun c68 => ?_)
        · refine gi_lload_n (q := 95) (i := 2) C (dm_Mo_logic 51 rfl) rfl rfl rfl ?_
          refine gi_lconst (q := 96) (v := 0) C (dm_Mo_logic 52 rfl) rfl (by decide) ?_
          refine gi_lcmp (q := 97) C (dm_Mo_logic 53 rfl) rfl ?_
          refine gi_if_ge (q := 100) (tgt := 107) C (dm_Mo_logic 54 rfl) rfl (by decide) (fun c97 => ?_) (fun c97 => ?_)
          · refine gi_aload_n (q := 108) (i := 0) C (dm_Mo_logic 59 rfl) rfl rfl rfl ?_
            refine gi_lconst (q := 109) (v := 0) C (dm_Mo_logic 60 rfl) rfl (by decide) ?_
            refine gi_lload_n (q := 110) (i := 2) C (dm_Mo_logic 61 rfl) rfl rfl rfl ?_
            refine gi_lconst (q := 111) (v := 0) C (dm_Mo_logic 62 rfl) rfl (by decide) ?_
            refine gi_lcmp (q := 112) C (dm_Mo_logic 63 rfl) rfl ?_
            refine gi_if_lt (q := 115) (tgt := 120) C (dm_Mo_logic 64 rfl) rfl (by decide) (fun c112 => ?_) (fun c112 => ?_)
            · refine gi_lload (q := 122) C (dm_Mo_logic 67 rfl) rfl rfl ?_
              refine gi_lconst (q := 123) (v := 1) C (dm_Mo_logic 68 rfl) rfl (by decide) ?_
              rw [eL_1]
              refine gi_callv 3 (q := 126) C (dm_Mo_logic 69 rfl) rfl my_Mo_set lk_Mo_262 im_Mo_set rfl (c_Mo_set 0 y.2.1 1 (by omega) (by omega) (by omega) (by omega) H) Ha rfl rfl ⟨(Nat.le_of_ble_eq_true rfl), (Nat.le_of_ble_eq_true rfl)⟩ (Nat.le_of_ble_eq_true rfl) ⟨(Nat.le_of_ble_eq_true rfl), (Nat.le_of_ble_eq_true rfl)⟩ (fun r123 n123 h123 e123 => ?_)
              obtain ⟨rfl, rfl, W123⟩ := e123
              refine gi_goto (tgt := 210) C (dm_Mo_logic 70 rfl) (by decide) ?_
              refine gi_vret C hr (dm_Mo_logic 114 rfl) ?_
              (try simp (disch := omega) only [lg_cmp_ge, lg_cmp_le, lg_cmp_gt, lg_cmp_lt, lg_cmp_eq, eL_0, eL_1, eL_m1, eL_LO, eL_HI, eL_W, eL_add, eL_sub, eL_mul, eL_neg, eL_lt, eL_le, eL_eq, eL_remN, eL_mod0, ne_eq, Int64.not_lt, Int64.not_le] at c4)
              (try simp (disch := omega) only [lg_cmp_ge, lg_cmp_le, lg_cmp_gt, lg_cmp_lt, lg_cmp_eq, eL_0, eL_1, eL_m1, eL_LO, eL_HI, eL_W, eL_add, eL_sub, eL_mul, eL_neg, eL_lt, eL_le, eL_eq, eL_remN, eL_mod0, ne_eq, Int64.not_lt, Int64.not_le] at c12)
              (try simp (disch := omega) only [lg_cmp_ge, lg_cmp_le, lg_cmp_gt, lg_cmp_lt, lg_cmp_eq, eL_0, eL_1, eL_m1, eL_LO, eL_HI, eL_W, eL_add, eL_sub, eL_mul, eL_neg, eL_lt, eL_le, eL_eq, eL_remN, eL_mod0, ne_eq, Int64.not_lt, Int64.not_le] at c68)
              (try simp (disch := omega) only [lg_cmp_ge, lg_cmp_le, lg_cmp_gt, lg_cmp_lt, lg_cmp_eq, eL_0, eL_1, eL_m1, eL_LO, eL_HI, eL_W, eL_add, eL_sub, eL_mul, eL_neg, eL_lt, eL_le, eL_eq, eL_remN, eL_mod0, ne_eq, Int64.not_lt, Int64.not_le] at c75)
              (try simp (disch := omega) only [lg_cmp_ge, lg_cmp_le, lg_cmp_gt, lg_cmp_lt, lg_cmp_eq, eL_0, eL_1, eL_m1, eL_LO, eL_HI, eL_W, eL_add, eL_sub, eL_mul, eL_neg, eL_lt, eL_le, eL_eq, eL_remN, eL_mod0, ne_eq, Int64.not_lt, Int64.not_le] at c97)
              (try simp (disch := omega) only [lg_cmp_ge, lg_cmp_le, lg_cmp_gt, lg_cmp_lt, lg_cmp_eq, eL_0, eL_1, eL_m1, eL_LO, eL_HI, eL_W, eL_add, eL_sub, eL_mul, eL_neg, eL_lt, eL_le, eL_eq, eL_remN, eL_mod0, ne_eq, Int64.not_lt, Int64.not_le] at c104)
              (try simp (disch := omega) only [lg_cmp_ge, lg_cmp_le, lg_cmp_gt, lg_cmp_lt, lg_cmp_eq, eL_0, eL_1, eL_m1, eL_LO, eL_HI, eL_W, eL_add, eL_sub, eL_mul, eL_neg, eL_lt, eL_le, eL_eq, eL_remN, eL_mod0, ne_eq, Int64.not_lt, Int64.not_le] at c112)
              (try simp (disch := omega) only [lg_cmp_ge, lg_cmp_le, lg_cmp_gt, lg_cmp_lt, lg_cmp_eq, eL_0, eL_1, eL_m1, eL_LO, eL_HI, eL_W, eL_add, eL_sub, eL_mul, eL_neg, eL_lt, eL_le, eL_eq, eL_remN, eL_mod0, ne_eq, Int64.not_lt, Int64.not_le] at c140)
              (try simp (disch := omega) only [lg_cmp_ge, lg_cmp_le, lg_cmp_gt, lg_cmp_lt, lg_cmp_eq, eL_0, eL_1, eL_m1, eL_LO, eL_HI, eL_W, eL_add, eL_sub, eL_mul, eL_neg, eL_lt, eL_le, eL_eq, eL_remN, eL_mod0, ne_eq, Int64.not_lt, Int64.not_le] at c147)
              (try simp only [jo12, jo13] at c18)
              (try simp only [jo12, jo13] at c31)
              (try simp only [jo12, jo13] at c62)
              rw [show logS op x y = mkS 0 y.2.1 1 from by
                unfold logS
                rw [if_neg (by omega), if_pos (by omega), if_neg (by omega)]
                first
                  | (rw [if_pos (by omega)]; done)
                  | (rw [if_neg (by omega), if_pos (by omega)]; done)]
              exact ⟨rfl, rfl, W123⟩
            · refine gi_lload (q := 117) C (dm_Mo_logic 65 rfl) rfl rfl ?_
              refine gi_goto (tgt := 122) C (dm_Mo_logic 66 rfl) (by decide) ?_
              refine gi_lconst (q := 123) (v := 1) C (dm_Mo_logic 68 rfl) rfl (by decide) ?_
              rw [eL_1]
              refine gi_callv 3 (q := 126) C (dm_Mo_logic 69 rfl) rfl my_Mo_set lk_Mo_262 im_Mo_set rfl (c_Mo_set 0 x.2.1 1 (by omega) (by omega) (by omega) (by omega) H) Ha rfl rfl ⟨(Nat.le_of_ble_eq_true rfl), (Nat.le_of_ble_eq_true rfl)⟩ (Nat.le_of_ble_eq_true rfl) ⟨(Nat.le_of_ble_eq_true rfl), (Nat.le_of_ble_eq_true rfl)⟩ (fun r123 n123 h123 e123 => ?_)
              obtain ⟨rfl, rfl, W123⟩ := e123
              refine gi_goto (tgt := 210) C (dm_Mo_logic 70 rfl) (by decide) ?_
              refine gi_vret C hr (dm_Mo_logic 114 rfl) ?_
              (try simp (disch := omega) only [lg_cmp_ge, lg_cmp_le, lg_cmp_gt, lg_cmp_lt, lg_cmp_eq, eL_0, eL_1, eL_m1, eL_LO, eL_HI, eL_W, eL_add, eL_sub, eL_mul, eL_neg, eL_lt, eL_le, eL_eq, eL_remN, eL_mod0, ne_eq, Int64.not_lt, Int64.not_le] at c4)
              (try simp (disch := omega) only [lg_cmp_ge, lg_cmp_le, lg_cmp_gt, lg_cmp_lt, lg_cmp_eq, eL_0, eL_1, eL_m1, eL_LO, eL_HI, eL_W, eL_add, eL_sub, eL_mul, eL_neg, eL_lt, eL_le, eL_eq, eL_remN, eL_mod0, ne_eq, Int64.not_lt, Int64.not_le] at c12)
              (try simp (disch := omega) only [lg_cmp_ge, lg_cmp_le, lg_cmp_gt, lg_cmp_lt, lg_cmp_eq, eL_0, eL_1, eL_m1, eL_LO, eL_HI, eL_W, eL_add, eL_sub, eL_mul, eL_neg, eL_lt, eL_le, eL_eq, eL_remN, eL_mod0, ne_eq, Int64.not_lt, Int64.not_le] at c68)
              (try simp (disch := omega) only [lg_cmp_ge, lg_cmp_le, lg_cmp_gt, lg_cmp_lt, lg_cmp_eq, eL_0, eL_1, eL_m1, eL_LO, eL_HI, eL_W, eL_add, eL_sub, eL_mul, eL_neg, eL_lt, eL_le, eL_eq, eL_remN, eL_mod0, ne_eq, Int64.not_lt, Int64.not_le] at c75)
              (try simp (disch := omega) only [lg_cmp_ge, lg_cmp_le, lg_cmp_gt, lg_cmp_lt, lg_cmp_eq, eL_0, eL_1, eL_m1, eL_LO, eL_HI, eL_W, eL_add, eL_sub, eL_mul, eL_neg, eL_lt, eL_le, eL_eq, eL_remN, eL_mod0, ne_eq, Int64.not_lt, Int64.not_le] at c97)
              (try simp (disch := omega) only [lg_cmp_ge, lg_cmp_le, lg_cmp_gt, lg_cmp_lt, lg_cmp_eq, eL_0, eL_1, eL_m1, eL_LO, eL_HI, eL_W, eL_add, eL_sub, eL_mul, eL_neg, eL_lt, eL_le, eL_eq, eL_remN, eL_mod0, ne_eq, Int64.not_lt, Int64.not_le] at c104)
              (try simp (disch := omega) only [lg_cmp_ge, lg_cmp_le, lg_cmp_gt, lg_cmp_lt, lg_cmp_eq, eL_0, eL_1, eL_m1, eL_LO, eL_HI, eL_W, eL_add, eL_sub, eL_mul, eL_neg, eL_lt, eL_le, eL_eq, eL_remN, eL_mod0, ne_eq, Int64.not_lt, Int64.not_le] at c112)
              (try simp (disch := omega) only [lg_cmp_ge, lg_cmp_le, lg_cmp_gt, lg_cmp_lt, lg_cmp_eq, eL_0, eL_1, eL_m1, eL_LO, eL_HI, eL_W, eL_add, eL_sub, eL_mul, eL_neg, eL_lt, eL_le, eL_eq, eL_remN, eL_mod0, ne_eq, Int64.not_lt, Int64.not_le] at c140)
              (try simp (disch := omega) only [lg_cmp_ge, lg_cmp_le, lg_cmp_gt, lg_cmp_lt, lg_cmp_eq, eL_0, eL_1, eL_m1, eL_LO, eL_HI, eL_W, eL_add, eL_sub, eL_mul, eL_neg, eL_lt, eL_le, eL_eq, eL_remN, eL_mod0, ne_eq, Int64.not_lt, Int64.not_le] at c147)
              (try simp only [jo12, jo13] at c18)
              (try simp only [jo12, jo13] at c31)
              (try simp only [jo12, jo13] at c62)
              rw [show logS op x y = mkS 0 x.2.1 1 from by
                unfold logS
                rw [if_neg (by omega), if_pos (by omega), if_neg (by omega)]
                first
                  | (rw [if_pos (by omega)]; done)
                  | (rw [if_neg (by omega), if_pos (by omega)]; done)]
              exact ⟨rfl, rfl, W123⟩
          · refine gi_lload (q := 102) C (dm_Mo_logic 55 rfl) rfl rfl ?_
            refine gi_lconst (q := 103) (v := 0) C (dm_Mo_logic 56 rfl) rfl (by decide) ?_
            refine gi_lcmp (q := 104) C (dm_Mo_logic 57 rfl) rfl ?_
            refine gi_if_lt (q := 107) (tgt := 129) C (dm_Mo_logic 58 rfl) rfl (by decide) (fun c104 => ?_) (fun c104 => ?_)
            · refine gi_aload_n (q := 130) (i := 0) C (dm_Mo_logic 71 rfl) rfl rfl rfl ?_
              refine gi_lconst (q := 131) (v := 1) C (dm_Mo_logic 72 rfl) rfl (by decide) ?_
              rw [eL_1]
              refine gi_callv 1 (q := 134) C (dm_Mo_logic 73 rfl) rfl my_Mo_all lk_Mo_295 im_Mo_all rfl (c_Mo_all H) Ha rfl rfl ⟨(Nat.le_of_ble_eq_true rfl), (Nat.le_of_ble_eq_true rfl)⟩ (Nat.le_of_ble_eq_true rfl) ⟨(Nat.le_of_ble_eq_true rfl), (Nat.le_of_ble_eq_true rfl)⟩ (fun r131 n131 h131 e131 => ?_)
              obtain ⟨rfl, rfl, W131⟩ := e131
              refine gi_goto (tgt := 210) C (dm_Mo_logic 74 rfl) (by decide) ?_
              refine gi_vret C hr (dm_Mo_logic 114 rfl) ?_
              (try simp (disch := omega) only [lg_cmp_ge, lg_cmp_le, lg_cmp_gt, lg_cmp_lt, lg_cmp_eq, eL_0, eL_1, eL_m1, eL_LO, eL_HI, eL_W, eL_add, eL_sub, eL_mul, eL_neg, eL_lt, eL_le, eL_eq, eL_remN, eL_mod0, ne_eq, Int64.not_lt, Int64.not_le] at c4)
              (try simp (disch := omega) only [lg_cmp_ge, lg_cmp_le, lg_cmp_gt, lg_cmp_lt, lg_cmp_eq, eL_0, eL_1, eL_m1, eL_LO, eL_HI, eL_W, eL_add, eL_sub, eL_mul, eL_neg, eL_lt, eL_le, eL_eq, eL_remN, eL_mod0, ne_eq, Int64.not_lt, Int64.not_le] at c12)
              (try simp (disch := omega) only [lg_cmp_ge, lg_cmp_le, lg_cmp_gt, lg_cmp_lt, lg_cmp_eq, eL_0, eL_1, eL_m1, eL_LO, eL_HI, eL_W, eL_add, eL_sub, eL_mul, eL_neg, eL_lt, eL_le, eL_eq, eL_remN, eL_mod0, ne_eq, Int64.not_lt, Int64.not_le] at c68)
              (try simp (disch := omega) only [lg_cmp_ge, lg_cmp_le, lg_cmp_gt, lg_cmp_lt, lg_cmp_eq, eL_0, eL_1, eL_m1, eL_LO, eL_HI, eL_W, eL_add, eL_sub, eL_mul, eL_neg, eL_lt, eL_le, eL_eq, eL_remN, eL_mod0, ne_eq, Int64.not_lt, Int64.not_le] at c75)
              (try simp (disch := omega) only [lg_cmp_ge, lg_cmp_le, lg_cmp_gt, lg_cmp_lt, lg_cmp_eq, eL_0, eL_1, eL_m1, eL_LO, eL_HI, eL_W, eL_add, eL_sub, eL_mul, eL_neg, eL_lt, eL_le, eL_eq, eL_remN, eL_mod0, ne_eq, Int64.not_lt, Int64.not_le] at c97)
              (try simp (disch := omega) only [lg_cmp_ge, lg_cmp_le, lg_cmp_gt, lg_cmp_lt, lg_cmp_eq, eL_0, eL_1, eL_m1, eL_LO, eL_HI, eL_W, eL_add, eL_sub, eL_mul, eL_neg, eL_lt, eL_le, eL_eq, eL_remN, eL_mod0, ne_eq, Int64.not_lt, Int64.not_le] at c104)
              (try simp (disch := omega) only [lg_cmp_ge, lg_cmp_le, lg_cmp_gt, lg_cmp_lt, lg_cmp_eq, eL_0, eL_1, eL_m1, eL_LO, eL_HI, eL_W, eL_add, eL_sub, eL_mul, eL_neg, eL_lt, eL_le, eL_eq, eL_remN, eL_mod0, ne_eq, Int64.not_lt, Int64.not_le] at c112)
              (try simp (disch := omega) only [lg_cmp_ge, lg_cmp_le, lg_cmp_gt, lg_cmp_lt, lg_cmp_eq, eL_0, eL_1, eL_m1, eL_LO, eL_HI, eL_W, eL_add, eL_sub, eL_mul, eL_neg, eL_lt, eL_le, eL_eq, eL_remN, eL_mod0, ne_eq, Int64.not_lt, Int64.not_le] at c140)
              (try simp (disch := omega) only [lg_cmp_ge, lg_cmp_le, lg_cmp_gt, lg_cmp_lt, lg_cmp_eq, eL_0, eL_1, eL_m1, eL_LO, eL_HI, eL_W, eL_add, eL_sub, eL_mul, eL_neg, eL_lt, eL_le, eL_eq, eL_remN, eL_mod0, ne_eq, Int64.not_lt, Int64.not_le] at c147)
              (try simp only [jo12, jo13] at c18)
              (try simp only [jo12, jo13] at c31)
              (try simp only [jo12, jo13] at c62)
              rw [show logS op x y = allS from by
                unfold logS
                rw [if_neg (by omega), if_pos (by omega), if_neg (by omega), if_neg (by omega), if_neg (by omega)]]
              exact ⟨rfl, rfl, W131⟩
            · refine gi_aload_n (q := 108) (i := 0) C (dm_Mo_logic 59 rfl) rfl rfl rfl ?_
              refine gi_lconst (q := 109) (v := 0) C (dm_Mo_logic 60 rfl) rfl (by decide) ?_
              refine gi_lload_n (q := 110) (i := 2) C (dm_Mo_logic 61 rfl) rfl rfl rfl ?_
              refine gi_lconst (q := 111) (v := 0) C (dm_Mo_logic 62 rfl) rfl (by decide) ?_
              refine gi_lcmp (q := 112) C (dm_Mo_logic 63 rfl) rfl ?_
              refine gi_if_lt (q := 115) (tgt := 120) C (dm_Mo_logic 64 rfl) rfl (by decide) (fun c112 => ?_) (fun c112 => ?_)
              · refine gi_lload (q := 122) C (dm_Mo_logic 67 rfl) rfl rfl ?_
                refine gi_lconst (q := 123) (v := 1) C (dm_Mo_logic 68 rfl) rfl (by decide) ?_
                rw [eL_1]
                refine gi_callv 3 (q := 126) C (dm_Mo_logic 69 rfl) rfl my_Mo_set lk_Mo_262 im_Mo_set rfl (c_Mo_set 0 y.2.1 1 (by omega) (by omega) (by omega) (by omega) H) Ha rfl rfl ⟨(Nat.le_of_ble_eq_true rfl), (Nat.le_of_ble_eq_true rfl)⟩ (Nat.le_of_ble_eq_true rfl) ⟨(Nat.le_of_ble_eq_true rfl), (Nat.le_of_ble_eq_true rfl)⟩ (fun r123 n123 h123 e123 => ?_)
                obtain ⟨rfl, rfl, W123⟩ := e123
                refine gi_goto (tgt := 210) C (dm_Mo_logic 70 rfl) (by decide) ?_
                refine gi_vret C hr (dm_Mo_logic 114 rfl) ?_
                (try simp (disch := omega) only [lg_cmp_ge, lg_cmp_le, lg_cmp_gt, lg_cmp_lt, lg_cmp_eq, eL_0, eL_1, eL_m1, eL_LO, eL_HI, eL_W, eL_add, eL_sub, eL_mul, eL_neg, eL_lt, eL_le, eL_eq, eL_remN, eL_mod0, ne_eq, Int64.not_lt, Int64.not_le] at c4)
                (try simp (disch := omega) only [lg_cmp_ge, lg_cmp_le, lg_cmp_gt, lg_cmp_lt, lg_cmp_eq, eL_0, eL_1, eL_m1, eL_LO, eL_HI, eL_W, eL_add, eL_sub, eL_mul, eL_neg, eL_lt, eL_le, eL_eq, eL_remN, eL_mod0, ne_eq, Int64.not_lt, Int64.not_le] at c12)
                (try simp (disch := omega) only [lg_cmp_ge, lg_cmp_le, lg_cmp_gt, lg_cmp_lt, lg_cmp_eq, eL_0, eL_1, eL_m1, eL_LO, eL_HI, eL_W, eL_add, eL_sub, eL_mul, eL_neg, eL_lt, eL_le, eL_eq, eL_remN, eL_mod0, ne_eq, Int64.not_lt, Int64.not_le] at c68)
                (try simp (disch := omega) only [lg_cmp_ge, lg_cmp_le, lg_cmp_gt, lg_cmp_lt, lg_cmp_eq, eL_0, eL_1, eL_m1, eL_LO, eL_HI, eL_W, eL_add, eL_sub, eL_mul, eL_neg, eL_lt, eL_le, eL_eq, eL_remN, eL_mod0, ne_eq, Int64.not_lt, Int64.not_le] at c75)
                (try simp (disch := omega) only [lg_cmp_ge, lg_cmp_le, lg_cmp_gt, lg_cmp_lt, lg_cmp_eq, eL_0, eL_1, eL_m1, eL_LO, eL_HI, eL_W, eL_add, eL_sub, eL_mul, eL_neg, eL_lt, eL_le, eL_eq, eL_remN, eL_mod0, ne_eq, Int64.not_lt, Int64.not_le] at c97)
                (try simp (disch := omega) only [lg_cmp_ge, lg_cmp_le, lg_cmp_gt, lg_cmp_lt, lg_cmp_eq, eL_0, eL_1, eL_m1, eL_LO, eL_HI, eL_W, eL_add, eL_sub, eL_mul, eL_neg, eL_lt, eL_le, eL_eq, eL_remN, eL_mod0, ne_eq, Int64.not_lt, Int64.not_le] at c104)
                (try simp (disch := omega) only [lg_cmp_ge, lg_cmp_le, lg_cmp_gt, lg_cmp_lt, lg_cmp_eq, eL_0, eL_1, eL_m1, eL_LO, eL_HI, eL_W, eL_add, eL_sub, eL_mul, eL_neg, eL_lt, eL_le, eL_eq, eL_remN, eL_mod0, ne_eq, Int64.not_lt, Int64.not_le] at c112)
                (try simp (disch := omega) only [lg_cmp_ge, lg_cmp_le, lg_cmp_gt, lg_cmp_lt, lg_cmp_eq, eL_0, eL_1, eL_m1, eL_LO, eL_HI, eL_W, eL_add, eL_sub, eL_mul, eL_neg, eL_lt, eL_le, eL_eq, eL_remN, eL_mod0, ne_eq, Int64.not_lt, Int64.not_le] at c140)
                (try simp (disch := omega) only [lg_cmp_ge, lg_cmp_le, lg_cmp_gt, lg_cmp_lt, lg_cmp_eq, eL_0, eL_1, eL_m1, eL_LO, eL_HI, eL_W, eL_add, eL_sub, eL_mul, eL_neg, eL_lt, eL_le, eL_eq, eL_remN, eL_mod0, ne_eq, Int64.not_lt, Int64.not_le] at c147)
                (try simp only [jo12, jo13] at c18)
                (try simp only [jo12, jo13] at c31)
                (try simp only [jo12, jo13] at c62)
                rw [show logS op x y = mkS 0 y.2.1 1 from by
                  unfold logS
                  rw [if_neg (by omega), if_pos (by omega), if_neg (by omega)]
                  first
                    | (rw [if_pos (by omega)]; done)
                    | (rw [if_neg (by omega), if_pos (by omega)]; done)]
                exact ⟨rfl, rfl, W123⟩
              · refine gi_lload (q := 117) C (dm_Mo_logic 65 rfl) rfl rfl ?_
                refine gi_goto (tgt := 122) C (dm_Mo_logic 66 rfl) (by decide) ?_
                refine gi_lconst (q := 123) (v := 1) C (dm_Mo_logic 68 rfl) rfl (by decide) ?_
                rw [eL_1]
                refine gi_callv 3 (q := 126) C (dm_Mo_logic 69 rfl) rfl my_Mo_set lk_Mo_262 im_Mo_set rfl (c_Mo_set 0 x.2.1 1 (by omega) (by omega) (by omega) (by omega) H) Ha rfl rfl ⟨(Nat.le_of_ble_eq_true rfl), (Nat.le_of_ble_eq_true rfl)⟩ (Nat.le_of_ble_eq_true rfl) ⟨(Nat.le_of_ble_eq_true rfl), (Nat.le_of_ble_eq_true rfl)⟩ (fun r123 n123 h123 e123 => ?_)
                obtain ⟨rfl, rfl, W123⟩ := e123
                refine gi_goto (tgt := 210) C (dm_Mo_logic 70 rfl) (by decide) ?_
                refine gi_vret C hr (dm_Mo_logic 114 rfl) ?_
                (try simp (disch := omega) only [lg_cmp_ge, lg_cmp_le, lg_cmp_gt, lg_cmp_lt, lg_cmp_eq, eL_0, eL_1, eL_m1, eL_LO, eL_HI, eL_W, eL_add, eL_sub, eL_mul, eL_neg, eL_lt, eL_le, eL_eq, eL_remN, eL_mod0, ne_eq, Int64.not_lt, Int64.not_le] at c4)
                (try simp (disch := omega) only [lg_cmp_ge, lg_cmp_le, lg_cmp_gt, lg_cmp_lt, lg_cmp_eq, eL_0, eL_1, eL_m1, eL_LO, eL_HI, eL_W, eL_add, eL_sub, eL_mul, eL_neg, eL_lt, eL_le, eL_eq, eL_remN, eL_mod0, ne_eq, Int64.not_lt, Int64.not_le] at c12)
                (try simp (disch := omega) only [lg_cmp_ge, lg_cmp_le, lg_cmp_gt, lg_cmp_lt, lg_cmp_eq, eL_0, eL_1, eL_m1, eL_LO, eL_HI, eL_W, eL_add, eL_sub, eL_mul, eL_neg, eL_lt, eL_le, eL_eq, eL_remN, eL_mod0, ne_eq, Int64.not_lt, Int64.not_le] at c68)
                (try simp (disch := omega) only [lg_cmp_ge, lg_cmp_le, lg_cmp_gt, lg_cmp_lt, lg_cmp_eq, eL_0, eL_1, eL_m1, eL_LO, eL_HI, eL_W, eL_add, eL_sub, eL_mul, eL_neg, eL_lt, eL_le, eL_eq, eL_remN, eL_mod0, ne_eq, Int64.not_lt, Int64.not_le] at c75)
                (try simp (disch := omega) only [lg_cmp_ge, lg_cmp_le, lg_cmp_gt, lg_cmp_lt, lg_cmp_eq, eL_0, eL_1, eL_m1, eL_LO, eL_HI, eL_W, eL_add, eL_sub, eL_mul, eL_neg, eL_lt, eL_le, eL_eq, eL_remN, eL_mod0, ne_eq, Int64.not_lt, Int64.not_le] at c97)
                (try simp (disch := omega) only [lg_cmp_ge, lg_cmp_le, lg_cmp_gt, lg_cmp_lt, lg_cmp_eq, eL_0, eL_1, eL_m1, eL_LO, eL_HI, eL_W, eL_add, eL_sub, eL_mul, eL_neg, eL_lt, eL_le, eL_eq, eL_remN, eL_mod0, ne_eq, Int64.not_lt, Int64.not_le] at c104)
                (try simp (disch := omega) only [lg_cmp_ge, lg_cmp_le, lg_cmp_gt, lg_cmp_lt, lg_cmp_eq, eL_0, eL_1, eL_m1, eL_LO, eL_HI, eL_W, eL_add, eL_sub, eL_mul, eL_neg, eL_lt, eL_le, eL_eq, eL_remN, eL_mod0, ne_eq, Int64.not_lt, Int64.not_le] at c112)
                (try simp (disch := omega) only [lg_cmp_ge, lg_cmp_le, lg_cmp_gt, lg_cmp_lt, lg_cmp_eq, eL_0, eL_1, eL_m1, eL_LO, eL_HI, eL_W, eL_add, eL_sub, eL_mul, eL_neg, eL_lt, eL_le, eL_eq, eL_remN, eL_mod0, ne_eq, Int64.not_lt, Int64.not_le] at c140)
                (try simp (disch := omega) only [lg_cmp_ge, lg_cmp_le, lg_cmp_gt, lg_cmp_lt, lg_cmp_eq, eL_0, eL_1, eL_m1, eL_LO, eL_HI, eL_W, eL_add, eL_sub, eL_mul, eL_neg, eL_lt, eL_le, eL_eq, eL_remN, eL_mod0, ne_eq, Int64.not_lt, Int64.not_le] at c147)
                (try simp only [jo12, jo13] at c18)
                (try simp only [jo12, jo13] at c31)
                (try simp only [jo12, jo13] at c62)
                rw [show logS op x y = mkS 0 x.2.1 1 from by
                  unfold logS
                  rw [if_neg (by omega), if_pos (by omega), if_neg (by omega)]
                  first
                    | (rw [if_pos (by omega)]; done)
                    | (rw [if_neg (by omega), if_pos (by omega)]; done)]
                exact ⟨rfl, rfl, W123⟩
        · refine gi_lload (q := 73) C (dm_Mo_logic 39 rfl) rfl rfl ?_
          refine gi_lconst (q := 74) (v := 0) C (dm_Mo_logic 40 rfl) rfl (by decide) ?_
          refine gi_lcmp (q := 75) C (dm_Mo_logic 41 rfl) rfl ?_
          refine gi_if_lt (q := 78) (tgt := 94) C (dm_Mo_logic 42 rfl) rfl (by decide) (fun c75 => ?_) (fun c75 => ?_)
          · refine gi_lload_n (q := 95) (i := 2) C (dm_Mo_logic 51 rfl) rfl rfl rfl ?_
            refine gi_lconst (q := 96) (v := 0) C (dm_Mo_logic 52 rfl) rfl (by decide) ?_
            refine gi_lcmp (q := 97) C (dm_Mo_logic 53 rfl) rfl ?_
            refine gi_if_ge (q := 100) (tgt := 107) C (dm_Mo_logic 54 rfl) rfl (by decide) (fun c97 => ?_) (fun c97 => ?_)
            · refine gi_aload_n (q := 108) (i := 0) C (dm_Mo_logic 59 rfl) rfl rfl rfl ?_
              refine gi_lconst (q := 109) (v := 0) C (dm_Mo_logic 60 rfl) rfl (by decide) ?_
              refine gi_lload_n (q := 110) (i := 2) C (dm_Mo_logic 61 rfl) rfl rfl rfl ?_
              refine gi_lconst (q := 111) (v := 0) C (dm_Mo_logic 62 rfl) rfl (by decide) ?_
              refine gi_lcmp (q := 112) C (dm_Mo_logic 63 rfl) rfl ?_
              refine gi_if_lt (q := 115) (tgt := 120) C (dm_Mo_logic 64 rfl) rfl (by decide) (fun c112 => ?_) (fun c112 => ?_)
              · refine gi_lload (q := 122) C (dm_Mo_logic 67 rfl) rfl rfl ?_
                refine gi_lconst (q := 123) (v := 1) C (dm_Mo_logic 68 rfl) rfl (by decide) ?_
                rw [eL_1]
                refine gi_callv 3 (q := 126) C (dm_Mo_logic 69 rfl) rfl my_Mo_set lk_Mo_262 im_Mo_set rfl (c_Mo_set 0 y.2.1 1 (by omega) (by omega) (by omega) (by omega) H) Ha rfl rfl ⟨(Nat.le_of_ble_eq_true rfl), (Nat.le_of_ble_eq_true rfl)⟩ (Nat.le_of_ble_eq_true rfl) ⟨(Nat.le_of_ble_eq_true rfl), (Nat.le_of_ble_eq_true rfl)⟩ (fun r123 n123 h123 e123 => ?_)
                obtain ⟨rfl, rfl, W123⟩ := e123
                refine gi_goto (tgt := 210) C (dm_Mo_logic 70 rfl) (by decide) ?_
                refine gi_vret C hr (dm_Mo_logic 114 rfl) ?_
                (try simp (disch := omega) only [lg_cmp_ge, lg_cmp_le, lg_cmp_gt, lg_cmp_lt, lg_cmp_eq, eL_0, eL_1, eL_m1, eL_LO, eL_HI, eL_W, eL_add, eL_sub, eL_mul, eL_neg, eL_lt, eL_le, eL_eq, eL_remN, eL_mod0, ne_eq, Int64.not_lt, Int64.not_le] at c4)
                (try simp (disch := omega) only [lg_cmp_ge, lg_cmp_le, lg_cmp_gt, lg_cmp_lt, lg_cmp_eq, eL_0, eL_1, eL_m1, eL_LO, eL_HI, eL_W, eL_add, eL_sub, eL_mul, eL_neg, eL_lt, eL_le, eL_eq, eL_remN, eL_mod0, ne_eq, Int64.not_lt, Int64.not_le] at c12)
                (try simp (disch := omega) only [lg_cmp_ge, lg_cmp_le, lg_cmp_gt, lg_cmp_lt, lg_cmp_eq, eL_0, eL_1, eL_m1, eL_LO, eL_HI, eL_W, eL_add, eL_sub, eL_mul, eL_neg, eL_lt, eL_le, eL_eq, eL_remN, eL_mod0, ne_eq, Int64.not_lt, Int64.not_le] at c68)
                (try simp (disch := omega) only [lg_cmp_ge, lg_cmp_le, lg_cmp_gt, lg_cmp_lt, lg_cmp_eq, eL_0, eL_1, eL_m1, eL_LO, eL_HI, eL_W, eL_add, eL_sub, eL_mul, eL_neg, eL_lt, eL_le, eL_eq, eL_remN, eL_mod0, ne_eq, Int64.not_lt, Int64.not_le] at c75)
                (try simp (disch := omega) only [lg_cmp_ge, lg_cmp_le, lg_cmp_gt, lg_cmp_lt, lg_cmp_eq, eL_0, eL_1, eL_m1, eL_LO, eL_HI, eL_W, eL_add, eL_sub, eL_mul, eL_neg, eL_lt, eL_le, eL_eq, eL_remN, eL_mod0, ne_eq, Int64.not_lt, Int64.not_le] at c97)
                (try simp (disch := omega) only [lg_cmp_ge, lg_cmp_le, lg_cmp_gt, lg_cmp_lt, lg_cmp_eq, eL_0, eL_1, eL_m1, eL_LO, eL_HI, eL_W, eL_add, eL_sub, eL_mul, eL_neg, eL_lt, eL_le, eL_eq, eL_remN, eL_mod0, ne_eq, Int64.not_lt, Int64.not_le] at c104)
                (try simp (disch := omega) only [lg_cmp_ge, lg_cmp_le, lg_cmp_gt, lg_cmp_lt, lg_cmp_eq, eL_0, eL_1, eL_m1, eL_LO, eL_HI, eL_W, eL_add, eL_sub, eL_mul, eL_neg, eL_lt, eL_le, eL_eq, eL_remN, eL_mod0, ne_eq, Int64.not_lt, Int64.not_le] at c112)
                (try simp (disch := omega) only [lg_cmp_ge, lg_cmp_le, lg_cmp_gt, lg_cmp_lt, lg_cmp_eq, eL_0, eL_1, eL_m1, eL_LO, eL_HI, eL_W, eL_add, eL_sub, eL_mul, eL_neg, eL_lt, eL_le, eL_eq, eL_remN, eL_mod0, ne_eq, Int64.not_lt, Int64.not_le] at c140)
                (try simp (disch := omega) only [lg_cmp_ge, lg_cmp_le, lg_cmp_gt, lg_cmp_lt, lg_cmp_eq, eL_0, eL_1, eL_m1, eL_LO, eL_HI, eL_W, eL_add, eL_sub, eL_mul, eL_neg, eL_lt, eL_le, eL_eq, eL_remN, eL_mod0, ne_eq, Int64.not_lt, Int64.not_le] at c147)
                (try simp only [jo12, jo13] at c18)
                (try simp only [jo12, jo13] at c31)
                (try simp only [jo12, jo13] at c62)
                rw [show logS op x y = mkS 0 y.2.1 1 from by
                  unfold logS
                  rw [if_neg (by omega), if_pos (by omega), if_neg (by omega)]
                  first
                    | (rw [if_pos (by omega)]; done)
                    | (rw [if_neg (by omega), if_pos (by omega)]; done)]
                exact ⟨rfl, rfl, W123⟩
              · refine gi_lload (q := 117) C (dm_Mo_logic 65 rfl) rfl rfl ?_
                refine gi_goto (tgt := 122) C (dm_Mo_logic 66 rfl) (by decide) ?_
                refine gi_lconst (q := 123) (v := 1) C (dm_Mo_logic 68 rfl) rfl (by decide) ?_
                rw [eL_1]
                refine gi_callv 3 (q := 126) C (dm_Mo_logic 69 rfl) rfl my_Mo_set lk_Mo_262 im_Mo_set rfl (c_Mo_set 0 x.2.1 1 (by omega) (by omega) (by omega) (by omega) H) Ha rfl rfl ⟨(Nat.le_of_ble_eq_true rfl), (Nat.le_of_ble_eq_true rfl)⟩ (Nat.le_of_ble_eq_true rfl) ⟨(Nat.le_of_ble_eq_true rfl), (Nat.le_of_ble_eq_true rfl)⟩ (fun r123 n123 h123 e123 => ?_)
                obtain ⟨rfl, rfl, W123⟩ := e123
                refine gi_goto (tgt := 210) C (dm_Mo_logic 70 rfl) (by decide) ?_
                refine gi_vret C hr (dm_Mo_logic 114 rfl) ?_
                (try simp (disch := omega) only [lg_cmp_ge, lg_cmp_le, lg_cmp_gt, lg_cmp_lt, lg_cmp_eq, eL_0, eL_1, eL_m1, eL_LO, eL_HI, eL_W, eL_add, eL_sub, eL_mul, eL_neg, eL_lt, eL_le, eL_eq, eL_remN, eL_mod0, ne_eq, Int64.not_lt, Int64.not_le] at c4)
                (try simp (disch := omega) only [lg_cmp_ge, lg_cmp_le, lg_cmp_gt, lg_cmp_lt, lg_cmp_eq, eL_0, eL_1, eL_m1, eL_LO, eL_HI, eL_W, eL_add, eL_sub, eL_mul, eL_neg, eL_lt, eL_le, eL_eq, eL_remN, eL_mod0, ne_eq, Int64.not_lt, Int64.not_le] at c12)
                (try simp (disch := omega) only [lg_cmp_ge, lg_cmp_le, lg_cmp_gt, lg_cmp_lt, lg_cmp_eq, eL_0, eL_1, eL_m1, eL_LO, eL_HI, eL_W, eL_add, eL_sub, eL_mul, eL_neg, eL_lt, eL_le, eL_eq, eL_remN, eL_mod0, ne_eq, Int64.not_lt, Int64.not_le] at c68)
                (try simp (disch := omega) only [lg_cmp_ge, lg_cmp_le, lg_cmp_gt, lg_cmp_lt, lg_cmp_eq, eL_0, eL_1, eL_m1, eL_LO, eL_HI, eL_W, eL_add, eL_sub, eL_mul, eL_neg, eL_lt, eL_le, eL_eq, eL_remN, eL_mod0, ne_eq, Int64.not_lt, Int64.not_le] at c75)
                (try simp (disch := omega) only [lg_cmp_ge, lg_cmp_le, lg_cmp_gt, lg_cmp_lt, lg_cmp_eq, eL_0, eL_1, eL_m1, eL_LO, eL_HI, eL_W, eL_add, eL_sub, eL_mul, eL_neg, eL_lt, eL_le, eL_eq, eL_remN, eL_mod0, ne_eq, Int64.not_lt, Int64.not_le] at c97)
                (try simp (disch := omega) only [lg_cmp_ge, lg_cmp_le, lg_cmp_gt, lg_cmp_lt, lg_cmp_eq, eL_0, eL_1, eL_m1, eL_LO, eL_HI, eL_W, eL_add, eL_sub, eL_mul, eL_neg, eL_lt, eL_le, eL_eq, eL_remN, eL_mod0, ne_eq, Int64.not_lt, Int64.not_le] at c104)
                (try simp (disch := omega) only [lg_cmp_ge, lg_cmp_le, lg_cmp_gt, lg_cmp_lt, lg_cmp_eq, eL_0, eL_1, eL_m1, eL_LO, eL_HI, eL_W, eL_add, eL_sub, eL_mul, eL_neg, eL_lt, eL_le, eL_eq, eL_remN, eL_mod0, ne_eq, Int64.not_lt, Int64.not_le] at c112)
                (try simp (disch := omega) only [lg_cmp_ge, lg_cmp_le, lg_cmp_gt, lg_cmp_lt, lg_cmp_eq, eL_0, eL_1, eL_m1, eL_LO, eL_HI, eL_W, eL_add, eL_sub, eL_mul, eL_neg, eL_lt, eL_le, eL_eq, eL_remN, eL_mod0, ne_eq, Int64.not_lt, Int64.not_le] at c140)
                (try simp (disch := omega) only [lg_cmp_ge, lg_cmp_le, lg_cmp_gt, lg_cmp_lt, lg_cmp_eq, eL_0, eL_1, eL_m1, eL_LO, eL_HI, eL_W, eL_add, eL_sub, eL_mul, eL_neg, eL_lt, eL_le, eL_eq, eL_remN, eL_mod0, ne_eq, Int64.not_lt, Int64.not_le] at c147)
                (try simp only [jo12, jo13] at c18)
                (try simp only [jo12, jo13] at c31)
                (try simp only [jo12, jo13] at c62)
                rw [show logS op x y = mkS 0 x.2.1 1 from by
                  unfold logS
                  rw [if_neg (by omega), if_pos (by omega), if_neg (by omega)]
                  first
                    | (rw [if_pos (by omega)]; done)
                    | (rw [if_neg (by omega), if_pos (by omega)]; done)]
                exact ⟨rfl, rfl, W123⟩
            · refine gi_lload (q := 102) C (dm_Mo_logic 55 rfl) rfl rfl ?_
              refine gi_lconst (q := 103) (v := 0) C (dm_Mo_logic 56 rfl) rfl (by decide) ?_
              refine gi_lcmp (q := 104) C (dm_Mo_logic 57 rfl) rfl ?_
              refine gi_if_lt (q := 107) (tgt := 129) C (dm_Mo_logic 58 rfl) rfl (by decide) (fun c104 => ?_) (fun c104 => ?_)
              · refine gi_aload_n (q := 130) (i := 0) C (dm_Mo_logic 71 rfl) rfl rfl rfl ?_
                refine gi_lconst (q := 131) (v := 1) C (dm_Mo_logic 72 rfl) rfl (by decide) ?_
                rw [eL_1]
                refine gi_callv 1 (q := 134) C (dm_Mo_logic 73 rfl) rfl my_Mo_all lk_Mo_295 im_Mo_all rfl (c_Mo_all H) Ha rfl rfl ⟨(Nat.le_of_ble_eq_true rfl), (Nat.le_of_ble_eq_true rfl)⟩ (Nat.le_of_ble_eq_true rfl) ⟨(Nat.le_of_ble_eq_true rfl), (Nat.le_of_ble_eq_true rfl)⟩ (fun r131 n131 h131 e131 => ?_)
                obtain ⟨rfl, rfl, W131⟩ := e131
                refine gi_goto (tgt := 210) C (dm_Mo_logic 74 rfl) (by decide) ?_
                refine gi_vret C hr (dm_Mo_logic 114 rfl) ?_
                (try simp (disch := omega) only [lg_cmp_ge, lg_cmp_le, lg_cmp_gt, lg_cmp_lt, lg_cmp_eq, eL_0, eL_1, eL_m1, eL_LO, eL_HI, eL_W, eL_add, eL_sub, eL_mul, eL_neg, eL_lt, eL_le, eL_eq, eL_remN, eL_mod0, ne_eq, Int64.not_lt, Int64.not_le] at c4)
                (try simp (disch := omega) only [lg_cmp_ge, lg_cmp_le, lg_cmp_gt, lg_cmp_lt, lg_cmp_eq, eL_0, eL_1, eL_m1, eL_LO, eL_HI, eL_W, eL_add, eL_sub, eL_mul, eL_neg, eL_lt, eL_le, eL_eq, eL_remN, eL_mod0, ne_eq, Int64.not_lt, Int64.not_le] at c12)
                (try simp (disch := omega) only [lg_cmp_ge, lg_cmp_le, lg_cmp_gt, lg_cmp_lt, lg_cmp_eq, eL_0, eL_1, eL_m1, eL_LO, eL_HI, eL_W, eL_add, eL_sub, eL_mul, eL_neg, eL_lt, eL_le, eL_eq, eL_remN, eL_mod0, ne_eq, Int64.not_lt, Int64.not_le] at c68)
                (try simp (disch := omega) only [lg_cmp_ge, lg_cmp_le, lg_cmp_gt, lg_cmp_lt, lg_cmp_eq, eL_0, eL_1, eL_m1, eL_LO, eL_HI, eL_W, eL_add, eL_sub, eL_mul, eL_neg, eL_lt, eL_le, eL_eq, eL_remN, eL_mod0, ne_eq, Int64.not_lt, Int64.not_le] at c75)
                (try simp (disch := omega) only [lg_cmp_ge, lg_cmp_le, lg_cmp_gt, lg_cmp_lt, lg_cmp_eq, eL_0, eL_1, eL_m1, eL_LO, eL_HI, eL_W, eL_add, eL_sub, eL_mul, eL_neg, eL_lt, eL_le, eL_eq, eL_remN, eL_mod0, ne_eq, Int64.not_lt, Int64.not_le] at c97)
                (try simp (disch := omega) only [lg_cmp_ge, lg_cmp_le, lg_cmp_gt, lg_cmp_lt, lg_cmp_eq, eL_0, eL_1, eL_m1, eL_LO, eL_HI, eL_W, eL_add, eL_sub, eL_mul, eL_neg, eL_lt, eL_le, eL_eq, eL_remN, eL_mod0, ne_eq, Int64.not_lt, Int64.not_le] at c104)
                (try simp (disch := omega) only [lg_cmp_ge, lg_cmp_le, lg_cmp_gt, lg_cmp_lt, lg_cmp_eq, eL_0, eL_1, eL_m1, eL_LO, eL_HI, eL_W, eL_add, eL_sub, eL_mul, eL_neg, eL_lt, eL_le, eL_eq, eL_remN, eL_mod0, ne_eq, Int64.not_lt, Int64.not_le] at c112)
                (try simp (disch := omega) only [lg_cmp_ge, lg_cmp_le, lg_cmp_gt, lg_cmp_lt, lg_cmp_eq, eL_0, eL_1, eL_m1, eL_LO, eL_HI, eL_W, eL_add, eL_sub, eL_mul, eL_neg, eL_lt, eL_le, eL_eq, eL_remN, eL_mod0, ne_eq, Int64.not_lt, Int64.not_le] at c140)
                (try simp (disch := omega) only [lg_cmp_ge, lg_cmp_le, lg_cmp_gt, lg_cmp_lt, lg_cmp_eq, eL_0, eL_1, eL_m1, eL_LO, eL_HI, eL_W, eL_add, eL_sub, eL_mul, eL_neg, eL_lt, eL_le, eL_eq, eL_remN, eL_mod0, ne_eq, Int64.not_lt, Int64.not_le] at c147)
                (try simp only [jo12, jo13] at c18)
                (try simp only [jo12, jo13] at c31)
                (try simp only [jo12, jo13] at c62)
                rw [show logS op x y = allS from by
                  unfold logS
                  rw [if_neg (by omega), if_pos (by omega), if_neg (by omega), if_neg (by omega), if_neg (by omega)]]
                exact ⟨rfl, rfl, W131⟩
              · refine gi_aload_n (q := 108) (i := 0) C (dm_Mo_logic 59 rfl) rfl rfl rfl ?_
                refine gi_lconst (q := 109) (v := 0) C (dm_Mo_logic 60 rfl) rfl (by decide) ?_
                refine gi_lload_n (q := 110) (i := 2) C (dm_Mo_logic 61 rfl) rfl rfl rfl ?_
                refine gi_lconst (q := 111) (v := 0) C (dm_Mo_logic 62 rfl) rfl (by decide) ?_
                refine gi_lcmp (q := 112) C (dm_Mo_logic 63 rfl) rfl ?_
                refine gi_if_lt (q := 115) (tgt := 120) C (dm_Mo_logic 64 rfl) rfl (by decide) (fun c112 => ?_) (fun c112 => ?_)
                · refine gi_lload (q := 122) C (dm_Mo_logic 67 rfl) rfl rfl ?_
                  refine gi_lconst (q := 123) (v := 1) C (dm_Mo_logic 68 rfl) rfl (by decide) ?_
                  rw [eL_1]
                  refine gi_callv 3 (q := 126) C (dm_Mo_logic 69 rfl) rfl my_Mo_set lk_Mo_262 im_Mo_set rfl (c_Mo_set 0 y.2.1 1 (by omega) (by omega) (by omega) (by omega) H) Ha rfl rfl ⟨(Nat.le_of_ble_eq_true rfl), (Nat.le_of_ble_eq_true rfl)⟩ (Nat.le_of_ble_eq_true rfl) ⟨(Nat.le_of_ble_eq_true rfl), (Nat.le_of_ble_eq_true rfl)⟩ (fun r123 n123 h123 e123 => ?_)
                  obtain ⟨rfl, rfl, W123⟩ := e123
                  refine gi_goto (tgt := 210) C (dm_Mo_logic 70 rfl) (by decide) ?_
                  refine gi_vret C hr (dm_Mo_logic 114 rfl) ?_
                  (try simp (disch := omega) only [lg_cmp_ge, lg_cmp_le, lg_cmp_gt, lg_cmp_lt, lg_cmp_eq, eL_0, eL_1, eL_m1, eL_LO, eL_HI, eL_W, eL_add, eL_sub, eL_mul, eL_neg, eL_lt, eL_le, eL_eq, eL_remN, eL_mod0, ne_eq, Int64.not_lt, Int64.not_le] at c4)
                  (try simp (disch := omega) only [lg_cmp_ge, lg_cmp_le, lg_cmp_gt, lg_cmp_lt, lg_cmp_eq, eL_0, eL_1, eL_m1, eL_LO, eL_HI, eL_W, eL_add, eL_sub, eL_mul, eL_neg, eL_lt, eL_le, eL_eq, eL_remN, eL_mod0, ne_eq, Int64.not_lt, Int64.not_le] at c12)
                  (try simp (disch := omega) only [lg_cmp_ge, lg_cmp_le, lg_cmp_gt, lg_cmp_lt, lg_cmp_eq, eL_0, eL_1, eL_m1, eL_LO, eL_HI, eL_W, eL_add, eL_sub, eL_mul, eL_neg, eL_lt, eL_le, eL_eq, eL_remN, eL_mod0, ne_eq, Int64.not_lt, Int64.not_le] at c68)
                  (try simp (disch := omega) only [lg_cmp_ge, lg_cmp_le, lg_cmp_gt, lg_cmp_lt, lg_cmp_eq, eL_0, eL_1, eL_m1, eL_LO, eL_HI, eL_W, eL_add, eL_sub, eL_mul, eL_neg, eL_lt, eL_le, eL_eq, eL_remN, eL_mod0, ne_eq, Int64.not_lt, Int64.not_le] at c75)
                  (try simp (disch := omega) only [lg_cmp_ge, lg_cmp_le, lg_cmp_gt, lg_cmp_lt, lg_cmp_eq, eL_0, eL_1, eL_m1, eL_LO, eL_HI, eL_W, eL_add, eL_sub, eL_mul, eL_neg, eL_lt, eL_le, eL_eq, eL_remN, eL_mod0, ne_eq, Int64.not_lt, Int64.not_le] at c97)
                  (try simp (disch := omega) only [lg_cmp_ge, lg_cmp_le, lg_cmp_gt, lg_cmp_lt, lg_cmp_eq, eL_0, eL_1, eL_m1, eL_LO, eL_HI, eL_W, eL_add, eL_sub, eL_mul, eL_neg, eL_lt, eL_le, eL_eq, eL_remN, eL_mod0, ne_eq, Int64.not_lt, Int64.not_le] at c104)
                  (try simp (disch := omega) only [lg_cmp_ge, lg_cmp_le, lg_cmp_gt, lg_cmp_lt, lg_cmp_eq, eL_0, eL_1, eL_m1, eL_LO, eL_HI, eL_W, eL_add, eL_sub, eL_mul, eL_neg, eL_lt, eL_le, eL_eq, eL_remN, eL_mod0, ne_eq, Int64.not_lt, Int64.not_le] at c112)
                  (try simp (disch := omega) only [lg_cmp_ge, lg_cmp_le, lg_cmp_gt, lg_cmp_lt, lg_cmp_eq, eL_0, eL_1, eL_m1, eL_LO, eL_HI, eL_W, eL_add, eL_sub, eL_mul, eL_neg, eL_lt, eL_le, eL_eq, eL_remN, eL_mod0, ne_eq, Int64.not_lt, Int64.not_le] at c140)
                  (try simp (disch := omega) only [lg_cmp_ge, lg_cmp_le, lg_cmp_gt, lg_cmp_lt, lg_cmp_eq, eL_0, eL_1, eL_m1, eL_LO, eL_HI, eL_W, eL_add, eL_sub, eL_mul, eL_neg, eL_lt, eL_le, eL_eq, eL_remN, eL_mod0, ne_eq, Int64.not_lt, Int64.not_le] at c147)
                  (try simp only [jo12, jo13] at c18)
                  (try simp only [jo12, jo13] at c31)
                  (try simp only [jo12, jo13] at c62)
                  rw [show logS op x y = mkS 0 y.2.1 1 from by
                    unfold logS
                    rw [if_neg (by omega), if_pos (by omega), if_neg (by omega)]
                    first
                      | (rw [if_pos (by omega)]; done)
                      | (rw [if_neg (by omega), if_pos (by omega)]; done)]
                  exact ⟨rfl, rfl, W123⟩
                · refine gi_lload (q := 117) C (dm_Mo_logic 65 rfl) rfl rfl ?_
                  refine gi_goto (tgt := 122) C (dm_Mo_logic 66 rfl) (by decide) ?_
                  refine gi_lconst (q := 123) (v := 1) C (dm_Mo_logic 68 rfl) rfl (by decide) ?_
                  rw [eL_1]
                  refine gi_callv 3 (q := 126) C (dm_Mo_logic 69 rfl) rfl my_Mo_set lk_Mo_262 im_Mo_set rfl (c_Mo_set 0 x.2.1 1 (by omega) (by omega) (by omega) (by omega) H) Ha rfl rfl ⟨(Nat.le_of_ble_eq_true rfl), (Nat.le_of_ble_eq_true rfl)⟩ (Nat.le_of_ble_eq_true rfl) ⟨(Nat.le_of_ble_eq_true rfl), (Nat.le_of_ble_eq_true rfl)⟩ (fun r123 n123 h123 e123 => ?_)
                  obtain ⟨rfl, rfl, W123⟩ := e123
                  refine gi_goto (tgt := 210) C (dm_Mo_logic 70 rfl) (by decide) ?_
                  refine gi_vret C hr (dm_Mo_logic 114 rfl) ?_
                  (try simp (disch := omega) only [lg_cmp_ge, lg_cmp_le, lg_cmp_gt, lg_cmp_lt, lg_cmp_eq, eL_0, eL_1, eL_m1, eL_LO, eL_HI, eL_W, eL_add, eL_sub, eL_mul, eL_neg, eL_lt, eL_le, eL_eq, eL_remN, eL_mod0, ne_eq, Int64.not_lt, Int64.not_le] at c4)
                  (try simp (disch := omega) only [lg_cmp_ge, lg_cmp_le, lg_cmp_gt, lg_cmp_lt, lg_cmp_eq, eL_0, eL_1, eL_m1, eL_LO, eL_HI, eL_W, eL_add, eL_sub, eL_mul, eL_neg, eL_lt, eL_le, eL_eq, eL_remN, eL_mod0, ne_eq, Int64.not_lt, Int64.not_le] at c12)
                  (try simp (disch := omega) only [lg_cmp_ge, lg_cmp_le, lg_cmp_gt, lg_cmp_lt, lg_cmp_eq, eL_0, eL_1, eL_m1, eL_LO, eL_HI, eL_W, eL_add, eL_sub, eL_mul, eL_neg, eL_lt, eL_le, eL_eq, eL_remN, eL_mod0, ne_eq, Int64.not_lt, Int64.not_le] at c68)
                  (try simp (disch := omega) only [lg_cmp_ge, lg_cmp_le, lg_cmp_gt, lg_cmp_lt, lg_cmp_eq, eL_0, eL_1, eL_m1, eL_LO, eL_HI, eL_W, eL_add, eL_sub, eL_mul, eL_neg, eL_lt, eL_le, eL_eq, eL_remN, eL_mod0, ne_eq, Int64.not_lt, Int64.not_le] at c75)
                  (try simp (disch := omega) only [lg_cmp_ge, lg_cmp_le, lg_cmp_gt, lg_cmp_lt, lg_cmp_eq, eL_0, eL_1, eL_m1, eL_LO, eL_HI, eL_W, eL_add, eL_sub, eL_mul, eL_neg, eL_lt, eL_le, eL_eq, eL_remN, eL_mod0, ne_eq, Int64.not_lt, Int64.not_le] at c97)
                  (try simp (disch := omega) only [lg_cmp_ge, lg_cmp_le, lg_cmp_gt, lg_cmp_lt, lg_cmp_eq, eL_0, eL_1, eL_m1, eL_LO, eL_HI, eL_W, eL_add, eL_sub, eL_mul, eL_neg, eL_lt, eL_le, eL_eq, eL_remN, eL_mod0, ne_eq, Int64.not_lt, Int64.not_le] at c104)
                  (try simp (disch := omega) only [lg_cmp_ge, lg_cmp_le, lg_cmp_gt, lg_cmp_lt, lg_cmp_eq, eL_0, eL_1, eL_m1, eL_LO, eL_HI, eL_W, eL_add, eL_sub, eL_mul, eL_neg, eL_lt, eL_le, eL_eq, eL_remN, eL_mod0, ne_eq, Int64.not_lt, Int64.not_le] at c112)
                  (try simp (disch := omega) only [lg_cmp_ge, lg_cmp_le, lg_cmp_gt, lg_cmp_lt, lg_cmp_eq, eL_0, eL_1, eL_m1, eL_LO, eL_HI, eL_W, eL_add, eL_sub, eL_mul, eL_neg, eL_lt, eL_le, eL_eq, eL_remN, eL_mod0, ne_eq, Int64.not_lt, Int64.not_le] at c140)
                  (try simp (disch := omega) only [lg_cmp_ge, lg_cmp_le, lg_cmp_gt, lg_cmp_lt, lg_cmp_eq, eL_0, eL_1, eL_m1, eL_LO, eL_HI, eL_W, eL_add, eL_sub, eL_mul, eL_neg, eL_lt, eL_le, eL_eq, eL_remN, eL_mod0, ne_eq, Int64.not_lt, Int64.not_le] at c147)
                  (try simp only [jo12, jo13] at c18)
                  (try simp only [jo12, jo13] at c31)
                  (try simp only [jo12, jo13] at c62)
                  rw [show logS op x y = mkS 0 x.2.1 1 from by
                    unfold logS
                    rw [if_neg (by omega), if_pos (by omega), if_neg (by omega)]
                    first
                      | (rw [if_pos (by omega)]; done)
                      | (rw [if_neg (by omega), if_pos (by omega)]; done)]
                  exact ⟨rfl, rfl, W123⟩
          · refine gi_aload_n (q := 79) (i := 0) C (dm_Mo_logic 43 rfl) rfl rfl rfl ?_
            refine gi_lconst (q := 80) (v := 0) C (dm_Mo_logic 44 rfl) rfl (by decide) ?_
            refine gi_lload (q := 82) C (dm_Mo_logic 45 rfl) rfl rfl ?_
            refine gi_lload (q := 84) C (dm_Mo_logic 46 rfl) rfl rfl ?_
            refine gi_calls 2 (q := 87) C (dm_Mo_logic 47 rfl) rfl my_Mo_min lk_Mo_252 sm_Mo_min (c_Mo_min x.2.1 y.2.1 (by omega) (by omega) (by omega) (by omega)) rfl rfl ⟨(Nat.le_of_ble_eq_true rfl), (Nat.le_of_ble_eq_true rfl)⟩ (Nat.le_of_ble_eq_true rfl) ⟨(Nat.le_of_ble_eq_true rfl), (Nat.le_of_ble_eq_true rfl)⟩ (fun r84 n84 h84 e84 => ?_)
            obtain ⟨rfl, q84, u84⟩ := e84
            rw [q84, u84]
            refine gi_lconst (q := 88) (v := 1) C (dm_Mo_logic 48 rfl) rfl (by decide) ?_
            rw [eL_1]
            refine gi_callv 3 (q := 91) C (dm_Mo_logic 49 rfl) rfl my_Mo_set lk_Mo_262 im_Mo_set rfl (c_Mo_set 0 (min x.2.1 y.2.1) 1 (by omega) (by omega) (by omega) (by omega) H) Ha rfl rfl ⟨(Nat.le_of_ble_eq_true rfl), (Nat.le_of_ble_eq_true rfl)⟩ (Nat.le_of_ble_eq_true rfl) ⟨(Nat.le_of_ble_eq_true rfl), (Nat.le_of_ble_eq_true rfl)⟩ (fun r88 n88 h88 e88 => ?_)
            obtain ⟨rfl, rfl, W88⟩ := e88
            refine gi_goto (tgt := 210) C (dm_Mo_logic 50 rfl) (by decide) ?_
            refine gi_vret C hr (dm_Mo_logic 114 rfl) ?_
            (try simp (disch := omega) only [lg_cmp_ge, lg_cmp_le, lg_cmp_gt, lg_cmp_lt, lg_cmp_eq, eL_0, eL_1, eL_m1, eL_LO, eL_HI, eL_W, eL_add, eL_sub, eL_mul, eL_neg, eL_lt, eL_le, eL_eq, eL_remN, eL_mod0, ne_eq, Int64.not_lt, Int64.not_le] at c4)
            (try simp (disch := omega) only [lg_cmp_ge, lg_cmp_le, lg_cmp_gt, lg_cmp_lt, lg_cmp_eq, eL_0, eL_1, eL_m1, eL_LO, eL_HI, eL_W, eL_add, eL_sub, eL_mul, eL_neg, eL_lt, eL_le, eL_eq, eL_remN, eL_mod0, ne_eq, Int64.not_lt, Int64.not_le] at c12)
            (try simp (disch := omega) only [lg_cmp_ge, lg_cmp_le, lg_cmp_gt, lg_cmp_lt, lg_cmp_eq, eL_0, eL_1, eL_m1, eL_LO, eL_HI, eL_W, eL_add, eL_sub, eL_mul, eL_neg, eL_lt, eL_le, eL_eq, eL_remN, eL_mod0, ne_eq, Int64.not_lt, Int64.not_le] at c68)
            (try simp (disch := omega) only [lg_cmp_ge, lg_cmp_le, lg_cmp_gt, lg_cmp_lt, lg_cmp_eq, eL_0, eL_1, eL_m1, eL_LO, eL_HI, eL_W, eL_add, eL_sub, eL_mul, eL_neg, eL_lt, eL_le, eL_eq, eL_remN, eL_mod0, ne_eq, Int64.not_lt, Int64.not_le] at c75)
            (try simp (disch := omega) only [lg_cmp_ge, lg_cmp_le, lg_cmp_gt, lg_cmp_lt, lg_cmp_eq, eL_0, eL_1, eL_m1, eL_LO, eL_HI, eL_W, eL_add, eL_sub, eL_mul, eL_neg, eL_lt, eL_le, eL_eq, eL_remN, eL_mod0, ne_eq, Int64.not_lt, Int64.not_le] at c97)
            (try simp (disch := omega) only [lg_cmp_ge, lg_cmp_le, lg_cmp_gt, lg_cmp_lt, lg_cmp_eq, eL_0, eL_1, eL_m1, eL_LO, eL_HI, eL_W, eL_add, eL_sub, eL_mul, eL_neg, eL_lt, eL_le, eL_eq, eL_remN, eL_mod0, ne_eq, Int64.not_lt, Int64.not_le] at c104)
            (try simp (disch := omega) only [lg_cmp_ge, lg_cmp_le, lg_cmp_gt, lg_cmp_lt, lg_cmp_eq, eL_0, eL_1, eL_m1, eL_LO, eL_HI, eL_W, eL_add, eL_sub, eL_mul, eL_neg, eL_lt, eL_le, eL_eq, eL_remN, eL_mod0, ne_eq, Int64.not_lt, Int64.not_le] at c112)
            (try simp (disch := omega) only [lg_cmp_ge, lg_cmp_le, lg_cmp_gt, lg_cmp_lt, lg_cmp_eq, eL_0, eL_1, eL_m1, eL_LO, eL_HI, eL_W, eL_add, eL_sub, eL_mul, eL_neg, eL_lt, eL_le, eL_eq, eL_remN, eL_mod0, ne_eq, Int64.not_lt, Int64.not_le] at c140)
            (try simp (disch := omega) only [lg_cmp_ge, lg_cmp_le, lg_cmp_gt, lg_cmp_lt, lg_cmp_eq, eL_0, eL_1, eL_m1, eL_LO, eL_HI, eL_W, eL_add, eL_sub, eL_mul, eL_neg, eL_lt, eL_le, eL_eq, eL_remN, eL_mod0, ne_eq, Int64.not_lt, Int64.not_le] at c147)
            (try simp only [jo12, jo13] at c18)
            (try simp only [jo12, jo13] at c31)
            (try simp only [jo12, jo13] at c62)
            rw [show logS op x y = mkS 0 (min x.2.1 y.2.1) 1 from by
              unfold logS
              rw [if_neg (by omega), if_pos (by omega), if_pos (by omega)]]
            exact ⟨rfl, rfl, W88⟩
    · refine gi_iload_n (q := 16) (i := 1) C (dm_Mo_logic 8 rfl) rfl rfl rfl ?_
      refine gi_bipush (q := 18) (v := 12) C (dm_Mo_logic 9 rfl) rfl (by decide) ?_
      refine gi_icmp_ne (q := 21) (tgt := 28) C (dm_Mo_logic 10 rfl) rfl (by decide) (fun c18 => ?_) (fun c18 => ?_)
      · refine gi_iload_n (q := 29) (i := 1) C (dm_Mo_logic 15 rfl) rfl rfl rfl ?_
        refine gi_bipush (q := 31) (v := 13) C (dm_Mo_logic 16 rfl) rfl (by decide) ?_
        refine gi_icmp_ne (q := 34) (tgt := 41) C (dm_Mo_logic 17 rfl) rfl (by decide) (fun c31 => ?_) (fun c31 => ?_)
        · refine gi_lload_n (q := 42) (i := 2) C (dm_Mo_logic 22 rfl) rfl rfl rfl ?_
          refine gi_lload (q := 44) C (dm_Mo_logic 23 rfl) rfl rfl ?_
          refine gi_lxor (q := 45) C (dm_Mo_logic 24 rfl) rfl ?_
          refine gi_lstore (q := 47) C (dm_Mo_logic 25 rfl) rfl (Nat.le_of_ble_eq_true rfl) ?_
          refine gi_aload_n (q := 48) (i := 0) C (dm_Mo_logic 26 rfl) rfl rfl rfl ?_
          refine gi_lload (q := 50) C (dm_Mo_logic 27 rfl) rfl rfl ?_
          refine gi_lload (q := 52) C (dm_Mo_logic 28 rfl) rfl rfl ?_
          refine gi_lconst (q := 53) (v := 0) C (dm_Mo_logic 29 rfl) rfl (by decide) ?_
          refine gi_callv 3 (q := 56) C (dm_Mo_logic 30 rfl) rfl my_Mo_set lk_Mo_262 im_Mo_set rfl (c_Mo_set_same (eL x.1 ^^^ eL y.1) H) Ha rfl rfl ⟨(Nat.le_of_ble_eq_true rfl), (Nat.le_of_ble_eq_true rfl)⟩ (Nat.le_of_ble_eq_true rfl) ⟨(Nat.le_of_ble_eq_true rfl), (Nat.le_of_ble_eq_true rfl)⟩ (fun r53 n53 h53 e53 => ?_)
          obtain ⟨rfl, rfl, W53⟩ := e53
          refine gi_goto (tgt := 210) C (dm_Mo_logic 31 rfl) (by decide) ?_
          refine gi_vret C hr (dm_Mo_logic 114 rfl) ?_
          (try simp (disch := omega) only [lg_cmp_ge, lg_cmp_le, lg_cmp_gt, lg_cmp_lt, lg_cmp_eq, eL_0, eL_1, eL_m1, eL_LO, eL_HI, eL_W, eL_add, eL_sub, eL_mul, eL_neg, eL_lt, eL_le, eL_eq, eL_remN, eL_mod0, ne_eq, Int64.not_lt, Int64.not_le] at c4)
          (try simp (disch := omega) only [lg_cmp_ge, lg_cmp_le, lg_cmp_gt, lg_cmp_lt, lg_cmp_eq, eL_0, eL_1, eL_m1, eL_LO, eL_HI, eL_W, eL_add, eL_sub, eL_mul, eL_neg, eL_lt, eL_le, eL_eq, eL_remN, eL_mod0, ne_eq, Int64.not_lt, Int64.not_le] at c12)
          (try simp (disch := omega) only [lg_cmp_ge, lg_cmp_le, lg_cmp_gt, lg_cmp_lt, lg_cmp_eq, eL_0, eL_1, eL_m1, eL_LO, eL_HI, eL_W, eL_add, eL_sub, eL_mul, eL_neg, eL_lt, eL_le, eL_eq, eL_remN, eL_mod0, ne_eq, Int64.not_lt, Int64.not_le] at c68)
          (try simp (disch := omega) only [lg_cmp_ge, lg_cmp_le, lg_cmp_gt, lg_cmp_lt, lg_cmp_eq, eL_0, eL_1, eL_m1, eL_LO, eL_HI, eL_W, eL_add, eL_sub, eL_mul, eL_neg, eL_lt, eL_le, eL_eq, eL_remN, eL_mod0, ne_eq, Int64.not_lt, Int64.not_le] at c75)
          (try simp (disch := omega) only [lg_cmp_ge, lg_cmp_le, lg_cmp_gt, lg_cmp_lt, lg_cmp_eq, eL_0, eL_1, eL_m1, eL_LO, eL_HI, eL_W, eL_add, eL_sub, eL_mul, eL_neg, eL_lt, eL_le, eL_eq, eL_remN, eL_mod0, ne_eq, Int64.not_lt, Int64.not_le] at c97)
          (try simp (disch := omega) only [lg_cmp_ge, lg_cmp_le, lg_cmp_gt, lg_cmp_lt, lg_cmp_eq, eL_0, eL_1, eL_m1, eL_LO, eL_HI, eL_W, eL_add, eL_sub, eL_mul, eL_neg, eL_lt, eL_le, eL_eq, eL_remN, eL_mod0, ne_eq, Int64.not_lt, Int64.not_le] at c104)
          (try simp (disch := omega) only [lg_cmp_ge, lg_cmp_le, lg_cmp_gt, lg_cmp_lt, lg_cmp_eq, eL_0, eL_1, eL_m1, eL_LO, eL_HI, eL_W, eL_add, eL_sub, eL_mul, eL_neg, eL_lt, eL_le, eL_eq, eL_remN, eL_mod0, ne_eq, Int64.not_lt, Int64.not_le] at c112)
          (try simp (disch := omega) only [lg_cmp_ge, lg_cmp_le, lg_cmp_gt, lg_cmp_lt, lg_cmp_eq, eL_0, eL_1, eL_m1, eL_LO, eL_HI, eL_W, eL_add, eL_sub, eL_mul, eL_neg, eL_lt, eL_le, eL_eq, eL_remN, eL_mod0, ne_eq, Int64.not_lt, Int64.not_le] at c140)
          (try simp (disch := omega) only [lg_cmp_ge, lg_cmp_le, lg_cmp_gt, lg_cmp_lt, lg_cmp_eq, eL_0, eL_1, eL_m1, eL_LO, eL_HI, eL_W, eL_add, eL_sub, eL_mul, eL_neg, eL_lt, eL_le, eL_eq, eL_remN, eL_mod0, ne_eq, Int64.not_lt, Int64.not_le] at c147)
          (try simp only [jo12, jo13] at c18)
          (try simp only [jo12, jo13] at c31)
          (try simp only [jo12, jo13] at c62)
          rw [show logS op x y = ((eL x.1 ^^^ eL y.1).toInt, (eL x.1 ^^^ eL y.1).toInt, 0) from by
            unfold logS bitS
            rw [if_pos ⟨by omega, by omega⟩]
            first
              | rw [if_pos (by omega)]
              | rw [if_neg (by omega), if_pos (by omega)]
              | rw [if_neg (by omega), if_neg (by omega)]]
          exact ⟨rfl, rfl, W53⟩
        · refine gi_lload_n (q := 35) (i := 2) C (dm_Mo_logic 18 rfl) rfl rfl rfl ?_
          refine gi_lload (q := 37) C (dm_Mo_logic 19 rfl) rfl rfl ?_
          refine gi_lor (q := 38) C (dm_Mo_logic 20 rfl) rfl ?_
          refine gi_goto (tgt := 45) C (dm_Mo_logic 21 rfl) (by decide) ?_
          refine gi_lstore (q := 47) C (dm_Mo_logic 25 rfl) rfl (Nat.le_of_ble_eq_true rfl) ?_
          refine gi_aload_n (q := 48) (i := 0) C (dm_Mo_logic 26 rfl) rfl rfl rfl ?_
          refine gi_lload (q := 50) C (dm_Mo_logic 27 rfl) rfl rfl ?_
          refine gi_lload (q := 52) C (dm_Mo_logic 28 rfl) rfl rfl ?_
          refine gi_lconst (q := 53) (v := 0) C (dm_Mo_logic 29 rfl) rfl (by decide) ?_
          refine gi_callv 3 (q := 56) C (dm_Mo_logic 30 rfl) rfl my_Mo_set lk_Mo_262 im_Mo_set rfl (c_Mo_set_same (eL x.1 ||| eL y.1) H) Ha rfl rfl ⟨(Nat.le_of_ble_eq_true rfl), (Nat.le_of_ble_eq_true rfl)⟩ (Nat.le_of_ble_eq_true rfl) ⟨(Nat.le_of_ble_eq_true rfl), (Nat.le_of_ble_eq_true rfl)⟩ (fun r53 n53 h53 e53 => ?_)
          obtain ⟨rfl, rfl, W53⟩ := e53
          refine gi_goto (tgt := 210) C (dm_Mo_logic 31 rfl) (by decide) ?_
          refine gi_vret C hr (dm_Mo_logic 114 rfl) ?_
          (try simp (disch := omega) only [lg_cmp_ge, lg_cmp_le, lg_cmp_gt, lg_cmp_lt, lg_cmp_eq, eL_0, eL_1, eL_m1, eL_LO, eL_HI, eL_W, eL_add, eL_sub, eL_mul, eL_neg, eL_lt, eL_le, eL_eq, eL_remN, eL_mod0, ne_eq, Int64.not_lt, Int64.not_le] at c4)
          (try simp (disch := omega) only [lg_cmp_ge, lg_cmp_le, lg_cmp_gt, lg_cmp_lt, lg_cmp_eq, eL_0, eL_1, eL_m1, eL_LO, eL_HI, eL_W, eL_add, eL_sub, eL_mul, eL_neg, eL_lt, eL_le, eL_eq, eL_remN, eL_mod0, ne_eq, Int64.not_lt, Int64.not_le] at c12)
          (try simp (disch := omega) only [lg_cmp_ge, lg_cmp_le, lg_cmp_gt, lg_cmp_lt, lg_cmp_eq, eL_0, eL_1, eL_m1, eL_LO, eL_HI, eL_W, eL_add, eL_sub, eL_mul, eL_neg, eL_lt, eL_le, eL_eq, eL_remN, eL_mod0, ne_eq, Int64.not_lt, Int64.not_le] at c68)
          (try simp (disch := omega) only [lg_cmp_ge, lg_cmp_le, lg_cmp_gt, lg_cmp_lt, lg_cmp_eq, eL_0, eL_1, eL_m1, eL_LO, eL_HI, eL_W, eL_add, eL_sub, eL_mul, eL_neg, eL_lt, eL_le, eL_eq, eL_remN, eL_mod0, ne_eq, Int64.not_lt, Int64.not_le] at c75)
          (try simp (disch := omega) only [lg_cmp_ge, lg_cmp_le, lg_cmp_gt, lg_cmp_lt, lg_cmp_eq, eL_0, eL_1, eL_m1, eL_LO, eL_HI, eL_W, eL_add, eL_sub, eL_mul, eL_neg, eL_lt, eL_le, eL_eq, eL_remN, eL_mod0, ne_eq, Int64.not_lt, Int64.not_le] at c97)
          (try simp (disch := omega) only [lg_cmp_ge, lg_cmp_le, lg_cmp_gt, lg_cmp_lt, lg_cmp_eq, eL_0, eL_1, eL_m1, eL_LO, eL_HI, eL_W, eL_add, eL_sub, eL_mul, eL_neg, eL_lt, eL_le, eL_eq, eL_remN, eL_mod0, ne_eq, Int64.not_lt, Int64.not_le] at c104)
          (try simp (disch := omega) only [lg_cmp_ge, lg_cmp_le, lg_cmp_gt, lg_cmp_lt, lg_cmp_eq, eL_0, eL_1, eL_m1, eL_LO, eL_HI, eL_W, eL_add, eL_sub, eL_mul, eL_neg, eL_lt, eL_le, eL_eq, eL_remN, eL_mod0, ne_eq, Int64.not_lt, Int64.not_le] at c112)
          (try simp (disch := omega) only [lg_cmp_ge, lg_cmp_le, lg_cmp_gt, lg_cmp_lt, lg_cmp_eq, eL_0, eL_1, eL_m1, eL_LO, eL_HI, eL_W, eL_add, eL_sub, eL_mul, eL_neg, eL_lt, eL_le, eL_eq, eL_remN, eL_mod0, ne_eq, Int64.not_lt, Int64.not_le] at c140)
          (try simp (disch := omega) only [lg_cmp_ge, lg_cmp_le, lg_cmp_gt, lg_cmp_lt, lg_cmp_eq, eL_0, eL_1, eL_m1, eL_LO, eL_HI, eL_W, eL_add, eL_sub, eL_mul, eL_neg, eL_lt, eL_le, eL_eq, eL_remN, eL_mod0, ne_eq, Int64.not_lt, Int64.not_le] at c147)
          (try simp only [jo12, jo13] at c18)
          (try simp only [jo12, jo13] at c31)
          (try simp only [jo12, jo13] at c62)
          rw [show logS op x y = ((eL x.1 ||| eL y.1).toInt, (eL x.1 ||| eL y.1).toInt, 0) from by
            unfold logS bitS
            rw [if_pos ⟨by omega, by omega⟩]
            first
              | rw [if_pos (by omega)]
              | rw [if_neg (by omega), if_pos (by omega)]
              | rw [if_neg (by omega), if_neg (by omega)]]
          exact ⟨rfl, rfl, W53⟩
      · refine gi_lload_n (q := 22) (i := 2) C (dm_Mo_logic 11 rfl) rfl rfl rfl ?_
        refine gi_lload (q := 24) C (dm_Mo_logic 12 rfl) rfl rfl ?_
        refine gi_land (q := 25) C (dm_Mo_logic 13 rfl) rfl ?_
        refine gi_goto (tgt := 45) C (dm_Mo_logic 14 rfl) (by decide) ?_
        refine gi_lstore (q := 47) C (dm_Mo_logic 25 rfl) rfl (Nat.le_of_ble_eq_true rfl) ?_
        refine gi_aload_n (q := 48) (i := 0) C (dm_Mo_logic 26 rfl) rfl rfl rfl ?_
        refine gi_lload (q := 50) C (dm_Mo_logic 27 rfl) rfl rfl ?_
        refine gi_lload (q := 52) C (dm_Mo_logic 28 rfl) rfl rfl ?_
        refine gi_lconst (q := 53) (v := 0) C (dm_Mo_logic 29 rfl) rfl (by decide) ?_
        refine gi_callv 3 (q := 56) C (dm_Mo_logic 30 rfl) rfl my_Mo_set lk_Mo_262 im_Mo_set rfl (c_Mo_set_same (eL x.1 &&& eL y.1) H) Ha rfl rfl ⟨(Nat.le_of_ble_eq_true rfl), (Nat.le_of_ble_eq_true rfl)⟩ (Nat.le_of_ble_eq_true rfl) ⟨(Nat.le_of_ble_eq_true rfl), (Nat.le_of_ble_eq_true rfl)⟩ (fun r53 n53 h53 e53 => ?_)
        obtain ⟨rfl, rfl, W53⟩ := e53
        refine gi_goto (tgt := 210) C (dm_Mo_logic 31 rfl) (by decide) ?_
        refine gi_vret C hr (dm_Mo_logic 114 rfl) ?_
        (try simp (disch := omega) only [lg_cmp_ge, lg_cmp_le, lg_cmp_gt, lg_cmp_lt, lg_cmp_eq, eL_0, eL_1, eL_m1, eL_LO, eL_HI, eL_W, eL_add, eL_sub, eL_mul, eL_neg, eL_lt, eL_le, eL_eq, eL_remN, eL_mod0, ne_eq, Int64.not_lt, Int64.not_le] at c4)
        (try simp (disch := omega) only [lg_cmp_ge, lg_cmp_le, lg_cmp_gt, lg_cmp_lt, lg_cmp_eq, eL_0, eL_1, eL_m1, eL_LO, eL_HI, eL_W, eL_add, eL_sub, eL_mul, eL_neg, eL_lt, eL_le, eL_eq, eL_remN, eL_mod0, ne_eq, Int64.not_lt, Int64.not_le] at c12)
        (try simp (disch := omega) only [lg_cmp_ge, lg_cmp_le, lg_cmp_gt, lg_cmp_lt, lg_cmp_eq, eL_0, eL_1, eL_m1, eL_LO, eL_HI, eL_W, eL_add, eL_sub, eL_mul, eL_neg, eL_lt, eL_le, eL_eq, eL_remN, eL_mod0, ne_eq, Int64.not_lt, Int64.not_le] at c68)
        (try simp (disch := omega) only [lg_cmp_ge, lg_cmp_le, lg_cmp_gt, lg_cmp_lt, lg_cmp_eq, eL_0, eL_1, eL_m1, eL_LO, eL_HI, eL_W, eL_add, eL_sub, eL_mul, eL_neg, eL_lt, eL_le, eL_eq, eL_remN, eL_mod0, ne_eq, Int64.not_lt, Int64.not_le] at c75)
        (try simp (disch := omega) only [lg_cmp_ge, lg_cmp_le, lg_cmp_gt, lg_cmp_lt, lg_cmp_eq, eL_0, eL_1, eL_m1, eL_LO, eL_HI, eL_W, eL_add, eL_sub, eL_mul, eL_neg, eL_lt, eL_le, eL_eq, eL_remN, eL_mod0, ne_eq, Int64.not_lt, Int64.not_le] at c97)
        (try simp (disch := omega) only [lg_cmp_ge, lg_cmp_le, lg_cmp_gt, lg_cmp_lt, lg_cmp_eq, eL_0, eL_1, eL_m1, eL_LO, eL_HI, eL_W, eL_add, eL_sub, eL_mul, eL_neg, eL_lt, eL_le, eL_eq, eL_remN, eL_mod0, ne_eq, Int64.not_lt, Int64.not_le] at c104)
        (try simp (disch := omega) only [lg_cmp_ge, lg_cmp_le, lg_cmp_gt, lg_cmp_lt, lg_cmp_eq, eL_0, eL_1, eL_m1, eL_LO, eL_HI, eL_W, eL_add, eL_sub, eL_mul, eL_neg, eL_lt, eL_le, eL_eq, eL_remN, eL_mod0, ne_eq, Int64.not_lt, Int64.not_le] at c112)
        (try simp (disch := omega) only [lg_cmp_ge, lg_cmp_le, lg_cmp_gt, lg_cmp_lt, lg_cmp_eq, eL_0, eL_1, eL_m1, eL_LO, eL_HI, eL_W, eL_add, eL_sub, eL_mul, eL_neg, eL_lt, eL_le, eL_eq, eL_remN, eL_mod0, ne_eq, Int64.not_lt, Int64.not_le] at c140)
        (try simp (disch := omega) only [lg_cmp_ge, lg_cmp_le, lg_cmp_gt, lg_cmp_lt, lg_cmp_eq, eL_0, eL_1, eL_m1, eL_LO, eL_HI, eL_W, eL_add, eL_sub, eL_mul, eL_neg, eL_lt, eL_le, eL_eq, eL_remN, eL_mod0, ne_eq, Int64.not_lt, Int64.not_le] at c147)
        (try simp only [jo12, jo13] at c18)
        (try simp only [jo12, jo13] at c31)
        (try simp only [jo12, jo13] at c62)
        rw [show logS op x y = ((eL x.1 &&& eL y.1).toInt, (eL x.1 &&& eL y.1).toInt, 0) from by
          unfold logS bitS
          rw [if_pos ⟨by omega, by omega⟩]
          first
            | rw [if_pos (by omega)]
            | rw [if_neg (by omega), if_pos (by omega)]
            | rw [if_neg (by omega), if_neg (by omega)]]
        exact ⟨rfl, rfl, W53⟩
end RN4
