-- needs: 89.58
section RNA
variable {l : Launch} {V : gi_V} {n : Nat} {h h' : gi_H} {M : Nat} {S S' : Nat → Int32} {J J' : Nat → Int64} {F : Nat → Nat → Int32} {G : Nat → Nat → Int64}
theorem eL_c (c : Int) : Int64.ofInt c = eL c := rfl
set_option maxHeartbeats 4000000 in
set_option maxRecDepth 100000 in
theorem c_Mo_pointBelow (v : Int) (v1 : -4294967296 ≤ v) (v2 : v ≤ 4294967296) : gi_T l V y_Mo_pointBelow b_Mo_pointBelow 2 (some .long) 0 0 0 0 [.long (eL v)] n h (gi_is (some (.long (eL (ledD v)))) n h) := by
  refine gi_enter (by decide) (Nat.le_of_ble_eq_true rfl) ?_
  intro _ _ _ _ _ _ _ _ C hr hnm
  have lm2147483648 : ((-2147483648) : Int64) = eL (-2147483648) := by decide
  have lm32768 : ((-32768) : Int64) = eL (-32768) := by decide
  have lm128 : ((-128) : Int64) = eL (-128) := by decide
  have lm1 : ((-1) : Int64) = eL (-1) := by decide
  have l127 : (127 : Int64) = eL (127) := by decide
  have l255 : (255 : Int64) = eL (255) := by decide
  have l32767 : (32767 : Int64) = eL (32767) := by decide
  have l65535 : (65535 : Int64) = eL (65535) := by decide
  have l2147483647 : (2147483647 : Int64) = eL (2147483647) := by decide
  refine gi_lload_n (q := 1) (i := 0) C (dm_Mo_pointBelow 0 rfl) rfl rfl rfl ?_
  refine gi_ldc2 (q := 4) C (dm_Mo_pointBelow 1 rfl) rfl kc_Mo_280 ?_
  refine gi_lcmp (q := 5) C (dm_Mo_pointBelow 2 rfl) rfl ?_
  refine gi_if_lt (q := 8) (tgt := 14) C (dm_Mo_pointBelow 3 rfl) rfl (by decide) (fun c5 => ?_) (fun c5 => ?_)
  · refine gi_lload_n (q := 15) (i := 0) C (dm_Mo_pointBelow 6 rfl) rfl rfl rfl ?_
    refine gi_ldc2 (q := 18) C (dm_Mo_pointBelow 7 rfl) rfl kc_Mo_374 ?_
    refine gi_lcmp (q := 19) C (dm_Mo_pointBelow 8 rfl) rfl ?_
    refine gi_if_lt (q := 22) (tgt := 28) C (dm_Mo_pointBelow 9 rfl) rfl (by decide) (fun c19 => ?_) (fun c19 => ?_)
    · refine gi_lload_n (q := 29) (i := 0) C (dm_Mo_pointBelow 12 rfl) rfl rfl rfl ?_
      refine gi_ldc2 (q := 32) C (dm_Mo_pointBelow 13 rfl) rfl kc_Mo_376 ?_
      refine gi_lcmp (q := 33) C (dm_Mo_pointBelow 14 rfl) rfl ?_
      refine gi_if_lt (q := 36) (tgt := 42) C (dm_Mo_pointBelow 15 rfl) rfl (by decide) (fun c33 => ?_) (fun c33 => ?_)
      · refine gi_lload_n (q := 43) (i := 0) C (dm_Mo_pointBelow 18 rfl) rfl rfl rfl ?_
        refine gi_ldc2 (q := 46) C (dm_Mo_pointBelow 19 rfl) rfl kc_Mo_378 ?_
        refine gi_lcmp (q := 47) C (dm_Mo_pointBelow 20 rfl) rfl ?_
        refine gi_if_lt (q := 50) (tgt := 56) C (dm_Mo_pointBelow 21 rfl) rfl (by decide) (fun c47 => ?_) (fun c47 => ?_)
        · refine gi_lload_n (q := 57) (i := 0) C (dm_Mo_pointBelow 24 rfl) rfl rfl rfl ?_
          refine gi_ldc2 (q := 60) C (dm_Mo_pointBelow 25 rfl) rfl kc_Mo_380 ?_
          refine gi_lcmp (q := 61) C (dm_Mo_pointBelow 26 rfl) rfl ?_
          refine gi_if_lt (q := 64) (tgt := 70) C (dm_Mo_pointBelow 27 rfl) rfl (by decide) (fun c61 => ?_) (fun c61 => ?_)
          · refine gi_lload_n (q := 71) (i := 0) C (dm_Mo_pointBelow 30 rfl) rfl rfl rfl ?_
            refine gi_lconst (q := 72) (v := 1) C (dm_Mo_pointBelow 31 rfl) rfl (by decide) ?_
            refine gi_lcmp (q := 73) C (dm_Mo_pointBelow 32 rfl) rfl ?_
            refine gi_if_lt (q := 76) (tgt := 80) C (dm_Mo_pointBelow 33 rfl) rfl (by decide) (fun c73 => ?_) (fun c73 => ?_)
            · refine gi_lload_n (q := 81) (i := 0) C (dm_Mo_pointBelow 36 rfl) rfl rfl rfl ?_
              refine gi_lconst (q := 82) (v := 0) C (dm_Mo_pointBelow 37 rfl) rfl (by decide) ?_
              refine gi_lcmp (q := 83) C (dm_Mo_pointBelow 38 rfl) rfl ?_
              refine gi_if_lt (q := 86) (tgt := 90) C (dm_Mo_pointBelow 39 rfl) rfl (by decide) (fun c83 => ?_) (fun c83 => ?_)
              · refine gi_lload_n (q := 91) (i := 0) C (dm_Mo_pointBelow 42 rfl) rfl rfl rfl ?_
                refine gi_ldc2 (q := 94) C (dm_Mo_pointBelow 43 rfl) rfl kc_Mo_311 ?_
                refine gi_lcmp (q := 95) C (dm_Mo_pointBelow 44 rfl) rfl ?_
                refine gi_if_lt (q := 98) (tgt := 104) C (dm_Mo_pointBelow 45 rfl) rfl (by decide) (fun c95 => ?_) (fun c95 => ?_)
                · refine gi_lload_n (q := 105) (i := 0) C (dm_Mo_pointBelow 48 rfl) rfl rfl rfl ?_
                  refine gi_ldc2 (q := 108) C (dm_Mo_pointBelow 49 rfl) rfl kc_Mo_382 ?_
                  refine gi_lcmp (q := 109) C (dm_Mo_pointBelow 50 rfl) rfl ?_
                  refine gi_if_lt (q := 112) (tgt := 118) C (dm_Mo_pointBelow 51 rfl) rfl (by decide) (fun c109 => ?_) (fun c109 => ?_)
                  · refine gi_lload_n (q := 119) (i := 0) C (dm_Mo_pointBelow 54 rfl) rfl rfl rfl ?_
                    refine gi_ldc2 (q := 122) C (dm_Mo_pointBelow 55 rfl) rfl kc_Mo_384 ?_
                    refine gi_lcmp (q := 123) C (dm_Mo_pointBelow 56 rfl) rfl ?_
                    refine gi_if_lt (q := 126) (tgt := 132) C (dm_Mo_pointBelow 57 rfl) rfl (by decide) (fun c123 => ?_) (fun c123 => ?_)
                    · refine gi_ldc2 (q := 135) C (dm_Mo_pointBelow 60 rfl) rfl kc_Mo_273 ?_
                      refine gi_lret C hr (dm_Mo_pointBelow 61 rfl) ?_
                      (try simp (disch := omega) only [lg_cmp_ge, lg_cmp_le, lg_cmp_gt, lg_cmp_lt, lg_cmp_eq, eL_0, eL_1, eL_m1, eL_LO, eL_HI, eL_W, eL_add, eL_sub, eL_mul, eL_neg, eL_lt, eL_le, eL_eq, eL_remN, eL_mod0, ne_eq, Int64.not_lt, Int64.not_le, lm2147483648, lm32768, lm128, lm1, l127, l255, l32767, l65535, l2147483647] at c5)
                      (try simp (disch := omega) only [lg_cmp_ge, lg_cmp_le, lg_cmp_gt, lg_cmp_lt, lg_cmp_eq, eL_0, eL_1, eL_m1, eL_LO, eL_HI, eL_W, eL_add, eL_sub, eL_mul, eL_neg, eL_lt, eL_le, eL_eq, eL_remN, eL_mod0, ne_eq, Int64.not_lt, Int64.not_le, lm2147483648, lm32768, lm128, lm1, l127, l255, l32767, l65535, l2147483647] at c19)
                      (try simp (disch := omega) only [lg_cmp_ge, lg_cmp_le, lg_cmp_gt, lg_cmp_lt, lg_cmp_eq, eL_0, eL_1, eL_m1, eL_LO, eL_HI, eL_W, eL_add, eL_sub, eL_mul, eL_neg, eL_lt, eL_le, eL_eq, eL_remN, eL_mod0, ne_eq, Int64.not_lt, Int64.not_le, lm2147483648, lm32768, lm128, lm1, l127, l255, l32767, l65535, l2147483647] at c33)
                      (try simp (disch := omega) only [lg_cmp_ge, lg_cmp_le, lg_cmp_gt, lg_cmp_lt, lg_cmp_eq, eL_0, eL_1, eL_m1, eL_LO, eL_HI, eL_W, eL_add, eL_sub, eL_mul, eL_neg, eL_lt, eL_le, eL_eq, eL_remN, eL_mod0, ne_eq, Int64.not_lt, Int64.not_le, lm2147483648, lm32768, lm128, lm1, l127, l255, l32767, l65535, l2147483647] at c47)
                      (try simp (disch := omega) only [lg_cmp_ge, lg_cmp_le, lg_cmp_gt, lg_cmp_lt, lg_cmp_eq, eL_0, eL_1, eL_m1, eL_LO, eL_HI, eL_W, eL_add, eL_sub, eL_mul, eL_neg, eL_lt, eL_le, eL_eq, eL_remN, eL_mod0, ne_eq, Int64.not_lt, Int64.not_le, lm2147483648, lm32768, lm128, lm1, l127, l255, l32767, l65535, l2147483647] at c61)
                      (try simp (disch := omega) only [lg_cmp_ge, lg_cmp_le, lg_cmp_gt, lg_cmp_lt, lg_cmp_eq, eL_0, eL_1, eL_m1, eL_LO, eL_HI, eL_W, eL_add, eL_sub, eL_mul, eL_neg, eL_lt, eL_le, eL_eq, eL_remN, eL_mod0, ne_eq, Int64.not_lt, Int64.not_le, lm2147483648, lm32768, lm128, lm1, l127, l255, l32767, l65535, l2147483647] at c73)
                      (try simp (disch := omega) only [lg_cmp_ge, lg_cmp_le, lg_cmp_gt, lg_cmp_lt, lg_cmp_eq, eL_0, eL_1, eL_m1, eL_LO, eL_HI, eL_W, eL_add, eL_sub, eL_mul, eL_neg, eL_lt, eL_le, eL_eq, eL_remN, eL_mod0, ne_eq, Int64.not_lt, Int64.not_le, lm2147483648, lm32768, lm128, lm1, l127, l255, l32767, l65535, l2147483647] at c83)
                      (try simp (disch := omega) only [lg_cmp_ge, lg_cmp_le, lg_cmp_gt, lg_cmp_lt, lg_cmp_eq, eL_0, eL_1, eL_m1, eL_LO, eL_HI, eL_W, eL_add, eL_sub, eL_mul, eL_neg, eL_lt, eL_le, eL_eq, eL_remN, eL_mod0, ne_eq, Int64.not_lt, Int64.not_le, lm2147483648, lm32768, lm128, lm1, l127, l255, l32767, l65535, l2147483647] at c95)
                      (try simp (disch := omega) only [lg_cmp_ge, lg_cmp_le, lg_cmp_gt, lg_cmp_lt, lg_cmp_eq, eL_0, eL_1, eL_m1, eL_LO, eL_HI, eL_W, eL_add, eL_sub, eL_mul, eL_neg, eL_lt, eL_le, eL_eq, eL_remN, eL_mod0, ne_eq, Int64.not_lt, Int64.not_le, lm2147483648, lm32768, lm128, lm1, l127, l255, l32767, l65535, l2147483647] at c109)
                      (try simp (disch := omega) only [lg_cmp_ge, lg_cmp_le, lg_cmp_gt, lg_cmp_lt, lg_cmp_eq, eL_0, eL_1, eL_m1, eL_LO, eL_HI, eL_W, eL_add, eL_sub, eL_mul, eL_neg, eL_lt, eL_le, eL_eq, eL_remN, eL_mod0, ne_eq, Int64.not_lt, Int64.not_le, lm2147483648, lm32768, lm128, lm1, l127, l255, l32767, l65535, l2147483647] at c123)
                      refine ⟨?_, rfl, rfl⟩
                      (try rw [lm1])
                      (try simp only [lm2147483648, lm32768, lm128, lm1, l127, l255, l32767, l65535, l2147483647, eL_0, eL_1])
                      unfold ledD
                      (repeat (first | rw [if_pos (by omega)] | rw [if_neg (by omega)]))
                    · refine gi_ldc2 (q := 129) C (dm_Mo_pointBelow 58 rfl) rfl kc_Mo_384 ?_
                      refine gi_goto (tgt := 135) C (dm_Mo_pointBelow 59 rfl) (by decide) ?_
                      refine gi_lret C hr (dm_Mo_pointBelow 61 rfl) ?_
                      (try simp (disch := omega) only [lg_cmp_ge, lg_cmp_le, lg_cmp_gt, lg_cmp_lt, lg_cmp_eq, eL_0, eL_1, eL_m1, eL_LO, eL_HI, eL_W, eL_add, eL_sub, eL_mul, eL_neg, eL_lt, eL_le, eL_eq, eL_remN, eL_mod0, ne_eq, Int64.not_lt, Int64.not_le, lm2147483648, lm32768, lm128, lm1, l127, l255, l32767, l65535, l2147483647] at c5)
                      (try simp (disch := omega) only [lg_cmp_ge, lg_cmp_le, lg_cmp_gt, lg_cmp_lt, lg_cmp_eq, eL_0, eL_1, eL_m1, eL_LO, eL_HI, eL_W, eL_add, eL_sub, eL_mul, eL_neg, eL_lt, eL_le, eL_eq, eL_remN, eL_mod0, ne_eq, Int64.not_lt, Int64.not_le, lm2147483648, lm32768, lm128, lm1, l127, l255, l32767, l65535, l2147483647] at c19)
                      (try simp (disch := omega) only [lg_cmp_ge, lg_cmp_le, lg_cmp_gt, lg_cmp_lt, lg_cmp_eq, eL_0, eL_1, eL_m1, eL_LO, eL_HI, eL_W, eL_add, eL_sub, eL_mul, eL_neg, eL_lt, eL_le, eL_eq, eL_remN, eL_mod0, ne_eq, Int64.not_lt, Int64.not_le, lm2147483648, lm32768, lm128, lm1, l127, l255, l32767, l65535, l2147483647] at c33)
                      (try simp (disch := omega) only [lg_cmp_ge, lg_cmp_le, lg_cmp_gt, lg_cmp_lt, lg_cmp_eq, eL_0, eL_1, eL_m1, eL_LO, eL_HI, eL_W, eL_add, eL_sub, eL_mul, eL_neg, eL_lt, eL_le, eL_eq, eL_remN, eL_mod0, ne_eq, Int64.not_lt, Int64.not_le, lm2147483648, lm32768, lm128, lm1, l127, l255, l32767, l65535, l2147483647] at c47)
                      (try simp (disch := omega) only [lg_cmp_ge, lg_cmp_le, lg_cmp_gt, lg_cmp_lt, lg_cmp_eq, eL_0, eL_1, eL_m1, eL_LO, eL_HI, eL_W, eL_add, eL_sub, eL_mul, eL_neg, eL_lt, eL_le, eL_eq, eL_remN, eL_mod0, ne_eq, Int64.not_lt, Int64.not_le, lm2147483648, lm32768, lm128, lm1, l127, l255, l32767, l65535, l2147483647] at c61)
                      (try simp (disch := omega) only [lg_cmp_ge, lg_cmp_le, lg_cmp_gt, lg_cmp_lt, lg_cmp_eq, eL_0, eL_1, eL_m1, eL_LO, eL_HI, eL_W, eL_add, eL_sub, eL_mul, eL_neg, eL_lt, eL_le, eL_eq, eL_remN, eL_mod0, ne_eq, Int64.not_lt, Int64.not_le, lm2147483648, lm32768, lm128, lm1, l127, l255, l32767, l65535, l2147483647] at c73)
                      (try simp (disch := omega) only [lg_cmp_ge, lg_cmp_le, lg_cmp_gt, lg_cmp_lt, lg_cmp_eq, eL_0, eL_1, eL_m1, eL_LO, eL_HI, eL_W, eL_add, eL_sub, eL_mul, eL_neg, eL_lt, eL_le, eL_eq, eL_remN, eL_mod0, ne_eq, Int64.not_lt, Int64.not_le, lm2147483648, lm32768, lm128, lm1, l127, l255, l32767, l65535, l2147483647] at c83)
                      (try simp (disch := omega) only [lg_cmp_ge, lg_cmp_le, lg_cmp_gt, lg_cmp_lt, lg_cmp_eq, eL_0, eL_1, eL_m1, eL_LO, eL_HI, eL_W, eL_add, eL_sub, eL_mul, eL_neg, eL_lt, eL_le, eL_eq, eL_remN, eL_mod0, ne_eq, Int64.not_lt, Int64.not_le, lm2147483648, lm32768, lm128, lm1, l127, l255, l32767, l65535, l2147483647] at c95)
                      (try simp (disch := omega) only [lg_cmp_ge, lg_cmp_le, lg_cmp_gt, lg_cmp_lt, lg_cmp_eq, eL_0, eL_1, eL_m1, eL_LO, eL_HI, eL_W, eL_add, eL_sub, eL_mul, eL_neg, eL_lt, eL_le, eL_eq, eL_remN, eL_mod0, ne_eq, Int64.not_lt, Int64.not_le, lm2147483648, lm32768, lm128, lm1, l127, l255, l32767, l65535, l2147483647] at c109)
                      (try simp (disch := omega) only [lg_cmp_ge, lg_cmp_le, lg_cmp_gt, lg_cmp_lt, lg_cmp_eq, eL_0, eL_1, eL_m1, eL_LO, eL_HI, eL_W, eL_add, eL_sub, eL_mul, eL_neg, eL_lt, eL_le, eL_eq, eL_remN, eL_mod0, ne_eq, Int64.not_lt, Int64.not_le, lm2147483648, lm32768, lm128, lm1, l127, l255, l32767, l65535, l2147483647] at c123)
                      refine ⟨?_, rfl, rfl⟩
                      (try rw [lm1])
                      (try simp only [lm2147483648, lm32768, lm128, lm1, l127, l255, l32767, l65535, l2147483647, eL_0, eL_1])
                      unfold ledD
                      (repeat (first | rw [if_pos (by omega)] | rw [if_neg (by omega)]))
                  · refine gi_ldc2 (q := 115) C (dm_Mo_pointBelow 52 rfl) rfl kc_Mo_382 ?_
                    refine gi_goto (tgt := 135) C (dm_Mo_pointBelow 53 rfl) (by decide) ?_
                    refine gi_lret C hr (dm_Mo_pointBelow 61 rfl) ?_
                    (try simp (disch := omega) only [lg_cmp_ge, lg_cmp_le, lg_cmp_gt, lg_cmp_lt, lg_cmp_eq, eL_0, eL_1, eL_m1, eL_LO, eL_HI, eL_W, eL_add, eL_sub, eL_mul, eL_neg, eL_lt, eL_le, eL_eq, eL_remN, eL_mod0, ne_eq, Int64.not_lt, Int64.not_le, lm2147483648, lm32768, lm128, lm1, l127, l255, l32767, l65535, l2147483647] at c5)
                    (try simp (disch := omega) only [lg_cmp_ge, lg_cmp_le, lg_cmp_gt, lg_cmp_lt, lg_cmp_eq, eL_0, eL_1, eL_m1, eL_LO, eL_HI, eL_W, eL_add, eL_sub, eL_mul, eL_neg, eL_lt, eL_le, eL_eq, eL_remN, eL_mod0, ne_eq, Int64.not_lt, Int64.not_le, lm2147483648, lm32768, lm128, lm1, l127, l255, l32767, l65535, l2147483647] at c19)
                    (try simp (disch := omega) only [lg_cmp_ge, lg_cmp_le, lg_cmp_gt, lg_cmp_lt, lg_cmp_eq, eL_0, eL_1, eL_m1, eL_LO, eL_HI, eL_W, eL_add, eL_sub, eL_mul, eL_neg, eL_lt, eL_le, eL_eq, eL_remN, eL_mod0, ne_eq, Int64.not_lt, Int64.not_le, lm2147483648, lm32768, lm128, lm1, l127, l255, l32767, l65535, l2147483647] at c33)
                    (try simp (disch := omega) only [lg_cmp_ge, lg_cmp_le, lg_cmp_gt, lg_cmp_lt, lg_cmp_eq, eL_0, eL_1, eL_m1, eL_LO, eL_HI, eL_W, eL_add, eL_sub, eL_mul, eL_neg, eL_lt, eL_le, eL_eq, eL_remN, eL_mod0, ne_eq, Int64.not_lt, Int64.not_le, lm2147483648, lm32768, lm128, lm1, l127, l255, l32767, l65535, l2147483647] at c47)
                    (try simp (disch := omega) only [lg_cmp_ge, lg_cmp_le, lg_cmp_gt, lg_cmp_lt, lg_cmp_eq, eL_0, eL_1, eL_m1, eL_LO, eL_HI, eL_W, eL_add, eL_sub, eL_mul, eL_neg, eL_lt, eL_le, eL_eq, eL_remN, eL_mod0, ne_eq, Int64.not_lt, Int64.not_le, lm2147483648, lm32768, lm128, lm1, l127, l255, l32767, l65535, l2147483647] at c61)
                    (try simp (disch := omega) only [lg_cmp_ge, lg_cmp_le, lg_cmp_gt, lg_cmp_lt, lg_cmp_eq, eL_0, eL_1, eL_m1, eL_LO, eL_HI, eL_W, eL_add, eL_sub, eL_mul, eL_neg, eL_lt, eL_le, eL_eq, eL_remN, eL_mod0, ne_eq, Int64.not_lt, Int64.not_le, lm2147483648, lm32768, lm128, lm1, l127, l255, l32767, l65535, l2147483647] at c73)
                    (try simp (disch := omega) only [lg_cmp_ge, lg_cmp_le, lg_cmp_gt, lg_cmp_lt, lg_cmp_eq, eL_0, eL_1, eL_m1, eL_LO, eL_HI, eL_W, eL_add, eL_sub, eL_mul, eL_neg, eL_lt, eL_le, eL_eq, eL_remN, eL_mod0, ne_eq, Int64.not_lt, Int64.not_le, lm2147483648, lm32768, lm128, lm1, l127, l255, l32767, l65535, l2147483647] at c83)
                    (try simp (disch := omega) only [lg_cmp_ge, lg_cmp_le, lg_cmp_gt, lg_cmp_lt, lg_cmp_eq, eL_0, eL_1, eL_m1, eL_LO, eL_HI, eL_W, eL_add, eL_sub, eL_mul, eL_neg, eL_lt, eL_le, eL_eq, eL_remN, eL_mod0, ne_eq, Int64.not_lt, Int64.not_le, lm2147483648, lm32768, lm128, lm1, l127, l255, l32767, l65535, l2147483647] at c95)
                    (try simp (disch := omega) only [lg_cmp_ge, lg_cmp_le, lg_cmp_gt, lg_cmp_lt, lg_cmp_eq, eL_0, eL_1, eL_m1, eL_LO, eL_HI, eL_W, eL_add, eL_sub, eL_mul, eL_neg, eL_lt, eL_le, eL_eq, eL_remN, eL_mod0, ne_eq, Int64.not_lt, Int64.not_le, lm2147483648, lm32768, lm128, lm1, l127, l255, l32767, l65535, l2147483647] at c109)
                    refine ⟨?_, rfl, rfl⟩
                    (try rw [lm1])
                    (try simp only [lm2147483648, lm32768, lm128, lm1, l127, l255, l32767, l65535, l2147483647, eL_0, eL_1])
                    unfold ledD
                    (repeat (first | rw [if_pos (by omega)] | rw [if_neg (by omega)]))
                · refine gi_ldc2 (q := 101) C (dm_Mo_pointBelow 46 rfl) rfl kc_Mo_311 ?_
                  refine gi_goto (tgt := 135) C (dm_Mo_pointBelow 47 rfl) (by decide) ?_
                  refine gi_lret C hr (dm_Mo_pointBelow 61 rfl) ?_
                  (try simp (disch := omega) only [lg_cmp_ge, lg_cmp_le, lg_cmp_gt, lg_cmp_lt, lg_cmp_eq, eL_0, eL_1, eL_m1, eL_LO, eL_HI, eL_W, eL_add, eL_sub, eL_mul, eL_neg, eL_lt, eL_le, eL_eq, eL_remN, eL_mod0, ne_eq, Int64.not_lt, Int64.not_le, lm2147483648, lm32768, lm128, lm1, l127, l255, l32767, l65535, l2147483647] at c5)
                  (try simp (disch := omega) only [lg_cmp_ge, lg_cmp_le, lg_cmp_gt, lg_cmp_lt, lg_cmp_eq, eL_0, eL_1, eL_m1, eL_LO, eL_HI, eL_W, eL_add, eL_sub, eL_mul, eL_neg, eL_lt, eL_le, eL_eq, eL_remN, eL_mod0, ne_eq, Int64.not_lt, Int64.not_le, lm2147483648, lm32768, lm128, lm1, l127, l255, l32767, l65535, l2147483647] at c19)
                  (try simp (disch := omega) only [lg_cmp_ge, lg_cmp_le, lg_cmp_gt, lg_cmp_lt, lg_cmp_eq, eL_0, eL_1, eL_m1, eL_LO, eL_HI, eL_W, eL_add, eL_sub, eL_mul, eL_neg, eL_lt, eL_le, eL_eq, eL_remN, eL_mod0, ne_eq, Int64.not_lt, Int64.not_le, lm2147483648, lm32768, lm128, lm1, l127, l255, l32767, l65535, l2147483647] at c33)
                  (try simp (disch := omega) only [lg_cmp_ge, lg_cmp_le, lg_cmp_gt, lg_cmp_lt, lg_cmp_eq, eL_0, eL_1, eL_m1, eL_LO, eL_HI, eL_W, eL_add, eL_sub, eL_mul, eL_neg, eL_lt, eL_le, eL_eq, eL_remN, eL_mod0, ne_eq, Int64.not_lt, Int64.not_le, lm2147483648, lm32768, lm128, lm1, l127, l255, l32767, l65535, l2147483647] at c47)
                  (try simp (disch := omega) only [lg_cmp_ge, lg_cmp_le, lg_cmp_gt, lg_cmp_lt, lg_cmp_eq, eL_0, eL_1, eL_m1, eL_LO, eL_HI, eL_W, eL_add, eL_sub, eL_mul, eL_neg, eL_lt, eL_le, eL_eq, eL_remN, eL_mod0, ne_eq, Int64.not_lt, Int64.not_le, lm2147483648, lm32768, lm128, lm1, l127, l255, l32767, l65535, l2147483647] at c61)
                  (try simp (disch := omega) only [lg_cmp_ge, lg_cmp_le, lg_cmp_gt, lg_cmp_lt, lg_cmp_eq, eL_0, eL_1, eL_m1, eL_LO, eL_HI, eL_W, eL_add, eL_sub, eL_mul, eL_neg, eL_lt, eL_le, eL_eq, eL_remN, eL_mod0, ne_eq, Int64.not_lt, Int64.not_le, lm2147483648, lm32768, lm128, lm1, l127, l255, l32767, l65535, l2147483647] at c73)
                  (try simp (disch := omega) only [lg_cmp_ge, lg_cmp_le, lg_cmp_gt, lg_cmp_lt, lg_cmp_eq, eL_0, eL_1, eL_m1, eL_LO, eL_HI, eL_W, eL_add, eL_sub, eL_mul, eL_neg, eL_lt, eL_le, eL_eq, eL_remN, eL_mod0, ne_eq, Int64.not_lt, Int64.not_le, lm2147483648, lm32768, lm128, lm1, l127, l255, l32767, l65535, l2147483647] at c83)
                  (try simp (disch := omega) only [lg_cmp_ge, lg_cmp_le, lg_cmp_gt, lg_cmp_lt, lg_cmp_eq, eL_0, eL_1, eL_m1, eL_LO, eL_HI, eL_W, eL_add, eL_sub, eL_mul, eL_neg, eL_lt, eL_le, eL_eq, eL_remN, eL_mod0, ne_eq, Int64.not_lt, Int64.not_le, lm2147483648, lm32768, lm128, lm1, l127, l255, l32767, l65535, l2147483647] at c95)
                  refine ⟨?_, rfl, rfl⟩
                  (try rw [lm1])
                  (try simp only [lm2147483648, lm32768, lm128, lm1, l127, l255, l32767, l65535, l2147483647, eL_0, eL_1])
                  unfold ledD
                  (repeat (first | rw [if_pos (by omega)] | rw [if_neg (by omega)]))
              · refine gi_lconst (q := 87) (v := 0) C (dm_Mo_pointBelow 40 rfl) rfl (by decide) ?_
                refine gi_goto (tgt := 135) C (dm_Mo_pointBelow 41 rfl) (by decide) ?_
                refine gi_lret C hr (dm_Mo_pointBelow 61 rfl) ?_
                (try simp (disch := omega) only [lg_cmp_ge, lg_cmp_le, lg_cmp_gt, lg_cmp_lt, lg_cmp_eq, eL_0, eL_1, eL_m1, eL_LO, eL_HI, eL_W, eL_add, eL_sub, eL_mul, eL_neg, eL_lt, eL_le, eL_eq, eL_remN, eL_mod0, ne_eq, Int64.not_lt, Int64.not_le, lm2147483648, lm32768, lm128, lm1, l127, l255, l32767, l65535, l2147483647] at c5)
                (try simp (disch := omega) only [lg_cmp_ge, lg_cmp_le, lg_cmp_gt, lg_cmp_lt, lg_cmp_eq, eL_0, eL_1, eL_m1, eL_LO, eL_HI, eL_W, eL_add, eL_sub, eL_mul, eL_neg, eL_lt, eL_le, eL_eq, eL_remN, eL_mod0, ne_eq, Int64.not_lt, Int64.not_le, lm2147483648, lm32768, lm128, lm1, l127, l255, l32767, l65535, l2147483647] at c19)
                (try simp (disch := omega) only [lg_cmp_ge, lg_cmp_le, lg_cmp_gt, lg_cmp_lt, lg_cmp_eq, eL_0, eL_1, eL_m1, eL_LO, eL_HI, eL_W, eL_add, eL_sub, eL_mul, eL_neg, eL_lt, eL_le, eL_eq, eL_remN, eL_mod0, ne_eq, Int64.not_lt, Int64.not_le, lm2147483648, lm32768, lm128, lm1, l127, l255, l32767, l65535, l2147483647] at c33)
                (try simp (disch := omega) only [lg_cmp_ge, lg_cmp_le, lg_cmp_gt, lg_cmp_lt, lg_cmp_eq, eL_0, eL_1, eL_m1, eL_LO, eL_HI, eL_W, eL_add, eL_sub, eL_mul, eL_neg, eL_lt, eL_le, eL_eq, eL_remN, eL_mod0, ne_eq, Int64.not_lt, Int64.not_le, lm2147483648, lm32768, lm128, lm1, l127, l255, l32767, l65535, l2147483647] at c47)
                (try simp (disch := omega) only [lg_cmp_ge, lg_cmp_le, lg_cmp_gt, lg_cmp_lt, lg_cmp_eq, eL_0, eL_1, eL_m1, eL_LO, eL_HI, eL_W, eL_add, eL_sub, eL_mul, eL_neg, eL_lt, eL_le, eL_eq, eL_remN, eL_mod0, ne_eq, Int64.not_lt, Int64.not_le, lm2147483648, lm32768, lm128, lm1, l127, l255, l32767, l65535, l2147483647] at c61)
                (try simp (disch := omega) only [lg_cmp_ge, lg_cmp_le, lg_cmp_gt, lg_cmp_lt, lg_cmp_eq, eL_0, eL_1, eL_m1, eL_LO, eL_HI, eL_W, eL_add, eL_sub, eL_mul, eL_neg, eL_lt, eL_le, eL_eq, eL_remN, eL_mod0, ne_eq, Int64.not_lt, Int64.not_le, lm2147483648, lm32768, lm128, lm1, l127, l255, l32767, l65535, l2147483647] at c73)
                (try simp (disch := omega) only [lg_cmp_ge, lg_cmp_le, lg_cmp_gt, lg_cmp_lt, lg_cmp_eq, eL_0, eL_1, eL_m1, eL_LO, eL_HI, eL_W, eL_add, eL_sub, eL_mul, eL_neg, eL_lt, eL_le, eL_eq, eL_remN, eL_mod0, ne_eq, Int64.not_lt, Int64.not_le, lm2147483648, lm32768, lm128, lm1, l127, l255, l32767, l65535, l2147483647] at c83)
                refine ⟨?_, rfl, rfl⟩
                (try rw [lm1])
                (try simp only [lm2147483648, lm32768, lm128, lm1, l127, l255, l32767, l65535, l2147483647, eL_0, eL_1])
                unfold ledD
                (repeat (first | rw [if_pos (by omega)] | rw [if_neg (by omega)]))
            · refine gi_lconst (q := 77) (v := 1) C (dm_Mo_pointBelow 34 rfl) rfl (by decide) ?_
              refine gi_goto (tgt := 135) C (dm_Mo_pointBelow 35 rfl) (by decide) ?_
              refine gi_lret C hr (dm_Mo_pointBelow 61 rfl) ?_
              (try simp (disch := omega) only [lg_cmp_ge, lg_cmp_le, lg_cmp_gt, lg_cmp_lt, lg_cmp_eq, eL_0, eL_1, eL_m1, eL_LO, eL_HI, eL_W, eL_add, eL_sub, eL_mul, eL_neg, eL_lt, eL_le, eL_eq, eL_remN, eL_mod0, ne_eq, Int64.not_lt, Int64.not_le, lm2147483648, lm32768, lm128, lm1, l127, l255, l32767, l65535, l2147483647] at c5)
              (try simp (disch := omega) only [lg_cmp_ge, lg_cmp_le, lg_cmp_gt, lg_cmp_lt, lg_cmp_eq, eL_0, eL_1, eL_m1, eL_LO, eL_HI, eL_W, eL_add, eL_sub, eL_mul, eL_neg, eL_lt, eL_le, eL_eq, eL_remN, eL_mod0, ne_eq, Int64.not_lt, Int64.not_le, lm2147483648, lm32768, lm128, lm1, l127, l255, l32767, l65535, l2147483647] at c19)
              (try simp (disch := omega) only [lg_cmp_ge, lg_cmp_le, lg_cmp_gt, lg_cmp_lt, lg_cmp_eq, eL_0, eL_1, eL_m1, eL_LO, eL_HI, eL_W, eL_add, eL_sub, eL_mul, eL_neg, eL_lt, eL_le, eL_eq, eL_remN, eL_mod0, ne_eq, Int64.not_lt, Int64.not_le, lm2147483648, lm32768, lm128, lm1, l127, l255, l32767, l65535, l2147483647] at c33)
              (try simp (disch := omega) only [lg_cmp_ge, lg_cmp_le, lg_cmp_gt, lg_cmp_lt, lg_cmp_eq, eL_0, eL_1, eL_m1, eL_LO, eL_HI, eL_W, eL_add, eL_sub, eL_mul, eL_neg, eL_lt, eL_le, eL_eq, eL_remN, eL_mod0, ne_eq, Int64.not_lt, Int64.not_le, lm2147483648, lm32768, lm128, lm1, l127, l255, l32767, l65535, l2147483647] at c47)
              (try simp (disch := omega) only [lg_cmp_ge, lg_cmp_le, lg_cmp_gt, lg_cmp_lt, lg_cmp_eq, eL_0, eL_1, eL_m1, eL_LO, eL_HI, eL_W, eL_add, eL_sub, eL_mul, eL_neg, eL_lt, eL_le, eL_eq, eL_remN, eL_mod0, ne_eq, Int64.not_lt, Int64.not_le, lm2147483648, lm32768, lm128, lm1, l127, l255, l32767, l65535, l2147483647] at c61)
              (try simp (disch := omega) only [lg_cmp_ge, lg_cmp_le, lg_cmp_gt, lg_cmp_lt, lg_cmp_eq, eL_0, eL_1, eL_m1, eL_LO, eL_HI, eL_W, eL_add, eL_sub, eL_mul, eL_neg, eL_lt, eL_le, eL_eq, eL_remN, eL_mod0, ne_eq, Int64.not_lt, Int64.not_le, lm2147483648, lm32768, lm128, lm1, l127, l255, l32767, l65535, l2147483647] at c73)
              refine ⟨?_, rfl, rfl⟩
              (try rw [lm1])
              (try simp only [lm2147483648, lm32768, lm128, lm1, l127, l255, l32767, l65535, l2147483647, eL_0, eL_1])
              unfold ledD
              (repeat (first | rw [if_pos (by omega)] | rw [if_neg (by omega)]))
          · refine gi_ldc2 (q := 67) C (dm_Mo_pointBelow 28 rfl) rfl kc_Mo_380 ?_
            refine gi_goto (tgt := 135) C (dm_Mo_pointBelow 29 rfl) (by decide) ?_
            refine gi_lret C hr (dm_Mo_pointBelow 61 rfl) ?_
            (try simp (disch := omega) only [lg_cmp_ge, lg_cmp_le, lg_cmp_gt, lg_cmp_lt, lg_cmp_eq, eL_0, eL_1, eL_m1, eL_LO, eL_HI, eL_W, eL_add, eL_sub, eL_mul, eL_neg, eL_lt, eL_le, eL_eq, eL_remN, eL_mod0, ne_eq, Int64.not_lt, Int64.not_le, lm2147483648, lm32768, lm128, lm1, l127, l255, l32767, l65535, l2147483647] at c5)
            (try simp (disch := omega) only [lg_cmp_ge, lg_cmp_le, lg_cmp_gt, lg_cmp_lt, lg_cmp_eq, eL_0, eL_1, eL_m1, eL_LO, eL_HI, eL_W, eL_add, eL_sub, eL_mul, eL_neg, eL_lt, eL_le, eL_eq, eL_remN, eL_mod0, ne_eq, Int64.not_lt, Int64.not_le, lm2147483648, lm32768, lm128, lm1, l127, l255, l32767, l65535, l2147483647] at c19)
            (try simp (disch := omega) only [lg_cmp_ge, lg_cmp_le, lg_cmp_gt, lg_cmp_lt, lg_cmp_eq, eL_0, eL_1, eL_m1, eL_LO, eL_HI, eL_W, eL_add, eL_sub, eL_mul, eL_neg, eL_lt, eL_le, eL_eq, eL_remN, eL_mod0, ne_eq, Int64.not_lt, Int64.not_le, lm2147483648, lm32768, lm128, lm1, l127, l255, l32767, l65535, l2147483647] at c33)
            (try simp (disch := omega) only [lg_cmp_ge, lg_cmp_le, lg_cmp_gt, lg_cmp_lt, lg_cmp_eq, eL_0, eL_1, eL_m1, eL_LO, eL_HI, eL_W, eL_add, eL_sub, eL_mul, eL_neg, eL_lt, eL_le, eL_eq, eL_remN, eL_mod0, ne_eq, Int64.not_lt, Int64.not_le, lm2147483648, lm32768, lm128, lm1, l127, l255, l32767, l65535, l2147483647] at c47)
            (try simp (disch := omega) only [lg_cmp_ge, lg_cmp_le, lg_cmp_gt, lg_cmp_lt, lg_cmp_eq, eL_0, eL_1, eL_m1, eL_LO, eL_HI, eL_W, eL_add, eL_sub, eL_mul, eL_neg, eL_lt, eL_le, eL_eq, eL_remN, eL_mod0, ne_eq, Int64.not_lt, Int64.not_le, lm2147483648, lm32768, lm128, lm1, l127, l255, l32767, l65535, l2147483647] at c61)
            refine ⟨?_, rfl, rfl⟩
            (try rw [lm1])
            (try simp only [lm2147483648, lm32768, lm128, lm1, l127, l255, l32767, l65535, l2147483647, eL_0, eL_1])
            unfold ledD
            (repeat (first | rw [if_pos (by omega)] | rw [if_neg (by omega)]))
        · refine gi_ldc2 (q := 53) C (dm_Mo_pointBelow 22 rfl) rfl kc_Mo_378 ?_
          refine gi_goto (tgt := 135) C (dm_Mo_pointBelow 23 rfl) (by decide) ?_
          refine gi_lret C hr (dm_Mo_pointBelow 61 rfl) ?_
          (try simp (disch := omega) only [lg_cmp_ge, lg_cmp_le, lg_cmp_gt, lg_cmp_lt, lg_cmp_eq, eL_0, eL_1, eL_m1, eL_LO, eL_HI, eL_W, eL_add, eL_sub, eL_mul, eL_neg, eL_lt, eL_le, eL_eq, eL_remN, eL_mod0, ne_eq, Int64.not_lt, Int64.not_le, lm2147483648, lm32768, lm128, lm1, l127, l255, l32767, l65535, l2147483647] at c5)
          (try simp (disch := omega) only [lg_cmp_ge, lg_cmp_le, lg_cmp_gt, lg_cmp_lt, lg_cmp_eq, eL_0, eL_1, eL_m1, eL_LO, eL_HI, eL_W, eL_add, eL_sub, eL_mul, eL_neg, eL_lt, eL_le, eL_eq, eL_remN, eL_mod0, ne_eq, Int64.not_lt, Int64.not_le, lm2147483648, lm32768, lm128, lm1, l127, l255, l32767, l65535, l2147483647] at c19)
          (try simp (disch := omega) only [lg_cmp_ge, lg_cmp_le, lg_cmp_gt, lg_cmp_lt, lg_cmp_eq, eL_0, eL_1, eL_m1, eL_LO, eL_HI, eL_W, eL_add, eL_sub, eL_mul, eL_neg, eL_lt, eL_le, eL_eq, eL_remN, eL_mod0, ne_eq, Int64.not_lt, Int64.not_le, lm2147483648, lm32768, lm128, lm1, l127, l255, l32767, l65535, l2147483647] at c33)
          (try simp (disch := omega) only [lg_cmp_ge, lg_cmp_le, lg_cmp_gt, lg_cmp_lt, lg_cmp_eq, eL_0, eL_1, eL_m1, eL_LO, eL_HI, eL_W, eL_add, eL_sub, eL_mul, eL_neg, eL_lt, eL_le, eL_eq, eL_remN, eL_mod0, ne_eq, Int64.not_lt, Int64.not_le, lm2147483648, lm32768, lm128, lm1, l127, l255, l32767, l65535, l2147483647] at c47)
          refine ⟨?_, rfl, rfl⟩
          (try rw [lm1])
          (try simp only [lm2147483648, lm32768, lm128, lm1, l127, l255, l32767, l65535, l2147483647, eL_0, eL_1])
          unfold ledD
          (repeat (first | rw [if_pos (by omega)] | rw [if_neg (by omega)]))
      · refine gi_ldc2 (q := 39) C (dm_Mo_pointBelow 16 rfl) rfl kc_Mo_376 ?_
        refine gi_goto (tgt := 135) C (dm_Mo_pointBelow 17 rfl) (by decide) ?_
        refine gi_lret C hr (dm_Mo_pointBelow 61 rfl) ?_
        (try simp (disch := omega) only [lg_cmp_ge, lg_cmp_le, lg_cmp_gt, lg_cmp_lt, lg_cmp_eq, eL_0, eL_1, eL_m1, eL_LO, eL_HI, eL_W, eL_add, eL_sub, eL_mul, eL_neg, eL_lt, eL_le, eL_eq, eL_remN, eL_mod0, ne_eq, Int64.not_lt, Int64.not_le, lm2147483648, lm32768, lm128, lm1, l127, l255, l32767, l65535, l2147483647] at c5)
        (try simp (disch := omega) only [lg_cmp_ge, lg_cmp_le, lg_cmp_gt, lg_cmp_lt, lg_cmp_eq, eL_0, eL_1, eL_m1, eL_LO, eL_HI, eL_W, eL_add, eL_sub, eL_mul, eL_neg, eL_lt, eL_le, eL_eq, eL_remN, eL_mod0, ne_eq, Int64.not_lt, Int64.not_le, lm2147483648, lm32768, lm128, lm1, l127, l255, l32767, l65535, l2147483647] at c19)
        (try simp (disch := omega) only [lg_cmp_ge, lg_cmp_le, lg_cmp_gt, lg_cmp_lt, lg_cmp_eq, eL_0, eL_1, eL_m1, eL_LO, eL_HI, eL_W, eL_add, eL_sub, eL_mul, eL_neg, eL_lt, eL_le, eL_eq, eL_remN, eL_mod0, ne_eq, Int64.not_lt, Int64.not_le, lm2147483648, lm32768, lm128, lm1, l127, l255, l32767, l65535, l2147483647] at c33)
        refine ⟨?_, rfl, rfl⟩
        (try rw [lm1])
        (try simp only [lm2147483648, lm32768, lm128, lm1, l127, l255, l32767, l65535, l2147483647, eL_0, eL_1])
        unfold ledD
        (repeat (first | rw [if_pos (by omega)] | rw [if_neg (by omega)]))
    · refine gi_ldc2 (q := 25) C (dm_Mo_pointBelow 10 rfl) rfl kc_Mo_374 ?_
      refine gi_goto (tgt := 135) C (dm_Mo_pointBelow 11 rfl) (by decide) ?_
      refine gi_lret C hr (dm_Mo_pointBelow 61 rfl) ?_
      (try simp (disch := omega) only [lg_cmp_ge, lg_cmp_le, lg_cmp_gt, lg_cmp_lt, lg_cmp_eq, eL_0, eL_1, eL_m1, eL_LO, eL_HI, eL_W, eL_add, eL_sub, eL_mul, eL_neg, eL_lt, eL_le, eL_eq, eL_remN, eL_mod0, ne_eq, Int64.not_lt, Int64.not_le, lm2147483648, lm32768, lm128, lm1, l127, l255, l32767, l65535, l2147483647] at c5)
      (try simp (disch := omega) only [lg_cmp_ge, lg_cmp_le, lg_cmp_gt, lg_cmp_lt, lg_cmp_eq, eL_0, eL_1, eL_m1, eL_LO, eL_HI, eL_W, eL_add, eL_sub, eL_mul, eL_neg, eL_lt, eL_le, eL_eq, eL_remN, eL_mod0, ne_eq, Int64.not_lt, Int64.not_le, lm2147483648, lm32768, lm128, lm1, l127, l255, l32767, l65535, l2147483647] at c19)
      refine ⟨?_, rfl, rfl⟩
      (try rw [lm1])
      (try simp only [lm2147483648, lm32768, lm128, lm1, l127, l255, l32767, l65535, l2147483647, eL_0, eL_1])
      unfold ledD
      (repeat (first | rw [if_pos (by omega)] | rw [if_neg (by omega)]))
  · refine gi_ldc2 (q := 11) C (dm_Mo_pointBelow 4 rfl) rfl kc_Mo_280 ?_
    refine gi_goto (tgt := 135) C (dm_Mo_pointBelow 5 rfl) (by decide) ?_
    refine gi_lret C hr (dm_Mo_pointBelow 61 rfl) ?_
    (try simp (disch := omega) only [lg_cmp_ge, lg_cmp_le, lg_cmp_gt, lg_cmp_lt, lg_cmp_eq, eL_0, eL_1, eL_m1, eL_LO, eL_HI, eL_W, eL_add, eL_sub, eL_mul, eL_neg, eL_lt, eL_le, eL_eq, eL_remN, eL_mod0, ne_eq, Int64.not_lt, Int64.not_le, lm2147483648, lm32768, lm128, lm1, l127, l255, l32767, l65535, l2147483647] at c5)
    refine ⟨?_, rfl, rfl⟩
    (try rw [lm1])
    (try simp only [lm2147483648, lm32768, lm128, lm1, l127, l255, l32767, l65535, l2147483647, eL_0, eL_1])
    unfold ledD
    (repeat (first | rw [if_pos (by omega)] | rw [if_neg (by omega)]))
set_option maxHeartbeats 4000000 in
set_option maxRecDepth 100000 in
theorem c_Mo_pointAbove (v : Int) (v1 : -4294967296 ≤ v) (v2 : v ≤ 4294967296) : gi_T l V y_Mo_pointAbove b_Mo_pointAbove 2 (some .long) 0 0 0 0 [.long (eL v)] n h (gi_is (some (.long (eL (ledU v)))) n h) := by
  refine gi_enter (by decide) (Nat.le_of_ble_eq_true rfl) ?_
  intro _ _ _ _ _ _ _ _ C hr hnm
  have lm2147483648 : ((-2147483648) : Int64) = eL (-2147483648) := by decide
  have lm32768 : ((-32768) : Int64) = eL (-32768) := by decide
  have lm128 : ((-128) : Int64) = eL (-128) := by decide
  have lm1 : ((-1) : Int64) = eL (-1) := by decide
  have l127 : (127 : Int64) = eL (127) := by decide
  have l255 : (255 : Int64) = eL (255) := by decide
  have l32767 : (32767 : Int64) = eL (32767) := by decide
  have l65535 : (65535 : Int64) = eL (65535) := by decide
  have l2147483647 : (2147483647 : Int64) = eL (2147483647) := by decide
  refine gi_lload_n (q := 1) (i := 0) C (dm_Mo_pointAbove 0 rfl) rfl rfl rfl ?_
  refine gi_ldc2 (q := 4) C (dm_Mo_pointAbove 1 rfl) rfl kc_Mo_273 ?_
  refine gi_lcmp (q := 5) C (dm_Mo_pointAbove 2 rfl) rfl ?_
  refine gi_if_gt (q := 8) (tgt := 14) C (dm_Mo_pointAbove 3 rfl) rfl (by decide) (fun c5 => ?_) (fun c5 => ?_)
  · refine gi_lload_n (q := 15) (i := 0) C (dm_Mo_pointAbove 6 rfl) rfl rfl rfl ?_
    refine gi_ldc2 (q := 18) C (dm_Mo_pointAbove 7 rfl) rfl kc_Mo_384 ?_
    refine gi_lcmp (q := 19) C (dm_Mo_pointAbove 8 rfl) rfl ?_
    refine gi_if_gt (q := 22) (tgt := 28) C (dm_Mo_pointAbove 9 rfl) rfl (by decide) (fun c19 => ?_) (fun c19 => ?_)
    · refine gi_lload_n (q := 29) (i := 0) C (dm_Mo_pointAbove 12 rfl) rfl rfl rfl ?_
      refine gi_ldc2 (q := 32) C (dm_Mo_pointAbove 13 rfl) rfl kc_Mo_382 ?_
      refine gi_lcmp (q := 33) C (dm_Mo_pointAbove 14 rfl) rfl ?_
      refine gi_if_gt (q := 36) (tgt := 42) C (dm_Mo_pointAbove 15 rfl) rfl (by decide) (fun c33 => ?_) (fun c33 => ?_)
      · refine gi_lload_n (q := 43) (i := 0) C (dm_Mo_pointAbove 18 rfl) rfl rfl rfl ?_
        refine gi_ldc2 (q := 46) C (dm_Mo_pointAbove 19 rfl) rfl kc_Mo_311 ?_
        refine gi_lcmp (q := 47) C (dm_Mo_pointAbove 20 rfl) rfl ?_
        refine gi_if_gt (q := 50) (tgt := 56) C (dm_Mo_pointAbove 21 rfl) rfl (by decide) (fun c47 => ?_) (fun c47 => ?_)
        · refine gi_lload_n (q := 57) (i := 0) C (dm_Mo_pointAbove 24 rfl) rfl rfl rfl ?_
          refine gi_lconst (q := 58) (v := 0) C (dm_Mo_pointAbove 25 rfl) rfl (by decide) ?_
          refine gi_lcmp (q := 59) C (dm_Mo_pointAbove 26 rfl) rfl ?_
          refine gi_if_gt (q := 62) (tgt := 66) C (dm_Mo_pointAbove 27 rfl) rfl (by decide) (fun c59 => ?_) (fun c59 => ?_)
          · refine gi_lload_n (q := 67) (i := 0) C (dm_Mo_pointAbove 30 rfl) rfl rfl rfl ?_
            refine gi_lconst (q := 68) (v := 1) C (dm_Mo_pointAbove 31 rfl) rfl (by decide) ?_
            refine gi_lcmp (q := 69) C (dm_Mo_pointAbove 32 rfl) rfl ?_
            refine gi_if_gt (q := 72) (tgt := 76) C (dm_Mo_pointAbove 33 rfl) rfl (by decide) (fun c69 => ?_) (fun c69 => ?_)
            · refine gi_lload_n (q := 77) (i := 0) C (dm_Mo_pointAbove 36 rfl) rfl rfl rfl ?_
              refine gi_ldc2 (q := 80) C (dm_Mo_pointAbove 37 rfl) rfl kc_Mo_380 ?_
              refine gi_lcmp (q := 81) C (dm_Mo_pointAbove 38 rfl) rfl ?_
              refine gi_if_gt (q := 84) (tgt := 90) C (dm_Mo_pointAbove 39 rfl) rfl (by decide) (fun c81 => ?_) (fun c81 => ?_)
              · refine gi_lload_n (q := 91) (i := 0) C (dm_Mo_pointAbove 42 rfl) rfl rfl rfl ?_
                refine gi_ldc2 (q := 94) C (dm_Mo_pointAbove 43 rfl) rfl kc_Mo_378 ?_
                refine gi_lcmp (q := 95) C (dm_Mo_pointAbove 44 rfl) rfl ?_
                refine gi_if_gt (q := 98) (tgt := 104) C (dm_Mo_pointAbove 45 rfl) rfl (by decide) (fun c95 => ?_) (fun c95 => ?_)
                · refine gi_lload_n (q := 105) (i := 0) C (dm_Mo_pointAbove 48 rfl) rfl rfl rfl ?_
                  refine gi_ldc2 (q := 108) C (dm_Mo_pointAbove 49 rfl) rfl kc_Mo_376 ?_
                  refine gi_lcmp (q := 109) C (dm_Mo_pointAbove 50 rfl) rfl ?_
                  refine gi_if_gt (q := 112) (tgt := 118) C (dm_Mo_pointAbove 51 rfl) rfl (by decide) (fun c109 => ?_) (fun c109 => ?_)
                  · refine gi_lload_n (q := 119) (i := 0) C (dm_Mo_pointAbove 54 rfl) rfl rfl rfl ?_
                    refine gi_ldc2 (q := 122) C (dm_Mo_pointAbove 55 rfl) rfl kc_Mo_374 ?_
                    refine gi_lcmp (q := 123) C (dm_Mo_pointAbove 56 rfl) rfl ?_
                    refine gi_if_gt (q := 126) (tgt := 132) C (dm_Mo_pointAbove 57 rfl) rfl (by decide) (fun c123 => ?_) (fun c123 => ?_)
                    · refine gi_ldc2 (q := 135) C (dm_Mo_pointAbove 60 rfl) rfl kc_Mo_280 ?_
                      refine gi_lret C hr (dm_Mo_pointAbove 61 rfl) ?_
                      (try simp (disch := omega) only [lg_cmp_ge, lg_cmp_le, lg_cmp_gt, lg_cmp_lt, lg_cmp_eq, eL_0, eL_1, eL_m1, eL_LO, eL_HI, eL_W, eL_add, eL_sub, eL_mul, eL_neg, eL_lt, eL_le, eL_eq, eL_remN, eL_mod0, ne_eq, Int64.not_lt, Int64.not_le, lm2147483648, lm32768, lm128, lm1, l127, l255, l32767, l65535, l2147483647] at c5)
                      (try simp (disch := omega) only [lg_cmp_ge, lg_cmp_le, lg_cmp_gt, lg_cmp_lt, lg_cmp_eq, eL_0, eL_1, eL_m1, eL_LO, eL_HI, eL_W, eL_add, eL_sub, eL_mul, eL_neg, eL_lt, eL_le, eL_eq, eL_remN, eL_mod0, ne_eq, Int64.not_lt, Int64.not_le, lm2147483648, lm32768, lm128, lm1, l127, l255, l32767, l65535, l2147483647] at c19)
                      (try simp (disch := omega) only [lg_cmp_ge, lg_cmp_le, lg_cmp_gt, lg_cmp_lt, lg_cmp_eq, eL_0, eL_1, eL_m1, eL_LO, eL_HI, eL_W, eL_add, eL_sub, eL_mul, eL_neg, eL_lt, eL_le, eL_eq, eL_remN, eL_mod0, ne_eq, Int64.not_lt, Int64.not_le, lm2147483648, lm32768, lm128, lm1, l127, l255, l32767, l65535, l2147483647] at c33)
                      (try simp (disch := omega) only [lg_cmp_ge, lg_cmp_le, lg_cmp_gt, lg_cmp_lt, lg_cmp_eq, eL_0, eL_1, eL_m1, eL_LO, eL_HI, eL_W, eL_add, eL_sub, eL_mul, eL_neg, eL_lt, eL_le, eL_eq, eL_remN, eL_mod0, ne_eq, Int64.not_lt, Int64.not_le, lm2147483648, lm32768, lm128, lm1, l127, l255, l32767, l65535, l2147483647] at c47)
                      (try simp (disch := omega) only [lg_cmp_ge, lg_cmp_le, lg_cmp_gt, lg_cmp_lt, lg_cmp_eq, eL_0, eL_1, eL_m1, eL_LO, eL_HI, eL_W, eL_add, eL_sub, eL_mul, eL_neg, eL_lt, eL_le, eL_eq, eL_remN, eL_mod0, ne_eq, Int64.not_lt, Int64.not_le, lm2147483648, lm32768, lm128, lm1, l127, l255, l32767, l65535, l2147483647] at c59)
                      (try simp (disch := omega) only [lg_cmp_ge, lg_cmp_le, lg_cmp_gt, lg_cmp_lt, lg_cmp_eq, eL_0, eL_1, eL_m1, eL_LO, eL_HI, eL_W, eL_add, eL_sub, eL_mul, eL_neg, eL_lt, eL_le, eL_eq, eL_remN, eL_mod0, ne_eq, Int64.not_lt, Int64.not_le, lm2147483648, lm32768, lm128, lm1, l127, l255, l32767, l65535, l2147483647] at c69)
                      (try simp (disch := omega) only [lg_cmp_ge, lg_cmp_le, lg_cmp_gt, lg_cmp_lt, lg_cmp_eq, eL_0, eL_1, eL_m1, eL_LO, eL_HI, eL_W, eL_add, eL_sub, eL_mul, eL_neg, eL_lt, eL_le, eL_eq, eL_remN, eL_mod0, ne_eq, Int64.not_lt, Int64.not_le, lm2147483648, lm32768, lm128, lm1, l127, l255, l32767, l65535, l2147483647] at c81)
                      (try simp (disch := omega) only [lg_cmp_ge, lg_cmp_le, lg_cmp_gt, lg_cmp_lt, lg_cmp_eq, eL_0, eL_1, eL_m1, eL_LO, eL_HI, eL_W, eL_add, eL_sub, eL_mul, eL_neg, eL_lt, eL_le, eL_eq, eL_remN, eL_mod0, ne_eq, Int64.not_lt, Int64.not_le, lm2147483648, lm32768, lm128, lm1, l127, l255, l32767, l65535, l2147483647] at c95)
                      (try simp (disch := omega) only [lg_cmp_ge, lg_cmp_le, lg_cmp_gt, lg_cmp_lt, lg_cmp_eq, eL_0, eL_1, eL_m1, eL_LO, eL_HI, eL_W, eL_add, eL_sub, eL_mul, eL_neg, eL_lt, eL_le, eL_eq, eL_remN, eL_mod0, ne_eq, Int64.not_lt, Int64.not_le, lm2147483648, lm32768, lm128, lm1, l127, l255, l32767, l65535, l2147483647] at c109)
                      (try simp (disch := omega) only [lg_cmp_ge, lg_cmp_le, lg_cmp_gt, lg_cmp_lt, lg_cmp_eq, eL_0, eL_1, eL_m1, eL_LO, eL_HI, eL_W, eL_add, eL_sub, eL_mul, eL_neg, eL_lt, eL_le, eL_eq, eL_remN, eL_mod0, ne_eq, Int64.not_lt, Int64.not_le, lm2147483648, lm32768, lm128, lm1, l127, l255, l32767, l65535, l2147483647] at c123)
                      refine ⟨?_, rfl, rfl⟩
                      (try rw [lm1])
                      (try simp only [lm2147483648, lm32768, lm128, lm1, l127, l255, l32767, l65535, l2147483647, eL_0, eL_1])
                      unfold ledU
                      (repeat (first | rw [if_pos (by omega)] | rw [if_neg (by omega)]))
                    · refine gi_ldc2 (q := 129) C (dm_Mo_pointAbove 58 rfl) rfl kc_Mo_374 ?_
                      refine gi_goto (tgt := 135) C (dm_Mo_pointAbove 59 rfl) (by decide) ?_
                      refine gi_lret C hr (dm_Mo_pointAbove 61 rfl) ?_
                      (try simp (disch := omega) only [lg_cmp_ge, lg_cmp_le, lg_cmp_gt, lg_cmp_lt, lg_cmp_eq, eL_0, eL_1, eL_m1, eL_LO, eL_HI, eL_W, eL_add, eL_sub, eL_mul, eL_neg, eL_lt, eL_le, eL_eq, eL_remN, eL_mod0, ne_eq, Int64.not_lt, Int64.not_le, lm2147483648, lm32768, lm128, lm1, l127, l255, l32767, l65535, l2147483647] at c5)
                      (try simp (disch := omega) only [lg_cmp_ge, lg_cmp_le, lg_cmp_gt, lg_cmp_lt, lg_cmp_eq, eL_0, eL_1, eL_m1, eL_LO, eL_HI, eL_W, eL_add, eL_sub, eL_mul, eL_neg, eL_lt, eL_le, eL_eq, eL_remN, eL_mod0, ne_eq, Int64.not_lt, Int64.not_le, lm2147483648, lm32768, lm128, lm1, l127, l255, l32767, l65535, l2147483647] at c19)
                      (try simp (disch := omega) only [lg_cmp_ge, lg_cmp_le, lg_cmp_gt, lg_cmp_lt, lg_cmp_eq, eL_0, eL_1, eL_m1, eL_LO, eL_HI, eL_W, eL_add, eL_sub, eL_mul, eL_neg, eL_lt, eL_le, eL_eq, eL_remN, eL_mod0, ne_eq, Int64.not_lt, Int64.not_le, lm2147483648, lm32768, lm128, lm1, l127, l255, l32767, l65535, l2147483647] at c33)
                      (try simp (disch := omega) only [lg_cmp_ge, lg_cmp_le, lg_cmp_gt, lg_cmp_lt, lg_cmp_eq, eL_0, eL_1, eL_m1, eL_LO, eL_HI, eL_W, eL_add, eL_sub, eL_mul, eL_neg, eL_lt, eL_le, eL_eq, eL_remN, eL_mod0, ne_eq, Int64.not_lt, Int64.not_le, lm2147483648, lm32768, lm128, lm1, l127, l255, l32767, l65535, l2147483647] at c47)
                      (try simp (disch := omega) only [lg_cmp_ge, lg_cmp_le, lg_cmp_gt, lg_cmp_lt, lg_cmp_eq, eL_0, eL_1, eL_m1, eL_LO, eL_HI, eL_W, eL_add, eL_sub, eL_mul, eL_neg, eL_lt, eL_le, eL_eq, eL_remN, eL_mod0, ne_eq, Int64.not_lt, Int64.not_le, lm2147483648, lm32768, lm128, lm1, l127, l255, l32767, l65535, l2147483647] at c59)
                      (try simp (disch := omega) only [lg_cmp_ge, lg_cmp_le, lg_cmp_gt, lg_cmp_lt, lg_cmp_eq, eL_0, eL_1, eL_m1, eL_LO, eL_HI, eL_W, eL_add, eL_sub, eL_mul, eL_neg, eL_lt, eL_le, eL_eq, eL_remN, eL_mod0, ne_eq, Int64.not_lt, Int64.not_le, lm2147483648, lm32768, lm128, lm1, l127, l255, l32767, l65535, l2147483647] at c69)
                      (try simp (disch := omega) only [lg_cmp_ge, lg_cmp_le, lg_cmp_gt, lg_cmp_lt, lg_cmp_eq, eL_0, eL_1, eL_m1, eL_LO, eL_HI, eL_W, eL_add, eL_sub, eL_mul, eL_neg, eL_lt, eL_le, eL_eq, eL_remN, eL_mod0, ne_eq, Int64.not_lt, Int64.not_le, lm2147483648, lm32768, lm128, lm1, l127, l255, l32767, l65535, l2147483647] at c81)
                      (try simp (disch := omega) only [lg_cmp_ge, lg_cmp_le, lg_cmp_gt, lg_cmp_lt, lg_cmp_eq, eL_0, eL_1, eL_m1, eL_LO, eL_HI, eL_W, eL_add, eL_sub, eL_mul, eL_neg, eL_lt, eL_le, eL_eq, eL_remN, eL_mod0, ne_eq, Int64.not_lt, Int64.not_le, lm2147483648, lm32768, lm128, lm1, l127, l255, l32767, l65535, l2147483647] at c95)
                      (try simp (disch := omega) only [lg_cmp_ge, lg_cmp_le, lg_cmp_gt, lg_cmp_lt, lg_cmp_eq, eL_0, eL_1, eL_m1, eL_LO, eL_HI, eL_W, eL_add, eL_sub, eL_mul, eL_neg, eL_lt, eL_le, eL_eq, eL_remN, eL_mod0, ne_eq, Int64.not_lt, Int64.not_le, lm2147483648, lm32768, lm128, lm1, l127, l255, l32767, l65535, l2147483647] at c109)
                      (try simp (disch := omega) only [lg_cmp_ge, lg_cmp_le, lg_cmp_gt, lg_cmp_lt, lg_cmp_eq, eL_0, eL_1, eL_m1, eL_LO, eL_HI, eL_W, eL_add, eL_sub, eL_mul, eL_neg, eL_lt, eL_le, eL_eq, eL_remN, eL_mod0, ne_eq, Int64.not_lt, Int64.not_le, lm2147483648, lm32768, lm128, lm1, l127, l255, l32767, l65535, l2147483647] at c123)
                      refine ⟨?_, rfl, rfl⟩
                      (try rw [lm1])
                      (try simp only [lm2147483648, lm32768, lm128, lm1, l127, l255, l32767, l65535, l2147483647, eL_0, eL_1])
                      unfold ledU
                      (repeat (first | rw [if_pos (by omega)] | rw [if_neg (by omega)]))
                  · refine gi_ldc2 (q := 115) C (dm_Mo_pointAbove 52 rfl) rfl kc_Mo_376 ?_
                    refine gi_goto (tgt := 135) C (dm_Mo_pointAbove 53 rfl) (by decide) ?_
                    refine gi_lret C hr (dm_Mo_pointAbove 61 rfl) ?_
                    (try simp (disch := omega) only [lg_cmp_ge, lg_cmp_le, lg_cmp_gt, lg_cmp_lt, lg_cmp_eq, eL_0, eL_1, eL_m1, eL_LO, eL_HI, eL_W, eL_add, eL_sub, eL_mul, eL_neg, eL_lt, eL_le, eL_eq, eL_remN, eL_mod0, ne_eq, Int64.not_lt, Int64.not_le, lm2147483648, lm32768, lm128, lm1, l127, l255, l32767, l65535, l2147483647] at c5)
                    (try simp (disch := omega) only [lg_cmp_ge, lg_cmp_le, lg_cmp_gt, lg_cmp_lt, lg_cmp_eq, eL_0, eL_1, eL_m1, eL_LO, eL_HI, eL_W, eL_add, eL_sub, eL_mul, eL_neg, eL_lt, eL_le, eL_eq, eL_remN, eL_mod0, ne_eq, Int64.not_lt, Int64.not_le, lm2147483648, lm32768, lm128, lm1, l127, l255, l32767, l65535, l2147483647] at c19)
                    (try simp (disch := omega) only [lg_cmp_ge, lg_cmp_le, lg_cmp_gt, lg_cmp_lt, lg_cmp_eq, eL_0, eL_1, eL_m1, eL_LO, eL_HI, eL_W, eL_add, eL_sub, eL_mul, eL_neg, eL_lt, eL_le, eL_eq, eL_remN, eL_mod0, ne_eq, Int64.not_lt, Int64.not_le, lm2147483648, lm32768, lm128, lm1, l127, l255, l32767, l65535, l2147483647] at c33)
                    (try simp (disch := omega) only [lg_cmp_ge, lg_cmp_le, lg_cmp_gt, lg_cmp_lt, lg_cmp_eq, eL_0, eL_1, eL_m1, eL_LO, eL_HI, eL_W, eL_add, eL_sub, eL_mul, eL_neg, eL_lt, eL_le, eL_eq, eL_remN, eL_mod0, ne_eq, Int64.not_lt, Int64.not_le, lm2147483648, lm32768, lm128, lm1, l127, l255, l32767, l65535, l2147483647] at c47)
                    (try simp (disch := omega) only [lg_cmp_ge, lg_cmp_le, lg_cmp_gt, lg_cmp_lt, lg_cmp_eq, eL_0, eL_1, eL_m1, eL_LO, eL_HI, eL_W, eL_add, eL_sub, eL_mul, eL_neg, eL_lt, eL_le, eL_eq, eL_remN, eL_mod0, ne_eq, Int64.not_lt, Int64.not_le, lm2147483648, lm32768, lm128, lm1, l127, l255, l32767, l65535, l2147483647] at c59)
                    (try simp (disch := omega) only [lg_cmp_ge, lg_cmp_le, lg_cmp_gt, lg_cmp_lt, lg_cmp_eq, eL_0, eL_1, eL_m1, eL_LO, eL_HI, eL_W, eL_add, eL_sub, eL_mul, eL_neg, eL_lt, eL_le, eL_eq, eL_remN, eL_mod0, ne_eq, Int64.not_lt, Int64.not_le, lm2147483648, lm32768, lm128, lm1, l127, l255, l32767, l65535, l2147483647] at c69)
                    (try simp (disch := omega) only [lg_cmp_ge, lg_cmp_le, lg_cmp_gt, lg_cmp_lt, lg_cmp_eq, eL_0, eL_1, eL_m1, eL_LO, eL_HI, eL_W, eL_add, eL_sub, eL_mul, eL_neg, eL_lt, eL_le, eL_eq, eL_remN, eL_mod0, ne_eq, Int64.not_lt, Int64.not_le, lm2147483648, lm32768, lm128, lm1, l127, l255, l32767, l65535, l2147483647] at c81)
                    (try simp (disch := omega) only [lg_cmp_ge, lg_cmp_le, lg_cmp_gt, lg_cmp_lt, lg_cmp_eq, eL_0, eL_1, eL_m1, eL_LO, eL_HI, eL_W, eL_add, eL_sub, eL_mul, eL_neg, eL_lt, eL_le, eL_eq, eL_remN, eL_mod0, ne_eq, Int64.not_lt, Int64.not_le, lm2147483648, lm32768, lm128, lm1, l127, l255, l32767, l65535, l2147483647] at c95)
                    (try simp (disch := omega) only [lg_cmp_ge, lg_cmp_le, lg_cmp_gt, lg_cmp_lt, lg_cmp_eq, eL_0, eL_1, eL_m1, eL_LO, eL_HI, eL_W, eL_add, eL_sub, eL_mul, eL_neg, eL_lt, eL_le, eL_eq, eL_remN, eL_mod0, ne_eq, Int64.not_lt, Int64.not_le, lm2147483648, lm32768, lm128, lm1, l127, l255, l32767, l65535, l2147483647] at c109)
                    refine ⟨?_, rfl, rfl⟩
                    (try rw [lm1])
                    (try simp only [lm2147483648, lm32768, lm128, lm1, l127, l255, l32767, l65535, l2147483647, eL_0, eL_1])
                    unfold ledU
                    (repeat (first | rw [if_pos (by omega)] | rw [if_neg (by omega)]))
                · refine gi_ldc2 (q := 101) C (dm_Mo_pointAbove 46 rfl) rfl kc_Mo_378 ?_
                  refine gi_goto (tgt := 135) C (dm_Mo_pointAbove 47 rfl) (by decide) ?_
                  refine gi_lret C hr (dm_Mo_pointAbove 61 rfl) ?_
                  (try simp (disch := omega) only [lg_cmp_ge, lg_cmp_le, lg_cmp_gt, lg_cmp_lt, lg_cmp_eq, eL_0, eL_1, eL_m1, eL_LO, eL_HI, eL_W, eL_add, eL_sub, eL_mul, eL_neg, eL_lt, eL_le, eL_eq, eL_remN, eL_mod0, ne_eq, Int64.not_lt, Int64.not_le, lm2147483648, lm32768, lm128, lm1, l127, l255, l32767, l65535, l2147483647] at c5)
                  (try simp (disch := omega) only [lg_cmp_ge, lg_cmp_le, lg_cmp_gt, lg_cmp_lt, lg_cmp_eq, eL_0, eL_1, eL_m1, eL_LO, eL_HI, eL_W, eL_add, eL_sub, eL_mul, eL_neg, eL_lt, eL_le, eL_eq, eL_remN, eL_mod0, ne_eq, Int64.not_lt, Int64.not_le, lm2147483648, lm32768, lm128, lm1, l127, l255, l32767, l65535, l2147483647] at c19)
                  (try simp (disch := omega) only [lg_cmp_ge, lg_cmp_le, lg_cmp_gt, lg_cmp_lt, lg_cmp_eq, eL_0, eL_1, eL_m1, eL_LO, eL_HI, eL_W, eL_add, eL_sub, eL_mul, eL_neg, eL_lt, eL_le, eL_eq, eL_remN, eL_mod0, ne_eq, Int64.not_lt, Int64.not_le, lm2147483648, lm32768, lm128, lm1, l127, l255, l32767, l65535, l2147483647] at c33)
                  (try simp (disch := omega) only [lg_cmp_ge, lg_cmp_le, lg_cmp_gt, lg_cmp_lt, lg_cmp_eq, eL_0, eL_1, eL_m1, eL_LO, eL_HI, eL_W, eL_add, eL_sub, eL_mul, eL_neg, eL_lt, eL_le, eL_eq, eL_remN, eL_mod0, ne_eq, Int64.not_lt, Int64.not_le, lm2147483648, lm32768, lm128, lm1, l127, l255, l32767, l65535, l2147483647] at c47)
                  (try simp (disch := omega) only [lg_cmp_ge, lg_cmp_le, lg_cmp_gt, lg_cmp_lt, lg_cmp_eq, eL_0, eL_1, eL_m1, eL_LO, eL_HI, eL_W, eL_add, eL_sub, eL_mul, eL_neg, eL_lt, eL_le, eL_eq, eL_remN, eL_mod0, ne_eq, Int64.not_lt, Int64.not_le, lm2147483648, lm32768, lm128, lm1, l127, l255, l32767, l65535, l2147483647] at c59)
                  (try simp (disch := omega) only [lg_cmp_ge, lg_cmp_le, lg_cmp_gt, lg_cmp_lt, lg_cmp_eq, eL_0, eL_1, eL_m1, eL_LO, eL_HI, eL_W, eL_add, eL_sub, eL_mul, eL_neg, eL_lt, eL_le, eL_eq, eL_remN, eL_mod0, ne_eq, Int64.not_lt, Int64.not_le, lm2147483648, lm32768, lm128, lm1, l127, l255, l32767, l65535, l2147483647] at c69)
                  (try simp (disch := omega) only [lg_cmp_ge, lg_cmp_le, lg_cmp_gt, lg_cmp_lt, lg_cmp_eq, eL_0, eL_1, eL_m1, eL_LO, eL_HI, eL_W, eL_add, eL_sub, eL_mul, eL_neg, eL_lt, eL_le, eL_eq, eL_remN, eL_mod0, ne_eq, Int64.not_lt, Int64.not_le, lm2147483648, lm32768, lm128, lm1, l127, l255, l32767, l65535, l2147483647] at c81)
                  (try simp (disch := omega) only [lg_cmp_ge, lg_cmp_le, lg_cmp_gt, lg_cmp_lt, lg_cmp_eq, eL_0, eL_1, eL_m1, eL_LO, eL_HI, eL_W, eL_add, eL_sub, eL_mul, eL_neg, eL_lt, eL_le, eL_eq, eL_remN, eL_mod0, ne_eq, Int64.not_lt, Int64.not_le, lm2147483648, lm32768, lm128, lm1, l127, l255, l32767, l65535, l2147483647] at c95)
                  refine ⟨?_, rfl, rfl⟩
                  (try rw [lm1])
                  (try simp only [lm2147483648, lm32768, lm128, lm1, l127, l255, l32767, l65535, l2147483647, eL_0, eL_1])
                  unfold ledU
                  (repeat (first | rw [if_pos (by omega)] | rw [if_neg (by omega)]))
              · refine gi_ldc2 (q := 87) C (dm_Mo_pointAbove 40 rfl) rfl kc_Mo_380 ?_
                refine gi_goto (tgt := 135) C (dm_Mo_pointAbove 41 rfl) (by decide) ?_
                refine gi_lret C hr (dm_Mo_pointAbove 61 rfl) ?_
                (try simp (disch := omega) only [lg_cmp_ge, lg_cmp_le, lg_cmp_gt, lg_cmp_lt, lg_cmp_eq, eL_0, eL_1, eL_m1, eL_LO, eL_HI, eL_W, eL_add, eL_sub, eL_mul, eL_neg, eL_lt, eL_le, eL_eq, eL_remN, eL_mod0, ne_eq, Int64.not_lt, Int64.not_le, lm2147483648, lm32768, lm128, lm1, l127, l255, l32767, l65535, l2147483647] at c5)
                (try simp (disch := omega) only [lg_cmp_ge, lg_cmp_le, lg_cmp_gt, lg_cmp_lt, lg_cmp_eq, eL_0, eL_1, eL_m1, eL_LO, eL_HI, eL_W, eL_add, eL_sub, eL_mul, eL_neg, eL_lt, eL_le, eL_eq, eL_remN, eL_mod0, ne_eq, Int64.not_lt, Int64.not_le, lm2147483648, lm32768, lm128, lm1, l127, l255, l32767, l65535, l2147483647] at c19)
                (try simp (disch := omega) only [lg_cmp_ge, lg_cmp_le, lg_cmp_gt, lg_cmp_lt, lg_cmp_eq, eL_0, eL_1, eL_m1, eL_LO, eL_HI, eL_W, eL_add, eL_sub, eL_mul, eL_neg, eL_lt, eL_le, eL_eq, eL_remN, eL_mod0, ne_eq, Int64.not_lt, Int64.not_le, lm2147483648, lm32768, lm128, lm1, l127, l255, l32767, l65535, l2147483647] at c33)
                (try simp (disch := omega) only [lg_cmp_ge, lg_cmp_le, lg_cmp_gt, lg_cmp_lt, lg_cmp_eq, eL_0, eL_1, eL_m1, eL_LO, eL_HI, eL_W, eL_add, eL_sub, eL_mul, eL_neg, eL_lt, eL_le, eL_eq, eL_remN, eL_mod0, ne_eq, Int64.not_lt, Int64.not_le, lm2147483648, lm32768, lm128, lm1, l127, l255, l32767, l65535, l2147483647] at c47)
                (try simp (disch := omega) only [lg_cmp_ge, lg_cmp_le, lg_cmp_gt, lg_cmp_lt, lg_cmp_eq, eL_0, eL_1, eL_m1, eL_LO, eL_HI, eL_W, eL_add, eL_sub, eL_mul, eL_neg, eL_lt, eL_le, eL_eq, eL_remN, eL_mod0, ne_eq, Int64.not_lt, Int64.not_le, lm2147483648, lm32768, lm128, lm1, l127, l255, l32767, l65535, l2147483647] at c59)
                (try simp (disch := omega) only [lg_cmp_ge, lg_cmp_le, lg_cmp_gt, lg_cmp_lt, lg_cmp_eq, eL_0, eL_1, eL_m1, eL_LO, eL_HI, eL_W, eL_add, eL_sub, eL_mul, eL_neg, eL_lt, eL_le, eL_eq, eL_remN, eL_mod0, ne_eq, Int64.not_lt, Int64.not_le, lm2147483648, lm32768, lm128, lm1, l127, l255, l32767, l65535, l2147483647] at c69)
                (try simp (disch := omega) only [lg_cmp_ge, lg_cmp_le, lg_cmp_gt, lg_cmp_lt, lg_cmp_eq, eL_0, eL_1, eL_m1, eL_LO, eL_HI, eL_W, eL_add, eL_sub, eL_mul, eL_neg, eL_lt, eL_le, eL_eq, eL_remN, eL_mod0, ne_eq, Int64.not_lt, Int64.not_le, lm2147483648, lm32768, lm128, lm1, l127, l255, l32767, l65535, l2147483647] at c81)
                refine ⟨?_, rfl, rfl⟩
                (try rw [lm1])
                (try simp only [lm2147483648, lm32768, lm128, lm1, l127, l255, l32767, l65535, l2147483647, eL_0, eL_1])
                unfold ledU
                (repeat (first | rw [if_pos (by omega)] | rw [if_neg (by omega)]))
            · refine gi_lconst (q := 73) (v := 1) C (dm_Mo_pointAbove 34 rfl) rfl (by decide) ?_
              refine gi_goto (tgt := 135) C (dm_Mo_pointAbove 35 rfl) (by decide) ?_
              refine gi_lret C hr (dm_Mo_pointAbove 61 rfl) ?_
              (try simp (disch := omega) only [lg_cmp_ge, lg_cmp_le, lg_cmp_gt, lg_cmp_lt, lg_cmp_eq, eL_0, eL_1, eL_m1, eL_LO, eL_HI, eL_W, eL_add, eL_sub, eL_mul, eL_neg, eL_lt, eL_le, eL_eq, eL_remN, eL_mod0, ne_eq, Int64.not_lt, Int64.not_le, lm2147483648, lm32768, lm128, lm1, l127, l255, l32767, l65535, l2147483647] at c5)
              (try simp (disch := omega) only [lg_cmp_ge, lg_cmp_le, lg_cmp_gt, lg_cmp_lt, lg_cmp_eq, eL_0, eL_1, eL_m1, eL_LO, eL_HI, eL_W, eL_add, eL_sub, eL_mul, eL_neg, eL_lt, eL_le, eL_eq, eL_remN, eL_mod0, ne_eq, Int64.not_lt, Int64.not_le, lm2147483648, lm32768, lm128, lm1, l127, l255, l32767, l65535, l2147483647] at c19)
              (try simp (disch := omega) only [lg_cmp_ge, lg_cmp_le, lg_cmp_gt, lg_cmp_lt, lg_cmp_eq, eL_0, eL_1, eL_m1, eL_LO, eL_HI, eL_W, eL_add, eL_sub, eL_mul, eL_neg, eL_lt, eL_le, eL_eq, eL_remN, eL_mod0, ne_eq, Int64.not_lt, Int64.not_le, lm2147483648, lm32768, lm128, lm1, l127, l255, l32767, l65535, l2147483647] at c33)
              (try simp (disch := omega) only [lg_cmp_ge, lg_cmp_le, lg_cmp_gt, lg_cmp_lt, lg_cmp_eq, eL_0, eL_1, eL_m1, eL_LO, eL_HI, eL_W, eL_add, eL_sub, eL_mul, eL_neg, eL_lt, eL_le, eL_eq, eL_remN, eL_mod0, ne_eq, Int64.not_lt, Int64.not_le, lm2147483648, lm32768, lm128, lm1, l127, l255, l32767, l65535, l2147483647] at c47)
              (try simp (disch := omega) only [lg_cmp_ge, lg_cmp_le, lg_cmp_gt, lg_cmp_lt, lg_cmp_eq, eL_0, eL_1, eL_m1, eL_LO, eL_HI, eL_W, eL_add, eL_sub, eL_mul, eL_neg, eL_lt, eL_le, eL_eq, eL_remN, eL_mod0, ne_eq, Int64.not_lt, Int64.not_le, lm2147483648, lm32768, lm128, lm1, l127, l255, l32767, l65535, l2147483647] at c59)
              (try simp (disch := omega) only [lg_cmp_ge, lg_cmp_le, lg_cmp_gt, lg_cmp_lt, lg_cmp_eq, eL_0, eL_1, eL_m1, eL_LO, eL_HI, eL_W, eL_add, eL_sub, eL_mul, eL_neg, eL_lt, eL_le, eL_eq, eL_remN, eL_mod0, ne_eq, Int64.not_lt, Int64.not_le, lm2147483648, lm32768, lm128, lm1, l127, l255, l32767, l65535, l2147483647] at c69)
              refine ⟨?_, rfl, rfl⟩
              (try rw [lm1])
              (try simp only [lm2147483648, lm32768, lm128, lm1, l127, l255, l32767, l65535, l2147483647, eL_0, eL_1])
              unfold ledU
              (repeat (first | rw [if_pos (by omega)] | rw [if_neg (by omega)]))
          · refine gi_lconst (q := 63) (v := 0) C (dm_Mo_pointAbove 28 rfl) rfl (by decide) ?_
            refine gi_goto (tgt := 135) C (dm_Mo_pointAbove 29 rfl) (by decide) ?_
            refine gi_lret C hr (dm_Mo_pointAbove 61 rfl) ?_
            (try simp (disch := omega) only [lg_cmp_ge, lg_cmp_le, lg_cmp_gt, lg_cmp_lt, lg_cmp_eq, eL_0, eL_1, eL_m1, eL_LO, eL_HI, eL_W, eL_add, eL_sub, eL_mul, eL_neg, eL_lt, eL_le, eL_eq, eL_remN, eL_mod0, ne_eq, Int64.not_lt, Int64.not_le, lm2147483648, lm32768, lm128, lm1, l127, l255, l32767, l65535, l2147483647] at c5)
            (try simp (disch := omega) only [lg_cmp_ge, lg_cmp_le, lg_cmp_gt, lg_cmp_lt, lg_cmp_eq, eL_0, eL_1, eL_m1, eL_LO, eL_HI, eL_W, eL_add, eL_sub, eL_mul, eL_neg, eL_lt, eL_le, eL_eq, eL_remN, eL_mod0, ne_eq, Int64.not_lt, Int64.not_le, lm2147483648, lm32768, lm128, lm1, l127, l255, l32767, l65535, l2147483647] at c19)
            (try simp (disch := omega) only [lg_cmp_ge, lg_cmp_le, lg_cmp_gt, lg_cmp_lt, lg_cmp_eq, eL_0, eL_1, eL_m1, eL_LO, eL_HI, eL_W, eL_add, eL_sub, eL_mul, eL_neg, eL_lt, eL_le, eL_eq, eL_remN, eL_mod0, ne_eq, Int64.not_lt, Int64.not_le, lm2147483648, lm32768, lm128, lm1, l127, l255, l32767, l65535, l2147483647] at c33)
            (try simp (disch := omega) only [lg_cmp_ge, lg_cmp_le, lg_cmp_gt, lg_cmp_lt, lg_cmp_eq, eL_0, eL_1, eL_m1, eL_LO, eL_HI, eL_W, eL_add, eL_sub, eL_mul, eL_neg, eL_lt, eL_le, eL_eq, eL_remN, eL_mod0, ne_eq, Int64.not_lt, Int64.not_le, lm2147483648, lm32768, lm128, lm1, l127, l255, l32767, l65535, l2147483647] at c47)
            (try simp (disch := omega) only [lg_cmp_ge, lg_cmp_le, lg_cmp_gt, lg_cmp_lt, lg_cmp_eq, eL_0, eL_1, eL_m1, eL_LO, eL_HI, eL_W, eL_add, eL_sub, eL_mul, eL_neg, eL_lt, eL_le, eL_eq, eL_remN, eL_mod0, ne_eq, Int64.not_lt, Int64.not_le, lm2147483648, lm32768, lm128, lm1, l127, l255, l32767, l65535, l2147483647] at c59)
            refine ⟨?_, rfl, rfl⟩
            (try rw [lm1])
            (try simp only [lm2147483648, lm32768, lm128, lm1, l127, l255, l32767, l65535, l2147483647, eL_0, eL_1])
            unfold ledU
            (repeat (first | rw [if_pos (by omega)] | rw [if_neg (by omega)]))
        · refine gi_ldc2 (q := 53) C (dm_Mo_pointAbove 22 rfl) rfl kc_Mo_311 ?_
          refine gi_goto (tgt := 135) C (dm_Mo_pointAbove 23 rfl) (by decide) ?_
          refine gi_lret C hr (dm_Mo_pointAbove 61 rfl) ?_
          (try simp (disch := omega) only [lg_cmp_ge, lg_cmp_le, lg_cmp_gt, lg_cmp_lt, lg_cmp_eq, eL_0, eL_1, eL_m1, eL_LO, eL_HI, eL_W, eL_add, eL_sub, eL_mul, eL_neg, eL_lt, eL_le, eL_eq, eL_remN, eL_mod0, ne_eq, Int64.not_lt, Int64.not_le, lm2147483648, lm32768, lm128, lm1, l127, l255, l32767, l65535, l2147483647] at c5)
          (try simp (disch := omega) only [lg_cmp_ge, lg_cmp_le, lg_cmp_gt, lg_cmp_lt, lg_cmp_eq, eL_0, eL_1, eL_m1, eL_LO, eL_HI, eL_W, eL_add, eL_sub, eL_mul, eL_neg, eL_lt, eL_le, eL_eq, eL_remN, eL_mod0, ne_eq, Int64.not_lt, Int64.not_le, lm2147483648, lm32768, lm128, lm1, l127, l255, l32767, l65535, l2147483647] at c19)
          (try simp (disch := omega) only [lg_cmp_ge, lg_cmp_le, lg_cmp_gt, lg_cmp_lt, lg_cmp_eq, eL_0, eL_1, eL_m1, eL_LO, eL_HI, eL_W, eL_add, eL_sub, eL_mul, eL_neg, eL_lt, eL_le, eL_eq, eL_remN, eL_mod0, ne_eq, Int64.not_lt, Int64.not_le, lm2147483648, lm32768, lm128, lm1, l127, l255, l32767, l65535, l2147483647] at c33)
          (try simp (disch := omega) only [lg_cmp_ge, lg_cmp_le, lg_cmp_gt, lg_cmp_lt, lg_cmp_eq, eL_0, eL_1, eL_m1, eL_LO, eL_HI, eL_W, eL_add, eL_sub, eL_mul, eL_neg, eL_lt, eL_le, eL_eq, eL_remN, eL_mod0, ne_eq, Int64.not_lt, Int64.not_le, lm2147483648, lm32768, lm128, lm1, l127, l255, l32767, l65535, l2147483647] at c47)
          refine ⟨?_, rfl, rfl⟩
          (try rw [lm1])
          (try simp only [lm2147483648, lm32768, lm128, lm1, l127, l255, l32767, l65535, l2147483647, eL_0, eL_1])
          unfold ledU
          (repeat (first | rw [if_pos (by omega)] | rw [if_neg (by omega)]))
      · refine gi_ldc2 (q := 39) C (dm_Mo_pointAbove 16 rfl) rfl kc_Mo_382 ?_
        refine gi_goto (tgt := 135) C (dm_Mo_pointAbove 17 rfl) (by decide) ?_
        refine gi_lret C hr (dm_Mo_pointAbove 61 rfl) ?_
        (try simp (disch := omega) only [lg_cmp_ge, lg_cmp_le, lg_cmp_gt, lg_cmp_lt, lg_cmp_eq, eL_0, eL_1, eL_m1, eL_LO, eL_HI, eL_W, eL_add, eL_sub, eL_mul, eL_neg, eL_lt, eL_le, eL_eq, eL_remN, eL_mod0, ne_eq, Int64.not_lt, Int64.not_le, lm2147483648, lm32768, lm128, lm1, l127, l255, l32767, l65535, l2147483647] at c5)
        (try simp (disch := omega) only [lg_cmp_ge, lg_cmp_le, lg_cmp_gt, lg_cmp_lt, lg_cmp_eq, eL_0, eL_1, eL_m1, eL_LO, eL_HI, eL_W, eL_add, eL_sub, eL_mul, eL_neg, eL_lt, eL_le, eL_eq, eL_remN, eL_mod0, ne_eq, Int64.not_lt, Int64.not_le, lm2147483648, lm32768, lm128, lm1, l127, l255, l32767, l65535, l2147483647] at c19)
        (try simp (disch := omega) only [lg_cmp_ge, lg_cmp_le, lg_cmp_gt, lg_cmp_lt, lg_cmp_eq, eL_0, eL_1, eL_m1, eL_LO, eL_HI, eL_W, eL_add, eL_sub, eL_mul, eL_neg, eL_lt, eL_le, eL_eq, eL_remN, eL_mod0, ne_eq, Int64.not_lt, Int64.not_le, lm2147483648, lm32768, lm128, lm1, l127, l255, l32767, l65535, l2147483647] at c33)
        refine ⟨?_, rfl, rfl⟩
        (try rw [lm1])
        (try simp only [lm2147483648, lm32768, lm128, lm1, l127, l255, l32767, l65535, l2147483647, eL_0, eL_1])
        unfold ledU
        (repeat (first | rw [if_pos (by omega)] | rw [if_neg (by omega)]))
    · refine gi_ldc2 (q := 25) C (dm_Mo_pointAbove 10 rfl) rfl kc_Mo_384 ?_
      refine gi_goto (tgt := 135) C (dm_Mo_pointAbove 11 rfl) (by decide) ?_
      refine gi_lret C hr (dm_Mo_pointAbove 61 rfl) ?_
      (try simp (disch := omega) only [lg_cmp_ge, lg_cmp_le, lg_cmp_gt, lg_cmp_lt, lg_cmp_eq, eL_0, eL_1, eL_m1, eL_LO, eL_HI, eL_W, eL_add, eL_sub, eL_mul, eL_neg, eL_lt, eL_le, eL_eq, eL_remN, eL_mod0, ne_eq, Int64.not_lt, Int64.not_le, lm2147483648, lm32768, lm128, lm1, l127, l255, l32767, l65535, l2147483647] at c5)
      (try simp (disch := omega) only [lg_cmp_ge, lg_cmp_le, lg_cmp_gt, lg_cmp_lt, lg_cmp_eq, eL_0, eL_1, eL_m1, eL_LO, eL_HI, eL_W, eL_add, eL_sub, eL_mul, eL_neg, eL_lt, eL_le, eL_eq, eL_remN, eL_mod0, ne_eq, Int64.not_lt, Int64.not_le, lm2147483648, lm32768, lm128, lm1, l127, l255, l32767, l65535, l2147483647] at c19)
      refine ⟨?_, rfl, rfl⟩
      (try rw [lm1])
      (try simp only [lm2147483648, lm32768, lm128, lm1, l127, l255, l32767, l65535, l2147483647, eL_0, eL_1])
      unfold ledU
      (repeat (first | rw [if_pos (by omega)] | rw [if_neg (by omega)]))
  · refine gi_ldc2 (q := 11) C (dm_Mo_pointAbove 4 rfl) rfl kc_Mo_273 ?_
    refine gi_goto (tgt := 135) C (dm_Mo_pointAbove 5 rfl) (by decide) ?_
    refine gi_lret C hr (dm_Mo_pointAbove 61 rfl) ?_
    (try simp (disch := omega) only [lg_cmp_ge, lg_cmp_le, lg_cmp_gt, lg_cmp_lt, lg_cmp_eq, eL_0, eL_1, eL_m1, eL_LO, eL_HI, eL_W, eL_add, eL_sub, eL_mul, eL_neg, eL_lt, eL_le, eL_eq, eL_remN, eL_mod0, ne_eq, Int64.not_lt, Int64.not_le, lm2147483648, lm32768, lm128, lm1, l127, l255, l32767, l65535, l2147483647] at c5)
    refine ⟨?_, rfl, rfl⟩
    (try rw [lm1])
    (try simp only [lm2147483648, lm32768, lm128, lm1, l127, l255, l32767, l65535, l2147483647, eL_0, eL_1])
    unfold ledU
    (repeat (first | rw [if_pos (by omega)] | rw [if_neg (by omega)]))
def mvP (x : Sp) (a b : Int) : Prop := okS x ∧ (x.1 < a ∨ b < x.2.1 → 0 < x.2.2)
theorem mov_mk {x : Sp} {a b : Int} (hx : mvP x a b) : mkS (movS x a b).1 (movS x a b).2.1 x.2.2 = movS x a b ∧ -4294967296 ≤ (movS x a b).1 ∧ (movS x a b).1 ≤ x.1 ∧ x.2.1 ≤ (movS x a b).2.1 ∧ (movS x a b).2.1 ≤ 4294967296 := by
  obtain ⟨o, hp⟩ := hx
  have d1 := ldD_le (v := x.1) o.1
  have u1 := ldU_le (v := x.2.1) o.2.2.1
  obtain ⟨o1, o2, o3, o4, o5, -⟩ := id o
  have e1 : -4294967296 ≤ (movS x a b).1 ∧ (movS x a b).1 ≤ x.1 := by
    show -4294967296 ≤ (if x.1 < a then x.1 - (x.1 - ledD x.1) / x.2.2 * x.2.2 else x.1) ∧ _
    split
    · rename_i q
      have s0 := hp (Or.inl q)
      have k1 := Int.mul_ediv_add_emod (x.1 - ledD x.1) x.2.2
      have k2 := Int.emod_nonneg (x.1 - ledD x.1) (show x.2.2 ≠ 0 by omega)
      have k3 := Int.emod_lt_of_pos (x.1 - ledD x.1) s0
      have k4 : 0 ≤ (x.1 - ledD x.1) / x.2.2 * x.2.2 := Int.mul_nonneg (Int.ediv_nonneg (by omega) o4) o4
      rw [Int.mul_comm] at k1
      rw [show (movS x a b).1 = x.1 - (x.1 - ledD x.1) / x.2.2 * x.2.2 from if_pos q]
      omega
    · rename_i q
      rw [show (movS x a b).1 = x.1 from if_neg q]
      omega
  have e2 : x.2.1 ≤ (movS x a b).2.1 ∧ (movS x a b).2.1 ≤ 4294967296 := by
    by_cases q : b < x.2.1
    · have s0 := hp (Or.inr q)
      have k1 := Int.mul_ediv_add_emod (ledU x.2.1 - x.2.1) x.2.2
      have k2 := Int.emod_nonneg (ledU x.2.1 - x.2.1) (show x.2.2 ≠ 0 by omega)
      have k3 := Int.emod_lt_of_pos (ledU x.2.1 - x.2.1) s0
      have k4 : 0 ≤ (ledU x.2.1 - x.2.1) / x.2.2 * x.2.2 := Int.mul_nonneg (Int.ediv_nonneg (by omega) o4) o4
      rw [Int.mul_comm] at k1
      rw [show (movS x a b).2.1 = x.2.1 + (ledU x.2.1 - x.2.1) / x.2.2 * x.2.2 from if_pos q]
      omega
    · rw [show (movS x a b).2.1 = x.2.1 from if_neg q]
      omega
  refine ⟨?_, e1.1, e1.2, e2.1, e2.2⟩
  unfold mkS
  split
  · rename_i q
    have := o5 (by omega)
    rw [show movS x a b = ((movS x a b).1, (movS x a b).2.1, x.2.2) from rfl, this]
  · rfl
set_option maxHeartbeats 4000000 in
set_option maxRecDepth 100000 in
theorem c_Mo_moved (x : Sp) (a b : Int) (a1 : -4294967296 ≤ a) (a2 : a ≤ 4294967296) (b1' : -4294967296 ≤ b) (b2' : b ≤ 4294967296) (hv : mvP x a b) (hJ : rsI J x) (H : mo_at M S J F G h) : gi_T l V y_Mo_moved b_Mo_moved 9 none 1 26 0 0 [.ref M, .long (eL a), .long (eL b)] n h (fun v n' h' => v = none ∧ n' = n ∧ moN M F G h S J (movS x a b) h') := by
  refine gi_enter (by decide) (Nat.le_of_ble_eq_true rfl) ?_
  intro _ _ _ _ _ _ _ _ C hr hnm
  obtain ⟨fs, Ha, Hf⟩ := id H.1
  have ho : outM M h h := outM.rf
  obtain ⟨r1, r2, r3⟩ := id hJ
  obtain ⟨ox, hp⟩ := id hv
  have d1 := ldD_le (v := x.1) ox.1
  have u1 := ldU_le (v := x.2.1) ox.2.2.1
  obtain ⟨mk, b1, b2, b3, b4⟩ := mov_mk hv
  obtain ⟨x1, x2, x3, x4, -⟩ := id ox
  have x5 := ox.st
  refine gi_aload_n (q := 1) (i := 0) C (dm_Mo_moved 0 rfl) rfl rfl rfl ?_
  refine gi_get (q := 4) C (dm_Mo_moved 1 rfl) rfl fl_Mo_242 Ha (mo_g22 Hf) ?_
  rw [r1]
  refine gi_lstore (q := 6) C (dm_Mo_moved 2 rfl) rfl (Nat.le_of_ble_eq_true rfl) ?_
  refine gi_aload_n (q := 7) (i := 0) C (dm_Mo_moved 3 rfl) rfl rfl rfl ?_
  refine gi_get (q := 10) C (dm_Mo_moved 4 rfl) rfl fl_Mo_246 Ha (mo_g23 Hf) ?_
  rw [r2]
  refine gi_lstore (q := 12) C (dm_Mo_moved 5 rfl) rfl (Nat.le_of_ble_eq_true rfl) ?_
  refine gi_lload (q := 14) C (dm_Mo_moved 6 rfl) rfl rfl ?_
  refine gi_lload_n (q := 15) (i := 1) C (dm_Mo_moved 7 rfl) rfl rfl rfl ?_
  refine gi_lcmp (q := 16) C (dm_Mo_moved 8 rfl) rfl ?_
  refine gi_if_ge (q := 19) (tgt := 42) C (dm_Mo_moved 9 rfl) rfl (by decide) (fun c16 => ?_) (fun c16 => ?_)
  · refine gi_lload (q := 44) C (dm_Mo_moved 23 rfl) rfl rfl ?_
    refine gi_lload_n (q := 45) (i := 3) C (dm_Mo_moved 24 rfl) rfl rfl rfl ?_
    refine gi_lcmp (q := 46) C (dm_Mo_moved 25 rfl) rfl ?_
    refine gi_if_le (q := 49) (tgt := 72) C (dm_Mo_moved 26 rfl) rfl (by decide) (fun c46 => ?_) (fun c46 => ?_)
    · refine gi_aload_n (q := 73) (i := 0) C (dm_Mo_moved 40 rfl) rfl rfl rfl ?_
      refine gi_lload (q := 75) C (dm_Mo_moved 41 rfl) rfl rfl ?_
      refine gi_lload (q := 77) C (dm_Mo_moved 42 rfl) rfl rfl ?_
      refine gi_aload_n (q := 78) (i := 0) C (dm_Mo_moved 43 rfl) rfl rfl rfl ?_
      refine gi_get (q := 81) C (dm_Mo_moved 44 rfl) rfl fl_Mo_249 Ha (mo_g24 Hf) ?_
      (try simp (disch := omega) only [lg_cmp_ge, lg_cmp_le, lg_cmp_gt, lg_cmp_lt, lg_cmp_eq, eL_0, eL_1, eL_m1, eL_LO, eL_HI, eL_W, eL_add, eL_sub, eL_mul, eL_neg, eL_lt, eL_le, eL_eq, eL_remN, eL_mod0, ne_eq, Int64.not_lt, Int64.not_le] at c16)
      (try simp (disch := omega) only [lg_cmp_ge, lg_cmp_le, lg_cmp_gt, lg_cmp_lt, lg_cmp_eq, eL_0, eL_1, eL_m1, eL_LO, eL_HI, eL_W, eL_add, eL_sub, eL_mul, eL_neg, eL_lt, eL_le, eL_eq, eL_remN, eL_mod0, ne_eq, Int64.not_lt, Int64.not_le] at c46)
      rw [r3]
      first
        | rw [show x.1 - (x.1 - ledD x.1) / x.2.2 * x.2.2 = (movS x a b).1 from (if_pos (by omega)).symm]
        | rw [show (Value.long (eL x.1)) = Value.long (eL (movS x a b).1) from by rw [show (movS x a b).1 = x.1 from if_neg (by omega)]]
      first
        | rw [show x.2.1 + (ledU x.2.1 - x.2.1) / x.2.2 * x.2.2 = (movS x a b).2.1 from (if_pos (by omega)).symm]
        | rw [show (Value.long (eL x.2.1)) = Value.long (eL (movS x a b).2.1) from by rw [show (movS x a b).2.1 = x.2.1 from if_neg (by omega)]]
      refine gi_callv 3 (q := 84) C (dm_Mo_moved 45 rfl) rfl my_Mo_set lk_Mo_262 im_Mo_set rfl (c_Mo_set (movS x a b).1 (movS x a b).2.1 x.2.2 (by omega) (by omega) (by omega) (by omega) H) Ha rfl rfl ⟨(Nat.le_of_ble_eq_true rfl), (Nat.le_of_ble_eq_true rfl)⟩ (Nat.le_of_ble_eq_true rfl) ⟨(Nat.le_of_ble_eq_true rfl), (Nat.le_of_ble_eq_true rfl)⟩ (fun r81 n81 h81 e81 => ?_)
      obtain ⟨rfl, rfl, W81⟩ := e81
      refine gi_vret C hr (dm_Mo_moved 46 rfl) ?_
      rw [mk] at W81
      exact ⟨rfl, rfl, W81⟩
    · (try simp (disch := omega) only [lg_cmp_ge, lg_cmp_le, lg_cmp_gt, lg_cmp_lt, lg_cmp_eq, eL_0, eL_1, eL_m1, eL_LO, eL_HI, eL_W, eL_add, eL_sub, eL_mul, eL_neg, eL_lt, eL_le, eL_eq, eL_remN, eL_mod0, ne_eq, Int64.not_lt, Int64.not_le] at c46)
      have s0 := hp (Or.inr (by omega))
      have dz : ¬ eL x.2.2 = 0 := fun z => by
        rw [eL_0, eL_eq (by omega) (by omega) (by omega) (by omega)] at z
        omega
      refine gi_lload (q := 51) C (dm_Mo_moved 27 rfl) rfl rfl ?_
      refine gi_lload (q := 53) C (dm_Mo_moved 28 rfl) rfl rfl ?_
      refine gi_calls 1 (q := 56) C (dm_Mo_moved 29 rfl) rfl my_Mo_pointAbove lk_Mo_389 sm_Mo_pointAbove (c_Mo_pointAbove x.2.1 (by omega) (by omega)) rfl rfl ⟨(Nat.le_of_ble_eq_true rfl), (Nat.le_of_ble_eq_true rfl)⟩ (Nat.le_of_ble_eq_true rfl) ⟨(Nat.le_of_ble_eq_true rfl), (Nat.le_of_ble_eq_true rfl)⟩ (fun r53 n53 h53 e53 => ?_)
      obtain ⟨rfl, q53, u53⟩ := e53
      rw [q53, u53]
      refine gi_lload (q := 58) C (dm_Mo_moved 30 rfl) rfl rfl ?_
      refine gi_lsub (q := 59) C (dm_Mo_moved 31 rfl) rfl ?_
      rw [eL_sub]
      refine gi_aload_n (q := 60) (i := 0) C (dm_Mo_moved 32 rfl) rfl rfl rfl ?_
      refine gi_get (q := 63) C (dm_Mo_moved 33 rfl) rfl fl_Mo_249 Ha (mo_g24 Hf) ?_
      rw [r3]
      refine gi_ldiv (q := 64) C (dm_Mo_moved 34 rfl) rfl dz ?_
      rw [eL_divN (by omega) (by omega) (by omega) (by omega)]
      refine gi_aload_n (q := 65) (i := 0) C (dm_Mo_moved 35 rfl) rfl rfl rfl ?_
      refine gi_get (q := 68) C (dm_Mo_moved 36 rfl) rfl fl_Mo_249 Ha (mo_g24 Hf) ?_
      rw [r3]
      refine gi_lmul (q := 69) C (dm_Mo_moved 37 rfl) rfl ?_
      rw [eL_mul]
      refine gi_ladd (q := 70) C (dm_Mo_moved 38 rfl) rfl ?_
      rw [eL_add]
      refine gi_lstore (q := 72) C (dm_Mo_moved 39 rfl) rfl (Nat.le_of_ble_eq_true rfl) ?_
      refine gi_aload_n (q := 73) (i := 0) C (dm_Mo_moved 40 rfl) rfl rfl rfl ?_
      refine gi_lload (q := 75) C (dm_Mo_moved 41 rfl) rfl rfl ?_
      refine gi_lload (q := 77) C (dm_Mo_moved 42 rfl) rfl rfl ?_
      refine gi_aload_n (q := 78) (i := 0) C (dm_Mo_moved 43 rfl) rfl rfl rfl ?_
      refine gi_get (q := 81) C (dm_Mo_moved 44 rfl) rfl fl_Mo_249 Ha (mo_g24 Hf) ?_
      (try simp (disch := omega) only [lg_cmp_ge, lg_cmp_le, lg_cmp_gt, lg_cmp_lt, lg_cmp_eq, eL_0, eL_1, eL_m1, eL_LO, eL_HI, eL_W, eL_add, eL_sub, eL_mul, eL_neg, eL_lt, eL_le, eL_eq, eL_remN, eL_mod0, ne_eq, Int64.not_lt, Int64.not_le] at c16)
      (try simp (disch := omega) only [lg_cmp_ge, lg_cmp_le, lg_cmp_gt, lg_cmp_lt, lg_cmp_eq, eL_0, eL_1, eL_m1, eL_LO, eL_HI, eL_W, eL_add, eL_sub, eL_mul, eL_neg, eL_lt, eL_le, eL_eq, eL_remN, eL_mod0, ne_eq, Int64.not_lt, Int64.not_le] at c46)
      rw [r3]
      first
        | rw [show x.1 - (x.1 - ledD x.1) / x.2.2 * x.2.2 = (movS x a b).1 from (if_pos (by omega)).symm]
        | rw [show (Value.long (eL x.1)) = Value.long (eL (movS x a b).1) from by rw [show (movS x a b).1 = x.1 from if_neg (by omega)]]
      first
        | rw [show x.2.1 + (ledU x.2.1 - x.2.1) / x.2.2 * x.2.2 = (movS x a b).2.1 from (if_pos (by omega)).symm]
        | rw [show (Value.long (eL x.2.1)) = Value.long (eL (movS x a b).2.1) from by rw [show (movS x a b).2.1 = x.2.1 from if_neg (by omega)]]
      refine gi_callv 3 (q := 84) C (dm_Mo_moved 45 rfl) rfl my_Mo_set lk_Mo_262 im_Mo_set rfl (c_Mo_set (movS x a b).1 (movS x a b).2.1 x.2.2 (by omega) (by omega) (by omega) (by omega) H) Ha rfl rfl ⟨(Nat.le_of_ble_eq_true rfl), (Nat.le_of_ble_eq_true rfl)⟩ (Nat.le_of_ble_eq_true rfl) ⟨(Nat.le_of_ble_eq_true rfl), (Nat.le_of_ble_eq_true rfl)⟩ (fun r81 n81 h81 e81 => ?_)
      obtain ⟨rfl, rfl, W81⟩ := e81
      refine gi_vret C hr (dm_Mo_moved 46 rfl) ?_
      rw [mk] at W81
      exact ⟨rfl, rfl, W81⟩
  · (try simp (disch := omega) only [lg_cmp_ge, lg_cmp_le, lg_cmp_gt, lg_cmp_lt, lg_cmp_eq, eL_0, eL_1, eL_m1, eL_LO, eL_HI, eL_W, eL_add, eL_sub, eL_mul, eL_neg, eL_lt, eL_le, eL_eq, eL_remN, eL_mod0, ne_eq, Int64.not_lt, Int64.not_le] at c16)
    have s0 := hp (Or.inl (by omega))
    have dz : ¬ eL x.2.2 = 0 := fun z => by
      rw [eL_0, eL_eq (by omega) (by omega) (by omega) (by omega)] at z
      omega
    refine gi_lload (q := 21) C (dm_Mo_moved 10 rfl) rfl rfl ?_
    refine gi_lload (q := 23) C (dm_Mo_moved 11 rfl) rfl rfl ?_
    refine gi_lload (q := 25) C (dm_Mo_moved 12 rfl) rfl rfl ?_
    refine gi_calls 1 (q := 28) C (dm_Mo_moved 13 rfl) rfl my_Mo_pointBelow lk_Mo_386 sm_Mo_pointBelow (c_Mo_pointBelow x.1 (by omega) (by omega)) rfl rfl ⟨(Nat.le_of_ble_eq_true rfl), (Nat.le_of_ble_eq_true rfl)⟩ (Nat.le_of_ble_eq_true rfl) ⟨(Nat.le_of_ble_eq_true rfl), (Nat.le_of_ble_eq_true rfl)⟩ (fun r25 n25 h25 e25 => ?_)
    obtain ⟨rfl, q25, u25⟩ := e25
    rw [q25, u25]
    refine gi_lsub (q := 29) C (dm_Mo_moved 14 rfl) rfl ?_
    refine gi_aload_n (q := 30) (i := 0) C (dm_Mo_moved 15 rfl) rfl rfl rfl ?_
    refine gi_get (q := 33) C (dm_Mo_moved 16 rfl) rfl fl_Mo_249 Ha (mo_g24 Hf) ?_
    rw [r3, eL_sub]
    refine gi_ldiv (q := 34) C (dm_Mo_moved 17 rfl) rfl dz ?_
    rw [eL_divN (by omega) (by omega) (by omega) (by omega)]
    refine gi_aload_n (q := 35) (i := 0) C (dm_Mo_moved 18 rfl) rfl rfl rfl ?_
    refine gi_get (q := 38) C (dm_Mo_moved 19 rfl) rfl fl_Mo_249 Ha (mo_g24 Hf) ?_
    rw [r3]
    refine gi_lmul (q := 39) C (dm_Mo_moved 20 rfl) rfl ?_
    rw [eL_mul]
    refine gi_lsub (q := 40) C (dm_Mo_moved 21 rfl) rfl ?_
    rw [eL_sub]
    refine gi_lstore (q := 42) C (dm_Mo_moved 22 rfl) rfl (Nat.le_of_ble_eq_true rfl) ?_
    refine gi_lload (q := 44) C (dm_Mo_moved 23 rfl) rfl rfl ?_
    refine gi_lload_n (q := 45) (i := 3) C (dm_Mo_moved 24 rfl) rfl rfl rfl ?_
    refine gi_lcmp (q := 46) C (dm_Mo_moved 25 rfl) rfl ?_
    refine gi_if_le (q := 49) (tgt := 72) C (dm_Mo_moved 26 rfl) rfl (by decide) (fun c46 => ?_) (fun c46 => ?_)
    · refine gi_aload_n (q := 73) (i := 0) C (dm_Mo_moved 40 rfl) rfl rfl rfl ?_
      refine gi_lload (q := 75) C (dm_Mo_moved 41 rfl) rfl rfl ?_
      refine gi_lload (q := 77) C (dm_Mo_moved 42 rfl) rfl rfl ?_
      refine gi_aload_n (q := 78) (i := 0) C (dm_Mo_moved 43 rfl) rfl rfl rfl ?_
      refine gi_get (q := 81) C (dm_Mo_moved 44 rfl) rfl fl_Mo_249 Ha (mo_g24 Hf) ?_
      (try simp (disch := omega) only [lg_cmp_ge, lg_cmp_le, lg_cmp_gt, lg_cmp_lt, lg_cmp_eq, eL_0, eL_1, eL_m1, eL_LO, eL_HI, eL_W, eL_add, eL_sub, eL_mul, eL_neg, eL_lt, eL_le, eL_eq, eL_remN, eL_mod0, ne_eq, Int64.not_lt, Int64.not_le] at c16)
      (try simp (disch := omega) only [lg_cmp_ge, lg_cmp_le, lg_cmp_gt, lg_cmp_lt, lg_cmp_eq, eL_0, eL_1, eL_m1, eL_LO, eL_HI, eL_W, eL_add, eL_sub, eL_mul, eL_neg, eL_lt, eL_le, eL_eq, eL_remN, eL_mod0, ne_eq, Int64.not_lt, Int64.not_le] at c46)
      rw [r3]
      first
        | rw [show x.1 - (x.1 - ledD x.1) / x.2.2 * x.2.2 = (movS x a b).1 from (if_pos (by omega)).symm]
        | rw [show (Value.long (eL x.1)) = Value.long (eL (movS x a b).1) from by rw [show (movS x a b).1 = x.1 from if_neg (by omega)]]
      first
        | rw [show x.2.1 + (ledU x.2.1 - x.2.1) / x.2.2 * x.2.2 = (movS x a b).2.1 from (if_pos (by omega)).symm]
        | rw [show (Value.long (eL x.2.1)) = Value.long (eL (movS x a b).2.1) from by rw [show (movS x a b).2.1 = x.2.1 from if_neg (by omega)]]
      refine gi_callv 3 (q := 84) C (dm_Mo_moved 45 rfl) rfl my_Mo_set lk_Mo_262 im_Mo_set rfl (c_Mo_set (movS x a b).1 (movS x a b).2.1 x.2.2 (by omega) (by omega) (by omega) (by omega) H) Ha rfl rfl ⟨(Nat.le_of_ble_eq_true rfl), (Nat.le_of_ble_eq_true rfl)⟩ (Nat.le_of_ble_eq_true rfl) ⟨(Nat.le_of_ble_eq_true rfl), (Nat.le_of_ble_eq_true rfl)⟩ (fun r81 n81 h81 e81 => ?_)
      obtain ⟨rfl, rfl, W81⟩ := e81
      refine gi_vret C hr (dm_Mo_moved 46 rfl) ?_
      rw [mk] at W81
      exact ⟨rfl, rfl, W81⟩
    · (try simp (disch := omega) only [lg_cmp_ge, lg_cmp_le, lg_cmp_gt, lg_cmp_lt, lg_cmp_eq, eL_0, eL_1, eL_m1, eL_LO, eL_HI, eL_W, eL_add, eL_sub, eL_mul, eL_neg, eL_lt, eL_le, eL_eq, eL_remN, eL_mod0, ne_eq, Int64.not_lt, Int64.not_le] at c46)
      have s0 := hp (Or.inr (by omega))
      have dz : ¬ eL x.2.2 = 0 := fun z => by
        rw [eL_0, eL_eq (by omega) (by omega) (by omega) (by omega)] at z
        omega
      refine gi_lload (q := 51) C (dm_Mo_moved 27 rfl) rfl rfl ?_
      refine gi_lload (q := 53) C (dm_Mo_moved 28 rfl) rfl rfl ?_
      refine gi_calls 1 (q := 56) C (dm_Mo_moved 29 rfl) rfl my_Mo_pointAbove lk_Mo_389 sm_Mo_pointAbove (c_Mo_pointAbove x.2.1 (by omega) (by omega)) rfl rfl ⟨(Nat.le_of_ble_eq_true rfl), (Nat.le_of_ble_eq_true rfl)⟩ (Nat.le_of_ble_eq_true rfl) ⟨(Nat.le_of_ble_eq_true rfl), (Nat.le_of_ble_eq_true rfl)⟩ (fun r53 n53 h53 e53 => ?_)
      obtain ⟨rfl, q53, u53⟩ := e53
      rw [q53, u53]
      refine gi_lload (q := 58) C (dm_Mo_moved 30 rfl) rfl rfl ?_
      refine gi_lsub (q := 59) C (dm_Mo_moved 31 rfl) rfl ?_
      rw [eL_sub]
      refine gi_aload_n (q := 60) (i := 0) C (dm_Mo_moved 32 rfl) rfl rfl rfl ?_
      refine gi_get (q := 63) C (dm_Mo_moved 33 rfl) rfl fl_Mo_249 Ha (mo_g24 Hf) ?_
      rw [r3]
      refine gi_ldiv (q := 64) C (dm_Mo_moved 34 rfl) rfl dz ?_
      rw [eL_divN (by omega) (by omega) (by omega) (by omega)]
      refine gi_aload_n (q := 65) (i := 0) C (dm_Mo_moved 35 rfl) rfl rfl rfl ?_
      refine gi_get (q := 68) C (dm_Mo_moved 36 rfl) rfl fl_Mo_249 Ha (mo_g24 Hf) ?_
      rw [r3]
      refine gi_lmul (q := 69) C (dm_Mo_moved 37 rfl) rfl ?_
      rw [eL_mul]
      refine gi_ladd (q := 70) C (dm_Mo_moved 38 rfl) rfl ?_
      rw [eL_add]
      refine gi_lstore (q := 72) C (dm_Mo_moved 39 rfl) rfl (Nat.le_of_ble_eq_true rfl) ?_
      refine gi_aload_n (q := 73) (i := 0) C (dm_Mo_moved 40 rfl) rfl rfl rfl ?_
      refine gi_lload (q := 75) C (dm_Mo_moved 41 rfl) rfl rfl ?_
      refine gi_lload (q := 77) C (dm_Mo_moved 42 rfl) rfl rfl ?_
      refine gi_aload_n (q := 78) (i := 0) C (dm_Mo_moved 43 rfl) rfl rfl rfl ?_
      refine gi_get (q := 81) C (dm_Mo_moved 44 rfl) rfl fl_Mo_249 Ha (mo_g24 Hf) ?_
      (try simp (disch := omega) only [lg_cmp_ge, lg_cmp_le, lg_cmp_gt, lg_cmp_lt, lg_cmp_eq, eL_0, eL_1, eL_m1, eL_LO, eL_HI, eL_W, eL_add, eL_sub, eL_mul, eL_neg, eL_lt, eL_le, eL_eq, eL_remN, eL_mod0, ne_eq, Int64.not_lt, Int64.not_le] at c16)
      (try simp (disch := omega) only [lg_cmp_ge, lg_cmp_le, lg_cmp_gt, lg_cmp_lt, lg_cmp_eq, eL_0, eL_1, eL_m1, eL_LO, eL_HI, eL_W, eL_add, eL_sub, eL_mul, eL_neg, eL_lt, eL_le, eL_eq, eL_remN, eL_mod0, ne_eq, Int64.not_lt, Int64.not_le] at c46)
      rw [r3]
      first
        | rw [show x.1 - (x.1 - ledD x.1) / x.2.2 * x.2.2 = (movS x a b).1 from (if_pos (by omega)).symm]
        | rw [show (Value.long (eL x.1)) = Value.long (eL (movS x a b).1) from by rw [show (movS x a b).1 = x.1 from if_neg (by omega)]]
      first
        | rw [show x.2.1 + (ledU x.2.1 - x.2.1) / x.2.2 * x.2.2 = (movS x a b).2.1 from (if_pos (by omega)).symm]
        | rw [show (Value.long (eL x.2.1)) = Value.long (eL (movS x a b).2.1) from by rw [show (movS x a b).2.1 = x.2.1 from if_neg (by omega)]]
      refine gi_callv 3 (q := 84) C (dm_Mo_moved 45 rfl) rfl my_Mo_set lk_Mo_262 im_Mo_set rfl (c_Mo_set (movS x a b).1 (movS x a b).2.1 x.2.2 (by omega) (by omega) (by omega) (by omega) H) Ha rfl rfl ⟨(Nat.le_of_ble_eq_true rfl), (Nat.le_of_ble_eq_true rfl)⟩ (Nat.le_of_ble_eq_true rfl) ⟨(Nat.le_of_ble_eq_true rfl), (Nat.le_of_ble_eq_true rfl)⟩ (fun r81 n81 h81 e81 => ?_)
      obtain ⟨rfl, rfl, W81⟩ := e81
      refine gi_vret C hr (dm_Mo_moved 46 rfl) ?_
      rw [mk] at W81
      exact ⟨rfl, rfl, W81⟩
set_option maxHeartbeats 4000000 in
set_option maxRecDepth 100000 in
theorem c_Mo_withoutEnd (x : Sp) (c : Int) (hx : okS x) (c1 : -4294967296 ≤ c) (c2 : c ≤ 4294967296) (H : mo_at M S J F G h) : gi_T l V y_Mo_withoutEnd b_Mo_withoutEnd 9 (some .boolean) 1 26 0 0 [.ref M, .long (eL x.1), .long (eL x.2.1), .long (eL x.2.2), .long (eL c)] n h (fun v n' h' => v = some (.int (bI (loseS x c).isSome)) ∧ n' = n ∧ moW M F G h S J (loseS x c) h') := by
  refine gi_enter (by decide) (Nat.le_of_ble_eq_true rfl) ?_
  intro _ _ _ _ _ _ _ _ C hr hnm
  obtain ⟨fs, Ha, Hf⟩ := id H.1
  have ho : outM M h h := outM.rf
  obtain ⟨x1, x2, x3, x4, -⟩ := id hx
  have x5 := hx.st
  refine gi_lload_n (q := 1) (i := 1) C (dm_Mo_withoutEnd 0 rfl) rfl rfl rfl ?_
  refine gi_lload (q := 3) C (dm_Mo_withoutEnd 1 rfl) rfl rfl ?_
  refine gi_lcmp (q := 4) C (dm_Mo_withoutEnd 2 rfl) rfl ?_
  refine gi_if_ne (q := 7) (tgt := 16) C (dm_Mo_withoutEnd 3 rfl) rfl (by decide) (fun c4 => ?_) (fun c4 => ?_)
  · refine gi_aload_n (q := 17) (i := 0) C (dm_Mo_withoutEnd 10 rfl) rfl rfl rfl ?_
    refine gi_lload_n (q := 18) (i := 1) C (dm_Mo_withoutEnd 11 rfl) rfl rfl rfl ?_
    refine gi_lload (q := 20) C (dm_Mo_withoutEnd 12 rfl) rfl rfl ?_
    refine gi_lcmp (q := 21) C (dm_Mo_withoutEnd 13 rfl) rfl ?_
    refine gi_if_ne (q := 24) (tgt := 31) C (dm_Mo_withoutEnd 14 rfl) rfl (by decide) (fun c21 => ?_) (fun c21 => ?_)
    · refine gi_lload_n (q := 32) (i := 1) C (dm_Mo_withoutEnd 19 rfl) rfl rfl rfl ?_
      refine gi_lload_n (q := 33) (i := 3) C (dm_Mo_withoutEnd 20 rfl) rfl rfl rfl ?_
      refine gi_lload (q := 35) C (dm_Mo_withoutEnd 21 rfl) rfl rfl ?_
      refine gi_lcmp (q := 36) C (dm_Mo_withoutEnd 22 rfl) rfl ?_
      refine gi_if_ne (q := 39) (tgt := 46) C (dm_Mo_withoutEnd 23 rfl) rfl (by decide) (fun c36 => ?_) (fun c36 => ?_)
      · refine gi_lload_n (q := 47) (i := 3) C (dm_Mo_withoutEnd 28 rfl) rfl rfl rfl ?_
        refine gi_lload (q := 49) C (dm_Mo_withoutEnd 29 rfl) rfl rfl ?_
        refine gi_callv 3 (q := 52) C (dm_Mo_withoutEnd 30 rfl) rfl my_Mo_set lk_Mo_262 im_Mo_set rfl (c_Mo_set (x.1) (x.2.1) x.2.2 (by omega) (by omega) (by omega) (by omega) H) Ha rfl rfl ⟨(Nat.le_of_ble_eq_true rfl), (Nat.le_of_ble_eq_true rfl)⟩ (Nat.le_of_ble_eq_true rfl) ⟨(Nat.le_of_ble_eq_true rfl), (Nat.le_of_ble_eq_true rfl)⟩ (fun r49 n49 h49 e49 => ?_)
        obtain ⟨rfl, rfl, W49⟩ := e49
        refine gi_iconst (q := 53) (v := 1) C (dm_Mo_withoutEnd 31 rfl) rfl (by decide) ?_
        refine gi_zret C hr (dm_Mo_withoutEnd 32 rfl) rfl ?_
        (try simp (disch := omega) only [lg_cmp_ge, lg_cmp_le, lg_cmp_gt, lg_cmp_lt, lg_cmp_eq, eL_0, eL_1, eL_m1, eL_LO, eL_HI, eL_W, eL_add, eL_sub, eL_mul, eL_neg, eL_lt, eL_le, eL_eq, eL_remN, eL_mod0, ne_eq, Int64.not_lt, Int64.not_le] at c4)
        (try simp (disch := omega) only [lg_cmp_ge, lg_cmp_le, lg_cmp_gt, lg_cmp_lt, lg_cmp_eq, eL_0, eL_1, eL_m1, eL_LO, eL_HI, eL_W, eL_add, eL_sub, eL_mul, eL_neg, eL_lt, eL_le, eL_eq, eL_remN, eL_mod0, ne_eq, Int64.not_lt, Int64.not_le] at c11)
        (try simp (disch := omega) only [lg_cmp_ge, lg_cmp_le, lg_cmp_gt, lg_cmp_lt, lg_cmp_eq, eL_0, eL_1, eL_m1, eL_LO, eL_HI, eL_W, eL_add, eL_sub, eL_mul, eL_neg, eL_lt, eL_le, eL_eq, eL_remN, eL_mod0, ne_eq, Int64.not_lt, Int64.not_le] at c21)
        (try simp (disch := omega) only [lg_cmp_ge, lg_cmp_le, lg_cmp_gt, lg_cmp_lt, lg_cmp_eq, eL_0, eL_1, eL_m1, eL_LO, eL_HI, eL_W, eL_add, eL_sub, eL_mul, eL_neg, eL_lt, eL_le, eL_eq, eL_remN, eL_mod0, ne_eq, Int64.not_lt, Int64.not_le] at c36)
        obtain ⟨S3, J3, m3, o3, r3, i3⟩ := W49
        first
          | (rw [show loseS x c = some (mkS (x.1) (x.2.1) x.2.2) from by
               unfold loseS
               rw [if_neg (by omega), if_neg (by omega), if_neg (by omega)]]
             exact ⟨rfl, rfl, S3, J3, m3, o3, r3, fun z e => by cases e; exact i3⟩)
          | (exfalso; omega)
      · refine gi_lload_n (q := 40) (i := 3) C (dm_Mo_withoutEnd 24 rfl) rfl rfl rfl ?_
        refine gi_lload (q := 42) C (dm_Mo_withoutEnd 25 rfl) rfl rfl ?_
        refine gi_lsub (q := 43) C (dm_Mo_withoutEnd 26 rfl) rfl ?_
        rw [eL_sub]
        refine gi_goto (tgt := 47) C (dm_Mo_withoutEnd 27 rfl) (by decide) ?_
        refine gi_lload (q := 49) C (dm_Mo_withoutEnd 29 rfl) rfl rfl ?_
        refine gi_callv 3 (q := 52) C (dm_Mo_withoutEnd 30 rfl) rfl my_Mo_set lk_Mo_262 im_Mo_set rfl (c_Mo_set (x.1) (x.2.1 - x.2.2) x.2.2 (by omega) (by omega) (by omega) (by omega) H) Ha rfl rfl ⟨(Nat.le_of_ble_eq_true rfl), (Nat.le_of_ble_eq_true rfl)⟩ (Nat.le_of_ble_eq_true rfl) ⟨(Nat.le_of_ble_eq_true rfl), (Nat.le_of_ble_eq_true rfl)⟩ (fun r49 n49 h49 e49 => ?_)
        obtain ⟨rfl, rfl, W49⟩ := e49
        refine gi_iconst (q := 53) (v := 1) C (dm_Mo_withoutEnd 31 rfl) rfl (by decide) ?_
        refine gi_zret C hr (dm_Mo_withoutEnd 32 rfl) rfl ?_
        (try simp (disch := omega) only [lg_cmp_ge, lg_cmp_le, lg_cmp_gt, lg_cmp_lt, lg_cmp_eq, eL_0, eL_1, eL_m1, eL_LO, eL_HI, eL_W, eL_add, eL_sub, eL_mul, eL_neg, eL_lt, eL_le, eL_eq, eL_remN, eL_mod0, ne_eq, Int64.not_lt, Int64.not_le] at c4)
        (try simp (disch := omega) only [lg_cmp_ge, lg_cmp_le, lg_cmp_gt, lg_cmp_lt, lg_cmp_eq, eL_0, eL_1, eL_m1, eL_LO, eL_HI, eL_W, eL_add, eL_sub, eL_mul, eL_neg, eL_lt, eL_le, eL_eq, eL_remN, eL_mod0, ne_eq, Int64.not_lt, Int64.not_le] at c11)
        (try simp (disch := omega) only [lg_cmp_ge, lg_cmp_le, lg_cmp_gt, lg_cmp_lt, lg_cmp_eq, eL_0, eL_1, eL_m1, eL_LO, eL_HI, eL_W, eL_add, eL_sub, eL_mul, eL_neg, eL_lt, eL_le, eL_eq, eL_remN, eL_mod0, ne_eq, Int64.not_lt, Int64.not_le] at c21)
        (try simp (disch := omega) only [lg_cmp_ge, lg_cmp_le, lg_cmp_gt, lg_cmp_lt, lg_cmp_eq, eL_0, eL_1, eL_m1, eL_LO, eL_HI, eL_W, eL_add, eL_sub, eL_mul, eL_neg, eL_lt, eL_le, eL_eq, eL_remN, eL_mod0, ne_eq, Int64.not_lt, Int64.not_le] at c36)
        obtain ⟨S3, J3, m3, o3, r3, i3⟩ := W49
        first
          | (rw [show loseS x c = some (mkS (x.1) (x.2.1 - x.2.2) x.2.2) from by
               unfold loseS
               rw [if_neg (by omega), if_neg (by omega), if_pos (by omega)]]
             exact ⟨rfl, rfl, S3, J3, m3, o3, r3, fun z e => by cases e; exact i3⟩)
          | (exfalso; omega)
    · refine gi_lload_n (q := 25) (i := 1) C (dm_Mo_withoutEnd 15 rfl) rfl rfl rfl ?_
      refine gi_lload (q := 27) C (dm_Mo_withoutEnd 16 rfl) rfl rfl ?_
      refine gi_ladd (q := 28) C (dm_Mo_withoutEnd 17 rfl) rfl ?_
      rw [eL_add]
      refine gi_goto (tgt := 32) C (dm_Mo_withoutEnd 18 rfl) (by decide) ?_
      refine gi_lload_n (q := 33) (i := 3) C (dm_Mo_withoutEnd 20 rfl) rfl rfl rfl ?_
      refine gi_lload (q := 35) C (dm_Mo_withoutEnd 21 rfl) rfl rfl ?_
      refine gi_lcmp (q := 36) C (dm_Mo_withoutEnd 22 rfl) rfl ?_
      refine gi_if_ne (q := 39) (tgt := 46) C (dm_Mo_withoutEnd 23 rfl) rfl (by decide) (fun c36 => ?_) (fun c36 => ?_)
      · refine gi_lload_n (q := 47) (i := 3) C (dm_Mo_withoutEnd 28 rfl) rfl rfl rfl ?_
        refine gi_lload (q := 49) C (dm_Mo_withoutEnd 29 rfl) rfl rfl ?_
        refine gi_callv 3 (q := 52) C (dm_Mo_withoutEnd 30 rfl) rfl my_Mo_set lk_Mo_262 im_Mo_set rfl (c_Mo_set (x.1 + x.2.2) (x.2.1) x.2.2 (by omega) (by omega) (by omega) (by omega) H) Ha rfl rfl ⟨(Nat.le_of_ble_eq_true rfl), (Nat.le_of_ble_eq_true rfl)⟩ (Nat.le_of_ble_eq_true rfl) ⟨(Nat.le_of_ble_eq_true rfl), (Nat.le_of_ble_eq_true rfl)⟩ (fun r49 n49 h49 e49 => ?_)
        obtain ⟨rfl, rfl, W49⟩ := e49
        refine gi_iconst (q := 53) (v := 1) C (dm_Mo_withoutEnd 31 rfl) rfl (by decide) ?_
        refine gi_zret C hr (dm_Mo_withoutEnd 32 rfl) rfl ?_
        (try simp (disch := omega) only [lg_cmp_ge, lg_cmp_le, lg_cmp_gt, lg_cmp_lt, lg_cmp_eq, eL_0, eL_1, eL_m1, eL_LO, eL_HI, eL_W, eL_add, eL_sub, eL_mul, eL_neg, eL_lt, eL_le, eL_eq, eL_remN, eL_mod0, ne_eq, Int64.not_lt, Int64.not_le] at c4)
        (try simp (disch := omega) only [lg_cmp_ge, lg_cmp_le, lg_cmp_gt, lg_cmp_lt, lg_cmp_eq, eL_0, eL_1, eL_m1, eL_LO, eL_HI, eL_W, eL_add, eL_sub, eL_mul, eL_neg, eL_lt, eL_le, eL_eq, eL_remN, eL_mod0, ne_eq, Int64.not_lt, Int64.not_le] at c11)
        (try simp (disch := omega) only [lg_cmp_ge, lg_cmp_le, lg_cmp_gt, lg_cmp_lt, lg_cmp_eq, eL_0, eL_1, eL_m1, eL_LO, eL_HI, eL_W, eL_add, eL_sub, eL_mul, eL_neg, eL_lt, eL_le, eL_eq, eL_remN, eL_mod0, ne_eq, Int64.not_lt, Int64.not_le] at c21)
        (try simp (disch := omega) only [lg_cmp_ge, lg_cmp_le, lg_cmp_gt, lg_cmp_lt, lg_cmp_eq, eL_0, eL_1, eL_m1, eL_LO, eL_HI, eL_W, eL_add, eL_sub, eL_mul, eL_neg, eL_lt, eL_le, eL_eq, eL_remN, eL_mod0, ne_eq, Int64.not_lt, Int64.not_le] at c36)
        obtain ⟨S3, J3, m3, o3, r3, i3⟩ := W49
        first
          | (rw [show loseS x c = some (mkS (x.1 + x.2.2) (x.2.1) x.2.2) from by
               unfold loseS
               rw [if_neg (by omega), if_pos (by omega), if_neg (by omega)]]
             exact ⟨rfl, rfl, S3, J3, m3, o3, r3, fun z e => by cases e; exact i3⟩)
          | (exfalso; omega)
      · refine gi_lload_n (q := 40) (i := 3) C (dm_Mo_withoutEnd 24 rfl) rfl rfl rfl ?_
        refine gi_lload (q := 42) C (dm_Mo_withoutEnd 25 rfl) rfl rfl ?_
        refine gi_lsub (q := 43) C (dm_Mo_withoutEnd 26 rfl) rfl ?_
        rw [eL_sub]
        refine gi_goto (tgt := 47) C (dm_Mo_withoutEnd 27 rfl) (by decide) ?_
        refine gi_lload (q := 49) C (dm_Mo_withoutEnd 29 rfl) rfl rfl ?_
        refine gi_callv 3 (q := 52) C (dm_Mo_withoutEnd 30 rfl) rfl my_Mo_set lk_Mo_262 im_Mo_set rfl (c_Mo_set (x.1 + x.2.2) (x.2.1 - x.2.2) x.2.2 (by omega) (by omega) (by omega) (by omega) H) Ha rfl rfl ⟨(Nat.le_of_ble_eq_true rfl), (Nat.le_of_ble_eq_true rfl)⟩ (Nat.le_of_ble_eq_true rfl) ⟨(Nat.le_of_ble_eq_true rfl), (Nat.le_of_ble_eq_true rfl)⟩ (fun r49 n49 h49 e49 => ?_)
        obtain ⟨rfl, rfl, W49⟩ := e49
        refine gi_iconst (q := 53) (v := 1) C (dm_Mo_withoutEnd 31 rfl) rfl (by decide) ?_
        refine gi_zret C hr (dm_Mo_withoutEnd 32 rfl) rfl ?_
        (try simp (disch := omega) only [lg_cmp_ge, lg_cmp_le, lg_cmp_gt, lg_cmp_lt, lg_cmp_eq, eL_0, eL_1, eL_m1, eL_LO, eL_HI, eL_W, eL_add, eL_sub, eL_mul, eL_neg, eL_lt, eL_le, eL_eq, eL_remN, eL_mod0, ne_eq, Int64.not_lt, Int64.not_le] at c4)
        (try simp (disch := omega) only [lg_cmp_ge, lg_cmp_le, lg_cmp_gt, lg_cmp_lt, lg_cmp_eq, eL_0, eL_1, eL_m1, eL_LO, eL_HI, eL_W, eL_add, eL_sub, eL_mul, eL_neg, eL_lt, eL_le, eL_eq, eL_remN, eL_mod0, ne_eq, Int64.not_lt, Int64.not_le] at c11)
        (try simp (disch := omega) only [lg_cmp_ge, lg_cmp_le, lg_cmp_gt, lg_cmp_lt, lg_cmp_eq, eL_0, eL_1, eL_m1, eL_LO, eL_HI, eL_W, eL_add, eL_sub, eL_mul, eL_neg, eL_lt, eL_le, eL_eq, eL_remN, eL_mod0, ne_eq, Int64.not_lt, Int64.not_le] at c21)
        (try simp (disch := omega) only [lg_cmp_ge, lg_cmp_le, lg_cmp_gt, lg_cmp_lt, lg_cmp_eq, eL_0, eL_1, eL_m1, eL_LO, eL_HI, eL_W, eL_add, eL_sub, eL_mul, eL_neg, eL_lt, eL_le, eL_eq, eL_remN, eL_mod0, ne_eq, Int64.not_lt, Int64.not_le] at c36)
        obtain ⟨S3, J3, m3, o3, r3, i3⟩ := W49
        first
          | (rw [show loseS x c = some (mkS (x.1 + x.2.2) (x.2.1 - x.2.2) x.2.2) from by
               unfold loseS
               rw [if_neg (by omega), if_pos (by omega), if_pos (by omega)]]
             exact ⟨rfl, rfl, S3, J3, m3, o3, r3, fun z e => by cases e; exact i3⟩)
          | (exfalso; omega)
  · refine gi_lload_n (q := 8) (i := 3) C (dm_Mo_withoutEnd 4 rfl) rfl rfl rfl ?_
    refine gi_lload (q := 10) C (dm_Mo_withoutEnd 5 rfl) rfl rfl ?_
    refine gi_lcmp (q := 11) C (dm_Mo_withoutEnd 6 rfl) rfl ?_
    refine gi_if_ne (q := 14) (tgt := 16) C (dm_Mo_withoutEnd 7 rfl) rfl (by decide) (fun c11 => ?_) (fun c11 => ?_)
    · refine gi_aload_n (q := 17) (i := 0) C (dm_Mo_withoutEnd 10 rfl) rfl rfl rfl ?_
      refine gi_lload_n (q := 18) (i := 1) C (dm_Mo_withoutEnd 11 rfl) rfl rfl rfl ?_
      refine gi_lload (q := 20) C (dm_Mo_withoutEnd 12 rfl) rfl rfl ?_
      refine gi_lcmp (q := 21) C (dm_Mo_withoutEnd 13 rfl) rfl ?_
      refine gi_if_ne (q := 24) (tgt := 31) C (dm_Mo_withoutEnd 14 rfl) rfl (by decide) (fun c21 => ?_) (fun c21 => ?_)
      · refine gi_lload_n (q := 32) (i := 1) C (dm_Mo_withoutEnd 19 rfl) rfl rfl rfl ?_
        refine gi_lload_n (q := 33) (i := 3) C (dm_Mo_withoutEnd 20 rfl) rfl rfl rfl ?_
        refine gi_lload (q := 35) C (dm_Mo_withoutEnd 21 rfl) rfl rfl ?_
        refine gi_lcmp (q := 36) C (dm_Mo_withoutEnd 22 rfl) rfl ?_
        refine gi_if_ne (q := 39) (tgt := 46) C (dm_Mo_withoutEnd 23 rfl) rfl (by decide) (fun c36 => ?_) (fun c36 => ?_)
        · refine gi_lload_n (q := 47) (i := 3) C (dm_Mo_withoutEnd 28 rfl) rfl rfl rfl ?_
          refine gi_lload (q := 49) C (dm_Mo_withoutEnd 29 rfl) rfl rfl ?_
          refine gi_callv 3 (q := 52) C (dm_Mo_withoutEnd 30 rfl) rfl my_Mo_set lk_Mo_262 im_Mo_set rfl (c_Mo_set (x.1) (x.2.1) x.2.2 (by omega) (by omega) (by omega) (by omega) H) Ha rfl rfl ⟨(Nat.le_of_ble_eq_true rfl), (Nat.le_of_ble_eq_true rfl)⟩ (Nat.le_of_ble_eq_true rfl) ⟨(Nat.le_of_ble_eq_true rfl), (Nat.le_of_ble_eq_true rfl)⟩ (fun r49 n49 h49 e49 => ?_)
          obtain ⟨rfl, rfl, W49⟩ := e49
          refine gi_iconst (q := 53) (v := 1) C (dm_Mo_withoutEnd 31 rfl) rfl (by decide) ?_
          refine gi_zret C hr (dm_Mo_withoutEnd 32 rfl) rfl ?_
          (try simp (disch := omega) only [lg_cmp_ge, lg_cmp_le, lg_cmp_gt, lg_cmp_lt, lg_cmp_eq, eL_0, eL_1, eL_m1, eL_LO, eL_HI, eL_W, eL_add, eL_sub, eL_mul, eL_neg, eL_lt, eL_le, eL_eq, eL_remN, eL_mod0, ne_eq, Int64.not_lt, Int64.not_le] at c4)
          (try simp (disch := omega) only [lg_cmp_ge, lg_cmp_le, lg_cmp_gt, lg_cmp_lt, lg_cmp_eq, eL_0, eL_1, eL_m1, eL_LO, eL_HI, eL_W, eL_add, eL_sub, eL_mul, eL_neg, eL_lt, eL_le, eL_eq, eL_remN, eL_mod0, ne_eq, Int64.not_lt, Int64.not_le] at c11)
          (try simp (disch := omega) only [lg_cmp_ge, lg_cmp_le, lg_cmp_gt, lg_cmp_lt, lg_cmp_eq, eL_0, eL_1, eL_m1, eL_LO, eL_HI, eL_W, eL_add, eL_sub, eL_mul, eL_neg, eL_lt, eL_le, eL_eq, eL_remN, eL_mod0, ne_eq, Int64.not_lt, Int64.not_le] at c21)
          (try simp (disch := omega) only [lg_cmp_ge, lg_cmp_le, lg_cmp_gt, lg_cmp_lt, lg_cmp_eq, eL_0, eL_1, eL_m1, eL_LO, eL_HI, eL_W, eL_add, eL_sub, eL_mul, eL_neg, eL_lt, eL_le, eL_eq, eL_remN, eL_mod0, ne_eq, Int64.not_lt, Int64.not_le] at c36)
          obtain ⟨S3, J3, m3, o3, r3, i3⟩ := W49
          first
            | (rw [show loseS x c = some (mkS (x.1) (x.2.1) x.2.2) from by
                 unfold loseS
                 rw [if_neg (by omega), if_neg (by omega), if_neg (by omega)]]
               exact ⟨rfl, rfl, S3, J3, m3, o3, r3, fun z e => by cases e; exact i3⟩)
            | (exfalso; omega)
        · refine gi_lload_n (q := 40) (i := 3) C (dm_Mo_withoutEnd 24 rfl) rfl rfl rfl ?_
          refine gi_lload (q := 42) C (dm_Mo_withoutEnd 25 rfl) rfl rfl ?_
          refine gi_lsub (q := 43) C (dm_Mo_withoutEnd 26 rfl) rfl ?_
          rw [eL_sub]
          refine gi_goto (tgt := 47) C (dm_Mo_withoutEnd 27 rfl) (by decide) ?_
          refine gi_lload (q := 49) C (dm_Mo_withoutEnd 29 rfl) rfl rfl ?_
          refine gi_callv 3 (q := 52) C (dm_Mo_withoutEnd 30 rfl) rfl my_Mo_set lk_Mo_262 im_Mo_set rfl (c_Mo_set (x.1) (x.2.1 - x.2.2) x.2.2 (by omega) (by omega) (by omega) (by omega) H) Ha rfl rfl ⟨(Nat.le_of_ble_eq_true rfl), (Nat.le_of_ble_eq_true rfl)⟩ (Nat.le_of_ble_eq_true rfl) ⟨(Nat.le_of_ble_eq_true rfl), (Nat.le_of_ble_eq_true rfl)⟩ (fun r49 n49 h49 e49 => ?_)
          obtain ⟨rfl, rfl, W49⟩ := e49
          refine gi_iconst (q := 53) (v := 1) C (dm_Mo_withoutEnd 31 rfl) rfl (by decide) ?_
          refine gi_zret C hr (dm_Mo_withoutEnd 32 rfl) rfl ?_
          (try simp (disch := omega) only [lg_cmp_ge, lg_cmp_le, lg_cmp_gt, lg_cmp_lt, lg_cmp_eq, eL_0, eL_1, eL_m1, eL_LO, eL_HI, eL_W, eL_add, eL_sub, eL_mul, eL_neg, eL_lt, eL_le, eL_eq, eL_remN, eL_mod0, ne_eq, Int64.not_lt, Int64.not_le] at c4)
          (try simp (disch := omega) only [lg_cmp_ge, lg_cmp_le, lg_cmp_gt, lg_cmp_lt, lg_cmp_eq, eL_0, eL_1, eL_m1, eL_LO, eL_HI, eL_W, eL_add, eL_sub, eL_mul, eL_neg, eL_lt, eL_le, eL_eq, eL_remN, eL_mod0, ne_eq, Int64.not_lt, Int64.not_le] at c11)
          (try simp (disch := omega) only [lg_cmp_ge, lg_cmp_le, lg_cmp_gt, lg_cmp_lt, lg_cmp_eq, eL_0, eL_1, eL_m1, eL_LO, eL_HI, eL_W, eL_add, eL_sub, eL_mul, eL_neg, eL_lt, eL_le, eL_eq, eL_remN, eL_mod0, ne_eq, Int64.not_lt, Int64.not_le] at c21)
          (try simp (disch := omega) only [lg_cmp_ge, lg_cmp_le, lg_cmp_gt, lg_cmp_lt, lg_cmp_eq, eL_0, eL_1, eL_m1, eL_LO, eL_HI, eL_W, eL_add, eL_sub, eL_mul, eL_neg, eL_lt, eL_le, eL_eq, eL_remN, eL_mod0, ne_eq, Int64.not_lt, Int64.not_le] at c36)
          obtain ⟨S3, J3, m3, o3, r3, i3⟩ := W49
          first
            | (rw [show loseS x c = some (mkS (x.1) (x.2.1 - x.2.2) x.2.2) from by
                 unfold loseS
                 rw [if_neg (by omega), if_neg (by omega), if_pos (by omega)]]
               exact ⟨rfl, rfl, S3, J3, m3, o3, r3, fun z e => by cases e; exact i3⟩)
            | (exfalso; omega)
      · refine gi_lload_n (q := 25) (i := 1) C (dm_Mo_withoutEnd 15 rfl) rfl rfl rfl ?_
        refine gi_lload (q := 27) C (dm_Mo_withoutEnd 16 rfl) rfl rfl ?_
        refine gi_ladd (q := 28) C (dm_Mo_withoutEnd 17 rfl) rfl ?_
        rw [eL_add]
        refine gi_goto (tgt := 32) C (dm_Mo_withoutEnd 18 rfl) (by decide) ?_
        refine gi_lload_n (q := 33) (i := 3) C (dm_Mo_withoutEnd 20 rfl) rfl rfl rfl ?_
        refine gi_lload (q := 35) C (dm_Mo_withoutEnd 21 rfl) rfl rfl ?_
        refine gi_lcmp (q := 36) C (dm_Mo_withoutEnd 22 rfl) rfl ?_
        refine gi_if_ne (q := 39) (tgt := 46) C (dm_Mo_withoutEnd 23 rfl) rfl (by decide) (fun c36 => ?_) (fun c36 => ?_)
        · refine gi_lload_n (q := 47) (i := 3) C (dm_Mo_withoutEnd 28 rfl) rfl rfl rfl ?_
          refine gi_lload (q := 49) C (dm_Mo_withoutEnd 29 rfl) rfl rfl ?_
          refine gi_callv 3 (q := 52) C (dm_Mo_withoutEnd 30 rfl) rfl my_Mo_set lk_Mo_262 im_Mo_set rfl (c_Mo_set (x.1 + x.2.2) (x.2.1) x.2.2 (by omega) (by omega) (by omega) (by omega) H) Ha rfl rfl ⟨(Nat.le_of_ble_eq_true rfl), (Nat.le_of_ble_eq_true rfl)⟩ (Nat.le_of_ble_eq_true rfl) ⟨(Nat.le_of_ble_eq_true rfl), (Nat.le_of_ble_eq_true rfl)⟩ (fun r49 n49 h49 e49 => ?_)
          obtain ⟨rfl, rfl, W49⟩ := e49
          refine gi_iconst (q := 53) (v := 1) C (dm_Mo_withoutEnd 31 rfl) rfl (by decide) ?_
          refine gi_zret C hr (dm_Mo_withoutEnd 32 rfl) rfl ?_
          (try simp (disch := omega) only [lg_cmp_ge, lg_cmp_le, lg_cmp_gt, lg_cmp_lt, lg_cmp_eq, eL_0, eL_1, eL_m1, eL_LO, eL_HI, eL_W, eL_add, eL_sub, eL_mul, eL_neg, eL_lt, eL_le, eL_eq, eL_remN, eL_mod0, ne_eq, Int64.not_lt, Int64.not_le] at c4)
          (try simp (disch := omega) only [lg_cmp_ge, lg_cmp_le, lg_cmp_gt, lg_cmp_lt, lg_cmp_eq, eL_0, eL_1, eL_m1, eL_LO, eL_HI, eL_W, eL_add, eL_sub, eL_mul, eL_neg, eL_lt, eL_le, eL_eq, eL_remN, eL_mod0, ne_eq, Int64.not_lt, Int64.not_le] at c11)
          (try simp (disch := omega) only [lg_cmp_ge, lg_cmp_le, lg_cmp_gt, lg_cmp_lt, lg_cmp_eq, eL_0, eL_1, eL_m1, eL_LO, eL_HI, eL_W, eL_add, eL_sub, eL_mul, eL_neg, eL_lt, eL_le, eL_eq, eL_remN, eL_mod0, ne_eq, Int64.not_lt, Int64.not_le] at c21)
          (try simp (disch := omega) only [lg_cmp_ge, lg_cmp_le, lg_cmp_gt, lg_cmp_lt, lg_cmp_eq, eL_0, eL_1, eL_m1, eL_LO, eL_HI, eL_W, eL_add, eL_sub, eL_mul, eL_neg, eL_lt, eL_le, eL_eq, eL_remN, eL_mod0, ne_eq, Int64.not_lt, Int64.not_le] at c36)
          obtain ⟨S3, J3, m3, o3, r3, i3⟩ := W49
          first
            | (rw [show loseS x c = some (mkS (x.1 + x.2.2) (x.2.1) x.2.2) from by
                 unfold loseS
                 rw [if_neg (by omega), if_pos (by omega), if_neg (by omega)]]
               exact ⟨rfl, rfl, S3, J3, m3, o3, r3, fun z e => by cases e; exact i3⟩)
            | (exfalso; omega)
        · refine gi_lload_n (q := 40) (i := 3) C (dm_Mo_withoutEnd 24 rfl) rfl rfl rfl ?_
          refine gi_lload (q := 42) C (dm_Mo_withoutEnd 25 rfl) rfl rfl ?_
          refine gi_lsub (q := 43) C (dm_Mo_withoutEnd 26 rfl) rfl ?_
          rw [eL_sub]
          refine gi_goto (tgt := 47) C (dm_Mo_withoutEnd 27 rfl) (by decide) ?_
          refine gi_lload (q := 49) C (dm_Mo_withoutEnd 29 rfl) rfl rfl ?_
          refine gi_callv 3 (q := 52) C (dm_Mo_withoutEnd 30 rfl) rfl my_Mo_set lk_Mo_262 im_Mo_set rfl (c_Mo_set (x.1 + x.2.2) (x.2.1 - x.2.2) x.2.2 (by omega) (by omega) (by omega) (by omega) H) Ha rfl rfl ⟨(Nat.le_of_ble_eq_true rfl), (Nat.le_of_ble_eq_true rfl)⟩ (Nat.le_of_ble_eq_true rfl) ⟨(Nat.le_of_ble_eq_true rfl), (Nat.le_of_ble_eq_true rfl)⟩ (fun r49 n49 h49 e49 => ?_)
          obtain ⟨rfl, rfl, W49⟩ := e49
          refine gi_iconst (q := 53) (v := 1) C (dm_Mo_withoutEnd 31 rfl) rfl (by decide) ?_
          refine gi_zret C hr (dm_Mo_withoutEnd 32 rfl) rfl ?_
          (try simp (disch := omega) only [lg_cmp_ge, lg_cmp_le, lg_cmp_gt, lg_cmp_lt, lg_cmp_eq, eL_0, eL_1, eL_m1, eL_LO, eL_HI, eL_W, eL_add, eL_sub, eL_mul, eL_neg, eL_lt, eL_le, eL_eq, eL_remN, eL_mod0, ne_eq, Int64.not_lt, Int64.not_le] at c4)
          (try simp (disch := omega) only [lg_cmp_ge, lg_cmp_le, lg_cmp_gt, lg_cmp_lt, lg_cmp_eq, eL_0, eL_1, eL_m1, eL_LO, eL_HI, eL_W, eL_add, eL_sub, eL_mul, eL_neg, eL_lt, eL_le, eL_eq, eL_remN, eL_mod0, ne_eq, Int64.not_lt, Int64.not_le] at c11)
          (try simp (disch := omega) only [lg_cmp_ge, lg_cmp_le, lg_cmp_gt, lg_cmp_lt, lg_cmp_eq, eL_0, eL_1, eL_m1, eL_LO, eL_HI, eL_W, eL_add, eL_sub, eL_mul, eL_neg, eL_lt, eL_le, eL_eq, eL_remN, eL_mod0, ne_eq, Int64.not_lt, Int64.not_le] at c21)
          (try simp (disch := omega) only [lg_cmp_ge, lg_cmp_le, lg_cmp_gt, lg_cmp_lt, lg_cmp_eq, eL_0, eL_1, eL_m1, eL_LO, eL_HI, eL_W, eL_add, eL_sub, eL_mul, eL_neg, eL_lt, eL_le, eL_eq, eL_remN, eL_mod0, ne_eq, Int64.not_lt, Int64.not_le] at c36)
          obtain ⟨S3, J3, m3, o3, r3, i3⟩ := W49
          first
            | (rw [show loseS x c = some (mkS (x.1 + x.2.2) (x.2.1 - x.2.2) x.2.2) from by
                 unfold loseS
                 rw [if_neg (by omega), if_pos (by omega), if_pos (by omega)]]
               exact ⟨rfl, rfl, S3, J3, m3, o3, r3, fun z e => by cases e; exact i3⟩)
            | (exfalso; omega)
    · refine gi_iconst (q := 15) (v := 0) C (dm_Mo_withoutEnd 8 rfl) rfl (by decide) ?_
      refine gi_zret C hr (dm_Mo_withoutEnd 9 rfl) rfl ?_
      (try simp (disch := omega) only [lg_cmp_ge, lg_cmp_le, lg_cmp_gt, lg_cmp_lt, lg_cmp_eq, eL_0, eL_1, eL_m1, eL_LO, eL_HI, eL_W, eL_add, eL_sub, eL_mul, eL_neg, eL_lt, eL_le, eL_eq, eL_remN, eL_mod0, ne_eq, Int64.not_lt, Int64.not_le] at c4)
      (try simp (disch := omega) only [lg_cmp_ge, lg_cmp_le, lg_cmp_gt, lg_cmp_lt, lg_cmp_eq, eL_0, eL_1, eL_m1, eL_LO, eL_HI, eL_W, eL_add, eL_sub, eL_mul, eL_neg, eL_lt, eL_le, eL_eq, eL_remN, eL_mod0, ne_eq, Int64.not_lt, Int64.not_le] at c11)
      rw [show loseS x c = none from by
        unfold loseS
        rw [if_pos ⟨by omega, by omega⟩]]
      exact ⟨rfl, rfl, S, J, H, outM.rf, nuR.rf, fun z e => by cases e⟩
end RNA
