section VA3
variable {l : Launch} {V : gi_V} {n : Nat} {h : gi_H}
set_option maxHeartbeats 4000000 in
set_option maxRecDepth 100000 in
theorem c_Mt_min_1 (a b : Int) (a1 : -9223372036854775808 < a) (a2 : a < 9223372036854775808) (b1 : -9223372036854775808 < b) (b2 : b < 9223372036854775808) : gi_T l V y_Mt_min_1 b_Mt_min_1 4 (some .long) 0 0 0 0 [.long (eL a), .long (eL b)] n h (gi_is (some (.long (eL (min a b)))) n h) := by
  refine gi_enterF (by decide +kernel) (Nat.le_of_ble_eq_true rfl) ?_
  intro _ _ _ _ _ _ _ _ C hr hnm
  refine gi_lload_n (q := 1) (i := 0) C (dm_Mt_min_1 0 rfl) rfl rfl rfl ?_
  refine gi_lload_n (q := 2) (i := 2) C (dm_Mt_min_1 1 rfl) rfl rfl rfl ?_
  refine gi_lcmp (q := 3) C (dm_Mt_min_1 2 rfl) rfl ?_
  refine gi_if_gt (q := 6) (tgt := 10) C (dm_Mt_min_1 3 rfl) rfl (by decide) (fun c3 => ?_) (fun c3 => ?_)
  · refine gi_lload_n (q := 11) (i := 2) C (dm_Mt_min_1 6 rfl) rfl rfl rfl ?_
    refine gi_lret C hr (dm_Mt_min_1 7 rfl) ?_
    refine ⟨?_, rfl, rfl⟩
    (try simp (disch := omega) only [lg_cmp_ge, lg_cmp_le, lg_cmp_gt, lg_cmp_lt, lg_cmp_eq, eL_0, eL_1, eL_m1, eL_LO, eL_HI, eL_W, eL_add, eL_sub, eL_mul, eL_neg, eL_lt, eL_le, eL_eq, eL_remN, eL_mod0, ne_eq, Int64.not_lt, Int64.not_le] at c3)
    congr 3
    omega
  · refine gi_lload_n (q := 7) (i := 0) C (dm_Mt_min_1 4 rfl) rfl rfl rfl ?_
    refine gi_goto (tgt := 11) C (dm_Mt_min_1 5 rfl) (by decide) ?_
    refine gi_lret C hr (dm_Mt_min_1 7 rfl) ?_
    refine ⟨?_, rfl, rfl⟩
    (try simp (disch := omega) only [lg_cmp_ge, lg_cmp_le, lg_cmp_gt, lg_cmp_lt, lg_cmp_eq, eL_0, eL_1, eL_m1, eL_LO, eL_HI, eL_W, eL_add, eL_sub, eL_mul, eL_neg, eL_lt, eL_le, eL_eq, eL_remN, eL_mod0, ne_eq, Int64.not_lt, Int64.not_le] at c3)
    congr 3
    omega
set_option maxHeartbeats 4000000 in
set_option maxRecDepth 100000 in
theorem c_Mt_max_0 (a b : Int) (a1 : -9223372036854775808 < a) (a2 : a < 9223372036854775808) (b1 : -9223372036854775808 < b) (b2 : b < 9223372036854775808) : gi_T l V y_Mt_max_0 b_Mt_max_0 4 (some .long) 0 0 0 0 [.long (eL a), .long (eL b)] n h (gi_is (some (.long (eL (max a b)))) n h) := by
  refine gi_enterF (by decide +kernel) (Nat.le_of_ble_eq_true rfl) ?_
  intro _ _ _ _ _ _ _ _ C hr hnm
  refine gi_lload_n (q := 1) (i := 0) C (dm_Mt_max_0 0 rfl) rfl rfl rfl ?_
  refine gi_lload_n (q := 2) (i := 2) C (dm_Mt_max_0 1 rfl) rfl rfl rfl ?_
  refine gi_lcmp (q := 3) C (dm_Mt_max_0 2 rfl) rfl ?_
  refine gi_if_lt (q := 6) (tgt := 10) C (dm_Mt_max_0 3 rfl) rfl (by decide) (fun c3 => ?_) (fun c3 => ?_)
  · refine gi_lload_n (q := 11) (i := 2) C (dm_Mt_max_0 6 rfl) rfl rfl rfl ?_
    refine gi_lret C hr (dm_Mt_max_0 7 rfl) ?_
    refine ⟨?_, rfl, rfl⟩
    (try simp (disch := omega) only [lg_cmp_ge, lg_cmp_le, lg_cmp_gt, lg_cmp_lt, lg_cmp_eq, eL_0, eL_1, eL_m1, eL_LO, eL_HI, eL_W, eL_add, eL_sub, eL_mul, eL_neg, eL_lt, eL_le, eL_eq, eL_remN, eL_mod0, ne_eq, Int64.not_lt, Int64.not_le] at c3)
    congr 3
    omega
  · refine gi_lload_n (q := 7) (i := 0) C (dm_Mt_max_0 4 rfl) rfl rfl rfl ?_
    refine gi_goto (tgt := 11) C (dm_Mt_max_0 5 rfl) (by decide) ?_
    refine gi_lret C hr (dm_Mt_max_0 7 rfl) ?_
    refine ⟨?_, rfl, rfl⟩
    (try simp (disch := omega) only [lg_cmp_ge, lg_cmp_le, lg_cmp_gt, lg_cmp_lt, lg_cmp_eq, eL_0, eL_1, eL_m1, eL_LO, eL_HI, eL_W, eL_add, eL_sub, eL_mul, eL_neg, eL_lt, eL_le, eL_eq, eL_remN, eL_mod0, ne_eq, Int64.not_lt, Int64.not_le] at c3)
    congr 3
    omega
set_option maxHeartbeats 4000000 in
set_option maxRecDepth 100000 in
theorem c_Mt_abs (a : Int) (a1 : -9223372036854775808 < a) (a2 : a < 9223372036854775808) : gi_T l V y_Mt_abs b_Mt_abs 2 (some .long) 0 0 0 0 [.long (eL a)] n h (gi_is (some (.long (eL (a.natAbs : Int)))) n h) := by
  refine gi_enterF (by decide +kernel) (Nat.le_of_ble_eq_true rfl) ?_
  intro _ _ _ _ _ _ _ _ C hr hnm
  refine gi_lload_n (q := 1) (i := 0) C (dm_Mt_abs 0 rfl) rfl rfl rfl ?_
  refine gi_lconst (q := 2) (v := 0) C (dm_Mt_abs 1 rfl) rfl (by decide) ?_
  refine gi_lcmp (q := 3) C (dm_Mt_abs 2 rfl) rfl ?_
  refine gi_if_ge (q := 6) (tgt := 11) C (dm_Mt_abs 3 rfl) rfl (by decide) (fun c3 => ?_) (fun c3 => ?_)
  · refine gi_lload_n (q := 12) (i := 0) C (dm_Mt_abs 7 rfl) rfl rfl rfl ?_
    refine gi_lret C hr (dm_Mt_abs 8 rfl) ?_
    refine ⟨?_, rfl, rfl⟩
    (try simp (disch := omega) only [lg_cmp_ge, lg_cmp_le, lg_cmp_gt, lg_cmp_lt, lg_cmp_eq, eL_0, eL_1, eL_m1, eL_LO, eL_HI, eL_W, eL_add, eL_sub, eL_mul, eL_neg, eL_lt, eL_le, eL_eq, eL_remN, eL_mod0, ne_eq, Int64.not_lt, Int64.not_le] at c3)
    try simp only [eL_neg]
    congr 3
    omega
  · refine gi_lload_n (q := 7) (i := 0) C (dm_Mt_abs 4 rfl) rfl rfl rfl ?_
    refine gi_lneg (q := 8) C (dm_Mt_abs 5 rfl) rfl ?_
    refine gi_goto (tgt := 12) C (dm_Mt_abs 6 rfl) (by decide) ?_
    refine gi_lret C hr (dm_Mt_abs 8 rfl) ?_
    refine ⟨?_, rfl, rfl⟩
    (try simp (disch := omega) only [lg_cmp_ge, lg_cmp_le, lg_cmp_gt, lg_cmp_lt, lg_cmp_eq, eL_0, eL_1, eL_m1, eL_LO, eL_HI, eL_W, eL_add, eL_sub, eL_mul, eL_neg, eL_lt, eL_le, eL_eq, eL_remN, eL_mod0, ne_eq, Int64.not_lt, Int64.not_le] at c3)
    try simp only [eL_neg]
    congr 3
    omega
set_option maxHeartbeats 4000000 in
set_option maxRecDepth 100000 in
theorem c_H_gcdN (a b : Nat) (ha : a < 2 ^ 63) (hb : b < 2 ^ 63) (hp : a * b < 2 ^ 96) : gi_T l V y_H_gcd b_H_gcd 11 (some .long) 0 0 0 0 [.long (eL a), .long (eL b)] n h (gi_is (some (.long (eL (Nat.gcd a b)))) n h) := by
  refine gi_enter (by decide) (Nat.le_of_ble_eq_true rfl) ?_
  intro _ _ _ _ _ _ _ _ C hr hnm
  refine gi_lload_n (q := 1) (i := 0) C (dm_H_gcd 0 rfl) rfl rfl rfl ?_
  refine gi_lstore (q := 3) C (dm_H_gcd 1 rfl) rfl (Nat.le_of_ble_eq_true rfl) ?_
  refine gi_lload_n (q := 4) (i := 2) C (dm_H_gcd 2 rfl) rfl rfl rfl ?_
  refine gi_lstore (q := 6) C (dm_H_gcd 3 rfl) rfl (Nat.le_of_ble_eq_true rfl) ?_
  refine gi_iconst (q := 7) (v := 0) C (dm_H_gcd 4 rfl) rfl (by decide) ?_
  refine gi_istore (q := 9) C (dm_H_gcd 5 rfl) rfl (Nat.le_of_ble_eq_true rfl) ?_
  refine gi_while (σ := Nat × Nat × Nat) (fun q => 100 - q.1) (fun q => [(8, .int (nI q.1)), (6, .long (eL q.2.2)), (4, .long (eL q.2.1))]) (fun _ => n) (fun _ => 0) (fun _ => 0) (fun q y => y = h ∧ q.1 ≤ 100 ∧ q.2.1 < 2 ^ 63 ∧ q.2.2 < 2 ^ 63 ∧ Nat.gcd q.2.1 q.2.2 = Nat.gcd a b ∧ ((q.1 = 0 ∧ q.2.1 * q.2.2 < 2 ^ 96) ∨ (q.2.2 ≤ q.2.1 ∧ q.2.1 * q.2.2 * 2 ^ q.1 < 2 ^ 97))) (0, a, b) ⟨rfl, by omega, ha, hb, rfl, Or.inl ⟨rfl, hp⟩⟩ ?_ (List.forall_mem_cons.mpr ⟨rfl, List.forall_mem_cons.mpr ⟨rfl, List.forall_mem_cons.mpr ⟨rfl, fun _ h => absurd h List.not_mem_nil⟩⟩⟩) rfl rfl rfl
  rintro ⟨i, x, y⟩ h' ⟨rfl, hi, hx, hy, hg, ht⟩ ih
  try dsimp only at *
  refine gi_iload (q := 11) C (dm_H_gcd 6 rfl) rfl rfl ?_
  refine gi_bipush (q := 13) (v := 100) C (dm_H_gcd 7 rfl) rfl (by decide) ?_
  refine gi_icmp_ge (q := 16) (tgt := 44) C (dm_H_gcd 8 rfl) rfl (by decide) (fun c13 => ?_) (fun c13 => ?_)
  · first
      | (have hy0 : y = 0 := by
           rcases Nat.lt_or_ge i 100 with q | q
           · exact absurd (show (100 : Int32) ≤ nI i from c13) (nI_ge (b := 100) q (by omega))
           · have hi' : i = 100 := by omega
             subst hi'
             rcases ht with ⟨t1, -⟩ | ⟨t1, t2⟩
             · omega
             · rcases Nat.eq_zero_or_pos y with q | q
               · exact q
               · exfalso
                 have : 1 * 2 ^ 100 ≤ x * y * 2 ^ 100 := Nat.mul_le_mul_right _ (Nat.mul_pos (by omega) q)
                 omega
         subst hy0
         rw [Nat.gcd_zero_right] at hg
         subst hg
         refine gi_lload (q := 46) C (dm_H_gcd 23 rfl) rfl rfl ?_
         refine gi_lret C hr (dm_H_gcd 24 rfl) ?_
         exact ⟨rfl, rfl, rfl⟩)
      | (have hy0 : y = 0 := by
           have := (lg_cmp_eq _ _).mp c20
           rw [eL_0, eL_eq (by omega) (by omega) (by omega) (by omega)] at this
           omega
         subst hy0
         rw [Nat.gcd_zero_right] at hg
         subst hg
         refine gi_lload (q := 46) C (dm_H_gcd 23 rfl) rfl rfl ?_
         refine gi_lret C hr (dm_H_gcd 24 rfl) ?_
         exact ⟨rfl, rfl, rfl⟩)
  · refine gi_lload (q := 18) C (dm_H_gcd 9 rfl) rfl rfl ?_
    refine gi_lconst (q := 19) (v := 0) C (dm_H_gcd 10 rfl) rfl (by decide) ?_
    refine gi_lcmp (q := 20) C (dm_H_gcd 11 rfl) rfl ?_
    refine gi_if_eq (q := 23) (tgt := 44) C (dm_H_gcd 12 rfl) rfl (by decide) (fun c20 => ?_) (fun c20 => ?_)
    · first
        | (have hy0 : y = 0 := by
             rcases Nat.lt_or_ge i 100 with q | q
             · exact absurd (show (100 : Int32) ≤ nI i from c13) (nI_ge (b := 100) q (by omega))
             · have hi' : i = 100 := by omega
               subst hi'
               rcases ht with ⟨t1, -⟩ | ⟨t1, t2⟩
               · omega
               · rcases Nat.eq_zero_or_pos y with q | q
                 · exact q
                 · exfalso
                   have : 1 * 2 ^ 100 ≤ x * y * 2 ^ 100 := Nat.mul_le_mul_right _ (Nat.mul_pos (by omega) q)
                   omega
           subst hy0
           rw [Nat.gcd_zero_right] at hg
           subst hg
           refine gi_lload (q := 46) C (dm_H_gcd 23 rfl) rfl rfl ?_
           refine gi_lret C hr (dm_H_gcd 24 rfl) ?_
           exact ⟨rfl, rfl, rfl⟩)
        | (have hy0 : y = 0 := by
             have := (lg_cmp_eq _ _).mp c20
             rw [eL_0, eL_eq (by omega) (by omega) (by omega) (by omega)] at this
             omega
           subst hy0
           rw [Nat.gcd_zero_right] at hg
           subst hg
           refine gi_lload (q := 46) C (dm_H_gcd 23 rfl) rfl rfl ?_
           refine gi_lret C hr (dm_H_gcd 24 rfl) ?_
           exact ⟨rfl, rfl, rfl⟩)
    · refine gi_lload (q := 25) C (dm_H_gcd 13 rfl) rfl rfl ?_
      refine gi_lload (q := 27) C (dm_H_gcd 14 rfl) rfl rfl ?_
      refine gi_lrem (q := 28) C (dm_H_gcd 15 rfl) rfl (fun q => c20 ((lg_cmp_eq _ _).mpr q)) ?_
      refine gi_lstore (q := 30) C (dm_H_gcd 16 rfl) rfl (Nat.le_of_ble_eq_true rfl) ?_
      refine gi_lload (q := 32) C (dm_H_gcd 17 rfl) rfl rfl ?_
      refine gi_lstore (q := 34) C (dm_H_gcd 18 rfl) rfl (Nat.le_of_ble_eq_true rfl) ?_
      refine gi_lload (q := 36) C (dm_H_gcd 19 rfl) rfl rfl ?_
      refine gi_lstore (q := 38) C (dm_H_gcd 20 rfl) rfl (Nat.le_of_ble_eq_true rfl) ?_
      refine gi_iinc (q := 41) (v := 1) C (dm_H_gcd 21 rfl) rfl rfl (by decide) (Nat.le_of_ble_eq_true rfl) ?_
      refine gi_goto (tgt := 9) C (dm_H_gcd 22 rfl) (by decide) ?_
      have hy0 : y ≠ 0 := by
        rintro rfl
        exact c20 ((lg_cmp_eq _ _).mpr rfl)
      have hil : i < 100 := by
        rcases Nat.lt_or_ge i 100 with q | q
        · exact q
        · exact absurd (show (100 : Int32) ≤ nI i from nI_le (a := 100) q (by omega)) c13
      have hm := Nat.mod_lt x (Nat.pos_of_ne_zero hy0)
      refine gi_close (ih (i + 1, y, x % y) _ ⟨rfl, by omega, by dsimp only; omega, by dsimp only; omega, ?_, ?_⟩ (by dsimp only; omega)) (List.forall_mem_cons.mpr ⟨(by simp [gi_look, nI_1]), List.forall_mem_cons.mpr ⟨(by simp only [gi_look]; exact congrArg (fun z => some (Value.long z)) (eL_remN (by omega) (by omega) (by omega) (by omega))), List.forall_mem_cons.mpr ⟨rfl, fun _ h => absurd h List.not_mem_nil⟩⟩⟩) rfl rfl rfl
      · dsimp only
        rw [← hg, Nat.gcd_comm y, ← Nat.gcd_rec, Nat.gcd_comm]
      · right
        dsimp only
        refine ⟨by omega, ?_⟩
        have k2 : y * (x % y) ≤ x * y := by
          rw [Nat.mul_comm x y]
          exact Nat.mul_le_mul_left y (Nat.mod_le x y)
        rcases ht with ⟨rfl, t2⟩ | ⟨t1, t2⟩
        · omega
        · have k1 := gcd_half (Nat.pos_of_ne_zero hy0) t1
          calc y * (x % y) * 2 ^ (i + 1) = y * (x % y) * 2 * 2 ^ i := by rw [Nat.pow_succ, Nat.mul_comm (2 ^ i) 2, ← Nat.mul_assoc]
            _ ≤ x * y * 2 ^ i := Nat.mul_le_mul_right _ k1
            _ < 2 ^ 97 := t2
theorem c_H_gcd (a b : Int) (ha : 0 ≤ a) (ha2 : a < 9223372036854775808) (hb : 0 ≤ b) (hb2 : b ≤ 4294967296) : gi_T l V y_H_gcd b_H_gcd 11 (some .long) 0 0 0 0 [.long (eL a), .long (eL b)] n h (gi_is (some (.long (eL (Int.gcd a b : Nat)))) n h) := by
  obtain ⟨x, rfl⟩ := Int.eq_ofNat_of_zero_le ha
  obtain ⟨y, rfl⟩ := Int.eq_ofNat_of_zero_le hb
  refine c_H_gcdN x y (by omega) (by omega) ?_
  calc x * y ≤ 2 ^ 63 * 2 ^ 32 := Nat.mul_le_mul (by omega) (by omega)
    _ < 2 ^ 96 := by decide
end VA3
