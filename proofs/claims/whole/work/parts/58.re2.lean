section RE2
variable {l : Launch} {V : gi_V} {n : Nat} {h : gi_H}
theorem mul_b {a b p q : Int} (h1 : -p ≤ a) (h2 : a ≤ p) (h3 : -q ≤ b) (h4 : b ≤ q) : -(p * q) ≤ a * b ∧ a * b ≤ p * q := by
  have hp : 0 ≤ p := by omega
  have hq : 0 ≤ q := by omega
  have k1 : (a * b).natAbs ≤ (p * q).natAbs := by
    rw [Int.natAbs_mul, Int.natAbs_mul]
    exact Nat.mul_le_mul (by omega) (by omega)
  have k2 : 0 ≤ p * q := Int.mul_nonneg hp hq
  omega
theorem mul_I {a b : Int} (h1 : -2147483648 ≤ a) (h2 : a ≤ 2147483647) (h3 : -2147483648 ≤ b) (h4 : b ≤ 2147483647) : -4611686016279904256 ≤ a * b ∧ a * b ≤ 4611686018427387904 := by
  have k := mul_b (p := 2147483648) (q := 2147483648) (by omega) (by omega) (by omega) (show b ≤ 2147483648 by omega) (a := a) (b := b)
  refine ⟨?_, by omega⟩
  rcases Int.le_total 0 a with p | p
  · have := Int.mul_le_mul_of_nonneg_left h3 p
    have : -(2147483648 * 2147483647) ≤ a * -2147483648 := by omega
    omega
  · rcases Int.le_total 0 b with q | q
    · have k2 := Int.mul_le_mul_of_nonneg_right h1 q
      omega
    · have := Int.mul_nonneg_of_nonpos_of_nonpos p q
      omega
theorem mul_c {c : Int} {x : Sp} (hx : okS x) (h1 : -2147483648 ≤ c) (h2 : c ≤ 2147483648) : (-4611686018427387904 ≤ c * x.1 ∧ c * x.1 ≤ 4611686018427387904) ∧ (-4611686018427387904 ≤ c * x.2.1 ∧ c * x.2.1 ≤ 4611686018427387904) ∧ (0 ≤ c → c * x.1 ≤ c * x.2.1 ∧ c * x.2.1 - c * x.1 ≤ 9223372034707292160 ∧ 0 ≤ c * x.2.2 ∧ c * x.2.2 < 9223372036854775808) ∧ (c ≤ 0 → c * x.2.1 ≤ c * x.1 ∧ c * x.1 - c * x.2.1 ≤ 9223372034707292160 ∧ 0 ≤ -c * x.2.2 ∧ -c * x.2.2 < 9223372036854775808) := by
  have o7 := hx.st
  obtain ⟨o1, o2, o3, o4, o5, o6⟩ := id hx
  have k1 := mul_b (p := 2147483648) (q := 2147483648) (a := c) (b := x.1) (by omega) (by omega) (by omega) (by omega)
  have k2 := mul_b (p := 2147483648) (q := 2147483648) (a := c) (b := x.2.1) (by omega) (by omega) (by omega) (by omega)
  refine ⟨by omega, by omega, fun hc => ?_, fun hc => ?_⟩
  · have m1 := Int.mul_le_mul_of_nonneg_left o2 hc
    have m2 := mul_b (p := 2147483648) (q := 4294967295) (a := c) (b := x.2.1 - x.1) (by omega) (by omega) (by omega) (by omega)
    have m3 := mul_b (p := 2147483648) (q := 4294967295) (a := c) (b := x.2.2) (by omega) (by omega) (by omega) (by omega)
    have m4 := Int.mul_nonneg hc o4
    rw [Int.mul_sub] at m2
    omega
  · have m1 := Int.mul_le_mul_of_nonpos_left hc o2
    have m2 := mul_b (p := 2147483648) (q := 4294967295) (a := c) (b := x.2.1 - x.1) (by omega) (by omega) (by omega) (by omega)
    have m3 := mul_b (p := 2147483648) (q := 4294967295) (a := -c) (b := x.2.2) (by omega) (by omega) (by omega) (by omega)
    have m4 := Int.mul_nonneg (show 0 ≤ -c by omega) o4
    rw [Int.mul_sub] at m2
    omega
theorem turn_0 : turnS 0 0 0 = (0, 0, 0) := by decide
set_option maxHeartbeats 4000000 in
set_option maxRecDepth 100000 in
theorem c_Re_times (r ax ao : Nat) (c : Int) (x : Sp) (ob : List Value) (v : mV) (c1 : -2147483648 ≤ c) (c2 : c ≤ 2147483648) (hx : okS x) (hr0 : h r = some (gi_O 7 ob)) (ha : h ax = some (eV (sV x))) (hb : h ao = some (eV v)) : gi_T l V y_Re_times b_Re_times 5 none 2 63 0 0 [.ref r, .long (eL c), .ref ax, .ref ao] n h (gi_is none n (gi_up h ao (eV (sV (timesS c x))))) := by
  refine gi_enter (by decide) (Nat.le_of_ble_eq_true rfl) ?_
  intro _ _ _ _ _ _ _ _ C hr hnm
  obtain ⟨m1, m2, m3, m4⟩ := mul_c hx c1 c2
  refine gi_lload_n (q := 1) (i := 1) C (dm_Re_times 0 rfl) rfl rfl rfl ?_
  refine gi_lconst (q := 2) (v := 0) C (dm_Re_times 1 rfl) rfl (by decide) ?_
  refine gi_lcmp (q := 3) C (dm_Re_times 2 rfl) rfl ?_
  refine gi_if_ne (q := 6) (tgt := 15) C (dm_Re_times 3 rfl) rfl (by decide) (fun c3 => ?_) (fun c3 => ?_)
  · refine gi_lload_n (q := 16) (i := 1) C (dm_Re_times 8 rfl) rfl rfl rfl ?_
    refine gi_lconst (q := 17) (v := 0) C (dm_Re_times 9 rfl) rfl (by decide) ?_
    refine gi_lcmp (q := 18) C (dm_Re_times 10 rfl) rfl ?_
    refine gi_if_le (q := 21) (tgt := 48) C (dm_Re_times 11 rfl) rfl (by decide) (fun c18 => ?_) (fun c18 => ?_)
    · refine gi_aload_n (q := 49) (i := 0) C (dm_Re_times 28 rfl) rfl rfl rfl ?_
      refine gi_lload_n (q := 50) (i := 1) C (dm_Re_times 29 rfl) rfl rfl rfl ?_
      refine gi_aload_n (q := 51) (i := 3) C (dm_Re_times 30 rfl) rfl rfl rfl ?_
      refine gi_get (q := 54) C (dm_Re_times 31 rfl) rfl fl_Re_25 (by repeat (first | exact gi_up_self _ _ _ | assumption | rw [gi_up_ne (by omega)])) rfl ?_
      refine gi_lmul (q := 55) C (dm_Re_times 32 rfl) rfl ?_
      refine gi_lload_n (q := 56) (i := 1) C (dm_Re_times 33 rfl) rfl rfl rfl ?_
      refine gi_aload_n (q := 57) (i := 3) C (dm_Re_times 34 rfl) rfl rfl rfl ?_
      refine gi_get (q := 60) C (dm_Re_times 35 rfl) rfl fl_Re_21 (by repeat (first | exact gi_up_self _ _ _ | assumption | rw [gi_up_ne (by omega)])) rfl ?_
      refine gi_lmul (q := 61) C (dm_Re_times 36 rfl) rfl ?_
      refine gi_lload_n (q := 62) (i := 1) C (dm_Re_times 37 rfl) rfl rfl rfl ?_
      refine gi_lneg (q := 63) C (dm_Re_times 38 rfl) rfl ?_
      refine gi_aload_n (q := 64) (i := 3) C (dm_Re_times 39 rfl) rfl rfl rfl ?_
      refine gi_get (q := 67) C (dm_Re_times 40 rfl) rfl fl_Re_28 (by repeat (first | exact gi_up_self _ _ _ | assumption | rw [gi_up_ne (by omega)])) rfl ?_
      refine gi_lmul (q := 68) C (dm_Re_times 41 rfl) rfl ?_
      refine gi_aload (q := 70) C (dm_Re_times 42 rfl) rfl rfl ?_
      (try simp (disch := omega) only [lg_cmp_ge, lg_cmp_le, lg_cmp_gt, lg_cmp_lt, lg_cmp_eq, eL_0, eL_1, eL_m1, eL_LO, eL_HI, eL_W, eL_add, eL_sub, eL_mul, eL_neg, eL_lt, eL_le, eL_eq, eL_remN, eL_mod0, ne_eq, Int64.not_lt, Int64.not_le] at c3)
      (try simp (disch := omega) only [lg_cmp_ge, lg_cmp_le, lg_cmp_gt, lg_cmp_lt, lg_cmp_eq, eL_0, eL_1, eL_m1, eL_LO, eL_HI, eL_W, eL_add, eL_sub, eL_mul, eL_neg, eL_lt, eL_le, eL_eq, eL_remN, eL_mod0, ne_eq, Int64.not_lt, Int64.not_le] at c18)
      have t := m4 (by omega)
      rw [eL_mul, eL_mul, eL_neg, eL_mul]
      refine gi_callv 4 (q := 73) C (dm_Re_times 43 rfl) rfl my_Re_turn lk_Re_35 im_Re_turn rfl (c_Re_turn r ao (c * x.2.1) (c * x.1) (-c * x.2.2) v (by omega) (by omega) (by omega) (by omega) (by omega) (by omega) hb) hr0 rfl rfl ⟨(Nat.le_of_ble_eq_true rfl), (Nat.le_of_ble_eq_true rfl)⟩ (Nat.le_of_ble_eq_true rfl) ⟨(Nat.le_of_ble_eq_true rfl), (Nat.le_of_ble_eq_true rfl)⟩ (fun r70 n70 h70 e70 => ?_)
      obtain ⟨rfl, rfl, rfl⟩ := e70
      refine gi_vret C hr (dm_Re_times 44 rfl) ?_
      (try simp (disch := omega) only [lg_cmp_ge, lg_cmp_le, lg_cmp_gt, lg_cmp_lt, lg_cmp_eq, eL_0, eL_1, eL_m1, eL_LO, eL_HI, eL_W, eL_add, eL_sub, eL_mul, eL_neg, eL_lt, eL_le, eL_eq, eL_remN, eL_mod0, ne_eq, Int64.not_lt, Int64.not_le] at c3)
      (try simp (disch := omega) only [lg_cmp_ge, lg_cmp_le, lg_cmp_gt, lg_cmp_lt, lg_cmp_eq, eL_0, eL_1, eL_m1, eL_LO, eL_HI, eL_W, eL_add, eL_sub, eL_mul, eL_neg, eL_lt, eL_le, eL_eq, eL_remN, eL_mod0, ne_eq, Int64.not_lt, Int64.not_le] at c18)
      refine ⟨rfl, rfl, ?_⟩
      unfold timesS
      first
        | (rw [if_pos (by omega)]; done)
        | (rw [if_neg (by omega)]; done)
        | (have c0 : c = 0 := by omega
           subst c0
           rw [if_pos (by omega), Int.zero_mul, Int.zero_mul, Int.zero_mul, turn_0])
    · refine gi_aload_n (q := 22) (i := 0) C (dm_Re_times 12 rfl) rfl rfl rfl ?_
      refine gi_lload_n (q := 23) (i := 1) C (dm_Re_times 13 rfl) rfl rfl rfl ?_
      refine gi_aload_n (q := 24) (i := 3) C (dm_Re_times 14 rfl) rfl rfl rfl ?_
      refine gi_get (q := 27) C (dm_Re_times 15 rfl) rfl fl_Re_21 (by repeat (first | exact gi_up_self _ _ _ | assumption | rw [gi_up_ne (by omega)])) rfl ?_
      refine gi_lmul (q := 28) C (dm_Re_times 16 rfl) rfl ?_
      refine gi_lload_n (q := 29) (i := 1) C (dm_Re_times 17 rfl) rfl rfl rfl ?_
      refine gi_aload_n (q := 30) (i := 3) C (dm_Re_times 18 rfl) rfl rfl rfl ?_
      refine gi_get (q := 33) C (dm_Re_times 19 rfl) rfl fl_Re_25 (by repeat (first | exact gi_up_self _ _ _ | assumption | rw [gi_up_ne (by omega)])) rfl ?_
      refine gi_lmul (q := 34) C (dm_Re_times 20 rfl) rfl ?_
      refine gi_lload_n (q := 35) (i := 1) C (dm_Re_times 21 rfl) rfl rfl rfl ?_
      refine gi_aload_n (q := 36) (i := 3) C (dm_Re_times 22 rfl) rfl rfl rfl ?_
      refine gi_get (q := 39) C (dm_Re_times 23 rfl) rfl fl_Re_28 (by repeat (first | exact gi_up_self _ _ _ | assumption | rw [gi_up_ne (by omega)])) rfl ?_
      refine gi_lmul (q := 40) C (dm_Re_times 24 rfl) rfl ?_
      refine gi_aload (q := 42) C (dm_Re_times 25 rfl) rfl rfl ?_
      (try simp (disch := omega) only [lg_cmp_ge, lg_cmp_le, lg_cmp_gt, lg_cmp_lt, lg_cmp_eq, eL_0, eL_1, eL_m1, eL_LO, eL_HI, eL_W, eL_add, eL_sub, eL_mul, eL_neg, eL_lt, eL_le, eL_eq, eL_remN, eL_mod0, ne_eq, Int64.not_lt, Int64.not_le] at c3)
      (try simp (disch := omega) only [lg_cmp_ge, lg_cmp_le, lg_cmp_gt, lg_cmp_lt, lg_cmp_eq, eL_0, eL_1, eL_m1, eL_LO, eL_HI, eL_W, eL_add, eL_sub, eL_mul, eL_neg, eL_lt, eL_le, eL_eq, eL_remN, eL_mod0, ne_eq, Int64.not_lt, Int64.not_le] at c18)
      have t := m3 (by omega)
      rw [eL_mul, eL_mul, eL_mul]
      refine gi_callv 4 (q := 45) C (dm_Re_times 26 rfl) rfl my_Re_turn lk_Re_35 im_Re_turn rfl (c_Re_turn r ao (c * x.1) (c * x.2.1) (c * x.2.2) v (by omega) (by omega) (by omega) (by omega) (by omega) (by omega) hb) hr0 rfl rfl ⟨(Nat.le_of_ble_eq_true rfl), (Nat.le_of_ble_eq_true rfl)⟩ (Nat.le_of_ble_eq_true rfl) ⟨(Nat.le_of_ble_eq_true rfl), (Nat.le_of_ble_eq_true rfl)⟩ (fun r42 n42 h42 e42 => ?_)
      obtain ⟨rfl, rfl, rfl⟩ := e42
      refine gi_goto (tgt := 73) C (dm_Re_times 27 rfl) (by decide) ?_
      refine gi_vret C hr (dm_Re_times 44 rfl) ?_
      (try simp (disch := omega) only [lg_cmp_ge, lg_cmp_le, lg_cmp_gt, lg_cmp_lt, lg_cmp_eq, eL_0, eL_1, eL_m1, eL_LO, eL_HI, eL_W, eL_add, eL_sub, eL_mul, eL_neg, eL_lt, eL_le, eL_eq, eL_remN, eL_mod0, ne_eq, Int64.not_lt, Int64.not_le] at c3)
      (try simp (disch := omega) only [lg_cmp_ge, lg_cmp_le, lg_cmp_gt, lg_cmp_lt, lg_cmp_eq, eL_0, eL_1, eL_m1, eL_LO, eL_HI, eL_W, eL_add, eL_sub, eL_mul, eL_neg, eL_lt, eL_le, eL_eq, eL_remN, eL_mod0, ne_eq, Int64.not_lt, Int64.not_le] at c18)
      refine ⟨rfl, rfl, ?_⟩
      unfold timesS
      first
        | (rw [if_pos (by omega)]; done)
        | (rw [if_neg (by omega)]; done)
        | (have c0 : c = 0 := by omega
           subst c0
           rw [if_pos (by omega), Int.zero_mul, Int.zero_mul, Int.zero_mul, turn_0])
  · refine gi_aload (q := 8) C (dm_Re_times 4 rfl) rfl rfl ?_
    refine gi_lconst (q := 9) (v := 0) C (dm_Re_times 5 rfl) rfl (by decide) ?_
    rw [eL_0]
    refine gi_callv 1 (q := 12) C (dm_Re_times 6 rfl) rfl my_Va_beSingle lk_Re_90 im_Va_beSingle rfl (c_Va_beSingle ao v 0 hb) hb rfl rfl ⟨(Nat.le_of_ble_eq_true rfl), (Nat.le_of_ble_eq_true rfl)⟩ (Nat.le_of_ble_eq_true rfl) ⟨(Nat.le_of_ble_eq_true rfl), (Nat.le_of_ble_eq_true rfl)⟩ (fun r9 n9 h9 e9 => ?_)
    obtain ⟨rfl, rfl, rfl⟩ := e9
    refine gi_goto (tgt := 73) C (dm_Re_times 7 rfl) (by decide) ?_
    refine gi_vret C hr (dm_Re_times 44 rfl) ?_
    (try simp (disch := omega) only [lg_cmp_ge, lg_cmp_le, lg_cmp_gt, lg_cmp_lt, lg_cmp_eq, eL_0, eL_1, eL_m1, eL_LO, eL_HI, eL_W, eL_add, eL_sub, eL_mul, eL_neg, eL_lt, eL_le, eL_eq, eL_remN, eL_mod0, ne_eq, Int64.not_lt, Int64.not_le] at c3)
    refine ⟨rfl, rfl, ?_⟩
    unfold timesS
    first
      | (rw [if_pos (by omega)]; done)
      | (rw [if_neg (by omega)]; done)
      | (have c0 : c = 0 := by omega
         subst c0
         rw [if_pos (by omega), Int.zero_mul, Int.zero_mul, Int.zero_mul, turn_0])
set_option maxHeartbeats 4000000 in
set_option maxRecDepth 100000 in
theorem c_Re_multiply (r ax ay ao : Nat) (x y : Sp) (ob : List Value) (v : mV) (hx : okS x) (hy : okS y) (hr0 : h r = some (gi_O 7 ob)) (ha : h ax = some (eV (sV x))) (hb : h ay = some (eV (sV y))) (hc : h ao = some (eV v)) : gi_T l V y_Re_multiply b_Re_multiply 14 none 2 63 0 0 [.ref r, .ref ax, .ref ay, .ref ao] n h (gi_is none n (gi_up h ao (eV (sV (mulS x y))))) := by
  refine gi_enter (by decide) (Nat.le_of_ble_eq_true rfl) ?_
  intro _ _ _ _ _ _ _ _ C hr hnm
  obtain ⟨o1, o2, o3, o4, o5, o6⟩ := id hx
  have o7 := hx.st
  obtain ⟨w1, w2, w3, w4, w5, w6⟩ := id hy
  have w7 := hy.st
  have k1 := mul_I o1 (show x.1 ≤ 2147483647 by omega) w1 (show y.1 ≤ 2147483647 by omega)
  have k2 := mul_I o1 (show x.1 ≤ 2147483647 by omega) (show -2147483648 ≤ y.2.1 by omega) w3
  have k3 := mul_I (show -2147483648 ≤ x.2.1 by omega) o3 w1 (show y.1 ≤ 2147483647 by omega)
  have k4 := mul_I (show -2147483648 ≤ x.2.1 by omega) o3 (show -2147483648 ≤ y.2.1 by omega) w3
  refine gi_aload_n (q := 1) (i := 1) C (dm_Re_multiply 0 rfl) rfl rfl rfl ?_
  refine gi_get (q := 4) C (dm_Re_multiply 1 rfl) rfl fl_Re_21 (by repeat (first | exact gi_up_self _ _ _ | assumption | rw [gi_up_ne (by omega)])) rfl ?_
  refine gi_aload_n (q := 5) (i := 2) C (dm_Re_multiply 2 rfl) rfl rfl rfl ?_
  refine gi_get (q := 8) C (dm_Re_multiply 3 rfl) rfl fl_Re_21 (by repeat (first | exact gi_up_self _ _ _ | assumption | rw [gi_up_ne (by omega)])) rfl ?_
  refine gi_lmul (q := 9) C (dm_Re_multiply 4 rfl) rfl ?_
  rw [eL_mul]
  refine gi_lstore (q := 11) C (dm_Re_multiply 5 rfl) rfl (Nat.le_of_ble_eq_true rfl) ?_
  refine gi_aload_n (q := 12) (i := 1) C (dm_Re_multiply 6 rfl) rfl rfl rfl ?_
  refine gi_get (q := 15) C (dm_Re_multiply 7 rfl) rfl fl_Re_21 (by repeat (first | exact gi_up_self _ _ _ | assumption | rw [gi_up_ne (by omega)])) rfl ?_
  refine gi_aload_n (q := 16) (i := 2) C (dm_Re_multiply 8 rfl) rfl rfl rfl ?_
  refine gi_get (q := 19) C (dm_Re_multiply 9 rfl) rfl fl_Re_25 (by repeat (first | exact gi_up_self _ _ _ | assumption | rw [gi_up_ne (by omega)])) rfl ?_
  refine gi_lmul (q := 20) C (dm_Re_multiply 10 rfl) rfl ?_
  rw [eL_mul]
  refine gi_lstore (q := 22) C (dm_Re_multiply 11 rfl) rfl (Nat.le_of_ble_eq_true rfl) ?_
  refine gi_aload_n (q := 23) (i := 1) C (dm_Re_multiply 12 rfl) rfl rfl rfl ?_
  refine gi_get (q := 26) C (dm_Re_multiply 13 rfl) rfl fl_Re_25 (by repeat (first | exact gi_up_self _ _ _ | assumption | rw [gi_up_ne (by omega)])) rfl ?_
  refine gi_aload_n (q := 27) (i := 2) C (dm_Re_multiply 14 rfl) rfl rfl rfl ?_
  refine gi_get (q := 30) C (dm_Re_multiply 15 rfl) rfl fl_Re_21 (by repeat (first | exact gi_up_self _ _ _ | assumption | rw [gi_up_ne (by omega)])) rfl ?_
  refine gi_lmul (q := 31) C (dm_Re_multiply 16 rfl) rfl ?_
  rw [eL_mul]
  refine gi_lstore (q := 33) C (dm_Re_multiply 17 rfl) rfl (Nat.le_of_ble_eq_true rfl) ?_
  refine gi_aload_n (q := 34) (i := 1) C (dm_Re_multiply 18 rfl) rfl rfl rfl ?_
  refine gi_get (q := 37) C (dm_Re_multiply 19 rfl) rfl fl_Re_25 (by repeat (first | exact gi_up_self _ _ _ | assumption | rw [gi_up_ne (by omega)])) rfl ?_
  refine gi_aload_n (q := 38) (i := 2) C (dm_Re_multiply 20 rfl) rfl rfl rfl ?_
  refine gi_get (q := 41) C (dm_Re_multiply 21 rfl) rfl fl_Re_25 (by repeat (first | exact gi_up_self _ _ _ | assumption | rw [gi_up_ne (by omega)])) rfl ?_
  refine gi_lmul (q := 42) C (dm_Re_multiply 22 rfl) rfl ?_
  rw [eL_mul]
  refine gi_lstore (q := 44) C (dm_Re_multiply 23 rfl) rfl (Nat.le_of_ble_eq_true rfl) ?_
  refine gi_lload (q := 46) C (dm_Re_multiply 24 rfl) rfl rfl ?_
  refine gi_lload (q := 48) C (dm_Re_multiply 25 rfl) rfl rfl ?_
  refine gi_calls 2 (q := 51) C (dm_Re_multiply 26 rfl) rfl my_Mt_min_1 lk_Re_94 sm_Mt_min_1 (c_Mt_min_1 (x.1 * y.1) (x.1 * y.2.1) (by omega) (by omega) (by omega) (by omega)) rfl rfl ⟨(Nat.le_of_ble_eq_true rfl), (Nat.le_of_ble_eq_true rfl)⟩ (Nat.le_of_ble_eq_true rfl) ⟨(Nat.le_of_ble_eq_true rfl), (Nat.le_of_ble_eq_true rfl)⟩ (fun r48 n48 h48 e48 => ?_)
  obtain ⟨rfl, rfl, rfl⟩ := e48
  refine gi_lload (q := 53) C (dm_Re_multiply 27 rfl) rfl rfl ?_
  refine gi_lload (q := 55) C (dm_Re_multiply 28 rfl) rfl rfl ?_
  refine gi_calls 2 (q := 58) C (dm_Re_multiply 29 rfl) rfl my_Mt_min_1 lk_Re_94 sm_Mt_min_1 (c_Mt_min_1 (x.2.1 * y.1) (x.2.1 * y.2.1) (by omega) (by omega) (by omega) (by omega)) rfl rfl ⟨(Nat.le_of_ble_eq_true rfl), (Nat.le_of_ble_eq_true rfl)⟩ (Nat.le_of_ble_eq_true rfl) ⟨(Nat.le_of_ble_eq_true rfl), (Nat.le_of_ble_eq_true rfl)⟩ (fun r55 n55 h55 e55 => ?_)
  obtain ⟨rfl, rfl, rfl⟩ := e55
  refine gi_calls 2 (q := 61) C (dm_Re_multiply 30 rfl) rfl my_Mt_min_1 lk_Re_94 sm_Mt_min_1 (c_Mt_min_1 (min (x.1 * y.1) (x.1 * y.2.1)) (min (x.2.1 * y.1) (x.2.1 * y.2.1)) (by omega) (by omega) (by omega) (by omega)) rfl rfl ⟨(Nat.le_of_ble_eq_true rfl), (Nat.le_of_ble_eq_true rfl)⟩ (Nat.le_of_ble_eq_true rfl) ⟨(Nat.le_of_ble_eq_true rfl), (Nat.le_of_ble_eq_true rfl)⟩ (fun r58 n58 h58 e58 => ?_)
  obtain ⟨rfl, rfl, rfl⟩ := e58
  refine gi_lstore (q := 63) C (dm_Re_multiply 31 rfl) rfl (Nat.le_of_ble_eq_true rfl) ?_
  refine gi_aload_n (q := 64) (i := 0) C (dm_Re_multiply 32 rfl) rfl rfl rfl ?_
  refine gi_lload (q := 66) C (dm_Re_multiply 33 rfl) rfl rfl ?_
  refine gi_lload (q := 68) C (dm_Re_multiply 34 rfl) rfl rfl ?_
  refine gi_lload (q := 70) C (dm_Re_multiply 35 rfl) rfl rfl ?_
  refine gi_calls 2 (q := 73) C (dm_Re_multiply 36 rfl) rfl my_Mt_max_0 lk_Re_80 sm_Mt_max_0 (c_Mt_max_0 (x.1 * y.1) (x.1 * y.2.1) (by omega) (by omega) (by omega) (by omega)) rfl rfl ⟨(Nat.le_of_ble_eq_true rfl), (Nat.le_of_ble_eq_true rfl)⟩ (Nat.le_of_ble_eq_true rfl) ⟨(Nat.le_of_ble_eq_true rfl), (Nat.le_of_ble_eq_true rfl)⟩ (fun r70 n70 h70 e70 => ?_)
  obtain ⟨rfl, rfl, rfl⟩ := e70
  refine gi_lload (q := 75) C (dm_Re_multiply 37 rfl) rfl rfl ?_
  refine gi_lload (q := 77) C (dm_Re_multiply 38 rfl) rfl rfl ?_
  refine gi_calls 2 (q := 80) C (dm_Re_multiply 39 rfl) rfl my_Mt_max_0 lk_Re_80 sm_Mt_max_0 (c_Mt_max_0 (x.2.1 * y.1) (x.2.1 * y.2.1) (by omega) (by omega) (by omega) (by omega)) rfl rfl ⟨(Nat.le_of_ble_eq_true rfl), (Nat.le_of_ble_eq_true rfl)⟩ (Nat.le_of_ble_eq_true rfl) ⟨(Nat.le_of_ble_eq_true rfl), (Nat.le_of_ble_eq_true rfl)⟩ (fun r77 n77 h77 e77 => ?_)
  obtain ⟨rfl, rfl, rfl⟩ := e77
  refine gi_calls 2 (q := 83) C (dm_Re_multiply 40 rfl) rfl my_Mt_max_0 lk_Re_80 sm_Mt_max_0 (c_Mt_max_0 (max (x.1 * y.1) (x.1 * y.2.1)) (max (x.2.1 * y.1) (x.2.1 * y.2.1)) (by omega) (by omega) (by omega) (by omega)) rfl rfl ⟨(Nat.le_of_ble_eq_true rfl), (Nat.le_of_ble_eq_true rfl)⟩ (Nat.le_of_ble_eq_true rfl) ⟨(Nat.le_of_ble_eq_true rfl), (Nat.le_of_ble_eq_true rfl)⟩ (fun r80 n80 h80 e80 => ?_)
  obtain ⟨rfl, rfl, rfl⟩ := e80
  refine gi_lconst (q := 84) (v := 1) C (dm_Re_multiply 41 rfl) rfl (by decide) ?_
  refine gi_aload_n (q := 85) (i := 3) C (dm_Re_multiply 42 rfl) rfl rfl rfl ?_
  rw [eL_1]
  refine gi_callv 4 (q := 88) C (dm_Re_multiply 43 rfl) rfl my_Re_turn lk_Re_35 im_Re_turn rfl (c_Re_turn r ao (min (min (x.1 * y.1) (x.1 * y.2.1)) (min (x.2.1 * y.1) (x.2.1 * y.2.1))) (max (max (x.1 * y.1) (x.1 * y.2.1)) (max (x.2.1 * y.1) (x.2.1 * y.2.1))) 1 v (by omega) (by omega) (by omega) (by omega) (by omega) (by omega) hc) hr0 rfl rfl ⟨(Nat.le_of_ble_eq_true rfl), (Nat.le_of_ble_eq_true rfl)⟩ (Nat.le_of_ble_eq_true rfl) ⟨(Nat.le_of_ble_eq_true rfl), (Nat.le_of_ble_eq_true rfl)⟩ (fun r85 n85 h85 e85 => ?_)
  obtain ⟨rfl, rfl, rfl⟩ := e85
  refine gi_vret C hr (dm_Re_multiply 44 rfl) ?_
  exact ⟨rfl, rfl, rfl⟩
theorem sg_iff {a b : Int} (h1 : -9223372036854775808 ≤ a) (h2 : a < 9223372036854775808) (h3 : -9223372036854775808 ≤ b) (h4 : b < 9223372036854775808) : bI (decide (eL a = eL b)) = 0 ↔ ¬ a = b := by
  have e := eL_eq h1 h2 h3 h4
  by_cases q : a = b
  · simp [bI, q]
  · have : ¬ eL a = eL b := fun z => q (e.mp z)
    simp [bI, this, q]
theorem div_b {a : Int} {c : Nat} (h1 : -9223372036854775808 ≤ a) (h2 : a < 9223372036854775808) : -9223372036854775808 ≤ a / 2 ^ c ∧ a / 2 ^ c < 9223372036854775808 := by
  have hp : (0 : Int) < 2 ^ c := Int.pow_pos (by decide)
  constructor
  · rcases Int.le_total 0 a with h | h
    · have := Int.ediv_nonneg h (Int.le_of_lt hp)
      omega
    · have : a ≤ a / 2 ^ c := by
        apply (Int.le_ediv_iff_mul_le hp).mpr
        have h3 : (1 : Int) ≤ 2 ^ c := hp
        have h4 := Int.mul_le_mul_of_nonpos_left h h3
        omega
      omega
  · rcases Int.le_total 0 a with h | h
    · have := Int.ediv_le_self (2 ^ c) h
      omega
    · have : a / 2 ^ c ≤ 0 := Int.ediv_nonpos_of_nonpos_of_neg h hp
      omega
set_option maxHeartbeats 4000000 in
set_option maxRecDepth 100000 in
theorem c_Re_shiftRight (r ax ay ao : Nat) (x y : Sp) (ob : List Value) (v : mV) (hx : okS x) (hy : okS y) (hr0 : h r = some (gi_O 7 ob)) (ha : h ax = some (eV (sV x))) (hb : h ay = some (eV (sV y))) (hc : h ao = some (eV v)) : gi_T l V y_Re_shiftRight b_Re_shiftRight 5 none 1 26 0 0 [.ref r, .ref ax, .ref ay, .ref ao] n h (gi_is none n (gi_up h ao (eV (sV (shrS x y))))) := by
  refine gi_enter (by decide) (Nat.le_of_ble_eq_true rfl) ?_
  intro _ _ _ _ _ _ _ _ C hr hnm
  obtain ⟨o1, o2, o3, o4, o5, o6⟩ := id hx
  have o7 := hx.st
  obtain ⟨w1, w2, w3, w4, w5, w6⟩ := id hy
  have w7 := hy.st
  refine gi_aload_n (q := 1) (i := 2) C (dm_Re_shiftRight 0 rfl) rfl rfl rfl ?_
  refine gi_callv 0 (q := 4) C (dm_Re_shiftRight 1 rfl) rfl my_Va_isSingle lk_Re_39 im_Va_isSingle rfl (c_Va_isSingle ay _ hb) hb rfl rfl ⟨(Nat.le_of_ble_eq_true rfl), (Nat.le_of_ble_eq_true rfl)⟩ (Nat.le_of_ble_eq_true rfl) ⟨(Nat.le_of_ble_eq_true rfl), (Nat.le_of_ble_eq_true rfl)⟩ (fun r1 n1 h1 e1 => ?_)
  obtain ⟨rfl, rfl, rfl⟩ := e1
  refine gi_if_eq (q := 7) (tgt := 40) C (dm_Re_shiftRight 2 rfl) rfl (by decide) (fun c4 => ?_) (fun c4 => ?_)
  · have sg := (sg_iff (show -9223372036854775808 ≤ y.1 by omega) (by omega) (show -9223372036854775808 ≤ y.2.1 by omega) (by omega)).mp c4
    refine gi_aload_n (q := 41) (i := 3) C (dm_Re_shiftRight 21 rfl) rfl rfl rfl ?_
    refine gi_aload_n (q := 42) (i := 1) C (dm_Re_shiftRight 22 rfl) rfl rfl rfl ?_
    refine gi_get (q := 45) C (dm_Re_shiftRight 23 rfl) rfl fl_Re_21 (by repeat (first | exact gi_up_self _ _ _ | assumption | rw [gi_up_ne (by omega)])) rfl ?_
    refine gi_lconst (q := 46) (v := 0) C (dm_Re_shiftRight 24 rfl) rfl (by decide) ?_
    rw [eL_0]
    refine gi_calls 2 (q := 49) C (dm_Re_shiftRight 25 rfl) rfl my_Mt_min_1 lk_Re_94 sm_Mt_min_1 (c_Mt_min_1 x.1 0 (by omega) (by omega) (by omega) (by omega)) rfl rfl ⟨(Nat.le_of_ble_eq_true rfl), (Nat.le_of_ble_eq_true rfl)⟩ (Nat.le_of_ble_eq_true rfl) ⟨(Nat.le_of_ble_eq_true rfl), (Nat.le_of_ble_eq_true rfl)⟩ (fun r46 n46 h46 e46 => ?_)
    obtain ⟨rfl, rfl, rfl⟩ := e46
    refine gi_aload_n (q := 50) (i := 1) C (dm_Re_shiftRight 26 rfl) rfl rfl rfl ?_
    refine gi_get (q := 53) C (dm_Re_shiftRight 27 rfl) rfl fl_Re_25 (by repeat (first | exact gi_up_self _ _ _ | assumption | rw [gi_up_ne (by omega)])) rfl ?_
    refine gi_lconst (q := 54) (v := 0) C (dm_Re_shiftRight 28 rfl) rfl (by decide) ?_
    refine gi_lcmp (q := 55) C (dm_Re_shiftRight 29 rfl) rfl ?_
    refine gi_if_lt (q := 58) (tgt := 65) C (dm_Re_shiftRight 30 rfl) rfl (by decide) (fun c55 => ?_) (fun c55 => ?_)
    · refine gi_ldc2 (q := 68) C (dm_Re_shiftRight 34 rfl) rfl kc_Re_101 ?_
      refine gi_lconst (q := 69) (v := 1) C (dm_Re_shiftRight 35 rfl) rfl (by decide) ?_
      try rw [eL_m1]
      rw [eL_1]
      refine gi_callv 3 (q := 72) C (dm_Re_shiftRight 36 rfl) rfl my_Va_beSpan lk_Re_74 im_Va_beSpan rfl (c_Va_beSpan ao v _ _ _ hc) hc rfl rfl ⟨(Nat.le_of_ble_eq_true rfl), (Nat.le_of_ble_eq_true rfl)⟩ (Nat.le_of_ble_eq_true rfl) ⟨(Nat.le_of_ble_eq_true rfl), (Nat.le_of_ble_eq_true rfl)⟩ (fun r69 n69 h69 e69 => ?_)
      obtain ⟨rfl, rfl, rfl⟩ := e69
      refine gi_vret C hr (dm_Re_shiftRight 37 rfl) ?_
      (try simp (disch := omega) only [lg_cmp_ge, lg_cmp_le, lg_cmp_gt, lg_cmp_lt, lg_cmp_eq, eL_0, eL_1, eL_m1, eL_LO, eL_HI, eL_W, eL_add, eL_sub, eL_mul, eL_neg, eL_lt, eL_le, eL_eq, eL_remN, eL_mod0, ne_eq, Int64.not_lt, Int64.not_le] at c4)
      (try simp (disch := omega) only [lg_cmp_ge, lg_cmp_le, lg_cmp_gt, lg_cmp_lt, lg_cmp_eq, eL_0, eL_1, eL_m1, eL_LO, eL_HI, eL_W, eL_add, eL_sub, eL_mul, eL_neg, eL_lt, eL_le, eL_eq, eL_remN, eL_mod0, ne_eq, Int64.not_lt, Int64.not_le] at c55)
      refine ⟨rfl, rfl, ?_⟩
      unfold shrS
      first
        | (rw [if_pos sg, mSpan_mk (by omega) (by omega) (by omega) (by omega)]; done)
        | (rw [if_neg sg, if_pos (by omega), mSpan_mk (by omega) (by omega) (by omega) (by omega)]; done)
        | (rw [if_neg sg, if_neg (by omega), mSpan_mk (by omega) (by omega) (by omega) (by omega)]; done)
    · refine gi_aload_n (q := 59) (i := 1) C (dm_Re_shiftRight 31 rfl) rfl rfl rfl ?_
      refine gi_get (q := 62) C (dm_Re_shiftRight 32 rfl) rfl fl_Re_25 (by repeat (first | exact gi_up_self _ _ _ | assumption | rw [gi_up_ne (by omega)])) rfl ?_
      refine gi_goto (tgt := 68) C (dm_Re_shiftRight 33 rfl) (by decide) ?_
      refine gi_lconst (q := 69) (v := 1) C (dm_Re_shiftRight 35 rfl) rfl (by decide) ?_
      try rw [eL_m1]
      rw [eL_1]
      refine gi_callv 3 (q := 72) C (dm_Re_shiftRight 36 rfl) rfl my_Va_beSpan lk_Re_74 im_Va_beSpan rfl (c_Va_beSpan ao v _ _ _ hc) hc rfl rfl ⟨(Nat.le_of_ble_eq_true rfl), (Nat.le_of_ble_eq_true rfl)⟩ (Nat.le_of_ble_eq_true rfl) ⟨(Nat.le_of_ble_eq_true rfl), (Nat.le_of_ble_eq_true rfl)⟩ (fun r69 n69 h69 e69 => ?_)
      obtain ⟨rfl, rfl, rfl⟩ := e69
      refine gi_vret C hr (dm_Re_shiftRight 37 rfl) ?_
      (try simp (disch := omega) only [lg_cmp_ge, lg_cmp_le, lg_cmp_gt, lg_cmp_lt, lg_cmp_eq, eL_0, eL_1, eL_m1, eL_LO, eL_HI, eL_W, eL_add, eL_sub, eL_mul, eL_neg, eL_lt, eL_le, eL_eq, eL_remN, eL_mod0, ne_eq, Int64.not_lt, Int64.not_le] at c4)
      (try simp (disch := omega) only [lg_cmp_ge, lg_cmp_le, lg_cmp_gt, lg_cmp_lt, lg_cmp_eq, eL_0, eL_1, eL_m1, eL_LO, eL_HI, eL_W, eL_add, eL_sub, eL_mul, eL_neg, eL_lt, eL_le, eL_eq, eL_remN, eL_mod0, ne_eq, Int64.not_lt, Int64.not_le] at c55)
      refine ⟨rfl, rfl, ?_⟩
      unfold shrS
      first
        | (rw [if_pos sg, mSpan_mk (by omega) (by omega) (by omega) (by omega)]; done)
        | (rw [if_neg sg, if_pos (by omega), mSpan_mk (by omega) (by omega) (by omega) (by omega)]; done)
        | (rw [if_neg sg, if_neg (by omega), mSpan_mk (by omega) (by omega) (by omega) (by omega)]; done)
  · have sg : y.1 = y.2.1 := by
      by_cases q : y.1 = y.2.1
      · exact q
      · exact absurd ((sg_iff (show -9223372036854775808 ≤ y.1 by omega) (by omega) (show -9223372036854775808 ≤ y.2.1 by omega) (by omega)).mpr q) c4
    have d1 := div_b (a := x.1) (c := (y.1 % 32).toNat) (by omega) (by omega)
    have d2 := div_b (a := x.2.1) (c := (y.1 % 32).toNat) (by omega) (by omega)
    refine gi_aload_n (q := 8) (i := 2) C (dm_Re_shiftRight 3 rfl) rfl rfl rfl ?_
    refine gi_get (q := 11) C (dm_Re_shiftRight 4 rfl) rfl fl_Re_21 (by repeat (first | exact gi_up_self _ _ _ | assumption | rw [gi_up_ne (by omega)])) rfl ?_
    refine gi_ldc2 (q := 14) C (dm_Re_shiftRight 5 rfl) rfl kc_Re_61 ?_
    refine gi_land (q := 15) C (dm_Re_shiftRight 6 rfl) rfl ?_
    refine gi_l2i (q := 16) C (dm_Re_shiftRight 7 rfl) rfl ?_
    rw [sp_low5]
    refine gi_istore (q := 18) C (dm_Re_shiftRight 8 rfl) rfl (Nat.le_of_ble_eq_true rfl) ?_
    refine gi_aload_n (q := 19) (i := 3) C (dm_Re_shiftRight 9 rfl) rfl rfl rfl ?_
    refine gi_aload_n (q := 20) (i := 1) C (dm_Re_shiftRight 10 rfl) rfl rfl rfl ?_
    refine gi_get (q := 23) C (dm_Re_shiftRight 11 rfl) rfl fl_Re_21 (by repeat (first | exact gi_up_self _ _ _ | assumption | rw [gi_up_ne (by omega)])) rfl ?_
    refine gi_iload (q := 25) C (dm_Re_shiftRight 12 rfl) rfl rfl ?_
    refine gi_lshr (q := 26) C (dm_Re_shiftRight 13 rfl) rfl ?_
    rw [sp_shr _ (by omega) (by omega) (by omega)]
    refine gi_aload_n (q := 27) (i := 1) C (dm_Re_shiftRight 14 rfl) rfl rfl rfl ?_
    refine gi_get (q := 30) C (dm_Re_shiftRight 15 rfl) rfl fl_Re_25 (by repeat (first | exact gi_up_self _ _ _ | assumption | rw [gi_up_ne (by omega)])) rfl ?_
    refine gi_iload (q := 32) C (dm_Re_shiftRight 16 rfl) rfl rfl ?_
    refine gi_lshr (q := 33) C (dm_Re_shiftRight 17 rfl) rfl ?_
    rw [sp_shr _ (by omega) (by omega) (by omega)]
    refine gi_lconst (q := 34) (v := 1) C (dm_Re_shiftRight 18 rfl) rfl (by decide) ?_
    rw [eL_1]
    refine gi_callv 3 (q := 37) C (dm_Re_shiftRight 19 rfl) rfl my_Va_beSpan lk_Re_74 im_Va_beSpan rfl (c_Va_beSpan ao v _ _ _ hc) hc rfl rfl ⟨(Nat.le_of_ble_eq_true rfl), (Nat.le_of_ble_eq_true rfl)⟩ (Nat.le_of_ble_eq_true rfl) ⟨(Nat.le_of_ble_eq_true rfl), (Nat.le_of_ble_eq_true rfl)⟩ (fun r34 n34 h34 e34 => ?_)
    obtain ⟨rfl, rfl, rfl⟩ := e34
    refine gi_goto (tgt := 72) C (dm_Re_shiftRight 20 rfl) (by decide) ?_
    refine gi_vret C hr (dm_Re_shiftRight 37 rfl) ?_
    (try simp (disch := omega) only [lg_cmp_ge, lg_cmp_le, lg_cmp_gt, lg_cmp_lt, lg_cmp_eq, eL_0, eL_1, eL_m1, eL_LO, eL_HI, eL_W, eL_add, eL_sub, eL_mul, eL_neg, eL_lt, eL_le, eL_eq, eL_remN, eL_mod0, ne_eq, Int64.not_lt, Int64.not_le] at c4)
    refine ⟨rfl, rfl, ?_⟩
    unfold shrS
    first
      | (rw [if_pos sg, mSpan_mk (by omega) (by omega) (by omega) (by omega)]; done)
      | (rw [if_neg sg, if_pos (by omega), mSpan_mk (by omega) (by omega) (by omega) (by omega)]; done)
      | (rw [if_neg sg, if_neg (by omega), mSpan_mk (by omega) (by omega) (by omega) (by omega)]; done)
end RE2
