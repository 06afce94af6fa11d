-- needs: 89.50
section RN2
variable {l : Launch} {V : gi_V} {n : Nat} {h h' : gi_H} {M : Nat} {S S' : Nat → Int32} {J J' : Nat → Int64} {F : Nat → Nat → Int32} {G : Nat → Nat → Int64}
set_option maxHeartbeats 4000000 in
set_option maxRecDepth 100000 in
theorem c_Mo_set (a b c : Int) (a1 : -9223372036854775808 < a) (a2 : a < 9223372036854775808) (b1 : -9223372036854775808 < b) (b2 : b < 9223372036854775808) (H : mo_at M S J F G h) : gi_T l V y_Mo_set b_Mo_set 7 none 0 0 0 0 [.ref M, .long (eL a), .long (eL b), .long (eL c)] n h (fun v n' h' => v = none ∧ n' = n ∧ moN M F G h S J (mkS a b c) h') := by
  refine gi_enter (by decide) (Nat.le_of_ble_eq_true rfl) ?_
  intro _ _ _ _ _ _ _ _ C hr hnm
  obtain ⟨fs, Ha, Hf⟩ := id H.1
  have ho : outM M h h := outM.rf
  refine gi_aload_n (q := 1) (i := 0) C (dm_Mo_set 0 rfl) rfl rfl rfl ?_
  refine gi_lload_n (q := 2) (i := 1) C (dm_Mo_set 1 rfl) rfl rfl rfl ?_
  refine gi_put (q := 5) C (dm_Mo_set 2 rfl) rfl fl_Mo_242 fp_Mo_22 Ha (by rw [Hf.1]; decide) rfl rfl ?_
  refine gi_genM (H.putJ Ha Hf (by decide) rfl) (ho.up (by omega) (by omega)) (fun y H ho => ?_)
  obtain ⟨fs, Ha, Hf⟩ := id H.1
  refine gi_aload_n (q := 6) (i := 0) C (dm_Mo_set 3 rfl) rfl rfl rfl ?_
  refine gi_lload_n (q := 7) (i := 3) C (dm_Mo_set 4 rfl) rfl rfl rfl ?_
  refine gi_put (q := 10) C (dm_Mo_set 5 rfl) rfl fl_Mo_246 fp_Mo_23 Ha (by rw [Hf.1]; decide) rfl rfl ?_
  refine gi_genM (H.putJ Ha Hf (by decide) rfl) (ho.up (by omega) (by omega)) (fun y H ho => ?_)
  obtain ⟨fs, Ha, Hf⟩ := id H.1
  refine gi_aload_n (q := 11) (i := 0) C (dm_Mo_set 6 rfl) rfl rfl rfl ?_
  refine gi_lload_n (q := 12) (i := 1) C (dm_Mo_set 7 rfl) rfl rfl rfl ?_
  refine gi_lload_n (q := 13) (i := 3) C (dm_Mo_set 8 rfl) rfl rfl rfl ?_
  refine gi_lcmp (q := 14) C (dm_Mo_set 9 rfl) rfl ?_
  refine gi_if_ne (q := 17) (tgt := 21) C (dm_Mo_set 10 rfl) rfl (by decide) (fun c14 => ?_) (fun c14 => ?_)
  · refine gi_lload (q := 23) C (dm_Mo_set 13 rfl) rfl rfl ?_
    refine gi_put (q := 26) C (dm_Mo_set 14 rfl) rfl fl_Mo_249 fp_Mo_24 Ha (by rw [Hf.1]; decide) rfl rfl ?_
    refine gi_genM (H.putJ Ha Hf (by decide) rfl) (ho.up (by omega) (by omega)) (fun y H ho => ?_)
    obtain ⟨fs, Ha, Hf⟩ := id H.1
    refine gi_vret C hr (dm_Mo_set 15 rfl) ?_
    (try simp (disch := omega) only [lg_cmp_ge, lg_cmp_le, lg_cmp_gt, lg_cmp_lt, lg_cmp_eq, eL_0, eL_1, eL_m1, eL_LO, eL_HI, eL_W, eL_add, eL_sub, eL_mul, eL_neg, eL_lt, eL_le, eL_eq, eL_remN, eL_mod0, ne_eq, Int64.not_lt, Int64.not_le] at c14)
    refine ⟨rfl, rfl, _, _, H, ho, ⟨fun j hj => by
        unfold upL
        rw [if_neg (by omega), if_neg (by omega), if_neg (by omega)], rfl⟩, ?_⟩
    unfold mkS
    first
      | (rw [if_pos (by omega)]; exact ⟨rfl, rfl, rfl⟩)
      | (rw [if_neg (by omega)]; exact ⟨rfl, rfl, rfl⟩)
  · refine gi_lconst (q := 18) (v := 0) C (dm_Mo_set 11 rfl) rfl (by decide) ?_
    refine gi_goto (tgt := 23) C (dm_Mo_set 12 rfl) (by decide) ?_
    refine gi_put (q := 26) C (dm_Mo_set 14 rfl) rfl fl_Mo_249 fp_Mo_24 Ha (by rw [Hf.1]; decide) rfl rfl ?_
    refine gi_genM (H.putJ Ha Hf (by decide) rfl) (ho.up (by omega) (by omega)) (fun y H ho => ?_)
    obtain ⟨fs, Ha, Hf⟩ := id H.1
    refine gi_vret C hr (dm_Mo_set 15 rfl) ?_
    (try simp (disch := omega) only [lg_cmp_ge, lg_cmp_le, lg_cmp_gt, lg_cmp_lt, lg_cmp_eq, eL_0, eL_1, eL_m1, eL_LO, eL_HI, eL_W, eL_add, eL_sub, eL_mul, eL_neg, eL_lt, eL_le, eL_eq, eL_remN, eL_mod0, ne_eq, Int64.not_lt, Int64.not_le] at c14)
    refine ⟨rfl, rfl, _, _, H, ho, ⟨fun j hj => by
        unfold upL
        rw [if_neg (by omega), if_neg (by omega), if_neg (by omega)], rfl⟩, ?_⟩
    unfold mkS
    first
      | (rw [if_pos (by omega)]; exact ⟨rfl, rfl, rfl⟩)
      | (rw [if_neg (by omega)]; exact ⟨rfl, rfl, rfl⟩)
theorem both_mk {x y : Sp} (hx : okS x) (hy : okS y) : mkS (min x.1 y.1) (max x.2.1 y.2.1) (Int.gcd (Int.gcd x.2.2 y.2.2 : Nat) (x.1 - y.1) : Nat) = bothS x y := by
  have hx5 := hx.2.2.2.2.1
  have hy5 := hy.2.2.2.2.1
  have x2 := hx.2.1
  have y2 := hy.2.1
  unfold mkS bothS
  by_cases q : min x.1 y.1 = max x.2.1 y.2.1
  · rw [if_pos q]
    have e1 := hx5 (by omega)
    have e2 := hy5 (by omega)
    rw [e1, e2, show x.1 - y.1 = 0 by omega]
    rfl
  · rw [if_neg q]
theorem gcd_b32 {a b : Int} (a1 : 0 ≤ a) (a2 : a ≤ 4294967296) (b1 : 0 ≤ b) (b2 : b ≤ 4294967296) : ((Int.gcd a b : Nat) : Int) ≤ 4294967296 := by
  by_cases q : a = 0
  · subst q
    rw [Int.gcd_zero_left]
    omega
  · have := Int.gcd_le_natAbs_left (a := a) b q
    omega
set_option maxHeartbeats 4000000 in
set_option maxRecDepth 100000 in
theorem c_Mo_both (x y : Sp) (hx : okS x) (hy : okS y) (H : mo_at M S J F G h) : gi_T l V y_Mo_both b_Mo_both 13 none 1 29 0 0 [.ref M, .long (eL x.1), .long (eL x.2.1), .long (eL x.2.2), .long (eL y.1), .long (eL y.2.1), .long (eL y.2.2)] n h (fun v n' h' => v = none ∧ n' = n ∧ moN M F G h S J (bothS x y) h') := by
  refine gi_enter (by decide) (Nat.le_of_ble_eq_true rfl) ?_
  intro _ _ _ _ _ _ _ _ C hr hnm
  obtain ⟨fs, Ha, Hf⟩ := id H.1
  have ho : outM M h h := outM.rf
  obtain ⟨x1, x2, x3, x4, -⟩ := id hx
  have x5 := hx.st
  obtain ⟨y1, y2, y3, y4, -⟩ := id hy
  have y5 := hy.st
  have gg : (Int.gcd x.2.2 y.2.2 : Int) ≤ 4294967296 := gcd_b32 (by omega) (by omega) (by omega) (by omega)
  refine gi_aload_n (q := 1) (i := 0) C (dm_Mo_both 0 rfl) rfl rfl rfl ?_
  refine gi_lload_n (q := 2) (i := 1) C (dm_Mo_both 1 rfl) rfl rfl rfl ?_
  refine gi_lload (q := 4) C (dm_Mo_both 2 rfl) rfl rfl ?_
  refine gi_calls 2 (q := 7) C (dm_Mo_both 3 rfl) rfl my_Mo_min lk_Mo_252 sm_Mo_min (c_Mo_min x.1 y.1 (by omega) (by omega) (by omega) (by omega)) rfl rfl ⟨(Nat.le_of_ble_eq_true rfl), (Nat.le_of_ble_eq_true rfl)⟩ (Nat.le_of_ble_eq_true rfl) ⟨(Nat.le_of_ble_eq_true rfl), (Nat.le_of_ble_eq_true rfl)⟩ (fun r4 n4 h4 e4 => ?_)
  obtain ⟨rfl, q4, u4⟩ := e4
  rw [q4, u4]
  refine gi_lload_n (q := 8) (i := 3) C (dm_Mo_both 4 rfl) rfl rfl rfl ?_
  refine gi_lload (q := 10) C (dm_Mo_both 5 rfl) rfl rfl ?_
  refine gi_calls 2 (q := 13) C (dm_Mo_both 6 rfl) rfl my_Mo_max lk_Mo_256 sm_Mo_max (c_Mo_max x.2.1 y.2.1 (by omega) (by omega) (by omega) (by omega)) rfl rfl ⟨(Nat.le_of_ble_eq_true rfl), (Nat.le_of_ble_eq_true rfl)⟩ (Nat.le_of_ble_eq_true rfl) ⟨(Nat.le_of_ble_eq_true rfl), (Nat.le_of_ble_eq_true rfl)⟩ (fun r10 n10 h10 e10 => ?_)
  obtain ⟨rfl, q10, u10⟩ := e10
  rw [q10, u10]
  refine gi_lload (q := 15) C (dm_Mo_both 7 rfl) rfl rfl ?_
  refine gi_lload (q := 17) C (dm_Mo_both 8 rfl) rfl rfl ?_
  refine gi_calls 2 (q := 20) C (dm_Mo_both 9 rfl) rfl my_Mo_gcd lk_Mo_259 sm_Mo_gcd (c_Mo_gcd x.2.2 y.2.2 (by omega) (by omega) (by omega) (by omega)) rfl rfl ⟨(Nat.le_of_ble_eq_true rfl), (Nat.le_of_ble_eq_true rfl)⟩ (Nat.le_of_ble_eq_true rfl) ⟨(Nat.le_of_ble_eq_true rfl), (Nat.le_of_ble_eq_true rfl)⟩ (fun r17 n17 h17 e17 => ?_)
  obtain ⟨rfl, q17, u17⟩ := e17
  rw [q17, u17]
  refine gi_lload_n (q := 21) (i := 1) C (dm_Mo_both 10 rfl) rfl rfl rfl ?_
  refine gi_lload (q := 23) C (dm_Mo_both 11 rfl) rfl rfl ?_
  refine gi_lsub (q := 24) C (dm_Mo_both 12 rfl) rfl ?_
  rw [eL_sub]
  refine gi_calls 2 (q := 27) C (dm_Mo_both 13 rfl) rfl my_Mo_gcd lk_Mo_259 sm_Mo_gcd (c_Mo_gcd (Int.gcd x.2.2 y.2.2 : Nat) (x.1 - y.1) (by omega) (by omega) (by omega) (by omega)) rfl rfl ⟨(Nat.le_of_ble_eq_true rfl), (Nat.le_of_ble_eq_true rfl)⟩ (Nat.le_of_ble_eq_true rfl) ⟨(Nat.le_of_ble_eq_true rfl), (Nat.le_of_ble_eq_true rfl)⟩ (fun r24 n24 h24 e24 => ?_)
  obtain ⟨rfl, q24, u24⟩ := e24
  rw [q24, u24]
  refine gi_callv 3 (q := 30) C (dm_Mo_both 14 rfl) rfl my_Mo_set lk_Mo_262 im_Mo_set rfl (c_Mo_set (min x.1 y.1) (max x.2.1 y.2.1) ((Int.gcd (Int.gcd x.2.2 y.2.2 : Nat) (x.1 - y.1) : Nat)) (by omega) (by omega) (by omega) (by omega) H) Ha rfl rfl ⟨(Nat.le_of_ble_eq_true rfl), (Nat.le_of_ble_eq_true rfl)⟩ (Nat.le_of_ble_eq_true rfl) ⟨(Nat.le_of_ble_eq_true rfl), (Nat.le_of_ble_eq_true rfl)⟩ (fun r27 n27 h27 e27 => ?_)
  obtain ⟨rfl, rfl, W27⟩ := e27
  refine gi_vret C hr (dm_Mo_both 15 rfl) ?_
  rw [both_mk hx hy] at W27
  exact ⟨rfl, rfl, W27⟩
def upR (f t s : Int) : Int := if s = 0 ∨ t ≤ f then f else f + (t - f + s - 1) / s * s
def dnR (f t s : Int) : Int := if s = 0 ∨ f ≤ t then f else f - (f - t + s - 1) / s * s
set_option maxHeartbeats 4000000 in
set_option maxRecDepth 100000 in
theorem c_Mo_upTo (f t s : Int) (f1 : -8589934592 ≤ f) (f2 : f ≤ 8589934592) (t1 : -8589934592 ≤ t) (t2 : t ≤ 8589934592) (s0 : 0 ≤ s) (s2 : s ≤ 8589934592) : gi_T l V y_Mo_upTo b_Mo_upTo 6 (some .long) 0 0 0 0 [.long (eL f), .long (eL t), .long (eL s)] n h (gi_is (some (.long (eL (upR f t s)))) n h) := by
  refine gi_enter (by decide) (Nat.le_of_ble_eq_true rfl) ?_
  intro _ _ _ _ _ _ _ _ C hr hnm
  refine gi_lload (q := 2) C (dm_Mo_upTo 0 rfl) rfl rfl ?_
  refine gi_lconst (q := 3) (v := 0) C (dm_Mo_upTo 1 rfl) rfl (by decide) ?_
  refine gi_lcmp (q := 4) C (dm_Mo_upTo 2 rfl) rfl ?_
  refine gi_if_eq (q := 7) (tgt := 13) C (dm_Mo_upTo 3 rfl) rfl (by decide) (fun c4 => ?_) (fun c4 => ?_)
  · refine gi_lload_n (q := 14) (i := 0) C (dm_Mo_upTo 8 rfl) rfl rfl rfl ?_
    refine gi_goto (tgt := 33) C (dm_Mo_upTo 9 rfl) (by decide) ?_
    refine gi_lret C hr (dm_Mo_upTo 23 rfl) ?_
    (try simp (disch := omega) only [lg_cmp_ge, lg_cmp_le, lg_cmp_gt, lg_cmp_lt, lg_cmp_eq, eL_0, eL_1, eL_m1, eL_LO, eL_HI, eL_W, eL_add, eL_sub, eL_mul, eL_neg, eL_lt, eL_le, eL_eq, eL_remN, eL_mod0, ne_eq, Int64.not_lt, Int64.not_le] at c4)
    refine ⟨?_, rfl, rfl⟩
    unfold upR
    first
      | (rw [if_pos (by omega)]; done)
      | (rw [if_neg (by omega)]; simp (disch := omega) only [eL_1, eL_add, eL_sub, eL_divN, eL_mul]; done)
  · refine gi_lload_n (q := 8) (i := 2) C (dm_Mo_upTo 4 rfl) rfl rfl rfl ?_
    refine gi_lload_n (q := 9) (i := 0) C (dm_Mo_upTo 5 rfl) rfl rfl rfl ?_
    refine gi_lcmp (q := 10) C (dm_Mo_upTo 6 rfl) rfl ?_
    refine gi_if_gt (q := 13) (tgt := 17) C (dm_Mo_upTo 7 rfl) rfl (by decide) (fun c10 => ?_) (fun c10 => ?_)
    · refine gi_lload_n (q := 18) (i := 0) C (dm_Mo_upTo 10 rfl) rfl rfl rfl ?_
      refine gi_lload_n (q := 19) (i := 2) C (dm_Mo_upTo 11 rfl) rfl rfl rfl ?_
      refine gi_lload_n (q := 20) (i := 0) C (dm_Mo_upTo 12 rfl) rfl rfl rfl ?_
      refine gi_lsub (q := 21) C (dm_Mo_upTo 13 rfl) rfl ?_
      refine gi_lload (q := 23) C (dm_Mo_upTo 14 rfl) rfl rfl ?_
      refine gi_ladd (q := 24) C (dm_Mo_upTo 15 rfl) rfl ?_
      refine gi_lconst (q := 25) (v := 1) C (dm_Mo_upTo 16 rfl) rfl (by decide) ?_
      refine gi_lsub (q := 26) C (dm_Mo_upTo 17 rfl) rfl ?_
      refine gi_lload (q := 28) C (dm_Mo_upTo 18 rfl) rfl rfl ?_
      refine gi_ldiv (q := 29) C (dm_Mo_upTo 19 rfl) rfl (fun q => c4 ((lg_cmp_eq _ _).mpr q)) ?_
      refine gi_lload (q := 31) C (dm_Mo_upTo 20 rfl) rfl rfl ?_
      refine gi_lmul (q := 32) C (dm_Mo_upTo 21 rfl) rfl ?_
      refine gi_ladd (q := 33) C (dm_Mo_upTo 22 rfl) rfl ?_
      refine gi_lret C hr (dm_Mo_upTo 23 rfl) ?_
      (try simp (disch := omega) only [lg_cmp_ge, lg_cmp_le, lg_cmp_gt, lg_cmp_lt, lg_cmp_eq, eL_0, eL_1, eL_m1, eL_LO, eL_HI, eL_W, eL_add, eL_sub, eL_mul, eL_neg, eL_lt, eL_le, eL_eq, eL_remN, eL_mod0, ne_eq, Int64.not_lt, Int64.not_le] at c4)
      (try simp (disch := omega) only [lg_cmp_ge, lg_cmp_le, lg_cmp_gt, lg_cmp_lt, lg_cmp_eq, eL_0, eL_1, eL_m1, eL_LO, eL_HI, eL_W, eL_add, eL_sub, eL_mul, eL_neg, eL_lt, eL_le, eL_eq, eL_remN, eL_mod0, ne_eq, Int64.not_lt, Int64.not_le] at c10)
      refine ⟨?_, rfl, rfl⟩
      unfold upR
      first
        | (rw [if_pos (by omega)]; done)
        | (rw [if_neg (by omega)]; simp (disch := omega) only [eL_1, eL_add, eL_sub, eL_divN, eL_mul]; done)
    · refine gi_lload_n (q := 14) (i := 0) C (dm_Mo_upTo 8 rfl) rfl rfl rfl ?_
      refine gi_goto (tgt := 33) C (dm_Mo_upTo 9 rfl) (by decide) ?_
      refine gi_lret C hr (dm_Mo_upTo 23 rfl) ?_
      (try simp (disch := omega) only [lg_cmp_ge, lg_cmp_le, lg_cmp_gt, lg_cmp_lt, lg_cmp_eq, eL_0, eL_1, eL_m1, eL_LO, eL_HI, eL_W, eL_add, eL_sub, eL_mul, eL_neg, eL_lt, eL_le, eL_eq, eL_remN, eL_mod0, ne_eq, Int64.not_lt, Int64.not_le] at c4)
      (try simp (disch := omega) only [lg_cmp_ge, lg_cmp_le, lg_cmp_gt, lg_cmp_lt, lg_cmp_eq, eL_0, eL_1, eL_m1, eL_LO, eL_HI, eL_W, eL_add, eL_sub, eL_mul, eL_neg, eL_lt, eL_le, eL_eq, eL_remN, eL_mod0, ne_eq, Int64.not_lt, Int64.not_le] at c10)
      refine ⟨?_, rfl, rfl⟩
      unfold upR
      first
        | (rw [if_pos (by omega)]; done)
        | (rw [if_neg (by omega)]; simp (disch := omega) only [eL_1, eL_add, eL_sub, eL_divN, eL_mul]; done)
set_option maxHeartbeats 4000000 in
set_option maxRecDepth 100000 in
theorem c_Mo_downTo (f t s : Int) (f1 : -8589934592 ≤ f) (f2 : f ≤ 8589934592) (t1 : -8589934592 ≤ t) (t2 : t ≤ 8589934592) (s0 : 0 ≤ s) (s2 : s ≤ 8589934592) : gi_T l V y_Mo_downTo b_Mo_downTo 6 (some .long) 0 0 0 0 [.long (eL f), .long (eL t), .long (eL s)] n h (gi_is (some (.long (eL (dnR f t s)))) n h) := by
  refine gi_enter (by decide) (Nat.le_of_ble_eq_true rfl) ?_
  intro _ _ _ _ _ _ _ _ C hr hnm
  refine gi_lload (q := 2) C (dm_Mo_downTo 0 rfl) rfl rfl ?_
  refine gi_lconst (q := 3) (v := 0) C (dm_Mo_downTo 1 rfl) rfl (by decide) ?_
  refine gi_lcmp (q := 4) C (dm_Mo_downTo 2 rfl) rfl ?_
  refine gi_if_eq (q := 7) (tgt := 13) C (dm_Mo_downTo 3 rfl) rfl (by decide) (fun c4 => ?_) (fun c4 => ?_)
  · refine gi_lload_n (q := 14) (i := 0) C (dm_Mo_downTo 8 rfl) rfl rfl rfl ?_
    refine gi_goto (tgt := 33) C (dm_Mo_downTo 9 rfl) (by decide) ?_
    refine gi_lret C hr (dm_Mo_downTo 23 rfl) ?_
    (try simp (disch := omega) only [lg_cmp_ge, lg_cmp_le, lg_cmp_gt, lg_cmp_lt, lg_cmp_eq, eL_0, eL_1, eL_m1, eL_LO, eL_HI, eL_W, eL_add, eL_sub, eL_mul, eL_neg, eL_lt, eL_le, eL_eq, eL_remN, eL_mod0, ne_eq, Int64.not_lt, Int64.not_le] at c4)
    refine ⟨?_, rfl, rfl⟩
    unfold dnR
    first
      | (rw [if_pos (by omega)]; done)
      | (rw [if_neg (by omega)]; simp (disch := omega) only [eL_1, eL_add, eL_sub, eL_divN, eL_mul]; done)
  · refine gi_lload_n (q := 8) (i := 2) C (dm_Mo_downTo 4 rfl) rfl rfl rfl ?_
    refine gi_lload_n (q := 9) (i := 0) C (dm_Mo_downTo 5 rfl) rfl rfl rfl ?_
    refine gi_lcmp (q := 10) C (dm_Mo_downTo 6 rfl) rfl ?_
    refine gi_if_lt (q := 13) (tgt := 17) C (dm_Mo_downTo 7 rfl) rfl (by decide) (fun c10 => ?_) (fun c10 => ?_)
    · refine gi_lload_n (q := 18) (i := 0) C (dm_Mo_downTo 10 rfl) rfl rfl rfl ?_
      refine gi_lload_n (q := 19) (i := 0) C (dm_Mo_downTo 11 rfl) rfl rfl rfl ?_
      refine gi_lload_n (q := 20) (i := 2) C (dm_Mo_downTo 12 rfl) rfl rfl rfl ?_
      refine gi_lsub (q := 21) C (dm_Mo_downTo 13 rfl) rfl ?_
      refine gi_lload (q := 23) C (dm_Mo_downTo 14 rfl) rfl rfl ?_
      refine gi_ladd (q := 24) C (dm_Mo_downTo 15 rfl) rfl ?_
      refine gi_lconst (q := 25) (v := 1) C (dm_Mo_downTo 16 rfl) rfl (by decide) ?_
      refine gi_lsub (q := 26) C (dm_Mo_downTo 17 rfl) rfl ?_
      refine gi_lload (q := 28) C (dm_Mo_downTo 18 rfl) rfl rfl ?_
      refine gi_ldiv (q := 29) C (dm_Mo_downTo 19 rfl) rfl (fun q => c4 ((lg_cmp_eq _ _).mpr q)) ?_
      refine gi_lload (q := 31) C (dm_Mo_downTo 20 rfl) rfl rfl ?_
      refine gi_lmul (q := 32) C (dm_Mo_downTo 21 rfl) rfl ?_
      refine gi_lsub (q := 33) C (dm_Mo_downTo 22 rfl) rfl ?_
      refine gi_lret C hr (dm_Mo_downTo 23 rfl) ?_
      (try simp (disch := omega) only [lg_cmp_ge, lg_cmp_le, lg_cmp_gt, lg_cmp_lt, lg_cmp_eq, eL_0, eL_1, eL_m1, eL_LO, eL_HI, eL_W, eL_add, eL_sub, eL_mul, eL_neg, eL_lt, eL_le, eL_eq, eL_remN, eL_mod0, ne_eq, Int64.not_lt, Int64.not_le] at c4)
      (try simp (disch := omega) only [lg_cmp_ge, lg_cmp_le, lg_cmp_gt, lg_cmp_lt, lg_cmp_eq, eL_0, eL_1, eL_m1, eL_LO, eL_HI, eL_W, eL_add, eL_sub, eL_mul, eL_neg, eL_lt, eL_le, eL_eq, eL_remN, eL_mod0, ne_eq, Int64.not_lt, Int64.not_le] at c10)
      refine ⟨?_, rfl, rfl⟩
      unfold dnR
      first
        | (rw [if_pos (by omega)]; done)
        | (rw [if_neg (by omega)]; simp (disch := omega) only [eL_1, eL_add, eL_sub, eL_divN, eL_mul]; done)
    · refine gi_lload_n (q := 14) (i := 0) C (dm_Mo_downTo 8 rfl) rfl rfl rfl ?_
      refine gi_goto (tgt := 33) C (dm_Mo_downTo 9 rfl) (by decide) ?_
      refine gi_lret C hr (dm_Mo_downTo 23 rfl) ?_
      (try simp (disch := omega) only [lg_cmp_ge, lg_cmp_le, lg_cmp_gt, lg_cmp_lt, lg_cmp_eq, eL_0, eL_1, eL_m1, eL_LO, eL_HI, eL_W, eL_add, eL_sub, eL_mul, eL_neg, eL_lt, eL_le, eL_eq, eL_remN, eL_mod0, ne_eq, Int64.not_lt, Int64.not_le] at c4)
      (try simp (disch := omega) only [lg_cmp_ge, lg_cmp_le, lg_cmp_gt, lg_cmp_lt, lg_cmp_eq, eL_0, eL_1, eL_m1, eL_LO, eL_HI, eL_W, eL_add, eL_sub, eL_mul, eL_neg, eL_lt, eL_le, eL_eq, eL_remN, eL_mod0, ne_eq, Int64.not_lt, Int64.not_le] at c10)
      refine ⟨?_, rfl, rfl⟩
      unfold dnR
      first
        | (rw [if_pos (by omega)]; done)
        | (rw [if_neg (by omega)]; simp (disch := omega) only [eL_1, eL_add, eL_sub, eL_divN, eL_mul]; done)
theorem upR_b {f t s : Int} (hf : -8589934592 ≤ f ∧ f ≤ 8589934592) (ht : -8589934592 ≤ t ∧ t ≤ 8589934592) (hs : 0 ≤ s ∧ s ≤ 8589934592) : -1099511627776 ≤ upR f t s ∧ upR f t s ≤ 1099511627776 := by
  unfold upR
  split
  · omega
  · have := ceil_1 (d := t - f) (s := s) (by omega)
    omega
theorem dnR_b {f t s : Int} (hf : -8589934592 ≤ f ∧ f ≤ 8589934592) (ht : -8589934592 ≤ t ∧ t ≤ 8589934592) (hs : 0 ≤ s ∧ s ≤ 8589934592) : -1099511627776 ≤ dnR f t s ∧ dnR f t s ≤ 1099511627776 := by
  unfold dnR
  split
  · omega
  · have := ceil_1 (d := f - t) (s := s) (by omega)
    omega
theorem within_R {x : Sp} (hx : okS x) {a b : Int} : withinS x a b = if a ≤ upR x.1 a x.2.2 ∧ dnR x.2.1 b x.2.2 ≤ b ∧ upR x.1 a x.2.2 ≤ dnR x.2.1 b x.2.2 then some (mkS (upR x.1 a x.2.2) (dnR x.2.1 b x.2.2) x.2.2) else none := by
  have hz := fun q => hx.z q
  obtain ⟨o1, o2, o3, o4, o5, o6⟩ := id hx
  by_cases h0 : x.2.2 = 0
  · have e := hz h0
    unfold withinS upR dnR upS1 dnS1
    rw [if_pos (show x.2.2 = 0 ∨ a ≤ x.1 from Or.inl h0), if_pos (show x.2.2 = 0 ∨ x.2.1 ≤ b from Or.inl h0)]
    simp only [if_pos h0]
    by_cases q1 : x.1 < a
    · rw [if_pos q1, if_neg (show ¬ (a ≤ x.1 ∧ _) by omega), if_neg]
      split <;> omega
    · rw [if_neg q1]
      by_cases q2 : b < x.2.1
      · rw [if_pos q2, if_neg (by omega), if_neg (by omega)]
      · rw [if_neg q2, if_pos (by omega), if_pos (by omega)]
  · have u : upS1 x a = upR x.1 a x.2.2 := by
      unfold upS1 upR
      by_cases q : x.1 < a
      · rw [if_pos q, if_neg h0, if_neg (by omega)]
      · rw [if_neg q, if_pos (by omega)]
    have d : dnS1 x b = dnR x.2.1 b x.2.2 := by
      unfold dnS1 dnR
      by_cases q : b < x.2.1
      · rw [if_pos q, if_neg h0, if_neg (by omega)]
      · rw [if_neg q, if_pos (by omega)]
    have u1 : a ≤ upR x.1 a x.2.2 := by
      unfold upR
      split
      · omega
      · have := ceil_1 (d := a - x.1) (s := x.2.2) (by omega)
        omega
    have d1 : dnR x.2.1 b x.2.2 ≤ b := by
      unfold dnR
      split
      · omega
      · have := ceil_1 (d := x.2.1 - b) (s := x.2.2) (by omega)
        omega
    unfold withinS
    rw [u, d]
    by_cases q : upR x.1 a x.2.2 ≤ dnR x.2.1 b x.2.2
    · rw [if_pos q, if_pos ⟨u1, d1, q⟩]
    · rw [if_neg q, if_neg (fun z => q z.2.2)]
/-- the numbers in work are these, if there are any -/
def moW (M : Nat) (F : Nat → Nat → Int32) (G : Nat → Nat → Int64) (h : gi_H) (S : Nat → Int32) (J : Nat → Int64) (x : Option Sp) (h' : gi_H) : Prop := ∃ S' J', mo_at M S' J' F G h' ∧ outM M h h' ∧ nuR S J S' J' ∧ ∀ z, x = some z → rsI J' z
set_option maxHeartbeats 4000000 in
set_option maxRecDepth 100000 in
theorem c_Mo_within (x : Sp) (a b : Int) (hx : okS x) (a1 : -8589934592 ≤ a) (a2 : a ≤ 8589934592) (b1 : -8589934592 ≤ b) (b2 : b ≤ 8589934592) (H : mo_at M S J F G h) : gi_T l V y_Mo_within b_Mo_within 15 (some .boolean) 1 26 0 0 [.ref M, .long (eL x.1), .long (eL x.2.1), .long (eL x.2.2), .long (eL a), .long (eL b)] n h (fun v n' h' => v = some (.int (bI (withinS x a b).isSome)) ∧ n' = n ∧ moW M F G h S J (withinS x a b) h') := by
  refine gi_enter (by decide) (Nat.le_of_ble_eq_true rfl) ?_
  intro _ _ _ _ _ _ _ _ C hr hnm
  obtain ⟨fs, Ha, Hf⟩ := id H.1
  have ho : outM M h h := outM.rf
  obtain ⟨x1, x2, x3, x4, -⟩ := id hx
  have x5 := hx.st
  have ub := upR_b (f := x.1) (t := a) (s := x.2.2) (by omega) (by omega) (by omega)
  have db := dnR_b (f := x.2.1) (t := b) (s := x.2.2) (by omega) (by omega) (by omega)
  have er := within_R hx (a := a) (b := b)
  refine gi_lload_n (q := 1) (i := 1) C (dm_Mo_within 0 rfl) rfl rfl rfl ?_
  refine gi_lload (q := 3) C (dm_Mo_within 1 rfl) rfl rfl ?_
  refine gi_lload (q := 5) C (dm_Mo_within 2 rfl) rfl rfl ?_
  refine gi_calls 3 (q := 8) C (dm_Mo_within 3 rfl) rfl my_Mo_upTo lk_Mo_266 sm_Mo_upTo (c_Mo_upTo x.1 a x.2.2 (by omega) (by omega) (by omega) (by omega) (by omega) (by omega)) rfl rfl ⟨(Nat.le_of_ble_eq_true rfl), (Nat.le_of_ble_eq_true rfl)⟩ (Nat.le_of_ble_eq_true rfl) ⟨(Nat.le_of_ble_eq_true rfl), (Nat.le_of_ble_eq_true rfl)⟩ (fun r5 n5 h5 e5 => ?_)
  obtain ⟨rfl, q5, u5⟩ := e5
  rw [q5, u5]
  refine gi_lstore (q := 10) C (dm_Mo_within 4 rfl) rfl (Nat.le_of_ble_eq_true rfl) ?_
  refine gi_lload_n (q := 11) (i := 3) C (dm_Mo_within 5 rfl) rfl rfl rfl ?_
  refine gi_lload (q := 13) C (dm_Mo_within 6 rfl) rfl rfl ?_
  refine gi_lload (q := 15) C (dm_Mo_within 7 rfl) rfl rfl ?_
  refine gi_calls 3 (q := 18) C (dm_Mo_within 8 rfl) rfl my_Mo_downTo lk_Mo_270 sm_Mo_downTo (c_Mo_downTo x.2.1 b x.2.2 (by omega) (by omega) (by omega) (by omega) (by omega) (by omega)) rfl rfl ⟨(Nat.le_of_ble_eq_true rfl), (Nat.le_of_ble_eq_true rfl)⟩ (Nat.le_of_ble_eq_true rfl) ⟨(Nat.le_of_ble_eq_true rfl), (Nat.le_of_ble_eq_true rfl)⟩ (fun r15 n15 h15 e15 => ?_)
  obtain ⟨rfl, q15, u15⟩ := e15
  rw [q15, u15]
  refine gi_lstore (q := 20) C (dm_Mo_within 9 rfl) rfl (Nat.le_of_ble_eq_true rfl) ?_
  refine gi_aload_n (q := 21) (i := 0) C (dm_Mo_within 10 rfl) rfl rfl rfl ?_
  refine gi_lload (q := 23) C (dm_Mo_within 11 rfl) rfl rfl ?_
  refine gi_lload (q := 25) C (dm_Mo_within 12 rfl) rfl rfl ?_
  refine gi_lload (q := 27) C (dm_Mo_within 13 rfl) rfl rfl ?_
  refine gi_callv 3 (q := 30) C (dm_Mo_within 14 rfl) rfl my_Mo_set lk_Mo_262 im_Mo_set rfl (c_Mo_set (upR x.1 a x.2.2) (dnR x.2.1 b x.2.2) (x.2.2) (by omega) (by omega) (by omega) (by omega) H) Ha rfl rfl ⟨(Nat.le_of_ble_eq_true rfl), (Nat.le_of_ble_eq_true rfl)⟩ (Nat.le_of_ble_eq_true rfl) ⟨(Nat.le_of_ble_eq_true rfl), (Nat.le_of_ble_eq_true rfl)⟩ (fun r27 n27 h27 e27 => ?_)
  obtain ⟨rfl, rfl, W27⟩ := e27
  refine gi_lload (q := 32) C (dm_Mo_within 15 rfl) rfl rfl ?_
  refine gi_lload (q := 34) C (dm_Mo_within 16 rfl) rfl rfl ?_
  refine gi_lcmp (q := 35) C (dm_Mo_within 17 rfl) rfl ?_
  refine gi_if_lt (q := 38) (tgt := 58) C (dm_Mo_within 18 rfl) rfl (by decide) (fun c35 => ?_) (fun c35 => ?_)
  · refine gi_iconst (q := 59) (v := 0) C (dm_Mo_within 29 rfl) rfl (by decide) ?_
    refine gi_zret C hr (dm_Mo_within 30 rfl) rfl ?_
    (try simp (disch := omega) only [lg_cmp_ge, lg_cmp_le, lg_cmp_gt, lg_cmp_lt, lg_cmp_eq, eL_0, eL_1, eL_m1, eL_LO, eL_HI, eL_W, eL_add, eL_sub, eL_mul, eL_neg, eL_lt, eL_le, eL_eq, eL_remN, eL_mod0, ne_eq, Int64.not_lt, Int64.not_le] at c35)
    obtain ⟨S3, J3, m3, o3, r3, i3⟩ := W27
    first
      | (rw [er, if_pos ⟨by omega, by omega, by omega⟩]; exact ⟨rfl, rfl, S3, J3, m3, o3, r3, fun z e => by cases e; exact i3⟩)
      | (rw [er, if_neg (by omega)]; exact ⟨rfl, rfl, S3, J3, m3, o3, r3, fun z e => by cases e⟩)
  · refine gi_lload (q := 40) C (dm_Mo_within 19 rfl) rfl rfl ?_
    refine gi_lload (q := 42) C (dm_Mo_within 20 rfl) rfl rfl ?_
    refine gi_lcmp (q := 43) C (dm_Mo_within 21 rfl) rfl ?_
    refine gi_if_gt (q := 46) (tgt := 58) C (dm_Mo_within 22 rfl) rfl (by decide) (fun c43 => ?_) (fun c43 => ?_)
    · refine gi_iconst (q := 59) (v := 0) C (dm_Mo_within 29 rfl) rfl (by decide) ?_
      refine gi_zret C hr (dm_Mo_within 30 rfl) rfl ?_
      (try simp (disch := omega) only [lg_cmp_ge, lg_cmp_le, lg_cmp_gt, lg_cmp_lt, lg_cmp_eq, eL_0, eL_1, eL_m1, eL_LO, eL_HI, eL_W, eL_add, eL_sub, eL_mul, eL_neg, eL_lt, eL_le, eL_eq, eL_remN, eL_mod0, ne_eq, Int64.not_lt, Int64.not_le] at c35)
      (try simp (disch := omega) only [lg_cmp_ge, lg_cmp_le, lg_cmp_gt, lg_cmp_lt, lg_cmp_eq, eL_0, eL_1, eL_m1, eL_LO, eL_HI, eL_W, eL_add, eL_sub, eL_mul, eL_neg, eL_lt, eL_le, eL_eq, eL_remN, eL_mod0, ne_eq, Int64.not_lt, Int64.not_le] at c43)
      obtain ⟨S3, J3, m3, o3, r3, i3⟩ := W27
      first
        | (rw [er, if_pos ⟨by omega, by omega, by omega⟩]; exact ⟨rfl, rfl, S3, J3, m3, o3, r3, fun z e => by cases e; exact i3⟩)
        | (rw [er, if_neg (by omega)]; exact ⟨rfl, rfl, S3, J3, m3, o3, r3, fun z e => by cases e⟩)
    · refine gi_lload (q := 48) C (dm_Mo_within 23 rfl) rfl rfl ?_
      refine gi_lload (q := 50) C (dm_Mo_within 24 rfl) rfl rfl ?_
      refine gi_lcmp (q := 51) C (dm_Mo_within 25 rfl) rfl ?_
      refine gi_if_gt (q := 54) (tgt := 58) C (dm_Mo_within 26 rfl) rfl (by decide) (fun c51 => ?_) (fun c51 => ?_)
      · refine gi_iconst (q := 59) (v := 0) C (dm_Mo_within 29 rfl) rfl (by decide) ?_
        refine gi_zret C hr (dm_Mo_within 30 rfl) rfl ?_
        (try simp (disch := omega) only [lg_cmp_ge, lg_cmp_le, lg_cmp_gt, lg_cmp_lt, lg_cmp_eq, eL_0, eL_1, eL_m1, eL_LO, eL_HI, eL_W, eL_add, eL_sub, eL_mul, eL_neg, eL_lt, eL_le, eL_eq, eL_remN, eL_mod0, ne_eq, Int64.not_lt, Int64.not_le] at c35)
        (try simp (disch := omega) only [lg_cmp_ge, lg_cmp_le, lg_cmp_gt, lg_cmp_lt, lg_cmp_eq, eL_0, eL_1, eL_m1, eL_LO, eL_HI, eL_W, eL_add, eL_sub, eL_mul, eL_neg, eL_lt, eL_le, eL_eq, eL_remN, eL_mod0, ne_eq, Int64.not_lt, Int64.not_le] at c43)
        (try simp (disch := omega) only [lg_cmp_ge, lg_cmp_le, lg_cmp_gt, lg_cmp_lt, lg_cmp_eq, eL_0, eL_1, eL_m1, eL_LO, eL_HI, eL_W, eL_add, eL_sub, eL_mul, eL_neg, eL_lt, eL_le, eL_eq, eL_remN, eL_mod0, ne_eq, Int64.not_lt, Int64.not_le] at c51)
        obtain ⟨S3, J3, m3, o3, r3, i3⟩ := W27
        first
          | (rw [er, if_pos ⟨by omega, by omega, by omega⟩]; exact ⟨rfl, rfl, S3, J3, m3, o3, r3, fun z e => by cases e; exact i3⟩)
          | (rw [er, if_neg (by omega)]; exact ⟨rfl, rfl, S3, J3, m3, o3, r3, fun z e => by cases e⟩)
      · refine gi_iconst (q := 55) (v := 1) C (dm_Mo_within 27 rfl) rfl (by decide) ?_
        refine gi_goto (tgt := 59) C (dm_Mo_within 28 rfl) (by decide) ?_
        refine gi_zret C hr (dm_Mo_within 30 rfl) rfl ?_
        (try simp (disch := omega) only [lg_cmp_ge, lg_cmp_le, lg_cmp_gt, lg_cmp_lt, lg_cmp_eq, eL_0, eL_1, eL_m1, eL_LO, eL_HI, eL_W, eL_add, eL_sub, eL_mul, eL_neg, eL_lt, eL_le, eL_eq, eL_remN, eL_mod0, ne_eq, Int64.not_lt, Int64.not_le] at c35)
        (try simp (disch := omega) only [lg_cmp_ge, lg_cmp_le, lg_cmp_gt, lg_cmp_lt, lg_cmp_eq, eL_0, eL_1, eL_m1, eL_LO, eL_HI, eL_W, eL_add, eL_sub, eL_mul, eL_neg, eL_lt, eL_le, eL_eq, eL_remN, eL_mod0, ne_eq, Int64.not_lt, Int64.not_le] at c43)
        (try simp (disch := omega) only [lg_cmp_ge, lg_cmp_le, lg_cmp_gt, lg_cmp_lt, lg_cmp_eq, eL_0, eL_1, eL_m1, eL_LO, eL_HI, eL_W, eL_add, eL_sub, eL_mul, eL_neg, eL_lt, eL_le, eL_eq, eL_remN, eL_mod0, ne_eq, Int64.not_lt, Int64.not_le] at c51)
        obtain ⟨S3, J3, m3, o3, r3, i3⟩ := W27
        first
          | (rw [er, if_pos ⟨by omega, by omega, by omega⟩]; exact ⟨rfl, rfl, S3, J3, m3, o3, r3, fun z e => by cases e; exact i3⟩)
          | (rw [er, if_neg (by omega)]; exact ⟨rfl, rfl, S3, J3, m3, o3, r3, fun z e => by cases e⟩)
end RN2
