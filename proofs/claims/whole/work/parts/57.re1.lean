section RE1
variable {l : Launch} {V : gi_V} {n : Nat} {h : gi_H}
def reachS (y : Sp) (c : Int) : Sp := if y.2.1 < y.1 then (c, c, 0) else (min y.1 c, max y.2.1 c, if min y.1 c = max y.2.1 c then 0 else 1)
def partV (v : mV) (w : Int32) : Int64 := if v.1 = 0 then (if w = nI 0 then v.2.1 else if w = nI 1 then v.2.2.1 else if w = nI 2 then v.2.2.2.1 else NOl) else if w = 3 then v.2.2.2.2.1.toInt64 else if w = 4 then (if v.2.2.2.2.2 = 0 then 0 else 1) else NOl
theorem eL_31 : (31 : Int64) = eL 31 := rfl
theorem mSpan_mk {a b s : Int} (h1 : -9223372036854775808 ≤ a) (h2 : a < 9223372036854775808) (h3 : -9223372036854775808 ≤ b) (h4 : b < 9223372036854775808) : mSpan (eL a) (eL b) (eL s) = sV (mkS a b s) := by
  by_cases q : a = b
  · subst q
    simp [mSpan, mkS, eL_0]
  · have q2 : ¬ eL a = eL b := fun e => q ((eL_eq h1 h2 h3 h4).mp e)
    simp [mSpan, mkS, q, q2]
theorem eL_cast (a : Int) : (eL a).toInt32.toInt64 = eL (a - (a + 2147483648) / 4294967296 * 4294967296) := by
  have h1 : ((eL a).toInt32).toInt = a - (a + 2147483648) / 4294967296 * 4294967296 := by
    rw [show (eL a).toInt32 = Int32.ofInt a from Int64.toInt32_ofInt, Int32.toInt_ofInt]
    show a.bmod 4294967296 = _
    unfold Int.bmod
    simp only []
    split <;> omega
  rw [eL_i, h1]
theorem xor_neg (a b : Int) (h1 : -9223372036854775808 ≤ a) (h2 : a < 9223372036854775808) (h3 : -9223372036854775808 ≤ b) (h4 : b < 9223372036854775808) : (eL a ^^^ eL b) < 0 ↔ ¬ (a < 0 ↔ b < 0) := by
  rw [Int64.lt_iff_toInt_lt, show (0 : Int64).toInt = 0 from rfl]
  have e : decide ((eL a ^^^ eL b).toInt < 0) = (decide (a < 0) ^^ decide (b < 0)) := by
    have k := fun x : Int64 => BitVec.msb_eq_toInt (x := x.toBitVec)
    have k1 := k (eL a ^^^ eL b)
    rw [Int64.toBitVec_xor, BitVec.msb_xor, k (eL a), k (eL b)] at k1
    have e1 : (eL a).toBitVec.toInt = a := eL_toInt h1 h2
    have e2 : (eL b).toBitVec.toInt = b := eL_toInt h3 h4
    rw [e1, e2] at k1
    exact k1.symm
  by_cases p : a < 0 <;> by_cases q : b < 0 <;> simp [p, q] at e ⊢ <;> omega
set_option maxHeartbeats 4000000 in
set_option maxRecDepth 100000 in
theorem c_Va_part (a : Nat) (v : mV) (u : Int32) (ha : h a = some (eV v)) : gi_T l V y_Va_part b_Va_part 2 (some .long) 0 0 0 0 [.ref a, .int u] n h (gi_is (some (.long (partV v u))) n h) := by
  refine gi_enter (by decide) (Nat.le_of_ble_eq_true rfl) ?_
  intro _ _ _ _ _ _ _ _ C hr hnm
  refine gi_aload_n (q := 1) (i := 0) C (dm_Va_part 0 rfl) rfl rfl rfl ?_
  refine gi_get (q := 4) C (dm_Va_part 1 rfl) rfl fl_Va_9 (by repeat (first | exact gi_up_self _ _ _ | assumption | rw [gi_up_ne (by omega)])) rfl ?_
  refine gi_if_eq (q := 7) (tgt := 43) C (dm_Va_part 2 rfl) rfl (by decide) (fun c4 => ?_) (fun c4 => ?_)
  · refine gi_iload_n (q := 44) (i := 1) C (dm_Va_part 23 rfl) rfl rfl rfl ?_
    refine gi_switch (lo := 0) (hi := 2) (by decide) (fun c44 => ?_) (fun i44 u44 v44 c44 => ?_)
    · refine gi_tableOut (tgt := 87) C (dm_Va_part 24 rfl) c44 (by decide) ?_
      refine gi_ldc2 (q := 90) C (dm_Va_part 34 rfl) rfl kc_Va_72 ?_
      refine gi_lret C hr (dm_Va_part 35 rfl) ?_
      refine ⟨?_, rfl, rfl⟩
      first
        | (simp only [partV, if_neg c4, if_neg c9, if_neg c20]; done)
        | (simp only [partV, if_neg c4, c9, c20, if_true, if_false]; first | rfl | (simp [c27]; done))
        | (simp only [partV, if_neg c4, c9, if_true]; done)
        | (simp only [partV, if_pos c4]; subst c44; rfl)
        | (have nx : ∀ k : Nat, k ≤ 2 → ¬ u = nI k := fun k hk q => by rw [q, nI_toInt (by omega)] at c44; omega
           simp [partV, c4, nx])
    · have w44 : i44 = 0 ∨ i44 = 1 ∨ i44 = 2 := by omega
      rcases w44 with rfl | rfl | rfl
      · refine gi_tableIn (off := 28) (tgt := 72) C (dm_Va_part 24 rfl) (by decide) (by decide) rfl (by decide) ?_
        refine gi_aload_n (q := 73) (i := 0) C (dm_Va_part 25 rfl) rfl rfl rfl ?_
        refine gi_get (q := 76) C (dm_Va_part 26 rfl) rfl fl_Va_15 (by repeat (first | exact gi_up_self _ _ _ | assumption | rw [gi_up_ne (by omega)])) rfl ?_
        refine gi_lret C hr (dm_Va_part 27 rfl) ?_
        refine ⟨?_, rfl, rfl⟩
        first
          | (simp only [partV, if_neg c4, if_neg c9, if_neg c20]; done)
          | (simp only [partV, if_neg c4, c9, c20, if_true, if_false]; first | rfl | (simp [c27]; done))
          | (simp only [partV, if_neg c4, c9, if_true]; done)
          | (simp only [partV, if_pos c4]; subst c44; rfl)
          | (have nx : ∀ k : Nat, k ≤ 2 → ¬ u = nI k := fun k hk q => by rw [q, nI_toInt (by omega)] at c44; omega
             simp [partV, c4, nx])
      · refine gi_tableIn (off := 33) (tgt := 77) C (dm_Va_part 24 rfl) (by decide) (by decide) rfl (by decide) ?_
        refine gi_aload_n (q := 78) (i := 0) C (dm_Va_part 28 rfl) rfl rfl rfl ?_
        refine gi_get (q := 81) C (dm_Va_part 29 rfl) rfl fl_Va_19 (by repeat (first | exact gi_up_self _ _ _ | assumption | rw [gi_up_ne (by omega)])) rfl ?_
        refine gi_lret C hr (dm_Va_part 30 rfl) ?_
        refine ⟨?_, rfl, rfl⟩
        first
          | (simp only [partV, if_neg c4, if_neg c9, if_neg c20]; done)
          | (simp only [partV, if_neg c4, c9, c20, if_true, if_false]; first | rfl | (simp [c27]; done))
          | (simp only [partV, if_neg c4, c9, if_true]; done)
          | (simp only [partV, if_pos c4]; subst c44; rfl)
          | (have nx : ∀ k : Nat, k ≤ 2 → ¬ u = nI k := fun k hk q => by rw [q, nI_toInt (by omega)] at c44; omega
             simp [partV, c4, nx])
      · refine gi_tableIn (off := 38) (tgt := 82) C (dm_Va_part 24 rfl) (by decide) (by decide) rfl (by decide) ?_
        refine gi_aload_n (q := 83) (i := 0) C (dm_Va_part 31 rfl) rfl rfl rfl ?_
        refine gi_get (q := 86) C (dm_Va_part 32 rfl) rfl fl_Va_22 (by repeat (first | exact gi_up_self _ _ _ | assumption | rw [gi_up_ne (by omega)])) rfl ?_
        refine gi_lret C hr (dm_Va_part 33 rfl) ?_
        refine ⟨?_, rfl, rfl⟩
        first
          | (simp only [partV, if_neg c4, if_neg c9, if_neg c20]; done)
          | (simp only [partV, if_neg c4, c9, c20, if_true, if_false]; first | rfl | (simp [c27]; done))
          | (simp only [partV, if_neg c4, c9, if_true]; done)
          | (simp only [partV, if_pos c4]; subst c44; rfl)
          | (have nx : ∀ k : Nat, k ≤ 2 → ¬ u = nI k := fun k hk q => by rw [q, nI_toInt (by omega)] at c44; omega
             simp [partV, c4, nx])
  · refine gi_iload_n (q := 8) (i := 1) C (dm_Va_part 3 rfl) rfl rfl rfl ?_
    refine gi_iconst (q := 9) (v := 3) C (dm_Va_part 4 rfl) rfl (by decide) ?_
    refine gi_icmp_ne (q := 12) (tgt := 18) C (dm_Va_part 5 rfl) rfl (by decide) (fun c9 => ?_) (fun c9 => ?_)
    · refine gi_iload_n (q := 19) (i := 1) C (dm_Va_part 10 rfl) rfl rfl rfl ?_
      refine gi_iconst (q := 20) (v := 4) C (dm_Va_part 11 rfl) rfl (by decide) ?_
      refine gi_icmp_ne (q := 23) (tgt := 39) C (dm_Va_part 12 rfl) rfl (by decide) (fun c20 => ?_) (fun c20 => ?_)
      · refine gi_ldc2 (q := 42) C (dm_Va_part 21 rfl) rfl kc_Va_72 ?_
        refine gi_lret C hr (dm_Va_part 22 rfl) ?_
        refine ⟨?_, rfl, rfl⟩
        first
          | (simp only [partV, if_neg c4, if_neg c9, if_neg c20]; done)
          | (simp only [partV, if_neg c4, c9, c20, if_true, if_false]; first | rfl | (simp [c27]; done))
          | (simp only [partV, if_neg c4, c9, if_true]; done)
          | (simp only [partV, if_pos c4]; subst c44; rfl)
          | (have nx : ∀ k : Nat, k ≤ 2 → ¬ u = nI k := fun k hk q => by rw [q, nI_toInt (by omega)] at c44; omega
             simp [partV, c4, nx])
      · refine gi_aload_n (q := 24) (i := 0) C (dm_Va_part 13 rfl) rfl rfl rfl ?_
        refine gi_get (q := 27) C (dm_Va_part 14 rfl) rfl fl_Va_29 (by repeat (first | exact gi_up_self _ _ _ | assumption | rw [gi_up_ne (by omega)])) rfl ?_
        refine gi_if_eq (q := 30) (tgt := 34) C (dm_Va_part 15 rfl) rfl (by decide) (fun c27 => ?_) (fun c27 => ?_)
        · refine gi_iconst (q := 35) (v := 0) C (dm_Va_part 18 rfl) rfl (by decide) ?_
          refine gi_i2l (q := 36) C (dm_Va_part 19 rfl) rfl ?_
          refine gi_goto (tgt := 42) C (dm_Va_part 20 rfl) (by decide) ?_
          refine gi_lret C hr (dm_Va_part 22 rfl) ?_
          refine ⟨?_, rfl, rfl⟩
          first
            | (simp only [partV, if_neg c4, if_neg c9, if_neg c20]; done)
            | (simp only [partV, if_neg c4, c9, c20, if_true, if_false]; first | rfl | (simp [c27]; done))
            | (simp only [partV, if_neg c4, c9, if_true]; done)
            | (simp only [partV, if_pos c4]; subst c44; rfl)
            | (have nx : ∀ k : Nat, k ≤ 2 → ¬ u = nI k := fun k hk q => by rw [q, nI_toInt (by omega)] at c44; omega
               simp [partV, c4, nx])
        · refine gi_iconst (q := 31) (v := 1) C (dm_Va_part 16 rfl) rfl (by decide) ?_
          refine gi_goto (tgt := 35) C (dm_Va_part 17 rfl) (by decide) ?_
          refine gi_i2l (q := 36) C (dm_Va_part 19 rfl) rfl ?_
          refine gi_goto (tgt := 42) C (dm_Va_part 20 rfl) (by decide) ?_
          refine gi_lret C hr (dm_Va_part 22 rfl) ?_
          refine ⟨?_, rfl, rfl⟩
          first
            | (simp only [partV, if_neg c4, if_neg c9, if_neg c20]; done)
            | (simp only [partV, if_neg c4, c9, c20, if_true, if_false]; first | rfl | (simp [c27]; done))
            | (simp only [partV, if_neg c4, c9, if_true]; done)
            | (simp only [partV, if_pos c4]; subst c44; rfl)
            | (have nx : ∀ k : Nat, k ≤ 2 → ¬ u = nI k := fun k hk q => by rw [q, nI_toInt (by omega)] at c44; omega
               simp [partV, c4, nx])
    · refine gi_aload_n (q := 13) (i := 0) C (dm_Va_part 6 rfl) rfl rfl rfl ?_
      refine gi_get (q := 16) C (dm_Va_part 7 rfl) rfl fl_Va_25 (by repeat (first | exact gi_up_self _ _ _ | assumption | rw [gi_up_ne (by omega)])) rfl ?_
      refine gi_i2l (q := 17) C (dm_Va_part 8 rfl) rfl ?_
      refine gi_lret C hr (dm_Va_part 9 rfl) ?_
      refine ⟨?_, rfl, rfl⟩
      first
        | (simp only [partV, if_neg c4, if_neg c9, if_neg c20]; done)
        | (simp only [partV, if_neg c4, c9, c20, if_true, if_false]; first | rfl | (simp [c27]; done))
        | (simp only [partV, if_neg c4, c9, if_true]; done)
        | (simp only [partV, if_pos c4]; subst c44; rfl)
        | (have nx : ∀ k : Nat, k ≤ 2 → ¬ u = nI k := fun k hk q => by rw [q, nI_toInt (by omega)] at c44; omega
           simp [partV, c4, nx])
set_option maxHeartbeats 4000000 in
set_option maxRecDepth 100000 in
theorem c_Va_reach (a : Nat) (y : Sp) (c : Int) (h1 : -4611686018427387904 ≤ c) (h2 : c ≤ 4611686018427387904) (h3 : -4611686018427387904 ≤ y.1) (h4 : y.1 ≤ 4611686018427387904) (h5 : -4611686018427387904 ≤ y.2.1) (h6 : y.2.1 ≤ 4611686018427387904) (ha : h a = some (eV (sV y))) : gi_T l V y_Va_reach b_Va_reach 4 none 0 0 0 0 [.ref a, .long (eL c)] n h (gi_is none n (gi_up h a (eV (sV (reachS y c))))) := by
  refine gi_enter (by decide) (Nat.le_of_ble_eq_true rfl) ?_
  intro _ _ _ _ _ _ _ _ C hr hnm
  refine gi_aload_n (q := 1) (i := 0) C (dm_Va_reach 0 rfl) rfl rfl rfl ?_
  refine gi_get (q := 4) C (dm_Va_reach 1 rfl) rfl fl_Va_15 (by repeat (first | exact gi_up_self _ _ _ | assumption | rw [gi_up_ne (by omega)])) rfl ?_
  refine gi_aload_n (q := 5) (i := 0) C (dm_Va_reach 2 rfl) rfl rfl rfl ?_
  refine gi_get (q := 8) C (dm_Va_reach 3 rfl) rfl fl_Va_19 (by repeat (first | exact gi_up_self _ _ _ | assumption | rw [gi_up_ne (by omega)])) rfl ?_
  refine gi_lcmp (q := 9) C (dm_Va_reach 4 rfl) rfl ?_
  refine gi_if_le (q := 12) (tgt := 16) C (dm_Va_reach 5 rfl) rfl (by decide) (fun c9 => ?_) (fun c9 => ?_)
  · refine gi_iconst (q := 17) (v := 0) C (dm_Va_reach 8 rfl) rfl (by decide) ?_
    refine gi_istore_n (q := 18) (i := 3) C (dm_Va_reach 9 rfl) rfl rfl (Nat.le_of_ble_eq_true rfl) ?_
    refine gi_aload_n (q := 19) (i := 0) C (dm_Va_reach 10 rfl) rfl rfl rfl ?_
    refine gi_iload_n (q := 20) (i := 3) C (dm_Va_reach 11 rfl) rfl rfl rfl ?_
    refine gi_if_ne (q := 23) (tgt := 32) C (dm_Va_reach 12 rfl) rfl (by decide) (fun c20 => ?_) (fun c20 => ?_)
    · exact absurd c20 (by decide)
    · refine gi_lload_n (q := 24) (i := 1) C (dm_Va_reach 13 rfl) rfl rfl rfl ?_
      refine gi_aload_n (q := 25) (i := 0) C (dm_Va_reach 14 rfl) rfl rfl rfl ?_
      refine gi_get (q := 28) C (dm_Va_reach 15 rfl) rfl fl_Va_15 (by repeat (first | exact gi_up_self _ _ _ | assumption | rw [gi_up_ne (by omega)])) rfl ?_
      refine gi_lcmp (q := 29) C (dm_Va_reach 16 rfl) rfl ?_
      refine gi_if_ge (q := 32) (tgt := 36) C (dm_Va_reach 17 rfl) rfl (by decide) (fun c29 => ?_) (fun c29 => ?_)
      · refine gi_aload_n (q := 37) (i := 0) C (dm_Va_reach 20 rfl) rfl rfl rfl ?_
        refine gi_get (q := 40) C (dm_Va_reach 21 rfl) rfl fl_Va_15 (by repeat (first | exact gi_up_self _ _ _ | assumption | rw [gi_up_ne (by omega)])) rfl ?_
        refine gi_put (q := 43) C (dm_Va_reach 22 rfl) rfl fl_Va_15 fp_Va_1 (by repeat (first | exact gi_up_self _ _ _ | assumption | rw [gi_up_ne (by omega)])) (Nat.le_of_ble_eq_true rfl) rfl rfl ?_
        refine gi_aload_n (q := 44) (i := 0) C (dm_Va_reach 23 rfl) rfl rfl rfl ?_
        refine gi_iload_n (q := 45) (i := 3) C (dm_Va_reach 24 rfl) rfl rfl rfl ?_
        refine gi_if_ne (q := 48) (tgt := 57) C (dm_Va_reach 25 rfl) rfl (by decide) (fun c45 => ?_) (fun c45 => ?_)
        · exact absurd c45 (by decide)
        · refine gi_lload_n (q := 49) (i := 1) C (dm_Va_reach 26 rfl) rfl rfl rfl ?_
          refine gi_aload_n (q := 50) (i := 0) C (dm_Va_reach 27 rfl) rfl rfl rfl ?_
          refine gi_get (q := 53) C (dm_Va_reach 28 rfl) rfl fl_Va_19 (by repeat (first | exact gi_up_self _ _ _ | assumption | rw [gi_up_ne (by omega)])) rfl ?_
          refine gi_lcmp (q := 54) C (dm_Va_reach 29 rfl) rfl ?_
          refine gi_if_le (q := 57) (tgt := 61) C (dm_Va_reach 30 rfl) rfl (by decide) (fun c54 => ?_) (fun c54 => ?_)
          · refine gi_aload_n (q := 62) (i := 0) C (dm_Va_reach 33 rfl) rfl rfl rfl ?_
            refine gi_get (q := 65) C (dm_Va_reach 34 rfl) rfl fl_Va_19 (by repeat (first | exact gi_up_self _ _ _ | assumption | rw [gi_up_ne (by omega)])) rfl ?_
            refine gi_put (q := 68) C (dm_Va_reach 35 rfl) rfl fl_Va_19 fp_Va_2 (by repeat (first | exact gi_up_self _ _ _ | assumption | rw [gi_up_ne (by omega)])) (Nat.le_of_ble_eq_true rfl) rfl rfl ?_
            refine gi_aload_n (q := 69) (i := 0) C (dm_Va_reach 36 rfl) rfl rfl rfl ?_
            refine gi_aload_n (q := 70) (i := 0) C (dm_Va_reach 37 rfl) rfl rfl rfl ?_
            refine gi_get (q := 73) C (dm_Va_reach 38 rfl) rfl fl_Va_15 (by repeat (first | exact gi_up_self _ _ _ | assumption | rw [gi_up_ne (by omega)])) rfl ?_
            refine gi_aload_n (q := 74) (i := 0) C (dm_Va_reach 39 rfl) rfl rfl rfl ?_
            refine gi_get (q := 77) C (dm_Va_reach 40 rfl) rfl fl_Va_19 (by repeat (first | exact gi_up_self _ _ _ | assumption | rw [gi_up_ne (by omega)])) rfl ?_
            refine gi_lcmp (q := 78) C (dm_Va_reach 41 rfl) rfl ?_
            refine gi_if_ne (q := 81) (tgt := 85) C (dm_Va_reach 42 rfl) rfl (by decide) (fun c78 => ?_) (fun c78 => ?_)
            · refine gi_lconst (q := 86) (v := 1) C (dm_Va_reach 45 rfl) rfl (by decide) ?_
              refine gi_put (q := 89) C (dm_Va_reach 46 rfl) rfl fl_Va_22 fp_Va_3 (by repeat (first | exact gi_up_self _ _ _ | assumption | rw [gi_up_ne (by omega)])) (Nat.le_of_ble_eq_true rfl) rfl rfl ?_
              refine gi_vret C hr (dm_Va_reach 47 rfl) ?_
              (try simp (disch := omega) only [lg_cmp_ge, lg_cmp_le, lg_cmp_gt, lg_cmp_lt, lg_cmp_eq, eL_0, eL_1, eL_m1, eL_LO, eL_HI, eL_W, eL_add, eL_sub, eL_mul, eL_neg, eL_lt, eL_le, eL_eq, eL_remN, eL_mod0, ne_eq, Int64.not_lt, Int64.not_le] at c9)
              (try simp (disch := omega) only [lg_cmp_ge, lg_cmp_le, lg_cmp_gt, lg_cmp_lt, lg_cmp_eq, eL_0, eL_1, eL_m1, eL_LO, eL_HI, eL_W, eL_add, eL_sub, eL_mul, eL_neg, eL_lt, eL_le, eL_eq, eL_remN, eL_mod0, ne_eq, Int64.not_lt, Int64.not_le] at c20)
              (try simp (disch := omega) only [lg_cmp_ge, lg_cmp_le, lg_cmp_gt, lg_cmp_lt, lg_cmp_eq, eL_0, eL_1, eL_m1, eL_LO, eL_HI, eL_W, eL_add, eL_sub, eL_mul, eL_neg, eL_lt, eL_le, eL_eq, eL_remN, eL_mod0, ne_eq, Int64.not_lt, Int64.not_le] at c29)
              (try simp (disch := omega) only [lg_cmp_ge, lg_cmp_le, lg_cmp_gt, lg_cmp_lt, lg_cmp_eq, eL_0, eL_1, eL_m1, eL_LO, eL_HI, eL_W, eL_add, eL_sub, eL_mul, eL_neg, eL_lt, eL_le, eL_eq, eL_remN, eL_mod0, ne_eq, Int64.not_lt, Int64.not_le] at c45)
              (try simp (disch := omega) only [lg_cmp_ge, lg_cmp_le, lg_cmp_gt, lg_cmp_lt, lg_cmp_eq, eL_0, eL_1, eL_m1, eL_LO, eL_HI, eL_W, eL_add, eL_sub, eL_mul, eL_neg, eL_lt, eL_le, eL_eq, eL_remN, eL_mod0, ne_eq, Int64.not_lt, Int64.not_le] at c54)
              (try simp (disch := omega) only [lg_cmp_ge, lg_cmp_le, lg_cmp_gt, lg_cmp_lt, lg_cmp_eq, eL_0, eL_1, eL_m1, eL_LO, eL_HI, eL_W, eL_add, eL_sub, eL_mul, eL_neg, eL_lt, eL_le, eL_eq, eL_remN, eL_mod0, ne_eq, Int64.not_lt, Int64.not_le] at c78)
              refine ⟨rfl, rfl, ?_⟩
              simp only [gi_up_up]
              refine congrArg (gi_up h a) ?_
              have key : ∀ p q r : Int, reachS y c = (p, q, r) → eV (0, eL p, eL q, eL r, 0, 0) = eV (sV (reachS y c)) := fun p q r e => by rw [e]
              simp only [eL_0, eL_1]
              refine key _ _ _ ?_
              unfold reachS
              first
                | exact absurd rfl c78
                | exact absurd trivial c78
                | (rw [if_pos (by omega)]; done)
                | (rw [if_neg (by omega), Int.min_eq_left (by omega), Int.max_eq_left (by omega)]; first | (rw [if_pos (by omega)]; done) | (rw [if_neg (by omega)]; done))
                | (rw [if_neg (by omega), Int.min_eq_right (by omega), Int.max_eq_left (by omega)]; first | (rw [if_pos (by omega)]; done) | (rw [if_neg (by omega)]; done))
                | (rw [if_neg (by omega), Int.min_eq_left (by omega), Int.max_eq_right (by omega)]; first | (rw [if_pos (by omega)]; done) | (rw [if_neg (by omega)]; done))
                | (rw [if_neg (by omega), Int.min_eq_right (by omega), Int.max_eq_right (by omega)]; first | (rw [if_pos (by omega)]; done) | (rw [if_neg (by omega)]; done))
            · refine gi_lconst (q := 82) (v := 0) C (dm_Va_reach 43 rfl) rfl (by decide) ?_
              refine gi_goto (tgt := 86) C (dm_Va_reach 44 rfl) (by decide) ?_
              refine gi_put (q := 89) C (dm_Va_reach 46 rfl) rfl fl_Va_22 fp_Va_3 (by repeat (first | exact gi_up_self _ _ _ | assumption | rw [gi_up_ne (by omega)])) (Nat.le_of_ble_eq_true rfl) rfl rfl ?_
              refine gi_vret C hr (dm_Va_reach 47 rfl) ?_
              (try simp (disch := omega) only [lg_cmp_ge, lg_cmp_le, lg_cmp_gt, lg_cmp_lt, lg_cmp_eq, eL_0, eL_1, eL_m1, eL_LO, eL_HI, eL_W, eL_add, eL_sub, eL_mul, eL_neg, eL_lt, eL_le, eL_eq, eL_remN, eL_mod0, ne_eq, Int64.not_lt, Int64.not_le] at c9)
              (try simp (disch := omega) only [lg_cmp_ge, lg_cmp_le, lg_cmp_gt, lg_cmp_lt, lg_cmp_eq, eL_0, eL_1, eL_m1, eL_LO, eL_HI, eL_W, eL_add, eL_sub, eL_mul, eL_neg, eL_lt, eL_le, eL_eq, eL_remN, eL_mod0, ne_eq, Int64.not_lt, Int64.not_le] at c20)
              (try simp (disch := omega) only [lg_cmp_ge, lg_cmp_le, lg_cmp_gt, lg_cmp_lt, lg_cmp_eq, eL_0, eL_1, eL_m1, eL_LO, eL_HI, eL_W, eL_add, eL_sub, eL_mul, eL_neg, eL_lt, eL_le, eL_eq, eL_remN, eL_mod0, ne_eq, Int64.not_lt, Int64.not_le] at c29)
              (try simp (disch := omega) only [lg_cmp_ge, lg_cmp_le, lg_cmp_gt, lg_cmp_lt, lg_cmp_eq, eL_0, eL_1, eL_m1, eL_LO, eL_HI, eL_W, eL_add, eL_sub, eL_mul, eL_neg, eL_lt, eL_le, eL_eq, eL_remN, eL_mod0, ne_eq, Int64.not_lt, Int64.not_le] at c45)
              (try simp (disch := omega) only [lg_cmp_ge, lg_cmp_le, lg_cmp_gt, lg_cmp_lt, lg_cmp_eq, eL_0, eL_1, eL_m1, eL_LO, eL_HI, eL_W, eL_add, eL_sub, eL_mul, eL_neg, eL_lt, eL_le, eL_eq, eL_remN, eL_mod0, ne_eq, Int64.not_lt, Int64.not_le] at c54)
              (try simp (disch := omega) only [lg_cmp_ge, lg_cmp_le, lg_cmp_gt, lg_cmp_lt, lg_cmp_eq, eL_0, eL_1, eL_m1, eL_LO, eL_HI, eL_W, eL_add, eL_sub, eL_mul, eL_neg, eL_lt, eL_le, eL_eq, eL_remN, eL_mod0, ne_eq, Int64.not_lt, Int64.not_le] at c78)
              refine ⟨rfl, rfl, ?_⟩
              simp only [gi_up_up]
              refine congrArg (gi_up h a) ?_
              have key : ∀ p q r : Int, reachS y c = (p, q, r) → eV (0, eL p, eL q, eL r, 0, 0) = eV (sV (reachS y c)) := fun p q r e => by rw [e]
              simp only [eL_0, eL_1]
              refine key _ _ _ ?_
              unfold reachS
              first
                | exact absurd rfl c78
                | exact absurd trivial c78
                | (rw [if_pos (by omega)]; done)
                | (rw [if_neg (by omega), Int.min_eq_left (by omega), Int.max_eq_left (by omega)]; first | (rw [if_pos (by omega)]; done) | (rw [if_neg (by omega)]; done))
                | (rw [if_neg (by omega), Int.min_eq_right (by omega), Int.max_eq_left (by omega)]; first | (rw [if_pos (by omega)]; done) | (rw [if_neg (by omega)]; done))
                | (rw [if_neg (by omega), Int.min_eq_left (by omega), Int.max_eq_right (by omega)]; first | (rw [if_pos (by omega)]; done) | (rw [if_neg (by omega)]; done))
                | (rw [if_neg (by omega), Int.min_eq_right (by omega), Int.max_eq_right (by omega)]; first | (rw [if_pos (by omega)]; done) | (rw [if_neg (by omega)]; done))
          · refine gi_lload_n (q := 58) (i := 1) C (dm_Va_reach 31 rfl) rfl rfl rfl ?_
            refine gi_goto (tgt := 65) C (dm_Va_reach 32 rfl) (by decide) ?_
            refine gi_put (q := 68) C (dm_Va_reach 35 rfl) rfl fl_Va_19 fp_Va_2 (by repeat (first | exact gi_up_self _ _ _ | assumption | rw [gi_up_ne (by omega)])) (Nat.le_of_ble_eq_true rfl) rfl rfl ?_
            refine gi_aload_n (q := 69) (i := 0) C (dm_Va_reach 36 rfl) rfl rfl rfl ?_
            refine gi_aload_n (q := 70) (i := 0) C (dm_Va_reach 37 rfl) rfl rfl rfl ?_
            refine gi_get (q := 73) C (dm_Va_reach 38 rfl) rfl fl_Va_15 (by repeat (first | exact gi_up_self _ _ _ | assumption | rw [gi_up_ne (by omega)])) rfl ?_
            refine gi_aload_n (q := 74) (i := 0) C (dm_Va_reach 39 rfl) rfl rfl rfl ?_
            refine gi_get (q := 77) C (dm_Va_reach 40 rfl) rfl fl_Va_19 (by repeat (first | exact gi_up_self _ _ _ | assumption | rw [gi_up_ne (by omega)])) rfl ?_
            refine gi_lcmp (q := 78) C (dm_Va_reach 41 rfl) rfl ?_
            refine gi_if_ne (q := 81) (tgt := 85) C (dm_Va_reach 42 rfl) rfl (by decide) (fun c78 => ?_) (fun c78 => ?_)
            · refine gi_lconst (q := 86) (v := 1) C (dm_Va_reach 45 rfl) rfl (by decide) ?_
              refine gi_put (q := 89) C (dm_Va_reach 46 rfl) rfl fl_Va_22 fp_Va_3 (by repeat (first | exact gi_up_self _ _ _ | assumption | rw [gi_up_ne (by omega)])) (Nat.le_of_ble_eq_true rfl) rfl rfl ?_
              refine gi_vret C hr (dm_Va_reach 47 rfl) ?_
              (try simp (disch := omega) only [lg_cmp_ge, lg_cmp_le, lg_cmp_gt, lg_cmp_lt, lg_cmp_eq, eL_0, eL_1, eL_m1, eL_LO, eL_HI, eL_W, eL_add, eL_sub, eL_mul, eL_neg, eL_lt, eL_le, eL_eq, eL_remN, eL_mod0, ne_eq, Int64.not_lt, Int64.not_le] at c9)
              (try simp (disch := omega) only [lg_cmp_ge, lg_cmp_le, lg_cmp_gt, lg_cmp_lt, lg_cmp_eq, eL_0, eL_1, eL_m1, eL_LO, eL_HI, eL_W, eL_add, eL_sub, eL_mul, eL_neg, eL_lt, eL_le, eL_eq, eL_remN, eL_mod0, ne_eq, Int64.not_lt, Int64.not_le] at c20)
              (try simp (disch := omega) only [lg_cmp_ge, lg_cmp_le, lg_cmp_gt, lg_cmp_lt, lg_cmp_eq, eL_0, eL_1, eL_m1, eL_LO, eL_HI, eL_W, eL_add, eL_sub, eL_mul, eL_neg, eL_lt, eL_le, eL_eq, eL_remN, eL_mod0, ne_eq, Int64.not_lt, Int64.not_le] at c29)
              (try simp (disch := omega) only [lg_cmp_ge, lg_cmp_le, lg_cmp_gt, lg_cmp_lt, lg_cmp_eq, eL_0, eL_1, eL_m1, eL_LO, eL_HI, eL_W, eL_add, eL_sub, eL_mul, eL_neg, eL_lt, eL_le, eL_eq, eL_remN, eL_mod0, ne_eq, Int64.not_lt, Int64.not_le] at c45)
              (try simp (disch := omega) only [lg_cmp_ge, lg_cmp_le, lg_cmp_gt, lg_cmp_lt, lg_cmp_eq, eL_0, eL_1, eL_m1, eL_LO, eL_HI, eL_W, eL_add, eL_sub, eL_mul, eL_neg, eL_lt, eL_le, eL_eq, eL_remN, eL_mod0, ne_eq, Int64.not_lt, Int64.not_le] at c54)
              (try simp (disch := omega) only [lg_cmp_ge, lg_cmp_le, lg_cmp_gt, lg_cmp_lt, lg_cmp_eq, eL_0, eL_1, eL_m1, eL_LO, eL_HI, eL_W, eL_add, eL_sub, eL_mul, eL_neg, eL_lt, eL_le, eL_eq, eL_remN, eL_mod0, ne_eq, Int64.not_lt, Int64.not_le] at c78)
              refine ⟨rfl, rfl, ?_⟩
              simp only [gi_up_up]
              refine congrArg (gi_up h a) ?_
              have key : ∀ p q r : Int, reachS y c = (p, q, r) → eV (0, eL p, eL q, eL r, 0, 0) = eV (sV (reachS y c)) := fun p q r e => by rw [e]
              simp only [eL_0, eL_1]
              refine key _ _ _ ?_
              unfold reachS
              first
                | exact absurd rfl c78
                | exact absurd trivial c78
                | (rw [if_pos (by omega)]; done)
                | (rw [if_neg (by omega), Int.min_eq_left (by omega), Int.max_eq_left (by omega)]; first | (rw [if_pos (by omega)]; done) | (rw [if_neg (by omega)]; done))
                | (rw [if_neg (by omega), Int.min_eq_right (by omega), Int.max_eq_left (by omega)]; first | (rw [if_pos (by omega)]; done) | (rw [if_neg (by omega)]; done))
                | (rw [if_neg (by omega), Int.min_eq_left (by omega), Int.max_eq_right (by omega)]; first | (rw [if_pos (by omega)]; done) | (rw [if_neg (by omega)]; done))
                | (rw [if_neg (by omega), Int.min_eq_right (by omega), Int.max_eq_right (by omega)]; first | (rw [if_pos (by omega)]; done) | (rw [if_neg (by omega)]; done))
            · refine gi_lconst (q := 82) (v := 0) C (dm_Va_reach 43 rfl) rfl (by decide) ?_
              refine gi_goto (tgt := 86) C (dm_Va_reach 44 rfl) (by decide) ?_
              refine gi_put (q := 89) C (dm_Va_reach 46 rfl) rfl fl_Va_22 fp_Va_3 (by repeat (first | exact gi_up_self _ _ _ | assumption | rw [gi_up_ne (by omega)])) (Nat.le_of_ble_eq_true rfl) rfl rfl ?_
              refine gi_vret C hr (dm_Va_reach 47 rfl) ?_
              (try simp (disch := omega) only [lg_cmp_ge, lg_cmp_le, lg_cmp_gt, lg_cmp_lt, lg_cmp_eq, eL_0, eL_1, eL_m1, eL_LO, eL_HI, eL_W, eL_add, eL_sub, eL_mul, eL_neg, eL_lt, eL_le, eL_eq, eL_remN, eL_mod0, ne_eq, Int64.not_lt, Int64.not_le] at c9)
              (try simp (disch := omega) only [lg_cmp_ge, lg_cmp_le, lg_cmp_gt, lg_cmp_lt, lg_cmp_eq, eL_0, eL_1, eL_m1, eL_LO, eL_HI, eL_W, eL_add, eL_sub, eL_mul, eL_neg, eL_lt, eL_le, eL_eq, eL_remN, eL_mod0, ne_eq, Int64.not_lt, Int64.not_le] at c20)
              (try simp (disch := omega) only [lg_cmp_ge, lg_cmp_le, lg_cmp_gt, lg_cmp_lt, lg_cmp_eq, eL_0, eL_1, eL_m1, eL_LO, eL_HI, eL_W, eL_add, eL_sub, eL_mul, eL_neg, eL_lt, eL_le, eL_eq, eL_remN, eL_mod0, ne_eq, Int64.not_lt, Int64.not_le] at c29)
              (try simp (disch := omega) only [lg_cmp_ge, lg_cmp_le, lg_cmp_gt, lg_cmp_lt, lg_cmp_eq, eL_0, eL_1, eL_m1, eL_LO, eL_HI, eL_W, eL_add, eL_sub, eL_mul, eL_neg, eL_lt, eL_le, eL_eq, eL_remN, eL_mod0, ne_eq, Int64.not_lt, Int64.not_le] at c45)
              (try simp (disch := omega) only [lg_cmp_ge, lg_cmp_le, lg_cmp_gt, lg_cmp_lt, lg_cmp_eq, eL_0, eL_1, eL_m1, eL_LO, eL_HI, eL_W, eL_add, eL_sub, eL_mul, eL_neg, eL_lt, eL_le, eL_eq, eL_remN, eL_mod0, ne_eq, Int64.not_lt, Int64.not_le] at c54)
              (try simp (disch := omega) only [lg_cmp_ge, lg_cmp_le, lg_cmp_gt, lg_cmp_lt, lg_cmp_eq, eL_0, eL_1, eL_m1, eL_LO, eL_HI, eL_W, eL_add, eL_sub, eL_mul, eL_neg, eL_lt, eL_le, eL_eq, eL_remN, eL_mod0, ne_eq, Int64.not_lt, Int64.not_le] at c78)
              refine ⟨rfl, rfl, ?_⟩
              simp only [gi_up_up]
              refine congrArg (gi_up h a) ?_
              have key : ∀ p q r : Int, reachS y c = (p, q, r) → eV (0, eL p, eL q, eL r, 0, 0) = eV (sV (reachS y c)) := fun p q r e => by rw [e]
              simp only [eL_0, eL_1]
              refine key _ _ _ ?_
              unfold reachS
              first
                | exact absurd rfl c78
                | exact absurd trivial c78
                | (rw [if_pos (by omega)]; done)
                | (rw [if_neg (by omega), Int.min_eq_left (by omega), Int.max_eq_left (by omega)]; first | (rw [if_pos (by omega)]; done) | (rw [if_neg (by omega)]; done))
                | (rw [if_neg (by omega), Int.min_eq_right (by omega), Int.max_eq_left (by omega)]; first | (rw [if_pos (by omega)]; done) | (rw [if_neg (by omega)]; done))
                | (rw [if_neg (by omega), Int.min_eq_left (by omega), Int.max_eq_right (by omega)]; first | (rw [if_pos (by omega)]; done) | (rw [if_neg (by omega)]; done))
                | (rw [if_neg (by omega), Int.min_eq_right (by omega), Int.max_eq_right (by omega)]; first | (rw [if_pos (by omega)]; done) | (rw [if_neg (by omega)]; done))
      · refine gi_lload_n (q := 33) (i := 1) C (dm_Va_reach 18 rfl) rfl rfl rfl ?_
        refine gi_goto (tgt := 40) C (dm_Va_reach 19 rfl) (by decide) ?_
        refine gi_put (q := 43) C (dm_Va_reach 22 rfl) rfl fl_Va_15 fp_Va_1 (by repeat (first | exact gi_up_self _ _ _ | assumption | rw [gi_up_ne (by omega)])) (Nat.le_of_ble_eq_true rfl) rfl rfl ?_
        refine gi_aload_n (q := 44) (i := 0) C (dm_Va_reach 23 rfl) rfl rfl rfl ?_
        refine gi_iload_n (q := 45) (i := 3) C (dm_Va_reach 24 rfl) rfl rfl rfl ?_
        refine gi_if_ne (q := 48) (tgt := 57) C (dm_Va_reach 25 rfl) rfl (by decide) (fun c45 => ?_) (fun c45 => ?_)
        · exact absurd c45 (by decide)
        · refine gi_lload_n (q := 49) (i := 1) C (dm_Va_reach 26 rfl) rfl rfl rfl ?_
          refine gi_aload_n (q := 50) (i := 0) C (dm_Va_reach 27 rfl) rfl rfl rfl ?_
          refine gi_get (q := 53) C (dm_Va_reach 28 rfl) rfl fl_Va_19 (by repeat (first | exact gi_up_self _ _ _ | assumption | rw [gi_up_ne (by omega)])) rfl ?_
          refine gi_lcmp (q := 54) C (dm_Va_reach 29 rfl) rfl ?_
          refine gi_if_le (q := 57) (tgt := 61) C (dm_Va_reach 30 rfl) rfl (by decide) (fun c54 => ?_) (fun c54 => ?_)
          · refine gi_aload_n (q := 62) (i := 0) C (dm_Va_reach 33 rfl) rfl rfl rfl ?_
            refine gi_get (q := 65) C (dm_Va_reach 34 rfl) rfl fl_Va_19 (by repeat (first | exact gi_up_self _ _ _ | assumption | rw [gi_up_ne (by omega)])) rfl ?_
            refine gi_put (q := 68) C (dm_Va_reach 35 rfl) rfl fl_Va_19 fp_Va_2 (by repeat (first | exact gi_up_self _ _ _ | assumption | rw [gi_up_ne (by omega)])) (Nat.le_of_ble_eq_true rfl) rfl rfl ?_
            refine gi_aload_n (q := 69) (i := 0) C (dm_Va_reach 36 rfl) rfl rfl rfl ?_
            refine gi_aload_n (q := 70) (i := 0) C (dm_Va_reach 37 rfl) rfl rfl rfl ?_
            refine gi_get (q := 73) C (dm_Va_reach 38 rfl) rfl fl_Va_15 (by repeat (first | exact gi_up_self _ _ _ | assumption | rw [gi_up_ne (by omega)])) rfl ?_
            refine gi_aload_n (q := 74) (i := 0) C (dm_Va_reach 39 rfl) rfl rfl rfl ?_
            refine gi_get (q := 77) C (dm_Va_reach 40 rfl) rfl fl_Va_19 (by repeat (first | exact gi_up_self _ _ _ | assumption | rw [gi_up_ne (by omega)])) rfl ?_
            refine gi_lcmp (q := 78) C (dm_Va_reach 41 rfl) rfl ?_
            refine gi_if_ne (q := 81) (tgt := 85) C (dm_Va_reach 42 rfl) rfl (by decide) (fun c78 => ?_) (fun c78 => ?_)
            · refine gi_lconst (q := 86) (v := 1) C (dm_Va_reach 45 rfl) rfl (by decide) ?_
              refine gi_put (q := 89) C (dm_Va_reach 46 rfl) rfl fl_Va_22 fp_Va_3 (by repeat (first | exact gi_up_self _ _ _ | assumption | rw [gi_up_ne (by omega)])) (Nat.le_of_ble_eq_true rfl) rfl rfl ?_
              refine gi_vret C hr (dm_Va_reach 47 rfl) ?_
              (try simp (disch := omega) only [lg_cmp_ge, lg_cmp_le, lg_cmp_gt, lg_cmp_lt, lg_cmp_eq, eL_0, eL_1, eL_m1, eL_LO, eL_HI, eL_W, eL_add, eL_sub, eL_mul, eL_neg, eL_lt, eL_le, eL_eq, eL_remN, eL_mod0, ne_eq, Int64.not_lt, Int64.not_le] at c9)
              (try simp (disch := omega) only [lg_cmp_ge, lg_cmp_le, lg_cmp_gt, lg_cmp_lt, lg_cmp_eq, eL_0, eL_1, eL_m1, eL_LO, eL_HI, eL_W, eL_add, eL_sub, eL_mul, eL_neg, eL_lt, eL_le, eL_eq, eL_remN, eL_mod0, ne_eq, Int64.not_lt, Int64.not_le] at c20)
              (try simp (disch := omega) only [lg_cmp_ge, lg_cmp_le, lg_cmp_gt, lg_cmp_lt, lg_cmp_eq, eL_0, eL_1, eL_m1, eL_LO, eL_HI, eL_W, eL_add, eL_sub, eL_mul, eL_neg, eL_lt, eL_le, eL_eq, eL_remN, eL_mod0, ne_eq, Int64.not_lt, Int64.not_le] at c29)
              (try simp (disch := omega) only [lg_cmp_ge, lg_cmp_le, lg_cmp_gt, lg_cmp_lt, lg_cmp_eq, eL_0, eL_1, eL_m1, eL_LO, eL_HI, eL_W, eL_add, eL_sub, eL_mul, eL_neg, eL_lt, eL_le, eL_eq, eL_remN, eL_mod0, ne_eq, Int64.not_lt, Int64.not_le] at c45)
              (try simp (disch := omega) only [lg_cmp_ge, lg_cmp_le, lg_cmp_gt, lg_cmp_lt, lg_cmp_eq, eL_0, eL_1, eL_m1, eL_LO, eL_HI, eL_W, eL_add, eL_sub, eL_mul, eL_neg, eL_lt, eL_le, eL_eq, eL_remN, eL_mod0, ne_eq, Int64.not_lt, Int64.not_le] at c54)
              (try simp (disch := omega) only [lg_cmp_ge, lg_cmp_le, lg_cmp_gt, lg_cmp_lt, lg_cmp_eq, eL_0, eL_1, eL_m1, eL_LO, eL_HI, eL_W, eL_add, eL_sub, eL_mul, eL_neg, eL_lt, eL_le, eL_eq, eL_remN, eL_mod0, ne_eq, Int64.not_lt, Int64.not_le] at c78)
              refine ⟨rfl, rfl, ?_⟩
              simp only [gi_up_up]
              refine congrArg (gi_up h a) ?_
              have key : ∀ p q r : Int, reachS y c = (p, q, r) → eV (0, eL p, eL q, eL r, 0, 0) = eV (sV (reachS y c)) := fun p q r e => by rw [e]
              simp only [eL_0, eL_1]
              refine key _ _ _ ?_
              unfold reachS
              first
                | exact absurd rfl c78
                | exact absurd trivial c78
                | (rw [if_pos (by omega)]; done)
                | (rw [if_neg (by omega), Int.min_eq_left (by omega), Int.max_eq_left (by omega)]; first | (rw [if_pos (by omega)]; done) | (rw [if_neg (by omega)]; done))
                | (rw [if_neg (by omega), Int.min_eq_right (by omega), Int.max_eq_left (by omega)]; first | (rw [if_pos (by omega)]; done) | (rw [if_neg (by omega)]; done))
                | (rw [if_neg (by omega), Int.min_eq_left (by omega), Int.max_eq_right (by omega)]; first | (rw [if_pos (by omega)]; done) | (rw [if_neg (by omega)]; done))
                | (rw [if_neg (by omega), Int.min_eq_right (by omega), Int.max_eq_right (by omega)]; first | (rw [if_pos (by omega)]; done) | (rw [if_neg (by omega)]; done))
            · refine gi_lconst (q := 82) (v := 0) C (dm_Va_reach 43 rfl) rfl (by decide) ?_
              refine gi_goto (tgt := 86) C (dm_Va_reach 44 rfl) (by decide) ?_
              refine gi_put (q := 89) C (dm_Va_reach 46 rfl) rfl fl_Va_22 fp_Va_3 (by repeat (first | exact gi_up_self _ _ _ | assumption | rw [gi_up_ne (by omega)])) (Nat.le_of_ble_eq_true rfl) rfl rfl ?_
              refine gi_vret C hr (dm_Va_reach 47 rfl) ?_
              (try simp (disch := omega) only [lg_cmp_ge, lg_cmp_le, lg_cmp_gt, lg_cmp_lt, lg_cmp_eq, eL_0, eL_1, eL_m1, eL_LO, eL_HI, eL_W, eL_add, eL_sub, eL_mul, eL_neg, eL_lt, eL_le, eL_eq, eL_remN, eL_mod0, ne_eq, Int64.not_lt, Int64.not_le] at c9)
              (try simp (disch := omega) only [lg_cmp_ge, lg_cmp_le, lg_cmp_gt, lg_cmp_lt, lg_cmp_eq, eL_0, eL_1, eL_m1, eL_LO, eL_HI, eL_W, eL_add, eL_sub, eL_mul, eL_neg, eL_lt, eL_le, eL_eq, eL_remN, eL_mod0, ne_eq, Int64.not_lt, Int64.not_le] at c20)
              (try simp (disch := omega) only [lg_cmp_ge, lg_cmp_le, lg_cmp_gt, lg_cmp_lt, lg_cmp_eq, eL_0, eL_1, eL_m1, eL_LO, eL_HI, eL_W, eL_add, eL_sub, eL_mul, eL_neg, eL_lt, eL_le, eL_eq, eL_remN, eL_mod0, ne_eq, Int64.not_lt, Int64.not_le] at c29)
              (try simp (disch := omega) only [lg_cmp_ge, lg_cmp_le, lg_cmp_gt, lg_cmp_lt, lg_cmp_eq, eL_0, eL_1, eL_m1, eL_LO, eL_HI, eL_W, eL_add, eL_sub, eL_mul, eL_neg, eL_lt, eL_le, eL_eq, eL_remN, eL_mod0, ne_eq, Int64.not_lt, Int64.not_le] at c45)
              (try simp (disch := omega) only [lg_cmp_ge, lg_cmp_le, lg_cmp_gt, lg_cmp_lt, lg_cmp_eq, eL_0, eL_1, eL_m1, eL_LO, eL_HI, eL_W, eL_add, eL_sub, eL_mul, eL_neg, eL_lt, eL_le, eL_eq, eL_remN, eL_mod0, ne_eq, Int64.not_lt, Int64.not_le] at c54)
              (try simp (disch := omega) only [lg_cmp_ge, lg_cmp_le, lg_cmp_gt, lg_cmp_lt, lg_cmp_eq, eL_0, eL_1, eL_m1, eL_LO, eL_HI, eL_W, eL_add, eL_sub, eL_mul, eL_neg, eL_lt, eL_le, eL_eq, eL_remN, eL_mod0, ne_eq, Int64.not_lt, Int64.not_le] at c78)
              refine ⟨rfl, rfl, ?_⟩
              simp only [gi_up_up]
              refine congrArg (gi_up h a) ?_
              have key : ∀ p q r : Int, reachS y c = (p, q, r) → eV (0, eL p, eL q, eL r, 0, 0) = eV (sV (reachS y c)) := fun p q r e => by rw [e]
              simp only [eL_0, eL_1]
              refine key _ _ _ ?_
              unfold reachS
              first
                | exact absurd rfl c78
                | exact absurd trivial c78
                | (rw [if_pos (by omega)]; done)
                | (rw [if_neg (by omega), Int.min_eq_left (by omega), Int.max_eq_left (by omega)]; first | (rw [if_pos (by omega)]; done) | (rw [if_neg (by omega)]; done))
                | (rw [if_neg (by omega), Int.min_eq_right (by omega), Int.max_eq_left (by omega)]; first | (rw [if_pos (by omega)]; done) | (rw [if_neg (by omega)]; done))
                | (rw [if_neg (by omega), Int.min_eq_left (by omega), Int.max_eq_right (by omega)]; first | (rw [if_pos (by omega)]; done) | (rw [if_neg (by omega)]; done))
                | (rw [if_neg (by omega), Int.min_eq_right (by omega), Int.max_eq_right (by omega)]; first | (rw [if_pos (by omega)]; done) | (rw [if_neg (by omega)]; done))
          · refine gi_lload_n (q := 58) (i := 1) C (dm_Va_reach 31 rfl) rfl rfl rfl ?_
            refine gi_goto (tgt := 65) C (dm_Va_reach 32 rfl) (by decide) ?_
            refine gi_put (q := 68) C (dm_Va_reach 35 rfl) rfl fl_Va_19 fp_Va_2 (by repeat (first | exact gi_up_self _ _ _ | assumption | rw [gi_up_ne (by omega)])) (Nat.le_of_ble_eq_true rfl) rfl rfl ?_
            refine gi_aload_n (q := 69) (i := 0) C (dm_Va_reach 36 rfl) rfl rfl rfl ?_
            refine gi_aload_n (q := 70) (i := 0) C (dm_Va_reach 37 rfl) rfl rfl rfl ?_
            refine gi_get (q := 73) C (dm_Va_reach 38 rfl) rfl fl_Va_15 (by repeat (first | exact gi_up_self _ _ _ | assumption | rw [gi_up_ne (by omega)])) rfl ?_
            refine gi_aload_n (q := 74) (i := 0) C (dm_Va_reach 39 rfl) rfl rfl rfl ?_
            refine gi_get (q := 77) C (dm_Va_reach 40 rfl) rfl fl_Va_19 (by repeat (first | exact gi_up_self _ _ _ | assumption | rw [gi_up_ne (by omega)])) rfl ?_
            refine gi_lcmp (q := 78) C (dm_Va_reach 41 rfl) rfl ?_
            refine gi_if_ne (q := 81) (tgt := 85) C (dm_Va_reach 42 rfl) rfl (by decide) (fun c78 => ?_) (fun c78 => ?_)
            · refine gi_lconst (q := 86) (v := 1) C (dm_Va_reach 45 rfl) rfl (by decide) ?_
              refine gi_put (q := 89) C (dm_Va_reach 46 rfl) rfl fl_Va_22 fp_Va_3 (by repeat (first | exact gi_up_self _ _ _ | assumption | rw [gi_up_ne (by omega)])) (Nat.le_of_ble_eq_true rfl) rfl rfl ?_
              refine gi_vret C hr (dm_Va_reach 47 rfl) ?_
              (try simp (disch := omega) only [lg_cmp_ge, lg_cmp_le, lg_cmp_gt, lg_cmp_lt, lg_cmp_eq, eL_0, eL_1, eL_m1, eL_LO, eL_HI, eL_W, eL_add, eL_sub, eL_mul, eL_neg, eL_lt, eL_le, eL_eq, eL_remN, eL_mod0, ne_eq, Int64.not_lt, Int64.not_le] at c9)
              (try simp (disch := omega) only [lg_cmp_ge, lg_cmp_le, lg_cmp_gt, lg_cmp_lt, lg_cmp_eq, eL_0, eL_1, eL_m1, eL_LO, eL_HI, eL_W, eL_add, eL_sub, eL_mul, eL_neg, eL_lt, eL_le, eL_eq, eL_remN, eL_mod0, ne_eq, Int64.not_lt, Int64.not_le] at c20)
              (try simp (disch := omega) only [lg_cmp_ge, lg_cmp_le, lg_cmp_gt, lg_cmp_lt, lg_cmp_eq, eL_0, eL_1, eL_m1, eL_LO, eL_HI, eL_W, eL_add, eL_sub, eL_mul, eL_neg, eL_lt, eL_le, eL_eq, eL_remN, eL_mod0, ne_eq, Int64.not_lt, Int64.not_le] at c29)
              (try simp (disch := omega) only [lg_cmp_ge, lg_cmp_le, lg_cmp_gt, lg_cmp_lt, lg_cmp_eq, eL_0, eL_1, eL_m1, eL_LO, eL_HI, eL_W, eL_add, eL_sub, eL_mul, eL_neg, eL_lt, eL_le, eL_eq, eL_remN, eL_mod0, ne_eq, Int64.not_lt, Int64.not_le] at c45)
              (try simp (disch := omega) only [lg_cmp_ge, lg_cmp_le, lg_cmp_gt, lg_cmp_lt, lg_cmp_eq, eL_0, eL_1, eL_m1, eL_LO, eL_HI, eL_W, eL_add, eL_sub, eL_mul, eL_neg, eL_lt, eL_le, eL_eq, eL_remN, eL_mod0, ne_eq, Int64.not_lt, Int64.not_le] at c54)
              (try simp (disch := omega) only [lg_cmp_ge, lg_cmp_le, lg_cmp_gt, lg_cmp_lt, lg_cmp_eq, eL_0, eL_1, eL_m1, eL_LO, eL_HI, eL_W, eL_add, eL_sub, eL_mul, eL_neg, eL_lt, eL_le, eL_eq, eL_remN, eL_mod0, ne_eq, Int64.not_lt, Int64.not_le] at c78)
              refine ⟨rfl, rfl, ?_⟩
              simp only [gi_up_up]
              refine congrArg (gi_up h a) ?_
              have key : ∀ p q r : Int, reachS y c = (p, q, r) → eV (0, eL p, eL q, eL r, 0, 0) = eV (sV (reachS y c)) := fun p q r e => by rw [e]
              simp only [eL_0, eL_1]
              refine key _ _ _ ?_
              unfold reachS
              first
                | exact absurd rfl c78
                | exact absurd trivial c78
                | (rw [if_pos (by omega)]; done)
                | (rw [if_neg (by omega), Int.min_eq_left (by omega), Int.max_eq_left (by omega)]; first | (rw [if_pos (by omega)]; done) | (rw [if_neg (by omega)]; done))
                | (rw [if_neg (by omega), Int.min_eq_right (by omega), Int.max_eq_left (by omega)]; first | (rw [if_pos (by omega)]; done) | (rw [if_neg (by omega)]; done))
                | (rw [if_neg (by omega), Int.min_eq_left (by omega), Int.max_eq_right (by omega)]; first | (rw [if_pos (by omega)]; done) | (rw [if_neg (by omega)]; done))
                | (rw [if_neg (by omega), Int.min_eq_right (by omega), Int.max_eq_right (by omega)]; first | (rw [if_pos (by omega)]; done) | (rw [if_neg (by omega)]; done))
            · refine gi_lconst (q := 82) (v := 0) C (dm_Va_reach 43 rfl) rfl (by decide) ?_
              refine gi_goto (tgt := 86) C (dm_Va_reach 44 rfl) (by decide) ?_
              refine gi_put (q := 89) C (dm_Va_reach 46 rfl) rfl fl_Va_22 fp_Va_3 (by repeat (first | exact gi_up_self _ _ _ | assumption | rw [gi_up_ne (by omega)])) (Nat.le_of_ble_eq_true rfl) rfl rfl ?_
              refine gi_vret C hr (dm_Va_reach 47 rfl) ?_
              (try simp (disch := omega) only [lg_cmp_ge, lg_cmp_le, lg_cmp_gt, lg_cmp_lt, lg_cmp_eq, eL_0, eL_1, eL_m1, eL_LO, eL_HI, eL_W, eL_add, eL_sub, eL_mul, eL_neg, eL_lt, eL_le, eL_eq, eL_remN, eL_mod0, ne_eq, Int64.not_lt, Int64.not_le] at c9)
              (try simp (disch := omega) only [lg_cmp_ge, lg_cmp_le, lg_cmp_gt, lg_cmp_lt, lg_cmp_eq, eL_0, eL_1, eL_m1, eL_LO, eL_HI, eL_W, eL_add, eL_sub, eL_mul, eL_neg, eL_lt, eL_le, eL_eq, eL_remN, eL_mod0, ne_eq, Int64.not_lt, Int64.not_le] at c20)
              (try simp (disch := omega) only [lg_cmp_ge, lg_cmp_le, lg_cmp_gt, lg_cmp_lt, lg_cmp_eq, eL_0, eL_1, eL_m1, eL_LO, eL_HI, eL_W, eL_add, eL_sub, eL_mul, eL_neg, eL_lt, eL_le, eL_eq, eL_remN, eL_mod0, ne_eq, Int64.not_lt, Int64.not_le] at c29)
              (try simp (disch := omega) only [lg_cmp_ge, lg_cmp_le, lg_cmp_gt, lg_cmp_lt, lg_cmp_eq, eL_0, eL_1, eL_m1, eL_LO, eL_HI, eL_W, eL_add, eL_sub, eL_mul, eL_neg, eL_lt, eL_le, eL_eq, eL_remN, eL_mod0, ne_eq, Int64.not_lt, Int64.not_le] at c45)
              (try simp (disch := omega) only [lg_cmp_ge, lg_cmp_le, lg_cmp_gt, lg_cmp_lt, lg_cmp_eq, eL_0, eL_1, eL_m1, eL_LO, eL_HI, eL_W, eL_add, eL_sub, eL_mul, eL_neg, eL_lt, eL_le, eL_eq, eL_remN, eL_mod0, ne_eq, Int64.not_lt, Int64.not_le] at c54)
              (try simp (disch := omega) only [lg_cmp_ge, lg_cmp_le, lg_cmp_gt, lg_cmp_lt, lg_cmp_eq, eL_0, eL_1, eL_m1, eL_LO, eL_HI, eL_W, eL_add, eL_sub, eL_mul, eL_neg, eL_lt, eL_le, eL_eq, eL_remN, eL_mod0, ne_eq, Int64.not_lt, Int64.not_le] at c78)
              refine ⟨rfl, rfl, ?_⟩
              simp only [gi_up_up]
              refine congrArg (gi_up h a) ?_
              have key : ∀ p q r : Int, reachS y c = (p, q, r) → eV (0, eL p, eL q, eL r, 0, 0) = eV (sV (reachS y c)) := fun p q r e => by rw [e]
              simp only [eL_0, eL_1]
              refine key _ _ _ ?_
              unfold reachS
              first
                | exact absurd rfl c78
                | exact absurd trivial c78
                | (rw [if_pos (by omega)]; done)
                | (rw [if_neg (by omega), Int.min_eq_left (by omega), Int.max_eq_left (by omega)]; first | (rw [if_pos (by omega)]; done) | (rw [if_neg (by omega)]; done))
                | (rw [if_neg (by omega), Int.min_eq_right (by omega), Int.max_eq_left (by omega)]; first | (rw [if_pos (by omega)]; done) | (rw [if_neg (by omega)]; done))
                | (rw [if_neg (by omega), Int.min_eq_left (by omega), Int.max_eq_right (by omega)]; first | (rw [if_pos (by omega)]; done) | (rw [if_neg (by omega)]; done))
                | (rw [if_neg (by omega), Int.min_eq_right (by omega), Int.max_eq_right (by omega)]; first | (rw [if_pos (by omega)]; done) | (rw [if_neg (by omega)]; done))
  · refine gi_iconst (q := 13) (v := 1) C (dm_Va_reach 6 rfl) rfl (by decide) ?_
    refine gi_goto (tgt := 17) C (dm_Va_reach 7 rfl) (by decide) ?_
    refine gi_istore_n (q := 18) (i := 3) C (dm_Va_reach 9 rfl) rfl rfl (Nat.le_of_ble_eq_true rfl) ?_
    refine gi_aload_n (q := 19) (i := 0) C (dm_Va_reach 10 rfl) rfl rfl rfl ?_
    refine gi_iload_n (q := 20) (i := 3) C (dm_Va_reach 11 rfl) rfl rfl rfl ?_
    refine gi_if_ne (q := 23) (tgt := 32) C (dm_Va_reach 12 rfl) rfl (by decide) (fun c20 => ?_) (fun c20 => ?_)
    · refine gi_lload_n (q := 33) (i := 1) C (dm_Va_reach 18 rfl) rfl rfl rfl ?_
      refine gi_goto (tgt := 40) C (dm_Va_reach 19 rfl) (by decide) ?_
      refine gi_put (q := 43) C (dm_Va_reach 22 rfl) rfl fl_Va_15 fp_Va_1 (by repeat (first | exact gi_up_self _ _ _ | assumption | rw [gi_up_ne (by omega)])) (Nat.le_of_ble_eq_true rfl) rfl rfl ?_
      refine gi_aload_n (q := 44) (i := 0) C (dm_Va_reach 23 rfl) rfl rfl rfl ?_
      refine gi_iload_n (q := 45) (i := 3) C (dm_Va_reach 24 rfl) rfl rfl rfl ?_
      refine gi_if_ne (q := 48) (tgt := 57) C (dm_Va_reach 25 rfl) rfl (by decide) (fun c45 => ?_) (fun c45 => ?_)
      · refine gi_lload_n (q := 58) (i := 1) C (dm_Va_reach 31 rfl) rfl rfl rfl ?_
        refine gi_goto (tgt := 65) C (dm_Va_reach 32 rfl) (by decide) ?_
        refine gi_put (q := 68) C (dm_Va_reach 35 rfl) rfl fl_Va_19 fp_Va_2 (by repeat (first | exact gi_up_self _ _ _ | assumption | rw [gi_up_ne (by omega)])) (Nat.le_of_ble_eq_true rfl) rfl rfl ?_
        refine gi_aload_n (q := 69) (i := 0) C (dm_Va_reach 36 rfl) rfl rfl rfl ?_
        refine gi_aload_n (q := 70) (i := 0) C (dm_Va_reach 37 rfl) rfl rfl rfl ?_
        refine gi_get (q := 73) C (dm_Va_reach 38 rfl) rfl fl_Va_15 (by repeat (first | exact gi_up_self _ _ _ | assumption | rw [gi_up_ne (by omega)])) rfl ?_
        refine gi_aload_n (q := 74) (i := 0) C (dm_Va_reach 39 rfl) rfl rfl rfl ?_
        refine gi_get (q := 77) C (dm_Va_reach 40 rfl) rfl fl_Va_19 (by repeat (first | exact gi_up_self _ _ _ | assumption | rw [gi_up_ne (by omega)])) rfl ?_
        refine gi_lcmp (q := 78) C (dm_Va_reach 41 rfl) rfl ?_
        refine gi_if_ne (q := 81) (tgt := 85) C (dm_Va_reach 42 rfl) rfl (by decide) (fun c78 => ?_) (fun c78 => ?_)
        · refine gi_lconst (q := 86) (v := 1) C (dm_Va_reach 45 rfl) rfl (by decide) ?_
          refine gi_put (q := 89) C (dm_Va_reach 46 rfl) rfl fl_Va_22 fp_Va_3 (by repeat (first | exact gi_up_self _ _ _ | assumption | rw [gi_up_ne (by omega)])) (Nat.le_of_ble_eq_true rfl) rfl rfl ?_
          refine gi_vret C hr (dm_Va_reach 47 rfl) ?_
          (try simp (disch := omega) only [lg_cmp_ge, lg_cmp_le, lg_cmp_gt, lg_cmp_lt, lg_cmp_eq, eL_0, eL_1, eL_m1, eL_LO, eL_HI, eL_W, eL_add, eL_sub, eL_mul, eL_neg, eL_lt, eL_le, eL_eq, eL_remN, eL_mod0, ne_eq, Int64.not_lt, Int64.not_le] at c9)
          (try simp (disch := omega) only [lg_cmp_ge, lg_cmp_le, lg_cmp_gt, lg_cmp_lt, lg_cmp_eq, eL_0, eL_1, eL_m1, eL_LO, eL_HI, eL_W, eL_add, eL_sub, eL_mul, eL_neg, eL_lt, eL_le, eL_eq, eL_remN, eL_mod0, ne_eq, Int64.not_lt, Int64.not_le] at c20)
          (try simp (disch := omega) only [lg_cmp_ge, lg_cmp_le, lg_cmp_gt, lg_cmp_lt, lg_cmp_eq, eL_0, eL_1, eL_m1, eL_LO, eL_HI, eL_W, eL_add, eL_sub, eL_mul, eL_neg, eL_lt, eL_le, eL_eq, eL_remN, eL_mod0, ne_eq, Int64.not_lt, Int64.not_le] at c45)
          (try simp (disch := omega) only [lg_cmp_ge, lg_cmp_le, lg_cmp_gt, lg_cmp_lt, lg_cmp_eq, eL_0, eL_1, eL_m1, eL_LO, eL_HI, eL_W, eL_add, eL_sub, eL_mul, eL_neg, eL_lt, eL_le, eL_eq, eL_remN, eL_mod0, ne_eq, Int64.not_lt, Int64.not_le] at c78)
          refine ⟨rfl, rfl, ?_⟩
          simp only [gi_up_up]
          refine congrArg (gi_up h a) ?_
          have key : ∀ p q r : Int, reachS y c = (p, q, r) → eV (0, eL p, eL q, eL r, 0, 0) = eV (sV (reachS y c)) := fun p q r e => by rw [e]
          simp only [eL_0, eL_1]
          refine key _ _ _ ?_
          unfold reachS
          first
            | exact absurd rfl c78
            | exact absurd trivial c78
            | (rw [if_pos (by omega)]; done)
            | (rw [if_neg (by omega), Int.min_eq_left (by omega), Int.max_eq_left (by omega)]; first | (rw [if_pos (by omega)]; done) | (rw [if_neg (by omega)]; done))
            | (rw [if_neg (by omega), Int.min_eq_right (by omega), Int.max_eq_left (by omega)]; first | (rw [if_pos (by omega)]; done) | (rw [if_neg (by omega)]; done))
            | (rw [if_neg (by omega), Int.min_eq_left (by omega), Int.max_eq_right (by omega)]; first | (rw [if_pos (by omega)]; done) | (rw [if_neg (by omega)]; done))
            | (rw [if_neg (by omega), Int.min_eq_right (by omega), Int.max_eq_right (by omega)]; first | (rw [if_pos (by omega)]; done) | (rw [if_neg (by omega)]; done))
        · refine gi_lconst (q := 82) (v := 0) C (dm_Va_reach 43 rfl) rfl (by decide) ?_
          refine gi_goto (tgt := 86) C (dm_Va_reach 44 rfl) (by decide) ?_
          refine gi_put (q := 89) C (dm_Va_reach 46 rfl) rfl fl_Va_22 fp_Va_3 (by repeat (first | exact gi_up_self _ _ _ | assumption | rw [gi_up_ne (by omega)])) (Nat.le_of_ble_eq_true rfl) rfl rfl ?_
          refine gi_vret C hr (dm_Va_reach 47 rfl) ?_
          (try simp (disch := omega) only [lg_cmp_ge, lg_cmp_le, lg_cmp_gt, lg_cmp_lt, lg_cmp_eq, eL_0, eL_1, eL_m1, eL_LO, eL_HI, eL_W, eL_add, eL_sub, eL_mul, eL_neg, eL_lt, eL_le, eL_eq, eL_remN, eL_mod0, ne_eq, Int64.not_lt, Int64.not_le] at c9)
          (try simp (disch := omega) only [lg_cmp_ge, lg_cmp_le, lg_cmp_gt, lg_cmp_lt, lg_cmp_eq, eL_0, eL_1, eL_m1, eL_LO, eL_HI, eL_W, eL_add, eL_sub, eL_mul, eL_neg, eL_lt, eL_le, eL_eq, eL_remN, eL_mod0, ne_eq, Int64.not_lt, Int64.not_le] at c20)
          (try simp (disch := omega) only [lg_cmp_ge, lg_cmp_le, lg_cmp_gt, lg_cmp_lt, lg_cmp_eq, eL_0, eL_1, eL_m1, eL_LO, eL_HI, eL_W, eL_add, eL_sub, eL_mul, eL_neg, eL_lt, eL_le, eL_eq, eL_remN, eL_mod0, ne_eq, Int64.not_lt, Int64.not_le] at c45)
          (try simp (disch := omega) only [lg_cmp_ge, lg_cmp_le, lg_cmp_gt, lg_cmp_lt, lg_cmp_eq, eL_0, eL_1, eL_m1, eL_LO, eL_HI, eL_W, eL_add, eL_sub, eL_mul, eL_neg, eL_lt, eL_le, eL_eq, eL_remN, eL_mod0, ne_eq, Int64.not_lt, Int64.not_le] at c78)
          refine ⟨rfl, rfl, ?_⟩
          simp only [gi_up_up]
          refine congrArg (gi_up h a) ?_
          have key : ∀ p q r : Int, reachS y c = (p, q, r) → eV (0, eL p, eL q, eL r, 0, 0) = eV (sV (reachS y c)) := fun p q r e => by rw [e]
          simp only [eL_0, eL_1]
          refine key _ _ _ ?_
          unfold reachS
          first
            | exact absurd rfl c78
            | exact absurd trivial c78
            | (rw [if_pos (by omega)]; done)
            | (rw [if_neg (by omega), Int.min_eq_left (by omega), Int.max_eq_left (by omega)]; first | (rw [if_pos (by omega)]; done) | (rw [if_neg (by omega)]; done))
            | (rw [if_neg (by omega), Int.min_eq_right (by omega), Int.max_eq_left (by omega)]; first | (rw [if_pos (by omega)]; done) | (rw [if_neg (by omega)]; done))
            | (rw [if_neg (by omega), Int.min_eq_left (by omega), Int.max_eq_right (by omega)]; first | (rw [if_pos (by omega)]; done) | (rw [if_neg (by omega)]; done))
            | (rw [if_neg (by omega), Int.min_eq_right (by omega), Int.max_eq_right (by omega)]; first | (rw [if_pos (by omega)]; done) | (rw [if_neg (by omega)]; done))
      · exact absurd c45 (by decide)
    · exact absurd c20 (by decide)
set_option maxHeartbeats 4000000 in
set_option maxRecDepth 100000 in
theorem c_Mt_floorMod (a b : Int) (h1 : -9223372036854775808 < a) (h2 : a < 9223372036854775808) (h3 : 0 < b) (h4 : b < 9223372036854775808) : gi_T l V y_Mt_floorMod b_Mt_floorMod 6 (some .long) 0 0 0 0 [.long (eL a), .long (eL b)] n h (gi_is (some (.long (eL (a % b)))) n h) := by
  refine gi_enterF (by decide +kernel) (Nat.le_of_ble_eq_true rfl) ?_
  intro _ _ _ _ _ _ _ _ C hr hnm
  have hb0 : ¬ eL b = 0 := by rw [eL_0, eL_eq (by omega) (by omega) (by omega) (by omega)]; omega
  have t1 := Int.emod_nonneg a (show b ≠ 0 by omega)
  have t2 := Int.emod_lt_of_pos a h3
  have t3 := Int.tmod_eq_emod (a := a) (b := b)
  refine gi_lload_n (q := 1) (i := 0) C (dm_Mt_floorMod 0 rfl) rfl rfl rfl ?_
  refine gi_lload_n (q := 2) (i := 2) C (dm_Mt_floorMod 1 rfl) rfl rfl rfl ?_
  refine gi_lrem (q := 3) C (dm_Mt_floorMod 2 rfl) rfl hb0 ?_
  rw [eL_rem h1 h2 (by omega) h4]
  refine gi_lstore (q := 5) C (dm_Mt_floorMod 3 rfl) rfl (Nat.le_of_ble_eq_true rfl) ?_
  refine gi_lload_n (q := 6) (i := 0) C (dm_Mt_floorMod 4 rfl) rfl rfl rfl ?_
  refine gi_lload_n (q := 7) (i := 2) C (dm_Mt_floorMod 5 rfl) rfl rfl rfl ?_
  refine gi_lxor (q := 8) C (dm_Mt_floorMod 6 rfl) rfl ?_
  refine gi_lconst (q := 9) (v := 0) C (dm_Mt_floorMod 7 rfl) rfl (by decide) ?_
  refine gi_lcmp (q := 10) C (dm_Mt_floorMod 8 rfl) rfl ?_
  refine gi_if_ge (q := 13) (tgt := 25) C (dm_Mt_floorMod 9 rfl) rfl (by decide) (fun c10 => ?_) (fun c10 => ?_)
  · refine gi_lload (q := 27) C (dm_Mt_floorMod 18 rfl) rfl rfl ?_
    refine gi_lret C hr (dm_Mt_floorMod 19 rfl) ?_
    refine ⟨?_, rfl, rfl⟩
    rw [lg_cmp_ge, ← Int64.not_lt, xor_neg a b (by omega) (by omega) (by omega) (by omega)] at c10
    have t4 : (a.tmod b = a % b ∧ (0 ≤ a ∨ a % b = 0)) ∨ (a < 0 ∧ a.tmod b = a % b - b ∧ a % b ≠ 0) := by
      rw [t3]
      by_cases q : 0 ≤ a ∨ b ∣ a
      · rw [if_pos q]
        left
        refine ⟨by omega, ?_⟩
        rcases q with q | q
        · exact Or.inl q
        · exact Or.inr (Int.emod_eq_zero_of_dvd q)
      · rw [if_neg q]
        right
        refine ⟨by omega, by omega, fun e => q (Or.inr (Int.dvd_of_emod_eq_zero e))⟩
    first
      | (rw [lg_cmp_eq, eL_0, eL_eq (by omega) (by omega) (by omega) (by omega)] at c17
         try rw [eL_add]
         congr 3
         omega)
      | (congr 3
         omega)
  · refine gi_lload (q := 15) C (dm_Mt_floorMod 10 rfl) rfl rfl ?_
    refine gi_lconst (q := 16) (v := 0) C (dm_Mt_floorMod 11 rfl) rfl (by decide) ?_
    refine gi_lcmp (q := 17) C (dm_Mt_floorMod 12 rfl) rfl ?_
    refine gi_if_eq (q := 20) (tgt := 25) C (dm_Mt_floorMod 13 rfl) rfl (by decide) (fun c17 => ?_) (fun c17 => ?_)
    · refine gi_lload (q := 27) C (dm_Mt_floorMod 18 rfl) rfl rfl ?_
      refine gi_lret C hr (dm_Mt_floorMod 19 rfl) ?_
      refine ⟨?_, rfl, rfl⟩
      rw [lg_cmp_ge, ← Int64.not_lt, xor_neg a b (by omega) (by omega) (by omega) (by omega)] at c10
      have t4 : (a.tmod b = a % b ∧ (0 ≤ a ∨ a % b = 0)) ∨ (a < 0 ∧ a.tmod b = a % b - b ∧ a % b ≠ 0) := by
        rw [t3]
        by_cases q : 0 ≤ a ∨ b ∣ a
        · rw [if_pos q]
          left
          refine ⟨by omega, ?_⟩
          rcases q with q | q
          · exact Or.inl q
          · exact Or.inr (Int.emod_eq_zero_of_dvd q)
        · rw [if_neg q]
          right
          refine ⟨by omega, by omega, fun e => q (Or.inr (Int.dvd_of_emod_eq_zero e))⟩
      first
        | (rw [lg_cmp_eq, eL_0, eL_eq (by omega) (by omega) (by omega) (by omega)] at c17
           try rw [eL_add]
           congr 3
           omega)
        | (congr 3
           omega)
    · refine gi_lload (q := 22) C (dm_Mt_floorMod 14 rfl) rfl rfl ?_
      refine gi_lload_n (q := 23) (i := 2) C (dm_Mt_floorMod 15 rfl) rfl rfl rfl ?_
      refine gi_ladd (q := 24) C (dm_Mt_floorMod 16 rfl) rfl ?_
      refine gi_lret C hr (dm_Mt_floorMod 17 rfl) ?_
      refine ⟨?_, rfl, rfl⟩
      rw [lg_cmp_ge, ← Int64.not_lt, xor_neg a b (by omega) (by omega) (by omega) (by omega)] at c10
      have t4 : (a.tmod b = a % b ∧ (0 ≤ a ∨ a % b = 0)) ∨ (a < 0 ∧ a.tmod b = a % b - b ∧ a % b ≠ 0) := by
        rw [t3]
        by_cases q : 0 ≤ a ∨ b ∣ a
        · rw [if_pos q]
          left
          refine ⟨by omega, ?_⟩
          rcases q with q | q
          · exact Or.inl q
          · exact Or.inr (Int.emod_eq_zero_of_dvd q)
        · rw [if_neg q]
          right
          refine ⟨by omega, by omega, fun e => q (Or.inr (Int.dvd_of_emod_eq_zero e))⟩
      first
        | (rw [lg_cmp_eq, eL_0, eL_eq (by omega) (by omega) (by omega) (by omega)] at c17
           try rw [eL_add]
           congr 3
           omega)
        | (congr 3
           omega)
theorem gcd_W {s : Int} : 0 < ((Int.gcd s 4294967296 : Nat) : Int) ∧ ((Int.gcd s 4294967296 : Nat) : Int) ≤ 4294967296 := by
  have h1 : 0 < Int.gcd s 4294967296 := Int.gcd_pos_of_ne_zero_right _ (by decide)
  have h2 := Nat.le_of_dvd (by decide) (Int.gcd_dvd_natAbs_right s 4294967296)
  have h3 : (4294967296 : Int).natAbs = 4294967296 := rfl
  omega
set_option maxHeartbeats 4000000 in
set_option maxRecDepth 100000 in
theorem c_Re_turn (r ao : Nat) (x y s : Int) (v : mV) (h1 : -4611686018427387904 ≤ x) (h2 : x ≤ y) (h3 : y ≤ 4611686018427387904) (h6 : y - x ≤ 9223372034707292160) (h4 : 0 ≤ s) (h5 : s < 9223372036854775808) (ha : h ao = some (eV v)) : gi_T l V y_Re_turn b_Re_turn 14 none 1 30 0 0 [.ref r, .long (eL x), .long (eL y), .long (eL s), .ref ao] n h (gi_is none n (gi_up h ao (eV (sV (turnS x y s))))) := by
  refine gi_enter (by decide) (Nat.le_of_ble_eq_true rfl) ?_
  intro _ _ _ _ _ _ _ _ C hr hnm
  have g := gcd_W (s := s)
  have m1 := Int.emod_nonneg (x + 2147483648) (show ((Int.gcd s 4294967296 : Nat) : Int) ≠ 0 by omega)
  have m2 := Int.emod_lt_of_pos (x + 2147483648) g.1
  have m3 := Int.emod_nonneg (2147483647 - x) (show ((Int.gcd s 4294967296 : Nat) : Int) ≠ 0 by omega)
  have m4 := Int.emod_lt_of_pos (2147483647 - x) g.1
  refine gi_lload_n (q := 1) (i := 1) C (dm_Re_turn 0 rfl) rfl rfl rfl ?_
  refine gi_l2i (q := 2) C (dm_Re_turn 1 rfl) rfl ?_
  refine gi_i2l (q := 3) C (dm_Re_turn 2 rfl) rfl ?_
  rw [eL_cast]
  refine gi_lstore (q := 5) C (dm_Re_turn 3 rfl) rfl (Nat.le_of_ble_eq_true rfl) ?_
  refine gi_lload (q := 7) C (dm_Re_turn 4 rfl) rfl rfl ?_
  refine gi_lload_n (q := 8) (i := 3) C (dm_Re_turn 5 rfl) rfl rfl rfl ?_
  refine gi_lload_n (q := 9) (i := 1) C (dm_Re_turn 6 rfl) rfl rfl rfl ?_
  refine gi_lsub (q := 10) C (dm_Re_turn 7 rfl) rfl ?_
  refine gi_ladd (q := 11) C (dm_Re_turn 8 rfl) rfl ?_
  rw [eL_sub, eL_add]
  refine gi_lstore (q := 13) C (dm_Re_turn 9 rfl) rfl (Nat.le_of_ble_eq_true rfl) ?_
  refine gi_lload (q := 15) C (dm_Re_turn 10 rfl) rfl rfl ?_
  refine gi_ldc2 (q := 18) C (dm_Re_turn 11 rfl) rfl kc_Re_72 ?_
  refine gi_lcmp (q := 19) C (dm_Re_turn 12 rfl) rfl ?_
  refine gi_if_gt (q := 22) (tgt := 34) C (dm_Re_turn 13 rfl) rfl (by decide) (fun c19 => ?_) (fun c19 => ?_)
  · refine gi_lload (q := 36) C (dm_Re_turn 20 rfl) rfl rfl ?_
    refine gi_ldc2 (q := 39) C (dm_Re_turn 21 rfl) rfl kc_Re_78 ?_
    refine gi_calls 2 (q := 42) C (dm_Re_turn 22 rfl) rfl my_H_gcd lk_Re_31 sm_H_gcd (c_H_gcd s 4294967296 h4 h5 (by decide) (by decide)) rfl rfl ⟨(Nat.le_of_ble_eq_true rfl), (Nat.le_of_ble_eq_true rfl)⟩ (Nat.le_of_ble_eq_true rfl) ⟨(Nat.le_of_ble_eq_true rfl), (Nat.le_of_ble_eq_true rfl)⟩ (fun r39 n39 h39 e39 => ?_)
    obtain ⟨rfl, rfl, rfl⟩ := e39
    refine gi_lconst (q := 43) (v := 1) C (dm_Re_turn 23 rfl) rfl (by decide) ?_
    refine gi_calls 2 (q := 46) C (dm_Re_turn 24 rfl) rfl my_Mt_max_0 lk_Re_80 sm_Mt_max_0 (c_Mt_max_0 _ 1 (by omega) (by omega) (by decide) (by decide)) rfl rfl ⟨(Nat.le_of_ble_eq_true rfl), (Nat.le_of_ble_eq_true rfl)⟩ (Nat.le_of_ble_eq_true rfl) ⟨(Nat.le_of_ble_eq_true rfl), (Nat.le_of_ble_eq_true rfl)⟩ (fun r43 n43 h43 e43 => ?_)
    obtain ⟨rfl, rfl, rfl⟩ := e43
    rw [Int.max_eq_left (show (1 : Int) ≤ _ by omega)]
    refine gi_lstore (q := 48) C (dm_Re_turn 25 rfl) rfl (Nat.le_of_ble_eq_true rfl) ?_
    refine gi_aload (q := 50) C (dm_Re_turn 26 rfl) rfl rfl ?_
    refine gi_ldc2 (q := 53) C (dm_Re_turn 27 rfl) rfl kc_Re_85 ?_
    refine gi_lload_n (q := 54) (i := 1) C (dm_Re_turn 28 rfl) rfl rfl rfl ?_
    refine gi_ldc2 (q := 57) C (dm_Re_turn 29 rfl) rfl kc_Re_85 ?_
    refine gi_lsub (q := 58) C (dm_Re_turn 30 rfl) rfl ?_
    refine gi_lload (q := 60) C (dm_Re_turn 31 rfl) rfl rfl ?_
    rw [eL_LO, eL_sub, show x - -2147483648 = x + 2147483648 by omega]
    refine gi_calls 2 (q := 63) C (dm_Re_turn 32 rfl) rfl my_Mt_floorMod lk_Re_87 sm_Mt_floorMod (c_Mt_floorMod (x + 2147483648) _ (by omega) (by omega) g.1 (by omega)) rfl rfl ⟨(Nat.le_of_ble_eq_true rfl), (Nat.le_of_ble_eq_true rfl)⟩ (Nat.le_of_ble_eq_true rfl) ⟨(Nat.le_of_ble_eq_true rfl), (Nat.le_of_ble_eq_true rfl)⟩ (fun r60 n60 h60 e60 => ?_)
    obtain ⟨rfl, rfl, rfl⟩ := e60
    refine gi_ladd (q := 64) C (dm_Re_turn 33 rfl) rfl ?_
    refine gi_ldc2 (q := 67) C (dm_Re_turn 34 rfl) rfl kc_Re_72 ?_
    refine gi_ldc2 (q := 70) C (dm_Re_turn 35 rfl) rfl kc_Re_72 ?_
    refine gi_lload_n (q := 71) (i := 1) C (dm_Re_turn 36 rfl) rfl rfl rfl ?_
    refine gi_lsub (q := 72) C (dm_Re_turn 37 rfl) rfl ?_
    refine gi_lload (q := 74) C (dm_Re_turn 38 rfl) rfl rfl ?_
    rw [eL_HI, eL_sub]
    refine gi_calls 2 (q := 77) C (dm_Re_turn 39 rfl) rfl my_Mt_floorMod lk_Re_87 sm_Mt_floorMod (c_Mt_floorMod (2147483647 - x) _ (by omega) (by omega) g.1 (by omega)) rfl rfl ⟨(Nat.le_of_ble_eq_true rfl), (Nat.le_of_ble_eq_true rfl)⟩ (Nat.le_of_ble_eq_true rfl) ⟨(Nat.le_of_ble_eq_true rfl), (Nat.le_of_ble_eq_true rfl)⟩ (fun r74 n74 h74 e74 => ?_)
    obtain ⟨rfl, rfl, rfl⟩ := e74
    refine gi_lsub (q := 78) C (dm_Re_turn 40 rfl) rfl ?_
    refine gi_lload (q := 80) C (dm_Re_turn 41 rfl) rfl rfl ?_
    refine gi_callv 3 (q := 83) C (dm_Re_turn 42 rfl) rfl my_Va_beSpan lk_Re_74 im_Va_beSpan rfl (c_Va_beSpan ao v _ _ _ ha) ha rfl rfl ⟨(Nat.le_of_ble_eq_true rfl), (Nat.le_of_ble_eq_true rfl)⟩ (Nat.le_of_ble_eq_true rfl) ⟨(Nat.le_of_ble_eq_true rfl), (Nat.le_of_ble_eq_true rfl)⟩ (fun r80 n80 h80 e80 => ?_)
    obtain ⟨rfl, rfl, rfl⟩ := e80
    refine gi_vret C hr (dm_Re_turn 43 rfl) ?_
    (try simp (disch := omega) only [lg_cmp_ge, lg_cmp_le, lg_cmp_gt, lg_cmp_lt, lg_cmp_eq, eL_0, eL_1, eL_m1, eL_LO, eL_HI, eL_W, eL_add, eL_sub, eL_mul, eL_neg, eL_lt, eL_le, eL_eq, eL_remN, eL_mod0, ne_eq, Int64.not_lt, Int64.not_le] at c19)
    refine ⟨rfl, rfl, ?_⟩
    unfold turnS
    first
      | (rw [if_pos (by omega), show x - (x + 2147483648) / 4294967296 * 4294967296 + (y - x) = y - (x + 2147483648) / 4294967296 * 4294967296 by omega, mSpan_mk (by omega) (by omega) (by omega) (by omega)]; done)
      | (rw [if_neg (by omega), eL_add, eL_sub, mSpan_mk (by omega) (by omega) (by omega) (by omega)]; done)
  · refine gi_aload (q := 24) C (dm_Re_turn 14 rfl) rfl rfl ?_
    refine gi_lload (q := 26) C (dm_Re_turn 15 rfl) rfl rfl ?_
    refine gi_lload (q := 28) C (dm_Re_turn 16 rfl) rfl rfl ?_
    refine gi_lload (q := 30) C (dm_Re_turn 17 rfl) rfl rfl ?_
    refine gi_callv 3 (q := 33) C (dm_Re_turn 18 rfl) rfl my_Va_beSpan lk_Re_74 im_Va_beSpan rfl (c_Va_beSpan ao v _ _ _ ha) ha rfl rfl ⟨(Nat.le_of_ble_eq_true rfl), (Nat.le_of_ble_eq_true rfl)⟩ (Nat.le_of_ble_eq_true rfl) ⟨(Nat.le_of_ble_eq_true rfl), (Nat.le_of_ble_eq_true rfl)⟩ (fun r30 n30 h30 e30 => ?_)
    obtain ⟨rfl, rfl, rfl⟩ := e30
    refine gi_vret C hr (dm_Re_turn 19 rfl) ?_
    (try simp (disch := omega) only [lg_cmp_ge, lg_cmp_le, lg_cmp_gt, lg_cmp_lt, lg_cmp_eq, eL_0, eL_1, eL_m1, eL_LO, eL_HI, eL_W, eL_add, eL_sub, eL_mul, eL_neg, eL_lt, eL_le, eL_eq, eL_remN, eL_mod0, ne_eq, Int64.not_lt, Int64.not_le] at c19)
    refine ⟨rfl, rfl, ?_⟩
    unfold turnS
    first
      | (rw [if_pos (by omega), show x - (x + 2147483648) / 4294967296 * 4294967296 + (y - x) = y - (x + 2147483648) / 4294967296 * 4294967296 by omega, mSpan_mk (by omega) (by omega) (by omega) (by omega)]; done)
      | (rw [if_neg (by omega), eL_add, eL_sub, mSpan_mk (by omega) (by omega) (by omega) (by omega)]; done)
end RE1
