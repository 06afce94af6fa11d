-- needs: 58 59
section RE3
variable {l : Launch} {V : gi_V} {n : Nat} {h : gi_H}
theorem sgT {a b : Int} (h1 : -9223372036854775808 ≤ a) (h2 : a < 9223372036854775808) (h3 : -9223372036854775808 ≤ b) (h4 : b < 9223372036854775808) (q : ¬ bI (decide (eL a = eL b)) = 0) : a = b := Classical.byContradiction (fun z => q ((sg_iff h1 h2 h3 h4).mpr z))
theorem sgF {a b : Int} (h1 : -9223372036854775808 ≤ a) (h2 : a < 9223372036854775808) (h3 : -9223372036854775808 ≤ b) (h4 : b < 9223372036854775808) (q : bI (decide (eL a = eL b)) = 0) : ¬ a = b := (sg_iff h1 h2 h3 h4).mp q
theorem kz (y : Int) : nI (y % 32).toNat = 0 ↔ y % 32 = 0 := by
  constructor
  · intro e
    have := congrArg Int32.toInt e
    rw [nI_toInt (by omega), Int32.toInt_zero] at this
    omega
  · intro e
    rw [e]
    rfl
theorem no_iff {a b : Int} (h1 : -9223372036854775808 ≤ a) (h2 : a < 9223372036854775808) (h3 : -9223372036854775808 ≤ b) (h4 : b < 9223372036854775808) {s : Int64} : (bI (if (0 : Int32) = 0 then decide (eL b < eL a) else decide ((0 : Int32) = 0) && decide ((0 : Int32) = 0)) = 0) ↔ ¬ b < a := by
  have e := eL_lt h3 h4 h1 h2
  by_cases q : b < a
  · simp [bI, q, e]
  · have : ¬ eL b < eL a := fun z => q (e.mp z)
    simp [bI, this, q]
set_option maxHeartbeats 4000000 in
set_option maxRecDepth 100000 in
theorem c_Re_shiftBare (r ax ay ao : Nat) (x y : Sp) (ob : List Value) (v : mV) (hx : okS x) (hy : okS y) (hr0 : h r = some (gi_O 7 ob)) (ha : h ax = some (eV (sV x))) (hb : h ay = some (eV (sV y))) (hc : h ao = some (eV v)) (hxo : ao ≠ ax) : gi_T l V y_Re_shiftBare b_Re_shiftBare 5 none 2 50 0 0 [.ref r, .ref ax, .ref ay, .ref ao] n h (gi_is none n (gi_up h ao (eV (sV (ushS x y))))) := by
  refine gi_enter (by decide) (Nat.le_of_ble_eq_true rfl) ?_
  intro _ _ _ _ _ _ _ _ C hr hnm
  obtain ⟨o1, o2, o3, o4, o5, o6⟩ := id hx
  have o7 := hx.st
  obtain ⟨w1, w2, w3, w4, w5, w6⟩ := id hy
  have w7 := hy.st
  have kb : (y.1 % 32).toNat ≤ 31 := by omega
  refine gi_aload_n (q := 1) (i := 2) C (dm_Re_shiftBare 0 rfl) rfl rfl rfl ?_
  refine gi_get (q := 4) C (dm_Re_shiftBare 1 rfl) rfl fl_Re_21 (by repeat (first | exact gi_up_self _ _ _ | assumption | rw [gi_up_ne (by omega)])) rfl ?_
  refine gi_ldc2 (q := 7) C (dm_Re_shiftBare 2 rfl) rfl kc_Re_61 ?_
  refine gi_land (q := 8) C (dm_Re_shiftBare 3 rfl) rfl ?_
  refine gi_l2i (q := 9) C (dm_Re_shiftBare 4 rfl) rfl ?_
  rw [sp_low5]
  refine gi_istore (q := 11) C (dm_Re_shiftBare 5 rfl) rfl (Nat.le_of_ble_eq_true rfl) ?_
  refine gi_aload_n (q := 12) (i := 2) C (dm_Re_shiftBare 6 rfl) rfl rfl rfl ?_
  refine gi_callv 0 (q := 15) C (dm_Re_shiftBare 7 rfl) rfl my_Va_isSingle lk_Re_39 im_Va_isSingle rfl (c_Va_isSingle ay _ hb) hb rfl rfl ⟨(Nat.le_of_ble_eq_true rfl), (Nat.le_of_ble_eq_true rfl)⟩ (Nat.le_of_ble_eq_true rfl) ⟨(Nat.le_of_ble_eq_true rfl), (Nat.le_of_ble_eq_true rfl)⟩ (fun r12 n12 h12 e12 => ?_)
  obtain ⟨rfl, rfl, rfl⟩ := e12
  refine gi_if_eq (q := 18) (tgt := 31) C (dm_Re_shiftBare 8 rfl) rfl (by decide) (fun c15 => ?_) (fun c15 => ?_)
  · have nk : ¬ (y.1 = y.2.1 ∧ y.1 % 32 = 0) := by
      first
        | exact fun q => sgF (by omega) (by omega) (by omega) (by omega) c15 q.1
        | exact fun q => c20 ((kz y.1).mpr q.2)
    refine gi_aload_n (q := 32) (i := 1) C (dm_Re_shiftBare 15 rfl) rfl rfl rfl ?_
    refine gi_get (q := 35) C (dm_Re_shiftBare 16 rfl) rfl fl_Re_21 (by repeat (first | exact gi_up_self _ _ _ | assumption | rw [gi_up_ne (by omega)])) rfl ?_
    refine gi_lconst (q := 36) (v := 0) C (dm_Re_shiftBare 17 rfl) rfl (by decide) ?_
    refine gi_lcmp (q := 37) C (dm_Re_shiftBare 18 rfl) rfl ?_
    refine gi_if_lt (q := 40) (tgt := 50) C (dm_Re_shiftBare 19 rfl) rfl (by decide) (fun c37 => ?_) (fun c37 => ?_)
    · refine gi_aload_n (q := 51) (i := 2) C (dm_Re_shiftBare 26 rfl) rfl rfl rfl ?_
      refine gi_callv 0 (q := 54) C (dm_Re_shiftBare 27 rfl) rfl my_Va_isSingle lk_Re_39 im_Va_isSingle rfl (c_Va_isSingle ay _ hb) hb rfl rfl ⟨(Nat.le_of_ble_eq_true rfl), (Nat.le_of_ble_eq_true rfl)⟩ (Nat.le_of_ble_eq_true rfl) ⟨(Nat.le_of_ble_eq_true rfl), (Nat.le_of_ble_eq_true rfl)⟩ (fun r51 n51 h51 e51 => ?_)
      obtain ⟨rfl, rfl, rfl⟩ := e51
      refine gi_if_ne (q := 57) (tgt := 64) C (dm_Re_shiftBare 28 rfl) rfl (by decide) (fun c54 => ?_) (fun c54 => ?_)
      · have sg : y.1 = y.2.1 := sgT (by omega) (by omega) (by omega) (by omega) c54
        have d1 := div_b (a := x.1 + 4294967296) (c := (y.1 % 32).toNat) (by omega) (by omega)
        have d2 := div_b (a := x.2.1 + 4294967296) (c := (y.1 % 32).toNat) (by omega) (by omega)
        have p1 : (1 : Int) ≤ 2 ^ (32 - (y.1 % 32).toNat) := Int.pow_pos (by decide)
        have p2 : (2 : Int) ^ (32 - (y.1 % 32).toNat) ≤ 2 ^ 32 := pow2_le (by omega)
        have p3 : (2 : Int) ^ 32 = 4294967296 := by decide
        refine gi_aload_n (q := 65) (i := 1) C (dm_Re_shiftBare 32 rfl) rfl rfl rfl ?_
        refine gi_get (q := 68) C (dm_Re_shiftBare 33 rfl) rfl fl_Re_25 (by repeat (first | exact gi_up_self _ _ _ | assumption | rw [gi_up_ne (by omega)])) rfl ?_
        refine gi_lconst (q := 69) (v := 0) C (dm_Re_shiftBare 34 rfl) rfl (by decide) ?_
        refine gi_lcmp (q := 70) C (dm_Re_shiftBare 35 rfl) rfl ?_
        refine gi_if_ge (q := 73) (tgt := 103) C (dm_Re_shiftBare 36 rfl) rfl (by decide) (fun c70 => ?_) (fun c70 => ?_)
        · refine gi_aload_n (q := 104) (i := 3) C (dm_Re_shiftBare 53 rfl) rfl rfl rfl ?_
          refine gi_lconst (q := 105) (v := 0) C (dm_Re_shiftBare 54 rfl) rfl (by decide) ?_
          refine gi_lconst (q := 106) (v := 1) C (dm_Re_shiftBare 55 rfl) rfl (by decide) ?_
          refine gi_bipush (q := 108) (v := 32) C (dm_Re_shiftBare 56 rfl) rfl (by decide) ?_
          refine gi_iload (q := 110) C (dm_Re_shiftBare 57 rfl) rfl rfl ?_
          refine gi_isub (q := 111) C (dm_Re_shiftBare 58 rfl) rfl ?_
          rw [show (32 : Int32) - nI (y.1 % 32).toNat = nI (32 - (y.1 % 32).toNat) from pk_sub (a := 32) (by omega)]
          refine gi_lshl (q := 112) C (dm_Re_shiftBare 59 rfl) rfl ?_
          rw [sp_shl1 _ (by omega)]
          refine gi_lconst (q := 113) (v := 1) C (dm_Re_shiftBare 60 rfl) rfl (by decide) ?_
          refine gi_lsub (q := 114) C (dm_Re_shiftBare 61 rfl) rfl ?_
          refine gi_lconst (q := 115) (v := 1) C (dm_Re_shiftBare 62 rfl) rfl (by decide) ?_
          rw [eL_1, eL_sub, eL_0]
          refine gi_callv 3 (q := 118) C (dm_Re_shiftBare 63 rfl) rfl my_Va_beSpan lk_Re_74 im_Va_beSpan rfl (c_Va_beSpan ao v _ _ _ hc) hc rfl rfl ⟨(Nat.le_of_ble_eq_true rfl), (Nat.le_of_ble_eq_true rfl)⟩ (Nat.le_of_ble_eq_true rfl) ⟨(Nat.le_of_ble_eq_true rfl), (Nat.le_of_ble_eq_true rfl)⟩ (fun r115 n115 h115 e115 => ?_)
          obtain ⟨rfl, rfl, rfl⟩ := e115
          refine gi_vret C hr (dm_Re_shiftBare 64 rfl) ?_
          (try simp (disch := omega) only [lg_cmp_ge, lg_cmp_le, lg_cmp_gt, lg_cmp_lt, lg_cmp_eq, eL_0, eL_1, eL_m1, eL_LO, eL_HI, eL_W, eL_add, eL_sub, eL_mul, eL_neg, eL_lt, eL_le, eL_eq, eL_remN, eL_mod0, ne_eq, Int64.not_lt, Int64.not_le] at c15)
          (try simp (disch := omega) only [lg_cmp_ge, lg_cmp_le, lg_cmp_gt, lg_cmp_lt, lg_cmp_eq, eL_0, eL_1, eL_m1, eL_LO, eL_HI, eL_W, eL_add, eL_sub, eL_mul, eL_neg, eL_lt, eL_le, eL_eq, eL_remN, eL_mod0, ne_eq, Int64.not_lt, Int64.not_le] at c37)
          (try simp (disch := omega) only [lg_cmp_ge, lg_cmp_le, lg_cmp_gt, lg_cmp_lt, lg_cmp_eq, eL_0, eL_1, eL_m1, eL_LO, eL_HI, eL_W, eL_add, eL_sub, eL_mul, eL_neg, eL_lt, eL_le, eL_eq, eL_remN, eL_mod0, ne_eq, Int64.not_lt, Int64.not_le] at c54)
          (try simp (disch := omega) only [lg_cmp_ge, lg_cmp_le, lg_cmp_gt, lg_cmp_lt, lg_cmp_eq, eL_0, eL_1, eL_m1, eL_LO, eL_HI, eL_W, eL_add, eL_sub, eL_mul, eL_neg, eL_lt, eL_le, eL_eq, eL_remN, eL_mod0, ne_eq, Int64.not_lt, Int64.not_le] at c70)
          refine ⟨rfl, rfl, ?_⟩
          unfold ushS
          first
            | (rw [if_pos ⟨sg, k0⟩]; done)
            | (rw [if_neg nk, if_pos (by omega)]; done)
            | (rw [if_neg nk, if_neg (by omega), if_pos sg]; done)
            | (rw [if_neg nk, if_neg (by omega), if_neg (fun q => q sg), if_pos (by omega), mSpan_mk (by omega) (by omega) (by omega) (by omega)]; done)
            | (rw [if_neg nk, if_neg (by omega), if_neg (fun q => q sg), if_neg (by omega), mSpan_mk (by omega) (by omega) (by omega) (by omega)]; done)
        · refine gi_aload_n (q := 74) (i := 3) C (dm_Re_shiftBare 37 rfl) rfl rfl rfl ?_
          refine gi_aload_n (q := 75) (i := 1) C (dm_Re_shiftBare 38 rfl) rfl rfl rfl ?_
          refine gi_get (q := 78) C (dm_Re_shiftBare 39 rfl) rfl fl_Re_21 (by repeat (first | exact gi_up_self _ _ _ | assumption | rw [gi_up_ne (by omega)])) rfl ?_
          refine gi_ldc2 (q := 81) C (dm_Re_shiftBare 40 rfl) rfl kc_Re_78 ?_
          refine gi_ladd (q := 82) C (dm_Re_shiftBare 41 rfl) rfl ?_
          refine gi_iload (q := 84) C (dm_Re_shiftBare 42 rfl) rfl rfl ?_
          refine gi_lshr (q := 85) C (dm_Re_shiftBare 43 rfl) rfl ?_
          rw [eL_W, eL_add, sp_shr _ (by omega) (by omega) (by omega)]
          refine gi_aload_n (q := 86) (i := 1) C (dm_Re_shiftBare 44 rfl) rfl rfl rfl ?_
          refine gi_get (q := 89) C (dm_Re_shiftBare 45 rfl) rfl fl_Re_25 (by repeat (first | exact gi_up_self _ _ _ | assumption | rw [gi_up_ne (by omega)])) rfl ?_
          refine gi_ldc2 (q := 92) C (dm_Re_shiftBare 46 rfl) rfl kc_Re_78 ?_
          refine gi_ladd (q := 93) C (dm_Re_shiftBare 47 rfl) rfl ?_
          refine gi_iload (q := 95) C (dm_Re_shiftBare 48 rfl) rfl rfl ?_
          refine gi_lshr (q := 96) C (dm_Re_shiftBare 49 rfl) rfl ?_
          rw [eL_W, eL_add, sp_shr _ (by omega) (by omega) (by omega)]
          refine gi_lconst (q := 97) (v := 1) C (dm_Re_shiftBare 50 rfl) rfl (by decide) ?_
          rw [eL_1]
          refine gi_callv 3 (q := 100) C (dm_Re_shiftBare 51 rfl) rfl my_Va_beSpan lk_Re_74 im_Va_beSpan rfl (c_Va_beSpan ao v _ _ _ hc) hc rfl rfl ⟨(Nat.le_of_ble_eq_true rfl), (Nat.le_of_ble_eq_true rfl)⟩ (Nat.le_of_ble_eq_true rfl) ⟨(Nat.le_of_ble_eq_true rfl), (Nat.le_of_ble_eq_true rfl)⟩ (fun r97 n97 h97 e97 => ?_)
          obtain ⟨rfl, rfl, rfl⟩ := e97
          refine gi_goto (tgt := 118) C (dm_Re_shiftBare 52 rfl) (by decide) ?_
          refine gi_vret C hr (dm_Re_shiftBare 64 rfl) ?_
          (try simp (disch := omega) only [lg_cmp_ge, lg_cmp_le, lg_cmp_gt, lg_cmp_lt, lg_cmp_eq, eL_0, eL_1, eL_m1, eL_LO, eL_HI, eL_W, eL_add, eL_sub, eL_mul, eL_neg, eL_lt, eL_le, eL_eq, eL_remN, eL_mod0, ne_eq, Int64.not_lt, Int64.not_le] at c15)
          (try simp (disch := omega) only [lg_cmp_ge, lg_cmp_le, lg_cmp_gt, lg_cmp_lt, lg_cmp_eq, eL_0, eL_1, eL_m1, eL_LO, eL_HI, eL_W, eL_add, eL_sub, eL_mul, eL_neg, eL_lt, eL_le, eL_eq, eL_remN, eL_mod0, ne_eq, Int64.not_lt, Int64.not_le] at c37)
          (try simp (disch := omega) only [lg_cmp_ge, lg_cmp_le, lg_cmp_gt, lg_cmp_lt, lg_cmp_eq, eL_0, eL_1, eL_m1, eL_LO, eL_HI, eL_W, eL_add, eL_sub, eL_mul, eL_neg, eL_lt, eL_le, eL_eq, eL_remN, eL_mod0, ne_eq, Int64.not_lt, Int64.not_le] at c54)
          (try simp (disch := omega) only [lg_cmp_ge, lg_cmp_le, lg_cmp_gt, lg_cmp_lt, lg_cmp_eq, eL_0, eL_1, eL_m1, eL_LO, eL_HI, eL_W, eL_add, eL_sub, eL_mul, eL_neg, eL_lt, eL_le, eL_eq, eL_remN, eL_mod0, ne_eq, Int64.not_lt, Int64.not_le] at c70)
          refine ⟨rfl, rfl, ?_⟩
          unfold ushS
          first
            | (rw [if_pos ⟨sg, k0⟩]; done)
            | (rw [if_neg nk, if_pos (by omega)]; done)
            | (rw [if_neg nk, if_neg (by omega), if_pos sg]; done)
            | (rw [if_neg nk, if_neg (by omega), if_neg (fun q => q sg), if_pos (by omega), mSpan_mk (by omega) (by omega) (by omega) (by omega)]; done)
            | (rw [if_neg nk, if_neg (by omega), if_neg (fun q => q sg), if_neg (by omega), mSpan_mk (by omega) (by omega) (by omega) (by omega)]; done)
      · have sg : ¬ y.1 = y.2.1 := sgF (by omega) (by omega) (by omega) (by omega) c54
        refine gi_aload_n (q := 58) (i := 3) C (dm_Re_shiftBare 29 rfl) rfl rfl rfl ?_
        refine gi_callv 0 (q := 61) C (dm_Re_shiftBare 30 rfl) rfl my_Va_beAll lk_Re_63 im_Va_beAll rfl (c_Va_beAll ao v hc) hc rfl rfl ⟨(Nat.le_of_ble_eq_true rfl), (Nat.le_of_ble_eq_true rfl)⟩ (Nat.le_of_ble_eq_true rfl) ⟨(Nat.le_of_ble_eq_true rfl), (Nat.le_of_ble_eq_true rfl)⟩ (fun r58 n58 h58 e58 => ?_)
        obtain ⟨rfl, rfl, rfl⟩ := e58
        refine gi_goto (tgt := 118) C (dm_Re_shiftBare 31 rfl) (by decide) ?_
        refine gi_vret C hr (dm_Re_shiftBare 64 rfl) ?_
        (try simp (disch := omega) only [lg_cmp_ge, lg_cmp_le, lg_cmp_gt, lg_cmp_lt, lg_cmp_eq, eL_0, eL_1, eL_m1, eL_LO, eL_HI, eL_W, eL_add, eL_sub, eL_mul, eL_neg, eL_lt, eL_le, eL_eq, eL_remN, eL_mod0, ne_eq, Int64.not_lt, Int64.not_le] at c15)
        (try simp (disch := omega) only [lg_cmp_ge, lg_cmp_le, lg_cmp_gt, lg_cmp_lt, lg_cmp_eq, eL_0, eL_1, eL_m1, eL_LO, eL_HI, eL_W, eL_add, eL_sub, eL_mul, eL_neg, eL_lt, eL_le, eL_eq, eL_remN, eL_mod0, ne_eq, Int64.not_lt, Int64.not_le] at c37)
        (try simp (disch := omega) only [lg_cmp_ge, lg_cmp_le, lg_cmp_gt, lg_cmp_lt, lg_cmp_eq, eL_0, eL_1, eL_m1, eL_LO, eL_HI, eL_W, eL_add, eL_sub, eL_mul, eL_neg, eL_lt, eL_le, eL_eq, eL_remN, eL_mod0, ne_eq, Int64.not_lt, Int64.not_le] at c54)
        refine ⟨rfl, rfl, ?_⟩
        unfold ushS
        first
          | (rw [if_pos ⟨sg, k0⟩]; done)
          | (rw [if_neg nk, if_pos (by omega)]; done)
          | (rw [if_neg nk, if_neg (by omega), if_pos sg]; done)
          | (rw [if_neg nk, if_neg (by omega), if_neg (fun q => q sg), if_pos (by omega), mSpan_mk (by omega) (by omega) (by omega) (by omega)]; done)
          | (rw [if_neg nk, if_neg (by omega), if_neg (fun q => q sg), if_neg (by omega), mSpan_mk (by omega) (by omega) (by omega) (by omega)]; done)
    · refine gi_aload_n (q := 41) (i := 0) C (dm_Re_shiftBare 20 rfl) rfl rfl rfl ?_
      refine gi_aload_n (q := 42) (i := 1) C (dm_Re_shiftBare 21 rfl) rfl rfl rfl ?_
      refine gi_aload_n (q := 43) (i := 2) C (dm_Re_shiftBare 22 rfl) rfl rfl rfl ?_
      refine gi_aload_n (q := 44) (i := 3) C (dm_Re_shiftBare 23 rfl) rfl rfl rfl ?_
      refine gi_callv 3 (q := 47) C (dm_Re_shiftBare 24 rfl) rfl my_Re_shiftRight lk_Re_66 im_Re_shiftRight rfl (c_Re_shiftRight r ax ay ao x y ob v hx hy hr0 ha hb hc) hr0 rfl rfl ⟨(Nat.le_of_ble_eq_true rfl), (Nat.le_of_ble_eq_true rfl)⟩ (Nat.le_of_ble_eq_true rfl) ⟨(Nat.le_of_ble_eq_true rfl), (Nat.le_of_ble_eq_true rfl)⟩ (fun r44 n44 h44 e44 => ?_)
      obtain ⟨rfl, rfl, rfl⟩ := e44
      refine gi_goto (tgt := 118) C (dm_Re_shiftBare 25 rfl) (by decide) ?_
      refine gi_vret C hr (dm_Re_shiftBare 64 rfl) ?_
      (try simp (disch := omega) only [lg_cmp_ge, lg_cmp_le, lg_cmp_gt, lg_cmp_lt, lg_cmp_eq, eL_0, eL_1, eL_m1, eL_LO, eL_HI, eL_W, eL_add, eL_sub, eL_mul, eL_neg, eL_lt, eL_le, eL_eq, eL_remN, eL_mod0, ne_eq, Int64.not_lt, Int64.not_le] at c15)
      (try simp (disch := omega) only [lg_cmp_ge, lg_cmp_le, lg_cmp_gt, lg_cmp_lt, lg_cmp_eq, eL_0, eL_1, eL_m1, eL_LO, eL_HI, eL_W, eL_add, eL_sub, eL_mul, eL_neg, eL_lt, eL_le, eL_eq, eL_remN, eL_mod0, ne_eq, Int64.not_lt, Int64.not_le] at c37)
      refine ⟨rfl, rfl, ?_⟩
      unfold ushS
      first
        | (rw [if_pos ⟨sg, k0⟩]; done)
        | (rw [if_neg nk, if_pos (by omega)]; done)
        | (rw [if_neg nk, if_neg (by omega), if_pos sg]; done)
        | (rw [if_neg nk, if_neg (by omega), if_neg (fun q => q sg), if_pos (by omega), mSpan_mk (by omega) (by omega) (by omega) (by omega)]; done)
        | (rw [if_neg nk, if_neg (by omega), if_neg (fun q => q sg), if_neg (by omega), mSpan_mk (by omega) (by omega) (by omega) (by omega)]; done)
  · refine gi_iload (q := 20) C (dm_Re_shiftBare 9 rfl) rfl rfl ?_
    refine gi_if_ne (q := 23) (tgt := 31) C (dm_Re_shiftBare 10 rfl) rfl (by decide) (fun c20 => ?_) (fun c20 => ?_)
    · have nk : ¬ (y.1 = y.2.1 ∧ y.1 % 32 = 0) := by
        first
          | exact fun q => sgF (by omega) (by omega) (by omega) (by omega) c15 q.1
          | exact fun q => c20 ((kz y.1).mpr q.2)
      refine gi_aload_n (q := 32) (i := 1) C (dm_Re_shiftBare 15 rfl) rfl rfl rfl ?_
      refine gi_get (q := 35) C (dm_Re_shiftBare 16 rfl) rfl fl_Re_21 (by repeat (first | exact gi_up_self _ _ _ | assumption | rw [gi_up_ne (by omega)])) rfl ?_
      refine gi_lconst (q := 36) (v := 0) C (dm_Re_shiftBare 17 rfl) rfl (by decide) ?_
      refine gi_lcmp (q := 37) C (dm_Re_shiftBare 18 rfl) rfl ?_
      refine gi_if_lt (q := 40) (tgt := 50) C (dm_Re_shiftBare 19 rfl) rfl (by decide) (fun c37 => ?_) (fun c37 => ?_)
      · refine gi_aload_n (q := 51) (i := 2) C (dm_Re_shiftBare 26 rfl) rfl rfl rfl ?_
        refine gi_callv 0 (q := 54) C (dm_Re_shiftBare 27 rfl) rfl my_Va_isSingle lk_Re_39 im_Va_isSingle rfl (c_Va_isSingle ay _ hb) hb rfl rfl ⟨(Nat.le_of_ble_eq_true rfl), (Nat.le_of_ble_eq_true rfl)⟩ (Nat.le_of_ble_eq_true rfl) ⟨(Nat.le_of_ble_eq_true rfl), (Nat.le_of_ble_eq_true rfl)⟩ (fun r51 n51 h51 e51 => ?_)
        obtain ⟨rfl, rfl, rfl⟩ := e51
        refine gi_if_ne (q := 57) (tgt := 64) C (dm_Re_shiftBare 28 rfl) rfl (by decide) (fun c54 => ?_) (fun c54 => ?_)
        · have sg : y.1 = y.2.1 := sgT (by omega) (by omega) (by omega) (by omega) c54
          have d1 := div_b (a := x.1 + 4294967296) (c := (y.1 % 32).toNat) (by omega) (by omega)
          have d2 := div_b (a := x.2.1 + 4294967296) (c := (y.1 % 32).toNat) (by omega) (by omega)
          have p1 : (1 : Int) ≤ 2 ^ (32 - (y.1 % 32).toNat) := Int.pow_pos (by decide)
          have p2 : (2 : Int) ^ (32 - (y.1 % 32).toNat) ≤ 2 ^ 32 := pow2_le (by omega)
          have p3 : (2 : Int) ^ 32 = 4294967296 := by decide
          refine gi_aload_n (q := 65) (i := 1) C (dm_Re_shiftBare 32 rfl) rfl rfl rfl ?_
          refine gi_get (q := 68) C (dm_Re_shiftBare 33 rfl) rfl fl_Re_25 (by repeat (first | exact gi_up_self _ _ _ | assumption | rw [gi_up_ne (by omega)])) rfl ?_
          refine gi_lconst (q := 69) (v := 0) C (dm_Re_shiftBare 34 rfl) rfl (by decide) ?_
          refine gi_lcmp (q := 70) C (dm_Re_shiftBare 35 rfl) rfl ?_
          refine gi_if_ge (q := 73) (tgt := 103) C (dm_Re_shiftBare 36 rfl) rfl (by decide) (fun c70 => ?_) (fun c70 => ?_)
          · refine gi_aload_n (q := 104) (i := 3) C (dm_Re_shiftBare 53 rfl) rfl rfl rfl ?_
            refine gi_lconst (q := 105) (v := 0) C (dm_Re_shiftBare 54 rfl) rfl (by decide) ?_
            refine gi_lconst (q := 106) (v := 1) C (dm_Re_shiftBare 55 rfl) rfl (by decide) ?_
            refine gi_bipush (q := 108) (v := 32) C (dm_Re_shiftBare 56 rfl) rfl (by decide) ?_
            refine gi_iload (q := 110) C (dm_Re_shiftBare 57 rfl) rfl rfl ?_
            refine gi_isub (q := 111) C (dm_Re_shiftBare 58 rfl) rfl ?_
            rw [show (32 : Int32) - nI (y.1 % 32).toNat = nI (32 - (y.1 % 32).toNat) from pk_sub (a := 32) (by omega)]
            refine gi_lshl (q := 112) C (dm_Re_shiftBare 59 rfl) rfl ?_
            rw [sp_shl1 _ (by omega)]
            refine gi_lconst (q := 113) (v := 1) C (dm_Re_shiftBare 60 rfl) rfl (by decide) ?_
            refine gi_lsub (q := 114) C (dm_Re_shiftBare 61 rfl) rfl ?_
            refine gi_lconst (q := 115) (v := 1) C (dm_Re_shiftBare 62 rfl) rfl (by decide) ?_
            rw [eL_1, eL_sub, eL_0]
            refine gi_callv 3 (q := 118) C (dm_Re_shiftBare 63 rfl) rfl my_Va_beSpan lk_Re_74 im_Va_beSpan rfl (c_Va_beSpan ao v _ _ _ hc) hc rfl rfl ⟨(Nat.le_of_ble_eq_true rfl), (Nat.le_of_ble_eq_true rfl)⟩ (Nat.le_of_ble_eq_true rfl) ⟨(Nat.le_of_ble_eq_true rfl), (Nat.le_of_ble_eq_true rfl)⟩ (fun r115 n115 h115 e115 => ?_)
            obtain ⟨rfl, rfl, rfl⟩ := e115
            refine gi_vret C hr (dm_Re_shiftBare 64 rfl) ?_
            (try simp (disch := omega) only [lg_cmp_ge, lg_cmp_le, lg_cmp_gt, lg_cmp_lt, lg_cmp_eq, eL_0, eL_1, eL_m1, eL_LO, eL_HI, eL_W, eL_add, eL_sub, eL_mul, eL_neg, eL_lt, eL_le, eL_eq, eL_remN, eL_mod0, ne_eq, Int64.not_lt, Int64.not_le] at c15)
            (try simp (disch := omega) only [lg_cmp_ge, lg_cmp_le, lg_cmp_gt, lg_cmp_lt, lg_cmp_eq, eL_0, eL_1, eL_m1, eL_LO, eL_HI, eL_W, eL_add, eL_sub, eL_mul, eL_neg, eL_lt, eL_le, eL_eq, eL_remN, eL_mod0, ne_eq, Int64.not_lt, Int64.not_le] at c20)
            (try simp (disch := omega) only [lg_cmp_ge, lg_cmp_le, lg_cmp_gt, lg_cmp_lt, lg_cmp_eq, eL_0, eL_1, eL_m1, eL_LO, eL_HI, eL_W, eL_add, eL_sub, eL_mul, eL_neg, eL_lt, eL_le, eL_eq, eL_remN, eL_mod0, ne_eq, Int64.not_lt, Int64.not_le] at c37)
            (try simp (disch := omega) only [lg_cmp_ge, lg_cmp_le, lg_cmp_gt, lg_cmp_lt, lg_cmp_eq, eL_0, eL_1, eL_m1, eL_LO, eL_HI, eL_W, eL_add, eL_sub, eL_mul, eL_neg, eL_lt, eL_le, eL_eq, eL_remN, eL_mod0, ne_eq, Int64.not_lt, Int64.not_le] at c54)
            (try simp (disch := omega) only [lg_cmp_ge, lg_cmp_le, lg_cmp_gt, lg_cmp_lt, lg_cmp_eq, eL_0, eL_1, eL_m1, eL_LO, eL_HI, eL_W, eL_add, eL_sub, eL_mul, eL_neg, eL_lt, eL_le, eL_eq, eL_remN, eL_mod0, ne_eq, Int64.not_lt, Int64.not_le] at c70)
            refine ⟨rfl, rfl, ?_⟩
            unfold ushS
            first
              | (rw [if_pos ⟨sg, k0⟩]; done)
              | (rw [if_neg nk, if_pos (by omega)]; done)
              | (rw [if_neg nk, if_neg (by omega), if_pos sg]; done)
              | (rw [if_neg nk, if_neg (by omega), if_neg (fun q => q sg), if_pos (by omega), mSpan_mk (by omega) (by omega) (by omega) (by omega)]; done)
              | (rw [if_neg nk, if_neg (by omega), if_neg (fun q => q sg), if_neg (by omega), mSpan_mk (by omega) (by omega) (by omega) (by omega)]; done)
          · refine gi_aload_n (q := 74) (i := 3) C (dm_Re_shiftBare 37 rfl) rfl rfl rfl ?_
            refine gi_aload_n (q := 75) (i := 1) C (dm_Re_shiftBare 38 rfl) rfl rfl rfl ?_
            refine gi_get (q := 78) C (dm_Re_shiftBare 39 rfl) rfl fl_Re_21 (by repeat (first | exact gi_up_self _ _ _ | assumption | rw [gi_up_ne (by omega)])) rfl ?_
            refine gi_ldc2 (q := 81) C (dm_Re_shiftBare 40 rfl) rfl kc_Re_78 ?_
            refine gi_ladd (q := 82) C (dm_Re_shiftBare 41 rfl) rfl ?_
            refine gi_iload (q := 84) C (dm_Re_shiftBare 42 rfl) rfl rfl ?_
            refine gi_lshr (q := 85) C (dm_Re_shiftBare 43 rfl) rfl ?_
            rw [eL_W, eL_add, sp_shr _ (by omega) (by omega) (by omega)]
            refine gi_aload_n (q := 86) (i := 1) C (dm_Re_shiftBare 44 rfl) rfl rfl rfl ?_
            refine gi_get (q := 89) C (dm_Re_shiftBare 45 rfl) rfl fl_Re_25 (by repeat (first | exact gi_up_self _ _ _ | assumption | rw [gi_up_ne (by omega)])) rfl ?_
            refine gi_ldc2 (q := 92) C (dm_Re_shiftBare 46 rfl) rfl kc_Re_78 ?_
            refine gi_ladd (q := 93) C (dm_Re_shiftBare 47 rfl) rfl ?_
            refine gi_iload (q := 95) C (dm_Re_shiftBare 48 rfl) rfl rfl ?_
            refine gi_lshr (q := 96) C (dm_Re_shiftBare 49 rfl) rfl ?_
            rw [eL_W, eL_add, sp_shr _ (by omega) (by omega) (by omega)]
            refine gi_lconst (q := 97) (v := 1) C (dm_Re_shiftBare 50 rfl) rfl (by decide) ?_
            rw [eL_1]
            refine gi_callv 3 (q := 100) C (dm_Re_shiftBare 51 rfl) rfl my_Va_beSpan lk_Re_74 im_Va_beSpan rfl (c_Va_beSpan ao v _ _ _ hc) hc rfl rfl ⟨(Nat.le_of_ble_eq_true rfl), (Nat.le_of_ble_eq_true rfl)⟩ (Nat.le_of_ble_eq_true rfl) ⟨(Nat.le_of_ble_eq_true rfl), (Nat.le_of_ble_eq_true rfl)⟩ (fun r97 n97 h97 e97 => ?_)
            obtain ⟨rfl, rfl, rfl⟩ := e97
            refine gi_goto (tgt := 118) C (dm_Re_shiftBare 52 rfl) (by decide) ?_
            refine gi_vret C hr (dm_Re_shiftBare 64 rfl) ?_
            (try simp (disch := omega) only [lg_cmp_ge, lg_cmp_le, lg_cmp_gt, lg_cmp_lt, lg_cmp_eq, eL_0, eL_1, eL_m1, eL_LO, eL_HI, eL_W, eL_add, eL_sub, eL_mul, eL_neg, eL_lt, eL_le, eL_eq, eL_remN, eL_mod0, ne_eq, Int64.not_lt, Int64.not_le] at c15)
            (try simp (disch := omega) only [lg_cmp_ge, lg_cmp_le, lg_cmp_gt, lg_cmp_lt, lg_cmp_eq, eL_0, eL_1, eL_m1, eL_LO, eL_HI, eL_W, eL_add, eL_sub, eL_mul, eL_neg, eL_lt, eL_le, eL_eq, eL_remN, eL_mod0, ne_eq, Int64.not_lt, Int64.not_le] at c20)
            (try simp (disch := omega) only [lg_cmp_ge, lg_cmp_le, lg_cmp_gt, lg_cmp_lt, lg_cmp_eq, eL_0, eL_1, eL_m1, eL_LO, eL_HI, eL_W, eL_add, eL_sub, eL_mul, eL_neg, eL_lt, eL_le, eL_eq, eL_remN, eL_mod0, ne_eq, Int64.not_lt, Int64.not_le] at c37)
            (try simp (disch := omega) only [lg_cmp_ge, lg_cmp_le, lg_cmp_gt, lg_cmp_lt, lg_cmp_eq, eL_0, eL_1, eL_m1, eL_LO, eL_HI, eL_W, eL_add, eL_sub, eL_mul, eL_neg, eL_lt, eL_le, eL_eq, eL_remN, eL_mod0, ne_eq, Int64.not_lt, Int64.not_le] at c54)
            (try simp (disch := omega) only [lg_cmp_ge, lg_cmp_le, lg_cmp_gt, lg_cmp_lt, lg_cmp_eq, eL_0, eL_1, eL_m1, eL_LO, eL_HI, eL_W, eL_add, eL_sub, eL_mul, eL_neg, eL_lt, eL_le, eL_eq, eL_remN, eL_mod0, ne_eq, Int64.not_lt, Int64.not_le] at c70)
            refine ⟨rfl, rfl, ?_⟩
            unfold ushS
            first
              | (rw [if_pos ⟨sg, k0⟩]; done)
              | (rw [if_neg nk, if_pos (by omega)]; done)
              | (rw [if_neg nk, if_neg (by omega), if_pos sg]; done)
              | (rw [if_neg nk, if_neg (by omega), if_neg (fun q => q sg), if_pos (by omega), mSpan_mk (by omega) (by omega) (by omega) (by omega)]; done)
              | (rw [if_neg nk, if_neg (by omega), if_neg (fun q => q sg), if_neg (by omega), mSpan_mk (by omega) (by omega) (by omega) (by omega)]; done)
        · have sg : ¬ y.1 = y.2.1 := sgF (by omega) (by omega) (by omega) (by omega) c54
          refine gi_aload_n (q := 58) (i := 3) C (dm_Re_shiftBare 29 rfl) rfl rfl rfl ?_
          refine gi_callv 0 (q := 61) C (dm_Re_shiftBare 30 rfl) rfl my_Va_beAll lk_Re_63 im_Va_beAll rfl (c_Va_beAll ao v hc) hc rfl rfl ⟨(Nat.le_of_ble_eq_true rfl), (Nat.le_of_ble_eq_true rfl)⟩ (Nat.le_of_ble_eq_true rfl) ⟨(Nat.le_of_ble_eq_true rfl), (Nat.le_of_ble_eq_true rfl)⟩ (fun r58 n58 h58 e58 => ?_)
          obtain ⟨rfl, rfl, rfl⟩ := e58
          refine gi_goto (tgt := 118) C (dm_Re_shiftBare 31 rfl) (by decide) ?_
          refine gi_vret C hr (dm_Re_shiftBare 64 rfl) ?_
          (try simp (disch := omega) only [lg_cmp_ge, lg_cmp_le, lg_cmp_gt, lg_cmp_lt, lg_cmp_eq, eL_0, eL_1, eL_m1, eL_LO, eL_HI, eL_W, eL_add, eL_sub, eL_mul, eL_neg, eL_lt, eL_le, eL_eq, eL_remN, eL_mod0, ne_eq, Int64.not_lt, Int64.not_le] at c15)
          (try simp (disch := omega) only [lg_cmp_ge, lg_cmp_le, lg_cmp_gt, lg_cmp_lt, lg_cmp_eq, eL_0, eL_1, eL_m1, eL_LO, eL_HI, eL_W, eL_add, eL_sub, eL_mul, eL_neg, eL_lt, eL_le, eL_eq, eL_remN, eL_mod0, ne_eq, Int64.not_lt, Int64.not_le] at c20)
          (try simp (disch := omega) only [lg_cmp_ge, lg_cmp_le, lg_cmp_gt, lg_cmp_lt, lg_cmp_eq, eL_0, eL_1, eL_m1, eL_LO, eL_HI, eL_W, eL_add, eL_sub, eL_mul, eL_neg, eL_lt, eL_le, eL_eq, eL_remN, eL_mod0, ne_eq, Int64.not_lt, Int64.not_le] at c37)
          (try simp (disch := omega) only [lg_cmp_ge, lg_cmp_le, lg_cmp_gt, lg_cmp_lt, lg_cmp_eq, eL_0, eL_1, eL_m1, eL_LO, eL_HI, eL_W, eL_add, eL_sub, eL_mul, eL_neg, eL_lt, eL_le, eL_eq, eL_remN, eL_mod0, ne_eq, Int64.not_lt, Int64.not_le] at c54)
          refine ⟨rfl, rfl, ?_⟩
          unfold ushS
          first
            | (rw [if_pos ⟨sg, k0⟩]; done)
            | (rw [if_neg nk, if_pos (by omega)]; done)
            | (rw [if_neg nk, if_neg (by omega), if_pos sg]; done)
            | (rw [if_neg nk, if_neg (by omega), if_neg (fun q => q sg), if_pos (by omega), mSpan_mk (by omega) (by omega) (by omega) (by omega)]; done)
            | (rw [if_neg nk, if_neg (by omega), if_neg (fun q => q sg), if_neg (by omega), mSpan_mk (by omega) (by omega) (by omega) (by omega)]; done)
      · refine gi_aload_n (q := 41) (i := 0) C (dm_Re_shiftBare 20 rfl) rfl rfl rfl ?_
        refine gi_aload_n (q := 42) (i := 1) C (dm_Re_shiftBare 21 rfl) rfl rfl rfl ?_
        refine gi_aload_n (q := 43) (i := 2) C (dm_Re_shiftBare 22 rfl) rfl rfl rfl ?_
        refine gi_aload_n (q := 44) (i := 3) C (dm_Re_shiftBare 23 rfl) rfl rfl rfl ?_
        refine gi_callv 3 (q := 47) C (dm_Re_shiftBare 24 rfl) rfl my_Re_shiftRight lk_Re_66 im_Re_shiftRight rfl (c_Re_shiftRight r ax ay ao x y ob v hx hy hr0 ha hb hc) hr0 rfl rfl ⟨(Nat.le_of_ble_eq_true rfl), (Nat.le_of_ble_eq_true rfl)⟩ (Nat.le_of_ble_eq_true rfl) ⟨(Nat.le_of_ble_eq_true rfl), (Nat.le_of_ble_eq_true rfl)⟩ (fun r44 n44 h44 e44 => ?_)
        obtain ⟨rfl, rfl, rfl⟩ := e44
        refine gi_goto (tgt := 118) C (dm_Re_shiftBare 25 rfl) (by decide) ?_
        refine gi_vret C hr (dm_Re_shiftBare 64 rfl) ?_
        (try simp (disch := omega) only [lg_cmp_ge, lg_cmp_le, lg_cmp_gt, lg_cmp_lt, lg_cmp_eq, eL_0, eL_1, eL_m1, eL_LO, eL_HI, eL_W, eL_add, eL_sub, eL_mul, eL_neg, eL_lt, eL_le, eL_eq, eL_remN, eL_mod0, ne_eq, Int64.not_lt, Int64.not_le] at c15)
        (try simp (disch := omega) only [lg_cmp_ge, lg_cmp_le, lg_cmp_gt, lg_cmp_lt, lg_cmp_eq, eL_0, eL_1, eL_m1, eL_LO, eL_HI, eL_W, eL_add, eL_sub, eL_mul, eL_neg, eL_lt, eL_le, eL_eq, eL_remN, eL_mod0, ne_eq, Int64.not_lt, Int64.not_le] at c20)
        (try simp (disch := omega) only [lg_cmp_ge, lg_cmp_le, lg_cmp_gt, lg_cmp_lt, lg_cmp_eq, eL_0, eL_1, eL_m1, eL_LO, eL_HI, eL_W, eL_add, eL_sub, eL_mul, eL_neg, eL_lt, eL_le, eL_eq, eL_remN, eL_mod0, ne_eq, Int64.not_lt, Int64.not_le] at c37)
        refine ⟨rfl, rfl, ?_⟩
        unfold ushS
        first
          | (rw [if_pos ⟨sg, k0⟩]; done)
          | (rw [if_neg nk, if_pos (by omega)]; done)
          | (rw [if_neg nk, if_neg (by omega), if_pos sg]; done)
          | (rw [if_neg nk, if_neg (by omega), if_neg (fun q => q sg), if_pos (by omega), mSpan_mk (by omega) (by omega) (by omega) (by omega)]; done)
          | (rw [if_neg nk, if_neg (by omega), if_neg (fun q => q sg), if_neg (by omega), mSpan_mk (by omega) (by omega) (by omega) (by omega)]; done)
    · have sg : y.1 = y.2.1 := sgT (by omega) (by omega) (by omega) (by omega) c15
      have k0 := (kz y.1).mp c20
      refine gi_aload_n (q := 24) (i := 3) C (dm_Re_shiftBare 11 rfl) rfl rfl rfl ?_
      refine gi_aload_n (q := 25) (i := 1) C (dm_Re_shiftBare 12 rfl) rfl rfl rfl ?_
      refine gi_callv 1 (q := 28) C (dm_Re_shiftBare 13 rfl) rfl my_Va_copy lk_Re_97 im_Va_copy rfl (c_Va_copy ao ax v _ hc ha hxo (wf_s x)) hc rfl rfl ⟨(Nat.le_of_ble_eq_true rfl), (Nat.le_of_ble_eq_true rfl)⟩ (Nat.le_of_ble_eq_true rfl) ⟨(Nat.le_of_ble_eq_true rfl), (Nat.le_of_ble_eq_true rfl)⟩ (fun r25 n25 h25 e25 => ?_)
      obtain ⟨rfl, rfl, rfl⟩ := e25
      refine gi_goto (tgt := 118) C (dm_Re_shiftBare 14 rfl) (by decide) ?_
      refine gi_vret C hr (dm_Re_shiftBare 64 rfl) ?_
      (try simp (disch := omega) only [lg_cmp_ge, lg_cmp_le, lg_cmp_gt, lg_cmp_lt, lg_cmp_eq, eL_0, eL_1, eL_m1, eL_LO, eL_HI, eL_W, eL_add, eL_sub, eL_mul, eL_neg, eL_lt, eL_le, eL_eq, eL_remN, eL_mod0, ne_eq, Int64.not_lt, Int64.not_le] at c15)
      (try simp (disch := omega) only [lg_cmp_ge, lg_cmp_le, lg_cmp_gt, lg_cmp_lt, lg_cmp_eq, eL_0, eL_1, eL_m1, eL_LO, eL_HI, eL_W, eL_add, eL_sub, eL_mul, eL_neg, eL_lt, eL_le, eL_eq, eL_remN, eL_mod0, ne_eq, Int64.not_lt, Int64.not_le] at c20)
      refine ⟨rfl, rfl, ?_⟩
      unfold ushS
      first
        | (rw [if_pos ⟨sg, k0⟩]; done)
        | (rw [if_neg nk, if_pos (by omega)]; done)
        | (rw [if_neg nk, if_neg (by omega), if_pos sg]; done)
        | (rw [if_neg nk, if_neg (by omega), if_neg (fun q => q sg), if_pos (by omega), mSpan_mk (by omega) (by omega) (by omega) (by omega)]; done)
        | (rw [if_neg nk, if_neg (by omega), if_neg (fun q => q sg), if_neg (by omega), mSpan_mk (by omega) (by omega) (by omega) (by omega)]; done)
theorem wS_s (p : Sp) : wS (some p) = p := rfl
theorem wS_n : wS none = (1, 0, 0) := rfl
set_option maxHeartbeats 4000000 in
set_option maxRecDepth 100000 in
theorem c_Re_splitDivisor (r ay : Nat) (y : Sp) (u v : mV) (hy : okS y) (H : re_at r u v h) (h1 : ay ≠ r) (h2 : ay ≠ r + 1) (h3 : ay ≠ r + 2) (hb : h ay = some (eV (sV y))) : gi_T l V y_Re_splitDivisor b_Re_splitDivisor 2 none 1 29 0 0 [.ref r, .ref ay] n h (gi_is none n (gi_up (gi_up h (r + 1) (eV (sV (wS (negS y))))) (r + 2) (eV (sV (wS (posS y)))))) := by
  refine gi_enter (by decide) (Nat.le_of_ble_eq_true rfl) ?_
  intro _ _ _ _ _ _ _ _ C hr hnm
  obtain ⟨H0, H1, H2⟩ := id H
  refine gi_aload_n (q := 1) (i := 0) C (dm_Re_splitDivisor 0 rfl) rfl rfl rfl ?_
  refine gi_get (q := 4) C (dm_Re_splitDivisor 1 rfl) rfl fl_Re_12 (by repeat (first | exact gi_up_self _ _ _ | assumption | rw [gi_up_ne (by omega)])) rfl ?_
  refine gi_aload_n (q := 5) (i := 1) C (dm_Re_splitDivisor 2 rfl) rfl rfl rfl ?_
  refine gi_callv 1 (q := 8) C (dm_Re_splitDivisor 3 rfl) rfl my_Va_copy lk_Re_97 im_Va_copy rfl (c_Va_copy (r + 1) ay u _ H1 hb (by omega) (wf_s y)) H1 rfl rfl ⟨(Nat.le_of_ble_eq_true rfl), (Nat.le_of_ble_eq_true rfl)⟩ (Nat.le_of_ble_eq_true rfl) ⟨(Nat.le_of_ble_eq_true rfl), (Nat.le_of_ble_eq_true rfl)⟩ (fun r5 n5 h5 e5 => ?_)
  obtain ⟨rfl, rfl, rfl⟩ := e5
  refine gi_aload_n (q := 9) (i := 0) C (dm_Re_splitDivisor 4 rfl) rfl rfl rfl ?_
  refine gi_get (q := 12) C (dm_Re_splitDivisor 5 rfl) rfl fl_Re_12 (by repeat (first | exact gi_up_self _ _ _ | assumption | rw [gi_up_ne (by omega)])) rfl ?_
  refine gi_ldc2 (q := 15) C (dm_Re_splitDivisor 6 rfl) rfl kc_Re_85 ?_
  refine gi_ldc2 (q := 18) C (dm_Re_splitDivisor 7 rfl) rfl kc_Re_101 ?_
  rw [eL_LO, eL_m1]
  refine gi_callv 2 (q := 21) C (dm_Re_splitDivisor 8 rfl) rfl my_Va_within lk_Re_103 im_Va_within rfl (c_Va_within (r + 1) y (-2147483648) (-1) hy.b (by decide) (by decide) (by decide) (by decide) (gi_up_self _ _ _)) (gi_up_self _ _ _) rfl rfl ⟨(Nat.le_of_ble_eq_true rfl), (Nat.le_of_ble_eq_true rfl)⟩ (Nat.le_of_ble_eq_true rfl) ⟨(Nat.le_of_ble_eq_true rfl), (Nat.le_of_ble_eq_true rfl)⟩ (fun r18 n18 h18 e18 => ?_)
  obtain ⟨rfl, rfl, rfl⟩ := e18
  rw [gi_up_up]
  refine gi_aload_n (q := 22) (i := 0) C (dm_Re_splitDivisor 9 rfl) rfl rfl rfl ?_
  refine gi_get (q := 25) C (dm_Re_splitDivisor 10 rfl) rfl fl_Re_18 (by repeat (first | exact gi_up_self _ _ _ | assumption | rw [gi_up_ne (by omega)])) rfl ?_
  refine gi_aload_n (q := 26) (i := 1) C (dm_Re_splitDivisor 11 rfl) rfl rfl rfl ?_
  refine gi_callv 1 (q := 29) C (dm_Re_splitDivisor 12 rfl) rfl my_Va_copy lk_Re_97 im_Va_copy rfl (c_Va_copy (r + 2) ay v (sV y) (by repeat (first | exact gi_up_self _ _ _ | assumption | rw [gi_up_ne (by omega)])) (by repeat (first | exact gi_up_self _ _ _ | assumption | rw [gi_up_ne (by omega)])) (by omega) (wf_s y)) (by repeat (first | exact gi_up_self _ _ _ | assumption | rw [gi_up_ne (by omega)])) rfl rfl ⟨(Nat.le_of_ble_eq_true rfl), (Nat.le_of_ble_eq_true rfl)⟩ (Nat.le_of_ble_eq_true rfl) ⟨(Nat.le_of_ble_eq_true rfl), (Nat.le_of_ble_eq_true rfl)⟩ (fun r26 n26 h26 e26 => ?_)
  obtain ⟨rfl, rfl, rfl⟩ := e26
  refine gi_aload_n (q := 30) (i := 0) C (dm_Re_splitDivisor 13 rfl) rfl rfl rfl ?_
  refine gi_get (q := 33) C (dm_Re_splitDivisor 14 rfl) rfl fl_Re_18 (by repeat (first | exact gi_up_self _ _ _ | assumption | rw [gi_up_ne (by omega)])) rfl ?_
  refine gi_lconst (q := 34) (v := 1) C (dm_Re_splitDivisor 15 rfl) rfl (by decide) ?_
  refine gi_ldc2 (q := 37) C (dm_Re_splitDivisor 16 rfl) rfl kc_Re_72 ?_
  rw [eL_1, eL_HI]
  refine gi_callv 2 (q := 40) C (dm_Re_splitDivisor 17 rfl) rfl my_Va_within lk_Re_103 im_Va_within rfl (c_Va_within (r + 2) y 1 2147483647 hy.b (by decide) (by decide) (by decide) (by decide) (gi_up_self _ _ _)) (gi_up_self _ _ _) rfl rfl ⟨(Nat.le_of_ble_eq_true rfl), (Nat.le_of_ble_eq_true rfl)⟩ (Nat.le_of_ble_eq_true rfl) ⟨(Nat.le_of_ble_eq_true rfl), (Nat.le_of_ble_eq_true rfl)⟩ (fun r37 n37 h37 e37 => ?_)
  obtain ⟨rfl, rfl, rfl⟩ := e37
  rw [gi_up_up]
  refine gi_vret C hr (dm_Re_splitDivisor 18 rfl) ?_
  exact ⟨rfl, rfl, rfl⟩
def rea4 (y : Sp) (a b c d : Int) : Sp := reachS (reachS (reachS (reachS y a) b) c) d
theorem reach_mk {l u c : Int} (h : l ≤ u) : reachS (mkS l u 1) c = mkS (min l c) (max u c) 1 := by
  unfold reachS
  rw [mkS_1, mkS_2, if_neg (by omega)]
  unfold mkS
  split <;> rfl
theorem rea4_mk {l u a b c d : Int} (h : l ≤ u) : rea4 (mkS l u 1) a b c d = mkS (min l (min (min a b) (min c d))) (max u (max (max a b) (max c d))) 1 := by
  unfold rea4
  rw [reach_mk h, reach_mk (by omega), reach_mk (by omega), reach_mk (by omega)]
  congr 1 <;> omega
theorem rea4_0 {a b c d : Int} : rea4 (1, 0, 0) a b c d = mkS (min (min a b) (min c d)) (max (max a b) (max c d)) 1 := by
  have e : reachS (1, 0, 0) a = mkS a a 1 := by
    unfold reachS mkS
    rw [if_pos (by decide), if_pos rfl]
  unfold rea4
  rw [e, reach_mk (by omega), reach_mk (by omega), reach_mk (by omega)]
  congr 1 <;> omega
theorem td_b {a b : Int} (h1 : -2147483648 ≤ a) (h2 : a ≤ 2147483647) : -2147483648 ≤ a.tdiv b ∧ a.tdiv b ≤ 2147483648 := by
  have := tdiv_abs a b
  omega
theorem rea_b {y : Sp} {c B : Int} (h1 : -B ≤ y.1) (h2 : y.1 ≤ B) (h3 : -B ≤ y.2.1) (h4 : y.2.1 ≤ B) (h5 : -B ≤ c) (h6 : c ≤ B) : -B ≤ (reachS y c).1 ∧ (reachS y c).1 ≤ B ∧ -B ≤ (reachS y c).2.1 ∧ (reachS y c).2.1 ≤ B := by
  unfold reachS
  split
  · exact ⟨h5, h6, h5, h6⟩
  · simp only
    omega
set_option maxHeartbeats 4000000 in
set_option maxRecDepth 100000 in
theorem c_Re_reachQuotients_S (r ax ap ao : Nat) (x y : Sp) (ob : List Value) (p : Sp) (hx : okS x) (hp : okS p) (h0 : p.2.1 < 0 ∨ 0 < p.1) (y1 : -4294967296 ≤ y.1) (y2 : y.1 ≤ 4294967296) (y3 : -4294967296 ≤ y.2.1) (y4 : y.2.1 ≤ 4294967296) (hxo : ao ≠ ax) (hpo : ao ≠ ap) (hr0 : h r = some (gi_O 7 ob)) (ha : h ax = some (eV (sV x))) (hb : h ap = some (eV (sV p))) (hc : h ao = some (eV (sV y))) : gi_T l V y_Re_reachQuotients b_Re_reachQuotients 4 none 1 23 0 0 [.ref r, .ref ax, .ref ap, .ref ao] n h (gi_is none n (gi_up h ao (eV (sV (rea4 y (x.1.tdiv p.1) (x.1.tdiv p.2.1) (x.2.1.tdiv p.1) (x.2.1.tdiv p.2.1)))))) := by
  refine gi_enter (by decide) (Nat.le_of_ble_eq_true rfl) ?_
  intro _ _ _ _ _ _ _ _ C hr hnm
  obtain ⟨o1, o2, o3, o4, o5, o6⟩ := id hx
  obtain ⟨w1, w2, w3, w4, w5, w6⟩ := id hp
  have t1 := td_b (b := p.1) o1 (show x.1 ≤ 2147483647 by omega)
  have t2 := td_b (b := p.2.1) o1 (show x.1 ≤ 2147483647 by omega)
  have t3 := td_b (b := p.1) (show -2147483648 ≤ x.2.1 by omega) o3
  have t4 := td_b (b := p.2.1) (show -2147483648 ≤ x.2.1 by omega) o3
  have r1 := rea_b (c := x.1.tdiv p.1) y1 y2 y3 y4 (by omega) (by omega)
  have r2 := rea_b (c := x.1.tdiv p.2.1) r1.1 r1.2.1 r1.2.2.1 r1.2.2.2 (by omega) (by omega)
  have r3 := rea_b (c := x.2.1.tdiv p.1) r2.1 r2.2.1 r2.2.2.1 r2.2.2.2 (by omega) (by omega)
  have z1 : ¬ eL p.1 = 0 := by rw [eL_0, eL_eq (by omega) (by omega) (by omega) (by omega)]; omega
  have z2 : ¬ eL p.2.1 = 0 := by rw [eL_0, eL_eq (by omega) (by omega) (by omega) (by omega)]; omega
  refine gi_aload_n (q := 1) (i := 2) C (dm_Re_reachQuotients 0 rfl) rfl rfl rfl ?_
  refine gi_callv 0 (q := 4) C (dm_Re_reachQuotients 1 rfl) rfl my_Va_isNothing lk_Re_120 im_Va_isNothing rfl (c_Va_isNothing ap _ hb) hb rfl rfl ⟨(Nat.le_of_ble_eq_true rfl), (Nat.le_of_ble_eq_true rfl)⟩ (Nat.le_of_ble_eq_true rfl) ⟨(Nat.le_of_ble_eq_true rfl), (Nat.le_of_ble_eq_true rfl)⟩ (fun r1 n1 h1 e1 => ?_)
  obtain ⟨rfl, rfl, rfl⟩ := e1
  refine gi_if_ne (q := 7) (tgt := 25) C (dm_Re_reachQuotients 2 rfl) rfl (by decide) (fun c4 => ?_) (fun c4 => ?_)
  · exact absurd ((no_iff (s := eL 0) (by omega) (by omega) (by omega) (by omega)).mpr (show ¬ p.2.1 < p.1 by omega)) c4
  · refine gi_aload_n (q := 8) (i := 2) C (dm_Re_reachQuotients 3 rfl) rfl rfl rfl ?_
    refine gi_get (q := 11) C (dm_Re_reachQuotients 4 rfl) rfl fl_Re_21 (by repeat (first | exact gi_up_self _ _ _ | assumption | rw [gi_up_ne (by omega)])) rfl ?_
    refine gi_lconst (q := 12) (v := 0) C (dm_Re_reachQuotients 5 rfl) rfl (by decide) ?_
    refine gi_lcmp (q := 13) C (dm_Re_reachQuotients 6 rfl) rfl ?_
    refine gi_if_eq (q := 16) (tgt := 25) C (dm_Re_reachQuotients 7 rfl) rfl (by decide) (fun c13 => ?_) (fun c13 => ?_)
    · exact absurd ((lg_cmp_eq _ _).mp c13) z1
    · refine gi_aload_n (q := 17) (i := 2) C (dm_Re_reachQuotients 8 rfl) rfl rfl rfl ?_
      refine gi_get (q := 20) C (dm_Re_reachQuotients 9 rfl) rfl fl_Re_25 (by repeat (first | exact gi_up_self _ _ _ | assumption | rw [gi_up_ne (by omega)])) rfl ?_
      refine gi_lconst (q := 21) (v := 0) C (dm_Re_reachQuotients 10 rfl) rfl (by decide) ?_
      refine gi_lcmp (q := 22) C (dm_Re_reachQuotients 11 rfl) rfl ?_
      refine gi_if_ne (q := 25) (tgt := 26) C (dm_Re_reachQuotients 12 rfl) rfl (by decide) (fun c22 => ?_) (fun c22 => ?_)
      · refine gi_aload_n (q := 27) (i := 3) C (dm_Re_reachQuotients 14 rfl) rfl rfl rfl ?_
        refine gi_aload_n (q := 28) (i := 1) C (dm_Re_reachQuotients 15 rfl) rfl rfl rfl ?_
        refine gi_get (q := 31) C (dm_Re_reachQuotients 16 rfl) rfl fl_Re_21 (by repeat (first | exact gi_up_self _ _ _ | assumption | rw [gi_up_ne (by omega)])) rfl ?_
        refine gi_aload_n (q := 32) (i := 2) C (dm_Re_reachQuotients 17 rfl) rfl rfl rfl ?_
        refine gi_get (q := 35) C (dm_Re_reachQuotients 18 rfl) rfl fl_Re_21 (by repeat (first | exact gi_up_self _ _ _ | assumption | rw [gi_up_ne (by omega)])) rfl ?_
        refine gi_ldiv (q := 36) C (dm_Re_reachQuotients 19 rfl) rfl z1 ?_
        rw [eL_div (by omega) (by omega) (by omega) (by omega)]
        refine gi_callv 1 (q := 39) C (dm_Re_reachQuotients 20 rfl) rfl my_Va_reach lk_Re_123 im_Va_reach rfl (c_Va_reach ao y _ (by omega) (by omega) (by omega) (by omega) (by omega) (by omega) hc) hc rfl rfl ⟨(Nat.le_of_ble_eq_true rfl), (Nat.le_of_ble_eq_true rfl)⟩ (Nat.le_of_ble_eq_true rfl) ⟨(Nat.le_of_ble_eq_true rfl), (Nat.le_of_ble_eq_true rfl)⟩ (fun r36 n36 h36 e36 => ?_)
        obtain ⟨rfl, rfl, rfl⟩ := e36
        refine gi_aload_n (q := 40) (i := 3) C (dm_Re_reachQuotients 21 rfl) rfl rfl rfl ?_
        refine gi_aload_n (q := 41) (i := 1) C (dm_Re_reachQuotients 22 rfl) rfl rfl rfl ?_
        refine gi_get (q := 44) C (dm_Re_reachQuotients 23 rfl) rfl fl_Re_21 (by repeat (first | exact gi_up_self _ _ _ | assumption | rw [gi_up_ne (by omega)])) rfl ?_
        refine gi_aload_n (q := 45) (i := 2) C (dm_Re_reachQuotients 24 rfl) rfl rfl rfl ?_
        refine gi_get (q := 48) C (dm_Re_reachQuotients 25 rfl) rfl fl_Re_25 (by repeat (first | exact gi_up_self _ _ _ | assumption | rw [gi_up_ne (by omega)])) rfl ?_
        refine gi_ldiv (q := 49) C (dm_Re_reachQuotients 26 rfl) rfl z2 ?_
        rw [eL_div (by omega) (by omega) (by omega) (by omega)]
        refine gi_callv 1 (q := 52) C (dm_Re_reachQuotients 27 rfl) rfl my_Va_reach lk_Re_123 im_Va_reach rfl (c_Va_reach ao _ _ (by omega) (by omega) (by omega) (by omega) (by omega) (by omega) (gi_up_self _ _ _)) (gi_up_self _ _ _) rfl rfl ⟨(Nat.le_of_ble_eq_true rfl), (Nat.le_of_ble_eq_true rfl)⟩ (Nat.le_of_ble_eq_true rfl) ⟨(Nat.le_of_ble_eq_true rfl), (Nat.le_of_ble_eq_true rfl)⟩ (fun r49 n49 h49 e49 => ?_)
        obtain ⟨rfl, rfl, rfl⟩ := e49
        rw [gi_up_up]
        refine gi_aload_n (q := 53) (i := 3) C (dm_Re_reachQuotients 28 rfl) rfl rfl rfl ?_
        refine gi_aload_n (q := 54) (i := 1) C (dm_Re_reachQuotients 29 rfl) rfl rfl rfl ?_
        refine gi_get (q := 57) C (dm_Re_reachQuotients 30 rfl) rfl fl_Re_25 (by repeat (first | exact gi_up_self _ _ _ | assumption | rw [gi_up_ne (by omega)])) rfl ?_
        refine gi_aload_n (q := 58) (i := 2) C (dm_Re_reachQuotients 31 rfl) rfl rfl rfl ?_
        refine gi_get (q := 61) C (dm_Re_reachQuotients 32 rfl) rfl fl_Re_21 (by repeat (first | exact gi_up_self _ _ _ | assumption | rw [gi_up_ne (by omega)])) rfl ?_
        refine gi_ldiv (q := 62) C (dm_Re_reachQuotients 33 rfl) rfl z1 ?_
        rw [eL_div (by omega) (by omega) (by omega) (by omega)]
        refine gi_callv 1 (q := 65) C (dm_Re_reachQuotients 34 rfl) rfl my_Va_reach lk_Re_123 im_Va_reach rfl (c_Va_reach ao _ _ (by omega) (by omega) (by omega) (by omega) (by omega) (by omega) (gi_up_self _ _ _)) (gi_up_self _ _ _) rfl rfl ⟨(Nat.le_of_ble_eq_true rfl), (Nat.le_of_ble_eq_true rfl)⟩ (Nat.le_of_ble_eq_true rfl) ⟨(Nat.le_of_ble_eq_true rfl), (Nat.le_of_ble_eq_true rfl)⟩ (fun r62 n62 h62 e62 => ?_)
        obtain ⟨rfl, rfl, rfl⟩ := e62
        rw [gi_up_up]
        refine gi_aload_n (q := 66) (i := 3) C (dm_Re_reachQuotients 35 rfl) rfl rfl rfl ?_
        refine gi_aload_n (q := 67) (i := 1) C (dm_Re_reachQuotients 36 rfl) rfl rfl rfl ?_
        refine gi_get (q := 70) C (dm_Re_reachQuotients 37 rfl) rfl fl_Re_25 (by repeat (first | exact gi_up_self _ _ _ | assumption | rw [gi_up_ne (by omega)])) rfl ?_
        refine gi_aload_n (q := 71) (i := 2) C (dm_Re_reachQuotients 38 rfl) rfl rfl rfl ?_
        refine gi_get (q := 74) C (dm_Re_reachQuotients 39 rfl) rfl fl_Re_25 (by repeat (first | exact gi_up_self _ _ _ | assumption | rw [gi_up_ne (by omega)])) rfl ?_
        refine gi_ldiv (q := 75) C (dm_Re_reachQuotients 40 rfl) rfl z2 ?_
        rw [eL_div (by omega) (by omega) (by omega) (by omega)]
        refine gi_callv 1 (q := 78) C (dm_Re_reachQuotients 41 rfl) rfl my_Va_reach lk_Re_123 im_Va_reach rfl (c_Va_reach ao _ _ (by omega) (by omega) (by omega) (by omega) (by omega) (by omega) (gi_up_self _ _ _)) (gi_up_self _ _ _) rfl rfl ⟨(Nat.le_of_ble_eq_true rfl), (Nat.le_of_ble_eq_true rfl)⟩ (Nat.le_of_ble_eq_true rfl) ⟨(Nat.le_of_ble_eq_true rfl), (Nat.le_of_ble_eq_true rfl)⟩ (fun r75 n75 h75 e75 => ?_)
        obtain ⟨rfl, rfl, rfl⟩ := e75
        rw [gi_up_up]
        refine gi_vret C hr (dm_Re_reachQuotients 42 rfl) ?_
        exact ⟨rfl, rfl, rfl⟩
      · exact absurd ((lg_cmp_eq _ _).mp c22) z2
set_option maxHeartbeats 4000000 in
set_option maxRecDepth 100000 in
theorem c_Re_reachQuotients_N (r ax ap ao : Nat) (ob : List Value) (hr0 : h r = some (gi_O 7 ob)) (hb : h ap = some (eV (sV (1, 0, 0)))) : gi_T l V y_Re_reachQuotients b_Re_reachQuotients 4 none 1 23 0 0 [.ref r, .ref ax, .ref ap, .ref ao] n h (gi_is none n h) := by
  refine gi_enter (by decide) (Nat.le_of_ble_eq_true rfl) ?_
  intro _ _ _ _ _ _ _ _ C hr hnm
  refine gi_aload_n (q := 1) (i := 2) C (dm_Re_reachQuotients 0 rfl) rfl rfl rfl ?_
  refine gi_callv 0 (q := 4) C (dm_Re_reachQuotients 1 rfl) rfl my_Va_isNothing lk_Re_120 im_Va_isNothing rfl (c_Va_isNothing ap _ hb) hb rfl rfl ⟨(Nat.le_of_ble_eq_true rfl), (Nat.le_of_ble_eq_true rfl)⟩ (Nat.le_of_ble_eq_true rfl) ⟨(Nat.le_of_ble_eq_true rfl), (Nat.le_of_ble_eq_true rfl)⟩ (fun r1 n1 h1 e1 => ?_)
  obtain ⟨rfl, rfl, rfl⟩ := e1
  refine gi_if_ne (q := 7) (tgt := 25) C (dm_Re_reachQuotients 2 rfl) rfl (by decide) (fun c4 => ?_) (fun c4 => ?_)
  · refine gi_vret C hr (dm_Re_reachQuotients 13 rfl) ?_
    exact ⟨rfl, rfl, rfl⟩
  · exact absurd c4 (by decide)
/-- the two parts of a divisor, one after the other -/
theorem over_2 {x y : Sp} (hx : okS x) (hy : okS y) (h0 : ¬ (y.1 = 0 ∧ y.2.1 = 0)) (n1 : ¬ (x.1 = x.2.1 ∧ y.1 = y.2.1)) (n2 : ¬ (x.1 = -2147483648 ∧ hasS y (-1) = true)) : overS x y = (match negS y, posS y with
    | some p, some q => rea4 (rea4 (1, 0, 0) (x.1.tdiv p.1) (x.1.tdiv p.2.1) (x.2.1.tdiv p.1) (x.2.1.tdiv p.2.1)) (x.1.tdiv q.1) (x.1.tdiv q.2.1) (x.2.1.tdiv q.1) (x.2.1.tdiv q.2.1)
    | some p, none => rea4 (1, 0, 0) (x.1.tdiv p.1) (x.1.tdiv p.2.1) (x.2.1.tdiv p.1) (x.2.1.tdiv p.2.1)
    | none, some q => rea4 (1, 0, 0) (x.1.tdiv q.1) (x.1.tdiv q.2.1) (x.2.1.tdiv q.1) (x.2.1.tdiv q.2.1)
    | none, none => (1, 0, 0)) := by
  unfold overS
  rw [if_neg n1, if_neg n2]
  cases negS y <;> cases posS y <;> simp only [rea4_0]
  · rfl
  · rfl
  · rw [rea4_mk (by omega)]
    rfl
set_option maxHeartbeats 4000000 in
set_option maxRecDepth 100000 in
theorem c_Re_divide (r ax ay ao : Nat) (x y : Sp) (u u' v : mV) (hx : okS x) (hy : okS y) (h0 : ¬ (y.1 = 0 ∧ y.2.1 = 0)) (H : re_at r u u' h) (x1 : ax ≠ r) (x2 : ax ≠ r + 1) (x3 : ax ≠ r + 2) (q1 : ay ≠ r) (q2 : ay ≠ r + 1) (q3 : ay ≠ r + 2) (p1 : ao ≠ r) (p2 : ao ≠ r + 1) (p3 : ao ≠ r + 2) (hxo : ao ≠ ax) (hyo : ao ≠ ay) (ha : h ax = some (eV (sV x))) (hb : h ay = some (eV (sV y))) (hc : h ao = some (eV v)) : gi_T l V y_Re_divide b_Re_divide 4 none 2 50 0 0 [.ref r, .ref ax, .ref ay, .ref ao] n h (fun z n' h' => z = none ∧ n' = n ∧ ∃ w w' : mV, h' = gi_up (gi_up (gi_up h (r + 1) (eV w)) (r + 2) (eV w')) ao (eV (sV (overS x y)))) := by
  refine gi_enter (by decide) (Nat.le_of_ble_eq_true rfl) ?_
  intro _ _ _ _ _ _ _ _ C hr hnm
  obtain ⟨o1, o2, o3, o4, o5, o6⟩ := id hx
  have o7 := hx.st
  obtain ⟨w1, w2, w3, w4, w5, w6⟩ := id hy
  have w7 := hy.st
  obtain ⟨H0, H1, H2⟩ := id H
  have HI := @has_hi
  refine gi_aload_n (q := 1) (i := 1) C (dm_Re_divide 0 rfl) rfl rfl rfl ?_
  refine gi_callv 0 (q := 4) C (dm_Re_divide 1 rfl) rfl my_Va_isSingle lk_Re_39 im_Va_isSingle rfl (c_Va_isSingle ax _ ha) ha rfl rfl ⟨(Nat.le_of_ble_eq_true rfl), (Nat.le_of_ble_eq_true rfl)⟩ (Nat.le_of_ble_eq_true rfl) ⟨(Nat.le_of_ble_eq_true rfl), (Nat.le_of_ble_eq_true rfl)⟩ (fun r1 n1 h1 e1 => ?_)
  obtain ⟨rfl, rfl, rfl⟩ := e1
  refine gi_if_eq (q := 7) (tgt := 39) C (dm_Re_divide 2 rfl) rfl (by decide) (fun c4 => ?_) (fun c4 => ?_)
  · have n1 : ¬ (x.1 = x.2.1 ∧ y.1 = y.2.1) := by
      first
        | exact fun q => sgF (by omega) (by omega) (by omega) (by omega) c4 q.1
        | exact fun q => sgF (by omega) (by omega) (by omega) (by omega) c11 q.2
        | (intro q
           (try simp (disch := omega) only [lg_cmp_ge, lg_cmp_le, lg_cmp_gt, lg_cmp_lt, lg_cmp_eq, eL_0, eL_1, eL_m1, eL_LO, eL_HI, eL_W, eL_add, eL_sub, eL_mul, eL_neg, eL_lt, eL_le, eL_eq, eL_remN, eL_mod0, ne_eq, Int64.not_lt, Int64.not_le] at c4)
           omega)
    refine gi_aload_n (q := 40) (i := 1) C (dm_Re_divide 21 rfl) rfl rfl rfl ?_
    refine gi_get (q := 43) C (dm_Re_divide 22 rfl) rfl fl_Re_21 (by repeat (first | exact gi_up_self _ _ _ | assumption | rw [gi_up_ne (by omega)])) rfl ?_
    refine gi_ldc2 (q := 46) C (dm_Re_divide 23 rfl) rfl kc_Re_85 ?_
    rw [eL_LO]
    refine gi_lcmp (q := 47) C (dm_Re_divide 24 rfl) rfl ?_
    refine gi_if_ne (q := 50) (tgt := 65) C (dm_Re_divide 25 rfl) rfl (by decide) (fun c47 => ?_) (fun c47 => ?_)
    · have n2 : ¬ (x.1 = -2147483648 ∧ hasS y (-1) = true) := by
        (try simp (disch := omega) only [lg_cmp_ge, lg_cmp_le, lg_cmp_gt, lg_cmp_lt, lg_cmp_eq, eL_0, eL_1, eL_m1, eL_LO, eL_HI, eL_W, eL_add, eL_sub, eL_mul, eL_neg, eL_lt, eL_le, eL_eq, eL_remN, eL_mod0, ne_eq, Int64.not_lt, Int64.not_le] at c4)
        (try simp (disch := omega) only [lg_cmp_ge, lg_cmp_le, lg_cmp_gt, lg_cmp_lt, lg_cmp_eq, eL_0, eL_1, eL_m1, eL_LO, eL_HI, eL_W, eL_add, eL_sub, eL_mul, eL_neg, eL_lt, eL_le, eL_eq, eL_remN, eL_mod0, ne_eq, Int64.not_lt, Int64.not_le] at c47)
        first
          | (intro q; omega)
          | (intro q
             rw [q.2] at c57
             exact absurd c57 (by decide))
      refine gi_aload_n (q := 66) (i := 0) C (dm_Re_divide 33 rfl) rfl rfl rfl ?_
      refine gi_aload_n (q := 67) (i := 2) C (dm_Re_divide 34 rfl) rfl rfl rfl ?_
      refine gi_callv 1 (q := 70) C (dm_Re_divide 35 rfl) rfl my_Re_splitDivisor lk_Re_111 im_Re_splitDivisor rfl (c_Re_splitDivisor r ay y u u' hy H q1 q2 q3 hb) H0 rfl rfl ⟨(Nat.le_of_ble_eq_true rfl), (Nat.le_of_ble_eq_true rfl)⟩ (Nat.le_of_ble_eq_true rfl) ⟨(Nat.le_of_ble_eq_true rfl), (Nat.le_of_ble_eq_true rfl)⟩ (fun r67 n67 h67 e67 => ?_)
      obtain ⟨rfl, rfl, rfl⟩ := e67
      refine gi_aload_n (q := 71) (i := 3) C (dm_Re_divide 36 rfl) rfl rfl rfl ?_
      refine gi_callv 0 (q := 74) C (dm_Re_divide 37 rfl) rfl my_Va_beNothing lk_Re_114 im_Va_beNothing rfl (c_Va_beNothing ao v (by repeat (first | exact gi_up_self _ _ _ | assumption | rw [gi_up_ne (by omega)]))) (by repeat (first | exact gi_up_self _ _ _ | assumption | rw [gi_up_ne (by omega)])) rfl rfl ⟨(Nat.le_of_ble_eq_true rfl), (Nat.le_of_ble_eq_true rfl)⟩ (Nat.le_of_ble_eq_true rfl) ⟨(Nat.le_of_ble_eq_true rfl), (Nat.le_of_ble_eq_true rfl)⟩ (fun r71 n71 h71 e71 => ?_)
      obtain ⟨rfl, rfl, rfl⟩ := e71
      have ov := over_2 hx hy h0 n1 n2
      have nb : ∀ p, negS y = some p → okS p ∧ p.2.1 < 0 := fun p e => ⟨(neg_has hy e).1, by have := (neg_has hy e).2.1; omega⟩
      have pb : ∀ p, posS y = some p → okS p ∧ 0 < p.1 := fun p e => ⟨(pos_has hy e).1, by have := (pos_has hy e).2; omega⟩
      rcases hN : negS y with _ | p
      · rcases hP : posS y with _ | q
        · exact absurd (np_some hy h0) (by simp [hN, hP])
        · rw [hN, hP] at ov
          rw [wS_n, wS_s]
          refine gi_aload_n (q := 75) (i := 0) C (dm_Re_divide 38 rfl) rfl rfl rfl ?_
          refine gi_aload_n (q := 76) (i := 1) C (dm_Re_divide 39 rfl) rfl rfl rfl ?_
          refine gi_aload_n (q := 77) (i := 0) C (dm_Re_divide 40 rfl) rfl rfl rfl ?_
          refine gi_get (q := 80) C (dm_Re_divide 41 rfl) rfl fl_Re_12 (by repeat (first | exact gi_up_self _ _ _ | assumption | rw [gi_up_ne (by omega)])) rfl ?_
          refine gi_aload_n (q := 81) (i := 3) C (dm_Re_divide 42 rfl) rfl rfl rfl ?_
          refine gi_callv 3 (q := 84) C (dm_Re_divide 43 rfl) rfl my_Re_reachQuotients lk_Re_117 im_Re_reachQuotients rfl (c_Re_reachQuotients_N r ax (r + 1) ao _ (by repeat (first | exact gi_up_self _ _ _ | assumption | rw [gi_up_ne (by omega)])) (by repeat (first | exact gi_up_self _ _ _ | assumption | rw [gi_up_ne (by omega)]))) (by repeat (first | exact gi_up_self _ _ _ | assumption | rw [gi_up_ne (by omega)])) rfl rfl ⟨(Nat.le_of_ble_eq_true rfl), (Nat.le_of_ble_eq_true rfl)⟩ (Nat.le_of_ble_eq_true rfl) ⟨(Nat.le_of_ble_eq_true rfl), (Nat.le_of_ble_eq_true rfl)⟩ (fun r81 n81 h81 e81 => ?_)
          obtain ⟨rfl, rfl, rfl⟩ := e81
          refine gi_aload_n (q := 85) (i := 0) C (dm_Re_divide 44 rfl) rfl rfl rfl ?_
          refine gi_aload_n (q := 86) (i := 1) C (dm_Re_divide 45 rfl) rfl rfl rfl ?_
          refine gi_aload_n (q := 87) (i := 0) C (dm_Re_divide 46 rfl) rfl rfl rfl ?_
          refine gi_get (q := 90) C (dm_Re_divide 47 rfl) rfl fl_Re_18 (by repeat (first | exact gi_up_self _ _ _ | assumption | rw [gi_up_ne (by omega)])) rfl ?_
          refine gi_aload_n (q := 91) (i := 3) C (dm_Re_divide 48 rfl) rfl rfl rfl ?_
          refine gi_callv 3 (q := 94) C (dm_Re_divide 49 rfl) rfl my_Re_reachQuotients lk_Re_117 im_Re_reachQuotients rfl (c_Re_reachQuotients_S r ax (r + 2) ao x (1, 0, 0) _ q hx (pb q hP).1 (Or.inr (pb q hP).2) (by decide) (by decide) (by decide) (by decide) hxo (by omega) (by repeat (first | exact gi_up_self _ _ _ | assumption | rw [gi_up_ne (by omega)])) (by repeat (first | exact gi_up_self _ _ _ | assumption | rw [gi_up_ne (by omega)])) (by repeat (first | exact gi_up_self _ _ _ | assumption | rw [gi_up_ne (by omega)])) (gi_up_self _ _ _)) (by repeat (first | exact gi_up_self _ _ _ | assumption | rw [gi_up_ne (by omega)])) rfl rfl ⟨(Nat.le_of_ble_eq_true rfl), (Nat.le_of_ble_eq_true rfl)⟩ (Nat.le_of_ble_eq_true rfl) ⟨(Nat.le_of_ble_eq_true rfl), (Nat.le_of_ble_eq_true rfl)⟩ (fun r91 n91 h91 e91 => ?_)
          obtain ⟨rfl, rfl, rfl⟩ := e91
          rw [gi_up_up]
          refine gi_vret C hr (dm_Re_divide 50 rfl) ?_
          exact ⟨rfl, rfl, _, _, by rw [ov]⟩
      · rcases hP : posS y with _ | q
        · rw [hN, hP] at ov
          rw [wS_n, wS_s]
          refine gi_aload_n (q := 75) (i := 0) C (dm_Re_divide 38 rfl) rfl rfl rfl ?_
          refine gi_aload_n (q := 76) (i := 1) C (dm_Re_divide 39 rfl) rfl rfl rfl ?_
          refine gi_aload_n (q := 77) (i := 0) C (dm_Re_divide 40 rfl) rfl rfl rfl ?_
          refine gi_get (q := 80) C (dm_Re_divide 41 rfl) rfl fl_Re_12 (by repeat (first | exact gi_up_self _ _ _ | assumption | rw [gi_up_ne (by omega)])) rfl ?_
          refine gi_aload_n (q := 81) (i := 3) C (dm_Re_divide 42 rfl) rfl rfl rfl ?_
          refine gi_callv 3 (q := 84) C (dm_Re_divide 43 rfl) rfl my_Re_reachQuotients lk_Re_117 im_Re_reachQuotients rfl (c_Re_reachQuotients_S r ax (r + 1) ao x (1, 0, 0) _ p hx (nb p hN).1 (Or.inl (nb p hN).2) (by decide) (by decide) (by decide) (by decide) hxo (by omega) (by repeat (first | exact gi_up_self _ _ _ | assumption | rw [gi_up_ne (by omega)])) (by repeat (first | exact gi_up_self _ _ _ | assumption | rw [gi_up_ne (by omega)])) (by repeat (first | exact gi_up_self _ _ _ | assumption | rw [gi_up_ne (by omega)])) (gi_up_self _ _ _)) (by repeat (first | exact gi_up_self _ _ _ | assumption | rw [gi_up_ne (by omega)])) rfl rfl ⟨(Nat.le_of_ble_eq_true rfl), (Nat.le_of_ble_eq_true rfl)⟩ (Nat.le_of_ble_eq_true rfl) ⟨(Nat.le_of_ble_eq_true rfl), (Nat.le_of_ble_eq_true rfl)⟩ (fun r81 n81 h81 e81 => ?_)
          obtain ⟨rfl, rfl, rfl⟩ := e81
          rw [gi_up_up]
          refine gi_aload_n (q := 85) (i := 0) C (dm_Re_divide 44 rfl) rfl rfl rfl ?_
          refine gi_aload_n (q := 86) (i := 1) C (dm_Re_divide 45 rfl) rfl rfl rfl ?_
          refine gi_aload_n (q := 87) (i := 0) C (dm_Re_divide 46 rfl) rfl rfl rfl ?_
          refine gi_get (q := 90) C (dm_Re_divide 47 rfl) rfl fl_Re_18 (by repeat (first | exact gi_up_self _ _ _ | assumption | rw [gi_up_ne (by omega)])) rfl ?_
          refine gi_aload_n (q := 91) (i := 3) C (dm_Re_divide 48 rfl) rfl rfl rfl ?_
          refine gi_callv 3 (q := 94) C (dm_Re_divide 49 rfl) rfl my_Re_reachQuotients lk_Re_117 im_Re_reachQuotients rfl (c_Re_reachQuotients_N r ax (r + 2) ao _ (by repeat (first | exact gi_up_self _ _ _ | assumption | rw [gi_up_ne (by omega)])) (by repeat (first | exact gi_up_self _ _ _ | assumption | rw [gi_up_ne (by omega)]))) (by repeat (first | exact gi_up_self _ _ _ | assumption | rw [gi_up_ne (by omega)])) rfl rfl ⟨(Nat.le_of_ble_eq_true rfl), (Nat.le_of_ble_eq_true rfl)⟩ (Nat.le_of_ble_eq_true rfl) ⟨(Nat.le_of_ble_eq_true rfl), (Nat.le_of_ble_eq_true rfl)⟩ (fun r91 n91 h91 e91 => ?_)
          obtain ⟨rfl, rfl, rfl⟩ := e91
          refine gi_vret C hr (dm_Re_divide 50 rfl) ?_
          exact ⟨rfl, rfl, _, _, by rw [ov]⟩
        · rw [hN, hP] at ov
          rw [wS_s, wS_s]
          refine gi_aload_n (q := 75) (i := 0) C (dm_Re_divide 38 rfl) rfl rfl rfl ?_
          refine gi_aload_n (q := 76) (i := 1) C (dm_Re_divide 39 rfl) rfl rfl rfl ?_
          refine gi_aload_n (q := 77) (i := 0) C (dm_Re_divide 40 rfl) rfl rfl rfl ?_
          refine gi_get (q := 80) C (dm_Re_divide 41 rfl) rfl fl_Re_12 (by repeat (first | exact gi_up_self _ _ _ | assumption | rw [gi_up_ne (by omega)])) rfl ?_
          refine gi_aload_n (q := 81) (i := 3) C (dm_Re_divide 42 rfl) rfl rfl rfl ?_
          refine gi_callv 3 (q := 84) C (dm_Re_divide 43 rfl) rfl my_Re_reachQuotients lk_Re_117 im_Re_reachQuotients rfl (c_Re_reachQuotients_S r ax (r + 1) ao x (1, 0, 0) _ p hx (nb p hN).1 (Or.inl (nb p hN).2) (by decide) (by decide) (by decide) (by decide) hxo (by omega) (by repeat (first | exact gi_up_self _ _ _ | assumption | rw [gi_up_ne (by omega)])) (by repeat (first | exact gi_up_self _ _ _ | assumption | rw [gi_up_ne (by omega)])) (by repeat (first | exact gi_up_self _ _ _ | assumption | rw [gi_up_ne (by omega)])) (gi_up_self _ _ _)) (by repeat (first | exact gi_up_self _ _ _ | assumption | rw [gi_up_ne (by omega)])) rfl rfl ⟨(Nat.le_of_ble_eq_true rfl), (Nat.le_of_ble_eq_true rfl)⟩ (Nat.le_of_ble_eq_true rfl) ⟨(Nat.le_of_ble_eq_true rfl), (Nat.le_of_ble_eq_true rfl)⟩ (fun r81 n81 h81 e81 => ?_)
          obtain ⟨rfl, rfl, rfl⟩ := e81
          rw [gi_up_up]
          have R0 := nb p hN
          have qb : -4294967296 ≤ (rea4 (1, 0, 0) (x.1.tdiv p.1) (x.1.tdiv p.2.1) (x.2.1.tdiv p.1) (x.2.1.tdiv p.2.1)).1 ∧ (rea4 (1, 0, 0) (x.1.tdiv p.1) (x.1.tdiv p.2.1) (x.2.1.tdiv p.1) (x.2.1.tdiv p.2.1)).1 ≤ 4294967296 ∧ -4294967296 ≤ (rea4 (1, 0, 0) (x.1.tdiv p.1) (x.1.tdiv p.2.1) (x.2.1.tdiv p.1) (x.2.1.tdiv p.2.1)).2.1 ∧ (rea4 (1, 0, 0) (x.1.tdiv p.1) (x.1.tdiv p.2.1) (x.2.1.tdiv p.1) (x.2.1.tdiv p.2.1)).2.1 ≤ 4294967296 := by
            have t1 := td_b (b := p.1) o1 (show x.1 ≤ 2147483647 by omega)
            have t2 := td_b (b := p.2.1) o1 (show x.1 ≤ 2147483647 by omega)
            have t3 := td_b (b := p.1) (show -2147483648 ≤ x.2.1 by omega) o3
            have t4 := td_b (b := p.2.1) (show -2147483648 ≤ x.2.1 by omega) o3
            rw [rea4_0, mkS_1, mkS_2]
            omega
          refine gi_aload_n (q := 85) (i := 0) C (dm_Re_divide 44 rfl) rfl rfl rfl ?_
          refine gi_aload_n (q := 86) (i := 1) C (dm_Re_divide 45 rfl) rfl rfl rfl ?_
          refine gi_aload_n (q := 87) (i := 0) C (dm_Re_divide 46 rfl) rfl rfl rfl ?_
          refine gi_get (q := 90) C (dm_Re_divide 47 rfl) rfl fl_Re_18 (by repeat (first | exact gi_up_self _ _ _ | assumption | rw [gi_up_ne (by omega)])) rfl ?_
          refine gi_aload_n (q := 91) (i := 3) C (dm_Re_divide 48 rfl) rfl rfl rfl ?_
          refine gi_callv 3 (q := 94) C (dm_Re_divide 49 rfl) rfl my_Re_reachQuotients lk_Re_117 im_Re_reachQuotients rfl (c_Re_reachQuotients_S r ax (r + 2) ao x _ _ q hx (pb q hP).1 (Or.inr (pb q hP).2) qb.1 qb.2.1 qb.2.2.1 qb.2.2.2 hxo (by omega) (by repeat (first | exact gi_up_self _ _ _ | assumption | rw [gi_up_ne (by omega)])) (by repeat (first | exact gi_up_self _ _ _ | assumption | rw [gi_up_ne (by omega)])) (by repeat (first | exact gi_up_self _ _ _ | assumption | rw [gi_up_ne (by omega)])) (gi_up_self _ _ _)) (by repeat (first | exact gi_up_self _ _ _ | assumption | rw [gi_up_ne (by omega)])) rfl rfl ⟨(Nat.le_of_ble_eq_true rfl), (Nat.le_of_ble_eq_true rfl)⟩ (Nat.le_of_ble_eq_true rfl) ⟨(Nat.le_of_ble_eq_true rfl), (Nat.le_of_ble_eq_true rfl)⟩ (fun r91 n91 h91 e91 => ?_)
          obtain ⟨rfl, rfl, rfl⟩ := e91
          rw [gi_up_up]
          refine gi_vret C hr (dm_Re_divide 50 rfl) ?_
          exact ⟨rfl, rfl, _, _, by rw [ov]⟩
    · refine gi_aload_n (q := 51) (i := 2) C (dm_Re_divide 26 rfl) rfl rfl rfl ?_
      refine gi_ldc2 (q := 54) C (dm_Re_divide 27 rfl) rfl kc_Re_101 ?_
      rw [eL_m1]
      refine gi_callv 1 (q := 57) C (dm_Re_divide 28 rfl) rfl my_Va_has lk_Re_107 im_Va_has rfl (c_Va_has ay y (-1) hy (by decide) (by decide) hb) hb rfl rfl ⟨(Nat.le_of_ble_eq_true rfl), (Nat.le_of_ble_eq_true rfl)⟩ (Nat.le_of_ble_eq_true rfl) ⟨(Nat.le_of_ble_eq_true rfl), (Nat.le_of_ble_eq_true rfl)⟩ (fun r54 n54 h54 e54 => ?_)
      obtain ⟨rfl, rfl, rfl⟩ := e54
      refine gi_if_eq (q := 60) (tgt := 65) C (dm_Re_divide 29 rfl) rfl (by decide) (fun c57 => ?_) (fun c57 => ?_)
      · have n2 : ¬ (x.1 = -2147483648 ∧ hasS y (-1) = true) := by
          (try simp (disch := omega) only [lg_cmp_ge, lg_cmp_le, lg_cmp_gt, lg_cmp_lt, lg_cmp_eq, eL_0, eL_1, eL_m1, eL_LO, eL_HI, eL_W, eL_add, eL_sub, eL_mul, eL_neg, eL_lt, eL_le, eL_eq, eL_remN, eL_mod0, ne_eq, Int64.not_lt, Int64.not_le] at c4)
          (try simp (disch := omega) only [lg_cmp_ge, lg_cmp_le, lg_cmp_gt, lg_cmp_lt, lg_cmp_eq, eL_0, eL_1, eL_m1, eL_LO, eL_HI, eL_W, eL_add, eL_sub, eL_mul, eL_neg, eL_lt, eL_le, eL_eq, eL_remN, eL_mod0, ne_eq, Int64.not_lt, Int64.not_le] at c47)
          (try simp (disch := omega) only [lg_cmp_ge, lg_cmp_le, lg_cmp_gt, lg_cmp_lt, lg_cmp_eq, eL_0, eL_1, eL_m1, eL_LO, eL_HI, eL_W, eL_add, eL_sub, eL_mul, eL_neg, eL_lt, eL_le, eL_eq, eL_remN, eL_mod0, ne_eq, Int64.not_lt, Int64.not_le] at c57)
          first
            | (intro q; omega)
            | (intro q
               rw [q.2] at c57
               exact absurd c57 (by decide))
        refine gi_aload_n (q := 66) (i := 0) C (dm_Re_divide 33 rfl) rfl rfl rfl ?_
        refine gi_aload_n (q := 67) (i := 2) C (dm_Re_divide 34 rfl) rfl rfl rfl ?_
        refine gi_callv 1 (q := 70) C (dm_Re_divide 35 rfl) rfl my_Re_splitDivisor lk_Re_111 im_Re_splitDivisor rfl (c_Re_splitDivisor r ay y u u' hy H q1 q2 q3 hb) H0 rfl rfl ⟨(Nat.le_of_ble_eq_true rfl), (Nat.le_of_ble_eq_true rfl)⟩ (Nat.le_of_ble_eq_true rfl) ⟨(Nat.le_of_ble_eq_true rfl), (Nat.le_of_ble_eq_true rfl)⟩ (fun r67 n67 h67 e67 => ?_)
        obtain ⟨rfl, rfl, rfl⟩ := e67
        refine gi_aload_n (q := 71) (i := 3) C (dm_Re_divide 36 rfl) rfl rfl rfl ?_
        refine gi_callv 0 (q := 74) C (dm_Re_divide 37 rfl) rfl my_Va_beNothing lk_Re_114 im_Va_beNothing rfl (c_Va_beNothing ao v (by repeat (first | exact gi_up_self _ _ _ | assumption | rw [gi_up_ne (by omega)]))) (by repeat (first | exact gi_up_self _ _ _ | assumption | rw [gi_up_ne (by omega)])) rfl rfl ⟨(Nat.le_of_ble_eq_true rfl), (Nat.le_of_ble_eq_true rfl)⟩ (Nat.le_of_ble_eq_true rfl) ⟨(Nat.le_of_ble_eq_true rfl), (Nat.le_of_ble_eq_true rfl)⟩ (fun r71 n71 h71 e71 => ?_)
        obtain ⟨rfl, rfl, rfl⟩ := e71
        have ov := over_2 hx hy h0 n1 n2
        have nb : ∀ p, negS y = some p → okS p ∧ p.2.1 < 0 := fun p e => ⟨(neg_has hy e).1, by have := (neg_has hy e).2.1; omega⟩
        have pb : ∀ p, posS y = some p → okS p ∧ 0 < p.1 := fun p e => ⟨(pos_has hy e).1, by have := (pos_has hy e).2; omega⟩
        rcases hN : negS y with _ | p
        · rcases hP : posS y with _ | q
          · exact absurd (np_some hy h0) (by simp [hN, hP])
          · rw [hN, hP] at ov
            rw [wS_n, wS_s]
            refine gi_aload_n (q := 75) (i := 0) C (dm_Re_divide 38 rfl) rfl rfl rfl ?_
            refine gi_aload_n (q := 76) (i := 1) C (dm_Re_divide 39 rfl) rfl rfl rfl ?_
            refine gi_aload_n (q := 77) (i := 0) C (dm_Re_divide 40 rfl) rfl rfl rfl ?_
            refine gi_get (q := 80) C (dm_Re_divide 41 rfl) rfl fl_Re_12 (by repeat (first | exact gi_up_self _ _ _ | assumption | rw [gi_up_ne (by omega)])) rfl ?_
            refine gi_aload_n (q := 81) (i := 3) C (dm_Re_divide 42 rfl) rfl rfl rfl ?_
            refine gi_callv 3 (q := 84) C (dm_Re_divide 43 rfl) rfl my_Re_reachQuotients lk_Re_117 im_Re_reachQuotients rfl (c_Re_reachQuotients_N r ax (r + 1) ao _ (by repeat (first | exact gi_up_self _ _ _ | assumption | rw [gi_up_ne (by omega)])) (by repeat (first | exact gi_up_self _ _ _ | assumption | rw [gi_up_ne (by omega)]))) (by repeat (first | exact gi_up_self _ _ _ | assumption | rw [gi_up_ne (by omega)])) rfl rfl ⟨(Nat.le_of_ble_eq_true rfl), (Nat.le_of_ble_eq_true rfl)⟩ (Nat.le_of_ble_eq_true rfl) ⟨(Nat.le_of_ble_eq_true rfl), (Nat.le_of_ble_eq_true rfl)⟩ (fun r81 n81 h81 e81 => ?_)
            obtain ⟨rfl, rfl, rfl⟩ := e81
            refine gi_aload_n (q := 85) (i := 0) C (dm_Re_divide 44 rfl) rfl rfl rfl ?_
            refine gi_aload_n (q := 86) (i := 1) C (dm_Re_divide 45 rfl) rfl rfl rfl ?_
            refine gi_aload_n (q := 87) (i := 0) C (dm_Re_divide 46 rfl) rfl rfl rfl ?_
            refine gi_get (q := 90) C (dm_Re_divide 47 rfl) rfl fl_Re_18 (by repeat (first | exact gi_up_self _ _ _ | assumption | rw [gi_up_ne (by omega)])) rfl ?_
            refine gi_aload_n (q := 91) (i := 3) C (dm_Re_divide 48 rfl) rfl rfl rfl ?_
            refine gi_callv 3 (q := 94) C (dm_Re_divide 49 rfl) rfl my_Re_reachQuotients lk_Re_117 im_Re_reachQuotients rfl (c_Re_reachQuotients_S r ax (r + 2) ao x (1, 0, 0) _ q hx (pb q hP).1 (Or.inr (pb q hP).2) (by decide) (by decide) (by decide) (by decide) hxo (by omega) (by repeat (first | exact gi_up_self _ _ _ | assumption | rw [gi_up_ne (by omega)])) (by repeat (first | exact gi_up_self _ _ _ | assumption | rw [gi_up_ne (by omega)])) (by repeat (first | exact gi_up_self _ _ _ | assumption | rw [gi_up_ne (by omega)])) (gi_up_self _ _ _)) (by repeat (first | exact gi_up_self _ _ _ | assumption | rw [gi_up_ne (by omega)])) rfl rfl ⟨(Nat.le_of_ble_eq_true rfl), (Nat.le_of_ble_eq_true rfl)⟩ (Nat.le_of_ble_eq_true rfl) ⟨(Nat.le_of_ble_eq_true rfl), (Nat.le_of_ble_eq_true rfl)⟩ (fun r91 n91 h91 e91 => ?_)
            obtain ⟨rfl, rfl, rfl⟩ := e91
            rw [gi_up_up]
            refine gi_vret C hr (dm_Re_divide 50 rfl) ?_
            exact ⟨rfl, rfl, _, _, by rw [ov]⟩
        · rcases hP : posS y with _ | q
          · rw [hN, hP] at ov
            rw [wS_n, wS_s]
            refine gi_aload_n (q := 75) (i := 0) C (dm_Re_divide 38 rfl) rfl rfl rfl ?_
            refine gi_aload_n (q := 76) (i := 1) C (dm_Re_divide 39 rfl) rfl rfl rfl ?_
            refine gi_aload_n (q := 77) (i := 0) C (dm_Re_divide 40 rfl) rfl rfl rfl ?_
            refine gi_get (q := 80) C (dm_Re_divide 41 rfl) rfl fl_Re_12 (by repeat (first | exact gi_up_self _ _ _ | assumption | rw [gi_up_ne (by omega)])) rfl ?_
            refine gi_aload_n (q := 81) (i := 3) C (dm_Re_divide 42 rfl) rfl rfl rfl ?_
            refine gi_callv 3 (q := 84) C (dm_Re_divide 43 rfl) rfl my_Re_reachQuotients lk_Re_117 im_Re_reachQuotients rfl (c_Re_reachQuotients_S r ax (r + 1) ao x (1, 0, 0) _ p hx (nb p hN).1 (Or.inl (nb p hN).2) (by decide) (by decide) (by decide) (by decide) hxo (by omega) (by repeat (first | exact gi_up_self _ _ _ | assumption | rw [gi_up_ne (by omega)])) (by repeat (first | exact gi_up_self _ _ _ | assumption | rw [gi_up_ne (by omega)])) (by repeat (first | exact gi_up_self _ _ _ | assumption | rw [gi_up_ne (by omega)])) (gi_up_self _ _ _)) (by repeat (first | exact gi_up_self _ _ _ | assumption | rw [gi_up_ne (by omega)])) rfl rfl ⟨(Nat.le_of_ble_eq_true rfl), (Nat.le_of_ble_eq_true rfl)⟩ (Nat.le_of_ble_eq_true rfl) ⟨(Nat.le_of_ble_eq_true rfl), (Nat.le_of_ble_eq_true rfl)⟩ (fun r81 n81 h81 e81 => ?_)
            obtain ⟨rfl, rfl, rfl⟩ := e81
            rw [gi_up_up]
            refine gi_aload_n (q := 85) (i := 0) C (dm_Re_divide 44 rfl) rfl rfl rfl ?_
            refine gi_aload_n (q := 86) (i := 1) C (dm_Re_divide 45 rfl) rfl rfl rfl ?_
            refine gi_aload_n (q := 87) (i := 0) C (dm_Re_divide 46 rfl) rfl rfl rfl ?_
            refine gi_get (q := 90) C (dm_Re_divide 47 rfl) rfl fl_Re_18 (by repeat (first | exact gi_up_self _ _ _ | assumption | rw [gi_up_ne (by omega)])) rfl ?_
            refine gi_aload_n (q := 91) (i := 3) C (dm_Re_divide 48 rfl) rfl rfl rfl ?_
            refine gi_callv 3 (q := 94) C (dm_Re_divide 49 rfl) rfl my_Re_reachQuotients lk_Re_117 im_Re_reachQuotients rfl (c_Re_reachQuotients_N r ax (r + 2) ao _ (by repeat (first | exact gi_up_self _ _ _ | assumption | rw [gi_up_ne (by omega)])) (by repeat (first | exact gi_up_self _ _ _ | assumption | rw [gi_up_ne (by omega)]))) (by repeat (first | exact gi_up_self _ _ _ | assumption | rw [gi_up_ne (by omega)])) rfl rfl ⟨(Nat.le_of_ble_eq_true rfl), (Nat.le_of_ble_eq_true rfl)⟩ (Nat.le_of_ble_eq_true rfl) ⟨(Nat.le_of_ble_eq_true rfl), (Nat.le_of_ble_eq_true rfl)⟩ (fun r91 n91 h91 e91 => ?_)
            obtain ⟨rfl, rfl, rfl⟩ := e91
            refine gi_vret C hr (dm_Re_divide 50 rfl) ?_
            exact ⟨rfl, rfl, _, _, by rw [ov]⟩
          · rw [hN, hP] at ov
            rw [wS_s, wS_s]
            refine gi_aload_n (q := 75) (i := 0) C (dm_Re_divide 38 rfl) rfl rfl rfl ?_
            refine gi_aload_n (q := 76) (i := 1) C (dm_Re_divide 39 rfl) rfl rfl rfl ?_
            refine gi_aload_n (q := 77) (i := 0) C (dm_Re_divide 40 rfl) rfl rfl rfl ?_
            refine gi_get (q := 80) C (dm_Re_divide 41 rfl) rfl fl_Re_12 (by repeat (first | exact gi_up_self _ _ _ | assumption | rw [gi_up_ne (by omega)])) rfl ?_
            refine gi_aload_n (q := 81) (i := 3) C (dm_Re_divide 42 rfl) rfl rfl rfl ?_
            refine gi_callv 3 (q := 84) C (dm_Re_divide 43 rfl) rfl my_Re_reachQuotients lk_Re_117 im_Re_reachQuotients rfl (c_Re_reachQuotients_S r ax (r + 1) ao x (1, 0, 0) _ p hx (nb p hN).1 (Or.inl (nb p hN).2) (by decide) (by decide) (by decide) (by decide) hxo (by omega) (by repeat (first | exact gi_up_self _ _ _ | assumption | rw [gi_up_ne (by omega)])) (by repeat (first | exact gi_up_self _ _ _ | assumption | rw [gi_up_ne (by omega)])) (by repeat (first | exact gi_up_self _ _ _ | assumption | rw [gi_up_ne (by omega)])) (gi_up_self _ _ _)) (by repeat (first | exact gi_up_self _ _ _ | assumption | rw [gi_up_ne (by omega)])) rfl rfl ⟨(Nat.le_of_ble_eq_true rfl), (Nat.le_of_ble_eq_true rfl)⟩ (Nat.le_of_ble_eq_true rfl) ⟨(Nat.le_of_ble_eq_true rfl), (Nat.le_of_ble_eq_true rfl)⟩ (fun r81 n81 h81 e81 => ?_)
            obtain ⟨rfl, rfl, rfl⟩ := e81
            rw [gi_up_up]
            have R0 := nb p hN
            have qb : -4294967296 ≤ (rea4 (1, 0, 0) (x.1.tdiv p.1) (x.1.tdiv p.2.1) (x.2.1.tdiv p.1) (x.2.1.tdiv p.2.1)).1 ∧ (rea4 (1, 0, 0) (x.1.tdiv p.1) (x.1.tdiv p.2.1) (x.2.1.tdiv p.1) (x.2.1.tdiv p.2.1)).1 ≤ 4294967296 ∧ -4294967296 ≤ (rea4 (1, 0, 0) (x.1.tdiv p.1) (x.1.tdiv p.2.1) (x.2.1.tdiv p.1) (x.2.1.tdiv p.2.1)).2.1 ∧ (rea4 (1, 0, 0) (x.1.tdiv p.1) (x.1.tdiv p.2.1) (x.2.1.tdiv p.1) (x.2.1.tdiv p.2.1)).2.1 ≤ 4294967296 := by
              have t1 := td_b (b := p.1) o1 (show x.1 ≤ 2147483647 by omega)
              have t2 := td_b (b := p.2.1) o1 (show x.1 ≤ 2147483647 by omega)
              have t3 := td_b (b := p.1) (show -2147483648 ≤ x.2.1 by omega) o3
              have t4 := td_b (b := p.2.1) (show -2147483648 ≤ x.2.1 by omega) o3
              rw [rea4_0, mkS_1, mkS_2]
              omega
            refine gi_aload_n (q := 85) (i := 0) C (dm_Re_divide 44 rfl) rfl rfl rfl ?_
            refine gi_aload_n (q := 86) (i := 1) C (dm_Re_divide 45 rfl) rfl rfl rfl ?_
            refine gi_aload_n (q := 87) (i := 0) C (dm_Re_divide 46 rfl) rfl rfl rfl ?_
            refine gi_get (q := 90) C (dm_Re_divide 47 rfl) rfl fl_Re_18 (by repeat (first | exact gi_up_self _ _ _ | assumption | rw [gi_up_ne (by omega)])) rfl ?_
            refine gi_aload_n (q := 91) (i := 3) C (dm_Re_divide 48 rfl) rfl rfl rfl ?_
            refine gi_callv 3 (q := 94) C (dm_Re_divide 49 rfl) rfl my_Re_reachQuotients lk_Re_117 im_Re_reachQuotients rfl (c_Re_reachQuotients_S r ax (r + 2) ao x _ _ q hx (pb q hP).1 (Or.inr (pb q hP).2) qb.1 qb.2.1 qb.2.2.1 qb.2.2.2 hxo (by omega) (by repeat (first | exact gi_up_self _ _ _ | assumption | rw [gi_up_ne (by omega)])) (by repeat (first | exact gi_up_self _ _ _ | assumption | rw [gi_up_ne (by omega)])) (by repeat (first | exact gi_up_self _ _ _ | assumption | rw [gi_up_ne (by omega)])) (gi_up_self _ _ _)) (by repeat (first | exact gi_up_self _ _ _ | assumption | rw [gi_up_ne (by omega)])) rfl rfl ⟨(Nat.le_of_ble_eq_true rfl), (Nat.le_of_ble_eq_true rfl)⟩ (Nat.le_of_ble_eq_true rfl) ⟨(Nat.le_of_ble_eq_true rfl), (Nat.le_of_ble_eq_true rfl)⟩ (fun r91 n91 h91 e91 => ?_)
            obtain ⟨rfl, rfl, rfl⟩ := e91
            rw [gi_up_up]
            refine gi_vret C hr (dm_Re_divide 50 rfl) ?_
            exact ⟨rfl, rfl, _, _, by rw [ov]⟩
      · refine gi_aload_n (q := 61) (i := 3) C (dm_Re_divide 30 rfl) rfl rfl rfl ?_
        refine gi_callv 0 (q := 64) C (dm_Re_divide 31 rfl) rfl my_Va_beAll lk_Re_63 im_Va_beAll rfl (c_Va_beAll ao v hc) hc rfl rfl ⟨(Nat.le_of_ble_eq_true rfl), (Nat.le_of_ble_eq_true rfl)⟩ (Nat.le_of_ble_eq_true rfl) ⟨(Nat.le_of_ble_eq_true rfl), (Nat.le_of_ble_eq_true rfl)⟩ (fun r61 n61 h61 e61 => ?_)
        obtain ⟨rfl, rfl, rfl⟩ := e61
        refine gi_vret C hr (dm_Re_divide 32 rfl) ?_
        (try simp (disch := omega) only [lg_cmp_ge, lg_cmp_le, lg_cmp_gt, lg_cmp_lt, lg_cmp_eq, eL_0, eL_1, eL_m1, eL_LO, eL_HI, eL_W, eL_add, eL_sub, eL_mul, eL_neg, eL_lt, eL_le, eL_eq, eL_remN, eL_mod0, ne_eq, Int64.not_lt, Int64.not_le] at c4)
        (try simp (disch := omega) only [lg_cmp_ge, lg_cmp_le, lg_cmp_gt, lg_cmp_lt, lg_cmp_eq, eL_0, eL_1, eL_m1, eL_LO, eL_HI, eL_W, eL_add, eL_sub, eL_mul, eL_neg, eL_lt, eL_le, eL_eq, eL_remN, eL_mod0, ne_eq, Int64.not_lt, Int64.not_le] at c47)
        (try simp (disch := omega) only [lg_cmp_ge, lg_cmp_le, lg_cmp_gt, lg_cmp_lt, lg_cmp_eq, eL_0, eL_1, eL_m1, eL_LO, eL_HI, eL_W, eL_add, eL_sub, eL_mul, eL_neg, eL_lt, eL_le, eL_eq, eL_remN, eL_mod0, ne_eq, Int64.not_lt, Int64.not_le] at c57)
        refine ⟨rfl, rfl, u, u', ?_⟩
        rw [gi_up_id H1, gi_up_id H2]
        unfold overS
        rw [if_neg n1, if_pos ⟨by omega, by first | exact (by simpa [bI] using c57) | (cases hh : hasS y (-1) <;> simp_all [bI])⟩]
  · refine gi_aload_n (q := 8) (i := 2) C (dm_Re_divide 3 rfl) rfl rfl rfl ?_
    refine gi_callv 0 (q := 11) C (dm_Re_divide 4 rfl) rfl my_Va_isSingle lk_Re_39 im_Va_isSingle rfl (c_Va_isSingle ay _ hb) hb rfl rfl ⟨(Nat.le_of_ble_eq_true rfl), (Nat.le_of_ble_eq_true rfl)⟩ (Nat.le_of_ble_eq_true rfl) ⟨(Nat.le_of_ble_eq_true rfl), (Nat.le_of_ble_eq_true rfl)⟩ (fun r8 n8 h8 e8 => ?_)
    obtain ⟨rfl, rfl, rfl⟩ := e8
    refine gi_if_eq (q := 14) (tgt := 39) C (dm_Re_divide 5 rfl) rfl (by decide) (fun c11 => ?_) (fun c11 => ?_)
    · have n1 : ¬ (x.1 = x.2.1 ∧ y.1 = y.2.1) := by
        first
          | exact fun q => sgF (by omega) (by omega) (by omega) (by omega) c4 q.1
          | exact fun q => sgF (by omega) (by omega) (by omega) (by omega) c11 q.2
          | (intro q
             (try simp (disch := omega) only [lg_cmp_ge, lg_cmp_le, lg_cmp_gt, lg_cmp_lt, lg_cmp_eq, eL_0, eL_1, eL_m1, eL_LO, eL_HI, eL_W, eL_add, eL_sub, eL_mul, eL_neg, eL_lt, eL_le, eL_eq, eL_remN, eL_mod0, ne_eq, Int64.not_lt, Int64.not_le] at c4)
             (try simp (disch := omega) only [lg_cmp_ge, lg_cmp_le, lg_cmp_gt, lg_cmp_lt, lg_cmp_eq, eL_0, eL_1, eL_m1, eL_LO, eL_HI, eL_W, eL_add, eL_sub, eL_mul, eL_neg, eL_lt, eL_le, eL_eq, eL_remN, eL_mod0, ne_eq, Int64.not_lt, Int64.not_le] at c11)
             omega)
      refine gi_aload_n (q := 40) (i := 1) C (dm_Re_divide 21 rfl) rfl rfl rfl ?_
      refine gi_get (q := 43) C (dm_Re_divide 22 rfl) rfl fl_Re_21 (by repeat (first | exact gi_up_self _ _ _ | assumption | rw [gi_up_ne (by omega)])) rfl ?_
      refine gi_ldc2 (q := 46) C (dm_Re_divide 23 rfl) rfl kc_Re_85 ?_
      rw [eL_LO]
      refine gi_lcmp (q := 47) C (dm_Re_divide 24 rfl) rfl ?_
      refine gi_if_ne (q := 50) (tgt := 65) C (dm_Re_divide 25 rfl) rfl (by decide) (fun c47 => ?_) (fun c47 => ?_)
      · have n2 : ¬ (x.1 = -2147483648 ∧ hasS y (-1) = true) := by
          (try simp (disch := omega) only [lg_cmp_ge, lg_cmp_le, lg_cmp_gt, lg_cmp_lt, lg_cmp_eq, eL_0, eL_1, eL_m1, eL_LO, eL_HI, eL_W, eL_add, eL_sub, eL_mul, eL_neg, eL_lt, eL_le, eL_eq, eL_remN, eL_mod0, ne_eq, Int64.not_lt, Int64.not_le] at c4)
          (try simp (disch := omega) only [lg_cmp_ge, lg_cmp_le, lg_cmp_gt, lg_cmp_lt, lg_cmp_eq, eL_0, eL_1, eL_m1, eL_LO, eL_HI, eL_W, eL_add, eL_sub, eL_mul, eL_neg, eL_lt, eL_le, eL_eq, eL_remN, eL_mod0, ne_eq, Int64.not_lt, Int64.not_le] at c11)
          (try simp (disch := omega) only [lg_cmp_ge, lg_cmp_le, lg_cmp_gt, lg_cmp_lt, lg_cmp_eq, eL_0, eL_1, eL_m1, eL_LO, eL_HI, eL_W, eL_add, eL_sub, eL_mul, eL_neg, eL_lt, eL_le, eL_eq, eL_remN, eL_mod0, ne_eq, Int64.not_lt, Int64.not_le] at c47)
          first
            | (intro q; omega)
            | (intro q
               rw [q.2] at c57
               exact absurd c57 (by decide))
        refine gi_aload_n (q := 66) (i := 0) C (dm_Re_divide 33 rfl) rfl rfl rfl ?_
        refine gi_aload_n (q := 67) (i := 2) C (dm_Re_divide 34 rfl) rfl rfl rfl ?_
        refine gi_callv 1 (q := 70) C (dm_Re_divide 35 rfl) rfl my_Re_splitDivisor lk_Re_111 im_Re_splitDivisor rfl (c_Re_splitDivisor r ay y u u' hy H q1 q2 q3 hb) H0 rfl rfl ⟨(Nat.le_of_ble_eq_true rfl), (Nat.le_of_ble_eq_true rfl)⟩ (Nat.le_of_ble_eq_true rfl) ⟨(Nat.le_of_ble_eq_true rfl), (Nat.le_of_ble_eq_true rfl)⟩ (fun r67 n67 h67 e67 => ?_)
        obtain ⟨rfl, rfl, rfl⟩ := e67
        refine gi_aload_n (q := 71) (i := 3) C (dm_Re_divide 36 rfl) rfl rfl rfl ?_
        refine gi_callv 0 (q := 74) C (dm_Re_divide 37 rfl) rfl my_Va_beNothing lk_Re_114 im_Va_beNothing rfl (c_Va_beNothing ao v (by repeat (first | exact gi_up_self _ _ _ | assumption | rw [gi_up_ne (by omega)]))) (by repeat (first | exact gi_up_self _ _ _ | assumption | rw [gi_up_ne (by omega)])) rfl rfl ⟨(Nat.le_of_ble_eq_true rfl), (Nat.le_of_ble_eq_true rfl)⟩ (Nat.le_of_ble_eq_true rfl) ⟨(Nat.le_of_ble_eq_true rfl), (Nat.le_of_ble_eq_true rfl)⟩ (fun r71 n71 h71 e71 => ?_)
        obtain ⟨rfl, rfl, rfl⟩ := e71
        have ov := over_2 hx hy h0 n1 n2
        have nb : ∀ p, negS y = some p → okS p ∧ p.2.1 < 0 := fun p e => ⟨(neg_has hy e).1, by have := (neg_has hy e).2.1; omega⟩
        have pb : ∀ p, posS y = some p → okS p ∧ 0 < p.1 := fun p e => ⟨(pos_has hy e).1, by have := (pos_has hy e).2; omega⟩
        rcases hN : negS y with _ | p
        · rcases hP : posS y with _ | q
          · exact absurd (np_some hy h0) (by simp [hN, hP])
          · rw [hN, hP] at ov
            rw [wS_n, wS_s]
            refine gi_aload_n (q := 75) (i := 0) C (dm_Re_divide 38 rfl) rfl rfl rfl ?_
            refine gi_aload_n (q := 76) (i := 1) C (dm_Re_divide 39 rfl) rfl rfl rfl ?_
            refine gi_aload_n (q := 77) (i := 0) C (dm_Re_divide 40 rfl) rfl rfl rfl ?_
            refine gi_get (q := 80) C (dm_Re_divide 41 rfl) rfl fl_Re_12 (by repeat (first | exact gi_up_self _ _ _ | assumption | rw [gi_up_ne (by omega)])) rfl ?_
            refine gi_aload_n (q := 81) (i := 3) C (dm_Re_divide 42 rfl) rfl rfl rfl ?_
            refine gi_callv 3 (q := 84) C (dm_Re_divide 43 rfl) rfl my_Re_reachQuotients lk_Re_117 im_Re_reachQuotients rfl (c_Re_reachQuotients_N r ax (r + 1) ao _ (by repeat (first | exact gi_up_self _ _ _ | assumption | rw [gi_up_ne (by omega)])) (by repeat (first | exact gi_up_self _ _ _ | assumption | rw [gi_up_ne (by omega)]))) (by repeat (first | exact gi_up_self _ _ _ | assumption | rw [gi_up_ne (by omega)])) rfl rfl ⟨(Nat.le_of_ble_eq_true rfl), (Nat.le_of_ble_eq_true rfl)⟩ (Nat.le_of_ble_eq_true rfl) ⟨(Nat.le_of_ble_eq_true rfl), (Nat.le_of_ble_eq_true rfl)⟩ (fun r81 n81 h81 e81 => ?_)
            obtain ⟨rfl, rfl, rfl⟩ := e81
            refine gi_aload_n (q := 85) (i := 0) C (dm_Re_divide 44 rfl) rfl rfl rfl ?_
            refine gi_aload_n (q := 86) (i := 1) C (dm_Re_divide 45 rfl) rfl rfl rfl ?_
            refine gi_aload_n (q := 87) (i := 0) C (dm_Re_divide 46 rfl) rfl rfl rfl ?_
            refine gi_get (q := 90) C (dm_Re_divide 47 rfl) rfl fl_Re_18 (by repeat (first | exact gi_up_self _ _ _ | assumption | rw [gi_up_ne (by omega)])) rfl ?_
            refine gi_aload_n (q := 91) (i := 3) C (dm_Re_divide 48 rfl) rfl rfl rfl ?_
            refine gi_callv 3 (q := 94) C (dm_Re_divide 49 rfl) rfl my_Re_reachQuotients lk_Re_117 im_Re_reachQuotients rfl (c_Re_reachQuotients_S r ax (r + 2) ao x (1, 0, 0) _ q hx (pb q hP).1 (Or.inr (pb q hP).2) (by decide) (by decide) (by decide) (by decide) hxo (by omega) (by repeat (first | exact gi_up_self _ _ _ | assumption | rw [gi_up_ne (by omega)])) (by repeat (first | exact gi_up_self _ _ _ | assumption | rw [gi_up_ne (by omega)])) (by repeat (first | exact gi_up_self _ _ _ | assumption | rw [gi_up_ne (by omega)])) (gi_up_self _ _ _)) (by repeat (first | exact gi_up_self _ _ _ | assumption | rw [gi_up_ne (by omega)])) rfl rfl ⟨(Nat.le_of_ble_eq_true rfl), (Nat.le_of_ble_eq_true rfl)⟩ (Nat.le_of_ble_eq_true rfl) ⟨(Nat.le_of_ble_eq_true rfl), (Nat.le_of_ble_eq_true rfl)⟩ (fun r91 n91 h91 e91 => ?_)
            obtain ⟨rfl, rfl, rfl⟩ := e91
            rw [gi_up_up]
            refine gi_vret C hr (dm_Re_divide 50 rfl) ?_
            exact ⟨rfl, rfl, _, _, by rw [ov]⟩
        · rcases hP : posS y with _ | q
          · rw [hN, hP] at ov
            rw [wS_n, wS_s]
            refine gi_aload_n (q := 75) (i := 0) C (dm_Re_divide 38 rfl) rfl rfl rfl ?_
            refine gi_aload_n (q := 76) (i := 1) C (dm_Re_divide 39 rfl) rfl rfl rfl ?_
            refine gi_aload_n (q := 77) (i := 0) C (dm_Re_divide 40 rfl) rfl rfl rfl ?_
            refine gi_get (q := 80) C (dm_Re_divide 41 rfl) rfl fl_Re_12 (by repeat (first | exact gi_up_self _ _ _ | assumption | rw [gi_up_ne (by omega)])) rfl ?_
            refine gi_aload_n (q := 81) (i := 3) C (dm_Re_divide 42 rfl) rfl rfl rfl ?_
            refine gi_callv 3 (q := 84) C (dm_Re_divide 43 rfl) rfl my_Re_reachQuotients lk_Re_117 im_Re_reachQuotients rfl (c_Re_reachQuotients_S r ax (r + 1) ao x (1, 0, 0) _ p hx (nb p hN).1 (Or.inl (nb p hN).2) (by decide) (by decide) (by decide) (by decide) hxo (by omega) (by repeat (first | exact gi_up_self _ _ _ | assumption | rw [gi_up_ne (by omega)])) (by repeat (first | exact gi_up_self _ _ _ | assumption | rw [gi_up_ne (by omega)])) (by repeat (first | exact gi_up_self _ _ _ | assumption | rw [gi_up_ne (by omega)])) (gi_up_self _ _ _)) (by repeat (first | exact gi_up_self _ _ _ | assumption | rw [gi_up_ne (by omega)])) rfl rfl ⟨(Nat.le_of_ble_eq_true rfl), (Nat.le_of_ble_eq_true rfl)⟩ (Nat.le_of_ble_eq_true rfl) ⟨(Nat.le_of_ble_eq_true rfl), (Nat.le_of_ble_eq_true rfl)⟩ (fun r81 n81 h81 e81 => ?_)
            obtain ⟨rfl, rfl, rfl⟩ := e81
            rw [gi_up_up]
            refine gi_aload_n (q := 85) (i := 0) C (dm_Re_divide 44 rfl) rfl rfl rfl ?_
            refine gi_aload_n (q := 86) (i := 1) C (dm_Re_divide 45 rfl) rfl rfl rfl ?_
            refine gi_aload_n (q := 87) (i := 0) C (dm_Re_divide 46 rfl) rfl rfl rfl ?_
            refine gi_get (q := 90) C (dm_Re_divide 47 rfl) rfl fl_Re_18 (by repeat (first | exact gi_up_self _ _ _ | assumption | rw [gi_up_ne (by omega)])) rfl ?_
            refine gi_aload_n (q := 91) (i := 3) C (dm_Re_divide 48 rfl) rfl rfl rfl ?_
            refine gi_callv 3 (q := 94) C (dm_Re_divide 49 rfl) rfl my_Re_reachQuotients lk_Re_117 im_Re_reachQuotients rfl (c_Re_reachQuotients_N r ax (r + 2) ao _ (by repeat (first | exact gi_up_self _ _ _ | assumption | rw [gi_up_ne (by omega)])) (by repeat (first | exact gi_up_self _ _ _ | assumption | rw [gi_up_ne (by omega)]))) (by repeat (first | exact gi_up_self _ _ _ | assumption | rw [gi_up_ne (by omega)])) rfl rfl ⟨(Nat.le_of_ble_eq_true rfl), (Nat.le_of_ble_eq_true rfl)⟩ (Nat.le_of_ble_eq_true rfl) ⟨(Nat.le_of_ble_eq_true rfl), (Nat.le_of_ble_eq_true rfl)⟩ (fun r91 n91 h91 e91 => ?_)
            obtain ⟨rfl, rfl, rfl⟩ := e91
            refine gi_vret C hr (dm_Re_divide 50 rfl) ?_
            exact ⟨rfl, rfl, _, _, by rw [ov]⟩
          · rw [hN, hP] at ov
            rw [wS_s, wS_s]
            refine gi_aload_n (q := 75) (i := 0) C (dm_Re_divide 38 rfl) rfl rfl rfl ?_
            refine gi_aload_n (q := 76) (i := 1) C (dm_Re_divide 39 rfl) rfl rfl rfl ?_
            refine gi_aload_n (q := 77) (i := 0) C (dm_Re_divide 40 rfl) rfl rfl rfl ?_
            refine gi_get (q := 80) C (dm_Re_divide 41 rfl) rfl fl_Re_12 (by repeat (first | exact gi_up_self _ _ _ | assumption | rw [gi_up_ne (by omega)])) rfl ?_
            refine gi_aload_n (q := 81) (i := 3) C (dm_Re_divide 42 rfl) rfl rfl rfl ?_
            refine gi_callv 3 (q := 84) C (dm_Re_divide 43 rfl) rfl my_Re_reachQuotients lk_Re_117 im_Re_reachQuotients rfl (c_Re_reachQuotients_S r ax (r + 1) ao x (1, 0, 0) _ p hx (nb p hN).1 (Or.inl (nb p hN).2) (by decide) (by decide) (by decide) (by decide) hxo (by omega) (by repeat (first | exact gi_up_self _ _ _ | assumption | rw [gi_up_ne (by omega)])) (by repeat (first | exact gi_up_self _ _ _ | assumption | rw [gi_up_ne (by omega)])) (by repeat (first | exact gi_up_self _ _ _ | assumption | rw [gi_up_ne (by omega)])) (gi_up_self _ _ _)) (by repeat (first | exact gi_up_self _ _ _ | assumption | rw [gi_up_ne (by omega)])) rfl rfl ⟨(Nat.le_of_ble_eq_true rfl), (Nat.le_of_ble_eq_true rfl)⟩ (Nat.le_of_ble_eq_true rfl) ⟨(Nat.le_of_ble_eq_true rfl), (Nat.le_of_ble_eq_true rfl)⟩ (fun r81 n81 h81 e81 => ?_)
            obtain ⟨rfl, rfl, rfl⟩ := e81
            rw [gi_up_up]
            have R0 := nb p hN
            have qb : -4294967296 ≤ (rea4 (1, 0, 0) (x.1.tdiv p.1) (x.1.tdiv p.2.1) (x.2.1.tdiv p.1) (x.2.1.tdiv p.2.1)).1 ∧ (rea4 (1, 0, 0) (x.1.tdiv p.1) (x.1.tdiv p.2.1) (x.2.1.tdiv p.1) (x.2.1.tdiv p.2.1)).1 ≤ 4294967296 ∧ -4294967296 ≤ (rea4 (1, 0, 0) (x.1.tdiv p.1) (x.1.tdiv p.2.1) (x.2.1.tdiv p.1) (x.2.1.tdiv p.2.1)).2.1 ∧ (rea4 (1, 0, 0) (x.1.tdiv p.1) (x.1.tdiv p.2.1) (x.2.1.tdiv p.1) (x.2.1.tdiv p.2.1)).2.1 ≤ 4294967296 := by
              have t1 := td_b (b := p.1) o1 (show x.1 ≤ 2147483647 by omega)
              have t2 := td_b (b := p.2.1) o1 (show x.1 ≤ 2147483647 by omega)
              have t3 := td_b (b := p.1) (show -2147483648 ≤ x.2.1 by omega) o3
              have t4 := td_b (b := p.2.1) (show -2147483648 ≤ x.2.1 by omega) o3
              rw [rea4_0, mkS_1, mkS_2]
              omega
            refine gi_aload_n (q := 85) (i := 0) C (dm_Re_divide 44 rfl) rfl rfl rfl ?_
            refine gi_aload_n (q := 86) (i := 1) C (dm_Re_divide 45 rfl) rfl rfl rfl ?_
            refine gi_aload_n (q := 87) (i := 0) C (dm_Re_divide 46 rfl) rfl rfl rfl ?_
            refine gi_get (q := 90) C (dm_Re_divide 47 rfl) rfl fl_Re_18 (by repeat (first | exact gi_up_self _ _ _ | assumption | rw [gi_up_ne (by omega)])) rfl ?_
            refine gi_aload_n (q := 91) (i := 3) C (dm_Re_divide 48 rfl) rfl rfl rfl ?_
            refine gi_callv 3 (q := 94) C (dm_Re_divide 49 rfl) rfl my_Re_reachQuotients lk_Re_117 im_Re_reachQuotients rfl (c_Re_reachQuotients_S r ax (r + 2) ao x _ _ q hx (pb q hP).1 (Or.inr (pb q hP).2) qb.1 qb.2.1 qb.2.2.1 qb.2.2.2 hxo (by omega) (by repeat (first | exact gi_up_self _ _ _ | assumption | rw [gi_up_ne (by omega)])) (by repeat (first | exact gi_up_self _ _ _ | assumption | rw [gi_up_ne (by omega)])) (by repeat (first | exact gi_up_self _ _ _ | assumption | rw [gi_up_ne (by omega)])) (gi_up_self _ _ _)) (by repeat (first | exact gi_up_self _ _ _ | assumption | rw [gi_up_ne (by omega)])) rfl rfl ⟨(Nat.le_of_ble_eq_true rfl), (Nat.le_of_ble_eq_true rfl)⟩ (Nat.le_of_ble_eq_true rfl) ⟨(Nat.le_of_ble_eq_true rfl), (Nat.le_of_ble_eq_true rfl)⟩ (fun r91 n91 h91 e91 => ?_)
            obtain ⟨rfl, rfl, rfl⟩ := e91
            rw [gi_up_up]
            refine gi_vret C hr (dm_Re_divide 50 rfl) ?_
            exact ⟨rfl, rfl, _, _, by rw [ov]⟩
      · refine gi_aload_n (q := 51) (i := 2) C (dm_Re_divide 26 rfl) rfl rfl rfl ?_
        refine gi_ldc2 (q := 54) C (dm_Re_divide 27 rfl) rfl kc_Re_101 ?_
        rw [eL_m1]
        refine gi_callv 1 (q := 57) C (dm_Re_divide 28 rfl) rfl my_Va_has lk_Re_107 im_Va_has rfl (c_Va_has ay y (-1) hy (by decide) (by decide) hb) hb rfl rfl ⟨(Nat.le_of_ble_eq_true rfl), (Nat.le_of_ble_eq_true rfl)⟩ (Nat.le_of_ble_eq_true rfl) ⟨(Nat.le_of_ble_eq_true rfl), (Nat.le_of_ble_eq_true rfl)⟩ (fun r54 n54 h54 e54 => ?_)
        obtain ⟨rfl, rfl, rfl⟩ := e54
        refine gi_if_eq (q := 60) (tgt := 65) C (dm_Re_divide 29 rfl) rfl (by decide) (fun c57 => ?_) (fun c57 => ?_)
        · have n2 : ¬ (x.1 = -2147483648 ∧ hasS y (-1) = true) := by
            (try simp (disch := omega) only [lg_cmp_ge, lg_cmp_le, lg_cmp_gt, lg_cmp_lt, lg_cmp_eq, eL_0, eL_1, eL_m1, eL_LO, eL_HI, eL_W, eL_add, eL_sub, eL_mul, eL_neg, eL_lt, eL_le, eL_eq, eL_remN, eL_mod0, ne_eq, Int64.not_lt, Int64.not_le] at c4)
            (try simp (disch := omega) only [lg_cmp_ge, lg_cmp_le, lg_cmp_gt, lg_cmp_lt, lg_cmp_eq, eL_0, eL_1, eL_m1, eL_LO, eL_HI, eL_W, eL_add, eL_sub, eL_mul, eL_neg, eL_lt, eL_le, eL_eq, eL_remN, eL_mod0, ne_eq, Int64.not_lt, Int64.not_le] at c11)
            (try simp (disch := omega) only [lg_cmp_ge, lg_cmp_le, lg_cmp_gt, lg_cmp_lt, lg_cmp_eq, eL_0, eL_1, eL_m1, eL_LO, eL_HI, eL_W, eL_add, eL_sub, eL_mul, eL_neg, eL_lt, eL_le, eL_eq, eL_remN, eL_mod0, ne_eq, Int64.not_lt, Int64.not_le] at c47)
            (try simp (disch := omega) only [lg_cmp_ge, lg_cmp_le, lg_cmp_gt, lg_cmp_lt, lg_cmp_eq, eL_0, eL_1, eL_m1, eL_LO, eL_HI, eL_W, eL_add, eL_sub, eL_mul, eL_neg, eL_lt, eL_le, eL_eq, eL_remN, eL_mod0, ne_eq, Int64.not_lt, Int64.not_le] at c57)
            first
              | (intro q; omega)
              | (intro q
                 rw [q.2] at c57
                 exact absurd c57 (by decide))
          refine gi_aload_n (q := 66) (i := 0) C (dm_Re_divide 33 rfl) rfl rfl rfl ?_
          refine gi_aload_n (q := 67) (i := 2) C (dm_Re_divide 34 rfl) rfl rfl rfl ?_
          refine gi_callv 1 (q := 70) C (dm_Re_divide 35 rfl) rfl my_Re_splitDivisor lk_Re_111 im_Re_splitDivisor rfl (c_Re_splitDivisor r ay y u u' hy H q1 q2 q3 hb) H0 rfl rfl ⟨(Nat.le_of_ble_eq_true rfl), (Nat.le_of_ble_eq_true rfl)⟩ (Nat.le_of_ble_eq_true rfl) ⟨(Nat.le_of_ble_eq_true rfl), (Nat.le_of_ble_eq_true rfl)⟩ (fun r67 n67 h67 e67 => ?_)
          obtain ⟨rfl, rfl, rfl⟩ := e67
          refine gi_aload_n (q := 71) (i := 3) C (dm_Re_divide 36 rfl) rfl rfl rfl ?_
          refine gi_callv 0 (q := 74) C (dm_Re_divide 37 rfl) rfl my_Va_beNothing lk_Re_114 im_Va_beNothing rfl (c_Va_beNothing ao v (by repeat (first | exact gi_up_self _ _ _ | assumption | rw [gi_up_ne (by omega)]))) (by repeat (first | exact gi_up_self _ _ _ | assumption | rw [gi_up_ne (by omega)])) rfl rfl ⟨(Nat.le_of_ble_eq_true rfl), (Nat.le_of_ble_eq_true rfl)⟩ (Nat.le_of_ble_eq_true rfl) ⟨(Nat.le_of_ble_eq_true rfl), (Nat.le_of_ble_eq_true rfl)⟩ (fun r71 n71 h71 e71 => ?_)
          obtain ⟨rfl, rfl, rfl⟩ := e71
          have ov := over_2 hx hy h0 n1 n2
          have nb : ∀ p, negS y = some p → okS p ∧ p.2.1 < 0 := fun p e => ⟨(neg_has hy e).1, by have := (neg_has hy e).2.1; omega⟩
          have pb : ∀ p, posS y = some p → okS p ∧ 0 < p.1 := fun p e => ⟨(pos_has hy e).1, by have := (pos_has hy e).2; omega⟩
          rcases hN : negS y with _ | p
          · rcases hP : posS y with _ | q
            · exact absurd (np_some hy h0) (by simp [hN, hP])
            · rw [hN, hP] at ov
              rw [wS_n, wS_s]
              refine gi_aload_n (q := 75) (i := 0) C (dm_Re_divide 38 rfl) rfl rfl rfl ?_
              refine gi_aload_n (q := 76) (i := 1) C (dm_Re_divide 39 rfl) rfl rfl rfl ?_
              refine gi_aload_n (q := 77) (i := 0) C (dm_Re_divide 40 rfl) rfl rfl rfl ?_
              refine gi_get (q := 80) C (dm_Re_divide 41 rfl) rfl fl_Re_12 (by repeat (first | exact gi_up_self _ _ _ | assumption | rw [gi_up_ne (by omega)])) rfl ?_
              refine gi_aload_n (q := 81) (i := 3) C (dm_Re_divide 42 rfl) rfl rfl rfl ?_
              refine gi_callv 3 (q := 84) C (dm_Re_divide 43 rfl) rfl my_Re_reachQuotients lk_Re_117 im_Re_reachQuotients rfl (c_Re_reachQuotients_N r ax (r + 1) ao _ (by repeat (first | exact gi_up_self _ _ _ | assumption | rw [gi_up_ne (by omega)])) (by repeat (first | exact gi_up_self _ _ _ | assumption | rw [gi_up_ne (by omega)]))) (by repeat (first | exact gi_up_self _ _ _ | assumption | rw [gi_up_ne (by omega)])) rfl rfl ⟨(Nat.le_of_ble_eq_true rfl), (Nat.le_of_ble_eq_true rfl)⟩ (Nat.le_of_ble_eq_true rfl) ⟨(Nat.le_of_ble_eq_true rfl), (Nat.le_of_ble_eq_true rfl)⟩ (fun r81 n81 h81 e81 => ?_)
              obtain ⟨rfl, rfl, rfl⟩ := e81
              refine gi_aload_n (q := 85) (i := 0) C (dm_Re_divide 44 rfl) rfl rfl rfl ?_
              refine gi_aload_n (q := 86) (i := 1) C (dm_Re_divide 45 rfl) rfl rfl rfl ?_
              refine gi_aload_n (q := 87) (i := 0) C (dm_Re_divide 46 rfl) rfl rfl rfl ?_
              refine gi_get (q := 90) C (dm_Re_divide 47 rfl) rfl fl_Re_18 (by repeat (first | exact gi_up_self _ _ _ | assumption | rw [gi_up_ne (by omega)])) rfl ?_
              refine gi_aload_n (q := 91) (i := 3) C (dm_Re_divide 48 rfl) rfl rfl rfl ?_
              refine gi_callv 3 (q := 94) C (dm_Re_divide 49 rfl) rfl my_Re_reachQuotients lk_Re_117 im_Re_reachQuotients rfl (c_Re_reachQuotients_S r ax (r + 2) ao x (1, 0, 0) _ q hx (pb q hP).1 (Or.inr (pb q hP).2) (by decide) (by decide) (by decide) (by decide) hxo (by omega) (by repeat (first | exact gi_up_self _ _ _ | assumption | rw [gi_up_ne (by omega)])) (by repeat (first | exact gi_up_self _ _ _ | assumption | rw [gi_up_ne (by omega)])) (by repeat (first | exact gi_up_self _ _ _ | assumption | rw [gi_up_ne (by omega)])) (gi_up_self _ _ _)) (by repeat (first | exact gi_up_self _ _ _ | assumption | rw [gi_up_ne (by omega)])) rfl rfl ⟨(Nat.le_of_ble_eq_true rfl), (Nat.le_of_ble_eq_true rfl)⟩ (Nat.le_of_ble_eq_true rfl) ⟨(Nat.le_of_ble_eq_true rfl), (Nat.le_of_ble_eq_true rfl)⟩ (fun r91 n91 h91 e91 => ?_)
              obtain ⟨rfl, rfl, rfl⟩ := e91
              rw [gi_up_up]
              refine gi_vret C hr (dm_Re_divide 50 rfl) ?_
              exact ⟨rfl, rfl, _, _, by rw [ov]⟩
          · rcases hP : posS y with _ | q
            · rw [hN, hP] at ov
              rw [wS_n, wS_s]
              refine gi_aload_n (q := 75) (i := 0) C (dm_Re_divide 38 rfl) rfl rfl rfl ?_
              refine gi_aload_n (q := 76) (i := 1) C (dm_Re_divide 39 rfl) rfl rfl rfl ?_
              refine gi_aload_n (q := 77) (i := 0) C (dm_Re_divide 40 rfl) rfl rfl rfl ?_
              refine gi_get (q := 80) C (dm_Re_divide 41 rfl) rfl fl_Re_12 (by repeat (first | exact gi_up_self _ _ _ | assumption | rw [gi_up_ne (by omega)])) rfl ?_
              refine gi_aload_n (q := 81) (i := 3) C (dm_Re_divide 42 rfl) rfl rfl rfl ?_
              refine gi_callv 3 (q := 84) C (dm_Re_divide 43 rfl) rfl my_Re_reachQuotients lk_Re_117 im_Re_reachQuotients rfl (c_Re_reachQuotients_S r ax (r + 1) ao x (1, 0, 0) _ p hx (nb p hN).1 (Or.inl (nb p hN).2) (by decide) (by decide) (by decide) (by decide) hxo (by omega) (by repeat (first | exact gi_up_self _ _ _ | assumption | rw [gi_up_ne (by omega)])) (by repeat (first | exact gi_up_self _ _ _ | assumption | rw [gi_up_ne (by omega)])) (by repeat (first | exact gi_up_self _ _ _ | assumption | rw [gi_up_ne (by omega)])) (gi_up_self _ _ _)) (by repeat (first | exact gi_up_self _ _ _ | assumption | rw [gi_up_ne (by omega)])) rfl rfl ⟨(Nat.le_of_ble_eq_true rfl), (Nat.le_of_ble_eq_true rfl)⟩ (Nat.le_of_ble_eq_true rfl) ⟨(Nat.le_of_ble_eq_true rfl), (Nat.le_of_ble_eq_true rfl)⟩ (fun r81 n81 h81 e81 => ?_)
              obtain ⟨rfl, rfl, rfl⟩ := e81
              rw [gi_up_up]
              refine gi_aload_n (q := 85) (i := 0) C (dm_Re_divide 44 rfl) rfl rfl rfl ?_
              refine gi_aload_n (q := 86) (i := 1) C (dm_Re_divide 45 rfl) rfl rfl rfl ?_
              refine gi_aload_n (q := 87) (i := 0) C (dm_Re_divide 46 rfl) rfl rfl rfl ?_
              refine gi_get (q := 90) C (dm_Re_divide 47 rfl) rfl fl_Re_18 (by repeat (first | exact gi_up_self _ _ _ | assumption | rw [gi_up_ne (by omega)])) rfl ?_
              refine gi_aload_n (q := 91) (i := 3) C (dm_Re_divide 48 rfl) rfl rfl rfl ?_
              refine gi_callv 3 (q := 94) C (dm_Re_divide 49 rfl) rfl my_Re_reachQuotients lk_Re_117 im_Re_reachQuotients rfl (c_Re_reachQuotients_N r ax (r + 2) ao _ (by repeat (first | exact gi_up_self _ _ _ | assumption | rw [gi_up_ne (by omega)])) (by repeat (first | exact gi_up_self _ _ _ | assumption | rw [gi_up_ne (by omega)]))) (by repeat (first | exact gi_up_self _ _ _ | assumption | rw [gi_up_ne (by omega)])) rfl rfl ⟨(Nat.le_of_ble_eq_true rfl), (Nat.le_of_ble_eq_true rfl)⟩ (Nat.le_of_ble_eq_true rfl) ⟨(Nat.le_of_ble_eq_true rfl), (Nat.le_of_ble_eq_true rfl)⟩ (fun r91 n91 h91 e91 => ?_)
              obtain ⟨rfl, rfl, rfl⟩ := e91
              refine gi_vret C hr (dm_Re_divide 50 rfl) ?_
              exact ⟨rfl, rfl, _, _, by rw [ov]⟩
            · rw [hN, hP] at ov
              rw [wS_s, wS_s]
              refine gi_aload_n (q := 75) (i := 0) C (dm_Re_divide 38 rfl) rfl rfl rfl ?_
              refine gi_aload_n (q := 76) (i := 1) C (dm_Re_divide 39 rfl) rfl rfl rfl ?_
              refine gi_aload_n (q := 77) (i := 0) C (dm_Re_divide 40 rfl) rfl rfl rfl ?_
              refine gi_get (q := 80) C (dm_Re_divide 41 rfl) rfl fl_Re_12 (by repeat (first | exact gi_up_self _ _ _ | assumption | rw [gi_up_ne (by omega)])) rfl ?_
              refine gi_aload_n (q := 81) (i := 3) C (dm_Re_divide 42 rfl) rfl rfl rfl ?_
              refine gi_callv 3 (q := 84) C (dm_Re_divide 43 rfl) rfl my_Re_reachQuotients lk_Re_117 im_Re_reachQuotients rfl (c_Re_reachQuotients_S r ax (r + 1) ao x (1, 0, 0) _ p hx (nb p hN).1 (Or.inl (nb p hN).2) (by decide) (by decide) (by decide) (by decide) hxo (by omega) (by repeat (first | exact gi_up_self _ _ _ | assumption | rw [gi_up_ne (by omega)])) (by repeat (first | exact gi_up_self _ _ _ | assumption | rw [gi_up_ne (by omega)])) (by repeat (first | exact gi_up_self _ _ _ | assumption | rw [gi_up_ne (by omega)])) (gi_up_self _ _ _)) (by repeat (first | exact gi_up_self _ _ _ | assumption | rw [gi_up_ne (by omega)])) rfl rfl ⟨(Nat.le_of_ble_eq_true rfl), (Nat.le_of_ble_eq_true rfl)⟩ (Nat.le_of_ble_eq_true rfl) ⟨(Nat.le_of_ble_eq_true rfl), (Nat.le_of_ble_eq_true rfl)⟩ (fun r81 n81 h81 e81 => ?_)
              obtain ⟨rfl, rfl, rfl⟩ := e81
              rw [gi_up_up]
              have R0 := nb p hN
              have qb : -4294967296 ≤ (rea4 (1, 0, 0) (x.1.tdiv p.1) (x.1.tdiv p.2.1) (x.2.1.tdiv p.1) (x.2.1.tdiv p.2.1)).1 ∧ (rea4 (1, 0, 0) (x.1.tdiv p.1) (x.1.tdiv p.2.1) (x.2.1.tdiv p.1) (x.2.1.tdiv p.2.1)).1 ≤ 4294967296 ∧ -4294967296 ≤ (rea4 (1, 0, 0) (x.1.tdiv p.1) (x.1.tdiv p.2.1) (x.2.1.tdiv p.1) (x.2.1.tdiv p.2.1)).2.1 ∧ (rea4 (1, 0, 0) (x.1.tdiv p.1) (x.1.tdiv p.2.1) (x.2.1.tdiv p.1) (x.2.1.tdiv p.2.1)).2.1 ≤ 4294967296 := by
                have t1 := td_b (b := p.1) o1 (show x.1 ≤ 2147483647 by omega)
                have t2 := td_b (b := p.2.1) o1 (show x.1 ≤ 2147483647 by omega)
                have t3 := td_b (b := p.1) (show -2147483648 ≤ x.2.1 by omega) o3
                have t4 := td_b (b := p.2.1) (show -2147483648 ≤ x.2.1 by omega) o3
                rw [rea4_0, mkS_1, mkS_2]
                omega
              refine gi_aload_n (q := 85) (i := 0) C (dm_Re_divide 44 rfl) rfl rfl rfl ?_
              refine gi_aload_n (q := 86) (i := 1) C (dm_Re_divide 45 rfl) rfl rfl rfl ?_
              refine gi_aload_n (q := 87) (i := 0) C (dm_Re_divide 46 rfl) rfl rfl rfl ?_
              refine gi_get (q := 90) C (dm_Re_divide 47 rfl) rfl fl_Re_18 (by repeat (first | exact gi_up_self _ _ _ | assumption | rw [gi_up_ne (by omega)])) rfl ?_
              refine gi_aload_n (q := 91) (i := 3) C (dm_Re_divide 48 rfl) rfl rfl rfl ?_
              refine gi_callv 3 (q := 94) C (dm_Re_divide 49 rfl) rfl my_Re_reachQuotients lk_Re_117 im_Re_reachQuotients rfl (c_Re_reachQuotients_S r ax (r + 2) ao x _ _ q hx (pb q hP).1 (Or.inr (pb q hP).2) qb.1 qb.2.1 qb.2.2.1 qb.2.2.2 hxo (by omega) (by repeat (first | exact gi_up_self _ _ _ | assumption | rw [gi_up_ne (by omega)])) (by repeat (first | exact gi_up_self _ _ _ | assumption | rw [gi_up_ne (by omega)])) (by repeat (first | exact gi_up_self _ _ _ | assumption | rw [gi_up_ne (by omega)])) (gi_up_self _ _ _)) (by repeat (first | exact gi_up_self _ _ _ | assumption | rw [gi_up_ne (by omega)])) rfl rfl ⟨(Nat.le_of_ble_eq_true rfl), (Nat.le_of_ble_eq_true rfl)⟩ (Nat.le_of_ble_eq_true rfl) ⟨(Nat.le_of_ble_eq_true rfl), (Nat.le_of_ble_eq_true rfl)⟩ (fun r91 n91 h91 e91 => ?_)
              obtain ⟨rfl, rfl, rfl⟩ := e91
              rw [gi_up_up]
              refine gi_vret C hr (dm_Re_divide 50 rfl) ?_
              exact ⟨rfl, rfl, _, _, by rw [ov]⟩
        · refine gi_aload_n (q := 61) (i := 3) C (dm_Re_divide 30 rfl) rfl rfl rfl ?_
          refine gi_callv 0 (q := 64) C (dm_Re_divide 31 rfl) rfl my_Va_beAll lk_Re_63 im_Va_beAll rfl (c_Va_beAll ao v hc) hc rfl rfl ⟨(Nat.le_of_ble_eq_true rfl), (Nat.le_of_ble_eq_true rfl)⟩ (Nat.le_of_ble_eq_true rfl) ⟨(Nat.le_of_ble_eq_true rfl), (Nat.le_of_ble_eq_true rfl)⟩ (fun r61 n61 h61 e61 => ?_)
          obtain ⟨rfl, rfl, rfl⟩ := e61
          refine gi_vret C hr (dm_Re_divide 32 rfl) ?_
          (try simp (disch := omega) only [lg_cmp_ge, lg_cmp_le, lg_cmp_gt, lg_cmp_lt, lg_cmp_eq, eL_0, eL_1, eL_m1, eL_LO, eL_HI, eL_W, eL_add, eL_sub, eL_mul, eL_neg, eL_lt, eL_le, eL_eq, eL_remN, eL_mod0, ne_eq, Int64.not_lt, Int64.not_le] at c4)
          (try simp (disch := omega) only [lg_cmp_ge, lg_cmp_le, lg_cmp_gt, lg_cmp_lt, lg_cmp_eq, eL_0, eL_1, eL_m1, eL_LO, eL_HI, eL_W, eL_add, eL_sub, eL_mul, eL_neg, eL_lt, eL_le, eL_eq, eL_remN, eL_mod0, ne_eq, Int64.not_lt, Int64.not_le] at c11)
          (try simp (disch := omega) only [lg_cmp_ge, lg_cmp_le, lg_cmp_gt, lg_cmp_lt, lg_cmp_eq, eL_0, eL_1, eL_m1, eL_LO, eL_HI, eL_W, eL_add, eL_sub, eL_mul, eL_neg, eL_lt, eL_le, eL_eq, eL_remN, eL_mod0, ne_eq, Int64.not_lt, Int64.not_le] at c47)
          (try simp (disch := omega) only [lg_cmp_ge, lg_cmp_le, lg_cmp_gt, lg_cmp_lt, lg_cmp_eq, eL_0, eL_1, eL_m1, eL_LO, eL_HI, eL_W, eL_add, eL_sub, eL_mul, eL_neg, eL_lt, eL_le, eL_eq, eL_remN, eL_mod0, ne_eq, Int64.not_lt, Int64.not_le] at c57)
          refine ⟨rfl, rfl, u, u', ?_⟩
          rw [gi_up_id H1, gi_up_id H2]
          unfold overS
          rw [if_neg n1, if_pos ⟨by omega, by first | exact (by simpa [bI] using c57) | (cases hh : hasS y (-1) <;> simp_all [bI])⟩]
    · refine gi_aload_n (q := 15) (i := 2) C (dm_Re_divide 6 rfl) rfl rfl rfl ?_
      refine gi_get (q := 18) C (dm_Re_divide 7 rfl) rfl fl_Re_21 (by repeat (first | exact gi_up_self _ _ _ | assumption | rw [gi_up_ne (by omega)])) rfl ?_
      refine gi_lconst (q := 19) (v := 0) C (dm_Re_divide 8 rfl) rfl (by decide) ?_
      refine gi_lcmp (q := 20) C (dm_Re_divide 9 rfl) rfl ?_
      refine gi_if_eq (q := 23) (tgt := 39) C (dm_Re_divide 10 rfl) rfl (by decide) (fun c20 => ?_) (fun c20 => ?_)
      · have n1 : ¬ (x.1 = x.2.1 ∧ y.1 = y.2.1) := by
          first
            | exact fun q => sgF (by omega) (by omega) (by omega) (by omega) c4 q.1
            | exact fun q => sgF (by omega) (by omega) (by omega) (by omega) c11 q.2
            | (intro q
               (try simp (disch := omega) only [lg_cmp_ge, lg_cmp_le, lg_cmp_gt, lg_cmp_lt, lg_cmp_eq, eL_0, eL_1, eL_m1, eL_LO, eL_HI, eL_W, eL_add, eL_sub, eL_mul, eL_neg, eL_lt, eL_le, eL_eq, eL_remN, eL_mod0, ne_eq, Int64.not_lt, Int64.not_le] at c4)
               (try simp (disch := omega) only [lg_cmp_ge, lg_cmp_le, lg_cmp_gt, lg_cmp_lt, lg_cmp_eq, eL_0, eL_1, eL_m1, eL_LO, eL_HI, eL_W, eL_add, eL_sub, eL_mul, eL_neg, eL_lt, eL_le, eL_eq, eL_remN, eL_mod0, ne_eq, Int64.not_lt, Int64.not_le] at c11)
               (try simp (disch := omega) only [lg_cmp_ge, lg_cmp_le, lg_cmp_gt, lg_cmp_lt, lg_cmp_eq, eL_0, eL_1, eL_m1, eL_LO, eL_HI, eL_W, eL_add, eL_sub, eL_mul, eL_neg, eL_lt, eL_le, eL_eq, eL_remN, eL_mod0, ne_eq, Int64.not_lt, Int64.not_le] at c20)
               omega)
        refine gi_aload_n (q := 40) (i := 1) C (dm_Re_divide 21 rfl) rfl rfl rfl ?_
        refine gi_get (q := 43) C (dm_Re_divide 22 rfl) rfl fl_Re_21 (by repeat (first | exact gi_up_self _ _ _ | assumption | rw [gi_up_ne (by omega)])) rfl ?_
        refine gi_ldc2 (q := 46) C (dm_Re_divide 23 rfl) rfl kc_Re_85 ?_
        rw [eL_LO]
        refine gi_lcmp (q := 47) C (dm_Re_divide 24 rfl) rfl ?_
        refine gi_if_ne (q := 50) (tgt := 65) C (dm_Re_divide 25 rfl) rfl (by decide) (fun c47 => ?_) (fun c47 => ?_)
        · have n2 : ¬ (x.1 = -2147483648 ∧ hasS y (-1) = true) := by
            (try simp (disch := omega) only [lg_cmp_ge, lg_cmp_le, lg_cmp_gt, lg_cmp_lt, lg_cmp_eq, eL_0, eL_1, eL_m1, eL_LO, eL_HI, eL_W, eL_add, eL_sub, eL_mul, eL_neg, eL_lt, eL_le, eL_eq, eL_remN, eL_mod0, ne_eq, Int64.not_lt, Int64.not_le] at c4)
            (try simp (disch := omega) only [lg_cmp_ge, lg_cmp_le, lg_cmp_gt, lg_cmp_lt, lg_cmp_eq, eL_0, eL_1, eL_m1, eL_LO, eL_HI, eL_W, eL_add, eL_sub, eL_mul, eL_neg, eL_lt, eL_le, eL_eq, eL_remN, eL_mod0, ne_eq, Int64.not_lt, Int64.not_le] at c11)
            (try simp (disch := omega) only [lg_cmp_ge, lg_cmp_le, lg_cmp_gt, lg_cmp_lt, lg_cmp_eq, eL_0, eL_1, eL_m1, eL_LO, eL_HI, eL_W, eL_add, eL_sub, eL_mul, eL_neg, eL_lt, eL_le, eL_eq, eL_remN, eL_mod0, ne_eq, Int64.not_lt, Int64.not_le] at c20)
            (try simp (disch := omega) only [lg_cmp_ge, lg_cmp_le, lg_cmp_gt, lg_cmp_lt, lg_cmp_eq, eL_0, eL_1, eL_m1, eL_LO, eL_HI, eL_W, eL_add, eL_sub, eL_mul, eL_neg, eL_lt, eL_le, eL_eq, eL_remN, eL_mod0, ne_eq, Int64.not_lt, Int64.not_le] at c47)
            first
              | (intro q; omega)
              | (intro q
                 rw [q.2] at c57
                 exact absurd c57 (by decide))
          refine gi_aload_n (q := 66) (i := 0) C (dm_Re_divide 33 rfl) rfl rfl rfl ?_
          refine gi_aload_n (q := 67) (i := 2) C (dm_Re_divide 34 rfl) rfl rfl rfl ?_
          refine gi_callv 1 (q := 70) C (dm_Re_divide 35 rfl) rfl my_Re_splitDivisor lk_Re_111 im_Re_splitDivisor rfl (c_Re_splitDivisor r ay y u u' hy H q1 q2 q3 hb) H0 rfl rfl ⟨(Nat.le_of_ble_eq_true rfl), (Nat.le_of_ble_eq_true rfl)⟩ (Nat.le_of_ble_eq_true rfl) ⟨(Nat.le_of_ble_eq_true rfl), (Nat.le_of_ble_eq_true rfl)⟩ (fun r67 n67 h67 e67 => ?_)
          obtain ⟨rfl, rfl, rfl⟩ := e67
          refine gi_aload_n (q := 71) (i := 3) C (dm_Re_divide 36 rfl) rfl rfl rfl ?_
          refine gi_callv 0 (q := 74) C (dm_Re_divide 37 rfl) rfl my_Va_beNothing lk_Re_114 im_Va_beNothing rfl (c_Va_beNothing ao v (by repeat (first | exact gi_up_self _ _ _ | assumption | rw [gi_up_ne (by omega)]))) (by repeat (first | exact gi_up_self _ _ _ | assumption | rw [gi_up_ne (by omega)])) rfl rfl ⟨(Nat.le_of_ble_eq_true rfl), (Nat.le_of_ble_eq_true rfl)⟩ (Nat.le_of_ble_eq_true rfl) ⟨(Nat.le_of_ble_eq_true rfl), (Nat.le_of_ble_eq_true rfl)⟩ (fun r71 n71 h71 e71 => ?_)
          obtain ⟨rfl, rfl, rfl⟩ := e71
          have ov := over_2 hx hy h0 n1 n2
          have nb : ∀ p, negS y = some p → okS p ∧ p.2.1 < 0 := fun p e => ⟨(neg_has hy e).1, by have := (neg_has hy e).2.1; omega⟩
          have pb : ∀ p, posS y = some p → okS p ∧ 0 < p.1 := fun p e => ⟨(pos_has hy e).1, by have := (pos_has hy e).2; omega⟩
          rcases hN : negS y with _ | p
          · rcases hP : posS y with _ | q
            · exact absurd (np_some hy h0) (by simp [hN, hP])
            · rw [hN, hP] at ov
              rw [wS_n, wS_s]
              refine gi_aload_n (q := 75) (i := 0) C (dm_Re_divide 38 rfl) rfl rfl rfl ?_
              refine gi_aload_n (q := 76) (i := 1) C (dm_Re_divide 39 rfl) rfl rfl rfl ?_
              refine gi_aload_n (q := 77) (i := 0) C (dm_Re_divide 40 rfl) rfl rfl rfl ?_
              refine gi_get (q := 80) C (dm_Re_divide 41 rfl) rfl fl_Re_12 (by repeat (first | exact gi_up_self _ _ _ | assumption | rw [gi_up_ne (by omega)])) rfl ?_
              refine gi_aload_n (q := 81) (i := 3) C (dm_Re_divide 42 rfl) rfl rfl rfl ?_
              refine gi_callv 3 (q := 84) C (dm_Re_divide 43 rfl) rfl my_Re_reachQuotients lk_Re_117 im_Re_reachQuotients rfl (c_Re_reachQuotients_N r ax (r + 1) ao _ (by repeat (first | exact gi_up_self _ _ _ | assumption | rw [gi_up_ne (by omega)])) (by repeat (first | exact gi_up_self _ _ _ | assumption | rw [gi_up_ne (by omega)]))) (by repeat (first | exact gi_up_self _ _ _ | assumption | rw [gi_up_ne (by omega)])) rfl rfl ⟨(Nat.le_of_ble_eq_true rfl), (Nat.le_of_ble_eq_true rfl)⟩ (Nat.le_of_ble_eq_true rfl) ⟨(Nat.le_of_ble_eq_true rfl), (Nat.le_of_ble_eq_true rfl)⟩ (fun r81 n81 h81 e81 => ?_)
              obtain ⟨rfl, rfl, rfl⟩ := e81
              refine gi_aload_n (q := 85) (i := 0) C (dm_Re_divide 44 rfl) rfl rfl rfl ?_
              refine gi_aload_n (q := 86) (i := 1) C (dm_Re_divide 45 rfl) rfl rfl rfl ?_
              refine gi_aload_n (q := 87) (i := 0) C (dm_Re_divide 46 rfl) rfl rfl rfl ?_
              refine gi_get (q := 90) C (dm_Re_divide 47 rfl) rfl fl_Re_18 (by repeat (first | exact gi_up_self _ _ _ | assumption | rw [gi_up_ne (by omega)])) rfl ?_
              refine gi_aload_n (q := 91) (i := 3) C (dm_Re_divide 48 rfl) rfl rfl rfl ?_
              refine gi_callv 3 (q := 94) C (dm_Re_divide 49 rfl) rfl my_Re_reachQuotients lk_Re_117 im_Re_reachQuotients rfl (c_Re_reachQuotients_S r ax (r + 2) ao x (1, 0, 0) _ q hx (pb q hP).1 (Or.inr (pb q hP).2) (by decide) (by decide) (by decide) (by decide) hxo (by omega) (by repeat (first | exact gi_up_self _ _ _ | assumption | rw [gi_up_ne (by omega)])) (by repeat (first | exact gi_up_self _ _ _ | assumption | rw [gi_up_ne (by omega)])) (by repeat (first | exact gi_up_self _ _ _ | assumption | rw [gi_up_ne (by omega)])) (gi_up_self _ _ _)) (by repeat (first | exact gi_up_self _ _ _ | assumption | rw [gi_up_ne (by omega)])) rfl rfl ⟨(Nat.le_of_ble_eq_true rfl), (Nat.le_of_ble_eq_true rfl)⟩ (Nat.le_of_ble_eq_true rfl) ⟨(Nat.le_of_ble_eq_true rfl), (Nat.le_of_ble_eq_true rfl)⟩ (fun r91 n91 h91 e91 => ?_)
              obtain ⟨rfl, rfl, rfl⟩ := e91
              rw [gi_up_up]
              refine gi_vret C hr (dm_Re_divide 50 rfl) ?_
              exact ⟨rfl, rfl, _, _, by rw [ov]⟩
          · rcases hP : posS y with _ | q
            · rw [hN, hP] at ov
              rw [wS_n, wS_s]
              refine gi_aload_n (q := 75) (i := 0) C (dm_Re_divide 38 rfl) rfl rfl rfl ?_
              refine gi_aload_n (q := 76) (i := 1) C (dm_Re_divide 39 rfl) rfl rfl rfl ?_
              refine gi_aload_n (q := 77) (i := 0) C (dm_Re_divide 40 rfl) rfl rfl rfl ?_
              refine gi_get (q := 80) C (dm_Re_divide 41 rfl) rfl fl_Re_12 (by repeat (first | exact gi_up_self _ _ _ | assumption | rw [gi_up_ne (by omega)])) rfl ?_
              refine gi_aload_n (q := 81) (i := 3) C (dm_Re_divide 42 rfl) rfl rfl rfl ?_
              refine gi_callv 3 (q := 84) C (dm_Re_divide 43 rfl) rfl my_Re_reachQuotients lk_Re_117 im_Re_reachQuotients rfl (c_Re_reachQuotients_S r ax (r + 1) ao x (1, 0, 0) _ p hx (nb p hN).1 (Or.inl (nb p hN).2) (by decide) (by decide) (by decide) (by decide) hxo (by omega) (by repeat (first | exact gi_up_self _ _ _ | assumption | rw [gi_up_ne (by omega)])) (by repeat (first | exact gi_up_self _ _ _ | assumption | rw [gi_up_ne (by omega)])) (by repeat (first | exact gi_up_self _ _ _ | assumption | rw [gi_up_ne (by omega)])) (gi_up_self _ _ _)) (by repeat (first | exact gi_up_self _ _ _ | assumption | rw [gi_up_ne (by omega)])) rfl rfl ⟨(Nat.le_of_ble_eq_true rfl), (Nat.le_of_ble_eq_true rfl)⟩ (Nat.le_of_ble_eq_true rfl) ⟨(Nat.le_of_ble_eq_true rfl), (Nat.le_of_ble_eq_true rfl)⟩ (fun r81 n81 h81 e81 => ?_)
              obtain ⟨rfl, rfl, rfl⟩ := e81
              rw [gi_up_up]
              refine gi_aload_n (q := 85) (i := 0) C (dm_Re_divide 44 rfl) rfl rfl rfl ?_
              refine gi_aload_n (q := 86) (i := 1) C (dm_Re_divide 45 rfl) rfl rfl rfl ?_
              refine gi_aload_n (q := 87) (i := 0) C (dm_Re_divide 46 rfl) rfl rfl rfl ?_
              refine gi_get (q := 90) C (dm_Re_divide 47 rfl) rfl fl_Re_18 (by repeat (first | exact gi_up_self _ _ _ | assumption | rw [gi_up_ne (by omega)])) rfl ?_
              refine gi_aload_n (q := 91) (i := 3) C (dm_Re_divide 48 rfl) rfl rfl rfl ?_
              refine gi_callv 3 (q := 94) C (dm_Re_divide 49 rfl) rfl my_Re_reachQuotients lk_Re_117 im_Re_reachQuotients rfl (c_Re_reachQuotients_N r ax (r + 2) ao _ (by repeat (first | exact gi_up_self _ _ _ | assumption | rw [gi_up_ne (by omega)])) (by repeat (first | exact gi_up_self _ _ _ | assumption | rw [gi_up_ne (by omega)]))) (by repeat (first | exact gi_up_self _ _ _ | assumption | rw [gi_up_ne (by omega)])) rfl rfl ⟨(Nat.le_of_ble_eq_true rfl), (Nat.le_of_ble_eq_true rfl)⟩ (Nat.le_of_ble_eq_true rfl) ⟨(Nat.le_of_ble_eq_true rfl), (Nat.le_of_ble_eq_true rfl)⟩ (fun r91 n91 h91 e91 => ?_)
              obtain ⟨rfl, rfl, rfl⟩ := e91
              refine gi_vret C hr (dm_Re_divide 50 rfl) ?_
              exact ⟨rfl, rfl, _, _, by rw [ov]⟩
            · rw [hN, hP] at ov
              rw [wS_s, wS_s]
              refine gi_aload_n (q := 75) (i := 0) C (dm_Re_divide 38 rfl) rfl rfl rfl ?_
              refine gi_aload_n (q := 76) (i := 1) C (dm_Re_divide 39 rfl) rfl rfl rfl ?_
              refine gi_aload_n (q := 77) (i := 0) C (dm_Re_divide 40 rfl) rfl rfl rfl ?_
              refine gi_get (q := 80) C (dm_Re_divide 41 rfl) rfl fl_Re_12 (by repeat (first | exact gi_up_self _ _ _ | assumption | rw [gi_up_ne (by omega)])) rfl ?_
              refine gi_aload_n (q := 81) (i := 3) C (dm_Re_divide 42 rfl) rfl rfl rfl ?_
              refine gi_callv 3 (q := 84) C (dm_Re_divide 43 rfl) rfl my_Re_reachQuotients lk_Re_117 im_Re_reachQuotients rfl (c_Re_reachQuotients_S r ax (r + 1) ao x (1, 0, 0) _ p hx (nb p hN).1 (Or.inl (nb p hN).2) (by decide) (by decide) (by decide) (by decide) hxo (by omega) (by repeat (first | exact gi_up_self _ _ _ | assumption | rw [gi_up_ne (by omega)])) (by repeat (first | exact gi_up_self _ _ _ | assumption | rw [gi_up_ne (by omega)])) (by repeat (first | exact gi_up_self _ _ _ | assumption | rw [gi_up_ne (by omega)])) (gi_up_self _ _ _)) (by repeat (first | exact gi_up_self _ _ _ | assumption | rw [gi_up_ne (by omega)])) rfl rfl ⟨(Nat.le_of_ble_eq_true rfl), (Nat.le_of_ble_eq_true rfl)⟩ (Nat.le_of_ble_eq_true rfl) ⟨(Nat.le_of_ble_eq_true rfl), (Nat.le_of_ble_eq_true rfl)⟩ (fun r81 n81 h81 e81 => ?_)
              obtain ⟨rfl, rfl, rfl⟩ := e81
              rw [gi_up_up]
              have R0 := nb p hN
              have qb : -4294967296 ≤ (rea4 (1, 0, 0) (x.1.tdiv p.1) (x.1.tdiv p.2.1) (x.2.1.tdiv p.1) (x.2.1.tdiv p.2.1)).1 ∧ (rea4 (1, 0, 0) (x.1.tdiv p.1) (x.1.tdiv p.2.1) (x.2.1.tdiv p.1) (x.2.1.tdiv p.2.1)).1 ≤ 4294967296 ∧ -4294967296 ≤ (rea4 (1, 0, 0) (x.1.tdiv p.1) (x.1.tdiv p.2.1) (x.2.1.tdiv p.1) (x.2.1.tdiv p.2.1)).2.1 ∧ (rea4 (1, 0, 0) (x.1.tdiv p.1) (x.1.tdiv p.2.1) (x.2.1.tdiv p.1) (x.2.1.tdiv p.2.1)).2.1 ≤ 4294967296 := by
                have t1 := td_b (b := p.1) o1 (show x.1 ≤ 2147483647 by omega)
                have t2 := td_b (b := p.2.1) o1 (show x.1 ≤ 2147483647 by omega)
                have t3 := td_b (b := p.1) (show -2147483648 ≤ x.2.1 by omega) o3
                have t4 := td_b (b := p.2.1) (show -2147483648 ≤ x.2.1 by omega) o3
                rw [rea4_0, mkS_1, mkS_2]
                omega
              refine gi_aload_n (q := 85) (i := 0) C (dm_Re_divide 44 rfl) rfl rfl rfl ?_
              refine gi_aload_n (q := 86) (i := 1) C (dm_Re_divide 45 rfl) rfl rfl rfl ?_
              refine gi_aload_n (q := 87) (i := 0) C (dm_Re_divide 46 rfl) rfl rfl rfl ?_
              refine gi_get (q := 90) C (dm_Re_divide 47 rfl) rfl fl_Re_18 (by repeat (first | exact gi_up_self _ _ _ | assumption | rw [gi_up_ne (by omega)])) rfl ?_
              refine gi_aload_n (q := 91) (i := 3) C (dm_Re_divide 48 rfl) rfl rfl rfl ?_
              refine gi_callv 3 (q := 94) C (dm_Re_divide 49 rfl) rfl my_Re_reachQuotients lk_Re_117 im_Re_reachQuotients rfl (c_Re_reachQuotients_S r ax (r + 2) ao x _ _ q hx (pb q hP).1 (Or.inr (pb q hP).2) qb.1 qb.2.1 qb.2.2.1 qb.2.2.2 hxo (by omega) (by repeat (first | exact gi_up_self _ _ _ | assumption | rw [gi_up_ne (by omega)])) (by repeat (first | exact gi_up_self _ _ _ | assumption | rw [gi_up_ne (by omega)])) (by repeat (first | exact gi_up_self _ _ _ | assumption | rw [gi_up_ne (by omega)])) (gi_up_self _ _ _)) (by repeat (first | exact gi_up_self _ _ _ | assumption | rw [gi_up_ne (by omega)])) rfl rfl ⟨(Nat.le_of_ble_eq_true rfl), (Nat.le_of_ble_eq_true rfl)⟩ (Nat.le_of_ble_eq_true rfl) ⟨(Nat.le_of_ble_eq_true rfl), (Nat.le_of_ble_eq_true rfl)⟩ (fun r91 n91 h91 e91 => ?_)
              obtain ⟨rfl, rfl, rfl⟩ := e91
              rw [gi_up_up]
              refine gi_vret C hr (dm_Re_divide 50 rfl) ?_
              exact ⟨rfl, rfl, _, _, by rw [ov]⟩
        · refine gi_aload_n (q := 51) (i := 2) C (dm_Re_divide 26 rfl) rfl rfl rfl ?_
          refine gi_ldc2 (q := 54) C (dm_Re_divide 27 rfl) rfl kc_Re_101 ?_
          rw [eL_m1]
          refine gi_callv 1 (q := 57) C (dm_Re_divide 28 rfl) rfl my_Va_has lk_Re_107 im_Va_has rfl (c_Va_has ay y (-1) hy (by decide) (by decide) hb) hb rfl rfl ⟨(Nat.le_of_ble_eq_true rfl), (Nat.le_of_ble_eq_true rfl)⟩ (Nat.le_of_ble_eq_true rfl) ⟨(Nat.le_of_ble_eq_true rfl), (Nat.le_of_ble_eq_true rfl)⟩ (fun r54 n54 h54 e54 => ?_)
          obtain ⟨rfl, rfl, rfl⟩ := e54
          refine gi_if_eq (q := 60) (tgt := 65) C (dm_Re_divide 29 rfl) rfl (by decide) (fun c57 => ?_) (fun c57 => ?_)
          · have n2 : ¬ (x.1 = -2147483648 ∧ hasS y (-1) = true) := by
              (try simp (disch := omega) only [lg_cmp_ge, lg_cmp_le, lg_cmp_gt, lg_cmp_lt, lg_cmp_eq, eL_0, eL_1, eL_m1, eL_LO, eL_HI, eL_W, eL_add, eL_sub, eL_mul, eL_neg, eL_lt, eL_le, eL_eq, eL_remN, eL_mod0, ne_eq, Int64.not_lt, Int64.not_le] at c4)
              (try simp (disch := omega) only [lg_cmp_ge, lg_cmp_le, lg_cmp_gt, lg_cmp_lt, lg_cmp_eq, eL_0, eL_1, eL_m1, eL_LO, eL_HI, eL_W, eL_add, eL_sub, eL_mul, eL_neg, eL_lt, eL_le, eL_eq, eL_remN, eL_mod0, ne_eq, Int64.not_lt, Int64.not_le] at c11)
              (try simp (disch := omega) only [lg_cmp_ge, lg_cmp_le, lg_cmp_gt, lg_cmp_lt, lg_cmp_eq, eL_0, eL_1, eL_m1, eL_LO, eL_HI, eL_W, eL_add, eL_sub, eL_mul, eL_neg, eL_lt, eL_le, eL_eq, eL_remN, eL_mod0, ne_eq, Int64.not_lt, Int64.not_le] at c20)
              (try simp (disch := omega) only [lg_cmp_ge, lg_cmp_le, lg_cmp_gt, lg_cmp_lt, lg_cmp_eq, eL_0, eL_1, eL_m1, eL_LO, eL_HI, eL_W, eL_add, eL_sub, eL_mul, eL_neg, eL_lt, eL_le, eL_eq, eL_remN, eL_mod0, ne_eq, Int64.not_lt, Int64.not_le] at c47)
              (try simp (disch := omega) only [lg_cmp_ge, lg_cmp_le, lg_cmp_gt, lg_cmp_lt, lg_cmp_eq, eL_0, eL_1, eL_m1, eL_LO, eL_HI, eL_W, eL_add, eL_sub, eL_mul, eL_neg, eL_lt, eL_le, eL_eq, eL_remN, eL_mod0, ne_eq, Int64.not_lt, Int64.not_le] at c57)
              first
                | (intro q; omega)
                | (intro q
                   rw [q.2] at c57
                   exact absurd c57 (by decide))
            refine gi_aload_n (q := 66) (i := 0) C (dm_Re_divide 33 rfl) rfl rfl rfl ?_
            refine gi_aload_n (q := 67) (i := 2) C (dm_Re_divide 34 rfl) rfl rfl rfl ?_
            refine gi_callv 1 (q := 70) C (dm_Re_divide 35 rfl) rfl my_Re_splitDivisor lk_Re_111 im_Re_splitDivisor rfl (c_Re_splitDivisor r ay y u u' hy H q1 q2 q3 hb) H0 rfl rfl ⟨(Nat.le_of_ble_eq_true rfl), (Nat.le_of_ble_eq_true rfl)⟩ (Nat.le_of_ble_eq_true rfl) ⟨(Nat.le_of_ble_eq_true rfl), (Nat.le_of_ble_eq_true rfl)⟩ (fun r67 n67 h67 e67 => ?_)
            obtain ⟨rfl, rfl, rfl⟩ := e67
            refine gi_aload_n (q := 71) (i := 3) C (dm_Re_divide 36 rfl) rfl rfl rfl ?_
            refine gi_callv 0 (q := 74) C (dm_Re_divide 37 rfl) rfl my_Va_beNothing lk_Re_114 im_Va_beNothing rfl (c_Va_beNothing ao v (by repeat (first | exact gi_up_self _ _ _ | assumption | rw [gi_up_ne (by omega)]))) (by repeat (first | exact gi_up_self _ _ _ | assumption | rw [gi_up_ne (by omega)])) rfl rfl ⟨(Nat.le_of_ble_eq_true rfl), (Nat.le_of_ble_eq_true rfl)⟩ (Nat.le_of_ble_eq_true rfl) ⟨(Nat.le_of_ble_eq_true rfl), (Nat.le_of_ble_eq_true rfl)⟩ (fun r71 n71 h71 e71 => ?_)
            obtain ⟨rfl, rfl, rfl⟩ := e71
            have ov := over_2 hx hy h0 n1 n2
            have nb : ∀ p, negS y = some p → okS p ∧ p.2.1 < 0 := fun p e => ⟨(neg_has hy e).1, by have := (neg_has hy e).2.1; omega⟩
            have pb : ∀ p, posS y = some p → okS p ∧ 0 < p.1 := fun p e => ⟨(pos_has hy e).1, by have := (pos_has hy e).2; omega⟩
            rcases hN : negS y with _ | p
            · rcases hP : posS y with _ | q
              · exact absurd (np_some hy h0) (by simp [hN, hP])
              · rw [hN, hP] at ov
                rw [wS_n, wS_s]
                refine gi_aload_n (q := 75) (i := 0) C (dm_Re_divide 38 rfl) rfl rfl rfl ?_
                refine gi_aload_n (q := 76) (i := 1) C (dm_Re_divide 39 rfl) rfl rfl rfl ?_
                refine gi_aload_n (q := 77) (i := 0) C (dm_Re_divide 40 rfl) rfl rfl rfl ?_
                refine gi_get (q := 80) C (dm_Re_divide 41 rfl) rfl fl_Re_12 (by repeat (first | exact gi_up_self _ _ _ | assumption | rw [gi_up_ne (by omega)])) rfl ?_
                refine gi_aload_n (q := 81) (i := 3) C (dm_Re_divide 42 rfl) rfl rfl rfl ?_
                refine gi_callv 3 (q := 84) C (dm_Re_divide 43 rfl) rfl my_Re_reachQuotients lk_Re_117 im_Re_reachQuotients rfl (c_Re_reachQuotients_N r ax (r + 1) ao _ (by repeat (first | exact gi_up_self _ _ _ | assumption | rw [gi_up_ne (by omega)])) (by repeat (first | exact gi_up_self _ _ _ | assumption | rw [gi_up_ne (by omega)]))) (by repeat (first | exact gi_up_self _ _ _ | assumption | rw [gi_up_ne (by omega)])) rfl rfl ⟨(Nat.le_of_ble_eq_true rfl), (Nat.le_of_ble_eq_true rfl)⟩ (Nat.le_of_ble_eq_true rfl) ⟨(Nat.le_of_ble_eq_true rfl), (Nat.le_of_ble_eq_true rfl)⟩ (fun r81 n81 h81 e81 => ?_)
                obtain ⟨rfl, rfl, rfl⟩ := e81
                refine gi_aload_n (q := 85) (i := 0) C (dm_Re_divide 44 rfl) rfl rfl rfl ?_
                refine gi_aload_n (q := 86) (i := 1) C (dm_Re_divide 45 rfl) rfl rfl rfl ?_
                refine gi_aload_n (q := 87) (i := 0) C (dm_Re_divide 46 rfl) rfl rfl rfl ?_
                refine gi_get (q := 90) C (dm_Re_divide 47 rfl) rfl fl_Re_18 (by repeat (first | exact gi_up_self _ _ _ | assumption | rw [gi_up_ne (by omega)])) rfl ?_
                refine gi_aload_n (q := 91) (i := 3) C (dm_Re_divide 48 rfl) rfl rfl rfl ?_
                refine gi_callv 3 (q := 94) C (dm_Re_divide 49 rfl) rfl my_Re_reachQuotients lk_Re_117 im_Re_reachQuotients rfl (c_Re_reachQuotients_S r ax (r + 2) ao x (1, 0, 0) _ q hx (pb q hP).1 (Or.inr (pb q hP).2) (by decide) (by decide) (by decide) (by decide) hxo (by omega) (by repeat (first | exact gi_up_self _ _ _ | assumption | rw [gi_up_ne (by omega)])) (by repeat (first | exact gi_up_self _ _ _ | assumption | rw [gi_up_ne (by omega)])) (by repeat (first | exact gi_up_self _ _ _ | assumption | rw [gi_up_ne (by omega)])) (gi_up_self _ _ _)) (by repeat (first | exact gi_up_self _ _ _ | assumption | rw [gi_up_ne (by omega)])) rfl rfl ⟨(Nat.le_of_ble_eq_true rfl), (Nat.le_of_ble_eq_true rfl)⟩ (Nat.le_of_ble_eq_true rfl) ⟨(Nat.le_of_ble_eq_true rfl), (Nat.le_of_ble_eq_true rfl)⟩ (fun r91 n91 h91 e91 => ?_)
                obtain ⟨rfl, rfl, rfl⟩ := e91
                rw [gi_up_up]
                refine gi_vret C hr (dm_Re_divide 50 rfl) ?_
                exact ⟨rfl, rfl, _, _, by rw [ov]⟩
            · rcases hP : posS y with _ | q
              · rw [hN, hP] at ov
                rw [wS_n, wS_s]
                refine gi_aload_n (q := 75) (i := 0) C (dm_Re_divide 38 rfl) rfl rfl rfl ?_
                refine gi_aload_n (q := 76) (i := 1) C (dm_Re_divide 39 rfl) rfl rfl rfl ?_
                refine gi_aload_n (q := 77) (i := 0) C (dm_Re_divide 40 rfl) rfl rfl rfl ?_
                refine gi_get (q := 80) C (dm_Re_divide 41 rfl) rfl fl_Re_12 (by repeat (first | exact gi_up_self _ _ _ | assumption | rw [gi_up_ne (by omega)])) rfl ?_
                refine gi_aload_n (q := 81) (i := 3) C (dm_Re_divide 42 rfl) rfl rfl rfl ?_
                refine gi_callv 3 (q := 84) C (dm_Re_divide 43 rfl) rfl my_Re_reachQuotients lk_Re_117 im_Re_reachQuotients rfl (c_Re_reachQuotients_S r ax (r + 1) ao x (1, 0, 0) _ p hx (nb p hN).1 (Or.inl (nb p hN).2) (by decide) (by decide) (by decide) (by decide) hxo (by omega) (by repeat (first | exact gi_up_self _ _ _ | assumption | rw [gi_up_ne (by omega)])) (by repeat (first | exact gi_up_self _ _ _ | assumption | rw [gi_up_ne (by omega)])) (by repeat (first | exact gi_up_self _ _ _ | assumption | rw [gi_up_ne (by omega)])) (gi_up_self _ _ _)) (by repeat (first | exact gi_up_self _ _ _ | assumption | rw [gi_up_ne (by omega)])) rfl rfl ⟨(Nat.le_of_ble_eq_true rfl), (Nat.le_of_ble_eq_true rfl)⟩ (Nat.le_of_ble_eq_true rfl) ⟨(Nat.le_of_ble_eq_true rfl), (Nat.le_of_ble_eq_true rfl)⟩ (fun r81 n81 h81 e81 => ?_)
                obtain ⟨rfl, rfl, rfl⟩ := e81
                rw [gi_up_up]
                refine gi_aload_n (q := 85) (i := 0) C (dm_Re_divide 44 rfl) rfl rfl rfl ?_
                refine gi_aload_n (q := 86) (i := 1) C (dm_Re_divide 45 rfl) rfl rfl rfl ?_
                refine gi_aload_n (q := 87) (i := 0) C (dm_Re_divide 46 rfl) rfl rfl rfl ?_
                refine gi_get (q := 90) C (dm_Re_divide 47 rfl) rfl fl_Re_18 (by repeat (first | exact gi_up_self _ _ _ | assumption | rw [gi_up_ne (by omega)])) rfl ?_
                refine gi_aload_n (q := 91) (i := 3) C (dm_Re_divide 48 rfl) rfl rfl rfl ?_
                refine gi_callv 3 (q := 94) C (dm_Re_divide 49 rfl) rfl my_Re_reachQuotients lk_Re_117 im_Re_reachQuotients rfl (c_Re_reachQuotients_N r ax (r + 2) ao _ (by repeat (first | exact gi_up_self _ _ _ | assumption | rw [gi_up_ne (by omega)])) (by repeat (first | exact gi_up_self _ _ _ | assumption | rw [gi_up_ne (by omega)]))) (by repeat (first | exact gi_up_self _ _ _ | assumption | rw [gi_up_ne (by omega)])) rfl rfl ⟨(Nat.le_of_ble_eq_true rfl), (Nat.le_of_ble_eq_true rfl)⟩ (Nat.le_of_ble_eq_true rfl) ⟨(Nat.le_of_ble_eq_true rfl), (Nat.le_of_ble_eq_true rfl)⟩ (fun r91 n91 h91 e91 => ?_)
                obtain ⟨rfl, rfl, rfl⟩ := e91
                refine gi_vret C hr (dm_Re_divide 50 rfl) ?_
                exact ⟨rfl, rfl, _, _, by rw [ov]⟩
              · rw [hN, hP] at ov
                rw [wS_s, wS_s]
                refine gi_aload_n (q := 75) (i := 0) C (dm_Re_divide 38 rfl) rfl rfl rfl ?_
                refine gi_aload_n (q := 76) (i := 1) C (dm_Re_divide 39 rfl) rfl rfl rfl ?_
                refine gi_aload_n (q := 77) (i := 0) C (dm_Re_divide 40 rfl) rfl rfl rfl ?_
                refine gi_get (q := 80) C (dm_Re_divide 41 rfl) rfl fl_Re_12 (by repeat (first | exact gi_up_self _ _ _ | assumption | rw [gi_up_ne (by omega)])) rfl ?_
                refine gi_aload_n (q := 81) (i := 3) C (dm_Re_divide 42 rfl) rfl rfl rfl ?_
                refine gi_callv 3 (q := 84) C (dm_Re_divide 43 rfl) rfl my_Re_reachQuotients lk_Re_117 im_Re_reachQuotients rfl (c_Re_reachQuotients_S r ax (r + 1) ao x (1, 0, 0) _ p hx (nb p hN).1 (Or.inl (nb p hN).2) (by decide) (by decide) (by decide) (by decide) hxo (by omega) (by repeat (first | exact gi_up_self _ _ _ | assumption | rw [gi_up_ne (by omega)])) (by repeat (first | exact gi_up_self _ _ _ | assumption | rw [gi_up_ne (by omega)])) (by repeat (first | exact gi_up_self _ _ _ | assumption | rw [gi_up_ne (by omega)])) (gi_up_self _ _ _)) (by repeat (first | exact gi_up_self _ _ _ | assumption | rw [gi_up_ne (by omega)])) rfl rfl ⟨(Nat.le_of_ble_eq_true rfl), (Nat.le_of_ble_eq_true rfl)⟩ (Nat.le_of_ble_eq_true rfl) ⟨(Nat.le_of_ble_eq_true rfl), (Nat.le_of_ble_eq_true rfl)⟩ (fun r81 n81 h81 e81 => ?_)
                obtain ⟨rfl, rfl, rfl⟩ := e81
                rw [gi_up_up]
                have R0 := nb p hN
                have qb : -4294967296 ≤ (rea4 (1, 0, 0) (x.1.tdiv p.1) (x.1.tdiv p.2.1) (x.2.1.tdiv p.1) (x.2.1.tdiv p.2.1)).1 ∧ (rea4 (1, 0, 0) (x.1.tdiv p.1) (x.1.tdiv p.2.1) (x.2.1.tdiv p.1) (x.2.1.tdiv p.2.1)).1 ≤ 4294967296 ∧ -4294967296 ≤ (rea4 (1, 0, 0) (x.1.tdiv p.1) (x.1.tdiv p.2.1) (x.2.1.tdiv p.1) (x.2.1.tdiv p.2.1)).2.1 ∧ (rea4 (1, 0, 0) (x.1.tdiv p.1) (x.1.tdiv p.2.1) (x.2.1.tdiv p.1) (x.2.1.tdiv p.2.1)).2.1 ≤ 4294967296 := by
                  have t1 := td_b (b := p.1) o1 (show x.1 ≤ 2147483647 by omega)
                  have t2 := td_b (b := p.2.1) o1 (show x.1 ≤ 2147483647 by omega)
                  have t3 := td_b (b := p.1) (show -2147483648 ≤ x.2.1 by omega) o3
                  have t4 := td_b (b := p.2.1) (show -2147483648 ≤ x.2.1 by omega) o3
                  rw [rea4_0, mkS_1, mkS_2]
                  omega
                refine gi_aload_n (q := 85) (i := 0) C (dm_Re_divide 44 rfl) rfl rfl rfl ?_
                refine gi_aload_n (q := 86) (i := 1) C (dm_Re_divide 45 rfl) rfl rfl rfl ?_
                refine gi_aload_n (q := 87) (i := 0) C (dm_Re_divide 46 rfl) rfl rfl rfl ?_
                refine gi_get (q := 90) C (dm_Re_divide 47 rfl) rfl fl_Re_18 (by repeat (first | exact gi_up_self _ _ _ | assumption | rw [gi_up_ne (by omega)])) rfl ?_
                refine gi_aload_n (q := 91) (i := 3) C (dm_Re_divide 48 rfl) rfl rfl rfl ?_
                refine gi_callv 3 (q := 94) C (dm_Re_divide 49 rfl) rfl my_Re_reachQuotients lk_Re_117 im_Re_reachQuotients rfl (c_Re_reachQuotients_S r ax (r + 2) ao x _ _ q hx (pb q hP).1 (Or.inr (pb q hP).2) qb.1 qb.2.1 qb.2.2.1 qb.2.2.2 hxo (by omega) (by repeat (first | exact gi_up_self _ _ _ | assumption | rw [gi_up_ne (by omega)])) (by repeat (first | exact gi_up_self _ _ _ | assumption | rw [gi_up_ne (by omega)])) (by repeat (first | exact gi_up_self _ _ _ | assumption | rw [gi_up_ne (by omega)])) (gi_up_self _ _ _)) (by repeat (first | exact gi_up_self _ _ _ | assumption | rw [gi_up_ne (by omega)])) rfl rfl ⟨(Nat.le_of_ble_eq_true rfl), (Nat.le_of_ble_eq_true rfl)⟩ (Nat.le_of_ble_eq_true rfl) ⟨(Nat.le_of_ble_eq_true rfl), (Nat.le_of_ble_eq_true rfl)⟩ (fun r91 n91 h91 e91 => ?_)
                obtain ⟨rfl, rfl, rfl⟩ := e91
                rw [gi_up_up]
                refine gi_vret C hr (dm_Re_divide 50 rfl) ?_
                exact ⟨rfl, rfl, _, _, by rw [ov]⟩
          · refine gi_aload_n (q := 61) (i := 3) C (dm_Re_divide 30 rfl) rfl rfl rfl ?_
            refine gi_callv 0 (q := 64) C (dm_Re_divide 31 rfl) rfl my_Va_beAll lk_Re_63 im_Va_beAll rfl (c_Va_beAll ao v hc) hc rfl rfl ⟨(Nat.le_of_ble_eq_true rfl), (Nat.le_of_ble_eq_true rfl)⟩ (Nat.le_of_ble_eq_true rfl) ⟨(Nat.le_of_ble_eq_true rfl), (Nat.le_of_ble_eq_true rfl)⟩ (fun r61 n61 h61 e61 => ?_)
            obtain ⟨rfl, rfl, rfl⟩ := e61
            refine gi_vret C hr (dm_Re_divide 32 rfl) ?_
            (try simp (disch := omega) only [lg_cmp_ge, lg_cmp_le, lg_cmp_gt, lg_cmp_lt, lg_cmp_eq, eL_0, eL_1, eL_m1, eL_LO, eL_HI, eL_W, eL_add, eL_sub, eL_mul, eL_neg, eL_lt, eL_le, eL_eq, eL_remN, eL_mod0, ne_eq, Int64.not_lt, Int64.not_le] at c4)
            (try simp (disch := omega) only [lg_cmp_ge, lg_cmp_le, lg_cmp_gt, lg_cmp_lt, lg_cmp_eq, eL_0, eL_1, eL_m1, eL_LO, eL_HI, eL_W, eL_add, eL_sub, eL_mul, eL_neg, eL_lt, eL_le, eL_eq, eL_remN, eL_mod0, ne_eq, Int64.not_lt, Int64.not_le] at c11)
            (try simp (disch := omega) only [lg_cmp_ge, lg_cmp_le, lg_cmp_gt, lg_cmp_lt, lg_cmp_eq, eL_0, eL_1, eL_m1, eL_LO, eL_HI, eL_W, eL_add, eL_sub, eL_mul, eL_neg, eL_lt, eL_le, eL_eq, eL_remN, eL_mod0, ne_eq, Int64.not_lt, Int64.not_le] at c20)
            (try simp (disch := omega) only [lg_cmp_ge, lg_cmp_le, lg_cmp_gt, lg_cmp_lt, lg_cmp_eq, eL_0, eL_1, eL_m1, eL_LO, eL_HI, eL_W, eL_add, eL_sub, eL_mul, eL_neg, eL_lt, eL_le, eL_eq, eL_remN, eL_mod0, ne_eq, Int64.not_lt, Int64.not_le] at c47)
            (try simp (disch := omega) only [lg_cmp_ge, lg_cmp_le, lg_cmp_gt, lg_cmp_lt, lg_cmp_eq, eL_0, eL_1, eL_m1, eL_LO, eL_HI, eL_W, eL_add, eL_sub, eL_mul, eL_neg, eL_lt, eL_le, eL_eq, eL_remN, eL_mod0, ne_eq, Int64.not_lt, Int64.not_le] at c57)
            refine ⟨rfl, rfl, u, u', ?_⟩
            rw [gi_up_id H1, gi_up_id H2]
            unfold overS
            rw [if_neg n1, if_pos ⟨by omega, by first | exact (by simpa [bI] using c57) | (cases hh : hasS y (-1) <;> simp_all [bI])⟩]
      · have e1 : x.1 = x.2.1 := sgT (by omega) (by omega) (by omega) (by omega) c4
        have e2 : y.1 = y.2.1 := sgT (by omega) (by omega) (by omega) (by omega) c11
        refine gi_aload_n (q := 24) (i := 3) C (dm_Re_divide 11 rfl) rfl rfl rfl ?_
        refine gi_aload_n (q := 25) (i := 1) C (dm_Re_divide 12 rfl) rfl rfl rfl ?_
        refine gi_get (q := 28) C (dm_Re_divide 13 rfl) rfl fl_Re_21 (by repeat (first | exact gi_up_self _ _ _ | assumption | rw [gi_up_ne (by omega)])) rfl ?_
        refine gi_aload_n (q := 29) (i := 2) C (dm_Re_divide 14 rfl) rfl rfl rfl ?_
        refine gi_get (q := 32) C (dm_Re_divide 15 rfl) rfl fl_Re_21 (by repeat (first | exact gi_up_self _ _ _ | assumption | rw [gi_up_ne (by omega)])) rfl ?_
        refine gi_ldiv (q := 33) C (dm_Re_divide 16 rfl) rfl (fun q => c20 ((lg_cmp_eq _ _).mpr q)) ?_
        rw [eL_div (by omega) (by omega) (by omega) (by omega)]
        refine gi_l2i (q := 34) C (dm_Re_divide 17 rfl) rfl ?_
        refine gi_i2l (q := 35) C (dm_Re_divide 18 rfl) rfl ?_
        rw [eL_cast]
        refine gi_callv 1 (q := 38) C (dm_Re_divide 19 rfl) rfl my_Va_beSingle lk_Re_90 im_Va_beSingle rfl (c_Va_beSingle ao v _ hc) hc rfl rfl ⟨(Nat.le_of_ble_eq_true rfl), (Nat.le_of_ble_eq_true rfl)⟩ (Nat.le_of_ble_eq_true rfl) ⟨(Nat.le_of_ble_eq_true rfl), (Nat.le_of_ble_eq_true rfl)⟩ (fun r35 n35 h35 e35 => ?_)
        obtain ⟨rfl, rfl, rfl⟩ := e35
        refine gi_vret C hr (dm_Re_divide 20 rfl) ?_
        (try simp (disch := omega) only [lg_cmp_ge, lg_cmp_le, lg_cmp_gt, lg_cmp_lt, lg_cmp_eq, eL_0, eL_1, eL_m1, eL_LO, eL_HI, eL_W, eL_add, eL_sub, eL_mul, eL_neg, eL_lt, eL_le, eL_eq, eL_remN, eL_mod0, ne_eq, Int64.not_lt, Int64.not_le] at c4)
        (try simp (disch := omega) only [lg_cmp_ge, lg_cmp_le, lg_cmp_gt, lg_cmp_lt, lg_cmp_eq, eL_0, eL_1, eL_m1, eL_LO, eL_HI, eL_W, eL_add, eL_sub, eL_mul, eL_neg, eL_lt, eL_le, eL_eq, eL_remN, eL_mod0, ne_eq, Int64.not_lt, Int64.not_le] at c11)
        (try simp (disch := omega) only [lg_cmp_ge, lg_cmp_le, lg_cmp_gt, lg_cmp_lt, lg_cmp_eq, eL_0, eL_1, eL_m1, eL_LO, eL_HI, eL_W, eL_add, eL_sub, eL_mul, eL_neg, eL_lt, eL_le, eL_eq, eL_remN, eL_mod0, ne_eq, Int64.not_lt, Int64.not_le] at c20)
        refine ⟨rfl, rfl, u, u', ?_⟩
        rw [gi_up_id H1, gi_up_id H2]
        unfold overS
        rw [if_pos ⟨e1, e2⟩]
        have td := td_b (b := y.1) o1 (show x.1 ≤ 2147483647 by omega)
        split
        · rename_i q
          rw [q.1, q.2]
          rfl
        · rename_i q
          have tb := tdiv_b (b := y.1) o1 (show x.1 ≤ 2147483647 by omega) q
          rw [show x.1.tdiv y.1 - (x.1.tdiv y.1 + 2147483648) / 4294967296 * 4294967296 = x.1.tdiv y.1 by omega]
end RE3
