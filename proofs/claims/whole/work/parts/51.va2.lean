section VA2
variable {l : Launch} {V : gi_V} {n : Nat} {h : gi_H}
abbrev sV (x : Sp) : mV := (0, eL x.1, eL x.2.1, eL x.2.2, 0, 0)
abbrev tV (b : Int32) (o : Bool) : mV := (1, 0, 0, 0, b, bI o)
def wfV (w : mV) : Prop := (w.1 = 0 ∨ w.1 = 1) ∧ (w.2.2.2.2.2 = 0 ∨ w.2.2.2.2.2 = 1)
theorem wf_s (x : Sp) : wfV (sV x) := ⟨Or.inl rfl, Or.inl rfl⟩
theorem wf_t (b : Int32) (o : Bool) : wfV (tV b o) := ⟨Or.inr rfl, by cases o <;> simp [bI]⟩
theorem nb_n {x : Int32} (h : x = 0 ∨ x = 1) : narrow .boolean (.int x) = .int x := by rcases h with rfl | rfl <;> rfl
theorem nb_f {x : Int32} (h : x = 0 ∨ x = 1) : fits .boolean (.int x) = true := by rcases h with rfl | rfl <;> rfl
theorem bI_01 (b : Bool) : bI b = 0 ∨ bI b = 1 := by cases b <;> simp [bI]
theorem gcd_half {a b : Nat} (hb : 0 < b) (h : b ≤ a) : b * (a % b) * 2 ≤ a * b := by
  have h1 := Nat.mod_lt a hb
  have h2 : a % b + b ≤ a := by
    have h3 := Nat.div_add_mod a b
    have h4 : 1 ≤ a / b := (Nat.le_div_iff_mul_le hb).mpr (by omega)
    have h5 : b * 1 ≤ b * (a / b) := Nat.mul_le_mul_left b h4
    omega
  have h6 : a % b * 2 ≤ a := by omega
  calc b * (a % b) * 2 = a % b * 2 * b := by rw [Nat.mul_assoc, Nat.mul_comm]
    _ ≤ a * b := Nat.mul_le_mul_right b h6
set_option maxHeartbeats 4000000 in
set_option maxRecDepth 100000 in
theorem c_Va_copy (a b : Nat) (v u : mV) (ha : h a = some (eV v)) (hb : h b = some (eV u)) (hab : a ≠ b) (hu : wfV u) : gi_T l V y_Va_copy b_Va_copy 2 none 0 0 0 0 [.ref a, .ref b] n h (gi_is none n (gi_up h a (eV u))) := by
  refine gi_enter (by decide) (Nat.le_of_ble_eq_true rfl) ?_
  intro _ _ _ _ _ _ _ _ C hr hnm
  refine gi_aload_n (q := 1) (i := 0) C (dm_Va_copy 0 rfl) rfl rfl rfl ?_
  refine gi_aload_n (q := 2) (i := 1) C (dm_Va_copy 1 rfl) rfl rfl rfl ?_
  refine gi_get (q := 5) C (dm_Va_copy 2 rfl) rfl fl_Va_9 (by repeat (first | exact gi_up_self _ _ _ | assumption | rw [gi_up_ne (by omega)])) rfl ?_
  refine gi_put (q := 8) C (dm_Va_copy 3 rfl) rfl fl_Va_9 fp_Va_0 (by repeat (first | exact gi_up_self _ _ _ | assumption | rw [gi_up_ne (by omega)])) (Nat.le_of_ble_eq_true rfl) (nb_n hu.1) (nb_f hu.1) ?_
  refine gi_aload_n (q := 9) (i := 0) C (dm_Va_copy 4 rfl) rfl rfl rfl ?_
  refine gi_aload_n (q := 10) (i := 1) C (dm_Va_copy 5 rfl) rfl rfl rfl ?_
  refine gi_get (q := 13) C (dm_Va_copy 6 rfl) rfl fl_Va_15 (by repeat (first | exact gi_up_self _ _ _ | assumption | rw [gi_up_ne (by omega)])) rfl ?_
  refine gi_put (q := 16) C (dm_Va_copy 7 rfl) rfl fl_Va_15 fp_Va_1 (by repeat (first | exact gi_up_self _ _ _ | assumption | rw [gi_up_ne (by omega)])) (Nat.le_of_ble_eq_true rfl) rfl rfl ?_
  refine gi_aload_n (q := 17) (i := 0) C (dm_Va_copy 8 rfl) rfl rfl rfl ?_
  refine gi_aload_n (q := 18) (i := 1) C (dm_Va_copy 9 rfl) rfl rfl rfl ?_
  refine gi_get (q := 21) C (dm_Va_copy 10 rfl) rfl fl_Va_19 (by repeat (first | exact gi_up_self _ _ _ | assumption | rw [gi_up_ne (by omega)])) rfl ?_
  refine gi_put (q := 24) C (dm_Va_copy 11 rfl) rfl fl_Va_19 fp_Va_2 (by repeat (first | exact gi_up_self _ _ _ | assumption | rw [gi_up_ne (by omega)])) (Nat.le_of_ble_eq_true rfl) rfl rfl ?_
  refine gi_aload_n (q := 25) (i := 0) C (dm_Va_copy 12 rfl) rfl rfl rfl ?_
  refine gi_aload_n (q := 26) (i := 1) C (dm_Va_copy 13 rfl) rfl rfl rfl ?_
  refine gi_get (q := 29) C (dm_Va_copy 14 rfl) rfl fl_Va_22 (by repeat (first | exact gi_up_self _ _ _ | assumption | rw [gi_up_ne (by omega)])) rfl ?_
  refine gi_put (q := 32) C (dm_Va_copy 15 rfl) rfl fl_Va_22 fp_Va_3 (by repeat (first | exact gi_up_self _ _ _ | assumption | rw [gi_up_ne (by omega)])) (Nat.le_of_ble_eq_true rfl) rfl rfl ?_
  refine gi_aload_n (q := 33) (i := 0) C (dm_Va_copy 16 rfl) rfl rfl rfl ?_
  refine gi_aload_n (q := 34) (i := 1) C (dm_Va_copy 17 rfl) rfl rfl rfl ?_
  refine gi_get (q := 37) C (dm_Va_copy 18 rfl) rfl fl_Va_25 (by repeat (first | exact gi_up_self _ _ _ | assumption | rw [gi_up_ne (by omega)])) rfl ?_
  refine gi_put (q := 40) C (dm_Va_copy 19 rfl) rfl fl_Va_25 fp_Va_4 (by repeat (first | exact gi_up_self _ _ _ | assumption | rw [gi_up_ne (by omega)])) (Nat.le_of_ble_eq_true rfl) rfl rfl ?_
  refine gi_aload_n (q := 41) (i := 0) C (dm_Va_copy 20 rfl) rfl rfl rfl ?_
  refine gi_aload_n (q := 42) (i := 1) C (dm_Va_copy 21 rfl) rfl rfl rfl ?_
  refine gi_get (q := 45) C (dm_Va_copy 22 rfl) rfl fl_Va_29 (by repeat (first | exact gi_up_self _ _ _ | assumption | rw [gi_up_ne (by omega)])) rfl ?_
  refine gi_put (q := 48) C (dm_Va_copy 23 rfl) rfl fl_Va_29 fp_Va_5 (by repeat (first | exact gi_up_self _ _ _ | assumption | rw [gi_up_ne (by omega)])) (Nat.le_of_ble_eq_true rfl) (nb_n hu.2) (nb_f hu.2) ?_
  refine gi_vret C hr (dm_Va_copy 24 rfl) ?_
  refine ⟨rfl, rfl, ?_⟩
  simp only [gi_up_up]
  rfl
set_option maxHeartbeats 4000000 in
set_option maxRecDepth 100000 in
theorem c_Va_beSingle (a : Nat) (v : mV) (c : Int) (ha : h a = some (eV v)) : gi_T l V y_Va_beSingle b_Va_beSingle 3 none 1 26 0 0 [.ref a, .long (eL c)] n h (gi_is none n (gi_up h a (eV (sV (c, c, 0))))) := by
  refine gi_enter (by decide) (Nat.le_of_ble_eq_true rfl) ?_
  intro _ _ _ _ _ _ _ _ C hr hnm
  refine gi_aload_n (q := 1) (i := 0) C (dm_Va_beSingle 0 rfl) rfl rfl rfl ?_
  refine gi_lload_n (q := 2) (i := 1) C (dm_Va_beSingle 1 rfl) rfl rfl rfl ?_
  refine gi_lload_n (q := 3) (i := 1) C (dm_Va_beSingle 2 rfl) rfl rfl rfl ?_
  refine gi_lconst (q := 4) (v := 0) C (dm_Va_beSingle 3 rfl) rfl (by decide) ?_
  refine gi_callv 3 (q := 7) C (dm_Va_beSingle 4 rfl) rfl my_Va_beSpan lk_Va_32 im_Va_beSpan rfl (c_Va_beSpan a v _ _ _ ha) ha rfl rfl ⟨(Nat.le_of_ble_eq_true rfl), (Nat.le_of_ble_eq_true rfl)⟩ (Nat.le_of_ble_eq_true rfl) ⟨(Nat.le_of_ble_eq_true rfl), (Nat.le_of_ble_eq_true rfl)⟩ (fun r4 n4 h4 e4 => ?_)
  obtain ⟨rfl, rfl, rfl⟩ := e4
  refine gi_vret C hr (dm_Va_beSingle 5 rfl) ?_
  exact ⟨rfl, rfl, by simp [mSpan, eL_0]⟩
set_option maxHeartbeats 4000000 in
set_option maxRecDepth 100000 in
theorem c_Va_beAll (a : Nat) (v : mV) (ha : h a = some (eV v)) : gi_T l V y_Va_beAll b_Va_beAll 1 none 1 26 0 0 [.ref a] n h (gi_is none n (gi_up h a (eV (sV allS)))) := by
  refine gi_enter (by decide) (Nat.le_of_ble_eq_true rfl) ?_
  intro _ _ _ _ _ _ _ _ C hr hnm
  refine gi_aload_n (q := 1) (i := 0) C (dm_Va_beAll 0 rfl) rfl rfl rfl ?_
  refine gi_ldc2 (q := 4) C (dm_Va_beAll 1 rfl) rfl kc_Va_36 ?_
  refine gi_ldc2 (q := 7) C (dm_Va_beAll 2 rfl) rfl kc_Va_38 ?_
  refine gi_lconst (q := 8) (v := 1) C (dm_Va_beAll 3 rfl) rfl (by decide) ?_
  refine gi_callv 3 (q := 11) C (dm_Va_beAll 4 rfl) rfl my_Va_beSpan lk_Va_32 im_Va_beSpan rfl (c_Va_beSpan a v _ _ _ ha) ha rfl rfl ⟨(Nat.le_of_ble_eq_true rfl), (Nat.le_of_ble_eq_true rfl)⟩ (Nat.le_of_ble_eq_true rfl) ⟨(Nat.le_of_ble_eq_true rfl), (Nat.le_of_ble_eq_true rfl)⟩ (fun r8 n8 h8 e8 => ?_)
  obtain ⟨rfl, rfl, rfl⟩ := e8
  refine gi_vret C hr (dm_Va_beAll 5 rfl) ?_
  exact ⟨rfl, rfl, rfl⟩
set_option maxHeartbeats 4000000 in
set_option maxRecDepth 100000 in
theorem c_Va_beNothing (a : Nat) (v : mV) (ha : h a = some (eV v)) : gi_T l V y_Va_beNothing b_Va_beNothing 1 none 1 26 0 0 [.ref a] n h (gi_is none n (gi_up h a (eV (sV (1, 0, 0))))) := by
  refine gi_enter (by decide) (Nat.le_of_ble_eq_true rfl) ?_
  intro _ _ _ _ _ _ _ _ C hr hnm
  refine gi_aload_n (q := 1) (i := 0) C (dm_Va_beNothing 0 rfl) rfl rfl rfl ?_
  refine gi_lconst (q := 2) (v := 1) C (dm_Va_beNothing 1 rfl) rfl (by decide) ?_
  refine gi_lconst (q := 3) (v := 0) C (dm_Va_beNothing 2 rfl) rfl (by decide) ?_
  refine gi_lconst (q := 4) (v := 0) C (dm_Va_beNothing 3 rfl) rfl (by decide) ?_
  refine gi_callv 3 (q := 7) C (dm_Va_beNothing 4 rfl) rfl my_Va_beSpan lk_Va_32 im_Va_beSpan rfl (c_Va_beSpan a v _ _ _ ha) ha rfl rfl ⟨(Nat.le_of_ble_eq_true rfl), (Nat.le_of_ble_eq_true rfl)⟩ (Nat.le_of_ble_eq_true rfl) ⟨(Nat.le_of_ble_eq_true rfl), (Nat.le_of_ble_eq_true rfl)⟩ (fun r4 n4 h4 e4 => ?_)
  obtain ⟨rfl, rfl, rfl⟩ := e4
  refine gi_vret C hr (dm_Va_beNothing 5 rfl) ?_
  exact ⟨rfl, rfl, rfl⟩
set_option maxHeartbeats 4000000 in
set_option maxRecDepth 100000 in
theorem c_Va_beSet (a : Nat) (v : mV) (b : Int32) (o : Bool) (ha : h a = some (eV v)) : gi_T l V y_Va_beSet b_Va_beSet 3 none 0 0 0 0 [.ref a, .int b, .int (bI o)] n h (gi_is none n (gi_up h a (eV (tV b o)))) := by
  refine gi_enter (by decide) (Nat.le_of_ble_eq_true rfl) ?_
  intro _ _ _ _ _ _ _ _ C hr hnm
  refine gi_aload_n (q := 1) (i := 0) C (dm_Va_beSet 0 rfl) rfl rfl rfl ?_
  refine gi_iconst (q := 2) (v := 1) C (dm_Va_beSet 1 rfl) rfl (by decide) ?_
  refine gi_put (q := 5) C (dm_Va_beSet 2 rfl) rfl fl_Va_9 fp_Va_0 (by repeat (first | exact gi_up_self _ _ _ | assumption | rw [gi_up_ne (by omega)])) (Nat.le_of_ble_eq_true rfl) rfl rfl ?_
  refine gi_aload_n (q := 6) (i := 0) C (dm_Va_beSet 3 rfl) rfl rfl rfl ?_
  refine gi_lconst (q := 7) (v := 0) C (dm_Va_beSet 4 rfl) rfl (by decide) ?_
  refine gi_put (q := 10) C (dm_Va_beSet 5 rfl) rfl fl_Va_15 fp_Va_1 (by repeat (first | exact gi_up_self _ _ _ | assumption | rw [gi_up_ne (by omega)])) (Nat.le_of_ble_eq_true rfl) rfl rfl ?_
  refine gi_aload_n (q := 11) (i := 0) C (dm_Va_beSet 6 rfl) rfl rfl rfl ?_
  refine gi_lconst (q := 12) (v := 0) C (dm_Va_beSet 7 rfl) rfl (by decide) ?_
  refine gi_put (q := 15) C (dm_Va_beSet 8 rfl) rfl fl_Va_19 fp_Va_2 (by repeat (first | exact gi_up_self _ _ _ | assumption | rw [gi_up_ne (by omega)])) (Nat.le_of_ble_eq_true rfl) rfl rfl ?_
  refine gi_aload_n (q := 16) (i := 0) C (dm_Va_beSet 9 rfl) rfl rfl rfl ?_
  refine gi_lconst (q := 17) (v := 0) C (dm_Va_beSet 10 rfl) rfl (by decide) ?_
  refine gi_put (q := 20) C (dm_Va_beSet 11 rfl) rfl fl_Va_22 fp_Va_3 (by repeat (first | exact gi_up_self _ _ _ | assumption | rw [gi_up_ne (by omega)])) (Nat.le_of_ble_eq_true rfl) rfl rfl ?_
  refine gi_aload_n (q := 21) (i := 0) C (dm_Va_beSet 12 rfl) rfl rfl rfl ?_
  refine gi_iload_n (q := 22) (i := 1) C (dm_Va_beSet 13 rfl) rfl rfl rfl ?_
  refine gi_put (q := 25) C (dm_Va_beSet 14 rfl) rfl fl_Va_25 fp_Va_4 (by repeat (first | exact gi_up_self _ _ _ | assumption | rw [gi_up_ne (by omega)])) (Nat.le_of_ble_eq_true rfl) rfl rfl ?_
  refine gi_aload_n (q := 26) (i := 0) C (dm_Va_beSet 15 rfl) rfl rfl rfl ?_
  refine gi_iload_n (q := 27) (i := 2) C (dm_Va_beSet 16 rfl) rfl rfl rfl ?_
  refine gi_put (q := 30) C (dm_Va_beSet 17 rfl) rfl fl_Va_29 fp_Va_5 (by repeat (first | exact gi_up_self _ _ _ | assumption | rw [gi_up_ne (by omega)])) (Nat.le_of_ble_eq_true rfl) (nb_n (bI_01 o)) (nb_f (bI_01 o)) ?_
  refine gi_vret C hr (dm_Va_beSet 18 rfl) ?_
  refine ⟨rfl, rfl, ?_⟩
  simp only [gi_up_up]
  rfl
set_option maxHeartbeats 4000000 in
set_option maxRecDepth 100000 in
theorem c_Va_isSingle (a : Nat) (v : mV) (ha : h a = some (eV v)) : gi_T l V y_Va_isSingle b_Va_isSingle 1 (some .boolean) 0 0 0 0 [.ref a] n h (gi_is (some (.int (bI (decide (v.2.1 = v.2.2.1))))) n h) := by
  refine gi_enter (by decide) (Nat.le_of_ble_eq_true rfl) ?_
  intro _ _ _ _ _ _ _ _ C hr hnm
  refine gi_aload_n (q := 1) (i := 0) C (dm_Va_isSingle 0 rfl) rfl rfl rfl ?_
  refine gi_get (q := 4) C (dm_Va_isSingle 1 rfl) rfl fl_Va_15 (by repeat (first | exact gi_up_self _ _ _ | assumption | rw [gi_up_ne (by omega)])) rfl ?_
  refine gi_aload_n (q := 5) (i := 0) C (dm_Va_isSingle 2 rfl) rfl rfl rfl ?_
  refine gi_get (q := 8) C (dm_Va_isSingle 3 rfl) rfl fl_Va_19 (by repeat (first | exact gi_up_self _ _ _ | assumption | rw [gi_up_ne (by omega)])) rfl ?_
  refine gi_lcmp (q := 9) C (dm_Va_isSingle 4 rfl) rfl ?_
  refine gi_if_ne (q := 12) (tgt := 16) C (dm_Va_isSingle 5 rfl) rfl (by decide) (fun c9 => ?_) (fun c9 => ?_)
  · refine gi_iconst (q := 17) (v := 0) C (dm_Va_isSingle 8 rfl) rfl (by decide) ?_
    refine gi_zret C hr (dm_Va_isSingle 9 rfl) rfl ?_
    refine ⟨?_, rfl, rfl⟩
    simp_all [bI, lg_cmp_eq]
  · refine gi_iconst (q := 13) (v := 1) C (dm_Va_isSingle 6 rfl) rfl (by decide) ?_
    refine gi_goto (tgt := 17) C (dm_Va_isSingle 7 rfl) (by decide) ?_
    refine gi_zret C hr (dm_Va_isSingle 9 rfl) rfl ?_
    refine ⟨?_, rfl, rfl⟩
    simp_all [bI, lg_cmp_eq]
set_option maxHeartbeats 4000000 in
set_option maxRecDepth 100000 in
theorem c_Va_has (a : Nat) (x : Sp) (c : Int) (hx : okS x) (h1 : -4611686018427387904 ≤ c) (h2 : c ≤ 4611686018427387904) (ha : h a = some (eV (sV x))) : gi_T l V y_Va_has b_Va_has 3 (some .boolean) 0 0 0 0 [.ref a, .long (eL c)] n h (gi_is (some (.int (bI (hasS x c)))) n h) := by
  refine gi_enter (by decide) (Nat.le_of_ble_eq_true rfl) ?_
  intro _ _ _ _ _ _ _ _ C hr hnm
  obtain ⟨o1, o2, o3, o4, o5, o6⟩ := id hx
  have o7 := hx.st
  refine gi_lload_n (q := 1) (i := 1) C (dm_Va_has 0 rfl) rfl rfl rfl ?_
  refine gi_aload_n (q := 2) (i := 0) C (dm_Va_has 1 rfl) rfl rfl rfl ?_
  refine gi_get (q := 5) C (dm_Va_has 2 rfl) rfl fl_Va_15 (by repeat (first | exact gi_up_self _ _ _ | assumption | rw [gi_up_ne (by omega)])) rfl ?_
  refine gi_lcmp (q := 6) C (dm_Va_has 3 rfl) rfl ?_
  refine gi_if_lt (q := 9) (tgt := 18) C (dm_Va_has 4 rfl) rfl (by decide) (fun c6 => ?_) (fun c6 => ?_)
  · refine gi_iconst (q := 19) (v := 0) C (dm_Va_has 10 rfl) rfl (by decide) ?_
    refine gi_zret C hr (dm_Va_has 11 rfl) rfl ?_
    refine ⟨?_, rfl, rfl⟩
    (try simp (disch := omega) only [lg_cmp_ge, lg_cmp_le, lg_cmp_gt, lg_cmp_lt, lg_cmp_eq, eL_0, eL_1, eL_m1, eL_LO, eL_HI, eL_W, eL_add, eL_sub, eL_mul, eL_neg, eL_lt, eL_le, eL_eq, eL_remN, eL_mod0, ne_eq, Int64.not_lt, Int64.not_le] at c6)
    simp (disch := omega) [hasS, bI, *]
    try omega
  · refine gi_lload_n (q := 10) (i := 1) C (dm_Va_has 5 rfl) rfl rfl rfl ?_
    refine gi_aload_n (q := 11) (i := 0) C (dm_Va_has 6 rfl) rfl rfl rfl ?_
    refine gi_get (q := 14) C (dm_Va_has 7 rfl) rfl fl_Va_19 (by repeat (first | exact gi_up_self _ _ _ | assumption | rw [gi_up_ne (by omega)])) rfl ?_
    refine gi_lcmp (q := 15) C (dm_Va_has 8 rfl) rfl ?_
    refine gi_if_le (q := 18) (tgt := 20) C (dm_Va_has 9 rfl) rfl (by decide) (fun c15 => ?_) (fun c15 => ?_)
    · refine gi_aload_n (q := 21) (i := 0) C (dm_Va_has 12 rfl) rfl rfl rfl ?_
      refine gi_get (q := 24) C (dm_Va_has 13 rfl) rfl fl_Va_22 (by repeat (first | exact gi_up_self _ _ _ | assumption | rw [gi_up_ne (by omega)])) rfl ?_
      refine gi_lconst (q := 25) (v := 0) C (dm_Va_has 14 rfl) rfl (by decide) ?_
      refine gi_lcmp (q := 26) C (dm_Va_has 15 rfl) rfl ?_
      refine gi_if_eq (q := 29) (tgt := 45) C (dm_Va_has 16 rfl) rfl (by decide) (fun c26 => ?_) (fun c26 => ?_)
      · refine gi_iconst (q := 46) (v := 1) C (dm_Va_has 27 rfl) rfl (by decide) ?_
        refine gi_goto (tgt := 50) C (dm_Va_has 28 rfl) (by decide) ?_
        refine gi_zret C hr (dm_Va_has 30 rfl) rfl ?_
        refine ⟨?_, rfl, rfl⟩
        (try simp (disch := omega) only [lg_cmp_ge, lg_cmp_le, lg_cmp_gt, lg_cmp_lt, lg_cmp_eq, eL_0, eL_1, eL_m1, eL_LO, eL_HI, eL_W, eL_add, eL_sub, eL_mul, eL_neg, eL_lt, eL_le, eL_eq, eL_remN, eL_mod0, ne_eq, Int64.not_lt, Int64.not_le] at c6)
        (try simp (disch := omega) only [lg_cmp_ge, lg_cmp_le, lg_cmp_gt, lg_cmp_lt, lg_cmp_eq, eL_0, eL_1, eL_m1, eL_LO, eL_HI, eL_W, eL_add, eL_sub, eL_mul, eL_neg, eL_lt, eL_le, eL_eq, eL_remN, eL_mod0, ne_eq, Int64.not_lt, Int64.not_le] at c15)
        (try simp (disch := omega) only [lg_cmp_ge, lg_cmp_le, lg_cmp_gt, lg_cmp_lt, lg_cmp_eq, eL_0, eL_1, eL_m1, eL_LO, eL_HI, eL_W, eL_add, eL_sub, eL_mul, eL_neg, eL_lt, eL_le, eL_eq, eL_remN, eL_mod0, ne_eq, Int64.not_lt, Int64.not_le] at c26)
        simp (disch := omega) [hasS, bI, *]
        try omega
      · refine gi_lload_n (q := 30) (i := 1) C (dm_Va_has 17 rfl) rfl rfl rfl ?_
        refine gi_aload_n (q := 31) (i := 0) C (dm_Va_has 18 rfl) rfl rfl rfl ?_
        refine gi_get (q := 34) C (dm_Va_has 19 rfl) rfl fl_Va_15 (by repeat (first | exact gi_up_self _ _ _ | assumption | rw [gi_up_ne (by omega)])) rfl ?_
        refine gi_lsub (q := 35) C (dm_Va_has 20 rfl) rfl ?_
        refine gi_aload_n (q := 36) (i := 0) C (dm_Va_has 21 rfl) rfl rfl rfl ?_
        refine gi_get (q := 39) C (dm_Va_has 22 rfl) rfl fl_Va_22 (by repeat (first | exact gi_up_self _ _ _ | assumption | rw [gi_up_ne (by omega)])) rfl ?_
        refine gi_lrem (q := 40) C (dm_Va_has 23 rfl) rfl (fun q => c26 ((lg_cmp_eq _ _).mpr q)) ?_
        refine gi_lconst (q := 41) (v := 0) C (dm_Va_has 24 rfl) rfl (by decide) ?_
        refine gi_lcmp (q := 42) C (dm_Va_has 25 rfl) rfl ?_
        refine gi_if_ne (q := 45) (tgt := 49) C (dm_Va_has 26 rfl) rfl (by decide) (fun c42 => ?_) (fun c42 => ?_)
        · refine gi_iconst (q := 50) (v := 0) C (dm_Va_has 29 rfl) rfl (by decide) ?_
          refine gi_zret C hr (dm_Va_has 30 rfl) rfl ?_
          refine ⟨?_, rfl, rfl⟩
          (try simp (disch := omega) only [lg_cmp_ge, lg_cmp_le, lg_cmp_gt, lg_cmp_lt, lg_cmp_eq, eL_0, eL_1, eL_m1, eL_LO, eL_HI, eL_W, eL_add, eL_sub, eL_mul, eL_neg, eL_lt, eL_le, eL_eq, eL_remN, eL_mod0, ne_eq, Int64.not_lt, Int64.not_le] at c6)
          (try simp (disch := omega) only [lg_cmp_ge, lg_cmp_le, lg_cmp_gt, lg_cmp_lt, lg_cmp_eq, eL_0, eL_1, eL_m1, eL_LO, eL_HI, eL_W, eL_add, eL_sub, eL_mul, eL_neg, eL_lt, eL_le, eL_eq, eL_remN, eL_mod0, ne_eq, Int64.not_lt, Int64.not_le] at c15)
          (try simp (disch := omega) only [lg_cmp_ge, lg_cmp_le, lg_cmp_gt, lg_cmp_lt, lg_cmp_eq, eL_0, eL_1, eL_m1, eL_LO, eL_HI, eL_W, eL_add, eL_sub, eL_mul, eL_neg, eL_lt, eL_le, eL_eq, eL_remN, eL_mod0, ne_eq, Int64.not_lt, Int64.not_le] at c26)
          (try simp (disch := omega) only [lg_cmp_ge, lg_cmp_le, lg_cmp_gt, lg_cmp_lt, lg_cmp_eq, eL_0, eL_1, eL_m1, eL_LO, eL_HI, eL_W, eL_add, eL_sub, eL_mul, eL_neg, eL_lt, eL_le, eL_eq, eL_remN, eL_mod0, ne_eq, Int64.not_lt, Int64.not_le] at c42)
          simp (disch := omega) [hasS, bI, *]
          try omega
        · refine gi_iconst (q := 46) (v := 1) C (dm_Va_has 27 rfl) rfl (by decide) ?_
          refine gi_goto (tgt := 50) C (dm_Va_has 28 rfl) (by decide) ?_
          refine gi_zret C hr (dm_Va_has 30 rfl) rfl ?_
          refine ⟨?_, rfl, rfl⟩
          (try simp (disch := omega) only [lg_cmp_ge, lg_cmp_le, lg_cmp_gt, lg_cmp_lt, lg_cmp_eq, eL_0, eL_1, eL_m1, eL_LO, eL_HI, eL_W, eL_add, eL_sub, eL_mul, eL_neg, eL_lt, eL_le, eL_eq, eL_remN, eL_mod0, ne_eq, Int64.not_lt, Int64.not_le] at c6)
          (try simp (disch := omega) only [lg_cmp_ge, lg_cmp_le, lg_cmp_gt, lg_cmp_lt, lg_cmp_eq, eL_0, eL_1, eL_m1, eL_LO, eL_HI, eL_W, eL_add, eL_sub, eL_mul, eL_neg, eL_lt, eL_le, eL_eq, eL_remN, eL_mod0, ne_eq, Int64.not_lt, Int64.not_le] at c15)
          (try simp (disch := omega) only [lg_cmp_ge, lg_cmp_le, lg_cmp_gt, lg_cmp_lt, lg_cmp_eq, eL_0, eL_1, eL_m1, eL_LO, eL_HI, eL_W, eL_add, eL_sub, eL_mul, eL_neg, eL_lt, eL_le, eL_eq, eL_remN, eL_mod0, ne_eq, Int64.not_lt, Int64.not_le] at c26)
          (try simp (disch := omega) only [lg_cmp_ge, lg_cmp_le, lg_cmp_gt, lg_cmp_lt, lg_cmp_eq, eL_0, eL_1, eL_m1, eL_LO, eL_HI, eL_W, eL_add, eL_sub, eL_mul, eL_neg, eL_lt, eL_le, eL_eq, eL_remN, eL_mod0, ne_eq, Int64.not_lt, Int64.not_le] at c42)
          simp (disch := omega) [hasS, bI, *]
          try omega
    · refine gi_iconst (q := 19) (v := 0) C (dm_Va_has 10 rfl) rfl (by decide) ?_
      refine gi_zret C hr (dm_Va_has 11 rfl) rfl ?_
      refine ⟨?_, rfl, rfl⟩
      (try simp (disch := omega) only [lg_cmp_ge, lg_cmp_le, lg_cmp_gt, lg_cmp_lt, lg_cmp_eq, eL_0, eL_1, eL_m1, eL_LO, eL_HI, eL_W, eL_add, eL_sub, eL_mul, eL_neg, eL_lt, eL_le, eL_eq, eL_remN, eL_mod0, ne_eq, Int64.not_lt, Int64.not_le] at c6)
      (try simp (disch := omega) only [lg_cmp_ge, lg_cmp_le, lg_cmp_gt, lg_cmp_lt, lg_cmp_eq, eL_0, eL_1, eL_m1, eL_LO, eL_HI, eL_W, eL_add, eL_sub, eL_mul, eL_neg, eL_lt, eL_le, eL_eq, eL_remN, eL_mod0, ne_eq, Int64.not_lt, Int64.not_le] at c15)
      simp (disch := omega) [hasS, bI, *]
      try omega
set_option maxHeartbeats 4000000 in
set_option maxRecDepth 100000 in
theorem c_Va_covers_S (a b : Nat) (x y : Sp) (hx : okS x) (hy : okS y) (ha : h a = some (eV (sV x))) (hb : h b = some (eV (sV y))) : gi_T l V y_Va_covers b_Va_covers 2 (some .boolean) 0 0 0 0 [.ref a, .ref b] n h (gi_is (some (.int (bI (covS x y)))) n h) := by
  refine gi_enter (by decide) (Nat.le_of_ble_eq_true rfl) ?_
  intro _ _ _ _ _ _ _ _ C hr hnm
  obtain ⟨o1, o2, o3, o4, o5, o6⟩ := id hx
  have o7 := hx.st
  obtain ⟨w1, w2, w3, w4, w5, w6⟩ := id hy
  have w7 := hy.st
  refine gi_aload_n (q := 1) (i := 0) C (dm_Va_covers 0 rfl) rfl rfl rfl ?_
  refine gi_get (q := 4) C (dm_Va_covers 1 rfl) rfl fl_Va_9 (by repeat (first | exact gi_up_self _ _ _ | assumption | rw [gi_up_ne (by omega)])) rfl ?_
  refine gi_aload_n (q := 5) (i := 1) C (dm_Va_covers 2 rfl) rfl rfl rfl ?_
  refine gi_get (q := 8) C (dm_Va_covers 3 rfl) rfl fl_Va_9 (by repeat (first | exact gi_up_self _ _ _ | assumption | rw [gi_up_ne (by omega)])) rfl ?_
  refine gi_icmp_eq (q := 11) (tgt := 13) C (dm_Va_covers 4 rfl) rfl (by decide) (fun c8 => ?_) (fun c8 => ?_)
  · refine gi_aload_n (q := 14) (i := 0) C (dm_Va_covers 7 rfl) rfl rfl rfl ?_
    refine gi_get (q := 17) C (dm_Va_covers 8 rfl) rfl fl_Va_9 (by repeat (first | exact gi_up_self _ _ _ | assumption | rw [gi_up_ne (by omega)])) rfl ?_
    refine gi_if_eq (q := 20) (tgt := 54) C (dm_Va_covers 9 rfl) rfl (by decide) (fun c17 => ?_) (fun c17 => ?_)
    · refine gi_aload_n (q := 55) (i := 1) C (dm_Va_covers 28 rfl) rfl rfl rfl ?_
      refine gi_get (q := 58) C (dm_Va_covers 29 rfl) rfl fl_Va_15 (by repeat (first | exact gi_up_self _ _ _ | assumption | rw [gi_up_ne (by omega)])) rfl ?_
      refine gi_aload_n (q := 59) (i := 0) C (dm_Va_covers 30 rfl) rfl rfl rfl ?_
      refine gi_get (q := 62) C (dm_Va_covers 31 rfl) rfl fl_Va_15 (by repeat (first | exact gi_up_self _ _ _ | assumption | rw [gi_up_ne (by omega)])) rfl ?_
      refine gi_lcmp (q := 63) C (dm_Va_covers 32 rfl) rfl ?_
      refine gi_if_lt (q := 66) (tgt := 78) C (dm_Va_covers 33 rfl) rfl (by decide) (fun c63 => ?_) (fun c63 => ?_)
      · refine gi_iconst (q := 79) (v := 0) C (dm_Va_covers 40 rfl) rfl (by decide) ?_
        refine gi_zret C hr (dm_Va_covers 41 rfl) rfl ?_
        refine ⟨?_, rfl, rfl⟩
        (try simp (disch := omega) only [lg_cmp_ge, lg_cmp_le, lg_cmp_gt, lg_cmp_lt, lg_cmp_eq, eL_0, eL_1, eL_m1, eL_LO, eL_HI, eL_W, eL_add, eL_sub, eL_mul, eL_neg, eL_lt, eL_le, eL_eq, eL_remN, eL_mod0, ne_eq, Int64.not_lt, Int64.not_le] at c8)
        (try simp (disch := omega) only [lg_cmp_ge, lg_cmp_le, lg_cmp_gt, lg_cmp_lt, lg_cmp_eq, eL_0, eL_1, eL_m1, eL_LO, eL_HI, eL_W, eL_add, eL_sub, eL_mul, eL_neg, eL_lt, eL_le, eL_eq, eL_remN, eL_mod0, ne_eq, Int64.not_lt, Int64.not_le] at c17)
        (try simp (disch := omega) only [lg_cmp_ge, lg_cmp_le, lg_cmp_gt, lg_cmp_lt, lg_cmp_eq, eL_0, eL_1, eL_m1, eL_LO, eL_HI, eL_W, eL_add, eL_sub, eL_mul, eL_neg, eL_lt, eL_le, eL_eq, eL_remN, eL_mod0, ne_eq, Int64.not_lt, Int64.not_le] at c63)
        simp (disch := omega) [covS, bI, *]
        try omega
      · refine gi_aload_n (q := 67) (i := 1) C (dm_Va_covers 34 rfl) rfl rfl rfl ?_
        refine gi_get (q := 70) C (dm_Va_covers 35 rfl) rfl fl_Va_19 (by repeat (first | exact gi_up_self _ _ _ | assumption | rw [gi_up_ne (by omega)])) rfl ?_
        refine gi_aload_n (q := 71) (i := 0) C (dm_Va_covers 36 rfl) rfl rfl rfl ?_
        refine gi_get (q := 74) C (dm_Va_covers 37 rfl) rfl fl_Va_19 (by repeat (first | exact gi_up_self _ _ _ | assumption | rw [gi_up_ne (by omega)])) rfl ?_
        refine gi_lcmp (q := 75) C (dm_Va_covers 38 rfl) rfl ?_
        refine gi_if_le (q := 78) (tgt := 80) C (dm_Va_covers 39 rfl) rfl (by decide) (fun c75 => ?_) (fun c75 => ?_)
        · refine gi_aload_n (q := 81) (i := 0) C (dm_Va_covers 42 rfl) rfl rfl rfl ?_
          refine gi_get (q := 84) C (dm_Va_covers 43 rfl) rfl fl_Va_22 (by repeat (first | exact gi_up_self _ _ _ | assumption | rw [gi_up_ne (by omega)])) rfl ?_
          refine gi_lconst (q := 85) (v := 0) C (dm_Va_covers 44 rfl) rfl (by decide) ?_
          refine gi_lcmp (q := 86) C (dm_Va_covers 45 rfl) rfl ?_
          refine gi_if_eq (q := 89) (tgt := 122) C (dm_Va_covers 46 rfl) rfl (by decide) (fun c86 => ?_) (fun c86 => ?_)
          · refine gi_iconst (q := 123) (v := 1) C (dm_Va_covers 66 rfl) rfl (by decide) ?_
            refine gi_goto (tgt := 127) C (dm_Va_covers 67 rfl) (by decide) ?_
            refine gi_zret C hr (dm_Va_covers 69 rfl) rfl ?_
            refine ⟨?_, rfl, rfl⟩
            (try simp (disch := omega) only [lg_cmp_ge, lg_cmp_le, lg_cmp_gt, lg_cmp_lt, lg_cmp_eq, eL_0, eL_1, eL_m1, eL_LO, eL_HI, eL_W, eL_add, eL_sub, eL_mul, eL_neg, eL_lt, eL_le, eL_eq, eL_remN, eL_mod0, ne_eq, Int64.not_lt, Int64.not_le] at c8)
            (try simp (disch := omega) only [lg_cmp_ge, lg_cmp_le, lg_cmp_gt, lg_cmp_lt, lg_cmp_eq, eL_0, eL_1, eL_m1, eL_LO, eL_HI, eL_W, eL_add, eL_sub, eL_mul, eL_neg, eL_lt, eL_le, eL_eq, eL_remN, eL_mod0, ne_eq, Int64.not_lt, Int64.not_le] at c17)
            (try simp (disch := omega) only [lg_cmp_ge, lg_cmp_le, lg_cmp_gt, lg_cmp_lt, lg_cmp_eq, eL_0, eL_1, eL_m1, eL_LO, eL_HI, eL_W, eL_add, eL_sub, eL_mul, eL_neg, eL_lt, eL_le, eL_eq, eL_remN, eL_mod0, ne_eq, Int64.not_lt, Int64.not_le] at c63)
            (try simp (disch := omega) only [lg_cmp_ge, lg_cmp_le, lg_cmp_gt, lg_cmp_lt, lg_cmp_eq, eL_0, eL_1, eL_m1, eL_LO, eL_HI, eL_W, eL_add, eL_sub, eL_mul, eL_neg, eL_lt, eL_le, eL_eq, eL_remN, eL_mod0, ne_eq, Int64.not_lt, Int64.not_le] at c75)
            (try simp (disch := omega) only [lg_cmp_ge, lg_cmp_le, lg_cmp_gt, lg_cmp_lt, lg_cmp_eq, eL_0, eL_1, eL_m1, eL_LO, eL_HI, eL_W, eL_add, eL_sub, eL_mul, eL_neg, eL_lt, eL_le, eL_eq, eL_remN, eL_mod0, ne_eq, Int64.not_lt, Int64.not_le] at c86)
            simp (disch := omega) [covS, bI, *]
            try omega
          · refine gi_aload_n (q := 90) (i := 1) C (dm_Va_covers 47 rfl) rfl rfl rfl ?_
            refine gi_get (q := 93) C (dm_Va_covers 48 rfl) rfl fl_Va_15 (by repeat (first | exact gi_up_self _ _ _ | assumption | rw [gi_up_ne (by omega)])) rfl ?_
            refine gi_aload_n (q := 94) (i := 0) C (dm_Va_covers 49 rfl) rfl rfl rfl ?_
            refine gi_get (q := 97) C (dm_Va_covers 50 rfl) rfl fl_Va_15 (by repeat (first | exact gi_up_self _ _ _ | assumption | rw [gi_up_ne (by omega)])) rfl ?_
            refine gi_lsub (q := 98) C (dm_Va_covers 51 rfl) rfl ?_
            refine gi_aload_n (q := 99) (i := 0) C (dm_Va_covers 52 rfl) rfl rfl rfl ?_
            refine gi_get (q := 102) C (dm_Va_covers 53 rfl) rfl fl_Va_22 (by repeat (first | exact gi_up_self _ _ _ | assumption | rw [gi_up_ne (by omega)])) rfl ?_
            refine gi_lrem (q := 103) C (dm_Va_covers 54 rfl) rfl (fun q => c86 ((lg_cmp_eq _ _).mpr q)) ?_
            refine gi_lconst (q := 104) (v := 0) C (dm_Va_covers 55 rfl) rfl (by decide) ?_
            refine gi_lcmp (q := 105) C (dm_Va_covers 56 rfl) rfl ?_
            refine gi_if_ne (q := 108) (tgt := 126) C (dm_Va_covers 57 rfl) rfl (by decide) (fun c105 => ?_) (fun c105 => ?_)
            · refine gi_iconst (q := 127) (v := 0) C (dm_Va_covers 68 rfl) rfl (by decide) ?_
              refine gi_zret C hr (dm_Va_covers 69 rfl) rfl ?_
              refine ⟨?_, rfl, rfl⟩
              (try simp (disch := omega) only [lg_cmp_ge, lg_cmp_le, lg_cmp_gt, lg_cmp_lt, lg_cmp_eq, eL_0, eL_1, eL_m1, eL_LO, eL_HI, eL_W, eL_add, eL_sub, eL_mul, eL_neg, eL_lt, eL_le, eL_eq, eL_remN, eL_mod0, ne_eq, Int64.not_lt, Int64.not_le] at c8)
              (try simp (disch := omega) only [lg_cmp_ge, lg_cmp_le, lg_cmp_gt, lg_cmp_lt, lg_cmp_eq, eL_0, eL_1, eL_m1, eL_LO, eL_HI, eL_W, eL_add, eL_sub, eL_mul, eL_neg, eL_lt, eL_le, eL_eq, eL_remN, eL_mod0, ne_eq, Int64.not_lt, Int64.not_le] at c17)
              (try simp (disch := omega) only [lg_cmp_ge, lg_cmp_le, lg_cmp_gt, lg_cmp_lt, lg_cmp_eq, eL_0, eL_1, eL_m1, eL_LO, eL_HI, eL_W, eL_add, eL_sub, eL_mul, eL_neg, eL_lt, eL_le, eL_eq, eL_remN, eL_mod0, ne_eq, Int64.not_lt, Int64.not_le] at c63)
              (try simp (disch := omega) only [lg_cmp_ge, lg_cmp_le, lg_cmp_gt, lg_cmp_lt, lg_cmp_eq, eL_0, eL_1, eL_m1, eL_LO, eL_HI, eL_W, eL_add, eL_sub, eL_mul, eL_neg, eL_lt, eL_le, eL_eq, eL_remN, eL_mod0, ne_eq, Int64.not_lt, Int64.not_le] at c75)
              (try simp (disch := omega) only [lg_cmp_ge, lg_cmp_le, lg_cmp_gt, lg_cmp_lt, lg_cmp_eq, eL_0, eL_1, eL_m1, eL_LO, eL_HI, eL_W, eL_add, eL_sub, eL_mul, eL_neg, eL_lt, eL_le, eL_eq, eL_remN, eL_mod0, ne_eq, Int64.not_lt, Int64.not_le] at c86)
              (try simp (disch := omega) only [lg_cmp_ge, lg_cmp_le, lg_cmp_gt, lg_cmp_lt, lg_cmp_eq, eL_0, eL_1, eL_m1, eL_LO, eL_HI, eL_W, eL_add, eL_sub, eL_mul, eL_neg, eL_lt, eL_le, eL_eq, eL_remN, eL_mod0, ne_eq, Int64.not_lt, Int64.not_le] at c105)
              simp (disch := omega) [covS, bI, *]
              try omega
            · refine gi_aload_n (q := 109) (i := 1) C (dm_Va_covers 58 rfl) rfl rfl rfl ?_
              refine gi_get (q := 112) C (dm_Va_covers 59 rfl) rfl fl_Va_22 (by repeat (first | exact gi_up_self _ _ _ | assumption | rw [gi_up_ne (by omega)])) rfl ?_
              refine gi_aload_n (q := 113) (i := 0) C (dm_Va_covers 60 rfl) rfl rfl rfl ?_
              refine gi_get (q := 116) C (dm_Va_covers 61 rfl) rfl fl_Va_22 (by repeat (first | exact gi_up_self _ _ _ | assumption | rw [gi_up_ne (by omega)])) rfl ?_
              refine gi_lrem (q := 117) C (dm_Va_covers 62 rfl) rfl (fun q => c86 ((lg_cmp_eq _ _).mpr q)) ?_
              refine gi_lconst (q := 118) (v := 0) C (dm_Va_covers 63 rfl) rfl (by decide) ?_
              refine gi_lcmp (q := 119) C (dm_Va_covers 64 rfl) rfl ?_
              refine gi_if_ne (q := 122) (tgt := 126) C (dm_Va_covers 65 rfl) rfl (by decide) (fun c119 => ?_) (fun c119 => ?_)
              · refine gi_iconst (q := 127) (v := 0) C (dm_Va_covers 68 rfl) rfl (by decide) ?_
                refine gi_zret C hr (dm_Va_covers 69 rfl) rfl ?_
                refine ⟨?_, rfl, rfl⟩
                (try simp (disch := omega) only [lg_cmp_ge, lg_cmp_le, lg_cmp_gt, lg_cmp_lt, lg_cmp_eq, eL_0, eL_1, eL_m1, eL_LO, eL_HI, eL_W, eL_add, eL_sub, eL_mul, eL_neg, eL_lt, eL_le, eL_eq, eL_remN, eL_mod0, ne_eq, Int64.not_lt, Int64.not_le] at c8)
                (try simp (disch := omega) only [lg_cmp_ge, lg_cmp_le, lg_cmp_gt, lg_cmp_lt, lg_cmp_eq, eL_0, eL_1, eL_m1, eL_LO, eL_HI, eL_W, eL_add, eL_sub, eL_mul, eL_neg, eL_lt, eL_le, eL_eq, eL_remN, eL_mod0, ne_eq, Int64.not_lt, Int64.not_le] at c17)
                (try simp (disch := omega) only [lg_cmp_ge, lg_cmp_le, lg_cmp_gt, lg_cmp_lt, lg_cmp_eq, eL_0, eL_1, eL_m1, eL_LO, eL_HI, eL_W, eL_add, eL_sub, eL_mul, eL_neg, eL_lt, eL_le, eL_eq, eL_remN, eL_mod0, ne_eq, Int64.not_lt, Int64.not_le] at c63)
                (try simp (disch := omega) only [lg_cmp_ge, lg_cmp_le, lg_cmp_gt, lg_cmp_lt, lg_cmp_eq, eL_0, eL_1, eL_m1, eL_LO, eL_HI, eL_W, eL_add, eL_sub, eL_mul, eL_neg, eL_lt, eL_le, eL_eq, eL_remN, eL_mod0, ne_eq, Int64.not_lt, Int64.not_le] at c75)
                (try simp (disch := omega) only [lg_cmp_ge, lg_cmp_le, lg_cmp_gt, lg_cmp_lt, lg_cmp_eq, eL_0, eL_1, eL_m1, eL_LO, eL_HI, eL_W, eL_add, eL_sub, eL_mul, eL_neg, eL_lt, eL_le, eL_eq, eL_remN, eL_mod0, ne_eq, Int64.not_lt, Int64.not_le] at c86)
                (try simp (disch := omega) only [lg_cmp_ge, lg_cmp_le, lg_cmp_gt, lg_cmp_lt, lg_cmp_eq, eL_0, eL_1, eL_m1, eL_LO, eL_HI, eL_W, eL_add, eL_sub, eL_mul, eL_neg, eL_lt, eL_le, eL_eq, eL_remN, eL_mod0, ne_eq, Int64.not_lt, Int64.not_le] at c105)
                (try simp (disch := omega) only [lg_cmp_ge, lg_cmp_le, lg_cmp_gt, lg_cmp_lt, lg_cmp_eq, eL_0, eL_1, eL_m1, eL_LO, eL_HI, eL_W, eL_add, eL_sub, eL_mul, eL_neg, eL_lt, eL_le, eL_eq, eL_remN, eL_mod0, ne_eq, Int64.not_lt, Int64.not_le] at c119)
                simp (disch := omega) [covS, bI, *]
                try omega
              · refine gi_iconst (q := 123) (v := 1) C (dm_Va_covers 66 rfl) rfl (by decide) ?_
                refine gi_goto (tgt := 127) C (dm_Va_covers 67 rfl) (by decide) ?_
                refine gi_zret C hr (dm_Va_covers 69 rfl) rfl ?_
                refine ⟨?_, rfl, rfl⟩
                (try simp (disch := omega) only [lg_cmp_ge, lg_cmp_le, lg_cmp_gt, lg_cmp_lt, lg_cmp_eq, eL_0, eL_1, eL_m1, eL_LO, eL_HI, eL_W, eL_add, eL_sub, eL_mul, eL_neg, eL_lt, eL_le, eL_eq, eL_remN, eL_mod0, ne_eq, Int64.not_lt, Int64.not_le] at c8)
                (try simp (disch := omega) only [lg_cmp_ge, lg_cmp_le, lg_cmp_gt, lg_cmp_lt, lg_cmp_eq, eL_0, eL_1, eL_m1, eL_LO, eL_HI, eL_W, eL_add, eL_sub, eL_mul, eL_neg, eL_lt, eL_le, eL_eq, eL_remN, eL_mod0, ne_eq, Int64.not_lt, Int64.not_le] at c17)
                (try simp (disch := omega) only [lg_cmp_ge, lg_cmp_le, lg_cmp_gt, lg_cmp_lt, lg_cmp_eq, eL_0, eL_1, eL_m1, eL_LO, eL_HI, eL_W, eL_add, eL_sub, eL_mul, eL_neg, eL_lt, eL_le, eL_eq, eL_remN, eL_mod0, ne_eq, Int64.not_lt, Int64.not_le] at c63)
                (try simp (disch := omega) only [lg_cmp_ge, lg_cmp_le, lg_cmp_gt, lg_cmp_lt, lg_cmp_eq, eL_0, eL_1, eL_m1, eL_LO, eL_HI, eL_W, eL_add, eL_sub, eL_mul, eL_neg, eL_lt, eL_le, eL_eq, eL_remN, eL_mod0, ne_eq, Int64.not_lt, Int64.not_le] at c75)
                (try simp (disch := omega) only [lg_cmp_ge, lg_cmp_le, lg_cmp_gt, lg_cmp_lt, lg_cmp_eq, eL_0, eL_1, eL_m1, eL_LO, eL_HI, eL_W, eL_add, eL_sub, eL_mul, eL_neg, eL_lt, eL_le, eL_eq, eL_remN, eL_mod0, ne_eq, Int64.not_lt, Int64.not_le] at c86)
                (try simp (disch := omega) only [lg_cmp_ge, lg_cmp_le, lg_cmp_gt, lg_cmp_lt, lg_cmp_eq, eL_0, eL_1, eL_m1, eL_LO, eL_HI, eL_W, eL_add, eL_sub, eL_mul, eL_neg, eL_lt, eL_le, eL_eq, eL_remN, eL_mod0, ne_eq, Int64.not_lt, Int64.not_le] at c105)
                (try simp (disch := omega) only [lg_cmp_ge, lg_cmp_le, lg_cmp_gt, lg_cmp_lt, lg_cmp_eq, eL_0, eL_1, eL_m1, eL_LO, eL_HI, eL_W, eL_add, eL_sub, eL_mul, eL_neg, eL_lt, eL_le, eL_eq, eL_remN, eL_mod0, ne_eq, Int64.not_lt, Int64.not_le] at c119)
                simp (disch := omega) [covS, bI, *]
                try omega
        · refine gi_iconst (q := 79) (v := 0) C (dm_Va_covers 40 rfl) rfl (by decide) ?_
          refine gi_zret C hr (dm_Va_covers 41 rfl) rfl ?_
          refine ⟨?_, rfl, rfl⟩
          (try simp (disch := omega) only [lg_cmp_ge, lg_cmp_le, lg_cmp_gt, lg_cmp_lt, lg_cmp_eq, eL_0, eL_1, eL_m1, eL_LO, eL_HI, eL_W, eL_add, eL_sub, eL_mul, eL_neg, eL_lt, eL_le, eL_eq, eL_remN, eL_mod0, ne_eq, Int64.not_lt, Int64.not_le] at c8)
          (try simp (disch := omega) only [lg_cmp_ge, lg_cmp_le, lg_cmp_gt, lg_cmp_lt, lg_cmp_eq, eL_0, eL_1, eL_m1, eL_LO, eL_HI, eL_W, eL_add, eL_sub, eL_mul, eL_neg, eL_lt, eL_le, eL_eq, eL_remN, eL_mod0, ne_eq, Int64.not_lt, Int64.not_le] at c17)
          (try simp (disch := omega) only [lg_cmp_ge, lg_cmp_le, lg_cmp_gt, lg_cmp_lt, lg_cmp_eq, eL_0, eL_1, eL_m1, eL_LO, eL_HI, eL_W, eL_add, eL_sub, eL_mul, eL_neg, eL_lt, eL_le, eL_eq, eL_remN, eL_mod0, ne_eq, Int64.not_lt, Int64.not_le] at c63)
          (try simp (disch := omega) only [lg_cmp_ge, lg_cmp_le, lg_cmp_gt, lg_cmp_lt, lg_cmp_eq, eL_0, eL_1, eL_m1, eL_LO, eL_HI, eL_W, eL_add, eL_sub, eL_mul, eL_neg, eL_lt, eL_le, eL_eq, eL_remN, eL_mod0, ne_eq, Int64.not_lt, Int64.not_le] at c75)
          simp (disch := omega) [covS, bI, *]
          try omega
    · exact absurd rfl c17
  · exact absurd rfl c8
set_option maxHeartbeats 4000000 in
set_option maxRecDepth 100000 in
theorem c_Va_covers_T (a b : Nat) (x y : Int32) (p q : Bool) (ha : h a = some (eV (tV x p))) (hb : h b = some (eV (tV y q))) : gi_T l V y_Va_covers b_Va_covers 2 (some .boolean) 0 0 0 0 [.ref a, .ref b] n h (gi_is (some (.int (bI (decide (y &&& (x ^^^ -1) = 0) && (p || !q))))) n h) := by
  refine gi_enter (by decide) (Nat.le_of_ble_eq_true rfl) ?_
  intro _ _ _ _ _ _ _ _ C hr hnm
  refine gi_aload_n (q := 1) (i := 0) C (dm_Va_covers 0 rfl) rfl rfl rfl ?_
  refine gi_get (q := 4) C (dm_Va_covers 1 rfl) rfl fl_Va_9 (by repeat (first | exact gi_up_self _ _ _ | assumption | rw [gi_up_ne (by omega)])) rfl ?_
  refine gi_aload_n (q := 5) (i := 1) C (dm_Va_covers 2 rfl) rfl rfl rfl ?_
  refine gi_get (q := 8) C (dm_Va_covers 3 rfl) rfl fl_Va_9 (by repeat (first | exact gi_up_self _ _ _ | assumption | rw [gi_up_ne (by omega)])) rfl ?_
  refine gi_icmp_eq (q := 11) (tgt := 13) C (dm_Va_covers 4 rfl) rfl (by decide) (fun c8 => ?_) (fun c8 => ?_)
  · refine gi_aload_n (q := 14) (i := 0) C (dm_Va_covers 7 rfl) rfl rfl rfl ?_
    refine gi_get (q := 17) C (dm_Va_covers 8 rfl) rfl fl_Va_9 (by repeat (first | exact gi_up_self _ _ _ | assumption | rw [gi_up_ne (by omega)])) rfl ?_
    refine gi_if_eq (q := 20) (tgt := 54) C (dm_Va_covers 9 rfl) rfl (by decide) (fun c17 => ?_) (fun c17 => ?_)
    · exact absurd (show (1 : Int32) = 0 from c17) (by decide)
    · refine gi_aload_n (q := 21) (i := 1) C (dm_Va_covers 10 rfl) rfl rfl rfl ?_
      refine gi_get (q := 24) C (dm_Va_covers 11 rfl) rfl fl_Va_25 (by repeat (first | exact gi_up_self _ _ _ | assumption | rw [gi_up_ne (by omega)])) rfl ?_
      refine gi_aload_n (q := 25) (i := 0) C (dm_Va_covers 12 rfl) rfl rfl rfl ?_
      refine gi_get (q := 28) C (dm_Va_covers 13 rfl) rfl fl_Va_25 (by repeat (first | exact gi_up_self _ _ _ | assumption | rw [gi_up_ne (by omega)])) rfl ?_
      refine gi_iconst (q := 29) (v := -1) C (dm_Va_covers 14 rfl) rfl (by decide) ?_
      refine gi_ixor (q := 30) C (dm_Va_covers 15 rfl) rfl ?_
      refine gi_iand (q := 31) C (dm_Va_covers 16 rfl) rfl ?_
      refine gi_if_ne (q := 34) (tgt := 52) C (dm_Va_covers 17 rfl) rfl (by decide) (fun c31 => ?_) (fun c31 => ?_)
      · refine gi_iconst (q := 53) (v := 0) C (dm_Va_covers 26 rfl) rfl (by decide) ?_
        refine gi_zret C hr (dm_Va_covers 27 rfl) rfl ?_
        refine ⟨?_, rfl, rfl⟩
        cases p <;> cases q <;> simp_all [bI]
      · refine gi_aload_n (q := 35) (i := 0) C (dm_Va_covers 18 rfl) rfl rfl rfl ?_
        refine gi_get (q := 38) C (dm_Va_covers 19 rfl) rfl fl_Va_29 (by repeat (first | exact gi_up_self _ _ _ | assumption | rw [gi_up_ne (by omega)])) rfl ?_
        refine gi_if_ne (q := 41) (tgt := 48) C (dm_Va_covers 20 rfl) rfl (by decide) (fun c38 => ?_) (fun c38 => ?_)
        · refine gi_iconst (q := 49) (v := 1) C (dm_Va_covers 24 rfl) rfl (by decide) ?_
          refine gi_goto (tgt := 53) C (dm_Va_covers 25 rfl) (by decide) ?_
          refine gi_zret C hr (dm_Va_covers 27 rfl) rfl ?_
          refine ⟨?_, rfl, rfl⟩
          cases p <;> cases q <;> simp_all [bI]
        · refine gi_aload_n (q := 42) (i := 1) C (dm_Va_covers 21 rfl) rfl rfl rfl ?_
          refine gi_get (q := 45) C (dm_Va_covers 22 rfl) rfl fl_Va_29 (by repeat (first | exact gi_up_self _ _ _ | assumption | rw [gi_up_ne (by omega)])) rfl ?_
          refine gi_if_ne (q := 48) (tgt := 52) C (dm_Va_covers 23 rfl) rfl (by decide) (fun c45 => ?_) (fun c45 => ?_)
          · refine gi_iconst (q := 53) (v := 0) C (dm_Va_covers 26 rfl) rfl (by decide) ?_
            refine gi_zret C hr (dm_Va_covers 27 rfl) rfl ?_
            refine ⟨?_, rfl, rfl⟩
            cases p <;> cases q <;> simp_all [bI]
          · refine gi_iconst (q := 49) (v := 1) C (dm_Va_covers 24 rfl) rfl (by decide) ?_
            refine gi_goto (tgt := 53) C (dm_Va_covers 25 rfl) (by decide) ?_
            refine gi_zret C hr (dm_Va_covers 27 rfl) rfl ?_
            refine ⟨?_, rfl, rfl⟩
            cases p <;> cases q <;> simp_all [bI]
  · exact absurd rfl c8
end VA2
