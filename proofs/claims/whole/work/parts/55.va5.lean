section VA5
variable {l : Launch} {V : gi_V} {n : Nat} {h : gi_H}
theorem mk_self {x : Sp} (h : okS x) : mkS x.1 x.2.1 x.2.2 = x := by
  unfold mkS
  split
  · rename_i q
    rw [← h.2.2.2.2.1 q]
  · rfl
theorem gcd_abs (a b : Int) : Int.gcd a (b.natAbs : Int) = Int.gcd a b := by simp [Int.gcd]
theorem gcd_le32 {a b : Int} (ha : 0 ≤ a) (h1 : a ≤ 4294967296) (hb : 0 ≤ b) (h2 : b ≤ 4294967296) : ((Int.gcd a b : Nat) : Int) ≤ 4294967296 := by
  rcases Int.lt_or_eq_of_le ha with q | q
  · have := Nat.le_of_dvd (by omega) (Int.gcd_dvd_natAbs_left a b)
    omega
  · rw [← q, Int.gcd_zero_left]
    omega
set_option maxHeartbeats 4000000 in
set_option maxRecDepth 100000 in
theorem c_Va_both_S (a b : Nat) (x y : Sp) (hx : okS x) (hy : okS y) (hab : a ≠ b) (ha : h a = some (eV (sV x))) (hb : h b = some (eV (sV y))) : gi_T l V y_Va_both b_Va_both 2 none 1 30 0 0 [.ref a, .ref b] n h (gi_is none n (gi_up h a (eV (sV (bothS x y))))) := by
  refine gi_enter (by decide) (Nat.le_of_ble_eq_true rfl) ?_
  intro _ _ _ _ _ _ _ _ C hr hnm
  obtain ⟨o1, o2, o3, o4, o5, o6⟩ := id hx
  have o7 := hx.st
  obtain ⟨w1, w2, w3, w4, w5, w6⟩ := id hy
  have w7 := hy.st
  have g1 := gcd_le32 o4 (by omega) w4 (show y.2.2 ≤ 4294967296 by omega)
  refine gi_aload_n (q := 1) (i := 0) C (dm_Va_both 0 rfl) rfl rfl rfl ?_
  refine gi_get (q := 4) C (dm_Va_both 1 rfl) rfl fl_Va_9 (by repeat (first | exact gi_up_self _ _ _ | assumption | rw [gi_up_ne (by omega)])) rfl ?_
  refine gi_if_eq (q := 7) (tgt := 36) C (dm_Va_both 2 rfl) rfl (by decide) (fun c4 => ?_) (fun c4 => ?_)
  · refine gi_aload_n (q := 37) (i := 0) C (dm_Va_both 18 rfl) rfl rfl rfl ?_
    refine gi_callv 0 (q := 40) C (dm_Va_both 19 rfl) rfl my_Va_isNothing lk_Va_40 im_Va_isNothing rfl (c_Va_isNothing a _ ha) ha rfl rfl ⟨(Nat.le_of_ble_eq_true rfl), (Nat.le_of_ble_eq_true rfl)⟩ (Nat.le_of_ble_eq_true rfl) ⟨(Nat.le_of_ble_eq_true rfl), (Nat.le_of_ble_eq_true rfl)⟩ (fun r37 n37 h37 e37 => ?_)
    obtain ⟨rfl, rfl, rfl⟩ := e37
    refine gi_if_eq (q := 43) (tgt := 51) C (dm_Va_both 20 rfl) rfl (by decide) (fun c40 => ?_) (fun c40 => ?_)
    · refine gi_aload_n (q := 52) (i := 0) C (dm_Va_both 25 rfl) rfl rfl rfl ?_
      refine gi_aload_n (q := 53) (i := 0) C (dm_Va_both 26 rfl) rfl rfl rfl ?_
      refine gi_get (q := 56) C (dm_Va_both 27 rfl) rfl fl_Va_22 (by repeat (first | exact gi_up_self _ _ _ | assumption | rw [gi_up_ne (by omega)])) rfl ?_
      refine gi_aload_n (q := 57) (i := 1) C (dm_Va_both 28 rfl) rfl rfl rfl ?_
      refine gi_get (q := 60) C (dm_Va_both 29 rfl) rfl fl_Va_22 (by repeat (first | exact gi_up_self _ _ _ | assumption | rw [gi_up_ne (by omega)])) rfl ?_
      refine gi_calls 2 (q := 63) C (dm_Va_both 30 rfl) rfl my_H_gcd lk_Va_48 sm_H_gcd (c_H_gcd x.2.2 y.2.2 o4 (by omega) w4 (by omega)) rfl rfl ⟨(Nat.le_of_ble_eq_true rfl), (Nat.le_of_ble_eq_true rfl)⟩ (Nat.le_of_ble_eq_true rfl) ⟨(Nat.le_of_ble_eq_true rfl), (Nat.le_of_ble_eq_true rfl)⟩ (fun r60 n60 h60 e60 => ?_)
      obtain ⟨rfl, rfl, rfl⟩ := e60
      refine gi_aload_n (q := 64) (i := 0) C (dm_Va_both 31 rfl) rfl rfl rfl ?_
      refine gi_get (q := 67) C (dm_Va_both 32 rfl) rfl fl_Va_15 (by repeat (first | exact gi_up_self _ _ _ | assumption | rw [gi_up_ne (by omega)])) rfl ?_
      refine gi_aload_n (q := 68) (i := 1) C (dm_Va_both 33 rfl) rfl rfl rfl ?_
      refine gi_get (q := 71) C (dm_Va_both 34 rfl) rfl fl_Va_15 (by repeat (first | exact gi_up_self _ _ _ | assumption | rw [gi_up_ne (by omega)])) rfl ?_
      refine gi_lsub (q := 72) C (dm_Va_both 35 rfl) rfl ?_
      rw [eL_sub]
      refine gi_calls 1 (q := 75) C (dm_Va_both 36 rfl) rfl my_Mt_abs lk_Va_52 sm_Mt_abs (c_Mt_abs (x.1 - y.1) (by omega) (by omega)) rfl rfl ⟨(Nat.le_of_ble_eq_true rfl), (Nat.le_of_ble_eq_true rfl)⟩ (Nat.le_of_ble_eq_true rfl) ⟨(Nat.le_of_ble_eq_true rfl), (Nat.le_of_ble_eq_true rfl)⟩ (fun r72 n72 h72 e72 => ?_)
      obtain ⟨rfl, rfl, rfl⟩ := e72
      refine gi_calls 2 (q := 78) C (dm_Va_both 37 rfl) rfl my_H_gcd lk_Va_48 sm_H_gcd (c_H_gcd (Int.gcd x.2.2 y.2.2 : Nat) ((x.1 - y.1).natAbs : Int) (by omega) (by omega) (by omega) (by omega)) rfl rfl ⟨(Nat.le_of_ble_eq_true rfl), (Nat.le_of_ble_eq_true rfl)⟩ (Nat.le_of_ble_eq_true rfl) ⟨(Nat.le_of_ble_eq_true rfl), (Nat.le_of_ble_eq_true rfl)⟩ (fun r75 n75 h75 e75 => ?_)
      obtain ⟨rfl, rfl, rfl⟩ := e75
      rw [gcd_abs]
      refine gi_put (q := 81) C (dm_Va_both 38 rfl) rfl fl_Va_22 fp_Va_3 (by repeat (first | exact gi_up_self _ _ _ | assumption | rw [gi_up_ne (by omega)])) (Nat.le_of_ble_eq_true rfl) rfl rfl ?_
      refine gi_aload_n (q := 82) (i := 0) C (dm_Va_both 39 rfl) rfl rfl rfl ?_
      refine gi_aload_n (q := 83) (i := 0) C (dm_Va_both 40 rfl) rfl rfl rfl ?_
      refine gi_get (q := 86) C (dm_Va_both 41 rfl) rfl fl_Va_15 (by repeat (first | exact gi_up_self _ _ _ | assumption | rw [gi_up_ne (by omega)])) rfl ?_
      refine gi_aload_n (q := 87) (i := 1) C (dm_Va_both 42 rfl) rfl rfl rfl ?_
      refine gi_get (q := 90) C (dm_Va_both 43 rfl) rfl fl_Va_15 (by repeat (first | exact gi_up_self _ _ _ | assumption | rw [gi_up_ne (by omega)])) rfl ?_
      refine gi_calls 2 (q := 93) C (dm_Va_both 44 rfl) rfl my_Mt_min_1 lk_Va_58 sm_Mt_min_1 (c_Mt_min_1 x.1 y.1 (by omega) (by omega) (by omega) (by omega)) rfl rfl ⟨(Nat.le_of_ble_eq_true rfl), (Nat.le_of_ble_eq_true rfl)⟩ (Nat.le_of_ble_eq_true rfl) ⟨(Nat.le_of_ble_eq_true rfl), (Nat.le_of_ble_eq_true rfl)⟩ (fun r90 n90 h90 e90 => ?_)
      obtain ⟨rfl, rfl, rfl⟩ := e90
      refine gi_put (q := 96) C (dm_Va_both 45 rfl) rfl fl_Va_15 fp_Va_1 (by repeat (first | exact gi_up_self _ _ _ | assumption | rw [gi_up_ne (by omega)])) (Nat.le_of_ble_eq_true rfl) rfl rfl ?_
      refine gi_aload_n (q := 97) (i := 0) C (dm_Va_both 46 rfl) rfl rfl rfl ?_
      refine gi_aload_n (q := 98) (i := 0) C (dm_Va_both 47 rfl) rfl rfl rfl ?_
      refine gi_get (q := 101) C (dm_Va_both 48 rfl) rfl fl_Va_19 (by repeat (first | exact gi_up_self _ _ _ | assumption | rw [gi_up_ne (by omega)])) rfl ?_
      refine gi_aload_n (q := 102) (i := 1) C (dm_Va_both 49 rfl) rfl rfl rfl ?_
      refine gi_get (q := 105) C (dm_Va_both 50 rfl) rfl fl_Va_19 (by repeat (first | exact gi_up_self _ _ _ | assumption | rw [gi_up_ne (by omega)])) rfl ?_
      refine gi_calls 2 (q := 108) C (dm_Va_both 51 rfl) rfl my_Mt_max_0 lk_Va_61 sm_Mt_max_0 (c_Mt_max_0 x.2.1 y.2.1 (by omega) (by omega) (by omega) (by omega)) rfl rfl ⟨(Nat.le_of_ble_eq_true rfl), (Nat.le_of_ble_eq_true rfl)⟩ (Nat.le_of_ble_eq_true rfl) ⟨(Nat.le_of_ble_eq_true rfl), (Nat.le_of_ble_eq_true rfl)⟩ (fun r105 n105 h105 e105 => ?_)
      obtain ⟨rfl, rfl, rfl⟩ := e105
      refine gi_put (q := 111) C (dm_Va_both 52 rfl) rfl fl_Va_19 fp_Va_2 (by repeat (first | exact gi_up_self _ _ _ | assumption | rw [gi_up_ne (by omega)])) (Nat.le_of_ble_eq_true rfl) rfl rfl ?_
      refine gi_vret C hr (dm_Va_both 53 rfl) ?_
      refine ⟨rfl, rfl, ?_⟩
      simp only [gi_up_up]
      rfl
    · exfalso
      apply c40
      simp only [bI, if_pos]
      rw [if_neg]
      simp (disch := omega) only [eL_lt, decide_eq_true_eq]
      omega
  · exact absurd rfl c4
set_option maxHeartbeats 4000000 in
set_option maxRecDepth 100000 in
theorem c_Va_both_N (a b : Nat) (y : Sp) (hab : a ≠ b) (ha : h a = some (eV (sV (1, 0, 0)))) (hb : h b = some (eV (sV y))) : gi_T l V y_Va_both b_Va_both 2 none 1 30 0 0 [.ref a, .ref b] n h (gi_is none n (gi_up h a (eV (sV y)))) := by
  refine gi_enter (by decide) (Nat.le_of_ble_eq_true rfl) ?_
  intro _ _ _ _ _ _ _ _ C hr hnm
  refine gi_aload_n (q := 1) (i := 0) C (dm_Va_both 0 rfl) rfl rfl rfl ?_
  refine gi_get (q := 4) C (dm_Va_both 1 rfl) rfl fl_Va_9 (by repeat (first | exact gi_up_self _ _ _ | assumption | rw [gi_up_ne (by omega)])) rfl ?_
  refine gi_if_eq (q := 7) (tgt := 36) C (dm_Va_both 2 rfl) rfl (by decide) (fun c4 => ?_) (fun c4 => ?_)
  · refine gi_aload_n (q := 37) (i := 0) C (dm_Va_both 18 rfl) rfl rfl rfl ?_
    refine gi_callv 0 (q := 40) C (dm_Va_both 19 rfl) rfl my_Va_isNothing lk_Va_40 im_Va_isNothing rfl (c_Va_isNothing a _ ha) ha rfl rfl ⟨(Nat.le_of_ble_eq_true rfl), (Nat.le_of_ble_eq_true rfl)⟩ (Nat.le_of_ble_eq_true rfl) ⟨(Nat.le_of_ble_eq_true rfl), (Nat.le_of_ble_eq_true rfl)⟩ (fun r37 n37 h37 e37 => ?_)
    obtain ⟨rfl, rfl, rfl⟩ := e37
    refine gi_if_eq (q := 43) (tgt := 51) C (dm_Va_both 20 rfl) rfl (by decide) (fun c40 => ?_) (fun c40 => ?_)
    · exact absurd c40 (by decide)
    · refine gi_aload_n (q := 44) (i := 0) C (dm_Va_both 21 rfl) rfl rfl rfl ?_
      refine gi_aload_n (q := 45) (i := 1) C (dm_Va_both 22 rfl) rfl rfl rfl ?_
      refine gi_callv 1 (q := 48) C (dm_Va_both 23 rfl) rfl my_Va_copy lk_Va_44 im_Va_copy rfl (c_Va_copy a b _ _ ha hb hab (wf_s y)) ha rfl rfl ⟨(Nat.le_of_ble_eq_true rfl), (Nat.le_of_ble_eq_true rfl)⟩ (Nat.le_of_ble_eq_true rfl) ⟨(Nat.le_of_ble_eq_true rfl), (Nat.le_of_ble_eq_true rfl)⟩ (fun r45 n45 h45 e45 => ?_)
      obtain ⟨rfl, rfl, rfl⟩ := e45
      refine gi_goto (tgt := 111) C (dm_Va_both 24 rfl) (by decide) ?_
      refine gi_vret C hr (dm_Va_both 53 rfl) ?_
      exact ⟨rfl, rfl, rfl⟩
  · exact absurd rfl c4
theorem bI_or (p q : Bool) : bI p ||| bI q = bI (p || q) := by cases p <;> cases q <;> rfl
set_option maxHeartbeats 4000000 in
set_option maxRecDepth 100000 in
theorem c_Va_both_T (a b : Nat) (x y : Int32) (u v : Bool) (hab : a ≠ b) (ha : h a = some (eV (tV x u))) (hb : h b = some (eV (tV y v))) : gi_T l V y_Va_both b_Va_both 2 none 1 30 0 0 [.ref a, .ref b] n h (gi_is none n (gi_up h a (eV (tV (x ||| y) (u || v))))) := by
  refine gi_enter (by decide) (Nat.le_of_ble_eq_true rfl) ?_
  intro _ _ _ _ _ _ _ _ C hr hnm
  refine gi_aload_n (q := 1) (i := 0) C (dm_Va_both 0 rfl) rfl rfl rfl ?_
  refine gi_get (q := 4) C (dm_Va_both 1 rfl) rfl fl_Va_9 (by repeat (first | exact gi_up_self _ _ _ | assumption | rw [gi_up_ne (by omega)])) rfl ?_
  refine gi_if_eq (q := 7) (tgt := 36) C (dm_Va_both 2 rfl) rfl (by decide) (fun c4 => ?_) (fun c4 => ?_)
  · exact absurd c4 (show ¬ (1 : Int32) = 0 by decide)
  · refine gi_aload_n (q := 8) (i := 0) C (dm_Va_both 3 rfl) rfl rfl rfl ?_
    refine gi_dup (q := 9) C (dm_Va_both 4 rfl) rfl rfl ?_
    refine gi_get (q := 12) C (dm_Va_both 5 rfl) rfl fl_Va_25 (by repeat (first | exact gi_up_self _ _ _ | assumption | rw [gi_up_ne (by omega)])) rfl ?_
    refine gi_aload_n (q := 13) (i := 1) C (dm_Va_both 6 rfl) rfl rfl rfl ?_
    refine gi_get (q := 16) C (dm_Va_both 7 rfl) rfl fl_Va_25 (by repeat (first | exact gi_up_self _ _ _ | assumption | rw [gi_up_ne (by omega)])) rfl ?_
    refine gi_ior (q := 17) C (dm_Va_both 8 rfl) rfl ?_
    refine gi_put (q := 20) C (dm_Va_both 9 rfl) rfl fl_Va_25 fp_Va_4 (by repeat (first | exact gi_up_self _ _ _ | assumption | rw [gi_up_ne (by omega)])) (Nat.le_of_ble_eq_true rfl) rfl rfl ?_
    refine gi_aload_n (q := 21) (i := 0) C (dm_Va_both 10 rfl) rfl rfl rfl ?_
    refine gi_dup (q := 22) C (dm_Va_both 11 rfl) rfl rfl ?_
    refine gi_get (q := 25) C (dm_Va_both 12 rfl) rfl fl_Va_29 (by repeat (first | exact gi_up_self _ _ _ | assumption | rw [gi_up_ne (by omega)])) rfl ?_
    refine gi_aload_n (q := 26) (i := 1) C (dm_Va_both 13 rfl) rfl rfl rfl ?_
    refine gi_get (q := 29) C (dm_Va_both 14 rfl) rfl fl_Va_29 (by repeat (first | exact gi_up_self _ _ _ | assumption | rw [gi_up_ne (by omega)])) rfl ?_
    refine gi_ior (q := 30) C (dm_Va_both 15 rfl) rfl ?_
    refine gi_put (q := 33) C (dm_Va_both 16 rfl) rfl fl_Va_29 fp_Va_5 (by repeat (first | exact gi_up_self _ _ _ | assumption | rw [gi_up_ne (by omega)])) (Nat.le_of_ble_eq_true rfl) (by rw [bI_or]; exact nb_n (bI_01 _)) (by rw [bI_or]; exact nb_f (bI_01 _)) ?_
    refine gi_goto (tgt := 111) C (dm_Va_both 17 rfl) (by decide) ?_
    refine gi_vret C hr (dm_Va_both 53 rfl) ?_
    refine ⟨rfl, rfl, ?_⟩
    simp only [gi_up_up]
    show gi_up _ _ (eV (1, 0, 0, 0, x ||| y, bI u ||| bI v)) = _
    rw [bI_or]
end VA5
