section IN2
variable {l : Launch} {V : gi_V} {n : Nat} {h : gi_H}
theorem pr_at.keep {a : Nat} {c : Int32} {F : Nat → Nat → Int32} {h h' : gi_H} (H : pr_at a c F h) (hq : ∀ b, a ≤ b → b < a + 8 → h' b = h b) : pr_at a c F h' := by
  obtain ⟨q0, q1, q2, q3, q4, q5, q6, q7⟩ := H
  exact ⟨by rw [hq _ (by omega) (by omega)]; exact q0, by rw [hq _ (by omega) (by omega)]; exact q1, by rw [hq _ (by omega) (by omega)]; exact q2, by rw [hq _ (by omega) (by omega)]; exact q3, by rw [hq _ (by omega) (by omega)]; exact q4, by rw [hq _ (by omega) (by omega)]; exact q5, by rw [hq _ (by omega) (by omega)]; exact q6, by rw [hq _ (by omega) (by omega)]; exact q7⟩
theorem bu_at.keep {a : Nat} {pr : Nat} {S : Nat → Int32} {F : Nat → Nat → Int32} {h h' : gi_H} (H : bu_at a pr S F h) (hq : ∀ b, a ≤ b → b < a + 8 → h' b = h b) : bu_at a pr S F h' := by
  obtain ⟨q0, q1, q2, q3, q4, q5, q6, q7⟩ := H
  exact ⟨by rw [hq _ (by omega) (by omega)]; exact q0, by rw [hq _ (by omega) (by omega)]; exact q1, by rw [hq _ (by omega) (by omega)]; exact q2, by rw [hq _ (by omega) (by omega)]; exact q3, by rw [hq _ (by omega) (by omega)]; exact q4, by rw [hq _ (by omega) (by omega)]; exact q5, by rw [hq _ (by omega) (by omega)]; exact q6, by rw [hq _ (by omega) (by omega)]; exact q7⟩
theorem gv_at.keep {a : Nat} {S : Nat → Int32} {F : Nat → Nat → Int32} {h h' : gi_H} (H : gv_at a S F h) (hq : ∀ b, a ≤ b → b < a + 4 → h' b = h b) : gv_at a S F h' := by
  obtain ⟨q0, q1, q2, q3⟩ := H
  exact ⟨by rw [hq _ (by omega) (by omega)]; exact q0, by rw [hq _ (by omega) (by omega)]; exact q1, by rw [hq _ (by omega) (by omega)]; exact q2, by rw [hq _ (by omega) (by omega)]; exact q3⟩
theorem he_at.keep {a : Nat} {S : Nat → Int32} {F : Nat → Nat → Int32} {h h' : gi_H} (H : he_at a S F h) (hq : ∀ b, a ≤ b → b < a + 5 → h' b = h b) : he_at a S F h' := by
  obtain ⟨q0, q1, q2, q3, q4⟩ := H
  exact ⟨by rw [hq _ (by omega) (by omega)]; exact q0, by rw [hq _ (by omega) (by omega)]; exact q1, by rw [hq _ (by omega) (by omega)]; exact q2, by rw [hq _ (by omega) (by omega)]; exact q3, by rw [hq _ (by omega) (by omega)]; exact q4⟩
theorem re_at.keep {a : Nat} {v v' : mV} {h h' : gi_H} (H : re_at a v v' h) (hq : ∀ b, a ≤ b → b < a + 3 → h' b = h b) : re_at a v v' h' := by
  obtain ⟨q0, q1, q2⟩ := H
  exact ⟨by rw [hq _ (by omega) (by omega)]; exact q0, by rw [hq _ (by omega) (by omega)]; exact q1, by rw [hq _ (by omega) (by omega)]; exact q2⟩
theorem ju_at.keep {a pr fa : Nat} {h h' : gi_H} (H : ju_at a pr fa h) (hq : ∀ b, a ≤ b → b < a + 1 → h' b = h b) : ju_at a pr fa h' := by
  unfold ju_at at *
  rw [hq _ (by omega) (by omega)]; exact H
theorem ma_at.keep {a pr bu fa gv : Nat} {S : Nat → Int32} {F : Nat → Nat → Int32} {J : Nat → Int64} {S' : Nat → Int32} {F' : Nat → Nat → Int32} {h h' : gi_H} (H : ma_at a pr bu fa gv S F J S' F' h) (hq : ∀ b, a ≤ b → b < a + 12 → h' b = h b) : ma_at a pr bu fa gv S F J S' F' h' := by
  obtain ⟨q0, q1, q2, q3, q4, q5, q6, q7⟩ := H
  exact ⟨by rw [hq _ (by omega) (by omega)]; exact q0, q1.keep (fun b h1 h2 => hq b (by omega) (by omega)), by rw [hq _ (by omega) (by omega)]; exact q2, by rw [hq _ (by omega) (by omega)]; exact q3, by rw [hq _ (by omega) (by omega)]; exact q4, by rw [hq _ (by omega) (by omega)]; exact q5, by rw [hq _ (by omega) (by omega)]; exact q6, by rw [hq _ (by omega) (by omega)]; exact q7⟩
theorem sp_at.keep {a pr bu fr to : Nat} {S : Nat → Int32} {v : Nat → mV} {R : Nat → mR} {h h' : gi_H} (H : sp_at a pr bu fr to S v R h) (hq : ∀ b, a ≤ b → b < a + 65 → h' b = h b) : sp_at a pr bu fr to S v R h' := by
  obtain ⟨q0, q1, r0, r1, r2, r3, q2, q3, q4, q5, q6, q7⟩ := H
  exact ⟨by rw [hq _ (by omega) (by omega)]; exact q0, q1.keep (fun b h1 h2 => hq b (by omega) (by omega)), r0.keep (fun b h1 h2 => hq b (by omega) (by omega)), r1.keep (fun b h1 h2 => hq b (by omega) (by omega)), r2.keep (fun b h1 h2 => hq b (by omega) (by omega)), r3.keep (fun b h1 h2 => hq b (by omega) (by omega)), by rw [hq _ (by omega) (by omega)]; exact q2, by rw [hq _ (by omega) (by omega)]; exact q3, by rw [hq _ (by omega) (by omega)]; exact q4, by rw [hq _ (by omega) (by omega)]; exact q5, by rw [hq _ (by omega) (by omega)]; exact q6, by rw [hq _ (by omega) (by omega)]; exact q7⟩
theorem fa_row_in (a t : Nat) (ht : t < 542) : a + 6 ≤ fa_row a t ∧ fa_row a t + 3 + fa_cap t ≤ a + 8414 := by
  unfold fa_row fa_cap
  (repeat' split) <;> constructor <;> omega
theorem fa_at.keep {a : Nat} {Φ : Nat → mR} {h h' : gi_H} (H : fa_at a Φ h) (hq : ∀ b, a ≤ b → b < a + 8414 → h' b = h b) : fa_at a Φ h' := by
  obtain ⟨q0, ⟨f1, a1, b1⟩, ⟨f2, a2, b2⟩, ⟨f3, a3, b3⟩, ⟨f4, a4, b4⟩, ⟨f5, a5, b5⟩, r⟩ := H
  refine ⟨by rw [hq _ (by omega) (by omega)]; exact q0, ⟨f1, by rw [hq _ (by omega) (by omega)]; exact a1, b1⟩, ⟨f2, by rw [hq _ (by omega) (by omega)]; exact a2, b2⟩, ⟨f3, by rw [hq _ (by omega) (by omega)]; exact a3, b3⟩, ⟨f4, by rw [hq _ (by omega) (by omega)]; exact a4, b4⟩, ⟨f5, by rw [hq _ (by omega) (by omega)]; exact a5, b5⟩, fun t ht => (r t ht).keep (fun b h1 h2 => ?_)⟩
  obtain ⟨u1, u2⟩ := fa_row_in a t ht
  exact hq b (by omega) (by omega)
set_option maxHeartbeats 4000000 in
set_option maxRecDepth 100000 in
theorem c_St_init (a pr bu fa : Nat) (ha : h a = some (gi_O 6 z_St)) : gi_T l V y_St_init b_St_init 4 none 3 62 64 414 [.ref a, .ref pr, .ref bu, .ref fa] (a + 1) h (fun r n' h' => r = none ∧ n' = a + 65 ∧ sp_at a pr bu fa fa (fun _ => 0) (fun _ => zV) (fun k => ro_0 (a + 4 + 17 * k)) h' ∧ ∀ b, b < a → h' b = h b) := by
  refine gi_enter (by decide) (Nat.le_of_ble_eq_true rfl) ?_
  intro p e s m args below meth c C hr hnm
  refine gi_aload_n (q := 1) (i := 0) C (dm_St_init 0 rfl) rfl rfl rfl ?_
  refine gi_objInit (q := 4) C (dm_St_init 1 rfl) rfl lo_St_3 ob_w (Nat.le_of_ble_eq_true rfl) (Nat.le_of_ble_eq_true rfl) ?_
  refine gi_aload_n (q := 5) (i := 0) C (dm_St_init 2 rfl) rfl rfl rfl ?_
  refine gi_new (q := 8) C (dm_St_init 3 rfl) rfl nc_St_9 (Nat.le_of_ble_eq_true rfl) (Nat.le_of_ble_eq_true rfl) ?_
  refine gi_dup (q := 9) C (dm_St_init 4 rfl) rfl rfl ?_
  refine gi_calli 0 (q := 12) C (dm_St_init 5 rfl) rfl my_Re_init lk_St_11 im_Re_init rfl (c_Re_init (a + 1) (gi_up_self _ _ _)) rfl rfl ⟨(Nat.le_of_ble_eq_true rfl), (Nat.le_of_ble_eq_true rfl)⟩ (Nat.le_of_ble_eq_true rfl) ⟨(Nat.le_of_ble_eq_true rfl), (Nat.le_of_ble_eq_true rfl)⟩ (fun r9 n9 h9 e9 => ?_)
  obtain ⟨rfl, rfl, ⟨k1, k2, k3⟩, hold9'⟩ := e9
  have hold9 : ∀ b, b < a + 1 → h9 b = h b := fun b hb => by rw [hold9' b hb, gi_up_ne (by omega)]
  refine gi_putF (q := 15) C hnm (dm_St_init 6 rfl) rfl fF_St_12 fp_St_3 rfl (by repeat (first | assumption | exact gi_up_self _ _ _ | rw [gi_up_ne (by omega)] | rw [hold9 _ (by omega)])) (Nat.le_of_ble_eq_true rfl) rfl rfl ?_
  refine gi_aload_n (q := 16) (i := 0) C (dm_St_init 7 rfl) rfl rfl rfl ?_
  refine gi_new (q := 19) C (dm_St_init 8 rfl) rfl nc_St_18 (Nat.le_of_ble_eq_true rfl) (Nat.le_of_ble_eq_true rfl) ?_
  refine gi_dup (q := 20) C (dm_St_init 9 rfl) rfl rfl ?_
  refine gi_bipush (q := 22) (v := 14) C (dm_St_init 10 rfl) rfl (by decide) ?_
  refine gi_calli 1 (q := 25) C (dm_St_init 11 rfl) rfl my_Ro_init lk_St_20 im_Ro_init rfl (c_Ro_init (a + 1 + 3) 14 (by omega) (gi_up_self _ _ _) (by omega)) rfl rfl ⟨(Nat.le_of_ble_eq_true rfl), (Nat.le_of_ble_eq_true rfl)⟩ (Nat.le_of_ble_eq_true rfl) ⟨(Nat.le_of_ble_eq_true rfl), (Nat.le_of_ble_eq_true rfl)⟩ (fun r22 n22 h22 e22 => ?_)
  obtain ⟨rfl, rfl, hrow22, hold22⟩ := ro_new_at e22
  refine gi_putF (q := 28) C hnm (dm_St_init 12 rfl) rfl fF_St_23 fp_St_9 rfl (by repeat (first | assumption | exact gi_up_self _ _ _ | rw [gi_up_ne (by omega)] | rw [hold22 _ (by omega)] | rw [hold9 _ (by omega)])) (Nat.le_of_ble_eq_true rfl) rfl rfl ?_
  refine gi_aload_n (q := 29) (i := 0) C (dm_St_init 13 rfl) rfl rfl rfl ?_
  refine gi_new (q := 32) C (dm_St_init 14 rfl) rfl nc_St_18 (Nat.le_of_ble_eq_true rfl) (Nat.le_of_ble_eq_true rfl) ?_
  refine gi_dup (q := 33) C (dm_St_init 15 rfl) rfl rfl ?_
  refine gi_bipush (q := 35) (v := 14) C (dm_St_init 16 rfl) rfl (by decide) ?_
  refine gi_calli 1 (q := 38) C (dm_St_init 17 rfl) rfl my_Ro_init lk_St_20 im_Ro_init rfl (c_Ro_init (a + 1 + 3 + 3 + 14) 14 (by omega) (gi_up_self _ _ _) (by omega)) rfl rfl ⟨(Nat.le_of_ble_eq_true rfl), (Nat.le_of_ble_eq_true rfl)⟩ (Nat.le_of_ble_eq_true rfl) ⟨(Nat.le_of_ble_eq_true rfl), (Nat.le_of_ble_eq_true rfl)⟩ (fun r35 n35 h35 e35 => ?_)
  obtain ⟨rfl, rfl, hrow35, hold35⟩ := ro_new_at e35
  refine gi_putF (q := 41) C hnm (dm_St_init 18 rfl) rfl fF_St_27 fp_St_10 rfl (by repeat (first | assumption | exact gi_up_self _ _ _ | rw [gi_up_ne (by omega)] | rw [hold35 _ (by omega)] | rw [hold22 _ (by omega)] | rw [hold9 _ (by omega)])) (Nat.le_of_ble_eq_true rfl) rfl rfl ?_
  refine gi_aload_n (q := 42) (i := 0) C (dm_St_init 19 rfl) rfl rfl rfl ?_
  refine gi_new (q := 45) C (dm_St_init 20 rfl) rfl nc_St_18 (Nat.le_of_ble_eq_true rfl) (Nat.le_of_ble_eq_true rfl) ?_
  refine gi_dup (q := 46) C (dm_St_init 21 rfl) rfl rfl ?_
  refine gi_bipush (q := 48) (v := 14) C (dm_St_init 22 rfl) rfl (by decide) ?_
  refine gi_calli 1 (q := 51) C (dm_St_init 23 rfl) rfl my_Ro_init lk_St_20 im_Ro_init rfl (c_Ro_init (a + 1 + 3 + 3 + 14 + 3 + 14) 14 (by omega) (gi_up_self _ _ _) (by omega)) rfl rfl ⟨(Nat.le_of_ble_eq_true rfl), (Nat.le_of_ble_eq_true rfl)⟩ (Nat.le_of_ble_eq_true rfl) ⟨(Nat.le_of_ble_eq_true rfl), (Nat.le_of_ble_eq_true rfl)⟩ (fun r48 n48 h48 e48 => ?_)
  obtain ⟨rfl, rfl, hrow48, hold48⟩ := ro_new_at e48
  refine gi_putF (q := 54) C hnm (dm_St_init 24 rfl) rfl fF_St_30 fp_St_11 rfl (by repeat (first | assumption | exact gi_up_self _ _ _ | rw [gi_up_ne (by omega)] | rw [hold48 _ (by omega)] | rw [hold35 _ (by omega)] | rw [hold22 _ (by omega)] | rw [hold9 _ (by omega)])) (Nat.le_of_ble_eq_true rfl) rfl rfl ?_
  refine gi_aload_n (q := 55) (i := 0) C (dm_St_init 25 rfl) rfl rfl rfl ?_
  refine gi_new (q := 58) C (dm_St_init 26 rfl) rfl nc_St_18 (Nat.le_of_ble_eq_true rfl) (Nat.le_of_ble_eq_true rfl) ?_
  refine gi_dup (q := 59) C (dm_St_init 27 rfl) rfl rfl ?_
  refine gi_iconst (q := 60) (v := 1) C (dm_St_init 28 rfl) rfl (by decide) ?_
  refine gi_calli 1 (q := 63) C (dm_St_init 29 rfl) rfl my_Ro_init lk_St_20 im_Ro_init rfl (c_Ro_init (a + 1 + 3 + 3 + 14 + 3 + 14 + 3 + 14) 1 (by omega) (gi_up_self _ _ _) (by omega)) rfl rfl ⟨(Nat.le_of_ble_eq_true rfl), (Nat.le_of_ble_eq_true rfl)⟩ (Nat.le_of_ble_eq_true rfl) ⟨(Nat.le_of_ble_eq_true rfl), (Nat.le_of_ble_eq_true rfl)⟩ (fun r60 n60 h60 e60 => ?_)
  obtain ⟨rfl, rfl, hrow60, hold60⟩ := ro_new_at e60
  refine gi_putF (q := 66) C hnm (dm_St_init 30 rfl) rfl fF_St_33 fp_St_12 rfl (by repeat (first | assumption | exact gi_up_self _ _ _ | rw [gi_up_ne (by omega)] | rw [hold60 _ (by omega)] | rw [hold48 _ (by omega)] | rw [hold35 _ (by omega)] | rw [hold22 _ (by omega)] | rw [hold9 _ (by omega)])) (Nat.le_of_ble_eq_true rfl) rfl rfl ?_
  refine gi_aload_n (q := 67) (i := 0) C (dm_St_init 31 rfl) rfl rfl rfl ?_
  refine gi_new (q := 70) C (dm_St_init 32 rfl) rfl nc_St_36 (Nat.le_of_ble_eq_true rfl) (Nat.le_of_ble_eq_true rfl) ?_
  refine gi_dup (q := 71) C (dm_St_init 33 rfl) rfl rfl ?_
  refine gi_calli 0 (q := 74) C (dm_St_init 34 rfl) rfl my_Va_init lk_St_38 im_Va_init rfl (c_Va_init _) rfl rfl ⟨(Nat.le_of_ble_eq_true rfl), (Nat.le_of_ble_eq_true rfl)⟩ (Nat.le_of_ble_eq_true rfl) ⟨(Nat.le_of_ble_eq_true rfl), (Nat.le_of_ble_eq_true rfl)⟩ (fun r71 n71 h71 e71 => ?_)
  obtain ⟨rfl, rfl, rfl⟩ := e71
  refine gi_putF (q := 77) C hnm (dm_St_init 35 rfl) rfl fF_St_39 fp_St_13 rfl (by repeat (first | assumption | exact gi_up_self _ _ _ | rw [gi_up_ne (by omega)] | rw [hold60 _ (by omega)] | rw [hold48 _ (by omega)] | rw [hold35 _ (by omega)] | rw [hold22 _ (by omega)] | rw [hold9 _ (by omega)])) (Nat.le_of_ble_eq_true rfl) rfl rfl ?_
  refine gi_aload_n (q := 78) (i := 0) C (dm_St_init 36 rfl) rfl rfl rfl ?_
  refine gi_new (q := 81) C (dm_St_init 37 rfl) rfl nc_St_36 (Nat.le_of_ble_eq_true rfl) (Nat.le_of_ble_eq_true rfl) ?_
  refine gi_dup (q := 82) C (dm_St_init 38 rfl) rfl rfl ?_
  refine gi_calli 0 (q := 85) C (dm_St_init 39 rfl) rfl my_Va_init lk_St_38 im_Va_init rfl (c_Va_init _) rfl rfl ⟨(Nat.le_of_ble_eq_true rfl), (Nat.le_of_ble_eq_true rfl)⟩ (Nat.le_of_ble_eq_true rfl) ⟨(Nat.le_of_ble_eq_true rfl), (Nat.le_of_ble_eq_true rfl)⟩ (fun r82 n82 h82 e82 => ?_)
  obtain ⟨rfl, rfl, rfl⟩ := e82
  refine gi_putF (q := 88) C hnm (dm_St_init 40 rfl) rfl fF_St_43 fp_St_14 rfl (by repeat (first | assumption | exact gi_up_self _ _ _ | rw [gi_up_ne (by omega)] | rw [hold60 _ (by omega)] | rw [hold48 _ (by omega)] | rw [hold35 _ (by omega)] | rw [hold22 _ (by omega)] | rw [hold9 _ (by omega)])) (Nat.le_of_ble_eq_true rfl) rfl rfl ?_
  refine gi_aload_n (q := 89) (i := 0) C (dm_St_init 41 rfl) rfl rfl rfl ?_
  refine gi_new (q := 92) C (dm_St_init 42 rfl) rfl nc_St_36 (Nat.le_of_ble_eq_true rfl) (Nat.le_of_ble_eq_true rfl) ?_
  refine gi_dup (q := 93) C (dm_St_init 43 rfl) rfl rfl ?_
  refine gi_calli 0 (q := 96) C (dm_St_init 44 rfl) rfl my_Va_init lk_St_38 im_Va_init rfl (c_Va_init _) rfl rfl ⟨(Nat.le_of_ble_eq_true rfl), (Nat.le_of_ble_eq_true rfl)⟩ (Nat.le_of_ble_eq_true rfl) ⟨(Nat.le_of_ble_eq_true rfl), (Nat.le_of_ble_eq_true rfl)⟩ (fun r93 n93 h93 e93 => ?_)
  obtain ⟨rfl, rfl, rfl⟩ := e93
  refine gi_putF (q := 99) C hnm (dm_St_init 45 rfl) rfl fF_St_46 fp_St_15 rfl (by repeat (first | assumption | exact gi_up_self _ _ _ | rw [gi_up_ne (by omega)] | rw [hold60 _ (by omega)] | rw [hold48 _ (by omega)] | rw [hold35 _ (by omega)] | rw [hold22 _ (by omega)] | rw [hold9 _ (by omega)])) (Nat.le_of_ble_eq_true rfl) rfl rfl ?_
  refine gi_aload_n (q := 100) (i := 0) C (dm_St_init 46 rfl) rfl rfl rfl ?_
  refine gi_new (q := 103) C (dm_St_init 47 rfl) rfl nc_St_36 (Nat.le_of_ble_eq_true rfl) (Nat.le_of_ble_eq_true rfl) ?_
  refine gi_dup (q := 104) C (dm_St_init 48 rfl) rfl rfl ?_
  refine gi_calli 0 (q := 107) C (dm_St_init 49 rfl) rfl my_Va_init lk_St_38 im_Va_init rfl (c_Va_init _) rfl rfl ⟨(Nat.le_of_ble_eq_true rfl), (Nat.le_of_ble_eq_true rfl)⟩ (Nat.le_of_ble_eq_true rfl) ⟨(Nat.le_of_ble_eq_true rfl), (Nat.le_of_ble_eq_true rfl)⟩ (fun r104 n104 h104 e104 => ?_)
  obtain ⟨rfl, rfl, rfl⟩ := e104
  refine gi_putF (q := 110) C hnm (dm_St_init 50 rfl) rfl fF_St_49 fp_St_16 rfl (by repeat (first | assumption | exact gi_up_self _ _ _ | rw [gi_up_ne (by omega)] | rw [hold60 _ (by omega)] | rw [hold48 _ (by omega)] | rw [hold35 _ (by omega)] | rw [hold22 _ (by omega)] | rw [hold9 _ (by omega)])) (Nat.le_of_ble_eq_true rfl) rfl rfl ?_
  refine gi_aload_n (q := 111) (i := 0) C (dm_St_init 51 rfl) rfl rfl rfl ?_
  refine gi_new (q := 114) C (dm_St_init 52 rfl) rfl nc_St_36 (Nat.le_of_ble_eq_true rfl) (Nat.le_of_ble_eq_true rfl) ?_
  refine gi_dup (q := 115) C (dm_St_init 53 rfl) rfl rfl ?_
  refine gi_calli 0 (q := 118) C (dm_St_init 54 rfl) rfl my_Va_init lk_St_38 im_Va_init rfl (c_Va_init _) rfl rfl ⟨(Nat.le_of_ble_eq_true rfl), (Nat.le_of_ble_eq_true rfl)⟩ (Nat.le_of_ble_eq_true rfl) ⟨(Nat.le_of_ble_eq_true rfl), (Nat.le_of_ble_eq_true rfl)⟩ (fun r115 n115 h115 e115 => ?_)
  obtain ⟨rfl, rfl, rfl⟩ := e115
  refine gi_putF (q := 121) C hnm (dm_St_init 55 rfl) rfl fF_St_52 fp_St_17 rfl (by repeat (first | assumption | exact gi_up_self _ _ _ | rw [gi_up_ne (by omega)] | rw [hold60 _ (by omega)] | rw [hold48 _ (by omega)] | rw [hold35 _ (by omega)] | rw [hold22 _ (by omega)] | rw [hold9 _ (by omega)])) (Nat.le_of_ble_eq_true rfl) rfl rfl ?_
  refine gi_aload_n (q := 122) (i := 0) C (dm_St_init 56 rfl) rfl rfl rfl ?_
  refine gi_new (q := 125) C (dm_St_init 57 rfl) rfl nc_St_36 (Nat.le_of_ble_eq_true rfl) (Nat.le_of_ble_eq_true rfl) ?_
  refine gi_dup (q := 126) C (dm_St_init 58 rfl) rfl rfl ?_
  refine gi_calli 0 (q := 129) C (dm_St_init 59 rfl) rfl my_Va_init lk_St_38 im_Va_init rfl (c_Va_init _) rfl rfl ⟨(Nat.le_of_ble_eq_true rfl), (Nat.le_of_ble_eq_true rfl)⟩ (Nat.le_of_ble_eq_true rfl) ⟨(Nat.le_of_ble_eq_true rfl), (Nat.le_of_ble_eq_true rfl)⟩ (fun r126 n126 h126 e126 => ?_)
  obtain ⟨rfl, rfl, rfl⟩ := e126
  refine gi_putF (q := 132) C hnm (dm_St_init 60 rfl) rfl fF_St_55 fp_St_18 rfl (by repeat (first | assumption | exact gi_up_self _ _ _ | rw [gi_up_ne (by omega)] | rw [hold60 _ (by omega)] | rw [hold48 _ (by omega)] | rw [hold35 _ (by omega)] | rw [hold22 _ (by omega)] | rw [hold9 _ (by omega)])) (Nat.le_of_ble_eq_true rfl) rfl rfl ?_
  refine gi_aload_n (q := 133) (i := 0) C (dm_St_init 61 rfl) rfl rfl rfl ?_
  refine gi_aload_n (q := 134) (i := 1) C (dm_St_init 62 rfl) rfl rfl rfl ?_
  refine gi_putF (q := 137) C hnm (dm_St_init 63 rfl) rfl fF_St_58 fp_St_1 rfl (by repeat (first | assumption | exact gi_up_self _ _ _ | rw [gi_up_ne (by omega)] | rw [hold60 _ (by omega)] | rw [hold48 _ (by omega)] | rw [hold35 _ (by omega)] | rw [hold22 _ (by omega)] | rw [hold9 _ (by omega)])) (Nat.le_of_ble_eq_true rfl) rfl rfl ?_
  refine gi_aload_n (q := 138) (i := 0) C (dm_St_init 64 rfl) rfl rfl rfl ?_
  refine gi_aload_n (q := 139) (i := 2) C (dm_St_init 65 rfl) rfl rfl rfl ?_
  refine gi_putF (q := 142) C hnm (dm_St_init 66 rfl) rfl fF_St_62 fp_St_2 rfl (by repeat (first | assumption | exact gi_up_self _ _ _ | rw [gi_up_ne (by omega)] | rw [hold60 _ (by omega)] | rw [hold48 _ (by omega)] | rw [hold35 _ (by omega)] | rw [hold22 _ (by omega)] | rw [hold9 _ (by omega)])) (Nat.le_of_ble_eq_true rfl) rfl rfl ?_
  refine gi_aload_n (q := 143) (i := 0) C (dm_St_init 67 rfl) rfl rfl rfl ?_
  refine gi_aload_n (q := 144) (i := 3) C (dm_St_init 68 rfl) rfl rfl rfl ?_
  refine gi_put (q := 147) C (dm_St_init 69 rfl) rfl fl_St_66 fp_St_4 (by repeat (first | assumption | exact gi_up_self _ _ _ | rw [gi_up_ne (by omega)] | rw [hold60 _ (by omega)] | rw [hold48 _ (by omega)] | rw [hold35 _ (by omega)] | rw [hold22 _ (by omega)] | rw [hold9 _ (by omega)])) (Nat.le_of_ble_eq_true rfl) rfl rfl ?_
  refine gi_aload_n (q := 148) (i := 0) C (dm_St_init 70 rfl) rfl rfl rfl ?_
  refine gi_aload_n (q := 149) (i := 3) C (dm_St_init 71 rfl) rfl rfl rfl ?_
  refine gi_put (q := 152) C (dm_St_init 72 rfl) rfl fl_St_70 fp_St_5 (by repeat (first | assumption | exact gi_up_self _ _ _ | rw [gi_up_ne (by omega)] | rw [hold60 _ (by omega)] | rw [hold48 _ (by omega)] | rw [hold35 _ (by omega)] | rw [hold22 _ (by omega)] | rw [hold9 _ (by omega)])) (Nat.le_of_ble_eq_true rfl) rfl rfl ?_
  refine gi_vret C hr (dm_St_init 73 rfl) ?_
  refine ⟨rfl, by omega, ⟨by repeat (first | assumption | exact gi_up_self _ _ _ | rw [gi_up_ne (by omega)] | rw [hold60 _ (by omega)] | rw [hold48 _ (by omega)] | rw [hold35 _ (by omega)] | rw [hold22 _ (by omega)] | rw [hold9 _ (by omega)]), ⟨by repeat (first | assumption | exact gi_up_self _ _ _ | rw [gi_up_ne (by omega)] | rw [hold60 _ (by omega)] | rw [hold48 _ (by omega)] | rw [hold35 _ (by omega)] | rw [hold22 _ (by omega)] | rw [hold9 _ (by omega)]), by repeat (first | assumption | exact gi_up_self _ _ _ | rw [gi_up_ne (by omega)] | rw [hold60 _ (by omega)] | rw [hold48 _ (by omega)] | rw [hold35 _ (by omega)] | rw [hold22 _ (by omega)] | rw [hold9 _ (by omega)]), by repeat (first | assumption | exact gi_up_self _ _ _ | rw [gi_up_ne (by omega)] | rw [hold60 _ (by omega)] | rw [hold48 _ (by omega)] | rw [hold35 _ (by omega)] | rw [hold22 _ (by omega)] | rw [hold9 _ (by omega)])⟩, hrow22.keep (fun b h1 h2 => by repeat (first | rw [gi_up_ne (by omega)] | rw [hold60 _ (by omega)] | rw [hold48 _ (by omega)] | rw [hold35 _ (by omega)] | rw [hold22 _ (by omega)] | rw [hold9 _ (by omega)])), hrow35.keep (fun b h1 h2 => by repeat (first | rw [gi_up_ne (by omega)] | rw [hold60 _ (by omega)] | rw [hold48 _ (by omega)] | rw [hold35 _ (by omega)] | rw [hold22 _ (by omega)] | rw [hold9 _ (by omega)])), hrow48.keep (fun b h1 h2 => by repeat (first | rw [gi_up_ne (by omega)] | rw [hold60 _ (by omega)] | rw [hold48 _ (by omega)] | rw [hold35 _ (by omega)] | rw [hold22 _ (by omega)] | rw [hold9 _ (by omega)])), hrow60.keep (fun b h1 h2 => by repeat (first | rw [gi_up_ne (by omega)] | rw [hold60 _ (by omega)] | rw [hold48 _ (by omega)] | rw [hold35 _ (by omega)] | rw [hold22 _ (by omega)] | rw [hold9 _ (by omega)])), by repeat (first | assumption | exact gi_up_self _ _ _ | rw [gi_up_ne (by omega)] | rw [hold60 _ (by omega)] | rw [hold48 _ (by omega)] | rw [hold35 _ (by omega)] | rw [hold22 _ (by omega)] | rw [hold9 _ (by omega)]), by repeat (first | assumption | exact gi_up_self _ _ _ | rw [gi_up_ne (by omega)] | rw [hold60 _ (by omega)] | rw [hold48 _ (by omega)] | rw [hold35 _ (by omega)] | rw [hold22 _ (by omega)] | rw [hold9 _ (by omega)]), by repeat (first | assumption | exact gi_up_self _ _ _ | rw [gi_up_ne (by omega)] | rw [hold60 _ (by omega)] | rw [hold48 _ (by omega)] | rw [hold35 _ (by omega)] | rw [hold22 _ (by omega)] | rw [hold9 _ (by omega)]), by repeat (first | assumption | exact gi_up_self _ _ _ | rw [gi_up_ne (by omega)] | rw [hold60 _ (by omega)] | rw [hold48 _ (by omega)] | rw [hold35 _ (by omega)] | rw [hold22 _ (by omega)] | rw [hold9 _ (by omega)]), by repeat (first | assumption | exact gi_up_self _ _ _ | rw [gi_up_ne (by omega)] | rw [hold60 _ (by omega)] | rw [hold48 _ (by omega)] | rw [hold35 _ (by omega)] | rw [hold22 _ (by omega)] | rw [hold9 _ (by omega)]), by repeat (first | assumption | exact gi_up_self _ _ _ | rw [gi_up_ne (by omega)] | rw [hold60 _ (by omega)] | rw [hold48 _ (by omega)] | rw [hold35 _ (by omega)] | rw [hold22 _ (by omega)] | rw [hold9 _ (by omega)])⟩, fun b hb => by repeat (first | rw [gi_up_ne (by omega)] | rw [hold60 _ (by omega)] | rw [hold48 _ (by omega)] | rw [hold35 _ (by omega)] | rw [hold22 _ (by omega)] | rw [hold9 _ (by omega)])⟩
end IN2
