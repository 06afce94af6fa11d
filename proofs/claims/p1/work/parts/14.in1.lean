section IN1
variable {l : Launch} {V : gi_V} {n : Nat} {h : gi_H}
/-- Program at a: count; arrays by field -/
def pr_at (a : Nat) (c : Int32) (F : Nat → Nat → Int32) (h : gi_H) : Prop := h a = some (gi_O 1 [.int c, .ref (a + 1), .ref (a + 2), .ref (a + 3), .ref (a + 4), .ref (a + 5), .ref (a + 6), .ref (a + 7)]) ∧ h (a + 1) = some (gi_I 0 8 (F 1)) ∧ h (a + 2) = some (gi_I 0 8 (F 2)) ∧ h (a + 3) = some (gi_I 0 8 (F 3)) ∧ h (a + 4) = some (gi_I 0 8 (F 4)) ∧ h (a + 5) = some (gi_I 0 8 (F 5)) ∧ h (a + 6) = some (gi_I 0 480 (F 6)) ∧ h (a + 7) = some (gi_I 0 480 (F 7))
/-- Building at a: numbers and arrays by field -/
def bu_at (a pr : Nat) (S : Nat → Int32) (F : Nat → Nat → Int32) (h : gi_H) : Prop := h a = some (gi_O 2 [.int (S 0), .int (S 1), .int (S 2), .int (S 3), .int (S 4), .ref pr, .ref (a + 1), .ref (a + 2), .ref (a + 3), .ref (a + 4), .ref (a + 5), .ref (a + 6), .ref (a + 7), .int (S 13), .int (S 14)]) ∧ h (a + 1) = some (gi_I 0 480 (F 6)) ∧ h (a + 2) = some (gi_I 0 480 (F 7)) ∧ h (a + 3) = some (gi_I 1 480 (F 8)) ∧ h (a + 4) = some (gi_I 1 480 (F 9)) ∧ h (a + 5) = some (gi_I 0 480 (F 10)) ∧ h (a + 6) = some (gi_I 0 25 (F 11)) ∧ h (a + 7) = some (gi_I 0 25 (F 12))
/-- Given at a -/
def gv_at (a : Nat) (S : Nat → Int32) (F : Nat → Nat → Int32) (h : gi_H) : Prop := h a = some (gi_O 9 [.int (S 0), .ref (a + 1), .ref (a + 2), .ref (a + 3)]) ∧ h (a + 1) = some (gi_I 0 3 (F 1)) ∧ h (a + 2) = some (gi_I 0 3 (F 2)) ∧ h (a + 3) = some (gi_I 0 600 (F 3))
/-- Heap at a -/
def he_at (a : Nat) (S : Nat → Int32) (F : Nat → Nat → Int32) (h : gi_H) : Prop := h a = some (gi_O 11 [.int (S 0), .int (S 1), .ref (a + 1), .ref (a + 2), .ref (a + 3), .ref (a + 4)]) ∧ h (a + 1) = some (gi_I 0 301 (F 2)) ∧ h (a + 2) = some (gi_I 0 301 (F 3)) ∧ h (a + 3) = some (gi_I 0 301 (F 4)) ∧ h (a + 4) = some (gi_I 0 2000 (F 5))
/-- Machine at a (its Heap from a + 1 on) -/
def ma_at (a pr bu fa gv : Nat) (S : Nat → Int32) (F : Nat → Nat → Int32) (J : Nat → Int64) (S' : Nat → Int32) (F' : Nat → Nat → Int32) (h : gi_H) : Prop := h a = some (gi_O 10 [.int (S 0), .ref pr, .ref bu, .ref fa, .ref gv, .ref (a + 1), .ref (a + 6), .ref (a + 7), .ref (a + 8), .ref (a + 9), .ref (a + 10), .ref (a + 11), .int (S 12), .int (S 13), .int (S 14), .int (S 15)]) ∧ he_at (a + 1) S' F' h ∧ h (a + 6) = some (gi_J 2 8 J) ∧ h (a + 7) = some (gi_I 0 4 (F 7)) ∧ h (a + 8) = some (gi_I 0 224 (F 8)) ∧ h (a + 9) = some (gi_I 0 16 (F 9)) ∧ h (a + 10) = some (gi_I 0 16 (F 10)) ∧ h (a + 11) = some (gi_I 0 16 (F 11))
def ju_at (a pr fa : Nat) (h : gi_H) : Prop := h a = some (gi_O 8 [.ref pr, .ref fa])
def re_at (a : Nat) (v v' : mV) (h : gi_H) : Prop := h a = some (gi_O 7 [.ref (a + 1), .ref (a + 2)]) ∧ h (a + 1) = some (eV v) ∧ h (a + 2) = some (eV v')
/-- Stepper at a: Reckoner a + 1, rows work a + 4, way a + 21, entry a + 38, lone a + 55, values x, y, nextX, nextY, array, out from a + 59 on -/
def sp_at (a pr bu fr to : Nat) (S : Nat → Int32) (v : Nat → mV) (R : Nat → mR) (h : gi_H) : Prop := h a = some (gi_O 6 [.int (S 0), .ref pr, .ref bu, .ref (a + 1), .ref fr, .ref to, .int (S 6), .int (S 7), .int (S 8), .ref (a + 4), .ref (a + 21), .ref (a + 38), .ref (a + 55), .ref (a + 59), .ref (a + 60), .ref (a + 61), .ref (a + 62), .ref (a + 63), .ref (a + 64)]) ∧ re_at (a + 1) (v 6) (v 7) h ∧ ro_at (a + 4) 14 (R 0) h ∧ ro_at (a + 21) 14 (R 1) h ∧ ro_at (a + 38) 14 (R 2) h ∧ ro_at (a + 55) 1 (R 3) h ∧ h (a + 59) = some (eV (v 0)) ∧ h (a + 60) = some (eV (v 1)) ∧ h (a + 61) = some (eV (v 2)) ∧ h (a + 62) = some (eV (v 3)) ∧ h (a + 63) = some (eV (v 4)) ∧ h (a + 64) = some (eV (v 5))
set_option maxHeartbeats 4000000 in
set_option maxRecDepth 100000 in
theorem c_Pr_init (a : Nat) (ha : h a = some (gi_O 1 z_Pr)) : gi_T l V y_Pr_init b_Pr_init 1 none 1 20 7 1000 [.ref a] (a + 1) h (fun r n' h' => r = none ∧ n' = a + 8 ∧ pr_at a 0 (fun _ _ => 0) h' ∧ ∀ b, b < a → h' b = h b) := by
  refine gi_enter (by decide) (Nat.le_of_ble_eq_true rfl) ?_
  intro p e s m args below meth c C hr hnm
  refine gi_aload_n (q := 1) (i := 0) C (dm_Pr_init 0 rfl) rfl rfl rfl ?_
  refine gi_objInit (q := 4) C (dm_Pr_init 1 rfl) rfl lo_Pr_3 ob_w (Nat.le_of_ble_eq_true rfl) (Nat.le_of_ble_eq_true rfl) ?_
  refine gi_aload_n (q := 5) (i := 0) C (dm_Pr_init 2 rfl) rfl rfl rfl ?_
  refine gi_bipush (q := 7) (v := 8) C (dm_Pr_init 3 rfl) rfl (by decide) ?_
  refine gi_newa (kd := 0) (q := 9) (N := 8) (a0 := (8, .inl (fun _ => 0))) C (dm_Pr_init 4 rfl) rfl ac_int rfl rfl (fun _ => rfl) (by decide) (by decide) (by decide) (Nat.le_of_ble_eq_true rfl) (Nat.le_of_ble_eq_true rfl) ?_
  refine gi_putF (q := 12) C hnm (dm_Pr_init 5 rfl) rfl fF_Pr_9 fp_Pr_1 rfl (by repeat (first | exact gi_up_self _ _ _ | assumption | rw [gi_up_ne (by omega)])) (Nat.le_of_ble_eq_true rfl) rfl rfl ?_
  refine gi_aload_n (q := 13) (i := 0) C (dm_Pr_init 6 rfl) rfl rfl rfl ?_
  refine gi_bipush (q := 15) (v := 8) C (dm_Pr_init 7 rfl) rfl (by decide) ?_
  refine gi_newa (kd := 0) (q := 17) (N := 8) (a0 := (8, .inl (fun _ => 0))) C (dm_Pr_init 8 rfl) rfl ac_int rfl rfl (fun _ => rfl) (by decide) (by decide) (by decide) (Nat.le_of_ble_eq_true rfl) (Nat.le_of_ble_eq_true rfl) ?_
  refine gi_putF (q := 20) C hnm (dm_Pr_init 9 rfl) rfl fF_Pr_15 fp_Pr_2 rfl (by repeat (first | exact gi_up_self _ _ _ | assumption | rw [gi_up_ne (by omega)])) (Nat.le_of_ble_eq_true rfl) rfl rfl ?_
  refine gi_aload_n (q := 21) (i := 0) C (dm_Pr_init 10 rfl) rfl rfl rfl ?_
  refine gi_bipush (q := 23) (v := 8) C (dm_Pr_init 11 rfl) rfl (by decide) ?_
  refine gi_newa (kd := 0) (q := 25) (N := 8) (a0 := (8, .inl (fun _ => 0))) C (dm_Pr_init 12 rfl) rfl ac_int rfl rfl (fun _ => rfl) (by decide) (by decide) (by decide) (Nat.le_of_ble_eq_true rfl) (Nat.le_of_ble_eq_true rfl) ?_
  refine gi_putF (q := 28) C hnm (dm_Pr_init 13 rfl) rfl fF_Pr_18 fp_Pr_3 rfl (by repeat (first | exact gi_up_self _ _ _ | assumption | rw [gi_up_ne (by omega)])) (Nat.le_of_ble_eq_true rfl) rfl rfl ?_
  refine gi_aload_n (q := 29) (i := 0) C (dm_Pr_init 14 rfl) rfl rfl rfl ?_
  refine gi_bipush (q := 31) (v := 8) C (dm_Pr_init 15 rfl) rfl (by decide) ?_
  refine gi_newa (kd := 0) (q := 33) (N := 8) (a0 := (8, .inl (fun _ => 0))) C (dm_Pr_init 16 rfl) rfl ac_int rfl rfl (fun _ => rfl) (by decide) (by decide) (by decide) (Nat.le_of_ble_eq_true rfl) (Nat.le_of_ble_eq_true rfl) ?_
  refine gi_putF (q := 36) C hnm (dm_Pr_init 17 rfl) rfl fF_Pr_21 fp_Pr_4 rfl (by repeat (first | exact gi_up_self _ _ _ | assumption | rw [gi_up_ne (by omega)])) (Nat.le_of_ble_eq_true rfl) rfl rfl ?_
  refine gi_aload_n (q := 37) (i := 0) C (dm_Pr_init 18 rfl) rfl rfl rfl ?_
  refine gi_bipush (q := 39) (v := 8) C (dm_Pr_init 19 rfl) rfl (by decide) ?_
  refine gi_newa (kd := 0) (q := 41) (N := 8) (a0 := (8, .inl (fun _ => 0))) C (dm_Pr_init 20 rfl) rfl ac_int rfl rfl (fun _ => rfl) (by decide) (by decide) (by decide) (Nat.le_of_ble_eq_true rfl) (Nat.le_of_ble_eq_true rfl) ?_
  refine gi_putF (q := 44) C hnm (dm_Pr_init 21 rfl) rfl fF_Pr_24 fp_Pr_5 rfl (by repeat (first | exact gi_up_self _ _ _ | assumption | rw [gi_up_ne (by omega)])) (Nat.le_of_ble_eq_true rfl) rfl rfl ?_
  refine gi_aload_n (q := 45) (i := 0) C (dm_Pr_init 22 rfl) rfl rfl rfl ?_
  refine gi_sipush (q := 48) (v := 480) C (dm_Pr_init 23 rfl) rfl (by decide) ?_
  refine gi_newa (kd := 0) (q := 50) (N := 480) (a0 := (480, .inl (fun _ => 0))) C (dm_Pr_init 24 rfl) rfl ac_int rfl rfl (fun _ => rfl) (by decide) (by decide) (by decide) (Nat.le_of_ble_eq_true rfl) (Nat.le_of_ble_eq_true rfl) ?_
  refine gi_putF (q := 53) C hnm (dm_Pr_init 25 rfl) rfl fF_Pr_27 fp_Pr_6 rfl (by repeat (first | exact gi_up_self _ _ _ | assumption | rw [gi_up_ne (by omega)])) (Nat.le_of_ble_eq_true rfl) rfl rfl ?_
  refine gi_aload_n (q := 54) (i := 0) C (dm_Pr_init 26 rfl) rfl rfl rfl ?_
  refine gi_sipush (q := 57) (v := 480) C (dm_Pr_init 27 rfl) rfl (by decide) ?_
  refine gi_newa (kd := 0) (q := 59) (N := 480) (a0 := (480, .inl (fun _ => 0))) C (dm_Pr_init 28 rfl) rfl ac_int rfl rfl (fun _ => rfl) (by decide) (by decide) (by decide) (Nat.le_of_ble_eq_true rfl) (Nat.le_of_ble_eq_true rfl) ?_
  refine gi_putF (q := 62) C hnm (dm_Pr_init 29 rfl) rfl fF_Pr_30 fp_Pr_7 rfl (by repeat (first | exact gi_up_self _ _ _ | assumption | rw [gi_up_ne (by omega)])) (Nat.le_of_ble_eq_true rfl) rfl rfl ?_
  refine gi_vret C hr (dm_Pr_init 30 rfl) ?_
  exact ⟨rfl, by omega, ⟨by repeat (first | exact gi_up_self _ _ _ | assumption | rw [gi_up_ne (by omega)]), by repeat (first | exact gi_up_self _ _ _ | assumption | rw [gi_up_ne (by omega)]), by repeat (first | exact gi_up_self _ _ _ | assumption | rw [gi_up_ne (by omega)]), by repeat (first | exact gi_up_self _ _ _ | assumption | rw [gi_up_ne (by omega)]), by repeat (first | exact gi_up_self _ _ _ | assumption | rw [gi_up_ne (by omega)]), by repeat (first | exact gi_up_self _ _ _ | assumption | rw [gi_up_ne (by omega)]), by repeat (first | exact gi_up_self _ _ _ | assumption | rw [gi_up_ne (by omega)]), by repeat (first | exact gi_up_self _ _ _ | assumption | rw [gi_up_ne (by omega)])⟩, fun b hb => by repeat (first | rfl | rw [gi_up_ne (by omega)])⟩
set_option maxHeartbeats 4000000 in
set_option maxRecDepth 100000 in
theorem c_Bu_init (a : Nat) (pr : Nat) (ha : h a = some (gi_O 2 z_Bu)) : gi_T l V y_Bu_init b_Bu_init 2 none 1 20 7 2450 [.ref a, .ref pr] (a + 1) h (fun r n' h' => r = none ∧ n' = a + 8 ∧ bu_at a pr (fun _ => 0) (fun _ _ => 0) h' ∧ ∀ b, b < a → h' b = h b) := by
  refine gi_enter (by decide) (Nat.le_of_ble_eq_true rfl) ?_
  intro p e s m args below meth c C hr hnm
  refine gi_aload_n (q := 1) (i := 0) C (dm_Bu_init 0 rfl) rfl rfl rfl ?_
  refine gi_objInit (q := 4) C (dm_Bu_init 1 rfl) rfl lo_Bu_3 ob_w (Nat.le_of_ble_eq_true rfl) (Nat.le_of_ble_eq_true rfl) ?_
  refine gi_aload_n (q := 5) (i := 0) C (dm_Bu_init 2 rfl) rfl rfl rfl ?_
  refine gi_sipush (q := 8) (v := 480) C (dm_Bu_init 3 rfl) rfl (by decide) ?_
  refine gi_newa (kd := 0) (q := 10) (N := 480) (a0 := (480, .inl (fun _ => 0))) C (dm_Bu_init 4 rfl) rfl ac_int rfl rfl (fun _ => rfl) (by decide) (by decide) (by decide) (Nat.le_of_ble_eq_true rfl) (Nat.le_of_ble_eq_true rfl) ?_
  refine gi_putF (q := 13) C hnm (dm_Bu_init 5 rfl) rfl fF_Bu_9 fp_Bu_6 rfl (by repeat (first | exact gi_up_self _ _ _ | assumption | rw [gi_up_ne (by omega)])) (Nat.le_of_ble_eq_true rfl) rfl rfl ?_
  refine gi_aload_n (q := 14) (i := 0) C (dm_Bu_init 6 rfl) rfl rfl rfl ?_
  refine gi_sipush (q := 17) (v := 480) C (dm_Bu_init 7 rfl) rfl (by decide) ?_
  refine gi_newa (kd := 0) (q := 19) (N := 480) (a0 := (480, .inl (fun _ => 0))) C (dm_Bu_init 8 rfl) rfl ac_int rfl rfl (fun _ => rfl) (by decide) (by decide) (by decide) (Nat.le_of_ble_eq_true rfl) (Nat.le_of_ble_eq_true rfl) ?_
  refine gi_putF (q := 22) C hnm (dm_Bu_init 9 rfl) rfl fF_Bu_15 fp_Bu_7 rfl (by repeat (first | exact gi_up_self _ _ _ | assumption | rw [gi_up_ne (by omega)])) (Nat.le_of_ble_eq_true rfl) rfl rfl ?_
  refine gi_aload_n (q := 23) (i := 0) C (dm_Bu_init 10 rfl) rfl rfl rfl ?_
  refine gi_sipush (q := 26) (v := 480) C (dm_Bu_init 11 rfl) rfl (by decide) ?_
  refine gi_newa (kd := 1) (q := 28) (N := 480) (a0 := (480, .inl (fun _ => 0))) C (dm_Bu_init 12 rfl) rfl ac_boolean rfl rfl (fun _ => rfl) (by decide) (by decide) (by decide) (Nat.le_of_ble_eq_true rfl) (Nat.le_of_ble_eq_true rfl) ?_
  refine gi_putF (q := 31) C hnm (dm_Bu_init 13 rfl) rfl fF_Bu_18 fp_Bu_8 rfl (by repeat (first | exact gi_up_self _ _ _ | assumption | rw [gi_up_ne (by omega)])) (Nat.le_of_ble_eq_true rfl) rfl rfl ?_
  refine gi_aload_n (q := 32) (i := 0) C (dm_Bu_init 14 rfl) rfl rfl rfl ?_
  refine gi_sipush (q := 35) (v := 480) C (dm_Bu_init 15 rfl) rfl (by decide) ?_
  refine gi_newa (kd := 1) (q := 37) (N := 480) (a0 := (480, .inl (fun _ => 0))) C (dm_Bu_init 16 rfl) rfl ac_boolean rfl rfl (fun _ => rfl) (by decide) (by decide) (by decide) (Nat.le_of_ble_eq_true rfl) (Nat.le_of_ble_eq_true rfl) ?_
  refine gi_putF (q := 40) C hnm (dm_Bu_init 17 rfl) rfl fF_Bu_22 fp_Bu_9 rfl (by repeat (first | exact gi_up_self _ _ _ | assumption | rw [gi_up_ne (by omega)])) (Nat.le_of_ble_eq_true rfl) rfl rfl ?_
  refine gi_aload_n (q := 41) (i := 0) C (dm_Bu_init 18 rfl) rfl rfl rfl ?_
  refine gi_sipush (q := 44) (v := 480) C (dm_Bu_init 19 rfl) rfl (by decide) ?_
  refine gi_newa (kd := 0) (q := 46) (N := 480) (a0 := (480, .inl (fun _ => 0))) C (dm_Bu_init 20 rfl) rfl ac_int rfl rfl (fun _ => rfl) (by decide) (by decide) (by decide) (Nat.le_of_ble_eq_true rfl) (Nat.le_of_ble_eq_true rfl) ?_
  refine gi_putF (q := 49) C hnm (dm_Bu_init 21 rfl) rfl fF_Bu_25 fp_Bu_10 rfl (by repeat (first | exact gi_up_self _ _ _ | assumption | rw [gi_up_ne (by omega)])) (Nat.le_of_ble_eq_true rfl) rfl rfl ?_
  refine gi_aload_n (q := 50) (i := 0) C (dm_Bu_init 22 rfl) rfl rfl rfl ?_
  refine gi_bipush (q := 52) (v := 25) C (dm_Bu_init 23 rfl) rfl (by decide) ?_
  refine gi_newa (kd := 0) (q := 54) (N := 25) (a0 := (25, .inl (fun _ => 0))) C (dm_Bu_init 24 rfl) rfl ac_int rfl rfl (fun _ => rfl) (by decide) (by decide) (by decide) (Nat.le_of_ble_eq_true rfl) (Nat.le_of_ble_eq_true rfl) ?_
  refine gi_putF (q := 57) C hnm (dm_Bu_init 25 rfl) rfl fF_Bu_28 fp_Bu_11 rfl (by repeat (first | exact gi_up_self _ _ _ | assumption | rw [gi_up_ne (by omega)])) (Nat.le_of_ble_eq_true rfl) rfl rfl ?_
  refine gi_aload_n (q := 58) (i := 0) C (dm_Bu_init 26 rfl) rfl rfl rfl ?_
  refine gi_bipush (q := 60) (v := 25) C (dm_Bu_init 27 rfl) rfl (by decide) ?_
  refine gi_newa (kd := 0) (q := 62) (N := 25) (a0 := (25, .inl (fun _ => 0))) C (dm_Bu_init 28 rfl) rfl ac_int rfl rfl (fun _ => rfl) (by decide) (by decide) (by decide) (Nat.le_of_ble_eq_true rfl) (Nat.le_of_ble_eq_true rfl) ?_
  refine gi_putF (q := 65) C hnm (dm_Bu_init 29 rfl) rfl fF_Bu_31 fp_Bu_12 rfl (by repeat (first | exact gi_up_self _ _ _ | assumption | rw [gi_up_ne (by omega)])) (Nat.le_of_ble_eq_true rfl) rfl rfl ?_
  refine gi_aload_n (q := 66) (i := 0) C (dm_Bu_init 30 rfl) rfl rfl rfl ?_
  refine gi_aload_n (q := 67) (i := 1) C (dm_Bu_init 31 rfl) rfl rfl rfl ?_
  refine gi_putF (q := 70) C hnm (dm_Bu_init 32 rfl) rfl fF_Bu_34 fp_Bu_5 rfl (by repeat (first | exact gi_up_self _ _ _ | assumption | rw [gi_up_ne (by omega)])) (Nat.le_of_ble_eq_true rfl) rfl rfl ?_
  refine gi_vret C hr (dm_Bu_init 33 rfl) ?_
  exact ⟨rfl, by omega, ⟨by repeat (first | exact gi_up_self _ _ _ | assumption | rw [gi_up_ne (by omega)]), by repeat (first | exact gi_up_self _ _ _ | assumption | rw [gi_up_ne (by omega)]), by repeat (first | exact gi_up_self _ _ _ | assumption | rw [gi_up_ne (by omega)]), by repeat (first | exact gi_up_self _ _ _ | assumption | rw [gi_up_ne (by omega)]), by repeat (first | exact gi_up_self _ _ _ | assumption | rw [gi_up_ne (by omega)]), by repeat (first | exact gi_up_self _ _ _ | assumption | rw [gi_up_ne (by omega)]), by repeat (first | exact gi_up_self _ _ _ | assumption | rw [gi_up_ne (by omega)]), by repeat (first | exact gi_up_self _ _ _ | assumption | rw [gi_up_ne (by omega)])⟩, fun b hb => by repeat (first | rfl | rw [gi_up_ne (by omega)])⟩
set_option maxHeartbeats 4000000 in
set_option maxRecDepth 100000 in
theorem c_Gi_init (a : Nat) (ha : h a = some (gi_O 9 z_Gi)) : gi_T l V y_Gi_init b_Gi_init 1 none 1 20 3 606 [.ref a] (a + 1) h (fun r n' h' => r = none ∧ n' = a + 4 ∧ gv_at a (fun _ => 0) (fun _ _ => 0) h' ∧ ∀ b, b < a → h' b = h b) := by
  refine gi_enter (by decide) (Nat.le_of_ble_eq_true rfl) ?_
  intro p e s m args below meth c C hr hnm
  refine gi_aload_n (q := 1) (i := 0) C (dm_Gi_init 0 rfl) rfl rfl rfl ?_
  refine gi_objInit (q := 4) C (dm_Gi_init 1 rfl) rfl lo_Gi_3 ob_w (Nat.le_of_ble_eq_true rfl) (Nat.le_of_ble_eq_true rfl) ?_
  refine gi_aload_n (q := 5) (i := 0) C (dm_Gi_init 2 rfl) rfl rfl rfl ?_
  refine gi_iconst (q := 6) (v := 3) C (dm_Gi_init 3 rfl) rfl (by decide) ?_
  refine gi_newa (kd := 0) (q := 8) (N := 3) (a0 := (3, .inl (fun _ => 0))) C (dm_Gi_init 4 rfl) rfl ac_int rfl rfl (fun _ => rfl) (by decide) (by decide) (by decide) (Nat.le_of_ble_eq_true rfl) (Nat.le_of_ble_eq_true rfl) ?_
  refine gi_putF (q := 11) C hnm (dm_Gi_init 5 rfl) rfl fF_Gi_9 fp_Gi_1 rfl (by repeat (first | exact gi_up_self _ _ _ | assumption | rw [gi_up_ne (by omega)])) (Nat.le_of_ble_eq_true rfl) rfl rfl ?_
  refine gi_aload_n (q := 12) (i := 0) C (dm_Gi_init 6 rfl) rfl rfl rfl ?_
  refine gi_iconst (q := 13) (v := 3) C (dm_Gi_init 7 rfl) rfl (by decide) ?_
  refine gi_newa (kd := 0) (q := 15) (N := 3) (a0 := (3, .inl (fun _ => 0))) C (dm_Gi_init 8 rfl) rfl ac_int rfl rfl (fun _ => rfl) (by decide) (by decide) (by decide) (Nat.le_of_ble_eq_true rfl) (Nat.le_of_ble_eq_true rfl) ?_
  refine gi_putF (q := 18) C hnm (dm_Gi_init 9 rfl) rfl fF_Gi_15 fp_Gi_2 rfl (by repeat (first | exact gi_up_self _ _ _ | assumption | rw [gi_up_ne (by omega)])) (Nat.le_of_ble_eq_true rfl) rfl rfl ?_
  refine gi_aload_n (q := 19) (i := 0) C (dm_Gi_init 10 rfl) rfl rfl rfl ?_
  refine gi_sipush (q := 22) (v := 600) C (dm_Gi_init 11 rfl) rfl (by decide) ?_
  refine gi_newa (kd := 0) (q := 24) (N := 600) (a0 := (600, .inl (fun _ => 0))) C (dm_Gi_init 12 rfl) rfl ac_int rfl rfl (fun _ => rfl) (by decide) (by decide) (by decide) (Nat.le_of_ble_eq_true rfl) (Nat.le_of_ble_eq_true rfl) ?_
  refine gi_putF (q := 27) C hnm (dm_Gi_init 13 rfl) rfl fF_Gi_18 fp_Gi_3 rfl (by repeat (first | exact gi_up_self _ _ _ | assumption | rw [gi_up_ne (by omega)])) (Nat.le_of_ble_eq_true rfl) rfl rfl ?_
  refine gi_vret C hr (dm_Gi_init 14 rfl) ?_
  exact ⟨rfl, by omega, ⟨by repeat (first | exact gi_up_self _ _ _ | assumption | rw [gi_up_ne (by omega)]), by repeat (first | exact gi_up_self _ _ _ | assumption | rw [gi_up_ne (by omega)]), by repeat (first | exact gi_up_self _ _ _ | assumption | rw [gi_up_ne (by omega)]), by repeat (first | exact gi_up_self _ _ _ | assumption | rw [gi_up_ne (by omega)])⟩, fun b hb => by repeat (first | rfl | rw [gi_up_ne (by omega)])⟩
set_option maxHeartbeats 4000000 in
set_option maxRecDepth 100000 in
theorem c_He_init (a : Nat) (ha : h a = some (gi_O 11 z_He)) : gi_T l V y_He_init b_He_init 1 none 1 20 4 2903 [.ref a] (a + 1) h (fun r n' h' => r = none ∧ n' = a + 5 ∧ he_at a (fun _ => 0) (fun _ _ => 0) h' ∧ ∀ b, b < a → h' b = h b) := by
  refine gi_enter (by decide) (Nat.le_of_ble_eq_true rfl) ?_
  intro p e s m args below meth c C hr hnm
  refine gi_aload_n (q := 1) (i := 0) C (dm_He_init 0 rfl) rfl rfl rfl ?_
  refine gi_objInit (q := 4) C (dm_He_init 1 rfl) rfl lo_He_3 ob_w (Nat.le_of_ble_eq_true rfl) (Nat.le_of_ble_eq_true rfl) ?_
  refine gi_aload_n (q := 5) (i := 0) C (dm_He_init 2 rfl) rfl rfl rfl ?_
  refine gi_sipush (q := 8) (v := 301) C (dm_He_init 3 rfl) rfl (by decide) ?_
  refine gi_newa (kd := 0) (q := 10) (N := 301) (a0 := (301, .inl (fun _ => 0))) C (dm_He_init 4 rfl) rfl ac_int rfl rfl (fun _ => rfl) (by decide) (by decide) (by decide) (Nat.le_of_ble_eq_true rfl) (Nat.le_of_ble_eq_true rfl) ?_
  refine gi_putF (q := 13) C hnm (dm_He_init 5 rfl) rfl fF_He_9 fp_He_2 rfl (by repeat (first | exact gi_up_self _ _ _ | assumption | rw [gi_up_ne (by omega)])) (Nat.le_of_ble_eq_true rfl) rfl rfl ?_
  refine gi_aload_n (q := 14) (i := 0) C (dm_He_init 6 rfl) rfl rfl rfl ?_
  refine gi_sipush (q := 17) (v := 301) C (dm_He_init 7 rfl) rfl (by decide) ?_
  refine gi_newa (kd := 0) (q := 19) (N := 301) (a0 := (301, .inl (fun _ => 0))) C (dm_He_init 8 rfl) rfl ac_int rfl rfl (fun _ => rfl) (by decide) (by decide) (by decide) (Nat.le_of_ble_eq_true rfl) (Nat.le_of_ble_eq_true rfl) ?_
  refine gi_putF (q := 22) C hnm (dm_He_init 9 rfl) rfl fF_He_15 fp_He_3 rfl (by repeat (first | exact gi_up_self _ _ _ | assumption | rw [gi_up_ne (by omega)])) (Nat.le_of_ble_eq_true rfl) rfl rfl ?_
  refine gi_aload_n (q := 23) (i := 0) C (dm_He_init 10 rfl) rfl rfl rfl ?_
  refine gi_sipush (q := 26) (v := 301) C (dm_He_init 11 rfl) rfl (by decide) ?_
  refine gi_newa (kd := 0) (q := 28) (N := 301) (a0 := (301, .inl (fun _ => 0))) C (dm_He_init 12 rfl) rfl ac_int rfl rfl (fun _ => rfl) (by decide) (by decide) (by decide) (Nat.le_of_ble_eq_true rfl) (Nat.le_of_ble_eq_true rfl) ?_
  refine gi_putF (q := 31) C hnm (dm_He_init 13 rfl) rfl fF_He_18 fp_He_4 rfl (by repeat (first | exact gi_up_self _ _ _ | assumption | rw [gi_up_ne (by omega)])) (Nat.le_of_ble_eq_true rfl) rfl rfl ?_
  refine gi_aload_n (q := 32) (i := 0) C (dm_He_init 14 rfl) rfl rfl rfl ?_
  refine gi_sipush (q := 35) (v := 2000) C (dm_He_init 15 rfl) rfl (by decide) ?_
  refine gi_newa (kd := 0) (q := 37) (N := 2000) (a0 := (2000, .inl (fun _ => 0))) C (dm_He_init 16 rfl) rfl ac_int rfl rfl (fun _ => rfl) (by decide) (by decide) (by decide) (Nat.le_of_ble_eq_true rfl) (Nat.le_of_ble_eq_true rfl) ?_
  refine gi_putF (q := 40) C hnm (dm_He_init 17 rfl) rfl fF_He_21 fp_He_5 rfl (by repeat (first | exact gi_up_self _ _ _ | assumption | rw [gi_up_ne (by omega)])) (Nat.le_of_ble_eq_true rfl) rfl rfl ?_
  refine gi_vret C hr (dm_He_init 18 rfl) ?_
  exact ⟨rfl, by omega, ⟨by repeat (first | exact gi_up_self _ _ _ | assumption | rw [gi_up_ne (by omega)]), by repeat (first | exact gi_up_self _ _ _ | assumption | rw [gi_up_ne (by omega)]), by repeat (first | exact gi_up_self _ _ _ | assumption | rw [gi_up_ne (by omega)]), by repeat (first | exact gi_up_self _ _ _ | assumption | rw [gi_up_ne (by omega)]), by repeat (first | exact gi_up_self _ _ _ | assumption | rw [gi_up_ne (by omega)])⟩, fun b hb => by repeat (first | rfl | rw [gi_up_ne (by omega)])⟩
set_option maxHeartbeats 4000000 in
set_option maxRecDepth 100000 in
theorem c_Ju_init (a : Nat) (pr fa : Nat) (ha : h a = some (gi_O 8 z_Ju)) : gi_T l V y_Ju_init b_Ju_init 3 none 1 20 0 0 [.ref a, .ref pr, .ref fa] (a + 1) h (fun r n' h' => r = none ∧ n' = a + 1 ∧ ju_at a pr fa h' ∧ ∀ b, b < a → h' b = h b) := by
  refine gi_enter (by decide) (Nat.le_of_ble_eq_true rfl) ?_
  intro p e s m args below meth c C hr hnm
  refine gi_aload_n (q := 1) (i := 0) C (dm_Ju_init 0 rfl) rfl rfl rfl ?_
  refine gi_objInit (q := 4) C (dm_Ju_init 1 rfl) rfl lo_Ju_3 ob_w (Nat.le_of_ble_eq_true rfl) (Nat.le_of_ble_eq_true rfl) ?_
  refine gi_aload_n (q := 5) (i := 0) C (dm_Ju_init 2 rfl) rfl rfl rfl ?_
  refine gi_aload_n (q := 6) (i := 1) C (dm_Ju_init 3 rfl) rfl rfl rfl ?_
  refine gi_putF (q := 9) C hnm (dm_Ju_init 4 rfl) rfl fF_Ju_9 fp_Ju_0 rfl (by repeat (first | exact gi_up_self _ _ _ | assumption | rw [gi_up_ne (by omega)])) (Nat.le_of_ble_eq_true rfl) rfl rfl ?_
  refine gi_aload_n (q := 10) (i := 0) C (dm_Ju_init 5 rfl) rfl rfl rfl ?_
  refine gi_aload_n (q := 11) (i := 2) C (dm_Ju_init 6 rfl) rfl rfl rfl ?_
  refine gi_putF (q := 14) C hnm (dm_Ju_init 7 rfl) rfl fF_Ju_15 fp_Ju_1 rfl (by repeat (first | exact gi_up_self _ _ _ | assumption | rw [gi_up_ne (by omega)])) (Nat.le_of_ble_eq_true rfl) rfl rfl ?_
  refine gi_vret C hr (dm_Ju_init 8 rfl) ?_
  exact ⟨rfl, by omega, by repeat (first | exact gi_up_self _ _ _ | assumption | rw [gi_up_ne (by omega)]), fun b hb => by repeat (first | rfl | rw [gi_up_ne (by omega)])⟩
set_option maxHeartbeats 4000000 in
set_option maxRecDepth 100000 in
theorem c_Re_init (a : Nat) (ha : h a = some (gi_O 7 z_Re)) : gi_T l V y_Re_init b_Re_init 1 none 2 40 2 12 [.ref a] (a + 1) h (fun r n' h' => r = none ∧ n' = a + 3 ∧ re_at a zV zV h' ∧ ∀ b, b < a → h' b = h b) := by
  refine gi_enter (by decide) (Nat.le_of_ble_eq_true rfl) ?_
  intro p e s m args below meth c C hr hnm
  refine gi_aload_n (q := 1) (i := 0) C (dm_Re_init 0 rfl) rfl rfl rfl ?_
  refine gi_objInit (q := 4) C (dm_Re_init 1 rfl) rfl lo_Re_3 ob_w (Nat.le_of_ble_eq_true rfl) (Nat.le_of_ble_eq_true rfl) ?_
  refine gi_aload_n (q := 5) (i := 0) C (dm_Re_init 2 rfl) rfl rfl rfl ?_
  refine gi_new (q := 8) C (dm_Re_init 3 rfl) rfl nc_Re_9 (Nat.le_of_ble_eq_true rfl) (Nat.le_of_ble_eq_true rfl) ?_
  refine gi_dup (q := 9) C (dm_Re_init 4 rfl) rfl rfl ?_
  refine gi_calli 0 (q := 12) C (dm_Re_init 5 rfl) rfl my_Va_init lk_Re_11 im_Va_init rfl (c_Va_init _) rfl rfl ⟨(Nat.le_of_ble_eq_true rfl), (Nat.le_of_ble_eq_true rfl)⟩ (Nat.le_of_ble_eq_true rfl) ⟨(Nat.le_of_ble_eq_true rfl), (Nat.le_of_ble_eq_true rfl)⟩ (fun r9 n9 h9 e9 => ?_)
  obtain ⟨rfl, rfl, rfl⟩ := e9
  refine gi_putF (q := 15) C hnm (dm_Re_init 6 rfl) rfl fF_Re_12 fp_Re_0 rfl (by repeat (first | exact gi_up_self _ _ _ | assumption | rw [gi_up_ne (by omega)])) (Nat.le_of_ble_eq_true rfl) rfl rfl ?_
  refine gi_aload_n (q := 16) (i := 0) C (dm_Re_init 7 rfl) rfl rfl rfl ?_
  refine gi_new (q := 19) C (dm_Re_init 8 rfl) rfl nc_Re_9 (Nat.le_of_ble_eq_true rfl) (Nat.le_of_ble_eq_true rfl) ?_
  refine gi_dup (q := 20) C (dm_Re_init 9 rfl) rfl rfl ?_
  refine gi_calli 0 (q := 23) C (dm_Re_init 10 rfl) rfl my_Va_init lk_Re_11 im_Va_init rfl (c_Va_init _) rfl rfl ⟨(Nat.le_of_ble_eq_true rfl), (Nat.le_of_ble_eq_true rfl)⟩ (Nat.le_of_ble_eq_true rfl) ⟨(Nat.le_of_ble_eq_true rfl), (Nat.le_of_ble_eq_true rfl)⟩ (fun r20 n20 h20 e20 => ?_)
  obtain ⟨rfl, rfl, rfl⟩ := e20
  refine gi_putF (q := 26) C hnm (dm_Re_init 11 rfl) rfl fF_Re_18 fp_Re_1 rfl (by repeat (first | exact gi_up_self _ _ _ | assumption | rw [gi_up_ne (by omega)])) (Nat.le_of_ble_eq_true rfl) rfl rfl ?_
  refine gi_vret C hr (dm_Re_init 12 rfl) ?_
  exact ⟨rfl, by omega, ⟨by repeat (first | exact gi_up_self _ _ _ | assumption | rw [gi_up_ne (by omega)]), by repeat (first | exact gi_up_self _ _ _ | assumption | rw [gi_up_ne (by omega)]), by repeat (first | exact gi_up_self _ _ _ | assumption | rw [gi_up_ne (by omega)])⟩, fun b hb => by repeat (first | rfl | rw [gi_up_ne (by omega)])⟩
set_option maxHeartbeats 4000000 in
set_option maxRecDepth 100000 in
theorem c_Ma_init (a : Nat) (pr bu fa gv : Nat) (ha : h a = some (gi_O 10 z_Ma)) : gi_T l V y_Ma_init b_Ma_init 5 none 2 40 11 3193 [.ref a, .ref pr, .ref bu, .ref fa, .ref gv] (a + 1) h (fun r n' h' => r = none ∧ n' = a + 12 ∧ ma_at a pr bu fa gv (fun k => if k = 0 then -1 else 0) (fun _ _ => 0) (fun _ => 0) (fun _ => 0) (fun _ _ => 0) h' ∧ ∀ b, b < a → h' b = h b) := by
  refine gi_enter (by decide) (Nat.le_of_ble_eq_true rfl) ?_
  intro p e s m args below meth c C hr hnm
  refine gi_aload_n (q := 1) (i := 0) C (dm_Ma_init 0 rfl) rfl rfl rfl ?_
  refine gi_objInit (q := 4) C (dm_Ma_init 1 rfl) rfl lo_Ma_3 ob_w (Nat.le_of_ble_eq_true rfl) (Nat.le_of_ble_eq_true rfl) ?_
  refine gi_aload_n (q := 5) (i := 0) C (dm_Ma_init 2 rfl) rfl rfl rfl ?_
  refine gi_iconst (q := 6) (v := -1) C (dm_Ma_init 3 rfl) rfl (by decide) ?_
  refine gi_put (q := 9) C (dm_Ma_init 4 rfl) rfl fl_Ma_9 fp_Ma_0 (by repeat (first | exact gi_up_self _ _ _ | assumption | rw [gi_up_ne (by omega)])) (Nat.le_of_ble_eq_true rfl) rfl rfl ?_
  refine gi_aload_n (q := 10) (i := 0) C (dm_Ma_init 5 rfl) rfl rfl rfl ?_
  refine gi_new (q := 13) C (dm_Ma_init 6 rfl) rfl nc_Ma_15 (Nat.le_of_ble_eq_true rfl) (Nat.le_of_ble_eq_true rfl) ?_
  refine gi_dup (q := 14) C (dm_Ma_init 7 rfl) rfl rfl ?_
  refine gi_calli 0 (q := 17) C (dm_Ma_init 8 rfl) rfl my_He_init lk_Ma_17 im_He_init rfl (c_He_init (a + 1) (gi_up_self _ _ _)) rfl rfl ⟨(Nat.le_of_ble_eq_true rfl), (Nat.le_of_ble_eq_true rfl)⟩ (Nat.le_of_ble_eq_true rfl) ⟨(Nat.le_of_ble_eq_true rfl), (Nat.le_of_ble_eq_true rfl)⟩ (fun r14 n14 h14 e14 => ?_)
  obtain ⟨rfl, rfl, ⟨q1, q2, q3, q4, q5⟩, q6⟩ := e14
  have q7 := q6 a (by omega)
  rw [gi_up_ne (by omega)] at q7
  have q8 : h14 a = some (gi_O 10 (z_Ma.set 0 (.int (-1)))) := by rw [q7]; exact gi_up_self _ _ _
  have q9 : ∀ b, b < a → h14 b = h b := fun b hb => by rw [q6 b (by omega), gi_up_ne (by omega), gi_up_ne (by omega)]
  refine gi_putF (q := 20) C hnm (dm_Ma_init 9 rfl) rfl fF_Ma_18 fp_Ma_5 rfl (by repeat (first | exact gi_up_self _ _ _ | assumption | rw [gi_up_ne (by omega)])) (Nat.le_of_ble_eq_true rfl) rfl rfl ?_
  refine gi_aload_n (q := 21) (i := 0) C (dm_Ma_init 10 rfl) rfl rfl rfl ?_
  refine gi_bipush (q := 23) (v := 8) C (dm_Ma_init 11 rfl) rfl (by decide) ?_
  refine gi_newa (kd := 2) (q := 25) (N := 8) (a0 := (8, .inr (.inl (fun _ => 0)))) C (dm_Ma_init 12 rfl) rfl ac_long rfl rfl (fun _ => rfl) (by decide) (by decide) (by decide) (Nat.le_of_ble_eq_true rfl) (Nat.le_of_ble_eq_true rfl) ?_
  refine gi_putF (q := 28) C hnm (dm_Ma_init 13 rfl) rfl fF_Ma_22 fp_Ma_6 rfl (by repeat (first | exact gi_up_self _ _ _ | assumption | rw [gi_up_ne (by omega)])) (Nat.le_of_ble_eq_true rfl) rfl rfl ?_
  refine gi_aload_n (q := 29) (i := 0) C (dm_Ma_init 14 rfl) rfl rfl rfl ?_
  refine gi_iconst (q := 30) (v := 4) C (dm_Ma_init 15 rfl) rfl (by decide) ?_
  refine gi_newa (kd := 0) (q := 32) (N := 4) (a0 := (4, .inl (fun _ => 0))) C (dm_Ma_init 16 rfl) rfl ac_int rfl rfl (fun _ => rfl) (by decide) (by decide) (by decide) (Nat.le_of_ble_eq_true rfl) (Nat.le_of_ble_eq_true rfl) ?_
  refine gi_putF (q := 35) C hnm (dm_Ma_init 17 rfl) rfl fF_Ma_26 fp_Ma_7 rfl (by repeat (first | exact gi_up_self _ _ _ | assumption | rw [gi_up_ne (by omega)])) (Nat.le_of_ble_eq_true rfl) rfl rfl ?_
  refine gi_aload_n (q := 36) (i := 0) C (dm_Ma_init 18 rfl) rfl rfl rfl ?_
  refine gi_sipush (q := 39) (v := 224) C (dm_Ma_init 19 rfl) rfl (by decide) ?_
  refine gi_newa (kd := 0) (q := 41) (N := 224) (a0 := (224, .inl (fun _ => 0))) C (dm_Ma_init 20 rfl) rfl ac_int rfl rfl (fun _ => rfl) (by decide) (by decide) (by decide) (Nat.le_of_ble_eq_true rfl) (Nat.le_of_ble_eq_true rfl) ?_
  refine gi_putF (q := 44) C hnm (dm_Ma_init 21 rfl) rfl fF_Ma_30 fp_Ma_8 rfl (by repeat (first | exact gi_up_self _ _ _ | assumption | rw [gi_up_ne (by omega)])) (Nat.le_of_ble_eq_true rfl) rfl rfl ?_
  refine gi_aload_n (q := 45) (i := 0) C (dm_Ma_init 22 rfl) rfl rfl rfl ?_
  refine gi_bipush (q := 47) (v := 16) C (dm_Ma_init 23 rfl) rfl (by decide) ?_
  refine gi_newa (kd := 0) (q := 49) (N := 16) (a0 := (16, .inl (fun _ => 0))) C (dm_Ma_init 24 rfl) rfl ac_int rfl rfl (fun _ => rfl) (by decide) (by decide) (by decide) (Nat.le_of_ble_eq_true rfl) (Nat.le_of_ble_eq_true rfl) ?_
  refine gi_putF (q := 52) C hnm (dm_Ma_init 25 rfl) rfl fF_Ma_33 fp_Ma_9 rfl (by repeat (first | exact gi_up_self _ _ _ | assumption | rw [gi_up_ne (by omega)])) (Nat.le_of_ble_eq_true rfl) rfl rfl ?_
  refine gi_aload_n (q := 53) (i := 0) C (dm_Ma_init 26 rfl) rfl rfl rfl ?_
  refine gi_bipush (q := 55) (v := 16) C (dm_Ma_init 27 rfl) rfl (by decide) ?_
  refine gi_newa (kd := 0) (q := 57) (N := 16) (a0 := (16, .inl (fun _ => 0))) C (dm_Ma_init 28 rfl) rfl ac_int rfl rfl (fun _ => rfl) (by decide) (by decide) (by decide) (Nat.le_of_ble_eq_true rfl) (Nat.le_of_ble_eq_true rfl) ?_
  refine gi_putF (q := 60) C hnm (dm_Ma_init 29 rfl) rfl fF_Ma_36 fp_Ma_10 rfl (by repeat (first | exact gi_up_self _ _ _ | assumption | rw [gi_up_ne (by omega)])) (Nat.le_of_ble_eq_true rfl) rfl rfl ?_
  refine gi_aload_n (q := 61) (i := 0) C (dm_Ma_init 30 rfl) rfl rfl rfl ?_
  refine gi_bipush (q := 63) (v := 16) C (dm_Ma_init 31 rfl) rfl (by decide) ?_
  refine gi_newa (kd := 0) (q := 65) (N := 16) (a0 := (16, .inl (fun _ => 0))) C (dm_Ma_init 32 rfl) rfl ac_int rfl rfl (fun _ => rfl) (by decide) (by decide) (by decide) (Nat.le_of_ble_eq_true rfl) (Nat.le_of_ble_eq_true rfl) ?_
  refine gi_putF (q := 68) C hnm (dm_Ma_init 33 rfl) rfl fF_Ma_39 fp_Ma_11 rfl (by repeat (first | exact gi_up_self _ _ _ | assumption | rw [gi_up_ne (by omega)])) (Nat.le_of_ble_eq_true rfl) rfl rfl ?_
  refine gi_aload_n (q := 69) (i := 0) C (dm_Ma_init 34 rfl) rfl rfl rfl ?_
  refine gi_aload_n (q := 70) (i := 1) C (dm_Ma_init 35 rfl) rfl rfl rfl ?_
  refine gi_putF (q := 73) C hnm (dm_Ma_init 36 rfl) rfl fF_Ma_42 fp_Ma_1 rfl (by repeat (first | exact gi_up_self _ _ _ | assumption | rw [gi_up_ne (by omega)])) (Nat.le_of_ble_eq_true rfl) rfl rfl ?_
  refine gi_aload_n (q := 74) (i := 0) C (dm_Ma_init 37 rfl) rfl rfl rfl ?_
  refine gi_aload_n (q := 75) (i := 2) C (dm_Ma_init 38 rfl) rfl rfl rfl ?_
  refine gi_putF (q := 78) C hnm (dm_Ma_init 39 rfl) rfl fF_Ma_46 fp_Ma_2 rfl (by repeat (first | exact gi_up_self _ _ _ | assumption | rw [gi_up_ne (by omega)])) (Nat.le_of_ble_eq_true rfl) rfl rfl ?_
  refine gi_aload_n (q := 79) (i := 0) C (dm_Ma_init 40 rfl) rfl rfl rfl ?_
  refine gi_aload_n (q := 80) (i := 3) C (dm_Ma_init 41 rfl) rfl rfl rfl ?_
  refine gi_putF (q := 83) C hnm (dm_Ma_init 42 rfl) rfl fF_Ma_50 fp_Ma_3 rfl (by repeat (first | exact gi_up_self _ _ _ | assumption | rw [gi_up_ne (by omega)])) (Nat.le_of_ble_eq_true rfl) rfl rfl ?_
  refine gi_aload_n (q := 84) (i := 0) C (dm_Ma_init 43 rfl) rfl rfl rfl ?_
  refine gi_aload (q := 86) C (dm_Ma_init 44 rfl) rfl rfl ?_
  refine gi_putF (q := 89) C hnm (dm_Ma_init 45 rfl) rfl fF_Ma_54 fp_Ma_4 rfl (by repeat (first | exact gi_up_self _ _ _ | assumption | rw [gi_up_ne (by omega)])) (Nat.le_of_ble_eq_true rfl) rfl rfl ?_
  refine gi_vret C hr (dm_Ma_init 46 rfl) ?_
  exact ⟨rfl, by omega, ⟨by repeat (first | exact gi_up_self _ _ _ | assumption | rw [gi_up_ne (by omega)]), ⟨by repeat (first | exact gi_up_self _ _ _ | assumption | rw [gi_up_ne (by omega)]), by repeat (first | exact gi_up_self _ _ _ | assumption | rw [gi_up_ne (by omega)]), by repeat (first | exact gi_up_self _ _ _ | assumption | rw [gi_up_ne (by omega)]), by repeat (first | exact gi_up_self _ _ _ | assumption | rw [gi_up_ne (by omega)]), by repeat (first | exact gi_up_self _ _ _ | assumption | rw [gi_up_ne (by omega)])⟩, by repeat (first | exact gi_up_self _ _ _ | assumption | rw [gi_up_ne (by omega)]), by repeat (first | exact gi_up_self _ _ _ | assumption | rw [gi_up_ne (by omega)]), by repeat (first | exact gi_up_self _ _ _ | assumption | rw [gi_up_ne (by omega)]), by repeat (first | exact gi_up_self _ _ _ | assumption | rw [gi_up_ne (by omega)]), by repeat (first | exact gi_up_self _ _ _ | assumption | rw [gi_up_ne (by omega)]), by repeat (first | exact gi_up_self _ _ _ | assumption | rw [gi_up_ne (by omega)])⟩, fun b hb => by repeat (first | exact q9 b hb | rw [gi_up_ne (by omega)])⟩
end IN1
