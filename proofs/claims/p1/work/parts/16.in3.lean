section IN3
variable {l : Launch} {V : gi_V} {n : Nat} {h : gi_H}
/-- the house at X: what its object says; Program, Building, the two Facts, Stepper, Judge, Given, Machine -/
def hs_ob (X : Nat) (ct cr : Int32) (h : gi_H) : Prop := h X = some (gi_O 0 [.ref (X + 1), .ref (X + 9), .ref (X + 17), .ref (X + 8431), .ref (X + 16845), .ref (X + 16910), .ref (X + 16911), .ref (X + 16915), .int ct, .int cr])
def hs_0 (X : Nat) (h : gi_H) : Prop := hs_ob X 0 0 h ∧ pr_at (X + 1) 0 (fun _ _ => 0) h ∧ bu_at (X + 9) (X + 1) (fun _ => 0) (fun _ _ => 0) h ∧ fa_at (X + 17) (fun t => ro_0 (fa_row (X + 17) t)) h ∧ fa_at (X + 8431) (fun t => ro_0 (fa_row (X + 8431) t)) h ∧ sp_at (X + 16845) (X + 1) (X + 9) (X + 17) (X + 17) (fun _ => 0) (fun _ => zV) (fun k => ro_0 (X + 16845 + 4 + 17 * k)) h ∧ ju_at (X + 16910) (X + 1) (X + 17) h ∧ gv_at (X + 16911) (fun _ => 0) (fun _ _ => 0) h ∧ ma_at (X + 16915) (X + 1) (X + 9) (X + 17) (X + 16911) (fun k => if k = 0 then -1 else 0) (fun _ _ => 0) (fun _ => 0) (fun _ => 0) (fun _ _ => 0) h
set_option maxHeartbeats 4000000 in
set_option maxRecDepth 100000 in
theorem c_H_init (X : Nat) (ha : h X = some (gi_O 0 z_H)) : gi_T l V y_H_init b_H_init 1 none 4 85 16926 122753 [.ref X] (X + 1) h (fun r n' h' => r = none ∧ n' = X + 16927 ∧ hs_0 X h' ∧ ∀ b, b < X → h' b = h b) := by
  refine gi_enter (by decide) (Nat.le_of_ble_eq_true rfl) ?_
  intro p e s m args below meth c C hr hnm
  refine gi_aload_n (q := 1) (i := 0) C (dm_H_init 0 rfl) rfl rfl rfl ?_
  refine gi_objInit (q := 4) C (dm_H_init 1 rfl) rfl lo_H_3 ob_w (Nat.le_of_ble_eq_true rfl) (Nat.le_of_ble_eq_true rfl) ?_
  refine gi_aload_n (q := 5) (i := 0) C (dm_H_init 2 rfl) rfl rfl rfl ?_
  refine gi_new (q := 8) C (dm_H_init 3 rfl) rfl nc_H_9 (Nat.le_of_ble_eq_true rfl) (Nat.le_of_ble_eq_true rfl) ?_
  refine gi_dup (q := 9) C (dm_H_init 4 rfl) rfl rfl ?_
  refine gi_calli 0 (q := 12) C (dm_H_init 5 rfl) rfl my_Pr_init lk_H_11 im_Pr_init rfl (c_Pr_init (X + 1) (gi_up_self _ _ _)) rfl rfl ⟨(Nat.le_of_ble_eq_true rfl), (Nat.le_of_ble_eq_true rfl)⟩ (Nat.le_of_ble_eq_true rfl) ⟨(Nat.le_of_ble_eq_true rfl), (Nat.le_of_ble_eq_true rfl)⟩ (fun r9 n9 h9 e9 => ?_)
  obtain ⟨rfl, rfl, at9, hold9'⟩ := e9
  have hold9 : ∀ b, b < X + 1 → h9 b = _ := fun b hb => by rw [hold9' b hb, gi_up_ne (by omega)]
  refine gi_putF (q := 15) C hnm (dm_H_init 6 rfl) rfl fF_H_12 fp_H_0 rfl (by repeat (first | assumption | exact gi_up_self _ _ _ | rw [gi_up_ne (by omega)] | rw [hold9 _ (by omega)])) (Nat.le_of_ble_eq_true rfl) rfl rfl ?_
  refine gi_aload_n (q := 16) (i := 0) C (dm_H_init 7 rfl) rfl rfl rfl ?_
  refine gi_new (q := 19) C (dm_H_init 8 rfl) rfl nc_H_16 (Nat.le_of_ble_eq_true rfl) (Nat.le_of_ble_eq_true rfl) ?_
  refine gi_dup (q := 20) C (dm_H_init 9 rfl) rfl rfl ?_
  refine gi_aload_n (q := 21) (i := 0) C (dm_H_init 10 rfl) rfl rfl rfl ?_
  refine gi_get (q := 24) C (dm_H_init 11 rfl) rfl fl_H_12 (by repeat (first | assumption | exact gi_up_self _ _ _ | rw [gi_up_ne (by omega)] | rw [hold9 _ (by omega)])) rfl ?_
  refine gi_calli 1 (q := 27) C (dm_H_init 12 rfl) rfl my_Bu_init lk_H_18 im_Bu_init rfl (c_Bu_init (X + 1 + 8) (X + 1) (gi_up_self _ _ _)) rfl rfl ⟨(Nat.le_of_ble_eq_true rfl), (Nat.le_of_ble_eq_true rfl)⟩ (Nat.le_of_ble_eq_true rfl) ⟨(Nat.le_of_ble_eq_true rfl), (Nat.le_of_ble_eq_true rfl)⟩ (fun r24 n24 h24 e24 => ?_)
  obtain ⟨rfl, rfl, at24, hold24'⟩ := e24
  have hold24 : ∀ b, b < X + 1 + 8 → h24 b = _ := fun b hb => by rw [hold24' b hb, gi_up_ne (by omega)]
  refine gi_putF (q := 30) C hnm (dm_H_init 13 rfl) rfl fF_H_21 fp_H_1 rfl (by repeat (first | assumption | exact gi_up_self _ _ _ | rw [gi_up_ne (by omega)] | rw [hold24 _ (by omega)] | rw [hold9 _ (by omega)])) (Nat.le_of_ble_eq_true rfl) rfl rfl ?_
  refine gi_aload_n (q := 31) (i := 0) C (dm_H_init 14 rfl) rfl rfl rfl ?_
  refine gi_new (q := 34) C (dm_H_init 15 rfl) rfl nc_H_25 (Nat.le_of_ble_eq_true rfl) (Nat.le_of_ble_eq_true rfl) ?_
  refine gi_dup (q := 35) C (dm_H_init 16 rfl) rfl rfl ?_
  refine gi_calli 0 (q := 38) C (dm_H_init 17 rfl) rfl my_Fa_init lk_H_27 im_Fa_init rfl (c_Fa_init (X + 1 + 8 + 8) (gi_up_self _ _ _)) rfl rfl ⟨(Nat.le_of_ble_eq_true rfl), (Nat.le_of_ble_eq_true rfl)⟩ (Nat.le_of_ble_eq_true rfl) ⟨(Nat.le_of_ble_eq_true rfl), (Nat.le_of_ble_eq_true rfl)⟩ (fun r35 n35 h35 e35 => ?_)
  obtain ⟨rfl, rfl, at35, hold35'⟩ := e35
  have hold35 : ∀ b, b < X + 1 + 8 + 8 → h35 b = _ := fun b hb => by rw [hold35' b hb, gi_up_ne (by omega)]
  refine gi_putF (q := 41) C hnm (dm_H_init 18 rfl) rfl fF_H_28 fp_H_2 rfl (by repeat (first | assumption | exact gi_up_self _ _ _ | rw [gi_up_ne (by omega)] | rw [hold35 _ (by omega)] | rw [hold24 _ (by omega)] | rw [hold9 _ (by omega)])) (Nat.le_of_ble_eq_true rfl) rfl rfl ?_
  refine gi_aload_n (q := 42) (i := 0) C (dm_H_init 19 rfl) rfl rfl rfl ?_
  refine gi_new (q := 45) C (dm_H_init 20 rfl) rfl nc_H_25 (Nat.le_of_ble_eq_true rfl) (Nat.le_of_ble_eq_true rfl) ?_
  refine gi_dup (q := 46) C (dm_H_init 21 rfl) rfl rfl ?_
  refine gi_calli 0 (q := 49) C (dm_H_init 22 rfl) rfl my_Fa_init lk_H_27 im_Fa_init rfl (c_Fa_init (X + 1 + 8 + 8 + 8414) (gi_up_self _ _ _)) rfl rfl ⟨(Nat.le_of_ble_eq_true rfl), (Nat.le_of_ble_eq_true rfl)⟩ (Nat.le_of_ble_eq_true rfl) ⟨(Nat.le_of_ble_eq_true rfl), (Nat.le_of_ble_eq_true rfl)⟩ (fun r46 n46 h46 e46 => ?_)
  obtain ⟨rfl, rfl, at46, hold46'⟩ := e46
  have hold46 : ∀ b, b < X + 1 + 8 + 8 + 8414 → h46 b = _ := fun b hb => by rw [hold46' b hb, gi_up_ne (by omega)]
  refine gi_putF (q := 52) C hnm (dm_H_init 23 rfl) rfl fF_H_32 fp_H_3 rfl (by repeat (first | assumption | exact gi_up_self _ _ _ | rw [gi_up_ne (by omega)] | rw [hold46 _ (by omega)] | rw [hold35 _ (by omega)] | rw [hold24 _ (by omega)] | rw [hold9 _ (by omega)])) (Nat.le_of_ble_eq_true rfl) rfl rfl ?_
  refine gi_aload_n (q := 53) (i := 0) C (dm_H_init 24 rfl) rfl rfl rfl ?_
  refine gi_new (q := 56) C (dm_H_init 25 rfl) rfl nc_H_35 (Nat.le_of_ble_eq_true rfl) (Nat.le_of_ble_eq_true rfl) ?_
  refine gi_dup (q := 57) C (dm_H_init 26 rfl) rfl rfl ?_
  refine gi_aload_n (q := 58) (i := 0) C (dm_H_init 27 rfl) rfl rfl rfl ?_
  refine gi_get (q := 61) C (dm_H_init 28 rfl) rfl fl_H_12 (by repeat (first | assumption | exact gi_up_self _ _ _ | rw [gi_up_ne (by omega)] | rw [hold46 _ (by omega)] | rw [hold35 _ (by omega)] | rw [hold24 _ (by omega)] | rw [hold9 _ (by omega)])) rfl ?_
  refine gi_aload_n (q := 62) (i := 0) C (dm_H_init 29 rfl) rfl rfl rfl ?_
  refine gi_get (q := 65) C (dm_H_init 30 rfl) rfl fl_H_21 (by repeat (first | assumption | exact gi_up_self _ _ _ | rw [gi_up_ne (by omega)] | rw [hold46 _ (by omega)] | rw [hold35 _ (by omega)] | rw [hold24 _ (by omega)] | rw [hold9 _ (by omega)])) rfl ?_
  refine gi_aload_n (q := 66) (i := 0) C (dm_H_init 31 rfl) rfl rfl rfl ?_
  refine gi_get (q := 69) C (dm_H_init 32 rfl) rfl fl_H_28 (by repeat (first | assumption | exact gi_up_self _ _ _ | rw [gi_up_ne (by omega)] | rw [hold46 _ (by omega)] | rw [hold35 _ (by omega)] | rw [hold24 _ (by omega)] | rw [hold9 _ (by omega)])) rfl ?_
  refine gi_calli 3 (q := 72) C (dm_H_init 33 rfl) rfl my_St_init lk_H_37 im_St_init rfl (c_St_init (X + 1 + 8 + 8 + 8414 + 8414) (X + 1) (X + 1 + 8) (X + 1 + 8 + 8) (gi_up_self _ _ _)) rfl rfl ⟨(Nat.le_of_ble_eq_true rfl), (Nat.le_of_ble_eq_true rfl)⟩ (Nat.le_of_ble_eq_true rfl) ⟨(Nat.le_of_ble_eq_true rfl), (Nat.le_of_ble_eq_true rfl)⟩ (fun r69 n69 h69 e69 => ?_)
  obtain ⟨rfl, rfl, at69, hold69'⟩ := e69
  have hold69 : ∀ b, b < X + 1 + 8 + 8 + 8414 + 8414 → h69 b = _ := fun b hb => by rw [hold69' b hb, gi_up_ne (by omega)]
  refine gi_putF (q := 75) C hnm (dm_H_init 34 rfl) rfl fF_H_40 fp_H_4 rfl (by repeat (first | assumption | exact gi_up_self _ _ _ | rw [gi_up_ne (by omega)] | rw [hold69 _ (by omega)] | rw [hold46 _ (by omega)] | rw [hold35 _ (by omega)] | rw [hold24 _ (by omega)] | rw [hold9 _ (by omega)])) (Nat.le_of_ble_eq_true rfl) rfl rfl ?_
  refine gi_aload_n (q := 76) (i := 0) C (dm_H_init 35 rfl) rfl rfl rfl ?_
  refine gi_new (q := 79) C (dm_H_init 36 rfl) rfl nc_H_44 (Nat.le_of_ble_eq_true rfl) (Nat.le_of_ble_eq_true rfl) ?_
  refine gi_dup (q := 80) C (dm_H_init 37 rfl) rfl rfl ?_
  refine gi_aload_n (q := 81) (i := 0) C (dm_H_init 38 rfl) rfl rfl rfl ?_
  refine gi_get (q := 84) C (dm_H_init 39 rfl) rfl fl_H_12 (by repeat (first | assumption | exact gi_up_self _ _ _ | rw [gi_up_ne (by omega)] | rw [hold69 _ (by omega)] | rw [hold46 _ (by omega)] | rw [hold35 _ (by omega)] | rw [hold24 _ (by omega)] | rw [hold9 _ (by omega)])) rfl ?_
  refine gi_aload_n (q := 85) (i := 0) C (dm_H_init 40 rfl) rfl rfl rfl ?_
  refine gi_get (q := 88) C (dm_H_init 41 rfl) rfl fl_H_28 (by repeat (first | assumption | exact gi_up_self _ _ _ | rw [gi_up_ne (by omega)] | rw [hold69 _ (by omega)] | rw [hold46 _ (by omega)] | rw [hold35 _ (by omega)] | rw [hold24 _ (by omega)] | rw [hold9 _ (by omega)])) rfl ?_
  refine gi_calli 2 (q := 91) C (dm_H_init 42 rfl) rfl my_Ju_init lk_H_46 im_Ju_init rfl (c_Ju_init (X + 1 + 8 + 8 + 8414 + 8414 + 65) (X + 1) (X + 1 + 8 + 8) (gi_up_self _ _ _)) rfl rfl ⟨(Nat.le_of_ble_eq_true rfl), (Nat.le_of_ble_eq_true rfl)⟩ (Nat.le_of_ble_eq_true rfl) ⟨(Nat.le_of_ble_eq_true rfl), (Nat.le_of_ble_eq_true rfl)⟩ (fun r88 n88 h88 e88 => ?_)
  obtain ⟨rfl, rfl, at88, hold88'⟩ := e88
  have hold88 : ∀ b, b < X + 1 + 8 + 8 + 8414 + 8414 + 65 → h88 b = _ := fun b hb => by rw [hold88' b hb, gi_up_ne (by omega)]
  refine gi_putF (q := 94) C hnm (dm_H_init 43 rfl) rfl fF_H_49 fp_H_5 rfl (by repeat (first | assumption | exact gi_up_self _ _ _ | rw [gi_up_ne (by omega)] | rw [hold88 _ (by omega)] | rw [hold69 _ (by omega)] | rw [hold46 _ (by omega)] | rw [hold35 _ (by omega)] | rw [hold24 _ (by omega)] | rw [hold9 _ (by omega)])) (Nat.le_of_ble_eq_true rfl) rfl rfl ?_
  refine gi_aload_n (q := 95) (i := 0) C (dm_H_init 44 rfl) rfl rfl rfl ?_
  refine gi_new (q := 98) C (dm_H_init 45 rfl) rfl nc_H_53 (Nat.le_of_ble_eq_true rfl) (Nat.le_of_ble_eq_true rfl) ?_
  refine gi_dup (q := 99) C (dm_H_init 46 rfl) rfl rfl ?_
  refine gi_calli 0 (q := 102) C (dm_H_init 47 rfl) rfl my_Gi_init lk_H_55 im_Gi_init rfl (c_Gi_init (X + 1 + 8 + 8 + 8414 + 8414 + 65 + 1) (gi_up_self _ _ _)) rfl rfl ⟨(Nat.le_of_ble_eq_true rfl), (Nat.le_of_ble_eq_true rfl)⟩ (Nat.le_of_ble_eq_true rfl) ⟨(Nat.le_of_ble_eq_true rfl), (Nat.le_of_ble_eq_true rfl)⟩ (fun r99 n99 h99 e99 => ?_)
  obtain ⟨rfl, rfl, at99, hold99'⟩ := e99
  have hold99 : ∀ b, b < X + 1 + 8 + 8 + 8414 + 8414 + 65 + 1 → h99 b = _ := fun b hb => by rw [hold99' b hb, gi_up_ne (by omega)]
  refine gi_putF (q := 105) C hnm (dm_H_init 48 rfl) rfl fF_H_56 fp_H_6 rfl (by repeat (first | assumption | exact gi_up_self _ _ _ | rw [gi_up_ne (by omega)] | rw [hold99 _ (by omega)] | rw [hold88 _ (by omega)] | rw [hold69 _ (by omega)] | rw [hold46 _ (by omega)] | rw [hold35 _ (by omega)] | rw [hold24 _ (by omega)] | rw [hold9 _ (by omega)])) (Nat.le_of_ble_eq_true rfl) rfl rfl ?_
  refine gi_aload_n (q := 106) (i := 0) C (dm_H_init 49 rfl) rfl rfl rfl ?_
  refine gi_new (q := 109) C (dm_H_init 50 rfl) rfl nc_H_60 (Nat.le_of_ble_eq_true rfl) (Nat.le_of_ble_eq_true rfl) ?_
  refine gi_dup (q := 110) C (dm_H_init 51 rfl) rfl rfl ?_
  refine gi_aload_n (q := 111) (i := 0) C (dm_H_init 52 rfl) rfl rfl rfl ?_
  refine gi_get (q := 114) C (dm_H_init 53 rfl) rfl fl_H_12 (by repeat (first | assumption | exact gi_up_self _ _ _ | rw [gi_up_ne (by omega)] | rw [hold99 _ (by omega)] | rw [hold88 _ (by omega)] | rw [hold69 _ (by omega)] | rw [hold46 _ (by omega)] | rw [hold35 _ (by omega)] | rw [hold24 _ (by omega)] | rw [hold9 _ (by omega)])) rfl ?_
  refine gi_aload_n (q := 115) (i := 0) C (dm_H_init 54 rfl) rfl rfl rfl ?_
  refine gi_get (q := 118) C (dm_H_init 55 rfl) rfl fl_H_21 (by repeat (first | assumption | exact gi_up_self _ _ _ | rw [gi_up_ne (by omega)] | rw [hold99 _ (by omega)] | rw [hold88 _ (by omega)] | rw [hold69 _ (by omega)] | rw [hold46 _ (by omega)] | rw [hold35 _ (by omega)] | rw [hold24 _ (by omega)] | rw [hold9 _ (by omega)])) rfl ?_
  refine gi_aload_n (q := 119) (i := 0) C (dm_H_init 56 rfl) rfl rfl rfl ?_
  refine gi_get (q := 122) C (dm_H_init 57 rfl) rfl fl_H_28 (by repeat (first | assumption | exact gi_up_self _ _ _ | rw [gi_up_ne (by omega)] | rw [hold99 _ (by omega)] | rw [hold88 _ (by omega)] | rw [hold69 _ (by omega)] | rw [hold46 _ (by omega)] | rw [hold35 _ (by omega)] | rw [hold24 _ (by omega)] | rw [hold9 _ (by omega)])) rfl ?_
  refine gi_aload_n (q := 123) (i := 0) C (dm_H_init 58 rfl) rfl rfl rfl ?_
  refine gi_get (q := 126) C (dm_H_init 59 rfl) rfl fl_H_56 (by repeat (first | assumption | exact gi_up_self _ _ _ | rw [gi_up_ne (by omega)] | rw [hold99 _ (by omega)] | rw [hold88 _ (by omega)] | rw [hold69 _ (by omega)] | rw [hold46 _ (by omega)] | rw [hold35 _ (by omega)] | rw [hold24 _ (by omega)] | rw [hold9 _ (by omega)])) rfl ?_
  refine gi_calli 4 (q := 129) C (dm_H_init 60 rfl) rfl my_Ma_init lk_H_62 im_Ma_init rfl (c_Ma_init (X + 1 + 8 + 8 + 8414 + 8414 + 65 + 1 + 4) (X + 1) (X + 1 + 8) (X + 1 + 8 + 8) (X + 1 + 8 + 8 + 8414 + 8414 + 65 + 1) (gi_up_self _ _ _)) rfl rfl ⟨(Nat.le_of_ble_eq_true rfl), (Nat.le_of_ble_eq_true rfl)⟩ (Nat.le_of_ble_eq_true rfl) ⟨(Nat.le_of_ble_eq_true rfl), (Nat.le_of_ble_eq_true rfl)⟩ (fun r126 n126 h126 e126 => ?_)
  obtain ⟨rfl, rfl, at126, hold126'⟩ := e126
  have hold126 : ∀ b, b < X + 1 + 8 + 8 + 8414 + 8414 + 65 + 1 + 4 → h126 b = _ := fun b hb => by rw [hold126' b hb, gi_up_ne (by omega)]
  refine gi_putF (q := 132) C hnm (dm_H_init 61 rfl) rfl fF_H_65 fp_H_7 rfl (by repeat (first | assumption | exact gi_up_self _ _ _ | rw [gi_up_ne (by omega)] | rw [hold126 _ (by omega)] | rw [hold99 _ (by omega)] | rw [hold88 _ (by omega)] | rw [hold69 _ (by omega)] | rw [hold46 _ (by omega)] | rw [hold35 _ (by omega)] | rw [hold24 _ (by omega)] | rw [hold9 _ (by omega)])) (Nat.le_of_ble_eq_true rfl) rfl rfl ?_
  refine gi_aload_n (q := 133) (i := 0) C (dm_H_init 62 rfl) rfl rfl rfl ?_
  refine gi_iconst (q := 134) (v := 0) C (dm_H_init 63 rfl) rfl (by decide) ?_
  refine gi_put (q := 137) C (dm_H_init 64 rfl) rfl fl_H_69 fp_H_8 (by repeat (first | assumption | exact gi_up_self _ _ _ | rw [gi_up_ne (by omega)] | rw [hold126 _ (by omega)] | rw [hold99 _ (by omega)] | rw [hold88 _ (by omega)] | rw [hold69 _ (by omega)] | rw [hold46 _ (by omega)] | rw [hold35 _ (by omega)] | rw [hold24 _ (by omega)] | rw [hold9 _ (by omega)])) (Nat.le_of_ble_eq_true rfl) rfl rfl ?_
  refine gi_aload_n (q := 138) (i := 0) C (dm_H_init 65 rfl) rfl rfl rfl ?_
  refine gi_iconst (q := 139) (v := 0) C (dm_H_init 66 rfl) rfl (by decide) ?_
  refine gi_put (q := 142) C (dm_H_init 67 rfl) rfl fl_H_73 fp_H_9 (by repeat (first | assumption | exact gi_up_self _ _ _ | rw [gi_up_ne (by omega)] | rw [hold126 _ (by omega)] | rw [hold99 _ (by omega)] | rw [hold88 _ (by omega)] | rw [hold69 _ (by omega)] | rw [hold46 _ (by omega)] | rw [hold35 _ (by omega)] | rw [hold24 _ (by omega)] | rw [hold9 _ (by omega)])) (Nat.le_of_ble_eq_true rfl) rfl rfl ?_
  refine gi_vret C hr (dm_H_init 68 rfl) ?_
  refine ⟨rfl, by omega, ⟨show _ = _ by repeat (first | assumption | exact gi_up_self _ _ _ | rw [gi_up_ne (by omega)] | rw [hold126 _ (by omega)] | rw [hold99 _ (by omega)] | rw [hold88 _ (by omega)] | rw [hold69 _ (by omega)] | rw [hold46 _ (by omega)] | rw [hold35 _ (by omega)] | rw [hold24 _ (by omega)] | rw [hold9 _ (by omega)]), at9.keep (fun b h1 h2 => by repeat (first | rw [gi_up_ne (by omega)] | rw [hold126 _ (by omega)] | rw [hold99 _ (by omega)] | rw [hold88 _ (by omega)] | rw [hold69 _ (by omega)] | rw [hold46 _ (by omega)] | rw [hold35 _ (by omega)] | rw [hold24 _ (by omega)])), at24.keep (fun b h1 h2 => by repeat (first | rw [gi_up_ne (by omega)] | rw [hold126 _ (by omega)] | rw [hold99 _ (by omega)] | rw [hold88 _ (by omega)] | rw [hold69 _ (by omega)] | rw [hold46 _ (by omega)] | rw [hold35 _ (by omega)])), at35.keep (fun b h1 h2 => by repeat (first | rw [gi_up_ne (by omega)] | rw [hold126 _ (by omega)] | rw [hold99 _ (by omega)] | rw [hold88 _ (by omega)] | rw [hold69 _ (by omega)] | rw [hold46 _ (by omega)])), at46.keep (fun b h1 h2 => by repeat (first | rw [gi_up_ne (by omega)] | rw [hold126 _ (by omega)] | rw [hold99 _ (by omega)] | rw [hold88 _ (by omega)] | rw [hold69 _ (by omega)])), at69.keep (fun b h1 h2 => by repeat (first | rw [gi_up_ne (by omega)] | rw [hold126 _ (by omega)] | rw [hold99 _ (by omega)] | rw [hold88 _ (by omega)])), at88.keep (fun b h1 h2 => by repeat (first | rw [gi_up_ne (by omega)] | rw [hold126 _ (by omega)] | rw [hold99 _ (by omega)])), at99.keep (fun b h1 h2 => by repeat (first | rw [gi_up_ne (by omega)] | rw [hold126 _ (by omega)])), at126.keep (fun b h1 h2 => by repeat (first | rw [gi_up_ne (by omega)]))⟩, fun b hb => by repeat (first | rw [gi_up_ne (by omega)] | rw [hold126 _ (by omega)] | rw [hold99 _ (by omega)] | rw [hold88 _ (by omega)] | rw [hold69 _ (by omega)] | rw [hold46 _ (by omega)] | rw [hold35 _ (by omega)] | rw [hold24 _ (by omega)] | rw [hold9 _ (by omega)])⟩
end IN3
