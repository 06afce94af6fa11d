section H2
variable {l : Launch} {V : gi_V} {n : Nat} {h : gi_H} {X k : Nat} {cr ct : Int32} {S : Nat → Int32} {F P : Nat → Nat → Int32}
def upS (S : Nat → Int32) (k : Nat) (x : Int32) : Nat → Int32 := fun j => if j = k then x else S j
def out10 (X : Nat) (h h' : gi_H) : Prop := ∀ b, b < X ∨ X + 10 ≤ b → h' b = h b
theorem nI_ne_m1 {k : Nat} (hk : k < 2 ^ 31) : ¬ nI k = -1 := fun e => by
  have := congrArg Int32.toInt e
  rw [nI_toInt hk] at this
  have h2 : Int32.toInt (-1) = -1 := by decide
  omega
set_option maxHeartbeats 4000000 in
set_option maxRecDepth 100000 in
theorem c_H_takeAway (HX : hs_ob X ct cr h) (HB : bu_at (X + 9) (X + 1) S F h) : gi_T l V y_H_takeAway b_H_takeAway 1 none 0 0 0 0 [.ref X] n h (fun r n' h' => r = none ∧ n' = n ∧ hs_ob X 0 cr h' ∧ bu_at (X + 9) (X + 1) (upS S 0 0) F h' ∧ ∀ b, b ≠ X → b ≠ X + 9 → h' b = h b) := by
  refine gi_enter (by decide) (Nat.le_of_ble_eq_true rfl) ?_
  intro p e s m args below meth c C hr hnm
  have HX0 := HX
  unfold hs_ob at HX0
  obtain ⟨B0, B1, B2, B3, B4, B5, B6, B7⟩ := id HB
  refine gi_aload_n (q := 1) (i := 0) C (dm_H_takeAway 0 rfl) rfl rfl rfl ?_
  refine gi_get (q := 4) C (dm_H_takeAway 1 rfl) rfl fl_H_21 (by repeat (first | exact gi_up_self _ _ _ | assumption | rw [gi_up_ne (by omega)])) rfl ?_
  refine gi_iconst (q := 5) (v := 0) C (dm_H_takeAway 2 rfl) rfl (by decide) ?_
  refine gi_put (q := 8) C (dm_H_takeAway 3 rfl) rfl fl_H_105 fp_Bu_0 (by repeat (first | exact gi_up_self _ _ _ | assumption | rw [gi_up_ne (by omega)])) (Nat.le_of_ble_eq_true rfl) rfl rfl ?_
  refine gi_aload_n (q := 9) (i := 0) C (dm_H_takeAway 4 rfl) rfl rfl rfl ?_
  refine gi_iconst (q := 10) (v := 0) C (dm_H_takeAway 5 rfl) rfl (by decide) ?_
  refine gi_put (q := 13) C (dm_H_takeAway 6 rfl) rfl fl_H_69 fp_H_8 (by repeat (first | exact gi_up_self _ _ _ | assumption | rw [gi_up_ne (by omega)])) (Nat.le_of_ble_eq_true rfl) rfl rfl ?_
  refine gi_vret C hr (dm_H_takeAway 7 rfl) ?_
  refine ⟨rfl, rfl, show _ = _ by exact gi_up_self _ _ _, ⟨?_, ?_, ?_, ?_, ?_, ?_, ?_, ?_⟩, fun b h1 h2 => by rw [gi_up_ne h1, gi_up_ne h2]⟩
  all_goals repeat (first | exact gi_up_self _ _ _ | assumption | rw [gi_up_ne (by omega)])
set_option maxHeartbeats 4000000 in
set_option maxRecDepth 100000 in
theorem c_H_method (x y z r : Int32) (hk : k ≤ 8) (HX : hs_ob X ct cr h) (HB : bu_at (X + 9) (X + 1) S F h) (HP : pr_at (X + 1) (nI k) P h) : gi_T l V y_H_method b_H_method 6 (some .int) 1 24 0 0 [.ref X, .int x, .int y, .int z, .int r] n h (fun v n' h' => n' = n ∧ out10 X h h' ∧ ((okM k x y z r ∧ v = some (.int (nI k)) ∧ hs_ob X 0 cr h' ∧ bu_at (X + 9) (X + 1) (upS S 0 0) F h' ∧ pr_at (X + 1) (nI (k + 1)) (pr_add P k x y z r) h') ∨ (¬ okM k x y z r ∧ v = some (.int (-1)) ∧ h' = h))) := by
  refine gi_enter (by decide) (Nat.le_of_ble_eq_true rfl) ?_
  intro p e s m args below meth c C hr hnm
  have HX0 := HX
  unfold hs_ob at HX0
  refine gi_aload_n (q := 1) (i := 0) C (dm_H_method 0 rfl) rfl rfl rfl ?_
  refine gi_get (q := 4) C (dm_H_method 1 rfl) rfl fl_H_12 (by assumption) rfl ?_
  refine gi_iload_n (q := 5) (i := 1) C (dm_H_method 2 rfl) rfl rfl rfl ?_
  refine gi_iload_n (q := 6) (i := 2) C (dm_H_method 3 rfl) rfl rfl rfl ?_
  refine gi_iload_n (q := 7) (i := 3) C (dm_H_method 4 rfl) rfl rfl rfl ?_
  refine gi_iload (q := 9) C (dm_H_method 5 rfl) rfl rfl ?_
  refine gi_callv 4 (q := 12) C (dm_H_method 6 rfl) rfl my_Pr_addMethod lk_H_77 im_Pr_addMethod rfl (c_Pr_addMethod x y z r hk HP) HP.1 rfl rfl ⟨(Nat.le_of_ble_eq_true rfl), (Nat.le_of_ble_eq_true rfl)⟩ (Nat.le_of_ble_eq_true rfl) ⟨(Nat.le_of_ble_eq_true rfl), (Nat.le_of_ble_eq_true rfl)⟩ (fun r9 n9 h9 e9 => ?_)
  obtain ⟨rfl, ho, ⟨hok, rfl, HP2⟩ | ⟨hok, rfl, rfl⟩⟩ := e9
  · have HX1 : hs_ob X ct cr h9 := by unfold hs_ob at *; rw [ho X (by omega)]; exact HX0
    have HB1 : bu_at (X + 9) (X + 1) S F h9 := HB.keep (fun b h1 h2 => ho b (by omega))
    refine gi_istore (q := 14) C (dm_H_method 7 rfl) rfl (Nat.le_of_ble_eq_true rfl) ?_
    refine gi_iload (q := 16) C (dm_H_method 8 rfl) rfl rfl ?_
    refine gi_iconst (q := 17) (v := -1) C (dm_H_method 9 rfl) rfl (by decide) ?_
    refine gi_icmp_eq (q := 20) (tgt := 24) C (dm_H_method 10 rfl) rfl (by decide) (fun c17 => ?_) (fun c17 => ?_)
    · exact absurd c17 (nI_ne_m1 (by have := hok.1; omega))
    · refine gi_aload_n (q := 21) (i := 0) C (dm_H_method 11 rfl) rfl rfl rfl ?_
      refine gi_callv 0 (q := 24) C (dm_H_method 12 rfl) rfl my_H_takeAway lk_H_81 im_H_takeAway rfl (c_H_takeAway HX1 HB1) HX1 rfl rfl ⟨(Nat.le_of_ble_eq_true rfl), (Nat.le_of_ble_eq_true rfl)⟩ (Nat.le_of_ble_eq_true rfl) ⟨(Nat.le_of_ble_eq_true rfl), (Nat.le_of_ble_eq_true rfl)⟩ (fun r21 n21 h21 e21 => ?_)
      obtain ⟨rfl, rfl, HX2, HB2, ho2⟩ := e21
      refine gi_iload (q := 26) C (dm_H_method 13 rfl) rfl rfl ?_
      refine gi_iret C hr (dm_H_method 14 rfl) ?_
      exact ⟨rfl, fun b hb => by rw [ho2 b (by omega) (by omega), ho b (by omega)], Or.inl ⟨hok, rfl, HX2, HB2, HP2.keep (fun b h1 h2 => ho2 b (by omega) (by omega))⟩⟩
  · refine gi_istore (q := 14) C (dm_H_method 7 rfl) rfl (Nat.le_of_ble_eq_true rfl) ?_
    refine gi_iload (q := 16) C (dm_H_method 8 rfl) rfl rfl ?_
    refine gi_iconst (q := 17) (v := -1) C (dm_H_method 9 rfl) rfl (by decide) ?_
    refine gi_icmp_eq (q := 20) (tgt := 24) C (dm_H_method 10 rfl) rfl (by decide) (fun c17 => ?_) (fun c17 => ?_)
    · refine gi_iload (q := 26) C (dm_H_method 13 rfl) rfl rfl ?_
      refine gi_iret C hr (dm_H_method 14 rfl) ?_
      exact ⟨rfl, fun _ _ => rfl, Or.inr ⟨hok, rfl, rfl⟩⟩
    · exact absurd rfl c17
end H2
