section H3
variable {l : Launch} {V : gi_V} {n : Nat} {h : gi_H} {X k : Nat} {cr ct : Int32} {S : Nat → Int32} {F P : Nat → Nat → Int32}
set_option maxHeartbeats 4000000 in
set_option maxRecDepth 100000 in
theorem c_H_code (m op x : Int32) (hk : k ≤ 8) (HX : hs_ob X ct cr h) (HB : bu_at (X + 9) (X + 1) S F h) (HP : pr_at (X + 1) (nI k) P h) (hL : prL k P) : gi_T l V y_H_code b_H_code 5 (some .int) 2 45 0 0 [.ref X, .int m, .int op, .int x] n h (fun v n' h' => n' = n ∧ out10 X h h' ∧ ((∃ j q : Nat, j < k ∧ m = nI j ∧ q < 60 ∧ P 5 j = nI q ∧ 0 ≤ op ∧ op ≤ 35 ∧ v = some (.int (nI q)) ∧ hs_ob X 0 cr h' ∧ bu_at (X + 9) (X + 1) (upS S 0 0) F h' ∧ pr_at (X + 1) (nI k) (pr_ins P j q op x) h') ∨ ((isM k m = false ∨ op < 0 ∨ 35 < op ∨ P 5 m.toNatClampNeg = 60) ∧ v = some (.int (-1)) ∧ h' = h))) := by
  refine gi_enter (by decide) (Nat.le_of_ble_eq_true rfl) ?_
  intro _ _ _ _ _ _ _ _ C hr hnm
  have HX0 := HX
  unfold hs_ob at HX0
  refine gi_aload_n (q := 1) (i := 0) C (dm_H_code 0 rfl) rfl rfl rfl ?_
  refine gi_get (q := 4) C (dm_H_code 1 rfl) rfl fl_H_12 (by assumption) rfl ?_
  refine gi_iload_n (q := 5) (i := 1) C (dm_H_code 2 rfl) rfl rfl rfl ?_
  refine gi_iload_n (q := 6) (i := 2) C (dm_H_code 3 rfl) rfl rfl rfl ?_
  refine gi_iload_n (q := 7) (i := 3) C (dm_H_code 4 rfl) rfl rfl rfl ?_
  refine gi_callv 3 (q := 10) C (dm_H_code 5 rfl) rfl my_Pr_addInstruction lk_H_84 im_Pr_addInstruction rfl (c_Pr_addInstruction m op x hk hL HP) HP.1 rfl rfl ⟨(Nat.le_of_ble_eq_true rfl), (Nat.le_of_ble_eq_true rfl)⟩ (Nat.le_of_ble_eq_true rfl) ⟨(Nat.le_of_ble_eq_true rfl), (Nat.le_of_ble_eq_true rfl)⟩ (fun r7 n7 h7 e7 => ?_)
  obtain ⟨rfl, ho, ⟨j, q, hj, rfl, hq, h5, o1, o2, rfl, HP2⟩ | ⟨hno, rfl, rfl⟩⟩ := e7
  · have HX1 : hs_ob X ct cr h7 := by unfold hs_ob at *; rw [ho X (by omega)]; exact HX0
    have HB1 : bu_at (X + 9) (X + 1) S F h7 := HB.keep (fun b h1 h2 => ho b (by omega))
    refine gi_istore (q := 12) C (dm_H_code 6 rfl) rfl (Nat.le_of_ble_eq_true rfl) ?_
    refine gi_iload (q := 14) C (dm_H_code 7 rfl) rfl rfl ?_
    refine gi_iconst (q := 15) (v := -1) C (dm_H_code 8 rfl) rfl (by decide) ?_
    refine gi_icmp_eq (q := 18) (tgt := 22) C (dm_H_code 9 rfl) rfl (by decide) (fun c15 => ?_) (fun c15 => ?_)
    · exact absurd c15 (nI_ne_m1 (by omega))
    · refine gi_aload_n (q := 19) (i := 0) C (dm_H_code 10 rfl) rfl rfl rfl ?_
      refine gi_callv 0 (q := 22) C (dm_H_code 11 rfl) rfl my_H_takeAway lk_H_81 im_H_takeAway rfl (c_H_takeAway HX1 HB1) HX1 rfl rfl ⟨(Nat.le_of_ble_eq_true rfl), (Nat.le_of_ble_eq_true rfl)⟩ (Nat.le_of_ble_eq_true rfl) ⟨(Nat.le_of_ble_eq_true rfl), (Nat.le_of_ble_eq_true rfl)⟩ (fun r19 n19 h19 e19 => ?_)
      obtain ⟨rfl, rfl, HX2, HB2, ho2⟩ := e19
      refine gi_iload (q := 24) C (dm_H_code 12 rfl) rfl rfl ?_
      refine gi_iret C hr (dm_H_code 13 rfl) ?_
      exact ⟨rfl, fun b hb => by rw [ho2 b (by omega) (by omega), ho b (by omega)], Or.inl ⟨j, q, hj, rfl, hq, h5, o1, o2, rfl, HX2, HB2, HP2.keep (fun b h1 h2 => ho2 b (by omega) (by omega))⟩⟩
  · refine gi_istore (q := 12) C (dm_H_code 6 rfl) rfl (Nat.le_of_ble_eq_true rfl) ?_
    refine gi_iload (q := 14) C (dm_H_code 7 rfl) rfl rfl ?_
    refine gi_iconst (q := 15) (v := -1) C (dm_H_code 8 rfl) rfl (by decide) ?_
    refine gi_icmp_eq (q := 18) (tgt := 22) C (dm_H_code 9 rfl) rfl (by decide) (fun c15 => ?_) (fun c15 => ?_)
    · refine gi_iload (q := 24) C (dm_H_code 12 rfl) rfl rfl ?_
      refine gi_iret C hr (dm_H_code 13 rfl) ?_
      exact ⟨rfl, fun _ _ => rfl, Or.inr ⟨hno, rfl, rfl⟩⟩
    · exact absurd rfl c15
set_option maxHeartbeats 4000000 in
set_option maxRecDepth 100000 in
theorem c_H_wipe (m : Int32) (hk : k ≤ 8) (HX : hs_ob X ct cr h) (HB : bu_at (X + 9) (X + 1) S F h) (HP : pr_at (X + 1) (nI k) P h) (hL : prL k P) : gi_T l V y_H_wipe b_H_wipe 3 (some .int) 2 43 0 0 [.ref X, .int m] n h (fun v n' h' => n' = n ∧ out10 X h h' ∧ ((∃ j : Nat, j < k ∧ m = nI j ∧ v = some (.int (P 5 j)) ∧ hs_ob X 0 cr h' ∧ bu_at (X + 9) (X + 1) (upS S 0 0) F h' ∧ pr_at (X + 1) (nI k) (pr_wip P j) h') ∨ (isM k m = false ∧ v = some (.int (-1)) ∧ h' = h))) := by
  refine gi_enter (by decide) (Nat.le_of_ble_eq_true rfl) ?_
  intro _ _ _ _ _ _ _ _ C hr hnm
  have HX0 := HX
  unfold hs_ob at HX0
  refine gi_aload_n (q := 1) (i := 0) C (dm_H_wipe 0 rfl) rfl rfl rfl ?_
  refine gi_get (q := 4) C (dm_H_wipe 1 rfl) rfl fl_H_12 (by assumption) rfl ?_
  refine gi_iload_n (q := 5) (i := 1) C (dm_H_wipe 2 rfl) rfl rfl rfl ?_
  refine gi_callv 1 (q := 8) C (dm_H_wipe 3 rfl) rfl my_Pr_clear lk_H_88 im_Pr_clear rfl (c_Pr_clear m hk HP) HP.1 rfl rfl ⟨(Nat.le_of_ble_eq_true rfl), (Nat.le_of_ble_eq_true rfl)⟩ (Nat.le_of_ble_eq_true rfl) ⟨(Nat.le_of_ble_eq_true rfl), (Nat.le_of_ble_eq_true rfl)⟩ (fun r5 n5 h5 e5 => ?_)
  obtain ⟨rfl, ho, ⟨j, hj, rfl, rfl, HP2⟩ | ⟨hno, rfl, rfl⟩⟩ := e5
  · have HX1 : hs_ob X ct cr h5 := by unfold hs_ob at *; rw [ho X (by omega)]; exact HX0
    have HB1 : bu_at (X + 9) (X + 1) S F h5 := HB.keep (fun b h1 h2 => ho b (by omega))
    refine gi_istore_n (q := 9) (i := 2) C (dm_H_wipe 4 rfl) rfl rfl (Nat.le_of_ble_eq_true rfl) ?_
    refine gi_iload_n (q := 10) (i := 2) C (dm_H_wipe 5 rfl) rfl rfl rfl ?_
    refine gi_iconst (q := 11) (v := -1) C (dm_H_wipe 6 rfl) rfl (by decide) ?_
    refine gi_icmp_eq (q := 14) (tgt := 18) C (dm_H_wipe 7 rfl) rfl (by decide) (fun c11 => ?_) (fun c11 => ?_)
    · obtain ⟨z, hz, e5⟩ := hL j hj
      exact absurd (e5 ▸ c11) (nI_ne_m1 (by omega))
    · refine gi_aload_n (q := 15) (i := 0) C (dm_H_wipe 8 rfl) rfl rfl rfl ?_
      refine gi_callv 0 (q := 18) C (dm_H_wipe 9 rfl) rfl my_H_takeAway lk_H_81 im_H_takeAway rfl (c_H_takeAway HX1 HB1) HX1 rfl rfl ⟨(Nat.le_of_ble_eq_true rfl), (Nat.le_of_ble_eq_true rfl)⟩ (Nat.le_of_ble_eq_true rfl) ⟨(Nat.le_of_ble_eq_true rfl), (Nat.le_of_ble_eq_true rfl)⟩ (fun r15 n15 h15 e15 => ?_)
      obtain ⟨rfl, rfl, HX2, HB2, ho2⟩ := e15
      refine gi_iload_n (q := 19) (i := 2) C (dm_H_wipe 10 rfl) rfl rfl rfl ?_
      refine gi_iret C hr (dm_H_wipe 11 rfl) ?_
      exact ⟨rfl, fun b hb => by rw [ho2 b (by omega) (by omega), ho b (by omega)], Or.inl ⟨j, hj, rfl, rfl, HX2, HB2, HP2.keep (fun b h1 h2 => ho2 b (by omega) (by omega))⟩⟩
  · refine gi_istore_n (q := 9) (i := 2) C (dm_H_wipe 4 rfl) rfl rfl (Nat.le_of_ble_eq_true rfl) ?_
    refine gi_iload_n (q := 10) (i := 2) C (dm_H_wipe 5 rfl) rfl rfl rfl ?_
    refine gi_iconst (q := 11) (v := -1) C (dm_H_wipe 6 rfl) rfl (by decide) ?_
    refine gi_icmp_eq (q := 14) (tgt := 18) C (dm_H_wipe 7 rfl) rfl (by decide) (fun c11 => ?_) (fun c11 => ?_)
    · refine gi_iload_n (q := 19) (i := 2) C (dm_H_wipe 10 rfl) rfl rfl rfl ?_
      refine gi_iret C hr (dm_H_wipe 11 rfl) ?_
      exact ⟨rfl, fun _ _ => rfl, Or.inr ⟨hno, rfl, rfl⟩⟩
    · exact absurd rfl c11
set_option maxHeartbeats 4000000 in
set_option maxRecDepth 100000 in
theorem c_Bu_findOperandFault_0 (HP : pr_at (X + 1) 0 P h) (HB : bu_at (X + 9) (X + 1) S F h) : gi_T l V y_Bu_findOperandFault b_Bu_findOperandFault 3 none 3 66 0 0 [.ref (X + 9)] n h (gi_is none n h) := by
  refine gi_enter (by decide) (Nat.le_of_ble_eq_true rfl) ?_
  intro _ _ _ _ _ _ _ _ C hr hnm
  obtain ⟨B0, B1, B2, B3, B4, B5, B6, B7⟩ := id HB
  have P0 := HP.1
  refine gi_iconst (q := 1) (v := 0) C (dm_Bu_findOperandFault 0 rfl) rfl (by decide) ?_
  refine gi_istore_n (q := 2) (i := 1) C (dm_Bu_findOperandFault 1 rfl) rfl rfl (Nat.le_of_ble_eq_true rfl) ?_
  refine gi_iload_n (q := 3) (i := 1) C (dm_Bu_findOperandFault 2 rfl) rfl rfl rfl ?_
  refine gi_aload_n (q := 4) (i := 0) C (dm_Bu_findOperandFault 3 rfl) rfl rfl rfl ?_
  refine gi_get (q := 7) C (dm_Bu_findOperandFault 4 rfl) rfl fl_Bu_34 (by assumption) rfl ?_
  refine gi_get (q := 10) C (dm_Bu_findOperandFault 5 rfl) rfl fl_Bu_54 (by assumption) rfl ?_
  refine gi_icmp_ge (q := 13) (tgt := 76) C (dm_Bu_findOperandFault 6 rfl) rfl (by decide) (fun c10 => ?_) (fun c10 => ?_)
  · refine gi_vret C hr (dm_Bu_findOperandFault 40 rfl) ?_
    exact ⟨rfl, rfl, rfl⟩
  · exact absurd (by decide) c10
set_option maxHeartbeats 4000000 in
set_option maxRecDepth 100000 in
theorem c_Bu_findSites_0 (HP : pr_at (X + 1) 0 P h) (HB : bu_at (X + 9) (X + 1) S F h) : gi_T l V y_Bu_findSites b_Bu_findSites 4 none 3 65 0 0 [.ref (X + 9)] n h (gi_is none n h) := by
  refine gi_enter (by decide) (Nat.le_of_ble_eq_true rfl) ?_
  intro _ _ _ _ _ _ _ _ C hr hnm
  obtain ⟨B0, B1, B2, B3, B4, B5, B6, B7⟩ := id HB
  have P0 := HP.1
  refine gi_iconst (q := 1) (v := 0) C (dm_Bu_findSites 0 rfl) rfl (by decide) ?_
  refine gi_istore_n (q := 2) (i := 1) C (dm_Bu_findSites 1 rfl) rfl rfl (Nat.le_of_ble_eq_true rfl) ?_
  refine gi_iload_n (q := 3) (i := 1) C (dm_Bu_findSites 2 rfl) rfl rfl rfl ?_
  refine gi_aload_n (q := 4) (i := 0) C (dm_Bu_findSites 3 rfl) rfl rfl rfl ?_
  refine gi_get (q := 7) C (dm_Bu_findSites 4 rfl) rfl fl_Bu_34 (by assumption) rfl ?_
  refine gi_get (q := 10) C (dm_Bu_findSites 5 rfl) rfl fl_Bu_54 (by assumption) rfl ?_
  refine gi_icmp_ge (q := 13) (tgt := 138) C (dm_Bu_findSites 6 rfl) rfl (by decide) (fun c10 => ?_) (fun c10 => ?_)
  · refine gi_vret C hr (dm_Bu_findSites 78 rfl) ?_
    exact ⟨rfl, rfl, rfl⟩
  · exact absurd (by decide) c10
set_option maxHeartbeats 4000000 in
set_option maxRecDepth 100000 in
theorem c_Bu_findWidePlaces_0 (HP : pr_at (X + 1) 0 P h) (HB : bu_at (X + 9) (X + 1) S F h) : gi_T l V y_Bu_findWidePlaces b_Bu_findWidePlaces 5 none 3 65 0 0 [.ref (X + 9)] n h (gi_is none n h) := by
  refine gi_enter (by decide) (Nat.le_of_ble_eq_true rfl) ?_
  intro _ _ _ _ _ _ _ _ C hr hnm
  obtain ⟨B0, B1, B2, B3, B4, B5, B6, B7⟩ := id HB
  have P0 := HP.1
  refine gi_iconst (q := 1) (v := 0) C (dm_Bu_findWidePlaces 0 rfl) rfl (by decide) ?_
  refine gi_istore_n (q := 2) (i := 1) C (dm_Bu_findWidePlaces 1 rfl) rfl rfl (Nat.le_of_ble_eq_true rfl) ?_
  refine gi_iload_n (q := 3) (i := 1) C (dm_Bu_findWidePlaces 2 rfl) rfl rfl rfl ?_
  refine gi_aload_n (q := 4) (i := 0) C (dm_Bu_findWidePlaces 3 rfl) rfl rfl rfl ?_
  refine gi_get (q := 7) C (dm_Bu_findWidePlaces 4 rfl) rfl fl_Bu_34 (by assumption) rfl ?_
  refine gi_get (q := 10) C (dm_Bu_findWidePlaces 5 rfl) rfl fl_Bu_54 (by assumption) rfl ?_
  refine gi_icmp_ge (q := 13) (tgt := 144) C (dm_Bu_findWidePlaces 6 rfl) rfl (by decide) (fun c10 => ?_) (fun c10 => ?_)
  · refine gi_vret C hr (dm_Bu_findWidePlaces 78 rfl) ?_
    exact ⟨rfl, rfl, rfl⟩
  · exact absurd (by decide) c10
def bu_ok (S : Nat → Int32) : Nat → Int32 := upS (upS (upS (upS (upS S 2 0) 3 (-1)) 4 (-1)) 1 1) 0 1
set_option maxHeartbeats 4000000 in
set_option maxRecDepth 100000 in
theorem c_Bu_make_0 (HP : pr_at (X + 1) 0 P h) (HB : bu_at (X + 9) (X + 1) S F h) : gi_T l V y_Bu_make b_Bu_make 2 (some .int) 5 117 0 0 [.ref (X + 9)] n h (fun v n' h' => v = some (.int 1) ∧ n' = n ∧ bu_at (X + 9) (X + 1) (bu_ok S) F h' ∧ ∀ b, b ≠ X + 9 → h' b = h b) := by
  refine gi_enter (by decide) (Nat.le_of_ble_eq_true rfl) ?_
  intro _ _ _ _ _ _ _ _ C hr hnm
  obtain ⟨B0, B1, B2, B3, B4, B5, B6, B7⟩ := id HB
  have P0 := HP.1
  refine gi_aload_n (q := 1) (i := 0) C (dm_Bu_make 0 rfl) rfl rfl rfl ?_
  refine gi_iconst (q := 2) (v := 0) C (dm_Bu_make 1 rfl) rfl (by decide) ?_
  refine gi_put (q := 5) C (dm_Bu_make 2 rfl) rfl fl_Bu_38 fp_Bu_2 (by repeat (first | exact gi_up_self _ _ _ | assumption | rw [gi_up_ne (by omega)])) (Nat.le_of_ble_eq_true rfl) rfl rfl ?_
  refine gi_aload_n (q := 6) (i := 0) C (dm_Bu_make 3 rfl) rfl rfl rfl ?_
  refine gi_iconst (q := 7) (v := -1) C (dm_Bu_make 4 rfl) rfl (by decide) ?_
  refine gi_put (q := 10) C (dm_Bu_make 5 rfl) rfl fl_Bu_42 fp_Bu_3 (by repeat (first | exact gi_up_self _ _ _ | assumption | rw [gi_up_ne (by omega)])) (Nat.le_of_ble_eq_true rfl) rfl rfl ?_
  refine gi_aload_n (q := 11) (i := 0) C (dm_Bu_make 6 rfl) rfl rfl rfl ?_
  refine gi_iconst (q := 12) (v := -1) C (dm_Bu_make 7 rfl) rfl (by decide) ?_
  refine gi_put (q := 15) C (dm_Bu_make 8 rfl) rfl fl_Bu_45 fp_Bu_4 (by repeat (first | exact gi_up_self _ _ _ | assumption | rw [gi_up_ne (by omega)])) (Nat.le_of_ble_eq_true rfl) rfl rfl ?_
  refine gi_aload_n (q := 16) (i := 0) C (dm_Bu_make 9 rfl) rfl rfl rfl ?_
  refine gi_iconst (q := 17) (v := 1) C (dm_Bu_make 10 rfl) rfl (by decide) ?_
  refine gi_put (q := 20) C (dm_Bu_make 11 rfl) rfl fl_Bu_48 fp_Bu_1 (by repeat (first | exact gi_up_self _ _ _ | assumption | rw [gi_up_ne (by omega)])) (Nat.le_of_ble_eq_true rfl) rfl rfl ?_
  refine gi_gen (fun y => bu_at (X + 9) (X + 1) (upS (upS (upS (upS S 2 0) 3 (-1)) 4 (-1)) 1 1) F y ∧ pr_at (X + 1) 0 P y ∧ ∀ b, b ≠ X + 9 → y b = h b) ⟨⟨?_, ?_, ?_, ?_, ?_, ?_, ?_, ?_⟩, HP.keep (fun b h1 h2 => ?_), fun b hb => ?_⟩ ?_
  any_goals (repeat (first | exact gi_up_self _ _ _ | rfl | assumption | rw [gi_up_ne (by omega)]))
  rintro y ⟨HB1, HP1, ho1⟩
  obtain ⟨D0, D1, D2, D3, D4, D5, D6, D7⟩ := id HB1
  have P1 := HP1.1
  refine gi_aload_n (q := 21) (i := 0) C (dm_Bu_make 12 rfl) rfl rfl rfl ?_
  refine gi_callv 0 (q := 24) C (dm_Bu_make 13 rfl) rfl my_Bu_findOperandFault lk_Bu_51 im_Bu_findOperandFault rfl (c_Bu_findOperandFault_0 HP1 HB1) HB1.1 rfl rfl ⟨(Nat.le_of_ble_eq_true rfl), (Nat.le_of_ble_eq_true rfl)⟩ (Nat.le_of_ble_eq_true rfl) ⟨(Nat.le_of_ble_eq_true rfl), (Nat.le_of_ble_eq_true rfl)⟩ (fun r21 n21 h21 e21 => ?_)
  obtain ⟨rfl, rfl, rfl⟩ := e21
  refine gi_iconst (q := 25) (v := 0) C (dm_Bu_make 14 rfl) rfl (by decide) ?_
  refine gi_istore_n (q := 26) (i := 1) C (dm_Bu_make 15 rfl) rfl rfl (Nat.le_of_ble_eq_true rfl) ?_
  refine gi_iload_n (q := 27) (i := 1) C (dm_Bu_make 16 rfl) rfl rfl rfl ?_
  refine gi_aload_n (q := 28) (i := 0) C (dm_Bu_make 17 rfl) rfl rfl rfl ?_
  refine gi_get (q := 31) C (dm_Bu_make 18 rfl) rfl fl_Bu_34 (by repeat (first | exact gi_up_self _ _ _ | assumption | rw [gi_up_ne (by omega)])) rfl ?_
  refine gi_get (q := 34) C (dm_Bu_make 19 rfl) rfl fl_Bu_54 (by repeat (first | exact gi_up_self _ _ _ | assumption | rw [gi_up_ne (by omega)])) rfl ?_
  refine gi_icmp_ge (q := 37) (tgt := 55) C (dm_Bu_make 20 rfl) rfl (by decide) (fun c34 => ?_) (fun c34 => ?_)
  · refine gi_aload_n (q := 56) (i := 0) C (dm_Bu_make 29 rfl) rfl rfl rfl ?_
    refine gi_get (q := 59) C (dm_Bu_make 30 rfl) rfl fl_Bu_38 (by repeat (first | exact gi_up_self _ _ _ | assumption | rw [gi_up_ne (by omega)])) rfl ?_
    refine gi_if_ne (q := 62) (tgt := 66) C (dm_Bu_make 31 rfl) rfl (by decide) (fun c59 => ?_) (fun c59 => ?_)
    · refine gi_aload_n (q := 67) (i := 0) C (dm_Bu_make 34 rfl) rfl rfl rfl ?_
      refine gi_get (q := 70) C (dm_Bu_make 35 rfl) rfl fl_Bu_38 (by repeat (first | exact gi_up_self _ _ _ | assumption | rw [gi_up_ne (by omega)])) rfl ?_
      refine gi_if_eq (q := 73) (tgt := 79) C (dm_Bu_make 36 rfl) rfl (by decide) (fun c70 => ?_) (fun c70 => ?_)
      · refine gi_aload_n (q := 80) (i := 0) C (dm_Bu_make 41 rfl) rfl rfl rfl ?_
        refine gi_callv 0 (q := 83) C (dm_Bu_make 42 rfl) rfl my_Bu_findWidePlaces lk_Bu_66 im_Bu_findWidePlaces rfl (c_Bu_findWidePlaces_0 HP1 HB1) HB1.1 rfl rfl ⟨(Nat.le_of_ble_eq_true rfl), (Nat.le_of_ble_eq_true rfl)⟩ (Nat.le_of_ble_eq_true rfl) ⟨(Nat.le_of_ble_eq_true rfl), (Nat.le_of_ble_eq_true rfl)⟩ (fun r80 n80 h80 e80 => ?_)
        obtain ⟨rfl, rfl, rfl⟩ := e80
        refine gi_aload_n (q := 84) (i := 0) C (dm_Bu_make 43 rfl) rfl rfl rfl ?_
        refine gi_iconst (q := 85) (v := 1) C (dm_Bu_make 44 rfl) rfl (by decide) ?_
        refine gi_put (q := 88) C (dm_Bu_make 45 rfl) rfl fl_Bu_69 fp_Bu_0 (by repeat (first | exact gi_up_self _ _ _ | assumption | rw [gi_up_ne (by omega)])) (Nat.le_of_ble_eq_true rfl) rfl rfl ?_
        refine gi_aload_n (q := 89) (i := 0) C (dm_Bu_make 46 rfl) rfl rfl rfl ?_
        refine gi_get (q := 92) C (dm_Bu_make 47 rfl) rfl fl_Bu_48 (by repeat (first | exact gi_up_self _ _ _ | assumption | rw [gi_up_ne (by omega)])) rfl ?_
        refine gi_iret C hr (dm_Bu_make 48 rfl) ?_
        refine ⟨rfl, rfl, ⟨?_, ?_, ?_, ?_, ?_, ?_, ?_, ?_⟩, fun b hb => by rw [gi_up_ne hb, ho1 b hb]⟩
        all_goals repeat (first | exact gi_up_self _ _ _ | assumption | rw [gi_up_ne (by omega)])
      · exact absurd rfl c70
    · refine gi_aload_n (q := 63) (i := 0) C (dm_Bu_make 32 rfl) rfl rfl rfl ?_
      refine gi_callv 0 (q := 66) C (dm_Bu_make 33 rfl) rfl my_Bu_findSites lk_Bu_63 im_Bu_findSites rfl (c_Bu_findSites_0 HP1 HB1) HB1.1 rfl rfl ⟨(Nat.le_of_ble_eq_true rfl), (Nat.le_of_ble_eq_true rfl)⟩ (Nat.le_of_ble_eq_true rfl) ⟨(Nat.le_of_ble_eq_true rfl), (Nat.le_of_ble_eq_true rfl)⟩ (fun r63 n63 h63 e63 => ?_)
      obtain ⟨rfl, rfl, rfl⟩ := e63
      refine gi_aload_n (q := 67) (i := 0) C (dm_Bu_make 34 rfl) rfl rfl rfl ?_
      refine gi_get (q := 70) C (dm_Bu_make 35 rfl) rfl fl_Bu_38 (by repeat (first | exact gi_up_self _ _ _ | assumption | rw [gi_up_ne (by omega)])) rfl ?_
      refine gi_if_eq (q := 73) (tgt := 79) C (dm_Bu_make 36 rfl) rfl (by decide) (fun c70 => ?_) (fun c70 => ?_)
      · refine gi_aload_n (q := 80) (i := 0) C (dm_Bu_make 41 rfl) rfl rfl rfl ?_
        refine gi_callv 0 (q := 83) C (dm_Bu_make 42 rfl) rfl my_Bu_findWidePlaces lk_Bu_66 im_Bu_findWidePlaces rfl (c_Bu_findWidePlaces_0 HP1 HB1) HB1.1 rfl rfl ⟨(Nat.le_of_ble_eq_true rfl), (Nat.le_of_ble_eq_true rfl)⟩ (Nat.le_of_ble_eq_true rfl) ⟨(Nat.le_of_ble_eq_true rfl), (Nat.le_of_ble_eq_true rfl)⟩ (fun r80 n80 h80 e80 => ?_)
        obtain ⟨rfl, rfl, rfl⟩ := e80
        refine gi_aload_n (q := 84) (i := 0) C (dm_Bu_make 43 rfl) rfl rfl rfl ?_
        refine gi_iconst (q := 85) (v := 1) C (dm_Bu_make 44 rfl) rfl (by decide) ?_
        refine gi_put (q := 88) C (dm_Bu_make 45 rfl) rfl fl_Bu_69 fp_Bu_0 (by repeat (first | exact gi_up_self _ _ _ | assumption | rw [gi_up_ne (by omega)])) (Nat.le_of_ble_eq_true rfl) rfl rfl ?_
        refine gi_aload_n (q := 89) (i := 0) C (dm_Bu_make 46 rfl) rfl rfl rfl ?_
        refine gi_get (q := 92) C (dm_Bu_make 47 rfl) rfl fl_Bu_48 (by repeat (first | exact gi_up_self _ _ _ | assumption | rw [gi_up_ne (by omega)])) rfl ?_
        refine gi_iret C hr (dm_Bu_make 48 rfl) ?_
        refine ⟨rfl, rfl, ⟨?_, ?_, ?_, ?_, ?_, ?_, ?_, ?_⟩, fun b hb => by rw [gi_up_ne hb, ho1 b hb]⟩
        all_goals repeat (first | exact gi_up_self _ _ _ | assumption | rw [gi_up_ne (by omega)])
      · exact absurd rfl c70
  · exact absurd (by decide) c34
end H3
