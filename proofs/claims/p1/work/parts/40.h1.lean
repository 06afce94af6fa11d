section H1
variable {l : Launch} {V : gi_V} {n : Nat} {h : gi_H} {X : Nat} {cr : Int32}
abbrev NOl : Int64 := -4611686018427387904
set_option maxHeartbeats 4000000 in
set_option maxRecDepth 100000 in
theorem c_H_reached_no (m q : Int32) (HX : hs_ob X 0 cr h) : gi_T l V y_H_reached b_H_reached 3 (some .boolean) 2 43 0 0 [.ref X, .int m, .int q] n h (gi_is (some (.int 0)) n h) := by
  refine gi_enter (by decide) (Nat.le_of_ble_eq_true rfl) ?_
  intro p e s m args below meth c C hr hnm
  have HX0 := HX
  unfold hs_ob at HX0
  refine gi_aload_n (q := 1) (i := 0) C (dm_H_reached 0 rfl) rfl rfl rfl ?_
  refine gi_get (q := 4) C (dm_H_reached 1 rfl) rfl fl_H_69 (by assumption) rfl ?_
  refine gi_if_eq (q := 7) (tgt := 38) C (dm_H_reached 2 rfl) rfl (by decide) (fun c4 => ?_) (fun c4 => ?_)
  · refine gi_iconst (q := 39) (v := 0) C (dm_H_reached 18 rfl) rfl (by decide) ?_
    refine gi_zret C hr (dm_H_reached 19 rfl) rfl ?_
    exact ⟨rfl, rfl, rfl⟩
  · exact absurd rfl c4
set_option maxHeartbeats 4000000 in
set_option maxRecDepth 100000 in
theorem c_H_told_no (m q t : Int32) (HX : hs_ob X 0 cr h) : gi_T l V y_H_told b_H_told 6 (some (.object "AnalysisHouse$Value")) 3 65 0 0 [.ref X, .int m, .int q, .int t] n h (gi_is (some .null) n h) := by
  refine gi_enter (by decide) (Nat.le_of_ble_eq_true rfl) ?_
  intro p e s m args below meth c C hr hnm
  have HX0 := HX
  unfold hs_ob at HX0
  refine gi_aload_n (q := 1) (i := 0) C (dm_H_told 0 rfl) rfl rfl rfl ?_
  refine gi_iload_n (q := 2) (i := 1) C (dm_H_told 1 rfl) rfl rfl rfl ?_
  refine gi_iload_n (q := 3) (i := 2) C (dm_H_told 2 rfl) rfl rfl rfl ?_
  refine gi_callv 2 (q := 6) C (dm_H_told 3 rfl) rfl my_H_reached lk_H_204 im_H_reached rfl (c_H_reached_no _ _ HX) HX0 rfl rfl ⟨(Nat.le_of_ble_eq_true rfl), (Nat.le_of_ble_eq_true rfl)⟩ (Nat.le_of_ble_eq_true rfl) ⟨(Nat.le_of_ble_eq_true rfl), (Nat.le_of_ble_eq_true rfl)⟩ (fun r3 n3 h3 e3 => ?_)
  obtain ⟨rfl, rfl, rfl⟩ := e3
  refine gi_if_ne (q := 9) (tgt := 11) C (dm_H_told 4 rfl) rfl (by decide) (fun c6 => ?_) (fun c6 => ?_)
  · exact absurd rfl c6
  · refine gi_null (q := 10) C (dm_H_told 5 rfl) rfl ?_
    refine gi_aret C hr (Or.inl ⟨_, rfl⟩) (Or.inl rfl) (dm_H_told 6 rfl) ?_
    exact ⟨rfl, rfl, rfl⟩
set_option maxHeartbeats 4000000 in
set_option maxRecDepth 100000 in
theorem c_H_state_no (m q t x : Int32) (HX : hs_ob X 0 cr h) : gi_T l V y_H_state b_H_state 6 (some .long) 4 90 0 0 [.ref X, .int m, .int q, .int t, .int x] n h (gi_is (some (.long NOl)) n h) := by
  refine gi_enter (by decide) (Nat.le_of_ble_eq_true rfl) ?_
  intro p e s m args below meth c C hr hnm
  have HX0 := HX
  unfold hs_ob at HX0
  refine gi_aload_n (q := 1) (i := 0) C (dm_H_state 0 rfl) rfl rfl rfl ?_
  refine gi_iload_n (q := 2) (i := 1) C (dm_H_state 1 rfl) rfl rfl rfl ?_
  refine gi_iload_n (q := 3) (i := 2) C (dm_H_state 2 rfl) rfl rfl rfl ?_
  refine gi_iload_n (q := 4) (i := 3) C (dm_H_state 3 rfl) rfl rfl rfl ?_
  refine gi_callv 3 (q := 7) C (dm_H_state 4 rfl) rfl my_H_told lk_H_139 im_H_told rfl (c_H_told_no _ _ _ HX) HX0 rfl rfl ⟨(Nat.le_of_ble_eq_true rfl), (Nat.le_of_ble_eq_true rfl)⟩ (Nat.le_of_ble_eq_true rfl) ⟨(Nat.le_of_ble_eq_true rfl), (Nat.le_of_ble_eq_true rfl)⟩ (fun r4 n4 h4 e4 => ?_)
  obtain ⟨rfl, rfl, rfl⟩ := e4
  refine gi_astoreN (q := 9) C (dm_H_state 5 rfl) rfl (Nat.le_of_ble_eq_true rfl) ?_
  refine gi_aloadN (q := 11) C (dm_H_state 6 rfl) rfl rfl ?_
  refine gi_ifnonnullN (q := 14) C (dm_H_state 7 rfl) rfl ?_
  refine gi_ldc2 (q := 17) C (dm_H_state 8 rfl) rfl kc_H_142 ?_
  refine gi_lret C hr (dm_H_state 9 rfl) ?_
  exact ⟨rfl, rfl, rfl⟩
set_option maxHeartbeats 4000000 in
set_option maxRecDepth 100000 in
theorem c_H_plant_no (m q t x y : Int32) (HX : hs_ob X 0 cr h) : gi_T l V y_H_plant b_H_plant 7 (some .boolean) 4 90 0 0 [.ref X, .int m, .int q, .int t, .int x, .int y] n h (gi_is (some (.int 0)) n h) := by
  refine gi_enter (by decide) (Nat.le_of_ble_eq_true rfl) ?_
  intro p e s m args below meth c C hr hnm
  have HX0 := HX
  unfold hs_ob at HX0
  refine gi_aload_n (q := 1) (i := 0) C (dm_H_plant 0 rfl) rfl rfl rfl ?_
  refine gi_iload_n (q := 2) (i := 1) C (dm_H_plant 1 rfl) rfl rfl rfl ?_
  refine gi_iload_n (q := 3) (i := 2) C (dm_H_plant 2 rfl) rfl rfl rfl ?_
  refine gi_iload_n (q := 4) (i := 3) C (dm_H_plant 3 rfl) rfl rfl rfl ?_
  refine gi_callv 3 (q := 7) C (dm_H_plant 4 rfl) rfl my_H_told lk_H_139 im_H_told rfl (c_H_told_no _ _ _ HX) HX0 rfl rfl ⟨(Nat.le_of_ble_eq_true rfl), (Nat.le_of_ble_eq_true rfl)⟩ (Nat.le_of_ble_eq_true rfl) ⟨(Nat.le_of_ble_eq_true rfl), (Nat.le_of_ble_eq_true rfl)⟩ (fun r4 n4 h4 e4 => ?_)
  obtain ⟨rfl, rfl, rfl⟩ := e4
  refine gi_astoreN (q := 9) C (dm_H_plant 5 rfl) rfl (Nat.le_of_ble_eq_true rfl) ?_
  refine gi_aloadN (q := 11) C (dm_H_plant 6 rfl) rfl rfl ?_
  refine gi_ifnullN (tgt := 29) C (dm_H_plant 7 rfl) (by decide) ?_
  refine gi_iconst (q := 30) (v := 0) C (dm_H_plant 14 rfl) rfl (by decide) ?_
  refine gi_zret C hr (dm_H_plant 15 rfl) rfl ?_
  exact ⟨rfl, rfl, rfl⟩
set_option maxHeartbeats 4000000 in
set_option maxRecDepth 100000 in
theorem c_H_forgetState_no (m q : Int32) (HX : hs_ob X 0 cr h) : gi_T l V y_H_forgetState b_H_forgetState 3 (some .boolean) 3 65 0 0 [.ref X, .int m, .int q] n h (gi_is (some (.int 0)) n h) := by
  refine gi_enter (by decide) (Nat.le_of_ble_eq_true rfl) ?_
  intro p e s m args below meth c C hr hnm
  have HX0 := HX
  unfold hs_ob at HX0
  refine gi_aload_n (q := 1) (i := 0) C (dm_H_forgetState 0 rfl) rfl rfl rfl ?_
  refine gi_iload_n (q := 2) (i := 1) C (dm_H_forgetState 1 rfl) rfl rfl rfl ?_
  refine gi_iload_n (q := 3) (i := 2) C (dm_H_forgetState 2 rfl) rfl rfl rfl ?_
  refine gi_callv 2 (q := 6) C (dm_H_forgetState 3 rfl) rfl my_H_reached lk_H_204 im_H_reached rfl (c_H_reached_no _ _ HX) HX0 rfl rfl ⟨(Nat.le_of_ble_eq_true rfl), (Nat.le_of_ble_eq_true rfl)⟩ (Nat.le_of_ble_eq_true rfl) ⟨(Nat.le_of_ble_eq_true rfl), (Nat.le_of_ble_eq_true rfl)⟩ (fun r3 n3 h3 e3 => ?_)
  obtain ⟨rfl, rfl, rfl⟩ := e3
  refine gi_if_ne (q := 9) (tgt := 11) C (dm_H_forgetState 4 rfl) rfl (by decide) (fun c6 => ?_) (fun c6 => ?_)
  · exact absurd rfl c6
  · refine gi_iconst (q := 10) (v := 0) C (dm_H_forgetState 5 rfl) rfl (by decide) ?_
    refine gi_zret C hr (dm_H_forgetState 6 rfl) rfl ?_
    exact ⟨rfl, rfl, rfl⟩
set_option maxHeartbeats 4000000 in
set_option maxRecDepth 100000 in
theorem c_H_field_no (m q : Int32) (HX : hs_ob X 0 cr h) : gi_T l V y_H_field b_H_field 3 (some .long) 2 42 0 0 [.ref X, .int m, .int q] n h (gi_is (some (.long NOl)) n h) := by
  refine gi_enter (by decide) (Nat.le_of_ble_eq_true rfl) ?_
  intro p e s m args below meth c C hr hnm
  have HX0 := HX
  unfold hs_ob at HX0
  refine gi_aload_n (q := 1) (i := 0) C (dm_H_field 0 rfl) rfl rfl rfl ?_
  refine gi_get (q := 4) C (dm_H_field 1 rfl) rfl fl_H_69 (by assumption) rfl ?_
  refine gi_if_eq (q := 7) (tgt := 16) C (dm_H_field 2 rfl) rfl (by decide) (fun c4 => ?_) (fun c4 => ?_)
  · refine gi_ldc2 (q := 19) C (dm_H_field 8 rfl) rfl kc_H_142 ?_
    refine gi_lret C hr (dm_H_field 9 rfl) ?_
    exact ⟨rfl, rfl, rfl⟩
  · exact absurd rfl c4
set_option maxHeartbeats 4000000 in
set_option maxRecDepth 100000 in
theorem c_H_result_no (m q : Int32) (HX : hs_ob X 0 cr h) : gi_T l V y_H_result b_H_result 4 (some .long) 2 42 0 0 [.ref X, .int m, .int q] n h (gi_is (some (.long NOl)) n h) := by
  refine gi_enter (by decide) (Nat.le_of_ble_eq_true rfl) ?_
  intro p e s m args below meth c C hr hnm
  have HX0 := HX
  unfold hs_ob at HX0
  refine gi_aload_n (q := 1) (i := 0) C (dm_H_result 0 rfl) rfl rfl rfl ?_
  refine gi_get (q := 4) C (dm_H_result 1 rfl) rfl fl_H_69 (by assumption) rfl ?_
  refine gi_if_eq (q := 7) (tgt := 18) C (dm_H_result 2 rfl) rfl (by decide) (fun c4 => ?_) (fun c4 => ?_)
  · refine gi_ldc2 (q := 21) C (dm_H_result 8 rfl) rfl kc_H_142 ?_
    refine gi_lret C hr (dm_H_result 9 rfl) ?_
    exact ⟨rfl, rfl, rfl⟩
  · exact absurd rfl c4
set_option maxHeartbeats 4000000 in
set_option maxRecDepth 100000 in
theorem c_H_verdict_no (m q t : Int32) (HX : hs_ob X 0 cr h) : gi_T l V y_H_verdict b_H_verdict 4 (some .int) 4 97 0 0 [.ref X, .int m, .int q, .int t] n h (gi_is (some (.int (-1))) n h) := by
  refine gi_enter (by decide) (Nat.le_of_ble_eq_true rfl) ?_
  intro p e s m args below meth c C hr hnm
  have HX0 := HX
  unfold hs_ob at HX0
  refine gi_aload_n (q := 1) (i := 0) C (dm_H_verdict 0 rfl) rfl rfl rfl ?_
  refine gi_get (q := 4) C (dm_H_verdict 1 rfl) rfl fl_H_69 (by assumption) rfl ?_
  refine gi_if_eq (q := 7) (tgt := 29) C (dm_H_verdict 2 rfl) rfl (by decide) (fun c4 => ?_) (fun c4 => ?_)
  · refine gi_iconst (q := 30) (v := -1) C (dm_H_verdict 15 rfl) rfl (by decide) ?_
    refine gi_iret C hr (dm_H_verdict 16 rfl) ?_
    exact ⟨rfl, rfl, rfl⟩
  · exact absurd rfl c4
set_option maxHeartbeats 4000000 in
set_option maxRecDepth 100000 in
theorem c_H_verdicts_no (m : Int32) (HX : hs_ob X 0 cr h) : gi_T l V y_H_verdicts b_H_verdicts 5 (some .int) 5 123 0 0 [.ref X, .int m] n h (gi_is (some (.int (-1))) n h) := by
  refine gi_enter (by decide) (Nat.le_of_ble_eq_true rfl) ?_
  intro p e s m args below meth c C hr hnm
  have HX0 := HX
  unfold hs_ob at HX0
  refine gi_aload_n (q := 1) (i := 0) C (dm_H_verdicts 0 rfl) rfl rfl rfl ?_
  refine gi_get (q := 4) C (dm_H_verdicts 1 rfl) rfl fl_H_69 (by assumption) rfl ?_
  refine gi_if_eq (q := 7) (tgt := 16) C (dm_H_verdicts 2 rfl) rfl (by decide) (fun c4 => ?_) (fun c4 => ?_)
  · refine gi_iconst (q := 17) (v := -1) C (dm_H_verdicts 8 rfl) rfl (by decide) ?_
    refine gi_iret C hr (dm_H_verdicts 9 rfl) ?_
    exact ⟨rfl, rfl, rfl⟩
  · exact absurd rfl c4
set_option maxHeartbeats 4000000 in
set_option maxRecDepth 100000 in
theorem c_H_check_no (HX : hs_ob X 0 cr h) : gi_T l V y_H_check b_H_check 3 (some .int) 6 168 0 0 [.ref X] n h (gi_is (some (.int (-1))) n h) := by
  refine gi_enter (by decide) (Nat.le_of_ble_eq_true rfl) ?_
  intro p e s m args below meth c C hr hnm
  have HX0 := HX
  unfold hs_ob at HX0
  refine gi_aload_n (q := 1) (i := 0) C (dm_H_check 0 rfl) rfl rfl rfl ?_
  refine gi_get (q := 4) C (dm_H_check 1 rfl) rfl fl_H_69 (by assumption) rfl ?_
  refine gi_if_ne (q := 7) (tgt := 9) C (dm_H_check 2 rfl) rfl (by decide) (fun c4 => ?_) (fun c4 => ?_)
  · exact absurd rfl c4
  · refine gi_iconst (q := 8) (v := -1) C (dm_H_check 3 rfl) rfl (by decide) ?_
    refine gi_iret C hr (dm_H_check 4 rfl) ?_
    exact ⟨rfl, rfl, rfl⟩
set_option maxHeartbeats 4000000 in
set_option maxRecDepth 100000 in
theorem c_H_analyze_no (m : Int32) {S : Nat → Int32} {F : Nat → Nat → Int32} {ct : Int32} (HX : hs_ob X ct cr h) (HB : bu_at (X + 9) (X + 1) S F h) (hm : S 0 = 0) : gi_T l V y_H_analyze b_H_analyze 4 (some .int) 7 191 0 0 [.ref X, .int m] n h (gi_is (some (.int (-1))) n h) := by
  refine gi_enter (by decide) (Nat.le_of_ble_eq_true rfl) ?_
  intro p e s m args below meth c C hr hnm
  have HX0 := HX
  unfold hs_ob at HX0
  obtain ⟨B0, B1, B2, B3, B4, B5, B6, B7⟩ := id HB
  refine gi_aload_n (q := 1) (i := 0) C (dm_H_analyze 0 rfl) rfl rfl rfl ?_
  refine gi_get (q := 4) C (dm_H_analyze 1 rfl) rfl fl_H_21 (by assumption) rfl ?_
  refine gi_get (q := 7) C (dm_H_analyze 2 rfl) rfl fl_H_105 (by assumption) rfl ?_
  refine gi_if_eq (q := 10) (tgt := 27) C (dm_H_analyze 3 rfl) rfl (by decide) (fun c7 => ?_) (fun c7 => ?_)
  · refine gi_iconst (q := 28) (v := -1) C (dm_H_analyze 13 rfl) rfl (by decide) ?_
    refine gi_iret C hr (dm_H_analyze 14 rfl) ?_
    exact ⟨rfl, rfl, rfl⟩
  · exact absurd hm c7
set_option maxHeartbeats 4000000 in
set_option maxRecDepth 100000 in
theorem c_H_run_no (m q : Int32) {S : Nat → Int32} {F : Nat → Nat → Int32} {ct : Int32} (HX : hs_ob X ct cr h) (HB : bu_at (X + 9) (X + 1) S F h) (hm : S 0 = 0) : gi_T l V y_H_run b_H_run 3 (some .int) 6 140 0 0 [.ref X, .int m, .int q] n h (gi_is (some (.int (-1))) n h) := by
  refine gi_enter (by decide) (Nat.le_of_ble_eq_true rfl) ?_
  intro p e s m args below meth c C hr hnm
  have HX0 := HX
  unfold hs_ob at HX0
  obtain ⟨B0, B1, B2, B3, B4, B5, B6, B7⟩ := id HB
  refine gi_aload_n (q := 1) (i := 0) C (dm_H_run 0 rfl) rfl rfl rfl ?_
  refine gi_get (q := 4) C (dm_H_run 1 rfl) rfl fl_H_21 (by assumption) rfl ?_
  refine gi_get (q := 7) C (dm_H_run 2 rfl) rfl fl_H_105 (by assumption) rfl ?_
  refine gi_if_eq (q := 10) (tgt := 47) C (dm_H_run 3 rfl) rfl (by decide) (fun c7 => ?_) (fun c7 => ?_)
  · refine gi_iconst (q := 48) (v := -1) C (dm_H_run 21 rfl) rfl (by decide) ?_
    refine gi_iret C hr (dm_H_run 22 rfl) ?_
    exact ⟨rfl, rfl, rfl⟩
  · exact absurd hm c7
set_option maxHeartbeats 4000000 in
set_option maxRecDepth 100000 in
theorem c_H_site_no (m q : Int32) {S : Nat → Int32} {F : Nat → Nat → Int32} {ct : Int32} (HX : hs_ob X ct cr h) (HB : bu_at (X + 9) (X + 1) S F h) (hm : S 0 = 0) : gi_T l V y_H_site b_H_site 4 (some .long) 2 42 0 0 [.ref X, .int m, .int q] n h (gi_is (some (.long NOl)) n h) := by
  refine gi_enter (by decide) (Nat.le_of_ble_eq_true rfl) ?_
  intro p e s m args below meth c C hr hnm
  have HX0 := HX
  unfold hs_ob at HX0
  obtain ⟨B0, B1, B2, B3, B4, B5, B6, B7⟩ := id HB
  refine gi_iload_n (q := 1) (i := 1) C (dm_H_site 0 rfl) rfl rfl rfl ?_
  refine gi_if_lt (q := 4) (tgt := 25) C (dm_H_site 1 rfl) rfl (by decide) (fun c1 => ?_) (fun c1 => ?_)
  · refine gi_ldc2 (q := 28) C (dm_H_site 11 rfl) rfl kc_H_142 ?_
    refine gi_lret C hr (dm_H_site 12 rfl) ?_
    exact ⟨rfl, rfl, rfl⟩
  · refine gi_iload_n (q := 5) (i := 1) C (dm_H_site 2 rfl) rfl rfl rfl ?_
    refine gi_aload_n (q := 6) (i := 0) C (dm_H_site 3 rfl) rfl rfl rfl ?_
    refine gi_get (q := 9) C (dm_H_site 4 rfl) rfl fl_H_21 (by assumption) rfl ?_
    refine gi_get (q := 12) C (dm_H_site 5 rfl) rfl fl_H_157 (by assumption) rfl ?_
    refine gi_icmp_ge (q := 15) (tgt := 25) C (dm_H_site 6 rfl) rfl (by decide) (fun c12 => ?_) (fun c12 => ?_)
    · refine gi_ldc2 (q := 28) C (dm_H_site 11 rfl) rfl kc_H_142 ?_
      refine gi_lret C hr (dm_H_site 12 rfl) ?_
      exact ⟨rfl, rfl, rfl⟩
    · refine gi_aload_n (q := 16) (i := 0) C (dm_H_site 7 rfl) rfl rfl rfl ?_
      refine gi_get (q := 19) C (dm_H_site 8 rfl) rfl fl_H_21 (by assumption) rfl ?_
      refine gi_get (q := 22) C (dm_H_site 9 rfl) rfl fl_H_105 (by assumption) rfl ?_
      refine gi_if_ne (q := 25) (tgt := 29) C (dm_H_site 10 rfl) rfl (by decide) (fun c22 => ?_) (fun c22 => ?_)
      · exact absurd hm c22
      · refine gi_ldc2 (q := 28) C (dm_H_site 11 rfl) rfl kc_H_142 ?_
        refine gi_lret C hr (dm_H_site 12 rfl) ?_
        exact ⟨rfl, rfl, rfl⟩
set_option maxHeartbeats 4000000 in
set_option maxRecDepth 100000 in
theorem c_H_faultAt_no (m : Int32) {S : Nat → Int32} {F : Nat → Nat → Int32} {ct : Int32} (HX : hs_ob X ct cr h) (HB : bu_at (X + 9) (X + 1) S F h) (hm : S 2 = 0) : gi_T l V y_H_faultAt b_H_faultAt 2 (some .int) 0 0 0 0 [.ref X, .int m] n h (gi_is (some (.int (-1))) n h) := by
  refine gi_enter (by decide) (Nat.le_of_ble_eq_true rfl) ?_
  intro p e s m args below meth c C hr hnm
  have HX0 := HX
  unfold hs_ob at HX0
  obtain ⟨B0, B1, B2, B3, B4, B5, B6, B7⟩ := id HB
  refine gi_aload_n (q := 1) (i := 0) C (dm_H_faultAt 0 rfl) rfl rfl rfl ?_
  refine gi_get (q := 4) C (dm_H_faultAt 1 rfl) rfl fl_H_21 (by assumption) rfl ?_
  refine gi_get (q := 7) C (dm_H_faultAt 2 rfl) rfl fl_H_96 (by assumption) rfl ?_
  refine gi_if_ne (q := 10) (tgt := 12) C (dm_H_faultAt 3 rfl) rfl (by decide) (fun c7 => ?_) (fun c7 => ?_)
  · exact absurd hm c7
  · refine gi_iconst (q := 11) (v := -1) C (dm_H_faultAt 4 rfl) rfl (by decide) ?_
    refine gi_iret C hr (dm_H_faultAt 5 rfl) ?_
    exact ⟨rfl, rfl, rfl⟩
end H1
