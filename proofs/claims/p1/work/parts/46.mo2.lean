section MO2
section SW
variable {p : Program} {l : Launch} {e : Env} {R : Room} {s : State} {m : MethodId} {args : Array Value} {below : List Frame} {meth : Method} {c : Code} {Q : State → Prop} {nL : Nat} {V : gi_V} {cells slots pc n : Nat} {L : List (Nat × Value)} {st : List Value} {h : gi_H}
theorem gi_switch {x : Int32} {lo hi : Nat} (hhi : hi < 2 ^ 31) (ko : (x.toInt < (lo : Int) ∨ (hi : Int) < x.toInt) → gi_G p l e R s m args below meth c Q V nL cells slots pc L (.int x :: st) n h) (ki : ∀ i : Nat, lo ≤ i → i ≤ hi → x = nI i → gi_G p l e R s m args below meth c Q V nL cells slots pc L (.int (nI i) :: st) n h) : gi_G p l e R s m args below meth c Q V nL cells slots pc L (.int x :: st) n h := by
  by_cases q : x.toInt < (lo : Int) ∨ (hi : Int) < x.toInt
  · exact ko q
  · have h0 : x = nI x.toInt.toNat := by
      apply Int32.toInt_inj.mp
      rw [nI_toInt (by omega)]
      omega
    rw [h0]
    exact ki _ (by omega) (by omega) h0
end SW
variable {l : Launch} {V : gi_V} {n : Nat} {h : gi_H} {M k c : Nat} {S : Nat → Int32} {J : Nat → Int64} {F : Nat → Nat → Int32} {G : Nat → Nat → Int64}
set_option maxHeartbeats 4000000 in
set_option maxRecDepth 100000 in
theorem c_Mo_isMethod (m : Int32) (hS : S 0 = nI k) (H : mo_at M S J F G h) : gi_T l V y_Mo_isMethod b_Mo_isMethod 2 (some .boolean) 0 0 0 0 [.ref M, .int m] n h (gi_is (some (.int (bI (isM k m)))) n h) := by
  refine gi_enter (by decide) (Nat.le_of_ble_eq_true rfl) ?_
  intro _ _ _ _ _ _ _ _ C hr hnm
  obtain ⟨fs, Ha, Hf⟩ := id H.1
  refine gi_iload_n (q := 1) (i := 1) C (dm_Mo_isMethod 0 rfl) rfl rfl rfl ?_
  refine gi_if_lt (q := 4) (tgt := 16) C (dm_Mo_isMethod 1 rfl) rfl (by decide) (fun c1 => ?_) (fun c1 => ?_)
  · refine gi_iconst (q := 17) (v := 0) C (dm_Mo_isMethod 8 rfl) rfl (by decide) ?_
    refine gi_zret C hr (dm_Mo_isMethod 9 rfl) rfl ?_
    refine ⟨?_, rfl, rfl⟩
    rw [hS] at *
    simp_all [bI, isM, Int32.not_lt, Int32.not_le]
    try (intros; simp only [Int32.lt_iff_toInt_lt, Int32.le_iff_toInt_le] at *; omega)
  · refine gi_iload_n (q := 5) (i := 1) C (dm_Mo_isMethod 2 rfl) rfl rfl rfl ?_
    refine gi_aload_n (q := 6) (i := 0) C (dm_Mo_isMethod 3 rfl) rfl rfl rfl ?_
    refine gi_get (q := 9) C (dm_Mo_isMethod 4 rfl) rfl fl_Mo_176 Ha (mo_g0 Hf) ?_
    refine gi_icmp_ge (q := 12) (tgt := 16) C (dm_Mo_isMethod 5 rfl) rfl (by decide) (fun c9 => ?_) (fun c9 => ?_)
    · refine gi_iconst (q := 17) (v := 0) C (dm_Mo_isMethod 8 rfl) rfl (by decide) ?_
      refine gi_zret C hr (dm_Mo_isMethod 9 rfl) rfl ?_
      refine ⟨?_, rfl, rfl⟩
      rw [hS] at *
      simp_all [bI, isM, Int32.not_lt, Int32.not_le]
      try (intros; simp only [Int32.lt_iff_toInt_lt, Int32.le_iff_toInt_le] at *; omega)
    · refine gi_iconst (q := 13) (v := 1) C (dm_Mo_isMethod 6 rfl) rfl (by decide) ?_
      refine gi_goto (tgt := 17) C (dm_Mo_isMethod 7 rfl) (by decide) ?_
      refine gi_zret C hr (dm_Mo_isMethod 9 rfl) rfl ?_
      refine ⟨?_, rfl, rfl⟩
      rw [hS] at *
      simp_all [bI, isM, Int32.not_lt, Int32.not_le]
      try (intros; simp only [Int32.lt_iff_toInt_lt, Int32.le_iff_toInt_le] at *; omega)
set_option maxHeartbeats 4000000 in
set_option maxRecDepth 100000 in
theorem c_Mo_reached_no (m q : Int32) (h9 : S 9 = 0) (H : mo_at M S J F G h) : gi_T l V y_Mo_reached b_Mo_reached 3 (some .boolean) 2 43 0 0 [.ref M, .int m, .int q] n h (gi_is (some (.int 0)) n h) := by
  refine gi_enter (by decide) (Nat.le_of_ble_eq_true rfl) ?_
  intro _ _ _ _ _ _ _ _ C hr hnm
  obtain ⟨fs, Ha, Hf⟩ := id H.1
  refine gi_aload_n (q := 1) (i := 0) C (dm_Mo_reached 0 rfl) rfl rfl rfl ?_
  refine gi_get (q := 4) C (dm_Mo_reached 1 rfl) rfl fl_Mo_183 Ha (mo_g9 Hf) ?_
  refine gi_if_eq (q := 7) (tgt := 34) C (dm_Mo_reached 2 rfl) rfl (by decide) (fun c4 => ?_) (fun c4 => ?_)
  · refine gi_iconst (q := 35) (v := 0) C (dm_Mo_reached 19 rfl) rfl (by decide) ?_
    refine gi_zret C hr (dm_Mo_reached 20 rfl) rfl ?_
    exact ⟨rfl, rfl, rfl⟩
  · exact absurd h9 c4
set_option maxHeartbeats 4000000 in
set_option maxRecDepth 100000 in
theorem c_Mo_slotOf_no (m q t : Int32) (h9 : S 9 = 0) (H : mo_at M S J F G h) : gi_T l V y_Mo_slotOf b_Mo_slotOf 5 (some .int) 3 65 0 0 [.ref M, .int m, .int q, .int t] n h (gi_is (some (.int (-1))) n h) := by
  refine gi_enter (by decide) (Nat.le_of_ble_eq_true rfl) ?_
  intro _ _ _ _ _ _ _ _ C hr hnm
  obtain ⟨fs, Ha, Hf⟩ := id H.1
  refine gi_aload_n (q := 1) (i := 0) C (dm_Mo_slotOf 0 rfl) rfl rfl rfl ?_
  refine gi_iload_n (q := 2) (i := 1) C (dm_Mo_slotOf 1 rfl) rfl rfl rfl ?_
  refine gi_iload_n (q := 3) (i := 2) C (dm_Mo_slotOf 2 rfl) rfl rfl rfl ?_
  refine gi_callv 2 (q := 6) C (dm_Mo_slotOf 3 rfl) rfl my_Mo_reached lk_Mo_519 im_Mo_reached rfl (c_Mo_reached_no _ _ h9 H) Ha rfl rfl ⟨(Nat.le_of_ble_eq_true rfl), (Nat.le_of_ble_eq_true rfl)⟩ (Nat.le_of_ble_eq_true rfl) ⟨(Nat.le_of_ble_eq_true rfl), (Nat.le_of_ble_eq_true rfl)⟩ (fun r3 n3 h3 e3 => ?_)
  obtain ⟨rfl, rfl, rfl⟩ := e3
  refine gi_if_ne (q := 9) (tgt := 11) C (dm_Mo_slotOf 4 rfl) rfl (by decide) (fun c6 => ?_) (fun c6 => ?_)
  · exact absurd rfl c6
  · refine gi_iconst (q := 10) (v := -1) C (dm_Mo_slotOf 5 rfl) rfl (by decide) ?_
    refine gi_iret C hr (dm_Mo_slotOf 6 rfl) ?_
    exact ⟨rfl, rfl, rfl⟩
set_option maxHeartbeats 4000000 in
set_option maxRecDepth 100000 in
theorem c_Mo_field_no (m q : Int32) (h9 : S 9 = 0) (H : mo_at M S J F G h) : gi_T l V y_Mo_field b_Mo_field 3 (some .long) 1 22 0 0 [.ref M, .int m, .int q] n h (gi_is (some (.long NOl)) n h) := by
  refine gi_enter (by decide) (Nat.le_of_ble_eq_true rfl) ?_
  intro _ _ _ _ _ _ _ _ C hr hnm
  obtain ⟨fs, Ha, Hf⟩ := id H.1
  refine gi_aload_n (q := 1) (i := 0) C (dm_Mo_field 0 rfl) rfl rfl rfl ?_
  refine gi_get (q := 4) C (dm_Mo_field 1 rfl) rfl fl_Mo_183 Ha (mo_g9 Hf) ?_
  refine gi_if_eq (q := 7) (tgt := 37) C (dm_Mo_field 2 rfl) rfl (by decide) (fun c4 => ?_) (fun c4 => ?_)
  · refine gi_ldc2 (q := 40) C (dm_Mo_field 20 rfl) rfl kc_Mo_525 ?_
    refine gi_lret C hr (dm_Mo_field 21 rfl) ?_
    exact ⟨rfl, rfl, rfl⟩
  · exact absurd h9 c4
set_option maxHeartbeats 4000000 in
set_option maxRecDepth 100000 in
theorem c_Mo_result_no (m q : Int32) (h9 : S 9 = 0) (H : mo_at M S J F G h) : gi_T l V y_Mo_result b_Mo_result 4 (some .long) 1 22 0 0 [.ref M, .int m, .int q] n h (gi_is (some (.long NOl)) n h) := by
  refine gi_enter (by decide) (Nat.le_of_ble_eq_true rfl) ?_
  intro _ _ _ _ _ _ _ _ C hr hnm
  obtain ⟨fs, Ha, Hf⟩ := id H.1
  refine gi_aload_n (q := 1) (i := 0) C (dm_Mo_result 0 rfl) rfl rfl rfl ?_
  refine gi_get (q := 4) C (dm_Mo_result 1 rfl) rfl fl_Mo_183 Ha (mo_g9 Hf) ?_
  refine gi_if_eq (q := 7) (tgt := 24) C (dm_Mo_result 2 rfl) rfl (by decide) (fun c4 => ?_) (fun c4 => ?_)
  · refine gi_ldc2 (q := 27) C (dm_Mo_result 12 rfl) rfl kc_Mo_525 ?_
    refine gi_lret C hr (dm_Mo_result 13 rfl) ?_
    exact ⟨rfl, rfl, rfl⟩
  · exact absurd h9 c4
set_option maxHeartbeats 4000000 in
set_option maxRecDepth 100000 in
theorem c_Mo_verdict_no (m q t : Int32) (h9 : S 9 = 0) (H : mo_at M S J F G h) : gi_T l V y_Mo_verdict b_Mo_verdict 4 (some .int) 2 58 0 0 [.ref M, .int m, .int q, .int t] n h (gi_is (some (.int (-1))) n h) := by
  refine gi_enter (by decide) (Nat.le_of_ble_eq_true rfl) ?_
  intro _ _ _ _ _ _ _ _ C hr hnm
  obtain ⟨fs, Ha, Hf⟩ := id H.1
  refine gi_aload_n (q := 1) (i := 0) C (dm_Mo_verdict 0 rfl) rfl rfl rfl ?_
  refine gi_get (q := 4) C (dm_Mo_verdict 1 rfl) rfl fl_Mo_183 Ha (mo_g9 Hf) ?_
  refine gi_if_eq (q := 7) (tgt := 26) C (dm_Mo_verdict 2 rfl) rfl (by decide) (fun c4 => ?_) (fun c4 => ?_)
  · refine gi_iconst (q := 27) (v := -1) C (dm_Mo_verdict 14 rfl) rfl (by decide) ?_
    refine gi_iret C hr (dm_Mo_verdict 15 rfl) ?_
    exact ⟨rfl, rfl, rfl⟩
  · exact absurd h9 c4
set_option maxHeartbeats 4000000 in
set_option maxRecDepth 100000 in
theorem c_Mo_verdicts_no (m : Int32) (h9 : S 9 = 0) (H : mo_at M S J F G h) : gi_T l V y_Mo_verdicts b_Mo_verdicts 6 (some .int) 2 58 0 0 [.ref M, .int m] n h (gi_is (some (.int (-1))) n h) := by
  refine gi_enter (by decide) (Nat.le_of_ble_eq_true rfl) ?_
  intro _ _ _ _ _ _ _ _ C hr hnm
  obtain ⟨fs, Ha, Hf⟩ := id H.1
  refine gi_aload_n (q := 1) (i := 0) C (dm_Mo_verdicts 0 rfl) rfl rfl rfl ?_
  refine gi_get (q := 4) C (dm_Mo_verdicts 1 rfl) rfl fl_Mo_183 Ha (mo_g9 Hf) ?_
  refine gi_if_eq (q := 7) (tgt := 16) C (dm_Mo_verdicts 2 rfl) rfl (by decide) (fun c4 => ?_) (fun c4 => ?_)
  · refine gi_iconst (q := 17) (v := -1) C (dm_Mo_verdicts 8 rfl) rfl (by decide) ?_
    refine gi_iret C hr (dm_Mo_verdicts 9 rfl) ?_
    exact ⟨rfl, rfl, rfl⟩
  · exact absurd h9 c4
set_option maxHeartbeats 4000000 in
set_option maxRecDepth 100000 in
theorem c_Mo_check_no (h9 : S 9 = 0) (H : mo_at M S J F G h) : gi_T l V y_Mo_check b_Mo_check 2 (some .int) 7 228 0 0 [.ref M] n h (gi_is (some (.int (-1))) n h) := by
  refine gi_enter (by decide) (Nat.le_of_ble_eq_true rfl) ?_
  intro _ _ _ _ _ _ _ _ C hr hnm
  obtain ⟨fs, Ha, Hf⟩ := id H.1
  refine gi_aload_n (q := 1) (i := 0) C (dm_Mo_check 0 rfl) rfl rfl rfl ?_
  refine gi_get (q := 4) C (dm_Mo_check 1 rfl) rfl fl_Mo_183 Ha (mo_g9 Hf) ?_
  refine gi_if_ne (q := 7) (tgt := 9) C (dm_Mo_check 2 rfl) rfl (by decide) (fun c4 => ?_) (fun c4 => ?_)
  · exact absurd h9 c4
  · refine gi_iconst (q := 8) (v := -1) C (dm_Mo_check 3 rfl) rfl (by decide) ?_
    refine gi_iret C hr (dm_Mo_check 4 rfl) ?_
    exact ⟨rfl, rfl, rfl⟩
set_option maxHeartbeats 4000000 in
set_option maxRecDepth 100000 in
theorem c_Mo_forgetState_no (m q : Int32) (h9 : S 9 = 0) (H : mo_at M S J F G h) : gi_T l V y_Mo_forgetState b_Mo_forgetState 3 (some .boolean) 3 65 0 0 [.ref M, .int m, .int q] n h (gi_is (some (.int 0)) n h) := by
  refine gi_enter (by decide) (Nat.le_of_ble_eq_true rfl) ?_
  intro _ _ _ _ _ _ _ _ C hr hnm
  obtain ⟨fs, Ha, Hf⟩ := id H.1
  refine gi_aload_n (q := 1) (i := 0) C (dm_Mo_forgetState 0 rfl) rfl rfl rfl ?_
  refine gi_iload_n (q := 2) (i := 1) C (dm_Mo_forgetState 1 rfl) rfl rfl rfl ?_
  refine gi_iload_n (q := 3) (i := 2) C (dm_Mo_forgetState 2 rfl) rfl rfl rfl ?_
  refine gi_callv 2 (q := 6) C (dm_Mo_forgetState 3 rfl) rfl my_Mo_reached lk_Mo_519 im_Mo_reached rfl (c_Mo_reached_no _ _ h9 H) Ha rfl rfl ⟨(Nat.le_of_ble_eq_true rfl), (Nat.le_of_ble_eq_true rfl)⟩ (Nat.le_of_ble_eq_true rfl) ⟨(Nat.le_of_ble_eq_true rfl), (Nat.le_of_ble_eq_true rfl)⟩ (fun r3 n3 h3 e3 => ?_)
  obtain ⟨rfl, rfl, rfl⟩ := e3
  refine gi_if_ne (q := 9) (tgt := 11) C (dm_Mo_forgetState 4 rfl) rfl (by decide) (fun c6 => ?_) (fun c6 => ?_)
  · exact absurd rfl c6
  · refine gi_iconst (q := 10) (v := 0) C (dm_Mo_forgetState 5 rfl) rfl (by decide) ?_
    refine gi_zret C hr (dm_Mo_forgetState 6 rfl) rfl ?_
    exact ⟨rfl, rfl, rfl⟩
set_option maxHeartbeats 4000000 in
set_option maxRecDepth 100000 in
theorem c_Mo_analyze_no (m : Int32) (h8 : S 8 = 0) (H : mo_at M S J F G h) : gi_T l V y_Mo_analyze b_Mo_analyze 4 (some .int) 8 252 0 0 [.ref M, .int m] n h (gi_is (some (.int (-1))) n h) := by
  refine gi_enter (by decide) (Nat.le_of_ble_eq_true rfl) ?_
  intro _ _ _ _ _ _ _ _ C hr hnm
  obtain ⟨fs, Ha, Hf⟩ := id H.1
  refine gi_aload_n (q := 1) (i := 0) C (dm_Mo_analyze 0 rfl) rfl rfl rfl ?_
  refine gi_get (q := 4) C (dm_Mo_analyze 1 rfl) rfl fl_Mo_179 Ha (mo_g8 Hf) ?_
  refine gi_if_eq (q := 7) (tgt := 21) C (dm_Mo_analyze 2 rfl) rfl (by decide) (fun c4 => ?_) (fun c4 => ?_)
  · refine gi_iconst (q := 22) (v := -1) C (dm_Mo_analyze 11 rfl) rfl (by decide) ?_
    refine gi_iret C hr (dm_Mo_analyze 12 rfl) ?_
    exact ⟨rfl, rfl, rfl⟩
  · exact absurd h8 c4
set_option maxHeartbeats 4000000 in
set_option maxRecDepth 100000 in
theorem c_Mo_run_no (m q : Int32) (h8 : S 8 = 0) (H : mo_at M S J F G h) : gi_T l V y_Mo_run b_Mo_run 5 (some .int) 6 149 0 0 [.ref M, .int m, .int q] n h (gi_is (some (.int (-1))) n h) := by
  refine gi_enter (by decide) (Nat.le_of_ble_eq_true rfl) ?_
  intro _ _ _ _ _ _ _ _ C hr hnm
  obtain ⟨fs, Ha, Hf⟩ := id H.1
  refine gi_aload_n (q := 1) (i := 0) C (dm_Mo_run 0 rfl) rfl rfl rfl ?_
  refine gi_get (q := 4) C (dm_Mo_run 1 rfl) rfl fl_Mo_179 Ha (mo_g8 Hf) ?_
  refine gi_if_eq (q := 7) (tgt := 34) C (dm_Mo_run 2 rfl) rfl (by decide) (fun c4 => ?_) (fun c4 => ?_)
  · refine gi_iconst (q := 35) (v := -1) C (dm_Mo_run 16 rfl) rfl (by decide) ?_
    refine gi_iret C hr (dm_Mo_run 17 rfl) ?_
    exact ⟨rfl, rfl, rfl⟩
  · exact absurd h8 c4
set_option maxHeartbeats 4000000 in
set_option maxRecDepth 100000 in
theorem c_Mo_site_no (m q : Int32) (h8 : S 8 = 0) (H : mo_at M S J F G h) : gi_T l V y_Mo_site b_Mo_site 4 (some .long) 1 22 0 0 [.ref M, .int m, .int q] n h (gi_is (some (.long NOl)) n h) := by
  refine gi_enter (by decide) (Nat.le_of_ble_eq_true rfl) ?_
  intro _ _ _ _ _ _ _ _ C hr hnm
  obtain ⟨fs, Ha, Hf⟩ := id H.1
  refine gi_aload_n (q := 1) (i := 0) C (dm_Mo_site 0 rfl) rfl rfl rfl ?_
  refine gi_get (q := 4) C (dm_Mo_site 1 rfl) rfl fl_Mo_179 Ha (mo_g8 Hf) ?_
  refine gi_if_eq (q := 7) (tgt := 29) C (dm_Mo_site 2 rfl) rfl (by decide) (fun c4 => ?_) (fun c4 => ?_)
  · refine gi_ldc2 (q := 32) C (dm_Mo_site 14 rfl) rfl kc_Mo_525 ?_
    refine gi_lret C hr (dm_Mo_site 15 rfl) ?_
    exact ⟨rfl, rfl, rfl⟩
  · exact absurd h8 c4
set_option maxHeartbeats 4000000 in
set_option maxRecDepth 100000 in
theorem c_Mo_faultAt (x : Int32) (H : mo_at M S J F G h) : gi_T l V y_Mo_faultAt b_Mo_faultAt 2 (some .int) 0 0 0 0 [.ref M, .int x] n h (gi_is (some (.int (if x = 0 then S 10 else if x = 1 then S 11 else -1))) n h) := by
  refine gi_enter (by decide) (Nat.le_of_ble_eq_true rfl) ?_
  intro _ _ _ _ _ _ _ _ C hr hnm
  obtain ⟨fs, Ha, Hf⟩ := id H.1
  refine gi_iload_n (q := 1) (i := 1) C (dm_Mo_faultAt 0 rfl) rfl rfl rfl ?_
  refine gi_if_ne (q := 4) (tgt := 11) C (dm_Mo_faultAt 1 rfl) rfl (by decide) (fun c1 => ?_) (fun c1 => ?_)
  · refine gi_iload_n (q := 12) (i := 1) C (dm_Mo_faultAt 5 rfl) rfl rfl rfl ?_
    refine gi_iconst (q := 13) (v := 1) C (dm_Mo_faultAt 6 rfl) rfl (by decide) ?_
    refine gi_icmp_ne (q := 16) (tgt := 23) C (dm_Mo_faultAt 7 rfl) rfl (by decide) (fun c13 => ?_) (fun c13 => ?_)
    · refine gi_iconst (q := 24) (v := -1) C (dm_Mo_faultAt 11 rfl) rfl (by decide) ?_
      refine gi_iret C hr (dm_Mo_faultAt 12 rfl) ?_
      refine ⟨?_, rfl, rfl⟩
      simp_all
    · refine gi_aload_n (q := 17) (i := 0) C (dm_Mo_faultAt 8 rfl) rfl rfl rfl ?_
      refine gi_get (q := 20) C (dm_Mo_faultAt 9 rfl) rfl fl_Mo_35 Ha (mo_g11 Hf) ?_
      refine gi_goto (tgt := 24) C (dm_Mo_faultAt 10 rfl) (by decide) ?_
      refine gi_iret C hr (dm_Mo_faultAt 12 rfl) ?_
      refine ⟨?_, rfl, rfl⟩
      simp_all
  · refine gi_aload_n (q := 5) (i := 0) C (dm_Mo_faultAt 2 rfl) rfl rfl rfl ?_
    refine gi_get (q := 8) C (dm_Mo_faultAt 3 rfl) rfl fl_Mo_31 Ha (mo_g10 Hf) ?_
    refine gi_goto (tgt := 24) C (dm_Mo_faultAt 4 rfl) (by decide) ?_
    refine gi_iret C hr (dm_Mo_faultAt 12 rfl) ?_
    refine ⟨?_, rfl, rfl⟩
    simp_all
set_option maxHeartbeats 4000000 in
set_option maxRecDepth 100000 in
theorem c_Mo_outside (H : mo_at M S J F G h) : gi_T l V y_Mo_outside b_Mo_outside 1 (some .int) 0 0 0 0 [.ref M] n h (gi_is (some (.int (S 87))) n h) := by
  refine gi_enter (by decide) (Nat.le_of_ble_eq_true rfl) ?_
  intro _ _ _ _ _ _ _ _ C hr hnm
  obtain ⟨fs, Ha, Hf⟩ := id H.1
  refine gi_aload_n (q := 1) (i := 0) C (dm_Mo_outside 0 rfl) rfl rfl rfl ?_
  refine gi_get (q := 4) C (dm_Mo_outside 1 rfl) rfl fl_Mo_173 Ha (mo_g87 Hf) ?_
  refine gi_iret C hr (dm_Mo_outside 2 rfl) ?_
  exact ⟨rfl, rfl, rfl⟩
end MO2
