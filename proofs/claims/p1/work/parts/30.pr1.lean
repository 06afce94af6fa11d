section PR1
variable {l : Launch} {V : gi_V} {n : Nat} {h : gi_H} {a k : Nat} {F : Nat → Nat → Int32}
theorem bI_0 {b : Bool} : bI b = 0 ↔ b = false := by cases b <;> decide
theorem bI_n0 {b : Bool} : ¬ bI b = 0 ↔ b = true := by cases b <;> decide
theorem in_nI {m : Int32} {k N : Nat} (h0 : 0 ≤ m) (h1 : m < nI k) (hk : k ≤ N) (hN : N < 2 ^ 31) : vp_in m N := by
  rw [vp_in_iff]
  rw [Int32.le_iff_toInt_le, Int32.toInt_zero] at h0
  rw [Int32.lt_iff_toInt_lt, nI_toInt (by omega)] at h1
  omega
/-- m names one of k -/
def isM (k : Nat) (m : Int32) : Bool := decide (0 ≤ m ∧ m < nI k)
theorem isM_t {k : Nat} {m : Int32} (h : isM k m = true) : 0 ≤ m ∧ m < nI k := of_decide_eq_true h
/-- place q of method m is there -/
def isP (k : Nat) (F : Nat → Nat → Int32) (m q : Int32) : Bool := isM k m && decide (0 ≤ q) && decide (q < F 5 m.toNatClampNeg)
set_option maxHeartbeats 4000000 in
set_option maxRecDepth 100000 in
theorem c_Pr_hasMethod (m : Int32) (hk : k ≤ 8) (H : pr_at a (nI k) F h) : gi_T l V y_Pr_hasMethod b_Pr_hasMethod 2 (some .boolean) 0 0 0 0 [.ref a, .int m] n h (gi_is (some (.int (bI (isM k m)))) n h) := by
  refine gi_enter (by decide) (Nat.le_of_ble_eq_true rfl) ?_
  intro p e s m args below meth c C hr hnm
  obtain ⟨H0, H1, H2, H3, H4, H5, H6, H7⟩ := id H
  refine gi_iload_n (q := 1) (i := 1) C (dm_Pr_hasMethod 0 rfl) rfl rfl rfl ?_
  refine gi_if_lt (q := 4) (tgt := 16) C (dm_Pr_hasMethod 1 rfl) rfl (by decide) (fun c1 => ?_) (fun c1 => ?_)
  · refine gi_iconst (q := 17) (v := 0) C (dm_Pr_hasMethod 8 rfl) rfl (by decide) ?_
    refine gi_zret C hr (dm_Pr_hasMethod 9 rfl) rfl ?_
    refine ⟨?_, rfl, rfl⟩
    simp_all [bI, isM, bI_0, bI_n0, Int32.not_lt, Int32.not_le]
    try (intros; simp only [Int32.lt_iff_toInt_lt, Int32.le_iff_toInt_le] at *; omega)
  · refine gi_iload_n (q := 5) (i := 1) C (dm_Pr_hasMethod 2 rfl) rfl rfl rfl ?_
    refine gi_aload_n (q := 6) (i := 0) C (dm_Pr_hasMethod 3 rfl) rfl rfl rfl ?_
    refine gi_get (q := 9) C (dm_Pr_hasMethod 4 rfl) rfl fl_Pr_33 (by assumption) rfl ?_
    refine gi_icmp_ge (q := 12) (tgt := 16) C (dm_Pr_hasMethod 5 rfl) rfl (by decide) (fun c9 => ?_) (fun c9 => ?_)
    · refine gi_iconst (q := 17) (v := 0) C (dm_Pr_hasMethod 8 rfl) rfl (by decide) ?_
      refine gi_zret C hr (dm_Pr_hasMethod 9 rfl) rfl ?_
      refine ⟨?_, rfl, rfl⟩
      simp_all [bI, isM, bI_0, bI_n0, Int32.not_lt, Int32.not_le]
      try (intros; simp only [Int32.lt_iff_toInt_lt, Int32.le_iff_toInt_le] at *; omega)
    · refine gi_iconst (q := 13) (v := 1) C (dm_Pr_hasMethod 6 rfl) rfl (by decide) ?_
      refine gi_goto (tgt := 17) C (dm_Pr_hasMethod 7 rfl) (by decide) ?_
      refine gi_zret C hr (dm_Pr_hasMethod 9 rfl) rfl ?_
      refine ⟨?_, rfl, rfl⟩
      simp_all [bI, isM, bI_0, bI_n0, Int32.not_lt, Int32.not_le]
      try (intros; simp only [Int32.lt_iff_toInt_lt, Int32.le_iff_toInt_le] at *; omega)
set_option maxHeartbeats 4000000 in
set_option maxRecDepth 100000 in
theorem c_Pr_argumentsOf (m : Int32) (hk : k ≤ 8) (H : pr_at a (nI k) F h) : gi_T l V y_Pr_argumentsOf b_Pr_argumentsOf 2 (some .int) 1 21 0 0 [.ref a, .int m] n h (gi_is (some (.int (if isM k m = true then F 1 m.toNatClampNeg else 0))) n h) := by
  refine gi_enter (by decide) (Nat.le_of_ble_eq_true rfl) ?_
  intro p e s m args below meth c C hr hnm
  obtain ⟨H0, H1, H2, H3, H4, H5, H6, H7⟩ := id H
  refine gi_aload_n (q := 1) (i := 0) C (dm_Pr_argumentsOf 0 rfl) rfl rfl rfl ?_
  refine gi_iload_n (q := 2) (i := 1) C (dm_Pr_argumentsOf 1 rfl) rfl rfl rfl ?_
  refine gi_callv 1 (q := 5) C (dm_Pr_argumentsOf 2 rfl) rfl my_Pr_hasMethod lk_Pr_37 im_Pr_hasMethod rfl (c_Pr_hasMethod _ (by omega) H) H0 rfl rfl ⟨(Nat.le_of_ble_eq_true rfl), (Nat.le_of_ble_eq_true rfl)⟩ (Nat.le_of_ble_eq_true rfl) ⟨(Nat.le_of_ble_eq_true rfl), (Nat.le_of_ble_eq_true rfl)⟩ (fun r2 n2 h2 e2 => ?_)
  obtain ⟨rfl, rfl, rfl⟩ := e2
  refine gi_if_eq (q := 8) (tgt := 17) C (dm_Pr_argumentsOf 3 rfl) rfl (by decide) (fun c5 => ?_) (fun c5 => ?_)
  · refine gi_iconst (q := 18) (v := 0) C (dm_Pr_argumentsOf 9 rfl) rfl (by decide) ?_
    refine gi_iret C hr (dm_Pr_argumentsOf 10 rfl) ?_
    refine ⟨?_, rfl, rfl⟩
    simp_all [bI_0, bI_n0]
  · refine gi_aload_n (q := 9) (i := 0) C (dm_Pr_argumentsOf 4 rfl) rfl rfl rfl ?_
    refine gi_get (q := 12) C (dm_Pr_argumentsOf 5 rfl) rfl fl_Pr_9 (by assumption) rfl ?_
    refine gi_iload_n (q := 13) (i := 1) C (dm_Pr_argumentsOf 6 rfl) rfl rfl rfl ?_
    refine gi_iald (q := 14) C (dm_Pr_argumentsOf 7 rfl) rfl rfl (by assumption) (in_nI (isM_t (bI_n0.mp (by assumption))).1 (isM_t (bI_n0.mp (by assumption))).2 (by omega) (by omega)) ?_
    refine gi_goto (tgt := 18) C (dm_Pr_argumentsOf 8 rfl) (by decide) ?_
    refine gi_iret C hr (dm_Pr_argumentsOf 10 rfl) ?_
    refine ⟨?_, rfl, rfl⟩
    simp_all [bI_0, bI_n0]
set_option maxHeartbeats 4000000 in
set_option maxRecDepth 100000 in
theorem c_Pr_localsOf (m : Int32) (hk : k ≤ 8) (H : pr_at a (nI k) F h) : gi_T l V y_Pr_localsOf b_Pr_localsOf 2 (some .int) 1 21 0 0 [.ref a, .int m] n h (gi_is (some (.int (if isM k m = true then F 2 m.toNatClampNeg else 0))) n h) := by
  refine gi_enter (by decide) (Nat.le_of_ble_eq_true rfl) ?_
  intro p e s m args below meth c C hr hnm
  obtain ⟨H0, H1, H2, H3, H4, H5, H6, H7⟩ := id H
  refine gi_aload_n (q := 1) (i := 0) C (dm_Pr_localsOf 0 rfl) rfl rfl rfl ?_
  refine gi_iload_n (q := 2) (i := 1) C (dm_Pr_localsOf 1 rfl) rfl rfl rfl ?_
  refine gi_callv 1 (q := 5) C (dm_Pr_localsOf 2 rfl) rfl my_Pr_hasMethod lk_Pr_37 im_Pr_hasMethod rfl (c_Pr_hasMethod _ (by omega) H) H0 rfl rfl ⟨(Nat.le_of_ble_eq_true rfl), (Nat.le_of_ble_eq_true rfl)⟩ (Nat.le_of_ble_eq_true rfl) ⟨(Nat.le_of_ble_eq_true rfl), (Nat.le_of_ble_eq_true rfl)⟩ (fun r2 n2 h2 e2 => ?_)
  obtain ⟨rfl, rfl, rfl⟩ := e2
  refine gi_if_eq (q := 8) (tgt := 17) C (dm_Pr_localsOf 3 rfl) rfl (by decide) (fun c5 => ?_) (fun c5 => ?_)
  · refine gi_iconst (q := 18) (v := 0) C (dm_Pr_localsOf 9 rfl) rfl (by decide) ?_
    refine gi_iret C hr (dm_Pr_localsOf 10 rfl) ?_
    refine ⟨?_, rfl, rfl⟩
    simp_all [bI_0, bI_n0]
  · refine gi_aload_n (q := 9) (i := 0) C (dm_Pr_localsOf 4 rfl) rfl rfl rfl ?_
    refine gi_get (q := 12) C (dm_Pr_localsOf 5 rfl) rfl fl_Pr_15 (by assumption) rfl ?_
    refine gi_iload_n (q := 13) (i := 1) C (dm_Pr_localsOf 6 rfl) rfl rfl rfl ?_
    refine gi_iald (q := 14) C (dm_Pr_localsOf 7 rfl) rfl rfl (by assumption) (in_nI (isM_t (bI_n0.mp (by assumption))).1 (isM_t (bI_n0.mp (by assumption))).2 (by omega) (by omega)) ?_
    refine gi_goto (tgt := 18) C (dm_Pr_localsOf 8 rfl) (by decide) ?_
    refine gi_iret C hr (dm_Pr_localsOf 10 rfl) ?_
    refine ⟨?_, rfl, rfl⟩
    simp_all [bI_0, bI_n0]
set_option maxHeartbeats 4000000 in
set_option maxRecDepth 100000 in
theorem c_Pr_resultSort (m : Int32) (hk : k ≤ 8) (H : pr_at a (nI k) F h) : gi_T l V y_Pr_resultSort b_Pr_resultSort 2 (some .int) 1 21 0 0 [.ref a, .int m] n h (gi_is (some (.int (if isM k m = true then F 4 m.toNatClampNeg else 0))) n h) := by
  refine gi_enter (by decide) (Nat.le_of_ble_eq_true rfl) ?_
  intro p e s m args below meth c C hr hnm
  obtain ⟨H0, H1, H2, H3, H4, H5, H6, H7⟩ := id H
  refine gi_aload_n (q := 1) (i := 0) C (dm_Pr_resultSort 0 rfl) rfl rfl rfl ?_
  refine gi_iload_n (q := 2) (i := 1) C (dm_Pr_resultSort 1 rfl) rfl rfl rfl ?_
  refine gi_callv 1 (q := 5) C (dm_Pr_resultSort 2 rfl) rfl my_Pr_hasMethod lk_Pr_37 im_Pr_hasMethod rfl (c_Pr_hasMethod _ (by omega) H) H0 rfl rfl ⟨(Nat.le_of_ble_eq_true rfl), (Nat.le_of_ble_eq_true rfl)⟩ (Nat.le_of_ble_eq_true rfl) ⟨(Nat.le_of_ble_eq_true rfl), (Nat.le_of_ble_eq_true rfl)⟩ (fun r2 n2 h2 e2 => ?_)
  obtain ⟨rfl, rfl, rfl⟩ := e2
  refine gi_if_eq (q := 8) (tgt := 17) C (dm_Pr_resultSort 3 rfl) rfl (by decide) (fun c5 => ?_) (fun c5 => ?_)
  · refine gi_iconst (q := 18) (v := 0) C (dm_Pr_resultSort 9 rfl) rfl (by decide) ?_
    refine gi_iret C hr (dm_Pr_resultSort 10 rfl) ?_
    refine ⟨?_, rfl, rfl⟩
    simp_all [bI_0, bI_n0]
  · refine gi_aload_n (q := 9) (i := 0) C (dm_Pr_resultSort 4 rfl) rfl rfl rfl ?_
    refine gi_get (q := 12) C (dm_Pr_resultSort 5 rfl) rfl fl_Pr_21 (by assumption) rfl ?_
    refine gi_iload_n (q := 13) (i := 1) C (dm_Pr_resultSort 6 rfl) rfl rfl rfl ?_
    refine gi_iald (q := 14) C (dm_Pr_resultSort 7 rfl) rfl rfl (by assumption) (in_nI (isM_t (bI_n0.mp (by assumption))).1 (isM_t (bI_n0.mp (by assumption))).2 (by omega) (by omega)) ?_
    refine gi_goto (tgt := 18) C (dm_Pr_resultSort 8 rfl) (by decide) ?_
    refine gi_iret C hr (dm_Pr_resultSort 10 rfl) ?_
    refine ⟨?_, rfl, rfl⟩
    simp_all [bI_0, bI_n0]
set_option maxHeartbeats 4000000 in
set_option maxRecDepth 100000 in
theorem c_Pr_lengthOf (m : Int32) (hk : k ≤ 8) (H : pr_at a (nI k) F h) : gi_T l V y_Pr_lengthOf b_Pr_lengthOf 2 (some .int) 1 21 0 0 [.ref a, .int m] n h (gi_is (some (.int (if isM k m = true then F 5 m.toNatClampNeg else 0))) n h) := by
  refine gi_enter (by decide) (Nat.le_of_ble_eq_true rfl) ?_
  intro p e s m args below meth c C hr hnm
  obtain ⟨H0, H1, H2, H3, H4, H5, H6, H7⟩ := id H
  refine gi_aload_n (q := 1) (i := 0) C (dm_Pr_lengthOf 0 rfl) rfl rfl rfl ?_
  refine gi_iload_n (q := 2) (i := 1) C (dm_Pr_lengthOf 1 rfl) rfl rfl rfl ?_
  refine gi_callv 1 (q := 5) C (dm_Pr_lengthOf 2 rfl) rfl my_Pr_hasMethod lk_Pr_37 im_Pr_hasMethod rfl (c_Pr_hasMethod _ (by omega) H) H0 rfl rfl ⟨(Nat.le_of_ble_eq_true rfl), (Nat.le_of_ble_eq_true rfl)⟩ (Nat.le_of_ble_eq_true rfl) ⟨(Nat.le_of_ble_eq_true rfl), (Nat.le_of_ble_eq_true rfl)⟩ (fun r2 n2 h2 e2 => ?_)
  obtain ⟨rfl, rfl, rfl⟩ := e2
  refine gi_if_eq (q := 8) (tgt := 17) C (dm_Pr_lengthOf 3 rfl) rfl (by decide) (fun c5 => ?_) (fun c5 => ?_)
  · refine gi_iconst (q := 18) (v := 0) C (dm_Pr_lengthOf 9 rfl) rfl (by decide) ?_
    refine gi_iret C hr (dm_Pr_lengthOf 10 rfl) ?_
    refine ⟨?_, rfl, rfl⟩
    simp_all [bI_0, bI_n0]
  · refine gi_aload_n (q := 9) (i := 0) C (dm_Pr_lengthOf 4 rfl) rfl rfl rfl ?_
    refine gi_get (q := 12) C (dm_Pr_lengthOf 5 rfl) rfl fl_Pr_24 (by assumption) rfl ?_
    refine gi_iload_n (q := 13) (i := 1) C (dm_Pr_lengthOf 6 rfl) rfl rfl rfl ?_
    refine gi_iald (q := 14) C (dm_Pr_lengthOf 7 rfl) rfl rfl (by assumption) (in_nI (isM_t (bI_n0.mp (by assumption))).1 (isM_t (bI_n0.mp (by assumption))).2 (by omega) (by omega)) ?_
    refine gi_goto (tgt := 18) C (dm_Pr_lengthOf 8 rfl) (by decide) ?_
    refine gi_iret C hr (dm_Pr_lengthOf 10 rfl) ?_
    refine ⟨?_, rfl, rfl⟩
    simp_all [bI_0, bI_n0]
set_option maxHeartbeats 4000000 in
set_option maxRecDepth 100000 in
theorem c_Pr_hasPlace (m q : Int32) (hk : k ≤ 8) (H : pr_at a (nI k) F h) : gi_T l V y_Pr_hasPlace b_Pr_hasPlace 3 (some .boolean) 1 21 0 0 [.ref a, .int m, .int q] n h (gi_is (some (.int (bI (isP k F m q)))) n h) := by
  refine gi_enter (by decide) (Nat.le_of_ble_eq_true rfl) ?_
  intro p e s m args below meth c C hr hnm
  obtain ⟨H0, H1, H2, H3, H4, H5, H6, H7⟩ := id H
  refine gi_aload_n (q := 1) (i := 0) C (dm_Pr_hasPlace 0 rfl) rfl rfl rfl ?_
  refine gi_iload_n (q := 2) (i := 1) C (dm_Pr_hasPlace 1 rfl) rfl rfl rfl ?_
  refine gi_callv 1 (q := 5) C (dm_Pr_hasPlace 2 rfl) rfl my_Pr_hasMethod lk_Pr_37 im_Pr_hasMethod rfl (c_Pr_hasMethod _ (by omega) H) H0 rfl rfl ⟨(Nat.le_of_ble_eq_true rfl), (Nat.le_of_ble_eq_true rfl)⟩ (Nat.le_of_ble_eq_true rfl) ⟨(Nat.le_of_ble_eq_true rfl), (Nat.le_of_ble_eq_true rfl)⟩ (fun r2 n2 h2 e2 => ?_)
  obtain ⟨rfl, rfl, rfl⟩ := e2
  refine gi_if_eq (q := 8) (tgt := 26) C (dm_Pr_hasPlace 3 rfl) rfl (by decide) (fun c5 => ?_) (fun c5 => ?_)
  · refine gi_iconst (q := 27) (v := 0) C (dm_Pr_hasPlace 14 rfl) rfl (by decide) ?_
    refine gi_zret C hr (dm_Pr_hasPlace 15 rfl) rfl ?_
    refine ⟨?_, rfl, rfl⟩
    simp_all [isP, bI, bI_0, bI_n0, Int32.not_lt, Int32.not_le]
    try (intros; simp only [Int32.lt_iff_toInt_lt, Int32.le_iff_toInt_le] at *; omega)
  · refine gi_iload_n (q := 9) (i := 2) C (dm_Pr_hasPlace 4 rfl) rfl rfl rfl ?_
    refine gi_if_lt (q := 12) (tgt := 26) C (dm_Pr_hasPlace 5 rfl) rfl (by decide) (fun c9 => ?_) (fun c9 => ?_)
    · refine gi_iconst (q := 27) (v := 0) C (dm_Pr_hasPlace 14 rfl) rfl (by decide) ?_
      refine gi_zret C hr (dm_Pr_hasPlace 15 rfl) rfl ?_
      refine ⟨?_, rfl, rfl⟩
      simp_all [isP, bI, bI_0, bI_n0, Int32.not_lt, Int32.not_le]
      try (intros; simp only [Int32.lt_iff_toInt_lt, Int32.le_iff_toInt_le] at *; omega)
    · refine gi_iload_n (q := 13) (i := 2) C (dm_Pr_hasPlace 6 rfl) rfl rfl rfl ?_
      refine gi_aload_n (q := 14) (i := 0) C (dm_Pr_hasPlace 7 rfl) rfl rfl rfl ?_
      refine gi_get (q := 17) C (dm_Pr_hasPlace 8 rfl) rfl fl_Pr_24 (by assumption) rfl ?_
      refine gi_iload_n (q := 18) (i := 1) C (dm_Pr_hasPlace 9 rfl) rfl rfl rfl ?_
      refine gi_iald (q := 19) C (dm_Pr_hasPlace 10 rfl) rfl rfl (by assumption) (in_nI (isM_t (bI_n0.mp (by assumption))).1 (isM_t (bI_n0.mp (by assumption))).2 (by omega) (by omega)) ?_
      refine gi_icmp_ge (q := 22) (tgt := 26) C (dm_Pr_hasPlace 11 rfl) rfl (by decide) (fun c19 => ?_) (fun c19 => ?_)
      · refine gi_iconst (q := 27) (v := 0) C (dm_Pr_hasPlace 14 rfl) rfl (by decide) ?_
        refine gi_zret C hr (dm_Pr_hasPlace 15 rfl) rfl ?_
        refine ⟨?_, rfl, rfl⟩
        simp_all [isP, bI, bI_0, bI_n0, Int32.not_lt, Int32.not_le]
        try (intros; simp only [Int32.lt_iff_toInt_lt, Int32.le_iff_toInt_le] at *; omega)
      · refine gi_iconst (q := 23) (v := 1) C (dm_Pr_hasPlace 12 rfl) rfl (by decide) ?_
        refine gi_goto (tgt := 27) C (dm_Pr_hasPlace 13 rfl) (by decide) ?_
        refine gi_zret C hr (dm_Pr_hasPlace 15 rfl) rfl ?_
        refine ⟨?_, rfl, rfl⟩
        simp_all [isP, bI, bI_0, bI_n0, Int32.not_lt, Int32.not_le]
        try (intros; simp only [Int32.lt_iff_toInt_lt, Int32.le_iff_toInt_le] at *; omega)
set_option maxHeartbeats 4000000 in
set_option maxRecDepth 100000 in
theorem c_Pr_holdsArray (m i : Int32) (hk : k ≤ 8) (H : pr_at a (nI k) F h) : gi_T l V y_Pr_holdsArray b_Pr_holdsArray 3 (some .boolean) 1 21 0 0 [.ref a, .int m, .int i] n h (gi_is (some (.int (bI (isM k m && decide ((F 3 m.toNatClampNeg >>> (i &&& 31)) &&& 1 = 1))))) n h) := by
  refine gi_enter (by decide) (Nat.le_of_ble_eq_true rfl) ?_
  intro p e s m args below meth c C hr hnm
  obtain ⟨H0, H1, H2, H3, H4, H5, H6, H7⟩ := id H
  refine gi_aload_n (q := 1) (i := 0) C (dm_Pr_holdsArray 0 rfl) rfl rfl rfl ?_
  refine gi_iload_n (q := 2) (i := 1) C (dm_Pr_holdsArray 1 rfl) rfl rfl rfl ?_
  refine gi_callv 1 (q := 5) C (dm_Pr_holdsArray 2 rfl) rfl my_Pr_hasMethod lk_Pr_37 im_Pr_hasMethod rfl (c_Pr_hasMethod _ (by omega) H) H0 rfl rfl ⟨(Nat.le_of_ble_eq_true rfl), (Nat.le_of_ble_eq_true rfl)⟩ (Nat.le_of_ble_eq_true rfl) ⟨(Nat.le_of_ble_eq_true rfl), (Nat.le_of_ble_eq_true rfl)⟩ (fun r2 n2 h2 e2 => ?_)
  obtain ⟨rfl, rfl, rfl⟩ := e2
  refine gi_if_eq (q := 8) (tgt := 26) C (dm_Pr_holdsArray 3 rfl) rfl (by decide) (fun c5 => ?_) (fun c5 => ?_)
  · refine gi_iconst (q := 27) (v := 0) C (dm_Pr_holdsArray 16 rfl) rfl (by decide) ?_
    refine gi_zret C hr (dm_Pr_holdsArray 17 rfl) rfl ?_
    refine ⟨?_, rfl, rfl⟩
    simp_all [bI, bI_0, bI_n0]
  · refine gi_aload_n (q := 9) (i := 0) C (dm_Pr_holdsArray 4 rfl) rfl rfl rfl ?_
    refine gi_get (q := 12) C (dm_Pr_holdsArray 5 rfl) rfl fl_Pr_18 (by assumption) rfl ?_
    refine gi_iload_n (q := 13) (i := 1) C (dm_Pr_holdsArray 6 rfl) rfl rfl rfl ?_
    refine gi_iald (q := 14) C (dm_Pr_holdsArray 7 rfl) rfl rfl (by assumption) (in_nI (isM_t (bI_n0.mp (by assumption))).1 (isM_t (bI_n0.mp (by assumption))).2 (by omega) (by omega)) ?_
    refine gi_iload_n (q := 15) (i := 2) C (dm_Pr_holdsArray 8 rfl) rfl rfl rfl ?_
    refine gi_ishr (q := 16) C (dm_Pr_holdsArray 9 rfl) rfl ?_
    refine gi_iconst (q := 17) (v := 1) C (dm_Pr_holdsArray 10 rfl) rfl (by decide) ?_
    refine gi_iand (q := 18) C (dm_Pr_holdsArray 11 rfl) rfl ?_
    refine gi_iconst (q := 19) (v := 1) C (dm_Pr_holdsArray 12 rfl) rfl (by decide) ?_
    refine gi_icmp_ne (q := 22) (tgt := 26) C (dm_Pr_holdsArray 13 rfl) rfl (by decide) (fun c19 => ?_) (fun c19 => ?_)
    · refine gi_iconst (q := 27) (v := 0) C (dm_Pr_holdsArray 16 rfl) rfl (by decide) ?_
      refine gi_zret C hr (dm_Pr_holdsArray 17 rfl) rfl ?_
      refine ⟨?_, rfl, rfl⟩
      simp_all [bI, bI_0, bI_n0]
    · refine gi_iconst (q := 23) (v := 1) C (dm_Pr_holdsArray 14 rfl) rfl (by decide) ?_
      refine gi_goto (tgt := 27) C (dm_Pr_holdsArray 15 rfl) (by decide) ?_
      refine gi_zret C hr (dm_Pr_holdsArray 17 rfl) rfl ?_
      refine ⟨?_, rfl, rfl⟩
      simp_all [bI, bI_0, bI_n0]
/-- the numbers of instructions are 0 .. 60 -/
def prL (k : Nat) (F : Nat → Nat → Int32) : Prop := ∀ j, j < k → ∃ q : Nat, q ≤ 60 ∧ F 5 j = nI q
theorem isM_nI {k : Nat} {m : Int32} (hk : k ≤ 8) (h : isM k m = true) : ∃ j : Nat, j < k ∧ m = nI j := by
  obtain ⟨h0, h1⟩ := isM_t h
  have := in_nI h0 h1 (Nat.le_refl k) (by omega)
  obtain ⟨j, hj, e⟩ := vp_in_of this (by omega)
  exact ⟨j, hj, e⟩
theorem isP_nI {k : Nat} {F : Nat → Nat → Int32} {m q : Int32} (hk : k ≤ 8) (hL : prL k F) (h : isP k F m q = true) : ∃ j p : Nat, j < k ∧ m = nI j ∧ p < 60 ∧ q = nI p ∧ nI p < F 5 j := by
  simp only [isP, Bool.and_eq_true, decide_eq_true_eq] at h
  obtain ⟨⟨h1, h2⟩, h3⟩ := h
  obtain ⟨j, hj, rfl⟩ := isM_nI hk h1
  rw [nI_clamp (by omega)] at h3
  obtain ⟨z, hz, e⟩ := hL j hj
  obtain ⟨p, hp, rfl⟩ := vp_in_of (in_nI h2 (by rw [e] at h3; exact h3) (Nat.le_refl z) (by omega)) (by omega)
  exact ⟨j, p, hj, rfl, by omega, rfl, h3⟩
theorem isP_in {k : Nat} {F : Nat → Nat → Int32} {m q : Int32} (hk : k ≤ 8) (hL : prL k F) (h : isP k F m q = true) : vp_in (m * 60 + q) 480 := by
  obtain ⟨j, p, hj, rfl, hp, rfl, -⟩ := isP_nI hk hL h
  rw [show (60 : Int32) = nI 60 from rfl, pk_mul, nI_add]
  exact vp_in_nI (by omega) (by omega)
set_option maxHeartbeats 4000000 in
set_option maxRecDepth 100000 in
theorem c_Pr_opAt (m q : Int32) (hk : k ≤ 8) (hL : prL k F) (H : pr_at a (nI k) F h) : gi_T l V y_Pr_opAt b_Pr_opAt 3 (some .int) 2 43 0 0 [.ref a, .int m, .int q] n h (gi_is (some (.int (if isP k F m q = true then F 6 (m * 60 + q).toNatClampNeg else -1))) n h) := by
  refine gi_enter (by decide) (Nat.le_of_ble_eq_true rfl) ?_
  intro p e s m args below meth c C hr hnm
  obtain ⟨H0, H1, H2, H3, H4, H5, H6, H7⟩ := id H
  refine gi_aload_n (q := 1) (i := 0) C (dm_Pr_opAt 0 rfl) rfl rfl rfl ?_
  refine gi_iload_n (q := 2) (i := 1) C (dm_Pr_opAt 1 rfl) rfl rfl rfl ?_
  refine gi_iload_n (q := 3) (i := 2) C (dm_Pr_opAt 2 rfl) rfl rfl rfl ?_
  refine gi_callv 2 (q := 6) C (dm_Pr_opAt 3 rfl) rfl my_Pr_hasPlace lk_Pr_41 im_Pr_hasPlace rfl (c_Pr_hasPlace _ _ (by omega) H) H0 rfl rfl ⟨(Nat.le_of_ble_eq_true rfl), (Nat.le_of_ble_eq_true rfl)⟩ (Nat.le_of_ble_eq_true rfl) ⟨(Nat.le_of_ble_eq_true rfl), (Nat.le_of_ble_eq_true rfl)⟩ (fun r3 n3 h3 e3 => ?_)
  obtain ⟨rfl, rfl, rfl⟩ := e3
  refine gi_if_eq (q := 9) (tgt := 23) C (dm_Pr_opAt 4 rfl) rfl (by decide) (fun c6 => ?_) (fun c6 => ?_)
  · refine gi_iconst (q := 24) (v := -1) C (dm_Pr_opAt 14 rfl) rfl (by decide) ?_
    refine gi_iret C hr (dm_Pr_opAt 15 rfl) ?_
    refine ⟨?_, rfl, rfl⟩
    simp_all [bI_0, bI_n0]
  · refine gi_aload_n (q := 10) (i := 0) C (dm_Pr_opAt 5 rfl) rfl rfl rfl ?_
    refine gi_get (q := 13) C (dm_Pr_opAt 6 rfl) rfl fl_Pr_27 (by assumption) rfl ?_
    refine gi_iload_n (q := 14) (i := 1) C (dm_Pr_opAt 7 rfl) rfl rfl rfl ?_
    refine gi_bipush (q := 16) (v := 60) C (dm_Pr_opAt 8 rfl) rfl (by decide) ?_
    refine gi_imul (q := 17) C (dm_Pr_opAt 9 rfl) rfl ?_
    refine gi_iload_n (q := 18) (i := 2) C (dm_Pr_opAt 10 rfl) rfl rfl rfl ?_
    refine gi_iadd (q := 19) C (dm_Pr_opAt 11 rfl) rfl ?_
    refine gi_iald (q := 20) C (dm_Pr_opAt 12 rfl) rfl rfl (by assumption) (isP_in hk hL (bI_n0.mp (by assumption))) ?_
    refine gi_goto (tgt := 24) C (dm_Pr_opAt 13 rfl) (by decide) ?_
    refine gi_iret C hr (dm_Pr_opAt 15 rfl) ?_
    refine ⟨?_, rfl, rfl⟩
    simp_all [bI_0, bI_n0]
set_option maxHeartbeats 4000000 in
set_option maxRecDepth 100000 in
theorem c_Pr_operandAt (m q : Int32) (hk : k ≤ 8) (hL : prL k F) (H : pr_at a (nI k) F h) : gi_T l V y_Pr_operandAt b_Pr_operandAt 3 (some .int) 2 43 0 0 [.ref a, .int m, .int q] n h (gi_is (some (.int (if isP k F m q = true then F 7 (m * 60 + q).toNatClampNeg else 0))) n h) := by
  refine gi_enter (by decide) (Nat.le_of_ble_eq_true rfl) ?_
  intro p e s m args below meth c C hr hnm
  obtain ⟨H0, H1, H2, H3, H4, H5, H6, H7⟩ := id H
  refine gi_aload_n (q := 1) (i := 0) C (dm_Pr_operandAt 0 rfl) rfl rfl rfl ?_
  refine gi_iload_n (q := 2) (i := 1) C (dm_Pr_operandAt 1 rfl) rfl rfl rfl ?_
  refine gi_iload_n (q := 3) (i := 2) C (dm_Pr_operandAt 2 rfl) rfl rfl rfl ?_
  refine gi_callv 2 (q := 6) C (dm_Pr_operandAt 3 rfl) rfl my_Pr_hasPlace lk_Pr_41 im_Pr_hasPlace rfl (c_Pr_hasPlace _ _ (by omega) H) H0 rfl rfl ⟨(Nat.le_of_ble_eq_true rfl), (Nat.le_of_ble_eq_true rfl)⟩ (Nat.le_of_ble_eq_true rfl) ⟨(Nat.le_of_ble_eq_true rfl), (Nat.le_of_ble_eq_true rfl)⟩ (fun r3 n3 h3 e3 => ?_)
  obtain ⟨rfl, rfl, rfl⟩ := e3
  refine gi_if_eq (q := 9) (tgt := 23) C (dm_Pr_operandAt 4 rfl) rfl (by decide) (fun c6 => ?_) (fun c6 => ?_)
  · refine gi_iconst (q := 24) (v := 0) C (dm_Pr_operandAt 14 rfl) rfl (by decide) ?_
    refine gi_iret C hr (dm_Pr_operandAt 15 rfl) ?_
    refine ⟨?_, rfl, rfl⟩
    simp_all [bI_0, bI_n0]
  · refine gi_aload_n (q := 10) (i := 0) C (dm_Pr_operandAt 5 rfl) rfl rfl rfl ?_
    refine gi_get (q := 13) C (dm_Pr_operandAt 6 rfl) rfl fl_Pr_30 (by assumption) rfl ?_
    refine gi_iload_n (q := 14) (i := 1) C (dm_Pr_operandAt 7 rfl) rfl rfl rfl ?_
    refine gi_bipush (q := 16) (v := 60) C (dm_Pr_operandAt 8 rfl) rfl (by decide) ?_
    refine gi_imul (q := 17) C (dm_Pr_operandAt 9 rfl) rfl ?_
    refine gi_iload_n (q := 18) (i := 2) C (dm_Pr_operandAt 10 rfl) rfl rfl rfl ?_
    refine gi_iadd (q := 19) C (dm_Pr_operandAt 11 rfl) rfl ?_
    refine gi_iald (q := 20) C (dm_Pr_operandAt 12 rfl) rfl rfl (by assumption) (isP_in hk hL (bI_n0.mp (by assumption))) ?_
    refine gi_goto (tgt := 24) C (dm_Pr_operandAt 13 rfl) (by decide) ?_
    refine gi_iret C hr (dm_Pr_operandAt 15 rfl) ?_
    refine ⟨?_, rfl, rfl⟩
    simp_all [bI_0, bI_n0]
end PR1
