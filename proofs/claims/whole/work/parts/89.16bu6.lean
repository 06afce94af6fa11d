-- needs: 89.15 43
section BU6
variable {l : Launch} {V : gi_V} {n : Nat} {h h' h0 : gi_H} {bu pr k m i t : Nat} {S : Nat → Int32} {F : Nat → Nat → Int32} {P : Pm} {s : Nat → Option Sh} {a : Int32}
/-- a jump back to q -/
def jpT (P : Pm) (m q i : Nat) : Bool := decide (19 ≤ pN P 6 (60 * m + i)) && (decide (pN P 6 (60 * m + i) ≤ 27) && (decide (pN P 7 (60 * m + i) = q) && decide (q ≤ i)))
def wdI (P : Pm) (m i q : Nat) : Bool := decide (q = 0) || (List.range i).any (jpT P m q)
theorem wdI_s {q : Nat} : wdI P m (i + 1) q = (wdI P m i q || jpT P m q i) := by
  unfold wdI
  rw [List.range_succ, List.any_append, Bool.or_assoc]
  simp
theorem wdF_I (W : wfP k P) (hm : m < k) {q : Nat} (hq : q < pN P 5 m) : wdF k P (60 * m + q) = wdI P m (pN P 5 m) q := by
  have wm := wf_ar W hm
  unfold wdF wdI
  rw [show (60 * m + q) / 60 = m by omega, show (60 * m + q) % 60 = q by omega]
  congr 1
  rw [Bool.eq_iff_iff, List.any_eq_true, List.any_eq_true]
  constructor
  · rintro ⟨i, hi, h⟩
    rw [Bool.and_eq_true] at h
    have v := vldB_iff.mp h.1
    have hi := List.mem_range.mp hi
    refine ⟨i, List.mem_range.mpr ?_, h.2⟩
    have v2 := v.2
    rw [show (60 * m + i) / 60 = m by omega, show (60 * m + i) % 60 = i by omega] at v2
    exact v2
  · rintro ⟨i, hi, h⟩
    have hi := List.mem_range.mp hi
    refine ⟨i, List.mem_range.mpr (by omega), ?_⟩
    rw [Bool.and_eq_true]
    exact ⟨(isSi_v (s := fun _ => none) W hm hi).1, h⟩
def frD (F F' : Nat → Nat → Int32) : Prop := ∀ j, j ≠ 9 → F' j = F j
set_option maxHeartbeats 4000000 in
set_option maxRecDepth 100000 in
theorem c_Bu_findWidePlaces (W : wfP k P) (HP : pr_at pr (nI k) P h) (dp : pr + 8 ≤ bu ∨ bu + 8 ≤ pr) (hod : ∀ m i, m < k → i < pN P 5 m → opdOk k P m (pN P 6 (60 * m + i)) (P 7 (60 * m + i))) (Q : buO bu pr h0 S F h) : gi_T l V y_Bu_findWidePlaces b_Bu_findWidePlaces 5 none 3 65 0 0 [.ref bu] n h (fun v n' h' => v = none ∧ n' = n ∧ ∃ F', buO bu pr h0 S F' h' ∧ frD F F' ∧ ∀ m i, m < k → i < pN P 5 m → F' 9 (60 * m + i) = bI (wdF k P (60 * m + i))) := by
  refine gi_enter (by decide) (Nat.le_of_ble_eq_true rfl) ?_
  intro _ _ _ _ _ _ _ _ C hr hnm
  have w8 := W.k8
  refine gi_iconst (q := 1) (v := 0) C (dm_Bu_findWidePlaces 0 rfl) rfl (by decide) ?_
  refine gi_istore_n (q := 2) (i := 1) C (dm_Bu_findWidePlaces 1 rfl) rfl rfl (Nat.le_of_ble_eq_true rfl) ?_
  refine gi_while (σ := Nat) (fun m => k - m) (fun m => [(1, .int (nI m)), (0, .ref bu)]) (fun _ => n) (fun _ => 0) (fun _ => 0) (fun m y => m ≤ k ∧ ∃ F1, buO bu pr h0 S F1 y ∧ frD F F1 ∧ ∀ m' i', m' < m → i' < pN P 5 m' → F1 9 (60 * m' + i') = bI (wdF k P (60 * m' + i'))) 0 ⟨Nat.zero_le _, F, Q, fun _ _ => rfl, fun m' i' h1 _ => absurd h1 (by omega)⟩ ?_ (List.forall_mem_cons.mpr ⟨rfl, List.forall_mem_cons.mpr ⟨rfl, fun _ h => absurd h List.not_mem_nil⟩⟩) rfl rfl rfl
  rintro m y' ⟨hm', F1, QJ, fr, hO⟩ ih1
  try dsimp only at *
  have HPJ := HP.keep2 (h' := y') (fun b b1 b2 => by rw [QJ.2 b (by omega), Q.2 b (by omega)])
  refine gi_iload_n (q := 3) (i := 1) C (dm_Bu_findWidePlaces 2 rfl) rfl rfl rfl ?_
  refine gi_aload_n (q := 4) (i := 0) C (dm_Bu_findWidePlaces 3 rfl) rfl rfl rfl ?_
  refine gi_get (q := 7) C (dm_Bu_findWidePlaces 4 rfl) rfl fl_Bu_34 QJ.ob rfl ?_
  refine gi_get (q := 10) C (dm_Bu_findWidePlaces 5 rfl) rfl fl_Bu_54 HPJ.1 rfl ?_
  refine gi_icmp_ge (q := 13) (tgt := 144) C (dm_Bu_findWidePlaces 6 rfl) rfl (by decide) (fun c10 => ?_) (fun c10 => ?_)
  · refine gi_vret C hr (dm_Bu_findWidePlaces 78 rfl) ?_
    have hik : k = m := by
      rcases Nat.lt_or_ge m k with q | q
      · exact absurd c10 (Int32.not_le.mpr (nI_lt q (by omega)))
      · omega
    subst hik
    exact ⟨rfl, rfl, F1, QJ, fr, hO⟩
  · have hlt : m < k := by
      rcases Nat.lt_or_ge m k with q | q
      · exact q
      · exact absurd (nI_le q (by omega)) c10
    have hm := hlt
    have wm := wf_ar W hm
    clear hlt
    refine gi_iconst (q := 14) (v := 0) C (dm_Bu_findWidePlaces 7 rfl) rfl (by decide) ?_
    refine gi_istore_n (q := 15) (i := 2) C (dm_Bu_findWidePlaces 8 rfl) rfl rfl (Nat.le_of_ble_eq_true rfl) ?_
    refine gi_while (σ := Nat) (fun i => pN P 5 m - i) (fun i => [(2, .int (nI i)), (1, .int (nI m)), (0, .ref bu)]) (fun _ => n) (fun _ => 0) (fun _ => 0) (fun i y => i ≤ pN P 5 m ∧ ∃ F1, buO bu pr h0 S F1 y ∧ frD F F1 ∧ (∀ m' i', m' < m → i' < pN P 5 m' → F1 9 (60 * m' + i') = bI (wdF k P (60 * m' + i'))) ∧ ∀ q, q < i → F1 9 (60 * m + q) = bI (decide (q = 0))) 0 ⟨Nat.zero_le _, F1, QJ, fr, hO, fun q hq => absurd hq (by omega)⟩ ?_ (List.forall_mem_cons.mpr ⟨rfl, List.forall_mem_cons.mpr ⟨rfl, List.forall_mem_cons.mpr ⟨rfl, fun _ h => absurd h List.not_mem_nil⟩⟩⟩) rfl rfl rfl
    clear hO fr QJ HPJ
    rintro i y' ⟨hi, F1, QJ, fr, hO, hq1⟩ ih2
    try dsimp only at *
    have HPJ := HP.keep2 (h' := y') (fun b b1 b2 => by rw [QJ.2 b (by omega), Q.2 b (by omega)])
    refine gi_iload_n (q := 16) (i := 2) C (dm_Bu_findWidePlaces 9 rfl) rfl rfl rfl ?_
    refine gi_aload_n (q := 17) (i := 0) C (dm_Bu_findWidePlaces 10 rfl) rfl rfl rfl ?_
    refine gi_get (q := 20) C (dm_Bu_findWidePlaces 11 rfl) rfl fl_Bu_34 QJ.ob rfl ?_
    refine gi_iload_n (q := 21) (i := 1) C (dm_Bu_findWidePlaces 12 rfl) rfl rfl rfl ?_
    refine gi_callv 1 (q := 24) C (dm_Bu_findWidePlaces 13 rfl) rfl my_Pr_lengthOf lk_Bu_77 im_Pr_lengthOf rfl (q_len W hm HPJ) HPJ.1 rfl rfl ⟨(Nat.le_of_ble_eq_true rfl), (Nat.le_of_ble_eq_true rfl)⟩ (Nat.le_of_ble_eq_true rfl) ⟨(Nat.le_of_ble_eq_true rfl), (Nat.le_of_ble_eq_true rfl)⟩ (fun r21 n21 h21 e21 => ?_)
    obtain ⟨rfl, q21, u21⟩ := e21
    rw [q21, u21]
    refine gi_icmp_ge (q := 27) (tgt := 53) C (dm_Bu_findWidePlaces 14 rfl) rfl (by decide) (fun c24 => ?_) (fun c24 => ?_)
    · have hik : (pN P 5 m) = i := by
        rcases Nat.lt_or_ge i (pN P 5 m) with q | q
        · exact absurd c24 (Int32.not_le.mpr (nI_lt q (by omega)))
        · omega
      subst hik
      refine gi_iconst (q := 54) (v := 0) C (dm_Bu_findWidePlaces 30 rfl) rfl (by decide) ?_
      refine gi_istore_n (q := 55) (i := 2) C (dm_Bu_findWidePlaces 31 rfl) rfl rfl (Nat.le_of_ble_eq_true rfl) ?_
      refine gi_while (σ := Nat) (fun i => pN P 5 m - i) (fun i => [(2, .int (nI i)), (1, .int (nI m)), (0, .ref bu)]) (fun _ => n) (fun _ => 0) (fun _ => 0) (fun i y => i ≤ pN P 5 m ∧ ∃ F1, buO bu pr h0 S F1 y ∧ frD F F1 ∧ (∀ m' i', m' < m → i' < pN P 5 m' → F1 9 (60 * m' + i') = bI (wdF k P (60 * m' + i'))) ∧ ∀ q, q < pN P 5 m → F1 9 (60 * m + q) = bI (wdI P m i q)) 0 ⟨Nat.zero_le _, F1, QJ, fr, hO, fun q hq => by rw [hq1 q hq]; unfold wdI; simp⟩ ?_ (List.forall_mem_cons.mpr ⟨rfl, List.forall_mem_cons.mpr ⟨rfl, List.forall_mem_cons.mpr ⟨rfl, fun _ h => absurd h List.not_mem_nil⟩⟩⟩) rfl rfl rfl
      clear hq1 hO fr QJ HPJ
      rintro i y' ⟨hi, F1, QJ, fr, hO, hq1⟩ ih2
      try dsimp only at *
      have HPJ := HP.keep2 (h' := y') (fun b b1 b2 => by rw [QJ.2 b (by omega), Q.2 b (by omega)])
      refine gi_iload_n (q := 56) (i := 2) C (dm_Bu_findWidePlaces 32 rfl) rfl rfl rfl ?_
      refine gi_aload_n (q := 57) (i := 0) C (dm_Bu_findWidePlaces 33 rfl) rfl rfl rfl ?_
      refine gi_get (q := 60) C (dm_Bu_findWidePlaces 34 rfl) rfl fl_Bu_34 QJ.ob rfl ?_
      refine gi_iload_n (q := 61) (i := 1) C (dm_Bu_findWidePlaces 35 rfl) rfl rfl rfl ?_
      refine gi_callv 1 (q := 64) C (dm_Bu_findWidePlaces 36 rfl) rfl my_Pr_lengthOf lk_Bu_77 im_Pr_lengthOf rfl (q_len W hm HPJ) HPJ.1 rfl rfl ⟨(Nat.le_of_ble_eq_true rfl), (Nat.le_of_ble_eq_true rfl)⟩ (Nat.le_of_ble_eq_true rfl) ⟨(Nat.le_of_ble_eq_true rfl), (Nat.le_of_ble_eq_true rfl)⟩ (fun r61 n61 h61 e61 => ?_)
      obtain ⟨rfl, q61, u61⟩ := e61
      rw [q61, u61]
      refine gi_icmp_ge (q := 67) (tgt := 138) C (dm_Bu_findWidePlaces 37 rfl) rfl (by decide) (fun c64 => ?_) (fun c64 => ?_)
      · have hik : (pN P 5 m) = i := by
          rcases Nat.lt_or_ge i (pN P 5 m) with q | q
          · exact absurd c64 (Int32.not_le.mpr (nI_lt q (by omega)))
          · omega
        subst hik
        refine gi_iinc (q := 141) (v := 1) C (dm_Bu_findWidePlaces 76 rfl) rfl rfl (by decide) (Nat.le_of_ble_eq_true rfl) ?_
        refine gi_goto (tgt := 2) C (dm_Bu_findWidePlaces 77 rfl) (by decide) ?_
        refine gi_close (ih1 (m + 1) _ ⟨hm, F1, QJ, fr, fun m' i' h1 h2 => ?_⟩ (by omega)) (List.forall_mem_cons.mpr ⟨(congrArg (fun x => some (Value.int x)) (nI_1 m)), List.forall_mem_cons.mpr ⟨rfl, fun _ h => absurd h List.not_mem_nil⟩⟩) rfl rfl rfl
        by_cases z : m' = m
        · subst z
          rw [wdF_I W hm h2]
          exact hq1 i' h2
        · exact hO m' i' (by omega) h2
      · have hlt : i < (pN P 5 m) := by
          rcases Nat.lt_or_ge i (pN P 5 m) with q | q
          · exact q
          · exact absurd (nI_le q (by omega)) c64
        have wo := wf_op W hm hlt
        refine gi_aload_n (q := 68) (i := 0) C (dm_Bu_findWidePlaces 38 rfl) rfl rfl rfl ?_
        refine gi_get (q := 71) C (dm_Bu_findWidePlaces 39 rfl) rfl fl_Bu_34 QJ.ob rfl ?_
        refine gi_iload_n (q := 72) (i := 1) C (dm_Bu_findWidePlaces 40 rfl) rfl rfl rfl ?_
        refine gi_iload_n (q := 73) (i := 2) C (dm_Bu_findWidePlaces 41 rfl) rfl rfl rfl ?_
        refine gi_callv 2 (q := 76) C (dm_Bu_findWidePlaces 42 rfl) rfl my_Pr_opAt lk_Bu_81 im_Pr_opAt rfl (q_op W hm hlt HPJ) HPJ.1 rfl rfl ⟨(Nat.le_of_ble_eq_true rfl), (Nat.le_of_ble_eq_true rfl)⟩ (Nat.le_of_ble_eq_true rfl) ⟨(Nat.le_of_ble_eq_true rfl), (Nat.le_of_ble_eq_true rfl)⟩ (fun r73 n73 h73 e73 => ?_)
        obtain ⟨rfl, q73, u73⟩ := e73
        rw [q73, u73]
        refine gi_istore_n (q := 77) (i := 3) C (dm_Bu_findWidePlaces 43 rfl) rfl rfl (Nat.le_of_ble_eq_true rfl) ?_
        refine gi_aload_n (q := 78) (i := 0) C (dm_Bu_findWidePlaces 44 rfl) rfl rfl rfl ?_
        refine gi_get (q := 81) C (dm_Bu_findWidePlaces 45 rfl) rfl fl_Bu_34 QJ.ob rfl ?_
        refine gi_iload_n (q := 82) (i := 1) C (dm_Bu_findWidePlaces 46 rfl) rfl rfl rfl ?_
        refine gi_iload_n (q := 83) (i := 2) C (dm_Bu_findWidePlaces 47 rfl) rfl rfl rfl ?_
        refine gi_callv 2 (q := 86) C (dm_Bu_findWidePlaces 48 rfl) rfl my_Pr_operandAt lk_Bu_85 im_Pr_operandAt rfl (q_opr W hm hlt HPJ) HPJ.1 rfl rfl ⟨(Nat.le_of_ble_eq_true rfl), (Nat.le_of_ble_eq_true rfl)⟩ (Nat.le_of_ble_eq_true rfl) ⟨(Nat.le_of_ble_eq_true rfl), (Nat.le_of_ble_eq_true rfl)⟩ (fun r83 n83 h83 e83 => ?_)
        obtain ⟨rfl, q83, u83⟩ := e83
        rw [q83, u83]
        refine gi_istore (q := 88) C (dm_Bu_findWidePlaces 49 rfl) rfl (Nat.le_of_ble_eq_true rfl) ?_
        refine gi_iload_n (q := 89) (i := 3) C (dm_Bu_findWidePlaces 50 rfl) rfl rfl rfl ?_
        refine gi_bipush (q := 91) (v := 19) C (dm_Bu_findWidePlaces 51 rfl) rfl (by decide) ?_
        refine gi_icmp_lt (q := 94) (tgt := 132) C (dm_Bu_findWidePlaces 52 rfl) rfl (by decide) (fun c91 => ?_) (fun c91 => ?_)
        · have nj : ∀ q, jpT P m q i = false := fun q => by
            unfold jpT
            rw [decide_eq_false (fun z => absurd (nI_le (a := 19) z (by omega)) (Int32.not_le.mpr c91)), Bool.false_and]
          refine gi_iinc (q := 135) (v := 1) C (dm_Bu_findWidePlaces 74 rfl) rfl rfl (by decide) (Nat.le_of_ble_eq_true rfl) ?_
          refine gi_goto (tgt := 55) C (dm_Bu_findWidePlaces 75 rfl) (by decide) ?_
          refine gi_close (ih2 (i + 1) _ ⟨hlt, F1, QJ, fr, hO, fun q hq => by rw [wdI_s, nj, Bool.or_false]; exact hq1 q hq⟩ (by omega)) (List.forall_mem_cons.mpr ⟨(congrArg (fun x => some (Value.int x)) (nI_1 i)), List.forall_mem_cons.mpr ⟨rfl, List.forall_mem_cons.mpr ⟨rfl, fun _ h => absurd h List.not_mem_nil⟩⟩⟩) rfl rfl rfl
        · refine gi_iload_n (q := 95) (i := 3) C (dm_Bu_findWidePlaces 53 rfl) rfl rfl rfl ?_
          refine gi_bipush (q := 97) (v := 27) C (dm_Bu_findWidePlaces 54 rfl) rfl (by decide) ?_
          refine gi_icmp_gt (q := 100) (tgt := 132) C (dm_Bu_findWidePlaces 55 rfl) rfl (by decide) (fun c97 => ?_) (fun c97 => ?_)
          · have nj : ∀ q, jpT P m q i = false := fun q => by
              unfold jpT
              rw [decide_eq_false (show ¬ pN P 6 (60 * m + i) ≤ 27 from fun z => absurd (nI_le (b := 27) z (by omega)) (Int32.not_le.mpr c97)), Bool.false_and, Bool.and_false]
            refine gi_iinc (q := 135) (v := 1) C (dm_Bu_findWidePlaces 74 rfl) rfl rfl (by decide) (Nat.le_of_ble_eq_true rfl) ?_
            refine gi_goto (tgt := 55) C (dm_Bu_findWidePlaces 75 rfl) (by decide) ?_
            refine gi_close (ih2 (i + 1) _ ⟨hlt, F1, QJ, fr, hO, fun q hq => by rw [wdI_s, nj, Bool.or_false]; exact hq1 q hq⟩ (by omega)) (List.forall_mem_cons.mpr ⟨(congrArg (fun x => some (Value.int x)) (nI_1 i)), List.forall_mem_cons.mpr ⟨rfl, List.forall_mem_cons.mpr ⟨rfl, fun _ h => absurd h List.not_mem_nil⟩⟩⟩) rfl rfl rfl
          · have j1 : 19 ≤ pN P 6 (60 * m + i) := (nI_leI (a := 19) (by omega) (by omega)).mp (Int32.not_lt.mp c91)
            have j2 : pN P 6 (60 * m + i) ≤ 27 := (nI_leI (b := 27) (by omega) (by omega)).mp (Int32.not_lt.mp c97)
            have od := (hod m i hm hlt).2.1 ⟨j1, j2⟩
            have av := nn_nI od.1
            rw [show (P 7 (60 * m + i)).toNatClampNeg = pN P 7 (60 * m + i) from rfl] at av
            rw [av.1]
            have al : pN P 7 (60 * m + i) < pN P 5 m := by omega
            refine gi_iload (q := 102) C (dm_Bu_findWidePlaces 56 rfl) rfl rfl ?_
            refine gi_iload_n (q := 103) (i := 2) C (dm_Bu_findWidePlaces 57 rfl) rfl rfl rfl ?_
            refine gi_icmp_gt (q := 106) (tgt := 132) C (dm_Bu_findWidePlaces 58 rfl) rfl (by decide) (fun c103 => ?_) (fun c103 => ?_)
            · have nj : ∀ q, jpT P m q i = false := fun q => by
                unfold jpT
                have lt := (nI_ltI (a := i) (by omega) (by omega)).mp c103
                cases e : decide (pN P 7 (60 * m + i) = q) with
                | false => simp
                | true =>
                  have e := of_decide_eq_true e
                  rw [decide_eq_false (show ¬ q ≤ i by omega)]
                  simp
              refine gi_iinc (q := 135) (v := 1) C (dm_Bu_findWidePlaces 74 rfl) rfl rfl (by decide) (Nat.le_of_ble_eq_true rfl) ?_
              refine gi_goto (tgt := 55) C (dm_Bu_findWidePlaces 75 rfl) (by decide) ?_
              refine gi_close (ih2 (i + 1) _ ⟨hlt, F1, QJ, fr, hO, fun q hq => by rw [wdI_s, nj, Bool.or_false]; exact hq1 q hq⟩ (by omega)) (List.forall_mem_cons.mpr ⟨(congrArg (fun x => some (Value.int x)) (nI_1 i)), List.forall_mem_cons.mpr ⟨rfl, List.forall_mem_cons.mpr ⟨rfl, fun _ h => absurd h List.not_mem_nil⟩⟩⟩) rfl rfl rfl
            · refine gi_aload_n (q := 107) (i := 0) C (dm_Bu_findWidePlaces 59 rfl) rfl rfl rfl ?_
              refine gi_get (q := 110) C (dm_Bu_findWidePlaces 60 rfl) rfl fl_Bu_34 QJ.ob rfl ?_
              refine gi_iload_n (q := 111) (i := 1) C (dm_Bu_findWidePlaces 61 rfl) rfl rfl rfl ?_
              refine gi_iload (q := 113) C (dm_Bu_findWidePlaces 62 rfl) rfl rfl ?_
              refine gi_callv 2 (q := 116) C (dm_Bu_findWidePlaces 63 rfl) rfl my_Pr_hasPlace lk_Bu_73 im_Pr_hasPlace rfl (c_Pr_hasPlace (nI m) (nI (pN P 7 (60 * m + i))) W.k8 HPJ) HPJ.1 rfl rfl ⟨(Nat.le_of_ble_eq_true rfl), (Nat.le_of_ble_eq_true rfl)⟩ (Nat.le_of_ble_eq_true rfl) ⟨(Nat.le_of_ble_eq_true rfl), (Nat.le_of_ble_eq_true rfl)⟩ (fun r113 n113 h113 e113 => ?_)
              obtain ⟨rfl, q113, u113⟩ := e113
              rw [q113, u113]
              refine gi_if_eq (q := 119) (tgt := 132) C (dm_Bu_findWidePlaces 64 rfl) rfl (by decide) (fun c116 => ?_) (fun c116 => ?_)
              · rw [isP_d W hm (by omega), decide_eq_true al] at c116
                exact absurd c116 (by decide)
              · refine gi_aload_n (q := 120) (i := 0) C (dm_Bu_findWidePlaces 65 rfl) rfl rfl rfl ?_
                refine gi_get (q := 123) C (dm_Bu_findWidePlaces 66 rfl) rfl fl_Bu_22 QJ.ob rfl ?_
                refine gi_iload_n (q := 124) (i := 1) C (dm_Bu_findWidePlaces 67 rfl) rfl rfl rfl ?_
                refine gi_bipush (q := 126) (v := 60) C (dm_Bu_findWidePlaces 68 rfl) rfl (by decide) ?_
                refine gi_imul (q := 127) C (dm_Bu_findWidePlaces 69 rfl) rfl ?_
                refine gi_iload (q := 129) C (dm_Bu_findWidePlaces 70 rfl) rfl rfl ?_
                refine gi_iadd (q := 130) C (dm_Bu_findWidePlaces 71 rfl) rfl ?_
                rw [at_60]
                refine gi_iconst (q := 131) (v := 1) C (dm_Bu_findWidePlaces 72 rfl) rfl (by decide) ?_
                refine gi_zast (q := 132) C (dm_Bu_findWidePlaces 73 rfl) rfl rfl QJ.a9 (vp_in_nI (by omega) (by omega)) ?_
                have ai : pN P 7 (60 * m + i) ≤ i := (nI_leI (by omega) (by omega)).mp (Int32.not_lt.mp c103)
                rw [nI_clamp (show 60 * m + pN P 7 (60 * m + i) < 2 ^ 31 by omega)]
                have Q2 := QJ.s9 (upd (F1 9) (60 * m + pN P 7 (60 * m + i)) 1)
                refine gi_iinc (q := 135) (v := 1) C (dm_Bu_findWidePlaces 74 rfl) rfl rfl (by decide) (Nat.le_of_ble_eq_true rfl) ?_
                refine gi_goto (tgt := 55) C (dm_Bu_findWidePlaces 75 rfl) (by decide) ?_
                refine gi_close (ih2 (i + 1) _ ⟨hlt, _, Q2, fun j hj => by rw [← fr j hj]; simp [upA, hj], fun m' i' h1 h2 => ?_, fun q hq => ?_⟩ (by omega)) (List.forall_mem_cons.mpr ⟨(congrArg (fun x => some (Value.int x)) (nI_1 i)), List.forall_mem_cons.mpr ⟨rfl, List.forall_mem_cons.mpr ⟨rfl, fun _ h => absurd h List.not_mem_nil⟩⟩⟩) rfl rfl rfl
                · have wm' := wf_ar W (show m' < k by omega)
                  rw [← hO m' i' h1 h2]
                  simp [upA, upd, show 60 * m' + i' ≠ 60 * m + pN P 7 (60 * m + i) by omega]
                · rw [wdI_s]
                  have jq : jpT P m q i = decide (pN P 7 (60 * m + i) = q) := by
                    unfold jpT
                    rw [decide_eq_true j1, decide_eq_true j2, Bool.true_and, Bool.true_and]
                    by_cases z : pN P 7 (60 * m + i) = q
                    · rw [decide_eq_true z, decide_eq_true (show q ≤ i by omega)]
                      rfl
                    · rw [decide_eq_false z]
                      rfl
                  rw [jq]
                  by_cases z : pN P 7 (60 * m + i) = q
                  · subst z
                    simp [upA, upd, bI]
                  · rw [decide_eq_false z, Bool.or_false, ← hq1 q hq]
                    simp [upA, upd, show q ≠ pN P 7 (60 * m + i) from fun y => z y.symm]
    · have hlt : i < (pN P 5 m) := by
        rcases Nat.lt_or_ge i (pN P 5 m) with q | q
        · exact q
        · exact absurd (nI_le q (by omega)) c24
      refine gi_aload_n (q := 28) (i := 0) C (dm_Bu_findWidePlaces 15 rfl) rfl rfl rfl ?_
      refine gi_get (q := 31) C (dm_Bu_findWidePlaces 16 rfl) rfl fl_Bu_22 QJ.ob rfl ?_
      refine gi_iload_n (q := 32) (i := 1) C (dm_Bu_findWidePlaces 17 rfl) rfl rfl rfl ?_
      refine gi_bipush (q := 34) (v := 60) C (dm_Bu_findWidePlaces 18 rfl) rfl (by decide) ?_
      refine gi_imul (q := 35) C (dm_Bu_findWidePlaces 19 rfl) rfl ?_
      refine gi_iload_n (q := 36) (i := 2) C (dm_Bu_findWidePlaces 20 rfl) rfl rfl rfl ?_
      refine gi_iadd (q := 37) C (dm_Bu_findWidePlaces 21 rfl) rfl ?_
      rw [at_60]
      refine gi_iload_n (q := 38) (i := 2) C (dm_Bu_findWidePlaces 22 rfl) rfl rfl rfl ?_
      refine gi_if_ne (q := 41) (tgt := 45) C (dm_Bu_findWidePlaces 23 rfl) rfl (by decide) (fun c38 => ?_) (fun c38 => ?_)
      · refine gi_iconst (q := 46) (v := 0) C (dm_Bu_findWidePlaces 26 rfl) rfl (by decide) ?_
        refine gi_zast (q := 47) C (dm_Bu_findWidePlaces 27 rfl) rfl rfl QJ.a9 (vp_in_nI (by omega) (by omega)) ?_
        rw [nI_clamp (show 60 * m + i < 2 ^ 31 by omega)]
        have Q2 := QJ.s9 (upd (F1 9) (60 * m + i) 0)
        refine gi_iinc (q := 50) (v := 1) C (dm_Bu_findWidePlaces 28 rfl) rfl rfl (by decide) (Nat.le_of_ble_eq_true rfl) ?_
        refine gi_goto (tgt := 15) C (dm_Bu_findWidePlaces 29 rfl) (by decide) ?_
        refine gi_close (ih2 (i + 1) _ ⟨hlt, _, Q2, fun j hj => by rw [← fr j hj]; simp [upA, hj], fun m' i' h1 h2 => ?_, fun q hq => ?_⟩ (by omega)) (List.forall_mem_cons.mpr ⟨(congrArg (fun x => some (Value.int x)) (nI_1 i)), List.forall_mem_cons.mpr ⟨rfl, List.forall_mem_cons.mpr ⟨rfl, fun _ h => absurd h List.not_mem_nil⟩⟩⟩) rfl rfl rfl
        · have wm' := wf_ar W (show m' < k by omega)
          rw [← hO m' i' h1 h2]
          simp [upA, upd, show 60 * m' + i' ≠ 60 * m + i by omega]
        · by_cases z : q = i
          · subst z
            have e : decide (q = 0) = false := by
              first
                | exact decide_eq_true ((nI_eq (b := 0) (by omega) (by omega)).mp c38)
                | exact decide_eq_false (fun z => c38 (by rw [z]; rfl))
            rw [e]
            simp [upA, upd, bI]
          · rw [← hq1 q (by omega)]
            simp [upA, upd, z]
      · refine gi_iconst (q := 42) (v := 1) C (dm_Bu_findWidePlaces 24 rfl) rfl (by decide) ?_
        refine gi_goto (tgt := 46) C (dm_Bu_findWidePlaces 25 rfl) (by decide) ?_
        refine gi_zast (q := 47) C (dm_Bu_findWidePlaces 27 rfl) rfl rfl QJ.a9 (vp_in_nI (by omega) (by omega)) ?_
        rw [nI_clamp (show 60 * m + i < 2 ^ 31 by omega)]
        have Q2 := QJ.s9 (upd (F1 9) (60 * m + i) 1)
        refine gi_iinc (q := 50) (v := 1) C (dm_Bu_findWidePlaces 28 rfl) rfl rfl (by decide) (Nat.le_of_ble_eq_true rfl) ?_
        refine gi_goto (tgt := 15) C (dm_Bu_findWidePlaces 29 rfl) (by decide) ?_
        refine gi_close (ih2 (i + 1) _ ⟨hlt, _, Q2, fun j hj => by rw [← fr j hj]; simp [upA, hj], fun m' i' h1 h2 => ?_, fun q hq => ?_⟩ (by omega)) (List.forall_mem_cons.mpr ⟨(congrArg (fun x => some (Value.int x)) (nI_1 i)), List.forall_mem_cons.mpr ⟨rfl, List.forall_mem_cons.mpr ⟨rfl, fun _ h => absurd h List.not_mem_nil⟩⟩⟩) rfl rfl rfl
        · have wm' := wf_ar W (show m' < k by omega)
          rw [← hO m' i' h1 h2]
          simp [upA, upd, show 60 * m' + i' ≠ 60 * m + i by omega]
        · by_cases z : q = i
          · subst z
            have e : decide (q = 0) = true := by
              first
                | exact decide_eq_true ((nI_eq (b := 0) (by omega) (by omega)).mp c38)
                | exact decide_eq_false (fun z => c38 (by rw [z]; rfl))
            rw [e]
            simp [upA, upd, bI]
          · rw [← hq1 q (by omega)]
            simp [upA, upd, z]
def fltS (S : Nat → Int32) (e : Flt) : Prop := S 2 = nI e.1 ∧ S 3 = nI e.2.1 ∧ S 4 = nI e.2.2 ∧ e.1 ≠ 0 ∧ e.1 ≤ 6
theorem fltS.ne {e : Flt} (h : fltS S e) : ¬ S 2 = 0 := fun z => by
  rw [h.1] at z
  exact h.2.2.2.1 ((nI_eq (b := 0) (by have := h.2.2.2.2; omega) (by omega)).mp z)
theorem shA_inl {e : Flt} (h : shA P m = .inl e) : ∀ d, shA P (m + d) = .inl e
  | 0 => h
  | d + 1 => by
    have := shA_inl h d
    rw [← Nat.add_assoc, shA, this]
theorem shA_s1 (h : shA P m = .inr s) : shA P (m + 1) = meS P m s := by rw [shA, h]
theorem meS_out {s' : Nat → Option Sh} (W : wfP k P) (hm : m < k) (hI : shI k P m s) (h : meS P m s = .inr s') : ∀ p, p < 60 * m ∨ 60 * m + 60 ≤ p → s' p = s p := fun p hp => by
  unfold meS at h
  split at h
  · cases h
  · rename_i hl
    cases e : lpS P m 60 (st0 m s) with
    | inl e' => rw [e] at h; cases h
    | inr Z =>
      rw [e] at h
      have h := Sum.inr.inj h
      subst h
      have wm := wf_ar W hm
      have c : cnU P m (st0 m s) ≤ 60 := by
        unfold cnU
        refine Nat.le_trans (List.length_filter_le _ _) ?_
        rw [List.length_range]
        omega
      obtain ⟨⟨-, J2, -⟩, -⟩ := lpS_in W hm 60 (lpI_0 hm hl hI) c e
      rw [J2.2 p hp, upO_ne (by omega)]
theorem od_all (W : wfP k P) (h : odF k P = none) : ∀ m i, m < k → i < pN P 5 m → opdOk k P m (pN P 6 (60 * m + i)) (P 7 (60 * m + i)) := fun m i hm hi => by
  have wm := wf_ar W hm
  have w8 := W.k8
  have b : odBad k P (60 * m + i) = false := rng_none h (60 * m + i) (by omega)
  rw [odBad_v W hm hi] at b
  exact opdB_iff.mp (by simpa using b)
/-- while the methods are shaped -/
def mkI (bu pr k : Nat) (P : Pm) (h0 : gi_H) (S : Nat → Int32) (F : Nat → Nat → Int32) (m : Nat) (y : gi_H) : Prop := m ≤ k ∧ ∃ S1 F1, buO bu pr h0 S1 F1 y ∧ S1 0 = S 0 ∧ S1 1 = 1 ∧ ((∃ e, bldF k P = .inl e ∧ fltS S1 e) ∨ (odF k P = none ∧ ∃ s, shA P m = .inr s ∧ S1 2 = 0 ∧ ∀ m', m' < m → rpS P m' s F1))
/-- what a build leaves -/
def mkP (bu pr k : Nat) (P : Pm) (h0 : gi_H) (S : Nat → Int32) (v : Option Value) (h' : gi_H) : Prop := ∃ S' F', buO bu pr h0 S' F' h' ∧ ((∃ e, bldF k P = .inl e ∧ fltS S' e ∧ S' 0 = S 0 ∧ v = some (.int (-(nI e.1)))) ∨ (∃ s, bldF k P = .inr s ∧ S' 0 = 1 ∧ S' 1 = nI (1 + sct k P s 480) ∧ S' 2 = 0 ∧ v = some (.int (nI (1 + sct k P s 480))) ∧ siI k P s F' 480 ∧ ∀ m i, m < k → i < pN P 5 m → F' 9 (60 * m + i) = bI (wdF k P (60 * m + i))))
set_option maxHeartbeats 4000000 in
set_option maxRecDepth 100000 in
theorem c_Bu_make (W : wfP k P) (HP : pr_at pr (nI k) P h) (dp : pr + 8 ≤ bu ∨ bu + 8 ≤ pr) (Q : buO bu pr h S F h) : gi_T l V y_Bu_make b_Bu_make 2 (some .int) 5 117 0 0 [.ref bu] n h (fun v n' h' => n' = n ∧ mkP bu pr k P h S v h') := by
  refine gi_enter (by decide) (Nat.le_of_ble_eq_true rfl) ?_
  intro _ _ _ _ _ _ _ _ C hr hnm
  have w8 := W.k8
  refine gi_aload_n (q := 1) (i := 0) C (dm_Bu_make 0 rfl) rfl rfl rfl ?_
  refine gi_iconst (q := 2) (v := 0) C (dm_Bu_make 1 rfl) rfl (by decide) ?_
  refine gi_put (q := 5) C (dm_Bu_make 2 rfl) rfl fl_Bu_38 fp_Bu_2 (by first | exact gi_up_self _ _ _ | exact Q.ob) (Nat.le_of_ble_eq_true rfl) rfl rfl ?_
  refine gi_aload_n (q := 6) (i := 0) C (dm_Bu_make 3 rfl) rfl rfl rfl ?_
  refine gi_iconst (q := 7) (v := -1) C (dm_Bu_make 4 rfl) rfl (by decide) ?_
  refine gi_put (q := 10) C (dm_Bu_make 5 rfl) rfl fl_Bu_42 fp_Bu_3 (by first | exact gi_up_self _ _ _ | exact Q.ob) (Nat.le_of_ble_eq_true rfl) rfl rfl ?_
  refine gi_aload_n (q := 11) (i := 0) C (dm_Bu_make 6 rfl) rfl rfl rfl ?_
  refine gi_iconst (q := 12) (v := -1) C (dm_Bu_make 7 rfl) rfl (by decide) ?_
  refine gi_put (q := 15) C (dm_Bu_make 8 rfl) rfl fl_Bu_45 fp_Bu_4 (by first | exact gi_up_self _ _ _ | exact Q.ob) (Nat.le_of_ble_eq_true rfl) rfl rfl ?_
  refine gi_aload_n (q := 16) (i := 0) C (dm_Bu_make 9 rfl) rfl rfl rfl ?_
  refine gi_iconst (q := 17) (v := 1) C (dm_Bu_make 10 rfl) rfl (by decide) ?_
  refine gi_put (q := 20) C (dm_Bu_make 11 rfl) rfl fl_Bu_48 fp_Bu_1 (by first | exact gi_up_self _ _ _ | exact Q.ob) (Nat.le_of_ble_eq_true rfl) rfl rfl ?_
  rw [gi_up_up, gi_up_up, gi_up_up]
  have Q4 := Q.pO (upS (upS (upS (upS S 2 0) 3 (-1)) 4 (-1)) 1 1)
  have HP4 := HP.keep2 (h' := gi_up h bu _) (fun b b1 b2 => Q4.2 b (by omega))
  refine gi_aload_n (q := 21) (i := 0) C (dm_Bu_make 12 rfl) rfl rfl rfl ?_
  refine gi_callv 0 (q := 24) C (dm_Bu_make 13 rfl) rfl my_Bu_findOperandFault lk_Bu_51 im_Bu_findOperandFault rfl (c_Bu_findOperandFault W HP4 Q4) Q4.ob rfl rfl ⟨(Nat.le_of_ble_eq_true rfl), (Nat.le_of_ble_eq_true rfl)⟩ (Nat.le_of_ble_eq_true rfl) ⟨(Nat.le_of_ble_eq_true rfl), (Nat.le_of_ble_eq_true rfl)⟩ (fun r21 n21 h21 e21 => ?_)
  obtain ⟨rfl, q21, hk⟩ := e21
  rw [q21]
  have hI0 : mkI bu pr k P h S F 0 h21 := by
    rcases hk with ⟨p, hp, p480, Q2⟩ | ⟨hp, rfl⟩
    · refine ⟨Nat.zero_le _, _, _, Q2, by simp [upFl, upS], by simp [upFl, upS], Or.inl ⟨(1, p / 60, p % 60), ?_, by simp [upFl, upS], by simp [upFl, upS], by simp [upFl, upS], (show (1 : Nat) ≠ 0 by decide), (show (1 : Nat) ≤ 6 by decide)⟩⟩
      unfold bldF
      rw [hp]
    · exact ⟨Nat.zero_le _, _, _, Q4, by simp [upS], by simp [upS], Or.inr ⟨hp, _, rfl, by simp [upS], fun m' hm' => absurd hm' (by omega)⟩⟩
  refine gi_iconst (q := 25) (v := 0) C (dm_Bu_make 14 rfl) rfl (by decide) ?_
  refine gi_istore_n (q := 26) (i := 1) C (dm_Bu_make 15 rfl) rfl rfl (Nat.le_of_ble_eq_true rfl) ?_
  refine gi_while (σ := Nat) (fun m => k - m) (fun m => [(1, .int (nI m)), (0, .ref bu)]) (fun _ => n) (fun _ => 0) (fun _ => 0) (mkI bu pr k P h S F) 0 hI0 ?_ (List.forall_mem_cons.mpr ⟨rfl, List.forall_mem_cons.mpr ⟨rfl, fun _ h => absurd h List.not_mem_nil⟩⟩) rfl rfl rfl
  clear hI0
  rintro m y' ⟨hm', S1, F1, QJ, s0, s1, hc⟩ ih1
  try dsimp only at *
  have HPJ := HP.keep2 (h' := y') (fun b b1 b2 => QJ.2 b (by omega))
  refine gi_iload_n (q := 27) (i := 1) C (dm_Bu_make 16 rfl) rfl rfl rfl ?_
  refine gi_aload_n (q := 28) (i := 0) C (dm_Bu_make 17 rfl) rfl rfl rfl ?_
  refine gi_get (q := 31) C (dm_Bu_make 18 rfl) rfl fl_Bu_34 QJ.ob rfl ?_
  refine gi_get (q := 34) C (dm_Bu_make 19 rfl) rfl fl_Bu_54 HPJ.1 rfl ?_
  refine gi_icmp_ge (q := 37) (tgt := 55) C (dm_Bu_make 20 rfl) rfl (by decide) (fun c34 => ?_) (fun c34 => ?_)
  · refine gi_aload_n (q := 56) (i := 0) C (dm_Bu_make 29 rfl) rfl rfl rfl ?_
    refine gi_get (q := 59) C (dm_Bu_make 30 rfl) rfl fl_Bu_38 QJ.ob rfl ?_
    refine gi_if_ne (q := 62) (tgt := 66) C (dm_Bu_make 31 rfl) rfl (by decide) (fun c59 => ?_) (fun c59 => ?_)
    · obtain ⟨e, he, hf⟩ : ∃ e, bldF k P = .inl e ∧ fltS S1 e := by
        rcases hc with hz | ⟨-, s, -, z, -⟩
        · exact hz
        · exact absurd z c59
      refine gi_aload_n (q := 67) (i := 0) C (dm_Bu_make 34 rfl) rfl rfl rfl ?_
      refine gi_get (q := 70) C (dm_Bu_make 35 rfl) rfl fl_Bu_38 QJ.ob rfl ?_
      refine gi_if_eq (q := 73) (tgt := 79) C (dm_Bu_make 36 rfl) rfl (by decide) (fun c70 => ?_) (fun c70 => ?_)
      · exact absurd c70 hf.ne
      · refine gi_aload_n (q := 74) (i := 0) C (dm_Bu_make 37 rfl) rfl rfl rfl ?_
        refine gi_get (q := 77) C (dm_Bu_make 38 rfl) rfl fl_Bu_38 QJ.ob rfl ?_
        refine gi_ineg (q := 78) C (dm_Bu_make 39 rfl) rfl ?_
        refine gi_iret C hr (dm_Bu_make 40 rfl) ?_
        refine ⟨rfl, S1, F1, QJ, Or.inl ⟨e, he, hf, s0, ?_⟩⟩
        rw [hf.1]
    · have hik : k = m := by
        rcases Nat.lt_or_ge m k with q | q
        · exact absurd c34 (Int32.not_le.mpr (nI_lt q (by omega)))
        · omega
      have hmk : m = k := hik.symm
      obtain ⟨od, s, hs, -, hR⟩ : odF k P = none ∧ ∃ s, shA P k = .inr s ∧ S1 2 = 0 ∧ ∀ m', m' < k → rpS P m' s F1 := by
        rcases hc with ⟨e, -, hf⟩ | hz
        · exact absurd c59 hf.ne
        · rw [hmk] at hz
          exact hz
      have hI := shA_in W k (Nat.le_refl _) hs
      have QJ2 := QJ.ext (h' := y') (fun _ _ _ => rfl)
      have hs8 : ∀ p x, s p = some x → x.1 ≤ 8 := fun p x hx => by
        obtain ⟨_, _, _, _, _, h5, _⟩ := hI.1 p x hx
        exact h5
      refine gi_aload_n (q := 63) (i := 0) C (dm_Bu_make 32 rfl) rfl rfl rfl ?_
      refine gi_callv 0 (q := 66) C (dm_Bu_make 33 rfl) rfl my_Bu_findSites lk_Bu_63 im_Bu_findSites rfl (c_Bu_findSites W HPJ dp hR hs8 s1 QJ2) QJ.ob rfl rfl ⟨(Nat.le_of_ble_eq_true rfl), (Nat.le_of_ble_eq_true rfl)⟩ (Nat.le_of_ble_eq_true rfl) ⟨(Nat.le_of_ble_eq_true rfl), (Nat.le_of_ble_eq_true rfl)⟩ (fun r63 n63 h63 e63 => ?_)
      obtain ⟨rfl, rfl, hk⟩ := e63
      rcases hk with ⟨p, F2, cc, sf, p480, Q2⟩ | ⟨sf, F2, Q2, fr2, I2, -, -⟩
      · have hf : fltS (upFl (upS S1 1 cc) (6, p / 60, p % 60)) (6, p / 60, p % 60) := ⟨by simp [upFl, upS], by simp [upFl, upS], by simp [upFl, upS], (show (6 : Nat) ≠ 0 by decide), (show (6 : Nat) ≤ 6 by decide)⟩
        refine gi_aload_n (q := 67) (i := 0) C (dm_Bu_make 34 rfl) rfl rfl rfl ?_
        refine gi_get (q := 70) C (dm_Bu_make 35 rfl) rfl fl_Bu_38 Q2.ob rfl ?_
        refine gi_if_eq (q := 73) (tgt := 79) C (dm_Bu_make 36 rfl) rfl (by decide) (fun c70 => ?_) (fun c70 => ?_)
        · exact absurd c70 hf.ne
        · refine gi_aload_n (q := 74) (i := 0) C (dm_Bu_make 37 rfl) rfl rfl rfl ?_
          refine gi_get (q := 77) C (dm_Bu_make 38 rfl) rfl fl_Bu_38 Q2.ob rfl ?_
          refine gi_ineg (q := 78) C (dm_Bu_make 39 rfl) rfl ?_
          refine gi_iret C hr (dm_Bu_make 40 rfl) ?_
          refine ⟨rfl, _, _, ⟨Q2.1, QJ.2.tr Q2.2⟩, Or.inl ⟨(6, p / 60, p % 60), ?_, hf, ?_, ?_⟩⟩
          · unfold bldF
            rw [od, hs]
            dsimp only
            rw [sf]
          · simpa [upFl, upS] using s0
          · rfl
      · have HP2 := HP.keep2 (h' := h63) (fun b b1 b2 => by rw [Q2.2 b (by omega), QJ.2 b (by omega)])
        refine gi_aload_n (q := 67) (i := 0) C (dm_Bu_make 34 rfl) rfl rfl rfl ?_
        refine gi_get (q := 70) C (dm_Bu_make 35 rfl) rfl fl_Bu_38 (by first | exact Q80.ob | exact Q2.ob) rfl ?_
        refine gi_if_eq (q := 73) (tgt := 79) C (dm_Bu_make 36 rfl) rfl (by decide) (fun c70 => ?_) (fun c70 => ?_)
        · refine gi_aload_n (q := 80) (i := 0) C (dm_Bu_make 41 rfl) rfl rfl rfl ?_
          refine gi_callv 0 (q := 83) C (dm_Bu_make 42 rfl) rfl my_Bu_findWidePlaces lk_Bu_66 im_Bu_findWidePlaces rfl (c_Bu_findWidePlaces W HP2 dp (od_all W od) Q2) Q2.ob rfl rfl ⟨(Nat.le_of_ble_eq_true rfl), (Nat.le_of_ble_eq_true rfl)⟩ (Nat.le_of_ble_eq_true rfl) ⟨(Nat.le_of_ble_eq_true rfl), (Nat.le_of_ble_eq_true rfl)⟩ (fun r80 n80 h80 e80 => ?_)
          obtain ⟨rfl, rfl, F3, Q80, fr3, w3⟩ := e80
          refine gi_aload_n (q := 84) (i := 0) C (dm_Bu_make 43 rfl) rfl rfl rfl ?_
          refine gi_iconst (q := 85) (v := 1) C (dm_Bu_make 44 rfl) rfl (by decide) ?_
          refine gi_put (q := 88) C (dm_Bu_make 45 rfl) rfl fl_Bu_69 fp_Bu_0 (by first | exact Q80.ob | exact Q2.ob) (Nat.le_of_ble_eq_true rfl) rfl rfl ?_
          refine gi_aload_n (q := 89) (i := 0) C (dm_Bu_make 46 rfl) rfl rfl rfl ?_
          refine gi_get (q := 92) C (dm_Bu_make 47 rfl) rfl fl_Bu_48 (gi_up_self _ _ _) rfl ?_
          refine gi_iret C hr (dm_Bu_make 48 rfl) ?_
          have Q9 := Q80.pO (upS (upS S1 1 (nI (1 + sct k P s 480))) 0 1)
          refine ⟨rfl, _, _, ⟨Q9.1, QJ.2.tr Q9.2⟩, Or.inr ⟨s, ?_, ?_, ?_, ?_, ?_, ?_, w3⟩⟩
          · unfold bldF
            rw [od, hs]
            dsimp only
            rw [sf]
          · simp [upS]
          · simp [upS]
          · simpa [upS] using c59
          · rfl
          · refine ⟨fun q h1 h2 => ?_, fun q h1 h2 => ?_⟩
            · rw [fr3 10 (by decide)]
              exact I2.1 q h1 h2
            · rw [fr3 11 (by decide), fr3 12 (by decide)]
              exact I2.2 q h1 h2
        · exact absurd (show upS S1 1 (nI (1 + sct k P s 480)) 2 = 0 by simpa [upS] using c59) c70
  · have hlt : m < k := by
      rcases Nat.lt_or_ge m k with q | q
      · exact q
      · exact absurd (nI_le q (by omega)) c34
    refine gi_aload_n (q := 38) (i := 0) C (dm_Bu_make 21 rfl) rfl rfl rfl ?_
    refine gi_get (q := 41) C (dm_Bu_make 22 rfl) rfl fl_Bu_38 QJ.ob rfl ?_
    refine gi_if_ne (q := 44) (tgt := 55) C (dm_Bu_make 23 rfl) rfl (by decide) (fun c41 => ?_) (fun c41 => ?_)
    · refine gi_aload_n (q := 56) (i := 0) C (dm_Bu_make 29 rfl) rfl rfl rfl ?_
      refine gi_get (q := 59) C (dm_Bu_make 30 rfl) rfl fl_Bu_38 QJ.ob rfl ?_
      refine gi_if_ne (q := 62) (tgt := 66) C (dm_Bu_make 31 rfl) rfl (by decide) (fun c59 => ?_) (fun c59 => ?_)
      · obtain ⟨e, he, hf⟩ : ∃ e, bldF k P = .inl e ∧ fltS S1 e := by
          rcases hc with hz | ⟨-, s, -, z, -⟩
          · exact hz
          · exact absurd z c59
        refine gi_aload_n (q := 67) (i := 0) C (dm_Bu_make 34 rfl) rfl rfl rfl ?_
        refine gi_get (q := 70) C (dm_Bu_make 35 rfl) rfl fl_Bu_38 QJ.ob rfl ?_
        refine gi_if_eq (q := 73) (tgt := 79) C (dm_Bu_make 36 rfl) rfl (by decide) (fun c70 => ?_) (fun c70 => ?_)
        · exact absurd c70 hf.ne
        · refine gi_aload_n (q := 74) (i := 0) C (dm_Bu_make 37 rfl) rfl rfl rfl ?_
          refine gi_get (q := 77) C (dm_Bu_make 38 rfl) rfl fl_Bu_38 QJ.ob rfl ?_
          refine gi_ineg (q := 78) C (dm_Bu_make 39 rfl) rfl ?_
          refine gi_iret C hr (dm_Bu_make 40 rfl) ?_
          refine ⟨rfl, S1, F1, QJ, Or.inl ⟨e, he, hf, s0, ?_⟩⟩
          rw [hf.1]
      · exact absurd c59 c41
    · obtain ⟨od, s, hs, -, hR⟩ : odF k P = none ∧ ∃ s, shA P m = .inr s ∧ S1 2 = 0 ∧ ∀ m', m' < m → rpS P m' s F1 := by
        rcases hc with ⟨e, -, hf⟩ | hz
        · exact absurd c41 hf.ne
        · exact hz
      have hI := shA_in W m (by omega) hs
      have QJ2 := QJ.ext (h' := y') (fun _ _ _ => rfl)
      refine gi_aload_n (q := 45) (i := 0) C (dm_Bu_make 24 rfl) rfl rfl rfl ?_
      refine gi_iload_n (q := 46) (i := 1) C (dm_Bu_make 25 rfl) rfl rfl rfl ?_
      refine gi_callv 1 (q := 49) C (dm_Bu_make 26 rfl) rfl my_Bu_shapeMethod lk_Bu_59 im_Bu_shapeMethod rfl (c_Bu_shapeMethod W hlt (fun i hi => od_all W od m i hlt hi) HPJ dp hI c41 QJ2) QJ.ob rfl rfl ⟨(Nat.le_of_ble_eq_true rfl), (Nat.le_of_ble_eq_true rfl)⟩ (Nat.le_of_ble_eq_true rfl) ⟨(Nat.le_of_ble_eq_true rfl), (Nat.le_of_ble_eq_true rfl)⟩ (fun r46 n46 h46 e46 => ?_)
      obtain ⟨rfl, rfl, S2, F2, Q2, t0, t1, fr2, hk⟩ := e46
      have Q2' : buO bu pr h S2 F2 h46 := ⟨Q2.1, QJ.2.tr Q2.2⟩
      refine gi_iinc (q := 52) (v := 1) C (dm_Bu_make 27 rfl) rfl rfl (by decide) (Nat.le_of_ble_eq_true rfl) ?_
      refine gi_goto (tgt := 26) C (dm_Bu_make 28 rfl) (by decide) ?_
      refine gi_close (ih1 (m + 1) _ ⟨hlt, S2, F2, Q2', by rw [t0, s0], by rw [t1, s1], ?_⟩ (by omega)) (List.forall_mem_cons.mpr ⟨(congrArg (fun x => some (Value.int x)) (nI_1 m)), List.forall_mem_cons.mpr ⟨rfl, fun _ h => absurd h List.not_mem_nil⟩⟩) rfl rfl rfl
      rcases hk with ⟨e, el, e2, e3, e4, e0, e6⟩ | ⟨s', el, e2, R2⟩
      · refine Or.inl ⟨e, ?_, e2, e3, e4, e0, e6⟩
        have a1 : shA P (m + 1) = .inl e := (shA_s1 hs).trans el
        have a2 := shA_inl a1 (k - (m + 1))
        rw [show m + 1 + (k - (m + 1)) = k by omega] at a2
        unfold bldF
        rw [od, a2]
      · refine Or.inr ⟨od, s', ?_, e2, fun m' hm' => ?_⟩
        · exact (shA_s1 hs).trans el
        · by_cases z : m' = m
          · subst z
            exact R2
          · have wm' := wf_ar W (show m' < k by omega)
            exact (hR m' (by omega)).frame W (by omega) fr2 z (fun i hi => meS_out W hlt hI el _ (by omega))
end BU6
