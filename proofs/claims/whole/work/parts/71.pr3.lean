-- needs: 67
section PR3
variable {l : Launch} {V : gi_V} {n : Nat} {h : gi_H} {a k m i : Nat} {P : Pm}
theorem isM_y (h8 : k ≤ 8) (hm : m < k) : isM k (nI m) = true := decide_eq_true ⟨nI_nn (by omega), nI_lt hm (by omega)⟩
theorem wf_n (W : wfP k P) (hm : m < k) : P 1 m = nI (pN P 1 m) ∧ P 2 m = nI (pN P 2 m) ∧ P 4 m = nI (pN P 4 m) ∧ P 5 m = nI (pN P 5 m) ∧ P 3 m = nI (pN P 3 m) ∧ pN P 3 m < 64 := by
  have cl : ∀ {j x : Nat}, P j m = Int32.ofNat x → x < 2 ^ 31 → P j m = nI (pN P j m) ∧ pN P j m = x := fun {j x} e hx => by
    have : pN P j m = x := by
      unfold pN
      rw [e]
      exact nI_clamp hx
    exact ⟨by rw [this]; exact e, this⟩
  obtain ⟨x1, e1, l1⟩ := W.ar m hm
  obtain ⟨x2, e2, l2⟩ := W.lc m hm
  obtain ⟨x4, e4, l4⟩ := W.rs m hm
  obtain ⟨x5, e5, l5⟩ := W.ln m hm
  obtain ⟨x3, e3, l3⟩ := W.kd m hm
  have c3 := cl e3 (by omega)
  exact ⟨(cl e1 (by omega)).1, (cl e2 (by omega)).1, (cl e4 (by omega)).1, (cl e5 (by omega)).1, c3.1, by omega⟩
theorem wf_L (W : wfP k P) : prL k P := fun j hj => by
  obtain ⟨x, e, hx⟩ := W.ln j hj
  exact ⟨x, hx, e⟩
theorem kd_bit : ∀ x : Nat, x < 64 → ∀ i : Nat, i < 8 → decide ((nI x >>> (nI i &&& 31)) &&& 1 = 1) = x.testBit i := by decide +kernel
theorem q_args (W : wfP k P) (hm : m < k) (H : pr_at a (nI k) P h) : gi_T l V y_Pr_argumentsOf b_Pr_argumentsOf 2 (some .int) 1 21 0 0 [.ref a, .int (nI m)] n h (gi_is (some (.int (nI (pN P 1 m)))) n h) := by
  have t := c_Pr_argumentsOf (l := l) (V := V) (n := n) (nI m) W.k8 H
  have h8 := W.k8
  rw [if_pos (isM_y W.k8 hm), nI_clamp (by omega), (wf_n W hm).1] at t
  exact t
theorem q_locals (W : wfP k P) (hm : m < k) (H : pr_at a (nI k) P h) : gi_T l V y_Pr_localsOf b_Pr_localsOf 2 (some .int) 1 21 0 0 [.ref a, .int (nI m)] n h (gi_is (some (.int (nI (pN P 2 m)))) n h) := by
  have t := c_Pr_localsOf (l := l) (V := V) (n := n) (nI m) W.k8 H
  have h8 := W.k8
  rw [if_pos (isM_y W.k8 hm), nI_clamp (by omega), (wf_n W hm).2.1] at t
  exact t
theorem q_res (W : wfP k P) (hm : m < k) (H : pr_at a (nI k) P h) : gi_T l V y_Pr_resultSort b_Pr_resultSort 2 (some .int) 1 21 0 0 [.ref a, .int (nI m)] n h (gi_is (some (.int (nI (pN P 4 m)))) n h) := by
  have t := c_Pr_resultSort (l := l) (V := V) (n := n) (nI m) W.k8 H
  have h8 := W.k8
  rw [if_pos (isM_y W.k8 hm), nI_clamp (by omega), (wf_n W hm).2.2.1] at t
  exact t
theorem q_len (W : wfP k P) (hm : m < k) (H : pr_at a (nI k) P h) : gi_T l V y_Pr_lengthOf b_Pr_lengthOf 2 (some .int) 1 21 0 0 [.ref a, .int (nI m)] n h (gi_is (some (.int (nI (pN P 5 m)))) n h) := by
  have t := c_Pr_lengthOf (l := l) (V := V) (n := n) (nI m) W.k8 H
  have h8 := W.k8
  rw [if_pos (isM_y W.k8 hm), nI_clamp (by omega), (wf_n W hm).2.2.2.1] at t
  exact t
theorem q_holds (W : wfP k P) (hm : m < k) (hi : i < 8) (H : pr_at a (nI k) P h) : gi_T l V y_Pr_holdsArray b_Pr_holdsArray 3 (some .boolean) 1 21 0 0 [.ref a, .int (nI m), .int (nI i)] n h (gi_is (some (.int (bI (kdB P m i)))) n h) := by
  have t := c_Pr_holdsArray (l := l) (V := V) (n := n) (nI m) (nI i) W.k8 H
  have h8 := W.k8
  have e := wf_n W hm
  rw [isM_y W.k8 hm, nI_clamp (by omega), e.2.2.2.2.1, kd_bit _ e.2.2.2.2.2 i hi] at t
  exact t
theorem isP_y (W : wfP k P) (hm : m < k) (hi : i < pN P 5 m) : isP k P (nI m) (nI i) = true := by
  have h8 := W.k8
  have w5 := (wf_ar W hm).2.2.2.2
  unfold isP
  rw [isM_y W.k8 hm, nI_clamp (by omega), (wf_n W hm).2.2.2.1, decide_eq_true (nI_nn (j := i) (by omega)), decide_eq_true (nI_lt hi (by omega))]
  rfl
theorem at_60 (m i : Nat) : nI m * 60 + nI i = nI (60 * m + i) := by rw [show (60 : Int32) = nI 60 from rfl, pk_mul, nI_add, Nat.mul_comm]
theorem wf_op (W : wfP k P) (hm : m < k) (hi : i < pN P 5 m) : P 6 (60 * m + i) = nI (pN P 6 (60 * m + i)) ∧ pN P 6 (60 * m + i) ≤ 35 := by
  obtain ⟨x, e, hx⟩ := W.op m i hm hi
  have : pN P 6 (60 * m + i) = x := by
    unfold pN
    rw [e]
    exact nI_clamp (by omega)
  exact ⟨by rw [this]; exact e, by omega⟩
theorem q_op (W : wfP k P) (hm : m < k) (hi : i < pN P 5 m) (H : pr_at a (nI k) P h) : gi_T l V y_Pr_opAt b_Pr_opAt 3 (some .int) 2 43 0 0 [.ref a, .int (nI m), .int (nI i)] n h (gi_is (some (.int (nI (pN P 6 (60 * m + i))))) n h) := by
  have t := c_Pr_opAt (l := l) (V := V) (n := n) (nI m) (nI i) W.k8 (wf_L W) H
  have h8 := W.k8
  have w5 := (wf_ar W hm).2.2.2.2
  rw [if_pos (isP_y W hm hi), at_60, nI_clamp (by omega), (wf_op W hm hi).1] at t
  exact t
theorem q_opr (W : wfP k P) (hm : m < k) (hi : i < pN P 5 m) (H : pr_at a (nI k) P h) : gi_T l V y_Pr_operandAt b_Pr_operandAt 3 (some .int) 2 43 0 0 [.ref a, .int (nI m), .int (nI i)] n h (gi_is (some (.int (P 7 (60 * m + i)))) n h) := by
  have t := c_Pr_operandAt (l := l) (V := V) (n := n) (nI m) (nI i) W.k8 (wf_L W) H
  have h8 := W.k8
  have w5 := (wf_ar W hm).2.2.2.2
  rw [if_pos (isP_y W hm hi), at_60, nI_clamp (by omega)] at t
  exact t
end PR3
