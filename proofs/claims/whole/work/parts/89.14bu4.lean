-- needs: 89.13
section BU4
variable {l : Launch} {V : gi_V} {n : Nat} {h h' h0 : gi_H} {bu pr k m i t : Nat} {S : Nat → Int32} {F : Nat → Nat → Int32} {P : Pm} {s : Nat → Option Sh} {Z : ShL}
set_option maxHeartbeats 4000000 in
set_option maxRecDepth 100000 in
theorem c_Bu_leastUnlooked_any (W : wfP k P) (hm : m < k) (Q : buO bu pr h0 S F h) : gi_T l V y_Bu_leastUnlooked b_Bu_leastUnlooked 4 (some .int) 0 0 0 0 [.ref bu, .int (nI m), .int (nI (pN P 5 m))] n h (fun v n' h' => (∃ x, v = some (.int x)) ∧ n' = n ∧ h' = h) := by
  refine gi_enter (by decide) (Nat.le_of_ble_eq_true rfl) ?_
  intro _ _ _ _ _ _ _ _ C hr hnm
  have w8 := W.k8
  have wm := wf_ar W hm
  refine gi_iconst (q := 1) (v := 0) C (dm_Bu_leastUnlooked 0 rfl) rfl (by decide) ?_
  refine gi_istore_n (q := 2) (i := 3) C (dm_Bu_leastUnlooked 1 rfl) rfl rfl (Nat.le_of_ble_eq_true rfl) ?_
  refine gi_while (σ := Nat) (fun j => pN P 5 m - j) (fun j => [(3, .int (nI j)), (0, .ref bu), (1, .int (nI m)), (2, .int (nI (pN P 5 m)))]) (fun _ => n) (fun _ => 0) (fun _ => 0) (fun j y => y = h ∧ j ≤ pN P 5 m) 0 ⟨rfl, Nat.zero_le _⟩ ?_ (List.forall_mem_cons.mpr ⟨rfl, List.forall_mem_cons.mpr ⟨rfl, List.forall_mem_cons.mpr ⟨rfl, List.forall_mem_cons.mpr ⟨rfl, fun _ h => absurd h List.not_mem_nil⟩⟩⟩⟩) rfl rfl rfl
  rintro j y' ⟨rfl, hj⟩ ih
  try dsimp only at *
  refine gi_iload_n (q := 3) (i := 3) C (dm_Bu_leastUnlooked 2 rfl) rfl rfl rfl ?_
  refine gi_iload_n (q := 4) (i := 2) C (dm_Bu_leastUnlooked 3 rfl) rfl rfl rfl ?_
  refine gi_icmp_ge (q := 7) (tgt := 44) C (dm_Bu_leastUnlooked 4 rfl) rfl (by decide) (fun c4 => ?_) (fun c4 => ?_)
  · refine gi_iconst (q := 45) (v := -1) C (dm_Bu_leastUnlooked 28 rfl) rfl (by decide) ?_
    refine gi_iret C hr (dm_Bu_leastUnlooked 29 rfl) ?_
    exact ⟨⟨_, rfl⟩, rfl, rfl⟩
  · have hl : j < pN P 5 m := by
      rcases Nat.lt_or_ge j (pN P 5 m) with q | q
      · exact q
      · exact absurd (nI_le q (by omega)) c4
    refine gi_aload_n (q := 8) (i := 0) C (dm_Bu_leastUnlooked 5 rfl) rfl rfl rfl ?_
    refine gi_get (q := 11) C (dm_Bu_leastUnlooked 6 rfl) rfl fl_Bu_9 Q.ob rfl ?_
    refine gi_iload_n (q := 12) (i := 1) C (dm_Bu_leastUnlooked 7 rfl) rfl rfl rfl ?_
    refine gi_bipush (q := 14) (v := 60) C (dm_Bu_leastUnlooked 8 rfl) rfl (by decide) ?_
    refine gi_imul (q := 15) C (dm_Bu_leastUnlooked 9 rfl) rfl ?_
    refine gi_iload_n (q := 16) (i := 3) C (dm_Bu_leastUnlooked 10 rfl) rfl rfl rfl ?_
    refine gi_iadd (q := 17) C (dm_Bu_leastUnlooked 11 rfl) rfl ?_
    rw [at_60]
    refine gi_iald (q := 18) C (dm_Bu_leastUnlooked 12 rfl) rfl rfl Q.a6 (vp_in_nI (by omega) (by omega)) ?_
    refine gi_iconst (q := 19) (v := -1) C (dm_Bu_leastUnlooked 13 rfl) rfl (by decide) ?_
    refine gi_icmp_eq (q := 22) (tgt := 38) C (dm_Bu_leastUnlooked 14 rfl) rfl (by decide) (fun c19 => ?_) (fun c19 => ?_)
    · refine gi_iinc (q := 41) (v := 1) C (dm_Bu_leastUnlooked 26 rfl) rfl rfl (by decide) (Nat.le_of_ble_eq_true rfl) ?_
      refine gi_goto (tgt := 2) C (dm_Bu_leastUnlooked 27 rfl) (by decide) ?_
      exact gi_close (ih (j + 1) _ ⟨rfl, by omega⟩ (by omega)) (List.forall_mem_cons.mpr ⟨(congrArg (fun x => some (Value.int x)) (nI_1 j)), List.forall_mem_cons.mpr ⟨rfl, List.forall_mem_cons.mpr ⟨rfl, List.forall_mem_cons.mpr ⟨rfl, fun _ h => absurd h List.not_mem_nil⟩⟩⟩⟩) rfl rfl rfl
    · refine gi_aload_n (q := 23) (i := 0) C (dm_Bu_leastUnlooked 15 rfl) rfl rfl rfl ?_
      refine gi_get (q := 26) C (dm_Bu_leastUnlooked 16 rfl) rfl fl_Bu_18 Q.ob rfl ?_
      refine gi_iload_n (q := 27) (i := 1) C (dm_Bu_leastUnlooked 17 rfl) rfl rfl rfl ?_
      refine gi_bipush (q := 29) (v := 60) C (dm_Bu_leastUnlooked 18 rfl) rfl (by decide) ?_
      refine gi_imul (q := 30) C (dm_Bu_leastUnlooked 19 rfl) rfl ?_
      refine gi_iload_n (q := 31) (i := 3) C (dm_Bu_leastUnlooked 20 rfl) rfl rfl rfl ?_
      refine gi_iadd (q := 32) C (dm_Bu_leastUnlooked 21 rfl) rfl ?_
      rw [at_60]
      refine gi_zald (q := 33) C (dm_Bu_leastUnlooked 22 rfl) rfl rfl Q.a8 (vp_in_nI (by omega) (by omega)) ?_
      refine gi_if_ne (q := 36) (tgt := 38) C (dm_Bu_leastUnlooked 23 rfl) rfl (by decide) (fun c33 => ?_) (fun c33 => ?_)
      · refine gi_iinc (q := 41) (v := 1) C (dm_Bu_leastUnlooked 26 rfl) rfl rfl (by decide) (Nat.le_of_ble_eq_true rfl) ?_
        refine gi_goto (tgt := 2) C (dm_Bu_leastUnlooked 27 rfl) (by decide) ?_
        exact gi_close (ih (j + 1) _ ⟨rfl, by omega⟩ (by omega)) (List.forall_mem_cons.mpr ⟨(congrArg (fun x => some (Value.int x)) (nI_1 j)), List.forall_mem_cons.mpr ⟨rfl, List.forall_mem_cons.mpr ⟨rfl, List.forall_mem_cons.mpr ⟨rfl, fun _ h => absurd h List.not_mem_nil⟩⟩⟩⟩) rfl rfl rfl
      · refine gi_iload_n (q := 37) (i := 3) C (dm_Bu_leastUnlooked 24 rfl) rfl rfl rfl ?_
        refine gi_iret C hr (dm_Bu_leastUnlooked 25 rfl) ?_
        exact ⟨⟨_, rfl⟩, rfl, rfl⟩
theorem rpS.frame {F' : Nat → Nat → Int32} {m' : Nat} {s' : Nat → Option Sh} (W : wfP k P) (hm : m < k) (h : rpS P m s F) (hf : frB m' F F') (hne : m ≠ m') (hs : ∀ i, i < pN P 5 m → s' (60 * m + i) = s (60 * m + i)) : rpS P m s' F' := fun i hi => by
  have wm := wf_ar W hm
  have := h i hi
  rw [hf.2 6 (60 * m + i) (by omega), hf.2 7 (60 * m + i) (by omega), hs i hi]
  exact this
/-- what the shaping of a method leaves -/
def meP (bu pr m : Nat) (P : Pm) (s : Nat → Option Sh) (h0 : gi_H) (S : Nat → Int32) (F : Nat → Nat → Int32) (h' : gi_H) : Prop := ∃ S' F', buO bu pr h0 S' F' h' ∧ S' 0 = S 0 ∧ S' 1 = S 1 ∧ frB m F F' ∧ ((∃ e, meS P m s = .inl e ∧ S' 2 = nI e.1 ∧ S' 3 = nI e.2.1 ∧ S' 4 = nI e.2.2 ∧ e.1 ≠ 0 ∧ e.1 ≤ 6) ∨ (∃ s', meS P m s = .inr s' ∧ S' 2 = 0 ∧ rpS P m s' F'))
def nxI (P : Pm) (m : Nat) (Z : ShL) : Int32 := match nxU P m Z with
  | none => -1
  | some i => nI i
/-- while the loop runs -/
def smI (bu pr k m : Nat) (P : Pm) (s : Nat → Option Sh) (h0 : gi_H) (S : Nat → Int32) (F : Nat → Nat → Int32) (q : Nat × Int32) (y : gi_H) : Prop := q.1 ≤ 60 ∧ ∃ S' F', buO bu pr h0 S' F' y ∧ S' 0 = S 0 ∧ S' 1 = S 1 ∧ frB m F F' ∧ ((∃ e, lpS P m 60 (st0 m s) = .inl e ∧ S' 2 = nI e.1 ∧ S' 3 = nI e.2.1 ∧ S' 4 = nI e.2.2 ∧ e.1 ≠ 0 ∧ e.1 ≤ 6) ∨ (∃ Z, lpS P m 60 (st0 m s) = lpS P m (60 - q.1) Z ∧ S' 2 = 0 ∧ rpS P m Z.1 F' ∧ rpL P m Z.2 F' ∧ lpI k P m (upO s (60 * m) (some (0, 0))) Z ∧ q.2 = nxI P m Z))
theorem lpI_0 (hm : m < k) (hl : ¬ pN P 5 m = 0) (hI : shI k P m s) : lpI k P m (upO s (60 * m) (some (0, 0))) (st0 m s) := by
  refine ⟨fun p x hx => ?_, leS.rf, fun i _ hq => by cases hq⟩
  have hx : upO s (60 * m) (some (0, 0)) p = some x := hx
  by_cases q : p = 60 * m
  · rw [q, upO_self] at hx
    cases hx
    exact ⟨m, 0, hm, by omega, by omega, by decide, by decide⟩
  · rw [upO_ne q] at hx
    exact hI.1 p x hx
theorem lpI.s8 {s0 : Nat → Option Sh} (h : lpI k P m s0 Z) : ∀ p x, Z.1 p = some x → x.1 ≤ 8 ∧ x.2 < 2 ^ x.1 := fun p x hx => by
  obtain ⟨_, _, _, _, _, h5, h6⟩ := h.1 p x hx
  exact ⟨h5, h6⟩
theorem lp_none {f : Nat} (h : nxU P m Z = none) : lpS P m f Z = .inr Z := by
  cases f with
  | zero => rfl
  | succ f => rw [lpS, h]
theorem meS_lp (hl : ¬ pN P 5 m = 0) : meS P m s = (match lpS P m 60 (st0 m s) with
  | .inl e => .inl e
  | .inr Z => .inr Z.1) := by
  unfold meS
  rw [if_neg hl]
  rfl
theorem fill_up {f : Nat → Int32} {a j : Nat} {v : Int32} : upd (fun p => if a ≤ p ∧ p < a + j then v else f p) (a + j) v = fun p => if a ≤ p ∧ p < a + (j + 1) then v else f p := by
  funext p
  unfold upd
  by_cases q : p = a + j
  · rw [if_pos q, if_pos (by omega)]
  · rw [if_neg q]
    show (if a ≤ p ∧ p < a + j then v else f p) = _
    by_cases r : a ≤ p ∧ p < a + j
    · rw [if_pos r, if_pos (by omega)]
    · rw [if_neg r, if_neg (by omega)]
theorem upA_fill {F : Nat → Nat → Int32} {f g f' g' : Nat → Int32} : upA (upA (upA (upA F 6 f) 8 g) 6 f') 8 g' = upA (upA F 6 f') 8 g' := by
  funext a
  by_cases a6 : a = 6
  · subst a6; simp [upA]
  · by_cases a8 : a = 8
    · subst a8; simp [upA]
    · simp [upA, a6, a8]
set_option maxHeartbeats 4000000 in
set_option maxRecDepth 100000 in
theorem c_Bu_shapeMethod (W : wfP k P) (hm : m < k) (hod : ∀ i, i < pN P 5 m → opdOk k P m (pN P 6 (60 * m + i)) (P 7 (60 * m + i))) (HP : pr_at pr (nI k) P h) (dp : pr + 8 ≤ bu ∨ bu + 8 ≤ pr) (hI : shI k P m s) (hS2 : S 2 = 0) (Q : buO bu pr h S F h) : gi_T l V y_Bu_shapeMethod b_Bu_shapeMethod 5 none 4 93 0 0 [.ref bu, .int (nI m)] n h (fun v n' h' => v = none ∧ n' = n ∧ meP bu pr m P s h S F h') := by
  refine gi_enter (by decide) (Nat.le_of_ble_eq_true rfl) ?_
  intro _ _ _ _ _ _ _ _ C hr hnm
  have w8 := W.k8
  have wm := wf_ar W hm
  refine gi_aload_n (q := 1) (i := 0) C (dm_Bu_shapeMethod 0 rfl) rfl rfl rfl ?_
  refine gi_get (q := 4) C (dm_Bu_shapeMethod 1 rfl) rfl fl_Bu_34 Q.ob rfl ?_
  refine gi_iload_n (q := 5) (i := 1) C (dm_Bu_shapeMethod 2 rfl) rfl rfl rfl ?_
  refine gi_callv 1 (q := 8) C (dm_Bu_shapeMethod 3 rfl) rfl my_Pr_lengthOf lk_Bu_77 im_Pr_lengthOf rfl (q_len W hm HP) HP.1 rfl rfl ⟨(Nat.le_of_ble_eq_true rfl), (Nat.le_of_ble_eq_true rfl)⟩ (Nat.le_of_ble_eq_true rfl) ⟨(Nat.le_of_ble_eq_true rfl), (Nat.le_of_ble_eq_true rfl)⟩ (fun r5 n5 h5 e5 => ?_)
  obtain ⟨rfl, q5, u5⟩ := e5
  rw [q5, u5]
  refine gi_istore_n (q := 9) (i := 2) C (dm_Bu_shapeMethod 4 rfl) rfl rfl (Nat.le_of_ble_eq_true rfl) ?_
  refine gi_iload_n (q := 10) (i := 2) C (dm_Bu_shapeMethod 5 rfl) rfl rfl rfl ?_
  refine gi_if_ne (q := 13) (tgt := 21) C (dm_Bu_shapeMethod 6 rfl) rfl (by decide) (fun c10 => ?_) (fun c10 => ?_)
  · have hl0 : ¬ pN P 5 m = 0 := fun z => c10 (by rw [z]; rfl)
    refine gi_iconst (q := 22) (v := 0) C (dm_Bu_shapeMethod 13 rfl) rfl (by decide) ?_
    refine gi_istore_n (q := 23) (i := 3) C (dm_Bu_shapeMethod 14 rfl) rfl rfl (Nat.le_of_ble_eq_true rfl) ?_
    have eF0 : F = (upA (upA F 6 (fun p => if 60 * m ≤ p ∧ p < 60 * m + 0 then -1 else F 6 p)) 8 (fun p => if 60 * m ≤ p ∧ p < 60 * m + 0 then 0 else F 8 p)) := by
      funext a p
      have n0 : ¬ (60 * m ≤ p ∧ p < 60 * m + 0) := by omega
      by_cases a6 : a = 6
      · subst a6; simp [upA, n0]; omega
      · by_cases a8 : a = 8
        · subst a8; simp [upA, n0]; omega
        · simp [upA, a6, a8]
    refine gi_while (σ := Nat) (fun j => pN P 5 m - j) (fun j => [(3, .int (nI j)), (0, .ref bu), (1, .int (nI m)), (2, .int (nI (pN P 5 m)))]) (fun _ => n) (fun _ => 0) (fun _ => 0) (fun j y => j ≤ pN P 5 m ∧ buO bu pr h S (upA (upA F 6 (fun p => if 60 * m ≤ p ∧ p < 60 * m + j then -1 else F 6 p)) 8 (fun p => if 60 * m ≤ p ∧ p < 60 * m + j then 0 else F 8 p)) y) 0 ⟨Nat.zero_le _, by rw [← eF0]; exact Q⟩ ?_ (List.forall_mem_cons.mpr ⟨rfl, List.forall_mem_cons.mpr ⟨rfl, List.forall_mem_cons.mpr ⟨rfl, List.forall_mem_cons.mpr ⟨rfl, fun _ h => absurd h List.not_mem_nil⟩⟩⟩⟩) rfl rfl rfl
    rintro j y' ⟨hj, QJ⟩ ih
    try dsimp only at *
    refine gi_iload_n (q := 24) (i := 3) C (dm_Bu_shapeMethod 15 rfl) rfl rfl rfl ?_
    refine gi_iload_n (q := 25) (i := 2) C (dm_Bu_shapeMethod 16 rfl) rfl rfl rfl ?_
    refine gi_icmp_ge (q := 28) (tgt := 58) C (dm_Bu_shapeMethod 17 rfl) rfl (by decide) (fun c25 => ?_) (fun c25 => ?_)
    · have hjl : j = pN P 5 m := by
        rcases Nat.lt_or_ge j (pN P 5 m) with q | q
        · exact absurd c25 (Int32.not_le.mpr (nI_lt q (by omega)))
        · omega
      subst hjl
      refine gi_aload_n (q := 59) (i := 0) C (dm_Bu_shapeMethod 38 rfl) rfl rfl rfl ?_
      refine gi_get (q := 62) C (dm_Bu_shapeMethod 39 rfl) rfl fl_Bu_9 (by first | exact Q6.ob | exact Q5.ob | exact QJ.ob) rfl ?_
      refine gi_iload_n (q := 63) (i := 1) C (dm_Bu_shapeMethod 40 rfl) rfl rfl rfl ?_
      refine gi_bipush (q := 65) (v := 60) C (dm_Bu_shapeMethod 41 rfl) rfl (by decide) ?_
      refine gi_imul (q := 66) C (dm_Bu_shapeMethod 42 rfl) rfl ?_
      rw [show nI m * 60 = nI (60 * m) from by rw [show (60 : Int32) = nI 60 from rfl, pk_mul, Nat.mul_comm]]
      refine gi_iconst (q := 67) (v := 0) C (dm_Bu_shapeMethod 43 rfl) rfl (by decide) ?_
      refine gi_iast (q := 68) C (dm_Bu_shapeMethod 44 rfl) rfl rfl QJ.a6 (vp_in_nI (by omega) (by omega)) ?_
      rw [nI_clamp (show 60 * m < 2 ^ 31 by omega)]
      have Q5 := QJ.s6 (upd ((upA (upA F 6 (fun p => if 60 * m ≤ p ∧ p < 60 * m + pN P 5 m then -1 else F 6 p)) 8 (fun p => if 60 * m ≤ p ∧ p < 60 * m + pN P 5 m then 0 else F 8 p)) 6) (60 * m) 0)
      refine gi_aload_n (q := 69) (i := 0) C (dm_Bu_shapeMethod 45 rfl) rfl rfl rfl ?_
      refine gi_get (q := 72) C (dm_Bu_shapeMethod 46 rfl) rfl fl_Bu_15 (by first | exact Q6.ob | exact Q5.ob | exact QJ.ob) rfl ?_
      refine gi_iload_n (q := 73) (i := 1) C (dm_Bu_shapeMethod 47 rfl) rfl rfl rfl ?_
      refine gi_bipush (q := 75) (v := 60) C (dm_Bu_shapeMethod 48 rfl) rfl (by decide) ?_
      refine gi_imul (q := 76) C (dm_Bu_shapeMethod 49 rfl) rfl ?_
      rw [show nI m * 60 = nI (60 * m) from by rw [show (60 : Int32) = nI 60 from rfl, pk_mul, Nat.mul_comm]]
      refine gi_iconst (q := 77) (v := 0) C (dm_Bu_shapeMethod 50 rfl) rfl (by decide) ?_
      refine gi_iast (q := 78) C (dm_Bu_shapeMethod 51 rfl) rfl rfl Q5.a7 (vp_in_nI (by omega) (by omega)) ?_
      rw [nI_clamp (show 60 * m < 2 ^ 31 by omega)]
      have Q6 := Q5.s7 (upd (upA (upA (upA F 6 (fun p => if 60 * m ≤ p ∧ p < 60 * m + pN P 5 m then -1 else F 6 p)) 8 (fun p => if 60 * m ≤ p ∧ p < 60 * m + pN P 5 m then 0 else F 8 p)) 6 (upd ((upA (upA F 6 (fun p => if 60 * m ≤ p ∧ p < 60 * m + pN P 5 m then -1 else F 6 p)) 8 (fun p => if 60 * m ≤ p ∧ p < 60 * m + pN P 5 m then 0 else F 8 p)) 6) (60 * m) 0) 7) (60 * m) 0)
      have frF0 : frB m F (upA (upA (upA (upA F 6 (fun p => if 60 * m ≤ p ∧ p < 60 * m + pN P 5 m then -1 else F 6 p)) 8 (fun p => if 60 * m ≤ p ∧ p < 60 * m + pN P 5 m then 0 else F 8 p)) 6 (upd ((upA (upA F 6 (fun p => if 60 * m ≤ p ∧ p < 60 * m + pN P 5 m then -1 else F 6 p)) 8 (fun p => if 60 * m ≤ p ∧ p < 60 * m + pN P 5 m then 0 else F 8 p)) 6) (60 * m) 0)) 7 (upd (upA (upA (upA F 6 (fun p => if 60 * m ≤ p ∧ p < 60 * m + pN P 5 m then -1 else F 6 p)) 8 (fun p => if 60 * m ≤ p ∧ p < 60 * m + pN P 5 m then 0 else F 8 p)) 6 (upd ((upA (upA F 6 (fun p => if 60 * m ≤ p ∧ p < 60 * m + pN P 5 m then -1 else F 6 p)) 8 (fun p => if 60 * m ≤ p ∧ p < 60 * m + pN P 5 m then 0 else F 8 p)) 6) (60 * m) 0) 7) (60 * m) 0)) := by
        refine ⟨fun a h1 h2 h3 => by simp [upA, h1, h2, h3], fun a p hp => ?_⟩
        by_cases a6 : a = 6
        · subst a6; simp [upA, upd, show p ≠ 60 * m by omega, show ¬ (60 * m ≤ p ∧ p < 60 * m + pN P 5 m) by omega]
        · by_cases a7 : a = 7
          · subst a7; simp [upA, upd, show p ≠ 60 * m by omega]
          · by_cases a8 : a = 8
            · subst a8; simp [upA, show ¬ (60 * m ≤ p ∧ p < 60 * m + pN P 5 m) by omega]
            · simp [upA, a6, a7, a8]
      have rp0 : rpS P m (st0 m s).1 (upA (upA (upA (upA F 6 (fun p => if 60 * m ≤ p ∧ p < 60 * m + pN P 5 m then -1 else F 6 p)) 8 (fun p => if 60 * m ≤ p ∧ p < 60 * m + pN P 5 m then 0 else F 8 p)) 6 (upd ((upA (upA F 6 (fun p => if 60 * m ≤ p ∧ p < 60 * m + pN P 5 m then -1 else F 6 p)) 8 (fun p => if 60 * m ≤ p ∧ p < 60 * m + pN P 5 m then 0 else F 8 p)) 6) (60 * m) 0)) 7 (upd (upA (upA (upA F 6 (fun p => if 60 * m ≤ p ∧ p < 60 * m + pN P 5 m then -1 else F 6 p)) 8 (fun p => if 60 * m ≤ p ∧ p < 60 * m + pN P 5 m then 0 else F 8 p)) 6 (upd ((upA (upA F 6 (fun p => if 60 * m ≤ p ∧ p < 60 * m + pN P 5 m then -1 else F 6 p)) 8 (fun p => if 60 * m ≤ p ∧ p < 60 * m + pN P 5 m then 0 else F 8 p)) 6) (60 * m) 0) 7) (60 * m) 0)) := fun q hq => by
        show (upO s (60 * m) (some (0, 0)) (60 * m + q) = none → _) ∧ ∀ x, upO s (60 * m) (some (0, 0)) (60 * m + q) = some x → _
        by_cases q0 : q = 0
        · subst q0
          rw [Nat.add_zero, upO_self]
          refine ⟨fun z => (by cases z), fun x hx => ?_⟩
          cases hx
          exact ⟨by simp [upA, upd]; rfl, by simp [upA, upd]; rfl⟩
        · rw [upO_ne (by omega)]
          refine ⟨fun _ => by simp [upA, upd, q0, hq], fun x hx => ?_⟩
          have := hI.2.1 _ _ hx
          omega
      have rl0 : rpL P m (st0 m s).2 (upA (upA (upA (upA F 6 (fun p => if 60 * m ≤ p ∧ p < 60 * m + pN P 5 m then -1 else F 6 p)) 8 (fun p => if 60 * m ≤ p ∧ p < 60 * m + pN P 5 m then 0 else F 8 p)) 6 (upd ((upA (upA F 6 (fun p => if 60 * m ≤ p ∧ p < 60 * m + pN P 5 m then -1 else F 6 p)) 8 (fun p => if 60 * m ≤ p ∧ p < 60 * m + pN P 5 m then 0 else F 8 p)) 6) (60 * m) 0)) 7 (upd (upA (upA (upA F 6 (fun p => if 60 * m ≤ p ∧ p < 60 * m + pN P 5 m then -1 else F 6 p)) 8 (fun p => if 60 * m ≤ p ∧ p < 60 * m + pN P 5 m then 0 else F 8 p)) 6 (upd ((upA (upA F 6 (fun p => if 60 * m ≤ p ∧ p < 60 * m + pN P 5 m then -1 else F 6 p)) 8 (fun p => if 60 * m ≤ p ∧ p < 60 * m + pN P 5 m then 0 else F 8 p)) 6) (60 * m) 0) 7) (60 * m) 0)) := fun q hq => by
        show _ = bI false
        simp [upA, hq, bI]
      have nx0 : (0 : Int32) = nxI P m (st0 m s) := by
        have e : nxU P m (st0 m s) = some 0 := rng_some (by omega) (by
          show ((upO s (60 * m) (some (0, 0)) (60 * m + 0)).isSome && !false) = true
          rw [Nat.add_zero, upO_self]
          rfl) (fun j hj => absurd hj (by omega))
        unfold nxI
        rw [e]
        rfl
      refine gi_iconst (q := 79) (v := 0) C (dm_Bu_shapeMethod 52 rfl) rfl (by decide) ?_
      refine gi_istore_n (q := 80) (i := 3) C (dm_Bu_shapeMethod 53 rfl) rfl rfl (Nat.le_of_ble_eq_true rfl) ?_
      refine gi_iconst (q := 81) (v := 0) C (dm_Bu_shapeMethod 54 rfl) rfl (by decide) ?_
      refine gi_istore (q := 83) C (dm_Bu_shapeMethod 55 rfl) rfl (Nat.le_of_ble_eq_true rfl) ?_
      refine gi_while (σ := Nat × Int32) (fun q => 60 - q.1) (fun q => [(4, .int (nI q.1)), (3, .int q.2), (0, .ref bu), (1, .int (nI m)), (2, .int (nI (pN P 5 m)))]) (fun _ => n) (fun _ => 0) (fun _ => 0) (smI bu pr k m P s h S F) (0, 0) ⟨Nat.zero_le _, _, _, Q6, rfl, rfl, frF0, Or.inr ⟨st0 m s, rfl, hS2, rp0, rl0, lpI_0 hm hl0 hI, nx0⟩⟩ ?_ (List.forall_mem_cons.mpr ⟨rfl, List.forall_mem_cons.mpr ⟨rfl, List.forall_mem_cons.mpr ⟨rfl, List.forall_mem_cons.mpr ⟨rfl, List.forall_mem_cons.mpr ⟨rfl, fun _ h => absurd h List.not_mem_nil⟩⟩⟩⟩⟩) rfl rfl rfl
      clear Q6
      rintro ⟨j, pl⟩ y' ⟨hj, S1, F1, QJ, s0, s1, fr1, hc⟩ ih
      try dsimp only at *
      refine gi_iload (q := 85) C (dm_Bu_shapeMethod 56 rfl) rfl rfl ?_
      refine gi_bipush (q := 87) (v := 60) C (dm_Bu_shapeMethod 57 rfl) rfl (by decide) ?_
      refine gi_icmp_ge (q := 90) (tgt := 121) C (dm_Bu_shapeMethod 58 rfl) rfl (by decide) (fun c87 => ?_) (fun c87 => ?_)
      · refine gi_vret C hr (dm_Bu_shapeMethod 76 rfl) ?_
        refine ⟨rfl, rfl, S1, F1, QJ, s0, s1, fr1, ?_⟩
        rcases hc with ⟨e, el, e2, e3, e4, e0, e6⟩ | ⟨Z, hL, hZ2, R, L, I, hp⟩
        · exact Or.inl ⟨e, by rw [meS_lp hl0, el], e2, e3, e4, e0, e6⟩
        · have lz : lpS P m 60 (st0 m s) = .inr Z := by
            rw [hL, show 60 - j = 0 by
              have : 60 ≤ j := (nI_leI (a := 60) (by omega) (by omega)).mp c87
              omega]
            rfl
          exact Or.inr ⟨Z.1, by rw [meS_lp hl0, lz], hZ2, R⟩
      · refine gi_iload_n (q := 91) (i := 3) C (dm_Bu_shapeMethod 59 rfl) rfl rfl rfl ?_
        refine gi_iconst (q := 92) (v := -1) C (dm_Bu_shapeMethod 60 rfl) rfl (by decide) ?_
        refine gi_icmp_eq (q := 95) (tgt := 121) C (dm_Bu_shapeMethod 61 rfl) rfl (by decide) (fun c92 => ?_) (fun c92 => ?_)
        · refine gi_vret C hr (dm_Bu_shapeMethod 76 rfl) ?_
          refine ⟨rfl, rfl, S1, F1, QJ, s0, s1, fr1, ?_⟩
          rcases hc with ⟨e, el, e2, e3, e4, e0, e6⟩ | ⟨Z, hL, hZ2, R, L, I, hp⟩
          · exact Or.inl ⟨e, by rw [meS_lp hl0, el], e2, e3, e4, e0, e6⟩
          · have lz : lpS P m 60 (st0 m s) = .inr Z := by
              rw [hL]
              apply lp_none
              cases e : nxU P m Z with
              | none => rfl
              | some i =>
                exfalso
                have e1 : nxI P m Z = nI i := by unfold nxI; rw [e]
                rw [hp, e1] at c92
                have := (nxU_in e).1
                exact nI_m1ne (by omega) c92
            exact Or.inr ⟨Z.1, by rw [meS_lp hl0, lz], hZ2, R⟩
        · refine gi_aload_n (q := 96) (i := 0) C (dm_Bu_shapeMethod 62 rfl) rfl rfl rfl ?_
          refine gi_get (q := 99) C (dm_Bu_shapeMethod 63 rfl) rfl fl_Bu_38 QJ.ob rfl ?_
          refine gi_if_ne (q := 102) (tgt := 121) C (dm_Bu_shapeMethod 64 rfl) rfl (by decide) (fun c99 => ?_) (fun c99 => ?_)
          · refine gi_vret C hr (dm_Bu_shapeMethod 76 rfl) ?_
            refine ⟨rfl, rfl, S1, F1, QJ, s0, s1, fr1, ?_⟩
            rcases hc with ⟨e, el, e2, e3, e4, e0, e6⟩ | ⟨Z, hL, hZ2, R, L, I, hp⟩
            · exact Or.inl ⟨e, by rw [meS_lp hl0, el], e2, e3, e4, e0, e6⟩
            · have lz : lpS P m 60 (st0 m s) = .inr Z := by
                exact absurd hZ2 c99
              exact Or.inr ⟨Z.1, by rw [meS_lp hl0, lz], hZ2, R⟩
          · obtain ⟨Z, hL, hZ2, R, L, I, rfl⟩ : ∃ Z, lpS P m 60 (st0 m s) = lpS P m (60 - j) Z ∧ S1 2 = 0 ∧ rpS P m Z.1 F1 ∧ rpL P m Z.2 F1 ∧ lpI k P m (upO s (60 * m) (some (0, 0))) Z ∧ pl = nxI P m Z := by
              rcases hc with ⟨e, -, e2, -, -, e0, e6⟩ | hz
              · exfalso
                rw [c99] at e2
                exact e0 ((nI_eq (a := 0) (by omega) (by omega)).mp e2).symm
              · exact hz
            obtain ⟨i, ei⟩ : ∃ i, nxU P m Z = some i := by
              cases e : nxU P m Z with
              | none => exact absurd (show nxI P m Z = -1 by unfold nxI; rw [e]) c92
              | some i => exact ⟨i, rfl⟩
            have ex : nxI P m Z = nI i := by unfold nxI; rw [ei]
            obtain ⟨i1, i2, i3, i4⟩ := nxU_in ei
            obtain ⟨x, hx⟩ := Option.isSome_iff_exists.mp i2
            have j60 : j < 60 := by
              rcases Nat.lt_or_ge j 60 with q | q
              · exact q
              · exact absurd (nI_le (a := 60) q (by omega)) c87
            have eL : lpS P m (60 - j) Z = (match lkS P m i Z with
                | .inl e => .inl e
                | .inr Z' => lpS P m (60 - (j + 1)) Z') := by
              rw [show 60 - j = (60 - (j + 1)) + 1 by omega, lpS, ei]
              rfl
            have HPJ := HP.keep2 (h' := y') (fun b b1 b2 => QJ.2 b (by omega))
            have QJ2 := QJ.ext (h' := y') (fun _ _ _ => rfl)
            refine gi_aload_n (q := 103) (i := 0) C (dm_Bu_shapeMethod 65 rfl) rfl rfl rfl ?_
            refine gi_iload_n (q := 104) (i := 1) C (dm_Bu_shapeMethod 66 rfl) rfl rfl rfl ?_
            refine gi_iload_n (q := 105) (i := 3) C (dm_Bu_shapeMethod 67 rfl) rfl rfl rfl ?_
            rw [ex]
            refine gi_callv 2 (q := 108) C (dm_Bu_shapeMethod 68 rfl) rfl my_Bu_lookAt lk_Bu_96 im_Bu_lookAt rfl (c_Bu_lookAt W hm i1 (hod i i1) HPJ dp hx R L I.s8 hZ2 QJ2) QJ.ob rfl rfl ⟨(Nat.le_of_ble_eq_true rfl), (Nat.le_of_ble_eq_true rfl)⟩ (Nat.le_of_ble_eq_true rfl) ⟨(Nat.le_of_ble_eq_true rfl), (Nat.le_of_ble_eq_true rfl)⟩ (fun r105 n105 h105 e105 => ?_)
            obtain ⟨rfl, rfl, S2, F2, Q2, t0, t1, fr2, hk⟩ := e105
            have Q2' : buO bu pr h S2 F2 h105 := ⟨Q2.1, QJ.2.tr Q2.2⟩
            rcases hk with ⟨e, el, e2, e3, e4, e0, e6⟩ | ⟨Z', el, e2, R2, L2⟩
            · refine gi_aload_n (q := 109) (i := 0) C (dm_Bu_shapeMethod 69 rfl) rfl rfl rfl ?_
              refine gi_iload_n (q := 110) (i := 1) C (dm_Bu_shapeMethod 70 rfl) rfl rfl rfl ?_
              refine gi_iload_n (q := 111) (i := 2) C (dm_Bu_shapeMethod 71 rfl) rfl rfl rfl ?_
              refine gi_callv 2 (q := 114) C (dm_Bu_shapeMethod 72 rfl) rfl my_Bu_leastUnlooked lk_Bu_100 im_Bu_leastUnlooked rfl (c_Bu_leastUnlooked_any W hm Q2) Q2.ob rfl rfl ⟨(Nat.le_of_ble_eq_true rfl), (Nat.le_of_ble_eq_true rfl)⟩ (Nat.le_of_ble_eq_true rfl) ⟨(Nat.le_of_ble_eq_true rfl), (Nat.le_of_ble_eq_true rfl)⟩ (fun r111 n111 h111 e111 => ?_)
              obtain ⟨⟨x9, rfl⟩, rfl, rfl⟩ := e111
              refine gi_istore_n (q := 115) (i := 3) C (dm_Bu_shapeMethod 73 rfl) rfl rfl (Nat.le_of_ble_eq_true rfl) ?_
              refine gi_iinc (q := 118) (v := 1) C (dm_Bu_shapeMethod 74 rfl) rfl rfl (by decide) (Nat.le_of_ble_eq_true rfl) ?_
              refine gi_goto (tgt := 83) C (dm_Bu_shapeMethod 75 rfl) (by decide) ?_
              refine gi_close (ih (j + 1, x9) _ ⟨by dsimp only; omega, S2, F2, Q2', by rw [t0, s0], by rw [t1, s1], fr1.tr fr2, Or.inl ⟨e, by rw [hL, eL, el], e2, e3, e4, e0, e6⟩⟩ (by dsimp only; omega)) (List.forall_mem_cons.mpr ⟨(congrArg (fun x => some (Value.int x)) (nI_1 j)), List.forall_mem_cons.mpr ⟨rfl, List.forall_mem_cons.mpr ⟨rfl, List.forall_mem_cons.mpr ⟨rfl, List.forall_mem_cons.mpr ⟨rfl, fun _ h => absurd h List.not_mem_nil⟩⟩⟩⟩⟩) rfl rfl rfl
            · obtain ⟨I2, lz⟩ := lkS_in W hm I el i2
              refine gi_aload_n (q := 109) (i := 0) C (dm_Bu_shapeMethod 69 rfl) rfl rfl rfl ?_
              refine gi_iload_n (q := 110) (i := 1) C (dm_Bu_shapeMethod 70 rfl) rfl rfl rfl ?_
              refine gi_iload_n (q := 111) (i := 2) C (dm_Bu_shapeMethod 71 rfl) rfl rfl rfl ?_
              refine gi_callv 2 (q := 114) C (dm_Bu_shapeMethod 72 rfl) rfl my_Bu_leastUnlooked lk_Bu_100 im_Bu_leastUnlooked rfl (c_Bu_leastUnlooked W hm R2 L2 I2.s8 Q2) Q2.ob rfl rfl ⟨(Nat.le_of_ble_eq_true rfl), (Nat.le_of_ble_eq_true rfl)⟩ (Nat.le_of_ble_eq_true rfl) ⟨(Nat.le_of_ble_eq_true rfl), (Nat.le_of_ble_eq_true rfl)⟩ (fun r111 n111 h111 e111 => ?_)
              obtain ⟨rfl, q111, u111⟩ := e111
              rw [q111, u111]
              refine gi_istore_n (q := 115) (i := 3) C (dm_Bu_shapeMethod 73 rfl) rfl rfl (Nat.le_of_ble_eq_true rfl) ?_
              refine gi_iinc (q := 118) (v := 1) C (dm_Bu_shapeMethod 74 rfl) rfl rfl (by decide) (Nat.le_of_ble_eq_true rfl) ?_
              refine gi_goto (tgt := 83) C (dm_Bu_shapeMethod 75 rfl) (by decide) ?_
              refine gi_close (ih (j + 1, nxI P m Z') _ ⟨by dsimp only; omega, S2, F2, Q2', by rw [t0, s0], by rw [t1, s1], fr1.tr fr2, Or.inr ⟨Z', by rw [hL, eL, el], e2, R2, L2, I2, rfl⟩⟩ (by dsimp only; omega)) (List.forall_mem_cons.mpr ⟨(congrArg (fun x => some (Value.int x)) (nI_1 j)), List.forall_mem_cons.mpr ⟨rfl, List.forall_mem_cons.mpr ⟨rfl, List.forall_mem_cons.mpr ⟨rfl, List.forall_mem_cons.mpr ⟨rfl, fun _ h => absurd h List.not_mem_nil⟩⟩⟩⟩⟩) rfl rfl rfl
    · have hl : j < pN P 5 m := by
        rcases Nat.lt_or_ge j (pN P 5 m) with q | q
        · exact q
        · exact absurd (nI_le q (by omega)) c25
      refine gi_aload_n (q := 29) (i := 0) C (dm_Bu_shapeMethod 18 rfl) rfl rfl rfl ?_
      refine gi_get (q := 32) C (dm_Bu_shapeMethod 19 rfl) rfl fl_Bu_9 (by first | exact Q4.ob | exact Q3.ob | exact QJ.ob) rfl ?_
      refine gi_iload_n (q := 33) (i := 1) C (dm_Bu_shapeMethod 20 rfl) rfl rfl rfl ?_
      refine gi_bipush (q := 35) (v := 60) C (dm_Bu_shapeMethod 21 rfl) rfl (by decide) ?_
      refine gi_imul (q := 36) C (dm_Bu_shapeMethod 22 rfl) rfl ?_
      refine gi_iload_n (q := 37) (i := 3) C (dm_Bu_shapeMethod 23 rfl) rfl rfl rfl ?_
      refine gi_iadd (q := 38) C (dm_Bu_shapeMethod 24 rfl) rfl ?_
      rw [at_60]
      refine gi_iconst (q := 39) (v := -1) C (dm_Bu_shapeMethod 25 rfl) rfl (by decide) ?_
      refine gi_iast (q := 40) C (dm_Bu_shapeMethod 26 rfl) rfl rfl QJ.a6 (vp_in_nI (by omega) (by omega)) ?_
      rw [nI_clamp (show 60 * m + j < 2 ^ 31 by omega)]
      have Q3 := QJ.s6 (upd ((upA (upA F 6 (fun p => if 60 * m ≤ p ∧ p < 60 * m + j then -1 else F 6 p)) 8 (fun p => if 60 * m ≤ p ∧ p < 60 * m + j then 0 else F 8 p)) 6) (60 * m + j) (-1))
      refine gi_aload_n (q := 41) (i := 0) C (dm_Bu_shapeMethod 27 rfl) rfl rfl rfl ?_
      refine gi_get (q := 44) C (dm_Bu_shapeMethod 28 rfl) rfl fl_Bu_18 (by first | exact Q4.ob | exact Q3.ob | exact QJ.ob) rfl ?_
      refine gi_iload_n (q := 45) (i := 1) C (dm_Bu_shapeMethod 29 rfl) rfl rfl rfl ?_
      refine gi_bipush (q := 47) (v := 60) C (dm_Bu_shapeMethod 30 rfl) rfl (by decide) ?_
      refine gi_imul (q := 48) C (dm_Bu_shapeMethod 31 rfl) rfl ?_
      refine gi_iload_n (q := 49) (i := 3) C (dm_Bu_shapeMethod 32 rfl) rfl rfl rfl ?_
      refine gi_iadd (q := 50) C (dm_Bu_shapeMethod 33 rfl) rfl ?_
      rw [at_60]
      refine gi_iconst (q := 51) (v := 0) C (dm_Bu_shapeMethod 34 rfl) rfl (by decide) ?_
      refine gi_zast (q := 52) C (dm_Bu_shapeMethod 35 rfl) rfl rfl Q3.a8 (vp_in_nI (by omega) (by omega)) ?_
      rw [nI_clamp (show 60 * m + j < 2 ^ 31 by omega)]
      have Q4 := Q3.s8 (upd ((upA (upA F 6 (fun p => if 60 * m ≤ p ∧ p < 60 * m + j then -1 else F 6 p)) 8 (fun p => if 60 * m ≤ p ∧ p < 60 * m + j then 0 else F 8 p)) 8) (60 * m + j) 0)
      have eF : upA (upA (upA (upA F 6 (fun p => if 60 * m ≤ p ∧ p < 60 * m + j then -1 else F 6 p)) 8 (fun p => if 60 * m ≤ p ∧ p < 60 * m + j then 0 else F 8 p)) 6 (upd ((upA (upA F 6 (fun p => if 60 * m ≤ p ∧ p < 60 * m + j then -1 else F 6 p)) 8 (fun p => if 60 * m ≤ p ∧ p < 60 * m + j then 0 else F 8 p)) 6) (60 * m + j) (-1))) 8 (upd ((upA (upA F 6 (fun p => if 60 * m ≤ p ∧ p < 60 * m + j then -1 else F 6 p)) 8 (fun p => if 60 * m ≤ p ∧ p < 60 * m + j then 0 else F 8 p)) 8) (60 * m + j) 0) = (upA (upA F 6 (fun p => if 60 * m ≤ p ∧ p < 60 * m + (j + 1) then -1 else F 6 p)) 8 (fun p => if 60 * m ≤ p ∧ p < 60 * m + (j + 1) then 0 else F 8 p)) := by
        rw [upA_fill]
        congr 1
        · congr 1
          exact fill_up
        · exact fill_up
      refine gi_iinc (q := 55) (v := 1) C (dm_Bu_shapeMethod 36 rfl) rfl rfl (by decide) (Nat.le_of_ble_eq_true rfl) ?_
      refine gi_goto (tgt := 23) C (dm_Bu_shapeMethod 37 rfl) (by decide) ?_
      refine gi_close (ih (j + 1) _ ⟨by omega, ?_⟩ (by omega)) (List.forall_mem_cons.mpr ⟨(congrArg (fun x => some (Value.int x)) (nI_1 j)), List.forall_mem_cons.mpr ⟨rfl, List.forall_mem_cons.mpr ⟨rfl, List.forall_mem_cons.mpr ⟨rfl, fun _ h => absurd h List.not_mem_nil⟩⟩⟩⟩) rfl rfl rfl
      rw [← eF]
      exact Q4
  · refine gi_aload_n (q := 14) (i := 0) C (dm_Bu_shapeMethod 7 rfl) rfl rfl rfl ?_
    refine gi_iconst (q := 15) (v := 4) C (dm_Bu_shapeMethod 8 rfl) rfl (by decide) ?_
    refine gi_iload_n (q := 16) (i := 1) C (dm_Bu_shapeMethod 9 rfl) rfl rfl rfl ?_
    refine gi_iconst (q := 17) (v := 0) C (dm_Bu_shapeMethod 10 rfl) rfl (by decide) ?_
    refine gi_callv 3 (q := 20) C (dm_Bu_shapeMethod 11 rfl) rfl my_Bu_faultIs lk_Bu_92 im_Bu_faultIs rfl (c_Bu_faultIs 4 (nI m) 0 Q) Q.ob rfl rfl ⟨(Nat.le_of_ble_eq_true rfl), (Nat.le_of_ble_eq_true rfl)⟩ (Nat.le_of_ble_eq_true rfl) ⟨(Nat.le_of_ble_eq_true rfl), (Nat.le_of_ble_eq_true rfl)⟩ (fun r17 n17 h17 e17 => ?_)
    obtain ⟨rfl, rfl, Q17⟩ := e17
    refine gi_vret C hr (dm_Bu_shapeMethod 12 rfl) ?_
    have l0 : pN P 5 m = 0 := (nI_eq (b := 0) (by omega) (by omega)).mp c10
    refine ⟨rfl, rfl, _, _, Q17, by simp [upS], by simp [upS], frB.rf, Or.inl ⟨(4, m, 0), ?_, by simp [upS]; rfl, by simp [upS], by simp [upS]; rfl, (show (4 : Nat) ≠ 0 by decide), (show (4 : Nat) ≤ 6 by decide)⟩⟩
    unfold meS
    rw [if_pos l0]
end BU4
