-- needs: 89.12
section BU3
variable {l : Launch} {V : gi_V} {n : Nat} {h h' h0 : gi_H} {bu pr k m i t : Nat} {S : Nat → Int32} {F : Nat → Nat → Int32} {P : Pm} {s : Nat → Option Sh} {lk : Nat → Bool} {y : Sh} {Z : ShL}
/-- shapes, as the arrays of a method's places hold them -/
def rpS (P : Pm) (m : Nat) (s : Nat → Option Sh) (F : Nat → Nat → Int32) : Prop := ∀ i, i < pN P 5 m → (s (60 * m + i) = none → F 6 (60 * m + i) = -1) ∧ ∀ x, s (60 * m + i) = some x → F 6 (60 * m + i) = nI x.1 ∧ F 7 (60 * m + i) = nI x.2
def rpL (P : Pm) (m : Nat) (lk : Nat → Bool) (F : Nat → Nat → Int32) : Prop := ∀ i, i < pN P 5 m → F 8 (60 * m + i) = bI (lk (60 * m + i))
/-- only a method's own places have changed -/
def frB (m : Nat) (F F' : Nat → Nat → Int32) : Prop := (∀ j, j ≠ 6 → j ≠ 7 → j ≠ 8 → F' j = F j) ∧ ∀ j p, p < 60 * m ∨ 60 * m + 60 ≤ p → F' j p = F j p
theorem frB.rf : frB m F F := ⟨fun _ _ _ _ => rfl, fun _ _ _ => rfl⟩
theorem frB.tr {A B C : Nat → Nat → Int32} (p : frB m A B) (q : frB m B C) : frB m A C := ⟨fun j h1 h2 h3 => (q.1 j h1 h2 h3).trans (p.1 j h1 h2 h3), fun j x hx => (q.2 j x hx).trans (p.2 j x hx)⟩
theorem frB.up {j x : Nat} {g : Int32} (hj : j = 6 ∨ j = 7 ∨ j = 8) (hx : 60 * m ≤ x ∧ x < 60 * m + 60) : frB m F (upA F j (upd (F j) x g)) := by
  refine ⟨fun j' h1 h2 h3 => by simp [upA, show j' ≠ j by omega], fun j' p hp => ?_⟩
  by_cases e : j' = j
  · subst e
    simp [upA, upd, show p ≠ x by omega]
  · simp [upA, e]
def upFl (S : Nat → Int32) (e : Flt) : Nat → Int32 := upS (upS (upS S 2 (nI e.1)) 3 (nI e.2.1)) 4 (nI e.2.2)
theorem isP_d (W : wfP k P) (hm : m < k) (ht : t ≤ 60) : isP k P (nI m) (nI t) = decide (t < pN P 5 m) := by
  have w := wf_ar W hm
  have wn := wf_n W hm
  unfold isP
  rw [isM_y W.k8 hm, nI_clamp (by have := W.k8; omega), wn.2.2.2.1, decide_eq_true (nI_nn (by omega)), Bool.true_and, Bool.true_and]
  rw [decide_eq_decide]
  exact nI_ltI (by omega) (by omega)
theorem nI_m1ne {x : Nat} (h : x < 2 ^ 31) : ¬ nI x = -1 := nI_ne_m1 h
set_option maxHeartbeats 4000000 in
set_option maxRecDepth 100000 in
theorem c_Bu_shapeComes (W : wfP k P) (hm : m < k) (hi : i ≤ 60) (ht : t ≤ 60) (HP : pr_at pr (nI k) P h) (hy : isX S y) (R : rpS P m s F) (hs8 : ∀ p x, s p = some x → x.1 ≤ 8 ∧ x.2 < 2 ^ x.1) (Q : buO bu pr h0 S F h) : gi_T l V y_Bu_shapeComes b_Bu_shapeComes 5 none 2 43 0 0 [.ref bu, .int (nI m), .int (nI i), .int (nI t)] n h (fun v n' h' => v = none ∧ n' = n ∧ ((∃ e, cmS P m i t y s = .inl e ∧ buO bu pr h0 (upFl S e) F h' ∧ e.1 ≠ 0) ∨ (∃ s' F', cmS P m i t y s = .inr s' ∧ buO bu pr h0 S F' h' ∧ frB m F F' ∧ rpS P m s' F' ∧ F' 8 = F 8))) := by
  refine gi_enter (by decide) (Nat.le_of_ble_eq_true rfl) ?_
  intro _ _ _ _ _ _ _ _ C hr hnm
  refine gi_aload_n (q := 1) (i := 0) C (dm_Bu_shapeComes 0 rfl) rfl rfl rfl ?_
  refine gi_get (q := 4) C (dm_Bu_shapeComes 1 rfl) rfl fl_Bu_34 Q.ob rfl ?_
  refine gi_iload_n (q := 5) (i := 1) C (dm_Bu_shapeComes 2 rfl) rfl rfl rfl ?_
  refine gi_iload_n (q := 6) (i := 3) C (dm_Bu_shapeComes 3 rfl) rfl rfl rfl ?_
  refine gi_callv 2 (q := 9) C (dm_Bu_shapeComes 4 rfl) rfl my_Pr_hasPlace lk_Bu_73 im_Pr_hasPlace rfl (c_Pr_hasPlace (nI m) (nI t) W.k8 HP) HP.1 rfl rfl ⟨(Nat.le_of_ble_eq_true rfl), (Nat.le_of_ble_eq_true rfl)⟩ (Nat.le_of_ble_eq_true rfl) ⟨(Nat.le_of_ble_eq_true rfl), (Nat.le_of_ble_eq_true rfl)⟩ (fun r6 n6 h6 e6 => ?_)
  obtain ⟨rfl, q6, u6⟩ := e6
  rw [q6, u6]
  refine gi_if_ne (q := 12) (tgt := 20) C (dm_Bu_shapeComes 5 rfl) rfl (by decide) (fun c9 => ?_) (fun c9 => ?_)
  · have tl : t < pN P 5 m := of_decide_eq_true (bI_t (by rw [isP_d W hm ht] at c9; exact c9))
    have R0 := R t tl
    have wm := wf_ar W hm
    have w8 := W.k8
    refine gi_iload_n (q := 21) (i := 1) C (dm_Bu_shapeComes 12 rfl) rfl rfl rfl ?_
    refine gi_bipush (q := 23) (v := 60) C (dm_Bu_shapeComes 13 rfl) rfl (by decide) ?_
    refine gi_imul (q := 24) C (dm_Bu_shapeComes 14 rfl) rfl ?_
    refine gi_iload_n (q := 25) (i := 3) C (dm_Bu_shapeComes 15 rfl) rfl rfl rfl ?_
    refine gi_iadd (q := 26) C (dm_Bu_shapeComes 16 rfl) rfl ?_
    refine gi_istore (q := 28) C (dm_Bu_shapeComes 17 rfl) rfl (Nat.le_of_ble_eq_true rfl) ?_
    rw [at_60]
    refine gi_aload_n (q := 29) (i := 0) C (dm_Bu_shapeComes 18 rfl) rfl rfl rfl ?_
    refine gi_get (q := 32) C (dm_Bu_shapeComes 19 rfl) rfl fl_Bu_9 Q.ob rfl ?_
    refine gi_iload (q := 34) C (dm_Bu_shapeComes 20 rfl) rfl rfl ?_
    refine gi_iald (q := 35) C (dm_Bu_shapeComes 21 rfl) rfl rfl Q.a6 (vp_in_nI (by omega) (by omega)) ?_
    rw [nI_clamp (show 60 * m + t < 2 ^ 31 by omega)]
    refine gi_iconst (q := 36) (v := -1) C (dm_Bu_shapeComes 22 rfl) rfl (by decide) ?_
    refine gi_icmp_ne (q := 39) (tgt := 64) C (dm_Bu_shapeComes 23 rfl) rfl (by decide) (fun c36 => ?_) (fun c36 => ?_)
    · obtain ⟨z, ez⟩ : ∃ z, s (60 * m + t) = some z := by
        cases e : s (60 * m + t) with
        | none => exact absurd (R0.1 e) c36
        | some z => exact ⟨z, rfl⟩
      obtain ⟨r6, r7⟩ := R0.2 z ez
      obtain ⟨z8, z2⟩ := hs8 _ _ ez
      have zz : z.2 < 2 ^ 31 := Nat.lt_of_lt_of_le z2 (Nat.pow_le_pow_right (by decide) (by omega))
      have yy : y.2 < 2 ^ 31 := Nat.lt_of_lt_of_le hy.2.2.2 (Nat.pow_le_pow_right (by decide) (by have := hy.2.2.1; omega))
      have y12 := hy.2.2.1
      refine gi_aload_n (q := 65) (i := 0) C (dm_Bu_shapeComes 37 rfl) rfl rfl rfl ?_
      refine gi_get (q := 68) C (dm_Bu_shapeComes 38 rfl) rfl fl_Bu_9 Q.ob rfl ?_
      refine gi_iload (q := 70) C (dm_Bu_shapeComes 39 rfl) rfl rfl ?_
      refine gi_iald (q := 71) C (dm_Bu_shapeComes 40 rfl) rfl rfl Q.a6 (vp_in_nI (by omega) (by omega)) ?_
      rw [nI_clamp (show 60 * m + t < 2 ^ 31 by omega)]
      refine gi_aload_n (q := 72) (i := 0) C (dm_Bu_shapeComes 41 rfl) rfl rfl rfl ?_
      refine gi_get (q := 75) C (dm_Bu_shapeComes 42 rfl) rfl fl_Bu_103 Q.ob rfl ?_
      rw [hy.1]
      refine gi_icmp_ne (q := 78) (tgt := 92) C (dm_Bu_shapeComes 43 rfl) rfl (by decide) (fun c75 => ?_) (fun c75 => ?_)
      · refine gi_aload_n (q := 93) (i := 0) C (dm_Bu_shapeComes 51 rfl) rfl rfl rfl ?_
        refine gi_iconst (q := 94) (v := 5) C (dm_Bu_shapeComes 52 rfl) rfl (by decide) ?_
        refine gi_iload_n (q := 95) (i := 1) C (dm_Bu_shapeComes 53 rfl) rfl rfl rfl ?_
        refine gi_iload_n (q := 96) (i := 2) C (dm_Bu_shapeComes 54 rfl) rfl rfl rfl ?_
        refine gi_callv 3 (q := 99) C (dm_Bu_shapeComes 55 rfl) rfl my_Bu_faultIs lk_Bu_92 im_Bu_faultIs rfl (c_Bu_faultIs 5 (nI m) (nI i) Q) Q.ob rfl rfl ⟨(Nat.le_of_ble_eq_true rfl), (Nat.le_of_ble_eq_true rfl)⟩ (Nat.le_of_ble_eq_true rfl) ⟨(Nat.le_of_ble_eq_true rfl), (Nat.le_of_ble_eq_true rfl)⟩ (fun r96 n96 h96 e96 => ?_)
        obtain ⟨rfl, rfl, Q96⟩ := e96
        refine gi_vret C hr (dm_Bu_shapeComes 56 rfl) ?_
        first
          | (refine ⟨rfl, rfl, Or.inl ⟨(5, m, i), ?_, Q96, (show (5 : Nat) ≠ 0 by decide)⟩⟩
             unfold cmS
             rw [if_pos tl, ez]
             show (if z = y then _ else _) = _
             rw [if_neg]
             intro e
             subst e
             first
               | exact absurd r6 c75
               | exact absurd r7 c89)
          | (refine ⟨rfl, rfl, Or.inr ⟨s, F, ?_, Q, frB.rf, R, rfl⟩⟩
             unfold cmS
             rw [if_pos tl, ez]
             show (if z = y then _ else _) = _
             rw [if_pos]
             have e1 := c75
             have e2 := c89
             rw [r6, nI_eq (by omega) (by omega)] at e1
             rw [r7, nI_eq zz yy] at e2
             exact Prod.ext e1 e2)
      · refine gi_aload_n (q := 79) (i := 0) C (dm_Bu_shapeComes 44 rfl) rfl rfl rfl ?_
        refine gi_get (q := 82) C (dm_Bu_shapeComes 45 rfl) rfl fl_Bu_15 Q.ob rfl ?_
        refine gi_iload (q := 84) C (dm_Bu_shapeComes 46 rfl) rfl rfl ?_
        refine gi_iald (q := 85) C (dm_Bu_shapeComes 47 rfl) rfl rfl Q.a7 (vp_in_nI (by omega) (by omega)) ?_
        rw [nI_clamp (show 60 * m + t < 2 ^ 31 by omega)]
        refine gi_aload_n (q := 86) (i := 0) C (dm_Bu_shapeComes 48 rfl) rfl rfl rfl ?_
        refine gi_get (q := 89) C (dm_Bu_shapeComes 49 rfl) rfl fl_Bu_106 Q.ob rfl ?_
        rw [hy.2.1]
        refine gi_icmp_eq (q := 92) (tgt := 99) C (dm_Bu_shapeComes 50 rfl) rfl (by decide) (fun c89 => ?_) (fun c89 => ?_)
        · refine gi_vret C hr (dm_Bu_shapeComes 56 rfl) ?_
          first
            | (refine ⟨rfl, rfl, Or.inl ⟨(5, m, i), ?_, Q96, (show (5 : Nat) ≠ 0 by decide)⟩⟩
               unfold cmS
               rw [if_pos tl, ez]
               show (if z = y then _ else _) = _
               rw [if_neg]
               intro e
               subst e
               first
                 | exact absurd r6 c75
                 | exact absurd r7 c89)
            | (refine ⟨rfl, rfl, Or.inr ⟨s, F, ?_, Q, frB.rf, R, rfl⟩⟩
               unfold cmS
               rw [if_pos tl, ez]
               show (if z = y then _ else _) = _
               rw [if_pos]
               have e1 := c75
               have e2 := c89
               rw [r6, nI_eq (by omega) (by omega)] at e1
               rw [r7, nI_eq zz yy] at e2
               exact Prod.ext e1 e2)
        · refine gi_aload_n (q := 93) (i := 0) C (dm_Bu_shapeComes 51 rfl) rfl rfl rfl ?_
          refine gi_iconst (q := 94) (v := 5) C (dm_Bu_shapeComes 52 rfl) rfl (by decide) ?_
          refine gi_iload_n (q := 95) (i := 1) C (dm_Bu_shapeComes 53 rfl) rfl rfl rfl ?_
          refine gi_iload_n (q := 96) (i := 2) C (dm_Bu_shapeComes 54 rfl) rfl rfl rfl ?_
          refine gi_callv 3 (q := 99) C (dm_Bu_shapeComes 55 rfl) rfl my_Bu_faultIs lk_Bu_92 im_Bu_faultIs rfl (c_Bu_faultIs 5 (nI m) (nI i) Q) Q.ob rfl rfl ⟨(Nat.le_of_ble_eq_true rfl), (Nat.le_of_ble_eq_true rfl)⟩ (Nat.le_of_ble_eq_true rfl) ⟨(Nat.le_of_ble_eq_true rfl), (Nat.le_of_ble_eq_true rfl)⟩ (fun r96 n96 h96 e96 => ?_)
          obtain ⟨rfl, rfl, Q96⟩ := e96
          refine gi_vret C hr (dm_Bu_shapeComes 56 rfl) ?_
          first
            | (refine ⟨rfl, rfl, Or.inl ⟨(5, m, i), ?_, Q96, (show (5 : Nat) ≠ 0 by decide)⟩⟩
               unfold cmS
               rw [if_pos tl, ez]
               show (if z = y then _ else _) = _
               rw [if_neg]
               intro e
               subst e
               first
                 | exact absurd r6 c75
                 | exact absurd r7 c89)
            | (refine ⟨rfl, rfl, Or.inr ⟨s, F, ?_, Q, frB.rf, R, rfl⟩⟩
               unfold cmS
               rw [if_pos tl, ez]
               show (if z = y then _ else _) = _
               rw [if_pos]
               have e1 := c75
               have e2 := c89
               rw [r6, nI_eq (by omega) (by omega)] at e1
               rw [r7, nI_eq zz yy] at e2
               exact Prod.ext e1 e2)
    · refine gi_aload_n (q := 40) (i := 0) C (dm_Bu_shapeComes 24 rfl) rfl rfl rfl ?_
      refine gi_get (q := 43) C (dm_Bu_shapeComes 25 rfl) rfl fl_Bu_9 Q.ob rfl ?_
      refine gi_iload (q := 45) C (dm_Bu_shapeComes 26 rfl) rfl rfl ?_
      refine gi_aload_n (q := 46) (i := 0) C (dm_Bu_shapeComes 27 rfl) rfl rfl rfl ?_
      refine gi_get (q := 49) C (dm_Bu_shapeComes 28 rfl) rfl fl_Bu_103 Q.ob rfl ?_
      refine gi_iast (q := 50) C (dm_Bu_shapeComes 29 rfl) rfl rfl Q.a6 (vp_in_nI (by omega) (by omega)) ?_
      rw [nI_clamp (show 60 * m + t < 2 ^ 31 by omega), hy.1]
      have Q1 := Q.s6 (upd (F 6) (60 * m + t) (nI y.1))
      refine gi_aload_n (q := 51) (i := 0) C (dm_Bu_shapeComes 30 rfl) rfl rfl rfl ?_
      refine gi_get (q := 54) C (dm_Bu_shapeComes 31 rfl) rfl fl_Bu_15 Q1.ob rfl ?_
      refine gi_iload (q := 56) C (dm_Bu_shapeComes 32 rfl) rfl rfl ?_
      refine gi_aload_n (q := 57) (i := 0) C (dm_Bu_shapeComes 33 rfl) rfl rfl rfl ?_
      refine gi_get (q := 60) C (dm_Bu_shapeComes 34 rfl) rfl fl_Bu_106 Q1.ob rfl ?_
      refine gi_iast (q := 61) C (dm_Bu_shapeComes 35 rfl) rfl rfl Q1.a7 (vp_in_nI (by omega) (by omega)) ?_
      rw [nI_clamp (show 60 * m + t < 2 ^ 31 by omega), hy.2.1]
      have Q2 := Q1.s7 (upd (upA F 6 (upd (F 6) (60 * m + t) (nI y.1)) 7) (60 * m + t) (nI y.2))
      refine gi_goto (tgt := 99) C (dm_Bu_shapeComes 36 rfl) (by decide) ?_
      refine gi_vret C hr (dm_Bu_shapeComes 56 rfl) ?_
      have e0 : s (60 * m + t) = none := by
        cases e : s (60 * m + t) with
        | none => rfl
        | some z =>
          exfalso
          have q := (R0.2 z e).1
          rw [c36] at q
          exact nI_m1ne (by have := hs8 _ _ e; omega) q.symm
      refine ⟨rfl, rfl, Or.inr ⟨upO s (60 * m + t) (some y), _, ?_, Q2, (frB.up (Or.inl rfl) (by omega)).tr (frB.up (Or.inr (Or.inl rfl)) (by omega)), fun j hj => ?_, ?_⟩⟩
      · unfold cmS
        rw [if_pos tl, e0]
      · by_cases e : j = t
        · subst e
          refine ⟨fun z => (by rw [upO_self] at z; cases z), fun x hx => ?_⟩
          rw [upO_self] at hx
          cases hx
          exact ⟨by simp [upA, upd], by simp [upA, upd]⟩
        · rw [upO_ne (by omega)]
          have Rj := R j hj
          refine ⟨fun z => ?_, fun x hx => ?_⟩
          · have := Rj.1 z
            simp [upA, upd, show 60 * m + j ≠ 60 * m + t by omega, this, e]
          · have := Rj.2 x hx
            simp [upA, upd, show 60 * m + j ≠ 60 * m + t by omega, this, e]
      · simp [upA]
  · refine gi_aload_n (q := 13) (i := 0) C (dm_Bu_shapeComes 6 rfl) rfl rfl rfl ?_
    refine gi_iconst (q := 14) (v := 4) C (dm_Bu_shapeComes 7 rfl) rfl (by decide) ?_
    refine gi_iload_n (q := 15) (i := 1) C (dm_Bu_shapeComes 8 rfl) rfl rfl rfl ?_
    refine gi_iload_n (q := 16) (i := 2) C (dm_Bu_shapeComes 9 rfl) rfl rfl rfl ?_
    refine gi_callv 3 (q := 19) C (dm_Bu_shapeComes 10 rfl) rfl my_Bu_faultIs lk_Bu_92 im_Bu_faultIs rfl (c_Bu_faultIs 4 (nI m) (nI i) Q) Q.ob rfl rfl ⟨(Nat.le_of_ble_eq_true rfl), (Nat.le_of_ble_eq_true rfl)⟩ (Nat.le_of_ble_eq_true rfl) ⟨(Nat.le_of_ble_eq_true rfl), (Nat.le_of_ble_eq_true rfl)⟩ (fun r16 n16 h16 e16 => ?_)
    obtain ⟨rfl, rfl, Q16⟩ := e16
    refine gi_vret C hr (dm_Bu_shapeComes 11 rfl) ?_
    have tl : ¬ t < pN P 5 m := of_decide_eq_false (bI_fa (by rw [isP_d W hm ht] at c9; exact c9))
    refine ⟨rfl, rfl, Or.inl ⟨(4, m, i), ?_, Q16, (show (4 : Nat) ≠ 0 by decide)⟩⟩
    unfold cmS
    rw [if_neg tl]
set_option maxHeartbeats 4000000 in
set_option maxRecDepth 100000 in
theorem c_Bu_leastUnlooked (W : wfP k P) (hm : m < k) (R : rpS P m Z.1 F) (L : rpL P m Z.2 F) (hs8 : ∀ p x, Z.1 p = some x → x.1 ≤ 8 ∧ x.2 < 2 ^ x.1) (Q : buO bu pr h0 S F h) : gi_T l V y_Bu_leastUnlooked b_Bu_leastUnlooked 4 (some .int) 0 0 0 0 [.ref bu, .int (nI m), .int (nI (pN P 5 m))] n h (gi_is (some (.int (match nxU P m Z with | none => -1 | some i => nI i))) n h) := by
  refine gi_enter (by decide) (Nat.le_of_ble_eq_true rfl) ?_
  intro _ _ _ _ _ _ _ _ C hr hnm
  have w8 := W.k8
  have wm := wf_ar W hm
  refine gi_iconst (q := 1) (v := 0) C (dm_Bu_leastUnlooked 0 rfl) rfl (by decide) ?_
  refine gi_istore_n (q := 2) (i := 3) C (dm_Bu_leastUnlooked 1 rfl) rfl rfl (Nat.le_of_ble_eq_true rfl) ?_
  refine gi_while (σ := Nat) (fun j => pN P 5 m - j) (fun j => [(3, .int (nI j)), (0, .ref bu), (1, .int (nI m)), (2, .int (nI (pN P 5 m)))]) (fun _ => n) (fun _ => 0) (fun _ => 0) (fun j y => y = h ∧ j ≤ pN P 5 m ∧ ∀ q, q < j → unl m Z q = false) 0 ⟨rfl, Nat.zero_le _, fun q hq => absurd hq (by omega)⟩ ?_ (List.forall_mem_cons.mpr ⟨rfl, List.forall_mem_cons.mpr ⟨rfl, List.forall_mem_cons.mpr ⟨rfl, List.forall_mem_cons.mpr ⟨rfl, fun _ h => absurd h List.not_mem_nil⟩⟩⟩⟩) rfl rfl rfl
  rintro j y' ⟨rfl, hj, hU⟩ ih
  try dsimp only at *
  refine gi_iload_n (q := 3) (i := 3) C (dm_Bu_leastUnlooked 2 rfl) rfl rfl rfl ?_
  refine gi_iload_n (q := 4) (i := 2) C (dm_Bu_leastUnlooked 3 rfl) rfl rfl rfl ?_
  refine gi_icmp_ge (q := 7) (tgt := 44) C (dm_Bu_leastUnlooked 4 rfl) rfl (by decide) (fun c4 => ?_) (fun c4 => ?_)
  · refine gi_iconst (q := 45) (v := -1) C (dm_Bu_leastUnlooked 28 rfl) rfl (by decide) ?_
    refine gi_iret C hr (dm_Bu_leastUnlooked 29 rfl) ?_
    have e : nxU P m Z = none := rng_no (fun q hq => hU q (by
      rcases Nat.lt_or_ge j (pN P 5 m) with z | z
      · exact absurd c4 (Int32.not_le.mpr (nI_lt z (by omega)))
      · omega))
    rw [e]
    exact ⟨rfl, rfl, rfl⟩
  · have hl : j < pN P 5 m := by
      rcases Nat.lt_or_ge j (pN P 5 m) with q | q
      · exact q
      · exact absurd (nI_le q (by omega)) c4
    have L1 := R j hl
    have L2 := L j hl
    refine gi_aload_n (q := 8) (i := 0) C (dm_Bu_leastUnlooked 5 rfl) rfl rfl rfl ?_
    refine gi_get (q := 11) C (dm_Bu_leastUnlooked 6 rfl) rfl fl_Bu_9 Q.ob rfl ?_
    refine gi_iload_n (q := 12) (i := 1) C (dm_Bu_leastUnlooked 7 rfl) rfl rfl rfl ?_
    refine gi_bipush (q := 14) (v := 60) C (dm_Bu_leastUnlooked 8 rfl) rfl (by decide) ?_
    refine gi_imul (q := 15) C (dm_Bu_leastUnlooked 9 rfl) rfl ?_
    refine gi_iload_n (q := 16) (i := 3) C (dm_Bu_leastUnlooked 10 rfl) rfl rfl rfl ?_
    refine gi_iadd (q := 17) C (dm_Bu_leastUnlooked 11 rfl) rfl ?_
    rw [at_60]
    refine gi_iald (q := 18) C (dm_Bu_leastUnlooked 12 rfl) rfl rfl Q.a6 (vp_in_nI (by omega) (by omega)) ?_
    rw [nI_clamp (show 60 * m + j < 2 ^ 31 by omega)]
    refine gi_iconst (q := 19) (v := -1) C (dm_Bu_leastUnlooked 13 rfl) rfl (by decide) ?_
    refine gi_icmp_eq (q := 22) (tgt := 38) C (dm_Bu_leastUnlooked 14 rfl) rfl (by decide) (fun c19 => ?_) (fun c19 => ?_)
    · have u : unl m Z j = false := by
        unfold unl
        have e0 : Z.1 (60 * m + j) = none := by
          cases e : Z.1 (60 * m + j) with
          | none => rfl
          | some z => exact absurd (((L1.2 z e).1).symm.trans c19) (nI_m1ne (by have := hs8 _ _ e; omega))
        rw [e0]
        rfl
      refine gi_iinc (q := 41) (v := 1) C (dm_Bu_leastUnlooked 26 rfl) rfl rfl (by decide) (Nat.le_of_ble_eq_true rfl) ?_
      refine gi_goto (tgt := 2) C (dm_Bu_leastUnlooked 27 rfl) (by decide) ?_
      refine gi_close (ih (j + 1) _ ⟨rfl, by omega, fun q hq => ?_⟩ (by omega)) (List.forall_mem_cons.mpr ⟨(congrArg (fun x => some (Value.int x)) (nI_1 j)), List.forall_mem_cons.mpr ⟨rfl, List.forall_mem_cons.mpr ⟨rfl, List.forall_mem_cons.mpr ⟨rfl, fun _ h => absurd h List.not_mem_nil⟩⟩⟩⟩) rfl rfl rfl
      rcases Nat.lt_or_ge q j with z | z
      · exact hU q z
      · rw [show q = j by omega]
        exact u
    · refine gi_aload_n (q := 23) (i := 0) C (dm_Bu_leastUnlooked 15 rfl) rfl rfl rfl ?_
      refine gi_get (q := 26) C (dm_Bu_leastUnlooked 16 rfl) rfl fl_Bu_18 Q.ob rfl ?_
      refine gi_iload_n (q := 27) (i := 1) C (dm_Bu_leastUnlooked 17 rfl) rfl rfl rfl ?_
      refine gi_bipush (q := 29) (v := 60) C (dm_Bu_leastUnlooked 18 rfl) rfl (by decide) ?_
      refine gi_imul (q := 30) C (dm_Bu_leastUnlooked 19 rfl) rfl ?_
      refine gi_iload_n (q := 31) (i := 3) C (dm_Bu_leastUnlooked 20 rfl) rfl rfl rfl ?_
      refine gi_iadd (q := 32) C (dm_Bu_leastUnlooked 21 rfl) rfl ?_
      rw [at_60]
      refine gi_zald (q := 33) C (dm_Bu_leastUnlooked 22 rfl) rfl rfl Q.a8 (vp_in_nI (by omega) (by omega)) ?_
      rw [nI_clamp (show 60 * m + j < 2 ^ 31 by omega)]
      refine gi_if_ne (q := 36) (tgt := 38) C (dm_Bu_leastUnlooked 23 rfl) rfl (by decide) (fun c33 => ?_) (fun c33 => ?_)
      · have u : unl m Z j = false := by
          unfold unl
          have e0 : Z.2 (60 * m + j) = true := bI_t (by rw [← L2]; exact c33)
          rw [e0]
          simp
        refine gi_iinc (q := 41) (v := 1) C (dm_Bu_leastUnlooked 26 rfl) rfl rfl (by decide) (Nat.le_of_ble_eq_true rfl) ?_
        refine gi_goto (tgt := 2) C (dm_Bu_leastUnlooked 27 rfl) (by decide) ?_
        refine gi_close (ih (j + 1) _ ⟨rfl, by omega, fun q hq => ?_⟩ (by omega)) (List.forall_mem_cons.mpr ⟨(congrArg (fun x => some (Value.int x)) (nI_1 j)), List.forall_mem_cons.mpr ⟨rfl, List.forall_mem_cons.mpr ⟨rfl, List.forall_mem_cons.mpr ⟨rfl, fun _ h => absurd h List.not_mem_nil⟩⟩⟩⟩) rfl rfl rfl
        rcases Nat.lt_or_ge q j with z | z
        · exact hU q z
        · rw [show q = j by omega]
          exact u
      · refine gi_iload_n (q := 37) (i := 3) C (dm_Bu_leastUnlooked 24 rfl) rfl rfl rfl ?_
        refine gi_iret C hr (dm_Bu_leastUnlooked 25 rfl) ?_
        have u : unl m Z j = true := by
          unfold unl
          rw [show Z.2 (60 * m + j) = false from bI_fa (by rw [← L2]; exact c33)]
          cases e : Z.1 (60 * m + j) with
          | none => exact absurd (L1.1 e) c19
          | some z => rfl
        have e : nxU P m Z = some j := rng_some hl u hU
        rw [e]
        exact ⟨rfl, rfl, rfl⟩
/-- what a look leaves -/
def lkP (bu pr k m i : Nat) (P : Pm) (h0 : gi_H) (S : Nat → Int32) (F : Nat → Nat → Int32) (Z : ShL) (h' : gi_H) : Prop := ∃ S' F', buO bu pr h0 S' F' h' ∧ S' 0 = S 0 ∧ S' 1 = S 1 ∧ frB m F F' ∧ ((∃ e, lkS P m i Z = .inl e ∧ S' 2 = nI e.1 ∧ S' 3 = nI e.2.1 ∧ S' 4 = nI e.2.2 ∧ e.1 ≠ 0 ∧ e.1 ≤ 6) ∨ (∃ Z', lkS P m i Z = .inr Z' ∧ S' 2 = 0 ∧ rpS P m Z'.1 F' ∧ rpL P m Z'.2 F'))
theorem cmS_e {e : Flt} (h : cmS P m i t y s = .inl e) : e.1 ≤ 6 := by
  unfold cmS at h
  split at h
  · split at h
    · cases h
    · split at h
      · cases h
      · cases h; exact (by decide : 5 ≤ 6)
  · cases h; exact (by decide : 4 ≤ 6)
theorem rpS_up8 {g : Nat → Int32} (h : rpS P m s F) : rpS P m s (upA F 8 g) := fun i hi => by
  have := h i hi
  simp only [upA]
  exact this
theorem tkS_le {q : Bool} {x y : Sh} (e : tkS q x = some y) : y.1 ≤ x.1 := by
  unfold tkS at e
  split at e
  · cases e
  · split at e
    · cases e; exact Nat.sub_le _ _
    · cases e
theorem tkN_le {a : Nat} : ∀ (k : Nat) {x y : Sh}, tkN P a k x = some y → y.1 ≤ x.1
  | 0, x, y, e => by cases e; exact Nat.le_refl _
  | k + 1, x, y, e => by
    obtain ⟨z, e1, e2⟩ := Option.bind_eq_some_iff.mp e
    exact Nat.le_trans (tkN_le k e2) (tkS_le e1)
theorem tkK_le {w : Nat} {x y : Sh} (e : tkK w x = some y) : y.1 ≤ x.1 := by
  unfold tkK at e
  split at e
  · cases e
  · split at e
    · cases e; exact Nat.sub_le _ _
    · cases e
theorem tkW_le : ∀ (f : Nat) {z : Nat} {x y : Sh}, tkW f z x = some y → y.1 ≤ x.1
  | 0, _, x, y, e => by cases e; exact Nat.le_refl _
  | f + 1, z, x, y, e => by
    rw [tkW] at e
    split at e
    · cases e; exact Nat.le_refl _
    · obtain ⟨u, e1, e2⟩ := Option.bind_eq_some_iff.mp e
      exact Nat.le_trans (tkW_le f e2) (tkK_le e1)
theorem tkP_le {o a N : Nat} {x y : Sh} (hN : x.1 ≤ N) (e : tkP P m o a x = some y) : y.1 ≤ N := by
  refine Nat.le_trans ?_ hN
  unfold tkP at e
  split at e
  · exact tkS_le e
  · split at e
    · split at e
      · cases e; exact Nat.le_refl _
      · exact tkS_le e
    · split at e
      · exact tkN_le _ e
      · split at e
        · split at e
          · cases e
          · cases e; exact Nat.le_refl _
        · split at e
          · split at e
            · cases e
            · cases e; exact Nat.le_refl _
          · exact tkW_le 3 e
theorem tkP_5 {a : Nat} {x y : Sh} (e : tkP P m 5 a x = some y) : 1 ≤ y.1 := by
  have e : (if x.1 = 0 then none else some x) = some y := e
  split at e
  · cases e
  · cases e; omega
theorem tkP_6 {a : Nat} {x y : Sh} (e : tkP P m 6 a x = some y) : 2 ≤ y.1 := by
  have e : (if x.1 < 2 then none else some x) = some y := e
  split at e
  · cases e
  · cases e; omega
theorem cm_8 {s' : Nat → Option Sh} (h8 : ∀ p x, s p = some x → x.1 ≤ 8 ∧ x.2 < 2 ^ x.1) (y8 : y.1 ≤ 8) (y2 : y.2 < 2 ^ y.1) (e : cmS P m i t y s = .inr s') : ∀ p x, s' p = some x → x.1 ≤ 8 ∧ x.2 < 2 ^ x.1 := fun p x hx => by
  unfold cmS at e
  split at e
  · split at e
    · cases e
      by_cases q : p = 60 * m + t
      · rw [q, upO_self] at hx
        cases hx
        exact ⟨y8, y2⟩
      · rw [upO_ne q] at hx
        exact h8 p x hx
    · split at e
      · cases e; exact h8 p x hx
      · cases e
  · cases e
set_option maxHeartbeats 4000000 in
set_option maxRecDepth 100000 in
theorem c_Bu_lookAt {x : Sh} (W : wfP k P) (hm : m < k) (hi : i < pN P 5 m) (hod : opdOk k P m (pN P 6 (60 * m + i)) (P 7 (60 * m + i))) (HP : pr_at pr (nI k) P h) (dp : pr + 8 ≤ bu ∨ bu + 8 ≤ pr) (hx : Z.1 (60 * m + i) = some x) (R : rpS P m Z.1 F) (L : rpL P m Z.2 F) (hs8 : ∀ p x, Z.1 p = some x → x.1 ≤ 8 ∧ x.2 < 2 ^ x.1) (hS2 : S 2 = 0) (Q : buO bu pr h S F h) : gi_T l V y_Bu_lookAt b_Bu_lookAt 6 none 3 68 0 0 [.ref bu, .int (nI m), .int (nI i)] n h (fun v n' h' => v = none ∧ n' = n ∧ lkP bu pr k m i P h S F Z h') := by
  refine gi_enter (by decide) (Nat.le_of_ble_eq_true rfl) ?_
  intro _ _ _ _ _ _ _ _ C hr hnm
  have w8 := W.k8
  have wm := wf_ar W hm
  have wo := wf_op W hm hi
  obtain ⟨x8, x2⟩ := hs8 _ _ hx
  obtain ⟨r6, r7⟩ := (R i hi).2 x hx
  have eL : lkS P m i Z = (match lkX P m i x Z.1 with | .inl e => .inl e | .inr s => .inr (s, upO Z.2 (60 * m + i) true)) := by
    unfold lkS
    rw [hx]
    rfl
  refine gi_iload_n (q := 1) (i := 1) C (dm_Bu_lookAt 0 rfl) rfl rfl rfl ?_
  refine gi_bipush (q := 3) (v := 60) C (dm_Bu_lookAt 1 rfl) rfl (by decide) ?_
  refine gi_imul (q := 4) C (dm_Bu_lookAt 2 rfl) rfl ?_
  refine gi_iload_n (q := 5) (i := 2) C (dm_Bu_lookAt 3 rfl) rfl rfl rfl ?_
  refine gi_iadd (q := 6) C (dm_Bu_lookAt 4 rfl) rfl ?_
  rw [at_60]
  refine gi_istore_n (q := 7) (i := 3) C (dm_Bu_lookAt 5 rfl) rfl rfl (Nat.le_of_ble_eq_true rfl) ?_
  refine gi_aload_n (q := 8) (i := 0) C (dm_Bu_lookAt 6 rfl) rfl rfl rfl ?_
  refine gi_get (q := 11) C (dm_Bu_lookAt 7 rfl) rfl fl_Bu_34 (by first | exact Q122.ob | exact Q82.ob | exact Q62.ob | exact Q3.ob | exact Q2.ob | exact Q1.ob | exact Q.ob) rfl ?_
  refine gi_iload_n (q := 12) (i := 1) C (dm_Bu_lookAt 8 rfl) rfl rfl rfl ?_
  refine gi_iload_n (q := 13) (i := 2) C (dm_Bu_lookAt 9 rfl) rfl rfl rfl ?_
  refine gi_callv 2 (q := 16) C (dm_Bu_lookAt 10 rfl) rfl my_Pr_opAt lk_Bu_81 im_Pr_opAt rfl (q_op W hm hi HP) HP.1 rfl rfl ⟨(Nat.le_of_ble_eq_true rfl), (Nat.le_of_ble_eq_true rfl)⟩ (Nat.le_of_ble_eq_true rfl) ⟨(Nat.le_of_ble_eq_true rfl), (Nat.le_of_ble_eq_true rfl)⟩ (fun r13 n13 h13 e13 => ?_)
  obtain ⟨rfl, q13, u13⟩ := e13
  rw [q13, u13]
  refine gi_istore (q := 18) C (dm_Bu_lookAt 11 rfl) rfl (Nat.le_of_ble_eq_true rfl) ?_
  refine gi_aload_n (q := 19) (i := 0) C (dm_Bu_lookAt 12 rfl) rfl rfl rfl ?_
  refine gi_get (q := 22) C (dm_Bu_lookAt 13 rfl) rfl fl_Bu_34 (by first | exact Q122.ob | exact Q82.ob | exact Q62.ob | exact Q3.ob | exact Q2.ob | exact Q1.ob | exact Q.ob) rfl ?_
  refine gi_iload_n (q := 23) (i := 1) C (dm_Bu_lookAt 14 rfl) rfl rfl rfl ?_
  refine gi_iload_n (q := 24) (i := 2) C (dm_Bu_lookAt 15 rfl) rfl rfl rfl ?_
  refine gi_callv 2 (q := 27) C (dm_Bu_lookAt 16 rfl) rfl my_Pr_operandAt lk_Bu_85 im_Pr_operandAt rfl (q_opr W hm hi HP) HP.1 rfl rfl ⟨(Nat.le_of_ble_eq_true rfl), (Nat.le_of_ble_eq_true rfl)⟩ (Nat.le_of_ble_eq_true rfl) ⟨(Nat.le_of_ble_eq_true rfl), (Nat.le_of_ble_eq_true rfl)⟩ (fun r24 n24 h24 e24 => ?_)
  obtain ⟨rfl, q24, u24⟩ := e24
  rw [q24, u24]
  refine gi_istore (q := 29) C (dm_Bu_lookAt 17 rfl) rfl (Nat.le_of_ble_eq_true rfl) ?_
  refine gi_aload_n (q := 30) (i := 0) C (dm_Bu_lookAt 18 rfl) rfl rfl rfl ?_
  refine gi_get (q := 33) C (dm_Bu_lookAt 19 rfl) rfl fl_Bu_18 (by first | exact Q122.ob | exact Q82.ob | exact Q62.ob | exact Q3.ob | exact Q2.ob | exact Q1.ob | exact Q.ob) rfl ?_
  refine gi_iload_n (q := 34) (i := 3) C (dm_Bu_lookAt 20 rfl) rfl rfl rfl ?_
  refine gi_iconst (q := 35) (v := 1) C (dm_Bu_lookAt 21 rfl) rfl (by decide) ?_
  refine gi_zast (q := 36) C (dm_Bu_lookAt 22 rfl) rfl rfl Q.a8 (vp_in_nI (by omega) (by omega)) ?_
  rw [nI_clamp (show 60 * m + i < 2 ^ 31 by omega)]
  let F1 : Nat → Nat → Int32 := upA F 8 (upd (F 8) (60 * m + i) 1)
  have Q1 := Q.s8 (upd (F 8) (60 * m + i) 1)
  have lkr : rpL P m (upO Z.2 (60 * m + i) true) F1 := fun j hj => by
    by_cases e : j = i
    · subst e
      rw [upO_self]
      simp [F1, upA, upd, bI]
    · rw [upO_ne (by omega)]
      have := L j hj
      simp [F1, upA, upd, show 60 * m + j ≠ 60 * m + i by omega, this, e]
  have R1 : rpS P m Z.1 F1 := rpS_up8 R
  have fr1 : frB m F F1 := frB.up (Or.inr (Or.inr rfl)) (by omega)
  refine gi_aload_n (q := 37) (i := 0) C (dm_Bu_lookAt 23 rfl) rfl rfl rfl ?_
  refine gi_aload_n (q := 38) (i := 0) C (dm_Bu_lookAt 24 rfl) rfl rfl rfl ?_
  refine gi_get (q := 41) C (dm_Bu_lookAt 25 rfl) rfl fl_Bu_9 (by first | exact Q122.ob | exact Q82.ob | exact Q62.ob | exact Q3.ob | exact Q2.ob | exact Q1.ob | exact Q.ob) rfl ?_
  refine gi_iload_n (q := 42) (i := 3) C (dm_Bu_lookAt 26 rfl) rfl rfl rfl ?_
  refine gi_iald (q := 43) C (dm_Bu_lookAt 27 rfl) rfl rfl Q1.a6 (vp_in_nI (by omega) (by omega)) ?_
  rw [nI_clamp (show 60 * m + i < 2 ^ 31 by omega), show upA F 8 (upd (F 8) (60 * m + i) 1) 6 (60 * m + i) = nI x.1 from r6]
  refine gi_put (q := 46) C (dm_Bu_lookAt 28 rfl) rfl fl_Bu_103 fp_Bu_13 (by first | exact Q122.ob | exact Q82.ob | exact Q62.ob | exact Q3.ob | exact Q2.ob | exact Q1.ob | exact Q.ob) (Nat.le_of_ble_eq_true rfl) rfl rfl ?_
  have Q2 := Q1.pO (upS S 13 (nI x.1))
  refine gi_aload_n (q := 47) (i := 0) C (dm_Bu_lookAt 29 rfl) rfl rfl rfl ?_
  refine gi_aload_n (q := 48) (i := 0) C (dm_Bu_lookAt 30 rfl) rfl rfl rfl ?_
  refine gi_get (q := 51) C (dm_Bu_lookAt 31 rfl) rfl fl_Bu_15 (by first | exact Q122.ob | exact Q82.ob | exact Q62.ob | exact Q3.ob | exact Q2.ob | exact Q1.ob | exact Q.ob) rfl ?_
  refine gi_iload_n (q := 52) (i := 3) C (dm_Bu_lookAt 32 rfl) rfl rfl rfl ?_
  refine gi_iald (q := 53) C (dm_Bu_lookAt 33 rfl) rfl rfl Q2.a7 (vp_in_nI (by omega) (by omega)) ?_
  rw [nI_clamp (show 60 * m + i < 2 ^ 31 by omega), show upA F 8 (upd (F 8) (60 * m + i) 1) 7 (60 * m + i) = nI x.2 from r7]
  refine gi_put (q := 56) C (dm_Bu_lookAt 34 rfl) rfl fl_Bu_106 fp_Bu_14 (by first | exact Q122.ob | exact Q82.ob | exact Q62.ob | exact Q3.ob | exact Q2.ob | exact Q1.ob | exact Q.ob) (Nat.le_of_ble_eq_true rfl) rfl rfl ?_
  have Q3 := Q2.pO (upX S x)
  have X3 : isX (upX S x) x := upX_is (by omega) x2
  have HP3 := HP.keep2 (h' := gi_up (gi_up (gi_up h (bu + 3) _) bu _) bu _) (fun b b1 b2 => Q3.2 b (by omega))
  refine gi_aload_n (q := 57) (i := 0) C (dm_Bu_lookAt 35 rfl) rfl rfl rfl ?_
  refine gi_iload_n (q := 58) (i := 1) C (dm_Bu_lookAt 36 rfl) rfl rfl rfl ?_
  refine gi_iload (q := 60) C (dm_Bu_lookAt 37 rfl) rfl rfl ?_
  refine gi_iload (q := 62) C (dm_Bu_lookAt 38 rfl) rfl rfl ?_
  refine gi_callv 3 (q := 65) C (dm_Bu_lookAt 39 rfl) rfl my_Bu_takeShape lk_Bu_109 im_Bu_takeShape rfl (c_Bu_takeShape (pN P 6 (60 * m + i)) (pN P 7 (60 * m + i)) x W hm wo.2 hod rfl HP3 dp X3 Q3) Q3.ob rfl rfl ⟨(Nat.le_of_ble_eq_true rfl), (Nat.le_of_ble_eq_true rfl)⟩ (Nat.le_of_ble_eq_true rfl) ⟨(Nat.le_of_ble_eq_true rfl), (Nat.le_of_ble_eq_true rfl)⟩ (fun r62 n62 h62 e62 => ?_)
  obtain ⟨rfl, hc62⟩ := e62
  rcases hc62 with ⟨t1, rfl, x9, Q62⟩ | ⟨y9, t1, rfl, Q62, X62⟩
  · have es : shS P m (pN P 6 (60 * m + i)) (pN P 7 (60 * m + i)) x = none := by
      rw [shS_tp wo.2, t1]
      rfl
    refine gi_if_ne (q := 68) (tgt := 76) C (dm_Bu_lookAt 40 rfl) rfl (by decide) (fun c65 => ?_) (fun c65 => ?_)
    · exact absurd rfl c65
    · refine gi_aload_n (q := 69) (i := 0) C (dm_Bu_lookAt 41 rfl) rfl rfl rfl ?_
      refine gi_iconst (q := 70) (v := 2) C (dm_Bu_lookAt 42 rfl) rfl (by decide) ?_
      refine gi_iload_n (q := 71) (i := 1) C (dm_Bu_lookAt 43 rfl) rfl rfl rfl ?_
      refine gi_iload_n (q := 72) (i := 2) C (dm_Bu_lookAt 44 rfl) rfl rfl rfl ?_
      refine gi_callv 3 (q := 75) C (dm_Bu_lookAt 45 rfl) rfl my_Bu_faultIs lk_Bu_92 im_Bu_faultIs rfl (c_Bu_faultIs 2 (nI m) (nI i) Q62) Q62.ob rfl rfl ⟨(Nat.le_of_ble_eq_true rfl), (Nat.le_of_ble_eq_true rfl)⟩ (Nat.le_of_ble_eq_true rfl) ⟨(Nat.le_of_ble_eq_true rfl), (Nat.le_of_ble_eq_true rfl)⟩ (fun r72 n72 h72 e72 => ?_)
      obtain ⟨rfl, rfl, Q72⟩ := e72
      refine gi_vret C hr (dm_Bu_lookAt 46 rfl) ?_
      refine ⟨rfl, rfl, _, _, Q72, ?_, ?_, fr1, Or.inl ⟨(2, m, i), ?_, ?_, ?_, ?_, (show (2 : Nat) ≠ 0 by decide), (show (2 : Nat) ≤ 6 by decide)⟩⟩
      · simp [upS, upX]
      · simp [upS, upX]
      · rw [eL]
        unfold lkX
        rw [es]
      · simp [upS]; rfl
      · simp [upS]
      · simp [upS]
  · have es : shS P m (pN P 6 (60 * m + i)) (pN P 7 (60 * m + i)) x = some (ptP P m (pN P 6 (60 * m + i)) (pN P 7 (60 * m + i)) y9) := by
      rw [shS_tp wo.2, t1]
      rfl
    have y8 : y9.1 ≤ 8 := tkP_le (by omega) t1
    have HP62 := HP.keep2 (h' := h62) (fun b b1 b2 => Q62.2 b (by omega))
    refine gi_if_ne (q := 68) (tgt := 76) C (dm_Bu_lookAt 40 rfl) rfl (by decide) (fun c65 => ?_) (fun c65 => ?_)
    · refine gi_aload_n (q := 77) (i := 0) C (dm_Bu_lookAt 47 rfl) rfl rfl rfl ?_
      refine gi_iload_n (q := 78) (i := 1) C (dm_Bu_lookAt 48 rfl) rfl rfl rfl ?_
      refine gi_iload (q := 80) C (dm_Bu_lookAt 49 rfl) rfl rfl ?_
      refine gi_iload (q := 82) C (dm_Bu_lookAt 50 rfl) rfl rfl ?_
      refine gi_callv 3 (q := 85) C (dm_Bu_lookAt 51 rfl) rfl my_Bu_putShape lk_Bu_112 im_Bu_putShape rfl (c_Bu_putShape (pN P 6 (60 * m + i)) (pN P 7 (60 * m + i)) y9 W hm wo.2 hod rfl HP62 dp y8 (fun z => by rw [z] at t1; exact tkP_5 t1) (fun z => by rw [z] at t1; exact tkP_6 t1) X62 Q62) Q62.ob rfl rfl ⟨(Nat.le_of_ble_eq_true rfl), (Nat.le_of_ble_eq_true rfl)⟩ (Nat.le_of_ble_eq_true rfl) ⟨(Nat.le_of_ble_eq_true rfl), (Nat.le_of_ble_eq_true rfl)⟩ (fun r82 n82 h82 e82 => ?_)
      obtain ⟨rfl, rfl, Q82, X82⟩ := e82
      rw [upX_X, upX_X] at Q82 X82
      have HP82 := HP.keep2 (h' := h82) (fun b b1 b2 => Q82.2 b (by omega))
      have y10 : (ptP P m (pN P 6 (60 * m + i)) (pN P 7 (60 * m + i)) y9).1 ≤ 12 := X82.2.2.1
      obtain ⟨y, hye⟩ : ∃ y, y = (ptP P m (pN P 6 (60 * m + i)) (pN P 7 (60 * m + i)) y9) := ⟨_, rfl⟩
      rw [← hye] at Q82 X82 es y10
      refine gi_aload_n (q := 86) (i := 0) C (dm_Bu_lookAt 52 rfl) rfl rfl rfl ?_
      refine gi_get (q := 89) C (dm_Bu_lookAt 53 rfl) rfl fl_Bu_103 Q82.ob rfl ?_
      refine gi_bipush (q := 91) (v := 8) C (dm_Bu_lookAt 54 rfl) rfl (by decide) ?_
      rw [show upX S y 13 = nI y.1 from by simp [upX, upS]]
      refine gi_icmp_le (q := 94) (tgt := 102) C (dm_Bu_lookAt 55 rfl) rfl (by decide) (fun c91 => ?_) (fun c91 => ?_)
      · have y8' : y.1 ≤ 8 := (nI_leI (b := 8) (by omega) (by omega)).mp c91
        refine gi_iload (q := 104) C (dm_Bu_lookAt 62 rfl) rfl rfl ?_
        refine gi_bipush (q := 106) (v := 19) C (dm_Bu_lookAt 63 rfl) rfl (by decide) ?_
        refine gi_icmp_eq (q := 109) (tgt := 125) C (dm_Bu_lookAt 64 rfl) rfl (by decide) (fun c106 => ?_) (fun c106 => ?_)
        · have o19 : pN P 6 (60 * m + i) = 19 := (nI_eq (b := 19) (by omega) (by omega)).mp c106
          have lx : lkX P m i x Z.1 = cm2 P m i y Z.1 := by
            unfold lkX
            rw [es]
            show (if 8 < y.1 then _ else cm12 P m i y Z.1) = _
            rw [if_neg (by omega)]
            unfold cm12
            rw [show cm1 P m i y Z.1 = .inr Z.1 from by unfold cm1; rw [if_neg (by omega)]]
          have hsb := hs8
          have HPb := HP.keep2 (h' := h82) (fun b b1 b2 => Q82.2 b (by omega))
          refine gi_iload (q := 127) C (dm_Bu_lookAt 75 rfl) rfl rfl ?_
          refine gi_bipush (q := 129) (v := 19) C (dm_Bu_lookAt 76 rfl) rfl (by decide) ?_
          refine gi_icmp_lt (q := 132) (tgt := 154) C (dm_Bu_lookAt 77 rfl) rfl (by decide) (fun c129 => ?_) (fun c129 => ?_)
          · have c2y : cm2 P m i y Z.1 = .inr Z.1 := by
              unfold cm2
              rw [if_neg]
              rintro ⟨z1, z2⟩
              first
                | exact absurd (nI_le (a := 19) z1 (by omega)) (Int32.not_le.mpr c129)
                | exact absurd (nI_le (b := 27) z2 (by omega)) (Int32.not_le.mpr c136)
            refine gi_vret C hr (dm_Bu_lookAt 89 rfl) ?_
            refine ⟨rfl, rfl, _, _, Q82, ?_, ?_, fr1, Or.inr ⟨(Z.1, upO Z.2 (60 * m + i) true), ?_, ?_, R1, ?_⟩⟩
            · simp [upS, upX]
            · simp [upS, upX]
            · rw [eL, lx, c2y]
            · simpa [upS, upX] using hS2
            · intro j hj
              exact lkr j hj
          · refine gi_iload (q := 134) C (dm_Bu_lookAt 78 rfl) rfl rfl ?_
            refine gi_bipush (q := 136) (v := 27) C (dm_Bu_lookAt 79 rfl) rfl (by decide) ?_
            refine gi_icmp_gt (q := 139) (tgt := 154) C (dm_Bu_lookAt 80 rfl) rfl (by decide) (fun c136 => ?_) (fun c136 => ?_)
            · have c2y : cm2 P m i y Z.1 = .inr Z.1 := by
                unfold cm2
                rw [if_neg]
                rintro ⟨z1, z2⟩
                first
                  | exact absurd (nI_le (a := 19) z1 (by omega)) (Int32.not_le.mpr c129)
                  | exact absurd (nI_le (b := 27) z2 (by omega)) (Int32.not_le.mpr c136)
              refine gi_vret C hr (dm_Bu_lookAt 89 rfl) ?_
              refine ⟨rfl, rfl, _, _, Q82, ?_, ?_, fr1, Or.inr ⟨(Z.1, upO Z.2 (60 * m + i) true), ?_, ?_, R1, ?_⟩⟩
              · simp [upS, upX]
              · simp [upS, upX]
              · rw [eL, lx, c2y]
              · simpa [upS, upX] using hS2
              · intro j hj
                exact lkr j hj
            · have j1 : 19 ≤ pN P 6 (60 * m + i) := (nI_leI (a := 19) (by omega) (by omega)).mp (Int32.not_lt.mp c129)
              have j2 : pN P 6 (60 * m + i) ≤ 27 := (nI_leI (b := 27) (by omega) (by omega)).mp (Int32.not_lt.mp c136)
              have od := hod.2.1 ⟨j1, j2⟩
              have av := nn_nI od.1
              have c2y : cm2 P m i y Z.1 = cmS P m i (pN P 7 (60 * m + i)) y Z.1 := by
                unfold cm2
                rw [if_pos ⟨j1, j2⟩]
              have a60 : pN P 7 (60 * m + i) ≤ 60 := by unfold pN; omega
              refine gi_aload_n (q := 140) (i := 0) C (dm_Bu_lookAt 81 rfl) rfl rfl rfl ?_
              refine gi_get (q := 143) C (dm_Bu_lookAt 82 rfl) rfl fl_Bu_38 Q82.ob rfl ?_
              refine gi_if_ne (q := 146) (tgt := 154) C (dm_Bu_lookAt 83 rfl) rfl (by decide) (fun c143 => ?_) (fun c143 => ?_)
              · exact absurd (show upX S y 2 = 0 by simpa [upS, upX] using hS2) c143
              · refine gi_aload_n (q := 147) (i := 0) C (dm_Bu_lookAt 84 rfl) rfl rfl rfl ?_
                refine gi_iload_n (q := 148) (i := 1) C (dm_Bu_lookAt 85 rfl) rfl rfl rfl ?_
                refine gi_iload_n (q := 149) (i := 2) C (dm_Bu_lookAt 86 rfl) rfl rfl rfl ?_
                refine gi_iload (q := 151) C (dm_Bu_lookAt 87 rfl) rfl rfl ?_
                rw [show P 7 (60 * m + i) = nI (pN P 7 (60 * m + i)) from av.1]
                refine gi_callv 3 (q := 154) C (dm_Bu_lookAt 88 rfl) rfl my_Bu_shapeComes lk_Bu_115 im_Bu_shapeComes rfl (c_Bu_shapeComes (y := y) (s := Z.1) W hm (by omega) (by omega) HPb X82 R1 hsb Q82) Q82.ob rfl rfl ⟨(Nat.le_of_ble_eq_true rfl), (Nat.le_of_ble_eq_true rfl)⟩ (Nat.le_of_ble_eq_true rfl) ⟨(Nat.le_of_ble_eq_true rfl), (Nat.le_of_ble_eq_true rfl)⟩ (fun r151 n151 h151 e151 => ?_)
                obtain ⟨rfl, rfl, hc151⟩ := e151
                rcases hc151 with ⟨e8, cf, Q151, e80⟩ | ⟨s8, F8, cf, Q151, fr8, R8, f88⟩
                · refine gi_vret C hr (dm_Bu_lookAt 89 rfl) ?_
                  refine ⟨rfl, rfl, _, _, Q151, ?_, ?_, fr1, Or.inl ⟨e8, ?_, ?_, ?_, ?_, e80, cmS_e cf⟩⟩
                  · simp [upFl, upS, upX]
                  · simp [upFl, upS, upX]
                  · rw [eL, lx, c2y, cf]
                  · simp [upFl, upS]
                  · simp [upFl, upS]
                  · simp [upFl, upS]
                · refine gi_vret C hr (dm_Bu_lookAt 89 rfl) ?_
                  refine ⟨rfl, rfl, _, _, Q151, ?_, ?_, (fr1).tr fr8, Or.inr ⟨(s8, upO Z.2 (60 * m + i) true), ?_, ?_, R8, ?_⟩⟩
                  · simp [upS, upX]
                  · simp [upS, upX]
                  · rw [eL, lx, c2y, cf]
                  · simpa [upS, upX] using hS2
                  · intro j hj
                    show F8 8 _ = _
                    rw [f88]
                    exact lkr j hj
        · refine gi_iload (q := 111) C (dm_Bu_lookAt 65 rfl) rfl rfl ?_
          refine gi_bipush (q := 113) (v := 33) C (dm_Bu_lookAt 66 rfl) rfl (by decide) ?_
          refine gi_icmp_eq (q := 116) (tgt := 125) C (dm_Bu_lookAt 67 rfl) rfl (by decide) (fun c113 => ?_) (fun c113 => ?_)
          · have o33 : pN P 6 (60 * m + i) = 33 := (nI_eq (b := 33) (by omega) (by omega)).mp c113
            have lx : lkX P m i x Z.1 = cm2 P m i y Z.1 := by
              unfold lkX
              rw [es]
              show (if 8 < y.1 then _ else cm12 P m i y Z.1) = _
              rw [if_neg (by omega)]
              unfold cm12
              rw [show cm1 P m i y Z.1 = .inr Z.1 from by unfold cm1; rw [if_neg (by omega)]]
            have hsb := hs8
            have HPb := HP.keep2 (h' := h82) (fun b b1 b2 => Q82.2 b (by omega))
            refine gi_iload (q := 127) C (dm_Bu_lookAt 75 rfl) rfl rfl ?_
            refine gi_bipush (q := 129) (v := 19) C (dm_Bu_lookAt 76 rfl) rfl (by decide) ?_
            refine gi_icmp_lt (q := 132) (tgt := 154) C (dm_Bu_lookAt 77 rfl) rfl (by decide) (fun c129 => ?_) (fun c129 => ?_)
            · have c2y : cm2 P m i y Z.1 = .inr Z.1 := by
                unfold cm2
                rw [if_neg]
                rintro ⟨z1, z2⟩
                first
                  | exact absurd (nI_le (a := 19) z1 (by omega)) (Int32.not_le.mpr c129)
                  | exact absurd (nI_le (b := 27) z2 (by omega)) (Int32.not_le.mpr c136)
              refine gi_vret C hr (dm_Bu_lookAt 89 rfl) ?_
              refine ⟨rfl, rfl, _, _, Q82, ?_, ?_, fr1, Or.inr ⟨(Z.1, upO Z.2 (60 * m + i) true), ?_, ?_, R1, ?_⟩⟩
              · simp [upS, upX]
              · simp [upS, upX]
              · rw [eL, lx, c2y]
              · simpa [upS, upX] using hS2
              · intro j hj
                exact lkr j hj
            · refine gi_iload (q := 134) C (dm_Bu_lookAt 78 rfl) rfl rfl ?_
              refine gi_bipush (q := 136) (v := 27) C (dm_Bu_lookAt 79 rfl) rfl (by decide) ?_
              refine gi_icmp_gt (q := 139) (tgt := 154) C (dm_Bu_lookAt 80 rfl) rfl (by decide) (fun c136 => ?_) (fun c136 => ?_)
              · have c2y : cm2 P m i y Z.1 = .inr Z.1 := by
                  unfold cm2
                  rw [if_neg]
                  rintro ⟨z1, z2⟩
                  first
                    | exact absurd (nI_le (a := 19) z1 (by omega)) (Int32.not_le.mpr c129)
                    | exact absurd (nI_le (b := 27) z2 (by omega)) (Int32.not_le.mpr c136)
                refine gi_vret C hr (dm_Bu_lookAt 89 rfl) ?_
                refine ⟨rfl, rfl, _, _, Q82, ?_, ?_, fr1, Or.inr ⟨(Z.1, upO Z.2 (60 * m + i) true), ?_, ?_, R1, ?_⟩⟩
                · simp [upS, upX]
                · simp [upS, upX]
                · rw [eL, lx, c2y]
                · simpa [upS, upX] using hS2
                · intro j hj
                  exact lkr j hj
              · have j1 : 19 ≤ pN P 6 (60 * m + i) := (nI_leI (a := 19) (by omega) (by omega)).mp (Int32.not_lt.mp c129)
                have j2 : pN P 6 (60 * m + i) ≤ 27 := (nI_leI (b := 27) (by omega) (by omega)).mp (Int32.not_lt.mp c136)
                have od := hod.2.1 ⟨j1, j2⟩
                have av := nn_nI od.1
                have c2y : cm2 P m i y Z.1 = cmS P m i (pN P 7 (60 * m + i)) y Z.1 := by
                  unfold cm2
                  rw [if_pos ⟨j1, j2⟩]
                have a60 : pN P 7 (60 * m + i) ≤ 60 := by unfold pN; omega
                refine gi_aload_n (q := 140) (i := 0) C (dm_Bu_lookAt 81 rfl) rfl rfl rfl ?_
                refine gi_get (q := 143) C (dm_Bu_lookAt 82 rfl) rfl fl_Bu_38 Q82.ob rfl ?_
                refine gi_if_ne (q := 146) (tgt := 154) C (dm_Bu_lookAt 83 rfl) rfl (by decide) (fun c143 => ?_) (fun c143 => ?_)
                · exact absurd (show upX S y 2 = 0 by simpa [upS, upX] using hS2) c143
                · refine gi_aload_n (q := 147) (i := 0) C (dm_Bu_lookAt 84 rfl) rfl rfl rfl ?_
                  refine gi_iload_n (q := 148) (i := 1) C (dm_Bu_lookAt 85 rfl) rfl rfl rfl ?_
                  refine gi_iload_n (q := 149) (i := 2) C (dm_Bu_lookAt 86 rfl) rfl rfl rfl ?_
                  refine gi_iload (q := 151) C (dm_Bu_lookAt 87 rfl) rfl rfl ?_
                  rw [show P 7 (60 * m + i) = nI (pN P 7 (60 * m + i)) from av.1]
                  refine gi_callv 3 (q := 154) C (dm_Bu_lookAt 88 rfl) rfl my_Bu_shapeComes lk_Bu_115 im_Bu_shapeComes rfl (c_Bu_shapeComes (y := y) (s := Z.1) W hm (by omega) (by omega) HPb X82 R1 hsb Q82) Q82.ob rfl rfl ⟨(Nat.le_of_ble_eq_true rfl), (Nat.le_of_ble_eq_true rfl)⟩ (Nat.le_of_ble_eq_true rfl) ⟨(Nat.le_of_ble_eq_true rfl), (Nat.le_of_ble_eq_true rfl)⟩ (fun r151 n151 h151 e151 => ?_)
                  obtain ⟨rfl, rfl, hc151⟩ := e151
                  rcases hc151 with ⟨e8, cf, Q151, e80⟩ | ⟨s8, F8, cf, Q151, fr8, R8, f88⟩
                  · refine gi_vret C hr (dm_Bu_lookAt 89 rfl) ?_
                    refine ⟨rfl, rfl, _, _, Q151, ?_, ?_, fr1, Or.inl ⟨e8, ?_, ?_, ?_, ?_, e80, cmS_e cf⟩⟩
                    · simp [upFl, upS, upX]
                    · simp [upFl, upS, upX]
                    · rw [eL, lx, c2y, cf]
                    · simp [upFl, upS]
                    · simp [upFl, upS]
                    · simp [upFl, upS]
                  · refine gi_vret C hr (dm_Bu_lookAt 89 rfl) ?_
                    refine ⟨rfl, rfl, _, _, Q151, ?_, ?_, (fr1).tr fr8, Or.inr ⟨(s8, upO Z.2 (60 * m + i) true), ?_, ?_, R8, ?_⟩⟩
                    · simp [upS, upX]
                    · simp [upS, upX]
                    · rw [eL, lx, c2y, cf]
                    · simpa [upS, upX] using hS2
                    · intro j hj
                      show F8 8 _ = _
                      rw [f88]
                      exact lkr j hj
          · have o19 : pN P 6 (60 * m + i) ≠ 19 := (fun z : pN P 6 (60 * m + i) = 19 => c106 (by rw [z]; rfl))
            have o33 : pN P 6 (60 * m + i) ≠ 33 := (fun z : pN P 6 (60 * m + i) = 33 => c113 (by rw [z]; rfl))
            refine gi_aload_n (q := 117) (i := 0) C (dm_Bu_lookAt 68 rfl) rfl rfl rfl ?_
            refine gi_iload_n (q := 118) (i := 1) C (dm_Bu_lookAt 69 rfl) rfl rfl rfl ?_
            refine gi_iload_n (q := 119) (i := 2) C (dm_Bu_lookAt 70 rfl) rfl rfl rfl ?_
            refine gi_iload_n (q := 120) (i := 2) C (dm_Bu_lookAt 71 rfl) rfl rfl rfl ?_
            refine gi_iconst (q := 121) (v := 1) C (dm_Bu_lookAt 72 rfl) rfl (by decide) ?_
            refine gi_iadd (q := 122) C (dm_Bu_lookAt 73 rfl) rfl ?_
            rw [nI_1]
            refine gi_callv 3 (q := 125) C (dm_Bu_lookAt 74 rfl) rfl my_Bu_shapeComes lk_Bu_115 im_Bu_shapeComes rfl (c_Bu_shapeComes (y := y) (s := Z.1) W hm (by omega) (by omega) HP82 X82 R1 hs8 Q82) Q82.ob rfl rfl ⟨(Nat.le_of_ble_eq_true rfl), (Nat.le_of_ble_eq_true rfl)⟩ (Nat.le_of_ble_eq_true rfl) ⟨(Nat.le_of_ble_eq_true rfl), (Nat.le_of_ble_eq_true rfl)⟩ (fun r122 n122 h122 e122 => ?_)
            obtain ⟨rfl, rfl, hc122⟩ := e122
            rcases hc122 with ⟨e9, ce, Q122, e90⟩ | ⟨s9, F9, ce, Q122, fr9, R9, f89⟩
            · refine gi_iload (q := 127) C (dm_Bu_lookAt 75 rfl) rfl rfl ?_
              refine gi_bipush (q := 129) (v := 19) C (dm_Bu_lookAt 76 rfl) rfl (by decide) ?_
              refine gi_icmp_lt (q := 132) (tgt := 154) C (dm_Bu_lookAt 77 rfl) rfl (by decide) (fun c129 => ?_) (fun c129 => ?_)
              · refine gi_vret C hr (dm_Bu_lookAt 89 rfl) ?_
                refine ⟨rfl, rfl, _, _, Q122, ?_, ?_, fr1, Or.inl ⟨e9, ?_, ?_, ?_, ?_, e90, cmS_e ce⟩⟩
                · simp [upFl, upS, upX]
                · simp [upFl, upS, upX]
                · rw [eL]
                  unfold lkX
                  rw [es]
                  dsimp only
                  rw [if_neg (by omega)]
                  unfold cm12
                  rw [show cm1 P m i y Z.1 = .inl e9 from by unfold cm1; rw [if_pos ⟨o19, o33⟩]; exact ce]
                · simp [upFl, upS]
                · simp [upFl, upS]
                · simp [upFl, upS]
              · refine gi_iload (q := 134) C (dm_Bu_lookAt 78 rfl) rfl rfl ?_
                refine gi_bipush (q := 136) (v := 27) C (dm_Bu_lookAt 79 rfl) rfl (by decide) ?_
                refine gi_icmp_gt (q := 139) (tgt := 154) C (dm_Bu_lookAt 80 rfl) rfl (by decide) (fun c136 => ?_) (fun c136 => ?_)
                · refine gi_vret C hr (dm_Bu_lookAt 89 rfl) ?_
                  refine ⟨rfl, rfl, _, _, Q122, ?_, ?_, fr1, Or.inl ⟨e9, ?_, ?_, ?_, ?_, e90, cmS_e ce⟩⟩
                  · simp [upFl, upS, upX]
                  · simp [upFl, upS, upX]
                  · rw [eL]
                    unfold lkX
                    rw [es]
                    dsimp only
                    rw [if_neg (by omega)]
                    unfold cm12
                    rw [show cm1 P m i y Z.1 = .inl e9 from by unfold cm1; rw [if_pos ⟨o19, o33⟩]; exact ce]
                  · simp [upFl, upS]
                  · simp [upFl, upS]
                  · simp [upFl, upS]
                · refine gi_aload_n (q := 140) (i := 0) C (dm_Bu_lookAt 81 rfl) rfl rfl rfl ?_
                  refine gi_get (q := 143) C (dm_Bu_lookAt 82 rfl) rfl fl_Bu_38 Q122.ob rfl ?_
                  refine gi_if_ne (q := 146) (tgt := 154) C (dm_Bu_lookAt 83 rfl) rfl (by decide) (fun c143 => ?_) (fun c143 => ?_)
                  · refine gi_vret C hr (dm_Bu_lookAt 89 rfl) ?_
                    refine ⟨rfl, rfl, _, _, Q122, ?_, ?_, fr1, Or.inl ⟨e9, ?_, ?_, ?_, ?_, e90, cmS_e ce⟩⟩
                    · simp [upFl, upS, upX]
                    · simp [upFl, upS, upX]
                    · rw [eL]
                      unfold lkX
                      rw [es]
                      dsimp only
                      rw [if_neg (by omega)]
                      unfold cm12
                      rw [show cm1 P m i y Z.1 = .inl e9 from by unfold cm1; rw [if_pos ⟨o19, o33⟩]; exact ce]
                    · simp [upFl, upS]
                    · simp [upFl, upS]
                    · simp [upFl, upS]
                  · exact absurd (show upFl (upX S y) e9 2 = 0 from c143) (by rw [show upFl (upX S y) e9 2 = nI e9.1 by simp [upFl, upS]]; exact fun z => e90 ((nI_eq (b := 0) (by have := cmS_e ce; omega) (by omega)).mp z))
            · have lx : lkX P m i x Z.1 = cm2 P m i y s9 := by
                unfold lkX
                rw [es]
                show (if 8 < y.1 then _ else cm12 P m i y Z.1) = _
                rw [if_neg (by omega)]
                unfold cm12
                rw [show cm1 P m i y Z.1 = .inr s9 from by unfold cm1; rw [if_pos ⟨o19, o33⟩]; exact ce]
              have hsb : ∀ p x, s9 p = some x → x.1 ≤ 8 ∧ x.2 < 2 ^ x.1 := cm_8 hs8 (by omega) X82.2.2.2 ce
              have HPb := HP.keep2 (h' := h122) (fun b b1 b2 => Q122.2 b (by omega))
              refine gi_iload (q := 127) C (dm_Bu_lookAt 75 rfl) rfl rfl ?_
              refine gi_bipush (q := 129) (v := 19) C (dm_Bu_lookAt 76 rfl) rfl (by decide) ?_
              refine gi_icmp_lt (q := 132) (tgt := 154) C (dm_Bu_lookAt 77 rfl) rfl (by decide) (fun c129 => ?_) (fun c129 => ?_)
              · have c2y : cm2 P m i y s9 = .inr s9 := by
                  unfold cm2
                  rw [if_neg]
                  rintro ⟨z1, z2⟩
                  first
                    | exact absurd (nI_le (a := 19) z1 (by omega)) (Int32.not_le.mpr c129)
                    | exact absurd (nI_le (b := 27) z2 (by omega)) (Int32.not_le.mpr c136)
                refine gi_vret C hr (dm_Bu_lookAt 89 rfl) ?_
                refine ⟨rfl, rfl, _, _, Q122, ?_, ?_, fr1.tr fr9, Or.inr ⟨(s9, upO Z.2 (60 * m + i) true), ?_, ?_, R9, ?_⟩⟩
                · simp [upS, upX]
                · simp [upS, upX]
                · rw [eL, lx, c2y]
                · simpa [upS, upX] using hS2
                · intro j hj
                  rw [f89]
                  exact lkr j hj
              · refine gi_iload (q := 134) C (dm_Bu_lookAt 78 rfl) rfl rfl ?_
                refine gi_bipush (q := 136) (v := 27) C (dm_Bu_lookAt 79 rfl) rfl (by decide) ?_
                refine gi_icmp_gt (q := 139) (tgt := 154) C (dm_Bu_lookAt 80 rfl) rfl (by decide) (fun c136 => ?_) (fun c136 => ?_)
                · have c2y : cm2 P m i y s9 = .inr s9 := by
                    unfold cm2
                    rw [if_neg]
                    rintro ⟨z1, z2⟩
                    first
                      | exact absurd (nI_le (a := 19) z1 (by omega)) (Int32.not_le.mpr c129)
                      | exact absurd (nI_le (b := 27) z2 (by omega)) (Int32.not_le.mpr c136)
                  refine gi_vret C hr (dm_Bu_lookAt 89 rfl) ?_
                  refine ⟨rfl, rfl, _, _, Q122, ?_, ?_, fr1.tr fr9, Or.inr ⟨(s9, upO Z.2 (60 * m + i) true), ?_, ?_, R9, ?_⟩⟩
                  · simp [upS, upX]
                  · simp [upS, upX]
                  · rw [eL, lx, c2y]
                  · simpa [upS, upX] using hS2
                  · intro j hj
                    rw [f89]
                    exact lkr j hj
                · have j1 : 19 ≤ pN P 6 (60 * m + i) := (nI_leI (a := 19) (by omega) (by omega)).mp (Int32.not_lt.mp c129)
                  have j2 : pN P 6 (60 * m + i) ≤ 27 := (nI_leI (b := 27) (by omega) (by omega)).mp (Int32.not_lt.mp c136)
                  have od := hod.2.1 ⟨j1, j2⟩
                  have av := nn_nI od.1
                  have c2y : cm2 P m i y s9 = cmS P m i (pN P 7 (60 * m + i)) y s9 := by
                    unfold cm2
                    rw [if_pos ⟨j1, j2⟩]
                  have a60 : pN P 7 (60 * m + i) ≤ 60 := by unfold pN; omega
                  refine gi_aload_n (q := 140) (i := 0) C (dm_Bu_lookAt 81 rfl) rfl rfl rfl ?_
                  refine gi_get (q := 143) C (dm_Bu_lookAt 82 rfl) rfl fl_Bu_38 Q122.ob rfl ?_
                  refine gi_if_ne (q := 146) (tgt := 154) C (dm_Bu_lookAt 83 rfl) rfl (by decide) (fun c143 => ?_) (fun c143 => ?_)
                  · exact absurd (show upX S y 2 = 0 by simpa [upS, upX] using hS2) c143
                  · refine gi_aload_n (q := 147) (i := 0) C (dm_Bu_lookAt 84 rfl) rfl rfl rfl ?_
                    refine gi_iload_n (q := 148) (i := 1) C (dm_Bu_lookAt 85 rfl) rfl rfl rfl ?_
                    refine gi_iload_n (q := 149) (i := 2) C (dm_Bu_lookAt 86 rfl) rfl rfl rfl ?_
                    refine gi_iload (q := 151) C (dm_Bu_lookAt 87 rfl) rfl rfl ?_
                    rw [show P 7 (60 * m + i) = nI (pN P 7 (60 * m + i)) from av.1]
                    refine gi_callv 3 (q := 154) C (dm_Bu_lookAt 88 rfl) rfl my_Bu_shapeComes lk_Bu_115 im_Bu_shapeComes rfl (c_Bu_shapeComes (y := y) (s := s9) W hm (by omega) (by omega) HPb X82 R9 hsb Q122) Q122.ob rfl rfl ⟨(Nat.le_of_ble_eq_true rfl), (Nat.le_of_ble_eq_true rfl)⟩ (Nat.le_of_ble_eq_true rfl) ⟨(Nat.le_of_ble_eq_true rfl), (Nat.le_of_ble_eq_true rfl)⟩ (fun r151 n151 h151 e151 => ?_)
                    obtain ⟨rfl, rfl, hc151⟩ := e151
                    rcases hc151 with ⟨e8, cf, Q151, e80⟩ | ⟨s8, F8, cf, Q151, fr8, R8, f88⟩
                    · refine gi_vret C hr (dm_Bu_lookAt 89 rfl) ?_
                      refine ⟨rfl, rfl, _, _, Q151, ?_, ?_, fr1.tr fr9, Or.inl ⟨e8, ?_, ?_, ?_, ?_, e80, cmS_e cf⟩⟩
                      · simp [upFl, upS, upX]
                      · simp [upFl, upS, upX]
                      · rw [eL, lx, c2y, cf]
                      · simp [upFl, upS]
                      · simp [upFl, upS]
                      · simp [upFl, upS]
                    · refine gi_vret C hr (dm_Bu_lookAt 89 rfl) ?_
                      refine ⟨rfl, rfl, _, _, Q151, ?_, ?_, (fr1.tr fr9).tr fr8, Or.inr ⟨(s8, upO Z.2 (60 * m + i) true), ?_, ?_, R8, ?_⟩⟩
                      · simp [upS, upX]
                      · simp [upS, upX]
                      · rw [eL, lx, c2y, cf]
                      · simpa [upS, upX] using hS2
                      · intro j hj
                        show F8 8 _ = _
                        rw [f88, f89]
                        exact lkr j hj
      · have y9' : 8 < y.1 := Nat.lt_of_not_le (fun z => c91 (nI_le (b := 8) z (by omega)))
        refine gi_aload_n (q := 95) (i := 0) C (dm_Bu_lookAt 56 rfl) rfl rfl rfl ?_
        refine gi_iconst (q := 96) (v := 3) C (dm_Bu_lookAt 57 rfl) rfl (by decide) ?_
        refine gi_iload_n (q := 97) (i := 1) C (dm_Bu_lookAt 58 rfl) rfl rfl rfl ?_
        refine gi_iload_n (q := 98) (i := 2) C (dm_Bu_lookAt 59 rfl) rfl rfl rfl ?_
        refine gi_callv 3 (q := 101) C (dm_Bu_lookAt 60 rfl) rfl my_Bu_faultIs lk_Bu_92 im_Bu_faultIs rfl (c_Bu_faultIs 3 (nI m) (nI i) Q82) Q82.ob rfl rfl ⟨(Nat.le_of_ble_eq_true rfl), (Nat.le_of_ble_eq_true rfl)⟩ (Nat.le_of_ble_eq_true rfl) ⟨(Nat.le_of_ble_eq_true rfl), (Nat.le_of_ble_eq_true rfl)⟩ (fun r98 n98 h98 e98 => ?_)
        obtain ⟨rfl, rfl, Q98⟩ := e98
        refine gi_vret C hr (dm_Bu_lookAt 61 rfl) ?_
        refine ⟨rfl, rfl, _, _, Q98, ?_, ?_, fr1, Or.inl ⟨(3, m, i), ?_, ?_, ?_, ?_, (show (3 : Nat) ≠ 0 by decide), (show (3 : Nat) ≤ 6 by decide)⟩⟩
        · simp [upS, upX]
        · simp [upS, upX]
        · rw [eL]
          unfold lkX
          rw [es]
          dsimp only
          rw [if_pos y9']
        · simp [upS]; rfl
        · simp [upS]
        · simp [upS]
    · exact absurd c65 (by decide)
end BU3
