-- needs: 65 13
section FA3
variable {l : Launch} {V : gi_V} {n : Nat} {h : gi_H} {a : Nat} {Φ : Nat → mR}
/-- all is as the facts say -/
def FaR (F : Fa) (Φ : Nat → mR) : Prop := ∀ t, t < 542 → isR (fa_cap t) (F t) (Φ t)
def outF (a : Nat) (h h' : gi_H) : Prop := ∀ b, b < a ∨ a + 8414 ≤ b → h' b = h b
theorem outF.rf {h : gi_H} : outF a h h := fun _ _ => rfl
theorem outF.tr {h h' h'' : gi_H} (p : outF a h h') (q : outF a h' h'') : outF a h h'' := fun c hc => by rw [q c hc, p c hc]
theorem fa_cas (a t : Nat) (ht : t < 542) : (t < 480 ∧ fa_row a t = a + 6 + 17 * t ∧ fa_cap t = 14) ∨ (480 ≤ t ∧ t < 505 ∧ fa_row a t = a + 8166 + 8 * (t - 480) ∧ fa_cap t = 1) ∨ (505 ≤ t ∧ t < 530 ∧ fa_row a t = a + 8170 + 8 * (t - 505) ∧ fa_cap t = 1) ∨ (530 ≤ t ∧ t < 534 ∧ fa_row a t = a + 8366 + 4 * (t - 530) ∧ fa_cap t = 1) ∨ (534 ≤ t ∧ fa_row a t = a + 8382 + 4 * (t - 534) ∧ fa_cap t = 1) := by
  by_cases q0 : t < 480
  · exact Or.inl ⟨q0, by unfold fa_row; rw [if_pos q0], by unfold fa_cap; rw [if_pos q0]⟩
  · right
    have k : fa_cap t = 1 := by unfold fa_cap; rw [if_neg q0]
    by_cases q1 : t < 505
    · exact Or.inl ⟨by omega, q1, by unfold fa_row; rw [if_neg q0, if_pos q1], k⟩
    · right
      by_cases q2 : t < 530
      · exact Or.inl ⟨by omega, q2, by unfold fa_row; rw [if_neg q0, if_neg q1, if_pos q2], k⟩
      · right
        by_cases q3 : t < 534
        · exact Or.inl ⟨by omega, q3, by unfold fa_row; rw [if_neg q0, if_neg q1, if_neg q2, if_pos q3], k⟩
        · exact Or.inr ⟨by omega, by unfold fa_row; rw [if_neg q0, if_neg q1, if_neg q2, if_neg q3], k⟩
theorem fa_in (a t : Nat) (ht : t < 542) : a + 6 ≤ fa_row a t ∧ fa_row a t + 3 + fa_cap t ≤ a + 8414 := by
  have := fa_cas a t ht
  omega
theorem fa_dis (a : Nat) {t u : Nat} (ht : t < 542) (hu : u < 542) (h : t ≠ u) : fa_row a t + 3 + fa_cap t ≤ fa_row a u ∨ fa_row a u + 3 + fa_cap u ≤ fa_row a t := by
  have h1 := fa_cas a t ht
  have h2 := fa_cas a u hu
  omega
/-- one row is another -/
theorem fa_at.row {t : Nat} {R' : mR} {h h' : gi_H} (H : fa_at a Φ h) (ht : t < 542) (hr : ro_at (fa_row a t) (fa_cap t) R' h') (ho : outR (fa_row a t) (fa_cap t) h h') : fa_at a (upV Φ t R') h' := by
  obtain ⟨h0, ⟨f1, g1, e1⟩, ⟨f2, g2, e2⟩, ⟨f3, g3, e3⟩, ⟨f4, g4, e4⟩, ⟨f5, g5, e5⟩, h6⟩ := H
  have hi := fa_in a t ht
  refine ⟨by rw [ho _ (by omega)]; exact h0, ⟨f1, by rw [ho _ (by omega)]; exact g1, e1⟩, ⟨f2, by rw [ho _ (by omega)]; exact g2, e2⟩, ⟨f3, by rw [ho _ (by omega)]; exact g3, e3⟩, ⟨f4, by rw [ho _ (by omega)]; exact g4, e4⟩, ⟨f5, by rw [ho _ (by omega)]; exact g5, e5⟩, fun u hu => ?_⟩
  by_cases q : u = t
  · subst q
    rw [upV_self]
    exact hr
  · rw [upV_ne q]
    have d := fa_dis a hu ht q
    exact (h6 u hu).keep (fun b b1 b2 => ho b (by omega))
theorem outF.row {t : Nat} {h h' h'' : gi_H} (H : outF a h h') (ht : t < 542) (ho : outR (fa_row a t) (fa_cap t) h' h'') : outF a h h'' := fun b hb => by
  have hi := fa_in a t ht
  rw [ho b (by omega), H b hb]
theorem rf_some {f : Nat → Option Nat} {i x : Nat} (h : f i = some x) (hi : i < 2 ^ 31) : va_rf (f (nI i).toNatClampNeg) = .ref x := by
  rw [nI_clamp hi, h]
  rfl
set_option maxHeartbeats 4000000 in
set_option maxRecDepth 100000 in
theorem c_Fa_stateAt {m i : Nat} (hm : m < 8) (hi : i < 60) (H : fa_at a Φ h) : gi_T l V y_Fa_stateAt b_Fa_stateAt 4 (some (.object "AnalysisHouse$Row")) 0 0 0 0 [.ref a, .int (nI m), .int (nI i)] n h (gi_is (some (.ref (fa_row a (60 * m + i)))) n h) := by
  refine gi_enter (by decide) (Nat.le_of_ble_eq_true rfl) ?_
  intro _ _ _ _ _ _ _ _ C hr hnm
  obtain ⟨h0, ⟨f1, g1, e1⟩, ⟨f2, g2, e2⟩, ⟨f3, g3, e3⟩, ⟨f4, g4, e4⟩, ⟨f5, g5, e5⟩, h6⟩ := id H
  refine gi_iload_n (q := 1) (i := 1) C (dm_Fa_stateAt 0 rfl) rfl rfl rfl ?_
  refine gi_if_lt (q := 4) (tgt := 24) C (dm_Fa_stateAt 1 rfl) rfl (by decide) (fun c1 => ?_) (fun c1 => ?_)
  · exact absurd (nI_nn (j := m) (by omega)) (Int32.not_le.mpr c1)
  · refine gi_iload_n (q := 5) (i := 1) C (dm_Fa_stateAt 2 rfl) rfl rfl rfl ?_
    refine gi_bipush (q := 7) (v := 8) C (dm_Fa_stateAt 3 rfl) rfl (by decide) ?_
    refine gi_icmp_ge (q := 10) (tgt := 24) C (dm_Fa_stateAt 4 rfl) rfl (by decide) (fun c7 => ?_) (fun c7 => ?_)
    · exact absurd (nI_lt (a := m) (b := 8) (by omega) (by omega)) (Int32.not_lt.mpr c7)
    · refine gi_iload_n (q := 11) (i := 2) C (dm_Fa_stateAt 5 rfl) rfl rfl rfl ?_
      refine gi_if_lt (q := 14) (tgt := 24) C (dm_Fa_stateAt 6 rfl) rfl (by decide) (fun c11 => ?_) (fun c11 => ?_)
      · exact absurd (nI_nn (j := i) (by omega)) (Int32.not_le.mpr c11)
      · refine gi_iload_n (q := 15) (i := 2) C (dm_Fa_stateAt 7 rfl) rfl rfl rfl ?_
        refine gi_bipush (q := 17) (v := 60) C (dm_Fa_stateAt 8 rfl) rfl (by decide) ?_
        refine gi_icmp_ge (q := 20) (tgt := 24) C (dm_Fa_stateAt 9 rfl) rfl (by decide) (fun c17 => ?_) (fun c17 => ?_)
        · exact absurd (nI_lt (a := i) (b := 60) (by omega) (by omega)) (Int32.not_lt.mpr c17)
        · refine gi_iconst (q := 21) (v := 1) C (dm_Fa_stateAt 10 rfl) rfl (by decide) ?_
          refine gi_goto (tgt := 25) C (dm_Fa_stateAt 11 rfl) (by decide) ?_
          refine gi_istore_n (q := 26) (i := 3) C (dm_Fa_stateAt 13 rfl) rfl rfl (Nat.le_of_ble_eq_true rfl) ?_
          refine gi_aload_n (q := 27) (i := 0) C (dm_Fa_stateAt 14 rfl) rfl rfl rfl ?_
          refine gi_get (q := 30) C (dm_Fa_stateAt 15 rfl) rfl fl_Fa_11 (by repeat (first | exact gi_up_self _ _ _ | assumption | rw [gi_up_ne (by omega)])) rfl ?_
          refine gi_iload_n (q := 31) (i := 3) C (dm_Fa_stateAt 16 rfl) rfl rfl rfl ?_
          refine gi_if_eq (q := 34) (tgt := 43) C (dm_Fa_stateAt 17 rfl) rfl (by decide) (fun c31 => ?_) (fun c31 => ?_)
          · exact absurd c31 (by decide)
          · refine gi_iload_n (q := 35) (i := 1) C (dm_Fa_stateAt 18 rfl) rfl rfl rfl ?_
            refine gi_bipush (q := 37) (v := 60) C (dm_Fa_stateAt 19 rfl) rfl (by decide) ?_
            refine gi_imul (q := 38) C (dm_Fa_stateAt 20 rfl) rfl ?_
            refine gi_iload_n (q := 39) (i := 2) C (dm_Fa_stateAt 21 rfl) rfl rfl rfl ?_
            refine gi_iadd (q := 40) C (dm_Fa_stateAt 22 rfl) rfl ?_
            rw [show nI m * 60 + nI i = nI (60 * m + i) by rw [show (60 : Int32) = nI 60 from rfl, pk_mul, nI_add, Nat.mul_comm]]
            refine gi_goto (tgt := 44) C (dm_Fa_stateAt 23 rfl) (by decide) ?_
            refine gi_aald (q := 45) C (dm_Fa_stateAt 25 rfl) rfl rfl (by repeat (first | exact gi_up_self _ _ _ | assumption | rw [gi_up_ne (by omega)])) (vp_in_nI (by omega) (by omega)) (rf_some (e1 _ (by omega)) (by omega)) ?_
            refine gi_aret C hr (Or.inl ⟨_, rfl⟩) (Or.inr ⟨_, rfl⟩) (dm_Fa_stateAt 26 rfl) ?_
            exact ⟨rfl, rfl, rfl⟩
set_option maxHeartbeats 4000000 in
set_option maxRecDepth 100000 in
theorem c_Fa_lengthOf {i : Nat} (hi : i < 25) (H : fa_at a Φ h) : gi_T l V y_Fa_lengthOf b_Fa_lengthOf 2 (some (.object "AnalysisHouse$Row")) 0 0 0 0 [.ref a, .int (nI i)] n h (gi_is (some (.ref (fa_row a (480 + i)))) n h) := by
  refine gi_enter (by decide) (Nat.le_of_ble_eq_true rfl) ?_
  intro _ _ _ _ _ _ _ _ C hr hnm
  obtain ⟨h0, ⟨f1, g1, e1⟩, ⟨f2, g2, e2⟩, ⟨f3, g3, e3⟩, ⟨f4, g4, e4⟩, ⟨f5, g5, e5⟩, h6⟩ := id H
  refine gi_aload_n (q := 1) (i := 0) C (dm_Fa_lengthOf 0 rfl) rfl rfl rfl ?_
  refine gi_get (q := 4) C (dm_Fa_lengthOf 1 rfl) rfl fl_Fa_17 (by repeat (first | exact gi_up_self _ _ _ | assumption | rw [gi_up_ne (by omega)])) rfl ?_
  refine gi_iload_n (q := 5) (i := 1) C (dm_Fa_lengthOf 2 rfl) rfl rfl rfl ?_
  refine gi_if_lt (q := 8) (tgt := 18) C (dm_Fa_lengthOf 3 rfl) rfl (by decide) (fun c5 => ?_) (fun c5 => ?_)
  · exact absurd (nI_nn (j := i) (by omega)) (Int32.not_le.mpr c5)
  · refine gi_iload_n (q := 9) (i := 1) C (dm_Fa_lengthOf 4 rfl) rfl rfl rfl ?_
    refine gi_bipush (q := 11) (v := 25) C (dm_Fa_lengthOf 5 rfl) rfl (by decide) ?_
    refine gi_icmp_ge (q := 14) (tgt := 18) C (dm_Fa_lengthOf 6 rfl) rfl (by decide) (fun c11 => ?_) (fun c11 => ?_)
    · exact absurd (nI_lt (a := i) (b := 25) (by omega) (by omega)) (Int32.not_lt.mpr c11)
    · refine gi_iload_n (q := 15) (i := 1) C (dm_Fa_lengthOf 7 rfl) rfl rfl rfl ?_
      refine gi_goto (tgt := 19) C (dm_Fa_lengthOf 8 rfl) (by decide) ?_
      refine gi_aald (q := 20) C (dm_Fa_lengthOf 10 rfl) rfl rfl (by repeat (first | exact gi_up_self _ _ _ | assumption | rw [gi_up_ne (by omega)])) (vp_in_nI hi (by omega)) (rf_some (e2 i hi) (by omega)) ?_
      refine gi_aret C hr (Or.inl ⟨_, rfl⟩) (Or.inr ⟨_, rfl⟩) (dm_Fa_lengthOf 11 rfl) ?_
      exact ⟨rfl, rfl, rfl⟩
set_option maxHeartbeats 4000000 in
set_option maxRecDepth 100000 in
theorem c_Fa_elementOf {i : Nat} (hi : i < 25) (H : fa_at a Φ h) : gi_T l V y_Fa_elementOf b_Fa_elementOf 2 (some (.object "AnalysisHouse$Row")) 0 0 0 0 [.ref a, .int (nI i)] n h (gi_is (some (.ref (fa_row a (505 + i)))) n h) := by
  refine gi_enter (by decide) (Nat.le_of_ble_eq_true rfl) ?_
  intro _ _ _ _ _ _ _ _ C hr hnm
  obtain ⟨h0, ⟨f1, g1, e1⟩, ⟨f2, g2, e2⟩, ⟨f3, g3, e3⟩, ⟨f4, g4, e4⟩, ⟨f5, g5, e5⟩, h6⟩ := id H
  refine gi_aload_n (q := 1) (i := 0) C (dm_Fa_elementOf 0 rfl) rfl rfl rfl ?_
  refine gi_get (q := 4) C (dm_Fa_elementOf 1 rfl) rfl fl_Fa_20 (by repeat (first | exact gi_up_self _ _ _ | assumption | rw [gi_up_ne (by omega)])) rfl ?_
  refine gi_iload_n (q := 5) (i := 1) C (dm_Fa_elementOf 2 rfl) rfl rfl rfl ?_
  refine gi_if_lt (q := 8) (tgt := 18) C (dm_Fa_elementOf 3 rfl) rfl (by decide) (fun c5 => ?_) (fun c5 => ?_)
  · exact absurd (nI_nn (j := i) (by omega)) (Int32.not_le.mpr c5)
  · refine gi_iload_n (q := 9) (i := 1) C (dm_Fa_elementOf 4 rfl) rfl rfl rfl ?_
    refine gi_bipush (q := 11) (v := 25) C (dm_Fa_elementOf 5 rfl) rfl (by decide) ?_
    refine gi_icmp_ge (q := 14) (tgt := 18) C (dm_Fa_elementOf 6 rfl) rfl (by decide) (fun c11 => ?_) (fun c11 => ?_)
    · exact absurd (nI_lt (a := i) (b := 25) (by omega) (by omega)) (Int32.not_lt.mpr c11)
    · refine gi_iload_n (q := 15) (i := 1) C (dm_Fa_elementOf 7 rfl) rfl rfl rfl ?_
      refine gi_goto (tgt := 19) C (dm_Fa_elementOf 8 rfl) (by decide) ?_
      refine gi_aald (q := 20) C (dm_Fa_elementOf 10 rfl) rfl rfl (by repeat (first | exact gi_up_self _ _ _ | assumption | rw [gi_up_ne (by omega)])) (vp_in_nI hi (by omega)) (rf_some (e3 i hi) (by omega)) ?_
      refine gi_aret C hr (Or.inl ⟨_, rfl⟩) (Or.inr ⟨_, rfl⟩) (dm_Fa_elementOf 11 rfl) ?_
      exact ⟨rfl, rfl, rfl⟩
set_option maxHeartbeats 4000000 in
set_option maxRecDepth 100000 in
theorem c_Fa_fieldOf {i : Nat} (hi : i < 4) (H : fa_at a Φ h) : gi_T l V y_Fa_fieldOf b_Fa_fieldOf 2 (some (.object "AnalysisHouse$Row")) 0 0 0 0 [.ref a, .int (nI i)] n h (gi_is (some (.ref (fa_row a (530 + i)))) n h) := by
  refine gi_enter (by decide) (Nat.le_of_ble_eq_true rfl) ?_
  intro _ _ _ _ _ _ _ _ C hr hnm
  obtain ⟨h0, ⟨f1, g1, e1⟩, ⟨f2, g2, e2⟩, ⟨f3, g3, e3⟩, ⟨f4, g4, e4⟩, ⟨f5, g5, e5⟩, h6⟩ := id H
  refine gi_aload_n (q := 1) (i := 0) C (dm_Fa_fieldOf 0 rfl) rfl rfl rfl ?_
  refine gi_get (q := 4) C (dm_Fa_fieldOf 1 rfl) rfl fl_Fa_23 (by repeat (first | exact gi_up_self _ _ _ | assumption | rw [gi_up_ne (by omega)])) rfl ?_
  refine gi_iload_n (q := 5) (i := 1) C (dm_Fa_fieldOf 2 rfl) rfl rfl rfl ?_
  refine gi_if_lt (q := 8) (tgt := 17) C (dm_Fa_fieldOf 3 rfl) rfl (by decide) (fun c5 => ?_) (fun c5 => ?_)
  · exact absurd (nI_nn (j := i) (by omega)) (Int32.not_le.mpr c5)
  · refine gi_iload_n (q := 9) (i := 1) C (dm_Fa_fieldOf 4 rfl) rfl rfl rfl ?_
    refine gi_iconst (q := 10) (v := 4) C (dm_Fa_fieldOf 5 rfl) rfl (by decide) ?_
    refine gi_icmp_ge (q := 13) (tgt := 17) C (dm_Fa_fieldOf 6 rfl) rfl (by decide) (fun c10 => ?_) (fun c10 => ?_)
    · exact absurd (nI_lt (a := i) (b := 4) (by omega) (by omega)) (Int32.not_lt.mpr c10)
    · refine gi_iload_n (q := 14) (i := 1) C (dm_Fa_fieldOf 7 rfl) rfl rfl rfl ?_
      refine gi_goto (tgt := 18) C (dm_Fa_fieldOf 8 rfl) (by decide) ?_
      refine gi_aald (q := 19) C (dm_Fa_fieldOf 10 rfl) rfl rfl (by repeat (first | exact gi_up_self _ _ _ | assumption | rw [gi_up_ne (by omega)])) (vp_in_nI hi (by omega)) (rf_some (e4 i hi) (by omega)) ?_
      refine gi_aret C hr (Or.inl ⟨_, rfl⟩) (Or.inr ⟨_, rfl⟩) (dm_Fa_fieldOf 11 rfl) ?_
      exact ⟨rfl, rfl, rfl⟩
set_option maxHeartbeats 4000000 in
set_option maxRecDepth 100000 in
theorem c_Fa_resultOf {i : Nat} (hi : i < 8) (H : fa_at a Φ h) : gi_T l V y_Fa_resultOf b_Fa_resultOf 2 (some (.object "AnalysisHouse$Row")) 0 0 0 0 [.ref a, .int (nI i)] n h (gi_is (some (.ref (fa_row a (534 + i)))) n h) := by
  refine gi_enter (by decide) (Nat.le_of_ble_eq_true rfl) ?_
  intro _ _ _ _ _ _ _ _ C hr hnm
  obtain ⟨h0, ⟨f1, g1, e1⟩, ⟨f2, g2, e2⟩, ⟨f3, g3, e3⟩, ⟨f4, g4, e4⟩, ⟨f5, g5, e5⟩, h6⟩ := id H
  refine gi_aload_n (q := 1) (i := 0) C (dm_Fa_resultOf 0 rfl) rfl rfl rfl ?_
  refine gi_get (q := 4) C (dm_Fa_resultOf 1 rfl) rfl fl_Fa_26 (by repeat (first | exact gi_up_self _ _ _ | assumption | rw [gi_up_ne (by omega)])) rfl ?_
  refine gi_iload_n (q := 5) (i := 1) C (dm_Fa_resultOf 2 rfl) rfl rfl rfl ?_
  refine gi_if_lt (q := 8) (tgt := 18) C (dm_Fa_resultOf 3 rfl) rfl (by decide) (fun c5 => ?_) (fun c5 => ?_)
  · exact absurd (nI_nn (j := i) (by omega)) (Int32.not_le.mpr c5)
  · refine gi_iload_n (q := 9) (i := 1) C (dm_Fa_resultOf 4 rfl) rfl rfl rfl ?_
    refine gi_bipush (q := 11) (v := 8) C (dm_Fa_resultOf 5 rfl) rfl (by decide) ?_
    refine gi_icmp_ge (q := 14) (tgt := 18) C (dm_Fa_resultOf 6 rfl) rfl (by decide) (fun c11 => ?_) (fun c11 => ?_)
    · exact absurd (nI_lt (a := i) (b := 8) (by omega) (by omega)) (Int32.not_lt.mpr c11)
    · refine gi_iload_n (q := 15) (i := 1) C (dm_Fa_resultOf 7 rfl) rfl rfl rfl ?_
      refine gi_goto (tgt := 19) C (dm_Fa_resultOf 8 rfl) (by decide) ?_
      refine gi_aald (q := 20) C (dm_Fa_resultOf 10 rfl) rfl rfl (by repeat (first | exact gi_up_self _ _ _ | assumption | rw [gi_up_ne (by omega)])) (vp_in_nI hi (by omega)) (rf_some (e5 i hi) (by omega)) ?_
      refine gi_aret C hr (Or.inl ⟨_, rfl⟩) (Or.inr ⟨_, rfl⟩) (dm_Fa_resultOf 11 rfl) ?_
      exact ⟨rfl, rfl, rfl⟩
def fE (p : Nat → Prop) [DecidablePred p] (Φ : Nat → mR) : Nat → mR := fun t => if p t then rO (Φ t) 0 0 0 else Φ t
theorem fE_up {p q : Nat → Prop} [DecidablePred p] [DecidablePred q] {Φ : Nat → mR} {t : Nat} (h1 : q t) (h2 : ∀ u, u ≠ t → (q u ↔ p u)) : upV (fE p Φ) t (rO (fE p Φ t) 0 0 0) = fE q Φ := by
  funext u
  unfold upV fE
  by_cases e : u = t
  · subst e
    rw [if_pos rfl, if_pos h1]
    split <;> rfl
  · rw [if_neg e]
    by_cases z : p u
    · rw [if_pos z, if_pos ((h2 u e).mpr z)]
    · rw [if_neg z, if_neg (fun y => z ((h2 u e).mp y))]
theorem fE_0 {p : Nat → Prop} [DecidablePred p] {Φ : Nat → mR} (h : ∀ t, ¬ p t) : fE p Φ = Φ := by
  funext u
  unfold fE
  rw [if_neg (h u)]
theorem fE_eq {p q : Nat → Prop} [DecidablePred p] [DecidablePred q] {Φ : Nat → mR} (h : ∀ t, p t ↔ q t) : fE p Φ = fE q Φ := by
  funext u
  unfold fE
  by_cases z : p u
  · rw [if_pos z, if_pos ((h u).mp z)]
  · rw [if_neg z, if_neg (fun y => z ((h u).mpr y))]
/-- a row of one value, told -/
def rB (R : mR) (v : mV) : mR := rV (rM (rO R (nI 1) 1 0) 0 (-1)) 0 v
theorem rB_R {R : mR} {v : Av} {k : Nat} (hk : 1 ≤ k) : isR k (mkR true 0 1 (one v)) (rB R (eA v)) := by
  refine ⟨rfl, rfl, fun _ => ⟨⟨rfl, fun i hi => ?_⟩, hk⟩⟩
  have : i = 0 := by
    have hi' : i < 1 := hi
    omega
  subst this
  constructor
  · show upV R.2.2.2.2.1 0 (eA v) 0 = _
    rw [upV_self]
    rfl
  · show upV R.2.2.2.2.2 0 (-1) 0 = _
    rw [upV_self]
    rfl
theorem rE_R {R : mR} {t : Rw} {k : Nat} (h1 : t.told = false) (h2 : t.ch = 0) : isR k t (rO R 0 0 0) := ⟨by rw [h1]; rfl, by rw [h2]; rfl, fun z => by rw [h1] at z; cases z⟩
/-- the fields, one after the other -/
def fF (Φ : Nat → mR) (i : Nat) : Nat → mR := fun t => if 530 ≤ t ∧ t < 530 + i then rB (Φ t) (eA (.inl (0, 0, 0))) else if t < 530 ∨ 534 ≤ t then rO (Φ t) 0 0 0 else Φ t
theorem fF_at {Φ : Nat → mR} {i : Nat} (hi : i < 4) : fF Φ i (530 + i) = Φ (530 + i) := by
  unfold fF
  rw [if_neg (by omega), if_neg (by omega)]
theorem fF_up {Φ : Nat → mR} {i : Nat} (hi : i < 4) : upV (fF Φ i) (530 + i) (rB (Φ (530 + i)) (eA (.inl (0, 0, 0)))) = fF Φ (i + 1) := by
  funext t
  unfold upV fF
  by_cases e : t = 530 + i
  · subst e
    rw [if_pos rfl, if_pos (by omega)]
  · rw [if_neg e]
    by_cases z : 530 ≤ t ∧ t < 530 + i
    · rw [if_pos z, if_pos (by omega)]
    · rw [if_neg z, if_neg (show ¬ (530 ≤ t ∧ t < 530 + (i + 1)) by omega)]
theorem fa_e4 {Φ : Nat → mR} : ∀ t, t < 542 → fE (fun t => t < 530 ∨ (534 ≤ t ∧ t < 534 + 8)) Φ t = fF Φ 0 t := by
  intro t ht
  unfold fE fF
  rw [if_neg (show ¬ (530 ≤ t ∧ t < 530 + 0) by omega)]
  by_cases z : t < 530 ∨ 534 ≤ t
  · rw [if_pos (by omega), if_pos z]
  · rw [if_neg (by omega), if_neg z]
theorem fa_at.ext {Φ Ψ : Nat → mR} {h : gi_H} (H : fa_at a Φ h) (e : ∀ t, t < 542 → Φ t = Ψ t) : fa_at a Ψ h := by
  obtain ⟨h0, g1, g2, g3, g4, g5, h6⟩ := H
  exact ⟨h0, g1, g2, g3, g4, g5, fun t ht => by rw [← e t ht]; exact h6 t ht⟩
set_option maxHeartbeats 4000000 in
set_option maxRecDepth 100000 in
theorem c_Fa_begin (H : fa_at a Φ h) : gi_T l V y_Fa_begin b_Fa_begin 2 none 3 62 0 0 [.ref a] n h (fun v n' h' => v = none ∧ n' = n ∧ (∃ Φ', fa_at a Φ' h' ∧ FaR bgF Φ') ∧ outF a h h') := by
  refine gi_enter (by decide) (Nat.le_of_ble_eq_true rfl) ?_
  intro _ _ _ _ _ _ _ _ C hr hnm
  refine gi_iconst (q := 1) (v := 0) C (dm_Fa_begin 0 rfl) rfl (by decide) ?_
  refine gi_istore_n (q := 2) (i := 1) C (dm_Fa_begin 1 rfl) rfl rfl (Nat.le_of_ble_eq_true rfl) ?_
  refine gi_while (σ := Nat) (fun i => 480 - i) (fun i => [(1, .int (nI i)), (0, .ref a)]) (fun _ => n) (fun _ => 0) (fun _ => 0) (fun i y => i ≤ 480 ∧ fa_at a (fE (fun t => t < i) Φ) y ∧ outF a h y) 0 ⟨Nat.zero_le _, by rw [fE_0 (fun t => by omega)]; exact H, outF.rf⟩ ?_ (List.forall_mem_cons.mpr ⟨rfl, List.forall_mem_cons.mpr ⟨rfl, fun _ h => absurd h List.not_mem_nil⟩⟩) rfl rfl rfl
  rintro i y ⟨hi, Y, YO⟩ ih
  try dsimp only at *
  obtain ⟨h0, ⟨f1, g1, e1⟩, ⟨f2, g2, e2⟩, ⟨f3, g3, e3⟩, ⟨f4, g4, e4⟩, ⟨f5, g5, e5⟩, h6⟩ := id Y
  refine gi_iload_n (q := 3) (i := 1) C (dm_Fa_begin 2 rfl) rfl rfl rfl ?_
  refine gi_sipush (q := 6) (v := 480) C (dm_Fa_begin 3 rfl) rfl (by decide) ?_
  refine gi_icmp_ge (q := 9) (tgt := 24) C (dm_Fa_begin 4 rfl) rfl (by decide) (fun c6 => ?_) (fun c6 => ?_)
  · have hik : i = 480 := by
      rcases Nat.lt_or_ge i 480 with q | q
      · exact absurd c6 (nI_ge (b := 480) q (by omega))
      · omega
    subst hik
    refine gi_iconst (q := 25) (v := 0) C (dm_Fa_begin 12 rfl) rfl (by decide) ?_
    refine gi_istore_n (q := 26) (i := 1) C (dm_Fa_begin 13 rfl) rfl rfl (Nat.le_of_ble_eq_true rfl) ?_
    refine gi_while (σ := Nat) (fun i => 25 - i) (fun i => [(1, .int (nI i)), (0, .ref a)]) (fun _ => n) (fun _ => 0) (fun _ => 0) (fun i y => i ≤ 25 ∧ fa_at a (fE (fun t => t < 480 + i ∨ (505 ≤ t ∧ t < 505 + i)) Φ) y ∧ outF a h y) 0 ⟨Nat.zero_le _, by rw [fE_eq (q := fun t => t < 480) (fun t => by omega)]; exact Y, YO⟩ ?_ (List.forall_mem_cons.mpr ⟨rfl, List.forall_mem_cons.mpr ⟨rfl, fun _ h => absurd h List.not_mem_nil⟩⟩) rfl rfl rfl
    rintro i y ⟨hi, Y, YO⟩ ih
    try dsimp only at *
    obtain ⟨h0, ⟨f1, g1, e1⟩, ⟨f2, g2, e2⟩, ⟨f3, g3, e3⟩, ⟨f4, g4, e4⟩, ⟨f5, g5, e5⟩, h6⟩ := id Y
    refine gi_iload_n (q := 27) (i := 1) C (dm_Fa_begin 14 rfl) rfl rfl rfl ?_
    refine gi_bipush (q := 29) (v := 25) C (dm_Fa_begin 15 rfl) rfl (by decide) ?_
    refine gi_icmp_ge (q := 32) (tgt := 56) C (dm_Fa_begin 16 rfl) rfl (by decide) (fun c29 => ?_) (fun c29 => ?_)
    · have hik : i = 25 := by
        rcases Nat.lt_or_ge i 25 with q | q
        · exact absurd c29 (nI_ge (b := 25) q (by omega))
        · omega
      subst hik
      refine gi_iconst (q := 57) (v := 0) C (dm_Fa_begin 29 rfl) rfl (by decide) ?_
      refine gi_istore_n (q := 58) (i := 1) C (dm_Fa_begin 30 rfl) rfl rfl (Nat.le_of_ble_eq_true rfl) ?_
      refine gi_while (σ := Nat) (fun i => 8 - i) (fun i => [(1, .int (nI i)), (0, .ref a)]) (fun _ => n) (fun _ => 0) (fun _ => 0) (fun i y => i ≤ 8 ∧ fa_at a (fE (fun t => t < 530 ∨ (534 ≤ t ∧ t < 534 + i)) Φ) y ∧ outF a h y) 0 ⟨Nat.zero_le _, by rw [fE_eq (q := fun t => t < 480 + 25 ∨ (505 ≤ t ∧ t < 505 + 25)) (fun t => by omega)]; exact Y, YO⟩ ?_ (List.forall_mem_cons.mpr ⟨rfl, List.forall_mem_cons.mpr ⟨rfl, fun _ h => absurd h List.not_mem_nil⟩⟩) rfl rfl rfl
      rintro i y ⟨hi, Y, YO⟩ ih
      try dsimp only at *
      obtain ⟨h0, ⟨f1, g1, e1⟩, ⟨f2, g2, e2⟩, ⟨f3, g3, e3⟩, ⟨f4, g4, e4⟩, ⟨f5, g5, e5⟩, h6⟩ := id Y
      refine gi_iload_n (q := 59) (i := 1) C (dm_Fa_begin 31 rfl) rfl rfl rfl ?_
      refine gi_bipush (q := 61) (v := 8) C (dm_Fa_begin 32 rfl) rfl (by decide) ?_
      refine gi_icmp_ge (q := 64) (tgt := 79) C (dm_Fa_begin 33 rfl) rfl (by decide) (fun c61 => ?_) (fun c61 => ?_)
      · have hik : i = 8 := by
          rcases Nat.lt_or_ge i 8 with q | q
          · exact absurd c61 (nI_ge (b := 8) q (by omega))
          · omega
        subst hik
        refine gi_iconst (q := 80) (v := 0) C (dm_Fa_begin 41 rfl) rfl (by decide) ?_
        refine gi_istore_n (q := 81) (i := 1) C (dm_Fa_begin 42 rfl) rfl rfl (Nat.le_of_ble_eq_true rfl) ?_
        refine gi_while (σ := Nat) (fun i => 4 - i) (fun i => [(1, .int (nI i)), (0, .ref a)]) (fun _ => n) (fun _ => 0) (fun _ => 0) (fun i y => i ≤ 4 ∧ fa_at a (fF Φ i) y ∧ outF a h y) 0 ⟨Nat.zero_le _, Y.ext fa_e4, YO⟩ ?_ (List.forall_mem_cons.mpr ⟨rfl, List.forall_mem_cons.mpr ⟨rfl, fun _ h => absurd h List.not_mem_nil⟩⟩) rfl rfl rfl
        rintro i y ⟨hi, Y, YO⟩ ih
        try dsimp only at *
        obtain ⟨h0, ⟨f1, g1, e1⟩, ⟨f2, g2, e2⟩, ⟨f3, g3, e3⟩, ⟨f4, g4, e4⟩, ⟨f5, g5, e5⟩, h6⟩ := id Y
        refine gi_iload_n (q := 82) (i := 1) C (dm_Fa_begin 43 rfl) rfl rfl rfl ?_
        refine gi_iconst (q := 83) (v := 4) C (dm_Fa_begin 44 rfl) rfl (by decide) ?_
        refine gi_icmp_ge (q := 86) (tgt := 124) C (dm_Fa_begin 45 rfl) rfl (by decide) (fun c83 => ?_) (fun c83 => ?_)
        · have hik : i = 4 := by
            rcases Nat.lt_or_ge i 4 with q | q
            · exact absurd c83 (nI_ge (b := 4) q (by omega))
            · omega
          subst hik
          have L0 := h6 480 (by omega)
          have r0 : fa_row a 480 = a + 8166 := by have := fa_cas a 480 (by omega); omega
          have r1 : fa_row a 505 = a + 8170 := by have := fa_cas a 505 (by omega); omega
          have r00 : fa_row a (480 + 0) = a + 8166 := r0
          have r11 : fa_row a (505 + 0) = a + 8170 := r1
          have k0 : fa_cap 480 = 1 := rfl
          have k1 : fa_cap 505 = 1 := rfl
          refine gi_aload_n (q := 125) (i := 0) C (dm_Fa_begin 66 rfl) rfl rfl rfl ?_
          refine gi_get (q := 128) C (dm_Fa_begin 67 rfl) rfl fl_Fa_17 h0 rfl ?_
          refine gi_iconst (q := 129) (v := 0) C (dm_Fa_begin 68 rfl) rfl (by decide) ?_
          refine gi_aald (q := 130) C (dm_Fa_begin 69 rfl) rfl rfl g2 (vp_in_nI (n := 0) (by omega) (by omega)) (rf_some (i := 0) (e2 0 (by omega)) (by omega)) ?_
          refine gi_iconst (q := 131) (v := 1) C (dm_Fa_begin 70 rfl) rfl (by decide) ?_
          refine gi_put (q := 134) C (dm_Fa_begin 71 rfl) rfl fl_Fa_35 fp_Ro_3 L0.1 (Nat.le_of_ble_eq_true rfl) rfl rfl ?_
          have T0 := L0.o 0 1 0
          refine gi_aload_n (q := 135) (i := 0) C (dm_Fa_begin 72 rfl) rfl rfl rfl ?_
          refine gi_get (q := 138) C (dm_Fa_begin 73 rfl) rfl fl_Fa_17 (by rw [gi_up_ne (by omega)]; exact h0) rfl ?_
          refine gi_iconst (q := 139) (v := 0) C (dm_Fa_begin 74 rfl) rfl (by decide) ?_
          refine gi_aald (q := 140) C (dm_Fa_begin 75 rfl) rfl rfl (by rw [gi_up_ne (by omega)]; exact g2) (vp_in_nI (n := 0) (by omega) (by omega)) (rf_some (i := 0) (e2 0 (by omega)) (by omega)) ?_
          refine gi_callv 0 (q := 143) C (dm_Fa_begin 76 rfl) rfl my_Ro_push lk_Fa_39 im_Ro_push rfl (c_Ro_push (s := 0) (by omega) (by omega) T0 rfl) T0.1 rfl rfl ⟨(Nat.le_of_ble_eq_true rfl), (Nat.le_of_ble_eq_true rfl)⟩ (Nat.le_of_ble_eq_true rfl) ⟨(Nat.le_of_ble_eq_true rfl), (Nat.le_of_ble_eq_true rfl)⟩ (fun r140 n140 h140 e140 => ?_)
          obtain ⟨rfl, rfl, S140, O140⟩ := e140
          have V0 := S140.2.2.2.1 0 (by omega)
          refine gi_lconst (q := 144) (v := 0) C (dm_Fa_begin 77 rfl) rfl (by decide) ?_
          refine gi_ldc2 (q := 147) C (dm_Fa_begin 78 rfl) rfl kc_Fa_49 ?_
          refine gi_lconst (q := 148) (v := 1) C (dm_Fa_begin 79 rfl) rfl (by decide) ?_
          rw [eL_0, eL_HI, eL_1]
          refine gi_callv 3 (q := 151) C (dm_Fa_begin 80 rfl) rfl my_Va_beSpan lk_Fa_51 im_Va_beSpan rfl (c_Va_beSpan _ _ _ _ _ V0.2.2) V0.2.2 rfl rfl ⟨(Nat.le_of_ble_eq_true rfl), (Nat.le_of_ble_eq_true rfl)⟩ (Nat.le_of_ble_eq_true rfl) ⟨(Nat.le_of_ble_eq_true rfl), (Nat.le_of_ble_eq_true rfl)⟩ (fun r148 n148 h148 e148 => ?_)
          obtain ⟨rfl, rfl, rfl⟩ := e148
          have A1 := Y.row (show 480 < 542 by omega) (S140.v (show 0 < fa_cap 480 by omega) (mSpan (eL 0) (eL 2147483647) (eL 1))) (((outR.rf.up (Nat.le_refl _) (by omega)).tr O140).up (by have := V0.1; omega) V0.2.1)
          have OL : outR (fa_row a 480) (fa_cap 480) y _ := ((outR.rf.up (Nat.le_refl _) (by omega)).tr O140).up (x := eV (mSpan (eL 0) (eL 2147483647) (eL 1))) (by have := V0.1; omega) V0.2.1
          have M0 := A1.2.2.2.2.2.2 505 (by omega)
          refine gi_aload_n (q := 152) (i := 0) C (dm_Fa_begin 81 rfl) rfl rfl rfl ?_
          refine gi_get (q := 155) C (dm_Fa_begin 82 rfl) rfl fl_Fa_20 (by rw [OL _ (by omega)]; exact h0) rfl ?_
          refine gi_iconst (q := 156) (v := 0) C (dm_Fa_begin 83 rfl) rfl (by decide) ?_
          refine gi_aald (q := 157) C (dm_Fa_begin 84 rfl) rfl rfl (by rw [OL _ (by omega)]; exact g3) (vp_in_nI (n := 0) (by omega) (by omega)) (rf_some (i := 0) (e3 0 (by omega)) (by omega)) ?_
          refine gi_iconst (q := 158) (v := 1) C (dm_Fa_begin 85 rfl) rfl (by decide) ?_
          refine gi_put (q := 161) C (dm_Fa_begin 86 rfl) rfl fl_Fa_35 fp_Ro_3 M0.1 (Nat.le_of_ble_eq_true rfl) rfl rfl ?_
          have U0 := M0.o 0 1 0
          refine gi_aload_n (q := 162) (i := 0) C (dm_Fa_begin 87 rfl) rfl rfl rfl ?_
          refine gi_get (q := 165) C (dm_Fa_begin 88 rfl) rfl fl_Fa_20 (by rw [gi_up_ne (by omega), OL _ (by omega)]; exact h0) rfl ?_
          refine gi_iconst (q := 166) (v := 0) C (dm_Fa_begin 89 rfl) rfl (by decide) ?_
          refine gi_aald (q := 167) C (dm_Fa_begin 90 rfl) rfl rfl (by rw [gi_up_ne (by omega), OL _ (by omega)]; exact g3) (vp_in_nI (n := 0) (by omega) (by omega)) (rf_some (i := 0) (e3 0 (by omega)) (by omega)) ?_
          refine gi_callv 0 (q := 170) C (dm_Fa_begin 91 rfl) rfl my_Ro_push lk_Fa_39 im_Ro_push rfl (c_Ro_push (s := 0) (by omega) (by omega) U0 rfl) U0.1 rfl rfl ⟨(Nat.le_of_ble_eq_true rfl), (Nat.le_of_ble_eq_true rfl)⟩ (Nat.le_of_ble_eq_true rfl) ⟨(Nat.le_of_ble_eq_true rfl), (Nat.le_of_ble_eq_true rfl)⟩ (fun r167 n167 h167 e167 => ?_)
          obtain ⟨rfl, rfl, S167, O167⟩ := e167
          have W0 := S167.2.2.2.1 0 (by omega)
          refine gi_callv 0 (q := 173) C (dm_Fa_begin 92 rfl) rfl my_Va_beAll lk_Fa_55 im_Va_beAll rfl (c_Va_beAll _ _ W0.2.2) W0.2.2 rfl rfl ⟨(Nat.le_of_ble_eq_true rfl), (Nat.le_of_ble_eq_true rfl)⟩ (Nat.le_of_ble_eq_true rfl) ⟨(Nat.le_of_ble_eq_true rfl), (Nat.le_of_ble_eq_true rfl)⟩ (fun r170 n170 h170 e170 => ?_)
          obtain ⟨rfl, rfl, rfl⟩ := e170
          refine gi_vret C hr (dm_Fa_begin 93 rfl) ?_
          have A2 := A1.row (show 505 < 542 by omega) (S167.v (show 0 < fa_cap 505 by omega) (sV allS)) (((outR.rf.up (Nat.le_refl _) (by omega)).tr O167).up (by have := W0.1; omega) W0.2.1)
          refine ⟨rfl, rfl, ⟨_, A2, fun t ht => ?_⟩, ?_⟩
          · have ck := fa_cas a t ht
            by_cases z1 : t = 505
            · subst z1
              rw [upV_self]
              exact rB_R (R := fF Φ 4 505) (v := .inl allS) (by omega)
            · rw [upV_ne z1]
              by_cases z2 : t = 480
              · subst z2
                rw [upV_self]
                exact rB_R (R := fF Φ 4 480) (v := .inl (0, 2147483647, 1)) (by omega)
              · rw [upV_ne z2]
                unfold fF bgF
                rw [if_neg z2, if_neg z1]
                by_cases z3 : 530 ≤ t ∧ t < 534
                · rw [if_pos z3, if_pos z3]
                  exact rB_R (by omega)
                · rw [if_neg z3, if_neg z3, if_pos (by omega)]
                  exact rE_R rfl rfl
          · exact (YO.row (show 480 < 542 by omega) OL).row (show 505 < 542 by omega) (((outR.rf.up (Nat.le_refl _) (by omega)).tr O167).up (by have := W0.1; omega) W0.2.1)
        · have hlt : i < 4 := by
            rcases Nat.lt_or_ge i 4 with q | q
            · exact q
            · exact absurd (nI_le (a := 4) q (by omega)) c83
          have ri : fa_row a (530 + i) = a + 8366 + 4 * i := by have := fa_cas a (530 + i) (by omega); omega
          have ki : fa_cap (530 + i) = 1 := by have := fa_cas a (530 + i) (by omega); omega
          refine gi_aload_n (q := 87) (i := 0) C (dm_Fa_begin 46 rfl) rfl rfl rfl ?_
          refine gi_get (q := 90) C (dm_Fa_begin 47 rfl) rfl fl_Fa_23 (by first | exact h0 | exact g4) rfl ?_
          refine gi_iload_n (q := 91) (i := 1) C (dm_Fa_begin 48 rfl) rfl rfl rfl ?_
          refine gi_aald (q := 92) C (dm_Fa_begin 49 rfl) rfl rfl (by first | exact h0 | exact g4) (vp_in_nI hlt (by omega)) (rf_some (e4 i hlt) (by omega)) ?_
          refine gi_callv 0 (q := 95) C (dm_Fa_begin 50 rfl) rfl my_Ro_empty lk_Fa_32 im_Ro_empty rfl (c_Ro_empty (by omega) (h6 (530 + i) (by omega))) (h6 (530 + i) (by omega)).1 rfl rfl ⟨(Nat.le_of_ble_eq_true rfl), (Nat.le_of_ble_eq_true rfl)⟩ (Nat.le_of_ble_eq_true rfl) ⟨(Nat.le_of_ble_eq_true rfl), (Nat.le_of_ble_eq_true rfl)⟩ (fun r92 n92 h92 e92 => ?_)
          obtain ⟨rfl, rfl, S92, O92⟩ := e92
          refine gi_aload_n (q := 96) (i := 0) C (dm_Fa_begin 51 rfl) rfl rfl rfl ?_
          refine gi_get (q := 99) C (dm_Fa_begin 52 rfl) rfl fl_Fa_23 (by rw [O92 _ (by omega)]; exact h0) rfl ?_
          refine gi_iload_n (q := 100) (i := 1) C (dm_Fa_begin 53 rfl) rfl rfl rfl ?_
          refine gi_aald (q := 101) C (dm_Fa_begin 54 rfl) rfl rfl (by rw [O92 _ (by omega)]; exact g4) (vp_in_nI hlt (by omega)) (rf_some (e4 i hlt) (by omega)) ?_
          refine gi_iconst (q := 102) (v := 1) C (dm_Fa_begin 55 rfl) rfl (by decide) ?_
          refine gi_put (q := 105) C (dm_Fa_begin 56 rfl) rfl fl_Fa_35 fp_Ro_3 S92.1 (Nat.le_of_ble_eq_true rfl) rfl rfl ?_
          have T0 := S92.o 0 1 0
          refine gi_aload_n (q := 106) (i := 0) C (dm_Fa_begin 57 rfl) rfl rfl rfl ?_
          refine gi_get (q := 109) C (dm_Fa_begin 58 rfl) rfl fl_Fa_23 (by rw [gi_up_ne (by omega), O92 _ (by omega)]; exact h0) rfl ?_
          refine gi_iload_n (q := 110) (i := 1) C (dm_Fa_begin 59 rfl) rfl rfl rfl ?_
          refine gi_aald (q := 111) C (dm_Fa_begin 60 rfl) rfl rfl (by rw [gi_up_ne (by omega), O92 _ (by omega)]; exact g4) (vp_in_nI hlt (by omega)) (rf_some (e4 i hlt) (by omega)) ?_
          refine gi_callv 0 (q := 114) C (dm_Fa_begin 61 rfl) rfl my_Ro_push lk_Fa_39 im_Ro_push rfl (c_Ro_push (s := 0) (by omega) (by omega) T0 rfl) T0.1 rfl rfl ⟨(Nat.le_of_ble_eq_true rfl), (Nat.le_of_ble_eq_true rfl)⟩ (Nat.le_of_ble_eq_true rfl) ⟨(Nat.le_of_ble_eq_true rfl), (Nat.le_of_ble_eq_true rfl)⟩ (fun r111 n111 h111 e111 => ?_)
          obtain ⟨rfl, rfl, S111, O111⟩ := e111
          have V0 := S111.2.2.2.1 0 (by omega)
          refine gi_lconst (q := 115) (v := 0) C (dm_Fa_begin 62 rfl) rfl (by decide) ?_
          refine gi_callv 1 (q := 118) C (dm_Fa_begin 63 rfl) rfl my_Va_beSingle lk_Fa_43 im_Va_beSingle rfl (c_Va_beSingle _ _ 0 V0.2.2) V0.2.2 rfl rfl ⟨(Nat.le_of_ble_eq_true rfl), (Nat.le_of_ble_eq_true rfl)⟩ (Nat.le_of_ble_eq_true rfl) ⟨(Nat.le_of_ble_eq_true rfl), (Nat.le_of_ble_eq_true rfl)⟩ (fun r115 n115 h115 e115 => ?_)
          obtain ⟨rfl, rfl, rfl⟩ := e115
          refine gi_iinc (q := 121) (v := 1) C (dm_Fa_begin 64 rfl) rfl rfl (by decide) (Nat.le_of_ble_eq_true rfl) ?_
          refine gi_goto (tgt := 81) C (dm_Fa_begin 65 rfl) (by decide) ?_
          refine gi_close (ih (i + 1) _ ⟨hlt, ?_, ?_⟩ (by omega)) (List.forall_mem_cons.mpr ⟨(by simp [gi_look, nI_1]), List.forall_mem_cons.mpr ⟨rfl, fun _ h => absurd h List.not_mem_nil⟩⟩) rfl rfl rfl
          · have t := Y.row (show 530 + i < 542 by omega) (S111.v (show 0 < fa_cap (530 + i) by omega) (sV (0, 0, 0))) (((O92.up (by omega) (by omega)).tr O111).up (by have := V0.1; omega) V0.2.1)
            rw [← fF_up hlt]
            rw [fF_at hlt] at t ⊢
            exact t
          · exact YO.row (show 530 + i < 542 by omega) (((O92.up (by omega) (by omega)).tr O111).up (by have := V0.1; omega) V0.2.1)
      · have hlt : i < 8 := by
          rcases Nat.lt_or_ge i 8 with q | q
          · exact q
          · exact absurd (nI_le (a := 8) q (by omega)) c61
        refine gi_aload_n (q := 65) (i := 0) C (dm_Fa_begin 34 rfl) rfl rfl rfl ?_
        refine gi_get (q := 68) C (dm_Fa_begin 35 rfl) rfl fl_Fa_26 (by first | exact h0 | exact g5) rfl ?_
        refine gi_iload_n (q := 69) (i := 1) C (dm_Fa_begin 36 rfl) rfl rfl rfl ?_
        refine gi_aald (q := 70) C (dm_Fa_begin 37 rfl) rfl rfl (by first | exact h0 | exact g5) (vp_in_nI hlt (by omega)) (rf_some (e5 i hlt) (by omega)) ?_
        refine gi_callv 0 (q := 73) C (dm_Fa_begin 38 rfl) rfl my_Ro_empty lk_Fa_32 im_Ro_empty rfl (c_Ro_empty (by have := fa_cas a (534 + i) (by omega); omega) (Y.2.2.2.2.2.2 (534 + i) (by omega))) (Y.2.2.2.2.2.2 (534 + i) (by omega)).1 rfl rfl ⟨(Nat.le_of_ble_eq_true rfl), (Nat.le_of_ble_eq_true rfl)⟩ (Nat.le_of_ble_eq_true rfl) ⟨(Nat.le_of_ble_eq_true rfl), (Nat.le_of_ble_eq_true rfl)⟩ (fun r70 n70 h70 e70 => ?_)
        obtain ⟨rfl, rfl, S70, O70⟩ := e70
        have X70 := Y.row (show 534 + i < 542 by omega) S70 O70
        refine gi_iinc (q := 76) (v := 1) C (dm_Fa_begin 39 rfl) rfl rfl (by decide) (Nat.le_of_ble_eq_true rfl) ?_
        refine gi_goto (tgt := 58) C (dm_Fa_begin 40 rfl) (by decide) ?_
        refine gi_close (ih (i + 1) _ ⟨hlt, ?_, YO.row (show 534 + i < 542 by omega) O70⟩ (by omega)) (List.forall_mem_cons.mpr ⟨(by simp [gi_look, nI_1]), List.forall_mem_cons.mpr ⟨rfl, fun _ h => absurd h List.not_mem_nil⟩⟩) rfl rfl rfl
        rw [fE_up (q := fun t => t < 530 ∨ (534 ≤ t ∧ t < 534 + (i + 1))) (by omega) (fun u hu => by omega)] at X70
        exact X70
    · have hlt : i < 25 := by
        rcases Nat.lt_or_ge i 25 with q | q
        · exact q
        · exact absurd (nI_le (a := 25) q (by omega)) c29
      have r1 : fa_row a (480 + i) = a + 8166 + 8 * i := by have := fa_cas a (480 + i) (by omega); omega
      have k1 : fa_cap (480 + i) = 1 := by have := fa_cas a (480 + i) (by omega); omega
      refine gi_aload_n (q := 33) (i := 0) C (dm_Fa_begin 17 rfl) rfl rfl rfl ?_
      refine gi_get (q := 36) C (dm_Fa_begin 18 rfl) rfl fl_Fa_17 (by first | exact h0 | exact g2) rfl ?_
      refine gi_iload_n (q := 37) (i := 1) C (dm_Fa_begin 19 rfl) rfl rfl rfl ?_
      refine gi_aald (q := 38) C (dm_Fa_begin 20 rfl) rfl rfl (by first | exact h0 | exact g2) (vp_in_nI hlt (by omega)) (rf_some (e2 i hlt) (by omega)) ?_
      refine gi_callv 0 (q := 41) C (dm_Fa_begin 21 rfl) rfl my_Ro_empty lk_Fa_32 im_Ro_empty rfl (c_Ro_empty (by have := fa_cas a (480 + i) (by omega); omega) (Y.2.2.2.2.2.2 (480 + i) (by omega))) (Y.2.2.2.2.2.2 (480 + i) (by omega)).1 rfl rfl ⟨(Nat.le_of_ble_eq_true rfl), (Nat.le_of_ble_eq_true rfl)⟩ (Nat.le_of_ble_eq_true rfl) ⟨(Nat.le_of_ble_eq_true rfl), (Nat.le_of_ble_eq_true rfl)⟩ (fun r38 n38 h38 e38 => ?_)
      obtain ⟨rfl, rfl, S38, O38⟩ := e38
      have X38 := Y.row (show 480 + i < 542 by omega) S38 O38
      refine gi_aload_n (q := 42) (i := 0) C (dm_Fa_begin 22 rfl) rfl rfl rfl ?_
      refine gi_get (q := 45) C (dm_Fa_begin 23 rfl) rfl fl_Fa_20 (by rw [O38 _ (by omega)]; exact h0) rfl ?_
      refine gi_iload_n (q := 46) (i := 1) C (dm_Fa_begin 24 rfl) rfl rfl rfl ?_
      refine gi_aald (q := 47) C (dm_Fa_begin 25 rfl) rfl rfl (by rw [O38 _ (by omega)]; exact g3) (vp_in_nI hlt (by omega)) (rf_some (e3 i hlt) (by omega)) ?_
      refine gi_callv 0 (q := 50) C (dm_Fa_begin 26 rfl) rfl my_Ro_empty lk_Fa_32 im_Ro_empty rfl (c_Ro_empty (by have := fa_cas a (505 + i) (by omega); omega) (X38.2.2.2.2.2.2 (505 + i) (by omega))) (X38.2.2.2.2.2.2 (505 + i) (by omega)).1 rfl rfl ⟨(Nat.le_of_ble_eq_true rfl), (Nat.le_of_ble_eq_true rfl)⟩ (Nat.le_of_ble_eq_true rfl) ⟨(Nat.le_of_ble_eq_true rfl), (Nat.le_of_ble_eq_true rfl)⟩ (fun r47 n47 h47 e47 => ?_)
      obtain ⟨rfl, rfl, S47, O47⟩ := e47
      have X47 := X38.row (show 505 + i < 542 by omega) S47 O47
      refine gi_iinc (q := 53) (v := 1) C (dm_Fa_begin 27 rfl) rfl rfl (by decide) (Nat.le_of_ble_eq_true rfl) ?_
      refine gi_goto (tgt := 26) C (dm_Fa_begin 28 rfl) (by decide) ?_
      refine gi_close (ih (i + 1) _ ⟨hlt, ?_, (YO.row (show 480 + i < 542 by omega) O38).row (show 505 + i < 542 by omega) O47⟩ (by omega)) (List.forall_mem_cons.mpr ⟨(by simp [gi_look, nI_1]), List.forall_mem_cons.mpr ⟨rfl, fun _ h => absurd h List.not_mem_nil⟩⟩) rfl rfl rfl
      rw [fE_up (q := fun t => t < 480 + (i + 1) ∨ (505 ≤ t ∧ t < 505 + i)) (by omega) (fun u hu => by omega)] at X47
      rw [fE_up (q := fun t => t < 480 + (i + 1) ∨ (505 ≤ t ∧ t < 505 + (i + 1))) (by omega) (fun u hu => by omega)] at X47
      exact X47
  · have hlt : i < 480 := by
      rcases Nat.lt_or_ge i 480 with q | q
      · exact q
      · exact absurd (nI_le (a := 480) q (by omega)) c6
    refine gi_aload_n (q := 10) (i := 0) C (dm_Fa_begin 5 rfl) rfl rfl rfl ?_
    refine gi_get (q := 13) C (dm_Fa_begin 6 rfl) rfl fl_Fa_11 (by first | exact h0 | exact g1) rfl ?_
    refine gi_iload_n (q := 14) (i := 1) C (dm_Fa_begin 7 rfl) rfl rfl rfl ?_
    refine gi_aald (q := 15) C (dm_Fa_begin 8 rfl) rfl rfl (by first | exact h0 | exact g1) (vp_in_nI hlt (by omega)) (rf_some (e1 i hlt) (by omega)) ?_
    refine gi_callv 0 (q := 18) C (dm_Fa_begin 9 rfl) rfl my_Ro_empty lk_Fa_32 im_Ro_empty rfl (c_Ro_empty (by have := fa_cas a (i) (by omega); omega) (Y.2.2.2.2.2.2 (i) (by omega))) (Y.2.2.2.2.2.2 (i) (by omega)).1 rfl rfl ⟨(Nat.le_of_ble_eq_true rfl), (Nat.le_of_ble_eq_true rfl)⟩ (Nat.le_of_ble_eq_true rfl) ⟨(Nat.le_of_ble_eq_true rfl), (Nat.le_of_ble_eq_true rfl)⟩ (fun r15 n15 h15 e15 => ?_)
    obtain ⟨rfl, rfl, S15, O15⟩ := e15
    have X15 := Y.row (show i < 542 by omega) S15 O15
    refine gi_iinc (q := 21) (v := 1) C (dm_Fa_begin 10 rfl) rfl rfl (by decide) (Nat.le_of_ble_eq_true rfl) ?_
    refine gi_goto (tgt := 2) C (dm_Fa_begin 11 rfl) (by decide) ?_
    refine gi_close (ih (i + 1) _ ⟨hlt, ?_, YO.row (show i < 542 by omega) O15⟩ (by omega)) (List.forall_mem_cons.mpr ⟨(by simp [gi_look, nI_1]), List.forall_mem_cons.mpr ⟨rfl, fun _ h => absurd h List.not_mem_nil⟩⟩) rfl rfl rfl
    rw [fE_up (q := fun t => t < i + 1) (by omega) (fun u hu => by omega)] at X15
    exact X15
end FA3
