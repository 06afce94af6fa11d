-- needs: 55 05.decRo
section RO2
variable {l : Launch} {V : gi_V} {n : Nat} {h : gi_H}
def upV {α : Type} (f : Nat → α) (j : Nat) (v : α) : Nat → α := fun i => if i = j then v else f i
theorem upV_self {α : Type} (f : Nat → α) (j : Nat) (v : α) : upV f j v j = v := by simp [upV]
theorem upV_ne {α : Type} {f : Nat → α} {i j : Nat} {v : α} (h : i ≠ j) : upV f j v i = f i := by simp [upV, h]
theorem upd_V (f : Nat → Int32) (j : Nat) (v : Int32) : upd f j v = upV f j v := rfl
abbrev rO (R : mR) (s t c : Int32) : mR := (R.1, s, t, c, R.2.2.2.2.1, R.2.2.2.2.2)
abbrev rV (R : mR) (j : Nat) (v : mV) : mR := (R.1, R.2.1, R.2.2.1, R.2.2.2.1, upV R.2.2.2.2.1 j v, R.2.2.2.2.2)
abbrev rM (R : mR) (j : Nat) (m : Int32) : mR := (R.1, R.2.1, R.2.2.1, R.2.2.2.1, R.2.2.2.2.1, upV R.2.2.2.2.2 j m)
/-- only the row at r has changed -/
def outR (r k : Nat) (h h' : gi_H) : Prop := ∀ b, b < r ∨ r + 3 + k ≤ b → h' b = h b
theorem outR.rf {r k : Nat} {h : gi_H} : outR r k h h := fun _ _ => rfl
theorem outR.tr {r k : Nat} {h h' h'' : gi_H} (a : outR r k h h') (b : outR r k h' h'') : outR r k h h'' := fun c hc => by rw [b c hc, a c hc]
theorem outR.up {r k a : Nat} {h h' : gi_H} {x : gi_E} (H : outR r k h h') (h1 : r ≤ a) (h2 : a < r + 3 + k) : outR r k h (gi_up h' a x) := fun b hb => by rw [gi_up_ne (by omega), H b hb]
theorem ro_at.o {r k : Nat} {R : mR} {h : gi_H} (H : ro_at r k R h) (s t c : Int32) : ro_at r k (rO R s t c) (gi_up h r (gi_O 4 [.ref (r + 1), .ref (r + 2), .int s, .int t, .int c])) := by
  obtain ⟨h1, ⟨f, h2, h3⟩, ⟨g, h4, h5⟩, h6, h7⟩ := H
  refine ⟨gi_up_self _ _ _, ⟨f, by rw [gi_up_ne (by omega)]; exact h2, h3⟩, ⟨g, by rw [gi_up_ne (by omega)]; exact h4, h5⟩, fun j hj => ?_, h7⟩
  obtain ⟨a1, a2, a3⟩ := h6 j hj
  exact ⟨a1, a2, by rw [gi_up_ne (by simp only; omega)]; exact a3⟩
theorem ro_at.m {r k : Nat} {R : mR} {h : gi_H} {g : Nat → Int32} (H : ro_at r k R h) (hg : h (r + 2) = some (gi_I 0 k g)) (j : Nat) (m : Int32) : ro_at r k (rM R j m) (gi_up h (r + 2) (gi_I 0 k (upd g j m))) := by
  obtain ⟨h1, ⟨f, h2, h3⟩, ⟨g', h4, h5⟩, h6, h7⟩ := H
  cases h4.symm.trans hg
  refine ⟨by rw [gi_up_ne (by omega)]; exact h1, ⟨f, by rw [gi_up_ne (by omega)]; exact h2, h3⟩, ⟨_, gi_up_self _ _ _, fun i hi => ?_⟩, fun i hi => ?_, h7⟩
  · show upV g j m i = upV R.2.2.2.2.2 j m i
    unfold upV
    split
    · rfl
    · exact h5 i hi
  · obtain ⟨a1, a2, a3⟩ := h6 i hi
    exact ⟨a1, a2, by rw [gi_up_ne (by simp only; omega)]; exact a3⟩
theorem ro_at.v {r k : Nat} {R : mR} {h : gi_H} {j : Nat} (H : ro_at r k R h) (hj : j < k) (v : mV) : ro_at r k (rV R j v) (gi_up h (R.1 j) (eV v)) := by
  obtain ⟨h1, ⟨f, h2, h3⟩, ⟨g, h4, h5⟩, h6, h7⟩ := H
  obtain ⟨b1, b2, b3⟩ := h6 j hj
  refine ⟨by rw [gi_up_ne (by omega)]; exact h1, ⟨f, by rw [gi_up_ne (by omega)]; exact h2, h3⟩, ⟨g, by rw [gi_up_ne (by omega)]; exact h4, h5⟩, fun i hi => ?_, h7⟩
  obtain ⟨a1, a2, a3⟩ := h6 i hi
  refine ⟨a1, a2, ?_⟩
  show gi_up h (R.1 j) (eV v) (R.1 i) = some (eV (upV R.2.2.2.2.1 j v i))
  by_cases q : i = j
  · subst q
    rw [upV_self]
    exact gi_up_self _ _ _
  · rw [upV_ne q, gi_up_ne (fun e => q (h7 i j hi hj e))]
    exact a3
theorem ro_rf {r k j : Nat} {R : mR} {h : gi_H} {f : Nat → Option Nat} (H : ro_at r k R h) (hf : h (r + 1) = some (gi_R 5 k f)) (hj : j < k) (h31 : k < 2 ^ 31) : va_rf (f (nI j).toNatClampNeg) = .ref (R.1 j) := by
  obtain ⟨h1, ⟨f', h2, h3⟩, -⟩ := H
  cases h2.symm.trans hf
  rw [nI_clamp (by omega), h3 j hj]
  rfl
theorem ro_mk {r k j : Nat} {R : mR} {h : gi_H} {g : Nat → Int32} (H : ro_at r k R h) (hg : h (r + 2) = some (gi_I 0 k g)) (hj : j < k) (h31 : k < 2 ^ 31) : g (nI j).toNatClampNeg = R.2.2.2.2.2 j := by
  obtain ⟨h1, -, ⟨g', h4, h5⟩, -⟩ := H
  cases h4.symm.trans hg
  rw [nI_clamp (by omega), h5 j hj]
theorem vp_nI {j k : Nat} (hj : j < k) (h31 : k < 2 ^ 31) : vp_in (nI j) k := vp_in_nI hj h31
theorem nI_m1 {s : Nat} (h : 1 ≤ s) : nI s - 1 = nI (s - 1) := pk_sub (b := 1) h
theorem nI_s1 {s : Nat} : nI (s + 1) - 1 = nI s := nI_m1 (by omega)
theorem nI_m2 {s : Nat} (h : 2 ≤ s) : nI s - 2 = nI (s - 2) := pk_sub (b := 2) h
variable {r k s : Nat} {R : mR}
set_option maxHeartbeats 4000000 in
set_option maxRecDepth 100000 in
theorem c_Ro_hasIndex (i : Int32) (h31 : k < 2 ^ 31) (H : ro_at r k R h) : gi_T l V y_Ro_hasIndex b_Ro_hasIndex 2 (some .boolean) 0 0 0 0 [.ref r, .int i] n h (gi_is (some (.int (bI (decide (0 ≤ i ∧ i < nI k))))) n h) := by
  refine gi_enter (by decide) (Nat.le_of_ble_eq_true rfl) ?_
  intro _ _ _ _ _ _ _ _ C hr hnm
  obtain ⟨H0, ⟨fv, H1, -⟩, ⟨gm, H2, -⟩, H3, H4⟩ := id H
  refine gi_iload_n (q := 1) (i := 1) C (dm_Ro_hasIndex 0 rfl) rfl rfl rfl ?_
  refine gi_if_lt (q := 4) (tgt := 17) C (dm_Ro_hasIndex 1 rfl) rfl (by decide) (fun c1 => ?_) (fun c1 => ?_)
  · refine gi_iconst (q := 18) (v := 0) C (dm_Ro_hasIndex 9 rfl) rfl (by decide) ?_
    refine gi_zret C hr (dm_Ro_hasIndex 10 rfl) rfl ?_
    refine ⟨?_, rfl, rfl⟩
    first
      | (rw [show decide (0 ≤ i ∧ i < nI k) = true from decide_eq_true ⟨Int32.not_lt.mp c1, Int32.not_le.mp c10⟩]; rfl)
      | (rw [show decide (0 ≤ i ∧ i < nI k) = false from decide_eq_false (fun q => absurd q.2 (Int32.not_lt.mpr c10))]; rfl)
      | (rw [show decide (0 ≤ i ∧ i < nI k) = false from decide_eq_false (fun q => absurd q.1 (Int32.not_le.mpr c1))]; rfl)
  · refine gi_iload_n (q := 5) (i := 1) C (dm_Ro_hasIndex 2 rfl) rfl rfl rfl ?_
    refine gi_aload_n (q := 6) (i := 0) C (dm_Ro_hasIndex 3 rfl) rfl rfl rfl ?_
    refine gi_get (q := 9) C (dm_Ro_hasIndex 4 rfl) rfl fl_Ro_11 (by repeat (first | exact gi_up_self _ _ _ | assumption | rw [gi_up_ne (by omega)])) rfl ?_
    refine gi_alen (q := 10) C (dm_Ro_hasIndex 5 rfl) rfl rfl (by repeat (first | exact gi_up_self _ _ _ | assumption | rw [gi_up_ne (by omega)])) rfl ?_
    refine gi_icmp_ge (q := 13) (tgt := 17) C (dm_Ro_hasIndex 6 rfl) rfl (by decide) (fun c10 => ?_) (fun c10 => ?_)
    · refine gi_iconst (q := 18) (v := 0) C (dm_Ro_hasIndex 9 rfl) rfl (by decide) ?_
      refine gi_zret C hr (dm_Ro_hasIndex 10 rfl) rfl ?_
      refine ⟨?_, rfl, rfl⟩
      first
        | (rw [show decide (0 ≤ i ∧ i < nI k) = true from decide_eq_true ⟨Int32.not_lt.mp c1, Int32.not_le.mp c10⟩]; rfl)
        | (rw [show decide (0 ≤ i ∧ i < nI k) = false from decide_eq_false (fun q => absurd q.2 (Int32.not_lt.mpr c10))]; rfl)
        | (rw [show decide (0 ≤ i ∧ i < nI k) = false from decide_eq_false (fun q => absurd q.1 (Int32.not_le.mpr c1))]; rfl)
    · refine gi_iconst (q := 14) (v := 1) C (dm_Ro_hasIndex 7 rfl) rfl (by decide) ?_
      refine gi_goto (tgt := 18) C (dm_Ro_hasIndex 8 rfl) (by decide) ?_
      refine gi_zret C hr (dm_Ro_hasIndex 10 rfl) rfl ?_
      refine ⟨?_, rfl, rfl⟩
      first
        | (rw [show decide (0 ≤ i ∧ i < nI k) = true from decide_eq_true ⟨Int32.not_lt.mp c1, Int32.not_le.mp c10⟩]; rfl)
        | (rw [show decide (0 ≤ i ∧ i < nI k) = false from decide_eq_false (fun q => absurd q.2 (Int32.not_lt.mpr c10))]; rfl)
        | (rw [show decide (0 ≤ i ∧ i < nI k) = false from decide_eq_false (fun q => absurd q.1 (Int32.not_le.mpr c1))]; rfl)
theorem nI_nn {j : Nat} (h : j < 2 ^ 31) : 0 ≤ nI j := by
  rw [Int32.le_iff_toInt_le, nI_toInt h, Int32.toInt_zero]
  omega
set_option maxHeartbeats 4000000 in
set_option maxRecDepth 100000 in
theorem c_Ro_valueAt {j : Nat} (hj : j < k) (h31 : k < 2 ^ 31) (H : ro_at r k R h) : gi_T l V y_Ro_valueAt b_Ro_valueAt 2 (some (.object "AnalysisHouse$Value")) 1 21 0 0 [.ref r, .int (nI j)] n h (gi_is (some (.ref (R.1 j))) n h) := by
  refine gi_enter (by decide) (Nat.le_of_ble_eq_true rfl) ?_
  intro _ _ _ _ _ _ _ _ C hr hnm
  obtain ⟨H0, ⟨fv, H1, -⟩, ⟨gm, H2, -⟩, H3, H4⟩ := id H
  refine gi_aload_n (q := 1) (i := 0) C (dm_Ro_valueAt 0 rfl) rfl rfl rfl ?_
  refine gi_iload_n (q := 2) (i := 1) C (dm_Ro_valueAt 1 rfl) rfl rfl rfl ?_
  refine gi_callv 1 (q := 5) C (dm_Ro_valueAt 2 rfl) rfl my_Ro_hasIndex lk_Ro_22 im_Ro_hasIndex rfl (c_Ro_hasIndex (nI j) h31 H) H0 rfl rfl ⟨(Nat.le_of_ble_eq_true rfl), (Nat.le_of_ble_eq_true rfl)⟩ (Nat.le_of_ble_eq_true rfl) ⟨(Nat.le_of_ble_eq_true rfl), (Nat.le_of_ble_eq_true rfl)⟩ (fun r2 n2 h2 e2 => ?_)
  obtain ⟨rfl, rfl, rfl⟩ := e2
  rw [show decide (0 ≤ nI j ∧ nI j < nI k) = true from decide_eq_true ⟨nI_nn (by omega), nI_lt hj (by omega)⟩]
  refine gi_if_eq (q := 8) (tgt := 17) C (dm_Ro_valueAt 3 rfl) rfl (by decide) (fun c5 => ?_) (fun c5 => ?_)
  · exact absurd c5 (by decide)
  · refine gi_aload_n (q := 9) (i := 0) C (dm_Ro_valueAt 4 rfl) rfl rfl rfl ?_
    refine gi_get (q := 12) C (dm_Ro_valueAt 5 rfl) rfl fl_Ro_11 (by repeat (first | exact gi_up_self _ _ _ | assumption | rw [gi_up_ne (by omega)])) rfl ?_
    refine gi_iload_n (q := 13) (i := 1) C (dm_Ro_valueAt 6 rfl) rfl rfl rfl ?_
    refine gi_aald (q := 14) C (dm_Ro_valueAt 7 rfl) rfl rfl (by repeat (first | exact gi_up_self _ _ _ | assumption | rw [gi_up_ne (by omega)])) (vp_nI hj h31) (ro_rf H H1 hj h31) ?_
    refine gi_goto (tgt := 23) C (dm_Ro_valueAt 8 rfl) (by decide) ?_
    refine gi_aret C hr (Or.inl ⟨_, rfl⟩) (Or.inr ⟨_, rfl⟩) (dm_Ro_valueAt 13 rfl) ?_
    exact ⟨rfl, rfl, rfl⟩
set_option maxHeartbeats 4000000 in
set_option maxRecDepth 100000 in
theorem c_Ro_valueAt_n (hk : 0 < k) (h31 : k < 2 ^ 31) (H : ro_at r k R h) : gi_T l V y_Ro_valueAt b_Ro_valueAt 2 (some (.object "AnalysisHouse$Value")) 1 21 0 0 [.ref r, .int (-1)] n h (gi_is (some (.ref (R.1 0))) n h) := by
  refine gi_enter (by decide) (Nat.le_of_ble_eq_true rfl) ?_
  intro _ _ _ _ _ _ _ _ C hr hnm
  obtain ⟨H0, ⟨fv, H1, -⟩, ⟨gm, H2, -⟩, H3, H4⟩ := id H
  refine gi_aload_n (q := 1) (i := 0) C (dm_Ro_valueAt 0 rfl) rfl rfl rfl ?_
  refine gi_iload_n (q := 2) (i := 1) C (dm_Ro_valueAt 1 rfl) rfl rfl rfl ?_
  refine gi_callv 1 (q := 5) C (dm_Ro_valueAt 2 rfl) rfl my_Ro_hasIndex lk_Ro_22 im_Ro_hasIndex rfl (c_Ro_hasIndex (-1) h31 H) H0 rfl rfl ⟨(Nat.le_of_ble_eq_true rfl), (Nat.le_of_ble_eq_true rfl)⟩ (Nat.le_of_ble_eq_true rfl) ⟨(Nat.le_of_ble_eq_true rfl), (Nat.le_of_ble_eq_true rfl)⟩ (fun r2 n2 h2 e2 => ?_)
  obtain ⟨rfl, rfl, rfl⟩ := e2
  rw [show decide (0 ≤ (-1 : Int32) ∧ (-1 : Int32) < nI k) = false from decide_eq_false (fun q => absurd q.1 (by decide))]
  refine gi_if_eq (q := 8) (tgt := 17) C (dm_Ro_valueAt 3 rfl) rfl (by decide) (fun c5 => ?_) (fun c5 => ?_)
  · refine gi_aload_n (q := 18) (i := 0) C (dm_Ro_valueAt 9 rfl) rfl rfl rfl ?_
    refine gi_get (q := 21) C (dm_Ro_valueAt 10 rfl) rfl fl_Ro_11 (by repeat (first | exact gi_up_self _ _ _ | assumption | rw [gi_up_ne (by omega)])) rfl ?_
    refine gi_iconst (q := 22) (v := 0) C (dm_Ro_valueAt 11 rfl) rfl (by decide) ?_
    refine gi_aald (q := 23) C (dm_Ro_valueAt 12 rfl) rfl rfl (by repeat (first | exact gi_up_self _ _ _ | assumption | rw [gi_up_ne (by omega)])) (vp_nI (j := 0) hk h31) (ro_rf (j := 0) H H1 hk h31) ?_
    refine gi_aret C hr (Or.inl ⟨_, rfl⟩) (Or.inr ⟨_, rfl⟩) (dm_Ro_valueAt 13 rfl) ?_
    exact ⟨rfl, rfl, rfl⟩
  · exact absurd rfl c5
set_option maxHeartbeats 4000000 in
set_option maxRecDepth 100000 in
theorem c_Ro_markAt {j : Nat} (hj : j < k) (h31 : k < 2 ^ 31) (H : ro_at r k R h) : gi_T l V y_Ro_markAt b_Ro_markAt 2 (some .int) 1 21 0 0 [.ref r, .int (nI j)] n h (gi_is (some (.int (R.2.2.2.2.2 j))) n h) := by
  refine gi_enter (by decide) (Nat.le_of_ble_eq_true rfl) ?_
  intro _ _ _ _ _ _ _ _ C hr hnm
  obtain ⟨H0, ⟨fv, H1, -⟩, ⟨gm, H2, -⟩, H3, H4⟩ := id H
  refine gi_aload_n (q := 1) (i := 0) C (dm_Ro_markAt 0 rfl) rfl rfl rfl ?_
  refine gi_iload_n (q := 2) (i := 1) C (dm_Ro_markAt 1 rfl) rfl rfl rfl ?_
  refine gi_callv 1 (q := 5) C (dm_Ro_markAt 2 rfl) rfl my_Ro_hasIndex lk_Ro_22 im_Ro_hasIndex rfl (c_Ro_hasIndex (nI j) h31 H) H0 rfl rfl ⟨(Nat.le_of_ble_eq_true rfl), (Nat.le_of_ble_eq_true rfl)⟩ (Nat.le_of_ble_eq_true rfl) ⟨(Nat.le_of_ble_eq_true rfl), (Nat.le_of_ble_eq_true rfl)⟩ (fun r2 n2 h2 e2 => ?_)
  obtain ⟨rfl, rfl, rfl⟩ := e2
  rw [show decide (0 ≤ nI j ∧ nI j < nI k) = true from decide_eq_true ⟨nI_nn (by omega), nI_lt hj (by omega)⟩]
  refine gi_if_eq (q := 8) (tgt := 17) C (dm_Ro_markAt 3 rfl) rfl (by decide) (fun c5 => ?_) (fun c5 => ?_)
  · exact absurd c5 (by decide)
  · refine gi_aload_n (q := 9) (i := 0) C (dm_Ro_markAt 4 rfl) rfl rfl rfl ?_
    refine gi_get (q := 12) C (dm_Ro_markAt 5 rfl) rfl fl_Ro_17 (by repeat (first | exact gi_up_self _ _ _ | assumption | rw [gi_up_ne (by omega)])) rfl ?_
    refine gi_iload_n (q := 13) (i := 1) C (dm_Ro_markAt 6 rfl) rfl rfl rfl ?_
    refine gi_iald (q := 14) C (dm_Ro_markAt 7 rfl) rfl rfl (by repeat (first | exact gi_up_self _ _ _ | assumption | rw [gi_up_ne (by omega)])) (vp_nI hj h31) ?_
    refine gi_goto (tgt := 18) C (dm_Ro_markAt 8 rfl) (by decide) ?_
    refine gi_iret C hr (dm_Ro_markAt 10 rfl) ?_
    exact ⟨by rw [ro_mk H H2 hj h31], rfl, rfl⟩
set_option maxHeartbeats 4000000 in
set_option maxRecDepth 100000 in
theorem c_Ro_markTop (m : Int32) (h1 : 1 ≤ s) (h2 : s ≤ k) (h31 : k < 2 ^ 31) (H : ro_at r k R h) (hs : R.2.1 = nI s) : gi_T l V y_Ro_markTop b_Ro_markTop 2 none 1 21 0 0 [.ref r, .int m] n h (fun v n' h' => v = none ∧ n' = n ∧ ro_at r k (rM R (s - 1) m) h' ∧ outR r k h h') := by
  refine gi_enter (by decide) (Nat.le_of_ble_eq_true rfl) ?_
  intro _ _ _ _ _ _ _ _ C hr hnm
  obtain ⟨H0, ⟨fv, H1, -⟩, ⟨gm, H2, -⟩, H3, H4⟩ := id H
  refine gi_aload_n (q := 1) (i := 0) C (dm_Ro_markTop 0 rfl) rfl rfl rfl ?_
  refine gi_aload_n (q := 2) (i := 0) C (dm_Ro_markTop 1 rfl) rfl rfl rfl ?_
  refine gi_get (q := 5) C (dm_Ro_markTop 2 rfl) rfl fl_Ro_26 (by repeat (first | exact gi_up_self _ _ _ | assumption | rw [gi_up_ne (by omega)])) rfl ?_
  refine gi_iconst (q := 6) (v := 1) C (dm_Ro_markTop 3 rfl) rfl (by decide) ?_
  refine gi_isub (q := 7) C (dm_Ro_markTop 4 rfl) rfl ?_
  rw [hs, nI_m1 h1]
  refine gi_callv 1 (q := 10) C (dm_Ro_markTop 5 rfl) rfl my_Ro_hasIndex lk_Ro_22 im_Ro_hasIndex rfl (c_Ro_hasIndex (nI (s - 1)) h31 H) H0 rfl rfl ⟨(Nat.le_of_ble_eq_true rfl), (Nat.le_of_ble_eq_true rfl)⟩ (Nat.le_of_ble_eq_true rfl) ⟨(Nat.le_of_ble_eq_true rfl), (Nat.le_of_ble_eq_true rfl)⟩ (fun r7 n7 h7 e7 => ?_)
  obtain ⟨rfl, rfl, rfl⟩ := e7
  rw [show decide (0 ≤ nI (s - 1) ∧ nI (s - 1) < nI k) = true from decide_eq_true ⟨nI_nn (by omega), nI_lt (show s - 1 < k by omega) (by omega)⟩]
  refine gi_if_eq (q := 13) (tgt := 25) C (dm_Ro_markTop 6 rfl) rfl (by decide) (fun c10 => ?_) (fun c10 => ?_)
  · exact absurd c10 (by decide)
  · refine gi_aload_n (q := 14) (i := 0) C (dm_Ro_markTop 7 rfl) rfl rfl rfl ?_
    refine gi_get (q := 17) C (dm_Ro_markTop 8 rfl) rfl fl_Ro_17 (by repeat (first | exact gi_up_self _ _ _ | assumption | rw [gi_up_ne (by omega)])) rfl ?_
    refine gi_aload_n (q := 18) (i := 0) C (dm_Ro_markTop 9 rfl) rfl rfl rfl ?_
    refine gi_get (q := 21) C (dm_Ro_markTop 10 rfl) rfl fl_Ro_26 (by repeat (first | exact gi_up_self _ _ _ | assumption | rw [gi_up_ne (by omega)])) rfl ?_
    refine gi_iconst (q := 22) (v := 1) C (dm_Ro_markTop 11 rfl) rfl (by decide) ?_
    refine gi_isub (q := 23) C (dm_Ro_markTop 12 rfl) rfl ?_
    rw [hs, nI_m1 h1]
    refine gi_iload_n (q := 24) (i := 1) C (dm_Ro_markTop 13 rfl) rfl rfl rfl ?_
    refine gi_iast (q := 25) C (dm_Ro_markTop 14 rfl) rfl rfl (by repeat (first | exact gi_up_self _ _ _ | assumption | rw [gi_up_ne (by omega)])) (vp_nI (by omega) h31) ?_
    refine gi_vret C hr (dm_Ro_markTop 15 rfl) ?_
    refine ⟨rfl, rfl, ?_, outR.rf.up (by omega) (by omega)⟩
    have t := H.m H2 (s - 1) m
    rw [nI_clamp (by omega)]
    exact t
set_option maxHeartbeats 4000000 in
set_option maxRecDepth 100000 in
theorem c_Ro_empty (h31 : k < 2 ^ 31) (H : ro_at r k R h) : gi_T l V y_Ro_empty b_Ro_empty 1 none 0 0 0 0 [.ref r] n h (fun v n' h' => v = none ∧ n' = n ∧ ro_at r k (rO R 0 0 0) h' ∧ outR r k h h') := by
  refine gi_enter (by decide) (Nat.le_of_ble_eq_true rfl) ?_
  intro _ _ _ _ _ _ _ _ C hr hnm
  obtain ⟨H0, ⟨fv, H1, -⟩, ⟨gm, H2, -⟩, H3, H4⟩ := id H
  refine gi_aload_n (q := 1) (i := 0) C (dm_Ro_empty 0 rfl) rfl rfl rfl ?_
  refine gi_iconst (q := 2) (v := 0) C (dm_Ro_empty 1 rfl) rfl (by decide) ?_
  refine gi_put (q := 5) C (dm_Ro_empty 2 rfl) rfl fl_Ro_30 fp_Ro_3 (by repeat (first | exact gi_up_self _ _ _ | assumption | rw [gi_up_ne (by omega)])) (Nat.le_of_ble_eq_true rfl) rfl rfl ?_
  refine gi_aload_n (q := 6) (i := 0) C (dm_Ro_empty 3 rfl) rfl rfl rfl ?_
  refine gi_iconst (q := 7) (v := 0) C (dm_Ro_empty 4 rfl) rfl (by decide) ?_
  refine gi_put (q := 10) C (dm_Ro_empty 5 rfl) rfl fl_Ro_26 fp_Ro_2 (by repeat (first | exact gi_up_self _ _ _ | assumption | rw [gi_up_ne (by omega)])) (Nat.le_of_ble_eq_true rfl) rfl rfl ?_
  refine gi_aload_n (q := 11) (i := 0) C (dm_Ro_empty 6 rfl) rfl rfl rfl ?_
  refine gi_iconst (q := 12) (v := 0) C (dm_Ro_empty 7 rfl) rfl (by decide) ?_
  refine gi_put (q := 15) C (dm_Ro_empty 8 rfl) rfl fl_Ro_34 fp_Ro_4 (by repeat (first | exact gi_up_self _ _ _ | assumption | rw [gi_up_ne (by omega)])) (Nat.le_of_ble_eq_true rfl) rfl rfl ?_
  refine gi_vret C hr (dm_Ro_empty 9 rfl) ?_
  refine ⟨rfl, rfl, ?_, ?_⟩
  · simp only [gi_up_up]
    exact H.o 0 0 0
  · simp only [gi_up_up]
    exact outR.rf.up (by omega) (by omega)
set_option maxHeartbeats 4000000 in
set_option maxRecDepth 100000 in
theorem c_Ro_push (h1 : s < k) (h31 : k < 2 ^ 31) (H : ro_at r k R h) (hs : R.2.1 = nI s) : gi_T l V y_Ro_push b_Ro_push 1 (some (.object "AnalysisHouse$Value")) 2 42 0 0 [.ref r] n h (fun v n' h' => v = some (.ref (R.1 s)) ∧ n' = n ∧ ro_at r k (rM (rO R (nI (s + 1)) R.2.2.1 R.2.2.2.1) s (-1)) h' ∧ outR r k h h') := by
  refine gi_enter (by decide) (Nat.le_of_ble_eq_true rfl) ?_
  intro _ _ _ _ _ _ _ _ C hr hnm
  obtain ⟨H0, ⟨fv, H1, -⟩, ⟨gm, H2, -⟩, H3, H4⟩ := id H
  refine gi_aload_n (q := 1) (i := 0) C (dm_Ro_push 0 rfl) rfl rfl rfl ?_
  refine gi_get (q := 4) C (dm_Ro_push 1 rfl) rfl fl_Ro_26 (by repeat (first | exact gi_up_self _ _ _ | assumption | rw [gi_up_ne (by omega)])) rfl ?_
  refine gi_aload_n (q := 5) (i := 0) C (dm_Ro_push 2 rfl) rfl rfl rfl ?_
  refine gi_get (q := 8) C (dm_Ro_push 3 rfl) rfl fl_Ro_11 (by repeat (first | exact gi_up_self _ _ _ | assumption | rw [gi_up_ne (by omega)])) rfl ?_
  refine gi_alen (q := 9) C (dm_Ro_push 4 rfl) rfl rfl (by repeat (first | exact gi_up_self _ _ _ | assumption | rw [gi_up_ne (by omega)])) rfl ?_
  refine gi_icmp_ge (q := 12) (tgt := 22) C (dm_Ro_push 5 rfl) rfl (by decide) (fun c9 => ?_) (fun c9 => ?_)
  · rw [hs] at c9
    exact absurd c9 (Int32.not_le.mpr (nI_lt h1 (by omega)))
  · refine gi_aload_n (q := 13) (i := 0) C (dm_Ro_push 6 rfl) rfl rfl rfl ?_
    refine gi_dup (q := 14) C (dm_Ro_push 7 rfl) rfl rfl ?_
    refine gi_get (q := 17) C (dm_Ro_push 8 rfl) rfl fl_Ro_26 (by repeat (first | exact gi_up_self _ _ _ | assumption | rw [gi_up_ne (by omega)])) rfl ?_
    refine gi_iconst (q := 18) (v := 1) C (dm_Ro_push 9 rfl) rfl (by decide) ?_
    refine gi_iadd (q := 19) C (dm_Ro_push 10 rfl) rfl ?_
    refine gi_put (q := 22) C (dm_Ro_push 11 rfl) rfl fl_Ro_26 fp_Ro_2 (by repeat (first | exact gi_up_self _ _ _ | assumption | rw [gi_up_ne (by omega)])) (Nat.le_of_ble_eq_true rfl) rfl rfl ?_
    have e1 : R.2.1 + 1 = nI (s + 1) := by rw [hs, nI_1]
    rw [e1]
    have G := H.o (nI (s + 1)) R.2.2.1 R.2.2.2.1
    refine gi_aload_n (q := 23) (i := 0) C (dm_Ro_push 12 rfl) rfl rfl rfl ?_
    refine gi_iconst (q := 24) (v := -1) C (dm_Ro_push 13 rfl) rfl (by decide) ?_
    refine gi_callv 1 (q := 27) C (dm_Ro_push 14 rfl) rfl my_Ro_markTop lk_Ro_47 im_Ro_markTop rfl (c_Ro_markTop (-1) (s := s + 1) (by omega) (by omega) h31 G rfl) (gi_up_self _ _ _) rfl rfl ⟨(Nat.le_of_ble_eq_true rfl), (Nat.le_of_ble_eq_true rfl)⟩ (Nat.le_of_ble_eq_true rfl) ⟨(Nat.le_of_ble_eq_true rfl), (Nat.le_of_ble_eq_true rfl)⟩ (fun r24 n24 h24 e24 => ?_)
    obtain ⟨rfl, rfl, K1, K2⟩ := e24
    rw [show s + 1 - 1 = s by omega] at K1
    obtain ⟨k0, -⟩ := id K1
    refine gi_aload_n (q := 28) (i := 0) C (dm_Ro_push 15 rfl) rfl rfl rfl ?_
    refine gi_aload_n (q := 29) (i := 0) C (dm_Ro_push 16 rfl) rfl rfl rfl ?_
    refine gi_get (q := 32) C (dm_Ro_push 17 rfl) rfl fl_Ro_26 k0 rfl ?_
    refine gi_iconst (q := 33) (v := 1) C (dm_Ro_push 18 rfl) rfl (by decide) ?_
    refine gi_isub (q := 34) C (dm_Ro_push 19 rfl) rfl ?_
    rw [show (rM (rO R (nI (s + 1)) R.2.2.1 R.2.2.2.1) s (-1)).2.1 - 1 = nI s from nI_s1]
    refine gi_callv 1 (q := 37) C (dm_Ro_push 20 rfl) rfl my_Ro_valueAt lk_Ro_51 im_Ro_valueAt rfl (c_Ro_valueAt (j := s) h1 h31 K1) k0 rfl rfl ⟨(Nat.le_of_ble_eq_true rfl), (Nat.le_of_ble_eq_true rfl)⟩ (Nat.le_of_ble_eq_true rfl) ⟨(Nat.le_of_ble_eq_true rfl), (Nat.le_of_ble_eq_true rfl)⟩ (fun r34 n34 h34 e34 => ?_)
    obtain ⟨rfl, rfl, rfl⟩ := e34
    refine gi_aret C hr (Or.inl ⟨_, rfl⟩) (Or.inr ⟨_, rfl⟩) (dm_Ro_push 21 rfl) ?_
    exact ⟨rfl, rfl, K1, fun b hb => by rw [K2 b hb, gi_up_ne (by omega)]⟩
set_option maxHeartbeats 4000000 in
set_option maxRecDepth 100000 in
theorem c_Ro_pop (a : Nat) (u : mV) (h1 : 1 ≤ s) (h2 : s ≤ k) (h31 : k < 2 ^ 31) (H : ro_at r k R h) (hs : R.2.1 = nI s) (hw : wfV (R.2.2.2.2.1 (s - 1))) (ha : a < r ∨ r + 3 + k ≤ a) (hu : h a = some (eV u)) : gi_T l V y_Ro_pop b_Ro_pop 2 (some .int) 1 21 0 0 [.ref r, .ref a] n h (fun v n' h' => v = some (.int (R.2.2.2.2.2 (s - 1))) ∧ n' = n ∧ ro_at r k (rO R (nI (s - 1)) R.2.2.1 R.2.2.2.1) h' ∧ h' a = some (eV (R.2.2.2.2.1 (s - 1))) ∧ ∀ b, b ≠ r → b ≠ a → h' b = h b) := by
  refine gi_enter (by decide) (Nat.le_of_ble_eq_true rfl) ?_
  intro _ _ _ _ _ _ _ _ C hr hnm
  obtain ⟨H0, ⟨fv, H1, -⟩, ⟨gm, H2, -⟩, H3, H4⟩ := id H
  obtain ⟨q1, q2, q3⟩ := H3 (s - 1) (by omega)
  refine gi_aload_n (q := 1) (i := 0) C (dm_Ro_pop 0 rfl) rfl rfl rfl ?_
  refine gi_get (q := 4) C (dm_Ro_pop 1 rfl) rfl fl_Ro_26 (by repeat (first | exact gi_up_self _ _ _ | assumption | rw [gi_up_ne (by omega)])) rfl ?_
  refine gi_if_gt (q := 7) (tgt := 9) C (dm_Ro_pop 2 rfl) rfl (by decide) (fun c4 => ?_) (fun c4 => ?_)
  · refine gi_aload_n (q := 10) (i := 0) C (dm_Ro_pop 5 rfl) rfl rfl rfl ?_
    refine gi_dup (q := 11) C (dm_Ro_pop 6 rfl) rfl rfl ?_
    refine gi_get (q := 14) C (dm_Ro_pop 7 rfl) rfl fl_Ro_26 (by repeat (first | exact gi_up_self _ _ _ | assumption | rw [gi_up_ne (by omega)])) rfl ?_
    refine gi_iconst (q := 15) (v := 1) C (dm_Ro_pop 8 rfl) rfl (by decide) ?_
    refine gi_isub (q := 16) C (dm_Ro_pop 9 rfl) rfl ?_
    refine gi_put (q := 19) C (dm_Ro_pop 10 rfl) rfl fl_Ro_26 fp_Ro_2 (by repeat (first | exact gi_up_self _ _ _ | assumption | rw [gi_up_ne (by omega)])) (Nat.le_of_ble_eq_true rfl) rfl rfl ?_
    rw [show R.2.1 - 1 = nI (s - 1) by rw [hs, nI_m1 h1]]
    have G := H.o (nI (s - 1)) R.2.2.1 R.2.2.2.1
    refine gi_aload_n (q := 20) (i := 1) C (dm_Ro_pop 11 rfl) rfl rfl rfl ?_
    refine gi_aload_n (q := 21) (i := 0) C (dm_Ro_pop 12 rfl) rfl rfl rfl ?_
    refine gi_get (q := 24) C (dm_Ro_pop 13 rfl) rfl fl_Ro_11 (by repeat (first | exact gi_up_self _ _ _ | assumption | rw [gi_up_ne (by omega)])) rfl ?_
    refine gi_aload_n (q := 25) (i := 0) C (dm_Ro_pop 14 rfl) rfl rfl rfl ?_
    refine gi_get (q := 28) C (dm_Ro_pop 15 rfl) rfl fl_Ro_26 (by repeat (first | exact gi_up_self _ _ _ | assumption | rw [gi_up_ne (by omega)])) rfl ?_
    refine gi_aald (q := 29) C (dm_Ro_pop 16 rfl) rfl rfl (by repeat (first | exact gi_up_self _ _ _ | assumption | rw [gi_up_ne (by omega)])) (vp_nI (j := s - 1) (by omega) h31) (ro_rf H H1 (j := s - 1) (by omega) h31) ?_
    refine gi_callv 1 (q := 32) C (dm_Ro_pop 17 rfl) rfl my_Va_copy lk_Ro_43 im_Va_copy rfl (c_Va_copy a (R.1 (s - 1)) u _ (by rw [gi_up_ne (by omega)]; exact hu) (by rw [gi_up_ne (by omega)]; exact q3) (by omega) hw) (by rw [gi_up_ne (by omega)]; exact hu) rfl rfl ⟨(Nat.le_of_ble_eq_true rfl), (Nat.le_of_ble_eq_true rfl)⟩ (Nat.le_of_ble_eq_true rfl) ⟨(Nat.le_of_ble_eq_true rfl), (Nat.le_of_ble_eq_true rfl)⟩ (fun r29 n29 h29 e29 => ?_)
    obtain ⟨rfl, rfl, rfl⟩ := e29
    refine gi_aload_n (q := 33) (i := 0) C (dm_Ro_pop 18 rfl) rfl rfl rfl ?_
    refine gi_get (q := 36) C (dm_Ro_pop 19 rfl) rfl fl_Ro_17 (by repeat (first | exact gi_up_self _ _ _ | assumption | rw [gi_up_ne (by omega)])) rfl ?_
    refine gi_aload_n (q := 37) (i := 0) C (dm_Ro_pop 20 rfl) rfl rfl rfl ?_
    refine gi_get (q := 40) C (dm_Ro_pop 21 rfl) rfl fl_Ro_26 (by repeat (first | exact gi_up_self _ _ _ | assumption | rw [gi_up_ne (by omega)])) rfl ?_
    refine gi_iald (q := 41) C (dm_Ro_pop 22 rfl) rfl rfl (by repeat (first | exact gi_up_self _ _ _ | assumption | rw [gi_up_ne (by omega)])) (vp_nI (j := s - 1) (by omega) h31) ?_
    refine gi_iret C hr (dm_Ro_pop 23 rfl) ?_
    refine ⟨by rw [ro_mk H H2 (show s - 1 < k by omega) h31], rfl, G.keep (fun b hb1 hb2 => (gi_up_ne (by omega)).trans rfl), gi_up_self _ _ _, fun b hb1 hb2 => by rw [gi_up_ne hb2, gi_up_ne hb1]⟩
  · exfalso
    rw [hs] at c4
    exact c4 (nI_lt (a := 0) (by omega) (by omega))
end RO2
