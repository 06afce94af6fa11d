section FIRST
variable {l : Launch} {V : gi_V} {X Lx : Nat} {xs : Nat → Int32}
def fi_J (X k : Nat) (h : gi_H) : Prop := if k = 0 then hs_0 X h ∧ mo_at (X + 16927) (fun k => if k = 10 ∨ k = 11 ∨ k = 87 then -1 else 0) (fun _ => 0) (fun _ _ => 0) (fun _ _ => 0) h else ∃ fs, h X = some (gi_O 0 fs)
theorem fi_0 {h : gi_H} {k : Nat} (hk : 6 * k + 6 ≤ Lx) (hL : Lx ≤ 6) (h0 : fi_J X k h) : k = 0 ∧ hs_0 X h ∧ mo_at (X + 16927) (fun k => if k = 10 ∨ k = 11 ∨ k = 87 then -1 else 0) (fun _ => 0) (fun _ _ => 0) (fun _ _ => 0) h := by
  have : k = 0 := by omega
  subst this
  exact ⟨rfl, by simpa [fi_J] using h0⟩
theorem fi_1 {h : gi_H} {k : Nat} (hf : ∃ fs, h X = some (gi_O 0 fs)) : fi_J X (k + 1) h := by
  rw [fi_J, if_neg (by omega)]
  exact hf
theorem fi_2 {h h' : gi_H} {k : Nat} {fs : List Value} (e : h' = h) (hf : h X = some (gi_O 0 fs)) : fi_J X (k + 1) h' := by
  subst e
  exact fi_1 ⟨fs, hf⟩
theorem fi_fa (x : Int32) : (if x = 0 then (fun k : Nat => if k = 10 ∨ k = 11 ∨ k = 87 then (-1 : Int32) else 0) 10 else if x = 1 then (fun k : Nat => if k = 10 ∨ k = 11 ∨ k = 87 then (-1 : Int32) else 0) 11 else -1) = -1 := by
  simp
theorem fi_ran (x : Int32) : mo_ranv (fun k => if k = 10 ∨ k = 11 ∨ k = 87 then -1 else 0) (fun _ => 0) (fun _ _ => 0) x = (if 0 ≤ x ∧ x < 8 then 0 else NOl) := by
  unfold mo_ranv
  by_cases hq : 0 ≤ x ∧ x < 8
  · rw [if_pos hq]
    have : (0 : Int) ≤ x.toInt ∧ x.toInt < 8 := ⟨by simpa [Int32.le_iff_toInt_le] using hq.1, by simpa [Int32.lt_iff_toInt_lt] using hq.2⟩
    have hx : x = nI x.toInt.toNat := by
      apply Int32.toInt_inj.mp
      rw [nI_toInt (by omega)]
      omega
    obtain ⟨i, hi, e⟩ : ∃ i : Nat, i < 8 ∧ x = nI i := ⟨_, by omega, hx⟩
    subst e
    have : i = 0 ∨ i = 1 ∨ i = 2 ∨ i = 3 ∨ i = 4 ∨ i = 5 ∨ i = 6 ∨ i = 7 := by omega
    rcases this with rfl | rfl | rfl | rfl | rfl | rfl | rfl | rfl <;> rfl
  · rw [if_neg hq]
    have nx : ∀ i : Nat, i < 8 → ¬ x = nI i := fun i hi q => hq (by
      subst q
      exact ⟨nI_le (a := 0) (by omega) (by omega), nI_lt (b := 8) hi (by omega)⟩)
    rw [if_neg (nx 0 (by omega)), if_neg (nx 1 (by omega)), if_neg (nx 2 (by omega)), if_neg (nx 3 (by omega)), if_neg (nx 4 (by omega)), if_neg (nx 5 (by omega)), if_neg (nx 6 (by omega)), if_neg (nx 7 (by omega))]
theorem fi_c0 (hL : Lx ≤ 6) : ∀ k h, 6 * k + 6 ≤ Lx → fi_J X k h → cj_0 l V X (X + 16927) (X + 16979) (xs (6 * k + 1)) (xs (6 * k + 2)) (xs (6 * k + 3)) (xs (6 * k + 4)) h (fi_J X (k + 1)) := by
  intro k h hk hj
  obtain ⟨rfl, H, hM⟩ := fi_0 hk hL hj
  have hX0 := H.1
  unfold hs_ob at hX0
  obtain ⟨gs, hM0, -⟩ := id hM.1
  refine ⟨fun v h1 => ((okM 0 (xs (6 * 0 + 1)) (xs (6 * 0 + 2)) (xs (6 * 0 + 3)) (xs (6 * 0 + 4)) ∧ v = nI 0) ∨ (¬ okM 0 (xs (6 * 0 + 1)) (xs (6 * 0 + 2)) (xs (6 * 0 + 3)) (xs (6 * 0 + 4)) ∧ v = -1)) ∧ mo_at (X + 16927) (fun k => if k = 10 ∨ k = 11 ∨ k = 87 then -1 else 0) (fun _ => 0) (fun _ _ => 0) (fun _ _ => 0) h1 ∧ ∃ fs, h1 X = some (gi_O 0 fs), gi_T.mono (c_H_method (k := 0) _ _ _ _ (by decide) H.1 H.2.2.1 H.2.1) (fun r n' h' q => ?_), fun v h1 q => ?_⟩
  · obtain ⟨rfl, ho, ⟨hok, rfl, hx, -, -⟩ | ⟨hok, rfl, rfl⟩⟩ := q
    · exact ⟨rfl, _, rfl, Or.inl ⟨hok, rfl⟩, hM.keep (fun b h1 h2 => ho b (by omega)), _, hx⟩
    · exact ⟨rfl, _, rfl, Or.inr ⟨hok, rfl⟩, hM, _, hX0⟩
  · obtain ⟨qv, hM, fs1, hX1⟩ := q
    obtain ⟨gs, hM0, -⟩ := id hM.1
    refine ⟨⟨_, hM0⟩, gi_T.mono (c_Mo_method (S := fun k => if k = 10 ∨ k = 11 ∨ k = 87 then -1 else 0) (k := 0) _ _ _ _ (by decide) rfl hM) (fun r n' h' q => ?_)⟩
    obtain ⟨rfl, ho, q⟩ := q
    have hx : ∃ fs, h' X = some (gi_O 0 fs) := ⟨fs1, by rw [ho X (by omega)]; exact hX1⟩
    rcases q with ⟨hok, rfl, -⟩ | ⟨hok, rfl, -⟩ <;> rcases qv with ⟨hv, rfl⟩ | ⟨hv, rfl⟩
    · exact ⟨rfl, rfl, fi_1 hx⟩
    · exact absurd hok hv
    · exact absurd hv hok
    · exact ⟨rfl, rfl, fi_1 hx⟩
theorem fi_c1 (hL : Lx ≤ 6) : ∀ k h, 6 * k + 6 ≤ Lx → fi_J X k h → cj_1 l V X (X + 16927) (X + 16979) (xs (6 * k + 1)) (xs (6 * k + 2)) (xs (6 * k + 3)) h (fi_J X (k + 1)) := by
  intro k h hk hj
  obtain ⟨rfl, H, hM⟩ := fi_0 hk hL hj
  have hX0 := H.1
  unfold hs_ob at hX0
  obtain ⟨gs, hM0, -⟩ := id hM.1
  refine ⟨fun v h1 => (v = -1) ∧ mo_at (X + 16927) (fun k => if k = 10 ∨ k = 11 ∨ k = 87 then -1 else 0) (fun _ => 0) (fun _ _ => 0) (fun _ _ => 0) h1 ∧ ∃ fs, h1 X = some (gi_O 0 fs), gi_T.mono (c_H_code (k := 0) _ _ _ (by decide) H.1 H.2.2.1 H.2.1 (fun j hj => absurd hj (by omega))) (fun r n' h' q => ?_), fun v h1 q => ?_⟩
  · obtain ⟨rfl, ho, ⟨j, q, hj, -⟩ | ⟨-, rfl, rfl⟩⟩ := q
    · omega
    · exact ⟨rfl, _, rfl, rfl, hM, _, hX0⟩
  · obtain ⟨qv, hM, fs1, hX1⟩ := q
    obtain ⟨gs, hM0, -⟩ := id hM.1
    refine ⟨⟨_, hM0⟩, gi_T.mono (c_Mo_code (S := fun k => if k = 10 ∨ k = 11 ∨ k = 87 then -1 else 0) (k := 0) _ _ _ (by decide) rfl (fun j hj => absurd hj (by omega)) hM) (fun r n' h' q => ?_)⟩
    subst qv
    obtain ⟨rfl, ho, ⟨j, q, hj, -⟩ | ⟨-, rfl, rfl⟩⟩ := q
    · omega
    · exact ⟨rfl, rfl, fi_1 ⟨fs1, hX1⟩⟩
theorem fi_c2 (hL : Lx ≤ 6) : ∀ k h, 6 * k + 6 ≤ Lx → fi_J X k h → cj_2 l V X (X + 16927) (X + 16979) (xs (6 * k + 1)) h (fi_J X (k + 1)) := by
  intro k h hk hj
  obtain ⟨rfl, H, hM⟩ := fi_0 hk hL hj
  have hX0 := H.1
  unfold hs_ob at hX0
  obtain ⟨gs, hM0, -⟩ := id hM.1
  refine ⟨fun v h1 => (v = -1) ∧ mo_at (X + 16927) (fun k => if k = 10 ∨ k = 11 ∨ k = 87 then -1 else 0) (fun _ => 0) (fun _ _ => 0) (fun _ _ => 0) h1 ∧ ∃ fs, h1 X = some (gi_O 0 fs), gi_T.mono (c_H_wipe (k := 0) _ (by decide) H.1 H.2.2.1 H.2.1 (fun j hj => absurd hj (by omega))) (fun r n' h' q => ?_), fun v h1 q => ?_⟩
  · obtain ⟨rfl, ho, ⟨j, hj, -⟩ | ⟨-, rfl, rfl⟩⟩ := q
    · omega
    · exact ⟨rfl, _, rfl, rfl, hM, _, hX0⟩
  · obtain ⟨qv, hM, fs1, hX1⟩ := q
    obtain ⟨gs, hM0, -⟩ := id hM.1
    refine ⟨⟨_, hM0⟩, gi_T.mono (c_Mo_wipe (S := fun k => if k = 10 ∨ k = 11 ∨ k = 87 then -1 else 0) (k := 0) _ (by decide) rfl hM) (fun r n' h' q => ?_)⟩
    subst qv
    obtain ⟨rfl, ho, ⟨j, hj, -⟩ | ⟨-, rfl, rfl⟩⟩ := q
    · omega
    · exact ⟨rfl, rfl, fi_1 ⟨fs1, hX1⟩⟩
theorem fi_c3 (hL : Lx ≤ 6) : ∀ k h, 6 * k + 6 ≤ Lx → fi_J X k h → cj_3 l V X (X + 16927) (X + 16979)  h (fi_J X (k + 1)) := by
  intro k h hk hj
  obtain ⟨rfl, H, hM⟩ := fi_0 hk hL hj
  have hX0 := H.1
  unfold hs_ob at hX0
  obtain ⟨gs, hM0, -⟩ := id hM.1
  refine ⟨fun v h1 => (v = 1) ∧ mo_at (X + 16927) (fun k => if k = 10 ∨ k = 11 ∨ k = 87 then -1 else 0) (fun _ => 0) (fun _ _ => 0) (fun _ _ => 0) h1 ∧ ∃ fs, h1 X = some (gi_O 0 fs), gi_T.mono (c_H_build_0 H.1 H.2.1 H.2.2.1) (fun r n' h' q => ?_), fun v h1 q => ?_⟩
  · obtain ⟨rfl, rfl, hx, -, ho⟩ := q
    exact ⟨rfl, _, rfl, rfl, hM.keep (fun b h1 h2 => ho b (by omega) (by omega)), _, hx⟩
  · obtain ⟨qv, hM, fs1, hX1⟩ := q
    obtain ⟨gs, hM0, -⟩ := id hM.1
    refine ⟨⟨_, hM0⟩, gi_T.mono (c_Mo_build_0 (S := fun k => if k = 10 ∨ k = 11 ∨ k = 87 then -1 else 0) rfl hM) (fun r n' h' q => ?_)⟩
    subst qv
    obtain ⟨rfl, ho, rfl, -⟩ := q
    exact ⟨rfl, rfl, fi_1 ⟨fs1, by rw [ho X (by omega)]; exact hX1⟩⟩
theorem fi_c4 (hL : Lx ≤ 6) : ∀ k h, 6 * k + 6 ≤ Lx → fi_J X k h → cj_4 l V X (X + 16927) (X + 16979) (xs (6 * k + 1)) h (fi_J X (k + 1)) := by
  intro k h hk hj
  obtain ⟨rfl, H, hM⟩ := fi_0 hk hL hj
  have hX0 := H.1
  unfold hs_ob at hX0
  obtain ⟨gs, hM0, -⟩ := id hM.1
  refine ⟨fun v h1 => v = -1 ∧ h1 = h, gi_T.mono (c_H_faultAt_no _ H.1 H.2.2.1 rfl) (fun r n' h' q => ⟨q.2.1, _, q.1, rfl, q.2.2⟩), fun v h1 q => ?_⟩
  obtain ⟨rfl, rfl⟩ := q
  exact ⟨⟨_, hM0⟩, gi_T.mono ((fi_fa (xs (6 * 0 + 1))) ▸ c_Mo_faultAt (l := l) (V := V) (n := X + 16979) (xs (6 * 0 + 1)) hM) (fun r n' h' q => ⟨q.2.1, q.1, fi_2 q.2.2 hX0⟩)⟩
theorem fi_c5 (hL : Lx ≤ 6) : ∀ k h, 6 * k + 6 ≤ Lx → fi_J X k h → cj_5 l V X (X + 16927) (X + 16979) (xs (6 * k + 1)) h (fi_J X (k + 1)) := by
  intro k h hk hj
  obtain ⟨rfl, H, hM⟩ := fi_0 hk hL hj
  have hX0 := H.1
  unfold hs_ob at hX0
  obtain ⟨gs, hM0, -⟩ := id hM.1
  refine ⟨fun v h1 => v = -1 ∧ h1 = h, gi_T.mono (c_H_analyze_no _ H.1 H.2.2.1 rfl) (fun r n' h' q => ⟨q.2.1, _, q.1, rfl, q.2.2⟩), fun v h1 q => ?_⟩
  obtain ⟨rfl, rfl⟩ := q
  exact ⟨⟨_, hM0⟩, gi_T.mono (c_Mo_analyze_no (S := fun k => if k = 10 ∨ k = 11 ∨ k = 87 then -1 else 0) _ rfl hM) (fun r n' h' q => ⟨q.2.1, q.1, fi_2 q.2.2 hX0⟩)⟩
theorem fi_c6 (hL : Lx ≤ 6) : ∀ k h, 6 * k + 6 ≤ Lx → fi_J X k h → cj_6 l V X (X + 16927) (X + 16979) (xs (6 * k + 1)) (xs (6 * k + 2)) h (fi_J X (k + 1)) := by
  intro k h hk hj
  obtain ⟨rfl, H, hM⟩ := fi_0 hk hL hj
  have hX0 := H.1
  unfold hs_ob at hX0
  obtain ⟨gs, hM0, -⟩ := id hM.1
  refine ⟨fun v h1 => v = 0 ∧ h1 = h, gi_T.mono (c_H_reached_no _ _ H.1) (fun r n' h' q => ⟨q.2.1, _, q.1, rfl, q.2.2⟩), fun v h1 q => ?_⟩
  obtain ⟨rfl, rfl⟩ := q
  exact ⟨⟨_, hM0⟩, gi_T.mono (c_Mo_reached_no (S := fun k => if k = 10 ∨ k = 11 ∨ k = 87 then -1 else 0) _ _ rfl hM) (fun r n' h' q => ⟨q.2.1, q.1, fi_2 q.2.2 hX0⟩)⟩
theorem fi_c7 (hL : Lx ≤ 6) : ∀ k h, 6 * k + 6 ≤ Lx → fi_J X k h → cj_7 l V X (X + 16927) (X + 16979) (xs (6 * k + 1)) (xs (6 * k + 2)) (xs (6 * k + 3)) (xs (6 * k + 4)) h (fi_J X (k + 1)) := by
  intro k h hk hj
  obtain ⟨rfl, H, hM⟩ := fi_0 hk hL hj
  have hX0 := H.1
  unfold hs_ob at hX0
  obtain ⟨gs, hM0, -⟩ := id hM.1
  refine ⟨fun v h1 => v = NOl ∧ h1 = h, gi_T.mono (c_H_state_no _ _ _ _ H.1) (fun r n' h' q => ⟨q.2.1, _, q.1, rfl, q.2.2⟩), fun v h1 q => ?_⟩
  obtain ⟨rfl, rfl⟩ := q
  exact ⟨⟨_, hM0⟩, gi_T.mono (c_Mo_state_no (S := fun k => if k = 10 ∨ k = 11 ∨ k = 87 then -1 else 0) _ _ _ _ rfl hM) (fun r n' h' q => ⟨q.2.1, q.1, fi_2 q.2.2 hX0⟩)⟩
theorem fi_c8 (hL : Lx ≤ 6) : ∀ k h, 6 * k + 6 ≤ Lx → fi_J X k h → cj_8 l V X (X + 16927) (X + 16979) (xs (6 * k + 1)) (xs (6 * k + 2)) h (fi_J X (k + 1)) := by
  intro k h hk hj
  obtain ⟨rfl, H, hM⟩ := fi_0 hk hL hj
  have hX0 := H.1
  unfold hs_ob at hX0
  obtain ⟨gs, hM0, -⟩ := id hM.1
  refine ⟨fun v h1 => v = NOl ∧ h1 = h, gi_T.mono (c_H_site_no _ _ H.1 H.2.2.1 rfl) (fun r n' h' q => ⟨q.2.1, _, q.1, rfl, q.2.2⟩), fun v h1 q => ?_⟩
  obtain ⟨rfl, rfl⟩ := q
  exact ⟨⟨_, hM0⟩, gi_T.mono (c_Mo_site_no (S := fun k => if k = 10 ∨ k = 11 ∨ k = 87 then -1 else 0) _ _ rfl hM) (fun r n' h' q => ⟨q.2.1, q.1, fi_2 q.2.2 hX0⟩)⟩
theorem fi_c9 (hL : Lx ≤ 6) : ∀ k h, 6 * k + 6 ≤ Lx → fi_J X k h → cj_9 l V X (X + 16927) (X + 16979) (xs (6 * k + 1)) (xs (6 * k + 2)) h (fi_J X (k + 1)) := by
  intro k h hk hj
  obtain ⟨rfl, H, hM⟩ := fi_0 hk hL hj
  have hX0 := H.1
  unfold hs_ob at hX0
  obtain ⟨gs, hM0, -⟩ := id hM.1
  refine ⟨fun v h1 => v = NOl ∧ h1 = h, gi_T.mono (c_H_field_no _ _ H.1) (fun r n' h' q => ⟨q.2.1, _, q.1, rfl, q.2.2⟩), fun v h1 q => ?_⟩
  obtain ⟨rfl, rfl⟩ := q
  exact ⟨⟨_, hM0⟩, gi_T.mono (c_Mo_field_no (S := fun k => if k = 10 ∨ k = 11 ∨ k = 87 then -1 else 0) _ _ rfl hM) (fun r n' h' q => ⟨q.2.1, q.1, fi_2 q.2.2 hX0⟩)⟩
theorem fi_c10 (hL : Lx ≤ 6) : ∀ k h, 6 * k + 6 ≤ Lx → fi_J X k h → cj_10 l V X (X + 16927) (X + 16979) (xs (6 * k + 1)) (xs (6 * k + 2)) h (fi_J X (k + 1)) := by
  intro k h hk hj
  obtain ⟨rfl, H, hM⟩ := fi_0 hk hL hj
  have hX0 := H.1
  unfold hs_ob at hX0
  obtain ⟨gs, hM0, -⟩ := id hM.1
  refine ⟨fun v h1 => v = NOl ∧ h1 = h, gi_T.mono (c_H_result_no _ _ H.1) (fun r n' h' q => ⟨q.2.1, _, q.1, rfl, q.2.2⟩), fun v h1 q => ?_⟩
  obtain ⟨rfl, rfl⟩ := q
  exact ⟨⟨_, hM0⟩, gi_T.mono (c_Mo_result_no (S := fun k => if k = 10 ∨ k = 11 ∨ k = 87 then -1 else 0) _ _ rfl hM) (fun r n' h' q => ⟨q.2.1, q.1, fi_2 q.2.2 hX0⟩)⟩
theorem fi_c11 (hL : Lx ≤ 6) : ∀ k h, 6 * k + 6 ≤ Lx → fi_J X k h → cj_11 l V X (X + 16927) (X + 16979) (xs (6 * k + 1)) (xs (6 * k + 2)) (xs (6 * k + 3)) h (fi_J X (k + 1)) := by
  intro k h hk hj
  obtain ⟨rfl, H, hM⟩ := fi_0 hk hL hj
  have hX0 := H.1
  unfold hs_ob at hX0
  obtain ⟨gs, hM0, -⟩ := id hM.1
  refine ⟨fun v h1 => v = -1 ∧ h1 = h, gi_T.mono (c_H_verdict_no _ _ _ H.1) (fun r n' h' q => ⟨q.2.1, _, q.1, rfl, q.2.2⟩), fun v h1 q => ?_⟩
  obtain ⟨rfl, rfl⟩ := q
  exact ⟨⟨_, hM0⟩, gi_T.mono (c_Mo_verdict_no (S := fun k => if k = 10 ∨ k = 11 ∨ k = 87 then -1 else 0) _ _ _ rfl hM) (fun r n' h' q => ⟨q.2.1, q.1, fi_2 q.2.2 hX0⟩)⟩
theorem fi_c12 (hL : Lx ≤ 6) : ∀ k h, 6 * k + 6 ≤ Lx → fi_J X k h → cj_12 l V X (X + 16927) (X + 16979) (xs (6 * k + 1)) h (fi_J X (k + 1)) := by
  intro k h hk hj
  obtain ⟨rfl, H, hM⟩ := fi_0 hk hL hj
  have hX0 := H.1
  unfold hs_ob at hX0
  obtain ⟨gs, hM0, -⟩ := id hM.1
  refine ⟨fun v h1 => v = -1 ∧ h1 = h, gi_T.mono (c_H_verdicts_no _ H.1) (fun r n' h' q => ⟨q.2.1, _, q.1, rfl, q.2.2⟩), fun v h1 q => ?_⟩
  obtain ⟨rfl, rfl⟩ := q
  exact ⟨⟨_, hM0⟩, gi_T.mono (c_Mo_verdicts_no (S := fun k => if k = 10 ∨ k = 11 ∨ k = 87 then -1 else 0) _ rfl hM) (fun r n' h' q => ⟨q.2.1, q.1, fi_2 q.2.2 hX0⟩)⟩
theorem fi_c13 (hL : Lx ≤ 6) : ∀ k h, 6 * k + 6 ≤ Lx → fi_J X k h → cj_13 l V X (X + 16927) (X + 16979) (xs (6 * k + 1)) (xs (6 * k + 2)) (xs (6 * k + 3)) (xs (6 * k + 4)) (xs (6 * k + 5)) h (fi_J X (k + 1)) := by
  intro k h hk hj
  obtain ⟨rfl, H, hM⟩ := fi_0 hk hL hj
  have hX0 := H.1
  unfold hs_ob at hX0
  obtain ⟨gs, hM0, -⟩ := id hM.1
  refine ⟨fun v h1 => v = 0 ∧ h1 = h, gi_T.mono (c_H_plant_no _ _ _ _ _ H.1) (fun r n' h' q => ⟨q.2.1, _, q.1, rfl, q.2.2⟩), fun v h1 q => ?_⟩
  obtain ⟨rfl, rfl⟩ := q
  exact ⟨⟨_, hM0⟩, gi_T.mono (c_Mo_plant_no (S := fun k => if k = 10 ∨ k = 11 ∨ k = 87 then -1 else 0) _ _ _ _ _ rfl hM) (fun r n' h' q => ⟨q.2.1, q.1, fi_2 q.2.2 hX0⟩)⟩
theorem fi_c14 (hL : Lx ≤ 6) : ∀ k h, 6 * k + 6 ≤ Lx → fi_J X k h → cj_14 l V X (X + 16927) (X + 16979) (xs (6 * k + 1)) (xs (6 * k + 2)) h (fi_J X (k + 1)) := by
  intro k h hk hj
  obtain ⟨rfl, H, hM⟩ := fi_0 hk hL hj
  have hX0 := H.1
  unfold hs_ob at hX0
  obtain ⟨gs, hM0, -⟩ := id hM.1
  refine ⟨fun v h1 => v = 0 ∧ h1 = h, gi_T.mono (c_H_forgetState_no _ _ H.1) (fun r n' h' q => ⟨q.2.1, _, q.1, rfl, q.2.2⟩), fun v h1 q => ?_⟩
  obtain ⟨rfl, rfl⟩ := q
  exact ⟨⟨_, hM0⟩, gi_T.mono (c_Mo_forgetState_no (S := fun k => if k = 10 ∨ k = 11 ∨ k = 87 then -1 else 0) _ _ rfl hM) (fun r n' h' q => ⟨q.2.1, q.1, fi_2 q.2.2 hX0⟩)⟩
theorem fi_c15 (hL : Lx ≤ 6) : ∀ k h, 6 * k + 6 ≤ Lx → fi_J X k h → cj_15 l V X (X + 16927) (X + 16979)  h (fi_J X (k + 1)) := by
  intro k h hk hj
  obtain ⟨rfl, H, hM⟩ := fi_0 hk hL hj
  have hX0 := H.1
  unfold hs_ob at hX0
  obtain ⟨gs, hM0, -⟩ := id hM.1
  refine ⟨fun v h1 => v = -1 ∧ h1 = h, gi_T.mono (c_H_check_no H.1) (fun r n' h' q => ⟨q.2.1, _, q.1, rfl, q.2.2⟩), fun v h1 q => ?_⟩
  obtain ⟨rfl, rfl⟩ := q
  exact ⟨⟨_, hM0⟩, gi_T.mono (c_Mo_check_no (S := fun k => if k = 10 ∨ k = 11 ∨ k = 87 then -1 else 0) rfl hM) (fun r n' h' q => ⟨q.2.1, q.1, fi_2 q.2.2 hX0⟩)⟩
theorem fi_c16 (hL : Lx ≤ 6) : ∀ k h, 6 * k + 6 ≤ Lx → fi_J X k h → cj_16 l V X (X + 16927) (X + 16979) (xs (6 * k + 1)) (xs (6 * k + 2)) h (fi_J X (k + 1)) := by
  intro k h hk hj
  obtain ⟨rfl, H, hM⟩ := fi_0 hk hL hj
  have hX0 := H.1
  unfold hs_ob at hX0
  obtain ⟨gs, hM0, -⟩ := id hM.1
  refine ⟨fun v h1 => ((okA 0 (xs (6 * 0 + 1)) (xs (6 * 0 + 2)) ∧ v = nI 1) ∨ (¬ okA 0 (xs (6 * 0 + 1)) (xs (6 * 0 + 2)) ∧ v = -1)) ∧ mo_at (X + 16927) (fun k => if k = 10 ∨ k = 11 ∨ k = 87 then -1 else 0) (fun _ => 0) (fun _ _ => 0) (fun _ _ => 0) h1 ∧ ∃ fs, h1 X = some (gi_O 0 fs), gi_T.mono (c_H_argument (S := fun _ => 0) (c := 0) _ _ (by decide) rfl H.1 H.2.2.2.2.2.2.2.1) (fun r n' h' q => ?_), fun v h1 q => ?_⟩
  · obtain ⟨rfl, ho, ⟨hok, rfl, -⟩ | ⟨hok, rfl, rfl⟩⟩ := q
    · exact ⟨rfl, _, rfl, Or.inl ⟨hok, rfl⟩, hM.keep (fun b h1 h2 => ho b (by omega)), _, by rw [ho X (by omega)]; exact hX0⟩
    · exact ⟨rfl, _, rfl, Or.inr ⟨hok, rfl⟩, hM, _, hX0⟩
  · obtain ⟨qv, hM, fs1, hX1⟩ := q
    obtain ⟨gs, hM0, -⟩ := id hM.1
    refine ⟨⟨_, hM0⟩, gi_T.mono (c_Mo_argument (S := fun k => if k = 10 ∨ k = 11 ∨ k = 87 then -1 else 0) (c := 0) _ _ (by decide) rfl hM) (fun r n' h' q => ?_)⟩
    obtain ⟨rfl, ho, q⟩ := q
    have hx : ∃ fs, h' X = some (gi_O 0 fs) := ⟨fs1, by rw [ho X (by omega)]; exact hX1⟩
    rcases q with ⟨hok, rfl, -⟩ | ⟨hok, rfl, -⟩ <;> rcases qv with ⟨hv, rfl⟩ | ⟨hv, rfl⟩
    · exact ⟨rfl, rfl, fi_1 hx⟩
    · exact absurd hok hv
    · exact absurd hv hok
    · exact ⟨rfl, rfl, fi_1 hx⟩
theorem fi_c17 (hL : Lx ≤ 6) : ∀ k h, 6 * k + 6 ≤ Lx → fi_J X k h → cj_17 l V X (X + 16927) (X + 16979) (xs (6 * k + 1)) (xs (6 * k + 2)) (xs (6 * k + 3)) h (fi_J X (k + 1)) := by
  intro k h hk hj
  obtain ⟨rfl, H, hM⟩ := fi_0 hk hL hj
  have hX0 := H.1
  unfold hs_ob at hX0
  obtain ⟨gs, hM0, -⟩ := id hM.1
  refine ⟨fun v h1 => (v = -1) ∧ mo_at (X + 16927) (fun k => if k = 10 ∨ k = 11 ∨ k = 87 then -1 else 0) (fun _ => 0) (fun _ _ => 0) (fun _ _ => 0) h1 ∧ ∃ fs, h1 X = some (gi_O 0 fs), gi_T.mono (c_H_fill (S := fun _ => 0) (c := 0) _ _ _ (by decide) rfl H.1 H.2.2.2.2.2.2.2.1 (fun j hj => absurd hj (by omega))) (fun r n' h' q => ?_), fun v h1 q => ?_⟩
  · obtain ⟨rfl, ho, ⟨hok, -⟩ | ⟨-, rfl, rfl⟩⟩ := q
    · exact absurd hok.1.2 (Int32.not_lt.mpr hok.1.1)
    · exact ⟨rfl, _, rfl, rfl, hM, _, hX0⟩
  · obtain ⟨qv, hM, fs1, hX1⟩ := q
    obtain ⟨gs, hM0, -⟩ := id hM.1
    refine ⟨⟨_, hM0⟩, gi_T.mono (c_Mo_fill (S := fun k => if k = 10 ∨ k = 11 ∨ k = 87 then -1 else 0) (c := 0) _ _ _ (by decide) rfl (fun j hj => absurd hj (by omega)) hM) (fun r n' h' q => ?_)⟩
    subst qv
    obtain ⟨rfl, ho, ⟨hok, -⟩ | ⟨-, rfl, rfl⟩⟩ := q
    · exact absurd hok.1.2 (Int32.not_lt.mpr hok.1.1)
    · exact ⟨rfl, rfl, fi_1 ⟨fs1, hX1⟩⟩
theorem fi_c18 (hL : Lx ≤ 6) : ∀ k h, 6 * k + 6 ≤ Lx → fi_J X k h → cj_18 l V X (X + 16927) (X + 16979)  h (fi_J X (k + 1)) := by
  intro k h hk hj
  obtain ⟨rfl, H, hM⟩ := fi_0 hk hL hj
  have hX0 := H.1
  unfold hs_ob at hX0
  obtain ⟨gs, hM0, -⟩ := id hM.1
  refine ⟨fun v h1 => (v = 0) ∧ mo_at (X + 16927) (fun k => if k = 10 ∨ k = 11 ∨ k = 87 then -1 else 0) (fun _ => 0) (fun _ _ => 0) (fun _ _ => 0) h1 ∧ ∃ fs, h1 X = some (gi_O 0 fs), gi_T.mono (c_H_forget H.1 H.2.2.2.2.2.2.2.1) (fun r n' h' q => ?_), fun v h1 q => ?_⟩
  · obtain ⟨rfl, ho, rfl, -⟩ := q
    exact ⟨rfl, _, rfl, rfl, hM.keep (fun b h1 h2 => ho b (by omega)), _, by rw [ho X (by omega)]; exact hX0⟩
  · obtain ⟨qv, hM, fs1, hX1⟩ := q
    obtain ⟨gs, hM0, -⟩ := id hM.1
    refine ⟨⟨_, hM0⟩, gi_T.mono (c_Mo_forget (S := fun k => if k = 10 ∨ k = 11 ∨ k = 87 then -1 else 0) hM) (fun r n' h' q => ?_)⟩
    subst qv
    obtain ⟨rfl, ho, rfl, -⟩ := q
    exact ⟨rfl, rfl, fi_1 ⟨fs1, by rw [ho X (by omega)]; exact hX1⟩⟩
theorem fi_c19 (hL : Lx ≤ 6) : ∀ k h, 6 * k + 6 ≤ Lx → fi_J X k h → cj_19 l V X (X + 16927) (X + 16979) (xs (6 * k + 1)) (xs (6 * k + 2)) h (fi_J X (k + 1)) := by
  intro k h hk hj
  obtain ⟨rfl, H, hM⟩ := fi_0 hk hL hj
  have hX0 := H.1
  unfold hs_ob at hX0
  obtain ⟨gs, hM0, -⟩ := id hM.1
  refine ⟨fun v h1 => v = -1 ∧ h1 = h, gi_T.mono (c_H_run_no _ _ H.1 H.2.2.1 rfl) (fun r n' h' q => ⟨q.2.1, _, q.1, rfl, q.2.2⟩), fun v h1 q => ?_⟩
  obtain ⟨rfl, rfl⟩ := q
  exact ⟨⟨_, hM0⟩, gi_T.mono (c_Mo_run_no (S := fun k => if k = 10 ∨ k = 11 ∨ k = 87 then -1 else 0) _ _ rfl hM) (fun r n' h' q => ⟨q.2.1, q.1, fi_2 q.2.2 hX0⟩)⟩
theorem fi_c20 (hL : Lx ≤ 6) : ∀ k h, 6 * k + 6 ≤ Lx → fi_J X k h → cj_20 l V X (X + 16927) (X + 16979) (xs (6 * k + 1)) h (fi_J X (k + 1)) := by
  intro k h hk hj
  obtain ⟨rfl, H, hM⟩ := fi_0 hk hL hj
  have hX0 := H.1
  unfold hs_ob at hX0
  obtain ⟨gs, hM0, -⟩ := id hM.1
  refine ⟨fun v h1 => v = (if 0 ≤ xs (6 * 0 + 1) ∧ xs (6 * 0 + 1) < 8 then 0 else NOl) ∧ h1 = h, gi_T.mono (c_H_ran _ H.1 H.2.2.2.2.2.2.2.2) (fun r n' h' q => ⟨q.2.1, _, q.1, rfl, q.2.2⟩), fun v h1 q => ?_⟩
  obtain ⟨rfl, rfl⟩ := q
  exact ⟨⟨_, hM0⟩, gi_T.mono ((fi_ran (xs (6 * 0 + 1))) ▸ c_Mo_ran (l := l) (V := V) (n := X + 16979) (xs (6 * 0 + 1)) hM) (fun r n' h' q => ⟨q.2.1, q.1, fi_2 q.2.2 hX0⟩)⟩
theorem fi_c21 (hL : Lx ≤ 6) : ∀ k h, 6 * k + 6 ≤ Lx → fi_J X k h → cj_21 l V X (X + 16927) (X + 16979)  h (fi_J X (k + 1)) := by
  intro k h hk hj
  obtain ⟨rfl, H, hM⟩ := fi_0 hk hL hj
  have hX0 := H.1
  unfold hs_ob at hX0
  obtain ⟨gs, hM0, -⟩ := id hM.1
  refine ⟨fun v h1 => v = -1 ∧ h1 = h, gi_T.mono (c_H_outside H.1 H.2.2.2.2.2.2.2.2) (fun r n' h' q => ⟨q.2.1, _, q.1, rfl, q.2.2⟩), fun v h1 q => ?_⟩
  obtain ⟨rfl, rfl⟩ := q
  exact ⟨⟨_, hM0⟩, gi_T.mono (c_Mo_outside (S := fun k => if k = 10 ∨ k = 11 ∨ k = 87 then -1 else 0) hM) (fun r n' h' q => ⟨q.2.1, q.1, fi_2 q.2.2 hX0⟩)⟩
theorem fi_key (hL : Lx ≤ 6) : lw_owed l V X Lx xs (fi_J X) := by
  refine ⟨fun h h1 h2 => by simp [fi_J]; exact ⟨h1, h2⟩, fun k h hj => ?_, fun k h hk hj => ?_, fi_c0 hL, fi_c1 hL, fi_c2 hL, fi_c3 hL, fi_c4 hL, fi_c5 hL, fi_c6 hL, fi_c7 hL, fi_c8 hL, fi_c9 hL, fi_c10 hL, fi_c11 hL, fi_c12 hL, fi_c13 hL, fi_c14 hL, fi_c15 hL, fi_c16 hL, fi_c17 hL, fi_c18 hL, fi_c19 hL, fi_c20 hL, fi_c21 hL⟩
  · by_cases q : k = 0
    · rw [fi_J, if_pos q] at hj
      exact ⟨_, hj.1.1⟩
    · rw [fi_J, if_neg q] at hj
      exact hj
  · obtain ⟨rfl, H, -⟩ := fi_0 hk hL hj
    exact fi_1 ⟨_, H.1⟩
end FIRST
