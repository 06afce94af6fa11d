section FA1
variable {l : Launch} {V : gi_V} {n : Nat} {h : gi_H}
/-- a Row as it is: where its values lie; size, told, changes; the values; the marks -/
abbrev mR : Type := (Nat → Nat) × Int32 × Int32 × Int32 × (Nat → mV) × (Nat → Int32)
def ro_at (r k : Nat) (R : mR) (h : gi_H) : Prop := h r = some (gi_O 4 [.ref (r + 1), .ref (r + 2), .int R.2.1, .int R.2.2.1, .int R.2.2.2.1]) ∧ (∃ f : Nat → Option Nat, h (r + 1) = some (gi_R 5 k f) ∧ ∀ j, j < k → f j = some (R.1 j)) ∧ (∃ g : Nat → Int32, h (r + 2) = some (gi_I 0 k g) ∧ ∀ j, j < k → g j = R.2.2.2.2.2 j) ∧ (∀ j, j < k → r + 3 ≤ R.1 j ∧ R.1 j < r + 3 + k ∧ h (R.1 j) = some (eV (R.2.2.2.2.1 j))) ∧ ∀ i j, i < k → j < k → R.1 i = R.1 j → i = j
/-- a Row that was just made at r -/
def ro_0 (r : Nat) : mR := (fun j => r + 3 + j, 0, 0, 0, fun _ => zV, fun _ => -1)
theorem ro_at.keep {r k : Nat} {R : mR} {h h' : gi_H} (H : ro_at r k R h) (hq : ∀ b, r ≤ b → b < r + 3 + k → h' b = h b) : ro_at r k R h' := by
  obtain ⟨h1, ⟨f, h2, h3⟩, ⟨g, h4, h5⟩, h6, h7⟩ := H
  refine ⟨by rw [hq r (by omega) (by omega)]; exact h1, ⟨f, by rw [hq _ (by omega) (by omega)]; exact h2, h3⟩, ⟨g, by rw [hq _ (by omega) (by omega)]; exact h4, h5⟩, fun j hj => ?_, h7⟩
  obtain ⟨a1, a2, a3⟩ := h6 j hj
  exact ⟨a1, a2, by rw [hq _ (by omega) (by omega)]; exact a3⟩
theorem ro_new_at {q k : Nat} {h h' : gi_H} {x : gi_E} {r : Option Value} {n' : Nat} (H : ro_new q k (q + 1) (gi_up h q x) r n' h') : r = none ∧ n' = q + 3 + k ∧ ro_at q k (ro_0 q) h' ∧ ∀ b, b < q → h' b = h b := by
  obtain ⟨h1, h2, h3, ⟨f, h4, h5⟩, ⟨g, h6, h7⟩, h8, h9⟩ := H
  refine ⟨h1, by omega, ⟨h3, ⟨f, h4, fun j hj => ?_⟩, ⟨g, h6, h7⟩, fun j hj => ⟨by simp only [ro_0]; omega, by simp only [ro_0]; omega, h8 j hj⟩, fun i j _ _ e => by simp only [ro_0] at e; omega⟩, fun b hb => ?_⟩
  · rw [h5 j hj]; rfl
  · rw [h9 b (by omega) (by omega), gi_up_ne (by omega)]
/-- a Facts in the making: so many rows of each sort are there -/
def fa_mid (a c0 c1 c2 c3 c4 : Nat) (h y : gi_H) : Prop := y a = some (gi_O 3 [.ref (a + 1), .ref (a + 2), .ref (a + 3), .ref (a + 4), .ref (a + 5)])
  ∧ (∃ f : Nat → Option Nat, y (a + 1) = some (gi_R 4 480 f) ∧ ∀ j, j < c0 → f j = some (a + 6 + 17 * j))
  ∧ (∃ f : Nat → Option Nat, y (a + 2) = some (gi_R 4 25 f) ∧ ∀ j, j < c1 → f j = some (a + 8166 + 8 * j))
  ∧ (∃ f : Nat → Option Nat, y (a + 3) = some (gi_R 4 25 f) ∧ ∀ j, j < c2 → f j = some (a + 8170 + 8 * j))
  ∧ (∃ f : Nat → Option Nat, y (a + 4) = some (gi_R 4 4 f) ∧ ∀ j, j < c3 → f j = some (a + 8366 + 4 * j))
  ∧ (∃ f : Nat → Option Nat, y (a + 5) = some (gi_R 4 8 f) ∧ ∀ j, j < c4 → f j = some (a + 8382 + 4 * j))
  ∧ (∀ j, j < c0 → ro_at (a + 6 + 17 * j) 14 (ro_0 (a + 6 + 17 * j)) y)
  ∧ (∀ j, j < c1 → ro_at (a + 8166 + 8 * j) 1 (ro_0 (a + 8166 + 8 * j)) y)
  ∧ (∀ j, j < c2 → ro_at (a + 8170 + 8 * j) 1 (ro_0 (a + 8170 + 8 * j)) y)
  ∧ (∀ j, j < c3 → ro_at (a + 8366 + 4 * j) 1 (ro_0 (a + 8366 + 4 * j)) y)
  ∧ (∀ j, j < c4 → ro_at (a + 8382 + 4 * j) 1 (ro_0 (a + 8382 + 4 * j)) y)
  ∧ ∀ b, b < a → y b = h b
theorem va_up_row {f : Nat → Option Nat} {i v : Nat} {F : Nat → Nat} (hi : i < 2 ^ 31) (h : ∀ j, j < i → f j = some (F j)) (hv : v = F i) : ∀ j, j < i + 1 → va_up f (nI i).toNatClampNeg (some v) j = some (F j) := by
  intro j hj
  rw [nI_clamp hi]
  by_cases e : j = i
  · subst e; simp [va_up, hv]
  · simp [va_up, e, h j (by omega)]
set_option maxHeartbeats 4000000 in
set_option maxRecDepth 100000 in
theorem fa_step0 {a i q : Nat} {h y z : gi_H} {f : Nat → Option Nat} (hi : i < 480) (hq : q = a + 6 + 17 * i) (H : fa_mid a i 0 0 0 0 h y) (hf : y (a + 1) = some (gi_R 4 480 f)) (hr : ro_at q 14 (ro_0 q) z) (hz : ∀ b, b < q → z b = y b) : fa_mid a (i + 1) 0 0 0 0 h (gi_up z (a + 1) (gi_R 4 480 (va_up f (nI i).toNatClampNeg (some q)))) := by
  obtain ⟨h0, ⟨f1, g1, e1⟩, ⟨f2, g2, e2⟩, ⟨f3, g3, e3⟩, ⟨f4, g4, e4⟩, ⟨f5, g5, e5⟩, r1, r2, r3, r4, r5, h9⟩ := H
  have kp : ∀ r c, r + 3 + c ≤ q → a + 6 ≤ r → ro_at r c (ro_0 r) y → ro_at r c (ro_0 r) (gi_up z (a + 1) (gi_R 4 480 (va_up f (nI i).toNatClampNeg (some q)))) := fun r c h1 h2 h3 => h3.keep (fun b hb1 hb2 => by rw [gi_up_ne (by omega), hz b (by omega)])
  have nw : ro_at q 14 (ro_0 q) (gi_up z (a + 1) (gi_R 4 480 (va_up f (nI i).toNatClampNeg (some q)))) := hr.keep (fun b hb1 hb2 => by rw [gi_up_ne (by omega)])
  refine ⟨by rw [gi_up_ne (by omega), hz _ (by omega)]; exact h0, ?_, ?_, ?_, ?_, ?_, fun j hj => ?_, fun j hj => ?_, fun j hj => ?_, fun j hj => ?_, fun j hj => ?_, fun b hb => by rw [gi_up_ne (by omega), hz _ (by omega)]; exact h9 b hb⟩
  · cases g1.symm.trans hf
    exact ⟨_, gi_up_self _ _ _, va_up_row (F := fun i => a + 6 + 17 * i) (by omega) e1 hq⟩
  · exact ⟨f2, by rw [gi_up_ne (by omega), hz _ (by omega)]; exact g2, e2⟩
  · exact ⟨f3, by rw [gi_up_ne (by omega), hz _ (by omega)]; exact g3, e3⟩
  · exact ⟨f4, by rw [gi_up_ne (by omega), hz _ (by omega)]; exact g4, e4⟩
  · exact ⟨f5, by rw [gi_up_ne (by omega), hz _ (by omega)]; exact g5, e5⟩
  · by_cases e : j = i
    · subst e; rw [← hq]; exact nw
    · exact kp _ _ (by omega) (by omega) (r1 j (by omega))
  · exact kp _ _ (by omega) (by omega) (r2 j hj)
  · exact kp _ _ (by omega) (by omega) (r3 j hj)
  · exact kp _ _ (by omega) (by omega) (r4 j hj)
  · exact kp _ _ (by omega) (by omega) (r5 j hj)
set_option maxHeartbeats 4000000 in
set_option maxRecDepth 100000 in
theorem fa_step1 {a i q : Nat} {h y z : gi_H} {f : Nat → Option Nat} (hi : i < 25) (hq : q = a + 8166 + 8 * i) (H : fa_mid a 480 i i 0 0 h y) (hf : y (a + 2) = some (gi_R 4 25 f)) (hr : ro_at q 1 (ro_0 q) z) (hz : ∀ b, b < q → z b = y b) : fa_mid a 480 (i + 1) i 0 0 h (gi_up z (a + 2) (gi_R 4 25 (va_up f (nI i).toNatClampNeg (some q)))) := by
  obtain ⟨h0, ⟨f1, g1, e1⟩, ⟨f2, g2, e2⟩, ⟨f3, g3, e3⟩, ⟨f4, g4, e4⟩, ⟨f5, g5, e5⟩, r1, r2, r3, r4, r5, h9⟩ := H
  have kp : ∀ r c, r + 3 + c ≤ q → a + 6 ≤ r → ro_at r c (ro_0 r) y → ro_at r c (ro_0 r) (gi_up z (a + 2) (gi_R 4 25 (va_up f (nI i).toNatClampNeg (some q)))) := fun r c h1 h2 h3 => h3.keep (fun b hb1 hb2 => by rw [gi_up_ne (by omega), hz b (by omega)])
  have nw : ro_at q 1 (ro_0 q) (gi_up z (a + 2) (gi_R 4 25 (va_up f (nI i).toNatClampNeg (some q)))) := hr.keep (fun b hb1 hb2 => by rw [gi_up_ne (by omega)])
  refine ⟨by rw [gi_up_ne (by omega), hz _ (by omega)]; exact h0, ?_, ?_, ?_, ?_, ?_, fun j hj => ?_, fun j hj => ?_, fun j hj => ?_, fun j hj => ?_, fun j hj => ?_, fun b hb => by rw [gi_up_ne (by omega), hz _ (by omega)]; exact h9 b hb⟩
  · exact ⟨f1, by rw [gi_up_ne (by omega), hz _ (by omega)]; exact g1, e1⟩
  · cases g2.symm.trans hf
    exact ⟨_, gi_up_self _ _ _, va_up_row (F := fun i => a + 8166 + 8 * i) (by omega) e2 hq⟩
  · exact ⟨f3, by rw [gi_up_ne (by omega), hz _ (by omega)]; exact g3, e3⟩
  · exact ⟨f4, by rw [gi_up_ne (by omega), hz _ (by omega)]; exact g4, e4⟩
  · exact ⟨f5, by rw [gi_up_ne (by omega), hz _ (by omega)]; exact g5, e5⟩
  · exact kp _ _ (by omega) (by omega) (r1 j hj)
  · by_cases e : j = i
    · subst e; rw [← hq]; exact nw
    · exact kp _ _ (by omega) (by omega) (r2 j (by omega))
  · exact kp _ _ (by omega) (by omega) (r3 j hj)
  · exact kp _ _ (by omega) (by omega) (r4 j hj)
  · exact kp _ _ (by omega) (by omega) (r5 j hj)
set_option maxHeartbeats 4000000 in
set_option maxRecDepth 100000 in
theorem fa_step2 {a i q : Nat} {h y z : gi_H} {f : Nat → Option Nat} (hi : i < 25) (hq : q = a + 8170 + 8 * i) (H : fa_mid a 480 (i + 1) i 0 0 h y) (hf : y (a + 3) = some (gi_R 4 25 f)) (hr : ro_at q 1 (ro_0 q) z) (hz : ∀ b, b < q → z b = y b) : fa_mid a 480 (i + 1) (i + 1) 0 0 h (gi_up z (a + 3) (gi_R 4 25 (va_up f (nI i).toNatClampNeg (some q)))) := by
  obtain ⟨h0, ⟨f1, g1, e1⟩, ⟨f2, g2, e2⟩, ⟨f3, g3, e3⟩, ⟨f4, g4, e4⟩, ⟨f5, g5, e5⟩, r1, r2, r3, r4, r5, h9⟩ := H
  have kp : ∀ r c, r + 3 + c ≤ q → a + 6 ≤ r → ro_at r c (ro_0 r) y → ro_at r c (ro_0 r) (gi_up z (a + 3) (gi_R 4 25 (va_up f (nI i).toNatClampNeg (some q)))) := fun r c h1 h2 h3 => h3.keep (fun b hb1 hb2 => by rw [gi_up_ne (by omega), hz b (by omega)])
  have nw : ro_at q 1 (ro_0 q) (gi_up z (a + 3) (gi_R 4 25 (va_up f (nI i).toNatClampNeg (some q)))) := hr.keep (fun b hb1 hb2 => by rw [gi_up_ne (by omega)])
  refine ⟨by rw [gi_up_ne (by omega), hz _ (by omega)]; exact h0, ?_, ?_, ?_, ?_, ?_, fun j hj => ?_, fun j hj => ?_, fun j hj => ?_, fun j hj => ?_, fun j hj => ?_, fun b hb => by rw [gi_up_ne (by omega), hz _ (by omega)]; exact h9 b hb⟩
  · exact ⟨f1, by rw [gi_up_ne (by omega), hz _ (by omega)]; exact g1, e1⟩
  · exact ⟨f2, by rw [gi_up_ne (by omega), hz _ (by omega)]; exact g2, e2⟩
  · cases g3.symm.trans hf
    exact ⟨_, gi_up_self _ _ _, va_up_row (F := fun i => a + 8170 + 8 * i) (by omega) e3 hq⟩
  · exact ⟨f4, by rw [gi_up_ne (by omega), hz _ (by omega)]; exact g4, e4⟩
  · exact ⟨f5, by rw [gi_up_ne (by omega), hz _ (by omega)]; exact g5, e5⟩
  · exact kp _ _ (by omega) (by omega) (r1 j hj)
  · exact kp _ _ (by omega) (by omega) (r2 j hj)
  · by_cases e : j = i
    · subst e; rw [← hq]; exact nw
    · exact kp _ _ (by omega) (by omega) (r3 j (by omega))
  · exact kp _ _ (by omega) (by omega) (r4 j hj)
  · exact kp _ _ (by omega) (by omega) (r5 j hj)
set_option maxHeartbeats 4000000 in
set_option maxRecDepth 100000 in
theorem fa_step3 {a i q : Nat} {h y z : gi_H} {f : Nat → Option Nat} (hi : i < 4) (hq : q = a + 8366 + 4 * i) (H : fa_mid a 480 25 25 i 0 h y) (hf : y (a + 4) = some (gi_R 4 4 f)) (hr : ro_at q 1 (ro_0 q) z) (hz : ∀ b, b < q → z b = y b) : fa_mid a 480 25 25 (i + 1) 0 h (gi_up z (a + 4) (gi_R 4 4 (va_up f (nI i).toNatClampNeg (some q)))) := by
  obtain ⟨h0, ⟨f1, g1, e1⟩, ⟨f2, g2, e2⟩, ⟨f3, g3, e3⟩, ⟨f4, g4, e4⟩, ⟨f5, g5, e5⟩, r1, r2, r3, r4, r5, h9⟩ := H
  have kp : ∀ r c, r + 3 + c ≤ q → a + 6 ≤ r → ro_at r c (ro_0 r) y → ro_at r c (ro_0 r) (gi_up z (a + 4) (gi_R 4 4 (va_up f (nI i).toNatClampNeg (some q)))) := fun r c h1 h2 h3 => h3.keep (fun b hb1 hb2 => by rw [gi_up_ne (by omega), hz b (by omega)])
  have nw : ro_at q 1 (ro_0 q) (gi_up z (a + 4) (gi_R 4 4 (va_up f (nI i).toNatClampNeg (some q)))) := hr.keep (fun b hb1 hb2 => by rw [gi_up_ne (by omega)])
  refine ⟨by rw [gi_up_ne (by omega), hz _ (by omega)]; exact h0, ?_, ?_, ?_, ?_, ?_, fun j hj => ?_, fun j hj => ?_, fun j hj => ?_, fun j hj => ?_, fun j hj => ?_, fun b hb => by rw [gi_up_ne (by omega), hz _ (by omega)]; exact h9 b hb⟩
  · exact ⟨f1, by rw [gi_up_ne (by omega), hz _ (by omega)]; exact g1, e1⟩
  · exact ⟨f2, by rw [gi_up_ne (by omega), hz _ (by omega)]; exact g2, e2⟩
  · exact ⟨f3, by rw [gi_up_ne (by omega), hz _ (by omega)]; exact g3, e3⟩
  · cases g4.symm.trans hf
    exact ⟨_, gi_up_self _ _ _, va_up_row (F := fun i => a + 8366 + 4 * i) (by omega) e4 hq⟩
  · exact ⟨f5, by rw [gi_up_ne (by omega), hz _ (by omega)]; exact g5, e5⟩
  · exact kp _ _ (by omega) (by omega) (r1 j hj)
  · exact kp _ _ (by omega) (by omega) (r2 j hj)
  · exact kp _ _ (by omega) (by omega) (r3 j hj)
  · by_cases e : j = i
    · subst e; rw [← hq]; exact nw
    · exact kp _ _ (by omega) (by omega) (r4 j (by omega))
  · exact kp _ _ (by omega) (by omega) (r5 j hj)
set_option maxHeartbeats 4000000 in
set_option maxRecDepth 100000 in
theorem fa_step4 {a i q : Nat} {h y z : gi_H} {f : Nat → Option Nat} (hi : i < 8) (hq : q = a + 8382 + 4 * i) (H : fa_mid a 480 25 25 4 i h y) (hf : y (a + 5) = some (gi_R 4 8 f)) (hr : ro_at q 1 (ro_0 q) z) (hz : ∀ b, b < q → z b = y b) : fa_mid a 480 25 25 4 (i + 1) h (gi_up z (a + 5) (gi_R 4 8 (va_up f (nI i).toNatClampNeg (some q)))) := by
  obtain ⟨h0, ⟨f1, g1, e1⟩, ⟨f2, g2, e2⟩, ⟨f3, g3, e3⟩, ⟨f4, g4, e4⟩, ⟨f5, g5, e5⟩, r1, r2, r3, r4, r5, h9⟩ := H
  have kp : ∀ r c, r + 3 + c ≤ q → a + 6 ≤ r → ro_at r c (ro_0 r) y → ro_at r c (ro_0 r) (gi_up z (a + 5) (gi_R 4 8 (va_up f (nI i).toNatClampNeg (some q)))) := fun r c h1 h2 h3 => h3.keep (fun b hb1 hb2 => by rw [gi_up_ne (by omega), hz b (by omega)])
  have nw : ro_at q 1 (ro_0 q) (gi_up z (a + 5) (gi_R 4 8 (va_up f (nI i).toNatClampNeg (some q)))) := hr.keep (fun b hb1 hb2 => by rw [gi_up_ne (by omega)])
  refine ⟨by rw [gi_up_ne (by omega), hz _ (by omega)]; exact h0, ?_, ?_, ?_, ?_, ?_, fun j hj => ?_, fun j hj => ?_, fun j hj => ?_, fun j hj => ?_, fun j hj => ?_, fun b hb => by rw [gi_up_ne (by omega), hz _ (by omega)]; exact h9 b hb⟩
  · exact ⟨f1, by rw [gi_up_ne (by omega), hz _ (by omega)]; exact g1, e1⟩
  · exact ⟨f2, by rw [gi_up_ne (by omega), hz _ (by omega)]; exact g2, e2⟩
  · exact ⟨f3, by rw [gi_up_ne (by omega), hz _ (by omega)]; exact g3, e3⟩
  · exact ⟨f4, by rw [gi_up_ne (by omega), hz _ (by omega)]; exact g4, e4⟩
  · cases g5.symm.trans hf
    exact ⟨_, gi_up_self _ _ _, va_up_row (F := fun i => a + 8382 + 4 * i) (by omega) e5 hq⟩
  · exact kp _ _ (by omega) (by omega) (r1 j hj)
  · exact kp _ _ (by omega) (by omega) (r2 j hj)
  · exact kp _ _ (by omega) (by omega) (r3 j hj)
  · exact kp _ _ (by omega) (by omega) (r4 j hj)
  · by_cases e : j = i
    · subst e; rw [← hq]; exact nw
    · exact kp _ _ (by omega) (by omega) (r5 j (by omega))
/-- a Facts at a: its rows by number: 480 states, 25 lengths, 25 elements, 4 fields, 8 results -/
def fa_row (a t : Nat) : Nat := if t < 480 then a + 6 + 17 * t else if t < 505 then a + 8166 + 8 * (t - 480) else if t < 530 then a + 8170 + 8 * (t - 505) else if t < 534 then a + 8366 + 4 * (t - 530) else a + 8382 + 4 * (t - 534)
def fa_cap (t : Nat) : Nat := if t < 480 then 14 else 1
def fa_at (a : Nat) (Φ : Nat → mR) (h : gi_H) : Prop := h a = some (gi_O 3 [.ref (a + 1), .ref (a + 2), .ref (a + 3), .ref (a + 4), .ref (a + 5)])
  ∧ (∃ f : Nat → Option Nat, h (a + 1) = some (gi_R 4 480 f) ∧ ∀ j, j < 480 → f j = some (fa_row a j))
  ∧ (∃ f : Nat → Option Nat, h (a + 2) = some (gi_R 4 25 f) ∧ ∀ j, j < 25 → f j = some (fa_row a (480 + j)))
  ∧ (∃ f : Nat → Option Nat, h (a + 3) = some (gi_R 4 25 f) ∧ ∀ j, j < 25 → f j = some (fa_row a (505 + j)))
  ∧ (∃ f : Nat → Option Nat, h (a + 4) = some (gi_R 4 4 f) ∧ ∀ j, j < 4 → f j = some (fa_row a (530 + j)))
  ∧ (∃ f : Nat → Option Nat, h (a + 5) = some (gi_R 4 8 f) ∧ ∀ j, j < 8 → f j = some (fa_row a (534 + j)))
  ∧ ∀ t, t < 542 → ro_at (fa_row a t) (fa_cap t) (Φ t) h
theorem fa_done {a : Nat} {h y : gi_H} (H : fa_mid a 480 25 25 4 8 h y) : fa_at a (fun t => ro_0 (fa_row a t)) y ∧ ∀ b, b < a → y b = h b := by
  obtain ⟨h0, ⟨f1, g1, e1⟩, ⟨f2, g2, e2⟩, ⟨f3, g3, e3⟩, ⟨f4, g4, e4⟩, ⟨f5, g5, e5⟩, r1, r2, r3, r4, r5, h9⟩ := H
  refine ⟨⟨h0, ⟨f1, g1, fun j hj => ?_⟩, ⟨f2, g2, fun j hj => ?_⟩, ⟨f3, g3, fun j hj => ?_⟩, ⟨f4, g4, fun j hj => ?_⟩, ⟨f5, g5, fun j hj => ?_⟩, fun t ht => ?_⟩, h9⟩
  · rw [e1 j hj]; congr 1; unfold fa_row; split <;> omega
  · rw [e2 j hj]; congr 1; unfold fa_row; (repeat' split) <;> omega
  · rw [e3 j hj]; congr 1; unfold fa_row; (repeat' split) <;> omega
  · rw [e4 j hj]; congr 1; unfold fa_row; (repeat' split) <;> omega
  · rw [e5 j hj]; congr 1; unfold fa_row; (repeat' split) <;> omega
  · unfold fa_row fa_cap
    by_cases q0 : t < 480
    · simp only [q0, if_true]; exact r1 t q0
    · by_cases q1 : t < 505
      · simp only [q0, q1, if_true, if_false]; exact r2 _ (by omega)
      · by_cases q2 : t < 530
        · simp only [q0, q1, q2, if_true, if_false]; exact r3 _ (by omega)
        · by_cases q3 : t < 534
          · simp only [q0, q1, q2, q3, if_true, if_false]; exact r4 _ (by omega)
          · simp only [q0, q1, q2, q3, if_false]; exact r5 _ (by omega)
end FA1
