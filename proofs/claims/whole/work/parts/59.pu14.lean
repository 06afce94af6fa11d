section PURE14
variable {k : Nat} {P : Pm} {sh : Nat → Option Sh} {sn : Nat → Nat} {wd : Nat → Bool}
theorem cov_of_has {x y : Sp} (hx : okS x) (hy : okS y) (h : ∀ v, hasS y v = true → hasS x v = true) : covS x y = true := by
  have a := hasS_iff.mp (h _ (has_lo hy))
  have b := hasS_iff.mp (h _ (has_hi hy))
  rw [covS_iff]
  refine ⟨a.1, b.2.1, ?_⟩
  rcases a.2.2 with q | q
  · exact Or.inl q
  · right
    refine ⟨q, ?_⟩
    by_cases e : y.1 = y.2.1
    · rw [hy.2.2.2.2.1 e]; simp
    · have st := hy.st
      have c := hasS_iff.mp (h (y.1 + y.2.2) (hasS_iff.mpr ⟨by have := hy.2.2.2.1; omega, by omega, Or.inr (by rw [show y.1 + y.2.2 - y.1 = y.2.2 by omega]; exact Int.dvd_refl _)⟩))
      rcases c.2.2 with z | z
      · have := hx.z z
        have := hy.2.1
        omega
      · have := Int.dvd_sub z q
        rwa [show y.1 + y.2.2 - x.1 - (y.1 - x.1) = y.2.2 by omega] at this
theorem within_cov {x x' z : Sp} {a b a' b' : Int} (hx : okS x) (hx' : okS x') (h : covS x' x = true) (ha : a' ≤ a) (hb : b ≤ b') (e : withinS x a b = some z) : ∃ z', withinS x' a' b' = some z' ∧ covS z' z = true ∧ okS z ∧ okS z' := by
  have oz := (within_ok hx e).1
  have t := within_has hx e (has_lo oz)
  obtain ⟨z', e', -⟩ := within_some hx' (a := a') (b := b') (cov_has h hx t.1) (by omega) (by omega)
  have oz' := (within_ok hx' e').1
  refine ⟨z', e', cov_of_has oz' oz (fun v hv => ?_), oz, oz'⟩
  have t := within_has hx e hv
  obtain ⟨z2, e2, h2⟩ := within_some hx' (a := a') (b := b') (cov_has h hx t.1) (by omega) (by omega)
  rw [e'] at e2
  cases e2
  exact h2
theorem mkS_id {x : Sp} (h : okS x) : mkS x.1 x.2.1 x.2.2 = x := by
  unfold mkS
  split
  · rename_i q
    rw [← h.2.2.2.2.1 q]
  · rfl
theorem lose_cov {x x' z : Sp} {c : Int} (hx : okS x) (hx' : okS x') (h : covS x' x = true) (e : loseS x c = some z) : ∃ z', loseS x' c = some z' ∧ covS z' z = true ∧ okS z ∧ okS z' := by
  have oz := lose_ok hx e
  have l := cov_lo h
  have o2 := hx.2.1
  have nn : ¬ (x'.1 = c ∧ x'.2.1 = c) := by
    intro q
    have := cov_one hx hx' h (by omega)
    subst this
    unfold loseS at e
    rw [if_pos q] at e
    cases e
  have e' : ∃ z', loseS x' c = some z' := by
    unfold loseS
    rw [if_neg nn]
    exact ⟨_, rfl⟩
  obtain ⟨z', e'⟩ := e'
  have oz' := lose_ok hx' e'
  refine ⟨z', e', cov_of_has oz' oz (fun v hv => ?_), oz, oz'⟩
  have t := lose_sub hx e hv
  have hv' := cov_has h hx t.1
  by_cases q : v = c
  · have n2 : ¬ (x.1 = c ∨ x.2.1 = c) := fun y => t.2 y q
    have r := hasS_iff.mp t.1
    have : loseS x' c = some x' := by
      unfold loseS
      rw [if_neg nn, if_neg (by omega), if_neg (by omega), mkS_id hx']
    rw [this] at e'
    cases e'
    exact hv'
  · obtain ⟨z2, e2, h2⟩ := lose_has hx' hv' q
    rw [e'] at e2
    cases e2
    exact h2
theorem lose_in {x z : Sp} {c : Int} (hx : okS x) (e : loseS x c = some z) : covS x z = true := cov_of_has hx (lose_ok hx e) (fun _ hv => (lose_sub hx e hv).1)
theorem within_in {x z : Sp} {a b : Int} (hx : okS x) (e : withinS x a b = some z) : covS x z = true := cov_of_has hx (within_ok hx e).1 (fun _ hv => (within_has hx e hv).1)
theorem nar_in {op : Nat} {x y z : Sp} (hx : okS x) (e : narX op x y = some z) : covS x z = true := by
  unfold narX at e
  repeat' split at e
  all_goals first | exact within_in hx e | exact lose_in hx e | (cases e; exact cov_refl _)
theorem narY_in {op : Nat} {x y z : Sp} (hy : okS y) (e : narY op x y = some z) : covS y z = true := by
  unfold narY at e
  repeat' split at e
  all_goals first | exact within_in hy e | exact lose_in hy e | (cases e; exact cov_refl _)
theorem nar_cov {op : Nat} {x y x' y' z : Sp} (hx : okS x) (hx' : okS x') (hy : okS y) (hy' : okS y') (h1 : covS x' x = true) (h2 : covS y' y = true) (e : narX op x y = some z) : ∃ z', narX op x' y' = some z' ∧ covS z' z = true ∧ okS z ∧ okS z' := by
  have l2 := cov_lo h2
  unfold narX at e ⊢
  by_cases q0 : op = 20
  · rw [if_pos q0] at e ⊢; exact within_cov hx hx' h1 l2.1 l2.2 e
  rw [if_neg q0] at e ⊢
  by_cases q1 : op = 21
  · rw [if_pos q1] at e ⊢
    by_cases c : y'.1 = y'.2.1
    · have := cov_one hy hy' h2 c
      subst this
      rw [if_pos c] at e ⊢
      exact lose_cov hx hx' h1 e
    · rw [if_neg c]
      refine ⟨x', rfl, ?_⟩
      split at e
      · have oz := lose_ok hx e
        exact ⟨cov_trans hx oz h1 (lose_in hx e), oz, hx'⟩
      · cases e
        exact ⟨h1, hx, hx'⟩
  rw [if_neg q1] at e ⊢
  by_cases q2 : op = 22
  · rw [if_pos q2] at e ⊢; exact within_cov hx hx' h1 (by omega) (by omega) e
  rw [if_neg q2] at e ⊢
  by_cases q3 : op = 23
  · rw [if_pos q3] at e ⊢; exact within_cov hx hx' h1 (by omega) (by omega) e
  rw [if_neg q3] at e ⊢
  by_cases q4 : op = 24
  · rw [if_pos q4] at e ⊢; exact within_cov hx hx' h1 (by omega) (by omega) e
  rw [if_neg q4] at e ⊢
  exact within_cov hx hx' h1 (by omega) (by omega) e
theorem narY_cov {op : Nat} {x y x' y' z : Sp} (hx : okS x) (hx' : okS x') (hy : okS y) (hy' : okS y') (h1 : covS x' x = true) (h2 : covS y' y = true) (e : narY op x y = some z) : ∃ z', narY op x' y' = some z' ∧ covS z' z = true ∧ okS z ∧ okS z' := by
  have l1 := cov_lo h1
  unfold narY at e ⊢
  by_cases q0 : op = 20
  · rw [if_pos q0] at e ⊢; exact within_cov hy hy' h2 l1.1 l1.2 e
  rw [if_neg q0] at e ⊢
  by_cases q1 : op = 21
  · rw [if_pos q1] at e ⊢
    by_cases c : x'.1 = x'.2.1
    · have := cov_one hx hx' h1 c
      subst this
      rw [if_pos c] at e ⊢
      exact lose_cov hy hy' h2 e
    · rw [if_neg c]
      refine ⟨y', rfl, ?_⟩
      split at e
      · have oz := lose_ok hy e
        exact ⟨cov_trans hy oz h2 (lose_in hy e), oz, hy'⟩
      · cases e
        exact ⟨h2, hy, hy'⟩
  rw [if_neg q1] at e ⊢
  by_cases q2 : op = 22
  · rw [if_pos q2] at e ⊢; exact within_cov hy hy' h2 (by omega) (by omega) e
  rw [if_neg q2] at e ⊢
  by_cases q3 : op = 23
  · rw [if_pos q3] at e ⊢; exact within_cov hy hy' h2 (by omega) (by omega) e
  rw [if_neg q3] at e ⊢
  by_cases q4 : op = 24
  · rw [if_pos q4] at e ⊢; exact within_cov hy hy' h2 (by omega) (by omega) e
  rw [if_neg q4] at e ⊢
  exact within_cov hy hy' h2 (by omega) (by omega) e
theorem gath_hi {F G : Fa} {base : Nat} {b b' : Int32} (hb : ∀ s, s < 32 → bitA b s = true → bitA b' s = true) (h : ∀ s, s < 25 → (F (base + s)).told = true → (G (base + s)).told = true ∧ (spA ((F (base + s)).f 0).1).2.1 ≤ (spA ((G (base + s)).f 0).1).2.1) : ∀ k, k ≤ 25 → ∀ z, gathF F base b k = some z → ∃ z', gathF G base b' k = some z' ∧ z.2.1 ≤ z'.2.1
  | 0, _, z, e => by cases e
  | k + 1, hk, z, e => by
    have ih := gath_hi hb h k (by omega)
    unfold gathF at e ⊢
    split at e
    · rename_i c
      have hh := h k (by omega) c.2
      rw [if_pos ⟨hb k (by omega) c.1, hh.1⟩]
      cases e1 : gathF F base b k with
      | none =>
        rw [e1] at e
        cases e
        cases e2 : gathF G base b' k with
        | none => exact ⟨_, rfl, hh.2⟩
        | some w => exact ⟨_, rfl, by simp only [bothS]; omega⟩
      | some w0 =>
        rw [e1] at e
        cases e
        obtain ⟨z', e2, hz⟩ := ih w0 e1
        rw [e2]
        exact ⟨_, rfl, by simp only [bothS]; omega⟩
    · obtain ⟨z', e2, hz⟩ := ih z e
      rw [e2]
      split
      · exact ⟨_, rfl, by simp only [bothS]; omega⟩
      · exact ⟨z', rfl, hz⟩
/-! one slot after two tellings -/
theorem tell1_hi {L n T : Nat} {f g : Nat → Sl} {mf mg : Int32} {v w vf : Av} (hL : L ≤ 6) (hT : L ≤ T) (hn : T < n) (h1 : mf = -1 ∨ ∃ j, j < L ∧ mf = Int32.ofNat j) (h2 : mg = -1 ∨ ∃ j, j < L ∧ mg = Int32.ofNat j) (hm : covM mg mf = true) (hc : covA (g T).1 (f T).1 = true ∧ covM (g T).2 (f T).2 = true) (hv : covA w v = true) (hvf : covA vf v = true) (he : mf ≠ -1 → (f T).2 = mf → (f T).1 = vf) (hp : 0 ≤ hiA (tellF n f mf v T).1) : 0 ≤ hiA (tellF n g mg w T).1 := by
  rw [tell_at hL h1 hT hn] at hp
  rw [tell_at hL h2 hT hn]
  rw [covM_iff] at hm
  have hc2 := covM_iff.mp hc.2
  split
  · rename_i c
    have e1 : (g T).2 = (f T).2 := by
      rcases hc2 with z | z
      · rw [c.2] at z; exact absurd z c.1
      · exact z
    have e2 : mg = mf := by
      rcases hm with z | z
      · exact absurd z c.1
      · exact z
    rw [if_pos ⟨by rw [← e2]; exact c.1, by rw [← e1, c.2, e2]⟩] at hp
    exact cov_hi hv hp
  · split at hp
    · rename_i c
      refine cov_hi hc.1 ?_
      rw [he c.1 c.2]
      exact cov_hi hvf hp
    · exact cov_hi hc.1 hp
theorem tell2_hi {L n T : Nat} {f g : Nat → Sl} {m1 m2 m1' m2' : Int32} {v1 v2 w1 w2 vf1 vf2 : Av} (hL : L ≤ 6) (hT : L ≤ T) (hn : T < n) (h1 : m1 = -1 ∨ ∃ j, j < L ∧ m1 = Int32.ofNat j) (h2 : m2 = -1 ∨ ∃ j, j < L ∧ m2 = Int32.ofNat j) (h1' : m1' = -1 ∨ ∃ j, j < L ∧ m1' = Int32.ofNat j) (h2' : m2' = -1 ∨ ∃ j, j < L ∧ m2' = Int32.ofNat j) (hm1 : covM m1' m1 = true) (hm2 : covM m2' m2 = true) (hc : covA (g T).1 (f T).1 = true ∧ covM (g T).2 (f T).2 = true) (hv1 : covA w1 v1 = true) (hv2 : covA w2 v2 = true) (hf1 : covA vf1 v1 = true) (hf2 : covA vf2 v2 = true) (he1 : m1 ≠ -1 → (f T).2 = m1 → (f T).1 = vf1) (he2 : m2 ≠ -1 → (f T).2 = m2 → (f T).1 = vf2) (hne : ¬ (m1 ≠ -1 ∧ m1 = m2)) (hp : 0 ≤ hiA (tellF n (tellF n f m1 v1) m2 v2 T).1) : 0 ≤ hiA (tellF n (tellF n g m1' w1) m2' w2 T).1 := by
  rw [tell_at hL h2 hT hn, tell_mk, tell_at hL h1 hT hn] at hp
  rw [tell_at hL h2' hT hn, tell_mk, tell_at hL h1' hT hn]
  rw [covM_iff] at hm1 hm2
  have hc2 := covM_iff.mp hc.2
  by_cases c2 : m2' ≠ -1 ∧ (g T).2 = m2'
  · rw [if_pos c2]
    have e1 : (g T).2 = (f T).2 := by
      rcases hc2 with z | z
      · rw [c2.2] at z; exact absurd z c2.1
      · exact z
    have e2 : m2' = m2 := hm2.resolve_left c2.1
    rw [if_pos ⟨by rw [← e2]; exact c2.1, by rw [← e1, c2.2, e2]⟩] at hp
    exact cov_hi hv2 hp
  · rw [if_neg c2]
    by_cases c1 : m1' ≠ -1 ∧ (g T).2 = m1'
    · rw [if_pos c1]
      have e1 : (g T).2 = (f T).2 := by
        rcases hc2 with z | z
        · rw [c1.2] at z; exact absurd z c1.1
        · exact z
      have e2 : m1' = m1 := hm1.resolve_left c1.1
      have n1 : m1 ≠ -1 := by rw [← e2]; exact c1.1
      have t1 : (f T).2 = m1 := by rw [← e1, c1.2, e2]
      rw [if_neg (fun z => hne ⟨n1, by rw [← t1, z.2]⟩), if_pos ⟨n1, t1⟩] at hp
      exact cov_hi hv1 hp
    · rw [if_neg c1]
      split at hp
      · rename_i c
        refine cov_hi hc.1 ?_
        rw [he2 c.1 c.2]
        exact cov_hi hf2 hp
      · split at hp
        · rename_i c
          refine cov_hi hc.1 ?_
          rw [he1 c.1 c.2]
          exact cov_hi hf1 hp
        · exact cov_hi hc.1 hp
theorem opens_hi {L n T op : Nat} {f g r : Nat → Sl} {x y x' y' : Sp} {mx my mx' my' : Int32} (hL : L ≤ 6) (hT : L ≤ T) (hn : T < n) (hx : okS x) (hx' : okS x') (hy : okS y) (hy' : okS y') (c1 : covS x' x = true) (c2 : covS y' y = true) (h1 : mx = -1 ∨ ∃ j, j < L ∧ mx = Int32.ofNat j) (h2 : my = -1 ∨ ∃ j, j < L ∧ my = Int32.ofNat j) (h1' : mx' = -1 ∨ ∃ j, j < L ∧ mx' = Int32.ofNat j) (h2' : my' = -1 ∨ ∃ j, j < L ∧ my' = Int32.ofNat j) (hm1 : covM mx' mx = true) (hm2 : covM my' my = true) (hc : covA (g T).1 (f T).1 = true ∧ covM (g T).2 (f T).2 = true) (he1 : mx ≠ -1 → (f T).2 = mx → (f T).1 = .inl x) (he2 : my ≠ -1 → (f T).2 = my → (f T).1 = .inl y) (e : opensF op n f x y mx my = some r) (hp : 0 ≤ hiA (r T).1) : ∃ r', opensF op n g x' y' mx' my' = some r' ∧ 0 ≤ hiA (r' T).1 := by
  unfold opensF at e
  split at e
  · rename_i u v eu ev
    obtain ⟨u', eu', cu, ou, ou'⟩ := nar_cov hx hx' hy hy' c1 c2 eu
    obtain ⟨v', ev', cv, ov, ov'⟩ := narY_cov hx hx' hy hy' c1 c2 ev
    have iu := nar_in hx eu
    have iv := narY_in hy ev
    have lv := cov_lo cv
    unfold opensF
    rw [eu', ev']
    simp only
    by_cases q : mx ≠ -1 ∧ mx = my
    · rw [if_pos q] at e
      split at e
      · rename_i z ez
        cases e
        have oz := (within_ok ou ez).1
        have iz := within_in ou ez
        have zv : 0 ≤ z.2.1 → 0 ≤ v.2.1 := fun hz => by
          have := (within_ok ou ez).2.2.1
          omega
        obtain ⟨z', ez', cz, -, oz'⟩ := within_cov ou ou' cu lv.1 lv.2 ez
        by_cases q' : mx' ≠ -1 ∧ mx' = my'
        · rw [if_pos q', ez']
          exact ⟨_, rfl, tell1_hi (vf := .inl x) (v := .inl z) (w := .inl z') hL hT hn h1 h1' hm1 hc cz (cov_trans ou oz iu iz) he1 hp⟩
        · rw [if_neg q']
          refine ⟨_, rfl, ?_⟩
          -- both are told of one mark here, and of at most one of the two there
          rw [tell_at hL h1 hT hn] at hp
          rw [tell_at hL h2' hT hn, tell_mk, tell_at hL h1' hT hn]
          have hc2 := covM_iff.mp hc.2
          have hm1' := covM_iff.mp hm1
          have hm2' := covM_iff.mp hm2
          by_cases d2 : my' ≠ -1 ∧ (g T).2 = my'
          · rw [if_pos d2]
            have e1 : (g T).2 = (f T).2 := hc2.resolve_left (by rw [d2.2]; exact d2.1)
            have e2 : my' = my := hm2'.resolve_left d2.1
            rw [if_pos ⟨q.1, by rw [← e1, d2.2, e2, q.2]⟩] at hp
            have hz : 0 ≤ z.2.1 := hp
            show 0 ≤ v'.2.1
            have := zv hz
            omega
          · rw [if_neg d2]
            by_cases d1 : mx' ≠ -1 ∧ (g T).2 = mx'
            · rw [if_pos d1]
              have e1 : (g T).2 = (f T).2 := hc2.resolve_left (by rw [d1.2]; exact d1.1)
              have e2 : mx' = mx := hm1'.resolve_left d1.1
              rw [if_pos ⟨q.1, by rw [← e1, d1.2, e2]⟩] at hp
              have hz : 0 ≤ z.2.1 := hp
              have a1 := cov_lo iz
              have a2 := cov_lo cu
              show 0 ≤ u'.2.1
              omega
            · rw [if_neg d1]
              split at hp
              · rename_i d
                refine cov_hi hc.1 ?_
                rw [he1 d.1 d.2]
                exact cov_hi (a := .inl z) (b := .inl x) (cov_trans ou oz iu iz) hp
              · exact cov_hi hc.1 hp
      · cases e
    · rw [if_neg q] at e
      cases e
      by_cases q' : mx' ≠ -1 ∧ mx' = my'
      · exfalso
        have e1 := (covM_iff.mp hm1).resolve_left q'.1
        have e2 := (covM_iff.mp hm2).resolve_left (by rw [← q'.2]; exact q'.1)
        exact q ⟨by rw [← e1]; exact q'.1, by rw [← e1, ← e2, q'.2]⟩
      · rw [if_neg q']
        exact ⟨_, rfl, tell2_hi (vf1 := .inl x) (vf2 := .inl y) (v1 := .inl u) (w1 := .inl u') (v2 := .inl v) (w2 := .inl v') hL hT hn h1 h2 h1' h2' hm1 hm2 hc cu cv iu iv he1 he2 q hp⟩
  · cases e
end PURE14
