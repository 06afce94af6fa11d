-- needs: 89.99rmb
section RMC
variable {k : Nat} {P : Pm} {sh : Nat → Option Sh} {sn : Nat → Nat} {wd : Nat → Bool} {F : Fa} {rs : Nat → Bool}
theorem anew_kp (B : Built k P sh sn wd) (hF : okF (tyF P sh) F) {t : Nat} {x : Sp} (h1 : 480 ≤ t) (h2 : t < 534) (hx : okS x) (hb : bgF t = mkR true 0 1 (one (.inl x))) {v : Int32} (hv : hasS x v.toInt = true) : rwT (anewF P sn (rootsF P k rs) F) t v = true := by
  have q := comes_all (ty := tyF P sh) (gr := fun _ => false) (X := (bgF, false)) (cs := ctr P sn (rootsF P k rs) F) bg_ok (ctr_ok B hF)
  have n0 := q.2.2.2.2.1 t 1 (one (.inl x)) (by omega) (by
    have e : tyF P sh t = (1, 0, fun _ => false) := by unfold tyF; rw [if_neg (by omega), if_pos (by omega)]
    rw [e]
    exact ⟨rfl, fun i _ => ⟨hx, rfl, Or.inl rfl⟩⟩) (by
    rw [newR_iff]
    show (bgF t).told = true ∧ covR (bgF t) 1 (one (.inl x)) = true
    rw [hb]
    refine ⟨rfl, ?_⟩
    rw [covR_iff]
    exact ⟨rfl, fun i _ => ⟨covA_refl _, rfl⟩⟩)
  obtain ⟨tl, cv⟩ := newR_iff.mp n0
  obtain ⟨c1, c2⟩ := covR_iff.mp cv
  have c0 := (c2 0 (by omega)).1
  unfold rwT
  have tl' : (anewF P sn (rootsF P k rs) F t).told = true := tl
  rw [tl', Bool.true_and]
  have c0' : covA ((anewF P sn (rootsF P k rs) F t).f 0).1 (.inl x) = true := c0
  cases e : ((anewF P sn (rootsF P k rs) F t).f 0).1 with
  | inl y =>
    rw [e] at c0'
    exact cov_has c0' hx hv
  | inr y =>
    rw [e] at c0'
    cases y
    cases c0'
theorem crO_anew (B : Built k P sh sn wd) (hF : okF (tyF P sh) F) : crO (anewF P sn (rootsF P k rs) F) := by
  refine ⟨fun j hj => ?_, fun v hv => ?_, fun v => ?_⟩
  · refine anew_kp B hF (x := (0, 0, 0)) (by omega) (by omega) ⟨by decide, by decide, by decide, by decide, by decide, by decide⟩ ?_ (by decide)
    unfold bgF
    rw [if_neg (by omega), if_neg (by omega), if_pos (by omega)]
  · refine anew_kp B hF (x := (0, 2147483647, 1)) (by omega) (by omega) ⟨by decide, by decide, by decide, by decide, by decide, by decide⟩ rfl ?_
    have b := i32_b v
    have q := hv
    rw [Int32.le_iff_toInt_le, show (0 : Int32).toInt = 0 from rfl] at q
    unfold hasS
    rw [decide_eq_true (show (0 : Int) ≤ v.toInt from q), decide_eq_true (show v.toInt ≤ 2147483647 from b.2)]
    simp
  · refine anew_kp B hF (x := allS) (by omega) (by omega) ⟨by decide, by decide, by decide, by decide, by decide, by decide⟩ rfl ?_
    have b := i32_b v
    unfold hasS allS
    rw [decide_eq_true (show (-2147483648 : Int) ≤ v.toInt from b.1), decide_eq_true (show v.toInt ≤ 2147483647 from b.2)]
    simp
theorem crO_cer (B : Built k P sh sn wd) (r : Int32) (K : Nat) : crO (cerF P sn k wd r K) := by
  unfold cerF
  exact crO_anew B (anew_ok B (it_ok B r (K + 1))).1
theorem crO_up {p : Nat} {r : Rw} (h : crO F) (hp : p < 480) : crO (upO F p r) := by
  have e : ∀ t v, 480 ≤ t → rwT (upO F p r) t v = rwT F t v := fun t v ht => by unfold rwT; rw [upO_ne (by omega)]
  exact ⟨fun j hj => by rw [e _ _ (by omega)]; exact h.1 j hj, fun v hv => by rw [e _ _ (by omega)]; exact h.2.1 v hv, fun v => by rw [e _ _ (by omega)]; exact h.2.2 v⟩
end RMC
