-- needs: 76
section ST7
/-- how often a row that widens has changed -/
def chI (T : Nat → Ty) (wd : Nat → Bool) (F : Fa) : Prop := ∀ t, t < 542 → wd t = true → ((F t).told = false → (F t).ch = 0) ∧ ((F t).told = true → (F t).ch + psiR (T t) (F t) ≤ 139 * (T t).1 + 3)
theorem chI_come {T : Nat → Ty} {wd : Nat → Bool} {X : Fa × Bool} {c : Con} (hX : okF T X.1) (hc : okC T c) (h : chI T wd X.1) : chI T wd (come wd X c).1 := fun t ht hw => by
  by_cases e : t = c.1
  · subst e
    rw [come_at, hw]
    refine ⟨fun z => (by rw [joinR_told] at z; cases z), fun _ => ?_⟩
    have hh := h c.1 ht hw
    cases hn : newR (X.1 c.1) c.2.1 c.2.2 with
    | false =>
      rw [join_self hn]
      exact hh.2 (newR_iff.mp hn).1
    | true =>
      have hp := psi_join (hX _ ht).1 hc.2.1 hn
      cases htl : (X.1 c.1).told with
      | false =>
        have h0 := hh.1 htl
        have e2 : (joinR true (X.1 c.1) c.2.1 c.2.2).ch = 0 := by
          unfold joinR
          rw [if_pos htl]
          exact h0
        rw [psi_f htl] at hp
        rw [e2]
        omega
      | true =>
        have h1 := hh.2 htl
        have e2 : (joinR true (X.1 c.1) c.2.1 c.2.2).ch = (X.1 c.1).ch + 1 := by
          have hcv : covR (X.1 c.1) c.2.1 c.2.2 = false := by
            simp [newR, htl] at hn
            exact hn
          unfold joinR
          rw [if_neg (by simp [htl]), if_neg (by simp [hcv])]
        rw [e2]
        omega
  · rw [come_ne e]
    exact h t ht hw
variable {l : Launch} {V : gi_V} {n : Nat} {h h' h0 : gi_H} {a pr bu fr to k m md : Nat} {P : Pm} {S : Nat → Int32} {x y nx ny ar ou be ab : mV} {Wk Wy En Lo : mR} {F : Fa} {Φ : Nat → mR} {T : Nat → Ty} {wd : Nat → Bool} {cb : Bool}
variable {f : Nat → Sl} {n0 i : Nat} {sn : Nat → Nat} {Ff : Fa} {X : Fa × Bool} {hA hB : gi_H}
/-- all but the Stepper: the program, the build, the facts that are read and those that are written -/
def SB (a pr bu fr to k md : Nat) (P : Pm) (sn : Nat → Nat) (wd : Nat → Bool) (T : Nat → Ty) (Ff : Fa) (X : Fa × Bool) (hA hB : gi_H) : Prop := pr_at pr (nI k) P hB ∧ buW bu pr k P sn wd hB ∧ (∃ Φ, fa_at to Φ hB ∧ FaR X.1 Φ) ∧ (∃ Φ, fa_at fr Φ hB ∧ FaR (if fr = to then X.1 else Ff) Φ) ∧ okF T X.1 ∧ (md = 0 → chI T wd X.1) ∧ outW a to hA hB
/-- nothing lies on another -/
def DJ (a pr bu fr to : Nat) : Prop := (pr + 8 ≤ a ∨ a + 65 ≤ pr) ∧ (bu + 8 ≤ a ∨ a + 65 ≤ bu) ∧ (to + 8414 ≤ a ∨ a + 65 ≤ to) ∧ (fr + 8414 ≤ a ∨ a + 65 ≤ fr) ∧ (pr + 8 ≤ to ∨ to + 8414 ≤ pr) ∧ (bu + 8 ≤ to ∨ to + 8414 ≤ bu) ∧ (fr = to ∨ fr + 8414 ≤ to ∨ to + 8414 ≤ fr)
def SS (S : Nat → Int32) (md m i : Nat) (cb : Bool) : Prop := S 6 = nI md ∧ S 0 = bI cb ∧ S 7 = nI m ∧ S 8 = nI i
theorem SS.up {b : Bool} (h : SS S md m i cb) : SS (upS S 0 (bI b)) md m i b := ⟨h.1, by simp [upS], h.2.2.1, h.2.2.2⟩
theorem SB.hpr (B : SB a pr bu fr to k md P sn wd T Ff X hA hB) (d : DJ a pr bu fr to) (ho : outS a hB h) : pr_at pr (nI k) P h := B.1.keep2 (fun b b1 b2 => ho b (by have := d.1; omega))
theorem SB.hbu (B : SB a pr bu fr to k md P sn wd T Ff X hA hB) (d : DJ a pr bu fr to) (ho : outS a hB h) : buW bu pr k P sn wd h := B.2.1.keep (fun b b1 b2 => ho b (by have := d.2.1; omega))
theorem SB.hto (B : SB a pr bu fr to k md P sn wd T Ff X hA hB) (d : DJ a pr bu fr to) (ho : outS a hB h) : ∃ Φ, fa_at to Φ h ∧ FaR X.1 Φ := by
  obtain ⟨Φ, p, q⟩ := B.2.2.1
  exact ⟨Φ, p.keep (fun b b1 b2 => ho b (by have := d.2.2.1; omega)), q⟩
theorem SB.hfr (B : SB a pr bu fr to k md P sn wd T Ff X hA hB) (d : DJ a pr bu fr to) (ho : outS a hB h) : ∃ Φ, fa_at fr Φ h ∧ FaR (if fr = to then X.1 else Ff) Φ := by
  obtain ⟨Φ, p, q⟩ := B.2.2.2.1
  exact ⟨Φ, p.keep (fun b b1 b2 => ho b (by have := d.2.2.2.1; omega)), q⟩
theorem SB.hmd {md : Nat} (B : SB a pr bu fr to k md P sn wd T Ff X hA hB) (h2 : md ≤ 2) (hT : ∀ t, t < 542 → (T t).1 ≤ 14) (d : DJ a pr bu fr to) (ho : outS a hB h) (hS : SS S md m i X.2) : stF to md wd T X.1 X.2 S h := ⟨h2, hS.1, hS.2.1, B.hto d ho, B.2.2.2.2.1, fun z t ht hw htl => by
  have := (B.2.2.2.2.2.1 z t ht hw).2 htl
  have := hT t ht
  omega⟩
theorem comeM_0 {wd : Nat → Bool} {X : Fa × Bool} {c : Con} : comeM 0 wd X c = come wd X c := by
  unfold comeM
  rw [if_neg (by decide)]
  congr 1
  funext t
  simp
theorem comeM_ne {md : Nat} {wd : Nat → Bool} {X : Fa × Bool} {c : Con} {t : Nat} (h : t ≠ c.1) : (comeM md wd X c).1 t = X.1 t := by
  unfold comeM
  split
  · rfl
  · exact come_ne h
/-- one comes, out of a row of the Stepper's -/
theorem b_come (q kq s t : Nat) (Rq : mR) (g : Nat → Sl) (h2 : md ≤ 2) (B : SB a pr bu fr to k md P sn wd T Ff X hA hB) (hT : ∀ t, t < 542 → (T t).1 ≤ 14) (d : DJ a pr bu fr to) (hS : SS S md m i X.2) (Q : stO a pr bu fr to hB S x y nx ny ar ou be ab Wk Wy En Lo h) (hq1 : a + 4 ≤ q) (hq2 : q + 3 + kq ≤ a + 65) (hk31 : kq < 2 ^ 31) (K : ro_at q kq Rq h) (hG : isG Rq s g) (hsk : s ≤ kq) (hsc : s ≤ fa_cap t) (hc : okC T (t, s, g)) : gi_T l V y_St_come b_St_come 4 none 3 79 0 0 [.ref a, .ref (fa_row to t), .ref q, .int (bI (wd t))] n h (fun v n' h' => v = none ∧ n' = n ∧ ∃ S', SS S' md m i (comeM md wd X (t, s, g)).2 ∧ SB a pr bu fr to k md P sn wd T Ff (comeM md wd X (t, s, g)) hA h' ∧ stO a pr bu fr to h' S' x y nx ny ar ou be ab Wk Wy En Lo h') := by
  refine (s_come q kq s t Rq g Q (B.hmd h2 hT d Q.2 hS) d.2.2.1 hq1 hq2 hk31 K hG hsk hc.1 hsc hc.2.1).mono (fun v n' h' hp => ?_)
  obtain ⟨p1, p2, ⟨Φ', p3, p3'⟩, p4, p5⟩ := hp
  have hp' := B.hpr d Q.2
  have hb' := B.hbu d Q.2
  obtain ⟨Φf, hf', hf2⟩ := B.hfr d Q.2
  have d5 := d.2.2.2.2.1
  have d6 := d.2.2.2.2.2.1
  have d7 := d.2.2.2.2.2.2
  refine ⟨p1, p2, _, hS.up, ⟨hp'.keep2 (fun b b1 b2 => p5 b (by have := d.1; omega) (by omega)), hb'.keep (fun b b1 b2 => p5 b (by have := d.2.1; omega) (by omega)), ⟨Φ', p3, p3'⟩, ?_, comeM_ok B.2.2.2.2.1 hc, fun z => ?_, (B.2.2.2.2.2.2.tr (outW.s Q.2)).tr p5⟩, p4⟩
  · by_cases e : fr = to
    · subst e
      refine ⟨Φ', p3, ?_⟩
      rw [if_pos rfl]
      exact p3'
    · rw [if_neg e] at hf2 ⊢
      refine ⟨Φf, hf'.keep (fun b b1 b2 => p5 b (by have := d.2.2.2.1; omega) (by omega)), hf2⟩
  · subst z
    rw [comeM_0]
    exact chI_come B.2.2.2.2.1 hc (B.2.2.2.2.2.1 rfl)
theorem b_state {j : Nat} (B : SB a pr bu fr to k md P sn wd T Ff X hA hB) (d : DJ a pr bu fr to) (ho : outS a hB h) (hm : m < 8) (hj : j < 60) : gi_T l V y_Fa_stateAt b_Fa_stateAt 4 (some (.object "AnalysisHouse$Row")) 0 0 0 0 [.ref to, .int (nI m), .int (nI j)] n h (gi_is (some (.ref (fa_row to (60 * m + j)))) n h) := by
  obtain ⟨Φ, p, -⟩ := B.hto d ho
  exact c_Fa_stateAt hm hj p
theorem b_wide {j : Nat} (W : wfP k P) (B : SB a pr bu fr to k md P sn wd T Ff X hA hB) (d : DJ a pr bu fr to) (ho : outS a hB h) (hm : m < k) (hj : j < pN P 5 m) : gi_T l V y_Bu_isWide b_Bu_isWide 3 (some .boolean) 2 43 0 0 [.ref bu, .int (nI m), .int (nI j)] n h (gi_is (some (.int (bI (wd (60 * m + j))))) n h) := c_Bu_isWide W hm hj (B.hpr d ho) (B.hbu d ho)
theorem SB.ob (B : SB a pr bu fr to k md P sn wd T Ff X hA hB) (d : DJ a pr bu fr to) (ho : outS a hB h) : ∃ fs, h to = some (gi_O 3 fs) := by
  obtain ⟨Φ, p, -⟩ := B.hto d ho
  exact ⟨_, p.1⟩
theorem SB.ob2 (B : SB a pr bu fr to k md P sn wd T Ff X hA hB) (d : DJ a pr bu fr to) (ho : outS a hB h) : ∃ fs, h bu = some (gi_O 2 fs) := by
  obtain ⟨BS, BF, p, -⟩ := B.hbu d ho
  exact ⟨_, p.1⟩
theorem SB.ob3 (B : SB a pr bu fr to k md P sn wd T Ff X hA hB) (d : DJ a pr bu fr to) (ho : outS a hB h) : ∃ fs, h fr = some (gi_O 3 fs) := by
  obtain ⟨Φ, p, -⟩ := B.hfr d ho
  exact ⟨_, p.1⟩
end ST7
