-- needs: 89.99rme
section RMF
variable {k : Nat} {P : Pm} {sh : Nat → Option Sh} {sn : Nat → Nat} {wd : Nat → Bool} {F : Fa}
theorem cert_lenH (B : Built k P sh sn wd) {rs : Nat → Bool} {F : Fa} (hF : Hist P sh sn F) : ∀ t, t < 542 → (anewF P sn (rootsF P k rs) (anewF P sn (rootsF P k rs) F) t).told = true → bG (fun s => (anewF P sn (rootsF P k rs) (anewF P sn (rootsF P k rs) F) (480 + s)).told = true ∧ 0 ≤ hiA ((anewF P sn (rootsF P k rs) (anewF P sn (rootsF P k rs) F) (480 + s)).f 0).1) (anewF P sn (rootsF P k rs) (anewF P sn (rootsF P k rs) F) t).n (anewF P sn (rootsF P k rs) (anewF P sn (rootsF P k rs) F) t).f := by
  have A1 := anew_ok (rs := rs) B hF.ok
  have A2 := anew_ok (rs := rs) B A1.1
  have tl0 : (anewF P sn (rootsF P k rs) (anewF P sn (rootsF P k rs) F) 480).told = true ∧ 0 ≤ hiA ((anewF P sn (rootsF P k rs) (anewF P sn (rootsF P k rs) F) 480).f 0).1 := by
    have := comes_all (ty := tyF P sh) (gr := fun _ => false) (X := (bgF, false)) (cs := ctr P sn (rootsF P k rs) (anewF P sn (rootsF P k rs) F)) bg_ok (ctr_ok B A1.1)
    have n0 := this.2.2.2.2.1 480 1 (one (.inl (0, 2147483647, 1))) (by omega) (by
      have e : tyF P sh 480 = (1, 0, fun _ => false) := by unfold tyF; rw [if_neg (by omega), if_pos (by omega)]
      rw [e]
      exact ⟨rfl, fun i _ => ⟨⟨by decide, by decide, by decide, by decide, by decide, by decide⟩, rfl, Or.inl rfl⟩⟩) (by
      rw [newR_iff]
      refine ⟨rfl, ?_⟩
      rw [covR_iff]
      exact ⟨rfl, fun i _ => ⟨covA_refl _, rfl⟩⟩)
    have cv := covR_iff.mp (newR_iff.mp n0).2
    exact ⟨(newR_iff.mp n0).1, cov_hi (cv.2 0 (by have := cv.1; omega)).1 (show (0 : Int) ≤ 2147483647 by decide)⟩
  have E1 : ∀ s, eff P sh sn F s → eff P sh sn (anewF P sn (rootsF P k rs) F) s := by
    rintro s (h | ⟨q, q1, q2, q3, ⟨x, hx, hx1⟩, q4, q5⟩)
    · exact Or.inl h
    · obtain ⟨H, p, c, a1, a2, a3, a4, a5, a6, a7, a8⟩ := hF.hi q x q1 hx hx1 q4 q5
      obtain ⟨c', b1, b2, b3⟩ := outs_mono B a3 a1 hF.ok a2 a4 a5 hx hx1 c a6 a7 a8
      have tp := (a2 p (by omega) a4).1
      have n0 := A1.2 c' (mem_ctr.mpr (Or.inr ⟨p, a3, tp, b1⟩))
      rw [newR_iff] at n0
      have cv := covR_iff.mp n0.2
      have oc := (outs_all B a3 a1 a4 c a6).1
      have oc' := (outs_all B a3 hF.ok tp c' b1).1
      rw [b2] at n0 cv
      refine Or.inr ⟨q, q1, q2, q3, ⟨x, hx, hx1⟩, n0.1, ?_⟩
      have nn : c.2.1 = c'.2.1 := by rw [oc.2.1.1, oc'.2.1.1, a7, b2]
      have n1 : 1 ≤ c'.2.1 := by
        rw [oc'.2.1.1, b2]
        unfold tyF
        rw [if_pos q1, hx]
        show 1 ≤ pN P 2 (q / 60) + x.1
        omega
      rw [← cv.1]
      rw [nn] at b3
      exact cov_hi (cv.2 _ (by omega)).1 b3
  have S1 := anew_bG (rs := rs) (S := eff P sh sn (anewF P sn (rootsF P k rs) F)) B hF.ok (Or.inl rfl) E1 (fun t h1 h2 i hi => bsV_mono E1 (hF.sb t h1 h2 i hi))
  have E2 : ∀ s, eff P sh sn (anewF P sn (rootsF P k rs) F) s → (anewF P sn (rootsF P k rs) (anewF P sn (rootsF P k rs) F) (480 + s)).told = true ∧ 0 ≤ hiA ((anewF P sn (rootsF P k rs) (anewF P sn (rootsF P k rs) F) (480 + s)).f 0).1 := by
    rintro s (rfl | ⟨q, q1, q2, q3, ⟨x, hx, hx1⟩, q4, q5⟩)
    · exact tl0
    · obtain ⟨m, i, x2, y, hm, hm8, hi, hi60, -, hs, -, -, G, h60, -, -, -, ey, -⟩ := plc B q1 A1.1 q4
      rw [q3] at ey
      unfold shS at ey
      repeat (first | rw [if_pos (by omega)] at ey | rw [if_neg (by omega)] at ey)
      obtain ⟨y1, e1, rfl⟩ := Option.map_eq_some_iff.mp ey
      obtain ⟨t1, t2, t3⟩ := tkS_some e1
      have g := G_pop G t1
      have okY := ok_sp g.2.1 (by rw [g.2.2.1, t2])
      obtain ⟨z, ez, -⟩ := within_some okY (a := 0) (b := 2147483647) (has_hi okY) q5 okY.2.2.1
      have mem : ((480 + sn q, 1, one (.inl z)) : Con) ∈ outs P sn (anewF P sn (rootsF P k rs) F) q := by
        unfold outs
        simp only [q3]
        simp [ez]
      have n0 := A2.2 _ (mem_ctr.mpr (Or.inr ⟨q, q1, q4, mem⟩))
      rw [q2] at n0
      have cv := covR_iff.mp (newR_iff.mp n0).2
      have wz := within_ok okY ez
      exact ⟨(newR_iff.mp n0).1, cov_hi (cv.2 0 (Nat.lt_of_lt_of_eq Nat.one_pos cv.1)).1 (show (0 : Int) ≤ z.2.1 from Int.le_trans wz.2.1 wz.1.2.1)⟩
  have S2 := anew_bG (rs := rs) (S := eff P sh sn (anewF P sn (rootsF P k rs) F)) B A1.1 (Or.inl rfl) (fun _ h => h) S1
  exact fun t h1 h2 i hi => bsV_mono E2 (S2 t h1 h2 i hi)
theorem stU_cer (B : Built k P sh sn wd) (r : Int32) (K : Nat) : stU (cerF P sn k wd r K) := fun p hp tl j hj => by
  have hb := cer_hb B r K p (by omega) tl j hj
  have hl := cert_lenH (rs := fun m => bitA r m) B (it_hist (gr := grF wd) (rs := fun m => bitA r m) B (K + 1)) p (by omega) tl j hj
  by_cases e : ∃ s, s < 25 ∧ bitA (stA ((cerF P sn k wd r K p).f j).1) s = true
  · obtain ⟨s, s1, s2⟩ := e
    have q := hl s s1 s2
    exact .inr ⟨s, s1, s2, q.1, q.2⟩
  · refine .inl (bit_ex _ (fun s hs => ?_))
    cases e2 : bitA (stA ((cerF P sn k wd r K p).f j).1) s with
    | false => rfl
    | true =>
      exfalso
      rcases Nat.lt_or_ge s 25 with q | q
      · exact e ⟨s, q, e2⟩
      · have := hb s ⟨q, hs⟩ e2
        omega
end RMF
