-- needs: 94.pa3
section PA4
variable {l : Launch} {V : gi_V} {X n i j : Nat} {h h' : gi_H}
variable {k : Nat} {P : Pm} {sh : Nat → Option Sh} {Fz : Fa} {c : Nat} {Gs S S' : Nat → Int32} {Ga F F' : Nat → Nat → Int32} {J J' : Nat → Int64} {G : Nat → Nat → Int64} {sx : Int32}
theorem pq_lt {sn : Nat → Nat} {wd : Nat → Bool} {m q : Int32} (B : Built k P sh sn wd) (hF : okF (tyF P sh) Fz) (h : rcV k P Fz m q = true) : pq m q < 480 := by
  obtain ⟨a, b, x, a1, a2, a3, -, -, e, -⟩ := plc2 B hF h
  have := B.wf.k8
  omega
theorem upA_3 {A : Nat → Nat → Int32} {a b d : Nat → Int32} (q : Nat) (h1 : q ≠ 68) (h2 : q ≠ 69) (h3 : q ≠ 70) : upA (upA (upA A 68 a) 69 b) 70 d q = A q := (upA_ne h3).trans ((upA_ne h2).trans (upA_ne h1))
theorem gn_add {t x : Int32} (H : q_gn c Gs Ga S F) (o : okA c t x) : q_gn (c + 1) (upS Gs 0 (nI (c + 1))) (gv_add Ga c t x) (upS S 67 (nI (c + 1))) (upA (upA (upA F 68 (upd (F 68) c t)) 69 (upd (F 69) c x)) 70 (fun j => if 200 * c ≤ j ∧ j < 200 * c + 200 then 0 else F 70 j)) := by
  obtain ⟨⟨h3, h67, hA, hB⟩, hs, hL⟩ := H
  obtain ⟨c3, t0, t2, tx⟩ := o
  refine ⟨⟨by omega, rfl, fun a ha => ?_, fun a b ha hb => ?_⟩, rfl, fun a ha e => ?_⟩
  · show upd (F 68) c t a = upd (Ga 1) c t a ∧ upd (F 69) c x a = upd (Ga 2) c x a ∧ 0 ≤ upd (Ga 1) c t a
    by_cases e : a = c
    · subst e
      rw [updS, updS, updS, updS]
      exact ⟨rfl, rfl, t0⟩
    · rw [updN e, updN e, updN e, updN e]
      exact hA a (by omega)
  · show (if 200 * c ≤ 200 * a + b ∧ 200 * a + b < 200 * c + 200 then 0 else F 70 (200 * a + b)) = (if 200 * c ≤ 200 * a + b ∧ 200 * a + b < 200 * c + 200 then 0 else Ga 3 (200 * a + b))
    by_cases e : 200 * c ≤ 200 * a + b ∧ 200 * a + b < 200 * c + 200
    · rw [if_pos e, if_pos e]
    · rw [if_neg e, if_neg e]
      exact hB a b (by omega) hb
  · have e' : upd (Ga 1) c t a = 1 := e
    show ∃ z : Nat, z ≤ 200 ∧ upd (Ga 2) c x a = nI z
    by_cases q : a = c
    · subst q
      rw [updS] at e' ⊢
      obtain ⟨x0, x1⟩ := tx e'
      obtain ⟨z, z1, rfl⟩ := nn_x x0
      exact ⟨z, le_x z1 (b := 200) (by decide) x1, rfl⟩
    · rw [updN q] at e' ⊢
      exact hL a (by omega) e'
theorem ok_PQ {x y : Int32} (H : q_gn c Gs Ga S F) : okP c Ga x y ↔ okQ c F x y := by
  obtain ⟨⟨h3, h67, hA, hB⟩, hs, hL⟩ := H
  have key : 0 ≤ x ∧ x < nI c → F 68 x.toNatClampNeg = Ga 1 x.toNatClampNeg ∧ F 69 x.toNatClampNeg = Ga 2 x.toNatClampNeg := fun h => by
    obtain ⟨a, a1, rfl⟩ := nn_x h.1
    have := lt_x a1 (by omega) h.2
    rw [nI_clamp a1]
    exact ⟨(hA a this).1, (hA a this).2.1⟩
  constructor
  · rintro ⟨a, b, d, e⟩
    exact ⟨a, (key a).1.trans b, d, by rw [(key a).2]; exact e⟩
  · rintro ⟨a, b, d, e⟩
    exact ⟨a, (key a).1.symm.trans b, d, by rw [← (key a).2]; exact e⟩
theorem gn_L (H : q_gn c Gs Ga S F) : moL c F := by
  obtain ⟨⟨h3, h67, hA, hB⟩, hs, hL⟩ := H
  intro a ha e
  rw [(hA a ha).2.1]
  exact hL a ha ((hA a ha).1.symm.trans e)
theorem gn_put {x y z : Int32} (H : q_gn c Gs Ga S F) : q_gn c Gs (gv_put Ga x y z) S (upA F 70 (upd (F 70) (200 * x + y).toNatClampNeg z)) := by
  obtain ⟨⟨h3, h67, hA, hB⟩, hs, hL⟩ := H
  refine ⟨⟨h3, h67, hA, fun a b ha hb => ?_⟩, hs, hL⟩
  show upd (F 70) (200 * x + y).toNatClampNeg z (200 * a + b) = upd (Ga 3) (x * 200 + y).toNatClampNeg z (200 * a + b)
  rw [Int32.mul_comm x 200]
  by_cases e : 200 * a + b = (200 * x + y).toNatClampNeg
  · rw [e, updS, updS]
  · rw [updN e, updN e]
    exact hB a b ha hb
theorem la_run {y : Lz} {Jn : Nat → Int64} (h1 : y.2.2.1 < 8) (h2 : y.2.2.2.1 < 60) (h3 : y.1.dp ≤ 16) (e : ∀ q, q < 8 → Jn q = repJ y q) (H : enR y S J F) : q_la y.2.2.2.2.1 Jn S J F := by
  obtain ⟨⟨a1, a2, a3, a4, a5⟩, b1, b2, b3⟩ := H
  refine ⟨b3, fun x => ?_⟩
  unfold mo_ranv
  by_cases hq : 0 ≤ x ∧ x < 8
  · rw [if_pos hq]
    obtain ⟨d, d1, ed⟩ := nn_x hq.1
    subst ed
    have hi : d < 8 := lt_x d1 (b := 8) (by decide) hq.2
    have : d = 0 ∨ d = 1 ∨ d = 2 ∨ d = 3 ∨ d = 4 ∨ d = 5 ∨ d = 6 ∨ d = 7 := by omega
    rcases this with rfl | rfl | rfl | rfl | rfl | rfl | rfl | rfl
    · exact a4.trans (e 0 (by decide)).symm
    · exact (congrArg Int32.toInt64 a2).trans (e 1 (by decide)).symm
    · exact (congrArg Int32.toInt64 b1).trans (e 2 (by decide)).symm
    · have q : S 84 / 60 = nI y.2.2.1 := by
        rw [b2]
        refine (nI_dv (b := 60) (by omega) (by decide)).trans ?_
        congr 1
        omega
      exact (congrArg Int32.toInt64 q).trans (e 3 (by decide)).symm
    · have q : S 84 - S 84 / 60 * 60 = nI y.2.2.2.1 := by
        rw [b2]
        refine (nI_rm (b := 60) (by omega) (by decide)).trans ?_
        congr 1
        omega
      exact (congrArg Int32.toInt64 q).trans (e 4 (by decide)).symm
    · have q : (S 85).toInt64 = eL (y.1.dp : Int) := by
        rw [a3, eL_i, nI_toInt (by omega)]
      exact q.trans (e 5 (by decide)).symm
    · exact (congrArg Int32.toInt64 a5).trans (e 6 (by decide)).symm
    · exact (congrArg Int32.toInt64 a1).trans (e 7 (by decide)).symm
  · rw [if_neg hq]
    have nx : ∀ i : Nat, i < 8 → ¬ x = nI i := fun i hi q => hq (by
      subst q
      exact ⟨nI_le (a := 0) (by omega) (by omega), nI_lt (b := 8) hi (by omega)⟩)
    rw [if_neg (nx 0 (by omega)), if_neg (nx 1 (by omega)), if_neg (nx 2 (by omega)), if_neg (nx 3 (by omega)), if_neg (nx 4 (by omega)), if_neg (nx 5 (by omega)), if_neg (nx 6 (by omega)), if_neg (nx 7 (by omega))]
theorem rn_pl {sn : Nat → Nat} {wd : Nat → Bool} {cb : Bool} {m N : Int32} (B : Built k P sh sn wd) (hc : c ≤ 3) (hL : gvL c Ga) (K : rnK k P c Ga m N) : (rnL P sn Fz c Ga cb m N).1.2.2.1 < 8 ∧ (rnL P sn Fz c Ga cb m N).1.2.2.2.1 < 60 ∧ (rnL P sn Fz c Ga cb m N).1.1.dp ≤ 16 := by
  obtain ⟨a, ha, rfl⟩ := isM_nI B.wf.k8 K.1
  have e := nI_clamp (n := a) (by have := B.wf.k8; omega)
  have k4 := K.2.2.2
  unfold rnL
  rw [e] at k4 ⊢
  exact lop_pl B _ _ _ _ _ _ _ (beg_TS B ha hc hL k4) rn_dp (by have := B.wf.k8; omega) (by decide)
theorem pp_0 {x y z u : Int32} (hj : q_J X i h) : cj_0 l V X (X + 16927) n x y z u h (q_J X j) := by
  have hj0 : q_J X j h := hj
  obtain ⟨k, P, sh, bb, cb, cr, BS, BF, Fz, c, Gs, Ga, sx, Jj, S, J, F, G, C, hM, pg, bl, ct, gn, fl, la⟩ := hj
  obtain ⟨cX, cP, cB, ⟨Φ, cF, cR⟩, ⟨Φo, cO⟩, cS, cJ, cG, cM⟩ := id C
  have W := pg.1
  unfold cj_0
  refine ⟨fun v h1 => out10 X h h1 ∧ ((okM k x y z u ∧ v = nI k ∧ hs_ob X 0 cr h1 ∧ bu_at (X + 9) (X + 1) (upS BS 0 0) BF h1 ∧ pr_at (X + 1) (nI (k + 1)) (pr_add P k x y z u) h1) ∨ (¬ okM k x y z u ∧ v = -1 ∧ h1 = h)), gi_T.mono (c_H_method x y z u W.k8 cX cB cP) (fun r n' h' q => ?_), fun v h1 q => ?_⟩
  · obtain ⟨rfl, ho, ⟨hok, rfl, q1, q2, q3⟩ | ⟨hok, rfl, rfl⟩⟩ := q
    · exact ⟨rfl, _, rfl, ho, .inl ⟨hok, rfl, q1, q2, q3⟩⟩
    · exact ⟨rfl, _, rfl, ho, .inr ⟨hok, rfl, rfl⟩⟩
  · obtain ⟨ho, q⟩ := q
    have hM1 : mo_at (X + 16927) S J F G h1 := hM.keep (fun b b1 b2 => ho b (by omega))
    refine ⟨mo_ob hM1, gi_T.mono (c_Mo_method x y z u W.k8 pg.2.2 hM1) (fun r n' h' w => ?_)⟩
    obtain ⟨rfl, ho2, ⟨hok, rfl, hM2⟩ | ⟨hok, rfl, rfl⟩⟩ := w
    · rcases q with ⟨hv, rfl, q1, q2, q3⟩ | ⟨hv, rfl, rfl⟩
      · exact ⟨rfl, rfl, k + 1, pr_add P k x y z u, sh, false, false, cr, upS BS 0 0, BF, Fz, c, Gs, Ga, sx, Jj, _, _, _, _, (C.k10 (cb' := false) ho q1 q2 q3).kM ho2, hM2, ⟨wf_add W hok, prF_add pg.2.1, nI_a1 k⟩, ⟨rfl, rfl, fun e => by cases e⟩, ⟨rfl, ct.2.1, fun e => by cases e⟩, gn.co rfl rfl rfl rfl, fl.co rfl rfl rfl rfl rfl, la.co (fun q hq => by show upS (upS (upS S 0 _) 8 0) 9 0 q = S q; unfold upS; rw [if_neg (by omega), if_neg (by omega), if_neg (by omega)]) rfl rfl⟩
      · exact absurd hok hv
    · rcases q with ⟨hv, rfl, q1, q2, q3⟩ | ⟨hv, rfl, rfl⟩
      · exact absurd hv hok
      · exact ⟨rfl, rfl, hj0⟩
theorem pp_1 {x y z : Int32} (hj : q_J X i h) : cj_1 l V X (X + 16927) n x y z h (q_J X j) := by
  have hj0 : q_J X j h := hj
  obtain ⟨k, P, sh, bb, cb, cr, BS, BF, Fz, c, Gs, Ga, sx, Jj, S, J, F, G, C, hM, pg, bl, ct, gn, fl, la⟩ := hj
  obtain ⟨cX, cP, cB, ⟨Φ, cF, cR⟩, ⟨Φo, cO⟩, cS, cJ, cG, cM⟩ := id C
  have W := pg.1
  unfold cj_1
  refine ⟨fun v h1 => out10 X h h1 ∧ ((∃ a q : Nat, a < k ∧ x = nI a ∧ q < 60 ∧ P 5 a = nI q ∧ 0 ≤ y ∧ y ≤ 35 ∧ v = nI q ∧ hs_ob X 0 cr h1 ∧ bu_at (X + 9) (X + 1) (upS BS 0 0) BF h1 ∧ pr_at (X + 1) (nI k) (pr_ins P a q y z) h1) ∨ ((isM k x = false ∨ y < 0 ∨ 35 < y ∨ P 5 x.toNatClampNeg = 60) ∧ v = -1 ∧ h1 = h)), gi_T.mono (c_H_code x y z W.k8 cX cB cP (wf_L W)) (fun r n' h' q => ?_), fun v h1 q => ?_⟩
  · obtain ⟨rfl, ho, ⟨a, q, a1, a2, a3, a4, a5, a6, rfl, q1, q2, q3⟩ | ⟨hok, rfl, rfl⟩⟩ := q
    · exact ⟨rfl, _, rfl, ho, .inl ⟨a, q, a1, a2, a3, a4, a5, a6, rfl, q1, q2, q3⟩⟩
    · exact ⟨rfl, _, rfl, ho, .inr ⟨hok, rfl, rfl⟩⟩
  · obtain ⟨ho, q⟩ := q
    have hM1 : mo_at (X + 16927) S J F G h1 := hM.keep (fun b b1 b2 => ho b (by omega))
    have e5 : F 5 = P 5 := pg.2.1 5 (by decide) (by decide)
    have k8 := W.k8
    refine ⟨mo_ob hM1, gi_T.mono (c_Mo_code x y z W.k8 pg.2.2 (fun a ha => by rw [e5]; exact wf_L W a ha) hM1) (fun r n' h' w => ?_)⟩
    obtain ⟨rfl, ho2, ⟨a, q', a1, a2, a3, a4, a5, a6, rfl, hM2⟩ | ⟨hok, rfl, rfl⟩⟩ := w
    · rcases q with ⟨b, q, b1, b2, b3, b4, b5, b6, rfl, q1, q2, q3⟩ | ⟨hv, rfl, rfl⟩
      · have ea : a = b := eq_x (by omega) (by omega) (a2.symm.trans b2)
        subst ea
        have eq : q' = q := eq_x (by omega) (by omega) (a4.symm.trans ((congrFun e5 a).trans b4))
        subst eq
        exact ⟨rfl, rfl, k, pr_ins P a q' y z, sh, false, false, cr, upS BS 0 0, BF, Fz, c, Gs, Ga, sx, Jj, _, _, _, _, (C.k10 (cb' := false) ho q1 q2 q3).kM ho2, hM2, ⟨wf_ins W b1 b3 b4 b5 b6, prF_ins pg.2.1, pg.2.2⟩, ⟨rfl, rfl, fun e => by cases e⟩, ⟨rfl, ct.2.1, fun e => by cases e⟩, gn.co rfl rfl rfl rfl, fl.co rfl rfl rfl rfl rfl, la.co (fun q hq => by show upS (upS S 8 0) 9 0 q = S q; unfold upS; rw [if_neg (by omega), if_neg (by omega)]) rfl rfl⟩
      · exact (code_no W.k8 hv a1 a2 a3 ((congrFun e5 a).symm.trans a4) a5 a6).elim
    · rcases q with ⟨b, q, b1, b2, b3, b4, b5, b6, rfl, q1, q2, q3⟩ | ⟨hv, rfl, rfl⟩
      · rw [e5] at hok
        exact (code_no W.k8 hok b1 b2 b3 b4 b5 b6).elim
      · exact ⟨rfl, rfl, hj0⟩
theorem pp_2 {x : Int32} (hj : q_J X i h) : cj_2 l V X (X + 16927) n x h (q_J X j) := by
  have hj0 : q_J X j h := hj
  obtain ⟨k, P, sh, bb, cb, cr, BS, BF, Fz, c, Gs, Ga, sx, Jj, S, J, F, G, C, hM, pg, bl, ct, gn, fl, la⟩ := hj
  obtain ⟨cX, cP, cB, ⟨Φ, cF, cR⟩, ⟨Φo, cO⟩, cS, cJ, cG, cM⟩ := id C
  have W := pg.1
  unfold cj_2
  refine ⟨fun v h1 => out10 X h h1 ∧ ((∃ a : Nat, a < k ∧ x = nI a ∧ v = P 5 a ∧ hs_ob X 0 cr h1 ∧ bu_at (X + 9) (X + 1) (upS BS 0 0) BF h1 ∧ pr_at (X + 1) (nI k) (pr_wip P a) h1) ∨ (isM k x = false ∧ v = -1 ∧ h1 = h)), gi_T.mono (c_H_wipe x W.k8 cX cB cP (wf_L W)) (fun r n' h' q => ?_), fun v h1 q => ?_⟩
  · obtain ⟨rfl, ho, ⟨a, a1, a2, rfl, q1, q2, q3⟩ | ⟨hok, rfl, rfl⟩⟩ := q
    · exact ⟨rfl, _, rfl, ho, .inl ⟨a, a1, a2, rfl, q1, q2, q3⟩⟩
    · exact ⟨rfl, _, rfl, ho, .inr ⟨hok, rfl, rfl⟩⟩
  · obtain ⟨ho, q⟩ := q
    have hM1 : mo_at (X + 16927) S J F G h1 := hM.keep (fun b b1 b2 => ho b (by omega))
    have e5 : F 5 = P 5 := pg.2.1 5 (by decide) (by decide)
    have k8 := W.k8
    refine ⟨mo_ob hM1, gi_T.mono (c_Mo_wipe x W.k8 pg.2.2 hM1) (fun r n' h' w => ?_)⟩
    obtain ⟨rfl, ho2, ⟨a, a1, a2, rfl, hM2⟩ | ⟨hok, rfl, rfl⟩⟩ := w
    · rcases q with ⟨b, b1, b2, rfl, q1, q2, q3⟩ | ⟨hv, rfl, rfl⟩
      · have ea : a = b := eq_x (by omega) (by omega) (a2.symm.trans b2)
        subst ea
        exact ⟨rfl, by rw [e5], k, pr_wip P a, sh, false, false, cr, upS BS 0 0, BF, Fz, c, Gs, Ga, sx, Jj, _, _, _, _, (C.k10 (cb' := false) ho q1 q2 q3).kM ho2, hM2, ⟨wf_wip W, prF_wip pg.2.1, pg.2.2⟩, ⟨rfl, rfl, fun e => by cases e⟩, ⟨rfl, ct.2.1, fun e => by cases e⟩, gn.co rfl rfl rfl rfl, fl.co rfl rfl rfl rfl rfl, la.co (fun q hq => by show upS (upS S 8 0) 9 0 q = S q; unfold upS; rw [if_neg (by omega), if_neg (by omega)]) rfl rfl⟩
      · rw [a2, isM_y W.k8 a1] at hv
        cases hv
    · rcases q with ⟨b, b1, b2, rfl, q1, q2, q3⟩ | ⟨hv, rfl, rfl⟩
      · rw [b2, isM_y W.k8 b1] at hok
        cases hok
      · exact ⟨rfl, rfl, hj0⟩
theorem pp_3 (hj : q_J X i h) : cj_3 l V X (X + 16927) n  h (q_J X j) := by
  have hj0 : q_J X j h := hj
  obtain ⟨k, P, sh, bb, cb, cr, BS, BF, Fz, c, Gs, Ga, sx, Jj, S, J, F, G, C, hM, pg, bl, ct, gn, fl, la⟩ := hj
  obtain ⟨cX, cP, cB, ⟨Φ, cF, cR⟩, ⟨Φo, cO⟩, cS, cJ, cG, cM⟩ := id C
  have W := pg.1
  unfold cj_3
  refine ⟨fun v h1 => hs_ob X 0 cr h1 ∧ (∀ b, b ≠ X → (b < X + 9 ∨ X + 17 ≤ b) → h1 b = h b) ∧ ∃ S' B', bu_at (X + 9) (X + 1) S' B' h1 ∧ ((∃ e, bldF k P = .inl e ∧ fltS S' e ∧ S' 0 = 0 ∧ v = -(nI e.1)) ∨ (∃ sh, bdI k P sh S' B' ∧ S' 2 = 0 ∧ v = nI (1 + sct k P sh 480))), gi_T.mono (c_H_build W cX cP cB) (fun r n' h' q => ?_), fun v h1 q => ?_⟩
  · obtain ⟨rfl, q1, ho, S', B', q2, ⟨e, e1, e2, e3, rfl⟩ | ⟨s, s1, s2, rfl⟩⟩ := q
    · exact ⟨rfl, _, rfl, q1, ho, S', B', q2, .inl ⟨e, e1, e2, e3, rfl⟩⟩
    · exact ⟨rfl, _, rfl, q1, ho, S', B', q2, .inr ⟨s, s1, s2, rfl⟩⟩
  · obtain ⟨q1, ho, BS', BF', q2, q⟩ := q
    have hM1 : mo_at (X + 16927) S J F G h1 := hM.keep (fun b b1 b2 => ho b (by omega) (by omega))
    refine ⟨mo_ob hM1, gi_T.mono (c_Mo_build W pg.2.2 pg.2.1 hM1) (fun r n' h' w => ?_)⟩
    obtain ⟨rfl, S', F', hM2, ho2, fv, fu, f9, w⟩ := w
    have C2 := (C.kB (cb' := false) ho q1 q2).kM ho2
    have pg2 : q_pg k P S' F' := pg.co (fu 0 (by decide) (by decide) (by decide) (by decide) (by decide) (by decide) (by decide) (by decide)) (fun q hq => fv q (by omega))
    have gn2 : q_gn c Gs Ga S' F' := gn.co (fu 67 (by decide) (by decide) (by decide) (by decide) (by decide) (by decide) (by decide) (by decide)) (fv 68 (by decide)) (fv 69 (by decide)) (fv 70 (by decide))
    have la2 : q_la sx Jj S' J F' := la.co (fun q hq => fu q (by omega) (by omega) (by omega) (by omega) (by omega) (by omega) (by omega) (by omega)) rfl (fv 77 (by decide))
    rcases w with ⟨e, e1, rfl, e8, e10, e11⟩ | ⟨s, s1, rfl, e8, e10, e11⟩
    · rcases q with ⟨d, d1, ⟨d2, d3, d4, d5, d6⟩, d7, rfl⟩ | ⟨s, s1, -, -⟩
      · rw [e1] at d1
        cases d1
        refine ⟨rfl, rfl, k, P, sh, false, false, cr, BS', BF', Fz, c, Gs, Ga, sx, Jj, _, _, _, _, C2, hM2, pg2, ⟨d7, e8, fun e => by cases e⟩, ⟨f9, ct.2.1, fun e => by cases e⟩, gn2, ⟨fun q => ?_, fun _ => ⟨e10.trans d3.symm, e11.trans d4.symm⟩⟩, la2⟩
        rw [d2] at q
        exact absurd (eq_x (b := 0) (by omega) (by decide) q) d5
      · have := s1.1
        rw [e1] at this
        cases this
    · rcases q with ⟨d, d1, -⟩ | ⟨t, t1, t2, rfl⟩
      · have := s1.1
        rw [d1] at this
        cases this
      · have e2 := s1.1
        rw [t1.1] at e2
        cases e2
        exact ⟨rfl, rfl, k, P, s, true, false, cr, BS', BF', Fz, c, Gs, Ga, sx, Jj, _, _, _, _, C2, hM2, pg2, ⟨t1.2.1, e8, fun _ => ⟨t1, s1⟩⟩, ⟨f9, ct.2.1, fun e => by cases e⟩, gn2, ⟨fun _ => ⟨e10, e11⟩, fun q => absurd t2 q⟩, la2⟩
theorem pp_5 {x : Int32} (hj : q_J X i h) : cj_5 l V X (X + 16927) n x h (q_J X j) := by
  have hj0 : q_J X j h := hj
  obtain ⟨k, P, sh, bb, cb, cr, BS, BF, Fz, c, Gs, Ga, sx, Jj, S, J, F, G, C, hM, pg, bl, ct, gn, fl, la⟩ := hj
  obtain ⟨cX, cP, cB, ⟨Φ, cF, cR⟩, ⟨Φo, cO⟩, cS, cJ, cG, cM⟩ := id C
  have W := pg.1
  unfold cj_5
  cases bb
  · exact pq_i (c_H_analyze_no x cX cB bl.1) (c_Mo_analyze_no x bl.2.1 hM) rfl (mo_ob hM) hj0
  · obtain ⟨bd, mb⟩ := bl.2.2 rfl
    have B := bdI.bt W bd
    by_cases hr : rtOk k x
    · obtain ⟨K, hK⟩ := psK_ex B x
      refine ⟨fun v h1 => v = nI (K + 1) ∧ q_cl X k P true x BS BF (cerF P (siN k P sh) k (wdF k P) x K) Gs Ga sx Jj h1 ∧ mo_at (X + 16927) S J F G h1, gi_T.mono (c_H_analyze hK hr B cX cP (bdI.w W bd cB) ⟨BS, BF, cB, bl.1⟩ ⟨Φ, cF⟩ ⟨Φo, cO⟩ cS) (fun r n' h' q => ?_), fun v h1 q => ?_⟩
      · obtain ⟨rfl, rfl, q1, q2, q3, q4, q5⟩ := q
        exact ⟨rfl, _, rfl, rfl, C.kA (cb' := true) q5 q1 q2 q3 q4, hM.keep (fun b b1 b2 => q5 b (by omega) (by omega))⟩
      · obtain ⟨rfl, C1, hM1⟩ := q
        refine ⟨mo_ob hM1, gi_T.mono (c_Mo_analyze B (q_pgR pg mb) bl.2.1 hr hK hM1) (fun r n' h' q => ?_)⟩
        obtain ⟨rfl, rfl, S', J', F', G', hM2, ho, fr, f9, f46, f0⟩ := q
        exact ⟨rfl, rfl, k, P, sh, true, true, x, BS, BF, _, c, Gs, Ga, sx, Jj, S', J', F', G', C1.kM ho, hM2, pg.co (fr.1 0 (by decide)) (fun q hq => fr.2.2.1 q (by omega)), bl.co (fr.1 8 (by decide)) (fr.1 18 (by decide)) (fun q hq => fr.2.2.1 q (.inl hq)), ⟨f9, rowS_ok (rd_cer B x K).1, fun _ => ⟨rfl, f46, f0, rd_cer B x K, stU_cer B x K, crO_cer B x K⟩⟩, gn.co (fr.1 67 (by decide)) (fr.2.2.1 68 (by decide)) (fr.2.2.1 69 (by decide)) (fr.2.2.1 70 (by decide)), fl.co rfl rfl rfl (fr.1 10 (by decide)) (fr.1 11 (by decide)), la.co (fun q hq => fr.1 q (by omega)) (fr.2.1 86 (by decide)) (fr.2.2.1 77 (by decide))⟩
    · exact pq_i (c_H_analyze_bad hr cX cP ⟨BS, BF, cB⟩) (c_Mo_analyze_bad pg.2.2 hr hM) rfl (mo_ob hM) hj0
theorem pp_13 {x y z u t : Int32} (hj : q_J X i h) : cj_13 l V X (X + 16927) n x y z u t h (q_J X j) := by
  have hj0 : q_J X j h := hj
  obtain ⟨k, P, sh, bb, cb, cr, BS, BF, Fz, c, Gs, Ga, sx, Jj, S, J, F, G, C, hM, pg, bl, ct, gn, fl, la⟩ := hj
  obtain ⟨cX, cP, cB, ⟨Φ, cF, cR⟩, ⟨Φo, cO⟩, cS, cJ, cG, cM⟩ := id C
  have W := pg.1
  unfold cj_13
  cases cb
  · exact pq_i (c_H_plant_no x y z u t cX) (c_Mo_plant_no x y z u t ct.1 hM) rfl (mo_ob hM) hj0
  · skip
    obtain ⟨rfl, h46, h0, hR, hU, hO⟩ := ct.2.2 rfl
    obtain ⟨bd, mb⟩ := bl.2.2 rfl
    have B := bdI.bt W bd
    have pr := q_pgR pg mb
    refine ⟨fun v h1 => (plJ k P Fz x y z u t = none ∧ v = 0 ∧ h1 = h) ∨ (∃ a, plJ k P Fz x y z u t = some a ∧ v = 1 ∧ q_cl X k P true cr BS BF (pltF Fz (pq x y) a u t) Gs Ga sx Jj h1 ∧ mo_at (X + 16927) S J F G h1), gi_T.mono (c_H_plant x y z u t W ⟨cX, cP, cF, cR⟩) (fun r n' h' q => ?_), fun v h1 q => ?_⟩
    · obtain ⟨rfl, ⟨e, rfl, rfl⟩ | ⟨a, e, rfl, ⟨Φ', w1, w2, w3, w4⟩, ho⟩⟩ := q
      · exact ⟨rfl, _, rfl, .inl ⟨e, rfl, rfl⟩⟩
      · exact ⟨rfl, _, rfl, .inr ⟨a, e, rfl, C.kA (cb' := true) (fun b b1 b2 => ho b (by omega)) w1 ⟨Φ', w3, w4⟩ ⟨Φo, cO.keep (fun b b1 b2 => ho b (by omega))⟩ (cS.keep (fun b b1 b2 => ho b (by omega))), hM.keep (fun b b1 b2 => ho b (by omega))⟩⟩
    · rcases q with ⟨e, rfl, rfl⟩ | ⟨a, e, rfl, C1, hM1⟩
      · refine ⟨mo_ob hM, gi_T.mono (c_Mo_plant x y z u t B pr ct.1 h0 hR.1 hM) (fun r n' h' q => ?_)⟩
        obtain ⟨rfl, ⟨-, rfl, rfl⟩ | ⟨a, e2, -⟩⟩ := q
        · exact ⟨rfl, rfl, hj0⟩
        · rw [e] at e2
          cases e2
      · refine ⟨mo_ob hM1, gi_T.mono (c_Mo_plant x y z u t B pr ct.1 h0 hR.1 hM1) (fun r n' h' q => ?_)⟩
        obtain ⟨rfl, ⟨e2, -⟩ | ⟨a2, e2, rfl, F', G', hM2, ho, f1, f2, f0⟩⟩ := q
        · rw [e] at e2
          cases e2
        · rw [e] at e2
          cases e2
          obtain ⟨td, ta, tl⟩ := plJ_is e
          have hp := pq_lt B hR.1 (tdx_in B hR.1 td).1
          have hR2 := rd_plt hR hp ta tl
          exact ⟨rfl, rfl, k, P, sh, true, true, cr, BS, BF, _, c, Gs, Ga, sx, Jj, S, J, F', G', C1.kM ho, hM2, pg.co rfl (fun q hq => f1 q (by omega)), bl.co rfl rfl (fun q hq => f1 q (.inl hq)), ⟨ct.1, rowS_ok hR2.1, fun _ => ⟨rfl, h46, f0, hR2, stU_plt hU hp, crO_up hO hp⟩⟩, gn.co rfl (f1 68 (by decide)) (f1 69 (by decide)) (f1 70 (by decide)), fl, la.co (fun _ _ => rfl) rfl (f1 77 (by decide))⟩
theorem pp_14 {x y : Int32} (hj : q_J X i h) : cj_14 l V X (X + 16927) n x y h (q_J X j) := by
  have hj0 : q_J X j h := hj
  obtain ⟨k, P, sh, bb, cb, cr, BS, BF, Fz, c, Gs, Ga, sx, Jj, S, J, F, G, C, hM, pg, bl, ct, gn, fl, la⟩ := hj
  obtain ⟨cX, cP, cB, ⟨Φ, cF, cR⟩, ⟨Φo, cO⟩, cS, cJ, cG, cM⟩ := id C
  have W := pg.1
  unfold cj_14
  cases cb
  · exact pq_i (c_H_forgetState_no x y cX) (c_Mo_forgetState_no x y ct.1 hM) rfl (mo_ob hM) hj0
  · skip
    obtain ⟨rfl, h46, h0, hR, hU, hO⟩ := ct.2.2 rfl
    obtain ⟨bd, mb⟩ := bl.2.2 rfl
    have B := bdI.bt W bd
    have pr := q_pgR pg mb
    refine ⟨fun v h1 => v = bI (rcV k P Fz x y) ∧ ((rcV k P Fz x y = false ∧ h1 = h) ∨ (rcV k P Fz x y = true ∧ q_cl X k P true cr BS BF (fgtF Fz (pq x y)) Gs Ga sx Jj h1 ∧ mo_at (X + 16927) S J F G h1)), gi_T.mono (c_H_forgetState x y W ⟨cX, cP, cF, cR⟩) (fun r n' h' q => ?_), fun v h1 q => ?_⟩
    · obtain ⟨rfl, rfl, ⟨e, rfl⟩ | ⟨e, ⟨Φ', w1, w2, w3, w4⟩, ho⟩⟩ := q
      · exact ⟨rfl, _, rfl, rfl, .inl ⟨e, rfl⟩⟩
      · exact ⟨rfl, _, rfl, rfl, .inr ⟨e, C.kA (cb' := true) (fun b b1 b2 => ho b (by omega)) w1 ⟨Φ', w3, w4⟩ ⟨Φo, cO.keep (fun b b1 b2 => ho b (by omega))⟩ (cS.keep (fun b b1 b2 => ho b (by omega))), hM.keep (fun b b1 b2 => ho b (by omega))⟩⟩
    · obtain ⟨rfl, q⟩ := q
      rcases q with ⟨e, rfl⟩ | ⟨e, C1, hM1⟩
      · refine ⟨mo_ob hM, gi_T.mono (c_Mo_forgetState x y B pr ct.1 h0 hR.1 hM) (fun r n' h' q => ?_)⟩
        obtain ⟨rfl, rfl, ⟨-, rfl⟩ | ⟨e2, -⟩⟩ := q
        · exact ⟨rfl, rfl, hj0⟩
        · rw [e] at e2
          cases e2
      · refine ⟨mo_ob hM1, gi_T.mono (c_Mo_forgetState x y B pr ct.1 h0 hR.1 hM1) (fun r n' h' q => ?_)⟩
        obtain ⟨rfl, rfl, ⟨e2, -⟩ | ⟨-, F', G', hM2, ho, f1, f2, f0⟩⟩ := q
        · rw [e] at e2
          cases e2
        · have hp := pq_lt B hR.1 e
          have hR2 := rd_fgt hR hp
          exact ⟨rfl, rfl, k, P, sh, true, true, cr, BS, BF, _, c, Gs, Ga, sx, Jj, S, J, F', G', C1.kM ho, hM2, pg.co rfl (fun q hq => f1 q (by omega)), bl.co rfl rfl (fun q hq => f1 q (.inl hq)), ⟨ct.1, rowS_ok hR2.1, fun _ => ⟨rfl, h46, f0, hR2, stU_fgt hU hp, crO_up hO hp⟩⟩, gn.co rfl (f1 68 (by decide)) (f1 69 (by decide)) (f1 70 (by decide)), fl, la.co (fun _ _ => rfl) rfl (f1 77 (by decide))⟩
theorem pp_15 (hj : q_J X i h) : cj_15 l V X (X + 16927) n  h (q_J X j) := by
  have hj0 : q_J X j h := hj
  obtain ⟨k, P, sh, bb, cb, cr, BS, BF, Fz, c, Gs, Ga, sx, Jj, S, J, F, G, C, hM, pg, bl, ct, gn, fl, la⟩ := hj
  obtain ⟨cX, cP, cB, ⟨Φ, cF, cR⟩, ⟨Φo, cO⟩, cS, cJ, cG, cM⟩ := id C
  have W := pg.1
  unfold cj_15
  cases cb
  · exact pq_i (c_H_check_no cX) (c_Mo_check_no ct.1 hM) rfl (mo_ob hM) hj0
  · skip
    obtain ⟨rfl, h46, h0, hR, hU, hO⟩ := ct.2.2 rfl
    obtain ⟨bd, mb⟩ := bl.2.2 rfl
    have B := bdI.bt W bd
    have pr := q_pgR pg mb
    refine ⟨fun v h1 => chkV k P (siN k P sh) Fz cr v ∧ q_cl X k P true cr BS BF Fz Gs Ga sx Jj h1 ∧ mo_at (X + 16927) S J F G h1, gi_T.mono (c_H_check B cX cP (bdI.w W bd cB) ⟨Φ, cF, cR⟩ hR cS) (fun r n' h' q => ?_), fun v h1 q => ?_⟩
    · obtain ⟨⟨x, rfl, q1⟩, rfl, q2, q3, q4⟩ := q
      exact ⟨rfl, x, rfl, q1, C.kA (cb' := true) (fun b b1 b2 => q4 b (by omega) (by omega)) (hs_keep cX (q4 X (by omega) (by omega))) q2 ⟨Φo, cO.keep (fun b b1 b2 => q4 b (by omega) (by omega))⟩ q3, hM.keep (fun b b1 b2 => q4 b (by omega) (by omega))⟩
    · obtain ⟨q1, C1, hM1⟩ := q
      refine ⟨mo_ob hM1, gi_T.mono (c_Mo_check B pr ct.1 h46 h0 hR hM1) (fun r n' h' q => ?_)⟩
      obtain ⟨⟨x, rfl, q2⟩, rfl, S', J', F', G', hM2, ho, fr, f46, f9, f0⟩ := q
      have ev := chk_uq q1 q2
      subst ev
      exact ⟨rfl, rfl, k, P, sh, true, true, cr, BS, BF, Fz, c, Gs, Ga, sx, Jj, S', J', F', G', C1.kM ho, hM2, pg.co (fr.1 0 (by decide)) (fun q hq => fr.2.2.1 q (by omega)), bl.co (fr.1 8 (by decide)) (fr.1 18 (by decide)) (fun q hq => fr.2.2.1 q (.inl hq)), ⟨f9.trans ct.1, ct.2.1, fun _ => ⟨rfl, f46, f0, hR, hU, hO⟩⟩, gn.co (fr.1 67 (by decide)) (fr.2.2.1 68 (by decide)) (fr.2.2.1 69 (by decide)) (fr.2.2.1 70 (by decide)), fl.co rfl rfl rfl (fr.1 10 (by decide)) (fr.1 11 (by decide)), la.co (fun q hq => fr.1 q (by omega)) (fr.2.1 86 (by decide)) (fr.2.2.1 77 (by decide))⟩
theorem pp_16 {x y : Int32} (hj : q_J X i h) : cj_16 l V X (X + 16927) n x y h (q_J X j) := by
  have hj0 : q_J X j h := hj
  obtain ⟨k, P, sh, bb, cb, cr, BS, BF, Fz, c, Gs, Ga, sx, Jj, S, J, F, G, C, hM, pg, bl, ct, gn, fl, la⟩ := hj
  obtain ⟨cX, cP, cB, ⟨Φ, cF, cR⟩, ⟨Φo, cO⟩, cS, cJ, cG, cM⟩ := id C
  have W := pg.1
  unfold cj_16
  refine ⟨fun v h1 => out4 (X + 16911) h h1 ∧ ((okA c x y ∧ v = nI (c + 1) ∧ gv_at (X + 16911) (upS Gs 0 (nI (c + 1))) (gv_add Ga c x y) h1) ∨ (¬ okA c x y ∧ v = -1 ∧ h1 = h)), gi_T.mono (c_H_argument x y gn.1.1 gn.2.1 cX cG) (fun r n' h' q => ?_), fun v h1 q => ?_⟩
  · obtain ⟨rfl, ho, ⟨hok, rfl, q1⟩ | ⟨hok, rfl, rfl⟩⟩ := q
    · exact ⟨rfl, _, rfl, ho, .inl ⟨hok, rfl, q1⟩⟩
    · exact ⟨rfl, _, rfl, ho, .inr ⟨hok, rfl, rfl⟩⟩
  · obtain ⟨ho, q⟩ := q
    have hM1 : mo_at (X + 16927) S J F G h1 := hM.keep (fun b b1 b2 => ho b (by omega))
    refine ⟨mo_ob hM1, gi_T.mono (c_Mo_argument x y gn.1.1 gn.1.2.1 hM1) (fun r n' h' w => ?_)⟩
    obtain ⟨rfl, ho2, ⟨hok, rfl, hM2⟩ | ⟨hok, rfl, rfl⟩⟩ := w
    · rcases q with ⟨hv, rfl, q1⟩ | ⟨hv, rfl, rfl⟩
      · exact ⟨rfl, rfl, k, P, sh, bb, cb, cr, BS, BF, Fz, c + 1, _, _, sx, Jj, _, _, _, _, (C.kG ho q1).kM ho2, hM2, pg.co rfl (fun q hq => upA_3 q (by omega) (by omega) (by omega)), bl.co rfl rfl (fun q hq => upA_3 q (by omega) (by omega) (by omega)), ct.co rfl rfl (fun q hq => upA_3 q (by omega) (by omega) (by omega)), gn_add gn hok, fl.co rfl rfl rfl rfl rfl, la.co (fun q hq => if_neg (by omega)) rfl (upA_3 77 (by decide) (by decide) (by decide))⟩
      · exact absurd hok hv
    · rcases q with ⟨hv, rfl, q1⟩ | ⟨hv, rfl, rfl⟩
      · exact absurd hv hok
      · exact ⟨rfl, rfl, hj0⟩
theorem pp_17 {x y z : Int32} (hj : q_J X i h) : cj_17 l V X (X + 16927) n x y z h (q_J X j) := by
  have hj0 : q_J X j h := hj
  obtain ⟨k, P, sh, bb, cb, cr, BS, BF, Fz, c, Gs, Ga, sx, Jj, S, J, F, G, C, hM, pg, bl, ct, gn, fl, la⟩ := hj
  obtain ⟨cX, cP, cB, ⟨Φ, cF, cR⟩, ⟨Φo, cO⟩, cS, cJ, cG, cM⟩ := id C
  have W := pg.1
  unfold cj_17
  refine ⟨fun v h1 => out4 (X + 16911) h h1 ∧ ((okP c Ga x y ∧ v = 1 ∧ gv_at (X + 16911) Gs (gv_put Ga x y z) h1) ∨ (¬ okP c Ga x y ∧ v = -1 ∧ h1 = h)), gi_T.mono (c_H_fill x y z gn.1.1 gn.2.1 cX cG gn.2.2) (fun r n' h' q => ?_), fun v h1 q => ?_⟩
  · obtain ⟨rfl, ho, ⟨hok, rfl, q1⟩ | ⟨hok, rfl, rfl⟩⟩ := q
    · exact ⟨rfl, _, rfl, ho, .inl ⟨hok, rfl, q1⟩⟩
    · exact ⟨rfl, _, rfl, ho, .inr ⟨hok, rfl, rfl⟩⟩
  · obtain ⟨ho, q⟩ := q
    have hM1 : mo_at (X + 16927) S J F G h1 := hM.keep (fun b b1 b2 => ho b (by omega))
    refine ⟨mo_ob hM1, gi_T.mono (c_Mo_fill x y z gn.1.1 gn.1.2.1 (gn_L gn) hM1) (fun r n' h' w => ?_)⟩
    obtain ⟨rfl, ho2, ⟨hok, rfl, hM2⟩ | ⟨hok, rfl, rfl⟩⟩ := w
    · rcases q with ⟨hv, rfl, q1⟩ | ⟨hv, rfl, rfl⟩
      · exact ⟨rfl, rfl, k, P, sh, bb, cb, cr, BS, BF, Fz, c, _, _, sx, Jj, _, _, _, _, (C.kG ho q1).kM ho2, hM2, pg.co rfl (fun q hq => upA_ne (by omega)), bl.co rfl rfl (fun q hq => upA_ne (by omega)), ct.co rfl rfl (fun q hq => upA_ne (by omega)), gn_put gn, fl, la.co (fun _ _ => rfl) rfl (upA_ne (by decide))⟩
      · exact absurd ((ok_PQ gn).mpr hok) hv
    · rcases q with ⟨hv, rfl, q1⟩ | ⟨hv, rfl, rfl⟩
      · exact absurd ((ok_PQ gn).mp hv) hok
      · exact ⟨rfl, rfl, hj0⟩
theorem pp_18 (hj : q_J X i h) : cj_18 l V X (X + 16927) n  h (q_J X j) := by
  have hj0 : q_J X j h := hj
  obtain ⟨k, P, sh, bb, cb, cr, BS, BF, Fz, c, Gs, Ga, sx, Jj, S, J, F, G, C, hM, pg, bl, ct, gn, fl, la⟩ := hj
  obtain ⟨cX, cP, cB, ⟨Φ, cF, cR⟩, ⟨Φo, cO⟩, cS, cJ, cG, cM⟩ := id C
  have W := pg.1
  unfold cj_18
  refine ⟨fun v h1 => out4 (X + 16911) h h1 ∧ v = Gs 0 ∧ gv_at (X + 16911) (upS Gs 0 0) Ga h1, gi_T.mono (c_H_forget cX cG) (fun r n' h' q => ?_), fun v h1 q => ?_⟩
  · obtain ⟨rfl, ho, rfl, q1⟩ := q
    exact ⟨rfl, _, rfl, ho, rfl, q1⟩
  · obtain ⟨ho, rfl, q1⟩ := q
    have hM1 : mo_at (X + 16927) S J F G h1 := hM.keep (fun b b1 b2 => ho b (by omega))
    refine ⟨mo_ob hM1, gi_T.mono (c_Mo_forget hM1) (fun r n' h' w => ?_)⟩
    obtain ⟨rfl, ho2, rfl, hM2⟩ := w
    exact ⟨rfl, by rw [gn.1.2.1, gn.2.1], k, P, sh, bb, cb, cr, BS, BF, Fz, 0, _, _, sx, Jj, _, _, _, _, (C.kG ho q1).kM ho2, hM2, pg.co rfl (fun _ _ => rfl), bl.co rfl rfl (fun _ _ => rfl), ct.co rfl rfl (fun _ _ => rfl), ⟨⟨by decide, rfl, fun a ha => absurd ha (by omega), fun a b ha => absurd ha (by omega)⟩, rfl, fun a ha => absurd ha (by omega)⟩, fl.co rfl rfl rfl rfl rfl, la.co (fun q hq => if_neg (by omega)) rfl rfl⟩
theorem pp_19 {x y : Int32} (hj : q_J X i h) : cj_19 l V X (X + 16927) n x y h (q_J X j) := by
  have hj0 : q_J X j h := hj
  obtain ⟨k, P, sh, bb, cb, cr, BS, BF, Fz, c, Gs, Ga, sx, Jj, S, J, F, G, C, hM, pg, bl, ct, gn, fl, la⟩ := hj
  obtain ⟨cX, cP, cB, ⟨Φ, cF, cR⟩, ⟨Φo, cO⟩, cS, cJ, cG, cM⟩ := id C
  have W := pg.1
  unfold cj_19
  cases bb
  · exact pq_i (c_H_run_no x y cX cB bl.1) (c_Mo_run_no x y bl.2.1 hM) rfl (mo_ob hM) hj0
  · obtain ⟨bd, mb⟩ := bl.2.2 rfl
    have B := bdI.bt W bd
    obtain ⟨tp, wr, wt, st, mF, Hh, cM⟩ := cM
    have E : EN (X + 16915) (X + 1) (X + 9) (X + 17) k P (siN k P sh) (grF (wdF k P)) Fz Φ h := ⟨W, cP, bdI.w W bd cB, cF, cR, ct.2.1, by omega, by omega, by omega⟩
    refine ⟨fun v h1 => (¬ rnK k P c Ga x y ∧ v = -1 ∧ h1 = h) ∨ (rnK k P c Ga x y ∧ v = rtL (rnL P (siN k P sh) Fz c Ga cb x y) ∧ (∃ Jn, q_cl X k P cb cr BS BF Fz Gs Ga (rnL P (siN k P sh) Fz c Ga cb x y).1.2.2.2.2.1 Jn h1 ∧ ∀ a, a < 8 → Jn a = repJ (rnL P (siN k P sh) Fz c Ga cb x y).1 a) ∧ mo_at (X + 16927) S J F G h1), gi_T.mono (c_H_run x y cb cX cB bl.1 B (fun e => (ct.2.2 e).2.2.2.1.1) gn.1.1 gn.2.1 cG gn.2.2 E cM) (fun r n' h' q => ?_), fun v h1 q => ?_⟩
    · obtain ⟨rfl, ⟨e, rfl, rfl⟩ | ⟨e, rfl, R⟩⟩ := q
      · exact ⟨rfl, _, rfl, .inl ⟨e, rfl, rfl⟩⟩
      · refine ⟨rfl, _, rfl, .inr ⟨e, rfl, C.kR R, ?_⟩⟩
        obtain ⟨_, _, _, _, _, _, _, R, -⟩ := R
        have ho : outMa (X + 16915) h h' := R.2.2.2.2.2.2.2.2
        exact hM.keep (fun b b1 b2 => ho b (by omega))
    · have hc : ceX P sh cb Fz S F G := ⟨ct.1, fun e => ⟨(ct.2.2 e).2.2.1, (ct.2.2 e).2.2.2.1.1⟩⟩
      rcases q with ⟨e, rfl, rfl⟩ | ⟨e, rfl, ⟨Jn, C1, eJ⟩, hM1⟩
      · refine ⟨mo_ob hM, gi_T.mono (c_Mo_run x y W B (q_pgR pg mb) bl.2.1 gn.1 gn.2.2 (fun e => (ct.2.2 e).2.2.2.2.2) hc hM) (fun r n' h' q => ?_)⟩
        obtain ⟨rfl, ⟨-, rfl, rfl⟩ | ⟨e2, -⟩⟩ := q
        · exact ⟨rfl, rfl, hj0⟩
        · exact absurd e2 e
      · refine ⟨mo_ob hM1, gi_T.mono (c_Mo_run x y W B (q_pgR pg mb) bl.2.1 gn.1 gn.2.2 (fun e => (ct.2.2 e).2.2.2.2.2) hc hM1) (fun r n' h' q => ?_)⟩
        obtain ⟨rfl, ⟨e2, -⟩ | ⟨-, rfl, S', J', F', hM2, ho, fr, en⟩⟩ := q
        · exact absurd e e2
        · obtain ⟨l1, l2, l3⟩ := rn_pl (Fz := Fz) (cb := cb) B gn.1.1 gn.2.2 e
          exact ⟨rfl, rfl, k, P, sh, true, cb, cr, BS, BF, Fz, c, Gs, Ga, _, Jn, S', J', F', G, C1.kM ho, hM2, pg.co (fr.1 0 (by decide)) (fun q hq => fr.2.2 q (by omega)), bl.co (fr.1 8 (by decide)) (fr.1 18 (by decide)) (fun q hq => fr.2.2 q (by omega)), ct.co (fr.1 9 (by decide)) (fr.1 46 (by decide)) (fun q hq => fr.2.2 q (by omega)), gn.co (fr.1 67 (by decide)) (fr.2.2 68 (by decide)) (fr.2.2 69 (by decide)) (fr.2.2 70 (by decide)), fl.co rfl rfl rfl (fr.1 10 (by decide)) (fr.1 11 (by decide)), la_run l1 l2 l3 eJ en⟩
end PA4
