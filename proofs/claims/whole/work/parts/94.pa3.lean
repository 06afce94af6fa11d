-- needs: 94.pa2
section PA3
variable {l : Launch} {V : gi_V} {X n i j : Nat} {h h' : gi_H}
theorem pp_4 {x : Int32} (hj : q_J X i h) : cj_4 l V X (X + 16927) n x h (q_J X j) := by
  have hj0 : q_J X j h := hj
  obtain ⟨k, P, sh, bb, cb, cr, BS, BF, Fz, c, Gs, Ga, sx, Jj, S, J, F, G, C, hM, pg, bl, ct, gn, fl, la⟩ := hj
  obtain ⟨cX, cP, cB, ⟨Φ, cF, cR⟩, ⟨Φo, cO⟩, cS, cJ, cG, cM⟩ := id C
  have W := pg.1
  unfold cj_4
  refine pq_i (c_H_faultAt x cX cB) (c_Mo_faultAt x hM) ?_ (mo_ob hM) hj0
  by_cases e : BS 2 = 0
  · rw [if_pos e, (fl.1 e).1, (fl.1 e).2]
    split
    · rfl
    · split <;> rfl
  · rw [if_neg e, (fl.2 e).1, (fl.2 e).2]
theorem pp_6 {x y : Int32} (hj : q_J X i h) : cj_6 l V X (X + 16927) n x y h (q_J X j) := by
  have hj0 : q_J X j h := hj
  obtain ⟨k, P, sh, bb, cb, cr, BS, BF, Fz, c, Gs, Ga, sx, Jj, S, J, F, G, C, hM, pg, bl, ct, gn, fl, la⟩ := hj
  obtain ⟨cX, cP, cB, ⟨Φ, cF, cR⟩, ⟨Φo, cO⟩, cS, cJ, cG, cM⟩ := id C
  have W := pg.1
  unfold cj_6
  cases cb
  · exact pq_i (c_H_reached_no x y cX) (c_Mo_reached_no x y ct.1 hM) rfl (mo_ob hM) hj0
  · skip
    obtain ⟨rfl, h46, h0, hR, hU, hO⟩ := ct.2.2 rfl
    obtain ⟨bd, mb⟩ := bl.2.2 rfl
    have B := bdI.bt W bd
    have pr := q_pgR pg mb
    exact pq_i (c_H_reached x y W ⟨cX, cP, cF, cR⟩) (c_Mo_reached x y W pg.2.1 pg.2.2 ct.1 h0 hM) rfl (mo_ob hM) hj0
theorem pp_7 {x y z u : Int32} (hj : q_J X i h) : cj_7 l V X (X + 16927) n x y z u h (q_J X j) := by
  have hj0 : q_J X j h := hj
  obtain ⟨k, P, sh, bb, cb, cr, BS, BF, Fz, c, Gs, Ga, sx, Jj, S, J, F, G, C, hM, pg, bl, ct, gn, fl, la⟩ := hj
  obtain ⟨cX, cP, cB, ⟨Φ, cF, cR⟩, ⟨Φo, cO⟩, cS, cJ, cG, cM⟩ := id C
  have W := pg.1
  unfold cj_7
  cases cb
  · exact pq_l (c_H_state_no x y z u cX) (c_Mo_state_no x y z u ct.1 hM) rfl (mo_ob hM) hj0
  · skip
    obtain ⟨rfl, h46, h0, hR, hU, hO⟩ := ct.2.2 rfl
    obtain ⟨bd, mb⟩ := bl.2.2 rfl
    have B := bdI.bt W bd
    have pr := q_pgR pg mb
    exact pq_l (c_H_state x y z u W ⟨cX, cP, cF, cR⟩) (c_Mo_state x y z u B pr ct.1 h0 hR.1 hM) rfl (mo_ob hM) hj0
theorem pp_8 {x y : Int32} (hj : q_J X i h) : cj_8 l V X (X + 16927) n x y h (q_J X j) := by
  have hj0 : q_J X j h := hj
  obtain ⟨k, P, sh, bb, cb, cr, BS, BF, Fz, c, Gs, Ga, sx, Jj, S, J, F, G, C, hM, pg, bl, ct, gn, fl, la⟩ := hj
  obtain ⟨cX, cP, cB, ⟨Φ, cF, cR⟩, ⟨Φo, cO⟩, cS, cJ, cG, cM⟩ := id C
  have W := pg.1
  unfold cj_8
  cases bb
  · exact pq_l (c_H_site_no x y cX cB bl.1) (c_Mo_site_no x y bl.2.1 hM) rfl (mo_ob hM) hj0
  · obtain ⟨bd, mb⟩ := bl.2.2 rfl
    cases cb
    · exact pq_l (c_H_site_0 (F := Fz) x y W cX ⟨BS, BF, cB, bd⟩) (c_Mo_site (ct := false) x y W mb bl.2.1 ct.1 (fun e => by cases e) hM) rfl (mo_ob hM) hj0
    · obtain ⟨-, h46, h0, hR, hU, hO⟩ := ct.2.2 rfl
      exact pq_l (c_H_site x y W hR ⟨cX, cP, cF, cR⟩ ⟨BS, BF, cB, bd⟩) (c_Mo_site (ct := true) x y W mb bl.2.1 ct.1 (fun _ => ⟨h0, hR⟩) hM) rfl (mo_ob hM) hj0
theorem pp_9 {x y : Int32} (hj : q_J X i h) : cj_9 l V X (X + 16927) n x y h (q_J X j) := by
  have hj0 : q_J X j h := hj
  obtain ⟨k, P, sh, bb, cb, cr, BS, BF, Fz, c, Gs, Ga, sx, Jj, S, J, F, G, C, hM, pg, bl, ct, gn, fl, la⟩ := hj
  obtain ⟨cX, cP, cB, ⟨Φ, cF, cR⟩, ⟨Φo, cO⟩, cS, cJ, cG, cM⟩ := id C
  have W := pg.1
  unfold cj_9
  cases cb
  · exact pq_l (c_H_field_no x y cX) (c_Mo_field_no x y ct.1 hM) rfl (mo_ob hM) hj0
  · skip
    obtain ⟨rfl, h46, h0, hR, hU, hO⟩ := ct.2.2 rfl
    obtain ⟨bd, mb⟩ := bl.2.2 rfl
    have B := bdI.bt W bd
    have pr := q_pgR pg mb
    exact pq_l (c_H_field x y W hR ⟨cX, cP, cF, cR⟩) (c_Mo_field x y ct.1 h0 hR hM) rfl (mo_ob hM) hj0
theorem pp_10 {x y : Int32} (hj : q_J X i h) : cj_10 l V X (X + 16927) n x y h (q_J X j) := by
  have hj0 : q_J X j h := hj
  obtain ⟨k, P, sh, bb, cb, cr, BS, BF, Fz, c, Gs, Ga, sx, Jj, S, J, F, G, C, hM, pg, bl, ct, gn, fl, la⟩ := hj
  obtain ⟨cX, cP, cB, ⟨Φ, cF, cR⟩, ⟨Φo, cO⟩, cS, cJ, cG, cM⟩ := id C
  have W := pg.1
  unfold cj_10
  cases cb
  · exact pq_l (c_H_result_no x y cX) (c_Mo_result_no x y ct.1 hM) rfl (mo_ob hM) hj0
  · skip
    obtain ⟨rfl, h46, h0, hR, hU, hO⟩ := ct.2.2 rfl
    obtain ⟨bd, mb⟩ := bl.2.2 rfl
    have B := bdI.bt W bd
    have pr := q_pgR pg mb
    exact pq_l (c_H_result x y W ⟨cX, cP, cF, cR⟩) (c_Mo_result x y W pg.2.1 pg.2.2 ct.1 h0 hR.1 hM) rfl (mo_ob hM) hj0
theorem pp_11 {x y z : Int32} (hj : q_J X i h) : cj_11 l V X (X + 16927) n x y z h (q_J X j) := by
  have hj0 : q_J X j h := hj
  obtain ⟨k, P, sh, bb, cb, cr, BS, BF, Fz, c, Gs, Ga, sx, Jj, S, J, F, G, C, hM, pg, bl, ct, gn, fl, la⟩ := hj
  obtain ⟨cX, cP, cB, ⟨Φ, cF, cR⟩, ⟨Φo, cO⟩, cS, cJ, cG, cM⟩ := id C
  have W := pg.1
  unfold cj_11
  cases cb
  · exact pq_i (c_H_verdict_no x y z cX) (c_Mo_verdict_no x y z ct.1 hM) rfl (mo_ob hM) hj0
  · skip
    obtain ⟨rfl, h46, h0, hR, hU, hO⟩ := ct.2.2 rfl
    obtain ⟨bd, mb⟩ := bl.2.2 rfl
    have B := bdI.bt W bd
    have pr := q_pgR pg mb
    exact pq_i (c_H_verdict x y z B hR ⟨cX, cP, cF, cR⟩ cJ) (c_Mo_verdict x y z B pr ct.1 h0 hR.1 hU hM) rfl (mo_ob hM) hj0
theorem pp_12 {x : Int32} (hj : q_J X i h) : cj_12 l V X (X + 16927) n x h (q_J X j) := by
  have hj0 : q_J X j h := hj
  obtain ⟨k, P, sh, bb, cb, cr, BS, BF, Fz, c, Gs, Ga, sx, Jj, S, J, F, G, C, hM, pg, bl, ct, gn, fl, la⟩ := hj
  obtain ⟨cX, cP, cB, ⟨Φ, cF, cR⟩, ⟨Φo, cO⟩, cS, cJ, cG, cM⟩ := id C
  have W := pg.1
  unfold cj_12
  cases cb
  · exact pq_i (c_H_verdicts_no x cX) (c_Mo_verdicts_no x ct.1 hM) rfl (mo_ob hM) hj0
  · skip
    obtain ⟨rfl, h46, h0, hR, hU, hO⟩ := ct.2.2 rfl
    obtain ⟨bd, mb⟩ := bl.2.2 rfl
    have B := bdI.bt W bd
    have pr := q_pgR pg mb
    exact pq_i (c_H_verdicts x B hR ⟨cX, cP, cF, cR⟩ cJ) (c_Mo_verdicts x B pr ct.1 h0 hR.1 hU hM) rfl (mo_ob hM) hj0
theorem pp_20 {x : Int32} (hj : q_J X i h) : cj_20 l V X (X + 16927) n x h (q_J X j) := by
  have hj0 : q_J X j h := hj
  obtain ⟨k, P, sh, bb, cb, cr, BS, BF, Fz, c, Gs, Ga, sx, Jj, S, J, F, G, C, hM, pg, bl, ct, gn, fl, la⟩ := hj
  obtain ⟨cX, cP, cB, ⟨Φ, cF, cR⟩, ⟨Φo, cO⟩, cS, cJ, cG, cM⟩ := id C
  have W := pg.1
  unfold cj_20
  obtain ⟨tp, wr, wt, st, mF, Hh, cM⟩ := cM
  obtain ⟨Sa, S1, F1, hma, hsa⟩ := cM.ma
  exact pq_l (c_H_ran x cX hma) (c_Mo_ran x hM) (la.2 x) (mo_ob hM) hj0
theorem pp_21 (hj : q_J X i h) : cj_21 l V X (X + 16927) n  h (q_J X j) := by
  have hj0 : q_J X j h := hj
  obtain ⟨k, P, sh, bb, cb, cr, BS, BF, Fz, c, Gs, Ga, sx, Jj, S, J, F, G, C, hM, pg, bl, ct, gn, fl, la⟩ := hj
  obtain ⟨cX, cP, cB, ⟨Φ, cF, cR⟩, ⟨Φo, cO⟩, cS, cJ, cG, cM⟩ := id C
  have W := pg.1
  unfold cj_21
  obtain ⟨tp, wr, wt, st, mF, Hh, cM⟩ := cM
  obtain ⟨Sa, S1, F1, hma, hsa⟩ := cM.ma
  exact pq_i (c_H_outside cX hma) (c_Mo_outside hM) (la.1.trans hsa.symm) (mo_ob hM) hj0
end PA3
