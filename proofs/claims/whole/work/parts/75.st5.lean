-- needs: 74
section ST5
variable {l : Launch} {V : gi_V} {n : Nat} {h h' h0 : gi_H} {a pr bu fr to k m md : Nat} {P : Pm} {S : Nat → Int32} {x y nx ny ar ou be ab : mV} {Wk Wy En Lo : mR} {F : Fa} {Φ : Nat → mR} {T : Nat → Ty} {wd : Nat → Bool} {cb : Bool}
variable {f : Nat → Sl} {n0 : Nat}
theorem s_popx (Q : stO a pr bu fr to h0 S x y nx ny ar ou be ab Wk Wy En Lo h) (G : isG Wk n0 f) (h1 : 1 ≤ n0) (h14 : n0 ≤ 14) : gi_T l V y_Ro_pop b_Ro_pop 2 (some .int) 1 21 0 0 [.ref (a + 4), .ref (a + 59)] n h (fun v n' h' => v = some (.int (f (n0 - 1)).2) ∧ n' = n ∧ ∃ Wk', stO a pr bu fr to h0 S (eA (f (n0 - 1)).1) y nx ny ar ou be ab Wk' Wy En Lo h' ∧ isG Wk' (n0 - 1) f) := by
  refine (c_Ro_pop (a + 59) x h1 h14 (by omega) Q.wk G.1 (G.wf _ (by omega)) (by omega) Q.vx).mono (fun v n' h' hp => ?_)
  obtain ⟨p1, p2, p3, p4, p5⟩ := hp
  have e := G.2 (n0 - 1) (by omega)
  refine ⟨by rw [p1, e.2], p2, _, Q.ox p3 (by rw [p4, e.1]) p5, G.pop _ _ (by omega)⟩
theorem s_popy (Q : stO a pr bu fr to h0 S x y nx ny ar ou be ab Wk Wy En Lo h) (G : isG Wk n0 f) (h1 : 1 ≤ n0) (h14 : n0 ≤ 14) : gi_T l V y_Ro_pop b_Ro_pop 2 (some .int) 1 21 0 0 [.ref (a + 4), .ref (a + 60)] n h (fun v n' h' => v = some (.int (f (n0 - 1)).2) ∧ n' = n ∧ ∃ Wk', stO a pr bu fr to h0 S x (eA (f (n0 - 1)).1) nx ny ar ou be ab Wk' Wy En Lo h' ∧ isG Wk' (n0 - 1) f) := by
  refine (c_Ro_pop (a + 60) y h1 h14 (by omega) Q.wk G.1 (G.wf _ (by omega)) (by omega) Q.vy).mono (fun v n' h' hp => ?_)
  obtain ⟨p1, p2, p3, p4, p5⟩ := hp
  have e := G.2 (n0 - 1) (by omega)
  refine ⟨by rw [p1, e.2], p2, _, Q.oy p3 (by rw [p4, e.1]) p5, G.pop _ _ (by omega)⟩
theorem s_popar (Q : stO a pr bu fr to h0 S x y nx ny ar ou be ab Wk Wy En Lo h) (G : isG Wk n0 f) (h1 : 1 ≤ n0) (h14 : n0 ≤ 14) : gi_T l V y_Ro_pop b_Ro_pop 2 (some .int) 1 21 0 0 [.ref (a + 4), .ref (a + 63)] n h (fun v n' h' => v = some (.int (f (n0 - 1)).2) ∧ n' = n ∧ ∃ Wk', stO a pr bu fr to h0 S x y nx ny (eA (f (n0 - 1)).1) ou be ab Wk' Wy En Lo h' ∧ isG Wk' (n0 - 1) f) := by
  refine (c_Ro_pop (a + 63) ar h1 h14 (by omega) Q.wk G.1 (G.wf _ (by omega)) (by omega) Q.var).mono (fun v n' h' hp => ?_)
  obtain ⟨p1, p2, p3, p4, p5⟩ := hp
  have e := G.2 (n0 - 1) (by omega)
  refine ⟨by rw [p1, e.2], p2, _, Q.oar p3 (by rw [p4, e.1]) p5, G.pop _ _ (by omega)⟩
theorem s_tellWk (q : Nat) (v : Av) (mk : Int32) (Q : stO a pr bu fr to h0 S x y nx ny ar ou be ab Wk Wy En Lo h) (G : isG Wk n0 f) (h14 : n0 ≤ 14) (hm : mk = -1 ∨ ∃ j, j < 14 ∧ mk = nI j) (hq1 : a + 59 ≤ q) (hu : h q = some (eV (eA v))) : gi_T l V y_Ro_tell b_Ro_tell 4 none 2 42 0 0 [.ref (a + 4), .int mk, .ref q] n h (fun r n' h' => r = none ∧ n' = n ∧ ∃ Wk', stO a pr bu fr to h0 S x y nx ny ar ou be ab Wk' Wy En Lo h' ∧ isG Wk' n0 (tellF n0 f mk v)) := by
  rcases hm with rfl | ⟨j, hj, rfl⟩
  · refine (c_Ro_tell_n q).mono (fun r n' h' hp => ?_)
    obtain ⟨p1, p2, rfl⟩ := hp
    refine ⟨p1, p2, _, Q, ?_⟩
    unfold tellF
    rw [if_pos rfl]
    exact G
  · refine (c_Ro_tell q (eA v) j hj h14 (by omega) Q.wk G.1 (wf_A v) (by omega) hu).mono (fun r n' h' hp => ?_)
    obtain ⟨p1, p2, p3, p4⟩ := hp
    exact ⟨p1, p2, _, Q.rWk p3 p4, G.tell hj (by omega) v⟩
theorem s_tellWy (q : Nat) (v : Av) (mk : Int32) (Q : stO a pr bu fr to h0 S x y nx ny ar ou be ab Wk Wy En Lo h) (G : isG Wy n0 f) (h14 : n0 ≤ 14) (hm : mk = -1 ∨ ∃ j, j < 14 ∧ mk = nI j) (hq1 : a + 59 ≤ q) (hu : h q = some (eV (eA v))) : gi_T l V y_Ro_tell b_Ro_tell 4 none 2 42 0 0 [.ref (a + 21), .int mk, .ref q] n h (fun r n' h' => r = none ∧ n' = n ∧ ∃ Wy', stO a pr bu fr to h0 S x y nx ny ar ou be ab Wk Wy' En Lo h' ∧ isG Wy' n0 (tellF n0 f mk v)) := by
  rcases hm with rfl | ⟨j, hj, rfl⟩
  · refine (c_Ro_tell_n q).mono (fun r n' h' hp => ?_)
    obtain ⟨p1, p2, rfl⟩ := hp
    refine ⟨p1, p2, _, Q, ?_⟩
    unfold tellF
    rw [if_pos rfl]
    exact G
  · refine (c_Ro_tell q (eA v) j hj h14 (by omega) Q.wy G.1 (wf_A v) (by omega) hu).mono (fun r n' h' hp => ?_)
    obtain ⟨p1, p2, p3, p4⟩ := hp
    exact ⟨p1, p2, _, Q.rWy p3 p4, G.tell hj (by omega) v⟩
theorem s_push (Q : stO a pr bu fr to h0 S x y nx ny ar ou be ab Wk Wy En Lo h) (G : isG Wk n0 f) (h14 : n0 < 14) : gi_T l V y_Ro_push b_Ro_push 1 (some (.object "AnalysisHouse$Value")) 2 42 0 0 [.ref (a + 4)] n h (fun r n' h' => n' = n ∧ ∃ (q : Nat) (W1 : mR) (u : mV), r = some (.ref q) ∧ a + 7 ≤ q ∧ q < a + 21 ∧ h' q = some (eV u) ∧ stO a pr bu fr to h0 S x y nx ny ar ou be ab W1 Wy En Lo h' ∧ ∀ w : Av, stO a pr bu fr to h0 S x y nx ny ar ou be ab (rV W1 n0 (eA w)) Wy En Lo (gi_up h' q (eV (eA w))) ∧ isG (rV W1 n0 (eA w)) (n0 + 1) (upF f n0 (w, -1))) := by
  refine (c_Ro_push (s := n0) h14 (by omega) Q.wk G.1).mono (fun r n' h' hp => ?_)
  obtain ⟨p1, p2, p3, p4⟩ := hp
  have V0 := p3.2.2.2.1 n0 h14
  have va : a + 4 + 3 ≤ Wk.1 n0 := V0.1
  have vb : Wk.1 n0 < a + 4 + 3 + 14 := V0.2.1
  exact ⟨p2, Wk.1 n0, _, _, p1, by omega, by omega, V0.2.2, Q.rWk p3 p4, fun w => ⟨(Q.rWk p3 p4).rWk (p3.v h14 (eA w)) (outR.rf.up (by show a + 4 ≤ Wk.1 n0; omega) vb), G.push w (-1) _ _⟩⟩
/-- the places at which a build widens, and its sites -/
def buW (bu pr k : Nat) (P : Pm) (sn : Nat → Nat) (wd : Nat → Bool) (h : gi_H) : Prop := ∃ BS BF, bu_at bu pr BS BF h ∧ (∀ m i, m < k → i < pN P 5 m → BF 9 (60 * m + i) = bI (wd (60 * m + i)) ∧ (pN P 6 (60 * m + i) = 28 → BF 10 (60 * m + i) = nI (sn (60 * m + i))))
theorem buW.keep {bu pr k : Nat} {P : Pm} {sn : Nat → Nat} {wd : Nat → Bool} {h h' : gi_H} (H : buW bu pr k P sn wd h) (ho : ∀ b, bu ≤ b → b < bu + 8 → h' b = h b) : buW bu pr k P sn wd h' := by
  obtain ⟨BS, BF, ⟨p0, p1, p2, p3, p4, p5, p6, p7⟩, hb⟩ := H
  exact ⟨BS, BF, ⟨by rw [ho _ (by omega) (by omega)]; exact p0, by rw [ho _ (by omega) (by omega)]; exact p1, by rw [ho _ (by omega) (by omega)]; exact p2, by rw [ho _ (by omega) (by omega)]; exact p3, by rw [ho _ (by omega) (by omega)]; exact p4, by rw [ho _ (by omega) (by omega)]; exact p5, by rw [ho _ (by omega) (by omega)]; exact p6, by rw [ho _ (by omega) (by omega)]; exact p7⟩, hb⟩
variable {i : Nat} {sn : Nat → Nat}
set_option maxHeartbeats 4000000 in
set_option maxRecDepth 100000 in
theorem c_Bu_isWide (W : wfP k P) (hm : m < k) (hi : i < pN P 5 m) (Hp : pr_at pr (nI k) P h) (HB : buW bu pr k P sn wd h) : gi_T l V y_Bu_isWide b_Bu_isWide 3 (some .boolean) 2 43 0 0 [.ref bu, .int (nI m), .int (nI i)] n h (gi_is (some (.int (bI (wd (60 * m + i))))) n h) := by
  refine gi_enter (by decide) (Nat.le_of_ble_eq_true rfl) ?_
  intro _ _ _ _ _ _ _ _ C hr hnm
  obtain ⟨BS, BF, HB0, hb⟩ := HB
  have B0 := HB0.1
  have w8 := W.k8
  have w5 := (wf_ar W hm).2.2.2.2
  have hbb := hb m i hm hi
  refine gi_aload_n (q := 1) (i := 0) C (dm_Bu_isWide 0 rfl) rfl rfl rfl ?_
  refine gi_get (q := 4) C (dm_Bu_isWide 1 rfl) rfl fl_Bu_34 (by first | exact B0 | exact HB0.2.2.2.2.1) rfl ?_
  refine gi_iload_n (q := 5) (i := 1) C (dm_Bu_isWide 2 rfl) rfl rfl rfl ?_
  refine gi_iload_n (q := 6) (i := 2) C (dm_Bu_isWide 3 rfl) rfl rfl rfl ?_
  refine gi_callv 2 (q := 9) C (dm_Bu_isWide 4 rfl) rfl my_Pr_hasPlace lk_Bu_73 im_Pr_hasPlace rfl (c_Pr_hasPlace (nI m) (nI i) W.k8 Hp) Hp.1 rfl rfl ⟨(Nat.le_of_ble_eq_true rfl), (Nat.le_of_ble_eq_true rfl)⟩ (Nat.le_of_ble_eq_true rfl) ⟨(Nat.le_of_ble_eq_true rfl), (Nat.le_of_ble_eq_true rfl)⟩ (fun r6 n6 h6 e6 => ?_)
  obtain ⟨rfl, q6, u6⟩ := e6
  rw [q6, u6]
  rw [isP_y W hm hi]
  refine gi_if_eq (q := 12) (tgt := 30) C (dm_Bu_isWide 5 rfl) rfl (by decide) (fun c9 => ?_) (fun c9 => ?_)
  · exact absurd c9 (by decide)
  · refine gi_aload_n (q := 13) (i := 0) C (dm_Bu_isWide 6 rfl) rfl rfl rfl ?_
    refine gi_get (q := 16) C (dm_Bu_isWide 7 rfl) rfl fl_Bu_22 (by first | exact B0 | exact HB0.2.2.2.2.1) rfl ?_
    refine gi_iload_n (q := 17) (i := 1) C (dm_Bu_isWide 8 rfl) rfl rfl rfl ?_
    refine gi_bipush (q := 19) (v := 60) C (dm_Bu_isWide 9 rfl) rfl (by decide) ?_
    refine gi_imul (q := 20) C (dm_Bu_isWide 10 rfl) rfl ?_
    refine gi_iload_n (q := 21) (i := 2) C (dm_Bu_isWide 11 rfl) rfl rfl rfl ?_
    refine gi_iadd (q := 22) C (dm_Bu_isWide 12 rfl) rfl ?_
    rw [at_60]
    refine gi_zald (q := 23) C (dm_Bu_isWide 13 rfl) rfl rfl (by first | exact B0 | exact HB0.2.2.2.2.1) (vp_in_nI (by omega) (by omega)) ?_
    rw [nI_clamp (by omega), hbb.1]
    refine gi_if_eq (q := 26) (tgt := 30) C (dm_Bu_isWide 14 rfl) rfl (by decide) (fun c23 => ?_) (fun c23 => ?_)
    · refine gi_iconst (q := 31) (v := 0) C (dm_Bu_isWide 17 rfl) rfl (by decide) ?_
      refine gi_zret C hr (dm_Bu_isWide 18 rfl) rfl ?_
      refine ⟨?_, rfl, rfl⟩
      first
        | rfl
        | (cases hw : wd (60 * m + i) <;> simp_all [bI])
    · refine gi_iconst (q := 27) (v := 1) C (dm_Bu_isWide 15 rfl) rfl (by decide) ?_
      refine gi_goto (tgt := 31) C (dm_Bu_isWide 16 rfl) (by decide) ?_
      refine gi_zret C hr (dm_Bu_isWide 18 rfl) rfl ?_
      refine ⟨?_, rfl, rfl⟩
      first
        | rfl
        | (cases hw : wd (60 * m + i) <;> simp_all [bI])
set_option maxHeartbeats 4000000 in
set_option maxRecDepth 100000 in
theorem c_Bu_siteAt (W : wfP k P) (hm : m < k) (hi : i < pN P 5 m) (Hp : pr_at pr (nI k) P h) (HB : buW bu pr k P sn wd h) (h28 : pN P 6 (60 * m + i) = 28) : gi_T l V y_Bu_siteAt b_Bu_siteAt 3 (some .int) 2 43 0 0 [.ref bu, .int (nI m), .int (nI i)] n h (gi_is (some (.int (nI (sn (60 * m + i))))) n h) := by
  refine gi_enter (by decide) (Nat.le_of_ble_eq_true rfl) ?_
  intro _ _ _ _ _ _ _ _ C hr hnm
  obtain ⟨BS, BF, HB0, hb⟩ := HB
  have B0 := HB0.1
  have w8 := W.k8
  have w5 := (wf_ar W hm).2.2.2.2
  have hbb := hb m i hm hi
  refine gi_aload_n (q := 1) (i := 0) C (dm_Bu_siteAt 0 rfl) rfl rfl rfl ?_
  refine gi_get (q := 4) C (dm_Bu_siteAt 1 rfl) rfl fl_Bu_34 (by first | exact B0 | exact HB0.2.2.2.2.2.1) rfl ?_
  refine gi_iload_n (q := 5) (i := 1) C (dm_Bu_siteAt 2 rfl) rfl rfl rfl ?_
  refine gi_iload_n (q := 6) (i := 2) C (dm_Bu_siteAt 3 rfl) rfl rfl rfl ?_
  refine gi_callv 2 (q := 9) C (dm_Bu_siteAt 4 rfl) rfl my_Pr_hasPlace lk_Bu_73 im_Pr_hasPlace rfl (c_Pr_hasPlace (nI m) (nI i) W.k8 Hp) Hp.1 rfl rfl ⟨(Nat.le_of_ble_eq_true rfl), (Nat.le_of_ble_eq_true rfl)⟩ (Nat.le_of_ble_eq_true rfl) ⟨(Nat.le_of_ble_eq_true rfl), (Nat.le_of_ble_eq_true rfl)⟩ (fun r6 n6 h6 e6 => ?_)
  obtain ⟨rfl, q6, u6⟩ := e6
  rw [q6, u6]
  rw [isP_y W hm hi]
  refine gi_if_eq (q := 12) (tgt := 26) C (dm_Bu_siteAt 5 rfl) rfl (by decide) (fun c9 => ?_) (fun c9 => ?_)
  · exact absurd c9 (by decide)
  · refine gi_aload_n (q := 13) (i := 0) C (dm_Bu_siteAt 6 rfl) rfl rfl rfl ?_
    refine gi_get (q := 16) C (dm_Bu_siteAt 7 rfl) rfl fl_Bu_25 (by first | exact B0 | exact HB0.2.2.2.2.2.1) rfl ?_
    refine gi_iload_n (q := 17) (i := 1) C (dm_Bu_siteAt 8 rfl) rfl rfl rfl ?_
    refine gi_bipush (q := 19) (v := 60) C (dm_Bu_siteAt 9 rfl) rfl (by decide) ?_
    refine gi_imul (q := 20) C (dm_Bu_siteAt 10 rfl) rfl ?_
    refine gi_iload_n (q := 21) (i := 2) C (dm_Bu_siteAt 11 rfl) rfl rfl rfl ?_
    refine gi_iadd (q := 22) C (dm_Bu_siteAt 12 rfl) rfl ?_
    rw [at_60]
    refine gi_iald (q := 23) C (dm_Bu_siteAt 13 rfl) rfl rfl (by first | exact B0 | exact HB0.2.2.2.2.2.1) (vp_in_nI (by omega) (by omega)) ?_
    rw [nI_clamp (by omega), hbb.2 h28]
    refine gi_goto (tgt := 27) C (dm_Bu_siteAt 14 rfl) (by decide) ?_
    refine gi_iret C hr (dm_Bu_siteAt 16 rfl) ?_
    exact ⟨rfl, rfl, rfl⟩
end ST5
