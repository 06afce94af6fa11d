-- needs: 94.pa1, 93.start
section PA2
variable {X : Nat} {h h' : gi_H} {k : Nat} {P : Pm} {sh : Nat → Option Sh} {bb cb : Bool} {cr sx : Int32} {BS Gs : Nat → Int32} {BF Ga : Nat → Nat → Int32} {Fz : Fa} {Jj : Nat → Int64} {S S' : Nat → Int32} {J J' : Nat → Int64} {F F' : Nat → Nat → Int32} {G G' : Nat → Nat → Int64} {c : Nat}
/-! the invariant of the pair, in its pieces: program, building, certificate, given values, fault, last run; the class's objects -/
def q_pg (k : Nat) (P : Pm) (S : Nat → Int32) (F : Nat → Nat → Int32) : Prop := wfP k P ∧ prF P F ∧ S 0 = nI k
def q_bl (k : Nat) (P : Pm) (sh : Nat → Option Sh) (bb : Bool) (BS : Nat → Int32) (BF : Nat → Nat → Int32) (S : Nat → Int32) (F : Nat → Nat → Int32) : Prop := BS 0 = bI bb ∧ S 8 = bI bb ∧ (bb = true → bdI k P sh BS BF ∧ mbI k P sh S F)
def q_ct (P : Pm) (sh : Nat → Option Sh) (bb cb : Bool) (cr : Int32) (Fz : Fa) (S : Nat → Int32) (F : Nat → Nat → Int32) (G : Nat → Nat → Int64) : Prop := S 9 = bI cb ∧ rowS Fz ∧ (cb = true → bb = true ∧ S 46 = cr ∧ fsN P Fz F G ∧ rdO (tyF P sh) Fz ∧ stU Fz ∧ crO Fz)
def q_gn (c : Nat) (Gs : Nat → Int32) (Ga : Nat → Nat → Int32) (S : Nat → Int32) (F : Nat → Nat → Int32) : Prop := gaR c Ga S F ∧ Gs 0 = nI c ∧ gvL c Ga
def q_fl (BS S : Nat → Int32) : Prop := (BS 2 = 0 → S 10 = -1 ∧ S 11 = -1) ∧ (BS 2 ≠ 0 → S 10 = BS 3 ∧ S 11 = BS 4)
def q_la (sx : Int32) (Jj : Nat → Int64) (S : Nat → Int32) (J : Nat → Int64) (F : Nat → Nat → Int32) : Prop := S 87 = sx ∧ ∀ x, mo_ranv S J F x = if 0 ≤ x ∧ x < 8 then Jj x.toNatClampNeg else NOl
def q_cl (X k : Nat) (P : Pm) (cb : Bool) (cr : Int32) (BS : Nat → Int32) (BF : Nat → Nat → Int32) (Fz : Fa) (Gs : Nat → Int32) (Ga : Nat → Nat → Int32) (sx : Int32) (Jj : Nat → Int64) (h : gi_H) : Prop := hs_ob X (bI cb) cr h ∧ pr_at (X + 1) (nI k) P h ∧ bu_at (X + 9) (X + 1) BS BF h ∧ (∃ Φ, fa_at (X + 17) Φ h ∧ FaR Fz Φ) ∧ (∃ Φ, fa_at (X + 8431) Φ h) ∧ spX (X + 16845) (X + 1) (X + 9) h ∧ ju_at (X + 16910) (X + 1) (X + 17) h ∧ gv_at (X + 16911) Gs Ga h ∧ ∃ tp wr wt st mF H, MO (X + 16915) (X + 1) (X + 9) (X + 17) (X + 16911) h sx tp wr wt st mF Jj H h
def q_J (X : Nat) (_ : Nat) (h : gi_H) : Prop := ∃ (k : Nat) (P : Pm) (sh : Nat → Option Sh) (bb cb : Bool) (cr : Int32) (BS : Nat → Int32) (BF : Nat → Nat → Int32) (Fz : Fa) (c : Nat) (Gs : Nat → Int32) (Ga : Nat → Nat → Int32) (sx : Int32) (Jj : Nat → Int64) (S : Nat → Int32) (J : Nat → Int64) (F : Nat → Nat → Int32) (G : Nat → Nat → Int64), q_cl X k P cb cr BS BF Fz Gs Ga sx Jj h ∧ mo_at (X + 16927) S J F G h ∧ q_pg k P S F ∧ q_bl k P sh bb BS BF S F ∧ q_ct P sh bb cb cr Fz S F G ∧ q_gn c Gs Ga S F ∧ q_fl BS S ∧ q_la sx Jj S J F
/-! pieces under change -/
theorem q_pg.co (H : q_pg k P S F) (e0 : S' 0 = S 0) (eF : ∀ j, j < 12 → F' j = F j) : q_pg k P S' F' := ⟨H.1, fun j a b => (eF j (by omega)).trans (H.2.1 j a b), e0.trans H.2.2⟩
theorem mbI_co (H : mbI k P sh S F) (e18 : S' 18 = S 18) (eF : ∀ j, j < 31 → F' j = F j) : mbI k P sh S' F' := by
  obtain ⟨a, b, c, d, e⟩ := H
  refine ⟨a, e18.trans b, fun m hm => ?_, fun q h1 h2 => by rw [eF 15 (by decide), eF 17 (by decide)]; exact d q h1 h2, fun m i h1 h2 => by rw [eF 16 (by decide)]; exact e m i h1 h2⟩
  have c' := c m hm
  unfold rpS shf at c' ⊢
  simp only [Nat.reduceAdd] at c' ⊢
  rw [eF 12 (by decide), eF 13 (by decide)]
  exact c'
theorem q_bl.co (H : q_bl k P sh bb BS BF S F) (e8 : S' 8 = S 8) (e18 : S' 18 = S 18) (eF : ∀ j, j < 31 → F' j = F j) : q_bl k P sh bb BS BF S' F' := ⟨H.1, e8.trans H.2.1, fun e => ⟨(H.2.2 e).1, mbI_co (H.2.2 e).2 e18 eF⟩⟩
theorem q_ct.co (H : q_ct P sh bb cb cr Fz S F G) (e9 : S' 9 = S 9) (e46 : S' 46 = S 46) (eF : ∀ j, j < 67 → F' j = F j) : q_ct P sh bb cb cr Fz S' F' G := by
  refine ⟨e9.trans H.1, H.2.1, fun e => ?_⟩
  obtain ⟨a, b, c, d⟩ := H.2.2 e
  refine ⟨a, e46.trans b, ?_, d⟩
  refine ⟨fun p hp => ?_, fun t h1 h2 => ?_⟩
  · have q := c.1 p hp
    unfold rfS cS at q ⊢
    rw [eF 31 (by decide), eF 35 (by decide), eF 36 (by decide), eF 37 (by decide)]
    exact q
  · have q := c.2 t h1 h2
    unfold rfT cT at q ⊢
    rw [eF 39 (by decide), eF 43 (by decide), eF 44 (by decide)]
    exact q
theorem q_gn.co (H : q_gn c Gs Ga S F) (e67 : S' 67 = S 67) (e68 : F' 68 = F 68) (e69 : F' 69 = F 69) (e70 : F' 70 = F 70) : q_gn c Gs Ga S' F' := by
  obtain ⟨⟨a, b, d, e⟩, f, g⟩ := H
  exact ⟨⟨a, e67.trans b, by rw [e68, e69]; exact d, by rw [e70]; exact e⟩, f, g⟩
theorem q_fl.co {BS' : Nat → Int32} (H : q_fl BS S) (e2 : BS' 2 = BS 2) (e3 : BS' 3 = BS 3) (e4 : BS' 4 = BS 4) (e10 : S' 10 = S 10) (e11 : S' 11 = S 11) : q_fl BS' S' := by
  unfold q_fl
  rw [e2, e3, e4, e10, e11]
  exact H
theorem q_la.co (H : q_la sx Jj S J F) (eS : ∀ j, 75 ≤ j → S' j = S j) (eJ : J' 86 = J 86) (eF : F' 77 = F 77) : q_la sx Jj S' J' F' := by
  refine ⟨(eS 87 (by decide)).trans H.1, fun x => ?_⟩
  rw [← H.2 x]
  unfold mo_ranv
  rw [eJ, eF, eS 82 (by decide), eS 83 (by decide), eS 84 (by decide), eS 85 (by decide), eS 75 (by decide)]
theorem MO.kp {a pr bu fa gv : Nat} {h0 : gi_H} {tp wr wt st : Int32} {mF : Nat → Nat → Int32} {Hh : Hp} (H : MO a pr bu fa gv h0 sx tp wr wt st mF Jj Hh h) (ho : ∀ b, a ≤ b → b < a + 12 → h' b = h b) : MO a pr bu fa gv h' sx tp wr wt st mF Jj Hh h' := by
  obtain ⟨a0, a1, a2, a3, a4, a5, a6, a7, -⟩ := H
  exact ⟨by rw [ho a (by omega) (by omega)]; exact a0, a1.keep (fun b b1 b2 => ho b (by omega) (by omega)), by rw [ho _ (by omega) (by omega)]; exact a2, by rw [ho _ (by omega) (by omega)]; exact a3, by rw [ho _ (by omega) (by omega)]; exact a4, by rw [ho _ (by omega) (by omega)]; exact a5, by rw [ho _ (by omega) (by omega)]; exact a6, by rw [ho _ (by omega) (by omega)]; exact a7, fun _ _ => rfl⟩
theorem MO.ma {a pr bu fa gv : Nat} {h0 : gi_H} {tp wr wt st : Int32} {mF : Nat → Nat → Int32} {Hh : Hp} (H : MO a pr bu fa gv h0 sx tp wr wt st mF Jj Hh h) : ∃ Sa S' F', ma_at a pr bu fa gv Sa mF Jj S' F' h ∧ Sa 0 = sx := by
  obtain ⟨a0, ⟨S', F', a1, -⟩, a2, a3, a4, a5, a6, a7, -⟩ := H
  exact ⟨fun j => if j = 0 then sx else if j = 12 then tp else if j = 13 then wr else if j = 14 then wt else st, S', F', ⟨a0, a1, a2, a3, a4, a5, a6, a7⟩, rfl⟩
/-- the reference works: the class's objects stay -/
theorem q_cl.kM (C : q_cl X k P cb cr BS BF Fz Gs Ga sx Jj h) (ho : outM (X + 16927) h h') : q_cl X k P cb cr BS BF Fz Gs Ga sx Jj h' := by
  obtain ⟨cX, cP, cB, ⟨Φ, cF, cR⟩, ⟨Φ', cO⟩, cS, cJ, cG, tp, wr, wt, st, mF, H, cM⟩ := C
  exact ⟨hs_keep cX (ho X (by omega)), cP.keep (fun b b1 b2 => ho b (by omega)), cB.keep (fun b b1 b2 => ho b (by omega)), ⟨Φ, cF.keep (fun b b1 b2 => ho b (by omega)), cR⟩, ⟨Φ', cO.keep (fun b b1 b2 => ho b (by omega))⟩, cS.keep (fun b b1 b2 => ho b (by omega)), cJ.keep (fun b b1 b2 => ho b (by omega)), cG.keep (fun b b1 b2 => ho b (by omega)), tp, wr, wt, st, mF, H, cM.kp (fun b b1 b2 => ho b (by omega))⟩
theorem q_cl.k10 {cb' : Bool} {cr' : Int32} {k' : Nat} {P' : Pm} {BS' : Nat → Int32} {BF' : Nat → Nat → Int32} (C : q_cl X k P cb cr BS BF Fz Gs Ga sx Jj h) (ho : out10 X h h') (q1 : hs_ob X (bI cb') cr' h') (q2 : bu_at (X + 9) (X + 1) BS' BF' h') (q3 : pr_at (X + 1) (nI k') P' h') : q_cl X k' P' cb' cr' BS' BF' Fz Gs Ga sx Jj h' := by
  obtain ⟨cX, cP, cB, ⟨Φ, cF, cR⟩, ⟨Φ', cO⟩, cS, cJ, cG, tp, wr, wt, st, mF, H, cM⟩ := C
  exact ⟨q1, q3, q2, ⟨Φ, cF.keep (fun b b1 b2 => ho b (by omega)), cR⟩, ⟨Φ', cO.keep (fun b b1 b2 => ho b (by omega))⟩, cS.keep (fun b b1 b2 => ho b (by omega)), cJ.keep (fun b b1 b2 => ho b (by omega)), cG.keep (fun b b1 b2 => ho b (by omega)), tp, wr, wt, st, mF, H, cM.kp (fun b b1 b2 => ho b (by omega))⟩
theorem q_cl.kB {cb' : Bool} {cr' : Int32} {BS' : Nat → Int32} {BF' : Nat → Nat → Int32} (C : q_cl X k P cb cr BS BF Fz Gs Ga sx Jj h) (ho : ∀ b, b ≠ X → (b < X + 9 ∨ X + 17 ≤ b) → h' b = h b) (q1 : hs_ob X (bI cb') cr' h') (q2 : bu_at (X + 9) (X + 1) BS' BF' h') : q_cl X k P cb' cr' BS' BF' Fz Gs Ga sx Jj h' := by
  obtain ⟨cX, cP, cB, ⟨Φ, cF, cR⟩, ⟨Φ', cO⟩, cS, cJ, cG, tp, wr, wt, st, mF, H, cM⟩ := C
  exact ⟨q1, cP.keep (fun b b1 b2 => ho b (by omega) (by omega)), q2, ⟨Φ, cF.keep (fun b b1 b2 => ho b (by omega) (by omega)), cR⟩, ⟨Φ', cO.keep (fun b b1 b2 => ho b (by omega) (by omega))⟩, cS.keep (fun b b1 b2 => ho b (by omega) (by omega)), cJ.keep (fun b b1 b2 => ho b (by omega) (by omega)), cG.keep (fun b b1 b2 => ho b (by omega) (by omega)), tp, wr, wt, st, mF, H, cM.kp (fun b b1 b2 => ho b (by omega) (by omega))⟩
theorem q_cl.kA {cb' : Bool} {cr' : Int32} {Fz' : Fa} (C : q_cl X k P cb cr BS BF Fz Gs Ga sx Jj h) (ho : ∀ b, b ≠ X → (b < X + 17 ∨ X + 16910 ≤ b) → h' b = h b) (q1 : hs_ob X (bI cb') cr' h') (q2 : ∃ Φ, fa_at (X + 17) Φ h' ∧ FaR Fz' Φ) (q3 : ∃ Φ, fa_at (X + 8431) Φ h') (q4 : spX (X + 16845) (X + 1) (X + 9) h') : q_cl X k P cb' cr' BS BF Fz' Gs Ga sx Jj h' := by
  obtain ⟨cX, cP, cB, ⟨Φ, cF, cR⟩, ⟨Φ', cO⟩, cS, cJ, cG, tp, wr, wt, st, mF, H, cM⟩ := C
  exact ⟨q1, cP.keep (fun b b1 b2 => ho b (by omega) (by omega)), cB.keep (fun b b1 b2 => ho b (by omega) (by omega)), q2, q3, q4, cJ.keep (fun b b1 b2 => ho b (by omega) (by omega)), cG.keep (fun b b1 b2 => ho b (by omega) (by omega)), tp, wr, wt, st, mF, H, cM.kp (fun b b1 b2 => ho b (by omega) (by omega))⟩
theorem q_cl.kG {Gs' : Nat → Int32} {Ga' : Nat → Nat → Int32} (C : q_cl X k P cb cr BS BF Fz Gs Ga sx Jj h) (ho : out4 (X + 16911) h h') (q1 : gv_at (X + 16911) Gs' Ga' h') : q_cl X k P cb cr BS BF Fz Gs' Ga' sx Jj h' := by
  obtain ⟨cX, cP, cB, ⟨Φ, cF, cR⟩, ⟨Φ', cO⟩, cS, cJ, cG, tp, wr, wt, st, mF, H, cM⟩ := C
  exact ⟨hs_keep cX (ho X (by omega)), cP.keep (fun b b1 b2 => ho b (by omega)), cB.keep (fun b b1 b2 => ho b (by omega)), ⟨Φ, cF.keep (fun b b1 b2 => ho b (by omega)), cR⟩, ⟨Φ', cO.keep (fun b b1 b2 => ho b (by omega))⟩, cS.keep (fun b b1 b2 => ho b (by omega)), cJ.keep (fun b b1 b2 => ho b (by omega)), q1, tp, wr, wt, st, mF, H, cM.kp (fun b b1 b2 => ho b (by omega))⟩
theorem q_cl.kR {y : Lz} (C : q_cl X k P cb cr BS BF Fz Gs Ga sx Jj h) (R : MRun (X + 16915) (X + 1) (X + 9) (X + 17) (X + 16911) h y h') : ∃ Jn, q_cl X k P cb cr BS BF Fz Gs Ga y.2.2.2.2.1 Jn h' ∧ ∀ j, j < 8 → Jn j = repJ y j := by
  obtain ⟨cX, cP, cB, ⟨Φ, cF, cR⟩, ⟨Φ', cO⟩, cS, cJ, cG, -⟩ := C
  obtain ⟨tp, wr, wt, st, mF, Jn, H, R, e⟩ := R
  have ho : outMa (X + 16915) h h' := R.2.2.2.2.2.2.2.2
  exact ⟨Jn, ⟨hs_keep cX (ho X (by omega)), cP.keep (fun b b1 b2 => ho b (by omega)), cB.keep (fun b b1 b2 => ho b (by omega)), ⟨Φ, cF.keep (fun b b1 b2 => ho b (by omega)), cR⟩, ⟨Φ', cO.keep (fun b b1 b2 => ho b (by omega))⟩, cS.keep (fun b b1 b2 => ho b (by omega)), cJ.keep (fun b b1 b2 => ho b (by omega)), cG.keep (fun b b1 b2 => ho b (by omega)), tp, wr, wt, st, mF, H, R.kp (fun _ _ _ => rfl)⟩, e⟩
/-- what stands when a certificate is there -/
theorem q_pgR (pg : q_pg k P S F) (mb : mbI k P sh S F) : pgR k P sh S F := ⟨pg.2.1, pg.2.2, mb.2.2.1, fun q hq hs => (mb.2.2.2.1 q hq hs).1, mb.2.2.2.2⟩
theorem mo_ob {M : Nat} (H : mo_at M S J F G h) : ∃ fs, h M = some (gi_O 12 fs) := by
  obtain ⟨gs, e, -⟩ := H.1
  exact ⟨gs, e⟩
/-! the start -/
theorem ran_0 (x : Int32) : mo_ranv (fun k => if k = 10 ∨ k = 11 ∨ k = 87 then -1 else 0) (fun _ => 0) (fun _ _ => 0) x = (if 0 ≤ x ∧ x < 8 then 0 else NOl) := by
  unfold mo_ranv
  by_cases hq : 0 ≤ x ∧ x < 8
  · rw [if_pos hq]
    obtain ⟨i, i1, e⟩ := nn_x hq.1
    subst e
    have hi : i < 8 := lt_x i1 (b := 8) (by decide) hq.2
    have : i = 0 ∨ i = 1 ∨ i = 2 ∨ i = 3 ∨ i = 4 ∨ i = 5 ∨ i = 6 ∨ i = 7 := by omega
    rcases this with rfl | rfl | rfl | rfl | rfl | rfl | rfl | rfl <;> rfl
  · rw [if_neg hq]
    have nx : ∀ i : Nat, i < 8 → ¬ x = nI i := fun i hi q => hq (by
      subst q
      exact ⟨nI_le (a := 0) (by omega) (by omega), nI_lt (b := 8) hi (by omega)⟩)
    rw [if_neg (nx 0 (by omega)), if_neg (nx 1 (by omega)), if_neg (nx 2 (by omega)), if_neg (nx 3 (by omega)), if_neg (nx 4 (by omega)), if_neg (nx 5 (by omega)), if_neg (nx 6 (by omega)), if_neg (nx 7 (by omega))]
theorem q_0 (H : hs_0 X h) (hM : mo_at (X + 16927) (fun k => if k = 10 ∨ k = 11 ∨ k = 87 then -1 else 0) (fun _ => 0) (fun _ _ => 0) (fun _ _ => 0) h) (i : Nat) : q_J X i h := by
  obtain ⟨a0, a1, a2, a3, a4, a5, a6, a7, a8⟩ := H
  refine ⟨0, fun _ _ => 0, fun _ => none, false, false, 0, fun _ => 0, fun _ _ => 0, fun _ => nulR, 0, fun _ => 0, fun _ _ => 0, -1, fun _ => 0, _, _, _, _, ⟨a0, a1, a2, ⟨_, a3, fun t ht => ⟨rfl, rfl, fun e => by cases e⟩⟩, ⟨_, a4⟩, ?_, a6, a7, ?_⟩, hM, ?_, ?_, ?_, ?_, ?_, ?_⟩
  · refine ⟨X + 17, X + 17, fun _ => 0, zV, zV, zV, zV, zV, zV, zV, zV, ro_0 (X + 16845 + 4 + 17 * 0), ro_0 (X + 16845 + 4 + 17 * 1), ro_0 (X + 16845 + 4 + 17 * 2), ro_0 (X + 16845 + 4 + 17 * 3), ?_, fun _ _ => rfl⟩
    unfold sp_at at a5 ⊢
    exact a5
  · obtain ⟨b0, b1, b2, b3, b4, b5, b6, b7⟩ := a8
    refine ⟨0, 0, 0, 0, fun _ _ => 0, (0, 0, fun _ => 0, fun _ => 0, fun _ => 0, fun _ => 0), b0, ⟨_, _, b1, ⟨?_, ?_, ?_⟩, rfl, rfl, fun r h1 h2 => ?_, fun i hi => ?_⟩, b2, b3, b4, b5, b6, b7, fun _ _ => rfl⟩
    · exact Nat.zero_le _
    · exact Nat.zero_le _
    · exact fun r h1 h2 => absurd (show r ≤ 0 from h2) (by omega)
    · exact absurd (show r ≤ 0 from h2) (by omega)
    · exact absurd (show i < 0 from hi) (by omega)
  · exact ⟨⟨by decide, fun m hm => absurd hm (by omega), fun m hm => absurd hm (by omega), fun m hm => absurd hm (by omega), fun m hm => absurd hm (by omega), fun m hm => absurd hm (by omega), fun m hm => absurd hm (by omega), fun m i hm => absurd hm (by omega)⟩, fun _ _ _ => rfl, rfl⟩
  · exact ⟨rfl, rfl, fun e => by cases e⟩
  · exact ⟨rfl, fun t _ _ e => (by cases e), fun e => by cases e⟩
  · exact ⟨⟨by decide, rfl, fun i hi => absurd hi (by omega), fun i j hi => absurd hi (by omega)⟩, rfl, fun j hj => absurd hj (by omega)⟩
  · exact ⟨fun _ => ⟨rfl, rfl⟩, fun e => absurd rfl e⟩
  · exact ⟨rfl, ran_0⟩
/-! two askings that change nothing -/
theorem pq_i {l : Launch} {V : gi_V} {n M : Nat} {yH yM : MethodName} {bH bM : ByteArray} {mH mM fH fM lH lM cH cM sH sM : Nat} {rH rM : Option FieldType} {vH vM : List Value} {v w : Int32} {Q : gi_H → Prop} (TH : gi_T l V yH bH mH rH fH lH cH sH vH n h (gi_is (some (.int v)) n h)) (TM : gi_T l V yM bM mM rM fM lM cM sM vM n h (gi_is (some (.int w)) n h)) (e : w = v) (ob : ∃ fs, h M = some (gi_O 12 fs)) (hQ : Q h) : ∃ Mid : Int32 → gi_H → Prop, gi_T l V yH bH mH rH fH lH cH sH vH n h (fun r n' h' => n' = n ∧ ∃ v, r = some (.int v) ∧ Mid v h') ∧ ∀ v h1, Mid v h1 → (∃ fs, h1 M = some (gi_O 12 fs)) ∧ gi_T l V yM bM mM rM fM lM cM sM vM n h1 (fun r n' h' => n' = n ∧ r = some (.int v) ∧ Q h') := by
  subst e
  refine ⟨fun x h1 => x = w ∧ h1 = h, gi_T.mono TH (fun r n' h' q => ⟨q.2.1, _, q.1, rfl, q.2.2⟩), fun x h1 q => ?_⟩
  obtain ⟨rfl, rfl⟩ := q
  exact ⟨ob, gi_T.mono TM (fun r n' h' q => ⟨q.2.1, q.1, by rw [q.2.2]; exact hQ⟩)⟩
theorem pq_l {l : Launch} {V : gi_V} {n M : Nat} {yH yM : MethodName} {bH bM : ByteArray} {mH mM fH fM lH lM cH cM sH sM : Nat} {rH rM : Option FieldType} {vH vM : List Value} {v w : Int64} {Q : gi_H → Prop} (TH : gi_T l V yH bH mH rH fH lH cH sH vH n h (gi_is (some (.long v)) n h)) (TM : gi_T l V yM bM mM rM fM lM cM sM vM n h (gi_is (some (.long w)) n h)) (e : w = v) (ob : ∃ fs, h M = some (gi_O 12 fs)) (hQ : Q h) : ∃ Mid : Int64 → gi_H → Prop, gi_T l V yH bH mH rH fH lH cH sH vH n h (fun r n' h' => n' = n ∧ ∃ v, r = some (.long v) ∧ Mid v h') ∧ ∀ v h1, Mid v h1 → (∃ fs, h1 M = some (gi_O 12 fs)) ∧ gi_T l V yM bM mM rM fM lM cM sM vM n h1 (fun r n' h' => n' = n ∧ r = some (.long v) ∧ Q h') := by
  subst e
  refine ⟨fun x h1 => x = w ∧ h1 = h, gi_T.mono TH (fun r n' h' q => ⟨q.2.1, _, q.1, rfl, q.2.2⟩), fun x h1 q => ?_⟩
  obtain ⟨rfl, rfl⟩ := q
  exact ⟨ob, gi_T.mono TM (fun r n' h' q => ⟨q.2.1, q.1, by rw [q.2.2]; exact hQ⟩)⟩
end PA2
