-- needs: 72
section ST3
variable {l : Launch} {V : gi_V} {n : Nat} {h h' h0 : gi_H} {a pr bu fr to k m md : Nat} {P : Pm} {S : Nat → Int32} {x y nx ny ar ou be ab : mV} {Wk Wy En Lo : mR} {F : Fa} {Φ : Nat → mR} {T : Nat → Ty} {wd : Nat → Bool} {cb : Bool}
/-- the Stepper's mood, and the facts that it writes -/
def stF (to md : Nat) (wd : Nat → Bool) (T : Nat → Ty) (F : Fa) (cb : Bool) (S : Nat → Int32) (h : gi_H) : Prop := md ≤ 2 ∧ S 6 = nI md ∧ S 0 = bI cb ∧ (∃ Φ, fa_at to Φ h ∧ FaR F Φ) ∧ okF T F ∧ (md = 0 → ∀ t, t < 542 → wd t = true → (F t).told = true → (F t).ch < 2 ^ 30)
/-- only the Stepper's block and the facts that it writes have changed -/
def outW (a to : Nat) (h h' : gi_H) : Prop := ∀ b, (b < a ∨ a + 65 ≤ b) → (b < to ∨ to + 8414 ≤ b) → h' b = h b
theorem outW.rf {h : gi_H} : outW a to h h := fun _ _ _ => rfl
theorem outW.tr {h h' h'' : gi_H} (p : outW a to h h') (q : outW a to h' h'') : outW a to h h'' := fun b b1 b2 => by rw [q b b1 b2, p b b1 b2]
theorem outW.s {h h' : gi_H} (p : outS a h h') : outW a to h h' := fun b b1 _ => p b b1
/-- one that comes -/
theorem s_come (q kq s t : Nat) (Rq : mR) (g : Nat → Sl) (Q : stO a pr bu fr to h0 S x y nx ny ar ou be ab Wk Wy En Lo h) (D : stF to md wd T F cb S h) (dto : to + 8414 ≤ a ∨ a + 65 ≤ to) (hq1 : a + 4 ≤ q) (hq2 : q + 3 + kq ≤ a + 65) (hk31 : kq < 2 ^ 31) (K : ro_at q kq Rq h) (hG : isG Rq s g) (hsk : s ≤ kq) (ht : t < 542) (hsc : s ≤ fa_cap t) (hgT : okG (T t) s g) : gi_T l V y_St_come b_St_come 4 none 3 79 0 0 [.ref a, .ref (fa_row to t), .ref q, .int (bI (wd t))] n h (fun v n' h' => v = none ∧ n' = n ∧ (∃ Φ', fa_at to Φ' h' ∧ FaR (comeM md wd (F, cb) (t, s, g)).1 Φ') ∧ stO a pr bu fr to h' (upS S 0 (bI (comeM md wd (F, cb) (t, s, g)).2)) x y nx ny ar ou be ab Wk Wy En Lo h' ∧ outW a to h h') := by
  obtain ⟨d1, d2, d3, ⟨Φ, d4, d5⟩, d6, d7⟩ := D
  refine (c_St_come md wd q kq s t Rq g cb Q d1 d2 d3 d4 d5 d6 dto hq1 hq2 hk31 K hG hsk ht hsc hgT (fun z => d7 z t ht)).mono (fun v n' h' hp => ?_)
  obtain ⟨p1, p2, p3, p4, p5⟩ := hp
  exact ⟨p1, p2, p3, p4, fun b b1 b2 => p5 b (by omega) b2⟩
theorem comeM_ok {md : Nat} {wd : Nat → Bool} {X : Fa × Bool} {c : Con} (hX : okF T X.1) (hc : okC T c) : okF T (comeM md wd X c).1 := by
  unfold comeM
  split
  · exact hX
  · exact come_ok hX hc
theorem rt_e {P : Pm} {m i : Nat} (hi : ¬ i < pN P 1 m) : entE P m i = rtF P m i := by
  unfold entE rtF
  rw [if_neg hi, if_neg hi]
set_option maxHeartbeats 4000000 in
set_option maxRecDepth 100000 in
theorem c_St_enterRoot (Q : stO a pr bu fr to h S x y nx ny ar ou be ab Wk Wy En Lo h) (W : wfP k P) (hm : m < k) (Hp : pr_at pr (nI k) P h) (dpr : pr + 8 ≤ a ∨ a + 65 ≤ pr) (D : stF to md wd T F cb S h) (dto : to + 8414 ≤ a ∨ a + 65 ≤ to) (hw : wd (60 * m) = true) (hgT : okG (T (60 * m + 0)) (pN P 2 m) (rtF P m)) : gi_T l V y_St_enterRoot b_St_enterRoot 3 none 4 102 0 0 [.ref a, .int (nI m)] n h (fun v n' h' => v = none ∧ n' = n ∧ (∃ Φ', fa_at to Φ' h' ∧ FaR (comeM md wd (F, cb) (60 * m + 0, pN P 2 m, rtF P m)).1 Φ') ∧ (∃ En', stO a pr bu fr to h' (upS S 0 (bI (comeM md wd (F, cb) (60 * m + 0, pN P 2 m, rtF P m)).2)) x y nx ny ar ou be ab Wk Wy En' Lo h') ∧ outW a to h h') := by
  refine gi_enter (by decide) (Nat.le_of_ble_eq_true rfl) ?_
  intro _ _ _ _ _ _ _ _ C hr hnm
  have p0 := Q.ob
  have wm := wf_ar W hm
  have w8 := W.k8
  refine gi_aload_n (q := 1) (i := 0) C (dm_St_enterRoot 0 rfl) rfl rfl rfl ?_
  refine gi_iload_n (q := 2) (i := 1) C (dm_St_enterRoot 1 rfl) rfl rfl rfl ?_
  refine gi_callv 1 (q := 5) C (dm_St_enterRoot 2 rfl) rfl my_St_openEntry lk_St_121 im_St_openEntry rfl (c_St_openEntry Q W hm Hp dpr) p0 rfl rfl ⟨(Nat.le_of_ble_eq_true rfl), (Nat.le_of_ble_eq_true rfl)⟩ (Nat.le_of_ble_eq_true rfl) ⟨(Nat.le_of_ble_eq_true rfl), (Nat.le_of_ble_eq_true rfl)⟩ (fun r2 n2 h2 e2 => ?_)
  obtain ⟨rfl, rfl, En', Q2, G2⟩ := e2
  refine gi_iconst (q := 6) (v := 0) C (dm_St_enterRoot 3 rfl) rfl (by decide) ?_
  refine gi_istore_n (q := 7) (i := 2) C (dm_St_enterRoot 4 rfl) rfl rfl (Nat.le_of_ble_eq_true rfl) ?_
  refine gi_while (σ := Nat × mR) (fun p => pN P 1 m - p.1) (fun p => [(2, .int (nI p.1)), (0, .ref a), (1, .int (nI m))]) (fun _ => n2) (fun _ => 0) (fun _ => 0) (fun p y' => p.1 ≤ pN P 1 m ∧ stO a pr bu fr to h S x y nx ny ar ou be ab Wk Wy p.2 Lo y' ∧ isG p.2 (pN P 2 m) (fun j => if j < p.1 then rtF P m j else entE P m j)) (0, En') ⟨Nat.zero_le _, Q2, G2.ext (fun j hj => by simp)⟩ ?_ (List.forall_mem_cons.mpr ⟨rfl, List.forall_mem_cons.mpr ⟨rfl, List.forall_mem_cons.mpr ⟨rfl, fun _ h => absurd h List.not_mem_nil⟩⟩⟩) rfl rfl rfl
  rintro ⟨i, Rn⟩ y' ⟨hi, Y, G⟩ ih
  try dsimp only at *
  have Hpy := Hp.keep2 (h' := y') (fun b b1 b2 => Y.2 b (by omega))
  have yi := fun j (hj : j < 14) => Y.en.2.2.2.1 j hj
  refine gi_iload_n (q := 8) (i := 2) C (dm_St_enterRoot 5 rfl) rfl rfl rfl ?_
  refine gi_aload_n (q := 9) (i := 0) C (dm_St_enterRoot 6 rfl) rfl rfl rfl ?_
  refine gi_get (q := 12) C (dm_St_enterRoot 7 rfl) rfl fl_St_58 Y.ob rfl ?_
  refine gi_iload_n (q := 13) (i := 1) C (dm_St_enterRoot 8 rfl) rfl rfl rfl ?_
  refine gi_callv 1 (q := 16) C (dm_St_enterRoot 9 rfl) rfl my_Pr_argumentsOf lk_St_124 im_Pr_argumentsOf rfl (q_args W hm Hpy) Hpy.1 rfl rfl ⟨(Nat.le_of_ble_eq_true rfl), (Nat.le_of_ble_eq_true rfl)⟩ (Nat.le_of_ble_eq_true rfl) ⟨(Nat.le_of_ble_eq_true rfl), (Nat.le_of_ble_eq_true rfl)⟩ (fun r13 n13 h13 e13 => ?_)
  obtain ⟨rfl, q13, u13⟩ := e13
  rw [q13, u13]
  refine gi_icmp_ge (q := 19) (tgt := 64) C (dm_St_enterRoot 10 rfl) rfl (by decide) (fun c16 => ?_) (fun c16 => ?_)
  · have hik : i = pN P 1 m := by
      rcases Nat.lt_or_ge i (pN P 1 m) with q | q
      · exact absurd c16 (Int32.not_le.mpr (nI_lt q (by omega)))
      · omega
    subst hik
    have G2 : isG Rn (pN P 2 m) (rtF P m) := G.ext (fun j hj => by
      by_cases z : j < pN P 1 m
      · rw [if_pos z]
      · rw [if_neg z]
        exact rt_e z)
    obtain ⟨d1, d2, d3, ⟨Φ, d4, d5⟩, d6, d7⟩ := id D
    have D2 : stF to md wd T F cb S y' := ⟨d1, d2, d3, ⟨Φ, d4.keep (fun b b1 b2 => Y.2 b (by omega)), d5⟩, d6, d7⟩
    have Hf2 := d4.keep (h' := y') (fun b b1 b2 => Y.2 b (by omega))
    refine gi_aload_n (q := 65) (i := 0) C (dm_St_enterRoot 32 rfl) rfl rfl rfl ?_
    refine gi_aload_n (q := 66) (i := 0) C (dm_St_enterRoot 33 rfl) rfl rfl rfl ?_
    refine gi_get (q := 69) C (dm_St_enterRoot 34 rfl) rfl fl_St_70 Y.ob rfl ?_
    refine gi_iload_n (q := 70) (i := 1) C (dm_St_enterRoot 35 rfl) rfl rfl rfl ?_
    refine gi_iconst (q := 71) (v := 0) C (dm_St_enterRoot 36 rfl) rfl (by decide) ?_
    rw [show (0 : Int32) = nI 0 from rfl]
    refine gi_callv 2 (q := 74) C (dm_St_enterRoot 37 rfl) rfl my_Fa_stateAt lk_St_134 im_Fa_stateAt rfl (c_Fa_stateAt (m := m) (i := 0) (by omega) (by omega) Hf2) Hf2.1 rfl rfl ⟨(Nat.le_of_ble_eq_true rfl), (Nat.le_of_ble_eq_true rfl)⟩ (Nat.le_of_ble_eq_true rfl) ⟨(Nat.le_of_ble_eq_true rfl), (Nat.le_of_ble_eq_true rfl)⟩ (fun r71 n71 h71 e71 => ?_)
    obtain ⟨rfl, q71, u71⟩ := e71
    rw [q71, u71]
    refine gi_aload_n (q := 75) (i := 0) C (dm_St_enterRoot 38 rfl) rfl rfl rfl ?_
    refine gi_get (q := 78) C (dm_St_enterRoot 39 rfl) rfl fl_St_30 Y.ob rfl ?_
    refine gi_iconst (q := 79) (v := 1) C (dm_St_enterRoot 40 rfl) rfl (by decide) ?_
    rw [show (1 : Int32) = bI (wd (60 * m + 0)) by rw [Nat.add_zero, hw]; rfl]
    refine gi_callv 3 (q := 82) C (dm_St_enterRoot 41 rfl) rfl my_St_come lk_St_140 im_St_come rfl (s_come (a + 38) 14 (pN P 2 m) (60 * m + 0) Rn (rtF P m) Y D2 dto (by omega) (by omega) (by omega) Y.en G2 (by omega) (by omega) (by have := fa_cas to (60 * m + 0) (by omega); omega) hgT) Y.ob rfl rfl ⟨(Nat.le_of_ble_eq_true rfl), (Nat.le_of_ble_eq_true rfl)⟩ (Nat.le_of_ble_eq_true rfl) ⟨(Nat.le_of_ble_eq_true rfl), (Nat.le_of_ble_eq_true rfl)⟩ (fun r79 n79 h79 e79 => ?_)
    obtain ⟨rfl, rfl, S79, Q79, O79⟩ := e79
    refine gi_vret C hr (dm_St_enterRoot 42 rfl) ?_
    exact ⟨rfl, rfl, S79, ⟨Rn, Q79⟩, (outW.s Y.2).tr O79⟩
  · have hlt : i < pN P 1 m := by
      rcases Nat.lt_or_ge i (pN P 1 m) with q | q
      · exact q
      · exact absurd (nI_le q (by omega)) c16
    have v0 := yi i (by omega)
    refine gi_aload_n (q := 20) (i := 0) C (dm_St_enterRoot 11 rfl) rfl rfl rfl ?_
    refine gi_get (q := 23) C (dm_St_enterRoot 12 rfl) rfl fl_St_58 Y.ob rfl ?_
    refine gi_iload_n (q := 24) (i := 1) C (dm_St_enterRoot 13 rfl) rfl rfl rfl ?_
    refine gi_iload_n (q := 25) (i := 2) C (dm_St_enterRoot 14 rfl) rfl rfl rfl ?_
    refine gi_callv 2 (q := 28) C (dm_St_enterRoot 15 rfl) rfl my_Pr_holdsArray lk_St_109 im_Pr_holdsArray rfl (q_holds W hm (i := i) (by omega) Hpy) Hpy.1 rfl rfl ⟨(Nat.le_of_ble_eq_true rfl), (Nat.le_of_ble_eq_true rfl)⟩ (Nat.le_of_ble_eq_true rfl) ⟨(Nat.le_of_ble_eq_true rfl), (Nat.le_of_ble_eq_true rfl)⟩ (fun r25 n25 h25 e25 => ?_)
    obtain ⟨rfl, q25, u25⟩ := e25
    rw [q25, u25]
    refine gi_if_eq (q := 31) (tgt := 47) C (dm_St_enterRoot 16 rfl) rfl (by decide) (fun c28 => ?_) (fun c28 => ?_)
    · refine gi_aload_n (q := 48) (i := 0) C (dm_St_enterRoot 25 rfl) rfl rfl rfl ?_
      refine gi_get (q := 51) C (dm_St_enterRoot 26 rfl) rfl fl_St_30 Y.ob rfl ?_
      refine gi_iload_n (q := 52) (i := 2) C (dm_St_enterRoot 27 rfl) rfl rfl rfl ?_
      refine gi_callv 1 (q := 55) C (dm_St_enterRoot 28 rfl) rfl my_Ro_valueAt lk_St_127 im_Ro_valueAt rfl (c_Ro_valueAt (j := i) (by omega) (by omega) Y.en) Y.en.1 rfl rfl ⟨(Nat.le_of_ble_eq_true rfl), (Nat.le_of_ble_eq_true rfl)⟩ (Nat.le_of_ble_eq_true rfl) ⟨(Nat.le_of_ble_eq_true rfl), (Nat.le_of_ble_eq_true rfl)⟩ (fun r52 n52 h52 e52 => ?_)
      obtain ⟨rfl, q52, u52⟩ := e52
      rw [q52, u52]
      refine gi_callv 0 (q := 58) C (dm_St_enterRoot 29 rfl) rfl my_Va_beAll lk_St_131 im_Va_beAll rfl (c_Va_beAll _ _ v0.2.2) v0.2.2 rfl rfl ⟨(Nat.le_of_ble_eq_true rfl), (Nat.le_of_ble_eq_true rfl)⟩ (Nat.le_of_ble_eq_true rfl) ⟨(Nat.le_of_ble_eq_true rfl), (Nat.le_of_ble_eq_true rfl)⟩ (fun r55 n55 h55 e55 => ?_)
      obtain ⟨rfl, rfl, rfl⟩ := e55
      refine gi_iinc (q := 61) (v := 1) C (dm_St_enterRoot 30 rfl) rfl rfl (by decide) (Nat.le_of_ble_eq_true rfl) ?_
      refine gi_goto (tgt := 7) C (dm_St_enterRoot 31 rfl) (by decide) ?_
      have va := v0.1
      have vb := v0.2.1
      first
        | (have kt := bI_t c28
           refine gi_close (ih (i + 1, rV Rn i (eA (.inr (1, true)))) _ ⟨hlt, Y.rEn (Y.en.v (show i < 14 by omega) (tV 1 true)) (outR.rf.up (by omega) (by omega)), (G.val (j := i) (.inr (1, true))).ext (fun j hj => ?_)⟩ (by simp only; omega)) (List.forall_mem_cons.mpr ⟨(by simp [gi_look, nI_1]), List.forall_mem_cons.mpr ⟨rfl, List.forall_mem_cons.mpr ⟨rfl, fun _ h => absurd h List.not_mem_nil⟩⟩⟩) rfl rfl rfl
           by_cases z : j = i
           · subst z
             rw [upF_self, if_neg (by omega), if_pos (by omega)]
             unfold entE rtF
             rw [if_pos kt, if_pos kt, if_pos hlt]
           · rw [upF_ne z]
             by_cases z2 : j < i
             · rw [if_pos z2, if_pos (by omega)]
             · rw [if_neg z2, if_neg (by omega)])
        | (have kt := bI_fa c28
           refine gi_close (ih (i + 1, rV Rn i (eA (.inl allS))) _ ⟨hlt, Y.rEn (Y.en.v (show i < 14 by omega) (sV allS)) (outR.rf.up (by omega) (by omega)), (G.val (j := i) (.inl allS)).ext (fun j hj => ?_)⟩ (by simp only; omega)) (List.forall_mem_cons.mpr ⟨(by simp [gi_look, nI_1]), List.forall_mem_cons.mpr ⟨rfl, List.forall_mem_cons.mpr ⟨rfl, fun _ h => absurd h List.not_mem_nil⟩⟩⟩) rfl rfl rfl
           by_cases z : j = i
           · subst z
             rw [upF_self, if_neg (by omega), if_pos (by omega)]
             unfold entE rtF
             rw [if_neg (by simp [kt]), if_neg (by simp [kt]), if_pos hlt]
           · rw [upF_ne z]
             by_cases z2 : j < i
             · rw [if_pos z2, if_pos (by omega)]
             · rw [if_neg z2, if_neg (by omega)])
    · refine gi_aload_n (q := 32) (i := 0) C (dm_St_enterRoot 17 rfl) rfl rfl rfl ?_
      refine gi_get (q := 35) C (dm_St_enterRoot 18 rfl) rfl fl_St_30 Y.ob rfl ?_
      refine gi_iload_n (q := 36) (i := 2) C (dm_St_enterRoot 19 rfl) rfl rfl rfl ?_
      refine gi_callv 1 (q := 39) C (dm_St_enterRoot 20 rfl) rfl my_Ro_valueAt lk_St_127 im_Ro_valueAt rfl (c_Ro_valueAt (j := i) (by omega) (by omega) Y.en) Y.en.1 rfl rfl ⟨(Nat.le_of_ble_eq_true rfl), (Nat.le_of_ble_eq_true rfl)⟩ (Nat.le_of_ble_eq_true rfl) ⟨(Nat.le_of_ble_eq_true rfl), (Nat.le_of_ble_eq_true rfl)⟩ (fun r36 n36 h36 e36 => ?_)
      obtain ⟨rfl, q36, u36⟩ := e36
      rw [q36, u36]
      refine gi_iconst (q := 40) (v := 1) C (dm_St_enterRoot 21 rfl) rfl (by decide) ?_
      refine gi_iconst (q := 41) (v := 1) C (dm_St_enterRoot 22 rfl) rfl (by decide) ?_
      refine gi_callv 2 (q := 44) C (dm_St_enterRoot 23 rfl) rfl my_Va_beSet lk_St_113 im_Va_beSet rfl (c_Va_beSet _ _ 1 true v0.2.2) v0.2.2 rfl rfl ⟨(Nat.le_of_ble_eq_true rfl), (Nat.le_of_ble_eq_true rfl)⟩ (Nat.le_of_ble_eq_true rfl) ⟨(Nat.le_of_ble_eq_true rfl), (Nat.le_of_ble_eq_true rfl)⟩ (fun r41 n41 h41 e41 => ?_)
      obtain ⟨rfl, rfl, rfl⟩ := e41
      refine gi_goto (tgt := 58) C (dm_St_enterRoot 24 rfl) (by decide) ?_
      refine gi_iinc (q := 61) (v := 1) C (dm_St_enterRoot 30 rfl) rfl rfl (by decide) (Nat.le_of_ble_eq_true rfl) ?_
      refine gi_goto (tgt := 7) C (dm_St_enterRoot 31 rfl) (by decide) ?_
      have va := v0.1
      have vb := v0.2.1
      first
        | (have kt := bI_t c28
           refine gi_close (ih (i + 1, rV Rn i (eA (.inr (1, true)))) _ ⟨hlt, Y.rEn (Y.en.v (show i < 14 by omega) (tV 1 true)) (outR.rf.up (by omega) (by omega)), (G.val (j := i) (.inr (1, true))).ext (fun j hj => ?_)⟩ (by simp only; omega)) (List.forall_mem_cons.mpr ⟨(by simp [gi_look, nI_1]), List.forall_mem_cons.mpr ⟨rfl, List.forall_mem_cons.mpr ⟨rfl, fun _ h => absurd h List.not_mem_nil⟩⟩⟩) rfl rfl rfl
           by_cases z : j = i
           · subst z
             rw [upF_self, if_neg (by omega), if_pos (by omega)]
             unfold entE rtF
             rw [if_pos kt, if_pos kt, if_pos hlt]
           · rw [upF_ne z]
             by_cases z2 : j < i
             · rw [if_pos z2, if_pos (by omega)]
             · rw [if_neg z2, if_neg (by omega)])
        | (have kt := bI_fa c28
           refine gi_close (ih (i + 1, rV Rn i (eA (.inl allS))) _ ⟨hlt, Y.rEn (Y.en.v (show i < 14 by omega) (sV allS)) (outR.rf.up (by omega) (by omega)), (G.val (j := i) (.inl allS)).ext (fun j hj => ?_)⟩ (by simp only; omega)) (List.forall_mem_cons.mpr ⟨(by simp [gi_look, nI_1]), List.forall_mem_cons.mpr ⟨rfl, List.forall_mem_cons.mpr ⟨rfl, fun _ h => absurd h List.not_mem_nil⟩⟩⟩) rfl rfl rfl
           by_cases z : j = i
           · subst z
             rw [upF_self, if_neg (by omega), if_pos (by omega)]
             unfold entE rtF
             rw [if_neg (by simp [kt]), if_neg (by simp [kt]), if_pos hlt]
           · rw [upF_ne z]
             by_cases z2 : j < i
             · rw [if_pos z2, if_pos (by omega)]
             · rw [if_neg z2, if_neg (by omega)])
end ST3
