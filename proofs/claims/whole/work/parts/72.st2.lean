-- needs: 71
section ST2
variable {l : Launch} {V : gi_V} {n : Nat} {h h' h0 : gi_H} {a pr bu fr to k m : Nat} {P : Pm} {S : Nat → Int32} {x y nx ny ar ou be ab : mV} {Wk Wy En Lo : mR}
theorem pr_at.keep2 {pr : Nat} {c : Int32} {F : Nat → Nat → Int32} {h h' : gi_H} (H : pr_at pr c F h) (ho : ∀ b, pr ≤ b → b < pr + 8 → h' b = h b) : pr_at pr c F h' := by
  obtain ⟨p0, p1, p2, p3, p4, p5, p6, p7⟩ := H
  exact ⟨by rw [ho _ (by omega) (by omega)]; exact p0, by rw [ho _ (by omega) (by omega)]; exact p1, by rw [ho _ (by omega) (by omega)]; exact p2, by rw [ho _ (by omega) (by omega)]; exact p3, by rw [ho _ (by omega) (by omega)]; exact p4, by rw [ho _ (by omega) (by omega)]; exact p5, by rw [ho _ (by omega) (by omega)]; exact p6, by rw [ho _ (by omega) (by omega)]; exact p7⟩
/-- the locals of a method that begins -/
def entE (P : Pm) (m : Nat) : Nat → Sl := fun i => if kdB P m i = true then (.inr (0, true), -1) else (.inl (0, 0, 0), -1)
set_option maxHeartbeats 4000000 in
set_option maxRecDepth 100000 in
theorem c_St_openEntry (Q : stO a pr bu fr to h0 S x y nx ny ar ou be ab Wk Wy En Lo h) (W : wfP k P) (hm : m < k) (Hp : pr_at pr (nI k) P h0) (dpr : pr + 8 ≤ a ∨ a + 65 ≤ pr) : gi_T l V y_St_openEntry b_St_openEntry 4 none 3 62 0 0 [.ref a, .int (nI m)] n h (fun v n' h' => v = none ∧ n' = n ∧ ∃ En', stO a pr bu fr to h0 S x y nx ny ar ou be ab Wk Wy En' Lo h' ∧ isG En' (pN P 2 m) (entE P m)) := by
  refine gi_enter (by decide) (Nat.le_of_ble_eq_true rfl) ?_
  intro _ _ _ _ _ _ _ _ C hr hnm
  have p0 := Q.ob
  have E := Q.en
  have e0 := E.1
  have wm := wf_ar W hm
  refine gi_aload_n (q := 1) (i := 0) C (dm_St_openEntry 0 rfl) rfl rfl rfl ?_
  refine gi_get (q := 4) C (dm_St_openEntry 1 rfl) rfl fl_St_30 (by repeat (first | exact gi_up_self _ _ _ | assumption | rw [gi_up_ne (by omega)])) rfl ?_
  refine gi_iconst (q := 5) (v := 0) C (dm_St_openEntry 2 rfl) rfl (by decide) ?_
  refine gi_put (q := 8) C (dm_St_openEntry 3 rfl) rfl fl_St_92 fp_Ro_2 (by repeat (first | exact gi_up_self _ _ _ | assumption | rw [gi_up_ne (by omega)])) (Nat.le_of_ble_eq_true rfl) rfl rfl ?_
  refine gi_iconst (q := 9) (v := 0) C (dm_St_openEntry 4 rfl) rfl (by decide) ?_
  refine gi_istore_n (q := 10) (i := 2) C (dm_St_openEntry 5 rfl) rfl rfl (Nat.le_of_ble_eq_true rfl) ?_
  have T := E.o 0 En.2.2.1 En.2.2.2.1
  refine gi_while (σ := Nat × mR) (fun p => pN P 2 m - p.1) (fun p => [(2, .int (nI p.1)), (0, .ref a), (1, .int (nI m))]) (fun _ => n) (fun _ => 0) (fun _ => 0) (fun p y' => p.1 ≤ pN P 2 m ∧ stO a pr bu fr to h0 S x y nx ny ar ou be ab Wk Wy p.2 Lo y' ∧ isG p.2 p.1 (entE P m)) (0, rO En 0 En.2.2.1 En.2.2.2.1) ⟨Nat.zero_le _, Q.rEn T (outR.rf.up (by omega) (by omega)), rfl, fun j hj => absurd hj (by simp)⟩ ?_ (List.forall_mem_cons.mpr ⟨rfl, List.forall_mem_cons.mpr ⟨rfl, List.forall_mem_cons.mpr ⟨rfl, fun _ h => absurd h List.not_mem_nil⟩⟩⟩) rfl rfl rfl
  rintro ⟨i, Rn⟩ y' ⟨hi, Y, G⟩ ih
  try dsimp only at *
  have Hpy := Hp.keep2 (h' := y') (fun b b1 b2 => Y.2 b (by omega))
  refine gi_iload_n (q := 11) (i := 2) C (dm_St_openEntry 6 rfl) rfl rfl rfl ?_
  refine gi_aload_n (q := 12) (i := 0) C (dm_St_openEntry 7 rfl) rfl rfl rfl ?_
  refine gi_get (q := 15) C (dm_St_openEntry 8 rfl) rfl fl_St_58 Y.ob rfl ?_
  refine gi_iload_n (q := 16) (i := 1) C (dm_St_openEntry 9 rfl) rfl rfl rfl ?_
  refine gi_callv 1 (q := 19) C (dm_St_openEntry 10 rfl) rfl my_Pr_localsOf lk_St_103 im_Pr_localsOf rfl (q_locals W hm Hpy) Hpy.1 rfl rfl ⟨(Nat.le_of_ble_eq_true rfl), (Nat.le_of_ble_eq_true rfl)⟩ (Nat.le_of_ble_eq_true rfl) ⟨(Nat.le_of_ble_eq_true rfl), (Nat.le_of_ble_eq_true rfl)⟩ (fun r16 n16 h16 e16 => ?_)
  obtain ⟨rfl, q16, u16⟩ := e16
  rw [q16, u16]
  refine gi_icmp_ge (q := 22) (tgt := 62) C (dm_St_openEntry 11 rfl) rfl (by decide) (fun c19 => ?_) (fun c19 => ?_)
  · have hik : i = pN P 2 m := by
      rcases Nat.lt_or_ge i (pN P 2 m) with q | q
      · exact absurd c19 (Int32.not_le.mpr (nI_lt q (by omega)))
      · omega
    subst hik
    refine gi_vret C hr (dm_St_openEntry 32 rfl) ?_
    exact ⟨rfl, rfl, Rn, Y, G⟩
  · have hlt : i < pN P 2 m := by
      rcases Nat.lt_or_ge i (pN P 2 m) with q | q
      · exact q
      · exact absurd (nI_le q (by omega)) c19
    refine gi_aload_n (q := 23) (i := 0) C (dm_St_openEntry 12 rfl) rfl rfl rfl ?_
    refine gi_get (q := 26) C (dm_St_openEntry 13 rfl) rfl fl_St_30 Y.ob rfl ?_
    refine gi_callv 0 (q := 29) C (dm_St_openEntry 14 rfl) rfl my_Ro_push lk_St_95 im_Ro_push rfl (c_Ro_push (s := i) (by omega) (by omega) Y.en G.1) Y.en.1 rfl rfl ⟨(Nat.le_of_ble_eq_true rfl), (Nat.le_of_ble_eq_true rfl)⟩ (Nat.le_of_ble_eq_true rfl) ⟨(Nat.le_of_ble_eq_true rfl), (Nat.le_of_ble_eq_true rfl)⟩ (fun r26 n26 h26 e26 => ?_)
    obtain ⟨rfl, rfl, S26, O26⟩ := e26
    have Q26 := Y.rEn S26 O26
    have V0 := S26.2.2.2.1 i (by omega)
    have Hp2 := Hp.keep2 (h' := h26) (fun b b1 b2 => Q26.2 b (by omega))
    refine gi_astore_n (q := 30) (i := 3) C (dm_St_openEntry 15 rfl) rfl rfl (Nat.le_of_ble_eq_true rfl) ?_
    refine gi_aload_n (q := 31) (i := 0) C (dm_St_openEntry 16 rfl) rfl rfl rfl ?_
    refine gi_get (q := 34) C (dm_St_openEntry 17 rfl) rfl fl_St_58 Q26.ob rfl ?_
    refine gi_iload_n (q := 35) (i := 1) C (dm_St_openEntry 18 rfl) rfl rfl rfl ?_
    refine gi_iload_n (q := 36) (i := 2) C (dm_St_openEntry 19 rfl) rfl rfl rfl ?_
    refine gi_callv 2 (q := 39) C (dm_St_openEntry 20 rfl) rfl my_Pr_holdsArray lk_St_109 im_Pr_holdsArray rfl (q_holds W hm (i := i) (by omega) Hp2) Hp2.1 rfl rfl ⟨(Nat.le_of_ble_eq_true rfl), (Nat.le_of_ble_eq_true rfl)⟩ (Nat.le_of_ble_eq_true rfl) ⟨(Nat.le_of_ble_eq_true rfl), (Nat.le_of_ble_eq_true rfl)⟩ (fun r36 n36 h36 e36 => ?_)
    obtain ⟨rfl, q36, u36⟩ := e36
    rw [q36, u36]
    refine gi_if_eq (q := 42) (tgt := 51) C (dm_St_openEntry 21 rfl) rfl (by decide) (fun c39 => ?_) (fun c39 => ?_)
    · refine gi_aload_n (q := 52) (i := 3) C (dm_St_openEntry 27 rfl) rfl rfl rfl ?_
      refine gi_lconst (q := 53) (v := 0) C (dm_St_openEntry 28 rfl) rfl (by decide) ?_
      rw [eL_0]
      refine gi_callv 1 (q := 56) C (dm_St_openEntry 29 rfl) rfl my_Va_beSingle lk_St_117 im_Va_beSingle rfl (c_Va_beSingle _ _ 0 V0.2.2) V0.2.2 rfl rfl ⟨(Nat.le_of_ble_eq_true rfl), (Nat.le_of_ble_eq_true rfl)⟩ (Nat.le_of_ble_eq_true rfl) ⟨(Nat.le_of_ble_eq_true rfl), (Nat.le_of_ble_eq_true rfl)⟩ (fun r53 n53 h53 e53 => ?_)
      obtain ⟨rfl, rfl, rfl⟩ := e53
      refine gi_iinc (q := 59) (v := 1) C (dm_St_openEntry 30 rfl) rfl rfl (by decide) (Nat.le_of_ble_eq_true rfl) ?_
      refine gi_goto (tgt := 10) C (dm_St_openEntry 31 rfl) (by decide) ?_
      have va := V0.1
      have vb := V0.2.1
      first
        | (have kt := bI_t c39
           refine gi_close (ih (i + 1, rV (rM (rO Rn (nI (i + 1)) Rn.2.2.1 Rn.2.2.2.1) i (-1)) i (eA (.inr (0, true)))) _ ⟨hlt, Q26.rEn (S26.v (show i < 14 by omega) (tV 0 true)) (outR.rf.up (by omega) (by omega)), (G.push (.inr (0, true)) (-1) _ _).ext (fun j hj => ?_)⟩ (by simp only; omega)) (List.forall_mem_cons.mpr ⟨(by simp [gi_look, nI_1]), List.forall_mem_cons.mpr ⟨rfl, List.forall_mem_cons.mpr ⟨rfl, fun _ h => absurd h List.not_mem_nil⟩⟩⟩) rfl rfl rfl
           by_cases z : j = i
           · subst z
             rw [upF_self]
             unfold entE
             rw [if_pos kt]
           · rw [upF_ne z])
        | (have kt := bI_fa c39
           refine gi_close (ih (i + 1, rV (rM (rO Rn (nI (i + 1)) Rn.2.2.1 Rn.2.2.2.1) i (-1)) i (eA (.inl (0, 0, 0)))) _ ⟨hlt, Q26.rEn (S26.v (show i < 14 by omega) (sV (0, 0, 0))) (outR.rf.up (by omega) (by omega)), (G.push (.inl (0, 0, 0)) (-1) _ _).ext (fun j hj => ?_)⟩ (by simp only; omega)) (List.forall_mem_cons.mpr ⟨(by simp [gi_look, nI_1]), List.forall_mem_cons.mpr ⟨rfl, List.forall_mem_cons.mpr ⟨rfl, fun _ h => absurd h List.not_mem_nil⟩⟩⟩) rfl rfl rfl
           by_cases z : j = i
           · subst z
             rw [upF_self]
             unfold entE
             rw [if_neg (by simp [kt])]
           · rw [upF_ne z])
    · refine gi_aload_n (q := 43) (i := 3) C (dm_St_openEntry 22 rfl) rfl rfl rfl ?_
      refine gi_iconst (q := 44) (v := 0) C (dm_St_openEntry 23 rfl) rfl (by decide) ?_
      refine gi_iconst (q := 45) (v := 1) C (dm_St_openEntry 24 rfl) rfl (by decide) ?_
      refine gi_callv 2 (q := 48) C (dm_St_openEntry 25 rfl) rfl my_Va_beSet lk_St_113 im_Va_beSet rfl (c_Va_beSet _ _ 0 true V0.2.2) V0.2.2 rfl rfl ⟨(Nat.le_of_ble_eq_true rfl), (Nat.le_of_ble_eq_true rfl)⟩ (Nat.le_of_ble_eq_true rfl) ⟨(Nat.le_of_ble_eq_true rfl), (Nat.le_of_ble_eq_true rfl)⟩ (fun r45 n45 h45 e45 => ?_)
      obtain ⟨rfl, rfl, rfl⟩ := e45
      refine gi_goto (tgt := 56) C (dm_St_openEntry 26 rfl) (by decide) ?_
      refine gi_iinc (q := 59) (v := 1) C (dm_St_openEntry 30 rfl) rfl rfl (by decide) (Nat.le_of_ble_eq_true rfl) ?_
      refine gi_goto (tgt := 10) C (dm_St_openEntry 31 rfl) (by decide) ?_
      have va := V0.1
      have vb := V0.2.1
      first
        | (have kt := bI_t c39
           refine gi_close (ih (i + 1, rV (rM (rO Rn (nI (i + 1)) Rn.2.2.1 Rn.2.2.2.1) i (-1)) i (eA (.inr (0, true)))) _ ⟨hlt, Q26.rEn (S26.v (show i < 14 by omega) (tV 0 true)) (outR.rf.up (by omega) (by omega)), (G.push (.inr (0, true)) (-1) _ _).ext (fun j hj => ?_)⟩ (by simp only; omega)) (List.forall_mem_cons.mpr ⟨(by simp [gi_look, nI_1]), List.forall_mem_cons.mpr ⟨rfl, List.forall_mem_cons.mpr ⟨rfl, fun _ h => absurd h List.not_mem_nil⟩⟩⟩) rfl rfl rfl
           by_cases z : j = i
           · subst z
             rw [upF_self]
             unfold entE
             rw [if_pos kt]
           · rw [upF_ne z])
        | (have kt := bI_fa c39
           refine gi_close (ih (i + 1, rV (rM (rO Rn (nI (i + 1)) Rn.2.2.1 Rn.2.2.2.1) i (-1)) i (eA (.inl (0, 0, 0)))) _ ⟨hlt, Q26.rEn (S26.v (show i < 14 by omega) (sV (0, 0, 0))) (outR.rf.up (by omega) (by omega)), (G.push (.inl (0, 0, 0)) (-1) _ _).ext (fun j hj => ?_)⟩ (by simp only; omega)) (List.forall_mem_cons.mpr ⟨(by simp [gi_look, nI_1]), List.forall_mem_cons.mpr ⟨rfl, List.forall_mem_cons.mpr ⟨rfl, fun _ h => absurd h List.not_mem_nil⟩⟩⟩) rfl rfl rfl
           by_cases z : j = i
           · subst z
             rw [upF_self]
             unfold entE
             rw [if_neg (by simp [kt])]
           · rw [upF_ne z])
end ST2
