-- needs: 89.43
section GI2
variable {l : Launch} {V : gi_V} {n : Nat} {h h' h0 : gi_H} {a pr bu fa gv k c : Nat} {sx wt tp wr st : Int32} {F G : Nat → Nat → Int32} {S : Nat → Int32} {J Jx : Nat → Int64} {H : Hp} {z : Mc} {P : Pm} {sn : Nat → Nat} {wd wd0 : Nat → Bool} {Fc : Fa} {Φ : Nat → mR} {sh : Nat → Option Sh}
/-- whether what is given fits a method -/
def ftG (P : Pm) (m c : Nat) (G : Nat → Nat → Int32) : Bool := decide (pN P 1 m = c) && (List.range c).all (fun i => kdB P m i != decide (G 1 i = 0))
theorem gv_keep (H : gv_at gv S G h) (ho : ∀ b, gv ≤ b → b < gv + 4 → h' b = h b) : gv_at gv S G h' := by
  obtain ⟨p0, p1, p2, p3⟩ := H
  exact ⟨(ho _ (by omega) (by omega)).trans p0, (ho _ (by omega) (by omega)).trans p1, (ho _ (by omega) (by omega)).trans p2, (ho _ (by omega) (by omega)).trans p3⟩
set_option maxHeartbeats 4000000 in
set_option maxRecDepth 100000 in
theorem c_Gi_kindOf {j : Nat} (hj : j < c) (hc : c ≤ 3) (hS : S 0 = nI c) (HG : gv_at gv S G h) : gi_T l V y_Gi_kindOf b_Gi_kindOf 2 (some .int) 0 0 0 0 [.ref gv, .int (nI j)] n h (gi_is (some (.int (G 1 j))) n h) := by
  refine gi_enter (by decide) (Nat.le_of_ble_eq_true rfl) ?_
  intro _ _ _ _ _ _ _ _ C hr hnm
  refine gi_iload_n (q := 1) (i := 1) C (dm_Gi_kindOf 0 rfl) rfl rfl rfl ?_
  refine gi_if_lt (q := 4) (tgt := 21) C (dm_Gi_kindOf 1 rfl) rfl (by decide) (fun c1 => ?_) (fun c1 => ?_)
  · exact absurd c1 (Int32.not_lt.mpr (nI_le (a := 0) (Nat.zero_le _) (by omega)))
  · refine gi_iload_n (q := 5) (i := 1) C (dm_Gi_kindOf 2 rfl) rfl rfl rfl ?_
    refine gi_aload_n (q := 6) (i := 0) C (dm_Gi_kindOf 3 rfl) rfl rfl rfl ?_
    refine gi_get (q := 9) C (dm_Gi_kindOf 4 rfl) rfl fl_Gi_21 HG.1 rfl ?_
    refine gi_icmp_ge (q := 12) (tgt := 21) C (dm_Gi_kindOf 5 rfl) rfl (by decide) (fun c9 => ?_) (fun c9 => ?_)
    · exact absurd (nI_lt hj (by omega)) (Int32.not_lt.mpr (by rw [← hS]; exact c9))
    · refine gi_aload_n (q := 13) (i := 0) C (dm_Gi_kindOf 6 rfl) rfl rfl rfl ?_
      refine gi_get (q := 16) C (dm_Gi_kindOf 7 rfl) rfl fl_Gi_9 HG.1 rfl ?_
      refine gi_iload_n (q := 17) (i := 1) C (dm_Gi_kindOf 8 rfl) rfl rfl rfl ?_
      refine gi_iald (q := 18) C (dm_Gi_kindOf 9 rfl) rfl rfl HG.2.1 (inN (show j < 3 by omega) (by decide)) ?_
      refine gi_goto (tgt := 22) C (dm_Gi_kindOf 10 rfl) (by decide) ?_
      refine gi_iret C hr (dm_Gi_kindOf 12 rfl) ?_
      refine ⟨?_, rfl, rfl⟩
      rw [nI_clamp (by omega)]
set_option maxHeartbeats 4000000 in
set_option maxRecDepth 100000 in
theorem c_Gi_valueOf {j : Nat} (hj : j < c) (hc : c ≤ 3) (hS : S 0 = nI c) (HG : gv_at gv S G h) : gi_T l V y_Gi_valueOf b_Gi_valueOf 2 (some .int) 0 0 0 0 [.ref gv, .int (nI j)] n h (gi_is (some (.int (G 2 j))) n h) := by
  refine gi_enter (by decide) (Nat.le_of_ble_eq_true rfl) ?_
  intro _ _ _ _ _ _ _ _ C hr hnm
  refine gi_iload_n (q := 1) (i := 1) C (dm_Gi_valueOf 0 rfl) rfl rfl rfl ?_
  refine gi_if_lt (q := 4) (tgt := 21) C (dm_Gi_valueOf 1 rfl) rfl (by decide) (fun c1 => ?_) (fun c1 => ?_)
  · exact absurd c1 (Int32.not_lt.mpr (nI_le (a := 0) (Nat.zero_le _) (by omega)))
  · refine gi_iload_n (q := 5) (i := 1) C (dm_Gi_valueOf 2 rfl) rfl rfl rfl ?_
    refine gi_aload_n (q := 6) (i := 0) C (dm_Gi_valueOf 3 rfl) rfl rfl rfl ?_
    refine gi_get (q := 9) C (dm_Gi_valueOf 4 rfl) rfl fl_Gi_21 HG.1 rfl ?_
    refine gi_icmp_ge (q := 12) (tgt := 21) C (dm_Gi_valueOf 5 rfl) rfl (by decide) (fun c9 => ?_) (fun c9 => ?_)
    · exact absurd (nI_lt hj (by omega)) (Int32.not_lt.mpr (by rw [← hS]; exact c9))
    · refine gi_aload_n (q := 13) (i := 0) C (dm_Gi_valueOf 6 rfl) rfl rfl rfl ?_
      refine gi_get (q := 16) C (dm_Gi_valueOf 7 rfl) rfl fl_Gi_15 HG.1 rfl ?_
      refine gi_iload_n (q := 17) (i := 1) C (dm_Gi_valueOf 8 rfl) rfl rfl rfl ?_
      refine gi_iald (q := 18) C (dm_Gi_valueOf 9 rfl) rfl rfl HG.2.2.1 (inN (show j < 3 by omega) (by decide)) ?_
      refine gi_goto (tgt := 22) C (dm_Gi_valueOf 10 rfl) (by decide) ?_
      refine gi_iret C hr (dm_Gi_valueOf 12 rfl) ?_
      refine ⟨?_, rfl, rfl⟩
      rw [nI_clamp (by omega)]
set_option maxHeartbeats 4000000 in
set_option maxRecDepth 100000 in
theorem c_Gi_intAt {j i len : Nat} (hj : j < c) (g1 : G 1 j = 1) (g2 : G 2 j = nI len) (hl : len ≤ 200) (hi : i < len) (hc : c ≤ 3) (hS : S 0 = nI c) (HG : gv_at gv S G h) : gi_T l V y_Gi_intAt b_Gi_intAt 3 (some .int) 1 21 0 0 [.ref gv, .int (nI j), .int (nI i)] n h (gi_is (some (.int (G 3 (200 * j + i)))) n h) := by
  refine gi_enter (by decide) (Nat.le_of_ble_eq_true rfl) ?_
  intro _ _ _ _ _ _ _ _ C hr hnm
  refine gi_aload_n (q := 1) (i := 0) C (dm_Gi_intAt 0 rfl) rfl rfl rfl ?_
  refine gi_iload_n (q := 2) (i := 1) C (dm_Gi_intAt 1 rfl) rfl rfl rfl ?_
  refine gi_callv 1 (q := 5) C (dm_Gi_intAt 2 rfl) rfl my_Gi_kindOf lk_Gi_35 im_Gi_kindOf rfl (c_Gi_kindOf hj hc hS HG) HG.1 rfl rfl ⟨(Nat.le_of_ble_eq_true rfl), (Nat.le_of_ble_eq_true rfl)⟩ (Nat.le_of_ble_eq_true rfl) ⟨(Nat.le_of_ble_eq_true rfl), (Nat.le_of_ble_eq_true rfl)⟩ (fun r2 n2 h2 e2 => ?_)
  obtain ⟨rfl, q2, u2⟩ := e2
  rw [q2, u2]
  refine gi_iconst (q := 6) (v := 1) C (dm_Gi_intAt 3 rfl) rfl (by decide) ?_
  refine gi_icmp_ne (q := 9) (tgt := 38) C (dm_Gi_intAt 4 rfl) rfl (by decide) (fun c6 => ?_) (fun c6 => ?_)
  · exact absurd g1 c6
  · refine gi_iload_n (q := 10) (i := 2) C (dm_Gi_intAt 5 rfl) rfl rfl rfl ?_
    refine gi_if_lt (q := 13) (tgt := 38) C (dm_Gi_intAt 6 rfl) rfl (by decide) (fun c10 => ?_) (fun c10 => ?_)
    · exact absurd c10 (Int32.not_lt.mpr (nI_le (a := 0) (Nat.zero_le _) (by omega)))
    · refine gi_iload_n (q := 14) (i := 2) C (dm_Gi_intAt 7 rfl) rfl rfl rfl ?_
      refine gi_aload_n (q := 15) (i := 0) C (dm_Gi_intAt 8 rfl) rfl rfl rfl ?_
      refine gi_get (q := 18) C (dm_Gi_intAt 9 rfl) rfl fl_Gi_15 HG.1 rfl ?_
      refine gi_iload_n (q := 19) (i := 1) C (dm_Gi_intAt 10 rfl) rfl rfl rfl ?_
      refine gi_iald (q := 20) C (dm_Gi_intAt 11 rfl) rfl rfl HG.2.2.1 (inN (show j < 3 by omega) (by decide)) ?_
      rw [nI_clamp (show j < 2 ^ 31 by omega)]
      refine gi_icmp_ge (q := 23) (tgt := 38) C (dm_Gi_intAt 12 rfl) rfl (by decide) (fun c20 => ?_) (fun c20 => ?_)
      · exact absurd (nI_lt hi (by omega)) (Int32.not_lt.mpr (by rw [← g2]; exact c20))
      · refine gi_aload_n (q := 24) (i := 0) C (dm_Gi_intAt 13 rfl) rfl rfl rfl ?_
        refine gi_get (q := 27) C (dm_Gi_intAt 14 rfl) rfl fl_Gi_18 HG.1 rfl ?_
        refine gi_iload_n (q := 28) (i := 1) C (dm_Gi_intAt 15 rfl) rfl rfl rfl ?_
        refine gi_sipush (q := 31) (v := 200) C (dm_Gi_intAt 16 rfl) rfl (by decide) ?_
        refine gi_imul (q := 32) C (dm_Gi_intAt 17 rfl) rfl ?_
        rw [show (200 : Int32) = nI 200 from rfl, nI_ml]
        refine gi_iload_n (q := 33) (i := 2) C (dm_Gi_intAt 18 rfl) rfl rfl rfl ?_
        refine gi_iadd (q := 34) C (dm_Gi_intAt 19 rfl) rfl ?_
        rw [nI_add]
        refine gi_iald (q := 35) C (dm_Gi_intAt 20 rfl) rfl rfl HG.2.2.2 (inN (show j * 200 + i < 600 by omega) (by decide)) ?_
        refine gi_goto (tgt := 39) C (dm_Gi_intAt 21 rfl) (by decide) ?_
        refine gi_iret C hr (dm_Gi_intAt 23 rfl) ?_
        refine ⟨?_, rfl, rfl⟩
        rw [nI_clamp (by omega), Nat.mul_comm j 200]
set_option maxHeartbeats 4000000 in
set_option maxRecDepth 100000 in
theorem c_Gi_fits {m : Nat} (W : wfP k P) (hm : m < k) (HP : pr_at pr (nI k) P h) (hc : c ≤ 3) (hS : S 0 = nI c) (HG : gv_at gv S G h) : gi_T l V y_Gi_fits b_Gi_fits 4 (some .boolean) 2 43 0 0 [.ref gv, .ref pr, .int (nI m)] n h (gi_is (some (.int (bI (ftG P m c G)))) n h) := by
  refine gi_enter (by decide) (Nat.le_of_ble_eq_true rfl) ?_
  intro _ _ _ _ _ _ _ _ C hr hnm
  have wm := wf_ar W hm
  refine gi_aload_n (q := 1) (i := 1) C (dm_Gi_fits 0 rfl) rfl rfl rfl ?_
  refine gi_iload_n (q := 2) (i := 2) C (dm_Gi_fits 1 rfl) rfl rfl rfl ?_
  refine gi_callv 1 (q := 5) C (dm_Gi_fits 2 rfl) rfl my_Pr_argumentsOf lk_Gi_25 im_Pr_argumentsOf rfl (q_args W hm HP) HP.1 rfl rfl ⟨(Nat.le_of_ble_eq_true rfl), (Nat.le_of_ble_eq_true rfl)⟩ (Nat.le_of_ble_eq_true rfl) ⟨(Nat.le_of_ble_eq_true rfl), (Nat.le_of_ble_eq_true rfl)⟩ (fun r2 n2 h2 e2 => ?_)
  obtain ⟨rfl, q2, u2⟩ := e2
  rw [q2, u2]
  refine gi_aload_n (q := 6) (i := 0) C (dm_Gi_fits 3 rfl) rfl rfl rfl ?_
  refine gi_get (q := 9) C (dm_Gi_fits 4 rfl) rfl fl_Gi_21 HG.1 rfl ?_
  rw [hS]
  refine gi_icmp_eq (q := 12) (tgt := 14) C (dm_Gi_fits 5 rfl) rfl (by decide) (fun c9 => ?_) (fun c9 => ?_)
  · refine gi_iconst (q := 15) (v := 0) C (dm_Gi_fits 8 rfl) rfl (by decide) ?_
    refine gi_istore_n (q := 16) (i := 3) C (dm_Gi_fits 9 rfl) rfl rfl (Nat.le_of_ble_eq_true rfl) ?_
    have ec : pN P 1 m = c := by
      rw [nI_eqP (by omega) (by omega)] at c9
      exact c9
    have et : ftG P m c G = (List.range c).all (fun i => kdB P m i != decide (G 1 i = 0)) := by
      unfold ftG
      rw [decide_eq_true ec, Bool.true_and]
    refine gi_while (σ := Nat) (fun j => c - j) (fun j => [(3, .int (nI j)), (0, .ref gv), (1, .ref pr), (2, .int (nI m))]) (fun _ => n) (fun _ => 0) (fun _ => 0) (fun j y' => j ≤ c ∧ (∀ i, i < j → (kdB P m i != decide (G 1 i = 0)) = true) ∧ h = y') 0 ⟨Nat.zero_le _, fun i hi => absurd hi (by omega), rfl⟩ ?_ (List.forall_mem_cons.mpr ⟨rfl, List.forall_mem_cons.mpr ⟨rfl, List.forall_mem_cons.mpr ⟨rfl, List.forall_mem_cons.mpr ⟨rfl, fun _ h => absurd h List.not_mem_nil⟩⟩⟩⟩) rfl rfl rfl
    rintro j y' ⟨hjc, al, rfl⟩ ih
    try dsimp only at *
    refine gi_iload_n (q := 17) (i := 3) C (dm_Gi_fits 10 rfl) rfl rfl rfl ?_
    refine gi_aload_n (q := 18) (i := 0) C (dm_Gi_fits 11 rfl) rfl rfl rfl ?_
    refine gi_get (q := 21) C (dm_Gi_fits 12 rfl) rfl fl_Gi_21 HG.1 rfl ?_
    rw [hS]
    refine gi_icmp_ge (q := 24) (tgt := 55) C (dm_Gi_fits 13 rfl) rfl (by decide) (fun c21 => ?_) (fun c21 => ?_)
    · have jc : j = c := by
        rcases Nat.lt_or_ge j c with q | q
        · exact absurd c21 (Int32.not_le.mpr (nI_lt q (by omega)))
        · omega
      refine gi_iconst (q := 56) (v := 1) C (dm_Gi_fits 31 rfl) rfl (by decide) ?_
      refine gi_zret C hr (dm_Gi_fits 32 rfl) rfl ?_
      refine ⟨?_, rfl, rfl⟩
      rw [et, show (List.range c).all (fun i => kdB P m i != decide (G 1 i = 0)) = true from by
        rw [List.all_eq_true]
        intro i hi
        exact al i (by have := List.mem_range.mp hi; omega)]
      rfl
    · have jc : j < c := by
        rcases Nat.lt_or_ge j c with q | q
        · exact q
        · exact absurd (nI_le q (by omega)) c21
      refine gi_aload_n (q := 25) (i := 1) C (dm_Gi_fits 14 rfl) rfl rfl rfl ?_
      refine gi_iload_n (q := 26) (i := 2) C (dm_Gi_fits 15 rfl) rfl rfl rfl ?_
      refine gi_iload_n (q := 27) (i := 3) C (dm_Gi_fits 16 rfl) rfl rfl rfl ?_
      refine gi_callv 2 (q := 30) C (dm_Gi_fits 17 rfl) rfl my_Pr_holdsArray lk_Gi_31 im_Pr_holdsArray rfl (q_holds (i := j) W hm (by omega) HP) HP.1 rfl rfl ⟨(Nat.le_of_ble_eq_true rfl), (Nat.le_of_ble_eq_true rfl)⟩ (Nat.le_of_ble_eq_true rfl) ⟨(Nat.le_of_ble_eq_true rfl), (Nat.le_of_ble_eq_true rfl)⟩ (fun r27 n27 h27 e27 => ?_)
      obtain ⟨rfl, q27, u27⟩ := e27
      rw [q27, u27]
      refine gi_aload_n (q := 31) (i := 0) C (dm_Gi_fits 18 rfl) rfl rfl rfl ?_
      refine gi_get (q := 34) C (dm_Gi_fits 19 rfl) rfl fl_Gi_9 HG.1 rfl ?_
      refine gi_iload_n (q := 35) (i := 3) C (dm_Gi_fits 20 rfl) rfl rfl rfl ?_
      refine gi_iald (q := 36) C (dm_Gi_fits 21 rfl) rfl rfl HG.2.1 (inN (show j < 3 by omega) (by decide)) ?_
      rw [nI_clamp (show j < 2 ^ 31 by omega)]
      refine gi_if_ne (q := 39) (tgt := 43) C (dm_Gi_fits 22 rfl) rfl (by decide) (fun c36 => ?_) (fun c36 => ?_)
      · refine gi_iconst (q := 44) (v := 0) C (dm_Gi_fits 25 rfl) rfl (by decide) ?_
        refine gi_icmp_ne (q := 47) (tgt := 49) C (dm_Gi_fits 26 rfl) rfl (by decide) (fun c44 => ?_) (fun c44 => ?_)
        · refine gi_iinc (q := 52) (v := 1) C (dm_Gi_fits 29 rfl) rfl rfl (by decide) (Nat.le_of_ble_eq_true rfl) ?_
          refine gi_goto (tgt := 16) C (dm_Gi_fits 30 rfl) (by decide) ?_
          refine gi_close (ih (j + 1) _ ⟨jc, fun i hi => ?_, rfl⟩ (by omega)) (List.forall_mem_cons.mpr ⟨(by simp [gi_look, nI_1]), List.forall_mem_cons.mpr ⟨rfl, List.forall_mem_cons.mpr ⟨rfl, List.forall_mem_cons.mpr ⟨rfl, fun _ h => absurd h List.not_mem_nil⟩⟩⟩⟩) rfl rfl rfl
          by_cases q : i = j
          · rw [q]
            first
              | (rw [decide_eq_true c36, bI_fa (b := kdB P m j) (by
                  cases e : kdB P m j with
                  | false => rfl
                  | true => rw [e] at c44; exact absurd rfl c44)]; rfl)
              | (rw [decide_eq_false c36, bI_t (b := kdB P m j) (by
                  cases e : kdB P m j with
                  | true => decide
                  | false => rw [e] at c44; exact absurd rfl c44)]; rfl)
          · exact al i (by omega)
        · refine gi_iconst (q := 48) (v := 0) C (dm_Gi_fits 27 rfl) rfl (by decide) ?_
          refine gi_zret C hr (dm_Gi_fits 28 rfl) rfl ?_
          refine ⟨?_, rfl, rfl⟩
          rw [et, show (List.range c).all (fun i => kdB P m i != decide (G 1 i = 0)) = false from by
            rw [List.all_eq_false]
            refine ⟨j, List.mem_range.mpr jc, ?_⟩
            first
              | (rw [decide_eq_true c36, show kdB P m j = true from by
                  cases e : kdB P m j with
                  | true => rfl
                  | false => rw [e] at c44; exact absurd c44 (by decide)]; decide)
              | (rw [decide_eq_false c36, show kdB P m j = false from by
                  cases e : kdB P m j with
                  | false => rfl
                  | true => rw [e] at c44; exact absurd c44 (by decide)]; decide)]
          rfl
      · refine gi_iconst (q := 40) (v := 1) C (dm_Gi_fits 23 rfl) rfl (by decide) ?_
        refine gi_goto (tgt := 44) C (dm_Gi_fits 24 rfl) (by decide) ?_
        refine gi_icmp_ne (q := 47) (tgt := 49) C (dm_Gi_fits 26 rfl) rfl (by decide) (fun c44 => ?_) (fun c44 => ?_)
        · refine gi_iinc (q := 52) (v := 1) C (dm_Gi_fits 29 rfl) rfl rfl (by decide) (Nat.le_of_ble_eq_true rfl) ?_
          refine gi_goto (tgt := 16) C (dm_Gi_fits 30 rfl) (by decide) ?_
          refine gi_close (ih (j + 1) _ ⟨jc, fun i hi => ?_, rfl⟩ (by omega)) (List.forall_mem_cons.mpr ⟨(by simp [gi_look, nI_1]), List.forall_mem_cons.mpr ⟨rfl, List.forall_mem_cons.mpr ⟨rfl, List.forall_mem_cons.mpr ⟨rfl, fun _ h => absurd h List.not_mem_nil⟩⟩⟩⟩) rfl rfl rfl
          by_cases q : i = j
          · rw [q]
            first
              | (rw [decide_eq_true c36, bI_fa (b := kdB P m j) (by
                  cases e : kdB P m j with
                  | false => rfl
                  | true => rw [e] at c44; exact absurd rfl c44)]; rfl)
              | (rw [decide_eq_false c36, bI_t (b := kdB P m j) (by
                  cases e : kdB P m j with
                  | true => decide
                  | false => rw [e] at c44; exact absurd rfl c44)]; rfl)
          · exact al i (by omega)
        · refine gi_iconst (q := 48) (v := 0) C (dm_Gi_fits 27 rfl) rfl (by decide) ?_
          refine gi_zret C hr (dm_Gi_fits 28 rfl) rfl ?_
          refine ⟨?_, rfl, rfl⟩
          rw [et, show (List.range c).all (fun i => kdB P m i != decide (G 1 i = 0)) = false from by
            rw [List.all_eq_false]
            refine ⟨j, List.mem_range.mpr jc, ?_⟩
            first
              | (rw [decide_eq_true c36, show kdB P m j = true from by
                  cases e : kdB P m j with
                  | true => rfl
                  | false => rw [e] at c44; exact absurd c44 (by decide)]; decide)
              | (rw [decide_eq_false c36, show kdB P m j = false from by
                  cases e : kdB P m j with
                  | false => rfl
                  | true => rw [e] at c44; exact absurd c44 (by decide)]; decide)]
          rfl
  · refine gi_iconst (q := 13) (v := 0) C (dm_Gi_fits 6 rfl) rfl (by decide) ?_
    refine gi_zret C hr (dm_Gi_fits 7 rfl) rfl ?_
    refine ⟨?_, rfl, rfl⟩
    unfold ftG
    rw [decide_eq_false (fun q => c9 (by rw [q])), Bool.false_and]
    rfl
end GI2
