-- needs: 89.23
section VD
variable {l : Launch} {V : gi_V} {n : Nat} {h : gi_H} {X k : Nat} {cr ct : Int32} {P : Pm} {F : Fa} {Φ : Nat → mR} {sh : Nat → Option Sh} {sn : Nat → Nat} {wd : Nat → Bool}
def vdA (k : Nat) (P : Pm) (F : Fa) (m q wr : Int32) : Int32 := if isP k P m q = true ∧ 1 ≤ wr ∧ wr ≤ 4 then jdV P F (pq m q) wr.toNatClampNeg else -1
def vsA (k : Nat) (P : Pm) (F : Fa) (vd : Int32) : Int32 := if 0 ≤ vd ∧ vd ≤ 3 then nI (jcM P F vd k) else -1
set_option maxHeartbeats 4000000 in
set_option maxRecDepth 100000 in
theorem c_H_verdict (m q wr : Int32) (B0 : Built k P sh sn wd) (hr : rdO (tyF P sh) F) (Hw : CW X k P F Φ 1 cr h) (hju : ju_at (X + 16910) (X + 1) (X + 17) h) : gi_T l V y_H_verdict b_H_verdict 4 (some .int) 4 97 0 0 [.ref X, .int m, .int q, .int wr] n h (gi_is (some (.int (vdA k P F m q wr))) n h) := by
  refine gi_enter (by decide) (Nat.le_of_ble_eq_true rfl) ?_
  intro _ _ _ _ _ _ _ _ C hr9 hnm
  have W := B0.wf
  obtain ⟨HX, HP, HC, R⟩ := id Hw
  have HX0 := HX
  unfold hs_ob at HX0
  have w8 := W.k8
  refine gi_aload_n (q := 1) (i := 0) C (dm_H_verdict 0 rfl) rfl rfl rfl ?_
  refine gi_get (q := 4) C (dm_H_verdict 1 rfl) rfl fl_H_69 HX0 rfl ?_
  refine gi_if_eq (q := 7) (tgt := 29) C (dm_H_verdict 2 rfl) rfl (by decide) (fun c4 => ?_) (fun c4 => ?_)
  · exact absurd c4 (by decide)
  · refine gi_aload_n (q := 8) (i := 0) C (dm_H_verdict 3 rfl) rfl rfl rfl ?_
    refine gi_get (q := 11) C (dm_H_verdict 4 rfl) rfl fl_H_12 HX0 rfl ?_
    refine gi_iload_n (q := 12) (i := 1) C (dm_H_verdict 5 rfl) rfl rfl rfl ?_
    refine gi_iload_n (q := 13) (i := 2) C (dm_H_verdict 6 rfl) rfl rfl rfl ?_
    refine gi_callv 2 (q := 16) C (dm_H_verdict 7 rfl) rfl my_Pr_hasPlace lk_H_126 im_Pr_hasPlace rfl (c_Pr_hasPlace m q W.k8 HP) HP.1 rfl rfl ⟨(Nat.le_of_ble_eq_true rfl), (Nat.le_of_ble_eq_true rfl)⟩ (Nat.le_of_ble_eq_true rfl) ⟨(Nat.le_of_ble_eq_true rfl), (Nat.le_of_ble_eq_true rfl)⟩ (fun r13 n13 h13 e13 => ?_)
    obtain ⟨rfl, q13, u13⟩ := e13
    rw [q13, u13]
    refine gi_if_eq (q := 19) (tgt := 29) C (dm_H_verdict 8 rfl) rfl (by decide) (fun c16 => ?_) (fun c16 => ?_)
    · refine gi_iconst (q := 30) (v := -1) C (dm_H_verdict 15 rfl) rfl (by decide) ?_
      refine gi_iret C hr9 (dm_H_verdict 16 rfl) ?_
      refine ⟨?_, rfl, rfl⟩
      unfold vdA
      rw [if_neg]
      rintro ⟨z1, z2, z3⟩
      first
        | (rw [bI_fa c16] at z1; cases z1)
        | exact absurd z2 (Int32.not_le.mpr c21)
        | exact absurd z3 c26
    · refine gi_iload_n (q := 20) (i := 3) C (dm_H_verdict 9 rfl) rfl rfl rfl ?_
      refine gi_iconst (q := 21) (v := 1) C (dm_H_verdict 10 rfl) rfl (by decide) ?_
      refine gi_icmp_lt (q := 24) (tgt := 29) C (dm_H_verdict 11 rfl) rfl (by decide) (fun c21 => ?_) (fun c21 => ?_)
      · refine gi_iconst (q := 30) (v := -1) C (dm_H_verdict 15 rfl) rfl (by decide) ?_
        refine gi_iret C hr9 (dm_H_verdict 16 rfl) ?_
        refine ⟨?_, rfl, rfl⟩
        unfold vdA
        rw [if_neg]
        rintro ⟨z1, z2, z3⟩
        first
          | (rw [bI_fa c16] at z1; cases z1)
          | exact absurd z2 (Int32.not_le.mpr c21)
          | exact absurd z3 c26
      · refine gi_iload_n (q := 25) (i := 3) C (dm_H_verdict 12 rfl) rfl rfl rfl ?_
        refine gi_iconst (q := 26) (v := 4) C (dm_H_verdict 13 rfl) rfl (by decide) ?_
        refine gi_icmp_le (q := 29) (tgt := 31) C (dm_H_verdict 14 rfl) rfl (by decide) (fun c26 => ?_) (fun c26 => ?_)
        · have ip := bI_t c16
          have vl : 1 ≤ wr ∧ wr ≤ 4 := ⟨Int32.not_lt.mp c21, c26⟩
          have va : vdA k P F m q wr = jdV P F (pq m q) wr.toNatClampNeg := if_pos ⟨ip, vl.1, vl.2⟩
          have v1 : 1 ≤ wr.toInt := Int32.le_iff_toInt_le.mp vl.1
          have v2 : wr.toInt ≤ 4 := Int32.le_iff_toInt_le.mp vl.2
          have wn := nn_nI (a := wr) (by omega)
          obtain ⟨r, er⟩ : ∃ r, r = wr.toNatClampNeg := ⟨_, rfl⟩
          rw [← er] at wn va
          rw [va, wn.1]
          obtain ⟨a, b, ha, hb, hb60, rfl, rfl, ep⟩ := isP_ex W ip
          rw [ep]
          refine gi_aload_n (q := 32) (i := 0) C (dm_H_verdict 17 rfl) rfl rfl rfl ?_
          refine gi_get (q := 35) C (dm_H_verdict 18 rfl) rfl fl_H_49 HX0 rfl ?_
          refine gi_iload_n (q := 36) (i := 1) C (dm_H_verdict 19 rfl) rfl rfl rfl ?_
          refine gi_iload_n (q := 37) (i := 2) C (dm_H_verdict 20 rfl) rfl rfl rfl ?_
          refine gi_iload_n (q := 38) (i := 3) C (dm_H_verdict 21 rfl) rfl rfl rfl ?_
          refine gi_callv 3 (q := 41) C (dm_H_verdict 22 rfl) rfl my_Ju_judge lk_H_190 im_Ju_judge rfl (c_Ju_judge r (by omega) (by omega) B0 ha hb hr hju HP HC R) hju rfl rfl ⟨(Nat.le_of_ble_eq_true rfl), (Nat.le_of_ble_eq_true rfl)⟩ (Nat.le_of_ble_eq_true rfl) ⟨(Nat.le_of_ble_eq_true rfl), (Nat.le_of_ble_eq_true rfl)⟩ (fun r38 n38 h38 e38 => ?_)
          obtain ⟨rfl, q38, u38⟩ := e38
          rw [q38, u38]
          refine gi_iret C hr9 (dm_H_verdict 23 rfl) ?_
          exact ⟨rfl, rfl, rfl⟩
        · refine gi_iconst (q := 30) (v := -1) C (dm_H_verdict 15 rfl) rfl (by decide) ?_
          refine gi_iret C hr9 (dm_H_verdict 16 rfl) ?_
          refine ⟨?_, rfl, rfl⟩
          unfold vdA
          rw [if_neg]
          rintro ⟨z1, z2, z3⟩
          first
            | (rw [bI_fa c16] at z1; cases z1)
            | exact absurd z2 (Int32.not_le.mpr c21)
            | exact absurd z3 c26
set_option maxHeartbeats 4000000 in
set_option maxRecDepth 100000 in
theorem c_H_verdicts (vd : Int32) (B0 : Built k P sh sn wd) (hr : rdO (tyF P sh) F) (Hw : CW X k P F Φ 1 cr h) (hju : ju_at (X + 16910) (X + 1) (X + 17) h) : gi_T l V y_H_verdicts b_H_verdicts 5 (some .int) 5 123 0 0 [.ref X, .int vd] n h (gi_is (some (.int (vsA k P F vd))) n h) := by
  refine gi_enter (by decide) (Nat.le_of_ble_eq_true rfl) ?_
  intro _ _ _ _ _ _ _ _ C hr9 hnm
  have W := B0.wf
  obtain ⟨HX, HP, HC, R⟩ := id Hw
  have HX0 := HX
  unfold hs_ob at HX0
  have w8 := W.k8
  refine gi_aload_n (q := 1) (i := 0) C (dm_H_verdicts 0 rfl) rfl rfl rfl ?_
  refine gi_get (q := 4) C (dm_H_verdicts 1 rfl) rfl fl_H_69 HX0 rfl ?_
  refine gi_if_eq (q := 7) (tgt := 16) C (dm_H_verdicts 2 rfl) rfl (by decide) (fun c4 => ?_) (fun c4 => ?_)
  · exact absurd c4 (by decide)
  · refine gi_iload_n (q := 8) (i := 1) C (dm_H_verdicts 3 rfl) rfl rfl rfl ?_
    refine gi_if_lt (q := 11) (tgt := 16) C (dm_H_verdicts 4 rfl) rfl (by decide) (fun c8 => ?_) (fun c8 => ?_)
    · refine gi_iconst (q := 17) (v := -1) C (dm_H_verdicts 8 rfl) rfl (by decide) ?_
      refine gi_iret C hr9 (dm_H_verdicts 9 rfl) ?_
      refine ⟨?_, rfl, rfl⟩
      unfold vsA
      rw [if_neg]
      rintro ⟨z1, z2⟩
      first
        | exact absurd z1 (Int32.not_le.mpr c8)
        | exact absurd z2 c13
    · refine gi_iload_n (q := 12) (i := 1) C (dm_H_verdicts 5 rfl) rfl rfl rfl ?_
      refine gi_iconst (q := 13) (v := 3) C (dm_H_verdicts 6 rfl) rfl (by decide) ?_
      refine gi_icmp_le (q := 16) (tgt := 18) C (dm_H_verdicts 7 rfl) rfl (by decide) (fun c13 => ?_) (fun c13 => ?_)
      · refine gi_iconst (q := 19) (v := 0) C (dm_H_verdicts 10 rfl) rfl (by decide) ?_
        refine gi_istore_n (q := 20) (i := 2) C (dm_H_verdicts 11 rfl) rfl rfl (Nat.le_of_ble_eq_true rfl) ?_
        refine gi_iconst (q := 21) (v := 0) C (dm_H_verdicts 12 rfl) rfl (by decide) ?_
        refine gi_istore_n (q := 22) (i := 3) C (dm_H_verdicts 13 rfl) rfl rfl (Nat.le_of_ble_eq_true rfl) ?_
        refine gi_while (σ := Nat) (fun m => k - m) (fun m => [(3, .int (nI m)), (2, .int (nI (jcM P F vd m))), (0, .ref X), (1, .int vd)]) (fun _ => n) (fun _ => 0) (fun _ => 0) (fun m y' => m ≤ k ∧ h = y') 0 ⟨Nat.zero_le _, rfl⟩ ?_ (List.forall_mem_cons.mpr ⟨rfl, List.forall_mem_cons.mpr ⟨rfl, List.forall_mem_cons.mpr ⟨rfl, List.forall_mem_cons.mpr ⟨rfl, fun _ h => absurd h List.not_mem_nil⟩⟩⟩⟩) rfl rfl rfl
        rintro m y' ⟨hm4, rfl⟩ ih
        try dsimp only at *
        refine gi_iload_n (q := 23) (i := 3) C (dm_H_verdicts 14 rfl) rfl rfl rfl ?_
        refine gi_aload_n (q := 24) (i := 0) C (dm_H_verdicts 15 rfl) rfl rfl rfl ?_
        refine gi_get (q := 27) C (dm_H_verdicts 16 rfl) rfl fl_H_12 HX0 rfl ?_
        refine gi_get (q := 30) C (dm_H_verdicts 17 rfl) rfl fl_H_108 HP.1 rfl ?_
        refine gi_icmp_ge (q := 33) (tgt := 75) C (dm_H_verdicts 18 rfl) rfl (by decide) (fun c30 => ?_) (fun c30 => ?_)
        · have hik : m = k := by
            rcases Nat.lt_or_ge m k with q | q
            · exact absurd c30 (Int32.not_le.mpr (nI_lt q (by omega)))
            · omega
          subst hik
          refine gi_iload_n (q := 76) (i := 2) C (dm_H_verdicts 40 rfl) rfl rfl rfl ?_
          refine gi_iret C hr9 (dm_H_verdicts 41 rfl) ?_
          refine ⟨?_, rfl, rfl⟩
          unfold vsA
          rw [if_pos ⟨Int32.not_lt.mp c8, c13⟩]
        · have hm : m < k := by
            rcases Nat.lt_or_ge m k with q | q
            · exact q
            · exact absurd (nI_le q (by omega)) c30
          have wm := wf_ar W hm
          have bm := jcM_b (F := F) (vd := vd) W m (by omega)
          refine gi_iconst (q := 34) (v := 0) C (dm_H_verdicts 19 rfl) rfl (by decide) ?_
          refine gi_istore (q := 36) C (dm_H_verdicts 20 rfl) rfl (Nat.le_of_ble_eq_true rfl) ?_
          refine gi_while (σ := Nat) (fun i => pN P 5 m - i) (fun i => [(4, .int (nI i)), (2, .int (nI (jcM P F vd m + sm (fun i => jcP P F (60 * m + i) vd) i))), (3, .int (nI m)), (0, .ref X), (1, .int vd)]) (fun _ => n) (fun _ => 0) (fun _ => 0) (fun i y' => i ≤ pN P 5 m ∧ h = y') 0 ⟨Nat.zero_le _, rfl⟩ ?_ (List.forall_mem_cons.mpr ⟨rfl, List.forall_mem_cons.mpr ⟨rfl, List.forall_mem_cons.mpr ⟨rfl, List.forall_mem_cons.mpr ⟨rfl, List.forall_mem_cons.mpr ⟨rfl, fun _ h => absurd h List.not_mem_nil⟩⟩⟩⟩⟩) rfl rfl rfl
          rintro i y' ⟨hi4, rfl⟩ ih2
          try dsimp only at *
          refine gi_iload (q := 38) C (dm_H_verdicts 21 rfl) rfl rfl ?_
          refine gi_aload_n (q := 39) (i := 0) C (dm_H_verdicts 22 rfl) rfl rfl rfl ?_
          refine gi_get (q := 42) C (dm_H_verdicts 23 rfl) rfl fl_H_12 HX0 rfl ?_
          refine gi_iload_n (q := 43) (i := 3) C (dm_H_verdicts 24 rfl) rfl rfl rfl ?_
          refine gi_callv 1 (q := 46) C (dm_H_verdicts 25 rfl) rfl my_Pr_lengthOf lk_H_192 im_Pr_lengthOf rfl (q_len W hm HP) HP.1 rfl rfl ⟨(Nat.le_of_ble_eq_true rfl), (Nat.le_of_ble_eq_true rfl)⟩ (Nat.le_of_ble_eq_true rfl) ⟨(Nat.le_of_ble_eq_true rfl), (Nat.le_of_ble_eq_true rfl)⟩ (fun r43 n43 h43 e43 => ?_)
          obtain ⟨rfl, q43, u43⟩ := e43
          rw [q43, u43]
          refine gi_icmp_ge (q := 49) (tgt := 69) C (dm_H_verdicts 26 rfl) rfl (by decide) (fun c46 => ?_) (fun c46 => ?_)
          · have hik : i = pN P 5 m := by
              rcases Nat.lt_or_ge i (pN P 5 m) with q | q
              · exact absurd c46 (Int32.not_le.mpr (nI_lt q (by omega)))
              · omega
            subst hik
            refine gi_iinc (q := 72) (v := 1) C (dm_H_verdicts 38 rfl) rfl rfl (by decide) (Nat.le_of_ble_eq_true rfl) ?_
            refine gi_goto (tgt := 22) C (dm_H_verdicts 39 rfl) (by decide) ?_
            refine gi_close (ih (m + 1) _ ⟨hm, rfl⟩ (by omega)) (List.forall_mem_cons.mpr ⟨(by simp [gi_look, nI_1]), List.forall_mem_cons.mpr ⟨rfl, List.forall_mem_cons.mpr ⟨rfl, List.forall_mem_cons.mpr ⟨rfl, fun _ h => absurd h List.not_mem_nil⟩⟩⟩⟩) rfl rfl rfl
          · have hi : i < pN P 5 m := by
              rcases Nat.lt_or_ge i (pN P 5 m) with q | q
              · exact q
              · exact absurd (nI_le (a := pN P 5 m) q (by omega)) c46
            refine gi_iload_n (q := 50) (i := 2) C (dm_H_verdicts 27 rfl) rfl rfl rfl ?_
            refine gi_aload_n (q := 51) (i := 0) C (dm_H_verdicts 28 rfl) rfl rfl rfl ?_
            refine gi_get (q := 54) C (dm_H_verdicts 29 rfl) rfl fl_H_49 HX0 rfl ?_
            refine gi_iload_n (q := 55) (i := 3) C (dm_H_verdicts 30 rfl) rfl rfl rfl ?_
            refine gi_iload (q := 57) C (dm_H_verdicts 31 rfl) rfl rfl ?_
            refine gi_iload_n (q := 58) (i := 1) C (dm_H_verdicts 32 rfl) rfl rfl rfl ?_
            refine gi_callv 3 (q := 61) C (dm_H_verdicts 33 rfl) rfl my_Ju_howMany lk_H_194 im_Ju_howMany rfl (c_Ju_howMany vd B0 hm hi hr hju HP HC R) hju rfl rfl ⟨(Nat.le_of_ble_eq_true rfl), (Nat.le_of_ble_eq_true rfl)⟩ (Nat.le_of_ble_eq_true rfl) ⟨(Nat.le_of_ble_eq_true rfl), (Nat.le_of_ble_eq_true rfl)⟩ (fun r58 n58 h58 e58 => ?_)
            obtain ⟨rfl, q58, u58⟩ := e58
            rw [q58, u58]
            refine gi_iadd (q := 62) C (dm_H_verdicts 34 rfl) rfl ?_
            refine gi_istore_n (q := 63) (i := 2) C (dm_H_verdicts 35 rfl) rfl rfl (Nat.le_of_ble_eq_true rfl) ?_
            refine gi_iinc (q := 66) (v := 1) C (dm_H_verdicts 36 rfl) rfl rfl (by decide) (Nat.le_of_ble_eq_true rfl) ?_
            refine gi_goto (tgt := 36) C (dm_H_verdicts 37 rfl) (by decide) ?_
            have b4 := jcP_4 (P := P) (F := F) (p := 60 * m + i) (vd := vd)
            have g2 : nI (jcM P F vd m + sm (fun i => jcP P F (60 * m + i) vd) (i + 1)) = nI (jcM P F vd m + sm (fun i => jcP P F (60 * m + i) vd) i) + nI (jcP P F (60 * m + i) vd) := by
              rw [nI_add, Nat.add_assoc]
              rfl
            refine gi_close (ih2 (i + 1) _ ⟨hi, rfl⟩ (by omega)) (List.forall_mem_cons.mpr ⟨(by simp [gi_look, nI_1]), List.forall_mem_cons.mpr ⟨(by rw [g2]; rfl), List.forall_mem_cons.mpr ⟨rfl, List.forall_mem_cons.mpr ⟨rfl, List.forall_mem_cons.mpr ⟨rfl, fun _ h => absurd h List.not_mem_nil⟩⟩⟩⟩⟩) rfl rfl rfl
      · refine gi_iconst (q := 17) (v := -1) C (dm_H_verdicts 8 rfl) rfl (by decide) ?_
        refine gi_iret C hr9 (dm_H_verdicts 9 rfl) ?_
        refine ⟨?_, rfl, rfl⟩
        unfold vsA
        rw [if_neg]
        rintro ⟨z1, z2⟩
        first
          | exact absurd z1 (Int32.not_le.mpr c8)
          | exact absurd z2 c13
end VD
