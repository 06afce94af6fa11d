-- needs: 89.93
section RL5
variable {l : Launch} {V : gi_V} {n : Nat} {h h' : gi_H} {M k : Nat} {P : Pm} {sh : Nat → Option Sh} {S S' : Nat → Int32} {J J' : Nat → Int64} {F F' : Nat → Nat → Int32} {G G' : Nat → Nat → Int64} {Fz : Fa} {sn : Nat → Nat} {wd : Nat → Bool}
set_option maxHeartbeats 4000000 in
set_option maxRecDepth 100000 in
theorem c_Mo_verdict (m q wr : Int32) (B : Built k P sh sn wd) (hpg : pgR k P sh S F) (h9 : S 9 = 1) (h0 : fsN P Fz F G) (hF : okF (tyF P sh) Fz) (hU : stU Fz) (H : mo_at M S J F G h) : gi_T l V y_Mo_verdict b_Mo_verdict 4 (some .int) 2 58 0 0 [.ref M, .int m, .int q, .int wr] n h (gi_is (some (.int (vdA k P Fz m q wr))) n h) := by
  refine gi_enter (by decide) (Nat.le_of_ble_eq_true rfl) ?_
  intro _ _ _ _ _ _ _ _ C hr hnm
  obtain ⟨fs, Ha, Hf⟩ := id H.1
  have ho : outM M h h := outM.rf
  refine gi_aload_n (q := 1) (i := 0) C (dm_Mo_verdict 0 rfl) rfl rfl rfl ?_
  refine gi_get (q := 4) C (dm_Mo_verdict 1 rfl) rfl fl_Mo_183 Ha (mo_g9 Hf) ?_
  refine gi_if_eq (q := 7) (tgt := 26) C (dm_Mo_verdict 2 rfl) rfl (by decide) (fun c4 => ?_) (fun c4 => ?_)
  · exact absurd c4 (by rw [h9]; decide)
  · refine gi_aload_n (q := 8) (i := 0) C (dm_Mo_verdict 3 rfl) rfl rfl rfl ?_
    refine gi_iload_n (q := 9) (i := 1) C (dm_Mo_verdict 4 rfl) rfl rfl rfl ?_
    refine gi_iload_n (q := 10) (i := 2) C (dm_Mo_verdict 5 rfl) rfl rfl rfl ?_
    refine gi_callv 2 (q := 13) C (dm_Mo_verdict 6 rfl) rfl my_Mo_isPlace lk_Mo_516 im_Mo_isPlace rfl (c_Mo_isPlace m q B.wf hpg.1 hpg.2.1 H) Ha rfl rfl ⟨(Nat.le_of_ble_eq_true rfl), (Nat.le_of_ble_eq_true rfl)⟩ (Nat.le_of_ble_eq_true rfl) ⟨(Nat.le_of_ble_eq_true rfl), (Nat.le_of_ble_eq_true rfl)⟩ (fun r10 n10 h10 e10 => ?_)
    obtain ⟨rfl, q10, u10⟩ := e10
    rw [q10, u10]
    refine gi_if_eq (q := 16) (tgt := 26) C (dm_Mo_verdict 7 rfl) rfl (by decide) (fun c13 => ?_) (fun c13 => ?_)
    · refine gi_iconst (q := 27) (v := -1) C (dm_Mo_verdict 14 rfl) rfl (by decide) ?_
      refine gi_iret C hr (dm_Mo_verdict 15 rfl) ?_
      refine ⟨?_, rfl, rfl⟩
      unfold vdA
      first
        | (rw [bI_fa c13, if_neg (fun z => by cases z.1)] <;> rfl)
        | (rw [if_neg (fun z => absurd z.2.1 (Int32.not_le.mpr c18))] <;> rfl)
        | (rw [if_neg (fun z => c23 z.2.2)] <;> rfl)
    · refine gi_iload_n (q := 17) (i := 3) C (dm_Mo_verdict 8 rfl) rfl rfl rfl ?_
      refine gi_iconst (q := 18) (v := 1) C (dm_Mo_verdict 9 rfl) rfl (by decide) ?_
      refine gi_icmp_lt (q := 21) (tgt := 26) C (dm_Mo_verdict 10 rfl) rfl (by decide) (fun c18 => ?_) (fun c18 => ?_)
      · refine gi_iconst (q := 27) (v := -1) C (dm_Mo_verdict 14 rfl) rfl (by decide) ?_
        refine gi_iret C hr (dm_Mo_verdict 15 rfl) ?_
        refine ⟨?_, rfl, rfl⟩
        unfold vdA
        first
          | (rw [bI_fa c13, if_neg (fun z => by cases z.1)] <;> rfl)
          | (rw [if_neg (fun z => absurd z.2.1 (Int32.not_le.mpr c18))] <;> rfl)
          | (rw [if_neg (fun z => c23 z.2.2)] <;> rfl)
      · refine gi_iload_n (q := 22) (i := 3) C (dm_Mo_verdict 11 rfl) rfl rfl rfl ?_
        refine gi_iconst (q := 23) (v := 4) C (dm_Mo_verdict 12 rfl) rfl (by decide) ?_
        refine gi_icmp_le (q := 26) (tgt := 28) C (dm_Mo_verdict 13 rfl) rfl (by decide) (fun c23 => ?_) (fun c23 => ?_)
        · have ip := bI_t c13
          obtain ⟨a, b, ha, hb, hb60, rfl, rfl, ep⟩ := isP_ex B.wf ip
          have w8 := B.wf.k8
          obtain ⟨w, ew, w1, w4⟩ : ∃ z : Nat, wr = nI z ∧ 1 ≤ z ∧ z ≤ 4 := by
            have q1 := c18
            have q2 := c23
            rw [Int32.lt_iff_toInt_lt, show (1 : Int32).toInt = 1 from rfl] at q1
            rw [Int32.le_iff_toInt_le, show (4 : Int32).toInt = 4 from rfl] at q2
            exact ⟨wr.toInt.toNat, by apply Int32.toInt_inj.mp; rw [nI_toInt (by omega)]; omega, by omega, by omega⟩
          subst ew
          refine gi_aload_n (q := 29) (i := 0) C (dm_Mo_verdict 16 rfl) rfl rfl rfl ?_
          refine gi_bipush (q := 31) (v := 60) C (dm_Mo_verdict 17 rfl) rfl (by decide) ?_
          refine gi_iload_n (q := 32) (i := 1) C (dm_Mo_verdict 18 rfl) rfl rfl rfl ?_
          refine gi_imul (q := 33) C (dm_Mo_verdict 19 rfl) rfl ?_
          refine gi_iload_n (q := 34) (i := 2) C (dm_Mo_verdict 20 rfl) rfl rfl rfl ?_
          refine gi_iadd (q := 35) C (dm_Mo_verdict 21 rfl) rfl ?_
          rw [show (60 : Int32) = nI 60 from rfl, nI_ml, nI_add]
          refine gi_iload_n (q := 36) (i := 3) C (dm_Mo_verdict 22 rfl) rfl rfl rfl ?_
          refine gi_callv 2 (q := 39) C (dm_Mo_verdict 23 rfl) rfl my_Mo_verdictOf lk_Mo_531 im_Mo_verdictOf rfl (c_Mo_verdictOf w w1 w4 ha hb B hpg h0 hF hU H) Ha rfl rfl ⟨(Nat.le_of_ble_eq_true rfl), (Nat.le_of_ble_eq_true rfl)⟩ (Nat.le_of_ble_eq_true rfl) ⟨(Nat.le_of_ble_eq_true rfl), (Nat.le_of_ble_eq_true rfl)⟩ (fun r36 n36 h36 e36 => ?_)
          obtain ⟨rfl, q36, u36⟩ := e36
          rw [q36, u36]
          refine gi_iret C hr (dm_Mo_verdict 24 rfl) ?_
          refine ⟨?_, rfl, rfl⟩
          unfold vdA
          rw [if_pos ⟨ip, Int32.not_lt.mp c18, c23⟩, nI_clamp (by omega), ep]
        · refine gi_iconst (q := 27) (v := -1) C (dm_Mo_verdict 14 rfl) rfl (by decide) ?_
          refine gi_iret C hr (dm_Mo_verdict 15 rfl) ?_
          refine ⟨?_, rfl, rfl⟩
          unfold vdA
          first
            | (rw [bI_fa c13, if_neg (fun z => by cases z.1)] <;> rfl)
            | (rw [if_neg (fun z => absurd z.2.1 (Int32.not_le.mpr c18))] <;> rfl)
            | (rw [if_neg (fun z => c23 z.2.2)] <;> rfl)
theorem op_at (B : Built k P sh sn wd) (hpg : pgR k P sh S F) {m i : Nat} (hm : m < k) (hi : i < pN P 5 m) : F 6 (60 * m + i) = nI (pN P 6 (60 * m + i)) ∧ pN P 6 (60 * m + i) ≤ 35 := by
  obtain ⟨q, e, q35⟩ := B.wf.op m i hm hi
  rw [hpg.1 6 (by decide) (by decide)]
  unfold pN
  rw [e, ofNat_cl (by omega)]
  exact ⟨rfl, q35⟩
set_option maxHeartbeats 4000000 in
set_option maxRecDepth 100000 in
theorem c_Mo_verdicts (vd : Int32) (B : Built k P sh sn wd) (hpg : pgR k P sh S F) (h9 : S 9 = 1) (h0 : fsN P Fz F G) (hF : okF (tyF P sh) Fz) (hU : stU Fz) (H : mo_at M S J F G h) : gi_T l V y_Mo_verdicts b_Mo_verdicts 6 (some .int) 2 58 0 0 [.ref M, .int vd] n h (gi_is (some (.int (vsA k P Fz vd))) n h) := by
  refine gi_enter (by decide) (Nat.le_of_ble_eq_true rfl) ?_
  intro _ _ _ _ _ _ _ _ C hr hnm
  obtain ⟨fs, Ha, Hf⟩ := id H.1
  have ho : outM M h h := outM.rf
  have w8 := B.wf.k8
  refine gi_aload_n (q := 1) (i := 0) C (dm_Mo_verdicts 0 rfl) rfl rfl rfl ?_
  refine gi_get (q := 4) C (dm_Mo_verdicts 1 rfl) rfl fl_Mo_183 Ha (mo_g9 Hf) ?_
  refine gi_if_eq (q := 7) (tgt := 16) C (dm_Mo_verdicts 2 rfl) rfl (by decide) (fun c4 => ?_) (fun c4 => ?_)
  · exact absurd c4 (by rw [h9]; decide)
  · refine gi_iload_n (q := 8) (i := 1) C (dm_Mo_verdicts 3 rfl) rfl rfl rfl ?_
    refine gi_if_lt (q := 11) (tgt := 16) C (dm_Mo_verdicts 4 rfl) rfl (by decide) (fun c8 => ?_) (fun c8 => ?_)
    · refine gi_iconst (q := 17) (v := -1) C (dm_Mo_verdicts 8 rfl) rfl (by decide) ?_
      refine gi_iret C hr (dm_Mo_verdicts 9 rfl) ?_
      refine ⟨?_, rfl, rfl⟩
      unfold vsA
      first
        | (rw [if_neg (fun z => absurd z.1 (Int32.not_le.mpr c8))] <;> rfl)
        | (rw [if_neg (fun z => c13 z.2)] <;> rfl)
    · refine gi_iload_n (q := 12) (i := 1) C (dm_Mo_verdicts 5 rfl) rfl rfl rfl ?_
      refine gi_iconst (q := 13) (v := 3) C (dm_Mo_verdicts 6 rfl) rfl (by decide) ?_
      refine gi_icmp_le (q := 16) (tgt := 18) C (dm_Mo_verdicts 7 rfl) rfl (by decide) (fun c13 => ?_) (fun c13 => ?_)
      · refine gi_iconst (q := 19) (v := 0) C (dm_Mo_verdicts 10 rfl) rfl (by decide) ?_
        refine gi_istore_n (q := 20) (i := 2) C (dm_Mo_verdicts 11 rfl) rfl rfl (Nat.le_of_ble_eq_true rfl) ?_
        refine gi_iconst (q := 21) (v := 0) C (dm_Mo_verdicts 12 rfl) rfl (by decide) ?_
        refine gi_istore_n (q := 22) (i := 3) C (dm_Mo_verdicts 13 rfl) rfl rfl (Nat.le_of_ble_eq_true rfl) ?_
        refine gi_while (σ := Nat) (fun m => k - m) (fun m => [(3, .int (nI m)), (2, .int (nI (jcM P Fz vd m))), (1, .int vd), (0, .ref M)]) (fun _ => n) (fun _ => 0) (fun _ => 0) (fun m y' => m ≤ k ∧ h = y') 0 ⟨Nat.zero_le _, rfl⟩ ?_ (List.forall_mem_cons.mpr ⟨(by first | rfl | (simp [gi_look]; done)), List.forall_mem_cons.mpr ⟨(by first | rfl | (simp [gi_look]; done)), List.forall_mem_cons.mpr ⟨(by first | rfl | (simp [gi_look]; done)), List.forall_mem_cons.mpr ⟨(by first | rfl | (simp [gi_look]; done)), fun _ h => absurd h List.not_mem_nil⟩⟩⟩⟩) rfl rfl rfl
        rintro m y' ⟨hm, rfl⟩ ihm
        try dsimp only at *
        refine gi_iload_n (q := 23) (i := 3) C (dm_Mo_verdicts 14 rfl) rfl rfl rfl ?_
        refine gi_aload_n (q := 24) (i := 0) C (dm_Mo_verdicts 15 rfl) rfl rfl rfl ?_
        refine gi_get (q := 27) C (dm_Mo_verdicts 16 rfl) rfl fl_Mo_176 Ha (mo_g0 Hf) ?_
        rw [hpg.2.1]
        refine gi_icmp_ge (q := 30) (tgt := 115) C (dm_Mo_verdicts 17 rfl) rfl (by decide) (fun c27 => ?_) (fun c27 => ?_)
        · refine gi_iload_n (q := 116) (i := 2) C (dm_Mo_verdicts 63 rfl) rfl rfl rfl ?_
          refine gi_iret C hr (dm_Mo_verdicts 64 rfl) ?_
          have ml : m = k := by
            rcases Nat.lt_or_ge m (k) with q | q
            · exact absurd c27 (Int32.not_le.mpr (nI_lt (b := k) q (by omega)))
            · omega
          subst ml
          exact ⟨by unfold vsA; rw [if_pos ⟨Int32.not_lt.mp c8, c13⟩], rfl, rfl⟩
        · have ml : m < k := by
            rcases Nat.lt_or_ge m (k) with q | q
            · exact q
            · exact absurd (nI_le (a := k) q (by omega)) c27
          have wm := wf_ar B.wf ml
          have e5 : F 5 m = nI (pN P 5 m) := by rw [hpg.1 5 (by decide) (by decide)]; exact (wf_n B.wf ml).2.2.2.1
          refine gi_bipush (q := 32) (v := 60) C (dm_Mo_verdicts 18 rfl) rfl (by decide) ?_
          refine gi_iload_n (q := 33) (i := 3) C (dm_Mo_verdicts 19 rfl) rfl rfl rfl ?_
          refine gi_imul (q := 34) C (dm_Mo_verdicts 20 rfl) rfl ?_
          rw [show (60 : Int32) = nI 60 from rfl, nI_ml]
          refine gi_istore (q := 36) C (dm_Mo_verdicts 21 rfl) rfl (Nat.le_of_ble_eq_true rfl) ?_
          refine gi_while (σ := Nat) (fun i => pN P 5 m - i) (fun i => [(4, .int (nI (60 * m + i))), (3, .int (nI m)), (2, .int (nI (jcM P Fz vd m + sm (fun i => jcP P Fz (60 * m + i) vd) i))), (1, .int vd), (0, .ref M)]) (fun _ => n) (fun _ => 0) (fun _ => 0) (fun i y' => i ≤ pN P 5 m ∧ h = y') 0 ⟨Nat.zero_le _, rfl⟩ ?_ (List.forall_mem_cons.mpr ⟨(by first | rfl | (simp [gi_look]; done)), List.forall_mem_cons.mpr ⟨(by first | rfl | (simp [gi_look]; done)), List.forall_mem_cons.mpr ⟨(by first | rfl | (simp [gi_look]; done)), List.forall_mem_cons.mpr ⟨(by first | rfl | (simp [gi_look]; done)), List.forall_mem_cons.mpr ⟨(by first | rfl | (simp [gi_look]; done)), fun _ h => absurd h List.not_mem_nil⟩⟩⟩⟩⟩) rfl rfl rfl
          rintro i y' ⟨hi, rfl⟩ ihi
          try dsimp only at *
          refine gi_iload (q := 38) C (dm_Mo_verdicts 22 rfl) rfl rfl ?_
          refine gi_bipush (q := 40) (v := 60) C (dm_Mo_verdicts 23 rfl) rfl (by decide) ?_
          refine gi_iload_n (q := 41) (i := 3) C (dm_Mo_verdicts 24 rfl) rfl rfl rfl ?_
          refine gi_imul (q := 42) C (dm_Mo_verdicts 25 rfl) rfl ?_
          refine gi_aload_n (q := 43) (i := 0) C (dm_Mo_verdicts 26 rfl) rfl rfl rfl ?_
          refine gi_get (q := 46) C (dm_Mo_verdicts 27 rfl) rfl fl_Mo_22 Ha (mo_g5 Hf) ?_
          refine gi_iload_n (q := 47) (i := 3) C (dm_Mo_verdicts 28 rfl) rfl rfl rfl ?_
          refine gi_iald (q := 48) C (dm_Mo_verdicts 29 rfl) rfl rfl (mo_a5 H) (inN (show m < 8 by omega) (by decide)) ?_
          refine gi_iadd (q := 49) C (dm_Mo_verdicts 30 rfl) rfl ?_
          rw [nI_clamp (show m < 2 ^ 31 by omega), e5, show (60 : Int32) = nI 60 from rfl, nI_ml, nI_add]
          refine gi_icmp_ge (q := 52) (tgt := 109) C (dm_Mo_verdicts 31 rfl) rfl (by decide) (fun c49 => ?_) (fun c49 => ?_)
          · have il : i = pN P 5 m := by
              rcases Nat.lt_or_ge i (pN P 5 m) with q | q
              · exact absurd c49 (Int32.not_le.mpr (nI_lt (a := 60 * m + i) (b := 60 * m + pN P 5 m) (by omega) (by omega)))
              · omega
            subst il
            have ms : jcM P Fz vd (m + 1) = jcM P Fz vd m + sm (fun i => jcP P Fz (60 * m + i) vd) (pN P 5 m) := rfl
            refine gi_iinc (q := 112) (v := 1) C (dm_Mo_verdicts 61 rfl) rfl rfl (by decide) (Nat.le_of_ble_eq_true rfl) ?_
            refine gi_goto (tgt := 22) C (dm_Mo_verdicts 62 rfl) (by decide) ?_
            refine gi_close (ihm (m + 1) _ ⟨by omega, rfl⟩ (by omega)) (List.forall_mem_cons.mpr ⟨(by first | rfl | (simp [gi_look, nI_1]; done)), List.forall_mem_cons.mpr ⟨(by first | rfl | (simp [gi_look, nI_1]; done)), List.forall_mem_cons.mpr ⟨(by first | rfl | (simp [gi_look, nI_1]; done)), List.forall_mem_cons.mpr ⟨(by first | rfl | (simp [gi_look, nI_1]; done)), fun _ h => absurd h List.not_mem_nil⟩⟩⟩⟩) rfl rfl rfl
          · have il : i < pN P 5 m := by
              rcases Nat.lt_or_ge i (pN P 5 m) with q | q
              · exact q
              · exact absurd (nI_le (a := 60 * m + pN P 5 m) (by omega) (by omega)) c49
            obtain ⟨e6, o35⟩ := op_at B hpg ml il
            refine gi_iconst (q := 53) (v := 1) C (dm_Mo_verdicts 32 rfl) rfl (by decide) ?_
            refine gi_istore (q := 55) C (dm_Mo_verdicts 33 rfl) rfl (Nat.le_of_ble_eq_true rfl) ?_
            refine gi_while (σ := Nat) (fun v => 4 - v) (fun v => [(5, .int (nI (v + 1))), (4, .int (nI (60 * m + i))), (3, .int (nI m)), (2, .int (nI (jcM P Fz vd m + sm (fun i => jcP P Fz (60 * m + i) vd) i + sm (fun w => jcI P Fz (60 * m + i) vd (w + 1)) v))), (1, .int vd), (0, .ref M)]) (fun _ => n) (fun _ => 0) (fun _ => 0) (fun v y' => v ≤ 4 ∧ h = y') 0 ⟨Nat.zero_le _, rfl⟩ ?_ (List.forall_mem_cons.mpr ⟨(by first | rfl | (simp [gi_look]; done)), List.forall_mem_cons.mpr ⟨(by first | rfl | (simp [gi_look]; done)), List.forall_mem_cons.mpr ⟨(by first | rfl | (simp [gi_look]; done)), List.forall_mem_cons.mpr ⟨(by first | rfl | (simp [gi_look]; done)), List.forall_mem_cons.mpr ⟨(by first | rfl | (simp [gi_look]; done)), List.forall_mem_cons.mpr ⟨(by first | rfl | (simp [gi_look]; done)), fun _ h => absurd h List.not_mem_nil⟩⟩⟩⟩⟩⟩) rfl rfl rfl
            rintro v y' ⟨hv, rfl⟩ ihv
            try dsimp only at *
            refine gi_iload (q := 57) C (dm_Mo_verdicts 34 rfl) rfl rfl ?_
            refine gi_iconst (q := 58) (v := 4) C (dm_Mo_verdicts 35 rfl) rfl (by decide) ?_
            refine gi_icmp_gt (q := 61) (tgt := 103) C (dm_Mo_verdicts 36 rfl) rfl (by decide) (fun c58 => ?_) (fun c58 => ?_)
            · have v4 : v = 4 := by
                rcases Nat.lt_or_ge v 4 with q | q
                · exact absurd c58 (Int32.not_lt.mpr (nI_le (a := v + 1) (b := 4) (by omega) (by decide)))
                · omega
              subst v4
              have ps : sm (fun i => jcP P Fz (60 * m + i) vd) (i + 1) = sm (fun i => jcP P Fz (60 * m + i) vd) i + sm (fun w => jcI P Fz (60 * m + i) vd (w + 1)) 4 := rfl
              refine gi_iinc (q := 106) (v := 1) C (dm_Mo_verdicts 59 rfl) rfl rfl (by decide) (Nat.le_of_ble_eq_true rfl) ?_
              refine gi_goto (tgt := 36) C (dm_Mo_verdicts 60 rfl) (by decide) ?_
              refine gi_close (ihi (i + 1) _ ⟨by omega, rfl⟩ (by omega)) (List.forall_mem_cons.mpr ⟨(by first | rfl | (simp [gi_look, nI_1]; done) | (rw [ps, ← Nat.add_assoc]; rfl) | (simp only [nI_1]; rfl)), List.forall_mem_cons.mpr ⟨(by first | rfl | (simp [gi_look, nI_1]; done) | (rw [ps, ← Nat.add_assoc]; rfl) | (simp only [nI_1]; rfl)), List.forall_mem_cons.mpr ⟨(by first | rfl | (simp [gi_look, nI_1]; done) | (rw [ps, ← Nat.add_assoc]; rfl) | (simp only [nI_1]; rfl)), List.forall_mem_cons.mpr ⟨(by first | rfl | (simp [gi_look, nI_1]; done) | (rw [ps, ← Nat.add_assoc]; rfl) | (simp only [nI_1]; rfl)), List.forall_mem_cons.mpr ⟨(by first | rfl | (simp [gi_look, nI_1]; done) | (rw [ps, ← Nat.add_assoc]; rfl) | (simp only [nI_1]; rfl)), fun _ h => absurd h List.not_mem_nil⟩⟩⟩⟩⟩) rfl rfl rfl
            · have vl : v < 4 := by
                rcases Nat.lt_or_ge v 4 with q | q
                · exact q
                · exact absurd (nI_lt (a := 4) (b := v + 1) (by omega) (by omega)) c58
              refine gi_iload_n (q := 62) (i := 2) C (dm_Mo_verdicts 37 rfl) rfl rfl rfl ?_
              refine gi_aload_n (q := 63) (i := 0) C (dm_Mo_verdicts 38 rfl) rfl rfl rfl ?_
              refine gi_aload_n (q := 64) (i := 0) C (dm_Mo_verdicts 39 rfl) rfl rfl rfl ?_
              refine gi_get (q := 67) C (dm_Mo_verdicts 40 rfl) rfl fl_Mo_25 Ha (mo_g6 Hf) ?_
              refine gi_iload (q := 69) C (dm_Mo_verdicts 41 rfl) rfl rfl ?_
              refine gi_iald (q := 70) C (dm_Mo_verdicts 42 rfl) rfl rfl (mo_a6 H) (inN (show 60 * m + i < 480 by omega) (by decide)) ?_
              rw [nI_clamp (show 60 * m + i < 2 ^ 31 by omega), e6]
              refine gi_iload (q := 72) C (dm_Mo_verdicts 43 rfl) rfl rfl ?_
              refine gi_callv 2 (q := 75) C (dm_Mo_verdicts 44 rfl) rfl my_Mo_asks lk_Mo_534 im_Mo_asks rfl (c_Mo_asks (pN P 6 (60 * m + i)) (v + 1) (by omega) (by omega) o35) Ha rfl rfl ⟨(Nat.le_of_ble_eq_true rfl), (Nat.le_of_ble_eq_true rfl)⟩ (Nat.le_of_ble_eq_true rfl) ⟨(Nat.le_of_ble_eq_true rfl), (Nat.le_of_ble_eq_true rfl)⟩ (fun r72 n72 h72 e72 => ?_)
              obtain ⟨rfl, q72, u72⟩ := e72
              rw [q72, u72]
              refine gi_if_eq (q := 78) (tgt := 94) C (dm_Mo_verdicts 45 rfl) rfl (by decide) (fun c75 => ?_) (fun c75 => ?_)
              · refine gi_iconst (q := 95) (v := 0) C (dm_Mo_verdicts 54 rfl) rfl (by decide) ?_
                refine gi_iadd (q := 96) C (dm_Mo_verdicts 55 rfl) rfl ?_
                refine gi_istore_n (q := 97) (i := 2) C (dm_Mo_verdicts 56 rfl) rfl rfl (Nat.le_of_ble_eq_true rfl) ?_
                rw [show (0 : Int32) = nI 0 from rfl, nI_add]
                have qs : sm (fun w => jcI P Fz (60 * m + i) vd (w + 1)) (v + 1) = sm (fun w => jcI P Fz (60 * m + i) vd (w + 1)) v + 0 := by
                  have : jcI P Fz (60 * m + i) vd (v + 1) = 0 := by
                    unfold jcI
                    first
                      | (rw [if_neg (fun z => absurd z.2 c87)]; done)
                      | (rw [if_neg (fun z => absurd z.1 (by rw [bI_fa c75]; decide))]; done)
                  show sm (fun w => jcI P Fz (60 * m + i) vd (w + 1)) v + jcI P Fz (60 * m + i) vd (v + 1) = _
                  rw [this]
                refine gi_iinc (q := 100) (v := 1) C (dm_Mo_verdicts 57 rfl) rfl rfl (by decide) (Nat.le_of_ble_eq_true rfl) ?_
                refine gi_goto (tgt := 55) C (dm_Mo_verdicts 58 rfl) (by decide) ?_
                refine gi_close (ihv (v + 1) _ ⟨by omega, rfl⟩ (by omega)) (List.forall_mem_cons.mpr ⟨(by first | rfl | (simp [gi_look, nI_1]; done) | (rw [qs]; simp [gi_look, nI_1, Nat.add_assoc]; done) | (rw [qs, ← Nat.add_assoc]; rfl)), List.forall_mem_cons.mpr ⟨(by first | rfl | (simp [gi_look, nI_1]; done) | (rw [qs]; simp [gi_look, nI_1, Nat.add_assoc]; done) | (rw [qs, ← Nat.add_assoc]; rfl)), List.forall_mem_cons.mpr ⟨(by first | rfl | (simp [gi_look, nI_1]; done) | (rw [qs]; simp [gi_look, nI_1, Nat.add_assoc]; done) | (rw [qs, ← Nat.add_assoc]; rfl)), List.forall_mem_cons.mpr ⟨(by first | rfl | (simp [gi_look, nI_1]; done) | (rw [qs]; simp [gi_look, nI_1, Nat.add_assoc]; done) | (rw [qs, ← Nat.add_assoc]; rfl)), List.forall_mem_cons.mpr ⟨(by first | rfl | (simp [gi_look, nI_1]; done) | (rw [qs]; simp [gi_look, nI_1, Nat.add_assoc]; done) | (rw [qs, ← Nat.add_assoc]; rfl)), List.forall_mem_cons.mpr ⟨(by first | rfl | (simp [gi_look, nI_1]; done) | (rw [qs]; simp [gi_look, nI_1, Nat.add_assoc]; done) | (rw [qs, ← Nat.add_assoc]; rfl)), fun _ h => absurd h List.not_mem_nil⟩⟩⟩⟩⟩⟩) rfl rfl rfl
              · refine gi_aload_n (q := 79) (i := 0) C (dm_Mo_verdicts 46 rfl) rfl rfl rfl ?_
                refine gi_iload (q := 81) C (dm_Mo_verdicts 47 rfl) rfl rfl ?_
                refine gi_iload (q := 83) C (dm_Mo_verdicts 48 rfl) rfl rfl ?_
                refine gi_callv 2 (q := 86) C (dm_Mo_verdicts 49 rfl) rfl my_Mo_verdictOf lk_Mo_531 im_Mo_verdictOf rfl (c_Mo_verdictOf (v + 1) (by omega) (by omega) ml il B hpg h0 hF hU H) Ha rfl rfl ⟨(Nat.le_of_ble_eq_true rfl), (Nat.le_of_ble_eq_true rfl)⟩ (Nat.le_of_ble_eq_true rfl) ⟨(Nat.le_of_ble_eq_true rfl), (Nat.le_of_ble_eq_true rfl)⟩ (fun r83 n83 h83 e83 => ?_)
                obtain ⟨rfl, q83, u83⟩ := e83
                rw [q83, u83]
                refine gi_iload_n (q := 87) (i := 1) C (dm_Mo_verdicts 50 rfl) rfl rfl rfl ?_
                refine gi_icmp_ne (q := 90) (tgt := 94) C (dm_Mo_verdicts 51 rfl) rfl (by decide) (fun c87 => ?_) (fun c87 => ?_)
                · refine gi_iconst (q := 95) (v := 0) C (dm_Mo_verdicts 54 rfl) rfl (by decide) ?_
                  refine gi_iadd (q := 96) C (dm_Mo_verdicts 55 rfl) rfl ?_
                  refine gi_istore_n (q := 97) (i := 2) C (dm_Mo_verdicts 56 rfl) rfl rfl (Nat.le_of_ble_eq_true rfl) ?_
                  rw [show (0 : Int32) = nI 0 from rfl, nI_add]
                  have qs : sm (fun w => jcI P Fz (60 * m + i) vd (w + 1)) (v + 1) = sm (fun w => jcI P Fz (60 * m + i) vd (w + 1)) v + 0 := by
                    have : jcI P Fz (60 * m + i) vd (v + 1) = 0 := by
                      unfold jcI
                      first
                        | (rw [if_neg (fun z => absurd z.2 c87)]; done)
                        | (rw [if_neg (fun z => absurd z.1 (by rw [bI_fa c75]; decide))]; done)
                    show sm (fun w => jcI P Fz (60 * m + i) vd (w + 1)) v + jcI P Fz (60 * m + i) vd (v + 1) = _
                    rw [this]
                  refine gi_iinc (q := 100) (v := 1) C (dm_Mo_verdicts 57 rfl) rfl rfl (by decide) (Nat.le_of_ble_eq_true rfl) ?_
                  refine gi_goto (tgt := 55) C (dm_Mo_verdicts 58 rfl) (by decide) ?_
                  refine gi_close (ihv (v + 1) _ ⟨by omega, rfl⟩ (by omega)) (List.forall_mem_cons.mpr ⟨(by first | rfl | (simp [gi_look, nI_1]; done) | (rw [qs]; simp [gi_look, nI_1, Nat.add_assoc]; done) | (rw [qs, ← Nat.add_assoc]; rfl)), List.forall_mem_cons.mpr ⟨(by first | rfl | (simp [gi_look, nI_1]; done) | (rw [qs]; simp [gi_look, nI_1, Nat.add_assoc]; done) | (rw [qs, ← Nat.add_assoc]; rfl)), List.forall_mem_cons.mpr ⟨(by first | rfl | (simp [gi_look, nI_1]; done) | (rw [qs]; simp [gi_look, nI_1, Nat.add_assoc]; done) | (rw [qs, ← Nat.add_assoc]; rfl)), List.forall_mem_cons.mpr ⟨(by first | rfl | (simp [gi_look, nI_1]; done) | (rw [qs]; simp [gi_look, nI_1, Nat.add_assoc]; done) | (rw [qs, ← Nat.add_assoc]; rfl)), List.forall_mem_cons.mpr ⟨(by first | rfl | (simp [gi_look, nI_1]; done) | (rw [qs]; simp [gi_look, nI_1, Nat.add_assoc]; done) | (rw [qs, ← Nat.add_assoc]; rfl)), List.forall_mem_cons.mpr ⟨(by first | rfl | (simp [gi_look, nI_1]; done) | (rw [qs]; simp [gi_look, nI_1, Nat.add_assoc]; done) | (rw [qs, ← Nat.add_assoc]; rfl)), fun _ h => absurd h List.not_mem_nil⟩⟩⟩⟩⟩⟩) rfl rfl rfl
                · refine gi_iconst (q := 91) (v := 1) C (dm_Mo_verdicts 52 rfl) rfl (by decide) ?_
                  refine gi_goto (tgt := 95) C (dm_Mo_verdicts 53 rfl) (by decide) ?_
                  refine gi_iadd (q := 96) C (dm_Mo_verdicts 55 rfl) rfl ?_
                  refine gi_istore_n (q := 97) (i := 2) C (dm_Mo_verdicts 56 rfl) rfl rfl (Nat.le_of_ble_eq_true rfl) ?_
                  rw [nI_1]
                  have qs : sm (fun w => jcI P Fz (60 * m + i) vd (w + 1)) (v + 1) = sm (fun w => jcI P Fz (60 * m + i) vd (w + 1)) v + 1 := by
                    have : jcI P Fz (60 * m + i) vd (v + 1) = 1 := by
                      unfold jcI
                      rw [if_pos ⟨bI_t c75, c87⟩]
                    show sm (fun w => jcI P Fz (60 * m + i) vd (w + 1)) v + jcI P Fz (60 * m + i) vd (v + 1) = _
                    rw [this]
                  refine gi_iinc (q := 100) (v := 1) C (dm_Mo_verdicts 57 rfl) rfl rfl (by decide) (Nat.le_of_ble_eq_true rfl) ?_
                  refine gi_goto (tgt := 55) C (dm_Mo_verdicts 58 rfl) (by decide) ?_
                  refine gi_close (ihv (v + 1) _ ⟨by omega, rfl⟩ (by omega)) (List.forall_mem_cons.mpr ⟨(by first | rfl | (simp [gi_look, nI_1]; done) | (rw [qs]; simp [gi_look, nI_1, Nat.add_assoc]; done) | (rw [qs, ← Nat.add_assoc]; rfl)), List.forall_mem_cons.mpr ⟨(by first | rfl | (simp [gi_look, nI_1]; done) | (rw [qs]; simp [gi_look, nI_1, Nat.add_assoc]; done) | (rw [qs, ← Nat.add_assoc]; rfl)), List.forall_mem_cons.mpr ⟨(by first | rfl | (simp [gi_look, nI_1]; done) | (rw [qs]; simp [gi_look, nI_1, Nat.add_assoc]; done) | (rw [qs, ← Nat.add_assoc]; rfl)), List.forall_mem_cons.mpr ⟨(by first | rfl | (simp [gi_look, nI_1]; done) | (rw [qs]; simp [gi_look, nI_1, Nat.add_assoc]; done) | (rw [qs, ← Nat.add_assoc]; rfl)), List.forall_mem_cons.mpr ⟨(by first | rfl | (simp [gi_look, nI_1]; done) | (rw [qs]; simp [gi_look, nI_1, Nat.add_assoc]; done) | (rw [qs, ← Nat.add_assoc]; rfl)), List.forall_mem_cons.mpr ⟨(by first | rfl | (simp [gi_look, nI_1]; done) | (rw [qs]; simp [gi_look, nI_1, Nat.add_assoc]; done) | (rw [qs, ← Nat.add_assoc]; rfl)), fun _ h => absurd h List.not_mem_nil⟩⟩⟩⟩⟩⟩) rfl rfl rfl
      · refine gi_iconst (q := 17) (v := -1) C (dm_Mo_verdicts 8 rfl) rfl (by decide) ?_
        refine gi_iret C hr (dm_Mo_verdicts 9 rfl) ?_
        refine ⟨?_, rfl, rfl⟩
        unfold vsA
        first
          | (rw [if_neg (fun z => absurd z.1 (Int32.not_le.mpr c8))] <;> rfl)
          | (rw [if_neg (fun z => c13 z.2)] <;> rfl)
end RL5
