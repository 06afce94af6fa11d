-- needs: 89.99rm8
section RM9
variable {l : Launch} {V : gi_V} {n : Nat} {h h' : gi_H} {M k : Nat} {P : Pm} {sh : Nat → Option Sh} {S S' : Nat → Int32} {J J' : Nat → Int64} {F F' : Nat → Nat → Int32} {G : Nat → Nat → Int64} {Fz : Fa} {cb : Bool} {z : Mc} {c m : Nat} {Ga : Nat → Nat → Int32}
/-- what was given, in the reference -/
def gaR (c : Nat) (Ga : Nat → Nat → Int32) (S : Nat → Int32) (F : Nat → Nat → Int32) : Prop := c ≤ 3 ∧ S 67 = nI c ∧ (∀ i, i < c → F 68 i = Ga 1 i ∧ F 69 i = Ga 2 i ∧ 0 ≤ Ga 1 i) ∧ ∀ i j, i < c → j < 200 → F 70 (200 * i + j) = Ga 3 (200 * i + j)
def ftA (P : Pm) (m c : Nat) (Ga : Nat → Nat → Int32) (j : Nat) : Bool := decide (pN P 1 m = c) && (List.range j).all (fun i => kdB P m i != decide (Ga 1 i = 0))
theorem ftA_s {j : Nat} : ftA P m c Ga (j + 1) = (ftA P m c Ga j && (kdB P m j != decide (Ga 1 j = 0))) := by
  unfold ftA
  rw [List.range_succ, List.all_append, Bool.and_assoc]
  simp
theorem ftA_f {j d : Nat} (h : ftA P m c Ga j = false) : ftA P m c Ga (j + d) = false := by
  induction d with
  | zero => exact h
  | succ d ih => rw [← Nat.add_assoc, ftA_s, ih]; rfl
set_option maxHeartbeats 4000000 in
set_option maxRecDepth 100000 in
theorem c_Mo_fits (W : wfP k P) (hm : m < k) (hP : prF P F) (hg : gaR c Ga S F) (H : mo_at M S J F G h) : gi_T l V y_Mo_fits b_Mo_fits 4 (some .boolean) 1 22 0 0 [.ref M, .int (nI m)] n h (gi_is (some (.int (bI (ftG P m c Ga)))) n h) := by
  refine gi_enter (by decide) (Nat.le_of_ble_eq_true rfl) ?_
  intro _ _ _ _ _ _ _ _ C hr hnm
  obtain ⟨fs, Ha, Hf⟩ := id H.1
  have ho : outM M h h := outM.rf
  have w8 := W.k8
  have wm := wf_ar W hm
  have c3 := hg.1
  have e1 : F 1 m = nI (pN P 1 m) := by rw [hP 1 (by decide) (by decide)]; exact (wf_n W hm).1
  refine gi_aload_n (q := 1) (i := 0) C (dm_Mo_fits 0 rfl) rfl rfl rfl ?_
  refine gi_get (q := 4) C (dm_Mo_fits 1 rfl) rfl fl_Mo_537 Ha (mo_g67 Hf) ?_
  rw [hg.2.1]
  refine gi_aload_n (q := 5) (i := 0) C (dm_Mo_fits 2 rfl) rfl rfl rfl ?_
  refine gi_get (q := 8) C (dm_Mo_fits 3 rfl) rfl fl_Mo_7 Ha (mo_g1 Hf) ?_
  refine gi_iload_n (q := 9) (i := 1) C (dm_Mo_fits 4 rfl) rfl rfl rfl ?_
  refine gi_iald (q := 10) C (dm_Mo_fits 5 rfl) rfl rfl (mo_a1 H) (inN (show m < 8 by omega) (by decide)) ?_
  rw [nI_clamp (show m < 2 ^ 31 by omega), e1]
  refine gi_icmp_ne (q := 13) (tgt := 17) C (dm_Mo_fits 6 rfl) rfl (by decide) (fun c10 => ?_) (fun c10 => ?_)
  · refine gi_iconst (q := 18) (v := 0) C (dm_Mo_fits 9 rfl) rfl (by decide) ?_
    have ev : ftA P m c Ga 0 = false := by
      unfold ftA
      rw [decide_eq_false (fun q => c10 (by rw [q]))]
      rfl
    rw [show (0 : Int32) = bI (ftA P m c Ga 0) from by rw [ev]; rfl]
    refine gi_istore_n (q := 19) (i := 2) C (dm_Mo_fits 10 rfl) rfl rfl (Nat.le_of_ble_eq_true rfl) ?_
    refine gi_iconst (q := 20) (v := 0) C (dm_Mo_fits 11 rfl) rfl (by decide) ?_
    refine gi_istore_n (q := 21) (i := 3) C (dm_Mo_fits 12 rfl) rfl rfl (Nat.le_of_ble_eq_true rfl) ?_
    refine gi_while (σ := Nat) (fun j => c - j) (fun j => [(3, .int (nI j)), (2, .int (bI (ftA P m c Ga j))), (1, .int (nI m)), (0, .ref M)]) (fun _ => n) (fun _ => 0) (fun _ => 0) (fun j y' => j ≤ c ∧ h = y') 0 ⟨Nat.zero_le _, rfl⟩ ?_ (List.forall_mem_cons.mpr ⟨(by first | rfl | (simp [gi_look]; done)), List.forall_mem_cons.mpr ⟨(by first | rfl | (simp [gi_look]; done)), List.forall_mem_cons.mpr ⟨(by first | rfl | (simp [gi_look]; done)), List.forall_mem_cons.mpr ⟨(by first | rfl | (simp [gi_look]; done)), fun _ h => absurd h List.not_mem_nil⟩⟩⟩⟩) rfl rfl rfl
    rintro j y' ⟨hj, rfl⟩ ihj
    try dsimp only at *
    refine gi_iload_n (q := 22) (i := 3) C (dm_Mo_fits 13 rfl) rfl rfl rfl ?_
    refine gi_aload_n (q := 23) (i := 0) C (dm_Mo_fits 14 rfl) rfl rfl rfl ?_
    refine gi_get (q := 26) C (dm_Mo_fits 15 rfl) rfl fl_Mo_537 Ha (mo_g67 Hf) ?_
    rw [hg.2.1]
    refine gi_icmp_ge (q := 29) (tgt := 77) C (dm_Mo_fits 16 rfl) rfl (by decide) (fun c26 => ?_) (fun c26 => ?_)
    · refine gi_iload_n (q := 78) (i := 2) C (dm_Mo_fits 43 rfl) rfl rfl rfl ?_
      refine gi_zret C hr (dm_Mo_fits 44 rfl) (by cases ftA P m c Ga j <;> rfl) ?_
      refine ⟨?_, rfl, rfl⟩
      have e9 : ftG P m c Ga = ftA P m c Ga c := rfl
      rw [e9]
      first
        | (have jq : j = c := by
             rcases Nat.lt_or_ge j c with q | q
             exact absurd c26 (Int32.not_le.mpr (nI_lt (b := c) q (by omega)))
             omega
           rw [jq])
        | (have f0 := bI_fa c30
           have q := ftA_f (d := c - j) f0
           rw [show j + (c - j) = c by omega] at q
           rw [q, f0])
    · have jl : j < c := by
        rcases Nat.lt_or_ge j (c) with q | q
        · exact q
        · exact absurd (nI_le (a := c) q (by omega)) c26
      refine gi_iload_n (q := 30) (i := 2) C (dm_Mo_fits 17 rfl) rfl rfl rfl ?_
      refine gi_if_eq (q := 33) (tgt := 77) C (dm_Mo_fits 18 rfl) rfl (by decide) (fun c30 => ?_) (fun c30 => ?_)
      · refine gi_iload_n (q := 78) (i := 2) C (dm_Mo_fits 43 rfl) rfl rfl rfl ?_
        refine gi_zret C hr (dm_Mo_fits 44 rfl) (by cases ftA P m c Ga j <;> rfl) ?_
        refine ⟨?_, rfl, rfl⟩
        have e9 : ftG P m c Ga = ftA P m c Ga c := rfl
        rw [e9]
        first
          | (have jq : j = c := by
               rcases Nat.lt_or_ge j c with q | q
               exact absurd c26 (Int32.not_le.mpr (nI_lt (b := c) q (by omega)))
               omega
             rw [jq])
          | (have f0 := bI_fa c30
             have q := ftA_f (d := c - j) f0
             rw [show j + (c - j) = c by omega] at q
             rw [q, f0])
      · refine gi_aload_n (q := 34) (i := 0) C (dm_Mo_fits 19 rfl) rfl rfl rfl ?_
        refine gi_get (q := 37) C (dm_Mo_fits 20 rfl) rfl fl_Mo_140 Ha (mo_g68 Hf) ?_
        refine gi_iload_n (q := 38) (i := 3) C (dm_Mo_fits 21 rfl) rfl rfl rfl ?_
        refine gi_iald (q := 39) C (dm_Mo_fits 22 rfl) rfl rfl (mo_a68 H) (inN (show j < 3 by omega) (by decide)) ?_
        rw [nI_clamp (show j < 2 ^ 31 by omega), (hg.2.2.1 j jl).1]
        refine gi_if_le (q := 42) (tgt := 46) C (dm_Mo_fits 23 rfl) rfl (by decide) (fun c39 => ?_) (fun c39 => ?_)
        · refine gi_iconst (q := 47) (v := 0) C (dm_Mo_fits 26 rfl) rfl (by decide) ?_
          refine gi_aload_n (q := 48) (i := 0) C (dm_Mo_fits 27 rfl) rfl rfl rfl ?_
          refine gi_iload_n (q := 49) (i := 1) C (dm_Mo_fits 28 rfl) rfl rfl rfl ?_
          refine gi_iload_n (q := 50) (i := 3) C (dm_Mo_fits 29 rfl) rfl rfl rfl ?_
          refine gi_callv 2 (q := 53) C (dm_Mo_fits 30 rfl) rfl my_Mo_kindOf lk_Mo_207 im_Mo_kindOf rfl (c_Mo_kindOf (i := j) W hm (by omega) hP H) Ha rfl rfl ⟨(Nat.le_of_ble_eq_true rfl), (Nat.le_of_ble_eq_true rfl)⟩ (Nat.le_of_ble_eq_true rfl) ⟨(Nat.le_of_ble_eq_true rfl), (Nat.le_of_ble_eq_true rfl)⟩ (fun r50 n50 h50 e50 => ?_)
          obtain ⟨rfl, q50, u50⟩ := e50
          rw [q50, u50]
          refine gi_iconst (q := 54) (v := 1) C (dm_Mo_fits 31 rfl) rfl (by decide) ?_
          refine gi_icmp_ne (q := 57) (tgt := 61) C (dm_Mo_fits 32 rfl) rfl (by decide) (fun c54 => ?_) (fun c54 => ?_)
          · refine gi_iconst (q := 62) (v := 0) C (dm_Mo_fits 35 rfl) rfl (by decide) ?_
            refine gi_icmp_ne (q := 65) (tgt := 69) C (dm_Mo_fits 36 rfl) rfl (by decide) (fun c62 => ?_) (fun c62 => ?_)
            · refine gi_iconst (q := 70) (v := 0) C (dm_Mo_fits 39 rfl) rfl (by decide) ?_
              refine gi_istore_n (q := 71) (i := 2) C (dm_Mo_fits 40 rfl) rfl rfl (Nat.le_of_ble_eq_true rfl) ?_
              have fT : ftA P m c Ga j = true := bI_t c30
              have fl : ftA P m c Ga (j + 1) = false := by
                rw [ftA_s, fT, Bool.true_and]
                have kz : (decide (Ga 1 j = 0)) = decide (Ga 1 j ≤ 0) := by
                  have g0 := (hg.2.2.1 j jl).2.2
                  apply decide_eq_decide.mpr
                  exact ⟨fun e => by rw [e]; decide, fun e => Int32.le_antisymm e g0⟩
                rw [kz]
                first
                  | (rw [decide_eq_true c39, bI_t (b := kdB P m j) (by rw [c54]; decide)]; first | rfl | exact absurd rfl c62 | exact absurd c62 (by decide))
                  | (rw [decide_eq_true c39]
                     have kf : kdB P m j = false := (by cases e : kdB P m j with | false => rfl | true => exact absurd (by rw [e]; rfl) c54)
                     rw [kf]
                     first | rfl | exact absurd rfl c62 | exact absurd c62 (by decide))
                  | (rw [decide_eq_false c39, bI_t (b := kdB P m j) (by rw [c54]; decide)]; first | rfl | exact absurd rfl c62 | exact absurd c62 (by decide))
                  | (rw [decide_eq_false c39]
                     have kf : kdB P m j = false := (by cases e : kdB P m j with | false => rfl | true => exact absurd (by rw [e]; rfl) c54)
                     rw [kf]
                     first | rfl | exact absurd rfl c62 | exact absurd c62 (by decide))
              refine gi_iinc (q := 74) (v := 1) C (dm_Mo_fits 41 rfl) rfl rfl (by decide) (Nat.le_of_ble_eq_true rfl) ?_
              refine gi_goto (tgt := 21) C (dm_Mo_fits 42 rfl) (by decide) ?_
              refine gi_close (ihj (j + 1) _ ⟨jl, rfl⟩ (by omega)) (List.forall_mem_cons.mpr ⟨(by first | rfl | (simp [gi_look, nI_1]; done) | (rw [fl]; rfl)), List.forall_mem_cons.mpr ⟨(by first | rfl | (simp [gi_look, nI_1]; done) | (rw [fl]; rfl)), List.forall_mem_cons.mpr ⟨(by first | rfl | (simp [gi_look, nI_1]; done) | (rw [fl]; rfl)), List.forall_mem_cons.mpr ⟨(by first | rfl | (simp [gi_look, nI_1]; done) | (rw [fl]; rfl)), fun _ h => absurd h List.not_mem_nil⟩⟩⟩⟩) rfl rfl rfl
            · refine gi_iconst (q := 66) (v := 1) C (dm_Mo_fits 37 rfl) rfl (by decide) ?_
              refine gi_goto (tgt := 70) C (dm_Mo_fits 38 rfl) (by decide) ?_
              refine gi_istore_n (q := 71) (i := 2) C (dm_Mo_fits 40 rfl) rfl rfl (Nat.le_of_ble_eq_true rfl) ?_
              have fT : ftA P m c Ga j = true := bI_t c30
              have fl : ftA P m c Ga (j + 1) = true := by
                rw [ftA_s, fT, Bool.true_and]
                have kz : (decide (Ga 1 j = 0)) = decide (Ga 1 j ≤ 0) := by
                  have g0 := (hg.2.2.1 j jl).2.2
                  apply decide_eq_decide.mpr
                  exact ⟨fun e => by rw [e]; decide, fun e => Int32.le_antisymm e g0⟩
                rw [kz]
                first
                  | (rw [decide_eq_true c39, bI_t (b := kdB P m j) (by rw [c54]; decide)]; first | rfl | exact absurd rfl c62 | exact absurd c62 (by decide))
                  | (rw [decide_eq_true c39]
                     have kf : kdB P m j = false := (by cases e : kdB P m j with | false => rfl | true => exact absurd (by rw [e]; rfl) c54)
                     rw [kf]
                     first | rfl | exact absurd rfl c62 | exact absurd c62 (by decide))
                  | (rw [decide_eq_false c39, bI_t (b := kdB P m j) (by rw [c54]; decide)]; first | rfl | exact absurd rfl c62 | exact absurd c62 (by decide))
                  | (rw [decide_eq_false c39]
                     have kf : kdB P m j = false := (by cases e : kdB P m j with | false => rfl | true => exact absurd (by rw [e]; rfl) c54)
                     rw [kf]
                     first | rfl | exact absurd rfl c62 | exact absurd c62 (by decide))
              refine gi_iinc (q := 74) (v := 1) C (dm_Mo_fits 41 rfl) rfl rfl (by decide) (Nat.le_of_ble_eq_true rfl) ?_
              refine gi_goto (tgt := 21) C (dm_Mo_fits 42 rfl) (by decide) ?_
              refine gi_close (ihj (j + 1) _ ⟨jl, rfl⟩ (by omega)) (List.forall_mem_cons.mpr ⟨(by first | rfl | (simp [gi_look, nI_1]; done) | (rw [fl]; rfl)), List.forall_mem_cons.mpr ⟨(by first | rfl | (simp [gi_look, nI_1]; done) | (rw [fl]; rfl)), List.forall_mem_cons.mpr ⟨(by first | rfl | (simp [gi_look, nI_1]; done) | (rw [fl]; rfl)), List.forall_mem_cons.mpr ⟨(by first | rfl | (simp [gi_look, nI_1]; done) | (rw [fl]; rfl)), fun _ h => absurd h List.not_mem_nil⟩⟩⟩⟩) rfl rfl rfl
          · refine gi_iconst (q := 58) (v := 1) C (dm_Mo_fits 33 rfl) rfl (by decide) ?_
            refine gi_goto (tgt := 62) C (dm_Mo_fits 34 rfl) (by decide) ?_
            refine gi_icmp_ne (q := 65) (tgt := 69) C (dm_Mo_fits 36 rfl) rfl (by decide) (fun c62 => ?_) (fun c62 => ?_)
            · refine gi_iconst (q := 70) (v := 0) C (dm_Mo_fits 39 rfl) rfl (by decide) ?_
              refine gi_istore_n (q := 71) (i := 2) C (dm_Mo_fits 40 rfl) rfl rfl (Nat.le_of_ble_eq_true rfl) ?_
              have fT : ftA P m c Ga j = true := bI_t c30
              have fl : ftA P m c Ga (j + 1) = false := by
                rw [ftA_s, fT, Bool.true_and]
                have kz : (decide (Ga 1 j = 0)) = decide (Ga 1 j ≤ 0) := by
                  have g0 := (hg.2.2.1 j jl).2.2
                  apply decide_eq_decide.mpr
                  exact ⟨fun e => by rw [e]; decide, fun e => Int32.le_antisymm e g0⟩
                rw [kz]
                first
                  | (rw [decide_eq_true c39, bI_t (b := kdB P m j) (by rw [c54]; decide)]; first | rfl | exact absurd rfl c62 | exact absurd c62 (by decide))
                  | (rw [decide_eq_true c39]
                     have kf : kdB P m j = false := (by cases e : kdB P m j with | false => rfl | true => exact absurd (by rw [e]; rfl) c54)
                     rw [kf]
                     first | rfl | exact absurd rfl c62 | exact absurd c62 (by decide))
                  | (rw [decide_eq_false c39, bI_t (b := kdB P m j) (by rw [c54]; decide)]; first | rfl | exact absurd rfl c62 | exact absurd c62 (by decide))
                  | (rw [decide_eq_false c39]
                     have kf : kdB P m j = false := (by cases e : kdB P m j with | false => rfl | true => exact absurd (by rw [e]; rfl) c54)
                     rw [kf]
                     first | rfl | exact absurd rfl c62 | exact absurd c62 (by decide))
              refine gi_iinc (q := 74) (v := 1) C (dm_Mo_fits 41 rfl) rfl rfl (by decide) (Nat.le_of_ble_eq_true rfl) ?_
              refine gi_goto (tgt := 21) C (dm_Mo_fits 42 rfl) (by decide) ?_
              refine gi_close (ihj (j + 1) _ ⟨jl, rfl⟩ (by omega)) (List.forall_mem_cons.mpr ⟨(by first | rfl | (simp [gi_look, nI_1]; done) | (rw [fl]; rfl)), List.forall_mem_cons.mpr ⟨(by first | rfl | (simp [gi_look, nI_1]; done) | (rw [fl]; rfl)), List.forall_mem_cons.mpr ⟨(by first | rfl | (simp [gi_look, nI_1]; done) | (rw [fl]; rfl)), List.forall_mem_cons.mpr ⟨(by first | rfl | (simp [gi_look, nI_1]; done) | (rw [fl]; rfl)), fun _ h => absurd h List.not_mem_nil⟩⟩⟩⟩) rfl rfl rfl
            · refine gi_iconst (q := 66) (v := 1) C (dm_Mo_fits 37 rfl) rfl (by decide) ?_
              refine gi_goto (tgt := 70) C (dm_Mo_fits 38 rfl) (by decide) ?_
              refine gi_istore_n (q := 71) (i := 2) C (dm_Mo_fits 40 rfl) rfl rfl (Nat.le_of_ble_eq_true rfl) ?_
              have fT : ftA P m c Ga j = true := bI_t c30
              have fl : ftA P m c Ga (j + 1) = true := by
                rw [ftA_s, fT, Bool.true_and]
                have kz : (decide (Ga 1 j = 0)) = decide (Ga 1 j ≤ 0) := by
                  have g0 := (hg.2.2.1 j jl).2.2
                  apply decide_eq_decide.mpr
                  exact ⟨fun e => by rw [e]; decide, fun e => Int32.le_antisymm e g0⟩
                rw [kz]
                first
                  | (rw [decide_eq_true c39, bI_t (b := kdB P m j) (by rw [c54]; decide)]; first | rfl | exact absurd rfl c62 | exact absurd c62 (by decide))
                  | (rw [decide_eq_true c39]
                     have kf : kdB P m j = false := (by cases e : kdB P m j with | false => rfl | true => exact absurd (by rw [e]; rfl) c54)
                     rw [kf]
                     first | rfl | exact absurd rfl c62 | exact absurd c62 (by decide))
                  | (rw [decide_eq_false c39, bI_t (b := kdB P m j) (by rw [c54]; decide)]; first | rfl | exact absurd rfl c62 | exact absurd c62 (by decide))
                  | (rw [decide_eq_false c39]
                     have kf : kdB P m j = false := (by cases e : kdB P m j with | false => rfl | true => exact absurd (by rw [e]; rfl) c54)
                     rw [kf]
                     first | rfl | exact absurd rfl c62 | exact absurd c62 (by decide))
              refine gi_iinc (q := 74) (v := 1) C (dm_Mo_fits 41 rfl) rfl rfl (by decide) (Nat.le_of_ble_eq_true rfl) ?_
              refine gi_goto (tgt := 21) C (dm_Mo_fits 42 rfl) (by decide) ?_
              refine gi_close (ihj (j + 1) _ ⟨jl, rfl⟩ (by omega)) (List.forall_mem_cons.mpr ⟨(by first | rfl | (simp [gi_look, nI_1]; done) | (rw [fl]; rfl)), List.forall_mem_cons.mpr ⟨(by first | rfl | (simp [gi_look, nI_1]; done) | (rw [fl]; rfl)), List.forall_mem_cons.mpr ⟨(by first | rfl | (simp [gi_look, nI_1]; done) | (rw [fl]; rfl)), List.forall_mem_cons.mpr ⟨(by first | rfl | (simp [gi_look, nI_1]; done) | (rw [fl]; rfl)), fun _ h => absurd h List.not_mem_nil⟩⟩⟩⟩) rfl rfl rfl
        · refine gi_iconst (q := 43) (v := 1) C (dm_Mo_fits 24 rfl) rfl (by decide) ?_
          refine gi_goto (tgt := 47) C (dm_Mo_fits 25 rfl) (by decide) ?_
          refine gi_aload_n (q := 48) (i := 0) C (dm_Mo_fits 27 rfl) rfl rfl rfl ?_
          refine gi_iload_n (q := 49) (i := 1) C (dm_Mo_fits 28 rfl) rfl rfl rfl ?_
          refine gi_iload_n (q := 50) (i := 3) C (dm_Mo_fits 29 rfl) rfl rfl rfl ?_
          refine gi_callv 2 (q := 53) C (dm_Mo_fits 30 rfl) rfl my_Mo_kindOf lk_Mo_207 im_Mo_kindOf rfl (c_Mo_kindOf (i := j) W hm (by omega) hP H) Ha rfl rfl ⟨(Nat.le_of_ble_eq_true rfl), (Nat.le_of_ble_eq_true rfl)⟩ (Nat.le_of_ble_eq_true rfl) ⟨(Nat.le_of_ble_eq_true rfl), (Nat.le_of_ble_eq_true rfl)⟩ (fun r50 n50 h50 e50 => ?_)
          obtain ⟨rfl, q50, u50⟩ := e50
          rw [q50, u50]
          refine gi_iconst (q := 54) (v := 1) C (dm_Mo_fits 31 rfl) rfl (by decide) ?_
          refine gi_icmp_ne (q := 57) (tgt := 61) C (dm_Mo_fits 32 rfl) rfl (by decide) (fun c54 => ?_) (fun c54 => ?_)
          · refine gi_iconst (q := 62) (v := 0) C (dm_Mo_fits 35 rfl) rfl (by decide) ?_
            refine gi_icmp_ne (q := 65) (tgt := 69) C (dm_Mo_fits 36 rfl) rfl (by decide) (fun c62 => ?_) (fun c62 => ?_)
            · refine gi_iconst (q := 70) (v := 0) C (dm_Mo_fits 39 rfl) rfl (by decide) ?_
              refine gi_istore_n (q := 71) (i := 2) C (dm_Mo_fits 40 rfl) rfl rfl (Nat.le_of_ble_eq_true rfl) ?_
              have fT : ftA P m c Ga j = true := bI_t c30
              have fl : ftA P m c Ga (j + 1) = false := by
                rw [ftA_s, fT, Bool.true_and]
                have kz : (decide (Ga 1 j = 0)) = decide (Ga 1 j ≤ 0) := by
                  have g0 := (hg.2.2.1 j jl).2.2
                  apply decide_eq_decide.mpr
                  exact ⟨fun e => by rw [e]; decide, fun e => Int32.le_antisymm e g0⟩
                rw [kz]
                first
                  | (rw [decide_eq_true c39, bI_t (b := kdB P m j) (by rw [c54]; decide)]; first | rfl | exact absurd rfl c62 | exact absurd c62 (by decide))
                  | (rw [decide_eq_true c39]
                     have kf : kdB P m j = false := (by cases e : kdB P m j with | false => rfl | true => exact absurd (by rw [e]; rfl) c54)
                     rw [kf]
                     first | rfl | exact absurd rfl c62 | exact absurd c62 (by decide))
                  | (rw [decide_eq_false c39, bI_t (b := kdB P m j) (by rw [c54]; decide)]; first | rfl | exact absurd rfl c62 | exact absurd c62 (by decide))
                  | (rw [decide_eq_false c39]
                     have kf : kdB P m j = false := (by cases e : kdB P m j with | false => rfl | true => exact absurd (by rw [e]; rfl) c54)
                     rw [kf]
                     first | rfl | exact absurd rfl c62 | exact absurd c62 (by decide))
              refine gi_iinc (q := 74) (v := 1) C (dm_Mo_fits 41 rfl) rfl rfl (by decide) (Nat.le_of_ble_eq_true rfl) ?_
              refine gi_goto (tgt := 21) C (dm_Mo_fits 42 rfl) (by decide) ?_
              refine gi_close (ihj (j + 1) _ ⟨jl, rfl⟩ (by omega)) (List.forall_mem_cons.mpr ⟨(by first | rfl | (simp [gi_look, nI_1]; done) | (rw [fl]; rfl)), List.forall_mem_cons.mpr ⟨(by first | rfl | (simp [gi_look, nI_1]; done) | (rw [fl]; rfl)), List.forall_mem_cons.mpr ⟨(by first | rfl | (simp [gi_look, nI_1]; done) | (rw [fl]; rfl)), List.forall_mem_cons.mpr ⟨(by first | rfl | (simp [gi_look, nI_1]; done) | (rw [fl]; rfl)), fun _ h => absurd h List.not_mem_nil⟩⟩⟩⟩) rfl rfl rfl
            · refine gi_iconst (q := 66) (v := 1) C (dm_Mo_fits 37 rfl) rfl (by decide) ?_
              refine gi_goto (tgt := 70) C (dm_Mo_fits 38 rfl) (by decide) ?_
              refine gi_istore_n (q := 71) (i := 2) C (dm_Mo_fits 40 rfl) rfl rfl (Nat.le_of_ble_eq_true rfl) ?_
              have fT : ftA P m c Ga j = true := bI_t c30
              have fl : ftA P m c Ga (j + 1) = true := by
                rw [ftA_s, fT, Bool.true_and]
                have kz : (decide (Ga 1 j = 0)) = decide (Ga 1 j ≤ 0) := by
                  have g0 := (hg.2.2.1 j jl).2.2
                  apply decide_eq_decide.mpr
                  exact ⟨fun e => by rw [e]; decide, fun e => Int32.le_antisymm e g0⟩
                rw [kz]
                first
                  | (rw [decide_eq_true c39, bI_t (b := kdB P m j) (by rw [c54]; decide)]; first | rfl | exact absurd rfl c62 | exact absurd c62 (by decide))
                  | (rw [decide_eq_true c39]
                     have kf : kdB P m j = false := (by cases e : kdB P m j with | false => rfl | true => exact absurd (by rw [e]; rfl) c54)
                     rw [kf]
                     first | rfl | exact absurd rfl c62 | exact absurd c62 (by decide))
                  | (rw [decide_eq_false c39, bI_t (b := kdB P m j) (by rw [c54]; decide)]; first | rfl | exact absurd rfl c62 | exact absurd c62 (by decide))
                  | (rw [decide_eq_false c39]
                     have kf : kdB P m j = false := (by cases e : kdB P m j with | false => rfl | true => exact absurd (by rw [e]; rfl) c54)
                     rw [kf]
                     first | rfl | exact absurd rfl c62 | exact absurd c62 (by decide))
              refine gi_iinc (q := 74) (v := 1) C (dm_Mo_fits 41 rfl) rfl rfl (by decide) (Nat.le_of_ble_eq_true rfl) ?_
              refine gi_goto (tgt := 21) C (dm_Mo_fits 42 rfl) (by decide) ?_
              refine gi_close (ihj (j + 1) _ ⟨jl, rfl⟩ (by omega)) (List.forall_mem_cons.mpr ⟨(by first | rfl | (simp [gi_look, nI_1]; done) | (rw [fl]; rfl)), List.forall_mem_cons.mpr ⟨(by first | rfl | (simp [gi_look, nI_1]; done) | (rw [fl]; rfl)), List.forall_mem_cons.mpr ⟨(by first | rfl | (simp [gi_look, nI_1]; done) | (rw [fl]; rfl)), List.forall_mem_cons.mpr ⟨(by first | rfl | (simp [gi_look, nI_1]; done) | (rw [fl]; rfl)), fun _ h => absurd h List.not_mem_nil⟩⟩⟩⟩) rfl rfl rfl
          · refine gi_iconst (q := 58) (v := 1) C (dm_Mo_fits 33 rfl) rfl (by decide) ?_
            refine gi_goto (tgt := 62) C (dm_Mo_fits 34 rfl) (by decide) ?_
            refine gi_icmp_ne (q := 65) (tgt := 69) C (dm_Mo_fits 36 rfl) rfl (by decide) (fun c62 => ?_) (fun c62 => ?_)
            · refine gi_iconst (q := 70) (v := 0) C (dm_Mo_fits 39 rfl) rfl (by decide) ?_
              refine gi_istore_n (q := 71) (i := 2) C (dm_Mo_fits 40 rfl) rfl rfl (Nat.le_of_ble_eq_true rfl) ?_
              have fT : ftA P m c Ga j = true := bI_t c30
              have fl : ftA P m c Ga (j + 1) = false := by
                rw [ftA_s, fT, Bool.true_and]
                have kz : (decide (Ga 1 j = 0)) = decide (Ga 1 j ≤ 0) := by
                  have g0 := (hg.2.2.1 j jl).2.2
                  apply decide_eq_decide.mpr
                  exact ⟨fun e => by rw [e]; decide, fun e => Int32.le_antisymm e g0⟩
                rw [kz]
                first
                  | (rw [decide_eq_true c39, bI_t (b := kdB P m j) (by rw [c54]; decide)]; first | rfl | exact absurd rfl c62 | exact absurd c62 (by decide))
                  | (rw [decide_eq_true c39]
                     have kf : kdB P m j = false := (by cases e : kdB P m j with | false => rfl | true => exact absurd (by rw [e]; rfl) c54)
                     rw [kf]
                     first | rfl | exact absurd rfl c62 | exact absurd c62 (by decide))
                  | (rw [decide_eq_false c39, bI_t (b := kdB P m j) (by rw [c54]; decide)]; first | rfl | exact absurd rfl c62 | exact absurd c62 (by decide))
                  | (rw [decide_eq_false c39]
                     have kf : kdB P m j = false := (by cases e : kdB P m j with | false => rfl | true => exact absurd (by rw [e]; rfl) c54)
                     rw [kf]
                     first | rfl | exact absurd rfl c62 | exact absurd c62 (by decide))
              refine gi_iinc (q := 74) (v := 1) C (dm_Mo_fits 41 rfl) rfl rfl (by decide) (Nat.le_of_ble_eq_true rfl) ?_
              refine gi_goto (tgt := 21) C (dm_Mo_fits 42 rfl) (by decide) ?_
              refine gi_close (ihj (j + 1) _ ⟨jl, rfl⟩ (by omega)) (List.forall_mem_cons.mpr ⟨(by first | rfl | (simp [gi_look, nI_1]; done) | (rw [fl]; rfl)), List.forall_mem_cons.mpr ⟨(by first | rfl | (simp [gi_look, nI_1]; done) | (rw [fl]; rfl)), List.forall_mem_cons.mpr ⟨(by first | rfl | (simp [gi_look, nI_1]; done) | (rw [fl]; rfl)), List.forall_mem_cons.mpr ⟨(by first | rfl | (simp [gi_look, nI_1]; done) | (rw [fl]; rfl)), fun _ h => absurd h List.not_mem_nil⟩⟩⟩⟩) rfl rfl rfl
            · refine gi_iconst (q := 66) (v := 1) C (dm_Mo_fits 37 rfl) rfl (by decide) ?_
              refine gi_goto (tgt := 70) C (dm_Mo_fits 38 rfl) (by decide) ?_
              refine gi_istore_n (q := 71) (i := 2) C (dm_Mo_fits 40 rfl) rfl rfl (Nat.le_of_ble_eq_true rfl) ?_
              have fT : ftA P m c Ga j = true := bI_t c30
              have fl : ftA P m c Ga (j + 1) = true := by
                rw [ftA_s, fT, Bool.true_and]
                have kz : (decide (Ga 1 j = 0)) = decide (Ga 1 j ≤ 0) := by
                  have g0 := (hg.2.2.1 j jl).2.2
                  apply decide_eq_decide.mpr
                  exact ⟨fun e => by rw [e]; decide, fun e => Int32.le_antisymm e g0⟩
                rw [kz]
                first
                  | (rw [decide_eq_true c39, bI_t (b := kdB P m j) (by rw [c54]; decide)]; first | rfl | exact absurd rfl c62 | exact absurd c62 (by decide))
                  | (rw [decide_eq_true c39]
                     have kf : kdB P m j = false := (by cases e : kdB P m j with | false => rfl | true => exact absurd (by rw [e]; rfl) c54)
                     rw [kf]
                     first | rfl | exact absurd rfl c62 | exact absurd c62 (by decide))
                  | (rw [decide_eq_false c39, bI_t (b := kdB P m j) (by rw [c54]; decide)]; first | rfl | exact absurd rfl c62 | exact absurd c62 (by decide))
                  | (rw [decide_eq_false c39]
                     have kf : kdB P m j = false := (by cases e : kdB P m j with | false => rfl | true => exact absurd (by rw [e]; rfl) c54)
                     rw [kf]
                     first | rfl | exact absurd rfl c62 | exact absurd c62 (by decide))
              refine gi_iinc (q := 74) (v := 1) C (dm_Mo_fits 41 rfl) rfl rfl (by decide) (Nat.le_of_ble_eq_true rfl) ?_
              refine gi_goto (tgt := 21) C (dm_Mo_fits 42 rfl) (by decide) ?_
              refine gi_close (ihj (j + 1) _ ⟨jl, rfl⟩ (by omega)) (List.forall_mem_cons.mpr ⟨(by first | rfl | (simp [gi_look, nI_1]; done) | (rw [fl]; rfl)), List.forall_mem_cons.mpr ⟨(by first | rfl | (simp [gi_look, nI_1]; done) | (rw [fl]; rfl)), List.forall_mem_cons.mpr ⟨(by first | rfl | (simp [gi_look, nI_1]; done) | (rw [fl]; rfl)), List.forall_mem_cons.mpr ⟨(by first | rfl | (simp [gi_look, nI_1]; done) | (rw [fl]; rfl)), fun _ h => absurd h List.not_mem_nil⟩⟩⟩⟩) rfl rfl rfl
  · refine gi_iconst (q := 14) (v := 1) C (dm_Mo_fits 7 rfl) rfl (by decide) ?_
    refine gi_goto (tgt := 18) C (dm_Mo_fits 8 rfl) (by decide) ?_
    have ev : ftA P m c Ga 0 = true := by
      unfold ftA
      rw [decide_eq_true ((nI_ei (by omega) (by omega)).mp c10).symm]
      rfl
    rw [show (1 : Int32) = bI (ftA P m c Ga 0) from by rw [ev]; rfl]
    refine gi_istore_n (q := 19) (i := 2) C (dm_Mo_fits 10 rfl) rfl rfl (Nat.le_of_ble_eq_true rfl) ?_
    refine gi_iconst (q := 20) (v := 0) C (dm_Mo_fits 11 rfl) rfl (by decide) ?_
    refine gi_istore_n (q := 21) (i := 3) C (dm_Mo_fits 12 rfl) rfl rfl (Nat.le_of_ble_eq_true rfl) ?_
    refine gi_while (σ := Nat) (fun j => c - j) (fun j => [(3, .int (nI j)), (2, .int (bI (ftA P m c Ga j))), (1, .int (nI m)), (0, .ref M)]) (fun _ => n) (fun _ => 0) (fun _ => 0) (fun j y' => j ≤ c ∧ h = y') 0 ⟨Nat.zero_le _, rfl⟩ ?_ (List.forall_mem_cons.mpr ⟨(by first | rfl | (simp [gi_look]; done)), List.forall_mem_cons.mpr ⟨(by first | rfl | (simp [gi_look]; done)), List.forall_mem_cons.mpr ⟨(by first | rfl | (simp [gi_look]; done)), List.forall_mem_cons.mpr ⟨(by first | rfl | (simp [gi_look]; done)), fun _ h => absurd h List.not_mem_nil⟩⟩⟩⟩) rfl rfl rfl
    rintro j y' ⟨hj, rfl⟩ ihj
    try dsimp only at *
    refine gi_iload_n (q := 22) (i := 3) C (dm_Mo_fits 13 rfl) rfl rfl rfl ?_
    refine gi_aload_n (q := 23) (i := 0) C (dm_Mo_fits 14 rfl) rfl rfl rfl ?_
    refine gi_get (q := 26) C (dm_Mo_fits 15 rfl) rfl fl_Mo_537 Ha (mo_g67 Hf) ?_
    rw [hg.2.1]
    refine gi_icmp_ge (q := 29) (tgt := 77) C (dm_Mo_fits 16 rfl) rfl (by decide) (fun c26 => ?_) (fun c26 => ?_)
    · refine gi_iload_n (q := 78) (i := 2) C (dm_Mo_fits 43 rfl) rfl rfl rfl ?_
      refine gi_zret C hr (dm_Mo_fits 44 rfl) (by cases ftA P m c Ga j <;> rfl) ?_
      refine ⟨?_, rfl, rfl⟩
      have e9 : ftG P m c Ga = ftA P m c Ga c := rfl
      rw [e9]
      first
        | (have jq : j = c := by
             rcases Nat.lt_or_ge j c with q | q
             exact absurd c26 (Int32.not_le.mpr (nI_lt (b := c) q (by omega)))
             omega
           rw [jq])
        | (have f0 := bI_fa c30
           have q := ftA_f (d := c - j) f0
           rw [show j + (c - j) = c by omega] at q
           rw [q, f0])
    · have jl : j < c := by
        rcases Nat.lt_or_ge j (c) with q | q
        · exact q
        · exact absurd (nI_le (a := c) q (by omega)) c26
      refine gi_iload_n (q := 30) (i := 2) C (dm_Mo_fits 17 rfl) rfl rfl rfl ?_
      refine gi_if_eq (q := 33) (tgt := 77) C (dm_Mo_fits 18 rfl) rfl (by decide) (fun c30 => ?_) (fun c30 => ?_)
      · refine gi_iload_n (q := 78) (i := 2) C (dm_Mo_fits 43 rfl) rfl rfl rfl ?_
        refine gi_zret C hr (dm_Mo_fits 44 rfl) (by cases ftA P m c Ga j <;> rfl) ?_
        refine ⟨?_, rfl, rfl⟩
        have e9 : ftG P m c Ga = ftA P m c Ga c := rfl
        rw [e9]
        first
          | (have jq : j = c := by
               rcases Nat.lt_or_ge j c with q | q
               exact absurd c26 (Int32.not_le.mpr (nI_lt (b := c) q (by omega)))
               omega
             rw [jq])
          | (have f0 := bI_fa c30
             have q := ftA_f (d := c - j) f0
             rw [show j + (c - j) = c by omega] at q
             rw [q, f0])
      · refine gi_aload_n (q := 34) (i := 0) C (dm_Mo_fits 19 rfl) rfl rfl rfl ?_
        refine gi_get (q := 37) C (dm_Mo_fits 20 rfl) rfl fl_Mo_140 Ha (mo_g68 Hf) ?_
        refine gi_iload_n (q := 38) (i := 3) C (dm_Mo_fits 21 rfl) rfl rfl rfl ?_
        refine gi_iald (q := 39) C (dm_Mo_fits 22 rfl) rfl rfl (mo_a68 H) (inN (show j < 3 by omega) (by decide)) ?_
        rw [nI_clamp (show j < 2 ^ 31 by omega), (hg.2.2.1 j jl).1]
        refine gi_if_le (q := 42) (tgt := 46) C (dm_Mo_fits 23 rfl) rfl (by decide) (fun c39 => ?_) (fun c39 => ?_)
        · refine gi_iconst (q := 47) (v := 0) C (dm_Mo_fits 26 rfl) rfl (by decide) ?_
          refine gi_aload_n (q := 48) (i := 0) C (dm_Mo_fits 27 rfl) rfl rfl rfl ?_
          refine gi_iload_n (q := 49) (i := 1) C (dm_Mo_fits 28 rfl) rfl rfl rfl ?_
          refine gi_iload_n (q := 50) (i := 3) C (dm_Mo_fits 29 rfl) rfl rfl rfl ?_
          refine gi_callv 2 (q := 53) C (dm_Mo_fits 30 rfl) rfl my_Mo_kindOf lk_Mo_207 im_Mo_kindOf rfl (c_Mo_kindOf (i := j) W hm (by omega) hP H) Ha rfl rfl ⟨(Nat.le_of_ble_eq_true rfl), (Nat.le_of_ble_eq_true rfl)⟩ (Nat.le_of_ble_eq_true rfl) ⟨(Nat.le_of_ble_eq_true rfl), (Nat.le_of_ble_eq_true rfl)⟩ (fun r50 n50 h50 e50 => ?_)
          obtain ⟨rfl, q50, u50⟩ := e50
          rw [q50, u50]
          refine gi_iconst (q := 54) (v := 1) C (dm_Mo_fits 31 rfl) rfl (by decide) ?_
          refine gi_icmp_ne (q := 57) (tgt := 61) C (dm_Mo_fits 32 rfl) rfl (by decide) (fun c54 => ?_) (fun c54 => ?_)
          · refine gi_iconst (q := 62) (v := 0) C (dm_Mo_fits 35 rfl) rfl (by decide) ?_
            refine gi_icmp_ne (q := 65) (tgt := 69) C (dm_Mo_fits 36 rfl) rfl (by decide) (fun c62 => ?_) (fun c62 => ?_)
            · refine gi_iconst (q := 70) (v := 0) C (dm_Mo_fits 39 rfl) rfl (by decide) ?_
              refine gi_istore_n (q := 71) (i := 2) C (dm_Mo_fits 40 rfl) rfl rfl (Nat.le_of_ble_eq_true rfl) ?_
              have fT : ftA P m c Ga j = true := bI_t c30
              have fl : ftA P m c Ga (j + 1) = false := by
                rw [ftA_s, fT, Bool.true_and]
                have kz : (decide (Ga 1 j = 0)) = decide (Ga 1 j ≤ 0) := by
                  have g0 := (hg.2.2.1 j jl).2.2
                  apply decide_eq_decide.mpr
                  exact ⟨fun e => by rw [e]; decide, fun e => Int32.le_antisymm e g0⟩
                rw [kz]
                first
                  | (rw [decide_eq_true c39, bI_t (b := kdB P m j) (by rw [c54]; decide)]; first | rfl | exact absurd rfl c62 | exact absurd c62 (by decide))
                  | (rw [decide_eq_true c39]
                     have kf : kdB P m j = false := (by cases e : kdB P m j with | false => rfl | true => exact absurd (by rw [e]; rfl) c54)
                     rw [kf]
                     first | rfl | exact absurd rfl c62 | exact absurd c62 (by decide))
                  | (rw [decide_eq_false c39, bI_t (b := kdB P m j) (by rw [c54]; decide)]; first | rfl | exact absurd rfl c62 | exact absurd c62 (by decide))
                  | (rw [decide_eq_false c39]
                     have kf : kdB P m j = false := (by cases e : kdB P m j with | false => rfl | true => exact absurd (by rw [e]; rfl) c54)
                     rw [kf]
                     first | rfl | exact absurd rfl c62 | exact absurd c62 (by decide))
              refine gi_iinc (q := 74) (v := 1) C (dm_Mo_fits 41 rfl) rfl rfl (by decide) (Nat.le_of_ble_eq_true rfl) ?_
              refine gi_goto (tgt := 21) C (dm_Mo_fits 42 rfl) (by decide) ?_
              refine gi_close (ihj (j + 1) _ ⟨jl, rfl⟩ (by omega)) (List.forall_mem_cons.mpr ⟨(by first | rfl | (simp [gi_look, nI_1]; done) | (rw [fl]; rfl)), List.forall_mem_cons.mpr ⟨(by first | rfl | (simp [gi_look, nI_1]; done) | (rw [fl]; rfl)), List.forall_mem_cons.mpr ⟨(by first | rfl | (simp [gi_look, nI_1]; done) | (rw [fl]; rfl)), List.forall_mem_cons.mpr ⟨(by first | rfl | (simp [gi_look, nI_1]; done) | (rw [fl]; rfl)), fun _ h => absurd h List.not_mem_nil⟩⟩⟩⟩) rfl rfl rfl
            · refine gi_iconst (q := 66) (v := 1) C (dm_Mo_fits 37 rfl) rfl (by decide) ?_
              refine gi_goto (tgt := 70) C (dm_Mo_fits 38 rfl) (by decide) ?_
              refine gi_istore_n (q := 71) (i := 2) C (dm_Mo_fits 40 rfl) rfl rfl (Nat.le_of_ble_eq_true rfl) ?_
              have fT : ftA P m c Ga j = true := bI_t c30
              have fl : ftA P m c Ga (j + 1) = true := by
                rw [ftA_s, fT, Bool.true_and]
                have kz : (decide (Ga 1 j = 0)) = decide (Ga 1 j ≤ 0) := by
                  have g0 := (hg.2.2.1 j jl).2.2
                  apply decide_eq_decide.mpr
                  exact ⟨fun e => by rw [e]; decide, fun e => Int32.le_antisymm e g0⟩
                rw [kz]
                first
                  | (rw [decide_eq_true c39, bI_t (b := kdB P m j) (by rw [c54]; decide)]; first | rfl | exact absurd rfl c62 | exact absurd c62 (by decide))
                  | (rw [decide_eq_true c39]
                     have kf : kdB P m j = false := (by cases e : kdB P m j with | false => rfl | true => exact absurd (by rw [e]; rfl) c54)
                     rw [kf]
                     first | rfl | exact absurd rfl c62 | exact absurd c62 (by decide))
                  | (rw [decide_eq_false c39, bI_t (b := kdB P m j) (by rw [c54]; decide)]; first | rfl | exact absurd rfl c62 | exact absurd c62 (by decide))
                  | (rw [decide_eq_false c39]
                     have kf : kdB P m j = false := (by cases e : kdB P m j with | false => rfl | true => exact absurd (by rw [e]; rfl) c54)
                     rw [kf]
                     first | rfl | exact absurd rfl c62 | exact absurd c62 (by decide))
              refine gi_iinc (q := 74) (v := 1) C (dm_Mo_fits 41 rfl) rfl rfl (by decide) (Nat.le_of_ble_eq_true rfl) ?_
              refine gi_goto (tgt := 21) C (dm_Mo_fits 42 rfl) (by decide) ?_
              refine gi_close (ihj (j + 1) _ ⟨jl, rfl⟩ (by omega)) (List.forall_mem_cons.mpr ⟨(by first | rfl | (simp [gi_look, nI_1]; done) | (rw [fl]; rfl)), List.forall_mem_cons.mpr ⟨(by first | rfl | (simp [gi_look, nI_1]; done) | (rw [fl]; rfl)), List.forall_mem_cons.mpr ⟨(by first | rfl | (simp [gi_look, nI_1]; done) | (rw [fl]; rfl)), List.forall_mem_cons.mpr ⟨(by first | rfl | (simp [gi_look, nI_1]; done) | (rw [fl]; rfl)), fun _ h => absurd h List.not_mem_nil⟩⟩⟩⟩) rfl rfl rfl
          · refine gi_iconst (q := 58) (v := 1) C (dm_Mo_fits 33 rfl) rfl (by decide) ?_
            refine gi_goto (tgt := 62) C (dm_Mo_fits 34 rfl) (by decide) ?_
            refine gi_icmp_ne (q := 65) (tgt := 69) C (dm_Mo_fits 36 rfl) rfl (by decide) (fun c62 => ?_) (fun c62 => ?_)
            · refine gi_iconst (q := 70) (v := 0) C (dm_Mo_fits 39 rfl) rfl (by decide) ?_
              refine gi_istore_n (q := 71) (i := 2) C (dm_Mo_fits 40 rfl) rfl rfl (Nat.le_of_ble_eq_true rfl) ?_
              have fT : ftA P m c Ga j = true := bI_t c30
              have fl : ftA P m c Ga (j + 1) = false := by
                rw [ftA_s, fT, Bool.true_and]
                have kz : (decide (Ga 1 j = 0)) = decide (Ga 1 j ≤ 0) := by
                  have g0 := (hg.2.2.1 j jl).2.2
                  apply decide_eq_decide.mpr
                  exact ⟨fun e => by rw [e]; decide, fun e => Int32.le_antisymm e g0⟩
                rw [kz]
                first
                  | (rw [decide_eq_true c39, bI_t (b := kdB P m j) (by rw [c54]; decide)]; first | rfl | exact absurd rfl c62 | exact absurd c62 (by decide))
                  | (rw [decide_eq_true c39]
                     have kf : kdB P m j = false := (by cases e : kdB P m j with | false => rfl | true => exact absurd (by rw [e]; rfl) c54)
                     rw [kf]
                     first | rfl | exact absurd rfl c62 | exact absurd c62 (by decide))
                  | (rw [decide_eq_false c39, bI_t (b := kdB P m j) (by rw [c54]; decide)]; first | rfl | exact absurd rfl c62 | exact absurd c62 (by decide))
                  | (rw [decide_eq_false c39]
                     have kf : kdB P m j = false := (by cases e : kdB P m j with | false => rfl | true => exact absurd (by rw [e]; rfl) c54)
                     rw [kf]
                     first | rfl | exact absurd rfl c62 | exact absurd c62 (by decide))
              refine gi_iinc (q := 74) (v := 1) C (dm_Mo_fits 41 rfl) rfl rfl (by decide) (Nat.le_of_ble_eq_true rfl) ?_
              refine gi_goto (tgt := 21) C (dm_Mo_fits 42 rfl) (by decide) ?_
              refine gi_close (ihj (j + 1) _ ⟨jl, rfl⟩ (by omega)) (List.forall_mem_cons.mpr ⟨(by first | rfl | (simp [gi_look, nI_1]; done) | (rw [fl]; rfl)), List.forall_mem_cons.mpr ⟨(by first | rfl | (simp [gi_look, nI_1]; done) | (rw [fl]; rfl)), List.forall_mem_cons.mpr ⟨(by first | rfl | (simp [gi_look, nI_1]; done) | (rw [fl]; rfl)), List.forall_mem_cons.mpr ⟨(by first | rfl | (simp [gi_look, nI_1]; done) | (rw [fl]; rfl)), fun _ h => absurd h List.not_mem_nil⟩⟩⟩⟩) rfl rfl rfl
            · refine gi_iconst (q := 66) (v := 1) C (dm_Mo_fits 37 rfl) rfl (by decide) ?_
              refine gi_goto (tgt := 70) C (dm_Mo_fits 38 rfl) (by decide) ?_
              refine gi_istore_n (q := 71) (i := 2) C (dm_Mo_fits 40 rfl) rfl rfl (Nat.le_of_ble_eq_true rfl) ?_
              have fT : ftA P m c Ga j = true := bI_t c30
              have fl : ftA P m c Ga (j + 1) = true := by
                rw [ftA_s, fT, Bool.true_and]
                have kz : (decide (Ga 1 j = 0)) = decide (Ga 1 j ≤ 0) := by
                  have g0 := (hg.2.2.1 j jl).2.2
                  apply decide_eq_decide.mpr
                  exact ⟨fun e => by rw [e]; decide, fun e => Int32.le_antisymm e g0⟩
                rw [kz]
                first
                  | (rw [decide_eq_true c39, bI_t (b := kdB P m j) (by rw [c54]; decide)]; first | rfl | exact absurd rfl c62 | exact absurd c62 (by decide))
                  | (rw [decide_eq_true c39]
                     have kf : kdB P m j = false := (by cases e : kdB P m j with | false => rfl | true => exact absurd (by rw [e]; rfl) c54)
                     rw [kf]
                     first | rfl | exact absurd rfl c62 | exact absurd c62 (by decide))
                  | (rw [decide_eq_false c39, bI_t (b := kdB P m j) (by rw [c54]; decide)]; first | rfl | exact absurd rfl c62 | exact absurd c62 (by decide))
                  | (rw [decide_eq_false c39]
                     have kf : kdB P m j = false := (by cases e : kdB P m j with | false => rfl | true => exact absurd (by rw [e]; rfl) c54)
                     rw [kf]
                     first | rfl | exact absurd rfl c62 | exact absurd c62 (by decide))
              refine gi_iinc (q := 74) (v := 1) C (dm_Mo_fits 41 rfl) rfl rfl (by decide) (Nat.le_of_ble_eq_true rfl) ?_
              refine gi_goto (tgt := 21) C (dm_Mo_fits 42 rfl) (by decide) ?_
              refine gi_close (ihj (j + 1) _ ⟨jl, rfl⟩ (by omega)) (List.forall_mem_cons.mpr ⟨(by first | rfl | (simp [gi_look, nI_1]; done) | (rw [fl]; rfl)), List.forall_mem_cons.mpr ⟨(by first | rfl | (simp [gi_look, nI_1]; done) | (rw [fl]; rfl)), List.forall_mem_cons.mpr ⟨(by first | rfl | (simp [gi_look, nI_1]; done) | (rw [fl]; rfl)), List.forall_mem_cons.mpr ⟨(by first | rfl | (simp [gi_look, nI_1]; done) | (rw [fl]; rfl)), fun _ h => absurd h List.not_mem_nil⟩⟩⟩⟩) rfl rfl rfl
        · refine gi_iconst (q := 43) (v := 1) C (dm_Mo_fits 24 rfl) rfl (by decide) ?_
          refine gi_goto (tgt := 47) C (dm_Mo_fits 25 rfl) (by decide) ?_
          refine gi_aload_n (q := 48) (i := 0) C (dm_Mo_fits 27 rfl) rfl rfl rfl ?_
          refine gi_iload_n (q := 49) (i := 1) C (dm_Mo_fits 28 rfl) rfl rfl rfl ?_
          refine gi_iload_n (q := 50) (i := 3) C (dm_Mo_fits 29 rfl) rfl rfl rfl ?_
          refine gi_callv 2 (q := 53) C (dm_Mo_fits 30 rfl) rfl my_Mo_kindOf lk_Mo_207 im_Mo_kindOf rfl (c_Mo_kindOf (i := j) W hm (by omega) hP H) Ha rfl rfl ⟨(Nat.le_of_ble_eq_true rfl), (Nat.le_of_ble_eq_true rfl)⟩ (Nat.le_of_ble_eq_true rfl) ⟨(Nat.le_of_ble_eq_true rfl), (Nat.le_of_ble_eq_true rfl)⟩ (fun r50 n50 h50 e50 => ?_)
          obtain ⟨rfl, q50, u50⟩ := e50
          rw [q50, u50]
          refine gi_iconst (q := 54) (v := 1) C (dm_Mo_fits 31 rfl) rfl (by decide) ?_
          refine gi_icmp_ne (q := 57) (tgt := 61) C (dm_Mo_fits 32 rfl) rfl (by decide) (fun c54 => ?_) (fun c54 => ?_)
          · refine gi_iconst (q := 62) (v := 0) C (dm_Mo_fits 35 rfl) rfl (by decide) ?_
            refine gi_icmp_ne (q := 65) (tgt := 69) C (dm_Mo_fits 36 rfl) rfl (by decide) (fun c62 => ?_) (fun c62 => ?_)
            · refine gi_iconst (q := 70) (v := 0) C (dm_Mo_fits 39 rfl) rfl (by decide) ?_
              refine gi_istore_n (q := 71) (i := 2) C (dm_Mo_fits 40 rfl) rfl rfl (Nat.le_of_ble_eq_true rfl) ?_
              have fT : ftA P m c Ga j = true := bI_t c30
              have fl : ftA P m c Ga (j + 1) = false := by
                rw [ftA_s, fT, Bool.true_and]
                have kz : (decide (Ga 1 j = 0)) = decide (Ga 1 j ≤ 0) := by
                  have g0 := (hg.2.2.1 j jl).2.2
                  apply decide_eq_decide.mpr
                  exact ⟨fun e => by rw [e]; decide, fun e => Int32.le_antisymm e g0⟩
                rw [kz]
                first
                  | (rw [decide_eq_true c39, bI_t (b := kdB P m j) (by rw [c54]; decide)]; first | rfl | exact absurd rfl c62 | exact absurd c62 (by decide))
                  | (rw [decide_eq_true c39]
                     have kf : kdB P m j = false := (by cases e : kdB P m j with | false => rfl | true => exact absurd (by rw [e]; rfl) c54)
                     rw [kf]
                     first | rfl | exact absurd rfl c62 | exact absurd c62 (by decide))
                  | (rw [decide_eq_false c39, bI_t (b := kdB P m j) (by rw [c54]; decide)]; first | rfl | exact absurd rfl c62 | exact absurd c62 (by decide))
                  | (rw [decide_eq_false c39]
                     have kf : kdB P m j = false := (by cases e : kdB P m j with | false => rfl | true => exact absurd (by rw [e]; rfl) c54)
                     rw [kf]
                     first | rfl | exact absurd rfl c62 | exact absurd c62 (by decide))
              refine gi_iinc (q := 74) (v := 1) C (dm_Mo_fits 41 rfl) rfl rfl (by decide) (Nat.le_of_ble_eq_true rfl) ?_
              refine gi_goto (tgt := 21) C (dm_Mo_fits 42 rfl) (by decide) ?_
              refine gi_close (ihj (j + 1) _ ⟨jl, rfl⟩ (by omega)) (List.forall_mem_cons.mpr ⟨(by first | rfl | (simp [gi_look, nI_1]; done) | (rw [fl]; rfl)), List.forall_mem_cons.mpr ⟨(by first | rfl | (simp [gi_look, nI_1]; done) | (rw [fl]; rfl)), List.forall_mem_cons.mpr ⟨(by first | rfl | (simp [gi_look, nI_1]; done) | (rw [fl]; rfl)), List.forall_mem_cons.mpr ⟨(by first | rfl | (simp [gi_look, nI_1]; done) | (rw [fl]; rfl)), fun _ h => absurd h List.not_mem_nil⟩⟩⟩⟩) rfl rfl rfl
            · refine gi_iconst (q := 66) (v := 1) C (dm_Mo_fits 37 rfl) rfl (by decide) ?_
              refine gi_goto (tgt := 70) C (dm_Mo_fits 38 rfl) (by decide) ?_
              refine gi_istore_n (q := 71) (i := 2) C (dm_Mo_fits 40 rfl) rfl rfl (Nat.le_of_ble_eq_true rfl) ?_
              have fT : ftA P m c Ga j = true := bI_t c30
              have fl : ftA P m c Ga (j + 1) = true := by
                rw [ftA_s, fT, Bool.true_and]
                have kz : (decide (Ga 1 j = 0)) = decide (Ga 1 j ≤ 0) := by
                  have g0 := (hg.2.2.1 j jl).2.2
                  apply decide_eq_decide.mpr
                  exact ⟨fun e => by rw [e]; decide, fun e => Int32.le_antisymm e g0⟩
                rw [kz]
                first
                  | (rw [decide_eq_true c39, bI_t (b := kdB P m j) (by rw [c54]; decide)]; first | rfl | exact absurd rfl c62 | exact absurd c62 (by decide))
                  | (rw [decide_eq_true c39]
                     have kf : kdB P m j = false := (by cases e : kdB P m j with | false => rfl | true => exact absurd (by rw [e]; rfl) c54)
                     rw [kf]
                     first | rfl | exact absurd rfl c62 | exact absurd c62 (by decide))
                  | (rw [decide_eq_false c39, bI_t (b := kdB P m j) (by rw [c54]; decide)]; first | rfl | exact absurd rfl c62 | exact absurd c62 (by decide))
                  | (rw [decide_eq_false c39]
                     have kf : kdB P m j = false := (by cases e : kdB P m j with | false => rfl | true => exact absurd (by rw [e]; rfl) c54)
                     rw [kf]
                     first | rfl | exact absurd rfl c62 | exact absurd c62 (by decide))
              refine gi_iinc (q := 74) (v := 1) C (dm_Mo_fits 41 rfl) rfl rfl (by decide) (Nat.le_of_ble_eq_true rfl) ?_
              refine gi_goto (tgt := 21) C (dm_Mo_fits 42 rfl) (by decide) ?_
              refine gi_close (ihj (j + 1) _ ⟨jl, rfl⟩ (by omega)) (List.forall_mem_cons.mpr ⟨(by first | rfl | (simp [gi_look, nI_1]; done) | (rw [fl]; rfl)), List.forall_mem_cons.mpr ⟨(by first | rfl | (simp [gi_look, nI_1]; done) | (rw [fl]; rfl)), List.forall_mem_cons.mpr ⟨(by first | rfl | (simp [gi_look, nI_1]; done) | (rw [fl]; rfl)), List.forall_mem_cons.mpr ⟨(by first | rfl | (simp [gi_look, nI_1]; done) | (rw [fl]; rfl)), fun _ h => absurd h List.not_mem_nil⟩⟩⟩⟩) rfl rfl rfl
          · refine gi_iconst (q := 58) (v := 1) C (dm_Mo_fits 33 rfl) rfl (by decide) ?_
            refine gi_goto (tgt := 62) C (dm_Mo_fits 34 rfl) (by decide) ?_
            refine gi_icmp_ne (q := 65) (tgt := 69) C (dm_Mo_fits 36 rfl) rfl (by decide) (fun c62 => ?_) (fun c62 => ?_)
            · refine gi_iconst (q := 70) (v := 0) C (dm_Mo_fits 39 rfl) rfl (by decide) ?_
              refine gi_istore_n (q := 71) (i := 2) C (dm_Mo_fits 40 rfl) rfl rfl (Nat.le_of_ble_eq_true rfl) ?_
              have fT : ftA P m c Ga j = true := bI_t c30
              have fl : ftA P m c Ga (j + 1) = false := by
                rw [ftA_s, fT, Bool.true_and]
                have kz : (decide (Ga 1 j = 0)) = decide (Ga 1 j ≤ 0) := by
                  have g0 := (hg.2.2.1 j jl).2.2
                  apply decide_eq_decide.mpr
                  exact ⟨fun e => by rw [e]; decide, fun e => Int32.le_antisymm e g0⟩
                rw [kz]
                first
                  | (rw [decide_eq_true c39, bI_t (b := kdB P m j) (by rw [c54]; decide)]; first | rfl | exact absurd rfl c62 | exact absurd c62 (by decide))
                  | (rw [decide_eq_true c39]
                     have kf : kdB P m j = false := (by cases e : kdB P m j with | false => rfl | true => exact absurd (by rw [e]; rfl) c54)
                     rw [kf]
                     first | rfl | exact absurd rfl c62 | exact absurd c62 (by decide))
                  | (rw [decide_eq_false c39, bI_t (b := kdB P m j) (by rw [c54]; decide)]; first | rfl | exact absurd rfl c62 | exact absurd c62 (by decide))
                  | (rw [decide_eq_false c39]
                     have kf : kdB P m j = false := (by cases e : kdB P m j with | false => rfl | true => exact absurd (by rw [e]; rfl) c54)
                     rw [kf]
                     first | rfl | exact absurd rfl c62 | exact absurd c62 (by decide))
              refine gi_iinc (q := 74) (v := 1) C (dm_Mo_fits 41 rfl) rfl rfl (by decide) (Nat.le_of_ble_eq_true rfl) ?_
              refine gi_goto (tgt := 21) C (dm_Mo_fits 42 rfl) (by decide) ?_
              refine gi_close (ihj (j + 1) _ ⟨jl, rfl⟩ (by omega)) (List.forall_mem_cons.mpr ⟨(by first | rfl | (simp [gi_look, nI_1]; done) | (rw [fl]; rfl)), List.forall_mem_cons.mpr ⟨(by first | rfl | (simp [gi_look, nI_1]; done) | (rw [fl]; rfl)), List.forall_mem_cons.mpr ⟨(by first | rfl | (simp [gi_look, nI_1]; done) | (rw [fl]; rfl)), List.forall_mem_cons.mpr ⟨(by first | rfl | (simp [gi_look, nI_1]; done) | (rw [fl]; rfl)), fun _ h => absurd h List.not_mem_nil⟩⟩⟩⟩) rfl rfl rfl
            · refine gi_iconst (q := 66) (v := 1) C (dm_Mo_fits 37 rfl) rfl (by decide) ?_
              refine gi_goto (tgt := 70) C (dm_Mo_fits 38 rfl) (by decide) ?_
              refine gi_istore_n (q := 71) (i := 2) C (dm_Mo_fits 40 rfl) rfl rfl (Nat.le_of_ble_eq_true rfl) ?_
              have fT : ftA P m c Ga j = true := bI_t c30
              have fl : ftA P m c Ga (j + 1) = true := by
                rw [ftA_s, fT, Bool.true_and]
                have kz : (decide (Ga 1 j = 0)) = decide (Ga 1 j ≤ 0) := by
                  have g0 := (hg.2.2.1 j jl).2.2
                  apply decide_eq_decide.mpr
                  exact ⟨fun e => by rw [e]; decide, fun e => Int32.le_antisymm e g0⟩
                rw [kz]
                first
                  | (rw [decide_eq_true c39, bI_t (b := kdB P m j) (by rw [c54]; decide)]; first | rfl | exact absurd rfl c62 | exact absurd c62 (by decide))
                  | (rw [decide_eq_true c39]
                     have kf : kdB P m j = false := (by cases e : kdB P m j with | false => rfl | true => exact absurd (by rw [e]; rfl) c54)
                     rw [kf]
                     first | rfl | exact absurd rfl c62 | exact absurd c62 (by decide))
                  | (rw [decide_eq_false c39, bI_t (b := kdB P m j) (by rw [c54]; decide)]; first | rfl | exact absurd rfl c62 | exact absurd c62 (by decide))
                  | (rw [decide_eq_false c39]
                     have kf : kdB P m j = false := (by cases e : kdB P m j with | false => rfl | true => exact absurd (by rw [e]; rfl) c54)
                     rw [kf]
                     first | rfl | exact absurd rfl c62 | exact absurd c62 (by decide))
              refine gi_iinc (q := 74) (v := 1) C (dm_Mo_fits 41 rfl) rfl rfl (by decide) (Nat.le_of_ble_eq_true rfl) ?_
              refine gi_goto (tgt := 21) C (dm_Mo_fits 42 rfl) (by decide) ?_
              refine gi_close (ihj (j + 1) _ ⟨jl, rfl⟩ (by omega)) (List.forall_mem_cons.mpr ⟨(by first | rfl | (simp [gi_look, nI_1]; done) | (rw [fl]; rfl)), List.forall_mem_cons.mpr ⟨(by first | rfl | (simp [gi_look, nI_1]; done) | (rw [fl]; rfl)), List.forall_mem_cons.mpr ⟨(by first | rfl | (simp [gi_look, nI_1]; done) | (rw [fl]; rfl)), List.forall_mem_cons.mpr ⟨(by first | rfl | (simp [gi_look, nI_1]; done) | (rw [fl]; rfl)), fun _ h => absurd h List.not_mem_nil⟩⟩⟩⟩) rfl rfl rfl
end RM9
