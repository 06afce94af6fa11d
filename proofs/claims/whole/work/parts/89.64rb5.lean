-- needs: 89.63
section RB5
variable {l : Launch} {V : gi_V} {n : Nat} {h h' : gi_H} {M k m i t : Nat} {s : Nat → Option Sh} {d : Sh} {P : Pm} {x : Sh} {b : Bool} {S S' : Nat → Int32} {J J' : Nat → Int64} {F : Nat → Nat → Int32} {G : Nat → Nat → Int64}
theorem opdB_l {op : Nat} {av : Int32} (h : op = 1 ∨ op = 2) : opdB k P m op av = (decide (0 ≤ av.toInt) && decide (av.toInt < pN P 2 m)) := by
  rcases h with q | q <;> subst q <;> simp [opdB]
theorem opdB_j {op : Nat} {av : Int32} (h1 : 19 ≤ op) (h2 : op ≤ 27) : opdB k P m op av = (decide (0 ≤ av.toInt) && decide (av.toInt < pN P 5 m)) := by
  unfold opdB
  rw [decide_eq_false (show ¬ op = 1 by omega), decide_eq_false (show ¬ op = 2 by omega), decide_eq_false (show ¬ op = 32 by omega), decide_eq_false (show ¬ op = 34 by omega), decide_eq_false (show ¬ op = 35 by omega), decide_eq_true h1, decide_eq_true h2]
  simp
theorem opdB_c {av : Int32} : opdB k P m 32 av = (decide (0 ≤ av.toInt) && decide (av.toInt < k)) := by
  simp [opdB]
theorem opdB_f {op : Nat} {av : Int32} (h : op = 34 ∨ op = 35) : opdB k P m op av = (decide (0 ≤ av.toInt) && decide (av.toInt < 4)) := by
  rcases h with q | q <;> subst q <;> simp [opdB]
theorem opdB_o {op : Nat} {av : Int32} (h1 : op ≠ 1) (h2 : op ≠ 2) (h3 : ¬ (19 ≤ op ∧ op ≤ 27)) (h4 : op ≠ 32) (h5 : op ≠ 34) (h6 : op ≠ 35) : opdB k P m op av = true := opdB_iff.mpr ⟨fun z => by omega, fun z => by omega, fun z => by omega, fun z => by omega⟩
theorem isM_iff {av : Int32} (hk : k ≤ 8) : isM k av = (decide (0 ≤ av.toInt) && decide (av.toInt < k)) := by
  unfold isM
  have e : (nI k).toInt = k := Int32.toInt_ofNat_of_lt (by omega)
  have e2 : (0 : Int32).toInt = 0 := rfl
  have i : (0 ≤ av ∧ av < nI k) ↔ (0 ≤ av.toInt ∧ av.toInt < k) := by rw [Int32.le_iff_toInt_le, Int32.lt_iff_toInt_lt, e, e2]
  by_cases q : 0 ≤ av.toInt ∧ av.toInt < k
  · rw [decide_eq_true (i.mpr q), decide_eq_true q.1, decide_eq_true q.2]
    rfl
  · rw [decide_eq_false (fun z => q (i.mp z))]
    by_cases r : 0 ≤ av.toInt
    · rw [decide_eq_false (show ¬ av.toInt < k from fun z => q ⟨r, z⟩), Bool.and_false]
    · rw [decide_eq_false r, Bool.false_and]
set_option maxHeartbeats 4000000 in
set_option maxRecDepth 100000 in
theorem c_Mo_isOperand {op : Nat} {av : Int32} (W : wfP k P) (hm : m < k) (h35 : op ≤ 35) (hk : S 0 = nI k) (hP : prF P F) (H : mo_at M S J F G h) : gi_T l V y_Mo_isOperand b_Mo_isOperand 4 (some .boolean) 1 21 0 0 [.ref M, .int (nI m), .int (nI op), .int av] n h (gi_is (some (.int (bI (opdB k P m op av)))) n h) := by
  refine gi_enter (by decide) (Nat.le_of_ble_eq_true rfl) ?_
  intro _ _ _ _ _ _ _ _ C hr hnm
  obtain ⟨fs, Ha, Hf⟩ := id H.1
  have ho : outM M h h := outM.rf
  have w8 := W.k8
  have wm := wf_ar W hm
  have e5 := (wf_n W hm).2.2.2.1
  have e2 := (wf_n W hm).2.1
  have j1 : (nI op = 1) = (op = 1) := nI_eqP (b := 1) (by omega) (by decide)
  have j2 : (nI op = 2) = (op = 2) := nI_eqP (b := 2) (by omega) (by decide)
  have j32 : (nI op = 32) = (op = 32) := nI_eqP (b := 32) (by omega) (by decide)
  have j34 : (nI op = 34) = (op = 34) := nI_eqP (b := 34) (by omega) (by decide)
  have j35 : (nI op = 35) = (op = 35) := nI_eqP (b := 35) (by omega) (by decide)
  refine gi_iload_n (q := 1) (i := 2) C (dm_Mo_isOperand 0 rfl) rfl rfl rfl ?_
  refine gi_iconst (q := 2) (v := 1) C (dm_Mo_isOperand 1 rfl) rfl (by decide) ?_
  refine gi_icmp_eq (q := 5) (tgt := 10) C (dm_Mo_isOperand 2 rfl) rfl (by decide) (fun c2 => ?_) (fun c2 => ?_)
  · have g : op = 1 ∨ op = 2 := by
      first
        | (rw [j1] at c2; exact Or.inl c2)
        | (rw [j2] at c7; exact Or.inr c7)
    refine gi_iload_n (q := 11) (i := 3) C (dm_Mo_isOperand 6 rfl) rfl rfl rfl ?_
    refine gi_if_lt (q := 14) (tgt := 28) C (dm_Mo_isOperand 7 rfl) rfl (by decide) (fun c11 => ?_) (fun c11 => ?_)
    · refine gi_iconst (q := 29) (v := 0) C (dm_Mo_isOperand 16 rfl) rfl (by decide) ?_
      refine gi_zret C hr (dm_Mo_isOperand 17 rfl) rfl ?_
      refine ⟨?_, rfl, rfl⟩
      rw [opdB_l g]
      first
        | (rw [decide_eq_true (show 0 ≤ av.toInt from by rw [i_0] at c11; omega), decide_eq_true (show av.toInt < pN P 2 m from (i_lt (by omega)).mp (Int32.not_le.mp c21))]; rfl)
        | (rw [decide_eq_false (show ¬ 0 ≤ av.toInt from by rw [i_0] at c11; omega), Bool.false_and]; rfl)
        | (rw [decide_eq_false (show ¬ av.toInt < pN P 2 m from fun z => absurd ((i_lt (by omega)).mpr z) (Int32.not_lt.mpr (c21))), Bool.and_false]; rfl)
    · refine gi_iload_n (q := 15) (i := 3) C (dm_Mo_isOperand 8 rfl) rfl rfl rfl ?_
      refine gi_aload_n (q := 16) (i := 0) C (dm_Mo_isOperand 9 rfl) rfl rfl rfl ?_
      refine gi_get (q := 19) C (dm_Mo_isOperand 10 rfl) rfl fl_Mo_13 Ha (mo_g2 Hf) ?_
      refine gi_iload_n (q := 20) (i := 1) C (dm_Mo_isOperand 11 rfl) rfl rfl rfl ?_
      refine gi_iald (q := 21) C (dm_Mo_isOperand 12 rfl) rfl rfl (mo_a2 H) (inN (show m < 8 by omega) (by decide)) ?_
      rw [nI_clamp (show m < 2 ^ 31 by omega), hP 2 (by decide) (by decide), e2]
      refine gi_icmp_ge (q := 24) (tgt := 28) C (dm_Mo_isOperand 13 rfl) rfl (by decide) (fun c21 => ?_) (fun c21 => ?_)
      · refine gi_iconst (q := 29) (v := 0) C (dm_Mo_isOperand 16 rfl) rfl (by decide) ?_
        refine gi_zret C hr (dm_Mo_isOperand 17 rfl) rfl ?_
        refine ⟨?_, rfl, rfl⟩
        rw [opdB_l g]
        first
          | (rw [decide_eq_true (show 0 ≤ av.toInt from by rw [i_0] at c11; omega), decide_eq_true (show av.toInt < pN P 2 m from (i_lt (by omega)).mp (Int32.not_le.mp c21))]; rfl)
          | (rw [decide_eq_false (show ¬ 0 ≤ av.toInt from by rw [i_0] at c11; omega), Bool.false_and]; rfl)
          | (rw [decide_eq_false (show ¬ av.toInt < pN P 2 m from fun z => absurd ((i_lt (by omega)).mpr z) (Int32.not_lt.mpr (c21))), Bool.and_false]; rfl)
      · refine gi_iconst (q := 25) (v := 1) C (dm_Mo_isOperand 14 rfl) rfl (by decide) ?_
        refine gi_goto (tgt := 29) C (dm_Mo_isOperand 15 rfl) (by decide) ?_
        refine gi_zret C hr (dm_Mo_isOperand 17 rfl) rfl ?_
        refine ⟨?_, rfl, rfl⟩
        rw [opdB_l g]
        first
          | (rw [decide_eq_true (show 0 ≤ av.toInt from by rw [i_0] at c11; omega), decide_eq_true (show av.toInt < pN P 2 m from (i_lt (by omega)).mp (Int32.not_le.mp c21))]; rfl)
          | (rw [decide_eq_false (show ¬ 0 ≤ av.toInt from by rw [i_0] at c11; omega), Bool.false_and]; rfl)
          | (rw [decide_eq_false (show ¬ av.toInt < pN P 2 m from fun z => absurd ((i_lt (by omega)).mpr z) (Int32.not_lt.mpr (c21))), Bool.and_false]; rfl)
  · refine gi_iload_n (q := 6) (i := 2) C (dm_Mo_isOperand 3 rfl) rfl rfl rfl ?_
    refine gi_iconst (q := 7) (v := 2) C (dm_Mo_isOperand 4 rfl) rfl (by decide) ?_
    refine gi_icmp_ne (q := 10) (tgt := 30) C (dm_Mo_isOperand 5 rfl) rfl (by decide) (fun c7 => ?_) (fun c7 => ?_)
    · refine gi_iload_n (q := 31) (i := 2) C (dm_Mo_isOperand 18 rfl) rfl rfl rfl ?_
      refine gi_calls 1 (q := 34) C (dm_Mo_isOperand 19 rfl) rfl my_Mo_goesTo lk_Mo_214 sm_Mo_goesTo (c_Mo_goesTo op h35) rfl rfl ⟨(Nat.le_of_ble_eq_true rfl), (Nat.le_of_ble_eq_true rfl)⟩ (Nat.le_of_ble_eq_true rfl) ⟨(Nat.le_of_ble_eq_true rfl), (Nat.le_of_ble_eq_true rfl)⟩ (fun r31 n31 h31 e31 => ?_)
      obtain ⟨rfl, q31, u31⟩ := e31
      rw [q31, u31]
      refine gi_if_eq (q := 37) (tgt := 57) C (dm_Mo_isOperand 20 rfl) rfl (by decide) (fun c34 => ?_) (fun c34 => ?_)
      · refine gi_iload_n (q := 58) (i := 2) C (dm_Mo_isOperand 33 rfl) rfl rfl rfl ?_
        refine gi_bipush (q := 60) (v := 32) C (dm_Mo_isOperand 34 rfl) rfl (by decide) ?_
        refine gi_icmp_ne (q := 63) (tgt := 71) C (dm_Mo_isOperand 35 rfl) rfl (by decide) (fun c60 => ?_) (fun c60 => ?_)
        · refine gi_iload_n (q := 72) (i := 2) C (dm_Mo_isOperand 40 rfl) rfl rfl rfl ?_
          refine gi_bipush (q := 74) (v := 34) C (dm_Mo_isOperand 41 rfl) rfl (by decide) ?_
          refine gi_icmp_eq (q := 77) (tgt := 83) C (dm_Mo_isOperand 42 rfl) rfl (by decide) (fun c74 => ?_) (fun c74 => ?_)
          · have g : op = 34 ∨ op = 35 := by
              first
                | (rw [j34] at c74; exact Or.inl c74)
                | (rw [j35] at c80; exact Or.inr c80)
            refine gi_iload_n (q := 84) (i := 3) C (dm_Mo_isOperand 46 rfl) rfl rfl rfl ?_
            refine gi_if_lt (q := 87) (tgt := 96) C (dm_Mo_isOperand 47 rfl) rfl (by decide) (fun c84 => ?_) (fun c84 => ?_)
            · refine gi_iconst (q := 97) (v := 0) C (dm_Mo_isOperand 53 rfl) rfl (by decide) ?_
              refine gi_zret C hr (dm_Mo_isOperand 54 rfl) (by first | exact bI_nar _ | rfl) ?_
              refine ⟨?_, rfl, rfl⟩
              first
                | (rw [opdB_f g, decide_eq_true (show 0 ≤ av.toInt from by rw [i_0] at c84; omega), decide_eq_true (show av.toInt < 4 from by
                    have := Int32.le_iff_toInt_le.mp (Int32.not_lt.mp c89)
                    have e3 : (3 : Int32).toInt = 3 := rfl
                    omega)]; rfl)
                | (rw [opdB_f g, decide_eq_false (show ¬ 0 ≤ av.toInt from by rw [i_0] at c84; omega), Bool.false_and]; rfl)
                | (rw [opdB_f g, decide_eq_false (show ¬ av.toInt < 4 from by
                    have := Int32.lt_iff_toInt_lt.mp c89
                    have e3 : (3 : Int32).toInt = 3 := rfl
                    omega), Bool.and_false]; rfl)
                | (rw [opdB_o (by rw [j1] at c2; exact c2) (by rw [j2] at c7; exact c7) (fun z => by
                    have q := bI_fa c34
                    rw [decide_eq_true z.1, decide_eq_true z.2] at q
                    cases q) (by rw [j32] at c60; exact c60) (by rw [j34] at c74; exact c74) (by rw [j35] at c80; exact c80)]; rfl)
            · refine gi_iload_n (q := 88) (i := 3) C (dm_Mo_isOperand 48 rfl) rfl rfl rfl ?_
              refine gi_iconst (q := 89) (v := 3) C (dm_Mo_isOperand 49 rfl) rfl (by decide) ?_
              refine gi_icmp_gt (q := 92) (tgt := 96) C (dm_Mo_isOperand 50 rfl) rfl (by decide) (fun c89 => ?_) (fun c89 => ?_)
              · refine gi_iconst (q := 97) (v := 0) C (dm_Mo_isOperand 53 rfl) rfl (by decide) ?_
                refine gi_zret C hr (dm_Mo_isOperand 54 rfl) (by first | exact bI_nar _ | rfl) ?_
                refine ⟨?_, rfl, rfl⟩
                first
                  | (rw [opdB_f g, decide_eq_true (show 0 ≤ av.toInt from by rw [i_0] at c84; omega), decide_eq_true (show av.toInt < 4 from by
                      have := Int32.le_iff_toInt_le.mp (Int32.not_lt.mp c89)
                      have e3 : (3 : Int32).toInt = 3 := rfl
                      omega)]; rfl)
                  | (rw [opdB_f g, decide_eq_false (show ¬ 0 ≤ av.toInt from by rw [i_0] at c84; omega), Bool.false_and]; rfl)
                  | (rw [opdB_f g, decide_eq_false (show ¬ av.toInt < 4 from by
                      have := Int32.lt_iff_toInt_lt.mp c89
                      have e3 : (3 : Int32).toInt = 3 := rfl
                      omega), Bool.and_false]; rfl)
                  | (rw [opdB_o (by rw [j1] at c2; exact c2) (by rw [j2] at c7; exact c7) (fun z => by
                      have q := bI_fa c34
                      rw [decide_eq_true z.1, decide_eq_true z.2] at q
                      cases q) (by rw [j32] at c60; exact c60) (by rw [j34] at c74; exact c74) (by rw [j35] at c80; exact c80)]; rfl)
              · refine gi_iconst (q := 93) (v := 1) C (dm_Mo_isOperand 51 rfl) rfl (by decide) ?_
                refine gi_goto (tgt := 97) C (dm_Mo_isOperand 52 rfl) (by decide) ?_
                refine gi_zret C hr (dm_Mo_isOperand 54 rfl) (by first | exact bI_nar _ | rfl) ?_
                refine ⟨?_, rfl, rfl⟩
                first
                  | (rw [opdB_f g, decide_eq_true (show 0 ≤ av.toInt from by rw [i_0] at c84; omega), decide_eq_true (show av.toInt < 4 from by
                      have := Int32.le_iff_toInt_le.mp (Int32.not_lt.mp c89)
                      have e3 : (3 : Int32).toInt = 3 := rfl
                      omega)]; rfl)
                  | (rw [opdB_f g, decide_eq_false (show ¬ 0 ≤ av.toInt from by rw [i_0] at c84; omega), Bool.false_and]; rfl)
                  | (rw [opdB_f g, decide_eq_false (show ¬ av.toInt < 4 from by
                      have := Int32.lt_iff_toInt_lt.mp c89
                      have e3 : (3 : Int32).toInt = 3 := rfl
                      omega), Bool.and_false]; rfl)
                  | (rw [opdB_o (by rw [j1] at c2; exact c2) (by rw [j2] at c7; exact c7) (fun z => by
                      have q := bI_fa c34
                      rw [decide_eq_true z.1, decide_eq_true z.2] at q
                      cases q) (by rw [j32] at c60; exact c60) (by rw [j34] at c74; exact c74) (by rw [j35] at c80; exact c80)]; rfl)
          · refine gi_iload_n (q := 78) (i := 2) C (dm_Mo_isOperand 43 rfl) rfl rfl rfl ?_
            refine gi_bipush (q := 80) (v := 35) C (dm_Mo_isOperand 44 rfl) rfl (by decide) ?_
            refine gi_icmp_ne (q := 83) (tgt := 92) C (dm_Mo_isOperand 45 rfl) rfl (by decide) (fun c80 => ?_) (fun c80 => ?_)
            · refine gi_iconst (q := 93) (v := 1) C (dm_Mo_isOperand 51 rfl) rfl (by decide) ?_
              refine gi_goto (tgt := 97) C (dm_Mo_isOperand 52 rfl) (by decide) ?_
              refine gi_zret C hr (dm_Mo_isOperand 54 rfl) (by first | exact bI_nar _ | rfl) ?_
              refine ⟨?_, rfl, rfl⟩
              first
                | (rw [opdB_f g, decide_eq_true (show 0 ≤ av.toInt from by rw [i_0] at c84; omega), decide_eq_true (show av.toInt < 4 from by
                    have := Int32.le_iff_toInt_le.mp (Int32.not_lt.mp c89)
                    have e3 : (3 : Int32).toInt = 3 := rfl
                    omega)]; rfl)
                | (rw [opdB_f g, decide_eq_false (show ¬ 0 ≤ av.toInt from by rw [i_0] at c84; omega), Bool.false_and]; rfl)
                | (rw [opdB_f g, decide_eq_false (show ¬ av.toInt < 4 from by
                    have := Int32.lt_iff_toInt_lt.mp c89
                    have e3 : (3 : Int32).toInt = 3 := rfl
                    omega), Bool.and_false]; rfl)
                | (rw [opdB_o (by rw [j1] at c2; exact c2) (by rw [j2] at c7; exact c7) (fun z => by
                    have q := bI_fa c34
                    rw [decide_eq_true z.1, decide_eq_true z.2] at q
                    cases q) (by rw [j32] at c60; exact c60) (by rw [j34] at c74; exact c74) (by rw [j35] at c80; exact c80)]; rfl)
            · have g : op = 34 ∨ op = 35 := by
                first
                  | (rw [j34] at c74; exact Or.inl c74)
                  | (rw [j35] at c80; exact Or.inr c80)
              refine gi_iload_n (q := 84) (i := 3) C (dm_Mo_isOperand 46 rfl) rfl rfl rfl ?_
              refine gi_if_lt (q := 87) (tgt := 96) C (dm_Mo_isOperand 47 rfl) rfl (by decide) (fun c84 => ?_) (fun c84 => ?_)
              · refine gi_iconst (q := 97) (v := 0) C (dm_Mo_isOperand 53 rfl) rfl (by decide) ?_
                refine gi_zret C hr (dm_Mo_isOperand 54 rfl) (by first | exact bI_nar _ | rfl) ?_
                refine ⟨?_, rfl, rfl⟩
                first
                  | (rw [opdB_f g, decide_eq_true (show 0 ≤ av.toInt from by rw [i_0] at c84; omega), decide_eq_true (show av.toInt < 4 from by
                      have := Int32.le_iff_toInt_le.mp (Int32.not_lt.mp c89)
                      have e3 : (3 : Int32).toInt = 3 := rfl
                      omega)]; rfl)
                  | (rw [opdB_f g, decide_eq_false (show ¬ 0 ≤ av.toInt from by rw [i_0] at c84; omega), Bool.false_and]; rfl)
                  | (rw [opdB_f g, decide_eq_false (show ¬ av.toInt < 4 from by
                      have := Int32.lt_iff_toInt_lt.mp c89
                      have e3 : (3 : Int32).toInt = 3 := rfl
                      omega), Bool.and_false]; rfl)
                  | (rw [opdB_o (by rw [j1] at c2; exact c2) (by rw [j2] at c7; exact c7) (fun z => by
                      have q := bI_fa c34
                      rw [decide_eq_true z.1, decide_eq_true z.2] at q
                      cases q) (by rw [j32] at c60; exact c60) (by rw [j34] at c74; exact c74) (by rw [j35] at c80; exact c80)]; rfl)
              · refine gi_iload_n (q := 88) (i := 3) C (dm_Mo_isOperand 48 rfl) rfl rfl rfl ?_
                refine gi_iconst (q := 89) (v := 3) C (dm_Mo_isOperand 49 rfl) rfl (by decide) ?_
                refine gi_icmp_gt (q := 92) (tgt := 96) C (dm_Mo_isOperand 50 rfl) rfl (by decide) (fun c89 => ?_) (fun c89 => ?_)
                · refine gi_iconst (q := 97) (v := 0) C (dm_Mo_isOperand 53 rfl) rfl (by decide) ?_
                  refine gi_zret C hr (dm_Mo_isOperand 54 rfl) (by first | exact bI_nar _ | rfl) ?_
                  refine ⟨?_, rfl, rfl⟩
                  first
                    | (rw [opdB_f g, decide_eq_true (show 0 ≤ av.toInt from by rw [i_0] at c84; omega), decide_eq_true (show av.toInt < 4 from by
                        have := Int32.le_iff_toInt_le.mp (Int32.not_lt.mp c89)
                        have e3 : (3 : Int32).toInt = 3 := rfl
                        omega)]; rfl)
                    | (rw [opdB_f g, decide_eq_false (show ¬ 0 ≤ av.toInt from by rw [i_0] at c84; omega), Bool.false_and]; rfl)
                    | (rw [opdB_f g, decide_eq_false (show ¬ av.toInt < 4 from by
                        have := Int32.lt_iff_toInt_lt.mp c89
                        have e3 : (3 : Int32).toInt = 3 := rfl
                        omega), Bool.and_false]; rfl)
                    | (rw [opdB_o (by rw [j1] at c2; exact c2) (by rw [j2] at c7; exact c7) (fun z => by
                        have q := bI_fa c34
                        rw [decide_eq_true z.1, decide_eq_true z.2] at q
                        cases q) (by rw [j32] at c60; exact c60) (by rw [j34] at c74; exact c74) (by rw [j35] at c80; exact c80)]; rfl)
                · refine gi_iconst (q := 93) (v := 1) C (dm_Mo_isOperand 51 rfl) rfl (by decide) ?_
                  refine gi_goto (tgt := 97) C (dm_Mo_isOperand 52 rfl) (by decide) ?_
                  refine gi_zret C hr (dm_Mo_isOperand 54 rfl) (by first | exact bI_nar _ | rfl) ?_
                  refine ⟨?_, rfl, rfl⟩
                  first
                    | (rw [opdB_f g, decide_eq_true (show 0 ≤ av.toInt from by rw [i_0] at c84; omega), decide_eq_true (show av.toInt < 4 from by
                        have := Int32.le_iff_toInt_le.mp (Int32.not_lt.mp c89)
                        have e3 : (3 : Int32).toInt = 3 := rfl
                        omega)]; rfl)
                    | (rw [opdB_f g, decide_eq_false (show ¬ 0 ≤ av.toInt from by rw [i_0] at c84; omega), Bool.false_and]; rfl)
                    | (rw [opdB_f g, decide_eq_false (show ¬ av.toInt < 4 from by
                        have := Int32.lt_iff_toInt_lt.mp c89
                        have e3 : (3 : Int32).toInt = 3 := rfl
                        omega), Bool.and_false]; rfl)
                    | (rw [opdB_o (by rw [j1] at c2; exact c2) (by rw [j2] at c7; exact c7) (fun z => by
                        have q := bI_fa c34
                        rw [decide_eq_true z.1, decide_eq_true z.2] at q
                        cases q) (by rw [j32] at c60; exact c60) (by rw [j34] at c74; exact c74) (by rw [j35] at c80; exact c80)]; rfl)
        · rw [j32] at c60
          subst c60
          refine gi_aload_n (q := 64) (i := 0) C (dm_Mo_isOperand 36 rfl) rfl rfl rfl ?_
          refine gi_iload_n (q := 65) (i := 3) C (dm_Mo_isOperand 37 rfl) rfl rfl rfl ?_
          refine gi_callv 1 (q := 68) C (dm_Mo_isOperand 38 rfl) rfl my_Mo_isMethod lk_Mo_186 im_Mo_isMethod rfl (c_Mo_isMethod av hk H) Ha rfl rfl ⟨(Nat.le_of_ble_eq_true rfl), (Nat.le_of_ble_eq_true rfl)⟩ (Nat.le_of_ble_eq_true rfl) ⟨(Nat.le_of_ble_eq_true rfl), (Nat.le_of_ble_eq_true rfl)⟩ (fun r65 n65 h65 e65 => ?_)
          obtain ⟨rfl, q65, u65⟩ := e65
          rw [q65, u65]
          refine gi_goto (tgt := 97) C (dm_Mo_isOperand 39 rfl) (by decide) ?_
          refine gi_zret C hr (dm_Mo_isOperand 54 rfl) (by first | exact bI_nar _ | rfl) ?_
          refine ⟨?_, rfl, rfl⟩
          rw [opdB_c, isM_iff W.k8]
      · have g := bI_t c34
        rw [Bool.and_eq_true, decide_eq_true_iff, decide_eq_true_iff] at g
        refine gi_iload_n (q := 38) (i := 3) C (dm_Mo_isOperand 21 rfl) rfl rfl rfl ?_
        refine gi_if_lt (q := 41) (tgt := 55) C (dm_Mo_isOperand 22 rfl) rfl (by decide) (fun c38 => ?_) (fun c38 => ?_)
        · refine gi_iconst (q := 56) (v := 0) C (dm_Mo_isOperand 31 rfl) rfl (by decide) ?_
          refine gi_zret C hr (dm_Mo_isOperand 32 rfl) rfl ?_
          refine ⟨?_, rfl, rfl⟩
          rw [opdB_j g.1 g.2]
          first
            | (rw [decide_eq_true (show 0 ≤ av.toInt from by rw [i_0] at c38; omega), decide_eq_true (show av.toInt < pN P 5 m from (i_lt (by omega)).mp (Int32.not_le.mp c48))]; rfl)
            | (rw [decide_eq_false (show ¬ 0 ≤ av.toInt from by rw [i_0] at c38; omega), Bool.false_and]; rfl)
            | (rw [decide_eq_false (show ¬ av.toInt < pN P 5 m from fun z => absurd ((i_lt (by omega)).mpr z) (Int32.not_lt.mpr (c48))), Bool.and_false]; rfl)
        · refine gi_iload_n (q := 42) (i := 3) C (dm_Mo_isOperand 23 rfl) rfl rfl rfl ?_
          refine gi_aload_n (q := 43) (i := 0) C (dm_Mo_isOperand 24 rfl) rfl rfl rfl ?_
          refine gi_get (q := 46) C (dm_Mo_isOperand 25 rfl) rfl fl_Mo_22 Ha (mo_g5 Hf) ?_
          refine gi_iload_n (q := 47) (i := 1) C (dm_Mo_isOperand 26 rfl) rfl rfl rfl ?_
          refine gi_iald (q := 48) C (dm_Mo_isOperand 27 rfl) rfl rfl (mo_a5 H) (inN (show m < 8 by omega) (by decide)) ?_
          rw [nI_clamp (show m < 2 ^ 31 by omega), hP 5 (by decide) (by decide), e5]
          refine gi_icmp_ge (q := 51) (tgt := 55) C (dm_Mo_isOperand 28 rfl) rfl (by decide) (fun c48 => ?_) (fun c48 => ?_)
          · refine gi_iconst (q := 56) (v := 0) C (dm_Mo_isOperand 31 rfl) rfl (by decide) ?_
            refine gi_zret C hr (dm_Mo_isOperand 32 rfl) rfl ?_
            refine ⟨?_, rfl, rfl⟩
            rw [opdB_j g.1 g.2]
            first
              | (rw [decide_eq_true (show 0 ≤ av.toInt from by rw [i_0] at c38; omega), decide_eq_true (show av.toInt < pN P 5 m from (i_lt (by omega)).mp (Int32.not_le.mp c48))]; rfl)
              | (rw [decide_eq_false (show ¬ 0 ≤ av.toInt from by rw [i_0] at c38; omega), Bool.false_and]; rfl)
              | (rw [decide_eq_false (show ¬ av.toInt < pN P 5 m from fun z => absurd ((i_lt (by omega)).mpr z) (Int32.not_lt.mpr (c48))), Bool.and_false]; rfl)
          · refine gi_iconst (q := 52) (v := 1) C (dm_Mo_isOperand 29 rfl) rfl (by decide) ?_
            refine gi_goto (tgt := 56) C (dm_Mo_isOperand 30 rfl) (by decide) ?_
            refine gi_zret C hr (dm_Mo_isOperand 32 rfl) rfl ?_
            refine ⟨?_, rfl, rfl⟩
            rw [opdB_j g.1 g.2]
            first
              | (rw [decide_eq_true (show 0 ≤ av.toInt from by rw [i_0] at c38; omega), decide_eq_true (show av.toInt < pN P 5 m from (i_lt (by omega)).mp (Int32.not_le.mp c48))]; rfl)
              | (rw [decide_eq_false (show ¬ 0 ≤ av.toInt from by rw [i_0] at c38; omega), Bool.false_and]; rfl)
              | (rw [decide_eq_false (show ¬ av.toInt < pN P 5 m from fun z => absurd ((i_lt (by omega)).mpr z) (Int32.not_lt.mpr (c48))), Bool.and_false]; rfl)
    · have g : op = 1 ∨ op = 2 := by
        first
          | (rw [j1] at c2; exact Or.inl c2)
          | (rw [j2] at c7; exact Or.inr c7)
      refine gi_iload_n (q := 11) (i := 3) C (dm_Mo_isOperand 6 rfl) rfl rfl rfl ?_
      refine gi_if_lt (q := 14) (tgt := 28) C (dm_Mo_isOperand 7 rfl) rfl (by decide) (fun c11 => ?_) (fun c11 => ?_)
      · refine gi_iconst (q := 29) (v := 0) C (dm_Mo_isOperand 16 rfl) rfl (by decide) ?_
        refine gi_zret C hr (dm_Mo_isOperand 17 rfl) rfl ?_
        refine ⟨?_, rfl, rfl⟩
        rw [opdB_l g]
        first
          | (rw [decide_eq_true (show 0 ≤ av.toInt from by rw [i_0] at c11; omega), decide_eq_true (show av.toInt < pN P 2 m from (i_lt (by omega)).mp (Int32.not_le.mp c21))]; rfl)
          | (rw [decide_eq_false (show ¬ 0 ≤ av.toInt from by rw [i_0] at c11; omega), Bool.false_and]; rfl)
          | (rw [decide_eq_false (show ¬ av.toInt < pN P 2 m from fun z => absurd ((i_lt (by omega)).mpr z) (Int32.not_lt.mpr (c21))), Bool.and_false]; rfl)
      · refine gi_iload_n (q := 15) (i := 3) C (dm_Mo_isOperand 8 rfl) rfl rfl rfl ?_
        refine gi_aload_n (q := 16) (i := 0) C (dm_Mo_isOperand 9 rfl) rfl rfl rfl ?_
        refine gi_get (q := 19) C (dm_Mo_isOperand 10 rfl) rfl fl_Mo_13 Ha (mo_g2 Hf) ?_
        refine gi_iload_n (q := 20) (i := 1) C (dm_Mo_isOperand 11 rfl) rfl rfl rfl ?_
        refine gi_iald (q := 21) C (dm_Mo_isOperand 12 rfl) rfl rfl (mo_a2 H) (inN (show m < 8 by omega) (by decide)) ?_
        rw [nI_clamp (show m < 2 ^ 31 by omega), hP 2 (by decide) (by decide), e2]
        refine gi_icmp_ge (q := 24) (tgt := 28) C (dm_Mo_isOperand 13 rfl) rfl (by decide) (fun c21 => ?_) (fun c21 => ?_)
        · refine gi_iconst (q := 29) (v := 0) C (dm_Mo_isOperand 16 rfl) rfl (by decide) ?_
          refine gi_zret C hr (dm_Mo_isOperand 17 rfl) rfl ?_
          refine ⟨?_, rfl, rfl⟩
          rw [opdB_l g]
          first
            | (rw [decide_eq_true (show 0 ≤ av.toInt from by rw [i_0] at c11; omega), decide_eq_true (show av.toInt < pN P 2 m from (i_lt (by omega)).mp (Int32.not_le.mp c21))]; rfl)
            | (rw [decide_eq_false (show ¬ 0 ≤ av.toInt from by rw [i_0] at c11; omega), Bool.false_and]; rfl)
            | (rw [decide_eq_false (show ¬ av.toInt < pN P 2 m from fun z => absurd ((i_lt (by omega)).mpr z) (Int32.not_lt.mpr (c21))), Bool.and_false]; rfl)
        · refine gi_iconst (q := 25) (v := 1) C (dm_Mo_isOperand 14 rfl) rfl (by decide) ?_
          refine gi_goto (tgt := 29) C (dm_Mo_isOperand 15 rfl) (by decide) ?_
          refine gi_zret C hr (dm_Mo_isOperand 17 rfl) rfl ?_
          refine ⟨?_, rfl, rfl⟩
          rw [opdB_l g]
          first
            | (rw [decide_eq_true (show 0 ≤ av.toInt from by rw [i_0] at c11; omega), decide_eq_true (show av.toInt < pN P 2 m from (i_lt (by omega)).mp (Int32.not_le.mp c21))]; rfl)
            | (rw [decide_eq_false (show ¬ 0 ≤ av.toInt from by rw [i_0] at c11; omega), Bool.false_and]; rfl)
            | (rw [decide_eq_false (show ¬ av.toInt < pN P 2 m from fun z => absurd ((i_lt (by omega)).mpr z) (Int32.not_lt.mpr (c21))), Bool.and_false]; rfl)
end RB5
