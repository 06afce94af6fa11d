-- needs: 89.42
section MA8
variable {l : Launch} {V : gi_V} {n : Nat} {h h' h0 : gi_H} {a pr bu fa gv k : Nat} {sx wt tp wr st : Int32} {F : Nat → Nat → Int32} {J Jx : Nat → Int64} {H : Hp} {z : Mc} {P : Pm} {sn : Nat → Nat} {wd wd0 : Nat → Bool} {Fc : Fa} {Φ : Nat → mR} {sh : Nat → Option Sh}
set_option maxHeartbeats 4000000 in
set_option maxRecDepth 100000 in
theorem c_Ma_perform (B : Built k P sh sn wd0) (T : TS k P sh z) (E : EN a pr bu fa k P sn wd Fc Φ h0) (Hw : MW a pr bu fa gv h0 sx wt Jx z h) : gi_T l V y_Ma_perform b_Ma_perform 4 (some .int) 4 92 0 0 [.ref a] n h (fun v n' h' => v = some (.int (prfZ P sn Fc z).2) ∧ n' = n ∧ MW a pr bu fa gv h0 sx wt Jx (prfZ P sn Fc z).1 h') := by
  refine gi_enter (by decide) (Nat.le_of_ble_eq_true rfl) ?_
  intro _ _ _ _ _ _ _ _ C hr hnm
  obtain ⟨F, J, Q, R⟩ := id Hw
  have t16 := R.1
  have n14 := R.cur.2.2.2.1
  obtain ⟨r1, r2, r3, r4, r5⟩ := R.cur
  obtain ⟨t1, t2, ⟨hm, hi, -⟩, -⟩ := id T
  have o35 : pN P 6 (curP z) ≤ 35 := by
    obtain ⟨_, _, _, _, _, _, _, q, -⟩ := T.at_ B
    exact q
  have cp : 60 * z.cur.m + z.cur.i = curP z := rfl
  obtain ⟨op, eo⟩ : ∃ op, op = pN P 6 (curP z) := ⟨_, rfl⟩
  rw [← eo] at o35
  have jo28 : (nI op = 28) = (op = 28) := nI_eqP (b := 28) (by omega) (by decide)
  have jo32 : (nI op = 32) = (op = 32) := nI_eqP (b := 32) (by omega) (by decide)
  have jo33 : (nI op = 33) = (op = 33) := nI_eqP (b := 33) (by omega) (by decide)
  have jg6 : ((6 : Int32) < nI op) = (6 < op) := nI_ltP (a := 6) (by decide) (by omega)
  have jg18 : ((18 : Int32) < nI op) = (18 < op) := nI_ltP (a := 18) (by decide) (by omega)
  have jg27 : ((27 : Int32) < nI op) = (27 < op) := nI_ltP (a := 27) (by decide) (by omega)
  have jg31 : ((31 : Int32) < nI op) = (31 < op) := nI_ltP (a := 31) (by decide) (by omega)
  refine gi_aload_n (q := 1) (i := 0) C (dm_Ma_perform 0 rfl) rfl rfl rfl ?_
  refine gi_get (q := 4) C (dm_Ma_perform 1 rfl) rfl fl_Ma_42 Q.ob rfl ?_
  refine gi_aload_n (q := 5) (i := 0) C (dm_Ma_perform 2 rfl) rfl rfl rfl ?_
  refine gi_get (q := 8) C (dm_Ma_perform 3 rfl) rfl fl_Ma_36 Q.ob rfl ?_
  refine gi_aload_n (q := 9) (i := 0) C (dm_Ma_perform 4 rfl) rfl rfl rfl ?_
  refine gi_get (q := 12) C (dm_Ma_perform 5 rfl) rfl fl_Ma_72 Q.ob rfl ?_
  refine gi_iald (q := 13) C (dm_Ma_perform 6 rfl) rfl rfl Q.a10 (in16 t16) ?_
  rw [nI_clamp (show z.top < 2 ^ 31 by omega), r1]
  refine gi_aload_n (q := 14) (i := 0) C (dm_Ma_perform 7 rfl) rfl rfl rfl ?_
  refine gi_get (q := 17) C (dm_Ma_perform 8 rfl) rfl fl_Ma_39 Q.ob rfl ?_
  refine gi_aload_n (q := 18) (i := 0) C (dm_Ma_perform 9 rfl) rfl rfl rfl ?_
  refine gi_get (q := 21) C (dm_Ma_perform 10 rfl) rfl fl_Ma_72 Q.ob rfl ?_
  refine gi_iald (q := 22) C (dm_Ma_perform 11 rfl) rfl rfl Q.a11 (in16 t16) ?_
  rw [nI_clamp (show z.top < 2 ^ 31 by omega), r2]
  refine gi_callv 2 (q := 25) C (dm_Ma_perform 12 rfl) rfl my_Pr_opAt lk_Ma_141 im_Pr_opAt rfl (q_op E.hW hm hi (E.hP Q.ou)) (E.hP Q.ou).1 rfl rfl ⟨(Nat.le_of_ble_eq_true rfl), (Nat.le_of_ble_eq_true rfl)⟩ (Nat.le_of_ble_eq_true rfl) ⟨(Nat.le_of_ble_eq_true rfl), (Nat.le_of_ble_eq_true rfl)⟩ (fun r22 n22 h22 e22 => ?_)
  obtain ⟨rfl, q22, u22⟩ := e22
  rw [q22, u22]
  rw [cp, ← eo]
  refine gi_istore_n (q := 26) (i := 1) C (dm_Ma_perform 13 rfl) rfl rfl (Nat.le_of_ble_eq_true rfl) ?_
  refine gi_aload_n (q := 27) (i := 0) C (dm_Ma_perform 14 rfl) rfl rfl rfl ?_
  refine gi_get (q := 30) C (dm_Ma_perform 15 rfl) rfl fl_Ma_42 Q.ob rfl ?_
  refine gi_aload_n (q := 31) (i := 0) C (dm_Ma_perform 16 rfl) rfl rfl rfl ?_
  refine gi_get (q := 34) C (dm_Ma_perform 17 rfl) rfl fl_Ma_36 Q.ob rfl ?_
  refine gi_aload_n (q := 35) (i := 0) C (dm_Ma_perform 18 rfl) rfl rfl rfl ?_
  refine gi_get (q := 38) C (dm_Ma_perform 19 rfl) rfl fl_Ma_72 Q.ob rfl ?_
  refine gi_iald (q := 39) C (dm_Ma_perform 20 rfl) rfl rfl Q.a10 (in16 t16) ?_
  rw [nI_clamp (show z.top < 2 ^ 31 by omega), r1]
  refine gi_aload_n (q := 40) (i := 0) C (dm_Ma_perform 21 rfl) rfl rfl rfl ?_
  refine gi_get (q := 43) C (dm_Ma_perform 22 rfl) rfl fl_Ma_39 Q.ob rfl ?_
  refine gi_aload_n (q := 44) (i := 0) C (dm_Ma_perform 23 rfl) rfl rfl rfl ?_
  refine gi_get (q := 47) C (dm_Ma_perform 24 rfl) rfl fl_Ma_72 Q.ob rfl ?_
  refine gi_iald (q := 48) C (dm_Ma_perform 25 rfl) rfl rfl Q.a11 (in16 t16) ?_
  rw [nI_clamp (show z.top < 2 ^ 31 by omega), r2]
  refine gi_callv 2 (q := 51) C (dm_Ma_perform 26 rfl) rfl my_Pr_operandAt lk_Ma_144 im_Pr_operandAt rfl (q_opr E.hW hm hi (E.hP Q.ou)) (E.hP Q.ou).1 rfl rfl ⟨(Nat.le_of_ble_eq_true rfl), (Nat.le_of_ble_eq_true rfl)⟩ (Nat.le_of_ble_eq_true rfl) ⟨(Nat.le_of_ble_eq_true rfl), (Nat.le_of_ble_eq_true rfl)⟩ (fun r48 n48 h48 e48 => ?_)
  obtain ⟨rfl, q48, u48⟩ := e48
  rw [q48, u48]
  rw [cp]
  refine gi_istore_n (q := 52) (i := 2) C (dm_Ma_perform 27 rfl) rfl rfl (Nat.le_of_ble_eq_true rfl) ?_
  refine gi_iload_n (q := 53) (i := 1) C (dm_Ma_perform 28 rfl) rfl rfl rfl ?_
  refine gi_if_ge (q := 56) (tgt := 58) C (dm_Ma_perform 29 rfl) rfl (by decide) (fun c53 => ?_) (fun c53 => ?_)
  · refine gi_iload_n (q := 59) (i := 1) C (dm_Ma_perform 32 rfl) rfl rfl rfl ?_
    refine gi_bipush (q := 61) (v := 33) C (dm_Ma_perform 33 rfl) rfl (by decide) ?_
    refine gi_icmp_ne (q := 64) (tgt := 69) C (dm_Ma_perform 34 rfl) rfl (by decide) (fun c61 => ?_) (fun c61 => ?_)
    · refine gi_aload_n (q := 70) (i := 0) C (dm_Ma_perform 38 rfl) rfl rfl rfl ?_
      refine gi_get (q := 73) C (dm_Ma_perform 39 rfl) rfl fl_Ma_39 Q.ob rfl ?_
      refine gi_aload_n (q := 74) (i := 0) C (dm_Ma_perform 40 rfl) rfl rfl rfl ?_
      refine gi_get (q := 77) C (dm_Ma_perform 41 rfl) rfl fl_Ma_72 Q.ob rfl ?_
      refine gi_iald (q := 78) C (dm_Ma_perform 42 rfl) rfl rfl Q.a11 (in16 t16) ?_
      rw [nI_clamp (show z.top < 2 ^ 31 by omega), r2]
      refine gi_istore_n (q := 79) (i := 3) C (dm_Ma_perform 43 rfl) rfl rfl (Nat.le_of_ble_eq_true rfl) ?_
      refine gi_aload_n (q := 80) (i := 0) C (dm_Ma_perform 44 rfl) rfl rfl rfl ?_
      refine gi_get (q := 83) C (dm_Ma_perform 45 rfl) rfl fl_Ma_39 Q.ob rfl ?_
      refine gi_aload_n (q := 84) (i := 0) C (dm_Ma_perform 46 rfl) rfl rfl rfl ?_
      refine gi_get (q := 87) C (dm_Ma_perform 47 rfl) rfl fl_Ma_72 Q.ob rfl ?_
      refine gi_dup2_11 (q := 88) C (dm_Ma_perform 48 rfl) rfl rfl rfl ?_
      refine gi_iald (q := 89) C (dm_Ma_perform 49 rfl) rfl rfl Q.a11 (in16 t16) ?_
      rw [nI_clamp (show z.top < 2 ^ 31 by omega), r2]
      refine gi_iconst (q := 90) (v := 1) C (dm_Ma_perform 50 rfl) rfl (by decide) ?_
      refine gi_iadd (q := 91) C (dm_Ma_perform 51 rfl) rfl ?_
      rw [nI_1]
      refine gi_iast (q := 92) C (dm_Ma_perform 52 rfl) rfl rfl Q.a11 (in16 t16) ?_
      rw [nI_clamp (show z.top < 2 ^ 31 by omega)]
      have W1 : MW a pr bu fa gv h0 sx wt Jx (gotZ z (z.cur.i + 1)) (gi_up h (a + 11) (gi_I 0 16 (upd (F 11) z.top (nI (z.cur.i + 1))))) := MW.got Q R
      obtain ⟨F1, J1, Q1, R1⟩ := id W1
      have n33 : ¬ op = 33 := by rw [← jo33]; exact c61
      have ep : prfZ P sn Fc z = prfA P sn Fc (curP z) (gotZ z (z.cur.i + 1)) := by
        unfold prfZ
        rw [← eo, if_neg n33]
      refine gi_iload_n (q := 93) (i := 1) C (dm_Ma_perform 53 rfl) rfl rfl rfl ?_
      refine gi_bipush (q := 95) (v := 6) C (dm_Ma_perform 54 rfl) rfl (by decide) ?_
      refine gi_icmp_gt (q := 98) (tgt := 105) C (dm_Ma_perform 55 rfl) rfl (by decide) (fun c95 => ?_) (fun c95 => ?_)
      · refine gi_iload_n (q := 106) (i := 1) C (dm_Ma_perform 61 rfl) rfl rfl rfl ?_
        refine gi_bipush (q := 108) (v := 18) C (dm_Ma_perform 62 rfl) rfl (by decide) ?_
        refine gi_icmp_gt (q := 111) (tgt := 117) C (dm_Ma_perform 63 rfl) rfl (by decide) (fun c108 => ?_) (fun c108 => ?_)
        · refine gi_iload_n (q := 118) (i := 1) C (dm_Ma_perform 68 rfl) rfl rfl rfl ?_
          refine gi_bipush (q := 120) (v := 27) C (dm_Ma_perform 69 rfl) rfl (by decide) ?_
          refine gi_icmp_gt (q := 123) (tgt := 130) C (dm_Ma_perform 70 rfl) rfl (by decide) (fun c120 => ?_) (fun c120 => ?_)
          · refine gi_iload_n (q := 131) (i := 1) C (dm_Ma_perform 76 rfl) rfl rfl rfl ?_
            refine gi_bipush (q := 133) (v := 31) C (dm_Ma_perform 77 rfl) rfl (by decide) ?_
            refine gi_icmp_gt (q := 136) (tgt := 156) C (dm_Ma_perform 78 rfl) rfl (by decide) (fun c133 => ?_) (fun c133 => ?_)
            · refine gi_iload_n (q := 157) (i := 1) C (dm_Ma_perform 90 rfl) rfl rfl rfl ?_
              refine gi_bipush (q := 159) (v := 32) C (dm_Ma_perform 91 rfl) rfl (by decide) ?_
              refine gi_icmp_ne (q := 162) (tgt := 168) C (dm_Ma_perform 92 rfl) rfl (by decide) (fun c159 => ?_) (fun c159 => ?_)
              · (try simp (disch := omega) only [jo28, jo32, jo33, jg6, jg18, jg27, jg31] at c53)
                (try simp (disch := omega) only [jo28, jo32, jo33, jg6, jg18, jg27, jg31] at c61)
                (try simp (disch := omega) only [jo28, jo32, jo33, jg6, jg18, jg27, jg31] at c95)
                (try simp (disch := omega) only [jo28, jo32, jo33, jg6, jg18, jg27, jg31] at c108)
                (try simp (disch := omega) only [jo28, jo32, jo33, jg6, jg18, jg27, jg31] at c120)
                (try simp (disch := omega) only [jo28, jo32, jo33, jg6, jg18, jg27, jg31] at c133)
                (try simp (disch := omega) only [jo28, jo32, jo33, jg6, jg18, jg27, jg31] at c159)
                have gD := (stp_D (Fc := Fc) B T (by rw [← eo]; omega)).1
                rw [← eo] at gD
                rw [gD.1]
                refine gi_aload_n (q := 169) (i := 0) C (dm_Ma_perform 97 rfl) rfl rfl rfl ?_
                refine gi_iload_n (q := 170) (i := 1) C (dm_Ma_perform 98 rfl) rfl rfl rfl ?_
                refine gi_iload_n (q := 171) (i := 2) C (dm_Ma_perform 99 rfl) rfl rfl rfl ?_
                refine gi_callv 2 (q := 174) C (dm_Ma_perform 100 rfl) rfl my_Ma_useField lk_Ma_168 im_Ma_useField rfl (c_Ma_useField op (pN P 7 (curP z)) (by omega) gD.2.1 (by rw [got_n]; exact gD.2.2.1) (by rw [got_n]; exact gD.2.2.2) E W1) Q1.ob rfl rfl ⟨(Nat.le_of_ble_eq_true rfl), (Nat.le_of_ble_eq_true rfl)⟩ (Nat.le_of_ble_eq_true rfl) ⟨(Nat.le_of_ble_eq_true rfl), (Nat.le_of_ble_eq_true rfl)⟩ (fun r171 n171 h171 e171 => ?_)
                obtain ⟨rfl, rfl, W171⟩ := e171
                obtain ⟨F171, J171, Q171, R171⟩ := id W171
                refine gi_iret C hr (dm_Ma_perform 101 rfl) ?_
                (try simp (disch := omega) only [jo28, jo32, jo33, jg6, jg18, jg27, jg31] at c53)
                (try simp (disch := omega) only [jo28, jo32, jo33, jg6, jg18, jg27, jg31] at c61)
                (try simp (disch := omega) only [jo28, jo32, jo33, jg6, jg18, jg27, jg31] at c95)
                (try simp (disch := omega) only [jo28, jo32, jo33, jg6, jg18, jg27, jg31] at c108)
                (try simp (disch := omega) only [jo28, jo32, jo33, jg6, jg18, jg27, jg31] at c120)
                (try simp (disch := omega) only [jo28, jo32, jo33, jg6, jg18, jg27, jg31] at c133)
                (try simp (disch := omega) only [jo28, jo32, jo33, jg6, jg18, jg27, jg31] at c159)
                rw [ep, show prfA P sn Fc (curP z) (gotZ z (z.cur.i + 1)) = (fldZ Fc op (pN P 7 (curP z)) (gotZ z (z.cur.i + 1)), 0) from by
                  unfold prfA
                  rw [← eo, if_neg (by omega), if_neg (by omega), if_neg (by omega), if_neg (by omega), if_neg (by omega), if_neg (by omega)]]
                exact ⟨rfl, rfl, W171⟩
              · (try simp (disch := omega) only [jo28, jo32, jo33, jg6, jg18, jg27, jg31] at c53)
                (try simp (disch := omega) only [jo28, jo32, jo33, jg6, jg18, jg27, jg31] at c61)
                (try simp (disch := omega) only [jo28, jo32, jo33, jg6, jg18, jg27, jg31] at c95)
                (try simp (disch := omega) only [jo28, jo32, jo33, jg6, jg18, jg27, jg31] at c108)
                (try simp (disch := omega) only [jo28, jo32, jo33, jg6, jg18, jg27, jg31] at c120)
                (try simp (disch := omega) only [jo28, jo32, jo33, jg6, jg18, jg27, jg31] at c133)
                (try simp (disch := omega) only [jo28, jo32, jo33, jg6, jg18, jg27, jg31] at c159)
                have g32 := (stp_32 B T (by rw [← eo]; omega)).1
                rw [g32.1]
                refine gi_aload_n (q := 163) (i := 0) C (dm_Ma_perform 93 rfl) rfl rfl rfl ?_
                refine gi_iload_n (q := 164) (i := 2) C (dm_Ma_perform 94 rfl) rfl rfl rfl ?_
                refine gi_callv 1 (q := 167) C (dm_Ma_perform 95 rfl) rfl my_Ma_enter lk_Ma_165 im_Ma_enter rfl (c_Ma_enter (pN P 7 (curP z)) g32.2.1 (by rw [got_n]; exact g32.2.2) E W1) Q1.ob rfl rfl ⟨(Nat.le_of_ble_eq_true rfl), (Nat.le_of_ble_eq_true rfl)⟩ (Nat.le_of_ble_eq_true rfl) ⟨(Nat.le_of_ble_eq_true rfl), (Nat.le_of_ble_eq_true rfl)⟩ (fun r164 n164 h164 e164 => ?_)
                obtain ⟨rfl, rfl, W164⟩ := e164
                obtain ⟨F164, J164, Q164, R164⟩ := id W164
                refine gi_iret C hr (dm_Ma_perform 96 rfl) ?_
                (try simp (disch := omega) only [jo28, jo32, jo33, jg6, jg18, jg27, jg31] at c53)
                (try simp (disch := omega) only [jo28, jo32, jo33, jg6, jg18, jg27, jg31] at c61)
                (try simp (disch := omega) only [jo28, jo32, jo33, jg6, jg18, jg27, jg31] at c95)
                (try simp (disch := omega) only [jo28, jo32, jo33, jg6, jg18, jg27, jg31] at c108)
                (try simp (disch := omega) only [jo28, jo32, jo33, jg6, jg18, jg27, jg31] at c120)
                (try simp (disch := omega) only [jo28, jo32, jo33, jg6, jg18, jg27, jg31] at c133)
                (try simp (disch := omega) only [jo28, jo32, jo33, jg6, jg18, jg27, jg31] at c159)
                rw [ep, show prfA P sn Fc (curP z) (gotZ z (z.cur.i + 1)) = entZ P (pN P 7 (curP z)) (gotZ z (z.cur.i + 1)) from by
                  unfold prfA
                  rw [← eo, if_neg (by omega), if_neg (by omega), if_neg (by omega), if_neg (by omega), if_neg (by omega), if_pos (by omega)]]
                exact ⟨rfl, rfl, W164⟩
            · refine gi_iload_n (q := 137) (i := 1) C (dm_Ma_perform 79 rfl) rfl rfl rfl ?_
              refine gi_bipush (q := 139) (v := 28) C (dm_Ma_perform 80 rfl) rfl (by decide) ?_
              refine gi_icmp_ne (q := 142) (tgt := 150) C (dm_Ma_perform 81 rfl) rfl (by decide) (fun c139 => ?_) (fun c139 => ?_)
              · (try simp (disch := omega) only [jo28, jo32, jo33, jg6, jg18, jg27, jg31] at c53)
                (try simp (disch := omega) only [jo28, jo32, jo33, jg6, jg18, jg27, jg31] at c61)
                (try simp (disch := omega) only [jo28, jo32, jo33, jg6, jg18, jg27, jg31] at c95)
                (try simp (disch := omega) only [jo28, jo32, jo33, jg6, jg18, jg27, jg31] at c108)
                (try simp (disch := omega) only [jo28, jo32, jo33, jg6, jg18, jg27, jg31] at c120)
                (try simp (disch := omega) only [jo28, jo32, jo33, jg6, jg18, jg27, jg31] at c133)
                (try simp (disch := omega) only [jo28, jo32, jo33, jg6, jg18, jg27, jg31] at c139)
                rcases (show op = 29 ∨ op = 30 ∨ op = 31 by omega) with e9 | e9 | e9
                · obtain ⟨⟨g1, r, g2, g3⟩, -⟩ := stp_29 (Fc := Fc) B T (by rw [← eo]; exact e9)
                  rw [show topV z = topV (gotZ z (z.cur.i + 1)) from by unfold topV; rw [cur_got]] at g3
                  refine gi_aload_n (q := 151) (i := 0) C (dm_Ma_perform 86 rfl) rfl rfl rfl ?_
                  refine gi_iload_n (q := 152) (i := 1) C (dm_Ma_perform 87 rfl) rfl rfl rfl ?_
                  rw [show nI op = 29 from by rw [e9]; rfl]
                  refine gi_callv 1 (q := 155) C (dm_Ma_perform 88 rfl) rfl my_Ma_useArray lk_Ma_162 im_Ma_useArray rfl (c_Ma_useArray_29 (r := r) (by rw [got_n]; exact g1) g3 g2 E W1) Q1.ob rfl rfl ⟨(Nat.le_of_ble_eq_true rfl), (Nat.le_of_ble_eq_true rfl)⟩ (Nat.le_of_ble_eq_true rfl) ⟨(Nat.le_of_ble_eq_true rfl), (Nat.le_of_ble_eq_true rfl)⟩ (fun r152 n152 h152 e152 => ?_)
                  obtain ⟨rfl, rfl, W152⟩ := e152
                  obtain ⟨F152, J152, Q152, R152⟩ := id W152
                  refine gi_iret C hr (dm_Ma_perform 89 rfl) ?_
                  rw [ep, show prfA P sn Fc (curP z) (gotZ z (z.cur.i + 1)) = useZ Fc 29 (gotZ z (z.cur.i + 1)) from by
                    unfold prfA
                    rw [← eo, if_neg (by omega), if_neg (by omega), if_neg (by omega), if_neg (by omega), if_pos (by omega), e9]]
                  exact ⟨rfl, rfl, W152⟩
                · obtain ⟨⟨g1, r, g2, g3⟩, -⟩ := stp_30 (Fc := Fc) B T (by rw [← eo]; exact e9)
                  rw [show topV (popZ z) = topV (popZ (gotZ z (z.cur.i + 1))) from by rw [top_pop, top_pop, got_n, got_s]] at g3
                  refine gi_aload_n (q := 151) (i := 0) C (dm_Ma_perform 86 rfl) rfl rfl rfl ?_
                  refine gi_iload_n (q := 152) (i := 1) C (dm_Ma_perform 87 rfl) rfl rfl rfl ?_
                  rw [show nI op = 30 from by rw [e9]; rfl]
                  refine gi_callv 1 (q := 155) C (dm_Ma_perform 88 rfl) rfl my_Ma_useArray lk_Ma_162 im_Ma_useArray rfl (c_Ma_useArray_30 (r := r) (by rw [got_n]; exact g1) g3 g2 E W1) Q1.ob rfl rfl ⟨(Nat.le_of_ble_eq_true rfl), (Nat.le_of_ble_eq_true rfl)⟩ (Nat.le_of_ble_eq_true rfl) ⟨(Nat.le_of_ble_eq_true rfl), (Nat.le_of_ble_eq_true rfl)⟩ (fun r152 n152 h152 e152 => ?_)
                  obtain ⟨rfl, rfl, W152⟩ := e152
                  obtain ⟨F152, J152, Q152, R152⟩ := id W152
                  refine gi_iret C hr (dm_Ma_perform 89 rfl) ?_
                  rw [ep, show prfA P sn Fc (curP z) (gotZ z (z.cur.i + 1)) = useZ Fc 30 (gotZ z (z.cur.i + 1)) from by
                    unfold prfA
                    rw [← eo, if_neg (by omega), if_neg (by omega), if_neg (by omega), if_neg (by omega), if_pos (by omega), e9]]
                  exact ⟨rfl, rfl, W152⟩
                · obtain ⟨⟨g1, r, g2, g3⟩, -⟩ := stp_31 (Fc := Fc) B T (by rw [← eo]; exact e9)
                  rw [show topV (popZ (popZ z)) = topV (popZ (popZ (gotZ z (z.cur.i + 1)))) from by rw [top_pop2, top_pop2, got_n, got_s]] at g3
                  refine gi_aload_n (q := 151) (i := 0) C (dm_Ma_perform 86 rfl) rfl rfl rfl ?_
                  refine gi_iload_n (q := 152) (i := 1) C (dm_Ma_perform 87 rfl) rfl rfl rfl ?_
                  rw [show nI op = 31 from by rw [e9]; rfl]
                  refine gi_callv 1 (q := 155) C (dm_Ma_perform 88 rfl) rfl my_Ma_useArray lk_Ma_162 im_Ma_useArray rfl (c_Ma_useArray_31 (r := r) (by rw [got_n]; exact g1) g3 g2 E W1) Q1.ob rfl rfl ⟨(Nat.le_of_ble_eq_true rfl), (Nat.le_of_ble_eq_true rfl)⟩ (Nat.le_of_ble_eq_true rfl) ⟨(Nat.le_of_ble_eq_true rfl), (Nat.le_of_ble_eq_true rfl)⟩ (fun r152 n152 h152 e152 => ?_)
                  obtain ⟨rfl, rfl, W152⟩ := e152
                  obtain ⟨F152, J152, Q152, R152⟩ := id W152
                  refine gi_iret C hr (dm_Ma_perform 89 rfl) ?_
                  rw [ep, show prfA P sn Fc (curP z) (gotZ z (z.cur.i + 1)) = useZ Fc 31 (gotZ z (z.cur.i + 1)) from by
                    unfold prfA
                    rw [← eo, if_neg (by omega), if_neg (by omega), if_neg (by omega), if_neg (by omega), if_pos (by omega), e9]]
                  exact ⟨rfl, rfl, W152⟩
              · (try simp (disch := omega) only [jo28, jo32, jo33, jg6, jg18, jg27, jg31] at c53)
                (try simp (disch := omega) only [jo28, jo32, jo33, jg6, jg18, jg27, jg31] at c61)
                (try simp (disch := omega) only [jo28, jo32, jo33, jg6, jg18, jg27, jg31] at c95)
                (try simp (disch := omega) only [jo28, jo32, jo33, jg6, jg18, jg27, jg31] at c108)
                (try simp (disch := omega) only [jo28, jo32, jo33, jg6, jg18, jg27, jg31] at c120)
                (try simp (disch := omega) only [jo28, jo32, jo33, jg6, jg18, jg27, jg31] at c133)
                (try simp (disch := omega) only [jo28, jo32, jo33, jg6, jg18, jg27, jg31] at c139)
                have e28 : op = 28 := c139
                obtain ⟨⟨g1, s25⟩, -⟩ := stp_28 (Fc := Fc) B T (by rw [← eo]; exact e28)
                have mz : (gotZ z (z.cur.i + 1)).cur.m = z.cur.m := got_m _ _
                have n1 : 1 ≤ (gotZ z (z.cur.i + 1)).cur.n := by rw [got_n]; exact g1
                have hm1 : (gotZ z (z.cur.i + 1)).cur.m < k := by rw [mz]; exact hm
                have hi1 : z.cur.i < pN P 5 (gotZ z (z.cur.i + 1)).cur.m := by rw [mz]; exact hi
                have h28 : pN P 6 (60 * (gotZ z (z.cur.i + 1)).cur.m + z.cur.i) = 28 := by rw [mz, cp, ← eo]; exact e28
                have s25 : sn (60 * (gotZ z (z.cur.i + 1)).cur.m + z.cur.i) < 25 := by rw [mz]; exact s25
                refine gi_aload_n (q := 143) (i := 0) C (dm_Ma_perform 82 rfl) rfl rfl rfl ?_
                refine gi_iload_n (q := 144) (i := 3) C (dm_Ma_perform 83 rfl) rfl rfl rfl ?_
                refine gi_callv 1 (q := 147) C (dm_Ma_perform 84 rfl) rfl my_Ma_makeArray lk_Ma_159 im_Ma_makeArray rfl (c_Ma_makeArray (z := (gotZ z (z.cur.i + 1))) (i := z.cur.i) (sn := sn) (k := k) (P := P) hm1 hi1 h28 s25 n1 E W1) Q1.ob rfl rfl ⟨(Nat.le_of_ble_eq_true rfl), (Nat.le_of_ble_eq_true rfl)⟩ (Nat.le_of_ble_eq_true rfl) ⟨(Nat.le_of_ble_eq_true rfl), (Nat.le_of_ble_eq_true rfl)⟩ (fun r144 n144 h144 e144 => ?_)
                obtain ⟨rfl, rfl, W144⟩ := e144
                obtain ⟨F144, J144, Q144, R144⟩ := id W144
                refine gi_goto (tgt := 155) C (dm_Ma_perform 85 rfl) (by decide) ?_
                refine gi_iret C hr (dm_Ma_perform 89 rfl) ?_
                rw [ep, show prfA P sn Fc (curP z) (gotZ z (z.cur.i + 1)) = makZ Fc (sn (60 * (gotZ z (z.cur.i + 1)).cur.m + z.cur.i)) (gotZ z (z.cur.i + 1)) from by
                  unfold prfA
                  rw [← eo, if_neg (by omega), if_neg (by omega), if_neg (by omega), if_pos e28, mz]
                  rfl]
                exact ⟨rfl, rfl, W144⟩
          · (try simp (disch := omega) only [jo28, jo32, jo33, jg6, jg18, jg27, jg31] at c53)
            (try simp (disch := omega) only [jo28, jo32, jo33, jg6, jg18, jg27, jg31] at c61)
            (try simp (disch := omega) only [jo28, jo32, jo33, jg6, jg18, jg27, jg31] at c95)
            (try simp (disch := omega) only [jo28, jo32, jo33, jg6, jg18, jg27, jg31] at c108)
            (try simp (disch := omega) only [jo28, jo32, jo33, jg6, jg18, jg27, jg31] at c120)
            have gC := (stp_C B T (by rw [← eo]; omega) (by rw [← eo]; omega)).1
            rw [← eo, ← got_n z (z.cur.i + 1)] at gC
            rw [gC.1]
            refine gi_aload_n (q := 124) (i := 0) C (dm_Ma_perform 71 rfl) rfl rfl rfl ?_
            refine gi_iload_n (q := 125) (i := 1) C (dm_Ma_perform 72 rfl) rfl rfl rfl ?_
            refine gi_iload_n (q := 126) (i := 2) C (dm_Ma_perform 73 rfl) rfl rfl rfl ?_
            refine gi_callv 2 (q := 129) C (dm_Ma_perform 74 rfl) rfl my_Ma_jump lk_Ma_156 im_Ma_jump rfl (c_Ma_jump op (pN P 7 (curP z)) (by omega) (by omega) gC.2.1 gC.2.2 W1) Q1.ob rfl rfl ⟨(Nat.le_of_ble_eq_true rfl), (Nat.le_of_ble_eq_true rfl)⟩ (Nat.le_of_ble_eq_true rfl) ⟨(Nat.le_of_ble_eq_true rfl), (Nat.le_of_ble_eq_true rfl)⟩ (fun r126 n126 h126 e126 => ?_)
            obtain ⟨rfl, rfl, W126⟩ := e126
            obtain ⟨F126, J126, Q126, R126⟩ := id W126
            refine gi_iret C hr (dm_Ma_perform 75 rfl) ?_
            (try simp (disch := omega) only [jo28, jo32, jo33, jg6, jg18, jg27, jg31] at c53)
            (try simp (disch := omega) only [jo28, jo32, jo33, jg6, jg18, jg27, jg31] at c61)
            (try simp (disch := omega) only [jo28, jo32, jo33, jg6, jg18, jg27, jg31] at c95)
            (try simp (disch := omega) only [jo28, jo32, jo33, jg6, jg18, jg27, jg31] at c108)
            (try simp (disch := omega) only [jo28, jo32, jo33, jg6, jg18, jg27, jg31] at c120)
            rw [ep, show prfA P sn Fc (curP z) (gotZ z (z.cur.i + 1)) = (jmpZ op (pN P 7 (curP z)) (gotZ z (z.cur.i + 1)), 0) from by
              unfold prfA
              rw [← eo, if_neg (by omega), if_neg (by omega), if_pos (by omega)]]
            exact ⟨rfl, rfl, W126⟩
        · (try simp (disch := omega) only [jo28, jo32, jo33, jg6, jg18, jg27, jg31] at c53)
          (try simp (disch := omega) only [jo28, jo32, jo33, jg6, jg18, jg27, jg31] at c61)
          (try simp (disch := omega) only [jo28, jo32, jo33, jg6, jg18, jg27, jg31] at c95)
          (try simp (disch := omega) only [jo28, jo32, jo33, jg6, jg18, jg27, jg31] at c108)
          have gB := (stp_B B T (by rw [← eo]; omega) (by rw [← eo]; omega)).1
          rw [← eo, ← got_n z (z.cur.i + 1)] at gB
          refine gi_aload_n (q := 112) (i := 0) C (dm_Ma_perform 64 rfl) rfl rfl rfl ?_
          refine gi_iload_n (q := 113) (i := 1) C (dm_Ma_perform 65 rfl) rfl rfl rfl ?_
          refine gi_callv 1 (q := 116) C (dm_Ma_perform 66 rfl) rfl my_Ma_reckon lk_Ma_153 im_Ma_reckon rfl (c_Ma_reckon op (by omega) (by omega) gB.1 gB.2 W1) Q1.ob rfl rfl ⟨(Nat.le_of_ble_eq_true rfl), (Nat.le_of_ble_eq_true rfl)⟩ (Nat.le_of_ble_eq_true rfl) ⟨(Nat.le_of_ble_eq_true rfl), (Nat.le_of_ble_eq_true rfl)⟩ (fun r113 n113 h113 e113 => ?_)
          obtain ⟨rfl, rfl, W113⟩ := e113
          obtain ⟨F113, J113, Q113, R113⟩ := id W113
          refine gi_iret C hr (dm_Ma_perform 67 rfl) ?_
          (try simp (disch := omega) only [jo28, jo32, jo33, jg6, jg18, jg27, jg31] at c53)
          (try simp (disch := omega) only [jo28, jo32, jo33, jg6, jg18, jg27, jg31] at c61)
          (try simp (disch := omega) only [jo28, jo32, jo33, jg6, jg18, jg27, jg31] at c95)
          (try simp (disch := omega) only [jo28, jo32, jo33, jg6, jg18, jg27, jg31] at c108)
          rw [ep, show prfA P sn Fc (curP z) (gotZ z (z.cur.i + 1)) = rckZ op (gotZ z (z.cur.i + 1)) from by
            unfold prfA
            rw [← eo, if_neg (by omega), if_pos (by omega)]]
          exact ⟨rfl, rfl, W113⟩
      · (try simp (disch := omega) only [jo28, jo32, jo33, jg6, jg18, jg27, jg31] at c53)
        (try simp (disch := omega) only [jo28, jo32, jo33, jg6, jg18, jg27, jg31] at c61)
        (try simp (disch := omega) only [jo28, jo32, jo33, jg6, jg18, jg27, jg31] at c95)
        have gA := (stp_A B T (by rw [← eo]; omega)).1
        rw [← eo, ← got_n z (z.cur.i + 1)] at gA
        refine gi_aload_n (q := 99) (i := 0) C (dm_Ma_perform 56 rfl) rfl rfl rfl ?_
        refine gi_iload_n (q := 100) (i := 1) C (dm_Ma_perform 57 rfl) rfl rfl rfl ?_
        refine gi_iload_n (q := 101) (i := 2) C (dm_Ma_perform 58 rfl) rfl rfl rfl ?_
        refine gi_callv 2 (q := 104) C (dm_Ma_perform 59 rfl) rfl my_Ma_move lk_Ma_150 im_Ma_move rfl (c_Ma_move op (P 7 (curP z)) (by omega) gA W1) Q1.ob rfl rfl ⟨(Nat.le_of_ble_eq_true rfl), (Nat.le_of_ble_eq_true rfl)⟩ (Nat.le_of_ble_eq_true rfl) ⟨(Nat.le_of_ble_eq_true rfl), (Nat.le_of_ble_eq_true rfl)⟩ (fun r101 n101 h101 e101 => ?_)
        obtain ⟨rfl, rfl, W101⟩ := e101
        obtain ⟨F101, J101, Q101, R101⟩ := id W101
        refine gi_iret C hr (dm_Ma_perform 60 rfl) ?_
        (try simp (disch := omega) only [jo28, jo32, jo33, jg6, jg18, jg27, jg31] at c53)
        (try simp (disch := omega) only [jo28, jo32, jo33, jg6, jg18, jg27, jg31] at c61)
        (try simp (disch := omega) only [jo28, jo32, jo33, jg6, jg18, jg27, jg31] at c95)
        rw [ep, show prfA P sn Fc (curP z) (gotZ z (z.cur.i + 1)) = (movZ op (P 7 (curP z)) (gotZ z (z.cur.i + 1)), 0) from by
          unfold prfA
          rw [← eo, if_pos (by omega)]]
        exact ⟨rfl, rfl, W101⟩
    · have g33 := stp_33 B T (by rw [← eo]; rw [jo33] at c61; exact c61)
      refine gi_aload_n (q := 65) (i := 0) C (dm_Ma_perform 35 rfl) rfl rfl rfl ?_
      refine gi_callv 0 (q := 68) C (dm_Ma_perform 36 rfl) rfl my_Ma_leave lk_Ma_147 im_Ma_leave rfl (c_Ma_leave hm g33.1.1 g33.1.2.1 g33.1.2.2 E Hw) Q.ob rfl rfl ⟨(Nat.le_of_ble_eq_true rfl), (Nat.le_of_ble_eq_true rfl)⟩ (Nat.le_of_ble_eq_true rfl) ⟨(Nat.le_of_ble_eq_true rfl), (Nat.le_of_ble_eq_true rfl)⟩ (fun r65 n65 h65 e65 => ?_)
      obtain ⟨rfl, rfl, W65⟩ := e65
      obtain ⟨F65, J65, Q65, R65⟩ := id W65
      refine gi_iret C hr (dm_Ma_perform 37 rfl) ?_
      rw [show prfZ P sn Fc z = leaZ P z from by
        unfold prfZ
        rw [← eo, if_pos (by rw [← jo33]; exact c61)]]
      exact ⟨rfl, rfl, W65⟩
  · exact absurd (nI_le (a := 0) (Nat.zero_le op) (by omega)) c53
end MA8
