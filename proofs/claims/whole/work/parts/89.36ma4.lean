-- needs: 89.35
section MA4
variable {l : Launch} {V : gi_V} {n : Nat} {h h' h0 : gi_H} {a pr bu fa gv k : Nat} {sx wt : Int32} {Jx : Nat → Int64} {z : Mc} {P : Pm} {sn : Nat → Nat} {wd : Nat → Bool} {Fc : Fa} {Φ : Nat → mR}
theorem nI_z {r : Nat} (h : r < 2 ^ 31) : (nI r = 0) = (r = 0) := nI_eqP (b := 0) h (by decide)
theorem top_pop (z : Mc) : topV (popZ z) = z.cur.s (z.cur.n - 1 - 1) := by
  unfold topV
  rw [cur_pop]
theorem top_pop2 (z : Mc) : topV (popZ (popZ z)) = z.cur.s (z.cur.n - 1 - 1 - 1) := by
  unfold topV
  rw [cur_pop, cur_pop]
theorem n_pop (z : Mc) : (popZ z).cur.n = z.cur.n - 1 := by rw [cur_pop]
set_option maxHeartbeats 4000000 in
set_option maxRecDepth 100000 in
theorem c_Ma_useArray_29 {r : Nat} (hn : 1 ≤ z.cur.n) (er : topV z = nI r) (hr : r ≤ z.hp.c) (E : EN a pr bu fa k P sn wd Fc Φ h0) (Hw : MW a pr bu fa gv h0 sx wt Jx z h) : gi_T l V y_Ma_useArray b_Ma_useArray 5 (some .int) 3 66 0 0 [.ref a, .int 29] n h (fun v n' h' => v = some (.int (useZ Fc 29 z).2) ∧ n' = n ∧ MW a pr bu fa gv h0 sx wt Jx (useZ Fc 29 z).1 h') := by
  refine gi_enter (by decide) (Nat.le_of_ble_eq_true rfl) ?_
  intro _ _ _ _ _ _ _ _ C hr9 hnm
  obtain ⟨F, J, Q, R⟩ := id Hw
  have t16 := R.1
  have n14 := R.cur.2.2.2.1
  have hO : hpO z.hp := (Q.he).choose_spec.choose_spec.2.1
  have c300 := hO.1
  refine gi_iload_n (q := 1) (i := 1) C (dm_Ma_useArray 0 rfl) rfl rfl rfl ?_
  refine gi_bipush (q := 3) (v := 31) C (dm_Ma_useArray 1 rfl) rfl (by decide) ?_
  refine gi_icmp_ne (q := 6) (tgt := 13) C (dm_Ma_useArray 2 rfl) rfl (by decide) (fun c3 => ?_) (fun c3 => ?_)
  · refine gi_iconst (q := 14) (v := 0) C (dm_Ma_useArray 6 rfl) rfl (by decide) ?_
    refine gi_istore_n (q := 15) (i := 2) C (dm_Ma_useArray 7 rfl) rfl rfl (Nat.le_of_ble_eq_true rfl) ?_
    refine gi_iload_n (q := 16) (i := 1) C (dm_Ma_useArray 8 rfl) rfl rfl rfl ?_
    refine gi_bipush (q := 18) (v := 29) C (dm_Ma_useArray 9 rfl) rfl (by decide) ?_
    refine gi_icmp_ne (q := 21) (tgt := 25) C (dm_Ma_useArray 10 rfl) rfl (by decide) (fun c18 => ?_) (fun c18 => ?_)
    · exact absurd rfl c18
    · refine gi_iconst (q := 22) (v := 0) C (dm_Ma_useArray 11 rfl) rfl (by decide) ?_
      refine gi_goto (tgt := 29) C (dm_Ma_useArray 12 rfl) (by decide) ?_
      refine gi_istore_n (q := 30) (i := 3) C (dm_Ma_useArray 15 rfl) rfl rfl (Nat.le_of_ble_eq_true rfl) ?_
      refine gi_aload_n (q := 31) (i := 0) C (dm_Ma_useArray 16 rfl) rfl rfl rfl ?_
      refine gi_callv 0 (q := 34) C (dm_Ma_useArray 17 rfl) rfl my_Ma_pop lk_Ma_177 im_Ma_pop rfl (c_Ma_pop (by omega) Hw) Q.ob rfl rfl ⟨(Nat.le_of_ble_eq_true rfl), (Nat.le_of_ble_eq_true rfl)⟩ (Nat.le_of_ble_eq_true rfl) ⟨(Nat.le_of_ble_eq_true rfl), (Nat.le_of_ble_eq_true rfl)⟩ (fun r31 n31 h31 e31 => ?_)
      obtain ⟨rfl, rfl, W31⟩ := e31
      obtain ⟨F31, J31, Q31, R31⟩ := id W31
      rw [er]
      have hr1 : r ≤ (popZ z).hp.c := hr
      refine gi_istore (q := 36) C (dm_Ma_useArray 18 rfl) rfl (Nat.le_of_ble_eq_true rfl) ?_
      refine gi_aload_n (q := 37) (i := 0) C (dm_Ma_useArray 19 rfl) rfl rfl rfl ?_
      refine gi_get (q := 40) C (dm_Ma_useArray 20 rfl) rfl fl_Ma_18 Q31.ob rfl ?_
      refine gi_iload (q := 42) C (dm_Ma_useArray 21 rfl) rfl rfl ?_
      refine gi_callv 1 (q := 45) C (dm_Ma_useArray 22 rfl) rfl my_He_isArray lk_Ma_209 im_He_isArray rfl (c_He_isArray hr1 Q31.he) (Q31.he).choose_spec.choose_spec.1.1 rfl rfl ⟨(Nat.le_of_ble_eq_true rfl), (Nat.le_of_ble_eq_true rfl)⟩ (Nat.le_of_ble_eq_true rfl) ⟨(Nat.le_of_ble_eq_true rfl), (Nat.le_of_ble_eq_true rfl)⟩ (fun r42 n42 h42 e42 => ?_)
      obtain ⟨rfl, q42, u42⟩ := e42
      rw [q42, u42]
      refine gi_if_ne (q := 48) (tgt := 54) C (dm_Ma_useArray 23 rfl) rfl (by decide) (fun c45 => ?_) (fun c45 => ?_)
      · have rz : ¬ r = 0 := fun q => by
          rw [decide_eq_true q] at c45
          exact absurd rfl c45
        refine gi_iload_n (q := 55) (i := 1) C (dm_Ma_useArray 28 rfl) rfl rfl rfl ?_
        refine gi_bipush (q := 57) (v := 29) C (dm_Ma_useArray 29 rfl) rfl (by decide) ?_
        refine gi_icmp_ne (q := 60) (tgt := 75) C (dm_Ma_useArray 30 rfl) rfl (by decide) (fun c57 => ?_) (fun c57 => ?_)
        · exact absurd rfl c57
        · refine gi_aload_n (q := 61) (i := 0) C (dm_Ma_useArray 31 rfl) rfl rfl rfl ?_
          refine gi_aload_n (q := 62) (i := 0) C (dm_Ma_useArray 32 rfl) rfl rfl rfl ?_
          refine gi_get (q := 65) C (dm_Ma_useArray 33 rfl) rfl fl_Ma_18 Q31.ob rfl ?_
          refine gi_iload (q := 67) C (dm_Ma_useArray 34 rfl) rfl rfl ?_
          refine gi_callv 1 (q := 70) C (dm_Ma_useArray 35 rfl) rfl my_He_lengthOf lk_Ma_212 im_He_lengthOf rfl (c_He_lengthOf hr1 Q31.he) (Q31.he).choose_spec.choose_spec.1.1 rfl rfl ⟨(Nat.le_of_ble_eq_true rfl), (Nat.le_of_ble_eq_true rfl)⟩ (Nat.le_of_ble_eq_true rfl) ⟨(Nat.le_of_ble_eq_true rfl), (Nat.le_of_ble_eq_true rfl)⟩ (fun r67 n67 h67 e67 => ?_)
          obtain ⟨rfl, q67, u67⟩ := e67
          rw [q67, u67]
          rw [if_neg rz]
          refine gi_callv 1 (q := 73) C (dm_Ma_useArray 36 rfl) rfl my_Ma_push lk_Ma_171 im_Ma_push rfl (c_Ma_push _ (by rw [n_pop]; omega) W31) Q31.ob rfl rfl ⟨(Nat.le_of_ble_eq_true rfl), (Nat.le_of_ble_eq_true rfl)⟩ (Nat.le_of_ble_eq_true rfl) ⟨(Nat.le_of_ble_eq_true rfl), (Nat.le_of_ble_eq_true rfl)⟩ (fun r70 n70 h70 e70 => ?_)
          obtain ⟨rfl, rfl, W70⟩ := e70
          obtain ⟨F70, J70, Q70, R70⟩ := id W70
          refine gi_iconst (q := 74) (v := 0) C (dm_Ma_useArray 37 rfl) rfl (by decide) ?_
          refine gi_iret C hr9 (dm_Ma_useArray 38 rfl) ?_
          rw [show useZ Fc 29 z = (pshZ (popZ z) (nI (z.hp.ln r)), 0) from by
            show (if topV z = 0 then _ else _) = _
            rw [if_neg (by rw [er, nI_z (by omega)]; exact rz), er, nI_clamp (by omega)]]
          exact ⟨rfl, rfl, W70⟩
      · refine gi_aload_n (q := 49) (i := 0) C (dm_Ma_useArray 24 rfl) rfl rfl rfl ?_
        refine gi_iconst (q := 50) (v := 2) C (dm_Ma_useArray 25 rfl) rfl (by decide) ?_
        refine gi_callv 1 (q := 53) C (dm_Ma_useArray 26 rfl) rfl my_Ma_goWrong lk_Ma_180 im_Ma_goWrong rfl (c_Ma_goWrong 2 W31) Q31.ob rfl rfl ⟨(Nat.le_of_ble_eq_true rfl), (Nat.le_of_ble_eq_true rfl)⟩ (Nat.le_of_ble_eq_true rfl) ⟨(Nat.le_of_ble_eq_true rfl), (Nat.le_of_ble_eq_true rfl)⟩ (fun r50 n50 h50 e50 => ?_)
        obtain ⟨rfl, rfl, W50⟩ := e50
        obtain ⟨F50, J50, Q50, R50⟩ := id W50
        refine gi_iret C hr9 (dm_Ma_useArray 27 rfl) ?_
        have r0 : r = 0 := by
          have q := bI_fa c45
          simpa using q
        rw [show useZ Fc 29 z = (wrgZ (popZ z) 2, 2) from by
          show (if topV z = 0 then _ else _) = _
          rw [if_pos (by rw [er, nI_z (by omega)]; exact r0)]]
        exact ⟨rfl, rfl, W50⟩
  · exact absurd c3 (by decide)
set_option maxHeartbeats 4000000 in
set_option maxRecDepth 100000 in
theorem c_Ma_useArray_30 {r : Nat} (hn : 2 ≤ z.cur.n) (er : topV (popZ z) = nI r) (hr : r ≤ z.hp.c) (E : EN a pr bu fa k P sn wd Fc Φ h0) (Hw : MW a pr bu fa gv h0 sx wt Jx z h) : gi_T l V y_Ma_useArray b_Ma_useArray 5 (some .int) 3 66 0 0 [.ref a, .int 30] n h (fun v n' h' => v = some (.int (useZ Fc 30 z).2) ∧ n' = n ∧ MW a pr bu fa gv h0 sx wt Jx (useZ Fc 30 z).1 h') := by
  refine gi_enter (by decide) (Nat.le_of_ble_eq_true rfl) ?_
  intro _ _ _ _ _ _ _ _ C hr9 hnm
  obtain ⟨F, J, Q, R⟩ := id Hw
  have t16 := R.1
  have n14 := R.cur.2.2.2.1
  have hO : hpO z.hp := (Q.he).choose_spec.choose_spec.2.1
  have c300 := hO.1
  refine gi_iload_n (q := 1) (i := 1) C (dm_Ma_useArray 0 rfl) rfl rfl rfl ?_
  refine gi_bipush (q := 3) (v := 31) C (dm_Ma_useArray 1 rfl) rfl (by decide) ?_
  refine gi_icmp_ne (q := 6) (tgt := 13) C (dm_Ma_useArray 2 rfl) rfl (by decide) (fun c3 => ?_) (fun c3 => ?_)
  · refine gi_iconst (q := 14) (v := 0) C (dm_Ma_useArray 6 rfl) rfl (by decide) ?_
    refine gi_istore_n (q := 15) (i := 2) C (dm_Ma_useArray 7 rfl) rfl rfl (Nat.le_of_ble_eq_true rfl) ?_
    refine gi_iload_n (q := 16) (i := 1) C (dm_Ma_useArray 8 rfl) rfl rfl rfl ?_
    refine gi_bipush (q := 18) (v := 29) C (dm_Ma_useArray 9 rfl) rfl (by decide) ?_
    refine gi_icmp_ne (q := 21) (tgt := 25) C (dm_Ma_useArray 10 rfl) rfl (by decide) (fun c18 => ?_) (fun c18 => ?_)
    · refine gi_aload_n (q := 26) (i := 0) C (dm_Ma_useArray 13 rfl) rfl rfl rfl ?_
      refine gi_callv 0 (q := 29) C (dm_Ma_useArray 14 rfl) rfl my_Ma_pop lk_Ma_177 im_Ma_pop rfl (c_Ma_pop (by omega) Hw) Q.ob rfl rfl ⟨(Nat.le_of_ble_eq_true rfl), (Nat.le_of_ble_eq_true rfl)⟩ (Nat.le_of_ble_eq_true rfl) ⟨(Nat.le_of_ble_eq_true rfl), (Nat.le_of_ble_eq_true rfl)⟩ (fun r26 n26 h26 e26 => ?_)
      obtain ⟨rfl, rfl, W26⟩ := e26
      obtain ⟨F26, J26, Q26, R26⟩ := id W26
      refine gi_istore_n (q := 30) (i := 3) C (dm_Ma_useArray 15 rfl) rfl rfl (Nat.le_of_ble_eq_true rfl) ?_
      refine gi_aload_n (q := 31) (i := 0) C (dm_Ma_useArray 16 rfl) rfl rfl rfl ?_
      refine gi_callv 0 (q := 34) C (dm_Ma_useArray 17 rfl) rfl my_Ma_pop lk_Ma_177 im_Ma_pop rfl (c_Ma_pop (by rw [n_pop]; omega) W26) Q26.ob rfl rfl ⟨(Nat.le_of_ble_eq_true rfl), (Nat.le_of_ble_eq_true rfl)⟩ (Nat.le_of_ble_eq_true rfl) ⟨(Nat.le_of_ble_eq_true rfl), (Nat.le_of_ble_eq_true rfl)⟩ (fun r31 n31 h31 e31 => ?_)
      obtain ⟨rfl, rfl, W31⟩ := e31
      obtain ⟨F31, J31, Q31, R31⟩ := id W31
      rw [er]
      have hr1 : r ≤ (popZ (popZ z)).hp.c := hr
      refine gi_istore (q := 36) C (dm_Ma_useArray 18 rfl) rfl (Nat.le_of_ble_eq_true rfl) ?_
      refine gi_aload_n (q := 37) (i := 0) C (dm_Ma_useArray 19 rfl) rfl rfl rfl ?_
      refine gi_get (q := 40) C (dm_Ma_useArray 20 rfl) rfl fl_Ma_18 Q31.ob rfl ?_
      refine gi_iload (q := 42) C (dm_Ma_useArray 21 rfl) rfl rfl ?_
      refine gi_callv 1 (q := 45) C (dm_Ma_useArray 22 rfl) rfl my_He_isArray lk_Ma_209 im_He_isArray rfl (c_He_isArray hr1 Q31.he) (Q31.he).choose_spec.choose_spec.1.1 rfl rfl ⟨(Nat.le_of_ble_eq_true rfl), (Nat.le_of_ble_eq_true rfl)⟩ (Nat.le_of_ble_eq_true rfl) ⟨(Nat.le_of_ble_eq_true rfl), (Nat.le_of_ble_eq_true rfl)⟩ (fun r42 n42 h42 e42 => ?_)
      obtain ⟨rfl, q42, u42⟩ := e42
      rw [q42, u42]
      refine gi_if_ne (q := 48) (tgt := 54) C (dm_Ma_useArray 23 rfl) rfl (by decide) (fun c45 => ?_) (fun c45 => ?_)
      · have rz : ¬ r = 0 := fun q => by
          rw [decide_eq_true q] at c45
          exact absurd rfl c45
        refine gi_iload_n (q := 55) (i := 1) C (dm_Ma_useArray 28 rfl) rfl rfl rfl ?_
        refine gi_bipush (q := 57) (v := 29) C (dm_Ma_useArray 29 rfl) rfl (by decide) ?_
        refine gi_icmp_ne (q := 60) (tgt := 75) C (dm_Ma_useArray 30 rfl) rfl (by decide) (fun c57 => ?_) (fun c57 => ?_)
        · refine gi_aload_n (q := 76) (i := 0) C (dm_Ma_useArray 39 rfl) rfl rfl rfl ?_
          refine gi_get (q := 79) C (dm_Ma_useArray 40 rfl) rfl fl_Ma_18 Q31.ob rfl ?_
          refine gi_iload (q := 81) C (dm_Ma_useArray 41 rfl) rfl rfl ?_
          refine gi_iload_n (q := 82) (i := 3) C (dm_Ma_useArray 42 rfl) rfl rfl rfl ?_
          refine gi_callv 2 (q := 85) C (dm_Ma_useArray 43 rfl) rfl my_He_hasIndex lk_Ma_214 im_He_hasIndex rfl (c_He_hasIndex (topV z) hr1 Q31.he) (Q31.he).choose_spec.choose_spec.1.1 rfl rfl ⟨(Nat.le_of_ble_eq_true rfl), (Nat.le_of_ble_eq_true rfl)⟩ (Nat.le_of_ble_eq_true rfl) ⟨(Nat.le_of_ble_eq_true rfl), (Nat.le_of_ble_eq_true rfl)⟩ (fun r82 n82 h82 e82 => ?_)
          obtain ⟨rfl, q82, u82⟩ := e82
          rw [q82, u82]
          refine gi_if_ne (q := 88) (tgt := 94) C (dm_Ma_useArray 44 rfl) rfl (by decide) (fun c85 => ?_) (fun c85 => ?_)
          · obtain ⟨i0, i1⟩ : 0 ≤ topV z ∧ topV z < nI (z.hp.ln r) := by
              have q := bI_t c85
              rw [Bool.and_eq_true, Bool.and_eq_true, decide_eq_true_iff, decide_eq_true_iff] at q
              exact ⟨q.2.1, q.2.2⟩
            refine gi_iload_n (q := 95) (i := 1) C (dm_Ma_useArray 49 rfl) rfl rfl rfl ?_
            refine gi_bipush (q := 97) (v := 30) C (dm_Ma_useArray 50 rfl) rfl (by decide) ?_
            refine gi_icmp_ne (q := 100) (tgt := 116) C (dm_Ma_useArray 51 rfl) rfl (by decide) (fun c97 => ?_) (fun c97 => ?_)
            · exact absurd rfl c97
            · refine gi_aload_n (q := 101) (i := 0) C (dm_Ma_useArray 52 rfl) rfl rfl rfl ?_
              refine gi_aload_n (q := 102) (i := 0) C (dm_Ma_useArray 53 rfl) rfl rfl rfl ?_
              refine gi_get (q := 105) C (dm_Ma_useArray 54 rfl) rfl fl_Ma_18 Q31.ob rfl ?_
              refine gi_iload (q := 107) C (dm_Ma_useArray 55 rfl) rfl rfl ?_
              refine gi_iload_n (q := 108) (i := 3) C (dm_Ma_useArray 56 rfl) rfl rfl rfl ?_
              refine gi_callv 2 (q := 111) C (dm_Ma_useArray 57 rfl) rfl my_He_get lk_Ma_218 im_He_get rfl (c_He_get (topV z) (by omega) hr1 i0 i1 Q31.he) (Q31.he).choose_spec.choose_spec.1.1 rfl rfl ⟨(Nat.le_of_ble_eq_true rfl), (Nat.le_of_ble_eq_true rfl)⟩ (Nat.le_of_ble_eq_true rfl) ⟨(Nat.le_of_ble_eq_true rfl), (Nat.le_of_ble_eq_true rfl)⟩ (fun r108 n108 h108 e108 => ?_)
              obtain ⟨rfl, q108, u108⟩ := e108
              rw [q108, u108]
              refine gi_callv 1 (q := 114) C (dm_Ma_useArray 58 rfl) rfl my_Ma_push lk_Ma_171 im_Ma_push rfl (c_Ma_push _ (by rw [n_pop, n_pop]; omega) W31) Q31.ob rfl rfl ⟨(Nat.le_of_ble_eq_true rfl), (Nat.le_of_ble_eq_true rfl)⟩ (Nat.le_of_ble_eq_true rfl) ⟨(Nat.le_of_ble_eq_true rfl), (Nat.le_of_ble_eq_true rfl)⟩ (fun r111 n111 h111 e111 => ?_)
              obtain ⟨rfl, rfl, W111⟩ := e111
              obtain ⟨F111, J111, Q111, R111⟩ := id W111
              refine gi_iconst (q := 115) (v := 0) C (dm_Ma_useArray 59 rfl) rfl (by decide) ?_
              refine gi_iret C hr9 (dm_Ma_useArray 60 rfl) ?_
              rw [show useZ Fc 30 z = (pshZ (popZ (popZ z)) (z.hp.ce (z.hp.st r + (topV z).toNatClampNeg)), 0) from by
                show (if topV (popZ z) = 0 then _ else _) = _
                rw [if_neg (by rw [er, nI_z (by omega)]; exact rz), er, nI_clamp (by omega), if_pos ⟨i0, i1⟩]]
              exact ⟨rfl, rfl, W111⟩
          · refine gi_aload_n (q := 89) (i := 0) C (dm_Ma_useArray 45 rfl) rfl rfl rfl ?_
            refine gi_iconst (q := 90) (v := 3) C (dm_Ma_useArray 46 rfl) rfl (by decide) ?_
            refine gi_callv 1 (q := 93) C (dm_Ma_useArray 47 rfl) rfl my_Ma_goWrong lk_Ma_180 im_Ma_goWrong rfl (c_Ma_goWrong 3 W31) Q31.ob rfl rfl ⟨(Nat.le_of_ble_eq_true rfl), (Nat.le_of_ble_eq_true rfl)⟩ (Nat.le_of_ble_eq_true rfl) ⟨(Nat.le_of_ble_eq_true rfl), (Nat.le_of_ble_eq_true rfl)⟩ (fun r90 n90 h90 e90 => ?_)
            obtain ⟨rfl, rfl, W90⟩ := e90
            obtain ⟨F90, J90, Q90, R90⟩ := id W90
            refine gi_iret C hr9 (dm_Ma_useArray 48 rfl) ?_
            rw [show useZ Fc 30 z = (wrgZ (popZ (popZ z)) 3, 2) from by
              show (if topV (popZ z) = 0 then _ else _) = _
              rw [if_neg (by rw [er, nI_z (by omega)]; exact rz), er, nI_clamp (by omega), if_neg (fun q => by
                have q9 := bI_fa c85
                have q8 : (!decide (r = 0) && (decide (0 ≤ topV z) && decide (topV z < nI (z.hp.ln r)))) = false := q9
                rw [decide_eq_false rz, decide_eq_true q.1, decide_eq_true q.2] at q8
                cases q8)]]
            exact ⟨rfl, rfl, W90⟩
        · exact absurd c57 (by decide)
      · refine gi_aload_n (q := 49) (i := 0) C (dm_Ma_useArray 24 rfl) rfl rfl rfl ?_
        refine gi_iconst (q := 50) (v := 2) C (dm_Ma_useArray 25 rfl) rfl (by decide) ?_
        refine gi_callv 1 (q := 53) C (dm_Ma_useArray 26 rfl) rfl my_Ma_goWrong lk_Ma_180 im_Ma_goWrong rfl (c_Ma_goWrong 2 W31) Q31.ob rfl rfl ⟨(Nat.le_of_ble_eq_true rfl), (Nat.le_of_ble_eq_true rfl)⟩ (Nat.le_of_ble_eq_true rfl) ⟨(Nat.le_of_ble_eq_true rfl), (Nat.le_of_ble_eq_true rfl)⟩ (fun r50 n50 h50 e50 => ?_)
        obtain ⟨rfl, rfl, W50⟩ := e50
        obtain ⟨F50, J50, Q50, R50⟩ := id W50
        refine gi_iret C hr9 (dm_Ma_useArray 27 rfl) ?_
        have r0 : r = 0 := by
          have q := bI_fa c45
          simpa using q
        rw [show useZ Fc 30 z = (wrgZ (popZ (popZ z)) 2, 2) from by
          show (if topV (popZ z) = 0 then _ else _) = _
          rw [if_pos (by rw [er, nI_z (by omega)]; exact r0)]]
        exact ⟨rfl, rfl, W50⟩
    · exact absurd c18 (by decide)
  · exact absurd c3 (by decide)
set_option maxHeartbeats 4000000 in
set_option maxRecDepth 100000 in
theorem c_Ma_useArray_31 {r : Nat} (hn : 3 ≤ z.cur.n) (er : topV (popZ (popZ z)) = nI r) (hr : r ≤ z.hp.c) (E : EN a pr bu fa k P sn wd Fc Φ h0) (Hw : MW a pr bu fa gv h0 sx wt Jx z h) : gi_T l V y_Ma_useArray b_Ma_useArray 5 (some .int) 3 66 0 0 [.ref a, .int 31] n h (fun v n' h' => v = some (.int (useZ Fc 31 z).2) ∧ n' = n ∧ MW a pr bu fa gv h0 sx wt Jx (useZ Fc 31 z).1 h') := by
  refine gi_enter (by decide) (Nat.le_of_ble_eq_true rfl) ?_
  intro _ _ _ _ _ _ _ _ C hr9 hnm
  obtain ⟨F, J, Q, R⟩ := id Hw
  have t16 := R.1
  have n14 := R.cur.2.2.2.1
  have hO : hpO z.hp := (Q.he).choose_spec.choose_spec.2.1
  have c300 := hO.1
  refine gi_iload_n (q := 1) (i := 1) C (dm_Ma_useArray 0 rfl) rfl rfl rfl ?_
  refine gi_bipush (q := 3) (v := 31) C (dm_Ma_useArray 1 rfl) rfl (by decide) ?_
  refine gi_icmp_ne (q := 6) (tgt := 13) C (dm_Ma_useArray 2 rfl) rfl (by decide) (fun c3 => ?_) (fun c3 => ?_)
  · exact absurd rfl c3
  · refine gi_aload_n (q := 7) (i := 0) C (dm_Ma_useArray 3 rfl) rfl rfl rfl ?_
    refine gi_callv 0 (q := 10) C (dm_Ma_useArray 4 rfl) rfl my_Ma_pop lk_Ma_177 im_Ma_pop rfl (c_Ma_pop (by omega) Hw) Q.ob rfl rfl ⟨(Nat.le_of_ble_eq_true rfl), (Nat.le_of_ble_eq_true rfl)⟩ (Nat.le_of_ble_eq_true rfl) ⟨(Nat.le_of_ble_eq_true rfl), (Nat.le_of_ble_eq_true rfl)⟩ (fun r7 n7 h7 e7 => ?_)
    obtain ⟨rfl, rfl, W7⟩ := e7
    obtain ⟨F7, J7, Q7, R7⟩ := id W7
    refine gi_goto (tgt := 14) C (dm_Ma_useArray 5 rfl) (by decide) ?_
    refine gi_istore_n (q := 15) (i := 2) C (dm_Ma_useArray 7 rfl) rfl rfl (Nat.le_of_ble_eq_true rfl) ?_
    refine gi_iload_n (q := 16) (i := 1) C (dm_Ma_useArray 8 rfl) rfl rfl rfl ?_
    refine gi_bipush (q := 18) (v := 29) C (dm_Ma_useArray 9 rfl) rfl (by decide) ?_
    refine gi_icmp_ne (q := 21) (tgt := 25) C (dm_Ma_useArray 10 rfl) rfl (by decide) (fun c18 => ?_) (fun c18 => ?_)
    · refine gi_aload_n (q := 26) (i := 0) C (dm_Ma_useArray 13 rfl) rfl rfl rfl ?_
      refine gi_callv 0 (q := 29) C (dm_Ma_useArray 14 rfl) rfl my_Ma_pop lk_Ma_177 im_Ma_pop rfl (c_Ma_pop (by rw [n_pop]; omega) W7) Q7.ob rfl rfl ⟨(Nat.le_of_ble_eq_true rfl), (Nat.le_of_ble_eq_true rfl)⟩ (Nat.le_of_ble_eq_true rfl) ⟨(Nat.le_of_ble_eq_true rfl), (Nat.le_of_ble_eq_true rfl)⟩ (fun r26 n26 h26 e26 => ?_)
      obtain ⟨rfl, rfl, W26⟩ := e26
      obtain ⟨F26, J26, Q26, R26⟩ := id W26
      refine gi_istore_n (q := 30) (i := 3) C (dm_Ma_useArray 15 rfl) rfl rfl (Nat.le_of_ble_eq_true rfl) ?_
      refine gi_aload_n (q := 31) (i := 0) C (dm_Ma_useArray 16 rfl) rfl rfl rfl ?_
      refine gi_callv 0 (q := 34) C (dm_Ma_useArray 17 rfl) rfl my_Ma_pop lk_Ma_177 im_Ma_pop rfl (c_Ma_pop (by rw [n_pop, n_pop]; omega) W26) Q26.ob rfl rfl ⟨(Nat.le_of_ble_eq_true rfl), (Nat.le_of_ble_eq_true rfl)⟩ (Nat.le_of_ble_eq_true rfl) ⟨(Nat.le_of_ble_eq_true rfl), (Nat.le_of_ble_eq_true rfl)⟩ (fun r31 n31 h31 e31 => ?_)
      obtain ⟨rfl, rfl, W31⟩ := e31
      obtain ⟨F31, J31, Q31, R31⟩ := id W31
      rw [er]
      have hr1 : r ≤ (popZ (popZ (popZ z))).hp.c := hr
      refine gi_istore (q := 36) C (dm_Ma_useArray 18 rfl) rfl (Nat.le_of_ble_eq_true rfl) ?_
      refine gi_aload_n (q := 37) (i := 0) C (dm_Ma_useArray 19 rfl) rfl rfl rfl ?_
      refine gi_get (q := 40) C (dm_Ma_useArray 20 rfl) rfl fl_Ma_18 Q31.ob rfl ?_
      refine gi_iload (q := 42) C (dm_Ma_useArray 21 rfl) rfl rfl ?_
      refine gi_callv 1 (q := 45) C (dm_Ma_useArray 22 rfl) rfl my_He_isArray lk_Ma_209 im_He_isArray rfl (c_He_isArray hr1 Q31.he) (Q31.he).choose_spec.choose_spec.1.1 rfl rfl ⟨(Nat.le_of_ble_eq_true rfl), (Nat.le_of_ble_eq_true rfl)⟩ (Nat.le_of_ble_eq_true rfl) ⟨(Nat.le_of_ble_eq_true rfl), (Nat.le_of_ble_eq_true rfl)⟩ (fun r42 n42 h42 e42 => ?_)
      obtain ⟨rfl, q42, u42⟩ := e42
      rw [q42, u42]
      refine gi_if_ne (q := 48) (tgt := 54) C (dm_Ma_useArray 23 rfl) rfl (by decide) (fun c45 => ?_) (fun c45 => ?_)
      · have rz : ¬ r = 0 := fun q => by
          rw [decide_eq_true q] at c45
          exact absurd rfl c45
        refine gi_iload_n (q := 55) (i := 1) C (dm_Ma_useArray 28 rfl) rfl rfl rfl ?_
        refine gi_bipush (q := 57) (v := 29) C (dm_Ma_useArray 29 rfl) rfl (by decide) ?_
        refine gi_icmp_ne (q := 60) (tgt := 75) C (dm_Ma_useArray 30 rfl) rfl (by decide) (fun c57 => ?_) (fun c57 => ?_)
        · refine gi_aload_n (q := 76) (i := 0) C (dm_Ma_useArray 39 rfl) rfl rfl rfl ?_
          refine gi_get (q := 79) C (dm_Ma_useArray 40 rfl) rfl fl_Ma_18 Q31.ob rfl ?_
          refine gi_iload (q := 81) C (dm_Ma_useArray 41 rfl) rfl rfl ?_
          refine gi_iload_n (q := 82) (i := 3) C (dm_Ma_useArray 42 rfl) rfl rfl rfl ?_
          refine gi_callv 2 (q := 85) C (dm_Ma_useArray 43 rfl) rfl my_He_hasIndex lk_Ma_214 im_He_hasIndex rfl (c_He_hasIndex (topV (popZ z)) hr1 Q31.he) (Q31.he).choose_spec.choose_spec.1.1 rfl rfl ⟨(Nat.le_of_ble_eq_true rfl), (Nat.le_of_ble_eq_true rfl)⟩ (Nat.le_of_ble_eq_true rfl) ⟨(Nat.le_of_ble_eq_true rfl), (Nat.le_of_ble_eq_true rfl)⟩ (fun r82 n82 h82 e82 => ?_)
          obtain ⟨rfl, q82, u82⟩ := e82
          rw [q82, u82]
          refine gi_if_ne (q := 88) (tgt := 94) C (dm_Ma_useArray 44 rfl) rfl (by decide) (fun c85 => ?_) (fun c85 => ?_)
          · obtain ⟨i0, i1⟩ : 0 ≤ topV (popZ z) ∧ topV (popZ z) < nI (z.hp.ln r) := by
              have q := bI_t c85
              rw [Bool.and_eq_true, Bool.and_eq_true, decide_eq_true_iff, decide_eq_true_iff] at q
              exact ⟨q.2.1, q.2.2⟩
            refine gi_iload_n (q := 95) (i := 1) C (dm_Ma_useArray 49 rfl) rfl rfl rfl ?_
            refine gi_bipush (q := 97) (v := 30) C (dm_Ma_useArray 50 rfl) rfl (by decide) ?_
            refine gi_icmp_ne (q := 100) (tgt := 116) C (dm_Ma_useArray 51 rfl) rfl (by decide) (fun c97 => ?_) (fun c97 => ?_)
            · refine gi_aload_n (q := 117) (i := 0) C (dm_Ma_useArray 61 rfl) rfl rfl rfl ?_
              refine gi_get (q := 120) C (dm_Ma_useArray 62 rfl) rfl fl_Ma_18 Q31.ob rfl ?_
              refine gi_iload (q := 122) C (dm_Ma_useArray 63 rfl) rfl rfl ?_
              refine gi_iload_n (q := 123) (i := 3) C (dm_Ma_useArray 64 rfl) rfl rfl rfl ?_
              refine gi_iload_n (q := 124) (i := 2) C (dm_Ma_useArray 65 rfl) rfl rfl rfl ?_
              refine gi_callv 3 (q := 127) C (dm_Ma_useArray 66 rfl) rfl my_He_set lk_Ma_128 im_He_set rfl (c_He_set (topV (popZ z)) (topV z) (by omega) hr1 i0 i1 Q31.he) (Q31.he).choose_spec.choose_spec.1.1 rfl rfl ⟨(Nat.le_of_ble_eq_true rfl), (Nat.le_of_ble_eq_true rfl)⟩ (Nat.le_of_ble_eq_true rfl) ⟨(Nat.le_of_ble_eq_true rfl), (Nat.le_of_ble_eq_true rfl)⟩ (fun r124 n124 h124 e124 => ?_)
              obtain ⟨rfl, rfl, b4, b5⟩ := e124
              have Q2 := Q31.sH b4 b5
              have sl : z.hp.si r < 25 := (hO.2.2 r (by omega) hr).2
              have hr2 : r ≤ (hSet z.hp r (topV (popZ z)).toNatClampNeg (topV z)).c := hr
              refine gi_aload_n (q := 128) (i := 0) C (dm_Ma_useArray 67 rfl) rfl rfl rfl ?_
              refine gi_dup (q := 129) C (dm_Ma_useArray 68 rfl) rfl rfl ?_
              refine gi_get (q := 132) C (dm_Ma_useArray 69 rfl) rfl fl_Ma_85 Q2.ob rfl ?_
              refine gi_aload_n (q := 133) (i := 0) C (dm_Ma_useArray 70 rfl) rfl rfl rfl ?_
              refine gi_get (q := 136) C (dm_Ma_useArray 71 rfl) rfl fl_Ma_50 Q2.ob rfl ?_
              refine gi_aload_n (q := 137) (i := 0) C (dm_Ma_useArray 72 rfl) rfl rfl rfl ?_
              refine gi_get (q := 140) C (dm_Ma_useArray 73 rfl) rfl fl_Ma_18 Q2.ob rfl ?_
              refine gi_iload (q := 142) C (dm_Ma_useArray 74 rfl) rfl rfl ?_
              refine gi_callv 1 (q := 145) C (dm_Ma_useArray 75 rfl) rfl my_He_siteOf lk_Ma_221 im_He_siteOf rfl (c_He_siteOf hr2 Q2.he) (Q2.he).choose_spec.choose_spec.1.1 rfl rfl ⟨(Nat.le_of_ble_eq_true rfl), (Nat.le_of_ble_eq_true rfl)⟩ (Nat.le_of_ble_eq_true rfl) ⟨(Nat.le_of_ble_eq_true rfl), (Nat.le_of_ble_eq_true rfl)⟩ (fun r142 n142 h142 e142 => ?_)
              obtain ⟨rfl, q142, u142⟩ := e142
              rw [q142, u142]
              rw [if_neg rz]
              refine gi_callv 1 (q := 148) C (dm_Ma_useArray 76 rfl) rfl my_Fa_elementOf lk_Ma_206 im_Fa_elementOf rfl (c_Fa_elementOf (i := z.hp.si r) sl (E.hF Q2.ou)) (E.hF Q2.ou).1 rfl rfl ⟨(Nat.le_of_ble_eq_true rfl), (Nat.le_of_ble_eq_true rfl)⟩ (Nat.le_of_ble_eq_true rfl) ⟨(Nat.le_of_ble_eq_true rfl), (Nat.le_of_ble_eq_true rfl)⟩ (fun r145 n145 h145 e145 => ?_)
              obtain ⟨rfl, q145, u145⟩ := e145
              rw [q145, u145]
              refine gi_iload_n (q := 149) (i := 2) C (dm_Ma_useArray 77 rfl) rfl rfl rfl ?_
              refine gi_calls 2 (q := 152) C (dm_Ma_useArray 78 rfl) rfl my_Ma_tells lk_Ma_202 sm_Ma_tells (c_Ma_tells (505 + z.hp.si r) (topV z) (by omega) (by omega) (E.hF Q2.ou) E.hR E.hS) rfl rfl ⟨(Nat.le_of_ble_eq_true rfl), (Nat.le_of_ble_eq_true rfl)⟩ (Nat.le_of_ble_eq_true rfl) ⟨(Nat.le_of_ble_eq_true rfl), (Nat.le_of_ble_eq_true rfl)⟩ (fun r149 n149 h149 e149 => ?_)
              obtain ⟨rfl, q149, u149⟩ := e149
              rw [q149, u149]
              refine gi_if_ne (q := 155) (tgt := 159) C (dm_Ma_useArray 79 rfl) rfl (by decide) (fun c152 => ?_) (fun c152 => ?_)
              · refine gi_iconst (q := 160) (v := 0) C (dm_Ma_useArray 82 rfl) rfl (by decide) ?_
                have ea : (!rwT Fc (505 + z.hp.si r) (topV z)) = false := by
                  first
                    | (rw [bI_t c152]; rfl)
                    | (rw [bI_fa c152]; rfl)
                rw [show (0 : Int32) = bI false from rfl]
                refine gi_ior (q := 161) C (dm_Ma_useArray 83 rfl) rfl ?_
                rw [bI_or]
                refine gi_put (q := 164) C (dm_Ma_useArray 84 rfl) rfl fl_Ma_85 fp_Ma_15 Q2.ob (Nat.le_of_ble_eq_true rfl) (bI_nar _) (nb_f (bI_01 _)) ?_
                have W2 := MW.mk (astZ (hpZ (popZ (popZ (popZ z))) (hSet z.hp r (topV (popZ z)).toNatClampNeg (topV z))) false) (Q2.pO sx (nI z.top) z.wr wt (bI (z.as || false))) R31
                refine gi_iconst (q := 165) (v := 0) C (dm_Ma_useArray 85 rfl) rfl (by decide) ?_
                refine gi_iret C hr9 (dm_Ma_useArray 86 rfl) ?_
                rw [show useZ Fc 31 z = (astZ (hpZ (popZ (popZ (popZ z))) (hSet z.hp r (topV (popZ z)).toNatClampNeg (topV z))) (!rwT Fc (505 + z.hp.si r) (topV z)), 0) from by
                  show (if topV (popZ (popZ z)) = 0 then _ else _) = _
                  rw [if_neg (by rw [er, nI_z (by omega)]; exact rz), er, nI_clamp (by omega), if_pos ⟨i0, i1⟩], ea]
                exact ⟨rfl, rfl, W2⟩
              · refine gi_iconst (q := 156) (v := 1) C (dm_Ma_useArray 80 rfl) rfl (by decide) ?_
                refine gi_goto (tgt := 160) C (dm_Ma_useArray 81 rfl) (by decide) ?_
                have ea : (!rwT Fc (505 + z.hp.si r) (topV z)) = true := by
                  first
                    | (rw [bI_t c152]; rfl)
                    | (rw [bI_fa c152]; rfl)
                rw [show (1 : Int32) = bI true from rfl]
                refine gi_ior (q := 161) C (dm_Ma_useArray 83 rfl) rfl ?_
                rw [bI_or]
                refine gi_put (q := 164) C (dm_Ma_useArray 84 rfl) rfl fl_Ma_85 fp_Ma_15 Q2.ob (Nat.le_of_ble_eq_true rfl) (bI_nar _) (nb_f (bI_01 _)) ?_
                have W2 := MW.mk (astZ (hpZ (popZ (popZ (popZ z))) (hSet z.hp r (topV (popZ z)).toNatClampNeg (topV z))) true) (Q2.pO sx (nI z.top) z.wr wt (bI (z.as || true))) R31
                refine gi_iconst (q := 165) (v := 0) C (dm_Ma_useArray 85 rfl) rfl (by decide) ?_
                refine gi_iret C hr9 (dm_Ma_useArray 86 rfl) ?_
                rw [show useZ Fc 31 z = (astZ (hpZ (popZ (popZ (popZ z))) (hSet z.hp r (topV (popZ z)).toNatClampNeg (topV z))) (!rwT Fc (505 + z.hp.si r) (topV z)), 0) from by
                  show (if topV (popZ (popZ z)) = 0 then _ else _) = _
                  rw [if_neg (by rw [er, nI_z (by omega)]; exact rz), er, nI_clamp (by omega), if_pos ⟨i0, i1⟩], ea]
                exact ⟨rfl, rfl, W2⟩
            · exact absurd c97 (by decide)
          · refine gi_aload_n (q := 89) (i := 0) C (dm_Ma_useArray 45 rfl) rfl rfl rfl ?_
            refine gi_iconst (q := 90) (v := 3) C (dm_Ma_useArray 46 rfl) rfl (by decide) ?_
            refine gi_callv 1 (q := 93) C (dm_Ma_useArray 47 rfl) rfl my_Ma_goWrong lk_Ma_180 im_Ma_goWrong rfl (c_Ma_goWrong 3 W31) Q31.ob rfl rfl ⟨(Nat.le_of_ble_eq_true rfl), (Nat.le_of_ble_eq_true rfl)⟩ (Nat.le_of_ble_eq_true rfl) ⟨(Nat.le_of_ble_eq_true rfl), (Nat.le_of_ble_eq_true rfl)⟩ (fun r90 n90 h90 e90 => ?_)
            obtain ⟨rfl, rfl, W90⟩ := e90
            obtain ⟨F90, J90, Q90, R90⟩ := id W90
            refine gi_iret C hr9 (dm_Ma_useArray 48 rfl) ?_
            rw [show useZ Fc 31 z = (wrgZ (popZ (popZ (popZ z))) 3, 2) from by
              show (if topV (popZ (popZ z)) = 0 then _ else _) = _
              rw [if_neg (by rw [er, nI_z (by omega)]; exact rz), er, nI_clamp (by omega), if_neg (fun q => by
                have q9 := bI_fa c85
                have q8 : (!decide (r = 0) && (decide (0 ≤ topV (popZ z)) && decide (topV (popZ z) < nI (z.hp.ln r)))) = false := q9
                rw [decide_eq_false rz, decide_eq_true q.1, decide_eq_true q.2] at q8
                cases q8)]]
            exact ⟨rfl, rfl, W90⟩
        · exact absurd c57 (by decide)
      · refine gi_aload_n (q := 49) (i := 0) C (dm_Ma_useArray 24 rfl) rfl rfl rfl ?_
        refine gi_iconst (q := 50) (v := 2) C (dm_Ma_useArray 25 rfl) rfl (by decide) ?_
        refine gi_callv 1 (q := 53) C (dm_Ma_useArray 26 rfl) rfl my_Ma_goWrong lk_Ma_180 im_Ma_goWrong rfl (c_Ma_goWrong 2 W31) Q31.ob rfl rfl ⟨(Nat.le_of_ble_eq_true rfl), (Nat.le_of_ble_eq_true rfl)⟩ (Nat.le_of_ble_eq_true rfl) ⟨(Nat.le_of_ble_eq_true rfl), (Nat.le_of_ble_eq_true rfl)⟩ (fun r50 n50 h50 e50 => ?_)
        obtain ⟨rfl, rfl, W50⟩ := e50
        obtain ⟨F50, J50, Q50, R50⟩ := id W50
        refine gi_iret C hr9 (dm_Ma_useArray 27 rfl) ?_
        have r0 : r = 0 := by
          have q := bI_fa c45
          simpa using q
        rw [show useZ Fc 31 z = (wrgZ (popZ (popZ (popZ z))) 2, 2) from by
          show (if topV (popZ (popZ z)) = 0 then _ else _) = _
          rw [if_pos (by rw [er, nI_z (by omega)]; exact r0)]]
        exact ⟨rfl, rfl, W50⟩
    · exact absurd c18 (by decide)
set_option maxHeartbeats 4000000 in
set_option maxRecDepth 100000 in
theorem c_Ma_useField (op x : Nat) (ho : op = 34 ∨ op = 35) (hx : x < 4) (hn : op = 34 → z.cur.n < 14) (hn1 : op = 35 → 1 ≤ z.cur.n) (E : EN a pr bu fa k P sn wd Fc Φ h0) (Hw : MW a pr bu fa gv h0 sx wt Jx z h) : gi_T l V y_Ma_useField b_Ma_useField 3 (some .int) 3 63 0 0 [.ref a, .int (nI op), .int (nI x)] n h (fun v n' h' => v = some (.int 0) ∧ n' = n ∧ MW a pr bu fa gv h0 sx wt Jx (fldZ Fc op x z) h') := by
  refine gi_enter (by decide) (Nat.le_of_ble_eq_true rfl) ?_
  intro _ _ _ _ _ _ _ _ C hr hnm
  obtain ⟨F, J, Q, R⟩ := id Hw
  have t16 := R.1
  have n14 := R.cur.2.2.2.1
  rcases ho with e | e
  · subst e
    refine gi_iload_n (q := 1) (i := 2) C (dm_Ma_useField 0 rfl) rfl rfl rfl ?_
    refine gi_if_lt (q := 4) (tgt := 9) C (dm_Ma_useField 1 rfl) rfl (by decide) (fun c1 => ?_) (fun c1 => ?_)
    · exact absurd c1 (Int32.not_lt.mpr (nI_le (a := 0) (Nat.zero_le _) (by omega)))
    · refine gi_iload_n (q := 5) (i := 2) C (dm_Ma_useField 2 rfl) rfl rfl rfl ?_
      refine gi_iconst (q := 6) (v := 4) C (dm_Ma_useField 3 rfl) rfl (by decide) ?_
      refine gi_icmp_lt (q := 9) (tgt := 11) C (dm_Ma_useField 4 rfl) rfl (by decide) (fun c6 => ?_) (fun c6 => ?_)
      · refine gi_iload_n (q := 12) (i := 1) C (dm_Ma_useField 7 rfl) rfl rfl rfl ?_
        refine gi_bipush (q := 14) (v := 34) C (dm_Ma_useField 8 rfl) rfl (by decide) ?_
        refine gi_icmp_ne (q := 17) (tgt := 30) C (dm_Ma_useField 9 rfl) rfl (by decide) (fun c14 => ?_) (fun c14 => ?_)
        · exact absurd rfl c14
        · refine gi_aload_n (q := 18) (i := 0) C (dm_Ma_useField 10 rfl) rfl rfl rfl ?_
          refine gi_aload_n (q := 19) (i := 0) C (dm_Ma_useField 11 rfl) rfl rfl rfl ?_
          refine gi_get (q := 22) C (dm_Ma_useField 12 rfl) rfl fl_Ma_26 Q.ob rfl ?_
          refine gi_iload_n (q := 23) (i := 2) C (dm_Ma_useField 13 rfl) rfl rfl rfl ?_
          refine gi_iald (q := 24) C (dm_Ma_useField 14 rfl) rfl rfl Q.a7 (inN hx (by decide)) ?_
          rw [nI_clamp (by omega), R.2.2.2.2.2.1 x hx]
          refine gi_callv 1 (q := 27) C (dm_Ma_useField 15 rfl) rfl my_Ma_push lk_Ma_171 im_Ma_push rfl (c_Ma_push _ (hn rfl) Hw) Q.ob rfl rfl ⟨(Nat.le_of_ble_eq_true rfl), (Nat.le_of_ble_eq_true rfl)⟩ (Nat.le_of_ble_eq_true rfl) ⟨(Nat.le_of_ble_eq_true rfl), (Nat.le_of_ble_eq_true rfl)⟩ (fun r24 n24 h24 e24 => ?_)
          obtain ⟨rfl, rfl, W24⟩ := e24
          obtain ⟨F24, J24, Q24, R24⟩ := id W24
          refine gi_goto (tgt := 74) C (dm_Ma_useField 16 rfl) (by decide) ?_
          refine gi_iconst (q := 75) (v := 0) C (dm_Ma_useField 41 rfl) rfl (by decide) ?_
          refine gi_iret C hr (dm_Ma_useField 42 rfl) ?_
          exact ⟨rfl, rfl, W24⟩
      · exact absurd (nI_lt (b := 4) hx (by decide)) c6
  · subst e
    refine gi_iload_n (q := 1) (i := 2) C (dm_Ma_useField 0 rfl) rfl rfl rfl ?_
    refine gi_if_lt (q := 4) (tgt := 9) C (dm_Ma_useField 1 rfl) rfl (by decide) (fun c1 => ?_) (fun c1 => ?_)
    · exact absurd c1 (Int32.not_lt.mpr (nI_le (a := 0) (Nat.zero_le _) (by omega)))
    · refine gi_iload_n (q := 5) (i := 2) C (dm_Ma_useField 2 rfl) rfl rfl rfl ?_
      refine gi_iconst (q := 6) (v := 4) C (dm_Ma_useField 3 rfl) rfl (by decide) ?_
      refine gi_icmp_lt (q := 9) (tgt := 11) C (dm_Ma_useField 4 rfl) rfl (by decide) (fun c6 => ?_) (fun c6 => ?_)
      · refine gi_iload_n (q := 12) (i := 1) C (dm_Ma_useField 7 rfl) rfl rfl rfl ?_
        refine gi_bipush (q := 14) (v := 34) C (dm_Ma_useField 8 rfl) rfl (by decide) ?_
        refine gi_icmp_ne (q := 17) (tgt := 30) C (dm_Ma_useField 9 rfl) rfl (by decide) (fun c14 => ?_) (fun c14 => ?_)
        · refine gi_aload_n (q := 31) (i := 0) C (dm_Ma_useField 17 rfl) rfl rfl rfl ?_
          refine gi_get (q := 34) C (dm_Ma_useField 18 rfl) rfl fl_Ma_26 Q.ob rfl ?_
          refine gi_iload_n (q := 35) (i := 2) C (dm_Ma_useField 19 rfl) rfl rfl rfl ?_
          refine gi_aload_n (q := 36) (i := 0) C (dm_Ma_useField 20 rfl) rfl rfl rfl ?_
          refine gi_callv 0 (q := 39) C (dm_Ma_useField 21 rfl) rfl my_Ma_pop lk_Ma_177 im_Ma_pop rfl (c_Ma_pop (hn1 rfl) Hw) Q.ob rfl rfl ⟨(Nat.le_of_ble_eq_true rfl), (Nat.le_of_ble_eq_true rfl)⟩ (Nat.le_of_ble_eq_true rfl) ⟨(Nat.le_of_ble_eq_true rfl), (Nat.le_of_ble_eq_true rfl)⟩ (fun r36 n36 h36 e36 => ?_)
          obtain ⟨rfl, rfl, W36⟩ := e36
          obtain ⟨F36, J36, Q36, R36⟩ := id W36
          refine gi_iast (q := 40) C (dm_Ma_useField 22 rfl) rfl rfl Q36.a7 (inN hx (by decide)) ?_
          rw [nI_clamp (show x < 2 ^ 31 by omega)]
          have Q2 := Q36.s7 (upd (F36 7) x (topV z))
          refine gi_aload_n (q := 41) (i := 0) C (dm_Ma_useField 23 rfl) rfl rfl rfl ?_
          refine gi_dup (q := 42) C (dm_Ma_useField 24 rfl) rfl rfl ?_
          refine gi_get (q := 45) C (dm_Ma_useField 25 rfl) rfl fl_Ma_85 Q2.ob rfl ?_
          refine gi_aload_n (q := 46) (i := 0) C (dm_Ma_useField 26 rfl) rfl rfl rfl ?_
          refine gi_get (q := 49) C (dm_Ma_useField 27 rfl) rfl fl_Ma_50 Q2.ob rfl ?_
          refine gi_iload_n (q := 50) (i := 2) C (dm_Ma_useField 28 rfl) rfl rfl rfl ?_
          refine gi_callv 1 (q := 53) C (dm_Ma_useField 29 rfl) rfl my_Fa_fieldOf lk_Ma_229 im_Fa_fieldOf rfl (c_Fa_fieldOf (i := x) hx (E.hF Q2.ou)) (E.hF Q2.ou).1 rfl rfl ⟨(Nat.le_of_ble_eq_true rfl), (Nat.le_of_ble_eq_true rfl)⟩ (Nat.le_of_ble_eq_true rfl) ⟨(Nat.le_of_ble_eq_true rfl), (Nat.le_of_ble_eq_true rfl)⟩ (fun r50 n50 h50 e50 => ?_)
          obtain ⟨rfl, q50, u50⟩ := e50
          rw [q50, u50]
          refine gi_aload_n (q := 54) (i := 0) C (dm_Ma_useField 30 rfl) rfl rfl rfl ?_
          refine gi_get (q := 57) C (dm_Ma_useField 31 rfl) rfl fl_Ma_26 Q2.ob rfl ?_
          refine gi_iload_n (q := 58) (i := 2) C (dm_Ma_useField 32 rfl) rfl rfl rfl ?_
          refine gi_iald (q := 59) C (dm_Ma_useField 33 rfl) rfl rfl Q2.a7 (inN hx (by decide)) ?_
          rw [nI_clamp (show x < 2 ^ 31 by omega), upA_i, upd_is, if_pos rfl]
          refine gi_calls 2 (q := 62) C (dm_Ma_useField 34 rfl) rfl my_Ma_tells lk_Ma_202 sm_Ma_tells (c_Ma_tells (530 + x) (topV z) (by omega) (by omega) (E.hF Q2.ou) E.hR E.hS) rfl rfl ⟨(Nat.le_of_ble_eq_true rfl), (Nat.le_of_ble_eq_true rfl)⟩ (Nat.le_of_ble_eq_true rfl) ⟨(Nat.le_of_ble_eq_true rfl), (Nat.le_of_ble_eq_true rfl)⟩ (fun r59 n59 h59 e59 => ?_)
          obtain ⟨rfl, q59, u59⟩ := e59
          rw [q59, u59]
          refine gi_if_ne (q := 65) (tgt := 69) C (dm_Ma_useField 35 rfl) rfl (by decide) (fun c62 => ?_) (fun c62 => ?_)
          · refine gi_iconst (q := 70) (v := 0) C (dm_Ma_useField 38 rfl) rfl (by decide) ?_
            have ea : (!rwT Fc (530 + x) (topV z)) = false := by
              first
                | (rw [bI_t c62]; rfl)
                | (rw [bI_fa c62]; rfl)
            rw [show (0 : Int32) = bI false from rfl]
            refine gi_ior (q := 71) C (dm_Ma_useField 39 rfl) rfl ?_
            rw [bI_or]
            refine gi_put (q := 74) C (dm_Ma_useField 40 rfl) rfl fl_Ma_85 fp_Ma_15 Q2.ob (Nat.le_of_ble_eq_true rfl) (bI_nar _) (nb_f (bI_01 _)) ?_
            have R2 : MR (fdZ (popZ z) x (topV z)) (upA F36 7 (upd (F36 7) x (topV z))) J36 Jx := by
              obtain ⟨g1, g2, g3, g4, g5, g6, g7⟩ := R36
              refine ⟨g1, g2, g3, g4, g5, fun j hj => ?_, g7⟩
              show upA F36 7 (upd (F36 7) x (topV z)) 7 j = upO z.fd x (topV z) j
              rw [upA_i, upd_is]
              unfold upO
              rw [g6 j hj]
              rfl
            have W2 := MW.mk (astZ (fdZ (popZ z) x (topV z)) false) (Q2.pO sx (nI z.top) z.wr wt (bI (z.as || false))) R2
            refine gi_iconst (q := 75) (v := 0) C (dm_Ma_useField 41 rfl) rfl (by decide) ?_
            refine gi_iret C hr (dm_Ma_useField 42 rfl) ?_
            rw [show fldZ Fc 35 x z = astZ (fdZ (popZ z) x (topV z)) (!rwT Fc (530 + x) (topV z)) from rfl, ea]
            exact ⟨rfl, rfl, W2⟩
          · refine gi_iconst (q := 66) (v := 1) C (dm_Ma_useField 36 rfl) rfl (by decide) ?_
            refine gi_goto (tgt := 70) C (dm_Ma_useField 37 rfl) (by decide) ?_
            have ea : (!rwT Fc (530 + x) (topV z)) = true := by
              first
                | (rw [bI_t c62]; rfl)
                | (rw [bI_fa c62]; rfl)
            rw [show (1 : Int32) = bI true from rfl]
            refine gi_ior (q := 71) C (dm_Ma_useField 39 rfl) rfl ?_
            rw [bI_or]
            refine gi_put (q := 74) C (dm_Ma_useField 40 rfl) rfl fl_Ma_85 fp_Ma_15 Q2.ob (Nat.le_of_ble_eq_true rfl) (bI_nar _) (nb_f (bI_01 _)) ?_
            have R2 : MR (fdZ (popZ z) x (topV z)) (upA F36 7 (upd (F36 7) x (topV z))) J36 Jx := by
              obtain ⟨g1, g2, g3, g4, g5, g6, g7⟩ := R36
              refine ⟨g1, g2, g3, g4, g5, fun j hj => ?_, g7⟩
              show upA F36 7 (upd (F36 7) x (topV z)) 7 j = upO z.fd x (topV z) j
              rw [upA_i, upd_is]
              unfold upO
              rw [g6 j hj]
              rfl
            have W2 := MW.mk (astZ (fdZ (popZ z) x (topV z)) true) (Q2.pO sx (nI z.top) z.wr wt (bI (z.as || true))) R2
            refine gi_iconst (q := 75) (v := 0) C (dm_Ma_useField 41 rfl) rfl (by decide) ?_
            refine gi_iret C hr (dm_Ma_useField 42 rfl) ?_
            rw [show fldZ Fc 35 x z = astZ (fdZ (popZ z) x (topV z)) (!rwT Fc (530 + x) (topV z)) from rfl, ea]
            exact ⟨rfl, rfl, W2⟩
        · exact absurd c14 (by decide)
      · exact absurd (nI_lt (b := 4) hx (by decide)) c6
end MA4
