-- needs: 89.34
section MA3
variable {l : Launch} {V : gi_V} {n : Nat} {h h' h0 : gi_H} {a pr bu fa gv k : Nat} {sx wt : Int32} {Jx : Nat → Int64} {z : Mc} {P : Pm} {sn : Nat → Nat} {wd : Nat → Bool} {Fc : Fa} {Φ : Nat → mR}
/-- the rows of one span -/
def rowS (F : Fa) : Prop := ∀ t, 480 ≤ t → t < 534 → (F t).told = true → 1 ≤ (F t).n ∧ ∃ x, ((F t).f 0).1 = .inl x ∧ okS x
/-- what lies about a machine -/
def EN (a pr bu fa k : Nat) (P : Pm) (sn : Nat → Nat) (wd : Nat → Bool) (Fc : Fa) (Φ : Nat → mR) (h0 : gi_H) : Prop := wfP k P ∧ pr_at pr (nI k) P h0 ∧ buW bu pr k P sn wd h0 ∧ fa_at fa Φ h0 ∧ FaR Fc Φ ∧ rowS Fc ∧ pr + 8 ≤ a ∧ bu + 8 ≤ a ∧ fa + 8414 ≤ a
theorem EN.hP (E : EN a pr bu fa k P sn wd Fc Φ h0) (ho : outMa a h0 h) : pr_at pr (nI k) P h := E.2.1.keep2 (fun b b1 b2 => ho b (by have := E.2.2.2.2.2.2.1; omega))
theorem EN.hB (E : EN a pr bu fa k P sn wd Fc Φ h0) (ho : outMa a h0 h) : buW bu pr k P sn wd h := E.2.2.1.keep (fun b b1 b2 => ho b (by have := E.2.2.2.2.2.2.2.1; omega))
theorem EN.hF (E : EN a pr bu fa k P sn wd Fc Φ h0) (ho : outMa a h0 h) : fa_at fa Φ h := E.2.2.2.1.keep (fun b b1 b2 => ho b (by have := E.2.2.2.2.2.2.2.2; omega))
theorem EN.hR (E : EN a pr bu fa k P sn wd Fc Φ h0) : FaR Fc Φ := E.2.2.2.2.1
theorem EN.hS (E : EN a pr bu fa k P sn wd Fc Φ h0) : rowS Fc := E.2.2.2.2.2.1
theorem EN.hW (E : EN a pr bu fa k P sn wd Fc Φ h0) : wfP k P := E.1
theorem MW.mk {F : Nat → Nat → Int32} {J : Nat → Int64} (y : Mc) (Q : MO a pr bu fa gv h0 sx (nI y.top) y.wr wt (bI y.as) F J y.hp h) (R : MR y F J Jx) : MW a pr bu fa gv h0 sx wt Jx y h := ⟨F, J, Q, R⟩
set_option maxHeartbeats 4000000 in
set_option maxRecDepth 100000 in
theorem c_Ma_tells (t : Nat) (v : Int32) (h1 : 480 ≤ t) (h2 : t < 534) (HC : fa_at fa Φ h) (R : FaR Fc Φ) (rS : rowS Fc) : gi_T l V y_Ma_tells b_Ma_tells 2 (some .boolean) 2 42 0 0 [.ref (fa_row fa t), .int v] n h (gi_is (some (.int (bI (rwT Fc t v)))) n h) := by
  refine gi_enter (by decide) (Nat.le_of_ble_eq_true rfl) ?_
  intro _ _ _ _ _ _ _ _ C hr hnm
  have RO := HC.2.2.2.2.2.2 t (by omega)
  have RR := R t (by omega)
  have rc : fa_cap t = 1 := cap_hi (by omega)
  rw [rc] at RO RR
  have v1 := v.le_toInt
  have v2 := v.toInt_lt
  refine gi_aload_n (q := 1) (i := 0) C (dm_Ma_tells 0 rfl) rfl rfl rfl ?_
  refine gi_get (q := 4) C (dm_Ma_tells 1 rfl) rfl fl_Ma_232 RO.1 rfl ?_
  refine gi_if_eq (q := 7) (tgt := 24) C (dm_Ma_tells 2 rfl) rfl (by decide) (fun c4 => ?_) (fun c4 => ?_)
  · refine gi_iconst (q := 25) (v := 0) C (dm_Ma_tells 12 rfl) rfl (by decide) ?_
    refine gi_zret C hr (dm_Ma_tells 13 rfl) rfl ?_
    refine ⟨?_, rfl, rfl⟩
    first
      | (rw [er, bI_t c17]; rfl)
      | (rw [er, bI_fa c17]; rfl)
      | (rw [show rwT Fc t v = false from by
          unfold rwT
          rw [bI_fa (b := (Fc t).told) (by rw [← RR.1]; exact c4), Bool.false_and]]
         rfl)
  · have tl : (Fc t).told = true := bI_t (b := (Fc t).told) (by rw [← RR.1]; exact c4)
    have RG := (RR.2.2 tl).1
    obtain ⟨n1, x0, e1, ox⟩ := rS t h1 h2 tl
    have e0 := (RG.2 0 (by omega)).1
    rw [e1] at e0
    have rv : h ((Φ t).1 0) = some (eV (sV x0)) := by
      have r3 := (RO.2.2.2.1 0 (by omega)).2.2
      rw [e0] at r3
      exact r3
    have er : rwT Fc t v = hasS x0 v.toInt := by
      unfold rwT
      rw [tl, e1]
      rfl
    refine gi_aload_n (q := 8) (i := 0) C (dm_Ma_tells 3 rfl) rfl rfl rfl ?_
    refine gi_iconst (q := 9) (v := 0) C (dm_Ma_tells 4 rfl) rfl (by decide) ?_
    refine gi_callv 1 (q := 12) C (dm_Ma_tells 5 rfl) rfl my_Ro_valueAt lk_Ma_237 im_Ro_valueAt rfl (c_Ro_valueAt (j := 0) (by omega) (by omega) RO) RO.1 rfl rfl ⟨(Nat.le_of_ble_eq_true rfl), (Nat.le_of_ble_eq_true rfl)⟩ (Nat.le_of_ble_eq_true rfl) ⟨(Nat.le_of_ble_eq_true rfl), (Nat.le_of_ble_eq_true rfl)⟩ (fun r9 n9 h9 e9 => ?_)
    obtain ⟨rfl, q9, u9⟩ := e9
    rw [q9, u9]
    refine gi_iload_n (q := 13) (i := 1) C (dm_Ma_tells 6 rfl) rfl rfl rfl ?_
    refine gi_i2l (q := 14) C (dm_Ma_tells 7 rfl) rfl ?_
    rw [i2l_eL]
    refine gi_callv 1 (q := 17) C (dm_Ma_tells 8 rfl) rfl my_Va_has lk_Ma_241 im_Va_has rfl (c_Va_has _ x0 v.toInt ox (by omega) (by omega) rv) rv rfl rfl ⟨(Nat.le_of_ble_eq_true rfl), (Nat.le_of_ble_eq_true rfl)⟩ (Nat.le_of_ble_eq_true rfl) ⟨(Nat.le_of_ble_eq_true rfl), (Nat.le_of_ble_eq_true rfl)⟩ (fun r14 n14 h14 e14 => ?_)
    obtain ⟨rfl, q14, u14⟩ := e14
    rw [q14, u14]
    refine gi_if_eq (q := 20) (tgt := 24) C (dm_Ma_tells 9 rfl) rfl (by decide) (fun c17 => ?_) (fun c17 => ?_)
    · refine gi_iconst (q := 25) (v := 0) C (dm_Ma_tells 12 rfl) rfl (by decide) ?_
      refine gi_zret C hr (dm_Ma_tells 13 rfl) rfl ?_
      refine ⟨?_, rfl, rfl⟩
      first
        | (rw [er, bI_t c17]; rfl)
        | (rw [er, bI_fa c17]; rfl)
        | (rw [show rwT Fc t v = false from by
            unfold rwT
            rw [bI_fa (b := (Fc t).told) (by rw [← RR.1]; exact c4), Bool.false_and]]
           rfl)
    · refine gi_iconst (q := 21) (v := 1) C (dm_Ma_tells 10 rfl) rfl (by decide) ?_
      refine gi_goto (tgt := 25) C (dm_Ma_tells 11 rfl) (by decide) ?_
      refine gi_zret C hr (dm_Ma_tells 13 rfl) rfl ?_
      refine ⟨?_, rfl, rfl⟩
      first
        | (rw [er, bI_t c17]; rfl)
        | (rw [er, bI_fa c17]; rfl)
        | (rw [show rwT Fc t v = false from by
            unfold rwT
            rw [bI_fa (b := (Fc t).told) (by rw [← RR.1]; exact c4), Bool.false_and]]
           rfl)
theorem nI_nm {x : Nat} (h : x < 2 ^ 31) : ¬ nI x = -1 := fun e => by
  have := congrArg Int32.toInt e
  rw [show (nI x).toInt = x from Int32.toInt_ofNat_of_lt h] at this
  have : (x : Int) = -1 := this
  omega
set_option maxHeartbeats 4000000 in
set_option maxRecDepth 100000 in
theorem c_Ma_makeArray {i : Nat} (hm : z.cur.m < k) (hi : i < pN P 5 z.cur.m) (h28 : pN P 6 (60 * z.cur.m + i) = 28) (hs : sn (60 * z.cur.m + i) < 25) (hn : 1 ≤ z.cur.n) (E : EN a pr bu fa k P sn wd Fc Φ h0) (Hw : MW a pr bu fa gv h0 sx wt Jx z h) : gi_T l V y_Ma_makeArray b_Ma_makeArray 5 (some .int) 3 68 0 0 [.ref a, .int (nI i)] n h (fun v n' h' => v = some (.int (makZ Fc (sn (60 * z.cur.m + i)) z).2) ∧ n' = n ∧ MW a pr bu fa gv h0 sx wt Jx (makZ Fc (sn (60 * z.cur.m + i)) z).1 h') := by
  refine gi_enter (by decide) (Nat.le_of_ble_eq_true rfl) ?_
  intro _ _ _ _ _ _ _ _ C hr hnm
  obtain ⟨F, J, Q, R⟩ := id Hw
  have t16 := R.1
  have n14 := R.cur.2.2.2.1
  obtain ⟨s, es⟩ : ∃ s, s = sn (60 * z.cur.m + i) := ⟨_, rfl⟩
  rw [← es] at hs ⊢
  refine gi_aload_n (q := 1) (i := 0) C (dm_Ma_makeArray 0 rfl) rfl rfl rfl ?_
  refine gi_callv 0 (q := 4) C (dm_Ma_makeArray 1 rfl) rfl my_Ma_pop lk_Ma_177 im_Ma_pop rfl (c_Ma_pop hn Hw) Q.ob rfl rfl ⟨(Nat.le_of_ble_eq_true rfl), (Nat.le_of_ble_eq_true rfl)⟩ (Nat.le_of_ble_eq_true rfl) ⟨(Nat.le_of_ble_eq_true rfl), (Nat.le_of_ble_eq_true rfl)⟩ (fun r1 n1 h1 e1 => ?_)
  obtain ⟨rfl, rfl, W1⟩ := e1
  obtain ⟨F1, J1, Q1, R1⟩ := id W1
  refine gi_istore_n (q := 5) (i := 2) C (dm_Ma_makeArray 2 rfl) rfl rfl (Nat.le_of_ble_eq_true rfl) ?_
  refine gi_iload_n (q := 6) (i := 2) C (dm_Ma_makeArray 3 rfl) rfl rfl rfl ?_
  refine gi_if_ge (q := 9) (tgt := 15) C (dm_Ma_makeArray 4 rfl) rfl (by decide) (fun c6 => ?_) (fun c6 => ?_)
  · have c6' : ¬ topV z < 0 := Int32.not_lt.mpr c6
    refine gi_aload_n (q := 16) (i := 0) C (dm_Ma_makeArray 9 rfl) rfl rfl rfl ?_
    refine gi_get (q := 19) C (dm_Ma_makeArray 10 rfl) rfl fl_Ma_46 Q1.ob rfl ?_
    refine gi_aload_n (q := 20) (i := 0) C (dm_Ma_makeArray 11 rfl) rfl rfl rfl ?_
    refine gi_get (q := 23) C (dm_Ma_makeArray 12 rfl) rfl fl_Ma_36 Q1.ob rfl ?_
    refine gi_aload_n (q := 24) (i := 0) C (dm_Ma_makeArray 13 rfl) rfl rfl rfl ?_
    refine gi_get (q := 27) C (dm_Ma_makeArray 14 rfl) rfl fl_Ma_72 Q1.ob rfl ?_
    refine gi_iald (q := 28) C (dm_Ma_makeArray 15 rfl) rfl rfl Q1.a10 (in16 (show (popZ z).top < 16 from t16)) ?_
    rw [nI_clamp (show (popZ z).top < 2 ^ 31 from by show z.top < 2 ^ 31; omega), show F1 10 (popZ z).top = nI z.cur.m from by rw [R1.cur.1, cur_pop]]
    refine gi_iload_n (q := 29) (i := 1) C (dm_Ma_makeArray 16 rfl) rfl rfl rfl ?_
    refine gi_callv 2 (q := 32) C (dm_Ma_makeArray 17 rfl) rfl my_Bu_siteAt lk_Ma_191 im_Bu_siteAt rfl (c_Bu_siteAt E.hW hm hi (E.hP Q1.ou) (E.hB Q1.ou) h28) (E.hB Q1.ou).choose_spec.choose_spec.1.1 rfl rfl ⟨(Nat.le_of_ble_eq_true rfl), (Nat.le_of_ble_eq_true rfl)⟩ (Nat.le_of_ble_eq_true rfl) ⟨(Nat.le_of_ble_eq_true rfl), (Nat.le_of_ble_eq_true rfl)⟩ (fun r29 n29 h29 e29 => ?_)
    obtain ⟨rfl, q29, u29⟩ := e29
    rw [q29, u29]
    rw [← es]
    refine gi_istore_n (q := 33) (i := 3) C (dm_Ma_makeArray 18 rfl) rfl rfl (Nat.le_of_ble_eq_true rfl) ?_
    refine gi_aload_n (q := 34) (i := 0) C (dm_Ma_makeArray 19 rfl) rfl rfl rfl ?_
    refine gi_get (q := 37) C (dm_Ma_makeArray 20 rfl) rfl fl_Ma_18 Q1.ob rfl ?_
    refine gi_iload_n (q := 38) (i := 2) C (dm_Ma_makeArray 21 rfl) rfl rfl rfl ?_
    refine gi_iload_n (q := 39) (i := 3) C (dm_Ma_makeArray 22 rfl) rfl rfl rfl ?_
    refine gi_callv 2 (q := 42) C (dm_Ma_makeArray 23 rfl) rfl my_He_add lk_Ma_121 im_He_add rfl (c_He_add (topV z) s hs Q1.he) (Q1.he).choose_spec.choose_spec.1.1 rfl rfl ⟨(Nat.le_of_ble_eq_true rfl), (Nat.le_of_ble_eq_true rfl)⟩ (Nat.le_of_ble_eq_true rfl) ⟨(Nat.le_of_ble_eq_true rfl), (Nat.le_of_ble_eq_true rfl)⟩ (fun r39 n39 h39 e39 => ?_)
    obtain ⟨rfl, e39⟩ := e39
    obtain ⟨a1, a2, -⟩ : hpO z.hp := (Q1.he).choose_spec.choose_spec.2.1
    have tz0 : 0 ≤ (topV z).toInt := Int32.le_iff_toInt_le.mp (Int32.not_lt.mp c6')
    have tn := (nn_nI (a := topV z) tz0).2
    rcases e39 with ⟨b1, rfl, rfl⟩ | ⟨b1, b2, b3, rfl, b4, b5⟩
    · have b1 : ¬ (z.hp.c < 300 ∧ 0 ≤ (topV z).toInt ∧ (topV z).toInt ≤ 2000 - z.hp.u) := b1
      refine gi_istore (q := 44) C (dm_Ma_makeArray 24 rfl) rfl (Nat.le_of_ble_eq_true rfl) ?_
      refine gi_iload (q := 46) C (dm_Ma_makeArray 25 rfl) rfl rfl ?_
      refine gi_iconst (q := 47) (v := -1) C (dm_Ma_makeArray 26 rfl) rfl (by decide) ?_
      refine gi_icmp_ne (q := 50) (tgt := 57) C (dm_Ma_makeArray 27 rfl) rfl (by decide) (fun c47 => ?_) (fun c47 => ?_)
      · exact absurd rfl c47
      · refine gi_aload_n (q := 51) (i := 0) C (dm_Ma_makeArray 28 rfl) rfl rfl rfl ?_
        refine gi_bipush (q := 53) (v := 6) C (dm_Ma_makeArray 29 rfl) rfl (by decide) ?_
        refine gi_callv 1 (q := 56) C (dm_Ma_makeArray 30 rfl) rfl my_Ma_goWrong lk_Ma_180 im_Ma_goWrong rfl (c_Ma_goWrong 6 W1) Q1.ob rfl rfl ⟨(Nat.le_of_ble_eq_true rfl), (Nat.le_of_ble_eq_true rfl)⟩ (Nat.le_of_ble_eq_true rfl) ⟨(Nat.le_of_ble_eq_true rfl), (Nat.le_of_ble_eq_true rfl)⟩ (fun r53 n53 h53 e53 => ?_)
        obtain ⟨rfl, rfl, W53⟩ := e53
        obtain ⟨F53, J53, Q53, R53⟩ := id W53
        refine gi_iret C hr (dm_Ma_makeArray 31 rfl) ?_
        rw [show makZ Fc s z = (wrgZ (popZ z) 6, 2) from by
          unfold makZ
          rw [if_neg c6', if_pos (by omega)]]
        exact ⟨rfl, rfl, W53⟩
    · have b1 : z.hp.c < 300 := b1
      have b3 : (topV z).toInt ≤ 2000 - z.hp.u := b3
      have Q2 := Q1.sH b4 b5
      refine gi_istore (q := 44) C (dm_Ma_makeArray 24 rfl) rfl (Nat.le_of_ble_eq_true rfl) ?_
      refine gi_iload (q := 46) C (dm_Ma_makeArray 25 rfl) rfl rfl ?_
      refine gi_iconst (q := 47) (v := -1) C (dm_Ma_makeArray 26 rfl) rfl (by decide) ?_
      refine gi_icmp_ne (q := 50) (tgt := 57) C (dm_Ma_makeArray 27 rfl) rfl (by decide) (fun c47 => ?_) (fun c47 => ?_)
      · refine gi_aload_n (q := 58) (i := 0) C (dm_Ma_makeArray 32 rfl) rfl rfl rfl ?_
        refine gi_dup (q := 59) C (dm_Ma_makeArray 33 rfl) rfl rfl ?_
        refine gi_get (q := 62) C (dm_Ma_makeArray 34 rfl) rfl fl_Ma_85 Q2.ob rfl ?_
        refine gi_aload_n (q := 63) (i := 0) C (dm_Ma_makeArray 35 rfl) rfl rfl rfl ?_
        refine gi_get (q := 66) C (dm_Ma_makeArray 36 rfl) rfl fl_Ma_50 Q2.ob rfl ?_
        refine gi_iload_n (q := 67) (i := 3) C (dm_Ma_makeArray 37 rfl) rfl rfl rfl ?_
        refine gi_callv 1 (q := 70) C (dm_Ma_makeArray 38 rfl) rfl my_Fa_lengthOf lk_Ma_196 im_Fa_lengthOf rfl (c_Fa_lengthOf hs (E.hF Q2.ou)) (E.hF Q2.ou).1 rfl rfl ⟨(Nat.le_of_ble_eq_true rfl), (Nat.le_of_ble_eq_true rfl)⟩ (Nat.le_of_ble_eq_true rfl) ⟨(Nat.le_of_ble_eq_true rfl), (Nat.le_of_ble_eq_true rfl)⟩ (fun r67 n67 h67 e67 => ?_)
        obtain ⟨rfl, q67, u67⟩ := e67
        rw [q67, u67]
        refine gi_iload_n (q := 71) (i := 2) C (dm_Ma_makeArray 39 rfl) rfl rfl rfl ?_
        refine gi_calls 2 (q := 74) C (dm_Ma_makeArray 40 rfl) rfl my_Ma_tells lk_Ma_202 sm_Ma_tells (c_Ma_tells (480 + s) (topV z) (by omega) (by omega) (E.hF Q2.ou) E.hR E.hS) rfl rfl ⟨(Nat.le_of_ble_eq_true rfl), (Nat.le_of_ble_eq_true rfl)⟩ (Nat.le_of_ble_eq_true rfl) ⟨(Nat.le_of_ble_eq_true rfl), (Nat.le_of_ble_eq_true rfl)⟩ (fun r71 n71 h71 e71 => ?_)
        obtain ⟨rfl, q71, u71⟩ := e71
        rw [q71, u71]
        refine gi_if_eq (q := 77) (tgt := 96) C (dm_Ma_makeArray 41 rfl) rfl (by decide) (fun c74 => ?_) (fun c74 => ?_)
        · refine gi_iconst (q := 97) (v := 1) C (dm_Ma_makeArray 51 rfl) rfl (by decide) ?_
          skip
          refine gi_goto (tgt := 101) C (dm_Ma_makeArray 52 rfl) (by decide) ?_
          have ea : (!rwT Fc (480 + s) (topV z) || (decide (0 < topV z) && !rwT Fc (505 + s) 0)) = true := by
            first
              | (rw [bI_fa c74]; rfl)
              | (rw [bI_t c74, decide_eq_false (Int32.not_lt.mpr c78)]; rfl)
              | (rw [bI_t c74, decide_eq_true (Int32.not_le.mp c78), bI_t c93]; rfl)
              | (rw [bI_t c74, decide_eq_true (Int32.not_le.mp c78), bI_fa c93]; rfl)
          rw [show (1 : Int32) = bI true from rfl]
          refine gi_ior (q := 102) C (dm_Ma_makeArray 54 rfl) rfl ?_
          rw [bI_or]
          refine gi_put (q := 105) C (dm_Ma_makeArray 55 rfl) rfl fl_Ma_85 fp_Ma_15 Q2.ob (Nat.le_of_ble_eq_true rfl) (bI_nar _) (nb_f (bI_01 _)) ?_
          have W2 := MW.mk (astZ (hpZ (popZ z) (hAdd z.hp (topV z).toNatClampNeg s)) true) (Q2.pO sx (nI z.top) z.wr wt (bI (z.as || true))) R1
          obtain ⟨F3, J3, Q3, R3⟩ := id W2
          refine gi_aload_n (q := 106) (i := 0) C (dm_Ma_makeArray 56 rfl) rfl rfl rfl ?_
          refine gi_iload (q := 108) C (dm_Ma_makeArray 57 rfl) rfl rfl ?_
          refine gi_callv 1 (q := 111) C (dm_Ma_makeArray 58 rfl) rfl my_Ma_push lk_Ma_171 im_Ma_push rfl (c_Ma_push _ (by show (popZ z).cur.n < 14; rw [cur_pop]; show z.cur.n - 1 < 14; omega) W2) Q3.ob rfl rfl ⟨(Nat.le_of_ble_eq_true rfl), (Nat.le_of_ble_eq_true rfl)⟩ (Nat.le_of_ble_eq_true rfl) ⟨(Nat.le_of_ble_eq_true rfl), (Nat.le_of_ble_eq_true rfl)⟩ (fun r108 n108 h108 e108 => ?_)
          obtain ⟨rfl, rfl, W108⟩ := e108
          obtain ⟨F108, J108, Q108, R108⟩ := id W108
          refine gi_iconst (q := 112) (v := 0) C (dm_Ma_makeArray 59 rfl) rfl (by decide) ?_
          refine gi_iret C hr (dm_Ma_makeArray 60 rfl) ?_
          rw [show makZ Fc s z = (pshZ (astZ (hpZ (popZ z) (hAdd z.hp (topV z).toNatClampNeg s)) (!rwT Fc (480 + s) (topV z) || (decide (0 < topV z) && !rwT Fc (505 + s) 0))) (nI (z.hp.c + 1)), 0) from by
            unfold makZ
            rw [if_neg c6', if_neg (by omega)], ea]
          exact ⟨rfl, rfl, W108⟩
        · refine gi_iload_n (q := 78) (i := 2) C (dm_Ma_makeArray 42 rfl) rfl rfl rfl ?_
          refine gi_if_le (q := 81) (tgt := 100) C (dm_Ma_makeArray 43 rfl) rfl (by decide) (fun c78 => ?_) (fun c78 => ?_)
          · refine gi_iconst (q := 101) (v := 0) C (dm_Ma_makeArray 53 rfl) rfl (by decide) ?_
            have ea : (!rwT Fc (480 + s) (topV z) || (decide (0 < topV z) && !rwT Fc (505 + s) 0)) = false := by
              first
                | (rw [bI_fa c74]; rfl)
                | (rw [bI_t c74, decide_eq_false (Int32.not_lt.mpr c78)]; rfl)
                | (rw [bI_t c74, decide_eq_true (Int32.not_le.mp c78), bI_t c93]; rfl)
                | (rw [bI_t c74, decide_eq_true (Int32.not_le.mp c78), bI_fa c93]; rfl)
            rw [show (0 : Int32) = bI false from rfl]
            refine gi_ior (q := 102) C (dm_Ma_makeArray 54 rfl) rfl ?_
            rw [bI_or]
            refine gi_put (q := 105) C (dm_Ma_makeArray 55 rfl) rfl fl_Ma_85 fp_Ma_15 Q2.ob (Nat.le_of_ble_eq_true rfl) (bI_nar _) (nb_f (bI_01 _)) ?_
            have W2 := MW.mk (astZ (hpZ (popZ z) (hAdd z.hp (topV z).toNatClampNeg s)) false) (Q2.pO sx (nI z.top) z.wr wt (bI (z.as || false))) R1
            obtain ⟨F3, J3, Q3, R3⟩ := id W2
            refine gi_aload_n (q := 106) (i := 0) C (dm_Ma_makeArray 56 rfl) rfl rfl rfl ?_
            refine gi_iload (q := 108) C (dm_Ma_makeArray 57 rfl) rfl rfl ?_
            refine gi_callv 1 (q := 111) C (dm_Ma_makeArray 58 rfl) rfl my_Ma_push lk_Ma_171 im_Ma_push rfl (c_Ma_push _ (by show (popZ z).cur.n < 14; rw [cur_pop]; show z.cur.n - 1 < 14; omega) W2) Q3.ob rfl rfl ⟨(Nat.le_of_ble_eq_true rfl), (Nat.le_of_ble_eq_true rfl)⟩ (Nat.le_of_ble_eq_true rfl) ⟨(Nat.le_of_ble_eq_true rfl), (Nat.le_of_ble_eq_true rfl)⟩ (fun r108 n108 h108 e108 => ?_)
            obtain ⟨rfl, rfl, W108⟩ := e108
            obtain ⟨F108, J108, Q108, R108⟩ := id W108
            refine gi_iconst (q := 112) (v := 0) C (dm_Ma_makeArray 59 rfl) rfl (by decide) ?_
            refine gi_iret C hr (dm_Ma_makeArray 60 rfl) ?_
            rw [show makZ Fc s z = (pshZ (astZ (hpZ (popZ z) (hAdd z.hp (topV z).toNatClampNeg s)) (!rwT Fc (480 + s) (topV z) || (decide (0 < topV z) && !rwT Fc (505 + s) 0))) (nI (z.hp.c + 1)), 0) from by
              unfold makZ
              rw [if_neg c6', if_neg (by omega)], ea]
            exact ⟨rfl, rfl, W108⟩
          · refine gi_aload_n (q := 82) (i := 0) C (dm_Ma_makeArray 44 rfl) rfl rfl rfl ?_
            refine gi_get (q := 85) C (dm_Ma_makeArray 45 rfl) rfl fl_Ma_50 Q2.ob rfl ?_
            refine gi_iload_n (q := 86) (i := 3) C (dm_Ma_makeArray 46 rfl) rfl rfl rfl ?_
            refine gi_callv 1 (q := 89) C (dm_Ma_makeArray 47 rfl) rfl my_Fa_elementOf lk_Ma_206 im_Fa_elementOf rfl (c_Fa_elementOf hs (E.hF Q2.ou)) (E.hF Q2.ou).1 rfl rfl ⟨(Nat.le_of_ble_eq_true rfl), (Nat.le_of_ble_eq_true rfl)⟩ (Nat.le_of_ble_eq_true rfl) ⟨(Nat.le_of_ble_eq_true rfl), (Nat.le_of_ble_eq_true rfl)⟩ (fun r86 n86 h86 e86 => ?_)
            obtain ⟨rfl, q86, u86⟩ := e86
            rw [q86, u86]
            refine gi_iconst (q := 90) (v := 0) C (dm_Ma_makeArray 48 rfl) rfl (by decide) ?_
            refine gi_calls 2 (q := 93) C (dm_Ma_makeArray 49 rfl) rfl my_Ma_tells lk_Ma_202 sm_Ma_tells (c_Ma_tells (505 + s) 0 (by omega) (by omega) (E.hF Q2.ou) E.hR E.hS) rfl rfl ⟨(Nat.le_of_ble_eq_true rfl), (Nat.le_of_ble_eq_true rfl)⟩ (Nat.le_of_ble_eq_true rfl) ⟨(Nat.le_of_ble_eq_true rfl), (Nat.le_of_ble_eq_true rfl)⟩ (fun r90 n90 h90 e90 => ?_)
            obtain ⟨rfl, q90, u90⟩ := e90
            rw [q90, u90]
            refine gi_if_ne (q := 96) (tgt := 100) C (dm_Ma_makeArray 50 rfl) rfl (by decide) (fun c93 => ?_) (fun c93 => ?_)
            · refine gi_iconst (q := 101) (v := 0) C (dm_Ma_makeArray 53 rfl) rfl (by decide) ?_
              have ea : (!rwT Fc (480 + s) (topV z) || (decide (0 < topV z) && !rwT Fc (505 + s) 0)) = false := by
                first
                  | (rw [bI_fa c74]; rfl)
                  | (rw [bI_t c74, decide_eq_false (Int32.not_lt.mpr c78)]; rfl)
                  | (rw [bI_t c74, decide_eq_true (Int32.not_le.mp c78), bI_t c93]; rfl)
                  | (rw [bI_t c74, decide_eq_true (Int32.not_le.mp c78), bI_fa c93]; rfl)
              rw [show (0 : Int32) = bI false from rfl]
              refine gi_ior (q := 102) C (dm_Ma_makeArray 54 rfl) rfl ?_
              rw [bI_or]
              refine gi_put (q := 105) C (dm_Ma_makeArray 55 rfl) rfl fl_Ma_85 fp_Ma_15 Q2.ob (Nat.le_of_ble_eq_true rfl) (bI_nar _) (nb_f (bI_01 _)) ?_
              have W2 := MW.mk (astZ (hpZ (popZ z) (hAdd z.hp (topV z).toNatClampNeg s)) false) (Q2.pO sx (nI z.top) z.wr wt (bI (z.as || false))) R1
              obtain ⟨F3, J3, Q3, R3⟩ := id W2
              refine gi_aload_n (q := 106) (i := 0) C (dm_Ma_makeArray 56 rfl) rfl rfl rfl ?_
              refine gi_iload (q := 108) C (dm_Ma_makeArray 57 rfl) rfl rfl ?_
              refine gi_callv 1 (q := 111) C (dm_Ma_makeArray 58 rfl) rfl my_Ma_push lk_Ma_171 im_Ma_push rfl (c_Ma_push _ (by show (popZ z).cur.n < 14; rw [cur_pop]; show z.cur.n - 1 < 14; omega) W2) Q3.ob rfl rfl ⟨(Nat.le_of_ble_eq_true rfl), (Nat.le_of_ble_eq_true rfl)⟩ (Nat.le_of_ble_eq_true rfl) ⟨(Nat.le_of_ble_eq_true rfl), (Nat.le_of_ble_eq_true rfl)⟩ (fun r108 n108 h108 e108 => ?_)
              obtain ⟨rfl, rfl, W108⟩ := e108
              obtain ⟨F108, J108, Q108, R108⟩ := id W108
              refine gi_iconst (q := 112) (v := 0) C (dm_Ma_makeArray 59 rfl) rfl (by decide) ?_
              refine gi_iret C hr (dm_Ma_makeArray 60 rfl) ?_
              rw [show makZ Fc s z = (pshZ (astZ (hpZ (popZ z) (hAdd z.hp (topV z).toNatClampNeg s)) (!rwT Fc (480 + s) (topV z) || (decide (0 < topV z) && !rwT Fc (505 + s) 0))) (nI (z.hp.c + 1)), 0) from by
                unfold makZ
                rw [if_neg c6', if_neg (by omega)], ea]
              exact ⟨rfl, rfl, W108⟩
            · refine gi_iconst (q := 97) (v := 1) C (dm_Ma_makeArray 51 rfl) rfl (by decide) ?_
              skip
              refine gi_goto (tgt := 101) C (dm_Ma_makeArray 52 rfl) (by decide) ?_
              have ea : (!rwT Fc (480 + s) (topV z) || (decide (0 < topV z) && !rwT Fc (505 + s) 0)) = true := by
                first
                  | (rw [bI_fa c74]; rfl)
                  | (rw [bI_t c74, decide_eq_false (Int32.not_lt.mpr c78)]; rfl)
                  | (rw [bI_t c74, decide_eq_true (Int32.not_le.mp c78), bI_t c93]; rfl)
                  | (rw [bI_t c74, decide_eq_true (Int32.not_le.mp c78), bI_fa c93]; rfl)
              rw [show (1 : Int32) = bI true from rfl]
              refine gi_ior (q := 102) C (dm_Ma_makeArray 54 rfl) rfl ?_
              rw [bI_or]
              refine gi_put (q := 105) C (dm_Ma_makeArray 55 rfl) rfl fl_Ma_85 fp_Ma_15 Q2.ob (Nat.le_of_ble_eq_true rfl) (bI_nar _) (nb_f (bI_01 _)) ?_
              have W2 := MW.mk (astZ (hpZ (popZ z) (hAdd z.hp (topV z).toNatClampNeg s)) true) (Q2.pO sx (nI z.top) z.wr wt (bI (z.as || true))) R1
              obtain ⟨F3, J3, Q3, R3⟩ := id W2
              refine gi_aload_n (q := 106) (i := 0) C (dm_Ma_makeArray 56 rfl) rfl rfl rfl ?_
              refine gi_iload (q := 108) C (dm_Ma_makeArray 57 rfl) rfl rfl ?_
              refine gi_callv 1 (q := 111) C (dm_Ma_makeArray 58 rfl) rfl my_Ma_push lk_Ma_171 im_Ma_push rfl (c_Ma_push _ (by show (popZ z).cur.n < 14; rw [cur_pop]; show z.cur.n - 1 < 14; omega) W2) Q3.ob rfl rfl ⟨(Nat.le_of_ble_eq_true rfl), (Nat.le_of_ble_eq_true rfl)⟩ (Nat.le_of_ble_eq_true rfl) ⟨(Nat.le_of_ble_eq_true rfl), (Nat.le_of_ble_eq_true rfl)⟩ (fun r108 n108 h108 e108 => ?_)
              obtain ⟨rfl, rfl, W108⟩ := e108
              obtain ⟨F108, J108, Q108, R108⟩ := id W108
              refine gi_iconst (q := 112) (v := 0) C (dm_Ma_makeArray 59 rfl) rfl (by decide) ?_
              refine gi_iret C hr (dm_Ma_makeArray 60 rfl) ?_
              rw [show makZ Fc s z = (pshZ (astZ (hpZ (popZ z) (hAdd z.hp (topV z).toNatClampNeg s)) (!rwT Fc (480 + s) (topV z) || (decide (0 < topV z) && !rwT Fc (505 + s) 0))) (nI (z.hp.c + 1)), 0) from by
                unfold makZ
                rw [if_neg c6', if_neg (by omega)], ea]
              exact ⟨rfl, rfl, W108⟩
      · exact absurd c47 (nI_nm (show z.hp.c + 1 < 2 ^ 31 by have : z.hp.c < 300 := b1; omega))
  · refine gi_aload_n (q := 10) (i := 0) C (dm_Ma_makeArray 5 rfl) rfl rfl rfl ?_
    refine gi_iconst (q := 11) (v := 4) C (dm_Ma_makeArray 6 rfl) rfl (by decide) ?_
    refine gi_callv 1 (q := 14) C (dm_Ma_makeArray 7 rfl) rfl my_Ma_goWrong lk_Ma_180 im_Ma_goWrong rfl (c_Ma_goWrong 4 W1) Q1.ob rfl rfl ⟨(Nat.le_of_ble_eq_true rfl), (Nat.le_of_ble_eq_true rfl)⟩ (Nat.le_of_ble_eq_true rfl) ⟨(Nat.le_of_ble_eq_true rfl), (Nat.le_of_ble_eq_true rfl)⟩ (fun r11 n11 h11 e11 => ?_)
    obtain ⟨rfl, rfl, W11⟩ := e11
    obtain ⟨F11, J11, Q11, R11⟩ := id W11
    refine gi_iret C hr (dm_Ma_makeArray 8 rfl) ?_
    rw [show makZ Fc s z = (wrgZ (popZ z) 4, 2) from by
      unfold makZ
      rw [if_pos (Int32.not_le.mp c6)]]
    exact ⟨rfl, rfl, W11⟩
end MA3
