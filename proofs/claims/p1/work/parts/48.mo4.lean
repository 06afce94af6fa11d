section MO4
variable {l : Launch} {V : gi_V} {n : Nat} {h : gi_H} {M k c : Nat} {S : Nat → Int32} {J : Nat → Int64} {F : Nat → Nat → Int32} {G : Nat → Nat → Int64}
set_option maxHeartbeats 4000000 in
set_option maxRecDepth 100000 in
theorem c_Mo_wipe (m : Int32) (hk : k ≤ 8) (hS : S 0 = nI k) (H : mo_at M S J F G h) : gi_T l V y_Mo_wipe b_Mo_wipe 3 (some .int) 1 21 0 0 [.ref M, .int m] n h (fun v n' h' => n' = n ∧ outM M h h' ∧ ((∃ j : Nat, j < k ∧ m = nI j ∧ v = some (.int (F 5 j)) ∧ mo_at M (mo_S0 S) J (upA F 5 (upd (F 5) j 0)) G h') ∨ (isM k m = false ∧ v = some (.int (-1)) ∧ h' = h))) := by
  refine gi_enter (by decide) (Nat.le_of_ble_eq_true rfl) ?_
  intro _ _ _ _ _ _ _ _ C hr hnm
  obtain ⟨fs, Ha, Hf⟩ := id H.1
  have ho : outM M h h := outM.rf
  refine gi_aload_n (q := 1) (i := 0) C (dm_Mo_wipe 0 rfl) rfl rfl rfl ?_
  refine gi_iload_n (q := 2) (i := 1) C (dm_Mo_wipe 1 rfl) rfl rfl rfl ?_
  refine gi_callv 1 (q := 5) C (dm_Mo_wipe 2 rfl) rfl my_Mo_isMethod lk_Mo_186 im_Mo_isMethod rfl (c_Mo_isMethod _ hS H) Ha rfl rfl ⟨(Nat.le_of_ble_eq_true rfl), (Nat.le_of_ble_eq_true rfl)⟩ (Nat.le_of_ble_eq_true rfl) ⟨(Nat.le_of_ble_eq_true rfl), (Nat.le_of_ble_eq_true rfl)⟩ (fun r2 n2 h2 e2 => ?_)
  obtain ⟨rfl, rfl, rfl⟩ := e2
  refine gi_if_ne (q := 8) (tgt := 10) C (dm_Mo_wipe 3 rfl) rfl (by decide) (fun c5 => ?_) (fun c5 => ?_)
  · refine gi_aload_n (q := 11) (i := 0) C (dm_Mo_wipe 6 rfl) rfl rfl rfl ?_
    refine gi_get (q := 14) C (dm_Mo_wipe 7 rfl) rfl fl_Mo_22 Ha (mo_g5 Hf) ?_
    refine gi_iload_n (q := 15) (i := 1) C (dm_Mo_wipe 8 rfl) rfl rfl rfl ?_
    refine gi_iald (q := 16) C (dm_Mo_wipe 9 rfl) rfl rfl (mo_a5 H) (in_nI (isM_t (bI_n0.mp (by assumption))).1 (isM_t (bI_n0.mp (by assumption))).2 (by omega) (by omega)) ?_
    refine gi_istore_n (q := 17) (i := 2) C (dm_Mo_wipe 10 rfl) rfl rfl (Nat.le_of_ble_eq_true rfl) ?_
    refine gi_aload_n (q := 18) (i := 0) C (dm_Mo_wipe 11 rfl) rfl rfl rfl ?_
    refine gi_get (q := 21) C (dm_Mo_wipe 12 rfl) rfl fl_Mo_22 Ha (mo_g5 Hf) ?_
    refine gi_iload_n (q := 22) (i := 1) C (dm_Mo_wipe 13 rfl) rfl rfl rfl ?_
    refine gi_iconst (q := 23) (v := 0) C (dm_Mo_wipe 14 rfl) rfl (by decide) ?_
    refine gi_iast (q := 24) C (dm_Mo_wipe 15 rfl) rfl rfl (mo_a5 H) (in_nI (isM_t (bI_n0.mp (by assumption))).1 (isM_t (bI_n0.mp (by assumption))).2 (by omega) (by omega)) ?_
    refine gi_genM (H.setI (p := 4) (k := 5) (by decide) rfl rfl (by decide) rfl (by omega)) (ho.up (by omega) (by omega)) (fun y H ho => ?_)
    obtain ⟨fs, Ha, Hf⟩ := id H.1
    refine gi_aload_n (q := 25) (i := 0) C (dm_Mo_wipe 16 rfl) rfl rfl rfl ?_
    refine gi_iconst (q := 26) (v := 0) C (dm_Mo_wipe 17 rfl) rfl (by decide) ?_
    refine gi_put (q := 29) C (dm_Mo_wipe 18 rfl) rfl fl_Mo_179 fp_Mo_8 Ha (by rw [Hf.1]; decide) rfl rfl ?_
    refine gi_genM (H.putI Ha Hf (by decide) rfl) (ho.up (by omega) (by omega)) (fun y H ho => ?_)
    obtain ⟨fs, Ha, Hf⟩ := id H.1
    refine gi_aload_n (q := 30) (i := 0) C (dm_Mo_wipe 19 rfl) rfl rfl rfl ?_
    refine gi_iconst (q := 31) (v := 0) C (dm_Mo_wipe 20 rfl) rfl (by decide) ?_
    refine gi_put (q := 34) C (dm_Mo_wipe 21 rfl) rfl fl_Mo_183 fp_Mo_9 Ha (by rw [Hf.1]; decide) rfl rfl ?_
    refine gi_genM (H.putI Ha Hf (by decide) rfl) (ho.up (by omega) (by omega)) (fun y H ho => ?_)
    obtain ⟨fs, Ha, Hf⟩ := id H.1
    refine gi_iload_n (q := 35) (i := 2) C (dm_Mo_wipe 22 rfl) rfl rfl rfl ?_
    refine gi_iret C hr (dm_Mo_wipe 23 rfl) ?_
    obtain ⟨j, hj, rfl⟩ := isM_nI hk (bI_n0.mp c5)
    rw [nI_clamp (show j < 2 ^ 31 by omega)] at *
    exact ⟨rfl, ho, Or.inl ⟨j, hj, rfl, rfl, H⟩⟩
  · refine gi_iconst (q := 9) (v := -1) C (dm_Mo_wipe 4 rfl) rfl (by decide) ?_
    refine gi_iret C hr (dm_Mo_wipe 5 rfl) ?_
    exact ⟨rfl, ho, Or.inr ⟨bI_0.mp c5, rfl, rfl⟩⟩
def mo_insF (F : Nat → Nat → Int32) (m q : Nat) (op x : Int32) : Nat → Nat → Int32 := upA (upA (upA F 6 (upd (F 6) (60 * m + q) op)) 7 (upd (F 7) (60 * m + q) x)) 5 (upd (F 5) m (nI (q + 1)))
set_option maxHeartbeats 4000000 in
set_option maxRecDepth 100000 in
theorem c_Mo_code (m op x : Int32) (hk : k ≤ 8) (hS : S 0 = nI k) (hL : prL k F) (H : mo_at M S J F G h) : gi_T l V y_Mo_code b_Mo_code 5 (some .int) 1 21 0 0 [.ref M, .int m, .int op, .int x] n h (fun v n' h' => n' = n ∧ outM M h h' ∧ ((∃ j q : Nat, j < k ∧ m = nI j ∧ q < 60 ∧ F 5 j = nI q ∧ 0 ≤ op ∧ op ≤ 35 ∧ v = some (.int (nI q)) ∧ mo_at M (mo_S0 S) J (mo_insF F j q op x) G h') ∨ ((isM k m = false ∨ op < 0 ∨ 35 < op ∨ F 5 m.toNatClampNeg = 60) ∧ v = some (.int (-1)) ∧ h' = h))) := by
  refine gi_enter (by decide) (Nat.le_of_ble_eq_true rfl) ?_
  intro _ _ _ _ _ _ _ _ C hr hnm
  obtain ⟨fs, Ha, Hf⟩ := id H.1
  have ho : outM M h h := outM.rf
  refine gi_aload_n (q := 1) (i := 0) C (dm_Mo_code 0 rfl) rfl rfl rfl ?_
  refine gi_iload_n (q := 2) (i := 1) C (dm_Mo_code 1 rfl) rfl rfl rfl ?_
  refine gi_callv 1 (q := 5) C (dm_Mo_code 2 rfl) rfl my_Mo_isMethod lk_Mo_186 im_Mo_isMethod rfl (c_Mo_isMethod _ hS H) Ha rfl rfl ⟨(Nat.le_of_ble_eq_true rfl), (Nat.le_of_ble_eq_true rfl)⟩ (Nat.le_of_ble_eq_true rfl) ⟨(Nat.le_of_ble_eq_true rfl), (Nat.le_of_ble_eq_true rfl)⟩ (fun r2 n2 h2 e2 => ?_)
  obtain ⟨rfl, rfl, rfl⟩ := e2
  refine gi_if_eq (q := 8) (tgt := 29) C (dm_Mo_code 3 rfl) rfl (by decide) (fun c5 => ?_) (fun c5 => ?_)
  · refine gi_iconst (q := 30) (v := -1) C (dm_Mo_code 15 rfl) rfl (by decide) ?_
    refine gi_iret C hr (dm_Mo_code 16 rfl) ?_
    refine ⟨rfl, ho, Or.inr ⟨?_, rfl, rfl⟩⟩
    first
      | exact Or.inl (bI_0.mp (by assumption))
      | exact Or.inr (Or.inl (by assumption))
      | exact Or.inr (Or.inr (Or.inl (by assumption)))
      | exact Or.inr (Or.inr (Or.inr (by assumption)))
  · refine gi_iload_n (q := 9) (i := 2) C (dm_Mo_code 4 rfl) rfl rfl rfl ?_
    refine gi_if_lt (q := 12) (tgt := 29) C (dm_Mo_code 5 rfl) rfl (by decide) (fun c9 => ?_) (fun c9 => ?_)
    · refine gi_iconst (q := 30) (v := -1) C (dm_Mo_code 15 rfl) rfl (by decide) ?_
      refine gi_iret C hr (dm_Mo_code 16 rfl) ?_
      refine ⟨rfl, ho, Or.inr ⟨?_, rfl, rfl⟩⟩
      first
        | exact Or.inl (bI_0.mp (by assumption))
        | exact Or.inr (Or.inl (by assumption))
        | exact Or.inr (Or.inr (Or.inl (by assumption)))
        | exact Or.inr (Or.inr (Or.inr (by assumption)))
    · refine gi_iload_n (q := 13) (i := 2) C (dm_Mo_code 6 rfl) rfl rfl rfl ?_
      refine gi_bipush (q := 15) (v := 35) C (dm_Mo_code 7 rfl) rfl (by decide) ?_
      refine gi_icmp_gt (q := 18) (tgt := 29) C (dm_Mo_code 8 rfl) rfl (by decide) (fun c15 => ?_) (fun c15 => ?_)
      · refine gi_iconst (q := 30) (v := -1) C (dm_Mo_code 15 rfl) rfl (by decide) ?_
        refine gi_iret C hr (dm_Mo_code 16 rfl) ?_
        refine ⟨rfl, ho, Or.inr ⟨?_, rfl, rfl⟩⟩
        first
          | exact Or.inl (bI_0.mp (by assumption))
          | exact Or.inr (Or.inl (by assumption))
          | exact Or.inr (Or.inr (Or.inl (by assumption)))
          | exact Or.inr (Or.inr (Or.inr (by assumption)))
      · refine gi_aload_n (q := 19) (i := 0) C (dm_Mo_code 9 rfl) rfl rfl rfl ?_
        refine gi_get (q := 22) C (dm_Mo_code 10 rfl) rfl fl_Mo_22 Ha (mo_g5 Hf) ?_
        refine gi_iload_n (q := 23) (i := 1) C (dm_Mo_code 11 rfl) rfl rfl rfl ?_
        refine gi_iald (q := 24) C (dm_Mo_code 12 rfl) rfl rfl (mo_a5 H) (in_nI (isM_t (bI_n0.mp (by assumption))).1 (isM_t (bI_n0.mp (by assumption))).2 (by omega) (by omega)) ?_
        refine gi_bipush (q := 26) (v := 60) C (dm_Mo_code 13 rfl) rfl (by decide) ?_
        refine gi_icmp_ne (q := 29) (tgt := 31) C (dm_Mo_code 14 rfl) rfl (by decide) (fun c26 => ?_) (fun c26 => ?_)
        · refine gi_bipush (q := 33) (v := 60) C (dm_Mo_code 17 rfl) rfl (by decide) ?_
          refine gi_iload_n (q := 34) (i := 1) C (dm_Mo_code 18 rfl) rfl rfl rfl ?_
          refine gi_imul (q := 35) C (dm_Mo_code 19 rfl) rfl ?_
          refine gi_aload_n (q := 36) (i := 0) C (dm_Mo_code 20 rfl) rfl rfl rfl ?_
          refine gi_get (q := 39) C (dm_Mo_code 21 rfl) rfl fl_Mo_22 Ha (mo_g5 Hf) ?_
          refine gi_iload_n (q := 40) (i := 1) C (dm_Mo_code 22 rfl) rfl rfl rfl ?_
          refine gi_iald (q := 41) C (dm_Mo_code 23 rfl) rfl rfl (mo_a5 H) (in_nI (isM_t (bI_n0.mp (by assumption))).1 (isM_t (bI_n0.mp (by assumption))).2 (by omega) (by omega)) ?_
          refine gi_iadd (q := 42) C (dm_Mo_code 24 rfl) rfl ?_
          refine gi_istore (q := 44) C (dm_Mo_code 25 rfl) rfl (Nat.le_of_ble_eq_true rfl) ?_
          refine gi_aload_n (q := 45) (i := 0) C (dm_Mo_code 26 rfl) rfl rfl rfl ?_
          refine gi_get (q := 48) C (dm_Mo_code 27 rfl) rfl fl_Mo_25 Ha (mo_g6 Hf) ?_
          refine gi_iload (q := 50) C (dm_Mo_code 28 rfl) rfl rfl ?_
          refine gi_iload_n (q := 51) (i := 2) C (dm_Mo_code 29 rfl) rfl rfl rfl ?_
          refine gi_iast (q := 52) C (dm_Mo_code 30 rfl) rfl rfl (mo_a6 H) (by obtain ⟨j, hj, rfl⟩ := isM_nI hk (bI_n0.mp c5); obtain ⟨q, hq, e⟩ := hL j hj; rw [nI_clamp (show j < 2 ^ 31 by omega), e] at c26 ⊢; rw [show (60 : Int32) = nI 60 from rfl, nI_eq (by omega) (by omega)] at c26; rw [show (60 : Int32) = nI 60 from rfl, pk_mul, nI_add]; exact vp_in_nI (by omega) (by omega)) ?_
          refine gi_genM (H.setI (p := 5) (k := 6) (by decide) rfl rfl (by decide) rfl (by omega)) (ho.up (by omega) (by omega)) (fun y H ho => ?_)
          obtain ⟨fs, Ha, Hf⟩ := id H.1
          refine gi_aload_n (q := 53) (i := 0) C (dm_Mo_code 31 rfl) rfl rfl rfl ?_
          refine gi_get (q := 56) C (dm_Mo_code 32 rfl) rfl fl_Mo_28 Ha (mo_g7 Hf) ?_
          refine gi_iload (q := 58) C (dm_Mo_code 33 rfl) rfl rfl ?_
          refine gi_iload_n (q := 59) (i := 3) C (dm_Mo_code 34 rfl) rfl rfl rfl ?_
          refine gi_iast (q := 60) C (dm_Mo_code 35 rfl) rfl rfl (mo_a7 H) (by obtain ⟨j, hj, rfl⟩ := isM_nI hk (bI_n0.mp c5); obtain ⟨q, hq, e⟩ := hL j hj; rw [nI_clamp (show j < 2 ^ 31 by omega), e] at c26 ⊢; rw [show (60 : Int32) = nI 60 from rfl, nI_eq (by omega) (by omega)] at c26; rw [show (60 : Int32) = nI 60 from rfl, pk_mul, nI_add]; exact vp_in_nI (by omega) (by omega)) ?_
          refine gi_genM (H.setI (p := 6) (k := 7) (by decide) rfl rfl (by decide) rfl (by omega)) (ho.up (by omega) (by omega)) (fun y H ho => ?_)
          obtain ⟨fs, Ha, Hf⟩ := id H.1
          refine gi_aload_n (q := 61) (i := 0) C (dm_Mo_code 36 rfl) rfl rfl rfl ?_
          refine gi_get (q := 64) C (dm_Mo_code 37 rfl) rfl fl_Mo_22 Ha (mo_g5 Hf) ?_
          refine gi_iload_n (q := 65) (i := 1) C (dm_Mo_code 38 rfl) rfl rfl rfl ?_
          refine gi_dup2_11 (q := 66) C (dm_Mo_code 39 rfl) rfl rfl rfl ?_
          refine gi_iald (q := 67) C (dm_Mo_code 40 rfl) rfl rfl (mo_a5 H) (in_nI (isM_t (bI_n0.mp (by assumption))).1 (isM_t (bI_n0.mp (by assumption))).2 (by omega) (by omega)) ?_
          refine gi_iconst (q := 68) (v := 1) C (dm_Mo_code 41 rfl) rfl (by decide) ?_
          refine gi_iadd (q := 69) C (dm_Mo_code 42 rfl) rfl ?_
          refine gi_iast (q := 70) C (dm_Mo_code 43 rfl) rfl rfl (mo_a5 H) (in_nI (isM_t (bI_n0.mp (by assumption))).1 (isM_t (bI_n0.mp (by assumption))).2 (by omega) (by omega)) ?_
          refine gi_genM (H.setI (p := 4) (k := 5) (by decide) rfl rfl (by decide) rfl (by omega)) (ho.up (by omega) (by omega)) (fun y H ho => ?_)
          obtain ⟨fs, Ha, Hf⟩ := id H.1
          refine gi_aload_n (q := 71) (i := 0) C (dm_Mo_code 44 rfl) rfl rfl rfl ?_
          refine gi_iconst (q := 72) (v := 0) C (dm_Mo_code 45 rfl) rfl (by decide) ?_
          refine gi_put (q := 75) C (dm_Mo_code 46 rfl) rfl fl_Mo_179 fp_Mo_8 Ha (by rw [Hf.1]; decide) rfl rfl ?_
          refine gi_genM (H.putI Ha Hf (by decide) rfl) (ho.up (by omega) (by omega)) (fun y H ho => ?_)
          obtain ⟨fs, Ha, Hf⟩ := id H.1
          refine gi_aload_n (q := 76) (i := 0) C (dm_Mo_code 47 rfl) rfl rfl rfl ?_
          refine gi_iconst (q := 77) (v := 0) C (dm_Mo_code 48 rfl) rfl (by decide) ?_
          refine gi_put (q := 80) C (dm_Mo_code 49 rfl) rfl fl_Mo_183 fp_Mo_9 Ha (by rw [Hf.1]; decide) rfl rfl ?_
          refine gi_genM (H.putI Ha Hf (by decide) rfl) (ho.up (by omega) (by omega)) (fun y H ho => ?_)
          obtain ⟨fs, Ha, Hf⟩ := id H.1
          refine gi_aload_n (q := 81) (i := 0) C (dm_Mo_code 50 rfl) rfl rfl rfl ?_
          refine gi_get (q := 84) C (dm_Mo_code 51 rfl) rfl fl_Mo_22 Ha (mo_g5 Hf) ?_
          refine gi_iload_n (q := 85) (i := 1) C (dm_Mo_code 52 rfl) rfl rfl rfl ?_
          refine gi_iald (q := 86) C (dm_Mo_code 53 rfl) rfl rfl (mo_a5 H) (in_nI (isM_t (bI_n0.mp (by assumption))).1 (isM_t (bI_n0.mp (by assumption))).2 (by omega) (by omega)) ?_
          refine gi_iconst (q := 87) (v := 1) C (dm_Mo_code 54 rfl) rfl (by decide) ?_
          refine gi_isub (q := 88) C (dm_Mo_code 55 rfl) rfl ?_
          refine gi_iret C hr (dm_Mo_code 56 rfl) ?_
          obtain ⟨j, hj, rfl⟩ := isM_nI hk (bI_n0.mp c5)
          obtain ⟨q, hq, e⟩ := hL j hj
          have hcj : (nI j).toNatClampNeg = j := nI_clamp (by omega)
          rw [hcj, e] at c26
          rw [show (60 : Int32) = nI 60 from rfl, nI_eq (by omega) (by omega)] at c26
          have h6 : (60 * nI j + nI q).toNatClampNeg = 60 * j + q := by rw [show (60 : Int32) = nI 60 from rfl, pk_mul, nI_add, nI_clamp (by omega)]
          have H' := H
          simp only [hcj, e, h6, nI_1, upA_ne (show (7 : Nat) ≠ 6 by decide), upA_ne (show (5 : Nat) ≠ 7 by decide), upA_ne (show (5 : Nat) ≠ 6 by decide)] at H'
          refine ⟨rfl, ho, Or.inl ⟨j, q, hj, rfl, by omega, e, Int32.not_lt.mp c9, Int32.not_lt.mp c15, ?_, H'⟩⟩
          simp only [hcj, e, upA_self, upA_ne (show (7 : Nat) ≠ 6 by decide), upA_ne (show (5 : Nat) ≠ 7 by decide), upA_ne (show (5 : Nat) ≠ 6 by decide), upd, if_true, nI_1, nI_pred]
        · refine gi_iconst (q := 30) (v := -1) C (dm_Mo_code 15 rfl) rfl (by decide) ?_
          refine gi_iret C hr (dm_Mo_code 16 rfl) ?_
          refine ⟨rfl, ho, Or.inr ⟨?_, rfl, rfl⟩⟩
          first
            | exact Or.inl (bI_0.mp (by assumption))
            | exact Or.inr (Or.inl (by assumption))
            | exact Or.inr (Or.inr (Or.inl (by assumption)))
            | exact Or.inr (Or.inr (Or.inr (by assumption)))
set_option maxHeartbeats 4000000 in
set_option maxRecDepth 100000 in
theorem c_Mo_forget (H : mo_at M S J F G h) : gi_T l V y_Mo_forget b_Mo_forget 2 (some .int) 0 0 0 0 [.ref M] n h (fun v n' h' => n' = n ∧ outM M h h' ∧ (v = some (.int (S 67)) ∧ mo_at M (upS S 67 0) J F G h')) := by
  refine gi_enter (by decide) (Nat.le_of_ble_eq_true rfl) ?_
  intro _ _ _ _ _ _ _ _ C hr hnm
  obtain ⟨fs, Ha, Hf⟩ := id H.1
  have ho : outM M h h := outM.rf
  refine gi_aload_n (q := 1) (i := 0) C (dm_Mo_forget 0 rfl) rfl rfl rfl ?_
  refine gi_get (q := 4) C (dm_Mo_forget 1 rfl) rfl fl_Mo_537 Ha (mo_g67 Hf) ?_
  refine gi_istore_n (q := 5) (i := 1) C (dm_Mo_forget 2 rfl) rfl rfl (Nat.le_of_ble_eq_true rfl) ?_
  refine gi_aload_n (q := 6) (i := 0) C (dm_Mo_forget 3 rfl) rfl rfl rfl ?_
  refine gi_iconst (q := 7) (v := 0) C (dm_Mo_forget 4 rfl) rfl (by decide) ?_
  refine gi_put (q := 10) C (dm_Mo_forget 5 rfl) rfl fl_Mo_537 fp_Mo_67 Ha (by rw [Hf.1]; decide) rfl rfl ?_
  refine gi_genM (H.putI Ha Hf (by decide) rfl) (ho.up (by omega) (by omega)) (fun y H ho => ?_)
  obtain ⟨fs, Ha, Hf⟩ := id H.1
  refine gi_iload_n (q := 11) (i := 1) C (dm_Mo_forget 6 rfl) rfl rfl rfl ?_
  refine gi_iret C hr (dm_Mo_forget 7 rfl) ?_
  exact ⟨rfl, ho, rfl, H⟩
def okQ (c : Nat) (F : Nat → Nat → Int32) (x y : Int32) : Prop := (0 ≤ x ∧ x < nI c) ∧ F 68 x.toNatClampNeg = 1 ∧ 0 ≤ y ∧ y < F 69 x.toNatClampNeg
def moL (c : Nat) (F : Nat → Nat → Int32) : Prop := ∀ j, j < c → F 68 j = 1 → ∃ z : Nat, z ≤ 200 ∧ F 69 j = nI z
theorem okQ_in {c : Nat} {F : Nat → Nat → Int32} {x y : Int32} (hc : c ≤ 3) (hL : moL c F) (h : okQ c F x y) : ∃ j i : Nat, j < c ∧ x = nI j ∧ i < 200 ∧ y = nI i := by
  obtain ⟨⟨h1, h2⟩, h3, h4, h5⟩ := h
  obtain ⟨j, hj, rfl⟩ := vp_in_of (in_nI h1 h2 (Nat.le_refl c) (by omega)) (by omega)
  rw [nI_clamp (by omega)] at h3 h5
  obtain ⟨z, hz, e⟩ := hL j hj h3
  rw [e] at h5
  obtain ⟨i, hi, rfl⟩ := vp_in_of (in_nI h4 h5 (Nat.le_refl z) (by omega)) (by omega)
  exact ⟨j, i, hj, rfl, by omega, rfl⟩
set_option maxHeartbeats 4000000 in
set_option maxRecDepth 100000 in
theorem c_Mo_fill (x y z : Int32) (hc : c ≤ 3) (hS : S 67 = nI c) (hL : moL c F) (H : mo_at M S J F G h) : gi_T l V y_Mo_fill b_Mo_fill 4 (some .int) 0 0 0 0 [.ref M, .int x, .int y, .int z] n h (fun v n' h' => n' = n ∧ outM M h h' ∧ ((okQ c F x y ∧ v = some (.int 1) ∧ mo_at M S J (upA F 70 (upd (F 70) (200 * x + y).toNatClampNeg z)) G h') ∨ (¬ okQ c F x y ∧ v = some (.int (-1)) ∧ h' = h))) := by
  refine gi_enter (by decide) (Nat.le_of_ble_eq_true rfl) ?_
  intro _ _ _ _ _ _ _ _ C hr hnm
  obtain ⟨fs, Ha, Hf⟩ := id H.1
  have ho : outM M h h := outM.rf
  refine gi_iload_n (q := 1) (i := 1) C (dm_Mo_fill 0 rfl) rfl rfl rfl ?_
  refine gi_if_lt (q := 4) (tgt := 36) C (dm_Mo_fill 1 rfl) rfl (by decide) (fun c1 => ?_) (fun c1 => ?_)
  · refine gi_iconst (q := 37) (v := -1) C (dm_Mo_fill 20 rfl) rfl (by decide) ?_
    refine gi_iret C hr (dm_Mo_fill 21 rfl) ?_
    refine ⟨rfl, ho, Or.inr ⟨fun q => ?_, rfl, rfl⟩⟩
    obtain ⟨⟨q1, q2⟩, q3, q4, q5⟩ := q
    rw [← hS] at q2
    first
      | exact absurd q1 (Int32.not_le.mpr c1)
      | exact absurd q2 (Int32.not_lt.mpr c9)
      | exact absurd q3 c19
      | exact absurd q4 (Int32.not_le.mpr c23)
      | exact absurd q5 c33
  · refine gi_iload_n (q := 5) (i := 1) C (dm_Mo_fill 2 rfl) rfl rfl rfl ?_
    refine gi_aload_n (q := 6) (i := 0) C (dm_Mo_fill 3 rfl) rfl rfl rfl ?_
    refine gi_get (q := 9) C (dm_Mo_fill 4 rfl) rfl fl_Mo_537 Ha (mo_g67 Hf) ?_
    refine gi_icmp_ge (q := 12) (tgt := 36) C (dm_Mo_fill 5 rfl) rfl (by decide) (fun c9 => ?_) (fun c9 => ?_)
    · refine gi_iconst (q := 37) (v := -1) C (dm_Mo_fill 20 rfl) rfl (by decide) ?_
      refine gi_iret C hr (dm_Mo_fill 21 rfl) ?_
      refine ⟨rfl, ho, Or.inr ⟨fun q => ?_, rfl, rfl⟩⟩
      obtain ⟨⟨q1, q2⟩, q3, q4, q5⟩ := q
      rw [← hS] at q2
      first
        | exact absurd q1 (Int32.not_le.mpr c1)
        | exact absurd q2 (Int32.not_lt.mpr c9)
        | exact absurd q3 c19
        | exact absurd q4 (Int32.not_le.mpr c23)
        | exact absurd q5 c33
    · refine gi_aload_n (q := 13) (i := 0) C (dm_Mo_fill 6 rfl) rfl rfl rfl ?_
      refine gi_get (q := 16) C (dm_Mo_fill 7 rfl) rfl fl_Mo_140 Ha (mo_g68 Hf) ?_
      refine gi_iload_n (q := 17) (i := 1) C (dm_Mo_fill 8 rfl) rfl rfl rfl ?_
      refine gi_iald (q := 18) C (dm_Mo_fill 9 rfl) rfl rfl (mo_a68 H) (by rw [hS] at c9; exact in_nI (Int32.not_lt.mp c1) (Int32.not_le.mp c9) hc (by omega)) ?_
      refine gi_iconst (q := 19) (v := 1) C (dm_Mo_fill 10 rfl) rfl (by decide) ?_
      refine gi_icmp_ne (q := 22) (tgt := 36) C (dm_Mo_fill 11 rfl) rfl (by decide) (fun c19 => ?_) (fun c19 => ?_)
      · refine gi_iconst (q := 37) (v := -1) C (dm_Mo_fill 20 rfl) rfl (by decide) ?_
        refine gi_iret C hr (dm_Mo_fill 21 rfl) ?_
        refine ⟨rfl, ho, Or.inr ⟨fun q => ?_, rfl, rfl⟩⟩
        obtain ⟨⟨q1, q2⟩, q3, q4, q5⟩ := q
        rw [← hS] at q2
        first
          | exact absurd q1 (Int32.not_le.mpr c1)
          | exact absurd q2 (Int32.not_lt.mpr c9)
          | exact absurd q3 c19
          | exact absurd q4 (Int32.not_le.mpr c23)
          | exact absurd q5 c33
      · refine gi_iload_n (q := 23) (i := 2) C (dm_Mo_fill 12 rfl) rfl rfl rfl ?_
        refine gi_if_lt (q := 26) (tgt := 36) C (dm_Mo_fill 13 rfl) rfl (by decide) (fun c23 => ?_) (fun c23 => ?_)
        · refine gi_iconst (q := 37) (v := -1) C (dm_Mo_fill 20 rfl) rfl (by decide) ?_
          refine gi_iret C hr (dm_Mo_fill 21 rfl) ?_
          refine ⟨rfl, ho, Or.inr ⟨fun q => ?_, rfl, rfl⟩⟩
          obtain ⟨⟨q1, q2⟩, q3, q4, q5⟩ := q
          rw [← hS] at q2
          first
            | exact absurd q1 (Int32.not_le.mpr c1)
            | exact absurd q2 (Int32.not_lt.mpr c9)
            | exact absurd q3 c19
            | exact absurd q4 (Int32.not_le.mpr c23)
            | exact absurd q5 c33
        · refine gi_iload_n (q := 27) (i := 2) C (dm_Mo_fill 14 rfl) rfl rfl rfl ?_
          refine gi_aload_n (q := 28) (i := 0) C (dm_Mo_fill 15 rfl) rfl rfl rfl ?_
          refine gi_get (q := 31) C (dm_Mo_fill 16 rfl) rfl fl_Mo_143 Ha (mo_g69 Hf) ?_
          refine gi_iload_n (q := 32) (i := 1) C (dm_Mo_fill 17 rfl) rfl rfl rfl ?_
          refine gi_iald (q := 33) C (dm_Mo_fill 18 rfl) rfl rfl (mo_a69 H) (by rw [hS] at c9; exact in_nI (Int32.not_lt.mp c1) (Int32.not_le.mp c9) hc (by omega)) ?_
          refine gi_icmp_lt (q := 36) (tgt := 38) C (dm_Mo_fill 19 rfl) rfl (by decide) (fun c33 => ?_) (fun c33 => ?_)
          · have hok : okQ c F x y := ⟨⟨Int32.not_lt.mp c1, by rw [hS] at c9; exact Int32.not_le.mp c9⟩, c19, Int32.not_lt.mp c23, c33⟩
            have hin : vp_in (200 * x + y) 600 := by
              obtain ⟨j, i, hj, rfl, hi, rfl⟩ := okQ_in hc hL hok
              rw [show (200 : Int32) = nI 200 from rfl, pk_mul, nI_add]
              exact vp_in_nI (by omega) (by omega)
            refine gi_aload_n (q := 39) (i := 0) C (dm_Mo_fill 22 rfl) rfl rfl rfl ?_
            refine gi_get (q := 42) C (dm_Mo_fill 23 rfl) rfl fl_Mo_146 Ha (mo_g70 Hf) ?_
            refine gi_sipush (q := 45) (v := 200) C (dm_Mo_fill 24 rfl) rfl (by decide) ?_
            refine gi_iload_n (q := 46) (i := 1) C (dm_Mo_fill 25 rfl) rfl rfl rfl ?_
            refine gi_imul (q := 47) C (dm_Mo_fill 26 rfl) rfl ?_
            refine gi_iload_n (q := 48) (i := 2) C (dm_Mo_fill 27 rfl) rfl rfl rfl ?_
            refine gi_iadd (q := 49) C (dm_Mo_fill 28 rfl) rfl ?_
            refine gi_iload_n (q := 50) (i := 3) C (dm_Mo_fill 29 rfl) rfl rfl rfl ?_
            refine gi_iast (q := 51) C (dm_Mo_fill 30 rfl) rfl rfl (mo_a70 H) hin ?_
            refine gi_genM (H.setI (p := 42) (k := 70) (by decide) rfl rfl (by decide) rfl (by omega)) (ho.up (by omega) (by omega)) (fun y H ho => ?_)
            obtain ⟨fs, Ha, Hf⟩ := id H.1
            refine gi_iconst (q := 52) (v := 1) C (dm_Mo_fill 31 rfl) rfl (by decide) ?_
            refine gi_iret C hr (dm_Mo_fill 32 rfl) ?_
            exact ⟨rfl, ho, Or.inl ⟨hok, rfl, H⟩⟩
          · refine gi_iconst (q := 37) (v := -1) C (dm_Mo_fill 20 rfl) rfl (by decide) ?_
            refine gi_iret C hr (dm_Mo_fill 21 rfl) ?_
            refine ⟨rfl, ho, Or.inr ⟨fun q => ?_, rfl, rfl⟩⟩
            obtain ⟨⟨q1, q2⟩, q3, q4, q5⟩ := q
            rw [← hS] at q2
            first
              | exact absurd q1 (Int32.not_le.mpr c1)
              | exact absurd q2 (Int32.not_lt.mpr c9)
              | exact absurd q3 c19
              | exact absurd q4 (Int32.not_le.mpr c23)
              | exact absurd q5 c33
end MO4
