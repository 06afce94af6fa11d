-- needs: 89.54
section RN6
variable {l : Launch} {V : gi_V} {n : Nat} {h h' : gi_H} {M : Nat} {S S' : Nat → Int32} {J J' : Nat → Int64} {F : Nat → Nat → Int32} {G : Nat → Nat → Int64}
theorem div_r (a : Int) (c : Nat) : (0 ≤ a ∧ 0 ≤ a / 2 ^ c ∧ a / 2 ^ c ≤ a) ∨ (a ≤ 0 ∧ a ≤ a / 2 ^ c ∧ a / 2 ^ c ≤ 0) := by
  have hp : (0 : Int) < 2 ^ c := Int.pow_pos (by decide)
  rcases Int.le_total 0 a with h | h
  · exact Or.inl ⟨h, Int.ediv_nonneg h (Int.le_of_lt hp), Int.ediv_le_self (2 ^ c) h⟩
  · refine Or.inr ⟨h, ?_, Int.ediv_nonpos_of_nonpos_of_neg h hp⟩
    apply (Int.le_ediv_iff_mul_le hp).mpr
    have h3 : (1 : Int) ≤ 2 ^ c := hp
    have h4 : a * 2 ^ c ≤ a * 1 := Int.mul_le_mul_of_nonpos_left h h3
    omega
set_option maxHeartbeats 4000000 in
set_option maxRecDepth 100000 in
theorem c_Mo_unsigned (x d : Sp) (hx : okS x) (hd : okS d) (H : mo_at M S J F G h) : gi_T l V y_Mo_unsigned b_Mo_unsigned 12 none 2 48 0 0 [.ref M, .long (eL x.1), .long (eL x.2.1), .long (eL x.2.2), .long (eL d.1), .int (bI (decide (d.1 = d.2.1)))] n h (fun v n' h' => v = none ∧ n' = n ∧ moN M F G h S J (ushS x d) h') := by
  refine gi_enter (by decide) (Nat.le_of_ble_eq_true rfl) ?_
  intro _ _ _ _ _ _ _ _ C hr hnm
  obtain ⟨fs, Ha, Hf⟩ := id H.1
  have ho : outM M h h := outM.rf
  obtain ⟨x1, x2, x3, x4, -⟩ := id hx
  have x5 := hx.st
  obtain ⟨d1, d2, d3, d4, -⟩ := id hd
  have d5 := hd.st
  obtain ⟨q, eq⟩ : ∃ q : Nat, q = (d.1 % 32).toNat := ⟨_, rfl⟩
  have q32 : q < 32 := by omega
  have el5 : (eL (d.1 % 32)).toInt32 = nI q := by rw [low5_n, ← eq]
  have eqc : d.1 % 32 = (q : Int) := by omega
  have dl := div_r (x.1) q
  have dh := div_r (x.2.1) q
  have p1 := pw_b q (by omega)
  have p2 := pw_b (32 - q) (by omega)
  refine gi_lload (q := 2) C (dm_Mo_unsigned 0 rfl) rfl rfl ?_
  refine gi_calls 1 (q := 5) C (dm_Mo_unsigned 1 rfl) rfl my_Mo_low5 lk_Mo_291 sm_Mo_low5 (c_Mo_low5 d.1) rfl rfl ⟨(Nat.le_of_ble_eq_true rfl), (Nat.le_of_ble_eq_true rfl)⟩ (Nat.le_of_ble_eq_true rfl) ⟨(Nat.le_of_ble_eq_true rfl), (Nat.le_of_ble_eq_true rfl)⟩ (fun r2 n2 h2 e2 => ?_)
  obtain ⟨rfl, q2, u2⟩ := e2
  rw [q2, u2]
  refine gi_lstore (q := 7) C (dm_Mo_unsigned 2 rfl) rfl (Nat.le_of_ble_eq_true rfl) ?_
  refine gi_iload (q := 9) C (dm_Mo_unsigned 3 rfl) rfl rfl ?_
  refine gi_if_eq (q := 12) (tgt := 30) C (dm_Mo_unsigned 4 rfl) rfl (by decide) (fun c9 => ?_) (fun c9 => ?_)
  · refine gi_lload_n (q := 31) (i := 1) C (dm_Mo_unsigned 15 rfl) rfl rfl rfl ?_
    refine gi_lconst (q := 32) (v := 0) C (dm_Mo_unsigned 16 rfl) rfl (by decide) ?_
    refine gi_lcmp (q := 33) C (dm_Mo_unsigned 17 rfl) rfl ?_
    refine gi_if_lt (q := 36) (tgt := 69) C (dm_Mo_unsigned 18 rfl) rfl (by decide) (fun c33 => ?_) (fun c33 => ?_)
    · refine gi_iload (q := 71) C (dm_Mo_unsigned 39 rfl) rfl rfl ?_
      refine gi_if_eq (q := 74) (tgt := 106) C (dm_Mo_unsigned 40 rfl) rfl (by decide) (fun c71 => ?_) (fun c71 => ?_)
      · refine gi_iload (q := 108) C (dm_Mo_unsigned 61 rfl) rfl rfl ?_
        refine gi_if_eq (q := 111) (tgt := 131) C (dm_Mo_unsigned 62 rfl) rfl (by decide) (fun c108 => ?_) (fun c108 => ?_)
        · refine gi_aload_n (q := 132) (i := 0) C (dm_Mo_unsigned 76 rfl) rfl rfl rfl ?_
          refine gi_lconst (q := 133) (v := 1) C (dm_Mo_unsigned 77 rfl) rfl (by decide) ?_
          rw [eL_1]
          refine gi_callv 1 (q := 136) C (dm_Mo_unsigned 78 rfl) rfl my_Mo_all lk_Mo_295 im_Mo_all rfl (c_Mo_all H) Ha rfl rfl ⟨(Nat.le_of_ble_eq_true rfl), (Nat.le_of_ble_eq_true rfl)⟩ (Nat.le_of_ble_eq_true rfl) ⟨(Nat.le_of_ble_eq_true rfl), (Nat.le_of_ble_eq_true rfl)⟩ (fun r133 n133 h133 e133 => ?_)
          obtain ⟨rfl, rfl, W133⟩ := e133
          refine gi_vret C hr (dm_Mo_unsigned 79 rfl) ?_
          (try simp (disch := omega) only [lg_cmp_ge, lg_cmp_le, lg_cmp_gt, lg_cmp_lt, lg_cmp_eq, eL_0, eL_1, eL_m1, eL_LO, eL_HI, eL_W, eL_add, eL_sub, eL_mul, eL_neg, eL_lt, eL_le, eL_eq, eL_remN, eL_mod0, ne_eq, Int64.not_lt, Int64.not_le] at c16)
          (try simp (disch := omega) only [lg_cmp_ge, lg_cmp_le, lg_cmp_gt, lg_cmp_lt, lg_cmp_eq, eL_0, eL_1, eL_m1, eL_LO, eL_HI, eL_W, eL_add, eL_sub, eL_mul, eL_neg, eL_lt, eL_le, eL_eq, eL_remN, eL_mod0, ne_eq, Int64.not_lt, Int64.not_le] at c33)
          (try simp (disch := omega) only [lg_cmp_ge, lg_cmp_le, lg_cmp_gt, lg_cmp_lt, lg_cmp_eq, eL_0, eL_1, eL_m1, eL_LO, eL_HI, eL_W, eL_add, eL_sub, eL_mul, eL_neg, eL_lt, eL_le, eL_eq, eL_remN, eL_mod0, ne_eq, Int64.not_lt, Int64.not_le] at c77)
          have sg : ¬ d.1 = d.2.1 := by
            have := bI_fa (b := decide (d.1 = d.2.1)) c108
            simpa using this
          rw [show ushS x d = allS from by
            unfold ushS
            rw [if_neg (fun z => sg z.1), if_neg (by omega), if_pos sg]]
          exact ⟨rfl, rfl, W133⟩
        · refine gi_aload_n (q := 112) (i := 0) C (dm_Mo_unsigned 63 rfl) rfl rfl rfl ?_
          refine gi_lconst (q := 113) (v := 0) C (dm_Mo_unsigned 64 rfl) rfl (by decide) ?_
          refine gi_lconst (q := 114) (v := 1) C (dm_Mo_unsigned 65 rfl) rfl (by decide) ?_
          refine gi_ldc2 (q := 117) C (dm_Mo_unsigned 66 rfl) rfl kc_Mo_355 ?_
          refine gi_lload (q := 119) C (dm_Mo_unsigned 67 rfl) rfl rfl ?_
          refine gi_lsub (q := 120) C (dm_Mo_unsigned 68 rfl) rfl ?_
          rw [eL_32, eL_sub]
          refine gi_l2i (q := 121) C (dm_Mo_unsigned 69 rfl) rfl ?_
          rw [eL_n32 (by omega) (by omega), show (32 - d.1 % 32).toNat = 32 - q by omega]
          refine gi_lshl (q := 122) C (dm_Mo_unsigned 70 rfl) rfl ?_
          rw [sp_shl1 _ (by omega)]
          refine gi_lconst (q := 123) (v := 1) C (dm_Mo_unsigned 71 rfl) rfl (by decide) ?_
          refine gi_lsub (q := 124) C (dm_Mo_unsigned 72 rfl) rfl ?_
          rw [eL_1, eL_sub]
          refine gi_lconst (q := 125) (v := 1) C (dm_Mo_unsigned 73 rfl) rfl (by decide) ?_
          skip
          refine gi_callv 3 (q := 128) C (dm_Mo_unsigned 74 rfl) rfl my_Mo_set lk_Mo_262 im_Mo_set rfl (c_Mo_set (0) (2 ^ (32 - q) - 1) (1) (by omega) (by omega) (by omega) (by omega) H) Ha rfl rfl ⟨(Nat.le_of_ble_eq_true rfl), (Nat.le_of_ble_eq_true rfl)⟩ (Nat.le_of_ble_eq_true rfl) ⟨(Nat.le_of_ble_eq_true rfl), (Nat.le_of_ble_eq_true rfl)⟩ (fun r125 n125 h125 e125 => ?_)
          obtain ⟨rfl, rfl, W125⟩ := e125
          refine gi_goto (tgt := 136) C (dm_Mo_unsigned 75 rfl) (by decide) ?_
          refine gi_vret C hr (dm_Mo_unsigned 79 rfl) ?_
          (try simp (disch := omega) only [lg_cmp_ge, lg_cmp_le, lg_cmp_gt, lg_cmp_lt, lg_cmp_eq, eL_0, eL_1, eL_m1, eL_LO, eL_HI, eL_W, eL_add, eL_sub, eL_mul, eL_neg, eL_lt, eL_le, eL_eq, eL_remN, eL_mod0, ne_eq, Int64.not_lt, Int64.not_le] at c16)
          (try simp (disch := omega) only [lg_cmp_ge, lg_cmp_le, lg_cmp_gt, lg_cmp_lt, lg_cmp_eq, eL_0, eL_1, eL_m1, eL_LO, eL_HI, eL_W, eL_add, eL_sub, eL_mul, eL_neg, eL_lt, eL_le, eL_eq, eL_remN, eL_mod0, ne_eq, Int64.not_lt, Int64.not_le] at c33)
          (try simp (disch := omega) only [lg_cmp_ge, lg_cmp_le, lg_cmp_gt, lg_cmp_lt, lg_cmp_eq, eL_0, eL_1, eL_m1, eL_LO, eL_HI, eL_W, eL_add, eL_sub, eL_mul, eL_neg, eL_lt, eL_le, eL_eq, eL_remN, eL_mod0, ne_eq, Int64.not_lt, Int64.not_le] at c77)
          have sg : d.1 = d.2.1 := by
            have := bI_t (b := decide (d.1 = d.2.1)) c108
            simpa using this
          rw [show ushS x d = mkS 0 (2 ^ (32 - q) - 1) 1 from by
            unfold ushS
            rw [if_neg (fun z => by first | omega | exact absurd sg (by have := bI_fa (b := decide (d.1 = d.2.1)) c9; simpa using this)), if_neg (by omega), if_neg (fun z => z sg), if_neg (by first | omega | exact absurd sg (by have := bI_fa (b := decide (d.1 = d.2.1)) c71; simpa using this)), ← eq]]
          exact ⟨rfl, rfl, W125⟩
      · refine gi_lload_n (q := 75) (i := 3) C (dm_Mo_unsigned 41 rfl) rfl rfl rfl ?_
        refine gi_lconst (q := 76) (v := 0) C (dm_Mo_unsigned 42 rfl) rfl (by decide) ?_
        refine gi_lcmp (q := 77) C (dm_Mo_unsigned 43 rfl) rfl ?_
        refine gi_if_ge (q := 80) (tgt := 106) C (dm_Mo_unsigned 44 rfl) rfl (by decide) (fun c77 => ?_) (fun c77 => ?_)
        · refine gi_iload (q := 108) C (dm_Mo_unsigned 61 rfl) rfl rfl ?_
          refine gi_if_eq (q := 111) (tgt := 131) C (dm_Mo_unsigned 62 rfl) rfl (by decide) (fun c108 => ?_) (fun c108 => ?_)
          · refine gi_aload_n (q := 132) (i := 0) C (dm_Mo_unsigned 76 rfl) rfl rfl rfl ?_
            refine gi_lconst (q := 133) (v := 1) C (dm_Mo_unsigned 77 rfl) rfl (by decide) ?_
            rw [eL_1]
            refine gi_callv 1 (q := 136) C (dm_Mo_unsigned 78 rfl) rfl my_Mo_all lk_Mo_295 im_Mo_all rfl (c_Mo_all H) Ha rfl rfl ⟨(Nat.le_of_ble_eq_true rfl), (Nat.le_of_ble_eq_true rfl)⟩ (Nat.le_of_ble_eq_true rfl) ⟨(Nat.le_of_ble_eq_true rfl), (Nat.le_of_ble_eq_true rfl)⟩ (fun r133 n133 h133 e133 => ?_)
            obtain ⟨rfl, rfl, W133⟩ := e133
            refine gi_vret C hr (dm_Mo_unsigned 79 rfl) ?_
            (try simp (disch := omega) only [lg_cmp_ge, lg_cmp_le, lg_cmp_gt, lg_cmp_lt, lg_cmp_eq, eL_0, eL_1, eL_m1, eL_LO, eL_HI, eL_W, eL_add, eL_sub, eL_mul, eL_neg, eL_lt, eL_le, eL_eq, eL_remN, eL_mod0, ne_eq, Int64.not_lt, Int64.not_le] at c16)
            (try simp (disch := omega) only [lg_cmp_ge, lg_cmp_le, lg_cmp_gt, lg_cmp_lt, lg_cmp_eq, eL_0, eL_1, eL_m1, eL_LO, eL_HI, eL_W, eL_add, eL_sub, eL_mul, eL_neg, eL_lt, eL_le, eL_eq, eL_remN, eL_mod0, ne_eq, Int64.not_lt, Int64.not_le] at c33)
            (try simp (disch := omega) only [lg_cmp_ge, lg_cmp_le, lg_cmp_gt, lg_cmp_lt, lg_cmp_eq, eL_0, eL_1, eL_m1, eL_LO, eL_HI, eL_W, eL_add, eL_sub, eL_mul, eL_neg, eL_lt, eL_le, eL_eq, eL_remN, eL_mod0, ne_eq, Int64.not_lt, Int64.not_le] at c77)
            have sg : ¬ d.1 = d.2.1 := by
              have := bI_fa (b := decide (d.1 = d.2.1)) c108
              simpa using this
            rw [show ushS x d = allS from by
              unfold ushS
              rw [if_neg (fun z => sg z.1), if_neg (by omega), if_pos sg]]
            exact ⟨rfl, rfl, W133⟩
          · refine gi_aload_n (q := 112) (i := 0) C (dm_Mo_unsigned 63 rfl) rfl rfl rfl ?_
            refine gi_lconst (q := 113) (v := 0) C (dm_Mo_unsigned 64 rfl) rfl (by decide) ?_
            refine gi_lconst (q := 114) (v := 1) C (dm_Mo_unsigned 65 rfl) rfl (by decide) ?_
            refine gi_ldc2 (q := 117) C (dm_Mo_unsigned 66 rfl) rfl kc_Mo_355 ?_
            refine gi_lload (q := 119) C (dm_Mo_unsigned 67 rfl) rfl rfl ?_
            refine gi_lsub (q := 120) C (dm_Mo_unsigned 68 rfl) rfl ?_
            rw [eL_32, eL_sub]
            refine gi_l2i (q := 121) C (dm_Mo_unsigned 69 rfl) rfl ?_
            rw [eL_n32 (by omega) (by omega), show (32 - d.1 % 32).toNat = 32 - q by omega]
            refine gi_lshl (q := 122) C (dm_Mo_unsigned 70 rfl) rfl ?_
            rw [sp_shl1 _ (by omega)]
            refine gi_lconst (q := 123) (v := 1) C (dm_Mo_unsigned 71 rfl) rfl (by decide) ?_
            refine gi_lsub (q := 124) C (dm_Mo_unsigned 72 rfl) rfl ?_
            rw [eL_1, eL_sub]
            refine gi_lconst (q := 125) (v := 1) C (dm_Mo_unsigned 73 rfl) rfl (by decide) ?_
            skip
            refine gi_callv 3 (q := 128) C (dm_Mo_unsigned 74 rfl) rfl my_Mo_set lk_Mo_262 im_Mo_set rfl (c_Mo_set (0) (2 ^ (32 - q) - 1) (1) (by omega) (by omega) (by omega) (by omega) H) Ha rfl rfl ⟨(Nat.le_of_ble_eq_true rfl), (Nat.le_of_ble_eq_true rfl)⟩ (Nat.le_of_ble_eq_true rfl) ⟨(Nat.le_of_ble_eq_true rfl), (Nat.le_of_ble_eq_true rfl)⟩ (fun r125 n125 h125 e125 => ?_)
            obtain ⟨rfl, rfl, W125⟩ := e125
            refine gi_goto (tgt := 136) C (dm_Mo_unsigned 75 rfl) (by decide) ?_
            refine gi_vret C hr (dm_Mo_unsigned 79 rfl) ?_
            (try simp (disch := omega) only [lg_cmp_ge, lg_cmp_le, lg_cmp_gt, lg_cmp_lt, lg_cmp_eq, eL_0, eL_1, eL_m1, eL_LO, eL_HI, eL_W, eL_add, eL_sub, eL_mul, eL_neg, eL_lt, eL_le, eL_eq, eL_remN, eL_mod0, ne_eq, Int64.not_lt, Int64.not_le] at c16)
            (try simp (disch := omega) only [lg_cmp_ge, lg_cmp_le, lg_cmp_gt, lg_cmp_lt, lg_cmp_eq, eL_0, eL_1, eL_m1, eL_LO, eL_HI, eL_W, eL_add, eL_sub, eL_mul, eL_neg, eL_lt, eL_le, eL_eq, eL_remN, eL_mod0, ne_eq, Int64.not_lt, Int64.not_le] at c33)
            (try simp (disch := omega) only [lg_cmp_ge, lg_cmp_le, lg_cmp_gt, lg_cmp_lt, lg_cmp_eq, eL_0, eL_1, eL_m1, eL_LO, eL_HI, eL_W, eL_add, eL_sub, eL_mul, eL_neg, eL_lt, eL_le, eL_eq, eL_remN, eL_mod0, ne_eq, Int64.not_lt, Int64.not_le] at c77)
            have sg : d.1 = d.2.1 := by
              have := bI_t (b := decide (d.1 = d.2.1)) c108
              simpa using this
            rw [show ushS x d = mkS 0 (2 ^ (32 - q) - 1) 1 from by
              unfold ushS
              rw [if_neg (fun z => by first | omega | exact absurd sg (by have := bI_fa (b := decide (d.1 = d.2.1)) c9; simpa using this)), if_neg (by omega), if_neg (fun z => z sg), if_neg (by first | omega | exact absurd sg (by have := bI_fa (b := decide (d.1 = d.2.1)) c71; simpa using this)), ← eq]]
            exact ⟨rfl, rfl, W125⟩
        · (try simp (disch := omega) only [lg_cmp_ge, lg_cmp_le, lg_cmp_gt, lg_cmp_lt, lg_cmp_eq, eL_0, eL_1, eL_m1, eL_LO, eL_HI, eL_W, eL_add, eL_sub, eL_mul, eL_neg, eL_lt, eL_le, eL_eq, eL_remN, eL_mod0, ne_eq, Int64.not_lt, Int64.not_le] at c33)
          (try simp (disch := omega) only [lg_cmp_ge, lg_cmp_le, lg_cmp_gt, lg_cmp_lt, lg_cmp_eq, eL_0, eL_1, eL_m1, eL_LO, eL_HI, eL_W, eL_add, eL_sub, eL_mul, eL_neg, eL_lt, eL_le, eL_eq, eL_remN, eL_mod0, ne_eq, Int64.not_lt, Int64.not_le] at c77)
          have al := div_r (x.1 + 4294967296) q
          have ah := div_r (x.2.1 + 4294967296) q
          refine gi_aload_n (q := 81) (i := 0) C (dm_Mo_unsigned 45 rfl) rfl rfl rfl ?_
          refine gi_lload_n (q := 82) (i := 1) C (dm_Mo_unsigned 46 rfl) rfl rfl rfl ?_
          refine gi_ldc2 (q := 85) C (dm_Mo_unsigned 47 rfl) rfl kc_Mo_353 ?_
          refine gi_land (q := 86) C (dm_Mo_unsigned 48 rfl) rfl ?_
          rw [and32, show x.1 % 4294967296 = x.1 + 4294967296 by omega]
          refine gi_lload (q := 88) C (dm_Mo_unsigned 49 rfl) rfl rfl ?_
          refine gi_l2i (q := 89) C (dm_Mo_unsigned 50 rfl) rfl ?_
          rw [el5]
          refine gi_lshr (q := 90) C (dm_Mo_unsigned 51 rfl) rfl ?_
          rw [sp_shr _ (by omega) (by omega) (by omega)]
          refine gi_lload_n (q := 91) (i := 3) C (dm_Mo_unsigned 52 rfl) rfl rfl rfl ?_
          refine gi_ldc2 (q := 94) C (dm_Mo_unsigned 53 rfl) rfl kc_Mo_353 ?_
          refine gi_land (q := 95) C (dm_Mo_unsigned 54 rfl) rfl ?_
          rw [and32, show x.2.1 % 4294967296 = x.2.1 + 4294967296 by omega]
          refine gi_lload (q := 97) C (dm_Mo_unsigned 55 rfl) rfl rfl ?_
          refine gi_l2i (q := 98) C (dm_Mo_unsigned 56 rfl) rfl ?_
          rw [el5]
          refine gi_lshr (q := 99) C (dm_Mo_unsigned 57 rfl) rfl ?_
          rw [sp_shr _ (by omega) (by omega) (by omega)]
          refine gi_lconst (q := 100) (v := 1) C (dm_Mo_unsigned 58 rfl) rfl (by decide) ?_
          rw [eL_1]
          refine gi_callv 3 (q := 103) C (dm_Mo_unsigned 59 rfl) rfl my_Mo_set lk_Mo_262 im_Mo_set rfl (c_Mo_set ((x.1 + 4294967296) / 2 ^ q) ((x.2.1 + 4294967296) / 2 ^ q) (1) (by omega) (by omega) (by omega) (by omega) H) Ha rfl rfl ⟨(Nat.le_of_ble_eq_true rfl), (Nat.le_of_ble_eq_true rfl)⟩ (Nat.le_of_ble_eq_true rfl) ⟨(Nat.le_of_ble_eq_true rfl), (Nat.le_of_ble_eq_true rfl)⟩ (fun r100 n100 h100 e100 => ?_)
          obtain ⟨rfl, rfl, W100⟩ := e100
          refine gi_goto (tgt := 136) C (dm_Mo_unsigned 60 rfl) (by decide) ?_
          refine gi_vret C hr (dm_Mo_unsigned 79 rfl) ?_
          (try simp (disch := omega) only [lg_cmp_ge, lg_cmp_le, lg_cmp_gt, lg_cmp_lt, lg_cmp_eq, eL_0, eL_1, eL_m1, eL_LO, eL_HI, eL_W, eL_add, eL_sub, eL_mul, eL_neg, eL_lt, eL_le, eL_eq, eL_remN, eL_mod0, ne_eq, Int64.not_lt, Int64.not_le] at c16)
          (try simp (disch := omega) only [lg_cmp_ge, lg_cmp_le, lg_cmp_gt, lg_cmp_lt, lg_cmp_eq, eL_0, eL_1, eL_m1, eL_LO, eL_HI, eL_W, eL_add, eL_sub, eL_mul, eL_neg, eL_lt, eL_le, eL_eq, eL_remN, eL_mod0, ne_eq, Int64.not_lt, Int64.not_le] at c33)
          (try simp (disch := omega) only [lg_cmp_ge, lg_cmp_le, lg_cmp_gt, lg_cmp_lt, lg_cmp_eq, eL_0, eL_1, eL_m1, eL_LO, eL_HI, eL_W, eL_add, eL_sub, eL_mul, eL_neg, eL_lt, eL_le, eL_eq, eL_remN, eL_mod0, ne_eq, Int64.not_lt, Int64.not_le] at c77)
          have sg : d.1 = d.2.1 := by
            have := bI_t (b := decide (d.1 = d.2.1)) c71
            simpa using this
          rw [show ushS x d = mkS ((x.1 + 4294967296) / 2 ^ q) ((x.2.1 + 4294967296) / 2 ^ q) 1 from by
            unfold ushS
            rw [if_neg (fun z => by first | omega | exact absurd sg (by have := bI_fa (b := decide (d.1 = d.2.1)) c9; simpa using this)), if_neg (by omega), if_neg (fun z => z sg), if_pos (by omega), ← eq]]
          exact ⟨rfl, rfl, W100⟩
    · refine gi_iload (q := 38) C (dm_Mo_unsigned 19 rfl) rfl rfl ?_
      refine gi_if_eq (q := 41) (tgt := 59) C (dm_Mo_unsigned 20 rfl) rfl (by decide) (fun c38 => ?_) (fun c38 => ?_)
      · refine gi_aload_n (q := 60) (i := 0) C (dm_Mo_unsigned 33 rfl) rfl rfl rfl ?_
        refine gi_lconst (q := 61) (v := 0) C (dm_Mo_unsigned 34 rfl) rfl (by decide) ?_
        refine gi_lload_n (q := 62) (i := 3) C (dm_Mo_unsigned 35 rfl) rfl rfl rfl ?_
        refine gi_lconst (q := 63) (v := 1) C (dm_Mo_unsigned 36 rfl) rfl (by decide) ?_
        rw [eL_1]
        refine gi_callv 3 (q := 66) C (dm_Mo_unsigned 37 rfl) rfl my_Mo_set lk_Mo_262 im_Mo_set rfl (c_Mo_set (0) (x.2.1) (1) (by omega) (by omega) (by omega) (by omega) H) Ha rfl rfl ⟨(Nat.le_of_ble_eq_true rfl), (Nat.le_of_ble_eq_true rfl)⟩ (Nat.le_of_ble_eq_true rfl) ⟨(Nat.le_of_ble_eq_true rfl), (Nat.le_of_ble_eq_true rfl)⟩ (fun r63 n63 h63 e63 => ?_)
        obtain ⟨rfl, rfl, W63⟩ := e63
        refine gi_goto (tgt := 136) C (dm_Mo_unsigned 38 rfl) (by decide) ?_
        refine gi_vret C hr (dm_Mo_unsigned 79 rfl) ?_
        (try simp (disch := omega) only [lg_cmp_ge, lg_cmp_le, lg_cmp_gt, lg_cmp_lt, lg_cmp_eq, eL_0, eL_1, eL_m1, eL_LO, eL_HI, eL_W, eL_add, eL_sub, eL_mul, eL_neg, eL_lt, eL_le, eL_eq, eL_remN, eL_mod0, ne_eq, Int64.not_lt, Int64.not_le] at c16)
        (try simp (disch := omega) only [lg_cmp_ge, lg_cmp_le, lg_cmp_gt, lg_cmp_lt, lg_cmp_eq, eL_0, eL_1, eL_m1, eL_LO, eL_HI, eL_W, eL_add, eL_sub, eL_mul, eL_neg, eL_lt, eL_le, eL_eq, eL_remN, eL_mod0, ne_eq, Int64.not_lt, Int64.not_le] at c33)
        (try simp (disch := omega) only [lg_cmp_ge, lg_cmp_le, lg_cmp_gt, lg_cmp_lt, lg_cmp_eq, eL_0, eL_1, eL_m1, eL_LO, eL_HI, eL_W, eL_add, eL_sub, eL_mul, eL_neg, eL_lt, eL_le, eL_eq, eL_remN, eL_mod0, ne_eq, Int64.not_lt, Int64.not_le] at c77)
        have sg : ¬ d.1 = d.2.1 := by
          have := bI_fa (b := decide (d.1 = d.2.1)) c38
          simpa using this
        rw [show ushS x d = mkS 0 x.2.1 1 from by
          unfold ushS shrS
          rw [if_neg (fun z => sg z.1), if_pos (by omega), if_neg sg, if_pos (by omega), show min x.1 0 = 0 by omega]]
        exact ⟨rfl, rfl, W63⟩
      · refine gi_aload_n (q := 42) (i := 0) C (dm_Mo_unsigned 21 rfl) rfl rfl rfl ?_
        refine gi_lload_n (q := 43) (i := 1) C (dm_Mo_unsigned 22 rfl) rfl rfl rfl ?_
        refine gi_lload (q := 45) C (dm_Mo_unsigned 23 rfl) rfl rfl ?_
        refine gi_l2i (q := 46) C (dm_Mo_unsigned 24 rfl) rfl ?_
        rw [el5]
        refine gi_lshr (q := 47) C (dm_Mo_unsigned 25 rfl) rfl ?_
        rw [sp_shr _ (by omega) (by omega) (by omega)]
        refine gi_lload_n (q := 48) (i := 3) C (dm_Mo_unsigned 26 rfl) rfl rfl rfl ?_
        refine gi_lload (q := 50) C (dm_Mo_unsigned 27 rfl) rfl rfl ?_
        refine gi_l2i (q := 51) C (dm_Mo_unsigned 28 rfl) rfl ?_
        rw [el5]
        refine gi_lshr (q := 52) C (dm_Mo_unsigned 29 rfl) rfl ?_
        rw [sp_shr _ (by omega) (by omega) (by omega)]
        refine gi_lconst (q := 53) (v := 1) C (dm_Mo_unsigned 30 rfl) rfl (by decide) ?_
        rw [eL_1]
        refine gi_callv 3 (q := 56) C (dm_Mo_unsigned 31 rfl) rfl my_Mo_set lk_Mo_262 im_Mo_set rfl (c_Mo_set (x.1 / 2 ^ q) (x.2.1 / 2 ^ q) (1) (by omega) (by omega) (by omega) (by omega) H) Ha rfl rfl ⟨(Nat.le_of_ble_eq_true rfl), (Nat.le_of_ble_eq_true rfl)⟩ (Nat.le_of_ble_eq_true rfl) ⟨(Nat.le_of_ble_eq_true rfl), (Nat.le_of_ble_eq_true rfl)⟩ (fun r53 n53 h53 e53 => ?_)
        obtain ⟨rfl, rfl, W53⟩ := e53
        refine gi_goto (tgt := 136) C (dm_Mo_unsigned 32 rfl) (by decide) ?_
        refine gi_vret C hr (dm_Mo_unsigned 79 rfl) ?_
        (try simp (disch := omega) only [lg_cmp_ge, lg_cmp_le, lg_cmp_gt, lg_cmp_lt, lg_cmp_eq, eL_0, eL_1, eL_m1, eL_LO, eL_HI, eL_W, eL_add, eL_sub, eL_mul, eL_neg, eL_lt, eL_le, eL_eq, eL_remN, eL_mod0, ne_eq, Int64.not_lt, Int64.not_le] at c16)
        (try simp (disch := omega) only [lg_cmp_ge, lg_cmp_le, lg_cmp_gt, lg_cmp_lt, lg_cmp_eq, eL_0, eL_1, eL_m1, eL_LO, eL_HI, eL_W, eL_add, eL_sub, eL_mul, eL_neg, eL_lt, eL_le, eL_eq, eL_remN, eL_mod0, ne_eq, Int64.not_lt, Int64.not_le] at c33)
        (try simp (disch := omega) only [lg_cmp_ge, lg_cmp_le, lg_cmp_gt, lg_cmp_lt, lg_cmp_eq, eL_0, eL_1, eL_m1, eL_LO, eL_HI, eL_W, eL_add, eL_sub, eL_mul, eL_neg, eL_lt, eL_le, eL_eq, eL_remN, eL_mod0, ne_eq, Int64.not_lt, Int64.not_le] at c77)
        have sg : d.1 = d.2.1 := by
          have := bI_t (b := decide (d.1 = d.2.1)) c38
          simpa using this
        rw [show ushS x d = mkS (x.1 / 2 ^ q) (x.2.1 / 2 ^ q) 1 from by
          unfold ushS shrS
          rw [if_neg (fun z => by first | omega | exact absurd sg (by have := bI_fa (b := decide (d.1 = d.2.1)) c9; simpa using this)), if_pos (by omega), if_pos sg, ← eq]]
        exact ⟨rfl, rfl, W53⟩
  · refine gi_lload (q := 14) C (dm_Mo_unsigned 5 rfl) rfl rfl ?_
    refine gi_lconst (q := 15) (v := 0) C (dm_Mo_unsigned 6 rfl) rfl (by decide) ?_
    refine gi_lcmp (q := 16) C (dm_Mo_unsigned 7 rfl) rfl ?_
    refine gi_if_ne (q := 19) (tgt := 30) C (dm_Mo_unsigned 8 rfl) rfl (by decide) (fun c16 => ?_) (fun c16 => ?_)
    · refine gi_lload_n (q := 31) (i := 1) C (dm_Mo_unsigned 15 rfl) rfl rfl rfl ?_
      refine gi_lconst (q := 32) (v := 0) C (dm_Mo_unsigned 16 rfl) rfl (by decide) ?_
      refine gi_lcmp (q := 33) C (dm_Mo_unsigned 17 rfl) rfl ?_
      refine gi_if_lt (q := 36) (tgt := 69) C (dm_Mo_unsigned 18 rfl) rfl (by decide) (fun c33 => ?_) (fun c33 => ?_)
      · refine gi_iload (q := 71) C (dm_Mo_unsigned 39 rfl) rfl rfl ?_
        refine gi_if_eq (q := 74) (tgt := 106) C (dm_Mo_unsigned 40 rfl) rfl (by decide) (fun c71 => ?_) (fun c71 => ?_)
        · refine gi_iload (q := 108) C (dm_Mo_unsigned 61 rfl) rfl rfl ?_
          refine gi_if_eq (q := 111) (tgt := 131) C (dm_Mo_unsigned 62 rfl) rfl (by decide) (fun c108 => ?_) (fun c108 => ?_)
          · refine gi_aload_n (q := 132) (i := 0) C (dm_Mo_unsigned 76 rfl) rfl rfl rfl ?_
            refine gi_lconst (q := 133) (v := 1) C (dm_Mo_unsigned 77 rfl) rfl (by decide) ?_
            rw [eL_1]
            refine gi_callv 1 (q := 136) C (dm_Mo_unsigned 78 rfl) rfl my_Mo_all lk_Mo_295 im_Mo_all rfl (c_Mo_all H) Ha rfl rfl ⟨(Nat.le_of_ble_eq_true rfl), (Nat.le_of_ble_eq_true rfl)⟩ (Nat.le_of_ble_eq_true rfl) ⟨(Nat.le_of_ble_eq_true rfl), (Nat.le_of_ble_eq_true rfl)⟩ (fun r133 n133 h133 e133 => ?_)
            obtain ⟨rfl, rfl, W133⟩ := e133
            refine gi_vret C hr (dm_Mo_unsigned 79 rfl) ?_
            (try simp (disch := omega) only [lg_cmp_ge, lg_cmp_le, lg_cmp_gt, lg_cmp_lt, lg_cmp_eq, eL_0, eL_1, eL_m1, eL_LO, eL_HI, eL_W, eL_add, eL_sub, eL_mul, eL_neg, eL_lt, eL_le, eL_eq, eL_remN, eL_mod0, ne_eq, Int64.not_lt, Int64.not_le] at c16)
            (try simp (disch := omega) only [lg_cmp_ge, lg_cmp_le, lg_cmp_gt, lg_cmp_lt, lg_cmp_eq, eL_0, eL_1, eL_m1, eL_LO, eL_HI, eL_W, eL_add, eL_sub, eL_mul, eL_neg, eL_lt, eL_le, eL_eq, eL_remN, eL_mod0, ne_eq, Int64.not_lt, Int64.not_le] at c33)
            (try simp (disch := omega) only [lg_cmp_ge, lg_cmp_le, lg_cmp_gt, lg_cmp_lt, lg_cmp_eq, eL_0, eL_1, eL_m1, eL_LO, eL_HI, eL_W, eL_add, eL_sub, eL_mul, eL_neg, eL_lt, eL_le, eL_eq, eL_remN, eL_mod0, ne_eq, Int64.not_lt, Int64.not_le] at c77)
            have sg : ¬ d.1 = d.2.1 := by
              have := bI_fa (b := decide (d.1 = d.2.1)) c108
              simpa using this
            rw [show ushS x d = allS from by
              unfold ushS
              rw [if_neg (fun z => sg z.1), if_neg (by omega), if_pos sg]]
            exact ⟨rfl, rfl, W133⟩
          · refine gi_aload_n (q := 112) (i := 0) C (dm_Mo_unsigned 63 rfl) rfl rfl rfl ?_
            refine gi_lconst (q := 113) (v := 0) C (dm_Mo_unsigned 64 rfl) rfl (by decide) ?_
            refine gi_lconst (q := 114) (v := 1) C (dm_Mo_unsigned 65 rfl) rfl (by decide) ?_
            refine gi_ldc2 (q := 117) C (dm_Mo_unsigned 66 rfl) rfl kc_Mo_355 ?_
            refine gi_lload (q := 119) C (dm_Mo_unsigned 67 rfl) rfl rfl ?_
            refine gi_lsub (q := 120) C (dm_Mo_unsigned 68 rfl) rfl ?_
            rw [eL_32, eL_sub]
            refine gi_l2i (q := 121) C (dm_Mo_unsigned 69 rfl) rfl ?_
            rw [eL_n32 (by omega) (by omega), show (32 - d.1 % 32).toNat = 32 - q by omega]
            refine gi_lshl (q := 122) C (dm_Mo_unsigned 70 rfl) rfl ?_
            rw [sp_shl1 _ (by omega)]
            refine gi_lconst (q := 123) (v := 1) C (dm_Mo_unsigned 71 rfl) rfl (by decide) ?_
            refine gi_lsub (q := 124) C (dm_Mo_unsigned 72 rfl) rfl ?_
            rw [eL_1, eL_sub]
            refine gi_lconst (q := 125) (v := 1) C (dm_Mo_unsigned 73 rfl) rfl (by decide) ?_
            skip
            refine gi_callv 3 (q := 128) C (dm_Mo_unsigned 74 rfl) rfl my_Mo_set lk_Mo_262 im_Mo_set rfl (c_Mo_set (0) (2 ^ (32 - q) - 1) (1) (by omega) (by omega) (by omega) (by omega) H) Ha rfl rfl ⟨(Nat.le_of_ble_eq_true rfl), (Nat.le_of_ble_eq_true rfl)⟩ (Nat.le_of_ble_eq_true rfl) ⟨(Nat.le_of_ble_eq_true rfl), (Nat.le_of_ble_eq_true rfl)⟩ (fun r125 n125 h125 e125 => ?_)
            obtain ⟨rfl, rfl, W125⟩ := e125
            refine gi_goto (tgt := 136) C (dm_Mo_unsigned 75 rfl) (by decide) ?_
            refine gi_vret C hr (dm_Mo_unsigned 79 rfl) ?_
            (try simp (disch := omega) only [lg_cmp_ge, lg_cmp_le, lg_cmp_gt, lg_cmp_lt, lg_cmp_eq, eL_0, eL_1, eL_m1, eL_LO, eL_HI, eL_W, eL_add, eL_sub, eL_mul, eL_neg, eL_lt, eL_le, eL_eq, eL_remN, eL_mod0, ne_eq, Int64.not_lt, Int64.not_le] at c16)
            (try simp (disch := omega) only [lg_cmp_ge, lg_cmp_le, lg_cmp_gt, lg_cmp_lt, lg_cmp_eq, eL_0, eL_1, eL_m1, eL_LO, eL_HI, eL_W, eL_add, eL_sub, eL_mul, eL_neg, eL_lt, eL_le, eL_eq, eL_remN, eL_mod0, ne_eq, Int64.not_lt, Int64.not_le] at c33)
            (try simp (disch := omega) only [lg_cmp_ge, lg_cmp_le, lg_cmp_gt, lg_cmp_lt, lg_cmp_eq, eL_0, eL_1, eL_m1, eL_LO, eL_HI, eL_W, eL_add, eL_sub, eL_mul, eL_neg, eL_lt, eL_le, eL_eq, eL_remN, eL_mod0, ne_eq, Int64.not_lt, Int64.not_le] at c77)
            have sg : d.1 = d.2.1 := by
              have := bI_t (b := decide (d.1 = d.2.1)) c108
              simpa using this
            rw [show ushS x d = mkS 0 (2 ^ (32 - q) - 1) 1 from by
              unfold ushS
              rw [if_neg (fun z => by first | omega | exact absurd sg (by have := bI_fa (b := decide (d.1 = d.2.1)) c9; simpa using this)), if_neg (by omega), if_neg (fun z => z sg), if_neg (by first | omega | exact absurd sg (by have := bI_fa (b := decide (d.1 = d.2.1)) c71; simpa using this)), ← eq]]
            exact ⟨rfl, rfl, W125⟩
        · refine gi_lload_n (q := 75) (i := 3) C (dm_Mo_unsigned 41 rfl) rfl rfl rfl ?_
          refine gi_lconst (q := 76) (v := 0) C (dm_Mo_unsigned 42 rfl) rfl (by decide) ?_
          refine gi_lcmp (q := 77) C (dm_Mo_unsigned 43 rfl) rfl ?_
          refine gi_if_ge (q := 80) (tgt := 106) C (dm_Mo_unsigned 44 rfl) rfl (by decide) (fun c77 => ?_) (fun c77 => ?_)
          · refine gi_iload (q := 108) C (dm_Mo_unsigned 61 rfl) rfl rfl ?_
            refine gi_if_eq (q := 111) (tgt := 131) C (dm_Mo_unsigned 62 rfl) rfl (by decide) (fun c108 => ?_) (fun c108 => ?_)
            · refine gi_aload_n (q := 132) (i := 0) C (dm_Mo_unsigned 76 rfl) rfl rfl rfl ?_
              refine gi_lconst (q := 133) (v := 1) C (dm_Mo_unsigned 77 rfl) rfl (by decide) ?_
              rw [eL_1]
              refine gi_callv 1 (q := 136) C (dm_Mo_unsigned 78 rfl) rfl my_Mo_all lk_Mo_295 im_Mo_all rfl (c_Mo_all H) Ha rfl rfl ⟨(Nat.le_of_ble_eq_true rfl), (Nat.le_of_ble_eq_true rfl)⟩ (Nat.le_of_ble_eq_true rfl) ⟨(Nat.le_of_ble_eq_true rfl), (Nat.le_of_ble_eq_true rfl)⟩ (fun r133 n133 h133 e133 => ?_)
              obtain ⟨rfl, rfl, W133⟩ := e133
              refine gi_vret C hr (dm_Mo_unsigned 79 rfl) ?_
              (try simp (disch := omega) only [lg_cmp_ge, lg_cmp_le, lg_cmp_gt, lg_cmp_lt, lg_cmp_eq, eL_0, eL_1, eL_m1, eL_LO, eL_HI, eL_W, eL_add, eL_sub, eL_mul, eL_neg, eL_lt, eL_le, eL_eq, eL_remN, eL_mod0, ne_eq, Int64.not_lt, Int64.not_le] at c16)
              (try simp (disch := omega) only [lg_cmp_ge, lg_cmp_le, lg_cmp_gt, lg_cmp_lt, lg_cmp_eq, eL_0, eL_1, eL_m1, eL_LO, eL_HI, eL_W, eL_add, eL_sub, eL_mul, eL_neg, eL_lt, eL_le, eL_eq, eL_remN, eL_mod0, ne_eq, Int64.not_lt, Int64.not_le] at c33)
              (try simp (disch := omega) only [lg_cmp_ge, lg_cmp_le, lg_cmp_gt, lg_cmp_lt, lg_cmp_eq, eL_0, eL_1, eL_m1, eL_LO, eL_HI, eL_W, eL_add, eL_sub, eL_mul, eL_neg, eL_lt, eL_le, eL_eq, eL_remN, eL_mod0, ne_eq, Int64.not_lt, Int64.not_le] at c77)
              have sg : ¬ d.1 = d.2.1 := by
                have := bI_fa (b := decide (d.1 = d.2.1)) c108
                simpa using this
              rw [show ushS x d = allS from by
                unfold ushS
                rw [if_neg (fun z => sg z.1), if_neg (by omega), if_pos sg]]
              exact ⟨rfl, rfl, W133⟩
            · refine gi_aload_n (q := 112) (i := 0) C (dm_Mo_unsigned 63 rfl) rfl rfl rfl ?_
              refine gi_lconst (q := 113) (v := 0) C (dm_Mo_unsigned 64 rfl) rfl (by decide) ?_
              refine gi_lconst (q := 114) (v := 1) C (dm_Mo_unsigned 65 rfl) rfl (by decide) ?_
              refine gi_ldc2 (q := 117) C (dm_Mo_unsigned 66 rfl) rfl kc_Mo_355 ?_
              refine gi_lload (q := 119) C (dm_Mo_unsigned 67 rfl) rfl rfl ?_
              refine gi_lsub (q := 120) C (dm_Mo_unsigned 68 rfl) rfl ?_
              rw [eL_32, eL_sub]
              refine gi_l2i (q := 121) C (dm_Mo_unsigned 69 rfl) rfl ?_
              rw [eL_n32 (by omega) (by omega), show (32 - d.1 % 32).toNat = 32 - q by omega]
              refine gi_lshl (q := 122) C (dm_Mo_unsigned 70 rfl) rfl ?_
              rw [sp_shl1 _ (by omega)]
              refine gi_lconst (q := 123) (v := 1) C (dm_Mo_unsigned 71 rfl) rfl (by decide) ?_
              refine gi_lsub (q := 124) C (dm_Mo_unsigned 72 rfl) rfl ?_
              rw [eL_1, eL_sub]
              refine gi_lconst (q := 125) (v := 1) C (dm_Mo_unsigned 73 rfl) rfl (by decide) ?_
              skip
              refine gi_callv 3 (q := 128) C (dm_Mo_unsigned 74 rfl) rfl my_Mo_set lk_Mo_262 im_Mo_set rfl (c_Mo_set (0) (2 ^ (32 - q) - 1) (1) (by omega) (by omega) (by omega) (by omega) H) Ha rfl rfl ⟨(Nat.le_of_ble_eq_true rfl), (Nat.le_of_ble_eq_true rfl)⟩ (Nat.le_of_ble_eq_true rfl) ⟨(Nat.le_of_ble_eq_true rfl), (Nat.le_of_ble_eq_true rfl)⟩ (fun r125 n125 h125 e125 => ?_)
              obtain ⟨rfl, rfl, W125⟩ := e125
              refine gi_goto (tgt := 136) C (dm_Mo_unsigned 75 rfl) (by decide) ?_
              refine gi_vret C hr (dm_Mo_unsigned 79 rfl) ?_
              (try simp (disch := omega) only [lg_cmp_ge, lg_cmp_le, lg_cmp_gt, lg_cmp_lt, lg_cmp_eq, eL_0, eL_1, eL_m1, eL_LO, eL_HI, eL_W, eL_add, eL_sub, eL_mul, eL_neg, eL_lt, eL_le, eL_eq, eL_remN, eL_mod0, ne_eq, Int64.not_lt, Int64.not_le] at c16)
              (try simp (disch := omega) only [lg_cmp_ge, lg_cmp_le, lg_cmp_gt, lg_cmp_lt, lg_cmp_eq, eL_0, eL_1, eL_m1, eL_LO, eL_HI, eL_W, eL_add, eL_sub, eL_mul, eL_neg, eL_lt, eL_le, eL_eq, eL_remN, eL_mod0, ne_eq, Int64.not_lt, Int64.not_le] at c33)
              (try simp (disch := omega) only [lg_cmp_ge, lg_cmp_le, lg_cmp_gt, lg_cmp_lt, lg_cmp_eq, eL_0, eL_1, eL_m1, eL_LO, eL_HI, eL_W, eL_add, eL_sub, eL_mul, eL_neg, eL_lt, eL_le, eL_eq, eL_remN, eL_mod0, ne_eq, Int64.not_lt, Int64.not_le] at c77)
              have sg : d.1 = d.2.1 := by
                have := bI_t (b := decide (d.1 = d.2.1)) c108
                simpa using this
              rw [show ushS x d = mkS 0 (2 ^ (32 - q) - 1) 1 from by
                unfold ushS
                rw [if_neg (fun z => by first | omega | exact absurd sg (by have := bI_fa (b := decide (d.1 = d.2.1)) c9; simpa using this)), if_neg (by omega), if_neg (fun z => z sg), if_neg (by first | omega | exact absurd sg (by have := bI_fa (b := decide (d.1 = d.2.1)) c71; simpa using this)), ← eq]]
              exact ⟨rfl, rfl, W125⟩
          · (try simp (disch := omega) only [lg_cmp_ge, lg_cmp_le, lg_cmp_gt, lg_cmp_lt, lg_cmp_eq, eL_0, eL_1, eL_m1, eL_LO, eL_HI, eL_W, eL_add, eL_sub, eL_mul, eL_neg, eL_lt, eL_le, eL_eq, eL_remN, eL_mod0, ne_eq, Int64.not_lt, Int64.not_le] at c33)
            (try simp (disch := omega) only [lg_cmp_ge, lg_cmp_le, lg_cmp_gt, lg_cmp_lt, lg_cmp_eq, eL_0, eL_1, eL_m1, eL_LO, eL_HI, eL_W, eL_add, eL_sub, eL_mul, eL_neg, eL_lt, eL_le, eL_eq, eL_remN, eL_mod0, ne_eq, Int64.not_lt, Int64.not_le] at c77)
            have al := div_r (x.1 + 4294967296) q
            have ah := div_r (x.2.1 + 4294967296) q
            refine gi_aload_n (q := 81) (i := 0) C (dm_Mo_unsigned 45 rfl) rfl rfl rfl ?_
            refine gi_lload_n (q := 82) (i := 1) C (dm_Mo_unsigned 46 rfl) rfl rfl rfl ?_
            refine gi_ldc2 (q := 85) C (dm_Mo_unsigned 47 rfl) rfl kc_Mo_353 ?_
            refine gi_land (q := 86) C (dm_Mo_unsigned 48 rfl) rfl ?_
            rw [and32, show x.1 % 4294967296 = x.1 + 4294967296 by omega]
            refine gi_lload (q := 88) C (dm_Mo_unsigned 49 rfl) rfl rfl ?_
            refine gi_l2i (q := 89) C (dm_Mo_unsigned 50 rfl) rfl ?_
            rw [el5]
            refine gi_lshr (q := 90) C (dm_Mo_unsigned 51 rfl) rfl ?_
            rw [sp_shr _ (by omega) (by omega) (by omega)]
            refine gi_lload_n (q := 91) (i := 3) C (dm_Mo_unsigned 52 rfl) rfl rfl rfl ?_
            refine gi_ldc2 (q := 94) C (dm_Mo_unsigned 53 rfl) rfl kc_Mo_353 ?_
            refine gi_land (q := 95) C (dm_Mo_unsigned 54 rfl) rfl ?_
            rw [and32, show x.2.1 % 4294967296 = x.2.1 + 4294967296 by omega]
            refine gi_lload (q := 97) C (dm_Mo_unsigned 55 rfl) rfl rfl ?_
            refine gi_l2i (q := 98) C (dm_Mo_unsigned 56 rfl) rfl ?_
            rw [el5]
            refine gi_lshr (q := 99) C (dm_Mo_unsigned 57 rfl) rfl ?_
            rw [sp_shr _ (by omega) (by omega) (by omega)]
            refine gi_lconst (q := 100) (v := 1) C (dm_Mo_unsigned 58 rfl) rfl (by decide) ?_
            rw [eL_1]
            refine gi_callv 3 (q := 103) C (dm_Mo_unsigned 59 rfl) rfl my_Mo_set lk_Mo_262 im_Mo_set rfl (c_Mo_set ((x.1 + 4294967296) / 2 ^ q) ((x.2.1 + 4294967296) / 2 ^ q) (1) (by omega) (by omega) (by omega) (by omega) H) Ha rfl rfl ⟨(Nat.le_of_ble_eq_true rfl), (Nat.le_of_ble_eq_true rfl)⟩ (Nat.le_of_ble_eq_true rfl) ⟨(Nat.le_of_ble_eq_true rfl), (Nat.le_of_ble_eq_true rfl)⟩ (fun r100 n100 h100 e100 => ?_)
            obtain ⟨rfl, rfl, W100⟩ := e100
            refine gi_goto (tgt := 136) C (dm_Mo_unsigned 60 rfl) (by decide) ?_
            refine gi_vret C hr (dm_Mo_unsigned 79 rfl) ?_
            (try simp (disch := omega) only [lg_cmp_ge, lg_cmp_le, lg_cmp_gt, lg_cmp_lt, lg_cmp_eq, eL_0, eL_1, eL_m1, eL_LO, eL_HI, eL_W, eL_add, eL_sub, eL_mul, eL_neg, eL_lt, eL_le, eL_eq, eL_remN, eL_mod0, ne_eq, Int64.not_lt, Int64.not_le] at c16)
            (try simp (disch := omega) only [lg_cmp_ge, lg_cmp_le, lg_cmp_gt, lg_cmp_lt, lg_cmp_eq, eL_0, eL_1, eL_m1, eL_LO, eL_HI, eL_W, eL_add, eL_sub, eL_mul, eL_neg, eL_lt, eL_le, eL_eq, eL_remN, eL_mod0, ne_eq, Int64.not_lt, Int64.not_le] at c33)
            (try simp (disch := omega) only [lg_cmp_ge, lg_cmp_le, lg_cmp_gt, lg_cmp_lt, lg_cmp_eq, eL_0, eL_1, eL_m1, eL_LO, eL_HI, eL_W, eL_add, eL_sub, eL_mul, eL_neg, eL_lt, eL_le, eL_eq, eL_remN, eL_mod0, ne_eq, Int64.not_lt, Int64.not_le] at c77)
            have sg : d.1 = d.2.1 := by
              have := bI_t (b := decide (d.1 = d.2.1)) c71
              simpa using this
            rw [show ushS x d = mkS ((x.1 + 4294967296) / 2 ^ q) ((x.2.1 + 4294967296) / 2 ^ q) 1 from by
              unfold ushS
              rw [if_neg (fun z => by first | omega | exact absurd sg (by have := bI_fa (b := decide (d.1 = d.2.1)) c9; simpa using this)), if_neg (by omega), if_neg (fun z => z sg), if_pos (by omega), ← eq]]
            exact ⟨rfl, rfl, W100⟩
      · refine gi_iload (q := 38) C (dm_Mo_unsigned 19 rfl) rfl rfl ?_
        refine gi_if_eq (q := 41) (tgt := 59) C (dm_Mo_unsigned 20 rfl) rfl (by decide) (fun c38 => ?_) (fun c38 => ?_)
        · refine gi_aload_n (q := 60) (i := 0) C (dm_Mo_unsigned 33 rfl) rfl rfl rfl ?_
          refine gi_lconst (q := 61) (v := 0) C (dm_Mo_unsigned 34 rfl) rfl (by decide) ?_
          refine gi_lload_n (q := 62) (i := 3) C (dm_Mo_unsigned 35 rfl) rfl rfl rfl ?_
          refine gi_lconst (q := 63) (v := 1) C (dm_Mo_unsigned 36 rfl) rfl (by decide) ?_
          rw [eL_1]
          refine gi_callv 3 (q := 66) C (dm_Mo_unsigned 37 rfl) rfl my_Mo_set lk_Mo_262 im_Mo_set rfl (c_Mo_set (0) (x.2.1) (1) (by omega) (by omega) (by omega) (by omega) H) Ha rfl rfl ⟨(Nat.le_of_ble_eq_true rfl), (Nat.le_of_ble_eq_true rfl)⟩ (Nat.le_of_ble_eq_true rfl) ⟨(Nat.le_of_ble_eq_true rfl), (Nat.le_of_ble_eq_true rfl)⟩ (fun r63 n63 h63 e63 => ?_)
          obtain ⟨rfl, rfl, W63⟩ := e63
          refine gi_goto (tgt := 136) C (dm_Mo_unsigned 38 rfl) (by decide) ?_
          refine gi_vret C hr (dm_Mo_unsigned 79 rfl) ?_
          (try simp (disch := omega) only [lg_cmp_ge, lg_cmp_le, lg_cmp_gt, lg_cmp_lt, lg_cmp_eq, eL_0, eL_1, eL_m1, eL_LO, eL_HI, eL_W, eL_add, eL_sub, eL_mul, eL_neg, eL_lt, eL_le, eL_eq, eL_remN, eL_mod0, ne_eq, Int64.not_lt, Int64.not_le] at c16)
          (try simp (disch := omega) only [lg_cmp_ge, lg_cmp_le, lg_cmp_gt, lg_cmp_lt, lg_cmp_eq, eL_0, eL_1, eL_m1, eL_LO, eL_HI, eL_W, eL_add, eL_sub, eL_mul, eL_neg, eL_lt, eL_le, eL_eq, eL_remN, eL_mod0, ne_eq, Int64.not_lt, Int64.not_le] at c33)
          (try simp (disch := omega) only [lg_cmp_ge, lg_cmp_le, lg_cmp_gt, lg_cmp_lt, lg_cmp_eq, eL_0, eL_1, eL_m1, eL_LO, eL_HI, eL_W, eL_add, eL_sub, eL_mul, eL_neg, eL_lt, eL_le, eL_eq, eL_remN, eL_mod0, ne_eq, Int64.not_lt, Int64.not_le] at c77)
          have sg : ¬ d.1 = d.2.1 := by
            have := bI_fa (b := decide (d.1 = d.2.1)) c38
            simpa using this
          rw [show ushS x d = mkS 0 x.2.1 1 from by
            unfold ushS shrS
            rw [if_neg (fun z => sg z.1), if_pos (by omega), if_neg sg, if_pos (by omega), show min x.1 0 = 0 by omega]]
          exact ⟨rfl, rfl, W63⟩
        · refine gi_aload_n (q := 42) (i := 0) C (dm_Mo_unsigned 21 rfl) rfl rfl rfl ?_
          refine gi_lload_n (q := 43) (i := 1) C (dm_Mo_unsigned 22 rfl) rfl rfl rfl ?_
          refine gi_lload (q := 45) C (dm_Mo_unsigned 23 rfl) rfl rfl ?_
          refine gi_l2i (q := 46) C (dm_Mo_unsigned 24 rfl) rfl ?_
          rw [el5]
          refine gi_lshr (q := 47) C (dm_Mo_unsigned 25 rfl) rfl ?_
          rw [sp_shr _ (by omega) (by omega) (by omega)]
          refine gi_lload_n (q := 48) (i := 3) C (dm_Mo_unsigned 26 rfl) rfl rfl rfl ?_
          refine gi_lload (q := 50) C (dm_Mo_unsigned 27 rfl) rfl rfl ?_
          refine gi_l2i (q := 51) C (dm_Mo_unsigned 28 rfl) rfl ?_
          rw [el5]
          refine gi_lshr (q := 52) C (dm_Mo_unsigned 29 rfl) rfl ?_
          rw [sp_shr _ (by omega) (by omega) (by omega)]
          refine gi_lconst (q := 53) (v := 1) C (dm_Mo_unsigned 30 rfl) rfl (by decide) ?_
          rw [eL_1]
          refine gi_callv 3 (q := 56) C (dm_Mo_unsigned 31 rfl) rfl my_Mo_set lk_Mo_262 im_Mo_set rfl (c_Mo_set (x.1 / 2 ^ q) (x.2.1 / 2 ^ q) (1) (by omega) (by omega) (by omega) (by omega) H) Ha rfl rfl ⟨(Nat.le_of_ble_eq_true rfl), (Nat.le_of_ble_eq_true rfl)⟩ (Nat.le_of_ble_eq_true rfl) ⟨(Nat.le_of_ble_eq_true rfl), (Nat.le_of_ble_eq_true rfl)⟩ (fun r53 n53 h53 e53 => ?_)
          obtain ⟨rfl, rfl, W53⟩ := e53
          refine gi_goto (tgt := 136) C (dm_Mo_unsigned 32 rfl) (by decide) ?_
          refine gi_vret C hr (dm_Mo_unsigned 79 rfl) ?_
          (try simp (disch := omega) only [lg_cmp_ge, lg_cmp_le, lg_cmp_gt, lg_cmp_lt, lg_cmp_eq, eL_0, eL_1, eL_m1, eL_LO, eL_HI, eL_W, eL_add, eL_sub, eL_mul, eL_neg, eL_lt, eL_le, eL_eq, eL_remN, eL_mod0, ne_eq, Int64.not_lt, Int64.not_le] at c16)
          (try simp (disch := omega) only [lg_cmp_ge, lg_cmp_le, lg_cmp_gt, lg_cmp_lt, lg_cmp_eq, eL_0, eL_1, eL_m1, eL_LO, eL_HI, eL_W, eL_add, eL_sub, eL_mul, eL_neg, eL_lt, eL_le, eL_eq, eL_remN, eL_mod0, ne_eq, Int64.not_lt, Int64.not_le] at c33)
          (try simp (disch := omega) only [lg_cmp_ge, lg_cmp_le, lg_cmp_gt, lg_cmp_lt, lg_cmp_eq, eL_0, eL_1, eL_m1, eL_LO, eL_HI, eL_W, eL_add, eL_sub, eL_mul, eL_neg, eL_lt, eL_le, eL_eq, eL_remN, eL_mod0, ne_eq, Int64.not_lt, Int64.not_le] at c77)
          have sg : d.1 = d.2.1 := by
            have := bI_t (b := decide (d.1 = d.2.1)) c38
            simpa using this
          rw [show ushS x d = mkS (x.1 / 2 ^ q) (x.2.1 / 2 ^ q) 1 from by
            unfold ushS shrS
            rw [if_neg (fun z => by first | omega | exact absurd sg (by have := bI_fa (b := decide (d.1 = d.2.1)) c9; simpa using this)), if_pos (by omega), if_pos sg, ← eq]]
          exact ⟨rfl, rfl, W53⟩
    · refine gi_aload_n (q := 20) (i := 0) C (dm_Mo_unsigned 9 rfl) rfl rfl rfl ?_
      refine gi_lload_n (q := 21) (i := 1) C (dm_Mo_unsigned 10 rfl) rfl rfl rfl ?_
      refine gi_lload_n (q := 22) (i := 3) C (dm_Mo_unsigned 11 rfl) rfl rfl rfl ?_
      refine gi_lload (q := 24) C (dm_Mo_unsigned 12 rfl) rfl rfl ?_
      refine gi_callv 3 (q := 27) C (dm_Mo_unsigned 13 rfl) rfl my_Mo_set lk_Mo_262 im_Mo_set rfl (c_Mo_set (x.1) (x.2.1) (x.2.2) (by omega) (by omega) (by omega) (by omega) H) Ha rfl rfl ⟨(Nat.le_of_ble_eq_true rfl), (Nat.le_of_ble_eq_true rfl)⟩ (Nat.le_of_ble_eq_true rfl) ⟨(Nat.le_of_ble_eq_true rfl), (Nat.le_of_ble_eq_true rfl)⟩ (fun r24 n24 h24 e24 => ?_)
      obtain ⟨rfl, rfl, W24⟩ := e24
      refine gi_goto (tgt := 136) C (dm_Mo_unsigned 14 rfl) (by decide) ?_
      refine gi_vret C hr (dm_Mo_unsigned 79 rfl) ?_
      (try simp (disch := omega) only [lg_cmp_ge, lg_cmp_le, lg_cmp_gt, lg_cmp_lt, lg_cmp_eq, eL_0, eL_1, eL_m1, eL_LO, eL_HI, eL_W, eL_add, eL_sub, eL_mul, eL_neg, eL_lt, eL_le, eL_eq, eL_remN, eL_mod0, ne_eq, Int64.not_lt, Int64.not_le] at c16)
      (try simp (disch := omega) only [lg_cmp_ge, lg_cmp_le, lg_cmp_gt, lg_cmp_lt, lg_cmp_eq, eL_0, eL_1, eL_m1, eL_LO, eL_HI, eL_W, eL_add, eL_sub, eL_mul, eL_neg, eL_lt, eL_le, eL_eq, eL_remN, eL_mod0, ne_eq, Int64.not_lt, Int64.not_le] at c33)
      (try simp (disch := omega) only [lg_cmp_ge, lg_cmp_le, lg_cmp_gt, lg_cmp_lt, lg_cmp_eq, eL_0, eL_1, eL_m1, eL_LO, eL_HI, eL_W, eL_add, eL_sub, eL_mul, eL_neg, eL_lt, eL_le, eL_eq, eL_remN, eL_mod0, ne_eq, Int64.not_lt, Int64.not_le] at c77)
      have sg : d.1 = d.2.1 := by
        have := bI_t (b := decide (d.1 = d.2.1)) c9
        simpa using this
      rw [show ushS x d = mkS x.1 x.2.1 x.2.2 from by
        unfold ushS
        rw [if_pos ⟨sg, by omega⟩, mkS_id hx]]
      exact ⟨rfl, rfl, W24⟩
end RN6
