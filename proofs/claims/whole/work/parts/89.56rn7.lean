-- needs: 89.55
section RN7
variable {l : Launch} {V : gi_V} {n : Nat} {h h' : gi_H} {M : Nat} {S S' : Nat → Int32} {J J' : Nat → Int64} {F : Nat → Nat → Int32} {G : Nat → Nat → Int64}
theorem part_n {d p : Sp} (hd : okS d) (e : negS d = some p) : -2147483648 ≤ p.1 ∧ p.1 ≤ p.2.1 ∧ p.2.1 ≤ -1 := by
  obtain ⟨o, a, b, -⟩ := within_ok hd e
  exact ⟨a, o.2.1, b⟩
theorem part_p {d p : Sp} (hd : okS d) (e : posS d = some p) : 1 ≤ p.1 ∧ p.1 ≤ p.2.1 ∧ p.2.1 ≤ 2147483647 := by
  obtain ⟨o, a, b, -⟩ := within_ok hd e
  exact ⟨a, o.2.1, b⟩
set_option maxHeartbeats 4000000 in
set_option maxRecDepth 100000 in
theorem c_Mo_rest (x d : Sp) (hx : okS x) (hd : okS d) (h0 : ¬ (d.1 = 0 ∧ d.2.1 = 0)) (H : mo_at M S J F G h) : gi_T l V y_Mo_rest b_Mo_rest 17 none 3 86 0 0 [.ref M, .long (eL x.1), .long (eL x.2.1), .long (eL x.2.2), .long (eL d.1), .long (eL d.2.1), .long (eL d.2.2)] n h (fun v n' h' => v = none ∧ n' = n ∧ moP M F G h S J (restS x d) h') := by
  refine gi_enter (by decide) (Nat.le_of_ble_eq_true rfl) ?_
  intro _ _ _ _ _ _ _ _ C hr hnm
  obtain ⟨fs, Ha, Hf⟩ := id H.1
  have ho : outM M h h := outM.rf
  obtain ⟨x1, x2, x3, x4, -⟩ := id hx
  have x5 := hx.st
  obtain ⟨d1, d2, d3, d4, -⟩ := id hd
  have d5 := hd.st
  refine gi_lload_n (q := 1) (i := 1) C (dm_Mo_rest 0 rfl) rfl rfl rfl ?_
  refine gi_lload_n (q := 2) (i := 3) C (dm_Mo_rest 1 rfl) rfl rfl rfl ?_
  refine gi_lcmp (q := 3) C (dm_Mo_rest 2 rfl) rfl ?_
  refine gi_if_ne (q := 6) (tgt := 28) C (dm_Mo_rest 3 rfl) rfl (by decide) (fun c3 => ?_) (fun c3 => ?_)
  · refine gi_aload_n (q := 29) (i := 0) C (dm_Mo_rest 18 rfl) rfl rfl rfl ?_
    refine gi_lload (q := 31) C (dm_Mo_rest 19 rfl) rfl rfl ?_
    refine gi_lload (q := 33) C (dm_Mo_rest 20 rfl) rfl rfl ?_
    refine gi_lload (q := 35) C (dm_Mo_rest 21 rfl) rfl rfl ?_
    refine gi_callv 3 (q := 38) C (dm_Mo_rest 22 rfl) rfl my_Mo_parts lk_Mo_344 im_Mo_parts rfl (c_Mo_parts d hd H) Ha rfl rfl ⟨(Nat.le_of_ble_eq_true rfl), (Nat.le_of_ble_eq_true rfl)⟩ (Nat.le_of_ble_eq_true rfl) ⟨(Nat.le_of_ble_eq_true rfl), (Nat.le_of_ble_eq_true rfl)⟩ (fun r35 n35 h35 e35 => ?_)
    obtain ⟨rfl, rfl, S1, J1, H1, o1, r1, t29, t30, tn, tp⟩ := e35
    obtain ⟨fs, Ha1, Hf1⟩ := id H1.1
    have n0 : ¬ (x.1 = x.2.1 ∧ d.1 = d.2.1) := by
      (try simp (disch := omega) only [lg_cmp_ge, lg_cmp_le, lg_cmp_gt, lg_cmp_lt, lg_cmp_eq, eL_0, eL_1, eL_m1, eL_LO, eL_HI, eL_W, eL_add, eL_sub, eL_mul, eL_neg, eL_lt, eL_le, eL_eq, eL_remN, eL_mod0, ne_eq, Int64.not_lt, Int64.not_le] at c3)
      (try simp (disch := omega) only [lg_cmp_ge, lg_cmp_le, lg_cmp_gt, lg_cmp_lt, lg_cmp_eq, eL_0, eL_1, eL_m1, eL_LO, eL_HI, eL_W, eL_add, eL_sub, eL_mul, eL_neg, eL_lt, eL_le, eL_eq, eL_remN, eL_mod0, ne_eq, Int64.not_lt, Int64.not_le] at c11)
      omega
    rcases en : negS d with _ | p
    · rw [en] at t29
      have t29 : S1 29 = 0 := t29
      rcases ep : posS d with _ | q
      · exact absurd (np_some hd h0) (by rw [en, ep]; rintro (z | z) <;> exact z rfl)
      · rw [ep] at t30
        have t30 : S1 30 = 1 := t30
        obtain ⟨k27, k28⟩ := tp q ep
        have bp := part_p hd ep
        have z1 : sizL d = q.1 := by
          unfold sizL
          rw [en, ep]
        have z2 : sizH d = q.2.1 := by
          unfold sizH
          rw [en, ep]
        refine gi_aload_n (q := 39) (i := 0) C (dm_Mo_rest 23 rfl) rfl rfl rfl ?_
        refine gi_get (q := 42) C (dm_Mo_rest 24 rfl) rfl fl_Mo_321 Ha1 (mo_g29 Hf1) ?_
        refine gi_if_eq (q := 45) (tgt := 67) C (dm_Mo_rest 25 rfl) rfl (by decide) (fun c42 => ?_) (fun c42 => ?_)
        · refine gi_aload_n (q := 68) (i := 0) C (dm_Mo_rest 36 rfl) rfl rfl rfl ?_
          refine gi_get (q := 71) C (dm_Mo_rest 37 rfl) rfl fl_Mo_321 Ha1 (mo_g29 Hf1) ?_
          refine gi_if_eq (q := 74) (tgt := 82) C (dm_Mo_rest 38 rfl) rfl (by decide) (fun c71 => ?_) (fun c71 => ?_)
          · refine gi_aload_n (q := 83) (i := 0) C (dm_Mo_rest 43 rfl) rfl rfl rfl ?_
            refine gi_get (q := 86) C (dm_Mo_rest 44 rfl) rfl fl_Mo_333 Ha1 (mo_g27 Hf1) ?_
            rw [k27]
            refine gi_lstore (q := 88) C (dm_Mo_rest 45 rfl) rfl (Nat.le_of_ble_eq_true rfl) ?_
            refine gi_aload_n (q := 89) (i := 0) C (dm_Mo_rest 46 rfl) rfl rfl rfl ?_
            refine gi_get (q := 92) C (dm_Mo_rest 47 rfl) rfl fl_Mo_321 Ha1 (mo_g29 Hf1) ?_
            refine gi_if_eq (q := 95) (tgt := 117) C (dm_Mo_rest 48 rfl) rfl (by decide) (fun c92 => ?_) (fun c92 => ?_)
            · refine gi_aload_n (q := 118) (i := 0) C (dm_Mo_rest 59 rfl) rfl rfl rfl ?_
              refine gi_get (q := 121) C (dm_Mo_rest 60 rfl) rfl fl_Mo_321 Ha1 (mo_g29 Hf1) ?_
              refine gi_if_eq (q := 124) (tgt := 132) C (dm_Mo_rest 61 rfl) rfl (by decide) (fun c121 => ?_) (fun c121 => ?_)
              · refine gi_aload_n (q := 133) (i := 0) C (dm_Mo_rest 66 rfl) rfl rfl rfl ?_
                refine gi_get (q := 136) C (dm_Mo_rest 67 rfl) rfl fl_Mo_336 Ha1 (mo_g28 Hf1) ?_
                rw [k28]
                refine gi_lstore (q := 138) C (dm_Mo_rest 68 rfl) rfl (Nat.le_of_ble_eq_true rfl) ?_
                refine gi_lload_n (q := 139) (i := 1) C (dm_Mo_rest 69 rfl) rfl rfl rfl ?_
                refine gi_lneg (q := 140) C (dm_Mo_rest 70 rfl) rfl ?_
                rw [eL_neg]
                refine gi_lload_n (q := 141) (i := 3) C (dm_Mo_rest 71 rfl) rfl rfl rfl ?_
                refine gi_calls 2 (q := 144) C (dm_Mo_rest 72 rfl) rfl my_Mo_max lk_Mo_256 sm_Mo_max (c_Mo_max (-x.1) x.2.1 (by omega) (by omega) (by omega) (by omega)) rfl rfl ⟨(Nat.le_of_ble_eq_true rfl), (Nat.le_of_ble_eq_true rfl)⟩ (Nat.le_of_ble_eq_true rfl) ⟨(Nat.le_of_ble_eq_true rfl), (Nat.le_of_ble_eq_true rfl)⟩ (fun r141 n141 h141 e141 => ?_)
                obtain ⟨rfl, q141, u141⟩ := e141
                rw [q141, u141]
                refine gi_lload (q := 146) C (dm_Mo_rest 73 rfl) rfl rfl ?_
                refine gi_lcmp (q := 147) C (dm_Mo_rest 74 rfl) rfl ?_
                refine gi_if_ge (q := 150) (tgt := 171) C (dm_Mo_rest 75 rfl) rfl (by decide) (fun c147 => ?_) (fun c147 => ?_)
                · refine gi_aload_n (q := 172) (i := 0) C (dm_Mo_rest 89 rfl) rfl rfl rfl ?_
                  refine gi_lload_n (q := 173) (i := 1) C (dm_Mo_rest 90 rfl) rfl rfl rfl ?_
                  refine gi_lconst (q := 174) (v := 0) C (dm_Mo_rest 91 rfl) rfl (by decide) ?_
                  refine gi_lcmp (q := 175) C (dm_Mo_rest 92 rfl) rfl ?_
                  refine gi_if_lt (q := 178) (tgt := 182) C (dm_Mo_rest 93 rfl) rfl (by decide) (fun c175 => ?_) (fun c175 => ?_)
                  · refine gi_lload_n (q := 183) (i := 1) C (dm_Mo_rest 96 rfl) rfl rfl rfl ?_
                    refine gi_lconst (q := 184) (v := 1) C (dm_Mo_rest 97 rfl) rfl (by decide) ?_
                    refine gi_lload (q := 186) C (dm_Mo_rest 98 rfl) rfl rfl ?_
                    refine gi_lsub (q := 187) C (dm_Mo_rest 99 rfl) rfl ?_
                    rw [eL_1, eL_sub]
                    refine gi_calls 2 (q := 190) C (dm_Mo_rest 100 rfl) rfl my_Mo_max lk_Mo_256 sm_Mo_max (c_Mo_max x.1 (1 - (q.2.1)) (by omega) (by omega) (by omega) (by omega)) rfl rfl ⟨(Nat.le_of_ble_eq_true rfl), (Nat.le_of_ble_eq_true rfl)⟩ (Nat.le_of_ble_eq_true rfl) ⟨(Nat.le_of_ble_eq_true rfl), (Nat.le_of_ble_eq_true rfl)⟩ (fun r187 n187 h187 e187 => ?_)
                    obtain ⟨rfl, q187, u187⟩ := e187
                    rw [q187, u187]
                    refine gi_lload_n (q := 191) (i := 3) C (dm_Mo_rest 101 rfl) rfl rfl rfl ?_
                    refine gi_lconst (q := 192) (v := 0) C (dm_Mo_rest 102 rfl) rfl (by decide) ?_
                    refine gi_lcmp (q := 193) C (dm_Mo_rest 103 rfl) rfl ?_
                    refine gi_if_gt (q := 196) (tgt := 200) C (dm_Mo_rest 104 rfl) rfl (by decide) (fun c193 => ?_) (fun c193 => ?_)
                    · refine gi_lload_n (q := 201) (i := 3) C (dm_Mo_rest 107 rfl) rfl rfl rfl ?_
                      refine gi_lload (q := 203) C (dm_Mo_rest 108 rfl) rfl rfl ?_
                      refine gi_lconst (q := 204) (v := 1) C (dm_Mo_rest 109 rfl) rfl (by decide) ?_
                      refine gi_lsub (q := 205) C (dm_Mo_rest 110 rfl) rfl ?_
                      rw [eL_1, eL_sub]
                      refine gi_calls 2 (q := 208) C (dm_Mo_rest 111 rfl) rfl my_Mo_min lk_Mo_252 sm_Mo_min (c_Mo_min x.2.1 (q.2.1 - 1) (by omega) (by omega) (by omega) (by omega)) rfl rfl ⟨(Nat.le_of_ble_eq_true rfl), (Nat.le_of_ble_eq_true rfl)⟩ (Nat.le_of_ble_eq_true rfl) ⟨(Nat.le_of_ble_eq_true rfl), (Nat.le_of_ble_eq_true rfl)⟩ (fun r205 n205 h205 e205 => ?_)
                      obtain ⟨rfl, q205, u205⟩ := e205
                      rw [q205, u205]
                      refine gi_lconst (q := 209) (v := 1) C (dm_Mo_rest 112 rfl) rfl (by decide) ?_
                      rw [eL_1]
                      refine gi_callv 3 (q := 212) C (dm_Mo_rest 113 rfl) rfl my_Mo_set lk_Mo_262 im_Mo_set rfl (c_Mo_set (max x.1 (1 - (q.2.1))) (min x.2.1 (q.2.1 - 1)) 1 (by omega) (by omega) (by omega) (by omega) H1) Ha1 rfl rfl ⟨(Nat.le_of_ble_eq_true rfl), (Nat.le_of_ble_eq_true rfl)⟩ (Nat.le_of_ble_eq_true rfl) ⟨(Nat.le_of_ble_eq_true rfl), (Nat.le_of_ble_eq_true rfl)⟩ (fun r209 n209 h209 e209 => ?_)
                      obtain ⟨rfl, rfl, W209⟩ := e209
                      refine gi_vret C hr (dm_Mo_rest 114 rfl) ?_
                      (try simp (disch := omega) only [lg_cmp_ge, lg_cmp_le, lg_cmp_gt, lg_cmp_lt, lg_cmp_eq, eL_0, eL_1, eL_m1, eL_LO, eL_HI, eL_W, eL_add, eL_sub, eL_mul, eL_neg, eL_lt, eL_le, eL_eq, eL_remN, eL_mod0, ne_eq, Int64.not_lt, Int64.not_le] at c3)
                      (try simp (disch := omega) only [lg_cmp_ge, lg_cmp_le, lg_cmp_gt, lg_cmp_lt, lg_cmp_eq, eL_0, eL_1, eL_m1, eL_LO, eL_HI, eL_W, eL_add, eL_sub, eL_mul, eL_neg, eL_lt, eL_le, eL_eq, eL_remN, eL_mod0, ne_eq, Int64.not_lt, Int64.not_le] at c11)
                      (try simp (disch := omega) only [lg_cmp_ge, lg_cmp_le, lg_cmp_gt, lg_cmp_lt, lg_cmp_eq, eL_0, eL_1, eL_m1, eL_LO, eL_HI, eL_W, eL_add, eL_sub, eL_mul, eL_neg, eL_lt, eL_le, eL_eq, eL_remN, eL_mod0, ne_eq, Int64.not_lt, Int64.not_le] at c147)
                      (try simp (disch := omega) only [lg_cmp_ge, lg_cmp_le, lg_cmp_gt, lg_cmp_lt, lg_cmp_eq, eL_0, eL_1, eL_m1, eL_LO, eL_HI, eL_W, eL_add, eL_sub, eL_mul, eL_neg, eL_lt, eL_le, eL_eq, eL_remN, eL_mod0, ne_eq, Int64.not_lt, Int64.not_le] at c159)
                      (try simp (disch := omega) only [lg_cmp_ge, lg_cmp_le, lg_cmp_gt, lg_cmp_lt, lg_cmp_eq, eL_0, eL_1, eL_m1, eL_LO, eL_HI, eL_W, eL_add, eL_sub, eL_mul, eL_neg, eL_lt, eL_le, eL_eq, eL_remN, eL_mod0, ne_eq, Int64.not_lt, Int64.not_le] at c175)
                      (try simp (disch := omega) only [lg_cmp_ge, lg_cmp_le, lg_cmp_gt, lg_cmp_lt, lg_cmp_eq, eL_0, eL_1, eL_m1, eL_LO, eL_HI, eL_W, eL_add, eL_sub, eL_mul, eL_neg, eL_lt, eL_le, eL_eq, eL_remN, eL_mod0, ne_eq, Int64.not_lt, Int64.not_le] at c193)
                      rw [show restS x d = mkS (max x.1 (1 - (q.2.1))) (min x.2.1 (q.2.1 - 1)) 1 from by
                        unfold restS
                        rw [if_neg n0, if_neg (by omega), z2, if_neg (by omega), if_neg (by omega)]]
                      exact ⟨rfl, rfl, W209.p.tr o1 r1⟩
                    · refine gi_lconst (q := 197) (v := 0) C (dm_Mo_rest 105 rfl) rfl (by decide) ?_
                      refine gi_goto (tgt := 208) C (dm_Mo_rest 106 rfl) (by decide) ?_
                      refine gi_lconst (q := 209) (v := 1) C (dm_Mo_rest 112 rfl) rfl (by decide) ?_
                      rw [eL_1]
                      refine gi_callv 3 (q := 212) C (dm_Mo_rest 113 rfl) rfl my_Mo_set lk_Mo_262 im_Mo_set rfl (c_Mo_set (max x.1 (1 - (q.2.1))) (0) 1 (by omega) (by omega) (by omega) (by omega) H1) Ha1 rfl rfl ⟨(Nat.le_of_ble_eq_true rfl), (Nat.le_of_ble_eq_true rfl)⟩ (Nat.le_of_ble_eq_true rfl) ⟨(Nat.le_of_ble_eq_true rfl), (Nat.le_of_ble_eq_true rfl)⟩ (fun r209 n209 h209 e209 => ?_)
                      obtain ⟨rfl, rfl, W209⟩ := e209
                      refine gi_vret C hr (dm_Mo_rest 114 rfl) ?_
                      (try simp (disch := omega) only [lg_cmp_ge, lg_cmp_le, lg_cmp_gt, lg_cmp_lt, lg_cmp_eq, eL_0, eL_1, eL_m1, eL_LO, eL_HI, eL_W, eL_add, eL_sub, eL_mul, eL_neg, eL_lt, eL_le, eL_eq, eL_remN, eL_mod0, ne_eq, Int64.not_lt, Int64.not_le] at c3)
                      (try simp (disch := omega) only [lg_cmp_ge, lg_cmp_le, lg_cmp_gt, lg_cmp_lt, lg_cmp_eq, eL_0, eL_1, eL_m1, eL_LO, eL_HI, eL_W, eL_add, eL_sub, eL_mul, eL_neg, eL_lt, eL_le, eL_eq, eL_remN, eL_mod0, ne_eq, Int64.not_lt, Int64.not_le] at c11)
                      (try simp (disch := omega) only [lg_cmp_ge, lg_cmp_le, lg_cmp_gt, lg_cmp_lt, lg_cmp_eq, eL_0, eL_1, eL_m1, eL_LO, eL_HI, eL_W, eL_add, eL_sub, eL_mul, eL_neg, eL_lt, eL_le, eL_eq, eL_remN, eL_mod0, ne_eq, Int64.not_lt, Int64.not_le] at c147)
                      (try simp (disch := omega) only [lg_cmp_ge, lg_cmp_le, lg_cmp_gt, lg_cmp_lt, lg_cmp_eq, eL_0, eL_1, eL_m1, eL_LO, eL_HI, eL_W, eL_add, eL_sub, eL_mul, eL_neg, eL_lt, eL_le, eL_eq, eL_remN, eL_mod0, ne_eq, Int64.not_lt, Int64.not_le] at c159)
                      (try simp (disch := omega) only [lg_cmp_ge, lg_cmp_le, lg_cmp_gt, lg_cmp_lt, lg_cmp_eq, eL_0, eL_1, eL_m1, eL_LO, eL_HI, eL_W, eL_add, eL_sub, eL_mul, eL_neg, eL_lt, eL_le, eL_eq, eL_remN, eL_mod0, ne_eq, Int64.not_lt, Int64.not_le] at c175)
                      (try simp (disch := omega) only [lg_cmp_ge, lg_cmp_le, lg_cmp_gt, lg_cmp_lt, lg_cmp_eq, eL_0, eL_1, eL_m1, eL_LO, eL_HI, eL_W, eL_add, eL_sub, eL_mul, eL_neg, eL_lt, eL_le, eL_eq, eL_remN, eL_mod0, ne_eq, Int64.not_lt, Int64.not_le] at c193)
                      rw [show restS x d = mkS (max x.1 (1 - (q.2.1))) (0) 1 from by
                        unfold restS
                        rw [if_neg n0, if_neg (by omega), z2, if_neg (by omega), if_pos (by omega)]]
                      exact ⟨rfl, rfl, W209.p.tr o1 r1⟩
                  · refine gi_lconst (q := 179) (v := 0) C (dm_Mo_rest 94 rfl) rfl (by decide) ?_
                    refine gi_goto (tgt := 190) C (dm_Mo_rest 95 rfl) (by decide) ?_
                    refine gi_lload_n (q := 191) (i := 3) C (dm_Mo_rest 101 rfl) rfl rfl rfl ?_
                    refine gi_lconst (q := 192) (v := 0) C (dm_Mo_rest 102 rfl) rfl (by decide) ?_
                    refine gi_lcmp (q := 193) C (dm_Mo_rest 103 rfl) rfl ?_
                    refine gi_if_gt (q := 196) (tgt := 200) C (dm_Mo_rest 104 rfl) rfl (by decide) (fun c193 => ?_) (fun c193 => ?_)
                    · refine gi_lload_n (q := 201) (i := 3) C (dm_Mo_rest 107 rfl) rfl rfl rfl ?_
                      refine gi_lload (q := 203) C (dm_Mo_rest 108 rfl) rfl rfl ?_
                      refine gi_lconst (q := 204) (v := 1) C (dm_Mo_rest 109 rfl) rfl (by decide) ?_
                      refine gi_lsub (q := 205) C (dm_Mo_rest 110 rfl) rfl ?_
                      rw [eL_1, eL_sub]
                      refine gi_calls 2 (q := 208) C (dm_Mo_rest 111 rfl) rfl my_Mo_min lk_Mo_252 sm_Mo_min (c_Mo_min x.2.1 (q.2.1 - 1) (by omega) (by omega) (by omega) (by omega)) rfl rfl ⟨(Nat.le_of_ble_eq_true rfl), (Nat.le_of_ble_eq_true rfl)⟩ (Nat.le_of_ble_eq_true rfl) ⟨(Nat.le_of_ble_eq_true rfl), (Nat.le_of_ble_eq_true rfl)⟩ (fun r205 n205 h205 e205 => ?_)
                      obtain ⟨rfl, q205, u205⟩ := e205
                      rw [q205, u205]
                      refine gi_lconst (q := 209) (v := 1) C (dm_Mo_rest 112 rfl) rfl (by decide) ?_
                      rw [eL_1]
                      refine gi_callv 3 (q := 212) C (dm_Mo_rest 113 rfl) rfl my_Mo_set lk_Mo_262 im_Mo_set rfl (c_Mo_set (0) (min x.2.1 (q.2.1 - 1)) 1 (by omega) (by omega) (by omega) (by omega) H1) Ha1 rfl rfl ⟨(Nat.le_of_ble_eq_true rfl), (Nat.le_of_ble_eq_true rfl)⟩ (Nat.le_of_ble_eq_true rfl) ⟨(Nat.le_of_ble_eq_true rfl), (Nat.le_of_ble_eq_true rfl)⟩ (fun r209 n209 h209 e209 => ?_)
                      obtain ⟨rfl, rfl, W209⟩ := e209
                      refine gi_vret C hr (dm_Mo_rest 114 rfl) ?_
                      (try simp (disch := omega) only [lg_cmp_ge, lg_cmp_le, lg_cmp_gt, lg_cmp_lt, lg_cmp_eq, eL_0, eL_1, eL_m1, eL_LO, eL_HI, eL_W, eL_add, eL_sub, eL_mul, eL_neg, eL_lt, eL_le, eL_eq, eL_remN, eL_mod0, ne_eq, Int64.not_lt, Int64.not_le] at c3)
                      (try simp (disch := omega) only [lg_cmp_ge, lg_cmp_le, lg_cmp_gt, lg_cmp_lt, lg_cmp_eq, eL_0, eL_1, eL_m1, eL_LO, eL_HI, eL_W, eL_add, eL_sub, eL_mul, eL_neg, eL_lt, eL_le, eL_eq, eL_remN, eL_mod0, ne_eq, Int64.not_lt, Int64.not_le] at c11)
                      (try simp (disch := omega) only [lg_cmp_ge, lg_cmp_le, lg_cmp_gt, lg_cmp_lt, lg_cmp_eq, eL_0, eL_1, eL_m1, eL_LO, eL_HI, eL_W, eL_add, eL_sub, eL_mul, eL_neg, eL_lt, eL_le, eL_eq, eL_remN, eL_mod0, ne_eq, Int64.not_lt, Int64.not_le] at c147)
                      (try simp (disch := omega) only [lg_cmp_ge, lg_cmp_le, lg_cmp_gt, lg_cmp_lt, lg_cmp_eq, eL_0, eL_1, eL_m1, eL_LO, eL_HI, eL_W, eL_add, eL_sub, eL_mul, eL_neg, eL_lt, eL_le, eL_eq, eL_remN, eL_mod0, ne_eq, Int64.not_lt, Int64.not_le] at c159)
                      (try simp (disch := omega) only [lg_cmp_ge, lg_cmp_le, lg_cmp_gt, lg_cmp_lt, lg_cmp_eq, eL_0, eL_1, eL_m1, eL_LO, eL_HI, eL_W, eL_add, eL_sub, eL_mul, eL_neg, eL_lt, eL_le, eL_eq, eL_remN, eL_mod0, ne_eq, Int64.not_lt, Int64.not_le] at c175)
                      (try simp (disch := omega) only [lg_cmp_ge, lg_cmp_le, lg_cmp_gt, lg_cmp_lt, lg_cmp_eq, eL_0, eL_1, eL_m1, eL_LO, eL_HI, eL_W, eL_add, eL_sub, eL_mul, eL_neg, eL_lt, eL_le, eL_eq, eL_remN, eL_mod0, ne_eq, Int64.not_lt, Int64.not_le] at c193)
                      rw [show restS x d = mkS (0) (min x.2.1 (q.2.1 - 1)) 1 from by
                        unfold restS
                        rw [if_neg n0, if_neg (by omega), z2, if_pos (by omega), if_neg (by omega)]]
                      exact ⟨rfl, rfl, W209.p.tr o1 r1⟩
                    · refine gi_lconst (q := 197) (v := 0) C (dm_Mo_rest 105 rfl) rfl (by decide) ?_
                      refine gi_goto (tgt := 208) C (dm_Mo_rest 106 rfl) (by decide) ?_
                      refine gi_lconst (q := 209) (v := 1) C (dm_Mo_rest 112 rfl) rfl (by decide) ?_
                      rw [eL_1]
                      refine gi_callv 3 (q := 212) C (dm_Mo_rest 113 rfl) rfl my_Mo_set lk_Mo_262 im_Mo_set rfl (c_Mo_set (0) (0) 1 (by omega) (by omega) (by omega) (by omega) H1) Ha1 rfl rfl ⟨(Nat.le_of_ble_eq_true rfl), (Nat.le_of_ble_eq_true rfl)⟩ (Nat.le_of_ble_eq_true rfl) ⟨(Nat.le_of_ble_eq_true rfl), (Nat.le_of_ble_eq_true rfl)⟩ (fun r209 n209 h209 e209 => ?_)
                      obtain ⟨rfl, rfl, W209⟩ := e209
                      refine gi_vret C hr (dm_Mo_rest 114 rfl) ?_
                      (try simp (disch := omega) only [lg_cmp_ge, lg_cmp_le, lg_cmp_gt, lg_cmp_lt, lg_cmp_eq, eL_0, eL_1, eL_m1, eL_LO, eL_HI, eL_W, eL_add, eL_sub, eL_mul, eL_neg, eL_lt, eL_le, eL_eq, eL_remN, eL_mod0, ne_eq, Int64.not_lt, Int64.not_le] at c3)
                      (try simp (disch := omega) only [lg_cmp_ge, lg_cmp_le, lg_cmp_gt, lg_cmp_lt, lg_cmp_eq, eL_0, eL_1, eL_m1, eL_LO, eL_HI, eL_W, eL_add, eL_sub, eL_mul, eL_neg, eL_lt, eL_le, eL_eq, eL_remN, eL_mod0, ne_eq, Int64.not_lt, Int64.not_le] at c11)
                      (try simp (disch := omega) only [lg_cmp_ge, lg_cmp_le, lg_cmp_gt, lg_cmp_lt, lg_cmp_eq, eL_0, eL_1, eL_m1, eL_LO, eL_HI, eL_W, eL_add, eL_sub, eL_mul, eL_neg, eL_lt, eL_le, eL_eq, eL_remN, eL_mod0, ne_eq, Int64.not_lt, Int64.not_le] at c147)
                      (try simp (disch := omega) only [lg_cmp_ge, lg_cmp_le, lg_cmp_gt, lg_cmp_lt, lg_cmp_eq, eL_0, eL_1, eL_m1, eL_LO, eL_HI, eL_W, eL_add, eL_sub, eL_mul, eL_neg, eL_lt, eL_le, eL_eq, eL_remN, eL_mod0, ne_eq, Int64.not_lt, Int64.not_le] at c159)
                      (try simp (disch := omega) only [lg_cmp_ge, lg_cmp_le, lg_cmp_gt, lg_cmp_lt, lg_cmp_eq, eL_0, eL_1, eL_m1, eL_LO, eL_HI, eL_W, eL_add, eL_sub, eL_mul, eL_neg, eL_lt, eL_le, eL_eq, eL_remN, eL_mod0, ne_eq, Int64.not_lt, Int64.not_le] at c175)
                      (try simp (disch := omega) only [lg_cmp_ge, lg_cmp_le, lg_cmp_gt, lg_cmp_lt, lg_cmp_eq, eL_0, eL_1, eL_m1, eL_LO, eL_HI, eL_W, eL_add, eL_sub, eL_mul, eL_neg, eL_lt, eL_le, eL_eq, eL_remN, eL_mod0, ne_eq, Int64.not_lt, Int64.not_le] at c193)
                      rw [show restS x d = mkS (0) (0) 1 from by
                        unfold restS
                        rw [if_neg n0, if_neg (by omega), z2, if_pos (by omega), if_pos (by omega)]]
                      exact ⟨rfl, rfl, W209.p.tr o1 r1⟩
                · refine gi_lload_n (q := 151) (i := 1) C (dm_Mo_rest 76 rfl) rfl rfl rfl ?_
                  refine gi_lload_n (q := 152) (i := 3) C (dm_Mo_rest 77 rfl) rfl rfl rfl ?_
                  refine gi_lneg (q := 153) C (dm_Mo_rest 78 rfl) rfl ?_
                  rw [eL_neg]
                  refine gi_calls 2 (q := 156) C (dm_Mo_rest 79 rfl) rfl my_Mo_max lk_Mo_256 sm_Mo_max (c_Mo_max x.1 (-x.2.1) (by omega) (by omega) (by omega) (by omega)) rfl rfl ⟨(Nat.le_of_ble_eq_true rfl), (Nat.le_of_ble_eq_true rfl)⟩ (Nat.le_of_ble_eq_true rfl) ⟨(Nat.le_of_ble_eq_true rfl), (Nat.le_of_ble_eq_true rfl)⟩ (fun r153 n153 h153 e153 => ?_)
                  obtain ⟨rfl, q153, u153⟩ := e153
                  rw [q153, u153]
                  refine gi_lload (q := 158) C (dm_Mo_rest 80 rfl) rfl rfl ?_
                  refine gi_lcmp (q := 159) C (dm_Mo_rest 81 rfl) rfl ?_
                  refine gi_if_ge (q := 162) (tgt := 171) C (dm_Mo_rest 82 rfl) rfl (by decide) (fun c159 => ?_) (fun c159 => ?_)
                  · refine gi_aload_n (q := 172) (i := 0) C (dm_Mo_rest 89 rfl) rfl rfl rfl ?_
                    refine gi_lload_n (q := 173) (i := 1) C (dm_Mo_rest 90 rfl) rfl rfl rfl ?_
                    refine gi_lconst (q := 174) (v := 0) C (dm_Mo_rest 91 rfl) rfl (by decide) ?_
                    refine gi_lcmp (q := 175) C (dm_Mo_rest 92 rfl) rfl ?_
                    refine gi_if_lt (q := 178) (tgt := 182) C (dm_Mo_rest 93 rfl) rfl (by decide) (fun c175 => ?_) (fun c175 => ?_)
                    · refine gi_lload_n (q := 183) (i := 1) C (dm_Mo_rest 96 rfl) rfl rfl rfl ?_
                      refine gi_lconst (q := 184) (v := 1) C (dm_Mo_rest 97 rfl) rfl (by decide) ?_
                      refine gi_lload (q := 186) C (dm_Mo_rest 98 rfl) rfl rfl ?_
                      refine gi_lsub (q := 187) C (dm_Mo_rest 99 rfl) rfl ?_
                      rw [eL_1, eL_sub]
                      refine gi_calls 2 (q := 190) C (dm_Mo_rest 100 rfl) rfl my_Mo_max lk_Mo_256 sm_Mo_max (c_Mo_max x.1 (1 - (q.2.1)) (by omega) (by omega) (by omega) (by omega)) rfl rfl ⟨(Nat.le_of_ble_eq_true rfl), (Nat.le_of_ble_eq_true rfl)⟩ (Nat.le_of_ble_eq_true rfl) ⟨(Nat.le_of_ble_eq_true rfl), (Nat.le_of_ble_eq_true rfl)⟩ (fun r187 n187 h187 e187 => ?_)
                      obtain ⟨rfl, q187, u187⟩ := e187
                      rw [q187, u187]
                      refine gi_lload_n (q := 191) (i := 3) C (dm_Mo_rest 101 rfl) rfl rfl rfl ?_
                      refine gi_lconst (q := 192) (v := 0) C (dm_Mo_rest 102 rfl) rfl (by decide) ?_
                      refine gi_lcmp (q := 193) C (dm_Mo_rest 103 rfl) rfl ?_
                      refine gi_if_gt (q := 196) (tgt := 200) C (dm_Mo_rest 104 rfl) rfl (by decide) (fun c193 => ?_) (fun c193 => ?_)
                      · refine gi_lload_n (q := 201) (i := 3) C (dm_Mo_rest 107 rfl) rfl rfl rfl ?_
                        refine gi_lload (q := 203) C (dm_Mo_rest 108 rfl) rfl rfl ?_
                        refine gi_lconst (q := 204) (v := 1) C (dm_Mo_rest 109 rfl) rfl (by decide) ?_
                        refine gi_lsub (q := 205) C (dm_Mo_rest 110 rfl) rfl ?_
                        rw [eL_1, eL_sub]
                        refine gi_calls 2 (q := 208) C (dm_Mo_rest 111 rfl) rfl my_Mo_min lk_Mo_252 sm_Mo_min (c_Mo_min x.2.1 (q.2.1 - 1) (by omega) (by omega) (by omega) (by omega)) rfl rfl ⟨(Nat.le_of_ble_eq_true rfl), (Nat.le_of_ble_eq_true rfl)⟩ (Nat.le_of_ble_eq_true rfl) ⟨(Nat.le_of_ble_eq_true rfl), (Nat.le_of_ble_eq_true rfl)⟩ (fun r205 n205 h205 e205 => ?_)
                        obtain ⟨rfl, q205, u205⟩ := e205
                        rw [q205, u205]
                        refine gi_lconst (q := 209) (v := 1) C (dm_Mo_rest 112 rfl) rfl (by decide) ?_
                        rw [eL_1]
                        refine gi_callv 3 (q := 212) C (dm_Mo_rest 113 rfl) rfl my_Mo_set lk_Mo_262 im_Mo_set rfl (c_Mo_set (max x.1 (1 - (q.2.1))) (min x.2.1 (q.2.1 - 1)) 1 (by omega) (by omega) (by omega) (by omega) H1) Ha1 rfl rfl ⟨(Nat.le_of_ble_eq_true rfl), (Nat.le_of_ble_eq_true rfl)⟩ (Nat.le_of_ble_eq_true rfl) ⟨(Nat.le_of_ble_eq_true rfl), (Nat.le_of_ble_eq_true rfl)⟩ (fun r209 n209 h209 e209 => ?_)
                        obtain ⟨rfl, rfl, W209⟩ := e209
                        refine gi_vret C hr (dm_Mo_rest 114 rfl) ?_
                        (try simp (disch := omega) only [lg_cmp_ge, lg_cmp_le, lg_cmp_gt, lg_cmp_lt, lg_cmp_eq, eL_0, eL_1, eL_m1, eL_LO, eL_HI, eL_W, eL_add, eL_sub, eL_mul, eL_neg, eL_lt, eL_le, eL_eq, eL_remN, eL_mod0, ne_eq, Int64.not_lt, Int64.not_le] at c3)
                        (try simp (disch := omega) only [lg_cmp_ge, lg_cmp_le, lg_cmp_gt, lg_cmp_lt, lg_cmp_eq, eL_0, eL_1, eL_m1, eL_LO, eL_HI, eL_W, eL_add, eL_sub, eL_mul, eL_neg, eL_lt, eL_le, eL_eq, eL_remN, eL_mod0, ne_eq, Int64.not_lt, Int64.not_le] at c11)
                        (try simp (disch := omega) only [lg_cmp_ge, lg_cmp_le, lg_cmp_gt, lg_cmp_lt, lg_cmp_eq, eL_0, eL_1, eL_m1, eL_LO, eL_HI, eL_W, eL_add, eL_sub, eL_mul, eL_neg, eL_lt, eL_le, eL_eq, eL_remN, eL_mod0, ne_eq, Int64.not_lt, Int64.not_le] at c147)
                        (try simp (disch := omega) only [lg_cmp_ge, lg_cmp_le, lg_cmp_gt, lg_cmp_lt, lg_cmp_eq, eL_0, eL_1, eL_m1, eL_LO, eL_HI, eL_W, eL_add, eL_sub, eL_mul, eL_neg, eL_lt, eL_le, eL_eq, eL_remN, eL_mod0, ne_eq, Int64.not_lt, Int64.not_le] at c159)
                        (try simp (disch := omega) only [lg_cmp_ge, lg_cmp_le, lg_cmp_gt, lg_cmp_lt, lg_cmp_eq, eL_0, eL_1, eL_m1, eL_LO, eL_HI, eL_W, eL_add, eL_sub, eL_mul, eL_neg, eL_lt, eL_le, eL_eq, eL_remN, eL_mod0, ne_eq, Int64.not_lt, Int64.not_le] at c175)
                        (try simp (disch := omega) only [lg_cmp_ge, lg_cmp_le, lg_cmp_gt, lg_cmp_lt, lg_cmp_eq, eL_0, eL_1, eL_m1, eL_LO, eL_HI, eL_W, eL_add, eL_sub, eL_mul, eL_neg, eL_lt, eL_le, eL_eq, eL_remN, eL_mod0, ne_eq, Int64.not_lt, Int64.not_le] at c193)
                        rw [show restS x d = mkS (max x.1 (1 - (q.2.1))) (min x.2.1 (q.2.1 - 1)) 1 from by
                          unfold restS
                          rw [if_neg n0, if_neg (by omega), z2, if_neg (by omega), if_neg (by omega)]]
                        exact ⟨rfl, rfl, W209.p.tr o1 r1⟩
                      · refine gi_lconst (q := 197) (v := 0) C (dm_Mo_rest 105 rfl) rfl (by decide) ?_
                        refine gi_goto (tgt := 208) C (dm_Mo_rest 106 rfl) (by decide) ?_
                        refine gi_lconst (q := 209) (v := 1) C (dm_Mo_rest 112 rfl) rfl (by decide) ?_
                        rw [eL_1]
                        refine gi_callv 3 (q := 212) C (dm_Mo_rest 113 rfl) rfl my_Mo_set lk_Mo_262 im_Mo_set rfl (c_Mo_set (max x.1 (1 - (q.2.1))) (0) 1 (by omega) (by omega) (by omega) (by omega) H1) Ha1 rfl rfl ⟨(Nat.le_of_ble_eq_true rfl), (Nat.le_of_ble_eq_true rfl)⟩ (Nat.le_of_ble_eq_true rfl) ⟨(Nat.le_of_ble_eq_true rfl), (Nat.le_of_ble_eq_true rfl)⟩ (fun r209 n209 h209 e209 => ?_)
                        obtain ⟨rfl, rfl, W209⟩ := e209
                        refine gi_vret C hr (dm_Mo_rest 114 rfl) ?_
                        (try simp (disch := omega) only [lg_cmp_ge, lg_cmp_le, lg_cmp_gt, lg_cmp_lt, lg_cmp_eq, eL_0, eL_1, eL_m1, eL_LO, eL_HI, eL_W, eL_add, eL_sub, eL_mul, eL_neg, eL_lt, eL_le, eL_eq, eL_remN, eL_mod0, ne_eq, Int64.not_lt, Int64.not_le] at c3)
                        (try simp (disch := omega) only [lg_cmp_ge, lg_cmp_le, lg_cmp_gt, lg_cmp_lt, lg_cmp_eq, eL_0, eL_1, eL_m1, eL_LO, eL_HI, eL_W, eL_add, eL_sub, eL_mul, eL_neg, eL_lt, eL_le, eL_eq, eL_remN, eL_mod0, ne_eq, Int64.not_lt, Int64.not_le] at c11)
                        (try simp (disch := omega) only [lg_cmp_ge, lg_cmp_le, lg_cmp_gt, lg_cmp_lt, lg_cmp_eq, eL_0, eL_1, eL_m1, eL_LO, eL_HI, eL_W, eL_add, eL_sub, eL_mul, eL_neg, eL_lt, eL_le, eL_eq, eL_remN, eL_mod0, ne_eq, Int64.not_lt, Int64.not_le] at c147)
                        (try simp (disch := omega) only [lg_cmp_ge, lg_cmp_le, lg_cmp_gt, lg_cmp_lt, lg_cmp_eq, eL_0, eL_1, eL_m1, eL_LO, eL_HI, eL_W, eL_add, eL_sub, eL_mul, eL_neg, eL_lt, eL_le, eL_eq, eL_remN, eL_mod0, ne_eq, Int64.not_lt, Int64.not_le] at c159)
                        (try simp (disch := omega) only [lg_cmp_ge, lg_cmp_le, lg_cmp_gt, lg_cmp_lt, lg_cmp_eq, eL_0, eL_1, eL_m1, eL_LO, eL_HI, eL_W, eL_add, eL_sub, eL_mul, eL_neg, eL_lt, eL_le, eL_eq, eL_remN, eL_mod0, ne_eq, Int64.not_lt, Int64.not_le] at c175)
                        (try simp (disch := omega) only [lg_cmp_ge, lg_cmp_le, lg_cmp_gt, lg_cmp_lt, lg_cmp_eq, eL_0, eL_1, eL_m1, eL_LO, eL_HI, eL_W, eL_add, eL_sub, eL_mul, eL_neg, eL_lt, eL_le, eL_eq, eL_remN, eL_mod0, ne_eq, Int64.not_lt, Int64.not_le] at c193)
                        rw [show restS x d = mkS (max x.1 (1 - (q.2.1))) (0) 1 from by
                          unfold restS
                          rw [if_neg n0, if_neg (by omega), z2, if_neg (by omega), if_pos (by omega)]]
                        exact ⟨rfl, rfl, W209.p.tr o1 r1⟩
                    · refine gi_lconst (q := 179) (v := 0) C (dm_Mo_rest 94 rfl) rfl (by decide) ?_
                      refine gi_goto (tgt := 190) C (dm_Mo_rest 95 rfl) (by decide) ?_
                      refine gi_lload_n (q := 191) (i := 3) C (dm_Mo_rest 101 rfl) rfl rfl rfl ?_
                      refine gi_lconst (q := 192) (v := 0) C (dm_Mo_rest 102 rfl) rfl (by decide) ?_
                      refine gi_lcmp (q := 193) C (dm_Mo_rest 103 rfl) rfl ?_
                      refine gi_if_gt (q := 196) (tgt := 200) C (dm_Mo_rest 104 rfl) rfl (by decide) (fun c193 => ?_) (fun c193 => ?_)
                      · refine gi_lload_n (q := 201) (i := 3) C (dm_Mo_rest 107 rfl) rfl rfl rfl ?_
                        refine gi_lload (q := 203) C (dm_Mo_rest 108 rfl) rfl rfl ?_
                        refine gi_lconst (q := 204) (v := 1) C (dm_Mo_rest 109 rfl) rfl (by decide) ?_
                        refine gi_lsub (q := 205) C (dm_Mo_rest 110 rfl) rfl ?_
                        rw [eL_1, eL_sub]
                        refine gi_calls 2 (q := 208) C (dm_Mo_rest 111 rfl) rfl my_Mo_min lk_Mo_252 sm_Mo_min (c_Mo_min x.2.1 (q.2.1 - 1) (by omega) (by omega) (by omega) (by omega)) rfl rfl ⟨(Nat.le_of_ble_eq_true rfl), (Nat.le_of_ble_eq_true rfl)⟩ (Nat.le_of_ble_eq_true rfl) ⟨(Nat.le_of_ble_eq_true rfl), (Nat.le_of_ble_eq_true rfl)⟩ (fun r205 n205 h205 e205 => ?_)
                        obtain ⟨rfl, q205, u205⟩ := e205
                        rw [q205, u205]
                        refine gi_lconst (q := 209) (v := 1) C (dm_Mo_rest 112 rfl) rfl (by decide) ?_
                        rw [eL_1]
                        refine gi_callv 3 (q := 212) C (dm_Mo_rest 113 rfl) rfl my_Mo_set lk_Mo_262 im_Mo_set rfl (c_Mo_set (0) (min x.2.1 (q.2.1 - 1)) 1 (by omega) (by omega) (by omega) (by omega) H1) Ha1 rfl rfl ⟨(Nat.le_of_ble_eq_true rfl), (Nat.le_of_ble_eq_true rfl)⟩ (Nat.le_of_ble_eq_true rfl) ⟨(Nat.le_of_ble_eq_true rfl), (Nat.le_of_ble_eq_true rfl)⟩ (fun r209 n209 h209 e209 => ?_)
                        obtain ⟨rfl, rfl, W209⟩ := e209
                        refine gi_vret C hr (dm_Mo_rest 114 rfl) ?_
                        (try simp (disch := omega) only [lg_cmp_ge, lg_cmp_le, lg_cmp_gt, lg_cmp_lt, lg_cmp_eq, eL_0, eL_1, eL_m1, eL_LO, eL_HI, eL_W, eL_add, eL_sub, eL_mul, eL_neg, eL_lt, eL_le, eL_eq, eL_remN, eL_mod0, ne_eq, Int64.not_lt, Int64.not_le] at c3)
                        (try simp (disch := omega) only [lg_cmp_ge, lg_cmp_le, lg_cmp_gt, lg_cmp_lt, lg_cmp_eq, eL_0, eL_1, eL_m1, eL_LO, eL_HI, eL_W, eL_add, eL_sub, eL_mul, eL_neg, eL_lt, eL_le, eL_eq, eL_remN, eL_mod0, ne_eq, Int64.not_lt, Int64.not_le] at c11)
                        (try simp (disch := omega) only [lg_cmp_ge, lg_cmp_le, lg_cmp_gt, lg_cmp_lt, lg_cmp_eq, eL_0, eL_1, eL_m1, eL_LO, eL_HI, eL_W, eL_add, eL_sub, eL_mul, eL_neg, eL_lt, eL_le, eL_eq, eL_remN, eL_mod0, ne_eq, Int64.not_lt, Int64.not_le] at c147)
                        (try simp (disch := omega) only [lg_cmp_ge, lg_cmp_le, lg_cmp_gt, lg_cmp_lt, lg_cmp_eq, eL_0, eL_1, eL_m1, eL_LO, eL_HI, eL_W, eL_add, eL_sub, eL_mul, eL_neg, eL_lt, eL_le, eL_eq, eL_remN, eL_mod0, ne_eq, Int64.not_lt, Int64.not_le] at c159)
                        (try simp (disch := omega) only [lg_cmp_ge, lg_cmp_le, lg_cmp_gt, lg_cmp_lt, lg_cmp_eq, eL_0, eL_1, eL_m1, eL_LO, eL_HI, eL_W, eL_add, eL_sub, eL_mul, eL_neg, eL_lt, eL_le, eL_eq, eL_remN, eL_mod0, ne_eq, Int64.not_lt, Int64.not_le] at c175)
                        (try simp (disch := omega) only [lg_cmp_ge, lg_cmp_le, lg_cmp_gt, lg_cmp_lt, lg_cmp_eq, eL_0, eL_1, eL_m1, eL_LO, eL_HI, eL_W, eL_add, eL_sub, eL_mul, eL_neg, eL_lt, eL_le, eL_eq, eL_remN, eL_mod0, ne_eq, Int64.not_lt, Int64.not_le] at c193)
                        rw [show restS x d = mkS (0) (min x.2.1 (q.2.1 - 1)) 1 from by
                          unfold restS
                          rw [if_neg n0, if_neg (by omega), z2, if_pos (by omega), if_neg (by omega)]]
                        exact ⟨rfl, rfl, W209.p.tr o1 r1⟩
                      · refine gi_lconst (q := 197) (v := 0) C (dm_Mo_rest 105 rfl) rfl (by decide) ?_
                        refine gi_goto (tgt := 208) C (dm_Mo_rest 106 rfl) (by decide) ?_
                        refine gi_lconst (q := 209) (v := 1) C (dm_Mo_rest 112 rfl) rfl (by decide) ?_
                        rw [eL_1]
                        refine gi_callv 3 (q := 212) C (dm_Mo_rest 113 rfl) rfl my_Mo_set lk_Mo_262 im_Mo_set rfl (c_Mo_set (0) (0) 1 (by omega) (by omega) (by omega) (by omega) H1) Ha1 rfl rfl ⟨(Nat.le_of_ble_eq_true rfl), (Nat.le_of_ble_eq_true rfl)⟩ (Nat.le_of_ble_eq_true rfl) ⟨(Nat.le_of_ble_eq_true rfl), (Nat.le_of_ble_eq_true rfl)⟩ (fun r209 n209 h209 e209 => ?_)
                        obtain ⟨rfl, rfl, W209⟩ := e209
                        refine gi_vret C hr (dm_Mo_rest 114 rfl) ?_
                        (try simp (disch := omega) only [lg_cmp_ge, lg_cmp_le, lg_cmp_gt, lg_cmp_lt, lg_cmp_eq, eL_0, eL_1, eL_m1, eL_LO, eL_HI, eL_W, eL_add, eL_sub, eL_mul, eL_neg, eL_lt, eL_le, eL_eq, eL_remN, eL_mod0, ne_eq, Int64.not_lt, Int64.not_le] at c3)
                        (try simp (disch := omega) only [lg_cmp_ge, lg_cmp_le, lg_cmp_gt, lg_cmp_lt, lg_cmp_eq, eL_0, eL_1, eL_m1, eL_LO, eL_HI, eL_W, eL_add, eL_sub, eL_mul, eL_neg, eL_lt, eL_le, eL_eq, eL_remN, eL_mod0, ne_eq, Int64.not_lt, Int64.not_le] at c11)
                        (try simp (disch := omega) only [lg_cmp_ge, lg_cmp_le, lg_cmp_gt, lg_cmp_lt, lg_cmp_eq, eL_0, eL_1, eL_m1, eL_LO, eL_HI, eL_W, eL_add, eL_sub, eL_mul, eL_neg, eL_lt, eL_le, eL_eq, eL_remN, eL_mod0, ne_eq, Int64.not_lt, Int64.not_le] at c147)
                        (try simp (disch := omega) only [lg_cmp_ge, lg_cmp_le, lg_cmp_gt, lg_cmp_lt, lg_cmp_eq, eL_0, eL_1, eL_m1, eL_LO, eL_HI, eL_W, eL_add, eL_sub, eL_mul, eL_neg, eL_lt, eL_le, eL_eq, eL_remN, eL_mod0, ne_eq, Int64.not_lt, Int64.not_le] at c159)
                        (try simp (disch := omega) only [lg_cmp_ge, lg_cmp_le, lg_cmp_gt, lg_cmp_lt, lg_cmp_eq, eL_0, eL_1, eL_m1, eL_LO, eL_HI, eL_W, eL_add, eL_sub, eL_mul, eL_neg, eL_lt, eL_le, eL_eq, eL_remN, eL_mod0, ne_eq, Int64.not_lt, Int64.not_le] at c175)
                        (try simp (disch := omega) only [lg_cmp_ge, lg_cmp_le, lg_cmp_gt, lg_cmp_lt, lg_cmp_eq, eL_0, eL_1, eL_m1, eL_LO, eL_HI, eL_W, eL_add, eL_sub, eL_mul, eL_neg, eL_lt, eL_le, eL_eq, eL_remN, eL_mod0, ne_eq, Int64.not_lt, Int64.not_le] at c193)
                        rw [show restS x d = mkS (0) (0) 1 from by
                          unfold restS
                          rw [if_neg n0, if_neg (by omega), z2, if_pos (by omega), if_pos (by omega)]]
                        exact ⟨rfl, rfl, W209.p.tr o1 r1⟩
                  · refine gi_aload_n (q := 163) (i := 0) C (dm_Mo_rest 83 rfl) rfl rfl rfl ?_
                    refine gi_lload_n (q := 164) (i := 1) C (dm_Mo_rest 84 rfl) rfl rfl rfl ?_
                    refine gi_lload_n (q := 165) (i := 3) C (dm_Mo_rest 85 rfl) rfl rfl rfl ?_
                    refine gi_lload (q := 167) C (dm_Mo_rest 86 rfl) rfl rfl ?_
                    refine gi_callv 3 (q := 170) C (dm_Mo_rest 87 rfl) rfl my_Mo_set lk_Mo_262 im_Mo_set rfl (c_Mo_set (x.1) (x.2.1) (x.2.2) (by omega) (by omega) (by omega) (by omega) H1) Ha1 rfl rfl ⟨(Nat.le_of_ble_eq_true rfl), (Nat.le_of_ble_eq_true rfl)⟩ (Nat.le_of_ble_eq_true rfl) ⟨(Nat.le_of_ble_eq_true rfl), (Nat.le_of_ble_eq_true rfl)⟩ (fun r167 n167 h167 e167 => ?_)
                    obtain ⟨rfl, rfl, W167⟩ := e167
                    refine gi_vret C hr (dm_Mo_rest 88 rfl) ?_
                    (try simp (disch := omega) only [lg_cmp_ge, lg_cmp_le, lg_cmp_gt, lg_cmp_lt, lg_cmp_eq, eL_0, eL_1, eL_m1, eL_LO, eL_HI, eL_W, eL_add, eL_sub, eL_mul, eL_neg, eL_lt, eL_le, eL_eq, eL_remN, eL_mod0, ne_eq, Int64.not_lt, Int64.not_le] at c3)
                    (try simp (disch := omega) only [lg_cmp_ge, lg_cmp_le, lg_cmp_gt, lg_cmp_lt, lg_cmp_eq, eL_0, eL_1, eL_m1, eL_LO, eL_HI, eL_W, eL_add, eL_sub, eL_mul, eL_neg, eL_lt, eL_le, eL_eq, eL_remN, eL_mod0, ne_eq, Int64.not_lt, Int64.not_le] at c11)
                    (try simp (disch := omega) only [lg_cmp_ge, lg_cmp_le, lg_cmp_gt, lg_cmp_lt, lg_cmp_eq, eL_0, eL_1, eL_m1, eL_LO, eL_HI, eL_W, eL_add, eL_sub, eL_mul, eL_neg, eL_lt, eL_le, eL_eq, eL_remN, eL_mod0, ne_eq, Int64.not_lt, Int64.not_le] at c147)
                    (try simp (disch := omega) only [lg_cmp_ge, lg_cmp_le, lg_cmp_gt, lg_cmp_lt, lg_cmp_eq, eL_0, eL_1, eL_m1, eL_LO, eL_HI, eL_W, eL_add, eL_sub, eL_mul, eL_neg, eL_lt, eL_le, eL_eq, eL_remN, eL_mod0, ne_eq, Int64.not_lt, Int64.not_le] at c159)
                    (try simp (disch := omega) only [lg_cmp_ge, lg_cmp_le, lg_cmp_gt, lg_cmp_lt, lg_cmp_eq, eL_0, eL_1, eL_m1, eL_LO, eL_HI, eL_W, eL_add, eL_sub, eL_mul, eL_neg, eL_lt, eL_le, eL_eq, eL_remN, eL_mod0, ne_eq, Int64.not_lt, Int64.not_le] at c175)
                    (try simp (disch := omega) only [lg_cmp_ge, lg_cmp_le, lg_cmp_gt, lg_cmp_lt, lg_cmp_eq, eL_0, eL_1, eL_m1, eL_LO, eL_HI, eL_W, eL_add, eL_sub, eL_mul, eL_neg, eL_lt, eL_le, eL_eq, eL_remN, eL_mod0, ne_eq, Int64.not_lt, Int64.not_le] at c193)
                    rw [show restS x d = mkS x.1 x.2.1 x.2.2 from by
                      unfold restS
                      rw [if_neg n0, if_pos (by omega), mkS_id hx]]
                    exact ⟨rfl, rfl, W167.p.tr o1 r1⟩
              · exact absurd t29 c121
            · exact absurd t29 c92
          · exact absurd t29 c71
        · exact absurd t29 c42
    · rw [en] at t29
      have t29 : S1 29 = 1 := t29
      rcases ep : posS d with _ | q
      · rw [ep] at t30
        have t30 : S1 30 = 0 := t30
        obtain ⟨k25, k26⟩ := tn p en
        have bn := part_n hd en
        have z1 : sizL d = -p.2.1 := by
          unfold sizL
          rw [en, ep]
        have z2 : sizH d = -p.1 := by
          unfold sizH
          rw [en, ep]
        refine gi_aload_n (q := 39) (i := 0) C (dm_Mo_rest 23 rfl) rfl rfl rfl ?_
        refine gi_get (q := 42) C (dm_Mo_rest 24 rfl) rfl fl_Mo_321 Ha1 (mo_g29 Hf1) ?_
        refine gi_if_eq (q := 45) (tgt := 67) C (dm_Mo_rest 25 rfl) rfl (by decide) (fun c42 => ?_) (fun c42 => ?_)
        · exact absurd c42 (by rw [t29]; decide)
        · refine gi_aload_n (q := 46) (i := 0) C (dm_Mo_rest 26 rfl) rfl rfl rfl ?_
          refine gi_get (q := 49) C (dm_Mo_rest 27 rfl) rfl fl_Mo_330 Ha1 (mo_g30 Hf1) ?_
          refine gi_if_eq (q := 52) (tgt := 67) C (dm_Mo_rest 28 rfl) rfl (by decide) (fun c49 => ?_) (fun c49 => ?_)
          · refine gi_aload_n (q := 68) (i := 0) C (dm_Mo_rest 36 rfl) rfl rfl rfl ?_
            refine gi_get (q := 71) C (dm_Mo_rest 37 rfl) rfl fl_Mo_321 Ha1 (mo_g29 Hf1) ?_
            refine gi_if_eq (q := 74) (tgt := 82) C (dm_Mo_rest 38 rfl) rfl (by decide) (fun c71 => ?_) (fun c71 => ?_)
            · exact absurd c71 (by rw [t29]; decide)
            · refine gi_aload_n (q := 75) (i := 0) C (dm_Mo_rest 39 rfl) rfl rfl rfl ?_
              refine gi_get (q := 78) C (dm_Mo_rest 40 rfl) rfl fl_Mo_327 Ha1 (mo_g26 Hf1) ?_
              rw [k26]
              refine gi_lneg (q := 79) C (dm_Mo_rest 41 rfl) rfl ?_
              rw [eL_neg]
              refine gi_goto (tgt := 86) C (dm_Mo_rest 42 rfl) (by decide) ?_
              skip
              refine gi_lstore (q := 88) C (dm_Mo_rest 45 rfl) rfl (Nat.le_of_ble_eq_true rfl) ?_
              refine gi_aload_n (q := 89) (i := 0) C (dm_Mo_rest 46 rfl) rfl rfl rfl ?_
              refine gi_get (q := 92) C (dm_Mo_rest 47 rfl) rfl fl_Mo_321 Ha1 (mo_g29 Hf1) ?_
              refine gi_if_eq (q := 95) (tgt := 117) C (dm_Mo_rest 48 rfl) rfl (by decide) (fun c92 => ?_) (fun c92 => ?_)
              · exact absurd c92 (by rw [t29]; decide)
              · refine gi_aload_n (q := 96) (i := 0) C (dm_Mo_rest 49 rfl) rfl rfl rfl ?_
                refine gi_get (q := 99) C (dm_Mo_rest 50 rfl) rfl fl_Mo_330 Ha1 (mo_g30 Hf1) ?_
                refine gi_if_eq (q := 102) (tgt := 117) C (dm_Mo_rest 51 rfl) rfl (by decide) (fun c99 => ?_) (fun c99 => ?_)
                · refine gi_aload_n (q := 118) (i := 0) C (dm_Mo_rest 59 rfl) rfl rfl rfl ?_
                  refine gi_get (q := 121) C (dm_Mo_rest 60 rfl) rfl fl_Mo_321 Ha1 (mo_g29 Hf1) ?_
                  refine gi_if_eq (q := 124) (tgt := 132) C (dm_Mo_rest 61 rfl) rfl (by decide) (fun c121 => ?_) (fun c121 => ?_)
                  · exact absurd c121 (by rw [t29]; decide)
                  · refine gi_aload_n (q := 125) (i := 0) C (dm_Mo_rest 62 rfl) rfl rfl rfl ?_
                    refine gi_get (q := 128) C (dm_Mo_rest 63 rfl) rfl fl_Mo_324 Ha1 (mo_g25 Hf1) ?_
                    rw [k25]
                    refine gi_lneg (q := 129) C (dm_Mo_rest 64 rfl) rfl ?_
                    rw [eL_neg]
                    refine gi_goto (tgt := 136) C (dm_Mo_rest 65 rfl) (by decide) ?_
                    refine gi_lstore (q := 138) C (dm_Mo_rest 68 rfl) rfl (Nat.le_of_ble_eq_true rfl) ?_
                    refine gi_lload_n (q := 139) (i := 1) C (dm_Mo_rest 69 rfl) rfl rfl rfl ?_
                    refine gi_lneg (q := 140) C (dm_Mo_rest 70 rfl) rfl ?_
                    rw [eL_neg]
                    refine gi_lload_n (q := 141) (i := 3) C (dm_Mo_rest 71 rfl) rfl rfl rfl ?_
                    refine gi_calls 2 (q := 144) C (dm_Mo_rest 72 rfl) rfl my_Mo_max lk_Mo_256 sm_Mo_max (c_Mo_max (-x.1) x.2.1 (by omega) (by omega) (by omega) (by omega)) rfl rfl ⟨(Nat.le_of_ble_eq_true rfl), (Nat.le_of_ble_eq_true rfl)⟩ (Nat.le_of_ble_eq_true rfl) ⟨(Nat.le_of_ble_eq_true rfl), (Nat.le_of_ble_eq_true rfl)⟩ (fun r141 n141 h141 e141 => ?_)
                    obtain ⟨rfl, q141, u141⟩ := e141
                    rw [q141, u141]
                    refine gi_lload (q := 146) C (dm_Mo_rest 73 rfl) rfl rfl ?_
                    refine gi_lcmp (q := 147) C (dm_Mo_rest 74 rfl) rfl ?_
                    refine gi_if_ge (q := 150) (tgt := 171) C (dm_Mo_rest 75 rfl) rfl (by decide) (fun c147 => ?_) (fun c147 => ?_)
                    · refine gi_aload_n (q := 172) (i := 0) C (dm_Mo_rest 89 rfl) rfl rfl rfl ?_
                      refine gi_lload_n (q := 173) (i := 1) C (dm_Mo_rest 90 rfl) rfl rfl rfl ?_
                      refine gi_lconst (q := 174) (v := 0) C (dm_Mo_rest 91 rfl) rfl (by decide) ?_
                      refine gi_lcmp (q := 175) C (dm_Mo_rest 92 rfl) rfl ?_
                      refine gi_if_lt (q := 178) (tgt := 182) C (dm_Mo_rest 93 rfl) rfl (by decide) (fun c175 => ?_) (fun c175 => ?_)
                      · refine gi_lload_n (q := 183) (i := 1) C (dm_Mo_rest 96 rfl) rfl rfl rfl ?_
                        refine gi_lconst (q := 184) (v := 1) C (dm_Mo_rest 97 rfl) rfl (by decide) ?_
                        refine gi_lload (q := 186) C (dm_Mo_rest 98 rfl) rfl rfl ?_
                        refine gi_lsub (q := 187) C (dm_Mo_rest 99 rfl) rfl ?_
                        rw [eL_1, eL_sub]
                        refine gi_calls 2 (q := 190) C (dm_Mo_rest 100 rfl) rfl my_Mo_max lk_Mo_256 sm_Mo_max (c_Mo_max x.1 (1 - (-p.1)) (by omega) (by omega) (by omega) (by omega)) rfl rfl ⟨(Nat.le_of_ble_eq_true rfl), (Nat.le_of_ble_eq_true rfl)⟩ (Nat.le_of_ble_eq_true rfl) ⟨(Nat.le_of_ble_eq_true rfl), (Nat.le_of_ble_eq_true rfl)⟩ (fun r187 n187 h187 e187 => ?_)
                        obtain ⟨rfl, q187, u187⟩ := e187
                        rw [q187, u187]
                        refine gi_lload_n (q := 191) (i := 3) C (dm_Mo_rest 101 rfl) rfl rfl rfl ?_
                        refine gi_lconst (q := 192) (v := 0) C (dm_Mo_rest 102 rfl) rfl (by decide) ?_
                        refine gi_lcmp (q := 193) C (dm_Mo_rest 103 rfl) rfl ?_
                        refine gi_if_gt (q := 196) (tgt := 200) C (dm_Mo_rest 104 rfl) rfl (by decide) (fun c193 => ?_) (fun c193 => ?_)
                        · refine gi_lload_n (q := 201) (i := 3) C (dm_Mo_rest 107 rfl) rfl rfl rfl ?_
                          refine gi_lload (q := 203) C (dm_Mo_rest 108 rfl) rfl rfl ?_
                          refine gi_lconst (q := 204) (v := 1) C (dm_Mo_rest 109 rfl) rfl (by decide) ?_
                          refine gi_lsub (q := 205) C (dm_Mo_rest 110 rfl) rfl ?_
                          rw [eL_1, eL_sub]
                          refine gi_calls 2 (q := 208) C (dm_Mo_rest 111 rfl) rfl my_Mo_min lk_Mo_252 sm_Mo_min (c_Mo_min x.2.1 (-p.1 - 1) (by omega) (by omega) (by omega) (by omega)) rfl rfl ⟨(Nat.le_of_ble_eq_true rfl), (Nat.le_of_ble_eq_true rfl)⟩ (Nat.le_of_ble_eq_true rfl) ⟨(Nat.le_of_ble_eq_true rfl), (Nat.le_of_ble_eq_true rfl)⟩ (fun r205 n205 h205 e205 => ?_)
                          obtain ⟨rfl, q205, u205⟩ := e205
                          rw [q205, u205]
                          refine gi_lconst (q := 209) (v := 1) C (dm_Mo_rest 112 rfl) rfl (by decide) ?_
                          rw [eL_1]
                          refine gi_callv 3 (q := 212) C (dm_Mo_rest 113 rfl) rfl my_Mo_set lk_Mo_262 im_Mo_set rfl (c_Mo_set (max x.1 (1 - (-p.1))) (min x.2.1 (-p.1 - 1)) 1 (by omega) (by omega) (by omega) (by omega) H1) Ha1 rfl rfl ⟨(Nat.le_of_ble_eq_true rfl), (Nat.le_of_ble_eq_true rfl)⟩ (Nat.le_of_ble_eq_true rfl) ⟨(Nat.le_of_ble_eq_true rfl), (Nat.le_of_ble_eq_true rfl)⟩ (fun r209 n209 h209 e209 => ?_)
                          obtain ⟨rfl, rfl, W209⟩ := e209
                          refine gi_vret C hr (dm_Mo_rest 114 rfl) ?_
                          (try simp (disch := omega) only [lg_cmp_ge, lg_cmp_le, lg_cmp_gt, lg_cmp_lt, lg_cmp_eq, eL_0, eL_1, eL_m1, eL_LO, eL_HI, eL_W, eL_add, eL_sub, eL_mul, eL_neg, eL_lt, eL_le, eL_eq, eL_remN, eL_mod0, ne_eq, Int64.not_lt, Int64.not_le] at c3)
                          (try simp (disch := omega) only [lg_cmp_ge, lg_cmp_le, lg_cmp_gt, lg_cmp_lt, lg_cmp_eq, eL_0, eL_1, eL_m1, eL_LO, eL_HI, eL_W, eL_add, eL_sub, eL_mul, eL_neg, eL_lt, eL_le, eL_eq, eL_remN, eL_mod0, ne_eq, Int64.not_lt, Int64.not_le] at c11)
                          (try simp (disch := omega) only [lg_cmp_ge, lg_cmp_le, lg_cmp_gt, lg_cmp_lt, lg_cmp_eq, eL_0, eL_1, eL_m1, eL_LO, eL_HI, eL_W, eL_add, eL_sub, eL_mul, eL_neg, eL_lt, eL_le, eL_eq, eL_remN, eL_mod0, ne_eq, Int64.not_lt, Int64.not_le] at c147)
                          (try simp (disch := omega) only [lg_cmp_ge, lg_cmp_le, lg_cmp_gt, lg_cmp_lt, lg_cmp_eq, eL_0, eL_1, eL_m1, eL_LO, eL_HI, eL_W, eL_add, eL_sub, eL_mul, eL_neg, eL_lt, eL_le, eL_eq, eL_remN, eL_mod0, ne_eq, Int64.not_lt, Int64.not_le] at c159)
                          (try simp (disch := omega) only [lg_cmp_ge, lg_cmp_le, lg_cmp_gt, lg_cmp_lt, lg_cmp_eq, eL_0, eL_1, eL_m1, eL_LO, eL_HI, eL_W, eL_add, eL_sub, eL_mul, eL_neg, eL_lt, eL_le, eL_eq, eL_remN, eL_mod0, ne_eq, Int64.not_lt, Int64.not_le] at c175)
                          (try simp (disch := omega) only [lg_cmp_ge, lg_cmp_le, lg_cmp_gt, lg_cmp_lt, lg_cmp_eq, eL_0, eL_1, eL_m1, eL_LO, eL_HI, eL_W, eL_add, eL_sub, eL_mul, eL_neg, eL_lt, eL_le, eL_eq, eL_remN, eL_mod0, ne_eq, Int64.not_lt, Int64.not_le] at c193)
                          rw [show restS x d = mkS (max x.1 (1 - (-p.1))) (min x.2.1 (-p.1 - 1)) 1 from by
                            unfold restS
                            rw [if_neg n0, if_neg (by omega), z2, if_neg (by omega), if_neg (by omega)]]
                          exact ⟨rfl, rfl, W209.p.tr o1 r1⟩
                        · refine gi_lconst (q := 197) (v := 0) C (dm_Mo_rest 105 rfl) rfl (by decide) ?_
                          refine gi_goto (tgt := 208) C (dm_Mo_rest 106 rfl) (by decide) ?_
                          refine gi_lconst (q := 209) (v := 1) C (dm_Mo_rest 112 rfl) rfl (by decide) ?_
                          rw [eL_1]
                          refine gi_callv 3 (q := 212) C (dm_Mo_rest 113 rfl) rfl my_Mo_set lk_Mo_262 im_Mo_set rfl (c_Mo_set (max x.1 (1 - (-p.1))) (0) 1 (by omega) (by omega) (by omega) (by omega) H1) Ha1 rfl rfl ⟨(Nat.le_of_ble_eq_true rfl), (Nat.le_of_ble_eq_true rfl)⟩ (Nat.le_of_ble_eq_true rfl) ⟨(Nat.le_of_ble_eq_true rfl), (Nat.le_of_ble_eq_true rfl)⟩ (fun r209 n209 h209 e209 => ?_)
                          obtain ⟨rfl, rfl, W209⟩ := e209
                          refine gi_vret C hr (dm_Mo_rest 114 rfl) ?_
                          (try simp (disch := omega) only [lg_cmp_ge, lg_cmp_le, lg_cmp_gt, lg_cmp_lt, lg_cmp_eq, eL_0, eL_1, eL_m1, eL_LO, eL_HI, eL_W, eL_add, eL_sub, eL_mul, eL_neg, eL_lt, eL_le, eL_eq, eL_remN, eL_mod0, ne_eq, Int64.not_lt, Int64.not_le] at c3)
                          (try simp (disch := omega) only [lg_cmp_ge, lg_cmp_le, lg_cmp_gt, lg_cmp_lt, lg_cmp_eq, eL_0, eL_1, eL_m1, eL_LO, eL_HI, eL_W, eL_add, eL_sub, eL_mul, eL_neg, eL_lt, eL_le, eL_eq, eL_remN, eL_mod0, ne_eq, Int64.not_lt, Int64.not_le] at c11)
                          (try simp (disch := omega) only [lg_cmp_ge, lg_cmp_le, lg_cmp_gt, lg_cmp_lt, lg_cmp_eq, eL_0, eL_1, eL_m1, eL_LO, eL_HI, eL_W, eL_add, eL_sub, eL_mul, eL_neg, eL_lt, eL_le, eL_eq, eL_remN, eL_mod0, ne_eq, Int64.not_lt, Int64.not_le] at c147)
                          (try simp (disch := omega) only [lg_cmp_ge, lg_cmp_le, lg_cmp_gt, lg_cmp_lt, lg_cmp_eq, eL_0, eL_1, eL_m1, eL_LO, eL_HI, eL_W, eL_add, eL_sub, eL_mul, eL_neg, eL_lt, eL_le, eL_eq, eL_remN, eL_mod0, ne_eq, Int64.not_lt, Int64.not_le] at c159)
                          (try simp (disch := omega) only [lg_cmp_ge, lg_cmp_le, lg_cmp_gt, lg_cmp_lt, lg_cmp_eq, eL_0, eL_1, eL_m1, eL_LO, eL_HI, eL_W, eL_add, eL_sub, eL_mul, eL_neg, eL_lt, eL_le, eL_eq, eL_remN, eL_mod0, ne_eq, Int64.not_lt, Int64.not_le] at c175)
                          (try simp (disch := omega) only [lg_cmp_ge, lg_cmp_le, lg_cmp_gt, lg_cmp_lt, lg_cmp_eq, eL_0, eL_1, eL_m1, eL_LO, eL_HI, eL_W, eL_add, eL_sub, eL_mul, eL_neg, eL_lt, eL_le, eL_eq, eL_remN, eL_mod0, ne_eq, Int64.not_lt, Int64.not_le] at c193)
                          rw [show restS x d = mkS (max x.1 (1 - (-p.1))) (0) 1 from by
                            unfold restS
                            rw [if_neg n0, if_neg (by omega), z2, if_neg (by omega), if_pos (by omega)]]
                          exact ⟨rfl, rfl, W209.p.tr o1 r1⟩
                      · refine gi_lconst (q := 179) (v := 0) C (dm_Mo_rest 94 rfl) rfl (by decide) ?_
                        refine gi_goto (tgt := 190) C (dm_Mo_rest 95 rfl) (by decide) ?_
                        refine gi_lload_n (q := 191) (i := 3) C (dm_Mo_rest 101 rfl) rfl rfl rfl ?_
                        refine gi_lconst (q := 192) (v := 0) C (dm_Mo_rest 102 rfl) rfl (by decide) ?_
                        refine gi_lcmp (q := 193) C (dm_Mo_rest 103 rfl) rfl ?_
                        refine gi_if_gt (q := 196) (tgt := 200) C (dm_Mo_rest 104 rfl) rfl (by decide) (fun c193 => ?_) (fun c193 => ?_)
                        · refine gi_lload_n (q := 201) (i := 3) C (dm_Mo_rest 107 rfl) rfl rfl rfl ?_
                          refine gi_lload (q := 203) C (dm_Mo_rest 108 rfl) rfl rfl ?_
                          refine gi_lconst (q := 204) (v := 1) C (dm_Mo_rest 109 rfl) rfl (by decide) ?_
                          refine gi_lsub (q := 205) C (dm_Mo_rest 110 rfl) rfl ?_
                          rw [eL_1, eL_sub]
                          refine gi_calls 2 (q := 208) C (dm_Mo_rest 111 rfl) rfl my_Mo_min lk_Mo_252 sm_Mo_min (c_Mo_min x.2.1 (-p.1 - 1) (by omega) (by omega) (by omega) (by omega)) rfl rfl ⟨(Nat.le_of_ble_eq_true rfl), (Nat.le_of_ble_eq_true rfl)⟩ (Nat.le_of_ble_eq_true rfl) ⟨(Nat.le_of_ble_eq_true rfl), (Nat.le_of_ble_eq_true rfl)⟩ (fun r205 n205 h205 e205 => ?_)
                          obtain ⟨rfl, q205, u205⟩ := e205
                          rw [q205, u205]
                          refine gi_lconst (q := 209) (v := 1) C (dm_Mo_rest 112 rfl) rfl (by decide) ?_
                          rw [eL_1]
                          refine gi_callv 3 (q := 212) C (dm_Mo_rest 113 rfl) rfl my_Mo_set lk_Mo_262 im_Mo_set rfl (c_Mo_set (0) (min x.2.1 (-p.1 - 1)) 1 (by omega) (by omega) (by omega) (by omega) H1) Ha1 rfl rfl ⟨(Nat.le_of_ble_eq_true rfl), (Nat.le_of_ble_eq_true rfl)⟩ (Nat.le_of_ble_eq_true rfl) ⟨(Nat.le_of_ble_eq_true rfl), (Nat.le_of_ble_eq_true rfl)⟩ (fun r209 n209 h209 e209 => ?_)
                          obtain ⟨rfl, rfl, W209⟩ := e209
                          refine gi_vret C hr (dm_Mo_rest 114 rfl) ?_
                          (try simp (disch := omega) only [lg_cmp_ge, lg_cmp_le, lg_cmp_gt, lg_cmp_lt, lg_cmp_eq, eL_0, eL_1, eL_m1, eL_LO, eL_HI, eL_W, eL_add, eL_sub, eL_mul, eL_neg, eL_lt, eL_le, eL_eq, eL_remN, eL_mod0, ne_eq, Int64.not_lt, Int64.not_le] at c3)
                          (try simp (disch := omega) only [lg_cmp_ge, lg_cmp_le, lg_cmp_gt, lg_cmp_lt, lg_cmp_eq, eL_0, eL_1, eL_m1, eL_LO, eL_HI, eL_W, eL_add, eL_sub, eL_mul, eL_neg, eL_lt, eL_le, eL_eq, eL_remN, eL_mod0, ne_eq, Int64.not_lt, Int64.not_le] at c11)
                          (try simp (disch := omega) only [lg_cmp_ge, lg_cmp_le, lg_cmp_gt, lg_cmp_lt, lg_cmp_eq, eL_0, eL_1, eL_m1, eL_LO, eL_HI, eL_W, eL_add, eL_sub, eL_mul, eL_neg, eL_lt, eL_le, eL_eq, eL_remN, eL_mod0, ne_eq, Int64.not_lt, Int64.not_le] at c147)
                          (try simp (disch := omega) only [lg_cmp_ge, lg_cmp_le, lg_cmp_gt, lg_cmp_lt, lg_cmp_eq, eL_0, eL_1, eL_m1, eL_LO, eL_HI, eL_W, eL_add, eL_sub, eL_mul, eL_neg, eL_lt, eL_le, eL_eq, eL_remN, eL_mod0, ne_eq, Int64.not_lt, Int64.not_le] at c159)
                          (try simp (disch := omega) only [lg_cmp_ge, lg_cmp_le, lg_cmp_gt, lg_cmp_lt, lg_cmp_eq, eL_0, eL_1, eL_m1, eL_LO, eL_HI, eL_W, eL_add, eL_sub, eL_mul, eL_neg, eL_lt, eL_le, eL_eq, eL_remN, eL_mod0, ne_eq, Int64.not_lt, Int64.not_le] at c175)
                          (try simp (disch := omega) only [lg_cmp_ge, lg_cmp_le, lg_cmp_gt, lg_cmp_lt, lg_cmp_eq, eL_0, eL_1, eL_m1, eL_LO, eL_HI, eL_W, eL_add, eL_sub, eL_mul, eL_neg, eL_lt, eL_le, eL_eq, eL_remN, eL_mod0, ne_eq, Int64.not_lt, Int64.not_le] at c193)
                          rw [show restS x d = mkS (0) (min x.2.1 (-p.1 - 1)) 1 from by
                            unfold restS
                            rw [if_neg n0, if_neg (by omega), z2, if_pos (by omega), if_neg (by omega)]]
                          exact ⟨rfl, rfl, W209.p.tr o1 r1⟩
                        · refine gi_lconst (q := 197) (v := 0) C (dm_Mo_rest 105 rfl) rfl (by decide) ?_
                          refine gi_goto (tgt := 208) C (dm_Mo_rest 106 rfl) (by decide) ?_
                          refine gi_lconst (q := 209) (v := 1) C (dm_Mo_rest 112 rfl) rfl (by decide) ?_
                          rw [eL_1]
                          refine gi_callv 3 (q := 212) C (dm_Mo_rest 113 rfl) rfl my_Mo_set lk_Mo_262 im_Mo_set rfl (c_Mo_set (0) (0) 1 (by omega) (by omega) (by omega) (by omega) H1) Ha1 rfl rfl ⟨(Nat.le_of_ble_eq_true rfl), (Nat.le_of_ble_eq_true rfl)⟩ (Nat.le_of_ble_eq_true rfl) ⟨(Nat.le_of_ble_eq_true rfl), (Nat.le_of_ble_eq_true rfl)⟩ (fun r209 n209 h209 e209 => ?_)
                          obtain ⟨rfl, rfl, W209⟩ := e209
                          refine gi_vret C hr (dm_Mo_rest 114 rfl) ?_
                          (try simp (disch := omega) only [lg_cmp_ge, lg_cmp_le, lg_cmp_gt, lg_cmp_lt, lg_cmp_eq, eL_0, eL_1, eL_m1, eL_LO, eL_HI, eL_W, eL_add, eL_sub, eL_mul, eL_neg, eL_lt, eL_le, eL_eq, eL_remN, eL_mod0, ne_eq, Int64.not_lt, Int64.not_le] at c3)
                          (try simp (disch := omega) only [lg_cmp_ge, lg_cmp_le, lg_cmp_gt, lg_cmp_lt, lg_cmp_eq, eL_0, eL_1, eL_m1, eL_LO, eL_HI, eL_W, eL_add, eL_sub, eL_mul, eL_neg, eL_lt, eL_le, eL_eq, eL_remN, eL_mod0, ne_eq, Int64.not_lt, Int64.not_le] at c11)
                          (try simp (disch := omega) only [lg_cmp_ge, lg_cmp_le, lg_cmp_gt, lg_cmp_lt, lg_cmp_eq, eL_0, eL_1, eL_m1, eL_LO, eL_HI, eL_W, eL_add, eL_sub, eL_mul, eL_neg, eL_lt, eL_le, eL_eq, eL_remN, eL_mod0, ne_eq, Int64.not_lt, Int64.not_le] at c147)
                          (try simp (disch := omega) only [lg_cmp_ge, lg_cmp_le, lg_cmp_gt, lg_cmp_lt, lg_cmp_eq, eL_0, eL_1, eL_m1, eL_LO, eL_HI, eL_W, eL_add, eL_sub, eL_mul, eL_neg, eL_lt, eL_le, eL_eq, eL_remN, eL_mod0, ne_eq, Int64.not_lt, Int64.not_le] at c159)
                          (try simp (disch := omega) only [lg_cmp_ge, lg_cmp_le, lg_cmp_gt, lg_cmp_lt, lg_cmp_eq, eL_0, eL_1, eL_m1, eL_LO, eL_HI, eL_W, eL_add, eL_sub, eL_mul, eL_neg, eL_lt, eL_le, eL_eq, eL_remN, eL_mod0, ne_eq, Int64.not_lt, Int64.not_le] at c175)
                          (try simp (disch := omega) only [lg_cmp_ge, lg_cmp_le, lg_cmp_gt, lg_cmp_lt, lg_cmp_eq, eL_0, eL_1, eL_m1, eL_LO, eL_HI, eL_W, eL_add, eL_sub, eL_mul, eL_neg, eL_lt, eL_le, eL_eq, eL_remN, eL_mod0, ne_eq, Int64.not_lt, Int64.not_le] at c193)
                          rw [show restS x d = mkS (0) (0) 1 from by
                            unfold restS
                            rw [if_neg n0, if_neg (by omega), z2, if_pos (by omega), if_pos (by omega)]]
                          exact ⟨rfl, rfl, W209.p.tr o1 r1⟩
                    · refine gi_lload_n (q := 151) (i := 1) C (dm_Mo_rest 76 rfl) rfl rfl rfl ?_
                      refine gi_lload_n (q := 152) (i := 3) C (dm_Mo_rest 77 rfl) rfl rfl rfl ?_
                      refine gi_lneg (q := 153) C (dm_Mo_rest 78 rfl) rfl ?_
                      rw [eL_neg]
                      refine gi_calls 2 (q := 156) C (dm_Mo_rest 79 rfl) rfl my_Mo_max lk_Mo_256 sm_Mo_max (c_Mo_max x.1 (-x.2.1) (by omega) (by omega) (by omega) (by omega)) rfl rfl ⟨(Nat.le_of_ble_eq_true rfl), (Nat.le_of_ble_eq_true rfl)⟩ (Nat.le_of_ble_eq_true rfl) ⟨(Nat.le_of_ble_eq_true rfl), (Nat.le_of_ble_eq_true rfl)⟩ (fun r153 n153 h153 e153 => ?_)
                      obtain ⟨rfl, q153, u153⟩ := e153
                      rw [q153, u153]
                      refine gi_lload (q := 158) C (dm_Mo_rest 80 rfl) rfl rfl ?_
                      refine gi_lcmp (q := 159) C (dm_Mo_rest 81 rfl) rfl ?_
                      refine gi_if_ge (q := 162) (tgt := 171) C (dm_Mo_rest 82 rfl) rfl (by decide) (fun c159 => ?_) (fun c159 => ?_)
                      · refine gi_aload_n (q := 172) (i := 0) C (dm_Mo_rest 89 rfl) rfl rfl rfl ?_
                        refine gi_lload_n (q := 173) (i := 1) C (dm_Mo_rest 90 rfl) rfl rfl rfl ?_
                        refine gi_lconst (q := 174) (v := 0) C (dm_Mo_rest 91 rfl) rfl (by decide) ?_
                        refine gi_lcmp (q := 175) C (dm_Mo_rest 92 rfl) rfl ?_
                        refine gi_if_lt (q := 178) (tgt := 182) C (dm_Mo_rest 93 rfl) rfl (by decide) (fun c175 => ?_) (fun c175 => ?_)
                        · refine gi_lload_n (q := 183) (i := 1) C (dm_Mo_rest 96 rfl) rfl rfl rfl ?_
                          refine gi_lconst (q := 184) (v := 1) C (dm_Mo_rest 97 rfl) rfl (by decide) ?_
                          refine gi_lload (q := 186) C (dm_Mo_rest 98 rfl) rfl rfl ?_
                          refine gi_lsub (q := 187) C (dm_Mo_rest 99 rfl) rfl ?_
                          rw [eL_1, eL_sub]
                          refine gi_calls 2 (q := 190) C (dm_Mo_rest 100 rfl) rfl my_Mo_max lk_Mo_256 sm_Mo_max (c_Mo_max x.1 (1 - (-p.1)) (by omega) (by omega) (by omega) (by omega)) rfl rfl ⟨(Nat.le_of_ble_eq_true rfl), (Nat.le_of_ble_eq_true rfl)⟩ (Nat.le_of_ble_eq_true rfl) ⟨(Nat.le_of_ble_eq_true rfl), (Nat.le_of_ble_eq_true rfl)⟩ (fun r187 n187 h187 e187 => ?_)
                          obtain ⟨rfl, q187, u187⟩ := e187
                          rw [q187, u187]
                          refine gi_lload_n (q := 191) (i := 3) C (dm_Mo_rest 101 rfl) rfl rfl rfl ?_
                          refine gi_lconst (q := 192) (v := 0) C (dm_Mo_rest 102 rfl) rfl (by decide) ?_
                          refine gi_lcmp (q := 193) C (dm_Mo_rest 103 rfl) rfl ?_
                          refine gi_if_gt (q := 196) (tgt := 200) C (dm_Mo_rest 104 rfl) rfl (by decide) (fun c193 => ?_) (fun c193 => ?_)
                          · refine gi_lload_n (q := 201) (i := 3) C (dm_Mo_rest 107 rfl) rfl rfl rfl ?_
                            refine gi_lload (q := 203) C (dm_Mo_rest 108 rfl) rfl rfl ?_
                            refine gi_lconst (q := 204) (v := 1) C (dm_Mo_rest 109 rfl) rfl (by decide) ?_
                            refine gi_lsub (q := 205) C (dm_Mo_rest 110 rfl) rfl ?_
                            rw [eL_1, eL_sub]
                            refine gi_calls 2 (q := 208) C (dm_Mo_rest 111 rfl) rfl my_Mo_min lk_Mo_252 sm_Mo_min (c_Mo_min x.2.1 (-p.1 - 1) (by omega) (by omega) (by omega) (by omega)) rfl rfl ⟨(Nat.le_of_ble_eq_true rfl), (Nat.le_of_ble_eq_true rfl)⟩ (Nat.le_of_ble_eq_true rfl) ⟨(Nat.le_of_ble_eq_true rfl), (Nat.le_of_ble_eq_true rfl)⟩ (fun r205 n205 h205 e205 => ?_)
                            obtain ⟨rfl, q205, u205⟩ := e205
                            rw [q205, u205]
                            refine gi_lconst (q := 209) (v := 1) C (dm_Mo_rest 112 rfl) rfl (by decide) ?_
                            rw [eL_1]
                            refine gi_callv 3 (q := 212) C (dm_Mo_rest 113 rfl) rfl my_Mo_set lk_Mo_262 im_Mo_set rfl (c_Mo_set (max x.1 (1 - (-p.1))) (min x.2.1 (-p.1 - 1)) 1 (by omega) (by omega) (by omega) (by omega) H1) Ha1 rfl rfl ⟨(Nat.le_of_ble_eq_true rfl), (Nat.le_of_ble_eq_true rfl)⟩ (Nat.le_of_ble_eq_true rfl) ⟨(Nat.le_of_ble_eq_true rfl), (Nat.le_of_ble_eq_true rfl)⟩ (fun r209 n209 h209 e209 => ?_)
                            obtain ⟨rfl, rfl, W209⟩ := e209
                            refine gi_vret C hr (dm_Mo_rest 114 rfl) ?_
                            (try simp (disch := omega) only [lg_cmp_ge, lg_cmp_le, lg_cmp_gt, lg_cmp_lt, lg_cmp_eq, eL_0, eL_1, eL_m1, eL_LO, eL_HI, eL_W, eL_add, eL_sub, eL_mul, eL_neg, eL_lt, eL_le, eL_eq, eL_remN, eL_mod0, ne_eq, Int64.not_lt, Int64.not_le] at c3)
                            (try simp (disch := omega) only [lg_cmp_ge, lg_cmp_le, lg_cmp_gt, lg_cmp_lt, lg_cmp_eq, eL_0, eL_1, eL_m1, eL_LO, eL_HI, eL_W, eL_add, eL_sub, eL_mul, eL_neg, eL_lt, eL_le, eL_eq, eL_remN, eL_mod0, ne_eq, Int64.not_lt, Int64.not_le] at c11)
                            (try simp (disch := omega) only [lg_cmp_ge, lg_cmp_le, lg_cmp_gt, lg_cmp_lt, lg_cmp_eq, eL_0, eL_1, eL_m1, eL_LO, eL_HI, eL_W, eL_add, eL_sub, eL_mul, eL_neg, eL_lt, eL_le, eL_eq, eL_remN, eL_mod0, ne_eq, Int64.not_lt, Int64.not_le] at c147)
                            (try simp (disch := omega) only [lg_cmp_ge, lg_cmp_le, lg_cmp_gt, lg_cmp_lt, lg_cmp_eq, eL_0, eL_1, eL_m1, eL_LO, eL_HI, eL_W, eL_add, eL_sub, eL_mul, eL_neg, eL_lt, eL_le, eL_eq, eL_remN, eL_mod0, ne_eq, Int64.not_lt, Int64.not_le] at c159)
                            (try simp (disch := omega) only [lg_cmp_ge, lg_cmp_le, lg_cmp_gt, lg_cmp_lt, lg_cmp_eq, eL_0, eL_1, eL_m1, eL_LO, eL_HI, eL_W, eL_add, eL_sub, eL_mul, eL_neg, eL_lt, eL_le, eL_eq, eL_remN, eL_mod0, ne_eq, Int64.not_lt, Int64.not_le] at c175)
                            (try simp (disch := omega) only [lg_cmp_ge, lg_cmp_le, lg_cmp_gt, lg_cmp_lt, lg_cmp_eq, eL_0, eL_1, eL_m1, eL_LO, eL_HI, eL_W, eL_add, eL_sub, eL_mul, eL_neg, eL_lt, eL_le, eL_eq, eL_remN, eL_mod0, ne_eq, Int64.not_lt, Int64.not_le] at c193)
                            rw [show restS x d = mkS (max x.1 (1 - (-p.1))) (min x.2.1 (-p.1 - 1)) 1 from by
                              unfold restS
                              rw [if_neg n0, if_neg (by omega), z2, if_neg (by omega), if_neg (by omega)]]
                            exact ⟨rfl, rfl, W209.p.tr o1 r1⟩
                          · refine gi_lconst (q := 197) (v := 0) C (dm_Mo_rest 105 rfl) rfl (by decide) ?_
                            refine gi_goto (tgt := 208) C (dm_Mo_rest 106 rfl) (by decide) ?_
                            refine gi_lconst (q := 209) (v := 1) C (dm_Mo_rest 112 rfl) rfl (by decide) ?_
                            rw [eL_1]
                            refine gi_callv 3 (q := 212) C (dm_Mo_rest 113 rfl) rfl my_Mo_set lk_Mo_262 im_Mo_set rfl (c_Mo_set (max x.1 (1 - (-p.1))) (0) 1 (by omega) (by omega) (by omega) (by omega) H1) Ha1 rfl rfl ⟨(Nat.le_of_ble_eq_true rfl), (Nat.le_of_ble_eq_true rfl)⟩ (Nat.le_of_ble_eq_true rfl) ⟨(Nat.le_of_ble_eq_true rfl), (Nat.le_of_ble_eq_true rfl)⟩ (fun r209 n209 h209 e209 => ?_)
                            obtain ⟨rfl, rfl, W209⟩ := e209
                            refine gi_vret C hr (dm_Mo_rest 114 rfl) ?_
                            (try simp (disch := omega) only [lg_cmp_ge, lg_cmp_le, lg_cmp_gt, lg_cmp_lt, lg_cmp_eq, eL_0, eL_1, eL_m1, eL_LO, eL_HI, eL_W, eL_add, eL_sub, eL_mul, eL_neg, eL_lt, eL_le, eL_eq, eL_remN, eL_mod0, ne_eq, Int64.not_lt, Int64.not_le] at c3)
                            (try simp (disch := omega) only [lg_cmp_ge, lg_cmp_le, lg_cmp_gt, lg_cmp_lt, lg_cmp_eq, eL_0, eL_1, eL_m1, eL_LO, eL_HI, eL_W, eL_add, eL_sub, eL_mul, eL_neg, eL_lt, eL_le, eL_eq, eL_remN, eL_mod0, ne_eq, Int64.not_lt, Int64.not_le] at c11)
                            (try simp (disch := omega) only [lg_cmp_ge, lg_cmp_le, lg_cmp_gt, lg_cmp_lt, lg_cmp_eq, eL_0, eL_1, eL_m1, eL_LO, eL_HI, eL_W, eL_add, eL_sub, eL_mul, eL_neg, eL_lt, eL_le, eL_eq, eL_remN, eL_mod0, ne_eq, Int64.not_lt, Int64.not_le] at c147)
                            (try simp (disch := omega) only [lg_cmp_ge, lg_cmp_le, lg_cmp_gt, lg_cmp_lt, lg_cmp_eq, eL_0, eL_1, eL_m1, eL_LO, eL_HI, eL_W, eL_add, eL_sub, eL_mul, eL_neg, eL_lt, eL_le, eL_eq, eL_remN, eL_mod0, ne_eq, Int64.not_lt, Int64.not_le] at c159)
                            (try simp (disch := omega) only [lg_cmp_ge, lg_cmp_le, lg_cmp_gt, lg_cmp_lt, lg_cmp_eq, eL_0, eL_1, eL_m1, eL_LO, eL_HI, eL_W, eL_add, eL_sub, eL_mul, eL_neg, eL_lt, eL_le, eL_eq, eL_remN, eL_mod0, ne_eq, Int64.not_lt, Int64.not_le] at c175)
                            (try simp (disch := omega) only [lg_cmp_ge, lg_cmp_le, lg_cmp_gt, lg_cmp_lt, lg_cmp_eq, eL_0, eL_1, eL_m1, eL_LO, eL_HI, eL_W, eL_add, eL_sub, eL_mul, eL_neg, eL_lt, eL_le, eL_eq, eL_remN, eL_mod0, ne_eq, Int64.not_lt, Int64.not_le] at c193)
                            rw [show restS x d = mkS (max x.1 (1 - (-p.1))) (0) 1 from by
                              unfold restS
                              rw [if_neg n0, if_neg (by omega), z2, if_neg (by omega), if_pos (by omega)]]
                            exact ⟨rfl, rfl, W209.p.tr o1 r1⟩
                        · refine gi_lconst (q := 179) (v := 0) C (dm_Mo_rest 94 rfl) rfl (by decide) ?_
                          refine gi_goto (tgt := 190) C (dm_Mo_rest 95 rfl) (by decide) ?_
                          refine gi_lload_n (q := 191) (i := 3) C (dm_Mo_rest 101 rfl) rfl rfl rfl ?_
                          refine gi_lconst (q := 192) (v := 0) C (dm_Mo_rest 102 rfl) rfl (by decide) ?_
                          refine gi_lcmp (q := 193) C (dm_Mo_rest 103 rfl) rfl ?_
                          refine gi_if_gt (q := 196) (tgt := 200) C (dm_Mo_rest 104 rfl) rfl (by decide) (fun c193 => ?_) (fun c193 => ?_)
                          · refine gi_lload_n (q := 201) (i := 3) C (dm_Mo_rest 107 rfl) rfl rfl rfl ?_
                            refine gi_lload (q := 203) C (dm_Mo_rest 108 rfl) rfl rfl ?_
                            refine gi_lconst (q := 204) (v := 1) C (dm_Mo_rest 109 rfl) rfl (by decide) ?_
                            refine gi_lsub (q := 205) C (dm_Mo_rest 110 rfl) rfl ?_
                            rw [eL_1, eL_sub]
                            refine gi_calls 2 (q := 208) C (dm_Mo_rest 111 rfl) rfl my_Mo_min lk_Mo_252 sm_Mo_min (c_Mo_min x.2.1 (-p.1 - 1) (by omega) (by omega) (by omega) (by omega)) rfl rfl ⟨(Nat.le_of_ble_eq_true rfl), (Nat.le_of_ble_eq_true rfl)⟩ (Nat.le_of_ble_eq_true rfl) ⟨(Nat.le_of_ble_eq_true rfl), (Nat.le_of_ble_eq_true rfl)⟩ (fun r205 n205 h205 e205 => ?_)
                            obtain ⟨rfl, q205, u205⟩ := e205
                            rw [q205, u205]
                            refine gi_lconst (q := 209) (v := 1) C (dm_Mo_rest 112 rfl) rfl (by decide) ?_
                            rw [eL_1]
                            refine gi_callv 3 (q := 212) C (dm_Mo_rest 113 rfl) rfl my_Mo_set lk_Mo_262 im_Mo_set rfl (c_Mo_set (0) (min x.2.1 (-p.1 - 1)) 1 (by omega) (by omega) (by omega) (by omega) H1) Ha1 rfl rfl ⟨(Nat.le_of_ble_eq_true rfl), (Nat.le_of_ble_eq_true rfl)⟩ (Nat.le_of_ble_eq_true rfl) ⟨(Nat.le_of_ble_eq_true rfl), (Nat.le_of_ble_eq_true rfl)⟩ (fun r209 n209 h209 e209 => ?_)
                            obtain ⟨rfl, rfl, W209⟩ := e209
                            refine gi_vret C hr (dm_Mo_rest 114 rfl) ?_
                            (try simp (disch := omega) only [lg_cmp_ge, lg_cmp_le, lg_cmp_gt, lg_cmp_lt, lg_cmp_eq, eL_0, eL_1, eL_m1, eL_LO, eL_HI, eL_W, eL_add, eL_sub, eL_mul, eL_neg, eL_lt, eL_le, eL_eq, eL_remN, eL_mod0, ne_eq, Int64.not_lt, Int64.not_le] at c3)
                            (try simp (disch := omega) only [lg_cmp_ge, lg_cmp_le, lg_cmp_gt, lg_cmp_lt, lg_cmp_eq, eL_0, eL_1, eL_m1, eL_LO, eL_HI, eL_W, eL_add, eL_sub, eL_mul, eL_neg, eL_lt, eL_le, eL_eq, eL_remN, eL_mod0, ne_eq, Int64.not_lt, Int64.not_le] at c11)
                            (try simp (disch := omega) only [lg_cmp_ge, lg_cmp_le, lg_cmp_gt, lg_cmp_lt, lg_cmp_eq, eL_0, eL_1, eL_m1, eL_LO, eL_HI, eL_W, eL_add, eL_sub, eL_mul, eL_neg, eL_lt, eL_le, eL_eq, eL_remN, eL_mod0, ne_eq, Int64.not_lt, Int64.not_le] at c147)
                            (try simp (disch := omega) only [lg_cmp_ge, lg_cmp_le, lg_cmp_gt, lg_cmp_lt, lg_cmp_eq, eL_0, eL_1, eL_m1, eL_LO, eL_HI, eL_W, eL_add, eL_sub, eL_mul, eL_neg, eL_lt, eL_le, eL_eq, eL_remN, eL_mod0, ne_eq, Int64.not_lt, Int64.not_le] at c159)
                            (try simp (disch := omega) only [lg_cmp_ge, lg_cmp_le, lg_cmp_gt, lg_cmp_lt, lg_cmp_eq, eL_0, eL_1, eL_m1, eL_LO, eL_HI, eL_W, eL_add, eL_sub, eL_mul, eL_neg, eL_lt, eL_le, eL_eq, eL_remN, eL_mod0, ne_eq, Int64.not_lt, Int64.not_le] at c175)
                            (try simp (disch := omega) only [lg_cmp_ge, lg_cmp_le, lg_cmp_gt, lg_cmp_lt, lg_cmp_eq, eL_0, eL_1, eL_m1, eL_LO, eL_HI, eL_W, eL_add, eL_sub, eL_mul, eL_neg, eL_lt, eL_le, eL_eq, eL_remN, eL_mod0, ne_eq, Int64.not_lt, Int64.not_le] at c193)
                            rw [show restS x d = mkS (0) (min x.2.1 (-p.1 - 1)) 1 from by
                              unfold restS
                              rw [if_neg n0, if_neg (by omega), z2, if_pos (by omega), if_neg (by omega)]]
                            exact ⟨rfl, rfl, W209.p.tr o1 r1⟩
                          · refine gi_lconst (q := 197) (v := 0) C (dm_Mo_rest 105 rfl) rfl (by decide) ?_
                            refine gi_goto (tgt := 208) C (dm_Mo_rest 106 rfl) (by decide) ?_
                            refine gi_lconst (q := 209) (v := 1) C (dm_Mo_rest 112 rfl) rfl (by decide) ?_
                            rw [eL_1]
                            refine gi_callv 3 (q := 212) C (dm_Mo_rest 113 rfl) rfl my_Mo_set lk_Mo_262 im_Mo_set rfl (c_Mo_set (0) (0) 1 (by omega) (by omega) (by omega) (by omega) H1) Ha1 rfl rfl ⟨(Nat.le_of_ble_eq_true rfl), (Nat.le_of_ble_eq_true rfl)⟩ (Nat.le_of_ble_eq_true rfl) ⟨(Nat.le_of_ble_eq_true rfl), (Nat.le_of_ble_eq_true rfl)⟩ (fun r209 n209 h209 e209 => ?_)
                            obtain ⟨rfl, rfl, W209⟩ := e209
                            refine gi_vret C hr (dm_Mo_rest 114 rfl) ?_
                            (try simp (disch := omega) only [lg_cmp_ge, lg_cmp_le, lg_cmp_gt, lg_cmp_lt, lg_cmp_eq, eL_0, eL_1, eL_m1, eL_LO, eL_HI, eL_W, eL_add, eL_sub, eL_mul, eL_neg, eL_lt, eL_le, eL_eq, eL_remN, eL_mod0, ne_eq, Int64.not_lt, Int64.not_le] at c3)
                            (try simp (disch := omega) only [lg_cmp_ge, lg_cmp_le, lg_cmp_gt, lg_cmp_lt, lg_cmp_eq, eL_0, eL_1, eL_m1, eL_LO, eL_HI, eL_W, eL_add, eL_sub, eL_mul, eL_neg, eL_lt, eL_le, eL_eq, eL_remN, eL_mod0, ne_eq, Int64.not_lt, Int64.not_le] at c11)
                            (try simp (disch := omega) only [lg_cmp_ge, lg_cmp_le, lg_cmp_gt, lg_cmp_lt, lg_cmp_eq, eL_0, eL_1, eL_m1, eL_LO, eL_HI, eL_W, eL_add, eL_sub, eL_mul, eL_neg, eL_lt, eL_le, eL_eq, eL_remN, eL_mod0, ne_eq, Int64.not_lt, Int64.not_le] at c147)
                            (try simp (disch := omega) only [lg_cmp_ge, lg_cmp_le, lg_cmp_gt, lg_cmp_lt, lg_cmp_eq, eL_0, eL_1, eL_m1, eL_LO, eL_HI, eL_W, eL_add, eL_sub, eL_mul, eL_neg, eL_lt, eL_le, eL_eq, eL_remN, eL_mod0, ne_eq, Int64.not_lt, Int64.not_le] at c159)
                            (try simp (disch := omega) only [lg_cmp_ge, lg_cmp_le, lg_cmp_gt, lg_cmp_lt, lg_cmp_eq, eL_0, eL_1, eL_m1, eL_LO, eL_HI, eL_W, eL_add, eL_sub, eL_mul, eL_neg, eL_lt, eL_le, eL_eq, eL_remN, eL_mod0, ne_eq, Int64.not_lt, Int64.not_le] at c175)
                            (try simp (disch := omega) only [lg_cmp_ge, lg_cmp_le, lg_cmp_gt, lg_cmp_lt, lg_cmp_eq, eL_0, eL_1, eL_m1, eL_LO, eL_HI, eL_W, eL_add, eL_sub, eL_mul, eL_neg, eL_lt, eL_le, eL_eq, eL_remN, eL_mod0, ne_eq, Int64.not_lt, Int64.not_le] at c193)
                            rw [show restS x d = mkS (0) (0) 1 from by
                              unfold restS
                              rw [if_neg n0, if_neg (by omega), z2, if_pos (by omega), if_pos (by omega)]]
                            exact ⟨rfl, rfl, W209.p.tr o1 r1⟩
                      · refine gi_aload_n (q := 163) (i := 0) C (dm_Mo_rest 83 rfl) rfl rfl rfl ?_
                        refine gi_lload_n (q := 164) (i := 1) C (dm_Mo_rest 84 rfl) rfl rfl rfl ?_
                        refine gi_lload_n (q := 165) (i := 3) C (dm_Mo_rest 85 rfl) rfl rfl rfl ?_
                        refine gi_lload (q := 167) C (dm_Mo_rest 86 rfl) rfl rfl ?_
                        refine gi_callv 3 (q := 170) C (dm_Mo_rest 87 rfl) rfl my_Mo_set lk_Mo_262 im_Mo_set rfl (c_Mo_set (x.1) (x.2.1) (x.2.2) (by omega) (by omega) (by omega) (by omega) H1) Ha1 rfl rfl ⟨(Nat.le_of_ble_eq_true rfl), (Nat.le_of_ble_eq_true rfl)⟩ (Nat.le_of_ble_eq_true rfl) ⟨(Nat.le_of_ble_eq_true rfl), (Nat.le_of_ble_eq_true rfl)⟩ (fun r167 n167 h167 e167 => ?_)
                        obtain ⟨rfl, rfl, W167⟩ := e167
                        refine gi_vret C hr (dm_Mo_rest 88 rfl) ?_
                        (try simp (disch := omega) only [lg_cmp_ge, lg_cmp_le, lg_cmp_gt, lg_cmp_lt, lg_cmp_eq, eL_0, eL_1, eL_m1, eL_LO, eL_HI, eL_W, eL_add, eL_sub, eL_mul, eL_neg, eL_lt, eL_le, eL_eq, eL_remN, eL_mod0, ne_eq, Int64.not_lt, Int64.not_le] at c3)
                        (try simp (disch := omega) only [lg_cmp_ge, lg_cmp_le, lg_cmp_gt, lg_cmp_lt, lg_cmp_eq, eL_0, eL_1, eL_m1, eL_LO, eL_HI, eL_W, eL_add, eL_sub, eL_mul, eL_neg, eL_lt, eL_le, eL_eq, eL_remN, eL_mod0, ne_eq, Int64.not_lt, Int64.not_le] at c11)
                        (try simp (disch := omega) only [lg_cmp_ge, lg_cmp_le, lg_cmp_gt, lg_cmp_lt, lg_cmp_eq, eL_0, eL_1, eL_m1, eL_LO, eL_HI, eL_W, eL_add, eL_sub, eL_mul, eL_neg, eL_lt, eL_le, eL_eq, eL_remN, eL_mod0, ne_eq, Int64.not_lt, Int64.not_le] at c147)
                        (try simp (disch := omega) only [lg_cmp_ge, lg_cmp_le, lg_cmp_gt, lg_cmp_lt, lg_cmp_eq, eL_0, eL_1, eL_m1, eL_LO, eL_HI, eL_W, eL_add, eL_sub, eL_mul, eL_neg, eL_lt, eL_le, eL_eq, eL_remN, eL_mod0, ne_eq, Int64.not_lt, Int64.not_le] at c159)
                        (try simp (disch := omega) only [lg_cmp_ge, lg_cmp_le, lg_cmp_gt, lg_cmp_lt, lg_cmp_eq, eL_0, eL_1, eL_m1, eL_LO, eL_HI, eL_W, eL_add, eL_sub, eL_mul, eL_neg, eL_lt, eL_le, eL_eq, eL_remN, eL_mod0, ne_eq, Int64.not_lt, Int64.not_le] at c175)
                        (try simp (disch := omega) only [lg_cmp_ge, lg_cmp_le, lg_cmp_gt, lg_cmp_lt, lg_cmp_eq, eL_0, eL_1, eL_m1, eL_LO, eL_HI, eL_W, eL_add, eL_sub, eL_mul, eL_neg, eL_lt, eL_le, eL_eq, eL_remN, eL_mod0, ne_eq, Int64.not_lt, Int64.not_le] at c193)
                        rw [show restS x d = mkS x.1 x.2.1 x.2.2 from by
                          unfold restS
                          rw [if_neg n0, if_pos (by omega), mkS_id hx]]
                        exact ⟨rfl, rfl, W167.p.tr o1 r1⟩
                · exact absurd t30 c99
          · exact absurd t30 c49
      · rw [ep] at t30
        have t30 : S1 30 = 1 := t30
        obtain ⟨k25, k26⟩ := tn p en
        have bn := part_n hd en
        obtain ⟨k27, k28⟩ := tp q ep
        have bp := part_p hd ep
        have z1 : sizL d = min (-p.2.1) q.1 := by
          unfold sizL
          rw [en, ep]
        have z2 : sizH d = max (-p.1) q.2.1 := by
          unfold sizH
          rw [en, ep]
        refine gi_aload_n (q := 39) (i := 0) C (dm_Mo_rest 23 rfl) rfl rfl rfl ?_
        refine gi_get (q := 42) C (dm_Mo_rest 24 rfl) rfl fl_Mo_321 Ha1 (mo_g29 Hf1) ?_
        refine gi_if_eq (q := 45) (tgt := 67) C (dm_Mo_rest 25 rfl) rfl (by decide) (fun c42 => ?_) (fun c42 => ?_)
        · exact absurd c42 (by rw [t29]; decide)
        · refine gi_aload_n (q := 46) (i := 0) C (dm_Mo_rest 26 rfl) rfl rfl rfl ?_
          refine gi_get (q := 49) C (dm_Mo_rest 27 rfl) rfl fl_Mo_330 Ha1 (mo_g30 Hf1) ?_
          refine gi_if_eq (q := 52) (tgt := 67) C (dm_Mo_rest 28 rfl) rfl (by decide) (fun c49 => ?_) (fun c49 => ?_)
          · exact absurd c49 (by rw [t30]; decide)
          · refine gi_aload_n (q := 53) (i := 0) C (dm_Mo_rest 29 rfl) rfl rfl rfl ?_
            refine gi_get (q := 56) C (dm_Mo_rest 30 rfl) rfl fl_Mo_327 Ha1 (mo_g26 Hf1) ?_
            rw [k26]
            refine gi_lneg (q := 57) C (dm_Mo_rest 31 rfl) rfl ?_
            rw [eL_neg]
            refine gi_aload_n (q := 58) (i := 0) C (dm_Mo_rest 32 rfl) rfl rfl rfl ?_
            refine gi_get (q := 61) C (dm_Mo_rest 33 rfl) rfl fl_Mo_333 Ha1 (mo_g27 Hf1) ?_
            rw [k27]
            refine gi_calls 2 (q := 64) C (dm_Mo_rest 34 rfl) rfl my_Mo_min lk_Mo_252 sm_Mo_min (c_Mo_min (-p.2.1) q.1 (by omega) (by omega) (by omega) (by omega)) rfl rfl ⟨(Nat.le_of_ble_eq_true rfl), (Nat.le_of_ble_eq_true rfl)⟩ (Nat.le_of_ble_eq_true rfl) ⟨(Nat.le_of_ble_eq_true rfl), (Nat.le_of_ble_eq_true rfl)⟩ (fun r61 n61 h61 e61 => ?_)
            obtain ⟨rfl, q61, u61⟩ := e61
            rw [q61, u61]
            refine gi_goto (tgt := 86) C (dm_Mo_rest 35 rfl) (by decide) ?_
            skip
            refine gi_lstore (q := 88) C (dm_Mo_rest 45 rfl) rfl (Nat.le_of_ble_eq_true rfl) ?_
            refine gi_aload_n (q := 89) (i := 0) C (dm_Mo_rest 46 rfl) rfl rfl rfl ?_
            refine gi_get (q := 92) C (dm_Mo_rest 47 rfl) rfl fl_Mo_321 Ha1 (mo_g29 Hf1) ?_
            refine gi_if_eq (q := 95) (tgt := 117) C (dm_Mo_rest 48 rfl) rfl (by decide) (fun c92 => ?_) (fun c92 => ?_)
            · exact absurd c92 (by rw [t29]; decide)
            · refine gi_aload_n (q := 96) (i := 0) C (dm_Mo_rest 49 rfl) rfl rfl rfl ?_
              refine gi_get (q := 99) C (dm_Mo_rest 50 rfl) rfl fl_Mo_330 Ha1 (mo_g30 Hf1) ?_
              refine gi_if_eq (q := 102) (tgt := 117) C (dm_Mo_rest 51 rfl) rfl (by decide) (fun c99 => ?_) (fun c99 => ?_)
              · exact absurd c99 (by rw [t30]; decide)
              · refine gi_aload_n (q := 103) (i := 0) C (dm_Mo_rest 52 rfl) rfl rfl rfl ?_
                refine gi_get (q := 106) C (dm_Mo_rest 53 rfl) rfl fl_Mo_324 Ha1 (mo_g25 Hf1) ?_
                rw [k25]
                refine gi_lneg (q := 107) C (dm_Mo_rest 54 rfl) rfl ?_
                rw [eL_neg]
                refine gi_aload_n (q := 108) (i := 0) C (dm_Mo_rest 55 rfl) rfl rfl rfl ?_
                refine gi_get (q := 111) C (dm_Mo_rest 56 rfl) rfl fl_Mo_336 Ha1 (mo_g28 Hf1) ?_
                rw [k28]
                refine gi_calls 2 (q := 114) C (dm_Mo_rest 57 rfl) rfl my_Mo_max lk_Mo_256 sm_Mo_max (c_Mo_max (-p.1) q.2.1 (by omega) (by omega) (by omega) (by omega)) rfl rfl ⟨(Nat.le_of_ble_eq_true rfl), (Nat.le_of_ble_eq_true rfl)⟩ (Nat.le_of_ble_eq_true rfl) ⟨(Nat.le_of_ble_eq_true rfl), (Nat.le_of_ble_eq_true rfl)⟩ (fun r111 n111 h111 e111 => ?_)
                obtain ⟨rfl, q111, u111⟩ := e111
                rw [q111, u111]
                refine gi_goto (tgt := 136) C (dm_Mo_rest 58 rfl) (by decide) ?_
                refine gi_lstore (q := 138) C (dm_Mo_rest 68 rfl) rfl (Nat.le_of_ble_eq_true rfl) ?_
                refine gi_lload_n (q := 139) (i := 1) C (dm_Mo_rest 69 rfl) rfl rfl rfl ?_
                refine gi_lneg (q := 140) C (dm_Mo_rest 70 rfl) rfl ?_
                rw [eL_neg]
                refine gi_lload_n (q := 141) (i := 3) C (dm_Mo_rest 71 rfl) rfl rfl rfl ?_
                refine gi_calls 2 (q := 144) C (dm_Mo_rest 72 rfl) rfl my_Mo_max lk_Mo_256 sm_Mo_max (c_Mo_max (-x.1) x.2.1 (by omega) (by omega) (by omega) (by omega)) rfl rfl ⟨(Nat.le_of_ble_eq_true rfl), (Nat.le_of_ble_eq_true rfl)⟩ (Nat.le_of_ble_eq_true rfl) ⟨(Nat.le_of_ble_eq_true rfl), (Nat.le_of_ble_eq_true rfl)⟩ (fun r141 n141 h141 e141 => ?_)
                obtain ⟨rfl, q141, u141⟩ := e141
                rw [q141, u141]
                refine gi_lload (q := 146) C (dm_Mo_rest 73 rfl) rfl rfl ?_
                refine gi_lcmp (q := 147) C (dm_Mo_rest 74 rfl) rfl ?_
                refine gi_if_ge (q := 150) (tgt := 171) C (dm_Mo_rest 75 rfl) rfl (by decide) (fun c147 => ?_) (fun c147 => ?_)
                · refine gi_aload_n (q := 172) (i := 0) C (dm_Mo_rest 89 rfl) rfl rfl rfl ?_
                  refine gi_lload_n (q := 173) (i := 1) C (dm_Mo_rest 90 rfl) rfl rfl rfl ?_
                  refine gi_lconst (q := 174) (v := 0) C (dm_Mo_rest 91 rfl) rfl (by decide) ?_
                  refine gi_lcmp (q := 175) C (dm_Mo_rest 92 rfl) rfl ?_
                  refine gi_if_lt (q := 178) (tgt := 182) C (dm_Mo_rest 93 rfl) rfl (by decide) (fun c175 => ?_) (fun c175 => ?_)
                  · refine gi_lload_n (q := 183) (i := 1) C (dm_Mo_rest 96 rfl) rfl rfl rfl ?_
                    refine gi_lconst (q := 184) (v := 1) C (dm_Mo_rest 97 rfl) rfl (by decide) ?_
                    refine gi_lload (q := 186) C (dm_Mo_rest 98 rfl) rfl rfl ?_
                    refine gi_lsub (q := 187) C (dm_Mo_rest 99 rfl) rfl ?_
                    rw [eL_1, eL_sub]
                    refine gi_calls 2 (q := 190) C (dm_Mo_rest 100 rfl) rfl my_Mo_max lk_Mo_256 sm_Mo_max (c_Mo_max x.1 (1 - (max (-p.1) q.2.1)) (by omega) (by omega) (by omega) (by omega)) rfl rfl ⟨(Nat.le_of_ble_eq_true rfl), (Nat.le_of_ble_eq_true rfl)⟩ (Nat.le_of_ble_eq_true rfl) ⟨(Nat.le_of_ble_eq_true rfl), (Nat.le_of_ble_eq_true rfl)⟩ (fun r187 n187 h187 e187 => ?_)
                    obtain ⟨rfl, q187, u187⟩ := e187
                    rw [q187, u187]
                    refine gi_lload_n (q := 191) (i := 3) C (dm_Mo_rest 101 rfl) rfl rfl rfl ?_
                    refine gi_lconst (q := 192) (v := 0) C (dm_Mo_rest 102 rfl) rfl (by decide) ?_
                    refine gi_lcmp (q := 193) C (dm_Mo_rest 103 rfl) rfl ?_
                    refine gi_if_gt (q := 196) (tgt := 200) C (dm_Mo_rest 104 rfl) rfl (by decide) (fun c193 => ?_) (fun c193 => ?_)
                    · refine gi_lload_n (q := 201) (i := 3) C (dm_Mo_rest 107 rfl) rfl rfl rfl ?_
                      refine gi_lload (q := 203) C (dm_Mo_rest 108 rfl) rfl rfl ?_
                      refine gi_lconst (q := 204) (v := 1) C (dm_Mo_rest 109 rfl) rfl (by decide) ?_
                      refine gi_lsub (q := 205) C (dm_Mo_rest 110 rfl) rfl ?_
                      rw [eL_1, eL_sub]
                      refine gi_calls 2 (q := 208) C (dm_Mo_rest 111 rfl) rfl my_Mo_min lk_Mo_252 sm_Mo_min (c_Mo_min x.2.1 (max (-p.1) q.2.1 - 1) (by omega) (by omega) (by omega) (by omega)) rfl rfl ⟨(Nat.le_of_ble_eq_true rfl), (Nat.le_of_ble_eq_true rfl)⟩ (Nat.le_of_ble_eq_true rfl) ⟨(Nat.le_of_ble_eq_true rfl), (Nat.le_of_ble_eq_true rfl)⟩ (fun r205 n205 h205 e205 => ?_)
                      obtain ⟨rfl, q205, u205⟩ := e205
                      rw [q205, u205]
                      refine gi_lconst (q := 209) (v := 1) C (dm_Mo_rest 112 rfl) rfl (by decide) ?_
                      rw [eL_1]
                      refine gi_callv 3 (q := 212) C (dm_Mo_rest 113 rfl) rfl my_Mo_set lk_Mo_262 im_Mo_set rfl (c_Mo_set (max x.1 (1 - (max (-p.1) q.2.1))) (min x.2.1 (max (-p.1) q.2.1 - 1)) 1 (by omega) (by omega) (by omega) (by omega) H1) Ha1 rfl rfl ⟨(Nat.le_of_ble_eq_true rfl), (Nat.le_of_ble_eq_true rfl)⟩ (Nat.le_of_ble_eq_true rfl) ⟨(Nat.le_of_ble_eq_true rfl), (Nat.le_of_ble_eq_true rfl)⟩ (fun r209 n209 h209 e209 => ?_)
                      obtain ⟨rfl, rfl, W209⟩ := e209
                      refine gi_vret C hr (dm_Mo_rest 114 rfl) ?_
                      (try simp (disch := omega) only [lg_cmp_ge, lg_cmp_le, lg_cmp_gt, lg_cmp_lt, lg_cmp_eq, eL_0, eL_1, eL_m1, eL_LO, eL_HI, eL_W, eL_add, eL_sub, eL_mul, eL_neg, eL_lt, eL_le, eL_eq, eL_remN, eL_mod0, ne_eq, Int64.not_lt, Int64.not_le] at c3)
                      (try simp (disch := omega) only [lg_cmp_ge, lg_cmp_le, lg_cmp_gt, lg_cmp_lt, lg_cmp_eq, eL_0, eL_1, eL_m1, eL_LO, eL_HI, eL_W, eL_add, eL_sub, eL_mul, eL_neg, eL_lt, eL_le, eL_eq, eL_remN, eL_mod0, ne_eq, Int64.not_lt, Int64.not_le] at c11)
                      (try simp (disch := omega) only [lg_cmp_ge, lg_cmp_le, lg_cmp_gt, lg_cmp_lt, lg_cmp_eq, eL_0, eL_1, eL_m1, eL_LO, eL_HI, eL_W, eL_add, eL_sub, eL_mul, eL_neg, eL_lt, eL_le, eL_eq, eL_remN, eL_mod0, ne_eq, Int64.not_lt, Int64.not_le] at c147)
                      (try simp (disch := omega) only [lg_cmp_ge, lg_cmp_le, lg_cmp_gt, lg_cmp_lt, lg_cmp_eq, eL_0, eL_1, eL_m1, eL_LO, eL_HI, eL_W, eL_add, eL_sub, eL_mul, eL_neg, eL_lt, eL_le, eL_eq, eL_remN, eL_mod0, ne_eq, Int64.not_lt, Int64.not_le] at c159)
                      (try simp (disch := omega) only [lg_cmp_ge, lg_cmp_le, lg_cmp_gt, lg_cmp_lt, lg_cmp_eq, eL_0, eL_1, eL_m1, eL_LO, eL_HI, eL_W, eL_add, eL_sub, eL_mul, eL_neg, eL_lt, eL_le, eL_eq, eL_remN, eL_mod0, ne_eq, Int64.not_lt, Int64.not_le] at c175)
                      (try simp (disch := omega) only [lg_cmp_ge, lg_cmp_le, lg_cmp_gt, lg_cmp_lt, lg_cmp_eq, eL_0, eL_1, eL_m1, eL_LO, eL_HI, eL_W, eL_add, eL_sub, eL_mul, eL_neg, eL_lt, eL_le, eL_eq, eL_remN, eL_mod0, ne_eq, Int64.not_lt, Int64.not_le] at c193)
                      rw [show restS x d = mkS (max x.1 (1 - (max (-p.1) q.2.1))) (min x.2.1 (max (-p.1) q.2.1 - 1)) 1 from by
                        unfold restS
                        rw [if_neg n0, if_neg (by omega), z2, if_neg (by omega), if_neg (by omega)]]
                      exact ⟨rfl, rfl, W209.p.tr o1 r1⟩
                    · refine gi_lconst (q := 197) (v := 0) C (dm_Mo_rest 105 rfl) rfl (by decide) ?_
                      refine gi_goto (tgt := 208) C (dm_Mo_rest 106 rfl) (by decide) ?_
                      refine gi_lconst (q := 209) (v := 1) C (dm_Mo_rest 112 rfl) rfl (by decide) ?_
                      rw [eL_1]
                      refine gi_callv 3 (q := 212) C (dm_Mo_rest 113 rfl) rfl my_Mo_set lk_Mo_262 im_Mo_set rfl (c_Mo_set (max x.1 (1 - (max (-p.1) q.2.1))) (0) 1 (by omega) (by omega) (by omega) (by omega) H1) Ha1 rfl rfl ⟨(Nat.le_of_ble_eq_true rfl), (Nat.le_of_ble_eq_true rfl)⟩ (Nat.le_of_ble_eq_true rfl) ⟨(Nat.le_of_ble_eq_true rfl), (Nat.le_of_ble_eq_true rfl)⟩ (fun r209 n209 h209 e209 => ?_)
                      obtain ⟨rfl, rfl, W209⟩ := e209
                      refine gi_vret C hr (dm_Mo_rest 114 rfl) ?_
                      (try simp (disch := omega) only [lg_cmp_ge, lg_cmp_le, lg_cmp_gt, lg_cmp_lt, lg_cmp_eq, eL_0, eL_1, eL_m1, eL_LO, eL_HI, eL_W, eL_add, eL_sub, eL_mul, eL_neg, eL_lt, eL_le, eL_eq, eL_remN, eL_mod0, ne_eq, Int64.not_lt, Int64.not_le] at c3)
                      (try simp (disch := omega) only [lg_cmp_ge, lg_cmp_le, lg_cmp_gt, lg_cmp_lt, lg_cmp_eq, eL_0, eL_1, eL_m1, eL_LO, eL_HI, eL_W, eL_add, eL_sub, eL_mul, eL_neg, eL_lt, eL_le, eL_eq, eL_remN, eL_mod0, ne_eq, Int64.not_lt, Int64.not_le] at c11)
                      (try simp (disch := omega) only [lg_cmp_ge, lg_cmp_le, lg_cmp_gt, lg_cmp_lt, lg_cmp_eq, eL_0, eL_1, eL_m1, eL_LO, eL_HI, eL_W, eL_add, eL_sub, eL_mul, eL_neg, eL_lt, eL_le, eL_eq, eL_remN, eL_mod0, ne_eq, Int64.not_lt, Int64.not_le] at c147)
                      (try simp (disch := omega) only [lg_cmp_ge, lg_cmp_le, lg_cmp_gt, lg_cmp_lt, lg_cmp_eq, eL_0, eL_1, eL_m1, eL_LO, eL_HI, eL_W, eL_add, eL_sub, eL_mul, eL_neg, eL_lt, eL_le, eL_eq, eL_remN, eL_mod0, ne_eq, Int64.not_lt, Int64.not_le] at c159)
                      (try simp (disch := omega) only [lg_cmp_ge, lg_cmp_le, lg_cmp_gt, lg_cmp_lt, lg_cmp_eq, eL_0, eL_1, eL_m1, eL_LO, eL_HI, eL_W, eL_add, eL_sub, eL_mul, eL_neg, eL_lt, eL_le, eL_eq, eL_remN, eL_mod0, ne_eq, Int64.not_lt, Int64.not_le] at c175)
                      (try simp (disch := omega) only [lg_cmp_ge, lg_cmp_le, lg_cmp_gt, lg_cmp_lt, lg_cmp_eq, eL_0, eL_1, eL_m1, eL_LO, eL_HI, eL_W, eL_add, eL_sub, eL_mul, eL_neg, eL_lt, eL_le, eL_eq, eL_remN, eL_mod0, ne_eq, Int64.not_lt, Int64.not_le] at c193)
                      rw [show restS x d = mkS (max x.1 (1 - (max (-p.1) q.2.1))) (0) 1 from by
                        unfold restS
                        rw [if_neg n0, if_neg (by omega), z2, if_neg (by omega), if_pos (by omega)]]
                      exact ⟨rfl, rfl, W209.p.tr o1 r1⟩
                  · refine gi_lconst (q := 179) (v := 0) C (dm_Mo_rest 94 rfl) rfl (by decide) ?_
                    refine gi_goto (tgt := 190) C (dm_Mo_rest 95 rfl) (by decide) ?_
                    refine gi_lload_n (q := 191) (i := 3) C (dm_Mo_rest 101 rfl) rfl rfl rfl ?_
                    refine gi_lconst (q := 192) (v := 0) C (dm_Mo_rest 102 rfl) rfl (by decide) ?_
                    refine gi_lcmp (q := 193) C (dm_Mo_rest 103 rfl) rfl ?_
                    refine gi_if_gt (q := 196) (tgt := 200) C (dm_Mo_rest 104 rfl) rfl (by decide) (fun c193 => ?_) (fun c193 => ?_)
                    · refine gi_lload_n (q := 201) (i := 3) C (dm_Mo_rest 107 rfl) rfl rfl rfl ?_
                      refine gi_lload (q := 203) C (dm_Mo_rest 108 rfl) rfl rfl ?_
                      refine gi_lconst (q := 204) (v := 1) C (dm_Mo_rest 109 rfl) rfl (by decide) ?_
                      refine gi_lsub (q := 205) C (dm_Mo_rest 110 rfl) rfl ?_
                      rw [eL_1, eL_sub]
                      refine gi_calls 2 (q := 208) C (dm_Mo_rest 111 rfl) rfl my_Mo_min lk_Mo_252 sm_Mo_min (c_Mo_min x.2.1 (max (-p.1) q.2.1 - 1) (by omega) (by omega) (by omega) (by omega)) rfl rfl ⟨(Nat.le_of_ble_eq_true rfl), (Nat.le_of_ble_eq_true rfl)⟩ (Nat.le_of_ble_eq_true rfl) ⟨(Nat.le_of_ble_eq_true rfl), (Nat.le_of_ble_eq_true rfl)⟩ (fun r205 n205 h205 e205 => ?_)
                      obtain ⟨rfl, q205, u205⟩ := e205
                      rw [q205, u205]
                      refine gi_lconst (q := 209) (v := 1) C (dm_Mo_rest 112 rfl) rfl (by decide) ?_
                      rw [eL_1]
                      refine gi_callv 3 (q := 212) C (dm_Mo_rest 113 rfl) rfl my_Mo_set lk_Mo_262 im_Mo_set rfl (c_Mo_set (0) (min x.2.1 (max (-p.1) q.2.1 - 1)) 1 (by omega) (by omega) (by omega) (by omega) H1) Ha1 rfl rfl ⟨(Nat.le_of_ble_eq_true rfl), (Nat.le_of_ble_eq_true rfl)⟩ (Nat.le_of_ble_eq_true rfl) ⟨(Nat.le_of_ble_eq_true rfl), (Nat.le_of_ble_eq_true rfl)⟩ (fun r209 n209 h209 e209 => ?_)
                      obtain ⟨rfl, rfl, W209⟩ := e209
                      refine gi_vret C hr (dm_Mo_rest 114 rfl) ?_
                      (try simp (disch := omega) only [lg_cmp_ge, lg_cmp_le, lg_cmp_gt, lg_cmp_lt, lg_cmp_eq, eL_0, eL_1, eL_m1, eL_LO, eL_HI, eL_W, eL_add, eL_sub, eL_mul, eL_neg, eL_lt, eL_le, eL_eq, eL_remN, eL_mod0, ne_eq, Int64.not_lt, Int64.not_le] at c3)
                      (try simp (disch := omega) only [lg_cmp_ge, lg_cmp_le, lg_cmp_gt, lg_cmp_lt, lg_cmp_eq, eL_0, eL_1, eL_m1, eL_LO, eL_HI, eL_W, eL_add, eL_sub, eL_mul, eL_neg, eL_lt, eL_le, eL_eq, eL_remN, eL_mod0, ne_eq, Int64.not_lt, Int64.not_le] at c11)
                      (try simp (disch := omega) only [lg_cmp_ge, lg_cmp_le, lg_cmp_gt, lg_cmp_lt, lg_cmp_eq, eL_0, eL_1, eL_m1, eL_LO, eL_HI, eL_W, eL_add, eL_sub, eL_mul, eL_neg, eL_lt, eL_le, eL_eq, eL_remN, eL_mod0, ne_eq, Int64.not_lt, Int64.not_le] at c147)
                      (try simp (disch := omega) only [lg_cmp_ge, lg_cmp_le, lg_cmp_gt, lg_cmp_lt, lg_cmp_eq, eL_0, eL_1, eL_m1, eL_LO, eL_HI, eL_W, eL_add, eL_sub, eL_mul, eL_neg, eL_lt, eL_le, eL_eq, eL_remN, eL_mod0, ne_eq, Int64.not_lt, Int64.not_le] at c159)
                      (try simp (disch := omega) only [lg_cmp_ge, lg_cmp_le, lg_cmp_gt, lg_cmp_lt, lg_cmp_eq, eL_0, eL_1, eL_m1, eL_LO, eL_HI, eL_W, eL_add, eL_sub, eL_mul, eL_neg, eL_lt, eL_le, eL_eq, eL_remN, eL_mod0, ne_eq, Int64.not_lt, Int64.not_le] at c175)
                      (try simp (disch := omega) only [lg_cmp_ge, lg_cmp_le, lg_cmp_gt, lg_cmp_lt, lg_cmp_eq, eL_0, eL_1, eL_m1, eL_LO, eL_HI, eL_W, eL_add, eL_sub, eL_mul, eL_neg, eL_lt, eL_le, eL_eq, eL_remN, eL_mod0, ne_eq, Int64.not_lt, Int64.not_le] at c193)
                      rw [show restS x d = mkS (0) (min x.2.1 (max (-p.1) q.2.1 - 1)) 1 from by
                        unfold restS
                        rw [if_neg n0, if_neg (by omega), z2, if_pos (by omega), if_neg (by omega)]]
                      exact ⟨rfl, rfl, W209.p.tr o1 r1⟩
                    · refine gi_lconst (q := 197) (v := 0) C (dm_Mo_rest 105 rfl) rfl (by decide) ?_
                      refine gi_goto (tgt := 208) C (dm_Mo_rest 106 rfl) (by decide) ?_
                      refine gi_lconst (q := 209) (v := 1) C (dm_Mo_rest 112 rfl) rfl (by decide) ?_
                      rw [eL_1]
                      refine gi_callv 3 (q := 212) C (dm_Mo_rest 113 rfl) rfl my_Mo_set lk_Mo_262 im_Mo_set rfl (c_Mo_set (0) (0) 1 (by omega) (by omega) (by omega) (by omega) H1) Ha1 rfl rfl ⟨(Nat.le_of_ble_eq_true rfl), (Nat.le_of_ble_eq_true rfl)⟩ (Nat.le_of_ble_eq_true rfl) ⟨(Nat.le_of_ble_eq_true rfl), (Nat.le_of_ble_eq_true rfl)⟩ (fun r209 n209 h209 e209 => ?_)
                      obtain ⟨rfl, rfl, W209⟩ := e209
                      refine gi_vret C hr (dm_Mo_rest 114 rfl) ?_
                      (try simp (disch := omega) only [lg_cmp_ge, lg_cmp_le, lg_cmp_gt, lg_cmp_lt, lg_cmp_eq, eL_0, eL_1, eL_m1, eL_LO, eL_HI, eL_W, eL_add, eL_sub, eL_mul, eL_neg, eL_lt, eL_le, eL_eq, eL_remN, eL_mod0, ne_eq, Int64.not_lt, Int64.not_le] at c3)
                      (try simp (disch := omega) only [lg_cmp_ge, lg_cmp_le, lg_cmp_gt, lg_cmp_lt, lg_cmp_eq, eL_0, eL_1, eL_m1, eL_LO, eL_HI, eL_W, eL_add, eL_sub, eL_mul, eL_neg, eL_lt, eL_le, eL_eq, eL_remN, eL_mod0, ne_eq, Int64.not_lt, Int64.not_le] at c11)
                      (try simp (disch := omega) only [lg_cmp_ge, lg_cmp_le, lg_cmp_gt, lg_cmp_lt, lg_cmp_eq, eL_0, eL_1, eL_m1, eL_LO, eL_HI, eL_W, eL_add, eL_sub, eL_mul, eL_neg, eL_lt, eL_le, eL_eq, eL_remN, eL_mod0, ne_eq, Int64.not_lt, Int64.not_le] at c147)
                      (try simp (disch := omega) only [lg_cmp_ge, lg_cmp_le, lg_cmp_gt, lg_cmp_lt, lg_cmp_eq, eL_0, eL_1, eL_m1, eL_LO, eL_HI, eL_W, eL_add, eL_sub, eL_mul, eL_neg, eL_lt, eL_le, eL_eq, eL_remN, eL_mod0, ne_eq, Int64.not_lt, Int64.not_le] at c159)
                      (try simp (disch := omega) only [lg_cmp_ge, lg_cmp_le, lg_cmp_gt, lg_cmp_lt, lg_cmp_eq, eL_0, eL_1, eL_m1, eL_LO, eL_HI, eL_W, eL_add, eL_sub, eL_mul, eL_neg, eL_lt, eL_le, eL_eq, eL_remN, eL_mod0, ne_eq, Int64.not_lt, Int64.not_le] at c175)
                      (try simp (disch := omega) only [lg_cmp_ge, lg_cmp_le, lg_cmp_gt, lg_cmp_lt, lg_cmp_eq, eL_0, eL_1, eL_m1, eL_LO, eL_HI, eL_W, eL_add, eL_sub, eL_mul, eL_neg, eL_lt, eL_le, eL_eq, eL_remN, eL_mod0, ne_eq, Int64.not_lt, Int64.not_le] at c193)
                      rw [show restS x d = mkS (0) (0) 1 from by
                        unfold restS
                        rw [if_neg n0, if_neg (by omega), z2, if_pos (by omega), if_pos (by omega)]]
                      exact ⟨rfl, rfl, W209.p.tr o1 r1⟩
                · refine gi_lload_n (q := 151) (i := 1) C (dm_Mo_rest 76 rfl) rfl rfl rfl ?_
                  refine gi_lload_n (q := 152) (i := 3) C (dm_Mo_rest 77 rfl) rfl rfl rfl ?_
                  refine gi_lneg (q := 153) C (dm_Mo_rest 78 rfl) rfl ?_
                  rw [eL_neg]
                  refine gi_calls 2 (q := 156) C (dm_Mo_rest 79 rfl) rfl my_Mo_max lk_Mo_256 sm_Mo_max (c_Mo_max x.1 (-x.2.1) (by omega) (by omega) (by omega) (by omega)) rfl rfl ⟨(Nat.le_of_ble_eq_true rfl), (Nat.le_of_ble_eq_true rfl)⟩ (Nat.le_of_ble_eq_true rfl) ⟨(Nat.le_of_ble_eq_true rfl), (Nat.le_of_ble_eq_true rfl)⟩ (fun r153 n153 h153 e153 => ?_)
                  obtain ⟨rfl, q153, u153⟩ := e153
                  rw [q153, u153]
                  refine gi_lload (q := 158) C (dm_Mo_rest 80 rfl) rfl rfl ?_
                  refine gi_lcmp (q := 159) C (dm_Mo_rest 81 rfl) rfl ?_
                  refine gi_if_ge (q := 162) (tgt := 171) C (dm_Mo_rest 82 rfl) rfl (by decide) (fun c159 => ?_) (fun c159 => ?_)
                  · refine gi_aload_n (q := 172) (i := 0) C (dm_Mo_rest 89 rfl) rfl rfl rfl ?_
                    refine gi_lload_n (q := 173) (i := 1) C (dm_Mo_rest 90 rfl) rfl rfl rfl ?_
                    refine gi_lconst (q := 174) (v := 0) C (dm_Mo_rest 91 rfl) rfl (by decide) ?_
                    refine gi_lcmp (q := 175) C (dm_Mo_rest 92 rfl) rfl ?_
                    refine gi_if_lt (q := 178) (tgt := 182) C (dm_Mo_rest 93 rfl) rfl (by decide) (fun c175 => ?_) (fun c175 => ?_)
                    · refine gi_lload_n (q := 183) (i := 1) C (dm_Mo_rest 96 rfl) rfl rfl rfl ?_
                      refine gi_lconst (q := 184) (v := 1) C (dm_Mo_rest 97 rfl) rfl (by decide) ?_
                      refine gi_lload (q := 186) C (dm_Mo_rest 98 rfl) rfl rfl ?_
                      refine gi_lsub (q := 187) C (dm_Mo_rest 99 rfl) rfl ?_
                      rw [eL_1, eL_sub]
                      refine gi_calls 2 (q := 190) C (dm_Mo_rest 100 rfl) rfl my_Mo_max lk_Mo_256 sm_Mo_max (c_Mo_max x.1 (1 - (max (-p.1) q.2.1)) (by omega) (by omega) (by omega) (by omega)) rfl rfl ⟨(Nat.le_of_ble_eq_true rfl), (Nat.le_of_ble_eq_true rfl)⟩ (Nat.le_of_ble_eq_true rfl) ⟨(Nat.le_of_ble_eq_true rfl), (Nat.le_of_ble_eq_true rfl)⟩ (fun r187 n187 h187 e187 => ?_)
                      obtain ⟨rfl, q187, u187⟩ := e187
                      rw [q187, u187]
                      refine gi_lload_n (q := 191) (i := 3) C (dm_Mo_rest 101 rfl) rfl rfl rfl ?_
                      refine gi_lconst (q := 192) (v := 0) C (dm_Mo_rest 102 rfl) rfl (by decide) ?_
                      refine gi_lcmp (q := 193) C (dm_Mo_rest 103 rfl) rfl ?_
                      refine gi_if_gt (q := 196) (tgt := 200) C (dm_Mo_rest 104 rfl) rfl (by decide) (fun c193 => ?_) (fun c193 => ?_)
                      · refine gi_lload_n (q := 201) (i := 3) C (dm_Mo_rest 107 rfl) rfl rfl rfl ?_
                        refine gi_lload (q := 203) C (dm_Mo_rest 108 rfl) rfl rfl ?_
                        refine gi_lconst (q := 204) (v := 1) C (dm_Mo_rest 109 rfl) rfl (by decide) ?_
                        refine gi_lsub (q := 205) C (dm_Mo_rest 110 rfl) rfl ?_
                        rw [eL_1, eL_sub]
                        refine gi_calls 2 (q := 208) C (dm_Mo_rest 111 rfl) rfl my_Mo_min lk_Mo_252 sm_Mo_min (c_Mo_min x.2.1 (max (-p.1) q.2.1 - 1) (by omega) (by omega) (by omega) (by omega)) rfl rfl ⟨(Nat.le_of_ble_eq_true rfl), (Nat.le_of_ble_eq_true rfl)⟩ (Nat.le_of_ble_eq_true rfl) ⟨(Nat.le_of_ble_eq_true rfl), (Nat.le_of_ble_eq_true rfl)⟩ (fun r205 n205 h205 e205 => ?_)
                        obtain ⟨rfl, q205, u205⟩ := e205
                        rw [q205, u205]
                        refine gi_lconst (q := 209) (v := 1) C (dm_Mo_rest 112 rfl) rfl (by decide) ?_
                        rw [eL_1]
                        refine gi_callv 3 (q := 212) C (dm_Mo_rest 113 rfl) rfl my_Mo_set lk_Mo_262 im_Mo_set rfl (c_Mo_set (max x.1 (1 - (max (-p.1) q.2.1))) (min x.2.1 (max (-p.1) q.2.1 - 1)) 1 (by omega) (by omega) (by omega) (by omega) H1) Ha1 rfl rfl ⟨(Nat.le_of_ble_eq_true rfl), (Nat.le_of_ble_eq_true rfl)⟩ (Nat.le_of_ble_eq_true rfl) ⟨(Nat.le_of_ble_eq_true rfl), (Nat.le_of_ble_eq_true rfl)⟩ (fun r209 n209 h209 e209 => ?_)
                        obtain ⟨rfl, rfl, W209⟩ := e209
                        refine gi_vret C hr (dm_Mo_rest 114 rfl) ?_
                        (try simp (disch := omega) only [lg_cmp_ge, lg_cmp_le, lg_cmp_gt, lg_cmp_lt, lg_cmp_eq, eL_0, eL_1, eL_m1, eL_LO, eL_HI, eL_W, eL_add, eL_sub, eL_mul, eL_neg, eL_lt, eL_le, eL_eq, eL_remN, eL_mod0, ne_eq, Int64.not_lt, Int64.not_le] at c3)
                        (try simp (disch := omega) only [lg_cmp_ge, lg_cmp_le, lg_cmp_gt, lg_cmp_lt, lg_cmp_eq, eL_0, eL_1, eL_m1, eL_LO, eL_HI, eL_W, eL_add, eL_sub, eL_mul, eL_neg, eL_lt, eL_le, eL_eq, eL_remN, eL_mod0, ne_eq, Int64.not_lt, Int64.not_le] at c11)
                        (try simp (disch := omega) only [lg_cmp_ge, lg_cmp_le, lg_cmp_gt, lg_cmp_lt, lg_cmp_eq, eL_0, eL_1, eL_m1, eL_LO, eL_HI, eL_W, eL_add, eL_sub, eL_mul, eL_neg, eL_lt, eL_le, eL_eq, eL_remN, eL_mod0, ne_eq, Int64.not_lt, Int64.not_le] at c147)
                        (try simp (disch := omega) only [lg_cmp_ge, lg_cmp_le, lg_cmp_gt, lg_cmp_lt, lg_cmp_eq, eL_0, eL_1, eL_m1, eL_LO, eL_HI, eL_W, eL_add, eL_sub, eL_mul, eL_neg, eL_lt, eL_le, eL_eq, eL_remN, eL_mod0, ne_eq, Int64.not_lt, Int64.not_le] at c159)
                        (try simp (disch := omega) only [lg_cmp_ge, lg_cmp_le, lg_cmp_gt, lg_cmp_lt, lg_cmp_eq, eL_0, eL_1, eL_m1, eL_LO, eL_HI, eL_W, eL_add, eL_sub, eL_mul, eL_neg, eL_lt, eL_le, eL_eq, eL_remN, eL_mod0, ne_eq, Int64.not_lt, Int64.not_le] at c175)
                        (try simp (disch := omega) only [lg_cmp_ge, lg_cmp_le, lg_cmp_gt, lg_cmp_lt, lg_cmp_eq, eL_0, eL_1, eL_m1, eL_LO, eL_HI, eL_W, eL_add, eL_sub, eL_mul, eL_neg, eL_lt, eL_le, eL_eq, eL_remN, eL_mod0, ne_eq, Int64.not_lt, Int64.not_le] at c193)
                        rw [show restS x d = mkS (max x.1 (1 - (max (-p.1) q.2.1))) (min x.2.1 (max (-p.1) q.2.1 - 1)) 1 from by
                          unfold restS
                          rw [if_neg n0, if_neg (by omega), z2, if_neg (by omega), if_neg (by omega)]]
                        exact ⟨rfl, rfl, W209.p.tr o1 r1⟩
                      · refine gi_lconst (q := 197) (v := 0) C (dm_Mo_rest 105 rfl) rfl (by decide) ?_
                        refine gi_goto (tgt := 208) C (dm_Mo_rest 106 rfl) (by decide) ?_
                        refine gi_lconst (q := 209) (v := 1) C (dm_Mo_rest 112 rfl) rfl (by decide) ?_
                        rw [eL_1]
                        refine gi_callv 3 (q := 212) C (dm_Mo_rest 113 rfl) rfl my_Mo_set lk_Mo_262 im_Mo_set rfl (c_Mo_set (max x.1 (1 - (max (-p.1) q.2.1))) (0) 1 (by omega) (by omega) (by omega) (by omega) H1) Ha1 rfl rfl ⟨(Nat.le_of_ble_eq_true rfl), (Nat.le_of_ble_eq_true rfl)⟩ (Nat.le_of_ble_eq_true rfl) ⟨(Nat.le_of_ble_eq_true rfl), (Nat.le_of_ble_eq_true rfl)⟩ (fun r209 n209 h209 e209 => ?_)
                        obtain ⟨rfl, rfl, W209⟩ := e209
                        refine gi_vret C hr (dm_Mo_rest 114 rfl) ?_
                        (try simp (disch := omega) only [lg_cmp_ge, lg_cmp_le, lg_cmp_gt, lg_cmp_lt, lg_cmp_eq, eL_0, eL_1, eL_m1, eL_LO, eL_HI, eL_W, eL_add, eL_sub, eL_mul, eL_neg, eL_lt, eL_le, eL_eq, eL_remN, eL_mod0, ne_eq, Int64.not_lt, Int64.not_le] at c3)
                        (try simp (disch := omega) only [lg_cmp_ge, lg_cmp_le, lg_cmp_gt, lg_cmp_lt, lg_cmp_eq, eL_0, eL_1, eL_m1, eL_LO, eL_HI, eL_W, eL_add, eL_sub, eL_mul, eL_neg, eL_lt, eL_le, eL_eq, eL_remN, eL_mod0, ne_eq, Int64.not_lt, Int64.not_le] at c11)
                        (try simp (disch := omega) only [lg_cmp_ge, lg_cmp_le, lg_cmp_gt, lg_cmp_lt, lg_cmp_eq, eL_0, eL_1, eL_m1, eL_LO, eL_HI, eL_W, eL_add, eL_sub, eL_mul, eL_neg, eL_lt, eL_le, eL_eq, eL_remN, eL_mod0, ne_eq, Int64.not_lt, Int64.not_le] at c147)
                        (try simp (disch := omega) only [lg_cmp_ge, lg_cmp_le, lg_cmp_gt, lg_cmp_lt, lg_cmp_eq, eL_0, eL_1, eL_m1, eL_LO, eL_HI, eL_W, eL_add, eL_sub, eL_mul, eL_neg, eL_lt, eL_le, eL_eq, eL_remN, eL_mod0, ne_eq, Int64.not_lt, Int64.not_le] at c159)
                        (try simp (disch := omega) only [lg_cmp_ge, lg_cmp_le, lg_cmp_gt, lg_cmp_lt, lg_cmp_eq, eL_0, eL_1, eL_m1, eL_LO, eL_HI, eL_W, eL_add, eL_sub, eL_mul, eL_neg, eL_lt, eL_le, eL_eq, eL_remN, eL_mod0, ne_eq, Int64.not_lt, Int64.not_le] at c175)
                        (try simp (disch := omega) only [lg_cmp_ge, lg_cmp_le, lg_cmp_gt, lg_cmp_lt, lg_cmp_eq, eL_0, eL_1, eL_m1, eL_LO, eL_HI, eL_W, eL_add, eL_sub, eL_mul, eL_neg, eL_lt, eL_le, eL_eq, eL_remN, eL_mod0, ne_eq, Int64.not_lt, Int64.not_le] at c193)
                        rw [show restS x d = mkS (max x.1 (1 - (max (-p.1) q.2.1))) (0) 1 from by
                          unfold restS
                          rw [if_neg n0, if_neg (by omega), z2, if_neg (by omega), if_pos (by omega)]]
                        exact ⟨rfl, rfl, W209.p.tr o1 r1⟩
                    · refine gi_lconst (q := 179) (v := 0) C (dm_Mo_rest 94 rfl) rfl (by decide) ?_
                      refine gi_goto (tgt := 190) C (dm_Mo_rest 95 rfl) (by decide) ?_
                      refine gi_lload_n (q := 191) (i := 3) C (dm_Mo_rest 101 rfl) rfl rfl rfl ?_
                      refine gi_lconst (q := 192) (v := 0) C (dm_Mo_rest 102 rfl) rfl (by decide) ?_
                      refine gi_lcmp (q := 193) C (dm_Mo_rest 103 rfl) rfl ?_
                      refine gi_if_gt (q := 196) (tgt := 200) C (dm_Mo_rest 104 rfl) rfl (by decide) (fun c193 => ?_) (fun c193 => ?_)
                      · refine gi_lload_n (q := 201) (i := 3) C (dm_Mo_rest 107 rfl) rfl rfl rfl ?_
                        refine gi_lload (q := 203) C (dm_Mo_rest 108 rfl) rfl rfl ?_
                        refine gi_lconst (q := 204) (v := 1) C (dm_Mo_rest 109 rfl) rfl (by decide) ?_
                        refine gi_lsub (q := 205) C (dm_Mo_rest 110 rfl) rfl ?_
                        rw [eL_1, eL_sub]
                        refine gi_calls 2 (q := 208) C (dm_Mo_rest 111 rfl) rfl my_Mo_min lk_Mo_252 sm_Mo_min (c_Mo_min x.2.1 (max (-p.1) q.2.1 - 1) (by omega) (by omega) (by omega) (by omega)) rfl rfl ⟨(Nat.le_of_ble_eq_true rfl), (Nat.le_of_ble_eq_true rfl)⟩ (Nat.le_of_ble_eq_true rfl) ⟨(Nat.le_of_ble_eq_true rfl), (Nat.le_of_ble_eq_true rfl)⟩ (fun r205 n205 h205 e205 => ?_)
                        obtain ⟨rfl, q205, u205⟩ := e205
                        rw [q205, u205]
                        refine gi_lconst (q := 209) (v := 1) C (dm_Mo_rest 112 rfl) rfl (by decide) ?_
                        rw [eL_1]
                        refine gi_callv 3 (q := 212) C (dm_Mo_rest 113 rfl) rfl my_Mo_set lk_Mo_262 im_Mo_set rfl (c_Mo_set (0) (min x.2.1 (max (-p.1) q.2.1 - 1)) 1 (by omega) (by omega) (by omega) (by omega) H1) Ha1 rfl rfl ⟨(Nat.le_of_ble_eq_true rfl), (Nat.le_of_ble_eq_true rfl)⟩ (Nat.le_of_ble_eq_true rfl) ⟨(Nat.le_of_ble_eq_true rfl), (Nat.le_of_ble_eq_true rfl)⟩ (fun r209 n209 h209 e209 => ?_)
                        obtain ⟨rfl, rfl, W209⟩ := e209
                        refine gi_vret C hr (dm_Mo_rest 114 rfl) ?_
                        (try simp (disch := omega) only [lg_cmp_ge, lg_cmp_le, lg_cmp_gt, lg_cmp_lt, lg_cmp_eq, eL_0, eL_1, eL_m1, eL_LO, eL_HI, eL_W, eL_add, eL_sub, eL_mul, eL_neg, eL_lt, eL_le, eL_eq, eL_remN, eL_mod0, ne_eq, Int64.not_lt, Int64.not_le] at c3)
                        (try simp (disch := omega) only [lg_cmp_ge, lg_cmp_le, lg_cmp_gt, lg_cmp_lt, lg_cmp_eq, eL_0, eL_1, eL_m1, eL_LO, eL_HI, eL_W, eL_add, eL_sub, eL_mul, eL_neg, eL_lt, eL_le, eL_eq, eL_remN, eL_mod0, ne_eq, Int64.not_lt, Int64.not_le] at c11)
                        (try simp (disch := omega) only [lg_cmp_ge, lg_cmp_le, lg_cmp_gt, lg_cmp_lt, lg_cmp_eq, eL_0, eL_1, eL_m1, eL_LO, eL_HI, eL_W, eL_add, eL_sub, eL_mul, eL_neg, eL_lt, eL_le, eL_eq, eL_remN, eL_mod0, ne_eq, Int64.not_lt, Int64.not_le] at c147)
                        (try simp (disch := omega) only [lg_cmp_ge, lg_cmp_le, lg_cmp_gt, lg_cmp_lt, lg_cmp_eq, eL_0, eL_1, eL_m1, eL_LO, eL_HI, eL_W, eL_add, eL_sub, eL_mul, eL_neg, eL_lt, eL_le, eL_eq, eL_remN, eL_mod0, ne_eq, Int64.not_lt, Int64.not_le] at c159)
                        (try simp (disch := omega) only [lg_cmp_ge, lg_cmp_le, lg_cmp_gt, lg_cmp_lt, lg_cmp_eq, eL_0, eL_1, eL_m1, eL_LO, eL_HI, eL_W, eL_add, eL_sub, eL_mul, eL_neg, eL_lt, eL_le, eL_eq, eL_remN, eL_mod0, ne_eq, Int64.not_lt, Int64.not_le] at c175)
                        (try simp (disch := omega) only [lg_cmp_ge, lg_cmp_le, lg_cmp_gt, lg_cmp_lt, lg_cmp_eq, eL_0, eL_1, eL_m1, eL_LO, eL_HI, eL_W, eL_add, eL_sub, eL_mul, eL_neg, eL_lt, eL_le, eL_eq, eL_remN, eL_mod0, ne_eq, Int64.not_lt, Int64.not_le] at c193)
                        rw [show restS x d = mkS (0) (min x.2.1 (max (-p.1) q.2.1 - 1)) 1 from by
                          unfold restS
                          rw [if_neg n0, if_neg (by omega), z2, if_pos (by omega), if_neg (by omega)]]
                        exact ⟨rfl, rfl, W209.p.tr o1 r1⟩
                      · refine gi_lconst (q := 197) (v := 0) C (dm_Mo_rest 105 rfl) rfl (by decide) ?_
                        refine gi_goto (tgt := 208) C (dm_Mo_rest 106 rfl) (by decide) ?_
                        refine gi_lconst (q := 209) (v := 1) C (dm_Mo_rest 112 rfl) rfl (by decide) ?_
                        rw [eL_1]
                        refine gi_callv 3 (q := 212) C (dm_Mo_rest 113 rfl) rfl my_Mo_set lk_Mo_262 im_Mo_set rfl (c_Mo_set (0) (0) 1 (by omega) (by omega) (by omega) (by omega) H1) Ha1 rfl rfl ⟨(Nat.le_of_ble_eq_true rfl), (Nat.le_of_ble_eq_true rfl)⟩ (Nat.le_of_ble_eq_true rfl) ⟨(Nat.le_of_ble_eq_true rfl), (Nat.le_of_ble_eq_true rfl)⟩ (fun r209 n209 h209 e209 => ?_)
                        obtain ⟨rfl, rfl, W209⟩ := e209
                        refine gi_vret C hr (dm_Mo_rest 114 rfl) ?_
                        (try simp (disch := omega) only [lg_cmp_ge, lg_cmp_le, lg_cmp_gt, lg_cmp_lt, lg_cmp_eq, eL_0, eL_1, eL_m1, eL_LO, eL_HI, eL_W, eL_add, eL_sub, eL_mul, eL_neg, eL_lt, eL_le, eL_eq, eL_remN, eL_mod0, ne_eq, Int64.not_lt, Int64.not_le] at c3)
                        (try simp (disch := omega) only [lg_cmp_ge, lg_cmp_le, lg_cmp_gt, lg_cmp_lt, lg_cmp_eq, eL_0, eL_1, eL_m1, eL_LO, eL_HI, eL_W, eL_add, eL_sub, eL_mul, eL_neg, eL_lt, eL_le, eL_eq, eL_remN, eL_mod0, ne_eq, Int64.not_lt, Int64.not_le] at c11)
                        (try simp (disch := omega) only [lg_cmp_ge, lg_cmp_le, lg_cmp_gt, lg_cmp_lt, lg_cmp_eq, eL_0, eL_1, eL_m1, eL_LO, eL_HI, eL_W, eL_add, eL_sub, eL_mul, eL_neg, eL_lt, eL_le, eL_eq, eL_remN, eL_mod0, ne_eq, Int64.not_lt, Int64.not_le] at c147)
                        (try simp (disch := omega) only [lg_cmp_ge, lg_cmp_le, lg_cmp_gt, lg_cmp_lt, lg_cmp_eq, eL_0, eL_1, eL_m1, eL_LO, eL_HI, eL_W, eL_add, eL_sub, eL_mul, eL_neg, eL_lt, eL_le, eL_eq, eL_remN, eL_mod0, ne_eq, Int64.not_lt, Int64.not_le] at c159)
                        (try simp (disch := omega) only [lg_cmp_ge, lg_cmp_le, lg_cmp_gt, lg_cmp_lt, lg_cmp_eq, eL_0, eL_1, eL_m1, eL_LO, eL_HI, eL_W, eL_add, eL_sub, eL_mul, eL_neg, eL_lt, eL_le, eL_eq, eL_remN, eL_mod0, ne_eq, Int64.not_lt, Int64.not_le] at c175)
                        (try simp (disch := omega) only [lg_cmp_ge, lg_cmp_le, lg_cmp_gt, lg_cmp_lt, lg_cmp_eq, eL_0, eL_1, eL_m1, eL_LO, eL_HI, eL_W, eL_add, eL_sub, eL_mul, eL_neg, eL_lt, eL_le, eL_eq, eL_remN, eL_mod0, ne_eq, Int64.not_lt, Int64.not_le] at c193)
                        rw [show restS x d = mkS (0) (0) 1 from by
                          unfold restS
                          rw [if_neg n0, if_neg (by omega), z2, if_pos (by omega), if_pos (by omega)]]
                        exact ⟨rfl, rfl, W209.p.tr o1 r1⟩
                  · refine gi_aload_n (q := 163) (i := 0) C (dm_Mo_rest 83 rfl) rfl rfl rfl ?_
                    refine gi_lload_n (q := 164) (i := 1) C (dm_Mo_rest 84 rfl) rfl rfl rfl ?_
                    refine gi_lload_n (q := 165) (i := 3) C (dm_Mo_rest 85 rfl) rfl rfl rfl ?_
                    refine gi_lload (q := 167) C (dm_Mo_rest 86 rfl) rfl rfl ?_
                    refine gi_callv 3 (q := 170) C (dm_Mo_rest 87 rfl) rfl my_Mo_set lk_Mo_262 im_Mo_set rfl (c_Mo_set (x.1) (x.2.1) (x.2.2) (by omega) (by omega) (by omega) (by omega) H1) Ha1 rfl rfl ⟨(Nat.le_of_ble_eq_true rfl), (Nat.le_of_ble_eq_true rfl)⟩ (Nat.le_of_ble_eq_true rfl) ⟨(Nat.le_of_ble_eq_true rfl), (Nat.le_of_ble_eq_true rfl)⟩ (fun r167 n167 h167 e167 => ?_)
                    obtain ⟨rfl, rfl, W167⟩ := e167
                    refine gi_vret C hr (dm_Mo_rest 88 rfl) ?_
                    (try simp (disch := omega) only [lg_cmp_ge, lg_cmp_le, lg_cmp_gt, lg_cmp_lt, lg_cmp_eq, eL_0, eL_1, eL_m1, eL_LO, eL_HI, eL_W, eL_add, eL_sub, eL_mul, eL_neg, eL_lt, eL_le, eL_eq, eL_remN, eL_mod0, ne_eq, Int64.not_lt, Int64.not_le] at c3)
                    (try simp (disch := omega) only [lg_cmp_ge, lg_cmp_le, lg_cmp_gt, lg_cmp_lt, lg_cmp_eq, eL_0, eL_1, eL_m1, eL_LO, eL_HI, eL_W, eL_add, eL_sub, eL_mul, eL_neg, eL_lt, eL_le, eL_eq, eL_remN, eL_mod0, ne_eq, Int64.not_lt, Int64.not_le] at c11)
                    (try simp (disch := omega) only [lg_cmp_ge, lg_cmp_le, lg_cmp_gt, lg_cmp_lt, lg_cmp_eq, eL_0, eL_1, eL_m1, eL_LO, eL_HI, eL_W, eL_add, eL_sub, eL_mul, eL_neg, eL_lt, eL_le, eL_eq, eL_remN, eL_mod0, ne_eq, Int64.not_lt, Int64.not_le] at c147)
                    (try simp (disch := omega) only [lg_cmp_ge, lg_cmp_le, lg_cmp_gt, lg_cmp_lt, lg_cmp_eq, eL_0, eL_1, eL_m1, eL_LO, eL_HI, eL_W, eL_add, eL_sub, eL_mul, eL_neg, eL_lt, eL_le, eL_eq, eL_remN, eL_mod0, ne_eq, Int64.not_lt, Int64.not_le] at c159)
                    (try simp (disch := omega) only [lg_cmp_ge, lg_cmp_le, lg_cmp_gt, lg_cmp_lt, lg_cmp_eq, eL_0, eL_1, eL_m1, eL_LO, eL_HI, eL_W, eL_add, eL_sub, eL_mul, eL_neg, eL_lt, eL_le, eL_eq, eL_remN, eL_mod0, ne_eq, Int64.not_lt, Int64.not_le] at c175)
                    (try simp (disch := omega) only [lg_cmp_ge, lg_cmp_le, lg_cmp_gt, lg_cmp_lt, lg_cmp_eq, eL_0, eL_1, eL_m1, eL_LO, eL_HI, eL_W, eL_add, eL_sub, eL_mul, eL_neg, eL_lt, eL_le, eL_eq, eL_remN, eL_mod0, ne_eq, Int64.not_lt, Int64.not_le] at c193)
                    rw [show restS x d = mkS x.1 x.2.1 x.2.2 from by
                      unfold restS
                      rw [if_neg n0, if_pos (by omega), mkS_id hx]]
                    exact ⟨rfl, rfl, W167.p.tr o1 r1⟩
  · refine gi_lload (q := 8) C (dm_Mo_rest 4 rfl) rfl rfl ?_
    refine gi_lload (q := 10) C (dm_Mo_rest 5 rfl) rfl rfl ?_
    refine gi_lcmp (q := 11) C (dm_Mo_rest 6 rfl) rfl ?_
    refine gi_if_ne (q := 14) (tgt := 28) C (dm_Mo_rest 7 rfl) rfl (by decide) (fun c11 => ?_) (fun c11 => ?_)
    · refine gi_aload_n (q := 29) (i := 0) C (dm_Mo_rest 18 rfl) rfl rfl rfl ?_
      refine gi_lload (q := 31) C (dm_Mo_rest 19 rfl) rfl rfl ?_
      refine gi_lload (q := 33) C (dm_Mo_rest 20 rfl) rfl rfl ?_
      refine gi_lload (q := 35) C (dm_Mo_rest 21 rfl) rfl rfl ?_
      refine gi_callv 3 (q := 38) C (dm_Mo_rest 22 rfl) rfl my_Mo_parts lk_Mo_344 im_Mo_parts rfl (c_Mo_parts d hd H) Ha rfl rfl ⟨(Nat.le_of_ble_eq_true rfl), (Nat.le_of_ble_eq_true rfl)⟩ (Nat.le_of_ble_eq_true rfl) ⟨(Nat.le_of_ble_eq_true rfl), (Nat.le_of_ble_eq_true rfl)⟩ (fun r35 n35 h35 e35 => ?_)
      obtain ⟨rfl, rfl, S1, J1, H1, o1, r1, t29, t30, tn, tp⟩ := e35
      obtain ⟨fs, Ha1, Hf1⟩ := id H1.1
      have n0 : ¬ (x.1 = x.2.1 ∧ d.1 = d.2.1) := by
        (try simp (disch := omega) only [lg_cmp_ge, lg_cmp_le, lg_cmp_gt, lg_cmp_lt, lg_cmp_eq, eL_0, eL_1, eL_m1, eL_LO, eL_HI, eL_W, eL_add, eL_sub, eL_mul, eL_neg, eL_lt, eL_le, eL_eq, eL_remN, eL_mod0, ne_eq, Int64.not_lt, Int64.not_le] at c3)
        (try simp (disch := omega) only [lg_cmp_ge, lg_cmp_le, lg_cmp_gt, lg_cmp_lt, lg_cmp_eq, eL_0, eL_1, eL_m1, eL_LO, eL_HI, eL_W, eL_add, eL_sub, eL_mul, eL_neg, eL_lt, eL_le, eL_eq, eL_remN, eL_mod0, ne_eq, Int64.not_lt, Int64.not_le] at c11)
        omega
      rcases en : negS d with _ | p
      · rw [en] at t29
        have t29 : S1 29 = 0 := t29
        rcases ep : posS d with _ | q
        · exact absurd (np_some hd h0) (by rw [en, ep]; rintro (z | z) <;> exact z rfl)
        · rw [ep] at t30
          have t30 : S1 30 = 1 := t30
          obtain ⟨k27, k28⟩ := tp q ep
          have bp := part_p hd ep
          have z1 : sizL d = q.1 := by
            unfold sizL
            rw [en, ep]
          have z2 : sizH d = q.2.1 := by
            unfold sizH
            rw [en, ep]
          refine gi_aload_n (q := 39) (i := 0) C (dm_Mo_rest 23 rfl) rfl rfl rfl ?_
          refine gi_get (q := 42) C (dm_Mo_rest 24 rfl) rfl fl_Mo_321 Ha1 (mo_g29 Hf1) ?_
          refine gi_if_eq (q := 45) (tgt := 67) C (dm_Mo_rest 25 rfl) rfl (by decide) (fun c42 => ?_) (fun c42 => ?_)
          · refine gi_aload_n (q := 68) (i := 0) C (dm_Mo_rest 36 rfl) rfl rfl rfl ?_
            refine gi_get (q := 71) C (dm_Mo_rest 37 rfl) rfl fl_Mo_321 Ha1 (mo_g29 Hf1) ?_
            refine gi_if_eq (q := 74) (tgt := 82) C (dm_Mo_rest 38 rfl) rfl (by decide) (fun c71 => ?_) (fun c71 => ?_)
            · refine gi_aload_n (q := 83) (i := 0) C (dm_Mo_rest 43 rfl) rfl rfl rfl ?_
              refine gi_get (q := 86) C (dm_Mo_rest 44 rfl) rfl fl_Mo_333 Ha1 (mo_g27 Hf1) ?_
              rw [k27]
              refine gi_lstore (q := 88) C (dm_Mo_rest 45 rfl) rfl (Nat.le_of_ble_eq_true rfl) ?_
              refine gi_aload_n (q := 89) (i := 0) C (dm_Mo_rest 46 rfl) rfl rfl rfl ?_
              refine gi_get (q := 92) C (dm_Mo_rest 47 rfl) rfl fl_Mo_321 Ha1 (mo_g29 Hf1) ?_
              refine gi_if_eq (q := 95) (tgt := 117) C (dm_Mo_rest 48 rfl) rfl (by decide) (fun c92 => ?_) (fun c92 => ?_)
              · refine gi_aload_n (q := 118) (i := 0) C (dm_Mo_rest 59 rfl) rfl rfl rfl ?_
                refine gi_get (q := 121) C (dm_Mo_rest 60 rfl) rfl fl_Mo_321 Ha1 (mo_g29 Hf1) ?_
                refine gi_if_eq (q := 124) (tgt := 132) C (dm_Mo_rest 61 rfl) rfl (by decide) (fun c121 => ?_) (fun c121 => ?_)
                · refine gi_aload_n (q := 133) (i := 0) C (dm_Mo_rest 66 rfl) rfl rfl rfl ?_
                  refine gi_get (q := 136) C (dm_Mo_rest 67 rfl) rfl fl_Mo_336 Ha1 (mo_g28 Hf1) ?_
                  rw [k28]
                  refine gi_lstore (q := 138) C (dm_Mo_rest 68 rfl) rfl (Nat.le_of_ble_eq_true rfl) ?_
                  refine gi_lload_n (q := 139) (i := 1) C (dm_Mo_rest 69 rfl) rfl rfl rfl ?_
                  refine gi_lneg (q := 140) C (dm_Mo_rest 70 rfl) rfl ?_
                  rw [eL_neg]
                  refine gi_lload_n (q := 141) (i := 3) C (dm_Mo_rest 71 rfl) rfl rfl rfl ?_
                  refine gi_calls 2 (q := 144) C (dm_Mo_rest 72 rfl) rfl my_Mo_max lk_Mo_256 sm_Mo_max (c_Mo_max (-x.1) x.2.1 (by omega) (by omega) (by omega) (by omega)) rfl rfl ⟨(Nat.le_of_ble_eq_true rfl), (Nat.le_of_ble_eq_true rfl)⟩ (Nat.le_of_ble_eq_true rfl) ⟨(Nat.le_of_ble_eq_true rfl), (Nat.le_of_ble_eq_true rfl)⟩ (fun r141 n141 h141 e141 => ?_)
                  obtain ⟨rfl, q141, u141⟩ := e141
                  rw [q141, u141]
                  refine gi_lload (q := 146) C (dm_Mo_rest 73 rfl) rfl rfl ?_
                  refine gi_lcmp (q := 147) C (dm_Mo_rest 74 rfl) rfl ?_
                  refine gi_if_ge (q := 150) (tgt := 171) C (dm_Mo_rest 75 rfl) rfl (by decide) (fun c147 => ?_) (fun c147 => ?_)
                  · refine gi_aload_n (q := 172) (i := 0) C (dm_Mo_rest 89 rfl) rfl rfl rfl ?_
                    refine gi_lload_n (q := 173) (i := 1) C (dm_Mo_rest 90 rfl) rfl rfl rfl ?_
                    refine gi_lconst (q := 174) (v := 0) C (dm_Mo_rest 91 rfl) rfl (by decide) ?_
                    refine gi_lcmp (q := 175) C (dm_Mo_rest 92 rfl) rfl ?_
                    refine gi_if_lt (q := 178) (tgt := 182) C (dm_Mo_rest 93 rfl) rfl (by decide) (fun c175 => ?_) (fun c175 => ?_)
                    · refine gi_lload_n (q := 183) (i := 1) C (dm_Mo_rest 96 rfl) rfl rfl rfl ?_
                      refine gi_lconst (q := 184) (v := 1) C (dm_Mo_rest 97 rfl) rfl (by decide) ?_
                      refine gi_lload (q := 186) C (dm_Mo_rest 98 rfl) rfl rfl ?_
                      refine gi_lsub (q := 187) C (dm_Mo_rest 99 rfl) rfl ?_
                      rw [eL_1, eL_sub]
                      refine gi_calls 2 (q := 190) C (dm_Mo_rest 100 rfl) rfl my_Mo_max lk_Mo_256 sm_Mo_max (c_Mo_max x.1 (1 - (q.2.1)) (by omega) (by omega) (by omega) (by omega)) rfl rfl ⟨(Nat.le_of_ble_eq_true rfl), (Nat.le_of_ble_eq_true rfl)⟩ (Nat.le_of_ble_eq_true rfl) ⟨(Nat.le_of_ble_eq_true rfl), (Nat.le_of_ble_eq_true rfl)⟩ (fun r187 n187 h187 e187 => ?_)
                      obtain ⟨rfl, q187, u187⟩ := e187
                      rw [q187, u187]
                      refine gi_lload_n (q := 191) (i := 3) C (dm_Mo_rest 101 rfl) rfl rfl rfl ?_
                      refine gi_lconst (q := 192) (v := 0) C (dm_Mo_rest 102 rfl) rfl (by decide) ?_
                      refine gi_lcmp (q := 193) C (dm_Mo_rest 103 rfl) rfl ?_
                      refine gi_if_gt (q := 196) (tgt := 200) C (dm_Mo_rest 104 rfl) rfl (by decide) (fun c193 => ?_) (fun c193 => ?_)
                      · refine gi_lload_n (q := 201) (i := 3) C (dm_Mo_rest 107 rfl) rfl rfl rfl ?_
                        refine gi_lload (q := 203) C (dm_Mo_rest 108 rfl) rfl rfl ?_
                        refine gi_lconst (q := 204) (v := 1) C (dm_Mo_rest 109 rfl) rfl (by decide) ?_
                        refine gi_lsub (q := 205) C (dm_Mo_rest 110 rfl) rfl ?_
                        rw [eL_1, eL_sub]
                        refine gi_calls 2 (q := 208) C (dm_Mo_rest 111 rfl) rfl my_Mo_min lk_Mo_252 sm_Mo_min (c_Mo_min x.2.1 (q.2.1 - 1) (by omega) (by omega) (by omega) (by omega)) rfl rfl ⟨(Nat.le_of_ble_eq_true rfl), (Nat.le_of_ble_eq_true rfl)⟩ (Nat.le_of_ble_eq_true rfl) ⟨(Nat.le_of_ble_eq_true rfl), (Nat.le_of_ble_eq_true rfl)⟩ (fun r205 n205 h205 e205 => ?_)
                        obtain ⟨rfl, q205, u205⟩ := e205
                        rw [q205, u205]
                        refine gi_lconst (q := 209) (v := 1) C (dm_Mo_rest 112 rfl) rfl (by decide) ?_
                        rw [eL_1]
                        refine gi_callv 3 (q := 212) C (dm_Mo_rest 113 rfl) rfl my_Mo_set lk_Mo_262 im_Mo_set rfl (c_Mo_set (max x.1 (1 - (q.2.1))) (min x.2.1 (q.2.1 - 1)) 1 (by omega) (by omega) (by omega) (by omega) H1) Ha1 rfl rfl ⟨(Nat.le_of_ble_eq_true rfl), (Nat.le_of_ble_eq_true rfl)⟩ (Nat.le_of_ble_eq_true rfl) ⟨(Nat.le_of_ble_eq_true rfl), (Nat.le_of_ble_eq_true rfl)⟩ (fun r209 n209 h209 e209 => ?_)
                        obtain ⟨rfl, rfl, W209⟩ := e209
                        refine gi_vret C hr (dm_Mo_rest 114 rfl) ?_
                        (try simp (disch := omega) only [lg_cmp_ge, lg_cmp_le, lg_cmp_gt, lg_cmp_lt, lg_cmp_eq, eL_0, eL_1, eL_m1, eL_LO, eL_HI, eL_W, eL_add, eL_sub, eL_mul, eL_neg, eL_lt, eL_le, eL_eq, eL_remN, eL_mod0, ne_eq, Int64.not_lt, Int64.not_le] at c3)
                        (try simp (disch := omega) only [lg_cmp_ge, lg_cmp_le, lg_cmp_gt, lg_cmp_lt, lg_cmp_eq, eL_0, eL_1, eL_m1, eL_LO, eL_HI, eL_W, eL_add, eL_sub, eL_mul, eL_neg, eL_lt, eL_le, eL_eq, eL_remN, eL_mod0, ne_eq, Int64.not_lt, Int64.not_le] at c11)
                        (try simp (disch := omega) only [lg_cmp_ge, lg_cmp_le, lg_cmp_gt, lg_cmp_lt, lg_cmp_eq, eL_0, eL_1, eL_m1, eL_LO, eL_HI, eL_W, eL_add, eL_sub, eL_mul, eL_neg, eL_lt, eL_le, eL_eq, eL_remN, eL_mod0, ne_eq, Int64.not_lt, Int64.not_le] at c147)
                        (try simp (disch := omega) only [lg_cmp_ge, lg_cmp_le, lg_cmp_gt, lg_cmp_lt, lg_cmp_eq, eL_0, eL_1, eL_m1, eL_LO, eL_HI, eL_W, eL_add, eL_sub, eL_mul, eL_neg, eL_lt, eL_le, eL_eq, eL_remN, eL_mod0, ne_eq, Int64.not_lt, Int64.not_le] at c159)
                        (try simp (disch := omega) only [lg_cmp_ge, lg_cmp_le, lg_cmp_gt, lg_cmp_lt, lg_cmp_eq, eL_0, eL_1, eL_m1, eL_LO, eL_HI, eL_W, eL_add, eL_sub, eL_mul, eL_neg, eL_lt, eL_le, eL_eq, eL_remN, eL_mod0, ne_eq, Int64.not_lt, Int64.not_le] at c175)
                        (try simp (disch := omega) only [lg_cmp_ge, lg_cmp_le, lg_cmp_gt, lg_cmp_lt, lg_cmp_eq, eL_0, eL_1, eL_m1, eL_LO, eL_HI, eL_W, eL_add, eL_sub, eL_mul, eL_neg, eL_lt, eL_le, eL_eq, eL_remN, eL_mod0, ne_eq, Int64.not_lt, Int64.not_le] at c193)
                        rw [show restS x d = mkS (max x.1 (1 - (q.2.1))) (min x.2.1 (q.2.1 - 1)) 1 from by
                          unfold restS
                          rw [if_neg n0, if_neg (by omega), z2, if_neg (by omega), if_neg (by omega)]]
                        exact ⟨rfl, rfl, W209.p.tr o1 r1⟩
                      · refine gi_lconst (q := 197) (v := 0) C (dm_Mo_rest 105 rfl) rfl (by decide) ?_
                        refine gi_goto (tgt := 208) C (dm_Mo_rest 106 rfl) (by decide) ?_
                        refine gi_lconst (q := 209) (v := 1) C (dm_Mo_rest 112 rfl) rfl (by decide) ?_
                        rw [eL_1]
                        refine gi_callv 3 (q := 212) C (dm_Mo_rest 113 rfl) rfl my_Mo_set lk_Mo_262 im_Mo_set rfl (c_Mo_set (max x.1 (1 - (q.2.1))) (0) 1 (by omega) (by omega) (by omega) (by omega) H1) Ha1 rfl rfl ⟨(Nat.le_of_ble_eq_true rfl), (Nat.le_of_ble_eq_true rfl)⟩ (Nat.le_of_ble_eq_true rfl) ⟨(Nat.le_of_ble_eq_true rfl), (Nat.le_of_ble_eq_true rfl)⟩ (fun r209 n209 h209 e209 => ?_)
                        obtain ⟨rfl, rfl, W209⟩ := e209
                        refine gi_vret C hr (dm_Mo_rest 114 rfl) ?_
                        (try simp (disch := omega) only [lg_cmp_ge, lg_cmp_le, lg_cmp_gt, lg_cmp_lt, lg_cmp_eq, eL_0, eL_1, eL_m1, eL_LO, eL_HI, eL_W, eL_add, eL_sub, eL_mul, eL_neg, eL_lt, eL_le, eL_eq, eL_remN, eL_mod0, ne_eq, Int64.not_lt, Int64.not_le] at c3)
                        (try simp (disch := omega) only [lg_cmp_ge, lg_cmp_le, lg_cmp_gt, lg_cmp_lt, lg_cmp_eq, eL_0, eL_1, eL_m1, eL_LO, eL_HI, eL_W, eL_add, eL_sub, eL_mul, eL_neg, eL_lt, eL_le, eL_eq, eL_remN, eL_mod0, ne_eq, Int64.not_lt, Int64.not_le] at c11)
                        (try simp (disch := omega) only [lg_cmp_ge, lg_cmp_le, lg_cmp_gt, lg_cmp_lt, lg_cmp_eq, eL_0, eL_1, eL_m1, eL_LO, eL_HI, eL_W, eL_add, eL_sub, eL_mul, eL_neg, eL_lt, eL_le, eL_eq, eL_remN, eL_mod0, ne_eq, Int64.not_lt, Int64.not_le] at c147)
                        (try simp (disch := omega) only [lg_cmp_ge, lg_cmp_le, lg_cmp_gt, lg_cmp_lt, lg_cmp_eq, eL_0, eL_1, eL_m1, eL_LO, eL_HI, eL_W, eL_add, eL_sub, eL_mul, eL_neg, eL_lt, eL_le, eL_eq, eL_remN, eL_mod0, ne_eq, Int64.not_lt, Int64.not_le] at c159)
                        (try simp (disch := omega) only [lg_cmp_ge, lg_cmp_le, lg_cmp_gt, lg_cmp_lt, lg_cmp_eq, eL_0, eL_1, eL_m1, eL_LO, eL_HI, eL_W, eL_add, eL_sub, eL_mul, eL_neg, eL_lt, eL_le, eL_eq, eL_remN, eL_mod0, ne_eq, Int64.not_lt, Int64.not_le] at c175)
                        (try simp (disch := omega) only [lg_cmp_ge, lg_cmp_le, lg_cmp_gt, lg_cmp_lt, lg_cmp_eq, eL_0, eL_1, eL_m1, eL_LO, eL_HI, eL_W, eL_add, eL_sub, eL_mul, eL_neg, eL_lt, eL_le, eL_eq, eL_remN, eL_mod0, ne_eq, Int64.not_lt, Int64.not_le] at c193)
                        rw [show restS x d = mkS (max x.1 (1 - (q.2.1))) (0) 1 from by
                          unfold restS
                          rw [if_neg n0, if_neg (by omega), z2, if_neg (by omega), if_pos (by omega)]]
                        exact ⟨rfl, rfl, W209.p.tr o1 r1⟩
                    · refine gi_lconst (q := 179) (v := 0) C (dm_Mo_rest 94 rfl) rfl (by decide) ?_
                      refine gi_goto (tgt := 190) C (dm_Mo_rest 95 rfl) (by decide) ?_
                      refine gi_lload_n (q := 191) (i := 3) C (dm_Mo_rest 101 rfl) rfl rfl rfl ?_
                      refine gi_lconst (q := 192) (v := 0) C (dm_Mo_rest 102 rfl) rfl (by decide) ?_
                      refine gi_lcmp (q := 193) C (dm_Mo_rest 103 rfl) rfl ?_
                      refine gi_if_gt (q := 196) (tgt := 200) C (dm_Mo_rest 104 rfl) rfl (by decide) (fun c193 => ?_) (fun c193 => ?_)
                      · refine gi_lload_n (q := 201) (i := 3) C (dm_Mo_rest 107 rfl) rfl rfl rfl ?_
                        refine gi_lload (q := 203) C (dm_Mo_rest 108 rfl) rfl rfl ?_
                        refine gi_lconst (q := 204) (v := 1) C (dm_Mo_rest 109 rfl) rfl (by decide) ?_
                        refine gi_lsub (q := 205) C (dm_Mo_rest 110 rfl) rfl ?_
                        rw [eL_1, eL_sub]
                        refine gi_calls 2 (q := 208) C (dm_Mo_rest 111 rfl) rfl my_Mo_min lk_Mo_252 sm_Mo_min (c_Mo_min x.2.1 (q.2.1 - 1) (by omega) (by omega) (by omega) (by omega)) rfl rfl ⟨(Nat.le_of_ble_eq_true rfl), (Nat.le_of_ble_eq_true rfl)⟩ (Nat.le_of_ble_eq_true rfl) ⟨(Nat.le_of_ble_eq_true rfl), (Nat.le_of_ble_eq_true rfl)⟩ (fun r205 n205 h205 e205 => ?_)
                        obtain ⟨rfl, q205, u205⟩ := e205
                        rw [q205, u205]
                        refine gi_lconst (q := 209) (v := 1) C (dm_Mo_rest 112 rfl) rfl (by decide) ?_
                        rw [eL_1]
                        refine gi_callv 3 (q := 212) C (dm_Mo_rest 113 rfl) rfl my_Mo_set lk_Mo_262 im_Mo_set rfl (c_Mo_set (0) (min x.2.1 (q.2.1 - 1)) 1 (by omega) (by omega) (by omega) (by omega) H1) Ha1 rfl rfl ⟨(Nat.le_of_ble_eq_true rfl), (Nat.le_of_ble_eq_true rfl)⟩ (Nat.le_of_ble_eq_true rfl) ⟨(Nat.le_of_ble_eq_true rfl), (Nat.le_of_ble_eq_true rfl)⟩ (fun r209 n209 h209 e209 => ?_)
                        obtain ⟨rfl, rfl, W209⟩ := e209
                        refine gi_vret C hr (dm_Mo_rest 114 rfl) ?_
                        (try simp (disch := omega) only [lg_cmp_ge, lg_cmp_le, lg_cmp_gt, lg_cmp_lt, lg_cmp_eq, eL_0, eL_1, eL_m1, eL_LO, eL_HI, eL_W, eL_add, eL_sub, eL_mul, eL_neg, eL_lt, eL_le, eL_eq, eL_remN, eL_mod0, ne_eq, Int64.not_lt, Int64.not_le] at c3)
                        (try simp (disch := omega) only [lg_cmp_ge, lg_cmp_le, lg_cmp_gt, lg_cmp_lt, lg_cmp_eq, eL_0, eL_1, eL_m1, eL_LO, eL_HI, eL_W, eL_add, eL_sub, eL_mul, eL_neg, eL_lt, eL_le, eL_eq, eL_remN, eL_mod0, ne_eq, Int64.not_lt, Int64.not_le] at c11)
                        (try simp (disch := omega) only [lg_cmp_ge, lg_cmp_le, lg_cmp_gt, lg_cmp_lt, lg_cmp_eq, eL_0, eL_1, eL_m1, eL_LO, eL_HI, eL_W, eL_add, eL_sub, eL_mul, eL_neg, eL_lt, eL_le, eL_eq, eL_remN, eL_mod0, ne_eq, Int64.not_lt, Int64.not_le] at c147)
                        (try simp (disch := omega) only [lg_cmp_ge, lg_cmp_le, lg_cmp_gt, lg_cmp_lt, lg_cmp_eq, eL_0, eL_1, eL_m1, eL_LO, eL_HI, eL_W, eL_add, eL_sub, eL_mul, eL_neg, eL_lt, eL_le, eL_eq, eL_remN, eL_mod0, ne_eq, Int64.not_lt, Int64.not_le] at c159)
                        (try simp (disch := omega) only [lg_cmp_ge, lg_cmp_le, lg_cmp_gt, lg_cmp_lt, lg_cmp_eq, eL_0, eL_1, eL_m1, eL_LO, eL_HI, eL_W, eL_add, eL_sub, eL_mul, eL_neg, eL_lt, eL_le, eL_eq, eL_remN, eL_mod0, ne_eq, Int64.not_lt, Int64.not_le] at c175)
                        (try simp (disch := omega) only [lg_cmp_ge, lg_cmp_le, lg_cmp_gt, lg_cmp_lt, lg_cmp_eq, eL_0, eL_1, eL_m1, eL_LO, eL_HI, eL_W, eL_add, eL_sub, eL_mul, eL_neg, eL_lt, eL_le, eL_eq, eL_remN, eL_mod0, ne_eq, Int64.not_lt, Int64.not_le] at c193)
                        rw [show restS x d = mkS (0) (min x.2.1 (q.2.1 - 1)) 1 from by
                          unfold restS
                          rw [if_neg n0, if_neg (by omega), z2, if_pos (by omega), if_neg (by omega)]]
                        exact ⟨rfl, rfl, W209.p.tr o1 r1⟩
                      · refine gi_lconst (q := 197) (v := 0) C (dm_Mo_rest 105 rfl) rfl (by decide) ?_
                        refine gi_goto (tgt := 208) C (dm_Mo_rest 106 rfl) (by decide) ?_
                        refine gi_lconst (q := 209) (v := 1) C (dm_Mo_rest 112 rfl) rfl (by decide) ?_
                        rw [eL_1]
                        refine gi_callv 3 (q := 212) C (dm_Mo_rest 113 rfl) rfl my_Mo_set lk_Mo_262 im_Mo_set rfl (c_Mo_set (0) (0) 1 (by omega) (by omega) (by omega) (by omega) H1) Ha1 rfl rfl ⟨(Nat.le_of_ble_eq_true rfl), (Nat.le_of_ble_eq_true rfl)⟩ (Nat.le_of_ble_eq_true rfl) ⟨(Nat.le_of_ble_eq_true rfl), (Nat.le_of_ble_eq_true rfl)⟩ (fun r209 n209 h209 e209 => ?_)
                        obtain ⟨rfl, rfl, W209⟩ := e209
                        refine gi_vret C hr (dm_Mo_rest 114 rfl) ?_
                        (try simp (disch := omega) only [lg_cmp_ge, lg_cmp_le, lg_cmp_gt, lg_cmp_lt, lg_cmp_eq, eL_0, eL_1, eL_m1, eL_LO, eL_HI, eL_W, eL_add, eL_sub, eL_mul, eL_neg, eL_lt, eL_le, eL_eq, eL_remN, eL_mod0, ne_eq, Int64.not_lt, Int64.not_le] at c3)
                        (try simp (disch := omega) only [lg_cmp_ge, lg_cmp_le, lg_cmp_gt, lg_cmp_lt, lg_cmp_eq, eL_0, eL_1, eL_m1, eL_LO, eL_HI, eL_W, eL_add, eL_sub, eL_mul, eL_neg, eL_lt, eL_le, eL_eq, eL_remN, eL_mod0, ne_eq, Int64.not_lt, Int64.not_le] at c11)
                        (try simp (disch := omega) only [lg_cmp_ge, lg_cmp_le, lg_cmp_gt, lg_cmp_lt, lg_cmp_eq, eL_0, eL_1, eL_m1, eL_LO, eL_HI, eL_W, eL_add, eL_sub, eL_mul, eL_neg, eL_lt, eL_le, eL_eq, eL_remN, eL_mod0, ne_eq, Int64.not_lt, Int64.not_le] at c147)
                        (try simp (disch := omega) only [lg_cmp_ge, lg_cmp_le, lg_cmp_gt, lg_cmp_lt, lg_cmp_eq, eL_0, eL_1, eL_m1, eL_LO, eL_HI, eL_W, eL_add, eL_sub, eL_mul, eL_neg, eL_lt, eL_le, eL_eq, eL_remN, eL_mod0, ne_eq, Int64.not_lt, Int64.not_le] at c159)
                        (try simp (disch := omega) only [lg_cmp_ge, lg_cmp_le, lg_cmp_gt, lg_cmp_lt, lg_cmp_eq, eL_0, eL_1, eL_m1, eL_LO, eL_HI, eL_W, eL_add, eL_sub, eL_mul, eL_neg, eL_lt, eL_le, eL_eq, eL_remN, eL_mod0, ne_eq, Int64.not_lt, Int64.not_le] at c175)
                        (try simp (disch := omega) only [lg_cmp_ge, lg_cmp_le, lg_cmp_gt, lg_cmp_lt, lg_cmp_eq, eL_0, eL_1, eL_m1, eL_LO, eL_HI, eL_W, eL_add, eL_sub, eL_mul, eL_neg, eL_lt, eL_le, eL_eq, eL_remN, eL_mod0, ne_eq, Int64.not_lt, Int64.not_le] at c193)
                        rw [show restS x d = mkS (0) (0) 1 from by
                          unfold restS
                          rw [if_neg n0, if_neg (by omega), z2, if_pos (by omega), if_pos (by omega)]]
                        exact ⟨rfl, rfl, W209.p.tr o1 r1⟩
                  · refine gi_lload_n (q := 151) (i := 1) C (dm_Mo_rest 76 rfl) rfl rfl rfl ?_
                    refine gi_lload_n (q := 152) (i := 3) C (dm_Mo_rest 77 rfl) rfl rfl rfl ?_
                    refine gi_lneg (q := 153) C (dm_Mo_rest 78 rfl) rfl ?_
                    rw [eL_neg]
                    refine gi_calls 2 (q := 156) C (dm_Mo_rest 79 rfl) rfl my_Mo_max lk_Mo_256 sm_Mo_max (c_Mo_max x.1 (-x.2.1) (by omega) (by omega) (by omega) (by omega)) rfl rfl ⟨(Nat.le_of_ble_eq_true rfl), (Nat.le_of_ble_eq_true rfl)⟩ (Nat.le_of_ble_eq_true rfl) ⟨(Nat.le_of_ble_eq_true rfl), (Nat.le_of_ble_eq_true rfl)⟩ (fun r153 n153 h153 e153 => ?_)
                    obtain ⟨rfl, q153, u153⟩ := e153
                    rw [q153, u153]
                    refine gi_lload (q := 158) C (dm_Mo_rest 80 rfl) rfl rfl ?_
                    refine gi_lcmp (q := 159) C (dm_Mo_rest 81 rfl) rfl ?_
                    refine gi_if_ge (q := 162) (tgt := 171) C (dm_Mo_rest 82 rfl) rfl (by decide) (fun c159 => ?_) (fun c159 => ?_)
                    · refine gi_aload_n (q := 172) (i := 0) C (dm_Mo_rest 89 rfl) rfl rfl rfl ?_
                      refine gi_lload_n (q := 173) (i := 1) C (dm_Mo_rest 90 rfl) rfl rfl rfl ?_
                      refine gi_lconst (q := 174) (v := 0) C (dm_Mo_rest 91 rfl) rfl (by decide) ?_
                      refine gi_lcmp (q := 175) C (dm_Mo_rest 92 rfl) rfl ?_
                      refine gi_if_lt (q := 178) (tgt := 182) C (dm_Mo_rest 93 rfl) rfl (by decide) (fun c175 => ?_) (fun c175 => ?_)
                      · refine gi_lload_n (q := 183) (i := 1) C (dm_Mo_rest 96 rfl) rfl rfl rfl ?_
                        refine gi_lconst (q := 184) (v := 1) C (dm_Mo_rest 97 rfl) rfl (by decide) ?_
                        refine gi_lload (q := 186) C (dm_Mo_rest 98 rfl) rfl rfl ?_
                        refine gi_lsub (q := 187) C (dm_Mo_rest 99 rfl) rfl ?_
                        rw [eL_1, eL_sub]
                        refine gi_calls 2 (q := 190) C (dm_Mo_rest 100 rfl) rfl my_Mo_max lk_Mo_256 sm_Mo_max (c_Mo_max x.1 (1 - (q.2.1)) (by omega) (by omega) (by omega) (by omega)) rfl rfl ⟨(Nat.le_of_ble_eq_true rfl), (Nat.le_of_ble_eq_true rfl)⟩ (Nat.le_of_ble_eq_true rfl) ⟨(Nat.le_of_ble_eq_true rfl), (Nat.le_of_ble_eq_true rfl)⟩ (fun r187 n187 h187 e187 => ?_)
                        obtain ⟨rfl, q187, u187⟩ := e187
                        rw [q187, u187]
                        refine gi_lload_n (q := 191) (i := 3) C (dm_Mo_rest 101 rfl) rfl rfl rfl ?_
                        refine gi_lconst (q := 192) (v := 0) C (dm_Mo_rest 102 rfl) rfl (by decide) ?_
                        refine gi_lcmp (q := 193) C (dm_Mo_rest 103 rfl) rfl ?_
                        refine gi_if_gt (q := 196) (tgt := 200) C (dm_Mo_rest 104 rfl) rfl (by decide) (fun c193 => ?_) (fun c193 => ?_)
                        · refine gi_lload_n (q := 201) (i := 3) C (dm_Mo_rest 107 rfl) rfl rfl rfl ?_
                          refine gi_lload (q := 203) C (dm_Mo_rest 108 rfl) rfl rfl ?_
                          refine gi_lconst (q := 204) (v := 1) C (dm_Mo_rest 109 rfl) rfl (by decide) ?_
                          refine gi_lsub (q := 205) C (dm_Mo_rest 110 rfl) rfl ?_
                          rw [eL_1, eL_sub]
                          refine gi_calls 2 (q := 208) C (dm_Mo_rest 111 rfl) rfl my_Mo_min lk_Mo_252 sm_Mo_min (c_Mo_min x.2.1 (q.2.1 - 1) (by omega) (by omega) (by omega) (by omega)) rfl rfl ⟨(Nat.le_of_ble_eq_true rfl), (Nat.le_of_ble_eq_true rfl)⟩ (Nat.le_of_ble_eq_true rfl) ⟨(Nat.le_of_ble_eq_true rfl), (Nat.le_of_ble_eq_true rfl)⟩ (fun r205 n205 h205 e205 => ?_)
                          obtain ⟨rfl, q205, u205⟩ := e205
                          rw [q205, u205]
                          refine gi_lconst (q := 209) (v := 1) C (dm_Mo_rest 112 rfl) rfl (by decide) ?_
                          rw [eL_1]
                          refine gi_callv 3 (q := 212) C (dm_Mo_rest 113 rfl) rfl my_Mo_set lk_Mo_262 im_Mo_set rfl (c_Mo_set (max x.1 (1 - (q.2.1))) (min x.2.1 (q.2.1 - 1)) 1 (by omega) (by omega) (by omega) (by omega) H1) Ha1 rfl rfl ⟨(Nat.le_of_ble_eq_true rfl), (Nat.le_of_ble_eq_true rfl)⟩ (Nat.le_of_ble_eq_true rfl) ⟨(Nat.le_of_ble_eq_true rfl), (Nat.le_of_ble_eq_true rfl)⟩ (fun r209 n209 h209 e209 => ?_)
                          obtain ⟨rfl, rfl, W209⟩ := e209
                          refine gi_vret C hr (dm_Mo_rest 114 rfl) ?_
                          (try simp (disch := omega) only [lg_cmp_ge, lg_cmp_le, lg_cmp_gt, lg_cmp_lt, lg_cmp_eq, eL_0, eL_1, eL_m1, eL_LO, eL_HI, eL_W, eL_add, eL_sub, eL_mul, eL_neg, eL_lt, eL_le, eL_eq, eL_remN, eL_mod0, ne_eq, Int64.not_lt, Int64.not_le] at c3)
                          (try simp (disch := omega) only [lg_cmp_ge, lg_cmp_le, lg_cmp_gt, lg_cmp_lt, lg_cmp_eq, eL_0, eL_1, eL_m1, eL_LO, eL_HI, eL_W, eL_add, eL_sub, eL_mul, eL_neg, eL_lt, eL_le, eL_eq, eL_remN, eL_mod0, ne_eq, Int64.not_lt, Int64.not_le] at c11)
                          (try simp (disch := omega) only [lg_cmp_ge, lg_cmp_le, lg_cmp_gt, lg_cmp_lt, lg_cmp_eq, eL_0, eL_1, eL_m1, eL_LO, eL_HI, eL_W, eL_add, eL_sub, eL_mul, eL_neg, eL_lt, eL_le, eL_eq, eL_remN, eL_mod0, ne_eq, Int64.not_lt, Int64.not_le] at c147)
                          (try simp (disch := omega) only [lg_cmp_ge, lg_cmp_le, lg_cmp_gt, lg_cmp_lt, lg_cmp_eq, eL_0, eL_1, eL_m1, eL_LO, eL_HI, eL_W, eL_add, eL_sub, eL_mul, eL_neg, eL_lt, eL_le, eL_eq, eL_remN, eL_mod0, ne_eq, Int64.not_lt, Int64.not_le] at c159)
                          (try simp (disch := omega) only [lg_cmp_ge, lg_cmp_le, lg_cmp_gt, lg_cmp_lt, lg_cmp_eq, eL_0, eL_1, eL_m1, eL_LO, eL_HI, eL_W, eL_add, eL_sub, eL_mul, eL_neg, eL_lt, eL_le, eL_eq, eL_remN, eL_mod0, ne_eq, Int64.not_lt, Int64.not_le] at c175)
                          (try simp (disch := omega) only [lg_cmp_ge, lg_cmp_le, lg_cmp_gt, lg_cmp_lt, lg_cmp_eq, eL_0, eL_1, eL_m1, eL_LO, eL_HI, eL_W, eL_add, eL_sub, eL_mul, eL_neg, eL_lt, eL_le, eL_eq, eL_remN, eL_mod0, ne_eq, Int64.not_lt, Int64.not_le] at c193)
                          rw [show restS x d = mkS (max x.1 (1 - (q.2.1))) (min x.2.1 (q.2.1 - 1)) 1 from by
                            unfold restS
                            rw [if_neg n0, if_neg (by omega), z2, if_neg (by omega), if_neg (by omega)]]
                          exact ⟨rfl, rfl, W209.p.tr o1 r1⟩
                        · refine gi_lconst (q := 197) (v := 0) C (dm_Mo_rest 105 rfl) rfl (by decide) ?_
                          refine gi_goto (tgt := 208) C (dm_Mo_rest 106 rfl) (by decide) ?_
                          refine gi_lconst (q := 209) (v := 1) C (dm_Mo_rest 112 rfl) rfl (by decide) ?_
                          rw [eL_1]
                          refine gi_callv 3 (q := 212) C (dm_Mo_rest 113 rfl) rfl my_Mo_set lk_Mo_262 im_Mo_set rfl (c_Mo_set (max x.1 (1 - (q.2.1))) (0) 1 (by omega) (by omega) (by omega) (by omega) H1) Ha1 rfl rfl ⟨(Nat.le_of_ble_eq_true rfl), (Nat.le_of_ble_eq_true rfl)⟩ (Nat.le_of_ble_eq_true rfl) ⟨(Nat.le_of_ble_eq_true rfl), (Nat.le_of_ble_eq_true rfl)⟩ (fun r209 n209 h209 e209 => ?_)
                          obtain ⟨rfl, rfl, W209⟩ := e209
                          refine gi_vret C hr (dm_Mo_rest 114 rfl) ?_
                          (try simp (disch := omega) only [lg_cmp_ge, lg_cmp_le, lg_cmp_gt, lg_cmp_lt, lg_cmp_eq, eL_0, eL_1, eL_m1, eL_LO, eL_HI, eL_W, eL_add, eL_sub, eL_mul, eL_neg, eL_lt, eL_le, eL_eq, eL_remN, eL_mod0, ne_eq, Int64.not_lt, Int64.not_le] at c3)
                          (try simp (disch := omega) only [lg_cmp_ge, lg_cmp_le, lg_cmp_gt, lg_cmp_lt, lg_cmp_eq, eL_0, eL_1, eL_m1, eL_LO, eL_HI, eL_W, eL_add, eL_sub, eL_mul, eL_neg, eL_lt, eL_le, eL_eq, eL_remN, eL_mod0, ne_eq, Int64.not_lt, Int64.not_le] at c11)
                          (try simp (disch := omega) only [lg_cmp_ge, lg_cmp_le, lg_cmp_gt, lg_cmp_lt, lg_cmp_eq, eL_0, eL_1, eL_m1, eL_LO, eL_HI, eL_W, eL_add, eL_sub, eL_mul, eL_neg, eL_lt, eL_le, eL_eq, eL_remN, eL_mod0, ne_eq, Int64.not_lt, Int64.not_le] at c147)
                          (try simp (disch := omega) only [lg_cmp_ge, lg_cmp_le, lg_cmp_gt, lg_cmp_lt, lg_cmp_eq, eL_0, eL_1, eL_m1, eL_LO, eL_HI, eL_W, eL_add, eL_sub, eL_mul, eL_neg, eL_lt, eL_le, eL_eq, eL_remN, eL_mod0, ne_eq, Int64.not_lt, Int64.not_le] at c159)
                          (try simp (disch := omega) only [lg_cmp_ge, lg_cmp_le, lg_cmp_gt, lg_cmp_lt, lg_cmp_eq, eL_0, eL_1, eL_m1, eL_LO, eL_HI, eL_W, eL_add, eL_sub, eL_mul, eL_neg, eL_lt, eL_le, eL_eq, eL_remN, eL_mod0, ne_eq, Int64.not_lt, Int64.not_le] at c175)
                          (try simp (disch := omega) only [lg_cmp_ge, lg_cmp_le, lg_cmp_gt, lg_cmp_lt, lg_cmp_eq, eL_0, eL_1, eL_m1, eL_LO, eL_HI, eL_W, eL_add, eL_sub, eL_mul, eL_neg, eL_lt, eL_le, eL_eq, eL_remN, eL_mod0, ne_eq, Int64.not_lt, Int64.not_le] at c193)
                          rw [show restS x d = mkS (max x.1 (1 - (q.2.1))) (0) 1 from by
                            unfold restS
                            rw [if_neg n0, if_neg (by omega), z2, if_neg (by omega), if_pos (by omega)]]
                          exact ⟨rfl, rfl, W209.p.tr o1 r1⟩
                      · refine gi_lconst (q := 179) (v := 0) C (dm_Mo_rest 94 rfl) rfl (by decide) ?_
                        refine gi_goto (tgt := 190) C (dm_Mo_rest 95 rfl) (by decide) ?_
                        refine gi_lload_n (q := 191) (i := 3) C (dm_Mo_rest 101 rfl) rfl rfl rfl ?_
                        refine gi_lconst (q := 192) (v := 0) C (dm_Mo_rest 102 rfl) rfl (by decide) ?_
                        refine gi_lcmp (q := 193) C (dm_Mo_rest 103 rfl) rfl ?_
                        refine gi_if_gt (q := 196) (tgt := 200) C (dm_Mo_rest 104 rfl) rfl (by decide) (fun c193 => ?_) (fun c193 => ?_)
                        · refine gi_lload_n (q := 201) (i := 3) C (dm_Mo_rest 107 rfl) rfl rfl rfl ?_
                          refine gi_lload (q := 203) C (dm_Mo_rest 108 rfl) rfl rfl ?_
                          refine gi_lconst (q := 204) (v := 1) C (dm_Mo_rest 109 rfl) rfl (by decide) ?_
                          refine gi_lsub (q := 205) C (dm_Mo_rest 110 rfl) rfl ?_
                          rw [eL_1, eL_sub]
                          refine gi_calls 2 (q := 208) C (dm_Mo_rest 111 rfl) rfl my_Mo_min lk_Mo_252 sm_Mo_min (c_Mo_min x.2.1 (q.2.1 - 1) (by omega) (by omega) (by omega) (by omega)) rfl rfl ⟨(Nat.le_of_ble_eq_true rfl), (Nat.le_of_ble_eq_true rfl)⟩ (Nat.le_of_ble_eq_true rfl) ⟨(Nat.le_of_ble_eq_true rfl), (Nat.le_of_ble_eq_true rfl)⟩ (fun r205 n205 h205 e205 => ?_)
                          obtain ⟨rfl, q205, u205⟩ := e205
                          rw [q205, u205]
                          refine gi_lconst (q := 209) (v := 1) C (dm_Mo_rest 112 rfl) rfl (by decide) ?_
                          rw [eL_1]
                          refine gi_callv 3 (q := 212) C (dm_Mo_rest 113 rfl) rfl my_Mo_set lk_Mo_262 im_Mo_set rfl (c_Mo_set (0) (min x.2.1 (q.2.1 - 1)) 1 (by omega) (by omega) (by omega) (by omega) H1) Ha1 rfl rfl ⟨(Nat.le_of_ble_eq_true rfl), (Nat.le_of_ble_eq_true rfl)⟩ (Nat.le_of_ble_eq_true rfl) ⟨(Nat.le_of_ble_eq_true rfl), (Nat.le_of_ble_eq_true rfl)⟩ (fun r209 n209 h209 e209 => ?_)
                          obtain ⟨rfl, rfl, W209⟩ := e209
                          refine gi_vret C hr (dm_Mo_rest 114 rfl) ?_
                          (try simp (disch := omega) only [lg_cmp_ge, lg_cmp_le, lg_cmp_gt, lg_cmp_lt, lg_cmp_eq, eL_0, eL_1, eL_m1, eL_LO, eL_HI, eL_W, eL_add, eL_sub, eL_mul, eL_neg, eL_lt, eL_le, eL_eq, eL_remN, eL_mod0, ne_eq, Int64.not_lt, Int64.not_le] at c3)
                          (try simp (disch := omega) only [lg_cmp_ge, lg_cmp_le, lg_cmp_gt, lg_cmp_lt, lg_cmp_eq, eL_0, eL_1, eL_m1, eL_LO, eL_HI, eL_W, eL_add, eL_sub, eL_mul, eL_neg, eL_lt, eL_le, eL_eq, eL_remN, eL_mod0, ne_eq, Int64.not_lt, Int64.not_le] at c11)
                          (try simp (disch := omega) only [lg_cmp_ge, lg_cmp_le, lg_cmp_gt, lg_cmp_lt, lg_cmp_eq, eL_0, eL_1, eL_m1, eL_LO, eL_HI, eL_W, eL_add, eL_sub, eL_mul, eL_neg, eL_lt, eL_le, eL_eq, eL_remN, eL_mod0, ne_eq, Int64.not_lt, Int64.not_le] at c147)
                          (try simp (disch := omega) only [lg_cmp_ge, lg_cmp_le, lg_cmp_gt, lg_cmp_lt, lg_cmp_eq, eL_0, eL_1, eL_m1, eL_LO, eL_HI, eL_W, eL_add, eL_sub, eL_mul, eL_neg, eL_lt, eL_le, eL_eq, eL_remN, eL_mod0, ne_eq, Int64.not_lt, Int64.not_le] at c159)
                          (try simp (disch := omega) only [lg_cmp_ge, lg_cmp_le, lg_cmp_gt, lg_cmp_lt, lg_cmp_eq, eL_0, eL_1, eL_m1, eL_LO, eL_HI, eL_W, eL_add, eL_sub, eL_mul, eL_neg, eL_lt, eL_le, eL_eq, eL_remN, eL_mod0, ne_eq, Int64.not_lt, Int64.not_le] at c175)
                          (try simp (disch := omega) only [lg_cmp_ge, lg_cmp_le, lg_cmp_gt, lg_cmp_lt, lg_cmp_eq, eL_0, eL_1, eL_m1, eL_LO, eL_HI, eL_W, eL_add, eL_sub, eL_mul, eL_neg, eL_lt, eL_le, eL_eq, eL_remN, eL_mod0, ne_eq, Int64.not_lt, Int64.not_le] at c193)
                          rw [show restS x d = mkS (0) (min x.2.1 (q.2.1 - 1)) 1 from by
                            unfold restS
                            rw [if_neg n0, if_neg (by omega), z2, if_pos (by omega), if_neg (by omega)]]
                          exact ⟨rfl, rfl, W209.p.tr o1 r1⟩
                        · refine gi_lconst (q := 197) (v := 0) C (dm_Mo_rest 105 rfl) rfl (by decide) ?_
                          refine gi_goto (tgt := 208) C (dm_Mo_rest 106 rfl) (by decide) ?_
                          refine gi_lconst (q := 209) (v := 1) C (dm_Mo_rest 112 rfl) rfl (by decide) ?_
                          rw [eL_1]
                          refine gi_callv 3 (q := 212) C (dm_Mo_rest 113 rfl) rfl my_Mo_set lk_Mo_262 im_Mo_set rfl (c_Mo_set (0) (0) 1 (by omega) (by omega) (by omega) (by omega) H1) Ha1 rfl rfl ⟨(Nat.le_of_ble_eq_true rfl), (Nat.le_of_ble_eq_true rfl)⟩ (Nat.le_of_ble_eq_true rfl) ⟨(Nat.le_of_ble_eq_true rfl), (Nat.le_of_ble_eq_true rfl)⟩ (fun r209 n209 h209 e209 => ?_)
                          obtain ⟨rfl, rfl, W209⟩ := e209
                          refine gi_vret C hr (dm_Mo_rest 114 rfl) ?_
                          (try simp (disch := omega) only [lg_cmp_ge, lg_cmp_le, lg_cmp_gt, lg_cmp_lt, lg_cmp_eq, eL_0, eL_1, eL_m1, eL_LO, eL_HI, eL_W, eL_add, eL_sub, eL_mul, eL_neg, eL_lt, eL_le, eL_eq, eL_remN, eL_mod0, ne_eq, Int64.not_lt, Int64.not_le] at c3)
                          (try simp (disch := omega) only [lg_cmp_ge, lg_cmp_le, lg_cmp_gt, lg_cmp_lt, lg_cmp_eq, eL_0, eL_1, eL_m1, eL_LO, eL_HI, eL_W, eL_add, eL_sub, eL_mul, eL_neg, eL_lt, eL_le, eL_eq, eL_remN, eL_mod0, ne_eq, Int64.not_lt, Int64.not_le] at c11)
                          (try simp (disch := omega) only [lg_cmp_ge, lg_cmp_le, lg_cmp_gt, lg_cmp_lt, lg_cmp_eq, eL_0, eL_1, eL_m1, eL_LO, eL_HI, eL_W, eL_add, eL_sub, eL_mul, eL_neg, eL_lt, eL_le, eL_eq, eL_remN, eL_mod0, ne_eq, Int64.not_lt, Int64.not_le] at c147)
                          (try simp (disch := omega) only [lg_cmp_ge, lg_cmp_le, lg_cmp_gt, lg_cmp_lt, lg_cmp_eq, eL_0, eL_1, eL_m1, eL_LO, eL_HI, eL_W, eL_add, eL_sub, eL_mul, eL_neg, eL_lt, eL_le, eL_eq, eL_remN, eL_mod0, ne_eq, Int64.not_lt, Int64.not_le] at c159)
                          (try simp (disch := omega) only [lg_cmp_ge, lg_cmp_le, lg_cmp_gt, lg_cmp_lt, lg_cmp_eq, eL_0, eL_1, eL_m1, eL_LO, eL_HI, eL_W, eL_add, eL_sub, eL_mul, eL_neg, eL_lt, eL_le, eL_eq, eL_remN, eL_mod0, ne_eq, Int64.not_lt, Int64.not_le] at c175)
                          (try simp (disch := omega) only [lg_cmp_ge, lg_cmp_le, lg_cmp_gt, lg_cmp_lt, lg_cmp_eq, eL_0, eL_1, eL_m1, eL_LO, eL_HI, eL_W, eL_add, eL_sub, eL_mul, eL_neg, eL_lt, eL_le, eL_eq, eL_remN, eL_mod0, ne_eq, Int64.not_lt, Int64.not_le] at c193)
                          rw [show restS x d = mkS (0) (0) 1 from by
                            unfold restS
                            rw [if_neg n0, if_neg (by omega), z2, if_pos (by omega), if_pos (by omega)]]
                          exact ⟨rfl, rfl, W209.p.tr o1 r1⟩
                    · refine gi_aload_n (q := 163) (i := 0) C (dm_Mo_rest 83 rfl) rfl rfl rfl ?_
                      refine gi_lload_n (q := 164) (i := 1) C (dm_Mo_rest 84 rfl) rfl rfl rfl ?_
                      refine gi_lload_n (q := 165) (i := 3) C (dm_Mo_rest 85 rfl) rfl rfl rfl ?_
                      refine gi_lload (q := 167) C (dm_Mo_rest 86 rfl) rfl rfl ?_
                      refine gi_callv 3 (q := 170) C (dm_Mo_rest 87 rfl) rfl my_Mo_set lk_Mo_262 im_Mo_set rfl (c_Mo_set (x.1) (x.2.1) (x.2.2) (by omega) (by omega) (by omega) (by omega) H1) Ha1 rfl rfl ⟨(Nat.le_of_ble_eq_true rfl), (Nat.le_of_ble_eq_true rfl)⟩ (Nat.le_of_ble_eq_true rfl) ⟨(Nat.le_of_ble_eq_true rfl), (Nat.le_of_ble_eq_true rfl)⟩ (fun r167 n167 h167 e167 => ?_)
                      obtain ⟨rfl, rfl, W167⟩ := e167
                      refine gi_vret C hr (dm_Mo_rest 88 rfl) ?_
                      (try simp (disch := omega) only [lg_cmp_ge, lg_cmp_le, lg_cmp_gt, lg_cmp_lt, lg_cmp_eq, eL_0, eL_1, eL_m1, eL_LO, eL_HI, eL_W, eL_add, eL_sub, eL_mul, eL_neg, eL_lt, eL_le, eL_eq, eL_remN, eL_mod0, ne_eq, Int64.not_lt, Int64.not_le] at c3)
                      (try simp (disch := omega) only [lg_cmp_ge, lg_cmp_le, lg_cmp_gt, lg_cmp_lt, lg_cmp_eq, eL_0, eL_1, eL_m1, eL_LO, eL_HI, eL_W, eL_add, eL_sub, eL_mul, eL_neg, eL_lt, eL_le, eL_eq, eL_remN, eL_mod0, ne_eq, Int64.not_lt, Int64.not_le] at c11)
                      (try simp (disch := omega) only [lg_cmp_ge, lg_cmp_le, lg_cmp_gt, lg_cmp_lt, lg_cmp_eq, eL_0, eL_1, eL_m1, eL_LO, eL_HI, eL_W, eL_add, eL_sub, eL_mul, eL_neg, eL_lt, eL_le, eL_eq, eL_remN, eL_mod0, ne_eq, Int64.not_lt, Int64.not_le] at c147)
                      (try simp (disch := omega) only [lg_cmp_ge, lg_cmp_le, lg_cmp_gt, lg_cmp_lt, lg_cmp_eq, eL_0, eL_1, eL_m1, eL_LO, eL_HI, eL_W, eL_add, eL_sub, eL_mul, eL_neg, eL_lt, eL_le, eL_eq, eL_remN, eL_mod0, ne_eq, Int64.not_lt, Int64.not_le] at c159)
                      (try simp (disch := omega) only [lg_cmp_ge, lg_cmp_le, lg_cmp_gt, lg_cmp_lt, lg_cmp_eq, eL_0, eL_1, eL_m1, eL_LO, eL_HI, eL_W, eL_add, eL_sub, eL_mul, eL_neg, eL_lt, eL_le, eL_eq, eL_remN, eL_mod0, ne_eq, Int64.not_lt, Int64.not_le] at c175)
                      (try simp (disch := omega) only [lg_cmp_ge, lg_cmp_le, lg_cmp_gt, lg_cmp_lt, lg_cmp_eq, eL_0, eL_1, eL_m1, eL_LO, eL_HI, eL_W, eL_add, eL_sub, eL_mul, eL_neg, eL_lt, eL_le, eL_eq, eL_remN, eL_mod0, ne_eq, Int64.not_lt, Int64.not_le] at c193)
                      rw [show restS x d = mkS x.1 x.2.1 x.2.2 from by
                        unfold restS
                        rw [if_neg n0, if_pos (by omega), mkS_id hx]]
                      exact ⟨rfl, rfl, W167.p.tr o1 r1⟩
                · exact absurd t29 c121
              · exact absurd t29 c92
            · exact absurd t29 c71
          · exact absurd t29 c42
      · rw [en] at t29
        have t29 : S1 29 = 1 := t29
        rcases ep : posS d with _ | q
        · rw [ep] at t30
          have t30 : S1 30 = 0 := t30
          obtain ⟨k25, k26⟩ := tn p en
          have bn := part_n hd en
          have z1 : sizL d = -p.2.1 := by
            unfold sizL
            rw [en, ep]
          have z2 : sizH d = -p.1 := by
            unfold sizH
            rw [en, ep]
          refine gi_aload_n (q := 39) (i := 0) C (dm_Mo_rest 23 rfl) rfl rfl rfl ?_
          refine gi_get (q := 42) C (dm_Mo_rest 24 rfl) rfl fl_Mo_321 Ha1 (mo_g29 Hf1) ?_
          refine gi_if_eq (q := 45) (tgt := 67) C (dm_Mo_rest 25 rfl) rfl (by decide) (fun c42 => ?_) (fun c42 => ?_)
          · exact absurd c42 (by rw [t29]; decide)
          · refine gi_aload_n (q := 46) (i := 0) C (dm_Mo_rest 26 rfl) rfl rfl rfl ?_
            refine gi_get (q := 49) C (dm_Mo_rest 27 rfl) rfl fl_Mo_330 Ha1 (mo_g30 Hf1) ?_
            refine gi_if_eq (q := 52) (tgt := 67) C (dm_Mo_rest 28 rfl) rfl (by decide) (fun c49 => ?_) (fun c49 => ?_)
            · refine gi_aload_n (q := 68) (i := 0) C (dm_Mo_rest 36 rfl) rfl rfl rfl ?_
              refine gi_get (q := 71) C (dm_Mo_rest 37 rfl) rfl fl_Mo_321 Ha1 (mo_g29 Hf1) ?_
              refine gi_if_eq (q := 74) (tgt := 82) C (dm_Mo_rest 38 rfl) rfl (by decide) (fun c71 => ?_) (fun c71 => ?_)
              · exact absurd c71 (by rw [t29]; decide)
              · refine gi_aload_n (q := 75) (i := 0) C (dm_Mo_rest 39 rfl) rfl rfl rfl ?_
                refine gi_get (q := 78) C (dm_Mo_rest 40 rfl) rfl fl_Mo_327 Ha1 (mo_g26 Hf1) ?_
                rw [k26]
                refine gi_lneg (q := 79) C (dm_Mo_rest 41 rfl) rfl ?_
                rw [eL_neg]
                refine gi_goto (tgt := 86) C (dm_Mo_rest 42 rfl) (by decide) ?_
                skip
                refine gi_lstore (q := 88) C (dm_Mo_rest 45 rfl) rfl (Nat.le_of_ble_eq_true rfl) ?_
                refine gi_aload_n (q := 89) (i := 0) C (dm_Mo_rest 46 rfl) rfl rfl rfl ?_
                refine gi_get (q := 92) C (dm_Mo_rest 47 rfl) rfl fl_Mo_321 Ha1 (mo_g29 Hf1) ?_
                refine gi_if_eq (q := 95) (tgt := 117) C (dm_Mo_rest 48 rfl) rfl (by decide) (fun c92 => ?_) (fun c92 => ?_)
                · exact absurd c92 (by rw [t29]; decide)
                · refine gi_aload_n (q := 96) (i := 0) C (dm_Mo_rest 49 rfl) rfl rfl rfl ?_
                  refine gi_get (q := 99) C (dm_Mo_rest 50 rfl) rfl fl_Mo_330 Ha1 (mo_g30 Hf1) ?_
                  refine gi_if_eq (q := 102) (tgt := 117) C (dm_Mo_rest 51 rfl) rfl (by decide) (fun c99 => ?_) (fun c99 => ?_)
                  · refine gi_aload_n (q := 118) (i := 0) C (dm_Mo_rest 59 rfl) rfl rfl rfl ?_
                    refine gi_get (q := 121) C (dm_Mo_rest 60 rfl) rfl fl_Mo_321 Ha1 (mo_g29 Hf1) ?_
                    refine gi_if_eq (q := 124) (tgt := 132) C (dm_Mo_rest 61 rfl) rfl (by decide) (fun c121 => ?_) (fun c121 => ?_)
                    · exact absurd c121 (by rw [t29]; decide)
                    · refine gi_aload_n (q := 125) (i := 0) C (dm_Mo_rest 62 rfl) rfl rfl rfl ?_
                      refine gi_get (q := 128) C (dm_Mo_rest 63 rfl) rfl fl_Mo_324 Ha1 (mo_g25 Hf1) ?_
                      rw [k25]
                      refine gi_lneg (q := 129) C (dm_Mo_rest 64 rfl) rfl ?_
                      rw [eL_neg]
                      refine gi_goto (tgt := 136) C (dm_Mo_rest 65 rfl) (by decide) ?_
                      refine gi_lstore (q := 138) C (dm_Mo_rest 68 rfl) rfl (Nat.le_of_ble_eq_true rfl) ?_
                      refine gi_lload_n (q := 139) (i := 1) C (dm_Mo_rest 69 rfl) rfl rfl rfl ?_
                      refine gi_lneg (q := 140) C (dm_Mo_rest 70 rfl) rfl ?_
                      rw [eL_neg]
                      refine gi_lload_n (q := 141) (i := 3) C (dm_Mo_rest 71 rfl) rfl rfl rfl ?_
                      refine gi_calls 2 (q := 144) C (dm_Mo_rest 72 rfl) rfl my_Mo_max lk_Mo_256 sm_Mo_max (c_Mo_max (-x.1) x.2.1 (by omega) (by omega) (by omega) (by omega)) rfl rfl ⟨(Nat.le_of_ble_eq_true rfl), (Nat.le_of_ble_eq_true rfl)⟩ (Nat.le_of_ble_eq_true rfl) ⟨(Nat.le_of_ble_eq_true rfl), (Nat.le_of_ble_eq_true rfl)⟩ (fun r141 n141 h141 e141 => ?_)
                      obtain ⟨rfl, q141, u141⟩ := e141
                      rw [q141, u141]
                      refine gi_lload (q := 146) C (dm_Mo_rest 73 rfl) rfl rfl ?_
                      refine gi_lcmp (q := 147) C (dm_Mo_rest 74 rfl) rfl ?_
                      refine gi_if_ge (q := 150) (tgt := 171) C (dm_Mo_rest 75 rfl) rfl (by decide) (fun c147 => ?_) (fun c147 => ?_)
                      · refine gi_aload_n (q := 172) (i := 0) C (dm_Mo_rest 89 rfl) rfl rfl rfl ?_
                        refine gi_lload_n (q := 173) (i := 1) C (dm_Mo_rest 90 rfl) rfl rfl rfl ?_
                        refine gi_lconst (q := 174) (v := 0) C (dm_Mo_rest 91 rfl) rfl (by decide) ?_
                        refine gi_lcmp (q := 175) C (dm_Mo_rest 92 rfl) rfl ?_
                        refine gi_if_lt (q := 178) (tgt := 182) C (dm_Mo_rest 93 rfl) rfl (by decide) (fun c175 => ?_) (fun c175 => ?_)
                        · refine gi_lload_n (q := 183) (i := 1) C (dm_Mo_rest 96 rfl) rfl rfl rfl ?_
                          refine gi_lconst (q := 184) (v := 1) C (dm_Mo_rest 97 rfl) rfl (by decide) ?_
                          refine gi_lload (q := 186) C (dm_Mo_rest 98 rfl) rfl rfl ?_
                          refine gi_lsub (q := 187) C (dm_Mo_rest 99 rfl) rfl ?_
                          rw [eL_1, eL_sub]
                          refine gi_calls 2 (q := 190) C (dm_Mo_rest 100 rfl) rfl my_Mo_max lk_Mo_256 sm_Mo_max (c_Mo_max x.1 (1 - (-p.1)) (by omega) (by omega) (by omega) (by omega)) rfl rfl ⟨(Nat.le_of_ble_eq_true rfl), (Nat.le_of_ble_eq_true rfl)⟩ (Nat.le_of_ble_eq_true rfl) ⟨(Nat.le_of_ble_eq_true rfl), (Nat.le_of_ble_eq_true rfl)⟩ (fun r187 n187 h187 e187 => ?_)
                          obtain ⟨rfl, q187, u187⟩ := e187
                          rw [q187, u187]
                          refine gi_lload_n (q := 191) (i := 3) C (dm_Mo_rest 101 rfl) rfl rfl rfl ?_
                          refine gi_lconst (q := 192) (v := 0) C (dm_Mo_rest 102 rfl) rfl (by decide) ?_
                          refine gi_lcmp (q := 193) C (dm_Mo_rest 103 rfl) rfl ?_
                          refine gi_if_gt (q := 196) (tgt := 200) C (dm_Mo_rest 104 rfl) rfl (by decide) (fun c193 => ?_) (fun c193 => ?_)
                          · refine gi_lload_n (q := 201) (i := 3) C (dm_Mo_rest 107 rfl) rfl rfl rfl ?_
                            refine gi_lload (q := 203) C (dm_Mo_rest 108 rfl) rfl rfl ?_
                            refine gi_lconst (q := 204) (v := 1) C (dm_Mo_rest 109 rfl) rfl (by decide) ?_
                            refine gi_lsub (q := 205) C (dm_Mo_rest 110 rfl) rfl ?_
                            rw [eL_1, eL_sub]
                            refine gi_calls 2 (q := 208) C (dm_Mo_rest 111 rfl) rfl my_Mo_min lk_Mo_252 sm_Mo_min (c_Mo_min x.2.1 (-p.1 - 1) (by omega) (by omega) (by omega) (by omega)) rfl rfl ⟨(Nat.le_of_ble_eq_true rfl), (Nat.le_of_ble_eq_true rfl)⟩ (Nat.le_of_ble_eq_true rfl) ⟨(Nat.le_of_ble_eq_true rfl), (Nat.le_of_ble_eq_true rfl)⟩ (fun r205 n205 h205 e205 => ?_)
                            obtain ⟨rfl, q205, u205⟩ := e205
                            rw [q205, u205]
                            refine gi_lconst (q := 209) (v := 1) C (dm_Mo_rest 112 rfl) rfl (by decide) ?_
                            rw [eL_1]
                            refine gi_callv 3 (q := 212) C (dm_Mo_rest 113 rfl) rfl my_Mo_set lk_Mo_262 im_Mo_set rfl (c_Mo_set (max x.1 (1 - (-p.1))) (min x.2.1 (-p.1 - 1)) 1 (by omega) (by omega) (by omega) (by omega) H1) Ha1 rfl rfl ⟨(Nat.le_of_ble_eq_true rfl), (Nat.le_of_ble_eq_true rfl)⟩ (Nat.le_of_ble_eq_true rfl) ⟨(Nat.le_of_ble_eq_true rfl), (Nat.le_of_ble_eq_true rfl)⟩ (fun r209 n209 h209 e209 => ?_)
                            obtain ⟨rfl, rfl, W209⟩ := e209
                            refine gi_vret C hr (dm_Mo_rest 114 rfl) ?_
                            (try simp (disch := omega) only [lg_cmp_ge, lg_cmp_le, lg_cmp_gt, lg_cmp_lt, lg_cmp_eq, eL_0, eL_1, eL_m1, eL_LO, eL_HI, eL_W, eL_add, eL_sub, eL_mul, eL_neg, eL_lt, eL_le, eL_eq, eL_remN, eL_mod0, ne_eq, Int64.not_lt, Int64.not_le] at c3)
                            (try simp (disch := omega) only [lg_cmp_ge, lg_cmp_le, lg_cmp_gt, lg_cmp_lt, lg_cmp_eq, eL_0, eL_1, eL_m1, eL_LO, eL_HI, eL_W, eL_add, eL_sub, eL_mul, eL_neg, eL_lt, eL_le, eL_eq, eL_remN, eL_mod0, ne_eq, Int64.not_lt, Int64.not_le] at c11)
                            (try simp (disch := omega) only [lg_cmp_ge, lg_cmp_le, lg_cmp_gt, lg_cmp_lt, lg_cmp_eq, eL_0, eL_1, eL_m1, eL_LO, eL_HI, eL_W, eL_add, eL_sub, eL_mul, eL_neg, eL_lt, eL_le, eL_eq, eL_remN, eL_mod0, ne_eq, Int64.not_lt, Int64.not_le] at c147)
                            (try simp (disch := omega) only [lg_cmp_ge, lg_cmp_le, lg_cmp_gt, lg_cmp_lt, lg_cmp_eq, eL_0, eL_1, eL_m1, eL_LO, eL_HI, eL_W, eL_add, eL_sub, eL_mul, eL_neg, eL_lt, eL_le, eL_eq, eL_remN, eL_mod0, ne_eq, Int64.not_lt, Int64.not_le] at c159)
                            (try simp (disch := omega) only [lg_cmp_ge, lg_cmp_le, lg_cmp_gt, lg_cmp_lt, lg_cmp_eq, eL_0, eL_1, eL_m1, eL_LO, eL_HI, eL_W, eL_add, eL_sub, eL_mul, eL_neg, eL_lt, eL_le, eL_eq, eL_remN, eL_mod0, ne_eq, Int64.not_lt, Int64.not_le] at c175)
                            (try simp (disch := omega) only [lg_cmp_ge, lg_cmp_le, lg_cmp_gt, lg_cmp_lt, lg_cmp_eq, eL_0, eL_1, eL_m1, eL_LO, eL_HI, eL_W, eL_add, eL_sub, eL_mul, eL_neg, eL_lt, eL_le, eL_eq, eL_remN, eL_mod0, ne_eq, Int64.not_lt, Int64.not_le] at c193)
                            rw [show restS x d = mkS (max x.1 (1 - (-p.1))) (min x.2.1 (-p.1 - 1)) 1 from by
                              unfold restS
                              rw [if_neg n0, if_neg (by omega), z2, if_neg (by omega), if_neg (by omega)]]
                            exact ⟨rfl, rfl, W209.p.tr o1 r1⟩
                          · refine gi_lconst (q := 197) (v := 0) C (dm_Mo_rest 105 rfl) rfl (by decide) ?_
                            refine gi_goto (tgt := 208) C (dm_Mo_rest 106 rfl) (by decide) ?_
                            refine gi_lconst (q := 209) (v := 1) C (dm_Mo_rest 112 rfl) rfl (by decide) ?_
                            rw [eL_1]
                            refine gi_callv 3 (q := 212) C (dm_Mo_rest 113 rfl) rfl my_Mo_set lk_Mo_262 im_Mo_set rfl (c_Mo_set (max x.1 (1 - (-p.1))) (0) 1 (by omega) (by omega) (by omega) (by omega) H1) Ha1 rfl rfl ⟨(Nat.le_of_ble_eq_true rfl), (Nat.le_of_ble_eq_true rfl)⟩ (Nat.le_of_ble_eq_true rfl) ⟨(Nat.le_of_ble_eq_true rfl), (Nat.le_of_ble_eq_true rfl)⟩ (fun r209 n209 h209 e209 => ?_)
                            obtain ⟨rfl, rfl, W209⟩ := e209
                            refine gi_vret C hr (dm_Mo_rest 114 rfl) ?_
                            (try simp (disch := omega) only [lg_cmp_ge, lg_cmp_le, lg_cmp_gt, lg_cmp_lt, lg_cmp_eq, eL_0, eL_1, eL_m1, eL_LO, eL_HI, eL_W, eL_add, eL_sub, eL_mul, eL_neg, eL_lt, eL_le, eL_eq, eL_remN, eL_mod0, ne_eq, Int64.not_lt, Int64.not_le] at c3)
                            (try simp (disch := omega) only [lg_cmp_ge, lg_cmp_le, lg_cmp_gt, lg_cmp_lt, lg_cmp_eq, eL_0, eL_1, eL_m1, eL_LO, eL_HI, eL_W, eL_add, eL_sub, eL_mul, eL_neg, eL_lt, eL_le, eL_eq, eL_remN, eL_mod0, ne_eq, Int64.not_lt, Int64.not_le] at c11)
                            (try simp (disch := omega) only [lg_cmp_ge, lg_cmp_le, lg_cmp_gt, lg_cmp_lt, lg_cmp_eq, eL_0, eL_1, eL_m1, eL_LO, eL_HI, eL_W, eL_add, eL_sub, eL_mul, eL_neg, eL_lt, eL_le, eL_eq, eL_remN, eL_mod0, ne_eq, Int64.not_lt, Int64.not_le] at c147)
                            (try simp (disch := omega) only [lg_cmp_ge, lg_cmp_le, lg_cmp_gt, lg_cmp_lt, lg_cmp_eq, eL_0, eL_1, eL_m1, eL_LO, eL_HI, eL_W, eL_add, eL_sub, eL_mul, eL_neg, eL_lt, eL_le, eL_eq, eL_remN, eL_mod0, ne_eq, Int64.not_lt, Int64.not_le] at c159)
                            (try simp (disch := omega) only [lg_cmp_ge, lg_cmp_le, lg_cmp_gt, lg_cmp_lt, lg_cmp_eq, eL_0, eL_1, eL_m1, eL_LO, eL_HI, eL_W, eL_add, eL_sub, eL_mul, eL_neg, eL_lt, eL_le, eL_eq, eL_remN, eL_mod0, ne_eq, Int64.not_lt, Int64.not_le] at c175)
                            (try simp (disch := omega) only [lg_cmp_ge, lg_cmp_le, lg_cmp_gt, lg_cmp_lt, lg_cmp_eq, eL_0, eL_1, eL_m1, eL_LO, eL_HI, eL_W, eL_add, eL_sub, eL_mul, eL_neg, eL_lt, eL_le, eL_eq, eL_remN, eL_mod0, ne_eq, Int64.not_lt, Int64.not_le] at c193)
                            rw [show restS x d = mkS (max x.1 (1 - (-p.1))) (0) 1 from by
                              unfold restS
                              rw [if_neg n0, if_neg (by omega), z2, if_neg (by omega), if_pos (by omega)]]
                            exact ⟨rfl, rfl, W209.p.tr o1 r1⟩
                        · refine gi_lconst (q := 179) (v := 0) C (dm_Mo_rest 94 rfl) rfl (by decide) ?_
                          refine gi_goto (tgt := 190) C (dm_Mo_rest 95 rfl) (by decide) ?_
                          refine gi_lload_n (q := 191) (i := 3) C (dm_Mo_rest 101 rfl) rfl rfl rfl ?_
                          refine gi_lconst (q := 192) (v := 0) C (dm_Mo_rest 102 rfl) rfl (by decide) ?_
                          refine gi_lcmp (q := 193) C (dm_Mo_rest 103 rfl) rfl ?_
                          refine gi_if_gt (q := 196) (tgt := 200) C (dm_Mo_rest 104 rfl) rfl (by decide) (fun c193 => ?_) (fun c193 => ?_)
                          · refine gi_lload_n (q := 201) (i := 3) C (dm_Mo_rest 107 rfl) rfl rfl rfl ?_
                            refine gi_lload (q := 203) C (dm_Mo_rest 108 rfl) rfl rfl ?_
                            refine gi_lconst (q := 204) (v := 1) C (dm_Mo_rest 109 rfl) rfl (by decide) ?_
                            refine gi_lsub (q := 205) C (dm_Mo_rest 110 rfl) rfl ?_
                            rw [eL_1, eL_sub]
                            refine gi_calls 2 (q := 208) C (dm_Mo_rest 111 rfl) rfl my_Mo_min lk_Mo_252 sm_Mo_min (c_Mo_min x.2.1 (-p.1 - 1) (by omega) (by omega) (by omega) (by omega)) rfl rfl ⟨(Nat.le_of_ble_eq_true rfl), (Nat.le_of_ble_eq_true rfl)⟩ (Nat.le_of_ble_eq_true rfl) ⟨(Nat.le_of_ble_eq_true rfl), (Nat.le_of_ble_eq_true rfl)⟩ (fun r205 n205 h205 e205 => ?_)
                            obtain ⟨rfl, q205, u205⟩ := e205
                            rw [q205, u205]
                            refine gi_lconst (q := 209) (v := 1) C (dm_Mo_rest 112 rfl) rfl (by decide) ?_
                            rw [eL_1]
                            refine gi_callv 3 (q := 212) C (dm_Mo_rest 113 rfl) rfl my_Mo_set lk_Mo_262 im_Mo_set rfl (c_Mo_set (0) (min x.2.1 (-p.1 - 1)) 1 (by omega) (by omega) (by omega) (by omega) H1) Ha1 rfl rfl ⟨(Nat.le_of_ble_eq_true rfl), (Nat.le_of_ble_eq_true rfl)⟩ (Nat.le_of_ble_eq_true rfl) ⟨(Nat.le_of_ble_eq_true rfl), (Nat.le_of_ble_eq_true rfl)⟩ (fun r209 n209 h209 e209 => ?_)
                            obtain ⟨rfl, rfl, W209⟩ := e209
                            refine gi_vret C hr (dm_Mo_rest 114 rfl) ?_
                            (try simp (disch := omega) only [lg_cmp_ge, lg_cmp_le, lg_cmp_gt, lg_cmp_lt, lg_cmp_eq, eL_0, eL_1, eL_m1, eL_LO, eL_HI, eL_W, eL_add, eL_sub, eL_mul, eL_neg, eL_lt, eL_le, eL_eq, eL_remN, eL_mod0, ne_eq, Int64.not_lt, Int64.not_le] at c3)
                            (try simp (disch := omega) only [lg_cmp_ge, lg_cmp_le, lg_cmp_gt, lg_cmp_lt, lg_cmp_eq, eL_0, eL_1, eL_m1, eL_LO, eL_HI, eL_W, eL_add, eL_sub, eL_mul, eL_neg, eL_lt, eL_le, eL_eq, eL_remN, eL_mod0, ne_eq, Int64.not_lt, Int64.not_le] at c11)
                            (try simp (disch := omega) only [lg_cmp_ge, lg_cmp_le, lg_cmp_gt, lg_cmp_lt, lg_cmp_eq, eL_0, eL_1, eL_m1, eL_LO, eL_HI, eL_W, eL_add, eL_sub, eL_mul, eL_neg, eL_lt, eL_le, eL_eq, eL_remN, eL_mod0, ne_eq, Int64.not_lt, Int64.not_le] at c147)
                            (try simp (disch := omega) only [lg_cmp_ge, lg_cmp_le, lg_cmp_gt, lg_cmp_lt, lg_cmp_eq, eL_0, eL_1, eL_m1, eL_LO, eL_HI, eL_W, eL_add, eL_sub, eL_mul, eL_neg, eL_lt, eL_le, eL_eq, eL_remN, eL_mod0, ne_eq, Int64.not_lt, Int64.not_le] at c159)
                            (try simp (disch := omega) only [lg_cmp_ge, lg_cmp_le, lg_cmp_gt, lg_cmp_lt, lg_cmp_eq, eL_0, eL_1, eL_m1, eL_LO, eL_HI, eL_W, eL_add, eL_sub, eL_mul, eL_neg, eL_lt, eL_le, eL_eq, eL_remN, eL_mod0, ne_eq, Int64.not_lt, Int64.not_le] at c175)
                            (try simp (disch := omega) only [lg_cmp_ge, lg_cmp_le, lg_cmp_gt, lg_cmp_lt, lg_cmp_eq, eL_0, eL_1, eL_m1, eL_LO, eL_HI, eL_W, eL_add, eL_sub, eL_mul, eL_neg, eL_lt, eL_le, eL_eq, eL_remN, eL_mod0, ne_eq, Int64.not_lt, Int64.not_le] at c193)
                            rw [show restS x d = mkS (0) (min x.2.1 (-p.1 - 1)) 1 from by
                              unfold restS
                              rw [if_neg n0, if_neg (by omega), z2, if_pos (by omega), if_neg (by omega)]]
                            exact ⟨rfl, rfl, W209.p.tr o1 r1⟩
                          · refine gi_lconst (q := 197) (v := 0) C (dm_Mo_rest 105 rfl) rfl (by decide) ?_
                            refine gi_goto (tgt := 208) C (dm_Mo_rest 106 rfl) (by decide) ?_
                            refine gi_lconst (q := 209) (v := 1) C (dm_Mo_rest 112 rfl) rfl (by decide) ?_
                            rw [eL_1]
                            refine gi_callv 3 (q := 212) C (dm_Mo_rest 113 rfl) rfl my_Mo_set lk_Mo_262 im_Mo_set rfl (c_Mo_set (0) (0) 1 (by omega) (by omega) (by omega) (by omega) H1) Ha1 rfl rfl ⟨(Nat.le_of_ble_eq_true rfl), (Nat.le_of_ble_eq_true rfl)⟩ (Nat.le_of_ble_eq_true rfl) ⟨(Nat.le_of_ble_eq_true rfl), (Nat.le_of_ble_eq_true rfl)⟩ (fun r209 n209 h209 e209 => ?_)
                            obtain ⟨rfl, rfl, W209⟩ := e209
                            refine gi_vret C hr (dm_Mo_rest 114 rfl) ?_
                            (try simp (disch := omega) only [lg_cmp_ge, lg_cmp_le, lg_cmp_gt, lg_cmp_lt, lg_cmp_eq, eL_0, eL_1, eL_m1, eL_LO, eL_HI, eL_W, eL_add, eL_sub, eL_mul, eL_neg, eL_lt, eL_le, eL_eq, eL_remN, eL_mod0, ne_eq, Int64.not_lt, Int64.not_le] at c3)
                            (try simp (disch := omega) only [lg_cmp_ge, lg_cmp_le, lg_cmp_gt, lg_cmp_lt, lg_cmp_eq, eL_0, eL_1, eL_m1, eL_LO, eL_HI, eL_W, eL_add, eL_sub, eL_mul, eL_neg, eL_lt, eL_le, eL_eq, eL_remN, eL_mod0, ne_eq, Int64.not_lt, Int64.not_le] at c11)
                            (try simp (disch := omega) only [lg_cmp_ge, lg_cmp_le, lg_cmp_gt, lg_cmp_lt, lg_cmp_eq, eL_0, eL_1, eL_m1, eL_LO, eL_HI, eL_W, eL_add, eL_sub, eL_mul, eL_neg, eL_lt, eL_le, eL_eq, eL_remN, eL_mod0, ne_eq, Int64.not_lt, Int64.not_le] at c147)
                            (try simp (disch := omega) only [lg_cmp_ge, lg_cmp_le, lg_cmp_gt, lg_cmp_lt, lg_cmp_eq, eL_0, eL_1, eL_m1, eL_LO, eL_HI, eL_W, eL_add, eL_sub, eL_mul, eL_neg, eL_lt, eL_le, eL_eq, eL_remN, eL_mod0, ne_eq, Int64.not_lt, Int64.not_le] at c159)
                            (try simp (disch := omega) only [lg_cmp_ge, lg_cmp_le, lg_cmp_gt, lg_cmp_lt, lg_cmp_eq, eL_0, eL_1, eL_m1, eL_LO, eL_HI, eL_W, eL_add, eL_sub, eL_mul, eL_neg, eL_lt, eL_le, eL_eq, eL_remN, eL_mod0, ne_eq, Int64.not_lt, Int64.not_le] at c175)
                            (try simp (disch := omega) only [lg_cmp_ge, lg_cmp_le, lg_cmp_gt, lg_cmp_lt, lg_cmp_eq, eL_0, eL_1, eL_m1, eL_LO, eL_HI, eL_W, eL_add, eL_sub, eL_mul, eL_neg, eL_lt, eL_le, eL_eq, eL_remN, eL_mod0, ne_eq, Int64.not_lt, Int64.not_le] at c193)
                            rw [show restS x d = mkS (0) (0) 1 from by
                              unfold restS
                              rw [if_neg n0, if_neg (by omega), z2, if_pos (by omega), if_pos (by omega)]]
                            exact ⟨rfl, rfl, W209.p.tr o1 r1⟩
                      · refine gi_lload_n (q := 151) (i := 1) C (dm_Mo_rest 76 rfl) rfl rfl rfl ?_
                        refine gi_lload_n (q := 152) (i := 3) C (dm_Mo_rest 77 rfl) rfl rfl rfl ?_
                        refine gi_lneg (q := 153) C (dm_Mo_rest 78 rfl) rfl ?_
                        rw [eL_neg]
                        refine gi_calls 2 (q := 156) C (dm_Mo_rest 79 rfl) rfl my_Mo_max lk_Mo_256 sm_Mo_max (c_Mo_max x.1 (-x.2.1) (by omega) (by omega) (by omega) (by omega)) rfl rfl ⟨(Nat.le_of_ble_eq_true rfl), (Nat.le_of_ble_eq_true rfl)⟩ (Nat.le_of_ble_eq_true rfl) ⟨(Nat.le_of_ble_eq_true rfl), (Nat.le_of_ble_eq_true rfl)⟩ (fun r153 n153 h153 e153 => ?_)
                        obtain ⟨rfl, q153, u153⟩ := e153
                        rw [q153, u153]
                        refine gi_lload (q := 158) C (dm_Mo_rest 80 rfl) rfl rfl ?_
                        refine gi_lcmp (q := 159) C (dm_Mo_rest 81 rfl) rfl ?_
                        refine gi_if_ge (q := 162) (tgt := 171) C (dm_Mo_rest 82 rfl) rfl (by decide) (fun c159 => ?_) (fun c159 => ?_)
                        · refine gi_aload_n (q := 172) (i := 0) C (dm_Mo_rest 89 rfl) rfl rfl rfl ?_
                          refine gi_lload_n (q := 173) (i := 1) C (dm_Mo_rest 90 rfl) rfl rfl rfl ?_
                          refine gi_lconst (q := 174) (v := 0) C (dm_Mo_rest 91 rfl) rfl (by decide) ?_
                          refine gi_lcmp (q := 175) C (dm_Mo_rest 92 rfl) rfl ?_
                          refine gi_if_lt (q := 178) (tgt := 182) C (dm_Mo_rest 93 rfl) rfl (by decide) (fun c175 => ?_) (fun c175 => ?_)
                          · refine gi_lload_n (q := 183) (i := 1) C (dm_Mo_rest 96 rfl) rfl rfl rfl ?_
                            refine gi_lconst (q := 184) (v := 1) C (dm_Mo_rest 97 rfl) rfl (by decide) ?_
                            refine gi_lload (q := 186) C (dm_Mo_rest 98 rfl) rfl rfl ?_
                            refine gi_lsub (q := 187) C (dm_Mo_rest 99 rfl) rfl ?_
                            rw [eL_1, eL_sub]
                            refine gi_calls 2 (q := 190) C (dm_Mo_rest 100 rfl) rfl my_Mo_max lk_Mo_256 sm_Mo_max (c_Mo_max x.1 (1 - (-p.1)) (by omega) (by omega) (by omega) (by omega)) rfl rfl ⟨(Nat.le_of_ble_eq_true rfl), (Nat.le_of_ble_eq_true rfl)⟩ (Nat.le_of_ble_eq_true rfl) ⟨(Nat.le_of_ble_eq_true rfl), (Nat.le_of_ble_eq_true rfl)⟩ (fun r187 n187 h187 e187 => ?_)
                            obtain ⟨rfl, q187, u187⟩ := e187
                            rw [q187, u187]
                            refine gi_lload_n (q := 191) (i := 3) C (dm_Mo_rest 101 rfl) rfl rfl rfl ?_
                            refine gi_lconst (q := 192) (v := 0) C (dm_Mo_rest 102 rfl) rfl (by decide) ?_
                            refine gi_lcmp (q := 193) C (dm_Mo_rest 103 rfl) rfl ?_
                            refine gi_if_gt (q := 196) (tgt := 200) C (dm_Mo_rest 104 rfl) rfl (by decide) (fun c193 => ?_) (fun c193 => ?_)
                            · refine gi_lload_n (q := 201) (i := 3) C (dm_Mo_rest 107 rfl) rfl rfl rfl ?_
                              refine gi_lload (q := 203) C (dm_Mo_rest 108 rfl) rfl rfl ?_
                              refine gi_lconst (q := 204) (v := 1) C (dm_Mo_rest 109 rfl) rfl (by decide) ?_
                              refine gi_lsub (q := 205) C (dm_Mo_rest 110 rfl) rfl ?_
                              rw [eL_1, eL_sub]
                              refine gi_calls 2 (q := 208) C (dm_Mo_rest 111 rfl) rfl my_Mo_min lk_Mo_252 sm_Mo_min (c_Mo_min x.2.1 (-p.1 - 1) (by omega) (by omega) (by omega) (by omega)) rfl rfl ⟨(Nat.le_of_ble_eq_true rfl), (Nat.le_of_ble_eq_true rfl)⟩ (Nat.le_of_ble_eq_true rfl) ⟨(Nat.le_of_ble_eq_true rfl), (Nat.le_of_ble_eq_true rfl)⟩ (fun r205 n205 h205 e205 => ?_)
                              obtain ⟨rfl, q205, u205⟩ := e205
                              rw [q205, u205]
                              refine gi_lconst (q := 209) (v := 1) C (dm_Mo_rest 112 rfl) rfl (by decide) ?_
                              rw [eL_1]
                              refine gi_callv 3 (q := 212) C (dm_Mo_rest 113 rfl) rfl my_Mo_set lk_Mo_262 im_Mo_set rfl (c_Mo_set (max x.1 (1 - (-p.1))) (min x.2.1 (-p.1 - 1)) 1 (by omega) (by omega) (by omega) (by omega) H1) Ha1 rfl rfl ⟨(Nat.le_of_ble_eq_true rfl), (Nat.le_of_ble_eq_true rfl)⟩ (Nat.le_of_ble_eq_true rfl) ⟨(Nat.le_of_ble_eq_true rfl), (Nat.le_of_ble_eq_true rfl)⟩ (fun r209 n209 h209 e209 => ?_)
                              obtain ⟨rfl, rfl, W209⟩ := e209
                              refine gi_vret C hr (dm_Mo_rest 114 rfl) ?_
                              (try simp (disch := omega) only [lg_cmp_ge, lg_cmp_le, lg_cmp_gt, lg_cmp_lt, lg_cmp_eq, eL_0, eL_1, eL_m1, eL_LO, eL_HI, eL_W, eL_add, eL_sub, eL_mul, eL_neg, eL_lt, eL_le, eL_eq, eL_remN, eL_mod0, ne_eq, Int64.not_lt, Int64.not_le] at c3)
                              (try simp (disch := omega) only [lg_cmp_ge, lg_cmp_le, lg_cmp_gt, lg_cmp_lt, lg_cmp_eq, eL_0, eL_1, eL_m1, eL_LO, eL_HI, eL_W, eL_add, eL_sub, eL_mul, eL_neg, eL_lt, eL_le, eL_eq, eL_remN, eL_mod0, ne_eq, Int64.not_lt, Int64.not_le] at c11)
                              (try simp (disch := omega) only [lg_cmp_ge, lg_cmp_le, lg_cmp_gt, lg_cmp_lt, lg_cmp_eq, eL_0, eL_1, eL_m1, eL_LO, eL_HI, eL_W, eL_add, eL_sub, eL_mul, eL_neg, eL_lt, eL_le, eL_eq, eL_remN, eL_mod0, ne_eq, Int64.not_lt, Int64.not_le] at c147)
                              (try simp (disch := omega) only [lg_cmp_ge, lg_cmp_le, lg_cmp_gt, lg_cmp_lt, lg_cmp_eq, eL_0, eL_1, eL_m1, eL_LO, eL_HI, eL_W, eL_add, eL_sub, eL_mul, eL_neg, eL_lt, eL_le, eL_eq, eL_remN, eL_mod0, ne_eq, Int64.not_lt, Int64.not_le] at c159)
                              (try simp (disch := omega) only [lg_cmp_ge, lg_cmp_le, lg_cmp_gt, lg_cmp_lt, lg_cmp_eq, eL_0, eL_1, eL_m1, eL_LO, eL_HI, eL_W, eL_add, eL_sub, eL_mul, eL_neg, eL_lt, eL_le, eL_eq, eL_remN, eL_mod0, ne_eq, Int64.not_lt, Int64.not_le] at c175)
                              (try simp (disch := omega) only [lg_cmp_ge, lg_cmp_le, lg_cmp_gt, lg_cmp_lt, lg_cmp_eq, eL_0, eL_1, eL_m1, eL_LO, eL_HI, eL_W, eL_add, eL_sub, eL_mul, eL_neg, eL_lt, eL_le, eL_eq, eL_remN, eL_mod0, ne_eq, Int64.not_lt, Int64.not_le] at c193)
                              rw [show restS x d = mkS (max x.1 (1 - (-p.1))) (min x.2.1 (-p.1 - 1)) 1 from by
                                unfold restS
                                rw [if_neg n0, if_neg (by omega), z2, if_neg (by omega), if_neg (by omega)]]
                              exact ⟨rfl, rfl, W209.p.tr o1 r1⟩
                            · refine gi_lconst (q := 197) (v := 0) C (dm_Mo_rest 105 rfl) rfl (by decide) ?_
                              refine gi_goto (tgt := 208) C (dm_Mo_rest 106 rfl) (by decide) ?_
                              refine gi_lconst (q := 209) (v := 1) C (dm_Mo_rest 112 rfl) rfl (by decide) ?_
                              rw [eL_1]
                              refine gi_callv 3 (q := 212) C (dm_Mo_rest 113 rfl) rfl my_Mo_set lk_Mo_262 im_Mo_set rfl (c_Mo_set (max x.1 (1 - (-p.1))) (0) 1 (by omega) (by omega) (by omega) (by omega) H1) Ha1 rfl rfl ⟨(Nat.le_of_ble_eq_true rfl), (Nat.le_of_ble_eq_true rfl)⟩ (Nat.le_of_ble_eq_true rfl) ⟨(Nat.le_of_ble_eq_true rfl), (Nat.le_of_ble_eq_true rfl)⟩ (fun r209 n209 h209 e209 => ?_)
                              obtain ⟨rfl, rfl, W209⟩ := e209
                              refine gi_vret C hr (dm_Mo_rest 114 rfl) ?_
                              (try simp (disch := omega) only [lg_cmp_ge, lg_cmp_le, lg_cmp_gt, lg_cmp_lt, lg_cmp_eq, eL_0, eL_1, eL_m1, eL_LO, eL_HI, eL_W, eL_add, eL_sub, eL_mul, eL_neg, eL_lt, eL_le, eL_eq, eL_remN, eL_mod0, ne_eq, Int64.not_lt, Int64.not_le] at c3)
                              (try simp (disch := omega) only [lg_cmp_ge, lg_cmp_le, lg_cmp_gt, lg_cmp_lt, lg_cmp_eq, eL_0, eL_1, eL_m1, eL_LO, eL_HI, eL_W, eL_add, eL_sub, eL_mul, eL_neg, eL_lt, eL_le, eL_eq, eL_remN, eL_mod0, ne_eq, Int64.not_lt, Int64.not_le] at c11)
                              (try simp (disch := omega) only [lg_cmp_ge, lg_cmp_le, lg_cmp_gt, lg_cmp_lt, lg_cmp_eq, eL_0, eL_1, eL_m1, eL_LO, eL_HI, eL_W, eL_add, eL_sub, eL_mul, eL_neg, eL_lt, eL_le, eL_eq, eL_remN, eL_mod0, ne_eq, Int64.not_lt, Int64.not_le] at c147)
                              (try simp (disch := omega) only [lg_cmp_ge, lg_cmp_le, lg_cmp_gt, lg_cmp_lt, lg_cmp_eq, eL_0, eL_1, eL_m1, eL_LO, eL_HI, eL_W, eL_add, eL_sub, eL_mul, eL_neg, eL_lt, eL_le, eL_eq, eL_remN, eL_mod0, ne_eq, Int64.not_lt, Int64.not_le] at c159)
                              (try simp (disch := omega) only [lg_cmp_ge, lg_cmp_le, lg_cmp_gt, lg_cmp_lt, lg_cmp_eq, eL_0, eL_1, eL_m1, eL_LO, eL_HI, eL_W, eL_add, eL_sub, eL_mul, eL_neg, eL_lt, eL_le, eL_eq, eL_remN, eL_mod0, ne_eq, Int64.not_lt, Int64.not_le] at c175)
                              (try simp (disch := omega) only [lg_cmp_ge, lg_cmp_le, lg_cmp_gt, lg_cmp_lt, lg_cmp_eq, eL_0, eL_1, eL_m1, eL_LO, eL_HI, eL_W, eL_add, eL_sub, eL_mul, eL_neg, eL_lt, eL_le, eL_eq, eL_remN, eL_mod0, ne_eq, Int64.not_lt, Int64.not_le] at c193)
                              rw [show restS x d = mkS (max x.1 (1 - (-p.1))) (0) 1 from by
                                unfold restS
                                rw [if_neg n0, if_neg (by omega), z2, if_neg (by omega), if_pos (by omega)]]
                              exact ⟨rfl, rfl, W209.p.tr o1 r1⟩
                          · refine gi_lconst (q := 179) (v := 0) C (dm_Mo_rest 94 rfl) rfl (by decide) ?_
                            refine gi_goto (tgt := 190) C (dm_Mo_rest 95 rfl) (by decide) ?_
                            refine gi_lload_n (q := 191) (i := 3) C (dm_Mo_rest 101 rfl) rfl rfl rfl ?_
                            refine gi_lconst (q := 192) (v := 0) C (dm_Mo_rest 102 rfl) rfl (by decide) ?_
                            refine gi_lcmp (q := 193) C (dm_Mo_rest 103 rfl) rfl ?_
                            refine gi_if_gt (q := 196) (tgt := 200) C (dm_Mo_rest 104 rfl) rfl (by decide) (fun c193 => ?_) (fun c193 => ?_)
                            · refine gi_lload_n (q := 201) (i := 3) C (dm_Mo_rest 107 rfl) rfl rfl rfl ?_
                              refine gi_lload (q := 203) C (dm_Mo_rest 108 rfl) rfl rfl ?_
                              refine gi_lconst (q := 204) (v := 1) C (dm_Mo_rest 109 rfl) rfl (by decide) ?_
                              refine gi_lsub (q := 205) C (dm_Mo_rest 110 rfl) rfl ?_
                              rw [eL_1, eL_sub]
                              refine gi_calls 2 (q := 208) C (dm_Mo_rest 111 rfl) rfl my_Mo_min lk_Mo_252 sm_Mo_min (c_Mo_min x.2.1 (-p.1 - 1) (by omega) (by omega) (by omega) (by omega)) rfl rfl ⟨(Nat.le_of_ble_eq_true rfl), (Nat.le_of_ble_eq_true rfl)⟩ (Nat.le_of_ble_eq_true rfl) ⟨(Nat.le_of_ble_eq_true rfl), (Nat.le_of_ble_eq_true rfl)⟩ (fun r205 n205 h205 e205 => ?_)
                              obtain ⟨rfl, q205, u205⟩ := e205
                              rw [q205, u205]
                              refine gi_lconst (q := 209) (v := 1) C (dm_Mo_rest 112 rfl) rfl (by decide) ?_
                              rw [eL_1]
                              refine gi_callv 3 (q := 212) C (dm_Mo_rest 113 rfl) rfl my_Mo_set lk_Mo_262 im_Mo_set rfl (c_Mo_set (0) (min x.2.1 (-p.1 - 1)) 1 (by omega) (by omega) (by omega) (by omega) H1) Ha1 rfl rfl ⟨(Nat.le_of_ble_eq_true rfl), (Nat.le_of_ble_eq_true rfl)⟩ (Nat.le_of_ble_eq_true rfl) ⟨(Nat.le_of_ble_eq_true rfl), (Nat.le_of_ble_eq_true rfl)⟩ (fun r209 n209 h209 e209 => ?_)
                              obtain ⟨rfl, rfl, W209⟩ := e209
                              refine gi_vret C hr (dm_Mo_rest 114 rfl) ?_
                              (try simp (disch := omega) only [lg_cmp_ge, lg_cmp_le, lg_cmp_gt, lg_cmp_lt, lg_cmp_eq, eL_0, eL_1, eL_m1, eL_LO, eL_HI, eL_W, eL_add, eL_sub, eL_mul, eL_neg, eL_lt, eL_le, eL_eq, eL_remN, eL_mod0, ne_eq, Int64.not_lt, Int64.not_le] at c3)
                              (try simp (disch := omega) only [lg_cmp_ge, lg_cmp_le, lg_cmp_gt, lg_cmp_lt, lg_cmp_eq, eL_0, eL_1, eL_m1, eL_LO, eL_HI, eL_W, eL_add, eL_sub, eL_mul, eL_neg, eL_lt, eL_le, eL_eq, eL_remN, eL_mod0, ne_eq, Int64.not_lt, Int64.not_le] at c11)
                              (try simp (disch := omega) only [lg_cmp_ge, lg_cmp_le, lg_cmp_gt, lg_cmp_lt, lg_cmp_eq, eL_0, eL_1, eL_m1, eL_LO, eL_HI, eL_W, eL_add, eL_sub, eL_mul, eL_neg, eL_lt, eL_le, eL_eq, eL_remN, eL_mod0, ne_eq, Int64.not_lt, Int64.not_le] at c147)
                              (try simp (disch := omega) only [lg_cmp_ge, lg_cmp_le, lg_cmp_gt, lg_cmp_lt, lg_cmp_eq, eL_0, eL_1, eL_m1, eL_LO, eL_HI, eL_W, eL_add, eL_sub, eL_mul, eL_neg, eL_lt, eL_le, eL_eq, eL_remN, eL_mod0, ne_eq, Int64.not_lt, Int64.not_le] at c159)
                              (try simp (disch := omega) only [lg_cmp_ge, lg_cmp_le, lg_cmp_gt, lg_cmp_lt, lg_cmp_eq, eL_0, eL_1, eL_m1, eL_LO, eL_HI, eL_W, eL_add, eL_sub, eL_mul, eL_neg, eL_lt, eL_le, eL_eq, eL_remN, eL_mod0, ne_eq, Int64.not_lt, Int64.not_le] at c175)
                              (try simp (disch := omega) only [lg_cmp_ge, lg_cmp_le, lg_cmp_gt, lg_cmp_lt, lg_cmp_eq, eL_0, eL_1, eL_m1, eL_LO, eL_HI, eL_W, eL_add, eL_sub, eL_mul, eL_neg, eL_lt, eL_le, eL_eq, eL_remN, eL_mod0, ne_eq, Int64.not_lt, Int64.not_le] at c193)
                              rw [show restS x d = mkS (0) (min x.2.1 (-p.1 - 1)) 1 from by
                                unfold restS
                                rw [if_neg n0, if_neg (by omega), z2, if_pos (by omega), if_neg (by omega)]]
                              exact ⟨rfl, rfl, W209.p.tr o1 r1⟩
                            · refine gi_lconst (q := 197) (v := 0) C (dm_Mo_rest 105 rfl) rfl (by decide) ?_
                              refine gi_goto (tgt := 208) C (dm_Mo_rest 106 rfl) (by decide) ?_
                              refine gi_lconst (q := 209) (v := 1) C (dm_Mo_rest 112 rfl) rfl (by decide) ?_
                              rw [eL_1]
                              refine gi_callv 3 (q := 212) C (dm_Mo_rest 113 rfl) rfl my_Mo_set lk_Mo_262 im_Mo_set rfl (c_Mo_set (0) (0) 1 (by omega) (by omega) (by omega) (by omega) H1) Ha1 rfl rfl ⟨(Nat.le_of_ble_eq_true rfl), (Nat.le_of_ble_eq_true rfl)⟩ (Nat.le_of_ble_eq_true rfl) ⟨(Nat.le_of_ble_eq_true rfl), (Nat.le_of_ble_eq_true rfl)⟩ (fun r209 n209 h209 e209 => ?_)
                              obtain ⟨rfl, rfl, W209⟩ := e209
                              refine gi_vret C hr (dm_Mo_rest 114 rfl) ?_
                              (try simp (disch := omega) only [lg_cmp_ge, lg_cmp_le, lg_cmp_gt, lg_cmp_lt, lg_cmp_eq, eL_0, eL_1, eL_m1, eL_LO, eL_HI, eL_W, eL_add, eL_sub, eL_mul, eL_neg, eL_lt, eL_le, eL_eq, eL_remN, eL_mod0, ne_eq, Int64.not_lt, Int64.not_le] at c3)
                              (try simp (disch := omega) only [lg_cmp_ge, lg_cmp_le, lg_cmp_gt, lg_cmp_lt, lg_cmp_eq, eL_0, eL_1, eL_m1, eL_LO, eL_HI, eL_W, eL_add, eL_sub, eL_mul, eL_neg, eL_lt, eL_le, eL_eq, eL_remN, eL_mod0, ne_eq, Int64.not_lt, Int64.not_le] at c11)
                              (try simp (disch := omega) only [lg_cmp_ge, lg_cmp_le, lg_cmp_gt, lg_cmp_lt, lg_cmp_eq, eL_0, eL_1, eL_m1, eL_LO, eL_HI, eL_W, eL_add, eL_sub, eL_mul, eL_neg, eL_lt, eL_le, eL_eq, eL_remN, eL_mod0, ne_eq, Int64.not_lt, Int64.not_le] at c147)
                              (try simp (disch := omega) only [lg_cmp_ge, lg_cmp_le, lg_cmp_gt, lg_cmp_lt, lg_cmp_eq, eL_0, eL_1, eL_m1, eL_LO, eL_HI, eL_W, eL_add, eL_sub, eL_mul, eL_neg, eL_lt, eL_le, eL_eq, eL_remN, eL_mod0, ne_eq, Int64.not_lt, Int64.not_le] at c159)
                              (try simp (disch := omega) only [lg_cmp_ge, lg_cmp_le, lg_cmp_gt, lg_cmp_lt, lg_cmp_eq, eL_0, eL_1, eL_m1, eL_LO, eL_HI, eL_W, eL_add, eL_sub, eL_mul, eL_neg, eL_lt, eL_le, eL_eq, eL_remN, eL_mod0, ne_eq, Int64.not_lt, Int64.not_le] at c175)
                              (try simp (disch := omega) only [lg_cmp_ge, lg_cmp_le, lg_cmp_gt, lg_cmp_lt, lg_cmp_eq, eL_0, eL_1, eL_m1, eL_LO, eL_HI, eL_W, eL_add, eL_sub, eL_mul, eL_neg, eL_lt, eL_le, eL_eq, eL_remN, eL_mod0, ne_eq, Int64.not_lt, Int64.not_le] at c193)
                              rw [show restS x d = mkS (0) (0) 1 from by
                                unfold restS
                                rw [if_neg n0, if_neg (by omega), z2, if_pos (by omega), if_pos (by omega)]]
                              exact ⟨rfl, rfl, W209.p.tr o1 r1⟩
                        · refine gi_aload_n (q := 163) (i := 0) C (dm_Mo_rest 83 rfl) rfl rfl rfl ?_
                          refine gi_lload_n (q := 164) (i := 1) C (dm_Mo_rest 84 rfl) rfl rfl rfl ?_
                          refine gi_lload_n (q := 165) (i := 3) C (dm_Mo_rest 85 rfl) rfl rfl rfl ?_
                          refine gi_lload (q := 167) C (dm_Mo_rest 86 rfl) rfl rfl ?_
                          refine gi_callv 3 (q := 170) C (dm_Mo_rest 87 rfl) rfl my_Mo_set lk_Mo_262 im_Mo_set rfl (c_Mo_set (x.1) (x.2.1) (x.2.2) (by omega) (by omega) (by omega) (by omega) H1) Ha1 rfl rfl ⟨(Nat.le_of_ble_eq_true rfl), (Nat.le_of_ble_eq_true rfl)⟩ (Nat.le_of_ble_eq_true rfl) ⟨(Nat.le_of_ble_eq_true rfl), (Nat.le_of_ble_eq_true rfl)⟩ (fun r167 n167 h167 e167 => ?_)
                          obtain ⟨rfl, rfl, W167⟩ := e167
                          refine gi_vret C hr (dm_Mo_rest 88 rfl) ?_
                          (try simp (disch := omega) only [lg_cmp_ge, lg_cmp_le, lg_cmp_gt, lg_cmp_lt, lg_cmp_eq, eL_0, eL_1, eL_m1, eL_LO, eL_HI, eL_W, eL_add, eL_sub, eL_mul, eL_neg, eL_lt, eL_le, eL_eq, eL_remN, eL_mod0, ne_eq, Int64.not_lt, Int64.not_le] at c3)
                          (try simp (disch := omega) only [lg_cmp_ge, lg_cmp_le, lg_cmp_gt, lg_cmp_lt, lg_cmp_eq, eL_0, eL_1, eL_m1, eL_LO, eL_HI, eL_W, eL_add, eL_sub, eL_mul, eL_neg, eL_lt, eL_le, eL_eq, eL_remN, eL_mod0, ne_eq, Int64.not_lt, Int64.not_le] at c11)
                          (try simp (disch := omega) only [lg_cmp_ge, lg_cmp_le, lg_cmp_gt, lg_cmp_lt, lg_cmp_eq, eL_0, eL_1, eL_m1, eL_LO, eL_HI, eL_W, eL_add, eL_sub, eL_mul, eL_neg, eL_lt, eL_le, eL_eq, eL_remN, eL_mod0, ne_eq, Int64.not_lt, Int64.not_le] at c147)
                          (try simp (disch := omega) only [lg_cmp_ge, lg_cmp_le, lg_cmp_gt, lg_cmp_lt, lg_cmp_eq, eL_0, eL_1, eL_m1, eL_LO, eL_HI, eL_W, eL_add, eL_sub, eL_mul, eL_neg, eL_lt, eL_le, eL_eq, eL_remN, eL_mod0, ne_eq, Int64.not_lt, Int64.not_le] at c159)
                          (try simp (disch := omega) only [lg_cmp_ge, lg_cmp_le, lg_cmp_gt, lg_cmp_lt, lg_cmp_eq, eL_0, eL_1, eL_m1, eL_LO, eL_HI, eL_W, eL_add, eL_sub, eL_mul, eL_neg, eL_lt, eL_le, eL_eq, eL_remN, eL_mod0, ne_eq, Int64.not_lt, Int64.not_le] at c175)
                          (try simp (disch := omega) only [lg_cmp_ge, lg_cmp_le, lg_cmp_gt, lg_cmp_lt, lg_cmp_eq, eL_0, eL_1, eL_m1, eL_LO, eL_HI, eL_W, eL_add, eL_sub, eL_mul, eL_neg, eL_lt, eL_le, eL_eq, eL_remN, eL_mod0, ne_eq, Int64.not_lt, Int64.not_le] at c193)
                          rw [show restS x d = mkS x.1 x.2.1 x.2.2 from by
                            unfold restS
                            rw [if_neg n0, if_pos (by omega), mkS_id hx]]
                          exact ⟨rfl, rfl, W167.p.tr o1 r1⟩
                  · exact absurd t30 c99
            · exact absurd t30 c49
        · rw [ep] at t30
          have t30 : S1 30 = 1 := t30
          obtain ⟨k25, k26⟩ := tn p en
          have bn := part_n hd en
          obtain ⟨k27, k28⟩ := tp q ep
          have bp := part_p hd ep
          have z1 : sizL d = min (-p.2.1) q.1 := by
            unfold sizL
            rw [en, ep]
          have z2 : sizH d = max (-p.1) q.2.1 := by
            unfold sizH
            rw [en, ep]
          refine gi_aload_n (q := 39) (i := 0) C (dm_Mo_rest 23 rfl) rfl rfl rfl ?_
          refine gi_get (q := 42) C (dm_Mo_rest 24 rfl) rfl fl_Mo_321 Ha1 (mo_g29 Hf1) ?_
          refine gi_if_eq (q := 45) (tgt := 67) C (dm_Mo_rest 25 rfl) rfl (by decide) (fun c42 => ?_) (fun c42 => ?_)
          · exact absurd c42 (by rw [t29]; decide)
          · refine gi_aload_n (q := 46) (i := 0) C (dm_Mo_rest 26 rfl) rfl rfl rfl ?_
            refine gi_get (q := 49) C (dm_Mo_rest 27 rfl) rfl fl_Mo_330 Ha1 (mo_g30 Hf1) ?_
            refine gi_if_eq (q := 52) (tgt := 67) C (dm_Mo_rest 28 rfl) rfl (by decide) (fun c49 => ?_) (fun c49 => ?_)
            · exact absurd c49 (by rw [t30]; decide)
            · refine gi_aload_n (q := 53) (i := 0) C (dm_Mo_rest 29 rfl) rfl rfl rfl ?_
              refine gi_get (q := 56) C (dm_Mo_rest 30 rfl) rfl fl_Mo_327 Ha1 (mo_g26 Hf1) ?_
              rw [k26]
              refine gi_lneg (q := 57) C (dm_Mo_rest 31 rfl) rfl ?_
              rw [eL_neg]
              refine gi_aload_n (q := 58) (i := 0) C (dm_Mo_rest 32 rfl) rfl rfl rfl ?_
              refine gi_get (q := 61) C (dm_Mo_rest 33 rfl) rfl fl_Mo_333 Ha1 (mo_g27 Hf1) ?_
              rw [k27]
              refine gi_calls 2 (q := 64) C (dm_Mo_rest 34 rfl) rfl my_Mo_min lk_Mo_252 sm_Mo_min (c_Mo_min (-p.2.1) q.1 (by omega) (by omega) (by omega) (by omega)) rfl rfl ⟨(Nat.le_of_ble_eq_true rfl), (Nat.le_of_ble_eq_true rfl)⟩ (Nat.le_of_ble_eq_true rfl) ⟨(Nat.le_of_ble_eq_true rfl), (Nat.le_of_ble_eq_true rfl)⟩ (fun r61 n61 h61 e61 => ?_)
              obtain ⟨rfl, q61, u61⟩ := e61
              rw [q61, u61]
              refine gi_goto (tgt := 86) C (dm_Mo_rest 35 rfl) (by decide) ?_
              skip
              refine gi_lstore (q := 88) C (dm_Mo_rest 45 rfl) rfl (Nat.le_of_ble_eq_true rfl) ?_
              refine gi_aload_n (q := 89) (i := 0) C (dm_Mo_rest 46 rfl) rfl rfl rfl ?_
              refine gi_get (q := 92) C (dm_Mo_rest 47 rfl) rfl fl_Mo_321 Ha1 (mo_g29 Hf1) ?_
              refine gi_if_eq (q := 95) (tgt := 117) C (dm_Mo_rest 48 rfl) rfl (by decide) (fun c92 => ?_) (fun c92 => ?_)
              · exact absurd c92 (by rw [t29]; decide)
              · refine gi_aload_n (q := 96) (i := 0) C (dm_Mo_rest 49 rfl) rfl rfl rfl ?_
                refine gi_get (q := 99) C (dm_Mo_rest 50 rfl) rfl fl_Mo_330 Ha1 (mo_g30 Hf1) ?_
                refine gi_if_eq (q := 102) (tgt := 117) C (dm_Mo_rest 51 rfl) rfl (by decide) (fun c99 => ?_) (fun c99 => ?_)
                · exact absurd c99 (by rw [t30]; decide)
                · refine gi_aload_n (q := 103) (i := 0) C (dm_Mo_rest 52 rfl) rfl rfl rfl ?_
                  refine gi_get (q := 106) C (dm_Mo_rest 53 rfl) rfl fl_Mo_324 Ha1 (mo_g25 Hf1) ?_
                  rw [k25]
                  refine gi_lneg (q := 107) C (dm_Mo_rest 54 rfl) rfl ?_
                  rw [eL_neg]
                  refine gi_aload_n (q := 108) (i := 0) C (dm_Mo_rest 55 rfl) rfl rfl rfl ?_
                  refine gi_get (q := 111) C (dm_Mo_rest 56 rfl) rfl fl_Mo_336 Ha1 (mo_g28 Hf1) ?_
                  rw [k28]
                  refine gi_calls 2 (q := 114) C (dm_Mo_rest 57 rfl) rfl my_Mo_max lk_Mo_256 sm_Mo_max (c_Mo_max (-p.1) q.2.1 (by omega) (by omega) (by omega) (by omega)) rfl rfl ⟨(Nat.le_of_ble_eq_true rfl), (Nat.le_of_ble_eq_true rfl)⟩ (Nat.le_of_ble_eq_true rfl) ⟨(Nat.le_of_ble_eq_true rfl), (Nat.le_of_ble_eq_true rfl)⟩ (fun r111 n111 h111 e111 => ?_)
                  obtain ⟨rfl, q111, u111⟩ := e111
                  rw [q111, u111]
                  refine gi_goto (tgt := 136) C (dm_Mo_rest 58 rfl) (by decide) ?_
                  refine gi_lstore (q := 138) C (dm_Mo_rest 68 rfl) rfl (Nat.le_of_ble_eq_true rfl) ?_
                  refine gi_lload_n (q := 139) (i := 1) C (dm_Mo_rest 69 rfl) rfl rfl rfl ?_
                  refine gi_lneg (q := 140) C (dm_Mo_rest 70 rfl) rfl ?_
                  rw [eL_neg]
                  refine gi_lload_n (q := 141) (i := 3) C (dm_Mo_rest 71 rfl) rfl rfl rfl ?_
                  refine gi_calls 2 (q := 144) C (dm_Mo_rest 72 rfl) rfl my_Mo_max lk_Mo_256 sm_Mo_max (c_Mo_max (-x.1) x.2.1 (by omega) (by omega) (by omega) (by omega)) rfl rfl ⟨(Nat.le_of_ble_eq_true rfl), (Nat.le_of_ble_eq_true rfl)⟩ (Nat.le_of_ble_eq_true rfl) ⟨(Nat.le_of_ble_eq_true rfl), (Nat.le_of_ble_eq_true rfl)⟩ (fun r141 n141 h141 e141 => ?_)
                  obtain ⟨rfl, q141, u141⟩ := e141
                  rw [q141, u141]
                  refine gi_lload (q := 146) C (dm_Mo_rest 73 rfl) rfl rfl ?_
                  refine gi_lcmp (q := 147) C (dm_Mo_rest 74 rfl) rfl ?_
                  refine gi_if_ge (q := 150) (tgt := 171) C (dm_Mo_rest 75 rfl) rfl (by decide) (fun c147 => ?_) (fun c147 => ?_)
                  · refine gi_aload_n (q := 172) (i := 0) C (dm_Mo_rest 89 rfl) rfl rfl rfl ?_
                    refine gi_lload_n (q := 173) (i := 1) C (dm_Mo_rest 90 rfl) rfl rfl rfl ?_
                    refine gi_lconst (q := 174) (v := 0) C (dm_Mo_rest 91 rfl) rfl (by decide) ?_
                    refine gi_lcmp (q := 175) C (dm_Mo_rest 92 rfl) rfl ?_
                    refine gi_if_lt (q := 178) (tgt := 182) C (dm_Mo_rest 93 rfl) rfl (by decide) (fun c175 => ?_) (fun c175 => ?_)
                    · refine gi_lload_n (q := 183) (i := 1) C (dm_Mo_rest 96 rfl) rfl rfl rfl ?_
                      refine gi_lconst (q := 184) (v := 1) C (dm_Mo_rest 97 rfl) rfl (by decide) ?_
                      refine gi_lload (q := 186) C (dm_Mo_rest 98 rfl) rfl rfl ?_
                      refine gi_lsub (q := 187) C (dm_Mo_rest 99 rfl) rfl ?_
                      rw [eL_1, eL_sub]
                      refine gi_calls 2 (q := 190) C (dm_Mo_rest 100 rfl) rfl my_Mo_max lk_Mo_256 sm_Mo_max (c_Mo_max x.1 (1 - (max (-p.1) q.2.1)) (by omega) (by omega) (by omega) (by omega)) rfl rfl ⟨(Nat.le_of_ble_eq_true rfl), (Nat.le_of_ble_eq_true rfl)⟩ (Nat.le_of_ble_eq_true rfl) ⟨(Nat.le_of_ble_eq_true rfl), (Nat.le_of_ble_eq_true rfl)⟩ (fun r187 n187 h187 e187 => ?_)
                      obtain ⟨rfl, q187, u187⟩ := e187
                      rw [q187, u187]
                      refine gi_lload_n (q := 191) (i := 3) C (dm_Mo_rest 101 rfl) rfl rfl rfl ?_
                      refine gi_lconst (q := 192) (v := 0) C (dm_Mo_rest 102 rfl) rfl (by decide) ?_
                      refine gi_lcmp (q := 193) C (dm_Mo_rest 103 rfl) rfl ?_
                      refine gi_if_gt (q := 196) (tgt := 200) C (dm_Mo_rest 104 rfl) rfl (by decide) (fun c193 => ?_) (fun c193 => ?_)
                      · refine gi_lload_n (q := 201) (i := 3) C (dm_Mo_rest 107 rfl) rfl rfl rfl ?_
                        refine gi_lload (q := 203) C (dm_Mo_rest 108 rfl) rfl rfl ?_
                        refine gi_lconst (q := 204) (v := 1) C (dm_Mo_rest 109 rfl) rfl (by decide) ?_
                        refine gi_lsub (q := 205) C (dm_Mo_rest 110 rfl) rfl ?_
                        rw [eL_1, eL_sub]
                        refine gi_calls 2 (q := 208) C (dm_Mo_rest 111 rfl) rfl my_Mo_min lk_Mo_252 sm_Mo_min (c_Mo_min x.2.1 (max (-p.1) q.2.1 - 1) (by omega) (by omega) (by omega) (by omega)) rfl rfl ⟨(Nat.le_of_ble_eq_true rfl), (Nat.le_of_ble_eq_true rfl)⟩ (Nat.le_of_ble_eq_true rfl) ⟨(Nat.le_of_ble_eq_true rfl), (Nat.le_of_ble_eq_true rfl)⟩ (fun r205 n205 h205 e205 => ?_)
                        obtain ⟨rfl, q205, u205⟩ := e205
                        rw [q205, u205]
                        refine gi_lconst (q := 209) (v := 1) C (dm_Mo_rest 112 rfl) rfl (by decide) ?_
                        rw [eL_1]
                        refine gi_callv 3 (q := 212) C (dm_Mo_rest 113 rfl) rfl my_Mo_set lk_Mo_262 im_Mo_set rfl (c_Mo_set (max x.1 (1 - (max (-p.1) q.2.1))) (min x.2.1 (max (-p.1) q.2.1 - 1)) 1 (by omega) (by omega) (by omega) (by omega) H1) Ha1 rfl rfl ⟨(Nat.le_of_ble_eq_true rfl), (Nat.le_of_ble_eq_true rfl)⟩ (Nat.le_of_ble_eq_true rfl) ⟨(Nat.le_of_ble_eq_true rfl), (Nat.le_of_ble_eq_true rfl)⟩ (fun r209 n209 h209 e209 => ?_)
                        obtain ⟨rfl, rfl, W209⟩ := e209
                        refine gi_vret C hr (dm_Mo_rest 114 rfl) ?_
                        (try simp (disch := omega) only [lg_cmp_ge, lg_cmp_le, lg_cmp_gt, lg_cmp_lt, lg_cmp_eq, eL_0, eL_1, eL_m1, eL_LO, eL_HI, eL_W, eL_add, eL_sub, eL_mul, eL_neg, eL_lt, eL_le, eL_eq, eL_remN, eL_mod0, ne_eq, Int64.not_lt, Int64.not_le] at c3)
                        (try simp (disch := omega) only [lg_cmp_ge, lg_cmp_le, lg_cmp_gt, lg_cmp_lt, lg_cmp_eq, eL_0, eL_1, eL_m1, eL_LO, eL_HI, eL_W, eL_add, eL_sub, eL_mul, eL_neg, eL_lt, eL_le, eL_eq, eL_remN, eL_mod0, ne_eq, Int64.not_lt, Int64.not_le] at c11)
                        (try simp (disch := omega) only [lg_cmp_ge, lg_cmp_le, lg_cmp_gt, lg_cmp_lt, lg_cmp_eq, eL_0, eL_1, eL_m1, eL_LO, eL_HI, eL_W, eL_add, eL_sub, eL_mul, eL_neg, eL_lt, eL_le, eL_eq, eL_remN, eL_mod0, ne_eq, Int64.not_lt, Int64.not_le] at c147)
                        (try simp (disch := omega) only [lg_cmp_ge, lg_cmp_le, lg_cmp_gt, lg_cmp_lt, lg_cmp_eq, eL_0, eL_1, eL_m1, eL_LO, eL_HI, eL_W, eL_add, eL_sub, eL_mul, eL_neg, eL_lt, eL_le, eL_eq, eL_remN, eL_mod0, ne_eq, Int64.not_lt, Int64.not_le] at c159)
                        (try simp (disch := omega) only [lg_cmp_ge, lg_cmp_le, lg_cmp_gt, lg_cmp_lt, lg_cmp_eq, eL_0, eL_1, eL_m1, eL_LO, eL_HI, eL_W, eL_add, eL_sub, eL_mul, eL_neg, eL_lt, eL_le, eL_eq, eL_remN, eL_mod0, ne_eq, Int64.not_lt, Int64.not_le] at c175)
                        (try simp (disch := omega) only [lg_cmp_ge, lg_cmp_le, lg_cmp_gt, lg_cmp_lt, lg_cmp_eq, eL_0, eL_1, eL_m1, eL_LO, eL_HI, eL_W, eL_add, eL_sub, eL_mul, eL_neg, eL_lt, eL_le, eL_eq, eL_remN, eL_mod0, ne_eq, Int64.not_lt, Int64.not_le] at c193)
                        rw [show restS x d = mkS (max x.1 (1 - (max (-p.1) q.2.1))) (min x.2.1 (max (-p.1) q.2.1 - 1)) 1 from by
                          unfold restS
                          rw [if_neg n0, if_neg (by omega), z2, if_neg (by omega), if_neg (by omega)]]
                        exact ⟨rfl, rfl, W209.p.tr o1 r1⟩
                      · refine gi_lconst (q := 197) (v := 0) C (dm_Mo_rest 105 rfl) rfl (by decide) ?_
                        refine gi_goto (tgt := 208) C (dm_Mo_rest 106 rfl) (by decide) ?_
                        refine gi_lconst (q := 209) (v := 1) C (dm_Mo_rest 112 rfl) rfl (by decide) ?_
                        rw [eL_1]
                        refine gi_callv 3 (q := 212) C (dm_Mo_rest 113 rfl) rfl my_Mo_set lk_Mo_262 im_Mo_set rfl (c_Mo_set (max x.1 (1 - (max (-p.1) q.2.1))) (0) 1 (by omega) (by omega) (by omega) (by omega) H1) Ha1 rfl rfl ⟨(Nat.le_of_ble_eq_true rfl), (Nat.le_of_ble_eq_true rfl)⟩ (Nat.le_of_ble_eq_true rfl) ⟨(Nat.le_of_ble_eq_true rfl), (Nat.le_of_ble_eq_true rfl)⟩ (fun r209 n209 h209 e209 => ?_)
                        obtain ⟨rfl, rfl, W209⟩ := e209
                        refine gi_vret C hr (dm_Mo_rest 114 rfl) ?_
                        (try simp (disch := omega) only [lg_cmp_ge, lg_cmp_le, lg_cmp_gt, lg_cmp_lt, lg_cmp_eq, eL_0, eL_1, eL_m1, eL_LO, eL_HI, eL_W, eL_add, eL_sub, eL_mul, eL_neg, eL_lt, eL_le, eL_eq, eL_remN, eL_mod0, ne_eq, Int64.not_lt, Int64.not_le] at c3)
                        (try simp (disch := omega) only [lg_cmp_ge, lg_cmp_le, lg_cmp_gt, lg_cmp_lt, lg_cmp_eq, eL_0, eL_1, eL_m1, eL_LO, eL_HI, eL_W, eL_add, eL_sub, eL_mul, eL_neg, eL_lt, eL_le, eL_eq, eL_remN, eL_mod0, ne_eq, Int64.not_lt, Int64.not_le] at c11)
                        (try simp (disch := omega) only [lg_cmp_ge, lg_cmp_le, lg_cmp_gt, lg_cmp_lt, lg_cmp_eq, eL_0, eL_1, eL_m1, eL_LO, eL_HI, eL_W, eL_add, eL_sub, eL_mul, eL_neg, eL_lt, eL_le, eL_eq, eL_remN, eL_mod0, ne_eq, Int64.not_lt, Int64.not_le] at c147)
                        (try simp (disch := omega) only [lg_cmp_ge, lg_cmp_le, lg_cmp_gt, lg_cmp_lt, lg_cmp_eq, eL_0, eL_1, eL_m1, eL_LO, eL_HI, eL_W, eL_add, eL_sub, eL_mul, eL_neg, eL_lt, eL_le, eL_eq, eL_remN, eL_mod0, ne_eq, Int64.not_lt, Int64.not_le] at c159)
                        (try simp (disch := omega) only [lg_cmp_ge, lg_cmp_le, lg_cmp_gt, lg_cmp_lt, lg_cmp_eq, eL_0, eL_1, eL_m1, eL_LO, eL_HI, eL_W, eL_add, eL_sub, eL_mul, eL_neg, eL_lt, eL_le, eL_eq, eL_remN, eL_mod0, ne_eq, Int64.not_lt, Int64.not_le] at c175)
                        (try simp (disch := omega) only [lg_cmp_ge, lg_cmp_le, lg_cmp_gt, lg_cmp_lt, lg_cmp_eq, eL_0, eL_1, eL_m1, eL_LO, eL_HI, eL_W, eL_add, eL_sub, eL_mul, eL_neg, eL_lt, eL_le, eL_eq, eL_remN, eL_mod0, ne_eq, Int64.not_lt, Int64.not_le] at c193)
                        rw [show restS x d = mkS (max x.1 (1 - (max (-p.1) q.2.1))) (0) 1 from by
                          unfold restS
                          rw [if_neg n0, if_neg (by omega), z2, if_neg (by omega), if_pos (by omega)]]
                        exact ⟨rfl, rfl, W209.p.tr o1 r1⟩
                    · refine gi_lconst (q := 179) (v := 0) C (dm_Mo_rest 94 rfl) rfl (by decide) ?_
                      refine gi_goto (tgt := 190) C (dm_Mo_rest 95 rfl) (by decide) ?_
                      refine gi_lload_n (q := 191) (i := 3) C (dm_Mo_rest 101 rfl) rfl rfl rfl ?_
                      refine gi_lconst (q := 192) (v := 0) C (dm_Mo_rest 102 rfl) rfl (by decide) ?_
                      refine gi_lcmp (q := 193) C (dm_Mo_rest 103 rfl) rfl ?_
                      refine gi_if_gt (q := 196) (tgt := 200) C (dm_Mo_rest 104 rfl) rfl (by decide) (fun c193 => ?_) (fun c193 => ?_)
                      · refine gi_lload_n (q := 201) (i := 3) C (dm_Mo_rest 107 rfl) rfl rfl rfl ?_
                        refine gi_lload (q := 203) C (dm_Mo_rest 108 rfl) rfl rfl ?_
                        refine gi_lconst (q := 204) (v := 1) C (dm_Mo_rest 109 rfl) rfl (by decide) ?_
                        refine gi_lsub (q := 205) C (dm_Mo_rest 110 rfl) rfl ?_
                        rw [eL_1, eL_sub]
                        refine gi_calls 2 (q := 208) C (dm_Mo_rest 111 rfl) rfl my_Mo_min lk_Mo_252 sm_Mo_min (c_Mo_min x.2.1 (max (-p.1) q.2.1 - 1) (by omega) (by omega) (by omega) (by omega)) rfl rfl ⟨(Nat.le_of_ble_eq_true rfl), (Nat.le_of_ble_eq_true rfl)⟩ (Nat.le_of_ble_eq_true rfl) ⟨(Nat.le_of_ble_eq_true rfl), (Nat.le_of_ble_eq_true rfl)⟩ (fun r205 n205 h205 e205 => ?_)
                        obtain ⟨rfl, q205, u205⟩ := e205
                        rw [q205, u205]
                        refine gi_lconst (q := 209) (v := 1) C (dm_Mo_rest 112 rfl) rfl (by decide) ?_
                        rw [eL_1]
                        refine gi_callv 3 (q := 212) C (dm_Mo_rest 113 rfl) rfl my_Mo_set lk_Mo_262 im_Mo_set rfl (c_Mo_set (0) (min x.2.1 (max (-p.1) q.2.1 - 1)) 1 (by omega) (by omega) (by omega) (by omega) H1) Ha1 rfl rfl ⟨(Nat.le_of_ble_eq_true rfl), (Nat.le_of_ble_eq_true rfl)⟩ (Nat.le_of_ble_eq_true rfl) ⟨(Nat.le_of_ble_eq_true rfl), (Nat.le_of_ble_eq_true rfl)⟩ (fun r209 n209 h209 e209 => ?_)
                        obtain ⟨rfl, rfl, W209⟩ := e209
                        refine gi_vret C hr (dm_Mo_rest 114 rfl) ?_
                        (try simp (disch := omega) only [lg_cmp_ge, lg_cmp_le, lg_cmp_gt, lg_cmp_lt, lg_cmp_eq, eL_0, eL_1, eL_m1, eL_LO, eL_HI, eL_W, eL_add, eL_sub, eL_mul, eL_neg, eL_lt, eL_le, eL_eq, eL_remN, eL_mod0, ne_eq, Int64.not_lt, Int64.not_le] at c3)
                        (try simp (disch := omega) only [lg_cmp_ge, lg_cmp_le, lg_cmp_gt, lg_cmp_lt, lg_cmp_eq, eL_0, eL_1, eL_m1, eL_LO, eL_HI, eL_W, eL_add, eL_sub, eL_mul, eL_neg, eL_lt, eL_le, eL_eq, eL_remN, eL_mod0, ne_eq, Int64.not_lt, Int64.not_le] at c11)
                        (try simp (disch := omega) only [lg_cmp_ge, lg_cmp_le, lg_cmp_gt, lg_cmp_lt, lg_cmp_eq, eL_0, eL_1, eL_m1, eL_LO, eL_HI, eL_W, eL_add, eL_sub, eL_mul, eL_neg, eL_lt, eL_le, eL_eq, eL_remN, eL_mod0, ne_eq, Int64.not_lt, Int64.not_le] at c147)
                        (try simp (disch := omega) only [lg_cmp_ge, lg_cmp_le, lg_cmp_gt, lg_cmp_lt, lg_cmp_eq, eL_0, eL_1, eL_m1, eL_LO, eL_HI, eL_W, eL_add, eL_sub, eL_mul, eL_neg, eL_lt, eL_le, eL_eq, eL_remN, eL_mod0, ne_eq, Int64.not_lt, Int64.not_le] at c159)
                        (try simp (disch := omega) only [lg_cmp_ge, lg_cmp_le, lg_cmp_gt, lg_cmp_lt, lg_cmp_eq, eL_0, eL_1, eL_m1, eL_LO, eL_HI, eL_W, eL_add, eL_sub, eL_mul, eL_neg, eL_lt, eL_le, eL_eq, eL_remN, eL_mod0, ne_eq, Int64.not_lt, Int64.not_le] at c175)
                        (try simp (disch := omega) only [lg_cmp_ge, lg_cmp_le, lg_cmp_gt, lg_cmp_lt, lg_cmp_eq, eL_0, eL_1, eL_m1, eL_LO, eL_HI, eL_W, eL_add, eL_sub, eL_mul, eL_neg, eL_lt, eL_le, eL_eq, eL_remN, eL_mod0, ne_eq, Int64.not_lt, Int64.not_le] at c193)
                        rw [show restS x d = mkS (0) (min x.2.1 (max (-p.1) q.2.1 - 1)) 1 from by
                          unfold restS
                          rw [if_neg n0, if_neg (by omega), z2, if_pos (by omega), if_neg (by omega)]]
                        exact ⟨rfl, rfl, W209.p.tr o1 r1⟩
                      · refine gi_lconst (q := 197) (v := 0) C (dm_Mo_rest 105 rfl) rfl (by decide) ?_
                        refine gi_goto (tgt := 208) C (dm_Mo_rest 106 rfl) (by decide) ?_
                        refine gi_lconst (q := 209) (v := 1) C (dm_Mo_rest 112 rfl) rfl (by decide) ?_
                        rw [eL_1]
                        refine gi_callv 3 (q := 212) C (dm_Mo_rest 113 rfl) rfl my_Mo_set lk_Mo_262 im_Mo_set rfl (c_Mo_set (0) (0) 1 (by omega) (by omega) (by omega) (by omega) H1) Ha1 rfl rfl ⟨(Nat.le_of_ble_eq_true rfl), (Nat.le_of_ble_eq_true rfl)⟩ (Nat.le_of_ble_eq_true rfl) ⟨(Nat.le_of_ble_eq_true rfl), (Nat.le_of_ble_eq_true rfl)⟩ (fun r209 n209 h209 e209 => ?_)
                        obtain ⟨rfl, rfl, W209⟩ := e209
                        refine gi_vret C hr (dm_Mo_rest 114 rfl) ?_
                        (try simp (disch := omega) only [lg_cmp_ge, lg_cmp_le, lg_cmp_gt, lg_cmp_lt, lg_cmp_eq, eL_0, eL_1, eL_m1, eL_LO, eL_HI, eL_W, eL_add, eL_sub, eL_mul, eL_neg, eL_lt, eL_le, eL_eq, eL_remN, eL_mod0, ne_eq, Int64.not_lt, Int64.not_le] at c3)
                        (try simp (disch := omega) only [lg_cmp_ge, lg_cmp_le, lg_cmp_gt, lg_cmp_lt, lg_cmp_eq, eL_0, eL_1, eL_m1, eL_LO, eL_HI, eL_W, eL_add, eL_sub, eL_mul, eL_neg, eL_lt, eL_le, eL_eq, eL_remN, eL_mod0, ne_eq, Int64.not_lt, Int64.not_le] at c11)
                        (try simp (disch := omega) only [lg_cmp_ge, lg_cmp_le, lg_cmp_gt, lg_cmp_lt, lg_cmp_eq, eL_0, eL_1, eL_m1, eL_LO, eL_HI, eL_W, eL_add, eL_sub, eL_mul, eL_neg, eL_lt, eL_le, eL_eq, eL_remN, eL_mod0, ne_eq, Int64.not_lt, Int64.not_le] at c147)
                        (try simp (disch := omega) only [lg_cmp_ge, lg_cmp_le, lg_cmp_gt, lg_cmp_lt, lg_cmp_eq, eL_0, eL_1, eL_m1, eL_LO, eL_HI, eL_W, eL_add, eL_sub, eL_mul, eL_neg, eL_lt, eL_le, eL_eq, eL_remN, eL_mod0, ne_eq, Int64.not_lt, Int64.not_le] at c159)
                        (try simp (disch := omega) only [lg_cmp_ge, lg_cmp_le, lg_cmp_gt, lg_cmp_lt, lg_cmp_eq, eL_0, eL_1, eL_m1, eL_LO, eL_HI, eL_W, eL_add, eL_sub, eL_mul, eL_neg, eL_lt, eL_le, eL_eq, eL_remN, eL_mod0, ne_eq, Int64.not_lt, Int64.not_le] at c175)
                        (try simp (disch := omega) only [lg_cmp_ge, lg_cmp_le, lg_cmp_gt, lg_cmp_lt, lg_cmp_eq, eL_0, eL_1, eL_m1, eL_LO, eL_HI, eL_W, eL_add, eL_sub, eL_mul, eL_neg, eL_lt, eL_le, eL_eq, eL_remN, eL_mod0, ne_eq, Int64.not_lt, Int64.not_le] at c193)
                        rw [show restS x d = mkS (0) (0) 1 from by
                          unfold restS
                          rw [if_neg n0, if_neg (by omega), z2, if_pos (by omega), if_pos (by omega)]]
                        exact ⟨rfl, rfl, W209.p.tr o1 r1⟩
                  · refine gi_lload_n (q := 151) (i := 1) C (dm_Mo_rest 76 rfl) rfl rfl rfl ?_
                    refine gi_lload_n (q := 152) (i := 3) C (dm_Mo_rest 77 rfl) rfl rfl rfl ?_
                    refine gi_lneg (q := 153) C (dm_Mo_rest 78 rfl) rfl ?_
                    rw [eL_neg]
                    refine gi_calls 2 (q := 156) C (dm_Mo_rest 79 rfl) rfl my_Mo_max lk_Mo_256 sm_Mo_max (c_Mo_max x.1 (-x.2.1) (by omega) (by omega) (by omega) (by omega)) rfl rfl ⟨(Nat.le_of_ble_eq_true rfl), (Nat.le_of_ble_eq_true rfl)⟩ (Nat.le_of_ble_eq_true rfl) ⟨(Nat.le_of_ble_eq_true rfl), (Nat.le_of_ble_eq_true rfl)⟩ (fun r153 n153 h153 e153 => ?_)
                    obtain ⟨rfl, q153, u153⟩ := e153
                    rw [q153, u153]
                    refine gi_lload (q := 158) C (dm_Mo_rest 80 rfl) rfl rfl ?_
                    refine gi_lcmp (q := 159) C (dm_Mo_rest 81 rfl) rfl ?_
                    refine gi_if_ge (q := 162) (tgt := 171) C (dm_Mo_rest 82 rfl) rfl (by decide) (fun c159 => ?_) (fun c159 => ?_)
                    · refine gi_aload_n (q := 172) (i := 0) C (dm_Mo_rest 89 rfl) rfl rfl rfl ?_
                      refine gi_lload_n (q := 173) (i := 1) C (dm_Mo_rest 90 rfl) rfl rfl rfl ?_
                      refine gi_lconst (q := 174) (v := 0) C (dm_Mo_rest 91 rfl) rfl (by decide) ?_
                      refine gi_lcmp (q := 175) C (dm_Mo_rest 92 rfl) rfl ?_
                      refine gi_if_lt (q := 178) (tgt := 182) C (dm_Mo_rest 93 rfl) rfl (by decide) (fun c175 => ?_) (fun c175 => ?_)
                      · refine gi_lload_n (q := 183) (i := 1) C (dm_Mo_rest 96 rfl) rfl rfl rfl ?_
                        refine gi_lconst (q := 184) (v := 1) C (dm_Mo_rest 97 rfl) rfl (by decide) ?_
                        refine gi_lload (q := 186) C (dm_Mo_rest 98 rfl) rfl rfl ?_
                        refine gi_lsub (q := 187) C (dm_Mo_rest 99 rfl) rfl ?_
                        rw [eL_1, eL_sub]
                        refine gi_calls 2 (q := 190) C (dm_Mo_rest 100 rfl) rfl my_Mo_max lk_Mo_256 sm_Mo_max (c_Mo_max x.1 (1 - (max (-p.1) q.2.1)) (by omega) (by omega) (by omega) (by omega)) rfl rfl ⟨(Nat.le_of_ble_eq_true rfl), (Nat.le_of_ble_eq_true rfl)⟩ (Nat.le_of_ble_eq_true rfl) ⟨(Nat.le_of_ble_eq_true rfl), (Nat.le_of_ble_eq_true rfl)⟩ (fun r187 n187 h187 e187 => ?_)
                        obtain ⟨rfl, q187, u187⟩ := e187
                        rw [q187, u187]
                        refine gi_lload_n (q := 191) (i := 3) C (dm_Mo_rest 101 rfl) rfl rfl rfl ?_
                        refine gi_lconst (q := 192) (v := 0) C (dm_Mo_rest 102 rfl) rfl (by decide) ?_
                        refine gi_lcmp (q := 193) C (dm_Mo_rest 103 rfl) rfl ?_
                        refine gi_if_gt (q := 196) (tgt := 200) C (dm_Mo_rest 104 rfl) rfl (by decide) (fun c193 => ?_) (fun c193 => ?_)
                        · refine gi_lload_n (q := 201) (i := 3) C (dm_Mo_rest 107 rfl) rfl rfl rfl ?_
                          refine gi_lload (q := 203) C (dm_Mo_rest 108 rfl) rfl rfl ?_
                          refine gi_lconst (q := 204) (v := 1) C (dm_Mo_rest 109 rfl) rfl (by decide) ?_
                          refine gi_lsub (q := 205) C (dm_Mo_rest 110 rfl) rfl ?_
                          rw [eL_1, eL_sub]
                          refine gi_calls 2 (q := 208) C (dm_Mo_rest 111 rfl) rfl my_Mo_min lk_Mo_252 sm_Mo_min (c_Mo_min x.2.1 (max (-p.1) q.2.1 - 1) (by omega) (by omega) (by omega) (by omega)) rfl rfl ⟨(Nat.le_of_ble_eq_true rfl), (Nat.le_of_ble_eq_true rfl)⟩ (Nat.le_of_ble_eq_true rfl) ⟨(Nat.le_of_ble_eq_true rfl), (Nat.le_of_ble_eq_true rfl)⟩ (fun r205 n205 h205 e205 => ?_)
                          obtain ⟨rfl, q205, u205⟩ := e205
                          rw [q205, u205]
                          refine gi_lconst (q := 209) (v := 1) C (dm_Mo_rest 112 rfl) rfl (by decide) ?_
                          rw [eL_1]
                          refine gi_callv 3 (q := 212) C (dm_Mo_rest 113 rfl) rfl my_Mo_set lk_Mo_262 im_Mo_set rfl (c_Mo_set (max x.1 (1 - (max (-p.1) q.2.1))) (min x.2.1 (max (-p.1) q.2.1 - 1)) 1 (by omega) (by omega) (by omega) (by omega) H1) Ha1 rfl rfl ⟨(Nat.le_of_ble_eq_true rfl), (Nat.le_of_ble_eq_true rfl)⟩ (Nat.le_of_ble_eq_true rfl) ⟨(Nat.le_of_ble_eq_true rfl), (Nat.le_of_ble_eq_true rfl)⟩ (fun r209 n209 h209 e209 => ?_)
                          obtain ⟨rfl, rfl, W209⟩ := e209
                          refine gi_vret C hr (dm_Mo_rest 114 rfl) ?_
                          (try simp (disch := omega) only [lg_cmp_ge, lg_cmp_le, lg_cmp_gt, lg_cmp_lt, lg_cmp_eq, eL_0, eL_1, eL_m1, eL_LO, eL_HI, eL_W, eL_add, eL_sub, eL_mul, eL_neg, eL_lt, eL_le, eL_eq, eL_remN, eL_mod0, ne_eq, Int64.not_lt, Int64.not_le] at c3)
                          (try simp (disch := omega) only [lg_cmp_ge, lg_cmp_le, lg_cmp_gt, lg_cmp_lt, lg_cmp_eq, eL_0, eL_1, eL_m1, eL_LO, eL_HI, eL_W, eL_add, eL_sub, eL_mul, eL_neg, eL_lt, eL_le, eL_eq, eL_remN, eL_mod0, ne_eq, Int64.not_lt, Int64.not_le] at c11)
                          (try simp (disch := omega) only [lg_cmp_ge, lg_cmp_le, lg_cmp_gt, lg_cmp_lt, lg_cmp_eq, eL_0, eL_1, eL_m1, eL_LO, eL_HI, eL_W, eL_add, eL_sub, eL_mul, eL_neg, eL_lt, eL_le, eL_eq, eL_remN, eL_mod0, ne_eq, Int64.not_lt, Int64.not_le] at c147)
                          (try simp (disch := omega) only [lg_cmp_ge, lg_cmp_le, lg_cmp_gt, lg_cmp_lt, lg_cmp_eq, eL_0, eL_1, eL_m1, eL_LO, eL_HI, eL_W, eL_add, eL_sub, eL_mul, eL_neg, eL_lt, eL_le, eL_eq, eL_remN, eL_mod0, ne_eq, Int64.not_lt, Int64.not_le] at c159)
                          (try simp (disch := omega) only [lg_cmp_ge, lg_cmp_le, lg_cmp_gt, lg_cmp_lt, lg_cmp_eq, eL_0, eL_1, eL_m1, eL_LO, eL_HI, eL_W, eL_add, eL_sub, eL_mul, eL_neg, eL_lt, eL_le, eL_eq, eL_remN, eL_mod0, ne_eq, Int64.not_lt, Int64.not_le] at c175)
                          (try simp (disch := omega) only [lg_cmp_ge, lg_cmp_le, lg_cmp_gt, lg_cmp_lt, lg_cmp_eq, eL_0, eL_1, eL_m1, eL_LO, eL_HI, eL_W, eL_add, eL_sub, eL_mul, eL_neg, eL_lt, eL_le, eL_eq, eL_remN, eL_mod0, ne_eq, Int64.not_lt, Int64.not_le] at c193)
                          rw [show restS x d = mkS (max x.1 (1 - (max (-p.1) q.2.1))) (min x.2.1 (max (-p.1) q.2.1 - 1)) 1 from by
                            unfold restS
                            rw [if_neg n0, if_neg (by omega), z2, if_neg (by omega), if_neg (by omega)]]
                          exact ⟨rfl, rfl, W209.p.tr o1 r1⟩
                        · refine gi_lconst (q := 197) (v := 0) C (dm_Mo_rest 105 rfl) rfl (by decide) ?_
                          refine gi_goto (tgt := 208) C (dm_Mo_rest 106 rfl) (by decide) ?_
                          refine gi_lconst (q := 209) (v := 1) C (dm_Mo_rest 112 rfl) rfl (by decide) ?_
                          rw [eL_1]
                          refine gi_callv 3 (q := 212) C (dm_Mo_rest 113 rfl) rfl my_Mo_set lk_Mo_262 im_Mo_set rfl (c_Mo_set (max x.1 (1 - (max (-p.1) q.2.1))) (0) 1 (by omega) (by omega) (by omega) (by omega) H1) Ha1 rfl rfl ⟨(Nat.le_of_ble_eq_true rfl), (Nat.le_of_ble_eq_true rfl)⟩ (Nat.le_of_ble_eq_true rfl) ⟨(Nat.le_of_ble_eq_true rfl), (Nat.le_of_ble_eq_true rfl)⟩ (fun r209 n209 h209 e209 => ?_)
                          obtain ⟨rfl, rfl, W209⟩ := e209
                          refine gi_vret C hr (dm_Mo_rest 114 rfl) ?_
                          (try simp (disch := omega) only [lg_cmp_ge, lg_cmp_le, lg_cmp_gt, lg_cmp_lt, lg_cmp_eq, eL_0, eL_1, eL_m1, eL_LO, eL_HI, eL_W, eL_add, eL_sub, eL_mul, eL_neg, eL_lt, eL_le, eL_eq, eL_remN, eL_mod0, ne_eq, Int64.not_lt, Int64.not_le] at c3)
                          (try simp (disch := omega) only [lg_cmp_ge, lg_cmp_le, lg_cmp_gt, lg_cmp_lt, lg_cmp_eq, eL_0, eL_1, eL_m1, eL_LO, eL_HI, eL_W, eL_add, eL_sub, eL_mul, eL_neg, eL_lt, eL_le, eL_eq, eL_remN, eL_mod0, ne_eq, Int64.not_lt, Int64.not_le] at c11)
                          (try simp (disch := omega) only [lg_cmp_ge, lg_cmp_le, lg_cmp_gt, lg_cmp_lt, lg_cmp_eq, eL_0, eL_1, eL_m1, eL_LO, eL_HI, eL_W, eL_add, eL_sub, eL_mul, eL_neg, eL_lt, eL_le, eL_eq, eL_remN, eL_mod0, ne_eq, Int64.not_lt, Int64.not_le] at c147)
                          (try simp (disch := omega) only [lg_cmp_ge, lg_cmp_le, lg_cmp_gt, lg_cmp_lt, lg_cmp_eq, eL_0, eL_1, eL_m1, eL_LO, eL_HI, eL_W, eL_add, eL_sub, eL_mul, eL_neg, eL_lt, eL_le, eL_eq, eL_remN, eL_mod0, ne_eq, Int64.not_lt, Int64.not_le] at c159)
                          (try simp (disch := omega) only [lg_cmp_ge, lg_cmp_le, lg_cmp_gt, lg_cmp_lt, lg_cmp_eq, eL_0, eL_1, eL_m1, eL_LO, eL_HI, eL_W, eL_add, eL_sub, eL_mul, eL_neg, eL_lt, eL_le, eL_eq, eL_remN, eL_mod0, ne_eq, Int64.not_lt, Int64.not_le] at c175)
                          (try simp (disch := omega) only [lg_cmp_ge, lg_cmp_le, lg_cmp_gt, lg_cmp_lt, lg_cmp_eq, eL_0, eL_1, eL_m1, eL_LO, eL_HI, eL_W, eL_add, eL_sub, eL_mul, eL_neg, eL_lt, eL_le, eL_eq, eL_remN, eL_mod0, ne_eq, Int64.not_lt, Int64.not_le] at c193)
                          rw [show restS x d = mkS (max x.1 (1 - (max (-p.1) q.2.1))) (0) 1 from by
                            unfold restS
                            rw [if_neg n0, if_neg (by omega), z2, if_neg (by omega), if_pos (by omega)]]
                          exact ⟨rfl, rfl, W209.p.tr o1 r1⟩
                      · refine gi_lconst (q := 179) (v := 0) C (dm_Mo_rest 94 rfl) rfl (by decide) ?_
                        refine gi_goto (tgt := 190) C (dm_Mo_rest 95 rfl) (by decide) ?_
                        refine gi_lload_n (q := 191) (i := 3) C (dm_Mo_rest 101 rfl) rfl rfl rfl ?_
                        refine gi_lconst (q := 192) (v := 0) C (dm_Mo_rest 102 rfl) rfl (by decide) ?_
                        refine gi_lcmp (q := 193) C (dm_Mo_rest 103 rfl) rfl ?_
                        refine gi_if_gt (q := 196) (tgt := 200) C (dm_Mo_rest 104 rfl) rfl (by decide) (fun c193 => ?_) (fun c193 => ?_)
                        · refine gi_lload_n (q := 201) (i := 3) C (dm_Mo_rest 107 rfl) rfl rfl rfl ?_
                          refine gi_lload (q := 203) C (dm_Mo_rest 108 rfl) rfl rfl ?_
                          refine gi_lconst (q := 204) (v := 1) C (dm_Mo_rest 109 rfl) rfl (by decide) ?_
                          refine gi_lsub (q := 205) C (dm_Mo_rest 110 rfl) rfl ?_
                          rw [eL_1, eL_sub]
                          refine gi_calls 2 (q := 208) C (dm_Mo_rest 111 rfl) rfl my_Mo_min lk_Mo_252 sm_Mo_min (c_Mo_min x.2.1 (max (-p.1) q.2.1 - 1) (by omega) (by omega) (by omega) (by omega)) rfl rfl ⟨(Nat.le_of_ble_eq_true rfl), (Nat.le_of_ble_eq_true rfl)⟩ (Nat.le_of_ble_eq_true rfl) ⟨(Nat.le_of_ble_eq_true rfl), (Nat.le_of_ble_eq_true rfl)⟩ (fun r205 n205 h205 e205 => ?_)
                          obtain ⟨rfl, q205, u205⟩ := e205
                          rw [q205, u205]
                          refine gi_lconst (q := 209) (v := 1) C (dm_Mo_rest 112 rfl) rfl (by decide) ?_
                          rw [eL_1]
                          refine gi_callv 3 (q := 212) C (dm_Mo_rest 113 rfl) rfl my_Mo_set lk_Mo_262 im_Mo_set rfl (c_Mo_set (0) (min x.2.1 (max (-p.1) q.2.1 - 1)) 1 (by omega) (by omega) (by omega) (by omega) H1) Ha1 rfl rfl ⟨(Nat.le_of_ble_eq_true rfl), (Nat.le_of_ble_eq_true rfl)⟩ (Nat.le_of_ble_eq_true rfl) ⟨(Nat.le_of_ble_eq_true rfl), (Nat.le_of_ble_eq_true rfl)⟩ (fun r209 n209 h209 e209 => ?_)
                          obtain ⟨rfl, rfl, W209⟩ := e209
                          refine gi_vret C hr (dm_Mo_rest 114 rfl) ?_
                          (try simp (disch := omega) only [lg_cmp_ge, lg_cmp_le, lg_cmp_gt, lg_cmp_lt, lg_cmp_eq, eL_0, eL_1, eL_m1, eL_LO, eL_HI, eL_W, eL_add, eL_sub, eL_mul, eL_neg, eL_lt, eL_le, eL_eq, eL_remN, eL_mod0, ne_eq, Int64.not_lt, Int64.not_le] at c3)
                          (try simp (disch := omega) only [lg_cmp_ge, lg_cmp_le, lg_cmp_gt, lg_cmp_lt, lg_cmp_eq, eL_0, eL_1, eL_m1, eL_LO, eL_HI, eL_W, eL_add, eL_sub, eL_mul, eL_neg, eL_lt, eL_le, eL_eq, eL_remN, eL_mod0, ne_eq, Int64.not_lt, Int64.not_le] at c11)
                          (try simp (disch := omega) only [lg_cmp_ge, lg_cmp_le, lg_cmp_gt, lg_cmp_lt, lg_cmp_eq, eL_0, eL_1, eL_m1, eL_LO, eL_HI, eL_W, eL_add, eL_sub, eL_mul, eL_neg, eL_lt, eL_le, eL_eq, eL_remN, eL_mod0, ne_eq, Int64.not_lt, Int64.not_le] at c147)
                          (try simp (disch := omega) only [lg_cmp_ge, lg_cmp_le, lg_cmp_gt, lg_cmp_lt, lg_cmp_eq, eL_0, eL_1, eL_m1, eL_LO, eL_HI, eL_W, eL_add, eL_sub, eL_mul, eL_neg, eL_lt, eL_le, eL_eq, eL_remN, eL_mod0, ne_eq, Int64.not_lt, Int64.not_le] at c159)
                          (try simp (disch := omega) only [lg_cmp_ge, lg_cmp_le, lg_cmp_gt, lg_cmp_lt, lg_cmp_eq, eL_0, eL_1, eL_m1, eL_LO, eL_HI, eL_W, eL_add, eL_sub, eL_mul, eL_neg, eL_lt, eL_le, eL_eq, eL_remN, eL_mod0, ne_eq, Int64.not_lt, Int64.not_le] at c175)
                          (try simp (disch := omega) only [lg_cmp_ge, lg_cmp_le, lg_cmp_gt, lg_cmp_lt, lg_cmp_eq, eL_0, eL_1, eL_m1, eL_LO, eL_HI, eL_W, eL_add, eL_sub, eL_mul, eL_neg, eL_lt, eL_le, eL_eq, eL_remN, eL_mod0, ne_eq, Int64.not_lt, Int64.not_le] at c193)
                          rw [show restS x d = mkS (0) (min x.2.1 (max (-p.1) q.2.1 - 1)) 1 from by
                            unfold restS
                            rw [if_neg n0, if_neg (by omega), z2, if_pos (by omega), if_neg (by omega)]]
                          exact ⟨rfl, rfl, W209.p.tr o1 r1⟩
                        · refine gi_lconst (q := 197) (v := 0) C (dm_Mo_rest 105 rfl) rfl (by decide) ?_
                          refine gi_goto (tgt := 208) C (dm_Mo_rest 106 rfl) (by decide) ?_
                          refine gi_lconst (q := 209) (v := 1) C (dm_Mo_rest 112 rfl) rfl (by decide) ?_
                          rw [eL_1]
                          refine gi_callv 3 (q := 212) C (dm_Mo_rest 113 rfl) rfl my_Mo_set lk_Mo_262 im_Mo_set rfl (c_Mo_set (0) (0) 1 (by omega) (by omega) (by omega) (by omega) H1) Ha1 rfl rfl ⟨(Nat.le_of_ble_eq_true rfl), (Nat.le_of_ble_eq_true rfl)⟩ (Nat.le_of_ble_eq_true rfl) ⟨(Nat.le_of_ble_eq_true rfl), (Nat.le_of_ble_eq_true rfl)⟩ (fun r209 n209 h209 e209 => ?_)
                          obtain ⟨rfl, rfl, W209⟩ := e209
                          refine gi_vret C hr (dm_Mo_rest 114 rfl) ?_
                          (try simp (disch := omega) only [lg_cmp_ge, lg_cmp_le, lg_cmp_gt, lg_cmp_lt, lg_cmp_eq, eL_0, eL_1, eL_m1, eL_LO, eL_HI, eL_W, eL_add, eL_sub, eL_mul, eL_neg, eL_lt, eL_le, eL_eq, eL_remN, eL_mod0, ne_eq, Int64.not_lt, Int64.not_le] at c3)
                          (try simp (disch := omega) only [lg_cmp_ge, lg_cmp_le, lg_cmp_gt, lg_cmp_lt, lg_cmp_eq, eL_0, eL_1, eL_m1, eL_LO, eL_HI, eL_W, eL_add, eL_sub, eL_mul, eL_neg, eL_lt, eL_le, eL_eq, eL_remN, eL_mod0, ne_eq, Int64.not_lt, Int64.not_le] at c11)
                          (try simp (disch := omega) only [lg_cmp_ge, lg_cmp_le, lg_cmp_gt, lg_cmp_lt, lg_cmp_eq, eL_0, eL_1, eL_m1, eL_LO, eL_HI, eL_W, eL_add, eL_sub, eL_mul, eL_neg, eL_lt, eL_le, eL_eq, eL_remN, eL_mod0, ne_eq, Int64.not_lt, Int64.not_le] at c147)
                          (try simp (disch := omega) only [lg_cmp_ge, lg_cmp_le, lg_cmp_gt, lg_cmp_lt, lg_cmp_eq, eL_0, eL_1, eL_m1, eL_LO, eL_HI, eL_W, eL_add, eL_sub, eL_mul, eL_neg, eL_lt, eL_le, eL_eq, eL_remN, eL_mod0, ne_eq, Int64.not_lt, Int64.not_le] at c159)
                          (try simp (disch := omega) only [lg_cmp_ge, lg_cmp_le, lg_cmp_gt, lg_cmp_lt, lg_cmp_eq, eL_0, eL_1, eL_m1, eL_LO, eL_HI, eL_W, eL_add, eL_sub, eL_mul, eL_neg, eL_lt, eL_le, eL_eq, eL_remN, eL_mod0, ne_eq, Int64.not_lt, Int64.not_le] at c175)
                          (try simp (disch := omega) only [lg_cmp_ge, lg_cmp_le, lg_cmp_gt, lg_cmp_lt, lg_cmp_eq, eL_0, eL_1, eL_m1, eL_LO, eL_HI, eL_W, eL_add, eL_sub, eL_mul, eL_neg, eL_lt, eL_le, eL_eq, eL_remN, eL_mod0, ne_eq, Int64.not_lt, Int64.not_le] at c193)
                          rw [show restS x d = mkS (0) (0) 1 from by
                            unfold restS
                            rw [if_neg n0, if_neg (by omega), z2, if_pos (by omega), if_pos (by omega)]]
                          exact ⟨rfl, rfl, W209.p.tr o1 r1⟩
                    · refine gi_aload_n (q := 163) (i := 0) C (dm_Mo_rest 83 rfl) rfl rfl rfl ?_
                      refine gi_lload_n (q := 164) (i := 1) C (dm_Mo_rest 84 rfl) rfl rfl rfl ?_
                      refine gi_lload_n (q := 165) (i := 3) C (dm_Mo_rest 85 rfl) rfl rfl rfl ?_
                      refine gi_lload (q := 167) C (dm_Mo_rest 86 rfl) rfl rfl ?_
                      refine gi_callv 3 (q := 170) C (dm_Mo_rest 87 rfl) rfl my_Mo_set lk_Mo_262 im_Mo_set rfl (c_Mo_set (x.1) (x.2.1) (x.2.2) (by omega) (by omega) (by omega) (by omega) H1) Ha1 rfl rfl ⟨(Nat.le_of_ble_eq_true rfl), (Nat.le_of_ble_eq_true rfl)⟩ (Nat.le_of_ble_eq_true rfl) ⟨(Nat.le_of_ble_eq_true rfl), (Nat.le_of_ble_eq_true rfl)⟩ (fun r167 n167 h167 e167 => ?_)
                      obtain ⟨rfl, rfl, W167⟩ := e167
                      refine gi_vret C hr (dm_Mo_rest 88 rfl) ?_
                      (try simp (disch := omega) only [lg_cmp_ge, lg_cmp_le, lg_cmp_gt, lg_cmp_lt, lg_cmp_eq, eL_0, eL_1, eL_m1, eL_LO, eL_HI, eL_W, eL_add, eL_sub, eL_mul, eL_neg, eL_lt, eL_le, eL_eq, eL_remN, eL_mod0, ne_eq, Int64.not_lt, Int64.not_le] at c3)
                      (try simp (disch := omega) only [lg_cmp_ge, lg_cmp_le, lg_cmp_gt, lg_cmp_lt, lg_cmp_eq, eL_0, eL_1, eL_m1, eL_LO, eL_HI, eL_W, eL_add, eL_sub, eL_mul, eL_neg, eL_lt, eL_le, eL_eq, eL_remN, eL_mod0, ne_eq, Int64.not_lt, Int64.not_le] at c11)
                      (try simp (disch := omega) only [lg_cmp_ge, lg_cmp_le, lg_cmp_gt, lg_cmp_lt, lg_cmp_eq, eL_0, eL_1, eL_m1, eL_LO, eL_HI, eL_W, eL_add, eL_sub, eL_mul, eL_neg, eL_lt, eL_le, eL_eq, eL_remN, eL_mod0, ne_eq, Int64.not_lt, Int64.not_le] at c147)
                      (try simp (disch := omega) only [lg_cmp_ge, lg_cmp_le, lg_cmp_gt, lg_cmp_lt, lg_cmp_eq, eL_0, eL_1, eL_m1, eL_LO, eL_HI, eL_W, eL_add, eL_sub, eL_mul, eL_neg, eL_lt, eL_le, eL_eq, eL_remN, eL_mod0, ne_eq, Int64.not_lt, Int64.not_le] at c159)
                      (try simp (disch := omega) only [lg_cmp_ge, lg_cmp_le, lg_cmp_gt, lg_cmp_lt, lg_cmp_eq, eL_0, eL_1, eL_m1, eL_LO, eL_HI, eL_W, eL_add, eL_sub, eL_mul, eL_neg, eL_lt, eL_le, eL_eq, eL_remN, eL_mod0, ne_eq, Int64.not_lt, Int64.not_le] at c175)
                      (try simp (disch := omega) only [lg_cmp_ge, lg_cmp_le, lg_cmp_gt, lg_cmp_lt, lg_cmp_eq, eL_0, eL_1, eL_m1, eL_LO, eL_HI, eL_W, eL_add, eL_sub, eL_mul, eL_neg, eL_lt, eL_le, eL_eq, eL_remN, eL_mod0, ne_eq, Int64.not_lt, Int64.not_le] at c193)
                      rw [show restS x d = mkS x.1 x.2.1 x.2.2 from by
                        unfold restS
                        rw [if_neg n0, if_pos (by omega), mkS_id hx]]
                      exact ⟨rfl, rfl, W167.p.tr o1 r1⟩
    · refine gi_aload_n (q := 15) (i := 0) C (dm_Mo_rest 8 rfl) rfl rfl rfl ?_
      refine gi_lload_n (q := 16) (i := 1) C (dm_Mo_rest 9 rfl) rfl rfl rfl ?_
      refine gi_lload (q := 18) C (dm_Mo_rest 10 rfl) rfl rfl ?_
      refine gi_lrem (q := 19) C (dm_Mo_rest 11 rfl) rfl (fun q => by rw [eL_0, eL_eq (by omega) (by omega) (by omega) (by omega)] at q; exact h0 ⟨by omega, by
  (try simp (disch := omega) only [lg_cmp_ge, lg_cmp_le, lg_cmp_gt, lg_cmp_lt, lg_cmp_eq, eL_0, eL_1, eL_m1, eL_LO, eL_HI, eL_W, eL_add, eL_sub, eL_mul, eL_neg, eL_lt, eL_le, eL_eq, eL_remN, eL_mod0, ne_eq, Int64.not_lt, Int64.not_le] at c3)
  (try simp (disch := omega) only [lg_cmp_ge, lg_cmp_le, lg_cmp_gt, lg_cmp_lt, lg_cmp_eq, eL_0, eL_1, eL_m1, eL_LO, eL_HI, eL_W, eL_add, eL_sub, eL_mul, eL_neg, eL_lt, eL_le, eL_eq, eL_remN, eL_mod0, ne_eq, Int64.not_lt, Int64.not_le] at c11)
  omega⟩) ?_
      rw [eL_rem (by omega) (by omega) (by omega) (by omega)]
      refine gi_lload_n (q := 20) (i := 1) C (dm_Mo_rest 12 rfl) rfl rfl rfl ?_
      refine gi_lload (q := 22) C (dm_Mo_rest 13 rfl) rfl rfl ?_
      refine gi_lrem (q := 23) C (dm_Mo_rest 14 rfl) rfl (fun q => by rw [eL_0, eL_eq (by omega) (by omega) (by omega) (by omega)] at q; exact h0 ⟨by omega, by
  (try simp (disch := omega) only [lg_cmp_ge, lg_cmp_le, lg_cmp_gt, lg_cmp_lt, lg_cmp_eq, eL_0, eL_1, eL_m1, eL_LO, eL_HI, eL_W, eL_add, eL_sub, eL_mul, eL_neg, eL_lt, eL_le, eL_eq, eL_remN, eL_mod0, ne_eq, Int64.not_lt, Int64.not_le] at c3)
  (try simp (disch := omega) only [lg_cmp_ge, lg_cmp_le, lg_cmp_gt, lg_cmp_lt, lg_cmp_eq, eL_0, eL_1, eL_m1, eL_LO, eL_HI, eL_W, eL_add, eL_sub, eL_mul, eL_neg, eL_lt, eL_le, eL_eq, eL_remN, eL_mod0, ne_eq, Int64.not_lt, Int64.not_le] at c11)
  omega⟩) ?_
      rw [eL_rem (by omega) (by omega) (by omega) (by omega)]
      refine gi_lconst (q := 24) (v := 0) C (dm_Mo_rest 15 rfl) rfl (by decide) ?_
      refine gi_callv 3 (q := 27) C (dm_Mo_rest 16 rfl) rfl my_Mo_set lk_Mo_262 im_Mo_set rfl (c_Mo_set_same (eL (x.1.tmod d.1)) H) Ha rfl rfl ⟨(Nat.le_of_ble_eq_true rfl), (Nat.le_of_ble_eq_true rfl)⟩ (Nat.le_of_ble_eq_true rfl) ⟨(Nat.le_of_ble_eq_true rfl), (Nat.le_of_ble_eq_true rfl)⟩ (fun r24 n24 h24 e24 => ?_)
      obtain ⟨rfl, rfl, W24⟩ := e24
      refine gi_vret C hr (dm_Mo_rest 17 rfl) ?_
      (try simp (disch := omega) only [lg_cmp_ge, lg_cmp_le, lg_cmp_gt, lg_cmp_lt, lg_cmp_eq, eL_0, eL_1, eL_m1, eL_LO, eL_HI, eL_W, eL_add, eL_sub, eL_mul, eL_neg, eL_lt, eL_le, eL_eq, eL_remN, eL_mod0, ne_eq, Int64.not_lt, Int64.not_le] at c3)
      (try simp (disch := omega) only [lg_cmp_ge, lg_cmp_le, lg_cmp_gt, lg_cmp_lt, lg_cmp_eq, eL_0, eL_1, eL_m1, eL_LO, eL_HI, eL_W, eL_add, eL_sub, eL_mul, eL_neg, eL_lt, eL_le, eL_eq, eL_remN, eL_mod0, ne_eq, Int64.not_lt, Int64.not_le] at c11)
      rw [show restS x d = ((eL (x.1.tmod d.1)).toInt, (eL (x.1.tmod d.1)).toInt, 0) from by
        have tb := tmod_b x.1 d.1
        rw [eL_toInt (by omega) (by omega)]
        unfold restS
        rw [if_pos ⟨by omega, by omega⟩]]
      exact ⟨rfl, rfl, W24.p⟩
end RN7
