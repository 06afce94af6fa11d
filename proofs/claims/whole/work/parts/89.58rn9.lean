-- needs: 89.57
section RN9
variable {l : Launch} {V : gi_V} {n : Nat} {h h' : gi_H} {M : Nat} {S S' : Nat → Int32} {J J' : Nat → Int64} {F : Nat → Nat → Int32} {G : Nat → Nat → Int64}
set_option maxHeartbeats 4000000 in
set_option maxRecDepth 100000 in
theorem c_Mo_act (op : Nat) (x d : Sp) (h7 : 7 ≤ op) (h18 : op ≤ 18) (hx : okS x) (hd : okS d) (h0 : op = 10 ∨ op = 11 → ¬ (d.1 = 0 ∧ d.2.1 = 0)) (H : mo_at M S J F G h) : gi_T l V y_Mo_act b_Mo_act 20 none 4 126 0 0 [.ref M, .int (nI op), .long (eL x.1), .long (eL x.2.1), .long (eL x.2.2), .long (eL d.1), .long (eL d.2.1), .long (eL d.2.2)] n h (fun v n' h' => v = none ∧ n' = n ∧ moP M F G h S J (actS op x d) h') := by
  refine gi_enter (by decide) (Nat.le_of_ble_eq_true rfl) ?_
  intro _ _ _ _ _ _ _ _ C hr hnm
  obtain ⟨fs, Ha, Hf⟩ := id H.1
  have ho : outM M h h := outM.rf
  obtain ⟨x1, x2, x3, x4, -⟩ := id hx
  have x5 := hx.st
  obtain ⟨d1, d2, d3, d4, -⟩ := id hd
  have d5 := hd.st
  have k1 := mul_I x1 (show x.1 ≤ 2147483647 by omega) d1 (show d.1 ≤ 2147483647 by omega)
  have k2 := mul_I x1 (show x.1 ≤ 2147483647 by omega) (show -2147483648 ≤ d.2.1 by omega) d3
  have k3 := mul_I (show -2147483648 ≤ x.2.1 by omega) x3 d1 (show d.1 ≤ 2147483647 by omega)
  have k4 := mul_I (show -2147483648 ≤ x.2.1 by omega) x3 (show -2147483648 ≤ d.2.1 by omega) d3
  refine gi_meet (σ := Unit) 29 (fun _ => [(14, .int (bI (decide (x.1 = x.2.1)))), (15, .int (bI (decide (d.1 = d.2.1)))), (0, .ref M), (1, .int (nI op)), (2, .long (eL x.1)), (4, .long (eL x.2.1)), (6, .long (eL x.2.2)), (8, .long (eL d.1)), (10, .long (eL d.2.1)), (12, .long (eL d.2.2))]) (fun _ => []) (fun _ y => h = y) ?_ (fun hJ => ?_)
  rotate_left
  · refine gi_lload_n (q := 1) (i := 2) C (dm_Mo_act 0 rfl) rfl rfl rfl ?_
    refine gi_lload (q := 3) C (dm_Mo_act 1 rfl) rfl rfl ?_
    refine gi_lcmp (q := 4) C (dm_Mo_act 2 rfl) rfl ?_
    refine gi_if_ne (q := 7) (tgt := 11) C (dm_Mo_act 3 rfl) rfl (by decide) (fun c4 => ?_) (fun c4 => ?_)
    · refine gi_iconst (q := 12) (v := 0) C (dm_Mo_act 6 rfl) rfl (by decide) ?_
      refine gi_istore (q := 14) C (dm_Mo_act 7 rfl) rfl (Nat.le_of_ble_eq_true rfl) ?_
      refine gi_lload (q := 16) C (dm_Mo_act 8 rfl) rfl rfl ?_
      refine gi_lload (q := 18) C (dm_Mo_act 9 rfl) rfl rfl ?_
      refine gi_lcmp (q := 19) C (dm_Mo_act 10 rfl) rfl ?_
      refine gi_if_ne (q := 22) (tgt := 26) C (dm_Mo_act 11 rfl) rfl (by decide) (fun c19 => ?_) (fun c19 => ?_)
      · refine gi_iconst (q := 27) (v := 0) C (dm_Mo_act 14 rfl) rfl (by decide) ?_
        refine gi_istore (q := 29) C (dm_Mo_act 15 rfl) rfl (Nat.le_of_ble_eq_true rfl) ?_
        (try simp (disch := omega) only [lg_cmp_ge, lg_cmp_le, lg_cmp_gt, lg_cmp_lt, lg_cmp_eq, eL_0, eL_1, eL_m1, eL_LO, eL_HI, eL_W, eL_add, eL_sub, eL_mul, eL_neg, eL_lt, eL_le, eL_eq, eL_remN, eL_mod0, ne_eq, Int64.not_lt, Int64.not_le] at c4)
        (try simp (disch := omega) only [lg_cmp_ge, lg_cmp_le, lg_cmp_gt, lg_cmp_lt, lg_cmp_eq, eL_0, eL_1, eL_m1, eL_LO, eL_HI, eL_W, eL_add, eL_sub, eL_mul, eL_neg, eL_lt, eL_le, eL_eq, eL_remN, eL_mod0, ne_eq, Int64.not_lt, Int64.not_le] at c19)
        exact gi_close (hJ () _ rfl) (List.forall_mem_cons.mpr ⟨(by rw [decide_eq_false (show ¬ x.1 = x.2.1 by omega)]; rfl), List.forall_mem_cons.mpr ⟨(by rw [decide_eq_false (show ¬ d.1 = d.2.1 by omega)]; rfl), List.forall_mem_cons.mpr ⟨rfl, List.forall_mem_cons.mpr ⟨rfl, List.forall_mem_cons.mpr ⟨rfl, List.forall_mem_cons.mpr ⟨rfl, List.forall_mem_cons.mpr ⟨rfl, List.forall_mem_cons.mpr ⟨rfl, List.forall_mem_cons.mpr ⟨rfl, List.forall_mem_cons.mpr ⟨rfl, fun _ h => absurd h List.not_mem_nil⟩⟩⟩⟩⟩⟩⟩⟩⟩⟩) rfl rfl rfl
      · refine gi_iconst (q := 23) (v := 1) C (dm_Mo_act 12 rfl) rfl (by decide) ?_
        refine gi_goto (tgt := 27) C (dm_Mo_act 13 rfl) (by decide) ?_
        refine gi_istore (q := 29) C (dm_Mo_act 15 rfl) rfl (Nat.le_of_ble_eq_true rfl) ?_
        (try simp (disch := omega) only [lg_cmp_ge, lg_cmp_le, lg_cmp_gt, lg_cmp_lt, lg_cmp_eq, eL_0, eL_1, eL_m1, eL_LO, eL_HI, eL_W, eL_add, eL_sub, eL_mul, eL_neg, eL_lt, eL_le, eL_eq, eL_remN, eL_mod0, ne_eq, Int64.not_lt, Int64.not_le] at c4)
        (try simp (disch := omega) only [lg_cmp_ge, lg_cmp_le, lg_cmp_gt, lg_cmp_lt, lg_cmp_eq, eL_0, eL_1, eL_m1, eL_LO, eL_HI, eL_W, eL_add, eL_sub, eL_mul, eL_neg, eL_lt, eL_le, eL_eq, eL_remN, eL_mod0, ne_eq, Int64.not_lt, Int64.not_le] at c19)
        exact gi_close (hJ () _ rfl) (List.forall_mem_cons.mpr ⟨(by rw [decide_eq_false (show ¬ x.1 = x.2.1 by omega)]; rfl), List.forall_mem_cons.mpr ⟨(by rw [decide_eq_true (show d.1 = d.2.1 by omega)]; rfl), List.forall_mem_cons.mpr ⟨rfl, List.forall_mem_cons.mpr ⟨rfl, List.forall_mem_cons.mpr ⟨rfl, List.forall_mem_cons.mpr ⟨rfl, List.forall_mem_cons.mpr ⟨rfl, List.forall_mem_cons.mpr ⟨rfl, List.forall_mem_cons.mpr ⟨rfl, List.forall_mem_cons.mpr ⟨rfl, fun _ h => absurd h List.not_mem_nil⟩⟩⟩⟩⟩⟩⟩⟩⟩⟩) rfl rfl rfl
    · refine gi_iconst (q := 8) (v := 1) C (dm_Mo_act 4 rfl) rfl (by decide) ?_
      refine gi_goto (tgt := 12) C (dm_Mo_act 5 rfl) (by decide) ?_
      refine gi_istore (q := 14) C (dm_Mo_act 7 rfl) rfl (Nat.le_of_ble_eq_true rfl) ?_
      refine gi_lload (q := 16) C (dm_Mo_act 8 rfl) rfl rfl ?_
      refine gi_lload (q := 18) C (dm_Mo_act 9 rfl) rfl rfl ?_
      refine gi_lcmp (q := 19) C (dm_Mo_act 10 rfl) rfl ?_
      refine gi_if_ne (q := 22) (tgt := 26) C (dm_Mo_act 11 rfl) rfl (by decide) (fun c19 => ?_) (fun c19 => ?_)
      · refine gi_iconst (q := 27) (v := 0) C (dm_Mo_act 14 rfl) rfl (by decide) ?_
        refine gi_istore (q := 29) C (dm_Mo_act 15 rfl) rfl (Nat.le_of_ble_eq_true rfl) ?_
        (try simp (disch := omega) only [lg_cmp_ge, lg_cmp_le, lg_cmp_gt, lg_cmp_lt, lg_cmp_eq, eL_0, eL_1, eL_m1, eL_LO, eL_HI, eL_W, eL_add, eL_sub, eL_mul, eL_neg, eL_lt, eL_le, eL_eq, eL_remN, eL_mod0, ne_eq, Int64.not_lt, Int64.not_le] at c4)
        (try simp (disch := omega) only [lg_cmp_ge, lg_cmp_le, lg_cmp_gt, lg_cmp_lt, lg_cmp_eq, eL_0, eL_1, eL_m1, eL_LO, eL_HI, eL_W, eL_add, eL_sub, eL_mul, eL_neg, eL_lt, eL_le, eL_eq, eL_remN, eL_mod0, ne_eq, Int64.not_lt, Int64.not_le] at c19)
        exact gi_close (hJ () _ rfl) (List.forall_mem_cons.mpr ⟨(by rw [decide_eq_true (show x.1 = x.2.1 by omega)]; rfl), List.forall_mem_cons.mpr ⟨(by rw [decide_eq_false (show ¬ d.1 = d.2.1 by omega)]; rfl), List.forall_mem_cons.mpr ⟨rfl, List.forall_mem_cons.mpr ⟨rfl, List.forall_mem_cons.mpr ⟨rfl, List.forall_mem_cons.mpr ⟨rfl, List.forall_mem_cons.mpr ⟨rfl, List.forall_mem_cons.mpr ⟨rfl, List.forall_mem_cons.mpr ⟨rfl, List.forall_mem_cons.mpr ⟨rfl, fun _ h => absurd h List.not_mem_nil⟩⟩⟩⟩⟩⟩⟩⟩⟩⟩) rfl rfl rfl
      · refine gi_iconst (q := 23) (v := 1) C (dm_Mo_act 12 rfl) rfl (by decide) ?_
        refine gi_goto (tgt := 27) C (dm_Mo_act 13 rfl) (by decide) ?_
        refine gi_istore (q := 29) C (dm_Mo_act 15 rfl) rfl (Nat.le_of_ble_eq_true rfl) ?_
        (try simp (disch := omega) only [lg_cmp_ge, lg_cmp_le, lg_cmp_gt, lg_cmp_lt, lg_cmp_eq, eL_0, eL_1, eL_m1, eL_LO, eL_HI, eL_W, eL_add, eL_sub, eL_mul, eL_neg, eL_lt, eL_le, eL_eq, eL_remN, eL_mod0, ne_eq, Int64.not_lt, Int64.not_le] at c4)
        (try simp (disch := omega) only [lg_cmp_ge, lg_cmp_le, lg_cmp_gt, lg_cmp_lt, lg_cmp_eq, eL_0, eL_1, eL_m1, eL_LO, eL_HI, eL_W, eL_add, eL_sub, eL_mul, eL_neg, eL_lt, eL_le, eL_eq, eL_remN, eL_mod0, ne_eq, Int64.not_lt, Int64.not_le] at c19)
        exact gi_close (hJ () _ rfl) (List.forall_mem_cons.mpr ⟨(by rw [decide_eq_true (show x.1 = x.2.1 by omega)]; rfl), List.forall_mem_cons.mpr ⟨(by rw [decide_eq_true (show d.1 = d.2.1 by omega)]; rfl), List.forall_mem_cons.mpr ⟨rfl, List.forall_mem_cons.mpr ⟨rfl, List.forall_mem_cons.mpr ⟨rfl, List.forall_mem_cons.mpr ⟨rfl, List.forall_mem_cons.mpr ⟨rfl, List.forall_mem_cons.mpr ⟨rfl, List.forall_mem_cons.mpr ⟨rfl, List.forall_mem_cons.mpr ⟨rfl, fun _ h => absurd h List.not_mem_nil⟩⟩⟩⟩⟩⟩⟩⟩⟩⟩) rfl rfl rfl
  rintro - _ rfl
  rcases (show op = 7 ∨ op = 8 ∨ op = 9 ∨ op = 10 ∨ op = 11 ∨ op = 12 ∨ op = 13 ∨ op = 14 ∨ op = 15 ∨ op = 16 ∨ op = 17 ∨ op = 18 by omega) with e | e | e | e | e | e | e | e | e | e | e | e
  · subst e
    refine gi_iload_n (q := 30) (i := 1) C (dm_Mo_act 16 rfl) rfl rfl rfl ?_
    refine gi_tableIn (off := 62) (tgt := 92) C (dm_Mo_act 17 rfl) (by decide) (by decide) rfl (by decide) ?_
    refine gi_aload_n (q := 93) (i := 0) C (dm_Mo_act 18 rfl) rfl rfl rfl ?_
    refine gi_lload_n (q := 94) (i := 2) C (dm_Mo_act 19 rfl) rfl rfl rfl ?_
    refine gi_lload (q := 96) C (dm_Mo_act 20 rfl) rfl rfl ?_
    refine gi_ladd (q := 97) C (dm_Mo_act 21 rfl) rfl ?_
    rw [eL_add]
    refine gi_lload (q := 99) C (dm_Mo_act 22 rfl) rfl rfl ?_
    refine gi_lload (q := 101) C (dm_Mo_act 23 rfl) rfl rfl ?_
    refine gi_ladd (q := 102) C (dm_Mo_act 24 rfl) rfl ?_
    rw [eL_add]
    refine gi_lload (q := 104) C (dm_Mo_act 25 rfl) rfl rfl ?_
    refine gi_lload (q := 106) C (dm_Mo_act 26 rfl) rfl rfl ?_
    refine gi_calls 2 (q := 109) C (dm_Mo_act 27 rfl) rfl my_Mo_gcd lk_Mo_259 sm_Mo_gcd (c_Mo_gcd x.2.2 d.2.2 (by omega) (by omega) (by omega) (by omega)) rfl rfl ⟨(Nat.le_of_ble_eq_true rfl), (Nat.le_of_ble_eq_true rfl)⟩ (Nat.le_of_ble_eq_true rfl) ⟨(Nat.le_of_ble_eq_true rfl), (Nat.le_of_ble_eq_true rfl)⟩ (fun r106 n106 h106 e106 => ?_)
    obtain ⟨rfl, q106, u106⟩ := e106
    rw [q106, u106]
    have gg := gcd_b32 (a := x.2.2) (b := d.2.2) (by omega) (by omega) (by omega) (by omega)
    refine gi_callv 3 (q := 112) C (dm_Mo_act 28 rfl) rfl my_Mo_turned lk_Mo_282 im_Mo_turned rfl (c_Mo_turned (x.1 + d.1) (x.2.1 + d.2.1) ((Int.gcd x.2.2 d.2.2 : Nat)) (by omega) (by omega) (by omega) (by omega) (by omega) (by omega) H) Ha rfl rfl ⟨(Nat.le_of_ble_eq_true rfl), (Nat.le_of_ble_eq_true rfl)⟩ (Nat.le_of_ble_eq_true rfl) ⟨(Nat.le_of_ble_eq_true rfl), (Nat.le_of_ble_eq_true rfl)⟩ (fun r109 n109 h109 e109 => ?_)
    obtain ⟨rfl, rfl, W109⟩ := e109
    refine gi_goto (tgt := 419) C (dm_Mo_act 29 rfl) (by decide) ?_
    refine gi_vret C hr (dm_Mo_act 189 rfl) ?_
    refine ⟨rfl, rfl, ?_⟩
    show moP M F G h S J (turnS (x.1 + d.1) (x.2.1 + d.2.1) (Int.gcd x.2.2 d.2.2 : Nat)) _
    exact W109.p
  · subst e
    refine gi_iload_n (q := 30) (i := 1) C (dm_Mo_act 16 rfl) rfl rfl rfl ?_
    refine gi_tableIn (off := 85) (tgt := 115) C (dm_Mo_act 17 rfl) (by decide) (by decide) rfl (by decide) ?_
    refine gi_aload_n (q := 116) (i := 0) C (dm_Mo_act 30 rfl) rfl rfl rfl ?_
    refine gi_lload_n (q := 117) (i := 2) C (dm_Mo_act 31 rfl) rfl rfl rfl ?_
    refine gi_lload (q := 119) C (dm_Mo_act 32 rfl) rfl rfl ?_
    refine gi_lsub (q := 120) C (dm_Mo_act 33 rfl) rfl ?_
    rw [eL_sub]
    refine gi_lload (q := 122) C (dm_Mo_act 34 rfl) rfl rfl ?_
    refine gi_lload (q := 124) C (dm_Mo_act 35 rfl) rfl rfl ?_
    refine gi_lsub (q := 125) C (dm_Mo_act 36 rfl) rfl ?_
    rw [eL_sub]
    refine gi_lload (q := 127) C (dm_Mo_act 37 rfl) rfl rfl ?_
    refine gi_lload (q := 129) C (dm_Mo_act 38 rfl) rfl rfl ?_
    refine gi_calls 2 (q := 132) C (dm_Mo_act 39 rfl) rfl my_Mo_gcd lk_Mo_259 sm_Mo_gcd (c_Mo_gcd x.2.2 d.2.2 (by omega) (by omega) (by omega) (by omega)) rfl rfl ⟨(Nat.le_of_ble_eq_true rfl), (Nat.le_of_ble_eq_true rfl)⟩ (Nat.le_of_ble_eq_true rfl) ⟨(Nat.le_of_ble_eq_true rfl), (Nat.le_of_ble_eq_true rfl)⟩ (fun r129 n129 h129 e129 => ?_)
    obtain ⟨rfl, q129, u129⟩ := e129
    rw [q129, u129]
    have gg := gcd_b32 (a := x.2.2) (b := d.2.2) (by omega) (by omega) (by omega) (by omega)
    refine gi_callv 3 (q := 135) C (dm_Mo_act 40 rfl) rfl my_Mo_turned lk_Mo_282 im_Mo_turned rfl (c_Mo_turned (x.1 - d.2.1) (x.2.1 - d.1) ((Int.gcd x.2.2 d.2.2 : Nat)) (by omega) (by omega) (by omega) (by omega) (by omega) (by omega) H) Ha rfl rfl ⟨(Nat.le_of_ble_eq_true rfl), (Nat.le_of_ble_eq_true rfl)⟩ (Nat.le_of_ble_eq_true rfl) ⟨(Nat.le_of_ble_eq_true rfl), (Nat.le_of_ble_eq_true rfl)⟩ (fun r132 n132 h132 e132 => ?_)
    obtain ⟨rfl, rfl, W132⟩ := e132
    refine gi_goto (tgt := 419) C (dm_Mo_act 41 rfl) (by decide) ?_
    refine gi_vret C hr (dm_Mo_act 189 rfl) ?_
    refine ⟨rfl, rfl, ?_⟩
    show moP M F G h S J (turnS (x.1 - d.2.1) (x.2.1 - d.1) (Int.gcd x.2.2 d.2.2 : Nat)) _
    exact W132.p
  · subst e
    refine gi_iload_n (q := 30) (i := 1) C (dm_Mo_act 16 rfl) rfl rfl rfl ?_
    refine gi_tableIn (off := 122) (tgt := 152) C (dm_Mo_act 17 rfl) (by decide) (by decide) rfl (by decide) ?_
    refine gi_iload (q := 154) C (dm_Mo_act 50 rfl) rfl rfl ?_
    refine gi_if_eq (q := 157) (tgt := 171) C (dm_Mo_act 51 rfl) rfl (by decide) (fun c154 => ?_) (fun c154 => ?_)
    · refine gi_iload (q := 173) C (dm_Mo_act 59 rfl) rfl rfl ?_
      refine gi_if_eq (q := 176) (tgt := 190) C (dm_Mo_act 60 rfl) rfl (by decide) (fun c173 => ?_) (fun c173 => ?_)
      · refine gi_lload_n (q := 191) (i := 2) C (dm_Mo_act 68 rfl) rfl rfl rfl ?_
        refine gi_lload (q := 193) C (dm_Mo_act 69 rfl) rfl rfl ?_
        refine gi_lmul (q := 194) C (dm_Mo_act 70 rfl) rfl ?_
        rw [eL_mul]
        refine gi_lload_n (q := 195) (i := 2) C (dm_Mo_act 71 rfl) rfl rfl rfl ?_
        refine gi_lload (q := 197) C (dm_Mo_act 72 rfl) rfl rfl ?_
        refine gi_lmul (q := 198) C (dm_Mo_act 73 rfl) rfl ?_
        rw [eL_mul]
        refine gi_calls 2 (q := 201) C (dm_Mo_act 74 rfl) rfl my_Mo_min lk_Mo_252 sm_Mo_min (c_Mo_min (x.1 * d.1) (x.1 * d.2.1) (by omega) (by omega) (by omega) (by omega)) rfl rfl ⟨(Nat.le_of_ble_eq_true rfl), (Nat.le_of_ble_eq_true rfl)⟩ (Nat.le_of_ble_eq_true rfl) ⟨(Nat.le_of_ble_eq_true rfl), (Nat.le_of_ble_eq_true rfl)⟩ (fun r198 n198 h198 e198 => ?_)
        obtain ⟨rfl, q198, u198⟩ := e198
        rw [q198, u198]
        refine gi_lload (q := 203) C (dm_Mo_act 75 rfl) rfl rfl ?_
        refine gi_lload (q := 205) C (dm_Mo_act 76 rfl) rfl rfl ?_
        refine gi_lmul (q := 206) C (dm_Mo_act 77 rfl) rfl ?_
        rw [eL_mul]
        refine gi_lload (q := 208) C (dm_Mo_act 78 rfl) rfl rfl ?_
        refine gi_lload (q := 210) C (dm_Mo_act 79 rfl) rfl rfl ?_
        refine gi_lmul (q := 211) C (dm_Mo_act 80 rfl) rfl ?_
        rw [eL_mul]
        refine gi_calls 2 (q := 214) C (dm_Mo_act 81 rfl) rfl my_Mo_min lk_Mo_252 sm_Mo_min (c_Mo_min (x.2.1 * d.1) (x.2.1 * d.2.1) (by omega) (by omega) (by omega) (by omega)) rfl rfl ⟨(Nat.le_of_ble_eq_true rfl), (Nat.le_of_ble_eq_true rfl)⟩ (Nat.le_of_ble_eq_true rfl) ⟨(Nat.le_of_ble_eq_true rfl), (Nat.le_of_ble_eq_true rfl)⟩ (fun r211 n211 h211 e211 => ?_)
        obtain ⟨rfl, q211, u211⟩ := e211
        rw [q211, u211]
        refine gi_calls 2 (q := 217) C (dm_Mo_act 82 rfl) rfl my_Mo_min lk_Mo_252 sm_Mo_min (c_Mo_min (min (x.1 * d.1) (x.1 * d.2.1)) (min (x.2.1 * d.1) (x.2.1 * d.2.1)) (by omega) (by omega) (by omega) (by omega)) rfl rfl ⟨(Nat.le_of_ble_eq_true rfl), (Nat.le_of_ble_eq_true rfl)⟩ (Nat.le_of_ble_eq_true rfl) ⟨(Nat.le_of_ble_eq_true rfl), (Nat.le_of_ble_eq_true rfl)⟩ (fun r214 n214 h214 e214 => ?_)
        obtain ⟨rfl, q214, u214⟩ := e214
        rw [q214, u214]
        refine gi_lstore (q := 219) C (dm_Mo_act 83 rfl) rfl (Nat.le_of_ble_eq_true rfl) ?_
        refine gi_lload_n (q := 220) (i := 2) C (dm_Mo_act 84 rfl) rfl rfl rfl ?_
        refine gi_lload (q := 222) C (dm_Mo_act 85 rfl) rfl rfl ?_
        refine gi_lmul (q := 223) C (dm_Mo_act 86 rfl) rfl ?_
        rw [eL_mul]
        refine gi_lload_n (q := 224) (i := 2) C (dm_Mo_act 87 rfl) rfl rfl rfl ?_
        refine gi_lload (q := 226) C (dm_Mo_act 88 rfl) rfl rfl ?_
        refine gi_lmul (q := 227) C (dm_Mo_act 89 rfl) rfl ?_
        rw [eL_mul]
        refine gi_calls 2 (q := 230) C (dm_Mo_act 90 rfl) rfl my_Mo_max lk_Mo_256 sm_Mo_max (c_Mo_max (x.1 * d.1) (x.1 * d.2.1) (by omega) (by omega) (by omega) (by omega)) rfl rfl ⟨(Nat.le_of_ble_eq_true rfl), (Nat.le_of_ble_eq_true rfl)⟩ (Nat.le_of_ble_eq_true rfl) ⟨(Nat.le_of_ble_eq_true rfl), (Nat.le_of_ble_eq_true rfl)⟩ (fun r227 n227 h227 e227 => ?_)
        obtain ⟨rfl, q227, u227⟩ := e227
        rw [q227, u227]
        refine gi_lload (q := 232) C (dm_Mo_act 91 rfl) rfl rfl ?_
        refine gi_lload (q := 234) C (dm_Mo_act 92 rfl) rfl rfl ?_
        refine gi_lmul (q := 235) C (dm_Mo_act 93 rfl) rfl ?_
        rw [eL_mul]
        refine gi_lload (q := 237) C (dm_Mo_act 94 rfl) rfl rfl ?_
        refine gi_lload (q := 239) C (dm_Mo_act 95 rfl) rfl rfl ?_
        refine gi_lmul (q := 240) C (dm_Mo_act 96 rfl) rfl ?_
        rw [eL_mul]
        refine gi_calls 2 (q := 243) C (dm_Mo_act 97 rfl) rfl my_Mo_max lk_Mo_256 sm_Mo_max (c_Mo_max (x.2.1 * d.1) (x.2.1 * d.2.1) (by omega) (by omega) (by omega) (by omega)) rfl rfl ⟨(Nat.le_of_ble_eq_true rfl), (Nat.le_of_ble_eq_true rfl)⟩ (Nat.le_of_ble_eq_true rfl) ⟨(Nat.le_of_ble_eq_true rfl), (Nat.le_of_ble_eq_true rfl)⟩ (fun r240 n240 h240 e240 => ?_)
        obtain ⟨rfl, q240, u240⟩ := e240
        rw [q240, u240]
        refine gi_calls 2 (q := 246) C (dm_Mo_act 98 rfl) rfl my_Mo_max lk_Mo_256 sm_Mo_max (c_Mo_max (max (x.1 * d.1) (x.1 * d.2.1)) (max (x.2.1 * d.1) (x.2.1 * d.2.1)) (by omega) (by omega) (by omega) (by omega)) rfl rfl ⟨(Nat.le_of_ble_eq_true rfl), (Nat.le_of_ble_eq_true rfl)⟩ (Nat.le_of_ble_eq_true rfl) ⟨(Nat.le_of_ble_eq_true rfl), (Nat.le_of_ble_eq_true rfl)⟩ (fun r243 n243 h243 e243 => ?_)
        obtain ⟨rfl, q243, u243⟩ := e243
        rw [q243, u243]
        refine gi_lstore (q := 248) C (dm_Mo_act 99 rfl) rfl (Nat.le_of_ble_eq_true rfl) ?_
        refine gi_aload_n (q := 249) (i := 0) C (dm_Mo_act 100 rfl) rfl rfl rfl ?_
        refine gi_lload (q := 251) C (dm_Mo_act 101 rfl) rfl rfl ?_
        refine gi_lload (q := 253) C (dm_Mo_act 102 rfl) rfl rfl ?_
        refine gi_lconst (q := 254) (v := 1) C (dm_Mo_act 103 rfl) rfl (by decide) ?_
        rw [eL_1]
        refine gi_callv 3 (q := 257) C (dm_Mo_act 104 rfl) rfl my_Mo_turned lk_Mo_282 im_Mo_turned rfl (c_Mo_turned (min (min (x.1 * d.1) (x.1 * d.2.1)) (min (x.2.1 * d.1) (x.2.1 * d.2.1))) (max (max (x.1 * d.1) (x.1 * d.2.1)) (max (x.2.1 * d.1) (x.2.1 * d.2.1))) (1) (by omega) (by omega) (by omega) (by omega) (by omega) (by omega) H) Ha rfl rfl ⟨(Nat.le_of_ble_eq_true rfl), (Nat.le_of_ble_eq_true rfl)⟩ (Nat.le_of_ble_eq_true rfl) ⟨(Nat.le_of_ble_eq_true rfl), (Nat.le_of_ble_eq_true rfl)⟩ (fun r254 n254 h254 e254 => ?_)
        obtain ⟨rfl, rfl, W254⟩ := e254
        refine gi_goto (tgt := 419) C (dm_Mo_act 105 rfl) (by decide) ?_
        refine gi_vret C hr (dm_Mo_act 189 rfl) ?_
        have sg : ¬ x.1 = x.2.1 := by
          have := bI_fa (b := decide (x.1 = x.2.1)) c154
          simpa using this
        have tg : ¬ d.1 = d.2.1 := by
          have := bI_fa (b := decide (d.1 = d.2.1)) c173
          simpa using this
        refine ⟨rfl, rfl, ?_⟩
        show moP M F G h S J ((if x.1 = x.2.1 then timesS x.1 d else if d.1 = d.2.1 then timesS d.1 x else mulS x d)) _
        rw [if_neg sg, if_neg tg]
        exact W254.p
      · refine gi_aload_n (q := 177) (i := 0) C (dm_Mo_act 61 rfl) rfl rfl rfl ?_
        refine gi_lload (q := 179) C (dm_Mo_act 62 rfl) rfl rfl ?_
        refine gi_lload_n (q := 180) (i := 2) C (dm_Mo_act 63 rfl) rfl rfl rfl ?_
        refine gi_lload (q := 182) C (dm_Mo_act 64 rfl) rfl rfl ?_
        refine gi_lload (q := 184) C (dm_Mo_act 65 rfl) rfl rfl ?_
        refine gi_callv 4 (q := 187) C (dm_Mo_act 66 rfl) rfl my_Mo_times lk_Mo_287 im_Mo_times rfl (c_Mo_times d.1 x (by omega) (by omega) hx H) Ha rfl rfl ⟨(Nat.le_of_ble_eq_true rfl), (Nat.le_of_ble_eq_true rfl)⟩ (Nat.le_of_ble_eq_true rfl) ⟨(Nat.le_of_ble_eq_true rfl), (Nat.le_of_ble_eq_true rfl)⟩ (fun r184 n184 h184 e184 => ?_)
        obtain ⟨rfl, rfl, W184⟩ := e184
        refine gi_goto (tgt := 419) C (dm_Mo_act 67 rfl) (by decide) ?_
        refine gi_vret C hr (dm_Mo_act 189 rfl) ?_
        have sg : ¬ x.1 = x.2.1 := by
          have := bI_fa (b := decide (x.1 = x.2.1)) c154
          simpa using this
        have tg : d.1 = d.2.1 := by
          have := bI_t (b := decide (d.1 = d.2.1)) c173
          simpa using this
        refine ⟨rfl, rfl, ?_⟩
        show moP M F G h S J ((if x.1 = x.2.1 then timesS x.1 d else if d.1 = d.2.1 then timesS d.1 x else mulS x d)) _
        rw [if_neg sg, if_pos tg]
        exact W184.p
    · refine gi_aload_n (q := 158) (i := 0) C (dm_Mo_act 52 rfl) rfl rfl rfl ?_
      refine gi_lload_n (q := 159) (i := 2) C (dm_Mo_act 53 rfl) rfl rfl rfl ?_
      refine gi_lload (q := 161) C (dm_Mo_act 54 rfl) rfl rfl ?_
      refine gi_lload (q := 163) C (dm_Mo_act 55 rfl) rfl rfl ?_
      refine gi_lload (q := 165) C (dm_Mo_act 56 rfl) rfl rfl ?_
      refine gi_callv 4 (q := 168) C (dm_Mo_act 57 rfl) rfl my_Mo_times lk_Mo_287 im_Mo_times rfl (c_Mo_times x.1 d (by omega) (by omega) hd H) Ha rfl rfl ⟨(Nat.le_of_ble_eq_true rfl), (Nat.le_of_ble_eq_true rfl)⟩ (Nat.le_of_ble_eq_true rfl) ⟨(Nat.le_of_ble_eq_true rfl), (Nat.le_of_ble_eq_true rfl)⟩ (fun r165 n165 h165 e165 => ?_)
      obtain ⟨rfl, rfl, W165⟩ := e165
      refine gi_goto (tgt := 419) C (dm_Mo_act 58 rfl) (by decide) ?_
      refine gi_vret C hr (dm_Mo_act 189 rfl) ?_
      have sg : x.1 = x.2.1 := by
        have := bI_t (b := decide (x.1 = x.2.1)) c154
        simpa using this
      refine ⟨rfl, rfl, ?_⟩
      show moP M F G h S J ((if x.1 = x.2.1 then timesS x.1 d else if d.1 = d.2.1 then timesS d.1 x else mulS x d)) _
      rw [if_pos sg]
      exact W165.p
  · subst e
    refine gi_iload_n (q := 30) (i := 1) C (dm_Mo_act 16 rfl) rfl rfl rfl ?_
    refine gi_tableIn (off := 263) (tgt := 293) C (dm_Mo_act 17 rfl) (by decide) (by decide) rfl (by decide) ?_
    refine gi_aload_n (q := 294) (i := 0) C (dm_Mo_act 123 rfl) rfl rfl rfl ?_
    refine gi_lload_n (q := 295) (i := 2) C (dm_Mo_act 124 rfl) rfl rfl rfl ?_
    refine gi_lload (q := 297) C (dm_Mo_act 125 rfl) rfl rfl ?_
    refine gi_lload (q := 299) C (dm_Mo_act 126 rfl) rfl rfl ?_
    refine gi_lload (q := 301) C (dm_Mo_act 127 rfl) rfl rfl ?_
    refine gi_lload (q := 303) C (dm_Mo_act 128 rfl) rfl rfl ?_
    refine gi_callv 5 (q := 306) C (dm_Mo_act 129 rfl) rfl my_Mo_over lk_Mo_299 im_Mo_over rfl (c_Mo_over x d hx hd (h0 (Or.inl rfl)) H) Ha rfl rfl ⟨(Nat.le_of_ble_eq_true rfl), (Nat.le_of_ble_eq_true rfl)⟩ (Nat.le_of_ble_eq_true rfl) ⟨(Nat.le_of_ble_eq_true rfl), (Nat.le_of_ble_eq_true rfl)⟩ (fun r303 n303 h303 e303 => ?_)
    obtain ⟨rfl, rfl, W303⟩ := e303
    refine gi_goto (tgt := 419) C (dm_Mo_act 130 rfl) (by decide) ?_
    refine gi_vret C hr (dm_Mo_act 189 rfl) ?_
    refine ⟨rfl, rfl, ?_⟩
    show moP M F G h S J (overS x d) _
    exact W303
  · subst e
    refine gi_iload_n (q := 30) (i := 1) C (dm_Mo_act 16 rfl) rfl rfl rfl ?_
    refine gi_tableIn (off := 279) (tgt := 309) C (dm_Mo_act 17 rfl) (by decide) (by decide) rfl (by decide) ?_
    refine gi_aload_n (q := 310) (i := 0) C (dm_Mo_act 131 rfl) rfl rfl rfl ?_
    refine gi_lload_n (q := 311) (i := 2) C (dm_Mo_act 132 rfl) rfl rfl rfl ?_
    refine gi_lload (q := 313) C (dm_Mo_act 133 rfl) rfl rfl ?_
    refine gi_lload (q := 315) C (dm_Mo_act 134 rfl) rfl rfl ?_
    refine gi_lload (q := 317) C (dm_Mo_act 135 rfl) rfl rfl ?_
    refine gi_lload (q := 319) C (dm_Mo_act 136 rfl) rfl rfl ?_
    refine gi_lload (q := 321) C (dm_Mo_act 137 rfl) rfl rfl ?_
    refine gi_callv 6 (q := 324) C (dm_Mo_act 138 rfl) rfl my_Mo_rest lk_Mo_303 im_Mo_rest rfl (c_Mo_rest x d hx hd (h0 (Or.inr rfl)) H) Ha rfl rfl ⟨(Nat.le_of_ble_eq_true rfl), (Nat.le_of_ble_eq_true rfl)⟩ (Nat.le_of_ble_eq_true rfl) ⟨(Nat.le_of_ble_eq_true rfl), (Nat.le_of_ble_eq_true rfl)⟩ (fun r321 n321 h321 e321 => ?_)
    obtain ⟨rfl, rfl, W321⟩ := e321
    refine gi_goto (tgt := 419) C (dm_Mo_act 139 rfl) (by decide) ?_
    refine gi_vret C hr (dm_Mo_act 189 rfl) ?_
    refine ⟨rfl, rfl, ?_⟩
    show moP M F G h S J (restS x d) _
    exact W321
  · subst e
    refine gi_iload_n (q := 30) (i := 1) C (dm_Mo_act 16 rfl) rfl rfl rfl ?_
    refine gi_tableIn (off := 297) (tgt := 327) C (dm_Mo_act 17 rfl) (by decide) (by decide) rfl (by decide) ?_
    refine gi_aload_n (q := 328) (i := 0) C (dm_Mo_act 140 rfl) rfl rfl rfl ?_
    refine gi_iload_n (q := 329) (i := 1) C (dm_Mo_act 141 rfl) rfl rfl rfl ?_
    refine gi_lload_n (q := 330) (i := 2) C (dm_Mo_act 142 rfl) rfl rfl rfl ?_
    refine gi_lload (q := 332) C (dm_Mo_act 143 rfl) rfl rfl ?_
    refine gi_lload (q := 334) C (dm_Mo_act 144 rfl) rfl rfl ?_
    refine gi_lload (q := 336) C (dm_Mo_act 145 rfl) rfl rfl ?_
    refine gi_callv 5 (q := 339) C (dm_Mo_act 146 rfl) rfl my_Mo_logic lk_Mo_307 im_Mo_logic rfl (c_Mo_logic 12 x d (by decide) (by decide) hx hd H) Ha rfl rfl ⟨(Nat.le_of_ble_eq_true rfl), (Nat.le_of_ble_eq_true rfl)⟩ (Nat.le_of_ble_eq_true rfl) ⟨(Nat.le_of_ble_eq_true rfl), (Nat.le_of_ble_eq_true rfl)⟩ (fun r336 n336 h336 e336 => ?_)
    obtain ⟨rfl, rfl, W336⟩ := e336
    refine gi_goto (tgt := 419) C (dm_Mo_act 147 rfl) (by decide) ?_
    refine gi_vret C hr (dm_Mo_act 189 rfl) ?_
    refine ⟨rfl, rfl, ?_⟩
    show moP M F G h S J (logS 12 x d) _
    exact W336.p
  · subst e
    refine gi_iload_n (q := 30) (i := 1) C (dm_Mo_act 16 rfl) rfl rfl rfl ?_
    refine gi_tableIn (off := 297) (tgt := 327) C (dm_Mo_act 17 rfl) (by decide) (by decide) rfl (by decide) ?_
    refine gi_aload_n (q := 328) (i := 0) C (dm_Mo_act 140 rfl) rfl rfl rfl ?_
    refine gi_iload_n (q := 329) (i := 1) C (dm_Mo_act 141 rfl) rfl rfl rfl ?_
    refine gi_lload_n (q := 330) (i := 2) C (dm_Mo_act 142 rfl) rfl rfl rfl ?_
    refine gi_lload (q := 332) C (dm_Mo_act 143 rfl) rfl rfl ?_
    refine gi_lload (q := 334) C (dm_Mo_act 144 rfl) rfl rfl ?_
    refine gi_lload (q := 336) C (dm_Mo_act 145 rfl) rfl rfl ?_
    refine gi_callv 5 (q := 339) C (dm_Mo_act 146 rfl) rfl my_Mo_logic lk_Mo_307 im_Mo_logic rfl (c_Mo_logic 13 x d (by decide) (by decide) hx hd H) Ha rfl rfl ⟨(Nat.le_of_ble_eq_true rfl), (Nat.le_of_ble_eq_true rfl)⟩ (Nat.le_of_ble_eq_true rfl) ⟨(Nat.le_of_ble_eq_true rfl), (Nat.le_of_ble_eq_true rfl)⟩ (fun r336 n336 h336 e336 => ?_)
    obtain ⟨rfl, rfl, W336⟩ := e336
    refine gi_goto (tgt := 419) C (dm_Mo_act 147 rfl) (by decide) ?_
    refine gi_vret C hr (dm_Mo_act 189 rfl) ?_
    refine ⟨rfl, rfl, ?_⟩
    show moP M F G h S J (logS 13 x d) _
    exact W336.p
  · subst e
    refine gi_iload_n (q := 30) (i := 1) C (dm_Mo_act 16 rfl) rfl rfl rfl ?_
    refine gi_tableIn (off := 297) (tgt := 327) C (dm_Mo_act 17 rfl) (by decide) (by decide) rfl (by decide) ?_
    refine gi_aload_n (q := 328) (i := 0) C (dm_Mo_act 140 rfl) rfl rfl rfl ?_
    refine gi_iload_n (q := 329) (i := 1) C (dm_Mo_act 141 rfl) rfl rfl rfl ?_
    refine gi_lload_n (q := 330) (i := 2) C (dm_Mo_act 142 rfl) rfl rfl rfl ?_
    refine gi_lload (q := 332) C (dm_Mo_act 143 rfl) rfl rfl ?_
    refine gi_lload (q := 334) C (dm_Mo_act 144 rfl) rfl rfl ?_
    refine gi_lload (q := 336) C (dm_Mo_act 145 rfl) rfl rfl ?_
    refine gi_callv 5 (q := 339) C (dm_Mo_act 146 rfl) rfl my_Mo_logic lk_Mo_307 im_Mo_logic rfl (c_Mo_logic 14 x d (by decide) (by decide) hx hd H) Ha rfl rfl ⟨(Nat.le_of_ble_eq_true rfl), (Nat.le_of_ble_eq_true rfl)⟩ (Nat.le_of_ble_eq_true rfl) ⟨(Nat.le_of_ble_eq_true rfl), (Nat.le_of_ble_eq_true rfl)⟩ (fun r336 n336 h336 e336 => ?_)
    obtain ⟨rfl, rfl, W336⟩ := e336
    refine gi_goto (tgt := 419) C (dm_Mo_act 147 rfl) (by decide) ?_
    refine gi_vret C hr (dm_Mo_act 189 rfl) ?_
    refine ⟨rfl, rfl, ?_⟩
    show moP M F G h S J (logS 14 x d) _
    exact W336.p
  · subst e
    refine gi_iload_n (q := 30) (i := 1) C (dm_Mo_act 16 rfl) rfl rfl rfl ?_
    refine gi_tableIn (off := 230) (tgt := 260) C (dm_Mo_act 17 rfl) (by decide) (by decide) rfl (by decide) ?_
    refine gi_iload (q := 262) C (dm_Mo_act 106 rfl) rfl rfl ?_
    refine gi_if_eq (q := 265) (tgt := 285) C (dm_Mo_act 107 rfl) rfl (by decide) (fun c262 => ?_) (fun c262 => ?_)
    · refine gi_aload_n (q := 286) (i := 0) C (dm_Mo_act 119 rfl) rfl rfl rfl ?_
      refine gi_lconst (q := 287) (v := 1) C (dm_Mo_act 120 rfl) rfl (by decide) ?_
      rw [eL_1]
      refine gi_callv 1 (q := 290) C (dm_Mo_act 121 rfl) rfl my_Mo_all lk_Mo_295 im_Mo_all rfl (c_Mo_all H) Ha rfl rfl ⟨(Nat.le_of_ble_eq_true rfl), (Nat.le_of_ble_eq_true rfl)⟩ (Nat.le_of_ble_eq_true rfl) ⟨(Nat.le_of_ble_eq_true rfl), (Nat.le_of_ble_eq_true rfl)⟩ (fun r287 n287 h287 e287 => ?_)
      obtain ⟨rfl, rfl, W287⟩ := e287
      refine gi_goto (tgt := 419) C (dm_Mo_act 122 rfl) (by decide) ?_
      refine gi_vret C hr (dm_Mo_act 189 rfl) ?_
      have tg : ¬ d.1 = d.2.1 := by
        have := bI_fa (b := decide (d.1 = d.2.1)) c262
        simpa using this
      refine ⟨rfl, rfl, ?_⟩
      show moP M F G h S J ((if d.1 = d.2.1 then timesS (2 ^ (d.1 % 32).toNat) x else allS)) _
      rw [if_neg tg]
      exact W287.p
    · have tg : d.1 = d.2.1 := by
        have := bI_t (b := decide (d.1 = d.2.1)) c262
        simpa using this
      have q5 : ∃ q : Nat, q = (d.1 % 32).toNat ∧ q < 32 := ⟨_, rfl, by omega⟩
      obtain ⟨q, eq, q32⟩ := q5
      have el5 : (eL (d.1 % 32)).toInt32 = nI q := by rw [low5_n, ← eq]
      have dl := div_r x.1 q
      have dh := div_r x.2.1 q
      have p1 := pw31 q q32
      have p0 := (pw_b q (by omega)).1
      
      refine gi_aload_n (q := 266) (i := 0) C (dm_Mo_act 108 rfl) rfl rfl rfl ?_
      refine gi_lconst (q := 267) (v := 1) C (dm_Mo_act 109 rfl) rfl (by decide) ?_
      refine gi_lload (q := 269) C (dm_Mo_act 110 rfl) rfl rfl ?_
      refine gi_calls 1 (q := 272) C (dm_Mo_act 111 rfl) rfl my_Mo_low5 lk_Mo_291 sm_Mo_low5 (c_Mo_low5 d.1) rfl rfl ⟨(Nat.le_of_ble_eq_true rfl), (Nat.le_of_ble_eq_true rfl)⟩ (Nat.le_of_ble_eq_true rfl) ⟨(Nat.le_of_ble_eq_true rfl), (Nat.le_of_ble_eq_true rfl)⟩ (fun r269 n269 h269 e269 => ?_)
      obtain ⟨rfl, q269, u269⟩ := e269
      rw [q269, u269]
      refine gi_l2i (q := 273) C (dm_Mo_act 112 rfl) rfl ?_
      rw [el5]
      refine gi_lshl (q := 274) C (dm_Mo_act 113 rfl) rfl ?_
      rw [sp_shl1 _ (by omega)]
      refine gi_lload_n (q := 275) (i := 2) C (dm_Mo_act 114 rfl) rfl rfl rfl ?_
      refine gi_lload (q := 277) C (dm_Mo_act 115 rfl) rfl rfl ?_
      refine gi_lload (q := 279) C (dm_Mo_act 116 rfl) rfl rfl ?_
      refine gi_callv 4 (q := 282) C (dm_Mo_act 117 rfl) rfl my_Mo_times lk_Mo_287 im_Mo_times rfl (c_Mo_times (2 ^ q) x (by omega) (by omega) hx H) Ha rfl rfl ⟨(Nat.le_of_ble_eq_true rfl), (Nat.le_of_ble_eq_true rfl)⟩ (Nat.le_of_ble_eq_true rfl) ⟨(Nat.le_of_ble_eq_true rfl), (Nat.le_of_ble_eq_true rfl)⟩ (fun r279 n279 h279 e279 => ?_)
      obtain ⟨rfl, rfl, W279⟩ := e279
      refine gi_goto (tgt := 419) C (dm_Mo_act 118 rfl) (by decide) ?_
      refine gi_vret C hr (dm_Mo_act 189 rfl) ?_
      refine ⟨rfl, rfl, ?_⟩
      show moP M F G h S J ((if d.1 = d.2.1 then timesS (2 ^ (d.1 % 32).toNat) x else allS)) _
      rw [if_pos tg, ← eq]
      exact W279.p
  · subst e
    refine gi_iload_n (q := 30) (i := 1) C (dm_Mo_act 16 rfl) rfl rfl rfl ?_
    refine gi_tableIn (off := 312) (tgt := 342) C (dm_Mo_act 17 rfl) (by decide) (by decide) rfl (by decide) ?_
    refine gi_iload (q := 344) C (dm_Mo_act 148 rfl) rfl rfl ?_
    refine gi_if_eq (q := 347) (tgt := 372) C (dm_Mo_act 149 rfl) rfl (by decide) (fun c344 => ?_) (fun c344 => ?_)
    · refine gi_aload_n (q := 373) (i := 0) C (dm_Mo_act 164 rfl) rfl rfl rfl ?_
      refine gi_lload_n (q := 374) (i := 2) C (dm_Mo_act 165 rfl) rfl rfl rfl ?_
      refine gi_lconst (q := 375) (v := 0) C (dm_Mo_act 166 rfl) rfl (by decide) ?_
      refine gi_lcmp (q := 376) C (dm_Mo_act 167 rfl) rfl ?_
      refine gi_if_ge (q := 379) (tgt := 383) C (dm_Mo_act 168 rfl) rfl (by decide) (fun c376 => ?_) (fun c376 => ?_)
      · refine gi_lconst (q := 384) (v := 0) C (dm_Mo_act 171 rfl) rfl (by decide) ?_
        refine gi_lload (q := 386) C (dm_Mo_act 172 rfl) rfl rfl ?_
        refine gi_lconst (q := 387) (v := 0) C (dm_Mo_act 173 rfl) rfl (by decide) ?_
        refine gi_lcmp (q := 388) C (dm_Mo_act 174 rfl) rfl ?_
        refine gi_if_lt (q := 391) (tgt := 396) C (dm_Mo_act 175 rfl) rfl (by decide) (fun c388 => ?_) (fun c388 => ?_)
        · refine gi_ldc2 (q := 399) C (dm_Mo_act 178 rfl) rfl kc_Mo_311 ?_
          refine gi_lconst (q := 400) (v := 1) C (dm_Mo_act 179 rfl) rfl (by decide) ?_
          rw [eL_1]
          (try rw [eL_m1])
          refine gi_callv 3 (q := 403) C (dm_Mo_act 180 rfl) rfl my_Mo_set lk_Mo_262 im_Mo_set rfl (c_Mo_set (0) (-1) 1 (by omega) (by omega) (by omega) (by omega) H) Ha rfl rfl ⟨(Nat.le_of_ble_eq_true rfl), (Nat.le_of_ble_eq_true rfl)⟩ (Nat.le_of_ble_eq_true rfl) ⟨(Nat.le_of_ble_eq_true rfl), (Nat.le_of_ble_eq_true rfl)⟩ (fun r400 n400 h400 e400 => ?_)
          obtain ⟨rfl, rfl, W400⟩ := e400
          refine gi_goto (tgt := 419) C (dm_Mo_act 181 rfl) (by decide) ?_
          refine gi_vret C hr (dm_Mo_act 189 rfl) ?_
          (try simp (disch := omega) only [lg_cmp_ge, lg_cmp_le, lg_cmp_gt, lg_cmp_lt, lg_cmp_eq, eL_0, eL_1, eL_m1, eL_LO, eL_HI, eL_W, eL_add, eL_sub, eL_mul, eL_neg, eL_lt, eL_le, eL_eq, eL_remN, eL_mod0, ne_eq, Int64.not_lt, Int64.not_le] at c376)
          (try simp (disch := omega) only [lg_cmp_ge, lg_cmp_le, lg_cmp_gt, lg_cmp_lt, lg_cmp_eq, eL_0, eL_1, eL_m1, eL_LO, eL_HI, eL_W, eL_add, eL_sub, eL_mul, eL_neg, eL_lt, eL_le, eL_eq, eL_remN, eL_mod0, ne_eq, Int64.not_lt, Int64.not_le] at c388)
          have tg : ¬ d.1 = d.2.1 := by
            have := bI_fa (b := decide (d.1 = d.2.1)) c344
            simpa using this
          refine ⟨rfl, rfl, ?_⟩
          show moP M F G h S J (shrS x d) _
          rw [show shrS x d = mkS (0) (-1) 1 from by
            unfold shrS
            rw [if_neg tg, show min x.1 0 = 0 by omega, if_neg (by omega)]]
          exact W400.p
        · refine gi_lload (q := 393) C (dm_Mo_act 176 rfl) rfl rfl ?_
          refine gi_goto (tgt := 399) C (dm_Mo_act 177 rfl) (by decide) ?_
          refine gi_lconst (q := 400) (v := 1) C (dm_Mo_act 179 rfl) rfl (by decide) ?_
          rw [eL_1]
          (try rw [eL_m1])
          refine gi_callv 3 (q := 403) C (dm_Mo_act 180 rfl) rfl my_Mo_set lk_Mo_262 im_Mo_set rfl (c_Mo_set (0) (x.2.1) 1 (by omega) (by omega) (by omega) (by omega) H) Ha rfl rfl ⟨(Nat.le_of_ble_eq_true rfl), (Nat.le_of_ble_eq_true rfl)⟩ (Nat.le_of_ble_eq_true rfl) ⟨(Nat.le_of_ble_eq_true rfl), (Nat.le_of_ble_eq_true rfl)⟩ (fun r400 n400 h400 e400 => ?_)
          obtain ⟨rfl, rfl, W400⟩ := e400
          refine gi_goto (tgt := 419) C (dm_Mo_act 181 rfl) (by decide) ?_
          refine gi_vret C hr (dm_Mo_act 189 rfl) ?_
          (try simp (disch := omega) only [lg_cmp_ge, lg_cmp_le, lg_cmp_gt, lg_cmp_lt, lg_cmp_eq, eL_0, eL_1, eL_m1, eL_LO, eL_HI, eL_W, eL_add, eL_sub, eL_mul, eL_neg, eL_lt, eL_le, eL_eq, eL_remN, eL_mod0, ne_eq, Int64.not_lt, Int64.not_le] at c376)
          (try simp (disch := omega) only [lg_cmp_ge, lg_cmp_le, lg_cmp_gt, lg_cmp_lt, lg_cmp_eq, eL_0, eL_1, eL_m1, eL_LO, eL_HI, eL_W, eL_add, eL_sub, eL_mul, eL_neg, eL_lt, eL_le, eL_eq, eL_remN, eL_mod0, ne_eq, Int64.not_lt, Int64.not_le] at c388)
          have tg : ¬ d.1 = d.2.1 := by
            have := bI_fa (b := decide (d.1 = d.2.1)) c344
            simpa using this
          refine ⟨rfl, rfl, ?_⟩
          show moP M F G h S J (shrS x d) _
          rw [show shrS x d = mkS (0) (x.2.1) 1 from by
            unfold shrS
            rw [if_neg tg, show min x.1 0 = 0 by omega, if_pos (by omega)]]
          exact W400.p
      · refine gi_lload_n (q := 380) (i := 2) C (dm_Mo_act 169 rfl) rfl rfl rfl ?_
        refine gi_goto (tgt := 384) C (dm_Mo_act 170 rfl) (by decide) ?_
        refine gi_lload (q := 386) C (dm_Mo_act 172 rfl) rfl rfl ?_
        refine gi_lconst (q := 387) (v := 0) C (dm_Mo_act 173 rfl) rfl (by decide) ?_
        refine gi_lcmp (q := 388) C (dm_Mo_act 174 rfl) rfl ?_
        refine gi_if_lt (q := 391) (tgt := 396) C (dm_Mo_act 175 rfl) rfl (by decide) (fun c388 => ?_) (fun c388 => ?_)
        · refine gi_ldc2 (q := 399) C (dm_Mo_act 178 rfl) rfl kc_Mo_311 ?_
          refine gi_lconst (q := 400) (v := 1) C (dm_Mo_act 179 rfl) rfl (by decide) ?_
          rw [eL_1]
          (try rw [eL_m1])
          refine gi_callv 3 (q := 403) C (dm_Mo_act 180 rfl) rfl my_Mo_set lk_Mo_262 im_Mo_set rfl (c_Mo_set (x.1) (-1) 1 (by omega) (by omega) (by omega) (by omega) H) Ha rfl rfl ⟨(Nat.le_of_ble_eq_true rfl), (Nat.le_of_ble_eq_true rfl)⟩ (Nat.le_of_ble_eq_true rfl) ⟨(Nat.le_of_ble_eq_true rfl), (Nat.le_of_ble_eq_true rfl)⟩ (fun r400 n400 h400 e400 => ?_)
          obtain ⟨rfl, rfl, W400⟩ := e400
          refine gi_goto (tgt := 419) C (dm_Mo_act 181 rfl) (by decide) ?_
          refine gi_vret C hr (dm_Mo_act 189 rfl) ?_
          (try simp (disch := omega) only [lg_cmp_ge, lg_cmp_le, lg_cmp_gt, lg_cmp_lt, lg_cmp_eq, eL_0, eL_1, eL_m1, eL_LO, eL_HI, eL_W, eL_add, eL_sub, eL_mul, eL_neg, eL_lt, eL_le, eL_eq, eL_remN, eL_mod0, ne_eq, Int64.not_lt, Int64.not_le] at c376)
          (try simp (disch := omega) only [lg_cmp_ge, lg_cmp_le, lg_cmp_gt, lg_cmp_lt, lg_cmp_eq, eL_0, eL_1, eL_m1, eL_LO, eL_HI, eL_W, eL_add, eL_sub, eL_mul, eL_neg, eL_lt, eL_le, eL_eq, eL_remN, eL_mod0, ne_eq, Int64.not_lt, Int64.not_le] at c388)
          have tg : ¬ d.1 = d.2.1 := by
            have := bI_fa (b := decide (d.1 = d.2.1)) c344
            simpa using this
          refine ⟨rfl, rfl, ?_⟩
          show moP M F G h S J (shrS x d) _
          rw [show shrS x d = mkS (x.1) (-1) 1 from by
            unfold shrS
            rw [if_neg tg, show min x.1 0 = x.1 by omega, if_neg (by omega)]]
          exact W400.p
        · refine gi_lload (q := 393) C (dm_Mo_act 176 rfl) rfl rfl ?_
          refine gi_goto (tgt := 399) C (dm_Mo_act 177 rfl) (by decide) ?_
          refine gi_lconst (q := 400) (v := 1) C (dm_Mo_act 179 rfl) rfl (by decide) ?_
          rw [eL_1]
          (try rw [eL_m1])
          refine gi_callv 3 (q := 403) C (dm_Mo_act 180 rfl) rfl my_Mo_set lk_Mo_262 im_Mo_set rfl (c_Mo_set (x.1) (x.2.1) 1 (by omega) (by omega) (by omega) (by omega) H) Ha rfl rfl ⟨(Nat.le_of_ble_eq_true rfl), (Nat.le_of_ble_eq_true rfl)⟩ (Nat.le_of_ble_eq_true rfl) ⟨(Nat.le_of_ble_eq_true rfl), (Nat.le_of_ble_eq_true rfl)⟩ (fun r400 n400 h400 e400 => ?_)
          obtain ⟨rfl, rfl, W400⟩ := e400
          refine gi_goto (tgt := 419) C (dm_Mo_act 181 rfl) (by decide) ?_
          refine gi_vret C hr (dm_Mo_act 189 rfl) ?_
          (try simp (disch := omega) only [lg_cmp_ge, lg_cmp_le, lg_cmp_gt, lg_cmp_lt, lg_cmp_eq, eL_0, eL_1, eL_m1, eL_LO, eL_HI, eL_W, eL_add, eL_sub, eL_mul, eL_neg, eL_lt, eL_le, eL_eq, eL_remN, eL_mod0, ne_eq, Int64.not_lt, Int64.not_le] at c376)
          (try simp (disch := omega) only [lg_cmp_ge, lg_cmp_le, lg_cmp_gt, lg_cmp_lt, lg_cmp_eq, eL_0, eL_1, eL_m1, eL_LO, eL_HI, eL_W, eL_add, eL_sub, eL_mul, eL_neg, eL_lt, eL_le, eL_eq, eL_remN, eL_mod0, ne_eq, Int64.not_lt, Int64.not_le] at c388)
          have tg : ¬ d.1 = d.2.1 := by
            have := bI_fa (b := decide (d.1 = d.2.1)) c344
            simpa using this
          refine ⟨rfl, rfl, ?_⟩
          show moP M F G h S J (shrS x d) _
          rw [show shrS x d = mkS (x.1) (x.2.1) 1 from by
            unfold shrS
            rw [if_neg tg, show min x.1 0 = x.1 by omega, if_pos (by omega)]]
          exact W400.p
    · have tg : d.1 = d.2.1 := by
        have := bI_t (b := decide (d.1 = d.2.1)) c344
        simpa using this
      have q5 : ∃ q : Nat, q = (d.1 % 32).toNat ∧ q < 32 := ⟨_, rfl, by omega⟩
      obtain ⟨q, eq, q32⟩ := q5
      have el5 : (eL (d.1 % 32)).toInt32 = nI q := by rw [low5_n, ← eq]
      have dl := div_r x.1 q
      have dh := div_r x.2.1 q
      have p1 := pw31 q q32
      have p0 := (pw_b q (by omega)).1
      
      refine gi_aload_n (q := 348) (i := 0) C (dm_Mo_act 150 rfl) rfl rfl rfl ?_
      refine gi_lload_n (q := 349) (i := 2) C (dm_Mo_act 151 rfl) rfl rfl rfl ?_
      refine gi_lload (q := 351) C (dm_Mo_act 152 rfl) rfl rfl ?_
      refine gi_calls 1 (q := 354) C (dm_Mo_act 153 rfl) rfl my_Mo_low5 lk_Mo_291 sm_Mo_low5 (c_Mo_low5 d.1) rfl rfl ⟨(Nat.le_of_ble_eq_true rfl), (Nat.le_of_ble_eq_true rfl)⟩ (Nat.le_of_ble_eq_true rfl) ⟨(Nat.le_of_ble_eq_true rfl), (Nat.le_of_ble_eq_true rfl)⟩ (fun r351 n351 h351 e351 => ?_)
      obtain ⟨rfl, q351, u351⟩ := e351
      rw [q351, u351]
      refine gi_l2i (q := 355) C (dm_Mo_act 154 rfl) rfl ?_
      rw [el5]
      refine gi_lshr (q := 356) C (dm_Mo_act 155 rfl) rfl ?_
      rw [sp_shr _ (by omega) (by omega) (by omega)]
      refine gi_lload (q := 358) C (dm_Mo_act 156 rfl) rfl rfl ?_
      refine gi_lload (q := 360) C (dm_Mo_act 157 rfl) rfl rfl ?_
      refine gi_calls 1 (q := 363) C (dm_Mo_act 158 rfl) rfl my_Mo_low5 lk_Mo_291 sm_Mo_low5 (c_Mo_low5 d.1) rfl rfl ⟨(Nat.le_of_ble_eq_true rfl), (Nat.le_of_ble_eq_true rfl)⟩ (Nat.le_of_ble_eq_true rfl) ⟨(Nat.le_of_ble_eq_true rfl), (Nat.le_of_ble_eq_true rfl)⟩ (fun r360 n360 h360 e360 => ?_)
      obtain ⟨rfl, q360, u360⟩ := e360
      rw [q360, u360]
      refine gi_l2i (q := 364) C (dm_Mo_act 159 rfl) rfl ?_
      rw [el5]
      refine gi_lshr (q := 365) C (dm_Mo_act 160 rfl) rfl ?_
      rw [sp_shr _ (by omega) (by omega) (by omega)]
      refine gi_lconst (q := 366) (v := 1) C (dm_Mo_act 161 rfl) rfl (by decide) ?_
      rw [eL_1]
      refine gi_callv 3 (q := 369) C (dm_Mo_act 162 rfl) rfl my_Mo_set lk_Mo_262 im_Mo_set rfl (c_Mo_set (x.1 / 2 ^ q) (x.2.1 / 2 ^ q) (1) (by omega) (by omega) (by omega) (by omega) H) Ha rfl rfl ⟨(Nat.le_of_ble_eq_true rfl), (Nat.le_of_ble_eq_true rfl)⟩ (Nat.le_of_ble_eq_true rfl) ⟨(Nat.le_of_ble_eq_true rfl), (Nat.le_of_ble_eq_true rfl)⟩ (fun r366 n366 h366 e366 => ?_)
      obtain ⟨rfl, rfl, W366⟩ := e366
      refine gi_goto (tgt := 419) C (dm_Mo_act 163 rfl) (by decide) ?_
      refine gi_vret C hr (dm_Mo_act 189 rfl) ?_
      refine ⟨rfl, rfl, ?_⟩
      show moP M F G h S J (shrS x d) _
      rw [show shrS x d = mkS (x.1 / 2 ^ q) (x.2.1 / 2 ^ q) 1 from by
        unfold shrS
        rw [if_pos tg, ← eq]]
      exact W366.p
  · subst e
    refine gi_iload_n (q := 30) (i := 1) C (dm_Mo_act 16 rfl) rfl rfl rfl ?_
    refine gi_tableIn (off := 376) (tgt := 406) C (dm_Mo_act 17 rfl) (by decide) (by decide) rfl (by decide) ?_
    refine gi_aload_n (q := 407) (i := 0) C (dm_Mo_act 182 rfl) rfl rfl rfl ?_
    refine gi_lload_n (q := 408) (i := 2) C (dm_Mo_act 183 rfl) rfl rfl rfl ?_
    refine gi_lload (q := 410) C (dm_Mo_act 184 rfl) rfl rfl ?_
    refine gi_lload (q := 412) C (dm_Mo_act 185 rfl) rfl rfl ?_
    refine gi_lload (q := 414) C (dm_Mo_act 186 rfl) rfl rfl ?_
    refine gi_iload (q := 416) C (dm_Mo_act 187 rfl) rfl rfl ?_
    refine gi_callv 5 (q := 419) C (dm_Mo_act 188 rfl) rfl my_Mo_unsigned lk_Mo_313 im_Mo_unsigned rfl (c_Mo_unsigned x d hx hd H) Ha rfl rfl ⟨(Nat.le_of_ble_eq_true rfl), (Nat.le_of_ble_eq_true rfl)⟩ (Nat.le_of_ble_eq_true rfl) ⟨(Nat.le_of_ble_eq_true rfl), (Nat.le_of_ble_eq_true rfl)⟩ (fun r416 n416 h416 e416 => ?_)
    obtain ⟨rfl, rfl, W416⟩ := e416
    refine gi_vret C hr (dm_Mo_act 189 rfl) ?_
    refine ⟨rfl, rfl, ?_⟩
    show moP M F G h S J (ushS x d) _
    exact W416.p
  · subst e
    refine gi_iload_n (q := 30) (i := 1) C (dm_Mo_act 16 rfl) rfl rfl rfl ?_
    refine gi_tableIn (off := 108) (tgt := 138) C (dm_Mo_act 17 rfl) (by decide) (by decide) rfl (by decide) ?_
    refine gi_aload_n (q := 139) (i := 0) C (dm_Mo_act 42 rfl) rfl rfl rfl ?_
    refine gi_lload (q := 141) C (dm_Mo_act 43 rfl) rfl rfl ?_
    refine gi_lneg (q := 142) C (dm_Mo_act 44 rfl) rfl ?_
    rw [eL_neg]
    refine gi_lload_n (q := 143) (i := 2) C (dm_Mo_act 45 rfl) rfl rfl rfl ?_
    refine gi_lneg (q := 144) C (dm_Mo_act 46 rfl) rfl ?_
    rw [eL_neg]
    refine gi_lload (q := 146) C (dm_Mo_act 47 rfl) rfl rfl ?_
    refine gi_callv 3 (q := 149) C (dm_Mo_act 48 rfl) rfl my_Mo_turned lk_Mo_282 im_Mo_turned rfl (c_Mo_turned (-x.2.1) (-x.1) (x.2.2) (by omega) (by omega) (by omega) (by omega) (by omega) (by omega) H) Ha rfl rfl ⟨(Nat.le_of_ble_eq_true rfl), (Nat.le_of_ble_eq_true rfl)⟩ (Nat.le_of_ble_eq_true rfl) ⟨(Nat.le_of_ble_eq_true rfl), (Nat.le_of_ble_eq_true rfl)⟩ (fun r146 n146 h146 e146 => ?_)
    obtain ⟨rfl, rfl, W146⟩ := e146
    refine gi_goto (tgt := 419) C (dm_Mo_act 49 rfl) (by decide) ?_
    refine gi_vret C hr (dm_Mo_act 189 rfl) ?_
    refine ⟨rfl, rfl, ?_⟩
    show moP M F G h S J (turnS (-x.2.1) (-x.1) x.2.2) _
    exact W146.p
end RN9
