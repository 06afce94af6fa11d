-- needs: 89.97
section RM4
variable {l : Launch} {V : gi_V} {n : Nat} {h h' : gi_H} {M k : Nat} {P : Pm} {sh : Nat → Option Sh} {S S' : Nat → Int32} {J J' : Nat → Int64} {F F' : Nat → Nat → Int32} {G : Nat → Nat → Int64} {Fz : Fa} {cb : Bool} {z : Mc} {a t d : Nat}
def enP (M a t d : Nat) (h : gi_H) (S : Nat → Int32) (J : Nat → Int64) (F : Nat → Nat → Int32) (G : Nat → Nat → Int64) (h' : gi_H) : Prop := ∃ S' F', mo_at M S' J F' G h' ∧ outM M h h' ∧ (∀ j, j ≠ 81 → j ≠ 85 → S' j = S j) ∧ S' 81 = nI (t + 1) ∧ S' 85 = nI (max d (t + 1)) ∧ (∀ j, j ≠ 78 → j ≠ 79 → j ≠ 80 → F' j = F j) ∧ (∀ i, F' 78 i = if 14 * t ≤ i ∧ i < 14 * t + 6 then 0 else F 78 i) ∧ (∀ i, F' 79 i = if i = t then nI (60 * a) else F 79 i) ∧ ∀ i, F' 80 i = if i = t then 6 else F 80 i
set_option maxHeartbeats 4000000 in
set_option maxRecDepth 100000 in
theorem c_Mo_enter (h81 : S 81 = nI t) (ht : t < 16) (h85 : S 85 = nI d) (hd : d ≤ 16) (ha : a < 8) (H : mo_at M S J F G h) : gi_T l V y_Mo_enter b_Mo_enter 3 none 1 21 0 0 [.ref M, .int (nI a)] n h (fun r n' h' => r = none ∧ n' = n ∧ enP M a t d h S J F G h') := by
  refine gi_enter (by decide) (Nat.le_of_ble_eq_true rfl) ?_
  intro _ _ _ _ _ _ _ _ C hr hnm
  obtain ⟨fs, Ha, Hf⟩ := id H.1
  have ho : outM M h h := outM.rf
  refine gi_aload_n (q := 1) (i := 0) C (dm_Mo_enter 0 rfl) rfl rfl rfl ?_
  refine gi_dup (q := 2) C (dm_Mo_enter 1 rfl) rfl rfl ?_
  refine gi_get (q := 5) C (dm_Mo_enter 2 rfl) rfl fl_Mo_552 Ha (mo_g81 Hf) ?_
  rw [h81]
  refine gi_iconst (q := 6) (v := 1) C (dm_Mo_enter 3 rfl) rfl (by decide) ?_
  refine gi_iadd (q := 7) C (dm_Mo_enter 4 rfl) rfl ?_
  rw [nI_1]
  refine gi_put (q := 10) C (dm_Mo_enter 5 rfl) rfl fl_Mo_552 fp_Mo_81 Ha (by rw [Hf.1]; decide) rfl rfl ?_
  refine gi_genM (H.putI Ha Hf (by decide) rfl) (ho.up (by omega) (by omega)) (fun y H ho => ?_)
  obtain ⟨fs, Ha, Hf⟩ := id H.1
  refine gi_aload_n (q := 11) (i := 0) C (dm_Mo_enter 6 rfl) rfl rfl rfl ?_
  refine gi_aload_n (q := 12) (i := 0) C (dm_Mo_enter 7 rfl) rfl rfl rfl ?_
  refine gi_get (q := 15) C (dm_Mo_enter 8 rfl) rfl fl_Mo_552 Ha (mo_g81 Hf) ?_
  rw [show upS S 81 (nI (t + 1)) 81 = nI (t + 1) from rfl]
  refine gi_aload_n (q := 16) (i := 0) C (dm_Mo_enter 9 rfl) rfl rfl rfl ?_
  refine gi_get (q := 19) C (dm_Mo_enter 10 rfl) rfl fl_Mo_555 Ha (mo_g85 Hf) ?_
  rw [show upS S 81 (nI (t + 1)) 85 = nI d from h85]
  refine gi_icmp_le (q := 22) (tgt := 29) C (dm_Mo_enter 11 rfl) rfl (by decide) (fun c19 => ?_) (fun c19 => ?_)
  · refine gi_aload_n (q := 30) (i := 0) C (dm_Mo_enter 15 rfl) rfl rfl rfl ?_
    refine gi_get (q := 33) C (dm_Mo_enter 16 rfl) rfl fl_Mo_555 Ha (mo_g85 Hf) ?_
    rw [show upS S 81 (nI (t + 1)) 85 = nI d from h85]
    refine gi_put (q := 36) C (dm_Mo_enter 17 rfl) rfl fl_Mo_555 fp_Mo_85 Ha (by rw [Hf.1]; decide) rfl rfl ?_
    refine gi_genM (H.putI Ha Hf (by decide) rfl) (ho.up (by omega) (by omega)) (fun y H ho => ?_)
    obtain ⟨fs, Ha, Hf⟩ := id H.1
    rw [nI_leP (by omega) (by omega)] at c19
    have H0 : mo_at M (upS (upS S 81 (nI (t + 1))) 85 (nI (max d (t + 1)))) J F G y := by
      rw [show max d (t + 1) = d by omega]
      exact H
    have ho0 := ho
    clear H ho Ha Hf
    refine gi_iconst (q := 37) (v := 0) C (dm_Mo_enter 18 rfl) rfl (by decide) ?_
    refine gi_istore_n (q := 38) (i := 2) C (dm_Mo_enter 19 rfl) rfl rfl (Nat.le_of_ble_eq_true rfl) ?_
    refine gi_while (σ := Nat) (fun j => 6 - j) (fun j => [(2, .int (nI j)), (1, .int (nI a)), (0, .ref M)]) (fun _ => n) (fun _ => 0) (fun _ => 0) (fun j y' => j ≤ 6 ∧ ∃ F1, mo_at M (upS (upS S 81 (nI (t + 1))) 85 (nI (max d (t + 1)))) J F1 G y' ∧ outM M h y' ∧ (∀ b, b ≠ 78 → F1 b = F b) ∧ ∀ i, F1 78 i = if 14 * t ≤ i ∧ i < 14 * t + j then 0 else F 78 i) 0 ⟨Nat.zero_le _, _, H0, ho0, fun _ _ => rfl, fun i => by rw [if_neg (by omega)]⟩ ?_ (List.forall_mem_cons.mpr ⟨(by first | rfl | (simp [gi_look]; done)), List.forall_mem_cons.mpr ⟨(by first | rfl | (simp [gi_look]; done)), List.forall_mem_cons.mpr ⟨(by first | rfl | (simp [gi_look]; done)), fun _ h => absurd h List.not_mem_nil⟩⟩⟩) rfl rfl rfl
    rintro j y' ⟨hj, F1, H9, ho9, e9, f9⟩ ihj
    try dsimp only at *
    have H := H9
    have ho := ho9
    obtain ⟨fs, Ha, Hf⟩ := id H.1
    refine gi_iload_n (q := 39) (i := 2) C (dm_Mo_enter 20 rfl) rfl rfl rfl ?_
    refine gi_bipush (q := 41) (v := 6) C (dm_Mo_enter 21 rfl) rfl (by decide) ?_
    refine gi_icmp_ge (q := 44) (tgt := 61) C (dm_Mo_enter 22 rfl) rfl (by decide) (fun c41 => ?_) (fun c41 => ?_)
    · have jl : j = 6 := by
        rcases Nat.lt_or_ge j (6) with q | q
        · exact absurd c41 (Int32.not_le.mpr (nI_lt (b := 6) q (by omega)))
        · omega
      subst jl
      have H := H9
      have ho := ho9
      obtain ⟨fs, Ha, Hf⟩ := id H.1
      refine gi_aload_n (q := 62) (i := 0) C (dm_Mo_enter 32 rfl) rfl rfl rfl ?_
      refine gi_get (q := 65) C (dm_Mo_enter 33 rfl) rfl fl_Mo_167 Ha (mo_g79 Hf) ?_
      refine gi_aload_n (q := 66) (i := 0) C (dm_Mo_enter 34 rfl) rfl rfl rfl ?_
      refine gi_get (q := 69) C (dm_Mo_enter 35 rfl) rfl fl_Mo_552 Ha (mo_g81 Hf) ?_
      rw [show (upS (upS S 81 (nI (t + 1))) 85 (nI (max d (t + 1)))) 81 = nI (t + 1) from rfl]
      refine gi_iconst (q := 70) (v := 1) C (dm_Mo_enter 36 rfl) rfl (by decide) ?_
      refine gi_isub (q := 71) C (dm_Mo_enter 37 rfl) rfl ?_
      rw [show (1 : Int32) = nI 1 from rfl, nI_sb (by omega) (by omega), show t + 1 - 1 = t by omega]
      refine gi_bipush (q := 73) (v := 60) C (dm_Mo_enter 38 rfl) rfl (by decide) ?_
      refine gi_iload_n (q := 74) (i := 1) C (dm_Mo_enter 39 rfl) rfl rfl rfl ?_
      refine gi_imul (q := 75) C (dm_Mo_enter 40 rfl) rfl ?_
      rw [show (60 : Int32) = nI 60 from rfl, nI_ml]
      refine gi_iast (q := 76) C (dm_Mo_enter 41 rfl) rfl rfl (mo_a79 H) (inN ht (by decide)) ?_
      refine gi_genM (H.setI (p := 49) (k := 79) (by decide) rfl rfl (by decide) rfl (by omega)) (ho.up (by omega) (by omega)) (fun y H ho => ?_)
      obtain ⟨fs, Ha, Hf⟩ := id H.1
      refine gi_aload_n (q := 77) (i := 0) C (dm_Mo_enter 42 rfl) rfl rfl rfl ?_
      refine gi_get (q := 80) C (dm_Mo_enter 43 rfl) rfl fl_Mo_170 Ha (mo_g80 Hf) ?_
      refine gi_aload_n (q := 81) (i := 0) C (dm_Mo_enter 44 rfl) rfl rfl rfl ?_
      refine gi_get (q := 84) C (dm_Mo_enter 45 rfl) rfl fl_Mo_552 Ha (mo_g81 Hf) ?_
      rw [show (upS (upS S 81 (nI (t + 1))) 85 (nI (max d (t + 1)))) 81 = nI (t + 1) from rfl]
      refine gi_iconst (q := 85) (v := 1) C (dm_Mo_enter 46 rfl) rfl (by decide) ?_
      refine gi_isub (q := 86) C (dm_Mo_enter 47 rfl) rfl ?_
      rw [show (1 : Int32) = nI 1 from rfl, nI_sb (by omega) (by omega), show t + 1 - 1 = t by omega]
      refine gi_bipush (q := 88) (v := 6) C (dm_Mo_enter 48 rfl) rfl (by decide) ?_
      refine gi_iast (q := 89) C (dm_Mo_enter 49 rfl) rfl rfl (mo_a80 H) (inN ht (by decide)) ?_
      refine gi_genM (H.setI (p := 50) (k := 80) (by decide) rfl rfl (by decide) rfl (by omega)) (ho.up (by omega) (by omega)) (fun y H ho => ?_)
      obtain ⟨fs, Ha, Hf⟩ := id H.1
      refine gi_vret C hr (dm_Mo_enter 50 rfl) ?_
      rw [nI_clamp (show t < 2 ^ 31 by omega)] at H
      refine ⟨rfl, rfl, _, _, H, ho, fun b h1 h2 => by unfold upS; rw [if_neg h2, if_neg h1], rfl, rfl, fun b h1 h2 h3 => by rw [upA_n h3, upA_n h2]; exact e9 b h1, fun i => by rw [upA_n (by decide), upA_n (by decide)]; exact f9 i, fun i => by rw [upA_n (by decide), upA_i, upd_is, e9 79 (by decide)], fun i => by rw [upA_i, upd_is, upA_n (by decide), e9 80 (by decide)]⟩
    · have jl : j < 6 := by
        rcases Nat.lt_or_ge j (6) with q | q
        · exact q
        · exact absurd (nI_le (a := 6) q (by omega)) c41
      refine gi_aload_n (q := 45) (i := 0) C (dm_Mo_enter 23 rfl) rfl rfl rfl ?_
      refine gi_get (q := 48) C (dm_Mo_enter 24 rfl) rfl fl_Mo_164 Ha (mo_g78 Hf) ?_
      refine gi_aload_n (q := 49) (i := 0) C (dm_Mo_enter 25 rfl) rfl rfl rfl ?_
      refine gi_iload_n (q := 50) (i := 2) C (dm_Mo_enter 26 rfl) rfl rfl rfl ?_
      refine gi_callv 1 (q := 53) C (dm_Mo_enter 27 rfl) rfl my_Mo_f lk_Mo_558 im_Mo_f rfl (c_Mo_f (t := t) (i := j) rfl ht (by omega) H) Ha rfl rfl ⟨(Nat.le_of_ble_eq_true rfl), (Nat.le_of_ble_eq_true rfl)⟩ (Nat.le_of_ble_eq_true rfl) ⟨(Nat.le_of_ble_eq_true rfl), (Nat.le_of_ble_eq_true rfl)⟩ (fun r50 n50 h50 e50 => ?_)
      obtain ⟨rfl, q50, u50⟩ := e50
      rw [q50, u50]
      refine gi_iconst (q := 54) (v := 0) C (dm_Mo_enter 28 rfl) rfl (by decide) ?_
      refine gi_iast (q := 55) C (dm_Mo_enter 29 rfl) rfl rfl (mo_a78 H) (inN (show 14 * t + j < 224 by omega) (by decide)) ?_
      refine gi_genM (H.setI (p := 48) (k := 78) (by decide) rfl rfl (by decide) rfl (by omega)) (ho.up (by omega) (by omega)) (fun y H ho => ?_)
      obtain ⟨fs, Ha, Hf⟩ := id H.1
      rw [nI_clamp (show 14 * t + j < 2 ^ 31 by omega)] at H
      refine gi_iinc (q := 58) (v := 1) C (dm_Mo_enter 30 rfl) rfl rfl (by decide) (Nat.le_of_ble_eq_true rfl) ?_
      refine gi_goto (tgt := 38) C (dm_Mo_enter 31 rfl) (by decide) ?_
      refine gi_close (ihj (j + 1) _ ⟨jl, _, H, ho, fun b hb => by rw [upA_n hb]; exact e9 b hb, fun i => by
          rw [upA_i, upd_is]
          by_cases q : i = 14 * t + j
          · rw [if_pos q, if_pos (by omega)]
          · rw [if_neg q, f9]
            by_cases q2 : 14 * t ≤ i ∧ i < 14 * t + j
            · rw [if_pos q2, if_pos (by omega)]
            · rw [if_neg q2, if_neg (by omega)]⟩ (by omega)) (List.forall_mem_cons.mpr ⟨(by first | rfl | (simp [gi_look, nI_1]; done)), List.forall_mem_cons.mpr ⟨(by first | rfl | (simp [gi_look, nI_1]; done)), List.forall_mem_cons.mpr ⟨(by first | rfl | (simp [gi_look, nI_1]; done)), fun _ h => absurd h List.not_mem_nil⟩⟩⟩) rfl rfl rfl
  · refine gi_aload_n (q := 23) (i := 0) C (dm_Mo_enter 12 rfl) rfl rfl rfl ?_
    refine gi_get (q := 26) C (dm_Mo_enter 13 rfl) rfl fl_Mo_552 Ha (mo_g81 Hf) ?_
    rw [show upS S 81 (nI (t + 1)) 81 = nI (t + 1) from rfl]
    refine gi_goto (tgt := 33) C (dm_Mo_enter 14 rfl) (by decide) ?_
    skip
    refine gi_put (q := 36) C (dm_Mo_enter 17 rfl) rfl fl_Mo_555 fp_Mo_85 Ha (by rw [Hf.1]; decide) rfl rfl ?_
    refine gi_genM (H.putI Ha Hf (by decide) rfl) (ho.up (by omega) (by omega)) (fun y H ho => ?_)
    obtain ⟨fs, Ha, Hf⟩ := id H.1
    rw [nI_leP (by omega) (by omega)] at c19
    have H0 : mo_at M (upS (upS S 81 (nI (t + 1))) 85 (nI (max d (t + 1)))) J F G y := by
      rw [show max d (t + 1) = t + 1 by omega]
      exact H
    have ho0 := ho
    clear H ho Ha Hf
    refine gi_iconst (q := 37) (v := 0) C (dm_Mo_enter 18 rfl) rfl (by decide) ?_
    refine gi_istore_n (q := 38) (i := 2) C (dm_Mo_enter 19 rfl) rfl rfl (Nat.le_of_ble_eq_true rfl) ?_
    refine gi_while (σ := Nat) (fun j => 6 - j) (fun j => [(2, .int (nI j)), (1, .int (nI a)), (0, .ref M)]) (fun _ => n) (fun _ => 0) (fun _ => 0) (fun j y' => j ≤ 6 ∧ ∃ F1, mo_at M (upS (upS S 81 (nI (t + 1))) 85 (nI (max d (t + 1)))) J F1 G y' ∧ outM M h y' ∧ (∀ b, b ≠ 78 → F1 b = F b) ∧ ∀ i, F1 78 i = if 14 * t ≤ i ∧ i < 14 * t + j then 0 else F 78 i) 0 ⟨Nat.zero_le _, _, H0, ho0, fun _ _ => rfl, fun i => by rw [if_neg (by omega)]⟩ ?_ (List.forall_mem_cons.mpr ⟨(by first | rfl | (simp [gi_look]; done)), List.forall_mem_cons.mpr ⟨(by first | rfl | (simp [gi_look]; done)), List.forall_mem_cons.mpr ⟨(by first | rfl | (simp [gi_look]; done)), fun _ h => absurd h List.not_mem_nil⟩⟩⟩) rfl rfl rfl
    rintro j y' ⟨hj, F1, H9, ho9, e9, f9⟩ ihj
    try dsimp only at *
    have H := H9
    have ho := ho9
    obtain ⟨fs, Ha, Hf⟩ := id H.1
    refine gi_iload_n (q := 39) (i := 2) C (dm_Mo_enter 20 rfl) rfl rfl rfl ?_
    refine gi_bipush (q := 41) (v := 6) C (dm_Mo_enter 21 rfl) rfl (by decide) ?_
    refine gi_icmp_ge (q := 44) (tgt := 61) C (dm_Mo_enter 22 rfl) rfl (by decide) (fun c41 => ?_) (fun c41 => ?_)
    · have jl : j = 6 := by
        rcases Nat.lt_or_ge j (6) with q | q
        · exact absurd c41 (Int32.not_le.mpr (nI_lt (b := 6) q (by omega)))
        · omega
      subst jl
      have H := H9
      have ho := ho9
      obtain ⟨fs, Ha, Hf⟩ := id H.1
      refine gi_aload_n (q := 62) (i := 0) C (dm_Mo_enter 32 rfl) rfl rfl rfl ?_
      refine gi_get (q := 65) C (dm_Mo_enter 33 rfl) rfl fl_Mo_167 Ha (mo_g79 Hf) ?_
      refine gi_aload_n (q := 66) (i := 0) C (dm_Mo_enter 34 rfl) rfl rfl rfl ?_
      refine gi_get (q := 69) C (dm_Mo_enter 35 rfl) rfl fl_Mo_552 Ha (mo_g81 Hf) ?_
      rw [show (upS (upS S 81 (nI (t + 1))) 85 (nI (max d (t + 1)))) 81 = nI (t + 1) from rfl]
      refine gi_iconst (q := 70) (v := 1) C (dm_Mo_enter 36 rfl) rfl (by decide) ?_
      refine gi_isub (q := 71) C (dm_Mo_enter 37 rfl) rfl ?_
      rw [show (1 : Int32) = nI 1 from rfl, nI_sb (by omega) (by omega), show t + 1 - 1 = t by omega]
      refine gi_bipush (q := 73) (v := 60) C (dm_Mo_enter 38 rfl) rfl (by decide) ?_
      refine gi_iload_n (q := 74) (i := 1) C (dm_Mo_enter 39 rfl) rfl rfl rfl ?_
      refine gi_imul (q := 75) C (dm_Mo_enter 40 rfl) rfl ?_
      rw [show (60 : Int32) = nI 60 from rfl, nI_ml]
      refine gi_iast (q := 76) C (dm_Mo_enter 41 rfl) rfl rfl (mo_a79 H) (inN ht (by decide)) ?_
      refine gi_genM (H.setI (p := 49) (k := 79) (by decide) rfl rfl (by decide) rfl (by omega)) (ho.up (by omega) (by omega)) (fun y H ho => ?_)
      obtain ⟨fs, Ha, Hf⟩ := id H.1
      refine gi_aload_n (q := 77) (i := 0) C (dm_Mo_enter 42 rfl) rfl rfl rfl ?_
      refine gi_get (q := 80) C (dm_Mo_enter 43 rfl) rfl fl_Mo_170 Ha (mo_g80 Hf) ?_
      refine gi_aload_n (q := 81) (i := 0) C (dm_Mo_enter 44 rfl) rfl rfl rfl ?_
      refine gi_get (q := 84) C (dm_Mo_enter 45 rfl) rfl fl_Mo_552 Ha (mo_g81 Hf) ?_
      rw [show (upS (upS S 81 (nI (t + 1))) 85 (nI (max d (t + 1)))) 81 = nI (t + 1) from rfl]
      refine gi_iconst (q := 85) (v := 1) C (dm_Mo_enter 46 rfl) rfl (by decide) ?_
      refine gi_isub (q := 86) C (dm_Mo_enter 47 rfl) rfl ?_
      rw [show (1 : Int32) = nI 1 from rfl, nI_sb (by omega) (by omega), show t + 1 - 1 = t by omega]
      refine gi_bipush (q := 88) (v := 6) C (dm_Mo_enter 48 rfl) rfl (by decide) ?_
      refine gi_iast (q := 89) C (dm_Mo_enter 49 rfl) rfl rfl (mo_a80 H) (inN ht (by decide)) ?_
      refine gi_genM (H.setI (p := 50) (k := 80) (by decide) rfl rfl (by decide) rfl (by omega)) (ho.up (by omega) (by omega)) (fun y H ho => ?_)
      obtain ⟨fs, Ha, Hf⟩ := id H.1
      refine gi_vret C hr (dm_Mo_enter 50 rfl) ?_
      rw [nI_clamp (show t < 2 ^ 31 by omega)] at H
      refine ⟨rfl, rfl, _, _, H, ho, fun b h1 h2 => by unfold upS; rw [if_neg h2, if_neg h1], rfl, rfl, fun b h1 h2 h3 => by rw [upA_n h3, upA_n h2]; exact e9 b h1, fun i => by rw [upA_n (by decide), upA_n (by decide)]; exact f9 i, fun i => by rw [upA_n (by decide), upA_i, upd_is, e9 79 (by decide)], fun i => by rw [upA_i, upd_is, upA_n (by decide), e9 80 (by decide)]⟩
    · have jl : j < 6 := by
        rcases Nat.lt_or_ge j (6) with q | q
        · exact q
        · exact absurd (nI_le (a := 6) q (by omega)) c41
      refine gi_aload_n (q := 45) (i := 0) C (dm_Mo_enter 23 rfl) rfl rfl rfl ?_
      refine gi_get (q := 48) C (dm_Mo_enter 24 rfl) rfl fl_Mo_164 Ha (mo_g78 Hf) ?_
      refine gi_aload_n (q := 49) (i := 0) C (dm_Mo_enter 25 rfl) rfl rfl rfl ?_
      refine gi_iload_n (q := 50) (i := 2) C (dm_Mo_enter 26 rfl) rfl rfl rfl ?_
      refine gi_callv 1 (q := 53) C (dm_Mo_enter 27 rfl) rfl my_Mo_f lk_Mo_558 im_Mo_f rfl (c_Mo_f (t := t) (i := j) rfl ht (by omega) H) Ha rfl rfl ⟨(Nat.le_of_ble_eq_true rfl), (Nat.le_of_ble_eq_true rfl)⟩ (Nat.le_of_ble_eq_true rfl) ⟨(Nat.le_of_ble_eq_true rfl), (Nat.le_of_ble_eq_true rfl)⟩ (fun r50 n50 h50 e50 => ?_)
      obtain ⟨rfl, q50, u50⟩ := e50
      rw [q50, u50]
      refine gi_iconst (q := 54) (v := 0) C (dm_Mo_enter 28 rfl) rfl (by decide) ?_
      refine gi_iast (q := 55) C (dm_Mo_enter 29 rfl) rfl rfl (mo_a78 H) (inN (show 14 * t + j < 224 by omega) (by decide)) ?_
      refine gi_genM (H.setI (p := 48) (k := 78) (by decide) rfl rfl (by decide) rfl (by omega)) (ho.up (by omega) (by omega)) (fun y H ho => ?_)
      obtain ⟨fs, Ha, Hf⟩ := id H.1
      rw [nI_clamp (show 14 * t + j < 2 ^ 31 by omega)] at H
      refine gi_iinc (q := 58) (v := 1) C (dm_Mo_enter 30 rfl) rfl rfl (by decide) (Nat.le_of_ble_eq_true rfl) ?_
      refine gi_goto (tgt := 38) C (dm_Mo_enter 31 rfl) (by decide) ?_
      refine gi_close (ihj (j + 1) _ ⟨jl, _, H, ho, fun b hb => by rw [upA_n hb]; exact e9 b hb, fun i => by
          rw [upA_i, upd_is]
          by_cases q : i = 14 * t + j
          · rw [if_pos q, if_pos (by omega)]
          · rw [if_neg q, f9]
            by_cases q2 : 14 * t ≤ i ∧ i < 14 * t + j
            · rw [if_pos q2, if_pos (by omega)]
            · rw [if_neg q2, if_neg (by omega)]⟩ (by omega)) (List.forall_mem_cons.mpr ⟨(by first | rfl | (simp [gi_look, nI_1]; done)), List.forall_mem_cons.mpr ⟨(by first | rfl | (simp [gi_look, nI_1]; done)), List.forall_mem_cons.mpr ⟨(by first | rfl | (simp [gi_look, nI_1]; done)), fun _ h => absurd h List.not_mem_nil⟩⟩⟩) rfl rfl rfl
/-- a frame more: the arguments have gone from the frame below -/
theorem mcR.ent (R : mcR P cb z S J F) (h16 : z.top + 1 < 16) (ha : a < 8) (la : pN P 1 a ≤ pN P 2 a) (l6 : pN P 2 a ≤ 6) (hn : pN P 2 z.cur.m + pN P 1 a ≤ z.cur.n) (es : ∀ j, j ≠ 81 → j ≠ 85 → S' j = S j) (e81 : S' 81 = nI (z.top + 2)) (e85 : S' 85 = nI (max z.dp (z.top + 2))) (ef : ∀ j, j ≠ 78 → j ≠ 79 → j ≠ 80 → F' j = F j) (e78 : ∀ i, F' 78 i = if 14 * (z.top + 1) ≤ i ∧ i < 14 * (z.top + 1) + 6 then (if i < 14 * (z.top + 1) + pN P 1 a then F 78 (14 * z.top + (z.cur.n - pN P 2 z.cur.m + 6 - pN P 1 a) + (i - 14 * (z.top + 1))) else 0) else F 78 i) (e79 : ∀ i, F' 79 i = if i = z.top + 1 then nI (60 * a) else F 79 i) (e80 : ∀ i, F' 80 i = if i = z.top + 1 then 6 else if i = z.top then nI (z.cur.n - pN P 2 z.cur.m + 6 - pN P 1 a) else F 80 i) : mcR P cb (entZ P a z).1 S' J F' := by
  obtain ⟨r1, ⟨q1, q2, q3, q4, q5⟩, r3, r4, r5, r6, r7, r8, r9, r9', r10⟩ := R
  unfold entZ
  rw [if_neg (by omega)]
  refine ⟨h16, ⟨q1, (es 75 (by decide) (by decide)).trans q2, (es 76 (by decide) (by decide)).trans q3, ?_, ?_⟩, ?_, e81, (es 82 (by decide) (by decide)).trans r5, e85, ?_, r8, fun c => (es 88 (by decide) (by decide)).trans (r9 c), fun c => (es 88 (by decide) (by decide)).trans (r9' c), fun t ht => ?_⟩
  · rw [ef 72 (by decide) (by decide) (by decide), ef 73 (by decide) (by decide) (by decide), ef 74 (by decide) (by decide) (by decide)]; exact q4
  · rw [ef 71 (by decide) (by decide) (by decide)]; exact q5
  · rw [ef 77 (by decide) (by decide) (by decide)]; exact r3
  · show max z.dp (z.top + 2) ≤ 16
    omega
  · have ht' : t ≤ z.top + 1 := ht
    have R0 : frX P z.top z.cur F := r10 z.top (Nat.le_refl _)
    obtain ⟨p1, p2, p3, p4, p5, p6, p7⟩ := R0
    by_cases c1 : t = z.top + 1
    · subst c1
      show frX P (z.top + 1) (upO _ (z.top + 1) (entF2 P a z.cur) (z.top + 1)) F'
      rw [upO_self]
      refine ⟨?_, ?_, Nat.le_refl _, l6, by show pN P 2 a - pN P 2 a ≤ 8; omega, ⟨ha, Nat.zero_le _⟩, fun j hj => ?_⟩
      · rw [e79, if_pos rfl]
        rfl
      · rw [e80, if_pos rfl]
        show 6 = nI (pN P 2 a - pN P 2 a + 6)
        rw [Nat.sub_self]
        rfl
      · have hj' : j < pN P 2 a := hj
        show F' 78 (14 * (z.top + 1) + sl (pN P 2 a) j) = if j < pN P 1 a then z.cur.s (z.cur.n - pN P 1 a + j) else 0
        rw [sl_lo hj', e78, if_pos (by omega)]
        by_cases k1 : j < pN P 1 a
        · rw [if_pos (by omega), if_pos k1]
          have q := p7 (z.cur.n - pN P 1 a + j) (by omega)
          rw [sl_hi (by omega)] at q
          rw [← q]
          congr 1
          omega
        · rw [if_neg (by omega), if_neg k1]
    · show frX P t (upO (upO z.fr z.top _) (z.top + 1) _ t) F'
      rw [upO_ne c1]
      by_cases c2 : t = z.top
      · subst c2
        rw [upO_self]
        refine ⟨?_, ?_, by show pN P 2 z.cur.m ≤ z.cur.n - pN P 1 a; omega, p4, by show z.cur.n - pN P 1 a - pN P 2 z.cur.m ≤ 8; omega, p6, fun j hj => ?_⟩
        · rw [e79, if_neg (by omega)]
          exact p1
        · rw [e80, if_neg (by omega), if_pos rfl]
          show nI _ = nI (z.cur.n - pN P 1 a - pN P 2 z.cur.m + 6)
          congr 1
          omega
        · have hj' : j < z.cur.n - pN P 1 a := hj
          show F' 78 (14 * z.top + sl (pN P 2 z.cur.m) j) = z.cur.s j
          have l14 := sl_14 p4 p5 (show j < z.cur.n by omega)
          rw [e78, if_neg (by omega)]
          exact p7 j (by omega)
      · rw [upO_ne c2]
        obtain ⟨p1, p2, p3, p4, p5, p6, p7⟩ := r10 t (by show t ≤ z.top; omega)
        refine ⟨by rw [e79, if_neg c1]; exact p1, by rw [e80, if_neg c1, if_neg c2]; exact p2, p3, p4, p5, p6, fun j hj => ?_⟩
        have l14 := sl_14 p4 p5 hj
        rw [e78, if_neg (by omega)]
        exact p7 j hj
set_option maxHeartbeats 4000000 in
set_option maxRecDepth 100000 in
theorem c_Mo_called (R : mcR P cb z S J F) (ha : a < 8) (e1 : F 1 a = nI (pN P 1 a)) (l3 : pN P 1 a ≤ 3) (la : pN P 1 a ≤ pN P 2 a) (l6 : pN P 2 a ≤ 6) (hn : pN P 2 z.cur.m + pN P 1 a ≤ z.cur.n) (H : mo_at M S J F G h) : gi_T l V y_Mo_called b_Mo_called 4 none 2 43 0 0 [.ref M, .int (nI a)] n h (fun r n' h' => r = none ∧ n' = n ∧ mcP M P cb (entZ P a z).1 h S J F G h') := by
  refine gi_enter (by decide) (Nat.le_of_ble_eq_true rfl) ?_
  intro _ _ _ _ _ _ _ _ C hr hnm
  obtain ⟨fs, Ha, Hf⟩ := id H.1
  have ho : outM M h h := outM.rf
  have h81 := R.2.2.2.1
  have ht := R.1
  have R0 : frX P z.top z.cur F := R.2.2.2.2.2.2.2.2.2.2 z.top (Nat.le_refl _)
  obtain ⟨p1, p2, p3, p4, p5, p6, p7⟩ := R0
  have dp := R.2.2.2.2.2.2.1
  have h85 := R.2.2.2.2.2.1
  refine gi_aload_n (q := 1) (i := 0) C (dm_Mo_called 0 rfl) rfl rfl rfl ?_
  refine gi_get (q := 4) C (dm_Mo_called 1 rfl) rfl fl_Mo_552 Ha (mo_g81 Hf) ?_
  rw [h81]
  refine gi_bipush (q := 6) (v := 16) C (dm_Mo_called 2 rfl) rfl (by decide) ?_
  refine gi_icmp_ne (q := 9) (tgt := 15) C (dm_Mo_called 3 rfl) rfl (by decide) (fun c6 => ?_) (fun c6 => ?_)
  · have h16 : z.top + 1 < 16 := by
      rcases Nat.lt_or_ge (z.top + 1) 16 with q | q
      · exact q
      · exact absurd (show nI (z.top + 1) = nI 16 by rw [show z.top + 1 = 16 by omega]) c6
    refine gi_aload_n (q := 16) (i := 0) C (dm_Mo_called 8 rfl) rfl rfl rfl ?_
    refine gi_get (q := 19) C (dm_Mo_called 9 rfl) rfl fl_Mo_170 Ha (mo_g80 Hf) ?_
    refine gi_aload_n (q := 20) (i := 0) C (dm_Mo_called 10 rfl) rfl rfl rfl ?_
    refine gi_get (q := 23) C (dm_Mo_called 11 rfl) rfl fl_Mo_552 Ha (mo_g81 Hf) ?_
    rw [h81]
    refine gi_iconst (q := 24) (v := 1) C (dm_Mo_called 12 rfl) rfl (by decide) ?_
    refine gi_isub (q := 25) C (dm_Mo_called 13 rfl) rfl ?_
    rw [show (1 : Int32) = nI 1 from rfl, nI_sb (by omega) (by omega), show z.top + 1 - 1 = z.top by omega]
    refine gi_dup2_11 (q := 26) C (dm_Mo_called 14 rfl) rfl rfl rfl ?_
    refine gi_iald (q := 27) C (dm_Mo_called 15 rfl) rfl rfl (mo_a80 H) (inN ht (by decide)) ?_
    rw [nI_clamp (show z.top < 2 ^ 31 by omega), p2]
    refine gi_aload_n (q := 28) (i := 0) C (dm_Mo_called 16 rfl) rfl rfl rfl ?_
    refine gi_get (q := 31) C (dm_Mo_called 17 rfl) rfl fl_Mo_7 Ha (mo_g1 Hf) ?_
    refine gi_iload_n (q := 32) (i := 1) C (dm_Mo_called 18 rfl) rfl rfl rfl ?_
    refine gi_iald (q := 33) C (dm_Mo_called 19 rfl) rfl rfl (mo_a1 H) (inN (show a < 8 by omega) (by decide)) ?_
    rw [nI_clamp (show a < 2 ^ 31 by omega), e1]
    refine gi_isub (q := 34) C (dm_Mo_called 20 rfl) rfl ?_
    rw [nI_sb (by omega) (by omega)]
    refine gi_iast (q := 35) C (dm_Mo_called 21 rfl) rfl rfl (mo_a80 H) (inN ht (by decide)) ?_
    refine gi_genM (H.setI (p := 50) (k := 80) (by decide) rfl rfl (by decide) rfl (by omega)) (ho.up (by omega) (by omega)) (fun y H ho => ?_)
    obtain ⟨fs, Ha, Hf⟩ := id H.1
    refine gi_aload_n (q := 36) (i := 0) C (dm_Mo_called 22 rfl) rfl rfl rfl ?_
    refine gi_aload_n (q := 37) (i := 0) C (dm_Mo_called 23 rfl) rfl rfl rfl ?_
    refine gi_get (q := 40) C (dm_Mo_called 24 rfl) rfl fl_Mo_170 Ha (mo_g80 Hf) ?_
    refine gi_aload_n (q := 41) (i := 0) C (dm_Mo_called 25 rfl) rfl rfl rfl ?_
    refine gi_get (q := 44) C (dm_Mo_called 26 rfl) rfl fl_Mo_552 Ha (mo_g81 Hf) ?_
    rw [h81]
    refine gi_iconst (q := 45) (v := 1) C (dm_Mo_called 27 rfl) rfl (by decide) ?_
    refine gi_isub (q := 46) C (dm_Mo_called 28 rfl) rfl ?_
    rw [show (1 : Int32) = nI 1 from rfl, nI_sb (by omega) (by omega), show z.top + 1 - 1 = z.top by omega]
    refine gi_iald (q := 47) C (dm_Mo_called 29 rfl) rfl rfl (mo_a80 H) (inN ht (by decide)) ?_
    rw [nI_clamp (show z.top < 2 ^ 31 by omega), upA_i, upd_is, if_pos rfl]
    refine gi_callv 1 (q := 50) C (dm_Mo_called 30 rfl) rfl my_Mo_f lk_Mo_558 im_Mo_f rfl (c_Mo_f h81 ht (show z.cur.n - pN P 2 z.cur.m + 6 - pN P 1 a < 100 by omega) H) Ha rfl rfl ⟨(Nat.le_of_ble_eq_true rfl), (Nat.le_of_ble_eq_true rfl)⟩ (Nat.le_of_ble_eq_true rfl) ⟨(Nat.le_of_ble_eq_true rfl), (Nat.le_of_ble_eq_true rfl)⟩ (fun r47 n47 h47 e47 => ?_)
    obtain ⟨rfl, q47, u47⟩ := e47
    rw [q47, u47]
    rw [nI_clamp (show z.top < 2 ^ 31 by omega)] at H
    refine gi_istore_n (q := 51) (i := 2) C (dm_Mo_called 31 rfl) rfl rfl (Nat.le_of_ble_eq_true rfl) ?_
    refine gi_aload_n (q := 52) (i := 0) C (dm_Mo_called 32 rfl) rfl rfl rfl ?_
    refine gi_iload_n (q := 53) (i := 1) C (dm_Mo_called 33 rfl) rfl rfl rfl ?_
    refine gi_callv 1 (q := 56) C (dm_Mo_called 34 rfl) rfl my_Mo_enter lk_Mo_576 im_Mo_enter rfl (c_Mo_enter (t := z.top + 1) (d := z.dp) (a := a) h81 h16 h85 dp (by omega) H) Ha rfl rfl ⟨(Nat.le_of_ble_eq_true rfl), (Nat.le_of_ble_eq_true rfl)⟩ (Nat.le_of_ble_eq_true rfl) ⟨(Nat.le_of_ble_eq_true rfl), (Nat.le_of_ble_eq_true rfl)⟩ (fun r53 n53 h53 e53 => ?_)
    obtain ⟨rfl, qn53, S1, F5, H1, o1, es, s81, s85, ef, e78, e79, e80⟩ := e53
    rw [qn53]
    have H0 := H1
    have ho0 := ho.tr o1
    clear H ho
    refine gi_iconst (q := 57) (v := 0) C (dm_Mo_called 35 rfl) rfl (by decide) ?_
    refine gi_istore_n (q := 58) (i := 3) C (dm_Mo_called 36 rfl) rfl rfl (Nat.le_of_ble_eq_true rfl) ?_
    refine gi_while (σ := Nat) (fun j => pN P 1 a - j) (fun j => [(3, .int (nI j)), (2, .int (nI (14 * z.top + (z.cur.n - pN P 2 z.cur.m + 6 - pN P 1 a)))), (1, .int (nI a)), (0, .ref M)]) (fun _ => n) (fun _ => 0) (fun _ => 0) (fun j y' => j ≤ pN P 1 a ∧ ∃ F1, mo_at M S1 J F1 G y' ∧ outM M h y' ∧ (∀ b, b ≠ 78 → F1 b = F5 b) ∧ ∀ i, F1 78 i = if 14 * (z.top + 1) ≤ i ∧ i < 14 * (z.top + 1) + 6 then (if i < 14 * (z.top + 1) + j then F 78 (14 * z.top + (z.cur.n - pN P 2 z.cur.m + 6 - pN P 1 a) + (i - 14 * (z.top + 1))) else 0) else F 78 i) 0 ⟨Nat.zero_le _, _, H0, ho0, fun _ _ => rfl, fun i => by
      rw [e78, upA_n (by decide)]
      by_cases q : 14 * (z.top + 1) ≤ i ∧ i < 14 * (z.top + 1) + 6
      · rw [if_pos q, if_pos q, if_neg (by omega)]
      · rw [if_neg q, if_neg q]⟩ ?_ (List.forall_mem_cons.mpr ⟨(by first | rfl | (simp [gi_look]; done)), List.forall_mem_cons.mpr ⟨(by first | rfl | (simp [gi_look]; done)), List.forall_mem_cons.mpr ⟨(by first | rfl | (simp [gi_look]; done)), List.forall_mem_cons.mpr ⟨(by first | rfl | (simp [gi_look]; done)), fun _ h => absurd h List.not_mem_nil⟩⟩⟩⟩) rfl rfl rfl
    rintro j y' ⟨hj, F1, H9, ho9, e9, f9⟩ ihj
    try dsimp only at *
    have H := H9
    have ho := ho9
    obtain ⟨fs, Ha, Hf⟩ := id H.1
    refine gi_iload_n (q := 59) (i := 3) C (dm_Mo_called 37 rfl) rfl rfl rfl ?_
    refine gi_aload_n (q := 60) (i := 0) C (dm_Mo_called 38 rfl) rfl rfl rfl ?_
    refine gi_get (q := 63) C (dm_Mo_called 39 rfl) rfl fl_Mo_7 Ha (mo_g1 Hf) ?_
    refine gi_iload_n (q := 64) (i := 1) C (dm_Mo_called 40 rfl) rfl rfl rfl ?_
    refine gi_iald (q := 65) C (dm_Mo_called 41 rfl) rfl rfl (mo_a1 H) (inN (show a < 8 by omega) (by decide)) ?_
    rw [nI_clamp (show a < 2 ^ 31 by omega), e9 1 (by decide), ef 1 (by decide) (by decide) (by decide), upA_n (by decide), e1]
    refine gi_icmp_ge (q := 68) (tgt := 92) C (dm_Mo_called 42 rfl) rfl (by decide) (fun c65 => ?_) (fun c65 => ?_)
    · refine gi_vret C hr (dm_Mo_called 57 rfl) ?_
      have jl : j = pN P 1 a := by
        rcases Nat.lt_or_ge j (pN P 1 a) with q | q
        · exact absurd c65 (Int32.not_le.mpr (nI_lt (b := pN P 1 a) q (by omega)))
        · omega
      subst jl
      have H := H9
      have ho := ho9
      refine ⟨rfl, rfl, S1, J, F1, H, ho, ⟨fun b hb => es b (by omega) (by omega), fun _ _ => rfl, fun b hb => by rw [e9 b (by omega), ef b (by omega) (by omega) (by omega), upA_n (by omega)]⟩, ?_⟩
      refine R.ent h16 (by omega) la l6 hn es s81 s85 (fun b h1 h2 h3 => by rw [e9 b h1, ef b h1 h2 h3, upA_n h3]) f9 (fun i => by rw [e9 79 (by decide), e79, upA_n (by decide)]) (fun i => ?_)
      rw [e9 80 (by decide), e80, upA_i, upd_is]
    · have jl : j < pN P 1 a := by
        rcases Nat.lt_or_ge j (pN P 1 a) with q | q
        · exact q
        · exact absurd (nI_le (a := pN P 1 a) q (by omega)) c65
      refine gi_aload_n (q := 69) (i := 0) C (dm_Mo_called 43 rfl) rfl rfl rfl ?_
      refine gi_get (q := 72) C (dm_Mo_called 44 rfl) rfl fl_Mo_164 Ha (mo_g78 Hf) ?_
      refine gi_aload_n (q := 73) (i := 0) C (dm_Mo_called 45 rfl) rfl rfl rfl ?_
      refine gi_iload_n (q := 74) (i := 3) C (dm_Mo_called 46 rfl) rfl rfl rfl ?_
      refine gi_callv 1 (q := 77) C (dm_Mo_called 47 rfl) rfl my_Mo_f lk_Mo_558 im_Mo_f rfl (c_Mo_f (t := z.top + 1) (i := j) s81 (by omega) (by omega) H) Ha rfl rfl ⟨(Nat.le_of_ble_eq_true rfl), (Nat.le_of_ble_eq_true rfl)⟩ (Nat.le_of_ble_eq_true rfl) ⟨(Nat.le_of_ble_eq_true rfl), (Nat.le_of_ble_eq_true rfl)⟩ (fun r74 n74 h74 e74 => ?_)
      obtain ⟨rfl, q74, u74⟩ := e74
      rw [q74, u74]
      refine gi_aload_n (q := 78) (i := 0) C (dm_Mo_called 48 rfl) rfl rfl rfl ?_
      refine gi_get (q := 81) C (dm_Mo_called 49 rfl) rfl fl_Mo_164 Ha (mo_g78 Hf) ?_
      refine gi_iload_n (q := 82) (i := 2) C (dm_Mo_called 50 rfl) rfl rfl rfl ?_
      refine gi_iload_n (q := 83) (i := 3) C (dm_Mo_called 51 rfl) rfl rfl rfl ?_
      refine gi_iadd (q := 84) C (dm_Mo_called 52 rfl) rfl ?_
      rw [nI_add]
      refine gi_iald (q := 85) C (dm_Mo_called 53 rfl) rfl rfl (mo_a78 H) (inN (show 14 * z.top + (z.cur.n - pN P 2 z.cur.m + 6 - pN P 1 a) + j < 224 by omega) (by decide)) ?_
      rw [nI_clamp (show 14 * z.top + (z.cur.n - pN P 2 z.cur.m + 6 - pN P 1 a) + j < 2 ^ 31 by omega)]
      refine gi_iast (q := 86) C (dm_Mo_called 54 rfl) rfl rfl (mo_a78 H) (inN (show 14 * (z.top + 1) + j < 224 by omega) (by decide)) ?_
      refine gi_genM (H.setI (p := 48) (k := 78) (by decide) rfl rfl (by decide) rfl (by omega)) (ho.up (by omega) (by omega)) (fun y H ho => ?_)
      obtain ⟨fs, Ha, Hf⟩ := id H.1
      rw [nI_clamp (show 14 * (z.top + 1) + j < 2 ^ 31 by omega)] at H
      refine gi_iinc (q := 89) (v := 1) C (dm_Mo_called 55 rfl) rfl rfl (by decide) (Nat.le_of_ble_eq_true rfl) ?_
      refine gi_goto (tgt := 58) C (dm_Mo_called 56 rfl) (by decide) ?_
      refine gi_close (ihj (j + 1) _ ⟨jl, _, H, ho, fun b hb => by rw [upA_n hb]; exact e9 b hb, fun i => by
          rw [upA_i, upd_is]
          by_cases q : i = 14 * (z.top + 1) + j
          · rw [if_pos q, if_pos (by omega), if_pos (by omega), f9, if_neg (by omega), q, show 14 * (z.top + 1) + j - 14 * (z.top + 1) = j by omega]
          · rw [if_neg q, f9]
            by_cases q2 : 14 * (z.top + 1) ≤ i ∧ i < 14 * (z.top + 1) + 6
            · rw [if_pos q2, if_pos q2]
              by_cases q3 : i < 14 * (z.top + 1) + j
              · rw [if_pos q3, if_pos (by omega)]
              · rw [if_neg q3, if_neg (by omega)]
            · rw [if_neg q2, if_neg q2]⟩ (by omega)) (List.forall_mem_cons.mpr ⟨(by first | rfl | (simp [gi_look, nI_1]; done)), List.forall_mem_cons.mpr ⟨(by first | rfl | (simp [gi_look, nI_1]; done)), List.forall_mem_cons.mpr ⟨(by first | rfl | (simp [gi_look, nI_1]; done)), List.forall_mem_cons.mpr ⟨(by first | rfl | (simp [gi_look, nI_1]; done)), fun _ h => absurd h List.not_mem_nil⟩⟩⟩⟩) rfl rfl rfl
  · refine gi_aload_n (q := 10) (i := 0) C (dm_Mo_called 4 rfl) rfl rfl rfl ?_
    refine gi_iconst (q := 11) (v := 5) C (dm_Mo_called 5 rfl) rfl (by decide) ?_
    refine gi_put (q := 14) C (dm_Mo_called 6 rfl) rfl fl_Mo_564 fp_Mo_82 Ha (by rw [Hf.1]; decide) rfl rfl ?_
    refine gi_genM (H.putI Ha Hf (by decide) rfl) (ho.up (by omega) (by omega)) (fun y H ho => ?_)
    obtain ⟨fs, Ha, Hf⟩ := id H.1
    refine gi_vret C hr (dm_Mo_called 7 rfl) ?_
    refine ⟨rfl, rfl, ?_⟩
    unfold entZ
    rw [if_pos (by have := (nI_ei (b := 16) (by omega) (by decide)).mp c6; omega)]
    exact ⟨_, _, _, H, ho, frM.wr, R.wr⟩
/-- a run that has returned: what is asked of it afterwards -/
def edR (z : Mc) (S : Nat → Int32) (J : Nat → Int64) (F : Nat → Nat → Int32) : Prop := S 75 = nI z.hp.c ∧ S 82 = z.wr ∧ S 85 = nI z.dp ∧ J 86 = z.gv ∧ F 77 0 = z.fd 0
theorem mcR.ed (R : mcR P cb z S J F) : edR z S J F := ⟨R.2.1.2.1, R.2.2.2.2.1, R.2.2.2.2.2.1, R.2.2.2.2.2.2.2.1, R.2.2.1 0 (by decide)⟩
def edP (M : Nat) (z : Mc) (h : gi_H) (S : Nat → Int32) (J : Nat → Int64) (F : Nat → Nat → Int32) (G : Nat → Nat → Int64) (h' : gi_H) : Prop := ∃ S' J' F', mo_at M S' J' F' G h' ∧ outM M h h' ∧ frM S S' J J' F F' ∧ S' 81 = 0 ∧ edR z S' J' F'
theorem mcR.dwn (R : mcR P cb z S J F) (h : 0 < z.top) : mcR P cb (dwnZ z) (upS S 81 (nI z.top)) J F := by
  obtain ⟨r1, ⟨q1, q2, q3, q4, q5⟩, r3, r4, r5, r6, r7, r8, r9, r9', r10⟩ := R
  refine ⟨by show z.top - 1 < 16; omega, ⟨q1, q2, q3, q4, q5⟩, r3, ?_, r5, r6, r7, r8, r9, r9', fun t ht => r10 t (by have : t ≤ z.top - 1 := ht; show t ≤ z.top; omega)⟩
  show nI z.top = nI (z.top - 1 + 1)
  rw [show z.top - 1 + 1 = z.top by omega]
theorem frM.f81 {v : Int32} : frM S (upS S 81 v) J J F F := ⟨fun j h => by unfold upS; rw [if_neg (by omega)], fun _ _ => rfl, fun _ _ => rfl⟩
def lvP (M : Nat) (P : Pm) (cb : Bool) (z : Mc) (h : gi_H) (S : Nat → Int32) (J : Nat → Int64) (F : Nat → Nat → Int32) (G : Nat → Nat → Int64) (h' : gi_H) : Prop := ((leaZ P z).2 = 0 ∧ mcP M P cb (leaZ P z).1 h S J F G h') ∨ ((leaZ P z).2 = 1 ∧ edP M (leaZ P z).1 h S J F G h')
set_option maxHeartbeats 4000000 in
set_option maxRecDepth 100000 in
theorem c_Mo_left (R : mcR P cb z S J F) (r4 : F 4 z.cur.m = nI (pN P 4 z.cur.m)) (r42 : pN P 4 z.cur.m ≤ 2) (hn : pN P 4 z.cur.m ≠ 0 → pN P 2 z.cur.m + 1 ≤ z.cur.n) (hr2 : pN P 4 z.cur.m = 2 → ∃ r, r ≤ z.hp.c ∧ topV z = nI r) (h8 : pN P 4 z.cur.m ≠ 0 → 0 < z.top → (dwnZ (popZ z)).cur.n - pN P 2 (dwnZ (popZ z)).cur.m < 8) (H : mo_at M S J F G h) : gi_T l V y_Mo_left b_Mo_left 3 none 2 42 0 0 [.ref M, .int (nI z.cur.m)] n h (fun r n' h' => r = none ∧ n' = n ∧ lvP M P cb z h S J F G h') := by
  refine gi_enter (by decide) (Nat.le_of_ble_eq_true rfl) ?_
  intro _ _ _ _ _ _ _ _ C hr hnm
  obtain ⟨fs, Ha, Hf⟩ := id H.1
  have ho : outM M h h := outM.rf
  have fm : frM S S J J F F := frM.rf
  have h81 := R.2.2.2.1
  have ht := R.1
  have mk8 := (R.2.2.2.2.2.2.2.2.2.2 z.top (Nat.le_refl _)).2.2.2.2.2.1.1
  change z.cur.m < 8 at mk8
  by_cases r0 : pN P 4 z.cur.m = 0
  · refine gi_aload_n (q := 1) (i := 0) C (dm_Mo_left 0 rfl) rfl rfl rfl ?_
    refine gi_get (q := 4) C (dm_Mo_left 1 rfl) rfl fl_Mo_19 Ha (mo_g4 Hf) ?_
    refine gi_iload_n (q := 5) (i := 1) C (dm_Mo_left 2 rfl) rfl rfl rfl ?_
    refine gi_iald (q := 6) C (dm_Mo_left 3 rfl) rfl rfl (mo_a4 H) (inN (show z.cur.m < 8 by omega) (by decide)) ?_
    rw [nI_clamp (show z.cur.m < 2 ^ 31 by omega), r4]
    refine gi_if_le (q := 9) (tgt := 16) C (dm_Mo_left 4 rfl) rfl (by decide) (fun c6 => ?_) (fun c6 => ?_)
    · refine gi_iconst (q := 17) (v := 0) C (dm_Mo_left 8 rfl) rfl (by decide) ?_
      refine gi_istore_n (q := 18) (i := 2) C (dm_Mo_left 9 rfl) rfl rfl (Nat.le_of_ble_eq_true rfl) ?_
      refine gi_aload_n (q := 19) (i := 0) C (dm_Mo_left 10 rfl) rfl rfl rfl ?_
      refine gi_dup (q := 20) C (dm_Mo_left 11 rfl) rfl rfl ?_
      refine gi_get (q := 23) C (dm_Mo_left 12 rfl) rfl fl_Mo_552 Ha (mo_g81 Hf) ?_
      rw [h81]
      refine gi_iconst (q := 24) (v := 1) C (dm_Mo_left 13 rfl) rfl (by decide) ?_
      refine gi_isub (q := 25) C (dm_Mo_left 14 rfl) rfl ?_
      rw [show (1 : Int32) = nI 1 from rfl, nI_sb (by omega) (by omega), show z.top + 1 - 1 = z.top by omega]
      refine gi_put (q := 28) C (dm_Mo_left 15 rfl) rfl fl_Mo_552 fp_Mo_81 Ha (by rw [Hf.1]; decide) rfl rfl ?_
      refine gi_genM (H.putI Ha Hf (by decide) rfl) (ho.up (by omega) (by omega)) (fun y H ho => ?_)
      obtain ⟨fs, Ha, Hf⟩ := id H.1
      refine gi_aload_n (q := 29) (i := 0) C (dm_Mo_left 16 rfl) rfl rfl rfl ?_
      refine gi_get (q := 32) C (dm_Mo_left 17 rfl) rfl fl_Mo_552 Ha (mo_g81 Hf) ?_
      rw [show upS S 81 (nI z.top) 81 = nI z.top from rfl]
      refine gi_if_le (q := 35) (tgt := 52) C (dm_Mo_left 18 rfl) rfl (by decide) (fun c32 => ?_) (fun c32 => ?_)
      · have t0 : z.top = 0 := by
          rcases Nat.eq_zero_or_pos z.top with q | q
          · exact q
          · exact absurd c32 (Int32.not_le.mpr (nI_lt (a := 0) q (by omega)))
        refine gi_aload_n (q := 53) (i := 0) C (dm_Mo_left 28 rfl) rfl rfl rfl ?_
        refine gi_aload_n (q := 54) (i := 0) C (dm_Mo_left 29 rfl) rfl rfl rfl ?_
        refine gi_get (q := 57) C (dm_Mo_left 30 rfl) rfl fl_Mo_19 Ha (mo_g4 Hf) ?_
        refine gi_iload_n (q := 58) (i := 1) C (dm_Mo_left 31 rfl) rfl rfl rfl ?_
        refine gi_iald (q := 59) C (dm_Mo_left 32 rfl) rfl rfl (mo_a4 H) (inN (show z.cur.m < 8 by omega) (by decide)) ?_
        rw [nI_clamp (show z.cur.m < 2 ^ 31 by omega), r4]
        refine gi_iconst (q := 60) (v := 2) C (dm_Mo_left 33 rfl) rfl (by decide) ?_
        refine gi_icmp_eq (q := 63) (tgt := 68) C (dm_Mo_left 34 rfl) rfl (by decide) (fun c60 => ?_) (fun c60 => ?_)
        · exact absurd c60 (by rw [r0]; decide)
        · refine gi_iload_n (q := 64) (i := 2) C (dm_Mo_left 35 rfl) rfl rfl rfl ?_
          refine gi_i2l (q := 65) C (dm_Mo_left 36 rfl) rfl ?_
          refine gi_goto (tgt := 87) C (dm_Mo_left 37 rfl) (by decide) ?_
          refine gi_put (q := 90) C (dm_Mo_left 49 rfl) rfl fl_Mo_570 fp_Mo_86 Ha (by rw [Hf.1]; decide) rfl rfl ?_
          refine gi_genM (H.putJ Ha Hf (by decide) rfl) (ho.up (by omega) (by omega)) (fun y H ho => ?_)
          obtain ⟨fs, Ha, Hf⟩ := id H.1
          refine gi_vret C hr (dm_Mo_left 50 rfl) ?_
          refine ⟨rfl, rfl, .inr ?_⟩
          unfold leaZ
          rw [if_pos r0, if_pos t0]
          refine ⟨rfl, _, _, _, H, ho, fm.tr ⟨fun j hj => by unfold upS; rw [if_neg (by omega)], fun j hj => by unfold upL; rw [if_neg hj], fun _ _ => rfl⟩, by show nI z.top = 0; rw [t0]; rfl, R.2.1.2.1, R.2.2.2.2.1, R.2.2.2.2.2.1, ?_, R.2.2.1 0 (by decide)⟩
          show upL J 86 _ 86 = _
          unfold upL
          rw [if_pos rfl]
          rfl
      · have t0 : 0 < z.top := by
          rcases Nat.eq_zero_or_pos z.top with q | q
          · exact absurd (show nI z.top ≤ 0 by rw [q]; decide) c32
          · exact q
        refine gi_aload_n (q := 36) (i := 0) C (dm_Mo_left 19 rfl) rfl rfl rfl ?_
        refine gi_get (q := 39) C (dm_Mo_left 20 rfl) rfl fl_Mo_19 Ha (mo_g4 Hf) ?_
        refine gi_iload_n (q := 40) (i := 1) C (dm_Mo_left 21 rfl) rfl rfl rfl ?_
        refine gi_iald (q := 41) C (dm_Mo_left 22 rfl) rfl rfl (mo_a4 H) (inN (show z.cur.m < 8 by omega) (by decide)) ?_
        rw [nI_clamp (show z.cur.m < 2 ^ 31 by omega), r4]
        refine gi_if_le (q := 44) (tgt := 90) C (dm_Mo_left 23 rfl) rfl (by decide) (fun c41 => ?_) (fun c41 => ?_)
        · refine gi_vret C hr (dm_Mo_left 50 rfl) ?_
          refine ⟨rfl, rfl, .inl ?_⟩
          unfold leaZ
          rw [if_pos r0, if_neg (by omega)]
          exact ⟨rfl, _, _, _, H, ho, fm.tr frM.f81, R.dwn t0⟩
        · exact absurd (by rw [r0]; decide) c41
    · exact absurd (by rw [r0]; decide) c6
  · have h8 := h8 r0
    have hn := hn r0
    refine gi_aload_n (q := 1) (i := 0) C (dm_Mo_left 0 rfl) rfl rfl rfl ?_
    refine gi_get (q := 4) C (dm_Mo_left 1 rfl) rfl fl_Mo_19 Ha (mo_g4 Hf) ?_
    refine gi_iload_n (q := 5) (i := 1) C (dm_Mo_left 2 rfl) rfl rfl rfl ?_
    refine gi_iald (q := 6) C (dm_Mo_left 3 rfl) rfl rfl (mo_a4 H) (inN (show z.cur.m < 8 by omega) (by decide)) ?_
    rw [nI_clamp (show z.cur.m < 2 ^ 31 by omega), r4]
    refine gi_if_le (q := 9) (tgt := 16) C (dm_Mo_left 4 rfl) rfl (by decide) (fun c6 => ?_) (fun c6 => ?_)
    · exact absurd c6 (Int32.not_le.mpr (nI_lt (a := 0) (by omega) (by omega)))
    · refine gi_aload_n (q := 10) (i := 0) C (dm_Mo_left 5 rfl) rfl rfl rfl ?_
      refine gi_callv 0 (q := 13) C (dm_Mo_left 6 rfl) rfl my_Mo_pop lk_Mo_588 im_Mo_pop rfl (c_Mo_pop R (by omega) H) Ha rfl rfl ⟨(Nat.le_of_ble_eq_true rfl), (Nat.le_of_ble_eq_true rfl)⟩ (Nat.le_of_ble_eq_true rfl) ⟨(Nat.le_of_ble_eq_true rfl), (Nat.le_of_ble_eq_true rfl)⟩ (fun r10 n10 h10 e10 => ?_)
      obtain ⟨rfl, qn10, S1, J1, F1, H1, o1, f1, R1⟩ := e10
      rw [qn10]
      have H := H1
      obtain ⟨fs, Ha, Hf⟩ := id H.1
      have ho := ho.tr o1
      have fm := fm.tr f1
      have R := R1
      have r4 : F1 4 z.cur.m = nI (pN P 4 z.cur.m) := by rw [f1.2.2 4 (by decide)]; exact r4
      have h81 : S1 81 = nI (z.top + 1) := R.2.2.2.1
      refine gi_goto (tgt := 17) C (dm_Mo_left 7 rfl) (by decide) ?_
      refine gi_istore_n (q := 18) (i := 2) C (dm_Mo_left 9 rfl) rfl rfl (Nat.le_of_ble_eq_true rfl) ?_
      refine gi_aload_n (q := 19) (i := 0) C (dm_Mo_left 10 rfl) rfl rfl rfl ?_
      refine gi_dup (q := 20) C (dm_Mo_left 11 rfl) rfl rfl ?_
      refine gi_get (q := 23) C (dm_Mo_left 12 rfl) rfl fl_Mo_552 Ha (mo_g81 Hf) ?_
      rw [h81]
      refine gi_iconst (q := 24) (v := 1) C (dm_Mo_left 13 rfl) rfl (by decide) ?_
      refine gi_isub (q := 25) C (dm_Mo_left 14 rfl) rfl ?_
      rw [show (1 : Int32) = nI 1 from rfl, nI_sb (by omega) (by omega), show z.top + 1 - 1 = z.top by omega]
      refine gi_put (q := 28) C (dm_Mo_left 15 rfl) rfl fl_Mo_552 fp_Mo_81 Ha (by rw [Hf.1]; decide) rfl rfl ?_
      refine gi_genM (H.putI Ha Hf (by decide) rfl) (ho.up (by omega) (by omega)) (fun y H ho => ?_)
      obtain ⟨fs, Ha, Hf⟩ := id H.1
      refine gi_aload_n (q := 29) (i := 0) C (dm_Mo_left 16 rfl) rfl rfl rfl ?_
      refine gi_get (q := 32) C (dm_Mo_left 17 rfl) rfl fl_Mo_552 Ha (mo_g81 Hf) ?_
      rw [show upS S1 81 (nI z.top) 81 = nI z.top from rfl]
      refine gi_if_le (q := 35) (tgt := 52) C (dm_Mo_left 18 rfl) rfl (by decide) (fun c32 => ?_) (fun c32 => ?_)
      · have t0 : z.top = 0 := by
          rcases Nat.eq_zero_or_pos z.top with q | q
          · exact q
          · exact absurd c32 (Int32.not_le.mpr (nI_lt (a := 0) q (by omega)))
        refine gi_aload_n (q := 53) (i := 0) C (dm_Mo_left 28 rfl) rfl rfl rfl ?_
        refine gi_aload_n (q := 54) (i := 0) C (dm_Mo_left 29 rfl) rfl rfl rfl ?_
        refine gi_get (q := 57) C (dm_Mo_left 30 rfl) rfl fl_Mo_19 Ha (mo_g4 Hf) ?_
        refine gi_iload_n (q := 58) (i := 1) C (dm_Mo_left 31 rfl) rfl rfl rfl ?_
        refine gi_iald (q := 59) C (dm_Mo_left 32 rfl) rfl rfl (mo_a4 H) (inN (show z.cur.m < 8 by omega) (by decide)) ?_
        rw [nI_clamp (show z.cur.m < 2 ^ 31 by omega), r4]
        refine gi_iconst (q := 60) (v := 2) C (dm_Mo_left 33 rfl) rfl (by decide) ?_
        refine gi_icmp_eq (q := 63) (tgt := 68) C (dm_Mo_left 34 rfl) rfl (by decide) (fun c60 => ?_) (fun c60 => ?_)
        · have r2 : pN P 4 z.cur.m = 2 := (nI_ei (b := 2) (by omega) (by decide)).mp c60
          obtain ⟨r, rc, er⟩ := hr2 r2
          refine gi_iload_n (q := 69) (i := 2) C (dm_Mo_left 38 rfl) rfl rfl rfl ?_
          refine gi_if_ne (q := 72) (tgt := 78) C (dm_Mo_left 39 rfl) rfl (by decide) (fun c69 => ?_) (fun c69 => ?_)
          · have r1 : 1 ≤ r := by
              rcases Nat.eq_zero_or_pos r with e0 | e0
              · exact absurd (by rw [er, e0]; rfl) c69
              · exact e0
            have b1 := R.2.1.1.1
            change z.hp.c ≤ 300 at b1
            have g73 := (R.2.1.2.2.2.1 r r1 rc).2.1
            change _ = nI (z.hp.ln r) at g73
            rw [er]
            refine gi_aload_n (q := 79) (i := 0) C (dm_Mo_left 42 rfl) rfl rfl rfl ?_
            refine gi_get (q := 82) C (dm_Mo_left 43 rfl) rfl fl_Mo_155 Ha (mo_g73 Hf) ?_
            refine gi_iload_n (q := 83) (i := 2) C (dm_Mo_left 44 rfl) rfl rfl rfl ?_
            refine gi_iconst (q := 84) (v := 1) C (dm_Mo_left 45 rfl) rfl (by decide) ?_
            refine gi_isub (q := 85) C (dm_Mo_left 46 rfl) rfl ?_
            rw [show (1 : Int32) = nI 1 from rfl, nI_sb r1 (by omega)]
            refine gi_iald (q := 86) C (dm_Mo_left 47 rfl) rfl rfl (mo_a73 H) (inN (show r - 1 < 301 by omega) (by decide)) ?_
            rw [nI_clamp (show r - 1 < 2 ^ 31 by omega), g73]
            refine gi_i2l (q := 87) C (dm_Mo_left 48 rfl) rfl ?_
            refine gi_put (q := 90) C (dm_Mo_left 49 rfl) rfl fl_Mo_570 fp_Mo_86 Ha (by rw [Hf.1]; decide) rfl rfl ?_
            refine gi_genM (H.putJ Ha Hf (by decide) rfl) (ho.up (by omega) (by omega)) (fun y H ho => ?_)
            obtain ⟨fs, Ha, Hf⟩ := id H.1
            refine gi_vret C hr (dm_Mo_left 50 rfl) ?_
            refine ⟨rfl, rfl, .inr ?_⟩
            unfold leaZ
            rw [if_neg (show ¬ pN P 4 z.cur.m = 0 by omega), if_pos t0]
            refine ⟨rfl, _, _, _, H, ho, fm.tr ⟨fun j hj => by unfold upS; rw [if_neg (by omega)], fun j hj => by unfold upL; rw [if_neg hj], fun _ _ => rfl⟩, by show nI z.top = 0; rw [t0]; rfl, R.2.1.2.1, R.2.2.2.2.1, R.2.2.2.2.2.1, ?_, R.2.2.1 0 (by decide)⟩
            show upL J1 86 _ 86 = _
            unfold upL
            rw [if_pos rfl]
            show _ = (if pN P 4 z.cur.m = 2 then _ else _)
            first
              | (rw [if_neg (fun q => c60 (by rw [q]; rfl))]; done)
              | (rw [if_pos r2, if_pos c69] <;> rfl)
              | (rw [if_pos r2, if_neg (fun q => c69 (by rw [er] at q ⊢; exact q)), er, nI_clamp (show r < 2 ^ 31 by omega)]; done)
          · refine gi_ldc2 (q := 75) C (dm_Mo_left 40 rfl) rfl kc_Mo_311 ?_
            refine gi_goto (tgt := 87) C (dm_Mo_left 41 rfl) (by decide) ?_
            refine gi_put (q := 90) C (dm_Mo_left 49 rfl) rfl fl_Mo_570 fp_Mo_86 Ha (by rw [Hf.1]; decide) rfl rfl ?_
            refine gi_genM (H.putJ Ha Hf (by decide) rfl) (ho.up (by omega) (by omega)) (fun y H ho => ?_)
            obtain ⟨fs, Ha, Hf⟩ := id H.1
            refine gi_vret C hr (dm_Mo_left 50 rfl) ?_
            refine ⟨rfl, rfl, .inr ?_⟩
            unfold leaZ
            rw [if_neg (show ¬ pN P 4 z.cur.m = 0 by omega), if_pos t0]
            refine ⟨rfl, _, _, _, H, ho, fm.tr ⟨fun j hj => by unfold upS; rw [if_neg (by omega)], fun j hj => by unfold upL; rw [if_neg hj], fun _ _ => rfl⟩, by show nI z.top = 0; rw [t0]; rfl, R.2.1.2.1, R.2.2.2.2.1, R.2.2.2.2.2.1, ?_, R.2.2.1 0 (by decide)⟩
            show upL J1 86 _ 86 = _
            unfold upL
            rw [if_pos rfl]
            show _ = (if pN P 4 z.cur.m = 2 then _ else _)
            first
              | (rw [if_neg (fun q => c60 (by rw [q]; rfl))]; done)
              | (rw [if_pos r2, if_pos c69] <;> rfl)
              | (rw [if_pos r2, if_neg (fun q => c69 (by rw [er] at q ⊢; exact q)), er, nI_clamp (show r < 2 ^ 31 by omega)]; done)
        · refine gi_iload_n (q := 64) (i := 2) C (dm_Mo_left 35 rfl) rfl rfl rfl ?_
          refine gi_i2l (q := 65) C (dm_Mo_left 36 rfl) rfl ?_
          refine gi_goto (tgt := 87) C (dm_Mo_left 37 rfl) (by decide) ?_
          refine gi_put (q := 90) C (dm_Mo_left 49 rfl) rfl fl_Mo_570 fp_Mo_86 Ha (by rw [Hf.1]; decide) rfl rfl ?_
          refine gi_genM (H.putJ Ha Hf (by decide) rfl) (ho.up (by omega) (by omega)) (fun y H ho => ?_)
          obtain ⟨fs, Ha, Hf⟩ := id H.1
          refine gi_vret C hr (dm_Mo_left 50 rfl) ?_
          refine ⟨rfl, rfl, .inr ?_⟩
          unfold leaZ
          rw [if_neg (show ¬ pN P 4 z.cur.m = 0 by omega), if_pos t0]
          refine ⟨rfl, _, _, _, H, ho, fm.tr ⟨fun j hj => by unfold upS; rw [if_neg (by omega)], fun j hj => by unfold upL; rw [if_neg hj], fun _ _ => rfl⟩, by show nI z.top = 0; rw [t0]; rfl, R.2.1.2.1, R.2.2.2.2.1, R.2.2.2.2.2.1, ?_, R.2.2.1 0 (by decide)⟩
          show upL J1 86 _ 86 = _
          unfold upL
          rw [if_pos rfl]
          show _ = (if pN P 4 z.cur.m = 2 then _ else _)
          first
            | (rw [if_neg (fun q => c60 (by rw [q]; rfl))]; done)
            | (rw [if_pos r2, if_pos c69] <;> rfl)
            | (rw [if_pos r2, if_neg (fun q => c69 (by rw [er] at q ⊢; exact q)), er, nI_clamp (show r < 2 ^ 31 by omega)]; done)
      · have t0 : 0 < z.top := by
          rcases Nat.eq_zero_or_pos z.top with q | q
          · exact absurd (show nI z.top ≤ 0 by rw [q]; decide) c32
          · exact q
        refine gi_aload_n (q := 36) (i := 0) C (dm_Mo_left 19 rfl) rfl rfl rfl ?_
        refine gi_get (q := 39) C (dm_Mo_left 20 rfl) rfl fl_Mo_19 Ha (mo_g4 Hf) ?_
        refine gi_iload_n (q := 40) (i := 1) C (dm_Mo_left 21 rfl) rfl rfl rfl ?_
        refine gi_iald (q := 41) C (dm_Mo_left 22 rfl) rfl rfl (mo_a4 H) (inN (show z.cur.m < 8 by omega) (by decide)) ?_
        rw [nI_clamp (show z.cur.m < 2 ^ 31 by omega), r4]
        refine gi_if_le (q := 44) (tgt := 90) C (dm_Mo_left 23 rfl) rfl (by decide) (fun c41 => ?_) (fun c41 => ?_)
        · exact absurd c41 (Int32.not_le.mpr (nI_lt (a := 0) (by omega) (by omega)))
        · refine gi_aload_n (q := 45) (i := 0) C (dm_Mo_left 24 rfl) rfl rfl rfl ?_
          refine gi_iload_n (q := 46) (i := 2) C (dm_Mo_left 25 rfl) rfl rfl rfl ?_
          refine gi_callv 1 (q := 49) C (dm_Mo_left 26 rfl) rfl my_Mo_push lk_Mo_594 im_Mo_push rfl (c_Mo_push (topV z) (R.dwn (show 0 < (popZ z).top from t0)) (h8 t0) H) Ha rfl rfl ⟨(Nat.le_of_ble_eq_true rfl), (Nat.le_of_ble_eq_true rfl)⟩ (Nat.le_of_ble_eq_true rfl) ⟨(Nat.le_of_ble_eq_true rfl), (Nat.le_of_ble_eq_true rfl)⟩ (fun r46 n46 h46 e46 => ?_)
          obtain ⟨rfl, qn46, p9⟩ := e46
          rw [qn46]
          have p9 := p9.tr ho (fm.tr frM.f81)
          refine gi_goto (tgt := 90) C (dm_Mo_left 27 rfl) (by decide) ?_
          refine gi_vret C hr (dm_Mo_left 50 rfl) ?_
          refine ⟨rfl, rfl, .inl ?_⟩
          unfold leaZ
          rw [if_neg (show ¬ pN P 4 z.cur.m = 0 by omega), if_neg (by omega)]
          exact ⟨rfl, p9⟩
end RM4
