section MO5
variable {l : Launch} {V : gi_V} {n : Nat} {h : gi_H} {M k c : Nat} {S : Nat → Int32} {J : Nat → Int64} {F : Nat → Nat → Int32} {G : Nat → Nat → Int64}
set_option maxHeartbeats 4000000 in
set_option maxRecDepth 100000 in
theorem c_Mo_state_no (m q t x : Int32) (h9 : S 9 = 0) (H : mo_at M S J F G h) : gi_T l V y_Mo_state b_Mo_state 8 (some .long) 4 89 0 0 [.ref M, .int m, .int q, .int t, .int x] n h (gi_is (some (.long NOl)) n h) := by
  refine gi_enter (by decide) (Nat.le_of_ble_eq_true rfl) ?_
  intro _ _ _ _ _ _ _ _ C hr hnm
  obtain ⟨fs, Ha, Hf⟩ := id H.1
  refine gi_aload_n (q := 1) (i := 0) C (dm_Mo_state 0 rfl) rfl rfl rfl ?_
  refine gi_iload_n (q := 2) (i := 1) C (dm_Mo_state 1 rfl) rfl rfl rfl ?_
  refine gi_iload_n (q := 3) (i := 2) C (dm_Mo_state 2 rfl) rfl rfl rfl ?_
  refine gi_iload_n (q := 4) (i := 3) C (dm_Mo_state 3 rfl) rfl rfl rfl ?_
  refine gi_callv 3 (q := 7) C (dm_Mo_state 4 rfl) rfl my_Mo_slotOf lk_Mo_522 im_Mo_slotOf rfl (c_Mo_slotOf_no _ _ _ h9 H) Ha rfl rfl ⟨(Nat.le_of_ble_eq_true rfl), (Nat.le_of_ble_eq_true rfl)⟩ (Nat.le_of_ble_eq_true rfl) ⟨(Nat.le_of_ble_eq_true rfl), (Nat.le_of_ble_eq_true rfl)⟩ (fun r4 n4 h4 e4 => ?_)
  obtain ⟨rfl, rfl, rfl⟩ := e4
  refine gi_istore (q := 9) C (dm_Mo_state 5 rfl) rfl (Nat.le_of_ble_eq_true rfl) ?_
  refine gi_iload (q := 11) C (dm_Mo_state 6 rfl) rfl rfl ?_
  refine gi_if_ge (q := 14) (tgt := 18) C (dm_Mo_state 7 rfl) rfl (by decide) (fun c11 => ?_) (fun c11 => ?_)
  · exact absurd c11 (by decide)
  · refine gi_ldc2 (q := 17) C (dm_Mo_state 8 rfl) rfl kc_Mo_525 ?_
    refine gi_lret C hr (dm_Mo_state 9 rfl) ?_
    exact ⟨rfl, rfl, rfl⟩
set_option maxHeartbeats 4000000 in
set_option maxRecDepth 100000 in
theorem c_Mo_plant_no (m q t x y : Int32) (h9 : S 9 = 0) (H : mo_at M S J F G h) : gi_T l V y_Mo_plant b_Mo_plant 8 (some .boolean) 4 89 0 0 [.ref M, .int m, .int q, .int t, .int x, .int y] n h (gi_is (some (.int 0)) n h) := by
  refine gi_enter (by decide) (Nat.le_of_ble_eq_true rfl) ?_
  intro _ _ _ _ _ _ _ _ C hr hnm
  obtain ⟨fs, Ha, Hf⟩ := id H.1
  refine gi_aload_n (q := 1) (i := 0) C (dm_Mo_plant 0 rfl) rfl rfl rfl ?_
  refine gi_iload_n (q := 2) (i := 1) C (dm_Mo_plant 1 rfl) rfl rfl rfl ?_
  refine gi_iload_n (q := 3) (i := 2) C (dm_Mo_plant 2 rfl) rfl rfl rfl ?_
  refine gi_iload_n (q := 4) (i := 3) C (dm_Mo_plant 3 rfl) rfl rfl rfl ?_
  refine gi_callv 3 (q := 7) C (dm_Mo_plant 4 rfl) rfl my_Mo_slotOf lk_Mo_522 im_Mo_slotOf rfl (c_Mo_slotOf_no _ _ _ h9 H) Ha rfl rfl ⟨(Nat.le_of_ble_eq_true rfl), (Nat.le_of_ble_eq_true rfl)⟩ (Nat.le_of_ble_eq_true rfl) ⟨(Nat.le_of_ble_eq_true rfl), (Nat.le_of_ble_eq_true rfl)⟩ (fun r4 n4 h4 e4 => ?_)
  obtain ⟨rfl, rfl, rfl⟩ := e4
  refine gi_istore (q := 9) C (dm_Mo_plant 5 rfl) rfl (Nat.le_of_ble_eq_true rfl) ?_
  refine gi_iload (q := 11) C (dm_Mo_plant 6 rfl) rfl rfl ?_
  refine gi_if_lt (q := 14) (tgt := 36) C (dm_Mo_plant 7 rfl) rfl (by decide) (fun c11 => ?_) (fun c11 => ?_)
  · refine gi_iconst (q := 37) (v := 0) C (dm_Mo_plant 20 rfl) rfl (by decide) ?_
    refine gi_zret C hr (dm_Mo_plant 21 rfl) rfl ?_
    exact ⟨rfl, rfl, rfl⟩
  · exact absurd (by decide) c11
def mo_ranv (S : Nat → Int32) (J : Nat → Int64) (F : Nat → Nat → Int32) (x : Int32) : Int64 := if x = nI 0 then J 86 else if x = nI 1 then (S 82).toInt64 else if x = nI 2 then (S 83).toInt64 else if x = nI 3 then (S 84 / 60).toInt64 else if x = nI 4 then (S 84 - S 84 / 60 * 60).toInt64 else if x = nI 5 then (S 85).toInt64 else if x = nI 6 then (F 77 0).toInt64 else if x = nI 7 then (S 75).toInt64 else NOl
set_option maxHeartbeats 4000000 in
set_option maxRecDepth 100000 in
theorem c_Mo_ran (x : Int32) (H : mo_at M S J F G h) : gi_T l V y_Mo_ran b_Mo_ran 2 (some .long) 0 0 0 0 [.ref M, .int x] n h (gi_is (some (.long (mo_ranv S J F x))) n h) := by
  refine gi_enter (by decide) (Nat.le_of_ble_eq_true rfl) ?_
  intro _ _ _ _ _ _ _ _ C hr hnm
  obtain ⟨fs, Ha, Hf⟩ := id H.1
  refine gi_iload_n (q := 1) (i := 1) C (dm_Mo_ran 0 rfl) rfl rfl rfl ?_
  refine gi_switch (lo := 0) (hi := 7) (by decide) (fun c1 => ?_) (fun i1 u1 v1 c1 => ?_)
  · refine gi_tableOut (tgt := 103) C (dm_Mo_ran 1 rfl) c1 (by decide) ?_
    refine gi_ldc2 (q := 106) C (dm_Mo_ran 39 rfl) rfl kc_Mo_525 ?_
    refine gi_lret C hr (dm_Mo_ran 40 rfl) ?_
    refine ⟨?_, rfl, rfl⟩
    first
      | (subst c1; rfl)
      | (have nx : ∀ k : Nat, k ≤ 7 → ¬ x = nI k := fun k hk q => by rw [q, nI_toInt (by omega)] at c1; omega
         simp [mo_ranv, nx])
  · have w1 : i1 = 0 ∨ i1 = 1 ∨ i1 = 2 ∨ i1 = 3 ∨ i1 = 4 ∨ i1 = 5 ∨ i1 = 6 ∨ i1 = 7 := by omega
    rcases w1 with rfl | rfl | rfl | rfl | rfl | rfl | rfl | rfl
    · refine gi_tableIn (off := 47) (tgt := 48) C (dm_Mo_ran 1 rfl) (by decide) (by decide) rfl (by decide) ?_
      refine gi_aload_n (q := 49) (i := 0) C (dm_Mo_ran 2 rfl) rfl rfl rfl ?_
      refine gi_get (q := 52) C (dm_Mo_ran 3 rfl) rfl fl_Mo_570 Ha (mo_g86 Hf) ?_
      refine gi_lret C hr (dm_Mo_ran 4 rfl) ?_
      refine ⟨?_, rfl, rfl⟩
      first
        | (subst c1; rfl)
        | (have nx : ∀ k : Nat, k ≤ 7 → ¬ x = nI k := fun k hk q => by rw [q, nI_toInt (by omega)] at c1; omega
           simp [mo_ranv, nx])
    · refine gi_tableIn (off := 52) (tgt := 53) C (dm_Mo_ran 1 rfl) (by decide) (by decide) rfl (by decide) ?_
      refine gi_aload_n (q := 54) (i := 0) C (dm_Mo_ran 5 rfl) rfl rfl rfl ?_
      refine gi_get (q := 57) C (dm_Mo_ran 6 rfl) rfl fl_Mo_564 Ha (mo_g82 Hf) ?_
      refine gi_i2l (q := 58) C (dm_Mo_ran 7 rfl) rfl ?_
      refine gi_lret C hr (dm_Mo_ran 8 rfl) ?_
      refine ⟨?_, rfl, rfl⟩
      first
        | (subst c1; rfl)
        | (have nx : ∀ k : Nat, k ≤ 7 → ¬ x = nI k := fun k hk q => by rw [q, nI_toInt (by omega)] at c1; omega
           simp [mo_ranv, nx])
    · refine gi_tableIn (off := 58) (tgt := 59) C (dm_Mo_ran 1 rfl) (by decide) (by decide) rfl (by decide) ?_
      refine gi_aload_n (q := 60) (i := 0) C (dm_Mo_ran 9 rfl) rfl rfl rfl ?_
      refine gi_get (q := 63) C (dm_Mo_ran 10 rfl) rfl fl_Mo_567 Ha (mo_g83 Hf) ?_
      refine gi_i2l (q := 64) C (dm_Mo_ran 11 rfl) rfl ?_
      refine gi_lret C hr (dm_Mo_ran 12 rfl) ?_
      refine ⟨?_, rfl, rfl⟩
      first
        | (subst c1; rfl)
        | (have nx : ∀ k : Nat, k ≤ 7 → ¬ x = nI k := fun k hk q => by rw [q, nI_toInt (by omega)] at c1; omega
           simp [mo_ranv, nx])
    · refine gi_tableIn (off := 64) (tgt := 65) C (dm_Mo_ran 1 rfl) (by decide) (by decide) rfl (by decide) ?_
      refine gi_aload_n (q := 66) (i := 0) C (dm_Mo_ran 13 rfl) rfl rfl rfl ?_
      refine gi_get (q := 69) C (dm_Mo_ran 14 rfl) rfl fl_Mo_573 Ha (mo_g84 Hf) ?_
      refine gi_bipush (q := 71) (v := 60) C (dm_Mo_ran 15 rfl) rfl (by decide) ?_
      refine gi_idiv (q := 72) C (dm_Mo_ran 16 rfl) rfl (by decide) ?_
      refine gi_i2l (q := 73) C (dm_Mo_ran 17 rfl) rfl ?_
      refine gi_lret C hr (dm_Mo_ran 18 rfl) ?_
      refine ⟨?_, rfl, rfl⟩
      first
        | (subst c1; rfl)
        | (have nx : ∀ k : Nat, k ≤ 7 → ¬ x = nI k := fun k hk q => by rw [q, nI_toInt (by omega)] at c1; omega
           simp [mo_ranv, nx])
    · refine gi_tableIn (off := 73) (tgt := 74) C (dm_Mo_ran 1 rfl) (by decide) (by decide) rfl (by decide) ?_
      refine gi_aload_n (q := 75) (i := 0) C (dm_Mo_ran 19 rfl) rfl rfl rfl ?_
      refine gi_get (q := 78) C (dm_Mo_ran 20 rfl) rfl fl_Mo_573 Ha (mo_g84 Hf) ?_
      refine gi_bipush (q := 80) (v := 60) C (dm_Mo_ran 21 rfl) rfl (by decide) ?_
      refine gi_irem (q := 81) C (dm_Mo_ran 22 rfl) rfl (by decide) ?_
      refine gi_i2l (q := 82) C (dm_Mo_ran 23 rfl) rfl ?_
      refine gi_lret C hr (dm_Mo_ran 24 rfl) ?_
      refine ⟨?_, rfl, rfl⟩
      first
        | (subst c1; rfl)
        | (have nx : ∀ k : Nat, k ≤ 7 → ¬ x = nI k := fun k hk q => by rw [q, nI_toInt (by omega)] at c1; omega
           simp [mo_ranv, nx])
    · refine gi_tableIn (off := 82) (tgt := 83) C (dm_Mo_ran 1 rfl) (by decide) (by decide) rfl (by decide) ?_
      refine gi_aload_n (q := 84) (i := 0) C (dm_Mo_ran 25 rfl) rfl rfl rfl ?_
      refine gi_get (q := 87) C (dm_Mo_ran 26 rfl) rfl fl_Mo_555 Ha (mo_g85 Hf) ?_
      refine gi_i2l (q := 88) C (dm_Mo_ran 27 rfl) rfl ?_
      refine gi_lret C hr (dm_Mo_ran 28 rfl) ?_
      refine ⟨?_, rfl, rfl⟩
      first
        | (subst c1; rfl)
        | (have nx : ∀ k : Nat, k ≤ 7 → ¬ x = nI k := fun k hk q => by rw [q, nI_toInt (by omega)] at c1; omega
           simp [mo_ranv, nx])
    · refine gi_tableIn (off := 88) (tgt := 89) C (dm_Mo_ran 1 rfl) (by decide) (by decide) rfl (by decide) ?_
      refine gi_aload_n (q := 90) (i := 0) C (dm_Mo_ran 29 rfl) rfl rfl rfl ?_
      refine gi_get (q := 93) C (dm_Mo_ran 30 rfl) rfl fl_Mo_161 Ha (mo_g77 Hf) ?_
      refine gi_iconst (q := 94) (v := 0) C (dm_Mo_ran 31 rfl) rfl (by decide) ?_
      refine gi_iald (q := 95) C (dm_Mo_ran 32 rfl) rfl rfl (mo_a77 H) (show vp_in (nI 0) 4 from vp_in_nI (by omega) (by omega)) ?_
      refine gi_i2l (q := 96) C (dm_Mo_ran 33 rfl) rfl ?_
      refine gi_lret C hr (dm_Mo_ran 34 rfl) ?_
      refine ⟨?_, rfl, rfl⟩
      first
        | (subst c1; rfl)
        | (have nx : ∀ k : Nat, k ≤ 7 → ¬ x = nI k := fun k hk q => by rw [q, nI_toInt (by omega)] at c1; omega
           simp [mo_ranv, nx])
    · refine gi_tableIn (off := 96) (tgt := 97) C (dm_Mo_ran 1 rfl) (by decide) (by decide) rfl (by decide) ?_
      refine gi_aload_n (q := 98) (i := 0) C (dm_Mo_ran 35 rfl) rfl rfl rfl ?_
      refine gi_get (q := 101) C (dm_Mo_ran 36 rfl) rfl fl_Mo_540 Ha (mo_g75 Hf) ?_
      refine gi_i2l (q := 102) C (dm_Mo_ran 37 rfl) rfl ?_
      refine gi_lret C hr (dm_Mo_ran 38 rfl) ?_
      refine ⟨?_, rfl, rfl⟩
      first
        | (subst c1; rfl)
        | (have nx : ∀ k : Nat, k ≤ 7 → ¬ x = nI k := fun k hk q => by rw [q, nI_toInt (by omega)] at c1; omega
           simp [mo_ranv, nx])
set_option maxHeartbeats 4000000 in
set_option maxRecDepth 100000 in
theorem c_Mo_build_0 (h0 : S 0 = 0) (H : mo_at M S J F G h) : gi_T l V y_Mo_build b_Mo_build 4 (some .int) 4 91 0 0 [.ref M] n h (fun v n' h' => n' = n ∧ outM M h h' ∧ (v = some (.int 1) ∧ mo_at M (upS (upS (upS (upS (upS (upS S 8 0) 9 0) 10 (-1)) 11 (-1)) 18 1) 8 1) J F G h')) := by
  refine gi_enter (by decide) (Nat.le_of_ble_eq_true rfl) ?_
  intro _ _ _ _ _ _ _ _ C hr hnm
  obtain ⟨fs, Ha, Hf⟩ := id H.1
  have ho : outM M h h := outM.rf
  refine gi_aload_n (q := 1) (i := 0) C (dm_Mo_build 0 rfl) rfl rfl rfl ?_
  refine gi_iconst (q := 2) (v := 0) C (dm_Mo_build 1 rfl) rfl (by decide) ?_
  refine gi_put (q := 5) C (dm_Mo_build 2 rfl) rfl fl_Mo_179 fp_Mo_8 Ha (by rw [Hf.1]; decide) rfl rfl ?_
  refine gi_genM (H.putI Ha Hf (by decide) rfl) (ho.up (by omega) (by omega)) (fun y H ho => ?_)
  obtain ⟨fs, Ha, Hf⟩ := id H.1
  refine gi_aload_n (q := 6) (i := 0) C (dm_Mo_build 3 rfl) rfl rfl rfl ?_
  refine gi_iconst (q := 7) (v := 0) C (dm_Mo_build 4 rfl) rfl (by decide) ?_
  refine gi_put (q := 10) C (dm_Mo_build 5 rfl) rfl fl_Mo_183 fp_Mo_9 Ha (by rw [Hf.1]; decide) rfl rfl ?_
  refine gi_genM (H.putI Ha Hf (by decide) rfl) (ho.up (by omega) (by omega)) (fun y H ho => ?_)
  obtain ⟨fs, Ha, Hf⟩ := id H.1
  refine gi_aload_n (q := 11) (i := 0) C (dm_Mo_build 6 rfl) rfl rfl rfl ?_
  refine gi_iconst (q := 12) (v := -1) C (dm_Mo_build 7 rfl) rfl (by decide) ?_
  refine gi_put (q := 15) C (dm_Mo_build 8 rfl) rfl fl_Mo_31 fp_Mo_10 Ha (by rw [Hf.1]; decide) rfl rfl ?_
  refine gi_genM (H.putI Ha Hf (by decide) rfl) (ho.up (by omega) (by omega)) (fun y H ho => ?_)
  obtain ⟨fs, Ha, Hf⟩ := id H.1
  refine gi_aload_n (q := 16) (i := 0) C (dm_Mo_build 9 rfl) rfl rfl rfl ?_
  refine gi_iconst (q := 17) (v := -1) C (dm_Mo_build 10 rfl) rfl (by decide) ?_
  refine gi_put (q := 20) C (dm_Mo_build 11 rfl) rfl fl_Mo_35 fp_Mo_11 Ha (by rw [Hf.1]; decide) rfl rfl ?_
  refine gi_genM (H.putI Ha Hf (by decide) rfl) (ho.up (by omega) (by omega)) (fun y H ho => ?_)
  obtain ⟨fs, Ha, Hf⟩ := id H.1
  refine gi_iconst (q := 21) (v := 0) C (dm_Mo_build 12 rfl) rfl (by decide) ?_
  refine gi_istore_n (q := 22) (i := 1) C (dm_Mo_build 13 rfl) rfl rfl (Nat.le_of_ble_eq_true rfl) ?_
  refine gi_iload_n (q := 23) (i := 1) C (dm_Mo_build 14 rfl) rfl rfl rfl ?_
  refine gi_aload_n (q := 24) (i := 0) C (dm_Mo_build 15 rfl) rfl rfl rfl ?_
  refine gi_get (q := 27) C (dm_Mo_build 16 rfl) rfl fl_Mo_176 Ha (mo_g0 Hf) ?_
  refine gi_icmp_ge (q := 30) (tgt := 92) C (dm_Mo_build 17 rfl) rfl (by decide) (fun c27 => ?_) (fun c27 => ?_)
  · refine gi_iconst (q := 93) (v := 0) C (dm_Mo_build 56 rfl) rfl (by decide) ?_
    refine gi_istore_n (q := 94) (i := 1) C (dm_Mo_build 57 rfl) rfl rfl (Nat.le_of_ble_eq_true rfl) ?_
    refine gi_iload_n (q := 95) (i := 1) C (dm_Mo_build 58 rfl) rfl rfl rfl ?_
    refine gi_aload_n (q := 96) (i := 0) C (dm_Mo_build 59 rfl) rfl rfl rfl ?_
    refine gi_get (q := 99) C (dm_Mo_build 60 rfl) rfl fl_Mo_176 Ha (mo_g0 Hf) ?_
    refine gi_icmp_ge (q := 102) (tgt := 120) C (dm_Mo_build 61 rfl) rfl (by decide) (fun c99 => ?_) (fun c99 => ?_)
    · refine gi_aload_n (q := 121) (i := 0) C (dm_Mo_build 72 rfl) rfl rfl rfl ?_
      refine gi_iconst (q := 122) (v := 1) C (dm_Mo_build 73 rfl) rfl (by decide) ?_
      refine gi_put (q := 125) C (dm_Mo_build 74 rfl) rfl fl_Mo_229 fp_Mo_18 Ha (by rw [Hf.1]; decide) rfl rfl ?_
      refine gi_genM (H.putI Ha Hf (by decide) rfl) (ho.up (by omega) (by omega)) (fun y H ho => ?_)
      obtain ⟨fs, Ha, Hf⟩ := id H.1
      refine gi_iconst (q := 126) (v := 0) C (dm_Mo_build 75 rfl) rfl (by decide) ?_
      refine gi_istore_n (q := 127) (i := 1) C (dm_Mo_build 76 rfl) rfl rfl (Nat.le_of_ble_eq_true rfl) ?_
      refine gi_iload_n (q := 128) (i := 1) C (dm_Mo_build 77 rfl) rfl rfl rfl ?_
      refine gi_aload_n (q := 129) (i := 0) C (dm_Mo_build 78 rfl) rfl rfl rfl ?_
      refine gi_get (q := 132) C (dm_Mo_build 79 rfl) rfl fl_Mo_176 Ha (mo_g0 Hf) ?_
      refine gi_icmp_ge (q := 135) (tgt := 239) C (dm_Mo_build 80 rfl) rfl (by decide) (fun c132 => ?_) (fun c132 => ?_)
      · refine gi_iconst (q := 240) (v := 0) C (dm_Mo_build 144 rfl) rfl (by decide) ?_
        refine gi_istore_n (q := 241) (i := 1) C (dm_Mo_build 145 rfl) rfl rfl (Nat.le_of_ble_eq_true rfl) ?_
        refine gi_iload_n (q := 242) (i := 1) C (dm_Mo_build 146 rfl) rfl rfl rfl ?_
        refine gi_aload_n (q := 243) (i := 0) C (dm_Mo_build 147 rfl) rfl rfl rfl ?_
        refine gi_get (q := 246) C (dm_Mo_build 148 rfl) rfl fl_Mo_176 Ha (mo_g0 Hf) ?_
        refine gi_icmp_ge (q := 249) (tgt := 348) C (dm_Mo_build 149 rfl) rfl (by decide) (fun c246 => ?_) (fun c246 => ?_)
        · refine gi_aload_n (q := 349) (i := 0) C (dm_Mo_build 207 rfl) rfl rfl rfl ?_
          refine gi_iconst (q := 350) (v := 1) C (dm_Mo_build 208 rfl) rfl (by decide) ?_
          refine gi_put (q := 353) C (dm_Mo_build 209 rfl) rfl fl_Mo_179 fp_Mo_8 Ha (by rw [Hf.1]; decide) rfl rfl ?_
          refine gi_genM (H.putI Ha Hf (by decide) rfl) (ho.up (by omega) (by omega)) (fun y H ho => ?_)
          obtain ⟨fs, Ha, Hf⟩ := id H.1
          refine gi_aload_n (q := 354) (i := 0) C (dm_Mo_build 210 rfl) rfl rfl rfl ?_
          refine gi_get (q := 357) C (dm_Mo_build 211 rfl) rfl fl_Mo_229 Ha (mo_g18 Hf) ?_
          refine gi_iret C hr (dm_Mo_build 212 rfl) ?_
          exact ⟨rfl, ho, rfl, H⟩
        · exact absurd (show S 0 ≤ 0 by rw [h0]; decide) c246
      · exact absurd (show S 0 ≤ 0 by rw [h0]; decide) c132
    · exact absurd (show S 0 ≤ 0 by rw [h0]; decide) c99
  · exact absurd (show S 0 ≤ 0 by rw [h0]; decide) c27
set_option maxHeartbeats 4000000 in
set_option maxRecDepth 100000 in
theorem c_Mo_argument (t x : Int32) (hc : c ≤ 3) (hS : S 67 = nI c) (H : mo_at M S J F G h) : gi_T l V y_Mo_argument b_Mo_argument 4 (some .int) 0 0 0 0 [.ref M, .int t, .int x] n h (fun v n' h' => n' = n ∧ outM M h h' ∧ ((okA c t x ∧ v = some (.int (nI (c + 1))) ∧ mo_at M (upS S 67 (nI (c + 1))) J (upA (upA (upA F 68 (upd (F 68) c t)) 69 (upd (F 69) c x)) 70 (fun j => if 200 * c ≤ j ∧ j < 200 * c + 200 then 0 else F 70 j)) G h') ∨ (¬ okA c t x ∧ v = some (.int (-1)) ∧ h' = h))) := by
  refine gi_enter (by decide) (Nat.le_of_ble_eq_true rfl) ?_
  intro _ _ _ _ _ _ _ _ C hr hnm
  obtain ⟨fs, Ha, Hf⟩ := id H.1
  have ho : outM M h h := outM.rf
  refine gi_iload_n (q := 1) (i := 1) C (dm_Mo_argument 0 rfl) rfl rfl rfl ?_
  refine gi_if_lt (q := 4) (tgt := 33) C (dm_Mo_argument 1 rfl) rfl (by decide) (fun c1 => ?_) (fun c1 => ?_)
  · refine gi_iconst (q := 34) (v := -1) C (dm_Mo_argument 17 rfl) rfl (by decide) ?_
    refine gi_iret C hr (dm_Mo_argument 18 rfl) ?_
    refine ⟨rfl, ho, Or.inr ⟨fun q => ?_, rfl, rfl⟩⟩
    obtain ⟨q1, q2, q3, q4⟩ := q
    first
      | exact absurd q2 (Int32.not_le.mpr c1)
      | exact absurd q3 (Int32.not_le.mpr c6)
      | (rw [hS, show (3 : Int32) = nI 3 from rfl, nI_eq (by omega) (by omega)] at c14; omega)
      | exact absurd (q4 c19).1 (Int32.not_le.mpr c23)
      | exact absurd (q4 c19).2 c30
  · refine gi_iload_n (q := 5) (i := 1) C (dm_Mo_argument 2 rfl) rfl rfl rfl ?_
    refine gi_iconst (q := 6) (v := 2) C (dm_Mo_argument 3 rfl) rfl (by decide) ?_
    refine gi_icmp_gt (q := 9) (tgt := 33) C (dm_Mo_argument 4 rfl) rfl (by decide) (fun c6 => ?_) (fun c6 => ?_)
    · refine gi_iconst (q := 34) (v := -1) C (dm_Mo_argument 17 rfl) rfl (by decide) ?_
      refine gi_iret C hr (dm_Mo_argument 18 rfl) ?_
      refine ⟨rfl, ho, Or.inr ⟨fun q => ?_, rfl, rfl⟩⟩
      obtain ⟨q1, q2, q3, q4⟩ := q
      first
        | exact absurd q2 (Int32.not_le.mpr c1)
        | exact absurd q3 (Int32.not_le.mpr c6)
        | (rw [hS, show (3 : Int32) = nI 3 from rfl, nI_eq (by omega) (by omega)] at c14; omega)
        | exact absurd (q4 c19).1 (Int32.not_le.mpr c23)
        | exact absurd (q4 c19).2 c30
    · refine gi_aload_n (q := 10) (i := 0) C (dm_Mo_argument 5 rfl) rfl rfl rfl ?_
      refine gi_get (q := 13) C (dm_Mo_argument 6 rfl) rfl fl_Mo_537 Ha (mo_g67 Hf) ?_
      refine gi_iconst (q := 14) (v := 3) C (dm_Mo_argument 7 rfl) rfl (by decide) ?_
      refine gi_icmp_eq (q := 17) (tgt := 33) C (dm_Mo_argument 8 rfl) rfl (by decide) (fun c14 => ?_) (fun c14 => ?_)
      · refine gi_iconst (q := 34) (v := -1) C (dm_Mo_argument 17 rfl) rfl (by decide) ?_
        refine gi_iret C hr (dm_Mo_argument 18 rfl) ?_
        refine ⟨rfl, ho, Or.inr ⟨fun q => ?_, rfl, rfl⟩⟩
        obtain ⟨q1, q2, q3, q4⟩ := q
        first
          | exact absurd q2 (Int32.not_le.mpr c1)
          | exact absurd q3 (Int32.not_le.mpr c6)
          | (rw [hS, show (3 : Int32) = nI 3 from rfl, nI_eq (by omega) (by omega)] at c14; omega)
          | exact absurd (q4 c19).1 (Int32.not_le.mpr c23)
          | exact absurd (q4 c19).2 c30
      · refine gi_iload_n (q := 18) (i := 1) C (dm_Mo_argument 9 rfl) rfl rfl rfl ?_
        refine gi_iconst (q := 19) (v := 1) C (dm_Mo_argument 10 rfl) rfl (by decide) ?_
        refine gi_icmp_ne (q := 22) (tgt := 35) C (dm_Mo_argument 11 rfl) rfl (by decide) (fun c19 => ?_) (fun c19 => ?_)
        · have hc3 : c < 3 := by
            rw [hS, show (3 : Int32) = nI 3 from rfl, nI_eq (by omega) (by omega)] at c14
            omega
          refine gi_aload_n (q := 36) (i := 0) C (dm_Mo_argument 19 rfl) rfl rfl rfl ?_
          refine gi_get (q := 39) C (dm_Mo_argument 20 rfl) rfl fl_Mo_140 Ha (mo_g68 Hf) ?_
          refine gi_aload_n (q := 40) (i := 0) C (dm_Mo_argument 21 rfl) rfl rfl rfl ?_
          refine gi_get (q := 43) C (dm_Mo_argument 22 rfl) rfl fl_Mo_537 Ha (mo_g67 Hf) ?_
          refine gi_iload_n (q := 44) (i := 1) C (dm_Mo_argument 23 rfl) rfl rfl rfl ?_
          refine gi_iast (q := 45) C (dm_Mo_argument 24 rfl) rfl rfl (mo_a68 H) (by rw [hS]; exact vp_in_nI hc3 (by omega)) ?_
          refine gi_genM (H.setI (p := 40) (k := 68) (by decide) rfl rfl (by decide) rfl (by omega)) (ho.up (by omega) (by omega)) (fun y H ho => ?_)
          obtain ⟨fs, Ha, Hf⟩ := id H.1
          refine gi_aload_n (q := 46) (i := 0) C (dm_Mo_argument 25 rfl) rfl rfl rfl ?_
          refine gi_get (q := 49) C (dm_Mo_argument 26 rfl) rfl fl_Mo_143 Ha (mo_g69 Hf) ?_
          refine gi_aload_n (q := 50) (i := 0) C (dm_Mo_argument 27 rfl) rfl rfl rfl ?_
          refine gi_get (q := 53) C (dm_Mo_argument 28 rfl) rfl fl_Mo_537 Ha (mo_g67 Hf) ?_
          refine gi_iload_n (q := 54) (i := 2) C (dm_Mo_argument 29 rfl) rfl rfl rfl ?_
          refine gi_iast (q := 55) C (dm_Mo_argument 30 rfl) rfl rfl (mo_a69 H) (by rw [hS]; exact vp_in_nI hc3 (by omega)) ?_
          refine gi_genM (H.setI (p := 41) (k := 69) (by decide) rfl rfl (by decide) rfl (by omega)) (ho.up (by omega) (by omega)) (fun y H ho => ?_)
          obtain ⟨fs, Ha, Hf⟩ := id H.1
          refine gi_iconst (q := 56) (v := 0) C (dm_Mo_argument 31 rfl) rfl (by decide) ?_
          refine gi_istore_n (q := 57) (i := 3) C (dm_Mo_argument 32 rfl) rfl rfl (Nat.le_of_ble_eq_true rfl) ?_
          have hcc : (S 67).toNatClampNeg = c := by rw [hS]; exact nI_clamp (by omega)
          have hokA : okA c t x := ⟨hc3, Int32.not_lt.mp c1, Int32.not_lt.mp c6, fun q => by first | exact absurd q c19 | exact ⟨Int32.not_lt.mp c23, c30⟩⟩
          refine gi_while (σ := Nat) (fun i => 200 - i) (fun i => [(3, .int (nI i)), (0, .ref M), (1, .int t), (2, .int x)]) (fun _ => n) (fun _ => 0) (fun _ => 0) (fun i y => i ≤ 200 ∧ mo_at M S J (upA (upA (upA F 68 (upd (F 68) c t)) 69 (upd (F 69) c x)) 70 (fun j => if 200 * c ≤ j ∧ j < 200 * c + i then 0 else F 70 j)) G y ∧ outM M h y) 0 ⟨Nat.zero_le _, ?_, ho⟩ ?_ (List.forall_mem_cons.mpr ⟨rfl, List.forall_mem_cons.mpr ⟨rfl, List.forall_mem_cons.mpr ⟨rfl, List.forall_mem_cons.mpr ⟨rfl, fun _ h => absurd h List.not_mem_nil⟩⟩⟩⟩) rfl rfl rfl
          · rw [hcc] at H
            have e : upA (upA F 68 (upd (F 68) c t)) 69 (upd (upA F 68 (upd (F 68) c t) 69) c x) = upA (upA (upA F 68 (upd (F 68) c t)) 69 (upd (F 69) c x)) 70 (fun j => if 200 * c ≤ j ∧ j < 200 * c + 0 then 0 else F 70 j) := by
              rw [upA_ne (show (69 : Nat) ≠ 68 by decide)]
              funext a
              by_cases q : a = 70
              · subst q
                rw [upA_self, upA_ne (show (70 : Nat) ≠ 69 by decide), upA_ne (show (70 : Nat) ≠ 68 by decide)]
                funext j
                rw [if_neg (by omega)]
              · rw [upA_ne (k := 70) q]
            rw [e] at H
            exact H
          · rintro i y ⟨hi, H, ho⟩ ih
            try dsimp only at *
            obtain ⟨fs, Ha, Hf⟩ := id H.1
            refine gi_iload_n (q := 58) (i := 3) C (dm_Mo_argument 33 rfl) rfl rfl rfl ?_
            refine gi_sipush (q := 61) (v := 200) C (dm_Mo_argument 34 rfl) rfl (by decide) ?_
            refine gi_icmp_ge (q := 64) (tgt := 86) C (dm_Mo_argument 35 rfl) rfl (by decide) (fun c61 => ?_) (fun c61 => ?_)
            · have hik : i = 200 := by
                rcases Nat.lt_or_ge i 200 with q | q
                · exact absurd c61 (show ¬ (200 : Int32) ≤ nI i from nI_ge (b := 200) q (by omega))
                · omega
              subst hik
              refine gi_aload_n (q := 87) (i := 0) C (dm_Mo_argument 48 rfl) rfl rfl rfl ?_
              refine gi_dup (q := 88) C (dm_Mo_argument 49 rfl) rfl rfl ?_
              refine gi_get (q := 91) C (dm_Mo_argument 50 rfl) rfl fl_Mo_537 Ha (mo_g67 Hf) ?_
              refine gi_iconst (q := 92) (v := 1) C (dm_Mo_argument 51 rfl) rfl (by decide) ?_
              refine gi_iadd (q := 93) C (dm_Mo_argument 52 rfl) rfl ?_
              refine gi_put (q := 96) C (dm_Mo_argument 53 rfl) rfl fl_Mo_537 fp_Mo_67 Ha (by rw [Hf.1]; decide) rfl rfl ?_
              refine gi_genM (H.putI Ha Hf (by decide) rfl) (ho.up (by omega) (by omega)) (fun y H ho => ?_)
              obtain ⟨fs, Ha, Hf⟩ := id H.1
              refine gi_aload_n (q := 97) (i := 0) C (dm_Mo_argument 54 rfl) rfl rfl rfl ?_
              refine gi_get (q := 100) C (dm_Mo_argument 55 rfl) rfl fl_Mo_537 Ha (mo_g67 Hf) ?_
              refine gi_iret C hr (dm_Mo_argument 56 rfl) ?_
              refine ⟨rfl, ho, Or.inl ⟨hokA, ?_, ?_⟩⟩
              · show some (Value.int (upS S 67 (S 67 + 1) 67)) = _
                simp [upS, hS, nI_1]
              · rw [hS, nI_1] at H
                exact H
            · have hlt : i < 200 := by
                rcases Nat.lt_or_ge i 200 with q | q
                · exact q
                · exact absurd (show (200 : Int32) ≤ nI i from nI_le (a := 200) q (by omega)) c61
              have hix : 200 * S 67 + nI i = nI (200 * c + i) := by rw [hS, show (200 : Int32) = nI 200 from rfl, pk_mul, nI_add]
              refine gi_aload_n (q := 65) (i := 0) C (dm_Mo_argument 36 rfl) rfl rfl rfl ?_
              refine gi_get (q := 68) C (dm_Mo_argument 37 rfl) rfl fl_Mo_146 Ha (mo_g70 Hf) ?_
              refine gi_sipush (q := 71) (v := 200) C (dm_Mo_argument 38 rfl) rfl (by decide) ?_
              refine gi_aload_n (q := 72) (i := 0) C (dm_Mo_argument 39 rfl) rfl rfl rfl ?_
              refine gi_get (q := 75) C (dm_Mo_argument 40 rfl) rfl fl_Mo_537 Ha (mo_g67 Hf) ?_
              refine gi_imul (q := 76) C (dm_Mo_argument 41 rfl) rfl ?_
              refine gi_iload_n (q := 77) (i := 3) C (dm_Mo_argument 42 rfl) rfl rfl rfl ?_
              refine gi_iadd (q := 78) C (dm_Mo_argument 43 rfl) rfl ?_
              refine gi_iconst (q := 79) (v := 0) C (dm_Mo_argument 44 rfl) rfl (by decide) ?_
              refine gi_iast (q := 80) C (dm_Mo_argument 45 rfl) rfl rfl (mo_a70 H) (by rw [hix]; exact vp_in_nI (by omega) (by omega)) ?_
              refine gi_genM (H.setI (p := 42) (k := 70) (by decide) rfl rfl (by decide) rfl (by omega)) (ho.up (by omega) (by omega)) (fun y H ho => ?_)
              obtain ⟨fs, Ha, Hf⟩ := id H.1
              refine gi_iinc (q := 83) (v := 1) C (dm_Mo_argument 46 rfl) rfl rfl (by decide) (Nat.le_of_ble_eq_true rfl) ?_
              refine gi_goto (tgt := 57) C (dm_Mo_argument 47 rfl) (by decide) ?_
              refine gi_close (ih (i + 1) _ ⟨hlt, ?_, ho⟩ (by omega)) (List.forall_mem_cons.mpr ⟨(by simp [gi_look, nI_1]), List.forall_mem_cons.mpr ⟨rfl, List.forall_mem_cons.mpr ⟨rfl, List.forall_mem_cons.mpr ⟨rfl, fun _ h => absurd h List.not_mem_nil⟩⟩⟩⟩) rfl rfl rfl
              have e : upA (upA (upA (upA F 68 (upd (F 68) c t)) 69 (upd (F 69) c x)) 70 (fun j => if 200 * c ≤ j ∧ j < 200 * c + i then 0 else F 70 j)) 70 (upd (upA (upA (upA F 68 (upd (F 68) c t)) 69 (upd (F 69) c x)) 70 (fun j => if 200 * c ≤ j ∧ j < 200 * c + i then 0 else F 70 j) 70) (200 * S 67 + nI i).toNatClampNeg 0) = upA (upA (upA F 68 (upd (F 68) c t)) 69 (upd (F 69) c x)) 70 (fun j => if 200 * c ≤ j ∧ j < 200 * c + (i + 1) then 0 else F 70 j) := by
                rw [hix, nI_clamp (by omega), upA_self]
                funext a
                by_cases q : a = 70
                · subst q
                  rw [upA_self, upA_self]
                  funext j
                  unfold upd
                  by_cases q : j = 200 * c + i
                  · rw [if_pos q, if_pos (by omega)]
                  · rw [if_neg q]
                    dsimp only
                    by_cases q2 : 200 * c ≤ j ∧ j < 200 * c + i
                    · rw [if_pos q2, if_pos (by omega)]
                    · rw [if_neg q2, if_neg (by omega)]
                · rw [upA_ne q, upA_ne q, upA_ne q]
              rw [e] at H
              exact H
        · refine gi_iload_n (q := 23) (i := 2) C (dm_Mo_argument 12 rfl) rfl rfl rfl ?_
          refine gi_if_lt (q := 26) (tgt := 33) C (dm_Mo_argument 13 rfl) rfl (by decide) (fun c23 => ?_) (fun c23 => ?_)
          · refine gi_iconst (q := 34) (v := -1) C (dm_Mo_argument 17 rfl) rfl (by decide) ?_
            refine gi_iret C hr (dm_Mo_argument 18 rfl) ?_
            refine ⟨rfl, ho, Or.inr ⟨fun q => ?_, rfl, rfl⟩⟩
            obtain ⟨q1, q2, q3, q4⟩ := q
            first
              | exact absurd q2 (Int32.not_le.mpr c1)
              | exact absurd q3 (Int32.not_le.mpr c6)
              | (rw [hS, show (3 : Int32) = nI 3 from rfl, nI_eq (by omega) (by omega)] at c14; omega)
              | exact absurd (q4 c19).1 (Int32.not_le.mpr c23)
              | exact absurd (q4 c19).2 c30
          · refine gi_iload_n (q := 27) (i := 2) C (dm_Mo_argument 14 rfl) rfl rfl rfl ?_
            refine gi_sipush (q := 30) (v := 200) C (dm_Mo_argument 15 rfl) rfl (by decide) ?_
            refine gi_icmp_le (q := 33) (tgt := 35) C (dm_Mo_argument 16 rfl) rfl (by decide) (fun c30 => ?_) (fun c30 => ?_)
            · have hc3 : c < 3 := by
                rw [hS, show (3 : Int32) = nI 3 from rfl, nI_eq (by omega) (by omega)] at c14
                omega
              refine gi_aload_n (q := 36) (i := 0) C (dm_Mo_argument 19 rfl) rfl rfl rfl ?_
              refine gi_get (q := 39) C (dm_Mo_argument 20 rfl) rfl fl_Mo_140 Ha (mo_g68 Hf) ?_
              refine gi_aload_n (q := 40) (i := 0) C (dm_Mo_argument 21 rfl) rfl rfl rfl ?_
              refine gi_get (q := 43) C (dm_Mo_argument 22 rfl) rfl fl_Mo_537 Ha (mo_g67 Hf) ?_
              refine gi_iload_n (q := 44) (i := 1) C (dm_Mo_argument 23 rfl) rfl rfl rfl ?_
              refine gi_iast (q := 45) C (dm_Mo_argument 24 rfl) rfl rfl (mo_a68 H) (by rw [hS]; exact vp_in_nI hc3 (by omega)) ?_
              refine gi_genM (H.setI (p := 40) (k := 68) (by decide) rfl rfl (by decide) rfl (by omega)) (ho.up (by omega) (by omega)) (fun y H ho => ?_)
              obtain ⟨fs, Ha, Hf⟩ := id H.1
              refine gi_aload_n (q := 46) (i := 0) C (dm_Mo_argument 25 rfl) rfl rfl rfl ?_
              refine gi_get (q := 49) C (dm_Mo_argument 26 rfl) rfl fl_Mo_143 Ha (mo_g69 Hf) ?_
              refine gi_aload_n (q := 50) (i := 0) C (dm_Mo_argument 27 rfl) rfl rfl rfl ?_
              refine gi_get (q := 53) C (dm_Mo_argument 28 rfl) rfl fl_Mo_537 Ha (mo_g67 Hf) ?_
              refine gi_iload_n (q := 54) (i := 2) C (dm_Mo_argument 29 rfl) rfl rfl rfl ?_
              refine gi_iast (q := 55) C (dm_Mo_argument 30 rfl) rfl rfl (mo_a69 H) (by rw [hS]; exact vp_in_nI hc3 (by omega)) ?_
              refine gi_genM (H.setI (p := 41) (k := 69) (by decide) rfl rfl (by decide) rfl (by omega)) (ho.up (by omega) (by omega)) (fun y H ho => ?_)
              obtain ⟨fs, Ha, Hf⟩ := id H.1
              refine gi_iconst (q := 56) (v := 0) C (dm_Mo_argument 31 rfl) rfl (by decide) ?_
              refine gi_istore_n (q := 57) (i := 3) C (dm_Mo_argument 32 rfl) rfl rfl (Nat.le_of_ble_eq_true rfl) ?_
              have hcc : (S 67).toNatClampNeg = c := by rw [hS]; exact nI_clamp (by omega)
              have hokA : okA c t x := ⟨hc3, Int32.not_lt.mp c1, Int32.not_lt.mp c6, fun q => by first | exact absurd q c19 | exact ⟨Int32.not_lt.mp c23, c30⟩⟩
              refine gi_while (σ := Nat) (fun i => 200 - i) (fun i => [(3, .int (nI i)), (0, .ref M), (1, .int t), (2, .int x)]) (fun _ => n) (fun _ => 0) (fun _ => 0) (fun i y => i ≤ 200 ∧ mo_at M S J (upA (upA (upA F 68 (upd (F 68) c t)) 69 (upd (F 69) c x)) 70 (fun j => if 200 * c ≤ j ∧ j < 200 * c + i then 0 else F 70 j)) G y ∧ outM M h y) 0 ⟨Nat.zero_le _, ?_, ho⟩ ?_ (List.forall_mem_cons.mpr ⟨rfl, List.forall_mem_cons.mpr ⟨rfl, List.forall_mem_cons.mpr ⟨rfl, List.forall_mem_cons.mpr ⟨rfl, fun _ h => absurd h List.not_mem_nil⟩⟩⟩⟩) rfl rfl rfl
              · rw [hcc] at H
                have e : upA (upA F 68 (upd (F 68) c t)) 69 (upd (upA F 68 (upd (F 68) c t) 69) c x) = upA (upA (upA F 68 (upd (F 68) c t)) 69 (upd (F 69) c x)) 70 (fun j => if 200 * c ≤ j ∧ j < 200 * c + 0 then 0 else F 70 j) := by
                  rw [upA_ne (show (69 : Nat) ≠ 68 by decide)]
                  funext a
                  by_cases q : a = 70
                  · subst q
                    rw [upA_self, upA_ne (show (70 : Nat) ≠ 69 by decide), upA_ne (show (70 : Nat) ≠ 68 by decide)]
                    funext j
                    rw [if_neg (by omega)]
                  · rw [upA_ne (k := 70) q]
                rw [e] at H
                exact H
              · rintro i y ⟨hi, H, ho⟩ ih
                try dsimp only at *
                obtain ⟨fs, Ha, Hf⟩ := id H.1
                refine gi_iload_n (q := 58) (i := 3) C (dm_Mo_argument 33 rfl) rfl rfl rfl ?_
                refine gi_sipush (q := 61) (v := 200) C (dm_Mo_argument 34 rfl) rfl (by decide) ?_
                refine gi_icmp_ge (q := 64) (tgt := 86) C (dm_Mo_argument 35 rfl) rfl (by decide) (fun c61 => ?_) (fun c61 => ?_)
                · have hik : i = 200 := by
                    rcases Nat.lt_or_ge i 200 with q | q
                    · exact absurd c61 (show ¬ (200 : Int32) ≤ nI i from nI_ge (b := 200) q (by omega))
                    · omega
                  subst hik
                  refine gi_aload_n (q := 87) (i := 0) C (dm_Mo_argument 48 rfl) rfl rfl rfl ?_
                  refine gi_dup (q := 88) C (dm_Mo_argument 49 rfl) rfl rfl ?_
                  refine gi_get (q := 91) C (dm_Mo_argument 50 rfl) rfl fl_Mo_537 Ha (mo_g67 Hf) ?_
                  refine gi_iconst (q := 92) (v := 1) C (dm_Mo_argument 51 rfl) rfl (by decide) ?_
                  refine gi_iadd (q := 93) C (dm_Mo_argument 52 rfl) rfl ?_
                  refine gi_put (q := 96) C (dm_Mo_argument 53 rfl) rfl fl_Mo_537 fp_Mo_67 Ha (by rw [Hf.1]; decide) rfl rfl ?_
                  refine gi_genM (H.putI Ha Hf (by decide) rfl) (ho.up (by omega) (by omega)) (fun y H ho => ?_)
                  obtain ⟨fs, Ha, Hf⟩ := id H.1
                  refine gi_aload_n (q := 97) (i := 0) C (dm_Mo_argument 54 rfl) rfl rfl rfl ?_
                  refine gi_get (q := 100) C (dm_Mo_argument 55 rfl) rfl fl_Mo_537 Ha (mo_g67 Hf) ?_
                  refine gi_iret C hr (dm_Mo_argument 56 rfl) ?_
                  refine ⟨rfl, ho, Or.inl ⟨hokA, ?_, ?_⟩⟩
                  · show some (Value.int (upS S 67 (S 67 + 1) 67)) = _
                    simp [upS, hS, nI_1]
                  · rw [hS, nI_1] at H
                    exact H
                · have hlt : i < 200 := by
                    rcases Nat.lt_or_ge i 200 with q | q
                    · exact q
                    · exact absurd (show (200 : Int32) ≤ nI i from nI_le (a := 200) q (by omega)) c61
                  have hix : 200 * S 67 + nI i = nI (200 * c + i) := by rw [hS, show (200 : Int32) = nI 200 from rfl, pk_mul, nI_add]
                  refine gi_aload_n (q := 65) (i := 0) C (dm_Mo_argument 36 rfl) rfl rfl rfl ?_
                  refine gi_get (q := 68) C (dm_Mo_argument 37 rfl) rfl fl_Mo_146 Ha (mo_g70 Hf) ?_
                  refine gi_sipush (q := 71) (v := 200) C (dm_Mo_argument 38 rfl) rfl (by decide) ?_
                  refine gi_aload_n (q := 72) (i := 0) C (dm_Mo_argument 39 rfl) rfl rfl rfl ?_
                  refine gi_get (q := 75) C (dm_Mo_argument 40 rfl) rfl fl_Mo_537 Ha (mo_g67 Hf) ?_
                  refine gi_imul (q := 76) C (dm_Mo_argument 41 rfl) rfl ?_
                  refine gi_iload_n (q := 77) (i := 3) C (dm_Mo_argument 42 rfl) rfl rfl rfl ?_
                  refine gi_iadd (q := 78) C (dm_Mo_argument 43 rfl) rfl ?_
                  refine gi_iconst (q := 79) (v := 0) C (dm_Mo_argument 44 rfl) rfl (by decide) ?_
                  refine gi_iast (q := 80) C (dm_Mo_argument 45 rfl) rfl rfl (mo_a70 H) (by rw [hix]; exact vp_in_nI (by omega) (by omega)) ?_
                  refine gi_genM (H.setI (p := 42) (k := 70) (by decide) rfl rfl (by decide) rfl (by omega)) (ho.up (by omega) (by omega)) (fun y H ho => ?_)
                  obtain ⟨fs, Ha, Hf⟩ := id H.1
                  refine gi_iinc (q := 83) (v := 1) C (dm_Mo_argument 46 rfl) rfl rfl (by decide) (Nat.le_of_ble_eq_true rfl) ?_
                  refine gi_goto (tgt := 57) C (dm_Mo_argument 47 rfl) (by decide) ?_
                  refine gi_close (ih (i + 1) _ ⟨hlt, ?_, ho⟩ (by omega)) (List.forall_mem_cons.mpr ⟨(by simp [gi_look, nI_1]), List.forall_mem_cons.mpr ⟨rfl, List.forall_mem_cons.mpr ⟨rfl, List.forall_mem_cons.mpr ⟨rfl, fun _ h => absurd h List.not_mem_nil⟩⟩⟩⟩) rfl rfl rfl
                  have e : upA (upA (upA (upA F 68 (upd (F 68) c t)) 69 (upd (F 69) c x)) 70 (fun j => if 200 * c ≤ j ∧ j < 200 * c + i then 0 else F 70 j)) 70 (upd (upA (upA (upA F 68 (upd (F 68) c t)) 69 (upd (F 69) c x)) 70 (fun j => if 200 * c ≤ j ∧ j < 200 * c + i then 0 else F 70 j) 70) (200 * S 67 + nI i).toNatClampNeg 0) = upA (upA (upA F 68 (upd (F 68) c t)) 69 (upd (F 69) c x)) 70 (fun j => if 200 * c ≤ j ∧ j < 200 * c + (i + 1) then 0 else F 70 j) := by
                    rw [hix, nI_clamp (by omega), upA_self]
                    funext a
                    by_cases q : a = 70
                    · subst q
                      rw [upA_self, upA_self]
                      funext j
                      unfold upd
                      by_cases q : j = 200 * c + i
                      · rw [if_pos q, if_pos (by omega)]
                      · rw [if_neg q]
                        dsimp only
                        by_cases q2 : 200 * c ≤ j ∧ j < 200 * c + i
                        · rw [if_pos q2, if_pos (by omega)]
                        · rw [if_neg q2, if_neg (by omega)]
                    · rw [upA_ne q, upA_ne q, upA_ne q]
                  rw [e] at H
                  exact H
            · refine gi_iconst (q := 34) (v := -1) C (dm_Mo_argument 17 rfl) rfl (by decide) ?_
              refine gi_iret C hr (dm_Mo_argument 18 rfl) ?_
              refine ⟨rfl, ho, Or.inr ⟨fun q => ?_, rfl, rfl⟩⟩
              obtain ⟨q1, q2, q3, q4⟩ := q
              first
                | exact absurd q2 (Int32.not_le.mpr c1)
                | exact absurd q3 (Int32.not_le.mpr c6)
                | (rw [hS, show (3 : Int32) = nI 3 from rfl, nI_eq (by omega) (by omega)] at c14; omega)
                | exact absurd (q4 c19).1 (Int32.not_le.mpr c23)
                | exact absurd (q4 c19).2 c30
end MO5
