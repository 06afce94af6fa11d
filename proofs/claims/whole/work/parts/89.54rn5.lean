-- needs: 89.53
section RN5
variable {l : Launch} {V : gi_V} {n : Nat} {h h' : gi_H} {M : Nat} {S S' : Nat → Int32} {J J' : Nat → Int64} {F : Nat → Nat → Int32} {G : Nat → Nat → Int64}
theorem low5_n (y : Int) : (eL (y % 32)).toInt32 = nI (y % 32).toNat := by
  rw [← sp_low5L]
  exact sp_low5 y
theorem and32 (a : Int) : (eL a &&& 4294967295) = eL (a % 4294967296) := by
  apply Int64.toBitVec_inj.mp
  apply BitVec.eq_of_toNat_eq
  rw [Int64.toBitVec_and, BitVec.toNat_and]
  show (BitVec.ofInt 64 a).toNat &&& 4294967295 = (BitVec.ofInt 64 (a % 4294967296)).toNat
  rw [BitVec.toNat_ofInt, BitVec.toNat_ofInt, show (4294967295 : Nat) = 2 ^ 32 - 1 from rfl, Nat.and_two_pow_sub_one_eq_mod]
  omega
theorem eL_n32 {c : Int} (h1 : 0 ≤ c) (h2 : c < 2147483648) : (eL c).toInt32 = nI c.toNat := by
  apply Int32.toInt_inj.mp
  rw [Int64.toInt_toInt32, eL_toInt (by omega) (by omega), nI_toInt (by omega)]
  rw [Int.bmod_eq_of_le (by omega) (by omega)]
  omega
theorem eL_32 : (32 : Int64) = eL 32 := rfl
theorem pw_b : ∀ j : Nat, j < 33 → 1 ≤ (2 : Int) ^ j ∧ (2 : Int) ^ j ≤ 4294967296 := by decide +kernel
def ptI (y : Sp) (S : Nat → Int32) (J : Nat → Int64) : Prop := S 29 = bI (negS y).isSome ∧ S 30 = bI (posS y).isSome ∧ (∀ p, negS y = some p → J 25 = eL p.1 ∧ J 26 = eL p.2.1) ∧ ∀ p, posS y = some p → J 27 = eL p.1 ∧ J 28 = eL p.2.1
set_option maxHeartbeats 4000000 in
set_option maxRecDepth 100000 in
theorem c_Mo_parts (d : Sp) (hy : okS d) (H : mo_at M S J F G h) : gi_T l V y_Mo_parts b_Mo_parts 7 none 2 60 0 0 [.ref M, .long (eL d.1), .long (eL d.2.1), .long (eL d.2.2)] n h (fun v n' h' => v = none ∧ n' = n ∧ ∃ S' J', mo_at M S' J' F G h' ∧ outM M h h' ∧ nuP S J S' J' ∧ ptI d S' J') := by
  refine gi_enter (by decide) (Nat.le_of_ble_eq_true rfl) ?_
  intro _ _ _ _ _ _ _ _ C hr hnm
  obtain ⟨fs, Ha, Hf⟩ := id H.1
  have ho : outM M h h := outM.rf
  refine gi_aload_n (q := 1) (i := 0) C (dm_Mo_parts 0 rfl) rfl rfl rfl ?_
  refine gi_aload_n (q := 2) (i := 0) C (dm_Mo_parts 1 rfl) rfl rfl rfl ?_
  refine gi_lload_n (q := 3) (i := 1) C (dm_Mo_parts 2 rfl) rfl rfl rfl ?_
  refine gi_lload_n (q := 4) (i := 3) C (dm_Mo_parts 3 rfl) rfl rfl rfl ?_
  refine gi_lload (q := 6) C (dm_Mo_parts 4 rfl) rfl rfl ?_
  refine gi_ldc2 (q := 9) C (dm_Mo_parts 5 rfl) rfl kc_Mo_273 ?_
  refine gi_ldc2 (q := 12) C (dm_Mo_parts 6 rfl) rfl kc_Mo_311 ?_
  rw [eL_LO, eL_m1]
  refine gi_callv 5 (q := 15) C (dm_Mo_parts 7 rfl) rfl my_Mo_within lk_Mo_317 im_Mo_within rfl (c_Mo_within d (-2147483648) (-1) hy (by decide) (by decide) (by decide) (by decide) H) Ha rfl rfl ⟨(Nat.le_of_ble_eq_true rfl), (Nat.le_of_ble_eq_true rfl)⟩ (Nat.le_of_ble_eq_true rfl) ⟨(Nat.le_of_ble_eq_true rfl), (Nat.le_of_ble_eq_true rfl)⟩ (fun r12 n12 h12 e12 => ?_)
  obtain ⟨rfl, rfl, S1, J1, H, ho, r1, i1⟩ := e12
  obtain ⟨fs, Ha, Hf⟩ := id H.1
  refine gi_put (q := 18) C (dm_Mo_parts 8 rfl) rfl fl_Mo_321 fp_Mo_29 Ha (by rw [Hf.1]; decide) (bI_nar _) (nb_f (bI_01 _)) ?_
  refine gi_genM (H.putI Ha Hf (by decide) rfl) (ho.up (by omega) (by omega)) (fun y H ho => ?_)
  obtain ⟨fs, Ha, Hf⟩ := id H.1
  refine gi_aload_n (q := 19) (i := 0) C (dm_Mo_parts 9 rfl) rfl rfl rfl ?_
  refine gi_aload_n (q := 20) (i := 0) C (dm_Mo_parts 10 rfl) rfl rfl rfl ?_
  refine gi_get (q := 23) C (dm_Mo_parts 11 rfl) rfl fl_Mo_242 Ha (mo_g22 Hf) ?_
  refine gi_put (q := 26) C (dm_Mo_parts 12 rfl) rfl fl_Mo_324 fp_Mo_25 Ha (by rw [Hf.1]; decide) rfl rfl ?_
  refine gi_genM (H.putJ Ha Hf (by decide) rfl) (ho.up (by omega) (by omega)) (fun y H ho => ?_)
  obtain ⟨fs, Ha, Hf⟩ := id H.1
  refine gi_aload_n (q := 27) (i := 0) C (dm_Mo_parts 13 rfl) rfl rfl rfl ?_
  refine gi_aload_n (q := 28) (i := 0) C (dm_Mo_parts 14 rfl) rfl rfl rfl ?_
  refine gi_get (q := 31) C (dm_Mo_parts 15 rfl) rfl fl_Mo_246 Ha (mo_g23 Hf) ?_
  refine gi_put (q := 34) C (dm_Mo_parts 16 rfl) rfl fl_Mo_327 fp_Mo_26 Ha (by rw [Hf.1]; decide) rfl rfl ?_
  refine gi_genM (H.putJ Ha Hf (by decide) rfl) (ho.up (by omega) (by omega)) (fun y H ho => ?_)
  obtain ⟨fs, Ha, Hf⟩ := id H.1
  refine gi_aload_n (q := 35) (i := 0) C (dm_Mo_parts 17 rfl) rfl rfl rfl ?_
  refine gi_aload_n (q := 36) (i := 0) C (dm_Mo_parts 18 rfl) rfl rfl rfl ?_
  refine gi_lload_n (q := 37) (i := 1) C (dm_Mo_parts 19 rfl) rfl rfl rfl ?_
  refine gi_lload_n (q := 38) (i := 3) C (dm_Mo_parts 20 rfl) rfl rfl rfl ?_
  refine gi_lload (q := 40) C (dm_Mo_parts 21 rfl) rfl rfl ?_
  refine gi_lconst (q := 41) (v := 1) C (dm_Mo_parts 22 rfl) rfl (by decide) ?_
  refine gi_ldc2 (q := 44) C (dm_Mo_parts 23 rfl) rfl kc_Mo_280 ?_
  rw [eL_1, eL_HI]
  refine gi_callv 5 (q := 47) C (dm_Mo_parts 24 rfl) rfl my_Mo_within lk_Mo_317 im_Mo_within rfl (c_Mo_within d 1 2147483647 hy (by decide) (by decide) (by decide) (by decide) H) Ha rfl rfl ⟨(Nat.le_of_ble_eq_true rfl), (Nat.le_of_ble_eq_true rfl)⟩ (Nat.le_of_ble_eq_true rfl) ⟨(Nat.le_of_ble_eq_true rfl), (Nat.le_of_ble_eq_true rfl)⟩ (fun r44 n44 h44 e44 => ?_)
  obtain ⟨rfl, rfl, S2, J2, H, ho', r2, i2⟩ := e44
  have ho := ho.tr ho'
  obtain ⟨fs, Ha, Hf⟩ := id H.1
  refine gi_put (q := 50) C (dm_Mo_parts 25 rfl) rfl fl_Mo_330 fp_Mo_30 Ha (by rw [Hf.1]; decide) (bI_nar _) (nb_f (bI_01 _)) ?_
  refine gi_genM (H.putI Ha Hf (by decide) rfl) (ho.up (by omega) (by omega)) (fun y H ho => ?_)
  obtain ⟨fs, Ha, Hf⟩ := id H.1
  refine gi_aload_n (q := 51) (i := 0) C (dm_Mo_parts 26 rfl) rfl rfl rfl ?_
  refine gi_aload_n (q := 52) (i := 0) C (dm_Mo_parts 27 rfl) rfl rfl rfl ?_
  refine gi_get (q := 55) C (dm_Mo_parts 28 rfl) rfl fl_Mo_242 Ha (mo_g22 Hf) ?_
  refine gi_put (q := 58) C (dm_Mo_parts 29 rfl) rfl fl_Mo_333 fp_Mo_27 Ha (by rw [Hf.1]; decide) rfl rfl ?_
  refine gi_genM (H.putJ Ha Hf (by decide) rfl) (ho.up (by omega) (by omega)) (fun y H ho => ?_)
  obtain ⟨fs, Ha, Hf⟩ := id H.1
  refine gi_aload_n (q := 59) (i := 0) C (dm_Mo_parts 30 rfl) rfl rfl rfl ?_
  refine gi_aload_n (q := 60) (i := 0) C (dm_Mo_parts 31 rfl) rfl rfl rfl ?_
  refine gi_get (q := 63) C (dm_Mo_parts 32 rfl) rfl fl_Mo_246 Ha (mo_g23 Hf) ?_
  refine gi_put (q := 66) C (dm_Mo_parts 33 rfl) rfl fl_Mo_336 fp_Mo_28 Ha (by rw [Hf.1]; decide) rfl rfl ?_
  refine gi_genM (H.putJ Ha Hf (by decide) rfl) (ho.up (by omega) (by omega)) (fun y H ho => ?_)
  obtain ⟨fs, Ha, Hf⟩ := id H.1
  refine gi_vret C hr (dm_Mo_parts 34 rfl) ?_
  refine ⟨rfl, rfl, _, _, H, ho, ⟨fun j hj => ?_, fun j q1 q2 => ?_⟩, ?_, ?_, fun p hp => ?_, fun p hp => ?_⟩
  · unfold upL
    rw [if_neg (by omega), if_neg (by omega), r2.1 j (by omega)]
    unfold upL
    rw [if_neg (by omega), if_neg (by omega), r1.1 j (by omega)]
  · unfold upS
    rw [if_neg q2, r2.2]
    unfold upS
    rw [if_neg q1, r1.2]
  · unfold upS
    rw [if_neg (by decide), r2.2]
    unfold upS
    rw [if_pos rfl]
    rfl
  · rfl
  · obtain ⟨k1, k2, -⟩ := i1 p hp
    unfold upL
    rw [if_neg (by decide), if_neg (by decide), if_neg (by decide), if_neg (by decide), r2.1 25 (by decide), r2.1 26 (by decide)]
    unfold upL
    rw [if_neg (by decide), if_pos rfl, if_pos rfl]
    exact ⟨k1, k2⟩
  · obtain ⟨k1, k2, -⟩ := i2 p hp
    exact ⟨k1, k2⟩
end RN5
