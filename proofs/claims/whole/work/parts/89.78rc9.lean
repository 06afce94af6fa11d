-- needs: 89.77
section RC9
variable {l : Launch} {V : gi_V} {n : Nat} {h h' : gi_H} {M k m i : Nat} {P : Pm} {x : Sh} {sh : Nat → Option Sh} {S S' : Nat → Int32} {J J' : Nat → Int64} {F F' : Nat → Nat → Int32} {G G' : Nat → Nat → Int64} {f g : Nat → Sl} {n0 : Nat} {r : Rw} {Ff : Fa} {Z : Fa × Bool} {md p t : Nat} {S0 S1 S2 : Nat → Int32} {J0 J1 J2 : Nat → Int64} {F0 F1 F2 : Nat → Nat → Int32} {G0 G1 G2 : Nat → Nat → Int64} {y y' : gi_H} {L : Nat} {κ : (Nat → Ce) × Int32}
theorem sl_t {L n0 d : Nat} (h : L + d ≤ n0) : sl L (n0 - d) = n0 - d - L + 6 := sl_hi (by omega)
set_option maxHeartbeats 4000000 in
set_option maxRecDepth 100000 in
theorem ww_swap (HW : WW M k P sh md Ff κ h S0 J0 F0 G0 Z L n0 f S J F G y) (h2 : L + 2 ≤ n0) : gi_T l V y_Mo_swap b_Mo_swap 12 none 1 22 0 0 [.ref M] n y (fun v n' h' => v = none ∧ n' = n ∧ WWx M k P sh md Ff κ h S0 J0 F0 G0 Z L n0 (upF (upF f (n0 - 1) (f (n0 - 2))) (n0 - 2) (f (n0 - 1))) h') := by
  refine gi_enter (by decide) (Nat.le_of_ble_eq_true rfl) ?_
  intro _ _ _ _ _ _ _ _ C hr hnm
  have H := HW.1
  obtain ⟨fs, Ha, Hf⟩ := id H.1
  have ho : outM M y y := outM.rf
  obtain ⟨f1, f2, f3, f4⟩ := HW.fb
  refine gi_aload_n (q := 1) (i := 0) C (dm_Mo_swap 0 rfl) rfl rfl rfl ?_
  refine gi_get (q := 4) C (dm_Mo_swap 1 rfl) rfl fl_Mo_357 Ha (mo_g58 Hf) ?_
  refine gi_iconst (q := 5) (v := 1) C (dm_Mo_swap 2 rfl) rfl (by decide) ?_
  refine gi_isub (q := 6) C (dm_Mo_swap 3 rfl) rfl ?_
  rw [HW.fb.2.2.2, nI_m1 (by omega), show n0 - L + 6 - 1 = n0 - 1 - L + 6 by omega]
  refine gi_istore_n (q := 7) (i := 1) C (dm_Mo_swap 4 rfl) rfl rfl (Nat.le_of_ble_eq_true rfl) ?_
  refine gi_aload_n (q := 8) (i := 0) C (dm_Mo_swap 5 rfl) rfl rfl rfl ?_
  refine gi_get (q := 11) C (dm_Mo_swap 6 rfl) rfl fl_Mo_357 Ha (mo_g58 Hf) ?_
  refine gi_iconst (q := 12) (v := 2) C (dm_Mo_swap 7 rfl) rfl (by decide) ?_
  refine gi_isub (q := 13) C (dm_Mo_swap 8 rfl) rfl ?_
  rw [HW.fb.2.2.2, nI_m2 (by omega), show n0 - L + 6 - 2 = n0 - 2 - L + 6 by omega]
  refine gi_istore_n (q := 14) (i := 2) C (dm_Mo_swap 9 rfl) rfl rfl (Nat.le_of_ble_eq_true rfl) ?_
  refine gi_aload_n (q := 15) (i := 0) C (dm_Mo_swap 10 rfl) rfl rfl rfl ?_
  refine gi_get (q := 18) C (dm_Mo_swap 11 rfl) rfl fl_Mo_104 Ha (mo_g52 Hf) ?_
  refine gi_iload_n (q := 19) (i := 1) C (dm_Mo_swap 12 rfl) rfl rfl rfl ?_
  refine gi_lald (q := 20) C (dm_Mo_swap 13 rfl) rfl rfl (mo_a52 H) (inN (show n0 - 1 - L + 6 < 14 by omega) (by decide)) ?_
  refine gi_lstore_n (q := 21) (i := 3) C (dm_Mo_swap 14 rfl) rfl rfl (Nat.le_of_ble_eq_true rfl) ?_
  refine gi_aload_n (q := 22) (i := 0) C (dm_Mo_swap 15 rfl) rfl rfl rfl ?_
  refine gi_get (q := 25) C (dm_Mo_swap 16 rfl) rfl fl_Mo_107 Ha (mo_g53 Hf) ?_
  refine gi_iload_n (q := 26) (i := 1) C (dm_Mo_swap 17 rfl) rfl rfl rfl ?_
  refine gi_lald (q := 27) C (dm_Mo_swap 18 rfl) rfl rfl (mo_a53 H) (inN (show n0 - 1 - L + 6 < 14 by omega) (by decide)) ?_
  refine gi_lstore (q := 29) C (dm_Mo_swap 19 rfl) rfl (Nat.le_of_ble_eq_true rfl) ?_
  refine gi_aload_n (q := 30) (i := 0) C (dm_Mo_swap 20 rfl) rfl rfl rfl ?_
  refine gi_get (q := 33) C (dm_Mo_swap 21 rfl) rfl fl_Mo_110 Ha (mo_g54 Hf) ?_
  refine gi_iload_n (q := 34) (i := 1) C (dm_Mo_swap 22 rfl) rfl rfl rfl ?_
  refine gi_lald (q := 35) C (dm_Mo_swap 23 rfl) rfl rfl (mo_a54 H) (inN (show n0 - 1 - L + 6 < 14 by omega) (by decide)) ?_
  refine gi_lstore (q := 37) C (dm_Mo_swap 24 rfl) rfl (Nat.le_of_ble_eq_true rfl) ?_
  refine gi_aload_n (q := 38) (i := 0) C (dm_Mo_swap 25 rfl) rfl rfl rfl ?_
  refine gi_get (q := 41) C (dm_Mo_swap 26 rfl) rfl fl_Mo_113 Ha (mo_g55 Hf) ?_
  refine gi_iload_n (q := 42) (i := 1) C (dm_Mo_swap 27 rfl) rfl rfl rfl ?_
  refine gi_iald (q := 43) C (dm_Mo_swap 28 rfl) rfl rfl (mo_a55 H) (inN (show n0 - 1 - L + 6 < 14 by omega) (by decide)) ?_
  refine gi_istore (q := 45) C (dm_Mo_swap 29 rfl) rfl (Nat.le_of_ble_eq_true rfl) ?_
  refine gi_aload_n (q := 46) (i := 0) C (dm_Mo_swap 30 rfl) rfl rfl rfl ?_
  refine gi_get (q := 49) C (dm_Mo_swap 31 rfl) rfl fl_Mo_116 Ha (mo_g56 Hf) ?_
  refine gi_iload_n (q := 50) (i := 1) C (dm_Mo_swap 32 rfl) rfl rfl rfl ?_
  refine gi_zald (q := 51) C (dm_Mo_swap 33 rfl) rfl rfl (mo_a56 H) (inN (show n0 - 1 - L + 6 < 14 by omega) (by decide)) ?_
  refine gi_istore (q := 53) C (dm_Mo_swap 34 rfl) rfl (Nat.le_of_ble_eq_true rfl) ?_
  refine gi_aload_n (q := 54) (i := 0) C (dm_Mo_swap 35 rfl) rfl rfl rfl ?_
  refine gi_get (q := 57) C (dm_Mo_swap 36 rfl) rfl fl_Mo_119 Ha (mo_g57 Hf) ?_
  refine gi_iload_n (q := 58) (i := 1) C (dm_Mo_swap 37 rfl) rfl rfl rfl ?_
  refine gi_iald (q := 59) C (dm_Mo_swap 38 rfl) rfl rfl (mo_a57 H) (inN (show n0 - 1 - L + 6 < 14 by omega) (by decide)) ?_
  refine gi_istore (q := 61) C (dm_Mo_swap 39 rfl) rfl (Nat.le_of_ble_eq_true rfl) ?_
  refine gi_aload_n (q := 62) (i := 0) C (dm_Mo_swap 40 rfl) rfl rfl rfl ?_
  refine gi_iload_n (q := 63) (i := 2) C (dm_Mo_swap 41 rfl) rfl rfl rfl ?_
  refine gi_iload_n (q := 64) (i := 1) C (dm_Mo_swap 42 rfl) rfl rfl rfl ?_
  refine gi_callv 2 (q := 67) C (dm_Mo_swap 43 rfl) rfl my_Mo_copy lk_Mo_437 im_Mo_copy rfl (c_Mo_copy (t := n0 - 2 - L + 6) (s := n0 - 1 - L + 6) (by omega) (by omega) H) Ha rfl rfl ⟨(Nat.le_of_ble_eq_true rfl), (Nat.le_of_ble_eq_true rfl)⟩ (Nat.le_of_ble_eq_true rfl) ⟨(Nat.le_of_ble_eq_true rfl), (Nat.le_of_ble_eq_true rfl)⟩ (fun r64 n64 h64 e64 => ?_)
  obtain ⟨rfl, rfl, F1, G1, H1, o1, r1, c1⟩ := e64
  have H := H1
  obtain ⟨fs, Ha, Hf⟩ := id H.1
  have ho := o1
  refine gi_aload_n (q := 68) (i := 0) C (dm_Mo_swap 44 rfl) rfl rfl rfl ?_
  refine gi_get (q := 71) C (dm_Mo_swap 45 rfl) rfl fl_Mo_104 Ha (mo_g52 Hf) ?_
  refine gi_iload_n (q := 72) (i := 2) C (dm_Mo_swap 46 rfl) rfl rfl rfl ?_
  refine gi_lload_n (q := 73) (i := 3) C (dm_Mo_swap 47 rfl) rfl rfl rfl ?_
  refine gi_last (q := 74) C (dm_Mo_swap 48 rfl) rfl rfl (mo_a52 H) (inN (show n0 - 2 - L + 6 < 14 by omega) (by decide)) ?_
  refine gi_genM (H.setJ (p := 28) (k := 52) (by decide) rfl rfl rfl (by omega)) (ho.up (by omega) (by omega)) (fun y H ho => ?_)
  obtain ⟨fs, Ha, Hf⟩ := id H.1
  refine gi_aload_n (q := 75) (i := 0) C (dm_Mo_swap 49 rfl) rfl rfl rfl ?_
  refine gi_get (q := 78) C (dm_Mo_swap 50 rfl) rfl fl_Mo_107 Ha (mo_g53 Hf) ?_
  refine gi_iload_n (q := 79) (i := 2) C (dm_Mo_swap 51 rfl) rfl rfl rfl ?_
  refine gi_lload (q := 81) C (dm_Mo_swap 52 rfl) rfl rfl ?_
  refine gi_last (q := 82) C (dm_Mo_swap 53 rfl) rfl rfl (mo_a53 H) (inN (show n0 - 2 - L + 6 < 14 by omega) (by decide)) ?_
  refine gi_genM (H.setJ (p := 29) (k := 53) (by decide) rfl rfl rfl (by omega)) (ho.up (by omega) (by omega)) (fun y H ho => ?_)
  obtain ⟨fs, Ha, Hf⟩ := id H.1
  refine gi_aload_n (q := 83) (i := 0) C (dm_Mo_swap 54 rfl) rfl rfl rfl ?_
  refine gi_get (q := 86) C (dm_Mo_swap 55 rfl) rfl fl_Mo_110 Ha (mo_g54 Hf) ?_
  refine gi_iload_n (q := 87) (i := 2) C (dm_Mo_swap 56 rfl) rfl rfl rfl ?_
  refine gi_lload (q := 89) C (dm_Mo_swap 57 rfl) rfl rfl ?_
  refine gi_last (q := 90) C (dm_Mo_swap 58 rfl) rfl rfl (mo_a54 H) (inN (show n0 - 2 - L + 6 < 14 by omega) (by decide)) ?_
  refine gi_genM (H.setJ (p := 30) (k := 54) (by decide) rfl rfl rfl (by omega)) (ho.up (by omega) (by omega)) (fun y H ho => ?_)
  obtain ⟨fs, Ha, Hf⟩ := id H.1
  refine gi_aload_n (q := 91) (i := 0) C (dm_Mo_swap 59 rfl) rfl rfl rfl ?_
  refine gi_get (q := 94) C (dm_Mo_swap 60 rfl) rfl fl_Mo_113 Ha (mo_g55 Hf) ?_
  refine gi_iload_n (q := 95) (i := 2) C (dm_Mo_swap 61 rfl) rfl rfl rfl ?_
  refine gi_iload (q := 97) C (dm_Mo_swap 62 rfl) rfl rfl ?_
  refine gi_iast (q := 98) C (dm_Mo_swap 63 rfl) rfl rfl (mo_a55 H) (inN (show n0 - 2 - L + 6 < 14 by omega) (by decide)) ?_
  refine gi_genM (H.setI (p := 31) (k := 55) (by decide) rfl rfl (by decide) rfl (by omega)) (ho.up (by omega) (by omega)) (fun y H ho => ?_)
  obtain ⟨fs, Ha, Hf⟩ := id H.1
  refine gi_aload_n (q := 99) (i := 0) C (dm_Mo_swap 64 rfl) rfl rfl rfl ?_
  refine gi_get (q := 102) C (dm_Mo_swap 65 rfl) rfl fl_Mo_116 Ha (mo_g56 Hf) ?_
  refine gi_iload_n (q := 103) (i := 2) C (dm_Mo_swap 66 rfl) rfl rfl rfl ?_
  refine gi_iload (q := 105) C (dm_Mo_swap 67 rfl) rfl rfl ?_
  refine gi_zast (q := 106) C (dm_Mo_swap 68 rfl) rfl rfl (mo_a56 H) (inN (show n0 - 2 - L + 6 < 14 by omega) (by decide)) ?_
  refine gi_genM (H.setI (p := 32) (k := 56) (by decide) rfl rfl (by decide) rfl (by omega)) (ho.up (by omega) (by omega)) (fun y H ho => ?_)
  obtain ⟨fs, Ha, Hf⟩ := id H.1
  refine gi_aload_n (q := 107) (i := 0) C (dm_Mo_swap 69 rfl) rfl rfl rfl ?_
  refine gi_get (q := 110) C (dm_Mo_swap 70 rfl) rfl fl_Mo_119 Ha (mo_g57 Hf) ?_
  refine gi_iload_n (q := 111) (i := 2) C (dm_Mo_swap 71 rfl) rfl rfl rfl ?_
  refine gi_iload (q := 113) C (dm_Mo_swap 72 rfl) rfl rfl ?_
  refine gi_iast (q := 114) C (dm_Mo_swap 73 rfl) rfl rfl (mo_a57 H) (inN (show n0 - 2 - L + 6 < 14 by omega) (by decide)) ?_
  refine gi_genM (H.setI (p := 33) (k := 57) (by decide) rfl rfl (by decide) rfl (by omega)) (ho.up (by omega) (by omega)) (fun y H ho => ?_)
  obtain ⟨fs, Ha, Hf⟩ := id H.1
  refine gi_vret C hr (dm_Mo_swap 74 rfl) ?_
  rw [nI_clamp (show n0 - 1 - L + 6 < 2 ^ 31 by omega), nI_clamp (show n0 - 2 - L + 6 < 2 ^ 31 by omega)] at H
  have key : ∃ F3 G3, mo_at M S J F3 G3 y ∧ frW S S F1 F3 G1 G3 ∧ cW F3 G3 = upO (cW F1 G1) (n0 - 2 - L + 6) (nrC (cW F G (n0 - 1 - L + 6))) := by
    refine ⟨_, _, H, ⟨fun _ _ => rfl, fun j h1 h2 h3 => by simp [upA, h1, h2, h3], fun j h1 h2 h3 => by simp [upA, h1, h2, h3]⟩, ?_⟩
    funext j
    by_cases q : j = n0 - 2 - L + 6
    · subst q
      simp [cW, upA, upd_is, updJ_is, upO, nrC]
    · simp [cW, upA, upd_is, updJ_is, upO, q]
  obtain ⟨F3, G3, H3, r3, c3⟩ := key
  have ea : sl L (n0 - 1) = n0 - 1 - L + 6 := sl_t (by omega)
  have eb : sl L (n0 - 2) = n0 - 2 - L + 6 := sl_t (by omega)
  have q1 := HW.2.2.2.2.2.2.1 (n0 - 1) (by omega)
  have q2 := HW.2.2.2.2.2.2.1 (n0 - 2) (by omega)
  rw [ea] at q1
  rw [eb] at q2
  have w1 : rwR L n0 (upF f (n0 - 1) (f (n0 - 2))) (cW F1 G1) := rw_up HW.2.2.2.2.2.2.1 f1 (by rw [c1, ea]) (ceA_nr q2.1) (fun _ => q2.2 (by omega))
  have w2 : rwR L n0 (upF (upF f (n0 - 1) (f (n0 - 2))) (n0 - 2) (f (n0 - 1))) (cW F3 G3) := rw_up w1 f1 (by rw [c3, eb]) (ceA_nr q1.1) (fun _ => q1.2 (by omega))
  exact ⟨rfl, rfl, _, _, _, _, HW.wk H3 (by first | exact ho | exact o1.tr ho) (r1.tr r3) ⟨f4, w2, f1, f2, f3⟩⟩
set_option maxHeartbeats 4000000 in
set_option maxRecDepth 100000 in
theorem ww_reckon18 (HW : WW M k P sh md Ff κ h S0 J0 F0 G0 Z L n0 f S J F G y) (B : Built k P sh (siN k P sh) (wdF k P)) (hmd : md ≤ 2) {a : Nat} (hm : a < k) (hi : i < pN P 5 a) (hx : sh (60 * a + i) = some x) (hL : pN P 2 a = L) {X : Sp} (hn : L + 1 ≤ n0) (e1 : (f (n0 - 1)).1 = .inl X) (okX : okS X) (hg : tyG P a x n0 (upF f (n0 - 1) (.inl (actS 18 X (0, 0, 0)), -1))) : gi_T l V y_Mo_reckon b_Mo_reckon 18 none 5 165 0 0 [.ref M, .int (nI 18), .int (nI (60 * a + i))] n y (fun v n' h' => v = none ∧ n' = n ∧ spP M k P sh md Ff κ h S0 J0 F0 G0 (comeM md (grF (wdF k P)) Z (60 * a + i, n0, upF f (n0 - 1) (.inl (actS 18 X (0, 0, 0)), -1))) h') := by
  refine gi_enter (by decide) (Nat.le_of_ble_eq_true rfl) ?_
  intro _ _ _ _ _ _ _ _ C hr hnm
  have H := HW.1
  obtain ⟨fs, Ha, Hf⟩ := id H.1
  have ho := HW.2.1
  obtain ⟨f1, f2, f3, f4⟩ := HW.fb
  refine gi_iload_n (q := 1) (i := 1) C (dm_Mo_reckon 0 rfl) rfl rfl rfl ?_
  refine gi_bipush (q := 3) (v := 18) C (dm_Mo_reckon 1 rfl) rfl (by decide) ?_
  refine gi_icmp_ne (q := 6) (tgt := 74) C (dm_Mo_reckon 2 rfl) rfl (by decide) (fun c3 => ?_) (fun c3 => ?_)
  · exact absurd rfl c3
  · refine gi_aload_n (q := 7) (i := 0) C (dm_Mo_reckon 3 rfl) rfl rfl rfl ?_
    refine gi_dup (q := 8) C (dm_Mo_reckon 4 rfl) rfl rfl ?_
    refine gi_get (q := 11) C (dm_Mo_reckon 5 rfl) rfl fl_Mo_357 Ha (mo_g58 Hf) ?_
    refine gi_iconst (q := 12) (v := 1) C (dm_Mo_reckon 6 rfl) rfl (by decide) ?_
    refine gi_isub (q := 13) C (dm_Mo_reckon 7 rfl) rfl ?_
    rw [HW.fb.2.2.2, nI_m1 (by omega), show n0 - L + 6 - 1 = n0 - 1 - L + 6 by omega]
    refine gi_put (q := 16) C (dm_Mo_reckon 8 rfl) rfl fl_Mo_357 fp_Mo_58 Ha (by rw [Hf.1]; decide) rfl rfl ?_
    refine gi_genM (H.putI Ha Hf (by decide) rfl) (ho.up (by omega) (by omega)) (fun y H ho => ?_)
    obtain ⟨fs, Ha, Hf⟩ := id H.1
    have HW1 := HW.top (n1 := n0 - 1) (by omega) (by omega) H ho
    have f41 := HW1.fb.2.2.2
    have sp := HW.sp (show n0 - 1 < n0 by omega) e1
    rw [sl_t (by omega)] at sp
    skip
    refine gi_aload_n (q := 17) (i := 0) C (dm_Mo_reckon 9 rfl) rfl rfl rfl ?_
    refine gi_bipush (q := 19) (v := 18) C (dm_Mo_reckon 10 rfl) rfl (by decide) ?_
    refine gi_aload_n (q := 20) (i := 0) C (dm_Mo_reckon 11 rfl) rfl rfl rfl ?_
    refine gi_get (q := 23) C (dm_Mo_reckon 12 rfl) rfl fl_Mo_104 Ha (mo_g52 Hf) ?_
    refine gi_aload_n (q := 24) (i := 0) C (dm_Mo_reckon 13 rfl) rfl rfl rfl ?_
    refine gi_get (q := 27) C (dm_Mo_reckon 14 rfl) rfl fl_Mo_357 Ha (mo_g58 Hf) ?_
    rw [f41]
    refine gi_lald (q := 28) C (dm_Mo_reckon 15 rfl) rfl rfl (mo_a52 H) (inN (show n0 - 1 - L + 6 < 14 by omega) (by decide)) ?_
    rw [nI_clamp (show n0 - 1 - L + 6 < 2 ^ 31 by omega), sp.1]
    refine gi_aload_n (q := 29) (i := 0) C (dm_Mo_reckon 16 rfl) rfl rfl rfl ?_
    refine gi_get (q := 32) C (dm_Mo_reckon 17 rfl) rfl fl_Mo_107 Ha (mo_g53 Hf) ?_
    refine gi_aload_n (q := 33) (i := 0) C (dm_Mo_reckon 18 rfl) rfl rfl rfl ?_
    refine gi_get (q := 36) C (dm_Mo_reckon 19 rfl) rfl fl_Mo_357 Ha (mo_g58 Hf) ?_
    rw [f41]
    refine gi_lald (q := 37) C (dm_Mo_reckon 20 rfl) rfl rfl (mo_a53 H) (inN (show n0 - 1 - L + 6 < 14 by omega) (by decide)) ?_
    rw [nI_clamp (show n0 - 1 - L + 6 < 2 ^ 31 by omega), sp.2.1]
    refine gi_aload_n (q := 38) (i := 0) C (dm_Mo_reckon 21 rfl) rfl rfl rfl ?_
    refine gi_get (q := 41) C (dm_Mo_reckon 22 rfl) rfl fl_Mo_110 Ha (mo_g54 Hf) ?_
    refine gi_aload_n (q := 42) (i := 0) C (dm_Mo_reckon 23 rfl) rfl rfl rfl ?_
    refine gi_get (q := 45) C (dm_Mo_reckon 24 rfl) rfl fl_Mo_357 Ha (mo_g58 Hf) ?_
    rw [f41]
    refine gi_lald (q := 46) C (dm_Mo_reckon 25 rfl) rfl rfl (mo_a54 H) (inN (show n0 - 1 - L + 6 < 14 by omega) (by decide)) ?_
    rw [nI_clamp (show n0 - 1 - L + 6 < 2 ^ 31 by omega), sp.2.2]
    refine gi_lconst (q := 47) (v := 0) C (dm_Mo_reckon 26 rfl) rfl (by decide) ?_
    refine gi_lconst (q := 48) (v := 0) C (dm_Mo_reckon 27 rfl) rfl (by decide) ?_
    refine gi_lconst (q := 49) (v := 0) C (dm_Mo_reckon 28 rfl) rfl (by decide) ?_
    rw [show (0 : Int64) = eL 0 from rfl]
    refine gi_callv 7 (q := 52) C (dm_Mo_reckon 29 rfl) rfl my_Mo_act lk_Mo_479 im_Mo_act rfl (ww_act HW1 18 X (0, 0, 0) (by decide) (by decide) okX okS0 (by decide)) Ha rfl rfl ⟨(Nat.le_of_ble_eq_true rfl), (Nat.le_of_ble_eq_true rfl)⟩ (Nat.le_of_ble_eq_true rfl) ⟨(Nat.le_of_ble_eq_true rfl), (Nat.le_of_ble_eq_true rfl)⟩ (fun r49 n49 h49 e49 => ?_)
    obtain ⟨rfl, rfl, S2, J2, HW2, rs2⟩ := e49
    have H := HW2.1
    obtain ⟨fs, Ha, Hf⟩ := id H.1
    have ho := HW2.2.1
    have rs2 := rsJ (rs2 _ rfl)
    refine gi_aload_n (q := 53) (i := 0) C (dm_Mo_reckon 30 rfl) rfl rfl rfl ?_
    refine gi_aload_n (q := 54) (i := 0) C (dm_Mo_reckon 31 rfl) rfl rfl rfl ?_
    refine gi_get (q := 57) C (dm_Mo_reckon 32 rfl) rfl fl_Mo_242 Ha (mo_g22 Hf) ?_
    refine gi_aload_n (q := 58) (i := 0) C (dm_Mo_reckon 33 rfl) rfl rfl rfl ?_
    refine gi_get (q := 61) C (dm_Mo_reckon 34 rfl) rfl fl_Mo_246 Ha (mo_g23 Hf) ?_
    refine gi_aload_n (q := 62) (i := 0) C (dm_Mo_reckon 35 rfl) rfl rfl rfl ?_
    refine gi_get (q := 65) C (dm_Mo_reckon 36 rfl) rfl fl_Mo_249 Ha (mo_g24 Hf) ?_
    rw [rs2.1, rs2.2.1, rs2.2.2]
    refine gi_callv 3 (q := 68) C (dm_Mo_reckon 37 rfl) rfl my_Mo_pushSpan lk_Mo_431 im_Mo_pushSpan rfl (ww_pushSpan HW2 (actS 18 X (0, 0, 0)) (by omega)) Ha rfl rfl ⟨(Nat.le_of_ble_eq_true rfl), (Nat.le_of_ble_eq_true rfl)⟩ (Nat.le_of_ble_eq_true rfl) ⟨(Nat.le_of_ble_eq_true rfl), (Nat.le_of_ble_eq_true rfl)⟩ (fun r65 n65 h65 e65 => ?_)
    obtain ⟨rfl, rfl, S3, J3, F3, G3, HW3⟩ := e65
    have H := HW3.1
    obtain ⟨fs, Ha, Hf⟩ := id H.1
    have ho := HW3.2.1
    rw [show n0 - 1 + 1 = n0 by omega] at HW3
    refine gi_aload_n (q := 69) (i := 0) C (dm_Mo_reckon 38 rfl) rfl rfl rfl ?_
    refine gi_iload_n (q := 70) (i := 2) C (dm_Mo_reckon 39 rfl) rfl rfl rfl ?_
    refine gi_callv 1 (q := 73) C (dm_Mo_reckon 40 rfl) rfl my_Mo_comeTo lk_Mo_434 im_Mo_comeTo rfl (ww_comeTo HW3 B hmd hm hi hx hL hg) Ha rfl rfl ⟨(Nat.le_of_ble_eq_true rfl), (Nat.le_of_ble_eq_true rfl)⟩ (Nat.le_of_ble_eq_true rfl) ⟨(Nat.le_of_ble_eq_true rfl), (Nat.le_of_ble_eq_true rfl)⟩ (fun r70 n70 h70 e70 => ?_)
    obtain ⟨rfl, rfl, S4, J4, F4, G4, HW4, fz4⟩ := e70
    have H := HW4.1
    obtain ⟨fs, Ha, Hf⟩ := id H.1
    have ho := HW4.2.1
    refine gi_vret C hr (dm_Mo_reckon 41 rfl) ?_
    exact ⟨rfl, rfl, HW4.end⟩
set_option maxHeartbeats 4000000 in
set_option maxRecDepth 100000 in
theorem ww_reckon (HW : WW M k P sh md Ff κ h S0 J0 F0 G0 Z L n0 f S J F G y) (B : Built k P sh (siN k P sh) (wdF k P)) (hmd : md ≤ 2) {a : Nat} (hm : a < k) (hi : i < pN P 5 a) (hx : sh (60 * a + i) = some x) (hL : pN P 2 a = L) {op : Nat} (h7 : 7 ≤ op) (h17 : op ≤ 17) (hne : op ≠ 10 ∧ op ≠ 11) {X Y : Sp} (hn : L + 2 ≤ n0) (e1 : (f (n0 - 1)).1 = .inl Y) (e2 : (f (n0 - 2)).1 = .inl X) (okX : okS X) (okY : okS Y) (hg : tyG P a x (n0 - 1) (upF f (n0 - 2) (.inl (actS op X Y), -1))) : gi_T l V y_Mo_reckon b_Mo_reckon 18 none 5 165 0 0 [.ref M, .int (nI op), .int (nI (60 * a + i))] n y (fun v n' h' => v = none ∧ n' = n ∧ spP M k P sh md Ff κ h S0 J0 F0 G0 (comeM md (grF (wdF k P)) Z (60 * a + i, n0 - 1, upF f (n0 - 2) (.inl (actS op X Y), -1))) h') := by
  refine gi_enter (by decide) (Nat.le_of_ble_eq_true rfl) ?_
  intro _ _ _ _ _ _ _ _ C hr hnm
  have H := HW.1
  obtain ⟨fs, Ha, Hf⟩ := id H.1
  have ho := HW.2.1
  obtain ⟨f1, f2, f3, f4⟩ := HW.fb
  refine gi_iload_n (q := 1) (i := 1) C (dm_Mo_reckon 0 rfl) rfl rfl rfl ?_
  refine gi_bipush (q := 3) (v := 18) C (dm_Mo_reckon 1 rfl) rfl (by decide) ?_
  refine gi_icmp_ne (q := 6) (tgt := 74) C (dm_Mo_reckon 2 rfl) rfl (by decide) (fun c3 => ?_) (fun c3 => ?_)
  · refine gi_aload_n (q := 75) (i := 0) C (dm_Mo_reckon 42 rfl) rfl rfl rfl ?_
    refine gi_dup (q := 76) C (dm_Mo_reckon 43 rfl) rfl rfl ?_
    refine gi_get (q := 79) C (dm_Mo_reckon 44 rfl) rfl fl_Mo_357 Ha (mo_g58 Hf) ?_
    refine gi_iconst (q := 80) (v := 2) C (dm_Mo_reckon 45 rfl) rfl (by decide) ?_
    refine gi_isub (q := 81) C (dm_Mo_reckon 46 rfl) rfl ?_
    rw [HW.fb.2.2.2, nI_m2 (by omega), show n0 - L + 6 - 2 = n0 - 2 - L + 6 by omega]
    refine gi_put (q := 84) C (dm_Mo_reckon 47 rfl) rfl fl_Mo_357 fp_Mo_58 Ha (by rw [Hf.1]; decide) rfl rfl ?_
    refine gi_genM (H.putI Ha Hf (by decide) rfl) (ho.up (by omega) (by omega)) (fun y H ho => ?_)
    obtain ⟨fs, Ha, Hf⟩ := id H.1
    have HW1 := HW.top (n1 := n0 - 2) (by omega) (by omega) H ho
    have f41 := HW1.fb.2.2.2
    have sx := HW.sp (show n0 - 2 < n0 by omega) e2
    have sy := HW.sp (show n0 - 1 < n0 by omega) e1
    have sm := HW.mk (show n0 - 1 < n0 by omega) (by omega)
    rw [sl_t (by omega)] at sx sy sm
    refine gi_aload_n (q := 85) (i := 0) C (dm_Mo_reckon 48 rfl) rfl rfl rfl ?_
    refine gi_get (q := 88) C (dm_Mo_reckon 49 rfl) rfl fl_Mo_357 Ha (mo_g58 Hf) ?_
    rw [f41]
    refine gi_istore_n (q := 89) (i := 3) C (dm_Mo_reckon 50 rfl) rfl rfl (Nat.le_of_ble_eq_true rfl) ?_
    refine gi_aload_n (q := 90) (i := 0) C (dm_Mo_reckon 51 rfl) rfl rfl rfl ?_
    refine gi_get (q := 93) C (dm_Mo_reckon 52 rfl) rfl fl_Mo_357 Ha (mo_g58 Hf) ?_
    refine gi_iconst (q := 94) (v := 1) C (dm_Mo_reckon 53 rfl) rfl (by decide) ?_
    refine gi_iadd (q := 95) C (dm_Mo_reckon 54 rfl) rfl ?_
    rw [f41, show (1 : Int32) = nI 1 from rfl, nI_add, show n0 - 2 - L + 6 + 1 = n0 - 1 - L + 6 by omega]
    refine gi_istore (q := 97) C (dm_Mo_reckon 55 rfl) rfl (Nat.le_of_ble_eq_true rfl) ?_
    refine gi_aload_n (q := 98) (i := 0) C (dm_Mo_reckon 56 rfl) rfl rfl rfl ?_
    refine gi_get (q := 101) C (dm_Mo_reckon 57 rfl) rfl fl_Mo_104 Ha (mo_g52 Hf) ?_
    refine gi_iload (q := 103) C (dm_Mo_reckon 58 rfl) rfl rfl ?_
    refine gi_lald (q := 104) C (dm_Mo_reckon 59 rfl) rfl rfl (mo_a52 H) (inN (show n0 - 1 - L + 6 < 14 by omega) (by decide)) ?_
    rw [nI_clamp (show n0 - 1 - L + 6 < 2 ^ 31 by omega), sy.1]
    refine gi_lstore (q := 106) C (dm_Mo_reckon 60 rfl) rfl (Nat.le_of_ble_eq_true rfl) ?_
    refine gi_aload_n (q := 107) (i := 0) C (dm_Mo_reckon 61 rfl) rfl rfl rfl ?_
    refine gi_get (q := 110) C (dm_Mo_reckon 62 rfl) rfl fl_Mo_107 Ha (mo_g53 Hf) ?_
    refine gi_iload (q := 112) C (dm_Mo_reckon 63 rfl) rfl rfl ?_
    refine gi_lald (q := 113) C (dm_Mo_reckon 64 rfl) rfl rfl (mo_a53 H) (inN (show n0 - 1 - L + 6 < 14 by omega) (by decide)) ?_
    rw [nI_clamp (show n0 - 1 - L + 6 < 2 ^ 31 by omega), sy.2.1]
    refine gi_lstore (q := 115) C (dm_Mo_reckon 65 rfl) rfl (Nat.le_of_ble_eq_true rfl) ?_
    refine gi_aload_n (q := 116) (i := 0) C (dm_Mo_reckon 66 rfl) rfl rfl rfl ?_
    refine gi_get (q := 119) C (dm_Mo_reckon 67 rfl) rfl fl_Mo_110 Ha (mo_g54 Hf) ?_
    refine gi_iload (q := 121) C (dm_Mo_reckon 68 rfl) rfl rfl ?_
    refine gi_lald (q := 122) C (dm_Mo_reckon 69 rfl) rfl rfl (mo_a54 H) (inN (show n0 - 1 - L + 6 < 14 by omega) (by decide)) ?_
    rw [nI_clamp (show n0 - 1 - L + 6 < 2 ^ 31 by omega), sy.2.2]
    refine gi_lstore (q := 124) C (dm_Mo_reckon 70 rfl) rfl (Nat.le_of_ble_eq_true rfl) ?_
    refine gi_aload_n (q := 125) (i := 0) C (dm_Mo_reckon 71 rfl) rfl rfl rfl ?_
    refine gi_get (q := 128) C (dm_Mo_reckon 72 rfl) rfl fl_Mo_119 Ha (mo_g57 Hf) ?_
    refine gi_iload (q := 130) C (dm_Mo_reckon 73 rfl) rfl rfl ?_
    refine gi_iald (q := 131) C (dm_Mo_reckon 74 rfl) rfl rfl (mo_a57 H) (inN (show n0 - 1 - L + 6 < 14 by omega) (by decide)) ?_
    rw [nI_clamp (show n0 - 1 - L + 6 < 2 ^ 31 by omega), sm]
    refine gi_istore (q := 133) C (dm_Mo_reckon 75 rfl) rfl (Nat.le_of_ble_eq_true rfl) ?_
    refine gi_aload_n (q := 134) (i := 0) C (dm_Mo_reckon 76 rfl) rfl rfl rfl ?_
    refine gi_get (q := 137) C (dm_Mo_reckon 77 rfl) rfl fl_Mo_104 Ha (mo_g52 Hf) ?_
    refine gi_iload_n (q := 138) (i := 3) C (dm_Mo_reckon 78 rfl) rfl rfl rfl ?_
    refine gi_lald (q := 139) C (dm_Mo_reckon 79 rfl) rfl rfl (mo_a52 H) (inN (show n0 - 2 - L + 6 < 14 by omega) (by decide)) ?_
    rw [nI_clamp (show n0 - 2 - L + 6 < 2 ^ 31 by omega), sx.1]
    refine gi_lstore (q := 141) C (dm_Mo_reckon 80 rfl) rfl (Nat.le_of_ble_eq_true rfl) ?_
    refine gi_aload_n (q := 142) (i := 0) C (dm_Mo_reckon 81 rfl) rfl rfl rfl ?_
    refine gi_get (q := 145) C (dm_Mo_reckon 82 rfl) rfl fl_Mo_107 Ha (mo_g53 Hf) ?_
    refine gi_iload_n (q := 146) (i := 3) C (dm_Mo_reckon 83 rfl) rfl rfl rfl ?_
    refine gi_lald (q := 147) C (dm_Mo_reckon 84 rfl) rfl rfl (mo_a53 H) (inN (show n0 - 2 - L + 6 < 14 by omega) (by decide)) ?_
    rw [nI_clamp (show n0 - 2 - L + 6 < 2 ^ 31 by omega), sx.2.1]
    refine gi_lstore (q := 149) C (dm_Mo_reckon 85 rfl) rfl (Nat.le_of_ble_eq_true rfl) ?_
    refine gi_aload_n (q := 150) (i := 0) C (dm_Mo_reckon 86 rfl) rfl rfl rfl ?_
    refine gi_get (q := 153) C (dm_Mo_reckon 87 rfl) rfl fl_Mo_110 Ha (mo_g54 Hf) ?_
    refine gi_iload_n (q := 154) (i := 3) C (dm_Mo_reckon 88 rfl) rfl rfl rfl ?_
    refine gi_lald (q := 155) C (dm_Mo_reckon 89 rfl) rfl rfl (mo_a54 H) (inN (show n0 - 2 - L + 6 < 14 by omega) (by decide)) ?_
    rw [nI_clamp (show n0 - 2 - L + 6 < 2 ^ 31 by omega), sx.2.2]
    refine gi_lstore (q := 157) C (dm_Mo_reckon 90 rfl) rfl (Nat.le_of_ble_eq_true rfl) ?_
    refine gi_iload_n (q := 158) (i := 1) C (dm_Mo_reckon 91 rfl) rfl rfl rfl ?_
    refine gi_bipush (q := 160) (v := 10) C (dm_Mo_reckon 92 rfl) rfl (by decide) ?_
    refine gi_icmp_eq (q := 163) (tgt := 169) C (dm_Mo_reckon 93 rfl) rfl (by decide) (fun c160 => ?_) (fun c160 => ?_)
    · exact absurd (show op = 10 from (by rw [show (10 : Int32) = nI 10 from rfl, nI_eqP (by omega) (by decide)] at c160; omega)) hne.1
    · refine gi_iload_n (q := 164) (i := 1) C (dm_Mo_reckon 94 rfl) rfl rfl rfl ?_
      refine gi_bipush (q := 166) (v := 11) C (dm_Mo_reckon 95 rfl) rfl (by decide) ?_
      refine gi_icmp_ne (q := 169) (tgt := 214) C (dm_Mo_reckon 96 rfl) rfl (by decide) (fun c166 => ?_) (fun c166 => ?_)
      · refine gi_aload_n (q := 215) (i := 0) C (dm_Mo_reckon 120 rfl) rfl rfl rfl ?_
        refine gi_iload_n (q := 216) (i := 1) C (dm_Mo_reckon 121 rfl) rfl rfl rfl ?_
        refine gi_lload (q := 218) C (dm_Mo_reckon 122 rfl) rfl rfl ?_
        refine gi_lload (q := 220) C (dm_Mo_reckon 123 rfl) rfl rfl ?_
        refine gi_lload (q := 222) C (dm_Mo_reckon 124 rfl) rfl rfl ?_
        refine gi_lload (q := 224) C (dm_Mo_reckon 125 rfl) rfl rfl ?_
        refine gi_lload (q := 226) C (dm_Mo_reckon 126 rfl) rfl rfl ?_
        refine gi_lload (q := 228) C (dm_Mo_reckon 127 rfl) rfl rfl ?_
        refine gi_callv 7 (q := 231) C (dm_Mo_reckon 128 rfl) rfl my_Mo_act lk_Mo_479 im_Mo_act rfl (ww_act HW1 op X Y h7 (by omega) okX okY (fun q => absurd q (by omega))) Ha rfl rfl ⟨(Nat.le_of_ble_eq_true rfl), (Nat.le_of_ble_eq_true rfl)⟩ (Nat.le_of_ble_eq_true rfl) ⟨(Nat.le_of_ble_eq_true rfl), (Nat.le_of_ble_eq_true rfl)⟩ (fun r228 n228 h228 e228 => ?_)
        obtain ⟨rfl, rfl, S2, J2, HW2, rs2⟩ := e228
        have H := HW2.1
        obtain ⟨fs, Ha, Hf⟩ := id H.1
        have ho := HW2.2.1
        have rs2 := rsJ (rs2 _ rfl)
        refine gi_aload_n (q := 232) (i := 0) C (dm_Mo_reckon 129 rfl) rfl rfl rfl ?_
        refine gi_aload_n (q := 233) (i := 0) C (dm_Mo_reckon 130 rfl) rfl rfl rfl ?_
        refine gi_get (q := 236) C (dm_Mo_reckon 131 rfl) rfl fl_Mo_242 Ha (mo_g22 Hf) ?_
        refine gi_aload_n (q := 237) (i := 0) C (dm_Mo_reckon 132 rfl) rfl rfl rfl ?_
        refine gi_get (q := 240) C (dm_Mo_reckon 133 rfl) rfl fl_Mo_246 Ha (mo_g23 Hf) ?_
        refine gi_aload_n (q := 241) (i := 0) C (dm_Mo_reckon 134 rfl) rfl rfl rfl ?_
        refine gi_get (q := 244) C (dm_Mo_reckon 135 rfl) rfl fl_Mo_249 Ha (mo_g24 Hf) ?_
        rw [rs2.1, rs2.2.1, rs2.2.2]
        refine gi_callv 3 (q := 247) C (dm_Mo_reckon 136 rfl) rfl my_Mo_pushSpan lk_Mo_431 im_Mo_pushSpan rfl (ww_pushSpan HW2 (actS op X Y) (by omega)) Ha rfl rfl ⟨(Nat.le_of_ble_eq_true rfl), (Nat.le_of_ble_eq_true rfl)⟩ (Nat.le_of_ble_eq_true rfl) ⟨(Nat.le_of_ble_eq_true rfl), (Nat.le_of_ble_eq_true rfl)⟩ (fun r244 n244 h244 e244 => ?_)
        obtain ⟨rfl, rfl, S3, J3, F3, G3, HW3⟩ := e244
        have H := HW3.1
        obtain ⟨fs, Ha, Hf⟩ := id H.1
        have ho := HW3.2.1
        rw [show n0 - 2 + 1 = n0 - 1 by omega] at HW3
        refine gi_aload_n (q := 248) (i := 0) C (dm_Mo_reckon 137 rfl) rfl rfl rfl ?_
        refine gi_iload_n (q := 249) (i := 2) C (dm_Mo_reckon 138 rfl) rfl rfl rfl ?_
        refine gi_callv 1 (q := 252) C (dm_Mo_reckon 139 rfl) rfl my_Mo_comeTo lk_Mo_434 im_Mo_comeTo rfl (ww_comeTo HW3 B hmd hm hi hx hL hg) Ha rfl rfl ⟨(Nat.le_of_ble_eq_true rfl), (Nat.le_of_ble_eq_true rfl)⟩ (Nat.le_of_ble_eq_true rfl) ⟨(Nat.le_of_ble_eq_true rfl), (Nat.le_of_ble_eq_true rfl)⟩ (fun r249 n249 h249 e249 => ?_)
        obtain ⟨rfl, rfl, S4, J4, F4, G4, HW4, fz4⟩ := e249
        have H := HW4.1
        obtain ⟨fs, Ha, Hf⟩ := id H.1
        have ho := HW4.2.1
        refine gi_vret C hr (dm_Mo_reckon 140 rfl) ?_
        exact ⟨rfl, rfl, HW4.end⟩
      · exact absurd (show op = 11 from (by rw [show (11 : Int32) = nI 11 from rfl, nI_eqP (by omega) (by decide)] at c166; omega)) hne.2
  · exact absurd (show op = 18 from (by rw [show (18 : Int32) = nI 18 from rfl, nI_eqP (by omega) (by decide)] at c3; omega)) (by omega)
set_option maxHeartbeats 4000000 in
set_option maxRecDepth 100000 in
theorem ww_reckonD (HW : WW M k P sh md Ff κ h S0 J0 F0 G0 Z L n0 f S J F G y) (B : Built k P sh (siN k P sh) (wdF k P)) (hmd : md ≤ 2) {a : Nat} (hm : a < k) (hi : i < pN P 5 a) (hx : sh (60 * a + i) = some x) (hL : pN P 2 a = L) {op : Nat} (hop : op = 10 ∨ op = 11) {X Y : Sp} (hn : L + 2 ≤ n0) (e1 : (f (n0 - 1)).1 = .inl Y) (e2 : (f (n0 - 2)).1 = .inl X) (okX : okS X) (okY : okS Y) (mkD : (f (n0 - 1)).2 = -1 ∨ ∃ j, j < L ∧ (f (n0 - 1)).2 = nI j) (hloc : ∀ i, i < L → (f i).2 = -1) (hg : ∀ y2, loseS Y 0 = some y2 → tyG P a x (n0 - 1) (upF (tellF (n0 - 2) f (f (n0 - 1)).2 (.inl y2)) (n0 - 2) (.inl (actS op X y2), -1))) : gi_T l V y_Mo_reckon b_Mo_reckon 18 none 5 165 0 0 [.ref M, .int (nI op), .int (nI (60 * a + i))] n y (fun v n' h' => v = none ∧ n' = n ∧ spP M k P sh md Ff κ h S0 J0 F0 G0 (match loseS Y 0 with | none => Z | some y2 => comeM md (grF (wdF k P)) Z (60 * a + i, n0 - 1, upF (tellF (n0 - 2) f (f (n0 - 1)).2 (.inl y2)) (n0 - 2) (.inl (actS op X y2), -1))) h') := by
  refine gi_enter (by decide) (Nat.le_of_ble_eq_true rfl) ?_
  intro _ _ _ _ _ _ _ _ C hr hnm
  have H := HW.1
  obtain ⟨fs, Ha, Hf⟩ := id H.1
  have ho := HW.2.1
  obtain ⟨f1, f2, f3, f4⟩ := HW.fb
  refine gi_iload_n (q := 1) (i := 1) C (dm_Mo_reckon 0 rfl) rfl rfl rfl ?_
  refine gi_bipush (q := 3) (v := 18) C (dm_Mo_reckon 1 rfl) rfl (by decide) ?_
  refine gi_icmp_ne (q := 6) (tgt := 74) C (dm_Mo_reckon 2 rfl) rfl (by decide) (fun c3 => ?_) (fun c3 => ?_)
  · refine gi_aload_n (q := 75) (i := 0) C (dm_Mo_reckon 42 rfl) rfl rfl rfl ?_
    refine gi_dup (q := 76) C (dm_Mo_reckon 43 rfl) rfl rfl ?_
    refine gi_get (q := 79) C (dm_Mo_reckon 44 rfl) rfl fl_Mo_357 Ha (mo_g58 Hf) ?_
    refine gi_iconst (q := 80) (v := 2) C (dm_Mo_reckon 45 rfl) rfl (by decide) ?_
    refine gi_isub (q := 81) C (dm_Mo_reckon 46 rfl) rfl ?_
    rw [HW.fb.2.2.2, nI_m2 (by omega), show n0 - L + 6 - 2 = n0 - 2 - L + 6 by omega]
    refine gi_put (q := 84) C (dm_Mo_reckon 47 rfl) rfl fl_Mo_357 fp_Mo_58 Ha (by rw [Hf.1]; decide) rfl rfl ?_
    refine gi_genM (H.putI Ha Hf (by decide) rfl) (ho.up (by omega) (by omega)) (fun y H ho => ?_)
    obtain ⟨fs, Ha, Hf⟩ := id H.1
    have HW1 := HW.top (n1 := n0 - 2) (by omega) (by omega) H ho
    have f41 := HW1.fb.2.2.2
    have sx := HW.sp (show n0 - 2 < n0 by omega) e2
    have sy := HW.sp (show n0 - 1 < n0 by omega) e1
    have sm := HW.mk (show n0 - 1 < n0 by omega) (by omega)
    rw [sl_t (by omega)] at sx sy sm
    refine gi_aload_n (q := 85) (i := 0) C (dm_Mo_reckon 48 rfl) rfl rfl rfl ?_
    refine gi_get (q := 88) C (dm_Mo_reckon 49 rfl) rfl fl_Mo_357 Ha (mo_g58 Hf) ?_
    rw [f41]
    refine gi_istore_n (q := 89) (i := 3) C (dm_Mo_reckon 50 rfl) rfl rfl (Nat.le_of_ble_eq_true rfl) ?_
    refine gi_aload_n (q := 90) (i := 0) C (dm_Mo_reckon 51 rfl) rfl rfl rfl ?_
    refine gi_get (q := 93) C (dm_Mo_reckon 52 rfl) rfl fl_Mo_357 Ha (mo_g58 Hf) ?_
    refine gi_iconst (q := 94) (v := 1) C (dm_Mo_reckon 53 rfl) rfl (by decide) ?_
    refine gi_iadd (q := 95) C (dm_Mo_reckon 54 rfl) rfl ?_
    rw [f41, show (1 : Int32) = nI 1 from rfl, nI_add, show n0 - 2 - L + 6 + 1 = n0 - 1 - L + 6 by omega]
    refine gi_istore (q := 97) C (dm_Mo_reckon 55 rfl) rfl (Nat.le_of_ble_eq_true rfl) ?_
    refine gi_aload_n (q := 98) (i := 0) C (dm_Mo_reckon 56 rfl) rfl rfl rfl ?_
    refine gi_get (q := 101) C (dm_Mo_reckon 57 rfl) rfl fl_Mo_104 Ha (mo_g52 Hf) ?_
    refine gi_iload (q := 103) C (dm_Mo_reckon 58 rfl) rfl rfl ?_
    refine gi_lald (q := 104) C (dm_Mo_reckon 59 rfl) rfl rfl (mo_a52 H) (inN (show n0 - 1 - L + 6 < 14 by omega) (by decide)) ?_
    rw [nI_clamp (show n0 - 1 - L + 6 < 2 ^ 31 by omega), sy.1]
    refine gi_lstore (q := 106) C (dm_Mo_reckon 60 rfl) rfl (Nat.le_of_ble_eq_true rfl) ?_
    refine gi_aload_n (q := 107) (i := 0) C (dm_Mo_reckon 61 rfl) rfl rfl rfl ?_
    refine gi_get (q := 110) C (dm_Mo_reckon 62 rfl) rfl fl_Mo_107 Ha (mo_g53 Hf) ?_
    refine gi_iload (q := 112) C (dm_Mo_reckon 63 rfl) rfl rfl ?_
    refine gi_lald (q := 113) C (dm_Mo_reckon 64 rfl) rfl rfl (mo_a53 H) (inN (show n0 - 1 - L + 6 < 14 by omega) (by decide)) ?_
    rw [nI_clamp (show n0 - 1 - L + 6 < 2 ^ 31 by omega), sy.2.1]
    refine gi_lstore (q := 115) C (dm_Mo_reckon 65 rfl) rfl (Nat.le_of_ble_eq_true rfl) ?_
    refine gi_aload_n (q := 116) (i := 0) C (dm_Mo_reckon 66 rfl) rfl rfl rfl ?_
    refine gi_get (q := 119) C (dm_Mo_reckon 67 rfl) rfl fl_Mo_110 Ha (mo_g54 Hf) ?_
    refine gi_iload (q := 121) C (dm_Mo_reckon 68 rfl) rfl rfl ?_
    refine gi_lald (q := 122) C (dm_Mo_reckon 69 rfl) rfl rfl (mo_a54 H) (inN (show n0 - 1 - L + 6 < 14 by omega) (by decide)) ?_
    rw [nI_clamp (show n0 - 1 - L + 6 < 2 ^ 31 by omega), sy.2.2]
    refine gi_lstore (q := 124) C (dm_Mo_reckon 70 rfl) rfl (Nat.le_of_ble_eq_true rfl) ?_
    refine gi_aload_n (q := 125) (i := 0) C (dm_Mo_reckon 71 rfl) rfl rfl rfl ?_
    refine gi_get (q := 128) C (dm_Mo_reckon 72 rfl) rfl fl_Mo_119 Ha (mo_g57 Hf) ?_
    refine gi_iload (q := 130) C (dm_Mo_reckon 73 rfl) rfl rfl ?_
    refine gi_iald (q := 131) C (dm_Mo_reckon 74 rfl) rfl rfl (mo_a57 H) (inN (show n0 - 1 - L + 6 < 14 by omega) (by decide)) ?_
    rw [nI_clamp (show n0 - 1 - L + 6 < 2 ^ 31 by omega), sm]
    refine gi_istore (q := 133) C (dm_Mo_reckon 75 rfl) rfl (Nat.le_of_ble_eq_true rfl) ?_
    refine gi_aload_n (q := 134) (i := 0) C (dm_Mo_reckon 76 rfl) rfl rfl rfl ?_
    refine gi_get (q := 137) C (dm_Mo_reckon 77 rfl) rfl fl_Mo_104 Ha (mo_g52 Hf) ?_
    refine gi_iload_n (q := 138) (i := 3) C (dm_Mo_reckon 78 rfl) rfl rfl rfl ?_
    refine gi_lald (q := 139) C (dm_Mo_reckon 79 rfl) rfl rfl (mo_a52 H) (inN (show n0 - 2 - L + 6 < 14 by omega) (by decide)) ?_
    rw [nI_clamp (show n0 - 2 - L + 6 < 2 ^ 31 by omega), sx.1]
    refine gi_lstore (q := 141) C (dm_Mo_reckon 80 rfl) rfl (Nat.le_of_ble_eq_true rfl) ?_
    refine gi_aload_n (q := 142) (i := 0) C (dm_Mo_reckon 81 rfl) rfl rfl rfl ?_
    refine gi_get (q := 145) C (dm_Mo_reckon 82 rfl) rfl fl_Mo_107 Ha (mo_g53 Hf) ?_
    refine gi_iload_n (q := 146) (i := 3) C (dm_Mo_reckon 83 rfl) rfl rfl rfl ?_
    refine gi_lald (q := 147) C (dm_Mo_reckon 84 rfl) rfl rfl (mo_a53 H) (inN (show n0 - 2 - L + 6 < 14 by omega) (by decide)) ?_
    rw [nI_clamp (show n0 - 2 - L + 6 < 2 ^ 31 by omega), sx.2.1]
    refine gi_lstore (q := 149) C (dm_Mo_reckon 85 rfl) rfl (Nat.le_of_ble_eq_true rfl) ?_
    refine gi_aload_n (q := 150) (i := 0) C (dm_Mo_reckon 86 rfl) rfl rfl rfl ?_
    refine gi_get (q := 153) C (dm_Mo_reckon 87 rfl) rfl fl_Mo_110 Ha (mo_g54 Hf) ?_
    refine gi_iload_n (q := 154) (i := 3) C (dm_Mo_reckon 88 rfl) rfl rfl rfl ?_
    refine gi_lald (q := 155) C (dm_Mo_reckon 89 rfl) rfl rfl (mo_a54 H) (inN (show n0 - 2 - L + 6 < 14 by omega) (by decide)) ?_
    rw [nI_clamp (show n0 - 2 - L + 6 < 2 ^ 31 by omega), sx.2.2]
    refine gi_lstore (q := 157) C (dm_Mo_reckon 90 rfl) rfl (Nat.le_of_ble_eq_true rfl) ?_
    refine gi_iload_n (q := 158) (i := 1) C (dm_Mo_reckon 91 rfl) rfl rfl rfl ?_
    refine gi_bipush (q := 160) (v := 10) C (dm_Mo_reckon 92 rfl) rfl (by decide) ?_
    refine gi_icmp_eq (q := 163) (tgt := 169) C (dm_Mo_reckon 93 rfl) rfl (by decide) (fun c160 => ?_) (fun c160 => ?_)
    · refine gi_aload_n (q := 170) (i := 0) C (dm_Mo_reckon 97 rfl) rfl rfl rfl ?_
      refine gi_lload (q := 172) C (dm_Mo_reckon 98 rfl) rfl rfl ?_
      refine gi_lload (q := 174) C (dm_Mo_reckon 99 rfl) rfl rfl ?_
      refine gi_lload (q := 176) C (dm_Mo_reckon 100 rfl) rfl rfl ?_
      refine gi_lconst (q := 177) (v := 0) C (dm_Mo_reckon 101 rfl) rfl (by decide) ?_
      rw [show (0 : Int64) = eL 0 from rfl]
      refine gi_callv 4 (q := 180) C (dm_Mo_reckon 102 rfl) rfl my_Mo_withoutEnd lk_Mo_483 im_Mo_withoutEnd rfl (ww_withoutEnd HW1 Y 0 okY (by decide) (by decide)) Ha rfl rfl ⟨(Nat.le_of_ble_eq_true rfl), (Nat.le_of_ble_eq_true rfl)⟩ (Nat.le_of_ble_eq_true rfl) ⟨(Nat.le_of_ble_eq_true rfl), (Nat.le_of_ble_eq_true rfl)⟩ (fun r177 n177 h177 e177 => ?_)
      obtain ⟨rfl, rfl, S2, J2, HW2, rs2⟩ := e177
      have H := HW2.1
      obtain ⟨fs, Ha, Hf⟩ := id H.1
      have ho := HW2.2.1
      refine gi_if_ne (q := 183) (tgt := 184) C (dm_Mo_reckon 103 rfl) rfl (by decide) (fun c180 => ?_) (fun c180 => ?_)
      · obtain ⟨y2, ey⟩ : ∃ y2, loseS Y 0 = some y2 := Option.isSome_iff_exists.mp (bI_t c180)
        have rs2 := rsJ (rs2 _ ey)
        have oky := lose_ok okY ey
        have y0 := lose_0 okY ey
        rw [ey]
        have hg := hg y2 ey
        refine gi_aload_n (q := 185) (i := 0) C (dm_Mo_reckon 105 rfl) rfl rfl rfl ?_
        refine gi_get (q := 188) C (dm_Mo_reckon 106 rfl) rfl fl_Mo_242 Ha (mo_g22 Hf) ?_
        rw [rs2.1]
        refine gi_lstore (q := 190) C (dm_Mo_reckon 107 rfl) rfl (Nat.le_of_ble_eq_true rfl) ?_
        refine gi_aload_n (q := 191) (i := 0) C (dm_Mo_reckon 108 rfl) rfl rfl rfl ?_
        refine gi_get (q := 194) C (dm_Mo_reckon 109 rfl) rfl fl_Mo_246 Ha (mo_g23 Hf) ?_
        rw [rs2.2.1]
        refine gi_lstore (q := 196) C (dm_Mo_reckon 110 rfl) rfl (Nat.le_of_ble_eq_true rfl) ?_
        refine gi_aload_n (q := 197) (i := 0) C (dm_Mo_reckon 111 rfl) rfl rfl rfl ?_
        refine gi_get (q := 200) C (dm_Mo_reckon 112 rfl) rfl fl_Mo_249 Ha (mo_g24 Hf) ?_
        rw [rs2.2.2]
        refine gi_lstore (q := 202) C (dm_Mo_reckon 113 rfl) rfl (Nat.le_of_ble_eq_true rfl) ?_
        refine gi_aload_n (q := 203) (i := 0) C (dm_Mo_reckon 114 rfl) rfl rfl rfl ?_
        refine gi_iload (q := 205) C (dm_Mo_reckon 115 rfl) rfl rfl ?_
        refine gi_lload (q := 207) C (dm_Mo_reckon 116 rfl) rfl rfl ?_
        refine gi_lload (q := 209) C (dm_Mo_reckon 117 rfl) rfl rfl ?_
        refine gi_lload (q := 211) C (dm_Mo_reckon 118 rfl) rfl rfl ?_
        refine gi_callv 4 (q := 214) C (dm_Mo_reckon 119 rfl) rfl my_Mo_markedSpan lk_Mo_486 im_Mo_markedSpan rfl (ww_markedSpan HW2 y2 mkD hloc) Ha rfl rfl ⟨(Nat.le_of_ble_eq_true rfl), (Nat.le_of_ble_eq_true rfl)⟩ (Nat.le_of_ble_eq_true rfl) ⟨(Nat.le_of_ble_eq_true rfl), (Nat.le_of_ble_eq_true rfl)⟩ (fun r211 n211 h211 e211 => ?_)
        obtain ⟨rfl, rfl, S3, J3, F3, G3, HW3⟩ := e211
        have H := HW3.1
        obtain ⟨fs, Ha, Hf⟩ := id H.1
        have ho := HW3.2.1
        refine gi_aload_n (q := 215) (i := 0) C (dm_Mo_reckon 120 rfl) rfl rfl rfl ?_
        refine gi_iload_n (q := 216) (i := 1) C (dm_Mo_reckon 121 rfl) rfl rfl rfl ?_
        refine gi_lload (q := 218) C (dm_Mo_reckon 122 rfl) rfl rfl ?_
        refine gi_lload (q := 220) C (dm_Mo_reckon 123 rfl) rfl rfl ?_
        refine gi_lload (q := 222) C (dm_Mo_reckon 124 rfl) rfl rfl ?_
        refine gi_lload (q := 224) C (dm_Mo_reckon 125 rfl) rfl rfl ?_
        refine gi_lload (q := 226) C (dm_Mo_reckon 126 rfl) rfl rfl ?_
        refine gi_lload (q := 228) C (dm_Mo_reckon 127 rfl) rfl rfl ?_
        refine gi_callv 7 (q := 231) C (dm_Mo_reckon 128 rfl) rfl my_Mo_act lk_Mo_479 im_Mo_act rfl (ww_act HW3 op X y2 (by omega) (by omega) okX oky (fun _ => y0)) Ha rfl rfl ⟨(Nat.le_of_ble_eq_true rfl), (Nat.le_of_ble_eq_true rfl)⟩ (Nat.le_of_ble_eq_true rfl) ⟨(Nat.le_of_ble_eq_true rfl), (Nat.le_of_ble_eq_true rfl)⟩ (fun r228 n228 h228 e228 => ?_)
        obtain ⟨rfl, rfl, S4, J4, HW4, rs4⟩ := e228
        have H := HW4.1
        obtain ⟨fs, Ha, Hf⟩ := id H.1
        have ho := HW4.2.1
        have rs4 := rsJ (rs4 _ rfl)
        refine gi_aload_n (q := 232) (i := 0) C (dm_Mo_reckon 129 rfl) rfl rfl rfl ?_
        refine gi_aload_n (q := 233) (i := 0) C (dm_Mo_reckon 130 rfl) rfl rfl rfl ?_
        refine gi_get (q := 236) C (dm_Mo_reckon 131 rfl) rfl fl_Mo_242 Ha (mo_g22 Hf) ?_
        refine gi_aload_n (q := 237) (i := 0) C (dm_Mo_reckon 132 rfl) rfl rfl rfl ?_
        refine gi_get (q := 240) C (dm_Mo_reckon 133 rfl) rfl fl_Mo_246 Ha (mo_g23 Hf) ?_
        refine gi_aload_n (q := 241) (i := 0) C (dm_Mo_reckon 134 rfl) rfl rfl rfl ?_
        refine gi_get (q := 244) C (dm_Mo_reckon 135 rfl) rfl fl_Mo_249 Ha (mo_g24 Hf) ?_
        rw [rs4.1, rs4.2.1, rs4.2.2]
        refine gi_callv 3 (q := 247) C (dm_Mo_reckon 136 rfl) rfl my_Mo_pushSpan lk_Mo_431 im_Mo_pushSpan rfl (ww_pushSpan HW4 (actS op X y2) (by omega)) Ha rfl rfl ⟨(Nat.le_of_ble_eq_true rfl), (Nat.le_of_ble_eq_true rfl)⟩ (Nat.le_of_ble_eq_true rfl) ⟨(Nat.le_of_ble_eq_true rfl), (Nat.le_of_ble_eq_true rfl)⟩ (fun r244 n244 h244 e244 => ?_)
        obtain ⟨rfl, rfl, S5, J5, F5, G5, HW5⟩ := e244
        have H := HW5.1
        obtain ⟨fs, Ha, Hf⟩ := id H.1
        have ho := HW5.2.1
        rw [show n0 - 2 + 1 = n0 - 1 by omega] at HW5
        refine gi_aload_n (q := 248) (i := 0) C (dm_Mo_reckon 137 rfl) rfl rfl rfl ?_
        refine gi_iload_n (q := 249) (i := 2) C (dm_Mo_reckon 138 rfl) rfl rfl rfl ?_
        refine gi_callv 1 (q := 252) C (dm_Mo_reckon 139 rfl) rfl my_Mo_comeTo lk_Mo_434 im_Mo_comeTo rfl (ww_comeTo HW5 B hmd hm hi hx hL hg) Ha rfl rfl ⟨(Nat.le_of_ble_eq_true rfl), (Nat.le_of_ble_eq_true rfl)⟩ (Nat.le_of_ble_eq_true rfl) ⟨(Nat.le_of_ble_eq_true rfl), (Nat.le_of_ble_eq_true rfl)⟩ (fun r249 n249 h249 e249 => ?_)
        obtain ⟨rfl, rfl, S6, J6, F6, G6, HW6, fz6⟩ := e249
        have H := HW6.1
        obtain ⟨fs, Ha, Hf⟩ := id H.1
        have ho := HW6.2.1
        refine gi_vret C hr (dm_Mo_reckon 140 rfl) ?_
        exact ⟨rfl, rfl, HW6.end⟩
      · refine gi_vret C hr (dm_Mo_reckon 104 rfl) ?_
        have en : loseS Y 0 = none := by
          cases e : loseS Y 0 with
          | none => rfl
          | some u => rw [e] at c180; exact absurd (bI_fa c180) (by simp)
        rw [en]
        exact ⟨rfl, rfl, HW2.end⟩
    · refine gi_iload_n (q := 164) (i := 1) C (dm_Mo_reckon 94 rfl) rfl rfl rfl ?_
      refine gi_bipush (q := 166) (v := 11) C (dm_Mo_reckon 95 rfl) rfl (by decide) ?_
      refine gi_icmp_ne (q := 169) (tgt := 214) C (dm_Mo_reckon 96 rfl) rfl (by decide) (fun c166 => ?_) (fun c166 => ?_)
      · exact absurd (show op = 10 ∨ op = 11 from hop) (by
          rw [show (10 : Int32) = nI 10 from rfl, nI_eqP (by omega) (by decide)] at c160
          rw [show (11 : Int32) = nI 11 from rfl, nI_eqP (by omega) (by decide)] at c166
          omega)
      · refine gi_aload_n (q := 170) (i := 0) C (dm_Mo_reckon 97 rfl) rfl rfl rfl ?_
        refine gi_lload (q := 172) C (dm_Mo_reckon 98 rfl) rfl rfl ?_
        refine gi_lload (q := 174) C (dm_Mo_reckon 99 rfl) rfl rfl ?_
        refine gi_lload (q := 176) C (dm_Mo_reckon 100 rfl) rfl rfl ?_
        refine gi_lconst (q := 177) (v := 0) C (dm_Mo_reckon 101 rfl) rfl (by decide) ?_
        rw [show (0 : Int64) = eL 0 from rfl]
        refine gi_callv 4 (q := 180) C (dm_Mo_reckon 102 rfl) rfl my_Mo_withoutEnd lk_Mo_483 im_Mo_withoutEnd rfl (ww_withoutEnd HW1 Y 0 okY (by decide) (by decide)) Ha rfl rfl ⟨(Nat.le_of_ble_eq_true rfl), (Nat.le_of_ble_eq_true rfl)⟩ (Nat.le_of_ble_eq_true rfl) ⟨(Nat.le_of_ble_eq_true rfl), (Nat.le_of_ble_eq_true rfl)⟩ (fun r177 n177 h177 e177 => ?_)
        obtain ⟨rfl, rfl, S2, J2, HW2, rs2⟩ := e177
        have H := HW2.1
        obtain ⟨fs, Ha, Hf⟩ := id H.1
        have ho := HW2.2.1
        refine gi_if_ne (q := 183) (tgt := 184) C (dm_Mo_reckon 103 rfl) rfl (by decide) (fun c180 => ?_) (fun c180 => ?_)
        · obtain ⟨y2, ey⟩ : ∃ y2, loseS Y 0 = some y2 := Option.isSome_iff_exists.mp (bI_t c180)
          have rs2 := rsJ (rs2 _ ey)
          have oky := lose_ok okY ey
          have y0 := lose_0 okY ey
          rw [ey]
          have hg := hg y2 ey
          refine gi_aload_n (q := 185) (i := 0) C (dm_Mo_reckon 105 rfl) rfl rfl rfl ?_
          refine gi_get (q := 188) C (dm_Mo_reckon 106 rfl) rfl fl_Mo_242 Ha (mo_g22 Hf) ?_
          rw [rs2.1]
          refine gi_lstore (q := 190) C (dm_Mo_reckon 107 rfl) rfl (Nat.le_of_ble_eq_true rfl) ?_
          refine gi_aload_n (q := 191) (i := 0) C (dm_Mo_reckon 108 rfl) rfl rfl rfl ?_
          refine gi_get (q := 194) C (dm_Mo_reckon 109 rfl) rfl fl_Mo_246 Ha (mo_g23 Hf) ?_
          rw [rs2.2.1]
          refine gi_lstore (q := 196) C (dm_Mo_reckon 110 rfl) rfl (Nat.le_of_ble_eq_true rfl) ?_
          refine gi_aload_n (q := 197) (i := 0) C (dm_Mo_reckon 111 rfl) rfl rfl rfl ?_
          refine gi_get (q := 200) C (dm_Mo_reckon 112 rfl) rfl fl_Mo_249 Ha (mo_g24 Hf) ?_
          rw [rs2.2.2]
          refine gi_lstore (q := 202) C (dm_Mo_reckon 113 rfl) rfl (Nat.le_of_ble_eq_true rfl) ?_
          refine gi_aload_n (q := 203) (i := 0) C (dm_Mo_reckon 114 rfl) rfl rfl rfl ?_
          refine gi_iload (q := 205) C (dm_Mo_reckon 115 rfl) rfl rfl ?_
          refine gi_lload (q := 207) C (dm_Mo_reckon 116 rfl) rfl rfl ?_
          refine gi_lload (q := 209) C (dm_Mo_reckon 117 rfl) rfl rfl ?_
          refine gi_lload (q := 211) C (dm_Mo_reckon 118 rfl) rfl rfl ?_
          refine gi_callv 4 (q := 214) C (dm_Mo_reckon 119 rfl) rfl my_Mo_markedSpan lk_Mo_486 im_Mo_markedSpan rfl (ww_markedSpan HW2 y2 mkD hloc) Ha rfl rfl ⟨(Nat.le_of_ble_eq_true rfl), (Nat.le_of_ble_eq_true rfl)⟩ (Nat.le_of_ble_eq_true rfl) ⟨(Nat.le_of_ble_eq_true rfl), (Nat.le_of_ble_eq_true rfl)⟩ (fun r211 n211 h211 e211 => ?_)
          obtain ⟨rfl, rfl, S3, J3, F3, G3, HW3⟩ := e211
          have H := HW3.1
          obtain ⟨fs, Ha, Hf⟩ := id H.1
          have ho := HW3.2.1
          refine gi_aload_n (q := 215) (i := 0) C (dm_Mo_reckon 120 rfl) rfl rfl rfl ?_
          refine gi_iload_n (q := 216) (i := 1) C (dm_Mo_reckon 121 rfl) rfl rfl rfl ?_
          refine gi_lload (q := 218) C (dm_Mo_reckon 122 rfl) rfl rfl ?_
          refine gi_lload (q := 220) C (dm_Mo_reckon 123 rfl) rfl rfl ?_
          refine gi_lload (q := 222) C (dm_Mo_reckon 124 rfl) rfl rfl ?_
          refine gi_lload (q := 224) C (dm_Mo_reckon 125 rfl) rfl rfl ?_
          refine gi_lload (q := 226) C (dm_Mo_reckon 126 rfl) rfl rfl ?_
          refine gi_lload (q := 228) C (dm_Mo_reckon 127 rfl) rfl rfl ?_
          refine gi_callv 7 (q := 231) C (dm_Mo_reckon 128 rfl) rfl my_Mo_act lk_Mo_479 im_Mo_act rfl (ww_act HW3 op X y2 (by omega) (by omega) okX oky (fun _ => y0)) Ha rfl rfl ⟨(Nat.le_of_ble_eq_true rfl), (Nat.le_of_ble_eq_true rfl)⟩ (Nat.le_of_ble_eq_true rfl) ⟨(Nat.le_of_ble_eq_true rfl), (Nat.le_of_ble_eq_true rfl)⟩ (fun r228 n228 h228 e228 => ?_)
          obtain ⟨rfl, rfl, S4, J4, HW4, rs4⟩ := e228
          have H := HW4.1
          obtain ⟨fs, Ha, Hf⟩ := id H.1
          have ho := HW4.2.1
          have rs4 := rsJ (rs4 _ rfl)
          refine gi_aload_n (q := 232) (i := 0) C (dm_Mo_reckon 129 rfl) rfl rfl rfl ?_
          refine gi_aload_n (q := 233) (i := 0) C (dm_Mo_reckon 130 rfl) rfl rfl rfl ?_
          refine gi_get (q := 236) C (dm_Mo_reckon 131 rfl) rfl fl_Mo_242 Ha (mo_g22 Hf) ?_
          refine gi_aload_n (q := 237) (i := 0) C (dm_Mo_reckon 132 rfl) rfl rfl rfl ?_
          refine gi_get (q := 240) C (dm_Mo_reckon 133 rfl) rfl fl_Mo_246 Ha (mo_g23 Hf) ?_
          refine gi_aload_n (q := 241) (i := 0) C (dm_Mo_reckon 134 rfl) rfl rfl rfl ?_
          refine gi_get (q := 244) C (dm_Mo_reckon 135 rfl) rfl fl_Mo_249 Ha (mo_g24 Hf) ?_
          rw [rs4.1, rs4.2.1, rs4.2.2]
          refine gi_callv 3 (q := 247) C (dm_Mo_reckon 136 rfl) rfl my_Mo_pushSpan lk_Mo_431 im_Mo_pushSpan rfl (ww_pushSpan HW4 (actS op X y2) (by omega)) Ha rfl rfl ⟨(Nat.le_of_ble_eq_true rfl), (Nat.le_of_ble_eq_true rfl)⟩ (Nat.le_of_ble_eq_true rfl) ⟨(Nat.le_of_ble_eq_true rfl), (Nat.le_of_ble_eq_true rfl)⟩ (fun r244 n244 h244 e244 => ?_)
          obtain ⟨rfl, rfl, S5, J5, F5, G5, HW5⟩ := e244
          have H := HW5.1
          obtain ⟨fs, Ha, Hf⟩ := id H.1
          have ho := HW5.2.1
          rw [show n0 - 2 + 1 = n0 - 1 by omega] at HW5
          refine gi_aload_n (q := 248) (i := 0) C (dm_Mo_reckon 137 rfl) rfl rfl rfl ?_
          refine gi_iload_n (q := 249) (i := 2) C (dm_Mo_reckon 138 rfl) rfl rfl rfl ?_
          refine gi_callv 1 (q := 252) C (dm_Mo_reckon 139 rfl) rfl my_Mo_comeTo lk_Mo_434 im_Mo_comeTo rfl (ww_comeTo HW5 B hmd hm hi hx hL hg) Ha rfl rfl ⟨(Nat.le_of_ble_eq_true rfl), (Nat.le_of_ble_eq_true rfl)⟩ (Nat.le_of_ble_eq_true rfl) ⟨(Nat.le_of_ble_eq_true rfl), (Nat.le_of_ble_eq_true rfl)⟩ (fun r249 n249 h249 e249 => ?_)
          obtain ⟨rfl, rfl, S6, J6, F6, G6, HW6, fz6⟩ := e249
          have H := HW6.1
          obtain ⟨fs, Ha, Hf⟩ := id H.1
          have ho := HW6.2.1
          refine gi_vret C hr (dm_Mo_reckon 140 rfl) ?_
          exact ⟨rfl, rfl, HW6.end⟩
        · refine gi_vret C hr (dm_Mo_reckon 104 rfl) ?_
          have en : loseS Y 0 = none := by
            cases e : loseS Y 0 with
            | none => rfl
            | some u => rw [e] at c180; exact absurd (bI_fa c180) (by simp)
          rw [en]
          exact ⟨rfl, rfl, HW2.end⟩
  · exact absurd (show op = 18 from (by rw [show (18 : Int32) = nI 18 from rfl, nI_eqP (by omega) (by decide)] at c3; omega)) (by omega)
set_option maxHeartbeats 4000000 in
set_option maxRecDepth 100000 in
theorem ww_onNull (HW : WW M k P sh md Ff κ h S0 J0 F0 G0 Z L n0 f S J F G y) (B : Built k P sh (siN k P sh) (wdF k P)) (hmd : md ≤ 2) {a : Nat} (hm : a < k) (hi : i < pN P 5 a) (hx : sh (60 * a + i) = some x) (hL : pN P 2 a = L) {q o1' : Bool} {b1 : Int32} (hn : L + 1 ≤ n0) (e1 : (f (n0 - 1)).1 = .inr (b1, o1')) (mkD : (f (n0 - 1)).2 = -1 ∨ ∃ j, j < L ∧ (f (n0 - 1)).2 = nI j) (hloc : ∀ i, i < L → (f i).2 = -1) (hg : ∀ g, nullF q (n0 - 1) f = some g → tyG P a x (n0 - 1) g) : gi_T l V y_Mo_onNull b_Mo_onNull 4 none 4 94 0 0 [.ref M, .int (bI q), .int (nI (60 * a + i))] n y (fun v n' h' => v = none ∧ n' = n ∧ spP M k P sh md Ff κ h S0 J0 F0 G0 (match nullF q (n0 - 1) f with | none => Z | some g => comeM md (grF (wdF k P)) Z (60 * a + i, n0 - 1, g)) h') := by
  refine gi_enter (by decide) (Nat.le_of_ble_eq_true rfl) ?_
  intro _ _ _ _ _ _ _ _ C hr hnm
  have H := HW.1
  obtain ⟨fs, Ha, Hf⟩ := id H.1
  have ho := HW.2.1
  obtain ⟨f1, f2, f3, f4⟩ := HW.fb
  refine gi_aload_n (q := 1) (i := 0) C (dm_Mo_onNull 0 rfl) rfl rfl rfl ?_
  refine gi_dup (q := 2) C (dm_Mo_onNull 1 rfl) rfl rfl ?_
  refine gi_get (q := 5) C (dm_Mo_onNull 2 rfl) rfl fl_Mo_357 Ha (mo_g58 Hf) ?_
  refine gi_iconst (q := 6) (v := 1) C (dm_Mo_onNull 3 rfl) rfl (by decide) ?_
  refine gi_isub (q := 7) C (dm_Mo_onNull 4 rfl) rfl ?_
  rw [HW.fb.2.2.2, nI_m1 (by omega), show n0 - L + 6 - 1 = n0 - 1 - L + 6 by omega]
  refine gi_put (q := 10) C (dm_Mo_onNull 5 rfl) rfl fl_Mo_357 fp_Mo_58 Ha (by rw [Hf.1]; decide) rfl rfl ?_
  refine gi_genM (H.putI Ha Hf (by decide) rfl) (ho.up (by omega) (by omega)) (fun y H ho => ?_)
  obtain ⟨fs, Ha, Hf⟩ := id H.1
  have HW1 := HW.top (n1 := n0 - 1) (by omega) (by omega) H ho
  have f41 := HW1.fb.2.2.2
  have ss := HW.st (show n0 - 1 < n0 by omega) e1
  have sm := HW.mk (show n0 - 1 < n0 by omega) (by omega)
  rw [sl_t (by omega)] at ss sm
  refine gi_iload_n (q := 11) (i := 1) C (dm_Mo_onNull 6 rfl) rfl rfl rfl ?_
  refine gi_if_eq (q := 14) (tgt := 29) C (dm_Mo_onNull 7 rfl) rfl (by decide) (fun c11 => ?_) (fun c11 => ?_)
  · refine gi_aload_n (q := 30) (i := 0) C (dm_Mo_onNull 15 rfl) rfl rfl rfl ?_
    refine gi_get (q := 33) C (dm_Mo_onNull 16 rfl) rfl fl_Mo_113 Ha (mo_g55 Hf) ?_
    refine gi_aload_n (q := 34) (i := 0) C (dm_Mo_onNull 17 rfl) rfl rfl rfl ?_
    refine gi_get (q := 37) C (dm_Mo_onNull 18 rfl) rfl fl_Mo_357 Ha (mo_g58 Hf) ?_
    rw [f41]
    refine gi_iald (q := 38) C (dm_Mo_onNull 19 rfl) rfl rfl (mo_a55 H) (inN (show n0 - 1 - L + 6 < 14 by omega) (by decide)) ?_
    rw [nI_clamp (show n0 - 1 - L + 6 < 2 ^ 31 by omega), ss.1]
    refine gi_if_ne (q := 41) (tgt := 42) C (dm_Mo_onNull 20 rfl) rfl (by decide) (fun c38 => ?_) (fun c38 => ?_)
    · refine gi_iload_n (q := 43) (i := 1) C (dm_Mo_onNull 22 rfl) rfl rfl rfl ?_
      refine gi_if_eq (q := 46) (tgt := 50) C (dm_Mo_onNull 23 rfl) rfl (by decide) (fun c43 => ?_) (fun c43 => ?_)
      · refine gi_aload_n (q := 51) (i := 0) C (dm_Mo_onNull 26 rfl) rfl rfl rfl ?_
        refine gi_get (q := 54) C (dm_Mo_onNull 27 rfl) rfl fl_Mo_113 Ha (mo_g55 Hf) ?_
        refine gi_aload_n (q := 55) (i := 0) C (dm_Mo_onNull 28 rfl) rfl rfl rfl ?_
        refine gi_get (q := 58) C (dm_Mo_onNull 29 rfl) rfl fl_Mo_357 Ha (mo_g58 Hf) ?_
        rw [f41]
        refine gi_iald (q := 59) C (dm_Mo_onNull 30 rfl) rfl rfl (mo_a55 H) (inN (show n0 - 1 - L + 6 < 14 by omega) (by decide)) ?_
        skip
        refine gi_istore_n (q := 60) (i := 3) C (dm_Mo_onNull 31 rfl) rfl rfl (Nat.le_of_ble_eq_true rfl) ?_
        refine gi_aload_n (q := 61) (i := 0) C (dm_Mo_onNull 32 rfl) rfl rfl rfl ?_
        refine gi_aload_n (q := 62) (i := 0) C (dm_Mo_onNull 33 rfl) rfl rfl rfl ?_
        refine gi_get (q := 65) C (dm_Mo_onNull 34 rfl) rfl fl_Mo_119 Ha (mo_g57 Hf) ?_
        refine gi_aload_n (q := 66) (i := 0) C (dm_Mo_onNull 35 rfl) rfl rfl rfl ?_
        refine gi_get (q := 69) C (dm_Mo_onNull 36 rfl) rfl fl_Mo_357 Ha (mo_g58 Hf) ?_
        rw [f41]
        refine gi_iald (q := 70) C (dm_Mo_onNull 37 rfl) rfl rfl (mo_a57 H) (inN (show n0 - 1 - L + 6 < 14 by omega) (by decide)) ?_
        rw [nI_clamp (show n0 - 1 - L + 6 < 2 ^ 31 by omega), sm]
        refine gi_iload_n (q := 71) (i := 3) C (dm_Mo_onNull 38 rfl) rfl rfl rfl ?_
        refine gi_iload_n (q := 72) (i := 1) C (dm_Mo_onNull 39 rfl) rfl rfl rfl ?_
        have qt : q = false := bI_fa c11
        have en : nullF q (n0 - 1) f = some (tellF (n0 - 1) f (f (n0 - 1)).2 (.inr (b1, false))) := by
          unfold nullF
          rw [qt, e1]
          show (if b1 = 0 then _ else _) = _
          rw [if_neg c38]
          rfl
        rw [en]
        have hg := hg _ en
        rw [qt]
        rw [ss.1]
        refine gi_callv 3 (q := 75) C (dm_Mo_onNull 40 rfl) rfl my_Mo_markedSet lk_Mo_489 im_Mo_markedSet rfl (ww_markedSet HW1 b1 false mkD hloc) Ha rfl rfl ⟨(Nat.le_of_ble_eq_true rfl), (Nat.le_of_ble_eq_true rfl)⟩ (Nat.le_of_ble_eq_true rfl) ⟨(Nat.le_of_ble_eq_true rfl), (Nat.le_of_ble_eq_true rfl)⟩ (fun r72 n72 h72 e72 => ?_)
        obtain ⟨rfl, rfl, S3, J3, F3, G3, HW3⟩ := e72
        have H := HW3.1
        obtain ⟨fs, Ha, Hf⟩ := id H.1
        have ho := HW3.2.1
        refine gi_aload_n (q := 76) (i := 0) C (dm_Mo_onNull 41 rfl) rfl rfl rfl ?_
        refine gi_iload_n (q := 77) (i := 2) C (dm_Mo_onNull 42 rfl) rfl rfl rfl ?_
        refine gi_callv 1 (q := 80) C (dm_Mo_onNull 43 rfl) rfl my_Mo_comeTo lk_Mo_434 im_Mo_comeTo rfl (ww_comeTo HW3 B hmd hm hi hx hL hg) Ha rfl rfl ⟨(Nat.le_of_ble_eq_true rfl), (Nat.le_of_ble_eq_true rfl)⟩ (Nat.le_of_ble_eq_true rfl) ⟨(Nat.le_of_ble_eq_true rfl), (Nat.le_of_ble_eq_true rfl)⟩ (fun r77 n77 h77 e77 => ?_)
        obtain ⟨rfl, rfl, S4, J4, F4, G4, HW4, fz4⟩ := e77
        have H := HW4.1
        obtain ⟨fs, Ha, Hf⟩ := id H.1
        have ho := HW4.2.1
        refine gi_vret C hr (dm_Mo_onNull 44 rfl) ?_
        exact ⟨rfl, rfl, HW4.end⟩
      · skip
        refine gi_iconst (q := 47) (v := 0) C (dm_Mo_onNull 24 rfl) rfl (by decide) ?_
        refine gi_goto (tgt := 59) C (dm_Mo_onNull 25 rfl) (by decide) ?_
        skip
        refine gi_istore_n (q := 60) (i := 3) C (dm_Mo_onNull 31 rfl) rfl rfl (Nat.le_of_ble_eq_true rfl) ?_
        refine gi_aload_n (q := 61) (i := 0) C (dm_Mo_onNull 32 rfl) rfl rfl rfl ?_
        refine gi_aload_n (q := 62) (i := 0) C (dm_Mo_onNull 33 rfl) rfl rfl rfl ?_
        refine gi_get (q := 65) C (dm_Mo_onNull 34 rfl) rfl fl_Mo_119 Ha (mo_g57 Hf) ?_
        refine gi_aload_n (q := 66) (i := 0) C (dm_Mo_onNull 35 rfl) rfl rfl rfl ?_
        refine gi_get (q := 69) C (dm_Mo_onNull 36 rfl) rfl fl_Mo_357 Ha (mo_g58 Hf) ?_
        rw [f41]
        refine gi_iald (q := 70) C (dm_Mo_onNull 37 rfl) rfl rfl (mo_a57 H) (inN (show n0 - 1 - L + 6 < 14 by omega) (by decide)) ?_
        rw [nI_clamp (show n0 - 1 - L + 6 < 2 ^ 31 by omega), sm]
        refine gi_iload_n (q := 71) (i := 3) C (dm_Mo_onNull 38 rfl) rfl rfl rfl ?_
        refine gi_iload_n (q := 72) (i := 1) C (dm_Mo_onNull 39 rfl) rfl rfl rfl ?_
        exact absurd c11 c43
    · refine gi_vret C hr (dm_Mo_onNull 21 rfl) ?_
      have en : nullF q (n0 - 1) f = none := by
        unfold nullF
        rw [show q = false from bI_fa c11, e1]
        show (if b1 = 0 then _ else _) = _
        rw [if_pos c38]
      rw [en]
      exact ⟨rfl, rfl, HW1.end⟩
  · refine gi_aload_n (q := 15) (i := 0) C (dm_Mo_onNull 8 rfl) rfl rfl rfl ?_
    refine gi_get (q := 18) C (dm_Mo_onNull 9 rfl) rfl fl_Mo_116 Ha (mo_g56 Hf) ?_
    refine gi_aload_n (q := 19) (i := 0) C (dm_Mo_onNull 10 rfl) rfl rfl rfl ?_
    refine gi_get (q := 22) C (dm_Mo_onNull 11 rfl) rfl fl_Mo_357 Ha (mo_g58 Hf) ?_
    rw [f41]
    refine gi_zald (q := 23) C (dm_Mo_onNull 12 rfl) rfl rfl (mo_a56 H) (inN (show n0 - 1 - L + 6 < 14 by omega) (by decide)) ?_
    rw [nI_clamp (show n0 - 1 - L + 6 < 2 ^ 31 by omega), ss.2]
    refine gi_if_ne (q := 26) (tgt := 42) C (dm_Mo_onNull 13 rfl) rfl (by decide) (fun c23 => ?_) (fun c23 => ?_)
    · refine gi_iload_n (q := 43) (i := 1) C (dm_Mo_onNull 22 rfl) rfl rfl rfl ?_
      refine gi_if_eq (q := 46) (tgt := 50) C (dm_Mo_onNull 23 rfl) rfl (by decide) (fun c43 => ?_) (fun c43 => ?_)
      · refine gi_aload_n (q := 51) (i := 0) C (dm_Mo_onNull 26 rfl) rfl rfl rfl ?_
        refine gi_get (q := 54) C (dm_Mo_onNull 27 rfl) rfl fl_Mo_113 Ha (mo_g55 Hf) ?_
        refine gi_aload_n (q := 55) (i := 0) C (dm_Mo_onNull 28 rfl) rfl rfl rfl ?_
        refine gi_get (q := 58) C (dm_Mo_onNull 29 rfl) rfl fl_Mo_357 Ha (mo_g58 Hf) ?_
        rw [f41]
        refine gi_iald (q := 59) C (dm_Mo_onNull 30 rfl) rfl rfl (mo_a55 H) (inN (show n0 - 1 - L + 6 < 14 by omega) (by decide)) ?_
        skip
        refine gi_istore_n (q := 60) (i := 3) C (dm_Mo_onNull 31 rfl) rfl rfl (Nat.le_of_ble_eq_true rfl) ?_
        refine gi_aload_n (q := 61) (i := 0) C (dm_Mo_onNull 32 rfl) rfl rfl rfl ?_
        refine gi_aload_n (q := 62) (i := 0) C (dm_Mo_onNull 33 rfl) rfl rfl rfl ?_
        refine gi_get (q := 65) C (dm_Mo_onNull 34 rfl) rfl fl_Mo_119 Ha (mo_g57 Hf) ?_
        refine gi_aload_n (q := 66) (i := 0) C (dm_Mo_onNull 35 rfl) rfl rfl rfl ?_
        refine gi_get (q := 69) C (dm_Mo_onNull 36 rfl) rfl fl_Mo_357 Ha (mo_g58 Hf) ?_
        rw [f41]
        refine gi_iald (q := 70) C (dm_Mo_onNull 37 rfl) rfl rfl (mo_a57 H) (inN (show n0 - 1 - L + 6 < 14 by omega) (by decide)) ?_
        rw [nI_clamp (show n0 - 1 - L + 6 < 2 ^ 31 by omega), sm]
        refine gi_iload_n (q := 71) (i := 3) C (dm_Mo_onNull 38 rfl) rfl rfl rfl ?_
        refine gi_iload_n (q := 72) (i := 1) C (dm_Mo_onNull 39 rfl) rfl rfl rfl ?_
        exact absurd c43 c11
      · skip
        refine gi_iconst (q := 47) (v := 0) C (dm_Mo_onNull 24 rfl) rfl (by decide) ?_
        refine gi_goto (tgt := 59) C (dm_Mo_onNull 25 rfl) (by decide) ?_
        skip
        refine gi_istore_n (q := 60) (i := 3) C (dm_Mo_onNull 31 rfl) rfl rfl (Nat.le_of_ble_eq_true rfl) ?_
        refine gi_aload_n (q := 61) (i := 0) C (dm_Mo_onNull 32 rfl) rfl rfl rfl ?_
        refine gi_aload_n (q := 62) (i := 0) C (dm_Mo_onNull 33 rfl) rfl rfl rfl ?_
        refine gi_get (q := 65) C (dm_Mo_onNull 34 rfl) rfl fl_Mo_119 Ha (mo_g57 Hf) ?_
        refine gi_aload_n (q := 66) (i := 0) C (dm_Mo_onNull 35 rfl) rfl rfl rfl ?_
        refine gi_get (q := 69) C (dm_Mo_onNull 36 rfl) rfl fl_Mo_357 Ha (mo_g58 Hf) ?_
        rw [f41]
        refine gi_iald (q := 70) C (dm_Mo_onNull 37 rfl) rfl rfl (mo_a57 H) (inN (show n0 - 1 - L + 6 < 14 by omega) (by decide)) ?_
        rw [nI_clamp (show n0 - 1 - L + 6 < 2 ^ 31 by omega), sm]
        refine gi_iload_n (q := 71) (i := 3) C (dm_Mo_onNull 38 rfl) rfl rfl rfl ?_
        refine gi_iload_n (q := 72) (i := 1) C (dm_Mo_onNull 39 rfl) rfl rfl rfl ?_
        have qt : q = true := bI_t c11
        have en : nullF q (n0 - 1) f = some (tellF (n0 - 1) f (f (n0 - 1)).2 (.inr (0, true))) := by
          unfold nullF
          rw [qt, if_pos rfl, e1]
          show (if o1' = true then _ else _) = _
          rw [show o1' = true from bI_t c23]
          rfl
        rw [en]
        have hg := hg _ en
        rw [qt]
        refine gi_callv 3 (q := 75) C (dm_Mo_onNull 40 rfl) rfl my_Mo_markedSet lk_Mo_489 im_Mo_markedSet rfl (ww_markedSet HW1 0 true mkD hloc) Ha rfl rfl ⟨(Nat.le_of_ble_eq_true rfl), (Nat.le_of_ble_eq_true rfl)⟩ (Nat.le_of_ble_eq_true rfl) ⟨(Nat.le_of_ble_eq_true rfl), (Nat.le_of_ble_eq_true rfl)⟩ (fun r72 n72 h72 e72 => ?_)
        obtain ⟨rfl, rfl, S3, J3, F3, G3, HW3⟩ := e72
        have H := HW3.1
        obtain ⟨fs, Ha, Hf⟩ := id H.1
        have ho := HW3.2.1
        refine gi_aload_n (q := 76) (i := 0) C (dm_Mo_onNull 41 rfl) rfl rfl rfl ?_
        refine gi_iload_n (q := 77) (i := 2) C (dm_Mo_onNull 42 rfl) rfl rfl rfl ?_
        refine gi_callv 1 (q := 80) C (dm_Mo_onNull 43 rfl) rfl my_Mo_comeTo lk_Mo_434 im_Mo_comeTo rfl (ww_comeTo HW3 B hmd hm hi hx hL hg) Ha rfl rfl ⟨(Nat.le_of_ble_eq_true rfl), (Nat.le_of_ble_eq_true rfl)⟩ (Nat.le_of_ble_eq_true rfl) ⟨(Nat.le_of_ble_eq_true rfl), (Nat.le_of_ble_eq_true rfl)⟩ (fun r77 n77 h77 e77 => ?_)
        obtain ⟨rfl, rfl, S4, J4, F4, G4, HW4, fz4⟩ := e77
        have H := HW4.1
        obtain ⟨fs, Ha, Hf⟩ := id H.1
        have ho := HW4.2.1
        refine gi_vret C hr (dm_Mo_onNull 44 rfl) ?_
        exact ⟨rfl, rfl, HW4.end⟩
    · refine gi_goto (tgt := 41) C (dm_Mo_onNull 14 rfl) (by decide) ?_
      refine gi_vret C hr (dm_Mo_onNull 21 rfl) ?_
      have en : nullF q (n0 - 1) f = none := by
        unfold nullF
        rw [show q = true from bI_t c11, if_pos rfl, e1]
        show (if o1' = true then _ else _) = _
        rw [bI_fa c23]
        rfl
      rw [en]
      exact ⟨rfl, rfl, HW1.end⟩
theorem shl1_and {s : Nat} (hs : s < 32) : (1 : Int32) <<< (nI s &&& 31) = shl1 s := by
  unfold shl1
  have e : nI s &&& 31 = nI s := by
    have := nI_and s 31
    rw [show (31 : Int32) = nI 31 from rfl, this]
    congr 1
    have : s &&& 31 = s % 32 := Nat.and_two_pow_sub_one_eq_mod s 5
    rw [this]
    omega
  rw [e]
  rfl
set_option maxHeartbeats 4000000 in
set_option maxRecDepth 100000 in
theorem ww_make (HW : WW M k P sh md Ff κ h S0 J0 F0 G0 Z L n0 f S J F G y) (B : Built k P sh (siN k P sh) (wdF k P)) (hmd : md ≤ 2) {a : Nat} (hm : a < k) (hi : i < pN P 5 a) (hx : sh (60 * a + i) = some x) (hL : pN P 2 a = L) {X : Sp} {s p : Nat} (hn : L + 1 ≤ n0) (e1 : (f (n0 - 1)).1 = .inl X) (okX : okS X) (hp : p < 480) (hs : 1 ≤ s ∧ s < 25) (e15 : F 15 p = nI s) (mkD : (f (n0 - 1)).2 = -1 ∨ ∃ j, j < L ∧ (f (n0 - 1)).2 = nI j) (hloc : ∀ i, i < L → (f i).2 = -1) (hg : ∀ z, withinS X 0 2147483647 = some z → tyG P a x n0 (upF (tellF (n0 - 1) f (f (n0 - 1)).2 (.inl z)) (n0 - 1) (.inr (shl1 s, false), -1))) : gi_T l V y_Mo_make b_Mo_make 11 none 4 94 0 0 [.ref M, .int (nI p), .int (nI (60 * a + i))] n y (fun v n' h' => v = none ∧ n' = n ∧ spP M k P sh md Ff κ h S0 J0 F0 G0 (match withinS X 0 2147483647 with | none => Z | some z => comeM md (grF (wdF k P)) (comeM md (grF (wdF k P)) (comeM md (grF (wdF k P)) Z (480 + s, 1, one (.inl z))) (505 + s, 1, one (.inl (0, 0, 0)))) (60 * a + i, n0, upF (tellF (n0 - 1) f (f (n0 - 1)).2 (.inl z)) (n0 - 1) (.inr (shl1 s, false), -1))) h') := by
  refine gi_enter (by decide) (Nat.le_of_ble_eq_true rfl) ?_
  intro _ _ _ _ _ _ _ _ C hr hnm
  have H := HW.1
  obtain ⟨fs, Ha, Hf⟩ := id H.1
  have ho := HW.2.1
  obtain ⟨f1, f2, f3, f4⟩ := HW.fb
  refine gi_aload_n (q := 1) (i := 0) C (dm_Mo_make 0 rfl) rfl rfl rfl ?_
  refine gi_dup (q := 2) C (dm_Mo_make 1 rfl) rfl rfl ?_
  refine gi_get (q := 5) C (dm_Mo_make 2 rfl) rfl fl_Mo_357 Ha (mo_g58 Hf) ?_
  refine gi_iconst (q := 6) (v := 1) C (dm_Mo_make 3 rfl) rfl (by decide) ?_
  refine gi_isub (q := 7) C (dm_Mo_make 4 rfl) rfl ?_
  rw [HW.fb.2.2.2, nI_m1 (by omega), show n0 - L + 6 - 1 = n0 - 1 - L + 6 by omega]
  refine gi_put (q := 10) C (dm_Mo_make 5 rfl) rfl fl_Mo_357 fp_Mo_58 Ha (by rw [Hf.1]; decide) rfl rfl ?_
  refine gi_genM (H.putI Ha Hf (by decide) rfl) (ho.up (by omega) (by omega)) (fun y H ho => ?_)
  obtain ⟨fs, Ha, Hf⟩ := id H.1
  have HW1 := HW.top (n1 := n0 - 1) (by omega) (by omega) H ho
  have f41 := HW1.fb.2.2.2
  have sp := HW.sp (show n0 - 1 < n0 by omega) e1
  have sm := HW.mk (show n0 - 1 < n0 by omega) (by omega)
  rw [sl_t (by omega)] at sp sm
  refine gi_aload_n (q := 11) (i := 0) C (dm_Mo_make 6 rfl) rfl rfl rfl ?_
  refine gi_aload_n (q := 12) (i := 0) C (dm_Mo_make 7 rfl) rfl rfl rfl ?_
  refine gi_get (q := 15) C (dm_Mo_make 8 rfl) rfl fl_Mo_104 Ha (mo_g52 Hf) ?_
  refine gi_aload_n (q := 16) (i := 0) C (dm_Mo_make 9 rfl) rfl rfl rfl ?_
  refine gi_get (q := 19) C (dm_Mo_make 10 rfl) rfl fl_Mo_357 Ha (mo_g58 Hf) ?_
  rw [f41]
  refine gi_lald (q := 20) C (dm_Mo_make 11 rfl) rfl rfl (mo_a52 H) (inN (show n0 - 1 - L + 6 < 14 by omega) (by decide)) ?_
  rw [nI_clamp (show n0 - 1 - L + 6 < 2 ^ 31 by omega), sp.1]
  refine gi_aload_n (q := 21) (i := 0) C (dm_Mo_make 12 rfl) rfl rfl rfl ?_
  refine gi_get (q := 24) C (dm_Mo_make 13 rfl) rfl fl_Mo_107 Ha (mo_g53 Hf) ?_
  refine gi_aload_n (q := 25) (i := 0) C (dm_Mo_make 14 rfl) rfl rfl rfl ?_
  refine gi_get (q := 28) C (dm_Mo_make 15 rfl) rfl fl_Mo_357 Ha (mo_g58 Hf) ?_
  rw [f41]
  refine gi_lald (q := 29) C (dm_Mo_make 16 rfl) rfl rfl (mo_a53 H) (inN (show n0 - 1 - L + 6 < 14 by omega) (by decide)) ?_
  rw [nI_clamp (show n0 - 1 - L + 6 < 2 ^ 31 by omega), sp.2.1]
  refine gi_aload_n (q := 30) (i := 0) C (dm_Mo_make 17 rfl) rfl rfl rfl ?_
  refine gi_get (q := 33) C (dm_Mo_make 18 rfl) rfl fl_Mo_110 Ha (mo_g54 Hf) ?_
  refine gi_aload_n (q := 34) (i := 0) C (dm_Mo_make 19 rfl) rfl rfl rfl ?_
  refine gi_get (q := 37) C (dm_Mo_make 20 rfl) rfl fl_Mo_357 Ha (mo_g58 Hf) ?_
  rw [f41]
  refine gi_lald (q := 38) C (dm_Mo_make 21 rfl) rfl rfl (mo_a54 H) (inN (show n0 - 1 - L + 6 < 14 by omega) (by decide)) ?_
  rw [nI_clamp (show n0 - 1 - L + 6 < 2 ^ 31 by omega), sp.2.2]
  refine gi_lconst (q := 39) (v := 0) C (dm_Mo_make 22 rfl) rfl (by decide) ?_
  refine gi_ldc2 (q := 42) C (dm_Mo_make 23 rfl) rfl kc_Mo_280 ?_
  rw [show (0 : Int64) = eL 0 from rfl, show (2147483647 : Int64) = eL 2147483647 from rfl]
  refine gi_callv 5 (q := 45) C (dm_Mo_make 24 rfl) rfl my_Mo_within lk_Mo_317 im_Mo_within rfl (ww_within HW1 X 0 2147483647 okX (by decide) (by decide) (by decide) (by decide)) Ha rfl rfl ⟨(Nat.le_of_ble_eq_true rfl), (Nat.le_of_ble_eq_true rfl)⟩ (Nat.le_of_ble_eq_true rfl) ⟨(Nat.le_of_ble_eq_true rfl), (Nat.le_of_ble_eq_true rfl)⟩ (fun r42 n42 h42 e42 => ?_)
  obtain ⟨rfl, rfl, S2, J2, HW2, rs2⟩ := e42
  have H := HW2.1
  obtain ⟨fs, Ha, Hf⟩ := id H.1
  have ho := HW2.2.1
  refine gi_if_ne (q := 48) (tgt := 49) C (dm_Mo_make 25 rfl) rfl (by decide) (fun c45 => ?_) (fun c45 => ?_)
  · obtain ⟨z, ez⟩ : ∃ z, withinS X 0 2147483647 = some z := Option.isSome_iff_exists.mp (bI_t c45)
    have rs2 := rsJ (rs2 _ ez)
    have okz := (within_ok okX ez).1
    rw [ez]
    have hg := hg z ez
    have f42 := HW2.fb.2.2.2
    refine gi_aload_n (q := 50) (i := 0) C (dm_Mo_make 27 rfl) rfl rfl rfl ?_
    refine gi_get (q := 53) C (dm_Mo_make 28 rfl) rfl fl_Mo_242 Ha (mo_g22 Hf) ?_
    rw [rs2.1]
    refine gi_lstore_n (q := 54) (i := 3) C (dm_Mo_make 29 rfl) rfl rfl (Nat.le_of_ble_eq_true rfl) ?_
    refine gi_aload_n (q := 55) (i := 0) C (dm_Mo_make 30 rfl) rfl rfl rfl ?_
    refine gi_get (q := 58) C (dm_Mo_make 31 rfl) rfl fl_Mo_246 Ha (mo_g23 Hf) ?_
    rw [rs2.2.1]
    refine gi_lstore (q := 60) C (dm_Mo_make 32 rfl) rfl (Nat.le_of_ble_eq_true rfl) ?_
    refine gi_aload_n (q := 61) (i := 0) C (dm_Mo_make 33 rfl) rfl rfl rfl ?_
    refine gi_get (q := 64) C (dm_Mo_make 34 rfl) rfl fl_Mo_249 Ha (mo_g24 Hf) ?_
    rw [rs2.2.2]
    refine gi_lstore (q := 66) C (dm_Mo_make 35 rfl) rfl (Nat.le_of_ble_eq_true rfl) ?_
    refine gi_aload_n (q := 67) (i := 0) C (dm_Mo_make 36 rfl) rfl rfl rfl ?_
    refine gi_get (q := 70) C (dm_Mo_make 37 rfl) rfl fl_Mo_119 Ha (mo_g57 Hf) ?_
    refine gi_aload_n (q := 71) (i := 0) C (dm_Mo_make 38 rfl) rfl rfl rfl ?_
    refine gi_get (q := 74) C (dm_Mo_make 39 rfl) rfl fl_Mo_357 Ha (mo_g58 Hf) ?_
    rw [f42]
    refine gi_iald (q := 75) C (dm_Mo_make 40 rfl) rfl rfl (mo_a57 H) (inN (show n0 - 1 - L + 6 < 14 by omega) (by decide)) ?_
    rw [nI_clamp (show n0 - 1 - L + 6 < 2 ^ 31 by omega), sm]
    refine gi_istore (q := 77) C (dm_Mo_make 41 rfl) rfl (Nat.le_of_ble_eq_true rfl) ?_
    refine gi_aload_n (q := 78) (i := 0) C (dm_Mo_make 42 rfl) rfl rfl rfl ?_
    refine gi_get (q := 81) C (dm_Mo_make 43 rfl) rfl fl_Mo_48 Ha (mo_g15 Hf) ?_
    refine gi_iload_n (q := 82) (i := 1) C (dm_Mo_make 44 rfl) rfl rfl rfl ?_
    refine gi_iald (q := 83) C (dm_Mo_make 45 rfl) rfl rfl (mo_a15 H) (inN (show p < 480 by omega) (by decide)) ?_
    rw [nI_clamp (show p < 2 ^ 31 by omega), e15, show s = tix (480 + s) from by unfold tix; rw [if_pos (by omega)]; omega]
    refine gi_istore (q := 85) C (dm_Mo_make 46 rfl) rfl (Nat.le_of_ble_eq_true rfl) ?_
    refine gi_aload_n (q := 86) (i := 0) C (dm_Mo_make 47 rfl) rfl rfl rfl ?_
    refine gi_iload (q := 88) C (dm_Mo_make 48 rfl) rfl rfl ?_
    refine gi_lload_n (q := 89) (i := 3) C (dm_Mo_make 49 rfl) rfl rfl rfl ?_
    refine gi_lload (q := 91) C (dm_Mo_make 50 rfl) rfl rfl ?_
    refine gi_lload (q := 93) C (dm_Mo_make 51 rfl) rfl rfl ?_
    refine gi_callv 4 (q := 96) C (dm_Mo_make 52 rfl) rfl my_Mo_tell lk_Mo_470 im_Mo_tell rfl (ww_tell HW2 (t := 480 + s) hmd (by omega) (by omega) (okC_one (v := .inl z) (by omega) (by omega) okz rfl) okz rfl) Ha rfl rfl ⟨(Nat.le_of_ble_eq_true rfl), (Nat.le_of_ble_eq_true rfl)⟩ (Nat.le_of_ble_eq_true rfl) ⟨(Nat.le_of_ble_eq_true rfl), (Nat.le_of_ble_eq_true rfl)⟩ (fun r93 n93 h93 e93 => ?_)
    obtain ⟨rfl, rfl, S3, J3, F3, G3, HW3, fz3⟩ := e93
    have H := HW3.1
    obtain ⟨fs, Ha, Hf⟩ := id H.1
    have ho := HW3.2.1
    refine gi_aload_n (q := 97) (i := 0) C (dm_Mo_make 53 rfl) rfl rfl rfl ?_
    refine gi_bipush (q := 99) (v := 32) C (dm_Mo_make 54 rfl) rfl (by decide) ?_
    refine gi_iload (q := 101) C (dm_Mo_make 55 rfl) rfl rfl ?_
    rw [← show s = tix (480 + s) from by unfold tix; rw [if_pos (by omega)]; omega]
    refine gi_iadd (q := 102) C (dm_Mo_make 56 rfl) rfl ?_
    rw [show (32 : Int32) = nI 32 from rfl, nI_add, show 32 + s = tix (505 + s) from by unfold tix; rw [if_neg (by omega), if_pos (by omega)]; omega]
    refine gi_lconst (q := 103) (v := 0) C (dm_Mo_make 57 rfl) rfl (by decide) ?_
    refine gi_lconst (q := 104) (v := 0) C (dm_Mo_make 58 rfl) rfl (by decide) ?_
    refine gi_lconst (q := 105) (v := 0) C (dm_Mo_make 59 rfl) rfl (by decide) ?_
    rw [show (0 : Int64) = eL 0 from rfl]
    refine gi_callv 4 (q := 108) C (dm_Mo_make 60 rfl) rfl my_Mo_tell lk_Mo_470 im_Mo_tell rfl (ww_tell HW3 (z := (0, 0, 0)) (t := 505 + s) hmd (by omega) (by omega) (okC_one (v := .inl (0, 0, 0)) (by omega) (by omega) okS0 rfl) okS0 rfl) Ha rfl rfl ⟨(Nat.le_of_ble_eq_true rfl), (Nat.le_of_ble_eq_true rfl)⟩ (Nat.le_of_ble_eq_true rfl) ⟨(Nat.le_of_ble_eq_true rfl), (Nat.le_of_ble_eq_true rfl)⟩ (fun r105 n105 h105 e105 => ?_)
    obtain ⟨rfl, rfl, S4, J4, F4, G4, HW4, fz4⟩ := e105
    have H := HW4.1
    obtain ⟨fs, Ha, Hf⟩ := id H.1
    have ho := HW4.2.1
    refine gi_aload_n (q := 109) (i := 0) C (dm_Mo_make 61 rfl) rfl rfl rfl ?_
    refine gi_iload (q := 111) C (dm_Mo_make 62 rfl) rfl rfl ?_
    refine gi_lload_n (q := 112) (i := 3) C (dm_Mo_make 63 rfl) rfl rfl rfl ?_
    refine gi_lload (q := 114) C (dm_Mo_make 64 rfl) rfl rfl ?_
    refine gi_lload (q := 116) C (dm_Mo_make 65 rfl) rfl rfl ?_
    refine gi_callv 4 (q := 119) C (dm_Mo_make 66 rfl) rfl my_Mo_markedSpan lk_Mo_486 im_Mo_markedSpan rfl (ww_markedSpan HW4 z mkD hloc) Ha rfl rfl ⟨(Nat.le_of_ble_eq_true rfl), (Nat.le_of_ble_eq_true rfl)⟩ (Nat.le_of_ble_eq_true rfl) ⟨(Nat.le_of_ble_eq_true rfl), (Nat.le_of_ble_eq_true rfl)⟩ (fun r116 n116 h116 e116 => ?_)
    obtain ⟨rfl, rfl, S5, J5, F5, G5, HW5⟩ := e116
    have H := HW5.1
    obtain ⟨fs, Ha, Hf⟩ := id H.1
    have ho := HW5.2.1
    refine gi_aload_n (q := 120) (i := 0) C (dm_Mo_make 67 rfl) rfl rfl rfl ?_
    refine gi_iconst (q := 121) (v := 1) C (dm_Mo_make 68 rfl) rfl (by decide) ?_
    refine gi_iload (q := 123) C (dm_Mo_make 69 rfl) rfl rfl ?_
    refine gi_ishl (q := 124) C (dm_Mo_make 70 rfl) rfl ?_
    refine gi_iconst (q := 125) (v := 0) C (dm_Mo_make 71 rfl) rfl (by decide) ?_
    rw [shl1_and (show s < 32 by omega)]
    refine gi_callv 2 (q := 128) C (dm_Mo_make 72 rfl) rfl my_Mo_pushSet lk_Mo_441 im_Mo_pushSet rfl (ww_pushSet HW5 (shl1 s) false (by omega)) Ha rfl rfl ⟨(Nat.le_of_ble_eq_true rfl), (Nat.le_of_ble_eq_true rfl)⟩ (Nat.le_of_ble_eq_true rfl) ⟨(Nat.le_of_ble_eq_true rfl), (Nat.le_of_ble_eq_true rfl)⟩ (fun r125 n125 h125 e125 => ?_)
    obtain ⟨rfl, rfl, S6, J6, F6, G6, HW6⟩ := e125
    have H := HW6.1
    obtain ⟨fs, Ha, Hf⟩ := id H.1
    have ho := HW6.2.1
    rw [show n0 - 1 + 1 = n0 by omega] at HW6
    refine gi_aload_n (q := 129) (i := 0) C (dm_Mo_make 73 rfl) rfl rfl rfl ?_
    refine gi_iload_n (q := 130) (i := 2) C (dm_Mo_make 74 rfl) rfl rfl rfl ?_
    refine gi_callv 1 (q := 133) C (dm_Mo_make 75 rfl) rfl my_Mo_comeTo lk_Mo_434 im_Mo_comeTo rfl (ww_comeTo HW6 B hmd hm hi hx hL hg) Ha rfl rfl ⟨(Nat.le_of_ble_eq_true rfl), (Nat.le_of_ble_eq_true rfl)⟩ (Nat.le_of_ble_eq_true rfl) ⟨(Nat.le_of_ble_eq_true rfl), (Nat.le_of_ble_eq_true rfl)⟩ (fun r130 n130 h130 e130 => ?_)
    obtain ⟨rfl, rfl, S7, J7, F7, G7, HW7, fz7⟩ := e130
    have H := HW7.1
    obtain ⟨fs, Ha, Hf⟩ := id H.1
    have ho := HW7.2.1
    refine gi_vret C hr (dm_Mo_make 76 rfl) ?_
    exact ⟨rfl, rfl, HW7.end⟩
  · refine gi_vret C hr (dm_Mo_make 26 rfl) ?_
    have en : withinS X 0 2147483647 = none := by
      cases e : withinS X 0 2147483647 with
      | none => rfl
      | some u => rw [e] at c45; exact absurd (bI_fa c45) (by simp)
    rw [en]
    exact ⟨rfl, rfl, HW2.end⟩
end RC9
