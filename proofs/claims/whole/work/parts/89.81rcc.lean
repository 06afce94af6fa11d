-- needs: 89.80
section RCC
variable {l : Launch} {V : gi_V} {n : Nat} {h h' : gi_H} {M k m i : Nat} {P : Pm} {x : Sh} {sh : Nat → Option Sh} {S S' : Nat → Int32} {J J' : Nat → Int64} {F F' : Nat → Nat → Int32} {G G' : Nat → Nat → Int64} {f g : Nat → Sl} {n0 : Nat} {r : Rw} {Ff : Fa} {Z : Fa × Bool} {md p t : Nat} {S0 S1 S2 : Nat → Int32} {J0 J1 J2 : Nat → Int64} {F0 F1 F2 : Nat → Nat → Int32} {G0 G1 G2 : Nat → Nat → Int64} {y y' : gi_H} {L : Nat} {κ : (Nat → Ce) × Int32} {c : Nat}
theorem WW.kp (H : WW M k P sh md Ff κ h S0 J0 F0 G0 Z L n0 f S J F G y) (H' : mo_at M S' J F' G' y') (ho : outM M y y') (a : frK S S' F F' G G') : WW M k P sh md Ff (cK F' G', S' 66) h S0 J0 F0 G0 Z L n0 f S' J F' G' y' := by
  obtain ⟨-, h2, h3, h4, h5, h6⟩ := H
  exact ⟨H', h2.tr ho, ⟨h3.1.tr a.yy, rfl, rfl⟩, h4.yy (J := J) (J' := J) a.yy, h5.nn a.nn, h6.rg a.rg⟩
theorem WW.wl {f' : Nat → Sl} {n1 L1 : Nat} (H : WW M k P sh md Ff κ h S0 J0 F0 G0 Z L n0 f S J F G y) (H' : mo_at M S' J F' G' y') (ho : outM M h y') (a : frW S S' F F' G G') (w' : wkR L1 n1 f' S' F' G') : WW M k P sh md Ff κ h S0 J0 F0 G0 Z L1 n1 f' S' J F' G' y' := by
  obtain ⟨-, h2, h3, h4, h5, h6⟩ := H
  exact ⟨H', ho, ⟨h3.1.tr a.yy, h3.2.cw a⟩, h4.yy (J := J) (J' := J) a.yy, h5.nn a.nn, w'⟩
theorem rd_ne {p : Nat} {n1 : Nat} {g : Nat → Sl} {wd : Nat → Bool} {t : Nat} (h : t ≠ p) : rdF md Ff (comeM md wd Z (p, n1, g)) t = rdF md Ff Z t := by
  unfold rdF
  split
  · rfl
  · unfold comeM
    split
    · rfl
    · exact come_ne h
/-- cells of a frame that is made -/
def lcR (g : Nat → Sl) (j : Nat) (c : Nat → Ce) (L : Nat) : Prop := ∀ q, q < j → q < L → ceA (g q).1 (c q)
theorem lcR.up {g : Nat → Sl} {j : Nat} {c c' : Nat → Ce} {d : Ce} (h : lcR g j c L) (e : c' = upO c j d) (a : j < L → ceA (g j).1 d) : lcR g (j + 1) c' L := fun q h1 h2 => by
  subst e
  by_cases z : q = j
  · subst z
    rw [upO_self]
    exact a h2
  · rw [upO_ne z]
    exact h q (by omega) h2
theorem lcR.wk {g : Nat → Sl} {j : Nat} (h : lcR g j (cW F G) L) (hj : L ≤ j) (h6 : L ≤ 6) (h58 : S 58 = 6) : wkR L L g S F G := ⟨by rw [h58, Nat.sub_self]; rfl, fun i hi => ⟨by rw [sl_lo hi]; exact h i (by omega) hi, fun z => absurd z (by omega)⟩, h6, Nat.le_refl _, by omega⟩
theorem cW_mk {s : Nat} {v : Int32} : cW (upA F 57 (upd (F 57) s v)) G = upO (cW F G) s ((cW F G s).1, (cW F G s).2.1, (cW F G s).2.2.1, (cW F G s).2.2.2.1, (cW F G s).2.2.2.2.1, v) := by
  funext j
  unfold upO
  by_cases z : j = s
  · subst z
    simp [cW, upA, upd_is]
  · simp [cW, upA, upd_is, z]
theorem ce_mk {v : Av} {d : Ce} {m : Int32} (h : ceA v d) : ceA v (d.1, d.2.1, d.2.2.1, d.2.2.2.1, d.2.2.2.2.1, m) := by cases v <;> exact h
set_option maxHeartbeats 4000000 in
set_option maxRecDepth 100000 in
theorem ww_returns1 (HW : WW M k P sh md Ff κ h S0 J0 F0 G0 Z L n0 f S J F G y) (W : wfP k P) (hmd : md ≤ 2) (hm : m < k) (e59 : S 59 = nI m) (hr4 : pN P 4 m = 1) {X : Sp} (hn : L + 1 ≤ n0) (e1 : (f (n0 - 1)).1 = .inl X) (okX : okS X) (okc : okC (tyF P sh) (534 + m, 1, one (f (n0 - 1)).1)) : gi_T l V y_Mo_returns b_Mo_returns 2 none 3 88 0 0 [.ref M] n y (fun v n' h' => v = none ∧ n' = n ∧ spP M k P sh md Ff κ h S0 J0 F0 G0 (comeM md (grF (wdF k P)) Z (534 + m, 1, one (f (n0 - 1)).1)) h') := by
  refine gi_enter (by decide) (Nat.le_of_ble_eq_true rfl) ?_
  intro _ _ _ _ _ _ _ _ C hr hnm
  have H := HW.1
  obtain ⟨fs, Ha, Hf⟩ := id H.1
  have ho := HW.2.1
  obtain ⟨f1, f2, f3, f4⟩ := HW.fb
  have w8 := W.k8
  have wm := wf_ar W hm
  have hP := HW.2.2.2.1.1
  have e4 := (wf_n W hm).2.2.1
  have etx : 72 + m = tix (534 + m) := by unfold tix; rw [if_neg (by omega), if_neg (by omega), if_neg (by omega)]; omega
  refine gi_bipush (q := 2) (v := 72) C (dm_Mo_returns 0 rfl) rfl (by decide) ?_
  refine gi_aload_n (q := 3) (i := 0) C (dm_Mo_returns 1 rfl) rfl rfl rfl ?_
  refine gi_get (q := 6) C (dm_Mo_returns 2 rfl) rfl fl_Mo_428 Ha (mo_g59 Hf) ?_
  rw [e59]
  refine gi_iadd (q := 7) C (dm_Mo_returns 3 rfl) rfl ?_
  rw [show (72 : Int32) = nI 72 from rfl, nI_add, etx]
  refine gi_istore_n (q := 8) (i := 1) C (dm_Mo_returns 4 rfl) rfl rfl (Nat.le_of_ble_eq_true rfl) ?_
  refine gi_aload_n (q := 9) (i := 0) C (dm_Mo_returns 5 rfl) rfl rfl rfl ?_
  refine gi_get (q := 12) C (dm_Mo_returns 6 rfl) rfl fl_Mo_19 Ha (mo_g4 Hf) ?_
  refine gi_aload_n (q := 13) (i := 0) C (dm_Mo_returns 7 rfl) rfl rfl rfl ?_
  refine gi_get (q := 16) C (dm_Mo_returns 8 rfl) rfl fl_Mo_428 Ha (mo_g59 Hf) ?_
  rw [e59]
  refine gi_iald (q := 17) C (dm_Mo_returns 9 rfl) rfl rfl (mo_a4 H) (inN (show m < 8 by omega) (by decide)) ?_
  rw [nI_clamp (show m < 2 ^ 31 by omega), hP 4 (by decide) (by decide), e4]
  refine gi_iconst (q := 18) (v := 1) C (dm_Mo_returns 10 rfl) rfl (by decide) ?_
  refine gi_icmp_ne (q := 21) (tgt := 62) C (dm_Mo_returns 11 rfl) rfl (by decide) (fun c18 => ?_) (fun c18 => ?_)
  · exact absurd (show nI (pN P 4 m) = 1 by rw [hr4]; rfl) c18
  · have sx := HW.sp (show n0 - 1 < n0 by omega) e1
    rw [sl_t (by omega)] at sx
    refine gi_aload_n (q := 22) (i := 0) C (dm_Mo_returns 12 rfl) rfl rfl rfl ?_
    refine gi_iload_n (q := 23) (i := 1) C (dm_Mo_returns 13 rfl) rfl rfl rfl ?_
    refine gi_aload_n (q := 24) (i := 0) C (dm_Mo_returns 14 rfl) rfl rfl rfl ?_
    refine gi_get (q := 27) C (dm_Mo_returns 15 rfl) rfl fl_Mo_104 Ha (mo_g52 Hf) ?_
    refine gi_aload_n (q := 28) (i := 0) C (dm_Mo_returns 16 rfl) rfl rfl rfl ?_
    refine gi_get (q := 31) C (dm_Mo_returns 17 rfl) rfl fl_Mo_357 Ha (mo_g58 Hf) ?_
    refine gi_iconst (q := 32) (v := 1) C (dm_Mo_returns 18 rfl) rfl (by decide) ?_
    refine gi_isub (q := 33) C (dm_Mo_returns 19 rfl) rfl ?_
    rw [HW.fb.2.2.2, nI_m1 (by omega), show n0 - L + 6 - 1 = n0 - 1 - L + 6 by omega]
    refine gi_lald (q := 34) C (dm_Mo_returns 20 rfl) rfl rfl (mo_a52 H) (inN (show n0 - 1 - L + 6 < 14 by omega) (by decide)) ?_
    rw [nI_clamp (show n0 - 1 - L + 6 < 2 ^ 31 by omega), sx.1]
    refine gi_aload_n (q := 35) (i := 0) C (dm_Mo_returns 21 rfl) rfl rfl rfl ?_
    refine gi_get (q := 38) C (dm_Mo_returns 22 rfl) rfl fl_Mo_107 Ha (mo_g53 Hf) ?_
    refine gi_aload_n (q := 39) (i := 0) C (dm_Mo_returns 23 rfl) rfl rfl rfl ?_
    refine gi_get (q := 42) C (dm_Mo_returns 24 rfl) rfl fl_Mo_357 Ha (mo_g58 Hf) ?_
    refine gi_iconst (q := 43) (v := 1) C (dm_Mo_returns 25 rfl) rfl (by decide) ?_
    refine gi_isub (q := 44) C (dm_Mo_returns 26 rfl) rfl ?_
    rw [HW.fb.2.2.2, nI_m1 (by omega), show n0 - L + 6 - 1 = n0 - 1 - L + 6 by omega]
    refine gi_lald (q := 45) C (dm_Mo_returns 27 rfl) rfl rfl (mo_a53 H) (inN (show n0 - 1 - L + 6 < 14 by omega) (by decide)) ?_
    rw [nI_clamp (show n0 - 1 - L + 6 < 2 ^ 31 by omega), sx.2.1]
    refine gi_aload_n (q := 46) (i := 0) C (dm_Mo_returns 28 rfl) rfl rfl rfl ?_
    refine gi_get (q := 49) C (dm_Mo_returns 29 rfl) rfl fl_Mo_110 Ha (mo_g54 Hf) ?_
    refine gi_aload_n (q := 50) (i := 0) C (dm_Mo_returns 30 rfl) rfl rfl rfl ?_
    refine gi_get (q := 53) C (dm_Mo_returns 31 rfl) rfl fl_Mo_357 Ha (mo_g58 Hf) ?_
    refine gi_iconst (q := 54) (v := 1) C (dm_Mo_returns 32 rfl) rfl (by decide) ?_
    refine gi_isub (q := 55) C (dm_Mo_returns 33 rfl) rfl ?_
    rw [HW.fb.2.2.2, nI_m1 (by omega), show n0 - L + 6 - 1 = n0 - 1 - L + 6 by omega]
    refine gi_lald (q := 56) C (dm_Mo_returns 34 rfl) rfl rfl (mo_a54 H) (inN (show n0 - 1 - L + 6 < 14 by omega) (by decide)) ?_
    rw [nI_clamp (show n0 - 1 - L + 6 < 2 ^ 31 by omega), sx.2.2]
    refine gi_callv 4 (q := 59) C (dm_Mo_returns 35 rfl) rfl my_Mo_tell lk_Mo_470 im_Mo_tell rfl (ww_tell HW (t := 534 + m) hmd (by omega) (by omega) okc okX (by unfold gvA; rw [if_neg (by decide)]; exact e1)) Ha rfl rfl ⟨(Nat.le_of_ble_eq_true rfl), (Nat.le_of_ble_eq_true rfl)⟩ (Nat.le_of_ble_eq_true rfl) ⟨(Nat.le_of_ble_eq_true rfl), (Nat.le_of_ble_eq_true rfl)⟩ (fun r56 n56 h56 e56 => ?_)
    obtain ⟨rfl, rfl, S2, J2, F2, G2, HW2, fz2⟩ := e56
    have H := HW2.1
    obtain ⟨fs, Ha, Hf⟩ := id H.1
    have ho := HW2.2.1
    refine gi_goto (tgt := 113) C (dm_Mo_returns 36 rfl) (by decide) ?_
    refine gi_vret C hr (dm_Mo_returns 68 rfl) ?_
    exact ⟨rfl, rfl, HW2.end⟩
set_option maxHeartbeats 4000000 in
set_option maxRecDepth 100000 in
theorem ww_returns2 (HW : WW M k P sh md Ff κ h S0 J0 F0 G0 Z L n0 f S J F G y) (W : wfP k P) (hmd : md ≤ 2) (hm : m < k) (e59 : S 59 = nI m) (hr4 : pN P 4 m = 2) {b : Int32} {q : Bool} (hn : L + 1 ≤ n0) (e1 : (f (n0 - 1)).1 = .inr (b, q)) (okc : okC (tyF P sh) (534 + m, 1, one (f (n0 - 1)).1)) : gi_T l V y_Mo_returns b_Mo_returns 2 none 3 88 0 0 [.ref M] n y (fun v n' h' => v = none ∧ n' = n ∧ spP M k P sh md Ff κ h S0 J0 F0 G0 (comeM md (grF (wdF k P)) Z (534 + m, 1, one (f (n0 - 1)).1)) h') := by
  refine gi_enter (by decide) (Nat.le_of_ble_eq_true rfl) ?_
  intro _ _ _ _ _ _ _ _ C hr hnm
  have H := HW.1
  obtain ⟨fs, Ha, Hf⟩ := id H.1
  have ho := HW.2.1
  obtain ⟨f1, f2, f3, f4⟩ := HW.fb
  have w8 := W.k8
  have wm := wf_ar W hm
  have hP := HW.2.2.2.1.1
  have e4 := (wf_n W hm).2.2.1
  have etx : 72 + m = tix (534 + m) := by unfold tix; rw [if_neg (by omega), if_neg (by omega), if_neg (by omega)]; omega
  refine gi_bipush (q := 2) (v := 72) C (dm_Mo_returns 0 rfl) rfl (by decide) ?_
  refine gi_aload_n (q := 3) (i := 0) C (dm_Mo_returns 1 rfl) rfl rfl rfl ?_
  refine gi_get (q := 6) C (dm_Mo_returns 2 rfl) rfl fl_Mo_428 Ha (mo_g59 Hf) ?_
  rw [e59]
  refine gi_iadd (q := 7) C (dm_Mo_returns 3 rfl) rfl ?_
  rw [show (72 : Int32) = nI 72 from rfl, nI_add, etx]
  refine gi_istore_n (q := 8) (i := 1) C (dm_Mo_returns 4 rfl) rfl rfl (Nat.le_of_ble_eq_true rfl) ?_
  refine gi_aload_n (q := 9) (i := 0) C (dm_Mo_returns 5 rfl) rfl rfl rfl ?_
  refine gi_get (q := 12) C (dm_Mo_returns 6 rfl) rfl fl_Mo_19 Ha (mo_g4 Hf) ?_
  refine gi_aload_n (q := 13) (i := 0) C (dm_Mo_returns 7 rfl) rfl rfl rfl ?_
  refine gi_get (q := 16) C (dm_Mo_returns 8 rfl) rfl fl_Mo_428 Ha (mo_g59 Hf) ?_
  rw [e59]
  refine gi_iald (q := 17) C (dm_Mo_returns 9 rfl) rfl rfl (mo_a4 H) (inN (show m < 8 by omega) (by decide)) ?_
  rw [nI_clamp (show m < 2 ^ 31 by omega), hP 4 (by decide) (by decide), e4]
  refine gi_iconst (q := 18) (v := 1) C (dm_Mo_returns 10 rfl) rfl (by decide) ?_
  refine gi_icmp_ne (q := 21) (tgt := 62) C (dm_Mo_returns 11 rfl) rfl (by decide) (fun c18 => ?_) (fun c18 => ?_)
  · refine gi_aload_n (q := 63) (i := 0) C (dm_Mo_returns 37 rfl) rfl rfl rfl ?_
    refine gi_get (q := 66) C (dm_Mo_returns 38 rfl) rfl fl_Mo_19 Ha (mo_g4 Hf) ?_
    refine gi_aload_n (q := 67) (i := 0) C (dm_Mo_returns 39 rfl) rfl rfl rfl ?_
    refine gi_get (q := 70) C (dm_Mo_returns 40 rfl) rfl fl_Mo_428 Ha (mo_g59 Hf) ?_
    rw [e59]
    refine gi_iald (q := 71) C (dm_Mo_returns 41 rfl) rfl rfl (mo_a4 H) (inN (show m < 8 by omega) (by decide)) ?_
    rw [nI_clamp (show m < 2 ^ 31 by omega), hP 4 (by decide) (by decide), e4]
    refine gi_iconst (q := 72) (v := 2) C (dm_Mo_returns 42 rfl) rfl (by decide) ?_
    refine gi_icmp_ne (q := 75) (tgt := 105) C (dm_Mo_returns 43 rfl) rfl (by decide) (fun c72 => ?_) (fun c72 => ?_)
    · exact absurd (show nI (pN P 4 m) = 2 by rw [hr4]; rfl) c72
    · have sx := HW.st (show n0 - 1 < n0 by omega) e1
      rw [sl_t (by omega)] at sx
      refine gi_aload_n (q := 76) (i := 0) C (dm_Mo_returns 44 rfl) rfl rfl rfl ?_
      refine gi_iload_n (q := 77) (i := 1) C (dm_Mo_returns 45 rfl) rfl rfl rfl ?_
      refine gi_aload_n (q := 78) (i := 0) C (dm_Mo_returns 46 rfl) rfl rfl rfl ?_
      refine gi_get (q := 81) C (dm_Mo_returns 47 rfl) rfl fl_Mo_113 Ha (mo_g55 Hf) ?_
      refine gi_aload_n (q := 82) (i := 0) C (dm_Mo_returns 48 rfl) rfl rfl rfl ?_
      refine gi_get (q := 85) C (dm_Mo_returns 49 rfl) rfl fl_Mo_357 Ha (mo_g58 Hf) ?_
      refine gi_iconst (q := 86) (v := 1) C (dm_Mo_returns 50 rfl) rfl (by decide) ?_
      refine gi_isub (q := 87) C (dm_Mo_returns 51 rfl) rfl ?_
      rw [HW.fb.2.2.2, nI_m1 (by omega), show n0 - L + 6 - 1 = n0 - 1 - L + 6 by omega]
      refine gi_iald (q := 88) C (dm_Mo_returns 52 rfl) rfl rfl (mo_a55 H) (inN (show n0 - 1 - L + 6 < 14 by omega) (by decide)) ?_
      rw [nI_clamp (show n0 - 1 - L + 6 < 2 ^ 31 by omega), sx.1]
      refine gi_aload_n (q := 89) (i := 0) C (dm_Mo_returns 53 rfl) rfl rfl rfl ?_
      refine gi_get (q := 92) C (dm_Mo_returns 54 rfl) rfl fl_Mo_116 Ha (mo_g56 Hf) ?_
      refine gi_aload_n (q := 93) (i := 0) C (dm_Mo_returns 55 rfl) rfl rfl rfl ?_
      refine gi_get (q := 96) C (dm_Mo_returns 56 rfl) rfl fl_Mo_357 Ha (mo_g58 Hf) ?_
      refine gi_iconst (q := 97) (v := 1) C (dm_Mo_returns 57 rfl) rfl (by decide) ?_
      refine gi_isub (q := 98) C (dm_Mo_returns 58 rfl) rfl ?_
      rw [HW.fb.2.2.2, nI_m1 (by omega), show n0 - L + 6 - 1 = n0 - 1 - L + 6 by omega]
      refine gi_zald (q := 99) C (dm_Mo_returns 59 rfl) rfl rfl (mo_a56 H) (inN (show n0 - 1 - L + 6 < 14 by omega) (by decide)) ?_
      rw [nI_clamp (show n0 - 1 - L + 6 < 2 ^ 31 by omega), sx.2]
      refine gi_callv 3 (q := 102) C (dm_Mo_returns 60 rfl) rfl my_Mo_tellSet lk_Mo_495 im_Mo_tellSet rfl (ww_tellSet HW (t := 534 + m) hmd (by omega) (by omega) okc (by unfold gvA; rw [if_neg (by decide)]; exact e1)) Ha rfl rfl ⟨(Nat.le_of_ble_eq_true rfl), (Nat.le_of_ble_eq_true rfl)⟩ (Nat.le_of_ble_eq_true rfl) ⟨(Nat.le_of_ble_eq_true rfl), (Nat.le_of_ble_eq_true rfl)⟩ (fun r99 n99 h99 e99 => ?_)
      obtain ⟨rfl, rfl, S2, J2, F2, G2, HW2, fz2⟩ := e99
      have H := HW2.1
      obtain ⟨fs, Ha, Hf⟩ := id H.1
      have ho := HW2.2.1
      refine gi_goto (tgt := 113) C (dm_Mo_returns 61 rfl) (by decide) ?_
      refine gi_vret C hr (dm_Mo_returns 68 rfl) ?_
      exact ⟨rfl, rfl, HW2.end⟩
  · exact absurd c18 (by rw [hr4]; decide)
set_option maxHeartbeats 4000000 in
set_option maxRecDepth 100000 in
theorem ww_returns0 (HW : WW M k P sh md Ff κ h S0 J0 F0 G0 Z L n0 f S J F G y) (W : wfP k P) (hmd : md ≤ 2) (hm : m < k) (e59 : S 59 = nI m) (hr4 : pN P 4 m = 0) (okc : okC (tyF P sh) (534 + m, 0, f)) : gi_T l V y_Mo_returns b_Mo_returns 2 none 3 88 0 0 [.ref M] n y (fun v n' h' => v = none ∧ n' = n ∧ spP M k P sh md Ff κ h S0 J0 F0 G0 (comeM md (grF (wdF k P)) Z (534 + m, 0, f)) h') := by
  refine gi_enter (by decide) (Nat.le_of_ble_eq_true rfl) ?_
  intro _ _ _ _ _ _ _ _ C hr hnm
  have H := HW.1
  obtain ⟨fs, Ha, Hf⟩ := id H.1
  have ho := HW.2.1
  obtain ⟨f1, f2, f3, f4⟩ := HW.fb
  have w8 := W.k8
  have wm := wf_ar W hm
  have hP := HW.2.2.2.1.1
  have e4 := (wf_n W hm).2.2.1
  have etx : 72 + m = tix (534 + m) := by unfold tix; rw [if_neg (by omega), if_neg (by omega), if_neg (by omega)]; omega
  refine gi_bipush (q := 2) (v := 72) C (dm_Mo_returns 0 rfl) rfl (by decide) ?_
  refine gi_aload_n (q := 3) (i := 0) C (dm_Mo_returns 1 rfl) rfl rfl rfl ?_
  refine gi_get (q := 6) C (dm_Mo_returns 2 rfl) rfl fl_Mo_428 Ha (mo_g59 Hf) ?_
  rw [e59]
  refine gi_iadd (q := 7) C (dm_Mo_returns 3 rfl) rfl ?_
  rw [show (72 : Int32) = nI 72 from rfl, nI_add, etx]
  refine gi_istore_n (q := 8) (i := 1) C (dm_Mo_returns 4 rfl) rfl rfl (Nat.le_of_ble_eq_true rfl) ?_
  refine gi_aload_n (q := 9) (i := 0) C (dm_Mo_returns 5 rfl) rfl rfl rfl ?_
  refine gi_get (q := 12) C (dm_Mo_returns 6 rfl) rfl fl_Mo_19 Ha (mo_g4 Hf) ?_
  refine gi_aload_n (q := 13) (i := 0) C (dm_Mo_returns 7 rfl) rfl rfl rfl ?_
  refine gi_get (q := 16) C (dm_Mo_returns 8 rfl) rfl fl_Mo_428 Ha (mo_g59 Hf) ?_
  rw [e59]
  refine gi_iald (q := 17) C (dm_Mo_returns 9 rfl) rfl rfl (mo_a4 H) (inN (show m < 8 by omega) (by decide)) ?_
  rw [nI_clamp (show m < 2 ^ 31 by omega), hP 4 (by decide) (by decide), e4]
  refine gi_iconst (q := 18) (v := 1) C (dm_Mo_returns 10 rfl) rfl (by decide) ?_
  refine gi_icmp_ne (q := 21) (tgt := 62) C (dm_Mo_returns 11 rfl) rfl (by decide) (fun c18 => ?_) (fun c18 => ?_)
  · refine gi_aload_n (q := 63) (i := 0) C (dm_Mo_returns 37 rfl) rfl rfl rfl ?_
    refine gi_get (q := 66) C (dm_Mo_returns 38 rfl) rfl fl_Mo_19 Ha (mo_g4 Hf) ?_
    refine gi_aload_n (q := 67) (i := 0) C (dm_Mo_returns 39 rfl) rfl rfl rfl ?_
    refine gi_get (q := 70) C (dm_Mo_returns 40 rfl) rfl fl_Mo_428 Ha (mo_g59 Hf) ?_
    rw [e59]
    refine gi_iald (q := 71) C (dm_Mo_returns 41 rfl) rfl rfl (mo_a4 H) (inN (show m < 8 by omega) (by decide)) ?_
    rw [nI_clamp (show m < 2 ^ 31 by omega), hP 4 (by decide) (by decide), e4]
    refine gi_iconst (q := 72) (v := 2) C (dm_Mo_returns 42 rfl) rfl (by decide) ?_
    refine gi_icmp_ne (q := 75) (tgt := 105) C (dm_Mo_returns 43 rfl) rfl (by decide) (fun c72 => ?_) (fun c72 => ?_)
    · refine gi_aload_n (q := 106) (i := 0) C (dm_Mo_returns 62 rfl) rfl rfl rfl ?_
      refine gi_iload_n (q := 107) (i := 1) C (dm_Mo_returns 63 rfl) rfl rfl rfl ?_
      refine gi_lconst (q := 108) (v := 0) C (dm_Mo_returns 64 rfl) rfl (by decide) ?_
      refine gi_lconst (q := 109) (v := 0) C (dm_Mo_returns 65 rfl) rfl (by decide) ?_
      refine gi_lconst (q := 110) (v := 0) C (dm_Mo_returns 66 rfl) rfl (by decide) ?_
      rw [show (0 : Int64) = eL 0 from rfl]
      refine gi_callv 4 (q := 113) C (dm_Mo_returns 67 rfl) rfl my_Mo_tell lk_Mo_470 im_Mo_tell rfl (ww_tell HW (z := (0, 0, 0)) (t := 534 + m) hmd (by omega) (by omega) okc okS0 rfl) Ha rfl rfl ⟨(Nat.le_of_ble_eq_true rfl), (Nat.le_of_ble_eq_true rfl)⟩ (Nat.le_of_ble_eq_true rfl) ⟨(Nat.le_of_ble_eq_true rfl), (Nat.le_of_ble_eq_true rfl)⟩ (fun r110 n110 h110 e110 => ?_)
      obtain ⟨rfl, rfl, S2, J2, F2, G2, HW2, fz2⟩ := e110
      have H := HW2.1
      obtain ⟨fs, Ha, Hf⟩ := id H.1
      have ho := HW2.2.1
      refine gi_vret C hr (dm_Mo_returns 68 rfl) ?_
      exact ⟨rfl, rfl, HW2.end⟩
    · exact absurd c72 (by rw [hr4]; decide)
  · exact absurd c18 (by rw [hr4]; decide)
set_option maxHeartbeats 4000000 in
set_option maxRecDepth 100000 in
theorem c_Mo_root (B : Built k P sh (siN k P sh) (wdF k P)) (hmd : md ≤ 2) (hc : c < k) (hpg : pgR k P sh S F) (hD : mdR k P sh md Ff Z S F G) (H : mo_at M S J F G h) : gi_T l V y_Mo_root b_Mo_root 3 none 4 94 0 0 [.ref M, .int (nI c)] n h (fun v n' h' => v = none ∧ n' = n ∧ ∃ κ, spP M k P sh md Ff κ h S J F G (comeM md (grF (wdF k P)) Z (60 * c + 0, pN P 2 c, rtF P c)) h') := by
  refine gi_enter (by decide) (Nat.le_of_ble_eq_true rfl) ?_
  intro _ _ _ _ _ _ _ _ C hr hnm
  obtain ⟨fs, Ha, Hf⟩ := id H.1
  have ho : outM M h h := outM.rf
  have W := B.wf
  have w8 := W.k8
  have wm := wf_ar W hc
  have hP := hpg.1
  refine gi_iconst (q := 1) (v := 0) C (dm_Mo_root 0 rfl) rfl (by decide) ?_
  refine gi_istore_n (q := 2) (i := 2) C (dm_Mo_root 1 rfl) rfl rfl (Nat.le_of_ble_eq_true rfl) ?_
  refine gi_while (σ := Nat) (fun j => 14 - j) (fun j => [(2, .int (nI j)), (1, .int (nI c)), (0, .ref M)]) (fun _ => n) (fun _ => 0) (fun _ => 0) (fun j y' => j ≤ 14 ∧ ∃ F1 G1, mo_at M S J F1 G1 y' ∧ outM M h y' ∧ frW S S F F1 G G1 ∧ lcR (rtF P c) j (cW F1 G1) (pN P 2 c)) 0 ⟨Nat.zero_le _, F, G, H, ho, frW.rf, fun q h1 => absurd h1 (Nat.not_lt_zero _)⟩ ?_ (List.forall_mem_cons.mpr ⟨(by first | rfl | (simp [gi_look]; done)), List.forall_mem_cons.mpr ⟨(by first | rfl | (simp [gi_look]; done)), List.forall_mem_cons.mpr ⟨(by first | rfl | (simp [gi_look]; done)), fun _ h => absurd h List.not_mem_nil⟩⟩⟩) rfl rfl rfl
  rintro j y' ⟨hj, F1, G1, H1, o1, r1, l1⟩ ihj
  try dsimp only at *
  have H := H1
  obtain ⟨fs, Ha, Hf⟩ := id H.1
  have ho := o1
  refine gi_iload_n (q := 3) (i := 2) C (dm_Mo_root 2 rfl) rfl rfl rfl ?_
  refine gi_bipush (q := 5) (v := 14) C (dm_Mo_root 3 rfl) rfl (by decide) ?_
  refine gi_icmp_ge (q := 8) (tgt := 109) C (dm_Mo_root 4 rfl) rfl (by decide) (fun c5 => ?_) (fun c5 => ?_)
  · have jl : j = 14 := by
      rcases Nat.lt_or_ge j (14) with q | q
      · exact absurd c5 (Int32.not_le.mpr (nI_lt (b := 14) q (by omega)))
      · omega
    subst jl
    refine gi_aload_n (q := 110) (i := 0) C (dm_Mo_root 64 rfl) rfl rfl rfl ?_
    refine gi_bipush (q := 112) (v := 6) C (dm_Mo_root 65 rfl) rfl (by decide) ?_
    refine gi_put (q := 115) C (dm_Mo_root 66 rfl) rfl fl_Mo_357 fp_Mo_58 Ha (by rw [Hf.1]; decide) rfl rfl ?_
    refine gi_genM (H.putI Ha Hf (by decide) rfl) (ho.up (by omega) (by omega)) (fun y H ho => ?_)
    obtain ⟨fs, Ha, Hf⟩ := id H.1
    have wk9 : wkR (pN P 2 c) (pN P 2 c) (rtF P c) (upS S 58 6) F1 G1 := l1.wk (by omega) wm.2.1 rfl
    have r9 : frW S (upS S 58 6) F F1 G G1 := ⟨fun a q => by unfold upS; rw [if_neg q], r1.2.1, r1.2.2⟩
    have HW1 : WW M k P sh md Ff (cK F1 G1, upS S 58 6 66) h S J F G Z (pN P 2 c) (pN P 2 c) (rtF P c) (upS S 58 6) J F1 G1 y := ⟨H, ho, ⟨r9.yy, rfl, rfl⟩, hpg.yy (J := J) (J' := J) r9.yy, hD.nn r9.nn, wk9⟩
    refine gi_aload_n (q := 116) (i := 0) C (dm_Mo_root 67 rfl) rfl rfl rfl ?_
    refine gi_bipush (q := 118) (v := 60) C (dm_Mo_root 68 rfl) rfl (by decide) ?_
    refine gi_iload_n (q := 119) (i := 1) C (dm_Mo_root 69 rfl) rfl rfl rfl ?_
    refine gi_imul (q := 120) C (dm_Mo_root 70 rfl) rfl ?_
    rw [show (60 : Int32) = nI 60 from rfl, nI_ml]
    refine gi_callv 1 (q := 123) C (dm_Mo_root 71 rfl) rfl my_Mo_comeTo lk_Mo_434 im_Mo_comeTo rfl (ww_comeTo HW1 (i := 0) B hmd hc (B.first c hc).1 (B.first c hc).2 rfl rt_ty) Ha rfl rfl ⟨(Nat.le_of_ble_eq_true rfl), (Nat.le_of_ble_eq_true rfl)⟩ (Nat.le_of_ble_eq_true rfl) ⟨(Nat.le_of_ble_eq_true rfl), (Nat.le_of_ble_eq_true rfl)⟩ (fun r120 n120 h120 e120 => ?_)
    obtain ⟨rfl, rfl, S4, J4, F4, G4, HW4, fz4⟩ := e120
    have H := HW4.1
    obtain ⟨fs, Ha, Hf⟩ := id H.1
    have ho := HW4.2.1
    refine gi_vret C hr (dm_Mo_root 72 rfl) ?_
    exact ⟨rfl, rfl, _, HW4.end⟩
  · have jl : j < 14 := by
      rcases Nat.lt_or_ge j (14) with q | q
      · exact q
      · exact absurd (nI_le (a := 14) q (by omega)) c5
    refine gi_aload_n (q := 9) (i := 0) C (dm_Mo_root 5 rfl) rfl rfl rfl ?_
    refine gi_get (q := 12) C (dm_Mo_root 6 rfl) rfl fl_Mo_119 Ha (mo_g57 Hf) ?_
    refine gi_iload_n (q := 13) (i := 2) C (dm_Mo_root 7 rfl) rfl rfl rfl ?_
    refine gi_iconst (q := 14) (v := -1) C (dm_Mo_root 8 rfl) rfl (by decide) ?_
    refine gi_iast (q := 15) C (dm_Mo_root 9 rfl) rfl rfl (mo_a57 H) (inN jl (by decide)) ?_
    refine gi_genM (H.setI (p := 33) (k := 57) (by decide) rfl rfl (by decide) rfl (by omega)) (ho.up (by omega) (by omega)) (fun y H ho => ?_)
    obtain ⟨fs, Ha, Hf⟩ := id H.1
    rw [nI_clamp (show j < 2 ^ 31 by omega)] at H
    have ck2 := cW_mk (F := F1) (G := G1) (s := j) (v := -1)
    obtain ⟨F2, eF2⟩ : ∃ F2, F2 = upA F1 57 (upd (F1 57) j (-1)) := ⟨_, rfl⟩
    rw [← eF2] at H ck2
    have rk : frW S S F1 F2 G1 G1 := ⟨fun _ _ => rfl, fun a _ _ h3 => by rw [eF2, upA_n h3], fun _ _ _ _ => rfl⟩
    have hP2 : prF P F2 := fun a q1 q2 => by rw [rk.2.1 a (by omega) (by omega) (by omega), r1.2.1 a (by omega) (by omega) (by omega)]; exact hP a q1 q2
    refine gi_iload_n (q := 16) (i := 2) C (dm_Mo_root 10 rfl) rfl rfl rfl ?_
    refine gi_aload_n (q := 17) (i := 0) C (dm_Mo_root 11 rfl) rfl rfl rfl ?_
    refine gi_get (q := 20) C (dm_Mo_root 12 rfl) rfl fl_Mo_13 Ha (mo_g2 Hf) ?_
    refine gi_iload_n (q := 21) (i := 1) C (dm_Mo_root 13 rfl) rfl rfl rfl ?_
    refine gi_iald (q := 22) C (dm_Mo_root 14 rfl) rfl rfl (mo_a2 H) (inN (show c < 8 by omega) (by decide)) ?_
    rw [nI_clamp (show c < 2 ^ 31 by omega), hP2 2 (by decide) (by decide), (wf_n W hc).2.1]
    refine gi_icmp_lt (q := 25) (tgt := 36) C (dm_Mo_root 15 rfl) rfl (by decide) (fun c22 => ?_) (fun c22 => ?_)
    · have j2 : j < pN P 2 c := by
        have q := c22
        rw [nI_ltP (by omega) (by omega)] at q
        exact q
      refine gi_aload_n (q := 37) (i := 0) C (dm_Mo_root 23 rfl) rfl rfl rfl ?_
      refine gi_iload_n (q := 38) (i := 1) C (dm_Mo_root 24 rfl) rfl rfl rfl ?_
      refine gi_iload_n (q := 39) (i := 2) C (dm_Mo_root 25 rfl) rfl rfl rfl ?_
      refine gi_callv 2 (q := 42) C (dm_Mo_root 26 rfl) rfl my_Mo_kindOf lk_Mo_207 im_Mo_kindOf rfl (c_Mo_kindOf W hc (show j < 8 by omega) hP2 H) Ha rfl rfl ⟨(Nat.le_of_ble_eq_true rfl), (Nat.le_of_ble_eq_true rfl)⟩ (Nat.le_of_ble_eq_true rfl) ⟨(Nat.le_of_ble_eq_true rfl), (Nat.le_of_ble_eq_true rfl)⟩ (fun r39 n39 h39 e39 => ?_)
      obtain ⟨rfl, q39, u39⟩ := e39
      rw [q39, u39]
      refine gi_iconst (q := 43) (v := 1) C (dm_Mo_root 27 rfl) rfl (by decide) ?_
      refine gi_icmp_ne (q := 46) (tgt := 70) C (dm_Mo_root 28 rfl) rfl (by decide) (fun c43 => ?_) (fun c43 => ?_)
      · refine gi_iload_n (q := 71) (i := 2) C (dm_Mo_root 43 rfl) rfl rfl rfl ?_
        refine gi_aload_n (q := 72) (i := 0) C (dm_Mo_root 44 rfl) rfl rfl rfl ?_
        refine gi_get (q := 75) C (dm_Mo_root 45 rfl) rfl fl_Mo_7 Ha (mo_g1 Hf) ?_
        refine gi_iload_n (q := 76) (i := 1) C (dm_Mo_root 46 rfl) rfl rfl rfl ?_
        refine gi_iald (q := 77) C (dm_Mo_root 47 rfl) rfl rfl (mo_a1 H) (inN (show c < 8 by omega) (by decide)) ?_
        rw [nI_clamp (show c < 2 ^ 31 by omega), hP2 1 (by decide) (by decide), (wf_n W hc).1]
        refine gi_icmp_ge (q := 80) (tgt := 95) C (dm_Mo_root 48 rfl) rfl (by decide) (fun c77 => ?_) (fun c77 => ?_)
        · refine gi_aload_n (q := 96) (i := 0) C (dm_Mo_root 56 rfl) rfl rfl rfl ?_
          refine gi_iload_n (q := 97) (i := 2) C (dm_Mo_root 57 rfl) rfl rfl rfl ?_
          refine gi_lconst (q := 98) (v := 0) C (dm_Mo_root 58 rfl) rfl (by decide) ?_
          refine gi_lconst (q := 99) (v := 0) C (dm_Mo_root 59 rfl) rfl (by decide) ?_
          refine gi_lconst (q := 100) (v := 0) C (dm_Mo_root 60 rfl) rfl (by decide) ?_
          refine gi_callv 4 (q := 103) C (dm_Mo_root 61 rfl) rfl my_Mo_span lk_Mo_366 im_Mo_span rfl (c_Mo_span jl 0 0 0 H) Ha rfl rfl ⟨(Nat.le_of_ble_eq_true rfl), (Nat.le_of_ble_eq_true rfl)⟩ (Nat.le_of_ble_eq_true rfl) ⟨(Nat.le_of_ble_eq_true rfl), (Nat.le_of_ble_eq_true rfl)⟩ (fun r100 n100 h100 e100 => ?_)
          obtain ⟨rfl, rfl, F3, G3, H3, o3, r3, c3⟩ := e100
          have kd : kdB P c j = false := by
            cases e9 : kdB P c j with
            | false => rfl
            | true => rw [e9] at c43; exact absurd rfl c43
          have j1 : ¬ j < pN P 1 c := by
            have q := c77
            rw [nI_leP (by omega) (by omega)] at q
            omega
          have ck : lcR (rtF P c) (j + 1) (cW F3 G3) (pN P 2 c) := by
            refine l1.up (d := (0, 0, 0, 0, 0, (cW F2 G1 j).2.2.2.2.2)) ?_ (fun q9 => ?_)
            · rw [c3]
              funext q
              have z9 := congrFun ck2 q
              unfold upO at z9 ⊢
              by_cases z : q = j
              · rw [if_pos z, if_pos z]
              · rw [if_neg z, if_neg z]
                rw [if_neg z] at z9
                exact z9
            · show ceA (if kdB P c j = true then _ else _ : Sl).1 _
              rw [if_neg (by rw [kd]; decide)]
              show ceA (.inl (if j < pN P 1 c then allS else (0, 0, 0))) _
              rw [if_neg j1]
              exact ⟨rfl, rfl, rfl⟩
          refine gi_iinc (q := 106) (v := 1) C (dm_Mo_root 62 rfl) rfl rfl (by decide) (Nat.le_of_ble_eq_true rfl) ?_
          refine gi_goto (tgt := 2) C (dm_Mo_root 63 rfl) (by decide) ?_
          refine gi_close (ihj (j + 1) _ ⟨jl, F3, G3, H3, ho.tr o3, r1.tr (rk.tr r3), ck⟩ (by omega)) (List.forall_mem_cons.mpr ⟨(by first | rfl | (simp [gi_look, nI_1]; done)), List.forall_mem_cons.mpr ⟨(by first | rfl | (simp [gi_look, nI_1]; done)), List.forall_mem_cons.mpr ⟨(by first | rfl | (simp [gi_look, nI_1]; done)), fun _ h => absurd h List.not_mem_nil⟩⟩⟩) rfl rfl rfl
        · refine gi_aload_n (q := 81) (i := 0) C (dm_Mo_root 49 rfl) rfl rfl rfl ?_
          refine gi_iload_n (q := 82) (i := 2) C (dm_Mo_root 50 rfl) rfl rfl rfl ?_
          refine gi_ldc2 (q := 85) C (dm_Mo_root 51 rfl) rfl kc_Mo_273 ?_
          refine gi_ldc2 (q := 88) C (dm_Mo_root 52 rfl) rfl kc_Mo_280 ?_
          refine gi_lconst (q := 89) (v := 1) C (dm_Mo_root 53 rfl) rfl (by decide) ?_
          refine gi_callv 4 (q := 92) C (dm_Mo_root 54 rfl) rfl my_Mo_span lk_Mo_366 im_Mo_span rfl (c_Mo_span jl (-2147483648) 2147483647 1 H) Ha rfl rfl ⟨(Nat.le_of_ble_eq_true rfl), (Nat.le_of_ble_eq_true rfl)⟩ (Nat.le_of_ble_eq_true rfl) ⟨(Nat.le_of_ble_eq_true rfl), (Nat.le_of_ble_eq_true rfl)⟩ (fun r89 n89 h89 e89 => ?_)
          obtain ⟨rfl, rfl, F3, G3, H3, o3, r3, c3⟩ := e89
          refine gi_goto (tgt := 103) C (dm_Mo_root 55 rfl) (by decide) ?_
          have kd : kdB P c j = false := by
            cases e9 : kdB P c j with
            | false => rfl
            | true => rw [e9] at c43; exact absurd rfl c43
          have j1 : j < pN P 1 c := by
            have q := c77
            rw [nI_leP (by omega) (by omega)] at q
            omega
          have ck : lcR (rtF P c) (j + 1) (cW F3 G3) (pN P 2 c) := by
            refine l1.up (d := (-2147483648, 2147483647, 1, 0, 0, (cW F2 G1 j).2.2.2.2.2)) ?_ (fun q9 => ?_)
            · rw [c3]
              funext q
              have z9 := congrFun ck2 q
              unfold upO at z9 ⊢
              by_cases z : q = j
              · rw [if_pos z, if_pos z]
              · rw [if_neg z, if_neg z]
                rw [if_neg z] at z9
                exact z9
            · show ceA (if kdB P c j = true then _ else _ : Sl).1 _
              rw [if_neg (by rw [kd]; decide)]
              show ceA (.inl (if j < pN P 1 c then allS else (0, 0, 0))) _
              rw [if_pos j1]
              exact ⟨rfl, rfl, rfl⟩
          refine gi_iinc (q := 106) (v := 1) C (dm_Mo_root 62 rfl) rfl rfl (by decide) (Nat.le_of_ble_eq_true rfl) ?_
          refine gi_goto (tgt := 2) C (dm_Mo_root 63 rfl) (by decide) ?_
          refine gi_close (ihj (j + 1) _ ⟨jl, F3, G3, H3, ho.tr o3, r1.tr (rk.tr r3), ck⟩ (by omega)) (List.forall_mem_cons.mpr ⟨(by first | rfl | (simp [gi_look, nI_1]; done)), List.forall_mem_cons.mpr ⟨(by first | rfl | (simp [gi_look, nI_1]; done)), List.forall_mem_cons.mpr ⟨(by first | rfl | (simp [gi_look, nI_1]; done)), fun _ h => absurd h List.not_mem_nil⟩⟩⟩) rfl rfl rfl
      · refine gi_aload_n (q := 47) (i := 0) C (dm_Mo_root 29 rfl) rfl rfl rfl ?_
        refine gi_iload_n (q := 48) (i := 2) C (dm_Mo_root 30 rfl) rfl rfl rfl ?_
        refine gi_iload_n (q := 49) (i := 2) C (dm_Mo_root 31 rfl) rfl rfl rfl ?_
        refine gi_aload_n (q := 50) (i := 0) C (dm_Mo_root 32 rfl) rfl rfl rfl ?_
        refine gi_get (q := 53) C (dm_Mo_root 33 rfl) rfl fl_Mo_7 Ha (mo_g1 Hf) ?_
        refine gi_iload_n (q := 54) (i := 1) C (dm_Mo_root 34 rfl) rfl rfl rfl ?_
        refine gi_iald (q := 55) C (dm_Mo_root 35 rfl) rfl rfl (mo_a1 H) (inN (show c < 8 by omega) (by decide)) ?_
        rw [nI_clamp (show c < 2 ^ 31 by omega), hP2 1 (by decide) (by decide), (wf_n W hc).1]
        refine gi_icmp_ge (q := 58) (tgt := 62) C (dm_Mo_root 36 rfl) rfl (by decide) (fun c55 => ?_) (fun c55 => ?_)
        · refine gi_iconst (q := 63) (v := 0) C (dm_Mo_root 39 rfl) rfl (by decide) ?_
          refine gi_iconst (q := 64) (v := 1) C (dm_Mo_root 40 rfl) rfl (by decide) ?_
          refine gi_callv 3 (q := 67) C (dm_Mo_root 41 rfl) rfl my_Mo_setOf lk_Mo_370 im_Mo_setOf rfl (c_Mo_setOf jl 0 true H) Ha rfl rfl ⟨(Nat.le_of_ble_eq_true rfl), (Nat.le_of_ble_eq_true rfl)⟩ (Nat.le_of_ble_eq_true rfl) ⟨(Nat.le_of_ble_eq_true rfl), (Nat.le_of_ble_eq_true rfl)⟩ (fun r64 n64 h64 e64 => ?_)
          obtain ⟨rfl, rfl, F3, G3, H3, o3, r3, c3⟩ := e64
          refine gi_goto (tgt := 103) C (dm_Mo_root 42 rfl) (by decide) ?_
          have kd : kdB P c j = true := by
            cases e9 : kdB P c j with
            | true => rfl
            | false => rw [e9] at c43; exact absurd c43 (by decide)
          have j1 : ¬ j < pN P 1 c := by
            have q := c55
            rw [nI_leP (by omega) (by omega)] at q
            omega
          have ck : lcR (rtF P c) (j + 1) (cW F3 G3) (pN P 2 c) := by
            refine l1.up (d := (0, 0, 0, 0, bI true, (cW F2 G1 j).2.2.2.2.2)) ?_ (fun q9 => ?_)
            · rw [c3]
              funext q
              have z9 := congrFun ck2 q
              unfold upO at z9 ⊢
              by_cases z : q = j
              · rw [if_pos z, if_pos z]
              · rw [if_neg z, if_neg z]
                rw [if_neg z] at z9
                exact z9
            · show ceA (if kdB P c j = true then _ else _ : Sl).1 _
              rw [if_pos kd]
              show ceA (.inr (if j < pN P 1 c then 1 else 0, true)) _
              rw [if_neg j1]
              exact ⟨rfl, rfl⟩
          refine gi_iinc (q := 106) (v := 1) C (dm_Mo_root 62 rfl) rfl rfl (by decide) (Nat.le_of_ble_eq_true rfl) ?_
          refine gi_goto (tgt := 2) C (dm_Mo_root 63 rfl) (by decide) ?_
          refine gi_close (ihj (j + 1) _ ⟨jl, F3, G3, H3, ho.tr o3, r1.tr (rk.tr r3), ck⟩ (by omega)) (List.forall_mem_cons.mpr ⟨(by first | rfl | (simp [gi_look, nI_1]; done)), List.forall_mem_cons.mpr ⟨(by first | rfl | (simp [gi_look, nI_1]; done)), List.forall_mem_cons.mpr ⟨(by first | rfl | (simp [gi_look, nI_1]; done)), fun _ h => absurd h List.not_mem_nil⟩⟩⟩) rfl rfl rfl
        · refine gi_iconst (q := 59) (v := 1) C (dm_Mo_root 37 rfl) rfl (by decide) ?_
          refine gi_goto (tgt := 63) C (dm_Mo_root 38 rfl) (by decide) ?_
          refine gi_iconst (q := 64) (v := 1) C (dm_Mo_root 40 rfl) rfl (by decide) ?_
          refine gi_callv 3 (q := 67) C (dm_Mo_root 41 rfl) rfl my_Mo_setOf lk_Mo_370 im_Mo_setOf rfl (c_Mo_setOf jl 1 true H) Ha rfl rfl ⟨(Nat.le_of_ble_eq_true rfl), (Nat.le_of_ble_eq_true rfl)⟩ (Nat.le_of_ble_eq_true rfl) ⟨(Nat.le_of_ble_eq_true rfl), (Nat.le_of_ble_eq_true rfl)⟩ (fun r64 n64 h64 e64 => ?_)
          obtain ⟨rfl, rfl, F3, G3, H3, o3, r3, c3⟩ := e64
          refine gi_goto (tgt := 103) C (dm_Mo_root 42 rfl) (by decide) ?_
          have kd : kdB P c j = true := by
            cases e9 : kdB P c j with
            | true => rfl
            | false => rw [e9] at c43; exact absurd c43 (by decide)
          have j1 :  j < pN P 1 c := by
            have q := c55
            rw [nI_leP (by omega) (by omega)] at q
            omega
          have ck : lcR (rtF P c) (j + 1) (cW F3 G3) (pN P 2 c) := by
            refine l1.up (d := (0, 0, 0, 1, bI true, (cW F2 G1 j).2.2.2.2.2)) ?_ (fun q9 => ?_)
            · rw [c3]
              funext q
              have z9 := congrFun ck2 q
              unfold upO at z9 ⊢
              by_cases z : q = j
              · rw [if_pos z, if_pos z]
              · rw [if_neg z, if_neg z]
                rw [if_neg z] at z9
                exact z9
            · show ceA (if kdB P c j = true then _ else _ : Sl).1 _
              rw [if_pos kd]
              show ceA (.inr (if j < pN P 1 c then 1 else 0, true)) _
              rw [if_pos j1]
              exact ⟨rfl, rfl⟩
          refine gi_iinc (q := 106) (v := 1) C (dm_Mo_root 62 rfl) rfl rfl (by decide) (Nat.le_of_ble_eq_true rfl) ?_
          refine gi_goto (tgt := 2) C (dm_Mo_root 63 rfl) (by decide) ?_
          refine gi_close (ihj (j + 1) _ ⟨jl, F3, G3, H3, ho.tr o3, r1.tr (rk.tr r3), ck⟩ (by omega)) (List.forall_mem_cons.mpr ⟨(by first | rfl | (simp [gi_look, nI_1]; done)), List.forall_mem_cons.mpr ⟨(by first | rfl | (simp [gi_look, nI_1]; done)), List.forall_mem_cons.mpr ⟨(by first | rfl | (simp [gi_look, nI_1]; done)), fun _ h => absurd h List.not_mem_nil⟩⟩⟩) rfl rfl rfl
    · refine gi_aload_n (q := 26) (i := 0) C (dm_Mo_root 16 rfl) rfl rfl rfl ?_
      refine gi_iload_n (q := 27) (i := 2) C (dm_Mo_root 17 rfl) rfl rfl rfl ?_
      refine gi_lconst (q := 28) (v := 0) C (dm_Mo_root 18 rfl) rfl (by decide) ?_
      refine gi_lconst (q := 29) (v := 0) C (dm_Mo_root 19 rfl) rfl (by decide) ?_
      refine gi_lconst (q := 30) (v := 0) C (dm_Mo_root 20 rfl) rfl (by decide) ?_
      skip
      refine gi_callv 4 (q := 33) C (dm_Mo_root 21 rfl) rfl my_Mo_span lk_Mo_366 im_Mo_span rfl (c_Mo_span jl 0 0 0 H) Ha rfl rfl ⟨(Nat.le_of_ble_eq_true rfl), (Nat.le_of_ble_eq_true rfl)⟩ (Nat.le_of_ble_eq_true rfl) ⟨(Nat.le_of_ble_eq_true rfl), (Nat.le_of_ble_eq_true rfl)⟩ (fun r30 n30 h30 e30 => ?_)
      obtain ⟨rfl, rfl, F3, G3, H3, o3, r3, c3⟩ := e30
      refine gi_goto (tgt := 103) C (dm_Mo_root 22 rfl) (by decide) ?_
      have j2 : ¬ j < pN P 2 c := by
        have q := c22
        rw [nI_ltP (by omega) (by omega)] at q
        exact q
      have ck : lcR (rtF P c) (j + 1) (cW F3 G3) (pN P 2 c) := by
        refine l1.up (d := (0, 0, 0, 0, 0, (cW F2 G1 j).2.2.2.2.2)) ?_ (fun q9 => ?_)
        · rw [c3]
          funext q
          have z9 := congrFun ck2 q
          unfold upO at z9 ⊢
          by_cases z : q = j
          · rw [if_pos z, if_pos z]
          · rw [if_neg z, if_neg z]
            rw [if_neg z] at z9
            exact z9
        · exact absurd q9 j2
      refine gi_iinc (q := 106) (v := 1) C (dm_Mo_root 62 rfl) rfl rfl (by decide) (Nat.le_of_ble_eq_true rfl) ?_
      refine gi_goto (tgt := 2) C (dm_Mo_root 63 rfl) (by decide) ?_
      refine gi_close (ihj (j + 1) _ ⟨jl, F3, G3, H3, ho.tr o3, r1.tr (rk.tr r3), ck⟩ (by omega)) (List.forall_mem_cons.mpr ⟨(by first | rfl | (simp [gi_look, nI_1]; done)), List.forall_mem_cons.mpr ⟨(by first | rfl | (simp [gi_look, nI_1]; done)), List.forall_mem_cons.mpr ⟨(by first | rfl | (simp [gi_look, nI_1]; done)), fun _ h => absurd h List.not_mem_nil⟩⟩⟩) rfl rfl rfl
end RCC
