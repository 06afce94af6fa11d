-- needs: 89.79
section RCB
variable {l : Launch} {V : gi_V} {n : Nat} {h h' : gi_H} {M k m i : Nat} {P : Pm} {x : Sh} {sh : Nat → Option Sh} {S S' : Nat → Int32} {J J' : Nat → Int64} {F F' : Nat → Nat → Int32} {G G' : Nat → Nat → Int64} {f g : Nat → Sl} {n0 : Nat} {r : Rw} {Ff : Fa} {Z : Fa × Bool} {md p t : Nat} {S0 S1 S2 : Nat → Int32} {J0 J1 J2 : Nat → Int64} {F0 F1 F2 : Nat → Nat → Int32} {G0 G1 G2 : Nat → Nat → Int64} {y y' : gi_H} {L : Nat} {κ : (Nat → Ce) × Int32}
theorem bitA_0 (s : Nat) : bitA 0 s = false := by
  unfold bitA
  show (0#32).getLsbD s = false
  simp
theorem gath_z {R : Fa} {ba : Nat} : ∀ j, gathF R ba 0 j = none
  | 0 => rfl
  | j + 1 => by
    show (if bitA 0 j = true ∧ _ then _ else _) = _
    rw [if_neg (by rw [bitA_0]; simp), gath_z j]
set_option maxHeartbeats 4000000 in
set_option maxRecDepth 100000 in
theorem ww_array29 (HW : WW M k P sh md Ff κ h S0 J0 F0 G0 Z L n0 f S J F G y) (B : Built k P sh (siN k P sh) (wdF k P)) (hmd : md ≤ 2) {a : Nat} (hm : a < k) (hi : i < pN P 5 a) (hx : sh (60 * a + i) = some x) (hL : pN P 2 a = L) {b : Int32} {q : Bool} (hn : L + 1 ≤ n0) (er : (f (n0 - 1)).1 = .inr (b, q)) (hR : okF (tyF P sh) (rdF md Ff Z)) (mk1 : (f (n0 - 1)).2 = -1 ∨ ∃ j, j < L ∧ (f (n0 - 1)).2 = nI j) (hloc : ∀ i, i < L → (f i).2 = -1) (hg : ∀ z, gathF (rdF md Ff Z) 480 b 25 = some z → tyG P a x n0 (upF (tellF (n0 - 1) f (f (n0 - 1)).2 (.inr (b, false))) (n0 - 1) (.inl z, -1))) : gi_T l V y_Mo_array b_Mo_array 27 none 4 94 0 0 [.ref M, .int (nI 29), .int (nI (60 * a + i))] n y (fun v n' h' => v = none ∧ n' = n ∧ spP M k P sh md Ff κ h S0 J0 F0 G0 (match gathF (rdF md Ff Z) 480 b 25 with | none => Z | some z => comeM md (grF (wdF k P)) Z (60 * a + i, n0, upF (tellF (n0 - 1) f (f (n0 - 1)).2 (.inr (b, false))) (n0 - 1) (.inl z, -1))) h') := by
  refine gi_enter (by decide) (Nat.le_of_ble_eq_true rfl) ?_
  intro _ _ _ _ _ _ _ _ C hr hnm
  have H := HW.1
  obtain ⟨fs, Ha, Hf⟩ := id H.1
  have ho := HW.2.1
  obtain ⟨f1, f2, f3, f4⟩ := HW.fb
  refine gi_iload_n (q := 1) (i := 1) C (dm_Mo_array 0 rfl) rfl rfl rfl ?_
  refine gi_bipush (q := 3) (v := 29) C (dm_Mo_array 1 rfl) rfl (by decide) ?_
  refine gi_icmp_ne (q := 6) (tgt := 15) C (dm_Mo_array 2 rfl) rfl (by decide) (fun c3 => ?_) (fun c3 => ?_)
  · exact absurd rfl c3
  · refine gi_aload_n (q := 7) (i := 0) C (dm_Mo_array 3 rfl) rfl rfl rfl ?_
    refine gi_get (q := 10) C (dm_Mo_array 4 rfl) rfl fl_Mo_357 Ha (mo_g58 Hf) ?_
    refine gi_iconst (q := 11) (v := 1) C (dm_Mo_array 5 rfl) rfl (by decide) ?_
    refine gi_isub (q := 12) C (dm_Mo_array 6 rfl) rfl ?_
    refine gi_goto (tgt := 36) C (dm_Mo_array 7 rfl) (by decide) ?_
    rw [f4, nI_m1 (by omega), show n0 - L + 6 - 1 = n0 - 1 - L + 6 by omega]
    have ss := HW.st (show n0 - 1 < n0 by omega) er
    have sm := HW.mk (show n0 - 1 < n0 by omega) (by omega)
    rw [sl_t (by omega)] at ss sm
    refine gi_istore_n (q := 37) (i := 3) C (dm_Mo_array 20 rfl) rfl rfl (Nat.le_of_ble_eq_true rfl) ?_
    refine gi_iload_n (q := 38) (i := 3) C (dm_Mo_array 21 rfl) rfl rfl rfl ?_
    refine gi_iconst (q := 39) (v := 1) C (dm_Mo_array 22 rfl) rfl (by decide) ?_
    refine gi_iadd (q := 40) C (dm_Mo_array 23 rfl) rfl ?_
    rw [nI_1]
    refine gi_istore (q := 42) C (dm_Mo_array 24 rfl) rfl (Nat.le_of_ble_eq_true rfl) ?_
    refine gi_aload_n (q := 43) (i := 0) C (dm_Mo_array 25 rfl) rfl rfl rfl ?_
    refine gi_get (q := 46) C (dm_Mo_array 26 rfl) rfl fl_Mo_113 Ha (mo_g55 Hf) ?_
    refine gi_iload_n (q := 47) (i := 3) C (dm_Mo_array 27 rfl) rfl rfl rfl ?_
    refine gi_iald (q := 48) C (dm_Mo_array 28 rfl) rfl rfl (mo_a55 H) (inN (show n0 - 1 - L + 6 < 14 by omega) (by decide)) ?_
    rw [nI_clamp (show n0 - 1 - L + 6 < 2 ^ 31 by omega), ss.1]
    refine gi_istore (q := 50) C (dm_Mo_array 29 rfl) rfl (Nat.le_of_ble_eq_true rfl) ?_
    refine gi_aload_n (q := 51) (i := 0) C (dm_Mo_array 30 rfl) rfl rfl rfl ?_
    refine gi_get (q := 54) C (dm_Mo_array 31 rfl) rfl fl_Mo_119 Ha (mo_g57 Hf) ?_
    refine gi_iload_n (q := 55) (i := 3) C (dm_Mo_array 32 rfl) rfl rfl rfl ?_
    refine gi_iald (q := 56) C (dm_Mo_array 33 rfl) rfl rfl (mo_a57 H) (inN (show n0 - 1 - L + 6 < 14 by omega) (by decide)) ?_
    rw [nI_clamp (show n0 - 1 - L + 6 < 2 ^ 31 by omega), sm]
    refine gi_istore (q := 58) C (dm_Mo_array 34 rfl) rfl (Nat.le_of_ble_eq_true rfl) ?_
    refine gi_iload (q := 60) C (dm_Mo_array 35 rfl) rfl rfl ?_
    refine gi_if_ne (q := 63) (tgt := 64) C (dm_Mo_array 36 rfl) rfl (by decide) (fun c60 => ?_) (fun c60 => ?_)
    · refine gi_aload_n (q := 65) (i := 0) C (dm_Mo_array 38 rfl) rfl rfl rfl ?_
      refine gi_iload (q := 67) C (dm_Mo_array 39 rfl) rfl rfl ?_
      refine gi_iconst (q := 68) (v := 0) C (dm_Mo_array 40 rfl) rfl (by decide) ?_
      rw [show (0 : Int32) = nI 0 from rfl]
      refine gi_callv 2 (q := 71) C (dm_Mo_array 41 rfl) rfl my_Mo_ofSites lk_Mo_492 im_Mo_ofSites rfl (ww_ofSites HW b (Or.inl ⟨rfl, rfl⟩) hR) Ha rfl rfl ⟨(Nat.le_of_ble_eq_true rfl), (Nat.le_of_ble_eq_true rfl)⟩ (Nat.le_of_ble_eq_true rfl) ⟨(Nat.le_of_ble_eq_true rfl), (Nat.le_of_ble_eq_true rfl)⟩ (fun r68 n68 h68 e68 => ?_)
      obtain ⟨rfl, rfl, S2, J2, HW2, rs2⟩ := e68
      have H := HW2.1
      obtain ⟨fs, Ha, Hf⟩ := id H.1
      have ho := HW2.2.1
      rcases hz : gathF (rdF md Ff Z) 480 b 25 with _ | z
      · refine gi_istore (q := 73) C (dm_Mo_array 42 rfl) rfl (Nat.le_of_ble_eq_true rfl) ?_
        refine gi_aload_n (q := 74) (i := 0) C (dm_Mo_array 43 rfl) rfl rfl rfl ?_
        refine gi_get (q := 77) C (dm_Mo_array 44 rfl) rfl fl_Mo_242 Ha (mo_g22 Hf) ?_
        refine gi_lstore (q := 79) C (dm_Mo_array 45 rfl) rfl (Nat.le_of_ble_eq_true rfl) ?_
        refine gi_aload_n (q := 80) (i := 0) C (dm_Mo_array 46 rfl) rfl rfl rfl ?_
        refine gi_get (q := 83) C (dm_Mo_array 47 rfl) rfl fl_Mo_246 Ha (mo_g23 Hf) ?_
        refine gi_lstore (q := 85) C (dm_Mo_array 48 rfl) rfl (Nat.le_of_ble_eq_true rfl) ?_
        refine gi_aload_n (q := 86) (i := 0) C (dm_Mo_array 49 rfl) rfl rfl rfl ?_
        refine gi_get (q := 89) C (dm_Mo_array 50 rfl) rfl fl_Mo_249 Ha (mo_g24 Hf) ?_
        refine gi_lstore (q := 91) C (dm_Mo_array 51 rfl) rfl (Nat.le_of_ble_eq_true rfl) ?_
        refine gi_iload_n (q := 92) (i := 1) C (dm_Mo_array 52 rfl) rfl rfl rfl ?_
        refine gi_bipush (q := 94) (v := 29) C (dm_Mo_array 53 rfl) rfl (by decide) ?_
        refine gi_icmp_ne (q := 97) (tgt := 133) C (dm_Mo_array 54 rfl) rfl (by decide) (fun c94 => ?_) (fun c94 => ?_)
        · exact absurd rfl c94
        · refine gi_iload (q := 99) C (dm_Mo_array 55 rfl) rfl rfl ?_
          refine gi_if_ne (q := 102) (tgt := 103) C (dm_Mo_array 56 rfl) rfl (by decide) (fun c99 => ?_) (fun c99 => ?_)
          · exact absurd rfl c99
          · refine gi_vret C hr (dm_Mo_array 57 rfl) ?_
            exact ⟨rfl, rfl, HW2.end⟩
      · have rs9 := rsJ (rs2 _ hz)
        have hg := hg z hz
        refine gi_istore (q := 73) C (dm_Mo_array 42 rfl) rfl (Nat.le_of_ble_eq_true rfl) ?_
        refine gi_aload_n (q := 74) (i := 0) C (dm_Mo_array 43 rfl) rfl rfl rfl ?_
        refine gi_get (q := 77) C (dm_Mo_array 44 rfl) rfl fl_Mo_242 Ha (mo_g22 Hf) ?_
        rw [rs9.1]
        refine gi_lstore (q := 79) C (dm_Mo_array 45 rfl) rfl (Nat.le_of_ble_eq_true rfl) ?_
        refine gi_aload_n (q := 80) (i := 0) C (dm_Mo_array 46 rfl) rfl rfl rfl ?_
        refine gi_get (q := 83) C (dm_Mo_array 47 rfl) rfl fl_Mo_246 Ha (mo_g23 Hf) ?_
        rw [rs9.2.1]
        refine gi_lstore (q := 85) C (dm_Mo_array 48 rfl) rfl (Nat.le_of_ble_eq_true rfl) ?_
        refine gi_aload_n (q := 86) (i := 0) C (dm_Mo_array 49 rfl) rfl rfl rfl ?_
        refine gi_get (q := 89) C (dm_Mo_array 50 rfl) rfl fl_Mo_249 Ha (mo_g24 Hf) ?_
        rw [rs9.2.2]
        refine gi_lstore (q := 91) C (dm_Mo_array 51 rfl) rfl (Nat.le_of_ble_eq_true rfl) ?_
        refine gi_iload_n (q := 92) (i := 1) C (dm_Mo_array 52 rfl) rfl rfl rfl ?_
        refine gi_bipush (q := 94) (v := 29) C (dm_Mo_array 53 rfl) rfl (by decide) ?_
        refine gi_icmp_ne (q := 97) (tgt := 133) C (dm_Mo_array 54 rfl) rfl (by decide) (fun c94 => ?_) (fun c94 => ?_)
        · exact absurd rfl c94
        · refine gi_iload (q := 99) C (dm_Mo_array 55 rfl) rfl rfl ?_
          refine gi_if_ne (q := 102) (tgt := 103) C (dm_Mo_array 56 rfl) rfl (by decide) (fun c99 => ?_) (fun c99 => ?_)
          · refine gi_aload_n (q := 104) (i := 0) C (dm_Mo_array 58 rfl) rfl rfl rfl ?_
            refine gi_iload_n (q := 105) (i := 3) C (dm_Mo_array 59 rfl) rfl rfl rfl ?_
            skip
            refine gi_put (q := 108) C (dm_Mo_array 60 rfl) rfl fl_Mo_357 fp_Mo_58 Ha (by rw [Hf.1]; decide) rfl rfl ?_
            refine gi_genM (H.putI Ha Hf (by decide) rfl) (ho.up (by omega) (by omega)) (fun y H ho => ?_)
            obtain ⟨fs, Ha, Hf⟩ := id H.1
            have HW3 := HW2.top (n1 := n0 - 1) (by omega) (by omega) H ho
            refine gi_aload_n (q := 109) (i := 0) C (dm_Mo_array 61 rfl) rfl rfl rfl ?_
            refine gi_iload (q := 111) C (dm_Mo_array 62 rfl) rfl rfl ?_
            refine gi_iload (q := 113) C (dm_Mo_array 63 rfl) rfl rfl ?_
            refine gi_iconst (q := 114) (v := 0) C (dm_Mo_array 64 rfl) rfl (by decide) ?_
            refine gi_callv 3 (q := 117) C (dm_Mo_array 65 rfl) rfl my_Mo_markedSet lk_Mo_489 im_Mo_markedSet rfl (ww_markedSet HW3 b false mk1 hloc) Ha rfl rfl ⟨(Nat.le_of_ble_eq_true rfl), (Nat.le_of_ble_eq_true rfl)⟩ (Nat.le_of_ble_eq_true rfl) ⟨(Nat.le_of_ble_eq_true rfl), (Nat.le_of_ble_eq_true rfl)⟩ (fun r114 n114 h114 e114 => ?_)
            obtain ⟨rfl, rfl, S4, J4, F4, G4, HW4⟩ := e114
            have H := HW4.1
            obtain ⟨fs, Ha, Hf⟩ := id H.1
            have ho := HW4.2.1
            refine gi_aload_n (q := 118) (i := 0) C (dm_Mo_array 66 rfl) rfl rfl rfl ?_
            refine gi_lload (q := 120) C (dm_Mo_array 67 rfl) rfl rfl ?_
            refine gi_lload (q := 122) C (dm_Mo_array 68 rfl) rfl rfl ?_
            refine gi_lload (q := 124) C (dm_Mo_array 69 rfl) rfl rfl ?_
            refine gi_callv 3 (q := 127) C (dm_Mo_array 70 rfl) rfl my_Mo_pushSpan lk_Mo_431 im_Mo_pushSpan rfl (ww_pushSpan HW4 z (by omega)) Ha rfl rfl ⟨(Nat.le_of_ble_eq_true rfl), (Nat.le_of_ble_eq_true rfl)⟩ (Nat.le_of_ble_eq_true rfl) ⟨(Nat.le_of_ble_eq_true rfl), (Nat.le_of_ble_eq_true rfl)⟩ (fun r124 n124 h124 e124 => ?_)
            obtain ⟨rfl, rfl, S5, J5, F5, G5, HW5⟩ := e124
            have H := HW5.1
            obtain ⟨fs, Ha, Hf⟩ := id H.1
            have ho := HW5.2.1
            rw [show n0 - 1 + 1 = n0 by omega] at HW5
            refine gi_aload_n (q := 128) (i := 0) C (dm_Mo_array 71 rfl) rfl rfl rfl ?_
            refine gi_iload_n (q := 129) (i := 2) C (dm_Mo_array 72 rfl) rfl rfl rfl ?_
            refine gi_callv 1 (q := 132) C (dm_Mo_array 73 rfl) rfl my_Mo_comeTo lk_Mo_434 im_Mo_comeTo rfl (ww_comeTo HW5 B hmd hm hi hx hL hg) Ha rfl rfl ⟨(Nat.le_of_ble_eq_true rfl), (Nat.le_of_ble_eq_true rfl)⟩ (Nat.le_of_ble_eq_true rfl) ⟨(Nat.le_of_ble_eq_true rfl), (Nat.le_of_ble_eq_true rfl)⟩ (fun r129 n129 h129 e129 => ?_)
            obtain ⟨rfl, rfl, S6, J6, F6, G6, HW6, fz6⟩ := e129
            have H := HW6.1
            obtain ⟨fs, Ha, Hf⟩ := id H.1
            have ho := HW6.2.1
            refine gi_vret C hr (dm_Mo_array 74 rfl) ?_
            exact ⟨rfl, rfl, HW6.end⟩
          · exact absurd (bI_fa c99) (by simp)
    · refine gi_vret C hr (dm_Mo_array 37 rfl) ?_
      have en : gathF (rdF md Ff Z) 480 b 25 = none := by rw [c60]; exact gath_z 25
      rw [en]
      exact ⟨rfl, rfl, HW.end⟩
set_option maxHeartbeats 4000000 in
set_option maxRecDepth 100000 in
theorem ww_array30 (HW : WW M k P sh md Ff κ h S0 J0 F0 G0 Z L n0 f S J F G y) (B : Built k P sh (siN k P sh) (wdF k P)) (hmd : md ≤ 2) {a : Nat} (hm : a < k) (hi : i < pN P 5 a) (hx : sh (60 * a + i) = some x) (hL : pN P 2 a = L) {b : Int32} {q : Bool} {X : Sp} (hn : L + 2 ≤ n0) (er : (f (n0 - 2)).1 = .inr (b, q)) (ex : (f (n0 - 1)).1 = .inl X) (okX : okS X) (hR : okF (tyF P sh) (rdF md Ff Z)) (mk1 : (f (n0 - 1)).2 = -1 ∨ ∃ j, j < L ∧ (f (n0 - 1)).2 = nI j) (mk2 : (f (n0 - 2)).2 = -1 ∨ ∃ j, j < L ∧ (f (n0 - 2)).2 = nI j) (hloc : ∀ i, i < L → (f i).2 = -1) (hg : ∀ z, gathF (rdF md Ff Z) 480 b 25 = some z → ∀ u, withinS X 0 (z.2.1 - 1) = some u → ∀ e, gathF (rdF md Ff Z) 505 b 25 = some e → tyG P a x (n0 - 1) (upF (tellF (n0 - 2) (tellF (n0 - 2) f (f (n0 - 2)).2 (.inr (b, false))) (f (n0 - 1)).2 (.inl u)) (n0 - 2) (.inl e, -1))) : gi_T l V y_Mo_array b_Mo_array 27 none 4 94 0 0 [.ref M, .int (nI 30), .int (nI (60 * a + i))] n y (fun v n' h' => v = none ∧ n' = n ∧ spP M k P sh md Ff κ h S0 J0 F0 G0 (match gathF (rdF md Ff Z) 480 b 25 with | none => Z | some z => match withinS X 0 (z.2.1 - 1), gathF (rdF md Ff Z) 505 b 25 with | some u, some e => comeM md (grF (wdF k P)) Z (60 * a + i, n0 - 1, upF (tellF (n0 - 2) (tellF (n0 - 2) f (f (n0 - 2)).2 (.inr (b, false))) (f (n0 - 1)).2 (.inl u)) (n0 - 2) (.inl e, -1)) | _, _ => Z) h') := by
  refine gi_enter (by decide) (Nat.le_of_ble_eq_true rfl) ?_
  intro _ _ _ _ _ _ _ _ C hr hnm
  have H := HW.1
  obtain ⟨fs, Ha, Hf⟩ := id H.1
  have ho := HW.2.1
  obtain ⟨f1, f2, f3, f4⟩ := HW.fb
  have hs4 : ∀ s, s < 25 → (rdF md Ff Z (480 + s)).told = true → okS (spA ((rdF md Ff Z (480 + s)).f 0).1) := fun s hs ht => (tv_one hR (by omega) (by omega) ht).2
  refine gi_iload_n (q := 1) (i := 1) C (dm_Mo_array 0 rfl) rfl rfl rfl ?_
  refine gi_bipush (q := 3) (v := 29) C (dm_Mo_array 1 rfl) rfl (by decide) ?_
  refine gi_icmp_ne (q := 6) (tgt := 15) C (dm_Mo_array 2 rfl) rfl (by decide) (fun c3 => ?_) (fun c3 => ?_)
  · refine gi_iload_n (q := 16) (i := 1) C (dm_Mo_array 8 rfl) rfl rfl rfl ?_
    refine gi_bipush (q := 18) (v := 30) C (dm_Mo_array 9 rfl) rfl (by decide) ?_
    refine gi_icmp_ne (q := 21) (tgt := 30) C (dm_Mo_array 10 rfl) rfl (by decide) (fun c18 => ?_) (fun c18 => ?_)
    · exact absurd rfl c18
    · refine gi_aload_n (q := 22) (i := 0) C (dm_Mo_array 11 rfl) rfl rfl rfl ?_
      refine gi_get (q := 25) C (dm_Mo_array 12 rfl) rfl fl_Mo_357 Ha (mo_g58 Hf) ?_
      refine gi_iconst (q := 26) (v := 2) C (dm_Mo_array 13 rfl) rfl (by decide) ?_
      refine gi_isub (q := 27) C (dm_Mo_array 14 rfl) rfl ?_
      refine gi_goto (tgt := 36) C (dm_Mo_array 15 rfl) (by decide) ?_
      rw [f4, nI_m2 (by omega), show n0 - L + 6 - 2 = n0 - 2 - L + 6 by omega]
      have ss := HW.st (show n0 - 2 < n0 by omega) er
      have sm := HW.mk (show n0 - 2 < n0 by omega) (by omega)
      rw [sl_t (by omega)] at ss sm
      refine gi_istore_n (q := 37) (i := 3) C (dm_Mo_array 20 rfl) rfl rfl (Nat.le_of_ble_eq_true rfl) ?_
      refine gi_iload_n (q := 38) (i := 3) C (dm_Mo_array 21 rfl) rfl rfl rfl ?_
      refine gi_iconst (q := 39) (v := 1) C (dm_Mo_array 22 rfl) rfl (by decide) ?_
      refine gi_iadd (q := 40) C (dm_Mo_array 23 rfl) rfl ?_
      rw [nI_1]
      rw [show n0 - 2 - L + 6 + 1 = n0 - 1 - L + 6 by omega]
      refine gi_istore (q := 42) C (dm_Mo_array 24 rfl) rfl (Nat.le_of_ble_eq_true rfl) ?_
      refine gi_aload_n (q := 43) (i := 0) C (dm_Mo_array 25 rfl) rfl rfl rfl ?_
      refine gi_get (q := 46) C (dm_Mo_array 26 rfl) rfl fl_Mo_113 Ha (mo_g55 Hf) ?_
      refine gi_iload_n (q := 47) (i := 3) C (dm_Mo_array 27 rfl) rfl rfl rfl ?_
      refine gi_iald (q := 48) C (dm_Mo_array 28 rfl) rfl rfl (mo_a55 H) (inN (show n0 - 2 - L + 6 < 14 by omega) (by decide)) ?_
      rw [nI_clamp (show n0 - 2 - L + 6 < 2 ^ 31 by omega), ss.1]
      refine gi_istore (q := 50) C (dm_Mo_array 29 rfl) rfl (Nat.le_of_ble_eq_true rfl) ?_
      refine gi_aload_n (q := 51) (i := 0) C (dm_Mo_array 30 rfl) rfl rfl rfl ?_
      refine gi_get (q := 54) C (dm_Mo_array 31 rfl) rfl fl_Mo_119 Ha (mo_g57 Hf) ?_
      refine gi_iload_n (q := 55) (i := 3) C (dm_Mo_array 32 rfl) rfl rfl rfl ?_
      refine gi_iald (q := 56) C (dm_Mo_array 33 rfl) rfl rfl (mo_a57 H) (inN (show n0 - 2 - L + 6 < 14 by omega) (by decide)) ?_
      rw [nI_clamp (show n0 - 2 - L + 6 < 2 ^ 31 by omega), sm]
      refine gi_istore (q := 58) C (dm_Mo_array 34 rfl) rfl (Nat.le_of_ble_eq_true rfl) ?_
      refine gi_iload (q := 60) C (dm_Mo_array 35 rfl) rfl rfl ?_
      refine gi_if_ne (q := 63) (tgt := 64) C (dm_Mo_array 36 rfl) rfl (by decide) (fun c60 => ?_) (fun c60 => ?_)
      · refine gi_aload_n (q := 65) (i := 0) C (dm_Mo_array 38 rfl) rfl rfl rfl ?_
        refine gi_iload (q := 67) C (dm_Mo_array 39 rfl) rfl rfl ?_
        refine gi_iconst (q := 68) (v := 0) C (dm_Mo_array 40 rfl) rfl (by decide) ?_
        rw [show (0 : Int32) = nI 0 from rfl]
        refine gi_callv 2 (q := 71) C (dm_Mo_array 41 rfl) rfl my_Mo_ofSites lk_Mo_492 im_Mo_ofSites rfl (ww_ofSites HW b (Or.inl ⟨rfl, rfl⟩) hR) Ha rfl rfl ⟨(Nat.le_of_ble_eq_true rfl), (Nat.le_of_ble_eq_true rfl)⟩ (Nat.le_of_ble_eq_true rfl) ⟨(Nat.le_of_ble_eq_true rfl), (Nat.le_of_ble_eq_true rfl)⟩ (fun r68 n68 h68 e68 => ?_)
        obtain ⟨rfl, rfl, S2, J2, HW2, rs2⟩ := e68
        have H := HW2.1
        obtain ⟨fs, Ha, Hf⟩ := id H.1
        have ho := HW2.2.1
        rcases hz : gathF (rdF md Ff Z) 480 b 25 with _ | z
        · refine gi_istore (q := 73) C (dm_Mo_array 42 rfl) rfl (Nat.le_of_ble_eq_true rfl) ?_
          refine gi_aload_n (q := 74) (i := 0) C (dm_Mo_array 43 rfl) rfl rfl rfl ?_
          refine gi_get (q := 77) C (dm_Mo_array 44 rfl) rfl fl_Mo_242 Ha (mo_g22 Hf) ?_
          refine gi_lstore (q := 79) C (dm_Mo_array 45 rfl) rfl (Nat.le_of_ble_eq_true rfl) ?_
          refine gi_aload_n (q := 80) (i := 0) C (dm_Mo_array 46 rfl) rfl rfl rfl ?_
          refine gi_get (q := 83) C (dm_Mo_array 47 rfl) rfl fl_Mo_246 Ha (mo_g23 Hf) ?_
          refine gi_lstore (q := 85) C (dm_Mo_array 48 rfl) rfl (Nat.le_of_ble_eq_true rfl) ?_
          refine gi_aload_n (q := 86) (i := 0) C (dm_Mo_array 49 rfl) rfl rfl rfl ?_
          refine gi_get (q := 89) C (dm_Mo_array 50 rfl) rfl fl_Mo_249 Ha (mo_g24 Hf) ?_
          refine gi_lstore (q := 91) C (dm_Mo_array 51 rfl) rfl (Nat.le_of_ble_eq_true rfl) ?_
          refine gi_iload_n (q := 92) (i := 1) C (dm_Mo_array 52 rfl) rfl rfl rfl ?_
          refine gi_bipush (q := 94) (v := 29) C (dm_Mo_array 53 rfl) rfl (by decide) ?_
          refine gi_icmp_ne (q := 97) (tgt := 133) C (dm_Mo_array 54 rfl) rfl (by decide) (fun c94 => ?_) (fun c94 => ?_)
          · refine gi_iload (q := 135) C (dm_Mo_array 75 rfl) rfl rfl ?_
            refine gi_if_eq (q := 138) (tgt := 171) C (dm_Mo_array 76 rfl) rfl (by decide) (fun c135 => ?_) (fun c135 => ?_)
            · refine gi_vret C hr (dm_Mo_array 96 rfl) ?_
              exact ⟨rfl, rfl, HW2.end⟩
            · exact absurd rfl c135
          · exact absurd c94 (by decide)
        · have rs9 := rsJ (rs2 _ hz)
          dsimp only
          refine gi_istore (q := 73) C (dm_Mo_array 42 rfl) rfl (Nat.le_of_ble_eq_true rfl) ?_
          refine gi_aload_n (q := 74) (i := 0) C (dm_Mo_array 43 rfl) rfl rfl rfl ?_
          refine gi_get (q := 77) C (dm_Mo_array 44 rfl) rfl fl_Mo_242 Ha (mo_g22 Hf) ?_
          rw [rs9.1]
          refine gi_lstore (q := 79) C (dm_Mo_array 45 rfl) rfl (Nat.le_of_ble_eq_true rfl) ?_
          refine gi_aload_n (q := 80) (i := 0) C (dm_Mo_array 46 rfl) rfl rfl rfl ?_
          refine gi_get (q := 83) C (dm_Mo_array 47 rfl) rfl fl_Mo_246 Ha (mo_g23 Hf) ?_
          rw [rs9.2.1]
          refine gi_lstore (q := 85) C (dm_Mo_array 48 rfl) rfl (Nat.le_of_ble_eq_true rfl) ?_
          refine gi_aload_n (q := 86) (i := 0) C (dm_Mo_array 49 rfl) rfl rfl rfl ?_
          refine gi_get (q := 89) C (dm_Mo_array 50 rfl) rfl fl_Mo_249 Ha (mo_g24 Hf) ?_
          rw [rs9.2.2]
          refine gi_lstore (q := 91) C (dm_Mo_array 51 rfl) rfl (Nat.le_of_ble_eq_true rfl) ?_
          refine gi_iload_n (q := 92) (i := 1) C (dm_Mo_array 52 rfl) rfl rfl rfl ?_
          refine gi_bipush (q := 94) (v := 29) C (dm_Mo_array 53 rfl) rfl (by decide) ?_
          refine gi_icmp_ne (q := 97) (tgt := 133) C (dm_Mo_array 54 rfl) rfl (by decide) (fun c94 => ?_) (fun c94 => ?_)
          · refine gi_iload (q := 135) C (dm_Mo_array 75 rfl) rfl rfl ?_
            refine gi_if_eq (q := 138) (tgt := 171) C (dm_Mo_array 76 rfl) rfl (by decide) (fun c135 => ?_) (fun c135 => ?_)
            · exact absurd (bI_fa c135) (by simp)
            · have sx := HW2.sp (show n0 - 1 < n0 by omega) ex
              have sn := HW2.mk (show n0 - 1 < n0 by omega) (by omega)
              rw [sl_t (by omega)] at sx sn
              obtain ⟨z1, z2, z3, -⟩ := gath_ok hs4 25 (by omega) z hz
              refine gi_aload_n (q := 139) (i := 0) C (dm_Mo_array 77 rfl) rfl rfl rfl ?_
              refine gi_aload_n (q := 140) (i := 0) C (dm_Mo_array 78 rfl) rfl rfl rfl ?_
              refine gi_get (q := 143) C (dm_Mo_array 79 rfl) rfl fl_Mo_104 Ha (mo_g52 Hf) ?_
              refine gi_iload (q := 145) C (dm_Mo_array 80 rfl) rfl rfl ?_
              refine gi_lald (q := 146) C (dm_Mo_array 81 rfl) rfl rfl (mo_a52 H) (inN (show n0 - 1 - L + 6 < 14 by omega) (by decide)) ?_
              rw [nI_clamp (show n0 - 1 - L + 6 < 2 ^ 31 by omega), sx.1]
              refine gi_aload_n (q := 147) (i := 0) C (dm_Mo_array 82 rfl) rfl rfl rfl ?_
              refine gi_get (q := 150) C (dm_Mo_array 83 rfl) rfl fl_Mo_107 Ha (mo_g53 Hf) ?_
              refine gi_iload (q := 152) C (dm_Mo_array 84 rfl) rfl rfl ?_
              refine gi_lald (q := 153) C (dm_Mo_array 85 rfl) rfl rfl (mo_a53 H) (inN (show n0 - 1 - L + 6 < 14 by omega) (by decide)) ?_
              rw [nI_clamp (show n0 - 1 - L + 6 < 2 ^ 31 by omega), sx.2.1]
              refine gi_aload_n (q := 154) (i := 0) C (dm_Mo_array 86 rfl) rfl rfl rfl ?_
              refine gi_get (q := 157) C (dm_Mo_array 87 rfl) rfl fl_Mo_110 Ha (mo_g54 Hf) ?_
              refine gi_iload (q := 159) C (dm_Mo_array 88 rfl) rfl rfl ?_
              refine gi_lald (q := 160) C (dm_Mo_array 89 rfl) rfl rfl (mo_a54 H) (inN (show n0 - 1 - L + 6 < 14 by omega) (by decide)) ?_
              rw [nI_clamp (show n0 - 1 - L + 6 < 2 ^ 31 by omega), sx.2.2]
              refine gi_lconst (q := 161) (v := 0) C (dm_Mo_array 90 rfl) rfl (by decide) ?_
              refine gi_lload (q := 163) C (dm_Mo_array 91 rfl) rfl rfl ?_
              refine gi_lconst (q := 164) (v := 1) C (dm_Mo_array 92 rfl) rfl (by decide) ?_
              refine gi_lsub (q := 165) C (dm_Mo_array 93 rfl) rfl ?_
              rw [show (0 : Int64) = eL 0 from rfl, show (1 : Int64) = eL 1 from rfl, eL_sub]
              refine gi_callv 5 (q := 168) C (dm_Mo_array 94 rfl) rfl my_Mo_within lk_Mo_317 im_Mo_within rfl (ww_within HW2 X 0 (z.2.1 - 1) okX (by decide) (by decide) (by omega) (by omega)) Ha rfl rfl ⟨(Nat.le_of_ble_eq_true rfl), (Nat.le_of_ble_eq_true rfl)⟩ (Nat.le_of_ble_eq_true rfl) ⟨(Nat.le_of_ble_eq_true rfl), (Nat.le_of_ble_eq_true rfl)⟩ (fun r165 n165 h165 e165 => ?_)
              obtain ⟨rfl, rfl, S3, J3, HW3, rs3⟩ := e165
              have H := HW3.1
              obtain ⟨fs, Ha, Hf⟩ := id H.1
              have ho := HW3.2.1
              refine gi_if_ne (q := 171) (tgt := 172) C (dm_Mo_array 95 rfl) rfl (by decide) (fun c168 => ?_) (fun c168 => ?_)
              · obtain ⟨u, eu⟩ : ∃ u, withinS X 0 (z.2.1 - 1) = some u := Option.isSome_iff_exists.mp (bI_t c168)
                have rs8 := rsJ (rs3 _ eu)
                have oku := (within_ok okX eu).1
                rw [eu]
                refine gi_aload_n (q := 173) (i := 0) C (dm_Mo_array 97 rfl) rfl rfl rfl ?_
                refine gi_get (q := 176) C (dm_Mo_array 98 rfl) rfl fl_Mo_242 Ha (mo_g22 Hf) ?_
                rw [rs8.1]
                refine gi_lstore (q := 178) C (dm_Mo_array 99 rfl) rfl (Nat.le_of_ble_eq_true rfl) ?_
                refine gi_aload_n (q := 179) (i := 0) C (dm_Mo_array 100 rfl) rfl rfl rfl ?_
                refine gi_get (q := 182) C (dm_Mo_array 101 rfl) rfl fl_Mo_246 Ha (mo_g23 Hf) ?_
                rw [rs8.2.1]
                refine gi_lstore (q := 184) C (dm_Mo_array 102 rfl) rfl (Nat.le_of_ble_eq_true rfl) ?_
                refine gi_aload_n (q := 185) (i := 0) C (dm_Mo_array 103 rfl) rfl rfl rfl ?_
                refine gi_get (q := 188) C (dm_Mo_array 104 rfl) rfl fl_Mo_249 Ha (mo_g24 Hf) ?_
                rw [rs8.2.2]
                refine gi_lstore (q := 190) C (dm_Mo_array 105 rfl) rfl (Nat.le_of_ble_eq_true rfl) ?_
                refine gi_aload_n (q := 191) (i := 0) C (dm_Mo_array 106 rfl) rfl rfl rfl ?_
                refine gi_get (q := 194) C (dm_Mo_array 107 rfl) rfl fl_Mo_119 Ha (mo_g57 Hf) ?_
                refine gi_iload (q := 196) C (dm_Mo_array 108 rfl) rfl rfl ?_
                refine gi_iald (q := 197) C (dm_Mo_array 109 rfl) rfl rfl (mo_a57 H) (inN (show n0 - 1 - L + 6 < 14 by omega) (by decide)) ?_
                rw [nI_clamp (show n0 - 1 - L + 6 < 2 ^ 31 by omega), sn]
                refine gi_istore (q := 199) C (dm_Mo_array 110 rfl) rfl (Nat.le_of_ble_eq_true rfl) ?_
                refine gi_iload_n (q := 200) (i := 1) C (dm_Mo_array 111 rfl) rfl rfl rfl ?_
                refine gi_bipush (q := 202) (v := 31) C (dm_Mo_array 112 rfl) rfl (by decide) ?_
                refine gi_icmp_ne (q := 205) (tgt := 270) C (dm_Mo_array 113 rfl) rfl (by decide) (fun c202 => ?_) (fun c202 => ?_)
                · refine gi_aload_n (q := 271) (i := 0) C (dm_Mo_array 150 rfl) rfl rfl rfl ?_
                  refine gi_iload (q := 273) C (dm_Mo_array 151 rfl) rfl rfl ?_
                  refine gi_bipush (q := 275) (v := 32) C (dm_Mo_array 152 rfl) rfl (by decide) ?_
                  rw [show (32 : Int32) = nI 32 from rfl]
                  refine gi_callv 2 (q := 278) C (dm_Mo_array 153 rfl) rfl my_Mo_ofSites lk_Mo_492 im_Mo_ofSites rfl (ww_ofSites HW3 b (Or.inr ⟨rfl, rfl⟩) hR) Ha rfl rfl ⟨(Nat.le_of_ble_eq_true rfl), (Nat.le_of_ble_eq_true rfl)⟩ (Nat.le_of_ble_eq_true rfl) ⟨(Nat.le_of_ble_eq_true rfl), (Nat.le_of_ble_eq_true rfl)⟩ (fun r275 n275 h275 e275 => ?_)
                  obtain ⟨rfl, rfl, S4, J4, HW4, rs4⟩ := e275
                  have H := HW4.1
                  obtain ⟨fs, Ha, Hf⟩ := id H.1
                  have ho := HW4.2.1
                  rcases hz5 : gathF (rdF md Ff Z) 505 b 25 with _ | e
                  · refine gi_istore (q := 280) C (dm_Mo_array 154 rfl) rfl (Nat.le_of_ble_eq_true rfl) ?_
                    refine gi_aload_n (q := 281) (i := 0) C (dm_Mo_array 155 rfl) rfl rfl rfl ?_
                    refine gi_get (q := 284) C (dm_Mo_array 156 rfl) rfl fl_Mo_242 Ha (mo_g22 Hf) ?_
                    refine gi_lstore (q := 286) C (dm_Mo_array 157 rfl) rfl (Nat.le_of_ble_eq_true rfl) ?_
                    refine gi_aload_n (q := 287) (i := 0) C (dm_Mo_array 158 rfl) rfl rfl rfl ?_
                    refine gi_get (q := 290) C (dm_Mo_array 159 rfl) rfl fl_Mo_246 Ha (mo_g23 Hf) ?_
                    refine gi_lstore (q := 292) C (dm_Mo_array 160 rfl) rfl (Nat.le_of_ble_eq_true rfl) ?_
                    refine gi_aload_n (q := 293) (i := 0) C (dm_Mo_array 161 rfl) rfl rfl rfl ?_
                    refine gi_get (q := 296) C (dm_Mo_array 162 rfl) rfl fl_Mo_249 Ha (mo_g24 Hf) ?_
                    refine gi_lstore (q := 298) C (dm_Mo_array 163 rfl) rfl (Nat.le_of_ble_eq_true rfl) ?_
                    refine gi_aload_n (q := 299) (i := 0) C (dm_Mo_array 164 rfl) rfl rfl rfl ?_
                    refine gi_iload_n (q := 300) (i := 3) C (dm_Mo_array 165 rfl) rfl rfl rfl ?_
                    refine gi_put (q := 303) C (dm_Mo_array 166 rfl) rfl fl_Mo_357 fp_Mo_58 Ha (by rw [Hf.1]; decide) rfl rfl ?_
                    refine gi_genM (H.putI Ha Hf (by decide) rfl) (ho.up (by omega) (by omega)) (fun y H ho => ?_)
                    obtain ⟨fs, Ha, Hf⟩ := id H.1
                    have HW5 := HW4.top (n1 := n0 - 2) (by omega) (by omega) H ho
                    refine gi_aload_n (q := 304) (i := 0) C (dm_Mo_array 167 rfl) rfl rfl rfl ?_
                    refine gi_iload (q := 306) C (dm_Mo_array 168 rfl) rfl rfl ?_
                    refine gi_iload (q := 308) C (dm_Mo_array 169 rfl) rfl rfl ?_
                    refine gi_iconst (q := 309) (v := 0) C (dm_Mo_array 170 rfl) rfl (by decide) ?_
                    refine gi_callv 3 (q := 312) C (dm_Mo_array 171 rfl) rfl my_Mo_markedSet lk_Mo_489 im_Mo_markedSet rfl (ww_markedSet HW5 b false mk2 hloc) Ha rfl rfl ⟨(Nat.le_of_ble_eq_true rfl), (Nat.le_of_ble_eq_true rfl)⟩ (Nat.le_of_ble_eq_true rfl) ⟨(Nat.le_of_ble_eq_true rfl), (Nat.le_of_ble_eq_true rfl)⟩ (fun r309 n309 h309 e309 => ?_)
                    obtain ⟨rfl, rfl, S6, J6, F6, G6, HW6⟩ := e309
                    have H := HW6.1
                    obtain ⟨fs, Ha, Hf⟩ := id H.1
                    have ho := HW6.2.1
                    refine gi_aload_n (q := 313) (i := 0) C (dm_Mo_array 172 rfl) rfl rfl rfl ?_
                    refine gi_iload (q := 315) C (dm_Mo_array 173 rfl) rfl rfl ?_
                    refine gi_lload (q := 317) C (dm_Mo_array 174 rfl) rfl rfl ?_
                    refine gi_lload (q := 319) C (dm_Mo_array 175 rfl) rfl rfl ?_
                    refine gi_lload (q := 321) C (dm_Mo_array 176 rfl) rfl rfl ?_
                    refine gi_callv 4 (q := 324) C (dm_Mo_array 177 rfl) rfl my_Mo_markedSpan lk_Mo_486 im_Mo_markedSpan rfl (ww_markedSpan HW6 u mk1 (fun i hi => by rw [tellF_2]; exact hloc i hi)) Ha rfl rfl ⟨(Nat.le_of_ble_eq_true rfl), (Nat.le_of_ble_eq_true rfl)⟩ (Nat.le_of_ble_eq_true rfl) ⟨(Nat.le_of_ble_eq_true rfl), (Nat.le_of_ble_eq_true rfl)⟩ (fun r321 n321 h321 e321 => ?_)
                    obtain ⟨rfl, rfl, S7, J7, F7, G7, HW7⟩ := e321
                    have H := HW7.1
                    obtain ⟨fs, Ha, Hf⟩ := id H.1
                    have ho := HW7.2.1
                    refine gi_iload_n (q := 325) (i := 1) C (dm_Mo_array 178 rfl) rfl rfl rfl ?_
                    refine gi_bipush (q := 327) (v := 30) C (dm_Mo_array 179 rfl) rfl (by decide) ?_
                    refine gi_icmp_ne (q := 330) (tgt := 346) C (dm_Mo_array 180 rfl) rfl (by decide) (fun c327 => ?_) (fun c327 => ?_)
                    · exact absurd rfl c327
                    · refine gi_iload (q := 332) C (dm_Mo_array 181 rfl) rfl rfl ?_
                      refine gi_if_ne (q := 335) (tgt := 336) C (dm_Mo_array 182 rfl) rfl (by decide) (fun c332 => ?_) (fun c332 => ?_)
                      · exact absurd rfl c332
                      · refine gi_vret C hr (dm_Mo_array 183 rfl) ?_
                        exact ⟨rfl, rfl, HW7.end⟩
                  · have rs5 := rsJ (rs4 _ hz5)
                    have hg := hg z hz u eu e hz5
                    refine gi_istore (q := 280) C (dm_Mo_array 154 rfl) rfl (Nat.le_of_ble_eq_true rfl) ?_
                    refine gi_aload_n (q := 281) (i := 0) C (dm_Mo_array 155 rfl) rfl rfl rfl ?_
                    refine gi_get (q := 284) C (dm_Mo_array 156 rfl) rfl fl_Mo_242 Ha (mo_g22 Hf) ?_
                    rw [rs5.1]
                    refine gi_lstore (q := 286) C (dm_Mo_array 157 rfl) rfl (Nat.le_of_ble_eq_true rfl) ?_
                    refine gi_aload_n (q := 287) (i := 0) C (dm_Mo_array 158 rfl) rfl rfl rfl ?_
                    refine gi_get (q := 290) C (dm_Mo_array 159 rfl) rfl fl_Mo_246 Ha (mo_g23 Hf) ?_
                    rw [rs5.2.1]
                    refine gi_lstore (q := 292) C (dm_Mo_array 160 rfl) rfl (Nat.le_of_ble_eq_true rfl) ?_
                    refine gi_aload_n (q := 293) (i := 0) C (dm_Mo_array 161 rfl) rfl rfl rfl ?_
                    refine gi_get (q := 296) C (dm_Mo_array 162 rfl) rfl fl_Mo_249 Ha (mo_g24 Hf) ?_
                    rw [rs5.2.2]
                    refine gi_lstore (q := 298) C (dm_Mo_array 163 rfl) rfl (Nat.le_of_ble_eq_true rfl) ?_
                    refine gi_aload_n (q := 299) (i := 0) C (dm_Mo_array 164 rfl) rfl rfl rfl ?_
                    refine gi_iload_n (q := 300) (i := 3) C (dm_Mo_array 165 rfl) rfl rfl rfl ?_
                    refine gi_put (q := 303) C (dm_Mo_array 166 rfl) rfl fl_Mo_357 fp_Mo_58 Ha (by rw [Hf.1]; decide) rfl rfl ?_
                    refine gi_genM (H.putI Ha Hf (by decide) rfl) (ho.up (by omega) (by omega)) (fun y H ho => ?_)
                    obtain ⟨fs, Ha, Hf⟩ := id H.1
                    have HW5 := HW4.top (n1 := n0 - 2) (by omega) (by omega) H ho
                    refine gi_aload_n (q := 304) (i := 0) C (dm_Mo_array 167 rfl) rfl rfl rfl ?_
                    refine gi_iload (q := 306) C (dm_Mo_array 168 rfl) rfl rfl ?_
                    refine gi_iload (q := 308) C (dm_Mo_array 169 rfl) rfl rfl ?_
                    refine gi_iconst (q := 309) (v := 0) C (dm_Mo_array 170 rfl) rfl (by decide) ?_
                    refine gi_callv 3 (q := 312) C (dm_Mo_array 171 rfl) rfl my_Mo_markedSet lk_Mo_489 im_Mo_markedSet rfl (ww_markedSet HW5 b false mk2 hloc) Ha rfl rfl ⟨(Nat.le_of_ble_eq_true rfl), (Nat.le_of_ble_eq_true rfl)⟩ (Nat.le_of_ble_eq_true rfl) ⟨(Nat.le_of_ble_eq_true rfl), (Nat.le_of_ble_eq_true rfl)⟩ (fun r309 n309 h309 e309 => ?_)
                    obtain ⟨rfl, rfl, S6, J6, F6, G6, HW6⟩ := e309
                    have H := HW6.1
                    obtain ⟨fs, Ha, Hf⟩ := id H.1
                    have ho := HW6.2.1
                    refine gi_aload_n (q := 313) (i := 0) C (dm_Mo_array 172 rfl) rfl rfl rfl ?_
                    refine gi_iload (q := 315) C (dm_Mo_array 173 rfl) rfl rfl ?_
                    refine gi_lload (q := 317) C (dm_Mo_array 174 rfl) rfl rfl ?_
                    refine gi_lload (q := 319) C (dm_Mo_array 175 rfl) rfl rfl ?_
                    refine gi_lload (q := 321) C (dm_Mo_array 176 rfl) rfl rfl ?_
                    refine gi_callv 4 (q := 324) C (dm_Mo_array 177 rfl) rfl my_Mo_markedSpan lk_Mo_486 im_Mo_markedSpan rfl (ww_markedSpan HW6 u mk1 (fun i hi => by rw [tellF_2]; exact hloc i hi)) Ha rfl rfl ⟨(Nat.le_of_ble_eq_true rfl), (Nat.le_of_ble_eq_true rfl)⟩ (Nat.le_of_ble_eq_true rfl) ⟨(Nat.le_of_ble_eq_true rfl), (Nat.le_of_ble_eq_true rfl)⟩ (fun r321 n321 h321 e321 => ?_)
                    obtain ⟨rfl, rfl, S7, J7, F7, G7, HW7⟩ := e321
                    have H := HW7.1
                    obtain ⟨fs, Ha, Hf⟩ := id H.1
                    have ho := HW7.2.1
                    refine gi_iload_n (q := 325) (i := 1) C (dm_Mo_array 178 rfl) rfl rfl rfl ?_
                    refine gi_bipush (q := 327) (v := 30) C (dm_Mo_array 179 rfl) rfl (by decide) ?_
                    refine gi_icmp_ne (q := 330) (tgt := 346) C (dm_Mo_array 180 rfl) rfl (by decide) (fun c327 => ?_) (fun c327 => ?_)
                    · exact absurd rfl c327
                    · refine gi_iload (q := 332) C (dm_Mo_array 181 rfl) rfl rfl ?_
                      refine gi_if_ne (q := 335) (tgt := 336) C (dm_Mo_array 182 rfl) rfl (by decide) (fun c332 => ?_) (fun c332 => ?_)
                      · refine gi_aload_n (q := 337) (i := 0) C (dm_Mo_array 184 rfl) rfl rfl rfl ?_
                        refine gi_lload (q := 339) C (dm_Mo_array 185 rfl) rfl rfl ?_
                        refine gi_lload (q := 341) C (dm_Mo_array 186 rfl) rfl rfl ?_
                        refine gi_lload (q := 343) C (dm_Mo_array 187 rfl) rfl rfl ?_
                        refine gi_callv 3 (q := 346) C (dm_Mo_array 188 rfl) rfl my_Mo_pushSpan lk_Mo_431 im_Mo_pushSpan rfl (ww_pushSpan HW7 e (by omega)) Ha rfl rfl ⟨(Nat.le_of_ble_eq_true rfl), (Nat.le_of_ble_eq_true rfl)⟩ (Nat.le_of_ble_eq_true rfl) ⟨(Nat.le_of_ble_eq_true rfl), (Nat.le_of_ble_eq_true rfl)⟩ (fun r343 n343 h343 e343 => ?_)
                        obtain ⟨rfl, rfl, S8, J8, F8, G8, HW8⟩ := e343
                        have H := HW8.1
                        obtain ⟨fs, Ha, Hf⟩ := id H.1
                        have ho := HW8.2.1
                        rw [show n0 - 2 + 1 = n0 - 1 by omega] at HW8
                        refine gi_aload_n (q := 347) (i := 0) C (dm_Mo_array 189 rfl) rfl rfl rfl ?_
                        refine gi_iload_n (q := 348) (i := 2) C (dm_Mo_array 190 rfl) rfl rfl rfl ?_
                        refine gi_callv 1 (q := 351) C (dm_Mo_array 191 rfl) rfl my_Mo_comeTo lk_Mo_434 im_Mo_comeTo rfl (ww_comeTo HW8 B hmd hm hi hx hL hg) Ha rfl rfl ⟨(Nat.le_of_ble_eq_true rfl), (Nat.le_of_ble_eq_true rfl)⟩ (Nat.le_of_ble_eq_true rfl) ⟨(Nat.le_of_ble_eq_true rfl), (Nat.le_of_ble_eq_true rfl)⟩ (fun r348 n348 h348 e348 => ?_)
                        obtain ⟨rfl, rfl, S9, J9, F9, G9, HW9, fz9⟩ := e348
                        have H := HW9.1
                        obtain ⟨fs, Ha, Hf⟩ := id H.1
                        have ho := HW9.2.1
                        refine gi_vret C hr (dm_Mo_array 192 rfl) ?_
                        exact ⟨rfl, rfl, HW9.end⟩
                      · exact absurd (bI_fa c332) (by simp)
                · exact absurd c202 (by decide)
              · refine gi_vret C hr (dm_Mo_array 96 rfl) ?_
                have en : withinS X 0 (z.2.1 - 1) = none := by
                  cases e9 : withinS X 0 (z.2.1 - 1) with
                  | none => rfl
                  | some u9 => rw [e9] at c168; exact absurd (bI_fa c168) (by simp)
                rw [en]
                exact ⟨rfl, rfl, HW3.end⟩
          · exact absurd c94 (by decide)
      · refine gi_vret C hr (dm_Mo_array 37 rfl) ?_
        have en : gathF (rdF md Ff Z) 480 b 25 = none := by rw [c60]; exact gath_z 25
        rw [en]
        exact ⟨rfl, rfl, HW.end⟩
  · exact absurd c3 (by decide)
set_option maxHeartbeats 4000000 in
set_option maxRecDepth 100000 in
theorem ww_array31 (HW : WW M k P sh md Ff κ h S0 J0 F0 G0 Z L n0 f S J F G y) (B : Built k P sh (siN k P sh) (wdF k P)) (hmd : md ≤ 2) {a : Nat} (hm : a < k) (hi : i < pN P 5 a) (hx : sh (60 * a + i) = some x) (hL : pN P 2 a = L) {b : Int32} {q : Bool} {X Y : Sp} (hn : L + 3 ≤ n0) (er : (f (n0 - 3)).1 = .inr (b, q)) (ex : (f (n0 - 2)).1 = .inl X) (ey : (f (n0 - 1)).1 = .inl Y) (okX : okS X) (okY : okS Y) (hR : okF (tyF P sh) (rdF md Ff Z)) (mk2 : (f (n0 - 2)).2 = -1 ∨ ∃ j, j < L ∧ (f (n0 - 2)).2 = nI j) (mk3 : (f (n0 - 3)).2 = -1 ∨ ∃ j, j < L ∧ (f (n0 - 3)).2 = nI j) (hloc : ∀ i, i < L → (f i).2 = -1) (hg : ∀ z, gathF (rdF md Ff Z) 480 b 25 = some z → ∀ u, withinS X 0 (z.2.1 - 1) = some u → tyG P a x (n0 - 3) (tellF (n0 - 3) (tellF (n0 - 3) f (f (n0 - 3)).2 (.inr (b, false))) (f (n0 - 2)).2 (.inl u))) : gi_T l V y_Mo_array b_Mo_array 27 none 4 94 0 0 [.ref M, .int (nI 31), .int (nI (60 * a + i))] n y (fun v n' h' => v = none ∧ n' = n ∧ spP M k P sh md Ff κ h S0 J0 F0 G0 (match gathF (rdF md Ff Z) 480 b 25 with | none => Z | some z => match withinS X 0 (z.2.1 - 1) with | none => Z | some u => comeM md (grF (wdF k P)) (putF md (grF (wdF k P)) Z b (.inl Y) 25) (60 * a + i, n0 - 3, tellF (n0 - 3) (tellF (n0 - 3) f (f (n0 - 3)).2 (.inr (b, false))) (f (n0 - 2)).2 (.inl u))) h') := by
  refine gi_enter (by decide) (Nat.le_of_ble_eq_true rfl) ?_
  intro _ _ _ _ _ _ _ _ C hr hnm
  have H := HW.1
  obtain ⟨fs, Ha, Hf⟩ := id H.1
  have ho := HW.2.1
  obtain ⟨f1, f2, f3, f4⟩ := HW.fb
  have hs4 : ∀ s, s < 25 → (rdF md Ff Z (480 + s)).told = true → okS (spA ((rdF md Ff Z (480 + s)).f 0).1) := fun s hs ht => (tv_one hR (by omega) (by omega) ht).2
  refine gi_iload_n (q := 1) (i := 1) C (dm_Mo_array 0 rfl) rfl rfl rfl ?_
  refine gi_bipush (q := 3) (v := 29) C (dm_Mo_array 1 rfl) rfl (by decide) ?_
  refine gi_icmp_ne (q := 6) (tgt := 15) C (dm_Mo_array 2 rfl) rfl (by decide) (fun c3 => ?_) (fun c3 => ?_)
  · refine gi_iload_n (q := 16) (i := 1) C (dm_Mo_array 8 rfl) rfl rfl rfl ?_
    refine gi_bipush (q := 18) (v := 30) C (dm_Mo_array 9 rfl) rfl (by decide) ?_
    refine gi_icmp_ne (q := 21) (tgt := 30) C (dm_Mo_array 10 rfl) rfl (by decide) (fun c18 => ?_) (fun c18 => ?_)
    · refine gi_aload_n (q := 31) (i := 0) C (dm_Mo_array 16 rfl) rfl rfl rfl ?_
      refine gi_get (q := 34) C (dm_Mo_array 17 rfl) rfl fl_Mo_357 Ha (mo_g58 Hf) ?_
      refine gi_iconst (q := 35) (v := 3) C (dm_Mo_array 18 rfl) rfl (by decide) ?_
      refine gi_isub (q := 36) C (dm_Mo_array 19 rfl) rfl ?_
      rw [f4, show (3 : Int32) = nI 3 from rfl, nI_sb (by omega) (by omega), show n0 - L + 6 - 3 = n0 - 3 - L + 6 by omega]
      have ss := HW.st (show n0 - 3 < n0 by omega) er
      have sm := HW.mk (show n0 - 3 < n0 by omega) (by omega)
      rw [sl_t (by omega)] at ss sm
      refine gi_istore_n (q := 37) (i := 3) C (dm_Mo_array 20 rfl) rfl rfl (Nat.le_of_ble_eq_true rfl) ?_
      refine gi_iload_n (q := 38) (i := 3) C (dm_Mo_array 21 rfl) rfl rfl rfl ?_
      refine gi_iconst (q := 39) (v := 1) C (dm_Mo_array 22 rfl) rfl (by decide) ?_
      refine gi_iadd (q := 40) C (dm_Mo_array 23 rfl) rfl ?_
      rw [nI_1]
      rw [show n0 - 3 - L + 6 + 1 = n0 - 2 - L + 6 by omega]
      refine gi_istore (q := 42) C (dm_Mo_array 24 rfl) rfl (Nat.le_of_ble_eq_true rfl) ?_
      refine gi_aload_n (q := 43) (i := 0) C (dm_Mo_array 25 rfl) rfl rfl rfl ?_
      refine gi_get (q := 46) C (dm_Mo_array 26 rfl) rfl fl_Mo_113 Ha (mo_g55 Hf) ?_
      refine gi_iload_n (q := 47) (i := 3) C (dm_Mo_array 27 rfl) rfl rfl rfl ?_
      refine gi_iald (q := 48) C (dm_Mo_array 28 rfl) rfl rfl (mo_a55 H) (inN (show n0 - 3 - L + 6 < 14 by omega) (by decide)) ?_
      rw [nI_clamp (show n0 - 3 - L + 6 < 2 ^ 31 by omega), ss.1]
      refine gi_istore (q := 50) C (dm_Mo_array 29 rfl) rfl (Nat.le_of_ble_eq_true rfl) ?_
      refine gi_aload_n (q := 51) (i := 0) C (dm_Mo_array 30 rfl) rfl rfl rfl ?_
      refine gi_get (q := 54) C (dm_Mo_array 31 rfl) rfl fl_Mo_119 Ha (mo_g57 Hf) ?_
      refine gi_iload_n (q := 55) (i := 3) C (dm_Mo_array 32 rfl) rfl rfl rfl ?_
      refine gi_iald (q := 56) C (dm_Mo_array 33 rfl) rfl rfl (mo_a57 H) (inN (show n0 - 3 - L + 6 < 14 by omega) (by decide)) ?_
      rw [nI_clamp (show n0 - 3 - L + 6 < 2 ^ 31 by omega), sm]
      refine gi_istore (q := 58) C (dm_Mo_array 34 rfl) rfl (Nat.le_of_ble_eq_true rfl) ?_
      refine gi_iload (q := 60) C (dm_Mo_array 35 rfl) rfl rfl ?_
      refine gi_if_ne (q := 63) (tgt := 64) C (dm_Mo_array 36 rfl) rfl (by decide) (fun c60 => ?_) (fun c60 => ?_)
      · refine gi_aload_n (q := 65) (i := 0) C (dm_Mo_array 38 rfl) rfl rfl rfl ?_
        refine gi_iload (q := 67) C (dm_Mo_array 39 rfl) rfl rfl ?_
        refine gi_iconst (q := 68) (v := 0) C (dm_Mo_array 40 rfl) rfl (by decide) ?_
        rw [show (0 : Int32) = nI 0 from rfl]
        refine gi_callv 2 (q := 71) C (dm_Mo_array 41 rfl) rfl my_Mo_ofSites lk_Mo_492 im_Mo_ofSites rfl (ww_ofSites HW b (Or.inl ⟨rfl, rfl⟩) hR) Ha rfl rfl ⟨(Nat.le_of_ble_eq_true rfl), (Nat.le_of_ble_eq_true rfl)⟩ (Nat.le_of_ble_eq_true rfl) ⟨(Nat.le_of_ble_eq_true rfl), (Nat.le_of_ble_eq_true rfl)⟩ (fun r68 n68 h68 e68 => ?_)
        obtain ⟨rfl, rfl, S2, J2, HW2, rs2⟩ := e68
        have H := HW2.1
        obtain ⟨fs, Ha, Hf⟩ := id H.1
        have ho := HW2.2.1
        rcases hz : gathF (rdF md Ff Z) 480 b 25 with _ | z
        · refine gi_istore (q := 73) C (dm_Mo_array 42 rfl) rfl (Nat.le_of_ble_eq_true rfl) ?_
          refine gi_aload_n (q := 74) (i := 0) C (dm_Mo_array 43 rfl) rfl rfl rfl ?_
          refine gi_get (q := 77) C (dm_Mo_array 44 rfl) rfl fl_Mo_242 Ha (mo_g22 Hf) ?_
          refine gi_lstore (q := 79) C (dm_Mo_array 45 rfl) rfl (Nat.le_of_ble_eq_true rfl) ?_
          refine gi_aload_n (q := 80) (i := 0) C (dm_Mo_array 46 rfl) rfl rfl rfl ?_
          refine gi_get (q := 83) C (dm_Mo_array 47 rfl) rfl fl_Mo_246 Ha (mo_g23 Hf) ?_
          refine gi_lstore (q := 85) C (dm_Mo_array 48 rfl) rfl (Nat.le_of_ble_eq_true rfl) ?_
          refine gi_aload_n (q := 86) (i := 0) C (dm_Mo_array 49 rfl) rfl rfl rfl ?_
          refine gi_get (q := 89) C (dm_Mo_array 50 rfl) rfl fl_Mo_249 Ha (mo_g24 Hf) ?_
          refine gi_lstore (q := 91) C (dm_Mo_array 51 rfl) rfl (Nat.le_of_ble_eq_true rfl) ?_
          refine gi_iload_n (q := 92) (i := 1) C (dm_Mo_array 52 rfl) rfl rfl rfl ?_
          refine gi_bipush (q := 94) (v := 29) C (dm_Mo_array 53 rfl) rfl (by decide) ?_
          refine gi_icmp_ne (q := 97) (tgt := 133) C (dm_Mo_array 54 rfl) rfl (by decide) (fun c94 => ?_) (fun c94 => ?_)
          · refine gi_iload (q := 135) C (dm_Mo_array 75 rfl) rfl rfl ?_
            refine gi_if_eq (q := 138) (tgt := 171) C (dm_Mo_array 76 rfl) rfl (by decide) (fun c135 => ?_) (fun c135 => ?_)
            · refine gi_vret C hr (dm_Mo_array 96 rfl) ?_
              exact ⟨rfl, rfl, HW2.end⟩
            · exact absurd rfl c135
          · exact absurd c94 (by decide)
        · have rs9 := rsJ (rs2 _ hz)
          dsimp only
          refine gi_istore (q := 73) C (dm_Mo_array 42 rfl) rfl (Nat.le_of_ble_eq_true rfl) ?_
          refine gi_aload_n (q := 74) (i := 0) C (dm_Mo_array 43 rfl) rfl rfl rfl ?_
          refine gi_get (q := 77) C (dm_Mo_array 44 rfl) rfl fl_Mo_242 Ha (mo_g22 Hf) ?_
          rw [rs9.1]
          refine gi_lstore (q := 79) C (dm_Mo_array 45 rfl) rfl (Nat.le_of_ble_eq_true rfl) ?_
          refine gi_aload_n (q := 80) (i := 0) C (dm_Mo_array 46 rfl) rfl rfl rfl ?_
          refine gi_get (q := 83) C (dm_Mo_array 47 rfl) rfl fl_Mo_246 Ha (mo_g23 Hf) ?_
          rw [rs9.2.1]
          refine gi_lstore (q := 85) C (dm_Mo_array 48 rfl) rfl (Nat.le_of_ble_eq_true rfl) ?_
          refine gi_aload_n (q := 86) (i := 0) C (dm_Mo_array 49 rfl) rfl rfl rfl ?_
          refine gi_get (q := 89) C (dm_Mo_array 50 rfl) rfl fl_Mo_249 Ha (mo_g24 Hf) ?_
          rw [rs9.2.2]
          refine gi_lstore (q := 91) C (dm_Mo_array 51 rfl) rfl (Nat.le_of_ble_eq_true rfl) ?_
          refine gi_iload_n (q := 92) (i := 1) C (dm_Mo_array 52 rfl) rfl rfl rfl ?_
          refine gi_bipush (q := 94) (v := 29) C (dm_Mo_array 53 rfl) rfl (by decide) ?_
          refine gi_icmp_ne (q := 97) (tgt := 133) C (dm_Mo_array 54 rfl) rfl (by decide) (fun c94 => ?_) (fun c94 => ?_)
          · refine gi_iload (q := 135) C (dm_Mo_array 75 rfl) rfl rfl ?_
            refine gi_if_eq (q := 138) (tgt := 171) C (dm_Mo_array 76 rfl) rfl (by decide) (fun c135 => ?_) (fun c135 => ?_)
            · exact absurd (bI_fa c135) (by simp)
            · have sx := HW2.sp (show n0 - 2 < n0 by omega) ex
              have sn := HW2.mk (show n0 - 2 < n0 by omega) (by omega)
              rw [sl_t (by omega)] at sx sn
              obtain ⟨z1, z2, z3, -⟩ := gath_ok hs4 25 (by omega) z hz
              refine gi_aload_n (q := 139) (i := 0) C (dm_Mo_array 77 rfl) rfl rfl rfl ?_
              refine gi_aload_n (q := 140) (i := 0) C (dm_Mo_array 78 rfl) rfl rfl rfl ?_
              refine gi_get (q := 143) C (dm_Mo_array 79 rfl) rfl fl_Mo_104 Ha (mo_g52 Hf) ?_
              refine gi_iload (q := 145) C (dm_Mo_array 80 rfl) rfl rfl ?_
              refine gi_lald (q := 146) C (dm_Mo_array 81 rfl) rfl rfl (mo_a52 H) (inN (show n0 - 2 - L + 6 < 14 by omega) (by decide)) ?_
              rw [nI_clamp (show n0 - 2 - L + 6 < 2 ^ 31 by omega), sx.1]
              refine gi_aload_n (q := 147) (i := 0) C (dm_Mo_array 82 rfl) rfl rfl rfl ?_
              refine gi_get (q := 150) C (dm_Mo_array 83 rfl) rfl fl_Mo_107 Ha (mo_g53 Hf) ?_
              refine gi_iload (q := 152) C (dm_Mo_array 84 rfl) rfl rfl ?_
              refine gi_lald (q := 153) C (dm_Mo_array 85 rfl) rfl rfl (mo_a53 H) (inN (show n0 - 2 - L + 6 < 14 by omega) (by decide)) ?_
              rw [nI_clamp (show n0 - 2 - L + 6 < 2 ^ 31 by omega), sx.2.1]
              refine gi_aload_n (q := 154) (i := 0) C (dm_Mo_array 86 rfl) rfl rfl rfl ?_
              refine gi_get (q := 157) C (dm_Mo_array 87 rfl) rfl fl_Mo_110 Ha (mo_g54 Hf) ?_
              refine gi_iload (q := 159) C (dm_Mo_array 88 rfl) rfl rfl ?_
              refine gi_lald (q := 160) C (dm_Mo_array 89 rfl) rfl rfl (mo_a54 H) (inN (show n0 - 2 - L + 6 < 14 by omega) (by decide)) ?_
              rw [nI_clamp (show n0 - 2 - L + 6 < 2 ^ 31 by omega), sx.2.2]
              refine gi_lconst (q := 161) (v := 0) C (dm_Mo_array 90 rfl) rfl (by decide) ?_
              refine gi_lload (q := 163) C (dm_Mo_array 91 rfl) rfl rfl ?_
              refine gi_lconst (q := 164) (v := 1) C (dm_Mo_array 92 rfl) rfl (by decide) ?_
              refine gi_lsub (q := 165) C (dm_Mo_array 93 rfl) rfl ?_
              rw [show (0 : Int64) = eL 0 from rfl, show (1 : Int64) = eL 1 from rfl, eL_sub]
              refine gi_callv 5 (q := 168) C (dm_Mo_array 94 rfl) rfl my_Mo_within lk_Mo_317 im_Mo_within rfl (ww_within HW2 X 0 (z.2.1 - 1) okX (by decide) (by decide) (by omega) (by omega)) Ha rfl rfl ⟨(Nat.le_of_ble_eq_true rfl), (Nat.le_of_ble_eq_true rfl)⟩ (Nat.le_of_ble_eq_true rfl) ⟨(Nat.le_of_ble_eq_true rfl), (Nat.le_of_ble_eq_true rfl)⟩ (fun r165 n165 h165 e165 => ?_)
              obtain ⟨rfl, rfl, S3, J3, HW3, rs3⟩ := e165
              have H := HW3.1
              obtain ⟨fs, Ha, Hf⟩ := id H.1
              have ho := HW3.2.1
              refine gi_if_ne (q := 171) (tgt := 172) C (dm_Mo_array 95 rfl) rfl (by decide) (fun c168 => ?_) (fun c168 => ?_)
              · obtain ⟨u, eu⟩ : ∃ u, withinS X 0 (z.2.1 - 1) = some u := Option.isSome_iff_exists.mp (bI_t c168)
                have rs8 := rsJ (rs3 _ eu)
                have oku := (within_ok okX eu).1
                rw [eu]
                refine gi_aload_n (q := 173) (i := 0) C (dm_Mo_array 97 rfl) rfl rfl rfl ?_
                refine gi_get (q := 176) C (dm_Mo_array 98 rfl) rfl fl_Mo_242 Ha (mo_g22 Hf) ?_
                rw [rs8.1]
                refine gi_lstore (q := 178) C (dm_Mo_array 99 rfl) rfl (Nat.le_of_ble_eq_true rfl) ?_
                refine gi_aload_n (q := 179) (i := 0) C (dm_Mo_array 100 rfl) rfl rfl rfl ?_
                refine gi_get (q := 182) C (dm_Mo_array 101 rfl) rfl fl_Mo_246 Ha (mo_g23 Hf) ?_
                rw [rs8.2.1]
                refine gi_lstore (q := 184) C (dm_Mo_array 102 rfl) rfl (Nat.le_of_ble_eq_true rfl) ?_
                refine gi_aload_n (q := 185) (i := 0) C (dm_Mo_array 103 rfl) rfl rfl rfl ?_
                refine gi_get (q := 188) C (dm_Mo_array 104 rfl) rfl fl_Mo_249 Ha (mo_g24 Hf) ?_
                rw [rs8.2.2]
                refine gi_lstore (q := 190) C (dm_Mo_array 105 rfl) rfl (Nat.le_of_ble_eq_true rfl) ?_
                refine gi_aload_n (q := 191) (i := 0) C (dm_Mo_array 106 rfl) rfl rfl rfl ?_
                refine gi_get (q := 194) C (dm_Mo_array 107 rfl) rfl fl_Mo_119 Ha (mo_g57 Hf) ?_
                refine gi_iload (q := 196) C (dm_Mo_array 108 rfl) rfl rfl ?_
                refine gi_iald (q := 197) C (dm_Mo_array 109 rfl) rfl rfl (mo_a57 H) (inN (show n0 - 2 - L + 6 < 14 by omega) (by decide)) ?_
                rw [nI_clamp (show n0 - 2 - L + 6 < 2 ^ 31 by omega), sn]
                refine gi_istore (q := 199) C (dm_Mo_array 110 rfl) rfl (Nat.le_of_ble_eq_true rfl) ?_
                refine gi_iload_n (q := 200) (i := 1) C (dm_Mo_array 111 rfl) rfl rfl rfl ?_
                refine gi_bipush (q := 202) (v := 31) C (dm_Mo_array 112 rfl) rfl (by decide) ?_
                refine gi_icmp_ne (q := 205) (tgt := 270) C (dm_Mo_array 113 rfl) rfl (by decide) (fun c202 => ?_) (fun c202 => ?_)
                · exact absurd rfl c202
                · refine gi_iload_n (q := 206) (i := 3) C (dm_Mo_array 114 rfl) rfl rfl rfl ?_
                  refine gi_iconst (q := 207) (v := 2) C (dm_Mo_array 115 rfl) rfl (by decide) ?_
                  refine gi_iadd (q := 208) C (dm_Mo_array 116 rfl) rfl ?_
                  rw [show (2 : Int32) = nI 2 from rfl, nI_add, show n0 - 3 - L + 6 + 2 = n0 - 1 - L + 6 by omega]
                  refine gi_istore (q := 210) C (dm_Mo_array 117 rfl) rfl (Nat.le_of_ble_eq_true rfl) ?_
                  refine gi_iconst (q := 211) (v := 0) C (dm_Mo_array 118 rfl) rfl (by decide) ?_
                  refine gi_istore (q := 213) C (dm_Mo_array 119 rfl) rfl (Nat.le_of_ble_eq_true rfl) ?_
                  refine gi_while (σ := Nat) (fun j => 25 - j) (fun j => [(22, .int (nI j)), (21, .int (nI (n0 - 1 - L + 6))), (20, .int (f (n0 - 2)).2), (18, .long (eL u.2.2)), (16, .long (eL u.2.1)), (14, .long (eL u.1)), (6, .int (f (n0 - 3)).2), (5, .int b), (3, .int (nI (n0 - 3 - L + 6))), (2, .int (nI (60 * a + i))), (1, .int (nI 31)), (0, .ref M)]) (fun _ => n165) (fun _ => 0) (fun _ => 0) (fun j y' => j ≤ 25 ∧ ∃ S4 J4 F4 G4, WW M k P sh md Ff κ h S0 J0 F0 G0 (putF md (grF (wdF k P)) Z b (.inl Y) j) L n0 f S4 J4 F4 G4 y') 0 ⟨Nat.zero_le _, _, _, _, _, HW3⟩ ?_ (List.forall_mem_cons.mpr ⟨(by first | rfl | (simp [gi_look]; done)), List.forall_mem_cons.mpr ⟨(by first | rfl | (simp [gi_look]; done)), List.forall_mem_cons.mpr ⟨(by first | rfl | (simp [gi_look]; done)), List.forall_mem_cons.mpr ⟨(by first | rfl | (simp [gi_look]; done)), List.forall_mem_cons.mpr ⟨(by first | rfl | (simp [gi_look]; done)), List.forall_mem_cons.mpr ⟨(by first | rfl | (simp [gi_look]; done)), List.forall_mem_cons.mpr ⟨(by first | rfl | (simp [gi_look]; done)), List.forall_mem_cons.mpr ⟨(by first | rfl | (simp [gi_look]; done)), List.forall_mem_cons.mpr ⟨(by first | rfl | (simp [gi_look]; done)), List.forall_mem_cons.mpr ⟨(by first | rfl | (simp [gi_look]; done)), List.forall_mem_cons.mpr ⟨(by first | rfl | (simp [gi_look]; done)), List.forall_mem_cons.mpr ⟨(by first | rfl | (simp [gi_look]; done)), fun _ h => absurd h List.not_mem_nil⟩⟩⟩⟩⟩⟩⟩⟩⟩⟩⟩⟩) rfl rfl rfl
                  rintro j y' ⟨hj, S4, J4, F4, G4, HW4⟩ ihj
                  try dsimp only at *
                  have H := HW4.1
                  obtain ⟨fs, Ha, Hf⟩ := id H.1
                  have ho := HW4.2.1
                  refine gi_iload (q := 215) C (dm_Mo_array 120 rfl) rfl rfl ?_
                  refine gi_bipush (q := 217) (v := 25) C (dm_Mo_array 121 rfl) rfl (by decide) ?_
                  refine gi_icmp_ge (q := 220) (tgt := 267) C (dm_Mo_array 122 rfl) rfl (by decide) (fun c217 => ?_) (fun c217 => ?_)
                  · have jl : j = 25 := by
                      rcases Nat.lt_or_ge j (25) with q | q
                      · exact absurd c217 (Int32.not_le.mpr (nI_lt (b := 25) q (by omega)))
                      · omega
                    subst jl
                    refine gi_goto (tgt := 280) C (dm_Mo_array 149 rfl) (by decide) ?_
                    refine gi_aload_n (q := 281) (i := 0) C (dm_Mo_array 155 rfl) rfl rfl rfl ?_
                    refine gi_get (q := 284) C (dm_Mo_array 156 rfl) rfl fl_Mo_242 Ha (mo_g22 Hf) ?_
                    refine gi_lstore (q := 286) C (dm_Mo_array 157 rfl) rfl (Nat.le_of_ble_eq_true rfl) ?_
                    refine gi_aload_n (q := 287) (i := 0) C (dm_Mo_array 158 rfl) rfl rfl rfl ?_
                    refine gi_get (q := 290) C (dm_Mo_array 159 rfl) rfl fl_Mo_246 Ha (mo_g23 Hf) ?_
                    refine gi_lstore (q := 292) C (dm_Mo_array 160 rfl) rfl (Nat.le_of_ble_eq_true rfl) ?_
                    refine gi_aload_n (q := 293) (i := 0) C (dm_Mo_array 161 rfl) rfl rfl rfl ?_
                    refine gi_get (q := 296) C (dm_Mo_array 162 rfl) rfl fl_Mo_249 Ha (mo_g24 Hf) ?_
                    refine gi_lstore (q := 298) C (dm_Mo_array 163 rfl) rfl (Nat.le_of_ble_eq_true rfl) ?_
                    refine gi_aload_n (q := 299) (i := 0) C (dm_Mo_array 164 rfl) rfl rfl rfl ?_
                    refine gi_iload_n (q := 300) (i := 3) C (dm_Mo_array 165 rfl) rfl rfl rfl ?_
                    refine gi_put (q := 303) C (dm_Mo_array 166 rfl) rfl fl_Mo_357 fp_Mo_58 Ha (by rw [Hf.1]; decide) rfl rfl ?_
                    refine gi_genM (H.putI Ha Hf (by decide) rfl) (ho.up (by omega) (by omega)) (fun y H ho => ?_)
                    obtain ⟨fs, Ha, Hf⟩ := id H.1
                    have HW5 := HW4.top (n1 := n0 - 3) (by omega) (by omega) H ho
                    refine gi_aload_n (q := 304) (i := 0) C (dm_Mo_array 167 rfl) rfl rfl rfl ?_
                    refine gi_iload (q := 306) C (dm_Mo_array 168 rfl) rfl rfl ?_
                    refine gi_iload (q := 308) C (dm_Mo_array 169 rfl) rfl rfl ?_
                    refine gi_iconst (q := 309) (v := 0) C (dm_Mo_array 170 rfl) rfl (by decide) ?_
                    refine gi_callv 3 (q := 312) C (dm_Mo_array 171 rfl) rfl my_Mo_markedSet lk_Mo_489 im_Mo_markedSet rfl (ww_markedSet HW5 b false mk3 hloc) Ha rfl rfl ⟨(Nat.le_of_ble_eq_true rfl), (Nat.le_of_ble_eq_true rfl)⟩ (Nat.le_of_ble_eq_true rfl) ⟨(Nat.le_of_ble_eq_true rfl), (Nat.le_of_ble_eq_true rfl)⟩ (fun r309 n309 h309 e309 => ?_)
                    obtain ⟨rfl, rfl, S6, J6, F6, G6, HW6⟩ := e309
                    have H := HW6.1
                    obtain ⟨fs, Ha, Hf⟩ := id H.1
                    have ho := HW6.2.1
                    refine gi_aload_n (q := 313) (i := 0) C (dm_Mo_array 172 rfl) rfl rfl rfl ?_
                    refine gi_iload (q := 315) C (dm_Mo_array 173 rfl) rfl rfl ?_
                    refine gi_lload (q := 317) C (dm_Mo_array 174 rfl) rfl rfl ?_
                    refine gi_lload (q := 319) C (dm_Mo_array 175 rfl) rfl rfl ?_
                    refine gi_lload (q := 321) C (dm_Mo_array 176 rfl) rfl rfl ?_
                    refine gi_callv 4 (q := 324) C (dm_Mo_array 177 rfl) rfl my_Mo_markedSpan lk_Mo_486 im_Mo_markedSpan rfl (ww_markedSpan HW6 u mk2 (fun i hi => by rw [tellF_2]; exact hloc i hi)) Ha rfl rfl ⟨(Nat.le_of_ble_eq_true rfl), (Nat.le_of_ble_eq_true rfl)⟩ (Nat.le_of_ble_eq_true rfl) ⟨(Nat.le_of_ble_eq_true rfl), (Nat.le_of_ble_eq_true rfl)⟩ (fun r321 n321 h321 e321 => ?_)
                    obtain ⟨rfl, rfl, S7, J7, F7, G7, HW7⟩ := e321
                    have H := HW7.1
                    obtain ⟨fs, Ha, Hf⟩ := id H.1
                    have ho := HW7.2.1
                    refine gi_iload_n (q := 325) (i := 1) C (dm_Mo_array 178 rfl) rfl rfl rfl ?_
                    refine gi_bipush (q := 327) (v := 30) C (dm_Mo_array 179 rfl) rfl (by decide) ?_
                    refine gi_icmp_ne (q := 330) (tgt := 346) C (dm_Mo_array 180 rfl) rfl (by decide) (fun c327 => ?_) (fun c327 => ?_)
                    · refine gi_aload_n (q := 347) (i := 0) C (dm_Mo_array 189 rfl) rfl rfl rfl ?_
                      refine gi_iload_n (q := 348) (i := 2) C (dm_Mo_array 190 rfl) rfl rfl rfl ?_
                      refine gi_callv 1 (q := 351) C (dm_Mo_array 191 rfl) rfl my_Mo_comeTo lk_Mo_434 im_Mo_comeTo rfl (ww_comeTo HW7 B hmd hm hi hx hL (hg z hz u eu)) Ha rfl rfl ⟨(Nat.le_of_ble_eq_true rfl), (Nat.le_of_ble_eq_true rfl)⟩ (Nat.le_of_ble_eq_true rfl) ⟨(Nat.le_of_ble_eq_true rfl), (Nat.le_of_ble_eq_true rfl)⟩ (fun r348 n348 h348 e348 => ?_)
                      obtain ⟨rfl, rfl, S9, J9, F9, G9, HW9, fz9⟩ := e348
                      have H := HW9.1
                      obtain ⟨fs, Ha, Hf⟩ := id H.1
                      have ho := HW9.2.1
                      refine gi_vret C hr (dm_Mo_array 192 rfl) ?_
                      exact ⟨rfl, rfl, HW9.end⟩
                    · exact absurd c327 (by decide)
                  · have jl : j < 25 := by
                      rcases Nat.lt_or_ge j (25) with q | q
                      · exact q
                      · exact absurd (nI_le (a := 25) q (by omega)) c217
                    have sy := HW4.sp (show n0 - 1 < n0 by omega) ey
                    rw [sl_t (by omega)] at sy
                    refine gi_iload (q := 222) C (dm_Mo_array 123 rfl) rfl rfl ?_
                    refine gi_iload (q := 224) C (dm_Mo_array 124 rfl) rfl rfl ?_
                    refine gi_ishr (q := 225) C (dm_Mo_array 125 rfl) rfl ?_
                    refine gi_iconst (q := 226) (v := 1) C (dm_Mo_array 126 rfl) rfl (by decide) ?_
                    refine gi_iand (q := 227) C (dm_Mo_array 127 rfl) rfl ?_
                    refine gi_iconst (q := 228) (v := 1) C (dm_Mo_array 128 rfl) rfl (by decide) ?_
                    refine gi_icmp_ne (q := 231) (tgt := 261) C (dm_Mo_array 129 rfl) rfl (by decide) (fun c228 => ?_) (fun c228 => ?_)
                    · have ps : putF md (grF (wdF k P)) Z b (.inl Y) (j + 1) = putF md (grF (wdF k P)) Z b (.inl Y) j := by rw [putF_s, if_neg (fun q9 => c228 ((sh_bit b (by omega)).mpr q9))]
                      refine gi_iinc (q := 264) (v := 1) C (dm_Mo_array 147 rfl) rfl rfl (by decide) (Nat.le_of_ble_eq_true rfl) ?_
                      refine gi_goto (tgt := 213) C (dm_Mo_array 148 rfl) (by decide) ?_
                      refine gi_close (ihj (j + 1) _ ⟨jl, _, _, _, _, by rw [ps]; exact HW4⟩ (by omega)) (List.forall_mem_cons.mpr ⟨(by first | rfl | (simp [gi_look, nI_1]; done)), List.forall_mem_cons.mpr ⟨(by first | rfl | (simp [gi_look, nI_1]; done)), List.forall_mem_cons.mpr ⟨(by first | rfl | (simp [gi_look, nI_1]; done)), List.forall_mem_cons.mpr ⟨(by first | rfl | (simp [gi_look, nI_1]; done)), List.forall_mem_cons.mpr ⟨(by first | rfl | (simp [gi_look, nI_1]; done)), List.forall_mem_cons.mpr ⟨(by first | rfl | (simp [gi_look, nI_1]; done)), List.forall_mem_cons.mpr ⟨(by first | rfl | (simp [gi_look, nI_1]; done)), List.forall_mem_cons.mpr ⟨(by first | rfl | (simp [gi_look, nI_1]; done)), List.forall_mem_cons.mpr ⟨(by first | rfl | (simp [gi_look, nI_1]; done)), List.forall_mem_cons.mpr ⟨(by first | rfl | (simp [gi_look, nI_1]; done)), List.forall_mem_cons.mpr ⟨(by first | rfl | (simp [gi_look, nI_1]; done)), List.forall_mem_cons.mpr ⟨(by first | rfl | (simp [gi_look, nI_1]; done)), fun _ h => absurd h List.not_mem_nil⟩⟩⟩⟩⟩⟩⟩⟩⟩⟩⟩⟩) rfl rfl rfl
                    · refine gi_aload_n (q := 232) (i := 0) C (dm_Mo_array 130 rfl) rfl rfl rfl ?_
                      refine gi_bipush (q := 234) (v := 32) C (dm_Mo_array 131 rfl) rfl (by decide) ?_
                      refine gi_iload (q := 236) C (dm_Mo_array 132 rfl) rfl rfl ?_
                      refine gi_iadd (q := 237) C (dm_Mo_array 133 rfl) rfl ?_
                      rw [show (32 : Int32) = nI 32 from rfl, nI_add, show 32 + j = tix (505 + j) from by unfold tix; rw [if_neg (by omega), if_pos (by omega)]; omega]
                      refine gi_aload_n (q := 238) (i := 0) C (dm_Mo_array 134 rfl) rfl rfl rfl ?_
                      refine gi_get (q := 241) C (dm_Mo_array 135 rfl) rfl fl_Mo_104 Ha (mo_g52 Hf) ?_
                      refine gi_iload (q := 243) C (dm_Mo_array 136 rfl) rfl rfl ?_
                      refine gi_lald (q := 244) C (dm_Mo_array 137 rfl) rfl rfl (mo_a52 H) (inN (show n0 - 1 - L + 6 < 14 by omega) (by decide)) ?_
                      rw [nI_clamp (show n0 - 1 - L + 6 < 2 ^ 31 by omega), sy.1]
                      refine gi_aload_n (q := 245) (i := 0) C (dm_Mo_array 138 rfl) rfl rfl rfl ?_
                      refine gi_get (q := 248) C (dm_Mo_array 139 rfl) rfl fl_Mo_107 Ha (mo_g53 Hf) ?_
                      refine gi_iload (q := 250) C (dm_Mo_array 140 rfl) rfl rfl ?_
                      refine gi_lald (q := 251) C (dm_Mo_array 141 rfl) rfl rfl (mo_a53 H) (inN (show n0 - 1 - L + 6 < 14 by omega) (by decide)) ?_
                      rw [nI_clamp (show n0 - 1 - L + 6 < 2 ^ 31 by omega), sy.2.1]
                      refine gi_aload_n (q := 252) (i := 0) C (dm_Mo_array 142 rfl) rfl rfl rfl ?_
                      refine gi_get (q := 255) C (dm_Mo_array 143 rfl) rfl fl_Mo_110 Ha (mo_g54 Hf) ?_
                      refine gi_iload (q := 257) C (dm_Mo_array 144 rfl) rfl rfl ?_
                      refine gi_lald (q := 258) C (dm_Mo_array 145 rfl) rfl rfl (mo_a54 H) (inN (show n0 - 1 - L + 6 < 14 by omega) (by decide)) ?_
                      rw [nI_clamp (show n0 - 1 - L + 6 < 2 ^ 31 by omega), sy.2.2]
                      refine gi_callv 4 (q := 261) C (dm_Mo_array 146 rfl) rfl my_Mo_tell lk_Mo_470 im_Mo_tell rfl (ww_tell HW4 (t := 505 + j) hmd (by omega) (by omega) (okC_one (v := .inl Y) (by omega) (by omega) okY rfl) okY rfl) Ha rfl rfl ⟨(Nat.le_of_ble_eq_true rfl), (Nat.le_of_ble_eq_true rfl)⟩ (Nat.le_of_ble_eq_true rfl) ⟨(Nat.le_of_ble_eq_true rfl), (Nat.le_of_ble_eq_true rfl)⟩ (fun r258 n258 h258 e258 => ?_)
                      obtain ⟨rfl, rfl, S5, J5, F5, G5, HW5, fz5⟩ := e258
                      have H := HW5.1
                      obtain ⟨fs, Ha, Hf⟩ := id H.1
                      have ho := HW5.2.1
                      have ps : putF md (grF (wdF k P)) Z b (.inl Y) (j + 1) = comeM md (grF (wdF k P)) (putF md (grF (wdF k P)) Z b (.inl Y) j) (505 + j, 1, one (.inl Y)) := by rw [putF_s, if_pos ((sh_bit b (by omega)).mp c228)]
                      rw [← ps] at HW5
                      refine gi_iinc (q := 264) (v := 1) C (dm_Mo_array 147 rfl) rfl rfl (by decide) (Nat.le_of_ble_eq_true rfl) ?_
                      refine gi_goto (tgt := 213) C (dm_Mo_array 148 rfl) (by decide) ?_
                      refine gi_close (ihj (j + 1) _ ⟨jl, _, _, _, _, HW5⟩ (by omega)) (List.forall_mem_cons.mpr ⟨(by first | rfl | (simp [gi_look, nI_1]; done)), List.forall_mem_cons.mpr ⟨(by first | rfl | (simp [gi_look, nI_1]; done)), List.forall_mem_cons.mpr ⟨(by first | rfl | (simp [gi_look, nI_1]; done)), List.forall_mem_cons.mpr ⟨(by first | rfl | (simp [gi_look, nI_1]; done)), List.forall_mem_cons.mpr ⟨(by first | rfl | (simp [gi_look, nI_1]; done)), List.forall_mem_cons.mpr ⟨(by first | rfl | (simp [gi_look, nI_1]; done)), List.forall_mem_cons.mpr ⟨(by first | rfl | (simp [gi_look, nI_1]; done)), List.forall_mem_cons.mpr ⟨(by first | rfl | (simp [gi_look, nI_1]; done)), List.forall_mem_cons.mpr ⟨(by first | rfl | (simp [gi_look, nI_1]; done)), List.forall_mem_cons.mpr ⟨(by first | rfl | (simp [gi_look, nI_1]; done)), List.forall_mem_cons.mpr ⟨(by first | rfl | (simp [gi_look, nI_1]; done)), List.forall_mem_cons.mpr ⟨(by first | rfl | (simp [gi_look, nI_1]; done)), fun _ h => absurd h List.not_mem_nil⟩⟩⟩⟩⟩⟩⟩⟩⟩⟩⟩⟩) rfl rfl rfl
              · refine gi_vret C hr (dm_Mo_array 96 rfl) ?_
                have en : withinS X 0 (z.2.1 - 1) = none := by
                  cases e9 : withinS X 0 (z.2.1 - 1) with
                  | none => rfl
                  | some u9 => rw [e9] at c168; exact absurd (bI_fa c168) (by simp)
                rw [en]
                exact ⟨rfl, rfl, HW3.end⟩
          · exact absurd c94 (by decide)
      · refine gi_vret C hr (dm_Mo_array 37 rfl) ?_
        have en : gathF (rdF md Ff Z) 480 b 25 = none := by rw [c60]; exact gath_z 25
        rw [en]
        exact ⟨rfl, rfl, HW.end⟩
    · exact absurd c18 (by decide)
  · exact absurd c3 (by decide)
end RCB
