-- needs: 89.90
section RL2
variable {l : Launch} {V : gi_V} {n : Nat} {h h' : gi_H} {M k : Nat} {P : Pm} {sh : Nat → Option Sh} {S S' : Nat → Int32} {J J' : Nat → Int64} {F F' : Nat → Nat → Int32} {G G' : Nat → Nat → Int64} {Fz : Fa} {sn : Nat → Nat} {wd : Nat → Bool}
theorem tdx_pl (B : Built k P sh sn wd) (hF : okF (tyF P sh) Fz) {m q t : Int32} {j : Nat} (h : tdx k P Fz m q t = some j) : ∃ a b x, a < k ∧ b < pN P 5 a ∧ b < 60 ∧ m = nI a ∧ q = nI b ∧ pq m q = 60 * a + b ∧ (Fz (60 * a + b)).told = true ∧ sh (60 * a + b) = some x ∧ x.1 ≤ 8 ∧ tyG P a x (Fz (60 * a + b)).n (Fz (60 * a + b)).f ∧ pN P 2 a ≤ 6 ∧ j < (Fz (60 * a + b)).n ∧ (t < 10 ↔ j < pN P 2 a) := by
  obtain ⟨rc, jn⟩ := tdx_in B hF h
  obtain ⟨a, b, x, ha, hb, hb60, rfl, rfl, ep, tl, hx, x8, ty, ll⟩ := plc2 B hF rc
  rw [ep] at jn
  refine ⟨a, b, x, ha, hb, hb60, rfl, rfl, ep, tl, hx, x8, ty, ll, jn, ?_⟩
  rw [tdx_t rc] at h
  have w8 := B.wf.k8
  rw [nI_clamp (show a < 2 ^ 31 by omega)] at h
  unfold ixS at h
  rw [Int32.lt_iff_toInt_lt, show (10 : Int32).toInt = 10 from rfl]
  by_cases q1 : 0 ≤ t.toInt ∧ t.toInt < pN P 2 a
  · rw [if_pos q1] at h
    dsimp only at h
    split at h
    · cases h
      have e := i32_b t
      have : t.toNatClampNeg = t.toInt.toNat := rfl
      omega
    · cases h
  · rw [if_neg q1] at h
    by_cases q2 : 10 ≤ t.toInt ∧ t.toInt < 18
    · rw [if_pos q2] at h
      dsimp only at h
      split at h
      · cases h
        have : t.toNatClampNeg = t.toInt.toNat := rfl
        omega
      · cases h
    · rw [if_neg q2] at h
      cases h
theorem c_Mo_slotOf_0 (m q t : Int32) (et : tdx k P Fz m q t = none) (B : Built k P sh sn wd) (hpg : pgR k P sh S F) (h9 : S 9 = 1) (h0 : fsN P Fz F G) (hF : okF (tyF P sh) Fz) (H : mo_at M S J F G h) : gi_T l V y_Mo_slotOf b_Mo_slotOf 5 (some .int) 3 65 0 0 [.ref M, .int m, .int q, .int t] n h (gi_is (some (.int (-1))) n h) := by
  have z := c_Mo_slotOf (l := l) (V := V) (n := n) m q t B hpg h9 h0 hF H
  rw [et] at z
  exact z
theorem c_Mo_slotOf_1 {a b j : Nat} (t : Int32) (ha : a < 8) (et : tdx k P Fz (nI a) (nI b) t = some j) (B : Built k P sh sn wd) (hpg : pgR k P sh S F) (h9 : S 9 = 1) (h0 : fsN P Fz F G) (hF : okF (tyF P sh) Fz) (H : mo_at M S J F G h) : gi_T l V y_Mo_slotOf b_Mo_slotOf 5 (some .int) 3 65 0 0 [.ref M, .int (nI a), .int (nI b), .int t] n h (gi_is (some (.int (nI (sl (pN P 2 a) j)))) n h) := by
  have z := c_Mo_slotOf (l := l) (V := V) (n := n) (nI a) (nI b) t B hpg h9 h0 hF H
  rw [et] at z
  unfold slV at z
  rw [nI_clamp (show a < 2 ^ 31 by omega)] at z
  exact z
theorem sl_isA {m : Nat} {x : Sh} {i : Nat} (h6 : pN P 2 m ≤ 6) (hi : i < pN P 2 m + x.1) : isA P m x (sl (pN P 2 m) i) = kdF P m x i := by
  have e := isS_inv (L := pN P 2 m) (x := x) rfl h6 (sl_isS rfl h6 hi)
  rw [e.2.2.1, inv_sl h6]
theorem pv_s {v : Av} {c : Ce} {wh : Int32} (h : ceA v c) (a : arA v = false) : partV (eA v) wh = if wh = 0 then c.1 else if wh = 1 then c.2.1 else if wh = 2 then c.2.2.1 else NOl := by
  cases v with
  | inl y =>
    obtain ⟨h1, h2, h3⟩ := h
    rw [h1, h2, h3]
    rfl
  | inr y => cases y; cases a
theorem pv_a {v : Av} {c : Ce} {wh : Int32} (h : ceA v c) (a : arA v = true) : partV (eA v) wh = if wh = 3 then c.2.2.2.1.toInt64 else if wh = 4 then (if c.2.2.2.2.1 = 0 then 0 else 1) else NOl := by
  cases v with
  | inl y => cases a
  | inr y =>
    obtain ⟨b, o⟩ := y
    obtain ⟨h1, h2⟩ := h
    rw [h1, h2]
    rfl
set_option maxHeartbeats 4000000 in
set_option maxRecDepth 100000 in
theorem c_Mo_state (m q t wh : Int32) (B : Built k P sh sn wd) (hpg : pgR k P sh S F) (h9 : S 9 = 1) (h0 : fsN P Fz F G) (hF : okF (tyF P sh) Fz) (H : mo_at M S J F G h) : gi_T l V y_Mo_state b_Mo_state 8 (some .long) 4 89 0 0 [.ref M, .int m, .int q, .int t, .int wh] n h (gi_is (some (.long (stQ k P Fz m q t wh))) n h) := by
  refine gi_enter (by decide) (Nat.le_of_ble_eq_true rfl) ?_
  intro _ _ _ _ _ _ _ _ C hr hnm
  obtain ⟨fs, Ha, Hf⟩ := id H.1
  have ho : outM M h h := outM.rf
  cases et : tdx k P Fz m q t with
  | none =>
    refine gi_aload_n (q := 1) (i := 0) C (dm_Mo_state 0 rfl) rfl rfl rfl ?_
    refine gi_iload_n (q := 2) (i := 1) C (dm_Mo_state 1 rfl) rfl rfl rfl ?_
    refine gi_iload_n (q := 3) (i := 2) C (dm_Mo_state 2 rfl) rfl rfl rfl ?_
    refine gi_iload_n (q := 4) (i := 3) C (dm_Mo_state 3 rfl) rfl rfl rfl ?_
    refine gi_callv 3 (q := 7) C (dm_Mo_state 4 rfl) rfl my_Mo_slotOf lk_Mo_522 im_Mo_slotOf rfl (c_Mo_slotOf_0 m q t et B hpg h9 h0 hF H) Ha rfl rfl ⟨(Nat.le_of_ble_eq_true rfl), (Nat.le_of_ble_eq_true rfl)⟩ (Nat.le_of_ble_eq_true rfl) ⟨(Nat.le_of_ble_eq_true rfl), (Nat.le_of_ble_eq_true rfl)⟩ (fun r4 n4 h4 e4 => ?_)
    obtain ⟨rfl, q4, u4⟩ := e4
    rw [q4, u4]
    refine gi_istore (q := 9) C (dm_Mo_state 5 rfl) rfl (Nat.le_of_ble_eq_true rfl) ?_
    refine gi_iload (q := 11) C (dm_Mo_state 6 rfl) rfl rfl ?_
    refine gi_if_ge (q := 14) (tgt := 18) C (dm_Mo_state 7 rfl) rfl (by decide) (fun c11 => ?_) (fun c11 => ?_)
    · exact absurd c11 (by decide)
    · refine gi_ldc2 (q := 17) C (dm_Mo_state 8 rfl) rfl kc_Mo_525 ?_
      refine gi_lret C hr (dm_Mo_state 9 rfl) ?_
      exact ⟨by unfold stQ; rw [et], rfl, rfl⟩
  | some j =>
    obtain ⟨a, b, x, ha, hb, hb60, rfl, rfl, ep, tl, hx, x8, ty, ll, jn, jt⟩ := tdx_pl B hF et
    have w8 := B.wf.k8
    have gn := G_n ty
    have s14 := sl_14 (L := pN P 2 a) (n := (Fz (60 * a + b)).n) (i := j) ll (by omega) jn
    have j6 : nI (sl (pN P 2 a) j) < 6 ↔ t < 10 := by
      rw [jt, show (6 : Int32) = nI 6 from rfl, nI_ltI (by omega) (by omega)]
      unfold sl
      split <;> omega
    have hj : ¬ t < 10 → pN P 2 a ≤ j := fun z => by rw [jt] at z; omega
    obtain ⟨r31, rr⟩ := h0.1 (60 * a + b) (by omega)
    obtain ⟨-, -, rw0⟩ := rr tl
    obtain ⟨ce, mk⟩ := rw0 j jn
    have e60 : (60 * a + b) / 60 = a := by omega
    rw [e60] at ce mk
    obtain ⟨av, ak, -, -⟩ := tyG_mk ty jn
    refine gi_aload_n (q := 1) (i := 0) C (dm_Mo_state 0 rfl) rfl rfl rfl ?_
    refine gi_iload_n (q := 2) (i := 1) C (dm_Mo_state 1 rfl) rfl rfl rfl ?_
    refine gi_iload_n (q := 3) (i := 2) C (dm_Mo_state 2 rfl) rfl rfl rfl ?_
    refine gi_iload_n (q := 4) (i := 3) C (dm_Mo_state 3 rfl) rfl rfl rfl ?_
    refine gi_callv 3 (q := 7) C (dm_Mo_state 4 rfl) rfl my_Mo_slotOf lk_Mo_522 im_Mo_slotOf rfl (c_Mo_slotOf_1 t (by omega) et B hpg h9 h0 hF H) Ha rfl rfl ⟨(Nat.le_of_ble_eq_true rfl), (Nat.le_of_ble_eq_true rfl)⟩ (Nat.le_of_ble_eq_true rfl) ⟨(Nat.le_of_ble_eq_true rfl), (Nat.le_of_ble_eq_true rfl)⟩ (fun r4 n4 h4 e4 => ?_)
    obtain ⟨rfl, q4, u4⟩ := e4
    rw [q4, u4]
    refine gi_istore (q := 9) C (dm_Mo_state 5 rfl) rfl (Nat.le_of_ble_eq_true rfl) ?_
    refine gi_iload (q := 11) C (dm_Mo_state 6 rfl) rfl rfl ?_
    refine gi_if_ge (q := 14) (tgt := 18) C (dm_Mo_state 7 rfl) rfl (by decide) (fun c11 => ?_) (fun c11 => ?_)
    · refine gi_bipush (q := 20) (v := 14) C (dm_Mo_state 10 rfl) rfl (by decide) ?_
      refine gi_bipush (q := 22) (v := 60) C (dm_Mo_state 11 rfl) rfl (by decide) ?_
      refine gi_iload_n (q := 23) (i := 1) C (dm_Mo_state 12 rfl) rfl rfl rfl ?_
      refine gi_imul (q := 24) C (dm_Mo_state 13 rfl) rfl ?_
      refine gi_iload_n (q := 25) (i := 2) C (dm_Mo_state 14 rfl) rfl rfl rfl ?_
      refine gi_iadd (q := 26) C (dm_Mo_state 15 rfl) rfl ?_
      refine gi_imul (q := 27) C (dm_Mo_state 16 rfl) rfl ?_
      refine gi_iload (q := 29) C (dm_Mo_state 17 rfl) rfl rfl ?_
      refine gi_iadd (q := 30) C (dm_Mo_state 18 rfl) rfl ?_
      rw [show (14 : Int32) = nI 14 from rfl, show (60 : Int32) = nI 60 from rfl, nI_ml, nI_add, nI_ml, nI_add]
      refine gi_istore (q := 32) C (dm_Mo_state 19 rfl) rfl (Nat.le_of_ble_eq_true rfl) ?_
      refine gi_aload_n (q := 33) (i := 0) C (dm_Mo_state 20 rfl) rfl rfl rfl ?_
      refine gi_bipush (q := 35) (v := 60) C (dm_Mo_state 21 rfl) rfl (by decide) ?_
      refine gi_iload_n (q := 36) (i := 1) C (dm_Mo_state 22 rfl) rfl rfl rfl ?_
      refine gi_imul (q := 37) C (dm_Mo_state 23 rfl) rfl ?_
      refine gi_iload_n (q := 38) (i := 2) C (dm_Mo_state 24 rfl) rfl rfl rfl ?_
      refine gi_iadd (q := 39) C (dm_Mo_state 25 rfl) rfl ?_
      rw [show (60 : Int32) = nI 60 from rfl, nI_ml, nI_add]
      refine gi_iload (q := 41) C (dm_Mo_state 26 rfl) rfl rfl ?_
      refine gi_callv 2 (q := 44) C (dm_Mo_state 27 rfl) rfl my_Mo_isArray lk_Mo_408 im_Mo_isArray rfl (c_Mo_isArray (x := x) B.wf ha hb hpg.1 s14 x8 (pg_at hpg B.wf ha hb hx).2 H) Ha rfl rfl ⟨(Nat.le_of_ble_eq_true rfl), (Nat.le_of_ble_eq_true rfl)⟩ (Nat.le_of_ble_eq_true rfl) ⟨(Nat.le_of_ble_eq_true rfl), (Nat.le_of_ble_eq_true rfl)⟩ (fun r41 n41 h41 e41 => ?_)
      obtain ⟨rfl, q41, u41⟩ := e41
      rw [q41, u41]
      refine gi_istore (q := 46) C (dm_Mo_state 28 rfl) rfl (Nat.le_of_ble_eq_true rfl) ?_
      refine gi_iload (q := 48) C (dm_Mo_state 29 rfl) rfl rfl ?_
      refine gi_iconst (q := 49) (v := 5) C (dm_Mo_state 30 rfl) rfl (by decide) ?_
      refine gi_icmp_ne (q := 52) (tgt := 74) C (dm_Mo_state 31 rfl) rfl (by decide) (fun c49 => ?_) (fun c49 => ?_)
      · refine gi_iload (q := 76) C (dm_Mo_state 43 rfl) rfl rfl ?_
        refine gi_if_eq (q := 79) (tgt := 124) C (dm_Mo_state 44 rfl) rfl (by decide) (fun c76 => ?_) (fun c76 => ?_)
        · refine gi_iload (q := 126) C (dm_Mo_state 68 rfl) rfl rfl ?_
          refine gi_if_ne (q := 129) (tgt := 139) C (dm_Mo_state 69 rfl) rfl (by decide) (fun c126 => ?_) (fun c126 => ?_)
          · refine gi_iload (q := 141) C (dm_Mo_state 75 rfl) rfl rfl ?_
            refine gi_iconst (q := 142) (v := 1) C (dm_Mo_state 76 rfl) rfl (by decide) ?_
            refine gi_icmp_ne (q := 145) (tgt := 155) C (dm_Mo_state 77 rfl) rfl (by decide) (fun c142 => ?_) (fun c142 => ?_)
            · refine gi_iload (q := 157) C (dm_Mo_state 83 rfl) rfl rfl ?_
              refine gi_iconst (q := 158) (v := 2) C (dm_Mo_state 84 rfl) rfl (by decide) ?_
              refine gi_icmp_ne (q := 161) (tgt := 171) C (dm_Mo_state 85 rfl) rfl (by decide) (fun c158 => ?_) (fun c158 => ?_)
              · refine gi_ldc2 (q := 174) C (dm_Mo_state 91 rfl) rfl kc_Mo_525 ?_
                refine gi_lret C hr (dm_Mo_state 92 rfl) ?_
                refine ⟨?_, rfl, rfl⟩
                unfold stQ
                rw [et]
                dsimp only
                rw [ep]
                rw [if_neg c49, pv_s ce (by cases q : arA ((Fz (60 * a + b)).f j).1 with | false => rfl | true => rw [sl_isA ll (by omega), ← ak, q] at c76; exact absurd c76 (by decide))]
                first
                  | (rw [if_pos c126] <;> rfl)
                  | (rw [if_neg c126, if_pos c142] <;> rfl)
                  | (rw [if_neg c126, if_neg c142, if_pos c158] <;> rfl)
                  | (rw [if_neg c126, if_neg c142, if_neg c158] <;> rfl)
              · refine gi_aload_n (q := 162) (i := 0) C (dm_Mo_state 86 rfl) rfl rfl rfl ?_
                refine gi_get (q := 165) C (dm_Mo_state 87 rfl) rfl fl_Mo_67 Ha (mo_g34 Hf) ?_
                refine gi_iload (q := 167) C (dm_Mo_state 88 rfl) rfl rfl ?_
                refine gi_lald (q := 168) C (dm_Mo_state 89 rfl) rfl rfl (mo_a34 H) (inN (show 14 * (60 * a + b) + sl (pN P 2 a) j < 13440 by omega) (by decide)) ?_
                rw [nI_clamp (show 14 * (60 * a + b) + sl (pN P 2 a) j < 2 ^ 31 by omega)]
                refine gi_goto (tgt := 174) C (dm_Mo_state 90 rfl) (by decide) ?_
                refine gi_lret C hr (dm_Mo_state 92 rfl) ?_
                refine ⟨?_, rfl, rfl⟩
                unfold stQ
                rw [et]
                dsimp only
                rw [ep]
                rw [if_neg c49, pv_s ce (by cases q : arA ((Fz (60 * a + b)).f j).1 with | false => rfl | true => rw [sl_isA ll (by omega), ← ak, q] at c76; exact absurd c76 (by decide))]
                first
                  | (rw [if_pos c126] <;> rfl)
                  | (rw [if_neg c126, if_pos c142] <;> rfl)
                  | (rw [if_neg c126, if_neg c142, if_pos c158] <;> rfl)
                  | (rw [if_neg c126, if_neg c142, if_neg c158] <;> rfl)
            · refine gi_aload_n (q := 146) (i := 0) C (dm_Mo_state 78 rfl) rfl rfl rfl ?_
              refine gi_get (q := 149) C (dm_Mo_state 79 rfl) rfl fl_Mo_64 Ha (mo_g33 Hf) ?_
              refine gi_iload (q := 151) C (dm_Mo_state 80 rfl) rfl rfl ?_
              refine gi_lald (q := 152) C (dm_Mo_state 81 rfl) rfl rfl (mo_a33 H) (inN (show 14 * (60 * a + b) + sl (pN P 2 a) j < 13440 by omega) (by decide)) ?_
              rw [nI_clamp (show 14 * (60 * a + b) + sl (pN P 2 a) j < 2 ^ 31 by omega)]
              refine gi_goto (tgt := 174) C (dm_Mo_state 82 rfl) (by decide) ?_
              refine gi_lret C hr (dm_Mo_state 92 rfl) ?_
              refine ⟨?_, rfl, rfl⟩
              unfold stQ
              rw [et]
              dsimp only
              rw [ep]
              rw [if_neg c49, pv_s ce (by cases q : arA ((Fz (60 * a + b)).f j).1 with | false => rfl | true => rw [sl_isA ll (by omega), ← ak, q] at c76; exact absurd c76 (by decide))]
              first
                | (rw [if_pos c126] <;> rfl)
                | (rw [if_neg c126, if_pos c142] <;> rfl)
                | (rw [if_neg c126, if_neg c142, if_pos c158] <;> rfl)
                | (rw [if_neg c126, if_neg c142, if_neg c158] <;> rfl)
          · refine gi_aload_n (q := 130) (i := 0) C (dm_Mo_state 70 rfl) rfl rfl rfl ?_
            refine gi_get (q := 133) C (dm_Mo_state 71 rfl) rfl fl_Mo_60 Ha (mo_g32 Hf) ?_
            refine gi_iload (q := 135) C (dm_Mo_state 72 rfl) rfl rfl ?_
            refine gi_lald (q := 136) C (dm_Mo_state 73 rfl) rfl rfl (mo_a32 H) (inN (show 14 * (60 * a + b) + sl (pN P 2 a) j < 13440 by omega) (by decide)) ?_
            rw [nI_clamp (show 14 * (60 * a + b) + sl (pN P 2 a) j < 2 ^ 31 by omega)]
            refine gi_goto (tgt := 174) C (dm_Mo_state 74 rfl) (by decide) ?_
            refine gi_lret C hr (dm_Mo_state 92 rfl) ?_
            refine ⟨?_, rfl, rfl⟩
            unfold stQ
            rw [et]
            dsimp only
            rw [ep]
            rw [if_neg c49, pv_s ce (by cases q : arA ((Fz (60 * a + b)).f j).1 with | false => rfl | true => rw [sl_isA ll (by omega), ← ak, q] at c76; exact absurd c76 (by decide))]
            first
              | (rw [if_pos c126] <;> rfl)
              | (rw [if_neg c126, if_pos c142] <;> rfl)
              | (rw [if_neg c126, if_neg c142, if_pos c158] <;> rfl)
              | (rw [if_neg c126, if_neg c142, if_neg c158] <;> rfl)
        · refine gi_iload (q := 81) C (dm_Mo_state 45 rfl) rfl rfl ?_
          refine gi_iconst (q := 82) (v := 3) C (dm_Mo_state 46 rfl) rfl (by decide) ?_
          refine gi_icmp_ne (q := 85) (tgt := 96) C (dm_Mo_state 47 rfl) rfl (by decide) (fun c82 => ?_) (fun c82 => ?_)
          · refine gi_iload (q := 98) C (dm_Mo_state 54 rfl) rfl rfl ?_
            refine gi_iconst (q := 99) (v := 4) C (dm_Mo_state 55 rfl) rfl (by decide) ?_
            refine gi_icmp_ne (q := 102) (tgt := 120) C (dm_Mo_state 56 rfl) rfl (by decide) (fun c99 => ?_) (fun c99 => ?_)
            · refine gi_ldc2 (q := 123) C (dm_Mo_state 66 rfl) rfl kc_Mo_525 ?_
              refine gi_lret C hr (dm_Mo_state 67 rfl) ?_
              refine ⟨?_, rfl, rfl⟩
              unfold stQ
              rw [et]
              dsimp only
              rw [ep]
              rw [if_neg c49, pv_a ce (by cases q : arA ((Fz (60 * a + b)).f j).1 with | true => rfl | false => rw [sl_isA ll (by omega), ← ak, q] at c76; exact absurd rfl c76)]
              first
                | (rw [if_pos c82] <;> rfl)
                | (rw [if_neg c82, if_pos c99]; exact congrArg (fun v => some (Value.long v)) (if_pos c109).symm)
                | (rw [if_neg c82, if_pos c99]; exact congrArg (fun v => some (Value.long v)) (if_neg c109).symm)
                | (rw [if_neg c82, if_neg c99] <;> rfl)
            · refine gi_aload_n (q := 103) (i := 0) C (dm_Mo_state 57 rfl) rfl rfl rfl ?_
              refine gi_get (q := 106) C (dm_Mo_state 58 rfl) rfl fl_Mo_73 Ha (mo_g36 Hf) ?_
              refine gi_iload (q := 108) C (dm_Mo_state 59 rfl) rfl rfl ?_
              refine gi_zald (q := 109) C (dm_Mo_state 60 rfl) rfl rfl (mo_a36 H) (inN (show 14 * (60 * a + b) + sl (pN P 2 a) j < 13440 by omega) (by decide)) ?_
              rw [nI_clamp (show 14 * (60 * a + b) + sl (pN P 2 a) j < 2 ^ 31 by omega)] at *
              refine gi_if_eq (q := 112) (tgt := 116) C (dm_Mo_state 61 rfl) rfl (by decide) (fun c109 => ?_) (fun c109 => ?_)
              · refine gi_lconst (q := 117) (v := 0) C (dm_Mo_state 64 rfl) rfl (by decide) ?_
                refine gi_goto (tgt := 123) C (dm_Mo_state 65 rfl) (by decide) ?_
                refine gi_lret C hr (dm_Mo_state 67 rfl) ?_
                refine ⟨?_, rfl, rfl⟩
                unfold stQ
                rw [et]
                dsimp only
                rw [ep]
                rw [if_neg c49, pv_a ce (by cases q : arA ((Fz (60 * a + b)).f j).1 with | true => rfl | false => rw [sl_isA ll (by omega), ← ak, q] at c76; exact absurd rfl c76)]
                first
                  | (rw [if_pos c82] <;> rfl)
                  | (rw [if_neg c82, if_pos c99]; exact congrArg (fun v => some (Value.long v)) (if_pos c109).symm)
                  | (rw [if_neg c82, if_pos c99]; exact congrArg (fun v => some (Value.long v)) (if_neg c109).symm)
                  | (rw [if_neg c82, if_neg c99] <;> rfl)
              · refine gi_lconst (q := 113) (v := 1) C (dm_Mo_state 62 rfl) rfl (by decide) ?_
                refine gi_goto (tgt := 123) C (dm_Mo_state 63 rfl) (by decide) ?_
                refine gi_lret C hr (dm_Mo_state 67 rfl) ?_
                refine ⟨?_, rfl, rfl⟩
                unfold stQ
                rw [et]
                dsimp only
                rw [ep]
                rw [if_neg c49, pv_a ce (by cases q : arA ((Fz (60 * a + b)).f j).1 with | true => rfl | false => rw [sl_isA ll (by omega), ← ak, q] at c76; exact absurd rfl c76)]
                first
                  | (rw [if_pos c82] <;> rfl)
                  | (rw [if_neg c82, if_pos c99]; exact congrArg (fun v => some (Value.long v)) (if_pos c109).symm)
                  | (rw [if_neg c82, if_pos c99]; exact congrArg (fun v => some (Value.long v)) (if_neg c109).symm)
                  | (rw [if_neg c82, if_neg c99] <;> rfl)
          · refine gi_aload_n (q := 86) (i := 0) C (dm_Mo_state 48 rfl) rfl rfl rfl ?_
            refine gi_get (q := 89) C (dm_Mo_state 49 rfl) rfl fl_Mo_70 Ha (mo_g35 Hf) ?_
            refine gi_iload (q := 91) C (dm_Mo_state 50 rfl) rfl rfl ?_
            refine gi_iald (q := 92) C (dm_Mo_state 51 rfl) rfl rfl (mo_a35 H) (inN (show 14 * (60 * a + b) + sl (pN P 2 a) j < 13440 by omega) (by decide)) ?_
            rw [nI_clamp (show 14 * (60 * a + b) + sl (pN P 2 a) j < 2 ^ 31 by omega)]
            refine gi_i2l (q := 93) C (dm_Mo_state 52 rfl) rfl ?_
            refine gi_goto (tgt := 123) C (dm_Mo_state 53 rfl) (by decide) ?_
            refine gi_lret C hr (dm_Mo_state 67 rfl) ?_
            refine ⟨?_, rfl, rfl⟩
            unfold stQ
            rw [et]
            dsimp only
            rw [ep]
            rw [if_neg c49, pv_a ce (by cases q : arA ((Fz (60 * a + b)).f j).1 with | true => rfl | false => rw [sl_isA ll (by omega), ← ak, q] at c76; exact absurd rfl c76)]
            first
              | (rw [if_pos c82] <;> rfl)
              | (rw [if_neg c82, if_pos c99]; exact congrArg (fun v => some (Value.long v)) (if_pos c109).symm)
              | (rw [if_neg c82, if_pos c99]; exact congrArg (fun v => some (Value.long v)) (if_neg c109).symm)
              | (rw [if_neg c82, if_neg c99] <;> rfl)
      · refine gi_iload (q := 54) C (dm_Mo_state 32 rfl) rfl rfl ?_
        refine gi_bipush (q := 56) (v := 6) C (dm_Mo_state 33 rfl) rfl (by decide) ?_
        refine gi_icmp_lt (q := 59) (tgt := 70) C (dm_Mo_state 34 rfl) rfl (by decide) (fun c56 => ?_) (fun c56 => ?_)
        · refine gi_ldc2 (q := 73) C (dm_Mo_state 41 rfl) rfl kc_Mo_525 ?_
          refine gi_lret C hr (dm_Mo_state 42 rfl) ?_
          refine ⟨?_, rfl, rfl⟩
          unfold stQ
          rw [et]
          dsimp only
          rw [ep]
          first
            | (rw [if_pos c49, if_neg (fun z => c56 (j6.mpr z)), ← mk (hj (fun z => c56 (j6.mpr z)))] <;> rfl)
            | (rw [if_pos c49, if_pos (j6.mp c56)] <;> rfl)
        · refine gi_aload_n (q := 60) (i := 0) C (dm_Mo_state 35 rfl) rfl rfl rfl ?_
          refine gi_get (q := 63) C (dm_Mo_state 36 rfl) rfl fl_Mo_76 Ha (mo_g37 Hf) ?_
          refine gi_iload (q := 65) C (dm_Mo_state 37 rfl) rfl rfl ?_
          refine gi_bald (q := 66) C (dm_Mo_state 38 rfl) rfl rfl (mo_a37 H) (inN (show 14 * (60 * a + b) + sl (pN P 2 a) j < 13440 by omega) (by decide)) ?_
          rw [nI_clamp (show 14 * (60 * a + b) + sl (pN P 2 a) j < 2 ^ 31 by omega)]
          refine gi_i2l (q := 67) C (dm_Mo_state 39 rfl) rfl ?_
          refine gi_goto (tgt := 73) C (dm_Mo_state 40 rfl) (by decide) ?_
          refine gi_lret C hr (dm_Mo_state 42 rfl) ?_
          refine ⟨?_, rfl, rfl⟩
          unfold stQ
          rw [et]
          dsimp only
          rw [ep]
          first
            | (rw [if_pos c49, if_neg (fun z => c56 (j6.mpr z)), ← mk (hj (fun z => c56 (j6.mpr z)))] <;> rfl)
            | (rw [if_pos c49, if_pos (j6.mp c56)] <;> rfl)
    · exact absurd (nI_le (a := 0) (Nat.zero_le _) (by omega)) c11
/-- a certificate changed at a place of a state -/
def plP (M : Nat) (P : Pm) (Z : Fa) (h : gi_H) (S : Nat → Int32) (J : Nat → Int64) (F : Nat → Nat → Int32) (G : Nat → Nat → Int64) (h' : gi_H) : Prop := ∃ F' G', mo_at M S J F' G' h' ∧ outM M h h' ∧ (∀ j, j < 31 ∨ 38 < j → F' j = F j) ∧ (∀ j, j < 31 ∨ 34 < j → G' j = G j) ∧ fsN P Z F' G'
theorem fsN.put1 {r : Rw} {p : Nat} (h : fsN P Fz F G) (c : stC p F F' G G') (hp : p < 480) (hr : rfS P r p p F' G') : fsN P (upO Fz p r) F' G' := fsN.put (Z := (Fz, false)) h c hp hr
set_option maxHeartbeats 4000000 in
set_option maxRecDepth 100000 in
theorem c_Mo_plant (m q t lo hi : Int32) (B : Built k P sh sn wd) (hpg : pgR k P sh S F) (h9 : S 9 = 1) (h0 : fsN P Fz F G) (hF : okF (tyF P sh) Fz) (H : mo_at M S J F G h) : gi_T l V y_Mo_plant b_Mo_plant 8 (some .boolean) 4 89 0 0 [.ref M, .int m, .int q, .int t, .int lo, .int hi] n h (fun v n' h' => n' = n ∧ ((plJ k P Fz m q t lo hi = none ∧ v = some (.int 0) ∧ h' = h) ∨ ∃ j, plJ k P Fz m q t lo hi = some j ∧ v = some (.int 1) ∧ plP M P (pltF Fz (pq m q) j lo hi) h S J F G h')) := by
  refine gi_enter (by decide) (Nat.le_of_ble_eq_true rfl) ?_
  intro _ _ _ _ _ _ _ _ C hr hnm
  obtain ⟨fs, Ha, Hf⟩ := id H.1
  have ho : outM M h h := outM.rf
  cases et : tdx k P Fz m q t with
  | none =>
    refine gi_aload_n (q := 1) (i := 0) C (dm_Mo_plant 0 rfl) rfl rfl rfl ?_
    refine gi_iload_n (q := 2) (i := 1) C (dm_Mo_plant 1 rfl) rfl rfl rfl ?_
    refine gi_iload_n (q := 3) (i := 2) C (dm_Mo_plant 2 rfl) rfl rfl rfl ?_
    refine gi_iload_n (q := 4) (i := 3) C (dm_Mo_plant 3 rfl) rfl rfl rfl ?_
    refine gi_callv 3 (q := 7) C (dm_Mo_plant 4 rfl) rfl my_Mo_slotOf lk_Mo_522 im_Mo_slotOf rfl (c_Mo_slotOf_0 m q t et B hpg h9 h0 hF H) Ha rfl rfl ⟨(Nat.le_of_ble_eq_true rfl), (Nat.le_of_ble_eq_true rfl)⟩ (Nat.le_of_ble_eq_true rfl) ⟨(Nat.le_of_ble_eq_true rfl), (Nat.le_of_ble_eq_true rfl)⟩ (fun r4 n4 h4 e4 => ?_)
    obtain ⟨rfl, q4, u4⟩ := e4
    rw [q4, u4]
    refine gi_istore (q := 9) C (dm_Mo_plant 5 rfl) rfl (Nat.le_of_ble_eq_true rfl) ?_
    refine gi_iload (q := 11) C (dm_Mo_plant 6 rfl) rfl rfl ?_
    refine gi_if_lt (q := 14) (tgt := 36) C (dm_Mo_plant 7 rfl) rfl (by decide) (fun c11 => ?_) (fun c11 => ?_)
    · refine gi_iconst (q := 37) (v := 0) C (dm_Mo_plant 20 rfl) rfl (by decide) ?_
      refine gi_zret C hr (dm_Mo_plant 21 rfl) rfl ?_
      exact ⟨rfl, .inl ⟨by unfold plJ; rw [et], rfl, rfl⟩⟩
    · exact absurd (by decide) c11
  | some j =>
    obtain ⟨a, b, x, ha, hb, hb60, rfl, rfl, ep, tl, hx, x8, ty, ll, jn, jt⟩ := tdx_pl B hF et
    have w8 := B.wf.k8
    have gn := G_n ty
    have s14 := sl_14 (L := pN P 2 a) (n := (Fz (60 * a + b)).n) (i := j) ll (by omega) jn
    have j6 : nI (sl (pN P 2 a) j) < 6 ↔ t < 10 := by
      rw [jt, show (6 : Int32) = nI 6 from rfl, nI_ltI (by omega) (by omega)]
      unfold sl
      split <;> omega
    have hj : ¬ t < 10 → pN P 2 a ≤ j := fun z => by rw [jt] at z; omega
    obtain ⟨r31, rr⟩ := h0.1 (60 * a + b) (by omega)
    obtain ⟨-, -, rw0⟩ := rr tl
    obtain ⟨ce, mk⟩ := rw0 j jn
    have e60 : (60 * a + b) / 60 = a := by omega
    rw [e60] at ce mk
    obtain ⟨av, ak, -, -⟩ := tyG_mk ty jn
    refine gi_aload_n (q := 1) (i := 0) C (dm_Mo_plant 0 rfl) rfl rfl rfl ?_
    refine gi_iload_n (q := 2) (i := 1) C (dm_Mo_plant 1 rfl) rfl rfl rfl ?_
    refine gi_iload_n (q := 3) (i := 2) C (dm_Mo_plant 2 rfl) rfl rfl rfl ?_
    refine gi_iload_n (q := 4) (i := 3) C (dm_Mo_plant 3 rfl) rfl rfl rfl ?_
    refine gi_callv 3 (q := 7) C (dm_Mo_plant 4 rfl) rfl my_Mo_slotOf lk_Mo_522 im_Mo_slotOf rfl (c_Mo_slotOf_1 t (by omega) et B hpg h9 h0 hF H) Ha rfl rfl ⟨(Nat.le_of_ble_eq_true rfl), (Nat.le_of_ble_eq_true rfl)⟩ (Nat.le_of_ble_eq_true rfl) ⟨(Nat.le_of_ble_eq_true rfl), (Nat.le_of_ble_eq_true rfl)⟩ (fun r4 n4 h4 e4 => ?_)
    obtain ⟨rfl, q4, u4⟩ := e4
    rw [q4, u4]
    refine gi_istore (q := 9) C (dm_Mo_plant 5 rfl) rfl (Nat.le_of_ble_eq_true rfl) ?_
    refine gi_iload (q := 11) C (dm_Mo_plant 6 rfl) rfl rfl ?_
    refine gi_if_lt (q := 14) (tgt := 36) C (dm_Mo_plant 7 rfl) rfl (by decide) (fun c11 => ?_) (fun c11 => ?_)
    · exact absurd c11 (Int32.not_lt.mpr (nI_le (a := 0) (Nat.zero_le _) (by omega)))
    · refine gi_aload_n (q := 15) (i := 0) C (dm_Mo_plant 8 rfl) rfl rfl rfl ?_
      refine gi_bipush (q := 17) (v := 60) C (dm_Mo_plant 9 rfl) rfl (by decide) ?_
      refine gi_iload_n (q := 18) (i := 1) C (dm_Mo_plant 10 rfl) rfl rfl rfl ?_
      refine gi_imul (q := 19) C (dm_Mo_plant 11 rfl) rfl ?_
      refine gi_iload_n (q := 20) (i := 2) C (dm_Mo_plant 12 rfl) rfl rfl rfl ?_
      refine gi_iadd (q := 21) C (dm_Mo_plant 13 rfl) rfl ?_
      rw [show (60 : Int32) = nI 60 from rfl, nI_ml, nI_add]
      refine gi_iload (q := 23) C (dm_Mo_plant 14 rfl) rfl rfl ?_
      refine gi_callv 2 (q := 26) C (dm_Mo_plant 15 rfl) rfl my_Mo_isArray lk_Mo_408 im_Mo_isArray rfl (c_Mo_isArray (x := x) B.wf ha hb hpg.1 s14 x8 (pg_at hpg B.wf ha hb hx).2 H) Ha rfl rfl ⟨(Nat.le_of_ble_eq_true rfl), (Nat.le_of_ble_eq_true rfl)⟩ (Nat.le_of_ble_eq_true rfl) ⟨(Nat.le_of_ble_eq_true rfl), (Nat.le_of_ble_eq_true rfl)⟩ (fun r23 n23 h23 e23 => ?_)
      obtain ⟨rfl, q23, u23⟩ := e23
      rw [q23, u23]
      refine gi_if_ne (q := 29) (tgt := 36) C (dm_Mo_plant 16 rfl) rfl (by decide) (fun c26 => ?_) (fun c26 => ?_)
      · refine gi_iconst (q := 37) (v := 0) C (dm_Mo_plant 20 rfl) rfl (by decide) ?_
        refine gi_zret C hr (dm_Mo_plant 21 rfl) rfl ?_
        refine ⟨rfl, .inl ⟨?_, rfl, rfl⟩⟩
        unfold plJ
        rw [et]
        dsimp only
        rw [ep, if_neg ?_]
        rintro ⟨z1, z2⟩
        first
          | exact c33 z2
          | (rw [sl_isA ll (by omega), ← ak, z1] at c26; exact c26 rfl)
      · have z26 : arA ((Fz (60 * a + b)).f j).1 = false := by
          rw [sl_isA ll (by omega), ← ak] at c26
          exact bI_fa c26
        refine gi_iload (q := 31) C (dm_Mo_plant 17 rfl) rfl rfl ?_
        refine gi_iload (q := 33) C (dm_Mo_plant 18 rfl) rfl rfl ?_
        refine gi_icmp_le (q := 36) (tgt := 38) C (dm_Mo_plant 19 rfl) rfl (by decide) (fun c33 => ?_) (fun c33 => ?_)
        · refine gi_bipush (q := 40) (v := 14) C (dm_Mo_plant 22 rfl) rfl (by decide) ?_
          refine gi_bipush (q := 42) (v := 60) C (dm_Mo_plant 23 rfl) rfl (by decide) ?_
          refine gi_iload_n (q := 43) (i := 1) C (dm_Mo_plant 24 rfl) rfl rfl rfl ?_
          refine gi_imul (q := 44) C (dm_Mo_plant 25 rfl) rfl ?_
          refine gi_iload_n (q := 45) (i := 2) C (dm_Mo_plant 26 rfl) rfl rfl rfl ?_
          refine gi_iadd (q := 46) C (dm_Mo_plant 27 rfl) rfl ?_
          refine gi_imul (q := 47) C (dm_Mo_plant 28 rfl) rfl ?_
          refine gi_iload (q := 49) C (dm_Mo_plant 29 rfl) rfl rfl ?_
          refine gi_iadd (q := 50) C (dm_Mo_plant 30 rfl) rfl ?_
          rw [show (14 : Int32) = nI 14 from rfl, show (60 : Int32) = nI 60 from rfl, nI_ml, nI_add, nI_ml, nI_add]
          refine gi_istore (q := 52) C (dm_Mo_plant 31 rfl) rfl (Nat.le_of_ble_eq_true rfl) ?_
          refine gi_aload_n (q := 53) (i := 0) C (dm_Mo_plant 32 rfl) rfl rfl rfl ?_
          refine gi_get (q := 56) C (dm_Mo_plant 33 rfl) rfl fl_Mo_60 Ha (mo_g32 Hf) ?_
          refine gi_iload (q := 58) C (dm_Mo_plant 34 rfl) rfl rfl ?_
          refine gi_iload (q := 60) C (dm_Mo_plant 35 rfl) rfl rfl ?_
          refine gi_i2l (q := 61) C (dm_Mo_plant 36 rfl) rfl ?_
          refine gi_last (q := 62) C (dm_Mo_plant 37 rfl) rfl rfl (mo_a32 H) (inN (show 14 * (60 * a + b) + sl (pN P 2 a) j < 13440 by omega) (by decide)) ?_
          refine gi_genM (H.setJ (p := 14) (k := 32) (by decide) rfl rfl rfl (by omega)) (ho.up (by omega) (by omega)) (fun y H ho => ?_)
          obtain ⟨fs, Ha, Hf⟩ := id H.1
          refine gi_aload_n (q := 63) (i := 0) C (dm_Mo_plant 38 rfl) rfl rfl rfl ?_
          refine gi_get (q := 66) C (dm_Mo_plant 39 rfl) rfl fl_Mo_64 Ha (mo_g33 Hf) ?_
          refine gi_iload (q := 68) C (dm_Mo_plant 40 rfl) rfl rfl ?_
          refine gi_iload (q := 70) C (dm_Mo_plant 41 rfl) rfl rfl ?_
          refine gi_i2l (q := 71) C (dm_Mo_plant 42 rfl) rfl ?_
          refine gi_last (q := 72) C (dm_Mo_plant 43 rfl) rfl rfl (mo_a33 H) (inN (show 14 * (60 * a + b) + sl (pN P 2 a) j < 13440 by omega) (by decide)) ?_
          refine gi_genM (H.setJ (p := 15) (k := 33) (by decide) rfl rfl rfl (by omega)) (ho.up (by omega) (by omega)) (fun y H ho => ?_)
          obtain ⟨fs, Ha, Hf⟩ := id H.1
          refine gi_aload_n (q := 73) (i := 0) C (dm_Mo_plant 44 rfl) rfl rfl rfl ?_
          refine gi_get (q := 76) C (dm_Mo_plant 45 rfl) rfl fl_Mo_67 Ha (mo_g34 Hf) ?_
          refine gi_iload (q := 78) C (dm_Mo_plant 46 rfl) rfl rfl ?_
          refine gi_iload (q := 80) C (dm_Mo_plant 47 rfl) rfl rfl ?_
          refine gi_iload (q := 82) C (dm_Mo_plant 48 rfl) rfl rfl ?_
          refine gi_icmp_ne (q := 85) (tgt := 89) C (dm_Mo_plant 49 rfl) rfl (by decide) (fun c82 => ?_) (fun c82 => ?_)
          · refine gi_lconst (q := 90) (v := 1) C (dm_Mo_plant 52 rfl) rfl (by decide) ?_
            refine gi_last (q := 91) C (dm_Mo_plant 53 rfl) rfl rfl (mo_a34 H) (inN (show 14 * (60 * a + b) + sl (pN P 2 a) j < 13440 by omega) (by decide)) ?_
            refine gi_genM (H.setJ (p := 16) (k := 34) (by decide) rfl rfl rfl (by omega)) (ho.up (by omega) (by omega)) (fun y H ho => ?_)
            obtain ⟨fs, Ha, Hf⟩ := id H.1
            refine gi_iconst (q := 92) (v := 1) C (dm_Mo_plant 54 rfl) rfl (by decide) ?_
            refine gi_zret C hr (dm_Mo_plant 55 rfl) rfl ?_
            rw [nI_clamp (show 14 * (60 * a + b) + sl (pN P 2 a) j < 2 ^ 31 by omega)] at H
            simp only [upA_n (show (33 : Nat) ≠ 32 by decide), upA_n (show (34 : Nat) ≠ 33 by decide), upA_n (show (34 : Nat) ≠ 32 by decide)] at H
            have e3 : ∀ q : Nat, cS F (upA (upA (upA G 32 (vp_updL (G 32) (14 * (60 * a + b) + sl (pN P 2 a) j) lo.toInt64)) 33 (vp_updL (G 33) (14 * (60 * a + b) + sl (pN P 2 a) j) hi.toInt64)) 34 (vp_updL (G 34) (14 * (60 * a + b) + sl (pN P 2 a) j) 1)) q = if q = 14 * (60 * a + b) + sl (pN P 2 a) j then (lo.toInt64, hi.toInt64, 1, F 35 q, F 36 q, F 37 q) else cS F G q := fun q => by
              unfold cS
              by_cases z : q = 14 * (60 * a + b) + sl (pN P 2 a) j
              · rw [if_pos z, upA_n (by decide), upA_n (by decide), upA_i, upA_n (by decide), upA_i, upA_i, updJ_is, updJ_is, updJ_is, if_pos z, if_pos z, if_pos z]
              · rw [if_neg z, upA_n (by decide), upA_n (by decide), upA_i, upA_n (by decide), upA_i, upA_i, updJ_is, updJ_is, updJ_is, if_neg z, if_neg z, if_neg z]
            refine ⟨rfl, .inr ⟨j, by unfold plJ; rw [et]; dsimp only; rw [ep, if_pos ⟨z26, c33⟩], rfl, F, _, H, ho, fun _ _ => rfl, fun c hc => by rw [upA_n (by omega), upA_n (by omega), upA_n (by omega)], ?_⟩⟩
            rw [ep]
            refine fsN.put1 h0 ⟨fun _ _ => rfl, fun c hc => by rw [upA_n (by omega), upA_n (by omega), upA_n (by omega)], fun _ _ => rfl, fun _ _ => rfl, fun q hq => by rw [e3, if_neg (by omega)]⟩ (by omega) ⟨r31, fun z => ?_⟩
            obtain ⟨y6, y8, y⟩ := rr z
            refine ⟨y6, y8, ?_⟩
            refine rw_up (d := (lo.toInt64, hi.toInt64, 1, F 35 (14 * (60 * a + b) + sl (pN P 2 a) j), F 36 (14 * (60 * a + b) + sl (pN P 2 a) j), F 37 (14 * (60 * a + b) + sl (pN P 2 a) j))) y y6 ?_ ?_ ?_
            · funext q
              try dsimp only
              rw [e3, e60]
              by_cases z2 : q = sl (pN P 2 a) j
              · subst z2
                rw [if_pos rfl, upO_self]
              · rw [if_neg (by omega), upO_ne z2]
            · rw [i2l_eL, i2l_eL]
              unfold mkS
              first
                | (rw [if_pos (Int32.toInt_inj.mpr c82)]
                   exact ⟨rfl, rfl, rfl⟩)
                | (rw [if_neg (fun z => c82 (Int32.toInt_inj.mp z))]
                   exact ⟨rfl, rfl, rfl⟩)
            · rw [e60]
              exact mk
          · refine gi_lconst (q := 86) (v := 0) C (dm_Mo_plant 50 rfl) rfl (by decide) ?_
            refine gi_goto (tgt := 90) C (dm_Mo_plant 51 rfl) (by decide) ?_
            refine gi_last (q := 91) C (dm_Mo_plant 53 rfl) rfl rfl (mo_a34 H) (inN (show 14 * (60 * a + b) + sl (pN P 2 a) j < 13440 by omega) (by decide)) ?_
            refine gi_genM (H.setJ (p := 16) (k := 34) (by decide) rfl rfl rfl (by omega)) (ho.up (by omega) (by omega)) (fun y H ho => ?_)
            obtain ⟨fs, Ha, Hf⟩ := id H.1
            refine gi_iconst (q := 92) (v := 1) C (dm_Mo_plant 54 rfl) rfl (by decide) ?_
            refine gi_zret C hr (dm_Mo_plant 55 rfl) rfl ?_
            rw [nI_clamp (show 14 * (60 * a + b) + sl (pN P 2 a) j < 2 ^ 31 by omega)] at H
            simp only [upA_n (show (33 : Nat) ≠ 32 by decide), upA_n (show (34 : Nat) ≠ 33 by decide), upA_n (show (34 : Nat) ≠ 32 by decide)] at H
            have e3 : ∀ q : Nat, cS F (upA (upA (upA G 32 (vp_updL (G 32) (14 * (60 * a + b) + sl (pN P 2 a) j) lo.toInt64)) 33 (vp_updL (G 33) (14 * (60 * a + b) + sl (pN P 2 a) j) hi.toInt64)) 34 (vp_updL (G 34) (14 * (60 * a + b) + sl (pN P 2 a) j) 0)) q = if q = 14 * (60 * a + b) + sl (pN P 2 a) j then (lo.toInt64, hi.toInt64, 0, F 35 q, F 36 q, F 37 q) else cS F G q := fun q => by
              unfold cS
              by_cases z : q = 14 * (60 * a + b) + sl (pN P 2 a) j
              · rw [if_pos z, upA_n (by decide), upA_n (by decide), upA_i, upA_n (by decide), upA_i, upA_i, updJ_is, updJ_is, updJ_is, if_pos z, if_pos z, if_pos z]
              · rw [if_neg z, upA_n (by decide), upA_n (by decide), upA_i, upA_n (by decide), upA_i, upA_i, updJ_is, updJ_is, updJ_is, if_neg z, if_neg z, if_neg z]
            refine ⟨rfl, .inr ⟨j, by unfold plJ; rw [et]; dsimp only; rw [ep, if_pos ⟨z26, c33⟩], rfl, F, _, H, ho, fun _ _ => rfl, fun c hc => by rw [upA_n (by omega), upA_n (by omega), upA_n (by omega)], ?_⟩⟩
            rw [ep]
            refine fsN.put1 h0 ⟨fun _ _ => rfl, fun c hc => by rw [upA_n (by omega), upA_n (by omega), upA_n (by omega)], fun _ _ => rfl, fun _ _ => rfl, fun q hq => by rw [e3, if_neg (by omega)]⟩ (by omega) ⟨r31, fun z => ?_⟩
            obtain ⟨y6, y8, y⟩ := rr z
            refine ⟨y6, y8, ?_⟩
            refine rw_up (d := (lo.toInt64, hi.toInt64, 0, F 35 (14 * (60 * a + b) + sl (pN P 2 a) j), F 36 (14 * (60 * a + b) + sl (pN P 2 a) j), F 37 (14 * (60 * a + b) + sl (pN P 2 a) j))) y y6 ?_ ?_ ?_
            · funext q
              try dsimp only
              rw [e3, e60]
              by_cases z2 : q = sl (pN P 2 a) j
              · subst z2
                rw [if_pos rfl, upO_self]
              · rw [if_neg (by omega), upO_ne z2]
            · rw [i2l_eL, i2l_eL]
              unfold mkS
              first
                | (rw [if_pos (Int32.toInt_inj.mpr c82)]
                   exact ⟨rfl, rfl, rfl⟩)
                | (rw [if_neg (fun z => c82 (Int32.toInt_inj.mp z))]
                   exact ⟨rfl, rfl, rfl⟩)
            · rw [e60]
              exact mk
        · refine gi_iconst (q := 37) (v := 0) C (dm_Mo_plant 20 rfl) rfl (by decide) ?_
          refine gi_zret C hr (dm_Mo_plant 21 rfl) rfl ?_
          refine ⟨rfl, .inl ⟨?_, rfl, rfl⟩⟩
          unfold plJ
          rw [et]
          dsimp only
          rw [ep, if_neg ?_]
          rintro ⟨z1, z2⟩
          first
            | exact c33 z2
            | (rw [sl_isA ll (by omega), ← ak, z1] at c26; exact c26 rfl)
set_option maxHeartbeats 4000000 in
set_option maxRecDepth 100000 in
theorem c_Mo_forgetState (m q : Int32) (B : Built k P sh sn wd) (hpg : pgR k P sh S F) (h9 : S 9 = 1) (h0 : fsN P Fz F G) (hF : okF (tyF P sh) Fz) (H : mo_at M S J F G h) : gi_T l V y_Mo_forgetState b_Mo_forgetState 3 (some .boolean) 3 65 0 0 [.ref M, .int m, .int q] n h (fun v n' h' => n' = n ∧ v = some (.int (bI (rcV k P Fz m q))) ∧ ((rcV k P Fz m q = false ∧ h' = h) ∨ (rcV k P Fz m q = true ∧ plP M P (fgtF Fz (pq m q)) h S J F G h'))) := by
  refine gi_enter (by decide) (Nat.le_of_ble_eq_true rfl) ?_
  intro _ _ _ _ _ _ _ _ C hr hnm
  obtain ⟨fs, Ha, Hf⟩ := id H.1
  have ho : outM M h h := outM.rf
  refine gi_aload_n (q := 1) (i := 0) C (dm_Mo_forgetState 0 rfl) rfl rfl rfl ?_
  refine gi_iload_n (q := 2) (i := 1) C (dm_Mo_forgetState 1 rfl) rfl rfl rfl ?_
  refine gi_iload_n (q := 3) (i := 2) C (dm_Mo_forgetState 2 rfl) rfl rfl rfl ?_
  refine gi_callv 2 (q := 6) C (dm_Mo_forgetState 3 rfl) rfl my_Mo_reached lk_Mo_519 im_Mo_reached rfl (c_Mo_reached m q B.wf hpg.1 hpg.2.1 h9 h0 H) Ha rfl rfl ⟨(Nat.le_of_ble_eq_true rfl), (Nat.le_of_ble_eq_true rfl)⟩ (Nat.le_of_ble_eq_true rfl) ⟨(Nat.le_of_ble_eq_true rfl), (Nat.le_of_ble_eq_true rfl)⟩ (fun r3 n3 h3 e3 => ?_)
  obtain ⟨rfl, q3, u3⟩ := e3
  rw [q3, u3]
  refine gi_if_ne (q := 9) (tgt := 11) C (dm_Mo_forgetState 4 rfl) rfl (by decide) (fun c6 => ?_) (fun c6 => ?_)
  · have rc := bI_t c6
    obtain ⟨a, b, x, ha, hb, hb60, rfl, rfl, ep, tl, hx, x8, ty, ll⟩ := plc2 B hF rc
    have w8 := B.wf.k8
    refine gi_aload_n (q := 12) (i := 0) C (dm_Mo_forgetState 7 rfl) rfl rfl rfl ?_
    refine gi_get (q := 15) C (dm_Mo_forgetState 8 rfl) rfl fl_Mo_57 Ha (mo_g31 Hf) ?_
    refine gi_bipush (q := 17) (v := 60) C (dm_Mo_forgetState 9 rfl) rfl (by decide) ?_
    refine gi_iload_n (q := 18) (i := 1) C (dm_Mo_forgetState 10 rfl) rfl rfl rfl ?_
    refine gi_imul (q := 19) C (dm_Mo_forgetState 11 rfl) rfl ?_
    refine gi_iload_n (q := 20) (i := 2) C (dm_Mo_forgetState 12 rfl) rfl rfl rfl ?_
    refine gi_iadd (q := 21) C (dm_Mo_forgetState 13 rfl) rfl ?_
    rw [show (60 : Int32) = nI 60 from rfl, nI_ml, nI_add]
    refine gi_iconst (q := 22) (v := 0) C (dm_Mo_forgetState 14 rfl) rfl (by decide) ?_
    refine gi_zast (q := 23) C (dm_Mo_forgetState 15 rfl) rfl rfl (mo_a31 H) (inN (show 60 * a + b < 960 by omega) (by decide)) ?_
    refine gi_genM (H.setI (p := 13) (k := 31) (by decide) rfl rfl (by decide) rfl (by omega)) (ho.up (by omega) (by omega)) (fun y H ho => ?_)
    obtain ⟨fs, Ha, Hf⟩ := id H.1
    refine gi_iconst (q := 24) (v := 1) C (dm_Mo_forgetState 16 rfl) rfl (by decide) ?_
    refine gi_zret C hr (dm_Mo_forgetState 17 rfl) rfl ?_
    rw [nI_clamp (show 60 * a + b < 2 ^ 31 by omega)] at H
    refine ⟨rfl, by rw [rc]; rfl, .inr ⟨rc, _, G, H, ho, fun c hc => by rw [upA_n (by omega)], fun _ _ => rfl, ?_⟩⟩
    rw [ep]
    refine fsN.put1 h0 ⟨fun c hc => by rw [upA_n (by omega)], fun _ _ => rfl, fun q hq => by rw [upA_i, upd_is, if_neg hq], fun _ _ => by rw [upA_n (by decide)], fun q hq => by unfold cS; rw [upA_n (by decide), upA_n (by decide), upA_n (by decide)]⟩ (by omega) ⟨?_, fun z => by cases z⟩
    rw [upA_i, upd_is, if_pos rfl]
    rfl
  · refine gi_iconst (q := 10) (v := 0) C (dm_Mo_forgetState 5 rfl) rfl (by decide) ?_
    refine gi_zret C hr (dm_Mo_forgetState 6 rfl) rfl ?_
    exact ⟨rfl, by rw [bI_fa c6]; rfl, .inl ⟨bI_fa c6, rfl⟩⟩
end RL2
