-- needs: 89.89
section RL1
variable {l : Launch} {V : gi_V} {n : Nat} {h h' : gi_H} {M k : Nat} {P : Pm} {sh : Nat → Option Sh} {S S' : Nat → Int32} {J J' : Nat → Int64} {F F' : Nat → Nat → Int32} {G G' : Nat → Nat → Int64} {Fz : Fa} {sn : Nat → Nat} {wd : Nat → Bool}
set_option maxHeartbeats 4000000 in
set_option maxRecDepth 100000 in
theorem c_Mo_isPlace (m q : Int32) (W : wfP k P) (hP : prF P F) (hk : S 0 = nI k) (H : mo_at M S J F G h) : gi_T l V y_Mo_isPlace b_Mo_isPlace 3 (some .boolean) 1 21 0 0 [.ref M, .int m, .int q] n h (gi_is (some (.int (bI (isP k P m q)))) n h) := by
  refine gi_enter (by decide) (Nat.le_of_ble_eq_true rfl) ?_
  intro _ _ _ _ _ _ _ _ C hr hnm
  obtain ⟨fs, Ha, Hf⟩ := id H.1
  have ho : outM M h h := outM.rf
  refine gi_aload_n (q := 1) (i := 0) C (dm_Mo_isPlace 0 rfl) rfl rfl rfl ?_
  refine gi_iload_n (q := 2) (i := 1) C (dm_Mo_isPlace 1 rfl) rfl rfl rfl ?_
  refine gi_callv 1 (q := 5) C (dm_Mo_isPlace 2 rfl) rfl my_Mo_isMethod lk_Mo_186 im_Mo_isMethod rfl (c_Mo_isMethod m hk H) Ha rfl rfl ⟨(Nat.le_of_ble_eq_true rfl), (Nat.le_of_ble_eq_true rfl)⟩ (Nat.le_of_ble_eq_true rfl) ⟨(Nat.le_of_ble_eq_true rfl), (Nat.le_of_ble_eq_true rfl)⟩ (fun r2 n2 h2 e2 => ?_)
  obtain ⟨rfl, q2, u2⟩ := e2
  rw [q2, u2]
  refine gi_if_eq (q := 8) (tgt := 26) C (dm_Mo_isPlace 3 rfl) rfl (by decide) (fun c5 => ?_) (fun c5 => ?_)
  · refine gi_iconst (q := 27) (v := 0) C (dm_Mo_isPlace 14 rfl) rfl (by decide) ?_
    refine gi_zret C hr (dm_Mo_isPlace 15 rfl) rfl ?_
    refine ⟨?_, rfl, rfl⟩
    unfold isP
    first
      | (rw [bI_fa c5]; rfl)
      | (rw [im, decide_eq_false (Int32.not_le.mpr c9)]; rfl)
      | (rw [im, decide_eq_true (Int32.not_lt.mp c9), decide_eq_false (Int32.not_lt.mpr c19)]; rfl)
      | (rw [im, decide_eq_true (Int32.not_lt.mp c9), decide_eq_true (Int32.not_le.mp c19)]; rfl)
  · have im := bI_t c5
    obtain ⟨a, ha, ea⟩ := isM_nI W.k8 im
    have w8 := W.k8
    refine gi_iload_n (q := 9) (i := 2) C (dm_Mo_isPlace 4 rfl) rfl rfl rfl ?_
    refine gi_if_lt (q := 12) (tgt := 26) C (dm_Mo_isPlace 5 rfl) rfl (by decide) (fun c9 => ?_) (fun c9 => ?_)
    · refine gi_iconst (q := 27) (v := 0) C (dm_Mo_isPlace 14 rfl) rfl (by decide) ?_
      refine gi_zret C hr (dm_Mo_isPlace 15 rfl) rfl ?_
      refine ⟨?_, rfl, rfl⟩
      unfold isP
      first
        | (rw [bI_fa c5]; rfl)
        | (rw [im, decide_eq_false (Int32.not_le.mpr c9)]; rfl)
        | (rw [im, decide_eq_true (Int32.not_lt.mp c9), decide_eq_false (Int32.not_lt.mpr c19)]; rfl)
        | (rw [im, decide_eq_true (Int32.not_lt.mp c9), decide_eq_true (Int32.not_le.mp c19)]; rfl)
    · refine gi_iload_n (q := 13) (i := 2) C (dm_Mo_isPlace 6 rfl) rfl rfl rfl ?_
      refine gi_aload_n (q := 14) (i := 0) C (dm_Mo_isPlace 7 rfl) rfl rfl rfl ?_
      refine gi_get (q := 17) C (dm_Mo_isPlace 8 rfl) rfl fl_Mo_22 Ha (mo_g5 Hf) ?_
      refine gi_iload_n (q := 18) (i := 1) C (dm_Mo_isPlace 9 rfl) rfl rfl rfl ?_
      refine gi_iald (q := 19) C (dm_Mo_isPlace 10 rfl) rfl rfl (mo_a5 H) (by rw [ea]; exact inN (show a < 8 by omega) (by decide)) ?_
      rw [hP 5 (by decide) (by decide)]
      refine gi_icmp_ge (q := 22) (tgt := 26) C (dm_Mo_isPlace 11 rfl) rfl (by decide) (fun c19 => ?_) (fun c19 => ?_)
      · refine gi_iconst (q := 27) (v := 0) C (dm_Mo_isPlace 14 rfl) rfl (by decide) ?_
        refine gi_zret C hr (dm_Mo_isPlace 15 rfl) rfl ?_
        refine ⟨?_, rfl, rfl⟩
        unfold isP
        first
          | (rw [bI_fa c5]; rfl)
          | (rw [im, decide_eq_false (Int32.not_le.mpr c9)]; rfl)
          | (rw [im, decide_eq_true (Int32.not_lt.mp c9), decide_eq_false (Int32.not_lt.mpr c19)]; rfl)
          | (rw [im, decide_eq_true (Int32.not_lt.mp c9), decide_eq_true (Int32.not_le.mp c19)]; rfl)
      · refine gi_iconst (q := 23) (v := 1) C (dm_Mo_isPlace 12 rfl) rfl (by decide) ?_
        refine gi_goto (tgt := 27) C (dm_Mo_isPlace 13 rfl) (by decide) ?_
        refine gi_zret C hr (dm_Mo_isPlace 15 rfl) rfl ?_
        refine ⟨?_, rfl, rfl⟩
        unfold isP
        first
          | (rw [bI_fa c5]; rfl)
          | (rw [im, decide_eq_false (Int32.not_le.mpr c9)]; rfl)
          | (rw [im, decide_eq_true (Int32.not_lt.mp c9), decide_eq_false (Int32.not_lt.mpr c19)]; rfl)
          | (rw [im, decide_eq_true (Int32.not_lt.mp c9), decide_eq_true (Int32.not_le.mp c19)]; rfl)
set_option maxHeartbeats 4000000 in
set_option maxRecDepth 100000 in
theorem c_Mo_reached (m q : Int32) (W : wfP k P) (hP : prF P F) (hk : S 0 = nI k) (h9 : S 9 = 1) (h0 : fsN P Fz F G) (H : mo_at M S J F G h) : gi_T l V y_Mo_reached b_Mo_reached 3 (some .boolean) 2 43 0 0 [.ref M, .int m, .int q] n h (gi_is (some (.int (bI (rcV k P Fz m q)))) n h) := by
  refine gi_enter (by decide) (Nat.le_of_ble_eq_true rfl) ?_
  intro _ _ _ _ _ _ _ _ C hr hnm
  obtain ⟨fs, Ha, Hf⟩ := id H.1
  have ho : outM M h h := outM.rf
  refine gi_aload_n (q := 1) (i := 0) C (dm_Mo_reached 0 rfl) rfl rfl rfl ?_
  refine gi_get (q := 4) C (dm_Mo_reached 1 rfl) rfl fl_Mo_183 Ha (mo_g9 Hf) ?_
  refine gi_if_eq (q := 7) (tgt := 34) C (dm_Mo_reached 2 rfl) rfl (by decide) (fun c4 => ?_) (fun c4 => ?_)
  · exact absurd c4 (by rw [h9]; decide)
  · refine gi_aload_n (q := 8) (i := 0) C (dm_Mo_reached 3 rfl) rfl rfl rfl ?_
    refine gi_iload_n (q := 9) (i := 1) C (dm_Mo_reached 4 rfl) rfl rfl rfl ?_
    refine gi_iload_n (q := 10) (i := 2) C (dm_Mo_reached 5 rfl) rfl rfl rfl ?_
    refine gi_callv 2 (q := 13) C (dm_Mo_reached 6 rfl) rfl my_Mo_isPlace lk_Mo_516 im_Mo_isPlace rfl (c_Mo_isPlace m q W hP hk H) Ha rfl rfl ⟨(Nat.le_of_ble_eq_true rfl), (Nat.le_of_ble_eq_true rfl)⟩ (Nat.le_of_ble_eq_true rfl) ⟨(Nat.le_of_ble_eq_true rfl), (Nat.le_of_ble_eq_true rfl)⟩ (fun r10 n10 h10 e10 => ?_)
    obtain ⟨rfl, q10, u10⟩ := e10
    rw [q10, u10]
    refine gi_if_eq (q := 16) (tgt := 34) C (dm_Mo_reached 7 rfl) rfl (by decide) (fun c13 => ?_) (fun c13 => ?_)
    · refine gi_iconst (q := 35) (v := 0) C (dm_Mo_reached 19 rfl) rfl (by decide) ?_
      refine gi_zret C hr (dm_Mo_reached 20 rfl) rfl ?_
      refine ⟨?_, rfl, rfl⟩
      unfold rcV
      first
        | (rw [bI_fa c13]; rfl)
        | (rw [ip, ep, bI_t c27]; rfl)
        | (rw [ip, ep, bI_fa c27]; rfl)
    · have ip := bI_t c13
      obtain ⟨a, b, ha, hb, hb60, rfl, rfl, ep⟩ := isP_ex W ip
      have w8 := W.k8
      refine gi_aload_n (q := 17) (i := 0) C (dm_Mo_reached 8 rfl) rfl rfl rfl ?_
      refine gi_get (q := 20) C (dm_Mo_reached 9 rfl) rfl fl_Mo_57 Ha (mo_g31 Hf) ?_
      refine gi_bipush (q := 22) (v := 60) C (dm_Mo_reached 10 rfl) rfl (by decide) ?_
      refine gi_iload_n (q := 23) (i := 1) C (dm_Mo_reached 11 rfl) rfl rfl rfl ?_
      refine gi_imul (q := 24) C (dm_Mo_reached 12 rfl) rfl ?_
      refine gi_iload_n (q := 25) (i := 2) C (dm_Mo_reached 13 rfl) rfl rfl rfl ?_
      refine gi_iadd (q := 26) C (dm_Mo_reached 14 rfl) rfl ?_
      rw [show (60 : Int32) = nI 60 from rfl, nI_ml, nI_add]
      refine gi_zald (q := 27) C (dm_Mo_reached 15 rfl) rfl rfl (mo_a31 H) (inN (show 60 * a + b < 960 by omega) (by decide)) ?_
      rw [nI_clamp (show 60 * a + b < 2 ^ 31 by omega), (h0.1 (60 * a + b) (by omega)).1]
      refine gi_if_eq (q := 30) (tgt := 34) C (dm_Mo_reached 16 rfl) rfl (by decide) (fun c27 => ?_) (fun c27 => ?_)
      · refine gi_iconst (q := 35) (v := 0) C (dm_Mo_reached 19 rfl) rfl (by decide) ?_
        refine gi_zret C hr (dm_Mo_reached 20 rfl) rfl ?_
        refine ⟨?_, rfl, rfl⟩
        unfold rcV
        first
          | (rw [bI_fa c13]; rfl)
          | (rw [ip, ep, bI_t c27]; rfl)
          | (rw [ip, ep, bI_fa c27]; rfl)
      · refine gi_iconst (q := 31) (v := 1) C (dm_Mo_reached 17 rfl) rfl (by decide) ?_
        refine gi_goto (tgt := 35) C (dm_Mo_reached 18 rfl) (by decide) ?_
        refine gi_zret C hr (dm_Mo_reached 20 rfl) rfl ?_
        refine ⟨?_, rfl, rfl⟩
        unfold rcV
        first
          | (rw [bI_fa c13]; rfl)
          | (rw [ip, ep, bI_t c27]; rfl)
          | (rw [ip, ep, bI_fa c27]; rfl)
/-- what is told of a place -/
theorem plc2 (B : Built k P sh sn wd) (hF : okF (tyF P sh) Fz) {m q : Int32} (h : rcV k P Fz m q = true) : ∃ a b x, a < k ∧ b < pN P 5 a ∧ b < 60 ∧ m = nI a ∧ q = nI b ∧ pq m q = 60 * a + b ∧ (Fz (60 * a + b)).told = true ∧ sh (60 * a + b) = some x ∧ x.1 ≤ 8 ∧ tyG P a x (Fz (60 * a + b)).n (Fz (60 * a + b)).f ∧ pN P 2 a ≤ 6 := by
  unfold rcV at h
  rw [Bool.and_eq_true] at h
  obtain ⟨a, b, ha, hb, hb60, rfl, rfl, ep⟩ := isP_ex B.wf h.1
  have w8 := B.wf.k8
  have tl := h.2
  rw [ep] at tl
  obtain ⟨m', i', x, y, h1, h2, h3, h4, h5, h6, h7, h8, h9, h10, h11, -⟩ := plc B (p := 60 * a + b) (by omega) hF tl
  have em : m' = a := by omega
  subst em
  exact ⟨m', b, x, ha, hb, hb60, rfl, rfl, ep, tl, h6, h7, h9, h11⟩
def slV (P : Pm) (m : Int32) : Option Nat → Int32
  | none => -1
  | some j => nI (sl (pN P 2 m.toNatClampNeg) j)
theorem tdx_f {m q sl' : Int32} (h : rcV k P Fz m q = false) : tdx k P Fz m q sl' = none := by
  unfold tdx
  rw [h, if_neg (by decide)]
theorem tdx_t {m q sl' : Int32} (h : rcV k P Fz m q = true) : tdx k P Fz m q sl' = (match ixS P m.toNatClampNeg sl' with | none => none | some j => if j < (Fz (pq m q)).n then some j else none) := by
  unfold tdx
  rw [h, if_pos rfl]
  cases ixS P m.toNatClampNeg sl' <;> rfl
theorem tdx_in (B : Built k P sh sn wd) (hF : okF (tyF P sh) Fz) {m q sl' : Int32} {j : Nat} (h : tdx k P Fz m q sl' = some j) : rcV k P Fz m q = true ∧ j < (Fz (pq m q)).n := by
  cases e : rcV k P Fz m q with
  | false => rw [tdx_f e] at h; cases h
  | true =>
    rw [tdx_t e] at h
    cases e2 : ixS P m.toNatClampNeg sl' with
    | none => rw [e2] at h; cases h
    | some j' =>
      rw [e2] at h
      dsimp only at h
      split at h
      · cases h
        exact ⟨rfl, by assumption⟩
      · cases h
set_option maxHeartbeats 4000000 in
set_option maxRecDepth 100000 in
theorem c_Mo_slotOf (m q t : Int32) (B : Built k P sh sn wd) (hpg : pgR k P sh S F) (h9 : S 9 = 1) (h0 : fsN P Fz F G) (hF : okF (tyF P sh) Fz) (H : mo_at M S J F G h) : gi_T l V y_Mo_slotOf b_Mo_slotOf 5 (some .int) 3 65 0 0 [.ref M, .int m, .int q, .int t] n h (gi_is (some (.int (slV P m (tdx k P Fz m q t)))) n h) := by
  refine gi_enter (by decide) (Nat.le_of_ble_eq_true rfl) ?_
  intro _ _ _ _ _ _ _ _ C hr hnm
  obtain ⟨fs, Ha, Hf⟩ := id H.1
  have ho : outM M h h := outM.rf
  refine gi_aload_n (q := 1) (i := 0) C (dm_Mo_slotOf 0 rfl) rfl rfl rfl ?_
  refine gi_iload_n (q := 2) (i := 1) C (dm_Mo_slotOf 1 rfl) rfl rfl rfl ?_
  refine gi_iload_n (q := 3) (i := 2) C (dm_Mo_slotOf 2 rfl) rfl rfl rfl ?_
  refine gi_callv 2 (q := 6) C (dm_Mo_slotOf 3 rfl) rfl my_Mo_reached lk_Mo_519 im_Mo_reached rfl (c_Mo_reached m q B.wf hpg.1 hpg.2.1 h9 h0 H) Ha rfl rfl ⟨(Nat.le_of_ble_eq_true rfl), (Nat.le_of_ble_eq_true rfl)⟩ (Nat.le_of_ble_eq_true rfl) ⟨(Nat.le_of_ble_eq_true rfl), (Nat.le_of_ble_eq_true rfl)⟩ (fun r3 n3 h3 e3 => ?_)
  obtain ⟨rfl, q3, u3⟩ := e3
  rw [q3, u3]
  refine gi_if_ne (q := 9) (tgt := 11) C (dm_Mo_slotOf 4 rfl) rfl (by decide) (fun c6 => ?_) (fun c6 => ?_)
  · have rc := bI_t c6
    obtain ⟨a, b, x, ha, hb, hb60, rfl, rfl, ep, tl, hx, x8, ty, ll⟩ := plc2 B hF rc
    have w8 := B.wf.k8
    have sb := i32_b t
    refine gi_iload_n (q := 12) (i := 3) C (dm_Mo_slotOf 7 rfl) rfl rfl rfl ?_
    refine gi_bipush (q := 14) (v := 10) C (dm_Mo_slotOf 8 rfl) rfl (by decide) ?_
    refine gi_icmp_lt (q := 17) (tgt := 23) C (dm_Mo_slotOf 9 rfl) rfl (by decide) (fun c14 => ?_) (fun c14 => ?_)
    · refine gi_iload_n (q := 24) (i := 3) C (dm_Mo_slotOf 14 rfl) rfl rfl rfl ?_
      refine gi_iconst (q := 25) (v := 5) C (dm_Mo_slotOf 15 rfl) rfl (by decide) ?_
      refine gi_icmp_le (q := 28) (tgt := 32) C (dm_Mo_slotOf 16 rfl) rfl (by decide) (fun c25 => ?_) (fun c25 => ?_)
      · refine gi_iload_n (q := 33) (i := 3) C (dm_Mo_slotOf 19 rfl) rfl rfl rfl ?_
        have t5 : t.toInt ≤ 5 := by
          have q2 := c25
          rw [Int32.le_iff_toInt_le, show (5 : Int32).toInt = 5 from rfl] at q2
          exact q2
        refine gi_istore (q := 35) C (dm_Mo_slotOf 20 rfl) rfl (Nat.le_of_ble_eq_true rfl) ?_
        refine gi_iload (q := 37) C (dm_Mo_slotOf 21 rfl) rfl rfl ?_
        refine gi_if_lt (q := 40) (tgt := 67) C (dm_Mo_slotOf 22 rfl) rfl (by decide) (fun c37 => ?_) (fun c37 => ?_)
        · refine gi_iconst (q := 68) (v := -1) C (dm_Mo_slotOf 37 rfl) rfl (by decide) ?_
          refine gi_iret C hr (dm_Mo_slotOf 38 rfl) ?_
          refine ⟨?_, rfl, rfl⟩
          rw [tdx_t rc]
          show _ = some (Value.int (slV P (nI a) _))
          rw [nI_clamp (show a < 2 ^ 31 by omega), ep]
          have gn := G_n ty
          unfold ixS
          have q := c37
          rw [Int32.lt_iff_toInt_lt, show (0 : Int32).toInt = 0 from rfl] at q
          rw [if_neg (by omega), if_neg (by omega)]
          rfl
        · obtain ⟨kt, et⟩ : ∃ kt : Nat, t = nI kt ∧ kt ≤ 5 := by
            have q := c37
            rw [Int32.lt_iff_toInt_lt, show (0 : Int32).toInt = 0 from rfl] at q
            exact ⟨t.toInt.toNat, by apply Int32.toInt_inj.mp; rw [nI_toInt (by omega)]; omega, by omega⟩
          obtain ⟨et, k5⟩ := et
          subst et
          refine gi_iload (q := 42) C (dm_Mo_slotOf 23 rfl) rfl rfl ?_
          refine gi_bipush (q := 44) (v := 14) C (dm_Mo_slotOf 24 rfl) rfl (by decide) ?_
          refine gi_icmp_ge (q := 47) (tgt := 67) C (dm_Mo_slotOf 25 rfl) rfl (by decide) (fun c44 => ?_) (fun c44 => ?_)
          · exact absurd c44 (by rw [Int32.le_iff_toInt_le, show (14 : Int32).toInt = 14 from rfl]; omega)
          · refine gi_aload_n (q := 48) (i := 0) C (dm_Mo_slotOf 26 rfl) rfl rfl rfl ?_
            refine gi_bipush (q := 50) (v := 60) C (dm_Mo_slotOf 27 rfl) rfl (by decide) ?_
            refine gi_iload_n (q := 51) (i := 1) C (dm_Mo_slotOf 28 rfl) rfl rfl rfl ?_
            refine gi_imul (q := 52) C (dm_Mo_slotOf 29 rfl) rfl ?_
            refine gi_iload_n (q := 53) (i := 2) C (dm_Mo_slotOf 30 rfl) rfl rfl rfl ?_
            refine gi_iadd (q := 54) C (dm_Mo_slotOf 31 rfl) rfl ?_
            rw [show (60 : Int32) = nI 60 from rfl, nI_ml, nI_add]
            refine gi_iload (q := 56) C (dm_Mo_slotOf 32 rfl) rfl rfl ?_
            refine gi_callv 2 (q := 59) C (dm_Mo_slotOf 33 rfl) rfl my_Mo_isSlot lk_Mo_404 im_Mo_isSlot rfl (c_Mo_isSlot (x := x) (j := kt) B.wf ha hb hpg.1 (by omega) x8 (pg_at hpg B.wf ha hb hx).1 H) Ha rfl rfl ⟨(Nat.le_of_ble_eq_true rfl), (Nat.le_of_ble_eq_true rfl)⟩ (Nat.le_of_ble_eq_true rfl) ⟨(Nat.le_of_ble_eq_true rfl), (Nat.le_of_ble_eq_true rfl)⟩ (fun r56 n56 h56 e56 => ?_)
            obtain ⟨rfl, q56, u56⟩ := e56
            rw [q56, u56]
            refine gi_if_eq (q := 62) (tgt := 67) C (dm_Mo_slotOf 34 rfl) rfl (by decide) (fun c59 => ?_) (fun c59 => ?_)
            · refine gi_iconst (q := 68) (v := -1) C (dm_Mo_slotOf 37 rfl) rfl (by decide) ?_
              refine gi_iret C hr (dm_Mo_slotOf 38 rfl) ?_
              refine ⟨?_, rfl, rfl⟩
              rw [tdx_t rc]
              show _ = some (Value.int (slV P (nI a) _))
              rw [nI_clamp (show a < 2 ^ 31 by omega), ep]
              have gn := G_n ty
              unfold ixS
              rw [nI_toInt (by omega)]
              have sS := bI_fa c59
              unfold isS at sS
              rw [if_pos (by omega), decide_eq_false_iff_not] at sS
              rw [if_neg (by omega), if_neg (by omega)]
              rfl
            · refine gi_iload (q := 64) C (dm_Mo_slotOf 35 rfl) rfl rfl ?_
              refine gi_goto (tgt := 68) C (dm_Mo_slotOf 36 rfl) (by decide) ?_
              refine gi_iret C hr (dm_Mo_slotOf 38 rfl) ?_
              refine ⟨?_, rfl, rfl⟩
              rw [tdx_t rc]
              show _ = some (Value.int (slV P (nI a) _))
              rw [nI_clamp (show a < 2 ^ 31 by omega), ep]
              have gn := G_n ty
              unfold ixS
              rw [nI_toInt (by omega)]
              have sS := bI_t c59
              unfold isS at sS
              rw [if_pos (by omega), decide_eq_true_iff] at sS
              rw [if_pos (by omega), nI_clamp (by omega)]
              dsimp only
              rw [if_pos (by omega)]
              show _ = some (Value.int (nI (sl (pN P 2 (nI a).toNatClampNeg) kt)))
              rw [nI_clamp (show a < 2 ^ 31 by omega), sl_lo sS]
      · refine gi_iconst (q := 29) (v := -1) C (dm_Mo_slotOf 17 rfl) rfl (by decide) ?_
        refine gi_goto (tgt := 33) C (dm_Mo_slotOf 18 rfl) (by decide) ?_
        have t6 : 6 ≤ t.toInt ∧ t.toInt < 10 := by
          have q1 := c14
          have q2 := c25
          rw [Int32.lt_iff_toInt_lt, show (10 : Int32).toInt = 10 from rfl] at q1
          rw [Int32.le_iff_toInt_le, show (5 : Int32).toInt = 5 from rfl] at q2
          omega
        refine gi_istore (q := 35) C (dm_Mo_slotOf 20 rfl) rfl (Nat.le_of_ble_eq_true rfl) ?_
        refine gi_iload (q := 37) C (dm_Mo_slotOf 21 rfl) rfl rfl ?_
        refine gi_if_lt (q := 40) (tgt := 67) C (dm_Mo_slotOf 22 rfl) rfl (by decide) (fun c37 => ?_) (fun c37 => ?_)
        · refine gi_iconst (q := 68) (v := -1) C (dm_Mo_slotOf 37 rfl) rfl (by decide) ?_
          refine gi_iret C hr (dm_Mo_slotOf 38 rfl) ?_
          refine ⟨?_, rfl, rfl⟩
          rw [tdx_t rc]
          show _ = some (Value.int (slV P (nI a) _))
          rw [nI_clamp (show a < 2 ^ 31 by omega), ep]
          have gn := G_n ty
          unfold ixS
          rw [if_neg (by omega), if_neg (by omega)]
          rfl
        · exact absurd (by decide) c37
    · refine gi_iload_n (q := 18) (i := 3) C (dm_Mo_slotOf 10 rfl) rfl rfl rfl ?_
      refine gi_iconst (q := 19) (v := 4) C (dm_Mo_slotOf 11 rfl) rfl (by decide) ?_
      refine gi_isub (q := 20) C (dm_Mo_slotOf 12 rfl) rfl ?_
      refine gi_goto (tgt := 33) C (dm_Mo_slotOf 13 rfl) (by decide) ?_
      have t10 : 10 ≤ t.toInt := by
        have q := c14
        rw [Int32.lt_iff_toInt_lt, show (10 : Int32).toInt = 10 from rfl] at q
        omega
      obtain ⟨kt, et⟩ : ∃ kt : Nat, t = nI kt ∧ kt < 2 ^ 31 := ⟨t.toInt.toNat, by apply Int32.toInt_inj.mp; rw [nI_toInt (by omega)]; omega, by omega⟩
      obtain ⟨et, k31⟩ := et
      subst et
      rw [nI_toInt k31] at t10
      rw [show (4 : Int32) = nI 4 from rfl, nI_sb (by omega) k31]
      refine gi_istore (q := 35) C (dm_Mo_slotOf 20 rfl) rfl (Nat.le_of_ble_eq_true rfl) ?_
      refine gi_iload (q := 37) C (dm_Mo_slotOf 21 rfl) rfl rfl ?_
      refine gi_if_lt (q := 40) (tgt := 67) C (dm_Mo_slotOf 22 rfl) rfl (by decide) (fun c37 => ?_) (fun c37 => ?_)
      · exact absurd c37 (Int32.not_lt.mpr (nI_le (a := 0) (Nat.zero_le _) (by omega)))
      · refine gi_iload (q := 42) C (dm_Mo_slotOf 23 rfl) rfl rfl ?_
        refine gi_bipush (q := 44) (v := 14) C (dm_Mo_slotOf 24 rfl) rfl (by decide) ?_
        refine gi_icmp_ge (q := 47) (tgt := 67) C (dm_Mo_slotOf 25 rfl) rfl (by decide) (fun c44 => ?_) (fun c44 => ?_)
        · refine gi_iconst (q := 68) (v := -1) C (dm_Mo_slotOf 37 rfl) rfl (by decide) ?_
          refine gi_iret C hr (dm_Mo_slotOf 38 rfl) ?_
          refine ⟨?_, rfl, rfl⟩
          rw [tdx_t rc]
          show _ = some (Value.int (slV P (nI a) _))
          rw [nI_clamp (show a < 2 ^ 31 by omega), ep]
          have gn := G_n ty
          unfold ixS
          rw [nI_toInt k31, if_neg (by omega)]
          have k18 : 18 ≤ kt := by
            have q := c44
            rw [show (14 : Int32) = nI 14 from rfl, nI_leP (by decide) (by omega)] at q
            omega
          rw [if_neg (by omega)]
          rfl
        · have k18 : kt - 4 < 14 := by
            have q := c44
            rw [show (14 : Int32) = nI 14 from rfl, nI_leP (by decide) (by omega)] at q
            omega
          refine gi_aload_n (q := 48) (i := 0) C (dm_Mo_slotOf 26 rfl) rfl rfl rfl ?_
          refine gi_bipush (q := 50) (v := 60) C (dm_Mo_slotOf 27 rfl) rfl (by decide) ?_
          refine gi_iload_n (q := 51) (i := 1) C (dm_Mo_slotOf 28 rfl) rfl rfl rfl ?_
          refine gi_imul (q := 52) C (dm_Mo_slotOf 29 rfl) rfl ?_
          refine gi_iload_n (q := 53) (i := 2) C (dm_Mo_slotOf 30 rfl) rfl rfl rfl ?_
          refine gi_iadd (q := 54) C (dm_Mo_slotOf 31 rfl) rfl ?_
          rw [show (60 : Int32) = nI 60 from rfl, nI_ml, nI_add]
          refine gi_iload (q := 56) C (dm_Mo_slotOf 32 rfl) rfl rfl ?_
          refine gi_callv 2 (q := 59) C (dm_Mo_slotOf 33 rfl) rfl my_Mo_isSlot lk_Mo_404 im_Mo_isSlot rfl (c_Mo_isSlot (x := x) (j := kt - 4) B.wf ha hb hpg.1 k18 x8 (pg_at hpg B.wf ha hb hx).1 H) Ha rfl rfl ⟨(Nat.le_of_ble_eq_true rfl), (Nat.le_of_ble_eq_true rfl)⟩ (Nat.le_of_ble_eq_true rfl) ⟨(Nat.le_of_ble_eq_true rfl), (Nat.le_of_ble_eq_true rfl)⟩ (fun r56 n56 h56 e56 => ?_)
          obtain ⟨rfl, q56, u56⟩ := e56
          rw [q56, u56]
          refine gi_if_eq (q := 62) (tgt := 67) C (dm_Mo_slotOf 34 rfl) rfl (by decide) (fun c59 => ?_) (fun c59 => ?_)
          · refine gi_iconst (q := 68) (v := -1) C (dm_Mo_slotOf 37 rfl) rfl (by decide) ?_
            refine gi_iret C hr (dm_Mo_slotOf 38 rfl) ?_
            refine ⟨?_, rfl, rfl⟩
            rw [tdx_t rc]
            show _ = some (Value.int (slV P (nI a) _))
            rw [nI_clamp (show a < 2 ^ 31 by omega), ep]
            have gn := G_n ty
            unfold ixS
            rw [nI_toInt k31, if_neg (by omega)]
            have sS := bI_fa c59
            unfold isS at sS
            rw [if_neg (by omega), decide_eq_false_iff_not] at sS
            rw [if_pos (by omega), nI_clamp k31]
            dsimp only
            rw [if_neg (by omega)]
            rfl
          · refine gi_iload (q := 64) C (dm_Mo_slotOf 35 rfl) rfl rfl ?_
            refine gi_goto (tgt := 68) C (dm_Mo_slotOf 36 rfl) (by decide) ?_
            refine gi_iret C hr (dm_Mo_slotOf 38 rfl) ?_
            refine ⟨?_, rfl, rfl⟩
            rw [tdx_t rc]
            show _ = some (Value.int (slV P (nI a) _))
            rw [nI_clamp (show a < 2 ^ 31 by omega), ep]
            have gn := G_n ty
            unfold ixS
            rw [nI_toInt k31, if_neg (by omega)]
            have sS := bI_t c59
            unfold isS at sS
            rw [if_neg (by omega), decide_eq_true_iff] at sS
            rw [if_pos (by omega), nI_clamp k31]
            dsimp only
            rw [if_pos (by omega)]
            show _ = some (Value.int (nI (sl (pN P 2 (nI a).toNatClampNeg) (pN P 2 a + kt - 10))))
            rw [nI_clamp (show a < 2 ^ 31 by omega), sl_hi (by omega), show pN P 2 a + kt - 10 - pN P 2 a + 6 = kt - 4 by omega]
  · refine gi_iconst (q := 10) (v := -1) C (dm_Mo_slotOf 5 rfl) rfl (by decide) ?_
    refine gi_iret C hr (dm_Mo_slotOf 6 rfl) ?_
    refine ⟨?_, rfl, rfl⟩
    rw [tdx_f (bI_fa c6)]
    rfl
end RL1
