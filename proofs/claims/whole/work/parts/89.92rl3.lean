-- needs: 89.91
section RL3
variable {l : Launch} {V : gi_V} {n : Nat} {h h' : gi_H} {M k : Nat} {P : Pm} {sh : Nat → Option Sh} {S S' : Nat → Int32} {J J' : Nat → Int64} {F F' : Nat → Nat → Int32} {G G' : Nat → Nat → Int64} {Fz : Fa} {sn : Nat → Nat} {wd : Nat → Bool} {ct : Bool}
/-- three parts of a span -/
def tdW (c : Ce) (w : Int32) : Int64 := if w = 0 then c.1 else if w = 1 then c.2.1 else c.2.2.1
theorem pv_t {v : Av} {c : Ce} {w : Nat} (h : ceA v c) (a : arA v = false) (hw : w ≤ 2) : partV (eA v) (nI w) = tdW c (nI w) := by
  rw [pv_s h a]
  unfold tdW
  have : w = 0 ∨ w = 1 ∨ w = 2 := by omega
  rcases this with rfl | rfl | rfl <;> rfl
theorem pv_no {v : Av} {c : Ce} {w : Int32} (h : ceA v c) (a : arA v = false) (hw : w < 0 ∨ 2 < w) : partV (eA v) w = NOl := by
  rw [pv_s h a, if_neg, if_neg, if_neg]
  · rintro rfl; revert hw; decide
  · rintro rfl; revert hw; decide
  · rintro rfl; revert hw; decide
theorem ti_n {w : Nat} (h : w ≤ 2) {t : Nat} (ht : t < 480) : True := trivial
theorem nI_ei {a b : Nat} (ha : a < 2 ^ 31) (hb : b < 2 ^ 31) : nI a = nI b ↔ a = b := ⟨fun e => by have := congrArg Int32.toInt e; rw [nI_toInt ha, nI_toInt hb] at this; omega, fun e => by rw [e]⟩
set_option maxHeartbeats 4000000 in
set_option maxRecDepth 100000 in
theorem c_Mo_toldOf {i : Nat} (hi : i < 160) (w : Int32) (H : mo_at M S J F G h) : gi_T l V y_Mo_toldOf b_Mo_toldOf 3 (some .long) 0 0 0 0 [.ref M, .int (nI i), .int w] n h (gi_is (some (.long (tdW (cT F G i) w))) n h) := by
  refine gi_enter (by decide) (Nat.le_of_ble_eq_true rfl) ?_
  intro _ _ _ _ _ _ _ _ C hr hnm
  obtain ⟨fs, Ha, Hf⟩ := id H.1
  have ho : outM M h h := outM.rf
  refine gi_iload_n (q := 1) (i := 2) C (dm_Mo_toldOf 0 rfl) rfl rfl rfl ?_
  refine gi_if_ne (q := 4) (tgt := 13) C (dm_Mo_toldOf 1 rfl) rfl (by decide) (fun c1 => ?_) (fun c1 => ?_)
  · refine gi_iload_n (q := 14) (i := 2) C (dm_Mo_toldOf 7 rfl) rfl rfl rfl ?_
    refine gi_iconst (q := 15) (v := 1) C (dm_Mo_toldOf 8 rfl) rfl (by decide) ?_
    refine gi_icmp_ne (q := 18) (tgt := 27) C (dm_Mo_toldOf 9 rfl) rfl (by decide) (fun c15 => ?_) (fun c15 => ?_)
    · refine gi_aload_n (q := 28) (i := 0) C (dm_Mo_toldOf 15 rfl) rfl rfl rfl ?_
      refine gi_get (q := 31) C (dm_Mo_toldOf 16 rfl) rfl fl_Mo_92 Ha (mo_g42 Hf) ?_
      refine gi_iload_n (q := 32) (i := 1) C (dm_Mo_toldOf 17 rfl) rfl rfl rfl ?_
      refine gi_lald (q := 33) C (dm_Mo_toldOf 18 rfl) rfl rfl (mo_a42 H) (inN hi (by decide)) ?_
      refine gi_lret C hr (dm_Mo_toldOf 19 rfl) ?_
      rw [nI_clamp (show i < 2 ^ 31 by omega)]
      refine ⟨?_, rfl, rfl⟩
      unfold tdW
      first
        | (rw [if_pos c1] <;> rfl)
        | (rw [if_neg c1, if_pos c15] <;> rfl)
        | (rw [if_neg c1, if_neg c15] <;> rfl)
    · refine gi_aload_n (q := 19) (i := 0) C (dm_Mo_toldOf 10 rfl) rfl rfl rfl ?_
      refine gi_get (q := 22) C (dm_Mo_toldOf 11 rfl) rfl fl_Mo_89 Ha (mo_g41 Hf) ?_
      refine gi_iload_n (q := 23) (i := 1) C (dm_Mo_toldOf 12 rfl) rfl rfl rfl ?_
      refine gi_lald (q := 24) C (dm_Mo_toldOf 13 rfl) rfl rfl (mo_a41 H) (inN hi (by decide)) ?_
      refine gi_goto (tgt := 33) C (dm_Mo_toldOf 14 rfl) (by decide) ?_
      refine gi_lret C hr (dm_Mo_toldOf 19 rfl) ?_
      rw [nI_clamp (show i < 2 ^ 31 by omega)]
      refine ⟨?_, rfl, rfl⟩
      unfold tdW
      first
        | (rw [if_pos c1] <;> rfl)
        | (rw [if_neg c1, if_pos c15] <;> rfl)
        | (rw [if_neg c1, if_neg c15] <;> rfl)
  · refine gi_aload_n (q := 5) (i := 0) C (dm_Mo_toldOf 2 rfl) rfl rfl rfl ?_
    refine gi_get (q := 8) C (dm_Mo_toldOf 3 rfl) rfl fl_Mo_86 Ha (mo_g40 Hf) ?_
    refine gi_iload_n (q := 9) (i := 1) C (dm_Mo_toldOf 4 rfl) rfl rfl rfl ?_
    refine gi_lald (q := 10) C (dm_Mo_toldOf 5 rfl) rfl rfl (mo_a40 H) (inN hi (by decide)) ?_
    refine gi_goto (tgt := 33) C (dm_Mo_toldOf 6 rfl) (by decide) ?_
    refine gi_lret C hr (dm_Mo_toldOf 19 rfl) ?_
    rw [nI_clamp (show i < 2 ^ 31 by omega)]
    refine ⟨?_, rfl, rfl⟩
    unfold tdW
    first
      | (rw [if_pos c1] <;> rfl)
      | (rw [if_neg c1, if_pos c15] <;> rfl)
      | (rw [if_neg c1, if_neg c15] <;> rfl)
theorem fl_ce (h0 : fsN P Fz F G) (hq : rdO (tyF P sh) Fz) {t : Nat} (h1 : 480 ≤ t) (h2 : t < 534) (tl : (Fz t).told = true) : ceA ((Fz t).f 0).1 (cT F G (tix t)) ∧ arA ((Fz t).f 0).1 = false := by
  obtain ⟨-, b⟩ := h0.2 t h1 (by omega)
  have b := b tl
  have o1 := one_row hq h1 h2 tl
  unfold tvA at b
  rw [if_neg (by omega)] at b
  obtain ⟨x, ex, -⟩ := row_sp hq h1 h2 tl
  refine ⟨b, ?_⟩
  rw [ex]
  rfl
theorem tix_f {f : Nat} (h : f < 4) : tix (530 + f) = 64 + f := by
  unfold tix
  rw [if_neg (by omega), if_neg (by omega), if_pos (by omega)]
  omega
theorem tix_l {s : Nat} (h : s < 25) : tix (480 + s) = s := by
  unfold tix
  rw [if_pos (by omega)]
  omega
theorem tix_e {s : Nat} (h : s < 25) : tix (505 + s) = 32 + s := by
  unfold tix
  rw [if_neg (by omega), if_pos (by omega)]
  omega
theorem tix_r {m : Nat} (h : m < 8) : tix (534 + m) = 72 + m := by
  unfold tix
  rw [if_neg (by omega), if_neg (by omega), if_neg (by omega)]
  omega
theorem flA_no (h0 : fsN P Fz F G) (hq : rdO (tyF P sh) Fz) {f wh : Int32} (c : f < 0 ∨ 3 < f ∨ wh < 0 ∨ 2 < wh) : flA Fz f wh = NOl := by
  unfold flA
  by_cases hf : 0 ≤ f.toInt ∧ f.toInt < 4
  · rw [if_pos hf]
    have fb : f.toNatClampNeg = f.toInt.toNat := rfl
    obtain ⟨ce, ar⟩ := fl_ce h0 hq (t := 530 + f.toNatClampNeg) (by omega) (by omega) (hq.2 f.toNatClampNeg (by omega))
    rw [pv_no ce ar]
    rcases c with c | c | c
    · exfalso
      rw [Int32.lt_iff_toInt_lt, show (0 : Int32).toInt = 0 from rfl] at c
      omega
    · exfalso
      rw [Int32.lt_iff_toInt_lt, show (3 : Int32).toInt = 3 from rfl] at c
      omega
    · exact c
  · rw [if_neg hf]
theorem fl_no (h0 : fsN P Fz F G) (hq : rdO (tyF P sh) Fz) {f wh : Int32} (c : f < 0 ∨ 3 < f ∨ wh < 0 ∨ 2 < wh) : gi_is (some (.long (flA Fz f wh))) n h (some (.long (-4611686018427387904))) n h := ⟨by rw [flA_no h0 hq c], rfl, rfl⟩
set_option maxHeartbeats 4000000 in
set_option maxRecDepth 100000 in
theorem c_Mo_field (f wh : Int32) (h9 : S 9 = 1) (h0 : fsN P Fz F G) (hq : rdO (tyF P sh) Fz) (H : mo_at M S J F G h) : gi_T l V y_Mo_field b_Mo_field 3 (some .long) 1 22 0 0 [.ref M, .int f, .int wh] n h (gi_is (some (.long (flA Fz f wh))) n h) := by
  refine gi_enter (by decide) (Nat.le_of_ble_eq_true rfl) ?_
  intro _ _ _ _ _ _ _ _ C hr hnm
  obtain ⟨fs, Ha, Hf⟩ := id H.1
  have ho : outM M h h := outM.rf
  refine gi_aload_n (q := 1) (i := 0) C (dm_Mo_field 0 rfl) rfl rfl rfl ?_
  refine gi_get (q := 4) C (dm_Mo_field 1 rfl) rfl fl_Mo_183 Ha (mo_g9 Hf) ?_
  refine gi_if_eq (q := 7) (tgt := 37) C (dm_Mo_field 2 rfl) rfl (by decide) (fun c4 => ?_) (fun c4 => ?_)
  · exact absurd c4 (by rw [h9]; decide)
  · refine gi_iload_n (q := 8) (i := 1) C (dm_Mo_field 3 rfl) rfl rfl rfl ?_
    refine gi_if_lt (q := 11) (tgt := 37) C (dm_Mo_field 4 rfl) rfl (by decide) (fun c8 => ?_) (fun c8 => ?_)
    · refine gi_ldc2 (q := 40) C (dm_Mo_field 20 rfl) rfl kc_Mo_525 ?_
      refine gi_lret C hr (dm_Mo_field 21 rfl) ?_
      first
        | (obtain ⟨ce, ar⟩ := fl_ce h0 hq (t := 530 + a) (by omega) (by omega) (hq.2 a (by omega))
           rw [tix_f (by omega)] at ce
           refine ⟨?_, rfl, rfl⟩
           unfold flA
           rw [nI_toInt (by omega), nI_clamp (by omega), if_pos (by omega), pv_t ce ar (by omega)])
        | exact fl_no h0 hq (by first | exact .inl c8 | exact .inr (.inl c13) | exact .inr (.inr (.inl c17)) | exact .inr (.inr (.inr c22)))
    · refine gi_iload_n (q := 12) (i := 1) C (dm_Mo_field 5 rfl) rfl rfl rfl ?_
      refine gi_iconst (q := 13) (v := 3) C (dm_Mo_field 6 rfl) rfl (by decide) ?_
      refine gi_icmp_gt (q := 16) (tgt := 37) C (dm_Mo_field 7 rfl) rfl (by decide) (fun c13 => ?_) (fun c13 => ?_)
      · refine gi_ldc2 (q := 40) C (dm_Mo_field 20 rfl) rfl kc_Mo_525 ?_
        refine gi_lret C hr (dm_Mo_field 21 rfl) ?_
        first
          | (obtain ⟨ce, ar⟩ := fl_ce h0 hq (t := 530 + a) (by omega) (by omega) (hq.2 a (by omega))
             rw [tix_f (by omega)] at ce
             refine ⟨?_, rfl, rfl⟩
             unfold flA
             rw [nI_toInt (by omega), nI_clamp (by omega), if_pos (by omega), pv_t ce ar (by omega)])
          | exact fl_no h0 hq (by first | exact .inl c8 | exact .inr (.inl c13) | exact .inr (.inr (.inl c17)) | exact .inr (.inr (.inr c22)))
      · refine gi_iload_n (q := 17) (i := 2) C (dm_Mo_field 8 rfl) rfl rfl rfl ?_
        refine gi_if_lt (q := 20) (tgt := 37) C (dm_Mo_field 9 rfl) rfl (by decide) (fun c17 => ?_) (fun c17 => ?_)
        · refine gi_ldc2 (q := 40) C (dm_Mo_field 20 rfl) rfl kc_Mo_525 ?_
          refine gi_lret C hr (dm_Mo_field 21 rfl) ?_
          first
            | (obtain ⟨ce, ar⟩ := fl_ce h0 hq (t := 530 + a) (by omega) (by omega) (hq.2 a (by omega))
               rw [tix_f (by omega)] at ce
               refine ⟨?_, rfl, rfl⟩
               unfold flA
               rw [nI_toInt (by omega), nI_clamp (by omega), if_pos (by omega), pv_t ce ar (by omega)])
            | exact fl_no h0 hq (by first | exact .inl c8 | exact .inr (.inl c13) | exact .inr (.inr (.inl c17)) | exact .inr (.inr (.inr c22)))
        · refine gi_iload_n (q := 21) (i := 2) C (dm_Mo_field 10 rfl) rfl rfl rfl ?_
          refine gi_iconst (q := 22) (v := 2) C (dm_Mo_field 11 rfl) rfl (by decide) ?_
          refine gi_icmp_gt (q := 25) (tgt := 37) C (dm_Mo_field 12 rfl) rfl (by decide) (fun c22 => ?_) (fun c22 => ?_)
          · refine gi_ldc2 (q := 40) C (dm_Mo_field 20 rfl) rfl kc_Mo_525 ?_
            refine gi_lret C hr (dm_Mo_field 21 rfl) ?_
            first
              | (obtain ⟨ce, ar⟩ := fl_ce h0 hq (t := 530 + a) (by omega) (by omega) (hq.2 a (by omega))
                 rw [tix_f (by omega)] at ce
                 refine ⟨?_, rfl, rfl⟩
                 unfold flA
                 rw [nI_toInt (by omega), nI_clamp (by omega), if_pos (by omega), pv_t ce ar (by omega)])
              | exact fl_no h0 hq (by first | exact .inl c8 | exact .inr (.inl c13) | exact .inr (.inr (.inl c17)) | exact .inr (.inr (.inr c22)))
          · obtain ⟨a, ea, ab⟩ : ∃ z : Nat, f = nI z ∧ z ≤ 3 := by
              have q1 := c8
              have q2 := Int32.not_lt.mp c13
              rw [Int32.lt_iff_toInt_lt, show (0 : Int32).toInt = 0 from rfl] at q1
              rw [Int32.le_iff_toInt_le, show (3 : Int32).toInt = 3 from rfl] at q2
              exact ⟨f.toInt.toNat, by apply Int32.toInt_inj.mp; rw [nI_toInt (by omega)]; omega, by omega⟩
            subst ea
            obtain ⟨w, ew, wb⟩ : ∃ z : Nat, wh = nI z ∧ z ≤ 2 := by
              have q1 := c17
              have q2 := Int32.not_lt.mp c22
              rw [Int32.lt_iff_toInt_lt, show (0 : Int32).toInt = 0 from rfl] at q1
              rw [Int32.le_iff_toInt_le, show (2 : Int32).toInt = 2 from rfl] at q2
              exact ⟨wh.toInt.toNat, by apply Int32.toInt_inj.mp; rw [nI_toInt (by omega)]; omega, by omega⟩
            subst ew
            refine gi_aload_n (q := 26) (i := 0) C (dm_Mo_field 13 rfl) rfl rfl rfl ?_
            refine gi_bipush (q := 28) (v := 64) C (dm_Mo_field 14 rfl) rfl (by decide) ?_
            refine gi_iload_n (q := 29) (i := 1) C (dm_Mo_field 15 rfl) rfl rfl rfl ?_
            refine gi_iadd (q := 30) C (dm_Mo_field 16 rfl) rfl ?_
            rw [show (64 : Int32) = nI 64 from rfl, nI_add]
            refine gi_iload_n (q := 31) (i := 2) C (dm_Mo_field 17 rfl) rfl rfl rfl ?_
            refine gi_callv 2 (q := 34) C (dm_Mo_field 18 rfl) rfl my_Mo_toldOf lk_Mo_527 im_Mo_toldOf rfl (c_Mo_toldOf (show 64 + a < 160 by omega) (nI w) H) Ha rfl rfl ⟨(Nat.le_of_ble_eq_true rfl), (Nat.le_of_ble_eq_true rfl)⟩ (Nat.le_of_ble_eq_true rfl) ⟨(Nat.le_of_ble_eq_true rfl), (Nat.le_of_ble_eq_true rfl)⟩ (fun r31 n31 h31 e31 => ?_)
            obtain ⟨rfl, q31, u31⟩ := e31
            rw [q31, u31]
            refine gi_goto (tgt := 40) C (dm_Mo_field 19 rfl) (by decide) ?_
            refine gi_lret C hr (dm_Mo_field 21 rfl) ?_
            first
              | (obtain ⟨ce, ar⟩ := fl_ce h0 hq (t := 530 + a) (by omega) (by omega) (hq.2 a (by omega))
                 rw [tix_f (by omega)] at ce
                 refine ⟨?_, rfl, rfl⟩
                 unfold flA
                 rw [nI_toInt (by omega), nI_clamp (by omega), if_pos (by omega), pv_t ce ar (by omega)])
              | exact fl_no h0 hq (by first | exact .inl c8 | exact .inr (.inl c13) | exact .inr (.inr (.inl c17)) | exact .inr (.inr (.inr c22)))
theorem siQ_o {s wh : Int32} (h : ¬ (0 ≤ s.toInt ∧ s.toInt < ((1 + sct k P sh 480 : Nat) : Int))) : siQ k P sh ct Fz s wh = NOl := by
  unfold siQ
  rw [if_neg h]
theorem siQ_w {s wh : Int32} (h : wh < 0 ∨ 7 < wh) : siQ k P sh ct Fz s wh = NOl := by
  unfold siQ
  have e : (wh < 0 ∨ 7 < wh) → wh ≠ 6 ∧ wh ≠ 7 ∧ ¬ (0 ≤ wh ∧ wh ≤ 5) := by
    intro q
    rw [Int32.lt_iff_toInt_lt, Int32.lt_iff_toInt_lt, show (0 : Int32).toInt = 0 from rfl, show (7 : Int32).toInt = 7 from rfl] at q
    refine ⟨?_, ?_, ?_⟩
    · rintro rfl
      rw [show (6 : Int32).toInt = 6 from rfl] at q
      omega
    · rintro rfl
      rw [show (7 : Int32).toInt = 7 from rfl] at q
      omega
    · rw [Int32.le_iff_toInt_le, Int32.le_iff_toInt_le, show (0 : Int32).toInt = 0 from rfl, show (5 : Int32).toInt = 5 from rfl]
      omega
  obtain ⟨e1, e2, e3⟩ := e h
  by_cases hg : 0 ≤ s.toInt ∧ s.toInt < ((1 + sct k P sh 480 : Nat) : Int)
  · rw [if_pos hg, if_neg e1, if_neg e2]
    exact if_neg (fun z => e3 z.2)
  · rw [if_neg hg]
theorem siQ_in {j : Nat} {wh : Int32} (j25 : j < 25) (h : j < 1 + sct k P sh 480) : siQ k P sh ct Fz (nI j) wh = if wh = 6 then siW k P sh (· / 60) j else if wh = 7 then siW k P sh (· % 60) j else if ct = true ∧ 0 ≤ wh ∧ wh ≤ 5 then (if wh < 3 then (if (Fz (480 + j)).told = true then partV (eA ((Fz (480 + j)).f 0).1) wh else NOl) else (if (Fz (505 + j)).told = true then partV (eA ((Fz (505 + j)).f 0).1) (wh - 3) else NOl)) else NOl := by
  unfold siQ
  rw [nI_toInt (by omega), nI_clamp (by omega), if_pos (by omega)]
theorem siW_0 (f : Nat → Nat) : siW k P sh f 0 = -1 := by
  unfold siW
  rw [siP_0]
set_option maxHeartbeats 4000000 in
set_option maxRecDepth 100000 in
theorem c_Mo_site (s wh : Int32) (W : wfP k P) (hI : mbI k P sh S F) (h8 : S 8 = 1) (h9 : S 9 = bI ct) (hc : ct = true → fsN P Fz F G ∧ rdO (tyF P sh) Fz) (H : mo_at M S J F G h) : gi_T l V y_Mo_site b_Mo_site 4 (some .long) 1 22 0 0 [.ref M, .int s, .int wh] n h (gi_is (some (.long (siQ k P sh ct Fz s wh))) n h) := by
  refine gi_enter (by decide) (Nat.le_of_ble_eq_true rfl) ?_
  intro _ _ _ _ _ _ _ _ C hr hnm
  obtain ⟨fs, Ha, Hf⟩ := id H.1
  have ho : outM M h h := outM.rf
  have c24 : sct k P sh 480 ≤ 24 := sct_24 (bld_built W hI.1).2 480 (by omega)
  refine gi_aload_n (q := 1) (i := 0) C (dm_Mo_site 0 rfl) rfl rfl rfl ?_
  refine gi_get (q := 4) C (dm_Mo_site 1 rfl) rfl fl_Mo_179 Ha (mo_g8 Hf) ?_
  refine gi_if_eq (q := 7) (tgt := 29) C (dm_Mo_site 2 rfl) rfl (by decide) (fun c4 => ?_) (fun c4 => ?_)
  · exact absurd c4 (by rw [h8]; decide)
  · refine gi_iload_n (q := 8) (i := 1) C (dm_Mo_site 3 rfl) rfl rfl rfl ?_
    refine gi_if_lt (q := 11) (tgt := 29) C (dm_Mo_site 4 rfl) rfl (by decide) (fun c8 => ?_) (fun c8 => ?_)
    · refine gi_ldc2 (q := 32) C (dm_Mo_site 14 rfl) rfl kc_Mo_525 ?_
      refine gi_lret C hr (dm_Mo_site 15 rfl) ?_
      first
        | exact ⟨(congrArg (fun v => some (Value.long v)) (siQ_w (.inl c20)).symm), rfl, rfl⟩
        | exact ⟨(congrArg (fun v => some (Value.long v)) (siQ_w (.inr (Int32.not_le.mp c26))).symm), rfl, rfl⟩
        | exact ⟨(congrArg (fun v => some (Value.long v)) (siQ_o (by have q := c8; rw [Int32.lt_iff_toInt_lt, show (0 : Int32).toInt = 0 from rfl] at q; omega)).symm), rfl, rfl⟩
        | exact ⟨(congrArg (fun v => some (Value.long v)) (siQ_o (by have q := c16; rw [hI.2.1, Int32.le_iff_toInt_le, nI_toInt (by omega)] at q; omega)).symm), rfl, rfl⟩
    · refine gi_iload_n (q := 12) (i := 1) C (dm_Mo_site 5 rfl) rfl rfl rfl ?_
      refine gi_aload_n (q := 13) (i := 0) C (dm_Mo_site 6 rfl) rfl rfl rfl ?_
      refine gi_get (q := 16) C (dm_Mo_site 7 rfl) rfl fl_Mo_229 Ha (mo_g18 Hf) ?_
      refine gi_icmp_ge (q := 19) (tgt := 29) C (dm_Mo_site 8 rfl) rfl (by decide) (fun c16 => ?_) (fun c16 => ?_)
      · refine gi_ldc2 (q := 32) C (dm_Mo_site 14 rfl) rfl kc_Mo_525 ?_
        refine gi_lret C hr (dm_Mo_site 15 rfl) ?_
        first
          | exact ⟨(congrArg (fun v => some (Value.long v)) (siQ_w (.inl c20)).symm), rfl, rfl⟩
          | exact ⟨(congrArg (fun v => some (Value.long v)) (siQ_w (.inr (Int32.not_le.mp c26))).symm), rfl, rfl⟩
          | exact ⟨(congrArg (fun v => some (Value.long v)) (siQ_o (by have q := c8; rw [Int32.lt_iff_toInt_lt, show (0 : Int32).toInt = 0 from rfl] at q; omega)).symm), rfl, rfl⟩
          | exact ⟨(congrArg (fun v => some (Value.long v)) (siQ_o (by have q := c16; rw [hI.2.1, Int32.le_iff_toInt_le, nI_toInt (by omega)] at q; omega)).symm), rfl, rfl⟩
      · refine gi_iload_n (q := 20) (i := 2) C (dm_Mo_site 9 rfl) rfl rfl rfl ?_
        refine gi_if_lt (q := 23) (tgt := 29) C (dm_Mo_site 10 rfl) rfl (by decide) (fun c20 => ?_) (fun c20 => ?_)
        · refine gi_ldc2 (q := 32) C (dm_Mo_site 14 rfl) rfl kc_Mo_525 ?_
          refine gi_lret C hr (dm_Mo_site 15 rfl) ?_
          first
            | exact ⟨(congrArg (fun v => some (Value.long v)) (siQ_w (.inl c20)).symm), rfl, rfl⟩
            | exact ⟨(congrArg (fun v => some (Value.long v)) (siQ_w (.inr (Int32.not_le.mp c26))).symm), rfl, rfl⟩
            | exact ⟨(congrArg (fun v => some (Value.long v)) (siQ_o (by have q := c8; rw [Int32.lt_iff_toInt_lt, show (0 : Int32).toInt = 0 from rfl] at q; omega)).symm), rfl, rfl⟩
            | exact ⟨(congrArg (fun v => some (Value.long v)) (siQ_o (by have q := c16; rw [hI.2.1, Int32.le_iff_toInt_le, nI_toInt (by omega)] at q; omega)).symm), rfl, rfl⟩
        · refine gi_iload_n (q := 24) (i := 2) C (dm_Mo_site 11 rfl) rfl rfl rfl ?_
          refine gi_bipush (q := 26) (v := 7) C (dm_Mo_site 12 rfl) rfl (by decide) ?_
          refine gi_icmp_le (q := 29) (tgt := 33) C (dm_Mo_site 13 rfl) rfl (by decide) (fun c26 => ?_) (fun c26 => ?_)
          · have c16' := c16
            rw [hI.2.1] at c16'
            obtain ⟨j, ej, jb⟩ : ∃ z : Nat, s = nI z ∧ z < 1 + sct k P sh 480 := by
              have q1 := c8
              have q2 := c16'
              rw [Int32.lt_iff_toInt_lt, show (0 : Int32).toInt = 0 from rfl] at q1
              rw [Int32.le_iff_toInt_le, nI_toInt (by omega)] at q2
              exact ⟨s.toInt.toNat, by apply Int32.toInt_inj.mp; rw [nI_toInt (by omega)]; omega, by omega⟩
            subst ej
            obtain ⟨w, ew, wb⟩ : ∃ z : Nat, wh = nI z ∧ z ≤ 7 := by
              have q1 := c20
              have q2 := c26
              rw [Int32.lt_iff_toInt_lt, show (0 : Int32).toInt = 0 from rfl] at q1
              rw [Int32.le_iff_toInt_le, show (7 : Int32).toInt = 7 from rfl] at q2
              exact ⟨wh.toInt.toNat, by apply Int32.toInt_inj.mp; rw [nI_toInt (by omega)]; omega, by omega⟩
            subst ew
            refine gi_iload_n (q := 34) (i := 2) C (dm_Mo_site 16 rfl) rfl rfl rfl ?_
            refine gi_bipush (q := 36) (v := 6) C (dm_Mo_site 17 rfl) rfl (by decide) ?_
            refine gi_icmp_lt (q := 39) (tgt := 79) C (dm_Mo_site 18 rfl) rfl (by decide) (fun c36 => ?_) (fun c36 => ?_)
            · have w6 : w < 6 := by
                rcases Nat.lt_or_ge w 6 with z | z
                · exact z
                · exact absurd c36 (Int32.not_lt.mpr (nI_le (a := 6) z (by omega)))
              refine gi_iload_n (q := 80) (i := 2) C (dm_Mo_site 42 rfl) rfl rfl rfl ?_
              refine gi_iconst (q := 81) (v := 3) C (dm_Mo_site 43 rfl) rfl (by decide) ?_
              refine gi_icmp_ge (q := 84) (tgt := 88) C (dm_Mo_site 44 rfl) rfl (by decide) (fun c81 => ?_) (fun c81 => ?_)
              · refine gi_bipush (q := 90) (v := 32) C (dm_Mo_site 47 rfl) rfl (by decide) ?_
                refine gi_iload_n (q := 91) (i := 1) C (dm_Mo_site 48 rfl) rfl rfl rfl ?_
                refine gi_iadd (q := 92) C (dm_Mo_site 49 rfl) rfl ?_
                have w3 : 3 ≤ w := by
                  have q := c81
                  rw [show (3 : Int32) = nI 3 from rfl, nI_leP (by decide) (by omega)] at q
                  omega
                rw [show (32 : Int32) = nI 32 from rfl, nI_add]
                refine gi_istore_n (q := 93) (i := 3) C (dm_Mo_site 50 rfl) rfl rfl (Nat.le_of_ble_eq_true rfl) ?_
                refine gi_aload_n (q := 94) (i := 0) C (dm_Mo_site 51 rfl) rfl rfl rfl ?_
                refine gi_get (q := 97) C (dm_Mo_site 52 rfl) rfl fl_Mo_183 Ha (mo_g9 Hf) ?_
                refine gi_if_eq (q := 100) (tgt := 120) C (dm_Mo_site 53 rfl) rfl (by decide) (fun c97 => ?_) (fun c97 => ?_)
                · refine gi_ldc2 (q := 123) C (dm_Mo_site 66 rfl) rfl kc_Mo_525 ?_
                  refine gi_lret C hr (dm_Mo_site 67 rfl) ?_
                  refine ⟨?_, rfl, rfl⟩
                  have hw0 : (0 : Int32) ≤ nI w ∧ nI w ≤ 5 := ⟨nI_le (a := 0) (Nat.zero_le _) (by omega), nI_le (b := 5) (by omega) (by decide)⟩
                  rw [siQ_in (by omega) jb, if_neg (fun z => by have := (nI_ei (b := 6) (by omega) (by decide)).mp z; omega), if_neg (fun z => by have := (nI_ei (b := 7) (by omega) (by decide)).mp z; omega)]
                  cases ct with
                  | false => rw [if_neg (fun z => by cases z.1)]
                  | true =>
                    rw [if_pos ⟨rfl, hw0⟩, if_neg (show ¬ nI w < 3 from Int32.not_lt.mpr (nI_le (a := 3) w3 (by omega)))]
                    obtain ⟨hf, hq⟩ := hc rfl
                    obtain ⟨a39, -⟩ := hf.2 (505 + j) (by omega) (by omega)
                    rw [tix_e (by omega)] at a39
                    cases tl : (Fz (505 + j)).told with
                    | false => rw [if_neg (by decide)]
                    | true =>
                      exfalso
                      first
                        | exact absurd c97 (by rw [h9]; decide)
                        | (rw [nI_clamp (show 32 + j < 2 ^ 31 by omega), a39, tl] at c106; exact absurd c106 (by decide))
                · refine gi_aload_n (q := 101) (i := 0) C (dm_Mo_site 54 rfl) rfl rfl rfl ?_
                  refine gi_get (q := 104) C (dm_Mo_site 55 rfl) rfl fl_Mo_83 Ha (mo_g39 Hf) ?_
                  refine gi_iload_n (q := 105) (i := 3) C (dm_Mo_site 56 rfl) rfl rfl rfl ?_
                  refine gi_zald (q := 106) C (dm_Mo_site 57 rfl) rfl rfl (mo_a39 H) (inN (show 32 + j < 160 by omega) (by decide)) ?_
                  refine gi_if_eq (q := 109) (tgt := 120) C (dm_Mo_site 58 rfl) rfl (by decide) (fun c106 => ?_) (fun c106 => ?_)
                  · refine gi_ldc2 (q := 123) C (dm_Mo_site 66 rfl) rfl kc_Mo_525 ?_
                    refine gi_lret C hr (dm_Mo_site 67 rfl) ?_
                    refine ⟨?_, rfl, rfl⟩
                    have hw0 : (0 : Int32) ≤ nI w ∧ nI w ≤ 5 := ⟨nI_le (a := 0) (Nat.zero_le _) (by omega), nI_le (b := 5) (by omega) (by decide)⟩
                    rw [siQ_in (by omega) jb, if_neg (fun z => by have := (nI_ei (b := 6) (by omega) (by decide)).mp z; omega), if_neg (fun z => by have := (nI_ei (b := 7) (by omega) (by decide)).mp z; omega)]
                    cases ct with
                    | false => rw [if_neg (fun z => by cases z.1)]
                    | true =>
                      rw [if_pos ⟨rfl, hw0⟩, if_neg (show ¬ nI w < 3 from Int32.not_lt.mpr (nI_le (a := 3) w3 (by omega)))]
                      obtain ⟨hf, hq⟩ := hc rfl
                      obtain ⟨a39, -⟩ := hf.2 (505 + j) (by omega) (by omega)
                      rw [tix_e (by omega)] at a39
                      cases tl : (Fz (505 + j)).told with
                      | false => rw [if_neg (by decide)]
                      | true =>
                        exfalso
                        first
                          | exact absurd c97 (by rw [h9]; decide)
                          | (rw [nI_clamp (show 32 + j < 2 ^ 31 by omega), a39, tl] at c106; exact absurd c106 (by decide))
                  · refine gi_aload_n (q := 110) (i := 0) C (dm_Mo_site 59 rfl) rfl rfl rfl ?_
                    refine gi_iload_n (q := 111) (i := 3) C (dm_Mo_site 60 rfl) rfl rfl rfl ?_
                    refine gi_iload_n (q := 112) (i := 2) C (dm_Mo_site 61 rfl) rfl rfl rfl ?_
                    refine gi_iconst (q := 113) (v := 3) C (dm_Mo_site 62 rfl) rfl (by decide) ?_
                    refine gi_irem (q := 114) C (dm_Mo_site 63 rfl) rfl (by decide) ?_
                    rw [show (3 : Int32) = nI 3 from rfl, nI_rm (by omega) (by decide)]
                    refine gi_callv 2 (q := 117) C (dm_Mo_site 64 rfl) rfl my_Mo_toldOf lk_Mo_527 im_Mo_toldOf rfl (c_Mo_toldOf (show 32 + j < 160 by omega) _ H) Ha rfl rfl ⟨(Nat.le_of_ble_eq_true rfl), (Nat.le_of_ble_eq_true rfl)⟩ (Nat.le_of_ble_eq_true rfl) ⟨(Nat.le_of_ble_eq_true rfl), (Nat.le_of_ble_eq_true rfl)⟩ (fun r114 n114 h114 e114 => ?_)
                    obtain ⟨rfl, q114, u114⟩ := e114
                    rw [q114, u114]
                    refine gi_goto (tgt := 123) C (dm_Mo_site 65 rfl) (by decide) ?_
                    refine gi_lret C hr (dm_Mo_site 67 rfl) ?_
                    refine ⟨?_, rfl, rfl⟩
                    have hw0 : (0 : Int32) ≤ nI w ∧ nI w ≤ 5 := ⟨nI_le (a := 0) (Nat.zero_le _) (by omega), nI_le (b := 5) (by omega) (by decide)⟩
                    rw [siQ_in (by omega) jb, if_neg (fun z => by have := (nI_ei (b := 6) (by omega) (by decide)).mp z; omega), if_neg (fun z => by have := (nI_ei (b := 7) (by omega) (by decide)).mp z; omega)]
                    have ctt : ct = true := by cases ct with | true => rfl | false => exact absurd h9 c97
                    subst ctt
                    obtain ⟨hf, hq⟩ := hc rfl
                    obtain ⟨a39, -⟩ := hf.2 (505 + j) (by omega) (by omega)
                    rw [tix_e (by omega)] at a39
                    rw [nI_clamp (show 32 + j < 2 ^ 31 by omega), a39] at c106
                    have tl : (Fz (505 + j)).told = true := bI_t c106
                    obtain ⟨ce, ar⟩ := fl_ce hf hq (t := 505 + j) (by omega) (by omega) tl
                    rw [tix_e (by omega)] at ce
                    rw [if_pos ⟨rfl, hw0⟩, if_neg (show ¬ nI w < 3 from Int32.not_lt.mpr (nI_le (a := 3) w3 (by omega))), if_pos tl]
                    rw [show nI w - 3 = nI (w - 3) from by rw [show (3 : Int32) = nI 3 from rfl, nI_sb w3 (by omega)], pv_t ce ar (by omega), show w % 3 = w - 3 by omega]
              · refine gi_iload_n (q := 85) (i := 1) C (dm_Mo_site 45 rfl) rfl rfl rfl ?_
                refine gi_goto (tgt := 92) C (dm_Mo_site 46 rfl) (by decide) ?_
                have w3 : w < 3 := by
                  have q := c81
                  rw [show (3 : Int32) = nI 3 from rfl, nI_leP (by decide) (by omega)] at q
                  omega
                refine gi_istore_n (q := 93) (i := 3) C (dm_Mo_site 50 rfl) rfl rfl (Nat.le_of_ble_eq_true rfl) ?_
                refine gi_aload_n (q := 94) (i := 0) C (dm_Mo_site 51 rfl) rfl rfl rfl ?_
                refine gi_get (q := 97) C (dm_Mo_site 52 rfl) rfl fl_Mo_183 Ha (mo_g9 Hf) ?_
                refine gi_if_eq (q := 100) (tgt := 120) C (dm_Mo_site 53 rfl) rfl (by decide) (fun c97 => ?_) (fun c97 => ?_)
                · refine gi_ldc2 (q := 123) C (dm_Mo_site 66 rfl) rfl kc_Mo_525 ?_
                  refine gi_lret C hr (dm_Mo_site 67 rfl) ?_
                  refine ⟨?_, rfl, rfl⟩
                  have hw0 : (0 : Int32) ≤ nI w ∧ nI w ≤ 5 := ⟨nI_le (a := 0) (Nat.zero_le _) (by omega), nI_le (b := 5) (by omega) (by decide)⟩
                  rw [siQ_in (by omega) jb, if_neg (fun z => by have := (nI_ei (b := 6) (by omega) (by decide)).mp z; omega), if_neg (fun z => by have := (nI_ei (b := 7) (by omega) (by decide)).mp z; omega)]
                  cases ct with
                  | false => rw [if_neg (fun z => by cases z.1)]
                  | true =>
                    rw [if_pos ⟨rfl, hw0⟩, if_pos (show nI w < 3 from nI_lt (b := 3) w3 (by decide))]
                    obtain ⟨hf, hq⟩ := hc rfl
                    obtain ⟨a39, -⟩ := hf.2 (480 + j) (by omega) (by omega)
                    rw [tix_l (by omega)] at a39
                    cases tl : (Fz (480 + j)).told with
                    | false => rw [if_neg (by decide)]
                    | true =>
                      exfalso
                      first
                        | exact absurd c97 (by rw [h9]; decide)
                        | (rw [nI_clamp (show j < 2 ^ 31 by omega), a39, tl] at c106; exact absurd c106 (by decide))
                · refine gi_aload_n (q := 101) (i := 0) C (dm_Mo_site 54 rfl) rfl rfl rfl ?_
                  refine gi_get (q := 104) C (dm_Mo_site 55 rfl) rfl fl_Mo_83 Ha (mo_g39 Hf) ?_
                  refine gi_iload_n (q := 105) (i := 3) C (dm_Mo_site 56 rfl) rfl rfl rfl ?_
                  refine gi_zald (q := 106) C (dm_Mo_site 57 rfl) rfl rfl (mo_a39 H) (inN (show j < 160 by omega) (by decide)) ?_
                  refine gi_if_eq (q := 109) (tgt := 120) C (dm_Mo_site 58 rfl) rfl (by decide) (fun c106 => ?_) (fun c106 => ?_)
                  · refine gi_ldc2 (q := 123) C (dm_Mo_site 66 rfl) rfl kc_Mo_525 ?_
                    refine gi_lret C hr (dm_Mo_site 67 rfl) ?_
                    refine ⟨?_, rfl, rfl⟩
                    have hw0 : (0 : Int32) ≤ nI w ∧ nI w ≤ 5 := ⟨nI_le (a := 0) (Nat.zero_le _) (by omega), nI_le (b := 5) (by omega) (by decide)⟩
                    rw [siQ_in (by omega) jb, if_neg (fun z => by have := (nI_ei (b := 6) (by omega) (by decide)).mp z; omega), if_neg (fun z => by have := (nI_ei (b := 7) (by omega) (by decide)).mp z; omega)]
                    cases ct with
                    | false => rw [if_neg (fun z => by cases z.1)]
                    | true =>
                      rw [if_pos ⟨rfl, hw0⟩, if_pos (show nI w < 3 from nI_lt (b := 3) w3 (by decide))]
                      obtain ⟨hf, hq⟩ := hc rfl
                      obtain ⟨a39, -⟩ := hf.2 (480 + j) (by omega) (by omega)
                      rw [tix_l (by omega)] at a39
                      cases tl : (Fz (480 + j)).told with
                      | false => rw [if_neg (by decide)]
                      | true =>
                        exfalso
                        first
                          | exact absurd c97 (by rw [h9]; decide)
                          | (rw [nI_clamp (show j < 2 ^ 31 by omega), a39, tl] at c106; exact absurd c106 (by decide))
                  · refine gi_aload_n (q := 110) (i := 0) C (dm_Mo_site 59 rfl) rfl rfl rfl ?_
                    refine gi_iload_n (q := 111) (i := 3) C (dm_Mo_site 60 rfl) rfl rfl rfl ?_
                    refine gi_iload_n (q := 112) (i := 2) C (dm_Mo_site 61 rfl) rfl rfl rfl ?_
                    refine gi_iconst (q := 113) (v := 3) C (dm_Mo_site 62 rfl) rfl (by decide) ?_
                    refine gi_irem (q := 114) C (dm_Mo_site 63 rfl) rfl (by decide) ?_
                    rw [show (3 : Int32) = nI 3 from rfl, nI_rm (by omega) (by decide)]
                    refine gi_callv 2 (q := 117) C (dm_Mo_site 64 rfl) rfl my_Mo_toldOf lk_Mo_527 im_Mo_toldOf rfl (c_Mo_toldOf (show j < 160 by omega) _ H) Ha rfl rfl ⟨(Nat.le_of_ble_eq_true rfl), (Nat.le_of_ble_eq_true rfl)⟩ (Nat.le_of_ble_eq_true rfl) ⟨(Nat.le_of_ble_eq_true rfl), (Nat.le_of_ble_eq_true rfl)⟩ (fun r114 n114 h114 e114 => ?_)
                    obtain ⟨rfl, q114, u114⟩ := e114
                    rw [q114, u114]
                    refine gi_goto (tgt := 123) C (dm_Mo_site 65 rfl) (by decide) ?_
                    refine gi_lret C hr (dm_Mo_site 67 rfl) ?_
                    refine ⟨?_, rfl, rfl⟩
                    have hw0 : (0 : Int32) ≤ nI w ∧ nI w ≤ 5 := ⟨nI_le (a := 0) (Nat.zero_le _) (by omega), nI_le (b := 5) (by omega) (by decide)⟩
                    rw [siQ_in (by omega) jb, if_neg (fun z => by have := (nI_ei (b := 6) (by omega) (by decide)).mp z; omega), if_neg (fun z => by have := (nI_ei (b := 7) (by omega) (by decide)).mp z; omega)]
                    have ctt : ct = true := by cases ct with | true => rfl | false => exact absurd h9 c97
                    subst ctt
                    obtain ⟨hf, hq⟩ := hc rfl
                    obtain ⟨a39, -⟩ := hf.2 (480 + j) (by omega) (by omega)
                    rw [tix_l (by omega)] at a39
                    rw [nI_clamp (show j < 2 ^ 31 by omega), a39] at c106
                    have tl : (Fz (480 + j)).told = true := bI_t c106
                    obtain ⟨ce, ar⟩ := fl_ce hf hq (t := 480 + j) (by omega) (by omega) tl
                    rw [tix_l (by omega)] at ce
                    rw [if_pos ⟨rfl, hw0⟩, if_pos (show nI w < 3 from nI_lt (b := 3) w3 (by decide)), if_pos tl]
                    rw [pv_t ce ar (by omega), show w % 3 = w by omega]
            · refine gi_iload_n (q := 40) (i := 1) C (dm_Mo_site 19 rfl) rfl rfl rfl ?_
              refine gi_if_ne (q := 43) (tgt := 49) C (dm_Mo_site 20 rfl) rfl (by decide) (fun c40 => ?_) (fun c40 => ?_)
              · refine gi_iload_n (q := 50) (i := 2) C (dm_Mo_site 23 rfl) rfl rfl rfl ?_
                refine gi_bipush (q := 52) (v := 6) C (dm_Mo_site 24 rfl) rfl (by decide) ?_
                refine gi_icmp_ne (q := 55) (tgt := 68) C (dm_Mo_site 25 rfl) rfl (by decide) (fun c52 => ?_) (fun c52 => ?_)
                · refine gi_aload_n (q := 69) (i := 0) C (dm_Mo_site 34 rfl) rfl rfl rfl ?_
                  refine gi_get (q := 72) C (dm_Mo_site 35 rfl) rfl fl_Mo_54 Ha (mo_g17 Hf) ?_
                  refine gi_iload_n (q := 73) (i := 1) C (dm_Mo_site 36 rfl) rfl rfl rfl ?_
                  refine gi_iald (q := 74) C (dm_Mo_site 37 rfl) rfl rfl (mo_a17 H) (inN (show j < 26 by omega) (by decide)) ?_
                  refine gi_bipush (q := 76) (v := 60) C (dm_Mo_site 38 rfl) rfl (by decide) ?_
                  refine gi_irem (q := 77) C (dm_Mo_site 39 rfl) rfl (by decide) ?_
                  refine gi_i2l (q := 78) C (dm_Mo_site 40 rfl) rfl ?_
                  refine gi_lret C hr (dm_Mo_site 41 rfl) ?_
                  refine ⟨?_, rfl, rfl⟩
                  have w6 : ¬ w < 6 := fun z => c36 (nI_lt (b := 6) z (by decide))
                  rw [siQ_in (by omega) jb]
                  first
                    | (have j0 : j = 0 := (nI_ei (b := 0) (by omega) (by decide)).mp c40
                       subst j0
                       rw [siW_0, siW_0]
                       have : w = 6 ∨ w = 7 := by omega
                       rcases this with rfl | rfl <;> rfl)
                    | (obtain ⟨p, ep, p1, p2, p3⟩ := siP_ex (k := k) (P := P) (sh := sh) (s := j) (by rcases Nat.eq_zero_or_pos j with z | z; (exact absurd (by rw [z]; rfl) c40); exact z) jb
                       have e17 := (hI.2.2.2.1 p p1 p2).2
                       rw [p3] at e17
                       rw [nI_clamp (show j < 2 ^ 31 by omega), e17, show (60 : Int32) = nI 60 from rfl, nI_dv (by omega) (by decide), if_pos c52]
                       unfold siW
                       rw [ep])
                    | (obtain ⟨p, ep, p1, p2, p3⟩ := siP_ex (k := k) (P := P) (sh := sh) (s := j) (by rcases Nat.eq_zero_or_pos j with z | z; (exact absurd (by rw [z]; rfl) c40); exact z) jb
                       have e17 := (hI.2.2.2.1 p p1 p2).2
                       rw [p3] at e17
                       have w7 : w = 7 := by
                         rcases Nat.lt_or_ge w 7 with z | z
                         exact absurd (show nI w = nI 6 by rw [show w = 6 by omega]) c52
                         omega
                       subst w7
                       rw [nI_clamp (show j < 2 ^ 31 by omega), e17, show (60 : Int32) = nI 60 from rfl, nI_rm (by omega) (by decide), if_neg c52, if_pos (show nI 7 = 7 from rfl)]
                       unfold siW
                       rw [ep])
                · refine gi_aload_n (q := 56) (i := 0) C (dm_Mo_site 26 rfl) rfl rfl rfl ?_
                  refine gi_get (q := 59) C (dm_Mo_site 27 rfl) rfl fl_Mo_54 Ha (mo_g17 Hf) ?_
                  refine gi_iload_n (q := 60) (i := 1) C (dm_Mo_site 28 rfl) rfl rfl rfl ?_
                  refine gi_iald (q := 61) C (dm_Mo_site 29 rfl) rfl rfl (mo_a17 H) (inN (show j < 26 by omega) (by decide)) ?_
                  refine gi_bipush (q := 63) (v := 60) C (dm_Mo_site 30 rfl) rfl (by decide) ?_
                  refine gi_idiv (q := 64) C (dm_Mo_site 31 rfl) rfl (by decide) ?_
                  refine gi_i2l (q := 65) C (dm_Mo_site 32 rfl) rfl ?_
                  refine gi_goto (tgt := 78) C (dm_Mo_site 33 rfl) (by decide) ?_
                  refine gi_lret C hr (dm_Mo_site 41 rfl) ?_
                  refine ⟨?_, rfl, rfl⟩
                  have w6 : ¬ w < 6 := fun z => c36 (nI_lt (b := 6) z (by decide))
                  rw [siQ_in (by omega) jb]
                  first
                    | (have j0 : j = 0 := (nI_ei (b := 0) (by omega) (by decide)).mp c40
                       subst j0
                       rw [siW_0, siW_0]
                       have : w = 6 ∨ w = 7 := by omega
                       rcases this with rfl | rfl <;> rfl)
                    | (obtain ⟨p, ep, p1, p2, p3⟩ := siP_ex (k := k) (P := P) (sh := sh) (s := j) (by rcases Nat.eq_zero_or_pos j with z | z; (exact absurd (by rw [z]; rfl) c40); exact z) jb
                       have e17 := (hI.2.2.2.1 p p1 p2).2
                       rw [p3] at e17
                       rw [nI_clamp (show j < 2 ^ 31 by omega), e17, show (60 : Int32) = nI 60 from rfl, nI_dv (by omega) (by decide), if_pos c52]
                       unfold siW
                       rw [ep])
                    | (obtain ⟨p, ep, p1, p2, p3⟩ := siP_ex (k := k) (P := P) (sh := sh) (s := j) (by rcases Nat.eq_zero_or_pos j with z | z; (exact absurd (by rw [z]; rfl) c40); exact z) jb
                       have e17 := (hI.2.2.2.1 p p1 p2).2
                       rw [p3] at e17
                       have w7 : w = 7 := by
                         rcases Nat.lt_or_ge w 7 with z | z
                         exact absurd (show nI w = nI 6 by rw [show w = 6 by omega]) c52
                         omega
                       subst w7
                       rw [nI_clamp (show j < 2 ^ 31 by omega), e17, show (60 : Int32) = nI 60 from rfl, nI_rm (by omega) (by decide), if_neg c52, if_pos (show nI 7 = 7 from rfl)]
                       unfold siW
                       rw [ep])
              · refine gi_ldc2 (q := 46) C (dm_Mo_site 21 rfl) rfl kc_Mo_311 ?_
                refine gi_goto (tgt := 78) C (dm_Mo_site 22 rfl) (by decide) ?_
                refine gi_lret C hr (dm_Mo_site 41 rfl) ?_
                refine ⟨?_, rfl, rfl⟩
                have w6 : ¬ w < 6 := fun z => c36 (nI_lt (b := 6) z (by decide))
                rw [siQ_in (by omega) jb]
                first
                  | (have j0 : j = 0 := (nI_ei (b := 0) (by omega) (by decide)).mp c40
                     subst j0
                     rw [siW_0, siW_0]
                     have : w = 6 ∨ w = 7 := by omega
                     rcases this with rfl | rfl <;> rfl)
                  | (obtain ⟨p, ep, p1, p2, p3⟩ := siP_ex (k := k) (P := P) (sh := sh) (s := j) (by rcases Nat.eq_zero_or_pos j with z | z; (exact absurd (by rw [z]; rfl) c40); exact z) jb
                     have e17 := (hI.2.2.2.1 p p1 p2).2
                     rw [p3] at e17
                     rw [nI_clamp (show j < 2 ^ 31 by omega), e17, show (60 : Int32) = nI 60 from rfl, nI_dv (by omega) (by decide), if_pos c52]
                     unfold siW
                     rw [ep])
                  | (obtain ⟨p, ep, p1, p2, p3⟩ := siP_ex (k := k) (P := P) (sh := sh) (s := j) (by rcases Nat.eq_zero_or_pos j with z | z; (exact absurd (by rw [z]; rfl) c40); exact z) jb
                     have e17 := (hI.2.2.2.1 p p1 p2).2
                     rw [p3] at e17
                     have w7 : w = 7 := by
                       rcases Nat.lt_or_ge w 7 with z | z
                       exact absurd (show nI w = nI 6 by rw [show w = 6 by omega]) c52
                       omega
                     subst w7
                     rw [nI_clamp (show j < 2 ^ 31 by omega), e17, show (60 : Int32) = nI 60 from rfl, nI_rm (by omega) (by decide), if_neg c52, if_pos (show nI 7 = 7 from rfl)]
                     unfold siW
                     rw [ep])
          · refine gi_ldc2 (q := 32) C (dm_Mo_site 14 rfl) rfl kc_Mo_525 ?_
            refine gi_lret C hr (dm_Mo_site 15 rfl) ?_
            first
              | exact ⟨(congrArg (fun v => some (Value.long v)) (siQ_w (.inl c20)).symm), rfl, rfl⟩
              | exact ⟨(congrArg (fun v => some (Value.long v)) (siQ_w (.inr (Int32.not_le.mp c26))).symm), rfl, rfl⟩
              | exact ⟨(congrArg (fun v => some (Value.long v)) (siQ_o (by have q := c8; rw [Int32.lt_iff_toInt_lt, show (0 : Int32).toInt = 0 from rfl] at q; omega)).symm), rfl, rfl⟩
              | exact ⟨(congrArg (fun v => some (Value.long v)) (siQ_o (by have q := c16; rw [hI.2.1, Int32.le_iff_toInt_le, nI_toInt (by omega)] at q; omega)).symm), rfl, rfl⟩
theorem rs_row (hF : okF (tyF P sh) Fz) (h0 : fsN P Fz F G) {m : Nat} (hm : m < 8) (tl : (Fz (534 + m)).told = true) : (Fz (534 + m)).n = (if pN P 4 m = 0 then 0 else 1) ∧ (pN P 4 m ≠ 0 → ceA ((Fz (534 + m)).f 0).1 (cT F G (72 + m)) ∧ arA ((Fz (534 + m)).f 0).1 = decide (pN P 4 m = 2)) := by
  have ok := (hF (534 + m) (by omega)).1 tl
  unfold okG tyF at ok
  rw [if_neg (by omega), if_neg (by omega), show 534 + m - 534 = m by omega] at ok
  obtain ⟨o1, o2⟩ := ok
  dsimp only at o1 o2
  refine ⟨o1, fun hz => ?_⟩
  rw [if_neg hz] at o1 o2
  obtain ⟨-, b⟩ := h0.2 (534 + m) (by omega) (by omega)
  have b := b tl
  rw [tix_r hm] at b
  unfold tvA at b
  rw [if_neg (by omega)] at b
  exact ⟨b, (o2 0 (by omega)).2.1⟩
theorem rsA_f {m wh : Int32} (h : isM k m = false) : rsA k Fz m wh = NOl := by
  unfold rsA
  rw [h, if_neg (by decide)]
theorem rsA_t {a : Nat} {wh : Int32} (ha : a < 8) (h : isM k (nI a) = true) : rsA k Fz (nI a) wh = if wh = 5 then (if (Fz (534 + a)).told = true then 1 else 0) else if (Fz (534 + a)).told = true ∧ 0 < (Fz (534 + a)).n then partV (eA ((Fz (534 + a)).f 0).1) wh else NOl := by
  unfold rsA
  rw [nI_clamp (by omega), h, if_pos rfl]
theorem pv_out {v : Av} {wh : Int32} (h : wh < 0 ∨ 5 < wh) : partV (eA v) wh = NOl := by
  have e : ∀ c : Int32, 0 ≤ c.toInt → c.toInt ≤ 5 → wh ≠ c := by
    rintro c h1 h2 rfl
    rw [Int32.lt_iff_toInt_lt, Int32.lt_iff_toInt_lt, show (0 : Int32).toInt = 0 from rfl, show (5 : Int32).toInt = 5 from rfl] at h
    omega
  unfold partV
  rw [if_neg (e (nI 0) (by decide) (by decide)), if_neg (e (nI 1) (by decide) (by decide)), if_neg (e (nI 2) (by decide) (by decide)), if_neg (e 3 (by decide) (by decide)), if_neg (e 4 (by decide) (by decide))]
  split <;> rfl
theorem rsA_w {m wh : Int32} (h : wh < 0 ∨ 5 < wh) : rsA k Fz m wh = NOl := by
  unfold rsA
  rw [pv_out h, if_neg (show ¬ wh = 5 from by rintro rfl; revert h; decide)]
  split
  · split <;> rfl
  · rfl
theorem rsA_lo {m : Nat} {w : Nat} (hF : okF (tyF P sh) Fz) (h0 : fsN P Fz F G) (hm : m < 8) (h : isM k (nI m) = true) (hw : w ≤ 4) (h4 : pN P 4 m ≤ 2) : rsA k Fz (nI m) (nI w) = if (Fz (534 + m)).told = true ∧ pN P 4 m ≠ 0 ∧ (pN P 4 m = 1 ↔ w < 3) then (if w < 3 then tdW (cT F G (72 + m)) (nI w) else if w = 3 then (F 43 (72 + m)).toInt64 else if F 44 (72 + m) = 0 then 0 else 1) else NOl := by
  rw [rsA_t hm h, if_neg (fun z => by have := (nI_ei (b := 5) (by omega) (by decide)).mp z; omega)]
  cases tl : (Fz (534 + m)).told with
  | false => rw [if_neg (fun z => by cases z.1), if_neg (fun z => by cases z.1)]
  | true =>
    obtain ⟨r1, r2⟩ := rs_row hF h0 hm tl
    by_cases hz : pN P 4 m = 0
    · rw [if_pos hz] at r1
      rw [if_neg (by omega), if_neg (fun z => z.2.1 hz)]
    · rw [if_neg hz] at r1
      obtain ⟨ce, ar⟩ := r2 hz
      rw [if_pos ⟨rfl, by omega⟩]
      by_cases h2 : pN P 4 m = 2
      · rw [decide_eq_true h2] at ar
        rw [pv_a ce ar]
        by_cases w3 : w < 3
        · rw [if_neg (fun z => by have := (nI_ei (b := 3) (by omega) (by decide)).mp z; omega), if_neg (fun z => by have := (nI_ei (b := 4) (by omega) (by decide)).mp z; omega), if_neg (fun z => by omega)]
        · rw [if_pos (show true = true ∧ pN P 4 m ≠ 0 ∧ (pN P 4 m = 1 ↔ w < 3) from ⟨rfl, hz, by omega⟩), if_neg w3]
          have : w = 3 ∨ w = 4 := by omega
          rcases this with rfl | rfl
          · rfl
          · rfl
      · rw [decide_eq_false h2] at ar
        by_cases w3 : w < 3
        · rw [if_pos (show true = true ∧ pN P 4 m ≠ 0 ∧ (pN P 4 m = 1 ↔ w < 3) from ⟨rfl, hz, by omega⟩), if_pos w3, pv_t ce ar (by omega)]
        · rw [if_neg (fun z => by omega)]
          rw [pv_s ce ar, if_neg (fun z => by have := (nI_ei (b := 0) (by omega) (by decide)).mp z; omega), if_neg (fun z => by have := (nI_ei (b := 1) (by omega) (by decide)).mp z; omega), if_neg (fun z => by have := (nI_ei (b := 2) (by omega) (by decide)).mp z; omega)]
theorem rs_g {w : Nat} (hw : w ≤ 5) (h : 3 ≤ nI w) : ¬ w < 3 := by
  rw [show (3 : Int32) = nI 3 from rfl, nI_leP (by decide) (by omega)] at h
  omega
theorem rs_l {w : Nat} (hw : w ≤ 5) (h : ¬ 3 ≤ nI w) : w < 3 := by
  rw [show (3 : Int32) = nI 3 from rfl, nI_leP (by decide) (by omega)] at h
  omega
theorem rs_h {p w : Nat} (hp : p ≤ 2) (hw : w ≤ 5) (h : (nI p = 1 ∧ ¬ 3 ≤ nI w) ∨ (¬ nI p = 1 ∧ 3 ≤ nI w)) : p = 1 ↔ w < 3 := by
  rcases h with ⟨a, b⟩ | ⟨a, b⟩
  · have := (nI_ei (b := 1) (by omega) (by decide)).mp a
    have := rs_l hw b
    omega
  · have : ¬ p = 1 := fun z => a (by rw [z]; rfl)
    have := rs_g hw b
    omega
theorem rs_n {p w : Nat} (hp : p ≤ 2) (hw : w ≤ 5) (h : (nI p = 1 ∧ 3 ≤ nI w) ∨ (¬ nI p = 1 ∧ ¬ 3 ≤ nI w)) (q : p = 1 ↔ w < 3) : False := by
  rcases h with ⟨a, b⟩ | ⟨a, b⟩
  · have := (nI_ei (b := 1) (by omega) (by decide)).mp a
    have := rs_g hw b
    omega
  · have : ¬ p = 1 := fun z => a (by rw [z]; rfl)
    have := rs_l hw b
    omega
set_option maxHeartbeats 4000000 in
set_option maxRecDepth 100000 in
theorem c_Mo_result (m wh : Int32) (W : wfP k P) (hP : prF P F) (hk : S 0 = nI k) (h9 : S 9 = 1) (h0 : fsN P Fz F G) (hF : okF (tyF P sh) Fz) (H : mo_at M S J F G h) : gi_T l V y_Mo_result b_Mo_result 4 (some .long) 1 22 0 0 [.ref M, .int m, .int wh] n h (gi_is (some (.long (rsA k Fz m wh))) n h) := by
  refine gi_enter (by decide) (Nat.le_of_ble_eq_true rfl) ?_
  intro _ _ _ _ _ _ _ _ C hr hnm
  obtain ⟨fs, Ha, Hf⟩ := id H.1
  have ho : outM M h h := outM.rf
  refine gi_aload_n (q := 1) (i := 0) C (dm_Mo_result 0 rfl) rfl rfl rfl ?_
  refine gi_get (q := 4) C (dm_Mo_result 1 rfl) rfl fl_Mo_183 Ha (mo_g9 Hf) ?_
  refine gi_if_eq (q := 7) (tgt := 24) C (dm_Mo_result 2 rfl) rfl (by decide) (fun c4 => ?_) (fun c4 => ?_)
  · exact absurd c4 (by rw [h9]; decide)
  · refine gi_aload_n (q := 8) (i := 0) C (dm_Mo_result 3 rfl) rfl rfl rfl ?_
    refine gi_iload_n (q := 9) (i := 1) C (dm_Mo_result 4 rfl) rfl rfl rfl ?_
    refine gi_callv 1 (q := 12) C (dm_Mo_result 5 rfl) rfl my_Mo_isMethod lk_Mo_186 im_Mo_isMethod rfl (c_Mo_isMethod m hk H) Ha rfl rfl ⟨(Nat.le_of_ble_eq_true rfl), (Nat.le_of_ble_eq_true rfl)⟩ (Nat.le_of_ble_eq_true rfl) ⟨(Nat.le_of_ble_eq_true rfl), (Nat.le_of_ble_eq_true rfl)⟩ (fun r9 n9 h9 e9 => ?_)
    obtain ⟨rfl, q9, u9⟩ := e9
    rw [q9, u9]
    refine gi_if_eq (q := 15) (tgt := 24) C (dm_Mo_result 6 rfl) rfl (by decide) (fun c12 => ?_) (fun c12 => ?_)
    · refine gi_ldc2 (q := 27) C (dm_Mo_result 12 rfl) rfl kc_Mo_525 ?_
      refine gi_lret C hr (dm_Mo_result 13 rfl) ?_
      first
        | exact ⟨(congrArg (fun v => some (Value.long v)) (rsA_f (bI_fa c12)).symm), rfl, rfl⟩
        | exact ⟨(congrArg (fun v => some (Value.long v)) (rsA_w (.inl c16)).symm), rfl, rfl⟩
        | exact ⟨(congrArg (fun v => some (Value.long v)) (rsA_w (.inr (Int32.not_le.mp c21))).symm), rfl, rfl⟩
    · refine gi_iload_n (q := 16) (i := 2) C (dm_Mo_result 7 rfl) rfl rfl rfl ?_
      refine gi_if_lt (q := 19) (tgt := 24) C (dm_Mo_result 8 rfl) rfl (by decide) (fun c16 => ?_) (fun c16 => ?_)
      · refine gi_ldc2 (q := 27) C (dm_Mo_result 12 rfl) rfl kc_Mo_525 ?_
        refine gi_lret C hr (dm_Mo_result 13 rfl) ?_
        first
          | exact ⟨(congrArg (fun v => some (Value.long v)) (rsA_f (bI_fa c12)).symm), rfl, rfl⟩
          | exact ⟨(congrArg (fun v => some (Value.long v)) (rsA_w (.inl c16)).symm), rfl, rfl⟩
          | exact ⟨(congrArg (fun v => some (Value.long v)) (rsA_w (.inr (Int32.not_le.mp c21))).symm), rfl, rfl⟩
      · refine gi_iload_n (q := 20) (i := 2) C (dm_Mo_result 9 rfl) rfl rfl rfl ?_
        refine gi_iconst (q := 21) (v := 5) C (dm_Mo_result 10 rfl) rfl (by decide) ?_
        refine gi_icmp_le (q := 24) (tgt := 28) C (dm_Mo_result 11 rfl) rfl (by decide) (fun c21 => ?_) (fun c21 => ?_)
        · have im := bI_t c12
          obtain ⟨a, ha, ea⟩ := isM_nI W.k8 im
          subst ea
          have w8 := W.k8
          have e4 : F 4 a = nI (pN P 4 a) := by rw [hP 4 (by decide) (by decide)]; exact (wf_n W ha).2.2.1
          have a4 : pN P 4 a ≤ 2 := (wf_ar W ha).2.2.2.1
          have a39 : F 39 (72 + a) = bI (Fz (534 + a)).told := by
            have q := (h0.2 (534 + a) (by omega) (by omega)).1
            rw [tix_r (by omega)] at q
            exact q
          obtain ⟨w, ew, wb⟩ : ∃ z : Nat, wh = nI z ∧ z ≤ 5 := by
            have q1 := c16
            have q2 := c21
            rw [Int32.lt_iff_toInt_lt, show (0 : Int32).toInt = 0 from rfl] at q1
            rw [Int32.le_iff_toInt_le, show (5 : Int32).toInt = 5 from rfl] at q2
            exact ⟨wh.toInt.toNat, by apply Int32.toInt_inj.mp; rw [nI_toInt (by omega)]; omega, by omega⟩
          subst ew
          refine gi_bipush (q := 30) (v := 72) C (dm_Mo_result 14 rfl) rfl (by decide) ?_
          refine gi_iload_n (q := 31) (i := 1) C (dm_Mo_result 15 rfl) rfl rfl rfl ?_
          refine gi_iadd (q := 32) C (dm_Mo_result 16 rfl) rfl ?_
          rw [show (72 : Int32) = nI 72 from rfl, nI_add]
          refine gi_istore_n (q := 33) (i := 3) C (dm_Mo_result 17 rfl) rfl rfl (Nat.le_of_ble_eq_true rfl) ?_
          refine gi_iload_n (q := 34) (i := 2) C (dm_Mo_result 18 rfl) rfl rfl rfl ?_
          refine gi_iconst (q := 35) (v := 5) C (dm_Mo_result 19 rfl) rfl (by decide) ?_
          refine gi_icmp_ne (q := 38) (tgt := 53) C (dm_Mo_result 20 rfl) rfl (by decide) (fun c35 => ?_) (fun c35 => ?_)
          · refine gi_aload_n (q := 54) (i := 0) C (dm_Mo_result 30 rfl) rfl rfl rfl ?_
            refine gi_get (q := 57) C (dm_Mo_result 31 rfl) rfl fl_Mo_83 Ha (mo_g39 Hf) ?_
            refine gi_iload_n (q := 58) (i := 3) C (dm_Mo_result 32 rfl) rfl rfl rfl ?_
            refine gi_zald (q := 59) C (dm_Mo_result 33 rfl) rfl rfl (mo_a39 H) (inN (show 72 + a < 160 by omega) (by decide)) ?_
            rw [nI_clamp (show 72 + a < 2 ^ 31 by omega), a39]
            refine gi_if_eq (q := 62) (tgt := 99) C (dm_Mo_result 34 rfl) rfl (by decide) (fun c59 => ?_) (fun c59 => ?_)
            · refine gi_ldc2 (q := 102) C (dm_Mo_result 56 rfl) rfl kc_Mo_525 ?_
              refine gi_lret C hr (dm_Mo_result 57 rfl) ?_
              refine ⟨?_, rfl, rfl⟩
              have w5 : w ≤ 4 := by
                rcases Nat.lt_or_ge 4 w with z | z
                · exact absurd (show nI w = nI 5 by rw [show w = 5 by omega]) c35
                · exact z
              rw [rsA_lo hF h0 (by omega) im w5 a4]
              refine congrArg (fun v => some (Value.long v)) (if_neg ?_).symm
              rintro ⟨z1, z2, z3⟩
              first
                | exact absurd z1 (by rw [bI_fa c59]; decide)
                | exact z2 ((nI_ei (b := 0) (by omega) (by decide)).mp c68)
                | exact absurd rfl c96
                | exact rs_n (by omega) (by omega) (by first | exact .inl ⟨c78, c88⟩ | exact .inr ⟨c78, c88⟩) z3
            · refine gi_aload_n (q := 63) (i := 0) C (dm_Mo_result 35 rfl) rfl rfl rfl ?_
              refine gi_get (q := 66) C (dm_Mo_result 36 rfl) rfl fl_Mo_19 Ha (mo_g4 Hf) ?_
              refine gi_iload_n (q := 67) (i := 1) C (dm_Mo_result 37 rfl) rfl rfl rfl ?_
              refine gi_iald (q := 68) C (dm_Mo_result 38 rfl) rfl rfl (mo_a4 H) (inN (show a < 8 by omega) (by decide)) ?_
              rw [nI_clamp (show a < 2 ^ 31 by omega), e4]
              refine gi_if_eq (q := 71) (tgt := 99) C (dm_Mo_result 39 rfl) rfl (by decide) (fun c68 => ?_) (fun c68 => ?_)
              · refine gi_ldc2 (q := 102) C (dm_Mo_result 56 rfl) rfl kc_Mo_525 ?_
                refine gi_lret C hr (dm_Mo_result 57 rfl) ?_
                refine ⟨?_, rfl, rfl⟩
                have w5 : w ≤ 4 := by
                  rcases Nat.lt_or_ge 4 w with z | z
                  · exact absurd (show nI w = nI 5 by rw [show w = 5 by omega]) c35
                  · exact z
                rw [rsA_lo hF h0 (by omega) im w5 a4]
                refine congrArg (fun v => some (Value.long v)) (if_neg ?_).symm
                rintro ⟨z1, z2, z3⟩
                first
                  | exact absurd z1 (by rw [bI_fa c59]; decide)
                  | exact z2 ((nI_ei (b := 0) (by omega) (by decide)).mp c68)
                  | exact absurd rfl c96
                  | exact rs_n (by omega) (by omega) (by first | exact .inl ⟨c78, c88⟩ | exact .inr ⟨c78, c88⟩) z3
              · refine gi_aload_n (q := 72) (i := 0) C (dm_Mo_result 40 rfl) rfl rfl rfl ?_
                refine gi_get (q := 75) C (dm_Mo_result 41 rfl) rfl fl_Mo_19 Ha (mo_g4 Hf) ?_
                refine gi_iload_n (q := 76) (i := 1) C (dm_Mo_result 42 rfl) rfl rfl rfl ?_
                refine gi_iald (q := 77) C (dm_Mo_result 43 rfl) rfl rfl (mo_a4 H) (inN (show a < 8 by omega) (by decide)) ?_
                rw [nI_clamp (show a < 2 ^ 31 by omega), e4]
                refine gi_iconst (q := 78) (v := 1) C (dm_Mo_result 44 rfl) rfl (by decide) ?_
                refine gi_icmp_ne (q := 81) (tgt := 85) C (dm_Mo_result 45 rfl) rfl (by decide) (fun c78 => ?_) (fun c78 => ?_)
                · refine gi_iconst (q := 86) (v := 0) C (dm_Mo_result 48 rfl) rfl (by decide) ?_
                  refine gi_iload_n (q := 87) (i := 2) C (dm_Mo_result 49 rfl) rfl rfl rfl ?_
                  refine gi_iconst (q := 88) (v := 3) C (dm_Mo_result 50 rfl) rfl (by decide) ?_
                  refine gi_icmp_ge (q := 91) (tgt := 95) C (dm_Mo_result 51 rfl) rfl (by decide) (fun c88 => ?_) (fun c88 => ?_)
                  · refine gi_iconst (q := 96) (v := 0) C (dm_Mo_result 54 rfl) rfl (by decide) ?_
                    refine gi_icmp_eq (q := 99) (tgt := 103) C (dm_Mo_result 55 rfl) rfl (by decide) (fun c96 => ?_) (fun c96 => ?_)
                    · refine gi_iload_n (q := 104) (i := 2) C (dm_Mo_result 58 rfl) rfl rfl rfl ?_
                      refine gi_iconst (q := 105) (v := 3) C (dm_Mo_result 59 rfl) rfl (by decide) ?_
                      refine gi_icmp_ge (q := 108) (tgt := 117) C (dm_Mo_result 60 rfl) rfl (by decide) (fun c105 => ?_) (fun c105 => ?_)
                      · refine gi_iload_n (q := 118) (i := 2) C (dm_Mo_result 66 rfl) rfl rfl rfl ?_
                        refine gi_iconst (q := 119) (v := 3) C (dm_Mo_result 67 rfl) rfl (by decide) ?_
                        refine gi_icmp_ne (q := 122) (tgt := 132) C (dm_Mo_result 68 rfl) rfl (by decide) (fun c119 => ?_) (fun c119 => ?_)
                        · refine gi_aload_n (q := 133) (i := 0) C (dm_Mo_result 75 rfl) rfl rfl rfl ?_
                          refine gi_get (q := 136) C (dm_Mo_result 76 rfl) rfl fl_Mo_98 Ha (mo_g44 Hf) ?_
                          refine gi_iload_n (q := 137) (i := 3) C (dm_Mo_result 77 rfl) rfl rfl rfl ?_
                          refine gi_zald (q := 138) C (dm_Mo_result 78 rfl) rfl rfl (mo_a44 H) (inN (show 72 + a < 160 by omega) (by decide)) ?_
                          refine gi_if_eq (q := 141) (tgt := 145) C (dm_Mo_result 79 rfl) rfl (by decide) (fun c138 => ?_) (fun c138 => ?_)
                          · refine gi_lconst (q := 146) (v := 0) C (dm_Mo_result 82 rfl) rfl (by decide) ?_
                            refine gi_lret C hr (dm_Mo_result 83 rfl) ?_
                            refine ⟨?_, rfl, rfl⟩
                            have w5 : w ≤ 4 := by
                              rcases Nat.lt_or_ge 4 w with z | z
                              · exact absurd (show nI w = nI 5 by rw [show w = 5 by omega]) c35
                              · exact z
                            rw [rsA_lo hF h0 (by omega) im w5 a4]
                            first
                              | exact absurd c96 (by decide)
                              | (rw [if_pos ⟨bI_t c59, fun z => c68 (by rw [z]; rfl), rs_h (by omega) (by omega) (by first | exact .inl ⟨c78, c88⟩ | exact .inr ⟨c78, c88⟩)⟩]
                                 first
                                   | (rw [if_pos (rs_l (by omega) c105)]; done)
                                   | (rw [if_neg (rs_g (by omega) c105), if_pos ((nI_ei (b := 3) (by omega) (by decide)).mp c119), nI_clamp (show 72 + a < 2 ^ 31 by omega)]; done)
                                   | (rw [if_neg (rs_g (by omega) c105), if_neg (fun z => c119 (by rw [z]; rfl)), if_pos (by rw [nI_clamp (show 72 + a < 2 ^ 31 by omega)] at c138; exact c138)]; done)
                                   | (rw [if_neg (rs_g (by omega) c105), if_neg (fun z => c119 (by rw [z]; rfl)), if_neg (by rw [nI_clamp (show 72 + a < 2 ^ 31 by omega)] at c138; exact c138)]; done))
                          · refine gi_lconst (q := 142) (v := 1) C (dm_Mo_result 80 rfl) rfl (by decide) ?_
                            refine gi_goto (tgt := 146) C (dm_Mo_result 81 rfl) (by decide) ?_
                            refine gi_lret C hr (dm_Mo_result 83 rfl) ?_
                            refine ⟨?_, rfl, rfl⟩
                            have w5 : w ≤ 4 := by
                              rcases Nat.lt_or_ge 4 w with z | z
                              · exact absurd (show nI w = nI 5 by rw [show w = 5 by omega]) c35
                              · exact z
                            rw [rsA_lo hF h0 (by omega) im w5 a4]
                            first
                              | exact absurd c96 (by decide)
                              | (rw [if_pos ⟨bI_t c59, fun z => c68 (by rw [z]; rfl), rs_h (by omega) (by omega) (by first | exact .inl ⟨c78, c88⟩ | exact .inr ⟨c78, c88⟩)⟩]
                                 first
                                   | (rw [if_pos (rs_l (by omega) c105)]; done)
                                   | (rw [if_neg (rs_g (by omega) c105), if_pos ((nI_ei (b := 3) (by omega) (by decide)).mp c119), nI_clamp (show 72 + a < 2 ^ 31 by omega)]; done)
                                   | (rw [if_neg (rs_g (by omega) c105), if_neg (fun z => c119 (by rw [z]; rfl)), if_pos (by rw [nI_clamp (show 72 + a < 2 ^ 31 by omega)] at c138; exact c138)]; done)
                                   | (rw [if_neg (rs_g (by omega) c105), if_neg (fun z => c119 (by rw [z]; rfl)), if_neg (by rw [nI_clamp (show 72 + a < 2 ^ 31 by omega)] at c138; exact c138)]; done))
                        · refine gi_aload_n (q := 123) (i := 0) C (dm_Mo_result 69 rfl) rfl rfl rfl ?_
                          refine gi_get (q := 126) C (dm_Mo_result 70 rfl) rfl fl_Mo_95 Ha (mo_g43 Hf) ?_
                          refine gi_iload_n (q := 127) (i := 3) C (dm_Mo_result 71 rfl) rfl rfl rfl ?_
                          refine gi_iald (q := 128) C (dm_Mo_result 72 rfl) rfl rfl (mo_a43 H) (inN (show 72 + a < 160 by omega) (by decide)) ?_
                          refine gi_i2l (q := 129) C (dm_Mo_result 73 rfl) rfl ?_
                          refine gi_goto (tgt := 146) C (dm_Mo_result 74 rfl) (by decide) ?_
                          refine gi_lret C hr (dm_Mo_result 83 rfl) ?_
                          refine ⟨?_, rfl, rfl⟩
                          have w5 : w ≤ 4 := by
                            rcases Nat.lt_or_ge 4 w with z | z
                            · exact absurd (show nI w = nI 5 by rw [show w = 5 by omega]) c35
                            · exact z
                          rw [rsA_lo hF h0 (by omega) im w5 a4]
                          first
                            | exact absurd c96 (by decide)
                            | (rw [if_pos ⟨bI_t c59, fun z => c68 (by rw [z]; rfl), rs_h (by omega) (by omega) (by first | exact .inl ⟨c78, c88⟩ | exact .inr ⟨c78, c88⟩)⟩]
                               first
                                 | (rw [if_pos (rs_l (by omega) c105)]; done)
                                 | (rw [if_neg (rs_g (by omega) c105), if_pos ((nI_ei (b := 3) (by omega) (by decide)).mp c119), nI_clamp (show 72 + a < 2 ^ 31 by omega)]; done)
                                 | (rw [if_neg (rs_g (by omega) c105), if_neg (fun z => c119 (by rw [z]; rfl)), if_pos (by rw [nI_clamp (show 72 + a < 2 ^ 31 by omega)] at c138; exact c138)]; done)
                                 | (rw [if_neg (rs_g (by omega) c105), if_neg (fun z => c119 (by rw [z]; rfl)), if_neg (by rw [nI_clamp (show 72 + a < 2 ^ 31 by omega)] at c138; exact c138)]; done))
                      · refine gi_aload_n (q := 109) (i := 0) C (dm_Mo_result 61 rfl) rfl rfl rfl ?_
                        refine gi_iload_n (q := 110) (i := 3) C (dm_Mo_result 62 rfl) rfl rfl rfl ?_
                        refine gi_iload_n (q := 111) (i := 2) C (dm_Mo_result 63 rfl) rfl rfl rfl ?_
                        refine gi_callv 2 (q := 114) C (dm_Mo_result 64 rfl) rfl my_Mo_toldOf lk_Mo_527 im_Mo_toldOf rfl (c_Mo_toldOf (show 72 + a < 160 by omega) _ H) Ha rfl rfl ⟨(Nat.le_of_ble_eq_true rfl), (Nat.le_of_ble_eq_true rfl)⟩ (Nat.le_of_ble_eq_true rfl) ⟨(Nat.le_of_ble_eq_true rfl), (Nat.le_of_ble_eq_true rfl)⟩ (fun r111 n111 h111 e111 => ?_)
                        obtain ⟨rfl, q111, u111⟩ := e111
                        rw [q111, u111]
                        refine gi_goto (tgt := 146) C (dm_Mo_result 65 rfl) (by decide) ?_
                        refine gi_lret C hr (dm_Mo_result 83 rfl) ?_
                        refine ⟨?_, rfl, rfl⟩
                        have w5 : w ≤ 4 := by
                          rcases Nat.lt_or_ge 4 w with z | z
                          · exact absurd (show nI w = nI 5 by rw [show w = 5 by omega]) c35
                          · exact z
                        rw [rsA_lo hF h0 (by omega) im w5 a4]
                        first
                          | exact absurd c96 (by decide)
                          | (rw [if_pos ⟨bI_t c59, fun z => c68 (by rw [z]; rfl), rs_h (by omega) (by omega) (by first | exact .inl ⟨c78, c88⟩ | exact .inr ⟨c78, c88⟩)⟩]
                             first
                               | (rw [if_pos (rs_l (by omega) c105)]; done)
                               | (rw [if_neg (rs_g (by omega) c105), if_pos ((nI_ei (b := 3) (by omega) (by decide)).mp c119), nI_clamp (show 72 + a < 2 ^ 31 by omega)]; done)
                               | (rw [if_neg (rs_g (by omega) c105), if_neg (fun z => c119 (by rw [z]; rfl)), if_pos (by rw [nI_clamp (show 72 + a < 2 ^ 31 by omega)] at c138; exact c138)]; done)
                               | (rw [if_neg (rs_g (by omega) c105), if_neg (fun z => c119 (by rw [z]; rfl)), if_neg (by rw [nI_clamp (show 72 + a < 2 ^ 31 by omega)] at c138; exact c138)]; done))
                    · refine gi_ldc2 (q := 102) C (dm_Mo_result 56 rfl) rfl kc_Mo_525 ?_
                      refine gi_lret C hr (dm_Mo_result 57 rfl) ?_
                      refine ⟨?_, rfl, rfl⟩
                      have w5 : w ≤ 4 := by
                        rcases Nat.lt_or_ge 4 w with z | z
                        · exact absurd (show nI w = nI 5 by rw [show w = 5 by omega]) c35
                        · exact z
                      rw [rsA_lo hF h0 (by omega) im w5 a4]
                      refine congrArg (fun v => some (Value.long v)) (if_neg ?_).symm
                      rintro ⟨z1, z2, z3⟩
                      first
                        | exact absurd z1 (by rw [bI_fa c59]; decide)
                        | exact z2 ((nI_ei (b := 0) (by omega) (by decide)).mp c68)
                        | exact absurd rfl c96
                        | exact rs_n (by omega) (by omega) (by first | exact .inl ⟨c78, c88⟩ | exact .inr ⟨c78, c88⟩) z3
                  · refine gi_iconst (q := 92) (v := 1) C (dm_Mo_result 52 rfl) rfl (by decide) ?_
                    refine gi_goto (tgt := 96) C (dm_Mo_result 53 rfl) (by decide) ?_
                    refine gi_icmp_eq (q := 99) (tgt := 103) C (dm_Mo_result 55 rfl) rfl (by decide) (fun c96 => ?_) (fun c96 => ?_)
                    · refine gi_iload_n (q := 104) (i := 2) C (dm_Mo_result 58 rfl) rfl rfl rfl ?_
                      refine gi_iconst (q := 105) (v := 3) C (dm_Mo_result 59 rfl) rfl (by decide) ?_
                      refine gi_icmp_ge (q := 108) (tgt := 117) C (dm_Mo_result 60 rfl) rfl (by decide) (fun c105 => ?_) (fun c105 => ?_)
                      · refine gi_iload_n (q := 118) (i := 2) C (dm_Mo_result 66 rfl) rfl rfl rfl ?_
                        refine gi_iconst (q := 119) (v := 3) C (dm_Mo_result 67 rfl) rfl (by decide) ?_
                        refine gi_icmp_ne (q := 122) (tgt := 132) C (dm_Mo_result 68 rfl) rfl (by decide) (fun c119 => ?_) (fun c119 => ?_)
                        · refine gi_aload_n (q := 133) (i := 0) C (dm_Mo_result 75 rfl) rfl rfl rfl ?_
                          refine gi_get (q := 136) C (dm_Mo_result 76 rfl) rfl fl_Mo_98 Ha (mo_g44 Hf) ?_
                          refine gi_iload_n (q := 137) (i := 3) C (dm_Mo_result 77 rfl) rfl rfl rfl ?_
                          refine gi_zald (q := 138) C (dm_Mo_result 78 rfl) rfl rfl (mo_a44 H) (inN (show 72 + a < 160 by omega) (by decide)) ?_
                          refine gi_if_eq (q := 141) (tgt := 145) C (dm_Mo_result 79 rfl) rfl (by decide) (fun c138 => ?_) (fun c138 => ?_)
                          · refine gi_lconst (q := 146) (v := 0) C (dm_Mo_result 82 rfl) rfl (by decide) ?_
                            refine gi_lret C hr (dm_Mo_result 83 rfl) ?_
                            refine ⟨?_, rfl, rfl⟩
                            have w5 : w ≤ 4 := by
                              rcases Nat.lt_or_ge 4 w with z | z
                              · exact absurd (show nI w = nI 5 by rw [show w = 5 by omega]) c35
                              · exact z
                            rw [rsA_lo hF h0 (by omega) im w5 a4]
                            first
                              | exact absurd c96 (by decide)
                              | (rw [if_pos ⟨bI_t c59, fun z => c68 (by rw [z]; rfl), rs_h (by omega) (by omega) (by first | exact .inl ⟨c78, c88⟩ | exact .inr ⟨c78, c88⟩)⟩]
                                 first
                                   | (rw [if_pos (rs_l (by omega) c105)]; done)
                                   | (rw [if_neg (rs_g (by omega) c105), if_pos ((nI_ei (b := 3) (by omega) (by decide)).mp c119), nI_clamp (show 72 + a < 2 ^ 31 by omega)]; done)
                                   | (rw [if_neg (rs_g (by omega) c105), if_neg (fun z => c119 (by rw [z]; rfl)), if_pos (by rw [nI_clamp (show 72 + a < 2 ^ 31 by omega)] at c138; exact c138)]; done)
                                   | (rw [if_neg (rs_g (by omega) c105), if_neg (fun z => c119 (by rw [z]; rfl)), if_neg (by rw [nI_clamp (show 72 + a < 2 ^ 31 by omega)] at c138; exact c138)]; done))
                          · refine gi_lconst (q := 142) (v := 1) C (dm_Mo_result 80 rfl) rfl (by decide) ?_
                            refine gi_goto (tgt := 146) C (dm_Mo_result 81 rfl) (by decide) ?_
                            refine gi_lret C hr (dm_Mo_result 83 rfl) ?_
                            refine ⟨?_, rfl, rfl⟩
                            have w5 : w ≤ 4 := by
                              rcases Nat.lt_or_ge 4 w with z | z
                              · exact absurd (show nI w = nI 5 by rw [show w = 5 by omega]) c35
                              · exact z
                            rw [rsA_lo hF h0 (by omega) im w5 a4]
                            first
                              | exact absurd c96 (by decide)
                              | (rw [if_pos ⟨bI_t c59, fun z => c68 (by rw [z]; rfl), rs_h (by omega) (by omega) (by first | exact .inl ⟨c78, c88⟩ | exact .inr ⟨c78, c88⟩)⟩]
                                 first
                                   | (rw [if_pos (rs_l (by omega) c105)]; done)
                                   | (rw [if_neg (rs_g (by omega) c105), if_pos ((nI_ei (b := 3) (by omega) (by decide)).mp c119), nI_clamp (show 72 + a < 2 ^ 31 by omega)]; done)
                                   | (rw [if_neg (rs_g (by omega) c105), if_neg (fun z => c119 (by rw [z]; rfl)), if_pos (by rw [nI_clamp (show 72 + a < 2 ^ 31 by omega)] at c138; exact c138)]; done)
                                   | (rw [if_neg (rs_g (by omega) c105), if_neg (fun z => c119 (by rw [z]; rfl)), if_neg (by rw [nI_clamp (show 72 + a < 2 ^ 31 by omega)] at c138; exact c138)]; done))
                        · refine gi_aload_n (q := 123) (i := 0) C (dm_Mo_result 69 rfl) rfl rfl rfl ?_
                          refine gi_get (q := 126) C (dm_Mo_result 70 rfl) rfl fl_Mo_95 Ha (mo_g43 Hf) ?_
                          refine gi_iload_n (q := 127) (i := 3) C (dm_Mo_result 71 rfl) rfl rfl rfl ?_
                          refine gi_iald (q := 128) C (dm_Mo_result 72 rfl) rfl rfl (mo_a43 H) (inN (show 72 + a < 160 by omega) (by decide)) ?_
                          refine gi_i2l (q := 129) C (dm_Mo_result 73 rfl) rfl ?_
                          refine gi_goto (tgt := 146) C (dm_Mo_result 74 rfl) (by decide) ?_
                          refine gi_lret C hr (dm_Mo_result 83 rfl) ?_
                          refine ⟨?_, rfl, rfl⟩
                          have w5 : w ≤ 4 := by
                            rcases Nat.lt_or_ge 4 w with z | z
                            · exact absurd (show nI w = nI 5 by rw [show w = 5 by omega]) c35
                            · exact z
                          rw [rsA_lo hF h0 (by omega) im w5 a4]
                          first
                            | exact absurd c96 (by decide)
                            | (rw [if_pos ⟨bI_t c59, fun z => c68 (by rw [z]; rfl), rs_h (by omega) (by omega) (by first | exact .inl ⟨c78, c88⟩ | exact .inr ⟨c78, c88⟩)⟩]
                               first
                                 | (rw [if_pos (rs_l (by omega) c105)]; done)
                                 | (rw [if_neg (rs_g (by omega) c105), if_pos ((nI_ei (b := 3) (by omega) (by decide)).mp c119), nI_clamp (show 72 + a < 2 ^ 31 by omega)]; done)
                                 | (rw [if_neg (rs_g (by omega) c105), if_neg (fun z => c119 (by rw [z]; rfl)), if_pos (by rw [nI_clamp (show 72 + a < 2 ^ 31 by omega)] at c138; exact c138)]; done)
                                 | (rw [if_neg (rs_g (by omega) c105), if_neg (fun z => c119 (by rw [z]; rfl)), if_neg (by rw [nI_clamp (show 72 + a < 2 ^ 31 by omega)] at c138; exact c138)]; done))
                      · refine gi_aload_n (q := 109) (i := 0) C (dm_Mo_result 61 rfl) rfl rfl rfl ?_
                        refine gi_iload_n (q := 110) (i := 3) C (dm_Mo_result 62 rfl) rfl rfl rfl ?_
                        refine gi_iload_n (q := 111) (i := 2) C (dm_Mo_result 63 rfl) rfl rfl rfl ?_
                        refine gi_callv 2 (q := 114) C (dm_Mo_result 64 rfl) rfl my_Mo_toldOf lk_Mo_527 im_Mo_toldOf rfl (c_Mo_toldOf (show 72 + a < 160 by omega) _ H) Ha rfl rfl ⟨(Nat.le_of_ble_eq_true rfl), (Nat.le_of_ble_eq_true rfl)⟩ (Nat.le_of_ble_eq_true rfl) ⟨(Nat.le_of_ble_eq_true rfl), (Nat.le_of_ble_eq_true rfl)⟩ (fun r111 n111 h111 e111 => ?_)
                        obtain ⟨rfl, q111, u111⟩ := e111
                        rw [q111, u111]
                        refine gi_goto (tgt := 146) C (dm_Mo_result 65 rfl) (by decide) ?_
                        refine gi_lret C hr (dm_Mo_result 83 rfl) ?_
                        refine ⟨?_, rfl, rfl⟩
                        have w5 : w ≤ 4 := by
                          rcases Nat.lt_or_ge 4 w with z | z
                          · exact absurd (show nI w = nI 5 by rw [show w = 5 by omega]) c35
                          · exact z
                        rw [rsA_lo hF h0 (by omega) im w5 a4]
                        first
                          | exact absurd c96 (by decide)
                          | (rw [if_pos ⟨bI_t c59, fun z => c68 (by rw [z]; rfl), rs_h (by omega) (by omega) (by first | exact .inl ⟨c78, c88⟩ | exact .inr ⟨c78, c88⟩)⟩]
                             first
                               | (rw [if_pos (rs_l (by omega) c105)]; done)
                               | (rw [if_neg (rs_g (by omega) c105), if_pos ((nI_ei (b := 3) (by omega) (by decide)).mp c119), nI_clamp (show 72 + a < 2 ^ 31 by omega)]; done)
                               | (rw [if_neg (rs_g (by omega) c105), if_neg (fun z => c119 (by rw [z]; rfl)), if_pos (by rw [nI_clamp (show 72 + a < 2 ^ 31 by omega)] at c138; exact c138)]; done)
                               | (rw [if_neg (rs_g (by omega) c105), if_neg (fun z => c119 (by rw [z]; rfl)), if_neg (by rw [nI_clamp (show 72 + a < 2 ^ 31 by omega)] at c138; exact c138)]; done))
                    · refine gi_ldc2 (q := 102) C (dm_Mo_result 56 rfl) rfl kc_Mo_525 ?_
                      refine gi_lret C hr (dm_Mo_result 57 rfl) ?_
                      refine ⟨?_, rfl, rfl⟩
                      have w5 : w ≤ 4 := by
                        rcases Nat.lt_or_ge 4 w with z | z
                        · exact absurd (show nI w = nI 5 by rw [show w = 5 by omega]) c35
                        · exact z
                      rw [rsA_lo hF h0 (by omega) im w5 a4]
                      refine congrArg (fun v => some (Value.long v)) (if_neg ?_).symm
                      rintro ⟨z1, z2, z3⟩
                      first
                        | exact absurd z1 (by rw [bI_fa c59]; decide)
                        | exact z2 ((nI_ei (b := 0) (by omega) (by decide)).mp c68)
                        | exact absurd rfl c96
                        | exact rs_n (by omega) (by omega) (by first | exact .inl ⟨c78, c88⟩ | exact .inr ⟨c78, c88⟩) z3
                · refine gi_iconst (q := 82) (v := 1) C (dm_Mo_result 46 rfl) rfl (by decide) ?_
                  refine gi_goto (tgt := 86) C (dm_Mo_result 47 rfl) (by decide) ?_
                  refine gi_iload_n (q := 87) (i := 2) C (dm_Mo_result 49 rfl) rfl rfl rfl ?_
                  refine gi_iconst (q := 88) (v := 3) C (dm_Mo_result 50 rfl) rfl (by decide) ?_
                  refine gi_icmp_ge (q := 91) (tgt := 95) C (dm_Mo_result 51 rfl) rfl (by decide) (fun c88 => ?_) (fun c88 => ?_)
                  · refine gi_iconst (q := 96) (v := 0) C (dm_Mo_result 54 rfl) rfl (by decide) ?_
                    refine gi_icmp_eq (q := 99) (tgt := 103) C (dm_Mo_result 55 rfl) rfl (by decide) (fun c96 => ?_) (fun c96 => ?_)
                    · refine gi_iload_n (q := 104) (i := 2) C (dm_Mo_result 58 rfl) rfl rfl rfl ?_
                      refine gi_iconst (q := 105) (v := 3) C (dm_Mo_result 59 rfl) rfl (by decide) ?_
                      refine gi_icmp_ge (q := 108) (tgt := 117) C (dm_Mo_result 60 rfl) rfl (by decide) (fun c105 => ?_) (fun c105 => ?_)
                      · refine gi_iload_n (q := 118) (i := 2) C (dm_Mo_result 66 rfl) rfl rfl rfl ?_
                        refine gi_iconst (q := 119) (v := 3) C (dm_Mo_result 67 rfl) rfl (by decide) ?_
                        refine gi_icmp_ne (q := 122) (tgt := 132) C (dm_Mo_result 68 rfl) rfl (by decide) (fun c119 => ?_) (fun c119 => ?_)
                        · refine gi_aload_n (q := 133) (i := 0) C (dm_Mo_result 75 rfl) rfl rfl rfl ?_
                          refine gi_get (q := 136) C (dm_Mo_result 76 rfl) rfl fl_Mo_98 Ha (mo_g44 Hf) ?_
                          refine gi_iload_n (q := 137) (i := 3) C (dm_Mo_result 77 rfl) rfl rfl rfl ?_
                          refine gi_zald (q := 138) C (dm_Mo_result 78 rfl) rfl rfl (mo_a44 H) (inN (show 72 + a < 160 by omega) (by decide)) ?_
                          refine gi_if_eq (q := 141) (tgt := 145) C (dm_Mo_result 79 rfl) rfl (by decide) (fun c138 => ?_) (fun c138 => ?_)
                          · refine gi_lconst (q := 146) (v := 0) C (dm_Mo_result 82 rfl) rfl (by decide) ?_
                            refine gi_lret C hr (dm_Mo_result 83 rfl) ?_
                            refine ⟨?_, rfl, rfl⟩
                            have w5 : w ≤ 4 := by
                              rcases Nat.lt_or_ge 4 w with z | z
                              · exact absurd (show nI w = nI 5 by rw [show w = 5 by omega]) c35
                              · exact z
                            rw [rsA_lo hF h0 (by omega) im w5 a4]
                            first
                              | exact absurd c96 (by decide)
                              | (rw [if_pos ⟨bI_t c59, fun z => c68 (by rw [z]; rfl), rs_h (by omega) (by omega) (by first | exact .inl ⟨c78, c88⟩ | exact .inr ⟨c78, c88⟩)⟩]
                                 first
                                   | (rw [if_pos (rs_l (by omega) c105)]; done)
                                   | (rw [if_neg (rs_g (by omega) c105), if_pos ((nI_ei (b := 3) (by omega) (by decide)).mp c119), nI_clamp (show 72 + a < 2 ^ 31 by omega)]; done)
                                   | (rw [if_neg (rs_g (by omega) c105), if_neg (fun z => c119 (by rw [z]; rfl)), if_pos (by rw [nI_clamp (show 72 + a < 2 ^ 31 by omega)] at c138; exact c138)]; done)
                                   | (rw [if_neg (rs_g (by omega) c105), if_neg (fun z => c119 (by rw [z]; rfl)), if_neg (by rw [nI_clamp (show 72 + a < 2 ^ 31 by omega)] at c138; exact c138)]; done))
                          · refine gi_lconst (q := 142) (v := 1) C (dm_Mo_result 80 rfl) rfl (by decide) ?_
                            refine gi_goto (tgt := 146) C (dm_Mo_result 81 rfl) (by decide) ?_
                            refine gi_lret C hr (dm_Mo_result 83 rfl) ?_
                            refine ⟨?_, rfl, rfl⟩
                            have w5 : w ≤ 4 := by
                              rcases Nat.lt_or_ge 4 w with z | z
                              · exact absurd (show nI w = nI 5 by rw [show w = 5 by omega]) c35
                              · exact z
                            rw [rsA_lo hF h0 (by omega) im w5 a4]
                            first
                              | exact absurd c96 (by decide)
                              | (rw [if_pos ⟨bI_t c59, fun z => c68 (by rw [z]; rfl), rs_h (by omega) (by omega) (by first | exact .inl ⟨c78, c88⟩ | exact .inr ⟨c78, c88⟩)⟩]
                                 first
                                   | (rw [if_pos (rs_l (by omega) c105)]; done)
                                   | (rw [if_neg (rs_g (by omega) c105), if_pos ((nI_ei (b := 3) (by omega) (by decide)).mp c119), nI_clamp (show 72 + a < 2 ^ 31 by omega)]; done)
                                   | (rw [if_neg (rs_g (by omega) c105), if_neg (fun z => c119 (by rw [z]; rfl)), if_pos (by rw [nI_clamp (show 72 + a < 2 ^ 31 by omega)] at c138; exact c138)]; done)
                                   | (rw [if_neg (rs_g (by omega) c105), if_neg (fun z => c119 (by rw [z]; rfl)), if_neg (by rw [nI_clamp (show 72 + a < 2 ^ 31 by omega)] at c138; exact c138)]; done))
                        · refine gi_aload_n (q := 123) (i := 0) C (dm_Mo_result 69 rfl) rfl rfl rfl ?_
                          refine gi_get (q := 126) C (dm_Mo_result 70 rfl) rfl fl_Mo_95 Ha (mo_g43 Hf) ?_
                          refine gi_iload_n (q := 127) (i := 3) C (dm_Mo_result 71 rfl) rfl rfl rfl ?_
                          refine gi_iald (q := 128) C (dm_Mo_result 72 rfl) rfl rfl (mo_a43 H) (inN (show 72 + a < 160 by omega) (by decide)) ?_
                          refine gi_i2l (q := 129) C (dm_Mo_result 73 rfl) rfl ?_
                          refine gi_goto (tgt := 146) C (dm_Mo_result 74 rfl) (by decide) ?_
                          refine gi_lret C hr (dm_Mo_result 83 rfl) ?_
                          refine ⟨?_, rfl, rfl⟩
                          have w5 : w ≤ 4 := by
                            rcases Nat.lt_or_ge 4 w with z | z
                            · exact absurd (show nI w = nI 5 by rw [show w = 5 by omega]) c35
                            · exact z
                          rw [rsA_lo hF h0 (by omega) im w5 a4]
                          first
                            | exact absurd c96 (by decide)
                            | (rw [if_pos ⟨bI_t c59, fun z => c68 (by rw [z]; rfl), rs_h (by omega) (by omega) (by first | exact .inl ⟨c78, c88⟩ | exact .inr ⟨c78, c88⟩)⟩]
                               first
                                 | (rw [if_pos (rs_l (by omega) c105)]; done)
                                 | (rw [if_neg (rs_g (by omega) c105), if_pos ((nI_ei (b := 3) (by omega) (by decide)).mp c119), nI_clamp (show 72 + a < 2 ^ 31 by omega)]; done)
                                 | (rw [if_neg (rs_g (by omega) c105), if_neg (fun z => c119 (by rw [z]; rfl)), if_pos (by rw [nI_clamp (show 72 + a < 2 ^ 31 by omega)] at c138; exact c138)]; done)
                                 | (rw [if_neg (rs_g (by omega) c105), if_neg (fun z => c119 (by rw [z]; rfl)), if_neg (by rw [nI_clamp (show 72 + a < 2 ^ 31 by omega)] at c138; exact c138)]; done))
                      · refine gi_aload_n (q := 109) (i := 0) C (dm_Mo_result 61 rfl) rfl rfl rfl ?_
                        refine gi_iload_n (q := 110) (i := 3) C (dm_Mo_result 62 rfl) rfl rfl rfl ?_
                        refine gi_iload_n (q := 111) (i := 2) C (dm_Mo_result 63 rfl) rfl rfl rfl ?_
                        refine gi_callv 2 (q := 114) C (dm_Mo_result 64 rfl) rfl my_Mo_toldOf lk_Mo_527 im_Mo_toldOf rfl (c_Mo_toldOf (show 72 + a < 160 by omega) _ H) Ha rfl rfl ⟨(Nat.le_of_ble_eq_true rfl), (Nat.le_of_ble_eq_true rfl)⟩ (Nat.le_of_ble_eq_true rfl) ⟨(Nat.le_of_ble_eq_true rfl), (Nat.le_of_ble_eq_true rfl)⟩ (fun r111 n111 h111 e111 => ?_)
                        obtain ⟨rfl, q111, u111⟩ := e111
                        rw [q111, u111]
                        refine gi_goto (tgt := 146) C (dm_Mo_result 65 rfl) (by decide) ?_
                        refine gi_lret C hr (dm_Mo_result 83 rfl) ?_
                        refine ⟨?_, rfl, rfl⟩
                        have w5 : w ≤ 4 := by
                          rcases Nat.lt_or_ge 4 w with z | z
                          · exact absurd (show nI w = nI 5 by rw [show w = 5 by omega]) c35
                          · exact z
                        rw [rsA_lo hF h0 (by omega) im w5 a4]
                        first
                          | exact absurd c96 (by decide)
                          | (rw [if_pos ⟨bI_t c59, fun z => c68 (by rw [z]; rfl), rs_h (by omega) (by omega) (by first | exact .inl ⟨c78, c88⟩ | exact .inr ⟨c78, c88⟩)⟩]
                             first
                               | (rw [if_pos (rs_l (by omega) c105)]; done)
                               | (rw [if_neg (rs_g (by omega) c105), if_pos ((nI_ei (b := 3) (by omega) (by decide)).mp c119), nI_clamp (show 72 + a < 2 ^ 31 by omega)]; done)
                               | (rw [if_neg (rs_g (by omega) c105), if_neg (fun z => c119 (by rw [z]; rfl)), if_pos (by rw [nI_clamp (show 72 + a < 2 ^ 31 by omega)] at c138; exact c138)]; done)
                               | (rw [if_neg (rs_g (by omega) c105), if_neg (fun z => c119 (by rw [z]; rfl)), if_neg (by rw [nI_clamp (show 72 + a < 2 ^ 31 by omega)] at c138; exact c138)]; done))
                    · refine gi_ldc2 (q := 102) C (dm_Mo_result 56 rfl) rfl kc_Mo_525 ?_
                      refine gi_lret C hr (dm_Mo_result 57 rfl) ?_
                      refine ⟨?_, rfl, rfl⟩
                      have w5 : w ≤ 4 := by
                        rcases Nat.lt_or_ge 4 w with z | z
                        · exact absurd (show nI w = nI 5 by rw [show w = 5 by omega]) c35
                        · exact z
                      rw [rsA_lo hF h0 (by omega) im w5 a4]
                      refine congrArg (fun v => some (Value.long v)) (if_neg ?_).symm
                      rintro ⟨z1, z2, z3⟩
                      first
                        | exact absurd z1 (by rw [bI_fa c59]; decide)
                        | exact z2 ((nI_ei (b := 0) (by omega) (by decide)).mp c68)
                        | exact absurd rfl c96
                        | exact rs_n (by omega) (by omega) (by first | exact .inl ⟨c78, c88⟩ | exact .inr ⟨c78, c88⟩) z3
                  · refine gi_iconst (q := 92) (v := 1) C (dm_Mo_result 52 rfl) rfl (by decide) ?_
                    refine gi_goto (tgt := 96) C (dm_Mo_result 53 rfl) (by decide) ?_
                    refine gi_icmp_eq (q := 99) (tgt := 103) C (dm_Mo_result 55 rfl) rfl (by decide) (fun c96 => ?_) (fun c96 => ?_)
                    · refine gi_iload_n (q := 104) (i := 2) C (dm_Mo_result 58 rfl) rfl rfl rfl ?_
                      refine gi_iconst (q := 105) (v := 3) C (dm_Mo_result 59 rfl) rfl (by decide) ?_
                      refine gi_icmp_ge (q := 108) (tgt := 117) C (dm_Mo_result 60 rfl) rfl (by decide) (fun c105 => ?_) (fun c105 => ?_)
                      · refine gi_iload_n (q := 118) (i := 2) C (dm_Mo_result 66 rfl) rfl rfl rfl ?_
                        refine gi_iconst (q := 119) (v := 3) C (dm_Mo_result 67 rfl) rfl (by decide) ?_
                        refine gi_icmp_ne (q := 122) (tgt := 132) C (dm_Mo_result 68 rfl) rfl (by decide) (fun c119 => ?_) (fun c119 => ?_)
                        · refine gi_aload_n (q := 133) (i := 0) C (dm_Mo_result 75 rfl) rfl rfl rfl ?_
                          refine gi_get (q := 136) C (dm_Mo_result 76 rfl) rfl fl_Mo_98 Ha (mo_g44 Hf) ?_
                          refine gi_iload_n (q := 137) (i := 3) C (dm_Mo_result 77 rfl) rfl rfl rfl ?_
                          refine gi_zald (q := 138) C (dm_Mo_result 78 rfl) rfl rfl (mo_a44 H) (inN (show 72 + a < 160 by omega) (by decide)) ?_
                          refine gi_if_eq (q := 141) (tgt := 145) C (dm_Mo_result 79 rfl) rfl (by decide) (fun c138 => ?_) (fun c138 => ?_)
                          · refine gi_lconst (q := 146) (v := 0) C (dm_Mo_result 82 rfl) rfl (by decide) ?_
                            refine gi_lret C hr (dm_Mo_result 83 rfl) ?_
                            refine ⟨?_, rfl, rfl⟩
                            have w5 : w ≤ 4 := by
                              rcases Nat.lt_or_ge 4 w with z | z
                              · exact absurd (show nI w = nI 5 by rw [show w = 5 by omega]) c35
                              · exact z
                            rw [rsA_lo hF h0 (by omega) im w5 a4]
                            first
                              | exact absurd c96 (by decide)
                              | (rw [if_pos ⟨bI_t c59, fun z => c68 (by rw [z]; rfl), rs_h (by omega) (by omega) (by first | exact .inl ⟨c78, c88⟩ | exact .inr ⟨c78, c88⟩)⟩]
                                 first
                                   | (rw [if_pos (rs_l (by omega) c105)]; done)
                                   | (rw [if_neg (rs_g (by omega) c105), if_pos ((nI_ei (b := 3) (by omega) (by decide)).mp c119), nI_clamp (show 72 + a < 2 ^ 31 by omega)]; done)
                                   | (rw [if_neg (rs_g (by omega) c105), if_neg (fun z => c119 (by rw [z]; rfl)), if_pos (by rw [nI_clamp (show 72 + a < 2 ^ 31 by omega)] at c138; exact c138)]; done)
                                   | (rw [if_neg (rs_g (by omega) c105), if_neg (fun z => c119 (by rw [z]; rfl)), if_neg (by rw [nI_clamp (show 72 + a < 2 ^ 31 by omega)] at c138; exact c138)]; done))
                          · refine gi_lconst (q := 142) (v := 1) C (dm_Mo_result 80 rfl) rfl (by decide) ?_
                            refine gi_goto (tgt := 146) C (dm_Mo_result 81 rfl) (by decide) ?_
                            refine gi_lret C hr (dm_Mo_result 83 rfl) ?_
                            refine ⟨?_, rfl, rfl⟩
                            have w5 : w ≤ 4 := by
                              rcases Nat.lt_or_ge 4 w with z | z
                              · exact absurd (show nI w = nI 5 by rw [show w = 5 by omega]) c35
                              · exact z
                            rw [rsA_lo hF h0 (by omega) im w5 a4]
                            first
                              | exact absurd c96 (by decide)
                              | (rw [if_pos ⟨bI_t c59, fun z => c68 (by rw [z]; rfl), rs_h (by omega) (by omega) (by first | exact .inl ⟨c78, c88⟩ | exact .inr ⟨c78, c88⟩)⟩]
                                 first
                                   | (rw [if_pos (rs_l (by omega) c105)]; done)
                                   | (rw [if_neg (rs_g (by omega) c105), if_pos ((nI_ei (b := 3) (by omega) (by decide)).mp c119), nI_clamp (show 72 + a < 2 ^ 31 by omega)]; done)
                                   | (rw [if_neg (rs_g (by omega) c105), if_neg (fun z => c119 (by rw [z]; rfl)), if_pos (by rw [nI_clamp (show 72 + a < 2 ^ 31 by omega)] at c138; exact c138)]; done)
                                   | (rw [if_neg (rs_g (by omega) c105), if_neg (fun z => c119 (by rw [z]; rfl)), if_neg (by rw [nI_clamp (show 72 + a < 2 ^ 31 by omega)] at c138; exact c138)]; done))
                        · refine gi_aload_n (q := 123) (i := 0) C (dm_Mo_result 69 rfl) rfl rfl rfl ?_
                          refine gi_get (q := 126) C (dm_Mo_result 70 rfl) rfl fl_Mo_95 Ha (mo_g43 Hf) ?_
                          refine gi_iload_n (q := 127) (i := 3) C (dm_Mo_result 71 rfl) rfl rfl rfl ?_
                          refine gi_iald (q := 128) C (dm_Mo_result 72 rfl) rfl rfl (mo_a43 H) (inN (show 72 + a < 160 by omega) (by decide)) ?_
                          refine gi_i2l (q := 129) C (dm_Mo_result 73 rfl) rfl ?_
                          refine gi_goto (tgt := 146) C (dm_Mo_result 74 rfl) (by decide) ?_
                          refine gi_lret C hr (dm_Mo_result 83 rfl) ?_
                          refine ⟨?_, rfl, rfl⟩
                          have w5 : w ≤ 4 := by
                            rcases Nat.lt_or_ge 4 w with z | z
                            · exact absurd (show nI w = nI 5 by rw [show w = 5 by omega]) c35
                            · exact z
                          rw [rsA_lo hF h0 (by omega) im w5 a4]
                          first
                            | exact absurd c96 (by decide)
                            | (rw [if_pos ⟨bI_t c59, fun z => c68 (by rw [z]; rfl), rs_h (by omega) (by omega) (by first | exact .inl ⟨c78, c88⟩ | exact .inr ⟨c78, c88⟩)⟩]
                               first
                                 | (rw [if_pos (rs_l (by omega) c105)]; done)
                                 | (rw [if_neg (rs_g (by omega) c105), if_pos ((nI_ei (b := 3) (by omega) (by decide)).mp c119), nI_clamp (show 72 + a < 2 ^ 31 by omega)]; done)
                                 | (rw [if_neg (rs_g (by omega) c105), if_neg (fun z => c119 (by rw [z]; rfl)), if_pos (by rw [nI_clamp (show 72 + a < 2 ^ 31 by omega)] at c138; exact c138)]; done)
                                 | (rw [if_neg (rs_g (by omega) c105), if_neg (fun z => c119 (by rw [z]; rfl)), if_neg (by rw [nI_clamp (show 72 + a < 2 ^ 31 by omega)] at c138; exact c138)]; done))
                      · refine gi_aload_n (q := 109) (i := 0) C (dm_Mo_result 61 rfl) rfl rfl rfl ?_
                        refine gi_iload_n (q := 110) (i := 3) C (dm_Mo_result 62 rfl) rfl rfl rfl ?_
                        refine gi_iload_n (q := 111) (i := 2) C (dm_Mo_result 63 rfl) rfl rfl rfl ?_
                        refine gi_callv 2 (q := 114) C (dm_Mo_result 64 rfl) rfl my_Mo_toldOf lk_Mo_527 im_Mo_toldOf rfl (c_Mo_toldOf (show 72 + a < 160 by omega) _ H) Ha rfl rfl ⟨(Nat.le_of_ble_eq_true rfl), (Nat.le_of_ble_eq_true rfl)⟩ (Nat.le_of_ble_eq_true rfl) ⟨(Nat.le_of_ble_eq_true rfl), (Nat.le_of_ble_eq_true rfl)⟩ (fun r111 n111 h111 e111 => ?_)
                        obtain ⟨rfl, q111, u111⟩ := e111
                        rw [q111, u111]
                        refine gi_goto (tgt := 146) C (dm_Mo_result 65 rfl) (by decide) ?_
                        refine gi_lret C hr (dm_Mo_result 83 rfl) ?_
                        refine ⟨?_, rfl, rfl⟩
                        have w5 : w ≤ 4 := by
                          rcases Nat.lt_or_ge 4 w with z | z
                          · exact absurd (show nI w = nI 5 by rw [show w = 5 by omega]) c35
                          · exact z
                        rw [rsA_lo hF h0 (by omega) im w5 a4]
                        first
                          | exact absurd c96 (by decide)
                          | (rw [if_pos ⟨bI_t c59, fun z => c68 (by rw [z]; rfl), rs_h (by omega) (by omega) (by first | exact .inl ⟨c78, c88⟩ | exact .inr ⟨c78, c88⟩)⟩]
                             first
                               | (rw [if_pos (rs_l (by omega) c105)]; done)
                               | (rw [if_neg (rs_g (by omega) c105), if_pos ((nI_ei (b := 3) (by omega) (by decide)).mp c119), nI_clamp (show 72 + a < 2 ^ 31 by omega)]; done)
                               | (rw [if_neg (rs_g (by omega) c105), if_neg (fun z => c119 (by rw [z]; rfl)), if_pos (by rw [nI_clamp (show 72 + a < 2 ^ 31 by omega)] at c138; exact c138)]; done)
                               | (rw [if_neg (rs_g (by omega) c105), if_neg (fun z => c119 (by rw [z]; rfl)), if_neg (by rw [nI_clamp (show 72 + a < 2 ^ 31 by omega)] at c138; exact c138)]; done))
                    · refine gi_ldc2 (q := 102) C (dm_Mo_result 56 rfl) rfl kc_Mo_525 ?_
                      refine gi_lret C hr (dm_Mo_result 57 rfl) ?_
                      refine ⟨?_, rfl, rfl⟩
                      have w5 : w ≤ 4 := by
                        rcases Nat.lt_or_ge 4 w with z | z
                        · exact absurd (show nI w = nI 5 by rw [show w = 5 by omega]) c35
                        · exact z
                      rw [rsA_lo hF h0 (by omega) im w5 a4]
                      refine congrArg (fun v => some (Value.long v)) (if_neg ?_).symm
                      rintro ⟨z1, z2, z3⟩
                      first
                        | exact absurd z1 (by rw [bI_fa c59]; decide)
                        | exact z2 ((nI_ei (b := 0) (by omega) (by decide)).mp c68)
                        | exact absurd rfl c96
                        | exact rs_n (by omega) (by omega) (by first | exact .inl ⟨c78, c88⟩ | exact .inr ⟨c78, c88⟩) z3
          · refine gi_aload_n (q := 39) (i := 0) C (dm_Mo_result 21 rfl) rfl rfl rfl ?_
            refine gi_get (q := 42) C (dm_Mo_result 22 rfl) rfl fl_Mo_83 Ha (mo_g39 Hf) ?_
            refine gi_iload_n (q := 43) (i := 3) C (dm_Mo_result 23 rfl) rfl rfl rfl ?_
            refine gi_zald (q := 44) C (dm_Mo_result 24 rfl) rfl rfl (mo_a39 H) (inN (show 72 + a < 160 by omega) (by decide)) ?_
            rw [nI_clamp (show 72 + a < 2 ^ 31 by omega), a39]
            refine gi_if_eq (q := 47) (tgt := 51) C (dm_Mo_result 25 rfl) rfl (by decide) (fun c44 => ?_) (fun c44 => ?_)
            · refine gi_lconst (q := 52) (v := 0) C (dm_Mo_result 28 rfl) rfl (by decide) ?_
              refine gi_lret C hr (dm_Mo_result 29 rfl) ?_
              refine ⟨?_, rfl, rfl⟩
              rw [rsA_t (by omega) im, if_pos c35]
              first
                | rw [if_pos (bI_t c44)]
                | rw [bI_fa c44, if_neg (by decide)]
            · refine gi_lconst (q := 48) (v := 1) C (dm_Mo_result 26 rfl) rfl (by decide) ?_
              refine gi_goto (tgt := 52) C (dm_Mo_result 27 rfl) (by decide) ?_
              refine gi_lret C hr (dm_Mo_result 29 rfl) ?_
              refine ⟨?_, rfl, rfl⟩
              rw [rsA_t (by omega) im, if_pos c35]
              first
                | rw [if_pos (bI_t c44)]
                | rw [bI_fa c44, if_neg (by decide)]
        · refine gi_ldc2 (q := 27) C (dm_Mo_result 12 rfl) rfl kc_Mo_525 ?_
          refine gi_lret C hr (dm_Mo_result 13 rfl) ?_
          first
            | exact ⟨(congrArg (fun v => some (Value.long v)) (rsA_f (bI_fa c12)).symm), rfl, rfl⟩
            | exact ⟨(congrArg (fun v => some (Value.long v)) (rsA_w (.inl c16)).symm), rfl, rfl⟩
            | exact ⟨(congrArg (fun v => some (Value.long v)) (rsA_w (.inr (Int32.not_le.mp c21))).symm), rfl, rfl⟩
end RL3
