-- needs: 89.01
section CHK
variable {l : Launch} {V : gi_V} {n : Nat} {h h' h0 : gi_H} {a pr bu fr to k m md : Nat} {P : Pm} {S : Nat → Int32} {x y nx ny ar ou be ab : mV} {Wk Wy En Lo : mR} {F : Fa} {Φ : Nat → mR} {T : Nat → Ty} {wd : Nat → Bool} {cb : Bool}
variable {f : Nat → Sl} {n0 i : Nat} {sn : Nat → Nat} {Ff : Fa} {Z : Fa × Bool} {hA hB : gi_H}
variable {sh : Nat → Option Sh} {wd0 : Nat → Bool} {X0 K : Nat} {ct cr r : Int32}
/-- a root, a place that the certificate does not cover -/
def flR (P : Pm) (F : Fa) (r : Int32) (m : Nat) : Bool := bitA r m && newR (F (60 * m)) (pN P 2 m) (rtF P m)
def flS (P : Pm) (sn : Nat → Nat) (F : Fa) (p : Nat) : Bool := (F p).told && (outs P sn F p).any (fun c => newR (F c.1) c.2.1 c.2.2)
/-- what check answers -/
def chkV (k : Nat) (P : Pm) (sn : Nat → Nat) (F : Fa) (r v : Int32) : Prop := (∃ m, m < k ∧ flR P F r m = true ∧ (∀ j, j < m → flR P F r j = false) ∧ v = -1000 - nI m) ∨ ((∀ j, j < k → flR P F r j = false) ∧ ((∃ p, p < 480 ∧ flS P sn F p = true ∧ (∀ q, q < p → flS P sn F q = false) ∧ v = -2000 - 100 * nI (p / 60) - nI (p % 60)) ∨ ((∀ q, q < 480 → flS P sn F q = false) ∧ v = 1)))
theorem chkV_one {v v' : Int32} (h : chkV k P sn F r v) (h' : chkV k P sn F r v') : v = v' := by
  rcases h with ⟨m, m1, m2, m3, rfl⟩ | ⟨a1, ⟨p, p1, p2, p3, rfl⟩ | ⟨b1, rfl⟩⟩
  · rcases h' with ⟨m', m1', m2', m3', rfl⟩ | ⟨a1', -⟩
    · have e : m = m' := by
        rcases Nat.lt_trichotomy m m' with q | q | q
        · rw [m3' m q] at m2; cases m2
        · exact q
        · rw [m3 m' q] at m2'; cases m2'
      rw [e]
    · rw [a1' m m1] at m2; cases m2
  · rcases h' with ⟨m', m1', m2', m3', rfl⟩ | ⟨a1', ⟨p', p1', p2', p3', rfl⟩ | ⟨b1', rfl⟩⟩
    · rw [a1 m' m1'] at m2'; cases m2'
    · have e : p = p' := by
        rcases Nat.lt_trichotomy p p' with q | q | q
        · rw [p3' p q] at p2; cases p2
        · exact q
        · rw [p3 p' q] at p2'; cases p2'
      rw [e]
    · rw [b1' p p1] at p2; cases p2
  · rcases h' with ⟨m', m1', m2', m3', rfl⟩ | ⟨a1', ⟨p', p1', p2', p3', rfl⟩ | ⟨b1', rfl⟩⟩
    · rw [a1 m' m1'] at m2'; cases m2'
    · rw [b1 p' p1'] at p2'; cases p2'
    · rfl
theorem comeM_2 {wd : Nat → Bool} {F : Fa} {b : Bool} {c : Con} : comeM 2 wd (F, b) c = (F, b || newR (F c.1) c.2.1 c.2.2) := by
  unfold comeM
  rw [if_pos rfl]
theorem comesM_2 {wd : Nat → Bool} {F : Fa} : ∀ (cs : List Con) (b : Bool), cs.foldl (comeM 2 wd) (F, b) = (F, b || cs.any (fun c => newR (F c.1) c.2.1 c.2.2))
  | [], b => by simp
  | c :: cs, b => by
    rw [List.foldl_cons, comeM_2, comesM_2 cs, List.any_cons, Bool.or_assoc]
theorem stpM_2 {fr p : Nat} {wd : Nat → Bool} {F Ff : Fa} : stpM P sn 2 wd fr fr Ff (F, false) p = (F, flS P sn F p) := by
  unfold stpM frF flS
  rw [if_pos rfl]
  split
  · rename_i e
    rw [comesM_2, e]
    simp
  · rename_i e
    rw [Bool.not_eq_true] at e
    rw [e]
    rfl
theorem flS_inv (B : Built k P sh sn wd0) {F : Fa} (hF : okF (tyF P sh) F) {q : Nat} (hq : q < 480) (h : ¬ vld k P q) : flS P sn F q = false := by
  unfold flS
  cases e : (F q).told with
  | false => rfl
  | true => exact absurd (vld_of B hq hF e) h
set_option maxHeartbeats 4000000 in
set_option maxRecDepth 100000 in
theorem c_H_check (hB0 : Built k P sh sn wd0) (HX : hs_ob X0 1 r h) (HP : pr_at (X0 + 1) (nI k) P h) (HB : buW (X0 + 9) (X0 + 1) k P sn (grF wd0) h) (HC : ∃ Φ, fa_at (X0 + 17) Φ h ∧ FaR F Φ) (hr : rdO (tyF P sh) F) (HS : spX (X0 + 16845) (X0 + 1) (X0 + 9) h) : gi_T l V y_H_check b_H_check 3 (some .int) 6 168 0 0 [.ref X0] n h (fun v n' h' => (∃ x, v = some (.int x) ∧ chkV k P sn F r x) ∧ n' = n ∧ (∃ Φ, fa_at (X0 + 17) Φ h' ∧ FaR F Φ) ∧ spX (X0 + 16845) (X0 + 1) (X0 + 9) h' ∧ outW (X0 + 16845) (X0 + 17) h h') := by
  refine gi_enter (by decide) (Nat.le_of_ble_eq_true rfl) ?_
  intro _ _ _ _ _ _ _ _ C hr9 hnm
  have hW := hB0.wf
  have w8 := hW.k8
  have hF := hr.1
  have DA0 : DH X0 (X0 + 17) (X0 + 17) := ⟨Or.inl rfl, Or.inl rfl⟩
  have d := DA0.dj
  have HX0 := HX
  unfold hs_ob at HX0
  obtain ⟨fsS, obS⟩ := HS.ob
  refine gi_aload_n (q := 1) (i := 0) C (dm_H_check 0 rfl) rfl rfl rfl ?_
  refine gi_get (q := 4) C (dm_H_check 1 rfl) rfl fl_H_69 HX0 rfl ?_
  refine gi_if_ne (q := 7) (tgt := 9) C (dm_H_check 2 rfl) rfl (by decide) (fun c4 => ?_) (fun c4 => ?_)
  · refine gi_aload_n (q := 10) (i := 0) C (dm_H_check 5 rfl) rfl rfl rfl ?_
    refine gi_get (q := 13) C (dm_H_check 6 rfl) rfl fl_H_40 HX0 rfl ?_
    refine gi_iconst (q := 14) (v := 2) C (dm_H_check 7 rfl) rfl (by decide) ?_
    refine gi_aload_n (q := 15) (i := 0) C (dm_H_check 8 rfl) rfl rfl rfl ?_
    refine gi_get (q := 18) C (dm_H_check 9 rfl) rfl fl_H_28 HX0 rfl ?_
    refine gi_aload_n (q := 19) (i := 0) C (dm_H_check 10 rfl) rfl rfl rfl ?_
    refine gi_get (q := 22) C (dm_H_check 11 rfl) rfl fl_H_28 HX0 rfl ?_
    refine gi_callv 3 (q := 25) C (dm_H_check 12 rfl) rfl my_St_prepare lk_H_114 im_St_prepare rfl (c_St_prepX 2 (X0 + 17) (X0 + 17) HS) obS rfl rfl ⟨(Nat.le_of_ble_eq_true rfl), (Nat.le_of_ble_eq_true rfl)⟩ (Nat.le_of_ble_eq_true rfl) ⟨(Nat.le_of_ble_eq_true rfl), (Nat.le_of_ble_eq_true rfl)⟩ (fun r22 n22 h22 e22 => ?_)
    obtain ⟨rfl, q22, S', x', y', nx', ny', ar', ou', be', ab', Wk', Wy', En', Lo', s6, s0, Q22⟩ := e22
    rw [q22]
    obtain ⟨Φ, fc, rc⟩ := HC
    have PY : PW (X0 + 16845) (X0 + 1) (X0 + 9) (X0 + 17) (X0 + 17) k 2 P sn (grF wd0) (tyF P sh) F (F, false) h h22 := PW.mk HP HB ⟨Φ, fc, rc⟩ ⟨Φ, fc, by rw [if_pos rfl]; exact rc⟩ hF (fun z => absurd z (by decide)) Q22 s6 s0
    refine gi_iconst (q := 26) (v := 0) C (dm_H_check 13 rfl) rfl (by decide) ?_
    refine gi_istore_n (q := 27) (i := 1) C (dm_H_check 14 rfl) rfl rfl (Nat.le_of_ble_eq_true rfl) ?_
    refine gi_while (σ := Nat) (fun m => k - m) (fun m => [(1, .int (nI m)), (0, .ref X0)]) (fun _ => n) (fun _ => 0) (fun _ => 0) (fun m y => m ≤ k ∧ PW (X0 + 16845) (X0 + 1) (X0 + 9) (X0 + 17) (X0 + 17) k 2 P sn (grF wd0) (tyF P sh) F (F, false) h y ∧ ∀ q, q < m → flR P F r q = false) 0 ⟨Nat.zero_le _, PY, fun q hq => absurd hq (by omega)⟩ ?_ (List.forall_mem_cons.mpr ⟨rfl, List.forall_mem_cons.mpr ⟨rfl, fun _ h => absurd h List.not_mem_nil⟩⟩) rfl rfl rfl
    clear PY
    rintro m y' ⟨hm, PY, PR⟩ ih1
    try dsimp only at *
    have HXy : y' X0 = _ := (PY.out X0 (by omega) (by omega)).trans HX0
    have prY := PY.hpr d
    obtain ⟨fsY, oY⟩ := PY.ob
    refine gi_iload_n (q := 28) (i := 1) C (dm_H_check 15 rfl) rfl rfl rfl ?_
    refine gi_aload_n (q := 29) (i := 0) C (dm_H_check 16 rfl) rfl rfl rfl ?_
    refine gi_get (q := 32) C (dm_H_check 17 rfl) rfl fl_H_12 (by first | exact HXy | exact prY.1) rfl ?_
    refine gi_get (q := 35) C (dm_H_check 18 rfl) rfl fl_H_108 (by first | exact HXy | exact prY.1) rfl ?_
    refine gi_icmp_ge (q := 38) (tgt := 79) C (dm_H_check 19 rfl) rfl (by decide) (fun c35 => ?_) (fun c35 => ?_)
    · have hik : k = m := by
        rcases Nat.lt_or_ge m k with q | q
        · exact absurd c35 (Int32.not_le.mpr (nI_lt q (by omega)))
        · omega
      subst hik
      have hRR := PR
      refine gi_iconst (q := 80) (v := 0) C (dm_H_check 39 rfl) rfl (by decide) ?_
      refine gi_istore_n (q := 81) (i := 1) C (dm_H_check 40 rfl) rfl rfl (Nat.le_of_ble_eq_true rfl) ?_
      refine gi_while (σ := Nat) (fun m => k - m) (fun m => [(1, .int (nI m)), (0, .ref X0)]) (fun _ => n) (fun _ => 0) (fun _ => 0) (fun m y => m ≤ k ∧ PW (X0 + 16845) (X0 + 1) (X0 + 9) (X0 + 17) (X0 + 17) k 2 P sn (grF wd0) (tyF P sh) F (F, false) h y ∧ ∀ q, q < 60 * m → flS P sn F q = false) 0 ⟨Nat.zero_le _, PY, fun q hq => absurd hq (by omega)⟩ ?_ (List.forall_mem_cons.mpr ⟨rfl, List.forall_mem_cons.mpr ⟨rfl, fun _ h => absurd h List.not_mem_nil⟩⟩) rfl rfl rfl
      clear PY HXy prY oY
      rintro m y' ⟨hm', PY, PS⟩ ih2
      try dsimp only at *
      have HXy : y' X0 = _ := (PY.out X0 (by omega) (by omega)).trans HX0
      have prY := PY.hpr d
      obtain ⟨fsY, oY⟩ := PY.ob
      refine gi_iload_n (q := 82) (i := 1) C (dm_H_check 41 rfl) rfl rfl rfl ?_
      refine gi_aload_n (q := 83) (i := 0) C (dm_H_check 42 rfl) rfl rfl rfl ?_
      refine gi_get (q := 86) C (dm_H_check 43 rfl) rfl fl_H_12 (by first | exact HXy | exact prY.1) rfl ?_
      refine gi_get (q := 89) C (dm_H_check 44 rfl) rfl fl_H_108 (by first | exact HXy | exact prY.1) rfl ?_
      refine gi_icmp_ge (q := 92) (tgt := 148) C (dm_H_check 45 rfl) rfl (by decide) (fun c89 => ?_) (fun c89 => ?_)
      · refine gi_iconst (q := 149) (v := 1) C (dm_H_check 75 rfl) rfl (by decide) ?_
        refine gi_iret C hr9 (dm_H_check 76 rfl) ?_
        have hik : k = m := by
          rcases Nat.lt_or_ge m k with q | q
          · exact absurd c89 (Int32.not_le.mpr (nI_lt q (by omega)))
          · omega
        subst hik
        refine ⟨?_, rfl, (PY.now d).2.2.1, (PY.now d).2.2.2.2.2, PY.out⟩
        refine ⟨_, rfl, Or.inr ⟨hRR, Or.inr ⟨fun q hq => ?_, rfl⟩⟩⟩
        rcases Nat.lt_or_ge q (60 * k) with z | z
        · exact PS q z
        · exact flS_inv hB0 hF hq (fun v => by have v1 := v.1; omega)
      · have hlt : m < k := by
          rcases Nat.lt_or_ge m k with q | q
          · exact q
          · exact absurd (nI_le q (by omega)) c89
        have hm := hlt
        have wm := wf_ar hW hm
        refine gi_iconst (q := 93) (v := 0) C (dm_H_check 46 rfl) rfl (by decide) ?_
        refine gi_istore_n (q := 94) (i := 2) C (dm_H_check 47 rfl) rfl rfl (Nat.le_of_ble_eq_true rfl) ?_
        refine gi_while (σ := Nat) (fun i => pN P 5 m - i) (fun i => [(2, .int (nI i)), (1, .int (nI m)), (0, .ref X0)]) (fun _ => n) (fun _ => 0) (fun _ => 0) (fun i y => i ≤ pN P 5 m ∧ PW (X0 + 16845) (X0 + 1) (X0 + 9) (X0 + 17) (X0 + 17) k 2 P sn (grF wd0) (tyF P sh) F (F, false) h y ∧ ∀ q, q < 60 * m + i → flS P sn F q = false) 0 ⟨Nat.zero_le _, PY, PS⟩ ?_ (List.forall_mem_cons.mpr ⟨rfl, List.forall_mem_cons.mpr ⟨rfl, List.forall_mem_cons.mpr ⟨rfl, fun _ h => absurd h List.not_mem_nil⟩⟩⟩) rfl rfl rfl
        clear PY HXy prY oY
        rintro i y' ⟨hi, PY, PS⟩ ih3
        try dsimp only at *
        have HXy : y' X0 = _ := (PY.out X0 (by omega) (by omega)).trans HX0
        have prY := PY.hpr d
        obtain ⟨fsY, oY⟩ := PY.ob
        refine gi_iload_n (q := 95) (i := 2) C (dm_H_check 48 rfl) rfl rfl rfl ?_
        refine gi_aload_n (q := 96) (i := 0) C (dm_H_check 49 rfl) rfl rfl rfl ?_
        refine gi_get (q := 99) C (dm_H_check 50 rfl) rfl fl_H_12 (by first | exact HXy | exact prY.1) rfl ?_
        refine gi_iload_n (q := 100) (i := 1) C (dm_H_check 51 rfl) rfl rfl rfl ?_
        refine gi_callv 1 (q := 103) C (dm_H_check 52 rfl) rfl my_Pr_lengthOf lk_H_192 im_Pr_lengthOf rfl (q_len hW hm prY) prY.1 rfl rfl ⟨(Nat.le_of_ble_eq_true rfl), (Nat.le_of_ble_eq_true rfl)⟩ (Nat.le_of_ble_eq_true rfl) ⟨(Nat.le_of_ble_eq_true rfl), (Nat.le_of_ble_eq_true rfl)⟩ (fun r100 n100 h100 e100 => ?_)
        obtain ⟨rfl, q100, u100⟩ := e100
        rw [q100, u100]
        refine gi_icmp_ge (q := 106) (tgt := 142) C (dm_H_check 53 rfl) rfl (by decide) (fun c103 => ?_) (fun c103 => ?_)
        · have hik : (pN P 5 m) = i := by
            rcases Nat.lt_or_ge i (pN P 5 m) with q | q
            · exact absurd c103 (Int32.not_le.mpr (nI_lt q (by omega)))
            · omega
          subst hik
          refine gi_iinc (q := 145) (v := 1) C (dm_H_check 73 rfl) rfl rfl (by decide) (Nat.le_of_ble_eq_true rfl) ?_
          refine gi_goto (tgt := 81) C (dm_H_check 74 rfl) (by decide) ?_
          refine gi_close (ih2 (m + 1) _ ⟨hm, PY, fun q hq => ?_⟩ (by omega)) (List.forall_mem_cons.mpr ⟨(congrArg (fun x => some (Value.int x)) (nI_1 m)), List.forall_mem_cons.mpr ⟨rfl, fun _ h => absurd h List.not_mem_nil⟩⟩) rfl rfl rfl
          rcases Nat.lt_or_ge q (60 * m + pN P 5 m) with z | z
          · exact PS q z
          · refine flS_inv hB0 hF (by omega) (fun v => ?_)
            have v2 := v.2
            rw [show q / 60 = m by omega] at v2
            omega
        · have hlt : i < (pN P 5 m) := by
            rcases Nat.lt_or_ge i (pN P 5 m) with q | q
            · exact q
            · exact absurd (nI_le q (by omega)) c103
          refine gi_aload_n (q := 107) (i := 0) C (dm_H_check 54 rfl) rfl rfl rfl ?_
          refine gi_get (q := 110) C (dm_H_check 55 rfl) rfl fl_H_40 (by first | exact HXy | exact prY.1) rfl ?_
          refine gi_iload_n (q := 111) (i := 1) C (dm_H_check 56 rfl) rfl rfl rfl ?_
          refine gi_iload_n (q := 112) (i := 2) C (dm_H_check 57 rfl) rfl rfl rfl ?_
          refine gi_callv 2 (q := 115) C (dm_H_check 58 rfl) rfl my_St_step lk_H_213 im_St_step rfl (p_step (by decide) hB0 hm hlt d PY (by unfold frF; rw [if_pos rfl]; exact hr)) oY rfl rfl ⟨(Nat.le_of_ble_eq_true rfl), (Nat.le_of_ble_eq_true rfl)⟩ (Nat.le_of_ble_eq_true rfl) ⟨(Nat.le_of_ble_eq_true rfl), (Nat.le_of_ble_eq_true rfl)⟩ (fun r112 n112 h112 e112 => ?_)
          obtain ⟨rfl, rfl, P112⟩ := e112
          rw [stpM_2] at P112
          have P112' := P112
          obtain ⟨hC2, S2, x2, y2, nx2, ny2, ar2, ou2, be2, ab2, Wk2, Wy2, En2, Lo2, s12, s22, B2, Q112⟩ := P112'
          have HX112 : h112 X0 = _ := (P112.out X0 (by omega) (by omega)).trans HX0
          refine gi_aload_n (q := 116) (i := 0) C (dm_H_check 59 rfl) rfl rfl rfl ?_
          refine gi_get (q := 119) C (dm_H_check 60 rfl) rfl fl_H_40 HX112 rfl ?_
          refine gi_get (q := 122) C (dm_H_check 61 rfl) rfl fl_H_119 Q112.ob rfl ?_
          refine gi_if_eq (q := 125) (tgt := 136) C (dm_H_check 62 rfl) rfl (by decide) (fun c122 => ?_) (fun c122 => ?_)
          · have eF : flS P sn F (60 * m + i) = false := bI_fa (by rw [← s22]; exact c122)
            refine gi_iinc (q := 139) (v := 1) C (dm_H_check 71 rfl) rfl rfl (by decide) (Nat.le_of_ble_eq_true rfl) ?_
            refine gi_goto (tgt := 94) C (dm_H_check 72 rfl) (by decide) ?_
            refine gi_close (ih3 (i + 1) _ ⟨hlt, by rw [← eF]; exact P112, fun q hq => ?_⟩ (by omega)) (List.forall_mem_cons.mpr ⟨(congrArg (fun x => some (Value.int x)) (nI_1 i)), List.forall_mem_cons.mpr ⟨rfl, List.forall_mem_cons.mpr ⟨rfl, fun _ h => absurd h List.not_mem_nil⟩⟩⟩) rfl rfl rfl
            rcases Nat.lt_or_ge q (60 * m + i) with z | z
            · exact PS q z
            · rw [show q = 60 * m + i by omega]
              exact eF
          · have eF : flS P sn F (60 * m + i) = true := bI_t (by rw [← s22]; exact c122)
            refine gi_sipush (q := 128) (v := -2000) C (dm_H_check 63 rfl) rfl (by decide) ?_
            refine gi_bipush (q := 130) (v := 100) C (dm_H_check 64 rfl) rfl (by decide) ?_
            refine gi_iload_n (q := 131) (i := 1) C (dm_H_check 65 rfl) rfl rfl rfl ?_
            refine gi_imul (q := 132) C (dm_H_check 66 rfl) rfl ?_
            refine gi_isub (q := 133) C (dm_H_check 67 rfl) rfl ?_
            refine gi_iload_n (q := 134) (i := 2) C (dm_H_check 68 rfl) rfl rfl rfl ?_
            refine gi_isub (q := 135) C (dm_H_check 69 rfl) rfl ?_
            refine gi_iret C hr9 (dm_H_check 70 rfl) ?_
            refine ⟨?_, rfl, (P112.now d).2.2.1, (P112.now d).2.2.2.2.2, P112.out⟩
            exact ⟨_, rfl, Or.inr ⟨hRR, Or.inl ⟨60 * m + i, by omega, eF, PS, by rw [show (60 * m + i) / 60 = m by omega, show (60 * m + i) % 60 = i by omega]⟩⟩⟩
    · have hlt : m < k := by
        rcases Nat.lt_or_ge m k with q | q
        · exact q
        · exact absurd (nI_le q (by omega)) c35
      refine gi_aload_n (q := 39) (i := 0) C (dm_H_check 20 rfl) rfl rfl rfl ?_
      refine gi_get (q := 42) C (dm_H_check 21 rfl) rfl fl_H_73 (by first | exact HXy | exact prY.1) rfl ?_
      refine gi_iload_n (q := 43) (i := 1) C (dm_H_check 22 rfl) rfl rfl rfl ?_
      refine gi_calls 2 (q := 46) C (dm_H_check 23 rfl) rfl my_H_isRoot lk_H_207 sm_H_isRoot (c_H_isRoot r (m := m) (by omega)) rfl rfl ⟨(Nat.le_of_ble_eq_true rfl), (Nat.le_of_ble_eq_true rfl)⟩ (Nat.le_of_ble_eq_true rfl) ⟨(Nat.le_of_ble_eq_true rfl), (Nat.le_of_ble_eq_true rfl)⟩ (fun r43 n43 h43 e43 => ?_)
      obtain ⟨rfl, q43, u43⟩ := e43
      rw [q43, u43]
      refine gi_if_eq (q := 49) (tgt := 73) C (dm_H_check 24 rfl) rfl (by decide) (fun c46 => ?_) (fun c46 => ?_)
      · have eF : flR P F r m = false := by
          unfold flR
          rw [bI_fa c46]
          rfl
        have PN := PY
        refine gi_iinc (q := 76) (v := 1) C (dm_H_check 37 rfl) rfl rfl (by decide) (Nat.le_of_ble_eq_true rfl) ?_
        refine gi_goto (tgt := 27) C (dm_H_check 38 rfl) (by decide) ?_
        refine gi_close (ih1 (m + 1) _ ⟨hlt, PN, fun q hq => ?_⟩ (by omega)) (List.forall_mem_cons.mpr ⟨(congrArg (fun x => some (Value.int x)) (nI_1 m)), List.forall_mem_cons.mpr ⟨rfl, fun _ h => absurd h List.not_mem_nil⟩⟩) rfl rfl rfl
        rcases Nat.lt_or_ge q m with z | z
        · exact PR q z
        · rw [show q = m by omega]
          exact eF
      · refine gi_aload_n (q := 50) (i := 0) C (dm_H_check 25 rfl) rfl rfl rfl ?_
        refine gi_get (q := 53) C (dm_H_check 26 rfl) rfl fl_H_40 (by first | exact HXy | exact prY.1) rfl ?_
        refine gi_iload_n (q := 54) (i := 1) C (dm_H_check 27 rfl) rfl rfl rfl ?_
        refine gi_callv 1 (q := 57) C (dm_H_check 28 rfl) rfl my_St_enterRoot lk_H_210 im_St_enterRoot rfl (p_root (by decide) hB0 hlt d PY) oY rfl rfl ⟨(Nat.le_of_ble_eq_true rfl), (Nat.le_of_ble_eq_true rfl)⟩ (Nat.le_of_ble_eq_true rfl) ⟨(Nat.le_of_ble_eq_true rfl), (Nat.le_of_ble_eq_true rfl)⟩ (fun r54 n54 h54 e54 => ?_)
        obtain ⟨rfl, rfl, P54⟩ := e54
        rw [comeM_2, Bool.false_or] at P54
        have P54 : PW (X0 + 16845) (X0 + 1) (X0 + 9) (X0 + 17) (X0 + 17) k 2 P sn (grF wd0) (tyF P sh) F (F, newR (F (60 * m)) (pN P 2 m) (rtF P m)) h h54 := P54
        have P54' := P54
        obtain ⟨hC2, S2, x2, y2, nx2, ny2, ar2, ou2, be2, ab2, Wk2, Wy2, En2, Lo2, s12, s22, B2, Q54⟩ := P54'
        have HX54 : h54 X0 = _ := (P54.out X0 (by omega) (by omega)).trans HX0
        refine gi_aload_n (q := 58) (i := 0) C (dm_H_check 29 rfl) rfl rfl rfl ?_
        refine gi_get (q := 61) C (dm_H_check 30 rfl) rfl fl_H_40 HX54 rfl ?_
        refine gi_get (q := 64) C (dm_H_check 31 rfl) rfl fl_H_119 Q54.ob rfl ?_
        refine gi_if_eq (q := 67) (tgt := 73) C (dm_H_check 32 rfl) rfl (by decide) (fun c64 => ?_) (fun c64 => ?_)
        · have eF : flR P F r m = false := by
            unfold flR
            rw [bI_fa (b := newR (F (60 * m)) (pN P 2 m) (rtF P m)) (by rw [← s22]; exact c64), Bool.and_false]
          have e9 : newR (F (60 * m)) (pN P 2 m) (rtF P m) = false := bI_fa (by rw [← s22]; exact c64)
          rw [e9] at P54
          have PN := P54
          refine gi_iinc (q := 76) (v := 1) C (dm_H_check 37 rfl) rfl rfl (by decide) (Nat.le_of_ble_eq_true rfl) ?_
          refine gi_goto (tgt := 27) C (dm_H_check 38 rfl) (by decide) ?_
          refine gi_close (ih1 (m + 1) _ ⟨hlt, PN, fun q hq => ?_⟩ (by omega)) (List.forall_mem_cons.mpr ⟨(congrArg (fun x => some (Value.int x)) (nI_1 m)), List.forall_mem_cons.mpr ⟨rfl, fun _ h => absurd h List.not_mem_nil⟩⟩) rfl rfl rfl
          rcases Nat.lt_or_ge q m with z | z
          · exact PR q z
          · rw [show q = m by omega]
            exact eF
        · have eF : flR P F r m = true := by
            unfold flR
            rw [bI_t c46, Bool.true_and]
            exact bI_t (by rw [← s22]; exact c64)
          refine gi_sipush (q := 70) (v := -1000) C (dm_H_check 33 rfl) rfl (by decide) ?_
          refine gi_iload_n (q := 71) (i := 1) C (dm_H_check 34 rfl) rfl rfl rfl ?_
          refine gi_isub (q := 72) C (dm_H_check 35 rfl) rfl ?_
          refine gi_iret C hr9 (dm_H_check 36 rfl) ?_
          refine ⟨?_, rfl, (P54.now d).2.2.1, (P54.now d).2.2.2.2.2, P54.out⟩
          exact ⟨_, rfl, Or.inl ⟨m, hlt, eF, PR, rfl⟩⟩
  · exact absurd c4 (by decide)
end CHK
