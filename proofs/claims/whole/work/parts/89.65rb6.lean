-- needs: 89.64
section RB6
variable {l : Launch} {V : gi_V} {n : Nat} {h h' : gi_H} {M k m i t : Nat} {s : Nat → Option Sh} {d : Sh} {Z : ShL} {P : Pm} {x : Sh} {b : Bool} {S S' : Nat → Int32} {J J' : Nat → Int64} {F : Nat → Nat → Int32} {G : Nat → Nat → Int64}
def frT (S S' : Nat → Int32) : Prop := ∀ j, j ≠ 10 → j ≠ 11 → j ≠ 19 → j ≠ 20 → j ≠ 21 → S' j = S j
theorem frS.wi (a : frS S S') : frT S S' := fun j _ _ h3 h4 h5 => a j h3 h4 h5
/-- what the shaping of a method leaves in the reference -/
def msP (M : Nat) (J : Nat → Int64) (G : Nat → Nat → Int64) (h : gi_H) (S : Nat → Int32) (F : Nat → Nat → Int32) (P : Pm) (m : Nat) (s : Nat → Option Sh) (v : Option Value) (h' : gi_H) : Prop := ∃ S' F', mo_at M S' J F' G h' ∧ outM M h h' ∧ frQ m F F' ∧ frT S S' ∧ ((∃ e, meS P m s = .inl e ∧ v = some (.int (-(nI e.1))) ∧ S' 10 = nI e.2.1 ∧ S' 11 = nI e.2.2 ∧ 1 ≤ e.1 ∧ e.1 ≤ 6) ∨ (∃ s', meS P m s = .inr s' ∧ v = some (.int 0) ∧ S' 10 = S 10 ∧ S' 11 = S 11 ∧ rpS P m s' (shf F')))
/-- while the places of a method are looked at -/
def mlI (M k : Nat) (J : Nat → Int64) (G : Nat → Nat → Int64) (h : gi_H) (S : Nat → Int32) (F : Nat → Nat → Int32) (P : Pm) (m : Nat) (s : Nat → Option Sh) (q : Nat × Nat × ShL) (y : gi_H) : Prop := q.1 ≤ pN P 5 m ∧ (∃ S' F', mo_at M S' J F' G y ∧ outM M h y ∧ frQ m F F' ∧ frS S S' ∧ rpS P m q.2.2.1 (shf F') ∧ rpL P m q.2.2.2 (shf F')) ∧ lpI k P m (upO s (60 * m) (some (0, 0))) q.2.2 ∧ cnU P m q.2.2 ≤ q.2.1 ∧ lpS P m 60 (st0 m s) = lpS P m q.2.1 q.2.2 ∧ ∀ j, j < q.1 → unl m q.2.2 j = false
theorem nxU_is {p : Nat} (h1 : p < pN P 5 m) (h2 : unl m Z p = true) (h3 : ∀ j, j < p → unl m Z j = false) : nxU P m Z = some p := rng_some h1 h2 h3
theorem lpS_s {f p : Nat} (h : nxU P m Z = some p) : lpS P m (f + 1) Z = (match lkS P m p Z with
  | .inl e => .inl e
  | .inr Z' => lpS P m f Z') := by rw [lpS, h]; rfl
theorem lkS_eq {p : Nat} {x : Sh} (e : Z.1 (60 * m + p) = some x) : lkS P m p Z = (match lkX P m p x Z.1 with
  | .inl e => .inl e
  | .inr s => .inr (s, upO Z.2 (60 * m + p) true)) := by unfold lkS; rw [e]; rfl
theorem ms_in {f p : Nat} {x : Sh} {e : Flt} (hl : ¬ pN P 5 m = 0) (hlp : lpS P m 60 (st0 m s) = lpS P m (f + 1) Z) (nx : nxU P m Z = some p) (ex : Z.1 (60 * m + p) = some x) (lk : lkX P m p x Z.1 = .inl e) : meS P m s = .inl e := by
  rw [meS_lp hl, hlp, lpS_s nx, lkS_eq ex, lk]
theorem lp_in {f p : Nat} {x : Sh} {s2 : Nat → Option Sh} (hlp : lpS P m 60 (st0 m s) = lpS P m (f + 1) Z) (nx : nxU P m Z = some p) (ex : Z.1 (60 * m + p) = some x) (lk : lkX P m p x Z.1 = .inr s2) : lpS P m 60 (st0 m s) = lpS P m f (s2, upO Z.2 (60 * m + p) true) := by
  rw [hlp, lpS_s nx, lkS_eq ex, lk]
theorem ng_nz {q : Nat} (h1 : q ≤ 6) (h2 : 1 ≤ q) : ¬ -(nI q) = 0 := by
  rcases (show q = 1 ∨ q = 2 ∨ q = 3 ∨ q = 4 ∨ q = 5 ∨ q = 6 by omega) with e | e | e | e | e | e <;> rw [e] <;> decide
set_option maxHeartbeats 4000000 in
set_option maxRecDepth 100000 in
theorem c_Mo_shapes (W : wfP k P) (hm : m < k) (hod : ∀ i, i < pN P 5 m → opdOk k P m (pN P 6 (60 * m + i)) (P 7 (60 * m + i))) (hP : prF P F) (hI : shI k P m s) (H : mo_at M S J F G h) : gi_T l V y_Mo_shapes b_Mo_shapes 5 (some .int) 3 67 0 0 [.ref M, .int (nI m)] n h (fun v n' h' => n' = n ∧ msP M J G h S F P m s v h') := by
  refine gi_enter (by decide) (Nat.le_of_ble_eq_true rfl) ?_
  intro _ _ _ _ _ _ _ _ C hr hnm
  obtain ⟨fs, Ha, Hf⟩ := id H.1
  have ho : outM M h h := outM.rf
  have w8 := W.k8
  have wm := wf_ar W hm
  have e5 := (wf_n W hm).2.2.2.1
  refine gi_bipush (q := 2) (v := 60) C (dm_Mo_shapes 0 rfl) rfl (by decide) ?_
  refine gi_iload_n (q := 3) (i := 1) C (dm_Mo_shapes 1 rfl) rfl rfl rfl ?_
  refine gi_imul (q := 4) C (dm_Mo_shapes 2 rfl) rfl ?_
  rw [show (60 : Int32) = nI 60 from rfl, nI_ml]
  refine gi_istore_n (q := 5) (i := 2) C (dm_Mo_shapes 3 rfl) rfl rfl (Nat.le_of_ble_eq_true rfl) ?_
  refine gi_while (σ := Nat) (fun j => 60 - j) (fun j => [(2, .int (nI (60 * m + j))), (0, .ref M), (1, .int (nI m))]) (fun _ => n) (fun _ => 0) (fun _ => 0) (fun j y' => j ≤ 60 ∧ ∃ F1, mo_at M S J F1 G y' ∧ outM M h y' ∧ frQ m F F1 ∧ ∀ q, q < j → F1 12 (60 * m + q) = -1 ∧ F1 14 (60 * m + q) = 0) 0 ⟨Nat.zero_le _, F, H, outM.rf, frQ.rf, fun q hq => absurd hq (by omega)⟩ ?_ (List.forall_mem_cons.mpr ⟨rfl, List.forall_mem_cons.mpr ⟨rfl, List.forall_mem_cons.mpr ⟨rfl, fun _ h => absurd h List.not_mem_nil⟩⟩⟩) rfl rfl rfl
  clear H Ha Hf ho
  rintro j y' ⟨hj, F1, H1, o1, r1, c1⟩ ih
  try dsimp only at *
  obtain ⟨fs, Ha1, Hf1⟩ := id H1.1
  have H := H1
  have Ha := Ha1
  have Hf := Hf1
  have ho := o1
  refine gi_iload_n (q := 6) (i := 2) C (dm_Mo_shapes 4 rfl) rfl rfl rfl ?_
  refine gi_bipush (q := 8) (v := 60) C (dm_Mo_shapes 5 rfl) rfl (by decide) ?_
  refine gi_iload_n (q := 9) (i := 1) C (dm_Mo_shapes 6 rfl) rfl rfl rfl ?_
  refine gi_imul (q := 10) C (dm_Mo_shapes 7 rfl) rfl ?_
  refine gi_bipush (q := 12) (v := 60) C (dm_Mo_shapes 8 rfl) rfl (by decide) ?_
  refine gi_iadd (q := 13) C (dm_Mo_shapes 9 rfl) rfl ?_
  rw [show (60 : Int32) = nI 60 from rfl, nI_ml, nI_add]
  refine gi_icmp_ge (q := 16) (tgt := 36) C (dm_Mo_shapes 10 rfl) rfl (by decide) (fun c13 => ?_) (fun c13 => ?_)
  · have jl : j = 60 := by
      rcases Nat.lt_or_ge j 60 with q | q
      · exact absurd c13 (Int32.not_le.mpr (nI_lt (show 60 * m + j < 60 * m + 60 by omega) (by omega)))
      · omega
    subst jl
    refine gi_aload_n (q := 37) (i := 0) C (dm_Mo_shapes 23 rfl) rfl rfl rfl ?_
    refine gi_get (q := 40) C (dm_Mo_shapes 24 rfl) rfl fl_Mo_22 Ha1 (mo_g5 Hf1) ?_
    refine gi_iload_n (q := 41) (i := 1) C (dm_Mo_shapes 25 rfl) rfl rfl rfl ?_
    refine gi_iald (q := 42) C (dm_Mo_shapes 26 rfl) rfl rfl (mo_a5 H1) (inN (show m < 8 by omega) (by decide)) ?_
    rw [nI_clamp (show m < 2 ^ 31 by omega), r1.1 5 (by decide) (by decide) (by decide), hP 5 (by decide) (by decide), e5]
    refine gi_if_ne (q := 45) (tgt := 53) C (dm_Mo_shapes 27 rfl) rfl (by decide) (fun c42 => ?_) (fun c42 => ?_)
    · have hl : ¬ pN P 5 m = 0 := by rw [← nI_z (by omega)]; exact c42
      refine gi_aload_n (q := 54) (i := 0) C (dm_Mo_shapes 34 rfl) rfl rfl rfl ?_
      refine gi_get (q := 57) C (dm_Mo_shapes 35 rfl) rfl fl_Mo_38 Ha1 (mo_g12 Hf1) ?_
      refine gi_bipush (q := 59) (v := 60) C (dm_Mo_shapes 36 rfl) rfl (by decide) ?_
      refine gi_iload_n (q := 60) (i := 1) C (dm_Mo_shapes 37 rfl) rfl rfl rfl ?_
      refine gi_imul (q := 61) C (dm_Mo_shapes 38 rfl) rfl ?_
      rw [show (60 : Int32) = nI 60 from rfl, nI_ml]
      refine gi_iconst (q := 62) (v := 0) C (dm_Mo_shapes 39 rfl) rfl (by decide) ?_
      skip
      refine gi_iast (q := 63) C (dm_Mo_shapes 40 rfl) rfl rfl (mo_a12 H1) (inN (show 60 * m < 480 by omega) (by decide)) ?_
      refine gi_genM (H.setI (p := 7) (k := 12) (by decide) rfl rfl (by decide) rfl (by omega)) (ho.up (by omega) (by omega)) (fun y H ho => ?_)
      obtain ⟨fs, Ha, Hf⟩ := id H.1
      refine gi_aload_n (q := 64) (i := 0) C (dm_Mo_shapes 41 rfl) rfl rfl rfl ?_
      refine gi_get (q := 67) C (dm_Mo_shapes 42 rfl) rfl fl_Mo_41 Ha (mo_g13 Hf) ?_
      refine gi_bipush (q := 69) (v := 60) C (dm_Mo_shapes 43 rfl) rfl (by decide) ?_
      refine gi_iload_n (q := 70) (i := 1) C (dm_Mo_shapes 44 rfl) rfl rfl rfl ?_
      refine gi_imul (q := 71) C (dm_Mo_shapes 45 rfl) rfl ?_
      rw [show (60 : Int32) = nI 60 from rfl, nI_ml]
      refine gi_iconst (q := 72) (v := 0) C (dm_Mo_shapes 46 rfl) rfl (by decide) ?_
      refine gi_iast (q := 73) C (dm_Mo_shapes 47 rfl) rfl rfl (mo_a13 H) (inN (show 60 * m < 480 by omega) (by decide)) ?_
      refine gi_genM (H.setI (p := 8) (k := 13) (by decide) rfl rfl (by decide) rfl (by omega)) (ho.up (by omega) (by omega)) (fun y H ho => ?_)
      obtain ⟨fs, Ha, Hf⟩ := id H.1
      rw [nI_clamp (show 60 * m < 2 ^ 31 by omega)] at H
      refine gi_iconst (q := 74) (v := 0) C (dm_Mo_shapes 48 rfl) rfl (by decide) ?_
      refine gi_istore_n (q := 75) (i := 2) C (dm_Mo_shapes 49 rfl) rfl rfl (Nat.le_of_ble_eq_true rfl) ?_
      have s00 : ∀ i, s (60 * m + i) = none := fun i => by
        cases e : s (60 * m + i) with
        | none => rfl
        | some x => have := hI.2.1 _ _ e; omega
      have hS0 : rpS P m (st0 m s).1 (shf (upA (upA F1 12 (upd (F1 12) (60 * m) 0)) 13 (upd (upA F1 12 (upd (F1 12) (60 * m) 0) 13) (60 * m) 0))) := fun i hi => by
        show (upO s (60 * m) (some (0, 0)) (60 * m + i) = none → upA (upA F1 12 (upd (F1 12) (60 * m) 0)) 13 _ 12 (60 * m + i) = -1) ∧ ∀ x, upO s (60 * m) (some (0, 0)) (60 * m + i) = some x → upA (upA F1 12 (upd (F1 12) (60 * m) 0)) 13 _ 12 (60 * m + i) = nI x.1 ∧ upA (upA F1 12 (upd (F1 12) (60 * m) 0)) 13 (upd (upA F1 12 (upd (F1 12) (60 * m) 0) 13) (60 * m) 0) 13 (60 * m + i) = nI x.2
        rw [upA_n (by decide), upA_i, upA_i, upd_is, upd_is]
        by_cases z : i = 0
        · subst z
          rw [if_pos (by omega), if_pos (by omega), Nat.add_zero, upO_self]
          exact ⟨fun e => (by cases e), fun x e => by cases e; exact ⟨rfl, rfl⟩⟩
        · rw [if_neg (by omega), upO_ne (by omega), s00 i]
          exact ⟨fun _ => (c1 i (by omega)).1, fun x e => (by cases e)⟩
      have hL0 : rpL P m (st0 m s).2 (shf (upA (upA F1 12 (upd (F1 12) (60 * m) 0)) 13 (upd (upA F1 12 (upd (F1 12) (60 * m) 0) 13) (60 * m) 0))) := fun i hi => by
        show upA (upA F1 12 (upd (F1 12) (60 * m) 0)) 13 _ 14 (60 * m + i) = 0
        rw [upA_n (by decide), upA_n (by decide)]
        exact (c1 i (by omega)).2
      have hQ0 : frQ m F (upA (upA F1 12 (upd (F1 12) (60 * m) 0)) 13 (upd (upA F1 12 (upd (F1 12) (60 * m) 0) 13) (60 * m) 0)) := by
        refine ⟨fun a a1 a2 a3 => ?_, fun a p hp => ?_⟩
        · rw [upA_n a2, upA_n a1]
          exact r1.1 a a1 a2 a3
        · by_cases z : a = 13
          · subst z
            rw [upA_i, upd_is, if_neg (by omega), upA_n (by decide)]
            exact r1.2 13 p hp
          · rw [upA_n z]
            by_cases z2 : a = 12
            · subst z2
              rw [upA_i, upd_is, if_neg (by omega)]
              exact r1.2 12 p hp
            · rw [upA_n z2]
              exact r1.2 a p hp
      refine gi_while (σ := Nat × Nat × ShL) (fun q => 61 * q.2.1 + (60 - q.1)) (fun q => [(2, .int (nI q.1)), (0, .ref M), (1, .int (nI m))]) (fun _ => n) (fun _ => 0) (fun _ => 0) (fun q y' => mlI M k J G h S F P m s q y') (0, 60, st0 m s) ⟨Nat.zero_le _, ⟨S, _, H, ho, hQ0, frS.rf, hS0, hL0⟩, lpI_0 hm hl hI, ?_, rfl, fun j hj => absurd hj (Nat.not_lt_zero _)⟩ ?_ (List.forall_mem_cons.mpr ⟨rfl, List.forall_mem_cons.mpr ⟨rfl, List.forall_mem_cons.mpr ⟨rfl, fun _ h => absurd h List.not_mem_nil⟩⟩⟩) rfl rfl rfl
      · show cnU P m (st0 m s) ≤ 60
        unfold cnU
        refine Nat.le_trans (List.length_filter_le _ _) ?_
        rw [List.length_range]
        omega
      rintro ⟨p, f, Z⟩ y' ⟨hp, ⟨Sy, Fy, Hy, yo, yq, ys, yrS, yrL⟩, hi, hf, hlp, al⟩ ih
      try dsimp only at *
      have hP5 := yq.p hP
      obtain ⟨fsy, Hay, Hfy⟩ := id Hy.1
      refine gi_iload_n (q := 76) (i := 2) C (dm_Mo_shapes 50 rfl) rfl rfl rfl ?_
      refine gi_aload_n (q := 77) (i := 0) C (dm_Mo_shapes 51 rfl) rfl rfl rfl ?_
      refine gi_get (q := 80) C (dm_Mo_shapes 52 rfl) rfl fl_Mo_22 Hay (mo_g5 Hfy) ?_
      refine gi_iload_n (q := 81) (i := 1) C (dm_Mo_shapes 53 rfl) rfl rfl rfl ?_
      refine gi_iald (q := 82) C (dm_Mo_shapes 54 rfl) rfl rfl (mo_a5 Hy) (inN (show m < 8 by omega) (by decide)) ?_
      rw [nI_clamp (show m < 2 ^ 31 by omega), yq.1 5 (by decide) (by decide) (by decide), hP 5 (by decide) (by decide), e5]
      refine gi_icmp_ge (q := 85) (tgt := 273) C (dm_Mo_shapes 55 rfl) rfl (by decide) (fun c82 => ?_) (fun c82 => ?_)
      · have pe : p = pN P 5 m := by
          rcases Nat.lt_or_ge p (pN P 5 m) with q | q
          · exact absurd c82 (Int32.not_le.mpr (nI_lt q (by omega)))
          · omega
        have nn : nxU P m Z = none := rng_no (fun j hj => al j (by omega))
        refine gi_iconst (q := 274) (v := 0) C (dm_Mo_shapes 166 rfl) rfl (by decide) ?_
        refine gi_iret C hr (dm_Mo_shapes 167 rfl) ?_
        refine ⟨rfl, Sy, Fy, Hy, yo, yq, ys.wi, Or.inr ⟨Z.1, ?_, rfl, ys 10 (by decide) (by decide) (by decide), ys 11 (by decide) (by decide) (by decide), yrS⟩⟩
        rw [meS_lp hl, hlp, lp_none nn]
      · have pl : p < pN P 5 m := by
          rcases Nat.lt_or_ge p (pN P 5 m) with q | q
          · exact q
          · exact absurd (nI_le q (by omega)) c82
        obtain ⟨rs1, rs2⟩ := yrS p pl
        have rl := yrL p pl
        have rl : Fy 14 (60 * m + p) = bI (Z.2 (60 * m + p)) := rl
        refine gi_bipush (q := 87) (v := 60) C (dm_Mo_shapes 56 rfl) rfl (by decide) ?_
        refine gi_iload_n (q := 88) (i := 1) C (dm_Mo_shapes 57 rfl) rfl rfl rfl ?_
        refine gi_imul (q := 89) C (dm_Mo_shapes 58 rfl) rfl ?_
        refine gi_iload_n (q := 90) (i := 2) C (dm_Mo_shapes 59 rfl) rfl rfl rfl ?_
        refine gi_iadd (q := 91) C (dm_Mo_shapes 60 rfl) rfl ?_
        rw [show (60 : Int32) = nI 60 from rfl, nI_ml, nI_add]
        refine gi_istore_n (q := 92) (i := 3) C (dm_Mo_shapes 61 rfl) rfl rfl (Nat.le_of_ble_eq_true rfl) ?_
        refine gi_aload_n (q := 93) (i := 0) C (dm_Mo_shapes 62 rfl) rfl rfl rfl ?_
        refine gi_get (q := 96) C (dm_Mo_shapes 63 rfl) rfl fl_Mo_38 Hay (mo_g12 Hfy) ?_
        refine gi_iload_n (q := 97) (i := 3) C (dm_Mo_shapes 64 rfl) rfl rfl rfl ?_
        refine gi_iald (q := 98) C (dm_Mo_shapes 65 rfl) rfl rfl (mo_a12 Hy) (inN (show 60 * m + p < 480 by omega) (by decide)) ?_
        rw [nI_clamp (show 60 * m + p < 2 ^ 31 by omega)]
        refine gi_if_lt (q := 101) (tgt := 110) C (dm_Mo_shapes 66 rfl) rfl (by decide) (fun c98 => ?_) (fun c98 => ?_)
        · have un : unl m Z p = false := by
            unfold unl
            first
              | (rw [show Z.1 (60 * m + p) = none from by
                  cases e : Z.1 (60 * m + p) with
                  | none => rfl
                  | some x =>
                    have g : Fy 12 (60 * m + p) = nI x.1 := (rs2 x e).1
                    rw [g] at c98
                    exact absurd c98 (Int32.not_lt.mpr (nI_le (a := 0) (Nat.zero_le _) (by have := (hi.s8 _ _ e).1; omega)))]
                 rfl)
              | (rw [bI_t (b := Z.2 (60 * m + p)) c107, Bool.not_true, Bool.and_false])
          refine gi_iinc (q := 113) (v := 1) C (dm_Mo_shapes 72 rfl) rfl rfl (by decide) (Nat.le_of_ble_eq_true rfl) ?_
          refine gi_goto (tgt := 75) C (dm_Mo_shapes 73 rfl) (by decide) ?_
          refine gi_close (ih (p + 1, f, Z) _ ⟨pl, ⟨Sy, Fy, Hy, yo, yq, ys, yrS, yrL⟩, hi, hf, hlp, fun j hj => ?_⟩ (by dsimp only; omega)) (List.forall_mem_cons.mpr ⟨(by simp [gi_look, nI_1]), List.forall_mem_cons.mpr ⟨rfl, List.forall_mem_cons.mpr ⟨rfl, fun _ h => absurd h List.not_mem_nil⟩⟩⟩) rfl rfl rfl
          by_cases z : j = p
          · rw [z]; exact un
          · exact al j (by omega)
        · refine gi_aload_n (q := 102) (i := 0) C (dm_Mo_shapes 67 rfl) rfl rfl rfl ?_
          refine gi_get (q := 105) C (dm_Mo_shapes 68 rfl) rfl fl_Mo_44 Hay (mo_g14 Hfy) ?_
          refine gi_iload_n (q := 106) (i := 3) C (dm_Mo_shapes 69 rfl) rfl rfl rfl ?_
          refine gi_zald (q := 107) C (dm_Mo_shapes 70 rfl) rfl rfl (mo_a14 Hy) (inN (show 60 * m + p < 480 by omega) (by decide)) ?_
          rw [nI_clamp (show 60 * m + p < 2 ^ 31 by omega)]
          rw [rl]
          refine gi_if_eq (q := 110) (tgt := 116) C (dm_Mo_shapes 71 rfl) rfl (by decide) (fun c107 => ?_) (fun c107 => ?_)
          · obtain ⟨x, ex⟩ : ∃ x, Z.1 (60 * m + p) = some x := by
              cases e : Z.1 (60 * m + p) with
              | none =>
                have g : Fy 12 (60 * m + p) = -1 := rs1 e
                rw [g] at c98
                exact absurd (by decide) c98
              | some x => exact ⟨x, rfl⟩
            have zf : Z.2 (60 * m + p) = false := bI_fa c107
            obtain ⟨g1, g2⟩ := rs2 x ex
            have g1 : Fy 12 (60 * m + p) = nI x.1 := g1
            have g2 : Fy 13 (60 * m + p) = nI x.2 := g2
            obtain ⟨x8, xo⟩ := hi.s8 _ _ ex
            have un : unl m Z p = true := by
              unfold unl
              rw [ex, zf]
              rfl
            have nx := nxU_is pl un al
            have c0 := cnU_0 nx
            obtain ⟨f', rfl⟩ : ∃ f', f = f' + 1 := ⟨f - 1, by omega⟩
            have eop := wf_op W hm pl
            have od := hod p pl
            have hpn : 0 ≤ (P 7 (60 * m + p)).toInt → P 7 (60 * m + p) = nI (pN P 7 (60 * m + p)) ∧ (P 7 (60 * m + p)).toInt = pN P 7 (60 * m + p) := fun q => by
              have := nn_nI (a := P 7 (60 * m + p)) q
              exact ⟨this.1, this.2⟩
            have H := Hy
            have Ha := Hay
            have Hf := Hfy
            have ho := yo
            refine gi_aload_n (q := 117) (i := 0) C (dm_Mo_shapes 74 rfl) rfl rfl rfl ?_
            refine gi_get (q := 120) C (dm_Mo_shapes 75 rfl) rfl fl_Mo_44 Ha (mo_g14 Hf) ?_
            refine gi_iload_n (q := 121) (i := 3) C (dm_Mo_shapes 76 rfl) rfl rfl rfl ?_
            refine gi_iconst (q := 122) (v := 1) C (dm_Mo_shapes 77 rfl) rfl (by decide) ?_
            refine gi_zast (q := 123) C (dm_Mo_shapes 78 rfl) rfl rfl (mo_a14 H) (inN (show 60 * m + p < 480 by omega) (by decide)) ?_
            refine gi_genM (H.setI (p := 9) (k := 14) (by decide) rfl rfl (by decide) rfl (by omega)) (ho.up (by omega) (by omega)) (fun y H ho => ?_)
            obtain ⟨fs, Ha, Hf⟩ := id H.1
            rw [nI_clamp (show 60 * m + p < 2 ^ 31 by omega)] at H
            have H : mo_at M Sy J (upA Fy 14 (upd (Fy 14) (60 * m + p) 1)) G y := H
            refine gi_aload_n (q := 124) (i := 0) C (dm_Mo_shapes 79 rfl) rfl rfl rfl ?_
            refine gi_aload_n (q := 125) (i := 0) C (dm_Mo_shapes 80 rfl) rfl rfl rfl ?_
            refine gi_get (q := 128) C (dm_Mo_shapes 81 rfl) rfl fl_Mo_38 Ha (mo_g12 Hf) ?_
            refine gi_iload_n (q := 129) (i := 3) C (dm_Mo_shapes 82 rfl) rfl rfl rfl ?_
            refine gi_iald (q := 130) C (dm_Mo_shapes 83 rfl) rfl rfl (mo_a12 H) (inN (show 60 * m + p < 480 by omega) (by decide)) ?_
            rw [nI_clamp (show 60 * m + p < 2 ^ 31 by omega)]
            rw [upA_n (by decide), g1]
            refine gi_put (q := 133) C (dm_Mo_shapes 84 rfl) rfl fl_Mo_190 fp_Mo_19 Ha (by rw [Hf.1]; decide) rfl rfl ?_
            refine gi_genM (H.putI Ha Hf (by decide) rfl) (ho.up (by omega) (by omega)) (fun y H ho => ?_)
            obtain ⟨fs, Ha, Hf⟩ := id H.1
            refine gi_aload_n (q := 134) (i := 0) C (dm_Mo_shapes 85 rfl) rfl rfl rfl ?_
            refine gi_aload_n (q := 135) (i := 0) C (dm_Mo_shapes 86 rfl) rfl rfl rfl ?_
            refine gi_get (q := 138) C (dm_Mo_shapes 87 rfl) rfl fl_Mo_41 Ha (mo_g13 Hf) ?_
            refine gi_iload_n (q := 139) (i := 3) C (dm_Mo_shapes 88 rfl) rfl rfl rfl ?_
            refine gi_iald (q := 140) C (dm_Mo_shapes 89 rfl) rfl rfl (mo_a13 H) (inN (show 60 * m + p < 480 by omega) (by decide)) ?_
            rw [nI_clamp (show 60 * m + p < 2 ^ 31 by omega)]
            rw [upA_n (by decide), g2]
            refine gi_put (q := 143) C (dm_Mo_shapes 90 rfl) rfl fl_Mo_193 fp_Mo_20 Ha (by rw [Hf.1]; decide) rfl rfl ?_
            refine gi_genM (H.putI Ha Hf (by decide) rfl) (ho.up (by omega) (by omega)) (fun y H ho => ?_)
            obtain ⟨fs, Ha, Hf⟩ := id H.1
            refine gi_aload_n (q := 144) (i := 0) C (dm_Mo_shapes 91 rfl) rfl rfl rfl ?_
            refine gi_iconst (q := 145) (v := 0) C (dm_Mo_shapes 92 rfl) rfl (by decide) ?_
            refine gi_put (q := 148) C (dm_Mo_shapes 93 rfl) rfl fl_Mo_196 fp_Mo_21 Ha (by rw [Hf.1]; decide) rfl rfl ?_
            refine gi_genM (H.putI Ha Hf (by decide) rfl) (ho.up (by omega) (by omega)) (fun y H ho => ?_)
            obtain ⟨fs, Ha, Hf⟩ := id H.1
            have sh0 : shR (upS (upS (upS Sy 19 (nI x.1)) 20 (nI x.2)) 21 0) x false := ⟨rfl, rfl, rfl, by omega, xo⟩
            have pf0 : prF P (upA Fy 14 (upd (Fy 14) (60 * m + p) 1)) := fun j j1 j2 => by
              rw [upA_n (by omega)]
              exact hP5 j j1 j2
            refine gi_aload_n (q := 149) (i := 0) C (dm_Mo_shapes 94 rfl) rfl rfl rfl ?_
            refine gi_iload_n (q := 150) (i := 1) C (dm_Mo_shapes 95 rfl) rfl rfl rfl ?_
            refine gi_aload_n (q := 151) (i := 0) C (dm_Mo_shapes 96 rfl) rfl rfl rfl ?_
            refine gi_get (q := 154) C (dm_Mo_shapes 97 rfl) rfl fl_Mo_25 Ha (mo_g6 Hf) ?_
            refine gi_iload_n (q := 155) (i := 3) C (dm_Mo_shapes 98 rfl) rfl rfl rfl ?_
            refine gi_iald (q := 156) C (dm_Mo_shapes 99 rfl) rfl rfl (mo_a6 H) (inN (show 60 * m + p < 480 by omega) (by decide)) ?_
            rw [nI_clamp (show 60 * m + p < 2 ^ 31 by omega)]
            rw [pf0 6 (by decide) (by decide), eop.1]
            refine gi_aload_n (q := 157) (i := 0) C (dm_Mo_shapes 100 rfl) rfl rfl rfl ?_
            refine gi_get (q := 160) C (dm_Mo_shapes 101 rfl) rfl fl_Mo_28 Ha (mo_g7 Hf) ?_
            refine gi_iload_n (q := 161) (i := 3) C (dm_Mo_shapes 102 rfl) rfl rfl rfl ?_
            refine gi_iald (q := 162) C (dm_Mo_shapes 103 rfl) rfl rfl (mo_a7 H) (inN (show 60 * m + p < 480 by omega) (by decide)) ?_
            rw [nI_clamp (show 60 * m + p < 2 ^ 31 by omega)]
            rw [pf0 7 (by decide) (by decide)]
            refine gi_callv 3 (q := 165) C (dm_Mo_shapes 104 rfl) rfl my_Mo_shape lk_Mo_232 im_Mo_shape rfl (c_Mo_shape (op := pN P 6 (60 * m + p)) (a := pN P 7 (60 * m + p)) W hm eop.2 pf0 x8 (fun q => ⟨(hpn (od.1 q).1).1, by have := (od.1 q).2; have := (hpn (od.1 q).1).2; omega⟩) (fun q => ⟨(hpn (od.2.2.1 q).1).1, by have := (od.2.2.1 q).2; have := (hpn (od.2.2.1 q).1).2; omega⟩) sh0 H) Ha rfl rfl ⟨(Nat.le_of_ble_eq_true rfl), (Nat.le_of_ble_eq_true rfl)⟩ (Nat.le_of_ble_eq_true rfl) ⟨(Nat.le_of_ble_eq_true rfl), (Nat.le_of_ble_eq_true rfl)⟩ (fun r162 n162 h162 e162 => ?_)
            obtain ⟨rfl, rfl, S2, H2, o2, r2, f2⟩ := e162
            obtain ⟨fs2, Ha2, Hf2⟩ := id H2.1
            have so := shX_o (P := P) (m := m) (op := pN P 6 (60 * m + p)) (a := pN P 7 (60 * m + p)) xo
            obtain ⟨z, ez⟩ : ∃ z, z = shX P m (pN P 6 (60 * m + p)) (pN P 7 (60 * m + p)) x := ⟨_, rfl⟩
            rw [← ez] at so r2
            have oo := ho.tr o2
            have fr2 : frS S S2 := fun j j1 j2 j3 => by
              rw [f2 j j1 j2 j3]
              unfold upS
              rw [if_neg j3, if_neg j2, if_neg j1]
              exact ys j j1 j2 j3
            have fq2 : frQ m F (upA Fy 14 (upd (Fy 14) (60 * m + p) 1)) := by
              refine ⟨fun a a1 a2 a3 => ?_, fun a q hq => ?_⟩
              · rw [upA_n a3]
                exact yq.1 a a1 a2 a3
              · by_cases u : a = 14
                · subst u
                  rw [upA_i, upd_is, if_neg (by omega)]
                  exact yq.2 14 q hq
                · rw [upA_n u]
                  exact yq.2 a q hq
            have rS2 : rpS P m Z.1 (shf (upA Fy 14 (upd (Fy 14) (60 * m + p) 1))) := yrS
            have hP2 := fq2.p hP
            refine gi_aload_n (q := 166) (i := 0) C (dm_Mo_shapes 105 rfl) rfl rfl rfl ?_
            refine gi_get (q := 169) C (dm_Mo_shapes 106 rfl) rfl fl_Mo_196 Ha2 (mo_g21 Hf2) ?_
            refine gi_if_eq (q := 172) (tgt := 180) C (dm_Mo_shapes 107 rfl) rfl (by decide) (fun c169 => ?_) (fun c169 => ?_)
            · refine gi_aload_n (q := 181) (i := 0) C (dm_Mo_shapes 114 rfl) rfl rfl rfl ?_
              refine gi_get (q := 184) C (dm_Mo_shapes 115 rfl) rfl fl_Mo_190 Ha2 (mo_g19 Hf2) ?_
              refine gi_bipush (q := 186) (v := 8) C (dm_Mo_shapes 116 rfl) rfl (by decide) ?_
              refine gi_icmp_le (q := 189) (tgt := 197) C (dm_Mo_shapes 117 rfl) rfl (by decide) (fun c186 => ?_) (fun c186 => ?_)
              · have zw : z.2 = false := by
                  rw [r2.2.2.1] at c169
                  exact bI_fa c169
                have ey := so.1 zw
                have y8 : z.1.1 ≤ 8 := by
                  rw [r2.1] at c186
                  have q := c186
                  rw [show (8 : Int32) = nI 8 from rfl, nI_leP (by have := r2.2.2.2.1; omega) (by decide)] at q
                  exact q
                have rr : shR S2 z.1 false := ⟨r2.1, r2.2.1, by rw [r2.2.2.1, zw], r2.2.2.2.1, r2.2.2.2.2⟩
                have lx : lkX P m p x Z.1 = cm12 P m p z.1 Z.1 := by
                  unfold lkX
                  rw [ey]
                  dsimp only
                  rw [if_neg (by omega)]
                refine gi_aload_n (q := 198) (i := 0) C (dm_Mo_shapes 124 rfl) rfl rfl rfl ?_
                refine gi_get (q := 201) C (dm_Mo_shapes 125 rfl) rfl fl_Mo_25 Ha2 (mo_g6 Hf2) ?_
                refine gi_iload_n (q := 202) (i := 3) C (dm_Mo_shapes 126 rfl) rfl rfl rfl ?_
                refine gi_iald (q := 203) C (dm_Mo_shapes 127 rfl) rfl rfl (mo_a6 H2) (inN (show 60 * m + p < 480 by omega) (by decide)) ?_
                rw [nI_clamp (show 60 * m + p < 2 ^ 31 by omega)]
                rw [hP2 6 (by decide) (by decide), eop.1]
                refine gi_calls 1 (q := 206) C (dm_Mo_shapes 128 rfl) rfl my_Mo_goesOn lk_Mo_236 sm_Mo_goesOn (c_Mo_goesOn (pN P 6 (60 * m + p)) eop.2) rfl rfl ⟨(Nat.le_of_ble_eq_true rfl), (Nat.le_of_ble_eq_true rfl)⟩ (Nat.le_of_ble_eq_true rfl) ⟨(Nat.le_of_ble_eq_true rfl), (Nat.le_of_ble_eq_true rfl)⟩ (fun r203 n203 h203 e203 => ?_)
                obtain ⟨rfl, q203, u203⟩ := e203
                rw [q203, u203]
                refine gi_if_eq (q := 209) (tgt := 221) C (dm_Mo_shapes 129 rfl) rfl (by decide) (fun c206 => ?_) (fun c206 => ?_)
                · have on : ¬ (pN P 6 (60 * m + p) ≠ 19 ∧ pN P 6 (60 * m + p) ≠ 33) := fun z9 => by
                    have q := bI_fa c206
                    rw [decide_eq_true z9.1, decide_eq_true z9.2] at q
                    cases q
                  refine gi_iconst (q := 222) (v := 0) C (dm_Mo_shapes 138 rfl) rfl (by decide) ?_
                  refine gi_istore (q := 224) C (dm_Mo_shapes 139 rfl) rfl (Nat.le_of_ble_eq_true rfl) ?_
                  refine gi_iload (q := 226) C (dm_Mo_shapes 140 rfl) rfl rfl ?_
                  refine gi_if_ne (q := 229) (tgt := 256) C (dm_Mo_shapes 141 rfl) rfl (by decide) (fun c226 => ?_) (fun c226 => ?_)
                  · exact absurd rfl c226
                  · refine gi_aload_n (q := 230) (i := 0) C (dm_Mo_shapes 142 rfl) rfl rfl rfl ?_
                    refine gi_get (q := 233) C (dm_Mo_shapes 143 rfl) rfl fl_Mo_25 Ha2 (mo_g6 Hf2) ?_
                    refine gi_iload_n (q := 234) (i := 3) C (dm_Mo_shapes 144 rfl) rfl rfl rfl ?_
                    refine gi_iald (q := 235) C (dm_Mo_shapes 145 rfl) rfl rfl (mo_a6 H2) (inN (show 60 * m + p < 480 by omega) (by decide)) ?_
                    rw [nI_clamp (show 60 * m + p < 2 ^ 31 by omega), hP2 6 (by decide) (by decide), eop.1]
                    refine gi_calls 1 (q := 238) C (dm_Mo_shapes 146 rfl) rfl my_Mo_goesTo lk_Mo_214 sm_Mo_goesTo (c_Mo_goesTo (pN P 6 (60 * m + p)) eop.2) rfl rfl ⟨(Nat.le_of_ble_eq_true rfl), (Nat.le_of_ble_eq_true rfl)⟩ (Nat.le_of_ble_eq_true rfl) ⟨(Nat.le_of_ble_eq_true rfl), (Nat.le_of_ble_eq_true rfl)⟩ (fun r235 n235 h235 e235 => ?_)
                    obtain ⟨rfl, q235, u235⟩ := e235
                    rw [q235, u235]
                    refine gi_if_eq (q := 241) (tgt := 256) C (dm_Mo_shapes 147 rfl) rfl (by decide) (fun c238 => ?_) (fun c238 => ?_)
                    · have tj : ¬ (19 ≤ pN P 6 (60 * m + p) ∧ pN P 6 (60 * m + p) ≤ 27) := fun z9 => by
                        have q := bI_fa c238
                        rw [decide_eq_true z9.1, decide_eq_true z9.2] at q
                        cases q
                      refine gi_iload (q := 258) C (dm_Mo_shapes 157 rfl) rfl rfl ?_
                      refine gi_istore (q := 260) C (dm_Mo_shapes 158 rfl) rfl (Nat.le_of_ble_eq_true rfl) ?_
                      refine gi_iload (q := 262) C (dm_Mo_shapes 159 rfl) rfl rfl ?_
                      refine gi_if_eq (q := 265) (tgt := 268) C (dm_Mo_shapes 160 rfl) rfl (by decide) (fun c262 => ?_) (fun c262 => ?_)
                      · refine gi_iconst (q := 269) (v := 0) C (dm_Mo_shapes 163 rfl) rfl (by decide) ?_
                        refine gi_istore_n (q := 270) (i := 2) C (dm_Mo_shapes 164 rfl) rfl rfl (Nat.le_of_ble_eq_true rfl) ?_
                        refine gi_goto (tgt := 75) C (dm_Mo_shapes 165 rfl) (by decide) ?_
                        have lk2 : lkX P m p x Z.1 = .inr Z.1 := by
                          rw [lx]
                          unfold cm12
                          rw [show cm1 P m p z.1 Z.1 = .inr Z.1 from by unfold cm1; rw [if_neg on]]
                          dsimp only
                          unfold cm2
                          rw [if_neg tj]
                        have LK : lkS P m p Z = .inr (Z.1, upO Z.2 (60 * m + p) true) := by rw [lkS_eq ex, lk2]
                        obtain ⟨hi2, hz2⟩ := lkS_in W hm hi LK (by rw [ex]; rfl)
                        have cn2 := cnU_lt (P := P) (m := m) (Z' := (Z.1, upO Z.2 (60 * m + p) true)) pl zf rfl
                        refine gi_close (ih (0, f', (Z.1, upO Z.2 (60 * m + p) true)) _ ⟨Nat.zero_le _, ⟨_, _, H2, oo, fq2, fr2, rS2, fun j hj => ?_⟩, hi2, by show cnU P m (Z.1, upO Z.2 (60 * m + p) true) ≤ f'; omega, lp_in hlp nx ex lk2, fun j hj => absurd hj (Nat.not_lt_zero _)⟩ (by dsimp only; omega)) (List.forall_mem_cons.mpr ⟨rfl, List.forall_mem_cons.mpr ⟨rfl, List.forall_mem_cons.mpr ⟨rfl, fun _ h => absurd h List.not_mem_nil⟩⟩⟩) rfl rfl rfl
                        show (upA Fy 14 (upd (Fy 14) (60 * m + p) 1)) 14 (60 * m + j) = bI (upO Z.2 (60 * m + p) true (60 * m + j))
                        rw [upA_i, upd_is]
                        by_cases u : j = p
                        · rw [if_pos (by omega), u, upO_self]; rfl
                        · rw [if_neg (by omega), upO_ne (by omega)]
                          exact yrL j hj
                      · exact absurd rfl c262
                    · have tj : 19 ≤ pN P 6 (60 * m + p) ∧ pN P 6 (60 * m + p) ≤ 27 := by
                        have q := bI_t c238
                        rw [Bool.and_eq_true, decide_eq_true_iff, decide_eq_true_iff] at q
                        exact q
                      have j7 := hpn (od.2.1 tj).1
                      have j8 : pN P 7 (60 * m + p) < pN P 5 m := by
                        have q := (od.2.1 tj).2
                        omega
                      refine gi_aload_n (q := 242) (i := 0) C (dm_Mo_shapes 148 rfl) rfl rfl rfl ?_
                      refine gi_iload_n (q := 243) (i := 1) C (dm_Mo_shapes 149 rfl) rfl rfl rfl ?_
                      refine gi_iload_n (q := 244) (i := 2) C (dm_Mo_shapes 150 rfl) rfl rfl rfl ?_
                      refine gi_aload_n (q := 245) (i := 0) C (dm_Mo_shapes 151 rfl) rfl rfl rfl ?_
                      refine gi_get (q := 248) C (dm_Mo_shapes 152 rfl) rfl fl_Mo_28 Ha2 (mo_g7 Hf2) ?_
                      refine gi_iload_n (q := 249) (i := 3) C (dm_Mo_shapes 153 rfl) rfl rfl rfl ?_
                      refine gi_iald (q := 250) C (dm_Mo_shapes 154 rfl) rfl rfl (mo_a7 H2) (inN (show 60 * m + p < 480 by omega) (by decide)) ?_
                      rw [nI_clamp (show 60 * m + p < 2 ^ 31 by omega), hP2 7 (by decide) (by decide), j7.1]
                      refine gi_callv 3 (q := 253) C (dm_Mo_shapes 155 rfl) rfl my_Mo_comes lk_Mo_239 im_Mo_comes rfl (c_Mo_comes (i := p) (t := pN P 7 (60 * m + p)) W hm (by omega) hP2 rr y8 hi.s8 rS2 H2) Ha2 rfl rfl ⟨(Nat.le_of_ble_eq_true rfl), (Nat.le_of_ble_eq_true rfl)⟩ (Nat.le_of_ble_eq_true rfl) ⟨(Nat.le_of_ble_eq_true rfl), (Nat.le_of_ble_eq_true rfl)⟩ (fun r250 n250 h250 e250 => ?_)
                      obtain ⟨rfl, S250, F250, H250, o250, e250⟩ := e250
                      rcases e250 with ⟨q250, a250, b250, c250', d250, u250, w250⟩ | ⟨s250, a250, d250, u250, b250, c250', w250⟩
                      all_goals subst d250
                      all_goals subst u250
                      · refine gi_goto (tgt := 258) C (dm_Mo_shapes 156 rfl) (by decide) ?_
                        refine gi_istore (q := 260) C (dm_Mo_shapes 158 rfl) rfl (Nat.le_of_ble_eq_true rfl) ?_
                        refine gi_iload (q := 262) C (dm_Mo_shapes 159 rfl) rfl rfl ?_
                        refine gi_if_eq (q := 265) (tgt := 268) C (dm_Mo_shapes 160 rfl) rfl (by decide) (fun c262 => ?_) (fun c262 => ?_)
                        · exact absurd c262 (ng_nz c250' b250)
                        · refine gi_iload (q := 267) C (dm_Mo_shapes 161 rfl) rfl rfl ?_
                          refine gi_iret C hr (dm_Mo_shapes 162 rfl) ?_
                          refine ⟨rfl, _, _, H250, (oo).tr o250, (by rw [w250]; exact fq2), fun j j1 j2 j3 j4 j5 => ?_, Or.inl ⟨(q250, m, p), ms_in hl hlp nx ex ?_, rfl, rfl, rfl, b250, c250'⟩⟩
                          · unfold flR2 upS
                            rw [if_neg j2, if_neg j1]
                            exact fr2 j j3 j4 j5
                          · rw [lx]
                            unfold cm12
                            rw [show cm1 P m p z.1 Z.1 = .inr Z.1 from by unfold cm1; rw [if_neg on]]
                            dsimp only
                            unfold cm2
                            rw [if_pos tj]
                            exact a250
                      · refine gi_goto (tgt := 258) C (dm_Mo_shapes 156 rfl) (by decide) ?_
                        refine gi_istore (q := 260) C (dm_Mo_shapes 158 rfl) rfl (Nat.le_of_ble_eq_true rfl) ?_
                        refine gi_iload (q := 262) C (dm_Mo_shapes 159 rfl) rfl rfl ?_
                        refine gi_if_eq (q := 265) (tgt := 268) C (dm_Mo_shapes 160 rfl) rfl (by decide) (fun c262 => ?_) (fun c262 => ?_)
                        · refine gi_iconst (q := 269) (v := 0) C (dm_Mo_shapes 163 rfl) rfl (by decide) ?_
                          refine gi_istore_n (q := 270) (i := 2) C (dm_Mo_shapes 164 rfl) rfl rfl (Nat.le_of_ble_eq_true rfl) ?_
                          refine gi_goto (tgt := 75) C (dm_Mo_shapes 165 rfl) (by decide) ?_
                          have lk2 : lkX P m p x Z.1 = .inr s250 := by
                            rw [lx]
                            unfold cm12
                            rw [show cm1 P m p z.1 Z.1 = .inr Z.1 from by unfold cm1; rw [if_neg on]]
                            dsimp only
                            unfold cm2
                            rw [if_pos tj]
                            exact a250
                          have LK : lkS P m p Z = .inr (s250, upO Z.2 (60 * m + p) true) := by rw [lkS_eq ex, lk2]
                          obtain ⟨hi2, hz2⟩ := lkS_in W hm hi LK (by rw [ex]; rfl)
                          have cn2 := cnU_lt (P := P) (m := m) (Z' := (s250, upO Z.2 (60 * m + p) true)) pl zf rfl
                          refine gi_close (ih (0, f', (s250, upO Z.2 (60 * m + p) true)) _ ⟨Nat.zero_le _, ⟨_, _, H250, (oo).tr o250, (fq2).tr c250', fr2, b250, fun j hj => ?_⟩, hi2, by show cnU P m (s250, upO Z.2 (60 * m + p) true) ≤ f'; omega, lp_in hlp nx ex lk2, fun j hj => absurd hj (Nat.not_lt_zero _)⟩ (by dsimp only; omega)) (List.forall_mem_cons.mpr ⟨rfl, List.forall_mem_cons.mpr ⟨rfl, List.forall_mem_cons.mpr ⟨rfl, fun _ h => absurd h List.not_mem_nil⟩⟩⟩) rfl rfl rfl
                          show F250 14 (60 * m + j) = bI (upO Z.2 (60 * m + p) true (60 * m + j))
                          rw [w250]
                          rw [upA_i, upd_is]
                          by_cases u : j = p
                          · rw [if_pos (by omega), u, upO_self]; rfl
                          · rw [if_neg (by omega), upO_ne (by omega)]
                            exact yrL j hj
                        · exact absurd rfl c262
                · have on : pN P 6 (60 * m + p) ≠ 19 ∧ pN P 6 (60 * m + p) ≠ 33 := by
                    have q := bI_t c206
                    rw [Bool.and_eq_true, decide_eq_true_iff, decide_eq_true_iff] at q
                    exact q
                  refine gi_aload_n (q := 210) (i := 0) C (dm_Mo_shapes 130 rfl) rfl rfl rfl ?_
                  refine gi_iload_n (q := 211) (i := 1) C (dm_Mo_shapes 131 rfl) rfl rfl rfl ?_
                  refine gi_iload_n (q := 212) (i := 2) C (dm_Mo_shapes 132 rfl) rfl rfl rfl ?_
                  refine gi_iload_n (q := 213) (i := 2) C (dm_Mo_shapes 133 rfl) rfl rfl rfl ?_
                  refine gi_iconst (q := 214) (v := 1) C (dm_Mo_shapes 134 rfl) rfl (by decide) ?_
                  refine gi_iadd (q := 215) C (dm_Mo_shapes 135 rfl) rfl ?_
                  rw [nI_1]
                  refine gi_callv 3 (q := 218) C (dm_Mo_shapes 136 rfl) rfl my_Mo_comes lk_Mo_239 im_Mo_comes rfl (c_Mo_comes (i := p) (t := p + 1) W hm (by omega) hP2 rr y8 hi.s8 rS2 H2) Ha2 rfl rfl ⟨(Nat.le_of_ble_eq_true rfl), (Nat.le_of_ble_eq_true rfl)⟩ (Nat.le_of_ble_eq_true rfl) ⟨(Nat.le_of_ble_eq_true rfl), (Nat.le_of_ble_eq_true rfl)⟩ (fun r215 n215 h215 e215 => ?_)
                  obtain ⟨rfl, S215, F215, H215, o215, e215⟩ := e215
                  rcases e215 with ⟨q215, a215, b215, c215', d215, u215, w215⟩ | ⟨s215, a215, d215, u215, b215, c215', w215⟩
                  all_goals subst d215
                  all_goals subst u215
                  · refine gi_goto (tgt := 222) C (dm_Mo_shapes 137 rfl) (by decide) ?_
                    refine gi_istore (q := 224) C (dm_Mo_shapes 139 rfl) rfl (Nat.le_of_ble_eq_true rfl) ?_
                    refine gi_iload (q := 226) C (dm_Mo_shapes 140 rfl) rfl rfl ?_
                    refine gi_if_ne (q := 229) (tgt := 256) C (dm_Mo_shapes 141 rfl) rfl (by decide) (fun c226 => ?_) (fun c226 => ?_)
                    · refine gi_iload (q := 258) C (dm_Mo_shapes 157 rfl) rfl rfl ?_
                      refine gi_istore (q := 260) C (dm_Mo_shapes 158 rfl) rfl (Nat.le_of_ble_eq_true rfl) ?_
                      refine gi_iload (q := 262) C (dm_Mo_shapes 159 rfl) rfl rfl ?_
                      refine gi_if_eq (q := 265) (tgt := 268) C (dm_Mo_shapes 160 rfl) rfl (by decide) (fun c262 => ?_) (fun c262 => ?_)
                      · exact absurd c262 (ng_nz c215' b215)
                      · refine gi_iload (q := 267) C (dm_Mo_shapes 161 rfl) rfl rfl ?_
                        refine gi_iret C hr (dm_Mo_shapes 162 rfl) ?_
                        refine ⟨rfl, _, _, H215, oo.tr o215, (by rw [w215]; exact fq2), fun j j1 j2 j3 j4 j5 => ?_, Or.inl ⟨(q215, m, p), ms_in hl hlp nx ex ?_, rfl, rfl, rfl, b215, c215'⟩⟩
                        · unfold flR2 upS
                          rw [if_neg j2, if_neg j1]
                          exact fr2 j j3 j4 j5
                        · rw [lx]
                          unfold cm12
                          rw [show cm1 P m p z.1 Z.1 = .inl (q215, m, p) from by unfold cm1; rw [if_pos on]; exact a215]
                    · exact absurd c226 (ng_nz c215' b215)
                  · obtain ⟨fs215, Ha215, Hf215⟩ := id H215.1
                    have hP3 := (fq2.tr c215').p hP
                    have h83 : ∀ q v, s215 q = some v → v.1 ≤ 8 ∧ v.2 < 2 ^ v.1 := fun q v hv => by
                      have k9 := cmS_in W hm y8 r2.2.2.2.2 hi.1 a215
                      obtain ⟨_, _, _, _, _, h5, h6⟩ := k9.2.2.2 q v hv
                      exact ⟨h5, h6⟩
                    refine gi_goto (tgt := 222) C (dm_Mo_shapes 137 rfl) (by decide) ?_
                    refine gi_istore (q := 224) C (dm_Mo_shapes 139 rfl) rfl (Nat.le_of_ble_eq_true rfl) ?_
                    refine gi_iload (q := 226) C (dm_Mo_shapes 140 rfl) rfl rfl ?_
                    refine gi_if_ne (q := 229) (tgt := 256) C (dm_Mo_shapes 141 rfl) rfl (by decide) (fun c226 => ?_) (fun c226 => ?_)
                    · exact absurd rfl c226
                    · refine gi_aload_n (q := 230) (i := 0) C (dm_Mo_shapes 142 rfl) rfl rfl rfl ?_
                      refine gi_get (q := 233) C (dm_Mo_shapes 143 rfl) rfl fl_Mo_25 Ha215 (mo_g6 Hf215) ?_
                      refine gi_iload_n (q := 234) (i := 3) C (dm_Mo_shapes 144 rfl) rfl rfl rfl ?_
                      refine gi_iald (q := 235) C (dm_Mo_shapes 145 rfl) rfl rfl (mo_a6 H215) (inN (show 60 * m + p < 480 by omega) (by decide)) ?_
                      rw [nI_clamp (show 60 * m + p < 2 ^ 31 by omega), hP3 6 (by decide) (by decide), eop.1]
                      refine gi_calls 1 (q := 238) C (dm_Mo_shapes 146 rfl) rfl my_Mo_goesTo lk_Mo_214 sm_Mo_goesTo (c_Mo_goesTo (pN P 6 (60 * m + p)) eop.2) rfl rfl ⟨(Nat.le_of_ble_eq_true rfl), (Nat.le_of_ble_eq_true rfl)⟩ (Nat.le_of_ble_eq_true rfl) ⟨(Nat.le_of_ble_eq_true rfl), (Nat.le_of_ble_eq_true rfl)⟩ (fun r235 n235 h235 e235 => ?_)
                      obtain ⟨rfl, q235, u235⟩ := e235
                      rw [q235, u235]
                      refine gi_if_eq (q := 241) (tgt := 256) C (dm_Mo_shapes 147 rfl) rfl (by decide) (fun c238 => ?_) (fun c238 => ?_)
                      · have tj : ¬ (19 ≤ pN P 6 (60 * m + p) ∧ pN P 6 (60 * m + p) ≤ 27) := fun z9 => by
                          have q := bI_fa c238
                          rw [decide_eq_true z9.1, decide_eq_true z9.2] at q
                          cases q
                        refine gi_iload (q := 258) C (dm_Mo_shapes 157 rfl) rfl rfl ?_
                        refine gi_istore (q := 260) C (dm_Mo_shapes 158 rfl) rfl (Nat.le_of_ble_eq_true rfl) ?_
                        refine gi_iload (q := 262) C (dm_Mo_shapes 159 rfl) rfl rfl ?_
                        refine gi_if_eq (q := 265) (tgt := 268) C (dm_Mo_shapes 160 rfl) rfl (by decide) (fun c262 => ?_) (fun c262 => ?_)
                        · refine gi_iconst (q := 269) (v := 0) C (dm_Mo_shapes 163 rfl) rfl (by decide) ?_
                          refine gi_istore_n (q := 270) (i := 2) C (dm_Mo_shapes 164 rfl) rfl rfl (Nat.le_of_ble_eq_true rfl) ?_
                          refine gi_goto (tgt := 75) C (dm_Mo_shapes 165 rfl) (by decide) ?_
                          have lk2 : lkX P m p x Z.1 = .inr s215 := by
                            rw [lx]
                            unfold cm12
                            rw [show cm1 P m p z.1 Z.1 = .inr s215 from by unfold cm1; rw [if_pos on]; exact a215]
                            dsimp only
                            unfold cm2
                            rw [if_neg tj]
                          have LK : lkS P m p Z = .inr (s215, upO Z.2 (60 * m + p) true) := by rw [lkS_eq ex, lk2]
                          obtain ⟨hi2, hz2⟩ := lkS_in W hm hi LK (by rw [ex]; rfl)
                          have cn2 := cnU_lt (P := P) (m := m) (Z' := (s215, upO Z.2 (60 * m + p) true)) pl zf rfl
                          refine gi_close (ih (0, f', (s215, upO Z.2 (60 * m + p) true)) _ ⟨Nat.zero_le _, ⟨_, _, H215, oo.tr o215, fq2.tr c215', fr2, b215, fun j hj => ?_⟩, hi2, by show cnU P m (s215, upO Z.2 (60 * m + p) true) ≤ f'; omega, lp_in hlp nx ex lk2, fun j hj => absurd hj (Nat.not_lt_zero _)⟩ (by dsimp only; omega)) (List.forall_mem_cons.mpr ⟨rfl, List.forall_mem_cons.mpr ⟨rfl, List.forall_mem_cons.mpr ⟨rfl, fun _ h => absurd h List.not_mem_nil⟩⟩⟩) rfl rfl rfl
                          show F215 14 (60 * m + j) = bI (upO Z.2 (60 * m + p) true (60 * m + j))
                          rw [w215]
                          rw [upA_i, upd_is]
                          by_cases u : j = p
                          · rw [if_pos (by omega), u, upO_self]; rfl
                          · rw [if_neg (by omega), upO_ne (by omega)]
                            exact yrL j hj
                        · exact absurd rfl c262
                      · have tj : 19 ≤ pN P 6 (60 * m + p) ∧ pN P 6 (60 * m + p) ≤ 27 := by
                          have q := bI_t c238
                          rw [Bool.and_eq_true, decide_eq_true_iff, decide_eq_true_iff] at q
                          exact q
                        have j7 := hpn (od.2.1 tj).1
                        have j8 : pN P 7 (60 * m + p) < pN P 5 m := by
                          have q := (od.2.1 tj).2
                          omega
                        refine gi_aload_n (q := 242) (i := 0) C (dm_Mo_shapes 148 rfl) rfl rfl rfl ?_
                        refine gi_iload_n (q := 243) (i := 1) C (dm_Mo_shapes 149 rfl) rfl rfl rfl ?_
                        refine gi_iload_n (q := 244) (i := 2) C (dm_Mo_shapes 150 rfl) rfl rfl rfl ?_
                        refine gi_aload_n (q := 245) (i := 0) C (dm_Mo_shapes 151 rfl) rfl rfl rfl ?_
                        refine gi_get (q := 248) C (dm_Mo_shapes 152 rfl) rfl fl_Mo_28 Ha215 (mo_g7 Hf215) ?_
                        refine gi_iload_n (q := 249) (i := 3) C (dm_Mo_shapes 153 rfl) rfl rfl rfl ?_
                        refine gi_iald (q := 250) C (dm_Mo_shapes 154 rfl) rfl rfl (mo_a7 H215) (inN (show 60 * m + p < 480 by omega) (by decide)) ?_
                        rw [nI_clamp (show 60 * m + p < 2 ^ 31 by omega), hP3 7 (by decide) (by decide), j7.1]
                        refine gi_callv 3 (q := 253) C (dm_Mo_shapes 155 rfl) rfl my_Mo_comes lk_Mo_239 im_Mo_comes rfl (c_Mo_comes (i := p) (t := pN P 7 (60 * m + p)) W hm (by omega) hP3 rr y8 h83 b215 H215) Ha215 rfl rfl ⟨(Nat.le_of_ble_eq_true rfl), (Nat.le_of_ble_eq_true rfl)⟩ (Nat.le_of_ble_eq_true rfl) ⟨(Nat.le_of_ble_eq_true rfl), (Nat.le_of_ble_eq_true rfl)⟩ (fun r250 n250 h250 e250 => ?_)
                        obtain ⟨rfl, S250, F250, H250, o250, e250⟩ := e250
                        rcases e250 with ⟨q250, a250, b250, c250', d250, u250, w250⟩ | ⟨s250, a250, d250, u250, b250, c250', w250⟩
                        all_goals subst d250
                        all_goals subst u250
                        · refine gi_goto (tgt := 258) C (dm_Mo_shapes 156 rfl) (by decide) ?_
                          refine gi_istore (q := 260) C (dm_Mo_shapes 158 rfl) rfl (Nat.le_of_ble_eq_true rfl) ?_
                          refine gi_iload (q := 262) C (dm_Mo_shapes 159 rfl) rfl rfl ?_
                          refine gi_if_eq (q := 265) (tgt := 268) C (dm_Mo_shapes 160 rfl) rfl (by decide) (fun c262 => ?_) (fun c262 => ?_)
                          · exact absurd c262 (ng_nz c250' b250)
                          · refine gi_iload (q := 267) C (dm_Mo_shapes 161 rfl) rfl rfl ?_
                            refine gi_iret C hr (dm_Mo_shapes 162 rfl) ?_
                            refine ⟨rfl, _, _, H250, (oo.tr o215).tr o250, (by rw [w250]; exact fq2.tr c215'), fun j j1 j2 j3 j4 j5 => ?_, Or.inl ⟨(q250, m, p), ms_in hl hlp nx ex ?_, rfl, rfl, rfl, b250, c250'⟩⟩
                            · unfold flR2 upS
                              rw [if_neg j2, if_neg j1]
                              exact fr2 j j3 j4 j5
                            · rw [lx]
                              unfold cm12
                              rw [show cm1 P m p z.1 Z.1 = .inr s215 from by unfold cm1; rw [if_pos on]; exact a215]
                              dsimp only
                              unfold cm2
                              rw [if_pos tj]
                              exact a250
                        · refine gi_goto (tgt := 258) C (dm_Mo_shapes 156 rfl) (by decide) ?_
                          refine gi_istore (q := 260) C (dm_Mo_shapes 158 rfl) rfl (Nat.le_of_ble_eq_true rfl) ?_
                          refine gi_iload (q := 262) C (dm_Mo_shapes 159 rfl) rfl rfl ?_
                          refine gi_if_eq (q := 265) (tgt := 268) C (dm_Mo_shapes 160 rfl) rfl (by decide) (fun c262 => ?_) (fun c262 => ?_)
                          · refine gi_iconst (q := 269) (v := 0) C (dm_Mo_shapes 163 rfl) rfl (by decide) ?_
                            refine gi_istore_n (q := 270) (i := 2) C (dm_Mo_shapes 164 rfl) rfl rfl (Nat.le_of_ble_eq_true rfl) ?_
                            refine gi_goto (tgt := 75) C (dm_Mo_shapes 165 rfl) (by decide) ?_
                            have lk2 : lkX P m p x Z.1 = .inr s250 := by
                              rw [lx]
                              unfold cm12
                              rw [show cm1 P m p z.1 Z.1 = .inr s215 from by unfold cm1; rw [if_pos on]; exact a215]
                              dsimp only
                              unfold cm2
                              rw [if_pos tj]
                              exact a250
                            have LK : lkS P m p Z = .inr (s250, upO Z.2 (60 * m + p) true) := by rw [lkS_eq ex, lk2]
                            obtain ⟨hi2, hz2⟩ := lkS_in W hm hi LK (by rw [ex]; rfl)
                            have cn2 := cnU_lt (P := P) (m := m) (Z' := (s250, upO Z.2 (60 * m + p) true)) pl zf rfl
                            refine gi_close (ih (0, f', (s250, upO Z.2 (60 * m + p) true)) _ ⟨Nat.zero_le _, ⟨_, _, H250, (oo.tr o215).tr o250, (fq2.tr c215').tr c250', fr2, b250, fun j hj => ?_⟩, hi2, by show cnU P m (s250, upO Z.2 (60 * m + p) true) ≤ f'; omega, lp_in hlp nx ex lk2, fun j hj => absurd hj (Nat.not_lt_zero _)⟩ (by dsimp only; omega)) (List.forall_mem_cons.mpr ⟨rfl, List.forall_mem_cons.mpr ⟨rfl, List.forall_mem_cons.mpr ⟨rfl, fun _ h => absurd h List.not_mem_nil⟩⟩⟩) rfl rfl rfl
                            show F250 14 (60 * m + j) = bI (upO Z.2 (60 * m + p) true (60 * m + j))
                            rw [w250]
                            rw [w215]
                            rw [upA_i, upd_is]
                            by_cases u : j = p
                            · rw [if_pos (by omega), u, upO_self]; rfl
                            · rw [if_neg (by omega), upO_ne (by omega)]
                              exact yrL j hj
                          · exact absurd rfl c262
              · refine gi_aload_n (q := 190) (i := 0) C (dm_Mo_shapes 118 rfl) rfl rfl rfl ?_
                refine gi_iconst (q := 191) (v := 3) C (dm_Mo_shapes 119 rfl) rfl (by decide) ?_
                refine gi_iload_n (q := 192) (i := 1) C (dm_Mo_shapes 120 rfl) rfl rfl rfl ?_
                refine gi_iload_n (q := 193) (i := 2) C (dm_Mo_shapes 121 rfl) rfl rfl rfl ?_
                refine gi_callv 3 (q := 196) C (dm_Mo_shapes 122 rfl) rfl my_Mo_fault lk_Mo_221 im_Mo_fault rfl (c_Mo_fault 3 m p H2) Ha2 rfl rfl ⟨(Nat.le_of_ble_eq_true rfl), (Nat.le_of_ble_eq_true rfl)⟩ (Nat.le_of_ble_eq_true rfl) ⟨(Nat.le_of_ble_eq_true rfl), (Nat.le_of_ble_eq_true rfl)⟩ (fun r193 n193 h193 e193 => ?_)
                obtain ⟨rfl, rfl, H193, o193⟩ := e193
                refine gi_iret C hr (dm_Mo_shapes 123 rfl) ?_
                refine ⟨rfl, _, _, H193, oo.tr o193, fq2, fun j j1 j2 j3 j4 j5 => ?_, Or.inl ⟨(3, m, p), ms_in hl hlp nx ex ?_, rfl, rfl, rfl, Nat.le_of_ble_eq_true rfl, Nat.le_of_ble_eq_true rfl⟩⟩
                · unfold upS
                  rw [if_neg j2, if_neg j1]
                  exact fr2 j j3 j4 j5
                · unfold lkX
                  have zw : z.2 = false := bI_fa (by rw [← r2.2.2.1]; exact c169)
                  rw [so.1 zw]
                  dsimp only
                  rw [if_pos (by
                    have q := c186
                    rw [r2.1, show (8 : Int32) = nI 8 from rfl, nI_leP (by have := r2.2.2.2.1; omega) (by decide)] at q
                    omega)]
            · refine gi_aload_n (q := 173) (i := 0) C (dm_Mo_shapes 108 rfl) rfl rfl rfl ?_
              refine gi_iconst (q := 174) (v := 2) C (dm_Mo_shapes 109 rfl) rfl (by decide) ?_
              refine gi_iload_n (q := 175) (i := 1) C (dm_Mo_shapes 110 rfl) rfl rfl rfl ?_
              refine gi_iload_n (q := 176) (i := 2) C (dm_Mo_shapes 111 rfl) rfl rfl rfl ?_
              refine gi_callv 3 (q := 179) C (dm_Mo_shapes 112 rfl) rfl my_Mo_fault lk_Mo_221 im_Mo_fault rfl (c_Mo_fault 2 m p H2) Ha2 rfl rfl ⟨(Nat.le_of_ble_eq_true rfl), (Nat.le_of_ble_eq_true rfl)⟩ (Nat.le_of_ble_eq_true rfl) ⟨(Nat.le_of_ble_eq_true rfl), (Nat.le_of_ble_eq_true rfl)⟩ (fun r176 n176 h176 e176 => ?_)
              obtain ⟨rfl, rfl, H176, o176⟩ := e176
              refine gi_iret C hr (dm_Mo_shapes 113 rfl) ?_
              refine ⟨rfl, _, _, H176, oo.tr o176, fq2, fun j j1 j2 j3 j4 j5 => ?_, Or.inl ⟨(2, m, p), ms_in hl hlp nx ex ?_, rfl, rfl, rfl, Nat.le_of_ble_eq_true rfl, Nat.le_of_ble_eq_true rfl⟩⟩
              · unfold upS
                rw [if_neg j2, if_neg j1]
                exact fr2 j j3 j4 j5
              · unfold lkX
                rw [so.2 (bI_t (by rw [← r2.2.2.1]; exact c169))]
          · have un : unl m Z p = false := by
              unfold unl
              first
                | (rw [show Z.1 (60 * m + p) = none from by
                    cases e : Z.1 (60 * m + p) with
                    | none => rfl
                    | some x =>
                      have g : Fy 12 (60 * m + p) = nI x.1 := (rs2 x e).1
                      rw [g] at c98
                      exact absurd c98 (Int32.not_lt.mpr (nI_le (a := 0) (Nat.zero_le _) (by have := (hi.s8 _ _ e).1; omega)))]
                   rfl)
                | (rw [bI_t (b := Z.2 (60 * m + p)) c107, Bool.not_true, Bool.and_false])
            refine gi_iinc (q := 113) (v := 1) C (dm_Mo_shapes 72 rfl) rfl rfl (by decide) (Nat.le_of_ble_eq_true rfl) ?_
            refine gi_goto (tgt := 75) C (dm_Mo_shapes 73 rfl) (by decide) ?_
            refine gi_close (ih (p + 1, f, Z) _ ⟨pl, ⟨Sy, Fy, Hy, yo, yq, ys, yrS, yrL⟩, hi, hf, hlp, fun j hj => ?_⟩ (by dsimp only; omega)) (List.forall_mem_cons.mpr ⟨(by simp [gi_look, nI_1]), List.forall_mem_cons.mpr ⟨rfl, List.forall_mem_cons.mpr ⟨rfl, fun _ h => absurd h List.not_mem_nil⟩⟩⟩) rfl rfl rfl
            by_cases z : j = p
            · rw [z]; exact un
            · exact al j (by omega)
    · refine gi_aload_n (q := 46) (i := 0) C (dm_Mo_shapes 28 rfl) rfl rfl rfl ?_
      refine gi_iconst (q := 47) (v := 4) C (dm_Mo_shapes 29 rfl) rfl (by decide) ?_
      refine gi_iload_n (q := 48) (i := 1) C (dm_Mo_shapes 30 rfl) rfl rfl rfl ?_
      refine gi_iconst (q := 49) (v := 0) C (dm_Mo_shapes 31 rfl) rfl (by decide) ?_
      refine gi_callv 3 (q := 52) C (dm_Mo_shapes 32 rfl) rfl my_Mo_fault lk_Mo_221 im_Mo_fault rfl (c_Mo_fault 4 m 0 H1) Ha1 rfl rfl ⟨(Nat.le_of_ble_eq_true rfl), (Nat.le_of_ble_eq_true rfl)⟩ (Nat.le_of_ble_eq_true rfl) ⟨(Nat.le_of_ble_eq_true rfl), (Nat.le_of_ble_eq_true rfl)⟩ (fun r49 n49 h49 e49 => ?_)
      obtain ⟨rfl, rfl, H49, o49⟩ := e49
      refine gi_iret C hr (dm_Mo_shapes 33 rfl) ?_
      have hl : pN P 5 m = 0 := by rw [← nI_z (by omega)]; exact c42
      refine ⟨rfl, _, _, H49, o1.tr o49, r1, fun j j1 j2 _ _ _ => ?_, Or.inl ⟨(4, m, 0), ?_, rfl, rfl, rfl, Nat.le_of_ble_eq_true rfl, Nat.le_of_ble_eq_true rfl⟩⟩
      · unfold upS
        rw [if_neg j2, if_neg j1]
      · unfold meS
        rw [if_pos hl]
  · have jl : j < 60 := by
      rcases Nat.lt_or_ge j 60 with q | q
      · exact q
      · exact absurd (nI_le (show 60 * m + 60 ≤ 60 * m + j by omega) (by omega)) c13
    refine gi_aload_n (q := 17) (i := 0) C (dm_Mo_shapes 11 rfl) rfl rfl rfl ?_
    refine gi_get (q := 20) C (dm_Mo_shapes 12 rfl) rfl fl_Mo_38 Ha1 (mo_g12 Hf1) ?_
    refine gi_iload_n (q := 21) (i := 2) C (dm_Mo_shapes 13 rfl) rfl rfl rfl ?_
    refine gi_iconst (q := 22) (v := -1) C (dm_Mo_shapes 14 rfl) rfl (by decide) ?_
    refine gi_iast (q := 23) C (dm_Mo_shapes 15 rfl) rfl rfl (mo_a12 H1) (inN (show 60 * m + j < 480 by omega) (by decide)) ?_
    refine gi_genM (H.setI (p := 7) (k := 12) (by decide) rfl rfl (by decide) rfl (by omega)) (ho.up (by omega) (by omega)) (fun y H ho => ?_)
    obtain ⟨fs, Ha, Hf⟩ := id H.1
    refine gi_aload_n (q := 24) (i := 0) C (dm_Mo_shapes 16 rfl) rfl rfl rfl ?_
    refine gi_get (q := 27) C (dm_Mo_shapes 17 rfl) rfl fl_Mo_44 Ha (mo_g14 Hf) ?_
    refine gi_iload_n (q := 28) (i := 2) C (dm_Mo_shapes 18 rfl) rfl rfl rfl ?_
    refine gi_iconst (q := 29) (v := 0) C (dm_Mo_shapes 19 rfl) rfl (by decide) ?_
    refine gi_zast (q := 30) C (dm_Mo_shapes 20 rfl) rfl rfl (mo_a14 H) (inN (show 60 * m + j < 480 by omega) (by decide)) ?_
    refine gi_genM (H.setI (p := 9) (k := 14) (by decide) rfl rfl (by decide) rfl (by omega)) (ho.up (by omega) (by omega)) (fun y H ho => ?_)
    obtain ⟨fs, Ha, Hf⟩ := id H.1
    refine gi_iinc (q := 33) (v := 1) C (dm_Mo_shapes 21 rfl) rfl rfl (by decide) (Nat.le_of_ble_eq_true rfl) ?_
    refine gi_goto (tgt := 5) C (dm_Mo_shapes 22 rfl) (by decide) ?_
    refine gi_close (ih (j + 1) _ ⟨jl, _, H, ho, ⟨fun a a1 a2 a3 => ?_, fun a p hp => ?_⟩, fun q hq => ⟨?_, ?_⟩⟩ (by omega)) (List.forall_mem_cons.mpr ⟨(congrArg (fun x => some (Value.int x)) (nI_1 _)), List.forall_mem_cons.mpr ⟨rfl, List.forall_mem_cons.mpr ⟨rfl, fun _ h => absurd h List.not_mem_nil⟩⟩⟩) rfl rfl rfl
    · rw [upA_n a3, upA_n a1]
      exact r1.1 a a1 a2 a3
    · by_cases z : a = 14
      · subst z
        rw [upA_i, nI_clamp (by omega), upd_is, if_neg (by omega), upA_n (by decide)]
        exact r1.2 14 p hp
      · rw [upA_n z]
        by_cases z2 : a = 12
        · subst z2
          rw [upA_i, nI_clamp (by omega), upd_is, if_neg (by omega)]
          exact r1.2 12 p hp
        · rw [upA_n z2]
          exact r1.2 a p hp
    · rw [upA_n (by decide), upA_i, nI_clamp (by omega), upd_is]
      by_cases z : q = j
      · rw [if_pos (by omega)]
      · rw [if_neg (by omega)]
        exact (c1 q (by omega)).1
    · rw [upA_i, nI_clamp (by omega), upd_is, upA_n (by decide)]
      by_cases z : q = j
      · rw [if_pos (by omega)]
        rfl
      · rw [if_neg (by omega)]
        exact (c1 q (by omega)).2
end RB6
