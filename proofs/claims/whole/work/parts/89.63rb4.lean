-- needs: 89.62
section RB4
variable {l : Launch} {V : gi_V} {n : Nat} {h h' : gi_H} {M k m i t : Nat} {s : Nat → Option Sh} {d : Sh} {P : Pm} {x : Sh} {b : Bool} {S S' : Nat → Int32} {J J' : Nat → Int64} {F : Nat → Nat → Int32} {G : Nat → Nat → Int64}
def shf (F : Nat → Nat → Int32) : Nat → Nat → Int32 := fun j => F (j + 6)
def frQ (m : Nat) (F F' : Nat → Nat → Int32) : Prop := (∀ j, j ≠ 12 → j ≠ 13 → j ≠ 14 → F' j = F j) ∧ ∀ j p, p < 60 * m ∨ 60 * m + 60 ≤ p → F' j p = F j p
theorem frQ.rf : frQ m F F := ⟨fun _ _ _ _ => rfl, fun _ _ _ => rfl⟩
theorem frQ.tr {F' F2 : Nat → Nat → Int32} (a : frQ m F F') (b : frQ m F' F2) : frQ m F F2 := ⟨fun j h1 h2 h3 => (b.1 j h1 h2 h3).trans (a.1 j h1 h2 h3), fun j p hp => (b.2 j p hp).trans (a.2 j p hp)⟩
theorem frQ.p {F' : Nat → Nat → Int32} (a : frQ m F F') (h : prF P F) : prF P F' := fun j h1 h2 => by rw [a.1 j (by omega) (by omega) (by omega)]; exact h j h1 h2
def flR2 (S : Nat → Int32) (m i : Nat) : Nat → Int32 := upS (upS S 10 (nI m)) 11 (nI i)
def cmP (M : Nat) (J : Nat → Int64) (G : Nat → Nat → Int64) (h : gi_H) (S : Nat → Int32) (F : Nat → Nat → Int32) (P : Pm) (m i : Nat) (o : Flt ⊕ (Nat → Option Sh)) (v : Option Value) (h' : gi_H) : Prop := ∃ S' F', mo_at M S' J F' G h' ∧ outM M h h' ∧ ((∃ f, o = .inl (f, m, i) ∧ 1 ≤ f ∧ f ≤ 6 ∧ v = some (.int (-(nI f))) ∧ S' = flR2 S m i ∧ F' = F) ∨ (∃ s', o = .inr s' ∧ v = some (.int 0) ∧ S' = S ∧ rpS P m s' (shf F') ∧ frQ m F F' ∧ F' 14 = F 14))
set_option maxHeartbeats 4000000 in
set_option maxRecDepth 100000 in
theorem c_Mo_comes (W : wfP k P) (hm : m < k) (ht : t ≤ pN P 5 m) (hP : prF P F) (hS : shR S d false) (y8 : d.1 ≤ 8) (h8 : ∀ p x, s p = some x → x.1 ≤ 8 ∧ x.2 < 2 ^ x.1) (hs : rpS P m s (shf F)) (H : mo_at M S J F G h) : gi_T l V y_Mo_comes b_Mo_comes 5 (some .int) 1 23 0 0 [.ref M, .int (nI m), .int (nI i), .int (nI t)] n h (fun v n' h' => n' = n ∧ cmP M J G h S F P m i (cmS P m i t d s) v h') := by
  refine gi_enter (by decide) (Nat.le_of_ble_eq_true rfl) ?_
  intro _ _ _ _ _ _ _ _ C hr hnm
  obtain ⟨fs, Ha, Hf⟩ := id H.1
  have ho : outM M h h := outM.rf
  have w8 := W.k8
  have wm := wf_ar W hm
  have e5 := (wf_n W hm).2.2.2.1
  obtain ⟨s1, s2, s3, s4, s5⟩ := id hS
  have p8 : (2 : Nat) ^ d.1 ≤ 2 ^ 8 := Nat.pow_le_pow_right (by decide) y8
  refine gi_iload_n (q := 1) (i := 3) C (dm_Mo_comes 0 rfl) rfl rfl rfl ?_
  refine gi_aload_n (q := 2) (i := 0) C (dm_Mo_comes 1 rfl) rfl rfl rfl ?_
  refine gi_get (q := 5) C (dm_Mo_comes 2 rfl) rfl fl_Mo_22 Ha (mo_g5 Hf) ?_
  refine gi_iload_n (q := 6) (i := 1) C (dm_Mo_comes 3 rfl) rfl rfl rfl ?_
  refine gi_iald (q := 7) C (dm_Mo_comes 4 rfl) rfl rfl (mo_a5 H) (inN (show m < 8 by omega) (by decide)) ?_
  rw [nI_clamp (show m < 2 ^ 31 by omega), hP 5 (by decide) (by decide), e5]
  refine gi_icmp_ne (q := 10) (tgt := 18) C (dm_Mo_comes 5 rfl) rfl (by decide) (fun c7 => ?_) (fun c7 => ?_)
  · have tl : t < pN P 5 m := by
      rcases Nat.lt_or_ge t (pN P 5 m) with q | q
      · exact q
      · exact absurd (by rw [show t = pN P 5 m by omega]) c7
    have hq := hs t tl
    refine gi_bipush (q := 20) (v := 60) C (dm_Mo_comes 12 rfl) rfl (by decide) ?_
    refine gi_iload_n (q := 21) (i := 1) C (dm_Mo_comes 13 rfl) rfl rfl rfl ?_
    refine gi_imul (q := 22) C (dm_Mo_comes 14 rfl) rfl ?_
    refine gi_iload_n (q := 23) (i := 3) C (dm_Mo_comes 15 rfl) rfl rfl rfl ?_
    refine gi_iadd (q := 24) C (dm_Mo_comes 16 rfl) rfl ?_
    rw [show (60 : Int32) = nI 60 from rfl, nI_ml, nI_add]
    refine gi_istore (q := 26) C (dm_Mo_comes 17 rfl) rfl (Nat.le_of_ble_eq_true rfl) ?_
    refine gi_aload_n (q := 27) (i := 0) C (dm_Mo_comes 18 rfl) rfl rfl rfl ?_
    refine gi_get (q := 30) C (dm_Mo_comes 19 rfl) rfl fl_Mo_38 Ha (mo_g12 Hf) ?_
    refine gi_iload (q := 32) C (dm_Mo_comes 20 rfl) rfl rfl ?_
    refine gi_iald (q := 33) C (dm_Mo_comes 21 rfl) rfl rfl (mo_a12 H) (inN (show 60 * m + t < 480 by omega) (by decide)) ?_
    rw [nI_clamp (show 60 * m + t < 2 ^ 31 by omega)]
    refine gi_if_ge (q := 36) (tgt := 60) C (dm_Mo_comes 22 rfl) rfl (by decide) (fun c33 => ?_) (fun c33 => ?_)
    · obtain ⟨x, ex⟩ : ∃ x, s (60 * m + t) = some x := by
        cases e : s (60 * m + t) with
        | none =>
          have g : F 12 (60 * m + t) = -1 := hq.1 e
          rw [g] at c33
          exact absurd c33 (by decide)
        | some x => exact ⟨x, rfl⟩
      obtain ⟨g1, g2⟩ := hq.2 x ex
      have g1 : F 12 (60 * m + t) = nI x.1 := g1
      have g2 : F 13 (60 * m + t) = nI x.2 := g2
      obtain ⟨x8, xo⟩ := h8 _ _ ex
      have q8 : (2 : Nat) ^ x.1 ≤ 2 ^ 8 := Nat.pow_le_pow_right (by decide) x8
      refine gi_aload_n (q := 61) (i := 0) C (dm_Mo_comes 37 rfl) rfl rfl rfl ?_
      refine gi_get (q := 64) C (dm_Mo_comes 38 rfl) rfl fl_Mo_38 Ha (mo_g12 Hf) ?_
      refine gi_iload (q := 66) C (dm_Mo_comes 39 rfl) rfl rfl ?_
      refine gi_iald (q := 67) C (dm_Mo_comes 40 rfl) rfl rfl (mo_a12 H) (inN (show 60 * m + t < 480 by omega) (by decide)) ?_
      refine gi_aload_n (q := 68) (i := 0) C (dm_Mo_comes 41 rfl) rfl rfl rfl ?_
      refine gi_get (q := 71) C (dm_Mo_comes 42 rfl) rfl fl_Mo_190 Ha (mo_g19 Hf) ?_
      rw [nI_clamp (show 60 * m + t < 2 ^ 31 by omega), g1, s1]
      refine gi_icmp_ne (q := 74) (tgt := 88) C (dm_Mo_comes 43 rfl) rfl (by decide) (fun c71 => ?_) (fun c71 => ?_)
      · refine gi_aload_n (q := 89) (i := 0) C (dm_Mo_comes 51 rfl) rfl rfl rfl ?_
        refine gi_iconst (q := 90) (v := 5) C (dm_Mo_comes 52 rfl) rfl (by decide) ?_
        refine gi_iload_n (q := 91) (i := 1) C (dm_Mo_comes 53 rfl) rfl rfl rfl ?_
        refine gi_iload_n (q := 92) (i := 2) C (dm_Mo_comes 54 rfl) rfl rfl rfl ?_
        refine gi_callv 3 (q := 95) C (dm_Mo_comes 55 rfl) rfl my_Mo_fault lk_Mo_221 im_Mo_fault rfl (c_Mo_fault 5 m i H) Ha rfl rfl ⟨(Nat.le_of_ble_eq_true rfl), (Nat.le_of_ble_eq_true rfl)⟩ (Nat.le_of_ble_eq_true rfl) ⟨(Nat.le_of_ble_eq_true rfl), (Nat.le_of_ble_eq_true rfl)⟩ (fun r92 n92 h92 e92 => ?_)
        obtain ⟨rfl, rfl, H92, o92⟩ := e92
        refine gi_goto (tgt := 99) C (dm_Mo_comes 56 rfl) (by decide) ?_
        refine gi_iret C hr (dm_Mo_comes 58 rfl) ?_
        refine ⟨rfl, _, F, H92, o92, Or.inl ⟨5, ?_, by decide, by decide, rfl, rfl, rfl⟩⟩
        unfold cmS
        rw [if_pos tl, ex]
        dsimp only
        rw [if_neg (fun z => ?_)]
        first
          | exact c71 (by rw [z])
          | exact c85 (by rw [z])
      · refine gi_aload_n (q := 75) (i := 0) C (dm_Mo_comes 44 rfl) rfl rfl rfl ?_
        refine gi_get (q := 78) C (dm_Mo_comes 45 rfl) rfl fl_Mo_41 Ha (mo_g13 Hf) ?_
        refine gi_iload (q := 80) C (dm_Mo_comes 46 rfl) rfl rfl ?_
        refine gi_iald (q := 81) C (dm_Mo_comes 47 rfl) rfl rfl (mo_a13 H) (inN (show 60 * m + t < 480 by omega) (by decide)) ?_
        refine gi_aload_n (q := 82) (i := 0) C (dm_Mo_comes 48 rfl) rfl rfl rfl ?_
        refine gi_get (q := 85) C (dm_Mo_comes 49 rfl) rfl fl_Mo_193 Ha (mo_g20 Hf) ?_
        rw [nI_clamp (show 60 * m + t < 2 ^ 31 by omega), g2, s2]
        refine gi_icmp_eq (q := 88) (tgt := 98) C (dm_Mo_comes 50 rfl) rfl (by decide) (fun c85 => ?_) (fun c85 => ?_)
        · refine gi_iconst (q := 99) (v := 0) C (dm_Mo_comes 57 rfl) rfl (by decide) ?_
          refine gi_iret C hr (dm_Mo_comes 58 rfl) ?_
          rw [nI_eqP (by omega) (by omega)] at c71 c85
          refine ⟨rfl, _, F, H, ho, Or.inr ⟨s, ?_, rfl, rfl, hs, frQ.rf, rfl⟩⟩
          unfold cmS
          rw [if_pos tl, ex]
          dsimp only
          rw [if_pos (Prod.ext c71 c85)]
        · refine gi_aload_n (q := 89) (i := 0) C (dm_Mo_comes 51 rfl) rfl rfl rfl ?_
          refine gi_iconst (q := 90) (v := 5) C (dm_Mo_comes 52 rfl) rfl (by decide) ?_
          refine gi_iload_n (q := 91) (i := 1) C (dm_Mo_comes 53 rfl) rfl rfl rfl ?_
          refine gi_iload_n (q := 92) (i := 2) C (dm_Mo_comes 54 rfl) rfl rfl rfl ?_
          refine gi_callv 3 (q := 95) C (dm_Mo_comes 55 rfl) rfl my_Mo_fault lk_Mo_221 im_Mo_fault rfl (c_Mo_fault 5 m i H) Ha rfl rfl ⟨(Nat.le_of_ble_eq_true rfl), (Nat.le_of_ble_eq_true rfl)⟩ (Nat.le_of_ble_eq_true rfl) ⟨(Nat.le_of_ble_eq_true rfl), (Nat.le_of_ble_eq_true rfl)⟩ (fun r92 n92 h92 e92 => ?_)
          obtain ⟨rfl, rfl, H92, o92⟩ := e92
          refine gi_goto (tgt := 99) C (dm_Mo_comes 56 rfl) (by decide) ?_
          refine gi_iret C hr (dm_Mo_comes 58 rfl) ?_
          refine ⟨rfl, _, F, H92, o92, Or.inl ⟨5, ?_, by decide, by decide, rfl, rfl, rfl⟩⟩
          unfold cmS
          rw [if_pos tl, ex]
          dsimp only
          rw [if_neg (fun z => ?_)]
          first
            | exact c71 (by rw [z])
            | exact c85 (by rw [z])
    · have sn : s (60 * m + t) = none := by
        cases e : s (60 * m + t) with
        | none => rfl
        | some x =>
          have g := (hq.2 x e).1
          have g : F 12 (60 * m + t) = nI x.1 := g
          rw [g] at c33
          exact absurd (nI_le (a := 0) (Nat.zero_le _) (by have := (h8 _ _ e).1; omega)) c33
      refine gi_aload_n (q := 37) (i := 0) C (dm_Mo_comes 23 rfl) rfl rfl rfl ?_
      refine gi_get (q := 40) C (dm_Mo_comes 24 rfl) rfl fl_Mo_38 Ha (mo_g12 Hf) ?_
      refine gi_iload (q := 42) C (dm_Mo_comes 25 rfl) rfl rfl ?_
      refine gi_aload_n (q := 43) (i := 0) C (dm_Mo_comes 26 rfl) rfl rfl rfl ?_
      refine gi_get (q := 46) C (dm_Mo_comes 27 rfl) rfl fl_Mo_190 Ha (mo_g19 Hf) ?_
      refine gi_iast (q := 47) C (dm_Mo_comes 28 rfl) rfl rfl (mo_a12 H) (inN (show 60 * m + t < 480 by omega) (by decide)) ?_
      refine gi_genM (H.setI (p := 7) (k := 12) (by decide) rfl rfl (by decide) rfl (by omega)) (ho.up (by omega) (by omega)) (fun y H ho => ?_)
      obtain ⟨fs, Ha, Hf⟩ := id H.1
      skip
      refine gi_aload_n (q := 48) (i := 0) C (dm_Mo_comes 29 rfl) rfl rfl rfl ?_
      refine gi_get (q := 51) C (dm_Mo_comes 30 rfl) rfl fl_Mo_41 Ha (mo_g13 Hf) ?_
      refine gi_iload (q := 53) C (dm_Mo_comes 31 rfl) rfl rfl ?_
      refine gi_aload_n (q := 54) (i := 0) C (dm_Mo_comes 32 rfl) rfl rfl rfl ?_
      refine gi_get (q := 57) C (dm_Mo_comes 33 rfl) rfl fl_Mo_193 Ha (mo_g20 Hf) ?_
      refine gi_iast (q := 58) C (dm_Mo_comes 34 rfl) rfl rfl (mo_a13 H) (inN (show 60 * m + t < 480 by omega) (by decide)) ?_
      refine gi_genM (H.setI (p := 8) (k := 13) (by decide) rfl rfl (by decide) rfl (by omega)) (ho.up (by omega) (by omega)) (fun y H ho => ?_)
      obtain ⟨fs, Ha, Hf⟩ := id H.1
      refine gi_iconst (q := 59) (v := 0) C (dm_Mo_comes 35 rfl) rfl (by decide) ?_
      refine gi_iret C hr (dm_Mo_comes 36 rfl) ?_
      refine ⟨rfl, _, _, H, ho, Or.inr ⟨upO s (60 * m + t) (some d), ?_, rfl, rfl, fun q hq2 => ?_, ⟨fun j j1 j2 j3 => ?_, fun j p hp => ?_⟩, rfl⟩⟩
      · unfold cmS
        rw [if_pos tl, sn]
      · by_cases z : q = t
        · subst z
          rw [upO_self]
          refine ⟨fun e => (by cases e), fun z e => ?_⟩
          have e := Option.some.inj e
          subst e
          refine ⟨?_, ?_⟩
          · show upA (upA F 12 (upd (F 12) (nI (60 * m + q)).toNatClampNeg (S 19))) 13 _ 12 (60 * m + q) = nI d.1
            rw [upA_n (by decide), upA_i, nI_clamp (by omega), upd_is, if_pos rfl, s1]
          · show upA (upA F 12 _) 13 (upd (upA F 12 _ 13) (nI (60 * m + q)).toNatClampNeg (S 20)) 13 (60 * m + q) = nI d.2
            rw [upA_i, nI_clamp (by omega), upd_is, if_pos rfl, s2]
        · rw [upO_ne (by omega)]
          have g := hs q hq2
          refine ⟨fun e => ?_, fun x e => ⟨?_, ?_⟩⟩
          · show upA (upA F 12 (upd (F 12) (nI (60 * m + t)).toNatClampNeg (S 19))) 13 _ 12 (60 * m + q) = -1
            rw [upA_n (by decide), upA_i, nI_clamp (by omega), upd_is, if_neg (by omega)]
            exact g.1 e
          · show upA (upA F 12 (upd (F 12) (nI (60 * m + t)).toNatClampNeg (S 19))) 13 _ 12 (60 * m + q) = nI x.1
            rw [upA_n (by decide), upA_i, nI_clamp (by omega), upd_is, if_neg (by omega)]
            exact (g.2 x e).1
          · show upA (upA F 12 _) 13 (upd (upA F 12 _ 13) (nI (60 * m + t)).toNatClampNeg (S 20)) 13 (60 * m + q) = nI x.2
            rw [upA_i, nI_clamp (by omega), upd_is, if_neg (by omega)]
            exact (g.2 x e).2
      · rw [upA_n j2, upA_n j1]
      · rw [nI_clamp (by omega)]
        by_cases z1 : j = 13
        · subst z1
          rw [upA_i, upd_is, if_neg (by omega)]
          rfl
        · rw [upA_n z1]
          by_cases z2 : j = 12
          · subst z2
            rw [upA_i, upd_is, if_neg (by omega)]
          · rw [upA_n z2]
  · refine gi_aload_n (q := 11) (i := 0) C (dm_Mo_comes 6 rfl) rfl rfl rfl ?_
    refine gi_iconst (q := 12) (v := 4) C (dm_Mo_comes 7 rfl) rfl (by decide) ?_
    refine gi_iload_n (q := 13) (i := 1) C (dm_Mo_comes 8 rfl) rfl rfl rfl ?_
    refine gi_iload_n (q := 14) (i := 2) C (dm_Mo_comes 9 rfl) rfl rfl rfl ?_
    refine gi_callv 3 (q := 17) C (dm_Mo_comes 10 rfl) rfl my_Mo_fault lk_Mo_221 im_Mo_fault rfl (c_Mo_fault 4 m i H) Ha rfl rfl ⟨(Nat.le_of_ble_eq_true rfl), (Nat.le_of_ble_eq_true rfl)⟩ (Nat.le_of_ble_eq_true rfl) ⟨(Nat.le_of_ble_eq_true rfl), (Nat.le_of_ble_eq_true rfl)⟩ (fun r14 n14 h14 e14 => ?_)
    obtain ⟨rfl, rfl, H14, o14⟩ := e14
    refine gi_iret C hr (dm_Mo_comes 11 rfl) ?_
    have te : t = pN P 5 m := by
      rw [nI_eqP (by omega) (by omega)] at c7
      exact c7
    refine ⟨rfl, _, F, H14, o14, Or.inl ⟨4, ?_, by decide, by decide, rfl, rfl, rfl⟩⟩
    unfold cmS
    rw [if_neg (by omega)]
end RB4
