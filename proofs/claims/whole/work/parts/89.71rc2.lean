-- needs: 89.70
section RC2
variable {l : Launch} {V : gi_V} {n : Nat} {h h' : gi_H} {M k m i : Nat} {P : Pm} {x : Sh} {sh : Nat → Option Sh} {S S' : Nat → Int32} {J J' : Nat → Int64} {F F' : Nat → Nat → Int32} {G G' : Nat → Nat → Int64} {L : Nat} {f : Nat → Sl} {n0 : Nat}
theorem rw_push {c c' : Nat → Ce} {v : Sl} {d : Ce} (h : rwR L n0 f c) (h6 : L ≤ 6) (hL : L ≤ n0) (e : c' = upO c (n0 - L + 6) d) (a : ceA v.1 d) (b : d.2.2.2.2.2 = v.2) : rwR L (n0 + 1) (upF f n0 v) c' := fun i hi => by
  subst e
  unfold upF
  by_cases q : i = n0
  · subst q
    rw [if_pos rfl, sl_hi hL, upO_self]
    exact ⟨a, fun _ => b⟩
  · rw [if_neg q, upO_ne (fun z => q (sl_inj h6 (z.trans (sl_hi hL).symm)))]
    exact h i (by omega)
theorem rw_up {c c' : Nat → Ce} {v : Sl} {d : Ce} {i : Nat} (h : rwR L n0 f c) (h6 : L ≤ 6) (e : c' = upO c (sl L i) d) (a : ceA v.1 d) (b : L ≤ i → d.2.2.2.2.2 = v.2) : rwR L n0 (upF f i v) c' := fun j hj => by
  subst e
  unfold upF
  by_cases q : j = i
  · subst q
    rw [if_pos rfl, upO_self]
    exact ⟨a, b⟩
  · rw [if_neg q, upO_ne (fun z => q (sl_inj h6 z))]
    exact h j hj
theorem rw_less {c : Nat → Ce} {n1 : Nat} (h : rwR L n0 f c) (hn : n1 ≤ n0) : rwR L n1 f c := fun j hj => h j (by omega)
def wkP (M : Nat) (J : Nat → Int64) (h : gi_H) (S : Nat → Int32) (F : Nat → Nat → Int32) (G : Nat → Nat → Int64) (L n0 : Nat) (f : Nat → Sl) (h' : gi_H) : Prop := ∃ S' F' G', mo_at M S' J F' G' h' ∧ outM M h h' ∧ frW S S' F F' G G' ∧ wkR L n0 f S' F' G'
theorem ce_s {x : Sp} {m : Int32} {b o : Int32} : ceA (.inl x) (eL x.1, eL x.2.1, eL x.2.2, b, o, m) := ⟨rfl, rfl, rfl⟩
theorem ce_t {b : Int32} {q : Bool} {m : Int32} {a1 a2 a3 : Int64} : ceA (.inr (b, q)) (a1, a2, a3, b, bI q, m) := ⟨rfl, rfl⟩
set_option maxHeartbeats 4000000 in
set_option maxRecDepth 100000 in
theorem c_Mo_pushSpan (x : Sp) (hw : wkR L n0 f S F G) (h8 : n0 - L < 8) (H : mo_at M S J F G h) : gi_T l V y_Mo_pushSpan b_Mo_pushSpan 7 none 1 27 0 0 [.ref M, .long (eL x.1), .long (eL x.2.1), .long (eL x.2.2)] n h (fun v n' h' => v = none ∧ n' = n ∧ wkP M J h S F G L (n0 + 1) (upF f n0 (.inl x, -1)) h') := by
  refine gi_enter (by decide) (Nat.le_of_ble_eq_true rfl) ?_
  intro _ _ _ _ _ _ _ _ C hr hnm
  obtain ⟨fs, Ha, Hf⟩ := id H.1
  have ho : outM M h h := outM.rf
  have hL := hw.2.2.2.1
  refine gi_aload_n (q := 1) (i := 0) C (dm_Mo_pushSpan 0 rfl) rfl rfl rfl ?_
  refine gi_aload_n (q := 2) (i := 0) C (dm_Mo_pushSpan 1 rfl) rfl rfl rfl ?_
  refine gi_get (q := 5) C (dm_Mo_pushSpan 2 rfl) rfl fl_Mo_357 Ha (mo_g58 Hf) ?_
  rw [hw.1]
  refine gi_lload_n (q := 6) (i := 1) C (dm_Mo_pushSpan 3 rfl) rfl rfl rfl ?_
  refine gi_lload_n (q := 7) (i := 3) C (dm_Mo_pushSpan 4 rfl) rfl rfl rfl ?_
  refine gi_lload (q := 9) C (dm_Mo_pushSpan 5 rfl) rfl rfl ?_
  refine gi_callv 4 (q := 12) C (dm_Mo_pushSpan 6 rfl) rfl my_Mo_span lk_Mo_366 im_Mo_span rfl (c_Mo_span (show n0 - L + 6 < 14 by omega) (eL x.1) (eL x.2.1) (eL x.2.2) H) Ha rfl rfl ⟨(Nat.le_of_ble_eq_true rfl), (Nat.le_of_ble_eq_true rfl)⟩ (Nat.le_of_ble_eq_true rfl) ⟨(Nat.le_of_ble_eq_true rfl), (Nat.le_of_ble_eq_true rfl)⟩ (fun r9 n9 h9 e9 => ?_)
  obtain ⟨rfl, rfl, F1, G1, H1, o1, r1, c1⟩ := e9
  obtain ⟨fs1, Ha1, Hf1⟩ := id H1.1
  have H := H1
  have Ha := Ha1
  have Hf := Hf1
  have ho := o1
  refine gi_aload_n (q := 13) (i := 0) C (dm_Mo_pushSpan 7 rfl) rfl rfl rfl ?_
  refine gi_get (q := 16) C (dm_Mo_pushSpan 8 rfl) rfl fl_Mo_119 Ha (mo_g57 Hf) ?_
  refine gi_aload_n (q := 17) (i := 0) C (dm_Mo_pushSpan 9 rfl) rfl rfl rfl ?_
  refine gi_get (q := 20) C (dm_Mo_pushSpan 10 rfl) rfl fl_Mo_357 Ha (mo_g58 Hf) ?_
  rw [hw.1]
  refine gi_iconst (q := 21) (v := -1) C (dm_Mo_pushSpan 11 rfl) rfl (by decide) ?_
  refine gi_iast (q := 22) C (dm_Mo_pushSpan 12 rfl) rfl rfl (mo_a57 H) (inN (show n0 - L + 6 < 14 by omega) (by decide)) ?_
  refine gi_genM (H.setI (p := 33) (k := 57) (by decide) rfl rfl (by decide) rfl (by omega)) (ho.up (by omega) (by omega)) (fun y H ho => ?_)
  obtain ⟨fs, Ha, Hf⟩ := id H.1
  refine gi_aload_n (q := 23) (i := 0) C (dm_Mo_pushSpan 13 rfl) rfl rfl rfl ?_
  refine gi_dup (q := 24) C (dm_Mo_pushSpan 14 rfl) rfl rfl ?_
  refine gi_get (q := 27) C (dm_Mo_pushSpan 15 rfl) rfl fl_Mo_357 Ha (mo_g58 Hf) ?_
  refine gi_iconst (q := 28) (v := 1) C (dm_Mo_pushSpan 16 rfl) rfl (by decide) ?_
  refine gi_iadd (q := 29) C (dm_Mo_pushSpan 17 rfl) rfl ?_
  rw [hw.1, nI_1]
  refine gi_put (q := 32) C (dm_Mo_pushSpan 18 rfl) rfl fl_Mo_357 fp_Mo_58 Ha (by rw [Hf.1]; decide) rfl rfl ?_
  refine gi_genM (H.putI Ha Hf (by decide) rfl) (ho.up (by omega) (by omega)) (fun y H ho => ?_)
  obtain ⟨fs, Ha, Hf⟩ := id H.1
  refine gi_vret C hr (dm_Mo_pushSpan 19 rfl) ?_
  rw [nI_clamp (show n0 - L + 6 < 2 ^ 31 by omega)] at H
  refine ⟨rfl, rfl, _, _, _, H, ho, ⟨fun j q => by unfold upS; rw [if_neg q], fun j h1 h2 h3 => by rw [upA_n h3]; exact r1.2.1 j h1 h2 h3, r1.2.2⟩, ?_, ?_, hw.2.2.1, by omega, by omega⟩
  · show nI (n0 - L + 6 + 1) = nI (n0 + 1 - L + 6)
    rw [show n0 - L + 6 + 1 = n0 + 1 - L + 6 by omega]
  · refine rw_push (d := (eL x.1, eL x.2.1, eL x.2.2, 0, 0, -1)) hw.2.1 hw.2.2.1 hw.2.2.2.1 ?_ ce_s rfl
    funext j
    have cj := congrFun c1 j
    by_cases q : j = n0 - L + 6
    · subst q
      rw [upO_self] at cj ⊢
      unfold cW at cj ⊢
      rw [upA_i, upd_is, if_pos rfl, upA_n (by decide), upA_n (by decide)]
      simp only [Prod.mk.injEq] at cj ⊢
      exact ⟨cj.1, cj.2.1, cj.2.2.1, cj.2.2.2.1, cj.2.2.2.2.1, trivial⟩
    · rw [upO_ne q] at cj ⊢
      rw [← cj]
      unfold cW
      rw [upA_i, upd_is, if_neg q, upA_n (by decide), upA_n (by decide)]
set_option maxHeartbeats 4000000 in
set_option maxRecDepth 100000 in
theorem c_Mo_pushSet (b : Int32) (q : Bool) (hw : wkR L n0 f S F G) (h8 : n0 - L < 8) (H : mo_at M S J F G h) : gi_T l V y_Mo_pushSet b_Mo_pushSet 3 none 1 23 0 0 [.ref M, .int b, .int (bI q)] n h (fun v n' h' => v = none ∧ n' = n ∧ wkP M J h S F G L (n0 + 1) (upF f n0 (.inr (b, q), -1)) h') := by
  refine gi_enter (by decide) (Nat.le_of_ble_eq_true rfl) ?_
  intro _ _ _ _ _ _ _ _ C hr hnm
  obtain ⟨fs, Ha, Hf⟩ := id H.1
  have ho : outM M h h := outM.rf
  have hL := hw.2.2.2.1
  refine gi_aload_n (q := 1) (i := 0) C (dm_Mo_pushSet 0 rfl) rfl rfl rfl ?_
  refine gi_aload_n (q := 2) (i := 0) C (dm_Mo_pushSet 1 rfl) rfl rfl rfl ?_
  refine gi_get (q := 5) C (dm_Mo_pushSet 2 rfl) rfl fl_Mo_357 Ha (mo_g58 Hf) ?_
  rw [hw.1]
  refine gi_iload_n (q := 6) (i := 1) C (dm_Mo_pushSet 3 rfl) rfl rfl rfl ?_
  refine gi_iload_n (q := 7) (i := 2) C (dm_Mo_pushSet 4 rfl) rfl rfl rfl ?_
  refine gi_callv 3 (q := 10) C (dm_Mo_pushSet 5 rfl) rfl my_Mo_setOf lk_Mo_370 im_Mo_setOf rfl (c_Mo_setOf (show n0 - L + 6 < 14 by omega) b q H) Ha rfl rfl ⟨(Nat.le_of_ble_eq_true rfl), (Nat.le_of_ble_eq_true rfl)⟩ (Nat.le_of_ble_eq_true rfl) ⟨(Nat.le_of_ble_eq_true rfl), (Nat.le_of_ble_eq_true rfl)⟩ (fun r7 n7 h7 e7 => ?_)
  obtain ⟨rfl, rfl, F1, G1, H1, o1, r1, c1⟩ := e7
  obtain ⟨fs1, Ha1, Hf1⟩ := id H1.1
  have H := H1
  have Ha := Ha1
  have Hf := Hf1
  have ho := o1
  refine gi_aload_n (q := 11) (i := 0) C (dm_Mo_pushSet 6 rfl) rfl rfl rfl ?_
  refine gi_get (q := 14) C (dm_Mo_pushSet 7 rfl) rfl fl_Mo_119 Ha (mo_g57 Hf) ?_
  refine gi_aload_n (q := 15) (i := 0) C (dm_Mo_pushSet 8 rfl) rfl rfl rfl ?_
  refine gi_get (q := 18) C (dm_Mo_pushSet 9 rfl) rfl fl_Mo_357 Ha (mo_g58 Hf) ?_
  rw [hw.1]
  refine gi_iconst (q := 19) (v := -1) C (dm_Mo_pushSet 10 rfl) rfl (by decide) ?_
  refine gi_iast (q := 20) C (dm_Mo_pushSet 11 rfl) rfl rfl (mo_a57 H) (inN (show n0 - L + 6 < 14 by omega) (by decide)) ?_
  refine gi_genM (H.setI (p := 33) (k := 57) (by decide) rfl rfl (by decide) rfl (by omega)) (ho.up (by omega) (by omega)) (fun y H ho => ?_)
  obtain ⟨fs, Ha, Hf⟩ := id H.1
  refine gi_aload_n (q := 21) (i := 0) C (dm_Mo_pushSet 12 rfl) rfl rfl rfl ?_
  refine gi_dup (q := 22) C (dm_Mo_pushSet 13 rfl) rfl rfl ?_
  refine gi_get (q := 25) C (dm_Mo_pushSet 14 rfl) rfl fl_Mo_357 Ha (mo_g58 Hf) ?_
  refine gi_iconst (q := 26) (v := 1) C (dm_Mo_pushSet 15 rfl) rfl (by decide) ?_
  refine gi_iadd (q := 27) C (dm_Mo_pushSet 16 rfl) rfl ?_
  rw [hw.1, nI_1]
  refine gi_put (q := 30) C (dm_Mo_pushSet 17 rfl) rfl fl_Mo_357 fp_Mo_58 Ha (by rw [Hf.1]; decide) rfl rfl ?_
  refine gi_genM (H.putI Ha Hf (by decide) rfl) (ho.up (by omega) (by omega)) (fun y H ho => ?_)
  obtain ⟨fs, Ha, Hf⟩ := id H.1
  refine gi_vret C hr (dm_Mo_pushSet 18 rfl) ?_
  rw [nI_clamp (show n0 - L + 6 < 2 ^ 31 by omega)] at H
  refine ⟨rfl, rfl, _, _, _, H, ho, ⟨fun j q => by unfold upS; rw [if_neg q], fun j h1 h2 h3 => by rw [upA_n h3]; exact r1.2.1 j h1 h2 h3, r1.2.2⟩, ?_, ?_, hw.2.2.1, by omega, by omega⟩
  · show nI (n0 - L + 6 + 1) = nI (n0 + 1 - L + 6)
    rw [show n0 - L + 6 + 1 = n0 + 1 - L + 6 by omega]
  · refine rw_push (d := (0, 0, 0, b, bI q, -1)) hw.2.1 hw.2.2.1 hw.2.2.2.1 ?_ ce_t rfl
    funext j
    have cj := congrFun c1 j
    by_cases q : j = n0 - L + 6
    · subst q
      rw [upO_self] at cj ⊢
      unfold cW at cj ⊢
      rw [upA_i, upd_is, if_pos rfl, upA_n (by decide), upA_n (by decide)]
      simp only [Prod.mk.injEq] at cj ⊢
      exact ⟨cj.1, cj.2.1, cj.2.2.1, cj.2.2.2.1, cj.2.2.2.2.1, trivial⟩
    · rw [upO_ne q] at cj ⊢
      rw [← cj]
      unfold cW
      rw [upA_i, upd_is, if_neg q, upA_n (by decide), upA_n (by decide)]
def frK (S S' : Nat → Int32) (F F' : Nat → Nat → Int32) (G G' : Nat → Nat → Int64) : Prop := (∀ j, j ≠ 66 → S' j = S j) ∧ (∀ j, j ≠ 63 → j ≠ 64 → j ≠ 65 → F' j = F j) ∧ ∀ j, j ≠ 60 → j ≠ 61 → j ≠ 62 → G' j = G j
set_option maxHeartbeats 4000000 in
set_option maxRecDepth 100000 in
theorem c_Mo_keep (H : mo_at M S J F G h) : gi_T l V y_Mo_keep b_Mo_keep 2 none 0 0 0 0 [.ref M] n h (fun v n' h' => v = none ∧ n' = n ∧ ∃ S' F' G', mo_at M S' J F' G' h' ∧ outM M h h' ∧ frK S S' F F' G G' ∧ S' 66 = S 58 ∧ ∀ i, i < 14 → cK F' G' i = nrC (cW F G i)) := by
  refine gi_enter (by decide) (Nat.le_of_ble_eq_true rfl) ?_
  intro _ _ _ _ _ _ _ _ C hr hnm
  obtain ⟨fs, Ha, Hf⟩ := id H.1
  have ho : outM M h h := outM.rf
  refine gi_iconst (q := 1) (v := 0) C (dm_Mo_keep 0 rfl) rfl (by decide) ?_
  refine gi_istore_n (q := 2) (i := 1) C (dm_Mo_keep 1 rfl) rfl rfl (Nat.le_of_ble_eq_true rfl) ?_
  refine gi_while (σ := Nat) (fun j => 14 - j) (fun j => [(1, .int (nI j)), (0, .ref M)]) (fun _ => n) (fun _ => 0) (fun _ => 0) (fun j y' => j ≤ 14 ∧ ∃ F1 G1, mo_at M S J F1 G1 y' ∧ outM M h y' ∧ frK S S F F1 G G1 ∧ ∀ i, i < j → cK F1 G1 i = nrC (cW F G (i))) 0 ⟨Nat.zero_le _, F, G, H, ho, ⟨fun _ _ => rfl, fun _ _ _ _ => rfl, fun _ _ _ _ => rfl⟩, fun i hi => absurd hi (Nat.not_lt_zero _)⟩ ?_ (List.forall_mem_cons.mpr ⟨(by first | rfl | (simp [gi_look]; done)), List.forall_mem_cons.mpr ⟨(by first | rfl | (simp [gi_look]; done)), fun _ h => absurd h List.not_mem_nil⟩⟩) rfl rfl rfl
  rintro j y' ⟨hj, F1, G1, H1, o1, r1, c1⟩ ihj
  try dsimp only at *
  obtain ⟨fs, Ha, Hf⟩ := id H1.1
  have H := H1
  have ho := o1
  refine gi_iload_n (q := 3) (i := 1) C (dm_Mo_keep 2 rfl) rfl rfl rfl ?_
  refine gi_bipush (q := 5) (v := 14) C (dm_Mo_keep 3 rfl) rfl (by decide) ?_
  refine gi_icmp_ge (q := 8) (tgt := 86) C (dm_Mo_keep 4 rfl) rfl (by decide) (fun c5 => ?_) (fun c5 => ?_)
  · have jl : j = 14 := by
      rcases Nat.lt_or_ge j (14) with q | q
      · exact absurd c5 (Int32.not_le.mpr (nI_lt (b := 14) q (by omega)))
      · omega
    subst jl
    refine gi_aload_n (q := 87) (i := 0) C (dm_Mo_keep 55 rfl) rfl rfl rfl ?_
    refine gi_aload_n (q := 88) (i := 0) C (dm_Mo_keep 56 rfl) rfl rfl rfl ?_
    refine gi_get (q := 91) C (dm_Mo_keep 57 rfl) rfl fl_Mo_357 Ha (mo_g58 Hf) ?_
    refine gi_put (q := 94) C (dm_Mo_keep 58 rfl) rfl fl_Mo_360 fp_Mo_66 Ha (by rw [Hf.1]; decide) rfl rfl ?_
    refine gi_genM (H.putI Ha Hf (by decide) rfl) (ho.up (by omega) (by omega)) (fun y H ho => ?_)
    obtain ⟨fs, Ha, Hf⟩ := id H.1
    refine gi_vret C hr (dm_Mo_keep 59 rfl) ?_
    refine ⟨rfl, rfl, _, _, _, H, ho, ⟨fun j q => by unfold upS; rw [if_neg q], r1.2.1, r1.2.2⟩, rfl, c1⟩
  · have jl : j < 14 := by
      rcases Nat.lt_or_ge j (14) with q | q
      · exact q
      · exact absurd (nI_le (a := 14) q (by omega)) c5
    refine gi_aload_n (q := 9) (i := 0) C (dm_Mo_keep 5 rfl) rfl rfl rfl ?_
    refine gi_get (q := 12) C (dm_Mo_keep 6 rfl) rfl fl_Mo_122 Ha (mo_g60 Hf) ?_
    refine gi_iload_n (q := 13) (i := 1) C (dm_Mo_keep 7 rfl) rfl rfl rfl ?_
    refine gi_aload_n (q := 14) (i := 0) C (dm_Mo_keep 8 rfl) rfl rfl rfl ?_
    refine gi_get (q := 17) C (dm_Mo_keep 9 rfl) rfl fl_Mo_104 Ha (mo_g52 Hf) ?_
    refine gi_iload_n (q := 18) (i := 1) C (dm_Mo_keep 10 rfl) rfl rfl rfl ?_
    refine gi_lald (q := 19) C (dm_Mo_keep 11 rfl) rfl rfl (mo_a52 H) (inN jl (by decide)) ?_
    refine gi_last (q := 20) C (dm_Mo_keep 12 rfl) rfl rfl (mo_a60 H) (inN jl (by decide)) ?_
    refine gi_genM (H.setJ (p := 34) (k := 60) (by decide) rfl rfl rfl (by omega)) (ho.up (by omega) (by omega)) (fun y H ho => ?_)
    obtain ⟨fs, Ha, Hf⟩ := id H.1
    refine gi_aload_n (q := 21) (i := 0) C (dm_Mo_keep 13 rfl) rfl rfl rfl ?_
    refine gi_get (q := 24) C (dm_Mo_keep 14 rfl) rfl fl_Mo_125 Ha (mo_g61 Hf) ?_
    refine gi_iload_n (q := 25) (i := 1) C (dm_Mo_keep 15 rfl) rfl rfl rfl ?_
    refine gi_aload_n (q := 26) (i := 0) C (dm_Mo_keep 16 rfl) rfl rfl rfl ?_
    refine gi_get (q := 29) C (dm_Mo_keep 17 rfl) rfl fl_Mo_107 Ha (mo_g53 Hf) ?_
    refine gi_iload_n (q := 30) (i := 1) C (dm_Mo_keep 18 rfl) rfl rfl rfl ?_
    refine gi_lald (q := 31) C (dm_Mo_keep 19 rfl) rfl rfl (mo_a53 H) (inN jl (by decide)) ?_
    refine gi_last (q := 32) C (dm_Mo_keep 20 rfl) rfl rfl (mo_a61 H) (inN jl (by decide)) ?_
    refine gi_genM (H.setJ (p := 35) (k := 61) (by decide) rfl rfl rfl (by omega)) (ho.up (by omega) (by omega)) (fun y H ho => ?_)
    obtain ⟨fs, Ha, Hf⟩ := id H.1
    refine gi_aload_n (q := 33) (i := 0) C (dm_Mo_keep 21 rfl) rfl rfl rfl ?_
    refine gi_get (q := 36) C (dm_Mo_keep 22 rfl) rfl fl_Mo_128 Ha (mo_g62 Hf) ?_
    refine gi_iload_n (q := 37) (i := 1) C (dm_Mo_keep 23 rfl) rfl rfl rfl ?_
    refine gi_aload_n (q := 38) (i := 0) C (dm_Mo_keep 24 rfl) rfl rfl rfl ?_
    refine gi_get (q := 41) C (dm_Mo_keep 25 rfl) rfl fl_Mo_110 Ha (mo_g54 Hf) ?_
    refine gi_iload_n (q := 42) (i := 1) C (dm_Mo_keep 26 rfl) rfl rfl rfl ?_
    refine gi_lald (q := 43) C (dm_Mo_keep 27 rfl) rfl rfl (mo_a54 H) (inN jl (by decide)) ?_
    refine gi_last (q := 44) C (dm_Mo_keep 28 rfl) rfl rfl (mo_a62 H) (inN jl (by decide)) ?_
    refine gi_genM (H.setJ (p := 36) (k := 62) (by decide) rfl rfl rfl (by omega)) (ho.up (by omega) (by omega)) (fun y H ho => ?_)
    obtain ⟨fs, Ha, Hf⟩ := id H.1
    refine gi_aload_n (q := 45) (i := 0) C (dm_Mo_keep 29 rfl) rfl rfl rfl ?_
    refine gi_get (q := 48) C (dm_Mo_keep 30 rfl) rfl fl_Mo_131 Ha (mo_g63 Hf) ?_
    refine gi_iload_n (q := 49) (i := 1) C (dm_Mo_keep 31 rfl) rfl rfl rfl ?_
    refine gi_aload_n (q := 50) (i := 0) C (dm_Mo_keep 32 rfl) rfl rfl rfl ?_
    refine gi_get (q := 53) C (dm_Mo_keep 33 rfl) rfl fl_Mo_113 Ha (mo_g55 Hf) ?_
    refine gi_iload_n (q := 54) (i := 1) C (dm_Mo_keep 34 rfl) rfl rfl rfl ?_
    refine gi_iald (q := 55) C (dm_Mo_keep 35 rfl) rfl rfl (mo_a55 H) (inN jl (by decide)) ?_
    refine gi_iast (q := 56) C (dm_Mo_keep 36 rfl) rfl rfl (mo_a63 H) (inN jl (by decide)) ?_
    refine gi_genM (H.setI (p := 37) (k := 63) (by decide) rfl rfl (by decide) rfl (by omega)) (ho.up (by omega) (by omega)) (fun y H ho => ?_)
    obtain ⟨fs, Ha, Hf⟩ := id H.1
    refine gi_aload_n (q := 57) (i := 0) C (dm_Mo_keep 37 rfl) rfl rfl rfl ?_
    refine gi_get (q := 60) C (dm_Mo_keep 38 rfl) rfl fl_Mo_134 Ha (mo_g64 Hf) ?_
    refine gi_iload_n (q := 61) (i := 1) C (dm_Mo_keep 39 rfl) rfl rfl rfl ?_
    refine gi_aload_n (q := 62) (i := 0) C (dm_Mo_keep 40 rfl) rfl rfl rfl ?_
    refine gi_get (q := 65) C (dm_Mo_keep 41 rfl) rfl fl_Mo_116 Ha (mo_g56 Hf) ?_
    refine gi_iload_n (q := 66) (i := 1) C (dm_Mo_keep 42 rfl) rfl rfl rfl ?_
    refine gi_zald (q := 67) C (dm_Mo_keep 43 rfl) rfl rfl (mo_a56 H) (inN jl (by decide)) ?_
    refine gi_zast (q := 68) C (dm_Mo_keep 44 rfl) rfl rfl (mo_a64 H) (inN jl (by decide)) ?_
    refine gi_genM (H.setI (p := 38) (k := 64) (by decide) rfl rfl (by decide) rfl (by omega)) (ho.up (by omega) (by omega)) (fun y H ho => ?_)
    obtain ⟨fs, Ha, Hf⟩ := id H.1
    refine gi_aload_n (q := 69) (i := 0) C (dm_Mo_keep 45 rfl) rfl rfl rfl ?_
    refine gi_get (q := 72) C (dm_Mo_keep 46 rfl) rfl fl_Mo_137 Ha (mo_g65 Hf) ?_
    refine gi_iload_n (q := 73) (i := 1) C (dm_Mo_keep 47 rfl) rfl rfl rfl ?_
    refine gi_aload_n (q := 74) (i := 0) C (dm_Mo_keep 48 rfl) rfl rfl rfl ?_
    refine gi_get (q := 77) C (dm_Mo_keep 49 rfl) rfl fl_Mo_119 Ha (mo_g57 Hf) ?_
    refine gi_iload_n (q := 78) (i := 1) C (dm_Mo_keep 50 rfl) rfl rfl rfl ?_
    refine gi_iald (q := 79) C (dm_Mo_keep 51 rfl) rfl rfl (mo_a57 H) (inN jl (by decide)) ?_
    refine gi_iast (q := 80) C (dm_Mo_keep 52 rfl) rfl rfl (mo_a65 H) (inN jl (by decide)) ?_
    refine gi_genM (H.setI (p := 39) (k := 65) (by decide) rfl rfl (by decide) rfl (by omega)) (ho.up (by omega) (by omega)) (fun y H ho => ?_)
    obtain ⟨fs, Ha, Hf⟩ := id H.1
    rw [nI_clamp (show j < 2 ^ 31 by omega)] at H
    have e52 : G1 52 = G 52 := r1.2.2 52 (by decide) (by decide) (by decide)
    have e53 : G1 53 = G 53 := r1.2.2 53 (by decide) (by decide) (by decide)
    have e54 : G1 54 = G 54 := r1.2.2 54 (by decide) (by decide) (by decide)
    have e55 : F1 55 = F 55 := r1.2.1 55 (by decide) (by decide) (by decide)
    have e56 : F1 56 = F 56 := r1.2.1 56 (by decide) (by decide) (by decide)
    have e57 : F1 57 = F 57 := r1.2.1 57 (by decide) (by decide) (by decide)
    refine gi_iinc (q := 83) (v := 1) C (dm_Mo_keep 53 rfl) rfl rfl (by decide) (Nat.le_of_ble_eq_true rfl) ?_
    refine gi_goto (tgt := 2) C (dm_Mo_keep 54 rfl) (by decide) ?_
    refine gi_close (ihj (j + 1) _ ⟨jl, _, _, H, ho, ⟨fun _ _ => rfl, fun a h1 h2 h3 => by simp [upA, h1, h2, h3]; exact r1.2.1 a h1 h2 h3, fun a h1 h2 h3 => by simp [upA, h1, h2, h3]; exact r1.2.2 a h1 h2 h3⟩, fun i hi => by
        by_cases q : i = j
        · subst q
          simp [cK, nrC, cW, upA, upd_is, updJ_is, e52, e53, e54, e55, e56, e57]
        · have z := c1 i (by omega)
          rw [← z]
          simp [cK, upA, upd_is, updJ_is, q]⟩ (by omega)) (List.forall_mem_cons.mpr ⟨(by first | rfl | (simp [gi_look, nI_1]; done)), List.forall_mem_cons.mpr ⟨(by first | rfl | (simp [gi_look, nI_1]; done)), fun _ h => absurd h List.not_mem_nil⟩⟩) rfl rfl rfl
set_option maxHeartbeats 4000000 in
set_option maxRecDepth 100000 in
theorem c_Mo_again (H : mo_at M S J F G h) : gi_T l V y_Mo_again b_Mo_again 2 none 0 0 0 0 [.ref M] n h (fun v n' h' => v = none ∧ n' = n ∧ ∃ S' F' G', mo_at M S' J F' G' h' ∧ outM M h h' ∧ frW S S' F F' G G' ∧ S' 58 = S 66 ∧ ∀ i, i < 14 → cW F' G' i = nrC (cK F G i)) := by
  refine gi_enter (by decide) (Nat.le_of_ble_eq_true rfl) ?_
  intro _ _ _ _ _ _ _ _ C hr hnm
  obtain ⟨fs, Ha, Hf⟩ := id H.1
  have ho : outM M h h := outM.rf
  refine gi_iconst (q := 1) (v := 0) C (dm_Mo_again 0 rfl) rfl (by decide) ?_
  refine gi_istore_n (q := 2) (i := 1) C (dm_Mo_again 1 rfl) rfl rfl (Nat.le_of_ble_eq_true rfl) ?_
  refine gi_while (σ := Nat) (fun j => 14 - j) (fun j => [(1, .int (nI j)), (0, .ref M)]) (fun _ => n) (fun _ => 0) (fun _ => 0) (fun j y' => j ≤ 14 ∧ ∃ F1 G1, mo_at M S J F1 G1 y' ∧ outM M h y' ∧ frW S S F F1 G G1 ∧ ∀ i, i < j → cW F1 G1 i = nrC (cK F G (i))) 0 ⟨Nat.zero_le _, F, G, H, ho, ⟨fun _ _ => rfl, fun _ _ _ _ => rfl, fun _ _ _ _ => rfl⟩, fun i hi => absurd hi (Nat.not_lt_zero _)⟩ ?_ (List.forall_mem_cons.mpr ⟨(by first | rfl | (simp [gi_look]; done)), List.forall_mem_cons.mpr ⟨(by first | rfl | (simp [gi_look]; done)), fun _ h => absurd h List.not_mem_nil⟩⟩) rfl rfl rfl
  rintro j y' ⟨hj, F1, G1, H1, o1, r1, c1⟩ ihj
  try dsimp only at *
  obtain ⟨fs, Ha, Hf⟩ := id H1.1
  have H := H1
  have ho := o1
  refine gi_iload_n (q := 3) (i := 1) C (dm_Mo_again 2 rfl) rfl rfl rfl ?_
  refine gi_bipush (q := 5) (v := 14) C (dm_Mo_again 3 rfl) rfl (by decide) ?_
  refine gi_icmp_ge (q := 8) (tgt := 86) C (dm_Mo_again 4 rfl) rfl (by decide) (fun c5 => ?_) (fun c5 => ?_)
  · have jl : j = 14 := by
      rcases Nat.lt_or_ge j (14) with q | q
      · exact absurd c5 (Int32.not_le.mpr (nI_lt (b := 14) q (by omega)))
      · omega
    subst jl
    refine gi_aload_n (q := 87) (i := 0) C (dm_Mo_again 55 rfl) rfl rfl rfl ?_
    refine gi_aload_n (q := 88) (i := 0) C (dm_Mo_again 56 rfl) rfl rfl rfl ?_
    refine gi_get (q := 91) C (dm_Mo_again 57 rfl) rfl fl_Mo_360 Ha (mo_g66 Hf) ?_
    refine gi_put (q := 94) C (dm_Mo_again 58 rfl) rfl fl_Mo_357 fp_Mo_58 Ha (by rw [Hf.1]; decide) rfl rfl ?_
    refine gi_genM (H.putI Ha Hf (by decide) rfl) (ho.up (by omega) (by omega)) (fun y H ho => ?_)
    obtain ⟨fs, Ha, Hf⟩ := id H.1
    refine gi_vret C hr (dm_Mo_again 59 rfl) ?_
    refine ⟨rfl, rfl, _, _, _, H, ho, ⟨fun j q => by unfold upS; rw [if_neg q], r1.2.1, r1.2.2⟩, rfl, c1⟩
  · have jl : j < 14 := by
      rcases Nat.lt_or_ge j (14) with q | q
      · exact q
      · exact absurd (nI_le (a := 14) q (by omega)) c5
    refine gi_aload_n (q := 9) (i := 0) C (dm_Mo_again 5 rfl) rfl rfl rfl ?_
    refine gi_get (q := 12) C (dm_Mo_again 6 rfl) rfl fl_Mo_104 Ha (mo_g52 Hf) ?_
    refine gi_iload_n (q := 13) (i := 1) C (dm_Mo_again 7 rfl) rfl rfl rfl ?_
    refine gi_aload_n (q := 14) (i := 0) C (dm_Mo_again 8 rfl) rfl rfl rfl ?_
    refine gi_get (q := 17) C (dm_Mo_again 9 rfl) rfl fl_Mo_122 Ha (mo_g60 Hf) ?_
    refine gi_iload_n (q := 18) (i := 1) C (dm_Mo_again 10 rfl) rfl rfl rfl ?_
    refine gi_lald (q := 19) C (dm_Mo_again 11 rfl) rfl rfl (mo_a60 H) (inN jl (by decide)) ?_
    refine gi_last (q := 20) C (dm_Mo_again 12 rfl) rfl rfl (mo_a52 H) (inN jl (by decide)) ?_
    refine gi_genM (H.setJ (p := 28) (k := 52) (by decide) rfl rfl rfl (by omega)) (ho.up (by omega) (by omega)) (fun y H ho => ?_)
    obtain ⟨fs, Ha, Hf⟩ := id H.1
    refine gi_aload_n (q := 21) (i := 0) C (dm_Mo_again 13 rfl) rfl rfl rfl ?_
    refine gi_get (q := 24) C (dm_Mo_again 14 rfl) rfl fl_Mo_107 Ha (mo_g53 Hf) ?_
    refine gi_iload_n (q := 25) (i := 1) C (dm_Mo_again 15 rfl) rfl rfl rfl ?_
    refine gi_aload_n (q := 26) (i := 0) C (dm_Mo_again 16 rfl) rfl rfl rfl ?_
    refine gi_get (q := 29) C (dm_Mo_again 17 rfl) rfl fl_Mo_125 Ha (mo_g61 Hf) ?_
    refine gi_iload_n (q := 30) (i := 1) C (dm_Mo_again 18 rfl) rfl rfl rfl ?_
    refine gi_lald (q := 31) C (dm_Mo_again 19 rfl) rfl rfl (mo_a61 H) (inN jl (by decide)) ?_
    refine gi_last (q := 32) C (dm_Mo_again 20 rfl) rfl rfl (mo_a53 H) (inN jl (by decide)) ?_
    refine gi_genM (H.setJ (p := 29) (k := 53) (by decide) rfl rfl rfl (by omega)) (ho.up (by omega) (by omega)) (fun y H ho => ?_)
    obtain ⟨fs, Ha, Hf⟩ := id H.1
    refine gi_aload_n (q := 33) (i := 0) C (dm_Mo_again 21 rfl) rfl rfl rfl ?_
    refine gi_get (q := 36) C (dm_Mo_again 22 rfl) rfl fl_Mo_110 Ha (mo_g54 Hf) ?_
    refine gi_iload_n (q := 37) (i := 1) C (dm_Mo_again 23 rfl) rfl rfl rfl ?_
    refine gi_aload_n (q := 38) (i := 0) C (dm_Mo_again 24 rfl) rfl rfl rfl ?_
    refine gi_get (q := 41) C (dm_Mo_again 25 rfl) rfl fl_Mo_128 Ha (mo_g62 Hf) ?_
    refine gi_iload_n (q := 42) (i := 1) C (dm_Mo_again 26 rfl) rfl rfl rfl ?_
    refine gi_lald (q := 43) C (dm_Mo_again 27 rfl) rfl rfl (mo_a62 H) (inN jl (by decide)) ?_
    refine gi_last (q := 44) C (dm_Mo_again 28 rfl) rfl rfl (mo_a54 H) (inN jl (by decide)) ?_
    refine gi_genM (H.setJ (p := 30) (k := 54) (by decide) rfl rfl rfl (by omega)) (ho.up (by omega) (by omega)) (fun y H ho => ?_)
    obtain ⟨fs, Ha, Hf⟩ := id H.1
    refine gi_aload_n (q := 45) (i := 0) C (dm_Mo_again 29 rfl) rfl rfl rfl ?_
    refine gi_get (q := 48) C (dm_Mo_again 30 rfl) rfl fl_Mo_113 Ha (mo_g55 Hf) ?_
    refine gi_iload_n (q := 49) (i := 1) C (dm_Mo_again 31 rfl) rfl rfl rfl ?_
    refine gi_aload_n (q := 50) (i := 0) C (dm_Mo_again 32 rfl) rfl rfl rfl ?_
    refine gi_get (q := 53) C (dm_Mo_again 33 rfl) rfl fl_Mo_131 Ha (mo_g63 Hf) ?_
    refine gi_iload_n (q := 54) (i := 1) C (dm_Mo_again 34 rfl) rfl rfl rfl ?_
    refine gi_iald (q := 55) C (dm_Mo_again 35 rfl) rfl rfl (mo_a63 H) (inN jl (by decide)) ?_
    refine gi_iast (q := 56) C (dm_Mo_again 36 rfl) rfl rfl (mo_a55 H) (inN jl (by decide)) ?_
    refine gi_genM (H.setI (p := 31) (k := 55) (by decide) rfl rfl (by decide) rfl (by omega)) (ho.up (by omega) (by omega)) (fun y H ho => ?_)
    obtain ⟨fs, Ha, Hf⟩ := id H.1
    refine gi_aload_n (q := 57) (i := 0) C (dm_Mo_again 37 rfl) rfl rfl rfl ?_
    refine gi_get (q := 60) C (dm_Mo_again 38 rfl) rfl fl_Mo_116 Ha (mo_g56 Hf) ?_
    refine gi_iload_n (q := 61) (i := 1) C (dm_Mo_again 39 rfl) rfl rfl rfl ?_
    refine gi_aload_n (q := 62) (i := 0) C (dm_Mo_again 40 rfl) rfl rfl rfl ?_
    refine gi_get (q := 65) C (dm_Mo_again 41 rfl) rfl fl_Mo_134 Ha (mo_g64 Hf) ?_
    refine gi_iload_n (q := 66) (i := 1) C (dm_Mo_again 42 rfl) rfl rfl rfl ?_
    refine gi_zald (q := 67) C (dm_Mo_again 43 rfl) rfl rfl (mo_a64 H) (inN jl (by decide)) ?_
    refine gi_zast (q := 68) C (dm_Mo_again 44 rfl) rfl rfl (mo_a56 H) (inN jl (by decide)) ?_
    refine gi_genM (H.setI (p := 32) (k := 56) (by decide) rfl rfl (by decide) rfl (by omega)) (ho.up (by omega) (by omega)) (fun y H ho => ?_)
    obtain ⟨fs, Ha, Hf⟩ := id H.1
    refine gi_aload_n (q := 69) (i := 0) C (dm_Mo_again 45 rfl) rfl rfl rfl ?_
    refine gi_get (q := 72) C (dm_Mo_again 46 rfl) rfl fl_Mo_119 Ha (mo_g57 Hf) ?_
    refine gi_iload_n (q := 73) (i := 1) C (dm_Mo_again 47 rfl) rfl rfl rfl ?_
    refine gi_aload_n (q := 74) (i := 0) C (dm_Mo_again 48 rfl) rfl rfl rfl ?_
    refine gi_get (q := 77) C (dm_Mo_again 49 rfl) rfl fl_Mo_137 Ha (mo_g65 Hf) ?_
    refine gi_iload_n (q := 78) (i := 1) C (dm_Mo_again 50 rfl) rfl rfl rfl ?_
    refine gi_iald (q := 79) C (dm_Mo_again 51 rfl) rfl rfl (mo_a65 H) (inN jl (by decide)) ?_
    refine gi_iast (q := 80) C (dm_Mo_again 52 rfl) rfl rfl (mo_a57 H) (inN jl (by decide)) ?_
    refine gi_genM (H.setI (p := 33) (k := 57) (by decide) rfl rfl (by decide) rfl (by omega)) (ho.up (by omega) (by omega)) (fun y H ho => ?_)
    obtain ⟨fs, Ha, Hf⟩ := id H.1
    rw [nI_clamp (show j < 2 ^ 31 by omega)] at H
    have e60 : G1 60 = G 60 := r1.2.2 60 (by decide) (by decide) (by decide)
    have e61 : G1 61 = G 61 := r1.2.2 61 (by decide) (by decide) (by decide)
    have e62 : G1 62 = G 62 := r1.2.2 62 (by decide) (by decide) (by decide)
    have e63 : F1 63 = F 63 := r1.2.1 63 (by decide) (by decide) (by decide)
    have e64 : F1 64 = F 64 := r1.2.1 64 (by decide) (by decide) (by decide)
    have e65 : F1 65 = F 65 := r1.2.1 65 (by decide) (by decide) (by decide)
    refine gi_iinc (q := 83) (v := 1) C (dm_Mo_again 53 rfl) rfl rfl (by decide) (Nat.le_of_ble_eq_true rfl) ?_
    refine gi_goto (tgt := 2) C (dm_Mo_again 54 rfl) (by decide) ?_
    refine gi_close (ihj (j + 1) _ ⟨jl, _, _, H, ho, ⟨fun _ _ => rfl, fun a h1 h2 h3 => by simp [upA, h1, h2, h3]; exact r1.2.1 a h1 h2 h3, fun a h1 h2 h3 => by simp [upA, h1, h2, h3]; exact r1.2.2 a h1 h2 h3⟩, fun i hi => by
        by_cases q : i = j
        · subst q
          simp [cW, nrC, cK, upA, upd_is, updJ_is, e60, e61, e62, e63, e64, e65]
        · have z := c1 i (by omega)
          rw [← z]
          simp [cW, upA, upd_is, updJ_is, q]⟩ (by omega)) (List.forall_mem_cons.mpr ⟨(by first | rfl | (simp [gi_look, nI_1]; done)), List.forall_mem_cons.mpr ⟨(by first | rfl | (simp [gi_look, nI_1]; done)), fun _ h => absurd h List.not_mem_nil⟩⟩) rfl rfl rfl
set_option maxHeartbeats 4000000 in
set_option maxRecDepth 100000 in
theorem c_Mo_load {q p d : Nat} (hp : p < 480) (hq : q + p < 960) (e48 : S 48 = nI q) (e12 : F 12 p = nI d) (H : mo_at M S J F G h) : gi_T l V y_Mo_load b_Mo_load 4 none 0 0 0 0 [.ref M, .int (nI p)] n h (fun v n' h' => v = none ∧ n' = n ∧ ∃ S' F' G', mo_at M S' J F' G' h' ∧ outM M h h' ∧ frW S S' F F' G G' ∧ S' 58 = nI (6 + d) ∧ ∀ i, i < 14 → cW F' G' i = nrC (cS F G (14 * (q + p) + i))) := by
  refine gi_enter (by decide) (Nat.le_of_ble_eq_true rfl) ?_
  intro _ _ _ _ _ _ _ _ C hr hnm
  obtain ⟨fs, Ha, Hf⟩ := id H.1
  have ho : outM M h h := outM.rf
  refine gi_bipush (q := 2) (v := 14) C (dm_Mo_load 0 rfl) rfl (by decide) ?_
  refine gi_aload_n (q := 3) (i := 0) C (dm_Mo_load 1 rfl) rfl rfl rfl ?_
  refine gi_get (q := 6) C (dm_Mo_load 2 rfl) rfl fl_Mo_363 Ha (mo_g48 Hf) ?_
  refine gi_iload_n (q := 7) (i := 1) C (dm_Mo_load 3 rfl) rfl rfl rfl ?_
  refine gi_iadd (q := 8) C (dm_Mo_load 4 rfl) rfl ?_
  rw [e48, nI_add]
  refine gi_imul (q := 9) C (dm_Mo_load 5 rfl) rfl ?_
  rw [show (14 : Int32) = nI 14 from rfl, nI_ml]
  refine gi_istore_n (q := 10) (i := 2) C (dm_Mo_load 6 rfl) rfl rfl (Nat.le_of_ble_eq_true rfl) ?_
  refine gi_iconst (q := 11) (v := 0) C (dm_Mo_load 7 rfl) rfl (by decide) ?_
  refine gi_istore_n (q := 12) (i := 3) C (dm_Mo_load 8 rfl) rfl rfl (Nat.le_of_ble_eq_true rfl) ?_
  refine gi_while (σ := Nat) (fun j => 14 - j) (fun j => [(3, .int (nI j)), (2, .int (nI (14 * (q + p)))), (1, .int (nI p)), (0, .ref M)]) (fun _ => n) (fun _ => 0) (fun _ => 0) (fun j y' => j ≤ 14 ∧ ∃ F1 G1, mo_at M S J F1 G1 y' ∧ outM M h y' ∧ frW S S F F1 G G1 ∧ ∀ i, i < j → cW F1 G1 i = nrC (cS F G (14 * (q + p) + i))) 0 ⟨Nat.zero_le _, F, G, H, ho, ⟨fun _ _ => rfl, fun _ _ _ _ => rfl, fun _ _ _ _ => rfl⟩, fun i hi => absurd hi (Nat.not_lt_zero _)⟩ ?_ (List.forall_mem_cons.mpr ⟨(by first | rfl | (simp [gi_look]; done)), List.forall_mem_cons.mpr ⟨(by first | rfl | (simp [gi_look]; done)), List.forall_mem_cons.mpr ⟨(by first | rfl | (simp [gi_look]; done)), List.forall_mem_cons.mpr ⟨(by first | rfl | (simp [gi_look]; done)), fun _ h => absurd h List.not_mem_nil⟩⟩⟩⟩) rfl rfl rfl
  rintro j y' ⟨hj, F1, G1, H1, o1, r1, c1⟩ ihj
  try dsimp only at *
  obtain ⟨fs, Ha, Hf⟩ := id H1.1
  have H := H1
  have ho := o1
  refine gi_iload_n (q := 13) (i := 3) C (dm_Mo_load 9 rfl) rfl rfl rfl ?_
  refine gi_bipush (q := 15) (v := 14) C (dm_Mo_load 10 rfl) rfl (by decide) ?_
  refine gi_icmp_ge (q := 18) (tgt := 108) C (dm_Mo_load 11 rfl) rfl (by decide) (fun c15 => ?_) (fun c15 => ?_)
  · have jl : j = 14 := by
      rcases Nat.lt_or_ge j (14) with q | q
      · exact absurd c15 (Int32.not_le.mpr (nI_lt (b := 14) q (by omega)))
      · omega
    subst jl
    refine gi_aload_n (q := 109) (i := 0) C (dm_Mo_load 74 rfl) rfl rfl rfl ?_
    refine gi_bipush (q := 111) (v := 6) C (dm_Mo_load 75 rfl) rfl (by decide) ?_
    refine gi_aload_n (q := 112) (i := 0) C (dm_Mo_load 76 rfl) rfl rfl rfl ?_
    refine gi_get (q := 115) C (dm_Mo_load 77 rfl) rfl fl_Mo_38 Ha (mo_g12 Hf) ?_
    refine gi_iload_n (q := 116) (i := 1) C (dm_Mo_load 78 rfl) rfl rfl rfl ?_
    refine gi_iald (q := 117) C (dm_Mo_load 79 rfl) rfl rfl (mo_a12 H) (inN (show p < 480 by omega) (by decide)) ?_
    rw [nI_clamp (show p < 2 ^ 31 by omega), show F1 12 p = F 12 p from congrFun (r1.2.1 12 (by decide) (by decide) (by decide)) p, e12]
    refine gi_iadd (q := 118) C (dm_Mo_load 80 rfl) rfl ?_
    rw [show (6 : Int32) = nI 6 from rfl, nI_add]
    refine gi_put (q := 121) C (dm_Mo_load 81 rfl) rfl fl_Mo_357 fp_Mo_58 Ha (by rw [Hf.1]; decide) rfl rfl ?_
    refine gi_genM (H.putI Ha Hf (by decide) rfl) (ho.up (by omega) (by omega)) (fun y H ho => ?_)
    obtain ⟨fs, Ha, Hf⟩ := id H.1
    refine gi_vret C hr (dm_Mo_load 82 rfl) ?_
    refine ⟨rfl, rfl, _, _, _, H, ho, ⟨fun j q => by unfold upS; rw [if_neg q], r1.2.1, r1.2.2⟩, rfl, c1⟩
  · have jl : j < 14 := by
      rcases Nat.lt_or_ge j (14) with q | q
      · exact q
      · exact absurd (nI_le (a := 14) q (by omega)) c15
    refine gi_aload_n (q := 19) (i := 0) C (dm_Mo_load 12 rfl) rfl rfl rfl ?_
    refine gi_get (q := 22) C (dm_Mo_load 13 rfl) rfl fl_Mo_104 Ha (mo_g52 Hf) ?_
    refine gi_iload_n (q := 23) (i := 3) C (dm_Mo_load 14 rfl) rfl rfl rfl ?_
    refine gi_aload_n (q := 24) (i := 0) C (dm_Mo_load 15 rfl) rfl rfl rfl ?_
    refine gi_get (q := 27) C (dm_Mo_load 16 rfl) rfl fl_Mo_60 Ha (mo_g32 Hf) ?_
    refine gi_iload_n (q := 28) (i := 2) C (dm_Mo_load 17 rfl) rfl rfl rfl ?_
    refine gi_iload_n (q := 29) (i := 3) C (dm_Mo_load 18 rfl) rfl rfl rfl ?_
    refine gi_iadd (q := 30) C (dm_Mo_load 19 rfl) rfl ?_
    rw [nI_add]
    refine gi_lald (q := 31) C (dm_Mo_load 20 rfl) rfl rfl (mo_a32 H) (inN (show 14 * (q + p) + j < 13440 by omega) (by decide)) ?_
    refine gi_last (q := 32) C (dm_Mo_load 21 rfl) rfl rfl (mo_a52 H) (inN jl (by decide)) ?_
    refine gi_genM (H.setJ (p := 28) (k := 52) (by decide) rfl rfl rfl (by omega)) (ho.up (by omega) (by omega)) (fun y H ho => ?_)
    obtain ⟨fs, Ha, Hf⟩ := id H.1
    refine gi_aload_n (q := 33) (i := 0) C (dm_Mo_load 22 rfl) rfl rfl rfl ?_
    refine gi_get (q := 36) C (dm_Mo_load 23 rfl) rfl fl_Mo_107 Ha (mo_g53 Hf) ?_
    refine gi_iload_n (q := 37) (i := 3) C (dm_Mo_load 24 rfl) rfl rfl rfl ?_
    refine gi_aload_n (q := 38) (i := 0) C (dm_Mo_load 25 rfl) rfl rfl rfl ?_
    refine gi_get (q := 41) C (dm_Mo_load 26 rfl) rfl fl_Mo_64 Ha (mo_g33 Hf) ?_
    refine gi_iload_n (q := 42) (i := 2) C (dm_Mo_load 27 rfl) rfl rfl rfl ?_
    refine gi_iload_n (q := 43) (i := 3) C (dm_Mo_load 28 rfl) rfl rfl rfl ?_
    refine gi_iadd (q := 44) C (dm_Mo_load 29 rfl) rfl ?_
    rw [nI_add]
    refine gi_lald (q := 45) C (dm_Mo_load 30 rfl) rfl rfl (mo_a33 H) (inN (show 14 * (q + p) + j < 13440 by omega) (by decide)) ?_
    refine gi_last (q := 46) C (dm_Mo_load 31 rfl) rfl rfl (mo_a53 H) (inN jl (by decide)) ?_
    refine gi_genM (H.setJ (p := 29) (k := 53) (by decide) rfl rfl rfl (by omega)) (ho.up (by omega) (by omega)) (fun y H ho => ?_)
    obtain ⟨fs, Ha, Hf⟩ := id H.1
    refine gi_aload_n (q := 47) (i := 0) C (dm_Mo_load 32 rfl) rfl rfl rfl ?_
    refine gi_get (q := 50) C (dm_Mo_load 33 rfl) rfl fl_Mo_110 Ha (mo_g54 Hf) ?_
    refine gi_iload_n (q := 51) (i := 3) C (dm_Mo_load 34 rfl) rfl rfl rfl ?_
    refine gi_aload_n (q := 52) (i := 0) C (dm_Mo_load 35 rfl) rfl rfl rfl ?_
    refine gi_get (q := 55) C (dm_Mo_load 36 rfl) rfl fl_Mo_67 Ha (mo_g34 Hf) ?_
    refine gi_iload_n (q := 56) (i := 2) C (dm_Mo_load 37 rfl) rfl rfl rfl ?_
    refine gi_iload_n (q := 57) (i := 3) C (dm_Mo_load 38 rfl) rfl rfl rfl ?_
    refine gi_iadd (q := 58) C (dm_Mo_load 39 rfl) rfl ?_
    rw [nI_add]
    refine gi_lald (q := 59) C (dm_Mo_load 40 rfl) rfl rfl (mo_a34 H) (inN (show 14 * (q + p) + j < 13440 by omega) (by decide)) ?_
    refine gi_last (q := 60) C (dm_Mo_load 41 rfl) rfl rfl (mo_a54 H) (inN jl (by decide)) ?_
    refine gi_genM (H.setJ (p := 30) (k := 54) (by decide) rfl rfl rfl (by omega)) (ho.up (by omega) (by omega)) (fun y H ho => ?_)
    obtain ⟨fs, Ha, Hf⟩ := id H.1
    refine gi_aload_n (q := 61) (i := 0) C (dm_Mo_load 42 rfl) rfl rfl rfl ?_
    refine gi_get (q := 64) C (dm_Mo_load 43 rfl) rfl fl_Mo_113 Ha (mo_g55 Hf) ?_
    refine gi_iload_n (q := 65) (i := 3) C (dm_Mo_load 44 rfl) rfl rfl rfl ?_
    refine gi_aload_n (q := 66) (i := 0) C (dm_Mo_load 45 rfl) rfl rfl rfl ?_
    refine gi_get (q := 69) C (dm_Mo_load 46 rfl) rfl fl_Mo_70 Ha (mo_g35 Hf) ?_
    refine gi_iload_n (q := 70) (i := 2) C (dm_Mo_load 47 rfl) rfl rfl rfl ?_
    refine gi_iload_n (q := 71) (i := 3) C (dm_Mo_load 48 rfl) rfl rfl rfl ?_
    refine gi_iadd (q := 72) C (dm_Mo_load 49 rfl) rfl ?_
    rw [nI_add]
    refine gi_iald (q := 73) C (dm_Mo_load 50 rfl) rfl rfl (mo_a35 H) (inN (show 14 * (q + p) + j < 13440 by omega) (by decide)) ?_
    refine gi_iast (q := 74) C (dm_Mo_load 51 rfl) rfl rfl (mo_a55 H) (inN jl (by decide)) ?_
    refine gi_genM (H.setI (p := 31) (k := 55) (by decide) rfl rfl (by decide) rfl (by omega)) (ho.up (by omega) (by omega)) (fun y H ho => ?_)
    obtain ⟨fs, Ha, Hf⟩ := id H.1
    refine gi_aload_n (q := 75) (i := 0) C (dm_Mo_load 52 rfl) rfl rfl rfl ?_
    refine gi_get (q := 78) C (dm_Mo_load 53 rfl) rfl fl_Mo_116 Ha (mo_g56 Hf) ?_
    refine gi_iload_n (q := 79) (i := 3) C (dm_Mo_load 54 rfl) rfl rfl rfl ?_
    refine gi_aload_n (q := 80) (i := 0) C (dm_Mo_load 55 rfl) rfl rfl rfl ?_
    refine gi_get (q := 83) C (dm_Mo_load 56 rfl) rfl fl_Mo_73 Ha (mo_g36 Hf) ?_
    refine gi_iload_n (q := 84) (i := 2) C (dm_Mo_load 57 rfl) rfl rfl rfl ?_
    refine gi_iload_n (q := 85) (i := 3) C (dm_Mo_load 58 rfl) rfl rfl rfl ?_
    refine gi_iadd (q := 86) C (dm_Mo_load 59 rfl) rfl ?_
    rw [nI_add]
    refine gi_zald (q := 87) C (dm_Mo_load 60 rfl) rfl rfl (mo_a36 H) (inN (show 14 * (q + p) + j < 13440 by omega) (by decide)) ?_
    refine gi_zast (q := 88) C (dm_Mo_load 61 rfl) rfl rfl (mo_a56 H) (inN jl (by decide)) ?_
    refine gi_genM (H.setI (p := 32) (k := 56) (by decide) rfl rfl (by decide) rfl (by omega)) (ho.up (by omega) (by omega)) (fun y H ho => ?_)
    obtain ⟨fs, Ha, Hf⟩ := id H.1
    refine gi_aload_n (q := 89) (i := 0) C (dm_Mo_load 62 rfl) rfl rfl rfl ?_
    refine gi_get (q := 92) C (dm_Mo_load 63 rfl) rfl fl_Mo_119 Ha (mo_g57 Hf) ?_
    refine gi_iload_n (q := 93) (i := 3) C (dm_Mo_load 64 rfl) rfl rfl rfl ?_
    refine gi_aload_n (q := 94) (i := 0) C (dm_Mo_load 65 rfl) rfl rfl rfl ?_
    refine gi_get (q := 97) C (dm_Mo_load 66 rfl) rfl fl_Mo_76 Ha (mo_g37 Hf) ?_
    refine gi_iload_n (q := 98) (i := 2) C (dm_Mo_load 67 rfl) rfl rfl rfl ?_
    refine gi_iload_n (q := 99) (i := 3) C (dm_Mo_load 68 rfl) rfl rfl rfl ?_
    refine gi_iadd (q := 100) C (dm_Mo_load 69 rfl) rfl ?_
    rw [nI_add]
    refine gi_bald (q := 101) C (dm_Mo_load 70 rfl) rfl rfl (mo_a37 H) (inN (show 14 * (q + p) + j < 13440 by omega) (by decide)) ?_
    refine gi_iast (q := 102) C (dm_Mo_load 71 rfl) rfl rfl (mo_a57 H) (inN jl (by decide)) ?_
    refine gi_genM (H.setI (p := 33) (k := 57) (by decide) rfl rfl (by decide) rfl (by omega)) (ho.up (by omega) (by omega)) (fun y H ho => ?_)
    obtain ⟨fs, Ha, Hf⟩ := id H.1
    rw [nI_clamp (show j < 2 ^ 31 by omega), nI_clamp (show 14 * (q + p) + j < 2 ^ 31 by omega)] at H
    have e32 : G1 32 = G 32 := r1.2.2 32 (by decide) (by decide) (by decide)
    have e33 : G1 33 = G 33 := r1.2.2 33 (by decide) (by decide) (by decide)
    have e34 : G1 34 = G 34 := r1.2.2 34 (by decide) (by decide) (by decide)
    have e35 : F1 35 = F 35 := r1.2.1 35 (by decide) (by decide) (by decide)
    have e36 : F1 36 = F 36 := r1.2.1 36 (by decide) (by decide) (by decide)
    have e37 : F1 37 = F 37 := r1.2.1 37 (by decide) (by decide) (by decide)
    refine gi_iinc (q := 105) (v := 1) C (dm_Mo_load 72 rfl) rfl rfl (by decide) (Nat.le_of_ble_eq_true rfl) ?_
    refine gi_goto (tgt := 12) C (dm_Mo_load 73 rfl) (by decide) ?_
    refine gi_close (ihj (j + 1) _ ⟨jl, _, _, H, ho, ⟨fun _ _ => rfl, fun a h1 h2 h3 => by simp [upA, h1, h2, h3]; exact r1.2.1 a h1 h2 h3, fun a h1 h2 h3 => by simp [upA, h1, h2, h3]; exact r1.2.2 a h1 h2 h3⟩, fun i hi => by
        by_cases q : i = j
        · subst q
          simp [cW, nrC, cS, upA, upd_is, updJ_is, e32, e33, e34, e35, e36, e37]
        · have z := c1 i (by omega)
          rw [← z]
          simp [cW, upA, upd_is, updJ_is, q]⟩ (by omega)) (List.forall_mem_cons.mpr ⟨(by first | rfl | (simp [gi_look, nI_1]; done)), List.forall_mem_cons.mpr ⟨(by first | rfl | (simp [gi_look, nI_1]; done)), List.forall_mem_cons.mpr ⟨(by first | rfl | (simp [gi_look, nI_1]; done)), List.forall_mem_cons.mpr ⟨(by first | rfl | (simp [gi_look, nI_1]; done)), fun _ h => absurd h List.not_mem_nil⟩⟩⟩⟩) rfl rfl rfl
def telP (L j d : Nat) (f : Nat → Sl) (v : Av) : Nat → Sl := fun i => if i = j ∨ (L ≤ i ∧ i < L + d ∧ (f i).2 = nI j) then (v, (f i).2) else f i
theorem telP_2 {L j d i : Nat} {f : Nat → Sl} {v : Av} : (telP L j d f v i).2 = (f i).2 := by unfold telP; split <;> rfl
theorem telP_0 {L j : Nat} {f : Nat → Sl} {v : Av} : telP L j 0 f v = upF f j (v, (f j).2) := by
  funext i
  unfold telP upF
  by_cases q : i = j
  · rw [if_pos (Or.inl q), if_pos q, q]
  · rw [if_neg (by omega), if_neg q]
theorem telP_s {L j d : Nat} {f : Nat → Sl} {v : Av} (h : (f (L + d)).2 = nI j) : telP L j (d + 1) f v = upF (telP L j d f v) (L + d) (v, (f (L + d)).2) := by
  funext i
  unfold telP upF
  by_cases q : i = L + d
  · rw [if_pos q, if_pos (Or.inr ⟨by omega, by omega, by rw [q]; exact h⟩), q]
  · rw [if_neg q]
    dsimp only
    by_cases z : i = j ∨ (L ≤ i ∧ i < L + d ∧ (f i).2 = nI j)
    · rw [if_pos z, if_pos (z.imp id (fun y => ⟨y.1, by omega, y.2.2⟩))]
    · rw [if_neg z, if_neg (fun y => z (y.imp id (fun u => ⟨u.1, by omega, u.2.2⟩)))]
theorem telP_n {L j d : Nat} {f : Nat → Sl} {v : Av} (h : ¬ (f (L + d)).2 = nI j) : telP L j (d + 1) f v = telP L j d f v := by
  funext i
  unfold telP
  by_cases z : i = j ∨ (L ≤ i ∧ i < L + d ∧ (f i).2 = nI j)
  · rw [if_pos z, if_pos (z.imp id (fun y => ⟨y.1, by omega, y.2.2⟩))]
  · rw [if_neg z, if_neg]
    rintro (q | ⟨q1, q2, q3⟩)
    · exact z (Or.inl q)
    · by_cases e : i = L + d
      · rw [e] at q3; exact h q3
      · exact z (Or.inr ⟨q1, by omega, q3⟩)
theorem tell_P {L j : Nat} {f : Nat → Sl} {v : Av} (h6 : L ≤ 6) (hj : j < L) (hL : L ≤ n0) (hf : ∀ i, i < L → (f i).2 = -1) {c : Nat → Ce} (h : rwR L n0 (telP L j (n0 - L) f v) c) : rwR L n0 (tellF n0 f (nI j) v) c := fun i hi => by
  have e : tellF n0 f (nI j) v i = telP L j (n0 - L) f v i := by
    unfold tellF telP
    rw [if_neg (nI_ne_m1 (by omega)), nI_clamp (by omega)]
    by_cases q : i = j
    · rw [if_pos (Or.inl q), if_pos (Or.inl q)]
    · by_cases z : i < L
      · have m1 : ¬ (f i).2 = nI j := by rw [hf i z]; exact fun e => nI_ne_m1 (show j < 2 ^ 31 by omega) e.symm
        rw [if_neg (fun y => y.elim q (fun y => m1 y.2)), if_neg (fun y => y.elim q (fun y => m1 y.2.2))]
      · by_cases y : (f i).2 = nI j
        · rw [if_pos (Or.inr ⟨hi, y⟩), if_pos (Or.inr ⟨by omega, by omega, y⟩)]
        · rw [if_neg (fun u => u.elim q (fun u => y u.2)), if_neg (fun u => u.elim q (fun u => y u.2.2))]
  rw [e]
  exact h i hi
theorem cW_m {F' : Nat → Nat → Int32} (j : Nat) : F' 57 j = (cW F' G j).2.2.2.2.2 := rfl
set_option maxHeartbeats 4000000 in
set_option maxRecDepth 100000 in
theorem c_Mo_markedSpan (x : Sp) {mk : Int32} (hw : wkR L n0 f S F G) (hmk : mk = -1 ∨ ∃ j, j < L ∧ mk = nI j) (hf : ∀ i, i < L → (f i).2 = -1) (H : mo_at M S J F G h) : gi_T l V y_Mo_markedSpan b_Mo_markedSpan 9 none 1 27 0 0 [.ref M, .int mk, .long (eL x.1), .long (eL x.2.1), .long (eL x.2.2)] n h (fun v n' h' => v = none ∧ n' = n ∧ wkP M J h S F G L n0 (tellF n0 f mk (.inl x)) h') := by
  refine gi_enter (by decide) (Nat.le_of_ble_eq_true rfl) ?_
  intro _ _ _ _ _ _ _ _ C hr hnm
  obtain ⟨fs, Ha, Hf⟩ := id H.1
  have ho : outM M h h := outM.rf
  obtain ⟨-, -, h6, hL, h8⟩ := id hw
  rcases hmk with rfl | ⟨j, hj, rfl⟩
  · refine gi_iload_n (q := 1) (i := 1) C (dm_Mo_markedSpan 0 rfl) rfl rfl rfl ?_
    refine gi_if_ge (q := 4) (tgt := 5) C (dm_Mo_markedSpan 1 rfl) rfl (by decide) (fun c1 => ?_) (fun c1 => ?_)
    · exact absurd c1 (by decide)
    · refine gi_vret C hr (dm_Mo_markedSpan 2 rfl) ?_
      refine ⟨rfl, rfl, S, F, G, H, ho, frW.rf, ?_⟩
      unfold tellF
      rw [if_pos rfl]
      exact hw
  · refine gi_iload_n (q := 1) (i := 1) C (dm_Mo_markedSpan 0 rfl) rfl rfl rfl ?_
    refine gi_if_ge (q := 4) (tgt := 5) C (dm_Mo_markedSpan 1 rfl) rfl (by decide) (fun c1 => ?_) (fun c1 => ?_)
    · refine gi_aload_n (q := 6) (i := 0) C (dm_Mo_markedSpan 3 rfl) rfl rfl rfl ?_
      refine gi_iload_n (q := 7) (i := 1) C (dm_Mo_markedSpan 4 rfl) rfl rfl rfl ?_
      refine gi_lload_n (q := 8) (i := 2) C (dm_Mo_markedSpan 5 rfl) rfl rfl rfl ?_
      refine gi_lload (q := 10) C (dm_Mo_markedSpan 6 rfl) rfl rfl ?_
      refine gi_lload (q := 12) C (dm_Mo_markedSpan 7 rfl) rfl rfl ?_
      refine gi_callv 4 (q := 15) C (dm_Mo_markedSpan 8 rfl) rfl my_Mo_span lk_Mo_366 im_Mo_span rfl (c_Mo_span (show j < 14 by omega) (eL x.1) (eL x.2.1) (eL x.2.2) H) Ha rfl rfl ⟨(Nat.le_of_ble_eq_true rfl), (Nat.le_of_ble_eq_true rfl)⟩ (Nat.le_of_ble_eq_true rfl) ⟨(Nat.le_of_ble_eq_true rfl), (Nat.le_of_ble_eq_true rfl)⟩ (fun r12 n12 h12 e12 => ?_)
      obtain ⟨rfl, rfl, F2, G2, H2, o2, r2, c2⟩ := e12
      refine gi_bipush (q := 17) (v := 6) C (dm_Mo_markedSpan 9 rfl) rfl (by decide) ?_
      refine gi_istore (q := 19) C (dm_Mo_markedSpan 10 rfl) rfl (Nat.le_of_ble_eq_true rfl) ?_
      refine gi_while (σ := Nat) (fun d => (n0 - L) - d) (fun d => [(8, .int (nI (d + 6))), (2, .long (eL x.1)), (4, .long (eL x.2.1)), (6, .long (eL x.2.2)), (1, .int (nI j)), (0, .ref M)]) (fun _ => n12) (fun _ => 0) (fun _ => 0) (fun d y' => d ≤ n0 - L ∧ ∃ F1 G1, mo_at M S J F1 G1 y' ∧ outM M h y' ∧ frW S S F F1 G G1 ∧ rwR L n0 (telP L j d f (.inl x)) (cW F1 G1)) 0 ⟨Nat.zero_le _, F2, G2, H2, o2, r2, by rw [telP_0]; exact rw_up hw.2.1 h6 (by rw [c2, sl_lo hj]) ce_s (fun z => absurd z (by omega))⟩ ?_ (List.forall_mem_cons.mpr ⟨(by first | rfl | (simp [gi_look]; done)), List.forall_mem_cons.mpr ⟨(by first | rfl | (simp [gi_look]; done)), List.forall_mem_cons.mpr ⟨(by first | rfl | (simp [gi_look]; done)), List.forall_mem_cons.mpr ⟨(by first | rfl | (simp [gi_look]; done)), List.forall_mem_cons.mpr ⟨(by first | rfl | (simp [gi_look]; done)), List.forall_mem_cons.mpr ⟨(by first | rfl | (simp [gi_look]; done)), fun _ h => absurd h List.not_mem_nil⟩⟩⟩⟩⟩⟩) rfl rfl rfl
      rintro d y' ⟨hd, F1, G1, H1, o1, r1, w1⟩ ihd
      try dsimp only at *
      obtain ⟨fs1, Ha1, Hf1⟩ := id H1.1
      refine gi_iload (q := 21) C (dm_Mo_markedSpan 11 rfl) rfl rfl ?_
      refine gi_aload_n (q := 22) (i := 0) C (dm_Mo_markedSpan 12 rfl) rfl rfl rfl ?_
      refine gi_get (q := 25) C (dm_Mo_markedSpan 13 rfl) rfl fl_Mo_357 Ha1 (mo_g58 Hf1) ?_
      rw [hw.1]
      refine gi_icmp_ge (q := 28) (tgt := 56) C (dm_Mo_markedSpan 14 rfl) rfl (by decide) (fun c25 => ?_) (fun c25 => ?_)
      · have de : d = n0 - L := by
          rcases Nat.lt_or_ge d (n0 - L) with q | q
          · exact absurd c25 (Int32.not_le.mpr (nI_lt (show d + 6 < n0 - L + 6 by omega) (by omega)))
          · omega
        subst de
        refine gi_vret C hr (dm_Mo_markedSpan 29 rfl) ?_
        exact ⟨rfl, rfl, S, F1, G1, H1, o1, r1, hw.1, tell_P h6 hj hL hf w1, h6, hL, by omega⟩
      · have dl : d < n0 - L := by
          rcases Nat.lt_or_ge d (n0 - L) with q | q
          · exact q
          · exact absurd (nI_le (show n0 - L + 6 ≤ d + 6 by omega) (by omega)) c25
        refine gi_aload_n (q := 29) (i := 0) C (dm_Mo_markedSpan 15 rfl) rfl rfl rfl ?_
        refine gi_get (q := 32) C (dm_Mo_markedSpan 16 rfl) rfl fl_Mo_119 Ha1 (mo_g57 Hf1) ?_
        refine gi_iload (q := 34) C (dm_Mo_markedSpan 17 rfl) rfl rfl ?_
        refine gi_iald (q := 35) C (dm_Mo_markedSpan 18 rfl) rfl rfl (mo_a57 H1) (inN (show d + 6 < 14 by omega) (by decide)) ?_
        rw [nI_clamp (show d + 6 < 2 ^ 31 by omega), show F1 57 (d + 6) = (f (L + d)).2 from by
          have z := (w1 (L + d) (by omega)).2 (by omega)
          rw [sl_hi (by omega), telP_2, show L + d - L + 6 = d + 6 by omega] at z
          exact z]
        refine gi_iload_n (q := 36) (i := 1) C (dm_Mo_markedSpan 19 rfl) rfl rfl rfl ?_
        refine gi_icmp_ne (q := 39) (tgt := 50) C (dm_Mo_markedSpan 20 rfl) rfl (by decide) (fun c36 => ?_) (fun c36 => ?_)
        · refine gi_iinc (q := 53) (v := 1) C (dm_Mo_markedSpan 27 rfl) rfl rfl (by decide) (Nat.le_of_ble_eq_true rfl) ?_
          refine gi_goto (tgt := 19) C (dm_Mo_markedSpan 28 rfl) (by decide) ?_
          refine gi_close (ihd (d + 1) _ ⟨dl, F1, G1, H1, o1, r1, by rw [telP_n c36]; exact w1⟩ (by omega)) (List.forall_mem_cons.mpr ⟨(by first | rfl | (simp [gi_look, nI_1]; done) | (simp [gi_look, nI_1]; rw [show d + 1 + 6 = d + 6 + 1 by omega])), List.forall_mem_cons.mpr ⟨(by first | rfl | (simp [gi_look, nI_1]; done) | (simp [gi_look, nI_1]; rw [show d + 1 + 6 = d + 6 + 1 by omega])), List.forall_mem_cons.mpr ⟨(by first | rfl | (simp [gi_look, nI_1]; done) | (simp [gi_look, nI_1]; rw [show d + 1 + 6 = d + 6 + 1 by omega])), List.forall_mem_cons.mpr ⟨(by first | rfl | (simp [gi_look, nI_1]; done) | (simp [gi_look, nI_1]; rw [show d + 1 + 6 = d + 6 + 1 by omega])), List.forall_mem_cons.mpr ⟨(by first | rfl | (simp [gi_look, nI_1]; done) | (simp [gi_look, nI_1]; rw [show d + 1 + 6 = d + 6 + 1 by omega])), List.forall_mem_cons.mpr ⟨(by first | rfl | (simp [gi_look, nI_1]; done) | (simp [gi_look, nI_1]; rw [show d + 1 + 6 = d + 6 + 1 by omega])), fun _ h => absurd h List.not_mem_nil⟩⟩⟩⟩⟩⟩) rfl rfl rfl
        · refine gi_aload_n (q := 40) (i := 0) C (dm_Mo_markedSpan 21 rfl) rfl rfl rfl ?_
          refine gi_iload (q := 42) C (dm_Mo_markedSpan 22 rfl) rfl rfl ?_
          refine gi_lload_n (q := 43) (i := 2) C (dm_Mo_markedSpan 23 rfl) rfl rfl rfl ?_
          refine gi_lload (q := 45) C (dm_Mo_markedSpan 24 rfl) rfl rfl ?_
          refine gi_lload (q := 47) C (dm_Mo_markedSpan 25 rfl) rfl rfl ?_
          refine gi_callv 4 (q := 50) C (dm_Mo_markedSpan 26 rfl) rfl my_Mo_span lk_Mo_366 im_Mo_span rfl (c_Mo_span (show d + 6 < 14 by omega) (eL x.1) (eL x.2.1) (eL x.2.2) H1) Ha1 rfl rfl ⟨(Nat.le_of_ble_eq_true rfl), (Nat.le_of_ble_eq_true rfl)⟩ (Nat.le_of_ble_eq_true rfl) ⟨(Nat.le_of_ble_eq_true rfl), (Nat.le_of_ble_eq_true rfl)⟩ (fun r47 n47 h47 e47 => ?_)
          obtain ⟨rfl, rfl, F2, G2, H2, o2, r2, c2⟩ := e47
          have mq : (f (L + d)).2 = nI j := c36
          refine gi_iinc (q := 53) (v := 1) C (dm_Mo_markedSpan 27 rfl) rfl rfl (by decide) (Nat.le_of_ble_eq_true rfl) ?_
          refine gi_goto (tgt := 19) C (dm_Mo_markedSpan 28 rfl) (by decide) ?_
          refine gi_close (ihd (d + 1) _ ⟨dl, F2, G2, H2, o1.tr o2, r1.tr r2, by
              rw [telP_s mq]
              exact rw_up w1 h6 (by rw [c2, sl_hi (by omega), show L + d - L + 6 = d + 6 by omega]) ce_s (fun _ => by
                have z := (w1 (L + d) (by omega)).2 (by omega)
                rw [sl_hi (by omega), telP_2, show L + d - L + 6 = d + 6 by omega] at z
                exact z)⟩ (by omega)) (List.forall_mem_cons.mpr ⟨(by first | rfl | (simp [gi_look, nI_1]; done) | (simp [gi_look, nI_1]; rw [show d + 1 + 6 = d + 6 + 1 by omega])), List.forall_mem_cons.mpr ⟨(by first | rfl | (simp [gi_look, nI_1]; done) | (simp [gi_look, nI_1]; rw [show d + 1 + 6 = d + 6 + 1 by omega])), List.forall_mem_cons.mpr ⟨(by first | rfl | (simp [gi_look, nI_1]; done) | (simp [gi_look, nI_1]; rw [show d + 1 + 6 = d + 6 + 1 by omega])), List.forall_mem_cons.mpr ⟨(by first | rfl | (simp [gi_look, nI_1]; done) | (simp [gi_look, nI_1]; rw [show d + 1 + 6 = d + 6 + 1 by omega])), List.forall_mem_cons.mpr ⟨(by first | rfl | (simp [gi_look, nI_1]; done) | (simp [gi_look, nI_1]; rw [show d + 1 + 6 = d + 6 + 1 by omega])), List.forall_mem_cons.mpr ⟨(by first | rfl | (simp [gi_look, nI_1]; done) | (simp [gi_look, nI_1]; rw [show d + 1 + 6 = d + 6 + 1 by omega])), fun _ h => absurd h List.not_mem_nil⟩⟩⟩⟩⟩⟩) rfl rfl rfl
    · exact absurd (nI_le (a := 0) (Nat.zero_le _) (by omega)) c1
set_option maxHeartbeats 4000000 in
set_option maxRecDepth 100000 in
theorem c_Mo_markedSet (b : Int32) (q : Bool) {mk : Int32} (hw : wkR L n0 f S F G) (hmk : mk = -1 ∨ ∃ j, j < L ∧ mk = nI j) (hf : ∀ i, i < L → (f i).2 = -1) (H : mo_at M S J F G h) : gi_T l V y_Mo_markedSet b_Mo_markedSet 5 none 1 23 0 0 [.ref M, .int mk, .int b, .int (bI q)] n h (fun v n' h' => v = none ∧ n' = n ∧ wkP M J h S F G L n0 (tellF n0 f mk (.inr (b, q))) h') := by
  refine gi_enter (by decide) (Nat.le_of_ble_eq_true rfl) ?_
  intro _ _ _ _ _ _ _ _ C hr hnm
  obtain ⟨fs, Ha, Hf⟩ := id H.1
  have ho : outM M h h := outM.rf
  obtain ⟨-, -, h6, hL, h8⟩ := id hw
  rcases hmk with rfl | ⟨j, hj, rfl⟩
  · refine gi_iload_n (q := 1) (i := 1) C (dm_Mo_markedSet 0 rfl) rfl rfl rfl ?_
    refine gi_if_ge (q := 4) (tgt := 5) C (dm_Mo_markedSet 1 rfl) rfl (by decide) (fun c1 => ?_) (fun c1 => ?_)
    · exact absurd c1 (by decide)
    · refine gi_vret C hr (dm_Mo_markedSet 2 rfl) ?_
      refine ⟨rfl, rfl, S, F, G, H, ho, frW.rf, ?_⟩
      unfold tellF
      rw [if_pos rfl]
      exact hw
  · refine gi_iload_n (q := 1) (i := 1) C (dm_Mo_markedSet 0 rfl) rfl rfl rfl ?_
    refine gi_if_ge (q := 4) (tgt := 5) C (dm_Mo_markedSet 1 rfl) rfl (by decide) (fun c1 => ?_) (fun c1 => ?_)
    · refine gi_aload_n (q := 6) (i := 0) C (dm_Mo_markedSet 3 rfl) rfl rfl rfl ?_
      refine gi_iload_n (q := 7) (i := 1) C (dm_Mo_markedSet 4 rfl) rfl rfl rfl ?_
      refine gi_iload_n (q := 8) (i := 2) C (dm_Mo_markedSet 5 rfl) rfl rfl rfl ?_
      refine gi_iload_n (q := 9) (i := 3) C (dm_Mo_markedSet 6 rfl) rfl rfl rfl ?_
      refine gi_callv 3 (q := 12) C (dm_Mo_markedSet 7 rfl) rfl my_Mo_setOf lk_Mo_370 im_Mo_setOf rfl (c_Mo_setOf (show j < 14 by omega) b q H) Ha rfl rfl ⟨(Nat.le_of_ble_eq_true rfl), (Nat.le_of_ble_eq_true rfl)⟩ (Nat.le_of_ble_eq_true rfl) ⟨(Nat.le_of_ble_eq_true rfl), (Nat.le_of_ble_eq_true rfl)⟩ (fun r9 n9 h9 e9 => ?_)
      obtain ⟨rfl, rfl, F2, G2, H2, o2, r2, c2⟩ := e9
      refine gi_bipush (q := 14) (v := 6) C (dm_Mo_markedSet 8 rfl) rfl (by decide) ?_
      refine gi_istore (q := 16) C (dm_Mo_markedSet 9 rfl) rfl (Nat.le_of_ble_eq_true rfl) ?_
      refine gi_while (σ := Nat) (fun d => (n0 - L) - d) (fun d => [(4, .int (nI (d + 6))), (2, .int b), (3, .int (bI q)), (1, .int (nI j)), (0, .ref M)]) (fun _ => n9) (fun _ => 0) (fun _ => 0) (fun d y' => d ≤ n0 - L ∧ ∃ F1 G1, mo_at M S J F1 G1 y' ∧ outM M h y' ∧ frW S S F F1 G G1 ∧ rwR L n0 (telP L j d f (.inr (b, q))) (cW F1 G1)) 0 ⟨Nat.zero_le _, F2, G2, H2, o2, r2, by rw [telP_0]; exact rw_up hw.2.1 h6 (by rw [c2, sl_lo hj]) ce_t (fun z => absurd z (by omega))⟩ ?_ (List.forall_mem_cons.mpr ⟨(by first | rfl | (simp [gi_look]; done)), List.forall_mem_cons.mpr ⟨(by first | rfl | (simp [gi_look]; done)), List.forall_mem_cons.mpr ⟨(by first | rfl | (simp [gi_look]; done)), List.forall_mem_cons.mpr ⟨(by first | rfl | (simp [gi_look]; done)), List.forall_mem_cons.mpr ⟨(by first | rfl | (simp [gi_look]; done)), fun _ h => absurd h List.not_mem_nil⟩⟩⟩⟩⟩) rfl rfl rfl
      rintro d y' ⟨hd, F1, G1, H1, o1, r1, w1⟩ ihd
      try dsimp only at *
      obtain ⟨fs1, Ha1, Hf1⟩ := id H1.1
      refine gi_iload (q := 18) C (dm_Mo_markedSet 10 rfl) rfl rfl ?_
      refine gi_aload_n (q := 19) (i := 0) C (dm_Mo_markedSet 11 rfl) rfl rfl rfl ?_
      refine gi_get (q := 22) C (dm_Mo_markedSet 12 rfl) rfl fl_Mo_357 Ha1 (mo_g58 Hf1) ?_
      rw [hw.1]
      refine gi_icmp_ge (q := 25) (tgt := 50) C (dm_Mo_markedSet 13 rfl) rfl (by decide) (fun c22 => ?_) (fun c22 => ?_)
      · have de : d = n0 - L := by
          rcases Nat.lt_or_ge d (n0 - L) with q | q
          · exact absurd c22 (Int32.not_le.mpr (nI_lt (show d + 6 < n0 - L + 6 by omega) (by omega)))
          · omega
        subst de
        refine gi_vret C hr (dm_Mo_markedSet 27 rfl) ?_
        exact ⟨rfl, rfl, S, F1, G1, H1, o1, r1, hw.1, tell_P h6 hj hL hf w1, h6, hL, by omega⟩
      · have dl : d < n0 - L := by
          rcases Nat.lt_or_ge d (n0 - L) with q | q
          · exact q
          · exact absurd (nI_le (show n0 - L + 6 ≤ d + 6 by omega) (by omega)) c22
        refine gi_aload_n (q := 26) (i := 0) C (dm_Mo_markedSet 14 rfl) rfl rfl rfl ?_
        refine gi_get (q := 29) C (dm_Mo_markedSet 15 rfl) rfl fl_Mo_119 Ha1 (mo_g57 Hf1) ?_
        refine gi_iload (q := 31) C (dm_Mo_markedSet 16 rfl) rfl rfl ?_
        refine gi_iald (q := 32) C (dm_Mo_markedSet 17 rfl) rfl rfl (mo_a57 H1) (inN (show d + 6 < 14 by omega) (by decide)) ?_
        rw [nI_clamp (show d + 6 < 2 ^ 31 by omega), show F1 57 (d + 6) = (f (L + d)).2 from by
          have z := (w1 (L + d) (by omega)).2 (by omega)
          rw [sl_hi (by omega), telP_2, show L + d - L + 6 = d + 6 by omega] at z
          exact z]
        refine gi_iload_n (q := 33) (i := 1) C (dm_Mo_markedSet 18 rfl) rfl rfl rfl ?_
        refine gi_icmp_ne (q := 36) (tgt := 44) C (dm_Mo_markedSet 19 rfl) rfl (by decide) (fun c33 => ?_) (fun c33 => ?_)
        · refine gi_iinc (q := 47) (v := 1) C (dm_Mo_markedSet 25 rfl) rfl rfl (by decide) (Nat.le_of_ble_eq_true rfl) ?_
          refine gi_goto (tgt := 16) C (dm_Mo_markedSet 26 rfl) (by decide) ?_
          refine gi_close (ihd (d + 1) _ ⟨dl, F1, G1, H1, o1, r1, by rw [telP_n c33]; exact w1⟩ (by omega)) (List.forall_mem_cons.mpr ⟨(by first | rfl | (simp [gi_look, nI_1]; done) | (simp [gi_look, nI_1]; rw [show d + 1 + 6 = d + 6 + 1 by omega])), List.forall_mem_cons.mpr ⟨(by first | rfl | (simp [gi_look, nI_1]; done) | (simp [gi_look, nI_1]; rw [show d + 1 + 6 = d + 6 + 1 by omega])), List.forall_mem_cons.mpr ⟨(by first | rfl | (simp [gi_look, nI_1]; done) | (simp [gi_look, nI_1]; rw [show d + 1 + 6 = d + 6 + 1 by omega])), List.forall_mem_cons.mpr ⟨(by first | rfl | (simp [gi_look, nI_1]; done) | (simp [gi_look, nI_1]; rw [show d + 1 + 6 = d + 6 + 1 by omega])), List.forall_mem_cons.mpr ⟨(by first | rfl | (simp [gi_look, nI_1]; done) | (simp [gi_look, nI_1]; rw [show d + 1 + 6 = d + 6 + 1 by omega])), fun _ h => absurd h List.not_mem_nil⟩⟩⟩⟩⟩) rfl rfl rfl
        · refine gi_aload_n (q := 37) (i := 0) C (dm_Mo_markedSet 20 rfl) rfl rfl rfl ?_
          refine gi_iload (q := 39) C (dm_Mo_markedSet 21 rfl) rfl rfl ?_
          refine gi_iload_n (q := 40) (i := 2) C (dm_Mo_markedSet 22 rfl) rfl rfl rfl ?_
          refine gi_iload_n (q := 41) (i := 3) C (dm_Mo_markedSet 23 rfl) rfl rfl rfl ?_
          refine gi_callv 3 (q := 44) C (dm_Mo_markedSet 24 rfl) rfl my_Mo_setOf lk_Mo_370 im_Mo_setOf rfl (c_Mo_setOf (show d + 6 < 14 by omega) b q H1) Ha1 rfl rfl ⟨(Nat.le_of_ble_eq_true rfl), (Nat.le_of_ble_eq_true rfl)⟩ (Nat.le_of_ble_eq_true rfl) ⟨(Nat.le_of_ble_eq_true rfl), (Nat.le_of_ble_eq_true rfl)⟩ (fun r41 n41 h41 e41 => ?_)
          obtain ⟨rfl, rfl, F2, G2, H2, o2, r2, c2⟩ := e41
          have mq : (f (L + d)).2 = nI j := c33
          refine gi_iinc (q := 47) (v := 1) C (dm_Mo_markedSet 25 rfl) rfl rfl (by decide) (Nat.le_of_ble_eq_true rfl) ?_
          refine gi_goto (tgt := 16) C (dm_Mo_markedSet 26 rfl) (by decide) ?_
          refine gi_close (ihd (d + 1) _ ⟨dl, F2, G2, H2, o1.tr o2, r1.tr r2, by
              rw [telP_s mq]
              exact rw_up w1 h6 (by rw [c2, sl_hi (by omega), show L + d - L + 6 = d + 6 by omega]) ce_t (fun _ => by
                have z := (w1 (L + d) (by omega)).2 (by omega)
                rw [sl_hi (by omega), telP_2, show L + d - L + 6 = d + 6 by omega] at z
                exact z)⟩ (by omega)) (List.forall_mem_cons.mpr ⟨(by first | rfl | (simp [gi_look, nI_1]; done) | (simp [gi_look, nI_1]; rw [show d + 1 + 6 = d + 6 + 1 by omega])), List.forall_mem_cons.mpr ⟨(by first | rfl | (simp [gi_look, nI_1]; done) | (simp [gi_look, nI_1]; rw [show d + 1 + 6 = d + 6 + 1 by omega])), List.forall_mem_cons.mpr ⟨(by first | rfl | (simp [gi_look, nI_1]; done) | (simp [gi_look, nI_1]; rw [show d + 1 + 6 = d + 6 + 1 by omega])), List.forall_mem_cons.mpr ⟨(by first | rfl | (simp [gi_look, nI_1]; done) | (simp [gi_look, nI_1]; rw [show d + 1 + 6 = d + 6 + 1 by omega])), List.forall_mem_cons.mpr ⟨(by first | rfl | (simp [gi_look, nI_1]; done) | (simp [gi_look, nI_1]; rw [show d + 1 + 6 = d + 6 + 1 by omega])), fun _ h => absurd h List.not_mem_nil⟩⟩⟩⟩⟩) rfl rfl rfl
    · exact absurd (nI_le (a := 0) (Nat.zero_le _) (by omega)) c1
end RC2
