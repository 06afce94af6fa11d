-- needs: 78
section ST9
variable {l : Launch} {V : gi_V} {n : Nat} {h h' h0 : gi_H} {a pr bu fr to k m md : Nat} {P : Pm} {S : Nat → Int32} {x y nx ny ar ou be ab : mV} {Wk Wy En Lo : mR} {F : Fa} {Φ : Nat → mR} {T : Nat → Ty} {wd : Nat → Bool} {cb : Bool}
variable {f : Nat → Sl} {n0 i : Nat} {sn : Nat → Nat} {Ff : Fa} {Z : Fa × Bool} {hA hB : gi_H}
set_option maxHeartbeats 4000000 in
set_option maxRecDepth 100000 in
theorem c_St_opensNull_tt (bs mk : Int32) (Q : stO a pr bu fr to h0 S x y nx ny (tV bs true) ou be ab Wk Wy En Lo h) (G : isG Wk n0 f) (g14 : n0 ≤ 14) (e1 : (f n0).1 = .inr (bs, true)) (e2 : (f n0).2 = mk) (hm : mk = -1 ∨ ∃ j, j < 14 ∧ mk = nI j) : gi_T l V y_St_opensNull b_St_opensNull 3 (some .boolean) 3 65 0 0 [.ref a, .int (bI true), .int mk] n h (fun r n' h' => n' = n ∧ ∃ ou' Wy', stO a pr bu fr to h0 S x y nx ny (tV bs true) ou' be ab Wk Wy' En Lo h' ∧ ((nullF true n0 f = none ∧ r = some (.int 0)) ∨ ∃ g, nullF true n0 f = some g ∧ r = some (.int 1) ∧ isG Wy' n0 g)) := by
  refine gi_enter (by decide) (Nat.le_of_ble_eq_true rfl) ?_
  intro _ _ _ _ _ _ _ _ C hr hnm
  refine gi_aload_n (q := 1) (i := 0) C (dm_St_opensNull 0 rfl) rfl rfl rfl ?_
  refine gi_get (q := 4) C (dm_St_opensNull 1 rfl) rfl fl_St_55 (by first | exact Q61.ob | exact Q49.ob | exact Q38.ob | exact Q38.var_ | exact Q.ob | exact Q.var) rfl ?_
  refine gi_iload_n (q := 5) (i := 1) C (dm_St_opensNull 2 rfl) rfl rfl rfl ?_
  refine gi_if_eq (q := 8) (tgt := 12) C (dm_St_opensNull 3 rfl) rfl (by decide) (fun c5 => ?_) (fun c5 => ?_)
  · exact absurd c5 (by decide)
  · refine gi_iconst (q := 9) (v := 0) C (dm_St_opensNull 4 rfl) rfl (by decide) ?_
    refine gi_goto (tgt := 19) C (dm_St_opensNull 5 rfl) (by decide) ?_
    refine gi_iload_n (q := 20) (i := 1) C (dm_St_opensNull 9 rfl) rfl rfl rfl ?_
    refine gi_if_eq (q := 23) (tgt := 37) C (dm_St_opensNull 10 rfl) rfl (by decide) (fun c20 => ?_) (fun c20 => ?_)
    · exact absurd c20 (by decide)
    · refine gi_aload_n (q := 24) (i := 0) C (dm_St_opensNull 11 rfl) rfl rfl rfl ?_
      refine gi_get (q := 27) C (dm_St_opensNull 12 rfl) rfl fl_St_52 (by first | exact Q61.ob | exact Q49.ob | exact Q38.ob | exact Q38.var_ | exact Q.ob | exact Q.var) rfl ?_
      refine gi_get (q := 30) C (dm_St_opensNull 13 rfl) rfl fl_St_252 (by first | exact Q61.ob | exact Q49.ob | exact Q38.ob | exact Q38.var_ | exact Q.ob | exact Q.var) rfl ?_
      refine gi_if_eq (q := 33) (tgt := 37) C (dm_St_opensNull 14 rfl) rfl (by decide) (fun c30 => ?_) (fun c30 => ?_)
      · exact absurd c30 (show ¬ (1 : Int32) = 0 by decide)
      · refine gi_iconst (q := 34) (v := 1) C (dm_St_opensNull 15 rfl) rfl (by decide) ?_
        refine gi_goto (tgt := 38) C (dm_St_opensNull 16 rfl) (by decide) ?_
        refine gi_callv 2 (q := 41) C (dm_St_opensNull 18 rfl) rfl my_Va_beSet lk_St_113 im_Va_beSet rfl (c_Va_beSet (a + 64) _ 0 true Q.vou) Q.vou rfl rfl ⟨(Nat.le_of_ble_eq_true rfl), (Nat.le_of_ble_eq_true rfl)⟩ (Nat.le_of_ble_eq_true rfl) ⟨(Nat.le_of_ble_eq_true rfl), (Nat.le_of_ble_eq_true rfl)⟩ (fun r38 n38 h38 e38 => ?_)
        obtain ⟨rfl, rfl, rfl⟩ := e38
        have Q38 := Q.pou (tV 0 true)
        refine gi_aload_n (q := 42) (i := 0) C (dm_St_opensNull 19 rfl) rfl rfl rfl ?_
        refine gi_get (q := 45) C (dm_St_opensNull 20 rfl) rfl fl_St_27 (by first | exact Q61.ob | exact Q49.ob | exact Q38.ob | exact Q38.var_ | exact Q.ob | exact Q.var) rfl ?_
        refine gi_aload_n (q := 46) (i := 0) C (dm_St_opensNull 21 rfl) rfl rfl rfl ?_
        refine gi_get (q := 49) C (dm_St_opensNull 22 rfl) rfl fl_St_23 (by first | exact Q61.ob | exact Q49.ob | exact Q38.ob | exact Q38.var_ | exact Q.ob | exact Q.var) rfl ?_
        refine gi_callv 1 (q := 52) C (dm_St_opensNull 23 rfl) rfl my_Ro_copy lk_St_150 im_Ro_copy rfl (c_Ro_copy (by omega) (by omega) (by omega) g14 g14 Q38.wy Q38.wk G.1 G.wf) Q38.wy.1 rfl rfl ⟨(Nat.le_of_ble_eq_true rfl), (Nat.le_of_ble_eq_true rfl)⟩ (Nat.le_of_ble_eq_true rfl) ⟨(Nat.le_of_ble_eq_true rfl), (Nat.le_of_ble_eq_true rfl)⟩ (fun r49 n49 h49 e49 => ?_)
        obtain ⟨rfl, rfl, S49, O49⟩ := e49
        have Q49 := Q38.rWy S49 O49
        have G49 := rCp_G (R := Wy) G
        refine gi_aload_n (q := 53) (i := 0) C (dm_St_opensNull 24 rfl) rfl rfl rfl ?_
        refine gi_get (q := 56) C (dm_St_opensNull 25 rfl) rfl fl_St_27 (by first | exact Q61.ob | exact Q49.ob | exact Q38.ob | exact Q38.var_ | exact Q.ob | exact Q.var) rfl ?_
        refine gi_iload_n (q := 57) (i := 2) C (dm_St_opensNull 26 rfl) rfl rfl rfl ?_
        refine gi_aload_n (q := 58) (i := 0) C (dm_St_opensNull 27 rfl) rfl rfl rfl ?_
        refine gi_get (q := 61) C (dm_St_opensNull 28 rfl) rfl fl_St_55 (by first | exact Q61.ob | exact Q49.ob | exact Q38.ob | exact Q38.var_ | exact Q.ob | exact Q.var) rfl ?_
        refine gi_callv 2 (q := 64) C (dm_St_opensNull 29 rfl) rfl my_Ro_tell lk_St_214 im_Ro_tell rfl (s_tellWy (a + 64) (.inr (0, true)) mk Q49 G49 g14 hm (by omega) Q49.vou) Q49.wy.1 rfl rfl ⟨(Nat.le_of_ble_eq_true rfl), (Nat.le_of_ble_eq_true rfl)⟩ (Nat.le_of_ble_eq_true rfl) ⟨(Nat.le_of_ble_eq_true rfl), (Nat.le_of_ble_eq_true rfl)⟩ (fun r61 n61 h61 e61 => ?_)
        obtain ⟨rfl, rfl, wy61, Q61, G61⟩ := e61
        refine gi_aload_n (q := 65) (i := 0) C (dm_St_opensNull 30 rfl) rfl rfl rfl ?_
        refine gi_get (q := 68) C (dm_St_opensNull 31 rfl) rfl fl_St_55 (by first | exact Q61.ob | exact Q49.ob | exact Q38.ob | exact Q38.var_ | exact Q.ob | exact Q.var) rfl ?_
        refine gi_callv 0 (q := 71) C (dm_St_opensNull 32 rfl) rfl my_Va_isNothing lk_St_211 im_Va_isNothing rfl (c_Va_isNothing (a + 64) _ Q61.vou) Q61.vou rfl rfl ⟨(Nat.le_of_ble_eq_true rfl), (Nat.le_of_ble_eq_true rfl)⟩ (Nat.le_of_ble_eq_true rfl) ⟨(Nat.le_of_ble_eq_true rfl), (Nat.le_of_ble_eq_true rfl)⟩ (fun r68 n68 h68 e68 => ?_)
        obtain ⟨rfl, q68, u68⟩ := e68
        rw [q68, u68]
        refine gi_if_ne (q := 74) (tgt := 78) C (dm_St_opensNull 33 rfl) rfl (by decide) (fun c71 => ?_) (fun c71 => ?_)
        · refine gi_iconst (q := 79) (v := 0) C (dm_St_opensNull 36 rfl) rfl (by decide) ?_
          refine gi_zret C hr (dm_St_opensNull 37 rfl) rfl ?_
          refine ⟨rfl, _, _, Q61, ?_⟩
          first
            | exact absurd rfl c71
            | exact absurd c71 (by decide)
            | (refine Or.inr ⟨_, ?_, rfl, G61⟩
               unfold nullF
               rw [if_pos rfl, e1, e2]
               rfl)
        · refine gi_iconst (q := 75) (v := 1) C (dm_St_opensNull 34 rfl) rfl (by decide) ?_
          refine gi_goto (tgt := 79) C (dm_St_opensNull 35 rfl) (by decide) ?_
          refine gi_zret C hr (dm_St_opensNull 37 rfl) rfl ?_
          refine ⟨rfl, _, _, Q61, ?_⟩
          first
            | exact absurd rfl c71
            | exact absurd c71 (by decide)
            | (refine Or.inr ⟨_, ?_, rfl, G61⟩
               unfold nullF
               rw [if_pos rfl, e1, e2]
               rfl)
set_option maxHeartbeats 4000000 in
set_option maxRecDepth 100000 in
theorem c_St_opensNull_tf (bs mk : Int32) (Q : stO a pr bu fr to h0 S x y nx ny (tV bs false) ou be ab Wk Wy En Lo h) (G : isG Wk n0 f) (g14 : n0 ≤ 14) (e1 : (f n0).1 = .inr (bs, false)) (e2 : (f n0).2 = mk) (hm : mk = -1 ∨ ∃ j, j < 14 ∧ mk = nI j) : gi_T l V y_St_opensNull b_St_opensNull 3 (some .boolean) 3 65 0 0 [.ref a, .int (bI true), .int mk] n h (fun r n' h' => n' = n ∧ ∃ ou' Wy', stO a pr bu fr to h0 S x y nx ny (tV bs false) ou' be ab Wk Wy' En Lo h' ∧ ((nullF true n0 f = none ∧ r = some (.int 0)) ∨ ∃ g, nullF true n0 f = some g ∧ r = some (.int 1) ∧ isG Wy' n0 g)) := by
  refine gi_enter (by decide) (Nat.le_of_ble_eq_true rfl) ?_
  intro _ _ _ _ _ _ _ _ C hr hnm
  refine gi_aload_n (q := 1) (i := 0) C (dm_St_opensNull 0 rfl) rfl rfl rfl ?_
  refine gi_get (q := 4) C (dm_St_opensNull 1 rfl) rfl fl_St_55 (by first | exact Q61.ob | exact Q49.ob | exact Q38.ob | exact Q38.var_ | exact Q.ob | exact Q.var) rfl ?_
  refine gi_iload_n (q := 5) (i := 1) C (dm_St_opensNull 2 rfl) rfl rfl rfl ?_
  refine gi_if_eq (q := 8) (tgt := 12) C (dm_St_opensNull 3 rfl) rfl (by decide) (fun c5 => ?_) (fun c5 => ?_)
  · exact absurd c5 (by decide)
  · refine gi_iconst (q := 9) (v := 0) C (dm_St_opensNull 4 rfl) rfl (by decide) ?_
    refine gi_goto (tgt := 19) C (dm_St_opensNull 5 rfl) (by decide) ?_
    refine gi_iload_n (q := 20) (i := 1) C (dm_St_opensNull 9 rfl) rfl rfl rfl ?_
    refine gi_if_eq (q := 23) (tgt := 37) C (dm_St_opensNull 10 rfl) rfl (by decide) (fun c20 => ?_) (fun c20 => ?_)
    · exact absurd c20 (by decide)
    · refine gi_aload_n (q := 24) (i := 0) C (dm_St_opensNull 11 rfl) rfl rfl rfl ?_
      refine gi_get (q := 27) C (dm_St_opensNull 12 rfl) rfl fl_St_52 (by first | exact Q61.ob | exact Q49.ob | exact Q38.ob | exact Q38.var_ | exact Q.ob | exact Q.var) rfl ?_
      refine gi_get (q := 30) C (dm_St_opensNull 13 rfl) rfl fl_St_252 (by first | exact Q61.ob | exact Q49.ob | exact Q38.ob | exact Q38.var_ | exact Q.ob | exact Q.var) rfl ?_
      refine gi_if_eq (q := 33) (tgt := 37) C (dm_St_opensNull 14 rfl) rfl (by decide) (fun c30 => ?_) (fun c30 => ?_)
      · refine gi_iconst (q := 38) (v := 0) C (dm_St_opensNull 17 rfl) rfl (by decide) ?_
        refine gi_callv 2 (q := 41) C (dm_St_opensNull 18 rfl) rfl my_Va_beSet lk_St_113 im_Va_beSet rfl (c_Va_beSet (a + 64) _ 0 false Q.vou) Q.vou rfl rfl ⟨(Nat.le_of_ble_eq_true rfl), (Nat.le_of_ble_eq_true rfl)⟩ (Nat.le_of_ble_eq_true rfl) ⟨(Nat.le_of_ble_eq_true rfl), (Nat.le_of_ble_eq_true rfl)⟩ (fun r38 n38 h38 e38 => ?_)
        obtain ⟨rfl, rfl, rfl⟩ := e38
        have Q38 := Q.pou (tV 0 false)
        refine gi_aload_n (q := 42) (i := 0) C (dm_St_opensNull 19 rfl) rfl rfl rfl ?_
        refine gi_get (q := 45) C (dm_St_opensNull 20 rfl) rfl fl_St_27 (by first | exact Q61.ob | exact Q49.ob | exact Q38.ob | exact Q38.var_ | exact Q.ob | exact Q.var) rfl ?_
        refine gi_aload_n (q := 46) (i := 0) C (dm_St_opensNull 21 rfl) rfl rfl rfl ?_
        refine gi_get (q := 49) C (dm_St_opensNull 22 rfl) rfl fl_St_23 (by first | exact Q61.ob | exact Q49.ob | exact Q38.ob | exact Q38.var_ | exact Q.ob | exact Q.var) rfl ?_
        refine gi_callv 1 (q := 52) C (dm_St_opensNull 23 rfl) rfl my_Ro_copy lk_St_150 im_Ro_copy rfl (c_Ro_copy (by omega) (by omega) (by omega) g14 g14 Q38.wy Q38.wk G.1 G.wf) Q38.wy.1 rfl rfl ⟨(Nat.le_of_ble_eq_true rfl), (Nat.le_of_ble_eq_true rfl)⟩ (Nat.le_of_ble_eq_true rfl) ⟨(Nat.le_of_ble_eq_true rfl), (Nat.le_of_ble_eq_true rfl)⟩ (fun r49 n49 h49 e49 => ?_)
        obtain ⟨rfl, rfl, S49, O49⟩ := e49
        have Q49 := Q38.rWy S49 O49
        have G49 := rCp_G (R := Wy) G
        refine gi_aload_n (q := 53) (i := 0) C (dm_St_opensNull 24 rfl) rfl rfl rfl ?_
        refine gi_get (q := 56) C (dm_St_opensNull 25 rfl) rfl fl_St_27 (by first | exact Q61.ob | exact Q49.ob | exact Q38.ob | exact Q38.var_ | exact Q.ob | exact Q.var) rfl ?_
        refine gi_iload_n (q := 57) (i := 2) C (dm_St_opensNull 26 rfl) rfl rfl rfl ?_
        refine gi_aload_n (q := 58) (i := 0) C (dm_St_opensNull 27 rfl) rfl rfl rfl ?_
        refine gi_get (q := 61) C (dm_St_opensNull 28 rfl) rfl fl_St_55 (by first | exact Q61.ob | exact Q49.ob | exact Q38.ob | exact Q38.var_ | exact Q.ob | exact Q.var) rfl ?_
        refine gi_callv 2 (q := 64) C (dm_St_opensNull 29 rfl) rfl my_Ro_tell lk_St_214 im_Ro_tell rfl (s_tellWy (a + 64) (.inr (0, false)) mk Q49 G49 g14 hm (by omega) Q49.vou) Q49.wy.1 rfl rfl ⟨(Nat.le_of_ble_eq_true rfl), (Nat.le_of_ble_eq_true rfl)⟩ (Nat.le_of_ble_eq_true rfl) ⟨(Nat.le_of_ble_eq_true rfl), (Nat.le_of_ble_eq_true rfl)⟩ (fun r61 n61 h61 e61 => ?_)
        obtain ⟨rfl, rfl, wy61, Q61, G61⟩ := e61
        refine gi_aload_n (q := 65) (i := 0) C (dm_St_opensNull 30 rfl) rfl rfl rfl ?_
        refine gi_get (q := 68) C (dm_St_opensNull 31 rfl) rfl fl_St_55 (by first | exact Q61.ob | exact Q49.ob | exact Q38.ob | exact Q38.var_ | exact Q.ob | exact Q.var) rfl ?_
        refine gi_callv 0 (q := 71) C (dm_St_opensNull 32 rfl) rfl my_Va_isNothing lk_St_211 im_Va_isNothing rfl (c_Va_isNothing (a + 64) _ Q61.vou) Q61.vou rfl rfl ⟨(Nat.le_of_ble_eq_true rfl), (Nat.le_of_ble_eq_true rfl)⟩ (Nat.le_of_ble_eq_true rfl) ⟨(Nat.le_of_ble_eq_true rfl), (Nat.le_of_ble_eq_true rfl)⟩ (fun r68 n68 h68 e68 => ?_)
        obtain ⟨rfl, q68, u68⟩ := e68
        rw [q68, u68]
        refine gi_if_ne (q := 74) (tgt := 78) C (dm_St_opensNull 33 rfl) rfl (by decide) (fun c71 => ?_) (fun c71 => ?_)
        · refine gi_iconst (q := 79) (v := 0) C (dm_St_opensNull 36 rfl) rfl (by decide) ?_
          refine gi_zret C hr (dm_St_opensNull 37 rfl) rfl ?_
          refine ⟨rfl, _, _, Q61, ?_⟩
          first
            | exact absurd c71 (by decide)
            | (refine Or.inl ⟨?_, rfl⟩
               unfold nullF
               rw [if_pos rfl, e1]
               rfl)
        · refine gi_iconst (q := 75) (v := 1) C (dm_St_opensNull 34 rfl) rfl (by decide) ?_
          refine gi_goto (tgt := 79) C (dm_St_opensNull 35 rfl) (by decide) ?_
          refine gi_zret C hr (dm_St_opensNull 37 rfl) rfl ?_
          refine ⟨rfl, _, _, Q61, ?_⟩
          first
            | exact absurd c71 (by decide)
            | (refine Or.inl ⟨?_, rfl⟩
               unfold nullF
               rw [if_pos rfl, e1]
               rfl)
      · exact absurd rfl c30
set_option maxHeartbeats 4000000 in
set_option maxRecDepth 100000 in
theorem c_St_opensNull_ft (bs mk : Int32) (Q : stO a pr bu fr to h0 S x y nx ny (tV bs true) ou be ab Wk Wy En Lo h) (G : isG Wk n0 f) (g14 : n0 ≤ 14) (e1 : (f n0).1 = .inr (bs, true)) (e2 : (f n0).2 = mk) (hm : mk = -1 ∨ ∃ j, j < 14 ∧ mk = nI j) : gi_T l V y_St_opensNull b_St_opensNull 3 (some .boolean) 3 65 0 0 [.ref a, .int (bI false), .int mk] n h (fun r n' h' => n' = n ∧ ∃ ou' Wy', stO a pr bu fr to h0 S x y nx ny (tV bs true) ou' be ab Wk Wy' En Lo h' ∧ ((nullF false n0 f = none ∧ r = some (.int 0)) ∨ ∃ g, nullF false n0 f = some g ∧ r = some (.int 1) ∧ isG Wy' n0 g)) := by
  refine gi_enter (by decide) (Nat.le_of_ble_eq_true rfl) ?_
  intro _ _ _ _ _ _ _ _ C hr hnm
  refine gi_aload_n (q := 1) (i := 0) C (dm_St_opensNull 0 rfl) rfl rfl rfl ?_
  refine gi_get (q := 4) C (dm_St_opensNull 1 rfl) rfl fl_St_55 (by first | exact Q61.ob | exact Q49.ob | exact Q38.ob | exact Q38.var_ | exact Q.ob | exact Q.var) rfl ?_
  refine gi_iload_n (q := 5) (i := 1) C (dm_St_opensNull 2 rfl) rfl rfl rfl ?_
  refine gi_if_eq (q := 8) (tgt := 12) C (dm_St_opensNull 3 rfl) rfl (by decide) (fun c5 => ?_) (fun c5 => ?_)
  · refine gi_aload_n (q := 13) (i := 0) C (dm_St_opensNull 6 rfl) rfl rfl rfl ?_
    refine gi_get (q := 16) C (dm_St_opensNull 7 rfl) rfl fl_St_52 (by first | exact Q61.ob | exact Q49.ob | exact Q38.ob | exact Q38.var_ | exact Q.ob | exact Q.var) rfl ?_
    refine gi_get (q := 19) C (dm_St_opensNull 8 rfl) rfl fl_St_249 (by first | exact Q61.ob | exact Q49.ob | exact Q38.ob | exact Q38.var_ | exact Q.ob | exact Q.var) rfl ?_
    refine gi_iload_n (q := 20) (i := 1) C (dm_St_opensNull 9 rfl) rfl rfl rfl ?_
    refine gi_if_eq (q := 23) (tgt := 37) C (dm_St_opensNull 10 rfl) rfl (by decide) (fun c20 => ?_) (fun c20 => ?_)
    · refine gi_iconst (q := 38) (v := 0) C (dm_St_opensNull 17 rfl) rfl (by decide) ?_
      refine gi_callv 2 (q := 41) C (dm_St_opensNull 18 rfl) rfl my_Va_beSet lk_St_113 im_Va_beSet rfl (c_Va_beSet (a + 64) _ bs false Q.vou) Q.vou rfl rfl ⟨(Nat.le_of_ble_eq_true rfl), (Nat.le_of_ble_eq_true rfl)⟩ (Nat.le_of_ble_eq_true rfl) ⟨(Nat.le_of_ble_eq_true rfl), (Nat.le_of_ble_eq_true rfl)⟩ (fun r38 n38 h38 e38 => ?_)
      obtain ⟨rfl, rfl, rfl⟩ := e38
      have Q38 := Q.pou (tV bs false)
      refine gi_aload_n (q := 42) (i := 0) C (dm_St_opensNull 19 rfl) rfl rfl rfl ?_
      refine gi_get (q := 45) C (dm_St_opensNull 20 rfl) rfl fl_St_27 (by first | exact Q61.ob | exact Q49.ob | exact Q38.ob | exact Q38.var_ | exact Q.ob | exact Q.var) rfl ?_
      refine gi_aload_n (q := 46) (i := 0) C (dm_St_opensNull 21 rfl) rfl rfl rfl ?_
      refine gi_get (q := 49) C (dm_St_opensNull 22 rfl) rfl fl_St_23 (by first | exact Q61.ob | exact Q49.ob | exact Q38.ob | exact Q38.var_ | exact Q.ob | exact Q.var) rfl ?_
      refine gi_callv 1 (q := 52) C (dm_St_opensNull 23 rfl) rfl my_Ro_copy lk_St_150 im_Ro_copy rfl (c_Ro_copy (by omega) (by omega) (by omega) g14 g14 Q38.wy Q38.wk G.1 G.wf) Q38.wy.1 rfl rfl ⟨(Nat.le_of_ble_eq_true rfl), (Nat.le_of_ble_eq_true rfl)⟩ (Nat.le_of_ble_eq_true rfl) ⟨(Nat.le_of_ble_eq_true rfl), (Nat.le_of_ble_eq_true rfl)⟩ (fun r49 n49 h49 e49 => ?_)
      obtain ⟨rfl, rfl, S49, O49⟩ := e49
      have Q49 := Q38.rWy S49 O49
      have G49 := rCp_G (R := Wy) G
      refine gi_aload_n (q := 53) (i := 0) C (dm_St_opensNull 24 rfl) rfl rfl rfl ?_
      refine gi_get (q := 56) C (dm_St_opensNull 25 rfl) rfl fl_St_27 (by first | exact Q61.ob | exact Q49.ob | exact Q38.ob | exact Q38.var_ | exact Q.ob | exact Q.var) rfl ?_
      refine gi_iload_n (q := 57) (i := 2) C (dm_St_opensNull 26 rfl) rfl rfl rfl ?_
      refine gi_aload_n (q := 58) (i := 0) C (dm_St_opensNull 27 rfl) rfl rfl rfl ?_
      refine gi_get (q := 61) C (dm_St_opensNull 28 rfl) rfl fl_St_55 (by first | exact Q61.ob | exact Q49.ob | exact Q38.ob | exact Q38.var_ | exact Q.ob | exact Q.var) rfl ?_
      refine gi_callv 2 (q := 64) C (dm_St_opensNull 29 rfl) rfl my_Ro_tell lk_St_214 im_Ro_tell rfl (s_tellWy (a + 64) (.inr (bs, false)) mk Q49 G49 g14 hm (by omega) Q49.vou) Q49.wy.1 rfl rfl ⟨(Nat.le_of_ble_eq_true rfl), (Nat.le_of_ble_eq_true rfl)⟩ (Nat.le_of_ble_eq_true rfl) ⟨(Nat.le_of_ble_eq_true rfl), (Nat.le_of_ble_eq_true rfl)⟩ (fun r61 n61 h61 e61 => ?_)
      obtain ⟨rfl, rfl, wy61, Q61, G61⟩ := e61
      refine gi_aload_n (q := 65) (i := 0) C (dm_St_opensNull 30 rfl) rfl rfl rfl ?_
      refine gi_get (q := 68) C (dm_St_opensNull 31 rfl) rfl fl_St_55 (by first | exact Q61.ob | exact Q49.ob | exact Q38.ob | exact Q38.var_ | exact Q.ob | exact Q.var) rfl ?_
      refine gi_callv 0 (q := 71) C (dm_St_opensNull 32 rfl) rfl my_Va_isNothing lk_St_211 im_Va_isNothing rfl (c_Va_isNothing (a + 64) _ Q61.vou) Q61.vou rfl rfl ⟨(Nat.le_of_ble_eq_true rfl), (Nat.le_of_ble_eq_true rfl)⟩ (Nat.le_of_ble_eq_true rfl) ⟨(Nat.le_of_ble_eq_true rfl), (Nat.le_of_ble_eq_true rfl)⟩ (fun r68 n68 h68 e68 => ?_)
      obtain ⟨rfl, q68, u68⟩ := e68
      rw [q68, u68]
      refine gi_if_ne (q := 74) (tgt := 78) C (dm_St_opensNull 33 rfl) rfl (by decide) (fun c71 => ?_) (fun c71 => ?_)
      · refine gi_iconst (q := 79) (v := 0) C (dm_St_opensNull 36 rfl) rfl (by decide) ?_
        refine gi_zret C hr (dm_St_opensNull 37 rfl) rfl ?_
        refine ⟨rfl, _, _, Q61, ?_⟩
        have s0 : (bI (if (tV bs false).1 = 0 then decide ((tV bs false).2.2.1 < (tV bs false).2.1) else decide ((tV bs false).2.2.2.2.1 = 0) && decide ((tV bs false).2.2.2.2.2 = 0)) = 0) ↔ ¬ bs = 0 := by
          show (bI (if (1 : Int32) = 0 then _ else decide (bs = 0) && decide ((0 : Int32) = 0)) = 0) ↔ _
          rw [if_neg (by decide)]
          by_cases z : bs = 0 <;> simp [z, bI]
        unfold nullF
        rw [if_neg (by decide), e1, e2]
        first
          | (have z := s0.mp c71
             refine Or.inr ⟨_, ?_, rfl, G61⟩
             show (if bs = 0 then none else _) = _
             rw [if_neg z]
             rfl)
          | (have z : bs = 0 := Classical.byContradiction (fun y => c71 (s0.mpr y))
             refine Or.inl ⟨?_, rfl⟩
             show (if bs = 0 then none else _) = _
             rw [if_pos z])
      · refine gi_iconst (q := 75) (v := 1) C (dm_St_opensNull 34 rfl) rfl (by decide) ?_
        refine gi_goto (tgt := 79) C (dm_St_opensNull 35 rfl) (by decide) ?_
        refine gi_zret C hr (dm_St_opensNull 37 rfl) rfl ?_
        refine ⟨rfl, _, _, Q61, ?_⟩
        have s0 : (bI (if (tV bs false).1 = 0 then decide ((tV bs false).2.2.1 < (tV bs false).2.1) else decide ((tV bs false).2.2.2.2.1 = 0) && decide ((tV bs false).2.2.2.2.2 = 0)) = 0) ↔ ¬ bs = 0 := by
          show (bI (if (1 : Int32) = 0 then _ else decide (bs = 0) && decide ((0 : Int32) = 0)) = 0) ↔ _
          rw [if_neg (by decide)]
          by_cases z : bs = 0 <;> simp [z, bI]
        unfold nullF
        rw [if_neg (by decide), e1, e2]
        first
          | (have z := s0.mp c71
             refine Or.inr ⟨_, ?_, rfl, G61⟩
             show (if bs = 0 then none else _) = _
             rw [if_neg z]
             rfl)
          | (have z : bs = 0 := Classical.byContradiction (fun y => c71 (s0.mpr y))
             refine Or.inl ⟨?_, rfl⟩
             show (if bs = 0 then none else _) = _
             rw [if_pos z])
    · exact absurd rfl c20
  · exact absurd rfl c5
set_option maxHeartbeats 4000000 in
set_option maxRecDepth 100000 in
theorem c_St_opensNull_ff (bs mk : Int32) (Q : stO a pr bu fr to h0 S x y nx ny (tV bs false) ou be ab Wk Wy En Lo h) (G : isG Wk n0 f) (g14 : n0 ≤ 14) (e1 : (f n0).1 = .inr (bs, false)) (e2 : (f n0).2 = mk) (hm : mk = -1 ∨ ∃ j, j < 14 ∧ mk = nI j) : gi_T l V y_St_opensNull b_St_opensNull 3 (some .boolean) 3 65 0 0 [.ref a, .int (bI false), .int mk] n h (fun r n' h' => n' = n ∧ ∃ ou' Wy', stO a pr bu fr to h0 S x y nx ny (tV bs false) ou' be ab Wk Wy' En Lo h' ∧ ((nullF false n0 f = none ∧ r = some (.int 0)) ∨ ∃ g, nullF false n0 f = some g ∧ r = some (.int 1) ∧ isG Wy' n0 g)) := by
  refine gi_enter (by decide) (Nat.le_of_ble_eq_true rfl) ?_
  intro _ _ _ _ _ _ _ _ C hr hnm
  refine gi_aload_n (q := 1) (i := 0) C (dm_St_opensNull 0 rfl) rfl rfl rfl ?_
  refine gi_get (q := 4) C (dm_St_opensNull 1 rfl) rfl fl_St_55 (by first | exact Q61.ob | exact Q49.ob | exact Q38.ob | exact Q38.var_ | exact Q.ob | exact Q.var) rfl ?_
  refine gi_iload_n (q := 5) (i := 1) C (dm_St_opensNull 2 rfl) rfl rfl rfl ?_
  refine gi_if_eq (q := 8) (tgt := 12) C (dm_St_opensNull 3 rfl) rfl (by decide) (fun c5 => ?_) (fun c5 => ?_)
  · refine gi_aload_n (q := 13) (i := 0) C (dm_St_opensNull 6 rfl) rfl rfl rfl ?_
    refine gi_get (q := 16) C (dm_St_opensNull 7 rfl) rfl fl_St_52 (by first | exact Q61.ob | exact Q49.ob | exact Q38.ob | exact Q38.var_ | exact Q.ob | exact Q.var) rfl ?_
    refine gi_get (q := 19) C (dm_St_opensNull 8 rfl) rfl fl_St_249 (by first | exact Q61.ob | exact Q49.ob | exact Q38.ob | exact Q38.var_ | exact Q.ob | exact Q.var) rfl ?_
    refine gi_iload_n (q := 20) (i := 1) C (dm_St_opensNull 9 rfl) rfl rfl rfl ?_
    refine gi_if_eq (q := 23) (tgt := 37) C (dm_St_opensNull 10 rfl) rfl (by decide) (fun c20 => ?_) (fun c20 => ?_)
    · refine gi_iconst (q := 38) (v := 0) C (dm_St_opensNull 17 rfl) rfl (by decide) ?_
      refine gi_callv 2 (q := 41) C (dm_St_opensNull 18 rfl) rfl my_Va_beSet lk_St_113 im_Va_beSet rfl (c_Va_beSet (a + 64) _ bs false Q.vou) Q.vou rfl rfl ⟨(Nat.le_of_ble_eq_true rfl), (Nat.le_of_ble_eq_true rfl)⟩ (Nat.le_of_ble_eq_true rfl) ⟨(Nat.le_of_ble_eq_true rfl), (Nat.le_of_ble_eq_true rfl)⟩ (fun r38 n38 h38 e38 => ?_)
      obtain ⟨rfl, rfl, rfl⟩ := e38
      have Q38 := Q.pou (tV bs false)
      refine gi_aload_n (q := 42) (i := 0) C (dm_St_opensNull 19 rfl) rfl rfl rfl ?_
      refine gi_get (q := 45) C (dm_St_opensNull 20 rfl) rfl fl_St_27 (by first | exact Q61.ob | exact Q49.ob | exact Q38.ob | exact Q38.var_ | exact Q.ob | exact Q.var) rfl ?_
      refine gi_aload_n (q := 46) (i := 0) C (dm_St_opensNull 21 rfl) rfl rfl rfl ?_
      refine gi_get (q := 49) C (dm_St_opensNull 22 rfl) rfl fl_St_23 (by first | exact Q61.ob | exact Q49.ob | exact Q38.ob | exact Q38.var_ | exact Q.ob | exact Q.var) rfl ?_
      refine gi_callv 1 (q := 52) C (dm_St_opensNull 23 rfl) rfl my_Ro_copy lk_St_150 im_Ro_copy rfl (c_Ro_copy (by omega) (by omega) (by omega) g14 g14 Q38.wy Q38.wk G.1 G.wf) Q38.wy.1 rfl rfl ⟨(Nat.le_of_ble_eq_true rfl), (Nat.le_of_ble_eq_true rfl)⟩ (Nat.le_of_ble_eq_true rfl) ⟨(Nat.le_of_ble_eq_true rfl), (Nat.le_of_ble_eq_true rfl)⟩ (fun r49 n49 h49 e49 => ?_)
      obtain ⟨rfl, rfl, S49, O49⟩ := e49
      have Q49 := Q38.rWy S49 O49
      have G49 := rCp_G (R := Wy) G
      refine gi_aload_n (q := 53) (i := 0) C (dm_St_opensNull 24 rfl) rfl rfl rfl ?_
      refine gi_get (q := 56) C (dm_St_opensNull 25 rfl) rfl fl_St_27 (by first | exact Q61.ob | exact Q49.ob | exact Q38.ob | exact Q38.var_ | exact Q.ob | exact Q.var) rfl ?_
      refine gi_iload_n (q := 57) (i := 2) C (dm_St_opensNull 26 rfl) rfl rfl rfl ?_
      refine gi_aload_n (q := 58) (i := 0) C (dm_St_opensNull 27 rfl) rfl rfl rfl ?_
      refine gi_get (q := 61) C (dm_St_opensNull 28 rfl) rfl fl_St_55 (by first | exact Q61.ob | exact Q49.ob | exact Q38.ob | exact Q38.var_ | exact Q.ob | exact Q.var) rfl ?_
      refine gi_callv 2 (q := 64) C (dm_St_opensNull 29 rfl) rfl my_Ro_tell lk_St_214 im_Ro_tell rfl (s_tellWy (a + 64) (.inr (bs, false)) mk Q49 G49 g14 hm (by omega) Q49.vou) Q49.wy.1 rfl rfl ⟨(Nat.le_of_ble_eq_true rfl), (Nat.le_of_ble_eq_true rfl)⟩ (Nat.le_of_ble_eq_true rfl) ⟨(Nat.le_of_ble_eq_true rfl), (Nat.le_of_ble_eq_true rfl)⟩ (fun r61 n61 h61 e61 => ?_)
      obtain ⟨rfl, rfl, wy61, Q61, G61⟩ := e61
      refine gi_aload_n (q := 65) (i := 0) C (dm_St_opensNull 30 rfl) rfl rfl rfl ?_
      refine gi_get (q := 68) C (dm_St_opensNull 31 rfl) rfl fl_St_55 (by first | exact Q61.ob | exact Q49.ob | exact Q38.ob | exact Q38.var_ | exact Q.ob | exact Q.var) rfl ?_
      refine gi_callv 0 (q := 71) C (dm_St_opensNull 32 rfl) rfl my_Va_isNothing lk_St_211 im_Va_isNothing rfl (c_Va_isNothing (a + 64) _ Q61.vou) Q61.vou rfl rfl ⟨(Nat.le_of_ble_eq_true rfl), (Nat.le_of_ble_eq_true rfl)⟩ (Nat.le_of_ble_eq_true rfl) ⟨(Nat.le_of_ble_eq_true rfl), (Nat.le_of_ble_eq_true rfl)⟩ (fun r68 n68 h68 e68 => ?_)
      obtain ⟨rfl, q68, u68⟩ := e68
      rw [q68, u68]
      refine gi_if_ne (q := 74) (tgt := 78) C (dm_St_opensNull 33 rfl) rfl (by decide) (fun c71 => ?_) (fun c71 => ?_)
      · refine gi_iconst (q := 79) (v := 0) C (dm_St_opensNull 36 rfl) rfl (by decide) ?_
        refine gi_zret C hr (dm_St_opensNull 37 rfl) rfl ?_
        refine ⟨rfl, _, _, Q61, ?_⟩
        have s0 : (bI (if (tV bs false).1 = 0 then decide ((tV bs false).2.2.1 < (tV bs false).2.1) else decide ((tV bs false).2.2.2.2.1 = 0) && decide ((tV bs false).2.2.2.2.2 = 0)) = 0) ↔ ¬ bs = 0 := by
          show (bI (if (1 : Int32) = 0 then _ else decide (bs = 0) && decide ((0 : Int32) = 0)) = 0) ↔ _
          rw [if_neg (by decide)]
          by_cases z : bs = 0 <;> simp [z, bI]
        unfold nullF
        rw [if_neg (by decide), e1, e2]
        first
          | (have z := s0.mp c71
             refine Or.inr ⟨_, ?_, rfl, G61⟩
             show (if bs = 0 then none else _) = _
             rw [if_neg z]
             rfl)
          | (have z : bs = 0 := Classical.byContradiction (fun y => c71 (s0.mpr y))
             refine Or.inl ⟨?_, rfl⟩
             show (if bs = 0 then none else _) = _
             rw [if_pos z])
      · refine gi_iconst (q := 75) (v := 1) C (dm_St_opensNull 34 rfl) rfl (by decide) ?_
        refine gi_goto (tgt := 79) C (dm_St_opensNull 35 rfl) (by decide) ?_
        refine gi_zret C hr (dm_St_opensNull 37 rfl) rfl ?_
        refine ⟨rfl, _, _, Q61, ?_⟩
        have s0 : (bI (if (tV bs false).1 = 0 then decide ((tV bs false).2.2.1 < (tV bs false).2.1) else decide ((tV bs false).2.2.2.2.1 = 0) && decide ((tV bs false).2.2.2.2.2 = 0)) = 0) ↔ ¬ bs = 0 := by
          show (bI (if (1 : Int32) = 0 then _ else decide (bs = 0) && decide ((0 : Int32) = 0)) = 0) ↔ _
          rw [if_neg (by decide)]
          by_cases z : bs = 0 <;> simp [z, bI]
        unfold nullF
        rw [if_neg (by decide), e1, e2]
        first
          | (have z := s0.mp c71
             refine Or.inr ⟨_, ?_, rfl, G61⟩
             show (if bs = 0 then none else _) = _
             rw [if_neg z]
             rfl)
          | (have z : bs = 0 := Classical.byContradiction (fun y => c71 (s0.mpr y))
             refine Or.inl ⟨?_, rfl⟩
             show (if bs = 0 then none else _) = _
             rw [if_pos z])
    · exact absurd rfl c20
  · exact absurd rfl c5
theorem c_St_opensNull (b on : Bool) (bs mk : Int32) (Q : stO a pr bu fr to h0 S x y nx ny (tV bs on) ou be ab Wk Wy En Lo h) (G : isG Wk n0 f) (g14 : n0 ≤ 14) (e1 : (f n0).1 = .inr (bs, on)) (e2 : (f n0).2 = mk) (hm : mk = -1 ∨ ∃ j, j < 14 ∧ mk = nI j) : gi_T l V y_St_opensNull b_St_opensNull 3 (some .boolean) 3 65 0 0 [.ref a, .int (bI b), .int mk] n h (fun r n' h' => n' = n ∧ ∃ ou' Wy', stO a pr bu fr to h0 S x y nx ny (tV bs on) ou' be ab Wk Wy' En Lo h' ∧ ((nullF b n0 f = none ∧ r = some (.int 0)) ∨ ∃ g, nullF b n0 f = some g ∧ r = some (.int 1) ∧ isG Wy' n0 g)) := by
  cases b <;> cases on
  · exact c_St_opensNull_ff bs mk Q G g14 e1 e2 hm
  · exact c_St_opensNull_ft bs mk Q G g14 e1 e2 hm
  · exact c_St_opensNull_tf bs mk Q G g14 e1 e2 hm
  · exact c_St_opensNull_tt bs mk Q G g14 e1 e2 hm
set_option maxHeartbeats 4000000 in
set_option maxRecDepth 100000 in
theorem c_St_askNull_26 (ja : Nat) (bs : Int32) (on : Bool) (h2 : md ≤ 2) (W : wfP k P) (hm : m < k) (hT : ∀ t, t < 542 → (T t).1 ≤ 14) (d : DJ a pr bu fr to) (B : SB a pr bu fr to k md P sn wd T Ff Z hA hB) (hS : SS S md m i Z.2) (Q : stO a pr bu fr to hB S x y nx ny ar ou be ab Wk Wy En Lo h) (G : isG Wk n0 f) (hi : i + 1 < pN P 5 m) (hja : ja < pN P 5 m) (g1 : 1 ≤ n0) (g14 : n0 ≤ 14) (eA1 : (f (n0 - 1)).1 = .inr (bs, on)) (hmk : (f (n0 - 1)).2 = -1 ∨ ∃ j, j < 14 ∧ (f (n0 - 1)).2 = nI j) (hc1 : ∀ g, nullF true (n0 - 1) f = some g → okC T (60 * m + ja, n0 - 1, g)) (hc2 : ∀ g, nullF false (n0 - 1) f = some g → okC T (60 * m + i + 1, n0 - 1, g)) : gi_T l V y_St_askNull b_St_askNull 4 none 4 102 0 0 [.ref a, .int (nI 26), .int (nI ja)] n h (fun v n' h' => v = none ∧ n' = n ∧ ∃ hC S' ar' ou' Wk' Wy', SS S' md m i ((conO (60 * m + ja) (n0 - 1) (nullF true (n0 - 1) f) ++ conO (60 * m + i + 1) (n0 - 1) (nullF false (n0 - 1) f)).foldl (comeM md wd) Z).2 ∧ SB a pr bu fr to k md P sn wd T Ff ((conO (60 * m + ja) (n0 - 1) (nullF true (n0 - 1) f) ++ conO (60 * m + i + 1) (n0 - 1) (nullF false (n0 - 1) f)).foldl (comeM md wd) Z) hA hC ∧ stO a pr bu fr to hC S' x y nx ny ar' ou' be ab Wk' Wy' En Lo h') := by
  refine gi_enter (by decide) (Nat.le_of_ble_eq_true rfl) ?_
  intro _ _ _ _ _ _ _ _ C hr hnm
  have w8 := W.k8
  have wm := wf_ar W hm
  refine gi_aload_n (q := 1) (i := 0) C (dm_St_askNull 0 rfl) rfl rfl rfl ?_
  refine gi_get (q := 4) C (dm_St_askNull 1 rfl) rfl fl_St_23 (by first | exact Q121.ob | exact Q76.ob | exact Q60.ob | exact Q25.ob | exact Q8.ob | exact Q.ob) rfl ?_
  refine gi_aload_n (q := 5) (i := 0) C (dm_St_askNull 2 rfl) rfl rfl rfl ?_
  refine gi_get (q := 8) C (dm_St_askNull 3 rfl) rfl fl_St_52 (by first | exact Q121.ob | exact Q76.ob | exact Q60.ob | exact Q25.ob | exact Q8.ob | exact Q.ob) rfl ?_
  refine gi_callv 1 (q := 11) C (dm_St_askNull 4 rfl) rfl my_Ro_pop lk_St_198 im_Ro_pop rfl (s_popar Q G (by omega) (by omega)) Q.wk.1 rfl rfl ⟨(Nat.le_of_ble_eq_true rfl), (Nat.le_of_ble_eq_true rfl)⟩ (Nat.le_of_ble_eq_true rfl) ⟨(Nat.le_of_ble_eq_true rfl), (Nat.le_of_ble_eq_true rfl)⟩ (fun r8 n8 h8 e8 => ?_)
  obtain ⟨rfl, rfl, wk8, Q8, G8⟩ := e8
  rw [eA1] at Q8
  refine gi_istore_n (q := 12) (i := 3) C (dm_St_askNull 5 rfl) rfl rfl (Nat.le_of_ble_eq_true rfl) ?_
  refine gi_aload_n (q := 13) (i := 0) C (dm_St_askNull 6 rfl) rfl rfl rfl ?_
  refine gi_iload_n (q := 14) (i := 1) C (dm_St_askNull 7 rfl) rfl rfl rfl ?_
  refine gi_bipush (q := 16) (v := 26) C (dm_St_askNull 8 rfl) rfl (by decide) ?_
  refine gi_icmp_ne (q := 19) (tgt := 23) C (dm_St_askNull 9 rfl) rfl (by decide) (fun c16 => ?_) (fun c16 => ?_)
  · exact absurd rfl c16
  · refine gi_iconst (q := 20) (v := 1) C (dm_St_askNull 10 rfl) rfl (by decide) ?_
    refine gi_goto (tgt := 24) C (dm_St_askNull 11 rfl) (by decide) ?_
    refine gi_iload_n (q := 25) (i := 3) C (dm_St_askNull 13 rfl) rfl rfl rfl ?_
    refine gi_callv 2 (q := 28) C (dm_St_askNull 14 rfl) rfl my_St_opensNull lk_St_245 im_St_opensNull rfl (c_St_opensNull true on bs _ Q8 G8 (by omega) eA1 rfl hmk) Q8.ob rfl rfl ⟨(Nat.le_of_ble_eq_true rfl), (Nat.le_of_ble_eq_true rfl)⟩ (Nat.le_of_ble_eq_true rfl) ⟨(Nat.le_of_ble_eq_true rfl), (Nat.le_of_ble_eq_true rfl)⟩ (fun r25 n25 h25 e25 => ?_)
    obtain ⟨rfl, ou25, wy25, Q25, hc25⟩ := e25
    rcases hc25 with ⟨ho25, rfl⟩ | ⟨g25, ho25, rfl, GW25⟩
    · refine gi_if_eq (q := 31) (tgt := 63) C (dm_St_askNull 15 rfl) rfl (by decide) (fun c28 => ?_) (fun c28 => ?_)
      · refine gi_aload_n (q := 64) (i := 0) C (dm_St_askNull 32 rfl) rfl rfl rfl ?_
        refine gi_iload_n (q := 65) (i := 1) C (dm_St_askNull 33 rfl) rfl rfl rfl ?_
        refine gi_bipush (q := 67) (v := 27) C (dm_St_askNull 34 rfl) rfl (by decide) ?_
        refine gi_icmp_ne (q := 70) (tgt := 74) C (dm_St_askNull 35 rfl) rfl (by decide) (fun c67 => ?_) (fun c67 => ?_)
        · refine gi_iconst (q := 75) (v := 0) C (dm_St_askNull 38 rfl) rfl (by decide) ?_
          refine gi_iload_n (q := 76) (i := 3) C (dm_St_askNull 39 rfl) rfl rfl rfl ?_
          refine gi_callv 2 (q := 79) C (dm_St_askNull 40 rfl) rfl my_St_opensNull lk_St_245 im_St_opensNull rfl (c_St_opensNull false on bs _ Q25 G8 (by omega) eA1 rfl hmk) Q25.ob rfl rfl ⟨(Nat.le_of_ble_eq_true rfl), (Nat.le_of_ble_eq_true rfl)⟩ (Nat.le_of_ble_eq_true rfl) ⟨(Nat.le_of_ble_eq_true rfl), (Nat.le_of_ble_eq_true rfl)⟩ (fun r76 n76 h76 e76 => ?_)
          obtain ⟨rfl, ou76, wy76, Q76, hc76⟩ := e76
          rcases hc76 with ⟨ho76, rfl⟩ | ⟨g76, ho76, rfl, GW76⟩
          · refine gi_if_eq (q := 82) (tgt := 124) C (dm_St_askNull 41 rfl) rfl (by decide) (fun c79 => ?_) (fun c79 => ?_)
            · refine gi_vret C hr (dm_St_askNull 64 rfl) ?_
              rw [ho25, ho76]
              exact ⟨rfl, rfl, _, _, _, _, _, _, hS, B, Q76⟩
            · exact absurd rfl c79
          · refine gi_if_eq (q := 82) (tgt := 124) C (dm_St_askNull 41 rfl) rfl (by decide) (fun c79 => ?_) (fun c79 => ?_)
            · exact absurd c79 (by decide)
            · refine gi_aload_n (q := 83) (i := 0) C (dm_St_askNull 42 rfl) rfl rfl rfl ?_
              refine gi_aload_n (q := 84) (i := 0) C (dm_St_askNull 43 rfl) rfl rfl rfl ?_
              refine gi_get (q := 87) C (dm_St_askNull 44 rfl) rfl fl_St_70 (by first | exact Q121.ob | exact Q76.ob | exact Q60.ob | exact Q25.ob | exact Q8.ob | exact Q.ob) rfl ?_
              refine gi_aload_n (q := 88) (i := 0) C (dm_St_askNull 45 rfl) rfl rfl rfl ?_
              refine gi_get (q := 91) C (dm_St_askNull 46 rfl) rfl fl_St_144 (by first | exact Q121.ob | exact Q76.ob | exact Q60.ob | exact Q25.ob | exact Q8.ob | exact Q.ob) rfl ?_
              refine gi_aload_n (q := 92) (i := 0) C (dm_St_askNull 47 rfl) rfl rfl rfl ?_
              refine gi_get (q := 95) C (dm_St_askNull 48 rfl) rfl fl_St_147 (by first | exact Q121.ob | exact Q76.ob | exact Q60.ob | exact Q25.ob | exact Q8.ob | exact Q.ob) rfl ?_
              refine gi_iconst (q := 96) (v := 1) C (dm_St_askNull 49 rfl) rfl (by decide) ?_
              refine gi_iadd (q := 97) C (dm_St_askNull 50 rfl) rfl ?_
              obtain ⟨fs97, ob97⟩ := B.ob d Q76.2
              rw [hS.2.2.1, hS.2.2.2, nI_1]
              refine gi_callv 2 (q := 100) C (dm_St_askNull 51 rfl) rfl my_Fa_stateAt lk_St_134 im_Fa_stateAt rfl (b_state B d Q76.2 (by omega) (by omega)) ob97 rfl rfl ⟨(Nat.le_of_ble_eq_true rfl), (Nat.le_of_ble_eq_true rfl)⟩ (Nat.le_of_ble_eq_true rfl) ⟨(Nat.le_of_ble_eq_true rfl), (Nat.le_of_ble_eq_true rfl)⟩ (fun r97 n97 h97 e97 => ?_)
              obtain ⟨rfl, q97, u97⟩ := e97
              rw [q97, u97]
              refine gi_aload_n (q := 101) (i := 0) C (dm_St_askNull 52 rfl) rfl rfl rfl ?_
              refine gi_get (q := 104) C (dm_St_askNull 53 rfl) rfl fl_St_27 (by first | exact Q121.ob | exact Q76.ob | exact Q60.ob | exact Q25.ob | exact Q8.ob | exact Q.ob) rfl ?_
              refine gi_aload_n (q := 105) (i := 0) C (dm_St_askNull 54 rfl) rfl rfl rfl ?_
              refine gi_get (q := 108) C (dm_St_askNull 55 rfl) rfl fl_St_62 (by first | exact Q121.ob | exact Q76.ob | exact Q60.ob | exact Q25.ob | exact Q8.ob | exact Q.ob) rfl ?_
              refine gi_aload_n (q := 109) (i := 0) C (dm_St_askNull 56 rfl) rfl rfl rfl ?_
              refine gi_get (q := 112) C (dm_St_askNull 57 rfl) rfl fl_St_144 (by first | exact Q121.ob | exact Q76.ob | exact Q60.ob | exact Q25.ob | exact Q8.ob | exact Q.ob) rfl ?_
              refine gi_aload_n (q := 113) (i := 0) C (dm_St_askNull 58 rfl) rfl rfl rfl ?_
              refine gi_get (q := 116) C (dm_St_askNull 59 rfl) rfl fl_St_147 (by first | exact Q121.ob | exact Q76.ob | exact Q60.ob | exact Q25.ob | exact Q8.ob | exact Q.ob) rfl ?_
              refine gi_iconst (q := 117) (v := 1) C (dm_St_askNull 60 rfl) rfl (by decide) ?_
              refine gi_iadd (q := 118) C (dm_St_askNull 61 rfl) rfl ?_
              obtain ⟨fw118, ow118⟩ := B.ob2 d Q76.2
              rw [hS.2.2.1, hS.2.2.2, nI_1]
              refine gi_callv 2 (q := 121) C (dm_St_askNull 62 rfl) rfl my_Bu_isWide lk_St_167 im_Bu_isWide rfl (b_wide W B d Q76.2 hm hi) ow118 rfl rfl ⟨(Nat.le_of_ble_eq_true rfl), (Nat.le_of_ble_eq_true rfl)⟩ (Nat.le_of_ble_eq_true rfl) ⟨(Nat.le_of_ble_eq_true rfl), (Nat.le_of_ble_eq_true rfl)⟩ (fun r118 n118 h118 e118 => ?_)
              obtain ⟨rfl, q118, u118⟩ := e118
              rw [q118, u118]
              refine gi_callv 3 (q := 124) C (dm_St_askNull 63 rfl) rfl my_St_come lk_St_140 im_St_come rfl (b_come (a + 21) 14 (n0 - 1) (60 * m + i + 1) _ _ h2 B hT d hS Q76 (by omega) (by omega) (by omega) Q76.wy GW76 (by omega) (by rw [cap_st (by omega)]; omega) (hc2 _ ho76)) Q76.ob rfl rfl ⟨(Nat.le_of_ble_eq_true rfl), (Nat.le_of_ble_eq_true rfl)⟩ (Nat.le_of_ble_eq_true rfl) ⟨(Nat.le_of_ble_eq_true rfl), (Nat.le_of_ble_eq_true rfl)⟩ (fun r121 n121 h121 e121 => ?_)
              obtain ⟨rfl, rfl, S121, hS121, B121, Q121⟩ := e121
              refine gi_vret C hr (dm_St_askNull 64 rfl) ?_
              rw [ho25, ho76]
              exact ⟨rfl, rfl, _, _, _, _, _, _, hS121, B121, Q121⟩
        · exact absurd c67 (by decide)
      · exact absurd rfl c28
    · refine gi_if_eq (q := 31) (tgt := 63) C (dm_St_askNull 15 rfl) rfl (by decide) (fun c28 => ?_) (fun c28 => ?_)
      · exact absurd c28 (by decide)
      · refine gi_aload_n (q := 32) (i := 0) C (dm_St_askNull 16 rfl) rfl rfl rfl ?_
        refine gi_aload_n (q := 33) (i := 0) C (dm_St_askNull 17 rfl) rfl rfl rfl ?_
        refine gi_get (q := 36) C (dm_St_askNull 18 rfl) rfl fl_St_70 (by first | exact Q121.ob | exact Q76.ob | exact Q60.ob | exact Q25.ob | exact Q8.ob | exact Q.ob) rfl ?_
        refine gi_aload_n (q := 37) (i := 0) C (dm_St_askNull 19 rfl) rfl rfl rfl ?_
        refine gi_get (q := 40) C (dm_St_askNull 20 rfl) rfl fl_St_144 (by first | exact Q121.ob | exact Q76.ob | exact Q60.ob | exact Q25.ob | exact Q8.ob | exact Q.ob) rfl ?_
        refine gi_iload_n (q := 41) (i := 2) C (dm_St_askNull 21 rfl) rfl rfl rfl ?_
        obtain ⟨fs41, ob41⟩ := B.ob d Q25.2
        rw [hS.2.2.1]
        refine gi_callv 2 (q := 44) C (dm_St_askNull 22 rfl) rfl my_Fa_stateAt lk_St_134 im_Fa_stateAt rfl (b_state B d Q25.2 (by omega) (by omega)) ob41 rfl rfl ⟨(Nat.le_of_ble_eq_true rfl), (Nat.le_of_ble_eq_true rfl)⟩ (Nat.le_of_ble_eq_true rfl) ⟨(Nat.le_of_ble_eq_true rfl), (Nat.le_of_ble_eq_true rfl)⟩ (fun r41 n41 h41 e41 => ?_)
        obtain ⟨rfl, q41, u41⟩ := e41
        rw [q41, u41]
        refine gi_aload_n (q := 45) (i := 0) C (dm_St_askNull 23 rfl) rfl rfl rfl ?_
        refine gi_get (q := 48) C (dm_St_askNull 24 rfl) rfl fl_St_27 (by first | exact Q121.ob | exact Q76.ob | exact Q60.ob | exact Q25.ob | exact Q8.ob | exact Q.ob) rfl ?_
        refine gi_aload_n (q := 49) (i := 0) C (dm_St_askNull 25 rfl) rfl rfl rfl ?_
        refine gi_get (q := 52) C (dm_St_askNull 26 rfl) rfl fl_St_62 (by first | exact Q121.ob | exact Q76.ob | exact Q60.ob | exact Q25.ob | exact Q8.ob | exact Q.ob) rfl ?_
        refine gi_aload_n (q := 53) (i := 0) C (dm_St_askNull 27 rfl) rfl rfl rfl ?_
        refine gi_get (q := 56) C (dm_St_askNull 28 rfl) rfl fl_St_144 (by first | exact Q121.ob | exact Q76.ob | exact Q60.ob | exact Q25.ob | exact Q8.ob | exact Q.ob) rfl ?_
        refine gi_iload_n (q := 57) (i := 2) C (dm_St_askNull 29 rfl) rfl rfl rfl ?_
        obtain ⟨fw57, ow57⟩ := B.ob2 d Q25.2
        rw [hS.2.2.1]
        refine gi_callv 2 (q := 60) C (dm_St_askNull 30 rfl) rfl my_Bu_isWide lk_St_167 im_Bu_isWide rfl (b_wide W B d Q25.2 hm hja) ow57 rfl rfl ⟨(Nat.le_of_ble_eq_true rfl), (Nat.le_of_ble_eq_true rfl)⟩ (Nat.le_of_ble_eq_true rfl) ⟨(Nat.le_of_ble_eq_true rfl), (Nat.le_of_ble_eq_true rfl)⟩ (fun r57 n57 h57 e57 => ?_)
        obtain ⟨rfl, q57, u57⟩ := e57
        rw [q57, u57]
        refine gi_callv 3 (q := 63) C (dm_St_askNull 31 rfl) rfl my_St_come lk_St_140 im_St_come rfl (b_come (a + 21) 14 (n0 - 1) (60 * m + ja) _ _ h2 B hT d hS Q25 (by omega) (by omega) (by omega) Q25.wy GW25 (by omega) (by rw [cap_st (by omega)]; omega) (hc1 _ ho25)) Q25.ob rfl rfl ⟨(Nat.le_of_ble_eq_true rfl), (Nat.le_of_ble_eq_true rfl)⟩ (Nat.le_of_ble_eq_true rfl) ⟨(Nat.le_of_ble_eq_true rfl), (Nat.le_of_ble_eq_true rfl)⟩ (fun r60 n60 h60 e60 => ?_)
        obtain ⟨rfl, rfl, S60, hS60, B60, Q60⟩ := e60
        refine gi_aload_n (q := 64) (i := 0) C (dm_St_askNull 32 rfl) rfl rfl rfl ?_
        refine gi_iload_n (q := 65) (i := 1) C (dm_St_askNull 33 rfl) rfl rfl rfl ?_
        refine gi_bipush (q := 67) (v := 27) C (dm_St_askNull 34 rfl) rfl (by decide) ?_
        refine gi_icmp_ne (q := 70) (tgt := 74) C (dm_St_askNull 35 rfl) rfl (by decide) (fun c67 => ?_) (fun c67 => ?_)
        · refine gi_iconst (q := 75) (v := 0) C (dm_St_askNull 38 rfl) rfl (by decide) ?_
          refine gi_iload_n (q := 76) (i := 3) C (dm_St_askNull 39 rfl) rfl rfl rfl ?_
          refine gi_callv 2 (q := 79) C (dm_St_askNull 40 rfl) rfl my_St_opensNull lk_St_245 im_St_opensNull rfl (c_St_opensNull false on bs _ Q60 G8 (by omega) eA1 rfl hmk) Q60.ob rfl rfl ⟨(Nat.le_of_ble_eq_true rfl), (Nat.le_of_ble_eq_true rfl)⟩ (Nat.le_of_ble_eq_true rfl) ⟨(Nat.le_of_ble_eq_true rfl), (Nat.le_of_ble_eq_true rfl)⟩ (fun r76 n76 h76 e76 => ?_)
          obtain ⟨rfl, ou76, wy76, Q76, hc76⟩ := e76
          rcases hc76 with ⟨ho76, rfl⟩ | ⟨g76, ho76, rfl, GW76⟩
          · refine gi_if_eq (q := 82) (tgt := 124) C (dm_St_askNull 41 rfl) rfl (by decide) (fun c79 => ?_) (fun c79 => ?_)
            · refine gi_vret C hr (dm_St_askNull 64 rfl) ?_
              rw [ho25, ho76]
              exact ⟨rfl, rfl, _, _, _, _, _, _, hS60, B60, Q76⟩
            · exact absurd rfl c79
          · refine gi_if_eq (q := 82) (tgt := 124) C (dm_St_askNull 41 rfl) rfl (by decide) (fun c79 => ?_) (fun c79 => ?_)
            · exact absurd c79 (by decide)
            · refine gi_aload_n (q := 83) (i := 0) C (dm_St_askNull 42 rfl) rfl rfl rfl ?_
              refine gi_aload_n (q := 84) (i := 0) C (dm_St_askNull 43 rfl) rfl rfl rfl ?_
              refine gi_get (q := 87) C (dm_St_askNull 44 rfl) rfl fl_St_70 (by first | exact Q121.ob | exact Q76.ob | exact Q60.ob | exact Q25.ob | exact Q8.ob | exact Q.ob) rfl ?_
              refine gi_aload_n (q := 88) (i := 0) C (dm_St_askNull 45 rfl) rfl rfl rfl ?_
              refine gi_get (q := 91) C (dm_St_askNull 46 rfl) rfl fl_St_144 (by first | exact Q121.ob | exact Q76.ob | exact Q60.ob | exact Q25.ob | exact Q8.ob | exact Q.ob) rfl ?_
              refine gi_aload_n (q := 92) (i := 0) C (dm_St_askNull 47 rfl) rfl rfl rfl ?_
              refine gi_get (q := 95) C (dm_St_askNull 48 rfl) rfl fl_St_147 (by first | exact Q121.ob | exact Q76.ob | exact Q60.ob | exact Q25.ob | exact Q8.ob | exact Q.ob) rfl ?_
              refine gi_iconst (q := 96) (v := 1) C (dm_St_askNull 49 rfl) rfl (by decide) ?_
              refine gi_iadd (q := 97) C (dm_St_askNull 50 rfl) rfl ?_
              obtain ⟨fs97, ob97⟩ := B60.ob d Q76.2
              rw [hS60.2.2.1, hS60.2.2.2, nI_1]
              refine gi_callv 2 (q := 100) C (dm_St_askNull 51 rfl) rfl my_Fa_stateAt lk_St_134 im_Fa_stateAt rfl (b_state B60 d Q76.2 (by omega) (by omega)) ob97 rfl rfl ⟨(Nat.le_of_ble_eq_true rfl), (Nat.le_of_ble_eq_true rfl)⟩ (Nat.le_of_ble_eq_true rfl) ⟨(Nat.le_of_ble_eq_true rfl), (Nat.le_of_ble_eq_true rfl)⟩ (fun r97 n97 h97 e97 => ?_)
              obtain ⟨rfl, q97, u97⟩ := e97
              rw [q97, u97]
              refine gi_aload_n (q := 101) (i := 0) C (dm_St_askNull 52 rfl) rfl rfl rfl ?_
              refine gi_get (q := 104) C (dm_St_askNull 53 rfl) rfl fl_St_27 (by first | exact Q121.ob | exact Q76.ob | exact Q60.ob | exact Q25.ob | exact Q8.ob | exact Q.ob) rfl ?_
              refine gi_aload_n (q := 105) (i := 0) C (dm_St_askNull 54 rfl) rfl rfl rfl ?_
              refine gi_get (q := 108) C (dm_St_askNull 55 rfl) rfl fl_St_62 (by first | exact Q121.ob | exact Q76.ob | exact Q60.ob | exact Q25.ob | exact Q8.ob | exact Q.ob) rfl ?_
              refine gi_aload_n (q := 109) (i := 0) C (dm_St_askNull 56 rfl) rfl rfl rfl ?_
              refine gi_get (q := 112) C (dm_St_askNull 57 rfl) rfl fl_St_144 (by first | exact Q121.ob | exact Q76.ob | exact Q60.ob | exact Q25.ob | exact Q8.ob | exact Q.ob) rfl ?_
              refine gi_aload_n (q := 113) (i := 0) C (dm_St_askNull 58 rfl) rfl rfl rfl ?_
              refine gi_get (q := 116) C (dm_St_askNull 59 rfl) rfl fl_St_147 (by first | exact Q121.ob | exact Q76.ob | exact Q60.ob | exact Q25.ob | exact Q8.ob | exact Q.ob) rfl ?_
              refine gi_iconst (q := 117) (v := 1) C (dm_St_askNull 60 rfl) rfl (by decide) ?_
              refine gi_iadd (q := 118) C (dm_St_askNull 61 rfl) rfl ?_
              obtain ⟨fw118, ow118⟩ := B60.ob2 d Q76.2
              rw [hS60.2.2.1, hS60.2.2.2, nI_1]
              refine gi_callv 2 (q := 121) C (dm_St_askNull 62 rfl) rfl my_Bu_isWide lk_St_167 im_Bu_isWide rfl (b_wide W B60 d Q76.2 hm hi) ow118 rfl rfl ⟨(Nat.le_of_ble_eq_true rfl), (Nat.le_of_ble_eq_true rfl)⟩ (Nat.le_of_ble_eq_true rfl) ⟨(Nat.le_of_ble_eq_true rfl), (Nat.le_of_ble_eq_true rfl)⟩ (fun r118 n118 h118 e118 => ?_)
              obtain ⟨rfl, q118, u118⟩ := e118
              rw [q118, u118]
              refine gi_callv 3 (q := 124) C (dm_St_askNull 63 rfl) rfl my_St_come lk_St_140 im_St_come rfl (b_come (a + 21) 14 (n0 - 1) (60 * m + i + 1) _ _ h2 B60 hT d hS60 Q76 (by omega) (by omega) (by omega) Q76.wy GW76 (by omega) (by rw [cap_st (by omega)]; omega) (hc2 _ ho76)) Q76.ob rfl rfl ⟨(Nat.le_of_ble_eq_true rfl), (Nat.le_of_ble_eq_true rfl)⟩ (Nat.le_of_ble_eq_true rfl) ⟨(Nat.le_of_ble_eq_true rfl), (Nat.le_of_ble_eq_true rfl)⟩ (fun r121 n121 h121 e121 => ?_)
              obtain ⟨rfl, rfl, S121, hS121, B121, Q121⟩ := e121
              refine gi_vret C hr (dm_St_askNull 64 rfl) ?_
              rw [ho25, ho76]
              exact ⟨rfl, rfl, _, _, _, _, _, _, hS121, B121, Q121⟩
        · exact absurd c67 (by decide)
set_option maxHeartbeats 4000000 in
set_option maxRecDepth 100000 in
theorem c_St_askNull_27 (ja : Nat) (bs : Int32) (on : Bool) (h2 : md ≤ 2) (W : wfP k P) (hm : m < k) (hT : ∀ t, t < 542 → (T t).1 ≤ 14) (d : DJ a pr bu fr to) (B : SB a pr bu fr to k md P sn wd T Ff Z hA hB) (hS : SS S md m i Z.2) (Q : stO a pr bu fr to hB S x y nx ny ar ou be ab Wk Wy En Lo h) (G : isG Wk n0 f) (hi : i + 1 < pN P 5 m) (hja : ja < pN P 5 m) (g1 : 1 ≤ n0) (g14 : n0 ≤ 14) (eA1 : (f (n0 - 1)).1 = .inr (bs, on)) (hmk : (f (n0 - 1)).2 = -1 ∨ ∃ j, j < 14 ∧ (f (n0 - 1)).2 = nI j) (hc1 : ∀ g, nullF false (n0 - 1) f = some g → okC T (60 * m + ja, n0 - 1, g)) (hc2 : ∀ g, nullF true (n0 - 1) f = some g → okC T (60 * m + i + 1, n0 - 1, g)) : gi_T l V y_St_askNull b_St_askNull 4 none 4 102 0 0 [.ref a, .int (nI 27), .int (nI ja)] n h (fun v n' h' => v = none ∧ n' = n ∧ ∃ hC S' ar' ou' Wk' Wy', SS S' md m i ((conO (60 * m + ja) (n0 - 1) (nullF false (n0 - 1) f) ++ conO (60 * m + i + 1) (n0 - 1) (nullF true (n0 - 1) f)).foldl (comeM md wd) Z).2 ∧ SB a pr bu fr to k md P sn wd T Ff ((conO (60 * m + ja) (n0 - 1) (nullF false (n0 - 1) f) ++ conO (60 * m + i + 1) (n0 - 1) (nullF true (n0 - 1) f)).foldl (comeM md wd) Z) hA hC ∧ stO a pr bu fr to hC S' x y nx ny ar' ou' be ab Wk' Wy' En Lo h') := by
  refine gi_enter (by decide) (Nat.le_of_ble_eq_true rfl) ?_
  intro _ _ _ _ _ _ _ _ C hr hnm
  have w8 := W.k8
  have wm := wf_ar W hm
  refine gi_aload_n (q := 1) (i := 0) C (dm_St_askNull 0 rfl) rfl rfl rfl ?_
  refine gi_get (q := 4) C (dm_St_askNull 1 rfl) rfl fl_St_23 (by first | exact Q121.ob | exact Q76.ob | exact Q60.ob | exact Q25.ob | exact Q8.ob | exact Q.ob) rfl ?_
  refine gi_aload_n (q := 5) (i := 0) C (dm_St_askNull 2 rfl) rfl rfl rfl ?_
  refine gi_get (q := 8) C (dm_St_askNull 3 rfl) rfl fl_St_52 (by first | exact Q121.ob | exact Q76.ob | exact Q60.ob | exact Q25.ob | exact Q8.ob | exact Q.ob) rfl ?_
  refine gi_callv 1 (q := 11) C (dm_St_askNull 4 rfl) rfl my_Ro_pop lk_St_198 im_Ro_pop rfl (s_popar Q G (by omega) (by omega)) Q.wk.1 rfl rfl ⟨(Nat.le_of_ble_eq_true rfl), (Nat.le_of_ble_eq_true rfl)⟩ (Nat.le_of_ble_eq_true rfl) ⟨(Nat.le_of_ble_eq_true rfl), (Nat.le_of_ble_eq_true rfl)⟩ (fun r8 n8 h8 e8 => ?_)
  obtain ⟨rfl, rfl, wk8, Q8, G8⟩ := e8
  rw [eA1] at Q8
  refine gi_istore_n (q := 12) (i := 3) C (dm_St_askNull 5 rfl) rfl rfl (Nat.le_of_ble_eq_true rfl) ?_
  refine gi_aload_n (q := 13) (i := 0) C (dm_St_askNull 6 rfl) rfl rfl rfl ?_
  refine gi_iload_n (q := 14) (i := 1) C (dm_St_askNull 7 rfl) rfl rfl rfl ?_
  refine gi_bipush (q := 16) (v := 26) C (dm_St_askNull 8 rfl) rfl (by decide) ?_
  refine gi_icmp_ne (q := 19) (tgt := 23) C (dm_St_askNull 9 rfl) rfl (by decide) (fun c16 => ?_) (fun c16 => ?_)
  · refine gi_iconst (q := 24) (v := 0) C (dm_St_askNull 12 rfl) rfl (by decide) ?_
    refine gi_iload_n (q := 25) (i := 3) C (dm_St_askNull 13 rfl) rfl rfl rfl ?_
    refine gi_callv 2 (q := 28) C (dm_St_askNull 14 rfl) rfl my_St_opensNull lk_St_245 im_St_opensNull rfl (c_St_opensNull false on bs _ Q8 G8 (by omega) eA1 rfl hmk) Q8.ob rfl rfl ⟨(Nat.le_of_ble_eq_true rfl), (Nat.le_of_ble_eq_true rfl)⟩ (Nat.le_of_ble_eq_true rfl) ⟨(Nat.le_of_ble_eq_true rfl), (Nat.le_of_ble_eq_true rfl)⟩ (fun r25 n25 h25 e25 => ?_)
    obtain ⟨rfl, ou25, wy25, Q25, hc25⟩ := e25
    rcases hc25 with ⟨ho25, rfl⟩ | ⟨g25, ho25, rfl, GW25⟩
    · refine gi_if_eq (q := 31) (tgt := 63) C (dm_St_askNull 15 rfl) rfl (by decide) (fun c28 => ?_) (fun c28 => ?_)
      · refine gi_aload_n (q := 64) (i := 0) C (dm_St_askNull 32 rfl) rfl rfl rfl ?_
        refine gi_iload_n (q := 65) (i := 1) C (dm_St_askNull 33 rfl) rfl rfl rfl ?_
        refine gi_bipush (q := 67) (v := 27) C (dm_St_askNull 34 rfl) rfl (by decide) ?_
        refine gi_icmp_ne (q := 70) (tgt := 74) C (dm_St_askNull 35 rfl) rfl (by decide) (fun c67 => ?_) (fun c67 => ?_)
        · exact absurd rfl c67
        · refine gi_iconst (q := 71) (v := 1) C (dm_St_askNull 36 rfl) rfl (by decide) ?_
          refine gi_goto (tgt := 75) C (dm_St_askNull 37 rfl) (by decide) ?_
          refine gi_iload_n (q := 76) (i := 3) C (dm_St_askNull 39 rfl) rfl rfl rfl ?_
          refine gi_callv 2 (q := 79) C (dm_St_askNull 40 rfl) rfl my_St_opensNull lk_St_245 im_St_opensNull rfl (c_St_opensNull true on bs _ Q25 G8 (by omega) eA1 rfl hmk) Q25.ob rfl rfl ⟨(Nat.le_of_ble_eq_true rfl), (Nat.le_of_ble_eq_true rfl)⟩ (Nat.le_of_ble_eq_true rfl) ⟨(Nat.le_of_ble_eq_true rfl), (Nat.le_of_ble_eq_true rfl)⟩ (fun r76 n76 h76 e76 => ?_)
          obtain ⟨rfl, ou76, wy76, Q76, hc76⟩ := e76
          rcases hc76 with ⟨ho76, rfl⟩ | ⟨g76, ho76, rfl, GW76⟩
          · refine gi_if_eq (q := 82) (tgt := 124) C (dm_St_askNull 41 rfl) rfl (by decide) (fun c79 => ?_) (fun c79 => ?_)
            · refine gi_vret C hr (dm_St_askNull 64 rfl) ?_
              rw [ho25, ho76]
              exact ⟨rfl, rfl, _, _, _, _, _, _, hS, B, Q76⟩
            · exact absurd rfl c79
          · refine gi_if_eq (q := 82) (tgt := 124) C (dm_St_askNull 41 rfl) rfl (by decide) (fun c79 => ?_) (fun c79 => ?_)
            · exact absurd c79 (by decide)
            · refine gi_aload_n (q := 83) (i := 0) C (dm_St_askNull 42 rfl) rfl rfl rfl ?_
              refine gi_aload_n (q := 84) (i := 0) C (dm_St_askNull 43 rfl) rfl rfl rfl ?_
              refine gi_get (q := 87) C (dm_St_askNull 44 rfl) rfl fl_St_70 (by first | exact Q121.ob | exact Q76.ob | exact Q60.ob | exact Q25.ob | exact Q8.ob | exact Q.ob) rfl ?_
              refine gi_aload_n (q := 88) (i := 0) C (dm_St_askNull 45 rfl) rfl rfl rfl ?_
              refine gi_get (q := 91) C (dm_St_askNull 46 rfl) rfl fl_St_144 (by first | exact Q121.ob | exact Q76.ob | exact Q60.ob | exact Q25.ob | exact Q8.ob | exact Q.ob) rfl ?_
              refine gi_aload_n (q := 92) (i := 0) C (dm_St_askNull 47 rfl) rfl rfl rfl ?_
              refine gi_get (q := 95) C (dm_St_askNull 48 rfl) rfl fl_St_147 (by first | exact Q121.ob | exact Q76.ob | exact Q60.ob | exact Q25.ob | exact Q8.ob | exact Q.ob) rfl ?_
              refine gi_iconst (q := 96) (v := 1) C (dm_St_askNull 49 rfl) rfl (by decide) ?_
              refine gi_iadd (q := 97) C (dm_St_askNull 50 rfl) rfl ?_
              obtain ⟨fs97, ob97⟩ := B.ob d Q76.2
              rw [hS.2.2.1, hS.2.2.2, nI_1]
              refine gi_callv 2 (q := 100) C (dm_St_askNull 51 rfl) rfl my_Fa_stateAt lk_St_134 im_Fa_stateAt rfl (b_state B d Q76.2 (by omega) (by omega)) ob97 rfl rfl ⟨(Nat.le_of_ble_eq_true rfl), (Nat.le_of_ble_eq_true rfl)⟩ (Nat.le_of_ble_eq_true rfl) ⟨(Nat.le_of_ble_eq_true rfl), (Nat.le_of_ble_eq_true rfl)⟩ (fun r97 n97 h97 e97 => ?_)
              obtain ⟨rfl, q97, u97⟩ := e97
              rw [q97, u97]
              refine gi_aload_n (q := 101) (i := 0) C (dm_St_askNull 52 rfl) rfl rfl rfl ?_
              refine gi_get (q := 104) C (dm_St_askNull 53 rfl) rfl fl_St_27 (by first | exact Q121.ob | exact Q76.ob | exact Q60.ob | exact Q25.ob | exact Q8.ob | exact Q.ob) rfl ?_
              refine gi_aload_n (q := 105) (i := 0) C (dm_St_askNull 54 rfl) rfl rfl rfl ?_
              refine gi_get (q := 108) C (dm_St_askNull 55 rfl) rfl fl_St_62 (by first | exact Q121.ob | exact Q76.ob | exact Q60.ob | exact Q25.ob | exact Q8.ob | exact Q.ob) rfl ?_
              refine gi_aload_n (q := 109) (i := 0) C (dm_St_askNull 56 rfl) rfl rfl rfl ?_
              refine gi_get (q := 112) C (dm_St_askNull 57 rfl) rfl fl_St_144 (by first | exact Q121.ob | exact Q76.ob | exact Q60.ob | exact Q25.ob | exact Q8.ob | exact Q.ob) rfl ?_
              refine gi_aload_n (q := 113) (i := 0) C (dm_St_askNull 58 rfl) rfl rfl rfl ?_
              refine gi_get (q := 116) C (dm_St_askNull 59 rfl) rfl fl_St_147 (by first | exact Q121.ob | exact Q76.ob | exact Q60.ob | exact Q25.ob | exact Q8.ob | exact Q.ob) rfl ?_
              refine gi_iconst (q := 117) (v := 1) C (dm_St_askNull 60 rfl) rfl (by decide) ?_
              refine gi_iadd (q := 118) C (dm_St_askNull 61 rfl) rfl ?_
              obtain ⟨fw118, ow118⟩ := B.ob2 d Q76.2
              rw [hS.2.2.1, hS.2.2.2, nI_1]
              refine gi_callv 2 (q := 121) C (dm_St_askNull 62 rfl) rfl my_Bu_isWide lk_St_167 im_Bu_isWide rfl (b_wide W B d Q76.2 hm hi) ow118 rfl rfl ⟨(Nat.le_of_ble_eq_true rfl), (Nat.le_of_ble_eq_true rfl)⟩ (Nat.le_of_ble_eq_true rfl) ⟨(Nat.le_of_ble_eq_true rfl), (Nat.le_of_ble_eq_true rfl)⟩ (fun r118 n118 h118 e118 => ?_)
              obtain ⟨rfl, q118, u118⟩ := e118
              rw [q118, u118]
              refine gi_callv 3 (q := 124) C (dm_St_askNull 63 rfl) rfl my_St_come lk_St_140 im_St_come rfl (b_come (a + 21) 14 (n0 - 1) (60 * m + i + 1) _ _ h2 B hT d hS Q76 (by omega) (by omega) (by omega) Q76.wy GW76 (by omega) (by rw [cap_st (by omega)]; omega) (hc2 _ ho76)) Q76.ob rfl rfl ⟨(Nat.le_of_ble_eq_true rfl), (Nat.le_of_ble_eq_true rfl)⟩ (Nat.le_of_ble_eq_true rfl) ⟨(Nat.le_of_ble_eq_true rfl), (Nat.le_of_ble_eq_true rfl)⟩ (fun r121 n121 h121 e121 => ?_)
              obtain ⟨rfl, rfl, S121, hS121, B121, Q121⟩ := e121
              refine gi_vret C hr (dm_St_askNull 64 rfl) ?_
              rw [ho25, ho76]
              exact ⟨rfl, rfl, _, _, _, _, _, _, hS121, B121, Q121⟩
      · exact absurd rfl c28
    · refine gi_if_eq (q := 31) (tgt := 63) C (dm_St_askNull 15 rfl) rfl (by decide) (fun c28 => ?_) (fun c28 => ?_)
      · exact absurd c28 (by decide)
      · refine gi_aload_n (q := 32) (i := 0) C (dm_St_askNull 16 rfl) rfl rfl rfl ?_
        refine gi_aload_n (q := 33) (i := 0) C (dm_St_askNull 17 rfl) rfl rfl rfl ?_
        refine gi_get (q := 36) C (dm_St_askNull 18 rfl) rfl fl_St_70 (by first | exact Q121.ob | exact Q76.ob | exact Q60.ob | exact Q25.ob | exact Q8.ob | exact Q.ob) rfl ?_
        refine gi_aload_n (q := 37) (i := 0) C (dm_St_askNull 19 rfl) rfl rfl rfl ?_
        refine gi_get (q := 40) C (dm_St_askNull 20 rfl) rfl fl_St_144 (by first | exact Q121.ob | exact Q76.ob | exact Q60.ob | exact Q25.ob | exact Q8.ob | exact Q.ob) rfl ?_
        refine gi_iload_n (q := 41) (i := 2) C (dm_St_askNull 21 rfl) rfl rfl rfl ?_
        obtain ⟨fs41, ob41⟩ := B.ob d Q25.2
        rw [hS.2.2.1]
        refine gi_callv 2 (q := 44) C (dm_St_askNull 22 rfl) rfl my_Fa_stateAt lk_St_134 im_Fa_stateAt rfl (b_state B d Q25.2 (by omega) (by omega)) ob41 rfl rfl ⟨(Nat.le_of_ble_eq_true rfl), (Nat.le_of_ble_eq_true rfl)⟩ (Nat.le_of_ble_eq_true rfl) ⟨(Nat.le_of_ble_eq_true rfl), (Nat.le_of_ble_eq_true rfl)⟩ (fun r41 n41 h41 e41 => ?_)
        obtain ⟨rfl, q41, u41⟩ := e41
        rw [q41, u41]
        refine gi_aload_n (q := 45) (i := 0) C (dm_St_askNull 23 rfl) rfl rfl rfl ?_
        refine gi_get (q := 48) C (dm_St_askNull 24 rfl) rfl fl_St_27 (by first | exact Q121.ob | exact Q76.ob | exact Q60.ob | exact Q25.ob | exact Q8.ob | exact Q.ob) rfl ?_
        refine gi_aload_n (q := 49) (i := 0) C (dm_St_askNull 25 rfl) rfl rfl rfl ?_
        refine gi_get (q := 52) C (dm_St_askNull 26 rfl) rfl fl_St_62 (by first | exact Q121.ob | exact Q76.ob | exact Q60.ob | exact Q25.ob | exact Q8.ob | exact Q.ob) rfl ?_
        refine gi_aload_n (q := 53) (i := 0) C (dm_St_askNull 27 rfl) rfl rfl rfl ?_
        refine gi_get (q := 56) C (dm_St_askNull 28 rfl) rfl fl_St_144 (by first | exact Q121.ob | exact Q76.ob | exact Q60.ob | exact Q25.ob | exact Q8.ob | exact Q.ob) rfl ?_
        refine gi_iload_n (q := 57) (i := 2) C (dm_St_askNull 29 rfl) rfl rfl rfl ?_
        obtain ⟨fw57, ow57⟩ := B.ob2 d Q25.2
        rw [hS.2.2.1]
        refine gi_callv 2 (q := 60) C (dm_St_askNull 30 rfl) rfl my_Bu_isWide lk_St_167 im_Bu_isWide rfl (b_wide W B d Q25.2 hm hja) ow57 rfl rfl ⟨(Nat.le_of_ble_eq_true rfl), (Nat.le_of_ble_eq_true rfl)⟩ (Nat.le_of_ble_eq_true rfl) ⟨(Nat.le_of_ble_eq_true rfl), (Nat.le_of_ble_eq_true rfl)⟩ (fun r57 n57 h57 e57 => ?_)
        obtain ⟨rfl, q57, u57⟩ := e57
        rw [q57, u57]
        refine gi_callv 3 (q := 63) C (dm_St_askNull 31 rfl) rfl my_St_come lk_St_140 im_St_come rfl (b_come (a + 21) 14 (n0 - 1) (60 * m + ja) _ _ h2 B hT d hS Q25 (by omega) (by omega) (by omega) Q25.wy GW25 (by omega) (by rw [cap_st (by omega)]; omega) (hc1 _ ho25)) Q25.ob rfl rfl ⟨(Nat.le_of_ble_eq_true rfl), (Nat.le_of_ble_eq_true rfl)⟩ (Nat.le_of_ble_eq_true rfl) ⟨(Nat.le_of_ble_eq_true rfl), (Nat.le_of_ble_eq_true rfl)⟩ (fun r60 n60 h60 e60 => ?_)
        obtain ⟨rfl, rfl, S60, hS60, B60, Q60⟩ := e60
        refine gi_aload_n (q := 64) (i := 0) C (dm_St_askNull 32 rfl) rfl rfl rfl ?_
        refine gi_iload_n (q := 65) (i := 1) C (dm_St_askNull 33 rfl) rfl rfl rfl ?_
        refine gi_bipush (q := 67) (v := 27) C (dm_St_askNull 34 rfl) rfl (by decide) ?_
        refine gi_icmp_ne (q := 70) (tgt := 74) C (dm_St_askNull 35 rfl) rfl (by decide) (fun c67 => ?_) (fun c67 => ?_)
        · exact absurd rfl c67
        · refine gi_iconst (q := 71) (v := 1) C (dm_St_askNull 36 rfl) rfl (by decide) ?_
          refine gi_goto (tgt := 75) C (dm_St_askNull 37 rfl) (by decide) ?_
          refine gi_iload_n (q := 76) (i := 3) C (dm_St_askNull 39 rfl) rfl rfl rfl ?_
          refine gi_callv 2 (q := 79) C (dm_St_askNull 40 rfl) rfl my_St_opensNull lk_St_245 im_St_opensNull rfl (c_St_opensNull true on bs _ Q60 G8 (by omega) eA1 rfl hmk) Q60.ob rfl rfl ⟨(Nat.le_of_ble_eq_true rfl), (Nat.le_of_ble_eq_true rfl)⟩ (Nat.le_of_ble_eq_true rfl) ⟨(Nat.le_of_ble_eq_true rfl), (Nat.le_of_ble_eq_true rfl)⟩ (fun r76 n76 h76 e76 => ?_)
          obtain ⟨rfl, ou76, wy76, Q76, hc76⟩ := e76
          rcases hc76 with ⟨ho76, rfl⟩ | ⟨g76, ho76, rfl, GW76⟩
          · refine gi_if_eq (q := 82) (tgt := 124) C (dm_St_askNull 41 rfl) rfl (by decide) (fun c79 => ?_) (fun c79 => ?_)
            · refine gi_vret C hr (dm_St_askNull 64 rfl) ?_
              rw [ho25, ho76]
              exact ⟨rfl, rfl, _, _, _, _, _, _, hS60, B60, Q76⟩
            · exact absurd rfl c79
          · refine gi_if_eq (q := 82) (tgt := 124) C (dm_St_askNull 41 rfl) rfl (by decide) (fun c79 => ?_) (fun c79 => ?_)
            · exact absurd c79 (by decide)
            · refine gi_aload_n (q := 83) (i := 0) C (dm_St_askNull 42 rfl) rfl rfl rfl ?_
              refine gi_aload_n (q := 84) (i := 0) C (dm_St_askNull 43 rfl) rfl rfl rfl ?_
              refine gi_get (q := 87) C (dm_St_askNull 44 rfl) rfl fl_St_70 (by first | exact Q121.ob | exact Q76.ob | exact Q60.ob | exact Q25.ob | exact Q8.ob | exact Q.ob) rfl ?_
              refine gi_aload_n (q := 88) (i := 0) C (dm_St_askNull 45 rfl) rfl rfl rfl ?_
              refine gi_get (q := 91) C (dm_St_askNull 46 rfl) rfl fl_St_144 (by first | exact Q121.ob | exact Q76.ob | exact Q60.ob | exact Q25.ob | exact Q8.ob | exact Q.ob) rfl ?_
              refine gi_aload_n (q := 92) (i := 0) C (dm_St_askNull 47 rfl) rfl rfl rfl ?_
              refine gi_get (q := 95) C (dm_St_askNull 48 rfl) rfl fl_St_147 (by first | exact Q121.ob | exact Q76.ob | exact Q60.ob | exact Q25.ob | exact Q8.ob | exact Q.ob) rfl ?_
              refine gi_iconst (q := 96) (v := 1) C (dm_St_askNull 49 rfl) rfl (by decide) ?_
              refine gi_iadd (q := 97) C (dm_St_askNull 50 rfl) rfl ?_
              obtain ⟨fs97, ob97⟩ := B60.ob d Q76.2
              rw [hS60.2.2.1, hS60.2.2.2, nI_1]
              refine gi_callv 2 (q := 100) C (dm_St_askNull 51 rfl) rfl my_Fa_stateAt lk_St_134 im_Fa_stateAt rfl (b_state B60 d Q76.2 (by omega) (by omega)) ob97 rfl rfl ⟨(Nat.le_of_ble_eq_true rfl), (Nat.le_of_ble_eq_true rfl)⟩ (Nat.le_of_ble_eq_true rfl) ⟨(Nat.le_of_ble_eq_true rfl), (Nat.le_of_ble_eq_true rfl)⟩ (fun r97 n97 h97 e97 => ?_)
              obtain ⟨rfl, q97, u97⟩ := e97
              rw [q97, u97]
              refine gi_aload_n (q := 101) (i := 0) C (dm_St_askNull 52 rfl) rfl rfl rfl ?_
              refine gi_get (q := 104) C (dm_St_askNull 53 rfl) rfl fl_St_27 (by first | exact Q121.ob | exact Q76.ob | exact Q60.ob | exact Q25.ob | exact Q8.ob | exact Q.ob) rfl ?_
              refine gi_aload_n (q := 105) (i := 0) C (dm_St_askNull 54 rfl) rfl rfl rfl ?_
              refine gi_get (q := 108) C (dm_St_askNull 55 rfl) rfl fl_St_62 (by first | exact Q121.ob | exact Q76.ob | exact Q60.ob | exact Q25.ob | exact Q8.ob | exact Q.ob) rfl ?_
              refine gi_aload_n (q := 109) (i := 0) C (dm_St_askNull 56 rfl) rfl rfl rfl ?_
              refine gi_get (q := 112) C (dm_St_askNull 57 rfl) rfl fl_St_144 (by first | exact Q121.ob | exact Q76.ob | exact Q60.ob | exact Q25.ob | exact Q8.ob | exact Q.ob) rfl ?_
              refine gi_aload_n (q := 113) (i := 0) C (dm_St_askNull 58 rfl) rfl rfl rfl ?_
              refine gi_get (q := 116) C (dm_St_askNull 59 rfl) rfl fl_St_147 (by first | exact Q121.ob | exact Q76.ob | exact Q60.ob | exact Q25.ob | exact Q8.ob | exact Q.ob) rfl ?_
              refine gi_iconst (q := 117) (v := 1) C (dm_St_askNull 60 rfl) rfl (by decide) ?_
              refine gi_iadd (q := 118) C (dm_St_askNull 61 rfl) rfl ?_
              obtain ⟨fw118, ow118⟩ := B60.ob2 d Q76.2
              rw [hS60.2.2.1, hS60.2.2.2, nI_1]
              refine gi_callv 2 (q := 121) C (dm_St_askNull 62 rfl) rfl my_Bu_isWide lk_St_167 im_Bu_isWide rfl (b_wide W B60 d Q76.2 hm hi) ow118 rfl rfl ⟨(Nat.le_of_ble_eq_true rfl), (Nat.le_of_ble_eq_true rfl)⟩ (Nat.le_of_ble_eq_true rfl) ⟨(Nat.le_of_ble_eq_true rfl), (Nat.le_of_ble_eq_true rfl)⟩ (fun r118 n118 h118 e118 => ?_)
              obtain ⟨rfl, q118, u118⟩ := e118
              rw [q118, u118]
              refine gi_callv 3 (q := 124) C (dm_St_askNull 63 rfl) rfl my_St_come lk_St_140 im_St_come rfl (b_come (a + 21) 14 (n0 - 1) (60 * m + i + 1) _ _ h2 B60 hT d hS60 Q76 (by omega) (by omega) (by omega) Q76.wy GW76 (by omega) (by rw [cap_st (by omega)]; omega) (hc2 _ ho76)) Q76.ob rfl rfl ⟨(Nat.le_of_ble_eq_true rfl), (Nat.le_of_ble_eq_true rfl)⟩ (Nat.le_of_ble_eq_true rfl) ⟨(Nat.le_of_ble_eq_true rfl), (Nat.le_of_ble_eq_true rfl)⟩ (fun r121 n121 h121 e121 => ?_)
              obtain ⟨rfl, rfl, S121, hS121, B121, Q121⟩ := e121
              refine gi_vret C hr (dm_St_askNull 64 rfl) ?_
              rw [ho25, ho76]
              exact ⟨rfl, rfl, _, _, _, _, _, _, hS121, B121, Q121⟩
  · exact absurd c16 (by decide)
end ST9
