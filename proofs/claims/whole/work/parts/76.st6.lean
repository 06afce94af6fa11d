-- needs: 75 62
section ST6
variable {l : Launch} {V : gi_V} {n : Nat} {h h' h0 : gi_H} {a pr bu fr to k m md : Nat} {P : Pm} {S : Nat → Int32} {x y nx ny ar ou be ab : mV} {Wk Wy En Lo : mR} {F : Fa} {Φ : Nat → mR} {T : Nat → Ty} {wd : Nat → Bool} {cb : Bool}
variable {f : Nat → Sl} {n0 : Nat}
set_option maxHeartbeats 4000000 in
set_option maxRecDepth 100000 in
theorem c_St_narrow (o : Nat) (X Y : Sp) (h20 : 20 ≤ o) (h25 : o ≤ 25) (hX : okS X) (hY : okS Y) (Q : stO a pr bu fr to h0 S (sV X) (sV Y) nx ny ar ou be ab Wk Wy En Lo h) : gi_T l V y_St_narrow b_St_narrow 2 none 2 51 0 0 [.ref a, .int (nI o)] n h (fun v n' h' => v = none ∧ n' = n ∧ stO a pr bu fr to h0 S (sV X) (sV Y) (sV (wS (narX o X Y))) (sV (wS (narY o X Y))) ar ou be ab Wk Wy En Lo h') := by
  refine gi_enter (by decide) (Nat.le_of_ble_eq_true rfl) ?_
  intro _ _ _ _ _ _ _ _ C hr hnm
  obtain ⟨o1, o2, o3, o4, o5, o6⟩ := id hX
  obtain ⟨w1, w2, w3, w4, w5, w6⟩ := id hY
  refine gi_aload_n (q := 1) (i := 0) C (dm_St_narrow 0 rfl) rfl rfl rfl ?_
  refine gi_get (q := 4) C (dm_St_narrow 1 rfl) rfl fl_St_46 (by first | exact Q302.ob | exact Q302.vx | exact Q302.vy | exact Q302.vnx | exact Q302.vny | exact Q285.ob | exact Q285.vx | exact Q285.vy | exact Q285.vnx | exact Q285.vny | exact Q265.ob | exact Q265.vx | exact Q265.vy | exact Q265.vnx | exact Q265.vny | exact Q246.ob | exact Q246.vx | exact Q246.vy | exact Q246.vnx | exact Q246.vny | exact Q224.ob | exact Q224.vx | exact Q224.vy | exact Q224.vnx | exact Q224.vny | exact Q207.ob | exact Q207.vx | exact Q207.vy | exact Q207.vnx | exact Q207.vny | exact Q187.ob | exact Q187.vx | exact Q187.vy | exact Q187.vnx | exact Q187.vny | exact Q168.ob | exact Q168.vx | exact Q168.vy | exact Q168.vnx | exact Q168.vny | exact Q146.ob | exact Q146.vx | exact Q146.vy | exact Q146.vnx | exact Q146.vny | exact Q122.ob | exact Q122.vx | exact Q122.vy | exact Q122.vnx | exact Q122.vny | exact Q95.ob | exact Q95.vx | exact Q95.vy | exact Q95.vnx | exact Q95.vny | exact Q74.ob | exact Q74.vx | exact Q74.vy | exact Q74.vnx | exact Q74.vny | exact Q19.ob | exact Q19.vx | exact Q19.vy | exact Q19.vnx | exact Q19.vny | exact Q8.ob | exact Q8.vx | exact Q8.vy | exact Q8.vnx | exact Q8.vny | exact Q.ob | exact Q.vx | exact Q.vy | exact Q.vnx | exact Q.vny) rfl ?_
  refine gi_aload_n (q := 5) (i := 0) C (dm_St_narrow 2 rfl) rfl rfl rfl ?_
  refine gi_get (q := 8) C (dm_St_narrow 3 rfl) rfl fl_St_39 (by first | exact Q302.ob | exact Q302.vx | exact Q302.vy | exact Q302.vnx | exact Q302.vny | exact Q285.ob | exact Q285.vx | exact Q285.vy | exact Q285.vnx | exact Q285.vny | exact Q265.ob | exact Q265.vx | exact Q265.vy | exact Q265.vnx | exact Q265.vny | exact Q246.ob | exact Q246.vx | exact Q246.vy | exact Q246.vnx | exact Q246.vny | exact Q224.ob | exact Q224.vx | exact Q224.vy | exact Q224.vnx | exact Q224.vny | exact Q207.ob | exact Q207.vx | exact Q207.vy | exact Q207.vnx | exact Q207.vny | exact Q187.ob | exact Q187.vx | exact Q187.vy | exact Q187.vnx | exact Q187.vny | exact Q168.ob | exact Q168.vx | exact Q168.vy | exact Q168.vnx | exact Q168.vny | exact Q146.ob | exact Q146.vx | exact Q146.vy | exact Q146.vnx | exact Q146.vny | exact Q122.ob | exact Q122.vx | exact Q122.vy | exact Q122.vnx | exact Q122.vny | exact Q95.ob | exact Q95.vx | exact Q95.vy | exact Q95.vnx | exact Q95.vny | exact Q74.ob | exact Q74.vx | exact Q74.vy | exact Q74.vnx | exact Q74.vny | exact Q19.ob | exact Q19.vx | exact Q19.vy | exact Q19.vnx | exact Q19.vny | exact Q8.ob | exact Q8.vx | exact Q8.vy | exact Q8.vnx | exact Q8.vny | exact Q.ob | exact Q.vx | exact Q.vy | exact Q.vnx | exact Q.vny) rfl ?_
  refine gi_callv 1 (q := 11) C (dm_St_narrow 4 rfl) rfl my_Va_copy lk_St_99 im_Va_copy rfl (c_Va_copy (a + 61) (a + 59) nx (sV X) Q.vnx Q.vx (by omega) (wf_s X)) Q.vnx rfl rfl ⟨(Nat.le_of_ble_eq_true rfl), (Nat.le_of_ble_eq_true rfl)⟩ (Nat.le_of_ble_eq_true rfl) ⟨(Nat.le_of_ble_eq_true rfl), (Nat.le_of_ble_eq_true rfl)⟩ (fun r8 n8 h8 e8 => ?_)
  obtain ⟨rfl, rfl, rfl⟩ := e8
  have Q8 := Q.pnx (sV X)
  refine gi_aload_n (q := 12) (i := 0) C (dm_St_narrow 5 rfl) rfl rfl rfl ?_
  refine gi_get (q := 15) C (dm_St_narrow 6 rfl) rfl fl_St_49 (by first | exact Q302.ob | exact Q302.vx | exact Q302.vy | exact Q302.vnx | exact Q302.vny | exact Q285.ob | exact Q285.vx | exact Q285.vy | exact Q285.vnx | exact Q285.vny | exact Q265.ob | exact Q265.vx | exact Q265.vy | exact Q265.vnx | exact Q265.vny | exact Q246.ob | exact Q246.vx | exact Q246.vy | exact Q246.vnx | exact Q246.vny | exact Q224.ob | exact Q224.vx | exact Q224.vy | exact Q224.vnx | exact Q224.vny | exact Q207.ob | exact Q207.vx | exact Q207.vy | exact Q207.vnx | exact Q207.vny | exact Q187.ob | exact Q187.vx | exact Q187.vy | exact Q187.vnx | exact Q187.vny | exact Q168.ob | exact Q168.vx | exact Q168.vy | exact Q168.vnx | exact Q168.vny | exact Q146.ob | exact Q146.vx | exact Q146.vy | exact Q146.vnx | exact Q146.vny | exact Q122.ob | exact Q122.vx | exact Q122.vy | exact Q122.vnx | exact Q122.vny | exact Q95.ob | exact Q95.vx | exact Q95.vy | exact Q95.vnx | exact Q95.vny | exact Q74.ob | exact Q74.vx | exact Q74.vy | exact Q74.vnx | exact Q74.vny | exact Q19.ob | exact Q19.vx | exact Q19.vy | exact Q19.vnx | exact Q19.vny | exact Q8.ob | exact Q8.vx | exact Q8.vy | exact Q8.vnx | exact Q8.vny | exact Q.ob | exact Q.vx | exact Q.vy | exact Q.vnx | exact Q.vny) rfl ?_
  refine gi_aload_n (q := 16) (i := 0) C (dm_St_narrow 7 rfl) rfl rfl rfl ?_
  refine gi_get (q := 19) C (dm_St_narrow 8 rfl) rfl fl_St_43 (by first | exact Q302.ob | exact Q302.vx | exact Q302.vy | exact Q302.vnx | exact Q302.vny | exact Q285.ob | exact Q285.vx | exact Q285.vy | exact Q285.vnx | exact Q285.vny | exact Q265.ob | exact Q265.vx | exact Q265.vy | exact Q265.vnx | exact Q265.vny | exact Q246.ob | exact Q246.vx | exact Q246.vy | exact Q246.vnx | exact Q246.vny | exact Q224.ob | exact Q224.vx | exact Q224.vy | exact Q224.vnx | exact Q224.vny | exact Q207.ob | exact Q207.vx | exact Q207.vy | exact Q207.vnx | exact Q207.vny | exact Q187.ob | exact Q187.vx | exact Q187.vy | exact Q187.vnx | exact Q187.vny | exact Q168.ob | exact Q168.vx | exact Q168.vy | exact Q168.vnx | exact Q168.vny | exact Q146.ob | exact Q146.vx | exact Q146.vy | exact Q146.vnx | exact Q146.vny | exact Q122.ob | exact Q122.vx | exact Q122.vy | exact Q122.vnx | exact Q122.vny | exact Q95.ob | exact Q95.vx | exact Q95.vy | exact Q95.vnx | exact Q95.vny | exact Q74.ob | exact Q74.vx | exact Q74.vy | exact Q74.vnx | exact Q74.vny | exact Q19.ob | exact Q19.vx | exact Q19.vy | exact Q19.vnx | exact Q19.vny | exact Q8.ob | exact Q8.vx | exact Q8.vy | exact Q8.vnx | exact Q8.vny | exact Q.ob | exact Q.vx | exact Q.vy | exact Q.vnx | exact Q.vny) rfl ?_
  refine gi_callv 1 (q := 22) C (dm_St_narrow 9 rfl) rfl my_Va_copy lk_St_99 im_Va_copy rfl (c_Va_copy (a + 62) (a + 60) ny (sV Y) Q8.vny Q8.vy (by omega) (wf_s Y)) Q8.vny rfl rfl ⟨(Nat.le_of_ble_eq_true rfl), (Nat.le_of_ble_eq_true rfl)⟩ (Nat.le_of_ble_eq_true rfl) ⟨(Nat.le_of_ble_eq_true rfl), (Nat.le_of_ble_eq_true rfl)⟩ (fun r19 n19 h19 e19 => ?_)
  obtain ⟨rfl, rfl, rfl⟩ := e19
  have Q19 := Q8.pny (sV Y)
  refine gi_iload_n (q := 23) (i := 1) C (dm_St_narrow 10 rfl) rfl rfl rfl ?_
  refine gi_switch (lo := 20) (hi := 24) (by decide) (fun c23 => ?_) (fun i23 u23 v23 c23 => ?_)
  · refine gi_tableOut (tgt := 271) C (dm_St_narrow 11 rfl) c23 (by decide) ?_
    refine gi_aload_n (q := 272) (i := 0) C (dm_St_narrow 105 rfl) rfl rfl rfl ?_
    refine gi_get (q := 275) C (dm_St_narrow 106 rfl) rfl fl_St_46 (by first | exact Q302.ob | exact Q302.vx | exact Q302.vy | exact Q302.vnx | exact Q302.vny | exact Q285.ob | exact Q285.vx | exact Q285.vy | exact Q285.vnx | exact Q285.vny | exact Q265.ob | exact Q265.vx | exact Q265.vy | exact Q265.vnx | exact Q265.vny | exact Q246.ob | exact Q246.vx | exact Q246.vy | exact Q246.vnx | exact Q246.vny | exact Q224.ob | exact Q224.vx | exact Q224.vy | exact Q224.vnx | exact Q224.vny | exact Q207.ob | exact Q207.vx | exact Q207.vy | exact Q207.vnx | exact Q207.vny | exact Q187.ob | exact Q187.vx | exact Q187.vy | exact Q187.vnx | exact Q187.vny | exact Q168.ob | exact Q168.vx | exact Q168.vy | exact Q168.vnx | exact Q168.vny | exact Q146.ob | exact Q146.vx | exact Q146.vy | exact Q146.vnx | exact Q146.vny | exact Q122.ob | exact Q122.vx | exact Q122.vy | exact Q122.vnx | exact Q122.vny | exact Q95.ob | exact Q95.vx | exact Q95.vy | exact Q95.vnx | exact Q95.vny | exact Q74.ob | exact Q74.vx | exact Q74.vy | exact Q74.vnx | exact Q74.vny | exact Q19.ob | exact Q19.vx | exact Q19.vy | exact Q19.vnx | exact Q19.vny | exact Q8.ob | exact Q8.vx | exact Q8.vy | exact Q8.vnx | exact Q8.vny | exact Q.ob | exact Q.vx | exact Q.vy | exact Q.vnx | exact Q.vny) rfl ?_
    refine gi_ldc2 (q := 278) C (dm_St_narrow 107 rfl) rfl kc_St_241 ?_
    refine gi_aload_n (q := 279) (i := 0) C (dm_St_narrow 108 rfl) rfl rfl rfl ?_
    refine gi_get (q := 282) C (dm_St_narrow 109 rfl) rfl fl_St_43 (by first | exact Q302.ob | exact Q302.vx | exact Q302.vy | exact Q302.vnx | exact Q302.vny | exact Q285.ob | exact Q285.vx | exact Q285.vy | exact Q285.vnx | exact Q285.vny | exact Q265.ob | exact Q265.vx | exact Q265.vy | exact Q265.vnx | exact Q265.vny | exact Q246.ob | exact Q246.vx | exact Q246.vy | exact Q246.vnx | exact Q246.vny | exact Q224.ob | exact Q224.vx | exact Q224.vy | exact Q224.vnx | exact Q224.vny | exact Q207.ob | exact Q207.vx | exact Q207.vy | exact Q207.vnx | exact Q207.vny | exact Q187.ob | exact Q187.vx | exact Q187.vy | exact Q187.vnx | exact Q187.vny | exact Q168.ob | exact Q168.vx | exact Q168.vy | exact Q168.vnx | exact Q168.vny | exact Q146.ob | exact Q146.vx | exact Q146.vy | exact Q146.vnx | exact Q146.vny | exact Q122.ob | exact Q122.vx | exact Q122.vy | exact Q122.vnx | exact Q122.vny | exact Q95.ob | exact Q95.vx | exact Q95.vy | exact Q95.vnx | exact Q95.vny | exact Q74.ob | exact Q74.vx | exact Q74.vy | exact Q74.vnx | exact Q74.vny | exact Q19.ob | exact Q19.vx | exact Q19.vy | exact Q19.vnx | exact Q19.vny | exact Q8.ob | exact Q8.vx | exact Q8.vy | exact Q8.vnx | exact Q8.vny | exact Q.ob | exact Q.vx | exact Q.vy | exact Q.vnx | exact Q.vny) rfl ?_
    refine gi_get (q := 285) C (dm_St_narrow 110 rfl) rfl fl_St_231 (by first | exact Q302.ob | exact Q302.vx | exact Q302.vy | exact Q302.vnx | exact Q302.vny | exact Q285.ob | exact Q285.vx | exact Q285.vy | exact Q285.vnx | exact Q285.vny | exact Q265.ob | exact Q265.vx | exact Q265.vy | exact Q265.vnx | exact Q265.vny | exact Q246.ob | exact Q246.vx | exact Q246.vy | exact Q246.vnx | exact Q246.vny | exact Q224.ob | exact Q224.vx | exact Q224.vy | exact Q224.vnx | exact Q224.vny | exact Q207.ob | exact Q207.vx | exact Q207.vy | exact Q207.vnx | exact Q207.vny | exact Q187.ob | exact Q187.vx | exact Q187.vy | exact Q187.vnx | exact Q187.vny | exact Q168.ob | exact Q168.vx | exact Q168.vy | exact Q168.vnx | exact Q168.vny | exact Q146.ob | exact Q146.vx | exact Q146.vy | exact Q146.vnx | exact Q146.vny | exact Q122.ob | exact Q122.vx | exact Q122.vy | exact Q122.vnx | exact Q122.vny | exact Q95.ob | exact Q95.vx | exact Q95.vy | exact Q95.vnx | exact Q95.vny | exact Q74.ob | exact Q74.vx | exact Q74.vy | exact Q74.vnx | exact Q74.vny | exact Q19.ob | exact Q19.vx | exact Q19.vy | exact Q19.vnx | exact Q19.vny | exact Q8.ob | exact Q8.vx | exact Q8.vy | exact Q8.vnx | exact Q8.vny | exact Q.ob | exact Q.vx | exact Q.vy | exact Q.vnx | exact Q.vny) rfl ?_
    rw [eL_LO]
    refine gi_callv 2 (q := 288) C (dm_St_narrow 111 rfl) rfl my_Va_within lk_St_234 im_Va_within rfl (c_Va_within (a + 61) X (-2147483648) Y.2.1 hX.b (by omega) (by omega) (by omega) (by omega) Q19.vnx) Q19.vnx rfl rfl ⟨(Nat.le_of_ble_eq_true rfl), (Nat.le_of_ble_eq_true rfl)⟩ (Nat.le_of_ble_eq_true rfl) ⟨(Nat.le_of_ble_eq_true rfl), (Nat.le_of_ble_eq_true rfl)⟩ (fun r285 n285 h285 e285 => ?_)
    obtain ⟨rfl, rfl, rfl⟩ := e285
    have Q285 := Q19.pnx (sV (wS (withinS X (-2147483648) Y.2.1)))
    refine gi_aload_n (q := 289) (i := 0) C (dm_St_narrow 112 rfl) rfl rfl rfl ?_
    refine gi_get (q := 292) C (dm_St_narrow 113 rfl) rfl fl_St_49 (by first | exact Q302.ob | exact Q302.vx | exact Q302.vy | exact Q302.vnx | exact Q302.vny | exact Q285.ob | exact Q285.vx | exact Q285.vy | exact Q285.vnx | exact Q285.vny | exact Q265.ob | exact Q265.vx | exact Q265.vy | exact Q265.vnx | exact Q265.vny | exact Q246.ob | exact Q246.vx | exact Q246.vy | exact Q246.vnx | exact Q246.vny | exact Q224.ob | exact Q224.vx | exact Q224.vy | exact Q224.vnx | exact Q224.vny | exact Q207.ob | exact Q207.vx | exact Q207.vy | exact Q207.vnx | exact Q207.vny | exact Q187.ob | exact Q187.vx | exact Q187.vy | exact Q187.vnx | exact Q187.vny | exact Q168.ob | exact Q168.vx | exact Q168.vy | exact Q168.vnx | exact Q168.vny | exact Q146.ob | exact Q146.vx | exact Q146.vy | exact Q146.vnx | exact Q146.vny | exact Q122.ob | exact Q122.vx | exact Q122.vy | exact Q122.vnx | exact Q122.vny | exact Q95.ob | exact Q95.vx | exact Q95.vy | exact Q95.vnx | exact Q95.vny | exact Q74.ob | exact Q74.vx | exact Q74.vy | exact Q74.vnx | exact Q74.vny | exact Q19.ob | exact Q19.vx | exact Q19.vy | exact Q19.vnx | exact Q19.vny | exact Q8.ob | exact Q8.vx | exact Q8.vy | exact Q8.vnx | exact Q8.vny | exact Q.ob | exact Q.vx | exact Q.vy | exact Q.vnx | exact Q.vny) rfl ?_
    refine gi_aload_n (q := 293) (i := 0) C (dm_St_narrow 114 rfl) rfl rfl rfl ?_
    refine gi_get (q := 296) C (dm_St_narrow 115 rfl) rfl fl_St_39 (by first | exact Q302.ob | exact Q302.vx | exact Q302.vy | exact Q302.vnx | exact Q302.vny | exact Q285.ob | exact Q285.vx | exact Q285.vy | exact Q285.vnx | exact Q285.vny | exact Q265.ob | exact Q265.vx | exact Q265.vy | exact Q265.vnx | exact Q265.vny | exact Q246.ob | exact Q246.vx | exact Q246.vy | exact Q246.vnx | exact Q246.vny | exact Q224.ob | exact Q224.vx | exact Q224.vy | exact Q224.vnx | exact Q224.vny | exact Q207.ob | exact Q207.vx | exact Q207.vy | exact Q207.vnx | exact Q207.vny | exact Q187.ob | exact Q187.vx | exact Q187.vy | exact Q187.vnx | exact Q187.vny | exact Q168.ob | exact Q168.vx | exact Q168.vy | exact Q168.vnx | exact Q168.vny | exact Q146.ob | exact Q146.vx | exact Q146.vy | exact Q146.vnx | exact Q146.vny | exact Q122.ob | exact Q122.vx | exact Q122.vy | exact Q122.vnx | exact Q122.vny | exact Q95.ob | exact Q95.vx | exact Q95.vy | exact Q95.vnx | exact Q95.vny | exact Q74.ob | exact Q74.vx | exact Q74.vy | exact Q74.vnx | exact Q74.vny | exact Q19.ob | exact Q19.vx | exact Q19.vy | exact Q19.vnx | exact Q19.vny | exact Q8.ob | exact Q8.vx | exact Q8.vy | exact Q8.vnx | exact Q8.vny | exact Q.ob | exact Q.vx | exact Q.vy | exact Q.vnx | exact Q.vny) rfl ?_
    refine gi_get (q := 299) C (dm_St_narrow 116 rfl) rfl fl_St_227 (by first | exact Q302.ob | exact Q302.vx | exact Q302.vy | exact Q302.vnx | exact Q302.vny | exact Q285.ob | exact Q285.vx | exact Q285.vy | exact Q285.vnx | exact Q285.vny | exact Q265.ob | exact Q265.vx | exact Q265.vy | exact Q265.vnx | exact Q265.vny | exact Q246.ob | exact Q246.vx | exact Q246.vy | exact Q246.vnx | exact Q246.vny | exact Q224.ob | exact Q224.vx | exact Q224.vy | exact Q224.vnx | exact Q224.vny | exact Q207.ob | exact Q207.vx | exact Q207.vy | exact Q207.vnx | exact Q207.vny | exact Q187.ob | exact Q187.vx | exact Q187.vy | exact Q187.vnx | exact Q187.vny | exact Q168.ob | exact Q168.vx | exact Q168.vy | exact Q168.vnx | exact Q168.vny | exact Q146.ob | exact Q146.vx | exact Q146.vy | exact Q146.vnx | exact Q146.vny | exact Q122.ob | exact Q122.vx | exact Q122.vy | exact Q122.vnx | exact Q122.vny | exact Q95.ob | exact Q95.vx | exact Q95.vy | exact Q95.vnx | exact Q95.vny | exact Q74.ob | exact Q74.vx | exact Q74.vy | exact Q74.vnx | exact Q74.vny | exact Q19.ob | exact Q19.vx | exact Q19.vy | exact Q19.vnx | exact Q19.vny | exact Q8.ob | exact Q8.vx | exact Q8.vy | exact Q8.vnx | exact Q8.vny | exact Q.ob | exact Q.vx | exact Q.vy | exact Q.vnx | exact Q.vny) rfl ?_
    refine gi_ldc2 (q := 302) C (dm_St_narrow 117 rfl) rfl kc_St_243 ?_
    rw [eL_HI]
    refine gi_callv 2 (q := 305) C (dm_St_narrow 118 rfl) rfl my_Va_within lk_St_234 im_Va_within rfl (c_Va_within (a + 62) Y X.1 2147483647 hY.b (by omega) (by omega) (by omega) (by omega) Q285.vny) Q285.vny rfl rfl ⟨(Nat.le_of_ble_eq_true rfl), (Nat.le_of_ble_eq_true rfl)⟩ (Nat.le_of_ble_eq_true rfl) ⟨(Nat.le_of_ble_eq_true rfl), (Nat.le_of_ble_eq_true rfl)⟩ (fun r302 n302 h302 e302 => ?_)
    obtain ⟨rfl, rfl, rfl⟩ := e302
    have Q302 := Q285.pny (sV (wS (withinS Y X.1 2147483647)))
    refine gi_vret C hr (dm_St_narrow 119 rfl) ?_
    first
      | (have ho : o = 20 := (nI_eq (b := 20) (by omega) (by omega)).mp c23
         subst ho
         exact ⟨rfl, rfl, Q95⟩)
      | (have ho : o = 22 := (nI_eq (b := 22) (by omega) (by omega)).mp c23
         subst ho
         exact ⟨rfl, rfl, Q187⟩)
      | (have ho : o = 23 := (nI_eq (b := 23) (by omega) (by omega)).mp c23
         subst ho
         exact ⟨rfl, rfl, Q224⟩)
      | (have ho : o = 24 := (nI_eq (b := 24) (by omega) (by omega)).mp c23
         subst ho
         exact ⟨rfl, rfl, Q265⟩)
      | (have ho : o = 21 := (nI_eq (b := 21) (by omega) (by omega)).mp c23
         subst ho
         rw [show narX 21 X Y = loseS X Y.1 by show (if Y.1 = Y.2.1 then loseS X Y.1 else some X) = _; rw [if_pos sy], show narY 21 X Y = loseS Y X.1 by show (if X.1 = X.2.1 then loseS Y X.1 else some Y) = _; rw [if_pos sx]]
         exact ⟨rfl, rfl, Q122.pny (sV (wS (loseS Y X.1)))⟩)
      | (have ho : o = 21 := (nI_eq (b := 21) (by omega) (by omega)).mp c23
         subst ho
         rw [show narX 21 X Y = loseS X Y.1 by show (if Y.1 = Y.2.1 then loseS X Y.1 else some X) = _; rw [if_pos sy], show narY 21 X Y = some Y by show (if X.1 = X.2.1 then loseS Y X.1 else some Y) = _; rw [if_neg (sgF (by omega) (by omega) (by omega) (by omega) c132)]]
         exact ⟨rfl, rfl, Q122⟩)
      | (have ho : o = 21 := (nI_eq (b := 21) (by omega) (by omega)).mp c23
         subst ho
         rw [show narX 21 X Y = some X by show (if Y.1 = Y.2.1 then loseS X Y.1 else some X) = _; rw [if_neg (sgF (by omega) (by omega) (by omega) (by omega) c108)], show narY 21 X Y = loseS Y X.1 by show (if X.1 = X.2.1 then loseS Y X.1 else some Y) = _; rw [if_pos sx]]
         exact ⟨rfl, rfl, Q19.pny (sV (wS (loseS Y X.1)))⟩)
      | (have ho : o = 21 := (nI_eq (b := 21) (by omega) (by omega)).mp c23
         subst ho
         rw [show narX 21 X Y = some X by show (if Y.1 = Y.2.1 then loseS X Y.1 else some X) = _; rw [if_neg (sgF (by omega) (by omega) (by omega) (by omega) c108)], show narY 21 X Y = some Y by show (if X.1 = X.2.1 then loseS Y X.1 else some Y) = _; rw [if_neg (sgF (by omega) (by omega) (by omega) (by omega) c132)]]
         exact ⟨rfl, rfl, Q19⟩)
      | (have ho : o = 25 := by
           rw [nI_toInt (by omega)] at c23
           omega
         subst ho
         exact ⟨rfl, rfl, Q302⟩)
  · have w23 : i23 = 20 ∨ i23 = 21 ∨ i23 = 22 ∨ i23 = 23 ∨ i23 = 24 := by omega
    rcases w23 with rfl | rfl | rfl | rfl | rfl
    · refine gi_tableIn (off := 33) (tgt := 56) C (dm_St_narrow 11 rfl) (by decide) (by decide) rfl (by decide) ?_
      refine gi_aload_n (q := 57) (i := 0) C (dm_St_narrow 12 rfl) rfl rfl rfl ?_
      refine gi_get (q := 60) C (dm_St_narrow 13 rfl) rfl fl_St_46 (by first | exact Q302.ob | exact Q302.vx | exact Q302.vy | exact Q302.vnx | exact Q302.vny | exact Q285.ob | exact Q285.vx | exact Q285.vy | exact Q285.vnx | exact Q285.vny | exact Q265.ob | exact Q265.vx | exact Q265.vy | exact Q265.vnx | exact Q265.vny | exact Q246.ob | exact Q246.vx | exact Q246.vy | exact Q246.vnx | exact Q246.vny | exact Q224.ob | exact Q224.vx | exact Q224.vy | exact Q224.vnx | exact Q224.vny | exact Q207.ob | exact Q207.vx | exact Q207.vy | exact Q207.vnx | exact Q207.vny | exact Q187.ob | exact Q187.vx | exact Q187.vy | exact Q187.vnx | exact Q187.vny | exact Q168.ob | exact Q168.vx | exact Q168.vy | exact Q168.vnx | exact Q168.vny | exact Q146.ob | exact Q146.vx | exact Q146.vy | exact Q146.vnx | exact Q146.vny | exact Q122.ob | exact Q122.vx | exact Q122.vy | exact Q122.vnx | exact Q122.vny | exact Q95.ob | exact Q95.vx | exact Q95.vy | exact Q95.vnx | exact Q95.vny | exact Q74.ob | exact Q74.vx | exact Q74.vy | exact Q74.vnx | exact Q74.vny | exact Q19.ob | exact Q19.vx | exact Q19.vy | exact Q19.vnx | exact Q19.vny | exact Q8.ob | exact Q8.vx | exact Q8.vy | exact Q8.vnx | exact Q8.vny | exact Q.ob | exact Q.vx | exact Q.vy | exact Q.vnx | exact Q.vny) rfl ?_
      refine gi_aload_n (q := 61) (i := 0) C (dm_St_narrow 14 rfl) rfl rfl rfl ?_
      refine gi_get (q := 64) C (dm_St_narrow 15 rfl) rfl fl_St_43 (by first | exact Q302.ob | exact Q302.vx | exact Q302.vy | exact Q302.vnx | exact Q302.vny | exact Q285.ob | exact Q285.vx | exact Q285.vy | exact Q285.vnx | exact Q285.vny | exact Q265.ob | exact Q265.vx | exact Q265.vy | exact Q265.vnx | exact Q265.vny | exact Q246.ob | exact Q246.vx | exact Q246.vy | exact Q246.vnx | exact Q246.vny | exact Q224.ob | exact Q224.vx | exact Q224.vy | exact Q224.vnx | exact Q224.vny | exact Q207.ob | exact Q207.vx | exact Q207.vy | exact Q207.vnx | exact Q207.vny | exact Q187.ob | exact Q187.vx | exact Q187.vy | exact Q187.vnx | exact Q187.vny | exact Q168.ob | exact Q168.vx | exact Q168.vy | exact Q168.vnx | exact Q168.vny | exact Q146.ob | exact Q146.vx | exact Q146.vy | exact Q146.vnx | exact Q146.vny | exact Q122.ob | exact Q122.vx | exact Q122.vy | exact Q122.vnx | exact Q122.vny | exact Q95.ob | exact Q95.vx | exact Q95.vy | exact Q95.vnx | exact Q95.vny | exact Q74.ob | exact Q74.vx | exact Q74.vy | exact Q74.vnx | exact Q74.vny | exact Q19.ob | exact Q19.vx | exact Q19.vy | exact Q19.vnx | exact Q19.vny | exact Q8.ob | exact Q8.vx | exact Q8.vy | exact Q8.vnx | exact Q8.vny | exact Q.ob | exact Q.vx | exact Q.vy | exact Q.vnx | exact Q.vny) rfl ?_
      refine gi_get (q := 67) C (dm_St_narrow 16 rfl) rfl fl_St_227 (by first | exact Q302.ob | exact Q302.vx | exact Q302.vy | exact Q302.vnx | exact Q302.vny | exact Q285.ob | exact Q285.vx | exact Q285.vy | exact Q285.vnx | exact Q285.vny | exact Q265.ob | exact Q265.vx | exact Q265.vy | exact Q265.vnx | exact Q265.vny | exact Q246.ob | exact Q246.vx | exact Q246.vy | exact Q246.vnx | exact Q246.vny | exact Q224.ob | exact Q224.vx | exact Q224.vy | exact Q224.vnx | exact Q224.vny | exact Q207.ob | exact Q207.vx | exact Q207.vy | exact Q207.vnx | exact Q207.vny | exact Q187.ob | exact Q187.vx | exact Q187.vy | exact Q187.vnx | exact Q187.vny | exact Q168.ob | exact Q168.vx | exact Q168.vy | exact Q168.vnx | exact Q168.vny | exact Q146.ob | exact Q146.vx | exact Q146.vy | exact Q146.vnx | exact Q146.vny | exact Q122.ob | exact Q122.vx | exact Q122.vy | exact Q122.vnx | exact Q122.vny | exact Q95.ob | exact Q95.vx | exact Q95.vy | exact Q95.vnx | exact Q95.vny | exact Q74.ob | exact Q74.vx | exact Q74.vy | exact Q74.vnx | exact Q74.vny | exact Q19.ob | exact Q19.vx | exact Q19.vy | exact Q19.vnx | exact Q19.vny | exact Q8.ob | exact Q8.vx | exact Q8.vy | exact Q8.vnx | exact Q8.vny | exact Q.ob | exact Q.vx | exact Q.vy | exact Q.vnx | exact Q.vny) rfl ?_
      refine gi_aload_n (q := 68) (i := 0) C (dm_St_narrow 17 rfl) rfl rfl rfl ?_
      refine gi_get (q := 71) C (dm_St_narrow 18 rfl) rfl fl_St_43 (by first | exact Q302.ob | exact Q302.vx | exact Q302.vy | exact Q302.vnx | exact Q302.vny | exact Q285.ob | exact Q285.vx | exact Q285.vy | exact Q285.vnx | exact Q285.vny | exact Q265.ob | exact Q265.vx | exact Q265.vy | exact Q265.vnx | exact Q265.vny | exact Q246.ob | exact Q246.vx | exact Q246.vy | exact Q246.vnx | exact Q246.vny | exact Q224.ob | exact Q224.vx | exact Q224.vy | exact Q224.vnx | exact Q224.vny | exact Q207.ob | exact Q207.vx | exact Q207.vy | exact Q207.vnx | exact Q207.vny | exact Q187.ob | exact Q187.vx | exact Q187.vy | exact Q187.vnx | exact Q187.vny | exact Q168.ob | exact Q168.vx | exact Q168.vy | exact Q168.vnx | exact Q168.vny | exact Q146.ob | exact Q146.vx | exact Q146.vy | exact Q146.vnx | exact Q146.vny | exact Q122.ob | exact Q122.vx | exact Q122.vy | exact Q122.vnx | exact Q122.vny | exact Q95.ob | exact Q95.vx | exact Q95.vy | exact Q95.vnx | exact Q95.vny | exact Q74.ob | exact Q74.vx | exact Q74.vy | exact Q74.vnx | exact Q74.vny | exact Q19.ob | exact Q19.vx | exact Q19.vy | exact Q19.vnx | exact Q19.vny | exact Q8.ob | exact Q8.vx | exact Q8.vy | exact Q8.vnx | exact Q8.vny | exact Q.ob | exact Q.vx | exact Q.vy | exact Q.vnx | exact Q.vny) rfl ?_
      refine gi_get (q := 74) C (dm_St_narrow 19 rfl) rfl fl_St_231 (by first | exact Q302.ob | exact Q302.vx | exact Q302.vy | exact Q302.vnx | exact Q302.vny | exact Q285.ob | exact Q285.vx | exact Q285.vy | exact Q285.vnx | exact Q285.vny | exact Q265.ob | exact Q265.vx | exact Q265.vy | exact Q265.vnx | exact Q265.vny | exact Q246.ob | exact Q246.vx | exact Q246.vy | exact Q246.vnx | exact Q246.vny | exact Q224.ob | exact Q224.vx | exact Q224.vy | exact Q224.vnx | exact Q224.vny | exact Q207.ob | exact Q207.vx | exact Q207.vy | exact Q207.vnx | exact Q207.vny | exact Q187.ob | exact Q187.vx | exact Q187.vy | exact Q187.vnx | exact Q187.vny | exact Q168.ob | exact Q168.vx | exact Q168.vy | exact Q168.vnx | exact Q168.vny | exact Q146.ob | exact Q146.vx | exact Q146.vy | exact Q146.vnx | exact Q146.vny | exact Q122.ob | exact Q122.vx | exact Q122.vy | exact Q122.vnx | exact Q122.vny | exact Q95.ob | exact Q95.vx | exact Q95.vy | exact Q95.vnx | exact Q95.vny | exact Q74.ob | exact Q74.vx | exact Q74.vy | exact Q74.vnx | exact Q74.vny | exact Q19.ob | exact Q19.vx | exact Q19.vy | exact Q19.vnx | exact Q19.vny | exact Q8.ob | exact Q8.vx | exact Q8.vy | exact Q8.vnx | exact Q8.vny | exact Q.ob | exact Q.vx | exact Q.vy | exact Q.vnx | exact Q.vny) rfl ?_
      refine gi_callv 2 (q := 77) C (dm_St_narrow 20 rfl) rfl my_Va_within lk_St_234 im_Va_within rfl (c_Va_within (a + 61) X Y.1 Y.2.1 hX.b (by omega) (by omega) (by omega) (by omega) Q19.vnx) Q19.vnx rfl rfl ⟨(Nat.le_of_ble_eq_true rfl), (Nat.le_of_ble_eq_true rfl)⟩ (Nat.le_of_ble_eq_true rfl) ⟨(Nat.le_of_ble_eq_true rfl), (Nat.le_of_ble_eq_true rfl)⟩ (fun r74 n74 h74 e74 => ?_)
      obtain ⟨rfl, rfl, rfl⟩ := e74
      have Q74 := Q19.pnx (sV (wS (withinS X Y.1 Y.2.1)))
      refine gi_aload_n (q := 78) (i := 0) C (dm_St_narrow 21 rfl) rfl rfl rfl ?_
      refine gi_get (q := 81) C (dm_St_narrow 22 rfl) rfl fl_St_49 (by first | exact Q302.ob | exact Q302.vx | exact Q302.vy | exact Q302.vnx | exact Q302.vny | exact Q285.ob | exact Q285.vx | exact Q285.vy | exact Q285.vnx | exact Q285.vny | exact Q265.ob | exact Q265.vx | exact Q265.vy | exact Q265.vnx | exact Q265.vny | exact Q246.ob | exact Q246.vx | exact Q246.vy | exact Q246.vnx | exact Q246.vny | exact Q224.ob | exact Q224.vx | exact Q224.vy | exact Q224.vnx | exact Q224.vny | exact Q207.ob | exact Q207.vx | exact Q207.vy | exact Q207.vnx | exact Q207.vny | exact Q187.ob | exact Q187.vx | exact Q187.vy | exact Q187.vnx | exact Q187.vny | exact Q168.ob | exact Q168.vx | exact Q168.vy | exact Q168.vnx | exact Q168.vny | exact Q146.ob | exact Q146.vx | exact Q146.vy | exact Q146.vnx | exact Q146.vny | exact Q122.ob | exact Q122.vx | exact Q122.vy | exact Q122.vnx | exact Q122.vny | exact Q95.ob | exact Q95.vx | exact Q95.vy | exact Q95.vnx | exact Q95.vny | exact Q74.ob | exact Q74.vx | exact Q74.vy | exact Q74.vnx | exact Q74.vny | exact Q19.ob | exact Q19.vx | exact Q19.vy | exact Q19.vnx | exact Q19.vny | exact Q8.ob | exact Q8.vx | exact Q8.vy | exact Q8.vnx | exact Q8.vny | exact Q.ob | exact Q.vx | exact Q.vy | exact Q.vnx | exact Q.vny) rfl ?_
      refine gi_aload_n (q := 82) (i := 0) C (dm_St_narrow 23 rfl) rfl rfl rfl ?_
      refine gi_get (q := 85) C (dm_St_narrow 24 rfl) rfl fl_St_39 (by first | exact Q302.ob | exact Q302.vx | exact Q302.vy | exact Q302.vnx | exact Q302.vny | exact Q285.ob | exact Q285.vx | exact Q285.vy | exact Q285.vnx | exact Q285.vny | exact Q265.ob | exact Q265.vx | exact Q265.vy | exact Q265.vnx | exact Q265.vny | exact Q246.ob | exact Q246.vx | exact Q246.vy | exact Q246.vnx | exact Q246.vny | exact Q224.ob | exact Q224.vx | exact Q224.vy | exact Q224.vnx | exact Q224.vny | exact Q207.ob | exact Q207.vx | exact Q207.vy | exact Q207.vnx | exact Q207.vny | exact Q187.ob | exact Q187.vx | exact Q187.vy | exact Q187.vnx | exact Q187.vny | exact Q168.ob | exact Q168.vx | exact Q168.vy | exact Q168.vnx | exact Q168.vny | exact Q146.ob | exact Q146.vx | exact Q146.vy | exact Q146.vnx | exact Q146.vny | exact Q122.ob | exact Q122.vx | exact Q122.vy | exact Q122.vnx | exact Q122.vny | exact Q95.ob | exact Q95.vx | exact Q95.vy | exact Q95.vnx | exact Q95.vny | exact Q74.ob | exact Q74.vx | exact Q74.vy | exact Q74.vnx | exact Q74.vny | exact Q19.ob | exact Q19.vx | exact Q19.vy | exact Q19.vnx | exact Q19.vny | exact Q8.ob | exact Q8.vx | exact Q8.vy | exact Q8.vnx | exact Q8.vny | exact Q.ob | exact Q.vx | exact Q.vy | exact Q.vnx | exact Q.vny) rfl ?_
      refine gi_get (q := 88) C (dm_St_narrow 25 rfl) rfl fl_St_227 (by first | exact Q302.ob | exact Q302.vx | exact Q302.vy | exact Q302.vnx | exact Q302.vny | exact Q285.ob | exact Q285.vx | exact Q285.vy | exact Q285.vnx | exact Q285.vny | exact Q265.ob | exact Q265.vx | exact Q265.vy | exact Q265.vnx | exact Q265.vny | exact Q246.ob | exact Q246.vx | exact Q246.vy | exact Q246.vnx | exact Q246.vny | exact Q224.ob | exact Q224.vx | exact Q224.vy | exact Q224.vnx | exact Q224.vny | exact Q207.ob | exact Q207.vx | exact Q207.vy | exact Q207.vnx | exact Q207.vny | exact Q187.ob | exact Q187.vx | exact Q187.vy | exact Q187.vnx | exact Q187.vny | exact Q168.ob | exact Q168.vx | exact Q168.vy | exact Q168.vnx | exact Q168.vny | exact Q146.ob | exact Q146.vx | exact Q146.vy | exact Q146.vnx | exact Q146.vny | exact Q122.ob | exact Q122.vx | exact Q122.vy | exact Q122.vnx | exact Q122.vny | exact Q95.ob | exact Q95.vx | exact Q95.vy | exact Q95.vnx | exact Q95.vny | exact Q74.ob | exact Q74.vx | exact Q74.vy | exact Q74.vnx | exact Q74.vny | exact Q19.ob | exact Q19.vx | exact Q19.vy | exact Q19.vnx | exact Q19.vny | exact Q8.ob | exact Q8.vx | exact Q8.vy | exact Q8.vnx | exact Q8.vny | exact Q.ob | exact Q.vx | exact Q.vy | exact Q.vnx | exact Q.vny) rfl ?_
      refine gi_aload_n (q := 89) (i := 0) C (dm_St_narrow 26 rfl) rfl rfl rfl ?_
      refine gi_get (q := 92) C (dm_St_narrow 27 rfl) rfl fl_St_39 (by first | exact Q302.ob | exact Q302.vx | exact Q302.vy | exact Q302.vnx | exact Q302.vny | exact Q285.ob | exact Q285.vx | exact Q285.vy | exact Q285.vnx | exact Q285.vny | exact Q265.ob | exact Q265.vx | exact Q265.vy | exact Q265.vnx | exact Q265.vny | exact Q246.ob | exact Q246.vx | exact Q246.vy | exact Q246.vnx | exact Q246.vny | exact Q224.ob | exact Q224.vx | exact Q224.vy | exact Q224.vnx | exact Q224.vny | exact Q207.ob | exact Q207.vx | exact Q207.vy | exact Q207.vnx | exact Q207.vny | exact Q187.ob | exact Q187.vx | exact Q187.vy | exact Q187.vnx | exact Q187.vny | exact Q168.ob | exact Q168.vx | exact Q168.vy | exact Q168.vnx | exact Q168.vny | exact Q146.ob | exact Q146.vx | exact Q146.vy | exact Q146.vnx | exact Q146.vny | exact Q122.ob | exact Q122.vx | exact Q122.vy | exact Q122.vnx | exact Q122.vny | exact Q95.ob | exact Q95.vx | exact Q95.vy | exact Q95.vnx | exact Q95.vny | exact Q74.ob | exact Q74.vx | exact Q74.vy | exact Q74.vnx | exact Q74.vny | exact Q19.ob | exact Q19.vx | exact Q19.vy | exact Q19.vnx | exact Q19.vny | exact Q8.ob | exact Q8.vx | exact Q8.vy | exact Q8.vnx | exact Q8.vny | exact Q.ob | exact Q.vx | exact Q.vy | exact Q.vnx | exact Q.vny) rfl ?_
      refine gi_get (q := 95) C (dm_St_narrow 28 rfl) rfl fl_St_231 (by first | exact Q302.ob | exact Q302.vx | exact Q302.vy | exact Q302.vnx | exact Q302.vny | exact Q285.ob | exact Q285.vx | exact Q285.vy | exact Q285.vnx | exact Q285.vny | exact Q265.ob | exact Q265.vx | exact Q265.vy | exact Q265.vnx | exact Q265.vny | exact Q246.ob | exact Q246.vx | exact Q246.vy | exact Q246.vnx | exact Q246.vny | exact Q224.ob | exact Q224.vx | exact Q224.vy | exact Q224.vnx | exact Q224.vny | exact Q207.ob | exact Q207.vx | exact Q207.vy | exact Q207.vnx | exact Q207.vny | exact Q187.ob | exact Q187.vx | exact Q187.vy | exact Q187.vnx | exact Q187.vny | exact Q168.ob | exact Q168.vx | exact Q168.vy | exact Q168.vnx | exact Q168.vny | exact Q146.ob | exact Q146.vx | exact Q146.vy | exact Q146.vnx | exact Q146.vny | exact Q122.ob | exact Q122.vx | exact Q122.vy | exact Q122.vnx | exact Q122.vny | exact Q95.ob | exact Q95.vx | exact Q95.vy | exact Q95.vnx | exact Q95.vny | exact Q74.ob | exact Q74.vx | exact Q74.vy | exact Q74.vnx | exact Q74.vny | exact Q19.ob | exact Q19.vx | exact Q19.vy | exact Q19.vnx | exact Q19.vny | exact Q8.ob | exact Q8.vx | exact Q8.vy | exact Q8.vnx | exact Q8.vny | exact Q.ob | exact Q.vx | exact Q.vy | exact Q.vnx | exact Q.vny) rfl ?_
      refine gi_callv 2 (q := 98) C (dm_St_narrow 29 rfl) rfl my_Va_within lk_St_234 im_Va_within rfl (c_Va_within (a + 62) Y X.1 X.2.1 hY.b (by omega) (by omega) (by omega) (by omega) Q74.vny) Q74.vny rfl rfl ⟨(Nat.le_of_ble_eq_true rfl), (Nat.le_of_ble_eq_true rfl)⟩ (Nat.le_of_ble_eq_true rfl) ⟨(Nat.le_of_ble_eq_true rfl), (Nat.le_of_ble_eq_true rfl)⟩ (fun r95 n95 h95 e95 => ?_)
      obtain ⟨rfl, rfl, rfl⟩ := e95
      have Q95 := Q74.pny (sV (wS (withinS Y X.1 X.2.1)))
      refine gi_goto (tgt := 305) C (dm_St_narrow 30 rfl) (by decide) ?_
      refine gi_vret C hr (dm_St_narrow 119 rfl) ?_
      first
        | (have ho : o = 20 := (nI_eq (b := 20) (by omega) (by omega)).mp c23
           subst ho
           exact ⟨rfl, rfl, Q95⟩)
        | (have ho : o = 22 := (nI_eq (b := 22) (by omega) (by omega)).mp c23
           subst ho
           exact ⟨rfl, rfl, Q187⟩)
        | (have ho : o = 23 := (nI_eq (b := 23) (by omega) (by omega)).mp c23
           subst ho
           exact ⟨rfl, rfl, Q224⟩)
        | (have ho : o = 24 := (nI_eq (b := 24) (by omega) (by omega)).mp c23
           subst ho
           exact ⟨rfl, rfl, Q265⟩)
        | (have ho : o = 21 := (nI_eq (b := 21) (by omega) (by omega)).mp c23
           subst ho
           rw [show narX 21 X Y = loseS X Y.1 by show (if Y.1 = Y.2.1 then loseS X Y.1 else some X) = _; rw [if_pos sy], show narY 21 X Y = loseS Y X.1 by show (if X.1 = X.2.1 then loseS Y X.1 else some Y) = _; rw [if_pos sx]]
           exact ⟨rfl, rfl, Q122.pny (sV (wS (loseS Y X.1)))⟩)
        | (have ho : o = 21 := (nI_eq (b := 21) (by omega) (by omega)).mp c23
           subst ho
           rw [show narX 21 X Y = loseS X Y.1 by show (if Y.1 = Y.2.1 then loseS X Y.1 else some X) = _; rw [if_pos sy], show narY 21 X Y = some Y by show (if X.1 = X.2.1 then loseS Y X.1 else some Y) = _; rw [if_neg (sgF (by omega) (by omega) (by omega) (by omega) c132)]]
           exact ⟨rfl, rfl, Q122⟩)
        | (have ho : o = 21 := (nI_eq (b := 21) (by omega) (by omega)).mp c23
           subst ho
           rw [show narX 21 X Y = some X by show (if Y.1 = Y.2.1 then loseS X Y.1 else some X) = _; rw [if_neg (sgF (by omega) (by omega) (by omega) (by omega) c108)], show narY 21 X Y = loseS Y X.1 by show (if X.1 = X.2.1 then loseS Y X.1 else some Y) = _; rw [if_pos sx]]
           exact ⟨rfl, rfl, Q19.pny (sV (wS (loseS Y X.1)))⟩)
        | (have ho : o = 21 := (nI_eq (b := 21) (by omega) (by omega)).mp c23
           subst ho
           rw [show narX 21 X Y = some X by show (if Y.1 = Y.2.1 then loseS X Y.1 else some X) = _; rw [if_neg (sgF (by omega) (by omega) (by omega) (by omega) c108)], show narY 21 X Y = some Y by show (if X.1 = X.2.1 then loseS Y X.1 else some Y) = _; rw [if_neg (sgF (by omega) (by omega) (by omega) (by omega) c132)]]
           exact ⟨rfl, rfl, Q19⟩)
        | (have ho : o = 25 := by
             rw [nI_toInt (by omega)] at c23
             omega
           subst ho
           exact ⟨rfl, rfl, Q302⟩)
    · refine gi_tableIn (off := 78) (tgt := 101) C (dm_St_narrow 11 rfl) (by decide) (by decide) rfl (by decide) ?_
      refine gi_aload_n (q := 102) (i := 0) C (dm_St_narrow 31 rfl) rfl rfl rfl ?_
      refine gi_get (q := 105) C (dm_St_narrow 32 rfl) rfl fl_St_43 (by first | exact Q302.ob | exact Q302.vx | exact Q302.vy | exact Q302.vnx | exact Q302.vny | exact Q285.ob | exact Q285.vx | exact Q285.vy | exact Q285.vnx | exact Q285.vny | exact Q265.ob | exact Q265.vx | exact Q265.vy | exact Q265.vnx | exact Q265.vny | exact Q246.ob | exact Q246.vx | exact Q246.vy | exact Q246.vnx | exact Q246.vny | exact Q224.ob | exact Q224.vx | exact Q224.vy | exact Q224.vnx | exact Q224.vny | exact Q207.ob | exact Q207.vx | exact Q207.vy | exact Q207.vnx | exact Q207.vny | exact Q187.ob | exact Q187.vx | exact Q187.vy | exact Q187.vnx | exact Q187.vny | exact Q168.ob | exact Q168.vx | exact Q168.vy | exact Q168.vnx | exact Q168.vny | exact Q146.ob | exact Q146.vx | exact Q146.vy | exact Q146.vnx | exact Q146.vny | exact Q122.ob | exact Q122.vx | exact Q122.vy | exact Q122.vnx | exact Q122.vny | exact Q95.ob | exact Q95.vx | exact Q95.vy | exact Q95.vnx | exact Q95.vny | exact Q74.ob | exact Q74.vx | exact Q74.vy | exact Q74.vnx | exact Q74.vny | exact Q19.ob | exact Q19.vx | exact Q19.vy | exact Q19.vnx | exact Q19.vny | exact Q8.ob | exact Q8.vx | exact Q8.vy | exact Q8.vnx | exact Q8.vny | exact Q.ob | exact Q.vx | exact Q.vy | exact Q.vnx | exact Q.vny) rfl ?_
      refine gi_callv 0 (q := 108) C (dm_St_narrow 33 rfl) rfl my_Va_isSingle lk_St_238 im_Va_isSingle rfl (c_Va_isSingle (a + 60) _ Q19.vy) Q19.vy rfl rfl ⟨(Nat.le_of_ble_eq_true rfl), (Nat.le_of_ble_eq_true rfl)⟩ (Nat.le_of_ble_eq_true rfl) ⟨(Nat.le_of_ble_eq_true rfl), (Nat.le_of_ble_eq_true rfl)⟩ (fun r105 n105 h105 e105 => ?_)
      obtain ⟨rfl, q105, u105⟩ := e105
      rw [q105, u105]
      refine gi_if_eq (q := 111) (tgt := 125) C (dm_St_narrow 34 rfl) rfl (by decide) (fun c108 => ?_) (fun c108 => ?_)
      · refine gi_aload_n (q := 126) (i := 0) C (dm_St_narrow 41 rfl) rfl rfl rfl ?_
        refine gi_get (q := 129) C (dm_St_narrow 42 rfl) rfl fl_St_39 (by first | exact Q302.ob | exact Q302.vx | exact Q302.vy | exact Q302.vnx | exact Q302.vny | exact Q285.ob | exact Q285.vx | exact Q285.vy | exact Q285.vnx | exact Q285.vny | exact Q265.ob | exact Q265.vx | exact Q265.vy | exact Q265.vnx | exact Q265.vny | exact Q246.ob | exact Q246.vx | exact Q246.vy | exact Q246.vnx | exact Q246.vny | exact Q224.ob | exact Q224.vx | exact Q224.vy | exact Q224.vnx | exact Q224.vny | exact Q207.ob | exact Q207.vx | exact Q207.vy | exact Q207.vnx | exact Q207.vny | exact Q187.ob | exact Q187.vx | exact Q187.vy | exact Q187.vnx | exact Q187.vny | exact Q168.ob | exact Q168.vx | exact Q168.vy | exact Q168.vnx | exact Q168.vny | exact Q146.ob | exact Q146.vx | exact Q146.vy | exact Q146.vnx | exact Q146.vny | exact Q122.ob | exact Q122.vx | exact Q122.vy | exact Q122.vnx | exact Q122.vny | exact Q95.ob | exact Q95.vx | exact Q95.vy | exact Q95.vnx | exact Q95.vny | exact Q74.ob | exact Q74.vx | exact Q74.vy | exact Q74.vnx | exact Q74.vny | exact Q19.ob | exact Q19.vx | exact Q19.vy | exact Q19.vnx | exact Q19.vny | exact Q8.ob | exact Q8.vx | exact Q8.vy | exact Q8.vnx | exact Q8.vny | exact Q.ob | exact Q.vx | exact Q.vy | exact Q.vnx | exact Q.vny) rfl ?_
        refine gi_callv 0 (q := 132) C (dm_St_narrow 43 rfl) rfl my_Va_isSingle lk_St_238 im_Va_isSingle rfl (c_Va_isSingle (a + 59) (sV X) (by first | exact Q122.vx | exact Q19.vx)) (by first | exact Q122.vx | exact Q19.vx) rfl rfl ⟨(Nat.le_of_ble_eq_true rfl), (Nat.le_of_ble_eq_true rfl)⟩ (Nat.le_of_ble_eq_true rfl) ⟨(Nat.le_of_ble_eq_true rfl), (Nat.le_of_ble_eq_true rfl)⟩ (fun r129 n129 h129 e129 => ?_)
        obtain ⟨rfl, q129, u129⟩ := e129
        rw [q129, u129]
        refine gi_if_eq (q := 135) (tgt := 305) C (dm_St_narrow 44 rfl) rfl (by decide) (fun c132 => ?_) (fun c132 => ?_)
        · refine gi_vret C hr (dm_St_narrow 119 rfl) ?_
          first
            | (have ho : o = 20 := (nI_eq (b := 20) (by omega) (by omega)).mp c23
               subst ho
               exact ⟨rfl, rfl, Q95⟩)
            | (have ho : o = 22 := (nI_eq (b := 22) (by omega) (by omega)).mp c23
               subst ho
               exact ⟨rfl, rfl, Q187⟩)
            | (have ho : o = 23 := (nI_eq (b := 23) (by omega) (by omega)).mp c23
               subst ho
               exact ⟨rfl, rfl, Q224⟩)
            | (have ho : o = 24 := (nI_eq (b := 24) (by omega) (by omega)).mp c23
               subst ho
               exact ⟨rfl, rfl, Q265⟩)
            | (have ho : o = 21 := (nI_eq (b := 21) (by omega) (by omega)).mp c23
               subst ho
               rw [show narX 21 X Y = loseS X Y.1 by show (if Y.1 = Y.2.1 then loseS X Y.1 else some X) = _; rw [if_pos sy], show narY 21 X Y = loseS Y X.1 by show (if X.1 = X.2.1 then loseS Y X.1 else some Y) = _; rw [if_pos sx]]
               exact ⟨rfl, rfl, Q122.pny (sV (wS (loseS Y X.1)))⟩)
            | (have ho : o = 21 := (nI_eq (b := 21) (by omega) (by omega)).mp c23
               subst ho
               rw [show narX 21 X Y = loseS X Y.1 by show (if Y.1 = Y.2.1 then loseS X Y.1 else some X) = _; rw [if_pos sy], show narY 21 X Y = some Y by show (if X.1 = X.2.1 then loseS Y X.1 else some Y) = _; rw [if_neg (sgF (by omega) (by omega) (by omega) (by omega) c132)]]
               exact ⟨rfl, rfl, Q122⟩)
            | (have ho : o = 21 := (nI_eq (b := 21) (by omega) (by omega)).mp c23
               subst ho
               rw [show narX 21 X Y = some X by show (if Y.1 = Y.2.1 then loseS X Y.1 else some X) = _; rw [if_neg (sgF (by omega) (by omega) (by omega) (by omega) c108)], show narY 21 X Y = loseS Y X.1 by show (if X.1 = X.2.1 then loseS Y X.1 else some Y) = _; rw [if_pos sx]]
               exact ⟨rfl, rfl, Q19.pny (sV (wS (loseS Y X.1)))⟩)
            | (have ho : o = 21 := (nI_eq (b := 21) (by omega) (by omega)).mp c23
               subst ho
               rw [show narX 21 X Y = some X by show (if Y.1 = Y.2.1 then loseS X Y.1 else some X) = _; rw [if_neg (sgF (by omega) (by omega) (by omega) (by omega) c108)], show narY 21 X Y = some Y by show (if X.1 = X.2.1 then loseS Y X.1 else some Y) = _; rw [if_neg (sgF (by omega) (by omega) (by omega) (by omega) c132)]]
               exact ⟨rfl, rfl, Q19⟩)
            | (have ho : o = 25 := by
                 rw [nI_toInt (by omega)] at c23
                 omega
               subst ho
               exact ⟨rfl, rfl, Q302⟩)
        · have sx : X.1 = X.2.1 := sgT (by omega) (by omega) (by omega) (by omega) c132
          refine gi_aload_n (q := 136) (i := 0) C (dm_St_narrow 45 rfl) rfl rfl rfl ?_
          refine gi_get (q := 139) C (dm_St_narrow 46 rfl) rfl fl_St_49 (by first | exact Q302.ob | exact Q302.vx | exact Q302.vy | exact Q302.vnx | exact Q302.vny | exact Q285.ob | exact Q285.vx | exact Q285.vy | exact Q285.vnx | exact Q285.vny | exact Q265.ob | exact Q265.vx | exact Q265.vy | exact Q265.vnx | exact Q265.vny | exact Q246.ob | exact Q246.vx | exact Q246.vy | exact Q246.vnx | exact Q246.vny | exact Q224.ob | exact Q224.vx | exact Q224.vy | exact Q224.vnx | exact Q224.vny | exact Q207.ob | exact Q207.vx | exact Q207.vy | exact Q207.vnx | exact Q207.vny | exact Q187.ob | exact Q187.vx | exact Q187.vy | exact Q187.vnx | exact Q187.vny | exact Q168.ob | exact Q168.vx | exact Q168.vy | exact Q168.vnx | exact Q168.vny | exact Q146.ob | exact Q146.vx | exact Q146.vy | exact Q146.vnx | exact Q146.vny | exact Q122.ob | exact Q122.vx | exact Q122.vy | exact Q122.vnx | exact Q122.vny | exact Q95.ob | exact Q95.vx | exact Q95.vy | exact Q95.vnx | exact Q95.vny | exact Q74.ob | exact Q74.vx | exact Q74.vy | exact Q74.vnx | exact Q74.vny | exact Q19.ob | exact Q19.vx | exact Q19.vy | exact Q19.vnx | exact Q19.vny | exact Q8.ob | exact Q8.vx | exact Q8.vy | exact Q8.vnx | exact Q8.vny | exact Q.ob | exact Q.vx | exact Q.vy | exact Q.vnx | exact Q.vny) rfl ?_
          refine gi_aload_n (q := 140) (i := 0) C (dm_St_narrow 47 rfl) rfl rfl rfl ?_
          refine gi_get (q := 143) C (dm_St_narrow 48 rfl) rfl fl_St_39 (by first | exact Q302.ob | exact Q302.vx | exact Q302.vy | exact Q302.vnx | exact Q302.vny | exact Q285.ob | exact Q285.vx | exact Q285.vy | exact Q285.vnx | exact Q285.vny | exact Q265.ob | exact Q265.vx | exact Q265.vy | exact Q265.vnx | exact Q265.vny | exact Q246.ob | exact Q246.vx | exact Q246.vy | exact Q246.vnx | exact Q246.vny | exact Q224.ob | exact Q224.vx | exact Q224.vy | exact Q224.vnx | exact Q224.vny | exact Q207.ob | exact Q207.vx | exact Q207.vy | exact Q207.vnx | exact Q207.vny | exact Q187.ob | exact Q187.vx | exact Q187.vy | exact Q187.vnx | exact Q187.vny | exact Q168.ob | exact Q168.vx | exact Q168.vy | exact Q168.vnx | exact Q168.vny | exact Q146.ob | exact Q146.vx | exact Q146.vy | exact Q146.vnx | exact Q146.vny | exact Q122.ob | exact Q122.vx | exact Q122.vy | exact Q122.vnx | exact Q122.vny | exact Q95.ob | exact Q95.vx | exact Q95.vy | exact Q95.vnx | exact Q95.vny | exact Q74.ob | exact Q74.vx | exact Q74.vy | exact Q74.vnx | exact Q74.vny | exact Q19.ob | exact Q19.vx | exact Q19.vy | exact Q19.vnx | exact Q19.vny | exact Q8.ob | exact Q8.vx | exact Q8.vy | exact Q8.vnx | exact Q8.vny | exact Q.ob | exact Q.vx | exact Q.vy | exact Q.vnx | exact Q.vny) rfl ?_
          refine gi_get (q := 146) C (dm_St_narrow 49 rfl) rfl fl_St_227 (by first | exact Q302.ob | exact Q302.vx | exact Q302.vy | exact Q302.vnx | exact Q302.vny | exact Q285.ob | exact Q285.vx | exact Q285.vy | exact Q285.vnx | exact Q285.vny | exact Q265.ob | exact Q265.vx | exact Q265.vy | exact Q265.vnx | exact Q265.vny | exact Q246.ob | exact Q246.vx | exact Q246.vy | exact Q246.vnx | exact Q246.vny | exact Q224.ob | exact Q224.vx | exact Q224.vy | exact Q224.vnx | exact Q224.vny | exact Q207.ob | exact Q207.vx | exact Q207.vy | exact Q207.vnx | exact Q207.vny | exact Q187.ob | exact Q187.vx | exact Q187.vy | exact Q187.vnx | exact Q187.vny | exact Q168.ob | exact Q168.vx | exact Q168.vy | exact Q168.vnx | exact Q168.vny | exact Q146.ob | exact Q146.vx | exact Q146.vy | exact Q146.vnx | exact Q146.vny | exact Q122.ob | exact Q122.vx | exact Q122.vy | exact Q122.vnx | exact Q122.vny | exact Q95.ob | exact Q95.vx | exact Q95.vy | exact Q95.vnx | exact Q95.vny | exact Q74.ob | exact Q74.vx | exact Q74.vy | exact Q74.vnx | exact Q74.vny | exact Q19.ob | exact Q19.vx | exact Q19.vy | exact Q19.vnx | exact Q19.vny | exact Q8.ob | exact Q8.vx | exact Q8.vy | exact Q8.vnx | exact Q8.vny | exact Q.ob | exact Q.vx | exact Q.vy | exact Q.vnx | exact Q.vny) rfl ?_
          refine gi_callv 1 (q := 149) C (dm_St_narrow 50 rfl) rfl my_Va_loseAtEnds lk_St_208 im_Va_loseAtEnds rfl (c_Va_loseAtEnds (a + 62) Y X.1 hY (by omega) (by omega) (by first | exact Q122.vny | exact Q19.vny)) (by first | exact Q122.vny | exact Q19.vny) rfl rfl ⟨(Nat.le_of_ble_eq_true rfl), (Nat.le_of_ble_eq_true rfl)⟩ (Nat.le_of_ble_eq_true rfl) ⟨(Nat.le_of_ble_eq_true rfl), (Nat.le_of_ble_eq_true rfl)⟩ (fun r146 n146 h146 e146 => ?_)
          obtain ⟨rfl, rfl, rfl⟩ := e146
          refine gi_goto (tgt := 305) C (dm_St_narrow 51 rfl) (by decide) ?_
          refine gi_vret C hr (dm_St_narrow 119 rfl) ?_
          first
            | (have ho : o = 20 := (nI_eq (b := 20) (by omega) (by omega)).mp c23
               subst ho
               exact ⟨rfl, rfl, Q95⟩)
            | (have ho : o = 22 := (nI_eq (b := 22) (by omega) (by omega)).mp c23
               subst ho
               exact ⟨rfl, rfl, Q187⟩)
            | (have ho : o = 23 := (nI_eq (b := 23) (by omega) (by omega)).mp c23
               subst ho
               exact ⟨rfl, rfl, Q224⟩)
            | (have ho : o = 24 := (nI_eq (b := 24) (by omega) (by omega)).mp c23
               subst ho
               exact ⟨rfl, rfl, Q265⟩)
            | (have ho : o = 21 := (nI_eq (b := 21) (by omega) (by omega)).mp c23
               subst ho
               rw [show narX 21 X Y = loseS X Y.1 by show (if Y.1 = Y.2.1 then loseS X Y.1 else some X) = _; rw [if_pos sy], show narY 21 X Y = loseS Y X.1 by show (if X.1 = X.2.1 then loseS Y X.1 else some Y) = _; rw [if_pos sx]]
               exact ⟨rfl, rfl, Q122.pny (sV (wS (loseS Y X.1)))⟩)
            | (have ho : o = 21 := (nI_eq (b := 21) (by omega) (by omega)).mp c23
               subst ho
               rw [show narX 21 X Y = loseS X Y.1 by show (if Y.1 = Y.2.1 then loseS X Y.1 else some X) = _; rw [if_pos sy], show narY 21 X Y = some Y by show (if X.1 = X.2.1 then loseS Y X.1 else some Y) = _; rw [if_neg (sgF (by omega) (by omega) (by omega) (by omega) c132)]]
               exact ⟨rfl, rfl, Q122⟩)
            | (have ho : o = 21 := (nI_eq (b := 21) (by omega) (by omega)).mp c23
               subst ho
               rw [show narX 21 X Y = some X by show (if Y.1 = Y.2.1 then loseS X Y.1 else some X) = _; rw [if_neg (sgF (by omega) (by omega) (by omega) (by omega) c108)], show narY 21 X Y = loseS Y X.1 by show (if X.1 = X.2.1 then loseS Y X.1 else some Y) = _; rw [if_pos sx]]
               exact ⟨rfl, rfl, Q19.pny (sV (wS (loseS Y X.1)))⟩)
            | (have ho : o = 21 := (nI_eq (b := 21) (by omega) (by omega)).mp c23
               subst ho
               rw [show narX 21 X Y = some X by show (if Y.1 = Y.2.1 then loseS X Y.1 else some X) = _; rw [if_neg (sgF (by omega) (by omega) (by omega) (by omega) c108)], show narY 21 X Y = some Y by show (if X.1 = X.2.1 then loseS Y X.1 else some Y) = _; rw [if_neg (sgF (by omega) (by omega) (by omega) (by omega) c132)]]
               exact ⟨rfl, rfl, Q19⟩)
            | (have ho : o = 25 := by
                 rw [nI_toInt (by omega)] at c23
                 omega
               subst ho
               exact ⟨rfl, rfl, Q302⟩)
      · have sy : Y.1 = Y.2.1 := sgT (by omega) (by omega) (by omega) (by omega) c108
        refine gi_aload_n (q := 112) (i := 0) C (dm_St_narrow 35 rfl) rfl rfl rfl ?_
        refine gi_get (q := 115) C (dm_St_narrow 36 rfl) rfl fl_St_46 (by first | exact Q302.ob | exact Q302.vx | exact Q302.vy | exact Q302.vnx | exact Q302.vny | exact Q285.ob | exact Q285.vx | exact Q285.vy | exact Q285.vnx | exact Q285.vny | exact Q265.ob | exact Q265.vx | exact Q265.vy | exact Q265.vnx | exact Q265.vny | exact Q246.ob | exact Q246.vx | exact Q246.vy | exact Q246.vnx | exact Q246.vny | exact Q224.ob | exact Q224.vx | exact Q224.vy | exact Q224.vnx | exact Q224.vny | exact Q207.ob | exact Q207.vx | exact Q207.vy | exact Q207.vnx | exact Q207.vny | exact Q187.ob | exact Q187.vx | exact Q187.vy | exact Q187.vnx | exact Q187.vny | exact Q168.ob | exact Q168.vx | exact Q168.vy | exact Q168.vnx | exact Q168.vny | exact Q146.ob | exact Q146.vx | exact Q146.vy | exact Q146.vnx | exact Q146.vny | exact Q122.ob | exact Q122.vx | exact Q122.vy | exact Q122.vnx | exact Q122.vny | exact Q95.ob | exact Q95.vx | exact Q95.vy | exact Q95.vnx | exact Q95.vny | exact Q74.ob | exact Q74.vx | exact Q74.vy | exact Q74.vnx | exact Q74.vny | exact Q19.ob | exact Q19.vx | exact Q19.vy | exact Q19.vnx | exact Q19.vny | exact Q8.ob | exact Q8.vx | exact Q8.vy | exact Q8.vnx | exact Q8.vny | exact Q.ob | exact Q.vx | exact Q.vy | exact Q.vnx | exact Q.vny) rfl ?_
        refine gi_aload_n (q := 116) (i := 0) C (dm_St_narrow 37 rfl) rfl rfl rfl ?_
        refine gi_get (q := 119) C (dm_St_narrow 38 rfl) rfl fl_St_43 (by first | exact Q302.ob | exact Q302.vx | exact Q302.vy | exact Q302.vnx | exact Q302.vny | exact Q285.ob | exact Q285.vx | exact Q285.vy | exact Q285.vnx | exact Q285.vny | exact Q265.ob | exact Q265.vx | exact Q265.vy | exact Q265.vnx | exact Q265.vny | exact Q246.ob | exact Q246.vx | exact Q246.vy | exact Q246.vnx | exact Q246.vny | exact Q224.ob | exact Q224.vx | exact Q224.vy | exact Q224.vnx | exact Q224.vny | exact Q207.ob | exact Q207.vx | exact Q207.vy | exact Q207.vnx | exact Q207.vny | exact Q187.ob | exact Q187.vx | exact Q187.vy | exact Q187.vnx | exact Q187.vny | exact Q168.ob | exact Q168.vx | exact Q168.vy | exact Q168.vnx | exact Q168.vny | exact Q146.ob | exact Q146.vx | exact Q146.vy | exact Q146.vnx | exact Q146.vny | exact Q122.ob | exact Q122.vx | exact Q122.vy | exact Q122.vnx | exact Q122.vny | exact Q95.ob | exact Q95.vx | exact Q95.vy | exact Q95.vnx | exact Q95.vny | exact Q74.ob | exact Q74.vx | exact Q74.vy | exact Q74.vnx | exact Q74.vny | exact Q19.ob | exact Q19.vx | exact Q19.vy | exact Q19.vnx | exact Q19.vny | exact Q8.ob | exact Q8.vx | exact Q8.vy | exact Q8.vnx | exact Q8.vny | exact Q.ob | exact Q.vx | exact Q.vy | exact Q.vnx | exact Q.vny) rfl ?_
        refine gi_get (q := 122) C (dm_St_narrow 39 rfl) rfl fl_St_227 (by first | exact Q302.ob | exact Q302.vx | exact Q302.vy | exact Q302.vnx | exact Q302.vny | exact Q285.ob | exact Q285.vx | exact Q285.vy | exact Q285.vnx | exact Q285.vny | exact Q265.ob | exact Q265.vx | exact Q265.vy | exact Q265.vnx | exact Q265.vny | exact Q246.ob | exact Q246.vx | exact Q246.vy | exact Q246.vnx | exact Q246.vny | exact Q224.ob | exact Q224.vx | exact Q224.vy | exact Q224.vnx | exact Q224.vny | exact Q207.ob | exact Q207.vx | exact Q207.vy | exact Q207.vnx | exact Q207.vny | exact Q187.ob | exact Q187.vx | exact Q187.vy | exact Q187.vnx | exact Q187.vny | exact Q168.ob | exact Q168.vx | exact Q168.vy | exact Q168.vnx | exact Q168.vny | exact Q146.ob | exact Q146.vx | exact Q146.vy | exact Q146.vnx | exact Q146.vny | exact Q122.ob | exact Q122.vx | exact Q122.vy | exact Q122.vnx | exact Q122.vny | exact Q95.ob | exact Q95.vx | exact Q95.vy | exact Q95.vnx | exact Q95.vny | exact Q74.ob | exact Q74.vx | exact Q74.vy | exact Q74.vnx | exact Q74.vny | exact Q19.ob | exact Q19.vx | exact Q19.vy | exact Q19.vnx | exact Q19.vny | exact Q8.ob | exact Q8.vx | exact Q8.vy | exact Q8.vnx | exact Q8.vny | exact Q.ob | exact Q.vx | exact Q.vy | exact Q.vnx | exact Q.vny) rfl ?_
        refine gi_callv 1 (q := 125) C (dm_St_narrow 40 rfl) rfl my_Va_loseAtEnds lk_St_208 im_Va_loseAtEnds rfl (c_Va_loseAtEnds (a + 61) X Y.1 hX (by omega) (by omega) Q19.vnx) Q19.vnx rfl rfl ⟨(Nat.le_of_ble_eq_true rfl), (Nat.le_of_ble_eq_true rfl)⟩ (Nat.le_of_ble_eq_true rfl) ⟨(Nat.le_of_ble_eq_true rfl), (Nat.le_of_ble_eq_true rfl)⟩ (fun r122 n122 h122 e122 => ?_)
        obtain ⟨rfl, rfl, rfl⟩ := e122
        have Q122 := Q19.pnx (sV (wS (loseS X Y.1)))
        refine gi_aload_n (q := 126) (i := 0) C (dm_St_narrow 41 rfl) rfl rfl rfl ?_
        refine gi_get (q := 129) C (dm_St_narrow 42 rfl) rfl fl_St_39 (by first | exact Q302.ob | exact Q302.vx | exact Q302.vy | exact Q302.vnx | exact Q302.vny | exact Q285.ob | exact Q285.vx | exact Q285.vy | exact Q285.vnx | exact Q285.vny | exact Q265.ob | exact Q265.vx | exact Q265.vy | exact Q265.vnx | exact Q265.vny | exact Q246.ob | exact Q246.vx | exact Q246.vy | exact Q246.vnx | exact Q246.vny | exact Q224.ob | exact Q224.vx | exact Q224.vy | exact Q224.vnx | exact Q224.vny | exact Q207.ob | exact Q207.vx | exact Q207.vy | exact Q207.vnx | exact Q207.vny | exact Q187.ob | exact Q187.vx | exact Q187.vy | exact Q187.vnx | exact Q187.vny | exact Q168.ob | exact Q168.vx | exact Q168.vy | exact Q168.vnx | exact Q168.vny | exact Q146.ob | exact Q146.vx | exact Q146.vy | exact Q146.vnx | exact Q146.vny | exact Q122.ob | exact Q122.vx | exact Q122.vy | exact Q122.vnx | exact Q122.vny | exact Q95.ob | exact Q95.vx | exact Q95.vy | exact Q95.vnx | exact Q95.vny | exact Q74.ob | exact Q74.vx | exact Q74.vy | exact Q74.vnx | exact Q74.vny | exact Q19.ob | exact Q19.vx | exact Q19.vy | exact Q19.vnx | exact Q19.vny | exact Q8.ob | exact Q8.vx | exact Q8.vy | exact Q8.vnx | exact Q8.vny | exact Q.ob | exact Q.vx | exact Q.vy | exact Q.vnx | exact Q.vny) rfl ?_
        refine gi_callv 0 (q := 132) C (dm_St_narrow 43 rfl) rfl my_Va_isSingle lk_St_238 im_Va_isSingle rfl (c_Va_isSingle (a + 59) (sV X) (by first | exact Q122.vx | exact Q19.vx)) (by first | exact Q122.vx | exact Q19.vx) rfl rfl ⟨(Nat.le_of_ble_eq_true rfl), (Nat.le_of_ble_eq_true rfl)⟩ (Nat.le_of_ble_eq_true rfl) ⟨(Nat.le_of_ble_eq_true rfl), (Nat.le_of_ble_eq_true rfl)⟩ (fun r129 n129 h129 e129 => ?_)
        obtain ⟨rfl, q129, u129⟩ := e129
        rw [q129, u129]
        refine gi_if_eq (q := 135) (tgt := 305) C (dm_St_narrow 44 rfl) rfl (by decide) (fun c132 => ?_) (fun c132 => ?_)
        · refine gi_vret C hr (dm_St_narrow 119 rfl) ?_
          first
            | (have ho : o = 20 := (nI_eq (b := 20) (by omega) (by omega)).mp c23
               subst ho
               exact ⟨rfl, rfl, Q95⟩)
            | (have ho : o = 22 := (nI_eq (b := 22) (by omega) (by omega)).mp c23
               subst ho
               exact ⟨rfl, rfl, Q187⟩)
            | (have ho : o = 23 := (nI_eq (b := 23) (by omega) (by omega)).mp c23
               subst ho
               exact ⟨rfl, rfl, Q224⟩)
            | (have ho : o = 24 := (nI_eq (b := 24) (by omega) (by omega)).mp c23
               subst ho
               exact ⟨rfl, rfl, Q265⟩)
            | (have ho : o = 21 := (nI_eq (b := 21) (by omega) (by omega)).mp c23
               subst ho
               rw [show narX 21 X Y = loseS X Y.1 by show (if Y.1 = Y.2.1 then loseS X Y.1 else some X) = _; rw [if_pos sy], show narY 21 X Y = loseS Y X.1 by show (if X.1 = X.2.1 then loseS Y X.1 else some Y) = _; rw [if_pos sx]]
               exact ⟨rfl, rfl, Q122.pny (sV (wS (loseS Y X.1)))⟩)
            | (have ho : o = 21 := (nI_eq (b := 21) (by omega) (by omega)).mp c23
               subst ho
               rw [show narX 21 X Y = loseS X Y.1 by show (if Y.1 = Y.2.1 then loseS X Y.1 else some X) = _; rw [if_pos sy], show narY 21 X Y = some Y by show (if X.1 = X.2.1 then loseS Y X.1 else some Y) = _; rw [if_neg (sgF (by omega) (by omega) (by omega) (by omega) c132)]]
               exact ⟨rfl, rfl, Q122⟩)
            | (have ho : o = 21 := (nI_eq (b := 21) (by omega) (by omega)).mp c23
               subst ho
               rw [show narX 21 X Y = some X by show (if Y.1 = Y.2.1 then loseS X Y.1 else some X) = _; rw [if_neg (sgF (by omega) (by omega) (by omega) (by omega) c108)], show narY 21 X Y = loseS Y X.1 by show (if X.1 = X.2.1 then loseS Y X.1 else some Y) = _; rw [if_pos sx]]
               exact ⟨rfl, rfl, Q19.pny (sV (wS (loseS Y X.1)))⟩)
            | (have ho : o = 21 := (nI_eq (b := 21) (by omega) (by omega)).mp c23
               subst ho
               rw [show narX 21 X Y = some X by show (if Y.1 = Y.2.1 then loseS X Y.1 else some X) = _; rw [if_neg (sgF (by omega) (by omega) (by omega) (by omega) c108)], show narY 21 X Y = some Y by show (if X.1 = X.2.1 then loseS Y X.1 else some Y) = _; rw [if_neg (sgF (by omega) (by omega) (by omega) (by omega) c132)]]
               exact ⟨rfl, rfl, Q19⟩)
            | (have ho : o = 25 := by
                 rw [nI_toInt (by omega)] at c23
                 omega
               subst ho
               exact ⟨rfl, rfl, Q302⟩)
        · have sx : X.1 = X.2.1 := sgT (by omega) (by omega) (by omega) (by omega) c132
          refine gi_aload_n (q := 136) (i := 0) C (dm_St_narrow 45 rfl) rfl rfl rfl ?_
          refine gi_get (q := 139) C (dm_St_narrow 46 rfl) rfl fl_St_49 (by first | exact Q302.ob | exact Q302.vx | exact Q302.vy | exact Q302.vnx | exact Q302.vny | exact Q285.ob | exact Q285.vx | exact Q285.vy | exact Q285.vnx | exact Q285.vny | exact Q265.ob | exact Q265.vx | exact Q265.vy | exact Q265.vnx | exact Q265.vny | exact Q246.ob | exact Q246.vx | exact Q246.vy | exact Q246.vnx | exact Q246.vny | exact Q224.ob | exact Q224.vx | exact Q224.vy | exact Q224.vnx | exact Q224.vny | exact Q207.ob | exact Q207.vx | exact Q207.vy | exact Q207.vnx | exact Q207.vny | exact Q187.ob | exact Q187.vx | exact Q187.vy | exact Q187.vnx | exact Q187.vny | exact Q168.ob | exact Q168.vx | exact Q168.vy | exact Q168.vnx | exact Q168.vny | exact Q146.ob | exact Q146.vx | exact Q146.vy | exact Q146.vnx | exact Q146.vny | exact Q122.ob | exact Q122.vx | exact Q122.vy | exact Q122.vnx | exact Q122.vny | exact Q95.ob | exact Q95.vx | exact Q95.vy | exact Q95.vnx | exact Q95.vny | exact Q74.ob | exact Q74.vx | exact Q74.vy | exact Q74.vnx | exact Q74.vny | exact Q19.ob | exact Q19.vx | exact Q19.vy | exact Q19.vnx | exact Q19.vny | exact Q8.ob | exact Q8.vx | exact Q8.vy | exact Q8.vnx | exact Q8.vny | exact Q.ob | exact Q.vx | exact Q.vy | exact Q.vnx | exact Q.vny) rfl ?_
          refine gi_aload_n (q := 140) (i := 0) C (dm_St_narrow 47 rfl) rfl rfl rfl ?_
          refine gi_get (q := 143) C (dm_St_narrow 48 rfl) rfl fl_St_39 (by first | exact Q302.ob | exact Q302.vx | exact Q302.vy | exact Q302.vnx | exact Q302.vny | exact Q285.ob | exact Q285.vx | exact Q285.vy | exact Q285.vnx | exact Q285.vny | exact Q265.ob | exact Q265.vx | exact Q265.vy | exact Q265.vnx | exact Q265.vny | exact Q246.ob | exact Q246.vx | exact Q246.vy | exact Q246.vnx | exact Q246.vny | exact Q224.ob | exact Q224.vx | exact Q224.vy | exact Q224.vnx | exact Q224.vny | exact Q207.ob | exact Q207.vx | exact Q207.vy | exact Q207.vnx | exact Q207.vny | exact Q187.ob | exact Q187.vx | exact Q187.vy | exact Q187.vnx | exact Q187.vny | exact Q168.ob | exact Q168.vx | exact Q168.vy | exact Q168.vnx | exact Q168.vny | exact Q146.ob | exact Q146.vx | exact Q146.vy | exact Q146.vnx | exact Q146.vny | exact Q122.ob | exact Q122.vx | exact Q122.vy | exact Q122.vnx | exact Q122.vny | exact Q95.ob | exact Q95.vx | exact Q95.vy | exact Q95.vnx | exact Q95.vny | exact Q74.ob | exact Q74.vx | exact Q74.vy | exact Q74.vnx | exact Q74.vny | exact Q19.ob | exact Q19.vx | exact Q19.vy | exact Q19.vnx | exact Q19.vny | exact Q8.ob | exact Q8.vx | exact Q8.vy | exact Q8.vnx | exact Q8.vny | exact Q.ob | exact Q.vx | exact Q.vy | exact Q.vnx | exact Q.vny) rfl ?_
          refine gi_get (q := 146) C (dm_St_narrow 49 rfl) rfl fl_St_227 (by first | exact Q302.ob | exact Q302.vx | exact Q302.vy | exact Q302.vnx | exact Q302.vny | exact Q285.ob | exact Q285.vx | exact Q285.vy | exact Q285.vnx | exact Q285.vny | exact Q265.ob | exact Q265.vx | exact Q265.vy | exact Q265.vnx | exact Q265.vny | exact Q246.ob | exact Q246.vx | exact Q246.vy | exact Q246.vnx | exact Q246.vny | exact Q224.ob | exact Q224.vx | exact Q224.vy | exact Q224.vnx | exact Q224.vny | exact Q207.ob | exact Q207.vx | exact Q207.vy | exact Q207.vnx | exact Q207.vny | exact Q187.ob | exact Q187.vx | exact Q187.vy | exact Q187.vnx | exact Q187.vny | exact Q168.ob | exact Q168.vx | exact Q168.vy | exact Q168.vnx | exact Q168.vny | exact Q146.ob | exact Q146.vx | exact Q146.vy | exact Q146.vnx | exact Q146.vny | exact Q122.ob | exact Q122.vx | exact Q122.vy | exact Q122.vnx | exact Q122.vny | exact Q95.ob | exact Q95.vx | exact Q95.vy | exact Q95.vnx | exact Q95.vny | exact Q74.ob | exact Q74.vx | exact Q74.vy | exact Q74.vnx | exact Q74.vny | exact Q19.ob | exact Q19.vx | exact Q19.vy | exact Q19.vnx | exact Q19.vny | exact Q8.ob | exact Q8.vx | exact Q8.vy | exact Q8.vnx | exact Q8.vny | exact Q.ob | exact Q.vx | exact Q.vy | exact Q.vnx | exact Q.vny) rfl ?_
          refine gi_callv 1 (q := 149) C (dm_St_narrow 50 rfl) rfl my_Va_loseAtEnds lk_St_208 im_Va_loseAtEnds rfl (c_Va_loseAtEnds (a + 62) Y X.1 hY (by omega) (by omega) (by first | exact Q122.vny | exact Q19.vny)) (by first | exact Q122.vny | exact Q19.vny) rfl rfl ⟨(Nat.le_of_ble_eq_true rfl), (Nat.le_of_ble_eq_true rfl)⟩ (Nat.le_of_ble_eq_true rfl) ⟨(Nat.le_of_ble_eq_true rfl), (Nat.le_of_ble_eq_true rfl)⟩ (fun r146 n146 h146 e146 => ?_)
          obtain ⟨rfl, rfl, rfl⟩ := e146
          refine gi_goto (tgt := 305) C (dm_St_narrow 51 rfl) (by decide) ?_
          refine gi_vret C hr (dm_St_narrow 119 rfl) ?_
          first
            | (have ho : o = 20 := (nI_eq (b := 20) (by omega) (by omega)).mp c23
               subst ho
               exact ⟨rfl, rfl, Q95⟩)
            | (have ho : o = 22 := (nI_eq (b := 22) (by omega) (by omega)).mp c23
               subst ho
               exact ⟨rfl, rfl, Q187⟩)
            | (have ho : o = 23 := (nI_eq (b := 23) (by omega) (by omega)).mp c23
               subst ho
               exact ⟨rfl, rfl, Q224⟩)
            | (have ho : o = 24 := (nI_eq (b := 24) (by omega) (by omega)).mp c23
               subst ho
               exact ⟨rfl, rfl, Q265⟩)
            | (have ho : o = 21 := (nI_eq (b := 21) (by omega) (by omega)).mp c23
               subst ho
               rw [show narX 21 X Y = loseS X Y.1 by show (if Y.1 = Y.2.1 then loseS X Y.1 else some X) = _; rw [if_pos sy], show narY 21 X Y = loseS Y X.1 by show (if X.1 = X.2.1 then loseS Y X.1 else some Y) = _; rw [if_pos sx]]
               exact ⟨rfl, rfl, Q122.pny (sV (wS (loseS Y X.1)))⟩)
            | (have ho : o = 21 := (nI_eq (b := 21) (by omega) (by omega)).mp c23
               subst ho
               rw [show narX 21 X Y = loseS X Y.1 by show (if Y.1 = Y.2.1 then loseS X Y.1 else some X) = _; rw [if_pos sy], show narY 21 X Y = some Y by show (if X.1 = X.2.1 then loseS Y X.1 else some Y) = _; rw [if_neg (sgF (by omega) (by omega) (by omega) (by omega) c132)]]
               exact ⟨rfl, rfl, Q122⟩)
            | (have ho : o = 21 := (nI_eq (b := 21) (by omega) (by omega)).mp c23
               subst ho
               rw [show narX 21 X Y = some X by show (if Y.1 = Y.2.1 then loseS X Y.1 else some X) = _; rw [if_neg (sgF (by omega) (by omega) (by omega) (by omega) c108)], show narY 21 X Y = loseS Y X.1 by show (if X.1 = X.2.1 then loseS Y X.1 else some Y) = _; rw [if_pos sx]]
               exact ⟨rfl, rfl, Q19.pny (sV (wS (loseS Y X.1)))⟩)
            | (have ho : o = 21 := (nI_eq (b := 21) (by omega) (by omega)).mp c23
               subst ho
               rw [show narX 21 X Y = some X by show (if Y.1 = Y.2.1 then loseS X Y.1 else some X) = _; rw [if_neg (sgF (by omega) (by omega) (by omega) (by omega) c108)], show narY 21 X Y = some Y by show (if X.1 = X.2.1 then loseS Y X.1 else some Y) = _; rw [if_neg (sgF (by omega) (by omega) (by omega) (by omega) c132)]]
               exact ⟨rfl, rfl, Q19⟩)
            | (have ho : o = 25 := by
                 rw [nI_toInt (by omega)] at c23
                 omega
               subst ho
               exact ⟨rfl, rfl, Q302⟩)
    · refine gi_tableIn (off := 129) (tgt := 152) C (dm_St_narrow 11 rfl) (by decide) (by decide) rfl (by decide) ?_
      refine gi_aload_n (q := 153) (i := 0) C (dm_St_narrow 52 rfl) rfl rfl rfl ?_
      refine gi_get (q := 156) C (dm_St_narrow 53 rfl) rfl fl_St_46 (by first | exact Q302.ob | exact Q302.vx | exact Q302.vy | exact Q302.vnx | exact Q302.vny | exact Q285.ob | exact Q285.vx | exact Q285.vy | exact Q285.vnx | exact Q285.vny | exact Q265.ob | exact Q265.vx | exact Q265.vy | exact Q265.vnx | exact Q265.vny | exact Q246.ob | exact Q246.vx | exact Q246.vy | exact Q246.vnx | exact Q246.vny | exact Q224.ob | exact Q224.vx | exact Q224.vy | exact Q224.vnx | exact Q224.vny | exact Q207.ob | exact Q207.vx | exact Q207.vy | exact Q207.vnx | exact Q207.vny | exact Q187.ob | exact Q187.vx | exact Q187.vy | exact Q187.vnx | exact Q187.vny | exact Q168.ob | exact Q168.vx | exact Q168.vy | exact Q168.vnx | exact Q168.vny | exact Q146.ob | exact Q146.vx | exact Q146.vy | exact Q146.vnx | exact Q146.vny | exact Q122.ob | exact Q122.vx | exact Q122.vy | exact Q122.vnx | exact Q122.vny | exact Q95.ob | exact Q95.vx | exact Q95.vy | exact Q95.vnx | exact Q95.vny | exact Q74.ob | exact Q74.vx | exact Q74.vy | exact Q74.vnx | exact Q74.vny | exact Q19.ob | exact Q19.vx | exact Q19.vy | exact Q19.vnx | exact Q19.vny | exact Q8.ob | exact Q8.vx | exact Q8.vy | exact Q8.vnx | exact Q8.vny | exact Q.ob | exact Q.vx | exact Q.vy | exact Q.vnx | exact Q.vny) rfl ?_
      refine gi_ldc2 (q := 159) C (dm_St_narrow 54 rfl) rfl kc_St_241 ?_
      refine gi_aload_n (q := 160) (i := 0) C (dm_St_narrow 55 rfl) rfl rfl rfl ?_
      refine gi_get (q := 163) C (dm_St_narrow 56 rfl) rfl fl_St_43 (by first | exact Q302.ob | exact Q302.vx | exact Q302.vy | exact Q302.vnx | exact Q302.vny | exact Q285.ob | exact Q285.vx | exact Q285.vy | exact Q285.vnx | exact Q285.vny | exact Q265.ob | exact Q265.vx | exact Q265.vy | exact Q265.vnx | exact Q265.vny | exact Q246.ob | exact Q246.vx | exact Q246.vy | exact Q246.vnx | exact Q246.vny | exact Q224.ob | exact Q224.vx | exact Q224.vy | exact Q224.vnx | exact Q224.vny | exact Q207.ob | exact Q207.vx | exact Q207.vy | exact Q207.vnx | exact Q207.vny | exact Q187.ob | exact Q187.vx | exact Q187.vy | exact Q187.vnx | exact Q187.vny | exact Q168.ob | exact Q168.vx | exact Q168.vy | exact Q168.vnx | exact Q168.vny | exact Q146.ob | exact Q146.vx | exact Q146.vy | exact Q146.vnx | exact Q146.vny | exact Q122.ob | exact Q122.vx | exact Q122.vy | exact Q122.vnx | exact Q122.vny | exact Q95.ob | exact Q95.vx | exact Q95.vy | exact Q95.vnx | exact Q95.vny | exact Q74.ob | exact Q74.vx | exact Q74.vy | exact Q74.vnx | exact Q74.vny | exact Q19.ob | exact Q19.vx | exact Q19.vy | exact Q19.vnx | exact Q19.vny | exact Q8.ob | exact Q8.vx | exact Q8.vy | exact Q8.vnx | exact Q8.vny | exact Q.ob | exact Q.vx | exact Q.vy | exact Q.vnx | exact Q.vny) rfl ?_
      refine gi_get (q := 166) C (dm_St_narrow 57 rfl) rfl fl_St_231 (by first | exact Q302.ob | exact Q302.vx | exact Q302.vy | exact Q302.vnx | exact Q302.vny | exact Q285.ob | exact Q285.vx | exact Q285.vy | exact Q285.vnx | exact Q285.vny | exact Q265.ob | exact Q265.vx | exact Q265.vy | exact Q265.vnx | exact Q265.vny | exact Q246.ob | exact Q246.vx | exact Q246.vy | exact Q246.vnx | exact Q246.vny | exact Q224.ob | exact Q224.vx | exact Q224.vy | exact Q224.vnx | exact Q224.vny | exact Q207.ob | exact Q207.vx | exact Q207.vy | exact Q207.vnx | exact Q207.vny | exact Q187.ob | exact Q187.vx | exact Q187.vy | exact Q187.vnx | exact Q187.vny | exact Q168.ob | exact Q168.vx | exact Q168.vy | exact Q168.vnx | exact Q168.vny | exact Q146.ob | exact Q146.vx | exact Q146.vy | exact Q146.vnx | exact Q146.vny | exact Q122.ob | exact Q122.vx | exact Q122.vy | exact Q122.vnx | exact Q122.vny | exact Q95.ob | exact Q95.vx | exact Q95.vy | exact Q95.vnx | exact Q95.vny | exact Q74.ob | exact Q74.vx | exact Q74.vy | exact Q74.vnx | exact Q74.vny | exact Q19.ob | exact Q19.vx | exact Q19.vy | exact Q19.vnx | exact Q19.vny | exact Q8.ob | exact Q8.vx | exact Q8.vy | exact Q8.vnx | exact Q8.vny | exact Q.ob | exact Q.vx | exact Q.vy | exact Q.vnx | exact Q.vny) rfl ?_
      refine gi_lconst (q := 167) (v := 1) C (dm_St_narrow 58 rfl) rfl (by decide) ?_
      refine gi_lsub (q := 168) C (dm_St_narrow 59 rfl) rfl ?_
      rw [eL_LO, eL_1, eL_sub]
      refine gi_callv 2 (q := 171) C (dm_St_narrow 60 rfl) rfl my_Va_within lk_St_234 im_Va_within rfl (c_Va_within (a + 61) X (-2147483648) (Y.2.1 - 1) hX.b (by omega) (by omega) (by omega) (by omega) Q19.vnx) Q19.vnx rfl rfl ⟨(Nat.le_of_ble_eq_true rfl), (Nat.le_of_ble_eq_true rfl)⟩ (Nat.le_of_ble_eq_true rfl) ⟨(Nat.le_of_ble_eq_true rfl), (Nat.le_of_ble_eq_true rfl)⟩ (fun r168 n168 h168 e168 => ?_)
      obtain ⟨rfl, rfl, rfl⟩ := e168
      have Q168 := Q19.pnx (sV (wS (withinS X (-2147483648) (Y.2.1 - 1))))
      refine gi_aload_n (q := 172) (i := 0) C (dm_St_narrow 61 rfl) rfl rfl rfl ?_
      refine gi_get (q := 175) C (dm_St_narrow 62 rfl) rfl fl_St_49 (by first | exact Q302.ob | exact Q302.vx | exact Q302.vy | exact Q302.vnx | exact Q302.vny | exact Q285.ob | exact Q285.vx | exact Q285.vy | exact Q285.vnx | exact Q285.vny | exact Q265.ob | exact Q265.vx | exact Q265.vy | exact Q265.vnx | exact Q265.vny | exact Q246.ob | exact Q246.vx | exact Q246.vy | exact Q246.vnx | exact Q246.vny | exact Q224.ob | exact Q224.vx | exact Q224.vy | exact Q224.vnx | exact Q224.vny | exact Q207.ob | exact Q207.vx | exact Q207.vy | exact Q207.vnx | exact Q207.vny | exact Q187.ob | exact Q187.vx | exact Q187.vy | exact Q187.vnx | exact Q187.vny | exact Q168.ob | exact Q168.vx | exact Q168.vy | exact Q168.vnx | exact Q168.vny | exact Q146.ob | exact Q146.vx | exact Q146.vy | exact Q146.vnx | exact Q146.vny | exact Q122.ob | exact Q122.vx | exact Q122.vy | exact Q122.vnx | exact Q122.vny | exact Q95.ob | exact Q95.vx | exact Q95.vy | exact Q95.vnx | exact Q95.vny | exact Q74.ob | exact Q74.vx | exact Q74.vy | exact Q74.vnx | exact Q74.vny | exact Q19.ob | exact Q19.vx | exact Q19.vy | exact Q19.vnx | exact Q19.vny | exact Q8.ob | exact Q8.vx | exact Q8.vy | exact Q8.vnx | exact Q8.vny | exact Q.ob | exact Q.vx | exact Q.vy | exact Q.vnx | exact Q.vny) rfl ?_
      refine gi_aload_n (q := 176) (i := 0) C (dm_St_narrow 63 rfl) rfl rfl rfl ?_
      refine gi_get (q := 179) C (dm_St_narrow 64 rfl) rfl fl_St_39 (by first | exact Q302.ob | exact Q302.vx | exact Q302.vy | exact Q302.vnx | exact Q302.vny | exact Q285.ob | exact Q285.vx | exact Q285.vy | exact Q285.vnx | exact Q285.vny | exact Q265.ob | exact Q265.vx | exact Q265.vy | exact Q265.vnx | exact Q265.vny | exact Q246.ob | exact Q246.vx | exact Q246.vy | exact Q246.vnx | exact Q246.vny | exact Q224.ob | exact Q224.vx | exact Q224.vy | exact Q224.vnx | exact Q224.vny | exact Q207.ob | exact Q207.vx | exact Q207.vy | exact Q207.vnx | exact Q207.vny | exact Q187.ob | exact Q187.vx | exact Q187.vy | exact Q187.vnx | exact Q187.vny | exact Q168.ob | exact Q168.vx | exact Q168.vy | exact Q168.vnx | exact Q168.vny | exact Q146.ob | exact Q146.vx | exact Q146.vy | exact Q146.vnx | exact Q146.vny | exact Q122.ob | exact Q122.vx | exact Q122.vy | exact Q122.vnx | exact Q122.vny | exact Q95.ob | exact Q95.vx | exact Q95.vy | exact Q95.vnx | exact Q95.vny | exact Q74.ob | exact Q74.vx | exact Q74.vy | exact Q74.vnx | exact Q74.vny | exact Q19.ob | exact Q19.vx | exact Q19.vy | exact Q19.vnx | exact Q19.vny | exact Q8.ob | exact Q8.vx | exact Q8.vy | exact Q8.vnx | exact Q8.vny | exact Q.ob | exact Q.vx | exact Q.vy | exact Q.vnx | exact Q.vny) rfl ?_
      refine gi_get (q := 182) C (dm_St_narrow 65 rfl) rfl fl_St_227 (by first | exact Q302.ob | exact Q302.vx | exact Q302.vy | exact Q302.vnx | exact Q302.vny | exact Q285.ob | exact Q285.vx | exact Q285.vy | exact Q285.vnx | exact Q285.vny | exact Q265.ob | exact Q265.vx | exact Q265.vy | exact Q265.vnx | exact Q265.vny | exact Q246.ob | exact Q246.vx | exact Q246.vy | exact Q246.vnx | exact Q246.vny | exact Q224.ob | exact Q224.vx | exact Q224.vy | exact Q224.vnx | exact Q224.vny | exact Q207.ob | exact Q207.vx | exact Q207.vy | exact Q207.vnx | exact Q207.vny | exact Q187.ob | exact Q187.vx | exact Q187.vy | exact Q187.vnx | exact Q187.vny | exact Q168.ob | exact Q168.vx | exact Q168.vy | exact Q168.vnx | exact Q168.vny | exact Q146.ob | exact Q146.vx | exact Q146.vy | exact Q146.vnx | exact Q146.vny | exact Q122.ob | exact Q122.vx | exact Q122.vy | exact Q122.vnx | exact Q122.vny | exact Q95.ob | exact Q95.vx | exact Q95.vy | exact Q95.vnx | exact Q95.vny | exact Q74.ob | exact Q74.vx | exact Q74.vy | exact Q74.vnx | exact Q74.vny | exact Q19.ob | exact Q19.vx | exact Q19.vy | exact Q19.vnx | exact Q19.vny | exact Q8.ob | exact Q8.vx | exact Q8.vy | exact Q8.vnx | exact Q8.vny | exact Q.ob | exact Q.vx | exact Q.vy | exact Q.vnx | exact Q.vny) rfl ?_
      refine gi_lconst (q := 183) (v := 1) C (dm_St_narrow 66 rfl) rfl (by decide) ?_
      refine gi_ladd (q := 184) C (dm_St_narrow 67 rfl) rfl ?_
      refine gi_ldc2 (q := 187) C (dm_St_narrow 68 rfl) rfl kc_St_243 ?_
      rw [eL_HI, eL_1, eL_add]
      refine gi_callv 2 (q := 190) C (dm_St_narrow 69 rfl) rfl my_Va_within lk_St_234 im_Va_within rfl (c_Va_within (a + 62) Y (X.1 + 1) 2147483647 hY.b (by omega) (by omega) (by omega) (by omega) Q168.vny) Q168.vny rfl rfl ⟨(Nat.le_of_ble_eq_true rfl), (Nat.le_of_ble_eq_true rfl)⟩ (Nat.le_of_ble_eq_true rfl) ⟨(Nat.le_of_ble_eq_true rfl), (Nat.le_of_ble_eq_true rfl)⟩ (fun r187 n187 h187 e187 => ?_)
      obtain ⟨rfl, rfl, rfl⟩ := e187
      have Q187 := Q168.pny (sV (wS (withinS Y (X.1 + 1) 2147483647)))
      refine gi_goto (tgt := 305) C (dm_St_narrow 70 rfl) (by decide) ?_
      refine gi_vret C hr (dm_St_narrow 119 rfl) ?_
      first
        | (have ho : o = 20 := (nI_eq (b := 20) (by omega) (by omega)).mp c23
           subst ho
           exact ⟨rfl, rfl, Q95⟩)
        | (have ho : o = 22 := (nI_eq (b := 22) (by omega) (by omega)).mp c23
           subst ho
           exact ⟨rfl, rfl, Q187⟩)
        | (have ho : o = 23 := (nI_eq (b := 23) (by omega) (by omega)).mp c23
           subst ho
           exact ⟨rfl, rfl, Q224⟩)
        | (have ho : o = 24 := (nI_eq (b := 24) (by omega) (by omega)).mp c23
           subst ho
           exact ⟨rfl, rfl, Q265⟩)
        | (have ho : o = 21 := (nI_eq (b := 21) (by omega) (by omega)).mp c23
           subst ho
           rw [show narX 21 X Y = loseS X Y.1 by show (if Y.1 = Y.2.1 then loseS X Y.1 else some X) = _; rw [if_pos sy], show narY 21 X Y = loseS Y X.1 by show (if X.1 = X.2.1 then loseS Y X.1 else some Y) = _; rw [if_pos sx]]
           exact ⟨rfl, rfl, Q122.pny (sV (wS (loseS Y X.1)))⟩)
        | (have ho : o = 21 := (nI_eq (b := 21) (by omega) (by omega)).mp c23
           subst ho
           rw [show narX 21 X Y = loseS X Y.1 by show (if Y.1 = Y.2.1 then loseS X Y.1 else some X) = _; rw [if_pos sy], show narY 21 X Y = some Y by show (if X.1 = X.2.1 then loseS Y X.1 else some Y) = _; rw [if_neg (sgF (by omega) (by omega) (by omega) (by omega) c132)]]
           exact ⟨rfl, rfl, Q122⟩)
        | (have ho : o = 21 := (nI_eq (b := 21) (by omega) (by omega)).mp c23
           subst ho
           rw [show narX 21 X Y = some X by show (if Y.1 = Y.2.1 then loseS X Y.1 else some X) = _; rw [if_neg (sgF (by omega) (by omega) (by omega) (by omega) c108)], show narY 21 X Y = loseS Y X.1 by show (if X.1 = X.2.1 then loseS Y X.1 else some Y) = _; rw [if_pos sx]]
           exact ⟨rfl, rfl, Q19.pny (sV (wS (loseS Y X.1)))⟩)
        | (have ho : o = 21 := (nI_eq (b := 21) (by omega) (by omega)).mp c23
           subst ho
           rw [show narX 21 X Y = some X by show (if Y.1 = Y.2.1 then loseS X Y.1 else some X) = _; rw [if_neg (sgF (by omega) (by omega) (by omega) (by omega) c108)], show narY 21 X Y = some Y by show (if X.1 = X.2.1 then loseS Y X.1 else some Y) = _; rw [if_neg (sgF (by omega) (by omega) (by omega) (by omega) c132)]]
           exact ⟨rfl, rfl, Q19⟩)
        | (have ho : o = 25 := by
             rw [nI_toInt (by omega)] at c23
             omega
           subst ho
           exact ⟨rfl, rfl, Q302⟩)
    · refine gi_tableIn (off := 170) (tgt := 193) C (dm_St_narrow 11 rfl) (by decide) (by decide) rfl (by decide) ?_
      refine gi_aload_n (q := 194) (i := 0) C (dm_St_narrow 71 rfl) rfl rfl rfl ?_
      refine gi_get (q := 197) C (dm_St_narrow 72 rfl) rfl fl_St_46 (by first | exact Q302.ob | exact Q302.vx | exact Q302.vy | exact Q302.vnx | exact Q302.vny | exact Q285.ob | exact Q285.vx | exact Q285.vy | exact Q285.vnx | exact Q285.vny | exact Q265.ob | exact Q265.vx | exact Q265.vy | exact Q265.vnx | exact Q265.vny | exact Q246.ob | exact Q246.vx | exact Q246.vy | exact Q246.vnx | exact Q246.vny | exact Q224.ob | exact Q224.vx | exact Q224.vy | exact Q224.vnx | exact Q224.vny | exact Q207.ob | exact Q207.vx | exact Q207.vy | exact Q207.vnx | exact Q207.vny | exact Q187.ob | exact Q187.vx | exact Q187.vy | exact Q187.vnx | exact Q187.vny | exact Q168.ob | exact Q168.vx | exact Q168.vy | exact Q168.vnx | exact Q168.vny | exact Q146.ob | exact Q146.vx | exact Q146.vy | exact Q146.vnx | exact Q146.vny | exact Q122.ob | exact Q122.vx | exact Q122.vy | exact Q122.vnx | exact Q122.vny | exact Q95.ob | exact Q95.vx | exact Q95.vy | exact Q95.vnx | exact Q95.vny | exact Q74.ob | exact Q74.vx | exact Q74.vy | exact Q74.vnx | exact Q74.vny | exact Q19.ob | exact Q19.vx | exact Q19.vy | exact Q19.vnx | exact Q19.vny | exact Q8.ob | exact Q8.vx | exact Q8.vy | exact Q8.vnx | exact Q8.vny | exact Q.ob | exact Q.vx | exact Q.vy | exact Q.vnx | exact Q.vny) rfl ?_
      refine gi_aload_n (q := 198) (i := 0) C (dm_St_narrow 73 rfl) rfl rfl rfl ?_
      refine gi_get (q := 201) C (dm_St_narrow 74 rfl) rfl fl_St_43 (by first | exact Q302.ob | exact Q302.vx | exact Q302.vy | exact Q302.vnx | exact Q302.vny | exact Q285.ob | exact Q285.vx | exact Q285.vy | exact Q285.vnx | exact Q285.vny | exact Q265.ob | exact Q265.vx | exact Q265.vy | exact Q265.vnx | exact Q265.vny | exact Q246.ob | exact Q246.vx | exact Q246.vy | exact Q246.vnx | exact Q246.vny | exact Q224.ob | exact Q224.vx | exact Q224.vy | exact Q224.vnx | exact Q224.vny | exact Q207.ob | exact Q207.vx | exact Q207.vy | exact Q207.vnx | exact Q207.vny | exact Q187.ob | exact Q187.vx | exact Q187.vy | exact Q187.vnx | exact Q187.vny | exact Q168.ob | exact Q168.vx | exact Q168.vy | exact Q168.vnx | exact Q168.vny | exact Q146.ob | exact Q146.vx | exact Q146.vy | exact Q146.vnx | exact Q146.vny | exact Q122.ob | exact Q122.vx | exact Q122.vy | exact Q122.vnx | exact Q122.vny | exact Q95.ob | exact Q95.vx | exact Q95.vy | exact Q95.vnx | exact Q95.vny | exact Q74.ob | exact Q74.vx | exact Q74.vy | exact Q74.vnx | exact Q74.vny | exact Q19.ob | exact Q19.vx | exact Q19.vy | exact Q19.vnx | exact Q19.vny | exact Q8.ob | exact Q8.vx | exact Q8.vy | exact Q8.vnx | exact Q8.vny | exact Q.ob | exact Q.vx | exact Q.vy | exact Q.vnx | exact Q.vny) rfl ?_
      refine gi_get (q := 204) C (dm_St_narrow 75 rfl) rfl fl_St_227 (by first | exact Q302.ob | exact Q302.vx | exact Q302.vy | exact Q302.vnx | exact Q302.vny | exact Q285.ob | exact Q285.vx | exact Q285.vy | exact Q285.vnx | exact Q285.vny | exact Q265.ob | exact Q265.vx | exact Q265.vy | exact Q265.vnx | exact Q265.vny | exact Q246.ob | exact Q246.vx | exact Q246.vy | exact Q246.vnx | exact Q246.vny | exact Q224.ob | exact Q224.vx | exact Q224.vy | exact Q224.vnx | exact Q224.vny | exact Q207.ob | exact Q207.vx | exact Q207.vy | exact Q207.vnx | exact Q207.vny | exact Q187.ob | exact Q187.vx | exact Q187.vy | exact Q187.vnx | exact Q187.vny | exact Q168.ob | exact Q168.vx | exact Q168.vy | exact Q168.vnx | exact Q168.vny | exact Q146.ob | exact Q146.vx | exact Q146.vy | exact Q146.vnx | exact Q146.vny | exact Q122.ob | exact Q122.vx | exact Q122.vy | exact Q122.vnx | exact Q122.vny | exact Q95.ob | exact Q95.vx | exact Q95.vy | exact Q95.vnx | exact Q95.vny | exact Q74.ob | exact Q74.vx | exact Q74.vy | exact Q74.vnx | exact Q74.vny | exact Q19.ob | exact Q19.vx | exact Q19.vy | exact Q19.vnx | exact Q19.vny | exact Q8.ob | exact Q8.vx | exact Q8.vy | exact Q8.vnx | exact Q8.vny | exact Q.ob | exact Q.vx | exact Q.vy | exact Q.vnx | exact Q.vny) rfl ?_
      refine gi_ldc2 (q := 207) C (dm_St_narrow 76 rfl) rfl kc_St_243 ?_
      rw [eL_HI]
      refine gi_callv 2 (q := 210) C (dm_St_narrow 77 rfl) rfl my_Va_within lk_St_234 im_Va_within rfl (c_Va_within (a + 61) X Y.1 2147483647 hX.b (by omega) (by omega) (by omega) (by omega) Q19.vnx) Q19.vnx rfl rfl ⟨(Nat.le_of_ble_eq_true rfl), (Nat.le_of_ble_eq_true rfl)⟩ (Nat.le_of_ble_eq_true rfl) ⟨(Nat.le_of_ble_eq_true rfl), (Nat.le_of_ble_eq_true rfl)⟩ (fun r207 n207 h207 e207 => ?_)
      obtain ⟨rfl, rfl, rfl⟩ := e207
      have Q207 := Q19.pnx (sV (wS (withinS X Y.1 2147483647)))
      refine gi_aload_n (q := 211) (i := 0) C (dm_St_narrow 78 rfl) rfl rfl rfl ?_
      refine gi_get (q := 214) C (dm_St_narrow 79 rfl) rfl fl_St_49 (by first | exact Q302.ob | exact Q302.vx | exact Q302.vy | exact Q302.vnx | exact Q302.vny | exact Q285.ob | exact Q285.vx | exact Q285.vy | exact Q285.vnx | exact Q285.vny | exact Q265.ob | exact Q265.vx | exact Q265.vy | exact Q265.vnx | exact Q265.vny | exact Q246.ob | exact Q246.vx | exact Q246.vy | exact Q246.vnx | exact Q246.vny | exact Q224.ob | exact Q224.vx | exact Q224.vy | exact Q224.vnx | exact Q224.vny | exact Q207.ob | exact Q207.vx | exact Q207.vy | exact Q207.vnx | exact Q207.vny | exact Q187.ob | exact Q187.vx | exact Q187.vy | exact Q187.vnx | exact Q187.vny | exact Q168.ob | exact Q168.vx | exact Q168.vy | exact Q168.vnx | exact Q168.vny | exact Q146.ob | exact Q146.vx | exact Q146.vy | exact Q146.vnx | exact Q146.vny | exact Q122.ob | exact Q122.vx | exact Q122.vy | exact Q122.vnx | exact Q122.vny | exact Q95.ob | exact Q95.vx | exact Q95.vy | exact Q95.vnx | exact Q95.vny | exact Q74.ob | exact Q74.vx | exact Q74.vy | exact Q74.vnx | exact Q74.vny | exact Q19.ob | exact Q19.vx | exact Q19.vy | exact Q19.vnx | exact Q19.vny | exact Q8.ob | exact Q8.vx | exact Q8.vy | exact Q8.vnx | exact Q8.vny | exact Q.ob | exact Q.vx | exact Q.vy | exact Q.vnx | exact Q.vny) rfl ?_
      refine gi_ldc2 (q := 217) C (dm_St_narrow 80 rfl) rfl kc_St_241 ?_
      refine gi_aload_n (q := 218) (i := 0) C (dm_St_narrow 81 rfl) rfl rfl rfl ?_
      refine gi_get (q := 221) C (dm_St_narrow 82 rfl) rfl fl_St_39 (by first | exact Q302.ob | exact Q302.vx | exact Q302.vy | exact Q302.vnx | exact Q302.vny | exact Q285.ob | exact Q285.vx | exact Q285.vy | exact Q285.vnx | exact Q285.vny | exact Q265.ob | exact Q265.vx | exact Q265.vy | exact Q265.vnx | exact Q265.vny | exact Q246.ob | exact Q246.vx | exact Q246.vy | exact Q246.vnx | exact Q246.vny | exact Q224.ob | exact Q224.vx | exact Q224.vy | exact Q224.vnx | exact Q224.vny | exact Q207.ob | exact Q207.vx | exact Q207.vy | exact Q207.vnx | exact Q207.vny | exact Q187.ob | exact Q187.vx | exact Q187.vy | exact Q187.vnx | exact Q187.vny | exact Q168.ob | exact Q168.vx | exact Q168.vy | exact Q168.vnx | exact Q168.vny | exact Q146.ob | exact Q146.vx | exact Q146.vy | exact Q146.vnx | exact Q146.vny | exact Q122.ob | exact Q122.vx | exact Q122.vy | exact Q122.vnx | exact Q122.vny | exact Q95.ob | exact Q95.vx | exact Q95.vy | exact Q95.vnx | exact Q95.vny | exact Q74.ob | exact Q74.vx | exact Q74.vy | exact Q74.vnx | exact Q74.vny | exact Q19.ob | exact Q19.vx | exact Q19.vy | exact Q19.vnx | exact Q19.vny | exact Q8.ob | exact Q8.vx | exact Q8.vy | exact Q8.vnx | exact Q8.vny | exact Q.ob | exact Q.vx | exact Q.vy | exact Q.vnx | exact Q.vny) rfl ?_
      refine gi_get (q := 224) C (dm_St_narrow 83 rfl) rfl fl_St_231 (by first | exact Q302.ob | exact Q302.vx | exact Q302.vy | exact Q302.vnx | exact Q302.vny | exact Q285.ob | exact Q285.vx | exact Q285.vy | exact Q285.vnx | exact Q285.vny | exact Q265.ob | exact Q265.vx | exact Q265.vy | exact Q265.vnx | exact Q265.vny | exact Q246.ob | exact Q246.vx | exact Q246.vy | exact Q246.vnx | exact Q246.vny | exact Q224.ob | exact Q224.vx | exact Q224.vy | exact Q224.vnx | exact Q224.vny | exact Q207.ob | exact Q207.vx | exact Q207.vy | exact Q207.vnx | exact Q207.vny | exact Q187.ob | exact Q187.vx | exact Q187.vy | exact Q187.vnx | exact Q187.vny | exact Q168.ob | exact Q168.vx | exact Q168.vy | exact Q168.vnx | exact Q168.vny | exact Q146.ob | exact Q146.vx | exact Q146.vy | exact Q146.vnx | exact Q146.vny | exact Q122.ob | exact Q122.vx | exact Q122.vy | exact Q122.vnx | exact Q122.vny | exact Q95.ob | exact Q95.vx | exact Q95.vy | exact Q95.vnx | exact Q95.vny | exact Q74.ob | exact Q74.vx | exact Q74.vy | exact Q74.vnx | exact Q74.vny | exact Q19.ob | exact Q19.vx | exact Q19.vy | exact Q19.vnx | exact Q19.vny | exact Q8.ob | exact Q8.vx | exact Q8.vy | exact Q8.vnx | exact Q8.vny | exact Q.ob | exact Q.vx | exact Q.vy | exact Q.vnx | exact Q.vny) rfl ?_
      rw [eL_LO]
      refine gi_callv 2 (q := 227) C (dm_St_narrow 84 rfl) rfl my_Va_within lk_St_234 im_Va_within rfl (c_Va_within (a + 62) Y (-2147483648) X.2.1 hY.b (by omega) (by omega) (by omega) (by omega) Q207.vny) Q207.vny rfl rfl ⟨(Nat.le_of_ble_eq_true rfl), (Nat.le_of_ble_eq_true rfl)⟩ (Nat.le_of_ble_eq_true rfl) ⟨(Nat.le_of_ble_eq_true rfl), (Nat.le_of_ble_eq_true rfl)⟩ (fun r224 n224 h224 e224 => ?_)
      obtain ⟨rfl, rfl, rfl⟩ := e224
      have Q224 := Q207.pny (sV (wS (withinS Y (-2147483648) X.2.1)))
      refine gi_goto (tgt := 305) C (dm_St_narrow 85 rfl) (by decide) ?_
      refine gi_vret C hr (dm_St_narrow 119 rfl) ?_
      first
        | (have ho : o = 20 := (nI_eq (b := 20) (by omega) (by omega)).mp c23
           subst ho
           exact ⟨rfl, rfl, Q95⟩)
        | (have ho : o = 22 := (nI_eq (b := 22) (by omega) (by omega)).mp c23
           subst ho
           exact ⟨rfl, rfl, Q187⟩)
        | (have ho : o = 23 := (nI_eq (b := 23) (by omega) (by omega)).mp c23
           subst ho
           exact ⟨rfl, rfl, Q224⟩)
        | (have ho : o = 24 := (nI_eq (b := 24) (by omega) (by omega)).mp c23
           subst ho
           exact ⟨rfl, rfl, Q265⟩)
        | (have ho : o = 21 := (nI_eq (b := 21) (by omega) (by omega)).mp c23
           subst ho
           rw [show narX 21 X Y = loseS X Y.1 by show (if Y.1 = Y.2.1 then loseS X Y.1 else some X) = _; rw [if_pos sy], show narY 21 X Y = loseS Y X.1 by show (if X.1 = X.2.1 then loseS Y X.1 else some Y) = _; rw [if_pos sx]]
           exact ⟨rfl, rfl, Q122.pny (sV (wS (loseS Y X.1)))⟩)
        | (have ho : o = 21 := (nI_eq (b := 21) (by omega) (by omega)).mp c23
           subst ho
           rw [show narX 21 X Y = loseS X Y.1 by show (if Y.1 = Y.2.1 then loseS X Y.1 else some X) = _; rw [if_pos sy], show narY 21 X Y = some Y by show (if X.1 = X.2.1 then loseS Y X.1 else some Y) = _; rw [if_neg (sgF (by omega) (by omega) (by omega) (by omega) c132)]]
           exact ⟨rfl, rfl, Q122⟩)
        | (have ho : o = 21 := (nI_eq (b := 21) (by omega) (by omega)).mp c23
           subst ho
           rw [show narX 21 X Y = some X by show (if Y.1 = Y.2.1 then loseS X Y.1 else some X) = _; rw [if_neg (sgF (by omega) (by omega) (by omega) (by omega) c108)], show narY 21 X Y = loseS Y X.1 by show (if X.1 = X.2.1 then loseS Y X.1 else some Y) = _; rw [if_pos sx]]
           exact ⟨rfl, rfl, Q19.pny (sV (wS (loseS Y X.1)))⟩)
        | (have ho : o = 21 := (nI_eq (b := 21) (by omega) (by omega)).mp c23
           subst ho
           rw [show narX 21 X Y = some X by show (if Y.1 = Y.2.1 then loseS X Y.1 else some X) = _; rw [if_neg (sgF (by omega) (by omega) (by omega) (by omega) c108)], show narY 21 X Y = some Y by show (if X.1 = X.2.1 then loseS Y X.1 else some Y) = _; rw [if_neg (sgF (by omega) (by omega) (by omega) (by omega) c132)]]
           exact ⟨rfl, rfl, Q19⟩)
        | (have ho : o = 25 := by
             rw [nI_toInt (by omega)] at c23
             omega
           subst ho
           exact ⟨rfl, rfl, Q302⟩)
    · refine gi_tableIn (off := 207) (tgt := 230) C (dm_St_narrow 11 rfl) (by decide) (by decide) rfl (by decide) ?_
      refine gi_aload_n (q := 231) (i := 0) C (dm_St_narrow 86 rfl) rfl rfl rfl ?_
      refine gi_get (q := 234) C (dm_St_narrow 87 rfl) rfl fl_St_46 (by first | exact Q302.ob | exact Q302.vx | exact Q302.vy | exact Q302.vnx | exact Q302.vny | exact Q285.ob | exact Q285.vx | exact Q285.vy | exact Q285.vnx | exact Q285.vny | exact Q265.ob | exact Q265.vx | exact Q265.vy | exact Q265.vnx | exact Q265.vny | exact Q246.ob | exact Q246.vx | exact Q246.vy | exact Q246.vnx | exact Q246.vny | exact Q224.ob | exact Q224.vx | exact Q224.vy | exact Q224.vnx | exact Q224.vny | exact Q207.ob | exact Q207.vx | exact Q207.vy | exact Q207.vnx | exact Q207.vny | exact Q187.ob | exact Q187.vx | exact Q187.vy | exact Q187.vnx | exact Q187.vny | exact Q168.ob | exact Q168.vx | exact Q168.vy | exact Q168.vnx | exact Q168.vny | exact Q146.ob | exact Q146.vx | exact Q146.vy | exact Q146.vnx | exact Q146.vny | exact Q122.ob | exact Q122.vx | exact Q122.vy | exact Q122.vnx | exact Q122.vny | exact Q95.ob | exact Q95.vx | exact Q95.vy | exact Q95.vnx | exact Q95.vny | exact Q74.ob | exact Q74.vx | exact Q74.vy | exact Q74.vnx | exact Q74.vny | exact Q19.ob | exact Q19.vx | exact Q19.vy | exact Q19.vnx | exact Q19.vny | exact Q8.ob | exact Q8.vx | exact Q8.vy | exact Q8.vnx | exact Q8.vny | exact Q.ob | exact Q.vx | exact Q.vy | exact Q.vnx | exact Q.vny) rfl ?_
      refine gi_aload_n (q := 235) (i := 0) C (dm_St_narrow 88 rfl) rfl rfl rfl ?_
      refine gi_get (q := 238) C (dm_St_narrow 89 rfl) rfl fl_St_43 (by first | exact Q302.ob | exact Q302.vx | exact Q302.vy | exact Q302.vnx | exact Q302.vny | exact Q285.ob | exact Q285.vx | exact Q285.vy | exact Q285.vnx | exact Q285.vny | exact Q265.ob | exact Q265.vx | exact Q265.vy | exact Q265.vnx | exact Q265.vny | exact Q246.ob | exact Q246.vx | exact Q246.vy | exact Q246.vnx | exact Q246.vny | exact Q224.ob | exact Q224.vx | exact Q224.vy | exact Q224.vnx | exact Q224.vny | exact Q207.ob | exact Q207.vx | exact Q207.vy | exact Q207.vnx | exact Q207.vny | exact Q187.ob | exact Q187.vx | exact Q187.vy | exact Q187.vnx | exact Q187.vny | exact Q168.ob | exact Q168.vx | exact Q168.vy | exact Q168.vnx | exact Q168.vny | exact Q146.ob | exact Q146.vx | exact Q146.vy | exact Q146.vnx | exact Q146.vny | exact Q122.ob | exact Q122.vx | exact Q122.vy | exact Q122.vnx | exact Q122.vny | exact Q95.ob | exact Q95.vx | exact Q95.vy | exact Q95.vnx | exact Q95.vny | exact Q74.ob | exact Q74.vx | exact Q74.vy | exact Q74.vnx | exact Q74.vny | exact Q19.ob | exact Q19.vx | exact Q19.vy | exact Q19.vnx | exact Q19.vny | exact Q8.ob | exact Q8.vx | exact Q8.vy | exact Q8.vnx | exact Q8.vny | exact Q.ob | exact Q.vx | exact Q.vy | exact Q.vnx | exact Q.vny) rfl ?_
      refine gi_get (q := 241) C (dm_St_narrow 90 rfl) rfl fl_St_227 (by first | exact Q302.ob | exact Q302.vx | exact Q302.vy | exact Q302.vnx | exact Q302.vny | exact Q285.ob | exact Q285.vx | exact Q285.vy | exact Q285.vnx | exact Q285.vny | exact Q265.ob | exact Q265.vx | exact Q265.vy | exact Q265.vnx | exact Q265.vny | exact Q246.ob | exact Q246.vx | exact Q246.vy | exact Q246.vnx | exact Q246.vny | exact Q224.ob | exact Q224.vx | exact Q224.vy | exact Q224.vnx | exact Q224.vny | exact Q207.ob | exact Q207.vx | exact Q207.vy | exact Q207.vnx | exact Q207.vny | exact Q187.ob | exact Q187.vx | exact Q187.vy | exact Q187.vnx | exact Q187.vny | exact Q168.ob | exact Q168.vx | exact Q168.vy | exact Q168.vnx | exact Q168.vny | exact Q146.ob | exact Q146.vx | exact Q146.vy | exact Q146.vnx | exact Q146.vny | exact Q122.ob | exact Q122.vx | exact Q122.vy | exact Q122.vnx | exact Q122.vny | exact Q95.ob | exact Q95.vx | exact Q95.vy | exact Q95.vnx | exact Q95.vny | exact Q74.ob | exact Q74.vx | exact Q74.vy | exact Q74.vnx | exact Q74.vny | exact Q19.ob | exact Q19.vx | exact Q19.vy | exact Q19.vnx | exact Q19.vny | exact Q8.ob | exact Q8.vx | exact Q8.vy | exact Q8.vnx | exact Q8.vny | exact Q.ob | exact Q.vx | exact Q.vy | exact Q.vnx | exact Q.vny) rfl ?_
      refine gi_lconst (q := 242) (v := 1) C (dm_St_narrow 91 rfl) rfl (by decide) ?_
      refine gi_ladd (q := 243) C (dm_St_narrow 92 rfl) rfl ?_
      refine gi_ldc2 (q := 246) C (dm_St_narrow 93 rfl) rfl kc_St_243 ?_
      rw [eL_HI, eL_1, eL_add]
      refine gi_callv 2 (q := 249) C (dm_St_narrow 94 rfl) rfl my_Va_within lk_St_234 im_Va_within rfl (c_Va_within (a + 61) X (Y.1 + 1) 2147483647 hX.b (by omega) (by omega) (by omega) (by omega) Q19.vnx) Q19.vnx rfl rfl ⟨(Nat.le_of_ble_eq_true rfl), (Nat.le_of_ble_eq_true rfl)⟩ (Nat.le_of_ble_eq_true rfl) ⟨(Nat.le_of_ble_eq_true rfl), (Nat.le_of_ble_eq_true rfl)⟩ (fun r246 n246 h246 e246 => ?_)
      obtain ⟨rfl, rfl, rfl⟩ := e246
      have Q246 := Q19.pnx (sV (wS (withinS X (Y.1 + 1) 2147483647)))
      refine gi_aload_n (q := 250) (i := 0) C (dm_St_narrow 95 rfl) rfl rfl rfl ?_
      refine gi_get (q := 253) C (dm_St_narrow 96 rfl) rfl fl_St_49 (by first | exact Q302.ob | exact Q302.vx | exact Q302.vy | exact Q302.vnx | exact Q302.vny | exact Q285.ob | exact Q285.vx | exact Q285.vy | exact Q285.vnx | exact Q285.vny | exact Q265.ob | exact Q265.vx | exact Q265.vy | exact Q265.vnx | exact Q265.vny | exact Q246.ob | exact Q246.vx | exact Q246.vy | exact Q246.vnx | exact Q246.vny | exact Q224.ob | exact Q224.vx | exact Q224.vy | exact Q224.vnx | exact Q224.vny | exact Q207.ob | exact Q207.vx | exact Q207.vy | exact Q207.vnx | exact Q207.vny | exact Q187.ob | exact Q187.vx | exact Q187.vy | exact Q187.vnx | exact Q187.vny | exact Q168.ob | exact Q168.vx | exact Q168.vy | exact Q168.vnx | exact Q168.vny | exact Q146.ob | exact Q146.vx | exact Q146.vy | exact Q146.vnx | exact Q146.vny | exact Q122.ob | exact Q122.vx | exact Q122.vy | exact Q122.vnx | exact Q122.vny | exact Q95.ob | exact Q95.vx | exact Q95.vy | exact Q95.vnx | exact Q95.vny | exact Q74.ob | exact Q74.vx | exact Q74.vy | exact Q74.vnx | exact Q74.vny | exact Q19.ob | exact Q19.vx | exact Q19.vy | exact Q19.vnx | exact Q19.vny | exact Q8.ob | exact Q8.vx | exact Q8.vy | exact Q8.vnx | exact Q8.vny | exact Q.ob | exact Q.vx | exact Q.vy | exact Q.vnx | exact Q.vny) rfl ?_
      refine gi_ldc2 (q := 256) C (dm_St_narrow 97 rfl) rfl kc_St_241 ?_
      refine gi_aload_n (q := 257) (i := 0) C (dm_St_narrow 98 rfl) rfl rfl rfl ?_
      refine gi_get (q := 260) C (dm_St_narrow 99 rfl) rfl fl_St_39 (by first | exact Q302.ob | exact Q302.vx | exact Q302.vy | exact Q302.vnx | exact Q302.vny | exact Q285.ob | exact Q285.vx | exact Q285.vy | exact Q285.vnx | exact Q285.vny | exact Q265.ob | exact Q265.vx | exact Q265.vy | exact Q265.vnx | exact Q265.vny | exact Q246.ob | exact Q246.vx | exact Q246.vy | exact Q246.vnx | exact Q246.vny | exact Q224.ob | exact Q224.vx | exact Q224.vy | exact Q224.vnx | exact Q224.vny | exact Q207.ob | exact Q207.vx | exact Q207.vy | exact Q207.vnx | exact Q207.vny | exact Q187.ob | exact Q187.vx | exact Q187.vy | exact Q187.vnx | exact Q187.vny | exact Q168.ob | exact Q168.vx | exact Q168.vy | exact Q168.vnx | exact Q168.vny | exact Q146.ob | exact Q146.vx | exact Q146.vy | exact Q146.vnx | exact Q146.vny | exact Q122.ob | exact Q122.vx | exact Q122.vy | exact Q122.vnx | exact Q122.vny | exact Q95.ob | exact Q95.vx | exact Q95.vy | exact Q95.vnx | exact Q95.vny | exact Q74.ob | exact Q74.vx | exact Q74.vy | exact Q74.vnx | exact Q74.vny | exact Q19.ob | exact Q19.vx | exact Q19.vy | exact Q19.vnx | exact Q19.vny | exact Q8.ob | exact Q8.vx | exact Q8.vy | exact Q8.vnx | exact Q8.vny | exact Q.ob | exact Q.vx | exact Q.vy | exact Q.vnx | exact Q.vny) rfl ?_
      refine gi_get (q := 263) C (dm_St_narrow 100 rfl) rfl fl_St_231 (by first | exact Q302.ob | exact Q302.vx | exact Q302.vy | exact Q302.vnx | exact Q302.vny | exact Q285.ob | exact Q285.vx | exact Q285.vy | exact Q285.vnx | exact Q285.vny | exact Q265.ob | exact Q265.vx | exact Q265.vy | exact Q265.vnx | exact Q265.vny | exact Q246.ob | exact Q246.vx | exact Q246.vy | exact Q246.vnx | exact Q246.vny | exact Q224.ob | exact Q224.vx | exact Q224.vy | exact Q224.vnx | exact Q224.vny | exact Q207.ob | exact Q207.vx | exact Q207.vy | exact Q207.vnx | exact Q207.vny | exact Q187.ob | exact Q187.vx | exact Q187.vy | exact Q187.vnx | exact Q187.vny | exact Q168.ob | exact Q168.vx | exact Q168.vy | exact Q168.vnx | exact Q168.vny | exact Q146.ob | exact Q146.vx | exact Q146.vy | exact Q146.vnx | exact Q146.vny | exact Q122.ob | exact Q122.vx | exact Q122.vy | exact Q122.vnx | exact Q122.vny | exact Q95.ob | exact Q95.vx | exact Q95.vy | exact Q95.vnx | exact Q95.vny | exact Q74.ob | exact Q74.vx | exact Q74.vy | exact Q74.vnx | exact Q74.vny | exact Q19.ob | exact Q19.vx | exact Q19.vy | exact Q19.vnx | exact Q19.vny | exact Q8.ob | exact Q8.vx | exact Q8.vy | exact Q8.vnx | exact Q8.vny | exact Q.ob | exact Q.vx | exact Q.vy | exact Q.vnx | exact Q.vny) rfl ?_
      refine gi_lconst (q := 264) (v := 1) C (dm_St_narrow 101 rfl) rfl (by decide) ?_
      refine gi_lsub (q := 265) C (dm_St_narrow 102 rfl) rfl ?_
      rw [eL_LO, eL_1, eL_sub]
      refine gi_callv 2 (q := 268) C (dm_St_narrow 103 rfl) rfl my_Va_within lk_St_234 im_Va_within rfl (c_Va_within (a + 62) Y (-2147483648) (X.2.1 - 1) hY.b (by omega) (by omega) (by omega) (by omega) Q246.vny) Q246.vny rfl rfl ⟨(Nat.le_of_ble_eq_true rfl), (Nat.le_of_ble_eq_true rfl)⟩ (Nat.le_of_ble_eq_true rfl) ⟨(Nat.le_of_ble_eq_true rfl), (Nat.le_of_ble_eq_true rfl)⟩ (fun r265 n265 h265 e265 => ?_)
      obtain ⟨rfl, rfl, rfl⟩ := e265
      have Q265 := Q246.pny (sV (wS (withinS Y (-2147483648) (X.2.1 - 1))))
      refine gi_goto (tgt := 305) C (dm_St_narrow 104 rfl) (by decide) ?_
      refine gi_vret C hr (dm_St_narrow 119 rfl) ?_
      first
        | (have ho : o = 20 := (nI_eq (b := 20) (by omega) (by omega)).mp c23
           subst ho
           exact ⟨rfl, rfl, Q95⟩)
        | (have ho : o = 22 := (nI_eq (b := 22) (by omega) (by omega)).mp c23
           subst ho
           exact ⟨rfl, rfl, Q187⟩)
        | (have ho : o = 23 := (nI_eq (b := 23) (by omega) (by omega)).mp c23
           subst ho
           exact ⟨rfl, rfl, Q224⟩)
        | (have ho : o = 24 := (nI_eq (b := 24) (by omega) (by omega)).mp c23
           subst ho
           exact ⟨rfl, rfl, Q265⟩)
        | (have ho : o = 21 := (nI_eq (b := 21) (by omega) (by omega)).mp c23
           subst ho
           rw [show narX 21 X Y = loseS X Y.1 by show (if Y.1 = Y.2.1 then loseS X Y.1 else some X) = _; rw [if_pos sy], show narY 21 X Y = loseS Y X.1 by show (if X.1 = X.2.1 then loseS Y X.1 else some Y) = _; rw [if_pos sx]]
           exact ⟨rfl, rfl, Q122.pny (sV (wS (loseS Y X.1)))⟩)
        | (have ho : o = 21 := (nI_eq (b := 21) (by omega) (by omega)).mp c23
           subst ho
           rw [show narX 21 X Y = loseS X Y.1 by show (if Y.1 = Y.2.1 then loseS X Y.1 else some X) = _; rw [if_pos sy], show narY 21 X Y = some Y by show (if X.1 = X.2.1 then loseS Y X.1 else some Y) = _; rw [if_neg (sgF (by omega) (by omega) (by omega) (by omega) c132)]]
           exact ⟨rfl, rfl, Q122⟩)
        | (have ho : o = 21 := (nI_eq (b := 21) (by omega) (by omega)).mp c23
           subst ho
           rw [show narX 21 X Y = some X by show (if Y.1 = Y.2.1 then loseS X Y.1 else some X) = _; rw [if_neg (sgF (by omega) (by omega) (by omega) (by omega) c108)], show narY 21 X Y = loseS Y X.1 by show (if X.1 = X.2.1 then loseS Y X.1 else some Y) = _; rw [if_pos sx]]
           exact ⟨rfl, rfl, Q19.pny (sV (wS (loseS Y X.1)))⟩)
        | (have ho : o = 21 := (nI_eq (b := 21) (by omega) (by omega)).mp c23
           subst ho
           rw [show narX 21 X Y = some X by show (if Y.1 = Y.2.1 then loseS X Y.1 else some X) = _; rw [if_neg (sgF (by omega) (by omega) (by omega) (by omega) c108)], show narY 21 X Y = some Y by show (if X.1 = X.2.1 then loseS Y X.1 else some Y) = _; rw [if_neg (sgF (by omega) (by omega) (by omega) (by omega) c132)]]
           exact ⟨rfl, rfl, Q19⟩)
        | (have ho : o = 25 := by
             rw [nI_toInt (by omega)] at c23
             omega
           subst ho
           exact ⟨rfl, rfl, Q302⟩)
theorem no_W {o : Option Sp} (h : ∀ z, o = some z → okS z) : (bI (if (sV (wS o)).1 = 0 then decide ((sV (wS o)).2.2.1 < (sV (wS o)).2.1) else decide ((sV (wS o)).2.2.2.2.1 = 0) && decide ((sV (wS o)).2.2.2.2.2 = 0)) = 0) ↔ o ≠ none := by
  cases o with
  | none =>
    refine ⟨fun e => absurd e (by decide), fun e => absurd rfl e⟩
  | some z =>
    obtain ⟨h1, h2, h3, -⟩ := h z rfl
    refine ⟨fun _ => by simp, fun _ => ?_⟩
    exact (no_iff (s := eL 0) (show -9223372036854775808 ≤ z.1 by omega) (by omega) (show -9223372036854775808 ≤ z.2.1 by omega) (by omega)).mpr (by omega)
def opF (n : Nat) (f : Nat → Sl) (u v : Option Sp) (mx my : Int32) : Option (Nat → Sl) :=
  match u, v with
  | some u, some v => if mx ≠ -1 ∧ mx = my then (match withinS u v.1 v.2.1 with
      | some z => some (tellF n f mx (.inl z))
      | none => none) else some (tellF n (tellF n f mx (.inl u)) my (.inl v))
  | _, _ => none
theorem opF_eq {op n : Nat} {f : Nat → Sl} {x y : Sp} {mx my : Int32} : opensF op n f x y mx my = opF n f (narX op x y) (narY op x y) mx my := rfl
set_option maxHeartbeats 4000000 in
set_option maxRecDepth 100000 in
theorem c_St_opens (u v : Option Sp) (mx my : Int32) (hu : ∀ z, u = some z → okS z) (hv : ∀ z, v = some z → okS z) (Q : stO a pr bu fr to h0 S x y (sV (wS u)) (sV (wS v)) ar ou be ab Wk Wy En Lo h) (G : isG Wk n0 f) (hn14 : n0 ≤ 14) (hmx : mx = -1 ∨ ∃ j, j < 14 ∧ mx = nI j) (hmy : my = -1 ∨ ∃ j, j < 14 ∧ my = nI j) : gi_T l V y_St_opens b_St_opens 3 (some .boolean) 3 65 0 0 [.ref a, .int mx, .int my] n h (fun r n' h' => n' = n ∧ ∃ nx' Wy', stO a pr bu fr to h0 S x y nx' (sV (wS v)) ar ou be ab Wk Wy' En Lo h' ∧ ((opF n0 f u v mx my = none ∧ r = some (.int 0)) ∨ ∃ g, opF n0 f u v mx my = some g ∧ r = some (.int 1) ∧ isG Wy' n0 g)) := by
  refine gi_enter (by decide) (Nat.le_of_ble_eq_true rfl) ?_
  intro _ _ _ _ _ _ _ _ C hr hnm
  refine gi_aload_n (q := 1) (i := 0) C (dm_St_opens 0 rfl) rfl rfl rfl ?_
  refine gi_get (q := 4) C (dm_St_opens 1 rfl) rfl fl_St_46 (by first | exact Q113.ob | exact Q101.ob | exact Q73.ob | exact Q61.ob | exact Q61.vny | exact Q30.ob | exact Q30.vny | exact Q.ob) rfl ?_
  refine gi_callv 0 (q := 7) C (dm_St_opens 2 rfl) rfl my_Va_isNothing lk_St_211 im_Va_isNothing rfl (c_Va_isNothing (a + 61) _ Q.vnx) Q.vnx rfl rfl ⟨(Nat.le_of_ble_eq_true rfl), (Nat.le_of_ble_eq_true rfl)⟩ (Nat.le_of_ble_eq_true rfl) ⟨(Nat.le_of_ble_eq_true rfl), (Nat.le_of_ble_eq_true rfl)⟩ (fun r4 n4 h4 e4 => ?_)
  obtain ⟨rfl, q4, u4⟩ := e4
  rw [q4, u4]
  refine gi_if_ne (q := 10) (tgt := 20) C (dm_St_opens 3 rfl) rfl (by decide) (fun c7 => ?_) (fun c7 => ?_)
  · 
    refine gi_iconst (q := 21) (v := 0) C (dm_St_opens 8 rfl) rfl (by decide) ?_
    refine gi_zret C hr (dm_St_opens 9 rfl) rfl ?_
    refine ⟨rfl, _, _, Q, Or.inl ⟨?_, rfl⟩⟩
    first
      | (have e := Classical.byContradiction (fun z => c7 ((no_W hu).mpr z))
         rw [e]
         rfl)
      | (have e := Classical.byContradiction (fun z => c17 ((no_W hv).mpr z))
         rw [e]
         cases u <;> rfl)
  · refine gi_aload_n (q := 11) (i := 0) C (dm_St_opens 4 rfl) rfl rfl rfl ?_
    refine gi_get (q := 14) C (dm_St_opens 5 rfl) rfl fl_St_49 (by first | exact Q113.ob | exact Q101.ob | exact Q73.ob | exact Q61.ob | exact Q61.vny | exact Q30.ob | exact Q30.vny | exact Q.ob) rfl ?_
    refine gi_callv 0 (q := 17) C (dm_St_opens 6 rfl) rfl my_Va_isNothing lk_St_211 im_Va_isNothing rfl (c_Va_isNothing (a + 62) _ Q.vny) Q.vny rfl rfl ⟨(Nat.le_of_ble_eq_true rfl), (Nat.le_of_ble_eq_true rfl)⟩ (Nat.le_of_ble_eq_true rfl) ⟨(Nat.le_of_ble_eq_true rfl), (Nat.le_of_ble_eq_true rfl)⟩ (fun r14 n14 h14 e14 => ?_)
    obtain ⟨rfl, q14, u14⟩ := e14
    rw [q14, u14]
    refine gi_if_eq (q := 20) (tgt := 22) C (dm_St_opens 7 rfl) rfl (by decide) (fun c17 => ?_) (fun c17 => ?_)
    · have nu := (no_W hu).mp c7
      have nv := (no_W hv).mp c17
      rcases eu : u with _ | u'
      · exact absurd eu nu
      rcases ev : v with _ | v'
      · exact absurd ev nv
      have ou' := hu u' eu
      have ov' := hv v' ev
      obtain ⟨a1, a2, a3, -⟩ := id ou'
      obtain ⟨b1, b2, b3, -⟩ := id ov'
      subst eu
      subst ev
      rw [wS_s, wS_s] at Q
      refine gi_aload_n (q := 23) (i := 0) C (dm_St_opens 10 rfl) rfl rfl rfl ?_
      refine gi_get (q := 26) C (dm_St_opens 11 rfl) rfl fl_St_27 (by first | exact Q113.ob | exact Q101.ob | exact Q73.ob | exact Q61.ob | exact Q61.vny | exact Q30.ob | exact Q30.vny | exact Q.ob) rfl ?_
      refine gi_aload_n (q := 27) (i := 0) C (dm_St_opens 12 rfl) rfl rfl rfl ?_
      refine gi_get (q := 30) C (dm_St_opens 13 rfl) rfl fl_St_23 (by first | exact Q113.ob | exact Q101.ob | exact Q73.ob | exact Q61.ob | exact Q61.vny | exact Q30.ob | exact Q30.vny | exact Q.ob) rfl ?_
      refine gi_callv 1 (q := 33) C (dm_St_opens 14 rfl) rfl my_Ro_copy lk_St_150 im_Ro_copy rfl (c_Ro_copy (by omega) (by omega) (by omega) hn14 hn14 Q.wy Q.wk G.1 G.wf) Q.wy.1 rfl rfl ⟨(Nat.le_of_ble_eq_true rfl), (Nat.le_of_ble_eq_true rfl)⟩ (Nat.le_of_ble_eq_true rfl) ⟨(Nat.le_of_ble_eq_true rfl), (Nat.le_of_ble_eq_true rfl)⟩ (fun r30 n30 h30 e30 => ?_)
      obtain ⟨rfl, rfl, S30, O30⟩ := e30
      have Q30 := Q.rWy S30 O30
      have G30 := rCp_G (R := Wy) G
      refine gi_iload_n (q := 34) (i := 1) C (dm_St_opens 15 rfl) rfl rfl rfl ?_
      refine gi_iconst (q := 35) (v := -1) C (dm_St_opens 16 rfl) rfl (by decide) ?_
      refine gi_icmp_eq (q := 38) (tgt := 92) C (dm_St_opens 17 rfl) rfl (by decide) (fun c35 => ?_) (fun c35 => ?_)
      · refine gi_aload_n (q := 93) (i := 0) C (dm_St_opens 44 rfl) rfl rfl rfl ?_
        refine gi_get (q := 96) C (dm_St_opens 45 rfl) rfl fl_St_27 (by first | exact Q113.ob | exact Q101.ob | exact Q73.ob | exact Q61.ob | exact Q61.vny | exact Q30.ob | exact Q30.vny | exact Q.ob) rfl ?_
        refine gi_iload_n (q := 97) (i := 1) C (dm_St_opens 46 rfl) rfl rfl rfl ?_
        refine gi_aload_n (q := 98) (i := 0) C (dm_St_opens 47 rfl) rfl rfl rfl ?_
        refine gi_get (q := 101) C (dm_St_opens 48 rfl) rfl fl_St_46 (by first | exact Q113.ob | exact Q101.ob | exact Q73.ob | exact Q61.ob | exact Q61.vny | exact Q30.ob | exact Q30.vny | exact Q.ob) rfl ?_
        refine gi_callv 2 (q := 104) C (dm_St_opens 49 rfl) rfl my_Ro_tell lk_St_214 im_Ro_tell rfl (s_tellWy (a + 61) (.inl u') mx Q30 G30 hn14 hmx (by omega) Q30.vnx) Q30.wy.1 rfl rfl ⟨(Nat.le_of_ble_eq_true rfl), (Nat.le_of_ble_eq_true rfl)⟩ (Nat.le_of_ble_eq_true rfl) ⟨(Nat.le_of_ble_eq_true rfl), (Nat.le_of_ble_eq_true rfl)⟩ (fun r101 n101 h101 e101 => ?_)
        obtain ⟨rfl, rfl, Wy2, Q101, G101⟩ := e101
        refine gi_aload_n (q := 105) (i := 0) C (dm_St_opens 50 rfl) rfl rfl rfl ?_
        refine gi_get (q := 108) C (dm_St_opens 51 rfl) rfl fl_St_27 (by first | exact Q113.ob | exact Q101.ob | exact Q73.ob | exact Q61.ob | exact Q61.vny | exact Q30.ob | exact Q30.vny | exact Q.ob) rfl ?_
        refine gi_iload_n (q := 109) (i := 2) C (dm_St_opens 52 rfl) rfl rfl rfl ?_
        refine gi_aload_n (q := 110) (i := 0) C (dm_St_opens 53 rfl) rfl rfl rfl ?_
        refine gi_get (q := 113) C (dm_St_opens 54 rfl) rfl fl_St_49 (by first | exact Q113.ob | exact Q101.ob | exact Q73.ob | exact Q61.ob | exact Q61.vny | exact Q30.ob | exact Q30.vny | exact Q.ob) rfl ?_
        refine gi_callv 2 (q := 116) C (dm_St_opens 55 rfl) rfl my_Ro_tell lk_St_214 im_Ro_tell rfl (s_tellWy (a + 62) (.inl v') my Q101 G101 hn14 hmy (by omega) Q101.vny) Q101.wy.1 rfl rfl ⟨(Nat.le_of_ble_eq_true rfl), (Nat.le_of_ble_eq_true rfl)⟩ (Nat.le_of_ble_eq_true rfl) ⟨(Nat.le_of_ble_eq_true rfl), (Nat.le_of_ble_eq_true rfl)⟩ (fun r113 n113 h113 e113 => ?_)
        obtain ⟨rfl, rfl, Wy3, Q113, G113⟩ := e113
        refine gi_iconst (q := 117) (v := 1) C (dm_St_opens 56 rfl) rfl (by decide) ?_
        refine gi_zret C hr (dm_St_opens 57 rfl) rfl ?_
        refine ⟨rfl, _, _, Q113, Or.inr ⟨_, ?_, rfl, G113⟩⟩
        show (if mx ≠ -1 ∧ mx = my then _ else _) = _
        rw [if_neg (by
          first
            | exact fun z => z.1 c35
            | exact fun z => c40 z.2)]
      · refine gi_iload_n (q := 39) (i := 1) C (dm_St_opens 18 rfl) rfl rfl rfl ?_
        refine gi_iload_n (q := 40) (i := 2) C (dm_St_opens 19 rfl) rfl rfl rfl ?_
        refine gi_icmp_ne (q := 43) (tgt := 92) C (dm_St_opens 20 rfl) rfl (by decide) (fun c40 => ?_) (fun c40 => ?_)
        · refine gi_aload_n (q := 93) (i := 0) C (dm_St_opens 44 rfl) rfl rfl rfl ?_
          refine gi_get (q := 96) C (dm_St_opens 45 rfl) rfl fl_St_27 (by first | exact Q113.ob | exact Q101.ob | exact Q73.ob | exact Q61.ob | exact Q61.vny | exact Q30.ob | exact Q30.vny | exact Q.ob) rfl ?_
          refine gi_iload_n (q := 97) (i := 1) C (dm_St_opens 46 rfl) rfl rfl rfl ?_
          refine gi_aload_n (q := 98) (i := 0) C (dm_St_opens 47 rfl) rfl rfl rfl ?_
          refine gi_get (q := 101) C (dm_St_opens 48 rfl) rfl fl_St_46 (by first | exact Q113.ob | exact Q101.ob | exact Q73.ob | exact Q61.ob | exact Q61.vny | exact Q30.ob | exact Q30.vny | exact Q.ob) rfl ?_
          refine gi_callv 2 (q := 104) C (dm_St_opens 49 rfl) rfl my_Ro_tell lk_St_214 im_Ro_tell rfl (s_tellWy (a + 61) (.inl u') mx Q30 G30 hn14 hmx (by omega) Q30.vnx) Q30.wy.1 rfl rfl ⟨(Nat.le_of_ble_eq_true rfl), (Nat.le_of_ble_eq_true rfl)⟩ (Nat.le_of_ble_eq_true rfl) ⟨(Nat.le_of_ble_eq_true rfl), (Nat.le_of_ble_eq_true rfl)⟩ (fun r101 n101 h101 e101 => ?_)
          obtain ⟨rfl, rfl, Wy2, Q101, G101⟩ := e101
          refine gi_aload_n (q := 105) (i := 0) C (dm_St_opens 50 rfl) rfl rfl rfl ?_
          refine gi_get (q := 108) C (dm_St_opens 51 rfl) rfl fl_St_27 (by first | exact Q113.ob | exact Q101.ob | exact Q73.ob | exact Q61.ob | exact Q61.vny | exact Q30.ob | exact Q30.vny | exact Q.ob) rfl ?_
          refine gi_iload_n (q := 109) (i := 2) C (dm_St_opens 52 rfl) rfl rfl rfl ?_
          refine gi_aload_n (q := 110) (i := 0) C (dm_St_opens 53 rfl) rfl rfl rfl ?_
          refine gi_get (q := 113) C (dm_St_opens 54 rfl) rfl fl_St_49 (by first | exact Q113.ob | exact Q101.ob | exact Q73.ob | exact Q61.ob | exact Q61.vny | exact Q30.ob | exact Q30.vny | exact Q.ob) rfl ?_
          refine gi_callv 2 (q := 116) C (dm_St_opens 55 rfl) rfl my_Ro_tell lk_St_214 im_Ro_tell rfl (s_tellWy (a + 62) (.inl v') my Q101 G101 hn14 hmy (by omega) Q101.vny) Q101.wy.1 rfl rfl ⟨(Nat.le_of_ble_eq_true rfl), (Nat.le_of_ble_eq_true rfl)⟩ (Nat.le_of_ble_eq_true rfl) ⟨(Nat.le_of_ble_eq_true rfl), (Nat.le_of_ble_eq_true rfl)⟩ (fun r113 n113 h113 e113 => ?_)
          obtain ⟨rfl, rfl, Wy3, Q113, G113⟩ := e113
          refine gi_iconst (q := 117) (v := 1) C (dm_St_opens 56 rfl) rfl (by decide) ?_
          refine gi_zret C hr (dm_St_opens 57 rfl) rfl ?_
          refine ⟨rfl, _, _, Q113, Or.inr ⟨_, ?_, rfl, G113⟩⟩
          show (if mx ≠ -1 ∧ mx = my then _ else _) = _
          rw [if_neg (by
            first
              | exact fun z => z.1 c35
              | exact fun z => c40 z.2)]
        · refine gi_aload_n (q := 44) (i := 0) C (dm_St_opens 21 rfl) rfl rfl rfl ?_
          refine gi_get (q := 47) C (dm_St_opens 22 rfl) rfl fl_St_46 (by first | exact Q113.ob | exact Q101.ob | exact Q73.ob | exact Q61.ob | exact Q61.vny | exact Q30.ob | exact Q30.vny | exact Q.ob) rfl ?_
          refine gi_aload_n (q := 48) (i := 0) C (dm_St_opens 23 rfl) rfl rfl rfl ?_
          refine gi_get (q := 51) C (dm_St_opens 24 rfl) rfl fl_St_49 (by first | exact Q113.ob | exact Q101.ob | exact Q73.ob | exact Q61.ob | exact Q61.vny | exact Q30.ob | exact Q30.vny | exact Q.ob) rfl ?_
          refine gi_get (q := 54) C (dm_St_opens 25 rfl) rfl fl_St_227 (by first | exact Q113.ob | exact Q101.ob | exact Q73.ob | exact Q61.ob | exact Q61.vny | exact Q30.ob | exact Q30.vny | exact Q.ob) rfl ?_
          refine gi_aload_n (q := 55) (i := 0) C (dm_St_opens 26 rfl) rfl rfl rfl ?_
          refine gi_get (q := 58) C (dm_St_opens 27 rfl) rfl fl_St_49 (by first | exact Q113.ob | exact Q101.ob | exact Q73.ob | exact Q61.ob | exact Q61.vny | exact Q30.ob | exact Q30.vny | exact Q.ob) rfl ?_
          refine gi_get (q := 61) C (dm_St_opens 28 rfl) rfl fl_St_231 (by first | exact Q113.ob | exact Q101.ob | exact Q73.ob | exact Q61.ob | exact Q61.vny | exact Q30.ob | exact Q30.vny | exact Q.ob) rfl ?_
          refine gi_callv 2 (q := 64) C (dm_St_opens 29 rfl) rfl my_Va_within lk_St_234 im_Va_within rfl (c_Va_within (a + 61) u' v'.1 v'.2.1 ou'.b (by omega) (by omega) (by omega) (by omega) Q30.vnx) Q30.vnx rfl rfl ⟨(Nat.le_of_ble_eq_true rfl), (Nat.le_of_ble_eq_true rfl)⟩ (Nat.le_of_ble_eq_true rfl) ⟨(Nat.le_of_ble_eq_true rfl), (Nat.le_of_ble_eq_true rfl)⟩ (fun r61 n61 h61 e61 => ?_)
          obtain ⟨rfl, rfl, rfl⟩ := e61
          have Q61 := Q30.pnx (sV (wS (withinS u' v'.1 v'.2.1)))
          refine gi_aload_n (q := 65) (i := 0) C (dm_St_opens 30 rfl) rfl rfl rfl ?_
          refine gi_get (q := 68) C (dm_St_opens 31 rfl) rfl fl_St_27 (by first | exact Q113.ob | exact Q101.ob | exact Q73.ob | exact Q61.ob | exact Q61.vny | exact Q30.ob | exact Q30.vny | exact Q.ob) rfl ?_
          refine gi_iload_n (q := 69) (i := 1) C (dm_St_opens 32 rfl) rfl rfl rfl ?_
          refine gi_aload_n (q := 70) (i := 0) C (dm_St_opens 33 rfl) rfl rfl rfl ?_
          refine gi_get (q := 73) C (dm_St_opens 34 rfl) rfl fl_St_46 (by first | exact Q113.ob | exact Q101.ob | exact Q73.ob | exact Q61.ob | exact Q61.vny | exact Q30.ob | exact Q30.vny | exact Q.ob) rfl ?_
          refine gi_callv 2 (q := 76) C (dm_St_opens 35 rfl) rfl my_Ro_tell lk_St_214 im_Ro_tell rfl (s_tellWy (a + 61) (.inl (wS (withinS u' v'.1 v'.2.1))) mx Q61 G30 hn14 hmx (by omega) Q61.vnx) Q61.wy.1 rfl rfl ⟨(Nat.le_of_ble_eq_true rfl), (Nat.le_of_ble_eq_true rfl)⟩ (Nat.le_of_ble_eq_true rfl) ⟨(Nat.le_of_ble_eq_true rfl), (Nat.le_of_ble_eq_true rfl)⟩ (fun r73 n73 h73 e73 => ?_)
          obtain ⟨rfl, rfl, Wy2, Q73, G73⟩ := e73
          refine gi_aload_n (q := 77) (i := 0) C (dm_St_opens 36 rfl) rfl rfl rfl ?_
          refine gi_get (q := 80) C (dm_St_opens 37 rfl) rfl fl_St_46 (by first | exact Q113.ob | exact Q101.ob | exact Q73.ob | exact Q61.ob | exact Q61.vny | exact Q30.ob | exact Q30.vny | exact Q.ob) rfl ?_
          refine gi_callv 0 (q := 83) C (dm_St_opens 38 rfl) rfl my_Va_isNothing lk_St_211 im_Va_isNothing rfl (c_Va_isNothing (a + 61) _ Q73.vnx) Q73.vnx rfl rfl ⟨(Nat.le_of_ble_eq_true rfl), (Nat.le_of_ble_eq_true rfl)⟩ (Nat.le_of_ble_eq_true rfl) ⟨(Nat.le_of_ble_eq_true rfl), (Nat.le_of_ble_eq_true rfl)⟩ (fun r80 n80 h80 e80 => ?_)
          obtain ⟨rfl, q80, u80⟩ := e80
          rw [q80, u80]
          refine gi_if_ne (q := 86) (tgt := 90) C (dm_St_opens 39 rfl) rfl (by decide) (fun c83 => ?_) (fun c83 => ?_)
          · refine gi_iconst (q := 91) (v := 0) C (dm_St_opens 42 rfl) rfl (by decide) ?_
            refine gi_zret C hr (dm_St_opens 43 rfl) rfl ?_
            refine ⟨rfl, _, _, Q73, ?_⟩
            have mq : mx ≠ -1 ∧ mx = my := ⟨c35, c40⟩
            have e : opF n0 f (some u') (some v') mx my = (match withinS u' v'.1 v'.2.1 with
                  | some z => some (tellF n0 f mx (.inl z))
                  | none => none) := by
              show (if mx ≠ -1 ∧ mx = my then _ else _) = _
              rw [if_pos mq]
            rw [e]
            have hw : ∀ z, withinS u' v'.1 v'.2.1 = some z → okS z := fun z ez => (within_ok ou' ez).1
            first
              | (have t := (no_W hw).mp c83
                 rcases ez : withinS u' v'.1 v'.2.1 with _ | z
                 · exact absurd ez t
                 · rw [ez] at G73
                   exact Or.inr ⟨_, rfl, rfl, G73⟩)
              | (have t := Classical.byContradiction (fun z => c83 ((no_W hw).mpr z))
                 rw [t]
                 exact Or.inl ⟨rfl, rfl⟩)
          · refine gi_iconst (q := 87) (v := 1) C (dm_St_opens 40 rfl) rfl (by decide) ?_
            refine gi_goto (tgt := 91) C (dm_St_opens 41 rfl) (by decide) ?_
            refine gi_zret C hr (dm_St_opens 43 rfl) rfl ?_
            refine ⟨rfl, _, _, Q73, ?_⟩
            have mq : mx ≠ -1 ∧ mx = my := ⟨c35, c40⟩
            have e : opF n0 f (some u') (some v') mx my = (match withinS u' v'.1 v'.2.1 with
                  | some z => some (tellF n0 f mx (.inl z))
                  | none => none) := by
              show (if mx ≠ -1 ∧ mx = my then _ else _) = _
              rw [if_pos mq]
            rw [e]
            have hw : ∀ z, withinS u' v'.1 v'.2.1 = some z → okS z := fun z ez => (within_ok ou' ez).1
            first
              | (have t := (no_W hw).mp c83
                 rcases ez : withinS u' v'.1 v'.2.1 with _ | z
                 · exact absurd ez t
                 · rw [ez] at G73
                   exact Or.inr ⟨_, rfl, rfl, G73⟩)
              | (have t := Classical.byContradiction (fun z => c83 ((no_W hw).mpr z))
                 rw [t]
                 exact Or.inl ⟨rfl, rfl⟩)
    · 
      refine gi_iconst (q := 21) (v := 0) C (dm_St_opens 8 rfl) rfl (by decide) ?_
      refine gi_zret C hr (dm_St_opens 9 rfl) rfl ?_
      refine ⟨rfl, _, _, Q, Or.inl ⟨?_, rfl⟩⟩
      first
        | (have e := Classical.byContradiction (fun z => c7 ((no_W hu).mpr z))
           rw [e]
           rfl)
        | (have e := Classical.byContradiction (fun z => c17 ((no_W hv).mpr z))
           rw [e]
           cases u <;> rfl)
end ST6
