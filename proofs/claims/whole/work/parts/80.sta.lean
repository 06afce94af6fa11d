-- needs: 79
section STA
variable {l : Launch} {V : gi_V} {n : Nat} {h h' h0 : gi_H} {a pr bu fr to k m md : Nat} {P : Pm} {S : Nat → Int32} {x y nx ny ar ou be ab : mV} {Wk Wy En Lo : mR} {F : Fa} {Φ : Nat → mR} {T : Nat → Ty} {wd : Nat → Bool} {cb : Bool}
variable {f : Nat → Sl} {n0 : Nat}
def reckS (o n : Nat) (f : Nat → Sl) : Option (Nat × (Nat → Sl)) :=
  if o = 10 ∨ o = 11 then (match loseS (spA (f (n - 1)).1) 0 with
    | none => none
    | some y => some (n - 1, upF (tellF (n - 2) f (f (n - 1)).2 (.inl y)) (n - 2) (.inl (actS o (spA (f (n - 2)).1) y), -1)))
  else if o = 18 then some (n, upF f (n - 1) (.inl (actS 18 (spA (f (n - 1)).1) (0, 0, 0)), -1))
  else some (n - 1, upF f (n - 2) (.inl (actS o (spA (f (n - 2)).1) (spA (f (n - 1)).1)), -1))
set_option maxHeartbeats 4000000 in
set_option maxRecDepth 100000 in
theorem c_St_reckon_o (o : Nat) (X Y : Sp) (Q : stO a pr bu fr to h0 S x y nx ny ar ou be ab Wk Wy En Lo h) (G : isG Wk n0 f) (o7 : 7 ≤ o) (o17 : o ≤ 17) (o10 : ¬ o = 10) (o11 : ¬ o = 11) (g2 : 2 ≤ n0) (g14 : n0 ≤ 14) (eX : (f (n0 - 2)).1 = .inl X) (eY : (f (n0 - 1)).1 = .inl Y) (hX : okS X) (hY : okS Y) : gi_T l V y_St_reckon b_St_reckon 3 (some .boolean) 4 120 0 0 [.ref a, .int (nI o)] n h (fun r n' h' => n' = n ∧ ∃ x' y' ou' be' ab' Wk', stO a pr bu fr to h0 S x' y' nx ny ar ou' be' ab' Wk' Wy En Lo h' ∧ ((reckS o n0 f = none ∧ r = some (.int 0)) ∨ ∃ m g, reckS o n0 f = some (m, g) ∧ r = some (.int 1) ∧ isG Wk' m g)) := by
  refine gi_enter (by decide) (Nat.le_of_ble_eq_true rfl) ?_
  intro _ _ _ _ _ _ _ _ C hr hnm
  refine gi_aload_n (q := 1) (i := 0) C (dm_St_reckon 0 rfl) rfl rfl rfl ?_
  refine gi_get (q := 4) C (dm_St_reckon 1 rfl) rfl fl_St_43 (by first | exact Q108.ob | exact Q101.ob | exact Q81.ob | exact Q57.ob | exact Q36.ob | exact Q24.ob | exact Q5.ob | exact Q.ob) rfl ?_
  refine gi_lconst (q := 5) (v := 0) C (dm_St_reckon 2 rfl) rfl (by decide) ?_
  rw [eL_0]
  refine gi_callv 1 (q := 8) C (dm_St_reckon 3 rfl) rfl my_Va_beSingle lk_St_117 im_Va_beSingle rfl (c_Va_beSingle (a + 60) _ 0 Q.vy) Q.vy rfl rfl ⟨(Nat.le_of_ble_eq_true rfl), (Nat.le_of_ble_eq_true rfl)⟩ (Nat.le_of_ble_eq_true rfl) ⟨(Nat.le_of_ble_eq_true rfl), (Nat.le_of_ble_eq_true rfl)⟩ (fun r5 n5 h5 e5 => ?_)
  obtain ⟨rfl, rfl, rfl⟩ := e5
  have Q5 := Q.py (sV (0, 0, 0))
  refine gi_iconst (q := 9) (v := -1) C (dm_St_reckon 4 rfl) rfl (by decide) ?_
  refine gi_istore_n (q := 10) (i := 2) C (dm_St_reckon 5 rfl) rfl rfl (Nat.le_of_ble_eq_true rfl) ?_
  refine gi_iload_n (q := 11) (i := 1) C (dm_St_reckon 6 rfl) rfl rfl rfl ?_
  refine gi_bipush (q := 13) (v := 18) C (dm_St_reckon 7 rfl) rfl (by decide) ?_
  refine gi_icmp_eq (q := 16) (tgt := 28) C (dm_St_reckon 8 rfl) rfl (by decide) (fun c13 => ?_) (fun c13 => ?_)
  · exfalso
    have := (nI_eq (b := 18) (by omega) (by omega)).mp c13
    omega
  · refine gi_aload_n (q := 17) (i := 0) C (dm_St_reckon 9 rfl) rfl rfl rfl ?_
    refine gi_get (q := 20) C (dm_St_reckon 10 rfl) rfl fl_St_23 (by first | exact Q108.ob | exact Q101.ob | exact Q81.ob | exact Q57.ob | exact Q36.ob | exact Q24.ob | exact Q5.ob | exact Q.ob) rfl ?_
    refine gi_aload_n (q := 21) (i := 0) C (dm_St_reckon 11 rfl) rfl rfl rfl ?_
    refine gi_get (q := 24) C (dm_St_reckon 12 rfl) rfl fl_St_43 (by first | exact Q108.ob | exact Q101.ob | exact Q81.ob | exact Q57.ob | exact Q36.ob | exact Q24.ob | exact Q5.ob | exact Q.ob) rfl ?_
    refine gi_callv 1 (q := 27) C (dm_St_reckon 13 rfl) rfl my_Ro_pop lk_St_198 im_Ro_pop rfl (s_popy Q5 G (by omega) (by omega)) Q5.wk.1 rfl rfl ⟨(Nat.le_of_ble_eq_true rfl), (Nat.le_of_ble_eq_true rfl)⟩ (Nat.le_of_ble_eq_true rfl) ⟨(Nat.le_of_ble_eq_true rfl), (Nat.le_of_ble_eq_true rfl)⟩ (fun r24 n24 h24 e24 => ?_)
    obtain ⟨rfl, rfl, wk24, Q24, G24⟩ := e24
    refine gi_istore_n (q := 28) (i := 2) C (dm_St_reckon 14 rfl) rfl rfl (Nat.le_of_ble_eq_true rfl) ?_
    refine gi_aload_n (q := 29) (i := 0) C (dm_St_reckon 15 rfl) rfl rfl rfl ?_
    refine gi_get (q := 32) C (dm_St_reckon 16 rfl) rfl fl_St_23 (by first | exact Q108.ob | exact Q101.ob | exact Q81.ob | exact Q57.ob | exact Q36.ob | exact Q24.ob | exact Q5.ob | exact Q.ob) rfl ?_
    refine gi_aload_n (q := 33) (i := 0) C (dm_St_reckon 17 rfl) rfl rfl rfl ?_
    refine gi_get (q := 36) C (dm_St_reckon 18 rfl) rfl fl_St_39 (by first | exact Q108.ob | exact Q101.ob | exact Q81.ob | exact Q57.ob | exact Q36.ob | exact Q24.ob | exact Q5.ob | exact Q.ob) rfl ?_
    refine gi_callv 1 (q := 39) C (dm_St_reckon 19 rfl) rfl my_Ro_pop lk_St_198 im_Ro_pop rfl (s_popx Q24 G24 (by omega) (by omega)) Q24.wk.1 rfl rfl ⟨(Nat.le_of_ble_eq_true rfl), (Nat.le_of_ble_eq_true rfl)⟩ (Nat.le_of_ble_eq_true rfl) ⟨(Nat.le_of_ble_eq_true rfl), (Nat.le_of_ble_eq_true rfl)⟩ (fun r36 n36 h36 e36 => ?_)
    obtain ⟨rfl, rfl, wk36, Q36, G36⟩ := e36
    rw [show n0 - 1 - 1 = n0 - 2 by omega] at Q36 G36
    rw [eX, eY] at Q36
    refine gi_pop (q := 40) C (dm_St_reckon 20 rfl) rfl rfl ?_
    refine gi_iload_n (q := 41) (i := 1) C (dm_St_reckon 21 rfl) rfl rfl rfl ?_
    refine gi_bipush (q := 43) (v := 10) C (dm_St_reckon 22 rfl) rfl (by decide) ?_
    refine gi_icmp_eq (q := 46) (tgt := 52) C (dm_St_reckon 23 rfl) rfl (by decide) (fun c43 => ?_) (fun c43 => ?_)
    · exact absurd ((nI_eq (b := 10) (by omega) (by omega)).mp c43) o10
    · refine gi_iload_n (q := 47) (i := 1) C (dm_St_reckon 24 rfl) rfl rfl rfl ?_
      refine gi_bipush (q := 49) (v := 11) C (dm_St_reckon 25 rfl) rfl (by decide) ?_
      refine gi_icmp_ne (q := 52) (tgt := 84) C (dm_St_reckon 26 rfl) rfl (by decide) (fun c49 => ?_) (fun c49 => ?_)
      · refine gi_aload_n (q := 85) (i := 0) C (dm_St_reckon 43 rfl) rfl rfl rfl ?_
        refine gi_get (q := 88) C (dm_St_reckon 44 rfl) rfl fl_St_12 (by first | exact Q108.ob | exact Q101.ob | exact Q81.ob | exact Q57.ob | exact Q36.ob | exact Q24.ob | exact Q5.ob | exact Q.ob) rfl ?_
        refine gi_iload_n (q := 89) (i := 1) C (dm_St_reckon 45 rfl) rfl rfl rfl ?_
        refine gi_aload_n (q := 90) (i := 0) C (dm_St_reckon 46 rfl) rfl rfl rfl ?_
        refine gi_get (q := 93) C (dm_St_reckon 47 rfl) rfl fl_St_39 (by first | exact Q108.ob | exact Q101.ob | exact Q81.ob | exact Q57.ob | exact Q36.ob | exact Q24.ob | exact Q5.ob | exact Q.ob) rfl ?_
        refine gi_aload_n (q := 94) (i := 0) C (dm_St_reckon 48 rfl) rfl rfl rfl ?_
        refine gi_get (q := 97) C (dm_St_reckon 49 rfl) rfl fl_St_43 (by first | exact Q108.ob | exact Q101.ob | exact Q81.ob | exact Q57.ob | exact Q36.ob | exact Q24.ob | exact Q5.ob | exact Q.ob) rfl ?_
        refine gi_aload_n (q := 98) (i := 0) C (dm_St_reckon 50 rfl) rfl rfl rfl ?_
        refine gi_get (q := 101) C (dm_St_reckon 51 rfl) rfl fl_St_55 (by first | exact Q108.ob | exact Q101.ob | exact Q81.ob | exact Q57.ob | exact Q36.ob | exact Q24.ob | exact Q5.ob | exact Q.ob) rfl ?_
        refine gi_callv 4 (q := 104) C (dm_St_reckon 52 rfl) rfl my_Re_reckon lk_St_218 im_Re_reckon rfl (c_Re_reckon o (a + 1) (a + 59) (a + 60) (a + 64) X Y _ _ _ hX hY (by omega) (by omega) (fun z => by omega) Q36.re (by omega) (by omega) (by omega) (by omega) (by omega) (by omega) (by omega) (by omega) (by omega) (by omega) (by omega) Q36.vx Q36.vy Q36.vou) Q36.re.1 rfl rfl ⟨(Nat.le_of_ble_eq_true rfl), (Nat.le_of_ble_eq_true rfl)⟩ (Nat.le_of_ble_eq_true rfl) ⟨(Nat.le_of_ble_eq_true rfl), (Nat.le_of_ble_eq_true rfl)⟩ (fun r101 n101 h101 e101 => ?_)
        obtain ⟨rfl, rfl, rw1, rw2, rfl⟩ := e101
        have Q101 := Q36.pre rw1 rw2 (sV (actS o X Y))
        refine gi_aload_n (q := 105) (i := 0) C (dm_St_reckon 53 rfl) rfl rfl rfl ?_
        refine gi_get (q := 108) C (dm_St_reckon 54 rfl) rfl fl_St_23 (by first | exact Q108.ob | exact Q101.ob | exact Q81.ob | exact Q57.ob | exact Q36.ob | exact Q24.ob | exact Q5.ob | exact Q.ob) rfl ?_
        refine gi_callv 0 (q := 111) C (dm_St_reckon 55 rfl) rfl my_Ro_push lk_St_95 im_Ro_push rfl (s_push Q101 G36 (by omega)) Q101.wk.1 rfl rfl ⟨(Nat.le_of_ble_eq_true rfl), (Nat.le_of_ble_eq_true rfl)⟩ (Nat.le_of_ble_eq_true rfl) ⟨(Nat.le_of_ble_eq_true rfl), (Nat.le_of_ble_eq_true rfl)⟩ (fun r108 n108 h108 e108 => ?_)
        obtain ⟨rfl, qq, W1, uu, rfl, k1, k2, k3, Q108, K⟩ := e108
        have kk2 : qq < a + 21 := k2
        refine gi_aload_n (q := 112) (i := 0) C (dm_St_reckon 56 rfl) rfl rfl rfl ?_
        refine gi_get (q := 115) C (dm_St_reckon 57 rfl) rfl fl_St_55 (by first | exact Q108.ob | exact Q101.ob | exact Q81.ob | exact Q57.ob | exact Q36.ob | exact Q24.ob | exact Q5.ob | exact Q.ob) rfl ?_
        refine gi_callv 1 (q := 118) C (dm_St_reckon 58 rfl) rfl my_Va_copy lk_St_99 im_Va_copy rfl (c_Va_copy qq (a + 64) uu _ k3 Q108.vou (fun zz => by rw [zz] at k2; omega) (wf_s _)) k3 rfl rfl ⟨(Nat.le_of_ble_eq_true rfl), (Nat.le_of_ble_eq_true rfl)⟩ (Nat.le_of_ble_eq_true rfl) ⟨(Nat.le_of_ble_eq_true rfl), (Nat.le_of_ble_eq_true rfl)⟩ (fun r115 n115 h115 e115 => ?_)
        obtain ⟨rfl, rfl, rfl⟩ := e115
        refine gi_iconst (q := 119) (v := 1) C (dm_St_reckon 59 rfl) rfl (by decide) ?_
        refine gi_zret C hr (dm_St_reckon 60 rfl) rfl ?_
        refine ⟨rfl, _, _, _, _, _, _, (K (.inl (actS o X Y))).1, Or.inr ⟨_, _, ?_, rfl, (K (.inl (actS o X Y))).2⟩⟩
        unfold reckS
        rw [if_neg (by omega), if_neg (by omega), eX, eY, show n0 - 2 + 1 = n0 - 1 by omega]
        rfl
      · exact absurd ((nI_eq (b := 11) (by omega) (by omega)).mp c49) o11
set_option maxHeartbeats 4000000 in
set_option maxRecDepth 100000 in
theorem c_St_reckon_n (X : Sp) (Q : stO a pr bu fr to h0 S x y nx ny ar ou be ab Wk Wy En Lo h) (G : isG Wk n0 f) (g1 : 1 ≤ n0) (g14 : n0 ≤ 14) (eX : (f (n0 - 1)).1 = .inl X) (hX : okS X) : gi_T l V y_St_reckon b_St_reckon 3 (some .boolean) 4 120 0 0 [.ref a, .int (nI 18)] n h (fun r n' h' => n' = n ∧ ∃ x' y' ou' be' ab' Wk', stO a pr bu fr to h0 S x' y' nx ny ar ou' be' ab' Wk' Wy En Lo h' ∧ ((reckS 18 n0 f = none ∧ r = some (.int 0)) ∨ ∃ m g, reckS 18 n0 f = some (m, g) ∧ r = some (.int 1) ∧ isG Wk' m g)) := by
  refine gi_enter (by decide) (Nat.le_of_ble_eq_true rfl) ?_
  intro _ _ _ _ _ _ _ _ C hr hnm
  refine gi_aload_n (q := 1) (i := 0) C (dm_St_reckon 0 rfl) rfl rfl rfl ?_
  refine gi_get (q := 4) C (dm_St_reckon 1 rfl) rfl fl_St_43 (by first | exact Q108.ob | exact Q101.ob | exact Q81.ob | exact Q57.ob | exact Q36.ob | exact Q24.ob | exact Q5.ob | exact Q.ob) rfl ?_
  refine gi_lconst (q := 5) (v := 0) C (dm_St_reckon 2 rfl) rfl (by decide) ?_
  rw [eL_0]
  refine gi_callv 1 (q := 8) C (dm_St_reckon 3 rfl) rfl my_Va_beSingle lk_St_117 im_Va_beSingle rfl (c_Va_beSingle (a + 60) _ 0 Q.vy) Q.vy rfl rfl ⟨(Nat.le_of_ble_eq_true rfl), (Nat.le_of_ble_eq_true rfl)⟩ (Nat.le_of_ble_eq_true rfl) ⟨(Nat.le_of_ble_eq_true rfl), (Nat.le_of_ble_eq_true rfl)⟩ (fun r5 n5 h5 e5 => ?_)
  obtain ⟨rfl, rfl, rfl⟩ := e5
  have Q5 := Q.py (sV (0, 0, 0))
  refine gi_iconst (q := 9) (v := -1) C (dm_St_reckon 4 rfl) rfl (by decide) ?_
  refine gi_istore_n (q := 10) (i := 2) C (dm_St_reckon 5 rfl) rfl rfl (Nat.le_of_ble_eq_true rfl) ?_
  refine gi_iload_n (q := 11) (i := 1) C (dm_St_reckon 6 rfl) rfl rfl rfl ?_
  refine gi_bipush (q := 13) (v := 18) C (dm_St_reckon 7 rfl) rfl (by decide) ?_
  refine gi_icmp_eq (q := 16) (tgt := 28) C (dm_St_reckon 8 rfl) rfl (by decide) (fun c13 => ?_) (fun c13 => ?_)
  · refine gi_aload_n (q := 29) (i := 0) C (dm_St_reckon 15 rfl) rfl rfl rfl ?_
    refine gi_get (q := 32) C (dm_St_reckon 16 rfl) rfl fl_St_23 (by first | exact Q108.ob | exact Q101.ob | exact Q81.ob | exact Q57.ob | exact Q36.ob | exact Q24.ob | exact Q5.ob | exact Q.ob) rfl ?_
    refine gi_aload_n (q := 33) (i := 0) C (dm_St_reckon 17 rfl) rfl rfl rfl ?_
    refine gi_get (q := 36) C (dm_St_reckon 18 rfl) rfl fl_St_39 (by first | exact Q108.ob | exact Q101.ob | exact Q81.ob | exact Q57.ob | exact Q36.ob | exact Q24.ob | exact Q5.ob | exact Q.ob) rfl ?_
    refine gi_callv 1 (q := 39) C (dm_St_reckon 19 rfl) rfl my_Ro_pop lk_St_198 im_Ro_pop rfl (s_popx Q5 G (by omega) (by omega)) Q5.wk.1 rfl rfl ⟨(Nat.le_of_ble_eq_true rfl), (Nat.le_of_ble_eq_true rfl)⟩ (Nat.le_of_ble_eq_true rfl) ⟨(Nat.le_of_ble_eq_true rfl), (Nat.le_of_ble_eq_true rfl)⟩ (fun r36 n36 h36 e36 => ?_)
    obtain ⟨rfl, rfl, wk36, Q36, G36⟩ := e36
    rw [eX] at Q36
    refine gi_pop (q := 40) C (dm_St_reckon 20 rfl) rfl rfl ?_
    refine gi_iload_n (q := 41) (i := 1) C (dm_St_reckon 21 rfl) rfl rfl rfl ?_
    refine gi_bipush (q := 43) (v := 10) C (dm_St_reckon 22 rfl) rfl (by decide) ?_
    refine gi_icmp_eq (q := 46) (tgt := 52) C (dm_St_reckon 23 rfl) rfl (by decide) (fun c43 => ?_) (fun c43 => ?_)
    · exact absurd c43 (by decide)
    · refine gi_iload_n (q := 47) (i := 1) C (dm_St_reckon 24 rfl) rfl rfl rfl ?_
      refine gi_bipush (q := 49) (v := 11) C (dm_St_reckon 25 rfl) rfl (by decide) ?_
      refine gi_icmp_ne (q := 52) (tgt := 84) C (dm_St_reckon 26 rfl) rfl (by decide) (fun c49 => ?_) (fun c49 => ?_)
      · refine gi_aload_n (q := 85) (i := 0) C (dm_St_reckon 43 rfl) rfl rfl rfl ?_
        refine gi_get (q := 88) C (dm_St_reckon 44 rfl) rfl fl_St_12 (by first | exact Q108.ob | exact Q101.ob | exact Q81.ob | exact Q57.ob | exact Q36.ob | exact Q24.ob | exact Q5.ob | exact Q.ob) rfl ?_
        refine gi_iload_n (q := 89) (i := 1) C (dm_St_reckon 45 rfl) rfl rfl rfl ?_
        refine gi_aload_n (q := 90) (i := 0) C (dm_St_reckon 46 rfl) rfl rfl rfl ?_
        refine gi_get (q := 93) C (dm_St_reckon 47 rfl) rfl fl_St_39 (by first | exact Q108.ob | exact Q101.ob | exact Q81.ob | exact Q57.ob | exact Q36.ob | exact Q24.ob | exact Q5.ob | exact Q.ob) rfl ?_
        refine gi_aload_n (q := 94) (i := 0) C (dm_St_reckon 48 rfl) rfl rfl rfl ?_
        refine gi_get (q := 97) C (dm_St_reckon 49 rfl) rfl fl_St_43 (by first | exact Q108.ob | exact Q101.ob | exact Q81.ob | exact Q57.ob | exact Q36.ob | exact Q24.ob | exact Q5.ob | exact Q.ob) rfl ?_
        refine gi_aload_n (q := 98) (i := 0) C (dm_St_reckon 50 rfl) rfl rfl rfl ?_
        refine gi_get (q := 101) C (dm_St_reckon 51 rfl) rfl fl_St_55 (by first | exact Q108.ob | exact Q101.ob | exact Q81.ob | exact Q57.ob | exact Q36.ob | exact Q24.ob | exact Q5.ob | exact Q.ob) rfl ?_
        refine gi_callv 4 (q := 104) C (dm_St_reckon 52 rfl) rfl my_Re_reckon lk_St_218 im_Re_reckon rfl (c_Re_reckon 18 (a + 1) (a + 59) (a + 60) (a + 64) X (0, 0, 0) _ _ _ hX okS0 (by omega) (by omega) (fun z => by omega) Q36.re (by omega) (by omega) (by omega) (by omega) (by omega) (by omega) (by omega) (by omega) (by omega) (by omega) (by omega) Q36.vx Q36.vy Q36.vou) Q36.re.1 rfl rfl ⟨(Nat.le_of_ble_eq_true rfl), (Nat.le_of_ble_eq_true rfl)⟩ (Nat.le_of_ble_eq_true rfl) ⟨(Nat.le_of_ble_eq_true rfl), (Nat.le_of_ble_eq_true rfl)⟩ (fun r101 n101 h101 e101 => ?_)
        obtain ⟨rfl, rfl, rw1, rw2, rfl⟩ := e101
        have Q101 := Q36.pre rw1 rw2 (sV (actS 18 X (0, 0, 0)))
        refine gi_aload_n (q := 105) (i := 0) C (dm_St_reckon 53 rfl) rfl rfl rfl ?_
        refine gi_get (q := 108) C (dm_St_reckon 54 rfl) rfl fl_St_23 (by first | exact Q108.ob | exact Q101.ob | exact Q81.ob | exact Q57.ob | exact Q36.ob | exact Q24.ob | exact Q5.ob | exact Q.ob) rfl ?_
        refine gi_callv 0 (q := 111) C (dm_St_reckon 55 rfl) rfl my_Ro_push lk_St_95 im_Ro_push rfl (s_push Q101 G36 (by omega)) Q101.wk.1 rfl rfl ⟨(Nat.le_of_ble_eq_true rfl), (Nat.le_of_ble_eq_true rfl)⟩ (Nat.le_of_ble_eq_true rfl) ⟨(Nat.le_of_ble_eq_true rfl), (Nat.le_of_ble_eq_true rfl)⟩ (fun r108 n108 h108 e108 => ?_)
        obtain ⟨rfl, qq, W1, uu, rfl, k1, k2, k3, Q108, K⟩ := e108
        have kk2 : qq < a + 21 := k2
        refine gi_aload_n (q := 112) (i := 0) C (dm_St_reckon 56 rfl) rfl rfl rfl ?_
        refine gi_get (q := 115) C (dm_St_reckon 57 rfl) rfl fl_St_55 (by first | exact Q108.ob | exact Q101.ob | exact Q81.ob | exact Q57.ob | exact Q36.ob | exact Q24.ob | exact Q5.ob | exact Q.ob) rfl ?_
        refine gi_callv 1 (q := 118) C (dm_St_reckon 58 rfl) rfl my_Va_copy lk_St_99 im_Va_copy rfl (c_Va_copy qq (a + 64) uu _ k3 Q108.vou (fun zz => by rw [zz] at k2; omega) (wf_s _)) k3 rfl rfl ⟨(Nat.le_of_ble_eq_true rfl), (Nat.le_of_ble_eq_true rfl)⟩ (Nat.le_of_ble_eq_true rfl) ⟨(Nat.le_of_ble_eq_true rfl), (Nat.le_of_ble_eq_true rfl)⟩ (fun r115 n115 h115 e115 => ?_)
        obtain ⟨rfl, rfl, rfl⟩ := e115
        refine gi_iconst (q := 119) (v := 1) C (dm_St_reckon 59 rfl) rfl (by decide) ?_
        refine gi_zret C hr (dm_St_reckon 60 rfl) rfl ?_
        refine ⟨rfl, _, _, _, _, _, _, (K (.inl (actS 18 X (0, 0, 0)))).1, Or.inr ⟨_, _, ?_, rfl, (K (.inl (actS 18 X (0, 0, 0)))).2⟩⟩
        unfold reckS
        rw [if_neg (by omega), if_pos rfl, eX, show n0 - 1 + 1 = n0 by omega]
        rfl
      · exact absurd c49 (by decide)
  · exact absurd rfl c13
set_option maxHeartbeats 4000000 in
set_option maxRecDepth 100000 in
theorem c_St_reckon_d (o : Nat) (X Y : Sp) (Q : stO a pr bu fr to h0 S x y nx ny ar ou be ab Wk Wy En Lo h) (G : isG Wk n0 f) (oo : o = 10 ∨ o = 11) (g2 : 2 ≤ n0) (g14 : n0 ≤ 14) (eX : (f (n0 - 2)).1 = .inl X) (eY : (f (n0 - 1)).1 = .inl Y) (hX : okS X) (hY : okS Y) (hmk : (f (n0 - 1)).2 = -1 ∨ ∃ j, j < 14 ∧ (f (n0 - 1)).2 = nI j) : gi_T l V y_St_reckon b_St_reckon 3 (some .boolean) 4 120 0 0 [.ref a, .int (nI o)] n h (fun r n' h' => n' = n ∧ ∃ x' y' ou' be' ab' Wk', stO a pr bu fr to h0 S x' y' nx ny ar ou' be' ab' Wk' Wy En Lo h' ∧ ((reckS o n0 f = none ∧ r = some (.int 0)) ∨ ∃ m g, reckS o n0 f = some (m, g) ∧ r = some (.int 1) ∧ isG Wk' m g)) := by
  refine gi_enter (by decide) (Nat.le_of_ble_eq_true rfl) ?_
  intro _ _ _ _ _ _ _ _ C hr hnm
  refine gi_aload_n (q := 1) (i := 0) C (dm_St_reckon 0 rfl) rfl rfl rfl ?_
  refine gi_get (q := 4) C (dm_St_reckon 1 rfl) rfl fl_St_43 (by first | exact Q108.ob | exact Q101.ob | exact Q81.ob | exact Q57.ob | exact Q36.ob | exact Q24.ob | exact Q5.ob | exact Q.ob) rfl ?_
  refine gi_lconst (q := 5) (v := 0) C (dm_St_reckon 2 rfl) rfl (by decide) ?_
  rw [eL_0]
  refine gi_callv 1 (q := 8) C (dm_St_reckon 3 rfl) rfl my_Va_beSingle lk_St_117 im_Va_beSingle rfl (c_Va_beSingle (a + 60) _ 0 Q.vy) Q.vy rfl rfl ⟨(Nat.le_of_ble_eq_true rfl), (Nat.le_of_ble_eq_true rfl)⟩ (Nat.le_of_ble_eq_true rfl) ⟨(Nat.le_of_ble_eq_true rfl), (Nat.le_of_ble_eq_true rfl)⟩ (fun r5 n5 h5 e5 => ?_)
  obtain ⟨rfl, rfl, rfl⟩ := e5
  have Q5 := Q.py (sV (0, 0, 0))
  refine gi_iconst (q := 9) (v := -1) C (dm_St_reckon 4 rfl) rfl (by decide) ?_
  refine gi_istore_n (q := 10) (i := 2) C (dm_St_reckon 5 rfl) rfl rfl (Nat.le_of_ble_eq_true rfl) ?_
  refine gi_iload_n (q := 11) (i := 1) C (dm_St_reckon 6 rfl) rfl rfl rfl ?_
  refine gi_bipush (q := 13) (v := 18) C (dm_St_reckon 7 rfl) rfl (by decide) ?_
  refine gi_icmp_eq (q := 16) (tgt := 28) C (dm_St_reckon 8 rfl) rfl (by decide) (fun c13 => ?_) (fun c13 => ?_)
  · exfalso
    have := (nI_eq (b := 18) (by omega) (by omega)).mp c13
    omega
  · refine gi_aload_n (q := 17) (i := 0) C (dm_St_reckon 9 rfl) rfl rfl rfl ?_
    refine gi_get (q := 20) C (dm_St_reckon 10 rfl) rfl fl_St_23 (by first | exact Q108.ob | exact Q101.ob | exact Q81.ob | exact Q57.ob | exact Q36.ob | exact Q24.ob | exact Q5.ob | exact Q.ob) rfl ?_
    refine gi_aload_n (q := 21) (i := 0) C (dm_St_reckon 11 rfl) rfl rfl rfl ?_
    refine gi_get (q := 24) C (dm_St_reckon 12 rfl) rfl fl_St_43 (by first | exact Q108.ob | exact Q101.ob | exact Q81.ob | exact Q57.ob | exact Q36.ob | exact Q24.ob | exact Q5.ob | exact Q.ob) rfl ?_
    refine gi_callv 1 (q := 27) C (dm_St_reckon 13 rfl) rfl my_Ro_pop lk_St_198 im_Ro_pop rfl (s_popy Q5 G (by omega) (by omega)) Q5.wk.1 rfl rfl ⟨(Nat.le_of_ble_eq_true rfl), (Nat.le_of_ble_eq_true rfl)⟩ (Nat.le_of_ble_eq_true rfl) ⟨(Nat.le_of_ble_eq_true rfl), (Nat.le_of_ble_eq_true rfl)⟩ (fun r24 n24 h24 e24 => ?_)
    obtain ⟨rfl, rfl, wk24, Q24, G24⟩ := e24
    refine gi_istore_n (q := 28) (i := 2) C (dm_St_reckon 14 rfl) rfl rfl (Nat.le_of_ble_eq_true rfl) ?_
    refine gi_aload_n (q := 29) (i := 0) C (dm_St_reckon 15 rfl) rfl rfl rfl ?_
    refine gi_get (q := 32) C (dm_St_reckon 16 rfl) rfl fl_St_23 (by first | exact Q108.ob | exact Q101.ob | exact Q81.ob | exact Q57.ob | exact Q36.ob | exact Q24.ob | exact Q5.ob | exact Q.ob) rfl ?_
    refine gi_aload_n (q := 33) (i := 0) C (dm_St_reckon 17 rfl) rfl rfl rfl ?_
    refine gi_get (q := 36) C (dm_St_reckon 18 rfl) rfl fl_St_39 (by first | exact Q108.ob | exact Q101.ob | exact Q81.ob | exact Q57.ob | exact Q36.ob | exact Q24.ob | exact Q5.ob | exact Q.ob) rfl ?_
    refine gi_callv 1 (q := 39) C (dm_St_reckon 19 rfl) rfl my_Ro_pop lk_St_198 im_Ro_pop rfl (s_popx Q24 G24 (by omega) (by omega)) Q24.wk.1 rfl rfl ⟨(Nat.le_of_ble_eq_true rfl), (Nat.le_of_ble_eq_true rfl)⟩ (Nat.le_of_ble_eq_true rfl) ⟨(Nat.le_of_ble_eq_true rfl), (Nat.le_of_ble_eq_true rfl)⟩ (fun r36 n36 h36 e36 => ?_)
    obtain ⟨rfl, rfl, wk36, Q36, G36⟩ := e36
    rw [show n0 - 1 - 1 = n0 - 2 by omega] at Q36 G36
    rw [eX, eY] at Q36
    refine gi_pop (q := 40) C (dm_St_reckon 20 rfl) rfl rfl ?_
    refine gi_iload_n (q := 41) (i := 1) C (dm_St_reckon 21 rfl) rfl rfl rfl ?_
    refine gi_bipush (q := 43) (v := 10) C (dm_St_reckon 22 rfl) rfl (by decide) ?_
    refine gi_icmp_eq (q := 46) (tgt := 52) C (dm_St_reckon 23 rfl) rfl (by decide) (fun c43 => ?_) (fun c43 => ?_)
    · refine gi_aload_n (q := 53) (i := 0) C (dm_St_reckon 27 rfl) rfl rfl rfl ?_
      refine gi_get (q := 56) C (dm_St_reckon 28 rfl) rfl fl_St_43 (by first | exact Q108.ob | exact Q101.ob | exact Q81.ob | exact Q57.ob | exact Q36.ob | exact Q24.ob | exact Q5.ob | exact Q.ob) rfl ?_
      refine gi_lconst (q := 57) (v := 0) C (dm_St_reckon 29 rfl) rfl (by decide) ?_
      rw [eL_0]
      refine gi_callv 1 (q := 60) C (dm_St_reckon 30 rfl) rfl my_Va_loseAtEnds lk_St_208 im_Va_loseAtEnds rfl (c_Va_loseAtEnds (a + 60) Y 0 hY (by decide) (by decide) Q36.vy) Q36.vy rfl rfl ⟨(Nat.le_of_ble_eq_true rfl), (Nat.le_of_ble_eq_true rfl)⟩ (Nat.le_of_ble_eq_true rfl) ⟨(Nat.le_of_ble_eq_true rfl), (Nat.le_of_ble_eq_true rfl)⟩ (fun r57 n57 h57 e57 => ?_)
      obtain ⟨rfl, rfl, rfl⟩ := e57
      have Q57 := Q36.py (sV (wS (loseS Y 0)))
      refine gi_aload_n (q := 61) (i := 0) C (dm_St_reckon 31 rfl) rfl rfl rfl ?_
      refine gi_get (q := 64) C (dm_St_reckon 32 rfl) rfl fl_St_43 (by first | exact Q108.ob | exact Q101.ob | exact Q81.ob | exact Q57.ob | exact Q36.ob | exact Q24.ob | exact Q5.ob | exact Q.ob) rfl ?_
      refine gi_callv 0 (q := 67) C (dm_St_reckon 33 rfl) rfl my_Va_isNothing lk_St_211 im_Va_isNothing rfl (c_Va_isNothing (a + 60) _ Q57.vy) Q57.vy rfl rfl ⟨(Nat.le_of_ble_eq_true rfl), (Nat.le_of_ble_eq_true rfl)⟩ (Nat.le_of_ble_eq_true rfl) ⟨(Nat.le_of_ble_eq_true rfl), (Nat.le_of_ble_eq_true rfl)⟩ (fun r64 n64 h64 e64 => ?_)
      obtain ⟨rfl, q64, u64⟩ := e64
      rw [q64, u64]
      refine gi_if_eq (q := 70) (tgt := 72) C (dm_St_reckon 34 rfl) rfl (by decide) (fun c67 => ?_) (fun c67 => ?_)
      · have ny' := (no_W (fun z e => lose_ok hY e)).mp c67
        rcases ey : loseS Y 0 with _ | y'
        · exact absurd ey ny'
        rw [ey, wS_s] at Q57
        have oy := lose_ok hY ey
        refine gi_aload_n (q := 73) (i := 0) C (dm_St_reckon 37 rfl) rfl rfl rfl ?_
        refine gi_get (q := 76) C (dm_St_reckon 38 rfl) rfl fl_St_23 (by first | exact Q108.ob | exact Q101.ob | exact Q81.ob | exact Q57.ob | exact Q36.ob | exact Q24.ob | exact Q5.ob | exact Q.ob) rfl ?_
        refine gi_iload_n (q := 77) (i := 2) C (dm_St_reckon 39 rfl) rfl rfl rfl ?_
        refine gi_aload_n (q := 78) (i := 0) C (dm_St_reckon 40 rfl) rfl rfl rfl ?_
        refine gi_get (q := 81) C (dm_St_reckon 41 rfl) rfl fl_St_43 (by first | exact Q108.ob | exact Q101.ob | exact Q81.ob | exact Q57.ob | exact Q36.ob | exact Q24.ob | exact Q5.ob | exact Q.ob) rfl ?_
        refine gi_callv 2 (q := 84) C (dm_St_reckon 42 rfl) rfl my_Ro_tell lk_St_214 im_Ro_tell rfl (s_tellWk (a + 60) (.inl y') _ Q57 G36 (by omega) hmk (by omega) Q57.vy) Q57.wk.1 rfl rfl ⟨(Nat.le_of_ble_eq_true rfl), (Nat.le_of_ble_eq_true rfl)⟩ (Nat.le_of_ble_eq_true rfl) ⟨(Nat.le_of_ble_eq_true rfl), (Nat.le_of_ble_eq_true rfl)⟩ (fun r81 n81 h81 e81 => ?_)
        obtain ⟨rfl, rfl, wk81, Q81, G81⟩ := e81
        refine gi_aload_n (q := 85) (i := 0) C (dm_St_reckon 43 rfl) rfl rfl rfl ?_
        refine gi_get (q := 88) C (dm_St_reckon 44 rfl) rfl fl_St_12 (by first | exact Q108.ob | exact Q101.ob | exact Q81.ob | exact Q57.ob | exact Q36.ob | exact Q24.ob | exact Q5.ob | exact Q.ob) rfl ?_
        refine gi_iload_n (q := 89) (i := 1) C (dm_St_reckon 45 rfl) rfl rfl rfl ?_
        refine gi_aload_n (q := 90) (i := 0) C (dm_St_reckon 46 rfl) rfl rfl rfl ?_
        refine gi_get (q := 93) C (dm_St_reckon 47 rfl) rfl fl_St_39 (by first | exact Q108.ob | exact Q101.ob | exact Q81.ob | exact Q57.ob | exact Q36.ob | exact Q24.ob | exact Q5.ob | exact Q.ob) rfl ?_
        refine gi_aload_n (q := 94) (i := 0) C (dm_St_reckon 48 rfl) rfl rfl rfl ?_
        refine gi_get (q := 97) C (dm_St_reckon 49 rfl) rfl fl_St_43 (by first | exact Q108.ob | exact Q101.ob | exact Q81.ob | exact Q57.ob | exact Q36.ob | exact Q24.ob | exact Q5.ob | exact Q.ob) rfl ?_
        refine gi_aload_n (q := 98) (i := 0) C (dm_St_reckon 50 rfl) rfl rfl rfl ?_
        refine gi_get (q := 101) C (dm_St_reckon 51 rfl) rfl fl_St_55 (by first | exact Q108.ob | exact Q101.ob | exact Q81.ob | exact Q57.ob | exact Q36.ob | exact Q24.ob | exact Q5.ob | exact Q.ob) rfl ?_
        refine gi_callv 4 (q := 104) C (dm_St_reckon 52 rfl) rfl my_Re_reckon lk_St_218 im_Re_reckon rfl (c_Re_reckon o (a + 1) (a + 59) (a + 60) (a + 64) X y' _ _ _ hX oy (by omega) (by omega) (fun _ => lose_0 hY ey) Q81.re (by omega) (by omega) (by omega) (by omega) (by omega) (by omega) (by omega) (by omega) (by omega) (by omega) (by omega) Q81.vx Q81.vy Q81.vou) Q81.re.1 rfl rfl ⟨(Nat.le_of_ble_eq_true rfl), (Nat.le_of_ble_eq_true rfl)⟩ (Nat.le_of_ble_eq_true rfl) ⟨(Nat.le_of_ble_eq_true rfl), (Nat.le_of_ble_eq_true rfl)⟩ (fun r101 n101 h101 e101 => ?_)
        obtain ⟨rfl, rfl, rw1, rw2, rfl⟩ := e101
        have Q101 := Q81.pre rw1 rw2 (sV (actS o X y'))
        refine gi_aload_n (q := 105) (i := 0) C (dm_St_reckon 53 rfl) rfl rfl rfl ?_
        refine gi_get (q := 108) C (dm_St_reckon 54 rfl) rfl fl_St_23 (by first | exact Q108.ob | exact Q101.ob | exact Q81.ob | exact Q57.ob | exact Q36.ob | exact Q24.ob | exact Q5.ob | exact Q.ob) rfl ?_
        refine gi_callv 0 (q := 111) C (dm_St_reckon 55 rfl) rfl my_Ro_push lk_St_95 im_Ro_push rfl (s_push Q101 G81 (by omega)) Q101.wk.1 rfl rfl ⟨(Nat.le_of_ble_eq_true rfl), (Nat.le_of_ble_eq_true rfl)⟩ (Nat.le_of_ble_eq_true rfl) ⟨(Nat.le_of_ble_eq_true rfl), (Nat.le_of_ble_eq_true rfl)⟩ (fun r108 n108 h108 e108 => ?_)
        obtain ⟨rfl, qq, W1, uu, rfl, k1, k2, k3, Q108, K⟩ := e108
        have kk2 : qq < a + 21 := k2
        refine gi_aload_n (q := 112) (i := 0) C (dm_St_reckon 56 rfl) rfl rfl rfl ?_
        refine gi_get (q := 115) C (dm_St_reckon 57 rfl) rfl fl_St_55 (by first | exact Q108.ob | exact Q101.ob | exact Q81.ob | exact Q57.ob | exact Q36.ob | exact Q24.ob | exact Q5.ob | exact Q.ob) rfl ?_
        refine gi_callv 1 (q := 118) C (dm_St_reckon 58 rfl) rfl my_Va_copy lk_St_99 im_Va_copy rfl (c_Va_copy qq (a + 64) uu _ k3 Q108.vou (fun zz => by rw [zz] at k2; omega) (wf_s _)) k3 rfl rfl ⟨(Nat.le_of_ble_eq_true rfl), (Nat.le_of_ble_eq_true rfl)⟩ (Nat.le_of_ble_eq_true rfl) ⟨(Nat.le_of_ble_eq_true rfl), (Nat.le_of_ble_eq_true rfl)⟩ (fun r115 n115 h115 e115 => ?_)
        obtain ⟨rfl, rfl, rfl⟩ := e115
        refine gi_iconst (q := 119) (v := 1) C (dm_St_reckon 59 rfl) rfl (by decide) ?_
        refine gi_zret C hr (dm_St_reckon 60 rfl) rfl ?_
        refine ⟨rfl, _, _, _, _, _, _, (K (.inl (actS o X y'))).1, Or.inr ⟨_, _, ?_, rfl, (K (.inl (actS o X y'))).2⟩⟩
        unfold reckS
        rw [if_pos oo, eX, eY, show n0 - 2 + 1 = n0 - 1 by omega]
        show (match loseS Y 0 with | none => none | some y => _) = _
        rw [ey]
        rfl
      · refine gi_iconst (q := 71) (v := 0) C (dm_St_reckon 35 rfl) rfl (by decide) ?_
        refine gi_zret C hr (dm_St_reckon 36 rfl) rfl ?_
        refine ⟨rfl, _, _, _, _, _, _, Q57, Or.inl ⟨?_, rfl⟩⟩
        have e := Classical.byContradiction (fun z => c67 ((no_W (fun z e => lose_ok hY e)).mpr z))
        unfold reckS
        rw [if_pos oo, eY]
        show (match loseS Y 0 with | none => none | some y => _) = _
        rw [e]
    · refine gi_iload_n (q := 47) (i := 1) C (dm_St_reckon 24 rfl) rfl rfl rfl ?_
      refine gi_bipush (q := 49) (v := 11) C (dm_St_reckon 25 rfl) rfl (by decide) ?_
      refine gi_icmp_ne (q := 52) (tgt := 84) C (dm_St_reckon 26 rfl) rfl (by decide) (fun c49 => ?_) (fun c49 => ?_)
      · exfalso
        rcases oo with oo | oo
        · exact c43 (by rw [oo]; rfl)
        · exact c49 (by rw [oo]; rfl)
      · refine gi_aload_n (q := 53) (i := 0) C (dm_St_reckon 27 rfl) rfl rfl rfl ?_
        refine gi_get (q := 56) C (dm_St_reckon 28 rfl) rfl fl_St_43 (by first | exact Q108.ob | exact Q101.ob | exact Q81.ob | exact Q57.ob | exact Q36.ob | exact Q24.ob | exact Q5.ob | exact Q.ob) rfl ?_
        refine gi_lconst (q := 57) (v := 0) C (dm_St_reckon 29 rfl) rfl (by decide) ?_
        rw [eL_0]
        refine gi_callv 1 (q := 60) C (dm_St_reckon 30 rfl) rfl my_Va_loseAtEnds lk_St_208 im_Va_loseAtEnds rfl (c_Va_loseAtEnds (a + 60) Y 0 hY (by decide) (by decide) Q36.vy) Q36.vy rfl rfl ⟨(Nat.le_of_ble_eq_true rfl), (Nat.le_of_ble_eq_true rfl)⟩ (Nat.le_of_ble_eq_true rfl) ⟨(Nat.le_of_ble_eq_true rfl), (Nat.le_of_ble_eq_true rfl)⟩ (fun r57 n57 h57 e57 => ?_)
        obtain ⟨rfl, rfl, rfl⟩ := e57
        have Q57 := Q36.py (sV (wS (loseS Y 0)))
        refine gi_aload_n (q := 61) (i := 0) C (dm_St_reckon 31 rfl) rfl rfl rfl ?_
        refine gi_get (q := 64) C (dm_St_reckon 32 rfl) rfl fl_St_43 (by first | exact Q108.ob | exact Q101.ob | exact Q81.ob | exact Q57.ob | exact Q36.ob | exact Q24.ob | exact Q5.ob | exact Q.ob) rfl ?_
        refine gi_callv 0 (q := 67) C (dm_St_reckon 33 rfl) rfl my_Va_isNothing lk_St_211 im_Va_isNothing rfl (c_Va_isNothing (a + 60) _ Q57.vy) Q57.vy rfl rfl ⟨(Nat.le_of_ble_eq_true rfl), (Nat.le_of_ble_eq_true rfl)⟩ (Nat.le_of_ble_eq_true rfl) ⟨(Nat.le_of_ble_eq_true rfl), (Nat.le_of_ble_eq_true rfl)⟩ (fun r64 n64 h64 e64 => ?_)
        obtain ⟨rfl, q64, u64⟩ := e64
        rw [q64, u64]
        refine gi_if_eq (q := 70) (tgt := 72) C (dm_St_reckon 34 rfl) rfl (by decide) (fun c67 => ?_) (fun c67 => ?_)
        · have ny' := (no_W (fun z e => lose_ok hY e)).mp c67
          rcases ey : loseS Y 0 with _ | y'
          · exact absurd ey ny'
          rw [ey, wS_s] at Q57
          have oy := lose_ok hY ey
          refine gi_aload_n (q := 73) (i := 0) C (dm_St_reckon 37 rfl) rfl rfl rfl ?_
          refine gi_get (q := 76) C (dm_St_reckon 38 rfl) rfl fl_St_23 (by first | exact Q108.ob | exact Q101.ob | exact Q81.ob | exact Q57.ob | exact Q36.ob | exact Q24.ob | exact Q5.ob | exact Q.ob) rfl ?_
          refine gi_iload_n (q := 77) (i := 2) C (dm_St_reckon 39 rfl) rfl rfl rfl ?_
          refine gi_aload_n (q := 78) (i := 0) C (dm_St_reckon 40 rfl) rfl rfl rfl ?_
          refine gi_get (q := 81) C (dm_St_reckon 41 rfl) rfl fl_St_43 (by first | exact Q108.ob | exact Q101.ob | exact Q81.ob | exact Q57.ob | exact Q36.ob | exact Q24.ob | exact Q5.ob | exact Q.ob) rfl ?_
          refine gi_callv 2 (q := 84) C (dm_St_reckon 42 rfl) rfl my_Ro_tell lk_St_214 im_Ro_tell rfl (s_tellWk (a + 60) (.inl y') _ Q57 G36 (by omega) hmk (by omega) Q57.vy) Q57.wk.1 rfl rfl ⟨(Nat.le_of_ble_eq_true rfl), (Nat.le_of_ble_eq_true rfl)⟩ (Nat.le_of_ble_eq_true rfl) ⟨(Nat.le_of_ble_eq_true rfl), (Nat.le_of_ble_eq_true rfl)⟩ (fun r81 n81 h81 e81 => ?_)
          obtain ⟨rfl, rfl, wk81, Q81, G81⟩ := e81
          refine gi_aload_n (q := 85) (i := 0) C (dm_St_reckon 43 rfl) rfl rfl rfl ?_
          refine gi_get (q := 88) C (dm_St_reckon 44 rfl) rfl fl_St_12 (by first | exact Q108.ob | exact Q101.ob | exact Q81.ob | exact Q57.ob | exact Q36.ob | exact Q24.ob | exact Q5.ob | exact Q.ob) rfl ?_
          refine gi_iload_n (q := 89) (i := 1) C (dm_St_reckon 45 rfl) rfl rfl rfl ?_
          refine gi_aload_n (q := 90) (i := 0) C (dm_St_reckon 46 rfl) rfl rfl rfl ?_
          refine gi_get (q := 93) C (dm_St_reckon 47 rfl) rfl fl_St_39 (by first | exact Q108.ob | exact Q101.ob | exact Q81.ob | exact Q57.ob | exact Q36.ob | exact Q24.ob | exact Q5.ob | exact Q.ob) rfl ?_
          refine gi_aload_n (q := 94) (i := 0) C (dm_St_reckon 48 rfl) rfl rfl rfl ?_
          refine gi_get (q := 97) C (dm_St_reckon 49 rfl) rfl fl_St_43 (by first | exact Q108.ob | exact Q101.ob | exact Q81.ob | exact Q57.ob | exact Q36.ob | exact Q24.ob | exact Q5.ob | exact Q.ob) rfl ?_
          refine gi_aload_n (q := 98) (i := 0) C (dm_St_reckon 50 rfl) rfl rfl rfl ?_
          refine gi_get (q := 101) C (dm_St_reckon 51 rfl) rfl fl_St_55 (by first | exact Q108.ob | exact Q101.ob | exact Q81.ob | exact Q57.ob | exact Q36.ob | exact Q24.ob | exact Q5.ob | exact Q.ob) rfl ?_
          refine gi_callv 4 (q := 104) C (dm_St_reckon 52 rfl) rfl my_Re_reckon lk_St_218 im_Re_reckon rfl (c_Re_reckon o (a + 1) (a + 59) (a + 60) (a + 64) X y' _ _ _ hX oy (by omega) (by omega) (fun _ => lose_0 hY ey) Q81.re (by omega) (by omega) (by omega) (by omega) (by omega) (by omega) (by omega) (by omega) (by omega) (by omega) (by omega) Q81.vx Q81.vy Q81.vou) Q81.re.1 rfl rfl ⟨(Nat.le_of_ble_eq_true rfl), (Nat.le_of_ble_eq_true rfl)⟩ (Nat.le_of_ble_eq_true rfl) ⟨(Nat.le_of_ble_eq_true rfl), (Nat.le_of_ble_eq_true rfl)⟩ (fun r101 n101 h101 e101 => ?_)
          obtain ⟨rfl, rfl, rw1, rw2, rfl⟩ := e101
          have Q101 := Q81.pre rw1 rw2 (sV (actS o X y'))
          refine gi_aload_n (q := 105) (i := 0) C (dm_St_reckon 53 rfl) rfl rfl rfl ?_
          refine gi_get (q := 108) C (dm_St_reckon 54 rfl) rfl fl_St_23 (by first | exact Q108.ob | exact Q101.ob | exact Q81.ob | exact Q57.ob | exact Q36.ob | exact Q24.ob | exact Q5.ob | exact Q.ob) rfl ?_
          refine gi_callv 0 (q := 111) C (dm_St_reckon 55 rfl) rfl my_Ro_push lk_St_95 im_Ro_push rfl (s_push Q101 G81 (by omega)) Q101.wk.1 rfl rfl ⟨(Nat.le_of_ble_eq_true rfl), (Nat.le_of_ble_eq_true rfl)⟩ (Nat.le_of_ble_eq_true rfl) ⟨(Nat.le_of_ble_eq_true rfl), (Nat.le_of_ble_eq_true rfl)⟩ (fun r108 n108 h108 e108 => ?_)
          obtain ⟨rfl, qq, W1, uu, rfl, k1, k2, k3, Q108, K⟩ := e108
          have kk2 : qq < a + 21 := k2
          refine gi_aload_n (q := 112) (i := 0) C (dm_St_reckon 56 rfl) rfl rfl rfl ?_
          refine gi_get (q := 115) C (dm_St_reckon 57 rfl) rfl fl_St_55 (by first | exact Q108.ob | exact Q101.ob | exact Q81.ob | exact Q57.ob | exact Q36.ob | exact Q24.ob | exact Q5.ob | exact Q.ob) rfl ?_
          refine gi_callv 1 (q := 118) C (dm_St_reckon 58 rfl) rfl my_Va_copy lk_St_99 im_Va_copy rfl (c_Va_copy qq (a + 64) uu _ k3 Q108.vou (fun zz => by rw [zz] at k2; omega) (wf_s _)) k3 rfl rfl ⟨(Nat.le_of_ble_eq_true rfl), (Nat.le_of_ble_eq_true rfl)⟩ (Nat.le_of_ble_eq_true rfl) ⟨(Nat.le_of_ble_eq_true rfl), (Nat.le_of_ble_eq_true rfl)⟩ (fun r115 n115 h115 e115 => ?_)
          obtain ⟨rfl, rfl, rfl⟩ := e115
          refine gi_iconst (q := 119) (v := 1) C (dm_St_reckon 59 rfl) rfl (by decide) ?_
          refine gi_zret C hr (dm_St_reckon 60 rfl) rfl ?_
          refine ⟨rfl, _, _, _, _, _, _, (K (.inl (actS o X y'))).1, Or.inr ⟨_, _, ?_, rfl, (K (.inl (actS o X y'))).2⟩⟩
          unfold reckS
          rw [if_pos oo, eX, eY, show n0 - 2 + 1 = n0 - 1 by omega]
          show (match loseS Y 0 with | none => none | some y => _) = _
          rw [ey]
          rfl
        · refine gi_iconst (q := 71) (v := 0) C (dm_St_reckon 35 rfl) rfl (by decide) ?_
          refine gi_zret C hr (dm_St_reckon 36 rfl) rfl ?_
          refine ⟨rfl, _, _, _, _, _, _, Q57, Or.inl ⟨?_, rfl⟩⟩
          have e := Classical.byContradiction (fun z => c67 ((no_W (fun z e => lose_ok hY e)).mpr z))
          unfold reckS
          rw [if_pos oo, eY]
          show (match loseS Y 0 with | none => none | some y => _) = _
          rw [e]
end STA
