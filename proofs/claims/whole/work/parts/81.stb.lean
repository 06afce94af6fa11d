-- needs: 80
section STB
variable {l : Launch} {V : gi_V} {n : Nat} {h h' h0 : gi_H} {a pr bu fr to k m md : Nat} {P : Pm} {S : Nat → Int32} {x y nx ny ar ou be ab : mV} {Wk Wy En Lo : mR} {F : Fa} {Φ : Nat → mR} {T : Nat → Ty} {wd : Nat → Bool} {cb : Bool}
variable {f : Nat → Sl} {n0 i : Nat} {sn : Nat → Nat} {Ff : Fa} {Z : Fa × Bool} {hA hB : gi_H}
theorem b_len {j : Nat} (B : SB a pr bu fr to k md P sn wd T Ff Z hA hB) (d : DJ a pr bu fr to) (ho : outS a hB h) (hj : j < 25) : gi_T l V y_Fa_lengthOf b_Fa_lengthOf 2 (some (.object "AnalysisHouse$Row")) 0 0 0 0 [.ref to, .int (nI j)] n h (gi_is (some (.ref (fa_row to (480 + j)))) n h) := by
  obtain ⟨Φ, p, -⟩ := B.hto d ho
  exact c_Fa_lengthOf hj p
theorem b_elm {j : Nat} (B : SB a pr bu fr to k md P sn wd T Ff Z hA hB) (d : DJ a pr bu fr to) (ho : outS a hB h) (hj : j < 25) : gi_T l V y_Fa_elementOf b_Fa_elementOf 2 (some (.object "AnalysisHouse$Row")) 0 0 0 0 [.ref to, .int (nI j)] n h (gi_is (some (.ref (fa_row to (505 + j)))) n h) := by
  obtain ⟨Φ, p, -⟩ := B.hto d ho
  exact c_Fa_elementOf hj p
theorem b_fld {j : Nat} (B : SB a pr bu fr to k md P sn wd T Ff Z hA hB) (d : DJ a pr bu fr to) (ho : outS a hB h) (hj : j < 4) : gi_T l V y_Fa_fieldOf b_Fa_fieldOf 2 (some (.object "AnalysisHouse$Row")) 0 0 0 0 [.ref to, .int (nI j)] n h (gi_is (some (.ref (fa_row to (530 + j)))) n h) := by
  obtain ⟨Φ, p, -⟩ := B.hto d ho
  exact c_Fa_fieldOf hj p
theorem b_res {j : Nat} (B : SB a pr bu fr to k md P sn wd T Ff Z hA hB) (d : DJ a pr bu fr to) (ho : outS a hB h) (hj : j < 8) : gi_T l V y_Fa_resultOf b_Fa_resultOf 2 (some (.object "AnalysisHouse$Row")) 0 0 0 0 [.ref to, .int (nI j)] n h (gi_is (some (.ref (fa_row to (534 + j)))) n h) := by
  obtain ⟨Φ, p, -⟩ := B.hto d ho
  exact c_Fa_resultOf hj p
theorem b_come1 (q kq s t : Nat) (Rq : mR) (g : Nat → Sl) (h2 : md ≤ 2) (B : SB a pr bu fr to k md P sn wd T Ff Z hA hB) (hT : ∀ t, t < 542 → (T t).1 ≤ 14) (d : DJ a pr bu fr to) (hS : SS S md m i Z.2) (Q : stO a pr bu fr to hB S x y nx ny ar ou be ab Wk Wy En Lo h) (hq1 : a + 4 ≤ q) (hq2 : q + 3 + kq ≤ a + 65) (hk31 : kq < 2 ^ 31) (K : ro_at q kq Rq h) (hG : isG Rq s g) (hsk : s ≤ kq) (hsc : s ≤ fa_cap t) (hc : okC T (t, s, g)) (hw : wd t = true) : gi_T l V y_St_come b_St_come 4 none 3 79 0 0 [.ref a, .ref (fa_row to t), .ref q, .int 1] n h (fun v n' h' => v = none ∧ n' = n ∧ ∃ S', SS S' md m i (comeM md wd Z (t, s, g)).2 ∧ SB a pr bu fr to k md P sn wd T Ff (comeM md wd Z (t, s, g)) hA h' ∧ stO a pr bu fr to h' S' x y nx ny ar ou be ab Wk Wy En Lo h') := by
  have t0 := b_come (l := l) (V := V) (n := n) q kq s t Rq g h2 B hT d hS Q hq1 hq2 hk31 K hG hsk hsc hc
  rw [hw] at t0
  exact t0
theorem shl_1 : ∀ s, s < 25 → (1 : Int32) <<< (nI s &&& 31) = shl1 s := by decide +kernel
theorem cap_hi {t : Nat} (h : 480 ≤ t) : fa_cap t = 1 := by unfold fa_cap; rw [if_neg (by omega)]
set_option maxHeartbeats 4000000 in
set_option maxRecDepth 100000 in
theorem c_St_makeArray (Xs : Sp) (h2 : md ≤ 2) (W : wfP k P) (hm : m < k) (hT : ∀ t, t < 542 → (T t).1 ≤ 14) (d : DJ a pr bu fr to) (B : SB a pr bu fr to k md P sn wd T Ff Z hA hB) (hS : SS S md m i Z.2) (Q : stO a pr bu fr to hB S x y nx ny ar ou be ab Wk Wy En Lo h) (G : isG Wk n0 f) (hi : i < pN P 5 m) (h28 : pN P 6 (60 * m + i) = 28) (hsn : sn (60 * m + i) < 25) (hwt : ∀ t, 480 ≤ t → wd t = true) (g1 : 1 ≤ n0) (g14 : n0 ≤ 14) (eX : (f (n0 - 1)).1 = .inl Xs) (hX : okS Xs) (hmk : (f (n0 - 1)).2 = -1 ∨ ∃ j, j < 14 ∧ (f (n0 - 1)).2 = nI j) (hc1 : ∀ x', withinS Xs 0 2147483647 = some x' → okC T (480 + sn (60 * m + i), 1, one (.inl x')) ∧ okC T (505 + sn (60 * m + i), 1, one (.inl (0, 0, 0)))) : gi_T l V y_St_makeArray b_St_makeArray 3 (some .boolean) 4 102 0 0 [.ref a] n h (fun r n' h' => n' = n ∧ ((withinS Xs 0 2147483647 = none ∧ r = some (.int 0) ∧ ∃ x' Wk', stO a pr bu fr to hB S x' y nx ny ar ou be ab Wk' Wy En Lo h') ∨ ∃ x', withinS Xs 0 2147483647 = some x' ∧ r = some (.int 1) ∧ ∃ hC S' ou' Wk' Lo' x'', SS S' md m i ((comeM md wd (comeM md wd Z (480 + sn (60 * m + i), 1, one (.inl x'))) (505 + sn (60 * m + i), 1, one (.inl (0, 0, 0))))).2 ∧ SB a pr bu fr to k md P sn wd T Ff (comeM md wd (comeM md wd Z (480 + sn (60 * m + i), 1, one (.inl x'))) (505 + sn (60 * m + i), 1, one (.inl (0, 0, 0)))) hA hC ∧ stO a pr bu fr to hC S' x'' y nx ny ar ou' be ab Wk' Wy En Lo' h' ∧ isG Wk' n0 (upF (tellF (n0 - 1) f (f (n0 - 1)).2 (.inl x')) (n0 - 1) (.inr (shl1 (sn (60 * m + i)), false), -1)))) := by
  refine gi_enter (by decide) (Nat.le_of_ble_eq_true rfl) ?_
  intro _ _ _ _ _ _ _ _ C hr hnm
  have w8 := W.k8
  have wm := wf_ar W hm
  refine gi_aload_n (q := 1) (i := 0) C (dm_St_makeArray 0 rfl) rfl rfl rfl ?_
  refine gi_get (q := 4) C (dm_St_makeArray 1 rfl) rfl fl_St_23 (by first | exact Q117.ob | exact Q110.ob | exact Q98.ob | exact Q94.ob | exact Q77.ob | exact Q73.ob | exact Q56.ob | exact Q47.ob | exact Q20.ob | exact Q8.ob | exact Q.ob) rfl ?_
  refine gi_aload_n (q := 5) (i := 0) C (dm_St_makeArray 2 rfl) rfl rfl rfl ?_
  refine gi_get (q := 8) C (dm_St_makeArray 3 rfl) rfl fl_St_39 (by first | exact Q117.ob | exact Q110.ob | exact Q98.ob | exact Q94.ob | exact Q77.ob | exact Q73.ob | exact Q56.ob | exact Q47.ob | exact Q20.ob | exact Q8.ob | exact Q.ob) rfl ?_
  refine gi_callv 1 (q := 11) C (dm_St_makeArray 4 rfl) rfl my_Ro_pop lk_St_198 im_Ro_pop rfl (s_popx Q G (by omega) (by omega)) Q.wk.1 rfl rfl ⟨(Nat.le_of_ble_eq_true rfl), (Nat.le_of_ble_eq_true rfl)⟩ (Nat.le_of_ble_eq_true rfl) ⟨(Nat.le_of_ble_eq_true rfl), (Nat.le_of_ble_eq_true rfl)⟩ (fun r8 n8 h8 e8 => ?_)
  obtain ⟨rfl, rfl, wk8, Q8, G8⟩ := e8
  rw [eX] at Q8
  refine gi_istore_n (q := 12) (i := 1) C (dm_St_makeArray 5 rfl) rfl rfl (Nat.le_of_ble_eq_true rfl) ?_
  refine gi_aload_n (q := 13) (i := 0) C (dm_St_makeArray 6 rfl) rfl rfl rfl ?_
  refine gi_get (q := 16) C (dm_St_makeArray 7 rfl) rfl fl_St_39 (by first | exact Q117.ob | exact Q110.ob | exact Q98.ob | exact Q94.ob | exact Q77.ob | exact Q73.ob | exact Q56.ob | exact Q47.ob | exact Q20.ob | exact Q8.ob | exact Q.ob) rfl ?_
  refine gi_lconst (q := 17) (v := 0) C (dm_St_makeArray 8 rfl) rfl (by decide) ?_
  refine gi_ldc2 (q := 20) C (dm_St_makeArray 9 rfl) rfl kc_St_243 ?_
  rw [eL_0, eL_HI]
  refine gi_callv 2 (q := 23) C (dm_St_makeArray 10 rfl) rfl my_Va_within lk_St_234 im_Va_within rfl (c_Va_within (a + 59) Xs 0 2147483647 hX.b (by decide) (by decide) (by decide) (by decide) Q8.vx) Q8.vx rfl rfl ⟨(Nat.le_of_ble_eq_true rfl), (Nat.le_of_ble_eq_true rfl)⟩ (Nat.le_of_ble_eq_true rfl) ⟨(Nat.le_of_ble_eq_true rfl), (Nat.le_of_ble_eq_true rfl)⟩ (fun r20 n20 h20 e20 => ?_)
  obtain ⟨rfl, rfl, rfl⟩ := e20
  have Q20 := Q8.px (sV (wS (withinS Xs 0 2147483647)))
  refine gi_aload_n (q := 24) (i := 0) C (dm_St_makeArray 11 rfl) rfl rfl rfl ?_
  refine gi_get (q := 27) C (dm_St_makeArray 12 rfl) rfl fl_St_39 (by first | exact Q117.ob | exact Q110.ob | exact Q98.ob | exact Q94.ob | exact Q77.ob | exact Q73.ob | exact Q56.ob | exact Q47.ob | exact Q20.ob | exact Q8.ob | exact Q.ob) rfl ?_
  refine gi_callv 0 (q := 30) C (dm_St_makeArray 13 rfl) rfl my_Va_isNothing lk_St_211 im_Va_isNothing rfl (c_Va_isNothing (a + 59) _ Q20.vx) Q20.vx rfl rfl ⟨(Nat.le_of_ble_eq_true rfl), (Nat.le_of_ble_eq_true rfl)⟩ (Nat.le_of_ble_eq_true rfl) ⟨(Nat.le_of_ble_eq_true rfl), (Nat.le_of_ble_eq_true rfl)⟩ (fun r27 n27 h27 e27 => ?_)
  obtain ⟨rfl, q27, u27⟩ := e27
  rw [q27, u27]
  refine gi_if_eq (q := 33) (tgt := 35) C (dm_St_makeArray 14 rfl) rfl (by decide) (fun c30 => ?_) (fun c30 => ?_)
  · have nx' := (no_W (fun z e => (within_ok hX e).1)).mp c30
    rcases ex : withinS Xs 0 2147483647 with _ | x'
    · exact absurd ex nx'
    rw [ex, wS_s] at Q20
    have okx := hc1 x' ex
    obtain ⟨fw, ow⟩ := B.ob2 d Q20.2
    refine gi_aload_n (q := 36) (i := 0) C (dm_St_makeArray 17 rfl) rfl rfl rfl ?_
    refine gi_get (q := 39) C (dm_St_makeArray 18 rfl) rfl fl_St_62 (by first | exact Q117.ob | exact Q110.ob | exact Q98.ob | exact Q94.ob | exact Q77.ob | exact Q73.ob | exact Q56.ob | exact Q47.ob | exact Q20.ob | exact Q8.ob | exact Q.ob) rfl ?_
    refine gi_aload_n (q := 40) (i := 0) C (dm_St_makeArray 19 rfl) rfl rfl rfl ?_
    refine gi_get (q := 43) C (dm_St_makeArray 20 rfl) rfl fl_St_144 (by first | exact Q117.ob | exact Q110.ob | exact Q98.ob | exact Q94.ob | exact Q77.ob | exact Q73.ob | exact Q56.ob | exact Q47.ob | exact Q20.ob | exact Q8.ob | exact Q.ob) rfl ?_
    refine gi_aload_n (q := 44) (i := 0) C (dm_St_makeArray 21 rfl) rfl rfl rfl ?_
    refine gi_get (q := 47) C (dm_St_makeArray 22 rfl) rfl fl_St_147 (by first | exact Q117.ob | exact Q110.ob | exact Q98.ob | exact Q94.ob | exact Q77.ob | exact Q73.ob | exact Q56.ob | exact Q47.ob | exact Q20.ob | exact Q8.ob | exact Q.ob) rfl ?_
    rw [hS.2.2.1, hS.2.2.2]
    refine gi_callv 2 (q := 50) C (dm_St_makeArray 23 rfl) rfl my_Bu_siteAt lk_St_255 im_Bu_siteAt rfl (c_Bu_siteAt W hm hi (B.hpr d Q20.2) (B.hbu d Q20.2) h28) ow rfl rfl ⟨(Nat.le_of_ble_eq_true rfl), (Nat.le_of_ble_eq_true rfl)⟩ (Nat.le_of_ble_eq_true rfl) ⟨(Nat.le_of_ble_eq_true rfl), (Nat.le_of_ble_eq_true rfl)⟩ (fun r47 n47 h47 e47 => ?_)
    obtain ⟨rfl, q47, u47⟩ := e47
    rw [q47, u47]
    refine gi_istore_n (q := 51) (i := 2) C (dm_St_makeArray 24 rfl) rfl rfl (Nat.le_of_ble_eq_true rfl) ?_
    refine gi_aload_n (q := 52) (i := 0) C (dm_St_makeArray 25 rfl) rfl rfl rfl ?_
    refine gi_get (q := 55) C (dm_St_makeArray 26 rfl) rfl fl_St_55 (by first | exact Q117.ob | exact Q110.ob | exact Q98.ob | exact Q94.ob | exact Q77.ob | exact Q73.ob | exact Q56.ob | exact Q47.ob | exact Q20.ob | exact Q8.ob | exact Q.ob) rfl ?_
    refine gi_lconst (q := 56) (v := 0) C (dm_St_makeArray 27 rfl) rfl (by decide) ?_
    rw [eL_0]
    refine gi_callv 1 (q := 59) C (dm_St_makeArray 28 rfl) rfl my_Va_beSingle lk_St_117 im_Va_beSingle rfl (c_Va_beSingle (a + 64) _ 0 Q20.vou) Q20.vou rfl rfl ⟨(Nat.le_of_ble_eq_true rfl), (Nat.le_of_ble_eq_true rfl)⟩ (Nat.le_of_ble_eq_true rfl) ⟨(Nat.le_of_ble_eq_true rfl), (Nat.le_of_ble_eq_true rfl)⟩ (fun r56 n56 h56 e56 => ?_)
    obtain ⟨rfl, rfl, rfl⟩ := e56
    have Q56 := Q20.pou (sV (0, 0, 0))
    refine gi_aload_n (q := 60) (i := 0) C (dm_St_makeArray 29 rfl) rfl rfl rfl ?_
    refine gi_aload_n (q := 61) (i := 0) C (dm_St_makeArray 30 rfl) rfl rfl rfl ?_
    refine gi_get (q := 64) C (dm_St_makeArray 31 rfl) rfl fl_St_70 (by first | exact Q117.ob | exact Q110.ob | exact Q98.ob | exact Q94.ob | exact Q77.ob | exact Q73.ob | exact Q56.ob | exact Q47.ob | exact Q20.ob | exact Q8.ob | exact Q.ob) rfl ?_
    refine gi_iload_n (q := 65) (i := 2) C (dm_St_makeArray 32 rfl) rfl rfl rfl ?_
    obtain ⟨ft, ot⟩ := B.ob d Q56.2
    refine gi_callv 1 (q := 68) C (dm_St_makeArray 33 rfl) rfl my_Fa_lengthOf lk_St_258 im_Fa_lengthOf rfl (b_len B d Q56.2 hsn) ot rfl rfl ⟨(Nat.le_of_ble_eq_true rfl), (Nat.le_of_ble_eq_true rfl)⟩ (Nat.le_of_ble_eq_true rfl) ⟨(Nat.le_of_ble_eq_true rfl), (Nat.le_of_ble_eq_true rfl)⟩ (fun r65 n65 h65 e65 => ?_)
    obtain ⟨rfl, q65, u65⟩ := e65
    rw [q65, u65]
    refine gi_aload_n (q := 69) (i := 0) C (dm_St_makeArray 34 rfl) rfl rfl rfl ?_
    refine gi_aload_n (q := 70) (i := 0) C (dm_St_makeArray 35 rfl) rfl rfl rfl ?_
    refine gi_get (q := 73) C (dm_St_makeArray 36 rfl) rfl fl_St_39 (by first | exact Q117.ob | exact Q110.ob | exact Q98.ob | exact Q94.ob | exact Q77.ob | exact Q73.ob | exact Q56.ob | exact Q47.ob | exact Q20.ob | exact Q8.ob | exact Q.ob) rfl ?_
    refine gi_callv 1 (q := 76) C (dm_St_makeArray 37 rfl) rfl my_St_alone lk_St_262 im_St_alone rfl (c_St_alone (a + 59) (.inl x') Q56 (by omega) Q56.vx) Q56.ob rfl rfl ⟨(Nat.le_of_ble_eq_true rfl), (Nat.le_of_ble_eq_true rfl)⟩ (Nat.le_of_ble_eq_true rfl) ⟨(Nat.le_of_ble_eq_true rfl), (Nat.le_of_ble_eq_true rfl)⟩ (fun r73 n73 h73 e73 => ?_)
    obtain ⟨rfl, rfl, ⟨lo73, Q73, GL73⟩, -⟩ := e73
    refine gi_iconst (q := 77) (v := 1) C (dm_St_makeArray 38 rfl) rfl (by decide) ?_
    
    refine gi_callv 3 (q := 80) C (dm_St_makeArray 39 rfl) rfl my_St_come lk_St_140 im_St_come rfl (b_come1 (a + 55) 1 1 (480 + sn (60 * m + i)) _ _ h2 B hT d hS Q73 (by omega) (by omega) (by omega) Q73.lo GL73 (by omega) (by rw [cap_hi (by omega)]; omega) okx.1 (hwt _ (by omega))) Q73.ob rfl rfl ⟨(Nat.le_of_ble_eq_true rfl), (Nat.le_of_ble_eq_true rfl)⟩ (Nat.le_of_ble_eq_true rfl) ⟨(Nat.le_of_ble_eq_true rfl), (Nat.le_of_ble_eq_true rfl)⟩ (fun r77 n77 h77 e77 => ?_)
    obtain ⟨rfl, rfl, S77, hS77, B77, Q77⟩ := e77
    refine gi_aload_n (q := 81) (i := 0) C (dm_St_makeArray 40 rfl) rfl rfl rfl ?_
    refine gi_aload_n (q := 82) (i := 0) C (dm_St_makeArray 41 rfl) rfl rfl rfl ?_
    refine gi_get (q := 85) C (dm_St_makeArray 42 rfl) rfl fl_St_70 (by first | exact Q117.ob | exact Q110.ob | exact Q98.ob | exact Q94.ob | exact Q77.ob | exact Q73.ob | exact Q56.ob | exact Q47.ob | exact Q20.ob | exact Q8.ob | exact Q.ob) rfl ?_
    refine gi_iload_n (q := 86) (i := 2) C (dm_St_makeArray 43 rfl) rfl rfl rfl ?_
    obtain ⟨ft2, ot2⟩ := B77.ob d Q77.2
    refine gi_callv 1 (q := 89) C (dm_St_makeArray 44 rfl) rfl my_Fa_elementOf lk_St_266 im_Fa_elementOf rfl (b_elm B77 d Q77.2 hsn) ot2 rfl rfl ⟨(Nat.le_of_ble_eq_true rfl), (Nat.le_of_ble_eq_true rfl)⟩ (Nat.le_of_ble_eq_true rfl) ⟨(Nat.le_of_ble_eq_true rfl), (Nat.le_of_ble_eq_true rfl)⟩ (fun r86 n86 h86 e86 => ?_)
    obtain ⟨rfl, q86, u86⟩ := e86
    rw [q86, u86]
    refine gi_aload_n (q := 90) (i := 0) C (dm_St_makeArray 45 rfl) rfl rfl rfl ?_
    refine gi_aload_n (q := 91) (i := 0) C (dm_St_makeArray 46 rfl) rfl rfl rfl ?_
    refine gi_get (q := 94) C (dm_St_makeArray 47 rfl) rfl fl_St_55 (by first | exact Q117.ob | exact Q110.ob | exact Q98.ob | exact Q94.ob | exact Q77.ob | exact Q73.ob | exact Q56.ob | exact Q47.ob | exact Q20.ob | exact Q8.ob | exact Q.ob) rfl ?_
    refine gi_callv 1 (q := 97) C (dm_St_makeArray 48 rfl) rfl my_St_alone lk_St_262 im_St_alone rfl (c_St_alone (a + 64) (.inl (0, 0, 0)) Q77 (by omega) Q77.vou) Q77.ob rfl rfl ⟨(Nat.le_of_ble_eq_true rfl), (Nat.le_of_ble_eq_true rfl)⟩ (Nat.le_of_ble_eq_true rfl) ⟨(Nat.le_of_ble_eq_true rfl), (Nat.le_of_ble_eq_true rfl)⟩ (fun r94 n94 h94 e94 => ?_)
    obtain ⟨rfl, rfl, ⟨lo94, Q94, GL94⟩, -⟩ := e94
    refine gi_iconst (q := 98) (v := 1) C (dm_St_makeArray 49 rfl) rfl (by decide) ?_
    
    refine gi_callv 3 (q := 101) C (dm_St_makeArray 50 rfl) rfl my_St_come lk_St_140 im_St_come rfl (b_come1 (a + 55) 1 1 (505 + sn (60 * m + i)) _ _ h2 B77 hT d hS77 Q94 (by omega) (by omega) (by omega) Q94.lo GL94 (by omega) (by rw [cap_hi (by omega)]; omega) okx.2 (hwt _ (by omega))) Q94.ob rfl rfl ⟨(Nat.le_of_ble_eq_true rfl), (Nat.le_of_ble_eq_true rfl)⟩ (Nat.le_of_ble_eq_true rfl) ⟨(Nat.le_of_ble_eq_true rfl), (Nat.le_of_ble_eq_true rfl)⟩ (fun r98 n98 h98 e98 => ?_)
    obtain ⟨rfl, rfl, S98, hS98, B98, Q98⟩ := e98
    refine gi_aload_n (q := 102) (i := 0) C (dm_St_makeArray 51 rfl) rfl rfl rfl ?_
    refine gi_get (q := 105) C (dm_St_makeArray 52 rfl) rfl fl_St_23 (by first | exact Q117.ob | exact Q110.ob | exact Q98.ob | exact Q94.ob | exact Q77.ob | exact Q73.ob | exact Q56.ob | exact Q47.ob | exact Q20.ob | exact Q8.ob | exact Q.ob) rfl ?_
    refine gi_iload_n (q := 106) (i := 1) C (dm_St_makeArray 53 rfl) rfl rfl rfl ?_
    refine gi_aload_n (q := 107) (i := 0) C (dm_St_makeArray 54 rfl) rfl rfl rfl ?_
    refine gi_get (q := 110) C (dm_St_makeArray 55 rfl) rfl fl_St_39 (by first | exact Q117.ob | exact Q110.ob | exact Q98.ob | exact Q94.ob | exact Q77.ob | exact Q73.ob | exact Q56.ob | exact Q47.ob | exact Q20.ob | exact Q8.ob | exact Q.ob) rfl ?_
    refine gi_callv 2 (q := 113) C (dm_St_makeArray 56 rfl) rfl my_Ro_tell lk_St_214 im_Ro_tell rfl (s_tellWk (a + 59) (.inl x') _ Q98 G8 (by omega) hmk (by omega) Q98.vx) Q98.wk.1 rfl rfl ⟨(Nat.le_of_ble_eq_true rfl), (Nat.le_of_ble_eq_true rfl)⟩ (Nat.le_of_ble_eq_true rfl) ⟨(Nat.le_of_ble_eq_true rfl), (Nat.le_of_ble_eq_true rfl)⟩ (fun r110 n110 h110 e110 => ?_)
    obtain ⟨rfl, rfl, wk110, Q110, G110⟩ := e110
    refine gi_aload_n (q := 114) (i := 0) C (dm_St_makeArray 57 rfl) rfl rfl rfl ?_
    refine gi_get (q := 117) C (dm_St_makeArray 58 rfl) rfl fl_St_23 (by first | exact Q117.ob | exact Q110.ob | exact Q98.ob | exact Q94.ob | exact Q77.ob | exact Q73.ob | exact Q56.ob | exact Q47.ob | exact Q20.ob | exact Q8.ob | exact Q.ob) rfl ?_
    refine gi_callv 0 (q := 120) C (dm_St_makeArray 59 rfl) rfl my_Ro_push lk_St_95 im_Ro_push rfl (s_push Q110 G110 (by omega)) Q110.wk.1 rfl rfl ⟨(Nat.le_of_ble_eq_true rfl), (Nat.le_of_ble_eq_true rfl)⟩ (Nat.le_of_ble_eq_true rfl) ⟨(Nat.le_of_ble_eq_true rfl), (Nat.le_of_ble_eq_true rfl)⟩ (fun r117 n117 h117 e117 => ?_)
    obtain ⟨rfl, qq, W1, uu, rfl, k1, k2, k3, Q117, K⟩ := e117
    refine gi_iconst (q := 121) (v := 1) C (dm_St_makeArray 60 rfl) rfl (by decide) ?_
    refine gi_iload_n (q := 122) (i := 2) C (dm_St_makeArray 61 rfl) rfl rfl rfl ?_
    refine gi_ishl (q := 123) C (dm_St_makeArray 62 rfl) rfl ?_
    rw [shl_1 _ hsn]
    refine gi_iconst (q := 124) (v := 0) C (dm_St_makeArray 63 rfl) rfl (by decide) ?_
    refine gi_callv 2 (q := 127) C (dm_St_makeArray 64 rfl) rfl my_Va_beSet lk_St_113 im_Va_beSet rfl (c_Va_beSet qq uu _ false k3) k3 rfl rfl ⟨(Nat.le_of_ble_eq_true rfl), (Nat.le_of_ble_eq_true rfl)⟩ (Nat.le_of_ble_eq_true rfl) ⟨(Nat.le_of_ble_eq_true rfl), (Nat.le_of_ble_eq_true rfl)⟩ (fun r124 n124 h124 e124 => ?_)
    obtain ⟨rfl, rfl, rfl⟩ := e124
    refine gi_iconst (q := 128) (v := 1) C (dm_St_makeArray 65 rfl) rfl (by decide) ?_
    refine gi_zret C hr (dm_St_makeArray 66 rfl) rfl ?_
    refine ⟨rfl, Or.inr ⟨x', rfl, rfl, _, _, _, _, _, _, hS98, B98, (K (.inr (shl1 (sn (60 * m + i)), false))).1, ?_⟩⟩
    have t := (K (.inr (shl1 (sn (60 * m + i)), false))).2
    rw [show n0 - 1 + 1 = n0 by omega] at t
    exact t
  · refine gi_iconst (q := 34) (v := 0) C (dm_St_makeArray 15 rfl) rfl (by decide) ?_
    refine gi_zret C hr (dm_St_makeArray 16 rfl) rfl ?_
    refine ⟨rfl, Or.inl ⟨?_, rfl, _, _, Q20⟩⟩
    exact Classical.byContradiction (fun z => c30 ((no_W (fun z e => (within_ok hX e).1)).mpr z))
set_option maxHeartbeats 4000000 in
set_option maxRecDepth 100000 in
theorem c_St_useField_35 (ja : Nat) (h2 : md ≤ 2) (W : wfP k P) (hm : m < k) (hT : ∀ t, t < 542 → (T t).1 ≤ 14) (d : DJ a pr bu fr to) (B : SB a pr bu fr to k md P sn wd T Ff Z hA hB) (hS : SS S md m i Z.2) (Q : stO a pr bu fr to hB S x y nx ny ar ou be ab Wk Wy En Lo h) (G : isG Wk n0 f) (hja : ja < 4) (hwt : ∀ t, 480 ≤ t → wd t = true) (g1 : 1 ≤ n0) (g14 : n0 ≤ 14) (hc1 : okC T (530 + ja, 1, one (f (n0 - 1)).1)) : gi_T l V y_St_useField b_St_useField 3 (some .boolean) 4 102 0 0 [.ref a, .int (nI 35), .int (nI ja)] n h (fun r n' h' => r = some (.int 1) ∧ n' = n ∧ ∃ hC S' x' Wk' Lo', SS S' md m i ((comeM md wd Z (530 + ja, 1, one (f (n0 - 1)).1))).2 ∧ SB a pr bu fr to k md P sn wd T Ff (comeM md wd Z (530 + ja, 1, one (f (n0 - 1)).1)) hA hC ∧ stO a pr bu fr to hC S' x' y nx ny ar ou be ab Wk' Wy En Lo' h' ∧ isG Wk' (n0 - 1) f) := by
  refine gi_enter (by decide) (Nat.le_of_ble_eq_true rfl) ?_
  intro _ _ _ _ _ _ _ _ C hr hnm
  refine gi_iload_n (q := 1) (i := 1) C (dm_St_useField 0 rfl) rfl rfl rfl ?_
  refine gi_bipush (q := 3) (v := 34) C (dm_St_useField 1 rfl) rfl (by decide) ?_
  refine gi_icmp_ne (q := 6) (tgt := 31) C (dm_St_useField 2 rfl) rfl (by decide) (fun c3 => ?_) (fun c3 => ?_)
  · refine gi_aload_n (q := 32) (i := 0) C (dm_St_useField 14 rfl) rfl rfl rfl ?_
    refine gi_get (q := 35) C (dm_St_useField 15 rfl) rfl fl_St_23 (by first | exact Q61.ob | exact Q57.ob | exact Q39.ob | exact Q.ob) rfl ?_
    refine gi_aload_n (q := 36) (i := 0) C (dm_St_useField 16 rfl) rfl rfl rfl ?_
    refine gi_get (q := 39) C (dm_St_useField 17 rfl) rfl fl_St_39 (by first | exact Q61.ob | exact Q57.ob | exact Q39.ob | exact Q.ob) rfl ?_
    refine gi_callv 1 (q := 42) C (dm_St_useField 18 rfl) rfl my_Ro_pop lk_St_198 im_Ro_pop rfl (s_popx Q G (by omega) (by omega)) Q.wk.1 rfl rfl ⟨(Nat.le_of_ble_eq_true rfl), (Nat.le_of_ble_eq_true rfl)⟩ (Nat.le_of_ble_eq_true rfl) ⟨(Nat.le_of_ble_eq_true rfl), (Nat.le_of_ble_eq_true rfl)⟩ (fun r39 n39 h39 e39 => ?_)
    obtain ⟨rfl, rfl, wk39, Q39, G39⟩ := e39
    refine gi_pop (q := 43) C (dm_St_useField 19 rfl) rfl rfl ?_
    refine gi_aload_n (q := 44) (i := 0) C (dm_St_useField 20 rfl) rfl rfl rfl ?_
    refine gi_aload_n (q := 45) (i := 0) C (dm_St_useField 21 rfl) rfl rfl rfl ?_
    refine gi_get (q := 48) C (dm_St_useField 22 rfl) rfl fl_St_70 (by first | exact Q61.ob | exact Q57.ob | exact Q39.ob | exact Q.ob) rfl ?_
    refine gi_iload_n (q := 49) (i := 2) C (dm_St_useField 23 rfl) rfl rfl rfl ?_
    obtain ⟨ft, ot⟩ := B.ob d Q39.2
    refine gi_callv 1 (q := 52) C (dm_St_useField 24 rfl) rfl my_Fa_fieldOf lk_St_285 im_Fa_fieldOf rfl (b_fld B d Q39.2 hja) ot rfl rfl ⟨(Nat.le_of_ble_eq_true rfl), (Nat.le_of_ble_eq_true rfl)⟩ (Nat.le_of_ble_eq_true rfl) ⟨(Nat.le_of_ble_eq_true rfl), (Nat.le_of_ble_eq_true rfl)⟩ (fun r49 n49 h49 e49 => ?_)
    obtain ⟨rfl, q49, u49⟩ := e49
    rw [q49, u49]
    refine gi_aload_n (q := 53) (i := 0) C (dm_St_useField 25 rfl) rfl rfl rfl ?_
    refine gi_aload_n (q := 54) (i := 0) C (dm_St_useField 26 rfl) rfl rfl rfl ?_
    refine gi_get (q := 57) C (dm_St_useField 27 rfl) rfl fl_St_39 (by first | exact Q61.ob | exact Q57.ob | exact Q39.ob | exact Q.ob) rfl ?_
    refine gi_callv 1 (q := 60) C (dm_St_useField 28 rfl) rfl my_St_alone lk_St_262 im_St_alone rfl (c_St_alone (a + 59) ((f (n0 - 1)).1) Q39 (by omega) Q39.vx) Q39.ob rfl rfl ⟨(Nat.le_of_ble_eq_true rfl), (Nat.le_of_ble_eq_true rfl)⟩ (Nat.le_of_ble_eq_true rfl) ⟨(Nat.le_of_ble_eq_true rfl), (Nat.le_of_ble_eq_true rfl)⟩ (fun r57 n57 h57 e57 => ?_)
    obtain ⟨rfl, rfl, ⟨lo57, Q57, GL57⟩, -⟩ := e57
    refine gi_iconst (q := 61) (v := 1) C (dm_St_useField 29 rfl) rfl (by decide) ?_
    
    refine gi_callv 3 (q := 64) C (dm_St_useField 30 rfl) rfl my_St_come lk_St_140 im_St_come rfl (b_come1 (a + 55) 1 1 (530 + ja) _ _ h2 B hT d hS Q57 (by omega) (by omega) (by omega) Q57.lo GL57 (by omega) (by rw [cap_hi (by omega)]; omega) hc1 (hwt _ (by omega))) Q57.ob rfl rfl ⟨(Nat.le_of_ble_eq_true rfl), (Nat.le_of_ble_eq_true rfl)⟩ (Nat.le_of_ble_eq_true rfl) ⟨(Nat.le_of_ble_eq_true rfl), (Nat.le_of_ble_eq_true rfl)⟩ (fun r61 n61 h61 e61 => ?_)
    obtain ⟨rfl, rfl, S61, hS61, B61, Q61⟩ := e61
    refine gi_iconst (q := 65) (v := 1) C (dm_St_useField 31 rfl) rfl (by decide) ?_
    refine gi_zret C hr (dm_St_useField 32 rfl) rfl ?_
    exact ⟨rfl, rfl, _, _, _, _, _, hS61, B61, Q61, G39⟩
  · exact absurd c3 (by decide)
/-- the facts that are read -/
abbrev frF (fr to : Nat) (Ff : Fa) (Z : Fa × Bool) : Fa := if fr = to then Z.1 else Ff
set_option maxHeartbeats 4000000 in
set_option maxRecDepth 100000 in
theorem c_St_useField_34 (ja : Nat) (u : Av) (h2 : md ≤ 2) (W : wfP k P) (hm : m < k) (hT : ∀ t, t < 542 → (T t).1 ≤ 14) (d : DJ a pr bu fr to) (B : SB a pr bu fr to k md P sn wd T Ff Z hA hB) (hS : SS S md m i Z.2) (Q : stO a pr bu fr to hB S x y nx ny ar ou be ab Wk Wy En Lo h) (G : isG Wk n0 f) (hja : ja < 4) (g14 : n0 < 14) (ht : (frF fr to Ff Z (530 + ja)).told = true) (hn : (frF fr to Ff Z (530 + ja)).n = 1) (hu : ((frF fr to Ff Z (530 + ja)).f 0).1 = u) : gi_T l V y_St_useField b_St_useField 3 (some .boolean) 4 102 0 0 [.ref a, .int (nI 34), .int (nI ja)] n h (fun r n' h' => r = some (.int 1) ∧ n' = n ∧ ∃ Wk', stO a pr bu fr to hB S x y nx ny ar ou be ab Wk' Wy En Lo h' ∧ isG Wk' (n0 + 1) (upF f n0 (u, -1))) := by
  refine gi_enter (by decide) (Nat.le_of_ble_eq_true rfl) ?_
  intro _ _ _ _ _ _ _ _ C hr hnm
  have d4 := d.2.2.2.1
  refine gi_iload_n (q := 1) (i := 1) C (dm_St_useField 0 rfl) rfl rfl rfl ?_
  refine gi_bipush (q := 3) (v := 34) C (dm_St_useField 1 rfl) rfl (by decide) ?_
  refine gi_icmp_ne (q := 6) (tgt := 31) C (dm_St_useField 2 rfl) rfl (by decide) (fun c3 => ?_) (fun c3 => ?_)
  · exact absurd rfl c3
  · refine gi_aload_n (q := 7) (i := 0) C (dm_St_useField 3 rfl) rfl rfl rfl ?_
    refine gi_get (q := 10) C (dm_St_useField 4 rfl) rfl fl_St_23 (by first | exact Q10.ob | exact Q.ob) rfl ?_
    refine gi_callv 0 (q := 13) C (dm_St_useField 5 rfl) rfl my_Ro_push lk_St_95 im_Ro_push rfl (s_push Q G (by omega)) Q.wk.1 rfl rfl ⟨(Nat.le_of_ble_eq_true rfl), (Nat.le_of_ble_eq_true rfl)⟩ (Nat.le_of_ble_eq_true rfl) ⟨(Nat.le_of_ble_eq_true rfl), (Nat.le_of_ble_eq_true rfl)⟩ (fun r10 n10 h10 e10 => ?_)
    obtain ⟨rfl, qq, W1, uu, rfl, k1, k2, k3, Q10, K⟩ := e10
    refine gi_aload_n (q := 14) (i := 0) C (dm_St_useField 6 rfl) rfl rfl rfl ?_
    refine gi_get (q := 17) C (dm_St_useField 7 rfl) rfl fl_St_66 (by first | exact Q10.ob | exact Q.ob) rfl ?_
    refine gi_iload_n (q := 18) (i := 2) C (dm_St_useField 8 rfl) rfl rfl rfl ?_
    obtain ⟨Φf, pf, pR⟩ := B.hfr d Q10.2
    have ri := fa_in fr (530 + ja) (by omega)
    have RO := pf.2.2.2.2.2.2 (530 + ja) (by omega)
    have rc : fa_cap (530 + ja) = 1 := cap_hi (by omega)
    have RG := ((pR (530 + ja) (by omega)).2.2 ht).1
    have rv := RO.2.2.2.1 0 (by omega)
    have re := (RG.2 0 (by rw [show ((if fr = to then Z.1 else Ff) (530 + ja)).n = 1 from hn]; omega)).1
    rw [show (((if fr = to then Z.1 else Ff) (530 + ja)).f 0).1 = u from hu] at re
    rw [re] at rv
    refine gi_callv 1 (q := 21) C (dm_St_useField 9 rfl) rfl my_Fa_fieldOf lk_St_285 im_Fa_fieldOf rfl (c_Fa_fieldOf hja pf) pf.1 rfl rfl ⟨(Nat.le_of_ble_eq_true rfl), (Nat.le_of_ble_eq_true rfl)⟩ (Nat.le_of_ble_eq_true rfl) ⟨(Nat.le_of_ble_eq_true rfl), (Nat.le_of_ble_eq_true rfl)⟩ (fun r18 n18 h18 e18 => ?_)
    obtain ⟨rfl, q18, u18⟩ := e18
    rw [q18, u18]
    refine gi_iconst (q := 22) (v := 0) C (dm_St_useField 10 rfl) rfl (by decide) ?_
    rw [show (0 : Int32) = nI 0 from rfl]
    refine gi_callv 1 (q := 25) C (dm_St_useField 11 rfl) rfl my_Ro_valueAt lk_St_127 im_Ro_valueAt rfl (c_Ro_valueAt (j := 0) (by omega) (by omega) RO) RO.1 rfl rfl ⟨(Nat.le_of_ble_eq_true rfl), (Nat.le_of_ble_eq_true rfl)⟩ (Nat.le_of_ble_eq_true rfl) ⟨(Nat.le_of_ble_eq_true rfl), (Nat.le_of_ble_eq_true rfl)⟩ (fun r22 n22 h22 e22 => ?_)
    obtain ⟨rfl, q22, u22⟩ := e22
    rw [q22, u22]
    refine gi_callv 1 (q := 28) C (dm_St_useField 12 rfl) rfl my_Va_copy lk_St_99 im_Va_copy rfl (c_Va_copy qq _ uu (eA u) k3 rv.2.2 (by omega) (wf_A u)) k3 rfl rfl ⟨(Nat.le_of_ble_eq_true rfl), (Nat.le_of_ble_eq_true rfl)⟩ (Nat.le_of_ble_eq_true rfl) ⟨(Nat.le_of_ble_eq_true rfl), (Nat.le_of_ble_eq_true rfl)⟩ (fun r25 n25 h25 e25 => ?_)
    obtain ⟨rfl, rfl, rfl⟩ := e25
    refine gi_goto (tgt := 64) C (dm_St_useField 13 rfl) (by decide) ?_
    refine gi_iconst (q := 65) (v := 1) C (dm_St_useField 31 rfl) rfl (by decide) ?_
    refine gi_zret C hr (dm_St_useField 32 rfl) rfl ?_
    exact ⟨rfl, rfl, _, (K u).1, (K u).2⟩
end STB
