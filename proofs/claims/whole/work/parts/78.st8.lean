-- needs: 77 70
section ST8
variable {l : Launch} {V : gi_V} {n : Nat} {h h' h0 : gi_H} {a pr bu fr to k m md : Nat} {P : Pm} {S : Nat → Int32} {x y nx ny ar ou be ab : mV} {Wk Wy En Lo : mR} {F : Fa} {Φ : Nat → mR} {T : Nat → Ty} {wd : Nat → Bool} {cb : Bool}
variable {f : Nat → Sl} {n0 i : Nat} {sn : Nat → Nat} {Ff : Fa} {Z : Fa × Bool} {hA hB : gi_H}
theorem xor1 : ∀ o, o < 26 → 20 ≤ o → nI o ^^^ 1 = nI (if o % 2 = 0 then o + 1 else o - 1) := by decide +kernel
theorem cap_st {t : Nat} (h : t < 480) : fa_cap t = 14 := by unfold fa_cap; rw [if_pos h]
set_option maxHeartbeats 4000000 in
set_option maxRecDepth 100000 in
theorem c_St_compare (o ja : Nat) (Xs Ys : Sp) (o20 : 20 ≤ o) (o25 : o ≤ 25) (h2 : md ≤ 2) (W : wfP k P) (hm : m < k) (hT : ∀ t, t < 542 → (T t).1 ≤ 14) (d : DJ a pr bu fr to) (B : SB a pr bu fr to k md P sn wd T Ff Z hA hB) (hS : SS S md m i Z.2) (Q : stO a pr bu fr to hB S x y nx ny ar ou be ab Wk Wy En Lo h) (G : isG Wk n0 f) (hi : i + 1 < pN P 5 m) (hja : ja < pN P 5 m) (g2 : 2 ≤ n0) (g14 : n0 ≤ 14) (eX : (f (n0 - 2)).1 = .inl Xs) (eY : (f (n0 - 1)).1 = .inl Ys) (hX : okS Xs) (hY : okS Ys) (hmx : (f (n0 - 2)).2 = -1 ∨ ∃ j, j < 14 ∧ (f (n0 - 2)).2 = nI j) (hmy : (f (n0 - 1)).2 = -1 ∨ ∃ j, j < 14 ∧ (f (n0 - 1)).2 = nI j) (hc1 : ∀ g, opensF o (n0 - 2) f Xs Ys (f (n0 - 2)).2 (f (n0 - 1)).2 = some g → okC T (60 * m + ja, n0 - 2, g)) (hc2 : ∀ g, opensF (if o % 2 = 0 then o + 1 else o - 1) (n0 - 2) f Xs Ys (f (n0 - 2)).2 (f (n0 - 1)).2 = some g → okC T (60 * m + i + 1, n0 - 2, g)) : gi_T l V y_St_compare b_St_compare 5 none 4 102 0 0 [.ref a, .int (nI o), .int (nI ja)] n h (fun v n' h' => v = none ∧ n' = n ∧ ∃ hC S' x' y' nx' ny' Wk' Wy', SS S' md m i ((conO (60 * m + ja) (n0 - 2) (opensF o (n0 - 2) f Xs Ys (f (n0 - 2)).2 (f (n0 - 1)).2) ++ conO (60 * m + i + 1) (n0 - 2) (opensF (if o % 2 = 0 then o + 1 else o - 1) (n0 - 2) f Xs Ys (f (n0 - 2)).2 (f (n0 - 1)).2)).foldl (comeM md wd) Z).2 ∧ SB a pr bu fr to k md P sn wd T Ff ((conO (60 * m + ja) (n0 - 2) (opensF o (n0 - 2) f Xs Ys (f (n0 - 2)).2 (f (n0 - 1)).2) ++ conO (60 * m + i + 1) (n0 - 2) (opensF (if o % 2 = 0 then o + 1 else o - 1) (n0 - 2) f Xs Ys (f (n0 - 2)).2 (f (n0 - 1)).2)).foldl (comeM md wd) Z) hA hC ∧ stO a pr bu fr to hC S' x' y' nx' ny' ar ou be ab Wk' Wy' En Lo h') := by
  refine gi_enter (by decide) (Nat.le_of_ble_eq_true rfl) ?_
  intro _ _ _ _ _ _ _ _ C hr hnm
  have w8 := W.k8
  have wm := wf_ar W hm
  have oc2 : 20 ≤ (if o % 2 = 0 then o + 1 else o - 1) ∧ (if o % 2 = 0 then o + 1 else o - 1) ≤ 25 := by split <;> omega
  refine gi_aload_n (q := 1) (i := 0) C (dm_St_compare 0 rfl) rfl rfl rfl ?_
  refine gi_get (q := 4) C (dm_St_compare 1 rfl) rfl fl_St_23 (by first | exact Q128.ob | exact Q83.ob | exact Q76.ob | exact Q69.ob | exact Q34.ob | exact Q27.ob | exact Q20.ob | exact Q8.ob | exact Q.ob) rfl ?_
  refine gi_aload_n (q := 5) (i := 0) C (dm_St_compare 2 rfl) rfl rfl rfl ?_
  refine gi_get (q := 8) C (dm_St_compare 3 rfl) rfl fl_St_43 (by first | exact Q128.ob | exact Q83.ob | exact Q76.ob | exact Q69.ob | exact Q34.ob | exact Q27.ob | exact Q20.ob | exact Q8.ob | exact Q.ob) rfl ?_
  refine gi_callv 1 (q := 11) C (dm_St_compare 4 rfl) rfl my_Ro_pop lk_St_198 im_Ro_pop rfl (s_popy Q G (by omega) (by omega)) Q.wk.1 rfl rfl ⟨(Nat.le_of_ble_eq_true rfl), (Nat.le_of_ble_eq_true rfl)⟩ (Nat.le_of_ble_eq_true rfl) ⟨(Nat.le_of_ble_eq_true rfl), (Nat.le_of_ble_eq_true rfl)⟩ (fun r8 n8 h8 e8 => ?_)
  obtain ⟨rfl, rfl, wk8, Q8, G8⟩ := e8
  refine gi_istore_n (q := 12) (i := 3) C (dm_St_compare 5 rfl) rfl rfl (Nat.le_of_ble_eq_true rfl) ?_
  refine gi_aload_n (q := 13) (i := 0) C (dm_St_compare 6 rfl) rfl rfl rfl ?_
  refine gi_get (q := 16) C (dm_St_compare 7 rfl) rfl fl_St_23 (by first | exact Q128.ob | exact Q83.ob | exact Q76.ob | exact Q69.ob | exact Q34.ob | exact Q27.ob | exact Q20.ob | exact Q8.ob | exact Q.ob) rfl ?_
  refine gi_aload_n (q := 17) (i := 0) C (dm_St_compare 8 rfl) rfl rfl rfl ?_
  refine gi_get (q := 20) C (dm_St_compare 9 rfl) rfl fl_St_39 (by first | exact Q128.ob | exact Q83.ob | exact Q76.ob | exact Q69.ob | exact Q34.ob | exact Q27.ob | exact Q20.ob | exact Q8.ob | exact Q.ob) rfl ?_
  refine gi_callv 1 (q := 23) C (dm_St_compare 10 rfl) rfl my_Ro_pop lk_St_198 im_Ro_pop rfl (s_popx Q8 G8 (by omega) (by omega)) Q8.wk.1 rfl rfl ⟨(Nat.le_of_ble_eq_true rfl), (Nat.le_of_ble_eq_true rfl)⟩ (Nat.le_of_ble_eq_true rfl) ⟨(Nat.le_of_ble_eq_true rfl), (Nat.le_of_ble_eq_true rfl)⟩ (fun r20 n20 h20 e20 => ?_)
  obtain ⟨rfl, rfl, wk20, Q20, G20⟩ := e20
  rw [show n0 - 1 - 1 = n0 - 2 by omega] at Q20 G20 ⊢
  rw [eX, eY] at Q20
  refine gi_istore (q := 25) C (dm_St_compare 11 rfl) rfl (Nat.le_of_ble_eq_true rfl) ?_
  refine gi_aload_n (q := 26) (i := 0) C (dm_St_compare 12 rfl) rfl rfl rfl ?_
  refine gi_iload_n (q := 27) (i := 1) C (dm_St_compare 13 rfl) rfl rfl rfl ?_
  refine gi_callv 1 (q := 30) C (dm_St_compare 14 rfl) rfl my_St_narrow lk_St_221 im_St_narrow rfl (c_St_narrow (o) Xs Ys (by first | omega | exact oc2.1) (by first | omega | exact oc2.2) hX hY Q20) Q20.ob rfl rfl ⟨(Nat.le_of_ble_eq_true rfl), (Nat.le_of_ble_eq_true rfl)⟩ (Nat.le_of_ble_eq_true rfl) ⟨(Nat.le_of_ble_eq_true rfl), (Nat.le_of_ble_eq_true rfl)⟩ (fun r27 n27 h27 e27 => ?_)
  obtain ⟨rfl, rfl, Q27⟩ := e27
  refine gi_aload_n (q := 31) (i := 0) C (dm_St_compare 15 rfl) rfl rfl rfl ?_
  refine gi_iload (q := 33) C (dm_St_compare 16 rfl) rfl rfl ?_
  refine gi_iload_n (q := 34) (i := 3) C (dm_St_compare 17 rfl) rfl rfl rfl ?_
  refine gi_callv 2 (q := 37) C (dm_St_compare 18 rfl) rfl my_St_opens lk_St_224 im_St_opens rfl (c_St_opens _ _ _ _ (fun z e => nar_ok hX e) (fun z e => narY_ok hY e) Q27 G20 (by omega) hmx hmy) Q27.ob rfl rfl ⟨(Nat.le_of_ble_eq_true rfl), (Nat.le_of_ble_eq_true rfl)⟩ (Nat.le_of_ble_eq_true rfl) ⟨(Nat.le_of_ble_eq_true rfl), (Nat.le_of_ble_eq_true rfl)⟩ (fun r34 n34 h34 e34 => ?_)
  obtain ⟨rfl, nx34, wy34, Q34, hc34⟩ := e34
  rcases hc34 with ⟨ho34, rfl⟩ | ⟨g34, ho34, rfl, GW34⟩
  · refine gi_if_eq (q := 40) (tgt := 72) C (dm_St_compare 19 rfl) rfl (by decide) (fun c37 => ?_) (fun c37 => ?_)
    · refine gi_aload_n (q := 73) (i := 0) C (dm_St_compare 36 rfl) rfl rfl rfl ?_
      refine gi_iload_n (q := 74) (i := 1) C (dm_St_compare 37 rfl) rfl rfl rfl ?_
      refine gi_iconst (q := 75) (v := 1) C (dm_St_compare 38 rfl) rfl (by decide) ?_
      refine gi_ixor (q := 76) C (dm_St_compare 39 rfl) rfl ?_
      rw [xor1 o (by omega) o20]
      refine gi_callv 1 (q := 79) C (dm_St_compare 40 rfl) rfl my_St_narrow lk_St_221 im_St_narrow rfl (c_St_narrow ((if o % 2 = 0 then o + 1 else o - 1)) Xs Ys (by first | omega | exact oc2.1) (by first | omega | exact oc2.2) hX hY Q34) Q34.ob rfl rfl ⟨(Nat.le_of_ble_eq_true rfl), (Nat.le_of_ble_eq_true rfl)⟩ (Nat.le_of_ble_eq_true rfl) ⟨(Nat.le_of_ble_eq_true rfl), (Nat.le_of_ble_eq_true rfl)⟩ (fun r76 n76 h76 e76 => ?_)
      obtain ⟨rfl, rfl, Q76⟩ := e76
      refine gi_aload_n (q := 80) (i := 0) C (dm_St_compare 41 rfl) rfl rfl rfl ?_
      refine gi_iload (q := 82) C (dm_St_compare 42 rfl) rfl rfl ?_
      refine gi_iload_n (q := 83) (i := 3) C (dm_St_compare 43 rfl) rfl rfl rfl ?_
      refine gi_callv 2 (q := 86) C (dm_St_compare 44 rfl) rfl my_St_opens lk_St_224 im_St_opens rfl (c_St_opens _ _ _ _ (fun z e => nar_ok hX e) (fun z e => narY_ok hY e) Q76 G20 (by omega) hmx hmy) Q76.ob rfl rfl ⟨(Nat.le_of_ble_eq_true rfl), (Nat.le_of_ble_eq_true rfl)⟩ (Nat.le_of_ble_eq_true rfl) ⟨(Nat.le_of_ble_eq_true rfl), (Nat.le_of_ble_eq_true rfl)⟩ (fun r83 n83 h83 e83 => ?_)
      obtain ⟨rfl, nx83, wy83, Q83, hc83⟩ := e83
      rcases hc83 with ⟨ho83, rfl⟩ | ⟨g83, ho83, rfl, GW83⟩
      · refine gi_if_eq (q := 89) (tgt := 131) C (dm_St_compare 45 rfl) rfl (by decide) (fun c86 => ?_) (fun c86 => ?_)
        · refine gi_vret C hr (dm_St_compare 68 rfl) ?_
          have E1 : opensF o (n0 - 2) f Xs Ys (f (n0 - 2)).2 (f (n0 - 1)).2 = none := opF_eq.trans ho34
          have E2 : opensF (if o % 2 = 0 then o + 1 else o - 1) (n0 - 2) f Xs Ys (f (n0 - 2)).2 (f (n0 - 1)).2 = none := opF_eq.trans ho83
          rw [E1, E2]
          exact ⟨rfl, rfl, _, _, _, _, _, _, _, _, hS, B, Q83⟩
        · exact absurd rfl c86
      · refine gi_if_eq (q := 89) (tgt := 131) C (dm_St_compare 45 rfl) rfl (by decide) (fun c86 => ?_) (fun c86 => ?_)
        · exact absurd c86 (by decide)
        · have hg83 := (opF_eq (op := (if o % 2 = 0 then o + 1 else o - 1))).trans ho83
          refine gi_aload_n (q := 90) (i := 0) C (dm_St_compare 46 rfl) rfl rfl rfl ?_
          refine gi_aload_n (q := 91) (i := 0) C (dm_St_compare 47 rfl) rfl rfl rfl ?_
          refine gi_get (q := 94) C (dm_St_compare 48 rfl) rfl fl_St_70 (by first | exact Q128.ob | exact Q83.ob | exact Q76.ob | exact Q69.ob | exact Q34.ob | exact Q27.ob | exact Q20.ob | exact Q8.ob | exact Q.ob) rfl ?_
          refine gi_aload_n (q := 95) (i := 0) C (dm_St_compare 49 rfl) rfl rfl rfl ?_
          refine gi_get (q := 98) C (dm_St_compare 50 rfl) rfl fl_St_144 (by first | exact Q128.ob | exact Q83.ob | exact Q76.ob | exact Q69.ob | exact Q34.ob | exact Q27.ob | exact Q20.ob | exact Q8.ob | exact Q.ob) rfl ?_
          refine gi_aload_n (q := 99) (i := 0) C (dm_St_compare 51 rfl) rfl rfl rfl ?_
          refine gi_get (q := 102) C (dm_St_compare 52 rfl) rfl fl_St_147 (by first | exact Q128.ob | exact Q83.ob | exact Q76.ob | exact Q69.ob | exact Q34.ob | exact Q27.ob | exact Q20.ob | exact Q8.ob | exact Q.ob) rfl ?_
          refine gi_iconst (q := 103) (v := 1) C (dm_St_compare 53 rfl) rfl (by decide) ?_
          refine gi_iadd (q := 104) C (dm_St_compare 54 rfl) rfl ?_
          obtain ⟨fs104, ob104⟩ := B.ob d Q83.2
          rw [hS.2.2.1, hS.2.2.2, nI_1]
          refine gi_callv 2 (q := 107) C (dm_St_compare 55 rfl) rfl my_Fa_stateAt lk_St_134 im_Fa_stateAt rfl (b_state B d Q83.2 (by omega) (by omega)) ob104 rfl rfl ⟨(Nat.le_of_ble_eq_true rfl), (Nat.le_of_ble_eq_true rfl)⟩ (Nat.le_of_ble_eq_true rfl) ⟨(Nat.le_of_ble_eq_true rfl), (Nat.le_of_ble_eq_true rfl)⟩ (fun r104 n104 h104 e104 => ?_)
          obtain ⟨rfl, q104, u104⟩ := e104
          rw [q104, u104]
          refine gi_aload_n (q := 108) (i := 0) C (dm_St_compare 56 rfl) rfl rfl rfl ?_
          refine gi_get (q := 111) C (dm_St_compare 57 rfl) rfl fl_St_27 (by first | exact Q128.ob | exact Q83.ob | exact Q76.ob | exact Q69.ob | exact Q34.ob | exact Q27.ob | exact Q20.ob | exact Q8.ob | exact Q.ob) rfl ?_
          refine gi_aload_n (q := 112) (i := 0) C (dm_St_compare 58 rfl) rfl rfl rfl ?_
          refine gi_get (q := 115) C (dm_St_compare 59 rfl) rfl fl_St_62 (by first | exact Q128.ob | exact Q83.ob | exact Q76.ob | exact Q69.ob | exact Q34.ob | exact Q27.ob | exact Q20.ob | exact Q8.ob | exact Q.ob) rfl ?_
          refine gi_aload_n (q := 116) (i := 0) C (dm_St_compare 60 rfl) rfl rfl rfl ?_
          refine gi_get (q := 119) C (dm_St_compare 61 rfl) rfl fl_St_144 (by first | exact Q128.ob | exact Q83.ob | exact Q76.ob | exact Q69.ob | exact Q34.ob | exact Q27.ob | exact Q20.ob | exact Q8.ob | exact Q.ob) rfl ?_
          refine gi_aload_n (q := 120) (i := 0) C (dm_St_compare 62 rfl) rfl rfl rfl ?_
          refine gi_get (q := 123) C (dm_St_compare 63 rfl) rfl fl_St_147 (by first | exact Q128.ob | exact Q83.ob | exact Q76.ob | exact Q69.ob | exact Q34.ob | exact Q27.ob | exact Q20.ob | exact Q8.ob | exact Q.ob) rfl ?_
          refine gi_iconst (q := 124) (v := 1) C (dm_St_compare 64 rfl) rfl (by decide) ?_
          refine gi_iadd (q := 125) C (dm_St_compare 65 rfl) rfl ?_
          obtain ⟨fw125, ow125⟩ := B.ob2 d Q83.2
          rw [hS.2.2.1, hS.2.2.2, nI_1]
          refine gi_callv 2 (q := 128) C (dm_St_compare 66 rfl) rfl my_Bu_isWide lk_St_167 im_Bu_isWide rfl (b_wide W B d Q83.2 hm hi) ow125 rfl rfl ⟨(Nat.le_of_ble_eq_true rfl), (Nat.le_of_ble_eq_true rfl)⟩ (Nat.le_of_ble_eq_true rfl) ⟨(Nat.le_of_ble_eq_true rfl), (Nat.le_of_ble_eq_true rfl)⟩ (fun r125 n125 h125 e125 => ?_)
          obtain ⟨rfl, q125, u125⟩ := e125
          rw [q125, u125]
          refine gi_callv 3 (q := 131) C (dm_St_compare 67 rfl) rfl my_St_come lk_St_140 im_St_come rfl (b_come (a + 21) 14 (n0 - 2) (60 * m + i + 1) _ _ h2 B hT d hS Q83 (by omega) (by omega) (by omega) Q83.wy GW83 (by omega) (by rw [cap_st (by omega)]; omega) (hc2 _ hg83)) Q83.ob rfl rfl ⟨(Nat.le_of_ble_eq_true rfl), (Nat.le_of_ble_eq_true rfl)⟩ (Nat.le_of_ble_eq_true rfl) ⟨(Nat.le_of_ble_eq_true rfl), (Nat.le_of_ble_eq_true rfl)⟩ (fun r128 n128 h128 e128 => ?_)
          obtain ⟨rfl, rfl, S128, hS128, B128, Q128⟩ := e128
          refine gi_vret C hr (dm_St_compare 68 rfl) ?_
          have E1 : opensF o (n0 - 2) f Xs Ys (f (n0 - 2)).2 (f (n0 - 1)).2 = none := opF_eq.trans ho34
          have E2 : opensF (if o % 2 = 0 then o + 1 else o - 1) (n0 - 2) f Xs Ys (f (n0 - 2)).2 (f (n0 - 1)).2 = some g83 := opF_eq.trans ho83
          rw [E1, E2]
          exact ⟨rfl, rfl, _, _, _, _, _, _, _, _, hS128, B128, Q128⟩
    · exact absurd rfl c37
  · refine gi_if_eq (q := 40) (tgt := 72) C (dm_St_compare 19 rfl) rfl (by decide) (fun c37 => ?_) (fun c37 => ?_)
    · exact absurd c37 (by decide)
    · have hg34 := (opF_eq (op := o)).trans ho34
      refine gi_aload_n (q := 41) (i := 0) C (dm_St_compare 20 rfl) rfl rfl rfl ?_
      refine gi_aload_n (q := 42) (i := 0) C (dm_St_compare 21 rfl) rfl rfl rfl ?_
      refine gi_get (q := 45) C (dm_St_compare 22 rfl) rfl fl_St_70 (by first | exact Q128.ob | exact Q83.ob | exact Q76.ob | exact Q69.ob | exact Q34.ob | exact Q27.ob | exact Q20.ob | exact Q8.ob | exact Q.ob) rfl ?_
      refine gi_aload_n (q := 46) (i := 0) C (dm_St_compare 23 rfl) rfl rfl rfl ?_
      refine gi_get (q := 49) C (dm_St_compare 24 rfl) rfl fl_St_144 (by first | exact Q128.ob | exact Q83.ob | exact Q76.ob | exact Q69.ob | exact Q34.ob | exact Q27.ob | exact Q20.ob | exact Q8.ob | exact Q.ob) rfl ?_
      refine gi_iload_n (q := 50) (i := 2) C (dm_St_compare 25 rfl) rfl rfl rfl ?_
      obtain ⟨fs50, ob50⟩ := B.ob d Q34.2
      rw [hS.2.2.1]
      refine gi_callv 2 (q := 53) C (dm_St_compare 26 rfl) rfl my_Fa_stateAt lk_St_134 im_Fa_stateAt rfl (b_state B d Q34.2 (by omega) (by omega)) ob50 rfl rfl ⟨(Nat.le_of_ble_eq_true rfl), (Nat.le_of_ble_eq_true rfl)⟩ (Nat.le_of_ble_eq_true rfl) ⟨(Nat.le_of_ble_eq_true rfl), (Nat.le_of_ble_eq_true rfl)⟩ (fun r50 n50 h50 e50 => ?_)
      obtain ⟨rfl, q50, u50⟩ := e50
      rw [q50, u50]
      refine gi_aload_n (q := 54) (i := 0) C (dm_St_compare 27 rfl) rfl rfl rfl ?_
      refine gi_get (q := 57) C (dm_St_compare 28 rfl) rfl fl_St_27 (by first | exact Q128.ob | exact Q83.ob | exact Q76.ob | exact Q69.ob | exact Q34.ob | exact Q27.ob | exact Q20.ob | exact Q8.ob | exact Q.ob) rfl ?_
      refine gi_aload_n (q := 58) (i := 0) C (dm_St_compare 29 rfl) rfl rfl rfl ?_
      refine gi_get (q := 61) C (dm_St_compare 30 rfl) rfl fl_St_62 (by first | exact Q128.ob | exact Q83.ob | exact Q76.ob | exact Q69.ob | exact Q34.ob | exact Q27.ob | exact Q20.ob | exact Q8.ob | exact Q.ob) rfl ?_
      refine gi_aload_n (q := 62) (i := 0) C (dm_St_compare 31 rfl) rfl rfl rfl ?_
      refine gi_get (q := 65) C (dm_St_compare 32 rfl) rfl fl_St_144 (by first | exact Q128.ob | exact Q83.ob | exact Q76.ob | exact Q69.ob | exact Q34.ob | exact Q27.ob | exact Q20.ob | exact Q8.ob | exact Q.ob) rfl ?_
      refine gi_iload_n (q := 66) (i := 2) C (dm_St_compare 33 rfl) rfl rfl rfl ?_
      obtain ⟨fw66, ow66⟩ := B.ob2 d Q34.2
      rw [hS.2.2.1]
      refine gi_callv 2 (q := 69) C (dm_St_compare 34 rfl) rfl my_Bu_isWide lk_St_167 im_Bu_isWide rfl (b_wide W B d Q34.2 hm hja) ow66 rfl rfl ⟨(Nat.le_of_ble_eq_true rfl), (Nat.le_of_ble_eq_true rfl)⟩ (Nat.le_of_ble_eq_true rfl) ⟨(Nat.le_of_ble_eq_true rfl), (Nat.le_of_ble_eq_true rfl)⟩ (fun r66 n66 h66 e66 => ?_)
      obtain ⟨rfl, q66, u66⟩ := e66
      rw [q66, u66]
      refine gi_callv 3 (q := 72) C (dm_St_compare 35 rfl) rfl my_St_come lk_St_140 im_St_come rfl (b_come (a + 21) 14 (n0 - 2) (60 * m + ja) _ _ h2 B hT d hS Q34 (by omega) (by omega) (by omega) Q34.wy GW34 (by omega) (by rw [cap_st (by omega)]; omega) (hc1 _ hg34)) Q34.ob rfl rfl ⟨(Nat.le_of_ble_eq_true rfl), (Nat.le_of_ble_eq_true rfl)⟩ (Nat.le_of_ble_eq_true rfl) ⟨(Nat.le_of_ble_eq_true rfl), (Nat.le_of_ble_eq_true rfl)⟩ (fun r69 n69 h69 e69 => ?_)
      obtain ⟨rfl, rfl, S69, hS69, B69, Q69⟩ := e69
      refine gi_aload_n (q := 73) (i := 0) C (dm_St_compare 36 rfl) rfl rfl rfl ?_
      refine gi_iload_n (q := 74) (i := 1) C (dm_St_compare 37 rfl) rfl rfl rfl ?_
      refine gi_iconst (q := 75) (v := 1) C (dm_St_compare 38 rfl) rfl (by decide) ?_
      refine gi_ixor (q := 76) C (dm_St_compare 39 rfl) rfl ?_
      rw [xor1 o (by omega) o20]
      refine gi_callv 1 (q := 79) C (dm_St_compare 40 rfl) rfl my_St_narrow lk_St_221 im_St_narrow rfl (c_St_narrow ((if o % 2 = 0 then o + 1 else o - 1)) Xs Ys (by first | omega | exact oc2.1) (by first | omega | exact oc2.2) hX hY Q69) Q69.ob rfl rfl ⟨(Nat.le_of_ble_eq_true rfl), (Nat.le_of_ble_eq_true rfl)⟩ (Nat.le_of_ble_eq_true rfl) ⟨(Nat.le_of_ble_eq_true rfl), (Nat.le_of_ble_eq_true rfl)⟩ (fun r76 n76 h76 e76 => ?_)
      obtain ⟨rfl, rfl, Q76⟩ := e76
      refine gi_aload_n (q := 80) (i := 0) C (dm_St_compare 41 rfl) rfl rfl rfl ?_
      refine gi_iload (q := 82) C (dm_St_compare 42 rfl) rfl rfl ?_
      refine gi_iload_n (q := 83) (i := 3) C (dm_St_compare 43 rfl) rfl rfl rfl ?_
      refine gi_callv 2 (q := 86) C (dm_St_compare 44 rfl) rfl my_St_opens lk_St_224 im_St_opens rfl (c_St_opens _ _ _ _ (fun z e => nar_ok hX e) (fun z e => narY_ok hY e) Q76 G20 (by omega) hmx hmy) Q76.ob rfl rfl ⟨(Nat.le_of_ble_eq_true rfl), (Nat.le_of_ble_eq_true rfl)⟩ (Nat.le_of_ble_eq_true rfl) ⟨(Nat.le_of_ble_eq_true rfl), (Nat.le_of_ble_eq_true rfl)⟩ (fun r83 n83 h83 e83 => ?_)
      obtain ⟨rfl, nx83, wy83, Q83, hc83⟩ := e83
      rcases hc83 with ⟨ho83, rfl⟩ | ⟨g83, ho83, rfl, GW83⟩
      · refine gi_if_eq (q := 89) (tgt := 131) C (dm_St_compare 45 rfl) rfl (by decide) (fun c86 => ?_) (fun c86 => ?_)
        · refine gi_vret C hr (dm_St_compare 68 rfl) ?_
          have E1 : opensF o (n0 - 2) f Xs Ys (f (n0 - 2)).2 (f (n0 - 1)).2 = some g34 := opF_eq.trans ho34
          have E2 : opensF (if o % 2 = 0 then o + 1 else o - 1) (n0 - 2) f Xs Ys (f (n0 - 2)).2 (f (n0 - 1)).2 = none := opF_eq.trans ho83
          rw [E1, E2]
          exact ⟨rfl, rfl, _, _, _, _, _, _, _, _, hS69, B69, Q83⟩
        · exact absurd rfl c86
      · refine gi_if_eq (q := 89) (tgt := 131) C (dm_St_compare 45 rfl) rfl (by decide) (fun c86 => ?_) (fun c86 => ?_)
        · exact absurd c86 (by decide)
        · have hg83 := (opF_eq (op := (if o % 2 = 0 then o + 1 else o - 1))).trans ho83
          refine gi_aload_n (q := 90) (i := 0) C (dm_St_compare 46 rfl) rfl rfl rfl ?_
          refine gi_aload_n (q := 91) (i := 0) C (dm_St_compare 47 rfl) rfl rfl rfl ?_
          refine gi_get (q := 94) C (dm_St_compare 48 rfl) rfl fl_St_70 (by first | exact Q128.ob | exact Q83.ob | exact Q76.ob | exact Q69.ob | exact Q34.ob | exact Q27.ob | exact Q20.ob | exact Q8.ob | exact Q.ob) rfl ?_
          refine gi_aload_n (q := 95) (i := 0) C (dm_St_compare 49 rfl) rfl rfl rfl ?_
          refine gi_get (q := 98) C (dm_St_compare 50 rfl) rfl fl_St_144 (by first | exact Q128.ob | exact Q83.ob | exact Q76.ob | exact Q69.ob | exact Q34.ob | exact Q27.ob | exact Q20.ob | exact Q8.ob | exact Q.ob) rfl ?_
          refine gi_aload_n (q := 99) (i := 0) C (dm_St_compare 51 rfl) rfl rfl rfl ?_
          refine gi_get (q := 102) C (dm_St_compare 52 rfl) rfl fl_St_147 (by first | exact Q128.ob | exact Q83.ob | exact Q76.ob | exact Q69.ob | exact Q34.ob | exact Q27.ob | exact Q20.ob | exact Q8.ob | exact Q.ob) rfl ?_
          refine gi_iconst (q := 103) (v := 1) C (dm_St_compare 53 rfl) rfl (by decide) ?_
          refine gi_iadd (q := 104) C (dm_St_compare 54 rfl) rfl ?_
          obtain ⟨fs104, ob104⟩ := B69.ob d Q83.2
          rw [hS69.2.2.1, hS69.2.2.2, nI_1]
          refine gi_callv 2 (q := 107) C (dm_St_compare 55 rfl) rfl my_Fa_stateAt lk_St_134 im_Fa_stateAt rfl (b_state B69 d Q83.2 (by omega) (by omega)) ob104 rfl rfl ⟨(Nat.le_of_ble_eq_true rfl), (Nat.le_of_ble_eq_true rfl)⟩ (Nat.le_of_ble_eq_true rfl) ⟨(Nat.le_of_ble_eq_true rfl), (Nat.le_of_ble_eq_true rfl)⟩ (fun r104 n104 h104 e104 => ?_)
          obtain ⟨rfl, q104, u104⟩ := e104
          rw [q104, u104]
          refine gi_aload_n (q := 108) (i := 0) C (dm_St_compare 56 rfl) rfl rfl rfl ?_
          refine gi_get (q := 111) C (dm_St_compare 57 rfl) rfl fl_St_27 (by first | exact Q128.ob | exact Q83.ob | exact Q76.ob | exact Q69.ob | exact Q34.ob | exact Q27.ob | exact Q20.ob | exact Q8.ob | exact Q.ob) rfl ?_
          refine gi_aload_n (q := 112) (i := 0) C (dm_St_compare 58 rfl) rfl rfl rfl ?_
          refine gi_get (q := 115) C (dm_St_compare 59 rfl) rfl fl_St_62 (by first | exact Q128.ob | exact Q83.ob | exact Q76.ob | exact Q69.ob | exact Q34.ob | exact Q27.ob | exact Q20.ob | exact Q8.ob | exact Q.ob) rfl ?_
          refine gi_aload_n (q := 116) (i := 0) C (dm_St_compare 60 rfl) rfl rfl rfl ?_
          refine gi_get (q := 119) C (dm_St_compare 61 rfl) rfl fl_St_144 (by first | exact Q128.ob | exact Q83.ob | exact Q76.ob | exact Q69.ob | exact Q34.ob | exact Q27.ob | exact Q20.ob | exact Q8.ob | exact Q.ob) rfl ?_
          refine gi_aload_n (q := 120) (i := 0) C (dm_St_compare 62 rfl) rfl rfl rfl ?_
          refine gi_get (q := 123) C (dm_St_compare 63 rfl) rfl fl_St_147 (by first | exact Q128.ob | exact Q83.ob | exact Q76.ob | exact Q69.ob | exact Q34.ob | exact Q27.ob | exact Q20.ob | exact Q8.ob | exact Q.ob) rfl ?_
          refine gi_iconst (q := 124) (v := 1) C (dm_St_compare 64 rfl) rfl (by decide) ?_
          refine gi_iadd (q := 125) C (dm_St_compare 65 rfl) rfl ?_
          obtain ⟨fw125, ow125⟩ := B69.ob2 d Q83.2
          rw [hS69.2.2.1, hS69.2.2.2, nI_1]
          refine gi_callv 2 (q := 128) C (dm_St_compare 66 rfl) rfl my_Bu_isWide lk_St_167 im_Bu_isWide rfl (b_wide W B69 d Q83.2 hm hi) ow125 rfl rfl ⟨(Nat.le_of_ble_eq_true rfl), (Nat.le_of_ble_eq_true rfl)⟩ (Nat.le_of_ble_eq_true rfl) ⟨(Nat.le_of_ble_eq_true rfl), (Nat.le_of_ble_eq_true rfl)⟩ (fun r125 n125 h125 e125 => ?_)
          obtain ⟨rfl, q125, u125⟩ := e125
          rw [q125, u125]
          refine gi_callv 3 (q := 131) C (dm_St_compare 67 rfl) rfl my_St_come lk_St_140 im_St_come rfl (b_come (a + 21) 14 (n0 - 2) (60 * m + i + 1) _ _ h2 B69 hT d hS69 Q83 (by omega) (by omega) (by omega) Q83.wy GW83 (by omega) (by rw [cap_st (by omega)]; omega) (hc2 _ hg83)) Q83.ob rfl rfl ⟨(Nat.le_of_ble_eq_true rfl), (Nat.le_of_ble_eq_true rfl)⟩ (Nat.le_of_ble_eq_true rfl) ⟨(Nat.le_of_ble_eq_true rfl), (Nat.le_of_ble_eq_true rfl)⟩ (fun r128 n128 h128 e128 => ?_)
          obtain ⟨rfl, rfl, S128, hS128, B128, Q128⟩ := e128
          refine gi_vret C hr (dm_St_compare 68 rfl) ?_
          have E1 : opensF o (n0 - 2) f Xs Ys (f (n0 - 2)).2 (f (n0 - 1)).2 = some g34 := opF_eq.trans ho34
          have E2 : opensF (if o % 2 = 0 then o + 1 else o - 1) (n0 - 2) f Xs Ys (f (n0 - 2)).2 (f (n0 - 1)).2 = some g83 := opF_eq.trans ho83
          rw [E1, E2]
          exact ⟨rfl, rfl, _, _, _, _, _, _, _, _, hS128, B128, Q128⟩
end ST8
