-- needs: 83
section STE
variable {l : Launch} {V : gi_V} {n : Nat} {h h' h0 : gi_H} {a pr bu fr to k m md : Nat} {P : Pm} {S : Nat → Int32} {x y nx ny ar ou be ab : mV} {Wk Wy En Lo : mR} {F : Fa} {Φ : Nat → mR} {T : Nat → Ty} {wd : Nat → Bool} {cb : Bool}
variable {f : Nat → Sl} {n0 i : Nat} {sn : Nat → Nat} {Ff : Fa} {Z : Fa × Bool} {hA hB : gi_H}
def putF (md : Nat) (wd : Nat → Bool) (Z : Fa × Bool) (bs : Int32) (v : Av) (i : Nat) : Fa × Bool := ((List.range i).filter (bitA bs)).foldl (fun X s => comeM md wd X (505 + s, 1, one v)) Z
theorem putF_s {md : Nat} {wd : Nat → Bool} {Z : Fa × Bool} {bs : Int32} {v : Av} {i : Nat} : putF md wd Z bs v (i + 1) = if bitA bs i = true then comeM md wd (putF md wd Z bs v i) (505 + i, 1, one v) else putF md wd Z bs v i := by
  unfold putF
  rw [List.range_succ, List.filter_append, List.foldl_append]
  by_cases z : bitA bs i = true
  · rw [if_pos z]
    simp [z]
  · rw [if_neg z]
    simp [z]
set_option maxHeartbeats 4000000 in
set_option maxRecDepth 100000 in
theorem c_St_useArray_29 (bs : Int32) (on : Bool) (h2 : md ≤ 2) (W : wfP k P) (hm : m < k) (hT : ∀ t, t < 542 → (T t).1 ≤ 14) (d : DJ a pr bu fr to) (B : SB a pr bu fr to k md P sn wd T Ff Z hA hB) (hS : SS S md m i Z.2) (Q : stO a pr bu fr to hB S x y nx ny ar ou be ab Wk Wy En Lo h) (G : isG Wk n0 f) (g14 : n0 ≤ 14) (g1 : 1 ≤ n0) (eA1 : (f (n0 - 1)).1 = .inr (bs, on)) (hma : (f (n0 - 1)).2 = -1 ∨ ∃ j, j < 14 ∧ (f (n0 - 1)).2 = nI j) (hro480 : ∀ s, s < 25 → (frF fr to Ff Z (480 + s)).told = true → (frF fr to Ff Z (480 + s)).n = 1 ∧ ∃ x0, ((frF fr to Ff Z (480 + s)).f 0).1 = .inl x0 ∧ okS x0) : gi_T l V y_St_useArray b_St_useArray 5 (some .boolean) 4 102 0 0 [.ref a, .int (nI 29)] n h (fun r n' h' => n' = n ∧ ∃ x' y' ar' ou' Wk', stO a pr bu fr to hB S x' y' nx ny ar' ou' be ab Wk' Wy En Lo h' ∧ ((gathF (frF fr to Ff Z) 480 bs 25 = none ∧ r = some (.int 0)) ∨ ∃ z, gathF (frF fr to Ff Z) 480 bs 25 = some z ∧ r = some (.int 1) ∧ isG Wk' n0 (upF (tellF (n0 - 1) f (f (n0 - 1)).2 (.inr (bs, false))) (n0 - 1) (.inl z, -1)))) := by
  refine gi_enter (by decide) (Nat.le_of_ble_eq_true rfl) ?_
  intro _ _ _ _ _ _ _ _ C hr hnm
  refine gi_iload_n (q := 1) (i := 1) C (dm_St_useArray 0 rfl) rfl rfl rfl ?_
  refine gi_bipush (q := 3) (v := 31) C (dm_St_useArray 1 rfl) rfl (by decide) ?_
  refine gi_icmp_ne (q := 6) (tgt := 18) C (dm_St_useArray 2 rfl) rfl (by decide) (fun c3 => ?_) (fun c3 => ?_)
  · refine gi_iload_n (q := 19) (i := 1) C (dm_St_useArray 9 rfl) rfl rfl rfl ?_
    refine gi_bipush (q := 21) (v := 29) C (dm_St_useArray 10 rfl) rfl (by decide) ?_
    refine gi_icmp_ne (q := 24) (tgt := 28) C (dm_St_useArray 11 rfl) rfl (by decide) (fun c21 => ?_) (fun c21 => ?_)
    · exact absurd rfl c21
    · refine gi_iconst (q := 25) (v := -1) C (dm_St_useArray 12 rfl) rfl (by decide) ?_
      refine gi_goto (tgt := 39) C (dm_St_useArray 13 rfl) (by decide) ?_
      refine gi_istore_n (q := 40) (i := 2) C (dm_St_useArray 19 rfl) rfl rfl (Nat.le_of_ble_eq_true rfl) ?_
      refine gi_aload_n (q := 41) (i := 0) C (dm_St_useArray 20 rfl) rfl rfl rfl ?_
      refine gi_get (q := 44) C (dm_St_useArray 21 rfl) rfl fl_St_23 (by first | exact Q177.ob | exact Q164.ob | exact Q152.ob | exact Q128.ob | exact Q101.ob | exact Q66.ob | exact Q57.ob | exact Q48.ob | exact Q36.ob | exact Q14.ob | exact Q.ob | exact Q128.vou | exact Q101.vou | exact Q66.vou | exact Q57.var | exact Q48.var | exact Q66.var) rfl ?_
      refine gi_aload_n (q := 45) (i := 0) C (dm_St_useArray 22 rfl) rfl rfl rfl ?_
      refine gi_get (q := 48) C (dm_St_useArray 23 rfl) rfl fl_St_52 (by first | exact Q177.ob | exact Q164.ob | exact Q152.ob | exact Q128.ob | exact Q101.ob | exact Q66.ob | exact Q57.ob | exact Q48.ob | exact Q36.ob | exact Q14.ob | exact Q.ob | exact Q128.vou | exact Q101.vou | exact Q66.vou | exact Q57.var | exact Q48.var | exact Q66.var) rfl ?_
      refine gi_callv 1 (q := 51) C (dm_St_useArray 24 rfl) rfl my_Ro_pop lk_St_198 im_Ro_pop rfl (s_popar Q G (by omega) (by omega)) Q.wk.1 rfl rfl ⟨(Nat.le_of_ble_eq_true rfl), (Nat.le_of_ble_eq_true rfl)⟩ (Nat.le_of_ble_eq_true rfl) ⟨(Nat.le_of_ble_eq_true rfl), (Nat.le_of_ble_eq_true rfl)⟩ (fun r48 n48 h48 e48 => ?_)
      obtain ⟨rfl, rfl, wk48, Q48, G48⟩ := e48
      rw [eA1] at Q48
      refine gi_istore_n (q := 52) (i := 3) C (dm_St_useArray 25 rfl) rfl rfl (Nat.le_of_ble_eq_true rfl) ?_
      refine gi_aload_n (q := 53) (i := 0) C (dm_St_useArray 26 rfl) rfl rfl rfl ?_
      refine gi_get (q := 56) C (dm_St_useArray 27 rfl) rfl fl_St_52 (by first | exact Q177.ob | exact Q164.ob | exact Q152.ob | exact Q128.ob | exact Q101.ob | exact Q66.ob | exact Q57.ob | exact Q48.ob | exact Q36.ob | exact Q14.ob | exact Q.ob | exact Q128.vou | exact Q101.vou | exact Q66.vou | exact Q57.var | exact Q48.var | exact Q66.var) rfl ?_
      refine gi_iconst (q := 57) (v := 0) C (dm_St_useArray 28 rfl) rfl (by decide) ?_
      refine gi_put (q := 60) C (dm_St_useArray 29 rfl) rfl fl_St_252 fp_Va_5 Q48.var (Nat.le_of_ble_eq_true rfl) rfl rfl ?_
      have Q57 := Q48.par (tV bs false)
      refine gi_aload_n (q := 61) (i := 0) C (dm_St_useArray 30 rfl) rfl rfl rfl ?_
      refine gi_iconst (q := 62) (v := 1) C (dm_St_useArray 31 rfl) rfl (by decide) ?_
      refine gi_aload_n (q := 63) (i := 0) C (dm_St_useArray 32 rfl) rfl rfl rfl ?_
      refine gi_get (q := 66) C (dm_St_useArray 33 rfl) rfl fl_St_55 (by first | exact Q177.ob | exact Q164.ob | exact Q152.ob | exact Q128.ob | exact Q101.ob | exact Q66.ob | exact Q57.ob | exact Q48.ob | exact Q36.ob | exact Q14.ob | exact Q.ob | exact Q128.vou | exact Q101.vou | exact Q66.vou | exact Q57.var | exact Q48.var | exact Q66.var) rfl ?_
      refine gi_callv 2 (q := 69) C (dm_St_useArray 34 rfl) rfl my_St_gather lk_St_275 im_St_gather rfl (c_St_gather_480 bs false hT d B Q57 hro480) Q57.ob rfl rfl ⟨(Nat.le_of_ble_eq_true rfl), (Nat.le_of_ble_eq_true rfl)⟩ (Nat.le_of_ble_eq_true rfl) ⟨(Nat.le_of_ble_eq_true rfl), (Nat.le_of_ble_eq_true rfl)⟩ (fun r66 n66 h66 e66 => ?_)
      obtain ⟨rfl, rfl, Q66⟩ := e66
      refine gi_aload_n (q := 70) (i := 0) C (dm_St_useArray 35 rfl) rfl rfl rfl ?_
      refine gi_get (q := 73) C (dm_St_useArray 36 rfl) rfl fl_St_55 (by first | exact Q177.ob | exact Q164.ob | exact Q152.ob | exact Q128.ob | exact Q101.ob | exact Q66.ob | exact Q57.ob | exact Q48.ob | exact Q36.ob | exact Q14.ob | exact Q.ob | exact Q128.vou | exact Q101.vou | exact Q66.vou | exact Q57.var | exact Q48.var | exact Q66.var) rfl ?_
      refine gi_callv 0 (q := 76) C (dm_St_useArray 37 rfl) rfl my_Va_isNothing lk_St_211 im_Va_isNothing rfl (c_Va_isNothing (a + 64) _ Q66.vou) Q66.vou rfl rfl ⟨(Nat.le_of_ble_eq_true rfl), (Nat.le_of_ble_eq_true rfl)⟩ (Nat.le_of_ble_eq_true rfl) ⟨(Nat.le_of_ble_eq_true rfl), (Nat.le_of_ble_eq_true rfl)⟩ (fun r73 n73 h73 e73 => ?_)
      obtain ⟨rfl, q73, u73⟩ := e73
      rw [q73, u73]
      refine gi_if_eq (q := 79) (tgt := 81) C (dm_St_useArray 38 rfl) rfl (by decide) (fun c76 => ?_) (fun c76 => ?_)
      · have nzz0 := (no_W (fun z e => gath_ok (fun s h1 h2 => by obtain ⟨-, x1, e2, o2⟩ := hro480 s h1 h2; rw [e2]; exact o2) 25 (by omega) z e)).mp c76
        rcases ez0 : gathF (frF fr to Ff Z) 480 bs 25 with _ | z0
        · exact absurd ez0 nzz0
        rw [ez0, wS_s] at Q66
        have oz0 := (fun z e => gath_ok (fun s h1 h2 => by obtain ⟨-, x1, e2, o2⟩ := hro480 s h1 h2; rw [e2]; exact o2) 25 (by omega) z e) z0 ez0
        refine gi_iload_n (q := 82) (i := 1) C (dm_St_useArray 41 rfl) rfl rfl rfl ?_
        refine gi_bipush (q := 84) (v := 29) C (dm_St_useArray 42 rfl) rfl (by decide) ?_
        refine gi_icmp_eq (q := 87) (tgt := 116) C (dm_St_useArray 43 rfl) rfl (by decide) (fun c84 => ?_) (fun c84 => ?_)
        · refine gi_iload_n (q := 117) (i := 1) C (dm_St_useArray 59 rfl) rfl rfl rfl ?_
          refine gi_bipush (q := 119) (v := 30) C (dm_St_useArray 60 rfl) rfl (by decide) ?_
          refine gi_icmp_ne (q := 122) (tgt := 143) C (dm_St_useArray 61 rfl) rfl (by decide) (fun c119 => ?_) (fun c119 => ?_)
          · refine gi_aload_n (q := 144) (i := 0) C (dm_St_useArray 73 rfl) rfl rfl rfl ?_
            refine gi_get (q := 147) C (dm_St_useArray 74 rfl) rfl fl_St_23 (by first | exact Q177.ob | exact Q164.ob | exact Q152.ob | exact Q128.ob | exact Q101.ob | exact Q66.ob | exact Q57.ob | exact Q48.ob | exact Q36.ob | exact Q14.ob | exact Q.ob | exact Q128.vou | exact Q101.vou | exact Q66.vou | exact Q57.var | exact Q48.var | exact Q66.var) rfl ?_
            refine gi_iload_n (q := 148) (i := 3) C (dm_St_useArray 75 rfl) rfl rfl rfl ?_
            refine gi_aload_n (q := 149) (i := 0) C (dm_St_useArray 76 rfl) rfl rfl rfl ?_
            refine gi_get (q := 152) C (dm_St_useArray 77 rfl) rfl fl_St_52 (by first | exact Q177.ob | exact Q164.ob | exact Q152.ob | exact Q128.ob | exact Q101.ob | exact Q66.ob | exact Q57.ob | exact Q48.ob | exact Q36.ob | exact Q14.ob | exact Q.ob | exact Q128.vou | exact Q101.vou | exact Q66.vou | exact Q57.var | exact Q48.var | exact Q66.var) rfl ?_
            refine gi_callv 2 (q := 155) C (dm_St_useArray 78 rfl) rfl my_Ro_tell lk_St_214 im_Ro_tell rfl (s_tellWk (a + 63) (.inr (bs, false)) _ Q66 G48 (by omega) hma (by omega) Q66.var) Q66.wk.1 rfl rfl ⟨(Nat.le_of_ble_eq_true rfl), (Nat.le_of_ble_eq_true rfl)⟩ (Nat.le_of_ble_eq_true rfl) ⟨(Nat.le_of_ble_eq_true rfl), (Nat.le_of_ble_eq_true rfl)⟩ (fun r152 n152 h152 e152 => ?_)
            obtain ⟨rfl, rfl, wk152, Q152, G152⟩ := e152
            refine gi_aload_n (q := 156) (i := 0) C (dm_St_useArray 79 rfl) rfl rfl rfl ?_
            refine gi_get (q := 159) C (dm_St_useArray 80 rfl) rfl fl_St_23 (by first | exact Q177.ob | exact Q164.ob | exact Q152.ob | exact Q128.ob | exact Q101.ob | exact Q66.ob | exact Q57.ob | exact Q48.ob | exact Q36.ob | exact Q14.ob | exact Q.ob | exact Q128.vou | exact Q101.vou | exact Q66.vou | exact Q57.var | exact Q48.var | exact Q66.var) rfl ?_
            refine gi_iload_n (q := 160) (i := 2) C (dm_St_useArray 81 rfl) rfl rfl rfl ?_
            refine gi_aload_n (q := 161) (i := 0) C (dm_St_useArray 82 rfl) rfl rfl rfl ?_
            refine gi_get (q := 164) C (dm_St_useArray 83 rfl) rfl fl_St_39 (by first | exact Q177.ob | exact Q164.ob | exact Q152.ob | exact Q128.ob | exact Q101.ob | exact Q66.ob | exact Q57.ob | exact Q48.ob | exact Q36.ob | exact Q14.ob | exact Q.ob | exact Q128.vou | exact Q101.vou | exact Q66.vou | exact Q57.var | exact Q48.var | exact Q66.var) rfl ?_
            refine gi_callv 2 (q := 167) C (dm_St_useArray 84 rfl) rfl my_Ro_tell lk_St_214 im_Ro_tell rfl (c_Ro_tell_n (a + 59)) Q152.wk.1 rfl rfl ⟨(Nat.le_of_ble_eq_true rfl), (Nat.le_of_ble_eq_true rfl)⟩ (Nat.le_of_ble_eq_true rfl) ⟨(Nat.le_of_ble_eq_true rfl), (Nat.le_of_ble_eq_true rfl)⟩ (fun r164 n164 h164 e164 => ?_)
            obtain ⟨rfl, q164, u164⟩ := e164
            rw [q164, u164]
            refine gi_iload_n (q := 168) (i := 1) C (dm_St_useArray 85 rfl) rfl rfl rfl ?_
            refine gi_bipush (q := 170) (v := 31) C (dm_St_useArray 86 rfl) rfl (by decide) ?_
            refine gi_icmp_eq (q := 173) (tgt := 189) C (dm_St_useArray 87 rfl) rfl (by decide) (fun c170 => ?_) (fun c170 => ?_)
            · exact absurd c170 (by decide)
            · refine gi_aload_n (q := 174) (i := 0) C (dm_St_useArray 88 rfl) rfl rfl rfl ?_
              refine gi_get (q := 177) C (dm_St_useArray 89 rfl) rfl fl_St_23 (by first | exact Q177.ob | exact Q164.ob | exact Q152.ob | exact Q128.ob | exact Q101.ob | exact Q66.ob | exact Q57.ob | exact Q48.ob | exact Q36.ob | exact Q14.ob | exact Q.ob | exact Q128.vou | exact Q101.vou | exact Q66.vou | exact Q57.var | exact Q48.var | exact Q66.var) rfl ?_
              refine gi_callv 0 (q := 180) C (dm_St_useArray 90 rfl) rfl my_Ro_push lk_St_95 im_Ro_push rfl (s_push Q152 G152 (by omega)) Q152.wk.1 rfl rfl ⟨(Nat.le_of_ble_eq_true rfl), (Nat.le_of_ble_eq_true rfl)⟩ (Nat.le_of_ble_eq_true rfl) ⟨(Nat.le_of_ble_eq_true rfl), (Nat.le_of_ble_eq_true rfl)⟩ (fun r177 n177 h177 e177 => ?_)
              obtain ⟨rfl, qq, W1, uu, rfl, k1, k2, k3, Q177, K⟩ := e177
              refine gi_aload_n (q := 181) (i := 0) C (dm_St_useArray 91 rfl) rfl rfl rfl ?_
              refine gi_get (q := 184) C (dm_St_useArray 92 rfl) rfl fl_St_55 (by first | exact Q177.ob | exact Q164.ob | exact Q152.ob | exact Q128.ob | exact Q101.ob | exact Q66.ob | exact Q57.ob | exact Q48.ob | exact Q36.ob | exact Q14.ob | exact Q.ob | exact Q128.vou | exact Q101.vou | exact Q66.vou | exact Q57.var | exact Q48.var | exact Q66.var) rfl ?_
              refine gi_callv 1 (q := 187) C (dm_St_useArray 93 rfl) rfl my_Va_copy lk_St_99 im_Va_copy rfl (c_Va_copy qq (a + 64) uu (sV z0) k3 Q177.vou (by omega) (wf_s _)) k3 rfl rfl ⟨(Nat.le_of_ble_eq_true rfl), (Nat.le_of_ble_eq_true rfl)⟩ (Nat.le_of_ble_eq_true rfl) ⟨(Nat.le_of_ble_eq_true rfl), (Nat.le_of_ble_eq_true rfl)⟩ (fun r184 n184 h184 e184 => ?_)
              obtain ⟨rfl, rfl, rfl⟩ := e184
              refine gi_iconst (q := 188) (v := 1) C (dm_St_useArray 94 rfl) rfl (by decide) ?_
              refine gi_zret C hr (dm_St_useArray 95 rfl) rfl ?_
              refine ⟨rfl, _, _, _, _, _, (K (.inl z0)).1, Or.inr ⟨z0, rfl, rfl, ?_⟩⟩
              have t := (K (.inl z0)).2
              rw [show n0 - 1 + 1 = n0 by omega] at t
              exact t
          · exact absurd c119 (by decide)
        · exact absurd rfl c84
      · refine gi_iconst (q := 80) (v := 0) C (dm_St_useArray 39 rfl) rfl (by decide) ?_
        refine gi_zret C hr (dm_St_useArray 40 rfl) rfl ?_
        exact ⟨rfl, _, _, _, _, _, Q66, Or.inl ⟨Classical.byContradiction (fun z => c76 ((no_W (fun z e => gath_ok (fun s h1 h2 => by obtain ⟨-, x1, e2, o2⟩ := hro480 s h1 h2; rw [e2]; exact o2) 25 (by omega) z e)).mpr z)), rfl⟩⟩
  · exact absurd c3 (by decide)
set_option maxHeartbeats 4000000 in
set_option maxRecDepth 100000 in
theorem c_St_useArray_30 (bs : Int32) (on : Bool) (Xs : Sp) (h2 : md ≤ 2) (W : wfP k P) (hm : m < k) (hT : ∀ t, t < 542 → (T t).1 ≤ 14) (d : DJ a pr bu fr to) (B : SB a pr bu fr to k md P sn wd T Ff Z hA hB) (hS : SS S md m i Z.2) (Q : stO a pr bu fr to hB S x y nx ny ar ou be ab Wk Wy En Lo h) (G : isG Wk n0 f) (g14 : n0 ≤ 14) (g1 : 2 ≤ n0) (eX : (f (n0 - 1)).1 = .inl Xs) (hX : okS Xs) (eA1 : (f (n0 - 2)).1 = .inr (bs, on)) (hma : (f (n0 - 2)).2 = -1 ∨ ∃ j, j < 14 ∧ (f (n0 - 2)).2 = nI j) (hmx : (f (n0 - 1)).2 = -1 ∨ ∃ j, j < 14 ∧ (f (n0 - 1)).2 = nI j) (hro480 : ∀ s, s < 25 → (frF fr to Ff Z (480 + s)).told = true → (frF fr to Ff Z (480 + s)).n = 1 ∧ ∃ x0, ((frF fr to Ff Z (480 + s)).f 0).1 = .inl x0 ∧ okS x0) (hro505 : ∀ s, s < 25 → (frF fr to Ff Z (505 + s)).told = true → (frF fr to Ff Z (505 + s)).n = 1 ∧ ∃ x0, ((frF fr to Ff Z (505 + s)).f 0).1 = .inl x0 ∧ okS x0) : gi_T l V y_St_useArray b_St_useArray 5 (some .boolean) 4 102 0 0 [.ref a, .int (nI 30)] n h (fun r n' h' => n' = n ∧ ∃ x' y' ar' ou' Wk', stO a pr bu fr to hB S x' y' nx ny ar' ou' be ab Wk' Wy En Lo h' ∧ ((gathF (frF fr to Ff Z) 480 bs 25 = none ∧ r = some (.int 0)) ∨ ∃ z, gathF (frF fr to Ff Z) 480 bs 25 = some z ∧ ((withinS Xs 0 (z.2.1 - 1) = none ∧ r = some (.int 0)) ∨ ∃ x', withinS Xs 0 (z.2.1 - 1) = some x' ∧ ((gathF (frF fr to Ff Z) 505 bs 25 = none ∧ r = some (.int 0)) ∨ ∃ e, gathF (frF fr to Ff Z) 505 bs 25 = some e ∧ r = some (.int 1) ∧ isG Wk' (n0 - 1) (upF (tellF (n0 - 2) (tellF (n0 - 2) f (f (n0 - 2)).2 (.inr (bs, false))) (f (n0 - 1)).2 (.inl x')) (n0 - 2) (.inl e, -1)))))) := by
  refine gi_enter (by decide) (Nat.le_of_ble_eq_true rfl) ?_
  intro _ _ _ _ _ _ _ _ C hr hnm
  refine gi_iload_n (q := 1) (i := 1) C (dm_St_useArray 0 rfl) rfl rfl rfl ?_
  refine gi_bipush (q := 3) (v := 31) C (dm_St_useArray 1 rfl) rfl (by decide) ?_
  refine gi_icmp_ne (q := 6) (tgt := 18) C (dm_St_useArray 2 rfl) rfl (by decide) (fun c3 => ?_) (fun c3 => ?_)
  · refine gi_iload_n (q := 19) (i := 1) C (dm_St_useArray 9 rfl) rfl rfl rfl ?_
    refine gi_bipush (q := 21) (v := 29) C (dm_St_useArray 10 rfl) rfl (by decide) ?_
    refine gi_icmp_ne (q := 24) (tgt := 28) C (dm_St_useArray 11 rfl) rfl (by decide) (fun c21 => ?_) (fun c21 => ?_)
    · refine gi_aload_n (q := 29) (i := 0) C (dm_St_useArray 14 rfl) rfl rfl rfl ?_
      refine gi_get (q := 32) C (dm_St_useArray 15 rfl) rfl fl_St_23 (by first | exact Q177.ob | exact Q164.ob | exact Q152.ob | exact Q128.ob | exact Q101.ob | exact Q66.ob | exact Q57.ob | exact Q48.ob | exact Q36.ob | exact Q14.ob | exact Q.ob | exact Q128.vou | exact Q101.vou | exact Q66.vou | exact Q57.var | exact Q48.var | exact Q66.var) rfl ?_
      refine gi_aload_n (q := 33) (i := 0) C (dm_St_useArray 16 rfl) rfl rfl rfl ?_
      refine gi_get (q := 36) C (dm_St_useArray 17 rfl) rfl fl_St_39 (by first | exact Q177.ob | exact Q164.ob | exact Q152.ob | exact Q128.ob | exact Q101.ob | exact Q66.ob | exact Q57.ob | exact Q48.ob | exact Q36.ob | exact Q14.ob | exact Q.ob | exact Q128.vou | exact Q101.vou | exact Q66.vou | exact Q57.var | exact Q48.var | exact Q66.var) rfl ?_
      refine gi_callv 1 (q := 39) C (dm_St_useArray 18 rfl) rfl my_Ro_pop lk_St_198 im_Ro_pop rfl (s_popx Q G (by omega) (by omega)) Q.wk.1 rfl rfl ⟨(Nat.le_of_ble_eq_true rfl), (Nat.le_of_ble_eq_true rfl)⟩ (Nat.le_of_ble_eq_true rfl) ⟨(Nat.le_of_ble_eq_true rfl), (Nat.le_of_ble_eq_true rfl)⟩ (fun r36 n36 h36 e36 => ?_)
      obtain ⟨rfl, rfl, wk36, Q36, G36⟩ := e36
      rw [eX] at Q36
      refine gi_istore_n (q := 40) (i := 2) C (dm_St_useArray 19 rfl) rfl rfl (Nat.le_of_ble_eq_true rfl) ?_
      refine gi_aload_n (q := 41) (i := 0) C (dm_St_useArray 20 rfl) rfl rfl rfl ?_
      refine gi_get (q := 44) C (dm_St_useArray 21 rfl) rfl fl_St_23 (by first | exact Q177.ob | exact Q164.ob | exact Q152.ob | exact Q128.ob | exact Q101.ob | exact Q66.ob | exact Q57.ob | exact Q48.ob | exact Q36.ob | exact Q14.ob | exact Q.ob | exact Q128.vou | exact Q101.vou | exact Q66.vou | exact Q57.var | exact Q48.var | exact Q66.var) rfl ?_
      refine gi_aload_n (q := 45) (i := 0) C (dm_St_useArray 22 rfl) rfl rfl rfl ?_
      refine gi_get (q := 48) C (dm_St_useArray 23 rfl) rfl fl_St_52 (by first | exact Q177.ob | exact Q164.ob | exact Q152.ob | exact Q128.ob | exact Q101.ob | exact Q66.ob | exact Q57.ob | exact Q48.ob | exact Q36.ob | exact Q14.ob | exact Q.ob | exact Q128.vou | exact Q101.vou | exact Q66.vou | exact Q57.var | exact Q48.var | exact Q66.var) rfl ?_
      refine gi_callv 1 (q := 51) C (dm_St_useArray 24 rfl) rfl my_Ro_pop lk_St_198 im_Ro_pop rfl (s_popar Q36 G36 (by omega) (by omega)) Q36.wk.1 rfl rfl ⟨(Nat.le_of_ble_eq_true rfl), (Nat.le_of_ble_eq_true rfl)⟩ (Nat.le_of_ble_eq_true rfl) ⟨(Nat.le_of_ble_eq_true rfl), (Nat.le_of_ble_eq_true rfl)⟩ (fun r48 n48 h48 e48 => ?_)
      obtain ⟨rfl, rfl, wk48, Q48, G48⟩ := e48
      rw [show n0 - 1 - 1 = n0 - 2 by omega] at Q48 G48
      rw [show n0 - 1 - 1 = n0 - 2 by omega]
      rw [eA1] at Q48
      refine gi_istore_n (q := 52) (i := 3) C (dm_St_useArray 25 rfl) rfl rfl (Nat.le_of_ble_eq_true rfl) ?_
      refine gi_aload_n (q := 53) (i := 0) C (dm_St_useArray 26 rfl) rfl rfl rfl ?_
      refine gi_get (q := 56) C (dm_St_useArray 27 rfl) rfl fl_St_52 (by first | exact Q177.ob | exact Q164.ob | exact Q152.ob | exact Q128.ob | exact Q101.ob | exact Q66.ob | exact Q57.ob | exact Q48.ob | exact Q36.ob | exact Q14.ob | exact Q.ob | exact Q128.vou | exact Q101.vou | exact Q66.vou | exact Q57.var | exact Q48.var | exact Q66.var) rfl ?_
      refine gi_iconst (q := 57) (v := 0) C (dm_St_useArray 28 rfl) rfl (by decide) ?_
      refine gi_put (q := 60) C (dm_St_useArray 29 rfl) rfl fl_St_252 fp_Va_5 Q48.var (Nat.le_of_ble_eq_true rfl) rfl rfl ?_
      have Q57 := Q48.par (tV bs false)
      refine gi_aload_n (q := 61) (i := 0) C (dm_St_useArray 30 rfl) rfl rfl rfl ?_
      refine gi_iconst (q := 62) (v := 1) C (dm_St_useArray 31 rfl) rfl (by decide) ?_
      refine gi_aload_n (q := 63) (i := 0) C (dm_St_useArray 32 rfl) rfl rfl rfl ?_
      refine gi_get (q := 66) C (dm_St_useArray 33 rfl) rfl fl_St_55 (by first | exact Q177.ob | exact Q164.ob | exact Q152.ob | exact Q128.ob | exact Q101.ob | exact Q66.ob | exact Q57.ob | exact Q48.ob | exact Q36.ob | exact Q14.ob | exact Q.ob | exact Q128.vou | exact Q101.vou | exact Q66.vou | exact Q57.var | exact Q48.var | exact Q66.var) rfl ?_
      refine gi_callv 2 (q := 69) C (dm_St_useArray 34 rfl) rfl my_St_gather lk_St_275 im_St_gather rfl (c_St_gather_480 bs false hT d B Q57 hro480) Q57.ob rfl rfl ⟨(Nat.le_of_ble_eq_true rfl), (Nat.le_of_ble_eq_true rfl)⟩ (Nat.le_of_ble_eq_true rfl) ⟨(Nat.le_of_ble_eq_true rfl), (Nat.le_of_ble_eq_true rfl)⟩ (fun r66 n66 h66 e66 => ?_)
      obtain ⟨rfl, rfl, Q66⟩ := e66
      refine gi_aload_n (q := 70) (i := 0) C (dm_St_useArray 35 rfl) rfl rfl rfl ?_
      refine gi_get (q := 73) C (dm_St_useArray 36 rfl) rfl fl_St_55 (by first | exact Q177.ob | exact Q164.ob | exact Q152.ob | exact Q128.ob | exact Q101.ob | exact Q66.ob | exact Q57.ob | exact Q48.ob | exact Q36.ob | exact Q14.ob | exact Q.ob | exact Q128.vou | exact Q101.vou | exact Q66.vou | exact Q57.var | exact Q48.var | exact Q66.var) rfl ?_
      refine gi_callv 0 (q := 76) C (dm_St_useArray 37 rfl) rfl my_Va_isNothing lk_St_211 im_Va_isNothing rfl (c_Va_isNothing (a + 64) _ Q66.vou) Q66.vou rfl rfl ⟨(Nat.le_of_ble_eq_true rfl), (Nat.le_of_ble_eq_true rfl)⟩ (Nat.le_of_ble_eq_true rfl) ⟨(Nat.le_of_ble_eq_true rfl), (Nat.le_of_ble_eq_true rfl)⟩ (fun r73 n73 h73 e73 => ?_)
      obtain ⟨rfl, q73, u73⟩ := e73
      rw [q73, u73]
      refine gi_if_eq (q := 79) (tgt := 81) C (dm_St_useArray 38 rfl) rfl (by decide) (fun c76 => ?_) (fun c76 => ?_)
      · have nzz0 := (no_W (fun z e => gath_ok (fun s h1 h2 => by obtain ⟨-, x1, e2, o2⟩ := hro480 s h1 h2; rw [e2]; exact o2) 25 (by omega) z e)).mp c76
        rcases ez0 : gathF (frF fr to Ff Z) 480 bs 25 with _ | z0
        · exact absurd ez0 nzz0
        rw [ez0, wS_s] at Q66
        have oz0 := (fun z e => gath_ok (fun s h1 h2 => by obtain ⟨-, x1, e2, o2⟩ := hro480 s h1 h2; rw [e2]; exact o2) 25 (by omega) z e) z0 ez0
        obtain ⟨zb1, zb2, zb3, -⟩ := id oz0
        refine gi_iload_n (q := 82) (i := 1) C (dm_St_useArray 41 rfl) rfl rfl rfl ?_
        refine gi_bipush (q := 84) (v := 29) C (dm_St_useArray 42 rfl) rfl (by decide) ?_
        refine gi_icmp_eq (q := 87) (tgt := 116) C (dm_St_useArray 43 rfl) rfl (by decide) (fun c84 => ?_) (fun c84 => ?_)
        · exact absurd c84 (by decide)
        · refine gi_aload_n (q := 88) (i := 0) C (dm_St_useArray 44 rfl) rfl rfl rfl ?_
          refine gi_get (q := 91) C (dm_St_useArray 45 rfl) rfl fl_St_39 (by first | exact Q177.ob | exact Q164.ob | exact Q152.ob | exact Q128.ob | exact Q101.ob | exact Q66.ob | exact Q57.ob | exact Q48.ob | exact Q36.ob | exact Q14.ob | exact Q.ob | exact Q128.vou | exact Q101.vou | exact Q66.vou | exact Q57.var | exact Q48.var | exact Q66.var) rfl ?_
          refine gi_lconst (q := 92) (v := 0) C (dm_St_useArray 46 rfl) rfl (by decide) ?_
          refine gi_aload_n (q := 93) (i := 0) C (dm_St_useArray 47 rfl) rfl rfl rfl ?_
          refine gi_get (q := 96) C (dm_St_useArray 48 rfl) rfl fl_St_55 (by first | exact Q177.ob | exact Q164.ob | exact Q152.ob | exact Q128.ob | exact Q101.ob | exact Q66.ob | exact Q57.ob | exact Q48.ob | exact Q36.ob | exact Q14.ob | exact Q.ob | exact Q128.vou | exact Q101.vou | exact Q66.vou | exact Q57.var | exact Q48.var | exact Q66.var) rfl ?_
          refine gi_get (q := 99) C (dm_St_useArray 49 rfl) rfl fl_St_231 Q66.vou rfl ?_
          refine gi_lconst (q := 100) (v := 1) C (dm_St_useArray 50 rfl) rfl (by decide) ?_
          refine gi_lsub (q := 101) C (dm_St_useArray 51 rfl) rfl ?_
          rw [eL_0, eL_1, eL_sub]
          refine gi_callv 2 (q := 104) C (dm_St_useArray 52 rfl) rfl my_Va_within lk_St_234 im_Va_within rfl (c_Va_within (a + 59) Xs 0 (z0.2.1 - 1) hX.b (by decide) (by decide) (by omega) (by omega) Q66.vx) Q66.vx rfl rfl ⟨(Nat.le_of_ble_eq_true rfl), (Nat.le_of_ble_eq_true rfl)⟩ (Nat.le_of_ble_eq_true rfl) ⟨(Nat.le_of_ble_eq_true rfl), (Nat.le_of_ble_eq_true rfl)⟩ (fun r101 n101 h101 e101 => ?_)
          obtain ⟨rfl, rfl, rfl⟩ := e101
          have Q101 := Q66.px (sV (wS (withinS Xs 0 (z0.2.1 - 1))))
          refine gi_aload_n (q := 105) (i := 0) C (dm_St_useArray 53 rfl) rfl rfl rfl ?_
          refine gi_get (q := 108) C (dm_St_useArray 54 rfl) rfl fl_St_39 (by first | exact Q177.ob | exact Q164.ob | exact Q152.ob | exact Q128.ob | exact Q101.ob | exact Q66.ob | exact Q57.ob | exact Q48.ob | exact Q36.ob | exact Q14.ob | exact Q.ob | exact Q128.vou | exact Q101.vou | exact Q66.vou | exact Q57.var | exact Q48.var | exact Q66.var) rfl ?_
          refine gi_callv 0 (q := 111) C (dm_St_useArray 55 rfl) rfl my_Va_isNothing lk_St_211 im_Va_isNothing rfl (c_Va_isNothing (a + 59) _ Q101.vx) Q101.vx rfl rfl ⟨(Nat.le_of_ble_eq_true rfl), (Nat.le_of_ble_eq_true rfl)⟩ (Nat.le_of_ble_eq_true rfl) ⟨(Nat.le_of_ble_eq_true rfl), (Nat.le_of_ble_eq_true rfl)⟩ (fun r108 n108 h108 e108 => ?_)
          obtain ⟨rfl, q108, u108⟩ := e108
          rw [q108, u108]
          refine gi_if_eq (q := 114) (tgt := 116) C (dm_St_useArray 56 rfl) rfl (by decide) (fun c111 => ?_) (fun c111 => ?_)
          · have nx' := (no_W (fun z e => (within_ok hX e).1)).mp c111
            rcases ex : withinS Xs 0 (z0.2.1 - 1) with _ | x'
            · exact absurd ex nx'
            rw [ex, wS_s] at Q101
            refine gi_iload_n (q := 117) (i := 1) C (dm_St_useArray 59 rfl) rfl rfl rfl ?_
            refine gi_bipush (q := 119) (v := 30) C (dm_St_useArray 60 rfl) rfl (by decide) ?_
            refine gi_icmp_ne (q := 122) (tgt := 143) C (dm_St_useArray 61 rfl) rfl (by decide) (fun c119 => ?_) (fun c119 => ?_)
            · exact absurd rfl c119
            · refine gi_aload_n (q := 123) (i := 0) C (dm_St_useArray 62 rfl) rfl rfl rfl ?_
              refine gi_iconst (q := 124) (v := 0) C (dm_St_useArray 63 rfl) rfl (by decide) ?_
              refine gi_aload_n (q := 125) (i := 0) C (dm_St_useArray 64 rfl) rfl rfl rfl ?_
              refine gi_get (q := 128) C (dm_St_useArray 65 rfl) rfl fl_St_55 (by first | exact Q177.ob | exact Q164.ob | exact Q152.ob | exact Q128.ob | exact Q101.ob | exact Q66.ob | exact Q57.ob | exact Q48.ob | exact Q36.ob | exact Q14.ob | exact Q.ob | exact Q128.vou | exact Q101.vou | exact Q66.vou | exact Q57.var | exact Q48.var | exact Q66.var) rfl ?_
              refine gi_callv 2 (q := 131) C (dm_St_useArray 66 rfl) rfl my_St_gather lk_St_275 im_St_gather rfl (c_St_gather_505 bs false hT d B Q101 hro505) Q101.ob rfl rfl ⟨(Nat.le_of_ble_eq_true rfl), (Nat.le_of_ble_eq_true rfl)⟩ (Nat.le_of_ble_eq_true rfl) ⟨(Nat.le_of_ble_eq_true rfl), (Nat.le_of_ble_eq_true rfl)⟩ (fun r128 n128 h128 e128 => ?_)
              obtain ⟨rfl, rfl, Q128⟩ := e128
              refine gi_aload_n (q := 132) (i := 0) C (dm_St_useArray 67 rfl) rfl rfl rfl ?_
              refine gi_get (q := 135) C (dm_St_useArray 68 rfl) rfl fl_St_55 (by first | exact Q177.ob | exact Q164.ob | exact Q152.ob | exact Q128.ob | exact Q101.ob | exact Q66.ob | exact Q57.ob | exact Q48.ob | exact Q36.ob | exact Q14.ob | exact Q.ob | exact Q128.vou | exact Q101.vou | exact Q66.vou | exact Q57.var | exact Q48.var | exact Q66.var) rfl ?_
              refine gi_callv 0 (q := 138) C (dm_St_useArray 69 rfl) rfl my_Va_isNothing lk_St_211 im_Va_isNothing rfl (c_Va_isNothing (a + 64) _ Q128.vou) Q128.vou rfl rfl ⟨(Nat.le_of_ble_eq_true rfl), (Nat.le_of_ble_eq_true rfl)⟩ (Nat.le_of_ble_eq_true rfl) ⟨(Nat.le_of_ble_eq_true rfl), (Nat.le_of_ble_eq_true rfl)⟩ (fun r135 n135 h135 e135 => ?_)
              obtain ⟨rfl, q135, u135⟩ := e135
              rw [q135, u135]
              refine gi_if_eq (q := 141) (tgt := 143) C (dm_St_useArray 70 rfl) rfl (by decide) (fun c138 => ?_) (fun c138 => ?_)
              · have nze0 := (no_W (fun z e => gath_ok (fun s h1 h2 => by obtain ⟨-, x1, e2, o2⟩ := hro505 s h1 h2; rw [e2]; exact o2) 25 (by omega) z e)).mp c138
                rcases ee0 : gathF (frF fr to Ff Z) 505 bs 25 with _ | e0
                · exact absurd ee0 nze0
                rw [ee0, wS_s] at Q128
                have oe0 := (fun z e => gath_ok (fun s h1 h2 => by obtain ⟨-, x1, e2, o2⟩ := hro505 s h1 h2; rw [e2]; exact o2) 25 (by omega) z e) e0 ee0
                refine gi_aload_n (q := 144) (i := 0) C (dm_St_useArray 73 rfl) rfl rfl rfl ?_
                refine gi_get (q := 147) C (dm_St_useArray 74 rfl) rfl fl_St_23 (by first | exact Q177.ob | exact Q164.ob | exact Q152.ob | exact Q128.ob | exact Q101.ob | exact Q66.ob | exact Q57.ob | exact Q48.ob | exact Q36.ob | exact Q14.ob | exact Q.ob | exact Q128.vou | exact Q101.vou | exact Q66.vou | exact Q57.var | exact Q48.var | exact Q66.var) rfl ?_
                refine gi_iload_n (q := 148) (i := 3) C (dm_St_useArray 75 rfl) rfl rfl rfl ?_
                refine gi_aload_n (q := 149) (i := 0) C (dm_St_useArray 76 rfl) rfl rfl rfl ?_
                refine gi_get (q := 152) C (dm_St_useArray 77 rfl) rfl fl_St_52 (by first | exact Q177.ob | exact Q164.ob | exact Q152.ob | exact Q128.ob | exact Q101.ob | exact Q66.ob | exact Q57.ob | exact Q48.ob | exact Q36.ob | exact Q14.ob | exact Q.ob | exact Q128.vou | exact Q101.vou | exact Q66.vou | exact Q57.var | exact Q48.var | exact Q66.var) rfl ?_
                refine gi_callv 2 (q := 155) C (dm_St_useArray 78 rfl) rfl my_Ro_tell lk_St_214 im_Ro_tell rfl (s_tellWk (a + 63) (.inr (bs, false)) _ Q128 G48 (by omega) hma (by omega) Q128.var) Q128.wk.1 rfl rfl ⟨(Nat.le_of_ble_eq_true rfl), (Nat.le_of_ble_eq_true rfl)⟩ (Nat.le_of_ble_eq_true rfl) ⟨(Nat.le_of_ble_eq_true rfl), (Nat.le_of_ble_eq_true rfl)⟩ (fun r152 n152 h152 e152 => ?_)
                obtain ⟨rfl, rfl, wk152, Q152, G152⟩ := e152
                refine gi_aload_n (q := 156) (i := 0) C (dm_St_useArray 79 rfl) rfl rfl rfl ?_
                refine gi_get (q := 159) C (dm_St_useArray 80 rfl) rfl fl_St_23 (by first | exact Q177.ob | exact Q164.ob | exact Q152.ob | exact Q128.ob | exact Q101.ob | exact Q66.ob | exact Q57.ob | exact Q48.ob | exact Q36.ob | exact Q14.ob | exact Q.ob | exact Q128.vou | exact Q101.vou | exact Q66.vou | exact Q57.var | exact Q48.var | exact Q66.var) rfl ?_
                refine gi_iload_n (q := 160) (i := 2) C (dm_St_useArray 81 rfl) rfl rfl rfl ?_
                refine gi_aload_n (q := 161) (i := 0) C (dm_St_useArray 82 rfl) rfl rfl rfl ?_
                refine gi_get (q := 164) C (dm_St_useArray 83 rfl) rfl fl_St_39 (by first | exact Q177.ob | exact Q164.ob | exact Q152.ob | exact Q128.ob | exact Q101.ob | exact Q66.ob | exact Q57.ob | exact Q48.ob | exact Q36.ob | exact Q14.ob | exact Q.ob | exact Q128.vou | exact Q101.vou | exact Q66.vou | exact Q57.var | exact Q48.var | exact Q66.var) rfl ?_
                refine gi_callv 2 (q := 167) C (dm_St_useArray 84 rfl) rfl my_Ro_tell lk_St_214 im_Ro_tell rfl (s_tellWk (a + 59) (.inl x') _ Q152 G152 (by omega) hmx (by omega) Q152.vx) Q152.wk.1 rfl rfl ⟨(Nat.le_of_ble_eq_true rfl), (Nat.le_of_ble_eq_true rfl)⟩ (Nat.le_of_ble_eq_true rfl) ⟨(Nat.le_of_ble_eq_true rfl), (Nat.le_of_ble_eq_true rfl)⟩ (fun r164 n164 h164 e164 => ?_)
                obtain ⟨rfl, rfl, wk164, Q164, G164⟩ := e164
                refine gi_iload_n (q := 168) (i := 1) C (dm_St_useArray 85 rfl) rfl rfl rfl ?_
                refine gi_bipush (q := 170) (v := 31) C (dm_St_useArray 86 rfl) rfl (by decide) ?_
                refine gi_icmp_eq (q := 173) (tgt := 189) C (dm_St_useArray 87 rfl) rfl (by decide) (fun c170 => ?_) (fun c170 => ?_)
                · exact absurd c170 (by decide)
                · refine gi_aload_n (q := 174) (i := 0) C (dm_St_useArray 88 rfl) rfl rfl rfl ?_
                  refine gi_get (q := 177) C (dm_St_useArray 89 rfl) rfl fl_St_23 (by first | exact Q177.ob | exact Q164.ob | exact Q152.ob | exact Q128.ob | exact Q101.ob | exact Q66.ob | exact Q57.ob | exact Q48.ob | exact Q36.ob | exact Q14.ob | exact Q.ob | exact Q128.vou | exact Q101.vou | exact Q66.vou | exact Q57.var | exact Q48.var | exact Q66.var) rfl ?_
                  refine gi_callv 0 (q := 180) C (dm_St_useArray 90 rfl) rfl my_Ro_push lk_St_95 im_Ro_push rfl (s_push Q164 G164 (by omega)) Q164.wk.1 rfl rfl ⟨(Nat.le_of_ble_eq_true rfl), (Nat.le_of_ble_eq_true rfl)⟩ (Nat.le_of_ble_eq_true rfl) ⟨(Nat.le_of_ble_eq_true rfl), (Nat.le_of_ble_eq_true rfl)⟩ (fun r177 n177 h177 e177 => ?_)
                  obtain ⟨rfl, qq, W1, uu, rfl, k1, k2, k3, Q177, K⟩ := e177
                  refine gi_aload_n (q := 181) (i := 0) C (dm_St_useArray 91 rfl) rfl rfl rfl ?_
                  refine gi_get (q := 184) C (dm_St_useArray 92 rfl) rfl fl_St_55 (by first | exact Q177.ob | exact Q164.ob | exact Q152.ob | exact Q128.ob | exact Q101.ob | exact Q66.ob | exact Q57.ob | exact Q48.ob | exact Q36.ob | exact Q14.ob | exact Q.ob | exact Q128.vou | exact Q101.vou | exact Q66.vou | exact Q57.var | exact Q48.var | exact Q66.var) rfl ?_
                  refine gi_callv 1 (q := 187) C (dm_St_useArray 93 rfl) rfl my_Va_copy lk_St_99 im_Va_copy rfl (c_Va_copy qq (a + 64) uu (sV e0) k3 Q177.vou (by omega) (wf_s _)) k3 rfl rfl ⟨(Nat.le_of_ble_eq_true rfl), (Nat.le_of_ble_eq_true rfl)⟩ (Nat.le_of_ble_eq_true rfl) ⟨(Nat.le_of_ble_eq_true rfl), (Nat.le_of_ble_eq_true rfl)⟩ (fun r184 n184 h184 e184 => ?_)
                  obtain ⟨rfl, rfl, rfl⟩ := e184
                  refine gi_iconst (q := 188) (v := 1) C (dm_St_useArray 94 rfl) rfl (by decide) ?_
                  refine gi_zret C hr (dm_St_useArray 95 rfl) rfl ?_
                  refine ⟨rfl, _, _, _, _, _, (K (.inl e0)).1, Or.inr ⟨z0, rfl, Or.inr ⟨x', ex, Or.inr ⟨e0, rfl, rfl, ?_⟩⟩⟩⟩
                  have t := (K (.inl e0)).2
                  rw [show n0 - 2 + 1 = n0 - 1 by omega] at t
                  exact t
              · refine gi_iconst (q := 142) (v := 0) C (dm_St_useArray 71 rfl) rfl (by decide) ?_
                refine gi_zret C hr (dm_St_useArray 72 rfl) rfl ?_
                exact ⟨rfl, _, _, _, _, _, Q128, Or.inr ⟨z0, rfl, Or.inr ⟨x', ex, Or.inl ⟨Classical.byContradiction (fun z => c138 ((no_W (fun z e => gath_ok (fun s h1 h2 => by obtain ⟨-, x1, e2, o2⟩ := hro505 s h1 h2; rw [e2]; exact o2) 25 (by omega) z e)).mpr z)), rfl⟩⟩⟩⟩
          · refine gi_iconst (q := 115) (v := 0) C (dm_St_useArray 57 rfl) rfl (by decide) ?_
            refine gi_zret C hr (dm_St_useArray 58 rfl) rfl ?_
            exact ⟨rfl, _, _, _, _, _, Q101, Or.inr ⟨z0, rfl, Or.inl ⟨Classical.byContradiction (fun z => c111 ((no_W (fun z e => (within_ok hX e).1)).mpr z)), rfl⟩⟩⟩
      · refine gi_iconst (q := 80) (v := 0) C (dm_St_useArray 39 rfl) rfl (by decide) ?_
        refine gi_zret C hr (dm_St_useArray 40 rfl) rfl ?_
        exact ⟨rfl, _, _, _, _, _, Q66, Or.inl ⟨Classical.byContradiction (fun z => c76 ((no_W (fun z e => gath_ok (fun s h1 h2 => by obtain ⟨-, x1, e2, o2⟩ := hro480 s h1 h2; rw [e2]; exact o2) 25 (by omega) z e)).mpr z)), rfl⟩⟩
    · exact absurd c21 (by decide)
  · exact absurd c3 (by decide)
set_option maxHeartbeats 4000000 in
set_option maxRecDepth 100000 in
theorem c_St_useArray_31 (bs : Int32) (on : Bool) (Xs : Sp) (h2 : md ≤ 2) (W : wfP k P) (hm : m < k) (hT : ∀ t, t < 542 → (T t).1 ≤ 14) (d : DJ a pr bu fr to) (B : SB a pr bu fr to k md P sn wd T Ff Z hA hB) (hS : SS S md m i Z.2) (Q : stO a pr bu fr to hB S x y nx ny ar ou be ab Wk Wy En Lo h) (G : isG Wk n0 f) (g14 : n0 ≤ 14) (g1 : 3 ≤ n0) (eX : (f (n0 - 2)).1 = .inl Xs) (hX : okS Xs) (eA1 : (f (n0 - 3)).1 = .inr (bs, on)) (hma : (f (n0 - 3)).2 = -1 ∨ ∃ j, j < 14 ∧ (f (n0 - 3)).2 = nI j) (hmx : (f (n0 - 2)).2 = -1 ∨ ∃ j, j < 14 ∧ (f (n0 - 2)).2 = nI j) (hro480 : ∀ s, s < 25 → (frF fr to Ff Z (480 + s)).told = true → (frF fr to Ff Z (480 + s)).n = 1 ∧ ∃ x0, ((frF fr to Ff Z (480 + s)).f 0).1 = .inl x0 ∧ okS x0) (hwt : ∀ t, 480 ≤ t → wd t = true) (hc1 : ∀ s, s < 25 → bitA bs s = true → okC T (505 + s, 1, one (f (n0 - 1)).1)) : gi_T l V y_St_useArray b_St_useArray 5 (some .boolean) 4 102 0 0 [.ref a, .int (nI 31)] n h (fun r n' h' => n' = n ∧ ((gathF (frF fr to Ff Z) 480 bs 25 = none ∧ r = some (.int 0) ∧ ∃ x' y' ar' ou' Wk', stO a pr bu fr to hB S x' y' nx ny ar' ou' be ab Wk' Wy En Lo h') ∨ ∃ z, gathF (frF fr to Ff Z) 480 bs 25 = some z ∧ ((withinS Xs 0 (z.2.1 - 1) = none ∧ r = some (.int 0) ∧ ∃ x' y' ar' ou' Wk', stO a pr bu fr to hB S x' y' nx ny ar' ou' be ab Wk' Wy En Lo h') ∨ ∃ x', withinS Xs 0 (z.2.1 - 1) = some x' ∧ r = some (.int 1) ∧ ∃ hC S' y' ou' Wk' Lo', SS S' md m i (putF md wd Z bs (f (n0 - 1)).1 25).2 ∧ SB a pr bu fr to k md P sn wd T Ff (putF md wd Z bs (f (n0 - 1)).1 25) hA hC ∧ stO a pr bu fr to hC S' (sV x') y' nx ny (tV bs false) ou' be ab Wk' Wy En Lo' h' ∧ isG Wk' (n0 - 3) (tellF (n0 - 3) (tellF (n0 - 3) f (f (n0 - 3)).2 (.inr (bs, false))) (f (n0 - 2)).2 (.inl x'))))) := by
  refine gi_enter (by decide) (Nat.le_of_ble_eq_true rfl) ?_
  intro _ _ _ _ _ _ _ _ C hr hnm
  refine gi_iload_n (q := 1) (i := 1) C (dm_St_useArray 0 rfl) rfl rfl rfl ?_
  refine gi_bipush (q := 3) (v := 31) C (dm_St_useArray 1 rfl) rfl (by decide) ?_
  refine gi_icmp_ne (q := 6) (tgt := 18) C (dm_St_useArray 2 rfl) rfl (by decide) (fun c3 => ?_) (fun c3 => ?_)
  · exact absurd rfl c3
  · refine gi_aload_n (q := 7) (i := 0) C (dm_St_useArray 3 rfl) rfl rfl rfl ?_
    refine gi_get (q := 10) C (dm_St_useArray 4 rfl) rfl fl_St_23 (by first | exact Q177.ob | exact Q164.ob | exact Q152.ob | exact Q128.ob | exact Q101.ob | exact Q66.ob | exact Q57.ob | exact Q48.ob | exact Q36.ob | exact Q14.ob | exact Q.ob | exact Q128.vou | exact Q101.vou | exact Q66.vou | exact Q57.var | exact Q48.var | exact Q66.var) rfl ?_
    refine gi_aload_n (q := 11) (i := 0) C (dm_St_useArray 5 rfl) rfl rfl rfl ?_
    refine gi_get (q := 14) C (dm_St_useArray 6 rfl) rfl fl_St_43 (by first | exact Q177.ob | exact Q164.ob | exact Q152.ob | exact Q128.ob | exact Q101.ob | exact Q66.ob | exact Q57.ob | exact Q48.ob | exact Q36.ob | exact Q14.ob | exact Q.ob | exact Q128.vou | exact Q101.vou | exact Q66.vou | exact Q57.var | exact Q48.var | exact Q66.var) rfl ?_
    refine gi_callv 1 (q := 17) C (dm_St_useArray 7 rfl) rfl my_Ro_pop lk_St_198 im_Ro_pop rfl (s_popy Q G (by omega) (by omega)) Q.wk.1 rfl rfl ⟨(Nat.le_of_ble_eq_true rfl), (Nat.le_of_ble_eq_true rfl)⟩ (Nat.le_of_ble_eq_true rfl) ⟨(Nat.le_of_ble_eq_true rfl), (Nat.le_of_ble_eq_true rfl)⟩ (fun r14 n14 h14 e14 => ?_)
    obtain ⟨rfl, rfl, wk14, Q14, G14⟩ := e14
    refine gi_pop (q := 18) C (dm_St_useArray 8 rfl) rfl rfl ?_
    refine gi_iload_n (q := 19) (i := 1) C (dm_St_useArray 9 rfl) rfl rfl rfl ?_
    refine gi_bipush (q := 21) (v := 29) C (dm_St_useArray 10 rfl) rfl (by decide) ?_
    refine gi_icmp_ne (q := 24) (tgt := 28) C (dm_St_useArray 11 rfl) rfl (by decide) (fun c21 => ?_) (fun c21 => ?_)
    · refine gi_aload_n (q := 29) (i := 0) C (dm_St_useArray 14 rfl) rfl rfl rfl ?_
      refine gi_get (q := 32) C (dm_St_useArray 15 rfl) rfl fl_St_23 (by first | exact Q177.ob | exact Q164.ob | exact Q152.ob | exact Q128.ob | exact Q101.ob | exact Q66.ob | exact Q57.ob | exact Q48.ob | exact Q36.ob | exact Q14.ob | exact Q.ob | exact Q128.vou | exact Q101.vou | exact Q66.vou | exact Q57.var | exact Q48.var | exact Q66.var) rfl ?_
      refine gi_aload_n (q := 33) (i := 0) C (dm_St_useArray 16 rfl) rfl rfl rfl ?_
      refine gi_get (q := 36) C (dm_St_useArray 17 rfl) rfl fl_St_39 (by first | exact Q177.ob | exact Q164.ob | exact Q152.ob | exact Q128.ob | exact Q101.ob | exact Q66.ob | exact Q57.ob | exact Q48.ob | exact Q36.ob | exact Q14.ob | exact Q.ob | exact Q128.vou | exact Q101.vou | exact Q66.vou | exact Q57.var | exact Q48.var | exact Q66.var) rfl ?_
      refine gi_callv 1 (q := 39) C (dm_St_useArray 18 rfl) rfl my_Ro_pop lk_St_198 im_Ro_pop rfl (s_popx Q14 G14 (by omega) (by omega)) Q14.wk.1 rfl rfl ⟨(Nat.le_of_ble_eq_true rfl), (Nat.le_of_ble_eq_true rfl)⟩ (Nat.le_of_ble_eq_true rfl) ⟨(Nat.le_of_ble_eq_true rfl), (Nat.le_of_ble_eq_true rfl)⟩ (fun r36 n36 h36 e36 => ?_)
      obtain ⟨rfl, rfl, wk36, Q36, G36⟩ := e36
      rw [show n0 - 1 - 1 = n0 - 2 by omega] at Q36 G36
      rw [show n0 - 1 - 1 = n0 - 2 by omega]
      rw [eX] at Q36
      refine gi_istore_n (q := 40) (i := 2) C (dm_St_useArray 19 rfl) rfl rfl (Nat.le_of_ble_eq_true rfl) ?_
      refine gi_aload_n (q := 41) (i := 0) C (dm_St_useArray 20 rfl) rfl rfl rfl ?_
      refine gi_get (q := 44) C (dm_St_useArray 21 rfl) rfl fl_St_23 (by first | exact Q177.ob | exact Q164.ob | exact Q152.ob | exact Q128.ob | exact Q101.ob | exact Q66.ob | exact Q57.ob | exact Q48.ob | exact Q36.ob | exact Q14.ob | exact Q.ob | exact Q128.vou | exact Q101.vou | exact Q66.vou | exact Q57.var | exact Q48.var | exact Q66.var) rfl ?_
      refine gi_aload_n (q := 45) (i := 0) C (dm_St_useArray 22 rfl) rfl rfl rfl ?_
      refine gi_get (q := 48) C (dm_St_useArray 23 rfl) rfl fl_St_52 (by first | exact Q177.ob | exact Q164.ob | exact Q152.ob | exact Q128.ob | exact Q101.ob | exact Q66.ob | exact Q57.ob | exact Q48.ob | exact Q36.ob | exact Q14.ob | exact Q.ob | exact Q128.vou | exact Q101.vou | exact Q66.vou | exact Q57.var | exact Q48.var | exact Q66.var) rfl ?_
      refine gi_callv 1 (q := 51) C (dm_St_useArray 24 rfl) rfl my_Ro_pop lk_St_198 im_Ro_pop rfl (s_popar Q36 G36 (by omega) (by omega)) Q36.wk.1 rfl rfl ⟨(Nat.le_of_ble_eq_true rfl), (Nat.le_of_ble_eq_true rfl)⟩ (Nat.le_of_ble_eq_true rfl) ⟨(Nat.le_of_ble_eq_true rfl), (Nat.le_of_ble_eq_true rfl)⟩ (fun r48 n48 h48 e48 => ?_)
      obtain ⟨rfl, rfl, wk48, Q48, G48⟩ := e48
      rw [show n0 - 2 - 1 = n0 - 3 by omega] at Q48 G48
      rw [show n0 - 2 - 1 = n0 - 3 by omega]
      rw [eA1] at Q48
      refine gi_istore_n (q := 52) (i := 3) C (dm_St_useArray 25 rfl) rfl rfl (Nat.le_of_ble_eq_true rfl) ?_
      refine gi_aload_n (q := 53) (i := 0) C (dm_St_useArray 26 rfl) rfl rfl rfl ?_
      refine gi_get (q := 56) C (dm_St_useArray 27 rfl) rfl fl_St_52 (by first | exact Q177.ob | exact Q164.ob | exact Q152.ob | exact Q128.ob | exact Q101.ob | exact Q66.ob | exact Q57.ob | exact Q48.ob | exact Q36.ob | exact Q14.ob | exact Q.ob | exact Q128.vou | exact Q101.vou | exact Q66.vou | exact Q57.var | exact Q48.var | exact Q66.var) rfl ?_
      refine gi_iconst (q := 57) (v := 0) C (dm_St_useArray 28 rfl) rfl (by decide) ?_
      refine gi_put (q := 60) C (dm_St_useArray 29 rfl) rfl fl_St_252 fp_Va_5 Q48.var (Nat.le_of_ble_eq_true rfl) rfl rfl ?_
      have Q57 := Q48.par (tV bs false)
      refine gi_aload_n (q := 61) (i := 0) C (dm_St_useArray 30 rfl) rfl rfl rfl ?_
      refine gi_iconst (q := 62) (v := 1) C (dm_St_useArray 31 rfl) rfl (by decide) ?_
      refine gi_aload_n (q := 63) (i := 0) C (dm_St_useArray 32 rfl) rfl rfl rfl ?_
      refine gi_get (q := 66) C (dm_St_useArray 33 rfl) rfl fl_St_55 (by first | exact Q177.ob | exact Q164.ob | exact Q152.ob | exact Q128.ob | exact Q101.ob | exact Q66.ob | exact Q57.ob | exact Q48.ob | exact Q36.ob | exact Q14.ob | exact Q.ob | exact Q128.vou | exact Q101.vou | exact Q66.vou | exact Q57.var | exact Q48.var | exact Q66.var) rfl ?_
      refine gi_callv 2 (q := 69) C (dm_St_useArray 34 rfl) rfl my_St_gather lk_St_275 im_St_gather rfl (c_St_gather_480 bs false hT d B Q57 hro480) Q57.ob rfl rfl ⟨(Nat.le_of_ble_eq_true rfl), (Nat.le_of_ble_eq_true rfl)⟩ (Nat.le_of_ble_eq_true rfl) ⟨(Nat.le_of_ble_eq_true rfl), (Nat.le_of_ble_eq_true rfl)⟩ (fun r66 n66 h66 e66 => ?_)
      obtain ⟨rfl, rfl, Q66⟩ := e66
      refine gi_aload_n (q := 70) (i := 0) C (dm_St_useArray 35 rfl) rfl rfl rfl ?_
      refine gi_get (q := 73) C (dm_St_useArray 36 rfl) rfl fl_St_55 (by first | exact Q177.ob | exact Q164.ob | exact Q152.ob | exact Q128.ob | exact Q101.ob | exact Q66.ob | exact Q57.ob | exact Q48.ob | exact Q36.ob | exact Q14.ob | exact Q.ob | exact Q128.vou | exact Q101.vou | exact Q66.vou | exact Q57.var | exact Q48.var | exact Q66.var) rfl ?_
      refine gi_callv 0 (q := 76) C (dm_St_useArray 37 rfl) rfl my_Va_isNothing lk_St_211 im_Va_isNothing rfl (c_Va_isNothing (a + 64) _ Q66.vou) Q66.vou rfl rfl ⟨(Nat.le_of_ble_eq_true rfl), (Nat.le_of_ble_eq_true rfl)⟩ (Nat.le_of_ble_eq_true rfl) ⟨(Nat.le_of_ble_eq_true rfl), (Nat.le_of_ble_eq_true rfl)⟩ (fun r73 n73 h73 e73 => ?_)
      obtain ⟨rfl, q73, u73⟩ := e73
      rw [q73, u73]
      refine gi_if_eq (q := 79) (tgt := 81) C (dm_St_useArray 38 rfl) rfl (by decide) (fun c76 => ?_) (fun c76 => ?_)
      · have nzz0 := (no_W (fun z e => gath_ok (fun s h1 h2 => by obtain ⟨-, x1, e2, o2⟩ := hro480 s h1 h2; rw [e2]; exact o2) 25 (by omega) z e)).mp c76
        rcases ez0 : gathF (frF fr to Ff Z) 480 bs 25 with _ | z0
        · exact absurd ez0 nzz0
        rw [ez0, wS_s] at Q66
        have oz0 := (fun z e => gath_ok (fun s h1 h2 => by obtain ⟨-, x1, e2, o2⟩ := hro480 s h1 h2; rw [e2]; exact o2) 25 (by omega) z e) z0 ez0
        obtain ⟨zb1, zb2, zb3, -⟩ := id oz0
        refine gi_iload_n (q := 82) (i := 1) C (dm_St_useArray 41 rfl) rfl rfl rfl ?_
        refine gi_bipush (q := 84) (v := 29) C (dm_St_useArray 42 rfl) rfl (by decide) ?_
        refine gi_icmp_eq (q := 87) (tgt := 116) C (dm_St_useArray 43 rfl) rfl (by decide) (fun c84 => ?_) (fun c84 => ?_)
        · exact absurd c84 (by decide)
        · refine gi_aload_n (q := 88) (i := 0) C (dm_St_useArray 44 rfl) rfl rfl rfl ?_
          refine gi_get (q := 91) C (dm_St_useArray 45 rfl) rfl fl_St_39 (by first | exact Q177.ob | exact Q164.ob | exact Q152.ob | exact Q128.ob | exact Q101.ob | exact Q66.ob | exact Q57.ob | exact Q48.ob | exact Q36.ob | exact Q14.ob | exact Q.ob | exact Q128.vou | exact Q101.vou | exact Q66.vou | exact Q57.var | exact Q48.var | exact Q66.var) rfl ?_
          refine gi_lconst (q := 92) (v := 0) C (dm_St_useArray 46 rfl) rfl (by decide) ?_
          refine gi_aload_n (q := 93) (i := 0) C (dm_St_useArray 47 rfl) rfl rfl rfl ?_
          refine gi_get (q := 96) C (dm_St_useArray 48 rfl) rfl fl_St_55 (by first | exact Q177.ob | exact Q164.ob | exact Q152.ob | exact Q128.ob | exact Q101.ob | exact Q66.ob | exact Q57.ob | exact Q48.ob | exact Q36.ob | exact Q14.ob | exact Q.ob | exact Q128.vou | exact Q101.vou | exact Q66.vou | exact Q57.var | exact Q48.var | exact Q66.var) rfl ?_
          refine gi_get (q := 99) C (dm_St_useArray 49 rfl) rfl fl_St_231 Q66.vou rfl ?_
          refine gi_lconst (q := 100) (v := 1) C (dm_St_useArray 50 rfl) rfl (by decide) ?_
          refine gi_lsub (q := 101) C (dm_St_useArray 51 rfl) rfl ?_
          rw [eL_0, eL_1, eL_sub]
          refine gi_callv 2 (q := 104) C (dm_St_useArray 52 rfl) rfl my_Va_within lk_St_234 im_Va_within rfl (c_Va_within (a + 59) Xs 0 (z0.2.1 - 1) hX.b (by decide) (by decide) (by omega) (by omega) Q66.vx) Q66.vx rfl rfl ⟨(Nat.le_of_ble_eq_true rfl), (Nat.le_of_ble_eq_true rfl)⟩ (Nat.le_of_ble_eq_true rfl) ⟨(Nat.le_of_ble_eq_true rfl), (Nat.le_of_ble_eq_true rfl)⟩ (fun r101 n101 h101 e101 => ?_)
          obtain ⟨rfl, rfl, rfl⟩ := e101
          have Q101 := Q66.px (sV (wS (withinS Xs 0 (z0.2.1 - 1))))
          refine gi_aload_n (q := 105) (i := 0) C (dm_St_useArray 53 rfl) rfl rfl rfl ?_
          refine gi_get (q := 108) C (dm_St_useArray 54 rfl) rfl fl_St_39 (by first | exact Q177.ob | exact Q164.ob | exact Q152.ob | exact Q128.ob | exact Q101.ob | exact Q66.ob | exact Q57.ob | exact Q48.ob | exact Q36.ob | exact Q14.ob | exact Q.ob | exact Q128.vou | exact Q101.vou | exact Q66.vou | exact Q57.var | exact Q48.var | exact Q66.var) rfl ?_
          refine gi_callv 0 (q := 111) C (dm_St_useArray 55 rfl) rfl my_Va_isNothing lk_St_211 im_Va_isNothing rfl (c_Va_isNothing (a + 59) _ Q101.vx) Q101.vx rfl rfl ⟨(Nat.le_of_ble_eq_true rfl), (Nat.le_of_ble_eq_true rfl)⟩ (Nat.le_of_ble_eq_true rfl) ⟨(Nat.le_of_ble_eq_true rfl), (Nat.le_of_ble_eq_true rfl)⟩ (fun r108 n108 h108 e108 => ?_)
          obtain ⟨rfl, q108, u108⟩ := e108
          rw [q108, u108]
          refine gi_if_eq (q := 114) (tgt := 116) C (dm_St_useArray 56 rfl) rfl (by decide) (fun c111 => ?_) (fun c111 => ?_)
          · have nx' := (no_W (fun z e => (within_ok hX e).1)).mp c111
            rcases ex : withinS Xs 0 (z0.2.1 - 1) with _ | x'
            · exact absurd ex nx'
            rw [ex, wS_s] at Q101
            refine gi_iload_n (q := 117) (i := 1) C (dm_St_useArray 59 rfl) rfl rfl rfl ?_
            refine gi_bipush (q := 119) (v := 30) C (dm_St_useArray 60 rfl) rfl (by decide) ?_
            refine gi_icmp_ne (q := 122) (tgt := 143) C (dm_St_useArray 61 rfl) rfl (by decide) (fun c119 => ?_) (fun c119 => ?_)
            · refine gi_aload_n (q := 144) (i := 0) C (dm_St_useArray 73 rfl) rfl rfl rfl ?_
              refine gi_get (q := 147) C (dm_St_useArray 74 rfl) rfl fl_St_23 (by first | exact Q177.ob | exact Q164.ob | exact Q152.ob | exact Q128.ob | exact Q101.ob | exact Q66.ob | exact Q57.ob | exact Q48.ob | exact Q36.ob | exact Q14.ob | exact Q.ob | exact Q128.vou | exact Q101.vou | exact Q66.vou | exact Q57.var | exact Q48.var | exact Q66.var) rfl ?_
              refine gi_iload_n (q := 148) (i := 3) C (dm_St_useArray 75 rfl) rfl rfl rfl ?_
              refine gi_aload_n (q := 149) (i := 0) C (dm_St_useArray 76 rfl) rfl rfl rfl ?_
              refine gi_get (q := 152) C (dm_St_useArray 77 rfl) rfl fl_St_52 (by first | exact Q177.ob | exact Q164.ob | exact Q152.ob | exact Q128.ob | exact Q101.ob | exact Q66.ob | exact Q57.ob | exact Q48.ob | exact Q36.ob | exact Q14.ob | exact Q.ob | exact Q128.vou | exact Q101.vou | exact Q66.vou | exact Q57.var | exact Q48.var | exact Q66.var) rfl ?_
              refine gi_callv 2 (q := 155) C (dm_St_useArray 78 rfl) rfl my_Ro_tell lk_St_214 im_Ro_tell rfl (s_tellWk (a + 63) (.inr (bs, false)) _ Q101 G48 (by omega) hma (by omega) Q101.var) Q101.wk.1 rfl rfl ⟨(Nat.le_of_ble_eq_true rfl), (Nat.le_of_ble_eq_true rfl)⟩ (Nat.le_of_ble_eq_true rfl) ⟨(Nat.le_of_ble_eq_true rfl), (Nat.le_of_ble_eq_true rfl)⟩ (fun r152 n152 h152 e152 => ?_)
              obtain ⟨rfl, rfl, wk152, Q152, G152⟩ := e152
              refine gi_aload_n (q := 156) (i := 0) C (dm_St_useArray 79 rfl) rfl rfl rfl ?_
              refine gi_get (q := 159) C (dm_St_useArray 80 rfl) rfl fl_St_23 (by first | exact Q177.ob | exact Q164.ob | exact Q152.ob | exact Q128.ob | exact Q101.ob | exact Q66.ob | exact Q57.ob | exact Q48.ob | exact Q36.ob | exact Q14.ob | exact Q.ob | exact Q128.vou | exact Q101.vou | exact Q66.vou | exact Q57.var | exact Q48.var | exact Q66.var) rfl ?_
              refine gi_iload_n (q := 160) (i := 2) C (dm_St_useArray 81 rfl) rfl rfl rfl ?_
              refine gi_aload_n (q := 161) (i := 0) C (dm_St_useArray 82 rfl) rfl rfl rfl ?_
              refine gi_get (q := 164) C (dm_St_useArray 83 rfl) rfl fl_St_39 (by first | exact Q177.ob | exact Q164.ob | exact Q152.ob | exact Q128.ob | exact Q101.ob | exact Q66.ob | exact Q57.ob | exact Q48.ob | exact Q36.ob | exact Q14.ob | exact Q.ob | exact Q128.vou | exact Q101.vou | exact Q66.vou | exact Q57.var | exact Q48.var | exact Q66.var) rfl ?_
              refine gi_callv 2 (q := 167) C (dm_St_useArray 84 rfl) rfl my_Ro_tell lk_St_214 im_Ro_tell rfl (s_tellWk (a + 59) (.inl x') _ Q152 G152 (by omega) hmx (by omega) Q152.vx) Q152.wk.1 rfl rfl ⟨(Nat.le_of_ble_eq_true rfl), (Nat.le_of_ble_eq_true rfl)⟩ (Nat.le_of_ble_eq_true rfl) ⟨(Nat.le_of_ble_eq_true rfl), (Nat.le_of_ble_eq_true rfl)⟩ (fun r164 n164 h164 e164 => ?_)
              obtain ⟨rfl, rfl, wk164, Q164, G164⟩ := e164
              refine gi_iload_n (q := 168) (i := 1) C (dm_St_useArray 85 rfl) rfl rfl rfl ?_
              refine gi_bipush (q := 170) (v := 31) C (dm_St_useArray 86 rfl) rfl (by decide) ?_
              refine gi_icmp_eq (q := 173) (tgt := 189) C (dm_St_useArray 87 rfl) rfl (by decide) (fun c170 => ?_) (fun c170 => ?_)
              · refine gi_iconst (q := 190) (v := 0) C (dm_St_useArray 96 rfl) rfl (by decide) ?_
                refine gi_istore (q := 192) C (dm_St_useArray 97 rfl) rfl (Nat.le_of_ble_eq_true rfl) ?_
                refine gi_while (σ := Nat) (fun j => 25 - j) (fun j => [(4, .int (nI j)), (0, .ref a)]) (fun _ => n164) (fun _ => 0) (fun _ => 0) (fun j y' => j ≤ 25 ∧ ∃ hC S' Lo', SS S' md m i (putF md wd Z bs (f (n0 - 1)).1 j).2 ∧ SB a pr bu fr to k md P sn wd T Ff (putF md wd Z bs (f (n0 - 1)).1 j) hA hC ∧ stO a pr bu fr to hC S' (sV x') (eA (f (n0 - 1)).1) nx ny (tV bs false) (sV z0) be ab wk164 Wy En Lo' y') 0 ⟨Nat.zero_le _, _, _, _, hS, B, Q164⟩ ?_ (List.forall_mem_cons.mpr ⟨rfl, List.forall_mem_cons.mpr ⟨rfl, fun _ h => absurd h List.not_mem_nil⟩⟩) rfl rfl rfl
                rintro j y' ⟨hj, hC, SY, LoY, hSY, BY, Y⟩ ih
                try dsimp only at *
                refine gi_iload (q := 194) C (dm_St_useArray 98 rfl) rfl rfl ?_
                refine gi_bipush (q := 196) (v := 25) C (dm_St_useArray 99 rfl) rfl (by decide) ?_
                refine gi_icmp_ge (q := 199) (tgt := 243) C (dm_St_useArray 100 rfl) rfl (by decide) (fun c196 => ?_) (fun c196 => ?_)
                · have hik : j = 25 := by
                    rcases Nat.lt_or_ge j 25 with q | q
                    · exact absurd c196 (nI_ge (b := 25) q (by omega))
                    · omega
                  subst hik
                  refine gi_iconst (q := 244) (v := 1) C (dm_St_useArray 123 rfl) rfl (by decide) ?_
                  refine gi_zret C hr (dm_St_useArray 124 rfl) rfl ?_
                  exact ⟨rfl, Or.inr ⟨z0, rfl, Or.inr ⟨x', ex, rfl, _, _, _, _, _, _, hSY, BY, Y, G164⟩⟩⟩
                · have hlt : j < 25 := by
                    rcases Nat.lt_or_ge j 25 with q | q
                    · exact q
                    · exact absurd (nI_le (a := 25) q (by omega)) c196
                  refine gi_aload_n (q := 200) (i := 0) C (dm_St_useArray 101 rfl) rfl rfl rfl ?_
                  refine gi_get (q := 203) C (dm_St_useArray 102 rfl) rfl fl_St_52 (by first | exact Y.ob | exact Y.var | exact Q230.ob) rfl ?_
                  refine gi_get (q := 206) C (dm_St_useArray 103 rfl) rfl fl_St_249 (by first | exact Y.ob | exact Y.var | exact Q230.ob) rfl ?_
                  refine gi_iload (q := 208) C (dm_St_useArray 104 rfl) rfl rfl ?_
                  refine gi_ishr (q := 209) C (dm_St_useArray 105 rfl) rfl ?_
                  refine gi_iconst (q := 210) (v := 1) C (dm_St_useArray 106 rfl) rfl (by decide) ?_
                  refine gi_iand (q := 211) C (dm_St_useArray 107 rfl) rfl ?_
                  refine gi_iconst (q := 212) (v := 1) C (dm_St_useArray 108 rfl) rfl (by decide) ?_
                  refine gi_icmp_ne (q := 215) (tgt := 237) C (dm_St_useArray 109 rfl) rfl (by decide) (fun c212 => ?_) (fun c212 => ?_)
                  · refine gi_iinc (q := 240) (v := 1) C (dm_St_useArray 121 rfl) rfl rfl (by decide) (Nat.le_of_ble_eq_true rfl) ?_
                    refine gi_goto (tgt := 192) C (dm_St_useArray 122 rfl) (by decide) ?_
                    first
                      | (have e : putF md wd Z bs (f (n0 - 1)).1 (j + 1) = comeM md wd (putF md wd Z bs (f (n0 - 1)).1 j) (505 + j, 1, one (f (n0 - 1)).1) := by
                           rw [putF_s, if_pos ((sh_bit bs (by omega)).mp c212)]
                         refine gi_close (ih (j + 1) _ ⟨hlt, _, _, _, by rw [e]; exact hS234, by rw [e]; exact B234, Q234⟩ (by omega)) (List.forall_mem_cons.mpr ⟨(by simp [gi_look, nI_1]), List.forall_mem_cons.mpr ⟨rfl, fun _ h => absurd h List.not_mem_nil⟩⟩) rfl rfl rfl)
                      | (have e : putF md wd Z bs (f (n0 - 1)).1 (j + 1) = putF md wd Z bs (f (n0 - 1)).1 j := by
                           rw [putF_s, if_neg (fun z => c212 ((sh_bit bs (by omega)).mpr z))]
                         refine gi_close (ih (j + 1) _ ⟨hlt, _, _, _, by rw [e]; exact hSY, by rw [e]; exact BY, Y⟩ (by omega)) (List.forall_mem_cons.mpr ⟨(by simp [gi_look, nI_1]), List.forall_mem_cons.mpr ⟨rfl, fun _ h => absurd h List.not_mem_nil⟩⟩) rfl rfl rfl)
                  · refine gi_aload_n (q := 216) (i := 0) C (dm_St_useArray 110 rfl) rfl rfl rfl ?_
                    refine gi_aload_n (q := 217) (i := 0) C (dm_St_useArray 111 rfl) rfl rfl rfl ?_
                    refine gi_get (q := 220) C (dm_St_useArray 112 rfl) rfl fl_St_70 (by first | exact Y.ob | exact Y.var | exact Q230.ob) rfl ?_
                    refine gi_iload (q := 222) C (dm_St_useArray 113 rfl) rfl rfl ?_
                    obtain ⟨ft, ot⟩ := BY.ob d Y.2
                    refine gi_callv 1 (q := 225) C (dm_St_useArray 114 rfl) rfl my_Fa_elementOf lk_St_266 im_Fa_elementOf rfl (b_elm BY d Y.2 hlt) ot rfl rfl ⟨(Nat.le_of_ble_eq_true rfl), (Nat.le_of_ble_eq_true rfl)⟩ (Nat.le_of_ble_eq_true rfl) ⟨(Nat.le_of_ble_eq_true rfl), (Nat.le_of_ble_eq_true rfl)⟩ (fun r222 n222 h222 e222 => ?_)
                    obtain ⟨rfl, q222, u222⟩ := e222
                    rw [q222, u222]
                    refine gi_aload_n (q := 226) (i := 0) C (dm_St_useArray 115 rfl) rfl rfl rfl ?_
                    refine gi_aload_n (q := 227) (i := 0) C (dm_St_useArray 116 rfl) rfl rfl rfl ?_
                    refine gi_get (q := 230) C (dm_St_useArray 117 rfl) rfl fl_St_43 (by first | exact Y.ob | exact Y.var | exact Q230.ob) rfl ?_
                    refine gi_callv 1 (q := 233) C (dm_St_useArray 118 rfl) rfl my_St_alone lk_St_262 im_St_alone rfl (c_St_alone (a + 60) ((f (n0 - 1)).1) Y (by omega) Y.vy) Y.ob rfl rfl ⟨(Nat.le_of_ble_eq_true rfl), (Nat.le_of_ble_eq_true rfl)⟩ (Nat.le_of_ble_eq_true rfl) ⟨(Nat.le_of_ble_eq_true rfl), (Nat.le_of_ble_eq_true rfl)⟩ (fun r230 n230 h230 e230 => ?_)
                    obtain ⟨rfl, rfl, ⟨lo230, Q230, GL230⟩, -⟩ := e230
                    refine gi_iconst (q := 234) (v := 1) C (dm_St_useArray 119 rfl) rfl (by decide) ?_
                    refine gi_callv 3 (q := 237) C (dm_St_useArray 120 rfl) rfl my_St_come lk_St_140 im_St_come rfl (b_come1 (a + 55) 1 1 (505 + j) _ _ h2 BY hT d hSY Q230 (by omega) (by omega) (by omega) Q230.lo GL230 (by omega) (by rw [cap_hi (by omega)]; omega) (hc1 j hlt ((sh_bit bs (by omega)).mp c212)) (hwt _ (by omega))) Q230.ob rfl rfl ⟨(Nat.le_of_ble_eq_true rfl), (Nat.le_of_ble_eq_true rfl)⟩ (Nat.le_of_ble_eq_true rfl) ⟨(Nat.le_of_ble_eq_true rfl), (Nat.le_of_ble_eq_true rfl)⟩ (fun r234 n234 h234 e234 => ?_)
                    obtain ⟨rfl, rfl, S234, hS234, B234, Q234⟩ := e234
                    refine gi_iinc (q := 240) (v := 1) C (dm_St_useArray 121 rfl) rfl rfl (by decide) (Nat.le_of_ble_eq_true rfl) ?_
                    refine gi_goto (tgt := 192) C (dm_St_useArray 122 rfl) (by decide) ?_
                    first
                      | (have e : putF md wd Z bs (f (n0 - 1)).1 (j + 1) = comeM md wd (putF md wd Z bs (f (n0 - 1)).1 j) (505 + j, 1, one (f (n0 - 1)).1) := by
                           rw [putF_s, if_pos ((sh_bit bs (by omega)).mp c212)]
                         refine gi_close (ih (j + 1) _ ⟨hlt, _, _, _, by rw [e]; exact hS234, by rw [e]; exact B234, Q234⟩ (by omega)) (List.forall_mem_cons.mpr ⟨(by simp [gi_look, nI_1]), List.forall_mem_cons.mpr ⟨rfl, fun _ h => absurd h List.not_mem_nil⟩⟩) rfl rfl rfl)
                      | (have e : putF md wd Z bs (f (n0 - 1)).1 (j + 1) = putF md wd Z bs (f (n0 - 1)).1 j := by
                           rw [putF_s, if_neg (fun z => c212 ((sh_bit bs (by omega)).mpr z))]
                         refine gi_close (ih (j + 1) _ ⟨hlt, _, _, _, by rw [e]; exact hSY, by rw [e]; exact BY, Y⟩ (by omega)) (List.forall_mem_cons.mpr ⟨(by simp [gi_look, nI_1]), List.forall_mem_cons.mpr ⟨rfl, fun _ h => absurd h List.not_mem_nil⟩⟩) rfl rfl rfl)
              · exact absurd rfl c170
            · exact absurd c119 (by decide)
          · refine gi_iconst (q := 115) (v := 0) C (dm_St_useArray 57 rfl) rfl (by decide) ?_
            refine gi_zret C hr (dm_St_useArray 58 rfl) rfl ?_
            exact ⟨rfl, Or.inr ⟨z0, rfl, Or.inl ⟨Classical.byContradiction (fun z => c111 ((no_W (fun z e => (within_ok hX e).1)).mpr z)), rfl, _, _, _, _, _, Q101⟩⟩⟩
      · refine gi_iconst (q := 80) (v := 0) C (dm_St_useArray 39 rfl) rfl (by decide) ?_
        refine gi_zret C hr (dm_St_useArray 40 rfl) rfl ?_
        exact ⟨rfl, Or.inl ⟨Classical.byContradiction (fun z => c76 ((no_W (fun z e => gath_ok (fun s h1 h2 => by obtain ⟨-, x1, e2, o2⟩ := hro480 s h1 h2; rw [e2]; exact o2) 25 (by omega) z e)).mpr z)), rfl, _, _, _, _, _, Q66⟩⟩
    · exact absurd c21 (by decide)
end STE
