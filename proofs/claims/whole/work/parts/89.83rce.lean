-- needs: 89.82
section RCE
variable {l : Launch} {V : gi_V} {n : Nat} {h h' : gi_H} {M k m i : Nat} {P : Pm} {x : Sh} {sh : Nat → Option Sh} {S S' : Nat → Int32} {J J' : Nat → Int64} {F F' : Nat → Nat → Int32} {G G' : Nat → Nat → Int64} {f g : Nat → Sl} {n0 : Nat} {r : Rw} {Ff : Fa} {Z : Fa × Bool} {md p t : Nat} {S0 S1 S2 : Nat → Int32} {J0 J1 J2 : Nat → Int64} {F0 F1 F2 : Nat → Nat → Int32} {G0 G1 G2 : Nat → Nat → Int64} {y y' : gi_H} {L : Nat} {κ : (Nat → Ce) × Int32}
theorem stp_pre {sn : Nat → Nat} {wd : Nat → Bool} (B : Built k P sh sn wd) {R : Fa} (hm : m < k) (hi : i < pN P 5 m) (hR : okF (tyF P sh) R) (tl : (R (60 * m + i)).told = true) : ∃ x y, sh (60 * m + i) = some x ∧ x.1 ≤ 8 ∧ x.2 < 2 ^ x.1 ∧ tyG P m x (R (60 * m + i)).n (R (60 * m + i)).f ∧ pN P 2 m ≤ 6 ∧ pN P 6 (60 * m + i) ≤ 35 ∧ opdOk k P m (pN P 6 (60 * m + i)) (P 7 (60 * m + i)) ∧ shS P m (pN P 6 (60 * m + i)) (pN P 7 (60 * m + i)) x = some y ∧ (pN P 6 (60 * m + i) ≠ 19 → pN P 6 (60 * m + i) ≠ 33 → i + 1 < pN P 5 m ∧ sh (60 * m + (i + 1)) = some y) ∧ (19 ≤ pN P 6 (60 * m + i) → pN P 6 (60 * m + i) ≤ 27 → P 7 (60 * m + i) = nI (pN P 7 (60 * m + i)) ∧ pN P 7 (60 * m + i) < pN P 5 m ∧ sh (60 * m + pN P 7 (60 * m + i)) = some y) := by
  have wm := wf_ar B.wf hm
  have w8 := B.wf.k8
  obtain ⟨m', i', x, y, h1, h2, h3, h4, h5, h6, h7, h8, h9, h10, h11, h12, h13, h14, h15⟩ := plc B (p := 60 * m + i) (by omega) hR tl
  have em : m' = m := by omega
  have ei : i' = i := by omega
  subst em
  subst ei
  obtain ⟨-, y', e1, e2, e3⟩ := B.next m' i' x hm hi h6
  have ey : y' = y := Option.some.inj (e1.symm.trans h14)
  subst ey
  refine ⟨x, y', h6, h7, h8, h9, h11, h12, h13, h14, fun q1 q2 => ⟨(e2 q1 q2).1, (e2 q1 q2).2⟩, fun q1 q2 => ?_⟩
  have z := h13.2.1 ⟨q1, q2⟩
  have z2 := h15 z.1
  exact ⟨z2.1, by omega, e3 q1 q2⟩
theorem ok_ty {t : Nat} {y : Sh} {n1 : Nat} {g : Nat → Sl} (hm : m < 8) (ht : t < 60) (hs : sh (60 * m + t) = some y) (h : okC (tyF P sh) (60 * m + t, n1, g)) : tyG P m y n1 g := by
  have q := h.2.1
  dsimp only at q
  rw [tyF_st hm ht hs] at q
  exact q
theorem mk_L {x : Sh} {n1 q : Nat} {g : Nat → Sl} (T : tyG P m x n1 g) (hq : q < n1) : (g q).2 = -1 ∨ ∃ j, j < pN P 2 m ∧ (g q).2 = nI j := by
  rcases (tyG_mk T hq).2.2.1 with z | ⟨j, h1, h2, -⟩
  · exact Or.inl z
  · exact Or.inr ⟨j, h1, h2⟩
theorem sh8 {sn : Nat → Nat} {wd : Nat → Bool} (B : Built k P sh sn wd) {p : Nat} {y : Sh} (h : sh p = some y) : y.1 ≤ 8 ∧ y.2 < 2 ^ y.1 := by
  obtain ⟨_, _, _, _, _, q1, q2⟩ := B.at_ p y h
  exact ⟨q1, q2⟩
theorem WW.me {v : Int32} (H : WW M k P sh md Ff κ h S0 J0 F0 G0 Z L n0 f S J F G y) (H' : mo_at M (upS S 59 v) J F G y') (ho : outM M h y') : WW M k P sh md Ff κ h S0 J0 F0 G0 Z L n0 f (upS S 59 v) J F G y' := by
  obtain ⟨-, h2, h3, h4, h5, h6⟩ := H
  have a : frY S (upS S 59 v) J J F F G G := ⟨fun j _ _ _ _ _ q _ => by unfold upS; rw [if_neg q], fun _ _ => rfl, fun _ _ => rfl, fun _ _ => rfl⟩
  have b : frN S (upS S 59 v) F F G G := ⟨fun j _ _ => by unfold upS; rw [if_neg (by omega)], fun _ _ _ => rfl, fun _ _ _ => rfl⟩
  exact ⟨H', ho, ⟨h3.1.tr a, h3.2.1, h3.2.2⟩, h4.yy a, h5.nn b, h6.1, h6.2⟩
set_option maxHeartbeats 4000000 in
set_option maxRecDepth 100000 in
theorem rsp_0 {p : Program} {e : Env} {sg : State} {mi : MethodId} {args : Array Value} {below : List Frame} {meth : Method} {c : Code} (C : gi_C p sg mi args meth c b_Mo_step 7 y_Mo_step.cls V) (hr : meth.sig.returnType = none) (B : Built k P sh (siN k P sh) (wdF k P)) (hmd : md ≤ 2) (hm : m < k) (hi : i < pN P 5 m) (hR : rdO (tyF P sh) (rdF md Ff Z)) (tl : ((rdF md Ff Z) (60 * m + i)).told = true) (HW : WW M k P sh md Ff κ h S0 J0 F0 G0 Z (pN P 2 m) ((rdF md Ff Z) (60 * m + i)).n ((rdF md Ff Z) (60 * m + i)).f S J F G y) (eo : (pN P 6 (60 * m + i)) = 0) : gi_G p l e { frames := 6, cells := 0, slots := 0, locals := 202 } sg mi args below meth c (MQ below (gi_Qc V (fun v n' h' => v = none ∧ n' = n ∧ ∃ κ, spP M k P sh md Ff κ h S0 J0 F0 G0 ((outs P (siN k P sh) (rdF md Ff Z) (60 * m + i)).foldl (comeM md (grF (wdF k P))) Z) h')) args sg 0 0 (fun q : Nat => V.2.2 ≤ q)) V 7 0 0 204 [(5, .int (nI (60 * m) + (P 7 (60 * m + i)))), (4, .int (nI (60 * m + i + 1))), (3, .int (P 7 (60 * m + i))), (2, .int (nI (pN P 6 (60 * m + i)))), (1, .int (nI (60 * m + i))), (0, .ref M)] [] n y := by
  have W := B.wf
  have w8 := W.k8
  have wm := wf_ar W hm
  obtain ⟨x, y0, hsx, x8, x2, GT, ll, o35, od, ey, nxi, jmi⟩ := stp_pre B hm hi hR.1 tl
  have okall := fun c hc => (outs_all B (p := 60 * m + i) (by omega) hR.1 tl c hc).1
  have gn := G_n GT
  have hloc : ∀ q, q < pN P 2 m → (((rdF md Ff Z) (60 * m + i)).f q).2 = -1 := fun q hq => (tyG_mk GT (show q < ((rdF md Ff Z) (60 * m + i)).n by omega)).2.2.2 hq
  have mkL : ∀ q, q < ((rdF md Ff Z) (60 * m + i)).n → (((rdF md Ff Z) (60 * m + i)).f q).2 = -1 ∨ ∃ j, j < pN P 2 m ∧ (((rdF md Ff Z) (60 * m + i)).f q).2 = nI j := fun q hq => mk_L GT hq
  have H := HW.1
  obtain ⟨fs, Ha, Hf⟩ := id H.1
  have ho := HW.2.1
  obtain ⟨f1, f2, f3, f4⟩ := HW.fb
  have oc : outs P (siN k P sh) (rdF md Ff Z) (60 * m + i) = [(60 * m + i + 1, ((rdF md Ff Z) (60 * m + i)).n + 1, upF ((rdF md Ff Z) (60 * m + i)).f ((rdF md Ff Z) (60 * m + i)).n (.inl ((P 7 (60 * m + i)).toInt, (P 7 (60 * m + i)).toInt, 0), -1))] := by
    rw [outs_mv (by omega), eo]
    rfl
  obtain ⟨hi1, hs1⟩ := nxi (by omega) (by omega)
  have y8 := (sh8 B hs1).1
  have okN := okall _ (by rw [oc]; exact List.mem_singleton.mpr rfl)
  have tyN := ok_ty (y := y0) (show m < 8 by omega) (show i + 1 < 60 by omega) hs1 okN
  have gy := G_n tyN
  refine gi_aload_n (q := 205) (i := 0) C (dm_Mo_step 31 rfl) rfl rfl rfl ?_
  refine gi_iload_n (q := 206) (i := 3) C (dm_Mo_step 32 rfl) rfl rfl rfl ?_
  refine gi_i2l (q := 207) C (dm_Mo_step 33 rfl) rfl ?_
  refine gi_iload_n (q := 208) (i := 3) C (dm_Mo_step 34 rfl) rfl rfl rfl ?_
  refine gi_i2l (q := 209) C (dm_Mo_step 35 rfl) rfl ?_
  refine gi_lconst (q := 210) (v := 0) C (dm_Mo_step 36 rfl) rfl (by decide) ?_
  rw [i2l_eL, show (0 : Int64) = eL 0 from rfl]
  refine gi_callv 3 (q := 213) C (dm_Mo_step 37 rfl) rfl my_Mo_pushSpan lk_Mo_431 im_Mo_pushSpan rfl (ww_pushSpan HW ((P 7 (60 * m + i)).toInt, (P 7 (60 * m + i)).toInt, 0) (by omega)) Ha rfl rfl ⟨(Nat.le_of_ble_eq_true rfl), (Nat.le_of_ble_eq_true rfl)⟩ (Nat.le_of_ble_eq_true rfl) ⟨(Nat.le_of_ble_eq_true rfl), (Nat.le_of_ble_eq_true rfl)⟩ (fun r210 n210 h210 e210 => ?_)
  obtain ⟨rfl, rfl, S1, J1, F1, G1, HW1⟩ := e210
  have H := HW1.1
  obtain ⟨fs, Ha, Hf⟩ := id H.1
  have ho := HW1.2.1
  refine gi_aload_n (q := 214) (i := 0) C (dm_Mo_step 38 rfl) rfl rfl rfl ?_
  refine gi_iload (q := 216) C (dm_Mo_step 39 rfl) rfl rfl ?_
  refine gi_callv 1 (q := 219) C (dm_Mo_step 40 rfl) rfl my_Mo_comeTo lk_Mo_434 im_Mo_comeTo rfl (ww_comeTo HW1 B hmd hm hi1 hs1 rfl tyN) Ha rfl rfl ⟨(Nat.le_of_ble_eq_true rfl), (Nat.le_of_ble_eq_true rfl)⟩ (Nat.le_of_ble_eq_true rfl) ⟨(Nat.le_of_ble_eq_true rfl), (Nat.le_of_ble_eq_true rfl)⟩ (fun r216 n216 h216 e216 => ?_)
  obtain ⟨rfl, rfl, S2, J2, F2, G2, HW2, fz2⟩ := e216
  have H := HW2.1
  obtain ⟨fs, Ha, Hf⟩ := id H.1
  have ho := HW2.2.1
  refine gi_goto (tgt := 665) C (dm_Mo_step 41 rfl) (by decide) ?_
  refine gi_vret C hr (dm_Mo_step 279 rfl) ?_
  rw [oc]
  exact ⟨rfl, rfl, _, HW2.end⟩
set_option maxHeartbeats 4000000 in
set_option maxRecDepth 100000 in
theorem rsp_3 {p : Program} {e : Env} {sg : State} {mi : MethodId} {args : Array Value} {below : List Frame} {meth : Method} {c : Code} (C : gi_C p sg mi args meth c b_Mo_step 7 y_Mo_step.cls V) (hr : meth.sig.returnType = none) (B : Built k P sh (siN k P sh) (wdF k P)) (hmd : md ≤ 2) (hm : m < k) (hi : i < pN P 5 m) (hR : rdO (tyF P sh) (rdF md Ff Z)) (tl : ((rdF md Ff Z) (60 * m + i)).told = true) (HW : WW M k P sh md Ff κ h S0 J0 F0 G0 Z (pN P 2 m) ((rdF md Ff Z) (60 * m + i)).n ((rdF md Ff Z) (60 * m + i)).f S J F G y) (eo : (pN P 6 (60 * m + i)) = 3) : gi_G p l e { frames := 6, cells := 0, slots := 0, locals := 202 } sg mi args below meth c (MQ below (gi_Qc V (fun v n' h' => v = none ∧ n' = n ∧ ∃ κ, spP M k P sh md Ff κ h S0 J0 F0 G0 ((outs P (siN k P sh) (rdF md Ff Z) (60 * m + i)).foldl (comeM md (grF (wdF k P))) Z) h')) args sg 0 0 (fun q : Nat => V.2.2 ≤ q)) V 7 0 0 343 [(5, .int (nI (60 * m) + (P 7 (60 * m + i)))), (4, .int (nI (60 * m + i + 1))), (3, .int (P 7 (60 * m + i))), (2, .int (nI (pN P 6 (60 * m + i)))), (1, .int (nI (60 * m + i))), (0, .ref M)] [] n y := by
  have W := B.wf
  have w8 := W.k8
  have wm := wf_ar W hm
  obtain ⟨x, y0, hsx, x8, x2, GT, ll, o35, od, ey, nxi, jmi⟩ := stp_pre B hm hi hR.1 tl
  have okall := fun c hc => (outs_all B (p := 60 * m + i) (by omega) hR.1 tl c hc).1
  have gn := G_n GT
  have hloc : ∀ q, q < pN P 2 m → (((rdF md Ff Z) (60 * m + i)).f q).2 = -1 := fun q hq => (tyG_mk GT (show q < ((rdF md Ff Z) (60 * m + i)).n by omega)).2.2.2 hq
  have mkL : ∀ q, q < ((rdF md Ff Z) (60 * m + i)).n → (((rdF md Ff Z) (60 * m + i)).f q).2 = -1 ∨ ∃ j, j < pN P 2 m ∧ (((rdF md Ff Z) (60 * m + i)).f q).2 = nI j := fun q hq => mk_L GT hq
  have H := HW.1
  obtain ⟨fs, Ha, Hf⟩ := id H.1
  have ho := HW.2.1
  obtain ⟨f1, f2, f3, f4⟩ := HW.fb
  have oc : outs P (siN k P sh) (rdF md Ff Z) (60 * m + i) = [(60 * m + i + 1, ((rdF md Ff Z) (60 * m + i)).n + 1, upF ((rdF md Ff Z) (60 * m + i)).f ((rdF md Ff Z) (60 * m + i)).n (.inr (0, true), -1))] := by
    rw [outs_mv (by omega), eo]
    rfl
  obtain ⟨hi1, hs1⟩ := nxi (by omega) (by omega)
  have y8 := (sh8 B hs1).1
  have okN := okall _ (by rw [oc]; exact List.mem_singleton.mpr rfl)
  have tyN := ok_ty (y := y0) (show m < 8 by omega) (show i + 1 < 60 by omega) hs1 okN
  have gy := G_n tyN
  refine gi_aload_n (q := 344) (i := 0) C (dm_Mo_step 107 rfl) rfl rfl rfl ?_
  refine gi_iconst (q := 345) (v := 0) C (dm_Mo_step 108 rfl) rfl (by decide) ?_
  refine gi_iconst (q := 346) (v := 1) C (dm_Mo_step 109 rfl) rfl (by decide) ?_
  refine gi_callv 2 (q := 349) C (dm_Mo_step 110 rfl) rfl my_Mo_pushSet lk_Mo_441 im_Mo_pushSet rfl (ww_pushSet HW 0 true (by omega)) Ha rfl rfl ⟨(Nat.le_of_ble_eq_true rfl), (Nat.le_of_ble_eq_true rfl)⟩ (Nat.le_of_ble_eq_true rfl) ⟨(Nat.le_of_ble_eq_true rfl), (Nat.le_of_ble_eq_true rfl)⟩ (fun r346 n346 h346 e346 => ?_)
  obtain ⟨rfl, rfl, S1, J1, F1, G1, HW1⟩ := e346
  have H := HW1.1
  obtain ⟨fs, Ha, Hf⟩ := id H.1
  have ho := HW1.2.1
  refine gi_aload_n (q := 350) (i := 0) C (dm_Mo_step 111 rfl) rfl rfl rfl ?_
  refine gi_iload (q := 352) C (dm_Mo_step 112 rfl) rfl rfl ?_
  refine gi_callv 1 (q := 355) C (dm_Mo_step 113 rfl) rfl my_Mo_comeTo lk_Mo_434 im_Mo_comeTo rfl (ww_comeTo HW1 B hmd hm hi1 hs1 rfl tyN) Ha rfl rfl ⟨(Nat.le_of_ble_eq_true rfl), (Nat.le_of_ble_eq_true rfl)⟩ (Nat.le_of_ble_eq_true rfl) ⟨(Nat.le_of_ble_eq_true rfl), (Nat.le_of_ble_eq_true rfl)⟩ (fun r352 n352 h352 e352 => ?_)
  obtain ⟨rfl, rfl, S2, J2, F2, G2, HW2, fz2⟩ := e352
  have H := HW2.1
  obtain ⟨fs, Ha, Hf⟩ := id H.1
  have ho := HW2.2.1
  refine gi_goto (tgt := 665) C (dm_Mo_step 114 rfl) (by decide) ?_
  refine gi_vret C hr (dm_Mo_step 279 rfl) ?_
  rw [oc]
  exact ⟨rfl, rfl, _, HW2.end⟩
set_option maxHeartbeats 4000000 in
set_option maxRecDepth 100000 in
theorem rsp_4 {p : Program} {e : Env} {sg : State} {mi : MethodId} {args : Array Value} {below : List Frame} {meth : Method} {c : Code} (C : gi_C p sg mi args meth c b_Mo_step 7 y_Mo_step.cls V) (hr : meth.sig.returnType = none) (B : Built k P sh (siN k P sh) (wdF k P)) (hmd : md ≤ 2) (hm : m < k) (hi : i < pN P 5 m) (hR : rdO (tyF P sh) (rdF md Ff Z)) (tl : ((rdF md Ff Z) (60 * m + i)).told = true) (HW : WW M k P sh md Ff κ h S0 J0 F0 G0 Z (pN P 2 m) ((rdF md Ff Z) (60 * m + i)).n ((rdF md Ff Z) (60 * m + i)).f S J F G y) (eo : (pN P 6 (60 * m + i)) = 4) : gi_G p l e { frames := 6, cells := 0, slots := 0, locals := 202 } sg mi args below meth c (MQ below (gi_Qc V (fun v n' h' => v = none ∧ n' = n ∧ ∃ κ, spP M k P sh md Ff κ h S0 J0 F0 G0 ((outs P (siN k P sh) (rdF md Ff Z) (60 * m + i)).foldl (comeM md (grF (wdF k P))) Z) h')) args sg 0 0 (fun q : Nat => V.2.2 ≤ q)) V 7 0 0 358 [(5, .int (nI (60 * m) + (P 7 (60 * m + i)))), (4, .int (nI (60 * m + i + 1))), (3, .int (P 7 (60 * m + i))), (2, .int (nI (pN P 6 (60 * m + i)))), (1, .int (nI (60 * m + i))), (0, .ref M)] [] n y := by
  have W := B.wf
  have w8 := W.k8
  have wm := wf_ar W hm
  obtain ⟨x, y0, hsx, x8, x2, GT, ll, o35, od, ey, nxi, jmi⟩ := stp_pre B hm hi hR.1 tl
  have okall := fun c hc => (outs_all B (p := 60 * m + i) (by omega) hR.1 tl c hc).1
  have gn := G_n GT
  have hloc : ∀ q, q < pN P 2 m → (((rdF md Ff Z) (60 * m + i)).f q).2 = -1 := fun q hq => (tyG_mk GT (show q < ((rdF md Ff Z) (60 * m + i)).n by omega)).2.2.2 hq
  have mkL : ∀ q, q < ((rdF md Ff Z) (60 * m + i)).n → (((rdF md Ff Z) (60 * m + i)).f q).2 = -1 ∨ ∃ j, j < pN P 2 m ∧ (((rdF md Ff Z) (60 * m + i)).f q).2 = nI j := fun q hq => mk_L GT hq
  have H := HW.1
  obtain ⟨fs, Ha, Hf⟩ := id H.1
  have ho := HW.2.1
  obtain ⟨f1, f2, f3, f4⟩ := HW.fb
  have oc : outs P (siN k P sh) (rdF md Ff Z) (60 * m + i) = [(60 * m + i + 1, ((rdF md Ff Z) (60 * m + i)).n - 1, ((rdF md Ff Z) (60 * m + i)).f)] := by
    rw [outs_mv (by omega), eo]
    rfl
  obtain ⟨hi1, hs1⟩ := nxi (by omega) (by omega)
  have y8 := (sh8 B hs1).1
  have okN := okall _ (by rw [oc]; exact List.mem_singleton.mpr rfl)
  have tyN := ok_ty (y := y0) (show m < 8 by omega) (show i + 1 < 60 by omega) hs1 okN
  have gy := G_n tyN
  have x1 : x.1 ≠ 0 := by
    intro z
    rw [eo] at ey
    have e9 : (if x.1 = 0 then none else some (dpS x)) = some y0 := ey
    rw [if_pos z] at e9
    cases e9
  refine gi_aload_n (q := 359) (i := 0) C (dm_Mo_step 115 rfl) rfl rfl rfl ?_
  refine gi_dup (q := 360) C (dm_Mo_step 116 rfl) rfl rfl ?_
  refine gi_get (q := 363) C (dm_Mo_step 117 rfl) rfl fl_Mo_357 Ha (mo_g58 Hf) ?_
  refine gi_iconst (q := 364) (v := 1) C (dm_Mo_step 118 rfl) rfl (by decide) ?_
  refine gi_isub (q := 365) C (dm_Mo_step 119 rfl) rfl ?_
  rw [HW.fb.2.2.2, nI_m1 (by omega), show ((rdF md Ff Z) (60 * m + i)).n - (pN P 2 m) + 6 - 1 = ((rdF md Ff Z) (60 * m + i)).n - 1 - (pN P 2 m) + 6 by omega]
  refine gi_put (q := 368) C (dm_Mo_step 120 rfl) rfl fl_Mo_357 fp_Mo_58 Ha (by rw [Hf.1]; decide) rfl rfl ?_
  refine gi_genM (H.putI Ha Hf (by decide) rfl) (ho.up (by omega) (by omega)) (fun y H ho => ?_)
  obtain ⟨fs, Ha, Hf⟩ := id H.1
  have HW1 := HW.top (n1 := ((rdF md Ff Z) (60 * m + i)).n - 1) (by omega) (by omega) H ho
  refine gi_aload_n (q := 369) (i := 0) C (dm_Mo_step 121 rfl) rfl rfl rfl ?_
  refine gi_iload (q := 371) C (dm_Mo_step 122 rfl) rfl rfl ?_
  refine gi_callv 1 (q := 374) C (dm_Mo_step 123 rfl) rfl my_Mo_comeTo lk_Mo_434 im_Mo_comeTo rfl (ww_comeTo HW1 B hmd hm hi1 hs1 rfl tyN) Ha rfl rfl ⟨(Nat.le_of_ble_eq_true rfl), (Nat.le_of_ble_eq_true rfl)⟩ (Nat.le_of_ble_eq_true rfl) ⟨(Nat.le_of_ble_eq_true rfl), (Nat.le_of_ble_eq_true rfl)⟩ (fun r371 n371 h371 e371 => ?_)
  obtain ⟨rfl, rfl, S2, J2, F2, G2, HW2, fz2⟩ := e371
  have H := HW2.1
  obtain ⟨fs, Ha, Hf⟩ := id H.1
  have ho := HW2.2.1
  refine gi_goto (tgt := 665) C (dm_Mo_step 124 rfl) (by decide) ?_
  refine gi_vret C hr (dm_Mo_step 279 rfl) ?_
  rw [oc]
  exact ⟨rfl, rfl, _, HW2.end⟩
set_option maxHeartbeats 4000000 in
set_option maxRecDepth 100000 in
theorem rsp_6 {p : Program} {e : Env} {sg : State} {mi : MethodId} {args : Array Value} {below : List Frame} {meth : Method} {c : Code} (C : gi_C p sg mi args meth c b_Mo_step 7 y_Mo_step.cls V) (hr : meth.sig.returnType = none) (B : Built k P sh (siN k P sh) (wdF k P)) (hmd : md ≤ 2) (hm : m < k) (hi : i < pN P 5 m) (hR : rdO (tyF P sh) (rdF md Ff Z)) (tl : ((rdF md Ff Z) (60 * m + i)).told = true) (HW : WW M k P sh md Ff κ h S0 J0 F0 G0 Z (pN P 2 m) ((rdF md Ff Z) (60 * m + i)).n ((rdF md Ff Z) (60 * m + i)).f S J F G y) (eo : (pN P 6 (60 * m + i)) = 6) : gi_G p l e { frames := 6, cells := 0, slots := 0, locals := 202 } sg mi args below meth c (MQ below (gi_Qc V (fun v n' h' => v = none ∧ n' = n ∧ ∃ κ, spP M k P sh md Ff κ h S0 J0 F0 G0 ((outs P (siN k P sh) (rdF md Ff Z) (60 * m + i)).foldl (comeM md (grF (wdF k P))) Z) h')) args sg 0 0 (fun q : Nat => V.2.2 ≤ q)) V 7 0 0 410 [(5, .int (nI (60 * m) + (P 7 (60 * m + i)))), (4, .int (nI (60 * m + i + 1))), (3, .int (P 7 (60 * m + i))), (2, .int (nI (pN P 6 (60 * m + i)))), (1, .int (nI (60 * m + i))), (0, .ref M)] [] n y := by
  have W := B.wf
  have w8 := W.k8
  have wm := wf_ar W hm
  obtain ⟨x, y0, hsx, x8, x2, GT, ll, o35, od, ey, nxi, jmi⟩ := stp_pre B hm hi hR.1 tl
  have okall := fun c hc => (outs_all B (p := 60 * m + i) (by omega) hR.1 tl c hc).1
  have gn := G_n GT
  have hloc : ∀ q, q < pN P 2 m → (((rdF md Ff Z) (60 * m + i)).f q).2 = -1 := fun q hq => (tyG_mk GT (show q < ((rdF md Ff Z) (60 * m + i)).n by omega)).2.2.2 hq
  have mkL : ∀ q, q < ((rdF md Ff Z) (60 * m + i)).n → (((rdF md Ff Z) (60 * m + i)).f q).2 = -1 ∨ ∃ j, j < pN P 2 m ∧ (((rdF md Ff Z) (60 * m + i)).f q).2 = nI j := fun q hq => mk_L GT hq
  have H := HW.1
  obtain ⟨fs, Ha, Hf⟩ := id H.1
  have ho := HW.2.1
  obtain ⟨f1, f2, f3, f4⟩ := HW.fb
  have oc : outs P (siN k P sh) (rdF md Ff Z) (60 * m + i) = [(60 * m + i + 1, ((rdF md Ff Z) (60 * m + i)).n, upF (upF ((rdF md Ff Z) (60 * m + i)).f (((rdF md Ff Z) (60 * m + i)).n - 1) (((rdF md Ff Z) (60 * m + i)).f (((rdF md Ff Z) (60 * m + i)).n - 2))) (((rdF md Ff Z) (60 * m + i)).n - 2) (((rdF md Ff Z) (60 * m + i)).f (((rdF md Ff Z) (60 * m + i)).n - 1)))] := by
    rw [outs_mv (by omega), eo]
    rfl
  obtain ⟨hi1, hs1⟩ := nxi (by omega) (by omega)
  have y8 := (sh8 B hs1).1
  have okN := okall _ (by rw [oc]; exact List.mem_singleton.mpr rfl)
  have tyN := ok_ty (y := y0) (show m < 8 by omega) (show i + 1 < 60 by omega) hs1 okN
  have gy := G_n tyN
  have x1 : 2 ≤ x.1 := by
    rcases Nat.lt_or_ge x.1 2 with z | z
    · rw [eo] at ey
      have e9 : (if x.1 < 2 then none else some (ptS (tpS (dpS x)) (ptS (tpS x) (dpS (dpS x))))) = some y0 := ey
      rw [if_pos z] at e9
      cases e9
    · exact z
  refine gi_aload_n (q := 411) (i := 0) C (dm_Mo_step 143 rfl) rfl rfl rfl ?_
  refine gi_callv 0 (q := 414) C (dm_Mo_step 144 rfl) rfl my_Mo_swap lk_Mo_445 im_Mo_swap rfl (ww_swap HW (by omega)) Ha rfl rfl ⟨(Nat.le_of_ble_eq_true rfl), (Nat.le_of_ble_eq_true rfl)⟩ (Nat.le_of_ble_eq_true rfl) ⟨(Nat.le_of_ble_eq_true rfl), (Nat.le_of_ble_eq_true rfl)⟩ (fun r411 n411 h411 e411 => ?_)
  obtain ⟨rfl, rfl, S1, J1, F1, G1, HW1⟩ := e411
  have H := HW1.1
  obtain ⟨fs, Ha, Hf⟩ := id H.1
  have ho := HW1.2.1
  refine gi_aload_n (q := 415) (i := 0) C (dm_Mo_step 145 rfl) rfl rfl rfl ?_
  refine gi_iload (q := 417) C (dm_Mo_step 146 rfl) rfl rfl ?_
  refine gi_callv 1 (q := 420) C (dm_Mo_step 147 rfl) rfl my_Mo_comeTo lk_Mo_434 im_Mo_comeTo rfl (ww_comeTo HW1 B hmd hm hi1 hs1 rfl tyN) Ha rfl rfl ⟨(Nat.le_of_ble_eq_true rfl), (Nat.le_of_ble_eq_true rfl)⟩ (Nat.le_of_ble_eq_true rfl) ⟨(Nat.le_of_ble_eq_true rfl), (Nat.le_of_ble_eq_true rfl)⟩ (fun r417 n417 h417 e417 => ?_)
  obtain ⟨rfl, rfl, S2, J2, F2, G2, HW2, fz2⟩ := e417
  have H := HW2.1
  obtain ⟨fs, Ha, Hf⟩ := id H.1
  have ho := HW2.2.1
  refine gi_goto (tgt := 665) C (dm_Mo_step 148 rfl) (by decide) ?_
  refine gi_vret C hr (dm_Mo_step 279 rfl) ?_
  rw [oc]
  exact ⟨rfl, rfl, _, HW2.end⟩
set_option maxHeartbeats 4000000 in
set_option maxRecDepth 100000 in
theorem rsp_5 {p : Program} {e : Env} {sg : State} {mi : MethodId} {args : Array Value} {below : List Frame} {meth : Method} {c : Code} (C : gi_C p sg mi args meth c b_Mo_step 7 y_Mo_step.cls V) (hr : meth.sig.returnType = none) (B : Built k P sh (siN k P sh) (wdF k P)) (hmd : md ≤ 2) (hm : m < k) (hi : i < pN P 5 m) (hR : rdO (tyF P sh) (rdF md Ff Z)) (tl : ((rdF md Ff Z) (60 * m + i)).told = true) (HW : WW M k P sh md Ff κ h S0 J0 F0 G0 Z (pN P 2 m) ((rdF md Ff Z) (60 * m + i)).n ((rdF md Ff Z) (60 * m + i)).f S J F G y) (eo : (pN P 6 (60 * m + i)) = 5) : gi_G p l e { frames := 6, cells := 0, slots := 0, locals := 202 } sg mi args below meth c (MQ below (gi_Qc V (fun v n' h' => v = none ∧ n' = n ∧ ∃ κ, spP M k P sh md Ff κ h S0 J0 F0 G0 ((outs P (siN k P sh) (rdF md Ff Z) (60 * m + i)).foldl (comeM md (grF (wdF k P))) Z) h')) args sg 0 0 (fun q : Nat => V.2.2 ≤ q)) V 7 0 0 377 [(5, .int (nI (60 * m) + (P 7 (60 * m + i)))), (4, .int (nI (60 * m + i + 1))), (3, .int (P 7 (60 * m + i))), (2, .int (nI (pN P 6 (60 * m + i)))), (1, .int (nI (60 * m + i))), (0, .ref M)] [] n y := by
  have W := B.wf
  have w8 := W.k8
  have wm := wf_ar W hm
  obtain ⟨x, y0, hsx, x8, x2, GT, ll, o35, od, ey, nxi, jmi⟩ := stp_pre B hm hi hR.1 tl
  have okall := fun c hc => (outs_all B (p := 60 * m + i) (by omega) hR.1 tl c hc).1
  have gn := G_n GT
  have hloc : ∀ q, q < pN P 2 m → (((rdF md Ff Z) (60 * m + i)).f q).2 = -1 := fun q hq => (tyG_mk GT (show q < ((rdF md Ff Z) (60 * m + i)).n by omega)).2.2.2 hq
  have mkL : ∀ q, q < ((rdF md Ff Z) (60 * m + i)).n → (((rdF md Ff Z) (60 * m + i)).f q).2 = -1 ∨ ∃ j, j < pN P 2 m ∧ (((rdF md Ff Z) (60 * m + i)).f q).2 = nI j := fun q hq => mk_L GT hq
  have H := HW.1
  obtain ⟨fs, Ha, Hf⟩ := id H.1
  have ho := HW.2.1
  obtain ⟨f1, f2, f3, f4⟩ := HW.fb
  have oc : outs P (siN k P sh) (rdF md Ff Z) (60 * m + i) = [(60 * m + i + 1, ((rdF md Ff Z) (60 * m + i)).n + 1, upF ((rdF md Ff Z) (60 * m + i)).f ((rdF md Ff Z) (60 * m + i)).n (((rdF md Ff Z) (60 * m + i)).f (((rdF md Ff Z) (60 * m + i)).n - 1)))] := by
    rw [outs_mv (by omega), eo]
    rfl
  obtain ⟨hi1, hs1⟩ := nxi (by omega) (by omega)
  have y8 := (sh8 B hs1).1
  have okN := okall _ (by rw [oc]; exact List.mem_singleton.mpr rfl)
  have tyN := ok_ty (y := y0) (show m < 8 by omega) (show i + 1 < 60 by omega) hs1 okN
  have gy := G_n tyN
  have x1 : x.1 ≠ 0 := by
    intro z
    rw [eo] at ey
    have e9 : (if x.1 = 0 then none else some (ptS (tpS x) x)) = some y0 := ey
    rw [if_pos z] at e9
    cases e9
  refine gi_aload_n (q := 378) (i := 0) C (dm_Mo_step 125 rfl) rfl rfl rfl ?_
  refine gi_aload_n (q := 379) (i := 0) C (dm_Mo_step 126 rfl) rfl rfl rfl ?_
  refine gi_get (q := 382) C (dm_Mo_step 127 rfl) rfl fl_Mo_357 Ha (mo_g58 Hf) ?_
  refine gi_iconst (q := 383) (v := 1) C (dm_Mo_step 128 rfl) rfl (by decide) ?_
  refine gi_isub (q := 384) C (dm_Mo_step 129 rfl) rfl ?_
  rw [f4, nI_m1 (by omega), show ((rdF md Ff Z) (60 * m + i)).n - (pN P 2 m) + 6 - 1 = (((rdF md Ff Z) (60 * m + i)).n - 1 - (pN P 2 m) + 6) by omega]
  refine gi_aload_n (q := 385) (i := 0) C (dm_Mo_step 130 rfl) rfl rfl rfl ?_
  refine gi_get (q := 388) C (dm_Mo_step 131 rfl) rfl fl_Mo_357 Ha (mo_g58 Hf) ?_
  rw [f4]
  refine gi_callv 2 (q := 391) C (dm_Mo_step 132 rfl) rfl my_Mo_copy lk_Mo_437 im_Mo_copy rfl (c_Mo_copy (t := (((rdF md Ff Z) (60 * m + i)).n - 1 - (pN P 2 m) + 6)) (s := (((rdF md Ff Z) (60 * m + i)).n - (pN P 2 m) + 6)) (by omega) (by omega) H) Ha rfl rfl ⟨(Nat.le_of_ble_eq_true rfl), (Nat.le_of_ble_eq_true rfl)⟩ (Nat.le_of_ble_eq_true rfl) ⟨(Nat.le_of_ble_eq_true rfl), (Nat.le_of_ble_eq_true rfl)⟩ (fun r388 n388 h388 e388 => ?_)
  obtain ⟨rfl, rfl, F1, G1, H1, o1, r1, c1⟩ := e388
  have H := H1
  obtain ⟨fs, Ha, Hf⟩ := id H.1
  have ho := ho.tr o1
  refine gi_aload_n (q := 392) (i := 0) C (dm_Mo_step 133 rfl) rfl rfl rfl ?_
  refine gi_dup (q := 393) C (dm_Mo_step 134 rfl) rfl rfl ?_
  refine gi_get (q := 396) C (dm_Mo_step 135 rfl) rfl fl_Mo_357 Ha (mo_g58 Hf) ?_
  refine gi_iconst (q := 397) (v := 1) C (dm_Mo_step 136 rfl) rfl (by decide) ?_
  refine gi_iadd (q := 398) C (dm_Mo_step 137 rfl) rfl ?_
  rw [f4, nI_1]
  refine gi_put (q := 401) C (dm_Mo_step 138 rfl) rfl fl_Mo_357 fp_Mo_58 Ha (by rw [Hf.1]; decide) rfl rfl ?_
  refine gi_genM (H.putI Ha Hf (by decide) rfl) (ho.up (by omega) (by omega)) (fun y H ho => ?_)
  obtain ⟨fs, Ha, Hf⟩ := id H.1
  have q2 := HW.2.2.2.2.2.2.1 (((rdF md Ff Z) (60 * m + i)).n - 1) (by omega)
  rw [sl_t (by omega)] at q2
  have w1 : rwR (pN P 2 m) (((rdF md Ff Z) (60 * m + i)).n + 1) (upF ((rdF md Ff Z) (60 * m + i)).f ((rdF md Ff Z) (60 * m + i)).n (((rdF md Ff Z) (60 * m + i)).f (((rdF md Ff Z) (60 * m + i)).n - 1))) (cW F1 G1) := rw_push HW.2.2.2.2.2.2.1 f1 f2 c1 (ceA_nr q2.1) (q2.2 (by omega))
  have r9 : frW S (upS S 58 (nI ((((rdF md Ff Z) (60 * m + i)).n - (pN P 2 m) + 6) + 1))) F F1 G G1 := ⟨fun a q => by unfold upS; rw [if_neg q], r1.2.1, r1.2.2⟩
  have HW1 := HW.wl H ho r9 ⟨(show nI ((((rdF md Ff Z) (60 * m + i)).n - (pN P 2 m) + 6) + 1) = nI (((rdF md Ff Z) (60 * m + i)).n + 1 - (pN P 2 m) + 6) by congr 1; omega), w1, f1, by omega, by omega⟩
  refine gi_aload_n (q := 402) (i := 0) C (dm_Mo_step 139 rfl) rfl rfl rfl ?_
  refine gi_iload (q := 404) C (dm_Mo_step 140 rfl) rfl rfl ?_
  refine gi_callv 1 (q := 407) C (dm_Mo_step 141 rfl) rfl my_Mo_comeTo lk_Mo_434 im_Mo_comeTo rfl (ww_comeTo HW1 B hmd hm hi1 hs1 rfl tyN) Ha rfl rfl ⟨(Nat.le_of_ble_eq_true rfl), (Nat.le_of_ble_eq_true rfl)⟩ (Nat.le_of_ble_eq_true rfl) ⟨(Nat.le_of_ble_eq_true rfl), (Nat.le_of_ble_eq_true rfl)⟩ (fun r404 n404 h404 e404 => ?_)
  obtain ⟨rfl, rfl, S2, J2, F2, G2, HW2, fz2⟩ := e404
  have H := HW2.1
  obtain ⟨fs, Ha, Hf⟩ := id H.1
  have ho := HW2.2.1
  refine gi_goto (tgt := 665) C (dm_Mo_step 142 rfl) (by decide) ?_
  refine gi_vret C hr (dm_Mo_step 279 rfl) ?_
  rw [oc]
  exact ⟨rfl, rfl, _, HW2.end⟩
set_option maxHeartbeats 4000000 in
set_option maxRecDepth 100000 in
theorem rsp_1 {p : Program} {e : Env} {sg : State} {mi : MethodId} {args : Array Value} {below : List Frame} {meth : Method} {c : Code} (C : gi_C p sg mi args meth c b_Mo_step 7 y_Mo_step.cls V) (hr : meth.sig.returnType = none) (B : Built k P sh (siN k P sh) (wdF k P)) (hmd : md ≤ 2) (hm : m < k) (hi : i < pN P 5 m) (hR : rdO (tyF P sh) (rdF md Ff Z)) (tl : ((rdF md Ff Z) (60 * m + i)).told = true) (HW : WW M k P sh md Ff κ h S0 J0 F0 G0 Z (pN P 2 m) ((rdF md Ff Z) (60 * m + i)).n ((rdF md Ff Z) (60 * m + i)).f S J F G y) (eo : (pN P 6 (60 * m + i)) = 1) : gi_G p l e { frames := 6, cells := 0, slots := 0, locals := 202 } sg mi args below meth c (MQ below (gi_Qc V (fun v n' h' => v = none ∧ n' = n ∧ ∃ κ, spP M k P sh md Ff κ h S0 J0 F0 G0 ((outs P (siN k P sh) (rdF md Ff Z) (60 * m + i)).foldl (comeM md (grF (wdF k P))) Z) h')) args sg 0 0 (fun q : Nat => V.2.2 ≤ q)) V 7 0 0 222 [(5, .int (nI (60 * m) + (P 7 (60 * m + i)))), (4, .int (nI (60 * m + i + 1))), (3, .int (P 7 (60 * m + i))), (2, .int (nI (pN P 6 (60 * m + i)))), (1, .int (nI (60 * m + i))), (0, .ref M)] [] n y := by
  have W := B.wf
  have w8 := W.k8
  have wm := wf_ar W hm
  obtain ⟨x, y0, hsx, x8, x2, GT, ll, o35, od, ey, nxi, jmi⟩ := stp_pre B hm hi hR.1 tl
  have okall := fun c hc => (outs_all B (p := 60 * m + i) (by omega) hR.1 tl c hc).1
  have gn := G_n GT
  have hloc : ∀ q, q < pN P 2 m → (((rdF md Ff Z) (60 * m + i)).f q).2 = -1 := fun q hq => (tyG_mk GT (show q < ((rdF md Ff Z) (60 * m + i)).n by omega)).2.2.2 hq
  have mkL : ∀ q, q < ((rdF md Ff Z) (60 * m + i)).n → (((rdF md Ff Z) (60 * m + i)).f q).2 = -1 ∨ ∃ j, j < pN P 2 m ∧ (((rdF md Ff Z) (60 * m + i)).f q).2 = nI j := fun q hq => mk_L GT hq
  have H := HW.1
  obtain ⟨fs, Ha, Hf⟩ := id H.1
  have ho := HW.2.1
  obtain ⟨f1, f2, f3, f4⟩ := HW.fb
  have oc : outs P (siN k P sh) (rdF md Ff Z) (60 * m + i) = [(60 * m + i + 1, ((rdF md Ff Z) (60 * m + i)).n + 1, upF ((rdF md Ff Z) (60 * m + i)).f ((rdF md Ff Z) (60 * m + i)).n ((((rdF md Ff Z) (60 * m + i)).f (pN P 7 (60 * m + i))).1, P 7 (60 * m + i)))] := by
    rw [outs_mv (by omega), eo]
    rfl
  obtain ⟨hi1, hs1⟩ := nxi (by omega) (by omega)
  have y8 := (sh8 B hs1).1
  have okN := okall _ (by rw [oc]; exact List.mem_singleton.mpr rfl)
  have tyN := ok_ty (y := y0) (show m < 8 by omega) (show i + 1 < 60 by omega) hs1 okN
  have gy := G_n tyN
  obtain ⟨ea, al⟩ : P 7 (60 * m + i) = nI (pN P 7 (60 * m + i)) ∧ pN P 7 (60 * m + i) < pN P 2 m := by
    have z := od.1 (by omega)
    have z2 := nn_nI (a := P 7 (60 * m + i)) z.1
    exact ⟨z2.1, by show (P 7 (60 * m + i)).toNatClampNeg < _; omega⟩
  refine gi_aload_n (q := 223) (i := 0) C (dm_Mo_step 42 rfl) rfl rfl rfl ?_
  refine gi_iload_n (q := 224) (i := 3) C (dm_Mo_step 43 rfl) rfl rfl rfl ?_
  refine gi_aload_n (q := 225) (i := 0) C (dm_Mo_step 44 rfl) rfl rfl rfl ?_
  refine gi_get (q := 228) C (dm_Mo_step 45 rfl) rfl fl_Mo_357 Ha (mo_g58 Hf) ?_
  rw [f4, ea]
  refine gi_callv 2 (q := 231) C (dm_Mo_step 46 rfl) rfl my_Mo_copy lk_Mo_437 im_Mo_copy rfl (c_Mo_copy (t := pN P 7 (60 * m + i)) (s := (((rdF md Ff Z) (60 * m + i)).n - (pN P 2 m) + 6)) (by omega) (by omega) H) Ha rfl rfl ⟨(Nat.le_of_ble_eq_true rfl), (Nat.le_of_ble_eq_true rfl)⟩ (Nat.le_of_ble_eq_true rfl) ⟨(Nat.le_of_ble_eq_true rfl), (Nat.le_of_ble_eq_true rfl)⟩ (fun r228 n228 h228 e228 => ?_)
  obtain ⟨rfl, rfl, F1, G1, H1, o1, r1, c1⟩ := e228
  have H := H1
  obtain ⟨fs, Ha, Hf⟩ := id H.1
  have ho := ho.tr o1
  refine gi_aload_n (q := 232) (i := 0) C (dm_Mo_step 47 rfl) rfl rfl rfl ?_
  refine gi_get (q := 235) C (dm_Mo_step 48 rfl) rfl fl_Mo_119 Ha (mo_g57 Hf) ?_
  refine gi_aload_n (q := 236) (i := 0) C (dm_Mo_step 49 rfl) rfl rfl rfl ?_
  refine gi_get (q := 239) C (dm_Mo_step 50 rfl) rfl fl_Mo_357 Ha (mo_g58 Hf) ?_
  rw [f4]
  refine gi_iload_n (q := 240) (i := 3) C (dm_Mo_step 51 rfl) rfl rfl rfl ?_
  skip
  refine gi_iast (q := 241) C (dm_Mo_step 52 rfl) rfl rfl (mo_a57 H) (inN (show (((rdF md Ff Z) (60 * m + i)).n - (pN P 2 m) + 6) < 14 by omega) (by decide)) ?_
  refine gi_genM (H.setI (p := 33) (k := 57) (by decide) rfl rfl (by decide) rfl (by omega)) (ho.up (by omega) (by omega)) (fun y H ho => ?_)
  obtain ⟨fs, Ha, Hf⟩ := id H.1
  rw [nI_clamp (show (((rdF md Ff Z) (60 * m + i)).n - (pN P 2 m) + 6) < 2 ^ 31 by omega)] at H
  refine gi_aload_n (q := 242) (i := 0) C (dm_Mo_step 53 rfl) rfl rfl rfl ?_
  refine gi_dup (q := 243) C (dm_Mo_step 54 rfl) rfl rfl ?_
  refine gi_get (q := 246) C (dm_Mo_step 55 rfl) rfl fl_Mo_357 Ha (mo_g58 Hf) ?_
  refine gi_iconst (q := 247) (v := 1) C (dm_Mo_step 56 rfl) rfl (by decide) ?_
  refine gi_iadd (q := 248) C (dm_Mo_step 57 rfl) rfl ?_
  rw [f4, nI_1]
  refine gi_put (q := 251) C (dm_Mo_step 58 rfl) rfl fl_Mo_357 fp_Mo_58 Ha (by rw [Hf.1]; decide) rfl rfl ?_
  refine gi_genM (H.putI Ha Hf (by decide) rfl) (ho.up (by omega) (by omega)) (fun y H ho => ?_)
  obtain ⟨fs, Ha, Hf⟩ := id H.1
  have q2 := HW.2.2.2.2.2.2.1 (pN P 7 (60 * m + i)) (by omega)
  rw [sl_lo al] at q2
  have cm := cW_mk (F := F1) (G := G1) (s := (((rdF md Ff Z) (60 * m + i)).n - (pN P 2 m) + 6)) (v := nI (pN P 7 (60 * m + i)))
  have key : ∃ F2, mo_at M (upS S 58 (nI ((((rdF md Ff Z) (60 * m + i)).n - (pN P 2 m) + 6) + 1))) J F2 G1 y ∧ frW S (upS S 58 (nI ((((rdF md Ff Z) (60 * m + i)).n - (pN P 2 m) + 6) + 1))) F F2 G G1 ∧ cW F2 G1 = upO (cW F G) (((rdF md Ff Z) (60 * m + i)).n - (pN P 2 m) + 6) ((nrC (cW F G (pN P 7 (60 * m + i)))).1, (nrC (cW F G (pN P 7 (60 * m + i)))).2.1, (nrC (cW F G (pN P 7 (60 * m + i)))).2.2.1, (nrC (cW F G (pN P 7 (60 * m + i)))).2.2.2.1, (nrC (cW F G (pN P 7 (60 * m + i)))).2.2.2.2.1, nI (pN P 7 (60 * m + i))) := by
    refine ⟨_, H, ⟨fun a q => by unfold upS; rw [if_neg q], fun a h1 h2 h3 => by rw [upA_n h3]; exact r1.2.1 a h1 h2 h3, r1.2.2⟩, ?_⟩
    rw [cm, c1, upO_self]
    funext q
    unfold upO
    by_cases z : q = (((rdF md Ff Z) (60 * m + i)).n - (pN P 2 m) + 6)
    · rw [if_pos z, if_pos z]
    · rw [if_neg z, if_neg z, if_neg z]
  obtain ⟨F2, H2, r2, c2⟩ := key
  have w1 : rwR (pN P 2 m) (((rdF md Ff Z) (60 * m + i)).n + 1) (upF ((rdF md Ff Z) (60 * m + i)).f ((rdF md Ff Z) (60 * m + i)).n ((((rdF md Ff Z) (60 * m + i)).f (pN P 7 (60 * m + i))).1, P 7 (60 * m + i))) (cW F2 G1) := rw_push HW.2.2.2.2.2.2.1 f1 f2 c2 (ce_mk (ceA_nr q2.1)) ea.symm
  have HW1 := HW.wl H2 ho r2 ⟨(show nI ((((rdF md Ff Z) (60 * m + i)).n - (pN P 2 m) + 6) + 1) = nI (((rdF md Ff Z) (60 * m + i)).n + 1 - (pN P 2 m) + 6) by congr 1; omega), w1, f1, by omega, by omega⟩
  refine gi_aload_n (q := 252) (i := 0) C (dm_Mo_step 59 rfl) rfl rfl rfl ?_
  refine gi_iload (q := 254) C (dm_Mo_step 60 rfl) rfl rfl ?_
  refine gi_callv 1 (q := 257) C (dm_Mo_step 61 rfl) rfl my_Mo_comeTo lk_Mo_434 im_Mo_comeTo rfl (ww_comeTo HW1 B hmd hm hi1 hs1 rfl tyN) Ha rfl rfl ⟨(Nat.le_of_ble_eq_true rfl), (Nat.le_of_ble_eq_true rfl)⟩ (Nat.le_of_ble_eq_true rfl) ⟨(Nat.le_of_ble_eq_true rfl), (Nat.le_of_ble_eq_true rfl)⟩ (fun r254 n254 h254 e254 => ?_)
  obtain ⟨rfl, rfl, S2, J2, F2, G2, HW2, fz2⟩ := e254
  have H := HW2.1
  obtain ⟨fs, Ha, Hf⟩ := id H.1
  have ho := HW2.2.1
  refine gi_goto (tgt := 665) C (dm_Mo_step 62 rfl) (by decide) ?_
  refine gi_vret C hr (dm_Mo_step 279 rfl) ?_
  rw [oc]
  exact ⟨rfl, rfl, _, HW2.end⟩
end RCE
