-- needs: 89.84
section RCG
variable {l : Launch} {V : gi_V} {n : Nat} {h h' : gi_H} {M k m i : Nat} {P : Pm} {x : Sh} {sh : Nat → Option Sh} {S S' : Nat → Int32} {J J' : Nat → Int64} {F F' : Nat → Nat → Int32} {G G' : Nat → Nat → Int64} {f g : Nat → Sl} {n0 : Nat} {r : Rw} {Ff : Fa} {Z : Fa × Bool} {md p t : Nat} {S0 S1 S2 : Nat → Int32} {J0 J1 J2 : Nat → Int64} {F0 F1 F2 : Nat → Nat → Int32} {G0 G1 G2 : Nat → Nat → Int64} {y y' : gi_H} {L : Nat} {κ : (Nat → Ce) × Int32}
theorem nI_rm {a b : Nat} (ha : a < 2 ^ 31) (hb : b < 2 ^ 31) : nI a - nI a / nI b * nI b = nI (a % b) := by
  rw [nI_dv ha hb, nI_ml, nI_sb (by have := Nat.div_mul_le_self a b; omega) ha]
  congr 1
  have := Nat.div_add_mod' a b
  omega
set_option maxHeartbeats 4000000 in
set_option maxRecDepth 100000 in
theorem rsp_20 {p : Program} {e : Env} {sg : State} {mi : MethodId} {args : Array Value} {below : List Frame} {meth : Method} {c : Code} (C : gi_C p sg mi args meth c b_Mo_step 7 y_Mo_step.cls V) (hr : meth.sig.returnType = none) (B : Built k P sh (siN k P sh) (wdF k P)) (hmd : md ≤ 2) (hm : m < k) (hi : i < pN P 5 m) (hR : rdO (tyF P sh) (rdF md Ff Z)) (tl : ((rdF md Ff Z) (60 * m + i)).told = true) (HW : WW M k P sh md Ff κ h S0 J0 F0 G0 Z (pN P 2 m) ((rdF md Ff Z) (60 * m + i)).n ((rdF md Ff Z) (60 * m + i)).f S J F G y) (eo : 20 ≤ (pN P 6 (60 * m + i)) ∧ (pN P 6 (60 * m + i)) ≤ 25) : gi_G p l e { frames := 6, cells := 0, slots := 0, locals := 202 } sg mi args below meth c (MQ below (gi_Qc V (fun v n' h' => v = none ∧ n' = n ∧ ∃ κ, spP M k P sh md Ff κ h S0 J0 F0 G0 ((outs P (siN k P sh) (rdF md Ff Z) (60 * m + i)).foldl (comeM md (grF (wdF k P))) Z) h')) args sg 0 0 (fun q : Nat => V.2.2 ≤ q)) V 7 0 0 613 [(5, .int (nI (60 * m) + (P 7 (60 * m + i)))), (4, .int (nI (60 * m + i + 1))), (3, .int (P 7 (60 * m + i))), (2, .int (nI (pN P 6 (60 * m + i)))), (1, .int (nI (60 * m + i))), (0, .ref M)] [] n y := by
  have W := B.wf
  have w8 := W.k8
  have wm := wf_ar W hm
  obtain ⟨x, y0, hsx, x8, x2, GT, ll, o35, od, ey, nxi, jmi⟩ := stp_pre B hm hi hR.1 tl
  have okall := fun c hc => (outs_all B (p := 60 * m + i) (by omega) hR.1 tl c hc).1
  have gn := G_n GT
  have hloc : ∀ q, q < pN P 2 m → (((rdF md Ff Z) (60 * m + i)).f q).2 = -1 := fun q hq => (tyG_mk GT (show q < ((rdF md Ff Z) (60 * m + i)).n by omega)).2.2.2 hq
  have mkL : ∀ q, q < ((rdF md Ff Z) (60 * m + i)).n → (((rdF md Ff Z) (60 * m + i)).f q).2 = -1 ∨ ∃ j, j < pN P 2 m ∧ (((rdF md Ff Z) (60 * m + i)).f q).2 = nI j := fun q hq => mk_L GT hq
  have H := HW.1
  obtain ⟨fs, Ha, Hf⟩ := id H.1
  have ho := HW.2.1
  obtain ⟨f1, f2, f3, f4⟩ := HW.fb
  obtain ⟨g2, X, Y, eX, eY, oX, oY⟩ := s_two ll GT (show (tkS false x).bind (tkS false) = some y0 by rw [← sh_cp eo.1 eo.2]; exact ey)
  have oc := outs_cp (P := P) (sn := siN k P sh) (F := (rdF md Ff Z)) (p := (60 * m + i)) rfl (show i < 60 by omega) eo.1 eo.2
  rw [eX, eY] at oc
  have oc : outs P (siN k P sh) (rdF md Ff Z) (60 * m + i) = conO (60 * m + (pN P 7 (60 * m + i))) (((rdF md Ff Z) (60 * m + i)).n - 2) (opensF (pN P 6 (60 * m + i)) (((rdF md Ff Z) (60 * m + i)).n - 2) ((rdF md Ff Z) (60 * m + i)).f X Y (((rdF md Ff Z) (60 * m + i)).f (((rdF md Ff Z) (60 * m + i)).n - 2)).2 (((rdF md Ff Z) (60 * m + i)).f (((rdF md Ff Z) (60 * m + i)).n - 1)).2) ++ conO (60 * m + i + 1) (((rdF md Ff Z) (60 * m + i)).n - 2) (opensF (if (pN P 6 (60 * m + i)) % 2 = 0 then (pN P 6 (60 * m + i)) + 1 else (pN P 6 (60 * m + i)) - 1) (((rdF md Ff Z) (60 * m + i)).n - 2) ((rdF md Ff Z) (60 * m + i)).f X Y (((rdF md Ff Z) (60 * m + i)).f (((rdF md Ff Z) (60 * m + i)).n - 2)).2 (((rdF md Ff Z) (60 * m + i)).f (((rdF md Ff Z) (60 * m + i)).n - 1)).2) := oc
  obtain ⟨hi1, hs1⟩ := nxi (by omega) (by omega)
  have y8 := (sh8 B hs1).1
  obtain ⟨ea, al, hsj⟩ := jmi (by omega) (by omega)
  have hgA : ∀ g, opensF (pN P 6 (60 * m + i)) (((rdF md Ff Z) (60 * m + i)).n - 2) ((rdF md Ff Z) (60 * m + i)).f X Y (((rdF md Ff Z) (60 * m + i)).f (((rdF md Ff Z) (60 * m + i)).n - 2)).2 (((rdF md Ff Z) (60 * m + i)).f (((rdF md Ff Z) (60 * m + i)).n - 1)).2 = some g → tyG P m y0 (((rdF md Ff Z) (60 * m + i)).n - 2) g := fun g e9 => ok_ty (show m < 8 by omega) (show (pN P 7 (60 * m + i)) < 60 by omega) hsj (okall _ (by rw [oc]; exact List.mem_append.mpr (Or.inl (con_mem e9))))
  have hgB : ∀ g, opensF (if (pN P 6 (60 * m + i)) % 2 = 0 then (pN P 6 (60 * m + i)) + 1 else (pN P 6 (60 * m + i)) - 1) (((rdF md Ff Z) (60 * m + i)).n - 2) ((rdF md Ff Z) (60 * m + i)).f X Y (((rdF md Ff Z) (60 * m + i)).f (((rdF md Ff Z) (60 * m + i)).n - 2)).2 (((rdF md Ff Z) (60 * m + i)).f (((rdF md Ff Z) (60 * m + i)).n - 1)).2 = some g → tyG P m y0 (((rdF md Ff Z) (60 * m + i)).n - 2) g := fun g e9 => ok_ty (show m < 8 by omega) (show i + 1 < 60 by omega) hs1 (okall _ (by rw [oc]; exact List.mem_append.mpr (Or.inr (con_mem e9))))
  rw [ea, nI_add]
  refine gi_iload_n (q := 614) (i := 2) C (dm_Mo_step 249 rfl) rfl rfl rfl ?_
  refine gi_bipush (q := 616) (v := 18) C (dm_Mo_step 250 rfl) rfl (by decide) ?_
  refine gi_icmp_gt (q := 619) (tgt := 629) C (dm_Mo_step 251 rfl) rfl (by decide) (fun c616 => ?_) (fun c616 => ?_)
  · refine gi_aload_n (q := 630) (i := 0) C (dm_Mo_step 257 rfl) rfl rfl rfl ?_
    refine gi_callv 0 (q := 633) C (dm_Mo_step 258 rfl) rfl my_Mo_keep lk_Mo_448 im_Mo_keep rfl (ww_keep HW) Ha rfl rfl ⟨(Nat.le_of_ble_eq_true rfl), (Nat.le_of_ble_eq_true rfl)⟩ (Nat.le_of_ble_eq_true rfl) ⟨(Nat.le_of_ble_eq_true rfl), (Nat.le_of_ble_eq_true rfl)⟩ (fun r630 n630 h630 e630 => ?_)
    obtain ⟨rfl, rfl, κ1, S1, F1, G1, HW1, hk1, k66⟩ := e630
    have H := HW1.1
    obtain ⟨fs, Ha, Hf⟩ := id H.1
    have ho := HW1.2.1
    refine gi_aload_n (q := 634) (i := 0) C (dm_Mo_step 259 rfl) rfl rfl rfl ?_
    refine gi_iload_n (q := 635) (i := 2) C (dm_Mo_step 260 rfl) rfl rfl rfl ?_
    refine gi_iload (q := 637) C (dm_Mo_step 261 rfl) rfl rfl ?_
    refine gi_callv 2 (q := 640) C (dm_Mo_step 262 rfl) rfl my_Mo_compared lk_Mo_476 im_Mo_compared rfl (ww_compared HW1 B hmd hm al hsj rfl eo.1 eo.2 oX oY (mkL _ (by omega)) (mkL _ (by omega)) hloc hgA g2 eY eX) Ha rfl rfl ⟨(Nat.le_of_ble_eq_true rfl), (Nat.le_of_ble_eq_true rfl)⟩ (Nat.le_of_ble_eq_true rfl) ⟨(Nat.le_of_ble_eq_true rfl), (Nat.le_of_ble_eq_true rfl)⟩ (fun r637 n637 h637 e637 => ?_)
    obtain ⟨rfl, rfl, sp1⟩ := e637
    obtain ⟨⟨fs, Ha⟩, AG⟩ := ww_again (l := l) (V := V) (n := n637) (n1 := ((rdF md Ff Z) (60 * m + i)).n) HW1 sp1 hk1 k66 f1 f2 f3
    refine gi_aload_n (q := 641) (i := 0) C (dm_Mo_step 263 rfl) rfl rfl rfl ?_
    refine gi_callv 0 (q := 644) C (dm_Mo_step 264 rfl) rfl my_Mo_again lk_Mo_455 im_Mo_again rfl (AG) Ha rfl rfl ⟨(Nat.le_of_ble_eq_true rfl), (Nat.le_of_ble_eq_true rfl)⟩ (Nat.le_of_ble_eq_true rfl) ⟨(Nat.le_of_ble_eq_true rfl), (Nat.le_of_ble_eq_true rfl)⟩ (fun r641 n641 h641 e641 => ?_)
    obtain ⟨rfl, rfl, S5, J5, F5, G5, HW5⟩ := e641
    have H := HW5.1
    obtain ⟨fs, Ha, Hf⟩ := id H.1
    have ho := HW5.2.1
    refine gi_aload_n (q := 645) (i := 0) C (dm_Mo_step 265 rfl) rfl rfl rfl ?_
    refine gi_iload_n (q := 646) (i := 2) C (dm_Mo_step 266 rfl) rfl rfl rfl ?_
    refine gi_iconst (q := 647) (v := 2) C (dm_Mo_step 267 rfl) rfl (by decide) ?_
    refine gi_irem (q := 648) C (dm_Mo_step 268 rfl) rfl (by decide) ?_
    refine gi_if_ne (q := 651) (tgt := 657) C (dm_Mo_step 269 rfl) rfl (by decide) (fun c648 => ?_) (fun c648 => ?_)
    · refine gi_iload_n (q := 658) (i := 2) C (dm_Mo_step 274 rfl) rfl rfl rfl ?_
      refine gi_iconst (q := 659) (v := 1) C (dm_Mo_step 275 rfl) rfl (by decide) ?_
      refine gi_isub (q := 660) C (dm_Mo_step 276 rfl) rfl ?_
      have z9 := c648
      rw [show (2 : Int32) = nI 2 from rfl, nI_rm (by omega) (by decide), nI_z (by omega)] at z9
      have o2 : (if (pN P 6 (60 * m + i)) % 2 = 0 then (pN P 6 (60 * m + i)) + 1 else (pN P 6 (60 * m + i)) - 1) = (pN P 6 (60 * m + i)) - 1 := if_neg (by omega)
      rw [o2] at oc hgB
      rw [nI_m1 (by omega)]
      refine gi_iload (q := 662) C (dm_Mo_step 277 rfl) rfl rfl ?_
      refine gi_callv 2 (q := 665) C (dm_Mo_step 278 rfl) rfl my_Mo_compared lk_Mo_476 im_Mo_compared rfl (ww_compared HW5 B hmd hm hi1 hs1 rfl (by omega) (by omega) oX oY (mkL _ (by omega)) (mkL _ (by omega)) hloc hgB g2 eY eX) Ha rfl rfl ⟨(Nat.le_of_ble_eq_true rfl), (Nat.le_of_ble_eq_true rfl)⟩ (Nat.le_of_ble_eq_true rfl) ⟨(Nat.le_of_ble_eq_true rfl), (Nat.le_of_ble_eq_true rfl)⟩ (fun r662 n662 h662 e662 => ?_)
      obtain ⟨rfl, rfl, sp2⟩ := e662
      refine gi_vret C hr (dm_Mo_step 279 rfl) ?_
      rw [oc, List.foldl_append, con_fold, con_fold]
      exact ⟨rfl, rfl, _, sp2⟩
    · refine gi_iload_n (q := 652) (i := 2) C (dm_Mo_step 270 rfl) rfl rfl rfl ?_
      refine gi_iconst (q := 653) (v := 1) C (dm_Mo_step 271 rfl) rfl (by decide) ?_
      refine gi_iadd (q := 654) C (dm_Mo_step 272 rfl) rfl ?_
      refine gi_goto (tgt := 660) C (dm_Mo_step 273 rfl) (by decide) ?_
      have z9 := c648
      rw [show (2 : Int32) = nI 2 from rfl, nI_rm (by omega) (by decide), nI_z (by omega)] at z9
      have o2 : (if (pN P 6 (60 * m + i)) % 2 = 0 then (pN P 6 (60 * m + i)) + 1 else (pN P 6 (60 * m + i)) - 1) = (pN P 6 (60 * m + i)) + 1 := if_pos (by omega)
      rw [o2] at oc hgB
      rw [nI_1]
      refine gi_iload (q := 662) C (dm_Mo_step 277 rfl) rfl rfl ?_
      refine gi_callv 2 (q := 665) C (dm_Mo_step 278 rfl) rfl my_Mo_compared lk_Mo_476 im_Mo_compared rfl (ww_compared HW5 B hmd hm hi1 hs1 rfl (by omega) (by omega) oX oY (mkL _ (by omega)) (mkL _ (by omega)) hloc hgB g2 eY eX) Ha rfl rfl ⟨(Nat.le_of_ble_eq_true rfl), (Nat.le_of_ble_eq_true rfl)⟩ (Nat.le_of_ble_eq_true rfl) ⟨(Nat.le_of_ble_eq_true rfl), (Nat.le_of_ble_eq_true rfl)⟩ (fun r662 n662 h662 e662 => ?_)
      obtain ⟨rfl, rfl, sp2⟩ := e662
      refine gi_vret C hr (dm_Mo_step 279 rfl) ?_
      rw [oc, List.foldl_append, con_fold, con_fold]
      exact ⟨rfl, rfl, _, sp2⟩
  · exact absurd (show nI 18 < nI (pN P 6 (60 * m + i)) from nI_lt (by omega) (by omega)) c616
set_option maxHeartbeats 4000000 in
set_option maxRecDepth 100000 in
theorem rsp_26 {p : Program} {e : Env} {sg : State} {mi : MethodId} {args : Array Value} {below : List Frame} {meth : Method} {c : Code} (C : gi_C p sg mi args meth c b_Mo_step 7 y_Mo_step.cls V) (hr : meth.sig.returnType = none) (B : Built k P sh (siN k P sh) (wdF k P)) (hmd : md ≤ 2) (hm : m < k) (hi : i < pN P 5 m) (hR : rdO (tyF P sh) (rdF md Ff Z)) (tl : ((rdF md Ff Z) (60 * m + i)).told = true) (HW : WW M k P sh md Ff κ h S0 J0 F0 G0 Z (pN P 2 m) ((rdF md Ff Z) (60 * m + i)).n ((rdF md Ff Z) (60 * m + i)).f S J F G y) (eo : (pN P 6 (60 * m + i)) = 26) : gi_G p l e { frames := 6, cells := 0, slots := 0, locals := 202 } sg mi args below meth c (MQ below (gi_Qc V (fun v n' h' => v = none ∧ n' = n ∧ ∃ κ, spP M k P sh md Ff κ h S0 J0 F0 G0 ((outs P (siN k P sh) (rdF md Ff Z) (60 * m + i)).foldl (comeM md (grF (wdF k P))) Z) h')) args sg 0 0 (fun q : Nat => V.2.2 ≤ q)) V 7 0 0 432 [(5, .int (nI (60 * m) + (P 7 (60 * m + i)))), (4, .int (nI (60 * m + i + 1))), (3, .int (P 7 (60 * m + i))), (2, .int (nI (pN P 6 (60 * m + i)))), (1, .int (nI (60 * m + i))), (0, .ref M)] [] n y := by
  have W := B.wf
  have w8 := W.k8
  have wm := wf_ar W hm
  obtain ⟨x, y0, hsx, x8, x2, GT, ll, o35, od, ey, nxi, jmi⟩ := stp_pre B hm hi hR.1 tl
  have okall := fun c hc => (outs_all B (p := 60 * m + i) (by omega) hR.1 tl c hc).1
  have gn := G_n GT
  have hloc : ∀ q, q < pN P 2 m → (((rdF md Ff Z) (60 * m + i)).f q).2 = -1 := fun q hq => (tyG_mk GT (show q < ((rdF md Ff Z) (60 * m + i)).n by omega)).2.2.2 hq
  have mkL : ∀ q, q < ((rdF md Ff Z) (60 * m + i)).n → (((rdF md Ff Z) (60 * m + i)).f q).2 = -1 ∨ ∃ j, j < pN P 2 m ∧ (((rdF md Ff Z) (60 * m + i)).f q).2 = nI j := fun q hq => mk_L GT hq
  have H := HW.1
  obtain ⟨fs, Ha, Hf⟩ := id H.1
  have ho := HW.2.1
  obtain ⟨f1, f2, f3, f4⟩ := HW.fb
  obtain ⟨g1, b, q, eA⟩ := s_set ll GT (show tkS true x = some y0 by rw [← sh_nl (P := P) (m := m) (o := (pN P 6 (60 * m + i))) (a := (pN P 7 (60 * m + i))) (by omega) (by omega)]; exact ey)
  have oc := outs_nl (P := P) (sn := siN k P sh) (F := (rdF md Ff Z)) (p := (60 * m + i)) rfl (show i < 60 by omega) (by omega) (by omega)
  rw [eo] at oc
  have oc : outs P (siN k P sh) (rdF md Ff Z) (60 * m + i) = conO (60 * m + (pN P 7 (60 * m + i))) (((rdF md Ff Z) (60 * m + i)).n - 1) (nullF true (((rdF md Ff Z) (60 * m + i)).n - 1) ((rdF md Ff Z) (60 * m + i)).f) ++ conO (60 * m + i + 1) (((rdF md Ff Z) (60 * m + i)).n - 1) (nullF false (((rdF md Ff Z) (60 * m + i)).n - 1) ((rdF md Ff Z) (60 * m + i)).f) := oc
  obtain ⟨hi1, hs1⟩ := nxi (by omega) (by omega)
  have y8 := (sh8 B hs1).1
  obtain ⟨ea, al, hsj⟩ := jmi (by omega) (by omega)
  have hgA : ∀ g, nullF true (((rdF md Ff Z) (60 * m + i)).n - 1) ((rdF md Ff Z) (60 * m + i)).f = some g → tyG P m y0 (((rdF md Ff Z) (60 * m + i)).n - 1) g := fun g e9 => ok_ty (show m < 8 by omega) (show (pN P 7 (60 * m + i)) < 60 by omega) hsj (okall _ (by rw [oc]; exact List.mem_append.mpr (Or.inl (con_mem e9))))
  have hgB : ∀ g, nullF false (((rdF md Ff Z) (60 * m + i)).n - 1) ((rdF md Ff Z) (60 * m + i)).f = some g → tyG P m y0 (((rdF md Ff Z) (60 * m + i)).n - 1) g := fun g e9 => ok_ty (show m < 8 by omega) (show i + 1 < 60 by omega) hs1 (okall _ (by rw [oc]; exact List.mem_append.mpr (Or.inr (con_mem e9))))
  rw [ea, nI_add, eo]
  refine gi_aload_n (q := 433) (i := 0) C (dm_Mo_step 153 rfl) rfl rfl rfl ?_
  refine gi_callv 0 (q := 436) C (dm_Mo_step 154 rfl) rfl my_Mo_keep lk_Mo_448 im_Mo_keep rfl (ww_keep HW) Ha rfl rfl ⟨(Nat.le_of_ble_eq_true rfl), (Nat.le_of_ble_eq_true rfl)⟩ (Nat.le_of_ble_eq_true rfl) ⟨(Nat.le_of_ble_eq_true rfl), (Nat.le_of_ble_eq_true rfl)⟩ (fun r433 n433 h433 e433 => ?_)
  obtain ⟨rfl, rfl, κ1, S1, F1, G1, HW1, hk1, k66⟩ := e433
  have H := HW1.1
  obtain ⟨fs, Ha, Hf⟩ := id H.1
  have ho := HW1.2.1
  refine gi_aload_n (q := 437) (i := 0) C (dm_Mo_step 155 rfl) rfl rfl rfl ?_
  refine gi_iload_n (q := 438) (i := 2) C (dm_Mo_step 156 rfl) rfl rfl rfl ?_
  refine gi_bipush (q := 440) (v := 26) C (dm_Mo_step 157 rfl) rfl (by decide) ?_
  refine gi_icmp_ne (q := 443) (tgt := 447) C (dm_Mo_step 158 rfl) rfl (by decide) (fun c440 => ?_) (fun c440 => ?_)
  · exact absurd rfl c440
  · refine gi_iconst (q := 444) (v := 1) C (dm_Mo_step 159 rfl) rfl (by decide) ?_
    refine gi_goto (tgt := 448) C (dm_Mo_step 160 rfl) (by decide) ?_
    refine gi_iload (q := 450) C (dm_Mo_step 162 rfl) rfl rfl ?_
    refine gi_callv 2 (q := 453) C (dm_Mo_step 163 rfl) rfl my_Mo_onNull lk_Mo_451 im_Mo_onNull rfl (ww_onNull HW1 (q := true) B hmd hm al hsj rfl g1 eA (mkL _ (by omega)) hloc hgA) Ha rfl rfl ⟨(Nat.le_of_ble_eq_true rfl), (Nat.le_of_ble_eq_true rfl)⟩ (Nat.le_of_ble_eq_true rfl) ⟨(Nat.le_of_ble_eq_true rfl), (Nat.le_of_ble_eq_true rfl)⟩ (fun r450 n450 h450 e450 => ?_)
    obtain ⟨rfl, rfl, sp1⟩ := e450
    obtain ⟨⟨fs, Ha⟩, AG⟩ := ww_again (l := l) (V := V) (n := n450) (n1 := ((rdF md Ff Z) (60 * m + i)).n) HW1 sp1 hk1 k66 f1 f2 f3
    refine gi_aload_n (q := 454) (i := 0) C (dm_Mo_step 164 rfl) rfl rfl rfl ?_
    refine gi_callv 0 (q := 457) C (dm_Mo_step 165 rfl) rfl my_Mo_again lk_Mo_455 im_Mo_again rfl (AG) Ha rfl rfl ⟨(Nat.le_of_ble_eq_true rfl), (Nat.le_of_ble_eq_true rfl)⟩ (Nat.le_of_ble_eq_true rfl) ⟨(Nat.le_of_ble_eq_true rfl), (Nat.le_of_ble_eq_true rfl)⟩ (fun r454 n454 h454 e454 => ?_)
    obtain ⟨rfl, rfl, S5, J5, F5, G5, HW5⟩ := e454
    have H := HW5.1
    obtain ⟨fs, Ha, Hf⟩ := id H.1
    have ho := HW5.2.1
    refine gi_aload_n (q := 458) (i := 0) C (dm_Mo_step 166 rfl) rfl rfl rfl ?_
    refine gi_iload_n (q := 459) (i := 2) C (dm_Mo_step 167 rfl) rfl rfl rfl ?_
    refine gi_bipush (q := 461) (v := 27) C (dm_Mo_step 168 rfl) rfl (by decide) ?_
    refine gi_icmp_ne (q := 464) (tgt := 468) C (dm_Mo_step 169 rfl) rfl (by decide) (fun c461 => ?_) (fun c461 => ?_)
    · refine gi_iconst (q := 469) (v := 0) C (dm_Mo_step 172 rfl) rfl (by decide) ?_
      refine gi_iload (q := 471) C (dm_Mo_step 173 rfl) rfl rfl ?_
      refine gi_callv 2 (q := 474) C (dm_Mo_step 174 rfl) rfl my_Mo_onNull lk_Mo_451 im_Mo_onNull rfl (ww_onNull HW5 (q := false) B hmd hm hi1 hs1 rfl g1 eA (mkL _ (by omega)) hloc hgB) Ha rfl rfl ⟨(Nat.le_of_ble_eq_true rfl), (Nat.le_of_ble_eq_true rfl)⟩ (Nat.le_of_ble_eq_true rfl) ⟨(Nat.le_of_ble_eq_true rfl), (Nat.le_of_ble_eq_true rfl)⟩ (fun r471 n471 h471 e471 => ?_)
      obtain ⟨rfl, rfl, sp2⟩ := e471
      refine gi_goto (tgt := 665) C (dm_Mo_step 175 rfl) (by decide) ?_
      refine gi_vret C hr (dm_Mo_step 279 rfl) ?_
      rw [oc, List.foldl_append, con_fold, con_fold]
      exact ⟨rfl, rfl, _, sp2⟩
    · exact absurd c461 (by decide)
set_option maxHeartbeats 4000000 in
set_option maxRecDepth 100000 in
theorem rsp_27 {p : Program} {e : Env} {sg : State} {mi : MethodId} {args : Array Value} {below : List Frame} {meth : Method} {c : Code} (C : gi_C p sg mi args meth c b_Mo_step 7 y_Mo_step.cls V) (hr : meth.sig.returnType = none) (B : Built k P sh (siN k P sh) (wdF k P)) (hmd : md ≤ 2) (hm : m < k) (hi : i < pN P 5 m) (hR : rdO (tyF P sh) (rdF md Ff Z)) (tl : ((rdF md Ff Z) (60 * m + i)).told = true) (HW : WW M k P sh md Ff κ h S0 J0 F0 G0 Z (pN P 2 m) ((rdF md Ff Z) (60 * m + i)).n ((rdF md Ff Z) (60 * m + i)).f S J F G y) (eo : (pN P 6 (60 * m + i)) = 27) : gi_G p l e { frames := 6, cells := 0, slots := 0, locals := 202 } sg mi args below meth c (MQ below (gi_Qc V (fun v n' h' => v = none ∧ n' = n ∧ ∃ κ, spP M k P sh md Ff κ h S0 J0 F0 G0 ((outs P (siN k P sh) (rdF md Ff Z) (60 * m + i)).foldl (comeM md (grF (wdF k P))) Z) h')) args sg 0 0 (fun q : Nat => V.2.2 ≤ q)) V 7 0 0 432 [(5, .int (nI (60 * m) + (P 7 (60 * m + i)))), (4, .int (nI (60 * m + i + 1))), (3, .int (P 7 (60 * m + i))), (2, .int (nI (pN P 6 (60 * m + i)))), (1, .int (nI (60 * m + i))), (0, .ref M)] [] n y := by
  have W := B.wf
  have w8 := W.k8
  have wm := wf_ar W hm
  obtain ⟨x, y0, hsx, x8, x2, GT, ll, o35, od, ey, nxi, jmi⟩ := stp_pre B hm hi hR.1 tl
  have okall := fun c hc => (outs_all B (p := 60 * m + i) (by omega) hR.1 tl c hc).1
  have gn := G_n GT
  have hloc : ∀ q, q < pN P 2 m → (((rdF md Ff Z) (60 * m + i)).f q).2 = -1 := fun q hq => (tyG_mk GT (show q < ((rdF md Ff Z) (60 * m + i)).n by omega)).2.2.2 hq
  have mkL : ∀ q, q < ((rdF md Ff Z) (60 * m + i)).n → (((rdF md Ff Z) (60 * m + i)).f q).2 = -1 ∨ ∃ j, j < pN P 2 m ∧ (((rdF md Ff Z) (60 * m + i)).f q).2 = nI j := fun q hq => mk_L GT hq
  have H := HW.1
  obtain ⟨fs, Ha, Hf⟩ := id H.1
  have ho := HW.2.1
  obtain ⟨f1, f2, f3, f4⟩ := HW.fb
  obtain ⟨g1, b, q, eA⟩ := s_set ll GT (show tkS true x = some y0 by rw [← sh_nl (P := P) (m := m) (o := (pN P 6 (60 * m + i))) (a := (pN P 7 (60 * m + i))) (by omega) (by omega)]; exact ey)
  have oc := outs_nl (P := P) (sn := siN k P sh) (F := (rdF md Ff Z)) (p := (60 * m + i)) rfl (show i < 60 by omega) (by omega) (by omega)
  rw [eo] at oc
  have oc : outs P (siN k P sh) (rdF md Ff Z) (60 * m + i) = conO (60 * m + (pN P 7 (60 * m + i))) (((rdF md Ff Z) (60 * m + i)).n - 1) (nullF false (((rdF md Ff Z) (60 * m + i)).n - 1) ((rdF md Ff Z) (60 * m + i)).f) ++ conO (60 * m + i + 1) (((rdF md Ff Z) (60 * m + i)).n - 1) (nullF true (((rdF md Ff Z) (60 * m + i)).n - 1) ((rdF md Ff Z) (60 * m + i)).f) := oc
  obtain ⟨hi1, hs1⟩ := nxi (by omega) (by omega)
  have y8 := (sh8 B hs1).1
  obtain ⟨ea, al, hsj⟩ := jmi (by omega) (by omega)
  have hgA : ∀ g, nullF false (((rdF md Ff Z) (60 * m + i)).n - 1) ((rdF md Ff Z) (60 * m + i)).f = some g → tyG P m y0 (((rdF md Ff Z) (60 * m + i)).n - 1) g := fun g e9 => ok_ty (show m < 8 by omega) (show (pN P 7 (60 * m + i)) < 60 by omega) hsj (okall _ (by rw [oc]; exact List.mem_append.mpr (Or.inl (con_mem e9))))
  have hgB : ∀ g, nullF true (((rdF md Ff Z) (60 * m + i)).n - 1) ((rdF md Ff Z) (60 * m + i)).f = some g → tyG P m y0 (((rdF md Ff Z) (60 * m + i)).n - 1) g := fun g e9 => ok_ty (show m < 8 by omega) (show i + 1 < 60 by omega) hs1 (okall _ (by rw [oc]; exact List.mem_append.mpr (Or.inr (con_mem e9))))
  rw [ea, nI_add, eo]
  refine gi_aload_n (q := 433) (i := 0) C (dm_Mo_step 153 rfl) rfl rfl rfl ?_
  refine gi_callv 0 (q := 436) C (dm_Mo_step 154 rfl) rfl my_Mo_keep lk_Mo_448 im_Mo_keep rfl (ww_keep HW) Ha rfl rfl ⟨(Nat.le_of_ble_eq_true rfl), (Nat.le_of_ble_eq_true rfl)⟩ (Nat.le_of_ble_eq_true rfl) ⟨(Nat.le_of_ble_eq_true rfl), (Nat.le_of_ble_eq_true rfl)⟩ (fun r433 n433 h433 e433 => ?_)
  obtain ⟨rfl, rfl, κ1, S1, F1, G1, HW1, hk1, k66⟩ := e433
  have H := HW1.1
  obtain ⟨fs, Ha, Hf⟩ := id H.1
  have ho := HW1.2.1
  refine gi_aload_n (q := 437) (i := 0) C (dm_Mo_step 155 rfl) rfl rfl rfl ?_
  refine gi_iload_n (q := 438) (i := 2) C (dm_Mo_step 156 rfl) rfl rfl rfl ?_
  refine gi_bipush (q := 440) (v := 26) C (dm_Mo_step 157 rfl) rfl (by decide) ?_
  refine gi_icmp_ne (q := 443) (tgt := 447) C (dm_Mo_step 158 rfl) rfl (by decide) (fun c440 => ?_) (fun c440 => ?_)
  · refine gi_iconst (q := 448) (v := 0) C (dm_Mo_step 161 rfl) rfl (by decide) ?_
    refine gi_iload (q := 450) C (dm_Mo_step 162 rfl) rfl rfl ?_
    refine gi_callv 2 (q := 453) C (dm_Mo_step 163 rfl) rfl my_Mo_onNull lk_Mo_451 im_Mo_onNull rfl (ww_onNull HW1 (q := false) B hmd hm al hsj rfl g1 eA (mkL _ (by omega)) hloc hgA) Ha rfl rfl ⟨(Nat.le_of_ble_eq_true rfl), (Nat.le_of_ble_eq_true rfl)⟩ (Nat.le_of_ble_eq_true rfl) ⟨(Nat.le_of_ble_eq_true rfl), (Nat.le_of_ble_eq_true rfl)⟩ (fun r450 n450 h450 e450 => ?_)
    obtain ⟨rfl, rfl, sp1⟩ := e450
    obtain ⟨⟨fs, Ha⟩, AG⟩ := ww_again (l := l) (V := V) (n := n450) (n1 := ((rdF md Ff Z) (60 * m + i)).n) HW1 sp1 hk1 k66 f1 f2 f3
    refine gi_aload_n (q := 454) (i := 0) C (dm_Mo_step 164 rfl) rfl rfl rfl ?_
    refine gi_callv 0 (q := 457) C (dm_Mo_step 165 rfl) rfl my_Mo_again lk_Mo_455 im_Mo_again rfl (AG) Ha rfl rfl ⟨(Nat.le_of_ble_eq_true rfl), (Nat.le_of_ble_eq_true rfl)⟩ (Nat.le_of_ble_eq_true rfl) ⟨(Nat.le_of_ble_eq_true rfl), (Nat.le_of_ble_eq_true rfl)⟩ (fun r454 n454 h454 e454 => ?_)
    obtain ⟨rfl, rfl, S5, J5, F5, G5, HW5⟩ := e454
    have H := HW5.1
    obtain ⟨fs, Ha, Hf⟩ := id H.1
    have ho := HW5.2.1
    refine gi_aload_n (q := 458) (i := 0) C (dm_Mo_step 166 rfl) rfl rfl rfl ?_
    refine gi_iload_n (q := 459) (i := 2) C (dm_Mo_step 167 rfl) rfl rfl rfl ?_
    refine gi_bipush (q := 461) (v := 27) C (dm_Mo_step 168 rfl) rfl (by decide) ?_
    refine gi_icmp_ne (q := 464) (tgt := 468) C (dm_Mo_step 169 rfl) rfl (by decide) (fun c461 => ?_) (fun c461 => ?_)
    · exact absurd rfl c461
    · refine gi_iconst (q := 465) (v := 1) C (dm_Mo_step 170 rfl) rfl (by decide) ?_
      refine gi_goto (tgt := 469) C (dm_Mo_step 171 rfl) (by decide) ?_
      refine gi_iload (q := 471) C (dm_Mo_step 173 rfl) rfl rfl ?_
      refine gi_callv 2 (q := 474) C (dm_Mo_step 174 rfl) rfl my_Mo_onNull lk_Mo_451 im_Mo_onNull rfl (ww_onNull HW5 (q := true) B hmd hm hi1 hs1 rfl g1 eA (mkL _ (by omega)) hloc hgB) Ha rfl rfl ⟨(Nat.le_of_ble_eq_true rfl), (Nat.le_of_ble_eq_true rfl)⟩ (Nat.le_of_ble_eq_true rfl) ⟨(Nat.le_of_ble_eq_true rfl), (Nat.le_of_ble_eq_true rfl)⟩ (fun r471 n471 h471 e471 => ?_)
      obtain ⟨rfl, rfl, sp2⟩ := e471
      refine gi_goto (tgt := 665) C (dm_Mo_step 175 rfl) (by decide) ?_
      refine gi_vret C hr (dm_Mo_step 279 rfl) ?_
      rw [oc, List.foldl_append, con_fold, con_fold]
      exact ⟨rfl, rfl, _, sp2⟩
  · exact absurd c440 (by decide)
set_option maxHeartbeats 4000000 in
set_option maxRecDepth 100000 in
theorem rsp_28 {p : Program} {e : Env} {sg : State} {mi : MethodId} {args : Array Value} {below : List Frame} {meth : Method} {c : Code} (C : gi_C p sg mi args meth c b_Mo_step 7 y_Mo_step.cls V) (hr : meth.sig.returnType = none) (B : Built k P sh (siN k P sh) (wdF k P)) (hmd : md ≤ 2) (hm : m < k) (hi : i < pN P 5 m) (hR : rdO (tyF P sh) (rdF md Ff Z)) (tl : ((rdF md Ff Z) (60 * m + i)).told = true) (HW : WW M k P sh md Ff κ h S0 J0 F0 G0 Z (pN P 2 m) ((rdF md Ff Z) (60 * m + i)).n ((rdF md Ff Z) (60 * m + i)).f S J F G y) (eo : (pN P 6 (60 * m + i)) = 28) : gi_G p l e { frames := 6, cells := 0, slots := 0, locals := 202 } sg mi args below meth c (MQ below (gi_Qc V (fun v n' h' => v = none ∧ n' = n ∧ ∃ κ, spP M k P sh md Ff κ h S0 J0 F0 G0 ((outs P (siN k P sh) (rdF md Ff Z) (60 * m + i)).foldl (comeM md (grF (wdF k P))) Z) h')) args sg 0 0 (fun q : Nat => V.2.2 ≤ q)) V 7 0 0 477 [(5, .int (nI (60 * m) + (P 7 (60 * m + i)))), (4, .int (nI (60 * m + i + 1))), (3, .int (P 7 (60 * m + i))), (2, .int (nI (pN P 6 (60 * m + i)))), (1, .int (nI (60 * m + i))), (0, .ref M)] [] n y := by
  have W := B.wf
  have w8 := W.k8
  have wm := wf_ar W hm
  obtain ⟨x, y0, hsx, x8, x2, GT, ll, o35, od, ey, nxi, jmi⟩ := stp_pre B hm hi hR.1 tl
  have okall := fun c hc => (outs_all B (p := 60 * m + i) (by omega) hR.1 tl c hc).1
  have gn := G_n GT
  have hloc : ∀ q, q < pN P 2 m → (((rdF md Ff Z) (60 * m + i)).f q).2 = -1 := fun q hq => (tyG_mk GT (show q < ((rdF md Ff Z) (60 * m + i)).n by omega)).2.2.2 hq
  have mkL : ∀ q, q < ((rdF md Ff Z) (60 * m + i)).n → (((rdF md Ff Z) (60 * m + i)).f q).2 = -1 ∨ ∃ j, j < pN P 2 m ∧ (((rdF md Ff Z) (60 * m + i)).f q).2 = nI j := fun q hq => mk_L GT hq
  have H := HW.1
  obtain ⟨fs, Ha, Hf⟩ := id H.1
  have ho := HW.2.1
  obtain ⟨f1, f2, f3, f4⟩ := HW.fb
  obtain ⟨q28, e28, -⟩ := Option.map_eq_some_iff.mp (show (tkS false x).map (ptS true) = some y0 by have e := ey; rw [eo] at e; exact e)
  obtain ⟨g1, X, eX, oX⟩ := s_int ll GT e28
  have oc := outs_28 (P := P) (sn := siN k P sh) (F := (rdF md Ff Z)) (p := (60 * m + i)) eo
  rw [eX] at oc
  have hsn := B.site _ _ hsx eo
  have isv := isSi_v (s := sh) W hm hi
  have ist : isSi k P sh (60 * m + i) = true := by rw [isv.2, hsx, eo]; rfl
  have e15 : F 15 (60 * m + i) = nI (siN k P sh (60 * m + i)) := by
    unfold siN
    rw [if_pos ist]
    exact HW.2.2.2.1.2.2.2.1 (60 * m + i) (by omega) ist
  obtain ⟨hi1, hs1⟩ := nxi (by omega) (by omega)
  have y8 := (sh8 B hs1).1
  have hgm : ∀ z, withinS X 0 2147483647 = some z → tyG P m y0 ((rdF md Ff Z) (60 * m + i)).n (upF (tellF (((rdF md Ff Z) (60 * m + i)).n - 1) ((rdF md Ff Z) (60 * m + i)).f (((rdF md Ff Z) (60 * m + i)).f (((rdF md Ff Z) (60 * m + i)).n - 1)).2 (.inl z)) (((rdF md Ff Z) (60 * m + i)).n - 1) (.inr (shl1 (siN k P sh (60 * m + i)), false), -1)) := fun z e9 => ok_ty (show m < 8 by omega) (show i + 1 < 60 by omega) hs1 (okall _ (by rw [oc, show withinS (spA (.inl X)) 0 2147483647 = some z from e9]; exact List.mem_cons_of_mem _ (List.mem_cons_of_mem _ (List.mem_singleton.mpr rfl))))
  refine gi_aload_n (q := 478) (i := 0) C (dm_Mo_step 176 rfl) rfl rfl rfl ?_
  refine gi_iload_n (q := 479) (i := 1) C (dm_Mo_step 177 rfl) rfl rfl rfl ?_
  refine gi_iload (q := 481) C (dm_Mo_step 178 rfl) rfl rfl ?_
  refine gi_callv 2 (q := 484) C (dm_Mo_step 179 rfl) rfl my_Mo_make lk_Mo_458 im_Mo_make rfl (ww_make HW (p := (60 * m + i)) (s := (siN k P sh (60 * m + i))) B hmd hm hi1 hs1 rfl g1 eX oX (by omega) hsn e15 (mkL _ (by omega)) hloc hgm) Ha rfl rfl ⟨(Nat.le_of_ble_eq_true rfl), (Nat.le_of_ble_eq_true rfl)⟩ (Nat.le_of_ble_eq_true rfl) ⟨(Nat.le_of_ble_eq_true rfl), (Nat.le_of_ble_eq_true rfl)⟩ (fun r481 n481 h481 e481 => ?_)
  obtain ⟨rfl, rfl, sp2⟩ := e481
  refine gi_goto (tgt := 665) C (dm_Mo_step 180 rfl) (by decide) ?_
  refine gi_vret C hr (dm_Mo_step 279 rfl) ?_
  rw [oc]
  refine ⟨rfl, rfl, κ, ?_⟩
  rw [show withinS (spA (.inl X)) 0 2147483647 = withinS X 0 2147483647 from rfl]
  cases e9 : withinS X 0 2147483647 with
  | none => rw [e9] at sp2; exact sp2
  | some z => rw [e9] at sp2; exact sp2
set_option maxHeartbeats 4000000 in
set_option maxRecDepth 100000 in
theorem rsp_29 {p : Program} {e : Env} {sg : State} {mi : MethodId} {args : Array Value} {below : List Frame} {meth : Method} {c : Code} (C : gi_C p sg mi args meth c b_Mo_step 7 y_Mo_step.cls V) (hr : meth.sig.returnType = none) (B : Built k P sh (siN k P sh) (wdF k P)) (hmd : md ≤ 2) (hm : m < k) (hi : i < pN P 5 m) (hR : rdO (tyF P sh) (rdF md Ff Z)) (tl : ((rdF md Ff Z) (60 * m + i)).told = true) (HW : WW M k P sh md Ff κ h S0 J0 F0 G0 Z (pN P 2 m) ((rdF md Ff Z) (60 * m + i)).n ((rdF md Ff Z) (60 * m + i)).f S J F G y) (eo : (pN P 6 (60 * m + i)) = 29) : gi_G p l e { frames := 6, cells := 0, slots := 0, locals := 202 } sg mi args below meth c (MQ below (gi_Qc V (fun v n' h' => v = none ∧ n' = n ∧ ∃ κ, spP M k P sh md Ff κ h S0 J0 F0 G0 ((outs P (siN k P sh) (rdF md Ff Z) (60 * m + i)).foldl (comeM md (grF (wdF k P))) Z) h')) args sg 0 0 (fun q : Nat => V.2.2 ≤ q)) V 7 0 0 487 [(5, .int (nI (60 * m) + (P 7 (60 * m + i)))), (4, .int (nI (60 * m + i + 1))), (3, .int (P 7 (60 * m + i))), (2, .int (nI (pN P 6 (60 * m + i)))), (1, .int (nI (60 * m + i))), (0, .ref M)] [] n y := by
  have W := B.wf
  have w8 := W.k8
  have wm := wf_ar W hm
  obtain ⟨x, y0, hsx, x8, x2, GT, ll, o35, od, ey, nxi, jmi⟩ := stp_pre B hm hi hR.1 tl
  have okall := fun c hc => (outs_all B (p := 60 * m + i) (by omega) hR.1 tl c hc).1
  have gn := G_n GT
  have hloc : ∀ q, q < pN P 2 m → (((rdF md Ff Z) (60 * m + i)).f q).2 = -1 := fun q hq => (tyG_mk GT (show q < ((rdF md Ff Z) (60 * m + i)).n by omega)).2.2.2 hq
  have mkL : ∀ q, q < ((rdF md Ff Z) (60 * m + i)).n → (((rdF md Ff Z) (60 * m + i)).f q).2 = -1 ∨ ∃ j, j < pN P 2 m ∧ (((rdF md Ff Z) (60 * m + i)).f q).2 = nI j := fun q hq => mk_L GT hq
  have H := HW.1
  obtain ⟨fs, Ha, Hf⟩ := id H.1
  have ho := HW.2.1
  obtain ⟨f1, f2, f3, f4⟩ := HW.fb
  obtain ⟨q28, e28, -⟩ := Option.map_eq_some_iff.mp (show (tkS true x).map (ptS false) = some y0 by have e := ey; rw [eo] at e; exact e)
  obtain ⟨g1, b, q, eA⟩ := s_set ll GT e28
  have oc := outs_29 (P := P) (sn := siN k P sh) (F := (rdF md Ff Z)) (p := (60 * m + i)) eo
  rw [eA] at oc
  simp only [stA] at oc
  obtain ⟨hi1, hs1⟩ := nxi (by omega) (by omega)
  have y8 := (sh8 B hs1).1
  have hg : ∀ z, gathF (rdF md Ff Z) 480 b 25 = some z → tyG P m y0 ((rdF md Ff Z) (60 * m + i)).n (upF (tellF (((rdF md Ff Z) (60 * m + i)).n - 1) ((rdF md Ff Z) (60 * m + i)).f (((rdF md Ff Z) (60 * m + i)).f (((rdF md Ff Z) (60 * m + i)).n - 1)).2 (.inr (b, false))) (((rdF md Ff Z) (60 * m + i)).n - 1) (.inl z, -1)) := fun z e9 => ok_ty (show m < 8 by omega) (show i + 1 < 60 by omega) hs1 (okall _ (by rw [oc, e9]; exact List.mem_singleton.mpr rfl))
  rw [eo]
  refine gi_aload_n (q := 488) (i := 0) C (dm_Mo_step 181 rfl) rfl rfl rfl ?_
  refine gi_iload_n (q := 489) (i := 2) C (dm_Mo_step 182 rfl) rfl rfl rfl ?_
  refine gi_iload (q := 491) C (dm_Mo_step 183 rfl) rfl rfl ?_
  refine gi_callv 2 (q := 494) C (dm_Mo_step 184 rfl) rfl my_Mo_array lk_Mo_461 im_Mo_array rfl (ww_array29 HW B hmd hm hi1 hs1 rfl g1 eA hR.1 (mkL _ (by omega)) hloc hg) Ha rfl rfl ⟨(Nat.le_of_ble_eq_true rfl), (Nat.le_of_ble_eq_true rfl)⟩ (Nat.le_of_ble_eq_true rfl) ⟨(Nat.le_of_ble_eq_true rfl), (Nat.le_of_ble_eq_true rfl)⟩ (fun r491 n491 h491 e491 => ?_)
  obtain ⟨rfl, rfl, sp2⟩ := e491
  refine gi_goto (tgt := 665) C (dm_Mo_step 185 rfl) (by decide) ?_
  refine gi_vret C hr (dm_Mo_step 279 rfl) ?_
  rw [oc]
  refine ⟨rfl, rfl, κ, ?_⟩
  cases e9 : gathF (rdF md Ff Z) 480 b 25 with
  | none => rw [e9] at sp2; exact sp2
  | some z => rw [e9] at sp2; exact sp2
set_option maxHeartbeats 4000000 in
set_option maxRecDepth 100000 in
theorem rsp_30 {p : Program} {e : Env} {sg : State} {mi : MethodId} {args : Array Value} {below : List Frame} {meth : Method} {c : Code} (C : gi_C p sg mi args meth c b_Mo_step 7 y_Mo_step.cls V) (hr : meth.sig.returnType = none) (B : Built k P sh (siN k P sh) (wdF k P)) (hmd : md ≤ 2) (hm : m < k) (hi : i < pN P 5 m) (hR : rdO (tyF P sh) (rdF md Ff Z)) (tl : ((rdF md Ff Z) (60 * m + i)).told = true) (HW : WW M k P sh md Ff κ h S0 J0 F0 G0 Z (pN P 2 m) ((rdF md Ff Z) (60 * m + i)).n ((rdF md Ff Z) (60 * m + i)).f S J F G y) (eo : (pN P 6 (60 * m + i)) = 30) : gi_G p l e { frames := 6, cells := 0, slots := 0, locals := 202 } sg mi args below meth c (MQ below (gi_Qc V (fun v n' h' => v = none ∧ n' = n ∧ ∃ κ, spP M k P sh md Ff κ h S0 J0 F0 G0 ((outs P (siN k P sh) (rdF md Ff Z) (60 * m + i)).foldl (comeM md (grF (wdF k P))) Z) h')) args sg 0 0 (fun q : Nat => V.2.2 ≤ q)) V 7 0 0 487 [(5, .int (nI (60 * m) + (P 7 (60 * m + i)))), (4, .int (nI (60 * m + i + 1))), (3, .int (P 7 (60 * m + i))), (2, .int (nI (pN P 6 (60 * m + i)))), (1, .int (nI (60 * m + i))), (0, .ref M)] [] n y := by
  have W := B.wf
  have w8 := W.k8
  have wm := wf_ar W hm
  obtain ⟨x, y0, hsx, x8, x2, GT, ll, o35, od, ey, nxi, jmi⟩ := stp_pre B hm hi hR.1 tl
  have okall := fun c hc => (outs_all B (p := 60 * m + i) (by omega) hR.1 tl c hc).1
  have gn := G_n GT
  have hloc : ∀ q, q < pN P 2 m → (((rdF md Ff Z) (60 * m + i)).f q).2 = -1 := fun q hq => (tyG_mk GT (show q < ((rdF md Ff Z) (60 * m + i)).n by omega)).2.2.2 hq
  have mkL : ∀ q, q < ((rdF md Ff Z) (60 * m + i)).n → (((rdF md Ff Z) (60 * m + i)).f q).2 = -1 ∨ ∃ j, j < pN P 2 m ∧ (((rdF md Ff Z) (60 * m + i)).f q).2 = nI j := fun q hq => mk_L GT hq
  have H := HW.1
  obtain ⟨fs, Ha, Hf⟩ := id H.1
  have ho := HW.2.1
  obtain ⟨f1, f2, f3, f4⟩ := HW.fb
  obtain ⟨q28, e28, -⟩ := Option.map_eq_some_iff.mp (show ((tkS false x).bind (tkS true)).map (ptS false) = some y0 by have e := ey; rw [eo] at e; exact e)
  obtain ⟨g1, X, b, q, eX, oX, eA⟩ := s_get ll GT e28
  have oc := outs_30 (P := P) (sn := siN k P sh) (F := (rdF md Ff Z)) (p := (60 * m + i)) eo
  rw [eA, eX] at oc
  simp only [stA, spA] at oc
  obtain ⟨hi1, hs1⟩ := nxi (by omega) (by omega)
  have y8 := (sh8 B hs1).1
  have hg : ∀ z, gathF (rdF md Ff Z) 480 b 25 = some z → ∀ u, withinS X 0 (z.2.1 - 1) = some u → ∀ e, gathF (rdF md Ff Z) 505 b 25 = some e → tyG P m y0 (((rdF md Ff Z) (60 * m + i)).n - 1) (upF (tellF (((rdF md Ff Z) (60 * m + i)).n - 2) (tellF (((rdF md Ff Z) (60 * m + i)).n - 2) ((rdF md Ff Z) (60 * m + i)).f (((rdF md Ff Z) (60 * m + i)).f (((rdF md Ff Z) (60 * m + i)).n - 2)).2 (.inr (b, false))) (((rdF md Ff Z) (60 * m + i)).f (((rdF md Ff Z) (60 * m + i)).n - 1)).2 (.inl u)) (((rdF md Ff Z) (60 * m + i)).n - 2) (.inl e, -1)) := fun z e9 u e8 e e7 => ok_ty (show m < 8 by omega) (show i + 1 < 60 by omega) hs1 (okall _ (by rw [oc, e9]; simp only []; rw [e8, e7]; exact List.mem_singleton.mpr rfl))
  rw [eo]
  refine gi_aload_n (q := 488) (i := 0) C (dm_Mo_step 181 rfl) rfl rfl rfl ?_
  refine gi_iload_n (q := 489) (i := 2) C (dm_Mo_step 182 rfl) rfl rfl rfl ?_
  refine gi_iload (q := 491) C (dm_Mo_step 183 rfl) rfl rfl ?_
  refine gi_callv 2 (q := 494) C (dm_Mo_step 184 rfl) rfl my_Mo_array lk_Mo_461 im_Mo_array rfl (ww_array30 HW B hmd hm hi1 hs1 rfl g1 eA eX oX hR.1 (mkL _ (by omega)) (mkL _ (by omega)) hloc hg) Ha rfl rfl ⟨(Nat.le_of_ble_eq_true rfl), (Nat.le_of_ble_eq_true rfl)⟩ (Nat.le_of_ble_eq_true rfl) ⟨(Nat.le_of_ble_eq_true rfl), (Nat.le_of_ble_eq_true rfl)⟩ (fun r491 n491 h491 e491 => ?_)
  obtain ⟨rfl, rfl, sp2⟩ := e491
  refine gi_goto (tgt := 665) C (dm_Mo_step 185 rfl) (by decide) ?_
  refine gi_vret C hr (dm_Mo_step 279 rfl) ?_
  rw [oc]
  refine ⟨rfl, rfl, κ, ?_⟩
  cases e9 : gathF (rdF md Ff Z) 480 b 25 with
  | none => rw [e9] at sp2; exact sp2
  | some z =>
    rw [e9] at sp2
    simp only [] at sp2 ⊢
    cases e8 : withinS X 0 (z.2.1 - 1) with
    | none => rw [e8] at sp2; exact sp2
    | some u =>
      cases e7 : gathF (rdF md Ff Z) 505 b 25 with
      | none => rw [e8, e7] at sp2; exact sp2
      | some e5 => rw [e8, e7] at sp2; exact sp2
set_option maxHeartbeats 4000000 in
set_option maxRecDepth 100000 in
theorem rsp_31 {p : Program} {e : Env} {sg : State} {mi : MethodId} {args : Array Value} {below : List Frame} {meth : Method} {c : Code} (C : gi_C p sg mi args meth c b_Mo_step 7 y_Mo_step.cls V) (hr : meth.sig.returnType = none) (B : Built k P sh (siN k P sh) (wdF k P)) (hmd : md ≤ 2) (hm : m < k) (hi : i < pN P 5 m) (hR : rdO (tyF P sh) (rdF md Ff Z)) (tl : ((rdF md Ff Z) (60 * m + i)).told = true) (HW : WW M k P sh md Ff κ h S0 J0 F0 G0 Z (pN P 2 m) ((rdF md Ff Z) (60 * m + i)).n ((rdF md Ff Z) (60 * m + i)).f S J F G y) (eo : (pN P 6 (60 * m + i)) = 31) : gi_G p l e { frames := 6, cells := 0, slots := 0, locals := 202 } sg mi args below meth c (MQ below (gi_Qc V (fun v n' h' => v = none ∧ n' = n ∧ ∃ κ, spP M k P sh md Ff κ h S0 J0 F0 G0 ((outs P (siN k P sh) (rdF md Ff Z) (60 * m + i)).foldl (comeM md (grF (wdF k P))) Z) h')) args sg 0 0 (fun q : Nat => V.2.2 ≤ q)) V 7 0 0 487 [(5, .int (nI (60 * m) + (P 7 (60 * m + i)))), (4, .int (nI (60 * m + i + 1))), (3, .int (P 7 (60 * m + i))), (2, .int (nI (pN P 6 (60 * m + i)))), (1, .int (nI (60 * m + i))), (0, .ref M)] [] n y := by
  have W := B.wf
  have w8 := W.k8
  have wm := wf_ar W hm
  obtain ⟨x, y0, hsx, x8, x2, GT, ll, o35, od, ey, nxi, jmi⟩ := stp_pre B hm hi hR.1 tl
  have okall := fun c hc => (outs_all B (p := 60 * m + i) (by omega) hR.1 tl c hc).1
  have gn := G_n GT
  have hloc : ∀ q, q < pN P 2 m → (((rdF md Ff Z) (60 * m + i)).f q).2 = -1 := fun q hq => (tyG_mk GT (show q < ((rdF md Ff Z) (60 * m + i)).n by omega)).2.2.2 hq
  have mkL : ∀ q, q < ((rdF md Ff Z) (60 * m + i)).n → (((rdF md Ff Z) (60 * m + i)).f q).2 = -1 ∨ ∃ j, j < pN P 2 m ∧ (((rdF md Ff Z) (60 * m + i)).f q).2 = nI j := fun q hq => mk_L GT hq
  have H := HW.1
  obtain ⟨fs, Ha, Hf⟩ := id H.1
  have ho := HW.2.1
  obtain ⟨f1, f2, f3, f4⟩ := HW.fb
  obtain ⟨g1, X, Y, b, q, eX, eY, oX, oY, eA⟩ := s_put ll GT (show ((tkS false x).bind (tkS false)).bind (tkS true) = some y0 by have e := ey; rw [eo] at e; exact e)
  have oc := outs_31 (P := P) (sn := siN k P sh) (F := (rdF md Ff Z)) (p := (60 * m + i)) eo
  rw [eA, eX, eY] at oc
  simp only [stA, spA] at oc
  obtain ⟨hi1, hs1⟩ := nxi (by omega) (by omega)
  have y8 := (sh8 B hs1).1
  have hg : ∀ z, gathF (rdF md Ff Z) 480 b 25 = some z → ∀ u, withinS X 0 (z.2.1 - 1) = some u → tyG P m y0 (((rdF md Ff Z) (60 * m + i)).n - 3) (tellF (((rdF md Ff Z) (60 * m + i)).n - 3) (tellF (((rdF md Ff Z) (60 * m + i)).n - 3) ((rdF md Ff Z) (60 * m + i)).f (((rdF md Ff Z) (60 * m + i)).f (((rdF md Ff Z) (60 * m + i)).n - 3)).2 (.inr (b, false))) (((rdF md Ff Z) (60 * m + i)).f (((rdF md Ff Z) (60 * m + i)).n - 2)).2 (.inl u)) := fun z e9 u e8 => ok_ty (show m < 8 by omega) (show i + 1 < 60 by omega) hs1 (okall _ (by rw [oc, e9]; simp only []; rw [e8]; exact List.mem_append.mpr (Or.inr (List.mem_singleton.mpr rfl))))
  rw [eo]
  refine gi_aload_n (q := 488) (i := 0) C (dm_Mo_step 181 rfl) rfl rfl rfl ?_
  refine gi_iload_n (q := 489) (i := 2) C (dm_Mo_step 182 rfl) rfl rfl rfl ?_
  refine gi_iload (q := 491) C (dm_Mo_step 183 rfl) rfl rfl ?_
  refine gi_callv 2 (q := 494) C (dm_Mo_step 184 rfl) rfl my_Mo_array lk_Mo_461 im_Mo_array rfl (ww_array31 HW B hmd hm hi1 hs1 rfl g1 eA eX eY oX oY hR.1 (mkL _ (by omega)) (mkL _ (by omega)) hloc hg) Ha rfl rfl ⟨(Nat.le_of_ble_eq_true rfl), (Nat.le_of_ble_eq_true rfl)⟩ (Nat.le_of_ble_eq_true rfl) ⟨(Nat.le_of_ble_eq_true rfl), (Nat.le_of_ble_eq_true rfl)⟩ (fun r491 n491 h491 e491 => ?_)
  obtain ⟨rfl, rfl, sp2⟩ := e491
  refine gi_goto (tgt := 665) C (dm_Mo_step 185 rfl) (by decide) ?_
  refine gi_vret C hr (dm_Mo_step 279 rfl) ?_
  rw [oc]
  refine ⟨rfl, rfl, κ, ?_⟩
  cases e9 : gathF (rdF md Ff Z) 480 b 25 with
  | none => rw [e9] at sp2; exact sp2
  | some z =>
    rw [e9] at sp2
    simp only [] at sp2 ⊢
    cases e8 : withinS X 0 (z.2.1 - 1) with
    | none => rw [e8] at sp2; exact sp2
    | some u =>
      rw [e8] at sp2
      simp only [] at sp2 ⊢
      rw [List.foldl_append, List.foldl_map]
      exact sp2
set_option maxHeartbeats 4000000 in
set_option maxRecDepth 100000 in
theorem rsp_32 {p : Program} {e : Env} {sg : State} {mi : MethodId} {args : Array Value} {below : List Frame} {meth : Method} {c : Code} (C : gi_C p sg mi args meth c b_Mo_step 7 y_Mo_step.cls V) (hr : meth.sig.returnType = none) (B : Built k P sh (siN k P sh) (wdF k P)) (hmd : md ≤ 2) (hm : m < k) (hi : i < pN P 5 m) (hR : rdO (tyF P sh) (rdF md Ff Z)) (tl : ((rdF md Ff Z) (60 * m + i)).told = true) (HW : WW M k P sh md Ff κ h S0 J0 F0 G0 Z (pN P 2 m) ((rdF md Ff Z) (60 * m + i)).n ((rdF md Ff Z) (60 * m + i)).f S J F G y) (eo : (pN P 6 (60 * m + i)) = 32) : gi_G p l e { frames := 6, cells := 0, slots := 0, locals := 202 } sg mi args below meth c (MQ below (gi_Qc V (fun v n' h' => v = none ∧ n' = n ∧ ∃ κ, spP M k P sh md Ff κ h S0 J0 F0 G0 ((outs P (siN k P sh) (rdF md Ff Z) (60 * m + i)).foldl (comeM md (grF (wdF k P))) Z) h')) args sg 0 0 (fun q : Nat => V.2.2 ≤ q)) V 7 0 0 497 [(5, .int (nI (60 * m) + (P 7 (60 * m + i)))), (4, .int (nI (60 * m + i + 1))), (3, .int (P 7 (60 * m + i))), (2, .int (nI (pN P 6 (60 * m + i)))), (1, .int (nI (60 * m + i))), (0, .ref M)] [] n y := by
  have W := B.wf
  have w8 := W.k8
  have wm := wf_ar W hm
  obtain ⟨x, y0, hsx, x8, x2, GT, ll, o35, od, ey, nxi, jmi⟩ := stp_pre B hm hi hR.1 tl
  have okall := fun c hc => (outs_all B (p := 60 * m + i) (by omega) hR.1 tl c hc).1
  have gn := G_n GT
  have hloc : ∀ q, q < pN P 2 m → (((rdF md Ff Z) (60 * m + i)).f q).2 = -1 := fun q hq => (tyG_mk GT (show q < ((rdF md Ff Z) (60 * m + i)).n by omega)).2.2.2 hq
  have mkL : ∀ q, q < ((rdF md Ff Z) (60 * m + i)).n → (((rdF md Ff Z) (60 * m + i)).f q).2 = -1 ∨ ∃ j, j < pN P 2 m ∧ (((rdF md Ff Z) (60 * m + i)).f q).2 = nI j := fun q hq => mk_L GT hq
  have H := HW.1
  obtain ⟨fs, Ha, Hf⟩ := id H.1
  have ho := HW.2.1
  obtain ⟨f1, f2, f3, f4⟩ := HW.fb
  obtain ⟨ea, al⟩ : P 7 (60 * m + i) = nI (pN P 7 (60 * m + i)) ∧ (pN P 7 (60 * m + i)) < k := by
    have z := od.2.2.1 eo
    have z2 := nn_nI (a := P 7 (60 * m + i)) z.1
    exact ⟨z2.1, by show (P 7 (60 * m + i)).toNatClampNeg < _; omega⟩
  obtain ⟨y1, e1, ey1⟩ := Option.map_eq_some_iff.mp (show (tkN P (pN P 7 (60 * m + i)) (pN P 1 (pN P 7 (60 * m + i))) x).map (fun y => if pN P 4 (pN P 7 (60 * m + i)) = 0 then y else ptS (decide (pN P 4 (pN P 7 (60 * m + i)) = 2)) y) = some y0 by have e := ey; rw [eo] at e; exact e)
  obtain ⟨ty1, c1, y11, y12, -⟩ := tkN_ty (pN P 1 (pN P 7 (60 * m + i))) GT e1 x2
  have oc := outs_32 (P := P) (sn := siN k P sh) (F := (rdF md Ff Z)) (p := (60 * m + i)) eo
  have okE := okall _ (by rw [oc]; exact List.mem_cons_self ..)
  have tyE : tyG P (pN P 7 (60 * m + i)) (0, 0) (pN P 2 (pN P 7 (60 * m + i))) (entF P (pN P 7 (60 * m + i)) ((rdF md Ff Z) (60 * m + i)).n ((rdF md Ff Z) (60 * m + i)).f) := ok_ty (t := 0) (show (pN P 7 (60 * m + i)) < 8 by omega) (by decide) (B.first _ al).2 okE
  obtain ⟨hi1, hs1⟩ := nxi (by omega) (by omega)
  have y8 := (sh8 B hs1).1
  have g0 : ((rdF md Ff Z) (534 + (pN P 7 (60 * m + i)))).told = true → pN P 4 (pN P 7 (60 * m + i)) = 0 → tyG P m y0 (((rdF md Ff Z) (60 * m + i)).n - (pN P 1 (pN P 7 (60 * m + i)))) ((rdF md Ff Z) (60 * m + i)).f := fun t9 r9 => ok_ty (show m < 8 by omega) (show i + 1 < 60 by omega) hs1 (okall _ (by rw [oc, if_pos t9, if_pos r9]; exact List.mem_cons_of_mem _ (List.mem_singleton.mpr rfl)))
  have g1 : ((rdF md Ff Z) (534 + (pN P 7 (60 * m + i)))).told = true → pN P 4 (pN P 7 (60 * m + i)) ≠ 0 → tyG P m y0 (((rdF md Ff Z) (60 * m + i)).n - (pN P 1 (pN P 7 (60 * m + i))) + 1) (upF ((rdF md Ff Z) (60 * m + i)).f (((rdF md Ff Z) (60 * m + i)).n - (pN P 1 (pN P 7 (60 * m + i)))) ((((rdF md Ff Z) (534 + (pN P 7 (60 * m + i)))).f 0).1, -1)) := fun t9 r9 => ok_ty (show m < 8 by omega) (show i + 1 < 60 by omega) hs1 (okall _ (by rw [oc, if_pos t9, if_neg r9]; exact List.mem_cons_of_mem _ (List.mem_singleton.mpr rfl)))
  have n8 : pN P 4 (pN P 7 (60 * m + i)) ≠ 0 → ((rdF md Ff Z) (60 * m + i)).n - (pN P 1 (pN P 7 (60 * m + i))) - pN P 2 m < 8 := fun r9 => by
    rw [if_neg r9] at ey1
    have z9 : y0.1 = y1.1 + 1 := by rw [← ey1]; rfl
    omega
  rw [ea]
  refine gi_aload_n (q := 498) (i := 0) C (dm_Mo_step 186 rfl) rfl rfl rfl ?_
  refine gi_iload_n (q := 499) (i := 3) C (dm_Mo_step 187 rfl) rfl rfl rfl ?_
  refine gi_iload (q := 501) C (dm_Mo_step 188 rfl) rfl rfl ?_
  refine gi_callv 2 (q := 504) C (dm_Mo_step 189 rfl) rfl my_Mo_call lk_Mo_464 im_Mo_call rfl (ww_call HW (c := (pN P 7 (60 * m + i))) B hmd hm hi1 hs1 rfl al (by omega) hR.1 tyE n8 g0 g1) Ha rfl rfl ⟨(Nat.le_of_ble_eq_true rfl), (Nat.le_of_ble_eq_true rfl)⟩ (Nat.le_of_ble_eq_true rfl) ⟨(Nat.le_of_ble_eq_true rfl), (Nat.le_of_ble_eq_true rfl)⟩ (fun r501 n501 h501 e501 => ?_)
  obtain ⟨rfl, rfl, κ2, sp2⟩ := e501
  refine gi_goto (tgt := 665) C (dm_Mo_step 190 rfl) (by decide) ?_
  refine gi_vret C hr (dm_Mo_step 279 rfl) ?_
  rw [oc]
  refine ⟨rfl, rfl, κ2, ?_⟩
  by_cases t9 : ((rdF md Ff Z) (534 + (pN P 7 (60 * m + i)))).told = true
  · rw [if_pos t9] at sp2 ⊢
    by_cases r9 : pN P 4 (pN P 7 (60 * m + i)) = 0
    · rw [if_pos r9] at sp2 ⊢
      exact sp2
    · rw [if_neg r9] at sp2 ⊢
      exact sp2
  · rw [if_neg t9] at sp2 ⊢
    exact sp2
set_option maxHeartbeats 4000000 in
set_option maxRecDepth 100000 in
theorem rsp_33 {p : Program} {e : Env} {sg : State} {mi : MethodId} {args : Array Value} {below : List Frame} {meth : Method} {c : Code} (C : gi_C p sg mi args meth c b_Mo_step 7 y_Mo_step.cls V) (hr : meth.sig.returnType = none) (B : Built k P sh (siN k P sh) (wdF k P)) (hmd : md ≤ 2) (hm : m < k) (hi : i < pN P 5 m) (hR : rdO (tyF P sh) (rdF md Ff Z)) (tl : ((rdF md Ff Z) (60 * m + i)).told = true) (HW : WW M k P sh md Ff κ h S0 J0 F0 G0 Z (pN P 2 m) ((rdF md Ff Z) (60 * m + i)).n ((rdF md Ff Z) (60 * m + i)).f S J F G y) (e59 : S 59 = nI m) (eo : (pN P 6 (60 * m + i)) = 33) : gi_G p l e { frames := 6, cells := 0, slots := 0, locals := 202 } sg mi args below meth c (MQ below (gi_Qc V (fun v n' h' => v = none ∧ n' = n ∧ ∃ κ, spP M k P sh md Ff κ h S0 J0 F0 G0 ((outs P (siN k P sh) (rdF md Ff Z) (60 * m + i)).foldl (comeM md (grF (wdF k P))) Z) h')) args sg 0 0 (fun q : Nat => V.2.2 ≤ q)) V 7 0 0 507 [(5, .int (nI (60 * m) + (P 7 (60 * m + i)))), (4, .int (nI (60 * m + i + 1))), (3, .int (P 7 (60 * m + i))), (2, .int (nI (pN P 6 (60 * m + i)))), (1, .int (nI (60 * m + i))), (0, .ref M)] [] n y := by
  have W := B.wf
  have w8 := W.k8
  have wm := wf_ar W hm
  obtain ⟨x, y0, hsx, x8, x2, GT, ll, o35, od, ey, nxi, jmi⟩ := stp_pre B hm hi hR.1 tl
  have okall := fun c hc => (outs_all B (p := 60 * m + i) (by omega) hR.1 tl c hc).1
  have gn := G_n GT
  have hloc : ∀ q, q < pN P 2 m → (((rdF md Ff Z) (60 * m + i)).f q).2 = -1 := fun q hq => (tyG_mk GT (show q < ((rdF md Ff Z) (60 * m + i)).n by omega)).2.2.2 hq
  have mkL : ∀ q, q < ((rdF md Ff Z) (60 * m + i)).n → (((rdF md Ff Z) (60 * m + i)).f q).2 = -1 ∨ ∃ j, j < pN P 2 m ∧ (((rdF md Ff Z) (60 * m + i)).f q).2 = nI j := fun q hq => mk_L GT hq
  have H := HW.1
  obtain ⟨fs, Ha, Hf⟩ := id H.1
  have ho := HW.2.1
  obtain ⟨f1, f2, f3, f4⟩ := HW.fb
  rcases (show pN P 4 m = 0 ∨ pN P 4 m = 1 ∨ pN P 4 m = 2 by have := wm.2.2.2.1; omega) with r4 | r4 | r4
  · have oc : outs P (siN k P sh) (rdF md Ff Z) (60 * m + i) = [(534 + m, 0, ((rdF md Ff Z) (60 * m + i)).f)] := by rw [outs_33 rfl (show i < 60 by omega) eo, if_pos r4]
    have okN := okall _ (by rw [oc]; exact List.mem_singleton.mpr rfl)
    refine gi_aload_n (q := 508) (i := 0) C (dm_Mo_step 191 rfl) rfl rfl rfl ?_
    refine gi_callv 0 (q := 511) C (dm_Mo_step 192 rfl) rfl my_Mo_returns lk_Mo_467 im_Mo_returns rfl (ww_returns0 HW W hmd hm e59 r4 okN) Ha rfl rfl ⟨(Nat.le_of_ble_eq_true rfl), (Nat.le_of_ble_eq_true rfl)⟩ (Nat.le_of_ble_eq_true rfl) ⟨(Nat.le_of_ble_eq_true rfl), (Nat.le_of_ble_eq_true rfl)⟩ (fun r508 n508 h508 e508 => ?_)
    obtain ⟨rfl, rfl, sp2⟩ := e508
    refine gi_goto (tgt := 665) C (dm_Mo_step 193 rfl) (by decide) ?_
    refine gi_vret C hr (dm_Mo_step 279 rfl) ?_
    rw [oc]
    exact ⟨rfl, rfl, _, sp2⟩
  · have oc : outs P (siN k P sh) (rdF md Ff Z) (60 * m + i) = [(534 + m, 1, one (((rdF md Ff Z) (60 * m + i)).f (((rdF md Ff Z) (60 * m + i)).n - 1)).1)] := by rw [outs_33 rfl (show i < 60 by omega) eo, if_neg (by omega)]
    have e28 : tkS (decide (pN P 4 m = 2)) x = some y0 := by
      rw [eo] at ey
      have e9 : (if pN P 4 m = 0 then some x else tkS (decide (pN P 4 m = 2)) x) = some y0 := ey
      rw [if_neg (by omega)] at e9
      exact e9
    have okN := okall _ (by rw [oc]; exact List.mem_singleton.mpr rfl)
    rw [r4] at e28
    obtain ⟨g1, X, eX, oX⟩ := s_int ll GT e28
    refine gi_aload_n (q := 508) (i := 0) C (dm_Mo_step 191 rfl) rfl rfl rfl ?_
    refine gi_callv 0 (q := 511) C (dm_Mo_step 192 rfl) rfl my_Mo_returns lk_Mo_467 im_Mo_returns rfl (ww_returns1 HW W hmd hm e59 r4 g1 eX oX okN) Ha rfl rfl ⟨(Nat.le_of_ble_eq_true rfl), (Nat.le_of_ble_eq_true rfl)⟩ (Nat.le_of_ble_eq_true rfl) ⟨(Nat.le_of_ble_eq_true rfl), (Nat.le_of_ble_eq_true rfl)⟩ (fun r508 n508 h508 e508 => ?_)
    obtain ⟨rfl, rfl, sp2⟩ := e508
    refine gi_goto (tgt := 665) C (dm_Mo_step 193 rfl) (by decide) ?_
    refine gi_vret C hr (dm_Mo_step 279 rfl) ?_
    rw [oc]
    exact ⟨rfl, rfl, _, sp2⟩
  · have oc : outs P (siN k P sh) (rdF md Ff Z) (60 * m + i) = [(534 + m, 1, one (((rdF md Ff Z) (60 * m + i)).f (((rdF md Ff Z) (60 * m + i)).n - 1)).1)] := by rw [outs_33 rfl (show i < 60 by omega) eo, if_neg (by omega)]
    have e28 : tkS (decide (pN P 4 m = 2)) x = some y0 := by
      rw [eo] at ey
      have e9 : (if pN P 4 m = 0 then some x else tkS (decide (pN P 4 m = 2)) x) = some y0 := ey
      rw [if_neg (by omega)] at e9
      exact e9
    have okN := okall _ (by rw [oc]; exact List.mem_singleton.mpr rfl)
    rw [r4] at e28
    obtain ⟨g1, b, q, eX⟩ := s_set ll GT e28
    refine gi_aload_n (q := 508) (i := 0) C (dm_Mo_step 191 rfl) rfl rfl rfl ?_
    refine gi_callv 0 (q := 511) C (dm_Mo_step 192 rfl) rfl my_Mo_returns lk_Mo_467 im_Mo_returns rfl (ww_returns2 HW W hmd hm e59 r4 g1 eX okN) Ha rfl rfl ⟨(Nat.le_of_ble_eq_true rfl), (Nat.le_of_ble_eq_true rfl)⟩ (Nat.le_of_ble_eq_true rfl) ⟨(Nat.le_of_ble_eq_true rfl), (Nat.le_of_ble_eq_true rfl)⟩ (fun r508 n508 h508 e508 => ?_)
    obtain ⟨rfl, rfl, sp2⟩ := e508
    refine gi_goto (tgt := 665) C (dm_Mo_step 193 rfl) (by decide) ?_
    refine gi_vret C hr (dm_Mo_step 279 rfl) ?_
    rw [oc]
    exact ⟨rfl, rfl, _, sp2⟩
set_option maxHeartbeats 4000000 in
set_option maxRecDepth 100000 in
theorem rsp_34 {p : Program} {e : Env} {sg : State} {mi : MethodId} {args : Array Value} {below : List Frame} {meth : Method} {c : Code} (C : gi_C p sg mi args meth c b_Mo_step 7 y_Mo_step.cls V) (hr : meth.sig.returnType = none) (B : Built k P sh (siN k P sh) (wdF k P)) (hmd : md ≤ 2) (hm : m < k) (hi : i < pN P 5 m) (hR : rdO (tyF P sh) (rdF md Ff Z)) (tl : ((rdF md Ff Z) (60 * m + i)).told = true) (HW : WW M k P sh md Ff κ h S0 J0 F0 G0 Z (pN P 2 m) ((rdF md Ff Z) (60 * m + i)).n ((rdF md Ff Z) (60 * m + i)).f S J F G y) (eo : (pN P 6 (60 * m + i)) = 34) : gi_G p l e { frames := 6, cells := 0, slots := 0, locals := 202 } sg mi args below meth c (MQ below (gi_Qc V (fun v n' h' => v = none ∧ n' = n ∧ ∃ κ, spP M k P sh md Ff κ h S0 J0 F0 G0 ((outs P (siN k P sh) (rdF md Ff Z) (60 * m + i)).foldl (comeM md (grF (wdF k P))) Z) h')) args sg 0 0 (fun q : Nat => V.2.2 ≤ q)) V 7 0 0 514 [(5, .int (nI (60 * m) + (P 7 (60 * m + i)))), (4, .int (nI (60 * m + i + 1))), (3, .int (P 7 (60 * m + i))), (2, .int (nI (pN P 6 (60 * m + i)))), (1, .int (nI (60 * m + i))), (0, .ref M)] [] n y := by
  have W := B.wf
  have w8 := W.k8
  have wm := wf_ar W hm
  obtain ⟨x, y0, hsx, x8, x2, GT, ll, o35, od, ey, nxi, jmi⟩ := stp_pre B hm hi hR.1 tl
  have okall := fun c hc => (outs_all B (p := 60 * m + i) (by omega) hR.1 tl c hc).1
  have gn := G_n GT
  have hloc : ∀ q, q < pN P 2 m → (((rdF md Ff Z) (60 * m + i)).f q).2 = -1 := fun q hq => (tyG_mk GT (show q < ((rdF md Ff Z) (60 * m + i)).n by omega)).2.2.2 hq
  have mkL : ∀ q, q < ((rdF md Ff Z) (60 * m + i)).n → (((rdF md Ff Z) (60 * m + i)).f q).2 = -1 ∨ ∃ j, j < pN P 2 m ∧ (((rdF md Ff Z) (60 * m + i)).f q).2 = nI j := fun q hq => mk_L GT hq
  have H := HW.1
  obtain ⟨fs, Ha, Hf⟩ := id H.1
  have ho := HW.2.1
  obtain ⟨f1, f2, f3, f4⟩ := HW.fb
  obtain ⟨ea, al⟩ : P 7 (60 * m + i) = nI (pN P 7 (60 * m + i)) ∧ (pN P 7 (60 * m + i)) < 4 := by
    have z := od.2.2.2 (by omega)
    have z2 := nn_nI (a := P 7 (60 * m + i)) z.1
    exact ⟨z2.1, by show (P 7 (60 * m + i)).toNatClampNeg < _; omega⟩
  have q80 : rdQ md ≤ 80 := by unfold rdQ; split <;> omega
  have etx : 64 + (pN P 7 (60 * m + i)) = tix (530 + (pN P 7 (60 * m + i))) := by unfold tix; rw [if_neg (by omega), if_neg (by omega), if_pos (by omega)]; omega
  have tb := tix_b (show 480 ≤ 530 + (pN P 7 (60 * m + i)) by omega) (show 530 + (pN P 7 (60 * m + i)) < 542 by omega)
  have tt := hR.2 (pN P 7 (60 * m + i)) al
  have oc := outs_34 (P := P) (sn := siN k P sh) (F := (rdF md Ff Z)) (p := (60 * m + i)) eo
  rw [if_pos tt] at oc
  obtain ⟨ez, okz⟩ := tv_one hR.1 (show 480 ≤ 530 + (pN P 7 (60 * m + i)) by omega) (by omega) tt
  have rt := (md_rdT HW.2.2.2.2.1 (show 480 ≤ 530 + (pN P 7 (60 * m + i)) by omega) (show 530 + (pN P 7 (60 * m + i)) < 542 by omega)).2 tt
  rw [ez] at rt
  obtain ⟨z, ezz⟩ : ∃ z, z = spA (((rdF md Ff Z) (530 + (pN P 7 (60 * m + i)))).f 0).1 := ⟨_, rfl⟩
  have ez1 : (((rdF md Ff Z) (530 + (pN P 7 (60 * m + i)))).f 0).1 = .inl z := by
    rw [ezz]
    exact ar_s (tld_one hR.1 (show 480 ≤ 530 + (pN P 7 (60 * m + i)) by omega) (by omega) tt).2.2
  rw [← ezz] at rt okz
  rw [ez1] at oc
  have s40 : G 40 (rdQ md + tix (530 + (pN P 7 (60 * m + i)))) = eL z.1 := rt.1
  have s41 : G 41 (rdQ md + tix (530 + (pN P 7 (60 * m + i)))) = eL z.2.1 := rt.2.1
  have s42 : G 42 (rdQ md + tix (530 + (pN P 7 (60 * m + i)))) = eL z.2.2 := rt.2.2
  obtain ⟨hi1, hs1⟩ := nxi (by omega) (by omega)
  have y8 := (sh8 B hs1).1
  have okN := okall _ (by rw [oc]; exact List.mem_singleton.mpr rfl)
  have tyN := ok_ty (y := y0) (show m < 8 by omega) (show i + 1 < 60 by omega) hs1 okN
  have gy := G_n tyN
  rw [ea, nI_add]
  refine gi_aload_n (q := 515) (i := 0) C (dm_Mo_step 194 rfl) rfl rfl rfl ?_
  refine gi_get (q := 518) C (dm_Mo_step 195 rfl) rfl fl_Mo_422 Ha (mo_g49 Hf) ?_
  refine gi_bipush (q := 520) (v := 64) C (dm_Mo_step 196 rfl) rfl (by decide) ?_
  rw [show S 49 = nI (rdQ md) from HW.2.2.2.2.1.2.2.1, show (64 : Int32) = nI 64 from rfl]
  refine gi_iadd (q := 521) C (dm_Mo_step 197 rfl) rfl ?_
  rw [nI_add]
  refine gi_iload_n (q := 522) (i := 3) C (dm_Mo_step 198 rfl) rfl rfl rfl ?_
  refine gi_iadd (q := 523) C (dm_Mo_step 199 rfl) rfl ?_
  rw [nI_add, show rdQ md + 64 + (pN P 7 (60 * m + i)) = (rdQ md + tix (530 + (pN P 7 (60 * m + i)))) by rw [← etx]; omega]
  refine gi_istore (q := 525) C (dm_Mo_step 200 rfl) rfl (Nat.le_of_ble_eq_true rfl) ?_
  refine gi_aload_n (q := 526) (i := 0) C (dm_Mo_step 201 rfl) rfl rfl rfl ?_
  refine gi_aload_n (q := 527) (i := 0) C (dm_Mo_step 202 rfl) rfl rfl rfl ?_
  refine gi_get (q := 530) C (dm_Mo_step 203 rfl) rfl fl_Mo_86 Ha (mo_g40 Hf) ?_
  refine gi_iload (q := 532) C (dm_Mo_step 204 rfl) rfl rfl ?_
  refine gi_lald (q := 533) C (dm_Mo_step 205 rfl) rfl rfl (mo_a40 H) (inN (show (rdQ md + tix (530 + (pN P 7 (60 * m + i)))) < 160 by omega) (by decide)) ?_
  rw [nI_clamp (show (rdQ md + tix (530 + (pN P 7 (60 * m + i)))) < 2 ^ 31 by omega), s40]
  refine gi_aload_n (q := 534) (i := 0) C (dm_Mo_step 206 rfl) rfl rfl rfl ?_
  refine gi_get (q := 537) C (dm_Mo_step 207 rfl) rfl fl_Mo_89 Ha (mo_g41 Hf) ?_
  refine gi_iload (q := 539) C (dm_Mo_step 208 rfl) rfl rfl ?_
  refine gi_lald (q := 540) C (dm_Mo_step 209 rfl) rfl rfl (mo_a41 H) (inN (show (rdQ md + tix (530 + (pN P 7 (60 * m + i)))) < 160 by omega) (by decide)) ?_
  rw [nI_clamp (show (rdQ md + tix (530 + (pN P 7 (60 * m + i)))) < 2 ^ 31 by omega), s41]
  refine gi_aload_n (q := 541) (i := 0) C (dm_Mo_step 210 rfl) rfl rfl rfl ?_
  refine gi_get (q := 544) C (dm_Mo_step 211 rfl) rfl fl_Mo_92 Ha (mo_g42 Hf) ?_
  refine gi_iload (q := 546) C (dm_Mo_step 212 rfl) rfl rfl ?_
  refine gi_lald (q := 547) C (dm_Mo_step 213 rfl) rfl rfl (mo_a42 H) (inN (show (rdQ md + tix (530 + (pN P 7 (60 * m + i)))) < 160 by omega) (by decide)) ?_
  rw [nI_clamp (show (rdQ md + tix (530 + (pN P 7 (60 * m + i)))) < 2 ^ 31 by omega), s42]
  refine gi_callv 3 (q := 550) C (dm_Mo_step 214 rfl) rfl my_Mo_pushSpan lk_Mo_431 im_Mo_pushSpan rfl (ww_pushSpan HW z (by omega)) Ha rfl rfl ⟨(Nat.le_of_ble_eq_true rfl), (Nat.le_of_ble_eq_true rfl)⟩ (Nat.le_of_ble_eq_true rfl) ⟨(Nat.le_of_ble_eq_true rfl), (Nat.le_of_ble_eq_true rfl)⟩ (fun r547 n547 h547 e547 => ?_)
  obtain ⟨rfl, rfl, S1, J1, F1, G1, HW1⟩ := e547
  have H := HW1.1
  obtain ⟨fs, Ha, Hf⟩ := id H.1
  have ho := HW1.2.1
  refine gi_aload_n (q := 551) (i := 0) C (dm_Mo_step 215 rfl) rfl rfl rfl ?_
  refine gi_iload (q := 553) C (dm_Mo_step 216 rfl) rfl rfl ?_
  refine gi_callv 1 (q := 556) C (dm_Mo_step 217 rfl) rfl my_Mo_comeTo lk_Mo_434 im_Mo_comeTo rfl (ww_comeTo HW1 B hmd hm hi1 hs1 rfl tyN) Ha rfl rfl ⟨(Nat.le_of_ble_eq_true rfl), (Nat.le_of_ble_eq_true rfl)⟩ (Nat.le_of_ble_eq_true rfl) ⟨(Nat.le_of_ble_eq_true rfl), (Nat.le_of_ble_eq_true rfl)⟩ (fun r553 n553 h553 e553 => ?_)
  obtain ⟨rfl, rfl, S2, J2, F2, G2, HW2, fz2⟩ := e553
  have H := HW2.1
  obtain ⟨fs, Ha, Hf⟩ := id H.1
  have ho := HW2.2.1
  refine gi_goto (tgt := 665) C (dm_Mo_step 218 rfl) (by decide) ?_
  refine gi_vret C hr (dm_Mo_step 279 rfl) ?_
  rw [oc]
  exact ⟨rfl, rfl, _, HW2.end⟩
set_option maxHeartbeats 4000000 in
set_option maxRecDepth 100000 in
theorem rsp_35 {p : Program} {e : Env} {sg : State} {mi : MethodId} {args : Array Value} {below : List Frame} {meth : Method} {c : Code} (C : gi_C p sg mi args meth c b_Mo_step 7 y_Mo_step.cls V) (hr : meth.sig.returnType = none) (B : Built k P sh (siN k P sh) (wdF k P)) (hmd : md ≤ 2) (hm : m < k) (hi : i < pN P 5 m) (hR : rdO (tyF P sh) (rdF md Ff Z)) (tl : ((rdF md Ff Z) (60 * m + i)).told = true) (HW : WW M k P sh md Ff κ h S0 J0 F0 G0 Z (pN P 2 m) ((rdF md Ff Z) (60 * m + i)).n ((rdF md Ff Z) (60 * m + i)).f S J F G y) (eo : (pN P 6 (60 * m + i)) = 35) : gi_G p l e { frames := 6, cells := 0, slots := 0, locals := 202 } sg mi args below meth c (MQ below (gi_Qc V (fun v n' h' => v = none ∧ n' = n ∧ ∃ κ, spP M k P sh md Ff κ h S0 J0 F0 G0 ((outs P (siN k P sh) (rdF md Ff Z) (60 * m + i)).foldl (comeM md (grF (wdF k P))) Z) h')) args sg 0 0 (fun q : Nat => V.2.2 ≤ q)) V 7 0 0 559 [(5, .int (nI (60 * m) + (P 7 (60 * m + i)))), (4, .int (nI (60 * m + i + 1))), (3, .int (P 7 (60 * m + i))), (2, .int (nI (pN P 6 (60 * m + i)))), (1, .int (nI (60 * m + i))), (0, .ref M)] [] n y := by
  have W := B.wf
  have w8 := W.k8
  have wm := wf_ar W hm
  obtain ⟨x, y0, hsx, x8, x2, GT, ll, o35, od, ey, nxi, jmi⟩ := stp_pre B hm hi hR.1 tl
  have okall := fun c hc => (outs_all B (p := 60 * m + i) (by omega) hR.1 tl c hc).1
  have gn := G_n GT
  have hloc : ∀ q, q < pN P 2 m → (((rdF md Ff Z) (60 * m + i)).f q).2 = -1 := fun q hq => (tyG_mk GT (show q < ((rdF md Ff Z) (60 * m + i)).n by omega)).2.2.2 hq
  have mkL : ∀ q, q < ((rdF md Ff Z) (60 * m + i)).n → (((rdF md Ff Z) (60 * m + i)).f q).2 = -1 ∨ ∃ j, j < pN P 2 m ∧ (((rdF md Ff Z) (60 * m + i)).f q).2 = nI j := fun q hq => mk_L GT hq
  have H := HW.1
  obtain ⟨fs, Ha, Hf⟩ := id H.1
  have ho := HW.2.1
  obtain ⟨f1, f2, f3, f4⟩ := HW.fb
  obtain ⟨ea, al⟩ : P 7 (60 * m + i) = nI (pN P 7 (60 * m + i)) ∧ (pN P 7 (60 * m + i)) < 4 := by
    have z := od.2.2.2 (by omega)
    have z2 := nn_nI (a := P 7 (60 * m + i)) z.1
    exact ⟨z2.1, by show (P 7 (60 * m + i)).toNatClampNeg < _; omega⟩
  have q80 : rdQ md ≤ 80 := by unfold rdQ; split <;> omega
  have etx : 64 + (pN P 7 (60 * m + i)) = tix (530 + (pN P 7 (60 * m + i))) := by unfold tix; rw [if_neg (by omega), if_neg (by omega), if_pos (by omega)]; omega
  have tb := tix_b (show 480 ≤ 530 + (pN P 7 (60 * m + i)) by omega) (show 530 + (pN P 7 (60 * m + i)) < 542 by omega)
  have oc := outs_35 (P := P) (sn := siN k P sh) (F := (rdF md Ff Z)) (p := (60 * m + i)) (by omega)
  obtain ⟨g1, X, eX, oX⟩ := s_int ll GT (show tkS false x = some y0 by have e := ey; rw [eo] at e; exact e)
  have okT := okall _ (by rw [oc]; exact List.mem_cons_self ..)
  obtain ⟨hi1, hs1⟩ := nxi (by omega) (by omega)
  have y8 := (sh8 B hs1).1
  have okN := okall _ (by rw [oc]; exact List.mem_cons_of_mem _ (List.mem_singleton.mpr rfl))
  have tyN := ok_ty (y := y0) (show m < 8 by omega) (show i + 1 < 60 by omega) hs1 okN
  have gy := G_n tyN
  rw [ea, nI_add]
  refine gi_aload_n (q := 560) (i := 0) C (dm_Mo_step 219 rfl) rfl rfl rfl ?_
  refine gi_dup (q := 561) C (dm_Mo_step 220 rfl) rfl rfl ?_
  refine gi_get (q := 564) C (dm_Mo_step 221 rfl) rfl fl_Mo_357 Ha (mo_g58 Hf) ?_
  refine gi_iconst (q := 565) (v := 1) C (dm_Mo_step 222 rfl) rfl (by decide) ?_
  refine gi_isub (q := 566) C (dm_Mo_step 223 rfl) rfl ?_
  rw [HW.fb.2.2.2, nI_m1 (by omega), show ((rdF md Ff Z) (60 * m + i)).n - (pN P 2 m) + 6 - 1 = ((rdF md Ff Z) (60 * m + i)).n - 1 - (pN P 2 m) + 6 by omega]
  refine gi_put (q := 569) C (dm_Mo_step 224 rfl) rfl fl_Mo_357 fp_Mo_58 Ha (by rw [Hf.1]; decide) rfl rfl ?_
  refine gi_genM (H.putI Ha Hf (by decide) rfl) (ho.up (by omega) (by omega)) (fun y H ho => ?_)
  obtain ⟨fs, Ha, Hf⟩ := id H.1
  have HW1 := HW.top (n1 := ((rdF md Ff Z) (60 * m + i)).n - 1) (by omega) (by omega) H ho
  have f41 := HW1.fb.2.2.2
  have sx := HW.sp (show ((rdF md Ff Z) (60 * m + i)).n - 1 < ((rdF md Ff Z) (60 * m + i)).n by omega) eX
  rw [sl_t (by omega)] at sx
  refine gi_aload_n (q := 570) (i := 0) C (dm_Mo_step 225 rfl) rfl rfl rfl ?_
  refine gi_bipush (q := 572) (v := 64) C (dm_Mo_step 226 rfl) rfl (by decide) ?_
  refine gi_iload_n (q := 573) (i := 3) C (dm_Mo_step 227 rfl) rfl rfl rfl ?_
  refine gi_iadd (q := 574) C (dm_Mo_step 228 rfl) rfl ?_
  rw [show (64 : Int32) = nI 64 from rfl, nI_add, etx]
  refine gi_aload_n (q := 575) (i := 0) C (dm_Mo_step 229 rfl) rfl rfl rfl ?_
  refine gi_get (q := 578) C (dm_Mo_step 230 rfl) rfl fl_Mo_104 Ha (mo_g52 Hf) ?_
  refine gi_aload_n (q := 579) (i := 0) C (dm_Mo_step 231 rfl) rfl rfl rfl ?_
  refine gi_get (q := 582) C (dm_Mo_step 232 rfl) rfl fl_Mo_357 Ha (mo_g58 Hf) ?_
  rw [f41]
  refine gi_lald (q := 583) C (dm_Mo_step 233 rfl) rfl rfl (mo_a52 H) (inN (show (((rdF md Ff Z) (60 * m + i)).n - 1 - (pN P 2 m) + 6) < 14 by omega) (by decide)) ?_
  rw [nI_clamp (show (((rdF md Ff Z) (60 * m + i)).n - 1 - (pN P 2 m) + 6) < 2 ^ 31 by omega), sx.1]
  refine gi_aload_n (q := 584) (i := 0) C (dm_Mo_step 234 rfl) rfl rfl rfl ?_
  refine gi_get (q := 587) C (dm_Mo_step 235 rfl) rfl fl_Mo_107 Ha (mo_g53 Hf) ?_
  refine gi_aload_n (q := 588) (i := 0) C (dm_Mo_step 236 rfl) rfl rfl rfl ?_
  refine gi_get (q := 591) C (dm_Mo_step 237 rfl) rfl fl_Mo_357 Ha (mo_g58 Hf) ?_
  rw [f41]
  refine gi_lald (q := 592) C (dm_Mo_step 238 rfl) rfl rfl (mo_a53 H) (inN (show (((rdF md Ff Z) (60 * m + i)).n - 1 - (pN P 2 m) + 6) < 14 by omega) (by decide)) ?_
  rw [nI_clamp (show (((rdF md Ff Z) (60 * m + i)).n - 1 - (pN P 2 m) + 6) < 2 ^ 31 by omega), sx.2.1]
  refine gi_aload_n (q := 593) (i := 0) C (dm_Mo_step 239 rfl) rfl rfl rfl ?_
  refine gi_get (q := 596) C (dm_Mo_step 240 rfl) rfl fl_Mo_110 Ha (mo_g54 Hf) ?_
  refine gi_aload_n (q := 597) (i := 0) C (dm_Mo_step 241 rfl) rfl rfl rfl ?_
  refine gi_get (q := 600) C (dm_Mo_step 242 rfl) rfl fl_Mo_357 Ha (mo_g58 Hf) ?_
  rw [f41]
  refine gi_lald (q := 601) C (dm_Mo_step 243 rfl) rfl rfl (mo_a54 H) (inN (show (((rdF md Ff Z) (60 * m + i)).n - 1 - (pN P 2 m) + 6) < 14 by omega) (by decide)) ?_
  rw [nI_clamp (show (((rdF md Ff Z) (60 * m + i)).n - 1 - (pN P 2 m) + 6) < 2 ^ 31 by omega), sx.2.2]
  refine gi_callv 4 (q := 604) C (dm_Mo_step 244 rfl) rfl my_Mo_tell lk_Mo_470 im_Mo_tell rfl (ww_tell HW1 (t := 530 + (pN P 7 (60 * m + i))) hmd (by omega) (by omega) okT oX (by unfold gvA; rw [if_neg (by decide)]; exact eX)) Ha rfl rfl ⟨(Nat.le_of_ble_eq_true rfl), (Nat.le_of_ble_eq_true rfl)⟩ (Nat.le_of_ble_eq_true rfl) ⟨(Nat.le_of_ble_eq_true rfl), (Nat.le_of_ble_eq_true rfl)⟩ (fun r601 n601 h601 e601 => ?_)
  obtain ⟨rfl, rfl, S2, J2, F2, G2, HW2, fz2⟩ := e601
  have H := HW2.1
  obtain ⟨fs, Ha, Hf⟩ := id H.1
  have ho := HW2.2.1
  refine gi_aload_n (q := 605) (i := 0) C (dm_Mo_step 245 rfl) rfl rfl rfl ?_
  refine gi_iload (q := 607) C (dm_Mo_step 246 rfl) rfl rfl ?_
  refine gi_callv 1 (q := 610) C (dm_Mo_step 247 rfl) rfl my_Mo_comeTo lk_Mo_434 im_Mo_comeTo rfl (ww_comeTo HW2 B hmd hm hi1 hs1 rfl tyN) Ha rfl rfl ⟨(Nat.le_of_ble_eq_true rfl), (Nat.le_of_ble_eq_true rfl)⟩ (Nat.le_of_ble_eq_true rfl) ⟨(Nat.le_of_ble_eq_true rfl), (Nat.le_of_ble_eq_true rfl)⟩ (fun r607 n607 h607 e607 => ?_)
  obtain ⟨rfl, rfl, S3, J3, F3, G3, HW3, fz3⟩ := e607
  have H := HW3.1
  obtain ⟨fs, Ha, Hf⟩ := id H.1
  have ho := HW3.2.1
  refine gi_goto (tgt := 665) C (dm_Mo_step 248 rfl) (by decide) ?_
  refine gi_vret C hr (dm_Mo_step 279 rfl) ?_
  rw [oc]
  exact ⟨rfl, rfl, _, HW3.end⟩
end RCG
