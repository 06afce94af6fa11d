-- needs: 89.83
section RCF
variable {l : Launch} {V : gi_V} {n : Nat} {h h' : gi_H} {M k m i : Nat} {P : Pm} {x : Sh} {sh : Nat → Option Sh} {S S' : Nat → Int32} {J J' : Nat → Int64} {F F' : Nat → Nat → Int32} {G G' : Nat → Nat → Int64} {f g : Nat → Sl} {n0 : Nat} {r : Rw} {Ff : Fa} {Z : Fa × Bool} {md p t : Nat} {S0 S1 S2 : Nat → Int32} {J0 J1 J2 : Nat → Int64} {F0 F1 F2 : Nat → Nat → Int32} {G0 G1 G2 : Nat → Nat → Int64} {y y' : gi_H} {L : Nat} {κ : (Nat → Ce) × Int32}
theorem tk_d {q : Bool} {x y : Sh} (h : tkS q x = some y) : 1 ≤ x.1 ∧ y.1 = x.1 - 1 := by
  obtain ⟨h1, -, h3⟩ := tkS_some h
  subst h3
  exact ⟨by omega, rfl⟩
theorem s_two {x y : Sh} {n1 : Nat} {g : Nat → Sl} (ll : pN P 2 m ≤ 6) (G : tyG P m x n1 g) (e : (tkS false x).bind (tkS false) = some y) : pN P 2 m + 2 ≤ n1 ∧ ∃ X Y, (g (n1 - 2)).1 = .inl X ∧ (g (n1 - 1)).1 = .inl Y ∧ okS X ∧ okS Y := by
  obtain ⟨-, X, Y, h1, h2, h3, h4, -⟩ := st_two ll G e
  obtain ⟨z, e1, e2⟩ := Option.bind_eq_some_iff.mp e
  have a := tk_d e1
  have b := tk_d e2
  have c := G_n G
  exact ⟨by omega, X, Y, h1, h2, h3, h4⟩
theorem s_int {x y : Sh} {n1 : Nat} {g : Nat → Sl} (ll : pN P 2 m ≤ 6) (G : tyG P m x n1 g) (e : tkS false x = some y) : pN P 2 m + 1 ≤ n1 ∧ ∃ X, (g (n1 - 1)).1 = .inl X ∧ okS X := by
  obtain ⟨-, X, h1, h2, -⟩ := st_int ll G e
  have a := tk_d e
  have c := G_n G
  exact ⟨by omega, X, h1, h2⟩
theorem s_set {x y : Sh} {n1 : Nat} {g : Nat → Sl} (ll : pN P 2 m ≤ 6) (G : tyG P m x n1 g) (e : tkS true x = some y) : pN P 2 m + 1 ≤ n1 ∧ ∃ b q, (g (n1 - 1)).1 = .inr (b, q) := by
  obtain ⟨-, b, q, h1, -⟩ := st_set ll G e
  have a := tk_d e
  have c := G_n G
  exact ⟨by omega, b, q, h1⟩
theorem s_get {x y : Sh} {n1 : Nat} {g : Nat → Sl} (ll : pN P 2 m ≤ 6) (G : tyG P m x n1 g) (e : (tkS false x).bind (tkS true) = some y) : pN P 2 m + 2 ≤ n1 ∧ ∃ X b q, (g (n1 - 1)).1 = .inl X ∧ okS X ∧ (g (n1 - 2)).1 = .inr (b, q) := by
  obtain ⟨-, X, b, q, h1, h2, h3, -⟩ := st_get ll G e
  obtain ⟨z, e1, e2⟩ := Option.bind_eq_some_iff.mp e
  have a := tk_d e1
  have b' := tk_d e2
  have c := G_n G
  exact ⟨by omega, X, b, q, h1, h2, h3⟩
theorem s_put {x y : Sh} {n1 : Nat} {g : Nat → Sl} (ll : pN P 2 m ≤ 6) (G : tyG P m x n1 g) (e : ((tkS false x).bind (tkS false)).bind (tkS true) = some y) : pN P 2 m + 3 ≤ n1 ∧ ∃ X Y b q, (g (n1 - 2)).1 = .inl X ∧ (g (n1 - 1)).1 = .inl Y ∧ okS X ∧ okS Y ∧ (g (n1 - 3)).1 = .inr (b, q) := by
  obtain ⟨-, X, b, q, h1, h2, h3, -⟩ := st_put ll G e
  obtain ⟨z, e1, e2⟩ := Option.bind_eq_some_iff.mp e
  obtain ⟨-, X', Y, h4, h5, h6, h7⟩ := s_two ll G e1
  obtain ⟨z2, e3, e4⟩ := Option.bind_eq_some_iff.mp e1
  have a := tk_d e2
  have b' := tk_d e3
  have b2 := tk_d e4
  have c := G_n G
  exact ⟨by omega, X, Y, b, q, h1, h5, h2, h7, h3⟩
theorem con_fold {g : Fa × Bool → Con → Fa × Bool} {t n1 : Nat} {o : Option (Nat → Sl)} {Z : Fa × Bool} : (conO t n1 o).foldl g Z = (match o with | none => Z | some u => g Z (t, n1, u)) := by cases o <;> rfl
theorem con_mem {t n1 : Nat} {o : Option (Nat → Sl)} {u : Nat → Sl} (h : o = some u) : (t, n1, u) ∈ conO t n1 o := by subst h; exact List.mem_singleton.mpr rfl
theorem pgR.yz (h : pgR k P sh S F) (a : frY S0 S J0 J F0 F G0 G) (b : frY S0 S' J0 J' F0 F' G0 G') : pgR k P sh S' F' := by
  obtain ⟨h1, h2, h3, h4, h5⟩ := h
  have e : ∀ j, j < 31 → F' j = F j := fun j hj => (b.2.2.1 j (by omega)).trans (a.2.2.1 j (by omega)).symm
  refine ⟨fun j q1 q2 => by rw [e j (by omega)]; exact h1 j q1 q2, ((b.1 0 (by decide) (by decide) (by decide) (by decide) (by decide) (by decide) (by decide)).trans (a.1 0 (by decide) (by decide) (by decide) (by decide) (by decide) (by decide) (by decide)).symm).trans h2, fun m hm => ?_, fun q hq hs => by rw [e 15 (by decide)]; exact h4 q hq hs, fun m i hm hi => by rw [e 16 (by decide)]; exact h5 m i hm hi⟩
  intro i hi
  show (_ → F' 12 _ = _) ∧ ∀ x, _ → F' 12 _ = _ ∧ F' 13 _ = _
  rw [e 12 (by decide), e 13 (by decide)]
  exact h3 m hm i hi
/-- again, behind a call that kept what was kept -/
theorem ww_again {κ0 : (Nat → Ce) × Int32} {n1 : Nat} {Z1 : Fa × Bool} (H : WW M k P sh md Ff κ0 h S0 J0 F0 G0 Z L n0 f S J F G y') (sp : spP M k P sh md Ff κ h S0 J0 F0 G0 Z1 y) (hk : rwR L n1 f κ.1) (h66 : κ.2 = nI (n1 - L + 6)) (h6 : L ≤ 6) (hL : L ≤ n1) (h8 : n1 - L ≤ 8) : (∃ fs, y M = some (gi_O 12 fs)) ∧ gi_T l V y_Mo_again b_Mo_again 2 none 0 0 0 0 [.ref M] n y (fun v n' h' => v = none ∧ n' = n ∧ WWx M k P sh md Ff κ h S0 J0 F0 G0 Z1 L n1 f h') := by
  obtain ⟨S1, J1, F1, G1, H1, o1, ⟨r1, k1⟩, d1⟩ := sp
  have pg := H.2.2.2.1.yz H.2.2.1.1 r1
  refine ⟨⟨_, H1.1.choose_spec.1⟩, gi_T.mono (c_Mo_again H1) (fun r n' h' q => ?_)⟩
  obtain ⟨q1, q2, S2, F2, G2, a1, a2, a3, a4, a5⟩ := q
  refine ⟨q1, q2, _, _, _, _, a1, o1.tr a2, ⟨r1.tr a3.yy, k1.cw a3⟩, pg.yy (J := J1) (J' := J1) a3.yy, d1.nn a3.nn, ?_, ?_, h6, hL, h8⟩
  · rw [a4, k1.2, h66]
  · refine rwR_nr hk h6 h8 (fun j hj => ?_)
    rw [a5 j hj, k1.1]
theorem ww_keep (H : WW M k P sh md Ff κ h S0 J0 F0 G0 Z L n0 f S J F G y) : gi_T l V y_Mo_keep b_Mo_keep 2 none 0 0 0 0 [.ref M] n y (fun v n' h' => v = none ∧ n' = n ∧ ∃ κ' S' F' G', WW M k P sh md Ff κ' h S0 J0 F0 G0 Z L n0 f S' J F' G' h' ∧ rwR L n0 f κ'.1 ∧ κ'.2 = nI (n0 - L + 6)) := by
  refine gi_T.mono (c_Mo_keep H.1) (fun r n' h' q => ?_)
  obtain ⟨q1, q2, S2, F2, G2, a1, a2, a3, a4, a5⟩ := q
  have fb := H.fb
  exact ⟨q1, q2, _, _, _, _, H.kp a1 a2 a3, rwR_nr H.2.2.2.2.2.2.1 fb.1 fb.2.2.1 a5, a4.trans fb.2.2.2⟩
def drP (L j d : Nat) (g : Nat → Sl) : Nat → Sl := fun i => if L ≤ i ∧ i < L + d ∧ (g i).2 = nI j then ((g i).1, -1) else g i
theorem drP_0 {j : Nat} {g : Nat → Sl} : drP L j 0 g = g := by
  funext i
  unfold drP
  rw [if_neg (by omega)]
theorem drP_at {j d : Nat} {g : Nat → Sl} : drP L j d g (L + d) = g (L + d) := by
  unfold drP
  rw [if_neg (by omega)]
theorem drP_s {j d : Nat} {g : Nat → Sl} : drP L j (d + 1) g = upF (drP L j d g) (L + d) (if (g (L + d)).2 = nI j then ((g (L + d)).1, -1) else g (L + d)) := by
  funext i
  unfold drP upF
  by_cases q : i = L + d
  · rw [if_pos q, q]
    by_cases z : (g (L + d)).2 = nI j
    · rw [if_pos ⟨by omega, by omega, z⟩, if_pos z]
    · rw [if_neg (fun y => z y.2.2), if_neg z]
  · rw [if_neg q]
    dsimp only
    by_cases z : L ≤ i ∧ i < L + d ∧ (g i).2 = nI j
    · rw [if_pos z, if_pos ⟨z.1, by omega, z.2.2⟩]
    · rw [if_neg z, if_neg (fun y => z ⟨y.1, by omega, y.2.2⟩)]
theorem drP_e {j : Nat} {g : Nat → Sl} {c : Nat → Ce} (hj : j < L) (h6 : L ≤ 6) (hL : L ≤ n0) (hg : ∀ i, i < L → (g i).2 = -1) (h : rwR L n0 (drP L j (n0 - L) g) c) : rwR L n0 (dropF n0 g (nI j)) c := fun i hi => by
  have e : dropF n0 g (nI j) i = drP L j (n0 - L) g i := by
    unfold dropF drP
    by_cases z : i < L
    · have m1 : ¬ (g i).2 = nI j := by rw [hg i z]; exact fun e => nI_ne_m1 (show j < 2 ^ 31 by omega) e.symm
      rw [if_neg (fun y => m1 y.2), if_neg (fun y => m1 y.2.2)]
    · by_cases y : (g i).2 = nI j
      · rw [if_pos ⟨hi, y⟩, if_pos ⟨by omega, by omega, y⟩]
      · rw [if_neg (fun u => y u.2), if_neg (fun u => y u.2.2)]
  rw [e]
  exact h i hi
set_option maxHeartbeats 4000000 in
set_option maxRecDepth 100000 in
theorem rsp_2 {p : Program} {e : Env} {sg : State} {mi : MethodId} {args : Array Value} {below : List Frame} {meth : Method} {c : Code} (C : gi_C p sg mi args meth c b_Mo_step 7 y_Mo_step.cls V) (hr : meth.sig.returnType = none) (B : Built k P sh (siN k P sh) (wdF k P)) (hmd : md ≤ 2) (hm : m < k) (hi : i < pN P 5 m) (hR : rdO (tyF P sh) (rdF md Ff Z)) (tl : ((rdF md Ff Z) (60 * m + i)).told = true) (HW : WW M k P sh md Ff κ h S0 J0 F0 G0 Z (pN P 2 m) ((rdF md Ff Z) (60 * m + i)).n ((rdF md Ff Z) (60 * m + i)).f S J F G y) (eo : (pN P 6 (60 * m + i)) = 2) : gi_G p l e { frames := 6, cells := 0, slots := 0, locals := 202 } sg mi args below meth c (MQ below (gi_Qc V (fun v n' h' => v = none ∧ n' = n ∧ ∃ κ, spP M k P sh md Ff κ h S0 J0 F0 G0 ((outs P (siN k P sh) (rdF md Ff Z) (60 * m + i)).foldl (comeM md (grF (wdF k P))) Z) h')) args sg 0 0 (fun q : Nat => V.2.2 ≤ q)) V 7 0 0 260 [(5, .int (nI (60 * m) + (P 7 (60 * m + i)))), (4, .int (nI (60 * m + i + 1))), (3, .int (P 7 (60 * m + i))), (2, .int (nI (pN P 6 (60 * m + i)))), (1, .int (nI (60 * m + i))), (0, .ref M)] [] n y := by
  have W := B.wf
  have w8 := W.k8
  have wm := wf_ar W hm
  obtain ⟨x, y0, hsx, x8, x2, GT, ll, o35, od, ey, nxi, jmi⟩ := stp_pre B hm hi hR.1 tl
  have okall := fun c hc => (outs_all B (p := 60 * m + i) (by omega) hR.1 tl c hc).1
  have gn := G_n GT
  have hloc : ∀ q, q < pN P 2 m → (((rdF md Ff Z) (60 * m + i)).f q).2 = -1 := fun q hq => (tyG_mk GT (show q < ((rdF md Ff Z) (60 * m + i)).n by omega)).2.2.2 hq
  have mkL : ∀ q, q < ((rdF md Ff Z) (60 * m + i)).n → (((rdF md Ff Z) (60 * m + i)).f q).2 = -1 ∨ ∃ j, j < pN P 2 m ∧ (((rdF md Ff Z) (60 * m + i)).f q).2 = nI j := fun q hq => mk_L GT hq
  have H := HW.1
  obtain ⟨fs, Ha, Hf⟩ := id H.1
  have ho := HW.2.1
  obtain ⟨f1, f2, f3, f4⟩ := HW.fb
  have oc : outs P (siN k P sh) (rdF md Ff Z) (60 * m + i) = [(60 * m + i + 1, ((rdF md Ff Z) (60 * m + i)).n - 1, dropF (((rdF md Ff Z) (60 * m + i)).n - 1) (upF ((rdF md Ff Z) (60 * m + i)).f (pN P 7 (60 * m + i)) ((((rdF md Ff Z) (60 * m + i)).f (((rdF md Ff Z) (60 * m + i)).n - 1)).1, (((rdF md Ff Z) (60 * m + i)).f (pN P 7 (60 * m + i))).2)) (P 7 (60 * m + i)))] := by
    rw [outs_mv (by omega), eo]
    rfl
  obtain ⟨hi1, hs1⟩ := nxi (by omega) (by omega)
  have y8 := (sh8 B hs1).1
  have okN := okall _ (by rw [oc]; exact List.mem_singleton.mpr rfl)
  have tyN := ok_ty (y := y0) (show m < 8 by omega) (show i + 1 < 60 by omega) hs1 okN
  have gy := G_n tyN
  obtain ⟨ea, al⟩ : P 7 (60 * m + i) = nI (pN P 7 (60 * m + i)) ∧ pN P 7 (60 * m + i) < pN P 2 m := by
    have z := od.1 (by omega)
    have z2 := nn_nI (a := P 7 (60 * m + i)) z.1
    exact ⟨z2.1, by show (P 7 (60 * m + i)).toNatClampNeg < _; omega⟩
  have xb : 1 ≤ x.1 := by
    rw [eo] at ey
    exact (tk_d (q := kdB P m (pN P 7 (60 * m + i))) (x := x) (y := y0) ey).1
  refine gi_aload_n (q := 261) (i := 0) C (dm_Mo_step 63 rfl) rfl rfl rfl ?_
  refine gi_dup (q := 262) C (dm_Mo_step 64 rfl) rfl rfl ?_
  refine gi_get (q := 265) C (dm_Mo_step 65 rfl) rfl fl_Mo_357 Ha (mo_g58 Hf) ?_
  refine gi_iconst (q := 266) (v := 1) C (dm_Mo_step 66 rfl) rfl (by decide) ?_
  refine gi_isub (q := 267) C (dm_Mo_step 67 rfl) rfl ?_
  rw [HW.fb.2.2.2, nI_m1 (by omega), show ((rdF md Ff Z) (60 * m + i)).n - (pN P 2 m) + 6 - 1 = ((rdF md Ff Z) (60 * m + i)).n - 1 - (pN P 2 m) + 6 by omega]
  refine gi_put (q := 270) C (dm_Mo_step 68 rfl) rfl fl_Mo_357 fp_Mo_58 Ha (by rw [Hf.1]; decide) rfl rfl ?_
  refine gi_genM (H.putI Ha Hf (by decide) rfl) (ho.up (by omega) (by omega)) (fun y H ho => ?_)
  obtain ⟨fs, Ha, Hf⟩ := id H.1
  refine gi_aload_n (q := 271) (i := 0) C (dm_Mo_step 69 rfl) rfl rfl rfl ?_
  refine gi_aload_n (q := 272) (i := 0) C (dm_Mo_step 70 rfl) rfl rfl rfl ?_
  refine gi_get (q := 275) C (dm_Mo_step 71 rfl) rfl fl_Mo_357 Ha (mo_g58 Hf) ?_
  refine gi_iload_n (q := 276) (i := 3) C (dm_Mo_step 72 rfl) rfl rfl rfl ?_
  rw [show upS S 58 (nI (((rdF md Ff Z) (60 * m + i)).n - 1 - (pN P 2 m) + 6)) 58 = nI (((rdF md Ff Z) (60 * m + i)).n - 1 - (pN P 2 m) + 6) from rfl, ea]
  refine gi_callv 2 (q := 279) C (dm_Mo_step 73 rfl) rfl my_Mo_copy lk_Mo_437 im_Mo_copy rfl (c_Mo_copy (t := (((rdF md Ff Z) (60 * m + i)).n - 1 - (pN P 2 m) + 6)) (s := (pN P 7 (60 * m + i))) (by omega) (by omega) H) Ha rfl rfl ⟨(Nat.le_of_ble_eq_true rfl), (Nat.le_of_ble_eq_true rfl)⟩ (Nat.le_of_ble_eq_true rfl) ⟨(Nat.le_of_ble_eq_true rfl), (Nat.le_of_ble_eq_true rfl)⟩ (fun r276 n276 h276 e276 => ?_)
  obtain ⟨rfl, rfl, F1, G1, H1, o1, r1, c1⟩ := e276
  have H := H1
  obtain ⟨fs, Ha, Hf⟩ := id H.1
  have ho := ho.tr o1
  refine gi_aload_n (q := 280) (i := 0) C (dm_Mo_step 74 rfl) rfl rfl rfl ?_
  refine gi_get (q := 283) C (dm_Mo_step 75 rfl) rfl fl_Mo_119 Ha (mo_g57 Hf) ?_
  refine gi_iload_n (q := 284) (i := 3) C (dm_Mo_step 76 rfl) rfl rfl rfl ?_
  refine gi_iconst (q := 285) (v := -1) C (dm_Mo_step 77 rfl) rfl (by decide) ?_
  refine gi_iast (q := 286) C (dm_Mo_step 78 rfl) rfl rfl (mo_a57 H) (inN (show (pN P 7 (60 * m + i)) < 14 by omega) (by decide)) ?_
  refine gi_genM (H.setI (p := 33) (k := 57) (by decide) rfl rfl (by decide) rfl (by omega)) (ho.up (by omega) (by omega)) (fun y H ho => ?_)
  obtain ⟨fs, Ha, Hf⟩ := id H.1
  refine gi_bipush (q := 288) (v := 6) C (dm_Mo_step 79 rfl) rfl (by decide) ?_
  refine gi_istore (q := 290) C (dm_Mo_step 80 rfl) rfl (Nat.le_of_ble_eq_true rfl) ?_
  rw [nI_clamp (show (pN P 7 (60 * m + i)) < 2 ^ 31 by omega)] at H
  have q2 := HW.2.2.2.2.2.2.1 (((rdF md Ff Z) (60 * m + i)).n - 1) (by omega)
  rw [sl_t (by omega)] at q2
  have cm := cW_mk (F := F1) (G := G1) (s := (pN P 7 (60 * m + i))) (v := -1)
  obtain ⟨F3, eF3⟩ : ∃ F3, F3 = upA F1 57 (upd (F1 57) (pN P 7 (60 * m + i)) (-1)) := ⟨_, rfl⟩
  rw [← eF3] at H cm
  have r3 : frW S (upS S 58 (nI (((rdF md Ff Z) (60 * m + i)).n - 1 - (pN P 2 m) + 6))) F F3 G G1 := ⟨fun a q => by unfold upS; rw [if_neg q], fun a h1 h2 h3 => by rw [eF3, upA_n h3]; exact r1.2.1 a h1 h2 h3, r1.2.2⟩
  have hl2 : ∀ q, q < pN P 2 m → ((upF ((rdF md Ff Z) (60 * m + i)).f (pN P 7 (60 * m + i)) ((((rdF md Ff Z) (60 * m + i)).f (((rdF md Ff Z) (60 * m + i)).n - 1)).1, (((rdF md Ff Z) (60 * m + i)).f (pN P 7 (60 * m + i))).2)) q).2 = -1 := fun q hq => by
    unfold upF
    by_cases z : q = (pN P 7 (60 * m + i))
    · rw [if_pos z]; exact hloc (pN P 7 (60 * m + i)) al
    · rw [if_neg z]; exact hloc q hq
  have w3 : rwR (pN P 2 m) (((rdF md Ff Z) (60 * m + i)).n - 1) (upF ((rdF md Ff Z) (60 * m + i)).f (pN P 7 (60 * m + i)) ((((rdF md Ff Z) (60 * m + i)).f (((rdF md Ff Z) (60 * m + i)).n - 1)).1, (((rdF md Ff Z) (60 * m + i)).f (pN P 7 (60 * m + i))).2)) (cW F3 G1) := by
    refine rw_up (d := ((nrC (cW F G (((rdF md Ff Z) (60 * m + i)).n - 1 - (pN P 2 m) + 6))).1, (nrC (cW F G (((rdF md Ff Z) (60 * m + i)).n - 1 - (pN P 2 m) + 6))).2.1, (nrC (cW F G (((rdF md Ff Z) (60 * m + i)).n - 1 - (pN P 2 m) + 6))).2.2.1, (nrC (cW F G (((rdF md Ff Z) (60 * m + i)).n - 1 - (pN P 2 m) + 6))).2.2.2.1, (nrC (cW F G (((rdF md Ff Z) (60 * m + i)).n - 1 - (pN P 2 m) + 6))).2.2.2.2.1, -1)) (rw_less HW.2.2.2.2.2.2.1 (by omega)) f1 ?_ (ce_mk (ceA_nr q2.1)) (fun z => absurd z (by omega))
    rw [cm, c1, upO_self, sl_lo al]
    funext q
    unfold upO
    by_cases z : q = (pN P 7 (60 * m + i))
    · rw [if_pos z, if_pos z]
    · rw [if_neg z, if_neg z, if_neg z]
  refine gi_while (σ := Nat) (fun d => (((rdF md Ff Z) (60 * m + i)).n - 1 - (pN P 2 m)) - d) (fun d => [(6, .int (nI (d + 6))), (4, .int (nI (60 * m + i + 1))), (3, .int (nI (pN P 7 (60 * m + i)))), (0, .ref M)]) (fun _ => n276) (fun _ => 0) (fun _ => 0) (fun d y' => d ≤ ((rdF md Ff Z) (60 * m + i)).n - 1 - (pN P 2 m) ∧ ∃ F4 G4, mo_at M (upS S 58 (nI (((rdF md Ff Z) (60 * m + i)).n - 1 - (pN P 2 m) + 6))) J F4 G4 y' ∧ outM M h y' ∧ frW S (upS S 58 (nI (((rdF md Ff Z) (60 * m + i)).n - 1 - (pN P 2 m) + 6))) F F4 G G4 ∧ rwR (pN P 2 m) (((rdF md Ff Z) (60 * m + i)).n - 1) (drP (pN P 2 m) (pN P 7 (60 * m + i)) d (upF ((rdF md Ff Z) (60 * m + i)).f (pN P 7 (60 * m + i)) ((((rdF md Ff Z) (60 * m + i)).f (((rdF md Ff Z) (60 * m + i)).n - 1)).1, (((rdF md Ff Z) (60 * m + i)).f (pN P 7 (60 * m + i))).2))) (cW F4 G4)) 0 ⟨Nat.zero_le _, F3, G1, H, ho, r3, by rw [drP_0]; exact w3⟩ ?_ (List.forall_mem_cons.mpr ⟨(by first | rfl | (simp [gi_look]; done)), List.forall_mem_cons.mpr ⟨(by first | rfl | (simp [gi_look]; done)), List.forall_mem_cons.mpr ⟨(by first | rfl | (simp [gi_look]; done)), List.forall_mem_cons.mpr ⟨(by first | rfl | (simp [gi_look]; done)), fun _ h => absurd h List.not_mem_nil⟩⟩⟩⟩) rfl rfl rfl
  rintro d y' ⟨hd, F4, G4, H4, o4, r4, w4⟩ ihd
  try dsimp only at *
  have H := H4
  obtain ⟨fs, Ha, Hf⟩ := id H.1
  have ho := o4
  refine gi_iload (q := 292) C (dm_Mo_step 81 rfl) rfl rfl ?_
  refine gi_aload_n (q := 293) (i := 0) C (dm_Mo_step 82 rfl) rfl rfl rfl ?_
  refine gi_get (q := 296) C (dm_Mo_step 83 rfl) rfl fl_Mo_357 Ha (mo_g58 Hf) ?_
  rw [show upS S 58 (nI (((rdF md Ff Z) (60 * m + i)).n - 1 - (pN P 2 m) + 6)) 58 = nI (((rdF md Ff Z) (60 * m + i)).n - 1 - (pN P 2 m) + 6) from rfl]
  refine gi_icmp_ge (q := 299) (tgt := 334) C (dm_Mo_step 84 rfl) rfl (by decide) (fun c296 => ?_) (fun c296 => ?_)
  · have de : d = ((rdF md Ff Z) (60 * m + i)).n - 1 - (pN P 2 m) := by
      rcases Nat.lt_or_ge d (((rdF md Ff Z) (60 * m + i)).n - 1 - (pN P 2 m)) with q | q
      · exact absurd c296 (Int32.not_le.mpr (nI_lt (show d + 6 < (((rdF md Ff Z) (60 * m + i)).n - 1 - (pN P 2 m) + 6) by omega) (by omega)))
      · omega
    rw [de] at w4
    have w6 := drP_e (j := (pN P 7 (60 * m + i))) al f1 (by omega) hl2 w4
    rw [← ea] at w6
    have HW3 := HW.wl H ho r4 ⟨rfl, w6, f1, by omega, by omega⟩
    refine gi_aload_n (q := 335) (i := 0) C (dm_Mo_step 103 rfl) rfl rfl rfl ?_
    refine gi_iload (q := 337) C (dm_Mo_step 104 rfl) rfl rfl ?_
    refine gi_callv 1 (q := 340) C (dm_Mo_step 105 rfl) rfl my_Mo_comeTo lk_Mo_434 im_Mo_comeTo rfl (ww_comeTo HW3 B hmd hm hi1 hs1 rfl tyN) Ha rfl rfl ⟨(Nat.le_of_ble_eq_true rfl), (Nat.le_of_ble_eq_true rfl)⟩ (Nat.le_of_ble_eq_true rfl) ⟨(Nat.le_of_ble_eq_true rfl), (Nat.le_of_ble_eq_true rfl)⟩ (fun r337 n337 h337 e337 => ?_)
    obtain ⟨rfl, rfl, S5, J5, F5, G5, HW5, fz5⟩ := e337
    have H := HW5.1
    obtain ⟨fs, Ha, Hf⟩ := id H.1
    have ho := HW5.2.1
    refine gi_goto (tgt := 665) C (dm_Mo_step 106 rfl) (by decide) ?_
    refine gi_vret C hr (dm_Mo_step 279 rfl) ?_
    rw [oc]
    exact ⟨rfl, rfl, _, HW5.end⟩
  · have dl : d < ((rdF md Ff Z) (60 * m + i)).n - 1 - (pN P 2 m) := by
      rcases Nat.lt_or_ge d (((rdF md Ff Z) (60 * m + i)).n - 1 - (pN P 2 m)) with q | q
      · exact q
      · exact absurd (nI_le (show (((rdF md Ff Z) (60 * m + i)).n - 1 - (pN P 2 m) + 6) ≤ d + 6 by omega) (by omega)) c296
    refine gi_aload_n (q := 300) (i := 0) C (dm_Mo_step 85 rfl) rfl rfl rfl ?_
    refine gi_get (q := 303) C (dm_Mo_step 86 rfl) rfl fl_Mo_119 Ha (mo_g57 Hf) ?_
    refine gi_iload (q := 305) C (dm_Mo_step 87 rfl) rfl rfl ?_
    refine gi_aload_n (q := 306) (i := 0) C (dm_Mo_step 88 rfl) rfl rfl rfl ?_
    refine gi_get (q := 309) C (dm_Mo_step 89 rfl) rfl fl_Mo_119 Ha (mo_g57 Hf) ?_
    refine gi_iload (q := 311) C (dm_Mo_step 90 rfl) rfl rfl ?_
    refine gi_iald (q := 312) C (dm_Mo_step 91 rfl) rfl rfl (mo_a57 H) (inN (show d + 6 < 14 by omega) (by decide)) ?_
    rw [nI_clamp (show d + 6 < 2 ^ 31 by omega), show F4 57 (d + 6) = ((upF ((rdF md Ff Z) (60 * m + i)).f (pN P 7 (60 * m + i)) ((((rdF md Ff Z) (60 * m + i)).f (((rdF md Ff Z) (60 * m + i)).n - 1)).1, (((rdF md Ff Z) (60 * m + i)).f (pN P 7 (60 * m + i))).2)) ((pN P 2 m) + d)).2 from by
      have z := (w4 ((pN P 2 m) + d) (by omega)).2 (by omega)
      rw [sl_hi (by omega), drP_at, show (pN P 2 m) + d - (pN P 2 m) + 6 = d + 6 by omega] at z
      exact z]
    refine gi_iload_n (q := 313) (i := 3) C (dm_Mo_step 92 rfl) rfl rfl rfl ?_
    refine gi_icmp_ne (q := 316) (tgt := 320) C (dm_Mo_step 93 rfl) rfl (by decide) (fun c313 => ?_) (fun c313 => ?_)
    · refine gi_aload_n (q := 321) (i := 0) C (dm_Mo_step 96 rfl) rfl rfl rfl ?_
      refine gi_get (q := 324) C (dm_Mo_step 97 rfl) rfl fl_Mo_119 Ha (mo_g57 Hf) ?_
      refine gi_iload (q := 326) C (dm_Mo_step 98 rfl) rfl rfl ?_
      refine gi_iald (q := 327) C (dm_Mo_step 99 rfl) rfl rfl (mo_a57 H) (inN (show d + 6 < 14 by omega) (by decide)) ?_
      rw [nI_clamp (show d + 6 < 2 ^ 31 by omega), show F4 57 (d + 6) = ((upF ((rdF md Ff Z) (60 * m + i)).f (pN P 7 (60 * m + i)) ((((rdF md Ff Z) (60 * m + i)).f (((rdF md Ff Z) (60 * m + i)).n - 1)).1, (((rdF md Ff Z) (60 * m + i)).f (pN P 7 (60 * m + i))).2)) ((pN P 2 m) + d)).2 from by
        have z := (w4 ((pN P 2 m) + d) (by omega)).2 (by omega)
        rw [sl_hi (by omega), drP_at, show (pN P 2 m) + d - (pN P 2 m) + 6 = d + 6 by omega] at z
        exact z]
      refine gi_iast (q := 328) C (dm_Mo_step 100 rfl) rfl rfl (mo_a57 H) (inN (show d + 6 < 14 by omega) (by decide)) ?_
      refine gi_genM (H.setI (p := 33) (k := 57) (by decide) rfl rfl (by decide) rfl (by omega)) (ho.up (by omega) (by omega)) (fun y H ho => ?_)
      obtain ⟨fs, Ha, Hf⟩ := id H.1
      rw [nI_clamp (show d + 6 < 2 ^ 31 by omega)] at H
      have ck2 := cW_mk (F := F4) (G := G4) (s := d + 6) (v := ((upF ((rdF md Ff Z) (60 * m + i)).f (pN P 7 (60 * m + i)) ((((rdF md Ff Z) (60 * m + i)).f (((rdF md Ff Z) (60 * m + i)).n - 1)).1, (((rdF md Ff Z) (60 * m + i)).f (pN P 7 (60 * m + i))).2)) ((pN P 2 m) + d)).2)
      obtain ⟨F5, eF5⟩ : ∃ F5, F5 = upA F4 57 (upd (F4 57) (d + 6) (((upF ((rdF md Ff Z) (60 * m + i)).f (pN P 7 (60 * m + i)) ((((rdF md Ff Z) (60 * m + i)).f (((rdF md Ff Z) (60 * m + i)).n - 1)).1, (((rdF md Ff Z) (60 * m + i)).f (pN P 7 (60 * m + i))).2)) ((pN P 2 m) + d)).2)) := ⟨_, rfl⟩
      rw [← eF5] at H ck2
      have rk : frW (upS S 58 (nI (((rdF md Ff Z) (60 * m + i)).n - 1 - (pN P 2 m) + 6))) (upS S 58 (nI (((rdF md Ff Z) (60 * m + i)).n - 1 - (pN P 2 m) + 6))) F4 F5 G4 G4 := ⟨fun _ _ => rfl, fun a _ _ h3 => by rw [eF5, upA_n h3], fun _ _ _ _ => rfl⟩
      have z9 := (w4 ((pN P 2 m) + d) (by omega)).1
      rw [sl_hi (by omega), drP_at, show (pN P 2 m) + d - (pN P 2 m) + 6 = d + 6 by omega] at z9
      have w5 : rwR (pN P 2 m) (((rdF md Ff Z) (60 * m + i)).n - 1) (drP (pN P 2 m) (pN P 7 (60 * m + i)) (d + 1) (upF ((rdF md Ff Z) (60 * m + i)).f (pN P 7 (60 * m + i)) ((((rdF md Ff Z) (60 * m + i)).f (((rdF md Ff Z) (60 * m + i)).n - 1)).1, (((rdF md Ff Z) (60 * m + i)).f (pN P 7 (60 * m + i))).2))) (cW F5 G4) := by
        rw [drP_s, if_neg c313]
        refine rw_up w4 f1 (by rw [ck2, sl_hi (by omega), show (pN P 2 m) + d - (pN P 2 m) + 6 = d + 6 by omega]) ?_ (fun _ => rfl)
        exact ce_mk z9
      refine gi_iinc (q := 331) (v := 1) C (dm_Mo_step 101 rfl) rfl rfl (by decide) (Nat.le_of_ble_eq_true rfl) ?_
      refine gi_goto (tgt := 290) C (dm_Mo_step 102 rfl) (by decide) ?_
      refine gi_close (ihd (d + 1) _ ⟨dl, F5, G4, H, ho, r4.tr rk, w5⟩ (by omega)) (List.forall_mem_cons.mpr ⟨(by first | rfl | (simp [gi_look, nI_1]; done) | (simp [gi_look, nI_1]; rw [show d + 1 + 6 = d + 6 + 1 by omega])), List.forall_mem_cons.mpr ⟨(by first | rfl | (simp [gi_look, nI_1]; done) | (simp [gi_look, nI_1]; rw [show d + 1 + 6 = d + 6 + 1 by omega])), List.forall_mem_cons.mpr ⟨(by first | rfl | (simp [gi_look, nI_1]; done) | (simp [gi_look, nI_1]; rw [show d + 1 + 6 = d + 6 + 1 by omega])), List.forall_mem_cons.mpr ⟨(by first | rfl | (simp [gi_look, nI_1]; done) | (simp [gi_look, nI_1]; rw [show d + 1 + 6 = d + 6 + 1 by omega])), fun _ h => absurd h List.not_mem_nil⟩⟩⟩⟩) rfl rfl rfl
    · refine gi_iconst (q := 317) (v := -1) C (dm_Mo_step 94 rfl) rfl (by decide) ?_
      refine gi_goto (tgt := 327) C (dm_Mo_step 95 rfl) (by decide) ?_
      refine gi_iast (q := 328) C (dm_Mo_step 100 rfl) rfl rfl (mo_a57 H) (inN (show d + 6 < 14 by omega) (by decide)) ?_
      refine gi_genM (H.setI (p := 33) (k := 57) (by decide) rfl rfl (by decide) rfl (by omega)) (ho.up (by omega) (by omega)) (fun y H ho => ?_)
      obtain ⟨fs, Ha, Hf⟩ := id H.1
      rw [nI_clamp (show d + 6 < 2 ^ 31 by omega)] at H
      have ck2 := cW_mk (F := F4) (G := G4) (s := d + 6) (v := -1)
      obtain ⟨F5, eF5⟩ : ∃ F5, F5 = upA F4 57 (upd (F4 57) (d + 6) (-1)) := ⟨_, rfl⟩
      rw [← eF5] at H ck2
      have rk : frW (upS S 58 (nI (((rdF md Ff Z) (60 * m + i)).n - 1 - (pN P 2 m) + 6))) (upS S 58 (nI (((rdF md Ff Z) (60 * m + i)).n - 1 - (pN P 2 m) + 6))) F4 F5 G4 G4 := ⟨fun _ _ => rfl, fun a _ _ h3 => by rw [eF5, upA_n h3], fun _ _ _ _ => rfl⟩
      have z9 := (w4 ((pN P 2 m) + d) (by omega)).1
      rw [sl_hi (by omega), drP_at, show (pN P 2 m) + d - (pN P 2 m) + 6 = d + 6 by omega] at z9
      have w5 : rwR (pN P 2 m) (((rdF md Ff Z) (60 * m + i)).n - 1) (drP (pN P 2 m) (pN P 7 (60 * m + i)) (d + 1) (upF ((rdF md Ff Z) (60 * m + i)).f (pN P 7 (60 * m + i)) ((((rdF md Ff Z) (60 * m + i)).f (((rdF md Ff Z) (60 * m + i)).n - 1)).1, (((rdF md Ff Z) (60 * m + i)).f (pN P 7 (60 * m + i))).2))) (cW F5 G4) := by
        rw [drP_s, if_pos c313]
        refine rw_up w4 f1 (by rw [ck2, sl_hi (by omega), show (pN P 2 m) + d - (pN P 2 m) + 6 = d + 6 by omega]) ?_ (fun _ => rfl)
        exact ce_mk z9
      refine gi_iinc (q := 331) (v := 1) C (dm_Mo_step 101 rfl) rfl rfl (by decide) (Nat.le_of_ble_eq_true rfl) ?_
      refine gi_goto (tgt := 290) C (dm_Mo_step 102 rfl) (by decide) ?_
      refine gi_close (ihd (d + 1) _ ⟨dl, F5, G4, H, ho, r4.tr rk, w5⟩ (by omega)) (List.forall_mem_cons.mpr ⟨(by first | rfl | (simp [gi_look, nI_1]; done) | (simp [gi_look, nI_1]; rw [show d + 1 + 6 = d + 6 + 1 by omega])), List.forall_mem_cons.mpr ⟨(by first | rfl | (simp [gi_look, nI_1]; done) | (simp [gi_look, nI_1]; rw [show d + 1 + 6 = d + 6 + 1 by omega])), List.forall_mem_cons.mpr ⟨(by first | rfl | (simp [gi_look, nI_1]; done) | (simp [gi_look, nI_1]; rw [show d + 1 + 6 = d + 6 + 1 by omega])), List.forall_mem_cons.mpr ⟨(by first | rfl | (simp [gi_look, nI_1]; done) | (simp [gi_look, nI_1]; rw [show d + 1 + 6 = d + 6 + 1 by omega])), fun _ h => absurd h List.not_mem_nil⟩⟩⟩⟩) rfl rfl rfl
set_option maxHeartbeats 4000000 in
set_option maxRecDepth 100000 in
theorem rsp_18 {p : Program} {e : Env} {sg : State} {mi : MethodId} {args : Array Value} {below : List Frame} {meth : Method} {c : Code} (C : gi_C p sg mi args meth c b_Mo_step 7 y_Mo_step.cls V) (hr : meth.sig.returnType = none) (B : Built k P sh (siN k P sh) (wdF k P)) (hmd : md ≤ 2) (hm : m < k) (hi : i < pN P 5 m) (hR : rdO (tyF P sh) (rdF md Ff Z)) (tl : ((rdF md Ff Z) (60 * m + i)).told = true) (HW : WW M k P sh md Ff κ h S0 J0 F0 G0 Z (pN P 2 m) ((rdF md Ff Z) (60 * m + i)).n ((rdF md Ff Z) (60 * m + i)).f S J F G y) (eo : (pN P 6 (60 * m + i)) = 18) : gi_G p l e { frames := 6, cells := 0, slots := 0, locals := 202 } sg mi args below meth c (MQ below (gi_Qc V (fun v n' h' => v = none ∧ n' = n ∧ ∃ κ, spP M k P sh md Ff κ h S0 J0 F0 G0 ((outs P (siN k P sh) (rdF md Ff Z) (60 * m + i)).foldl (comeM md (grF (wdF k P))) Z) h')) args sg 0 0 (fun q : Nat => V.2.2 ≤ q)) V 7 0 0 613 [(5, .int (nI (60 * m) + (P 7 (60 * m + i)))), (4, .int (nI (60 * m + i + 1))), (3, .int (P 7 (60 * m + i))), (2, .int (nI (pN P 6 (60 * m + i)))), (1, .int (nI (60 * m + i))), (0, .ref M)] [] n y := by
  have W := B.wf
  have w8 := W.k8
  have wm := wf_ar W hm
  obtain ⟨x, y0, hsx, x8, x2, GT, ll, o35, od, ey, nxi, jmi⟩ := stp_pre B hm hi hR.1 tl
  have okall := fun c hc => (outs_all B (p := 60 * m + i) (by omega) hR.1 tl c hc).1
  have gn := G_n GT
  have hloc : ∀ q, q < pN P 2 m → (((rdF md Ff Z) (60 * m + i)).f q).2 = -1 := fun q hq => (tyG_mk GT (show q < ((rdF md Ff Z) (60 * m + i)).n by omega)).2.2.2 hq
  have mkL : ∀ q, q < ((rdF md Ff Z) (60 * m + i)).n → (((rdF md Ff Z) (60 * m + i)).f q).2 = -1 ∨ ∃ j, j < pN P 2 m ∧ (((rdF md Ff Z) (60 * m + i)).f q).2 = nI j := fun q hq => mk_L GT hq
  have H := HW.1
  obtain ⟨fs, Ha, Hf⟩ := id H.1
  have ho := HW.2.1
  obtain ⟨f1, f2, f3, f4⟩ := HW.fb
  obtain ⟨q28, e28, -⟩ := Option.map_eq_some_iff.mp (show (tkS false x).map (ptS false) = some y0 by have e := ey; rw [eo] at e; exact e)
  obtain ⟨g1, X, eX, oX⟩ := s_int ll GT e28
  have oc : outs P (siN k P sh) (rdF md Ff Z) (60 * m + i) = [(60 * m + i + 1, ((rdF md Ff Z) (60 * m + i)).n, upF ((rdF md Ff Z) (60 * m + i)).f (((rdF md Ff Z) (60 * m + i)).n - 1) (.inl (actS 18 X (0, 0, 0)), -1))] := by
    unfold outs
    simp only
    repeat (first | rw [if_pos (by omega)] | rw [if_neg (by omega)])
    rw [eX]
    rfl
  obtain ⟨hi1, hs1⟩ := nxi (by omega) (by omega)
  have y8 := (sh8 B hs1).1
  have okN := okall _ (by rw [oc]; exact List.mem_singleton.mpr rfl)
  have tyN := ok_ty (y := y0) (show m < 8 by omega) (show i + 1 < 60 by omega) hs1 okN
  have gy := G_n tyN
  rw [eo]
  refine gi_iload_n (q := 614) (i := 2) C (dm_Mo_step 249 rfl) rfl rfl rfl ?_
  refine gi_bipush (q := 616) (v := 18) C (dm_Mo_step 250 rfl) rfl (by decide) ?_
  refine gi_icmp_gt (q := 619) (tgt := 629) C (dm_Mo_step 251 rfl) rfl (by decide) (fun c616 => ?_) (fun c616 => ?_)
  · exact absurd c616 (by decide)
  · refine gi_aload_n (q := 620) (i := 0) C (dm_Mo_step 252 rfl) rfl rfl rfl ?_
    refine gi_iload_n (q := 621) (i := 2) C (dm_Mo_step 253 rfl) rfl rfl rfl ?_
    refine gi_iload (q := 623) C (dm_Mo_step 254 rfl) rfl rfl ?_
    refine gi_callv 2 (q := 626) C (dm_Mo_step 255 rfl) rfl my_Mo_reckon lk_Mo_473 im_Mo_reckon rfl (ww_reckon18 HW B hmd hm hi1 hs1 rfl g1 eX oX tyN) Ha rfl rfl ⟨(Nat.le_of_ble_eq_true rfl), (Nat.le_of_ble_eq_true rfl)⟩ (Nat.le_of_ble_eq_true rfl) ⟨(Nat.le_of_ble_eq_true rfl), (Nat.le_of_ble_eq_true rfl)⟩ (fun r623 n623 h623 e623 => ?_)
    obtain ⟨rfl, rfl, sp1⟩ := e623
    refine gi_goto (tgt := 665) C (dm_Mo_step 256 rfl) (by decide) ?_
    refine gi_vret C hr (dm_Mo_step 279 rfl) ?_
    rw [oc]
    exact ⟨rfl, rfl, _, sp1⟩
set_option maxHeartbeats 4000000 in
set_option maxRecDepth 100000 in
theorem rsp_17 {p : Program} {e : Env} {sg : State} {mi : MethodId} {args : Array Value} {below : List Frame} {meth : Method} {c : Code} (C : gi_C p sg mi args meth c b_Mo_step 7 y_Mo_step.cls V) (hr : meth.sig.returnType = none) (B : Built k P sh (siN k P sh) (wdF k P)) (hmd : md ≤ 2) (hm : m < k) (hi : i < pN P 5 m) (hR : rdO (tyF P sh) (rdF md Ff Z)) (tl : ((rdF md Ff Z) (60 * m + i)).told = true) (HW : WW M k P sh md Ff κ h S0 J0 F0 G0 Z (pN P 2 m) ((rdF md Ff Z) (60 * m + i)).n ((rdF md Ff Z) (60 * m + i)).f S J F G y) (eo : 7 ≤ (pN P 6 (60 * m + i)) ∧ (pN P 6 (60 * m + i)) ≤ 17 ∧ (pN P 6 (60 * m + i)) ≠ 10 ∧ (pN P 6 (60 * m + i)) ≠ 11) : gi_G p l e { frames := 6, cells := 0, slots := 0, locals := 202 } sg mi args below meth c (MQ below (gi_Qc V (fun v n' h' => v = none ∧ n' = n ∧ ∃ κ, spP M k P sh md Ff κ h S0 J0 F0 G0 ((outs P (siN k P sh) (rdF md Ff Z) (60 * m + i)).foldl (comeM md (grF (wdF k P))) Z) h')) args sg 0 0 (fun q : Nat => V.2.2 ≤ q)) V 7 0 0 613 [(5, .int (nI (60 * m) + (P 7 (60 * m + i)))), (4, .int (nI (60 * m + i + 1))), (3, .int (P 7 (60 * m + i))), (2, .int (nI (pN P 6 (60 * m + i)))), (1, .int (nI (60 * m + i))), (0, .ref M)] [] n y := by
  have W := B.wf
  have w8 := W.k8
  have wm := wf_ar W hm
  obtain ⟨x, y0, hsx, x8, x2, GT, ll, o35, od, ey, nxi, jmi⟩ := stp_pre B hm hi hR.1 tl
  have okall := fun c hc => (outs_all B (p := 60 * m + i) (by omega) hR.1 tl c hc).1
  have gn := G_n GT
  have hloc : ∀ q, q < pN P 2 m → (((rdF md Ff Z) (60 * m + i)).f q).2 = -1 := fun q hq => (tyG_mk GT (show q < ((rdF md Ff Z) (60 * m + i)).n by omega)).2.2.2 hq
  have mkL : ∀ q, q < ((rdF md Ff Z) (60 * m + i)).n → (((rdF md Ff Z) (60 * m + i)).f q).2 = -1 ∨ ∃ j, j < pN P 2 m ∧ (((rdF md Ff Z) (60 * m + i)).f q).2 = nI j := fun q hq => mk_L GT hq
  have H := HW.1
  obtain ⟨fs, Ha, Hf⟩ := id H.1
  have ho := HW.2.1
  obtain ⟨f1, f2, f3, f4⟩ := HW.fb
  have o17 : (pN P 6 (60 * m + i)) ≤ 17 := by omega
  obtain ⟨q28, e28, -⟩ := Option.map_eq_some_iff.mp (show ((tkS false x).bind (tkS false)).map (ptS false) = some y0 by rw [← sh_ar (by omega) o17]; exact ey)
  obtain ⟨g2, X, Y, eX, eY, oX, oY⟩ := s_two ll GT e28
  have oc : outs P (siN k P sh) (rdF md Ff Z) (60 * m + i) = [(60 * m + i + 1, ((rdF md Ff Z) (60 * m + i)).n - 1, upF ((rdF md Ff Z) (60 * m + i)).f (((rdF md Ff Z) (60 * m + i)).n - 2) (.inl (actS (pN P 6 (60 * m + i)) X Y), -1))] := by
    unfold outs
    simp only
    repeat (first | rw [if_pos (by omega)] | rw [if_neg (by omega)])
    rw [eX, eY]
    rfl
  obtain ⟨hi1, hs1⟩ := nxi (by omega) (by omega)
  have y8 := (sh8 B hs1).1
  have okN := okall _ (by rw [oc]; exact List.mem_singleton.mpr rfl)
  have tyN := ok_ty (y := y0) (show m < 8 by omega) (show i + 1 < 60 by omega) hs1 okN
  have gy := G_n tyN
  refine gi_iload_n (q := 614) (i := 2) C (dm_Mo_step 249 rfl) rfl rfl rfl ?_
  refine gi_bipush (q := 616) (v := 18) C (dm_Mo_step 250 rfl) rfl (by decide) ?_
  refine gi_icmp_gt (q := 619) (tgt := 629) C (dm_Mo_step 251 rfl) rfl (by decide) (fun c616 => ?_) (fun c616 => ?_)
  · exact absurd c616 (Int32.not_lt.mpr (by rw [show (18 : Int32) = nI 18 from rfl]; exact nI_le (by omega) (by decide)))
  · refine gi_aload_n (q := 620) (i := 0) C (dm_Mo_step 252 rfl) rfl rfl rfl ?_
    refine gi_iload_n (q := 621) (i := 2) C (dm_Mo_step 253 rfl) rfl rfl rfl ?_
    refine gi_iload (q := 623) C (dm_Mo_step 254 rfl) rfl rfl ?_
    refine gi_callv 2 (q := 626) C (dm_Mo_step 255 rfl) rfl my_Mo_reckon lk_Mo_473 im_Mo_reckon rfl (ww_reckon HW B hmd hm hi1 hs1 rfl eo.1 eo.2.1 eo.2.2 g2 eY eX oX oY tyN) Ha rfl rfl ⟨(Nat.le_of_ble_eq_true rfl), (Nat.le_of_ble_eq_true rfl)⟩ (Nat.le_of_ble_eq_true rfl) ⟨(Nat.le_of_ble_eq_true rfl), (Nat.le_of_ble_eq_true rfl)⟩ (fun r623 n623 h623 e623 => ?_)
    obtain ⟨rfl, rfl, sp1⟩ := e623
    refine gi_goto (tgt := 665) C (dm_Mo_step 256 rfl) (by decide) ?_
    refine gi_vret C hr (dm_Mo_step 279 rfl) ?_
    rw [oc]
    exact ⟨rfl, rfl, _, sp1⟩
set_option maxHeartbeats 4000000 in
set_option maxRecDepth 100000 in
theorem rsp_10 {p : Program} {e : Env} {sg : State} {mi : MethodId} {args : Array Value} {below : List Frame} {meth : Method} {c : Code} (C : gi_C p sg mi args meth c b_Mo_step 7 y_Mo_step.cls V) (hr : meth.sig.returnType = none) (B : Built k P sh (siN k P sh) (wdF k P)) (hmd : md ≤ 2) (hm : m < k) (hi : i < pN P 5 m) (hR : rdO (tyF P sh) (rdF md Ff Z)) (tl : ((rdF md Ff Z) (60 * m + i)).told = true) (HW : WW M k P sh md Ff κ h S0 J0 F0 G0 Z (pN P 2 m) ((rdF md Ff Z) (60 * m + i)).n ((rdF md Ff Z) (60 * m + i)).f S J F G y) (eo : (pN P 6 (60 * m + i)) = 10 ∨ (pN P 6 (60 * m + i)) = 11) : gi_G p l e { frames := 6, cells := 0, slots := 0, locals := 202 } sg mi args below meth c (MQ below (gi_Qc V (fun v n' h' => v = none ∧ n' = n ∧ ∃ κ, spP M k P sh md Ff κ h S0 J0 F0 G0 ((outs P (siN k P sh) (rdF md Ff Z) (60 * m + i)).foldl (comeM md (grF (wdF k P))) Z) h')) args sg 0 0 (fun q : Nat => V.2.2 ≤ q)) V 7 0 0 613 [(5, .int (nI (60 * m) + (P 7 (60 * m + i)))), (4, .int (nI (60 * m + i + 1))), (3, .int (P 7 (60 * m + i))), (2, .int (nI (pN P 6 (60 * m + i)))), (1, .int (nI (60 * m + i))), (0, .ref M)] [] n y := by
  have W := B.wf
  have w8 := W.k8
  have wm := wf_ar W hm
  obtain ⟨x, y0, hsx, x8, x2, GT, ll, o35, od, ey, nxi, jmi⟩ := stp_pre B hm hi hR.1 tl
  have okall := fun c hc => (outs_all B (p := 60 * m + i) (by omega) hR.1 tl c hc).1
  have gn := G_n GT
  have hloc : ∀ q, q < pN P 2 m → (((rdF md Ff Z) (60 * m + i)).f q).2 = -1 := fun q hq => (tyG_mk GT (show q < ((rdF md Ff Z) (60 * m + i)).n by omega)).2.2.2 hq
  have mkL : ∀ q, q < ((rdF md Ff Z) (60 * m + i)).n → (((rdF md Ff Z) (60 * m + i)).f q).2 = -1 ∨ ∃ j, j < pN P 2 m ∧ (((rdF md Ff Z) (60 * m + i)).f q).2 = nI j := fun q hq => mk_L GT hq
  have H := HW.1
  obtain ⟨fs, Ha, Hf⟩ := id H.1
  have ho := HW.2.1
  obtain ⟨f1, f2, f3, f4⟩ := HW.fb
  have o17 : (pN P 6 (60 * m + i)) ≤ 17 := by omega
  obtain ⟨q28, e28, -⟩ := Option.map_eq_some_iff.mp (show ((tkS false x).bind (tkS false)).map (ptS false) = some y0 by rw [← sh_ar (by omega) o17]; exact ey)
  obtain ⟨g2, X, Y, eX, eY, oX, oY⟩ := s_two ll GT e28
  have oc : outs P (siN k P sh) (rdF md Ff Z) (60 * m + i) = (match loseS Y 0 with | none => [] | some y2 => [(60 * m + i + 1, ((rdF md Ff Z) (60 * m + i)).n - 1, upF (tellF (((rdF md Ff Z) (60 * m + i)).n - 2) ((rdF md Ff Z) (60 * m + i)).f (((rdF md Ff Z) (60 * m + i)).f (((rdF md Ff Z) (60 * m + i)).n - 1)).2 (.inl y2)) (((rdF md Ff Z) (60 * m + i)).n - 2) (.inl (actS (pN P 6 (60 * m + i)) X y2), -1))]) := by
    unfold outs
    simp only
    repeat (first | rw [if_pos (by omega)] | rw [if_neg (by omega)])
    rw [eX, eY]
    rfl
  obtain ⟨hi1, hs1⟩ := nxi (by omega) (by omega)
  have y8 := (sh8 B hs1).1
  have hgd : ∀ y2, loseS Y 0 = some y2 → tyG P m y0 (((rdF md Ff Z) (60 * m + i)).n - 1) (upF (tellF (((rdF md Ff Z) (60 * m + i)).n - 2) ((rdF md Ff Z) (60 * m + i)).f (((rdF md Ff Z) (60 * m + i)).f (((rdF md Ff Z) (60 * m + i)).n - 1)).2 (.inl y2)) (((rdF md Ff Z) (60 * m + i)).n - 2) (.inl (actS (pN P 6 (60 * m + i)) X y2), -1)) := fun y2 e9 => ok_ty (show m < 8 by omega) (show i + 1 < 60 by omega) hs1 (okall _ (by rw [oc, e9]; exact List.mem_singleton.mpr rfl))
  refine gi_iload_n (q := 614) (i := 2) C (dm_Mo_step 249 rfl) rfl rfl rfl ?_
  refine gi_bipush (q := 616) (v := 18) C (dm_Mo_step 250 rfl) rfl (by decide) ?_
  refine gi_icmp_gt (q := 619) (tgt := 629) C (dm_Mo_step 251 rfl) rfl (by decide) (fun c616 => ?_) (fun c616 => ?_)
  · exact absurd c616 (Int32.not_lt.mpr (by rw [show (18 : Int32) = nI 18 from rfl]; exact nI_le (by omega) (by decide)))
  · refine gi_aload_n (q := 620) (i := 0) C (dm_Mo_step 252 rfl) rfl rfl rfl ?_
    refine gi_iload_n (q := 621) (i := 2) C (dm_Mo_step 253 rfl) rfl rfl rfl ?_
    refine gi_iload (q := 623) C (dm_Mo_step 254 rfl) rfl rfl ?_
    refine gi_callv 2 (q := 626) C (dm_Mo_step 255 rfl) rfl my_Mo_reckon lk_Mo_473 im_Mo_reckon rfl (ww_reckonD HW B hmd hm hi1 hs1 rfl eo g2 eY eX oX oY (mkL _ (by omega)) hloc hgd) Ha rfl rfl ⟨(Nat.le_of_ble_eq_true rfl), (Nat.le_of_ble_eq_true rfl)⟩ (Nat.le_of_ble_eq_true rfl) ⟨(Nat.le_of_ble_eq_true rfl), (Nat.le_of_ble_eq_true rfl)⟩ (fun r623 n623 h623 e623 => ?_)
    obtain ⟨rfl, rfl, sp1⟩ := e623
    refine gi_goto (tgt := 665) C (dm_Mo_step 256 rfl) (by decide) ?_
    refine gi_vret C hr (dm_Mo_step 279 rfl) ?_
    rw [oc]
    refine ⟨rfl, rfl, κ, ?_⟩
    cases e9 : loseS Y 0 with
    | none => rw [e9] at sp1; exact sp1
    | some y2 => rw [e9] at sp1; exact sp1
set_option maxHeartbeats 4000000 in
set_option maxRecDepth 100000 in
theorem rsp_19 {p : Program} {e : Env} {sg : State} {mi : MethodId} {args : Array Value} {below : List Frame} {meth : Method} {c : Code} (C : gi_C p sg mi args meth c b_Mo_step 7 y_Mo_step.cls V) (hr : meth.sig.returnType = none) (B : Built k P sh (siN k P sh) (wdF k P)) (hmd : md ≤ 2) (hm : m < k) (hi : i < pN P 5 m) (hR : rdO (tyF P sh) (rdF md Ff Z)) (tl : ((rdF md Ff Z) (60 * m + i)).told = true) (HW : WW M k P sh md Ff κ h S0 J0 F0 G0 Z (pN P 2 m) ((rdF md Ff Z) (60 * m + i)).n ((rdF md Ff Z) (60 * m + i)).f S J F G y) (eo : (pN P 6 (60 * m + i)) = 19) : gi_G p l e { frames := 6, cells := 0, slots := 0, locals := 202 } sg mi args below meth c (MQ below (gi_Qc V (fun v n' h' => v = none ∧ n' = n ∧ ∃ κ, spP M k P sh md Ff κ h S0 J0 F0 G0 ((outs P (siN k P sh) (rdF md Ff Z) (60 * m + i)).foldl (comeM md (grF (wdF k P))) Z) h')) args sg 0 0 (fun q : Nat => V.2.2 ≤ q)) V 7 0 0 423 [(5, .int (nI (60 * m) + (P 7 (60 * m + i)))), (4, .int (nI (60 * m + i + 1))), (3, .int (P 7 (60 * m + i))), (2, .int (nI (pN P 6 (60 * m + i)))), (1, .int (nI (60 * m + i))), (0, .ref M)] [] n y := by
  have W := B.wf
  have w8 := W.k8
  have wm := wf_ar W hm
  obtain ⟨x, y0, hsx, x8, x2, GT, ll, o35, od, ey, nxi, jmi⟩ := stp_pre B hm hi hR.1 tl
  have okall := fun c hc => (outs_all B (p := 60 * m + i) (by omega) hR.1 tl c hc).1
  have gn := G_n GT
  have hloc : ∀ q, q < pN P 2 m → (((rdF md Ff Z) (60 * m + i)).f q).2 = -1 := fun q hq => (tyG_mk GT (show q < ((rdF md Ff Z) (60 * m + i)).n by omega)).2.2.2 hq
  have mkL : ∀ q, q < ((rdF md Ff Z) (60 * m + i)).n → (((rdF md Ff Z) (60 * m + i)).f q).2 = -1 ∨ ∃ j, j < pN P 2 m ∧ (((rdF md Ff Z) (60 * m + i)).f q).2 = nI j := fun q hq => mk_L GT hq
  have H := HW.1
  obtain ⟨fs, Ha, Hf⟩ := id H.1
  have ho := HW.2.1
  obtain ⟨f1, f2, f3, f4⟩ := HW.fb
  have oc := outs_go (P := P) (sn := siN k P sh) (F := (rdF md Ff Z)) (p := (60 * m + i)) rfl (show i < 60 by omega) eo
  obtain ⟨ea, al, hsj⟩ := jmi (by omega) (by omega)
  have okN := okall _ (by rw [oc]; exact List.mem_singleton.mpr rfl)
  have tyN := ok_ty (y := y0) (show m < 8 by omega) (show (pN P 7 (60 * m + i)) < 60 by omega) hsj okN
  rw [ea, nI_add]
  refine gi_aload_n (q := 424) (i := 0) C (dm_Mo_step 149 rfl) rfl rfl rfl ?_
  refine gi_iload (q := 426) C (dm_Mo_step 150 rfl) rfl rfl ?_
  refine gi_callv 1 (q := 429) C (dm_Mo_step 151 rfl) rfl my_Mo_comeTo lk_Mo_434 im_Mo_comeTo rfl (ww_comeTo HW B hmd hm al hsj rfl tyN) Ha rfl rfl ⟨(Nat.le_of_ble_eq_true rfl), (Nat.le_of_ble_eq_true rfl)⟩ (Nat.le_of_ble_eq_true rfl) ⟨(Nat.le_of_ble_eq_true rfl), (Nat.le_of_ble_eq_true rfl)⟩ (fun r426 n426 h426 e426 => ?_)
  obtain ⟨rfl, rfl, S2, J2, F2, G2, HW2, fz2⟩ := e426
  have H := HW2.1
  obtain ⟨fs, Ha, Hf⟩ := id H.1
  have ho := HW2.2.1
  refine gi_goto (tgt := 665) C (dm_Mo_step 152 rfl) (by decide) ?_
  refine gi_vret C hr (dm_Mo_step 279 rfl) ?_
  rw [oc]
  exact ⟨rfl, rfl, _, HW2.end⟩
end RCF
