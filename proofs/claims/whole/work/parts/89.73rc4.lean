-- needs: 89.72
section RC4
variable {l : Launch} {V : gi_V} {n : Nat} {h h' : gi_H} {M k m i : Nat} {P : Pm} {x : Sh} {sh : Nat → Option Sh} {S S' : Nat → Int32} {J J' : Nat → Int64} {F F' : Nat → Nat → Int32} {G G' : Nat → Nat → Int64} {f g : Nat → Sl} {n0 : Nat} {r : Rw} {Post : Option Value → Nat → gi_H → Prop}
/-- only the cells of one place are others -/
def cellC (p : Nat) (F F' : Nat → Nat → Int32) (G G' : Nat → Nat → Int64) : Prop := (∀ a, a ≠ 35 → a ≠ 36 → a ≠ 37 → F' a = F a) ∧ (∀ a, a ≠ 32 → a ≠ 33 → a ≠ 34 → G' a = G a) ∧ ∀ q, (q < 14 * p ∨ 14 * p + 14 ≤ q) → cS F' G' q = cS F G q
theorem cellC.rf {p : Nat} : cellC p F F G G := ⟨fun _ _ _ _ => rfl, fun _ _ _ _ => rfl, fun _ _ => rfl⟩
theorem cellC.tr {p : Nat} {F2 : Nat → Nat → Int32} {G2 : Nat → Nat → Int64} (a : cellC p F F' G G') (b : cellC p F' F2 G' G2) : cellC p F F2 G G2 := ⟨fun j h1 h2 h3 => (b.1 j h1 h2 h3).trans (a.1 j h1 h2 h3), fun j h1 h2 h3 => (b.2.1 j h1 h2 h3).trans (a.2.1 j h1 h2 h3), fun q h => (b.2.2 q h).trans (a.2.2 q h)⟩
theorem cellC.up {p j : Nat} {d : Ce} (h1 : ∀ a, a ≠ 35 → a ≠ 36 → a ≠ 37 → F' a = F a) (h2 : ∀ a, a ≠ 32 → a ≠ 33 → a ≠ 34 → G' a = G a) (hj : j < 14) (e : cS F' G' = upO (cS F G) (14 * p + j) d) : cellC p F F' G G' := ⟨h1, h2, fun q hq => by rw [e, upO_ne (by omega)]⟩
def frJ (J J' : Nat → Int64) : Prop := ∀ j, j < 22 ∨ 24 < j → J' j = J j
theorem frJ.rf : frJ J J := fun _ _ => rfl
theorem frJ.tr {J2 : Nat → Int64} (a : frJ J J') (b : frJ J' J2) : frJ J J2 := fun j h => (b j h).trans (a j h)
/-- while a row is joined -/
def wrF (L : Nat) (far : Bool) (r : Rw) (g : Nat → Sl) (j : Nat) : Nat → Sl := fun i => if sl L i < j then joinSl far (r.f i) (g i) else r.f i
theorem wrF_0 {L : Nat} {far : Bool} : wrF L far r g 0 = r.f := by
  funext i
  unfold wrF
  rw [if_neg (by omega)]
theorem wrF_14 {L : Nat} {far : Bool} {c : Nat → Ce} (h6 : L ≤ 6) (h8 : n0 - L ≤ 8) (h : rwR L n0 (wrF L far r g 14) c) : rwR L n0 (fun i => joinSl far (r.f i) (g i)) c := fun i hi => by
  have z := h i hi
  unfold wrF at z
  rw [if_pos (sl_14 h6 h8 hi)] at z
  exact z
theorem wrF_up {L j i : Nat} {far : Bool} (h6 : L ≤ 6) (e : sl L i = j) : wrF L far r g (j + 1) = upF (wrF L far r g j) i (joinSl far (r.f i) (g i)) := by
  funext q
  unfold wrF upF
  by_cases z : q = i
  · rw [if_pos z, z, if_pos (by omega)]
  · rw [if_neg z]
    have ne : sl L q ≠ j := fun y => z (sl_inj h6 (y.trans e.symm))
    dsimp only
    by_cases y : sl L q < j
    · rw [if_pos y, if_pos (by omega)]
    · rw [if_neg y, if_neg (by omega)]
theorem wrF_at {L j i : Nat} {far : Bool} (e : sl L i = j) : wrF L far r g j i = r.f i := by
  unfold wrF
  rw [if_neg (by omega)]
theorem wrF_no {L j n1 : Nat} {far : Bool} {c : Nat → Ce} (h : rwR L n1 (wrF L far r g j) c) (ne : ∀ i, i < n1 → sl L i ≠ j) : rwR L n1 (wrF L far r g (j + 1)) c := fun i hi => by
  have z := h i hi
  have e : wrF L far r g (j + 1) i = wrF L far r g j i := by
    unfold wrF
    have := ne i hi
    by_cases y : sl L i < j
    · rw [if_pos y, if_pos (by omega)]
    · rw [if_neg y, if_neg (by omega)]
  rw [e]
  exact z
theorem nyb : vp_nar .byte (-1) = -1 := by decide +kernel
theorem rsJ {x : Sp} (h : rsI J x) : J 22 = eL x.1 ∧ J 23 = eL x.2.1 ∧ J 24 = eL x.2.2 := h
theorem mvP_both {a b : Sp} (ha : okS a) (hb : okS b) : mvP (bothS a b) a.1 a.2.1 := by
  have o := both_ok ha hb
  refine ⟨o, fun h => ?_⟩
  have z := fun q => o.z q
  have o4 := o.2.2.2.1
  have e1 : (bothS a b).1 = min a.1 b.1 := rfl
  have e2 : (bothS a b).2.1 = max a.2.1 b.2.1 := rfl
  have a2 := ha.2.1
  rcases Int.lt_or_eq_of_le o4 with q | q
  · exact q
  · have := z q.symm
    omega
set_option maxHeartbeats 4000000 in
set_option maxRecDepth 100000 in
theorem come_d {p : Program} {e : Env} {sg : State} {mi : MethodId} {args : Array Value} {below : List Frame} {meth : Method} {c : Code} (C : gi_C p sg mi args meth c b_Mo_comeTo 7 y_Mo_comeTo.cls V) (hr : meth.sig.returnType = none) (far : Bool) (W : wfP k P) (hm : m < k) (hi : i < pN P 5 m) (hP : prF P F) (x8 : x.1 ≤ 8) (e12 : F 12 (60 * m + i) = nI x.1) (e13 : F 13 (60 * m + i) = nI x.2) (hw : rwR (pN P 2 m) n0 g (cW F G)) (hg : tyG P m x n0 g) (hr' : rwR (pN P 2 m) r.n r.f (fun j => cS F G (14 * (60 * m + i) + j))) (hrt : tyG P m x r.n r.f) {y : gi_H} (H : mo_at M S J F G y) (ho : outM M h y) (K : ∀ J' F' G' y', mo_at M S J' F' G' y' → outM M h y' → frJ J J' → cellC (60 * m + i) F F' G G' → rwR (pN P 2 m) r.n (fun i => joinSl far (r.f i) (g i)) (fun j => cS F' G' (14 * (60 * m + i) + j)) → Post none n y') : gi_G p l e { frames := 3, cells := 0, slots := 0, locals := 68 } sg mi args below meth c (MQ below (gi_Qc V Post) args sg 0 0 (fun q : Nat => V.2.2 ≤ q)) V 7 0 0 481 [(4, .int (bI far)), (2, .int (nI (14 * (60 * m + i)))), (1, .int (nI (60 * m + i))), (0, .ref M)] [] n y := by
  have w8 := W.k8
  have wm := wf_ar W hm
  obtain ⟨fs, Ha, Hf⟩ := id H.1
  refine gi_iconst (q := 482) (v := 0) C (dm_Mo_comeTo 290 rfl) rfl (by decide) ?_
  refine gi_istore (q := 484) C (dm_Mo_comeTo 291 rfl) rfl (Nat.le_of_ble_eq_true rfl) ?_
  refine gi_while (σ := Nat) (fun j => 14 - j) (fun j => [(5, .int (nI j)), (4, .int (bI far)), (2, .int (nI (14 * (60 * m + i)))), (1, .int (nI (60 * m + i))), (0, .ref M)]) (fun _ => n) (fun _ => 0) (fun _ => 0) (fun j y' => j ≤ 14 ∧ ∃ J1 F1 G1, mo_at M S J1 F1 G1 y' ∧ outM M h y' ∧ frJ J J1 ∧ cellC (60 * m + i) F F1 G G1 ∧ rwR (pN P 2 m) r.n (wrF (pN P 2 m) far r g j) (fun j => cS F1 G1 (14 * (60 * m + i) + j))) 0 ⟨Nat.zero_le _, J, F, G, H, ho, frJ.rf, cellC.rf, by rw [wrF_0]; exact hr'⟩ ?_ (List.forall_mem_cons.mpr ⟨(by first | rfl | (simp [gi_look]; done)), List.forall_mem_cons.mpr ⟨(by first | rfl | (simp [gi_look]; done)), List.forall_mem_cons.mpr ⟨(by first | rfl | (simp [gi_look]; done)), List.forall_mem_cons.mpr ⟨(by first | rfl | (simp [gi_look]; done)), List.forall_mem_cons.mpr ⟨(by first | rfl | (simp [gi_look]; done)), fun _ h => absurd h List.not_mem_nil⟩⟩⟩⟩⟩) rfl rfl rfl
  rintro j y' ⟨hj, J1, F1, G1, H1, o1, q1, cc, hr1⟩ ihj
  try dsimp only at *
  have H := H1
  obtain ⟨fs, Ha, Hf⟩ := id H1.1
  have ho := o1
  have hP1 : prF P F1 := fun a h1 h2 => by rw [cc.1 a (by omega) (by omega) (by omega)]; exact hP a h1 h2
  have e12 : F1 12 (60 * m + i) = nI x.1 := by rw [cc.1 12 (by decide) (by decide) (by decide)]; exact e12
  have e13 : F1 13 (60 * m + i) = nI x.2 := by rw [cc.1 13 (by decide) (by decide) (by decide)]; exact e13
  refine gi_iload (q := 486) C (dm_Mo_comeTo 292 rfl) rfl rfl ?_
  refine gi_bipush (q := 488) (v := 14) C (dm_Mo_comeTo 293 rfl) rfl (by decide) ?_
  refine gi_icmp_ge (q := 491) (tgt := 709) C (dm_Mo_comeTo 294 rfl) rfl (by decide) (fun c488 => ?_) (fun c488 => ?_)
  · have jl : j = 14 := by
      rcases Nat.lt_or_ge j (14) with q | q
      · exact absurd c488 (Int32.not_le.mpr (nI_lt (b := 14) q (by omega)))
      · omega
    subst jl
    refine gi_vret C hr (dm_Mo_comeTo 413 rfl) ?_
    exact K _ _ _ _ H1 o1 q1 cc (wrF_14 (n0 := r.n) wm.2.1 (by have := G_n hrt; omega) hr1)
  · have jl : j < 14 := by
      rcases Nat.lt_or_ge j (14) with q | q
      · exact q
      · exact absurd (nI_le (a := 14) q (by omega)) c488
    refine gi_aload_n (q := 492) (i := 0) C (dm_Mo_comeTo 295 rfl) rfl rfl rfl ?_
    refine gi_iload_n (q := 493) (i := 1) C (dm_Mo_comeTo 296 rfl) rfl rfl rfl ?_
    refine gi_iload (q := 495) C (dm_Mo_comeTo 297 rfl) rfl rfl ?_
    refine gi_callv 2 (q := 498) C (dm_Mo_comeTo 298 rfl) rfl my_Mo_isSlot lk_Mo_404 im_Mo_isSlot rfl (c_Mo_isSlot (x := x) W hm hi hP1 jl x8 e12 H) Ha rfl rfl ⟨(Nat.le_of_ble_eq_true rfl), (Nat.le_of_ble_eq_true rfl)⟩ (Nat.le_of_ble_eq_true rfl) ⟨(Nat.le_of_ble_eq_true rfl), (Nat.le_of_ble_eq_true rfl)⟩ (fun r495 n495 h495 e495 => ?_)
    obtain ⟨rfl, q495, u495⟩ := e495
    rw [q495, u495]
    refine gi_if_eq (q := 501) (tgt := 703) C (dm_Mo_comeTo 299 rfl) rfl (by decide) (fun c498 => ?_) (fun c498 => ?_)
    · refine gi_iinc (q := 706) (v := 1) C (dm_Mo_comeTo 411 rfl) rfl rfl (by decide) (Nat.le_of_ble_eq_true rfl) ?_
      refine gi_goto (tgt := 484) C (dm_Mo_comeTo 412 rfl) (by decide) ?_
      refine gi_close (ihj (j + 1) _ ⟨jl, J1, F1, G1, H1, o1, q1, cc, wrF_no hr1 (fun i2 h2 e2 => by
          have z := sl_isS (P := P) (m := m) (x := x) (L := pN P 2 m) (i := i2) rfl wm.2.1 (by have := G_n hrt; omega)
          rw [e2, bI_fa c498] at z
          cases z)⟩ (by omega)) (List.forall_mem_cons.mpr ⟨(by first | rfl | (simp [gi_look, nI_1]; done)), List.forall_mem_cons.mpr ⟨(by first | rfl | (simp [gi_look, nI_1]; done)), List.forall_mem_cons.mpr ⟨(by first | rfl | (simp [gi_look, nI_1]; done)), List.forall_mem_cons.mpr ⟨(by first | rfl | (simp [gi_look, nI_1]; done)), List.forall_mem_cons.mpr ⟨(by first | rfl | (simp [gi_look, nI_1]; done)), fun _ h => absurd h List.not_mem_nil⟩⟩⟩⟩⟩) rfl rfl rfl
    · obtain ⟨v1, v2, v3, v4, v5⟩ := isS_inv (L := pN P 2 m) (x := x) rfl wm.2.1 (bI_t c498)
      obtain ⟨i', ei⟩ : ∃ i', i' = inv (pN P 2 m) j := ⟨_, rfl⟩
      rw [← ei] at v1 v2 v3 v4 v5
      have gn := G_n hg
      have rn := G_n hrt
      obtain ⟨w1, w2⟩ := hw i' (by omega)
      rw [v2] at w1 w2
      obtain ⟨s1, s2⟩ := hr1 i' (by omega)
      rw [wrF_at v2, v2] at s1
      rw [wrF_at v2, v2] at s2
      obtain ⟨g1, g2, g3, g4⟩ := tyG_mk hg (show i' < n0 by omega)
      obtain ⟨t1, t2, t3, t4⟩ := tyG_mk hrt (show i' < r.n by omega)
      refine gi_meet (σ := (Nat → Int64) × (Nat → Nat → Int32) × (Nat → Nat → Int64)) 671 (fun _ => [(6, .int (nI (14 * (60 * m + i) + j))), (5, .int (nI j)), (4, .int (bI far)), (2, .int (nI (14 * (60 * m + i)))), (1, .int (nI (60 * m + i))), (0, .ref M)]) (fun _ => []) (fun q y => mo_at M S q.1 q.2.1 q.2.2 y ∧ outM M h y ∧ frJ J q.1 ∧ (∀ a, a ≠ 35 → a ≠ 36 → a ≠ 37 → q.2.1 a = F1 a) ∧ (∀ a, a ≠ 32 → a ≠ 33 → a ≠ 34 → q.2.2 a = G1 a) ∧ ∃ d : Ce, cS q.2.1 q.2.2 = upO (cS F1 G1) (14 * (60 * m + i) + j) d ∧ ceA (joinSl far (r.f i') (g i')).1 d ∧ d.2.2.2.2.2 = F1 37 (14 * (60 * m + i) + j)) ?_ (fun hJ => ?_)
      · rintro ⟨J2, F2, G2⟩ y hI
        try dsimp only at hI
        obtain ⟨H2, o2, q2, f2, g2', d, cd, ad, md⟩ := hI
        obtain ⟨fs2, Ha2, Hf2⟩ := id H2.1
        have e57 : F2 57 j = F 57 j := by rw [f2 57 (by decide) (by decide) (by decide), cc.1 57 (by decide) (by decide) (by decide)]
        have d37 : F2 37 (14 * (60 * m + i) + j) = F1 37 (14 * (60 * m + i) + j) := by
          have z := congrFun cd (14 * (60 * m + i) + j)
          rw [upO_self] at z
          rw [← md, ← z]
          rfl
        have c2 : cellC (60 * m + i) F1 F2 G1 G2 := cellC.up f2 g2' jl cd
        refine gi_iload (q := 673) C (dm_Mo_comeTo 394 rfl) rfl rfl ?_
        refine gi_bipush (q := 675) (v := 6) C (dm_Mo_comeTo 395 rfl) rfl (by decide) ?_
        refine gi_icmp_lt (q := 678) (tgt := 703) C (dm_Mo_comeTo 396 rfl) rfl (by decide) (fun c675 => ?_) (fun c675 => ?_)
        · have j6 : j < 6 := by
            rw [show (6 : Int32) = nI 6 from rfl, nI_ltP (by omega) (by decide)] at c675
            omega
          refine gi_iinc (q := 706) (v := 1) C (dm_Mo_comeTo 411 rfl) rfl rfl (by decide) (Nat.le_of_ble_eq_true rfl) ?_
          refine gi_goto (tgt := 484) C (dm_Mo_comeTo 412 rfl) (by decide) ?_
          refine gi_close (ihj (j + 1) _ ⟨jl, J2, F2, G2, H2, o2, q2, cc.tr c2, by
              rw [wrF_up wm.2.1 v2]
              refine rw_up (d := d) hr1 wm.2.1 ?_ ad ?_
              · funext q
                rw [v2]
                unfold upO
                by_cases z : q = j
                · rw [if_pos z, z, cd, upO_self]
                · rw [if_neg z, cd, upO_ne (by omega)]
              · intro hL
                exact absurd hL (by have := v5 j6; omega)⟩ (by omega)) (List.forall_mem_cons.mpr ⟨(by first | rfl | (simp [gi_look, nI_1]; done)), List.forall_mem_cons.mpr ⟨(by first | rfl | (simp [gi_look, nI_1]; done)), List.forall_mem_cons.mpr ⟨(by first | rfl | (simp [gi_look, nI_1]; done)), List.forall_mem_cons.mpr ⟨(by first | rfl | (simp [gi_look, nI_1]; done)), List.forall_mem_cons.mpr ⟨(by first | rfl | (simp [gi_look, nI_1]; done)), fun _ h => absurd h List.not_mem_nil⟩⟩⟩⟩⟩) rfl rfl rfl
        · refine gi_aload_n (q := 679) (i := 0) C (dm_Mo_comeTo 397 rfl) rfl rfl rfl ?_
          refine gi_get (q := 682) C (dm_Mo_comeTo 398 rfl) rfl fl_Mo_76 Ha2 (mo_g37 Hf2) ?_
          refine gi_iload (q := 684) C (dm_Mo_comeTo 399 rfl) rfl rfl ?_
          refine gi_bald (q := 685) C (dm_Mo_comeTo 400 rfl) rfl rfl (mo_a37 H2) (inN (show 14 * (60 * m + i) + j < 13440 by omega) (by decide)) ?_
          rw [nI_clamp (show 14 * (60 * m + i) + j < 2 ^ 31 by omega)]
          refine gi_aload_n (q := 686) (i := 0) C (dm_Mo_comeTo 401 rfl) rfl rfl rfl ?_
          refine gi_get (q := 689) C (dm_Mo_comeTo 402 rfl) rfl fl_Mo_119 Ha2 (mo_g57 Hf2) ?_
          refine gi_iload (q := 691) C (dm_Mo_comeTo 403 rfl) rfl rfl ?_
          refine gi_iald (q := 692) C (dm_Mo_comeTo 404 rfl) rfl rfl (mo_a57 H2) (inN jl (by decide)) ?_
          rw [nI_clamp (show j < 2 ^ 31 by omega)]
          refine gi_icmp_eq (q := 695) (tgt := 703) C (dm_Mo_comeTo 405 rfl) rfl (by decide) (fun c692 => ?_) (fun c692 => ?_)
          · have j6 : 6 ≤ j := by
              rw [show (6 : Int32) = nI 6 from rfl, nI_ltP (by omega) (by decide)] at c675
              omega
            refine gi_iinc (q := 706) (v := 1) C (dm_Mo_comeTo 411 rfl) rfl rfl (by decide) (Nat.le_of_ble_eq_true rfl) ?_
            refine gi_goto (tgt := 484) C (dm_Mo_comeTo 412 rfl) (by decide) ?_
            refine gi_close (ihj (j + 1) _ ⟨jl, J2, F2, G2, H2, o2, q2, cc.tr c2, by
                rw [wrF_up wm.2.1 v2]
                refine rw_up (d := d) hr1 wm.2.1 ?_ ad ?_
                · funext q
                  rw [v2]
                  unfold upO
                  by_cases z : q = j
                  · rw [if_pos z, z, cd, upO_self]
                  · rw [if_neg z, cd, upO_ne (by omega)]
                · intro hL
                  rw [md]
                  show _ = joinM _ _
                  unfold joinM
                  rw [if_pos ((s2 hL).symm.trans (d37.symm.trans (c692.trans (e57.trans (w2 hL)))))]
                  exact s2 hL⟩ (by omega)) (List.forall_mem_cons.mpr ⟨(by first | rfl | (simp [gi_look, nI_1]; done)), List.forall_mem_cons.mpr ⟨(by first | rfl | (simp [gi_look, nI_1]; done)), List.forall_mem_cons.mpr ⟨(by first | rfl | (simp [gi_look, nI_1]; done)), List.forall_mem_cons.mpr ⟨(by first | rfl | (simp [gi_look, nI_1]; done)), List.forall_mem_cons.mpr ⟨(by first | rfl | (simp [gi_look, nI_1]; done)), fun _ h => absurd h List.not_mem_nil⟩⟩⟩⟩⟩) rfl rfl rfl
          · have H := H2
            have Ha := Ha2
            have Hf := Hf2
            have ho := o2
            refine gi_aload_n (q := 696) (i := 0) C (dm_Mo_comeTo 406 rfl) rfl rfl rfl ?_
            refine gi_get (q := 699) C (dm_Mo_comeTo 407 rfl) rfl fl_Mo_76 Ha2 (mo_g37 Hf2) ?_
            refine gi_iload (q := 701) C (dm_Mo_comeTo 408 rfl) rfl rfl ?_
            refine gi_iconst (q := 702) (v := -1) C (dm_Mo_comeTo 409 rfl) rfl (by decide) ?_
            refine gi_bast (q := 703) C (dm_Mo_comeTo 410 rfl) rfl rfl (mo_a37 H) (inN (show 14 * (60 * m + i) + j < 13440 by omega) (by decide)) ?_
            refine gi_genM (H.setI (p := 19) (k := 37) (by decide) rfl rfl (by decide) rfl (by omega)) (ho.up (by omega) (by omega)) (fun y H ho => ?_)
            obtain ⟨fs, Ha, Hf⟩ := id H.1
            have j6 : 6 ≤ j := by
              rw [show (6 : Int32) = nI 6 from rfl, nI_ltP (by omega) (by decide)] at c675
              omega
            rw [nI_clamp (show 14 * (60 * m + i) + j < 2 ^ 31 by omega), nyb] at H
            have c3 : cS (upA F2 37 (upd (F2 37) (14 * (60 * m + i) + j) (-1))) G2 = upO (cS F2 G2) (14 * (60 * m + i) + j) (d.1, d.2.1, d.2.2.1, d.2.2.2.1, d.2.2.2.2.1, -1) := by
              funext q
              unfold upO
              by_cases z : q = 14 * (60 * m + i) + j
              · rw [if_pos z, z]
                have y := congrFun cd (14 * (60 * m + i) + j)
                rw [upO_self] at y
                rw [← y]
                unfold cS
                rw [upA_i, upd_is, if_pos rfl, upA_n (by decide), upA_n (by decide)]
              · rw [if_neg z]
                unfold cS
                rw [upA_i, upd_is, if_neg z, upA_n (by decide), upA_n (by decide)]
            refine gi_iinc (q := 706) (v := 1) C (dm_Mo_comeTo 411 rfl) rfl rfl (by decide) (Nat.le_of_ble_eq_true rfl) ?_
            refine gi_goto (tgt := 484) C (dm_Mo_comeTo 412 rfl) (by decide) ?_
            refine gi_close (ihj (j + 1) _ ⟨jl, J2, _, _, H, ho, q2, (cc.tr c2).tr (cellC.up (j := j) (d := (d.1, d.2.1, d.2.2.1, d.2.2.2.1, d.2.2.2.2.1, -1)) (fun a h1 h2 h3 => upA_n h3) (fun _ _ _ _ => rfl) jl c3), by
                rw [wrF_up wm.2.1 v2]
                refine rw_up (d := (d.1, d.2.1, d.2.2.1, d.2.2.2.1, d.2.2.2.2.1, -1)) hr1 wm.2.1 ?_ (by cases hv : (joinSl far (r.f i') (g i')).1 <;> rw [hv] at ad <;> exact ad) ?_
                · funext q
                  rw [v2]
                  unfold upO
                  by_cases z : q = j
                  · rw [if_pos z, z, c3, upO_self]
                  · rw [if_neg z, c3, upO_ne (by omega), cd, upO_ne (by omega)]
                · intro hL
                  show -1 = joinM _ _
                  unfold joinM
                  rw [if_neg (fun z => c692 (d37.trans ((s2 hL).trans (z.trans ((w2 hL).symm.trans e57.symm)))))]⟩ (by omega)) (List.forall_mem_cons.mpr ⟨(by first | rfl | (simp [gi_look, nI_1]; done)), List.forall_mem_cons.mpr ⟨(by first | rfl | (simp [gi_look, nI_1]; done)), List.forall_mem_cons.mpr ⟨(by first | rfl | (simp [gi_look, nI_1]; done)), List.forall_mem_cons.mpr ⟨(by first | rfl | (simp [gi_look, nI_1]; done)), List.forall_mem_cons.mpr ⟨(by first | rfl | (simp [gi_look, nI_1]; done)), fun _ h => absurd h List.not_mem_nil⟩⟩⟩⟩⟩) rfl rfl rfl
      · refine gi_iload_n (q := 502) (i := 2) C (dm_Mo_comeTo 300 rfl) rfl rfl rfl ?_
        refine gi_iload (q := 504) C (dm_Mo_comeTo 301 rfl) rfl rfl ?_
        refine gi_iadd (q := 505) C (dm_Mo_comeTo 302 rfl) rfl ?_
        rw [nI_add]
        refine gi_istore (q := 507) C (dm_Mo_comeTo 303 rfl) rfl (Nat.le_of_ble_eq_true rfl) ?_
        refine gi_aload_n (q := 508) (i := 0) C (dm_Mo_comeTo 304 rfl) rfl rfl rfl ?_
        refine gi_iload_n (q := 509) (i := 1) C (dm_Mo_comeTo 305 rfl) rfl rfl rfl ?_
        refine gi_iload (q := 511) C (dm_Mo_comeTo 306 rfl) rfl rfl ?_
        refine gi_callv 2 (q := 514) C (dm_Mo_comeTo 307 rfl) rfl my_Mo_isArray lk_Mo_408 im_Mo_isArray rfl (c_Mo_isArray (x := x) W hm hi hP1 jl x8 e13 H) Ha rfl rfl ⟨(Nat.le_of_ble_eq_true rfl), (Nat.le_of_ble_eq_true rfl)⟩ (Nat.le_of_ble_eq_true rfl) ⟨(Nat.le_of_ble_eq_true rfl), (Nat.le_of_ble_eq_true rfl)⟩ (fun r511 n511 h511 e511 => ?_)
        obtain ⟨rfl, q511, u511⟩ := e511
        rw [q511, u511]
        refine gi_if_eq (q := 517) (tgt := 569) C (dm_Mo_comeTo 308 rfl) rfl (by decide) (fun c514 => ?_) (fun c514 => ?_)
        · obtain ⟨x1, eg⟩ : ∃ x1, (g i').1 = .inl x1 := ⟨_, ar_s (by rw [g2, ← v3]; exact bI_fa c514)⟩
          obtain ⟨x2, er⟩ : ∃ x2, (r.f i').1 = .inl x2 := ⟨_, ar_s (by rw [t2, ← v3]; exact bI_fa c514)⟩
          rw [eg] at w1 g1
          rw [er] at s1 t1
          
          have e52 : G1 52 = G 52 := cc.2.1 52 (by decide) (by decide) (by decide)
          have e53 : G1 53 = G 53 := cc.2.1 53 (by decide) (by decide) (by decide)
          have e54 : G1 54 = G 54 := cc.2.1 54 (by decide) (by decide) (by decide)
          have w52 : G1 52 j = eL x1.1 := by rw [e52]; exact w1.1
          have w53 : G1 53 j = eL x1.2.1 := by rw [e53]; exact w1.2.1
          have w54 : G1 54 j = eL x1.2.2 := by rw [e54]; exact w1.2.2
          have s32 : G1 32 (14 * (60 * m + i) + j) = eL x2.1 := s1.1
          have s33 : G1 33 (14 * (60 * m + i) + j) = eL x2.2.1 := s1.2.1
          have s34 : G1 34 (14 * (60 * m + i) + j) = eL x2.2.2 := s1.2.2
          have ok1 : okS x1 := g1
          have ok2 : okS x2 := t1
          have jn : (joinSl far (r.f i') (g i')).1 = .inl (if far = true then movS (bothS x2 x1) x2.1 x2.2.1 else bothS x2 x1) := by
            unfold joinSl
            rw [eg, er]
            cases far <;> rfl
          refine gi_aload_n (q := 570) (i := 0) C (dm_Mo_comeTo 338 rfl) rfl rfl rfl ?_
          refine gi_aload_n (q := 571) (i := 0) C (dm_Mo_comeTo 339 rfl) rfl rfl rfl ?_
          refine gi_get (q := 574) C (dm_Mo_comeTo 340 rfl) rfl fl_Mo_60 Ha (mo_g32 Hf) ?_
          refine gi_iload (q := 576) C (dm_Mo_comeTo 341 rfl) rfl rfl ?_
          refine gi_lald (q := 577) C (dm_Mo_comeTo 342 rfl) rfl rfl (mo_a32 H) (inN (show 14 * (60 * m + i) + j < 13440 by omega) (by decide)) ?_
          rw [nI_clamp (show 14 * (60 * m + i) + j < 2 ^ 31 by omega), s32]
          refine gi_aload_n (q := 578) (i := 0) C (dm_Mo_comeTo 343 rfl) rfl rfl rfl ?_
          refine gi_get (q := 581) C (dm_Mo_comeTo 344 rfl) rfl fl_Mo_64 Ha (mo_g33 Hf) ?_
          refine gi_iload (q := 583) C (dm_Mo_comeTo 345 rfl) rfl rfl ?_
          refine gi_lald (q := 584) C (dm_Mo_comeTo 346 rfl) rfl rfl (mo_a33 H) (inN (show 14 * (60 * m + i) + j < 13440 by omega) (by decide)) ?_
          rw [nI_clamp (show 14 * (60 * m + i) + j < 2 ^ 31 by omega), s33]
          refine gi_aload_n (q := 585) (i := 0) C (dm_Mo_comeTo 347 rfl) rfl rfl rfl ?_
          refine gi_get (q := 588) C (dm_Mo_comeTo 348 rfl) rfl fl_Mo_67 Ha (mo_g34 Hf) ?_
          refine gi_iload (q := 590) C (dm_Mo_comeTo 349 rfl) rfl rfl ?_
          refine gi_lald (q := 591) C (dm_Mo_comeTo 350 rfl) rfl rfl (mo_a34 H) (inN (show 14 * (60 * m + i) + j < 13440 by omega) (by decide)) ?_
          rw [nI_clamp (show 14 * (60 * m + i) + j < 2 ^ 31 by omega), s34]
          refine gi_aload_n (q := 592) (i := 0) C (dm_Mo_comeTo 351 rfl) rfl rfl rfl ?_
          refine gi_get (q := 595) C (dm_Mo_comeTo 352 rfl) rfl fl_Mo_104 Ha (mo_g52 Hf) ?_
          refine gi_iload (q := 597) C (dm_Mo_comeTo 353 rfl) rfl rfl ?_
          refine gi_lald (q := 598) C (dm_Mo_comeTo 354 rfl) rfl rfl (mo_a52 H) (inN jl (by decide)) ?_
          rw [nI_clamp (show j < 2 ^ 31 by omega), w52]
          refine gi_aload_n (q := 599) (i := 0) C (dm_Mo_comeTo 355 rfl) rfl rfl rfl ?_
          refine gi_get (q := 602) C (dm_Mo_comeTo 356 rfl) rfl fl_Mo_107 Ha (mo_g53 Hf) ?_
          refine gi_iload (q := 604) C (dm_Mo_comeTo 357 rfl) rfl rfl ?_
          refine gi_lald (q := 605) C (dm_Mo_comeTo 358 rfl) rfl rfl (mo_a53 H) (inN jl (by decide)) ?_
          rw [nI_clamp (show j < 2 ^ 31 by omega), w53]
          refine gi_aload_n (q := 606) (i := 0) C (dm_Mo_comeTo 359 rfl) rfl rfl rfl ?_
          refine gi_get (q := 609) C (dm_Mo_comeTo 360 rfl) rfl fl_Mo_110 Ha (mo_g54 Hf) ?_
          refine gi_iload (q := 611) C (dm_Mo_comeTo 361 rfl) rfl rfl ?_
          refine gi_lald (q := 612) C (dm_Mo_comeTo 362 rfl) rfl rfl (mo_a54 H) (inN jl (by decide)) ?_
          rw [nI_clamp (show j < 2 ^ 31 by omega), w54]
          refine gi_callv 6 (q := 615) C (dm_Mo_comeTo 363 rfl) rfl my_Mo_both lk_Mo_411 im_Mo_both rfl (c_Mo_both x2 x1 ok2 ok1 H) Ha rfl rfl ⟨(Nat.le_of_ble_eq_true rfl), (Nat.le_of_ble_eq_true rfl)⟩ (Nat.le_of_ble_eq_true rfl) ⟨(Nat.le_of_ble_eq_true rfl), (Nat.le_of_ble_eq_true rfl)⟩ (fun r612 n612 h612 e612 => ?_)
          obtain ⟨rfl, rfl, S2, J2, Hb, ob, ⟨qb, sb⟩, rb⟩ := e612
          subst sb
          have rb := rsJ rb
          have H := Hb
          obtain ⟨fs, Ha, Hf⟩ := id H.1
          have ho := o1.tr ob
          refine gi_iload (q := 617) C (dm_Mo_comeTo 364 rfl) rfl rfl ?_
          refine gi_if_eq (q := 620) (tgt := 638) C (dm_Mo_comeTo 365 rfl) rfl (by decide) (fun c617 => ?_) (fun c617 => ?_)
          · refine gi_aload_n (q := 639) (i := 0) C (dm_Mo_comeTo 376 rfl) rfl rfl rfl ?_
            refine gi_get (q := 642) C (dm_Mo_comeTo 377 rfl) rfl fl_Mo_60 Ha (mo_g32 Hf) ?_
            refine gi_iload (q := 644) C (dm_Mo_comeTo 378 rfl) rfl rfl ?_
            refine gi_aload_n (q := 645) (i := 0) C (dm_Mo_comeTo 379 rfl) rfl rfl rfl ?_
            refine gi_get (q := 648) C (dm_Mo_comeTo 380 rfl) rfl fl_Mo_242 Ha (mo_g22 Hf) ?_
            refine gi_last (q := 649) C (dm_Mo_comeTo 381 rfl) rfl rfl (mo_a32 H) (inN (show 14 * (60 * m + i) + j < 13440 by omega) (by decide)) ?_
            refine gi_genM (H.setJ (p := 14) (k := 32) (by decide) rfl rfl rfl (by omega)) (ho.up (by omega) (by omega)) (fun y H ho => ?_)
            obtain ⟨fs, Ha, Hf⟩ := id H.1
            refine gi_aload_n (q := 650) (i := 0) C (dm_Mo_comeTo 382 rfl) rfl rfl rfl ?_
            refine gi_get (q := 653) C (dm_Mo_comeTo 383 rfl) rfl fl_Mo_64 Ha (mo_g33 Hf) ?_
            refine gi_iload (q := 655) C (dm_Mo_comeTo 384 rfl) rfl rfl ?_
            refine gi_aload_n (q := 656) (i := 0) C (dm_Mo_comeTo 385 rfl) rfl rfl rfl ?_
            refine gi_get (q := 659) C (dm_Mo_comeTo 386 rfl) rfl fl_Mo_246 Ha (mo_g23 Hf) ?_
            refine gi_last (q := 660) C (dm_Mo_comeTo 387 rfl) rfl rfl (mo_a33 H) (inN (show 14 * (60 * m + i) + j < 13440 by omega) (by decide)) ?_
            refine gi_genM (H.setJ (p := 15) (k := 33) (by decide) rfl rfl rfl (by omega)) (ho.up (by omega) (by omega)) (fun y H ho => ?_)
            obtain ⟨fs, Ha, Hf⟩ := id H.1
            refine gi_aload_n (q := 661) (i := 0) C (dm_Mo_comeTo 388 rfl) rfl rfl rfl ?_
            refine gi_get (q := 664) C (dm_Mo_comeTo 389 rfl) rfl fl_Mo_67 Ha (mo_g34 Hf) ?_
            refine gi_iload (q := 666) C (dm_Mo_comeTo 390 rfl) rfl rfl ?_
            refine gi_aload_n (q := 667) (i := 0) C (dm_Mo_comeTo 391 rfl) rfl rfl rfl ?_
            refine gi_get (q := 670) C (dm_Mo_comeTo 392 rfl) rfl fl_Mo_249 Ha (mo_g24 Hf) ?_
            refine gi_last (q := 671) C (dm_Mo_comeTo 393 rfl) rfl rfl (mo_a34 H) (inN (show 14 * (60 * m + i) + j < 13440 by omega) (by decide)) ?_
            refine gi_genM (H.setJ (p := 16) (k := 34) (by decide) rfl rfl rfl (by omega)) (ho.up (by omega) (by omega)) (fun y H ho => ?_)
            obtain ⟨fs, Ha, Hf⟩ := id H.1
            rw [nI_clamp (show 14 * (60 * m + i) + j < 2 ^ 31 by omega)] at H
            have key : ∃ G3, mo_at M S2 J2 F1 G3 y ∧ (∀ a, a ≠ 32 → a ≠ 33 → a ≠ 34 → G3 a = G1 a) ∧ cS F1 G3 = upO (cS F1 G1) (14 * (60 * m + i) + j) (eL (bothS x2 x1).1, eL (bothS x2 x1).2.1, eL (bothS x2 x1).2.2, F1 35 (14 * (60 * m + i) + j), F1 36 (14 * (60 * m + i) + j), F1 37 (14 * (60 * m + i) + j)) := by
              refine ⟨_, H, fun a h1 h2 h3 => by simp [upA, h1, h2, h3], ?_⟩
              funext q
              by_cases z : q = 14 * (60 * m + i) + j
              · subst z
                simp [cS, upA, updJ_is, upO, rb.1, rb.2.1, rb.2.2]
              · simp [cS, upA, updJ_is, upO, z]
            obtain ⟨G3, H3, g3', c3⟩ := key
            refine gi_close (hJ (J2, F1, G3) _ ⟨H3, ho, q1.tr qb, fun _ _ _ _ => rfl, g3', _, c3, by rw [jn, if_neg (by rw [bI_fa c617]; decide)]; exact ⟨rfl, rfl, rfl⟩, rfl⟩) (List.forall_mem_cons.mpr ⟨rfl, List.forall_mem_cons.mpr ⟨rfl, List.forall_mem_cons.mpr ⟨rfl, List.forall_mem_cons.mpr ⟨rfl, List.forall_mem_cons.mpr ⟨rfl, List.forall_mem_cons.mpr ⟨rfl, fun _ h => absurd h List.not_mem_nil⟩⟩⟩⟩⟩⟩) rfl rfl rfl
          · refine gi_aload_n (q := 621) (i := 0) C (dm_Mo_comeTo 366 rfl) rfl rfl rfl ?_
            refine gi_aload_n (q := 622) (i := 0) C (dm_Mo_comeTo 367 rfl) rfl rfl rfl ?_
            refine gi_get (q := 625) C (dm_Mo_comeTo 368 rfl) rfl fl_Mo_60 Ha (mo_g32 Hf) ?_
            refine gi_iload (q := 627) C (dm_Mo_comeTo 369 rfl) rfl rfl ?_
            refine gi_lald (q := 628) C (dm_Mo_comeTo 370 rfl) rfl rfl (mo_a32 H) (inN (show 14 * (60 * m + i) + j < 13440 by omega) (by decide)) ?_
            rw [nI_clamp (show 14 * (60 * m + i) + j < 2 ^ 31 by omega), s32]
            refine gi_aload_n (q := 629) (i := 0) C (dm_Mo_comeTo 371 rfl) rfl rfl rfl ?_
            refine gi_get (q := 632) C (dm_Mo_comeTo 372 rfl) rfl fl_Mo_64 Ha (mo_g33 Hf) ?_
            refine gi_iload (q := 634) C (dm_Mo_comeTo 373 rfl) rfl rfl ?_
            refine gi_lald (q := 635) C (dm_Mo_comeTo 374 rfl) rfl rfl (mo_a33 H) (inN (show 14 * (60 * m + i) + j < 13440 by omega) (by decide)) ?_
            rw [nI_clamp (show 14 * (60 * m + i) + j < 2 ^ 31 by omega), s33]
            refine gi_callv 2 (q := 638) C (dm_Mo_comeTo 375 rfl) rfl my_Mo_moved lk_Mo_414 im_Mo_moved rfl (c_Mo_moved (bothS x2 x1) x2.1 x2.2.1 (by have := ok2.1; omega) (by have := ok2.2.1; have := ok2.2.2.1; omega) (by have := ok2.1; have := ok2.2.1; omega) (by have := ok2.2.2.1; omega) (mvP_both ok2 ok1) rb H) Ha rfl rfl ⟨(Nat.le_of_ble_eq_true rfl), (Nat.le_of_ble_eq_true rfl)⟩ (Nat.le_of_ble_eq_true rfl) ⟨(Nat.le_of_ble_eq_true rfl), (Nat.le_of_ble_eq_true rfl)⟩ (fun r635 n635 h635 e635 => ?_)
            obtain ⟨rfl, rfl, S3, J3, Hm, om, ⟨qm, sm'⟩, rm⟩ := e635
            subst sm'
            have rm := rsJ rm
            have H := Hm
            obtain ⟨fs, Ha, Hf⟩ := id H.1
            have ho := (o1.tr ob).tr om
            refine gi_aload_n (q := 639) (i := 0) C (dm_Mo_comeTo 376 rfl) rfl rfl rfl ?_
            refine gi_get (q := 642) C (dm_Mo_comeTo 377 rfl) rfl fl_Mo_60 Ha (mo_g32 Hf) ?_
            refine gi_iload (q := 644) C (dm_Mo_comeTo 378 rfl) rfl rfl ?_
            refine gi_aload_n (q := 645) (i := 0) C (dm_Mo_comeTo 379 rfl) rfl rfl rfl ?_
            refine gi_get (q := 648) C (dm_Mo_comeTo 380 rfl) rfl fl_Mo_242 Ha (mo_g22 Hf) ?_
            refine gi_last (q := 649) C (dm_Mo_comeTo 381 rfl) rfl rfl (mo_a32 H) (inN (show 14 * (60 * m + i) + j < 13440 by omega) (by decide)) ?_
            refine gi_genM (H.setJ (p := 14) (k := 32) (by decide) rfl rfl rfl (by omega)) (ho.up (by omega) (by omega)) (fun y H ho => ?_)
            obtain ⟨fs, Ha, Hf⟩ := id H.1
            refine gi_aload_n (q := 650) (i := 0) C (dm_Mo_comeTo 382 rfl) rfl rfl rfl ?_
            refine gi_get (q := 653) C (dm_Mo_comeTo 383 rfl) rfl fl_Mo_64 Ha (mo_g33 Hf) ?_
            refine gi_iload (q := 655) C (dm_Mo_comeTo 384 rfl) rfl rfl ?_
            refine gi_aload_n (q := 656) (i := 0) C (dm_Mo_comeTo 385 rfl) rfl rfl rfl ?_
            refine gi_get (q := 659) C (dm_Mo_comeTo 386 rfl) rfl fl_Mo_246 Ha (mo_g23 Hf) ?_
            refine gi_last (q := 660) C (dm_Mo_comeTo 387 rfl) rfl rfl (mo_a33 H) (inN (show 14 * (60 * m + i) + j < 13440 by omega) (by decide)) ?_
            refine gi_genM (H.setJ (p := 15) (k := 33) (by decide) rfl rfl rfl (by omega)) (ho.up (by omega) (by omega)) (fun y H ho => ?_)
            obtain ⟨fs, Ha, Hf⟩ := id H.1
            refine gi_aload_n (q := 661) (i := 0) C (dm_Mo_comeTo 388 rfl) rfl rfl rfl ?_
            refine gi_get (q := 664) C (dm_Mo_comeTo 389 rfl) rfl fl_Mo_67 Ha (mo_g34 Hf) ?_
            refine gi_iload (q := 666) C (dm_Mo_comeTo 390 rfl) rfl rfl ?_
            refine gi_aload_n (q := 667) (i := 0) C (dm_Mo_comeTo 391 rfl) rfl rfl rfl ?_
            refine gi_get (q := 670) C (dm_Mo_comeTo 392 rfl) rfl fl_Mo_249 Ha (mo_g24 Hf) ?_
            refine gi_last (q := 671) C (dm_Mo_comeTo 393 rfl) rfl rfl (mo_a34 H) (inN (show 14 * (60 * m + i) + j < 13440 by omega) (by decide)) ?_
            refine gi_genM (H.setJ (p := 16) (k := 34) (by decide) rfl rfl rfl (by omega)) (ho.up (by omega) (by omega)) (fun y H ho => ?_)
            obtain ⟨fs, Ha, Hf⟩ := id H.1
            rw [nI_clamp (show 14 * (60 * m + i) + j < 2 ^ 31 by omega)] at H
            have key : ∃ G3, mo_at M S3 J3 F1 G3 y ∧ (∀ a, a ≠ 32 → a ≠ 33 → a ≠ 34 → G3 a = G1 a) ∧ cS F1 G3 = upO (cS F1 G1) (14 * (60 * m + i) + j) (eL (movS (bothS x2 x1) x2.1 x2.2.1).1, eL (movS (bothS x2 x1) x2.1 x2.2.1).2.1, eL (movS (bothS x2 x1) x2.1 x2.2.1).2.2, F1 35 (14 * (60 * m + i) + j), F1 36 (14 * (60 * m + i) + j), F1 37 (14 * (60 * m + i) + j)) := by
              refine ⟨_, H, fun a h1 h2 h3 => by simp [upA, h1, h2, h3], ?_⟩
              funext q
              by_cases z : q = 14 * (60 * m + i) + j
              · subst z
                simp [cS, upA, updJ_is, upO, rm.1, rm.2.1, rm.2.2]
              · simp [cS, upA, updJ_is, upO, z]
            obtain ⟨G3, H3, g3', c3⟩ := key
            refine gi_close (hJ (J3, F1, G3) _ ⟨H3, ho, q1.tr (frJ.tr qb qm), fun _ _ _ _ => rfl, g3', _, c3, by rw [jn, if_pos (bI_t c617)]; exact ⟨rfl, rfl, rfl⟩, rfl⟩) (List.forall_mem_cons.mpr ⟨rfl, List.forall_mem_cons.mpr ⟨rfl, List.forall_mem_cons.mpr ⟨rfl, List.forall_mem_cons.mpr ⟨rfl, List.forall_mem_cons.mpr ⟨rfl, List.forall_mem_cons.mpr ⟨rfl, fun _ h => absurd h List.not_mem_nil⟩⟩⟩⟩⟩⟩) rfl rfl rfl
        · obtain ⟨b1, o1', eg⟩ : ∃ b o, (g i').1 = .inr (b, o) := ⟨_, _, ar_t (by rw [g2, ← v3]; exact bI_t c514)⟩
          obtain ⟨b2, o2', er⟩ : ∃ b o, (r.f i').1 = .inr (b, o) := ⟨_, _, ar_t (by rw [t2, ← v3]; exact bI_t c514)⟩
          rw [eg] at w1
          rw [er] at s1
          have e55 : F1 55 = F 55 := cc.1 55 (by decide) (by decide) (by decide)
          have e56 : F1 56 = F 56 := cc.1 56 (by decide) (by decide) (by decide)
          
          have w55 : F1 55 j = b1 := by rw [e55]; exact w1.1
          have w56 : F1 56 j = bI o1' := by rw [e56]; exact w1.2
          have s35 : F1 35 (14 * (60 * m + i) + j) = b2 := s1.1
          have s36 : F1 36 (14 * (60 * m + i) + j) = bI o2' := s1.2
          have jn : (joinSl far (r.f i') (g i')).1 = .inr (b2 ||| b1, o2' || o1') := by
            unfold joinSl
            rw [eg, er]
            cases far <;> rfl
          refine gi_aload_n (q := 518) (i := 0) C (dm_Mo_comeTo 309 rfl) rfl rfl rfl ?_
          refine gi_get (q := 521) C (dm_Mo_comeTo 310 rfl) rfl fl_Mo_70 Ha (mo_g35 Hf) ?_
          refine gi_iload (q := 523) C (dm_Mo_comeTo 311 rfl) rfl rfl ?_
          refine gi_dup2_11 (q := 524) C (dm_Mo_comeTo 312 rfl) rfl rfl rfl ?_
          refine gi_iald (q := 525) C (dm_Mo_comeTo 313 rfl) rfl rfl (mo_a35 H) (inN (show 14 * (60 * m + i) + j < 13440 by omega) (by decide)) ?_
          rw [nI_clamp (show 14 * (60 * m + i) + j < 2 ^ 31 by omega), s35]
          refine gi_aload_n (q := 526) (i := 0) C (dm_Mo_comeTo 314 rfl) rfl rfl rfl ?_
          refine gi_get (q := 529) C (dm_Mo_comeTo 315 rfl) rfl fl_Mo_113 Ha (mo_g55 Hf) ?_
          refine gi_iload (q := 531) C (dm_Mo_comeTo 316 rfl) rfl rfl ?_
          refine gi_iald (q := 532) C (dm_Mo_comeTo 317 rfl) rfl rfl (mo_a55 H) (inN jl (by decide)) ?_
          rw [nI_clamp (show j < 2 ^ 31 by omega), w55]
          refine gi_ior (q := 533) C (dm_Mo_comeTo 318 rfl) rfl ?_
          refine gi_iast (q := 534) C (dm_Mo_comeTo 319 rfl) rfl rfl (mo_a35 H) (inN (show 14 * (60 * m + i) + j < 13440 by omega) (by decide)) ?_
          refine gi_genM (H.setI (p := 17) (k := 35) (by decide) rfl rfl (by decide) rfl (by omega)) (ho.up (by omega) (by omega)) (fun y H ho => ?_)
          obtain ⟨fs, Ha, Hf⟩ := id H.1
          refine gi_aload_n (q := 535) (i := 0) C (dm_Mo_comeTo 320 rfl) rfl rfl rfl ?_
          refine gi_get (q := 538) C (dm_Mo_comeTo 321 rfl) rfl fl_Mo_73 Ha (mo_g36 Hf) ?_
          refine gi_iload (q := 540) C (dm_Mo_comeTo 322 rfl) rfl rfl ?_
          refine gi_aload_n (q := 541) (i := 0) C (dm_Mo_comeTo 323 rfl) rfl rfl rfl ?_
          refine gi_get (q := 544) C (dm_Mo_comeTo 324 rfl) rfl fl_Mo_73 Ha (mo_g36 Hf) ?_
          refine gi_iload (q := 546) C (dm_Mo_comeTo 325 rfl) rfl rfl ?_
          refine gi_zald (q := 547) C (dm_Mo_comeTo 326 rfl) rfl rfl (mo_a36 H) (inN (show 14 * (60 * m + i) + j < 13440 by omega) (by decide)) ?_
          rw [nI_clamp (show 14 * (60 * m + i) + j < 2 ^ 31 by omega), upA_n (by decide), s36]
          refine gi_if_ne (q := 550) (tgt := 560) C (dm_Mo_comeTo 327 rfl) rfl (by decide) (fun c547 => ?_) (fun c547 => ?_)
          · refine gi_iconst (q := 561) (v := 1) C (dm_Mo_comeTo 333 rfl) rfl (by decide) ?_
            refine gi_goto (tgt := 565) C (dm_Mo_comeTo 334 rfl) (by decide) ?_
            refine gi_zast (q := 566) C (dm_Mo_comeTo 336 rfl) rfl rfl (mo_a36 H) (inN (show 14 * (60 * m + i) + j < 13440 by omega) (by decide)) ?_
            refine gi_genM (H.setI (p := 18) (k := 36) (by decide) rfl rfl (by decide) rfl (by omega)) (ho.up (by omega) (by omega)) (fun y H ho => ?_)
            obtain ⟨fs, Ha, Hf⟩ := id H.1
            refine gi_goto (tgt := 671) C (dm_Mo_comeTo 337 rfl) (by decide) ?_
            rw [nI_clamp (show 14 * (60 * m + i) + j < 2 ^ 31 by omega)] at H
            rw [show vp_nar .boolean (1 : Int32) = bI (o2' || o1') from by first | (rw [show o2' = true from bI_t c547]; rfl) | (rw [show o1' = true from bI_t c557, Bool.or_true]; rfl)] at H
            have key : ∃ F3, mo_at M S J1 F3 G1 y ∧ (∀ a, a ≠ 35 → a ≠ 36 → a ≠ 37 → F3 a = F1 a) ∧ cS F3 G1 = upO (cS F1 G1) (14 * (60 * m + i) + j) (G1 32 (14 * (60 * m + i) + j), G1 33 (14 * (60 * m + i) + j), G1 34 (14 * (60 * m + i) + j), b2 ||| b1, bI (o2' || o1'), F1 37 (14 * (60 * m + i) + j)) := by
              refine ⟨_, H, fun a h1 h2 h3 => by simp [upA, h1, h2], ?_⟩
              funext q
              by_cases z : q = 14 * (60 * m + i) + j
              · subst z
                simp [cS, upA, upd_is, upO, s35, w55]
              · simp [cS, upA, upd_is, upO, z]
            obtain ⟨F3, H3, f3, c3⟩ := key
            refine gi_close (hJ (J1, F3, G1) _ ⟨H3, ho, q1, f3, fun _ _ _ _ => rfl, _, c3, by rw [jn]; exact ⟨rfl, rfl⟩, rfl⟩) (List.forall_mem_cons.mpr ⟨rfl, List.forall_mem_cons.mpr ⟨rfl, List.forall_mem_cons.mpr ⟨rfl, List.forall_mem_cons.mpr ⟨rfl, List.forall_mem_cons.mpr ⟨rfl, List.forall_mem_cons.mpr ⟨rfl, fun _ h => absurd h List.not_mem_nil⟩⟩⟩⟩⟩⟩) rfl rfl rfl
          · refine gi_aload_n (q := 551) (i := 0) C (dm_Mo_comeTo 328 rfl) rfl rfl rfl ?_
            refine gi_get (q := 554) C (dm_Mo_comeTo 329 rfl) rfl fl_Mo_116 Ha (mo_g56 Hf) ?_
            refine gi_iload (q := 556) C (dm_Mo_comeTo 330 rfl) rfl rfl ?_
            refine gi_zald (q := 557) C (dm_Mo_comeTo 331 rfl) rfl rfl (mo_a56 H) (inN jl (by decide)) ?_
            rw [nI_clamp (show j < 2 ^ 31 by omega), upA_n (by decide), w56]
            refine gi_if_eq (q := 560) (tgt := 564) C (dm_Mo_comeTo 332 rfl) rfl (by decide) (fun c557 => ?_) (fun c557 => ?_)
            · refine gi_iconst (q := 565) (v := 0) C (dm_Mo_comeTo 335 rfl) rfl (by decide) ?_
              refine gi_zast (q := 566) C (dm_Mo_comeTo 336 rfl) rfl rfl (mo_a36 H) (inN (show 14 * (60 * m + i) + j < 13440 by omega) (by decide)) ?_
              refine gi_genM (H.setI (p := 18) (k := 36) (by decide) rfl rfl (by decide) rfl (by omega)) (ho.up (by omega) (by omega)) (fun y H ho => ?_)
              obtain ⟨fs, Ha, Hf⟩ := id H.1
              refine gi_goto (tgt := 671) C (dm_Mo_comeTo 337 rfl) (by decide) ?_
              rw [nI_clamp (show 14 * (60 * m + i) + j < 2 ^ 31 by omega)] at H
              rw [show vp_nar .boolean (0 : Int32) = bI (o2' || o1') from by rw [show o2' = false from bI_fa c547, show o1' = false from bI_fa c557]; rfl] at H
              have key : ∃ F3, mo_at M S J1 F3 G1 y ∧ (∀ a, a ≠ 35 → a ≠ 36 → a ≠ 37 → F3 a = F1 a) ∧ cS F3 G1 = upO (cS F1 G1) (14 * (60 * m + i) + j) (G1 32 (14 * (60 * m + i) + j), G1 33 (14 * (60 * m + i) + j), G1 34 (14 * (60 * m + i) + j), b2 ||| b1, bI (o2' || o1'), F1 37 (14 * (60 * m + i) + j)) := by
                refine ⟨_, H, fun a h1 h2 h3 => by simp [upA, h1, h2], ?_⟩
                funext q
                by_cases z : q = 14 * (60 * m + i) + j
                · subst z
                  simp [cS, upA, upd_is, upO, s35, w55]
                · simp [cS, upA, upd_is, upO, z]
              obtain ⟨F3, H3, f3, c3⟩ := key
              refine gi_close (hJ (J1, F3, G1) _ ⟨H3, ho, q1, f3, fun _ _ _ _ => rfl, _, c3, by rw [jn]; exact ⟨rfl, rfl⟩, rfl⟩) (List.forall_mem_cons.mpr ⟨rfl, List.forall_mem_cons.mpr ⟨rfl, List.forall_mem_cons.mpr ⟨rfl, List.forall_mem_cons.mpr ⟨rfl, List.forall_mem_cons.mpr ⟨rfl, List.forall_mem_cons.mpr ⟨rfl, fun _ h => absurd h List.not_mem_nil⟩⟩⟩⟩⟩⟩) rfl rfl rfl
            · refine gi_iconst (q := 561) (v := 1) C (dm_Mo_comeTo 333 rfl) rfl (by decide) ?_
              refine gi_goto (tgt := 565) C (dm_Mo_comeTo 334 rfl) (by decide) ?_
              refine gi_zast (q := 566) C (dm_Mo_comeTo 336 rfl) rfl rfl (mo_a36 H) (inN (show 14 * (60 * m + i) + j < 13440 by omega) (by decide)) ?_
              refine gi_genM (H.setI (p := 18) (k := 36) (by decide) rfl rfl (by decide) rfl (by omega)) (ho.up (by omega) (by omega)) (fun y H ho => ?_)
              obtain ⟨fs, Ha, Hf⟩ := id H.1
              refine gi_goto (tgt := 671) C (dm_Mo_comeTo 337 rfl) (by decide) ?_
              rw [nI_clamp (show 14 * (60 * m + i) + j < 2 ^ 31 by omega)] at H
              rw [show vp_nar .boolean (1 : Int32) = bI (o2' || o1') from by first | (rw [show o2' = true from bI_t c547]; rfl) | (rw [show o1' = true from bI_t c557, Bool.or_true]; rfl)] at H
              have key : ∃ F3, mo_at M S J1 F3 G1 y ∧ (∀ a, a ≠ 35 → a ≠ 36 → a ≠ 37 → F3 a = F1 a) ∧ cS F3 G1 = upO (cS F1 G1) (14 * (60 * m + i) + j) (G1 32 (14 * (60 * m + i) + j), G1 33 (14 * (60 * m + i) + j), G1 34 (14 * (60 * m + i) + j), b2 ||| b1, bI (o2' || o1'), F1 37 (14 * (60 * m + i) + j)) := by
                refine ⟨_, H, fun a h1 h2 h3 => by simp [upA, h1, h2], ?_⟩
                funext q
                by_cases z : q = 14 * (60 * m + i) + j
                · subst z
                  simp [cS, upA, upd_is, upO, s35, w55]
                · simp [cS, upA, upd_is, upO, z]
              obtain ⟨F3, H3, f3, c3⟩ := key
              refine gi_close (hJ (J1, F3, G1) _ ⟨H3, ho, q1, f3, fun _ _ _ _ => rfl, _, c3, by rw [jn]; exact ⟨rfl, rfl⟩, rfl⟩) (List.forall_mem_cons.mpr ⟨rfl, List.forall_mem_cons.mpr ⟨rfl, List.forall_mem_cons.mpr ⟨rfl, List.forall_mem_cons.mpr ⟨rfl, List.forall_mem_cons.mpr ⟨rfl, List.forall_mem_cons.mpr ⟨rfl, fun _ h => absurd h List.not_mem_nil⟩⟩⟩⟩⟩⟩) rfl rfl rfl
end RC4
