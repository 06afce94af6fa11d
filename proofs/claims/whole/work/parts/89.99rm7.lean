-- needs: 89.99rm6
section RM7
variable {l : Launch} {V : gi_V} {n : Nat} {h h' : gi_H} {M k : Nat} {P : Pm} {sh : Nat → Option Sh} {S S' : Nat → Int32} {J J' : Nat → Int64} {F F' : Nat → Nat → Int32} {G : Nat → Nat → Int64} {Fz : Fa} {cb : Bool} {z : Mc} {x : Sh} {m p b : Nat} {r : Rw}
/-- whether a slot is told -/
def telJ (P : Pm) (m : Nat) (x : Sh) (r : Rw) (z : Mc) (j : Nat) : Bool := !isS P m x j || telV z.hp (r.f (inv (pN P 2 m) j)).1 (z.cur.s (inv (pN P 2 m) j))
def telA (P : Pm) (m : Nat) (x : Sh) (r : Rw) (z : Mc) (j : Nat) : Bool := (List.range j).all (telJ P m x r z)
theorem telA_s {j : Nat} : telA P m x r z (j + 1) = (telA P m x r z j && telJ P m x r z j) := by
  unfold telA
  rw [List.range_succ, List.all_append]
  simp
theorem telA_f {j d : Nat} (h : telA P m x r z j = false) : telA P m x r z (j + d) = false := by
  induction d with
  | zero => exact h
  | succ d ih => rw [← Nat.add_assoc, telA_s, ih]; rfl
theorem telA_R (h6 : pN P 2 m ≤ 6) (h8 : x.1 ≤ 8) (hn : z.cur.n = pN P 2 m + x.1) : telA P m x r z 14 = (List.range z.cur.n).all (fun j => telV z.hp (r.f j).1 (z.cur.s j)) := by
  have key : telA P m x r z 14 = true ↔ (List.range z.cur.n).all (fun j => telV z.hp (r.f j).1 (z.cur.s j)) = true := by
    unfold telA
    rw [List.all_eq_true, List.all_eq_true]
    constructor
    · intro q i hi
      have hi := List.mem_range.mp hi
      have t := q (sl (pN P 2 m) i) (List.mem_range.mpr (sl_14 (n := pN P 2 m + x.1) h6 (by omega) (by omega)))
      unfold telJ at t
      rw [sl_isS rfl h6 (by omega), inv_sl h6] at t
      simpa using t
    · intro q j hj
      unfold telJ
      cases e : isS P m x j with
      | false => rfl
      | true =>
        obtain ⟨h1, -⟩ := isS_inv rfl h6 e
        have t := q (inv (pN P 2 m) j) (List.mem_range.mpr (by omega))
        rw [t]
        rfl
  cases e : (List.range z.cur.n).all (fun j => telV z.hp (r.f j).1 (z.cur.s j)) with
  | true => exact key.mpr e
  | false =>
    cases e2 : telA P m x r z 14 with
    | false => rfl
    | true => rw [key.mp e2] at e; cases e
def lkV (Fz : Fa) (cb : Bool) (z : Mc) (b : Nat) (sx : Int32) : Int32 := if cb = true ∧ sx < 0 then (if tldZ Fz z = true then -1 else nI b) else sx
def luP (M : Nat) (v : Int32) (h : gi_H) (S : Nat → Int32) (J : Nat → Int64) (F : Nat → Nat → Int32) (G : Nat → Nat → Int64) (h' : gi_H) : Prop := ∃ S', mo_at M S' J F G h' ∧ outM M h h' ∧ (∀ j, j ≠ 87 → S' j = S j) ∧ S' 87 = v
theorem c_Mo_isSlotX {i j p : Nat} (ep : p = 60 * m + i) (W : wfP k P) (hm : m < k) (hi : i < pN P 5 m) (hP : prF P F) (hj : j < 14) (x8 : x.1 ≤ 8) (e12 : F 12 (60 * m + i) = nI x.1) (H : mo_at M S J F G h) : gi_T l V y_Mo_isSlot b_Mo_isSlot 3 (some .boolean) 0 0 0 0 [.ref M, .int (nI p), .int (nI j)] n h (gi_is (some (.int (bI (isS P m x j)))) n h) := by
  subst ep
  exact c_Mo_isSlot W hm hi hP hj x8 e12 H
theorem c_Mo_isArrayX {i j p : Nat} (ep : p = 60 * m + i) (W : wfP k P) (hm : m < k) (hi : i < pN P 5 m) (hP : prF P F) (hj : j < 14) (x8 : x.1 ≤ 8) (e13 : F 13 (60 * m + i) = nI x.2) (H : mo_at M S J F G h) : gi_T l V y_Mo_isArray b_Mo_isArray 3 (some .boolean) 1 22 0 0 [.ref M, .int (nI p), .int (nI j)] n h (gi_is (some (.int (bI (isA P m x j)))) n h) := by
  subst ep
  exact c_Mo_isArray W hm hi hP hj x8 e13 H
set_option maxHeartbeats 4000000 in
set_option maxRecDepth 100000 in
theorem c_Mo_look (B : Built k P sh (siN k P sh) (wdF k P)) (hpg : pgR k P sh S F) (T : TS k P sh z) (R : mcR P cb z S J F) (h84 : S 84 = nI (curP z)) (h83 : S 83 = nI b) (hc : ceX P sh cb Fz S F G) (H : mo_at M S J F G h) : gi_T l V y_Mo_look b_Mo_look 5 none 2 44 0 0 [.ref M] n h (fun r n' h' => r = none ∧ n' = n ∧ luP M (lkV Fz cb z b (S 87)) h S J F G h') := by
  refine gi_enter (by decide) (Nat.le_of_ble_eq_true rfl) ?_
  intro _ _ _ _ _ _ _ _ C hr hnm
  obtain ⟨fs, Ha, Hf⟩ := id H.1
  have ho : outM M h h := outM.rf
  have W := B.wf
  have hm := T.2.2.1.1
  have hi := T.2.2.1.2.1
  change z.cur.m < k at hm
  change z.cur.i < pN P 5 z.cur.m at hi
  have w8 := W.k8
  have wm := wf_ar W hm
  obtain ⟨x, y0, X, hx, x8, nn, l6, -, -, -, -, -, -, -⟩ := T.at_ B
  obtain ⟨p, ep⟩ : ∃ p, p = curP z := ⟨_, rfl⟩
  have epm : p = 60 * z.cur.m + z.cur.i := ep
  have p480 : p < 480 := by omega
  rw [← ep] at hx h84
  have hx' : sh (60 * z.cur.m + z.cur.i) = some x := by rw [← epm]; exact hx
  obtain ⟨e12, e13⟩ := pg_at hpg W hm hi hx'
  have ht := R.1
  have h81 := R.2.2.2.1
  have R0 : frX P z.top z.cur F := R.2.2.2.2.2.2.2.2.2.2 z.top (Nat.le_refl _)
  obtain ⟨p1, p2, p3, p4, p5, p6, p7⟩ := R0
  refine gi_aload_n (q := 1) (i := 0) C (dm_Mo_look 0 rfl) rfl rfl rfl ?_
  refine gi_get (q := 4) C (dm_Mo_look 1 rfl) rfl fl_Mo_183 Ha (mo_g9 Hf) ?_
  refine gi_if_eq (q := 7) (tgt := 14) C (dm_Mo_look 2 rfl) rfl (by decide) (fun c4 => ?_) (fun c4 => ?_)
  · refine gi_vret C hr (dm_Mo_look 6 rfl) ?_
    refine ⟨rfl, rfl, S, H, ho, fun _ _ => rfl, ?_⟩
    unfold lkV
    first
      | (rw [if_neg (fun q => by have z9 := q.1; rw [hc.1, z9] at c4; exact absurd c4 (by decide))]; done)
      | (rw [if_neg (fun q => c11 q.2)]; done)
  · refine gi_aload_n (q := 8) (i := 0) C (dm_Mo_look 3 rfl) rfl rfl rfl ?_
    refine gi_get (q := 11) C (dm_Mo_look 4 rfl) rfl fl_Mo_173 Ha (mo_g87 Hf) ?_
    refine gi_if_lt (q := 14) (tgt := 15) C (dm_Mo_look 5 rfl) rfl (by decide) (fun c11 => ?_) (fun c11 => ?_)
    · have cbt : cb = true := by
        cases cb with
        | true => rfl
        | false => exact absurd hc.1 c4
      subst cbt
      obtain ⟨h0, hF⟩ := hc.2 rfl
      have e88 := R.2.2.2.2.2.2.2.2.1 rfl
      obtain ⟨r31, rr⟩ := h0.1 p p480
      obtain ⟨ok0, eok⟩ : ∃ ok0, ok0 = ((Fz p).told && !z.as) := ⟨_, rfl⟩
      refine gi_aload_n (q := 16) (i := 0) C (dm_Mo_look 7 rfl) rfl rfl rfl ?_
      refine gi_get (q := 19) C (dm_Mo_look 8 rfl) rfl fl_Mo_57 Ha (mo_g31 Hf) ?_
      refine gi_aload_n (q := 20) (i := 0) C (dm_Mo_look 9 rfl) rfl rfl rfl ?_
      refine gi_get (q := 23) C (dm_Mo_look 10 rfl) rfl fl_Mo_573 Ha (mo_g84 Hf) ?_
      rw [h84]
      refine gi_zald (q := 24) C (dm_Mo_look 11 rfl) rfl rfl (mo_a31 H) (inN (show p < 960 by omega) (by decide)) ?_
      rw [nI_clamp (show p < 2 ^ 31 by omega), r31]
      refine gi_if_eq (q := 27) (tgt := 38) C (dm_Mo_look 12 rfl) rfl (by decide) (fun c24 => ?_) (fun c24 => ?_)
      · refine gi_iconst (q := 39) (v := 0) C (dm_Mo_look 18 rfl) rfl (by decide) ?_
        refine gi_istore_n (q := 40) (i := 1) C (dm_Mo_look 19 rfl) rfl rfl (Nat.le_of_ble_eq_true rfl) ?_
        refine gi_bipush (q := 42) (v := 14) C (dm_Mo_look 20 rfl) rfl (by decide) ?_
        refine gi_aload_n (q := 43) (i := 0) C (dm_Mo_look 21 rfl) rfl rfl rfl ?_
        refine gi_get (q := 46) C (dm_Mo_look 22 rfl) rfl fl_Mo_573 Ha (mo_g84 Hf) ?_
        rw [h84]
        refine gi_imul (q := 47) C (dm_Mo_look 23 rfl) rfl ?_
        rw [show (14 : Int32) = nI 14 from rfl, nI_ml]
        refine gi_istore_n (q := 48) (i := 2) C (dm_Mo_look 24 rfl) rfl rfl (Nat.le_of_ble_eq_true rfl) ?_
        have ev : ok0 = false := by
          rw [eok]
          first
            | (rw [bI_fa c24]; rfl)
            | (rw [bI_t c24, bI_t c31]; rfl)
        rw [show (0 : Int32) = bI (ok0 && telA P z.cur.m x (Fz p) z 0) from by rw [ev]; rfl]
        refine gi_iconst (q := 49) (v := 0) C (dm_Mo_look 25 rfl) rfl (by decide) ?_
        refine gi_istore_n (q := 50) (i := 3) C (dm_Mo_look 26 rfl) rfl rfl (Nat.le_of_ble_eq_true rfl) ?_
        have H9 := H
        refine gi_while (σ := Nat) (fun j => 14 - j) (fun j => [(3, .int (nI j)), (2, .int (nI (14 * p))), (1, .int (bI (ok0 && telA P z.cur.m x (Fz p) z j))), (0, .ref M)]) (fun _ => n) (fun _ => 0) (fun _ => 0) (fun j y' => j ≤ 14 ∧ h = y') 0 ⟨Nat.zero_le _, rfl⟩ ?_ (List.forall_mem_cons.mpr ⟨(by first | rfl | (simp [gi_look]; done)), List.forall_mem_cons.mpr ⟨(by first | rfl | (simp [gi_look]; done)), List.forall_mem_cons.mpr ⟨(by first | rfl | (simp [gi_look]; done)), List.forall_mem_cons.mpr ⟨(by first | rfl | (simp [gi_look]; done)), fun _ h => absurd h List.not_mem_nil⟩⟩⟩⟩) rfl rfl rfl
        rintro j y' ⟨hj, rfl⟩ ihj
        try dsimp only at *
        refine gi_iload_n (q := 51) (i := 3) C (dm_Mo_look 27 rfl) rfl rfl rfl ?_
        refine gi_bipush (q := 53) (v := 14) C (dm_Mo_look 28 rfl) rfl (by decide) ?_
        refine gi_icmp_ge (q := 56) (tgt := 182) C (dm_Mo_look 29 rfl) rfl (by decide) (fun c53 => ?_) (fun c53 => ?_)
        · have fin : tldZ Fz z = (ok0 && telA P z.cur.m x (Fz p) z j) := by
            have e14 : telA P z.cur.m x (Fz p) z 14 = (List.range z.cur.n).all (fun i => telV z.hp ((Fz p).f i).1 (z.cur.s i)) := telA_R l6 x8 nn
            have e0 : tldZ Fz z = (ok0 && telA P z.cur.m x (Fz p) z 14) := by
              unfold tldZ
              rw [e14, eok, ← ep]
              cases (Fz p).told <;> cases z.as <;> rfl
            rw [e0]
            first
              | (have jq : j = 14 := by
                   rcases Nat.lt_or_ge j 14 with q | q
                   exact absurd c53 (Int32.not_le.mpr (nI_lt (b := 14) q (by omega)))
                   omega
                 rw [jq])
              | (have f0 := bI_fa c57
                 rw [f0]
                 cases ho9 : ok0 with
                 | false => rfl
                 | true =>
                   rw [ho9, Bool.true_and] at f0
                   have q := telA_f (d := 14 - j) f0
                   rw [show j + (14 - j) = 14 by omega] at q
                   rw [q]
                   rfl)
          refine gi_aload_n (q := 183) (i := 0) C (dm_Mo_look 106 rfl) rfl rfl rfl ?_
          refine gi_iload_n (q := 184) (i := 1) C (dm_Mo_look 107 rfl) rfl rfl rfl ?_
          refine gi_if_eq (q := 187) (tgt := 191) C (dm_Mo_look 108 rfl) rfl (by decide) (fun c184 => ?_) (fun c184 => ?_)
          · refine gi_aload_n (q := 192) (i := 0) C (dm_Mo_look 111 rfl) rfl rfl rfl ?_
            refine gi_get (q := 195) C (dm_Mo_look 112 rfl) rfl fl_Mo_567 Ha (mo_g83 Hf) ?_
            skip
            refine gi_put (q := 198) C (dm_Mo_look 113 rfl) rfl fl_Mo_173 fp_Mo_87 Ha (by rw [Hf.1]; decide) rfl rfl ?_
            refine gi_genM (H.putI Ha Hf (by decide) rfl) (ho.up (by omega) (by omega)) (fun y H ho => ?_)
            obtain ⟨fs, Ha, Hf⟩ := id H.1
            refine gi_vret C hr (dm_Mo_look 114 rfl) ?_
            refine ⟨rfl, rfl, _, H, ho, fun a ha => by unfold upS; rw [if_neg ha], ?_⟩
            show upS S 87 _ 87 = _
            unfold upS lkV
            rw [if_pos rfl, if_pos ⟨rfl, c11⟩, fin]
            first
              | (rw [bI_fa c184, if_neg (by decide)]; exact h83)
              | (rw [if_pos (bI_t c184)]; done)
              | (rw [bI_fa c184, if_neg (by decide), ← h83]; done)
          · refine gi_iconst (q := 188) (v := -1) C (dm_Mo_look 109 rfl) rfl (by decide) ?_
            refine gi_goto (tgt := 195) C (dm_Mo_look 110 rfl) (by decide) ?_
            skip
            refine gi_put (q := 198) C (dm_Mo_look 113 rfl) rfl fl_Mo_173 fp_Mo_87 Ha (by rw [Hf.1]; decide) rfl rfl ?_
            refine gi_genM (H.putI Ha Hf (by decide) rfl) (ho.up (by omega) (by omega)) (fun y H ho => ?_)
            obtain ⟨fs, Ha, Hf⟩ := id H.1
            refine gi_vret C hr (dm_Mo_look 114 rfl) ?_
            refine ⟨rfl, rfl, _, H, ho, fun a ha => by unfold upS; rw [if_neg ha], ?_⟩
            show upS S 87 _ 87 = _
            unfold upS lkV
            rw [if_pos rfl, if_pos ⟨rfl, c11⟩, fin]
            first
              | (rw [bI_fa c184, if_neg (by decide)]; exact h83)
              | (rw [if_pos (bI_t c184)]; done)
              | (rw [bI_fa c184, if_neg (by decide), ← h83]; done)
        · have jl : j < 14 := by
            rcases Nat.lt_or_ge j (14) with q | q
            · exact q
            · exact absurd (nI_le (a := 14) q (by omega)) c53
          refine gi_iload_n (q := 57) (i := 1) C (dm_Mo_look 30 rfl) rfl rfl rfl ?_
          refine gi_if_eq (q := 60) (tgt := 182) C (dm_Mo_look 31 rfl) rfl (by decide) (fun c57 => ?_) (fun c57 => ?_)
          · have fin : tldZ Fz z = (ok0 && telA P z.cur.m x (Fz p) z j) := by
              have e14 : telA P z.cur.m x (Fz p) z 14 = (List.range z.cur.n).all (fun i => telV z.hp ((Fz p).f i).1 (z.cur.s i)) := telA_R l6 x8 nn
              have e0 : tldZ Fz z = (ok0 && telA P z.cur.m x (Fz p) z 14) := by
                unfold tldZ
                rw [e14, eok, ← ep]
                cases (Fz p).told <;> cases z.as <;> rfl
              rw [e0]
              first
                | (have jq : j = 14 := by
                     rcases Nat.lt_or_ge j 14 with q | q
                     exact absurd c53 (Int32.not_le.mpr (nI_lt (b := 14) q (by omega)))
                     omega
                   rw [jq])
                | (have f0 := bI_fa c57
                   rw [f0]
                   cases ho9 : ok0 with
                   | false => rfl
                   | true =>
                     rw [ho9, Bool.true_and] at f0
                     have q := telA_f (d := 14 - j) f0
                     rw [show j + (14 - j) = 14 by omega] at q
                     rw [q]
                     rfl)
            refine gi_aload_n (q := 183) (i := 0) C (dm_Mo_look 106 rfl) rfl rfl rfl ?_
            refine gi_iload_n (q := 184) (i := 1) C (dm_Mo_look 107 rfl) rfl rfl rfl ?_
            refine gi_if_eq (q := 187) (tgt := 191) C (dm_Mo_look 108 rfl) rfl (by decide) (fun c184 => ?_) (fun c184 => ?_)
            · refine gi_aload_n (q := 192) (i := 0) C (dm_Mo_look 111 rfl) rfl rfl rfl ?_
              refine gi_get (q := 195) C (dm_Mo_look 112 rfl) rfl fl_Mo_567 Ha (mo_g83 Hf) ?_
              skip
              refine gi_put (q := 198) C (dm_Mo_look 113 rfl) rfl fl_Mo_173 fp_Mo_87 Ha (by rw [Hf.1]; decide) rfl rfl ?_
              refine gi_genM (H.putI Ha Hf (by decide) rfl) (ho.up (by omega) (by omega)) (fun y H ho => ?_)
              obtain ⟨fs, Ha, Hf⟩ := id H.1
              refine gi_vret C hr (dm_Mo_look 114 rfl) ?_
              refine ⟨rfl, rfl, _, H, ho, fun a ha => by unfold upS; rw [if_neg ha], ?_⟩
              show upS S 87 _ 87 = _
              unfold upS lkV
              rw [if_pos rfl, if_pos ⟨rfl, c11⟩, fin]
              first
                | (rw [bI_fa c184, if_neg (by decide)]; exact h83)
                | (rw [if_pos (bI_t c184)]; done)
                | (rw [bI_fa c184, if_neg (by decide), ← h83]; done)
            · refine gi_iconst (q := 188) (v := -1) C (dm_Mo_look 109 rfl) rfl (by decide) ?_
              refine gi_goto (tgt := 195) C (dm_Mo_look 110 rfl) (by decide) ?_
              skip
              refine gi_put (q := 198) C (dm_Mo_look 113 rfl) rfl fl_Mo_173 fp_Mo_87 Ha (by rw [Hf.1]; decide) rfl rfl ?_
              refine gi_genM (H.putI Ha Hf (by decide) rfl) (ho.up (by omega) (by omega)) (fun y H ho => ?_)
              obtain ⟨fs, Ha, Hf⟩ := id H.1
              refine gi_vret C hr (dm_Mo_look 114 rfl) ?_
              refine ⟨rfl, rfl, _, H, ho, fun a ha => by unfold upS; rw [if_neg ha], ?_⟩
              show upS S 87 _ 87 = _
              unfold upS lkV
              rw [if_pos rfl, if_pos ⟨rfl, c11⟩, fin]
              first
                | (rw [bI_fa c184, if_neg (by decide)]; exact h83)
                | (rw [if_pos (bI_t c184)]; done)
                | (rw [bI_fa c184, if_neg (by decide), ← h83]; done)
          · have okT : ok0 = true ∧ telA P z.cur.m x (Fz p) z j = true := by
              have q := bI_t c57
              rw [Bool.and_eq_true] at q
              exact q
            have tl : (Fz p).told = true := by
              have q := okT.1
              rw [eok, Bool.and_eq_true] at q
              exact q.1
            obtain ⟨tn, tk⟩ := tell_ok B hF T (by rw [← ep]; exact tl)
            rw [← ep] at tn tk
            obtain ⟨-, -, rw0⟩ := rr tl
            rw [show p / 60 = z.cur.m by omega] at rw0
            have gty : tyG P z.cur.m x (Fz p).n (Fz p).f := by
              obtain ⟨m', i', x9, y9, k1, k2, k3, k4, k5, k6, k7, k8, k9, -⟩ := plc B p480 hF tl
              have em : m' = z.cur.m := by omega
              subst em
              rw [hx] at k6
              cases k6
              exact k9
            refine gi_aload_n (q := 61) (i := 0) C (dm_Mo_look 32 rfl) rfl rfl rfl ?_
            refine gi_aload_n (q := 62) (i := 0) C (dm_Mo_look 33 rfl) rfl rfl rfl ?_
            refine gi_get (q := 65) C (dm_Mo_look 34 rfl) rfl fl_Mo_573 Ha (mo_g84 Hf) ?_
            rw [h84]
            refine gi_iload_n (q := 66) (i := 3) C (dm_Mo_look 35 rfl) rfl rfl rfl ?_
            refine gi_callv 2 (q := 69) C (dm_Mo_look 36 rfl) rfl my_Mo_isSlot lk_Mo_404 im_Mo_isSlot rfl (c_Mo_isSlotX (x := x) epm W hm hi hpg.1 (show j < 14 by omega) x8 e12 H) Ha rfl rfl ⟨(Nat.le_of_ble_eq_true rfl), (Nat.le_of_ble_eq_true rfl)⟩ (Nat.le_of_ble_eq_true rfl) ⟨(Nat.le_of_ble_eq_true rfl), (Nat.le_of_ble_eq_true rfl)⟩ (fun r66 n66 h66 e66 => ?_)
            obtain ⟨rfl, q66, u66⟩ := e66
            rw [q66, u66]
            refine gi_if_eq (q := 72) (tgt := 176) C (dm_Mo_look 37 rfl) rfl (by decide) (fun c69 => ?_) (fun c69 => ?_)
            · have fl : (ok0 && telA P z.cur.m x (Fz p) z (j + 1)) = (ok0 && telA P z.cur.m x (Fz p) z j) := by
                rw [telA_s, show telJ P z.cur.m x (Fz p) z j = true from by unfold telJ; rw [bI_fa c69]; rfl, Bool.and_true]
              refine gi_iinc (q := 179) (v := 1) C (dm_Mo_look 104 rfl) rfl rfl (by decide) (Nat.le_of_ble_eq_true rfl) ?_
              refine gi_goto (tgt := 50) C (dm_Mo_look 105 rfl) (by decide) ?_
              refine gi_close (ihj (j + 1) _ ⟨jl, rfl⟩ (by omega)) (List.forall_mem_cons.mpr ⟨(by first | rfl | (simp [gi_look, nI_1]; done) | (rw [fl]; rfl)), List.forall_mem_cons.mpr ⟨(by first | rfl | (simp [gi_look, nI_1]; done) | (rw [fl]; rfl)), List.forall_mem_cons.mpr ⟨(by first | rfl | (simp [gi_look, nI_1]; done) | (rw [fl]; rfl)), List.forall_mem_cons.mpr ⟨(by first | rfl | (simp [gi_look, nI_1]; done) | (rw [fl]; rfl)), fun _ h => absurd h List.not_mem_nil⟩⟩⟩⟩) rfl rfl rfl
            · have iS := bI_t c69
              obtain ⟨v1, v2, v3, v4, v5⟩ := isS_inv (L := pN P 2 z.cur.m) (x := x) rfl l6 iS
              obtain ⟨q, eq⟩ : ∃ q, q = inv (pN P 2 z.cur.m) j := ⟨_, rfl⟩
              rw [← eq] at v1 v2 v3 v4 v5
              have qn : q < z.cur.n := by omega
              have sv := p7 q qn
              rw [v2] at sv
              obtain ⟨ce, -⟩ := rw0 q (by omega)
              rw [v2] at ce
              obtain ⟨av, ak, -, -⟩ := tyG_mk gty (show q < (Fz p).n by omega)
              have tj : telJ P z.cur.m x (Fz p) z j = telV z.hp ((Fz p).f q).1 (z.cur.s q) := by
                unfold telJ
                rw [iS, ← eq]
                rfl
              refine gi_aload_n (q := 73) (i := 0) C (dm_Mo_look 38 rfl) rfl rfl rfl ?_
              refine gi_get (q := 76) C (dm_Mo_look 39 rfl) rfl fl_Mo_164 Ha (mo_g78 Hf) ?_
              refine gi_aload_n (q := 77) (i := 0) C (dm_Mo_look 40 rfl) rfl rfl rfl ?_
              refine gi_iload_n (q := 78) (i := 3) C (dm_Mo_look 41 rfl) rfl rfl rfl ?_
              refine gi_callv 1 (q := 81) C (dm_Mo_look 42 rfl) rfl my_Mo_f lk_Mo_558 im_Mo_f rfl (c_Mo_f h81 ht (show j < 100 by omega) H) Ha rfl rfl ⟨(Nat.le_of_ble_eq_true rfl), (Nat.le_of_ble_eq_true rfl)⟩ (Nat.le_of_ble_eq_true rfl) ⟨(Nat.le_of_ble_eq_true rfl), (Nat.le_of_ble_eq_true rfl)⟩ (fun r78 n78 h78 e78 => ?_)
              obtain ⟨rfl, q78, u78⟩ := e78
              rw [q78, u78]
              refine gi_iald (q := 82) C (dm_Mo_look 43 rfl) rfl rfl (mo_a78 H) (inN (show 14 * z.top + j < 224 by omega) (by decide)) ?_
              rw [nI_clamp (show 14 * z.top + j < 2 ^ 31 by omega), sv]
              refine gi_istore (q := 84) C (dm_Mo_look 44 rfl) rfl (Nat.le_of_ble_eq_true rfl) ?_
              refine gi_aload_n (q := 85) (i := 0) C (dm_Mo_look 45 rfl) rfl rfl rfl ?_
              refine gi_aload_n (q := 86) (i := 0) C (dm_Mo_look 46 rfl) rfl rfl rfl ?_
              refine gi_get (q := 89) C (dm_Mo_look 47 rfl) rfl fl_Mo_573 Ha (mo_g84 Hf) ?_
              rw [h84]
              refine gi_iload_n (q := 90) (i := 3) C (dm_Mo_look 48 rfl) rfl rfl rfl ?_
              refine gi_callv 2 (q := 93) C (dm_Mo_look 49 rfl) rfl my_Mo_isArray lk_Mo_408 im_Mo_isArray rfl (c_Mo_isArrayX (x := x) epm W hm hi hpg.1 (show j < 14 by omega) x8 e13 H) Ha rfl rfl ⟨(Nat.le_of_ble_eq_true rfl), (Nat.le_of_ble_eq_true rfl)⟩ (Nat.le_of_ble_eq_true rfl) ⟨(Nat.le_of_ble_eq_true rfl), (Nat.le_of_ble_eq_true rfl)⟩ (fun r90 n90 h90 e90 => ?_)
              obtain ⟨rfl, q90, u90⟩ := e90
              rw [q90, u90]
              refine gi_if_eq (q := 96) (tgt := 145) C (dm_Mo_look 50 rfl) rfl (by decide) (fun c93 => ?_) (fun c93 => ?_)
              · obtain ⟨ys, ev⟩ : ∃ ys, ((Fz p).f q).1 = .inl ys := by
                  have ia := bI_fa c93
                  rw [v3, ← ak] at ia
                  cases e : ((Fz p).f q).1 with
                  | inl y => exact ⟨y, rfl⟩
                  | inr y => rw [e] at ia; cases y; cases ia
                rw [ev] at ce tj av
                obtain ⟨e32, e33, e34⟩ := ce
                change G 32 _ = _ at e32
                change G 33 _ = _ at e33
                change G 34 _ = _ at e34
                have vb := i32_b (z.cur.s q)
                
                refine gi_aload_n (q := 146) (i := 0) C (dm_Mo_look 82 rfl) rfl rfl rfl ?_
                refine gi_get (q := 149) C (dm_Mo_look 83 rfl) rfl fl_Mo_60 Ha (mo_g32 Hf) ?_
                refine gi_iload_n (q := 150) (i := 2) C (dm_Mo_look 84 rfl) rfl rfl rfl ?_
                refine gi_iload_n (q := 151) (i := 3) C (dm_Mo_look 85 rfl) rfl rfl rfl ?_
                refine gi_iadd (q := 152) C (dm_Mo_look 86 rfl) rfl ?_
                rw [nI_add]
                refine gi_lald (q := 153) C (dm_Mo_look 87 rfl) rfl rfl (mo_a32 H) (inN (show 14 * p + j < 13440 by omega) (by decide)) ?_
                rw [nI_clamp (show 14 * p + j < 2 ^ 31 by omega), e32]
                refine gi_aload_n (q := 154) (i := 0) C (dm_Mo_look 88 rfl) rfl rfl rfl ?_
                refine gi_get (q := 157) C (dm_Mo_look 89 rfl) rfl fl_Mo_64 Ha (mo_g33 Hf) ?_
                refine gi_iload_n (q := 158) (i := 2) C (dm_Mo_look 90 rfl) rfl rfl rfl ?_
                refine gi_iload_n (q := 159) (i := 3) C (dm_Mo_look 91 rfl) rfl rfl rfl ?_
                refine gi_iadd (q := 160) C (dm_Mo_look 92 rfl) rfl ?_
                rw [nI_add]
                refine gi_lald (q := 161) C (dm_Mo_look 93 rfl) rfl rfl (mo_a33 H) (inN (show 14 * p + j < 13440 by omega) (by decide)) ?_
                rw [nI_clamp (show 14 * p + j < 2 ^ 31 by omega), e33]
                refine gi_aload_n (q := 162) (i := 0) C (dm_Mo_look 94 rfl) rfl rfl rfl ?_
                refine gi_get (q := 165) C (dm_Mo_look 95 rfl) rfl fl_Mo_67 Ha (mo_g34 Hf) ?_
                refine gi_iload_n (q := 166) (i := 2) C (dm_Mo_look 96 rfl) rfl rfl rfl ?_
                refine gi_iload_n (q := 167) (i := 3) C (dm_Mo_look 97 rfl) rfl rfl rfl ?_
                refine gi_iadd (q := 168) C (dm_Mo_look 98 rfl) rfl ?_
                rw [nI_add]
                refine gi_lald (q := 169) C (dm_Mo_look 99 rfl) rfl rfl (mo_a34 H) (inN (show 14 * p + j < 13440 by omega) (by decide)) ?_
                rw [nI_clamp (show 14 * p + j < 2 ^ 31 by omega), e34]
                refine gi_iload (q := 171) C (dm_Mo_look 100 rfl) rfl rfl ?_
                refine gi_i2l (q := 172) C (dm_Mo_look 101 rfl) rfl ?_
                rw [i2l_eL]
                refine gi_calls 4 (q := 175) C (dm_Mo_look 102 rfl) rfl my_Mo_has lk_Mo_340 sm_Mo_has (c_Mo_has ys (z.cur.s q).toInt av (by omega) (by omega)) rfl rfl ⟨(Nat.le_of_ble_eq_true rfl), (Nat.le_of_ble_eq_true rfl)⟩ (Nat.le_of_ble_eq_true rfl) ⟨(Nat.le_of_ble_eq_true rfl), (Nat.le_of_ble_eq_true rfl)⟩ (fun r172 n172 h172 e172 => ?_)
                obtain ⟨rfl, q172, u172⟩ := e172
                rw [q172, u172]
                refine gi_istore_n (q := 176) (i := 1) C (dm_Mo_look 103 rfl) rfl rfl (Nat.le_of_ble_eq_true rfl) ?_
                have fl : (ok0 && telA P z.cur.m x (Fz p) z (j + 1)) = hasS ys (z.cur.s q).toInt := by
                  rw [telA_s, okT.1, okT.2, tj, Bool.true_and, Bool.true_and]
                  rfl
                refine gi_iinc (q := 179) (v := 1) C (dm_Mo_look 104 rfl) rfl rfl (by decide) (Nat.le_of_ble_eq_true rfl) ?_
                refine gi_goto (tgt := 50) C (dm_Mo_look 105 rfl) (by decide) ?_
                refine gi_close (ihj (j + 1) _ ⟨jl, rfl⟩ (by omega)) (List.forall_mem_cons.mpr ⟨(by first | rfl | (simp [gi_look, nI_1]; done) | (rw [fl]; rfl)), List.forall_mem_cons.mpr ⟨(by first | rfl | (simp [gi_look, nI_1]; done) | (rw [fl]; rfl)), List.forall_mem_cons.mpr ⟨(by first | rfl | (simp [gi_look, nI_1]; done) | (rw [fl]; rfl)), List.forall_mem_cons.mpr ⟨(by first | rfl | (simp [gi_look, nI_1]; done) | (rw [fl]; rfl)), fun _ h => absurd h List.not_mem_nil⟩⟩⟩⟩) rfl rfl rfl
              · obtain ⟨bt, on, ev⟩ : ∃ bt on, ((Fz p).f q).1 = .inr (bt, on) := by
                  have ia := bI_t c93
                  rw [v3, ← ak] at ia
                  cases e : ((Fz p).f q).1 with
                  | inl y => rw [e] at ia; cases ia
                  | inr y => exact ⟨y.1, y.2, rfl⟩
                rw [ev] at ce tj
                obtain ⟨e35, e36⟩ := ce
                change F 35 _ = _ at e35
                change F 36 _ = _ at e36
                obtain ⟨rr2, rc, er⟩ := (tk q qn).2 (by rw [ev]; rfl)
                have gs := R.2.1.2.2.2.1
                refine gi_iload (q := 98) C (dm_Mo_look 51 rfl) rfl rfl ?_
                refine gi_if_ne (q := 101) (tgt := 112) C (dm_Mo_look 52 rfl) rfl (by decide) (fun c98 => ?_) (fun c98 => ?_)
                · have r1 : 1 ≤ rr2 := by
                    rcases Nat.eq_zero_or_pos rr2 with e0 | e0
                    · exact absurd (by rw [er, e0]; rfl) c98
                    · exact e0
                  obtain ⟨-, -, g74⟩ := gs rr2 r1 rc
                  change _ = nI (z.hp.si rr2) at g74
                  have b1 := R.2.1.1.1
                  change z.hp.c ≤ 300 at b1
                  have b4 := (R.2.1.1.2.2 rr2 r1 rc).2
                  change z.hp.si rr2 < 25 at b4
                  refine gi_aload_n (q := 113) (i := 0) C (dm_Mo_look 60 rfl) rfl rfl rfl ?_
                  refine gi_get (q := 116) C (dm_Mo_look 61 rfl) rfl fl_Mo_70 Ha (mo_g35 Hf) ?_
                  refine gi_iload_n (q := 117) (i := 2) C (dm_Mo_look 62 rfl) rfl rfl rfl ?_
                  refine gi_iload_n (q := 118) (i := 3) C (dm_Mo_look 63 rfl) rfl rfl rfl ?_
                  refine gi_iadd (q := 119) C (dm_Mo_look 64 rfl) rfl ?_
                  rw [nI_add]
                  refine gi_iald (q := 120) C (dm_Mo_look 65 rfl) rfl rfl (mo_a35 H) (inN (show 14 * p + j < 13440 by omega) (by decide)) ?_
                  rw [nI_clamp (show 14 * p + j < 2 ^ 31 by omega), e35]
                  refine gi_aload_n (q := 121) (i := 0) C (dm_Mo_look 66 rfl) rfl rfl rfl ?_
                  refine gi_get (q := 124) C (dm_Mo_look 67 rfl) rfl fl_Mo_158 Ha (mo_g74 Hf) ?_
                  refine gi_iload (q := 126) C (dm_Mo_look 68 rfl) rfl rfl ?_
                  refine gi_iconst (q := 127) (v := 1) C (dm_Mo_look 69 rfl) rfl (by decide) ?_
                  refine gi_isub (q := 128) C (dm_Mo_look 70 rfl) rfl ?_
                  rw [er, show (1 : Int32) = nI 1 from rfl, nI_sb r1 (by omega)]
                  refine gi_iald (q := 129) C (dm_Mo_look 71 rfl) rfl rfl (mo_a74 H) (inN (show rr2 - 1 < 301 by omega) (by decide)) ?_
                  rw [nI_clamp (show rr2 - 1 < 2 ^ 31 by omega), g74]
                  refine gi_ishr (q := 130) C (dm_Mo_look 72 rfl) rfl ?_
                  refine gi_iconst (q := 131) (v := 1) C (dm_Mo_look 73 rfl) rfl (by decide) ?_
                  refine gi_iand (q := 132) C (dm_Mo_look 74 rfl) rfl ?_
                  refine gi_iconst (q := 133) (v := 1) C (dm_Mo_look 75 rfl) rfl (by decide) ?_
                  refine gi_icmp_ne (q := 136) (tgt := 140) C (dm_Mo_look 76 rfl) rfl (by decide) (fun c133 => ?_) (fun c133 => ?_)
                  · refine gi_iconst (q := 141) (v := 0) C (dm_Mo_look 79 rfl) rfl (by decide) ?_
                    refine gi_istore_n (q := 142) (i := 1) C (dm_Mo_look 80 rfl) rfl rfl (Nat.le_of_ble_eq_true rfl) ?_
                    refine gi_goto (tgt := 176) C (dm_Mo_look 81 rfl) (by decide) ?_
                    have fl : (ok0 && telA P z.cur.m x (Fz p) z (j + 1)) = false := by
                      rw [telA_s, okT.1, okT.2, tj, Bool.true_and, Bool.true_and]
                      unfold telV
                      dsimp only
                      rw [if_neg c98, er, nI_clamp (show rr2 < 2 ^ 31 by omega)]
                      cases e9 : bitA bt (z.hp.si rr2) with
                      | false => rfl
                      | true => exact absurd ((sh_bit bt (by omega)).mpr e9) c133
                    refine gi_iinc (q := 179) (v := 1) C (dm_Mo_look 104 rfl) rfl rfl (by decide) (Nat.le_of_ble_eq_true rfl) ?_
                    refine gi_goto (tgt := 50) C (dm_Mo_look 105 rfl) (by decide) ?_
                    refine gi_close (ihj (j + 1) _ ⟨jl, rfl⟩ (by omega)) (List.forall_mem_cons.mpr ⟨(by first | rfl | (simp [gi_look, nI_1]; done) | (rw [fl]; rfl)), List.forall_mem_cons.mpr ⟨(by first | rfl | (simp [gi_look, nI_1]; done) | (rw [fl]; rfl)), List.forall_mem_cons.mpr ⟨(by first | rfl | (simp [gi_look, nI_1]; done) | (rw [fl]; rfl)), List.forall_mem_cons.mpr ⟨(by first | rfl | (simp [gi_look, nI_1]; done) | (rw [fl]; rfl)), fun _ h => absurd h List.not_mem_nil⟩⟩⟩⟩) rfl rfl rfl
                  · refine gi_iconst (q := 137) (v := 1) C (dm_Mo_look 77 rfl) rfl (by decide) ?_
                    refine gi_goto (tgt := 141) C (dm_Mo_look 78 rfl) (by decide) ?_
                    refine gi_istore_n (q := 142) (i := 1) C (dm_Mo_look 80 rfl) rfl rfl (Nat.le_of_ble_eq_true rfl) ?_
                    refine gi_goto (tgt := 176) C (dm_Mo_look 81 rfl) (by decide) ?_
                    have fl : (ok0 && telA P z.cur.m x (Fz p) z (j + 1)) = true := by
                      rw [telA_s, okT.1, okT.2, tj, Bool.true_and, Bool.true_and]
                      unfold telV
                      dsimp only
                      rw [if_neg c98, er, nI_clamp (show rr2 < 2 ^ 31 by omega)]
                      exact (sh_bit bt (by omega)).mp c133
                    refine gi_iinc (q := 179) (v := 1) C (dm_Mo_look 104 rfl) rfl rfl (by decide) (Nat.le_of_ble_eq_true rfl) ?_
                    refine gi_goto (tgt := 50) C (dm_Mo_look 105 rfl) (by decide) ?_
                    refine gi_close (ihj (j + 1) _ ⟨jl, rfl⟩ (by omega)) (List.forall_mem_cons.mpr ⟨(by first | rfl | (simp [gi_look, nI_1]; done) | (rw [fl]; rfl)), List.forall_mem_cons.mpr ⟨(by first | rfl | (simp [gi_look, nI_1]; done) | (rw [fl]; rfl)), List.forall_mem_cons.mpr ⟨(by first | rfl | (simp [gi_look, nI_1]; done) | (rw [fl]; rfl)), List.forall_mem_cons.mpr ⟨(by first | rfl | (simp [gi_look, nI_1]; done) | (rw [fl]; rfl)), fun _ h => absurd h List.not_mem_nil⟩⟩⟩⟩) rfl rfl rfl
                · refine gi_aload_n (q := 102) (i := 0) C (dm_Mo_look 53 rfl) rfl rfl rfl ?_
                  refine gi_get (q := 105) C (dm_Mo_look 54 rfl) rfl fl_Mo_73 Ha (mo_g36 Hf) ?_
                  refine gi_iload_n (q := 106) (i := 2) C (dm_Mo_look 55 rfl) rfl rfl rfl ?_
                  refine gi_iload_n (q := 107) (i := 3) C (dm_Mo_look 56 rfl) rfl rfl rfl ?_
                  refine gi_iadd (q := 108) C (dm_Mo_look 57 rfl) rfl ?_
                  rw [nI_add]
                  refine gi_zald (q := 109) C (dm_Mo_look 58 rfl) rfl rfl (mo_a36 H) (inN (show 14 * p + j < 13440 by omega) (by decide)) ?_
                  rw [nI_clamp (show 14 * p + j < 2 ^ 31 by omega), e36]
                  refine gi_goto (tgt := 141) C (dm_Mo_look 59 rfl) (by decide) ?_
                  refine gi_istore_n (q := 142) (i := 1) C (dm_Mo_look 80 rfl) rfl rfl (Nat.le_of_ble_eq_true rfl) ?_
                  refine gi_goto (tgt := 176) C (dm_Mo_look 81 rfl) (by decide) ?_
                  have fl : (ok0 && telA P z.cur.m x (Fz p) z (j + 1)) = on := by
                    rw [telA_s, okT.1, okT.2, tj, Bool.true_and, Bool.true_and]
                    unfold telV
                    dsimp only
                    rw [if_pos c98]
                  refine gi_iinc (q := 179) (v := 1) C (dm_Mo_look 104 rfl) rfl rfl (by decide) (Nat.le_of_ble_eq_true rfl) ?_
                  refine gi_goto (tgt := 50) C (dm_Mo_look 105 rfl) (by decide) ?_
                  refine gi_close (ihj (j + 1) _ ⟨jl, rfl⟩ (by omega)) (List.forall_mem_cons.mpr ⟨(by first | rfl | (simp [gi_look, nI_1]; done) | (rw [fl]; rfl)), List.forall_mem_cons.mpr ⟨(by first | rfl | (simp [gi_look, nI_1]; done) | (rw [fl]; rfl)), List.forall_mem_cons.mpr ⟨(by first | rfl | (simp [gi_look, nI_1]; done) | (rw [fl]; rfl)), List.forall_mem_cons.mpr ⟨(by first | rfl | (simp [gi_look, nI_1]; done) | (rw [fl]; rfl)), fun _ h => absurd h List.not_mem_nil⟩⟩⟩⟩) rfl rfl rfl
      · refine gi_aload_n (q := 28) (i := 0) C (dm_Mo_look 13 rfl) rfl rfl rfl ?_
        refine gi_get (q := 31) C (dm_Mo_look 14 rfl) rfl fl_Mo_546 Ha (mo_g88 Hf) ?_
        rw [e88]
        refine gi_if_ne (q := 34) (tgt := 38) C (dm_Mo_look 15 rfl) rfl (by decide) (fun c31 => ?_) (fun c31 => ?_)
        · refine gi_iconst (q := 39) (v := 0) C (dm_Mo_look 18 rfl) rfl (by decide) ?_
          refine gi_istore_n (q := 40) (i := 1) C (dm_Mo_look 19 rfl) rfl rfl (Nat.le_of_ble_eq_true rfl) ?_
          refine gi_bipush (q := 42) (v := 14) C (dm_Mo_look 20 rfl) rfl (by decide) ?_
          refine gi_aload_n (q := 43) (i := 0) C (dm_Mo_look 21 rfl) rfl rfl rfl ?_
          refine gi_get (q := 46) C (dm_Mo_look 22 rfl) rfl fl_Mo_573 Ha (mo_g84 Hf) ?_
          rw [h84]
          refine gi_imul (q := 47) C (dm_Mo_look 23 rfl) rfl ?_
          rw [show (14 : Int32) = nI 14 from rfl, nI_ml]
          refine gi_istore_n (q := 48) (i := 2) C (dm_Mo_look 24 rfl) rfl rfl (Nat.le_of_ble_eq_true rfl) ?_
          have ev : ok0 = false := by
            rw [eok]
            first
              | (rw [bI_fa c24]; rfl)
              | (rw [bI_t c24, bI_t c31]; rfl)
          rw [show (0 : Int32) = bI (ok0 && telA P z.cur.m x (Fz p) z 0) from by rw [ev]; rfl]
          refine gi_iconst (q := 49) (v := 0) C (dm_Mo_look 25 rfl) rfl (by decide) ?_
          refine gi_istore_n (q := 50) (i := 3) C (dm_Mo_look 26 rfl) rfl rfl (Nat.le_of_ble_eq_true rfl) ?_
          have H9 := H
          refine gi_while (σ := Nat) (fun j => 14 - j) (fun j => [(3, .int (nI j)), (2, .int (nI (14 * p))), (1, .int (bI (ok0 && telA P z.cur.m x (Fz p) z j))), (0, .ref M)]) (fun _ => n) (fun _ => 0) (fun _ => 0) (fun j y' => j ≤ 14 ∧ h = y') 0 ⟨Nat.zero_le _, rfl⟩ ?_ (List.forall_mem_cons.mpr ⟨(by first | rfl | (simp [gi_look]; done)), List.forall_mem_cons.mpr ⟨(by first | rfl | (simp [gi_look]; done)), List.forall_mem_cons.mpr ⟨(by first | rfl | (simp [gi_look]; done)), List.forall_mem_cons.mpr ⟨(by first | rfl | (simp [gi_look]; done)), fun _ h => absurd h List.not_mem_nil⟩⟩⟩⟩) rfl rfl rfl
          rintro j y' ⟨hj, rfl⟩ ihj
          try dsimp only at *
          refine gi_iload_n (q := 51) (i := 3) C (dm_Mo_look 27 rfl) rfl rfl rfl ?_
          refine gi_bipush (q := 53) (v := 14) C (dm_Mo_look 28 rfl) rfl (by decide) ?_
          refine gi_icmp_ge (q := 56) (tgt := 182) C (dm_Mo_look 29 rfl) rfl (by decide) (fun c53 => ?_) (fun c53 => ?_)
          · have fin : tldZ Fz z = (ok0 && telA P z.cur.m x (Fz p) z j) := by
              have e14 : telA P z.cur.m x (Fz p) z 14 = (List.range z.cur.n).all (fun i => telV z.hp ((Fz p).f i).1 (z.cur.s i)) := telA_R l6 x8 nn
              have e0 : tldZ Fz z = (ok0 && telA P z.cur.m x (Fz p) z 14) := by
                unfold tldZ
                rw [e14, eok, ← ep]
                cases (Fz p).told <;> cases z.as <;> rfl
              rw [e0]
              first
                | (have jq : j = 14 := by
                     rcases Nat.lt_or_ge j 14 with q | q
                     exact absurd c53 (Int32.not_le.mpr (nI_lt (b := 14) q (by omega)))
                     omega
                   rw [jq])
                | (have f0 := bI_fa c57
                   rw [f0]
                   cases ho9 : ok0 with
                   | false => rfl
                   | true =>
                     rw [ho9, Bool.true_and] at f0
                     have q := telA_f (d := 14 - j) f0
                     rw [show j + (14 - j) = 14 by omega] at q
                     rw [q]
                     rfl)
            refine gi_aload_n (q := 183) (i := 0) C (dm_Mo_look 106 rfl) rfl rfl rfl ?_
            refine gi_iload_n (q := 184) (i := 1) C (dm_Mo_look 107 rfl) rfl rfl rfl ?_
            refine gi_if_eq (q := 187) (tgt := 191) C (dm_Mo_look 108 rfl) rfl (by decide) (fun c184 => ?_) (fun c184 => ?_)
            · refine gi_aload_n (q := 192) (i := 0) C (dm_Mo_look 111 rfl) rfl rfl rfl ?_
              refine gi_get (q := 195) C (dm_Mo_look 112 rfl) rfl fl_Mo_567 Ha (mo_g83 Hf) ?_
              skip
              refine gi_put (q := 198) C (dm_Mo_look 113 rfl) rfl fl_Mo_173 fp_Mo_87 Ha (by rw [Hf.1]; decide) rfl rfl ?_
              refine gi_genM (H.putI Ha Hf (by decide) rfl) (ho.up (by omega) (by omega)) (fun y H ho => ?_)
              obtain ⟨fs, Ha, Hf⟩ := id H.1
              refine gi_vret C hr (dm_Mo_look 114 rfl) ?_
              refine ⟨rfl, rfl, _, H, ho, fun a ha => by unfold upS; rw [if_neg ha], ?_⟩
              show upS S 87 _ 87 = _
              unfold upS lkV
              rw [if_pos rfl, if_pos ⟨rfl, c11⟩, fin]
              first
                | (rw [bI_fa c184, if_neg (by decide)]; exact h83)
                | (rw [if_pos (bI_t c184)]; done)
                | (rw [bI_fa c184, if_neg (by decide), ← h83]; done)
            · refine gi_iconst (q := 188) (v := -1) C (dm_Mo_look 109 rfl) rfl (by decide) ?_
              refine gi_goto (tgt := 195) C (dm_Mo_look 110 rfl) (by decide) ?_
              skip
              refine gi_put (q := 198) C (dm_Mo_look 113 rfl) rfl fl_Mo_173 fp_Mo_87 Ha (by rw [Hf.1]; decide) rfl rfl ?_
              refine gi_genM (H.putI Ha Hf (by decide) rfl) (ho.up (by omega) (by omega)) (fun y H ho => ?_)
              obtain ⟨fs, Ha, Hf⟩ := id H.1
              refine gi_vret C hr (dm_Mo_look 114 rfl) ?_
              refine ⟨rfl, rfl, _, H, ho, fun a ha => by unfold upS; rw [if_neg ha], ?_⟩
              show upS S 87 _ 87 = _
              unfold upS lkV
              rw [if_pos rfl, if_pos ⟨rfl, c11⟩, fin]
              first
                | (rw [bI_fa c184, if_neg (by decide)]; exact h83)
                | (rw [if_pos (bI_t c184)]; done)
                | (rw [bI_fa c184, if_neg (by decide), ← h83]; done)
          · have jl : j < 14 := by
              rcases Nat.lt_or_ge j (14) with q | q
              · exact q
              · exact absurd (nI_le (a := 14) q (by omega)) c53
            refine gi_iload_n (q := 57) (i := 1) C (dm_Mo_look 30 rfl) rfl rfl rfl ?_
            refine gi_if_eq (q := 60) (tgt := 182) C (dm_Mo_look 31 rfl) rfl (by decide) (fun c57 => ?_) (fun c57 => ?_)
            · have fin : tldZ Fz z = (ok0 && telA P z.cur.m x (Fz p) z j) := by
                have e14 : telA P z.cur.m x (Fz p) z 14 = (List.range z.cur.n).all (fun i => telV z.hp ((Fz p).f i).1 (z.cur.s i)) := telA_R l6 x8 nn
                have e0 : tldZ Fz z = (ok0 && telA P z.cur.m x (Fz p) z 14) := by
                  unfold tldZ
                  rw [e14, eok, ← ep]
                  cases (Fz p).told <;> cases z.as <;> rfl
                rw [e0]
                first
                  | (have jq : j = 14 := by
                       rcases Nat.lt_or_ge j 14 with q | q
                       exact absurd c53 (Int32.not_le.mpr (nI_lt (b := 14) q (by omega)))
                       omega
                     rw [jq])
                  | (have f0 := bI_fa c57
                     rw [f0]
                     cases ho9 : ok0 with
                     | false => rfl
                     | true =>
                       rw [ho9, Bool.true_and] at f0
                       have q := telA_f (d := 14 - j) f0
                       rw [show j + (14 - j) = 14 by omega] at q
                       rw [q]
                       rfl)
              refine gi_aload_n (q := 183) (i := 0) C (dm_Mo_look 106 rfl) rfl rfl rfl ?_
              refine gi_iload_n (q := 184) (i := 1) C (dm_Mo_look 107 rfl) rfl rfl rfl ?_
              refine gi_if_eq (q := 187) (tgt := 191) C (dm_Mo_look 108 rfl) rfl (by decide) (fun c184 => ?_) (fun c184 => ?_)
              · refine gi_aload_n (q := 192) (i := 0) C (dm_Mo_look 111 rfl) rfl rfl rfl ?_
                refine gi_get (q := 195) C (dm_Mo_look 112 rfl) rfl fl_Mo_567 Ha (mo_g83 Hf) ?_
                skip
                refine gi_put (q := 198) C (dm_Mo_look 113 rfl) rfl fl_Mo_173 fp_Mo_87 Ha (by rw [Hf.1]; decide) rfl rfl ?_
                refine gi_genM (H.putI Ha Hf (by decide) rfl) (ho.up (by omega) (by omega)) (fun y H ho => ?_)
                obtain ⟨fs, Ha, Hf⟩ := id H.1
                refine gi_vret C hr (dm_Mo_look 114 rfl) ?_
                refine ⟨rfl, rfl, _, H, ho, fun a ha => by unfold upS; rw [if_neg ha], ?_⟩
                show upS S 87 _ 87 = _
                unfold upS lkV
                rw [if_pos rfl, if_pos ⟨rfl, c11⟩, fin]
                first
                  | (rw [bI_fa c184, if_neg (by decide)]; exact h83)
                  | (rw [if_pos (bI_t c184)]; done)
                  | (rw [bI_fa c184, if_neg (by decide), ← h83]; done)
              · refine gi_iconst (q := 188) (v := -1) C (dm_Mo_look 109 rfl) rfl (by decide) ?_
                refine gi_goto (tgt := 195) C (dm_Mo_look 110 rfl) (by decide) ?_
                skip
                refine gi_put (q := 198) C (dm_Mo_look 113 rfl) rfl fl_Mo_173 fp_Mo_87 Ha (by rw [Hf.1]; decide) rfl rfl ?_
                refine gi_genM (H.putI Ha Hf (by decide) rfl) (ho.up (by omega) (by omega)) (fun y H ho => ?_)
                obtain ⟨fs, Ha, Hf⟩ := id H.1
                refine gi_vret C hr (dm_Mo_look 114 rfl) ?_
                refine ⟨rfl, rfl, _, H, ho, fun a ha => by unfold upS; rw [if_neg ha], ?_⟩
                show upS S 87 _ 87 = _
                unfold upS lkV
                rw [if_pos rfl, if_pos ⟨rfl, c11⟩, fin]
                first
                  | (rw [bI_fa c184, if_neg (by decide)]; exact h83)
                  | (rw [if_pos (bI_t c184)]; done)
                  | (rw [bI_fa c184, if_neg (by decide), ← h83]; done)
            · have okT : ok0 = true ∧ telA P z.cur.m x (Fz p) z j = true := by
                have q := bI_t c57
                rw [Bool.and_eq_true] at q
                exact q
              have tl : (Fz p).told = true := by
                have q := okT.1
                rw [eok, Bool.and_eq_true] at q
                exact q.1
              obtain ⟨tn, tk⟩ := tell_ok B hF T (by rw [← ep]; exact tl)
              rw [← ep] at tn tk
              obtain ⟨-, -, rw0⟩ := rr tl
              rw [show p / 60 = z.cur.m by omega] at rw0
              have gty : tyG P z.cur.m x (Fz p).n (Fz p).f := by
                obtain ⟨m', i', x9, y9, k1, k2, k3, k4, k5, k6, k7, k8, k9, -⟩ := plc B p480 hF tl
                have em : m' = z.cur.m := by omega
                subst em
                rw [hx] at k6
                cases k6
                exact k9
              refine gi_aload_n (q := 61) (i := 0) C (dm_Mo_look 32 rfl) rfl rfl rfl ?_
              refine gi_aload_n (q := 62) (i := 0) C (dm_Mo_look 33 rfl) rfl rfl rfl ?_
              refine gi_get (q := 65) C (dm_Mo_look 34 rfl) rfl fl_Mo_573 Ha (mo_g84 Hf) ?_
              rw [h84]
              refine gi_iload_n (q := 66) (i := 3) C (dm_Mo_look 35 rfl) rfl rfl rfl ?_
              refine gi_callv 2 (q := 69) C (dm_Mo_look 36 rfl) rfl my_Mo_isSlot lk_Mo_404 im_Mo_isSlot rfl (c_Mo_isSlotX (x := x) epm W hm hi hpg.1 (show j < 14 by omega) x8 e12 H) Ha rfl rfl ⟨(Nat.le_of_ble_eq_true rfl), (Nat.le_of_ble_eq_true rfl)⟩ (Nat.le_of_ble_eq_true rfl) ⟨(Nat.le_of_ble_eq_true rfl), (Nat.le_of_ble_eq_true rfl)⟩ (fun r66 n66 h66 e66 => ?_)
              obtain ⟨rfl, q66, u66⟩ := e66
              rw [q66, u66]
              refine gi_if_eq (q := 72) (tgt := 176) C (dm_Mo_look 37 rfl) rfl (by decide) (fun c69 => ?_) (fun c69 => ?_)
              · have fl : (ok0 && telA P z.cur.m x (Fz p) z (j + 1)) = (ok0 && telA P z.cur.m x (Fz p) z j) := by
                  rw [telA_s, show telJ P z.cur.m x (Fz p) z j = true from by unfold telJ; rw [bI_fa c69]; rfl, Bool.and_true]
                refine gi_iinc (q := 179) (v := 1) C (dm_Mo_look 104 rfl) rfl rfl (by decide) (Nat.le_of_ble_eq_true rfl) ?_
                refine gi_goto (tgt := 50) C (dm_Mo_look 105 rfl) (by decide) ?_
                refine gi_close (ihj (j + 1) _ ⟨jl, rfl⟩ (by omega)) (List.forall_mem_cons.mpr ⟨(by first | rfl | (simp [gi_look, nI_1]; done) | (rw [fl]; rfl)), List.forall_mem_cons.mpr ⟨(by first | rfl | (simp [gi_look, nI_1]; done) | (rw [fl]; rfl)), List.forall_mem_cons.mpr ⟨(by first | rfl | (simp [gi_look, nI_1]; done) | (rw [fl]; rfl)), List.forall_mem_cons.mpr ⟨(by first | rfl | (simp [gi_look, nI_1]; done) | (rw [fl]; rfl)), fun _ h => absurd h List.not_mem_nil⟩⟩⟩⟩) rfl rfl rfl
              · have iS := bI_t c69
                obtain ⟨v1, v2, v3, v4, v5⟩ := isS_inv (L := pN P 2 z.cur.m) (x := x) rfl l6 iS
                obtain ⟨q, eq⟩ : ∃ q, q = inv (pN P 2 z.cur.m) j := ⟨_, rfl⟩
                rw [← eq] at v1 v2 v3 v4 v5
                have qn : q < z.cur.n := by omega
                have sv := p7 q qn
                rw [v2] at sv
                obtain ⟨ce, -⟩ := rw0 q (by omega)
                rw [v2] at ce
                obtain ⟨av, ak, -, -⟩ := tyG_mk gty (show q < (Fz p).n by omega)
                have tj : telJ P z.cur.m x (Fz p) z j = telV z.hp ((Fz p).f q).1 (z.cur.s q) := by
                  unfold telJ
                  rw [iS, ← eq]
                  rfl
                refine gi_aload_n (q := 73) (i := 0) C (dm_Mo_look 38 rfl) rfl rfl rfl ?_
                refine gi_get (q := 76) C (dm_Mo_look 39 rfl) rfl fl_Mo_164 Ha (mo_g78 Hf) ?_
                refine gi_aload_n (q := 77) (i := 0) C (dm_Mo_look 40 rfl) rfl rfl rfl ?_
                refine gi_iload_n (q := 78) (i := 3) C (dm_Mo_look 41 rfl) rfl rfl rfl ?_
                refine gi_callv 1 (q := 81) C (dm_Mo_look 42 rfl) rfl my_Mo_f lk_Mo_558 im_Mo_f rfl (c_Mo_f h81 ht (show j < 100 by omega) H) Ha rfl rfl ⟨(Nat.le_of_ble_eq_true rfl), (Nat.le_of_ble_eq_true rfl)⟩ (Nat.le_of_ble_eq_true rfl) ⟨(Nat.le_of_ble_eq_true rfl), (Nat.le_of_ble_eq_true rfl)⟩ (fun r78 n78 h78 e78 => ?_)
                obtain ⟨rfl, q78, u78⟩ := e78
                rw [q78, u78]
                refine gi_iald (q := 82) C (dm_Mo_look 43 rfl) rfl rfl (mo_a78 H) (inN (show 14 * z.top + j < 224 by omega) (by decide)) ?_
                rw [nI_clamp (show 14 * z.top + j < 2 ^ 31 by omega), sv]
                refine gi_istore (q := 84) C (dm_Mo_look 44 rfl) rfl (Nat.le_of_ble_eq_true rfl) ?_
                refine gi_aload_n (q := 85) (i := 0) C (dm_Mo_look 45 rfl) rfl rfl rfl ?_
                refine gi_aload_n (q := 86) (i := 0) C (dm_Mo_look 46 rfl) rfl rfl rfl ?_
                refine gi_get (q := 89) C (dm_Mo_look 47 rfl) rfl fl_Mo_573 Ha (mo_g84 Hf) ?_
                rw [h84]
                refine gi_iload_n (q := 90) (i := 3) C (dm_Mo_look 48 rfl) rfl rfl rfl ?_
                refine gi_callv 2 (q := 93) C (dm_Mo_look 49 rfl) rfl my_Mo_isArray lk_Mo_408 im_Mo_isArray rfl (c_Mo_isArrayX (x := x) epm W hm hi hpg.1 (show j < 14 by omega) x8 e13 H) Ha rfl rfl ⟨(Nat.le_of_ble_eq_true rfl), (Nat.le_of_ble_eq_true rfl)⟩ (Nat.le_of_ble_eq_true rfl) ⟨(Nat.le_of_ble_eq_true rfl), (Nat.le_of_ble_eq_true rfl)⟩ (fun r90 n90 h90 e90 => ?_)
                obtain ⟨rfl, q90, u90⟩ := e90
                rw [q90, u90]
                refine gi_if_eq (q := 96) (tgt := 145) C (dm_Mo_look 50 rfl) rfl (by decide) (fun c93 => ?_) (fun c93 => ?_)
                · obtain ⟨ys, ev⟩ : ∃ ys, ((Fz p).f q).1 = .inl ys := by
                    have ia := bI_fa c93
                    rw [v3, ← ak] at ia
                    cases e : ((Fz p).f q).1 with
                    | inl y => exact ⟨y, rfl⟩
                    | inr y => rw [e] at ia; cases y; cases ia
                  rw [ev] at ce tj av
                  obtain ⟨e32, e33, e34⟩ := ce
                  change G 32 _ = _ at e32
                  change G 33 _ = _ at e33
                  change G 34 _ = _ at e34
                  have vb := i32_b (z.cur.s q)
                  
                  refine gi_aload_n (q := 146) (i := 0) C (dm_Mo_look 82 rfl) rfl rfl rfl ?_
                  refine gi_get (q := 149) C (dm_Mo_look 83 rfl) rfl fl_Mo_60 Ha (mo_g32 Hf) ?_
                  refine gi_iload_n (q := 150) (i := 2) C (dm_Mo_look 84 rfl) rfl rfl rfl ?_
                  refine gi_iload_n (q := 151) (i := 3) C (dm_Mo_look 85 rfl) rfl rfl rfl ?_
                  refine gi_iadd (q := 152) C (dm_Mo_look 86 rfl) rfl ?_
                  rw [nI_add]
                  refine gi_lald (q := 153) C (dm_Mo_look 87 rfl) rfl rfl (mo_a32 H) (inN (show 14 * p + j < 13440 by omega) (by decide)) ?_
                  rw [nI_clamp (show 14 * p + j < 2 ^ 31 by omega), e32]
                  refine gi_aload_n (q := 154) (i := 0) C (dm_Mo_look 88 rfl) rfl rfl rfl ?_
                  refine gi_get (q := 157) C (dm_Mo_look 89 rfl) rfl fl_Mo_64 Ha (mo_g33 Hf) ?_
                  refine gi_iload_n (q := 158) (i := 2) C (dm_Mo_look 90 rfl) rfl rfl rfl ?_
                  refine gi_iload_n (q := 159) (i := 3) C (dm_Mo_look 91 rfl) rfl rfl rfl ?_
                  refine gi_iadd (q := 160) C (dm_Mo_look 92 rfl) rfl ?_
                  rw [nI_add]
                  refine gi_lald (q := 161) C (dm_Mo_look 93 rfl) rfl rfl (mo_a33 H) (inN (show 14 * p + j < 13440 by omega) (by decide)) ?_
                  rw [nI_clamp (show 14 * p + j < 2 ^ 31 by omega), e33]
                  refine gi_aload_n (q := 162) (i := 0) C (dm_Mo_look 94 rfl) rfl rfl rfl ?_
                  refine gi_get (q := 165) C (dm_Mo_look 95 rfl) rfl fl_Mo_67 Ha (mo_g34 Hf) ?_
                  refine gi_iload_n (q := 166) (i := 2) C (dm_Mo_look 96 rfl) rfl rfl rfl ?_
                  refine gi_iload_n (q := 167) (i := 3) C (dm_Mo_look 97 rfl) rfl rfl rfl ?_
                  refine gi_iadd (q := 168) C (dm_Mo_look 98 rfl) rfl ?_
                  rw [nI_add]
                  refine gi_lald (q := 169) C (dm_Mo_look 99 rfl) rfl rfl (mo_a34 H) (inN (show 14 * p + j < 13440 by omega) (by decide)) ?_
                  rw [nI_clamp (show 14 * p + j < 2 ^ 31 by omega), e34]
                  refine gi_iload (q := 171) C (dm_Mo_look 100 rfl) rfl rfl ?_
                  refine gi_i2l (q := 172) C (dm_Mo_look 101 rfl) rfl ?_
                  rw [i2l_eL]
                  refine gi_calls 4 (q := 175) C (dm_Mo_look 102 rfl) rfl my_Mo_has lk_Mo_340 sm_Mo_has (c_Mo_has ys (z.cur.s q).toInt av (by omega) (by omega)) rfl rfl ⟨(Nat.le_of_ble_eq_true rfl), (Nat.le_of_ble_eq_true rfl)⟩ (Nat.le_of_ble_eq_true rfl) ⟨(Nat.le_of_ble_eq_true rfl), (Nat.le_of_ble_eq_true rfl)⟩ (fun r172 n172 h172 e172 => ?_)
                  obtain ⟨rfl, q172, u172⟩ := e172
                  rw [q172, u172]
                  refine gi_istore_n (q := 176) (i := 1) C (dm_Mo_look 103 rfl) rfl rfl (Nat.le_of_ble_eq_true rfl) ?_
                  have fl : (ok0 && telA P z.cur.m x (Fz p) z (j + 1)) = hasS ys (z.cur.s q).toInt := by
                    rw [telA_s, okT.1, okT.2, tj, Bool.true_and, Bool.true_and]
                    rfl
                  refine gi_iinc (q := 179) (v := 1) C (dm_Mo_look 104 rfl) rfl rfl (by decide) (Nat.le_of_ble_eq_true rfl) ?_
                  refine gi_goto (tgt := 50) C (dm_Mo_look 105 rfl) (by decide) ?_
                  refine gi_close (ihj (j + 1) _ ⟨jl, rfl⟩ (by omega)) (List.forall_mem_cons.mpr ⟨(by first | rfl | (simp [gi_look, nI_1]; done) | (rw [fl]; rfl)), List.forall_mem_cons.mpr ⟨(by first | rfl | (simp [gi_look, nI_1]; done) | (rw [fl]; rfl)), List.forall_mem_cons.mpr ⟨(by first | rfl | (simp [gi_look, nI_1]; done) | (rw [fl]; rfl)), List.forall_mem_cons.mpr ⟨(by first | rfl | (simp [gi_look, nI_1]; done) | (rw [fl]; rfl)), fun _ h => absurd h List.not_mem_nil⟩⟩⟩⟩) rfl rfl rfl
                · obtain ⟨bt, on, ev⟩ : ∃ bt on, ((Fz p).f q).1 = .inr (bt, on) := by
                    have ia := bI_t c93
                    rw [v3, ← ak] at ia
                    cases e : ((Fz p).f q).1 with
                    | inl y => rw [e] at ia; cases ia
                    | inr y => exact ⟨y.1, y.2, rfl⟩
                  rw [ev] at ce tj
                  obtain ⟨e35, e36⟩ := ce
                  change F 35 _ = _ at e35
                  change F 36 _ = _ at e36
                  obtain ⟨rr2, rc, er⟩ := (tk q qn).2 (by rw [ev]; rfl)
                  have gs := R.2.1.2.2.2.1
                  refine gi_iload (q := 98) C (dm_Mo_look 51 rfl) rfl rfl ?_
                  refine gi_if_ne (q := 101) (tgt := 112) C (dm_Mo_look 52 rfl) rfl (by decide) (fun c98 => ?_) (fun c98 => ?_)
                  · have r1 : 1 ≤ rr2 := by
                      rcases Nat.eq_zero_or_pos rr2 with e0 | e0
                      · exact absurd (by rw [er, e0]; rfl) c98
                      · exact e0
                    obtain ⟨-, -, g74⟩ := gs rr2 r1 rc
                    change _ = nI (z.hp.si rr2) at g74
                    have b1 := R.2.1.1.1
                    change z.hp.c ≤ 300 at b1
                    have b4 := (R.2.1.1.2.2 rr2 r1 rc).2
                    change z.hp.si rr2 < 25 at b4
                    refine gi_aload_n (q := 113) (i := 0) C (dm_Mo_look 60 rfl) rfl rfl rfl ?_
                    refine gi_get (q := 116) C (dm_Mo_look 61 rfl) rfl fl_Mo_70 Ha (mo_g35 Hf) ?_
                    refine gi_iload_n (q := 117) (i := 2) C (dm_Mo_look 62 rfl) rfl rfl rfl ?_
                    refine gi_iload_n (q := 118) (i := 3) C (dm_Mo_look 63 rfl) rfl rfl rfl ?_
                    refine gi_iadd (q := 119) C (dm_Mo_look 64 rfl) rfl ?_
                    rw [nI_add]
                    refine gi_iald (q := 120) C (dm_Mo_look 65 rfl) rfl rfl (mo_a35 H) (inN (show 14 * p + j < 13440 by omega) (by decide)) ?_
                    rw [nI_clamp (show 14 * p + j < 2 ^ 31 by omega), e35]
                    refine gi_aload_n (q := 121) (i := 0) C (dm_Mo_look 66 rfl) rfl rfl rfl ?_
                    refine gi_get (q := 124) C (dm_Mo_look 67 rfl) rfl fl_Mo_158 Ha (mo_g74 Hf) ?_
                    refine gi_iload (q := 126) C (dm_Mo_look 68 rfl) rfl rfl ?_
                    refine gi_iconst (q := 127) (v := 1) C (dm_Mo_look 69 rfl) rfl (by decide) ?_
                    refine gi_isub (q := 128) C (dm_Mo_look 70 rfl) rfl ?_
                    rw [er, show (1 : Int32) = nI 1 from rfl, nI_sb r1 (by omega)]
                    refine gi_iald (q := 129) C (dm_Mo_look 71 rfl) rfl rfl (mo_a74 H) (inN (show rr2 - 1 < 301 by omega) (by decide)) ?_
                    rw [nI_clamp (show rr2 - 1 < 2 ^ 31 by omega), g74]
                    refine gi_ishr (q := 130) C (dm_Mo_look 72 rfl) rfl ?_
                    refine gi_iconst (q := 131) (v := 1) C (dm_Mo_look 73 rfl) rfl (by decide) ?_
                    refine gi_iand (q := 132) C (dm_Mo_look 74 rfl) rfl ?_
                    refine gi_iconst (q := 133) (v := 1) C (dm_Mo_look 75 rfl) rfl (by decide) ?_
                    refine gi_icmp_ne (q := 136) (tgt := 140) C (dm_Mo_look 76 rfl) rfl (by decide) (fun c133 => ?_) (fun c133 => ?_)
                    · refine gi_iconst (q := 141) (v := 0) C (dm_Mo_look 79 rfl) rfl (by decide) ?_
                      refine gi_istore_n (q := 142) (i := 1) C (dm_Mo_look 80 rfl) rfl rfl (Nat.le_of_ble_eq_true rfl) ?_
                      refine gi_goto (tgt := 176) C (dm_Mo_look 81 rfl) (by decide) ?_
                      have fl : (ok0 && telA P z.cur.m x (Fz p) z (j + 1)) = false := by
                        rw [telA_s, okT.1, okT.2, tj, Bool.true_and, Bool.true_and]
                        unfold telV
                        dsimp only
                        rw [if_neg c98, er, nI_clamp (show rr2 < 2 ^ 31 by omega)]
                        cases e9 : bitA bt (z.hp.si rr2) with
                        | false => rfl
                        | true => exact absurd ((sh_bit bt (by omega)).mpr e9) c133
                      refine gi_iinc (q := 179) (v := 1) C (dm_Mo_look 104 rfl) rfl rfl (by decide) (Nat.le_of_ble_eq_true rfl) ?_
                      refine gi_goto (tgt := 50) C (dm_Mo_look 105 rfl) (by decide) ?_
                      refine gi_close (ihj (j + 1) _ ⟨jl, rfl⟩ (by omega)) (List.forall_mem_cons.mpr ⟨(by first | rfl | (simp [gi_look, nI_1]; done) | (rw [fl]; rfl)), List.forall_mem_cons.mpr ⟨(by first | rfl | (simp [gi_look, nI_1]; done) | (rw [fl]; rfl)), List.forall_mem_cons.mpr ⟨(by first | rfl | (simp [gi_look, nI_1]; done) | (rw [fl]; rfl)), List.forall_mem_cons.mpr ⟨(by first | rfl | (simp [gi_look, nI_1]; done) | (rw [fl]; rfl)), fun _ h => absurd h List.not_mem_nil⟩⟩⟩⟩) rfl rfl rfl
                    · refine gi_iconst (q := 137) (v := 1) C (dm_Mo_look 77 rfl) rfl (by decide) ?_
                      refine gi_goto (tgt := 141) C (dm_Mo_look 78 rfl) (by decide) ?_
                      refine gi_istore_n (q := 142) (i := 1) C (dm_Mo_look 80 rfl) rfl rfl (Nat.le_of_ble_eq_true rfl) ?_
                      refine gi_goto (tgt := 176) C (dm_Mo_look 81 rfl) (by decide) ?_
                      have fl : (ok0 && telA P z.cur.m x (Fz p) z (j + 1)) = true := by
                        rw [telA_s, okT.1, okT.2, tj, Bool.true_and, Bool.true_and]
                        unfold telV
                        dsimp only
                        rw [if_neg c98, er, nI_clamp (show rr2 < 2 ^ 31 by omega)]
                        exact (sh_bit bt (by omega)).mp c133
                      refine gi_iinc (q := 179) (v := 1) C (dm_Mo_look 104 rfl) rfl rfl (by decide) (Nat.le_of_ble_eq_true rfl) ?_
                      refine gi_goto (tgt := 50) C (dm_Mo_look 105 rfl) (by decide) ?_
                      refine gi_close (ihj (j + 1) _ ⟨jl, rfl⟩ (by omega)) (List.forall_mem_cons.mpr ⟨(by first | rfl | (simp [gi_look, nI_1]; done) | (rw [fl]; rfl)), List.forall_mem_cons.mpr ⟨(by first | rfl | (simp [gi_look, nI_1]; done) | (rw [fl]; rfl)), List.forall_mem_cons.mpr ⟨(by first | rfl | (simp [gi_look, nI_1]; done) | (rw [fl]; rfl)), List.forall_mem_cons.mpr ⟨(by first | rfl | (simp [gi_look, nI_1]; done) | (rw [fl]; rfl)), fun _ h => absurd h List.not_mem_nil⟩⟩⟩⟩) rfl rfl rfl
                  · refine gi_aload_n (q := 102) (i := 0) C (dm_Mo_look 53 rfl) rfl rfl rfl ?_
                    refine gi_get (q := 105) C (dm_Mo_look 54 rfl) rfl fl_Mo_73 Ha (mo_g36 Hf) ?_
                    refine gi_iload_n (q := 106) (i := 2) C (dm_Mo_look 55 rfl) rfl rfl rfl ?_
                    refine gi_iload_n (q := 107) (i := 3) C (dm_Mo_look 56 rfl) rfl rfl rfl ?_
                    refine gi_iadd (q := 108) C (dm_Mo_look 57 rfl) rfl ?_
                    rw [nI_add]
                    refine gi_zald (q := 109) C (dm_Mo_look 58 rfl) rfl rfl (mo_a36 H) (inN (show 14 * p + j < 13440 by omega) (by decide)) ?_
                    rw [nI_clamp (show 14 * p + j < 2 ^ 31 by omega), e36]
                    refine gi_goto (tgt := 141) C (dm_Mo_look 59 rfl) (by decide) ?_
                    refine gi_istore_n (q := 142) (i := 1) C (dm_Mo_look 80 rfl) rfl rfl (Nat.le_of_ble_eq_true rfl) ?_
                    refine gi_goto (tgt := 176) C (dm_Mo_look 81 rfl) (by decide) ?_
                    have fl : (ok0 && telA P z.cur.m x (Fz p) z (j + 1)) = on := by
                      rw [telA_s, okT.1, okT.2, tj, Bool.true_and, Bool.true_and]
                      unfold telV
                      dsimp only
                      rw [if_pos c98]
                    refine gi_iinc (q := 179) (v := 1) C (dm_Mo_look 104 rfl) rfl rfl (by decide) (Nat.le_of_ble_eq_true rfl) ?_
                    refine gi_goto (tgt := 50) C (dm_Mo_look 105 rfl) (by decide) ?_
                    refine gi_close (ihj (j + 1) _ ⟨jl, rfl⟩ (by omega)) (List.forall_mem_cons.mpr ⟨(by first | rfl | (simp [gi_look, nI_1]; done) | (rw [fl]; rfl)), List.forall_mem_cons.mpr ⟨(by first | rfl | (simp [gi_look, nI_1]; done) | (rw [fl]; rfl)), List.forall_mem_cons.mpr ⟨(by first | rfl | (simp [gi_look, nI_1]; done) | (rw [fl]; rfl)), List.forall_mem_cons.mpr ⟨(by first | rfl | (simp [gi_look, nI_1]; done) | (rw [fl]; rfl)), fun _ h => absurd h List.not_mem_nil⟩⟩⟩⟩) rfl rfl rfl
        · refine gi_iconst (q := 35) (v := 1) C (dm_Mo_look 16 rfl) rfl (by decide) ?_
          refine gi_goto (tgt := 39) C (dm_Mo_look 17 rfl) (by decide) ?_
          refine gi_istore_n (q := 40) (i := 1) C (dm_Mo_look 19 rfl) rfl rfl (Nat.le_of_ble_eq_true rfl) ?_
          refine gi_bipush (q := 42) (v := 14) C (dm_Mo_look 20 rfl) rfl (by decide) ?_
          refine gi_aload_n (q := 43) (i := 0) C (dm_Mo_look 21 rfl) rfl rfl rfl ?_
          refine gi_get (q := 46) C (dm_Mo_look 22 rfl) rfl fl_Mo_573 Ha (mo_g84 Hf) ?_
          rw [h84]
          refine gi_imul (q := 47) C (dm_Mo_look 23 rfl) rfl ?_
          rw [show (14 : Int32) = nI 14 from rfl, nI_ml]
          refine gi_istore_n (q := 48) (i := 2) C (dm_Mo_look 24 rfl) rfl rfl (Nat.le_of_ble_eq_true rfl) ?_
          have ev : ok0 = true := by
            rw [eok]
            rw [bI_t c24, bI_fa c31]
            rfl
          rw [show (1 : Int32) = bI (ok0 && telA P z.cur.m x (Fz p) z 0) from by rw [ev]; rfl]
          refine gi_iconst (q := 49) (v := 0) C (dm_Mo_look 25 rfl) rfl (by decide) ?_
          refine gi_istore_n (q := 50) (i := 3) C (dm_Mo_look 26 rfl) rfl rfl (Nat.le_of_ble_eq_true rfl) ?_
          have H9 := H
          refine gi_while (σ := Nat) (fun j => 14 - j) (fun j => [(3, .int (nI j)), (2, .int (nI (14 * p))), (1, .int (bI (ok0 && telA P z.cur.m x (Fz p) z j))), (0, .ref M)]) (fun _ => n) (fun _ => 0) (fun _ => 0) (fun j y' => j ≤ 14 ∧ h = y') 0 ⟨Nat.zero_le _, rfl⟩ ?_ (List.forall_mem_cons.mpr ⟨(by first | rfl | (simp [gi_look]; done)), List.forall_mem_cons.mpr ⟨(by first | rfl | (simp [gi_look]; done)), List.forall_mem_cons.mpr ⟨(by first | rfl | (simp [gi_look]; done)), List.forall_mem_cons.mpr ⟨(by first | rfl | (simp [gi_look]; done)), fun _ h => absurd h List.not_mem_nil⟩⟩⟩⟩) rfl rfl rfl
          rintro j y' ⟨hj, rfl⟩ ihj
          try dsimp only at *
          refine gi_iload_n (q := 51) (i := 3) C (dm_Mo_look 27 rfl) rfl rfl rfl ?_
          refine gi_bipush (q := 53) (v := 14) C (dm_Mo_look 28 rfl) rfl (by decide) ?_
          refine gi_icmp_ge (q := 56) (tgt := 182) C (dm_Mo_look 29 rfl) rfl (by decide) (fun c53 => ?_) (fun c53 => ?_)
          · have fin : tldZ Fz z = (ok0 && telA P z.cur.m x (Fz p) z j) := by
              have e14 : telA P z.cur.m x (Fz p) z 14 = (List.range z.cur.n).all (fun i => telV z.hp ((Fz p).f i).1 (z.cur.s i)) := telA_R l6 x8 nn
              have e0 : tldZ Fz z = (ok0 && telA P z.cur.m x (Fz p) z 14) := by
                unfold tldZ
                rw [e14, eok, ← ep]
                cases (Fz p).told <;> cases z.as <;> rfl
              rw [e0]
              first
                | (have jq : j = 14 := by
                     rcases Nat.lt_or_ge j 14 with q | q
                     exact absurd c53 (Int32.not_le.mpr (nI_lt (b := 14) q (by omega)))
                     omega
                   rw [jq])
                | (have f0 := bI_fa c57
                   rw [f0]
                   cases ho9 : ok0 with
                   | false => rfl
                   | true =>
                     rw [ho9, Bool.true_and] at f0
                     have q := telA_f (d := 14 - j) f0
                     rw [show j + (14 - j) = 14 by omega] at q
                     rw [q]
                     rfl)
            refine gi_aload_n (q := 183) (i := 0) C (dm_Mo_look 106 rfl) rfl rfl rfl ?_
            refine gi_iload_n (q := 184) (i := 1) C (dm_Mo_look 107 rfl) rfl rfl rfl ?_
            refine gi_if_eq (q := 187) (tgt := 191) C (dm_Mo_look 108 rfl) rfl (by decide) (fun c184 => ?_) (fun c184 => ?_)
            · refine gi_aload_n (q := 192) (i := 0) C (dm_Mo_look 111 rfl) rfl rfl rfl ?_
              refine gi_get (q := 195) C (dm_Mo_look 112 rfl) rfl fl_Mo_567 Ha (mo_g83 Hf) ?_
              skip
              refine gi_put (q := 198) C (dm_Mo_look 113 rfl) rfl fl_Mo_173 fp_Mo_87 Ha (by rw [Hf.1]; decide) rfl rfl ?_
              refine gi_genM (H.putI Ha Hf (by decide) rfl) (ho.up (by omega) (by omega)) (fun y H ho => ?_)
              obtain ⟨fs, Ha, Hf⟩ := id H.1
              refine gi_vret C hr (dm_Mo_look 114 rfl) ?_
              refine ⟨rfl, rfl, _, H, ho, fun a ha => by unfold upS; rw [if_neg ha], ?_⟩
              show upS S 87 _ 87 = _
              unfold upS lkV
              rw [if_pos rfl, if_pos ⟨rfl, c11⟩, fin]
              first
                | (rw [bI_fa c184, if_neg (by decide)]; exact h83)
                | (rw [if_pos (bI_t c184)]; done)
                | (rw [bI_fa c184, if_neg (by decide), ← h83]; done)
            · refine gi_iconst (q := 188) (v := -1) C (dm_Mo_look 109 rfl) rfl (by decide) ?_
              refine gi_goto (tgt := 195) C (dm_Mo_look 110 rfl) (by decide) ?_
              skip
              refine gi_put (q := 198) C (dm_Mo_look 113 rfl) rfl fl_Mo_173 fp_Mo_87 Ha (by rw [Hf.1]; decide) rfl rfl ?_
              refine gi_genM (H.putI Ha Hf (by decide) rfl) (ho.up (by omega) (by omega)) (fun y H ho => ?_)
              obtain ⟨fs, Ha, Hf⟩ := id H.1
              refine gi_vret C hr (dm_Mo_look 114 rfl) ?_
              refine ⟨rfl, rfl, _, H, ho, fun a ha => by unfold upS; rw [if_neg ha], ?_⟩
              show upS S 87 _ 87 = _
              unfold upS lkV
              rw [if_pos rfl, if_pos ⟨rfl, c11⟩, fin]
              first
                | (rw [bI_fa c184, if_neg (by decide)]; exact h83)
                | (rw [if_pos (bI_t c184)]; done)
                | (rw [bI_fa c184, if_neg (by decide), ← h83]; done)
          · have jl : j < 14 := by
              rcases Nat.lt_or_ge j (14) with q | q
              · exact q
              · exact absurd (nI_le (a := 14) q (by omega)) c53
            refine gi_iload_n (q := 57) (i := 1) C (dm_Mo_look 30 rfl) rfl rfl rfl ?_
            refine gi_if_eq (q := 60) (tgt := 182) C (dm_Mo_look 31 rfl) rfl (by decide) (fun c57 => ?_) (fun c57 => ?_)
            · have fin : tldZ Fz z = (ok0 && telA P z.cur.m x (Fz p) z j) := by
                have e14 : telA P z.cur.m x (Fz p) z 14 = (List.range z.cur.n).all (fun i => telV z.hp ((Fz p).f i).1 (z.cur.s i)) := telA_R l6 x8 nn
                have e0 : tldZ Fz z = (ok0 && telA P z.cur.m x (Fz p) z 14) := by
                  unfold tldZ
                  rw [e14, eok, ← ep]
                  cases (Fz p).told <;> cases z.as <;> rfl
                rw [e0]
                first
                  | (have jq : j = 14 := by
                       rcases Nat.lt_or_ge j 14 with q | q
                       exact absurd c53 (Int32.not_le.mpr (nI_lt (b := 14) q (by omega)))
                       omega
                     rw [jq])
                  | (have f0 := bI_fa c57
                     rw [f0]
                     cases ho9 : ok0 with
                     | false => rfl
                     | true =>
                       rw [ho9, Bool.true_and] at f0
                       have q := telA_f (d := 14 - j) f0
                       rw [show j + (14 - j) = 14 by omega] at q
                       rw [q]
                       rfl)
              refine gi_aload_n (q := 183) (i := 0) C (dm_Mo_look 106 rfl) rfl rfl rfl ?_
              refine gi_iload_n (q := 184) (i := 1) C (dm_Mo_look 107 rfl) rfl rfl rfl ?_
              refine gi_if_eq (q := 187) (tgt := 191) C (dm_Mo_look 108 rfl) rfl (by decide) (fun c184 => ?_) (fun c184 => ?_)
              · refine gi_aload_n (q := 192) (i := 0) C (dm_Mo_look 111 rfl) rfl rfl rfl ?_
                refine gi_get (q := 195) C (dm_Mo_look 112 rfl) rfl fl_Mo_567 Ha (mo_g83 Hf) ?_
                skip
                refine gi_put (q := 198) C (dm_Mo_look 113 rfl) rfl fl_Mo_173 fp_Mo_87 Ha (by rw [Hf.1]; decide) rfl rfl ?_
                refine gi_genM (H.putI Ha Hf (by decide) rfl) (ho.up (by omega) (by omega)) (fun y H ho => ?_)
                obtain ⟨fs, Ha, Hf⟩ := id H.1
                refine gi_vret C hr (dm_Mo_look 114 rfl) ?_
                refine ⟨rfl, rfl, _, H, ho, fun a ha => by unfold upS; rw [if_neg ha], ?_⟩
                show upS S 87 _ 87 = _
                unfold upS lkV
                rw [if_pos rfl, if_pos ⟨rfl, c11⟩, fin]
                first
                  | (rw [bI_fa c184, if_neg (by decide)]; exact h83)
                  | (rw [if_pos (bI_t c184)]; done)
                  | (rw [bI_fa c184, if_neg (by decide), ← h83]; done)
              · refine gi_iconst (q := 188) (v := -1) C (dm_Mo_look 109 rfl) rfl (by decide) ?_
                refine gi_goto (tgt := 195) C (dm_Mo_look 110 rfl) (by decide) ?_
                skip
                refine gi_put (q := 198) C (dm_Mo_look 113 rfl) rfl fl_Mo_173 fp_Mo_87 Ha (by rw [Hf.1]; decide) rfl rfl ?_
                refine gi_genM (H.putI Ha Hf (by decide) rfl) (ho.up (by omega) (by omega)) (fun y H ho => ?_)
                obtain ⟨fs, Ha, Hf⟩ := id H.1
                refine gi_vret C hr (dm_Mo_look 114 rfl) ?_
                refine ⟨rfl, rfl, _, H, ho, fun a ha => by unfold upS; rw [if_neg ha], ?_⟩
                show upS S 87 _ 87 = _
                unfold upS lkV
                rw [if_pos rfl, if_pos ⟨rfl, c11⟩, fin]
                first
                  | (rw [bI_fa c184, if_neg (by decide)]; exact h83)
                  | (rw [if_pos (bI_t c184)]; done)
                  | (rw [bI_fa c184, if_neg (by decide), ← h83]; done)
            · have okT : ok0 = true ∧ telA P z.cur.m x (Fz p) z j = true := by
                have q := bI_t c57
                rw [Bool.and_eq_true] at q
                exact q
              have tl : (Fz p).told = true := by
                have q := okT.1
                rw [eok, Bool.and_eq_true] at q
                exact q.1
              obtain ⟨tn, tk⟩ := tell_ok B hF T (by rw [← ep]; exact tl)
              rw [← ep] at tn tk
              obtain ⟨-, -, rw0⟩ := rr tl
              rw [show p / 60 = z.cur.m by omega] at rw0
              have gty : tyG P z.cur.m x (Fz p).n (Fz p).f := by
                obtain ⟨m', i', x9, y9, k1, k2, k3, k4, k5, k6, k7, k8, k9, -⟩ := plc B p480 hF tl
                have em : m' = z.cur.m := by omega
                subst em
                rw [hx] at k6
                cases k6
                exact k9
              refine gi_aload_n (q := 61) (i := 0) C (dm_Mo_look 32 rfl) rfl rfl rfl ?_
              refine gi_aload_n (q := 62) (i := 0) C (dm_Mo_look 33 rfl) rfl rfl rfl ?_
              refine gi_get (q := 65) C (dm_Mo_look 34 rfl) rfl fl_Mo_573 Ha (mo_g84 Hf) ?_
              rw [h84]
              refine gi_iload_n (q := 66) (i := 3) C (dm_Mo_look 35 rfl) rfl rfl rfl ?_
              refine gi_callv 2 (q := 69) C (dm_Mo_look 36 rfl) rfl my_Mo_isSlot lk_Mo_404 im_Mo_isSlot rfl (c_Mo_isSlotX (x := x) epm W hm hi hpg.1 (show j < 14 by omega) x8 e12 H) Ha rfl rfl ⟨(Nat.le_of_ble_eq_true rfl), (Nat.le_of_ble_eq_true rfl)⟩ (Nat.le_of_ble_eq_true rfl) ⟨(Nat.le_of_ble_eq_true rfl), (Nat.le_of_ble_eq_true rfl)⟩ (fun r66 n66 h66 e66 => ?_)
              obtain ⟨rfl, q66, u66⟩ := e66
              rw [q66, u66]
              refine gi_if_eq (q := 72) (tgt := 176) C (dm_Mo_look 37 rfl) rfl (by decide) (fun c69 => ?_) (fun c69 => ?_)
              · have fl : (ok0 && telA P z.cur.m x (Fz p) z (j + 1)) = (ok0 && telA P z.cur.m x (Fz p) z j) := by
                  rw [telA_s, show telJ P z.cur.m x (Fz p) z j = true from by unfold telJ; rw [bI_fa c69]; rfl, Bool.and_true]
                refine gi_iinc (q := 179) (v := 1) C (dm_Mo_look 104 rfl) rfl rfl (by decide) (Nat.le_of_ble_eq_true rfl) ?_
                refine gi_goto (tgt := 50) C (dm_Mo_look 105 rfl) (by decide) ?_
                refine gi_close (ihj (j + 1) _ ⟨jl, rfl⟩ (by omega)) (List.forall_mem_cons.mpr ⟨(by first | rfl | (simp [gi_look, nI_1]; done) | (rw [fl]; rfl)), List.forall_mem_cons.mpr ⟨(by first | rfl | (simp [gi_look, nI_1]; done) | (rw [fl]; rfl)), List.forall_mem_cons.mpr ⟨(by first | rfl | (simp [gi_look, nI_1]; done) | (rw [fl]; rfl)), List.forall_mem_cons.mpr ⟨(by first | rfl | (simp [gi_look, nI_1]; done) | (rw [fl]; rfl)), fun _ h => absurd h List.not_mem_nil⟩⟩⟩⟩) rfl rfl rfl
              · have iS := bI_t c69
                obtain ⟨v1, v2, v3, v4, v5⟩ := isS_inv (L := pN P 2 z.cur.m) (x := x) rfl l6 iS
                obtain ⟨q, eq⟩ : ∃ q, q = inv (pN P 2 z.cur.m) j := ⟨_, rfl⟩
                rw [← eq] at v1 v2 v3 v4 v5
                have qn : q < z.cur.n := by omega
                have sv := p7 q qn
                rw [v2] at sv
                obtain ⟨ce, -⟩ := rw0 q (by omega)
                rw [v2] at ce
                obtain ⟨av, ak, -, -⟩ := tyG_mk gty (show q < (Fz p).n by omega)
                have tj : telJ P z.cur.m x (Fz p) z j = telV z.hp ((Fz p).f q).1 (z.cur.s q) := by
                  unfold telJ
                  rw [iS, ← eq]
                  rfl
                refine gi_aload_n (q := 73) (i := 0) C (dm_Mo_look 38 rfl) rfl rfl rfl ?_
                refine gi_get (q := 76) C (dm_Mo_look 39 rfl) rfl fl_Mo_164 Ha (mo_g78 Hf) ?_
                refine gi_aload_n (q := 77) (i := 0) C (dm_Mo_look 40 rfl) rfl rfl rfl ?_
                refine gi_iload_n (q := 78) (i := 3) C (dm_Mo_look 41 rfl) rfl rfl rfl ?_
                refine gi_callv 1 (q := 81) C (dm_Mo_look 42 rfl) rfl my_Mo_f lk_Mo_558 im_Mo_f rfl (c_Mo_f h81 ht (show j < 100 by omega) H) Ha rfl rfl ⟨(Nat.le_of_ble_eq_true rfl), (Nat.le_of_ble_eq_true rfl)⟩ (Nat.le_of_ble_eq_true rfl) ⟨(Nat.le_of_ble_eq_true rfl), (Nat.le_of_ble_eq_true rfl)⟩ (fun r78 n78 h78 e78 => ?_)
                obtain ⟨rfl, q78, u78⟩ := e78
                rw [q78, u78]
                refine gi_iald (q := 82) C (dm_Mo_look 43 rfl) rfl rfl (mo_a78 H) (inN (show 14 * z.top + j < 224 by omega) (by decide)) ?_
                rw [nI_clamp (show 14 * z.top + j < 2 ^ 31 by omega), sv]
                refine gi_istore (q := 84) C (dm_Mo_look 44 rfl) rfl (Nat.le_of_ble_eq_true rfl) ?_
                refine gi_aload_n (q := 85) (i := 0) C (dm_Mo_look 45 rfl) rfl rfl rfl ?_
                refine gi_aload_n (q := 86) (i := 0) C (dm_Mo_look 46 rfl) rfl rfl rfl ?_
                refine gi_get (q := 89) C (dm_Mo_look 47 rfl) rfl fl_Mo_573 Ha (mo_g84 Hf) ?_
                rw [h84]
                refine gi_iload_n (q := 90) (i := 3) C (dm_Mo_look 48 rfl) rfl rfl rfl ?_
                refine gi_callv 2 (q := 93) C (dm_Mo_look 49 rfl) rfl my_Mo_isArray lk_Mo_408 im_Mo_isArray rfl (c_Mo_isArrayX (x := x) epm W hm hi hpg.1 (show j < 14 by omega) x8 e13 H) Ha rfl rfl ⟨(Nat.le_of_ble_eq_true rfl), (Nat.le_of_ble_eq_true rfl)⟩ (Nat.le_of_ble_eq_true rfl) ⟨(Nat.le_of_ble_eq_true rfl), (Nat.le_of_ble_eq_true rfl)⟩ (fun r90 n90 h90 e90 => ?_)
                obtain ⟨rfl, q90, u90⟩ := e90
                rw [q90, u90]
                refine gi_if_eq (q := 96) (tgt := 145) C (dm_Mo_look 50 rfl) rfl (by decide) (fun c93 => ?_) (fun c93 => ?_)
                · obtain ⟨ys, ev⟩ : ∃ ys, ((Fz p).f q).1 = .inl ys := by
                    have ia := bI_fa c93
                    rw [v3, ← ak] at ia
                    cases e : ((Fz p).f q).1 with
                    | inl y => exact ⟨y, rfl⟩
                    | inr y => rw [e] at ia; cases y; cases ia
                  rw [ev] at ce tj av
                  obtain ⟨e32, e33, e34⟩ := ce
                  change G 32 _ = _ at e32
                  change G 33 _ = _ at e33
                  change G 34 _ = _ at e34
                  have vb := i32_b (z.cur.s q)
                  
                  refine gi_aload_n (q := 146) (i := 0) C (dm_Mo_look 82 rfl) rfl rfl rfl ?_
                  refine gi_get (q := 149) C (dm_Mo_look 83 rfl) rfl fl_Mo_60 Ha (mo_g32 Hf) ?_
                  refine gi_iload_n (q := 150) (i := 2) C (dm_Mo_look 84 rfl) rfl rfl rfl ?_
                  refine gi_iload_n (q := 151) (i := 3) C (dm_Mo_look 85 rfl) rfl rfl rfl ?_
                  refine gi_iadd (q := 152) C (dm_Mo_look 86 rfl) rfl ?_
                  rw [nI_add]
                  refine gi_lald (q := 153) C (dm_Mo_look 87 rfl) rfl rfl (mo_a32 H) (inN (show 14 * p + j < 13440 by omega) (by decide)) ?_
                  rw [nI_clamp (show 14 * p + j < 2 ^ 31 by omega), e32]
                  refine gi_aload_n (q := 154) (i := 0) C (dm_Mo_look 88 rfl) rfl rfl rfl ?_
                  refine gi_get (q := 157) C (dm_Mo_look 89 rfl) rfl fl_Mo_64 Ha (mo_g33 Hf) ?_
                  refine gi_iload_n (q := 158) (i := 2) C (dm_Mo_look 90 rfl) rfl rfl rfl ?_
                  refine gi_iload_n (q := 159) (i := 3) C (dm_Mo_look 91 rfl) rfl rfl rfl ?_
                  refine gi_iadd (q := 160) C (dm_Mo_look 92 rfl) rfl ?_
                  rw [nI_add]
                  refine gi_lald (q := 161) C (dm_Mo_look 93 rfl) rfl rfl (mo_a33 H) (inN (show 14 * p + j < 13440 by omega) (by decide)) ?_
                  rw [nI_clamp (show 14 * p + j < 2 ^ 31 by omega), e33]
                  refine gi_aload_n (q := 162) (i := 0) C (dm_Mo_look 94 rfl) rfl rfl rfl ?_
                  refine gi_get (q := 165) C (dm_Mo_look 95 rfl) rfl fl_Mo_67 Ha (mo_g34 Hf) ?_
                  refine gi_iload_n (q := 166) (i := 2) C (dm_Mo_look 96 rfl) rfl rfl rfl ?_
                  refine gi_iload_n (q := 167) (i := 3) C (dm_Mo_look 97 rfl) rfl rfl rfl ?_
                  refine gi_iadd (q := 168) C (dm_Mo_look 98 rfl) rfl ?_
                  rw [nI_add]
                  refine gi_lald (q := 169) C (dm_Mo_look 99 rfl) rfl rfl (mo_a34 H) (inN (show 14 * p + j < 13440 by omega) (by decide)) ?_
                  rw [nI_clamp (show 14 * p + j < 2 ^ 31 by omega), e34]
                  refine gi_iload (q := 171) C (dm_Mo_look 100 rfl) rfl rfl ?_
                  refine gi_i2l (q := 172) C (dm_Mo_look 101 rfl) rfl ?_
                  rw [i2l_eL]
                  refine gi_calls 4 (q := 175) C (dm_Mo_look 102 rfl) rfl my_Mo_has lk_Mo_340 sm_Mo_has (c_Mo_has ys (z.cur.s q).toInt av (by omega) (by omega)) rfl rfl ⟨(Nat.le_of_ble_eq_true rfl), (Nat.le_of_ble_eq_true rfl)⟩ (Nat.le_of_ble_eq_true rfl) ⟨(Nat.le_of_ble_eq_true rfl), (Nat.le_of_ble_eq_true rfl)⟩ (fun r172 n172 h172 e172 => ?_)
                  obtain ⟨rfl, q172, u172⟩ := e172
                  rw [q172, u172]
                  refine gi_istore_n (q := 176) (i := 1) C (dm_Mo_look 103 rfl) rfl rfl (Nat.le_of_ble_eq_true rfl) ?_
                  have fl : (ok0 && telA P z.cur.m x (Fz p) z (j + 1)) = hasS ys (z.cur.s q).toInt := by
                    rw [telA_s, okT.1, okT.2, tj, Bool.true_and, Bool.true_and]
                    rfl
                  refine gi_iinc (q := 179) (v := 1) C (dm_Mo_look 104 rfl) rfl rfl (by decide) (Nat.le_of_ble_eq_true rfl) ?_
                  refine gi_goto (tgt := 50) C (dm_Mo_look 105 rfl) (by decide) ?_
                  refine gi_close (ihj (j + 1) _ ⟨jl, rfl⟩ (by omega)) (List.forall_mem_cons.mpr ⟨(by first | rfl | (simp [gi_look, nI_1]; done) | (rw [fl]; rfl)), List.forall_mem_cons.mpr ⟨(by first | rfl | (simp [gi_look, nI_1]; done) | (rw [fl]; rfl)), List.forall_mem_cons.mpr ⟨(by first | rfl | (simp [gi_look, nI_1]; done) | (rw [fl]; rfl)), List.forall_mem_cons.mpr ⟨(by first | rfl | (simp [gi_look, nI_1]; done) | (rw [fl]; rfl)), fun _ h => absurd h List.not_mem_nil⟩⟩⟩⟩) rfl rfl rfl
                · obtain ⟨bt, on, ev⟩ : ∃ bt on, ((Fz p).f q).1 = .inr (bt, on) := by
                    have ia := bI_t c93
                    rw [v3, ← ak] at ia
                    cases e : ((Fz p).f q).1 with
                    | inl y => rw [e] at ia; cases ia
                    | inr y => exact ⟨y.1, y.2, rfl⟩
                  rw [ev] at ce tj
                  obtain ⟨e35, e36⟩ := ce
                  change F 35 _ = _ at e35
                  change F 36 _ = _ at e36
                  obtain ⟨rr2, rc, er⟩ := (tk q qn).2 (by rw [ev]; rfl)
                  have gs := R.2.1.2.2.2.1
                  refine gi_iload (q := 98) C (dm_Mo_look 51 rfl) rfl rfl ?_
                  refine gi_if_ne (q := 101) (tgt := 112) C (dm_Mo_look 52 rfl) rfl (by decide) (fun c98 => ?_) (fun c98 => ?_)
                  · have r1 : 1 ≤ rr2 := by
                      rcases Nat.eq_zero_or_pos rr2 with e0 | e0
                      · exact absurd (by rw [er, e0]; rfl) c98
                      · exact e0
                    obtain ⟨-, -, g74⟩ := gs rr2 r1 rc
                    change _ = nI (z.hp.si rr2) at g74
                    have b1 := R.2.1.1.1
                    change z.hp.c ≤ 300 at b1
                    have b4 := (R.2.1.1.2.2 rr2 r1 rc).2
                    change z.hp.si rr2 < 25 at b4
                    refine gi_aload_n (q := 113) (i := 0) C (dm_Mo_look 60 rfl) rfl rfl rfl ?_
                    refine gi_get (q := 116) C (dm_Mo_look 61 rfl) rfl fl_Mo_70 Ha (mo_g35 Hf) ?_
                    refine gi_iload_n (q := 117) (i := 2) C (dm_Mo_look 62 rfl) rfl rfl rfl ?_
                    refine gi_iload_n (q := 118) (i := 3) C (dm_Mo_look 63 rfl) rfl rfl rfl ?_
                    refine gi_iadd (q := 119) C (dm_Mo_look 64 rfl) rfl ?_
                    rw [nI_add]
                    refine gi_iald (q := 120) C (dm_Mo_look 65 rfl) rfl rfl (mo_a35 H) (inN (show 14 * p + j < 13440 by omega) (by decide)) ?_
                    rw [nI_clamp (show 14 * p + j < 2 ^ 31 by omega), e35]
                    refine gi_aload_n (q := 121) (i := 0) C (dm_Mo_look 66 rfl) rfl rfl rfl ?_
                    refine gi_get (q := 124) C (dm_Mo_look 67 rfl) rfl fl_Mo_158 Ha (mo_g74 Hf) ?_
                    refine gi_iload (q := 126) C (dm_Mo_look 68 rfl) rfl rfl ?_
                    refine gi_iconst (q := 127) (v := 1) C (dm_Mo_look 69 rfl) rfl (by decide) ?_
                    refine gi_isub (q := 128) C (dm_Mo_look 70 rfl) rfl ?_
                    rw [er, show (1 : Int32) = nI 1 from rfl, nI_sb r1 (by omega)]
                    refine gi_iald (q := 129) C (dm_Mo_look 71 rfl) rfl rfl (mo_a74 H) (inN (show rr2 - 1 < 301 by omega) (by decide)) ?_
                    rw [nI_clamp (show rr2 - 1 < 2 ^ 31 by omega), g74]
                    refine gi_ishr (q := 130) C (dm_Mo_look 72 rfl) rfl ?_
                    refine gi_iconst (q := 131) (v := 1) C (dm_Mo_look 73 rfl) rfl (by decide) ?_
                    refine gi_iand (q := 132) C (dm_Mo_look 74 rfl) rfl ?_
                    refine gi_iconst (q := 133) (v := 1) C (dm_Mo_look 75 rfl) rfl (by decide) ?_
                    refine gi_icmp_ne (q := 136) (tgt := 140) C (dm_Mo_look 76 rfl) rfl (by decide) (fun c133 => ?_) (fun c133 => ?_)
                    · refine gi_iconst (q := 141) (v := 0) C (dm_Mo_look 79 rfl) rfl (by decide) ?_
                      refine gi_istore_n (q := 142) (i := 1) C (dm_Mo_look 80 rfl) rfl rfl (Nat.le_of_ble_eq_true rfl) ?_
                      refine gi_goto (tgt := 176) C (dm_Mo_look 81 rfl) (by decide) ?_
                      have fl : (ok0 && telA P z.cur.m x (Fz p) z (j + 1)) = false := by
                        rw [telA_s, okT.1, okT.2, tj, Bool.true_and, Bool.true_and]
                        unfold telV
                        dsimp only
                        rw [if_neg c98, er, nI_clamp (show rr2 < 2 ^ 31 by omega)]
                        cases e9 : bitA bt (z.hp.si rr2) with
                        | false => rfl
                        | true => exact absurd ((sh_bit bt (by omega)).mpr e9) c133
                      refine gi_iinc (q := 179) (v := 1) C (dm_Mo_look 104 rfl) rfl rfl (by decide) (Nat.le_of_ble_eq_true rfl) ?_
                      refine gi_goto (tgt := 50) C (dm_Mo_look 105 rfl) (by decide) ?_
                      refine gi_close (ihj (j + 1) _ ⟨jl, rfl⟩ (by omega)) (List.forall_mem_cons.mpr ⟨(by first | rfl | (simp [gi_look, nI_1]; done) | (rw [fl]; rfl)), List.forall_mem_cons.mpr ⟨(by first | rfl | (simp [gi_look, nI_1]; done) | (rw [fl]; rfl)), List.forall_mem_cons.mpr ⟨(by first | rfl | (simp [gi_look, nI_1]; done) | (rw [fl]; rfl)), List.forall_mem_cons.mpr ⟨(by first | rfl | (simp [gi_look, nI_1]; done) | (rw [fl]; rfl)), fun _ h => absurd h List.not_mem_nil⟩⟩⟩⟩) rfl rfl rfl
                    · refine gi_iconst (q := 137) (v := 1) C (dm_Mo_look 77 rfl) rfl (by decide) ?_
                      refine gi_goto (tgt := 141) C (dm_Mo_look 78 rfl) (by decide) ?_
                      refine gi_istore_n (q := 142) (i := 1) C (dm_Mo_look 80 rfl) rfl rfl (Nat.le_of_ble_eq_true rfl) ?_
                      refine gi_goto (tgt := 176) C (dm_Mo_look 81 rfl) (by decide) ?_
                      have fl : (ok0 && telA P z.cur.m x (Fz p) z (j + 1)) = true := by
                        rw [telA_s, okT.1, okT.2, tj, Bool.true_and, Bool.true_and]
                        unfold telV
                        dsimp only
                        rw [if_neg c98, er, nI_clamp (show rr2 < 2 ^ 31 by omega)]
                        exact (sh_bit bt (by omega)).mp c133
                      refine gi_iinc (q := 179) (v := 1) C (dm_Mo_look 104 rfl) rfl rfl (by decide) (Nat.le_of_ble_eq_true rfl) ?_
                      refine gi_goto (tgt := 50) C (dm_Mo_look 105 rfl) (by decide) ?_
                      refine gi_close (ihj (j + 1) _ ⟨jl, rfl⟩ (by omega)) (List.forall_mem_cons.mpr ⟨(by first | rfl | (simp [gi_look, nI_1]; done) | (rw [fl]; rfl)), List.forall_mem_cons.mpr ⟨(by first | rfl | (simp [gi_look, nI_1]; done) | (rw [fl]; rfl)), List.forall_mem_cons.mpr ⟨(by first | rfl | (simp [gi_look, nI_1]; done) | (rw [fl]; rfl)), List.forall_mem_cons.mpr ⟨(by first | rfl | (simp [gi_look, nI_1]; done) | (rw [fl]; rfl)), fun _ h => absurd h List.not_mem_nil⟩⟩⟩⟩) rfl rfl rfl
                  · refine gi_aload_n (q := 102) (i := 0) C (dm_Mo_look 53 rfl) rfl rfl rfl ?_
                    refine gi_get (q := 105) C (dm_Mo_look 54 rfl) rfl fl_Mo_73 Ha (mo_g36 Hf) ?_
                    refine gi_iload_n (q := 106) (i := 2) C (dm_Mo_look 55 rfl) rfl rfl rfl ?_
                    refine gi_iload_n (q := 107) (i := 3) C (dm_Mo_look 56 rfl) rfl rfl rfl ?_
                    refine gi_iadd (q := 108) C (dm_Mo_look 57 rfl) rfl ?_
                    rw [nI_add]
                    refine gi_zald (q := 109) C (dm_Mo_look 58 rfl) rfl rfl (mo_a36 H) (inN (show 14 * p + j < 13440 by omega) (by decide)) ?_
                    rw [nI_clamp (show 14 * p + j < 2 ^ 31 by omega), e36]
                    refine gi_goto (tgt := 141) C (dm_Mo_look 59 rfl) (by decide) ?_
                    refine gi_istore_n (q := 142) (i := 1) C (dm_Mo_look 80 rfl) rfl rfl (Nat.le_of_ble_eq_true rfl) ?_
                    refine gi_goto (tgt := 176) C (dm_Mo_look 81 rfl) (by decide) ?_
                    have fl : (ok0 && telA P z.cur.m x (Fz p) z (j + 1)) = on := by
                      rw [telA_s, okT.1, okT.2, tj, Bool.true_and, Bool.true_and]
                      unfold telV
                      dsimp only
                      rw [if_pos c98]
                    refine gi_iinc (q := 179) (v := 1) C (dm_Mo_look 104 rfl) rfl rfl (by decide) (Nat.le_of_ble_eq_true rfl) ?_
                    refine gi_goto (tgt := 50) C (dm_Mo_look 105 rfl) (by decide) ?_
                    refine gi_close (ihj (j + 1) _ ⟨jl, rfl⟩ (by omega)) (List.forall_mem_cons.mpr ⟨(by first | rfl | (simp [gi_look, nI_1]; done) | (rw [fl]; rfl)), List.forall_mem_cons.mpr ⟨(by first | rfl | (simp [gi_look, nI_1]; done) | (rw [fl]; rfl)), List.forall_mem_cons.mpr ⟨(by first | rfl | (simp [gi_look, nI_1]; done) | (rw [fl]; rfl)), List.forall_mem_cons.mpr ⟨(by first | rfl | (simp [gi_look, nI_1]; done) | (rw [fl]; rfl)), fun _ h => absurd h List.not_mem_nil⟩⟩⟩⟩) rfl rfl rfl
    · refine gi_vret C hr (dm_Mo_look 6 rfl) ?_
      refine ⟨rfl, rfl, S, H, ho, fun _ _ => rfl, ?_⟩
      unfold lkV
      first
        | (rw [if_neg (fun q => by have z9 := q.1; rw [hc.1, z9] at c4; exact absurd c4 (by decide))]; done)
        | (rw [if_neg (fun q => c11 q.2)]; done)
end RM7
