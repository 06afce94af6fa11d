-- needs: 89.99rm5
section RM6
variable {l : Launch} {V : gi_V} {n : Nat} {h h' : gi_H} {M k : Nat} {P : Pm} {sh : Nat → Option Sh} {S S' : Nat → Int32} {J J' : Nat → Int64} {F F' : Nat → Nat → Int32} {G : Nat → Nat → Int64} {Fz : Fa} {cb : Bool} {z : Mc} {x y : Sh} {m op a : Nat} {sn : Nat → Nat} {wd : Nat → Bool} {hz : gi_H}
theorem sd_1 (h : shS P m op a x = some y) (e : op = 0 ∨ op = 1 ∨ op = 3 ∨ op = 34) : y.1 = x.1 + 1 := by
  rcases e with rfl | rfl | rfl | rfl
  · exact (congrArg Prod.fst (Option.some.inj (show some (ptS false x) = some y from h))).symm
  · exact (congrArg Prod.fst (Option.some.inj (show some (ptS (kdB P m a) x) = some y from h))).symm
  · exact (congrArg Prod.fst (Option.some.inj (show some (ptS true x) = some y from h))).symm
  · exact (congrArg Prod.fst (Option.some.inj (show some (ptS false x) = some y from h))).symm
theorem sd_4 (h : shS P m op a x = some y) (e : op = 2 ∨ op = 4 ∨ op = 5 ∨ op = 18 ∨ op = 26 ∨ op = 27 ∨ op = 28 ∨ op = 29 ∨ op = 35) : 1 ≤ x.1 ∧ (op = 5 → y.1 = x.1 + 1) := by
  rcases e with rfl | rfl | rfl | rfl | rfl | rfl | rfl | rfl | rfl
  · exact ⟨(tk_d (show tkS (kdB P m a) x = some y from h)).1, fun q => by omega⟩
  · have h' : (if x.1 = 0 then none else some (dpS x)) = some y := h
    by_cases e : x.1 = 0
    · rw [if_pos e] at h'; cases h'
    · exact ⟨by omega, fun q => by omega⟩
  · have h' : (if x.1 = 0 then none else some (ptS (tpS x) x)) = some y := h
    by_cases e : x.1 = 0
    · rw [if_pos e] at h'; cases h'
    · rw [if_neg e] at h'
      exact ⟨by omega, fun _ => (congrArg Prod.fst (Option.some.inj h')).symm⟩
  · obtain ⟨_, e1, -⟩ := Option.map_eq_some_iff.mp (show (tkS false x).map (ptS false) = some y from h)
    exact ⟨(tk_d e1).1, fun q => by omega⟩
  · exact ⟨(tk_d (show tkS true x = some y from h)).1, fun q => by omega⟩
  · exact ⟨(tk_d (show tkS true x = some y from h)).1, fun q => by omega⟩
  · obtain ⟨_, e1, -⟩ := Option.map_eq_some_iff.mp (show (tkS false x).map (ptS true) = some y from h)
    exact ⟨(tk_d e1).1, fun q => by omega⟩
  · obtain ⟨_, e1, -⟩ := Option.map_eq_some_iff.mp (show (tkS true x).map (ptS false) = some y from h)
    exact ⟨(tk_d e1).1, fun q => by omega⟩
  · exact ⟨(tk_d (show tkS false x = some y from h)).1, fun q => by omega⟩
theorem bd_2 {p q : Bool} {u : Sh} (h : (tkS p x).bind (tkS q) = some u) : 2 ≤ x.1 ∧ u.1 = x.1 - 2 := by
  obtain ⟨v, e1, e2⟩ := Option.bind_eq_some_iff.mp h
  have := tk_d e1
  have := tk_d e2
  omega
theorem sd_2 (h : shS P m op a x = some y) (e : op = 6 ∨ (7 ≤ op ∧ op ≤ 17) ∨ (20 ≤ op ∧ op ≤ 25) ∨ op = 30 ∨ op = 31) : 2 ≤ x.1 ∧ (op = 31 → 3 ≤ x.1) := by
  rcases e with rfl | e | e | rfl | rfl
  · have h' : (if x.1 < 2 then none else some (ptS (tpS (dpS x)) (ptS (tpS x) (dpS (dpS x))))) = some y := h
    by_cases e : x.1 < 2
    · rw [if_pos e] at h'; cases h'
    · exact ⟨by omega, fun q => by omega⟩
  · rw [sh_ar e.1 e.2] at h
    obtain ⟨_, e1, -⟩ := Option.map_eq_some_iff.mp h
    exact ⟨(bd_2 e1).1, fun q => by omega⟩
  · rw [sh_cp e.1 e.2] at h
    exact ⟨(bd_2 h).1, fun q => by omega⟩
  · obtain ⟨_, e1, -⟩ := Option.map_eq_some_iff.mp (show ((tkS false x).bind (tkS true)).map (ptS false) = some y from h)
    exact ⟨(bd_2 e1).1, fun q => by omega⟩
  · obtain ⟨v, e1, e2⟩ := Option.bind_eq_some_iff.mp (show ((tkS false x).bind (tkS false)).bind (tkS true) = some y from h)
    have := bd_2 e1
    have := tk_d e2
    exact ⟨by omega, fun _ => by omega⟩
theorem sd_33 (h : shS P m 33 a x = some y) (e : pN P 4 m ≠ 0) : 1 ≤ x.1 := by
  have h' : (if pN P 4 m = 0 then some x else tkS (decide (pN P 4 m = 2)) x) = some y := h
  rw [if_neg e] at h'
  exact (tk_d h').1
theorem lea_got {t : Nat} : (leaZ P (gotZ z t)).2 = (leaZ P z).2 := by
  unfold leaZ
  rw [got_m]
  show (if pN P 4 z.cur.m = 0 then (if z.top = 0 then _ else _) else if z.top = 0 then _ else _ : Mc × Int32).2 = _
  split <;> split <;> rfl
theorem top_got {t : Nat} : topV (gotZ z t) = topV z := by
  unfold topV
  rw [got_n, got_s]
theorem mcR.below {u v : Mc} (R : mcR P cb u S J F) (h1 : v.top = u.top) (h2 : v.hp = u.hp) (h3 : v.fd = u.fd) (h4 : v.wr = u.wr) (h5 : v.dp = u.dp) (h6 : v.gv = u.gv) (h7 : v.as = u.as) (h8 : ∀ t, t ≤ u.top → v.fr t = u.fr t) : mcR P cb v S J F := by
  obtain ⟨r1, r2, r3, r4, r5, r6, r7, r8, r9, r9', r10⟩ := R
  exact ⟨by rw [h1]; exact r1, by rw [h2]; exact r2, by rw [h3]; exact r3, by rw [h1]; exact r4, by rw [h4]; exact r5, by rw [h5]; exact r6, by rw [h5]; exact r7, by rw [h6]; exact r8, fun c => by rw [h7]; exact r9 c, r9', fun t ht => by rw [h1] at ht; rw [h8 t ht]; exact r10 t ht⟩
theorem lv_got {t : Nat} (p : lvP M P cb (gotZ z t) h S J F G h') : lvP M P cb z h S J F G h' := by
  have e4 : pN P 4 (gotZ z t).cur.m = pN P 4 z.cur.m := by rw [got_m]
  unfold lvP at p ⊢
  rw [lea_got] at p
  rcases p with ⟨c, S1, J1, F1, q1, q2, q3, q4⟩ | ⟨c, S1, J1, F1, q1, q2, q3, q5, q4⟩
  · refine .inl ⟨c, S1, J1, F1, q1, q2, q3, ?_⟩
    by_cases r0 : pN P 4 z.cur.m = 0
    · unfold leaZ at c q4 ⊢
      rw [e4, if_pos r0] at q4
      rw [if_pos r0] at c ⊢
      by_cases t0 : z.top = 0
      · rw [if_pos t0] at c; exact absurd (show (1 : Int32) = 0 from c) (by decide)
      · rw [if_neg (show ¬ (gotZ z t).top = 0 from t0)] at q4
        rw [if_neg t0]
        refine q4.below rfl rfl rfl rfl rfl rfl rfl (fun s hs => ?_)
        have hs' : s ≤ z.top - 1 := hs
        show z.fr s = upO z.fr z.top _ s
        rw [upO_ne (by omega)]
    · unfold leaZ at c q4 ⊢
      rw [e4, if_neg r0] at q4
      rw [if_neg r0] at c ⊢
      by_cases t0 : z.top = 0
      · rw [if_pos t0] at c; exact absurd (show (1 : Int32) = 0 from c) (by decide)
      · rw [if_neg (show ¬ (gotZ z t).top = 0 from t0), top_got] at q4
        rw [if_neg t0]
        refine q4.below rfl rfl rfl rfl rfl rfl rfl (fun s hs => ?_)
        have hs' : s ≤ z.top - 1 := hs
        have k1 : ∀ s, s ≤ z.top - 1 → (dwnZ (popZ z)).fr s = (dwnZ (popZ (gotZ z t))).fr s := fun s hs => by
          show upO z.fr z.top _ s = upO (upO z.fr z.top _) z.top _ s
          rw [upO_ne (by omega), upO_ne (by omega), upO_ne (by omega)]
        have kc : (dwnZ (popZ z)).cur = (dwnZ (popZ (gotZ z t))).cur := k1 (z.top - 1) (Nat.le_refl _)
        show upO (dwnZ (popZ z)).fr (z.top - 1) (mkF (dwnZ (popZ z)).cur.m (dwnZ (popZ z)).cur.i ((dwnZ (popZ z)).cur.n + 1) (upO (dwnZ (popZ z)).cur.s (dwnZ (popZ z)).cur.n (topV z))) s = upO (dwnZ (popZ (gotZ z t))).fr (z.top - 1) _ s
        by_cases e : s = z.top - 1
        · subst e
          rw [upO_self, upO_self, kc]
        · rw [upO_ne e, upO_ne e]
          exact k1 s hs'
  · refine .inr ⟨c, S1, J1, F1, q1, q2, q3, q5, ?_⟩
    obtain ⟨d1, d2, d3, d4, d5⟩ := q4
    by_cases r0 : pN P 4 z.cur.m = 0
    · unfold leaZ at c d1 d2 d3 d4 d5 ⊢
      rw [e4, if_pos r0] at d1 d2 d3 d4 d5
      rw [if_pos r0] at c ⊢
      by_cases t0 : z.top = 0
      · rw [if_pos (show (gotZ z t).top = 0 from t0)] at d1 d2 d3 d4 d5
        rw [if_pos t0]
        exact ⟨d1, d2, d3, d4, d5⟩
      · rw [if_neg t0] at c; exact absurd (show (0 : Int32) = 1 from c) (by decide)
    · unfold leaZ at c d1 d2 d3 d4 d5 ⊢
      rw [e4, if_neg r0] at d1 d2 d3 d4 d5
      rw [if_neg r0] at c ⊢
      by_cases t0 : z.top = 0
      · rw [if_pos (show (gotZ z t).top = 0 from t0), top_got] at d1 d2 d3 d4 d5
        rw [if_pos t0]
        exact ⟨d1, d2, d3, d4, d5⟩
      · rw [if_neg t0] at c; exact absurd (show (0 : Int32) = 1 from c) (by decide)
def onP (M : Nat) (P : Pm) (sn : Nat → Nat) (Fz : Fa) (cb : Bool) (z : Mc) (h : gi_H) (S : Nat → Int32) (J : Nat → Int64) (F : Nat → Nat → Int32) (G : Nat → Nat → Int64) (h' : gi_H) : Prop := ((prfZ P sn Fz z).2 ≠ 1 ∧ mcP M P cb (prfZ P sn Fz z).1 h S J F G h') ∨ ((prfZ P sn Fz z).2 = 1 ∧ edP M (prfZ P sn Fz z).1 h S J F G h')
theorem prf_A (h : pN P 6 (curP z) ≠ 33) : prfZ P sn Fz z = prfA P sn Fz (curP z) (gotZ z (z.cur.i + 1)) := by
  unfold prfZ
  rw [if_neg h]
theorem ite_n1 {c : Prop} [Decidable c] {a b : Mc × Int32} (ha : a.2 ≠ 1) (hb : b.2 ≠ 1) : (if c then a else b).2 ≠ 1 := by split <;> assumption
theorem prf_n1 (h : pN P 6 (curP z) ≠ 33) : (prfZ P sn Fz z).2 ≠ 1 := by
  rw [prf_A h]
  unfold prfA rckZ makZ useZ entZ
  repeat' apply ite_n1
  all_goals (first | exact (show (0 : Int32) ≠ 1 by decide) | exact (show (2 : Int32) ≠ 1 by decide))
theorem on_A (h : pN P 6 (curP z) ≠ 33) (p : mcP M P cb (prfA P sn Fz (curP z) (gotZ z (z.cur.i + 1))).1 hz S J F G h') : onP M P sn Fz cb z hz S J F G h' := .inl ⟨prf_n1 h, by rw [prf_A h]; exact p⟩
theorem on_33 (h : pN P 6 (curP z) = 33) (p : lvP M P cb z hz S J F G h') : onP M P sn Fz cb z hz S J F G h' := by
  have e : prfZ P sn Fz z = leaZ P z := by unfold prfZ; rw [if_pos h]
  unfold onP
  rw [e]
  rcases p with ⟨c, p⟩ | ⟨c, p⟩
  · exact .inl ⟨by rw [c]; decide, p⟩
  · exact .inr ⟨c, p⟩
theorem lv_tr {h1 : gi_H} {h2 : gi_H} (o : outM M h h1) (f : frM S S' J J' F F') (p : lvP M P cb z h1 S' J' F' G h2) : lvP M P cb z h S J F G h2 := by
  rcases p with ⟨c, p⟩ | ⟨c, a, b, d, p1, p2, p3, p4, p5⟩
  · exact .inl ⟨c, p.tr o f⟩
  · exact .inr ⟨c, a, b, d, p1, o.tr p2, f.tr p3, p4, p5⟩
theorem vld_at {p i : Nat} (hm : m < k) (hi : i < pN P 5 m) (w8 : k ≤ 8) (h60 : pN P 5 m ≤ 60) (ep : p = 60 * m + i) : vldB k P p = true := by
  unfold vldB
  rw [show p / 60 = m by omega, show p % 60 = i by omega, decide_eq_true hm, decide_eq_true hi]
  rfl
set_option maxHeartbeats 4000000 in
set_option maxRecDepth 100000 in
theorem c_Mo_one (B : Built k P sh (siN k P sh) (wdF k P)) (hpg : pgR k P sh S F) (T : TS k P sh z) (R : mcR P cb z S J F) (h84 : S 84 = nI (curP z)) (hc : ceX P sh cb Fz S F G) (H : mo_at M S J F G h) : gi_T l V y_Mo_one b_Mo_one 7 none 5 123 0 0 [.ref M] n h (fun r n' h' => r = none ∧ n' = n ∧ onP M P (siN k P sh) Fz cb z h S J F G h') := by
  refine gi_enter (by decide) (Nat.le_of_ble_eq_true rfl) ?_
  intro _ _ _ _ _ _ _ _ C hr hnm
  obtain ⟨fs, Ha, Hf⟩ := id H.1
  have ho : outM M h h := outM.rf
  have fm : frM S S J J F F := frM.rf
  have h81 := R.2.2.2.1
  have ht := R.1
  have W := B.wf
  have hm := T.2.2.1.1
  have hi := T.2.2.1.2.1
  change z.cur.m < k at hm
  change z.cur.i < pN P 5 z.cur.m at hi
  have w8 := W.k8
  have wm := wf_ar W hm
  obtain ⟨x0, y0, X, hx, x8, nn, l6, o35, od, ey, y8, -, nj, pa⟩ := T.at_ B
  obtain ⟨p, ep⟩ : ∃ p, p = curP z := ⟨_, rfl⟩
  have epm : p = 60 * z.cur.m + z.cur.i := ep
  have p480 : p < 480 := by omega
  obtain ⟨op, eop⟩ : ∃ op, op = pN P 6 p := ⟨_, rfl⟩
  have e6 : F 6 p = nI op := by
    rw [eop, epm]
    exact (op_at B hpg hm hi).1
  have e7 : F 7 p = P 7 p := by rw [hpg.1 7 (by decide) (by decide)]
  rw [← ep] at hx o35 od ey y8 nj pa
  rw [← eop] at o35 od ey y8 nj
  have h84 : S 84 = nI p := h84.trans (by rw [ep])
  refine gi_aload_n (q := 1) (i := 0) C (dm_Mo_one 0 rfl) rfl rfl rfl ?_
  refine gi_get (q := 4) C (dm_Mo_one 1 rfl) rfl fl_Mo_573 Ha (mo_g84 Hf) ?_
  rw [h84]
  refine gi_istore_n (q := 5) (i := 1) C (dm_Mo_one 2 rfl) rfl rfl (Nat.le_of_ble_eq_true rfl) ?_
  refine gi_iload_n (q := 6) (i := 1) C (dm_Mo_one 3 rfl) rfl rfl rfl ?_
  refine gi_bipush (q := 8) (v := 60) C (dm_Mo_one 4 rfl) rfl (by decide) ?_
  refine gi_idiv (q := 9) C (dm_Mo_one 5 rfl) rfl (by decide) ?_
  rw [show (60 : Int32) = nI 60 from rfl, nI_dv (by omega) (by decide), show p / 60 = z.cur.m by omega]
  refine gi_istore_n (q := 10) (i := 2) C (dm_Mo_one 6 rfl) rfl rfl (Nat.le_of_ble_eq_true rfl) ?_
  refine gi_aload_n (q := 11) (i := 0) C (dm_Mo_one 7 rfl) rfl rfl rfl ?_
  refine gi_get (q := 14) C (dm_Mo_one 8 rfl) rfl fl_Mo_25 Ha (mo_g6 Hf) ?_
  refine gi_iload_n (q := 15) (i := 1) C (dm_Mo_one 9 rfl) rfl rfl rfl ?_
  refine gi_iald (q := 16) C (dm_Mo_one 10 rfl) rfl rfl (mo_a6 H) (inN p480 (by decide)) ?_
  rw [nI_clamp (show p < 2 ^ 31 by omega), e6]
  refine gi_istore_n (q := 17) (i := 3) C (dm_Mo_one 11 rfl) rfl rfl (Nat.le_of_ble_eq_true rfl) ?_
  refine gi_aload_n (q := 18) (i := 0) C (dm_Mo_one 12 rfl) rfl rfl rfl ?_
  refine gi_get (q := 21) C (dm_Mo_one 13 rfl) rfl fl_Mo_28 Ha (mo_g7 Hf) ?_
  refine gi_iload_n (q := 22) (i := 1) C (dm_Mo_one 14 rfl) rfl rfl rfl ?_
  refine gi_iald (q := 23) C (dm_Mo_one 15 rfl) rfl rfl (mo_a7 H) (inN p480 (by decide)) ?_
  rw [nI_clamp (show p < 2 ^ 31 by omega), e7]
  refine gi_istore (q := 25) C (dm_Mo_one 16 rfl) rfl (Nat.le_of_ble_eq_true rfl) ?_
  refine gi_aload_n (q := 26) (i := 0) C (dm_Mo_one 17 rfl) rfl rfl rfl ?_
  refine gi_get (q := 29) C (dm_Mo_one 18 rfl) rfl fl_Mo_167 Ha (mo_g79 Hf) ?_
  refine gi_aload_n (q := 30) (i := 0) C (dm_Mo_one 19 rfl) rfl rfl rfl ?_
  refine gi_get (q := 33) C (dm_Mo_one 20 rfl) rfl fl_Mo_552 Ha (mo_g81 Hf) ?_
  rw [h81]
  refine gi_iconst (q := 34) (v := 1) C (dm_Mo_one 21 rfl) rfl (by decide) ?_
  refine gi_isub (q := 35) C (dm_Mo_one 22 rfl) rfl ?_
  rw [show (1 : Int32) = nI 1 from rfl, nI_sb (by omega) (by omega), show z.top + 1 - 1 = z.top by omega]
  refine gi_iload_n (q := 36) (i := 1) C (dm_Mo_one 23 rfl) rfl rfl rfl ?_
  refine gi_iconst (q := 37) (v := 1) C (dm_Mo_one 24 rfl) rfl (by decide) ?_
  refine gi_iadd (q := 38) C (dm_Mo_one 25 rfl) rfl ?_
  rw [nI_1]
  refine gi_iast (q := 39) C (dm_Mo_one 26 rfl) rfl rfl (mo_a79 H) (inN ht (by decide)) ?_
  refine gi_genM (H.setI (p := 49) (k := 79) (by decide) rfl rfl (by decide) rfl (by omega)) (ho.up (by omega) (by omega)) (fun y H ho => ?_)
  obtain ⟨fs, Ha, Hf⟩ := id H.1
  rw [nI_clamp (show z.top < 2 ^ 31 by omega)] at H
  have Rg : mcR P cb (gotZ z (z.cur.i + 1)) S J _ := R.got (x := z) (F' := upA F 79 (upd (F 79) z.top (nI (p + 1)))) (by omega) (fun j hj => upA_n hj) (fun i => by rw [upA_i, upd_is, show p + 1 = 60 * z.cur.m + (z.cur.i + 1) by omega])
  have fm : frM S S J J F (upA F 79 (upd (F 79) z.top (nI (p + 1)))) := ⟨fun _ _ => rfl, fun _ _ => rfl, fun j hj => by rw [upA_n (by omega)]⟩
  have hc := hc.fr fm
  have h81 := Rg.2.2.2.1
  change S 81 = nI (z.top + 1) at h81
  have R := Rg
  have gn : (gotZ z (z.cur.i + 1)).cur.n = pN P 2 z.cur.m + x0.1 := by rw [got_n]; exact nn
  have gm : (gotZ z (z.cur.i + 1)).cur.m = z.cur.m := got_m _ _
  have h33 : op ≠ 33 → pN P 6 (curP z) ≠ 33 := fun q => by rw [← ep, ← eop]; exact q
  refine gi_iload_n (q := 40) (i := 3) C (dm_Mo_one 27 rfl) rfl rfl rfl ?_
  refine gi_bipush (q := 42) (v := 7) C (dm_Mo_one 28 rfl) rfl (by decide) ?_
  refine gi_icmp_lt (q := 45) (tgt := 103) C (dm_Mo_one 29 rfl) rfl (by decide) (fun c42 => ?_) (fun c42 => ?_)
  · refine gi_iload_n (q := 104) (i := 3) C (dm_Mo_one 58 rfl) rfl rfl rfl ?_
    refine gi_bipush (q := 106) (v := 20) C (dm_Mo_one 59 rfl) rfl (by decide) ?_
    refine gi_icmp_lt (q := 109) (tgt := 159) C (dm_Mo_one 60 rfl) rfl (by decide) (fun c106 => ?_) (fun c106 => ?_)
    · have hop : (op < 7 ∨ 17 < op) ∧ (op < 20 ∨ 25 < op) := by
        refine ⟨?_, ?_⟩
        · first
            | (have q := c42; rw [show (7 : Int32) = nI 7 from rfl, nI_ltP (by omega) (by decide)] at q; exact .inl q)
            | (have q := c48; rw [show (17 : Int32) = nI 17 from rfl, nI_ltP (by decide) (by omega)] at q; exact .inr q)
        · first
            | (have q := c106; rw [show (20 : Int32) = nI 20 from rfl, nI_ltP (by omega) (by decide)] at q; exact .inl q)
            | (have q := c112; rw [show (25 : Int32) = nI 25 from rfl, nI_ltP (by decide) (by omega)] at q; exact .inr q)
      rcases (show op = 0 ∨ op = 1 ∨ op = 2 ∨ op = 3 ∨ op = 4 ∨ op = 5 ∨ op = 6 ∨ op = 18 ∨ op = 19 ∨ op = 26 ∨ op = 27 ∨ op = 28 ∨ op = 29 ∨ op = 30 ∨ op = 31 ∨ op = 32 ∨ op = 33 ∨ op = 34 ∨ op = 35 by omega) with e | e | e | e | e | e | e | e | e | e | e | e | e | e | e | e | e | e | e
      · have d1 := sd_1 ey (by omega)
        have y8 := y8 (by omega)
        rw [e]
        refine gi_aload_n (q := 160) (i := 0) C (dm_Mo_one 88 rfl) rfl rfl rfl ?_
        refine gi_iload_n (q := 161) (i := 2) C (dm_Mo_one 89 rfl) rfl rfl rfl ?_
        refine gi_iload_n (q := 162) (i := 1) C (dm_Mo_one 90 rfl) rfl rfl rfl ?_
        refine gi_iload_n (q := 163) (i := 3) C (dm_Mo_one 91 rfl) rfl rfl rfl ?_
        refine gi_iload (q := 165) C (dm_Mo_one 92 rfl) rfl rfl ?_
        refine gi_callv 4 (q := 168) C (dm_Mo_one 93 rfl) rfl my_Mo_other lk_Mo_600 im_Mo_other rfl (c_Mo_other_0 (x := (gotZ z (z.cur.i + 1))) (p := p) gm R (by rw [gm, gn]; omega) (P 7 p) (by rw [gm, gn]; omega) hc H) Ha rfl rfl ⟨(Nat.le_of_ble_eq_true rfl), (Nat.le_of_ble_eq_true rfl)⟩ (Nat.le_of_ble_eq_true rfl) ⟨(Nat.le_of_ble_eq_true rfl), (Nat.le_of_ble_eq_true rfl)⟩ (fun r165 n165 h165 e165 => ?_)
        obtain ⟨rfl, qn165, p9⟩ := e165
        rw [qn165]
        have p9 := p9.tr ho fm
        refine gi_vret C hr (dm_Mo_one 94 rfl) ?_
        refine ⟨rfl, rfl, on_A (h33 (by omega)) ?_⟩
        unfold prfA
        rw [← ep, ← eop]
        rw [e]
        rw [if_pos (by decide)]
        exact p9
      · have d1 := sd_1 ey (by omega)
        have y8 := y8 (by omega)
        obtain ⟨pa1, pa2⟩ := pa ((od.1 (by omega)).1)
        have la := (od.1 (by omega)).2
        rw [pa1]
        rw [e]
        refine gi_aload_n (q := 160) (i := 0) C (dm_Mo_one 88 rfl) rfl rfl rfl ?_
        refine gi_iload_n (q := 161) (i := 2) C (dm_Mo_one 89 rfl) rfl rfl rfl ?_
        refine gi_iload_n (q := 162) (i := 1) C (dm_Mo_one 90 rfl) rfl rfl rfl ?_
        refine gi_iload_n (q := 163) (i := 3) C (dm_Mo_one 91 rfl) rfl rfl rfl ?_
        refine gi_iload (q := 165) C (dm_Mo_one 92 rfl) rfl rfl ?_
        refine gi_callv 4 (q := 168) C (dm_Mo_one 93 rfl) rfl my_Mo_other lk_Mo_600 im_Mo_other rfl (c_Mo_other_1 (x := (gotZ z (z.cur.i + 1))) (p := p) gm R (by rw [gm, gn]; omega) (by rw [gm, gn]; omega) (show pN P 7 p < _ by rw [gm]; omega) hc H) Ha rfl rfl ⟨(Nat.le_of_ble_eq_true rfl), (Nat.le_of_ble_eq_true rfl)⟩ (Nat.le_of_ble_eq_true rfl) ⟨(Nat.le_of_ble_eq_true rfl), (Nat.le_of_ble_eq_true rfl)⟩ (fun r165 n165 h165 e165 => ?_)
        obtain ⟨rfl, qn165, p9⟩ := e165
        rw [qn165]
        have p9 := p9.tr ho fm
        refine gi_vret C hr (dm_Mo_one 94 rfl) ?_
        refine ⟨rfl, rfl, on_A (h33 (by omega)) ?_⟩
        unfold prfA
        rw [← ep, ← eop]
        rw [e]
        rw [if_pos (by decide), pa1]
        exact p9
      · have d4 := (sd_4 ey (by omega)).1
        obtain ⟨pa1, pa2⟩ := pa ((od.1 (by omega)).1)
        have la := (od.1 (by omega)).2
        rw [pa1]
        rw [e]
        refine gi_aload_n (q := 160) (i := 0) C (dm_Mo_one 88 rfl) rfl rfl rfl ?_
        refine gi_iload_n (q := 161) (i := 2) C (dm_Mo_one 89 rfl) rfl rfl rfl ?_
        refine gi_iload_n (q := 162) (i := 1) C (dm_Mo_one 90 rfl) rfl rfl rfl ?_
        refine gi_iload_n (q := 163) (i := 3) C (dm_Mo_one 91 rfl) rfl rfl rfl ?_
        refine gi_iload (q := 165) C (dm_Mo_one 92 rfl) rfl rfl ?_
        refine gi_callv 4 (q := 168) C (dm_Mo_one 93 rfl) rfl my_Mo_other lk_Mo_600 im_Mo_other rfl (c_Mo_other_2 (x := (gotZ z (z.cur.i + 1))) (p := p) gm R (by rw [gm, gn]; omega) (by rw [gm, gn]; omega) (show pN P 7 p < _ by rw [gm]; omega) hc H) Ha rfl rfl ⟨(Nat.le_of_ble_eq_true rfl), (Nat.le_of_ble_eq_true rfl)⟩ (Nat.le_of_ble_eq_true rfl) ⟨(Nat.le_of_ble_eq_true rfl), (Nat.le_of_ble_eq_true rfl)⟩ (fun r165 n165 h165 e165 => ?_)
        obtain ⟨rfl, qn165, p9⟩ := e165
        rw [qn165]
        have p9 := p9.tr ho fm
        refine gi_vret C hr (dm_Mo_one 94 rfl) ?_
        refine ⟨rfl, rfl, on_A (h33 (by omega)) ?_⟩
        unfold prfA
        rw [← ep, ← eop]
        rw [e]
        rw [if_pos (by decide), pa1]
        exact p9
      · have d1 := sd_1 ey (by omega)
        have y8 := y8 (by omega)
        rw [e]
        refine gi_aload_n (q := 160) (i := 0) C (dm_Mo_one 88 rfl) rfl rfl rfl ?_
        refine gi_iload_n (q := 161) (i := 2) C (dm_Mo_one 89 rfl) rfl rfl rfl ?_
        refine gi_iload_n (q := 162) (i := 1) C (dm_Mo_one 90 rfl) rfl rfl rfl ?_
        refine gi_iload_n (q := 163) (i := 3) C (dm_Mo_one 91 rfl) rfl rfl rfl ?_
        refine gi_iload (q := 165) C (dm_Mo_one 92 rfl) rfl rfl ?_
        refine gi_callv 4 (q := 168) C (dm_Mo_one 93 rfl) rfl my_Mo_other lk_Mo_600 im_Mo_other rfl (c_Mo_other_3 (x := (gotZ z (z.cur.i + 1))) (p := p) gm R (by rw [gm, gn]; omega) (P 7 p) (by rw [gm, gn]; omega) hc H) Ha rfl rfl ⟨(Nat.le_of_ble_eq_true rfl), (Nat.le_of_ble_eq_true rfl)⟩ (Nat.le_of_ble_eq_true rfl) ⟨(Nat.le_of_ble_eq_true rfl), (Nat.le_of_ble_eq_true rfl)⟩ (fun r165 n165 h165 e165 => ?_)
        obtain ⟨rfl, qn165, p9⟩ := e165
        rw [qn165]
        have p9 := p9.tr ho fm
        refine gi_vret C hr (dm_Mo_one 94 rfl) ?_
        refine ⟨rfl, rfl, on_A (h33 (by omega)) ?_⟩
        unfold prfA
        rw [← ep, ← eop]
        rw [e]
        rw [if_pos (by decide)]
        exact p9
      · have d4 := (sd_4 ey (by omega)).1
        rw [e]
        refine gi_aload_n (q := 160) (i := 0) C (dm_Mo_one 88 rfl) rfl rfl rfl ?_
        refine gi_iload_n (q := 161) (i := 2) C (dm_Mo_one 89 rfl) rfl rfl rfl ?_
        refine gi_iload_n (q := 162) (i := 1) C (dm_Mo_one 90 rfl) rfl rfl rfl ?_
        refine gi_iload_n (q := 163) (i := 3) C (dm_Mo_one 91 rfl) rfl rfl rfl ?_
        refine gi_iload (q := 165) C (dm_Mo_one 92 rfl) rfl rfl ?_
        refine gi_callv 4 (q := 168) C (dm_Mo_one 93 rfl) rfl my_Mo_other lk_Mo_600 im_Mo_other rfl (c_Mo_other_4 (x := (gotZ z (z.cur.i + 1))) (p := p) gm R (by rw [gm, gn]; omega) (P 7 p) (by rw [gm, gn]; omega) hc H) Ha rfl rfl ⟨(Nat.le_of_ble_eq_true rfl), (Nat.le_of_ble_eq_true rfl)⟩ (Nat.le_of_ble_eq_true rfl) ⟨(Nat.le_of_ble_eq_true rfl), (Nat.le_of_ble_eq_true rfl)⟩ (fun r165 n165 h165 e165 => ?_)
        obtain ⟨rfl, qn165, p9⟩ := e165
        rw [qn165]
        have p9 := p9.tr ho fm
        refine gi_vret C hr (dm_Mo_one 94 rfl) ?_
        refine ⟨rfl, rfl, on_A (h33 (by omega)) ?_⟩
        unfold prfA
        rw [← ep, ← eop]
        rw [e]
        rw [if_pos (by decide)]
        exact p9
      · have d4 := sd_4 ey (by omega)
        have d5 := d4.2 e
        have y8 := y8 (by omega)
        rw [e]
        refine gi_aload_n (q := 160) (i := 0) C (dm_Mo_one 88 rfl) rfl rfl rfl ?_
        refine gi_iload_n (q := 161) (i := 2) C (dm_Mo_one 89 rfl) rfl rfl rfl ?_
        refine gi_iload_n (q := 162) (i := 1) C (dm_Mo_one 90 rfl) rfl rfl rfl ?_
        refine gi_iload_n (q := 163) (i := 3) C (dm_Mo_one 91 rfl) rfl rfl rfl ?_
        refine gi_iload (q := 165) C (dm_Mo_one 92 rfl) rfl rfl ?_
        refine gi_callv 4 (q := 168) C (dm_Mo_one 93 rfl) rfl my_Mo_other lk_Mo_600 im_Mo_other rfl (c_Mo_other_5 (x := (gotZ z (z.cur.i + 1))) (p := p) gm R (by rw [gm, gn]; omega) (P 7 p) (by rw [gm, gn]; omega) (by rw [gm, gn]; omega) hc H) Ha rfl rfl ⟨(Nat.le_of_ble_eq_true rfl), (Nat.le_of_ble_eq_true rfl)⟩ (Nat.le_of_ble_eq_true rfl) ⟨(Nat.le_of_ble_eq_true rfl), (Nat.le_of_ble_eq_true rfl)⟩ (fun r165 n165 h165 e165 => ?_)
        obtain ⟨rfl, qn165, p9⟩ := e165
        rw [qn165]
        have p9 := p9.tr ho fm
        refine gi_vret C hr (dm_Mo_one 94 rfl) ?_
        refine ⟨rfl, rfl, on_A (h33 (by omega)) ?_⟩
        unfold prfA
        rw [← ep, ← eop]
        rw [e]
        rw [if_pos (by decide)]
        exact p9
      · have d2 := (sd_2 ey (by omega)).1
        rw [e]
        refine gi_aload_n (q := 160) (i := 0) C (dm_Mo_one 88 rfl) rfl rfl rfl ?_
        refine gi_iload_n (q := 161) (i := 2) C (dm_Mo_one 89 rfl) rfl rfl rfl ?_
        refine gi_iload_n (q := 162) (i := 1) C (dm_Mo_one 90 rfl) rfl rfl rfl ?_
        refine gi_iload_n (q := 163) (i := 3) C (dm_Mo_one 91 rfl) rfl rfl rfl ?_
        refine gi_iload (q := 165) C (dm_Mo_one 92 rfl) rfl rfl ?_
        refine gi_callv 4 (q := 168) C (dm_Mo_one 93 rfl) rfl my_Mo_other lk_Mo_600 im_Mo_other rfl (c_Mo_other_6 (x := (gotZ z (z.cur.i + 1))) (p := p) gm R (by rw [gm, gn]; omega) (P 7 p) (by rw [gm, gn]; omega) hc H) Ha rfl rfl ⟨(Nat.le_of_ble_eq_true rfl), (Nat.le_of_ble_eq_true rfl)⟩ (Nat.le_of_ble_eq_true rfl) ⟨(Nat.le_of_ble_eq_true rfl), (Nat.le_of_ble_eq_true rfl)⟩ (fun r165 n165 h165 e165 => ?_)
        obtain ⟨rfl, qn165, p9⟩ := e165
        rw [qn165]
        have p9 := p9.tr ho fm
        refine gi_vret C hr (dm_Mo_one 94 rfl) ?_
        refine ⟨rfl, rfl, on_A (h33 (by omega)) ?_⟩
        unfold prfA
        rw [← ep, ← eop]
        rw [e]
        rw [if_pos (by decide)]
        exact p9
      · have d4 := (sd_4 ey (by omega)).1
        rw [e]
        refine gi_aload_n (q := 160) (i := 0) C (dm_Mo_one 88 rfl) rfl rfl rfl ?_
        refine gi_iload_n (q := 161) (i := 2) C (dm_Mo_one 89 rfl) rfl rfl rfl ?_
        refine gi_iload_n (q := 162) (i := 1) C (dm_Mo_one 90 rfl) rfl rfl rfl ?_
        refine gi_iload_n (q := 163) (i := 3) C (dm_Mo_one 91 rfl) rfl rfl rfl ?_
        refine gi_iload (q := 165) C (dm_Mo_one 92 rfl) rfl rfl ?_
        refine gi_callv 4 (q := 168) C (dm_Mo_one 93 rfl) rfl my_Mo_other lk_Mo_600 im_Mo_other rfl (c_Mo_other_18 (x := (gotZ z (z.cur.i + 1))) (p := p) gm R (by rw [gm, gn]; omega) (P 7 p) (by rw [gm, gn]; omega) hc H) Ha rfl rfl ⟨(Nat.le_of_ble_eq_true rfl), (Nat.le_of_ble_eq_true rfl)⟩ (Nat.le_of_ble_eq_true rfl) ⟨(Nat.le_of_ble_eq_true rfl), (Nat.le_of_ble_eq_true rfl)⟩ (fun r165 n165 h165 e165 => ?_)
        obtain ⟨rfl, qn165, p9⟩ := e165
        rw [qn165]
        have p9 := p9.tr ho fm
        refine gi_vret C hr (dm_Mo_one 94 rfl) ?_
        refine ⟨rfl, rfl, on_A (h33 (by omega)) ?_⟩
        unfold prfA
        rw [← ep, ← eop]
        rw [e]
        rw [if_neg (by decide), if_pos (by decide)]
        exact p9
      · obtain ⟨pa1, pa2⟩ := pa ((od.2.1 ⟨by omega, by omega⟩).1)
        have n5 := nj (by omega) (by omega)
        rw [pa1]
        rw [e]
        refine gi_aload_n (q := 160) (i := 0) C (dm_Mo_one 88 rfl) rfl rfl rfl ?_
        refine gi_iload_n (q := 161) (i := 2) C (dm_Mo_one 89 rfl) rfl rfl rfl ?_
        refine gi_iload_n (q := 162) (i := 1) C (dm_Mo_one 90 rfl) rfl rfl rfl ?_
        refine gi_iload_n (q := 163) (i := 3) C (dm_Mo_one 91 rfl) rfl rfl rfl ?_
        refine gi_iload (q := 165) C (dm_Mo_one 92 rfl) rfl rfl ?_
        refine gi_callv 4 (q := 168) C (dm_Mo_one 93 rfl) rfl my_Mo_other lk_Mo_600 im_Mo_other rfl (c_Mo_other_19 (x := (gotZ z (z.cur.i + 1))) (p := p) gm R (by rw [gm, gn]; omega) (show pN P 7 p ≤ 60 by omega) hc H) Ha rfl rfl ⟨(Nat.le_of_ble_eq_true rfl), (Nat.le_of_ble_eq_true rfl)⟩ (Nat.le_of_ble_eq_true rfl) ⟨(Nat.le_of_ble_eq_true rfl), (Nat.le_of_ble_eq_true rfl)⟩ (fun r165 n165 h165 e165 => ?_)
        obtain ⟨rfl, qn165, p9⟩ := e165
        rw [qn165]
        have p9 := p9.tr ho fm
        refine gi_vret C hr (dm_Mo_one 94 rfl) ?_
        refine ⟨rfl, rfl, on_A (h33 (by omega)) ?_⟩
        unfold prfA
        rw [← ep, ← eop]
        rw [e]
        rw [if_neg (by decide), if_neg (by decide), if_pos (by decide)]
        exact p9
      · have d4 := (sd_4 ey (by omega)).1
        obtain ⟨pa1, pa2⟩ := pa ((od.2.1 ⟨by omega, by omega⟩).1)
        have n5 := nj (by omega) (by omega)
        rw [pa1]
        rw [e]
        refine gi_aload_n (q := 160) (i := 0) C (dm_Mo_one 88 rfl) rfl rfl rfl ?_
        refine gi_iload_n (q := 161) (i := 2) C (dm_Mo_one 89 rfl) rfl rfl rfl ?_
        refine gi_iload_n (q := 162) (i := 1) C (dm_Mo_one 90 rfl) rfl rfl rfl ?_
        refine gi_iload_n (q := 163) (i := 3) C (dm_Mo_one 91 rfl) rfl rfl rfl ?_
        refine gi_iload (q := 165) C (dm_Mo_one 92 rfl) rfl rfl ?_
        refine gi_callv 4 (q := 168) C (dm_Mo_one 93 rfl) rfl my_Mo_other lk_Mo_600 im_Mo_other rfl (c_Mo_other_26 (x := (gotZ z (z.cur.i + 1))) (p := p) gm R (by rw [gm, gn]; omega) (show pN P 7 p ≤ 60 by omega) (by rw [gm, gn]; omega) hc H) Ha rfl rfl ⟨(Nat.le_of_ble_eq_true rfl), (Nat.le_of_ble_eq_true rfl)⟩ (Nat.le_of_ble_eq_true rfl) ⟨(Nat.le_of_ble_eq_true rfl), (Nat.le_of_ble_eq_true rfl)⟩ (fun r165 n165 h165 e165 => ?_)
        obtain ⟨rfl, qn165, p9⟩ := e165
        rw [qn165]
        have p9 := p9.tr ho fm
        refine gi_vret C hr (dm_Mo_one 94 rfl) ?_
        refine ⟨rfl, rfl, on_A (h33 (by omega)) ?_⟩
        unfold prfA
        rw [← ep, ← eop]
        rw [e]
        rw [if_neg (by decide), if_neg (by decide), if_pos (by decide)]
        exact p9
      · have d4 := (sd_4 ey (by omega)).1
        obtain ⟨pa1, pa2⟩ := pa ((od.2.1 ⟨by omega, by omega⟩).1)
        have n5 := nj (by omega) (by omega)
        rw [pa1]
        rw [e]
        refine gi_aload_n (q := 160) (i := 0) C (dm_Mo_one 88 rfl) rfl rfl rfl ?_
        refine gi_iload_n (q := 161) (i := 2) C (dm_Mo_one 89 rfl) rfl rfl rfl ?_
        refine gi_iload_n (q := 162) (i := 1) C (dm_Mo_one 90 rfl) rfl rfl rfl ?_
        refine gi_iload_n (q := 163) (i := 3) C (dm_Mo_one 91 rfl) rfl rfl rfl ?_
        refine gi_iload (q := 165) C (dm_Mo_one 92 rfl) rfl rfl ?_
        refine gi_callv 4 (q := 168) C (dm_Mo_one 93 rfl) rfl my_Mo_other lk_Mo_600 im_Mo_other rfl (c_Mo_other_27 (x := (gotZ z (z.cur.i + 1))) (p := p) gm R (by rw [gm, gn]; omega) (show pN P 7 p ≤ 60 by omega) (by rw [gm, gn]; omega) hc H) Ha rfl rfl ⟨(Nat.le_of_ble_eq_true rfl), (Nat.le_of_ble_eq_true rfl)⟩ (Nat.le_of_ble_eq_true rfl) ⟨(Nat.le_of_ble_eq_true rfl), (Nat.le_of_ble_eq_true rfl)⟩ (fun r165 n165 h165 e165 => ?_)
        obtain ⟨rfl, qn165, p9⟩ := e165
        rw [qn165]
        have p9 := p9.tr ho fm
        refine gi_vret C hr (dm_Mo_one 94 rfl) ?_
        refine ⟨rfl, rfl, on_A (h33 (by omega)) ?_⟩
        unfold prfA
        rw [← ep, ← eop]
        rw [e]
        rw [if_neg (by decide), if_neg (by decide), if_pos (by decide)]
        exact p9
      · have d4 := (sd_4 ey (by omega)).1
        have s28 := stp_28 (Fc := Fz) B T (by rw [← ep, ← eop]; exact e)
        rw [← ep] at s28
        have s25 := s28.1.2
        have h15 : upA F 79 (upd (F 79) z.top (nI (p + 1))) 15 p = nI (siN k P sh p) := by
          rw [upA_n (by decide)]
          have is : isSi k P sh p = true := by
            unfold isSi
            rw [show vldB k P p = true from vld_at hm hi w8 wm.2.2.2.2 epm, ← eop, e, hx]
            rfl
          unfold siN
          rw [if_pos is]
          exact hpg.2.2.2.1 p p480 is
        rw [e]
        refine gi_aload_n (q := 160) (i := 0) C (dm_Mo_one 88 rfl) rfl rfl rfl ?_
        refine gi_iload_n (q := 161) (i := 2) C (dm_Mo_one 89 rfl) rfl rfl rfl ?_
        refine gi_iload_n (q := 162) (i := 1) C (dm_Mo_one 90 rfl) rfl rfl rfl ?_
        refine gi_iload_n (q := 163) (i := 3) C (dm_Mo_one 91 rfl) rfl rfl rfl ?_
        refine gi_iload (q := 165) C (dm_Mo_one 92 rfl) rfl rfl ?_
        refine gi_callv 4 (q := 168) C (dm_Mo_one 93 rfl) rfl my_Mo_other lk_Mo_600 im_Mo_other rfl (c_Mo_other_28 (x := (gotZ z (z.cur.i + 1))) (p := p) gm R (by rw [gm, gn]; omega) (P 7 p) (s := siN k P sh p) p480 h15 s25 (by rw [gm, gn]; omega) hc H) Ha rfl rfl ⟨(Nat.le_of_ble_eq_true rfl), (Nat.le_of_ble_eq_true rfl)⟩ (Nat.le_of_ble_eq_true rfl) ⟨(Nat.le_of_ble_eq_true rfl), (Nat.le_of_ble_eq_true rfl)⟩ (fun r165 n165 h165 e165 => ?_)
        obtain ⟨rfl, qn165, p9⟩ := e165
        rw [qn165]
        have p9 := p9.tr ho fm
        refine gi_vret C hr (dm_Mo_one 94 rfl) ?_
        refine ⟨rfl, rfl, on_A (h33 (by omega)) ?_⟩
        unfold prfA
        rw [← ep, ← eop]
        rw [e]
        rw [if_neg (by decide), if_neg (by decide), if_neg (by decide), if_pos (by decide)]
        exact p9
      · have d4 := (sd_4 ey (by omega)).1
        obtain ⟨-, r, rc, er0⟩ := (stp_29 (Fc := Fz) B T (by rw [← ep, ← eop]; exact e)).1
        have er : topV (gotZ z (z.cur.i + 1)) = nI r := by rw [top_got]; exact er0
        rw [e]
        refine gi_aload_n (q := 160) (i := 0) C (dm_Mo_one 88 rfl) rfl rfl rfl ?_
        refine gi_iload_n (q := 161) (i := 2) C (dm_Mo_one 89 rfl) rfl rfl rfl ?_
        refine gi_iload_n (q := 162) (i := 1) C (dm_Mo_one 90 rfl) rfl rfl rfl ?_
        refine gi_iload_n (q := 163) (i := 3) C (dm_Mo_one 91 rfl) rfl rfl rfl ?_
        refine gi_iload (q := 165) C (dm_Mo_one 92 rfl) rfl rfl ?_
        refine gi_callv 4 (q := 168) C (dm_Mo_one 93 rfl) rfl my_Mo_other lk_Mo_600 im_Mo_other rfl (c_Mo_other_29 (x := (gotZ z (z.cur.i + 1))) (p := p) gm R (by rw [gm, gn]; omega) (P 7 p) (r := r) (by rw [gm, gn]; omega) rc er hc H) Ha rfl rfl ⟨(Nat.le_of_ble_eq_true rfl), (Nat.le_of_ble_eq_true rfl)⟩ (Nat.le_of_ble_eq_true rfl) ⟨(Nat.le_of_ble_eq_true rfl), (Nat.le_of_ble_eq_true rfl)⟩ (fun r165 n165 h165 e165 => ?_)
        obtain ⟨rfl, qn165, p9⟩ := e165
        rw [qn165]
        have p9 := p9.tr ho fm
        refine gi_vret C hr (dm_Mo_one 94 rfl) ?_
        refine ⟨rfl, rfl, on_A (h33 (by omega)) ?_⟩
        unfold prfA
        rw [← ep, ← eop]
        rw [e]
        rw [if_neg (by decide), if_neg (by decide), if_neg (by decide), if_neg (by decide), if_pos (by decide)]
        exact p9
      · have d2 := sd_2 ey (by omega)
        have d3 := d2.1
        obtain ⟨-, r, rc, er0⟩ := (stp_30 (Fc := Fz) B T (by rw [← ep, ← eop]; exact e)).1
        have er : topV (popZ (gotZ z (z.cur.i + 1))) = nI r := by rw [top_pop, got_n, got_s, ← top_pop]; exact er0
        rw [e]
        refine gi_aload_n (q := 160) (i := 0) C (dm_Mo_one 88 rfl) rfl rfl rfl ?_
        refine gi_iload_n (q := 161) (i := 2) C (dm_Mo_one 89 rfl) rfl rfl rfl ?_
        refine gi_iload_n (q := 162) (i := 1) C (dm_Mo_one 90 rfl) rfl rfl rfl ?_
        refine gi_iload_n (q := 163) (i := 3) C (dm_Mo_one 91 rfl) rfl rfl rfl ?_
        refine gi_iload (q := 165) C (dm_Mo_one 92 rfl) rfl rfl ?_
        refine gi_callv 4 (q := 168) C (dm_Mo_one 93 rfl) rfl my_Mo_other lk_Mo_600 im_Mo_other rfl (c_Mo_other_30 (x := (gotZ z (z.cur.i + 1))) (p := p) gm R (by rw [gm, gn]; omega) (P 7 p) (r := r) (by rw [gm, gn]; omega) rc er hc H) Ha rfl rfl ⟨(Nat.le_of_ble_eq_true rfl), (Nat.le_of_ble_eq_true rfl)⟩ (Nat.le_of_ble_eq_true rfl) ⟨(Nat.le_of_ble_eq_true rfl), (Nat.le_of_ble_eq_true rfl)⟩ (fun r165 n165 h165 e165 => ?_)
        obtain ⟨rfl, qn165, p9⟩ := e165
        rw [qn165]
        have p9 := p9.tr ho fm
        refine gi_vret C hr (dm_Mo_one 94 rfl) ?_
        refine ⟨rfl, rfl, on_A (h33 (by omega)) ?_⟩
        unfold prfA
        rw [← ep, ← eop]
        rw [e]
        rw [if_neg (by decide), if_neg (by decide), if_neg (by decide), if_neg (by decide), if_pos (by decide)]
        exact p9
      · have d2 := sd_2 ey (by omega)
        have d3 := d2.2 e
        obtain ⟨-, r, rc, er0⟩ := (stp_31 (Fc := Fz) B T (by rw [← ep, ← eop]; exact e)).1
        have er : topV (popZ (popZ (gotZ z (z.cur.i + 1)))) = nI r := by rw [top_pop2, got_n, got_s, ← top_pop2]; exact er0
        rw [e]
        refine gi_aload_n (q := 160) (i := 0) C (dm_Mo_one 88 rfl) rfl rfl rfl ?_
        refine gi_iload_n (q := 161) (i := 2) C (dm_Mo_one 89 rfl) rfl rfl rfl ?_
        refine gi_iload_n (q := 162) (i := 1) C (dm_Mo_one 90 rfl) rfl rfl rfl ?_
        refine gi_iload_n (q := 163) (i := 3) C (dm_Mo_one 91 rfl) rfl rfl rfl ?_
        refine gi_iload (q := 165) C (dm_Mo_one 92 rfl) rfl rfl ?_
        refine gi_callv 4 (q := 168) C (dm_Mo_one 93 rfl) rfl my_Mo_other lk_Mo_600 im_Mo_other rfl (c_Mo_other_31 (x := (gotZ z (z.cur.i + 1))) (p := p) gm R (by rw [gm, gn]; omega) (P 7 p) (r := r) (by rw [gm, gn]; omega) rc er hc H) Ha rfl rfl ⟨(Nat.le_of_ble_eq_true rfl), (Nat.le_of_ble_eq_true rfl)⟩ (Nat.le_of_ble_eq_true rfl) ⟨(Nat.le_of_ble_eq_true rfl), (Nat.le_of_ble_eq_true rfl)⟩ (fun r165 n165 h165 e165 => ?_)
        obtain ⟨rfl, qn165, p9⟩ := e165
        rw [qn165]
        have p9 := p9.tr ho fm
        refine gi_vret C hr (dm_Mo_one 94 rfl) ?_
        refine ⟨rfl, rfl, on_A (h33 (by omega)) ?_⟩
        unfold prfA
        rw [← ep, ← eop]
        rw [e]
        rw [if_neg (by decide), if_neg (by decide), if_neg (by decide), if_neg (by decide), if_pos (by decide)]
        exact p9
      · obtain ⟨pa1, ak, -⟩ := (stp_32 B T (by rw [← ep, ← eop]; exact e)).1
        rw [← ep] at pa1 ak
        have wa := wf_ar W ak
        have e1 : upA F 79 (upd (F 79) z.top (nI (p + 1))) 1 (pN P 7 p) = nI (pN P 1 (pN P 7 p)) := by
          rw [upA_n (by decide), hpg.1 1 (by decide) (by decide)]
          exact (wf_n W ak).1
        have dk : pN P 1 (pN P 7 p) ≤ x0.1 := by
          rw [e] at ey
          obtain ⟨u, e1, -⟩ := Option.map_eq_some_iff.mp (show (tkN P (pN P 7 p) (pN P 1 (pN P 7 p)) x0).map _ = some y0 from ey)
          exact (vT_tkN _ X.2.2.2.2.1 e1 X.2.2.2.1).2.1
        rw [pa1]
        rw [e]
        refine gi_aload_n (q := 160) (i := 0) C (dm_Mo_one 88 rfl) rfl rfl rfl ?_
        refine gi_iload_n (q := 161) (i := 2) C (dm_Mo_one 89 rfl) rfl rfl rfl ?_
        refine gi_iload_n (q := 162) (i := 1) C (dm_Mo_one 90 rfl) rfl rfl rfl ?_
        refine gi_iload_n (q := 163) (i := 3) C (dm_Mo_one 91 rfl) rfl rfl rfl ?_
        refine gi_iload (q := 165) C (dm_Mo_one 92 rfl) rfl rfl ?_
        refine gi_callv 4 (q := 168) C (dm_Mo_one 93 rfl) rfl my_Mo_other lk_Mo_600 im_Mo_other rfl (c_Mo_other_32 (x := (gotZ z (z.cur.i + 1))) (p := p) gm R (by rw [gm, gn]; omega) (show pN P 7 p < 8 by omega) e1 wa.1 wa.2.2.1 wa.2.1 (by rw [gm, gn]; omega) hc H) Ha rfl rfl ⟨(Nat.le_of_ble_eq_true rfl), (Nat.le_of_ble_eq_true rfl)⟩ (Nat.le_of_ble_eq_true rfl) ⟨(Nat.le_of_ble_eq_true rfl), (Nat.le_of_ble_eq_true rfl)⟩ (fun r165 n165 h165 e165 => ?_)
        obtain ⟨rfl, qn165, p9⟩ := e165
        rw [qn165]
        have p9 := p9.tr ho fm
        refine gi_vret C hr (dm_Mo_one 94 rfl) ?_
        refine ⟨rfl, rfl, on_A (h33 (by omega)) ?_⟩
        unfold prfA
        rw [← ep, ← eop]
        rw [e]
        rw [if_neg (by decide), if_neg (by decide), if_neg (by decide), if_neg (by decide), if_neg (by decide), if_pos (by decide)]
        exact p9
      · obtain ⟨⟨s1, s2, s3⟩, -⟩ := stp_33 B T (by rw [← ep, ← eop]; exact e)
        have rm4 : upA F 79 (upd (F 79) z.top (nI (p + 1))) 4 z.cur.m = nI (pN P 4 z.cur.m) := by
          rw [upA_n (by decide), hpg.1 4 (by decide) (by decide)]
          exact (wf_n W hm).2.2.1
        rw [e] at ey
        have h7 : pN P 4 z.cur.m ≠ 0 → 0 < z.top → (dwnZ (popZ (gotZ z (z.cur.i + 1)))).cur.n - pN P 2 (dwnZ (popZ (gotZ z (z.cur.i + 1)))).cur.m < 8 := fun q0 qt => by
          have kc : (dwnZ (popZ (gotZ z (z.cur.i + 1)))).cur = z.fr (z.top - 1) := by
            show upO (upO z.fr z.top _) z.top _ (z.top - 1) = _
            rw [upO_ne (by omega), upO_ne (by omega)]
          rw [kc]
          obtain ⟨b1, b2, u, b3, b4, b5⟩ := T.2.2.2 (z.top - 1) (by show z.top - 1 < z.top; omega)
          rw [show z.top - 1 + 1 = z.top by omega] at b3
          have b3' : sh (60 * (z.fr (z.top - 1)).m + (z.fr (z.top - 1)).i) = some (rsS (pN P 4 z.cur.m) u) := b3
          unfold rsS at b3'
          rw [if_neg q0] at b3'
          obtain ⟨_, _, _, _, _, q8, _⟩ := B.at_ _ _ b3'
          have q8' : u.1 + 1 ≤ 8 := q8
          have b6 := b5.1
          omega
        rw [e]
        refine gi_aload_n (q := 160) (i := 0) C (dm_Mo_one 88 rfl) rfl rfl rfl ?_
        refine gi_iload_n (q := 161) (i := 2) C (dm_Mo_one 89 rfl) rfl rfl rfl ?_
        refine gi_iload_n (q := 162) (i := 1) C (dm_Mo_one 90 rfl) rfl rfl rfl ?_
        refine gi_iload_n (q := 163) (i := 3) C (dm_Mo_one 91 rfl) rfl rfl rfl ?_
        refine gi_iload (q := 165) C (dm_Mo_one 92 rfl) rfl rfl ?_
        refine gi_callv 4 (q := 168) C (dm_Mo_one 93 rfl) rfl my_Mo_other lk_Mo_600 im_Mo_other rfl (c_Mo_other_33 (x := (gotZ z (z.cur.i + 1))) (p := p) gm R (by rw [gm, gn]; omega) (P 7 p) (by rw [gm]; exact rm4) (by rw [gm]; exact wm.2.2.2.1) (by rw [gm, gn]; intro q; have := sd_33 ey q; omega) (by rw [gm, top_got]; exact s2) (by rw [gm]; exact h7) hc H) Ha rfl rfl ⟨(Nat.le_of_ble_eq_true rfl), (Nat.le_of_ble_eq_true rfl)⟩ (Nat.le_of_ble_eq_true rfl) ⟨(Nat.le_of_ble_eq_true rfl), (Nat.le_of_ble_eq_true rfl)⟩ (fun r165 n165 h165 e165 => ?_)
        obtain ⟨rfl, qn165, p9⟩ := e165
        rw [qn165]
        refine gi_vret C hr (dm_Mo_one 94 rfl) ?_
        refine ⟨rfl, rfl, on_33 (by rw [← ep, ← eop]; exact e) (lv_tr ho fm (lv_got p9))⟩
      · have d1 := sd_1 ey (by omega)
        have y8 := y8 (by omega)
        obtain ⟨pa1, pa2⟩ := pa ((od.2.2.2 (by omega)).1)
        have l4 := (od.2.2.2 (by omega)).2
        rw [pa1]
        rw [e]
        refine gi_aload_n (q := 160) (i := 0) C (dm_Mo_one 88 rfl) rfl rfl rfl ?_
        refine gi_iload_n (q := 161) (i := 2) C (dm_Mo_one 89 rfl) rfl rfl rfl ?_
        refine gi_iload_n (q := 162) (i := 1) C (dm_Mo_one 90 rfl) rfl rfl rfl ?_
        refine gi_iload_n (q := 163) (i := 3) C (dm_Mo_one 91 rfl) rfl rfl rfl ?_
        refine gi_iload (q := 165) C (dm_Mo_one 92 rfl) rfl rfl ?_
        refine gi_callv 4 (q := 168) C (dm_Mo_one 93 rfl) rfl my_Mo_other lk_Mo_600 im_Mo_other rfl (c_Mo_other_34 (x := (gotZ z (z.cur.i + 1))) (p := p) gm R (by rw [gm, gn]; omega) (show pN P 7 p < 4 by omega) (by rw [gm, gn]; omega) hc H) Ha rfl rfl ⟨(Nat.le_of_ble_eq_true rfl), (Nat.le_of_ble_eq_true rfl)⟩ (Nat.le_of_ble_eq_true rfl) ⟨(Nat.le_of_ble_eq_true rfl), (Nat.le_of_ble_eq_true rfl)⟩ (fun r165 n165 h165 e165 => ?_)
        obtain ⟨rfl, qn165, p9⟩ := e165
        rw [qn165]
        have p9 := p9.tr ho fm
        refine gi_vret C hr (dm_Mo_one 94 rfl) ?_
        refine ⟨rfl, rfl, on_A (h33 (by omega)) ?_⟩
        unfold prfA
        rw [← ep, ← eop]
        rw [e]
        rw [if_neg (by decide), if_neg (by decide), if_neg (by decide), if_neg (by decide), if_neg (by decide), if_neg (by decide)]
        exact p9
      · have d4 := (sd_4 ey (by omega)).1
        obtain ⟨pa1, pa2⟩ := pa ((od.2.2.2 (by omega)).1)
        have l4 := (od.2.2.2 (by omega)).2
        rw [pa1]
        rw [e]
        refine gi_aload_n (q := 160) (i := 0) C (dm_Mo_one 88 rfl) rfl rfl rfl ?_
        refine gi_iload_n (q := 161) (i := 2) C (dm_Mo_one 89 rfl) rfl rfl rfl ?_
        refine gi_iload_n (q := 162) (i := 1) C (dm_Mo_one 90 rfl) rfl rfl rfl ?_
        refine gi_iload_n (q := 163) (i := 3) C (dm_Mo_one 91 rfl) rfl rfl rfl ?_
        refine gi_iload (q := 165) C (dm_Mo_one 92 rfl) rfl rfl ?_
        refine gi_callv 4 (q := 168) C (dm_Mo_one 93 rfl) rfl my_Mo_other lk_Mo_600 im_Mo_other rfl (c_Mo_other_35 (x := (gotZ z (z.cur.i + 1))) (p := p) gm R (by rw [gm, gn]; omega) (show pN P 7 p < 4 by omega) (by rw [gm, gn]; omega) hc H) Ha rfl rfl ⟨(Nat.le_of_ble_eq_true rfl), (Nat.le_of_ble_eq_true rfl)⟩ (Nat.le_of_ble_eq_true rfl) ⟨(Nat.le_of_ble_eq_true rfl), (Nat.le_of_ble_eq_true rfl)⟩ (fun r165 n165 h165 e165 => ?_)
        obtain ⟨rfl, qn165, p9⟩ := e165
        rw [qn165]
        have p9 := p9.tr ho fm
        refine gi_vret C hr (dm_Mo_one 94 rfl) ?_
        refine ⟨rfl, rfl, on_A (h33 (by omega)) ?_⟩
        unfold prfA
        rw [← ep, ← eop]
        rw [e]
        rw [if_neg (by decide), if_neg (by decide), if_neg (by decide), if_neg (by decide), if_neg (by decide), if_neg (by decide)]
        exact p9
    · refine gi_iload_n (q := 110) (i := 3) C (dm_Mo_one 61 rfl) rfl rfl rfl ?_
      refine gi_bipush (q := 112) (v := 25) C (dm_Mo_one 62 rfl) rfl (by decide) ?_
      refine gi_icmp_gt (q := 115) (tgt := 159) C (dm_Mo_one 63 rfl) rfl (by decide) (fun c112 => ?_) (fun c112 => ?_)
      · have hop : (op < 7 ∨ 17 < op) ∧ (op < 20 ∨ 25 < op) := by
          refine ⟨?_, ?_⟩
          · first
              | (have q := c42; rw [show (7 : Int32) = nI 7 from rfl, nI_ltP (by omega) (by decide)] at q; exact .inl q)
              | (have q := c48; rw [show (17 : Int32) = nI 17 from rfl, nI_ltP (by decide) (by omega)] at q; exact .inr q)
          · first
              | (have q := c106; rw [show (20 : Int32) = nI 20 from rfl, nI_ltP (by omega) (by decide)] at q; exact .inl q)
              | (have q := c112; rw [show (25 : Int32) = nI 25 from rfl, nI_ltP (by decide) (by omega)] at q; exact .inr q)
        rcases (show op = 0 ∨ op = 1 ∨ op = 2 ∨ op = 3 ∨ op = 4 ∨ op = 5 ∨ op = 6 ∨ op = 18 ∨ op = 19 ∨ op = 26 ∨ op = 27 ∨ op = 28 ∨ op = 29 ∨ op = 30 ∨ op = 31 ∨ op = 32 ∨ op = 33 ∨ op = 34 ∨ op = 35 by omega) with e | e | e | e | e | e | e | e | e | e | e | e | e | e | e | e | e | e | e
        · have d1 := sd_1 ey (by omega)
          have y8 := y8 (by omega)
          rw [e]
          refine gi_aload_n (q := 160) (i := 0) C (dm_Mo_one 88 rfl) rfl rfl rfl ?_
          refine gi_iload_n (q := 161) (i := 2) C (dm_Mo_one 89 rfl) rfl rfl rfl ?_
          refine gi_iload_n (q := 162) (i := 1) C (dm_Mo_one 90 rfl) rfl rfl rfl ?_
          refine gi_iload_n (q := 163) (i := 3) C (dm_Mo_one 91 rfl) rfl rfl rfl ?_
          refine gi_iload (q := 165) C (dm_Mo_one 92 rfl) rfl rfl ?_
          refine gi_callv 4 (q := 168) C (dm_Mo_one 93 rfl) rfl my_Mo_other lk_Mo_600 im_Mo_other rfl (c_Mo_other_0 (x := (gotZ z (z.cur.i + 1))) (p := p) gm R (by rw [gm, gn]; omega) (P 7 p) (by rw [gm, gn]; omega) hc H) Ha rfl rfl ⟨(Nat.le_of_ble_eq_true rfl), (Nat.le_of_ble_eq_true rfl)⟩ (Nat.le_of_ble_eq_true rfl) ⟨(Nat.le_of_ble_eq_true rfl), (Nat.le_of_ble_eq_true rfl)⟩ (fun r165 n165 h165 e165 => ?_)
          obtain ⟨rfl, qn165, p9⟩ := e165
          rw [qn165]
          have p9 := p9.tr ho fm
          refine gi_vret C hr (dm_Mo_one 94 rfl) ?_
          refine ⟨rfl, rfl, on_A (h33 (by omega)) ?_⟩
          unfold prfA
          rw [← ep, ← eop]
          rw [e]
          rw [if_pos (by decide)]
          exact p9
        · have d1 := sd_1 ey (by omega)
          have y8 := y8 (by omega)
          obtain ⟨pa1, pa2⟩ := pa ((od.1 (by omega)).1)
          have la := (od.1 (by omega)).2
          rw [pa1]
          rw [e]
          refine gi_aload_n (q := 160) (i := 0) C (dm_Mo_one 88 rfl) rfl rfl rfl ?_
          refine gi_iload_n (q := 161) (i := 2) C (dm_Mo_one 89 rfl) rfl rfl rfl ?_
          refine gi_iload_n (q := 162) (i := 1) C (dm_Mo_one 90 rfl) rfl rfl rfl ?_
          refine gi_iload_n (q := 163) (i := 3) C (dm_Mo_one 91 rfl) rfl rfl rfl ?_
          refine gi_iload (q := 165) C (dm_Mo_one 92 rfl) rfl rfl ?_
          refine gi_callv 4 (q := 168) C (dm_Mo_one 93 rfl) rfl my_Mo_other lk_Mo_600 im_Mo_other rfl (c_Mo_other_1 (x := (gotZ z (z.cur.i + 1))) (p := p) gm R (by rw [gm, gn]; omega) (by rw [gm, gn]; omega) (show pN P 7 p < _ by rw [gm]; omega) hc H) Ha rfl rfl ⟨(Nat.le_of_ble_eq_true rfl), (Nat.le_of_ble_eq_true rfl)⟩ (Nat.le_of_ble_eq_true rfl) ⟨(Nat.le_of_ble_eq_true rfl), (Nat.le_of_ble_eq_true rfl)⟩ (fun r165 n165 h165 e165 => ?_)
          obtain ⟨rfl, qn165, p9⟩ := e165
          rw [qn165]
          have p9 := p9.tr ho fm
          refine gi_vret C hr (dm_Mo_one 94 rfl) ?_
          refine ⟨rfl, rfl, on_A (h33 (by omega)) ?_⟩
          unfold prfA
          rw [← ep, ← eop]
          rw [e]
          rw [if_pos (by decide), pa1]
          exact p9
        · have d4 := (sd_4 ey (by omega)).1
          obtain ⟨pa1, pa2⟩ := pa ((od.1 (by omega)).1)
          have la := (od.1 (by omega)).2
          rw [pa1]
          rw [e]
          refine gi_aload_n (q := 160) (i := 0) C (dm_Mo_one 88 rfl) rfl rfl rfl ?_
          refine gi_iload_n (q := 161) (i := 2) C (dm_Mo_one 89 rfl) rfl rfl rfl ?_
          refine gi_iload_n (q := 162) (i := 1) C (dm_Mo_one 90 rfl) rfl rfl rfl ?_
          refine gi_iload_n (q := 163) (i := 3) C (dm_Mo_one 91 rfl) rfl rfl rfl ?_
          refine gi_iload (q := 165) C (dm_Mo_one 92 rfl) rfl rfl ?_
          refine gi_callv 4 (q := 168) C (dm_Mo_one 93 rfl) rfl my_Mo_other lk_Mo_600 im_Mo_other rfl (c_Mo_other_2 (x := (gotZ z (z.cur.i + 1))) (p := p) gm R (by rw [gm, gn]; omega) (by rw [gm, gn]; omega) (show pN P 7 p < _ by rw [gm]; omega) hc H) Ha rfl rfl ⟨(Nat.le_of_ble_eq_true rfl), (Nat.le_of_ble_eq_true rfl)⟩ (Nat.le_of_ble_eq_true rfl) ⟨(Nat.le_of_ble_eq_true rfl), (Nat.le_of_ble_eq_true rfl)⟩ (fun r165 n165 h165 e165 => ?_)
          obtain ⟨rfl, qn165, p9⟩ := e165
          rw [qn165]
          have p9 := p9.tr ho fm
          refine gi_vret C hr (dm_Mo_one 94 rfl) ?_
          refine ⟨rfl, rfl, on_A (h33 (by omega)) ?_⟩
          unfold prfA
          rw [← ep, ← eop]
          rw [e]
          rw [if_pos (by decide), pa1]
          exact p9
        · have d1 := sd_1 ey (by omega)
          have y8 := y8 (by omega)
          rw [e]
          refine gi_aload_n (q := 160) (i := 0) C (dm_Mo_one 88 rfl) rfl rfl rfl ?_
          refine gi_iload_n (q := 161) (i := 2) C (dm_Mo_one 89 rfl) rfl rfl rfl ?_
          refine gi_iload_n (q := 162) (i := 1) C (dm_Mo_one 90 rfl) rfl rfl rfl ?_
          refine gi_iload_n (q := 163) (i := 3) C (dm_Mo_one 91 rfl) rfl rfl rfl ?_
          refine gi_iload (q := 165) C (dm_Mo_one 92 rfl) rfl rfl ?_
          refine gi_callv 4 (q := 168) C (dm_Mo_one 93 rfl) rfl my_Mo_other lk_Mo_600 im_Mo_other rfl (c_Mo_other_3 (x := (gotZ z (z.cur.i + 1))) (p := p) gm R (by rw [gm, gn]; omega) (P 7 p) (by rw [gm, gn]; omega) hc H) Ha rfl rfl ⟨(Nat.le_of_ble_eq_true rfl), (Nat.le_of_ble_eq_true rfl)⟩ (Nat.le_of_ble_eq_true rfl) ⟨(Nat.le_of_ble_eq_true rfl), (Nat.le_of_ble_eq_true rfl)⟩ (fun r165 n165 h165 e165 => ?_)
          obtain ⟨rfl, qn165, p9⟩ := e165
          rw [qn165]
          have p9 := p9.tr ho fm
          refine gi_vret C hr (dm_Mo_one 94 rfl) ?_
          refine ⟨rfl, rfl, on_A (h33 (by omega)) ?_⟩
          unfold prfA
          rw [← ep, ← eop]
          rw [e]
          rw [if_pos (by decide)]
          exact p9
        · have d4 := (sd_4 ey (by omega)).1
          rw [e]
          refine gi_aload_n (q := 160) (i := 0) C (dm_Mo_one 88 rfl) rfl rfl rfl ?_
          refine gi_iload_n (q := 161) (i := 2) C (dm_Mo_one 89 rfl) rfl rfl rfl ?_
          refine gi_iload_n (q := 162) (i := 1) C (dm_Mo_one 90 rfl) rfl rfl rfl ?_
          refine gi_iload_n (q := 163) (i := 3) C (dm_Mo_one 91 rfl) rfl rfl rfl ?_
          refine gi_iload (q := 165) C (dm_Mo_one 92 rfl) rfl rfl ?_
          refine gi_callv 4 (q := 168) C (dm_Mo_one 93 rfl) rfl my_Mo_other lk_Mo_600 im_Mo_other rfl (c_Mo_other_4 (x := (gotZ z (z.cur.i + 1))) (p := p) gm R (by rw [gm, gn]; omega) (P 7 p) (by rw [gm, gn]; omega) hc H) Ha rfl rfl ⟨(Nat.le_of_ble_eq_true rfl), (Nat.le_of_ble_eq_true rfl)⟩ (Nat.le_of_ble_eq_true rfl) ⟨(Nat.le_of_ble_eq_true rfl), (Nat.le_of_ble_eq_true rfl)⟩ (fun r165 n165 h165 e165 => ?_)
          obtain ⟨rfl, qn165, p9⟩ := e165
          rw [qn165]
          have p9 := p9.tr ho fm
          refine gi_vret C hr (dm_Mo_one 94 rfl) ?_
          refine ⟨rfl, rfl, on_A (h33 (by omega)) ?_⟩
          unfold prfA
          rw [← ep, ← eop]
          rw [e]
          rw [if_pos (by decide)]
          exact p9
        · have d4 := sd_4 ey (by omega)
          have d5 := d4.2 e
          have y8 := y8 (by omega)
          rw [e]
          refine gi_aload_n (q := 160) (i := 0) C (dm_Mo_one 88 rfl) rfl rfl rfl ?_
          refine gi_iload_n (q := 161) (i := 2) C (dm_Mo_one 89 rfl) rfl rfl rfl ?_
          refine gi_iload_n (q := 162) (i := 1) C (dm_Mo_one 90 rfl) rfl rfl rfl ?_
          refine gi_iload_n (q := 163) (i := 3) C (dm_Mo_one 91 rfl) rfl rfl rfl ?_
          refine gi_iload (q := 165) C (dm_Mo_one 92 rfl) rfl rfl ?_
          refine gi_callv 4 (q := 168) C (dm_Mo_one 93 rfl) rfl my_Mo_other lk_Mo_600 im_Mo_other rfl (c_Mo_other_5 (x := (gotZ z (z.cur.i + 1))) (p := p) gm R (by rw [gm, gn]; omega) (P 7 p) (by rw [gm, gn]; omega) (by rw [gm, gn]; omega) hc H) Ha rfl rfl ⟨(Nat.le_of_ble_eq_true rfl), (Nat.le_of_ble_eq_true rfl)⟩ (Nat.le_of_ble_eq_true rfl) ⟨(Nat.le_of_ble_eq_true rfl), (Nat.le_of_ble_eq_true rfl)⟩ (fun r165 n165 h165 e165 => ?_)
          obtain ⟨rfl, qn165, p9⟩ := e165
          rw [qn165]
          have p9 := p9.tr ho fm
          refine gi_vret C hr (dm_Mo_one 94 rfl) ?_
          refine ⟨rfl, rfl, on_A (h33 (by omega)) ?_⟩
          unfold prfA
          rw [← ep, ← eop]
          rw [e]
          rw [if_pos (by decide)]
          exact p9
        · have d2 := (sd_2 ey (by omega)).1
          rw [e]
          refine gi_aload_n (q := 160) (i := 0) C (dm_Mo_one 88 rfl) rfl rfl rfl ?_
          refine gi_iload_n (q := 161) (i := 2) C (dm_Mo_one 89 rfl) rfl rfl rfl ?_
          refine gi_iload_n (q := 162) (i := 1) C (dm_Mo_one 90 rfl) rfl rfl rfl ?_
          refine gi_iload_n (q := 163) (i := 3) C (dm_Mo_one 91 rfl) rfl rfl rfl ?_
          refine gi_iload (q := 165) C (dm_Mo_one 92 rfl) rfl rfl ?_
          refine gi_callv 4 (q := 168) C (dm_Mo_one 93 rfl) rfl my_Mo_other lk_Mo_600 im_Mo_other rfl (c_Mo_other_6 (x := (gotZ z (z.cur.i + 1))) (p := p) gm R (by rw [gm, gn]; omega) (P 7 p) (by rw [gm, gn]; omega) hc H) Ha rfl rfl ⟨(Nat.le_of_ble_eq_true rfl), (Nat.le_of_ble_eq_true rfl)⟩ (Nat.le_of_ble_eq_true rfl) ⟨(Nat.le_of_ble_eq_true rfl), (Nat.le_of_ble_eq_true rfl)⟩ (fun r165 n165 h165 e165 => ?_)
          obtain ⟨rfl, qn165, p9⟩ := e165
          rw [qn165]
          have p9 := p9.tr ho fm
          refine gi_vret C hr (dm_Mo_one 94 rfl) ?_
          refine ⟨rfl, rfl, on_A (h33 (by omega)) ?_⟩
          unfold prfA
          rw [← ep, ← eop]
          rw [e]
          rw [if_pos (by decide)]
          exact p9
        · have d4 := (sd_4 ey (by omega)).1
          rw [e]
          refine gi_aload_n (q := 160) (i := 0) C (dm_Mo_one 88 rfl) rfl rfl rfl ?_
          refine gi_iload_n (q := 161) (i := 2) C (dm_Mo_one 89 rfl) rfl rfl rfl ?_
          refine gi_iload_n (q := 162) (i := 1) C (dm_Mo_one 90 rfl) rfl rfl rfl ?_
          refine gi_iload_n (q := 163) (i := 3) C (dm_Mo_one 91 rfl) rfl rfl rfl ?_
          refine gi_iload (q := 165) C (dm_Mo_one 92 rfl) rfl rfl ?_
          refine gi_callv 4 (q := 168) C (dm_Mo_one 93 rfl) rfl my_Mo_other lk_Mo_600 im_Mo_other rfl (c_Mo_other_18 (x := (gotZ z (z.cur.i + 1))) (p := p) gm R (by rw [gm, gn]; omega) (P 7 p) (by rw [gm, gn]; omega) hc H) Ha rfl rfl ⟨(Nat.le_of_ble_eq_true rfl), (Nat.le_of_ble_eq_true rfl)⟩ (Nat.le_of_ble_eq_true rfl) ⟨(Nat.le_of_ble_eq_true rfl), (Nat.le_of_ble_eq_true rfl)⟩ (fun r165 n165 h165 e165 => ?_)
          obtain ⟨rfl, qn165, p9⟩ := e165
          rw [qn165]
          have p9 := p9.tr ho fm
          refine gi_vret C hr (dm_Mo_one 94 rfl) ?_
          refine ⟨rfl, rfl, on_A (h33 (by omega)) ?_⟩
          unfold prfA
          rw [← ep, ← eop]
          rw [e]
          rw [if_neg (by decide), if_pos (by decide)]
          exact p9
        · obtain ⟨pa1, pa2⟩ := pa ((od.2.1 ⟨by omega, by omega⟩).1)
          have n5 := nj (by omega) (by omega)
          rw [pa1]
          rw [e]
          refine gi_aload_n (q := 160) (i := 0) C (dm_Mo_one 88 rfl) rfl rfl rfl ?_
          refine gi_iload_n (q := 161) (i := 2) C (dm_Mo_one 89 rfl) rfl rfl rfl ?_
          refine gi_iload_n (q := 162) (i := 1) C (dm_Mo_one 90 rfl) rfl rfl rfl ?_
          refine gi_iload_n (q := 163) (i := 3) C (dm_Mo_one 91 rfl) rfl rfl rfl ?_
          refine gi_iload (q := 165) C (dm_Mo_one 92 rfl) rfl rfl ?_
          refine gi_callv 4 (q := 168) C (dm_Mo_one 93 rfl) rfl my_Mo_other lk_Mo_600 im_Mo_other rfl (c_Mo_other_19 (x := (gotZ z (z.cur.i + 1))) (p := p) gm R (by rw [gm, gn]; omega) (show pN P 7 p ≤ 60 by omega) hc H) Ha rfl rfl ⟨(Nat.le_of_ble_eq_true rfl), (Nat.le_of_ble_eq_true rfl)⟩ (Nat.le_of_ble_eq_true rfl) ⟨(Nat.le_of_ble_eq_true rfl), (Nat.le_of_ble_eq_true rfl)⟩ (fun r165 n165 h165 e165 => ?_)
          obtain ⟨rfl, qn165, p9⟩ := e165
          rw [qn165]
          have p9 := p9.tr ho fm
          refine gi_vret C hr (dm_Mo_one 94 rfl) ?_
          refine ⟨rfl, rfl, on_A (h33 (by omega)) ?_⟩
          unfold prfA
          rw [← ep, ← eop]
          rw [e]
          rw [if_neg (by decide), if_neg (by decide), if_pos (by decide)]
          exact p9
        · have d4 := (sd_4 ey (by omega)).1
          obtain ⟨pa1, pa2⟩ := pa ((od.2.1 ⟨by omega, by omega⟩).1)
          have n5 := nj (by omega) (by omega)
          rw [pa1]
          rw [e]
          refine gi_aload_n (q := 160) (i := 0) C (dm_Mo_one 88 rfl) rfl rfl rfl ?_
          refine gi_iload_n (q := 161) (i := 2) C (dm_Mo_one 89 rfl) rfl rfl rfl ?_
          refine gi_iload_n (q := 162) (i := 1) C (dm_Mo_one 90 rfl) rfl rfl rfl ?_
          refine gi_iload_n (q := 163) (i := 3) C (dm_Mo_one 91 rfl) rfl rfl rfl ?_
          refine gi_iload (q := 165) C (dm_Mo_one 92 rfl) rfl rfl ?_
          refine gi_callv 4 (q := 168) C (dm_Mo_one 93 rfl) rfl my_Mo_other lk_Mo_600 im_Mo_other rfl (c_Mo_other_26 (x := (gotZ z (z.cur.i + 1))) (p := p) gm R (by rw [gm, gn]; omega) (show pN P 7 p ≤ 60 by omega) (by rw [gm, gn]; omega) hc H) Ha rfl rfl ⟨(Nat.le_of_ble_eq_true rfl), (Nat.le_of_ble_eq_true rfl)⟩ (Nat.le_of_ble_eq_true rfl) ⟨(Nat.le_of_ble_eq_true rfl), (Nat.le_of_ble_eq_true rfl)⟩ (fun r165 n165 h165 e165 => ?_)
          obtain ⟨rfl, qn165, p9⟩ := e165
          rw [qn165]
          have p9 := p9.tr ho fm
          refine gi_vret C hr (dm_Mo_one 94 rfl) ?_
          refine ⟨rfl, rfl, on_A (h33 (by omega)) ?_⟩
          unfold prfA
          rw [← ep, ← eop]
          rw [e]
          rw [if_neg (by decide), if_neg (by decide), if_pos (by decide)]
          exact p9
        · have d4 := (sd_4 ey (by omega)).1
          obtain ⟨pa1, pa2⟩ := pa ((od.2.1 ⟨by omega, by omega⟩).1)
          have n5 := nj (by omega) (by omega)
          rw [pa1]
          rw [e]
          refine gi_aload_n (q := 160) (i := 0) C (dm_Mo_one 88 rfl) rfl rfl rfl ?_
          refine gi_iload_n (q := 161) (i := 2) C (dm_Mo_one 89 rfl) rfl rfl rfl ?_
          refine gi_iload_n (q := 162) (i := 1) C (dm_Mo_one 90 rfl) rfl rfl rfl ?_
          refine gi_iload_n (q := 163) (i := 3) C (dm_Mo_one 91 rfl) rfl rfl rfl ?_
          refine gi_iload (q := 165) C (dm_Mo_one 92 rfl) rfl rfl ?_
          refine gi_callv 4 (q := 168) C (dm_Mo_one 93 rfl) rfl my_Mo_other lk_Mo_600 im_Mo_other rfl (c_Mo_other_27 (x := (gotZ z (z.cur.i + 1))) (p := p) gm R (by rw [gm, gn]; omega) (show pN P 7 p ≤ 60 by omega) (by rw [gm, gn]; omega) hc H) Ha rfl rfl ⟨(Nat.le_of_ble_eq_true rfl), (Nat.le_of_ble_eq_true rfl)⟩ (Nat.le_of_ble_eq_true rfl) ⟨(Nat.le_of_ble_eq_true rfl), (Nat.le_of_ble_eq_true rfl)⟩ (fun r165 n165 h165 e165 => ?_)
          obtain ⟨rfl, qn165, p9⟩ := e165
          rw [qn165]
          have p9 := p9.tr ho fm
          refine gi_vret C hr (dm_Mo_one 94 rfl) ?_
          refine ⟨rfl, rfl, on_A (h33 (by omega)) ?_⟩
          unfold prfA
          rw [← ep, ← eop]
          rw [e]
          rw [if_neg (by decide), if_neg (by decide), if_pos (by decide)]
          exact p9
        · have d4 := (sd_4 ey (by omega)).1
          have s28 := stp_28 (Fc := Fz) B T (by rw [← ep, ← eop]; exact e)
          rw [← ep] at s28
          have s25 := s28.1.2
          have h15 : upA F 79 (upd (F 79) z.top (nI (p + 1))) 15 p = nI (siN k P sh p) := by
            rw [upA_n (by decide)]
            have is : isSi k P sh p = true := by
              unfold isSi
              rw [show vldB k P p = true from vld_at hm hi w8 wm.2.2.2.2 epm, ← eop, e, hx]
              rfl
            unfold siN
            rw [if_pos is]
            exact hpg.2.2.2.1 p p480 is
          rw [e]
          refine gi_aload_n (q := 160) (i := 0) C (dm_Mo_one 88 rfl) rfl rfl rfl ?_
          refine gi_iload_n (q := 161) (i := 2) C (dm_Mo_one 89 rfl) rfl rfl rfl ?_
          refine gi_iload_n (q := 162) (i := 1) C (dm_Mo_one 90 rfl) rfl rfl rfl ?_
          refine gi_iload_n (q := 163) (i := 3) C (dm_Mo_one 91 rfl) rfl rfl rfl ?_
          refine gi_iload (q := 165) C (dm_Mo_one 92 rfl) rfl rfl ?_
          refine gi_callv 4 (q := 168) C (dm_Mo_one 93 rfl) rfl my_Mo_other lk_Mo_600 im_Mo_other rfl (c_Mo_other_28 (x := (gotZ z (z.cur.i + 1))) (p := p) gm R (by rw [gm, gn]; omega) (P 7 p) (s := siN k P sh p) p480 h15 s25 (by rw [gm, gn]; omega) hc H) Ha rfl rfl ⟨(Nat.le_of_ble_eq_true rfl), (Nat.le_of_ble_eq_true rfl)⟩ (Nat.le_of_ble_eq_true rfl) ⟨(Nat.le_of_ble_eq_true rfl), (Nat.le_of_ble_eq_true rfl)⟩ (fun r165 n165 h165 e165 => ?_)
          obtain ⟨rfl, qn165, p9⟩ := e165
          rw [qn165]
          have p9 := p9.tr ho fm
          refine gi_vret C hr (dm_Mo_one 94 rfl) ?_
          refine ⟨rfl, rfl, on_A (h33 (by omega)) ?_⟩
          unfold prfA
          rw [← ep, ← eop]
          rw [e]
          rw [if_neg (by decide), if_neg (by decide), if_neg (by decide), if_pos (by decide)]
          exact p9
        · have d4 := (sd_4 ey (by omega)).1
          obtain ⟨-, r, rc, er0⟩ := (stp_29 (Fc := Fz) B T (by rw [← ep, ← eop]; exact e)).1
          have er : topV (gotZ z (z.cur.i + 1)) = nI r := by rw [top_got]; exact er0
          rw [e]
          refine gi_aload_n (q := 160) (i := 0) C (dm_Mo_one 88 rfl) rfl rfl rfl ?_
          refine gi_iload_n (q := 161) (i := 2) C (dm_Mo_one 89 rfl) rfl rfl rfl ?_
          refine gi_iload_n (q := 162) (i := 1) C (dm_Mo_one 90 rfl) rfl rfl rfl ?_
          refine gi_iload_n (q := 163) (i := 3) C (dm_Mo_one 91 rfl) rfl rfl rfl ?_
          refine gi_iload (q := 165) C (dm_Mo_one 92 rfl) rfl rfl ?_
          refine gi_callv 4 (q := 168) C (dm_Mo_one 93 rfl) rfl my_Mo_other lk_Mo_600 im_Mo_other rfl (c_Mo_other_29 (x := (gotZ z (z.cur.i + 1))) (p := p) gm R (by rw [gm, gn]; omega) (P 7 p) (r := r) (by rw [gm, gn]; omega) rc er hc H) Ha rfl rfl ⟨(Nat.le_of_ble_eq_true rfl), (Nat.le_of_ble_eq_true rfl)⟩ (Nat.le_of_ble_eq_true rfl) ⟨(Nat.le_of_ble_eq_true rfl), (Nat.le_of_ble_eq_true rfl)⟩ (fun r165 n165 h165 e165 => ?_)
          obtain ⟨rfl, qn165, p9⟩ := e165
          rw [qn165]
          have p9 := p9.tr ho fm
          refine gi_vret C hr (dm_Mo_one 94 rfl) ?_
          refine ⟨rfl, rfl, on_A (h33 (by omega)) ?_⟩
          unfold prfA
          rw [← ep, ← eop]
          rw [e]
          rw [if_neg (by decide), if_neg (by decide), if_neg (by decide), if_neg (by decide), if_pos (by decide)]
          exact p9
        · have d2 := sd_2 ey (by omega)
          have d3 := d2.1
          obtain ⟨-, r, rc, er0⟩ := (stp_30 (Fc := Fz) B T (by rw [← ep, ← eop]; exact e)).1
          have er : topV (popZ (gotZ z (z.cur.i + 1))) = nI r := by rw [top_pop, got_n, got_s, ← top_pop]; exact er0
          rw [e]
          refine gi_aload_n (q := 160) (i := 0) C (dm_Mo_one 88 rfl) rfl rfl rfl ?_
          refine gi_iload_n (q := 161) (i := 2) C (dm_Mo_one 89 rfl) rfl rfl rfl ?_
          refine gi_iload_n (q := 162) (i := 1) C (dm_Mo_one 90 rfl) rfl rfl rfl ?_
          refine gi_iload_n (q := 163) (i := 3) C (dm_Mo_one 91 rfl) rfl rfl rfl ?_
          refine gi_iload (q := 165) C (dm_Mo_one 92 rfl) rfl rfl ?_
          refine gi_callv 4 (q := 168) C (dm_Mo_one 93 rfl) rfl my_Mo_other lk_Mo_600 im_Mo_other rfl (c_Mo_other_30 (x := (gotZ z (z.cur.i + 1))) (p := p) gm R (by rw [gm, gn]; omega) (P 7 p) (r := r) (by rw [gm, gn]; omega) rc er hc H) Ha rfl rfl ⟨(Nat.le_of_ble_eq_true rfl), (Nat.le_of_ble_eq_true rfl)⟩ (Nat.le_of_ble_eq_true rfl) ⟨(Nat.le_of_ble_eq_true rfl), (Nat.le_of_ble_eq_true rfl)⟩ (fun r165 n165 h165 e165 => ?_)
          obtain ⟨rfl, qn165, p9⟩ := e165
          rw [qn165]
          have p9 := p9.tr ho fm
          refine gi_vret C hr (dm_Mo_one 94 rfl) ?_
          refine ⟨rfl, rfl, on_A (h33 (by omega)) ?_⟩
          unfold prfA
          rw [← ep, ← eop]
          rw [e]
          rw [if_neg (by decide), if_neg (by decide), if_neg (by decide), if_neg (by decide), if_pos (by decide)]
          exact p9
        · have d2 := sd_2 ey (by omega)
          have d3 := d2.2 e
          obtain ⟨-, r, rc, er0⟩ := (stp_31 (Fc := Fz) B T (by rw [← ep, ← eop]; exact e)).1
          have er : topV (popZ (popZ (gotZ z (z.cur.i + 1)))) = nI r := by rw [top_pop2, got_n, got_s, ← top_pop2]; exact er0
          rw [e]
          refine gi_aload_n (q := 160) (i := 0) C (dm_Mo_one 88 rfl) rfl rfl rfl ?_
          refine gi_iload_n (q := 161) (i := 2) C (dm_Mo_one 89 rfl) rfl rfl rfl ?_
          refine gi_iload_n (q := 162) (i := 1) C (dm_Mo_one 90 rfl) rfl rfl rfl ?_
          refine gi_iload_n (q := 163) (i := 3) C (dm_Mo_one 91 rfl) rfl rfl rfl ?_
          refine gi_iload (q := 165) C (dm_Mo_one 92 rfl) rfl rfl ?_
          refine gi_callv 4 (q := 168) C (dm_Mo_one 93 rfl) rfl my_Mo_other lk_Mo_600 im_Mo_other rfl (c_Mo_other_31 (x := (gotZ z (z.cur.i + 1))) (p := p) gm R (by rw [gm, gn]; omega) (P 7 p) (r := r) (by rw [gm, gn]; omega) rc er hc H) Ha rfl rfl ⟨(Nat.le_of_ble_eq_true rfl), (Nat.le_of_ble_eq_true rfl)⟩ (Nat.le_of_ble_eq_true rfl) ⟨(Nat.le_of_ble_eq_true rfl), (Nat.le_of_ble_eq_true rfl)⟩ (fun r165 n165 h165 e165 => ?_)
          obtain ⟨rfl, qn165, p9⟩ := e165
          rw [qn165]
          have p9 := p9.tr ho fm
          refine gi_vret C hr (dm_Mo_one 94 rfl) ?_
          refine ⟨rfl, rfl, on_A (h33 (by omega)) ?_⟩
          unfold prfA
          rw [← ep, ← eop]
          rw [e]
          rw [if_neg (by decide), if_neg (by decide), if_neg (by decide), if_neg (by decide), if_pos (by decide)]
          exact p9
        · obtain ⟨pa1, ak, -⟩ := (stp_32 B T (by rw [← ep, ← eop]; exact e)).1
          rw [← ep] at pa1 ak
          have wa := wf_ar W ak
          have e1 : upA F 79 (upd (F 79) z.top (nI (p + 1))) 1 (pN P 7 p) = nI (pN P 1 (pN P 7 p)) := by
            rw [upA_n (by decide), hpg.1 1 (by decide) (by decide)]
            exact (wf_n W ak).1
          have dk : pN P 1 (pN P 7 p) ≤ x0.1 := by
            rw [e] at ey
            obtain ⟨u, e1, -⟩ := Option.map_eq_some_iff.mp (show (tkN P (pN P 7 p) (pN P 1 (pN P 7 p)) x0).map _ = some y0 from ey)
            exact (vT_tkN _ X.2.2.2.2.1 e1 X.2.2.2.1).2.1
          rw [pa1]
          rw [e]
          refine gi_aload_n (q := 160) (i := 0) C (dm_Mo_one 88 rfl) rfl rfl rfl ?_
          refine gi_iload_n (q := 161) (i := 2) C (dm_Mo_one 89 rfl) rfl rfl rfl ?_
          refine gi_iload_n (q := 162) (i := 1) C (dm_Mo_one 90 rfl) rfl rfl rfl ?_
          refine gi_iload_n (q := 163) (i := 3) C (dm_Mo_one 91 rfl) rfl rfl rfl ?_
          refine gi_iload (q := 165) C (dm_Mo_one 92 rfl) rfl rfl ?_
          refine gi_callv 4 (q := 168) C (dm_Mo_one 93 rfl) rfl my_Mo_other lk_Mo_600 im_Mo_other rfl (c_Mo_other_32 (x := (gotZ z (z.cur.i + 1))) (p := p) gm R (by rw [gm, gn]; omega) (show pN P 7 p < 8 by omega) e1 wa.1 wa.2.2.1 wa.2.1 (by rw [gm, gn]; omega) hc H) Ha rfl rfl ⟨(Nat.le_of_ble_eq_true rfl), (Nat.le_of_ble_eq_true rfl)⟩ (Nat.le_of_ble_eq_true rfl) ⟨(Nat.le_of_ble_eq_true rfl), (Nat.le_of_ble_eq_true rfl)⟩ (fun r165 n165 h165 e165 => ?_)
          obtain ⟨rfl, qn165, p9⟩ := e165
          rw [qn165]
          have p9 := p9.tr ho fm
          refine gi_vret C hr (dm_Mo_one 94 rfl) ?_
          refine ⟨rfl, rfl, on_A (h33 (by omega)) ?_⟩
          unfold prfA
          rw [← ep, ← eop]
          rw [e]
          rw [if_neg (by decide), if_neg (by decide), if_neg (by decide), if_neg (by decide), if_neg (by decide), if_pos (by decide)]
          exact p9
        · obtain ⟨⟨s1, s2, s3⟩, -⟩ := stp_33 B T (by rw [← ep, ← eop]; exact e)
          have rm4 : upA F 79 (upd (F 79) z.top (nI (p + 1))) 4 z.cur.m = nI (pN P 4 z.cur.m) := by
            rw [upA_n (by decide), hpg.1 4 (by decide) (by decide)]
            exact (wf_n W hm).2.2.1
          rw [e] at ey
          have h7 : pN P 4 z.cur.m ≠ 0 → 0 < z.top → (dwnZ (popZ (gotZ z (z.cur.i + 1)))).cur.n - pN P 2 (dwnZ (popZ (gotZ z (z.cur.i + 1)))).cur.m < 8 := fun q0 qt => by
            have kc : (dwnZ (popZ (gotZ z (z.cur.i + 1)))).cur = z.fr (z.top - 1) := by
              show upO (upO z.fr z.top _) z.top _ (z.top - 1) = _
              rw [upO_ne (by omega), upO_ne (by omega)]
            rw [kc]
            obtain ⟨b1, b2, u, b3, b4, b5⟩ := T.2.2.2 (z.top - 1) (by show z.top - 1 < z.top; omega)
            rw [show z.top - 1 + 1 = z.top by omega] at b3
            have b3' : sh (60 * (z.fr (z.top - 1)).m + (z.fr (z.top - 1)).i) = some (rsS (pN P 4 z.cur.m) u) := b3
            unfold rsS at b3'
            rw [if_neg q0] at b3'
            obtain ⟨_, _, _, _, _, q8, _⟩ := B.at_ _ _ b3'
            have q8' : u.1 + 1 ≤ 8 := q8
            have b6 := b5.1
            omega
          rw [e]
          refine gi_aload_n (q := 160) (i := 0) C (dm_Mo_one 88 rfl) rfl rfl rfl ?_
          refine gi_iload_n (q := 161) (i := 2) C (dm_Mo_one 89 rfl) rfl rfl rfl ?_
          refine gi_iload_n (q := 162) (i := 1) C (dm_Mo_one 90 rfl) rfl rfl rfl ?_
          refine gi_iload_n (q := 163) (i := 3) C (dm_Mo_one 91 rfl) rfl rfl rfl ?_
          refine gi_iload (q := 165) C (dm_Mo_one 92 rfl) rfl rfl ?_
          refine gi_callv 4 (q := 168) C (dm_Mo_one 93 rfl) rfl my_Mo_other lk_Mo_600 im_Mo_other rfl (c_Mo_other_33 (x := (gotZ z (z.cur.i + 1))) (p := p) gm R (by rw [gm, gn]; omega) (P 7 p) (by rw [gm]; exact rm4) (by rw [gm]; exact wm.2.2.2.1) (by rw [gm, gn]; intro q; have := sd_33 ey q; omega) (by rw [gm, top_got]; exact s2) (by rw [gm]; exact h7) hc H) Ha rfl rfl ⟨(Nat.le_of_ble_eq_true rfl), (Nat.le_of_ble_eq_true rfl)⟩ (Nat.le_of_ble_eq_true rfl) ⟨(Nat.le_of_ble_eq_true rfl), (Nat.le_of_ble_eq_true rfl)⟩ (fun r165 n165 h165 e165 => ?_)
          obtain ⟨rfl, qn165, p9⟩ := e165
          rw [qn165]
          refine gi_vret C hr (dm_Mo_one 94 rfl) ?_
          refine ⟨rfl, rfl, on_33 (by rw [← ep, ← eop]; exact e) (lv_tr ho fm (lv_got p9))⟩
        · have d1 := sd_1 ey (by omega)
          have y8 := y8 (by omega)
          obtain ⟨pa1, pa2⟩ := pa ((od.2.2.2 (by omega)).1)
          have l4 := (od.2.2.2 (by omega)).2
          rw [pa1]
          rw [e]
          refine gi_aload_n (q := 160) (i := 0) C (dm_Mo_one 88 rfl) rfl rfl rfl ?_
          refine gi_iload_n (q := 161) (i := 2) C (dm_Mo_one 89 rfl) rfl rfl rfl ?_
          refine gi_iload_n (q := 162) (i := 1) C (dm_Mo_one 90 rfl) rfl rfl rfl ?_
          refine gi_iload_n (q := 163) (i := 3) C (dm_Mo_one 91 rfl) rfl rfl rfl ?_
          refine gi_iload (q := 165) C (dm_Mo_one 92 rfl) rfl rfl ?_
          refine gi_callv 4 (q := 168) C (dm_Mo_one 93 rfl) rfl my_Mo_other lk_Mo_600 im_Mo_other rfl (c_Mo_other_34 (x := (gotZ z (z.cur.i + 1))) (p := p) gm R (by rw [gm, gn]; omega) (show pN P 7 p < 4 by omega) (by rw [gm, gn]; omega) hc H) Ha rfl rfl ⟨(Nat.le_of_ble_eq_true rfl), (Nat.le_of_ble_eq_true rfl)⟩ (Nat.le_of_ble_eq_true rfl) ⟨(Nat.le_of_ble_eq_true rfl), (Nat.le_of_ble_eq_true rfl)⟩ (fun r165 n165 h165 e165 => ?_)
          obtain ⟨rfl, qn165, p9⟩ := e165
          rw [qn165]
          have p9 := p9.tr ho fm
          refine gi_vret C hr (dm_Mo_one 94 rfl) ?_
          refine ⟨rfl, rfl, on_A (h33 (by omega)) ?_⟩
          unfold prfA
          rw [← ep, ← eop]
          rw [e]
          rw [if_neg (by decide), if_neg (by decide), if_neg (by decide), if_neg (by decide), if_neg (by decide), if_neg (by decide)]
          exact p9
        · have d4 := (sd_4 ey (by omega)).1
          obtain ⟨pa1, pa2⟩ := pa ((od.2.2.2 (by omega)).1)
          have l4 := (od.2.2.2 (by omega)).2
          rw [pa1]
          rw [e]
          refine gi_aload_n (q := 160) (i := 0) C (dm_Mo_one 88 rfl) rfl rfl rfl ?_
          refine gi_iload_n (q := 161) (i := 2) C (dm_Mo_one 89 rfl) rfl rfl rfl ?_
          refine gi_iload_n (q := 162) (i := 1) C (dm_Mo_one 90 rfl) rfl rfl rfl ?_
          refine gi_iload_n (q := 163) (i := 3) C (dm_Mo_one 91 rfl) rfl rfl rfl ?_
          refine gi_iload (q := 165) C (dm_Mo_one 92 rfl) rfl rfl ?_
          refine gi_callv 4 (q := 168) C (dm_Mo_one 93 rfl) rfl my_Mo_other lk_Mo_600 im_Mo_other rfl (c_Mo_other_35 (x := (gotZ z (z.cur.i + 1))) (p := p) gm R (by rw [gm, gn]; omega) (show pN P 7 p < 4 by omega) (by rw [gm, gn]; omega) hc H) Ha rfl rfl ⟨(Nat.le_of_ble_eq_true rfl), (Nat.le_of_ble_eq_true rfl)⟩ (Nat.le_of_ble_eq_true rfl) ⟨(Nat.le_of_ble_eq_true rfl), (Nat.le_of_ble_eq_true rfl)⟩ (fun r165 n165 h165 e165 => ?_)
          obtain ⟨rfl, qn165, p9⟩ := e165
          rw [qn165]
          have p9 := p9.tr ho fm
          refine gi_vret C hr (dm_Mo_one 94 rfl) ?_
          refine ⟨rfl, rfl, on_A (h33 (by omega)) ?_⟩
          unfold prfA
          rw [← ep, ← eop]
          rw [e]
          rw [if_neg (by decide), if_neg (by decide), if_neg (by decide), if_neg (by decide), if_neg (by decide), if_neg (by decide)]
          exact p9
      · rw [show (20 : Int32) = nI 20 from rfl, nI_ltP (by omega) (by decide)] at c106
        rw [show (25 : Int32) = nI 25 from rfl, nI_ltP (by decide) (by omega)] at c112
        have d2 := (sd_2 ey (.inr (.inr (.inl ⟨by omega, by omega⟩)))).1
        have n5 := nj (by omega) (by omega)
        obtain ⟨pa1, pa2⟩ := pa (by have := (od.2.1 ⟨by omega, by omega⟩).1; exact this)
        refine gi_aload_n (q := 116) (i := 0) C (dm_Mo_one 64 rfl) rfl rfl rfl ?_
        refine gi_callv 0 (q := 119) C (dm_Mo_one 65 rfl) rfl my_Mo_pop lk_Mo_588 im_Mo_pop rfl (c_Mo_pop (z := (gotZ z (z.cur.i + 1))) R (by rw [gm, gn]; omega) H) Ha rfl rfl ⟨(Nat.le_of_ble_eq_true rfl), (Nat.le_of_ble_eq_true rfl)⟩ (Nat.le_of_ble_eq_true rfl) ⟨(Nat.le_of_ble_eq_true rfl), (Nat.le_of_ble_eq_true rfl)⟩ (fun r116 n116 h116 e116 => ?_)
        obtain ⟨rfl, qn116, S1, J1, F1, H1, o1, f1, R1⟩ := e116
        rw [qn116]
        have H := H1
        obtain ⟨fs, Ha, Hf⟩ := id H.1
        have ho := ho.tr o1
        have fm := fm.tr f1
        have R := R1
        have hc := hc.fr f1
        refine gi_istore (q := 121) C (dm_Mo_one 66 rfl) rfl (Nat.le_of_ble_eq_true rfl) ?_
        refine gi_aload_n (q := 122) (i := 0) C (dm_Mo_one 67 rfl) rfl rfl rfl ?_
        refine gi_callv 0 (q := 125) C (dm_Mo_one 68 rfl) rfl my_Mo_pop lk_Mo_588 im_Mo_pop rfl (c_Mo_pop (z := popZ (gotZ z (z.cur.i + 1))) R (by rw [pop_m, pop_nn, gm, gn]; omega) H) Ha rfl rfl ⟨(Nat.le_of_ble_eq_true rfl), (Nat.le_of_ble_eq_true rfl)⟩ (Nat.le_of_ble_eq_true rfl) ⟨(Nat.le_of_ble_eq_true rfl), (Nat.le_of_ble_eq_true rfl)⟩ (fun r122 n122 h122 e122 => ?_)
        obtain ⟨rfl, qn122, S1, J1, F1, H1, o1, f1, R1⟩ := e122
        rw [qn122]
        have H := H1
        obtain ⟨fs, Ha, Hf⟩ := id H.1
        have ho := ho.tr o1
        have fm := fm.tr f1
        have R := R1
        have hc := hc.fr f1
        refine gi_istore (q := 127) C (dm_Mo_one 69 rfl) rfl (Nat.le_of_ble_eq_true rfl) ?_
        refine gi_iload_n (q := 128) (i := 3) C (dm_Mo_one 70 rfl) rfl rfl rfl ?_
        refine gi_iload (q := 130) C (dm_Mo_one 71 rfl) rfl rfl ?_
        refine gi_iload (q := 132) C (dm_Mo_one 72 rfl) rfl rfl ?_
        refine gi_calls 3 (q := 135) C (dm_Mo_one 73 rfl) rfl my_Mo_isSo lk_Mo_597 sm_Mo_isSo (c_Mo_isSo op _ _ (by omega) (by omega)) rfl rfl ⟨(Nat.le_of_ble_eq_true rfl), (Nat.le_of_ble_eq_true rfl)⟩ (Nat.le_of_ble_eq_true rfl) ⟨(Nat.le_of_ble_eq_true rfl), (Nat.le_of_ble_eq_true rfl)⟩ (fun r132 n132 h132 e132 => ?_)
        obtain ⟨rfl, q132, u132⟩ := e132
        rw [q132, u132]
        have h81 : S1 81 = nI (z.top + 1) := R.2.2.2.1
        refine gi_if_eq (q := 138) (tgt := 156) C (dm_Mo_one 74 rfl) rfl (by decide) (fun c135 => ?_) (fun c135 => ?_)
        · refine gi_goto (tgt := 168) C (dm_Mo_one 87 rfl) (by decide) ?_
          refine gi_vret C hr (dm_Mo_one 94 rfl) ?_
          refine ⟨rfl, rfl, ?_⟩
          refine on_A (h33 (by omega)) ?_
          unfold prfA
          rw [← ep, ← eop]
          rw [if_neg (by omega), if_neg (by omega), if_pos (by omega)]
          unfold jmpZ
          rw [if_neg (by omega), if_neg (by omega), if_neg (by omega), if_neg (by rw [bI_fa c135]; decide)]
          exact ⟨_, _, _, H, ho, fm, R⟩
        · refine gi_aload_n (q := 139) (i := 0) C (dm_Mo_one 75 rfl) rfl rfl rfl ?_
          refine gi_get (q := 142) C (dm_Mo_one 76 rfl) rfl fl_Mo_167 Ha (mo_g79 Hf) ?_
          refine gi_aload_n (q := 143) (i := 0) C (dm_Mo_one 77 rfl) rfl rfl rfl ?_
          refine gi_get (q := 146) C (dm_Mo_one 78 rfl) rfl fl_Mo_552 Ha (mo_g81 Hf) ?_
          rw [h81]
          refine gi_iconst (q := 147) (v := 1) C (dm_Mo_one 79 rfl) rfl (by decide) ?_
          refine gi_isub (q := 148) C (dm_Mo_one 80 rfl) rfl ?_
          rw [show (1 : Int32) = nI 1 from rfl, nI_sb (by omega) (by omega), show z.top + 1 - 1 = z.top by omega]
          refine gi_bipush (q := 150) (v := 60) C (dm_Mo_one 81 rfl) rfl (by decide) ?_
          refine gi_iload_n (q := 151) (i := 2) C (dm_Mo_one 82 rfl) rfl rfl rfl ?_
          refine gi_imul (q := 152) C (dm_Mo_one 83 rfl) rfl ?_
          refine gi_iload (q := 154) C (dm_Mo_one 84 rfl) rfl rfl ?_
          refine gi_iadd (q := 155) C (dm_Mo_one 85 rfl) rfl ?_
          rw [pa1, show (60 : Int32) = nI 60 from rfl, nI_ml, nI_add]
          refine gi_iast (q := 156) C (dm_Mo_one 86 rfl) rfl rfl (mo_a79 H) (inN ht (by decide)) ?_
          refine gi_genM (H.setI (p := 49) (k := 79) (by decide) rfl rfl (by decide) rfl (by omega)) (ho.up (by omega) (by omega)) (fun y H ho => ?_)
          obtain ⟨fs, Ha, Hf⟩ := id H.1
          refine gi_goto (tgt := 168) C (dm_Mo_one 87 rfl) (by decide) ?_
          refine gi_vret C hr (dm_Mo_one 94 rfl) ?_
          rw [nI_clamp (show z.top < 2 ^ 31 by omega)] at H
          refine ⟨rfl, rfl, ?_⟩
          refine on_A (h33 (by omega)) ?_
          unfold prfA
          rw [← ep, ← eop]
          rw [if_neg (by omega), if_neg (by omega), if_pos (by omega)]
          unfold jmpZ
          rw [if_neg (by omega), if_neg (by omega), if_neg (by omega), if_pos (bI_t c135)]
          refine ⟨_, _, _, H, ho, fm.tr ⟨fun _ _ => rfl, fun _ _ => rfl, fun j hj => by rw [upA_n (by omega)]⟩, ?_⟩
          exact R.got (x := popZ (popZ (gotZ z (z.cur.i + 1)))) (by omega) (fun j hj => upA_n hj) (fun i => by rw [upA_i, upd_is, pop_m, pop_m, gm]; rfl)
  · refine gi_iload_n (q := 46) (i := 3) C (dm_Mo_one 30 rfl) rfl rfl rfl ?_
    refine gi_bipush (q := 48) (v := 17) C (dm_Mo_one 31 rfl) rfl (by decide) ?_
    refine gi_icmp_gt (q := 51) (tgt := 103) C (dm_Mo_one 32 rfl) rfl (by decide) (fun c48 => ?_) (fun c48 => ?_)
    · refine gi_iload_n (q := 104) (i := 3) C (dm_Mo_one 58 rfl) rfl rfl rfl ?_
      refine gi_bipush (q := 106) (v := 20) C (dm_Mo_one 59 rfl) rfl (by decide) ?_
      refine gi_icmp_lt (q := 109) (tgt := 159) C (dm_Mo_one 60 rfl) rfl (by decide) (fun c106 => ?_) (fun c106 => ?_)
      · have hop : (op < 7 ∨ 17 < op) ∧ (op < 20 ∨ 25 < op) := by
          refine ⟨?_, ?_⟩
          · first
              | (have q := c42; rw [show (7 : Int32) = nI 7 from rfl, nI_ltP (by omega) (by decide)] at q; exact .inl q)
              | (have q := c48; rw [show (17 : Int32) = nI 17 from rfl, nI_ltP (by decide) (by omega)] at q; exact .inr q)
          · first
              | (have q := c106; rw [show (20 : Int32) = nI 20 from rfl, nI_ltP (by omega) (by decide)] at q; exact .inl q)
              | (have q := c112; rw [show (25 : Int32) = nI 25 from rfl, nI_ltP (by decide) (by omega)] at q; exact .inr q)
        rcases (show op = 0 ∨ op = 1 ∨ op = 2 ∨ op = 3 ∨ op = 4 ∨ op = 5 ∨ op = 6 ∨ op = 18 ∨ op = 19 ∨ op = 26 ∨ op = 27 ∨ op = 28 ∨ op = 29 ∨ op = 30 ∨ op = 31 ∨ op = 32 ∨ op = 33 ∨ op = 34 ∨ op = 35 by omega) with e | e | e | e | e | e | e | e | e | e | e | e | e | e | e | e | e | e | e
        · have d1 := sd_1 ey (by omega)
          have y8 := y8 (by omega)
          rw [e]
          refine gi_aload_n (q := 160) (i := 0) C (dm_Mo_one 88 rfl) rfl rfl rfl ?_
          refine gi_iload_n (q := 161) (i := 2) C (dm_Mo_one 89 rfl) rfl rfl rfl ?_
          refine gi_iload_n (q := 162) (i := 1) C (dm_Mo_one 90 rfl) rfl rfl rfl ?_
          refine gi_iload_n (q := 163) (i := 3) C (dm_Mo_one 91 rfl) rfl rfl rfl ?_
          refine gi_iload (q := 165) C (dm_Mo_one 92 rfl) rfl rfl ?_
          refine gi_callv 4 (q := 168) C (dm_Mo_one 93 rfl) rfl my_Mo_other lk_Mo_600 im_Mo_other rfl (c_Mo_other_0 (x := (gotZ z (z.cur.i + 1))) (p := p) gm R (by rw [gm, gn]; omega) (P 7 p) (by rw [gm, gn]; omega) hc H) Ha rfl rfl ⟨(Nat.le_of_ble_eq_true rfl), (Nat.le_of_ble_eq_true rfl)⟩ (Nat.le_of_ble_eq_true rfl) ⟨(Nat.le_of_ble_eq_true rfl), (Nat.le_of_ble_eq_true rfl)⟩ (fun r165 n165 h165 e165 => ?_)
          obtain ⟨rfl, qn165, p9⟩ := e165
          rw [qn165]
          have p9 := p9.tr ho fm
          refine gi_vret C hr (dm_Mo_one 94 rfl) ?_
          refine ⟨rfl, rfl, on_A (h33 (by omega)) ?_⟩
          unfold prfA
          rw [← ep, ← eop]
          rw [e]
          rw [if_pos (by decide)]
          exact p9
        · have d1 := sd_1 ey (by omega)
          have y8 := y8 (by omega)
          obtain ⟨pa1, pa2⟩ := pa ((od.1 (by omega)).1)
          have la := (od.1 (by omega)).2
          rw [pa1]
          rw [e]
          refine gi_aload_n (q := 160) (i := 0) C (dm_Mo_one 88 rfl) rfl rfl rfl ?_
          refine gi_iload_n (q := 161) (i := 2) C (dm_Mo_one 89 rfl) rfl rfl rfl ?_
          refine gi_iload_n (q := 162) (i := 1) C (dm_Mo_one 90 rfl) rfl rfl rfl ?_
          refine gi_iload_n (q := 163) (i := 3) C (dm_Mo_one 91 rfl) rfl rfl rfl ?_
          refine gi_iload (q := 165) C (dm_Mo_one 92 rfl) rfl rfl ?_
          refine gi_callv 4 (q := 168) C (dm_Mo_one 93 rfl) rfl my_Mo_other lk_Mo_600 im_Mo_other rfl (c_Mo_other_1 (x := (gotZ z (z.cur.i + 1))) (p := p) gm R (by rw [gm, gn]; omega) (by rw [gm, gn]; omega) (show pN P 7 p < _ by rw [gm]; omega) hc H) Ha rfl rfl ⟨(Nat.le_of_ble_eq_true rfl), (Nat.le_of_ble_eq_true rfl)⟩ (Nat.le_of_ble_eq_true rfl) ⟨(Nat.le_of_ble_eq_true rfl), (Nat.le_of_ble_eq_true rfl)⟩ (fun r165 n165 h165 e165 => ?_)
          obtain ⟨rfl, qn165, p9⟩ := e165
          rw [qn165]
          have p9 := p9.tr ho fm
          refine gi_vret C hr (dm_Mo_one 94 rfl) ?_
          refine ⟨rfl, rfl, on_A (h33 (by omega)) ?_⟩
          unfold prfA
          rw [← ep, ← eop]
          rw [e]
          rw [if_pos (by decide), pa1]
          exact p9
        · have d4 := (sd_4 ey (by omega)).1
          obtain ⟨pa1, pa2⟩ := pa ((od.1 (by omega)).1)
          have la := (od.1 (by omega)).2
          rw [pa1]
          rw [e]
          refine gi_aload_n (q := 160) (i := 0) C (dm_Mo_one 88 rfl) rfl rfl rfl ?_
          refine gi_iload_n (q := 161) (i := 2) C (dm_Mo_one 89 rfl) rfl rfl rfl ?_
          refine gi_iload_n (q := 162) (i := 1) C (dm_Mo_one 90 rfl) rfl rfl rfl ?_
          refine gi_iload_n (q := 163) (i := 3) C (dm_Mo_one 91 rfl) rfl rfl rfl ?_
          refine gi_iload (q := 165) C (dm_Mo_one 92 rfl) rfl rfl ?_
          refine gi_callv 4 (q := 168) C (dm_Mo_one 93 rfl) rfl my_Mo_other lk_Mo_600 im_Mo_other rfl (c_Mo_other_2 (x := (gotZ z (z.cur.i + 1))) (p := p) gm R (by rw [gm, gn]; omega) (by rw [gm, gn]; omega) (show pN P 7 p < _ by rw [gm]; omega) hc H) Ha rfl rfl ⟨(Nat.le_of_ble_eq_true rfl), (Nat.le_of_ble_eq_true rfl)⟩ (Nat.le_of_ble_eq_true rfl) ⟨(Nat.le_of_ble_eq_true rfl), (Nat.le_of_ble_eq_true rfl)⟩ (fun r165 n165 h165 e165 => ?_)
          obtain ⟨rfl, qn165, p9⟩ := e165
          rw [qn165]
          have p9 := p9.tr ho fm
          refine gi_vret C hr (dm_Mo_one 94 rfl) ?_
          refine ⟨rfl, rfl, on_A (h33 (by omega)) ?_⟩
          unfold prfA
          rw [← ep, ← eop]
          rw [e]
          rw [if_pos (by decide), pa1]
          exact p9
        · have d1 := sd_1 ey (by omega)
          have y8 := y8 (by omega)
          rw [e]
          refine gi_aload_n (q := 160) (i := 0) C (dm_Mo_one 88 rfl) rfl rfl rfl ?_
          refine gi_iload_n (q := 161) (i := 2) C (dm_Mo_one 89 rfl) rfl rfl rfl ?_
          refine gi_iload_n (q := 162) (i := 1) C (dm_Mo_one 90 rfl) rfl rfl rfl ?_
          refine gi_iload_n (q := 163) (i := 3) C (dm_Mo_one 91 rfl) rfl rfl rfl ?_
          refine gi_iload (q := 165) C (dm_Mo_one 92 rfl) rfl rfl ?_
          refine gi_callv 4 (q := 168) C (dm_Mo_one 93 rfl) rfl my_Mo_other lk_Mo_600 im_Mo_other rfl (c_Mo_other_3 (x := (gotZ z (z.cur.i + 1))) (p := p) gm R (by rw [gm, gn]; omega) (P 7 p) (by rw [gm, gn]; omega) hc H) Ha rfl rfl ⟨(Nat.le_of_ble_eq_true rfl), (Nat.le_of_ble_eq_true rfl)⟩ (Nat.le_of_ble_eq_true rfl) ⟨(Nat.le_of_ble_eq_true rfl), (Nat.le_of_ble_eq_true rfl)⟩ (fun r165 n165 h165 e165 => ?_)
          obtain ⟨rfl, qn165, p9⟩ := e165
          rw [qn165]
          have p9 := p9.tr ho fm
          refine gi_vret C hr (dm_Mo_one 94 rfl) ?_
          refine ⟨rfl, rfl, on_A (h33 (by omega)) ?_⟩
          unfold prfA
          rw [← ep, ← eop]
          rw [e]
          rw [if_pos (by decide)]
          exact p9
        · have d4 := (sd_4 ey (by omega)).1
          rw [e]
          refine gi_aload_n (q := 160) (i := 0) C (dm_Mo_one 88 rfl) rfl rfl rfl ?_
          refine gi_iload_n (q := 161) (i := 2) C (dm_Mo_one 89 rfl) rfl rfl rfl ?_
          refine gi_iload_n (q := 162) (i := 1) C (dm_Mo_one 90 rfl) rfl rfl rfl ?_
          refine gi_iload_n (q := 163) (i := 3) C (dm_Mo_one 91 rfl) rfl rfl rfl ?_
          refine gi_iload (q := 165) C (dm_Mo_one 92 rfl) rfl rfl ?_
          refine gi_callv 4 (q := 168) C (dm_Mo_one 93 rfl) rfl my_Mo_other lk_Mo_600 im_Mo_other rfl (c_Mo_other_4 (x := (gotZ z (z.cur.i + 1))) (p := p) gm R (by rw [gm, gn]; omega) (P 7 p) (by rw [gm, gn]; omega) hc H) Ha rfl rfl ⟨(Nat.le_of_ble_eq_true rfl), (Nat.le_of_ble_eq_true rfl)⟩ (Nat.le_of_ble_eq_true rfl) ⟨(Nat.le_of_ble_eq_true rfl), (Nat.le_of_ble_eq_true rfl)⟩ (fun r165 n165 h165 e165 => ?_)
          obtain ⟨rfl, qn165, p9⟩ := e165
          rw [qn165]
          have p9 := p9.tr ho fm
          refine gi_vret C hr (dm_Mo_one 94 rfl) ?_
          refine ⟨rfl, rfl, on_A (h33 (by omega)) ?_⟩
          unfold prfA
          rw [← ep, ← eop]
          rw [e]
          rw [if_pos (by decide)]
          exact p9
        · have d4 := sd_4 ey (by omega)
          have d5 := d4.2 e
          have y8 := y8 (by omega)
          rw [e]
          refine gi_aload_n (q := 160) (i := 0) C (dm_Mo_one 88 rfl) rfl rfl rfl ?_
          refine gi_iload_n (q := 161) (i := 2) C (dm_Mo_one 89 rfl) rfl rfl rfl ?_
          refine gi_iload_n (q := 162) (i := 1) C (dm_Mo_one 90 rfl) rfl rfl rfl ?_
          refine gi_iload_n (q := 163) (i := 3) C (dm_Mo_one 91 rfl) rfl rfl rfl ?_
          refine gi_iload (q := 165) C (dm_Mo_one 92 rfl) rfl rfl ?_
          refine gi_callv 4 (q := 168) C (dm_Mo_one 93 rfl) rfl my_Mo_other lk_Mo_600 im_Mo_other rfl (c_Mo_other_5 (x := (gotZ z (z.cur.i + 1))) (p := p) gm R (by rw [gm, gn]; omega) (P 7 p) (by rw [gm, gn]; omega) (by rw [gm, gn]; omega) hc H) Ha rfl rfl ⟨(Nat.le_of_ble_eq_true rfl), (Nat.le_of_ble_eq_true rfl)⟩ (Nat.le_of_ble_eq_true rfl) ⟨(Nat.le_of_ble_eq_true rfl), (Nat.le_of_ble_eq_true rfl)⟩ (fun r165 n165 h165 e165 => ?_)
          obtain ⟨rfl, qn165, p9⟩ := e165
          rw [qn165]
          have p9 := p9.tr ho fm
          refine gi_vret C hr (dm_Mo_one 94 rfl) ?_
          refine ⟨rfl, rfl, on_A (h33 (by omega)) ?_⟩
          unfold prfA
          rw [← ep, ← eop]
          rw [e]
          rw [if_pos (by decide)]
          exact p9
        · have d2 := (sd_2 ey (by omega)).1
          rw [e]
          refine gi_aload_n (q := 160) (i := 0) C (dm_Mo_one 88 rfl) rfl rfl rfl ?_
          refine gi_iload_n (q := 161) (i := 2) C (dm_Mo_one 89 rfl) rfl rfl rfl ?_
          refine gi_iload_n (q := 162) (i := 1) C (dm_Mo_one 90 rfl) rfl rfl rfl ?_
          refine gi_iload_n (q := 163) (i := 3) C (dm_Mo_one 91 rfl) rfl rfl rfl ?_
          refine gi_iload (q := 165) C (dm_Mo_one 92 rfl) rfl rfl ?_
          refine gi_callv 4 (q := 168) C (dm_Mo_one 93 rfl) rfl my_Mo_other lk_Mo_600 im_Mo_other rfl (c_Mo_other_6 (x := (gotZ z (z.cur.i + 1))) (p := p) gm R (by rw [gm, gn]; omega) (P 7 p) (by rw [gm, gn]; omega) hc H) Ha rfl rfl ⟨(Nat.le_of_ble_eq_true rfl), (Nat.le_of_ble_eq_true rfl)⟩ (Nat.le_of_ble_eq_true rfl) ⟨(Nat.le_of_ble_eq_true rfl), (Nat.le_of_ble_eq_true rfl)⟩ (fun r165 n165 h165 e165 => ?_)
          obtain ⟨rfl, qn165, p9⟩ := e165
          rw [qn165]
          have p9 := p9.tr ho fm
          refine gi_vret C hr (dm_Mo_one 94 rfl) ?_
          refine ⟨rfl, rfl, on_A (h33 (by omega)) ?_⟩
          unfold prfA
          rw [← ep, ← eop]
          rw [e]
          rw [if_pos (by decide)]
          exact p9
        · have d4 := (sd_4 ey (by omega)).1
          rw [e]
          refine gi_aload_n (q := 160) (i := 0) C (dm_Mo_one 88 rfl) rfl rfl rfl ?_
          refine gi_iload_n (q := 161) (i := 2) C (dm_Mo_one 89 rfl) rfl rfl rfl ?_
          refine gi_iload_n (q := 162) (i := 1) C (dm_Mo_one 90 rfl) rfl rfl rfl ?_
          refine gi_iload_n (q := 163) (i := 3) C (dm_Mo_one 91 rfl) rfl rfl rfl ?_
          refine gi_iload (q := 165) C (dm_Mo_one 92 rfl) rfl rfl ?_
          refine gi_callv 4 (q := 168) C (dm_Mo_one 93 rfl) rfl my_Mo_other lk_Mo_600 im_Mo_other rfl (c_Mo_other_18 (x := (gotZ z (z.cur.i + 1))) (p := p) gm R (by rw [gm, gn]; omega) (P 7 p) (by rw [gm, gn]; omega) hc H) Ha rfl rfl ⟨(Nat.le_of_ble_eq_true rfl), (Nat.le_of_ble_eq_true rfl)⟩ (Nat.le_of_ble_eq_true rfl) ⟨(Nat.le_of_ble_eq_true rfl), (Nat.le_of_ble_eq_true rfl)⟩ (fun r165 n165 h165 e165 => ?_)
          obtain ⟨rfl, qn165, p9⟩ := e165
          rw [qn165]
          have p9 := p9.tr ho fm
          refine gi_vret C hr (dm_Mo_one 94 rfl) ?_
          refine ⟨rfl, rfl, on_A (h33 (by omega)) ?_⟩
          unfold prfA
          rw [← ep, ← eop]
          rw [e]
          rw [if_neg (by decide), if_pos (by decide)]
          exact p9
        · obtain ⟨pa1, pa2⟩ := pa ((od.2.1 ⟨by omega, by omega⟩).1)
          have n5 := nj (by omega) (by omega)
          rw [pa1]
          rw [e]
          refine gi_aload_n (q := 160) (i := 0) C (dm_Mo_one 88 rfl) rfl rfl rfl ?_
          refine gi_iload_n (q := 161) (i := 2) C (dm_Mo_one 89 rfl) rfl rfl rfl ?_
          refine gi_iload_n (q := 162) (i := 1) C (dm_Mo_one 90 rfl) rfl rfl rfl ?_
          refine gi_iload_n (q := 163) (i := 3) C (dm_Mo_one 91 rfl) rfl rfl rfl ?_
          refine gi_iload (q := 165) C (dm_Mo_one 92 rfl) rfl rfl ?_
          refine gi_callv 4 (q := 168) C (dm_Mo_one 93 rfl) rfl my_Mo_other lk_Mo_600 im_Mo_other rfl (c_Mo_other_19 (x := (gotZ z (z.cur.i + 1))) (p := p) gm R (by rw [gm, gn]; omega) (show pN P 7 p ≤ 60 by omega) hc H) Ha rfl rfl ⟨(Nat.le_of_ble_eq_true rfl), (Nat.le_of_ble_eq_true rfl)⟩ (Nat.le_of_ble_eq_true rfl) ⟨(Nat.le_of_ble_eq_true rfl), (Nat.le_of_ble_eq_true rfl)⟩ (fun r165 n165 h165 e165 => ?_)
          obtain ⟨rfl, qn165, p9⟩ := e165
          rw [qn165]
          have p9 := p9.tr ho fm
          refine gi_vret C hr (dm_Mo_one 94 rfl) ?_
          refine ⟨rfl, rfl, on_A (h33 (by omega)) ?_⟩
          unfold prfA
          rw [← ep, ← eop]
          rw [e]
          rw [if_neg (by decide), if_neg (by decide), if_pos (by decide)]
          exact p9
        · have d4 := (sd_4 ey (by omega)).1
          obtain ⟨pa1, pa2⟩ := pa ((od.2.1 ⟨by omega, by omega⟩).1)
          have n5 := nj (by omega) (by omega)
          rw [pa1]
          rw [e]
          refine gi_aload_n (q := 160) (i := 0) C (dm_Mo_one 88 rfl) rfl rfl rfl ?_
          refine gi_iload_n (q := 161) (i := 2) C (dm_Mo_one 89 rfl) rfl rfl rfl ?_
          refine gi_iload_n (q := 162) (i := 1) C (dm_Mo_one 90 rfl) rfl rfl rfl ?_
          refine gi_iload_n (q := 163) (i := 3) C (dm_Mo_one 91 rfl) rfl rfl rfl ?_
          refine gi_iload (q := 165) C (dm_Mo_one 92 rfl) rfl rfl ?_
          refine gi_callv 4 (q := 168) C (dm_Mo_one 93 rfl) rfl my_Mo_other lk_Mo_600 im_Mo_other rfl (c_Mo_other_26 (x := (gotZ z (z.cur.i + 1))) (p := p) gm R (by rw [gm, gn]; omega) (show pN P 7 p ≤ 60 by omega) (by rw [gm, gn]; omega) hc H) Ha rfl rfl ⟨(Nat.le_of_ble_eq_true rfl), (Nat.le_of_ble_eq_true rfl)⟩ (Nat.le_of_ble_eq_true rfl) ⟨(Nat.le_of_ble_eq_true rfl), (Nat.le_of_ble_eq_true rfl)⟩ (fun r165 n165 h165 e165 => ?_)
          obtain ⟨rfl, qn165, p9⟩ := e165
          rw [qn165]
          have p9 := p9.tr ho fm
          refine gi_vret C hr (dm_Mo_one 94 rfl) ?_
          refine ⟨rfl, rfl, on_A (h33 (by omega)) ?_⟩
          unfold prfA
          rw [← ep, ← eop]
          rw [e]
          rw [if_neg (by decide), if_neg (by decide), if_pos (by decide)]
          exact p9
        · have d4 := (sd_4 ey (by omega)).1
          obtain ⟨pa1, pa2⟩ := pa ((od.2.1 ⟨by omega, by omega⟩).1)
          have n5 := nj (by omega) (by omega)
          rw [pa1]
          rw [e]
          refine gi_aload_n (q := 160) (i := 0) C (dm_Mo_one 88 rfl) rfl rfl rfl ?_
          refine gi_iload_n (q := 161) (i := 2) C (dm_Mo_one 89 rfl) rfl rfl rfl ?_
          refine gi_iload_n (q := 162) (i := 1) C (dm_Mo_one 90 rfl) rfl rfl rfl ?_
          refine gi_iload_n (q := 163) (i := 3) C (dm_Mo_one 91 rfl) rfl rfl rfl ?_
          refine gi_iload (q := 165) C (dm_Mo_one 92 rfl) rfl rfl ?_
          refine gi_callv 4 (q := 168) C (dm_Mo_one 93 rfl) rfl my_Mo_other lk_Mo_600 im_Mo_other rfl (c_Mo_other_27 (x := (gotZ z (z.cur.i + 1))) (p := p) gm R (by rw [gm, gn]; omega) (show pN P 7 p ≤ 60 by omega) (by rw [gm, gn]; omega) hc H) Ha rfl rfl ⟨(Nat.le_of_ble_eq_true rfl), (Nat.le_of_ble_eq_true rfl)⟩ (Nat.le_of_ble_eq_true rfl) ⟨(Nat.le_of_ble_eq_true rfl), (Nat.le_of_ble_eq_true rfl)⟩ (fun r165 n165 h165 e165 => ?_)
          obtain ⟨rfl, qn165, p9⟩ := e165
          rw [qn165]
          have p9 := p9.tr ho fm
          refine gi_vret C hr (dm_Mo_one 94 rfl) ?_
          refine ⟨rfl, rfl, on_A (h33 (by omega)) ?_⟩
          unfold prfA
          rw [← ep, ← eop]
          rw [e]
          rw [if_neg (by decide), if_neg (by decide), if_pos (by decide)]
          exact p9
        · have d4 := (sd_4 ey (by omega)).1
          have s28 := stp_28 (Fc := Fz) B T (by rw [← ep, ← eop]; exact e)
          rw [← ep] at s28
          have s25 := s28.1.2
          have h15 : upA F 79 (upd (F 79) z.top (nI (p + 1))) 15 p = nI (siN k P sh p) := by
            rw [upA_n (by decide)]
            have is : isSi k P sh p = true := by
              unfold isSi
              rw [show vldB k P p = true from vld_at hm hi w8 wm.2.2.2.2 epm, ← eop, e, hx]
              rfl
            unfold siN
            rw [if_pos is]
            exact hpg.2.2.2.1 p p480 is
          rw [e]
          refine gi_aload_n (q := 160) (i := 0) C (dm_Mo_one 88 rfl) rfl rfl rfl ?_
          refine gi_iload_n (q := 161) (i := 2) C (dm_Mo_one 89 rfl) rfl rfl rfl ?_
          refine gi_iload_n (q := 162) (i := 1) C (dm_Mo_one 90 rfl) rfl rfl rfl ?_
          refine gi_iload_n (q := 163) (i := 3) C (dm_Mo_one 91 rfl) rfl rfl rfl ?_
          refine gi_iload (q := 165) C (dm_Mo_one 92 rfl) rfl rfl ?_
          refine gi_callv 4 (q := 168) C (dm_Mo_one 93 rfl) rfl my_Mo_other lk_Mo_600 im_Mo_other rfl (c_Mo_other_28 (x := (gotZ z (z.cur.i + 1))) (p := p) gm R (by rw [gm, gn]; omega) (P 7 p) (s := siN k P sh p) p480 h15 s25 (by rw [gm, gn]; omega) hc H) Ha rfl rfl ⟨(Nat.le_of_ble_eq_true rfl), (Nat.le_of_ble_eq_true rfl)⟩ (Nat.le_of_ble_eq_true rfl) ⟨(Nat.le_of_ble_eq_true rfl), (Nat.le_of_ble_eq_true rfl)⟩ (fun r165 n165 h165 e165 => ?_)
          obtain ⟨rfl, qn165, p9⟩ := e165
          rw [qn165]
          have p9 := p9.tr ho fm
          refine gi_vret C hr (dm_Mo_one 94 rfl) ?_
          refine ⟨rfl, rfl, on_A (h33 (by omega)) ?_⟩
          unfold prfA
          rw [← ep, ← eop]
          rw [e]
          rw [if_neg (by decide), if_neg (by decide), if_neg (by decide), if_pos (by decide)]
          exact p9
        · have d4 := (sd_4 ey (by omega)).1
          obtain ⟨-, r, rc, er0⟩ := (stp_29 (Fc := Fz) B T (by rw [← ep, ← eop]; exact e)).1
          have er : topV (gotZ z (z.cur.i + 1)) = nI r := by rw [top_got]; exact er0
          rw [e]
          refine gi_aload_n (q := 160) (i := 0) C (dm_Mo_one 88 rfl) rfl rfl rfl ?_
          refine gi_iload_n (q := 161) (i := 2) C (dm_Mo_one 89 rfl) rfl rfl rfl ?_
          refine gi_iload_n (q := 162) (i := 1) C (dm_Mo_one 90 rfl) rfl rfl rfl ?_
          refine gi_iload_n (q := 163) (i := 3) C (dm_Mo_one 91 rfl) rfl rfl rfl ?_
          refine gi_iload (q := 165) C (dm_Mo_one 92 rfl) rfl rfl ?_
          refine gi_callv 4 (q := 168) C (dm_Mo_one 93 rfl) rfl my_Mo_other lk_Mo_600 im_Mo_other rfl (c_Mo_other_29 (x := (gotZ z (z.cur.i + 1))) (p := p) gm R (by rw [gm, gn]; omega) (P 7 p) (r := r) (by rw [gm, gn]; omega) rc er hc H) Ha rfl rfl ⟨(Nat.le_of_ble_eq_true rfl), (Nat.le_of_ble_eq_true rfl)⟩ (Nat.le_of_ble_eq_true rfl) ⟨(Nat.le_of_ble_eq_true rfl), (Nat.le_of_ble_eq_true rfl)⟩ (fun r165 n165 h165 e165 => ?_)
          obtain ⟨rfl, qn165, p9⟩ := e165
          rw [qn165]
          have p9 := p9.tr ho fm
          refine gi_vret C hr (dm_Mo_one 94 rfl) ?_
          refine ⟨rfl, rfl, on_A (h33 (by omega)) ?_⟩
          unfold prfA
          rw [← ep, ← eop]
          rw [e]
          rw [if_neg (by decide), if_neg (by decide), if_neg (by decide), if_neg (by decide), if_pos (by decide)]
          exact p9
        · have d2 := sd_2 ey (by omega)
          have d3 := d2.1
          obtain ⟨-, r, rc, er0⟩ := (stp_30 (Fc := Fz) B T (by rw [← ep, ← eop]; exact e)).1
          have er : topV (popZ (gotZ z (z.cur.i + 1))) = nI r := by rw [top_pop, got_n, got_s, ← top_pop]; exact er0
          rw [e]
          refine gi_aload_n (q := 160) (i := 0) C (dm_Mo_one 88 rfl) rfl rfl rfl ?_
          refine gi_iload_n (q := 161) (i := 2) C (dm_Mo_one 89 rfl) rfl rfl rfl ?_
          refine gi_iload_n (q := 162) (i := 1) C (dm_Mo_one 90 rfl) rfl rfl rfl ?_
          refine gi_iload_n (q := 163) (i := 3) C (dm_Mo_one 91 rfl) rfl rfl rfl ?_
          refine gi_iload (q := 165) C (dm_Mo_one 92 rfl) rfl rfl ?_
          refine gi_callv 4 (q := 168) C (dm_Mo_one 93 rfl) rfl my_Mo_other lk_Mo_600 im_Mo_other rfl (c_Mo_other_30 (x := (gotZ z (z.cur.i + 1))) (p := p) gm R (by rw [gm, gn]; omega) (P 7 p) (r := r) (by rw [gm, gn]; omega) rc er hc H) Ha rfl rfl ⟨(Nat.le_of_ble_eq_true rfl), (Nat.le_of_ble_eq_true rfl)⟩ (Nat.le_of_ble_eq_true rfl) ⟨(Nat.le_of_ble_eq_true rfl), (Nat.le_of_ble_eq_true rfl)⟩ (fun r165 n165 h165 e165 => ?_)
          obtain ⟨rfl, qn165, p9⟩ := e165
          rw [qn165]
          have p9 := p9.tr ho fm
          refine gi_vret C hr (dm_Mo_one 94 rfl) ?_
          refine ⟨rfl, rfl, on_A (h33 (by omega)) ?_⟩
          unfold prfA
          rw [← ep, ← eop]
          rw [e]
          rw [if_neg (by decide), if_neg (by decide), if_neg (by decide), if_neg (by decide), if_pos (by decide)]
          exact p9
        · have d2 := sd_2 ey (by omega)
          have d3 := d2.2 e
          obtain ⟨-, r, rc, er0⟩ := (stp_31 (Fc := Fz) B T (by rw [← ep, ← eop]; exact e)).1
          have er : topV (popZ (popZ (gotZ z (z.cur.i + 1)))) = nI r := by rw [top_pop2, got_n, got_s, ← top_pop2]; exact er0
          rw [e]
          refine gi_aload_n (q := 160) (i := 0) C (dm_Mo_one 88 rfl) rfl rfl rfl ?_
          refine gi_iload_n (q := 161) (i := 2) C (dm_Mo_one 89 rfl) rfl rfl rfl ?_
          refine gi_iload_n (q := 162) (i := 1) C (dm_Mo_one 90 rfl) rfl rfl rfl ?_
          refine gi_iload_n (q := 163) (i := 3) C (dm_Mo_one 91 rfl) rfl rfl rfl ?_
          refine gi_iload (q := 165) C (dm_Mo_one 92 rfl) rfl rfl ?_
          refine gi_callv 4 (q := 168) C (dm_Mo_one 93 rfl) rfl my_Mo_other lk_Mo_600 im_Mo_other rfl (c_Mo_other_31 (x := (gotZ z (z.cur.i + 1))) (p := p) gm R (by rw [gm, gn]; omega) (P 7 p) (r := r) (by rw [gm, gn]; omega) rc er hc H) Ha rfl rfl ⟨(Nat.le_of_ble_eq_true rfl), (Nat.le_of_ble_eq_true rfl)⟩ (Nat.le_of_ble_eq_true rfl) ⟨(Nat.le_of_ble_eq_true rfl), (Nat.le_of_ble_eq_true rfl)⟩ (fun r165 n165 h165 e165 => ?_)
          obtain ⟨rfl, qn165, p9⟩ := e165
          rw [qn165]
          have p9 := p9.tr ho fm
          refine gi_vret C hr (dm_Mo_one 94 rfl) ?_
          refine ⟨rfl, rfl, on_A (h33 (by omega)) ?_⟩
          unfold prfA
          rw [← ep, ← eop]
          rw [e]
          rw [if_neg (by decide), if_neg (by decide), if_neg (by decide), if_neg (by decide), if_pos (by decide)]
          exact p9
        · obtain ⟨pa1, ak, -⟩ := (stp_32 B T (by rw [← ep, ← eop]; exact e)).1
          rw [← ep] at pa1 ak
          have wa := wf_ar W ak
          have e1 : upA F 79 (upd (F 79) z.top (nI (p + 1))) 1 (pN P 7 p) = nI (pN P 1 (pN P 7 p)) := by
            rw [upA_n (by decide), hpg.1 1 (by decide) (by decide)]
            exact (wf_n W ak).1
          have dk : pN P 1 (pN P 7 p) ≤ x0.1 := by
            rw [e] at ey
            obtain ⟨u, e1, -⟩ := Option.map_eq_some_iff.mp (show (tkN P (pN P 7 p) (pN P 1 (pN P 7 p)) x0).map _ = some y0 from ey)
            exact (vT_tkN _ X.2.2.2.2.1 e1 X.2.2.2.1).2.1
          rw [pa1]
          rw [e]
          refine gi_aload_n (q := 160) (i := 0) C (dm_Mo_one 88 rfl) rfl rfl rfl ?_
          refine gi_iload_n (q := 161) (i := 2) C (dm_Mo_one 89 rfl) rfl rfl rfl ?_
          refine gi_iload_n (q := 162) (i := 1) C (dm_Mo_one 90 rfl) rfl rfl rfl ?_
          refine gi_iload_n (q := 163) (i := 3) C (dm_Mo_one 91 rfl) rfl rfl rfl ?_
          refine gi_iload (q := 165) C (dm_Mo_one 92 rfl) rfl rfl ?_
          refine gi_callv 4 (q := 168) C (dm_Mo_one 93 rfl) rfl my_Mo_other lk_Mo_600 im_Mo_other rfl (c_Mo_other_32 (x := (gotZ z (z.cur.i + 1))) (p := p) gm R (by rw [gm, gn]; omega) (show pN P 7 p < 8 by omega) e1 wa.1 wa.2.2.1 wa.2.1 (by rw [gm, gn]; omega) hc H) Ha rfl rfl ⟨(Nat.le_of_ble_eq_true rfl), (Nat.le_of_ble_eq_true rfl)⟩ (Nat.le_of_ble_eq_true rfl) ⟨(Nat.le_of_ble_eq_true rfl), (Nat.le_of_ble_eq_true rfl)⟩ (fun r165 n165 h165 e165 => ?_)
          obtain ⟨rfl, qn165, p9⟩ := e165
          rw [qn165]
          have p9 := p9.tr ho fm
          refine gi_vret C hr (dm_Mo_one 94 rfl) ?_
          refine ⟨rfl, rfl, on_A (h33 (by omega)) ?_⟩
          unfold prfA
          rw [← ep, ← eop]
          rw [e]
          rw [if_neg (by decide), if_neg (by decide), if_neg (by decide), if_neg (by decide), if_neg (by decide), if_pos (by decide)]
          exact p9
        · obtain ⟨⟨s1, s2, s3⟩, -⟩ := stp_33 B T (by rw [← ep, ← eop]; exact e)
          have rm4 : upA F 79 (upd (F 79) z.top (nI (p + 1))) 4 z.cur.m = nI (pN P 4 z.cur.m) := by
            rw [upA_n (by decide), hpg.1 4 (by decide) (by decide)]
            exact (wf_n W hm).2.2.1
          rw [e] at ey
          have h7 : pN P 4 z.cur.m ≠ 0 → 0 < z.top → (dwnZ (popZ (gotZ z (z.cur.i + 1)))).cur.n - pN P 2 (dwnZ (popZ (gotZ z (z.cur.i + 1)))).cur.m < 8 := fun q0 qt => by
            have kc : (dwnZ (popZ (gotZ z (z.cur.i + 1)))).cur = z.fr (z.top - 1) := by
              show upO (upO z.fr z.top _) z.top _ (z.top - 1) = _
              rw [upO_ne (by omega), upO_ne (by omega)]
            rw [kc]
            obtain ⟨b1, b2, u, b3, b4, b5⟩ := T.2.2.2 (z.top - 1) (by show z.top - 1 < z.top; omega)
            rw [show z.top - 1 + 1 = z.top by omega] at b3
            have b3' : sh (60 * (z.fr (z.top - 1)).m + (z.fr (z.top - 1)).i) = some (rsS (pN P 4 z.cur.m) u) := b3
            unfold rsS at b3'
            rw [if_neg q0] at b3'
            obtain ⟨_, _, _, _, _, q8, _⟩ := B.at_ _ _ b3'
            have q8' : u.1 + 1 ≤ 8 := q8
            have b6 := b5.1
            omega
          rw [e]
          refine gi_aload_n (q := 160) (i := 0) C (dm_Mo_one 88 rfl) rfl rfl rfl ?_
          refine gi_iload_n (q := 161) (i := 2) C (dm_Mo_one 89 rfl) rfl rfl rfl ?_
          refine gi_iload_n (q := 162) (i := 1) C (dm_Mo_one 90 rfl) rfl rfl rfl ?_
          refine gi_iload_n (q := 163) (i := 3) C (dm_Mo_one 91 rfl) rfl rfl rfl ?_
          refine gi_iload (q := 165) C (dm_Mo_one 92 rfl) rfl rfl ?_
          refine gi_callv 4 (q := 168) C (dm_Mo_one 93 rfl) rfl my_Mo_other lk_Mo_600 im_Mo_other rfl (c_Mo_other_33 (x := (gotZ z (z.cur.i + 1))) (p := p) gm R (by rw [gm, gn]; omega) (P 7 p) (by rw [gm]; exact rm4) (by rw [gm]; exact wm.2.2.2.1) (by rw [gm, gn]; intro q; have := sd_33 ey q; omega) (by rw [gm, top_got]; exact s2) (by rw [gm]; exact h7) hc H) Ha rfl rfl ⟨(Nat.le_of_ble_eq_true rfl), (Nat.le_of_ble_eq_true rfl)⟩ (Nat.le_of_ble_eq_true rfl) ⟨(Nat.le_of_ble_eq_true rfl), (Nat.le_of_ble_eq_true rfl)⟩ (fun r165 n165 h165 e165 => ?_)
          obtain ⟨rfl, qn165, p9⟩ := e165
          rw [qn165]
          refine gi_vret C hr (dm_Mo_one 94 rfl) ?_
          refine ⟨rfl, rfl, on_33 (by rw [← ep, ← eop]; exact e) (lv_tr ho fm (lv_got p9))⟩
        · have d1 := sd_1 ey (by omega)
          have y8 := y8 (by omega)
          obtain ⟨pa1, pa2⟩ := pa ((od.2.2.2 (by omega)).1)
          have l4 := (od.2.2.2 (by omega)).2
          rw [pa1]
          rw [e]
          refine gi_aload_n (q := 160) (i := 0) C (dm_Mo_one 88 rfl) rfl rfl rfl ?_
          refine gi_iload_n (q := 161) (i := 2) C (dm_Mo_one 89 rfl) rfl rfl rfl ?_
          refine gi_iload_n (q := 162) (i := 1) C (dm_Mo_one 90 rfl) rfl rfl rfl ?_
          refine gi_iload_n (q := 163) (i := 3) C (dm_Mo_one 91 rfl) rfl rfl rfl ?_
          refine gi_iload (q := 165) C (dm_Mo_one 92 rfl) rfl rfl ?_
          refine gi_callv 4 (q := 168) C (dm_Mo_one 93 rfl) rfl my_Mo_other lk_Mo_600 im_Mo_other rfl (c_Mo_other_34 (x := (gotZ z (z.cur.i + 1))) (p := p) gm R (by rw [gm, gn]; omega) (show pN P 7 p < 4 by omega) (by rw [gm, gn]; omega) hc H) Ha rfl rfl ⟨(Nat.le_of_ble_eq_true rfl), (Nat.le_of_ble_eq_true rfl)⟩ (Nat.le_of_ble_eq_true rfl) ⟨(Nat.le_of_ble_eq_true rfl), (Nat.le_of_ble_eq_true rfl)⟩ (fun r165 n165 h165 e165 => ?_)
          obtain ⟨rfl, qn165, p9⟩ := e165
          rw [qn165]
          have p9 := p9.tr ho fm
          refine gi_vret C hr (dm_Mo_one 94 rfl) ?_
          refine ⟨rfl, rfl, on_A (h33 (by omega)) ?_⟩
          unfold prfA
          rw [← ep, ← eop]
          rw [e]
          rw [if_neg (by decide), if_neg (by decide), if_neg (by decide), if_neg (by decide), if_neg (by decide), if_neg (by decide)]
          exact p9
        · have d4 := (sd_4 ey (by omega)).1
          obtain ⟨pa1, pa2⟩ := pa ((od.2.2.2 (by omega)).1)
          have l4 := (od.2.2.2 (by omega)).2
          rw [pa1]
          rw [e]
          refine gi_aload_n (q := 160) (i := 0) C (dm_Mo_one 88 rfl) rfl rfl rfl ?_
          refine gi_iload_n (q := 161) (i := 2) C (dm_Mo_one 89 rfl) rfl rfl rfl ?_
          refine gi_iload_n (q := 162) (i := 1) C (dm_Mo_one 90 rfl) rfl rfl rfl ?_
          refine gi_iload_n (q := 163) (i := 3) C (dm_Mo_one 91 rfl) rfl rfl rfl ?_
          refine gi_iload (q := 165) C (dm_Mo_one 92 rfl) rfl rfl ?_
          refine gi_callv 4 (q := 168) C (dm_Mo_one 93 rfl) rfl my_Mo_other lk_Mo_600 im_Mo_other rfl (c_Mo_other_35 (x := (gotZ z (z.cur.i + 1))) (p := p) gm R (by rw [gm, gn]; omega) (show pN P 7 p < 4 by omega) (by rw [gm, gn]; omega) hc H) Ha rfl rfl ⟨(Nat.le_of_ble_eq_true rfl), (Nat.le_of_ble_eq_true rfl)⟩ (Nat.le_of_ble_eq_true rfl) ⟨(Nat.le_of_ble_eq_true rfl), (Nat.le_of_ble_eq_true rfl)⟩ (fun r165 n165 h165 e165 => ?_)
          obtain ⟨rfl, qn165, p9⟩ := e165
          rw [qn165]
          have p9 := p9.tr ho fm
          refine gi_vret C hr (dm_Mo_one 94 rfl) ?_
          refine ⟨rfl, rfl, on_A (h33 (by omega)) ?_⟩
          unfold prfA
          rw [← ep, ← eop]
          rw [e]
          rw [if_neg (by decide), if_neg (by decide), if_neg (by decide), if_neg (by decide), if_neg (by decide), if_neg (by decide)]
          exact p9
      · refine gi_iload_n (q := 110) (i := 3) C (dm_Mo_one 61 rfl) rfl rfl rfl ?_
        refine gi_bipush (q := 112) (v := 25) C (dm_Mo_one 62 rfl) rfl (by decide) ?_
        refine gi_icmp_gt (q := 115) (tgt := 159) C (dm_Mo_one 63 rfl) rfl (by decide) (fun c112 => ?_) (fun c112 => ?_)
        · have hop : (op < 7 ∨ 17 < op) ∧ (op < 20 ∨ 25 < op) := by
            refine ⟨?_, ?_⟩
            · first
                | (have q := c42; rw [show (7 : Int32) = nI 7 from rfl, nI_ltP (by omega) (by decide)] at q; exact .inl q)
                | (have q := c48; rw [show (17 : Int32) = nI 17 from rfl, nI_ltP (by decide) (by omega)] at q; exact .inr q)
            · first
                | (have q := c106; rw [show (20 : Int32) = nI 20 from rfl, nI_ltP (by omega) (by decide)] at q; exact .inl q)
                | (have q := c112; rw [show (25 : Int32) = nI 25 from rfl, nI_ltP (by decide) (by omega)] at q; exact .inr q)
          rcases (show op = 0 ∨ op = 1 ∨ op = 2 ∨ op = 3 ∨ op = 4 ∨ op = 5 ∨ op = 6 ∨ op = 18 ∨ op = 19 ∨ op = 26 ∨ op = 27 ∨ op = 28 ∨ op = 29 ∨ op = 30 ∨ op = 31 ∨ op = 32 ∨ op = 33 ∨ op = 34 ∨ op = 35 by omega) with e | e | e | e | e | e | e | e | e | e | e | e | e | e | e | e | e | e | e
          · have d1 := sd_1 ey (by omega)
            have y8 := y8 (by omega)
            rw [e]
            refine gi_aload_n (q := 160) (i := 0) C (dm_Mo_one 88 rfl) rfl rfl rfl ?_
            refine gi_iload_n (q := 161) (i := 2) C (dm_Mo_one 89 rfl) rfl rfl rfl ?_
            refine gi_iload_n (q := 162) (i := 1) C (dm_Mo_one 90 rfl) rfl rfl rfl ?_
            refine gi_iload_n (q := 163) (i := 3) C (dm_Mo_one 91 rfl) rfl rfl rfl ?_
            refine gi_iload (q := 165) C (dm_Mo_one 92 rfl) rfl rfl ?_
            refine gi_callv 4 (q := 168) C (dm_Mo_one 93 rfl) rfl my_Mo_other lk_Mo_600 im_Mo_other rfl (c_Mo_other_0 (x := (gotZ z (z.cur.i + 1))) (p := p) gm R (by rw [gm, gn]; omega) (P 7 p) (by rw [gm, gn]; omega) hc H) Ha rfl rfl ⟨(Nat.le_of_ble_eq_true rfl), (Nat.le_of_ble_eq_true rfl)⟩ (Nat.le_of_ble_eq_true rfl) ⟨(Nat.le_of_ble_eq_true rfl), (Nat.le_of_ble_eq_true rfl)⟩ (fun r165 n165 h165 e165 => ?_)
            obtain ⟨rfl, qn165, p9⟩ := e165
            rw [qn165]
            have p9 := p9.tr ho fm
            refine gi_vret C hr (dm_Mo_one 94 rfl) ?_
            refine ⟨rfl, rfl, on_A (h33 (by omega)) ?_⟩
            unfold prfA
            rw [← ep, ← eop]
            rw [e]
            rw [if_pos (by decide)]
            exact p9
          · have d1 := sd_1 ey (by omega)
            have y8 := y8 (by omega)
            obtain ⟨pa1, pa2⟩ := pa ((od.1 (by omega)).1)
            have la := (od.1 (by omega)).2
            rw [pa1]
            rw [e]
            refine gi_aload_n (q := 160) (i := 0) C (dm_Mo_one 88 rfl) rfl rfl rfl ?_
            refine gi_iload_n (q := 161) (i := 2) C (dm_Mo_one 89 rfl) rfl rfl rfl ?_
            refine gi_iload_n (q := 162) (i := 1) C (dm_Mo_one 90 rfl) rfl rfl rfl ?_
            refine gi_iload_n (q := 163) (i := 3) C (dm_Mo_one 91 rfl) rfl rfl rfl ?_
            refine gi_iload (q := 165) C (dm_Mo_one 92 rfl) rfl rfl ?_
            refine gi_callv 4 (q := 168) C (dm_Mo_one 93 rfl) rfl my_Mo_other lk_Mo_600 im_Mo_other rfl (c_Mo_other_1 (x := (gotZ z (z.cur.i + 1))) (p := p) gm R (by rw [gm, gn]; omega) (by rw [gm, gn]; omega) (show pN P 7 p < _ by rw [gm]; omega) hc H) Ha rfl rfl ⟨(Nat.le_of_ble_eq_true rfl), (Nat.le_of_ble_eq_true rfl)⟩ (Nat.le_of_ble_eq_true rfl) ⟨(Nat.le_of_ble_eq_true rfl), (Nat.le_of_ble_eq_true rfl)⟩ (fun r165 n165 h165 e165 => ?_)
            obtain ⟨rfl, qn165, p9⟩ := e165
            rw [qn165]
            have p9 := p9.tr ho fm
            refine gi_vret C hr (dm_Mo_one 94 rfl) ?_
            refine ⟨rfl, rfl, on_A (h33 (by omega)) ?_⟩
            unfold prfA
            rw [← ep, ← eop]
            rw [e]
            rw [if_pos (by decide), pa1]
            exact p9
          · have d4 := (sd_4 ey (by omega)).1
            obtain ⟨pa1, pa2⟩ := pa ((od.1 (by omega)).1)
            have la := (od.1 (by omega)).2
            rw [pa1]
            rw [e]
            refine gi_aload_n (q := 160) (i := 0) C (dm_Mo_one 88 rfl) rfl rfl rfl ?_
            refine gi_iload_n (q := 161) (i := 2) C (dm_Mo_one 89 rfl) rfl rfl rfl ?_
            refine gi_iload_n (q := 162) (i := 1) C (dm_Mo_one 90 rfl) rfl rfl rfl ?_
            refine gi_iload_n (q := 163) (i := 3) C (dm_Mo_one 91 rfl) rfl rfl rfl ?_
            refine gi_iload (q := 165) C (dm_Mo_one 92 rfl) rfl rfl ?_
            refine gi_callv 4 (q := 168) C (dm_Mo_one 93 rfl) rfl my_Mo_other lk_Mo_600 im_Mo_other rfl (c_Mo_other_2 (x := (gotZ z (z.cur.i + 1))) (p := p) gm R (by rw [gm, gn]; omega) (by rw [gm, gn]; omega) (show pN P 7 p < _ by rw [gm]; omega) hc H) Ha rfl rfl ⟨(Nat.le_of_ble_eq_true rfl), (Nat.le_of_ble_eq_true rfl)⟩ (Nat.le_of_ble_eq_true rfl) ⟨(Nat.le_of_ble_eq_true rfl), (Nat.le_of_ble_eq_true rfl)⟩ (fun r165 n165 h165 e165 => ?_)
            obtain ⟨rfl, qn165, p9⟩ := e165
            rw [qn165]
            have p9 := p9.tr ho fm
            refine gi_vret C hr (dm_Mo_one 94 rfl) ?_
            refine ⟨rfl, rfl, on_A (h33 (by omega)) ?_⟩
            unfold prfA
            rw [← ep, ← eop]
            rw [e]
            rw [if_pos (by decide), pa1]
            exact p9
          · have d1 := sd_1 ey (by omega)
            have y8 := y8 (by omega)
            rw [e]
            refine gi_aload_n (q := 160) (i := 0) C (dm_Mo_one 88 rfl) rfl rfl rfl ?_
            refine gi_iload_n (q := 161) (i := 2) C (dm_Mo_one 89 rfl) rfl rfl rfl ?_
            refine gi_iload_n (q := 162) (i := 1) C (dm_Mo_one 90 rfl) rfl rfl rfl ?_
            refine gi_iload_n (q := 163) (i := 3) C (dm_Mo_one 91 rfl) rfl rfl rfl ?_
            refine gi_iload (q := 165) C (dm_Mo_one 92 rfl) rfl rfl ?_
            refine gi_callv 4 (q := 168) C (dm_Mo_one 93 rfl) rfl my_Mo_other lk_Mo_600 im_Mo_other rfl (c_Mo_other_3 (x := (gotZ z (z.cur.i + 1))) (p := p) gm R (by rw [gm, gn]; omega) (P 7 p) (by rw [gm, gn]; omega) hc H) Ha rfl rfl ⟨(Nat.le_of_ble_eq_true rfl), (Nat.le_of_ble_eq_true rfl)⟩ (Nat.le_of_ble_eq_true rfl) ⟨(Nat.le_of_ble_eq_true rfl), (Nat.le_of_ble_eq_true rfl)⟩ (fun r165 n165 h165 e165 => ?_)
            obtain ⟨rfl, qn165, p9⟩ := e165
            rw [qn165]
            have p9 := p9.tr ho fm
            refine gi_vret C hr (dm_Mo_one 94 rfl) ?_
            refine ⟨rfl, rfl, on_A (h33 (by omega)) ?_⟩
            unfold prfA
            rw [← ep, ← eop]
            rw [e]
            rw [if_pos (by decide)]
            exact p9
          · have d4 := (sd_4 ey (by omega)).1
            rw [e]
            refine gi_aload_n (q := 160) (i := 0) C (dm_Mo_one 88 rfl) rfl rfl rfl ?_
            refine gi_iload_n (q := 161) (i := 2) C (dm_Mo_one 89 rfl) rfl rfl rfl ?_
            refine gi_iload_n (q := 162) (i := 1) C (dm_Mo_one 90 rfl) rfl rfl rfl ?_
            refine gi_iload_n (q := 163) (i := 3) C (dm_Mo_one 91 rfl) rfl rfl rfl ?_
            refine gi_iload (q := 165) C (dm_Mo_one 92 rfl) rfl rfl ?_
            refine gi_callv 4 (q := 168) C (dm_Mo_one 93 rfl) rfl my_Mo_other lk_Mo_600 im_Mo_other rfl (c_Mo_other_4 (x := (gotZ z (z.cur.i + 1))) (p := p) gm R (by rw [gm, gn]; omega) (P 7 p) (by rw [gm, gn]; omega) hc H) Ha rfl rfl ⟨(Nat.le_of_ble_eq_true rfl), (Nat.le_of_ble_eq_true rfl)⟩ (Nat.le_of_ble_eq_true rfl) ⟨(Nat.le_of_ble_eq_true rfl), (Nat.le_of_ble_eq_true rfl)⟩ (fun r165 n165 h165 e165 => ?_)
            obtain ⟨rfl, qn165, p9⟩ := e165
            rw [qn165]
            have p9 := p9.tr ho fm
            refine gi_vret C hr (dm_Mo_one 94 rfl) ?_
            refine ⟨rfl, rfl, on_A (h33 (by omega)) ?_⟩
            unfold prfA
            rw [← ep, ← eop]
            rw [e]
            rw [if_pos (by decide)]
            exact p9
          · have d4 := sd_4 ey (by omega)
            have d5 := d4.2 e
            have y8 := y8 (by omega)
            rw [e]
            refine gi_aload_n (q := 160) (i := 0) C (dm_Mo_one 88 rfl) rfl rfl rfl ?_
            refine gi_iload_n (q := 161) (i := 2) C (dm_Mo_one 89 rfl) rfl rfl rfl ?_
            refine gi_iload_n (q := 162) (i := 1) C (dm_Mo_one 90 rfl) rfl rfl rfl ?_
            refine gi_iload_n (q := 163) (i := 3) C (dm_Mo_one 91 rfl) rfl rfl rfl ?_
            refine gi_iload (q := 165) C (dm_Mo_one 92 rfl) rfl rfl ?_
            refine gi_callv 4 (q := 168) C (dm_Mo_one 93 rfl) rfl my_Mo_other lk_Mo_600 im_Mo_other rfl (c_Mo_other_5 (x := (gotZ z (z.cur.i + 1))) (p := p) gm R (by rw [gm, gn]; omega) (P 7 p) (by rw [gm, gn]; omega) (by rw [gm, gn]; omega) hc H) Ha rfl rfl ⟨(Nat.le_of_ble_eq_true rfl), (Nat.le_of_ble_eq_true rfl)⟩ (Nat.le_of_ble_eq_true rfl) ⟨(Nat.le_of_ble_eq_true rfl), (Nat.le_of_ble_eq_true rfl)⟩ (fun r165 n165 h165 e165 => ?_)
            obtain ⟨rfl, qn165, p9⟩ := e165
            rw [qn165]
            have p9 := p9.tr ho fm
            refine gi_vret C hr (dm_Mo_one 94 rfl) ?_
            refine ⟨rfl, rfl, on_A (h33 (by omega)) ?_⟩
            unfold prfA
            rw [← ep, ← eop]
            rw [e]
            rw [if_pos (by decide)]
            exact p9
          · have d2 := (sd_2 ey (by omega)).1
            rw [e]
            refine gi_aload_n (q := 160) (i := 0) C (dm_Mo_one 88 rfl) rfl rfl rfl ?_
            refine gi_iload_n (q := 161) (i := 2) C (dm_Mo_one 89 rfl) rfl rfl rfl ?_
            refine gi_iload_n (q := 162) (i := 1) C (dm_Mo_one 90 rfl) rfl rfl rfl ?_
            refine gi_iload_n (q := 163) (i := 3) C (dm_Mo_one 91 rfl) rfl rfl rfl ?_
            refine gi_iload (q := 165) C (dm_Mo_one 92 rfl) rfl rfl ?_
            refine gi_callv 4 (q := 168) C (dm_Mo_one 93 rfl) rfl my_Mo_other lk_Mo_600 im_Mo_other rfl (c_Mo_other_6 (x := (gotZ z (z.cur.i + 1))) (p := p) gm R (by rw [gm, gn]; omega) (P 7 p) (by rw [gm, gn]; omega) hc H) Ha rfl rfl ⟨(Nat.le_of_ble_eq_true rfl), (Nat.le_of_ble_eq_true rfl)⟩ (Nat.le_of_ble_eq_true rfl) ⟨(Nat.le_of_ble_eq_true rfl), (Nat.le_of_ble_eq_true rfl)⟩ (fun r165 n165 h165 e165 => ?_)
            obtain ⟨rfl, qn165, p9⟩ := e165
            rw [qn165]
            have p9 := p9.tr ho fm
            refine gi_vret C hr (dm_Mo_one 94 rfl) ?_
            refine ⟨rfl, rfl, on_A (h33 (by omega)) ?_⟩
            unfold prfA
            rw [← ep, ← eop]
            rw [e]
            rw [if_pos (by decide)]
            exact p9
          · have d4 := (sd_4 ey (by omega)).1
            rw [e]
            refine gi_aload_n (q := 160) (i := 0) C (dm_Mo_one 88 rfl) rfl rfl rfl ?_
            refine gi_iload_n (q := 161) (i := 2) C (dm_Mo_one 89 rfl) rfl rfl rfl ?_
            refine gi_iload_n (q := 162) (i := 1) C (dm_Mo_one 90 rfl) rfl rfl rfl ?_
            refine gi_iload_n (q := 163) (i := 3) C (dm_Mo_one 91 rfl) rfl rfl rfl ?_
            refine gi_iload (q := 165) C (dm_Mo_one 92 rfl) rfl rfl ?_
            refine gi_callv 4 (q := 168) C (dm_Mo_one 93 rfl) rfl my_Mo_other lk_Mo_600 im_Mo_other rfl (c_Mo_other_18 (x := (gotZ z (z.cur.i + 1))) (p := p) gm R (by rw [gm, gn]; omega) (P 7 p) (by rw [gm, gn]; omega) hc H) Ha rfl rfl ⟨(Nat.le_of_ble_eq_true rfl), (Nat.le_of_ble_eq_true rfl)⟩ (Nat.le_of_ble_eq_true rfl) ⟨(Nat.le_of_ble_eq_true rfl), (Nat.le_of_ble_eq_true rfl)⟩ (fun r165 n165 h165 e165 => ?_)
            obtain ⟨rfl, qn165, p9⟩ := e165
            rw [qn165]
            have p9 := p9.tr ho fm
            refine gi_vret C hr (dm_Mo_one 94 rfl) ?_
            refine ⟨rfl, rfl, on_A (h33 (by omega)) ?_⟩
            unfold prfA
            rw [← ep, ← eop]
            rw [e]
            rw [if_neg (by decide), if_pos (by decide)]
            exact p9
          · obtain ⟨pa1, pa2⟩ := pa ((od.2.1 ⟨by omega, by omega⟩).1)
            have n5 := nj (by omega) (by omega)
            rw [pa1]
            rw [e]
            refine gi_aload_n (q := 160) (i := 0) C (dm_Mo_one 88 rfl) rfl rfl rfl ?_
            refine gi_iload_n (q := 161) (i := 2) C (dm_Mo_one 89 rfl) rfl rfl rfl ?_
            refine gi_iload_n (q := 162) (i := 1) C (dm_Mo_one 90 rfl) rfl rfl rfl ?_
            refine gi_iload_n (q := 163) (i := 3) C (dm_Mo_one 91 rfl) rfl rfl rfl ?_
            refine gi_iload (q := 165) C (dm_Mo_one 92 rfl) rfl rfl ?_
            refine gi_callv 4 (q := 168) C (dm_Mo_one 93 rfl) rfl my_Mo_other lk_Mo_600 im_Mo_other rfl (c_Mo_other_19 (x := (gotZ z (z.cur.i + 1))) (p := p) gm R (by rw [gm, gn]; omega) (show pN P 7 p ≤ 60 by omega) hc H) Ha rfl rfl ⟨(Nat.le_of_ble_eq_true rfl), (Nat.le_of_ble_eq_true rfl)⟩ (Nat.le_of_ble_eq_true rfl) ⟨(Nat.le_of_ble_eq_true rfl), (Nat.le_of_ble_eq_true rfl)⟩ (fun r165 n165 h165 e165 => ?_)
            obtain ⟨rfl, qn165, p9⟩ := e165
            rw [qn165]
            have p9 := p9.tr ho fm
            refine gi_vret C hr (dm_Mo_one 94 rfl) ?_
            refine ⟨rfl, rfl, on_A (h33 (by omega)) ?_⟩
            unfold prfA
            rw [← ep, ← eop]
            rw [e]
            rw [if_neg (by decide), if_neg (by decide), if_pos (by decide)]
            exact p9
          · have d4 := (sd_4 ey (by omega)).1
            obtain ⟨pa1, pa2⟩ := pa ((od.2.1 ⟨by omega, by omega⟩).1)
            have n5 := nj (by omega) (by omega)
            rw [pa1]
            rw [e]
            refine gi_aload_n (q := 160) (i := 0) C (dm_Mo_one 88 rfl) rfl rfl rfl ?_
            refine gi_iload_n (q := 161) (i := 2) C (dm_Mo_one 89 rfl) rfl rfl rfl ?_
            refine gi_iload_n (q := 162) (i := 1) C (dm_Mo_one 90 rfl) rfl rfl rfl ?_
            refine gi_iload_n (q := 163) (i := 3) C (dm_Mo_one 91 rfl) rfl rfl rfl ?_
            refine gi_iload (q := 165) C (dm_Mo_one 92 rfl) rfl rfl ?_
            refine gi_callv 4 (q := 168) C (dm_Mo_one 93 rfl) rfl my_Mo_other lk_Mo_600 im_Mo_other rfl (c_Mo_other_26 (x := (gotZ z (z.cur.i + 1))) (p := p) gm R (by rw [gm, gn]; omega) (show pN P 7 p ≤ 60 by omega) (by rw [gm, gn]; omega) hc H) Ha rfl rfl ⟨(Nat.le_of_ble_eq_true rfl), (Nat.le_of_ble_eq_true rfl)⟩ (Nat.le_of_ble_eq_true rfl) ⟨(Nat.le_of_ble_eq_true rfl), (Nat.le_of_ble_eq_true rfl)⟩ (fun r165 n165 h165 e165 => ?_)
            obtain ⟨rfl, qn165, p9⟩ := e165
            rw [qn165]
            have p9 := p9.tr ho fm
            refine gi_vret C hr (dm_Mo_one 94 rfl) ?_
            refine ⟨rfl, rfl, on_A (h33 (by omega)) ?_⟩
            unfold prfA
            rw [← ep, ← eop]
            rw [e]
            rw [if_neg (by decide), if_neg (by decide), if_pos (by decide)]
            exact p9
          · have d4 := (sd_4 ey (by omega)).1
            obtain ⟨pa1, pa2⟩ := pa ((od.2.1 ⟨by omega, by omega⟩).1)
            have n5 := nj (by omega) (by omega)
            rw [pa1]
            rw [e]
            refine gi_aload_n (q := 160) (i := 0) C (dm_Mo_one 88 rfl) rfl rfl rfl ?_
            refine gi_iload_n (q := 161) (i := 2) C (dm_Mo_one 89 rfl) rfl rfl rfl ?_
            refine gi_iload_n (q := 162) (i := 1) C (dm_Mo_one 90 rfl) rfl rfl rfl ?_
            refine gi_iload_n (q := 163) (i := 3) C (dm_Mo_one 91 rfl) rfl rfl rfl ?_
            refine gi_iload (q := 165) C (dm_Mo_one 92 rfl) rfl rfl ?_
            refine gi_callv 4 (q := 168) C (dm_Mo_one 93 rfl) rfl my_Mo_other lk_Mo_600 im_Mo_other rfl (c_Mo_other_27 (x := (gotZ z (z.cur.i + 1))) (p := p) gm R (by rw [gm, gn]; omega) (show pN P 7 p ≤ 60 by omega) (by rw [gm, gn]; omega) hc H) Ha rfl rfl ⟨(Nat.le_of_ble_eq_true rfl), (Nat.le_of_ble_eq_true rfl)⟩ (Nat.le_of_ble_eq_true rfl) ⟨(Nat.le_of_ble_eq_true rfl), (Nat.le_of_ble_eq_true rfl)⟩ (fun r165 n165 h165 e165 => ?_)
            obtain ⟨rfl, qn165, p9⟩ := e165
            rw [qn165]
            have p9 := p9.tr ho fm
            refine gi_vret C hr (dm_Mo_one 94 rfl) ?_
            refine ⟨rfl, rfl, on_A (h33 (by omega)) ?_⟩
            unfold prfA
            rw [← ep, ← eop]
            rw [e]
            rw [if_neg (by decide), if_neg (by decide), if_pos (by decide)]
            exact p9
          · have d4 := (sd_4 ey (by omega)).1
            have s28 := stp_28 (Fc := Fz) B T (by rw [← ep, ← eop]; exact e)
            rw [← ep] at s28
            have s25 := s28.1.2
            have h15 : upA F 79 (upd (F 79) z.top (nI (p + 1))) 15 p = nI (siN k P sh p) := by
              rw [upA_n (by decide)]
              have is : isSi k P sh p = true := by
                unfold isSi
                rw [show vldB k P p = true from vld_at hm hi w8 wm.2.2.2.2 epm, ← eop, e, hx]
                rfl
              unfold siN
              rw [if_pos is]
              exact hpg.2.2.2.1 p p480 is
            rw [e]
            refine gi_aload_n (q := 160) (i := 0) C (dm_Mo_one 88 rfl) rfl rfl rfl ?_
            refine gi_iload_n (q := 161) (i := 2) C (dm_Mo_one 89 rfl) rfl rfl rfl ?_
            refine gi_iload_n (q := 162) (i := 1) C (dm_Mo_one 90 rfl) rfl rfl rfl ?_
            refine gi_iload_n (q := 163) (i := 3) C (dm_Mo_one 91 rfl) rfl rfl rfl ?_
            refine gi_iload (q := 165) C (dm_Mo_one 92 rfl) rfl rfl ?_
            refine gi_callv 4 (q := 168) C (dm_Mo_one 93 rfl) rfl my_Mo_other lk_Mo_600 im_Mo_other rfl (c_Mo_other_28 (x := (gotZ z (z.cur.i + 1))) (p := p) gm R (by rw [gm, gn]; omega) (P 7 p) (s := siN k P sh p) p480 h15 s25 (by rw [gm, gn]; omega) hc H) Ha rfl rfl ⟨(Nat.le_of_ble_eq_true rfl), (Nat.le_of_ble_eq_true rfl)⟩ (Nat.le_of_ble_eq_true rfl) ⟨(Nat.le_of_ble_eq_true rfl), (Nat.le_of_ble_eq_true rfl)⟩ (fun r165 n165 h165 e165 => ?_)
            obtain ⟨rfl, qn165, p9⟩ := e165
            rw [qn165]
            have p9 := p9.tr ho fm
            refine gi_vret C hr (dm_Mo_one 94 rfl) ?_
            refine ⟨rfl, rfl, on_A (h33 (by omega)) ?_⟩
            unfold prfA
            rw [← ep, ← eop]
            rw [e]
            rw [if_neg (by decide), if_neg (by decide), if_neg (by decide), if_pos (by decide)]
            exact p9
          · have d4 := (sd_4 ey (by omega)).1
            obtain ⟨-, r, rc, er0⟩ := (stp_29 (Fc := Fz) B T (by rw [← ep, ← eop]; exact e)).1
            have er : topV (gotZ z (z.cur.i + 1)) = nI r := by rw [top_got]; exact er0
            rw [e]
            refine gi_aload_n (q := 160) (i := 0) C (dm_Mo_one 88 rfl) rfl rfl rfl ?_
            refine gi_iload_n (q := 161) (i := 2) C (dm_Mo_one 89 rfl) rfl rfl rfl ?_
            refine gi_iload_n (q := 162) (i := 1) C (dm_Mo_one 90 rfl) rfl rfl rfl ?_
            refine gi_iload_n (q := 163) (i := 3) C (dm_Mo_one 91 rfl) rfl rfl rfl ?_
            refine gi_iload (q := 165) C (dm_Mo_one 92 rfl) rfl rfl ?_
            refine gi_callv 4 (q := 168) C (dm_Mo_one 93 rfl) rfl my_Mo_other lk_Mo_600 im_Mo_other rfl (c_Mo_other_29 (x := (gotZ z (z.cur.i + 1))) (p := p) gm R (by rw [gm, gn]; omega) (P 7 p) (r := r) (by rw [gm, gn]; omega) rc er hc H) Ha rfl rfl ⟨(Nat.le_of_ble_eq_true rfl), (Nat.le_of_ble_eq_true rfl)⟩ (Nat.le_of_ble_eq_true rfl) ⟨(Nat.le_of_ble_eq_true rfl), (Nat.le_of_ble_eq_true rfl)⟩ (fun r165 n165 h165 e165 => ?_)
            obtain ⟨rfl, qn165, p9⟩ := e165
            rw [qn165]
            have p9 := p9.tr ho fm
            refine gi_vret C hr (dm_Mo_one 94 rfl) ?_
            refine ⟨rfl, rfl, on_A (h33 (by omega)) ?_⟩
            unfold prfA
            rw [← ep, ← eop]
            rw [e]
            rw [if_neg (by decide), if_neg (by decide), if_neg (by decide), if_neg (by decide), if_pos (by decide)]
            exact p9
          · have d2 := sd_2 ey (by omega)
            have d3 := d2.1
            obtain ⟨-, r, rc, er0⟩ := (stp_30 (Fc := Fz) B T (by rw [← ep, ← eop]; exact e)).1
            have er : topV (popZ (gotZ z (z.cur.i + 1))) = nI r := by rw [top_pop, got_n, got_s, ← top_pop]; exact er0
            rw [e]
            refine gi_aload_n (q := 160) (i := 0) C (dm_Mo_one 88 rfl) rfl rfl rfl ?_
            refine gi_iload_n (q := 161) (i := 2) C (dm_Mo_one 89 rfl) rfl rfl rfl ?_
            refine gi_iload_n (q := 162) (i := 1) C (dm_Mo_one 90 rfl) rfl rfl rfl ?_
            refine gi_iload_n (q := 163) (i := 3) C (dm_Mo_one 91 rfl) rfl rfl rfl ?_
            refine gi_iload (q := 165) C (dm_Mo_one 92 rfl) rfl rfl ?_
            refine gi_callv 4 (q := 168) C (dm_Mo_one 93 rfl) rfl my_Mo_other lk_Mo_600 im_Mo_other rfl (c_Mo_other_30 (x := (gotZ z (z.cur.i + 1))) (p := p) gm R (by rw [gm, gn]; omega) (P 7 p) (r := r) (by rw [gm, gn]; omega) rc er hc H) Ha rfl rfl ⟨(Nat.le_of_ble_eq_true rfl), (Nat.le_of_ble_eq_true rfl)⟩ (Nat.le_of_ble_eq_true rfl) ⟨(Nat.le_of_ble_eq_true rfl), (Nat.le_of_ble_eq_true rfl)⟩ (fun r165 n165 h165 e165 => ?_)
            obtain ⟨rfl, qn165, p9⟩ := e165
            rw [qn165]
            have p9 := p9.tr ho fm
            refine gi_vret C hr (dm_Mo_one 94 rfl) ?_
            refine ⟨rfl, rfl, on_A (h33 (by omega)) ?_⟩
            unfold prfA
            rw [← ep, ← eop]
            rw [e]
            rw [if_neg (by decide), if_neg (by decide), if_neg (by decide), if_neg (by decide), if_pos (by decide)]
            exact p9
          · have d2 := sd_2 ey (by omega)
            have d3 := d2.2 e
            obtain ⟨-, r, rc, er0⟩ := (stp_31 (Fc := Fz) B T (by rw [← ep, ← eop]; exact e)).1
            have er : topV (popZ (popZ (gotZ z (z.cur.i + 1)))) = nI r := by rw [top_pop2, got_n, got_s, ← top_pop2]; exact er0
            rw [e]
            refine gi_aload_n (q := 160) (i := 0) C (dm_Mo_one 88 rfl) rfl rfl rfl ?_
            refine gi_iload_n (q := 161) (i := 2) C (dm_Mo_one 89 rfl) rfl rfl rfl ?_
            refine gi_iload_n (q := 162) (i := 1) C (dm_Mo_one 90 rfl) rfl rfl rfl ?_
            refine gi_iload_n (q := 163) (i := 3) C (dm_Mo_one 91 rfl) rfl rfl rfl ?_
            refine gi_iload (q := 165) C (dm_Mo_one 92 rfl) rfl rfl ?_
            refine gi_callv 4 (q := 168) C (dm_Mo_one 93 rfl) rfl my_Mo_other lk_Mo_600 im_Mo_other rfl (c_Mo_other_31 (x := (gotZ z (z.cur.i + 1))) (p := p) gm R (by rw [gm, gn]; omega) (P 7 p) (r := r) (by rw [gm, gn]; omega) rc er hc H) Ha rfl rfl ⟨(Nat.le_of_ble_eq_true rfl), (Nat.le_of_ble_eq_true rfl)⟩ (Nat.le_of_ble_eq_true rfl) ⟨(Nat.le_of_ble_eq_true rfl), (Nat.le_of_ble_eq_true rfl)⟩ (fun r165 n165 h165 e165 => ?_)
            obtain ⟨rfl, qn165, p9⟩ := e165
            rw [qn165]
            have p9 := p9.tr ho fm
            refine gi_vret C hr (dm_Mo_one 94 rfl) ?_
            refine ⟨rfl, rfl, on_A (h33 (by omega)) ?_⟩
            unfold prfA
            rw [← ep, ← eop]
            rw [e]
            rw [if_neg (by decide), if_neg (by decide), if_neg (by decide), if_neg (by decide), if_pos (by decide)]
            exact p9
          · obtain ⟨pa1, ak, -⟩ := (stp_32 B T (by rw [← ep, ← eop]; exact e)).1
            rw [← ep] at pa1 ak
            have wa := wf_ar W ak
            have e1 : upA F 79 (upd (F 79) z.top (nI (p + 1))) 1 (pN P 7 p) = nI (pN P 1 (pN P 7 p)) := by
              rw [upA_n (by decide), hpg.1 1 (by decide) (by decide)]
              exact (wf_n W ak).1
            have dk : pN P 1 (pN P 7 p) ≤ x0.1 := by
              rw [e] at ey
              obtain ⟨u, e1, -⟩ := Option.map_eq_some_iff.mp (show (tkN P (pN P 7 p) (pN P 1 (pN P 7 p)) x0).map _ = some y0 from ey)
              exact (vT_tkN _ X.2.2.2.2.1 e1 X.2.2.2.1).2.1
            rw [pa1]
            rw [e]
            refine gi_aload_n (q := 160) (i := 0) C (dm_Mo_one 88 rfl) rfl rfl rfl ?_
            refine gi_iload_n (q := 161) (i := 2) C (dm_Mo_one 89 rfl) rfl rfl rfl ?_
            refine gi_iload_n (q := 162) (i := 1) C (dm_Mo_one 90 rfl) rfl rfl rfl ?_
            refine gi_iload_n (q := 163) (i := 3) C (dm_Mo_one 91 rfl) rfl rfl rfl ?_
            refine gi_iload (q := 165) C (dm_Mo_one 92 rfl) rfl rfl ?_
            refine gi_callv 4 (q := 168) C (dm_Mo_one 93 rfl) rfl my_Mo_other lk_Mo_600 im_Mo_other rfl (c_Mo_other_32 (x := (gotZ z (z.cur.i + 1))) (p := p) gm R (by rw [gm, gn]; omega) (show pN P 7 p < 8 by omega) e1 wa.1 wa.2.2.1 wa.2.1 (by rw [gm, gn]; omega) hc H) Ha rfl rfl ⟨(Nat.le_of_ble_eq_true rfl), (Nat.le_of_ble_eq_true rfl)⟩ (Nat.le_of_ble_eq_true rfl) ⟨(Nat.le_of_ble_eq_true rfl), (Nat.le_of_ble_eq_true rfl)⟩ (fun r165 n165 h165 e165 => ?_)
            obtain ⟨rfl, qn165, p9⟩ := e165
            rw [qn165]
            have p9 := p9.tr ho fm
            refine gi_vret C hr (dm_Mo_one 94 rfl) ?_
            refine ⟨rfl, rfl, on_A (h33 (by omega)) ?_⟩
            unfold prfA
            rw [← ep, ← eop]
            rw [e]
            rw [if_neg (by decide), if_neg (by decide), if_neg (by decide), if_neg (by decide), if_neg (by decide), if_pos (by decide)]
            exact p9
          · obtain ⟨⟨s1, s2, s3⟩, -⟩ := stp_33 B T (by rw [← ep, ← eop]; exact e)
            have rm4 : upA F 79 (upd (F 79) z.top (nI (p + 1))) 4 z.cur.m = nI (pN P 4 z.cur.m) := by
              rw [upA_n (by decide), hpg.1 4 (by decide) (by decide)]
              exact (wf_n W hm).2.2.1
            rw [e] at ey
            have h7 : pN P 4 z.cur.m ≠ 0 → 0 < z.top → (dwnZ (popZ (gotZ z (z.cur.i + 1)))).cur.n - pN P 2 (dwnZ (popZ (gotZ z (z.cur.i + 1)))).cur.m < 8 := fun q0 qt => by
              have kc : (dwnZ (popZ (gotZ z (z.cur.i + 1)))).cur = z.fr (z.top - 1) := by
                show upO (upO z.fr z.top _) z.top _ (z.top - 1) = _
                rw [upO_ne (by omega), upO_ne (by omega)]
              rw [kc]
              obtain ⟨b1, b2, u, b3, b4, b5⟩ := T.2.2.2 (z.top - 1) (by show z.top - 1 < z.top; omega)
              rw [show z.top - 1 + 1 = z.top by omega] at b3
              have b3' : sh (60 * (z.fr (z.top - 1)).m + (z.fr (z.top - 1)).i) = some (rsS (pN P 4 z.cur.m) u) := b3
              unfold rsS at b3'
              rw [if_neg q0] at b3'
              obtain ⟨_, _, _, _, _, q8, _⟩ := B.at_ _ _ b3'
              have q8' : u.1 + 1 ≤ 8 := q8
              have b6 := b5.1
              omega
            rw [e]
            refine gi_aload_n (q := 160) (i := 0) C (dm_Mo_one 88 rfl) rfl rfl rfl ?_
            refine gi_iload_n (q := 161) (i := 2) C (dm_Mo_one 89 rfl) rfl rfl rfl ?_
            refine gi_iload_n (q := 162) (i := 1) C (dm_Mo_one 90 rfl) rfl rfl rfl ?_
            refine gi_iload_n (q := 163) (i := 3) C (dm_Mo_one 91 rfl) rfl rfl rfl ?_
            refine gi_iload (q := 165) C (dm_Mo_one 92 rfl) rfl rfl ?_
            refine gi_callv 4 (q := 168) C (dm_Mo_one 93 rfl) rfl my_Mo_other lk_Mo_600 im_Mo_other rfl (c_Mo_other_33 (x := (gotZ z (z.cur.i + 1))) (p := p) gm R (by rw [gm, gn]; omega) (P 7 p) (by rw [gm]; exact rm4) (by rw [gm]; exact wm.2.2.2.1) (by rw [gm, gn]; intro q; have := sd_33 ey q; omega) (by rw [gm, top_got]; exact s2) (by rw [gm]; exact h7) hc H) Ha rfl rfl ⟨(Nat.le_of_ble_eq_true rfl), (Nat.le_of_ble_eq_true rfl)⟩ (Nat.le_of_ble_eq_true rfl) ⟨(Nat.le_of_ble_eq_true rfl), (Nat.le_of_ble_eq_true rfl)⟩ (fun r165 n165 h165 e165 => ?_)
            obtain ⟨rfl, qn165, p9⟩ := e165
            rw [qn165]
            refine gi_vret C hr (dm_Mo_one 94 rfl) ?_
            refine ⟨rfl, rfl, on_33 (by rw [← ep, ← eop]; exact e) (lv_tr ho fm (lv_got p9))⟩
          · have d1 := sd_1 ey (by omega)
            have y8 := y8 (by omega)
            obtain ⟨pa1, pa2⟩ := pa ((od.2.2.2 (by omega)).1)
            have l4 := (od.2.2.2 (by omega)).2
            rw [pa1]
            rw [e]
            refine gi_aload_n (q := 160) (i := 0) C (dm_Mo_one 88 rfl) rfl rfl rfl ?_
            refine gi_iload_n (q := 161) (i := 2) C (dm_Mo_one 89 rfl) rfl rfl rfl ?_
            refine gi_iload_n (q := 162) (i := 1) C (dm_Mo_one 90 rfl) rfl rfl rfl ?_
            refine gi_iload_n (q := 163) (i := 3) C (dm_Mo_one 91 rfl) rfl rfl rfl ?_
            refine gi_iload (q := 165) C (dm_Mo_one 92 rfl) rfl rfl ?_
            refine gi_callv 4 (q := 168) C (dm_Mo_one 93 rfl) rfl my_Mo_other lk_Mo_600 im_Mo_other rfl (c_Mo_other_34 (x := (gotZ z (z.cur.i + 1))) (p := p) gm R (by rw [gm, gn]; omega) (show pN P 7 p < 4 by omega) (by rw [gm, gn]; omega) hc H) Ha rfl rfl ⟨(Nat.le_of_ble_eq_true rfl), (Nat.le_of_ble_eq_true rfl)⟩ (Nat.le_of_ble_eq_true rfl) ⟨(Nat.le_of_ble_eq_true rfl), (Nat.le_of_ble_eq_true rfl)⟩ (fun r165 n165 h165 e165 => ?_)
            obtain ⟨rfl, qn165, p9⟩ := e165
            rw [qn165]
            have p9 := p9.tr ho fm
            refine gi_vret C hr (dm_Mo_one 94 rfl) ?_
            refine ⟨rfl, rfl, on_A (h33 (by omega)) ?_⟩
            unfold prfA
            rw [← ep, ← eop]
            rw [e]
            rw [if_neg (by decide), if_neg (by decide), if_neg (by decide), if_neg (by decide), if_neg (by decide), if_neg (by decide)]
            exact p9
          · have d4 := (sd_4 ey (by omega)).1
            obtain ⟨pa1, pa2⟩ := pa ((od.2.2.2 (by omega)).1)
            have l4 := (od.2.2.2 (by omega)).2
            rw [pa1]
            rw [e]
            refine gi_aload_n (q := 160) (i := 0) C (dm_Mo_one 88 rfl) rfl rfl rfl ?_
            refine gi_iload_n (q := 161) (i := 2) C (dm_Mo_one 89 rfl) rfl rfl rfl ?_
            refine gi_iload_n (q := 162) (i := 1) C (dm_Mo_one 90 rfl) rfl rfl rfl ?_
            refine gi_iload_n (q := 163) (i := 3) C (dm_Mo_one 91 rfl) rfl rfl rfl ?_
            refine gi_iload (q := 165) C (dm_Mo_one 92 rfl) rfl rfl ?_
            refine gi_callv 4 (q := 168) C (dm_Mo_one 93 rfl) rfl my_Mo_other lk_Mo_600 im_Mo_other rfl (c_Mo_other_35 (x := (gotZ z (z.cur.i + 1))) (p := p) gm R (by rw [gm, gn]; omega) (show pN P 7 p < 4 by omega) (by rw [gm, gn]; omega) hc H) Ha rfl rfl ⟨(Nat.le_of_ble_eq_true rfl), (Nat.le_of_ble_eq_true rfl)⟩ (Nat.le_of_ble_eq_true rfl) ⟨(Nat.le_of_ble_eq_true rfl), (Nat.le_of_ble_eq_true rfl)⟩ (fun r165 n165 h165 e165 => ?_)
            obtain ⟨rfl, qn165, p9⟩ := e165
            rw [qn165]
            have p9 := p9.tr ho fm
            refine gi_vret C hr (dm_Mo_one 94 rfl) ?_
            refine ⟨rfl, rfl, on_A (h33 (by omega)) ?_⟩
            unfold prfA
            rw [← ep, ← eop]
            rw [e]
            rw [if_neg (by decide), if_neg (by decide), if_neg (by decide), if_neg (by decide), if_neg (by decide), if_neg (by decide)]
            exact p9
        · rw [show (20 : Int32) = nI 20 from rfl, nI_ltP (by omega) (by decide)] at c106
          rw [show (25 : Int32) = nI 25 from rfl, nI_ltP (by decide) (by omega)] at c112
          have d2 := (sd_2 ey (.inr (.inr (.inl ⟨by omega, by omega⟩)))).1
          have n5 := nj (by omega) (by omega)
          obtain ⟨pa1, pa2⟩ := pa (by have := (od.2.1 ⟨by omega, by omega⟩).1; exact this)
          refine gi_aload_n (q := 116) (i := 0) C (dm_Mo_one 64 rfl) rfl rfl rfl ?_
          refine gi_callv 0 (q := 119) C (dm_Mo_one 65 rfl) rfl my_Mo_pop lk_Mo_588 im_Mo_pop rfl (c_Mo_pop (z := (gotZ z (z.cur.i + 1))) R (by rw [gm, gn]; omega) H) Ha rfl rfl ⟨(Nat.le_of_ble_eq_true rfl), (Nat.le_of_ble_eq_true rfl)⟩ (Nat.le_of_ble_eq_true rfl) ⟨(Nat.le_of_ble_eq_true rfl), (Nat.le_of_ble_eq_true rfl)⟩ (fun r116 n116 h116 e116 => ?_)
          obtain ⟨rfl, qn116, S1, J1, F1, H1, o1, f1, R1⟩ := e116
          rw [qn116]
          have H := H1
          obtain ⟨fs, Ha, Hf⟩ := id H.1
          have ho := ho.tr o1
          have fm := fm.tr f1
          have R := R1
          have hc := hc.fr f1
          refine gi_istore (q := 121) C (dm_Mo_one 66 rfl) rfl (Nat.le_of_ble_eq_true rfl) ?_
          refine gi_aload_n (q := 122) (i := 0) C (dm_Mo_one 67 rfl) rfl rfl rfl ?_
          refine gi_callv 0 (q := 125) C (dm_Mo_one 68 rfl) rfl my_Mo_pop lk_Mo_588 im_Mo_pop rfl (c_Mo_pop (z := popZ (gotZ z (z.cur.i + 1))) R (by rw [pop_m, pop_nn, gm, gn]; omega) H) Ha rfl rfl ⟨(Nat.le_of_ble_eq_true rfl), (Nat.le_of_ble_eq_true rfl)⟩ (Nat.le_of_ble_eq_true rfl) ⟨(Nat.le_of_ble_eq_true rfl), (Nat.le_of_ble_eq_true rfl)⟩ (fun r122 n122 h122 e122 => ?_)
          obtain ⟨rfl, qn122, S1, J1, F1, H1, o1, f1, R1⟩ := e122
          rw [qn122]
          have H := H1
          obtain ⟨fs, Ha, Hf⟩ := id H.1
          have ho := ho.tr o1
          have fm := fm.tr f1
          have R := R1
          have hc := hc.fr f1
          refine gi_istore (q := 127) C (dm_Mo_one 69 rfl) rfl (Nat.le_of_ble_eq_true rfl) ?_
          refine gi_iload_n (q := 128) (i := 3) C (dm_Mo_one 70 rfl) rfl rfl rfl ?_
          refine gi_iload (q := 130) C (dm_Mo_one 71 rfl) rfl rfl ?_
          refine gi_iload (q := 132) C (dm_Mo_one 72 rfl) rfl rfl ?_
          refine gi_calls 3 (q := 135) C (dm_Mo_one 73 rfl) rfl my_Mo_isSo lk_Mo_597 sm_Mo_isSo (c_Mo_isSo op _ _ (by omega) (by omega)) rfl rfl ⟨(Nat.le_of_ble_eq_true rfl), (Nat.le_of_ble_eq_true rfl)⟩ (Nat.le_of_ble_eq_true rfl) ⟨(Nat.le_of_ble_eq_true rfl), (Nat.le_of_ble_eq_true rfl)⟩ (fun r132 n132 h132 e132 => ?_)
          obtain ⟨rfl, q132, u132⟩ := e132
          rw [q132, u132]
          have h81 : S1 81 = nI (z.top + 1) := R.2.2.2.1
          refine gi_if_eq (q := 138) (tgt := 156) C (dm_Mo_one 74 rfl) rfl (by decide) (fun c135 => ?_) (fun c135 => ?_)
          · refine gi_goto (tgt := 168) C (dm_Mo_one 87 rfl) (by decide) ?_
            refine gi_vret C hr (dm_Mo_one 94 rfl) ?_
            refine ⟨rfl, rfl, ?_⟩
            refine on_A (h33 (by omega)) ?_
            unfold prfA
            rw [← ep, ← eop]
            rw [if_neg (by omega), if_neg (by omega), if_pos (by omega)]
            unfold jmpZ
            rw [if_neg (by omega), if_neg (by omega), if_neg (by omega), if_neg (by rw [bI_fa c135]; decide)]
            exact ⟨_, _, _, H, ho, fm, R⟩
          · refine gi_aload_n (q := 139) (i := 0) C (dm_Mo_one 75 rfl) rfl rfl rfl ?_
            refine gi_get (q := 142) C (dm_Mo_one 76 rfl) rfl fl_Mo_167 Ha (mo_g79 Hf) ?_
            refine gi_aload_n (q := 143) (i := 0) C (dm_Mo_one 77 rfl) rfl rfl rfl ?_
            refine gi_get (q := 146) C (dm_Mo_one 78 rfl) rfl fl_Mo_552 Ha (mo_g81 Hf) ?_
            rw [h81]
            refine gi_iconst (q := 147) (v := 1) C (dm_Mo_one 79 rfl) rfl (by decide) ?_
            refine gi_isub (q := 148) C (dm_Mo_one 80 rfl) rfl ?_
            rw [show (1 : Int32) = nI 1 from rfl, nI_sb (by omega) (by omega), show z.top + 1 - 1 = z.top by omega]
            refine gi_bipush (q := 150) (v := 60) C (dm_Mo_one 81 rfl) rfl (by decide) ?_
            refine gi_iload_n (q := 151) (i := 2) C (dm_Mo_one 82 rfl) rfl rfl rfl ?_
            refine gi_imul (q := 152) C (dm_Mo_one 83 rfl) rfl ?_
            refine gi_iload (q := 154) C (dm_Mo_one 84 rfl) rfl rfl ?_
            refine gi_iadd (q := 155) C (dm_Mo_one 85 rfl) rfl ?_
            rw [pa1, show (60 : Int32) = nI 60 from rfl, nI_ml, nI_add]
            refine gi_iast (q := 156) C (dm_Mo_one 86 rfl) rfl rfl (mo_a79 H) (inN ht (by decide)) ?_
            refine gi_genM (H.setI (p := 49) (k := 79) (by decide) rfl rfl (by decide) rfl (by omega)) (ho.up (by omega) (by omega)) (fun y H ho => ?_)
            obtain ⟨fs, Ha, Hf⟩ := id H.1
            refine gi_goto (tgt := 168) C (dm_Mo_one 87 rfl) (by decide) ?_
            refine gi_vret C hr (dm_Mo_one 94 rfl) ?_
            rw [nI_clamp (show z.top < 2 ^ 31 by omega)] at H
            refine ⟨rfl, rfl, ?_⟩
            refine on_A (h33 (by omega)) ?_
            unfold prfA
            rw [← ep, ← eop]
            rw [if_neg (by omega), if_neg (by omega), if_pos (by omega)]
            unfold jmpZ
            rw [if_neg (by omega), if_neg (by omega), if_neg (by omega), if_pos (bI_t c135)]
            refine ⟨_, _, _, H, ho, fm.tr ⟨fun _ _ => rfl, fun _ _ => rfl, fun j hj => by rw [upA_n (by omega)]⟩, ?_⟩
            exact R.got (x := popZ (popZ (gotZ z (z.cur.i + 1)))) (by omega) (fun j hj => upA_n hj) (fun i => by rw [upA_i, upd_is, pop_m, pop_m, gm]; rfl)
    · rw [show (7 : Int32) = nI 7 from rfl, nI_ltP (by omega) (by decide)] at c42
      rw [show (17 : Int32) = nI 17 from rfl, nI_ltP (by decide) (by omega)] at c48
      have jo10 : (nI op = 10) = (op = 10) := nI_eqP (b := 10) (by omega) (by decide)
      have jo11 : (nI op = 11) = (op = 11) := nI_eqP (b := 11) (by omega) (by decide)
      have d2 := (sd_2 ey (.inr (.inl ⟨by omega, by omega⟩))).1
      refine gi_aload_n (q := 52) (i := 0) C (dm_Mo_one 33 rfl) rfl rfl rfl ?_
      refine gi_callv 0 (q := 55) C (dm_Mo_one 34 rfl) rfl my_Mo_pop lk_Mo_588 im_Mo_pop rfl (c_Mo_pop (z := (gotZ z (z.cur.i + 1))) R (by rw [gm, gn]; omega) H) Ha rfl rfl ⟨(Nat.le_of_ble_eq_true rfl), (Nat.le_of_ble_eq_true rfl)⟩ (Nat.le_of_ble_eq_true rfl) ⟨(Nat.le_of_ble_eq_true rfl), (Nat.le_of_ble_eq_true rfl)⟩ (fun r52 n52 h52 e52 => ?_)
      obtain ⟨rfl, qn52, S1, J1, F1, H1, o1, f1, R1⟩ := e52
      rw [qn52]
      have H := H1
      obtain ⟨fs, Ha, Hf⟩ := id H.1
      have ho := ho.tr o1
      have fm := fm.tr f1
      have R := R1
      have hc := hc.fr f1
      refine gi_istore (q := 57) C (dm_Mo_one 35 rfl) rfl (Nat.le_of_ble_eq_true rfl) ?_
      refine gi_aload_n (q := 58) (i := 0) C (dm_Mo_one 36 rfl) rfl rfl rfl ?_
      refine gi_callv 0 (q := 61) C (dm_Mo_one 37 rfl) rfl my_Mo_pop lk_Mo_588 im_Mo_pop rfl (c_Mo_pop (z := popZ (gotZ z (z.cur.i + 1))) R (by rw [pop_m, pop_nn, gm, gn]; omega) H) Ha rfl rfl ⟨(Nat.le_of_ble_eq_true rfl), (Nat.le_of_ble_eq_true rfl)⟩ (Nat.le_of_ble_eq_true rfl) ⟨(Nat.le_of_ble_eq_true rfl), (Nat.le_of_ble_eq_true rfl)⟩ (fun r58 n58 h58 e58 => ?_)
      obtain ⟨rfl, qn58, S1, J1, F1, H1, o1, f1, R1⟩ := e58
      rw [qn58]
      have H := H1
      obtain ⟨fs, Ha, Hf⟩ := id H.1
      have ho := ho.tr o1
      have fm := fm.tr f1
      have R := R1
      have hc := hc.fr f1
      refine gi_istore (q := 63) C (dm_Mo_one 38 rfl) rfl (Nat.le_of_ble_eq_true rfl) ?_
      refine gi_iload_n (q := 64) (i := 3) C (dm_Mo_one 39 rfl) rfl rfl rfl ?_
      refine gi_bipush (q := 66) (v := 10) C (dm_Mo_one 40 rfl) rfl (by decide) ?_
      refine gi_icmp_eq (q := 69) (tgt := 75) C (dm_Mo_one 41 rfl) rfl (by decide) (fun c66 => ?_) (fun c66 => ?_)
      · refine gi_iload (q := 77) C (dm_Mo_one 45 rfl) rfl rfl ?_
        refine gi_if_ne (q := 80) (tgt := 88) C (dm_Mo_one 46 rfl) rfl (by decide) (fun c77 => ?_) (fun c77 => ?_)
        · skip
          refine gi_aload_n (q := 89) (i := 0) C (dm_Mo_one 51 rfl) rfl rfl rfl ?_
          refine gi_iload_n (q := 90) (i := 3) C (dm_Mo_one 52 rfl) rfl rfl rfl ?_
          refine gi_iload (q := 92) C (dm_Mo_one 53 rfl) rfl rfl ?_
          refine gi_iload (q := 94) C (dm_Mo_one 54 rfl) rfl rfl ?_
          refine gi_calls 3 (q := 97) C (dm_Mo_one 55 rfl) rfl my_Mo_reckoned lk_Mo_591 sm_Mo_reckoned (c_Mo_reckoned op _ _ (by omega) (by omega) (fun q => by first | exact c77 | (exfalso; rw [jo10] at c66; rw [jo11] at c72; omega))) rfl rfl ⟨(Nat.le_of_ble_eq_true rfl), (Nat.le_of_ble_eq_true rfl)⟩ (Nat.le_of_ble_eq_true rfl) ⟨(Nat.le_of_ble_eq_true rfl), (Nat.le_of_ble_eq_true rfl)⟩ (fun r94 n94 h94 e94 => ?_)
          obtain ⟨rfl, q94, u94⟩ := e94
          rw [q94, u94]
          refine gi_callv 1 (q := 100) C (dm_Mo_one 56 rfl) rfl my_Mo_push lk_Mo_594 im_Mo_push rfl (c_Mo_push _ R (by rw [pop_m, pop_m, pop_nn, pop_nn, gm, gn]; omega) H) Ha rfl rfl ⟨(Nat.le_of_ble_eq_true rfl), (Nat.le_of_ble_eq_true rfl)⟩ (Nat.le_of_ble_eq_true rfl) ⟨(Nat.le_of_ble_eq_true rfl), (Nat.le_of_ble_eq_true rfl)⟩ (fun r97 n97 h97 e97 => ?_)
          obtain ⟨rfl, qn97, p9⟩ := e97
          rw [qn97]
          have p9 := p9.tr ho fm
          refine gi_goto (tgt := 168) C (dm_Mo_one 57 rfl) (by decide) ?_
          refine gi_vret C hr (dm_Mo_one 94 rfl) ?_
          refine ⟨rfl, rfl, ?_⟩
          refine on_A (h33 (by omega)) ?_
          unfold prfA
          rw [← ep, ← eop]
          rw [if_neg (by omega), if_pos (by omega)]
          unfold rckZ
          rw [if_neg (by omega)]
          rw [if_neg (by first | exact fun q => c77 q.2 | (rw [jo10] at c66; rw [jo11] at c72; omega))]
          exact p9
        · refine gi_aload_n (q := 81) (i := 0) C (dm_Mo_one 47 rfl) rfl rfl rfl ?_
          refine gi_iconst (q := 82) (v := 1) C (dm_Mo_one 48 rfl) rfl (by decide) ?_
          refine gi_put (q := 85) C (dm_Mo_one 49 rfl) rfl fl_Mo_564 fp_Mo_82 Ha (by rw [Hf.1]; decide) rfl rfl ?_
          refine gi_genM (H.putI Ha Hf (by decide) rfl) (ho.up (by omega) (by omega)) (fun y H ho => ?_)
          obtain ⟨fs, Ha, Hf⟩ := id H.1
          refine gi_goto (tgt := 100) C (dm_Mo_one 50 rfl) (by decide) ?_
          refine gi_goto (tgt := 168) C (dm_Mo_one 57 rfl) (by decide) ?_
          refine gi_vret C hr (dm_Mo_one 94 rfl) ?_
          refine ⟨rfl, rfl, ?_⟩
          refine on_A (h33 (by omega)) ?_
          unfold prfA
          rw [← ep, ← eop]
          rw [if_neg (by omega), if_pos (by omega)]
          unfold rckZ
          rw [if_neg (by omega)]
          rw [if_pos ⟨by first | (rw [jo10] at c66; exact .inl c66) | (rw [jo11] at c72; exact .inr c72), c77⟩]
          exact ⟨_, _, _, H, ho, fm.tr frM.wr, R.wr⟩
      · refine gi_iload_n (q := 70) (i := 3) C (dm_Mo_one 42 rfl) rfl rfl rfl ?_
        refine gi_bipush (q := 72) (v := 11) C (dm_Mo_one 43 rfl) rfl (by decide) ?_
        refine gi_icmp_ne (q := 75) (tgt := 88) C (dm_Mo_one 44 rfl) rfl (by decide) (fun c72 => ?_) (fun c72 => ?_)
        · skip
          refine gi_aload_n (q := 89) (i := 0) C (dm_Mo_one 51 rfl) rfl rfl rfl ?_
          refine gi_iload_n (q := 90) (i := 3) C (dm_Mo_one 52 rfl) rfl rfl rfl ?_
          refine gi_iload (q := 92) C (dm_Mo_one 53 rfl) rfl rfl ?_
          refine gi_iload (q := 94) C (dm_Mo_one 54 rfl) rfl rfl ?_
          refine gi_calls 3 (q := 97) C (dm_Mo_one 55 rfl) rfl my_Mo_reckoned lk_Mo_591 sm_Mo_reckoned (c_Mo_reckoned op _ _ (by omega) (by omega) (fun q => by first | exact c77 | (exfalso; rw [jo10] at c66; rw [jo11] at c72; omega))) rfl rfl ⟨(Nat.le_of_ble_eq_true rfl), (Nat.le_of_ble_eq_true rfl)⟩ (Nat.le_of_ble_eq_true rfl) ⟨(Nat.le_of_ble_eq_true rfl), (Nat.le_of_ble_eq_true rfl)⟩ (fun r94 n94 h94 e94 => ?_)
          obtain ⟨rfl, q94, u94⟩ := e94
          rw [q94, u94]
          refine gi_callv 1 (q := 100) C (dm_Mo_one 56 rfl) rfl my_Mo_push lk_Mo_594 im_Mo_push rfl (c_Mo_push _ R (by rw [pop_m, pop_m, pop_nn, pop_nn, gm, gn]; omega) H) Ha rfl rfl ⟨(Nat.le_of_ble_eq_true rfl), (Nat.le_of_ble_eq_true rfl)⟩ (Nat.le_of_ble_eq_true rfl) ⟨(Nat.le_of_ble_eq_true rfl), (Nat.le_of_ble_eq_true rfl)⟩ (fun r97 n97 h97 e97 => ?_)
          obtain ⟨rfl, qn97, p9⟩ := e97
          rw [qn97]
          have p9 := p9.tr ho fm
          refine gi_goto (tgt := 168) C (dm_Mo_one 57 rfl) (by decide) ?_
          refine gi_vret C hr (dm_Mo_one 94 rfl) ?_
          refine ⟨rfl, rfl, ?_⟩
          refine on_A (h33 (by omega)) ?_
          unfold prfA
          rw [← ep, ← eop]
          rw [if_neg (by omega), if_pos (by omega)]
          unfold rckZ
          rw [if_neg (by omega)]
          rw [if_neg (by first | exact fun q => c77 q.2 | (rw [jo10] at c66; rw [jo11] at c72; omega))]
          exact p9
        · refine gi_iload (q := 77) C (dm_Mo_one 45 rfl) rfl rfl ?_
          refine gi_if_ne (q := 80) (tgt := 88) C (dm_Mo_one 46 rfl) rfl (by decide) (fun c77 => ?_) (fun c77 => ?_)
          · skip
            refine gi_aload_n (q := 89) (i := 0) C (dm_Mo_one 51 rfl) rfl rfl rfl ?_
            refine gi_iload_n (q := 90) (i := 3) C (dm_Mo_one 52 rfl) rfl rfl rfl ?_
            refine gi_iload (q := 92) C (dm_Mo_one 53 rfl) rfl rfl ?_
            refine gi_iload (q := 94) C (dm_Mo_one 54 rfl) rfl rfl ?_
            refine gi_calls 3 (q := 97) C (dm_Mo_one 55 rfl) rfl my_Mo_reckoned lk_Mo_591 sm_Mo_reckoned (c_Mo_reckoned op _ _ (by omega) (by omega) (fun q => by first | exact c77 | (exfalso; rw [jo10] at c66; rw [jo11] at c72; omega))) rfl rfl ⟨(Nat.le_of_ble_eq_true rfl), (Nat.le_of_ble_eq_true rfl)⟩ (Nat.le_of_ble_eq_true rfl) ⟨(Nat.le_of_ble_eq_true rfl), (Nat.le_of_ble_eq_true rfl)⟩ (fun r94 n94 h94 e94 => ?_)
            obtain ⟨rfl, q94, u94⟩ := e94
            rw [q94, u94]
            refine gi_callv 1 (q := 100) C (dm_Mo_one 56 rfl) rfl my_Mo_push lk_Mo_594 im_Mo_push rfl (c_Mo_push _ R (by rw [pop_m, pop_m, pop_nn, pop_nn, gm, gn]; omega) H) Ha rfl rfl ⟨(Nat.le_of_ble_eq_true rfl), (Nat.le_of_ble_eq_true rfl)⟩ (Nat.le_of_ble_eq_true rfl) ⟨(Nat.le_of_ble_eq_true rfl), (Nat.le_of_ble_eq_true rfl)⟩ (fun r97 n97 h97 e97 => ?_)
            obtain ⟨rfl, qn97, p9⟩ := e97
            rw [qn97]
            have p9 := p9.tr ho fm
            refine gi_goto (tgt := 168) C (dm_Mo_one 57 rfl) (by decide) ?_
            refine gi_vret C hr (dm_Mo_one 94 rfl) ?_
            refine ⟨rfl, rfl, ?_⟩
            refine on_A (h33 (by omega)) ?_
            unfold prfA
            rw [← ep, ← eop]
            rw [if_neg (by omega), if_pos (by omega)]
            unfold rckZ
            rw [if_neg (by omega)]
            rw [if_neg (by first | exact fun q => c77 q.2 | (rw [jo10] at c66; rw [jo11] at c72; omega))]
            exact p9
          · refine gi_aload_n (q := 81) (i := 0) C (dm_Mo_one 47 rfl) rfl rfl rfl ?_
            refine gi_iconst (q := 82) (v := 1) C (dm_Mo_one 48 rfl) rfl (by decide) ?_
            refine gi_put (q := 85) C (dm_Mo_one 49 rfl) rfl fl_Mo_564 fp_Mo_82 Ha (by rw [Hf.1]; decide) rfl rfl ?_
            refine gi_genM (H.putI Ha Hf (by decide) rfl) (ho.up (by omega) (by omega)) (fun y H ho => ?_)
            obtain ⟨fs, Ha, Hf⟩ := id H.1
            refine gi_goto (tgt := 100) C (dm_Mo_one 50 rfl) (by decide) ?_
            refine gi_goto (tgt := 168) C (dm_Mo_one 57 rfl) (by decide) ?_
            refine gi_vret C hr (dm_Mo_one 94 rfl) ?_
            refine ⟨rfl, rfl, ?_⟩
            refine on_A (h33 (by omega)) ?_
            unfold prfA
            rw [← ep, ← eop]
            rw [if_neg (by omega), if_pos (by omega)]
            unfold rckZ
            rw [if_neg (by omega)]
            rw [if_pos ⟨by first | (rw [jo10] at c66; exact .inl c66) | (rw [jo11] at c72; exact .inr c72), c77⟩]
            exact ⟨_, _, _, H, ho, fm.tr frM.wr, R.wr⟩
end RM6
