-- needs: 89.96
section RM3
variable {l : Launch} {V : gi_V} {n : Nat} {h h' : gi_H} {M k : Nat} {P : Pm} {sh : Nat → Option Sh} {S S' : Nat → Int32} {J J' : Nat → Int64} {F F' : Nat → Nat → Int32} {G : Nat → Nat → Int64} {Fz : Fa} {cb : Bool} {z : Mc} {len s : Nat} {zq : Mc}
theorem mcR.wr {w : Int32} (R : mcR P cb z S J F) : mcR P cb (wrgZ z w) (upS S 82 w) J F := by
  obtain ⟨r1, ⟨q1, q2, q3, q4, q5⟩, r3, r4, r5, r6, r7, r8, r9, r9', r10⟩ := R
  exact ⟨r1, ⟨q1, q2, q3, q4, q5⟩, r3, r4, rfl, r6, r7, r8, r9, r9', r10⟩
theorem frM.wr {w : Int32} : frM S (upS S 82 w) J J F F := ⟨fun j h => by unfold upS; rw [if_neg (by omega)], fun _ _ => rfl, fun _ _ => rfl⟩
theorem mcP.tr {h1 h2 : gi_H} (o : outM M h h1) (f : frM S S' J J' F F') (p : mcP M P cb z h1 S' J' F' G h2) : mcP M P cb z h S J F G h2 := by
  obtain ⟨a, b, c, d, e, g, i⟩ := p
  exact ⟨a, b, c, d, o.tr e, f.tr g, i⟩
def mkQ (F : Fa) (s : Nat) (v : Int32) (zq : Mc) : Mc := if v < 0 then wrgZ zq 4 else if 300 ≤ zq.hp.c ∨ 2000 < zq.hp.u + v.toNatClampNeg then wrgZ zq 6 else pshZ (astZ (hpZ zq (hAdd zq.hp v.toNatClampNeg s)) (!rwT F (480 + s) v || (decide (0 < v) && !rwT F (505 + s) 0))) (nI (zq.hp.c + 1))
set_option maxHeartbeats 4000000 in
set_option maxRecDepth 100000 in
theorem c_Mo_made {p : Nat} (v : Int32) (hp : p < 480) (h15 : F 15 p = nI s) (s25 : s < 25) (R : mcR P cb zq S J F) (hn : zq.cur.n - pN P 2 zq.cur.m < 8) (hc : ceX P sh cb Fz S F G) (H : mo_at M S J F G h) : gi_T l V y_Mo_made b_Mo_made 4 none 3 73 0 0 [.ref M, .int (nI p), .int v] n h (fun r n' h' => r = none ∧ n' = n ∧ mcP M P cb (mkQ Fz s v zq) h S J F G h') := by
  refine gi_enter (by decide) (Nat.le_of_ble_eq_true rfl) ?_
  intro _ _ _ _ _ _ _ _ C hr hnm
  obtain ⟨fs, Ha, Hf⟩ := id H.1
  have ho : outM M h h := outM.rf
  obtain ⟨⟨o1, o2, o3⟩, q2, q3, q4, q5⟩ := R.2.1
  have q2 : S 75 = nI zq.hp.c := q2
  have q3 : S 76 = nI zq.hp.u := q3
  have o1 : zq.hp.c ≤ 300 := o1
  have o2 : zq.hp.u ≤ 2000 := o2
  refine gi_iload_n (q := 1) (i := 2) C (dm_Mo_made 0 rfl) rfl rfl rfl ?_
  refine gi_if_ge (q := 4) (tgt := 10) C (dm_Mo_made 1 rfl) rfl (by decide) (fun c1 => ?_) (fun c1 => ?_)
  · obtain ⟨len, el⟩ : ∃ t : Nat, v = nI t ∧ t < 2 ^ 31 := by
      have q := c1
      have b := i32_b v
      rw [Int32.le_iff_toInt_le, show (0 : Int32).toInt = 0 from rfl] at q
      exact ⟨v.toInt.toNat, by apply Int32.toInt_inj.mp; rw [nI_toInt (by omega)]; omega, by omega⟩
    obtain ⟨el, l31⟩ := el
    subst el
    refine gi_aload_n (q := 11) (i := 0) C (dm_Mo_made 6 rfl) rfl rfl rfl ?_
    refine gi_get (q := 14) C (dm_Mo_made 7 rfl) rfl fl_Mo_540 Ha (mo_g75 Hf) ?_
    rw [q2]
    refine gi_sipush (q := 17) (v := 300) C (dm_Mo_made 8 rfl) rfl (by decide) ?_
    refine gi_icmp_eq (q := 20) (tgt := 35) C (dm_Mo_made 9 rfl) rfl (by decide) (fun c17 => ?_) (fun c17 => ?_)
    · refine gi_iconst (q := 36) (v := 0) C (dm_Mo_made 19 rfl) rfl (by decide) ?_
      refine gi_goto (tgt := 50) C (dm_Mo_made 20 rfl) (by decide) ?_
      refine gi_istore_n (q := 51) (i := 3) C (dm_Mo_made 28 rfl) rfl rfl (Nat.le_of_ble_eq_true rfl) ?_
      refine gi_iload_n (q := 52) (i := 3) C (dm_Mo_made 29 rfl) rfl rfl rfl ?_
      refine gi_if_ne (q := 55) (tgt := 64) C (dm_Mo_made 30 rfl) rfl (by decide) (fun c52 => ?_) (fun c52 => ?_)
      · exact absurd c52 (by decide)
      · refine gi_aload_n (q := 56) (i := 0) C (dm_Mo_made 31 rfl) rfl rfl rfl ?_
        refine gi_bipush (q := 58) (v := 6) C (dm_Mo_made 32 rfl) rfl (by decide) ?_
        refine gi_put (q := 61) C (dm_Mo_made 33 rfl) rfl fl_Mo_564 fp_Mo_82 Ha (by rw [Hf.1]; decide) rfl rfl ?_
        refine gi_genM (H.putI Ha Hf (by decide) rfl) (ho.up (by omega) (by omega)) (fun y H ho => ?_)
        obtain ⟨fs, Ha, Hf⟩ := id H.1
        refine gi_goto (tgt := 69) C (dm_Mo_made 34 rfl) (by decide) ?_
        refine gi_vret C hr (dm_Mo_made 38 rfl) ?_
        refine ⟨rfl, rfl, ?_⟩
        unfold mkQ
        rw [if_neg (Int32.not_lt.mpr c1), nI_clamp l31, if_pos (Or.inl (by have := (nI_ei (b := 300) (by omega) (by decide)).mp c17; omega))]
        exact ⟨_, J, F, H, ho, frM.wr, R.wr⟩
    · refine gi_aload_n (q := 21) (i := 0) C (dm_Mo_made 10 rfl) rfl rfl rfl ?_
      refine gi_get (q := 24) C (dm_Mo_made 11 rfl) rfl fl_Mo_543 Ha (mo_g76 Hf) ?_
      rw [q3]
      refine gi_i2l (q := 25) C (dm_Mo_made 12 rfl) rfl ?_
      refine gi_iload_n (q := 26) (i := 2) C (dm_Mo_made 13 rfl) rfl rfl rfl ?_
      refine gi_i2l (q := 27) C (dm_Mo_made 14 rfl) rfl ?_
      refine gi_ladd (q := 28) C (dm_Mo_made 15 rfl) rfl ?_
      refine gi_ldc2 (q := 31) C (dm_Mo_made 16 rfl) rfl kc_Mo_616 ?_
      refine gi_lcmp (q := 32) C (dm_Mo_made 17 rfl) rfl ?_
      rw [i2l_eL, i2l_eL, nI_toInt (show zq.hp.u < 2 ^ 31 by omega), nI_toInt l31, eL_add, show (2000 : Int64) = eL 2000 from rfl]
      refine gi_if_le (q := 35) (tgt := 39) C (dm_Mo_made 18 rfl) rfl (by decide) (fun c32 => ?_) (fun c32 => ?_)
      · (try simp (disch := omega) only [lg_cmp_ge, lg_cmp_le, lg_cmp_gt, lg_cmp_lt, lg_cmp_eq, eL_0, eL_1, eL_m1, eL_LO, eL_HI, eL_W, eL_add, eL_sub, eL_mul, eL_neg, eL_lt, eL_le, eL_eq, eL_remN, eL_mod0, ne_eq, Int64.not_lt, Int64.not_le] at c1)
        (try simp (disch := omega) only [lg_cmp_ge, lg_cmp_le, lg_cmp_gt, lg_cmp_lt, lg_cmp_eq, eL_0, eL_1, eL_m1, eL_LO, eL_HI, eL_W, eL_add, eL_sub, eL_mul, eL_neg, eL_lt, eL_le, eL_eq, eL_remN, eL_mod0, ne_eq, Int64.not_lt, Int64.not_le] at c17)
        (try simp (disch := omega) only [lg_cmp_ge, lg_cmp_le, lg_cmp_gt, lg_cmp_lt, lg_cmp_eq, eL_0, eL_1, eL_m1, eL_LO, eL_HI, eL_W, eL_add, eL_sub, eL_mul, eL_neg, eL_lt, eL_le, eL_eq, eL_remN, eL_mod0, ne_eq, Int64.not_lt, Int64.not_le] at c32)
        have c3 : zq.hp.c < 300 := by
          rcases Nat.lt_or_ge zq.hp.c 300 with q | q
          · exact q
          · exact absurd (show nI zq.hp.c = nI 300 by rw [show zq.hp.c = 300 by omega]) c17
        refine gi_aload_n (q := 40) (i := 0) C (dm_Mo_made 21 rfl) rfl rfl rfl ?_
        refine gi_iload_n (q := 41) (i := 2) C (dm_Mo_made 22 rfl) rfl rfl rfl ?_
        refine gi_aload_n (q := 42) (i := 0) C (dm_Mo_made 23 rfl) rfl rfl rfl ?_
        refine gi_get (q := 45) C (dm_Mo_made 24 rfl) rfl fl_Mo_48 Ha (mo_g15 Hf) ?_
        refine gi_iload_n (q := 46) (i := 1) C (dm_Mo_made 25 rfl) rfl rfl rfl ?_
        refine gi_iald (q := 47) C (dm_Mo_made 26 rfl) rfl rfl (mo_a15 H) (inN (show p < 480 by omega) (by decide)) ?_
        rw [nI_clamp (show p < 2 ^ 31 by omega), h15]
        refine gi_callv 2 (q := 50) C (dm_Mo_made 27 rfl) rfl my_Mo_makeArray lk_Mo_579 im_Mo_makeArray rfl (c_Mo_makeArray (len := len) (s := s) R c3 (by omega) s25 hc H) Ha rfl rfl ⟨(Nat.le_of_ble_eq_true rfl), (Nat.le_of_ble_eq_true rfl)⟩ (Nat.le_of_ble_eq_true rfl) ⟨(Nat.le_of_ble_eq_true rfl), (Nat.le_of_ble_eq_true rfl)⟩ (fun r47 n47 h47 e47 => ?_)
        obtain ⟨rfl, rfl, S1, J1, F1, H1, o1', f1, R1⟩ := e47
        obtain ⟨fs1, Ha1, Hf1⟩ := id H1.1
        refine gi_istore_n (q := 51) (i := 3) C (dm_Mo_made 28 rfl) rfl rfl (Nat.le_of_ble_eq_true rfl) ?_
        refine gi_iload_n (q := 52) (i := 3) C (dm_Mo_made 29 rfl) rfl rfl rfl ?_
        refine gi_if_ne (q := 55) (tgt := 64) C (dm_Mo_made 30 rfl) rfl (by decide) (fun c52 => ?_) (fun c52 => ?_)
        · refine gi_aload_n (q := 65) (i := 0) C (dm_Mo_made 35 rfl) rfl rfl rfl ?_
          refine gi_iload_n (q := 66) (i := 3) C (dm_Mo_made 36 rfl) rfl rfl rfl ?_
          refine gi_callv 1 (q := 69) C (dm_Mo_made 37 rfl) rfl my_Mo_push lk_Mo_594 im_Mo_push rfl (c_Mo_push (nI (zq.hp.c + 1)) R1 hn H1) Ha1 rfl rfl ⟨(Nat.le_of_ble_eq_true rfl), (Nat.le_of_ble_eq_true rfl)⟩ (Nat.le_of_ble_eq_true rfl) ⟨(Nat.le_of_ble_eq_true rfl), (Nat.le_of_ble_eq_true rfl)⟩ (fun r66 n66 h66 e66 => ?_)
          obtain ⟨rfl, rfl, p9⟩ := e66
          refine gi_vret C hr (dm_Mo_made 38 rfl) ?_
          refine ⟨rfl, rfl, ?_⟩
          unfold mkQ
          rw [if_neg (Int32.not_lt.mpr c1), nI_clamp l31, if_neg (by omega)]
          exact p9.tr o1' f1
        · exact absurd (show nI (zq.hp.c + 1) = nI 0 from c52) (fun e => by have := (nI_ei (by omega) (by decide)).mp e; omega)
      · refine gi_iconst (q := 36) (v := 0) C (dm_Mo_made 19 rfl) rfl (by decide) ?_
        refine gi_goto (tgt := 50) C (dm_Mo_made 20 rfl) (by decide) ?_
        refine gi_istore_n (q := 51) (i := 3) C (dm_Mo_made 28 rfl) rfl rfl (Nat.le_of_ble_eq_true rfl) ?_
        refine gi_iload_n (q := 52) (i := 3) C (dm_Mo_made 29 rfl) rfl rfl rfl ?_
        refine gi_if_ne (q := 55) (tgt := 64) C (dm_Mo_made 30 rfl) rfl (by decide) (fun c52 => ?_) (fun c52 => ?_)
        · exact absurd c52 (by decide)
        · (try simp (disch := omega) only [lg_cmp_ge, lg_cmp_le, lg_cmp_gt, lg_cmp_lt, lg_cmp_eq, eL_0, eL_1, eL_m1, eL_LO, eL_HI, eL_W, eL_add, eL_sub, eL_mul, eL_neg, eL_lt, eL_le, eL_eq, eL_remN, eL_mod0, ne_eq, Int64.not_lt, Int64.not_le] at c32)
          refine gi_aload_n (q := 56) (i := 0) C (dm_Mo_made 31 rfl) rfl rfl rfl ?_
          refine gi_bipush (q := 58) (v := 6) C (dm_Mo_made 32 rfl) rfl (by decide) ?_
          refine gi_put (q := 61) C (dm_Mo_made 33 rfl) rfl fl_Mo_564 fp_Mo_82 Ha (by rw [Hf.1]; decide) rfl rfl ?_
          refine gi_genM (H.putI Ha Hf (by decide) rfl) (ho.up (by omega) (by omega)) (fun y H ho => ?_)
          obtain ⟨fs, Ha, Hf⟩ := id H.1
          refine gi_goto (tgt := 69) C (dm_Mo_made 34 rfl) (by decide) ?_
          refine gi_vret C hr (dm_Mo_made 38 rfl) ?_
          refine ⟨rfl, rfl, ?_⟩
          unfold mkQ
          rw [if_neg (Int32.not_lt.mpr c1), nI_clamp l31, if_pos (Or.inr (by omega))]
          exact ⟨_, J, F, H, ho, frM.wr, R.wr⟩
  · refine gi_aload_n (q := 5) (i := 0) C (dm_Mo_made 2 rfl) rfl rfl rfl ?_
    refine gi_iconst (q := 6) (v := 4) C (dm_Mo_made 3 rfl) rfl (by decide) ?_
    refine gi_put (q := 9) C (dm_Mo_made 4 rfl) rfl fl_Mo_564 fp_Mo_82 Ha (by rw [Hf.1]; decide) rfl rfl ?_
    refine gi_genM (H.putI Ha Hf (by decide) rfl) (ho.up (by omega) (by omega)) (fun y H ho => ?_)
    obtain ⟨fs, Ha, Hf⟩ := id H.1
    refine gi_vret C hr (dm_Mo_made 5 rfl) ?_
    refine ⟨rfl, rfl, ?_⟩
    unfold mkQ
    rw [if_pos (Int32.not_le.mp c1)]
    exact ⟨_, J, F, H, ho, frM.wr, R.wr⟩
theorem pop_nn (z : Mc) : (popZ z).cur.n = z.cur.n - 1 := by rw [cur_pop]
theorem psh_nn (z : Mc) (v : Int32) : (pshZ z v).cur.n = z.cur.n + 1 := by rw [cur_psh]
theorem mcR.cell {b : Bool} {r i : Nat} {v : Int32} (R : mcR P cb z S J F) (e88 : (cb = true → S' 88 = bI (z.as || b)) ∧ (cb = false → S' 88 = 0)) (es : ∀ j, j ≠ 88 → S' j = S j) (ef : ∀ j, j ≠ 71 → F' j = F j) (e71 : ∀ q, F' 71 q = if q = z.hp.st r + i then v else F 71 q) : mcR P cb (astZ (hpZ z (hSet z.hp r i v)) b) S' J F' := by
  obtain ⟨r1, ⟨q1, q2, q3, q4, q5⟩, r3, r4, r5, r6, r7, r8, r9, r9', r10⟩ := R
  refine ⟨r1, ⟨q1, (es 75 (by decide)).trans q2, (es 76 (by decide)).trans q3, ?_, fun q hq => ?_⟩, ?_, (es 81 (by decide)).trans r4, (es 82 (by decide)).trans r5, (es 85 (by decide)).trans r6, r7, r8, e88.1, e88.2, fun t ht => ?_⟩
  · rw [ef 72 (by decide), ef 73 (by decide), ef 74 (by decide)]; exact q4
  · show F' 71 q = upO z.hp.ce (z.hp.st r + i) v q
    rw [e71]
    by_cases e : q = z.hp.st r + i
    · rw [if_pos e, e, upO_self]
    · rw [if_neg e, upO_ne e]
      exact q5 q hq
  · rw [ef 77 (by decide)]; exact r3
  · obtain ⟨p1, p2, p3, p4, p5, p6, p7⟩ := r10 t ht
    exact ⟨by rw [ef 79 (by decide)]; exact p1, by rw [ef 80 (by decide)]; exact p2, p3, p4, p5, p6, fun j hj => by rw [ef 78 (by decide)]; exact p7 j hj⟩
set_option maxHeartbeats 4000000 in
set_option maxRecDepth 100000 in
theorem c_Mo_touched_29 {r : Nat} (R : mcR P cb z S J F) (hst : pN P 2 z.cur.m + 1 ≤ z.cur.n) (h8 : z.cur.n - pN P 2 z.cur.m ≤ 8) (rc : r ≤ z.hp.c) (er : topV z = nI r) (hc : ceX P sh cb Fz S F G) (H : mo_at M S J F G h) : gi_T l V y_Mo_touched b_Mo_touched 5 none 2 49 0 0 [.ref M, .int 29] n h (fun r n' h' => r = none ∧ n' = n ∧ mcP M P cb (useZ Fz 29 z).1 h S J F G h') := by
  refine gi_enter (by decide) (Nat.le_of_ble_eq_true rfl) ?_
  intro _ _ _ _ _ _ _ _ C hr hnm
  obtain ⟨fs, Ha, Hf⟩ := id H.1
  have ho : outM M h h := outM.rf
  have fm : frM S S J J F F := frM.rf
  refine gi_iload_n (q := 1) (i := 1) C (dm_Mo_touched 0 rfl) rfl rfl rfl ?_
  refine gi_bipush (q := 3) (v := 31) C (dm_Mo_touched 1 rfl) rfl (by decide) ?_
  refine gi_icmp_ne (q := 6) (tgt := 13) C (dm_Mo_touched 2 rfl) rfl (by decide) (fun c3 => ?_) (fun c3 => ?_)
  · refine gi_iconst (q := 14) (v := 0) C (dm_Mo_touched 6 rfl) rfl (by decide) ?_
    refine gi_istore_n (q := 15) (i := 2) C (dm_Mo_touched 7 rfl) rfl rfl (Nat.le_of_ble_eq_true rfl) ?_
    refine gi_iload_n (q := 16) (i := 1) C (dm_Mo_touched 8 rfl) rfl rfl rfl ?_
    refine gi_bipush (q := 18) (v := 29) C (dm_Mo_touched 9 rfl) rfl (by decide) ?_
    refine gi_icmp_ne (q := 21) (tgt := 25) C (dm_Mo_touched 10 rfl) rfl (by decide) (fun c18 => ?_) (fun c18 => ?_)
    · exact absurd rfl c18
    · refine gi_iconst (q := 22) (v := 0) C (dm_Mo_touched 11 rfl) rfl (by decide) ?_
      refine gi_goto (tgt := 29) C (dm_Mo_touched 12 rfl) (by decide) ?_
      refine gi_istore_n (q := 30) (i := 3) C (dm_Mo_touched 15 rfl) rfl rfl (Nat.le_of_ble_eq_true rfl) ?_
      refine gi_aload_n (q := 31) (i := 0) C (dm_Mo_touched 16 rfl) rfl rfl rfl ?_
      refine gi_callv 0 (q := 34) C (dm_Mo_touched 17 rfl) rfl my_Mo_pop lk_Mo_588 im_Mo_pop rfl (c_Mo_pop (z := z) R (by omega) H) Ha rfl rfl ⟨(Nat.le_of_ble_eq_true rfl), (Nat.le_of_ble_eq_true rfl)⟩ (Nat.le_of_ble_eq_true rfl) ⟨(Nat.le_of_ble_eq_true rfl), (Nat.le_of_ble_eq_true rfl)⟩ (fun r31 n31 h31 e31 => ?_)
      obtain ⟨rfl, qn31, S1, J1, F1, H1, o1, f1, R1⟩ := e31
      rw [qn31]
      have H := H1
      obtain ⟨fs, Ha, Hf⟩ := id H.1
      have ho := ho.tr o1
      have fm := fm.tr f1
      have R := R1
      have hc := hc.fr f1
      refine gi_istore (q := 36) C (dm_Mo_touched 18 rfl) rfl (Nat.le_of_ble_eq_true rfl) ?_
      refine gi_iload (q := 38) C (dm_Mo_touched 19 rfl) rfl rfl ?_
      refine gi_if_ne (q := 41) (tgt := 49) C (dm_Mo_touched 20 rfl) rfl (by decide) (fun c38 => ?_) (fun c38 => ?_)
      · have R0 := R.2.1
        obtain ⟨⟨b1, b2, b3⟩, -, -, g4, g5⟩ := R0
        change z.hp.c ≤ 300 at b1
        change z.hp.u ≤ 2000 at b2
        have r1 : 1 ≤ r := by
          rcases Nat.eq_zero_or_pos r with e0 | e0
          · exact absurd (by rw [er, e0]; rfl) c38
          · exact e0
        obtain ⟨g72, g73, g74⟩ := g4 r r1 rc
        change _ = nI (z.hp.st r) at g72
        change _ = nI (z.hp.ln r) at g73
        change _ = nI (z.hp.si r) at g74
        obtain ⟨b3, b4⟩ := b3 r r1 rc
        change z.hp.st r + z.hp.ln r ≤ z.hp.u at b3
        change z.hp.si r < 25 at b4
        rw [er]
        refine gi_iload_n (q := 50) (i := 1) C (dm_Mo_touched 25 rfl) rfl rfl rfl ?_
        refine gi_bipush (q := 52) (v := 29) C (dm_Mo_touched 26 rfl) rfl (by decide) ?_
        refine gi_icmp_ne (q := 55) (tgt := 71) C (dm_Mo_touched 27 rfl) rfl (by decide) (fun c52 => ?_) (fun c52 => ?_)
        · exact absurd rfl c52
        · refine gi_aload_n (q := 56) (i := 0) C (dm_Mo_touched 28 rfl) rfl rfl rfl ?_
          refine gi_aload_n (q := 57) (i := 0) C (dm_Mo_touched 29 rfl) rfl rfl rfl ?_
          refine gi_get (q := 60) C (dm_Mo_touched 30 rfl) rfl fl_Mo_155 Ha (mo_g73 Hf) ?_
          refine gi_iload (q := 62) C (dm_Mo_touched 31 rfl) rfl rfl ?_
          refine gi_iconst (q := 63) (v := 1) C (dm_Mo_touched 32 rfl) rfl (by decide) ?_
          refine gi_isub (q := 64) C (dm_Mo_touched 33 rfl) rfl ?_
          rw [show (1 : Int32) = nI 1 from rfl, nI_sb r1 (by omega)]
          refine gi_iald (q := 65) C (dm_Mo_touched 34 rfl) rfl rfl (mo_a73 H) (inN (show r - 1 < 301 by omega) (by decide)) ?_
          rw [nI_clamp (show r - 1 < 2 ^ 31 by omega), g73]
          refine gi_callv 1 (q := 68) C (dm_Mo_touched 35 rfl) rfl my_Mo_push lk_Mo_594 im_Mo_push rfl (c_Mo_push (z := (popZ z)) (nI (z.hp.ln r)) R (by rw [pop_m, pop_nn]; omega) H) Ha rfl rfl ⟨(Nat.le_of_ble_eq_true rfl), (Nat.le_of_ble_eq_true rfl)⟩ (Nat.le_of_ble_eq_true rfl) ⟨(Nat.le_of_ble_eq_true rfl), (Nat.le_of_ble_eq_true rfl)⟩ (fun r65 n65 h65 e65 => ?_)
          obtain ⟨rfl, qn65, p9⟩ := e65
          rw [qn65]
          have p9 := p9.tr ho fm
          refine gi_goto (tgt := 185) C (dm_Mo_touched 36 rfl) (by decide) ?_
          refine gi_vret C hr (dm_Mo_touched 103 rfl) ?_
          refine ⟨rfl, rfl, ?_⟩
          unfold useZ
          rw [if_pos rfl]
          rw [if_neg (by rw [er]; intro e; exact c38 (er.trans e)), er, nI_clamp (show r < 2 ^ 31 by omega)]
          exact p9
      · refine gi_aload_n (q := 42) (i := 0) C (dm_Mo_touched 21 rfl) rfl rfl rfl ?_
        refine gi_iconst (q := 43) (v := 2) C (dm_Mo_touched 22 rfl) rfl (by decide) ?_
        refine gi_put (q := 46) C (dm_Mo_touched 23 rfl) rfl fl_Mo_564 fp_Mo_82 Ha (by rw [Hf.1]; decide) rfl rfl ?_
        refine gi_genM (H.putI Ha Hf (by decide) rfl) (ho.up (by omega) (by omega)) (fun y H ho => ?_)
        obtain ⟨fs, Ha, Hf⟩ := id H.1
        refine gi_goto (tgt := 185) C (dm_Mo_touched 24 rfl) (by decide) ?_
        refine gi_vret C hr (dm_Mo_touched 103 rfl) ?_
        refine ⟨rfl, rfl, ?_⟩
        unfold useZ
        rw [if_pos rfl]
        rw [if_pos c38]
        exact ⟨_, _, _, H, ho, fm.tr frM.wr, R.wr⟩
  · exact absurd c3 (by decide)
set_option maxHeartbeats 4000000 in
set_option maxRecDepth 100000 in
theorem c_Mo_touched_30 {r : Nat} (R : mcR P cb z S J F) (hst : pN P 2 z.cur.m + 2 ≤ z.cur.n) (h8 : z.cur.n - pN P 2 z.cur.m ≤ 8) (rc : r ≤ z.hp.c) (er : topV (popZ z) = nI r) (hc : ceX P sh cb Fz S F G) (H : mo_at M S J F G h) : gi_T l V y_Mo_touched b_Mo_touched 5 none 2 49 0 0 [.ref M, .int 30] n h (fun r n' h' => r = none ∧ n' = n ∧ mcP M P cb (useZ Fz 30 z).1 h S J F G h') := by
  refine gi_enter (by decide) (Nat.le_of_ble_eq_true rfl) ?_
  intro _ _ _ _ _ _ _ _ C hr hnm
  obtain ⟨fs, Ha, Hf⟩ := id H.1
  have ho : outM M h h := outM.rf
  have fm : frM S S J J F F := frM.rf
  refine gi_iload_n (q := 1) (i := 1) C (dm_Mo_touched 0 rfl) rfl rfl rfl ?_
  refine gi_bipush (q := 3) (v := 31) C (dm_Mo_touched 1 rfl) rfl (by decide) ?_
  refine gi_icmp_ne (q := 6) (tgt := 13) C (dm_Mo_touched 2 rfl) rfl (by decide) (fun c3 => ?_) (fun c3 => ?_)
  · refine gi_iconst (q := 14) (v := 0) C (dm_Mo_touched 6 rfl) rfl (by decide) ?_
    refine gi_istore_n (q := 15) (i := 2) C (dm_Mo_touched 7 rfl) rfl rfl (Nat.le_of_ble_eq_true rfl) ?_
    refine gi_iload_n (q := 16) (i := 1) C (dm_Mo_touched 8 rfl) rfl rfl rfl ?_
    refine gi_bipush (q := 18) (v := 29) C (dm_Mo_touched 9 rfl) rfl (by decide) ?_
    refine gi_icmp_ne (q := 21) (tgt := 25) C (dm_Mo_touched 10 rfl) rfl (by decide) (fun c18 => ?_) (fun c18 => ?_)
    · refine gi_aload_n (q := 26) (i := 0) C (dm_Mo_touched 13 rfl) rfl rfl rfl ?_
      refine gi_callv 0 (q := 29) C (dm_Mo_touched 14 rfl) rfl my_Mo_pop lk_Mo_588 im_Mo_pop rfl (c_Mo_pop (z := z) R (by omega) H) Ha rfl rfl ⟨(Nat.le_of_ble_eq_true rfl), (Nat.le_of_ble_eq_true rfl)⟩ (Nat.le_of_ble_eq_true rfl) ⟨(Nat.le_of_ble_eq_true rfl), (Nat.le_of_ble_eq_true rfl)⟩ (fun r26 n26 h26 e26 => ?_)
      obtain ⟨rfl, qn26, S1, J1, F1, H1, o1, f1, R1⟩ := e26
      rw [qn26]
      have H := H1
      obtain ⟨fs, Ha, Hf⟩ := id H.1
      have ho := ho.tr o1
      have fm := fm.tr f1
      have R := R1
      have hc := hc.fr f1
      refine gi_istore_n (q := 30) (i := 3) C (dm_Mo_touched 15 rfl) rfl rfl (Nat.le_of_ble_eq_true rfl) ?_
      refine gi_aload_n (q := 31) (i := 0) C (dm_Mo_touched 16 rfl) rfl rfl rfl ?_
      refine gi_callv 0 (q := 34) C (dm_Mo_touched 17 rfl) rfl my_Mo_pop lk_Mo_588 im_Mo_pop rfl (c_Mo_pop (z := (popZ z)) R (by rw [pop_m, pop_nn]; omega) H) Ha rfl rfl ⟨(Nat.le_of_ble_eq_true rfl), (Nat.le_of_ble_eq_true rfl)⟩ (Nat.le_of_ble_eq_true rfl) ⟨(Nat.le_of_ble_eq_true rfl), (Nat.le_of_ble_eq_true rfl)⟩ (fun r31 n31 h31 e31 => ?_)
      obtain ⟨rfl, qn31, S1, J1, F1, H1, o1, f1, R1⟩ := e31
      rw [qn31]
      have H := H1
      obtain ⟨fs, Ha, Hf⟩ := id H.1
      have ho := ho.tr o1
      have fm := fm.tr f1
      have R := R1
      have hc := hc.fr f1
      refine gi_istore (q := 36) C (dm_Mo_touched 18 rfl) rfl (Nat.le_of_ble_eq_true rfl) ?_
      refine gi_iload (q := 38) C (dm_Mo_touched 19 rfl) rfl rfl ?_
      refine gi_if_ne (q := 41) (tgt := 49) C (dm_Mo_touched 20 rfl) rfl (by decide) (fun c38 => ?_) (fun c38 => ?_)
      · have R0 := R.2.1
        obtain ⟨⟨b1, b2, b3⟩, -, -, g4, g5⟩ := R0
        change z.hp.c ≤ 300 at b1
        change z.hp.u ≤ 2000 at b2
        have r1 : 1 ≤ r := by
          rcases Nat.eq_zero_or_pos r with e0 | e0
          · exact absurd (by rw [er, e0]; rfl) c38
          · exact e0
        obtain ⟨g72, g73, g74⟩ := g4 r r1 rc
        change _ = nI (z.hp.st r) at g72
        change _ = nI (z.hp.ln r) at g73
        change _ = nI (z.hp.si r) at g74
        obtain ⟨b3, b4⟩ := b3 r r1 rc
        change z.hp.st r + z.hp.ln r ≤ z.hp.u at b3
        change z.hp.si r < 25 at b4
        rw [er]
        refine gi_iload_n (q := 50) (i := 1) C (dm_Mo_touched 25 rfl) rfl rfl rfl ?_
        refine gi_bipush (q := 52) (v := 29) C (dm_Mo_touched 26 rfl) rfl (by decide) ?_
        refine gi_icmp_ne (q := 55) (tgt := 71) C (dm_Mo_touched 27 rfl) rfl (by decide) (fun c52 => ?_) (fun c52 => ?_)
        · refine gi_iload_n (q := 72) (i := 3) C (dm_Mo_touched 37 rfl) rfl rfl rfl ?_
          refine gi_if_lt (q := 75) (tgt := 88) C (dm_Mo_touched 38 rfl) rfl (by decide) (fun c72 => ?_) (fun c72 => ?_)
          · refine gi_aload_n (q := 89) (i := 0) C (dm_Mo_touched 47 rfl) rfl rfl rfl ?_
            refine gi_iconst (q := 90) (v := 3) C (dm_Mo_touched 48 rfl) rfl (by decide) ?_
            refine gi_put (q := 93) C (dm_Mo_touched 49 rfl) rfl fl_Mo_564 fp_Mo_82 Ha (by rw [Hf.1]; decide) rfl rfl ?_
            refine gi_genM (H.putI Ha Hf (by decide) rfl) (ho.up (by omega) (by omega)) (fun y H ho => ?_)
            obtain ⟨fs, Ha, Hf⟩ := id H.1
            refine gi_goto (tgt := 185) C (dm_Mo_touched 50 rfl) (by decide) ?_
            refine gi_vret C hr (dm_Mo_touched 103 rfl) ?_
            refine ⟨rfl, rfl, ?_⟩
            unfold useZ
            rw [if_neg (by decide), if_pos rfl]
            rw [if_neg (by rw [er]; intro e; exact c38 (er.trans e)), er, nI_clamp (show r < 2 ^ 31 by omega), if_neg (by first | exact fun q => absurd q.1 (Int32.not_le.mpr c72) | exact fun q => c85 q.2)]
            exact ⟨_, _, _, H, ho, fm.tr frM.wr, R.wr⟩
          · refine gi_iload_n (q := 76) (i := 3) C (dm_Mo_touched 39 rfl) rfl rfl rfl ?_
            refine gi_aload_n (q := 77) (i := 0) C (dm_Mo_touched 40 rfl) rfl rfl rfl ?_
            refine gi_get (q := 80) C (dm_Mo_touched 41 rfl) rfl fl_Mo_155 Ha (mo_g73 Hf) ?_
            refine gi_iload (q := 82) C (dm_Mo_touched 42 rfl) rfl rfl ?_
            refine gi_iconst (q := 83) (v := 1) C (dm_Mo_touched 43 rfl) rfl (by decide) ?_
            refine gi_isub (q := 84) C (dm_Mo_touched 44 rfl) rfl ?_
            rw [show (1 : Int32) = nI 1 from rfl, nI_sb r1 (by omega)]
            refine gi_iald (q := 85) C (dm_Mo_touched 45 rfl) rfl rfl (mo_a73 H) (inN (show r - 1 < 301 by omega) (by decide)) ?_
            rw [nI_clamp (show r - 1 < 2 ^ 31 by omega), g73]
            refine gi_icmp_lt (q := 88) (tgt := 96) C (dm_Mo_touched 46 rfl) rfl (by decide) (fun c85 => ?_) (fun c85 => ?_)
            · obtain ⟨iv, ei⟩ : ∃ t : Nat, topV z = nI t ∧ t < z.hp.ln r := by
                have q1 := c72
                have q2 := c85
                rw [Int32.lt_iff_toInt_lt, show (0 : Int32).toInt = 0 from rfl] at q1
                rw [Int32.lt_iff_toInt_lt, nI_toInt (by omega)] at q2
                exact ⟨(topV z).toInt.toNat, by apply Int32.toInt_inj.mp; rw [nI_toInt (by omega)]; omega, by omega⟩
              obtain ⟨ei, iv2⟩ := ei
              rw [ei]
              refine gi_iload_n (q := 97) (i := 1) C (dm_Mo_touched 51 rfl) rfl rfl rfl ?_
              refine gi_bipush (q := 99) (v := 30) C (dm_Mo_touched 52 rfl) rfl (by decide) ?_
              refine gi_icmp_ne (q := 102) (tgt := 125) C (dm_Mo_touched 53 rfl) rfl (by decide) (fun c99 => ?_) (fun c99 => ?_)
              · exact absurd rfl c99
              · refine gi_aload_n (q := 103) (i := 0) C (dm_Mo_touched 54 rfl) rfl rfl rfl ?_
                refine gi_aload_n (q := 104) (i := 0) C (dm_Mo_touched 55 rfl) rfl rfl rfl ?_
                refine gi_get (q := 107) C (dm_Mo_touched 56 rfl) rfl fl_Mo_149 Ha (mo_g71 Hf) ?_
                refine gi_aload_n (q := 108) (i := 0) C (dm_Mo_touched 57 rfl) rfl rfl rfl ?_
                refine gi_get (q := 111) C (dm_Mo_touched 58 rfl) rfl fl_Mo_152 Ha (mo_g72 Hf) ?_
                refine gi_iload (q := 113) C (dm_Mo_touched 59 rfl) rfl rfl ?_
                refine gi_iconst (q := 114) (v := 1) C (dm_Mo_touched 60 rfl) rfl (by decide) ?_
                refine gi_isub (q := 115) C (dm_Mo_touched 61 rfl) rfl ?_
                rw [show (1 : Int32) = nI 1 from rfl, nI_sb r1 (by omega)]
                refine gi_iald (q := 116) C (dm_Mo_touched 62 rfl) rfl rfl (mo_a72 H) (inN (show r - 1 < 301 by omega) (by decide)) ?_
                rw [nI_clamp (show r - 1 < 2 ^ 31 by omega), g72]
                refine gi_iload_n (q := 117) (i := 3) C (dm_Mo_touched 63 rfl) rfl rfl rfl ?_
                refine gi_iadd (q := 118) C (dm_Mo_touched 64 rfl) rfl ?_
                rw [nI_add]
                refine gi_iald (q := 119) C (dm_Mo_touched 65 rfl) rfl rfl (mo_a71 H) (inN (show z.hp.st r + iv < 2000 by omega) (by decide)) ?_
                rw [nI_clamp (show z.hp.st r + iv < 2 ^ 31 by omega), g5 (z.hp.st r + iv) (by show z.hp.st r + iv < z.hp.u; omega)]
                refine gi_callv 1 (q := 122) C (dm_Mo_touched 66 rfl) rfl my_Mo_push lk_Mo_594 im_Mo_push rfl (c_Mo_push (z := (popZ (popZ z))) (z.hp.ce (z.hp.st r + iv)) R (by rw [pop_m, pop_m, pop_nn, pop_nn]; omega) H) Ha rfl rfl ⟨(Nat.le_of_ble_eq_true rfl), (Nat.le_of_ble_eq_true rfl)⟩ (Nat.le_of_ble_eq_true rfl) ⟨(Nat.le_of_ble_eq_true rfl), (Nat.le_of_ble_eq_true rfl)⟩ (fun r119 n119 h119 e119 => ?_)
                obtain ⟨rfl, qn119, p9⟩ := e119
                rw [qn119]
                have p9 := p9.tr ho fm
                refine gi_goto (tgt := 185) C (dm_Mo_touched 67 rfl) (by decide) ?_
                refine gi_vret C hr (dm_Mo_touched 103 rfl) ?_
                refine ⟨rfl, rfl, ?_⟩
                unfold useZ
                rw [if_neg (by decide), if_pos rfl]
                rw [if_neg (by rw [er]; intro e; exact c38 (er.trans e)), er, nI_clamp (show r < 2 ^ 31 by omega), if_pos ⟨Int32.not_lt.mp c72, c85⟩, ei, nI_clamp (show iv < 2 ^ 31 by omega)]
                exact p9
            · refine gi_aload_n (q := 89) (i := 0) C (dm_Mo_touched 47 rfl) rfl rfl rfl ?_
              refine gi_iconst (q := 90) (v := 3) C (dm_Mo_touched 48 rfl) rfl (by decide) ?_
              refine gi_put (q := 93) C (dm_Mo_touched 49 rfl) rfl fl_Mo_564 fp_Mo_82 Ha (by rw [Hf.1]; decide) rfl rfl ?_
              refine gi_genM (H.putI Ha Hf (by decide) rfl) (ho.up (by omega) (by omega)) (fun y H ho => ?_)
              obtain ⟨fs, Ha, Hf⟩ := id H.1
              refine gi_goto (tgt := 185) C (dm_Mo_touched 50 rfl) (by decide) ?_
              refine gi_vret C hr (dm_Mo_touched 103 rfl) ?_
              refine ⟨rfl, rfl, ?_⟩
              unfold useZ
              rw [if_neg (by decide), if_pos rfl]
              rw [if_neg (by rw [er]; intro e; exact c38 (er.trans e)), er, nI_clamp (show r < 2 ^ 31 by omega), if_neg (by first | exact fun q => absurd q.1 (Int32.not_le.mpr c72) | exact fun q => c85 q.2)]
              exact ⟨_, _, _, H, ho, fm.tr frM.wr, R.wr⟩
        · exact absurd c52 (by decide)
      · refine gi_aload_n (q := 42) (i := 0) C (dm_Mo_touched 21 rfl) rfl rfl rfl ?_
        refine gi_iconst (q := 43) (v := 2) C (dm_Mo_touched 22 rfl) rfl (by decide) ?_
        refine gi_put (q := 46) C (dm_Mo_touched 23 rfl) rfl fl_Mo_564 fp_Mo_82 Ha (by rw [Hf.1]; decide) rfl rfl ?_
        refine gi_genM (H.putI Ha Hf (by decide) rfl) (ho.up (by omega) (by omega)) (fun y H ho => ?_)
        obtain ⟨fs, Ha, Hf⟩ := id H.1
        refine gi_goto (tgt := 185) C (dm_Mo_touched 24 rfl) (by decide) ?_
        refine gi_vret C hr (dm_Mo_touched 103 rfl) ?_
        refine ⟨rfl, rfl, ?_⟩
        unfold useZ
        rw [if_neg (by decide), if_pos rfl]
        rw [if_pos c38]
        exact ⟨_, _, _, H, ho, fm.tr frM.wr, R.wr⟩
    · exact absurd c18 (by decide)
  · exact absurd c3 (by decide)
set_option maxHeartbeats 4000000 in
set_option maxRecDepth 100000 in
theorem c_Mo_touched_31 {r : Nat} (R : mcR P cb z S J F) (hst : pN P 2 z.cur.m + 3 ≤ z.cur.n) (h8 : z.cur.n - pN P 2 z.cur.m ≤ 8) (rc : r ≤ z.hp.c) (er : topV (popZ (popZ z)) = nI r) (hc : ceX P sh cb Fz S F G) (H : mo_at M S J F G h) : gi_T l V y_Mo_touched b_Mo_touched 5 none 2 49 0 0 [.ref M, .int 31] n h (fun r n' h' => r = none ∧ n' = n ∧ mcP M P cb (useZ Fz 31 z).1 h S J F G h') := by
  refine gi_enter (by decide) (Nat.le_of_ble_eq_true rfl) ?_
  intro _ _ _ _ _ _ _ _ C hr hnm
  obtain ⟨fs, Ha, Hf⟩ := id H.1
  have ho : outM M h h := outM.rf
  have fm : frM S S J J F F := frM.rf
  refine gi_iload_n (q := 1) (i := 1) C (dm_Mo_touched 0 rfl) rfl rfl rfl ?_
  refine gi_bipush (q := 3) (v := 31) C (dm_Mo_touched 1 rfl) rfl (by decide) ?_
  refine gi_icmp_ne (q := 6) (tgt := 13) C (dm_Mo_touched 2 rfl) rfl (by decide) (fun c3 => ?_) (fun c3 => ?_)
  · exact absurd rfl c3
  · refine gi_aload_n (q := 7) (i := 0) C (dm_Mo_touched 3 rfl) rfl rfl rfl ?_
    refine gi_callv 0 (q := 10) C (dm_Mo_touched 4 rfl) rfl my_Mo_pop lk_Mo_588 im_Mo_pop rfl (c_Mo_pop (z := z) R (by omega) H) Ha rfl rfl ⟨(Nat.le_of_ble_eq_true rfl), (Nat.le_of_ble_eq_true rfl)⟩ (Nat.le_of_ble_eq_true rfl) ⟨(Nat.le_of_ble_eq_true rfl), (Nat.le_of_ble_eq_true rfl)⟩ (fun r7 n7 h7 e7 => ?_)
    obtain ⟨rfl, qn7, S1, J1, F1, H1, o1, f1, R1⟩ := e7
    rw [qn7]
    have H := H1
    obtain ⟨fs, Ha, Hf⟩ := id H.1
    have ho := ho.tr o1
    have fm := fm.tr f1
    have R := R1
    have hc := hc.fr f1
    refine gi_goto (tgt := 14) C (dm_Mo_touched 5 rfl) (by decide) ?_
    refine gi_istore_n (q := 15) (i := 2) C (dm_Mo_touched 7 rfl) rfl rfl (Nat.le_of_ble_eq_true rfl) ?_
    refine gi_iload_n (q := 16) (i := 1) C (dm_Mo_touched 8 rfl) rfl rfl rfl ?_
    refine gi_bipush (q := 18) (v := 29) C (dm_Mo_touched 9 rfl) rfl (by decide) ?_
    refine gi_icmp_ne (q := 21) (tgt := 25) C (dm_Mo_touched 10 rfl) rfl (by decide) (fun c18 => ?_) (fun c18 => ?_)
    · refine gi_aload_n (q := 26) (i := 0) C (dm_Mo_touched 13 rfl) rfl rfl rfl ?_
      refine gi_callv 0 (q := 29) C (dm_Mo_touched 14 rfl) rfl my_Mo_pop lk_Mo_588 im_Mo_pop rfl (c_Mo_pop (z := (popZ z)) R (by rw [pop_m, pop_nn]; omega) H) Ha rfl rfl ⟨(Nat.le_of_ble_eq_true rfl), (Nat.le_of_ble_eq_true rfl)⟩ (Nat.le_of_ble_eq_true rfl) ⟨(Nat.le_of_ble_eq_true rfl), (Nat.le_of_ble_eq_true rfl)⟩ (fun r26 n26 h26 e26 => ?_)
      obtain ⟨rfl, qn26, S1, J1, F1, H1, o1, f1, R1⟩ := e26
      rw [qn26]
      have H := H1
      obtain ⟨fs, Ha, Hf⟩ := id H.1
      have ho := ho.tr o1
      have fm := fm.tr f1
      have R := R1
      have hc := hc.fr f1
      refine gi_istore_n (q := 30) (i := 3) C (dm_Mo_touched 15 rfl) rfl rfl (Nat.le_of_ble_eq_true rfl) ?_
      refine gi_aload_n (q := 31) (i := 0) C (dm_Mo_touched 16 rfl) rfl rfl rfl ?_
      refine gi_callv 0 (q := 34) C (dm_Mo_touched 17 rfl) rfl my_Mo_pop lk_Mo_588 im_Mo_pop rfl (c_Mo_pop (z := (popZ (popZ z))) R (by rw [pop_m, pop_m, pop_nn, pop_nn]; omega) H) Ha rfl rfl ⟨(Nat.le_of_ble_eq_true rfl), (Nat.le_of_ble_eq_true rfl)⟩ (Nat.le_of_ble_eq_true rfl) ⟨(Nat.le_of_ble_eq_true rfl), (Nat.le_of_ble_eq_true rfl)⟩ (fun r31 n31 h31 e31 => ?_)
      obtain ⟨rfl, qn31, S1, J1, F1, H1, o1, f1, R1⟩ := e31
      rw [qn31]
      have H := H1
      obtain ⟨fs, Ha, Hf⟩ := id H.1
      have ho := ho.tr o1
      have fm := fm.tr f1
      have R := R1
      have hc := hc.fr f1
      refine gi_istore (q := 36) C (dm_Mo_touched 18 rfl) rfl (Nat.le_of_ble_eq_true rfl) ?_
      refine gi_iload (q := 38) C (dm_Mo_touched 19 rfl) rfl rfl ?_
      refine gi_if_ne (q := 41) (tgt := 49) C (dm_Mo_touched 20 rfl) rfl (by decide) (fun c38 => ?_) (fun c38 => ?_)
      · have R0 := R.2.1
        obtain ⟨⟨b1, b2, b3⟩, -, -, g4, g5⟩ := R0
        change z.hp.c ≤ 300 at b1
        change z.hp.u ≤ 2000 at b2
        have r1 : 1 ≤ r := by
          rcases Nat.eq_zero_or_pos r with e0 | e0
          · exact absurd (by rw [er, e0]; rfl) c38
          · exact e0
        obtain ⟨g72, g73, g74⟩ := g4 r r1 rc
        change _ = nI (z.hp.st r) at g72
        change _ = nI (z.hp.ln r) at g73
        change _ = nI (z.hp.si r) at g74
        obtain ⟨b3, b4⟩ := b3 r r1 rc
        change z.hp.st r + z.hp.ln r ≤ z.hp.u at b3
        change z.hp.si r < 25 at b4
        rw [er]
        refine gi_iload_n (q := 50) (i := 1) C (dm_Mo_touched 25 rfl) rfl rfl rfl ?_
        refine gi_bipush (q := 52) (v := 29) C (dm_Mo_touched 26 rfl) rfl (by decide) ?_
        refine gi_icmp_ne (q := 55) (tgt := 71) C (dm_Mo_touched 27 rfl) rfl (by decide) (fun c52 => ?_) (fun c52 => ?_)
        · refine gi_iload_n (q := 72) (i := 3) C (dm_Mo_touched 37 rfl) rfl rfl rfl ?_
          refine gi_if_lt (q := 75) (tgt := 88) C (dm_Mo_touched 38 rfl) rfl (by decide) (fun c72 => ?_) (fun c72 => ?_)
          · refine gi_aload_n (q := 89) (i := 0) C (dm_Mo_touched 47 rfl) rfl rfl rfl ?_
            refine gi_iconst (q := 90) (v := 3) C (dm_Mo_touched 48 rfl) rfl (by decide) ?_
            refine gi_put (q := 93) C (dm_Mo_touched 49 rfl) rfl fl_Mo_564 fp_Mo_82 Ha (by rw [Hf.1]; decide) rfl rfl ?_
            refine gi_genM (H.putI Ha Hf (by decide) rfl) (ho.up (by omega) (by omega)) (fun y H ho => ?_)
            obtain ⟨fs, Ha, Hf⟩ := id H.1
            refine gi_goto (tgt := 185) C (dm_Mo_touched 50 rfl) (by decide) ?_
            refine gi_vret C hr (dm_Mo_touched 103 rfl) ?_
            refine ⟨rfl, rfl, ?_⟩
            unfold useZ
            rw [if_neg (by decide), if_neg (by decide)]
            rw [if_neg (by rw [er]; intro e; exact c38 (er.trans e)), er, nI_clamp (show r < 2 ^ 31 by omega), if_neg (by first | exact fun q => absurd q.1 (Int32.not_le.mpr c72) | exact fun q => c85 q.2)]
            exact ⟨_, _, _, H, ho, fm.tr frM.wr, R.wr⟩
          · refine gi_iload_n (q := 76) (i := 3) C (dm_Mo_touched 39 rfl) rfl rfl rfl ?_
            refine gi_aload_n (q := 77) (i := 0) C (dm_Mo_touched 40 rfl) rfl rfl rfl ?_
            refine gi_get (q := 80) C (dm_Mo_touched 41 rfl) rfl fl_Mo_155 Ha (mo_g73 Hf) ?_
            refine gi_iload (q := 82) C (dm_Mo_touched 42 rfl) rfl rfl ?_
            refine gi_iconst (q := 83) (v := 1) C (dm_Mo_touched 43 rfl) rfl (by decide) ?_
            refine gi_isub (q := 84) C (dm_Mo_touched 44 rfl) rfl ?_
            rw [show (1 : Int32) = nI 1 from rfl, nI_sb r1 (by omega)]
            refine gi_iald (q := 85) C (dm_Mo_touched 45 rfl) rfl rfl (mo_a73 H) (inN (show r - 1 < 301 by omega) (by decide)) ?_
            rw [nI_clamp (show r - 1 < 2 ^ 31 by omega), g73]
            refine gi_icmp_lt (q := 88) (tgt := 96) C (dm_Mo_touched 46 rfl) rfl (by decide) (fun c85 => ?_) (fun c85 => ?_)
            · obtain ⟨iv, ei⟩ : ∃ t : Nat, topV (popZ z) = nI t ∧ t < z.hp.ln r := by
                have q1 := c72
                have q2 := c85
                rw [Int32.lt_iff_toInt_lt, show (0 : Int32).toInt = 0 from rfl] at q1
                rw [Int32.lt_iff_toInt_lt, nI_toInt (by omega)] at q2
                exact ⟨(topV (popZ z)).toInt.toNat, by apply Int32.toInt_inj.mp; rw [nI_toInt (by omega)]; omega, by omega⟩
              obtain ⟨ei, iv2⟩ := ei
              rw [ei]
              refine gi_iload_n (q := 97) (i := 1) C (dm_Mo_touched 51 rfl) rfl rfl rfl ?_
              refine gi_bipush (q := 99) (v := 30) C (dm_Mo_touched 52 rfl) rfl (by decide) ?_
              refine gi_icmp_ne (q := 102) (tgt := 125) C (dm_Mo_touched 53 rfl) rfl (by decide) (fun c99 => ?_) (fun c99 => ?_)
              · refine gi_aload_n (q := 126) (i := 0) C (dm_Mo_touched 68 rfl) rfl rfl rfl ?_
                refine gi_get (q := 129) C (dm_Mo_touched 69 rfl) rfl fl_Mo_149 Ha (mo_g71 Hf) ?_
                refine gi_aload_n (q := 130) (i := 0) C (dm_Mo_touched 70 rfl) rfl rfl rfl ?_
                refine gi_get (q := 133) C (dm_Mo_touched 71 rfl) rfl fl_Mo_152 Ha (mo_g72 Hf) ?_
                refine gi_iload (q := 135) C (dm_Mo_touched 72 rfl) rfl rfl ?_
                refine gi_iconst (q := 136) (v := 1) C (dm_Mo_touched 73 rfl) rfl (by decide) ?_
                refine gi_isub (q := 137) C (dm_Mo_touched 74 rfl) rfl ?_
                rw [show (1 : Int32) = nI 1 from rfl, nI_sb r1 (by omega)]
                refine gi_iald (q := 138) C (dm_Mo_touched 75 rfl) rfl rfl (mo_a72 H) (inN (show r - 1 < 301 by omega) (by decide)) ?_
                rw [nI_clamp (show r - 1 < 2 ^ 31 by omega), g72]
                refine gi_iload_n (q := 139) (i := 3) C (dm_Mo_touched 76 rfl) rfl rfl rfl ?_
                refine gi_iadd (q := 140) C (dm_Mo_touched 77 rfl) rfl ?_
                rw [nI_add]
                refine gi_iload_n (q := 141) (i := 2) C (dm_Mo_touched 78 rfl) rfl rfl rfl ?_
                refine gi_iast (q := 142) C (dm_Mo_touched 79 rfl) rfl rfl (mo_a71 H) (inN (show z.hp.st r + iv < 2000 by omega) (by decide)) ?_
                refine gi_genM (H.setI (p := 43) (k := 71) (by decide) rfl rfl (by decide) rfl (by omega)) (ho.up (by omega) (by omega)) (fun y H ho => ?_)
                obtain ⟨fs, Ha, Hf⟩ := id H.1
                have Rz := R
                have r9 := R.2.2.2.2.2.2.2.2.1
                have r9' := R.2.2.2.2.2.2.2.2.2.1
                refine gi_aload_n (q := 143) (i := 0) C (dm_Mo_touched 80 rfl) rfl rfl rfl ?_
                refine gi_aload_n (q := 144) (i := 0) C (dm_Mo_touched 81 rfl) rfl rfl rfl ?_
                refine gi_get (q := 147) C (dm_Mo_touched 82 rfl) rfl fl_Mo_546 Ha (mo_g88 Hf) ?_
                refine gi_if_ne (q := 150) (tgt := 177) C (dm_Mo_touched 83 rfl) rfl (by decide) (fun c147 => ?_) (fun c147 => ?_)
                · refine gi_iconst (q := 178) (v := 1) C (dm_Mo_touched 99 rfl) rfl (by decide) ?_
                  refine gi_goto (tgt := 182) C (dm_Mo_touched 100 rfl) (by decide) ?_
                  refine gi_put (q := 185) C (dm_Mo_touched 102 rfl) rfl fl_Mo_546 fp_Mo_88 Ha (by rw [Hf.1]; decide) rfl rfl ?_
                  refine gi_genM (H.putI Ha Hf (by decide) rfl) (ho.up (by omega) (by omega)) (fun y H ho => ?_)
                  obtain ⟨fs, Ha, Hf⟩ := id H.1
                  refine gi_vret C hr (dm_Mo_touched 103 rfl) ?_
                  refine ⟨rfl, rfl, ?_⟩
                  unfold useZ
                  rw [if_neg (by decide), if_neg (by decide), if_neg (by rw [er]; intro e; exact c38 (er.trans e)), er, nI_clamp (show r < 2 ^ 31 by omega), if_pos ⟨Int32.not_lt.mp c72, c85⟩, ei, nI_clamp (show iv < 2 ^ 31 by omega)]
                  rw [nI_clamp (show z.hp.st r + iv < 2 ^ 31 by omega)] at H
                  refine ⟨_, _, _, H, ho, fm.tr ⟨fun a ha => by unfold upS; rw [if_neg (by omega)], fun _ _ => rfl, fun a ha => by rw [upA_n (by omega)]⟩, ?_⟩
                  refine R.cell (z := popZ (popZ (popZ z))) ⟨fun cq => ?_, fun cq => ?_⟩ (fun a ha => by unfold upS; rw [if_neg ha]) (fun a ha => upA_n ha) (fun q => by rw [upA_i, upd_is]; rfl)
                  · have r9 := R.2.2.2.2.2.2.2.2.1 cq
                    change S1 88 = bI z.as at r9
                    show upS S1 88 _ 88 = bI (z.as || _)
                    unfold upS
                    rw [if_pos rfl]
                    first
                      | (have a1 : z.as = true := bI_t (by rw [← r9]; exact c147)
                         rw [a1]
                         rfl)
                      | (have a1 : z.as = false := bI_fa (by rw [← r9]; exact c147)
                         rw [a1, Bool.false_or, bI_t c174]
                         rfl)
                      | (have a1 : z.as = false := bI_fa (by rw [← r9]; exact c147)
                         rw [a1, Bool.false_or, bI_fa c174]
                         rfl)
                      | (exfalso; rw [hc.1, cq] at c154; exact absurd c154 (by decide))
                  · have r9 := R.2.2.2.2.2.2.2.2.2.1 cq
                    first
                      | rfl
                      | (exfalso; exact c147 r9)
                      | cases cq
                · refine gi_aload_n (q := 151) (i := 0) C (dm_Mo_touched 84 rfl) rfl rfl rfl ?_
                  refine gi_get (q := 154) C (dm_Mo_touched 85 rfl) rfl fl_Mo_183 Ha (mo_g9 Hf) ?_
                  refine gi_if_eq (q := 157) (tgt := 181) C (dm_Mo_touched 86 rfl) rfl (by decide) (fun c154 => ?_) (fun c154 => ?_)
                  · refine gi_iconst (q := 182) (v := 0) C (dm_Mo_touched 101 rfl) rfl (by decide) ?_
                    refine gi_put (q := 185) C (dm_Mo_touched 102 rfl) rfl fl_Mo_546 fp_Mo_88 Ha (by rw [Hf.1]; decide) rfl rfl ?_
                    refine gi_genM (H.putI Ha Hf (by decide) rfl) (ho.up (by omega) (by omega)) (fun y H ho => ?_)
                    obtain ⟨fs, Ha, Hf⟩ := id H.1
                    refine gi_vret C hr (dm_Mo_touched 103 rfl) ?_
                    refine ⟨rfl, rfl, ?_⟩
                    unfold useZ
                    rw [if_neg (by decide), if_neg (by decide), if_neg (by rw [er]; intro e; exact c38 (er.trans e)), er, nI_clamp (show r < 2 ^ 31 by omega), if_pos ⟨Int32.not_lt.mp c72, c85⟩, ei, nI_clamp (show iv < 2 ^ 31 by omega)]
                    rw [nI_clamp (show z.hp.st r + iv < 2 ^ 31 by omega)] at H
                    refine ⟨_, _, _, H, ho, fm.tr ⟨fun a ha => by unfold upS; rw [if_neg (by omega)], fun _ _ => rfl, fun a ha => by rw [upA_n (by omega)]⟩, ?_⟩
                    refine R.cell (z := popZ (popZ (popZ z))) ⟨fun cq => ?_, fun cq => ?_⟩ (fun a ha => by unfold upS; rw [if_neg ha]) (fun a ha => upA_n ha) (fun q => by rw [upA_i, upd_is]; rfl)
                    · have r9 := R.2.2.2.2.2.2.2.2.1 cq
                      change S1 88 = bI z.as at r9
                      show upS S1 88 _ 88 = bI (z.as || _)
                      unfold upS
                      rw [if_pos rfl]
                      first
                        | (have a1 : z.as = true := bI_t (by rw [← r9]; exact c147)
                           rw [a1]
                           rfl)
                        | (have a1 : z.as = false := bI_fa (by rw [← r9]; exact c147)
                           rw [a1, Bool.false_or, bI_t c174]
                           rfl)
                        | (have a1 : z.as = false := bI_fa (by rw [← r9]; exact c147)
                           rw [a1, Bool.false_or, bI_fa c174]
                           rfl)
                        | (exfalso; rw [hc.1, cq] at c154; exact absurd c154 (by decide))
                    · have r9 := R.2.2.2.2.2.2.2.2.2.1 cq
                      first
                        | rfl
                        | (exfalso; exact c147 r9)
                        | cases cq
                  · have cbt : cb = true := by
                      cases cb with
                      | true => rfl
                      | false => exact absurd hc.1 c154
                    subst cbt
                    have cf := (hc.of (F' := _) (S' := S1) (fun a ha => upA_n (F := F1) (k := 71) (g := upd (F1 71) (nI (z.hp.st r + iv)).toNatClampNeg (topV z)) (show a ≠ 71 by omega)) rfl).2 rfl
                    refine gi_aload_n (q := 158) (i := 0) C (dm_Mo_touched 87 rfl) rfl rfl rfl ?_
                    refine gi_bipush (q := 160) (v := 32) C (dm_Mo_touched 88 rfl) rfl (by decide) ?_
                    refine gi_aload_n (q := 161) (i := 0) C (dm_Mo_touched 89 rfl) rfl rfl rfl ?_
                    refine gi_get (q := 164) C (dm_Mo_touched 90 rfl) rfl fl_Mo_158 Ha (mo_g74 Hf) ?_
                    refine gi_iload (q := 166) C (dm_Mo_touched 91 rfl) rfl rfl ?_
                    refine gi_iconst (q := 167) (v := 1) C (dm_Mo_touched 92 rfl) rfl (by decide) ?_
                    refine gi_isub (q := 168) C (dm_Mo_touched 93 rfl) rfl ?_
                    rw [show (1 : Int32) = nI 1 from rfl, nI_sb r1 (by omega)]
                    refine gi_iald (q := 169) C (dm_Mo_touched 94 rfl) rfl rfl (mo_a74 H) (inN (show r - 1 < 301 by omega) (by decide)) ?_
                    rw [nI_clamp (show r - 1 < 2 ^ 31 by omega), upA_n (by decide), g74]
                    refine gi_iadd (q := 170) C (dm_Mo_touched 95 rfl) rfl ?_
                    rw [show (32 : Int32) = nI 32 from rfl, nI_add]
                    refine gi_iload_n (q := 171) (i := 2) C (dm_Mo_touched 96 rfl) rfl rfl rfl ?_
                    refine gi_callv 2 (q := 174) C (dm_Mo_touched 97 rfl) rfl my_Mo_isToldBy lk_Mo_549 im_Mo_isToldBy rfl (c_Mo_isToldX (t := 505 + z.hp.si r) (topV z) (by omega) (by omega) (tix_e b4) cf H) Ha rfl rfl ⟨(Nat.le_of_ble_eq_true rfl), (Nat.le_of_ble_eq_true rfl)⟩ (Nat.le_of_ble_eq_true rfl) ⟨(Nat.le_of_ble_eq_true rfl), (Nat.le_of_ble_eq_true rfl)⟩ (fun r171 n171 h171 e171 => ?_)
                    obtain ⟨rfl, q171, u171⟩ := e171
                    rw [q171, u171]
                    refine gi_if_ne (q := 177) (tgt := 181) C (dm_Mo_touched 98 rfl) rfl (by decide) (fun c174 => ?_) (fun c174 => ?_)
                    · refine gi_iconst (q := 182) (v := 0) C (dm_Mo_touched 101 rfl) rfl (by decide) ?_
                      refine gi_put (q := 185) C (dm_Mo_touched 102 rfl) rfl fl_Mo_546 fp_Mo_88 Ha (by rw [Hf.1]; decide) rfl rfl ?_
                      refine gi_genM (H.putI Ha Hf (by decide) rfl) (ho.up (by omega) (by omega)) (fun y H ho => ?_)
                      obtain ⟨fs, Ha, Hf⟩ := id H.1
                      refine gi_vret C hr (dm_Mo_touched 103 rfl) ?_
                      refine ⟨rfl, rfl, ?_⟩
                      unfold useZ
                      rw [if_neg (by decide), if_neg (by decide), if_neg (by rw [er]; intro e; exact c38 (er.trans e)), er, nI_clamp (show r < 2 ^ 31 by omega), if_pos ⟨Int32.not_lt.mp c72, c85⟩, ei, nI_clamp (show iv < 2 ^ 31 by omega)]
                      rw [nI_clamp (show z.hp.st r + iv < 2 ^ 31 by omega)] at H
                      refine ⟨_, _, _, H, ho, fm.tr ⟨fun a ha => by unfold upS; rw [if_neg (by omega)], fun _ _ => rfl, fun a ha => by rw [upA_n (by omega)]⟩, ?_⟩
                      refine R.cell (z := popZ (popZ (popZ z))) ⟨fun cq => ?_, fun cq => ?_⟩ (fun a ha => by unfold upS; rw [if_neg ha]) (fun a ha => upA_n ha) (fun q => by rw [upA_i, upd_is]; rfl)
                      · have r9 := R.2.2.2.2.2.2.2.2.1 cq
                        change S1 88 = bI z.as at r9
                        show upS S1 88 _ 88 = bI (z.as || _)
                        unfold upS
                        rw [if_pos rfl]
                        first
                          | (have a1 : z.as = true := bI_t (by rw [← r9]; exact c147)
                             rw [a1]
                             rfl)
                          | (have a1 : z.as = false := bI_fa (by rw [← r9]; exact c147)
                             rw [a1, Bool.false_or, bI_t c174]
                             rfl)
                          | (have a1 : z.as = false := bI_fa (by rw [← r9]; exact c147)
                             rw [a1, Bool.false_or, bI_fa c174]
                             rfl)
                          | (exfalso; rw [hc.1, cq] at c154; exact absurd c154 (by decide))
                      · have r9 := R.2.2.2.2.2.2.2.2.2.1 cq
                        first
                          | rfl
                          | (exfalso; exact c147 r9)
                          | cases cq
                    · refine gi_iconst (q := 178) (v := 1) C (dm_Mo_touched 99 rfl) rfl (by decide) ?_
                      refine gi_goto (tgt := 182) C (dm_Mo_touched 100 rfl) (by decide) ?_
                      refine gi_put (q := 185) C (dm_Mo_touched 102 rfl) rfl fl_Mo_546 fp_Mo_88 Ha (by rw [Hf.1]; decide) rfl rfl ?_
                      refine gi_genM (H.putI Ha Hf (by decide) rfl) (ho.up (by omega) (by omega)) (fun y H ho => ?_)
                      obtain ⟨fs, Ha, Hf⟩ := id H.1
                      refine gi_vret C hr (dm_Mo_touched 103 rfl) ?_
                      refine ⟨rfl, rfl, ?_⟩
                      unfold useZ
                      rw [if_neg (by decide), if_neg (by decide), if_neg (by rw [er]; intro e; exact c38 (er.trans e)), er, nI_clamp (show r < 2 ^ 31 by omega), if_pos ⟨Int32.not_lt.mp c72, c85⟩, ei, nI_clamp (show iv < 2 ^ 31 by omega)]
                      rw [nI_clamp (show z.hp.st r + iv < 2 ^ 31 by omega)] at H
                      refine ⟨_, _, _, H, ho, fm.tr ⟨fun a ha => by unfold upS; rw [if_neg (by omega)], fun _ _ => rfl, fun a ha => by rw [upA_n (by omega)]⟩, ?_⟩
                      refine R.cell (z := popZ (popZ (popZ z))) ⟨fun cq => ?_, fun cq => ?_⟩ (fun a ha => by unfold upS; rw [if_neg ha]) (fun a ha => upA_n ha) (fun q => by rw [upA_i, upd_is]; rfl)
                      · have r9 := R.2.2.2.2.2.2.2.2.1 cq
                        change S1 88 = bI z.as at r9
                        show upS S1 88 _ 88 = bI (z.as || _)
                        unfold upS
                        rw [if_pos rfl]
                        first
                          | (have a1 : z.as = true := bI_t (by rw [← r9]; exact c147)
                             rw [a1]
                             rfl)
                          | (have a1 : z.as = false := bI_fa (by rw [← r9]; exact c147)
                             rw [a1, Bool.false_or, bI_t c174]
                             rfl)
                          | (have a1 : z.as = false := bI_fa (by rw [← r9]; exact c147)
                             rw [a1, Bool.false_or, bI_fa c174]
                             rfl)
                          | (exfalso; rw [hc.1, cq] at c154; exact absurd c154 (by decide))
                      · have r9 := R.2.2.2.2.2.2.2.2.2.1 cq
                        first
                          | rfl
                          | (exfalso; exact c147 r9)
                          | cases cq
              · exact absurd c99 (by decide)
            · refine gi_aload_n (q := 89) (i := 0) C (dm_Mo_touched 47 rfl) rfl rfl rfl ?_
              refine gi_iconst (q := 90) (v := 3) C (dm_Mo_touched 48 rfl) rfl (by decide) ?_
              refine gi_put (q := 93) C (dm_Mo_touched 49 rfl) rfl fl_Mo_564 fp_Mo_82 Ha (by rw [Hf.1]; decide) rfl rfl ?_
              refine gi_genM (H.putI Ha Hf (by decide) rfl) (ho.up (by omega) (by omega)) (fun y H ho => ?_)
              obtain ⟨fs, Ha, Hf⟩ := id H.1
              refine gi_goto (tgt := 185) C (dm_Mo_touched 50 rfl) (by decide) ?_
              refine gi_vret C hr (dm_Mo_touched 103 rfl) ?_
              refine ⟨rfl, rfl, ?_⟩
              unfold useZ
              rw [if_neg (by decide), if_neg (by decide)]
              rw [if_neg (by rw [er]; intro e; exact c38 (er.trans e)), er, nI_clamp (show r < 2 ^ 31 by omega), if_neg (by first | exact fun q => absurd q.1 (Int32.not_le.mpr c72) | exact fun q => c85 q.2)]
              exact ⟨_, _, _, H, ho, fm.tr frM.wr, R.wr⟩
        · exact absurd c52 (by decide)
      · refine gi_aload_n (q := 42) (i := 0) C (dm_Mo_touched 21 rfl) rfl rfl rfl ?_
        refine gi_iconst (q := 43) (v := 2) C (dm_Mo_touched 22 rfl) rfl (by decide) ?_
        refine gi_put (q := 46) C (dm_Mo_touched 23 rfl) rfl fl_Mo_564 fp_Mo_82 Ha (by rw [Hf.1]; decide) rfl rfl ?_
        refine gi_genM (H.putI Ha Hf (by decide) rfl) (ho.up (by omega) (by omega)) (fun y H ho => ?_)
        obtain ⟨fs, Ha, Hf⟩ := id H.1
        refine gi_goto (tgt := 185) C (dm_Mo_touched 24 rfl) (by decide) ?_
        refine gi_vret C hr (dm_Mo_touched 103 rfl) ?_
        refine ⟨rfl, rfl, ?_⟩
        unfold useZ
        rw [if_neg (by decide), if_neg (by decide)]
        rw [if_pos c38]
        exact ⟨_, _, _, H, ho, fm.tr frM.wr, R.wr⟩
    · exact absurd c18 (by decide)
end RM3
