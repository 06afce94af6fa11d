-- needs: 89.95
section RM2
variable {l : Launch} {V : gi_V} {n : Nat} {h h' : gi_H} {M k : Nat} {P : Pm} {sh : Nat → Option Sh} {S S' : Nat → Int32} {J J' : Nat → Int64} {F F' : Nat → Nat → Int32} {G : Nat → Nat → Int64} {Fz : Fa} {cb : Bool} {z : Mc} {len s : Nat}
/-- whether there is a certificate, and what it tells -/
def ceX (P : Pm) (sh : Nat → Option Sh) (cb : Bool) (Fz : Fa) (S : Nat → Int32) (F : Nat → Nat → Int32) (G : Nat → Nat → Int64) : Prop := S 9 = bI cb ∧ (cb = true → fsN P Fz F G ∧ okF (tyF P sh) Fz)
theorem fsN.of (h : fsN P Fz F G) (e : ∀ j, j < 71 → F' j = F j) : fsN P Fz F' G := by
  have eS : ∀ q, cS F' G q = cS F G q := fun q => by unfold cS; rw [e 35 (by decide), e 36 (by decide), e 37 (by decide)]
  have eT : ∀ q, cT F' G q = cT F G q := fun q => by unfold cT; rw [e 43 (by decide), e 44 (by decide)]
  refine ⟨fun p hp => ⟨by rw [e 31 (by decide)]; exact (h.1 p hp).1, fun tl => ?_⟩, fun t h1 h2 => ⟨by rw [e 39 (by decide)]; exact (h.2 t h1 h2).1, fun tl => by rw [eT]; exact (h.2 t h1 h2).2 tl⟩⟩
  obtain ⟨a, b, c⟩ := (h.1 p hp).2 tl
  refine ⟨a, b, fun i hi => ?_⟩
  dsimp only
  rw [eS]
  exact c i hi
theorem ceX.of (h : ceX P sh cb Fz S F G) (e : ∀ j, j < 71 → F' j = F j) (s : S' 9 = S 9) : ceX P sh cb Fz S' F' G := ⟨s.trans h.1, fun q => ⟨(h.2 q).1.of e, (h.2 q).2⟩⟩
theorem ceX.fr (h : ceX P sh cb Fz S F G) (f : frM S S' J J' F F') : ceX P sh cb Fz S' F' G := h.of f.2.2 (f.1 9 (.inl (by decide)))
theorem mcR.mk {b : Bool} (R : mcR P cb z S J F) (c3 : z.hp.c < 300) (u2 : z.hp.u + len ≤ 2000) (s25 : s < 25) (e75 : S' 75 = nI (z.hp.c + 1)) (e76 : S' 76 = nI (z.hp.u + len)) (es : ∀ j, j ≠ 75 → j ≠ 76 → j ≠ 88 → S' j = S j) (e88 : (cb = true → S' 88 = bI (z.as || b)) ∧ (cb = false → S' 88 = 0)) (ef : ∀ j, j < 71 ∨ 74 < j → F' j = F j) (e72 : ∀ i, F' 72 i = if i = z.hp.c then nI z.hp.u else F 72 i) (e73 : ∀ i, F' 73 i = if i = z.hp.c then nI len else F 73 i) (e74 : ∀ i, F' 74 i = if i = z.hp.c then nI s else F 74 i) (e71 : ∀ i, F' 71 i = if z.hp.u ≤ i ∧ i < z.hp.u + len then 0 else F 71 i) : mcR P cb (astZ (hpZ z (hAdd z.hp len s)) b) S' J F' := by
  obtain ⟨r1, ⟨⟨o1, o2, o3⟩, q2, q3, q4, q5⟩, r3, r4, r5, r6, r7, r8, r9, r9', r10⟩ := R
  refine ⟨r1, ⟨⟨?_, ?_, fun r h1 h2 => ?_⟩, e75, e76, fun r h1 h2 => ?_, fun i hi => ?_⟩, ?_, (es 81 (by decide) (by decide) (by decide)).trans r4, (es 82 (by decide) (by decide) (by decide)).trans r5, (es 85 (by decide) (by decide) (by decide)).trans r6, r7, r8, e88.1, e88.2, fun t ht => ?_⟩
  · show z.hp.c + 1 ≤ 300
    omega
  · exact u2
  · have h2' : r ≤ z.hp.c + 1 := h2
    show upO z.hp.st (z.hp.c + 1) z.hp.u r + upO z.hp.ln (z.hp.c + 1) len r ≤ z.hp.u + len ∧ upO z.hp.si (z.hp.c + 1) s r < 25
    by_cases q : r = z.hp.c + 1
    · subst q
      rw [upO_self, upO_self, upO_self]
      exact ⟨Nat.le_refl _, s25⟩
    · rw [upO_ne q, upO_ne q, upO_ne q]
      have := o3 r h1 (by omega)
      have a1 := this.1
      exact ⟨by show z.hp.st r + z.hp.ln r ≤ z.hp.u + len; have a2 : z.hp.st r + z.hp.ln r ≤ z.hp.u := a1; omega, this.2⟩
  · have h2' : r ≤ z.hp.c + 1 := h2
    show F' 72 (r - 1) = nI (upO z.hp.st (z.hp.c + 1) z.hp.u r) ∧ F' 73 (r - 1) = nI (upO z.hp.ln (z.hp.c + 1) len r) ∧ F' 74 (r - 1) = nI (upO z.hp.si (z.hp.c + 1) s r)
    rw [e72, e73, e74]
    by_cases q : r = z.hp.c + 1
    · rw [if_pos (by omega), if_pos (by omega), if_pos (by omega), q, upO_self, upO_self, upO_self]
      exact ⟨rfl, rfl, rfl⟩
    · rw [if_neg (by omega), if_neg (by omega), if_neg (by omega), upO_ne q, upO_ne q, upO_ne q]
      exact q4 r h1 (by omega)
  · have hi' : i < z.hp.u + len := hi
    show F' 71 i = if z.hp.u ≤ i ∧ i < z.hp.u + len then 0 else z.hp.ce i
    rw [e71]
    by_cases q : z.hp.u ≤ i ∧ i < z.hp.u + len
    · rw [if_pos q, if_pos q]
    · rw [if_neg q, if_neg q]
      exact q5 i (by show i < z.hp.u; omega)
  · rw [ef 77 (by omega)]
    exact r3
  · obtain ⟨p1, p2, p3, p4, p5, p6, p7⟩ := r10 t ht
    exact ⟨by rw [ef 79 (by omega)]; exact p1, by rw [ef 80 (by omega)]; exact p2, p3, p4, p5, p6, fun j hj => by rw [ef 78 (by omega)]; exact p7 j hj⟩
theorem c_Mo_isToldX {t ix : Nat} (v : Int32) (h1 : 480 ≤ t) (h2 : t < 534) (hx : tix t = ix) (h0 : fsN P Fz F G ∧ okF (tyF P sh) Fz) (H : mo_at M S J F G h) : gi_T l V y_Mo_isToldBy b_Mo_isToldBy 3 (some .boolean) 1 27 0 0 [.ref M, .int (nI ix), .int v] n h (gi_is (some (.int (bI (rwT Fz t v)))) n h) := by
  rw [← hx]
  exact c_Mo_isToldBy v h1 h2 h0.1 h0.2 H
set_option maxHeartbeats 4000000 in
set_option maxRecDepth 100000 in
theorem c_Mo_makeArray (R : mcR P cb z S J F) (c3 : z.hp.c < 300) (u2 : z.hp.u + len ≤ 2000) (s25 : s < 25) (hc : ceX P sh cb Fz S F G) (H : mo_at M S J F G h) : gi_T l V y_Mo_makeArray b_Mo_makeArray 5 (some .int) 2 49 0 0 [.ref M, .int (nI len), .int (nI s)] n h (fun v n' h' => v = some (.int (nI (z.hp.c + 1))) ∧ n' = n ∧ mcP M P cb (astZ (hpZ z (hAdd z.hp len s)) (!rwT Fz (480 + s) (nI len) || (decide (0 < nI len) && !rwT Fz (505 + s) 0))) h S J F G h') := by
  refine gi_enter (by decide) (Nat.le_of_ble_eq_true rfl) ?_
  intro _ _ _ _ _ _ _ _ C hr hnm
  obtain ⟨fs, Ha, Hf⟩ := id H.1
  have ho : outM M h h := outM.rf
  obtain ⟨⟨o1, o2, o3⟩, q2, q3, q4, q5⟩ := R.2.1
  have q2 : S 75 = nI z.hp.c := q2
  have q3 : S 76 = nI z.hp.u := q3
  have o1 : z.hp.c ≤ 300 := o1
  refine gi_aload_n (q := 1) (i := 0) C (dm_Mo_makeArray 0 rfl) rfl rfl rfl ?_
  refine gi_get (q := 4) C (dm_Mo_makeArray 1 rfl) rfl fl_Mo_540 Ha (mo_g75 Hf) ?_
  refine gi_sipush (q := 7) (v := 300) C (dm_Mo_makeArray 2 rfl) rfl (by decide) ?_
  refine gi_icmp_eq (q := 10) (tgt := 22) C (dm_Mo_makeArray 3 rfl) rfl (by decide) (fun c7 => ?_) (fun c7 => ?_)
  · rw [q2] at c7; exact absurd c7 (by rw [show (300 : Int32) = nI 300 from rfl]; intro e; have := (nI_ei (by omega) (by decide)).mp e; omega)
  · refine gi_aload_n (q := 11) (i := 0) C (dm_Mo_makeArray 4 rfl) rfl rfl rfl ?_
    refine gi_get (q := 14) C (dm_Mo_makeArray 5 rfl) rfl fl_Mo_543 Ha (mo_g76 Hf) ?_
    refine gi_iload_n (q := 15) (i := 1) C (dm_Mo_makeArray 6 rfl) rfl rfl rfl ?_
    refine gi_iadd (q := 16) C (dm_Mo_makeArray 7 rfl) rfl ?_
    refine gi_sipush (q := 19) (v := 2000) C (dm_Mo_makeArray 8 rfl) rfl (by decide) ?_
    refine gi_icmp_le (q := 22) (tgt := 24) C (dm_Mo_makeArray 9 rfl) rfl (by decide) (fun c19 => ?_) (fun c19 => ?_)
    · refine gi_aload_n (q := 25) (i := 0) C (dm_Mo_makeArray 12 rfl) rfl rfl rfl ?_
      refine gi_get (q := 28) C (dm_Mo_makeArray 13 rfl) rfl fl_Mo_540 Ha (mo_g75 Hf) ?_
      rw [q2]
      refine gi_istore_n (q := 29) (i := 3) C (dm_Mo_makeArray 14 rfl) rfl rfl (Nat.le_of_ble_eq_true rfl) ?_
      refine gi_aload_n (q := 30) (i := 0) C (dm_Mo_makeArray 15 rfl) rfl rfl rfl ?_
      refine gi_dup (q := 31) C (dm_Mo_makeArray 16 rfl) rfl rfl ?_
      refine gi_get (q := 34) C (dm_Mo_makeArray 17 rfl) rfl fl_Mo_540 Ha (mo_g75 Hf) ?_
      rw [q2]
      refine gi_iconst (q := 35) (v := 1) C (dm_Mo_makeArray 18 rfl) rfl (by decide) ?_
      refine gi_iadd (q := 36) C (dm_Mo_makeArray 19 rfl) rfl ?_
      rw [nI_1]
      refine gi_put (q := 39) C (dm_Mo_makeArray 20 rfl) rfl fl_Mo_540 fp_Mo_75 Ha (by rw [Hf.1]; decide) rfl rfl ?_
      refine gi_genM (H.putI Ha Hf (by decide) rfl) (ho.up (by omega) (by omega)) (fun y H ho => ?_)
      obtain ⟨fs, Ha, Hf⟩ := id H.1
      refine gi_aload_n (q := 40) (i := 0) C (dm_Mo_makeArray 21 rfl) rfl rfl rfl ?_
      refine gi_get (q := 43) C (dm_Mo_makeArray 22 rfl) rfl fl_Mo_152 Ha (mo_g72 Hf) ?_
      refine gi_iload_n (q := 44) (i := 3) C (dm_Mo_makeArray 23 rfl) rfl rfl rfl ?_
      refine gi_aload_n (q := 45) (i := 0) C (dm_Mo_makeArray 24 rfl) rfl rfl rfl ?_
      refine gi_get (q := 48) C (dm_Mo_makeArray 25 rfl) rfl fl_Mo_543 Ha (mo_g76 Hf) ?_
      rw [show upS S 75 (nI (z.hp.c + 1)) 76 = nI z.hp.u from q3]
      refine gi_iast (q := 49) C (dm_Mo_makeArray 26 rfl) rfl rfl (mo_a72 H) (inN (show z.hp.c < 301 by omega) (by decide)) ?_
      refine gi_genM (H.setI (p := 44) (k := 72) (by decide) rfl rfl (by decide) rfl (by omega)) (ho.up (by omega) (by omega)) (fun y H ho => ?_)
      obtain ⟨fs, Ha, Hf⟩ := id H.1
      refine gi_aload_n (q := 50) (i := 0) C (dm_Mo_makeArray 27 rfl) rfl rfl rfl ?_
      refine gi_get (q := 53) C (dm_Mo_makeArray 28 rfl) rfl fl_Mo_155 Ha (mo_g73 Hf) ?_
      refine gi_iload_n (q := 54) (i := 3) C (dm_Mo_makeArray 29 rfl) rfl rfl rfl ?_
      refine gi_iload_n (q := 55) (i := 1) C (dm_Mo_makeArray 30 rfl) rfl rfl rfl ?_
      refine gi_iast (q := 56) C (dm_Mo_makeArray 31 rfl) rfl rfl (mo_a73 H) (inN (show z.hp.c < 301 by omega) (by decide)) ?_
      refine gi_genM (H.setI (p := 45) (k := 73) (by decide) rfl rfl (by decide) rfl (by omega)) (ho.up (by omega) (by omega)) (fun y H ho => ?_)
      obtain ⟨fs, Ha, Hf⟩ := id H.1
      refine gi_aload_n (q := 57) (i := 0) C (dm_Mo_makeArray 32 rfl) rfl rfl rfl ?_
      refine gi_get (q := 60) C (dm_Mo_makeArray 33 rfl) rfl fl_Mo_158 Ha (mo_g74 Hf) ?_
      refine gi_iload_n (q := 61) (i := 3) C (dm_Mo_makeArray 34 rfl) rfl rfl rfl ?_
      refine gi_iload_n (q := 62) (i := 2) C (dm_Mo_makeArray 35 rfl) rfl rfl rfl ?_
      refine gi_iast (q := 63) C (dm_Mo_makeArray 36 rfl) rfl rfl (mo_a74 H) (inN (show z.hp.c < 301 by omega) (by decide)) ?_
      refine gi_genM (H.setI (p := 46) (k := 74) (by decide) rfl rfl (by decide) rfl (by omega)) (ho.up (by omega) (by omega)) (fun y H ho => ?_)
      obtain ⟨fs, Ha, Hf⟩ := id H.1
      refine gi_iconst (q := 64) (v := 0) C (dm_Mo_makeArray 37 rfl) rfl (by decide) ?_
      refine gi_istore (q := 66) C (dm_Mo_makeArray 38 rfl) rfl (Nat.le_of_ble_eq_true rfl) ?_
      clear Ha Hf
      rw [nI_clamp (show z.hp.c < 2 ^ 31 by omega)] at H
      simp only [upA_n (show (73 : Nat) ≠ 72 by decide), upA_n (show (74 : Nat) ≠ 73 by decide), upA_n (show (74 : Nat) ≠ 72 by decide)] at H
      have H0 := H
      have ho0 := ho
      clear H ho
      refine gi_while (σ := Nat) (fun j => len - j) (fun j => [(4, .int (nI j)), (3, .int (nI z.hp.c)), (2, .int (nI s)), (1, .int (nI len)), (0, .ref M)]) (fun _ => n) (fun _ => 0) (fun _ => 0) (fun j y' => j ≤ len ∧ ∃ F1, mo_at M (upS S 75 (nI (z.hp.c + 1))) J F1 G y' ∧ outM M h y' ∧ (∀ a, a ≠ 71 → F1 a = (upA (upA (upA F 72 (upd (F 72) z.hp.c (nI z.hp.u))) 73 (upd (F 73) z.hp.c (nI len))) 74 (upd (F 74) z.hp.c (nI s))) a) ∧ ∀ i, F1 71 i = if z.hp.u ≤ i ∧ i < z.hp.u + j then 0 else F 71 i) 0 ⟨Nat.zero_le _, _, H0, ho0, fun _ _ => rfl, fun i => by rw [upA_n (by decide), upA_n (by decide), upA_n (by decide), if_neg (by omega)]⟩ ?_ (List.forall_mem_cons.mpr ⟨(by first | rfl | (simp [gi_look]; done)), List.forall_mem_cons.mpr ⟨(by first | rfl | (simp [gi_look]; done)), List.forall_mem_cons.mpr ⟨(by first | rfl | (simp [gi_look]; done)), List.forall_mem_cons.mpr ⟨(by first | rfl | (simp [gi_look]; done)), List.forall_mem_cons.mpr ⟨(by first | rfl | (simp [gi_look]; done)), fun _ h => absurd h List.not_mem_nil⟩⟩⟩⟩⟩) rfl rfl rfl
      rintro j y' ⟨hj, F1, H9, ho9, e9, f9⟩ ihj
      try dsimp only at *
      have H := H9
      have ho := ho9
      obtain ⟨fs, Ha, Hf⟩ := id H.1
      refine gi_iload (q := 68) C (dm_Mo_makeArray 39 rfl) rfl rfl ?_
      refine gi_iload_n (q := 69) (i := 1) C (dm_Mo_makeArray 40 rfl) rfl rfl rfl ?_
      refine gi_icmp_ge (q := 72) (tgt := 91) C (dm_Mo_makeArray 41 rfl) rfl (by decide) (fun c69 => ?_) (fun c69 => ?_)
      · have jl : j = len := by
          rcases Nat.lt_or_ge j (len) with q | q
          · exact absurd c69 (Int32.not_le.mpr (nI_lt (b := len) q (by omega)))
          · omega
        subst jl
        have H := H9
        have ho := ho9
        obtain ⟨fs, Ha, Hf⟩ := id H.1
        have hc1 : ceX P sh cb Fz (upS S 75 (nI (z.hp.c + 1))) F1 G := hc.of (fun a ha => by rw [e9 a (by omega), upA_n (by omega), upA_n (by omega), upA_n (by omega)]) rfl
        refine gi_aload_n (q := 92) (i := 0) C (dm_Mo_makeArray 52 rfl) rfl rfl rfl ?_
        refine gi_dup (q := 93) C (dm_Mo_makeArray 53 rfl) rfl rfl ?_
        refine gi_get (q := 96) C (dm_Mo_makeArray 54 rfl) rfl fl_Mo_543 Ha (mo_g76 Hf) ?_
        rw [show upS S 75 (nI (z.hp.c + 1)) 76 = nI z.hp.u from q3]
        refine gi_iload_n (q := 97) (i := 1) C (dm_Mo_makeArray 55 rfl) rfl rfl rfl ?_
        refine gi_iadd (q := 98) C (dm_Mo_makeArray 56 rfl) rfl ?_
        rw [nI_add]
        refine gi_put (q := 101) C (dm_Mo_makeArray 57 rfl) rfl fl_Mo_543 fp_Mo_76 Ha (by rw [Hf.1]; decide) rfl rfl ?_
        refine gi_genM (H.putI Ha Hf (by decide) rfl) (ho.up (by omega) (by omega)) (fun y H ho => ?_)
        obtain ⟨fs, Ha, Hf⟩ := id H.1
        refine gi_aload_n (q := 102) (i := 0) C (dm_Mo_makeArray 58 rfl) rfl rfl rfl ?_
        refine gi_aload_n (q := 103) (i := 0) C (dm_Mo_makeArray 59 rfl) rfl rfl rfl ?_
        refine gi_get (q := 106) C (dm_Mo_makeArray 60 rfl) rfl fl_Mo_546 Ha (mo_g88 Hf) ?_
        rw [show upS (upS S 75 (nI (z.hp.c + 1))) 76 (nI (z.hp.u + j)) 88 = S 88 from rfl]
        refine gi_if_ne (q := 109) (tgt := 141) C (dm_Mo_makeArray 61 rfl) rfl (by decide) (fun c106 => ?_) (fun c106 => ?_)
        · refine gi_iconst (q := 142) (v := 1) C (dm_Mo_makeArray 79 rfl) rfl (by decide) ?_
          refine gi_goto (tgt := 146) C (dm_Mo_makeArray 80 rfl) (by decide) ?_
          refine gi_put (q := 149) C (dm_Mo_makeArray 82 rfl) rfl fl_Mo_546 fp_Mo_88 Ha (by rw [Hf.1]; decide) rfl rfl ?_
          refine gi_genM (H.putI Ha Hf (by decide) rfl) (ho.up (by omega) (by omega)) (fun y H ho => ?_)
          obtain ⟨fs, Ha, Hf⟩ := id H.1
          refine gi_iload_n (q := 150) (i := 3) C (dm_Mo_makeArray 83 rfl) rfl rfl rfl ?_
          refine gi_iconst (q := 151) (v := 1) C (dm_Mo_makeArray 84 rfl) rfl (by decide) ?_
          refine gi_iadd (q := 152) C (dm_Mo_makeArray 85 rfl) rfl ?_
          refine gi_iret C hr (dm_Mo_makeArray 86 rfl) ?_
          rw [nI_1]
          refine ⟨rfl, rfl, _, J, F1, H, ho, ⟨fun a ha => ?_, fun _ _ => rfl, fun a ha => ?_⟩, ?_⟩
          · show upS (upS (upS S 75 _) 76 _) 88 _ a = S a
            unfold upS
            rw [if_neg (by omega), if_neg (by omega), if_neg (by omega)]
          · rw [e9 a (by omega), upA_n (by omega), upA_n (by omega), upA_n (by omega)]
          · refine R.mk c3 u2 s25 rfl rfl (fun a h1 h2 h3 => ?_) ⟨fun cq => ?_, fun cq => ?_⟩ (fun a ha => by rw [e9 a (by omega), upA_n (by omega), upA_n (by omega), upA_n (by omega)]) (fun i => by rw [e9 72 (by decide), upA_n (by decide), upA_n (by decide), upA_i, upd_is]) (fun i => by rw [e9 73 (by decide), upA_n (by decide), upA_i, upd_is]) (fun i => by rw [e9 74 (by decide), upA_i, upd_is]) f9
            · show upS (upS (upS S 75 _) 76 _) 88 _ a = S a
              unfold upS
              rw [if_neg h3, if_neg h2, if_neg h1]
            · have r9 := R.2.2.2.2.2.2.2.2.1 cq
              first
                | (have a1 : z.as = true := bI_t (by rw [← r9]; exact c106)
                   rw [a1]
                   rfl)
                | (have a1 : z.as = false := bI_fa (by rw [← r9]; exact c106)
                   rw [a1, Bool.false_or, bI_fa c122]
                   rfl)
                | (have a1 : z.as = false := bI_fa (by rw [← r9]; exact c106)
                   rw [a1, Bool.false_or, bI_t c122, decide_eq_false (Int32.not_lt.mpr c126)]
                   rfl)
                | (have a1 : z.as = false := bI_fa (by rw [← r9]; exact c106)
                   rw [a1, Bool.false_or, bI_t c122, decide_eq_true (Int32.not_le.mp c126), bI_fa c138]
                   rfl)
                | (have a1 : z.as = false := bI_fa (by rw [← r9]; exact c106)
                   rw [a1, Bool.false_or, bI_t c122, decide_eq_true (Int32.not_le.mp c126), bI_t c138]
                   rfl)
                | (exfalso; rw [hc.1, cq] at c113; exact absurd c113 (by decide))
            · first
                | rfl
                | (exfalso; exact c106 (R.2.2.2.2.2.2.2.2.2.1 cq))
                | cases cq
        · refine gi_aload_n (q := 110) (i := 0) C (dm_Mo_makeArray 62 rfl) rfl rfl rfl ?_
          refine gi_get (q := 113) C (dm_Mo_makeArray 63 rfl) rfl fl_Mo_183 Ha (mo_g9 Hf) ?_
          rw [show upS (upS S 75 (nI (z.hp.c + 1))) 76 (nI (z.hp.u + j)) 9 = S 9 from rfl]
          refine gi_if_eq (q := 116) (tgt := 145) C (dm_Mo_makeArray 64 rfl) rfl (by decide) (fun c113 => ?_) (fun c113 => ?_)
          · refine gi_iconst (q := 146) (v := 0) C (dm_Mo_makeArray 81 rfl) rfl (by decide) ?_
            refine gi_put (q := 149) C (dm_Mo_makeArray 82 rfl) rfl fl_Mo_546 fp_Mo_88 Ha (by rw [Hf.1]; decide) rfl rfl ?_
            refine gi_genM (H.putI Ha Hf (by decide) rfl) (ho.up (by omega) (by omega)) (fun y H ho => ?_)
            obtain ⟨fs, Ha, Hf⟩ := id H.1
            refine gi_iload_n (q := 150) (i := 3) C (dm_Mo_makeArray 83 rfl) rfl rfl rfl ?_
            refine gi_iconst (q := 151) (v := 1) C (dm_Mo_makeArray 84 rfl) rfl (by decide) ?_
            refine gi_iadd (q := 152) C (dm_Mo_makeArray 85 rfl) rfl ?_
            refine gi_iret C hr (dm_Mo_makeArray 86 rfl) ?_
            rw [nI_1]
            refine ⟨rfl, rfl, _, J, F1, H, ho, ⟨fun a ha => ?_, fun _ _ => rfl, fun a ha => ?_⟩, ?_⟩
            · show upS (upS (upS S 75 _) 76 _) 88 _ a = S a
              unfold upS
              rw [if_neg (by omega), if_neg (by omega), if_neg (by omega)]
            · rw [e9 a (by omega), upA_n (by omega), upA_n (by omega), upA_n (by omega)]
            · refine R.mk c3 u2 s25 rfl rfl (fun a h1 h2 h3 => ?_) ⟨fun cq => ?_, fun cq => ?_⟩ (fun a ha => by rw [e9 a (by omega), upA_n (by omega), upA_n (by omega), upA_n (by omega)]) (fun i => by rw [e9 72 (by decide), upA_n (by decide), upA_n (by decide), upA_i, upd_is]) (fun i => by rw [e9 73 (by decide), upA_n (by decide), upA_i, upd_is]) (fun i => by rw [e9 74 (by decide), upA_i, upd_is]) f9
              · show upS (upS (upS S 75 _) 76 _) 88 _ a = S a
                unfold upS
                rw [if_neg h3, if_neg h2, if_neg h1]
              · have r9 := R.2.2.2.2.2.2.2.2.1 cq
                first
                  | (have a1 : z.as = true := bI_t (by rw [← r9]; exact c106)
                     rw [a1]
                     rfl)
                  | (have a1 : z.as = false := bI_fa (by rw [← r9]; exact c106)
                     rw [a1, Bool.false_or, bI_fa c122]
                     rfl)
                  | (have a1 : z.as = false := bI_fa (by rw [← r9]; exact c106)
                     rw [a1, Bool.false_or, bI_t c122, decide_eq_false (Int32.not_lt.mpr c126)]
                     rfl)
                  | (have a1 : z.as = false := bI_fa (by rw [← r9]; exact c106)
                     rw [a1, Bool.false_or, bI_t c122, decide_eq_true (Int32.not_le.mp c126), bI_fa c138]
                     rfl)
                  | (have a1 : z.as = false := bI_fa (by rw [← r9]; exact c106)
                     rw [a1, Bool.false_or, bI_t c122, decide_eq_true (Int32.not_le.mp c126), bI_t c138]
                     rfl)
                  | (exfalso; rw [hc.1, cq] at c113; exact absurd c113 (by decide))
              · first
                  | rfl
                  | (exfalso; exact c106 (R.2.2.2.2.2.2.2.2.2.1 cq))
                  | cases cq
          · have cbt : cb = true := by
              cases cb with
              | true => rfl
              | false => exact absurd hc.1 c113
            subst cbt
            have cf := hc1.2 rfl
            refine gi_aload_n (q := 117) (i := 0) C (dm_Mo_makeArray 65 rfl) rfl rfl rfl ?_
            refine gi_iload_n (q := 118) (i := 2) C (dm_Mo_makeArray 66 rfl) rfl rfl rfl ?_
            refine gi_iload_n (q := 119) (i := 1) C (dm_Mo_makeArray 67 rfl) rfl rfl rfl ?_
            refine gi_callv 2 (q := 122) C (dm_Mo_makeArray 68 rfl) rfl my_Mo_isToldBy lk_Mo_549 im_Mo_isToldBy rfl (c_Mo_isToldX (t := 480 + s) (nI j) (by omega) (by omega) (tix_l s25) cf H) Ha rfl rfl ⟨(Nat.le_of_ble_eq_true rfl), (Nat.le_of_ble_eq_true rfl)⟩ (Nat.le_of_ble_eq_true rfl) ⟨(Nat.le_of_ble_eq_true rfl), (Nat.le_of_ble_eq_true rfl)⟩ (fun r119 n119 h119 e119 => ?_)
            obtain ⟨rfl, q119, u119⟩ := e119
            rw [q119, u119]
            refine gi_if_eq (q := 125) (tgt := 141) C (dm_Mo_makeArray 69 rfl) rfl (by decide) (fun c122 => ?_) (fun c122 => ?_)
            · refine gi_iconst (q := 142) (v := 1) C (dm_Mo_makeArray 79 rfl) rfl (by decide) ?_
              refine gi_goto (tgt := 146) C (dm_Mo_makeArray 80 rfl) (by decide) ?_
              refine gi_put (q := 149) C (dm_Mo_makeArray 82 rfl) rfl fl_Mo_546 fp_Mo_88 Ha (by rw [Hf.1]; decide) rfl rfl ?_
              refine gi_genM (H.putI Ha Hf (by decide) rfl) (ho.up (by omega) (by omega)) (fun y H ho => ?_)
              obtain ⟨fs, Ha, Hf⟩ := id H.1
              refine gi_iload_n (q := 150) (i := 3) C (dm_Mo_makeArray 83 rfl) rfl rfl rfl ?_
              refine gi_iconst (q := 151) (v := 1) C (dm_Mo_makeArray 84 rfl) rfl (by decide) ?_
              refine gi_iadd (q := 152) C (dm_Mo_makeArray 85 rfl) rfl ?_
              refine gi_iret C hr (dm_Mo_makeArray 86 rfl) ?_
              rw [nI_1]
              refine ⟨rfl, rfl, _, J, F1, H, ho, ⟨fun a ha => ?_, fun _ _ => rfl, fun a ha => ?_⟩, ?_⟩
              · show upS (upS (upS S 75 _) 76 _) 88 _ a = S a
                unfold upS
                rw [if_neg (by omega), if_neg (by omega), if_neg (by omega)]
              · rw [e9 a (by omega), upA_n (by omega), upA_n (by omega), upA_n (by omega)]
              · refine R.mk c3 u2 s25 rfl rfl (fun a h1 h2 h3 => ?_) ⟨fun cq => ?_, fun cq => ?_⟩ (fun a ha => by rw [e9 a (by omega), upA_n (by omega), upA_n (by omega), upA_n (by omega)]) (fun i => by rw [e9 72 (by decide), upA_n (by decide), upA_n (by decide), upA_i, upd_is]) (fun i => by rw [e9 73 (by decide), upA_n (by decide), upA_i, upd_is]) (fun i => by rw [e9 74 (by decide), upA_i, upd_is]) f9
                · show upS (upS (upS S 75 _) 76 _) 88 _ a = S a
                  unfold upS
                  rw [if_neg h3, if_neg h2, if_neg h1]
                · have r9 := R.2.2.2.2.2.2.2.2.1 cq
                  first
                    | (have a1 : z.as = true := bI_t (by rw [← r9]; exact c106)
                       rw [a1]
                       rfl)
                    | (have a1 : z.as = false := bI_fa (by rw [← r9]; exact c106)
                       rw [a1, Bool.false_or, bI_fa c122]
                       rfl)
                    | (have a1 : z.as = false := bI_fa (by rw [← r9]; exact c106)
                       rw [a1, Bool.false_or, bI_t c122, decide_eq_false (Int32.not_lt.mpr c126)]
                       rfl)
                    | (have a1 : z.as = false := bI_fa (by rw [← r9]; exact c106)
                       rw [a1, Bool.false_or, bI_t c122, decide_eq_true (Int32.not_le.mp c126), bI_fa c138]
                       rfl)
                    | (have a1 : z.as = false := bI_fa (by rw [← r9]; exact c106)
                       rw [a1, Bool.false_or, bI_t c122, decide_eq_true (Int32.not_le.mp c126), bI_t c138]
                       rfl)
                    | (exfalso; rw [hc.1, cq] at c113; exact absurd c113 (by decide))
                · first
                    | rfl
                    | (exfalso; exact c106 (R.2.2.2.2.2.2.2.2.2.1 cq))
                    | cases cq
            · refine gi_iload_n (q := 126) (i := 1) C (dm_Mo_makeArray 70 rfl) rfl rfl rfl ?_
              refine gi_if_le (q := 129) (tgt := 145) C (dm_Mo_makeArray 71 rfl) rfl (by decide) (fun c126 => ?_) (fun c126 => ?_)
              · refine gi_iconst (q := 146) (v := 0) C (dm_Mo_makeArray 81 rfl) rfl (by decide) ?_
                refine gi_put (q := 149) C (dm_Mo_makeArray 82 rfl) rfl fl_Mo_546 fp_Mo_88 Ha (by rw [Hf.1]; decide) rfl rfl ?_
                refine gi_genM (H.putI Ha Hf (by decide) rfl) (ho.up (by omega) (by omega)) (fun y H ho => ?_)
                obtain ⟨fs, Ha, Hf⟩ := id H.1
                refine gi_iload_n (q := 150) (i := 3) C (dm_Mo_makeArray 83 rfl) rfl rfl rfl ?_
                refine gi_iconst (q := 151) (v := 1) C (dm_Mo_makeArray 84 rfl) rfl (by decide) ?_
                refine gi_iadd (q := 152) C (dm_Mo_makeArray 85 rfl) rfl ?_
                refine gi_iret C hr (dm_Mo_makeArray 86 rfl) ?_
                rw [nI_1]
                refine ⟨rfl, rfl, _, J, F1, H, ho, ⟨fun a ha => ?_, fun _ _ => rfl, fun a ha => ?_⟩, ?_⟩
                · show upS (upS (upS S 75 _) 76 _) 88 _ a = S a
                  unfold upS
                  rw [if_neg (by omega), if_neg (by omega), if_neg (by omega)]
                · rw [e9 a (by omega), upA_n (by omega), upA_n (by omega), upA_n (by omega)]
                · refine R.mk c3 u2 s25 rfl rfl (fun a h1 h2 h3 => ?_) ⟨fun cq => ?_, fun cq => ?_⟩ (fun a ha => by rw [e9 a (by omega), upA_n (by omega), upA_n (by omega), upA_n (by omega)]) (fun i => by rw [e9 72 (by decide), upA_n (by decide), upA_n (by decide), upA_i, upd_is]) (fun i => by rw [e9 73 (by decide), upA_n (by decide), upA_i, upd_is]) (fun i => by rw [e9 74 (by decide), upA_i, upd_is]) f9
                  · show upS (upS (upS S 75 _) 76 _) 88 _ a = S a
                    unfold upS
                    rw [if_neg h3, if_neg h2, if_neg h1]
                  · have r9 := R.2.2.2.2.2.2.2.2.1 cq
                    first
                      | (have a1 : z.as = true := bI_t (by rw [← r9]; exact c106)
                         rw [a1]
                         rfl)
                      | (have a1 : z.as = false := bI_fa (by rw [← r9]; exact c106)
                         rw [a1, Bool.false_or, bI_fa c122]
                         rfl)
                      | (have a1 : z.as = false := bI_fa (by rw [← r9]; exact c106)
                         rw [a1, Bool.false_or, bI_t c122, decide_eq_false (Int32.not_lt.mpr c126)]
                         rfl)
                      | (have a1 : z.as = false := bI_fa (by rw [← r9]; exact c106)
                         rw [a1, Bool.false_or, bI_t c122, decide_eq_true (Int32.not_le.mp c126), bI_fa c138]
                         rfl)
                      | (have a1 : z.as = false := bI_fa (by rw [← r9]; exact c106)
                         rw [a1, Bool.false_or, bI_t c122, decide_eq_true (Int32.not_le.mp c126), bI_t c138]
                         rfl)
                      | (exfalso; rw [hc.1, cq] at c113; exact absurd c113 (by decide))
                  · first
                      | rfl
                      | (exfalso; exact c106 (R.2.2.2.2.2.2.2.2.2.1 cq))
                      | cases cq
              · refine gi_aload_n (q := 130) (i := 0) C (dm_Mo_makeArray 72 rfl) rfl rfl rfl ?_
                refine gi_bipush (q := 132) (v := 32) C (dm_Mo_makeArray 73 rfl) rfl (by decide) ?_
                refine gi_iload_n (q := 133) (i := 2) C (dm_Mo_makeArray 74 rfl) rfl rfl rfl ?_
                refine gi_iadd (q := 134) C (dm_Mo_makeArray 75 rfl) rfl ?_
                rw [show (32 : Int32) = nI 32 from rfl, nI_add]
                refine gi_iconst (q := 135) (v := 0) C (dm_Mo_makeArray 76 rfl) rfl (by decide) ?_
                refine gi_callv 2 (q := 138) C (dm_Mo_makeArray 77 rfl) rfl my_Mo_isToldBy lk_Mo_549 im_Mo_isToldBy rfl (c_Mo_isToldX (t := 505 + s) 0 (by omega) (by omega) (tix_e s25) cf H) Ha rfl rfl ⟨(Nat.le_of_ble_eq_true rfl), (Nat.le_of_ble_eq_true rfl)⟩ (Nat.le_of_ble_eq_true rfl) ⟨(Nat.le_of_ble_eq_true rfl), (Nat.le_of_ble_eq_true rfl)⟩ (fun r135 n135 h135 e135 => ?_)
                obtain ⟨rfl, q135, u135⟩ := e135
                rw [q135, u135]
                refine gi_if_ne (q := 141) (tgt := 145) C (dm_Mo_makeArray 78 rfl) rfl (by decide) (fun c138 => ?_) (fun c138 => ?_)
                · refine gi_iconst (q := 146) (v := 0) C (dm_Mo_makeArray 81 rfl) rfl (by decide) ?_
                  refine gi_put (q := 149) C (dm_Mo_makeArray 82 rfl) rfl fl_Mo_546 fp_Mo_88 Ha (by rw [Hf.1]; decide) rfl rfl ?_
                  refine gi_genM (H.putI Ha Hf (by decide) rfl) (ho.up (by omega) (by omega)) (fun y H ho => ?_)
                  obtain ⟨fs, Ha, Hf⟩ := id H.1
                  refine gi_iload_n (q := 150) (i := 3) C (dm_Mo_makeArray 83 rfl) rfl rfl rfl ?_
                  refine gi_iconst (q := 151) (v := 1) C (dm_Mo_makeArray 84 rfl) rfl (by decide) ?_
                  refine gi_iadd (q := 152) C (dm_Mo_makeArray 85 rfl) rfl ?_
                  refine gi_iret C hr (dm_Mo_makeArray 86 rfl) ?_
                  rw [nI_1]
                  refine ⟨rfl, rfl, _, J, F1, H, ho, ⟨fun a ha => ?_, fun _ _ => rfl, fun a ha => ?_⟩, ?_⟩
                  · show upS (upS (upS S 75 _) 76 _) 88 _ a = S a
                    unfold upS
                    rw [if_neg (by omega), if_neg (by omega), if_neg (by omega)]
                  · rw [e9 a (by omega), upA_n (by omega), upA_n (by omega), upA_n (by omega)]
                  · refine R.mk c3 u2 s25 rfl rfl (fun a h1 h2 h3 => ?_) ⟨fun cq => ?_, fun cq => ?_⟩ (fun a ha => by rw [e9 a (by omega), upA_n (by omega), upA_n (by omega), upA_n (by omega)]) (fun i => by rw [e9 72 (by decide), upA_n (by decide), upA_n (by decide), upA_i, upd_is]) (fun i => by rw [e9 73 (by decide), upA_n (by decide), upA_i, upd_is]) (fun i => by rw [e9 74 (by decide), upA_i, upd_is]) f9
                    · show upS (upS (upS S 75 _) 76 _) 88 _ a = S a
                      unfold upS
                      rw [if_neg h3, if_neg h2, if_neg h1]
                    · have r9 := R.2.2.2.2.2.2.2.2.1 cq
                      first
                        | (have a1 : z.as = true := bI_t (by rw [← r9]; exact c106)
                           rw [a1]
                           rfl)
                        | (have a1 : z.as = false := bI_fa (by rw [← r9]; exact c106)
                           rw [a1, Bool.false_or, bI_fa c122]
                           rfl)
                        | (have a1 : z.as = false := bI_fa (by rw [← r9]; exact c106)
                           rw [a1, Bool.false_or, bI_t c122, decide_eq_false (Int32.not_lt.mpr c126)]
                           rfl)
                        | (have a1 : z.as = false := bI_fa (by rw [← r9]; exact c106)
                           rw [a1, Bool.false_or, bI_t c122, decide_eq_true (Int32.not_le.mp c126), bI_fa c138]
                           rfl)
                        | (have a1 : z.as = false := bI_fa (by rw [← r9]; exact c106)
                           rw [a1, Bool.false_or, bI_t c122, decide_eq_true (Int32.not_le.mp c126), bI_t c138]
                           rfl)
                        | (exfalso; rw [hc.1, cq] at c113; exact absurd c113 (by decide))
                    · first
                        | rfl
                        | (exfalso; exact c106 (R.2.2.2.2.2.2.2.2.2.1 cq))
                        | cases cq
                · refine gi_iconst (q := 142) (v := 1) C (dm_Mo_makeArray 79 rfl) rfl (by decide) ?_
                  refine gi_goto (tgt := 146) C (dm_Mo_makeArray 80 rfl) (by decide) ?_
                  refine gi_put (q := 149) C (dm_Mo_makeArray 82 rfl) rfl fl_Mo_546 fp_Mo_88 Ha (by rw [Hf.1]; decide) rfl rfl ?_
                  refine gi_genM (H.putI Ha Hf (by decide) rfl) (ho.up (by omega) (by omega)) (fun y H ho => ?_)
                  obtain ⟨fs, Ha, Hf⟩ := id H.1
                  refine gi_iload_n (q := 150) (i := 3) C (dm_Mo_makeArray 83 rfl) rfl rfl rfl ?_
                  refine gi_iconst (q := 151) (v := 1) C (dm_Mo_makeArray 84 rfl) rfl (by decide) ?_
                  refine gi_iadd (q := 152) C (dm_Mo_makeArray 85 rfl) rfl ?_
                  refine gi_iret C hr (dm_Mo_makeArray 86 rfl) ?_
                  rw [nI_1]
                  refine ⟨rfl, rfl, _, J, F1, H, ho, ⟨fun a ha => ?_, fun _ _ => rfl, fun a ha => ?_⟩, ?_⟩
                  · show upS (upS (upS S 75 _) 76 _) 88 _ a = S a
                    unfold upS
                    rw [if_neg (by omega), if_neg (by omega), if_neg (by omega)]
                  · rw [e9 a (by omega), upA_n (by omega), upA_n (by omega), upA_n (by omega)]
                  · refine R.mk c3 u2 s25 rfl rfl (fun a h1 h2 h3 => ?_) ⟨fun cq => ?_, fun cq => ?_⟩ (fun a ha => by rw [e9 a (by omega), upA_n (by omega), upA_n (by omega), upA_n (by omega)]) (fun i => by rw [e9 72 (by decide), upA_n (by decide), upA_n (by decide), upA_i, upd_is]) (fun i => by rw [e9 73 (by decide), upA_n (by decide), upA_i, upd_is]) (fun i => by rw [e9 74 (by decide), upA_i, upd_is]) f9
                    · show upS (upS (upS S 75 _) 76 _) 88 _ a = S a
                      unfold upS
                      rw [if_neg h3, if_neg h2, if_neg h1]
                    · have r9 := R.2.2.2.2.2.2.2.2.1 cq
                      first
                        | (have a1 : z.as = true := bI_t (by rw [← r9]; exact c106)
                           rw [a1]
                           rfl)
                        | (have a1 : z.as = false := bI_fa (by rw [← r9]; exact c106)
                           rw [a1, Bool.false_or, bI_fa c122]
                           rfl)
                        | (have a1 : z.as = false := bI_fa (by rw [← r9]; exact c106)
                           rw [a1, Bool.false_or, bI_t c122, decide_eq_false (Int32.not_lt.mpr c126)]
                           rfl)
                        | (have a1 : z.as = false := bI_fa (by rw [← r9]; exact c106)
                           rw [a1, Bool.false_or, bI_t c122, decide_eq_true (Int32.not_le.mp c126), bI_fa c138]
                           rfl)
                        | (have a1 : z.as = false := bI_fa (by rw [← r9]; exact c106)
                           rw [a1, Bool.false_or, bI_t c122, decide_eq_true (Int32.not_le.mp c126), bI_t c138]
                           rfl)
                        | (exfalso; rw [hc.1, cq] at c113; exact absurd c113 (by decide))
                    · first
                        | rfl
                        | (exfalso; exact c106 (R.2.2.2.2.2.2.2.2.2.1 cq))
                        | cases cq
      · have jl : j < len := by
          rcases Nat.lt_or_ge j (len) with q | q
          · exact q
          · exact absurd (nI_le (a := len) q (by omega)) c69
        refine gi_aload_n (q := 73) (i := 0) C (dm_Mo_makeArray 42 rfl) rfl rfl rfl ?_
        refine gi_get (q := 76) C (dm_Mo_makeArray 43 rfl) rfl fl_Mo_149 Ha (mo_g71 Hf) ?_
        refine gi_aload_n (q := 77) (i := 0) C (dm_Mo_makeArray 44 rfl) rfl rfl rfl ?_
        refine gi_get (q := 80) C (dm_Mo_makeArray 45 rfl) rfl fl_Mo_543 Ha (mo_g76 Hf) ?_
        rw [show upS S 75 (nI (z.hp.c + 1)) 76 = nI z.hp.u from q3]
        refine gi_iload (q := 82) C (dm_Mo_makeArray 46 rfl) rfl rfl ?_
        refine gi_iadd (q := 83) C (dm_Mo_makeArray 47 rfl) rfl ?_
        rw [nI_add]
        refine gi_iconst (q := 84) (v := 0) C (dm_Mo_makeArray 48 rfl) rfl (by decide) ?_
        refine gi_iast (q := 85) C (dm_Mo_makeArray 49 rfl) rfl rfl (mo_a71 H) (inN (show z.hp.u + j < 2000 by omega) (by decide)) ?_
        refine gi_genM (H.setI (p := 43) (k := 71) (by decide) rfl rfl (by decide) rfl (by omega)) (ho.up (by omega) (by omega)) (fun y H ho => ?_)
        obtain ⟨fs, Ha, Hf⟩ := id H.1
        rw [nI_clamp (show z.hp.u + j < 2 ^ 31 by omega)] at H
        refine gi_iinc (q := 88) (v := 1) C (dm_Mo_makeArray 50 rfl) rfl rfl (by decide) (Nat.le_of_ble_eq_true rfl) ?_
        refine gi_goto (tgt := 66) C (dm_Mo_makeArray 51 rfl) (by decide) ?_
        refine gi_close (ihj (j + 1) _ ⟨jl, _, H, ho, fun a ha => by rw [upA_n ha]; exact e9 a ha, fun i => by
            rw [upA_i, upd_is]
            by_cases q : i = z.hp.u + j
            · rw [if_pos q, if_pos (by omega)]
            · rw [if_neg q, f9]
              by_cases q2 : z.hp.u ≤ i ∧ i < z.hp.u + j
              · rw [if_pos q2, if_pos (by omega)]
              · rw [if_neg q2, if_neg (by omega)]⟩ (by omega)) (List.forall_mem_cons.mpr ⟨(by first | rfl | (simp [gi_look, nI_1]; done)), List.forall_mem_cons.mpr ⟨(by first | rfl | (simp [gi_look, nI_1]; done)), List.forall_mem_cons.mpr ⟨(by first | rfl | (simp [gi_look, nI_1]; done)), List.forall_mem_cons.mpr ⟨(by first | rfl | (simp [gi_look, nI_1]; done)), List.forall_mem_cons.mpr ⟨(by first | rfl | (simp [gi_look, nI_1]; done)), fun _ h => absurd h List.not_mem_nil⟩⟩⟩⟩⟩) rfl rfl rfl
    · exact absurd (by rw [q3, nI_add]; exact nI_le (b := 2000) (by omega) (by decide)) c19
end RM2
