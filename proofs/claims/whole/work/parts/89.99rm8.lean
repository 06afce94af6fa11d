-- needs: 89.99rm7
section RM8
variable {l : Launch} {V : gi_V} {n : Nat} {h h' : gi_H} {M k : Nat} {P : Pm} {sh : Nat → Option Sh} {S S' : Nat → Int32} {J J' : Nat → Int64} {F F' : Nat → Nat → Int32} {G : Nat → Nat → Int64} {Fz : Fa} {cb : Bool} {z : Mc} {sn : Nat → Nat} {c m : Nat} {Ga : Nat → Nat → Int32}
theorem ite_p {p : Mc × Int32 → Prop} {c : Prop} [Decidable c] {a b : Mc × Int32} (ha : p a) (hb : p b) : p (if c then a else b) := by split <;> assumption
/-- how an operation ends: it goes on, it returned, or something was wrong -/
def endK (w0 : Int32) (r : Mc × Int32) : Prop := (r.2 = 0 ∧ r.1.wr = w0) ∨ (r.2 = 1 ∧ r.1.wr = w0) ∨ (r.2 = 2 ∧ r.1.wr ≠ 0)
theorem prf_K : endK z.wr (prfZ P sn Fz z) := by
  unfold prfZ
  apply ite_p (p := endK z.wr)
  · unfold leaZ
    repeat' apply ite_p (p := endK z.wr)
    · exact .inr (.inl ⟨rfl, rfl⟩)
    · exact .inl ⟨rfl, rfl⟩
    · exact .inr (.inl ⟨rfl, rfl⟩)
    · exact .inl ⟨rfl, rfl⟩
  · unfold prfA rckZ makZ useZ entZ
    repeat' apply ite_p (p := endK z.wr)
    all_goals first
      | exact .inl ⟨rfl, rfl⟩
      | exact .inr (.inr ⟨rfl, show (1 : Int32) ≠ 0 by decide⟩)
      | exact .inr (.inr ⟨rfl, show (2 : Int32) ≠ 0 by decide⟩)
      | exact .inr (.inr ⟨rfl, show (3 : Int32) ≠ 0 by decide⟩)
      | exact .inr (.inr ⟨rfl, show (4 : Int32) ≠ 0 by decide⟩)
      | exact .inr (.inr ⟨rfl, show (5 : Int32) ≠ 0 by decide⟩)
      | exact .inr (.inr ⟨rfl, show (6 : Int32) ≠ 0 by decide⟩)
      | (refine .inl ⟨rfl, ?_⟩
         show (movZ _ _ _).wr = z.wr
         unfold movZ
         repeat' split
         all_goals rfl)
      | (refine .inl ⟨rfl, ?_⟩
         show (jmpZ _ _ _).wr = z.wr
         unfold jmpZ
         repeat' split
         all_goals rfl)
      | (refine .inl ⟨rfl, ?_⟩
         show (fldZ _ _ _ _).wr = z.wr
         unfold fldZ
         split <;> rfl)
def frRn (S S' : Nat → Int32) (J J' : Nat → Int64) (F F' : Nat → Nat → Int32) : Prop := (∀ j, j < 75 → S' j = S j) ∧ (∀ j, j ≠ 86 → J' j = J j) ∧ ∀ j, j < 71 → F' j = F j
theorem frM.R (f : frM S S' J J' F F') : frRn S S' J J' F F' := ⟨fun j h => f.1 j (.inl h), f.2.1, f.2.2⟩
theorem frRn.tr {S2 : Nat → Int32} {J2 : Nat → Int64} {F2 : Nat → Nat → Int32} (a : frRn S S' J J' F F') (b : frRn S' S2 J' J2 F' F2) : frRn S S2 J J2 F F2 := ⟨fun j h => (b.1 j h).trans (a.1 j h), fun j h => (b.2.1 j h).trans (a.2.1 j h), fun j h => (b.2.2 j h).trans (a.2.2 j h)⟩
theorem frRn.s (h : ∀ j, j < 75 → S' j = S j) : frRn S S' J J F F := ⟨h, fun _ _ => rfl, fun _ _ => rfl⟩
def enR (y : Lz) (S : Nat → Int32) (J : Nat → Int64) (F : Nat → Nat → Int32) : Prop := edR y.1 S J F ∧ S 83 = nI y.2.1 ∧ S 84 = nI (60 * y.2.2.1 + y.2.2.2.1) ∧ S 87 = y.2.2.2.2.1
def rnP (M : Nat) (R : Lz × Int32) (h : gi_H) (S : Nat → Int32) (J : Nat → Int64) (F : Nat → Nat → Int32) (G : Nat → Nat → Int64) (h' : gi_H) : Prop := ∃ S' J' F', mo_at M S' J' F' G h' ∧ outM M h h' ∧ frRn S S' J J' F F' ∧ enR R.1 S' J' F'
theorem mcR.sc (R : mcR P cb z S J F) (e : ∀ j, j ≠ 83 → j ≠ 84 → j ≠ 87 → S' j = S j) : mcR P cb z S' J F := by
  obtain ⟨r1, ⟨q1, q2, q3, q4, q5⟩, r3, r4, r5, r6, r7, r8, r9, r9', r10⟩ := R
  exact ⟨r1, ⟨q1, (e 75 (by decide) (by decide) (by decide)).trans q2, (e 76 (by decide) (by decide) (by decide)).trans q3, q4, q5⟩, r3, (e 81 (by decide) (by decide) (by decide)).trans r4, (e 82 (by decide) (by decide) (by decide)).trans r5, (e 85 (by decide) (by decide) (by decide)).trans r6, r7, r8, fun c => (e 88 (by decide) (by decide) (by decide)).trans (r9 c), fun c => (e 88 (by decide) (by decide) (by decide)).trans (r9' c), r10⟩
theorem pgR.of {S' : Nat → Int32} (h : pgR k P sh S F) (f : frRn S S' J J' F F') : pgR k P sh S' F' := by
  obtain ⟨a, b, c, d, e⟩ := h
  refine ⟨fun j h1 h2 => (f.2.2 j (by omega)).trans (a j h1 h2), (f.1 0 (by decide)).trans b, fun m hm => ?_, fun q h1 h2 => by rw [f.2.2 15 (by decide)]; exact d q h1 h2, fun m i h1 h2 => by rw [f.2.2 16 (by decide)]; exact e m i h1 h2⟩
  have c' := c m hm
  unfold rpS shf at c' ⊢
  simp only [Nat.reduceAdd] at c' ⊢
  first
    | (rw [f.2.2 12 (by decide), f.2.2 13 (by decide), f.2.2 14 (by decide)]; exact c')
    | (rw [f.2.2 12 (by decide), f.2.2 13 (by decide)]; exact c')
theorem ceX.R (h : ceX P sh cb Fz S F G) (f : frRn S S' J J' F F') : ceX P sh cb Fz S' F' G := h.of f.2.2 (f.1 9 (by decide))
/-- before a turn: done, or so many turns are left -/
def rnI (M k : Nat) (P : Pm) (sh : Nat → Option Sh) (sn : Nat → Nat) (Fz : Fa) (cb : Bool) (N : Nat) (R : Lz × Int32) (h : gi_H) (S0 : Nat → Int32) (J0 : Nat → Int64) (F0 : Nat → Nat → Int32) (G : Nat → Nat → Int64) : Nat → gi_H → Prop
  | 0, y => ∃ S J F, mo_at M S J F G y ∧ outM M h y ∧ frRn S0 S J0 J F0 F ∧ enR R.1 S J F ∧ ((R.2 = 2 ∧ S 82 ≠ 0) ∨ (R.2 = 1 ∧ S 82 = 0 ∧ S 81 = 0))
  | v + 1, y => ∃ S J F z b lm lp sx wt, mo_at M S J F G y ∧ outM M h y ∧ frRn S0 S J0 J F0 F ∧ mcR P cb z S J F ∧ TS k P sh z ∧ z.wr = 0 ∧ S 83 = nI b ∧ b + v = N ∧ S 84 = nI (60 * lm + lp) ∧ S 87 = sx ∧ (wt = true ↔ cb = true ∧ sx < 0) ∧ (sx = -1 ∨ 0 ≤ sx) ∧ lopZ P sn Fz v (z, b, lm, lp, sx, wt) = R
set_option maxHeartbeats 4000000 in
set_option maxRecDepth 100000 in
theorem run_m {p : Program} {e : Env} {sg : State} {mi : MethodId} {args : Array Value} {below : List Frame} {meth : Method} {c : Code} (C : gi_C p sg mi args meth c b_Mo_run 5 y_Mo_run.cls V) (hr : meth.sig.returnType = (some .int)) (B : Built k P sh (siN k P sh) (wdF k P)) (hpg : pgR k P sh S F) (hc : ceX P sh cb Fz S F G) {N v0 : Nat} {Rf : Lz × Int32} {yy : gi_H} {Post : Option Value → Nat → gi_H → Prop} (hN : N ≤ 20000) (hI0 : rnI M k P sh (siN k P sh) Fz cb N Rf h S J F G v0 yy) (K : ∀ y', rnP M Rf h S J F G y' → Post (some (.int (rtL Rf))) n y') : gi_G p l e { frames := 6, cells := 0, slots := 0, locals := 149 } sg mi args below meth c (MQ below (gi_Qc V (Post)) args sg 0 0 (fun q : Nat => V.2.2 ≤ q)) V 5 0 0 321 [(2, .int (nI N)), (0, .ref M)] [] n yy := by
  refine gi_while (σ := Nat) (fun v => v) (fun _ => [(2, .int (nI N)), (0, .ref M)]) (fun _ => n) (fun _ => 0) (fun _ => 0) (fun v y' => rnI M k P sh (siN k P sh) Fz cb N Rf h S J F G v y') v0 hI0 ?_ (List.forall_mem_cons.mpr ⟨(by first | rfl | (simp [gi_look]; done)), List.forall_mem_cons.mpr ⟨(by first | rfl | (simp [gi_look]; done)), fun _ h => absurd h List.not_mem_nil⟩⟩) rfl rfl rfl
  rintro v y' hI ihv
  try dsimp only at *
  cases v with
  | zero =>
    obtain ⟨S1, J1, F1, H, ho, fr, en, dn⟩ := hI
    obtain ⟨fs, Ha, Hf⟩ := id H.1
    refine gi_aload_n (q := 322) (i := 0) C (dm_Mo_run 179 rfl) rfl rfl rfl ?_
    refine gi_get (q := 325) C (dm_Mo_run 180 rfl) rfl fl_Mo_552 Ha (mo_g81 Hf) ?_
    refine gi_if_le (q := 328) (tgt := 379) C (dm_Mo_run 181 rfl) rfl (by decide) (fun c325 => ?_) (fun c325 => ?_)
    · refine gi_aload_n (q := 380) (i := 0) C (dm_Mo_run 209 rfl) rfl rfl rfl ?_
      refine gi_get (q := 383) C (dm_Mo_run 210 rfl) rfl fl_Mo_564 Ha (mo_g82 Hf) ?_
      refine gi_if_eq (q := 386) (tgt := 390) C (dm_Mo_run 211 rfl) rfl (by decide) (fun c383 => ?_) (fun c383 => ?_)
      · refine gi_aload_n (q := 391) (i := 0) C (dm_Mo_run 214 rfl) rfl rfl rfl ?_
        refine gi_get (q := 394) C (dm_Mo_run 215 rfl) rfl fl_Mo_552 Ha (mo_g81 Hf) ?_
        refine gi_if_ne (q := 397) (tgt := 401) C (dm_Mo_run 216 rfl) rfl (by decide) (fun c394 => ?_) (fun c394 => ?_)
        · refine gi_iconst (q := 402) (v := 3) C (dm_Mo_run 219 rfl) rfl (by decide) ?_
          refine gi_iret C hr (dm_Mo_run 220 rfl) ?_
          have kk := K _ ⟨S1, J1, F1, H, ho, fr, en⟩
          unfold rtL at kk
          rcases dn with ⟨d1, d2⟩ | ⟨d1, d2, d3⟩
          · rw [d1] at kk
            first
              | exact kk
              | exact absurd c383 d2
          · rw [d1] at kk
            first
              | exact kk
              | exact absurd d2 c383
              | exact absurd d3 c394
        · refine gi_iconst (q := 398) (v := 1) C (dm_Mo_run 217 rfl) rfl (by decide) ?_
          refine gi_goto (tgt := 402) C (dm_Mo_run 218 rfl) (by decide) ?_
          refine gi_iret C hr (dm_Mo_run 220 rfl) ?_
          have kk := K _ ⟨S1, J1, F1, H, ho, fr, en⟩
          unfold rtL at kk
          rcases dn with ⟨d1, d2⟩ | ⟨d1, d2, d3⟩
          · rw [d1] at kk
            first
              | exact kk
              | exact absurd c383 d2
          · rw [d1] at kk
            first
              | exact kk
              | exact absurd d2 c383
              | exact absurd d3 c394
      · refine gi_iconst (q := 387) (v := 2) C (dm_Mo_run 212 rfl) rfl (by decide) ?_
        refine gi_goto (tgt := 402) C (dm_Mo_run 213 rfl) (by decide) ?_
        refine gi_iret C hr (dm_Mo_run 220 rfl) ?_
        have kk := K _ ⟨S1, J1, F1, H, ho, fr, en⟩
        unfold rtL at kk
        rcases dn with ⟨d1, d2⟩ | ⟨d1, d2, d3⟩
        · rw [d1] at kk
          first
            | exact kk
            | exact absurd c383 d2
        · rw [d1] at kk
          first
            | exact kk
            | exact absurd d2 c383
            | exact absurd d3 c394
    · refine gi_aload_n (q := 329) (i := 0) C (dm_Mo_run 182 rfl) rfl rfl rfl ?_
      refine gi_get (q := 332) C (dm_Mo_run 183 rfl) rfl fl_Mo_564 Ha (mo_g82 Hf) ?_
      refine gi_if_ne (q := 335) (tgt := 379) C (dm_Mo_run 184 rfl) rfl (by decide) (fun c332 => ?_) (fun c332 => ?_)
      · refine gi_aload_n (q := 380) (i := 0) C (dm_Mo_run 209 rfl) rfl rfl rfl ?_
        refine gi_get (q := 383) C (dm_Mo_run 210 rfl) rfl fl_Mo_564 Ha (mo_g82 Hf) ?_
        refine gi_if_eq (q := 386) (tgt := 390) C (dm_Mo_run 211 rfl) rfl (by decide) (fun c383 => ?_) (fun c383 => ?_)
        · refine gi_aload_n (q := 391) (i := 0) C (dm_Mo_run 214 rfl) rfl rfl rfl ?_
          refine gi_get (q := 394) C (dm_Mo_run 215 rfl) rfl fl_Mo_552 Ha (mo_g81 Hf) ?_
          refine gi_if_ne (q := 397) (tgt := 401) C (dm_Mo_run 216 rfl) rfl (by decide) (fun c394 => ?_) (fun c394 => ?_)
          · refine gi_iconst (q := 402) (v := 3) C (dm_Mo_run 219 rfl) rfl (by decide) ?_
            refine gi_iret C hr (dm_Mo_run 220 rfl) ?_
            have kk := K _ ⟨S1, J1, F1, H, ho, fr, en⟩
            unfold rtL at kk
            rcases dn with ⟨d1, d2⟩ | ⟨d1, d2, d3⟩
            · rw [d1] at kk
              first
                | exact kk
                | exact absurd c383 d2
            · rw [d1] at kk
              first
                | exact kk
                | exact absurd d2 c383
                | exact absurd d3 c394
          · refine gi_iconst (q := 398) (v := 1) C (dm_Mo_run 217 rfl) rfl (by decide) ?_
            refine gi_goto (tgt := 402) C (dm_Mo_run 218 rfl) (by decide) ?_
            refine gi_iret C hr (dm_Mo_run 220 rfl) ?_
            have kk := K _ ⟨S1, J1, F1, H, ho, fr, en⟩
            unfold rtL at kk
            rcases dn with ⟨d1, d2⟩ | ⟨d1, d2, d3⟩
            · rw [d1] at kk
              first
                | exact kk
                | exact absurd c383 d2
            · rw [d1] at kk
              first
                | exact kk
                | exact absurd d2 c383
                | exact absurd d3 c394
        · refine gi_iconst (q := 387) (v := 2) C (dm_Mo_run 212 rfl) rfl (by decide) ?_
          refine gi_goto (tgt := 402) C (dm_Mo_run 213 rfl) (by decide) ?_
          refine gi_iret C hr (dm_Mo_run 220 rfl) ?_
          have kk := K _ ⟨S1, J1, F1, H, ho, fr, en⟩
          unfold rtL at kk
          rcases dn with ⟨d1, d2⟩ | ⟨d1, d2, d3⟩
          · rw [d1] at kk
            first
              | exact kk
              | exact absurd c383 d2
          · rw [d1] at kk
            first
              | exact kk
              | exact absurd d2 c383
              | exact absurd d3 c394
      · exfalso
        rcases dn with ⟨d1, d2⟩ | ⟨d1, d2, d3⟩
        · exact d2 c332
        · exact c325 (by rw [d3]; decide)
  | succ v =>
    obtain ⟨S1, J1, F1, z, b, lm, lp, sx, wt, H, ho, fr, R, T, wz, e83, bv, e84, e87, hwt, hsx, lp9⟩ := hI
    obtain ⟨fs, Ha, Hf⟩ := id H.1
    have h81 := R.2.2.2.1
    have h82 := R.2.2.2.2.1
    have ht := R.1
    refine gi_aload_n (q := 322) (i := 0) C (dm_Mo_run 179 rfl) rfl rfl rfl ?_
    refine gi_get (q := 325) C (dm_Mo_run 180 rfl) rfl fl_Mo_552 Ha (mo_g81 Hf) ?_
    refine gi_if_le (q := 328) (tgt := 379) C (dm_Mo_run 181 rfl) rfl (by decide) (fun c325 => ?_) (fun c325 => ?_)
    · exact absurd c325 (by rw [h81]; exact Int32.not_le.mpr (nI_lt (a := 0) (by omega) (by omega)))
    · refine gi_aload_n (q := 329) (i := 0) C (dm_Mo_run 182 rfl) rfl rfl rfl ?_
      refine gi_get (q := 332) C (dm_Mo_run 183 rfl) rfl fl_Mo_564 Ha (mo_g82 Hf) ?_
      refine gi_if_ne (q := 335) (tgt := 379) C (dm_Mo_run 184 rfl) rfl (by decide) (fun c332 => ?_) (fun c332 => ?_)
      · exact absurd (h82.trans wz) c332
      · refine gi_aload_n (q := 336) (i := 0) C (dm_Mo_run 185 rfl) rfl rfl rfl ?_
        refine gi_get (q := 339) C (dm_Mo_run 186 rfl) rfl fl_Mo_567 Ha (mo_g83 Hf) ?_
        rw [e83]
        refine gi_iload_n (q := 340) (i := 2) C (dm_Mo_run 187 rfl) rfl rfl rfl ?_
        refine gi_icmp_ge (q := 343) (tgt := 379) C (dm_Mo_run 188 rfl) rfl (by decide) (fun c340 => ?_) (fun c340 => ?_)
        · have v0 : v = 0 := by
            rcases Nat.lt_or_ge b N with q | q
            · exact absurd c340 (Int32.not_le.mpr (nI_lt (b := N) q (by omega)))
            · omega
          subst v0
          have lop : ((z, b, lm, lp, sx, wt), (0 : Int32)) = Rf := lp9
          refine gi_aload_n (q := 380) (i := 0) C (dm_Mo_run 209 rfl) rfl rfl rfl ?_
          refine gi_get (q := 383) C (dm_Mo_run 210 rfl) rfl fl_Mo_564 Ha (mo_g82 Hf) ?_
          refine gi_if_eq (q := 386) (tgt := 390) C (dm_Mo_run 211 rfl) rfl (by decide) (fun c383 => ?_) (fun c383 => ?_)
          · refine gi_aload_n (q := 391) (i := 0) C (dm_Mo_run 214 rfl) rfl rfl rfl ?_
            refine gi_get (q := 394) C (dm_Mo_run 215 rfl) rfl fl_Mo_552 Ha (mo_g81 Hf) ?_
            refine gi_if_ne (q := 397) (tgt := 401) C (dm_Mo_run 216 rfl) rfl (by decide) (fun c394 => ?_) (fun c394 => ?_)
            · refine gi_iconst (q := 402) (v := 3) C (dm_Mo_run 219 rfl) rfl (by decide) ?_
              refine gi_iret C hr (dm_Mo_run 220 rfl) ?_
              have kk := K _ ⟨S1, J1, F1, H, ho, fr, by rw [← lop]; exact ⟨R.ed, e83, e84, e87⟩⟩
              rw [← lop] at kk
              exact kk
            · exact absurd (show nI (z.top + 1) = nI 0 from h81.symm.trans c394) (fun e9 => by have := (nI_ei (by omega) (by decide)).mp e9; omega)
          · exact absurd (h82.trans wz) c383
        · obtain ⟨v', ev⟩ : ∃ v', v = v' + 1 := ⟨v - 1, by
            rcases Nat.lt_or_ge b N with q | q
            · omega
            · exact absurd (nI_le (a := N) q (by omega)) c340⟩
          subst ev
          refine gi_aload_n (q := 344) (i := 0) C (dm_Mo_run 189 rfl) rfl rfl rfl ?_
          refine gi_aload_n (q := 345) (i := 0) C (dm_Mo_run 190 rfl) rfl rfl rfl ?_
          refine gi_get (q := 348) C (dm_Mo_run 191 rfl) rfl fl_Mo_167 Ha (mo_g79 Hf) ?_
          refine gi_aload_n (q := 349) (i := 0) C (dm_Mo_run 192 rfl) rfl rfl rfl ?_
          refine gi_get (q := 352) C (dm_Mo_run 193 rfl) rfl fl_Mo_552 Ha (mo_g81 Hf) ?_
          rw [h81]
          refine gi_iconst (q := 353) (v := 1) C (dm_Mo_run 194 rfl) rfl (by decide) ?_
          refine gi_isub (q := 354) C (dm_Mo_run 195 rfl) rfl ?_
          rw [show (1 : Int32) = nI 1 from rfl, nI_sb (by omega) (by omega), show z.top + 1 - 1 = z.top by omega]
          refine gi_iald (q := 355) C (dm_Mo_run 196 rfl) rfl rfl (mo_a79 H) (inN ht (by decide)) ?_
          have R0 : frX P z.top z.cur F1 := R.2.2.2.2.2.2.2.2.2.2 z.top (Nat.le_refl _)
          rw [nI_clamp (show z.top < 2 ^ 31 by omega), R0.1]
          refine gi_put (q := 358) C (dm_Mo_run 197 rfl) rfl fl_Mo_573 fp_Mo_84 Ha (by rw [Hf.1]; decide) rfl rfl ?_
          refine gi_genM (H.putI Ha Hf (by decide) rfl) (ho.up (by omega) (by omega)) (fun y H ho => ?_)
          obtain ⟨fs, Ha, Hf⟩ := id H.1
          have Rk : mcR P cb z (upS S1 84 (nI (curP z))) J1 F1 := R.sc (fun j h1 h2 h3 => by unfold upS; rw [if_neg h2])
          have frk : frRn S1 (upS S1 84 (nI (curP z))) J1 J1 F1 F1 := frRn.s (fun j hj => by unfold upS; rw [if_neg (by omega)])
          refine gi_aload_n (q := 359) (i := 0) C (dm_Mo_run 198 rfl) rfl rfl rfl ?_
          refine gi_callv 0 (q := 362) C (dm_Mo_run 199 rfl) rfl my_Mo_look lk_Mo_582 im_Mo_look rfl (c_Mo_look (b := b) B (hpg.of (fr.tr frk)) T Rk rfl e83 (hc.R (fr.tr frk)) H) Ha rfl rfl ⟨(Nat.le_of_ble_eq_true rfl), (Nat.le_of_ble_eq_true rfl)⟩ (Nat.le_of_ble_eq_true rfl) ⟨(Nat.le_of_ble_eq_true rfl), (Nat.le_of_ble_eq_true rfl)⟩ (fun r359 n359 h359 e359 => ?_)
          obtain ⟨rfl, qn359, S2, H2, o2, s2, s87⟩ := e359
          rw [qn359]
          have H := H2
          obtain ⟨fs, Ha, Hf⟩ := id H.1
          have ho := ho.tr o2
          have b83 : S2 83 = nI b := (s2 83 (by decide)).trans e83
          refine gi_aload_n (q := 363) (i := 0) C (dm_Mo_run 200 rfl) rfl rfl rfl ?_
          refine gi_dup (q := 364) C (dm_Mo_run 201 rfl) rfl rfl ?_
          refine gi_get (q := 367) C (dm_Mo_run 202 rfl) rfl fl_Mo_567 Ha (mo_g83 Hf) ?_
          rw [b83]
          refine gi_iconst (q := 368) (v := 1) C (dm_Mo_run 203 rfl) rfl (by decide) ?_
          refine gi_iadd (q := 369) C (dm_Mo_run 204 rfl) rfl ?_
          rw [nI_1]
          refine gi_put (q := 372) C (dm_Mo_run 205 rfl) rfl fl_Mo_567 fp_Mo_83 Ha (by rw [Hf.1]; decide) rfl rfl ?_
          refine gi_genM (H.putI Ha Hf (by decide) rfl) (ho.up (by omega) (by omega)) (fun y H ho => ?_)
          obtain ⟨fs, Ha, Hf⟩ := id H.1
          have sj : ∀ j, j ≠ 83 → j ≠ 84 → j ≠ 87 → upS S2 83 (nI (b + 1)) j = S1 j := fun j h1 h2 h3 => by
            show (if j = 83 then _ else _) = _
            rw [if_neg h1, s2 j h3]
            unfold upS
            rw [if_neg h2]
          have R3 : mcR P cb z (upS S2 83 (nI (b + 1))) J1 F1 := R.sc sj
          have fr3 : frRn S1 (upS S2 83 (nI (b + 1))) J1 J1 F1 F1 := frRn.s (fun j hj => sj j (by omega) (by omega) (by omega))
          have h84 : upS S2 83 (nI (b + 1)) 84 = nI (curP z) := s2 84 (by decide)
          refine gi_aload_n (q := 373) (i := 0) C (dm_Mo_run 206 rfl) rfl rfl rfl ?_
          refine gi_callv 0 (q := 376) C (dm_Mo_run 207 rfl) rfl my_Mo_one lk_Mo_585 im_Mo_one rfl (c_Mo_one B (hpg.of (fr.tr fr3)) T R3 h84 (hc.R (fr.tr fr3)) H) Ha rfl rfl ⟨(Nat.le_of_ble_eq_true rfl), (Nat.le_of_ble_eq_true rfl)⟩ (Nat.le_of_ble_eq_true rfl) ⟨(Nat.le_of_ble_eq_true rfl), (Nat.le_of_ble_eq_true rfl)⟩ (fun r373 n373 h373 e373 => ?_)
          obtain ⟨rfl, qn373, p9⟩ := e373
          rw [qn373]
          have lop := lp9
          rw [lop_s] at lop
          have sxe : S2 87 = (if wt = true ∧ tldZ Fz z = false then nI b else sx) := by
            rw [s87, show upS S1 84 (nI (curP z)) 87 = sx from e87]
            unfold lkV
            by_cases q : cb = true ∧ sx < 0
            · have wq := hwt.mpr q
              rw [if_pos q]
              cases tq : tldZ Fz z with
              | true =>
                rw [if_pos rfl, if_neg (fun z9 => by cases z9.2)]
                rcases hsx with e | e
                · exact e.symm
                · exact absurd q.2 (Int32.not_lt.mpr e)
              | false => rw [if_neg (by decide), if_pos ⟨wq, rfl⟩]
            · rw [if_neg q, if_neg (fun z9 => q (hwt.mp z9.1))]
          have b0 : (0 : Int32) ≤ nI b := nI_le (a := 0) (Nat.zero_le _) (by omega)
          have hwt' : (wt && tldZ Fz z) = true ↔ cb = true ∧ (if wt = true ∧ tldZ Fz z = false then nI b else sx) < 0 := by
            cases wq : wt with
            | false =>
              rw [if_neg (fun z9 => by cases z9.1), Bool.false_and, ← hwt, wq]
            | true =>
              have w2 := hwt.mp wq
              cases tq : tldZ Fz z with
              | true => rw [if_neg (fun z9 => by cases z9.2)]; exact ⟨fun _ => w2, fun _ => rfl⟩
              | false => rw [if_pos (show true = true ∧ false = false from ⟨rfl, rfl⟩)]; exact ⟨fun z9 => (by cases z9), fun z9 => absurd z9.2 (Int32.not_lt.mpr b0)⟩
          have hsx' : (if wt = true ∧ tldZ Fz z = false then nI b else sx) = -1 ∨ 0 ≤ (if wt = true ∧ tldZ Fz z = false then nI b else sx) := by
            split
            · exact .inr b0
            · exact hsx
          have KK := prf_K (P := P) (sn := siN k P sh) (Fz := Fz) (z := z)
          rw [wz] at KK
          rcases KK with ⟨k1, k2⟩ | ⟨k1, k2⟩ | ⟨k1, k2⟩
          · rw [if_pos k1] at lop
            rcases p9 with ⟨-, S4, J4, F4, H4, o4, f4, R4⟩ | ⟨n1, -⟩
            · refine gi_goto (tgt := 321) C (dm_Mo_run 208 rfl) (by decide) ?_
              refine gi_close (ihv (v' + 1) _ ⟨S4, J4, F4, _, b + 1, z.cur.m, z.cur.i, _, _, H4, ho.tr o4, fr.tr (fr3.tr f4.R), R4, prf_ok B T k1, k2, f4.1 83 (.inr (.inl rfl)), by omega, (f4.1 84 (.inr (.inr (.inl rfl)))).trans h84, ((f4.1 87 (.inr (.inr (.inr (.inr rfl))))).trans sxe), hwt', hsx', lop⟩ (by omega)) (List.forall_mem_cons.mpr ⟨(by first | rfl | (simp [gi_look]; done)), List.forall_mem_cons.mpr ⟨(by first | rfl | (simp [gi_look]; done)), fun _ h => absurd h List.not_mem_nil⟩⟩) rfl rfl rfl
            · rw [k1] at n1
              exact absurd n1 (by decide)
          · rw [if_neg (by rw [k1]; decide)] at lop
            rcases p9 with ⟨n1, -⟩ | ⟨-, S4, J4, F4, H4, o4, f4, s81, ed⟩
            · exact absurd k1 n1
            · refine gi_goto (tgt := 321) C (dm_Mo_run 208 rfl) (by decide) ?_
              refine gi_close (ihv 0 _ ⟨S4, J4, F4, H4, ho.tr o4, fr.tr (fr3.tr f4.R), by rw [← lop]; exact ⟨ed, f4.1 83 (.inr (.inl rfl)), (f4.1 84 (.inr (.inr (.inl rfl)))).trans h84, (f4.1 87 (.inr (.inr (.inr (.inr rfl))))).trans sxe⟩, .inr ⟨by rw [← lop]; exact k1, ed.2.1.trans k2, s81⟩⟩ (by omega)) (List.forall_mem_cons.mpr ⟨(by first | rfl | (simp [gi_look]; done)), List.forall_mem_cons.mpr ⟨(by first | rfl | (simp [gi_look]; done)), fun _ h => absurd h List.not_mem_nil⟩⟩) rfl rfl rfl
          · rw [if_neg (by rw [k1]; decide)] at lop
            rcases p9 with ⟨-, S4, J4, F4, H4, o4, f4, R4⟩ | ⟨n1, -⟩
            · refine gi_goto (tgt := 321) C (dm_Mo_run 208 rfl) (by decide) ?_
              refine gi_close (ihv 0 _ ⟨S4, J4, F4, H4, ho.tr o4, fr.tr (fr3.tr f4.R), by rw [← lop]; exact ⟨R4.ed, f4.1 83 (.inr (.inl rfl)), (f4.1 84 (.inr (.inr (.inl rfl)))).trans h84, (f4.1 87 (.inr (.inr (.inr (.inr rfl))))).trans sxe⟩, .inl ⟨by rw [← lop]; exact k1, by rw [R4.2.2.2.2.1]; exact k2⟩⟩ (by omega)) (List.forall_mem_cons.mpr ⟨(by first | rfl | (simp [gi_look]; done)), List.forall_mem_cons.mpr ⟨(by first | rfl | (simp [gi_look]; done)), fun _ h => absurd h List.not_mem_nil⟩⟩) rfl rfl rfl
            · rw [k1] at n1
              exact absurd n1 (by decide)
end RM8
