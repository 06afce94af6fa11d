-- needs: 89.65
section RB7
variable {l : Launch} {V : gi_V} {n : Nat} {h h' : gi_H} {M k m i t : Nat} {s : Nat → Option Sh} {d : Sh} {Z : ShL} {P : Pm} {x : Sh} {b : Bool} {S S' : Nat → Int32} {J J' : Nat → Int64} {F : Nat → Nat → Int32} {G : Nat → Nat → Int64}
/-- the reference's building, as it was made -/
def mbI (k : Nat) (P : Pm) (sh : Nat → Option Sh) (S : Nat → Int32) (F : Nat → Nat → Int32) : Prop := bldF k P = .inr sh ∧ S 18 = nI (1 + sct k P sh 480) ∧ (∀ m, m < k → rpS P m sh (shf F)) ∧ (∀ q, q < 480 → isSi k P sh q = true → F 15 q = nI (snF k P sh q) ∧ F 17 (snF k P sh q) = nI q) ∧ ∀ m i, m < k → i < pN P 5 m → F 16 (60 * m + i) = bI (wdF k P (60 * m + i))
def frV (F F' : Nat → Nat → Int32) : Prop := ∀ j, j < 12 ∨ 17 < j → F' j = F j
def frU (S S' : Nat → Int32) : Prop := ∀ j, j ≠ 8 → j ≠ 9 → j ≠ 10 → j ≠ 11 → j ≠ 18 → j ≠ 19 → j ≠ 20 → j ≠ 21 → S' j = S j
def mbP (M k : Nat) (J : Nat → Int64) (G : Nat → Nat → Int64) (h : gi_H) (S : Nat → Int32) (F : Nat → Nat → Int32) (P : Pm) (v : Option Value) (h' : gi_H) : Prop := ∃ S' F', mo_at M S' J F' G h' ∧ outM M h h' ∧ frV F F' ∧ frU S S' ∧ S' 9 = 0 ∧ ((∃ e, bldF k P = .inl e ∧ v = some (.int (-(nI e.1))) ∧ S' 8 = 0 ∧ S' 10 = nI e.2.1 ∧ S' 11 = nI e.2.2) ∨ (∃ sh, mbI k P sh S' F' ∧ v = some (.int (nI (1 + sct k P sh 480))) ∧ S' 8 = 1 ∧ S' 10 = -1 ∧ S' 11 = -1))
def s0B (S : Nat → Int32) : Nat → Int32 := upS (upS (upS (upS S 8 0) 9 0) 10 (-1)) 11 (-1)
theorem bld_1 {p : Nat} (h : odF k P = some p) : bldF k P = .inl (1, p / 60, p % 60) := by unfold bldF; rw [h]
theorem bld_2 {e : Flt} (h : odF k P = none) (h2 : shA P k = .inl e) : bldF k P = .inl e := by unfold bldF; rw [h, h2]
theorem bld_6 {p : Nat} (h : odF k P = none) (h2 : shA P k = .inr s) (h3 : siF k P s = some p) : bldF k P = .inl (6, p / 60, p % 60) := by unfold bldF; rw [h, h2]; dsimp only; rw [h3]
theorem bld_r (h : odF k P = none) (h2 : shA P k = .inr s) (h3 : siF k P s = none) : bldF k P = .inr s := by unfold bldF; rw [h, h2]; dsimp only; rw [h3]
/-- sites, as far as a place -/
def sjI (k : Nat) (P : Pm) (s : Nat → Option Sh) (S : Nat → Int32) (F : Nat → Nat → Int32) (p : Nat) : Prop := S 18 = nI (1 + sct k P s p) ∧ sct k P s p ≤ 24 ∧ (∀ q, q < p → siBad k P s q = false) ∧ ∀ q, q < p → isSi k P s q = true → F 15 q = nI (snF k P s q) ∧ F 17 (snF k P s q) = nI q
theorem sj_gap {d : Nat} {p : Nat} (h : sjI k P s S F p) (hv : ∀ q, p ≤ q → q < p + d → vldB k P q = false) : sjI k P s S F (p + d) := by
  obtain ⟨h1, h2, h3, h4⟩ := h
  have e := sct_gap (s := s) d hv
  have no : ∀ q, p ≤ q → q < p + d → isSi k P s q = false := fun q q1 q2 => by unfold isSi; rw [hv q q1 q2]; rfl
  refine ⟨by rw [e]; exact h1, by rw [e]; exact h2, fun q hq => ?_, fun q hq hs => ?_⟩
  · rcases Nat.lt_or_ge q p with z | z
    · exact h3 q z
    · unfold siBad; rw [no q z hq]; rfl
  · rcases Nat.lt_or_ge q p with z | z
    · exact h4 q z hs
    · rw [no q z hq] at hs; cases hs
set_option maxHeartbeats 4000000 in
set_option maxRecDepth 100000 in
theorem build_4 {p : Program} {e : Env} {sg : State} {mi : MethodId} {args : Array Value} {below : List Frame} {meth : Method} {c : Code} (C : gi_C p sg mi args meth c b_Mo_build 4 y_Mo_build.cls V) (hr : meth.sig.returnType = (some .int)) (W : wfP k P) (hk : S 0 = nI k) (od : odF k P = none) (hs : shA P k = .inr s) (s8 : ∀ q x, s q = some x → x.1 ≤ 8 ∧ x.2 < 2 ^ x.1) {y : gi_H} (I : ∃ S4 F4, mo_at M S4 J F4 G y ∧ outM M h y ∧ frV F F4 ∧ frU S S4 ∧ (S4 9 = 0 ∧ S4 8 = 0 ∧ S4 10 = -1 ∧ S4 11 = -1) ∧ prF P F4 ∧ (∀ m, m < k → rpS P m s (shf F4)) ∧ (∀ m i, m < k → i < pN P 5 m → F4 16 (60 * m + i) = bI (wdF k P (60 * m + i))) ∧ sjI k P s S4 F4 (60 * 0)) : gi_G p l e { frames := 4, cells := 0, slots := 0, locals := 91 } sg mi args below meth c (MQ below (gi_Qc V (fun v n' h' => n' = n ∧ mbP M k J G h S F P v h')) args sg 0 0 (fun q : Nat => V.2.2 ≤ q)) V 4 0 0 239 [(0, .ref M)] [] n y := by
  have w8 := W.k8
  obtain ⟨S4, F4, H4, o4, f4, u4, t4, hP4, rp, hw, hj⟩ := I
  refine gi_iconst (q := 240) (v := 0) C (dm_Mo_build 144 rfl) rfl (by decide) ?_
  refine gi_istore_n (q := 241) (i := 1) C (dm_Mo_build 145 rfl) rfl rfl (Nat.le_of_ble_eq_true rfl) ?_
  refine gi_while (σ := Nat) (fun m => k - m) (fun m => [(1, .int (nI m)), (0, .ref M)]) (fun _ => n) (fun _ => 0) (fun _ => 0) (fun m y' => m ≤ k ∧ ∃ S4 F4, mo_at M S4 J F4 G y' ∧ outM M h y' ∧ frV F F4 ∧ frU S S4 ∧ (S4 9 = 0 ∧ S4 8 = 0 ∧ S4 10 = -1 ∧ S4 11 = -1) ∧ prF P F4 ∧ (∀ m, m < k → rpS P m s (shf F4)) ∧ (∀ m i, m < k → i < pN P 5 m → F4 16 (60 * m + i) = bI (wdF k P (60 * m + i))) ∧ sjI k P s S4 F4 (60 * m)) 0 ⟨Nat.zero_le _, S4, F4, H4, o4, f4, u4, t4, hP4, rp, hw, hj⟩ ?_ (List.forall_mem_cons.mpr ⟨rfl, List.forall_mem_cons.mpr ⟨rfl, fun _ h => absurd h List.not_mem_nil⟩⟩) rfl rfl rfl
  rintro m y' ⟨hmk, S4, F4, H4, o4, f4, u4, t4, hP4, rp, hw, hj⟩ ihm
  try dsimp only at *
  obtain ⟨fs4, Ha4, Hf4⟩ := id H4.1
  refine gi_iload_n (q := 242) (i := 1) C (dm_Mo_build 146 rfl) rfl rfl rfl ?_
  refine gi_aload_n (q := 243) (i := 0) C (dm_Mo_build 147 rfl) rfl rfl rfl ?_
  refine gi_get (q := 246) C (dm_Mo_build 148 rfl) rfl fl_Mo_176 Ha4 (mo_g0 Hf4) ?_
  rw [show S4 0 = nI k from (u4 0 (by decide) (by decide) (by decide) (by decide) (by decide) (by decide) (by decide) (by decide)).trans hk]
  refine gi_icmp_ge (q := 249) (tgt := 348) C (dm_Mo_build 149 rfl) rfl (by decide) (fun c246 => ?_) (fun c246 => ?_)
  · have ml : m = k := by
      rcases Nat.lt_or_ge m (k) with q | q
      · exact absurd c246 (Int32.not_le.mpr (nI_lt (b := k) q (by omega)))
      · omega
    subst ml
    have gp := sj_gap (d := 480 - 60 * m) hj (fun q q1 q2 => vld_end (by omega))
    rw [show 60 * m + (480 - 60 * m) = 480 by omega] at gp
    have sf : siF m P s = none := rng_no (fun q hq => gp.2.2.1 q hq)
    have br := bld_r od hs sf
    have H := H4
    have Ha := Ha4
    have Hf := Hf4
    have ho := o4
    refine gi_aload_n (q := 349) (i := 0) C (dm_Mo_build 207 rfl) rfl rfl rfl ?_
    refine gi_iconst (q := 350) (v := 1) C (dm_Mo_build 208 rfl) rfl (by decide) ?_
    refine gi_put (q := 353) C (dm_Mo_build 209 rfl) rfl fl_Mo_179 fp_Mo_8 Ha (by rw [Hf.1]; decide) rfl rfl ?_
    refine gi_genM (H.putI Ha Hf (by decide) rfl) (ho.up (by omega) (by omega)) (fun y H ho => ?_)
    obtain ⟨fs, Ha, Hf⟩ := id H.1
    refine gi_aload_n (q := 354) (i := 0) C (dm_Mo_build 210 rfl) rfl rfl rfl ?_
    refine gi_get (q := 357) C (dm_Mo_build 211 rfl) rfl fl_Mo_229 Ha (mo_g18 Hf) ?_
    refine gi_iret C hr (dm_Mo_build 212 rfl) ?_
    refine ⟨?_, _, _, H, ho, f4, fun j a1 a2 a3 a4 a5 a6 a7 a8 => ?_, t4.1, Or.inr ⟨s, ⟨br, gp.1, rp, gp.2.2.2, hw⟩, ?_, rfl, t4.2.2.1, t4.2.2.2⟩⟩
    · rfl
    · show upS S4 8 1 j = S j
      unfold upS
      rw [if_neg a1]
      exact u4 j a1 a2 a3 a4 a5 a6 a7 a8
    · show some (Value.int (S4 18)) = _
      rw [gp.1]
  · have ml : m < k := by
      rcases Nat.lt_or_ge m (k) with q | q
      · exact q
      · exact absurd (nI_le q (by omega)) c246
    have wm := wf_ar W ml
    refine gi_iconst (q := 250) (v := 0) C (dm_Mo_build 150 rfl) rfl (by decide) ?_
    refine gi_istore_n (q := 251) (i := 2) C (dm_Mo_build 151 rfl) rfl rfl (Nat.le_of_ble_eq_true rfl) ?_
    refine gi_while (σ := Nat) (fun p => pN P 5 m - p) (fun p => [(2, .int (nI p)), (1, .int (nI m)), (0, .ref M)]) (fun _ => n) (fun _ => 0) (fun _ => 0) (fun p y' => p ≤ pN P 5 m ∧ ∃ S4 F4, mo_at M S4 J F4 G y' ∧ outM M h y' ∧ frV F F4 ∧ frU S S4 ∧ (S4 9 = 0 ∧ S4 8 = 0 ∧ S4 10 = -1 ∧ S4 11 = -1) ∧ prF P F4 ∧ (∀ m, m < k → rpS P m s (shf F4)) ∧ (∀ m i, m < k → i < pN P 5 m → F4 16 (60 * m + i) = bI (wdF k P (60 * m + i))) ∧ sjI k P s S4 F4 (60 * m + p)) 0 ⟨Nat.zero_le _, S4, F4, H4, o4, f4, u4, t4, hP4, rp, hw, hj⟩ ?_ (List.forall_mem_cons.mpr ⟨rfl, List.forall_mem_cons.mpr ⟨rfl, List.forall_mem_cons.mpr ⟨rfl, fun _ h => absurd h List.not_mem_nil⟩⟩⟩) rfl rfl rfl
    rintro p y' ⟨hp5, S4, F4, H4, o4, f4, u4, t4, hP4, rp, hw, hj⟩ ihp
    try dsimp only at *
    obtain ⟨fs4, Ha4, Hf4⟩ := id H4.1
    refine gi_iload_n (q := 252) (i := 2) C (dm_Mo_build 152 rfl) rfl rfl rfl ?_
    refine gi_aload_n (q := 253) (i := 0) C (dm_Mo_build 153 rfl) rfl rfl rfl ?_
    refine gi_get (q := 256) C (dm_Mo_build 154 rfl) rfl fl_Mo_22 Ha4 (mo_g5 Hf4) ?_
    refine gi_iload_n (q := 257) (i := 1) C (dm_Mo_build 155 rfl) rfl rfl rfl ?_
    refine gi_iald (q := 258) C (dm_Mo_build 156 rfl) rfl rfl (mo_a5 H4) (inN (show m < 8 by omega) (by decide)) ?_
    rw [nI_clamp (show m < 2 ^ 31 by omega), hP4 5 (by decide) (by decide), (wf_n W ml).2.2.2.1]
    refine gi_icmp_ge (q := 261) (tgt := 342) C (dm_Mo_build 157 rfl) rfl (by decide) (fun c258 => ?_) (fun c258 => ?_)
    · have pl : p = pN P 5 m := by
        rcases Nat.lt_or_ge p (pN P 5 m) with q | q
        · exact absurd c258 (Int32.not_le.mpr (nI_lt (b := pN P 5 m) q (by omega)))
        · omega
      have gp := sj_gap (d := 60 - pN P 5 m) (by rw [pl] at hj; exact hj) (fun q q1 q2 => vld_gap (m := m) (by omega) (by omega))
      rw [show 60 * m + pN P 5 m + (60 - pN P 5 m) = 60 * (m + 1) by omega] at gp
      refine gi_iinc (q := 345) (v := 1) C (dm_Mo_build 205 rfl) rfl rfl (by decide) (Nat.le_of_ble_eq_true rfl) ?_
      refine gi_goto (tgt := 241) C (dm_Mo_build 206 rfl) (by decide) ?_
      refine gi_close (ihm (m + 1) _ ⟨ml, S4, F4, H4, o4, f4, u4, t4, hP4, rp, hw, gp⟩ (by omega)) (List.forall_mem_cons.mpr ⟨(by simp [gi_look, nI_1]), List.forall_mem_cons.mpr ⟨rfl, fun _ h => absurd h List.not_mem_nil⟩⟩) rfl rfl rfl
    · have pl : p < pN P 5 m := by
        rcases Nat.lt_or_ge p (pN P 5 m) with q | q
        · exact q
        · exact absurd (nI_le q (by omega)) c258
      have eop := wf_op W ml pl
      obtain ⟨v1, si⟩ := isSi_v (s := s) W ml pl
      obtain ⟨j1, j2, j3, j4⟩ := hj
      refine gi_bipush (q := 263) (v := 60) C (dm_Mo_build 158 rfl) rfl (by decide) ?_
      refine gi_iload_n (q := 264) (i := 1) C (dm_Mo_build 159 rfl) rfl rfl rfl ?_
      refine gi_imul (q := 265) C (dm_Mo_build 160 rfl) rfl ?_
      refine gi_iload_n (q := 266) (i := 2) C (dm_Mo_build 161 rfl) rfl rfl rfl ?_
      refine gi_iadd (q := 267) C (dm_Mo_build 162 rfl) rfl ?_
      rw [show (60 : Int32) = nI 60 from rfl, nI_ml, nI_add]
      refine gi_istore_n (q := 268) (i := 3) C (dm_Mo_build 163 rfl) rfl rfl (Nat.le_of_ble_eq_true rfl) ?_
      refine gi_aload_n (q := 269) (i := 0) C (dm_Mo_build 164 rfl) rfl rfl rfl ?_
      refine gi_get (q := 272) C (dm_Mo_build 165 rfl) rfl fl_Mo_25 Ha4 (mo_g6 Hf4) ?_
      refine gi_iload_n (q := 273) (i := 3) C (dm_Mo_build 166 rfl) rfl rfl rfl ?_
      refine gi_iald (q := 274) C (dm_Mo_build 167 rfl) rfl rfl (mo_a6 H4) (inN (show 60 * m + p < 480 by omega) (by decide)) ?_
      rw [nI_clamp (show 60 * m + p < 2 ^ 31 by omega), hP4 6 (by decide) (by decide), eop.1]
      refine gi_bipush (q := 276) (v := 28) C (dm_Mo_build 168 rfl) rfl (by decide) ?_
      refine gi_icmp_ne (q := 279) (tgt := 336) C (dm_Mo_build 169 rfl) rfl (by decide) (fun c276 => ?_) (fun c276 => ?_)
      · have sn : isSi k P s (60 * m + p) = false := by
          rw [si]
          first
            | (rw [decide_eq_false (fun z => c276 (by rw [z]; rfl)), Bool.false_and])
            | (rw [show s (60 * m + p) = none from by
                cases e : s (60 * m + p) with
                | none => rfl
                | some x =>
                  have g : F4 12 (60 * m + p) = nI x.1 := ((rp m ml) p pl).2 x e |>.1
                  rw [g] at c285
                  exact absurd c285 (Int32.not_lt.mpr (nI_le (a := 0) (Nat.zero_le _) (by have := (s8 _ _ e).1; omega)))]
               simp)
        have es : sct k P s (60 * m + p + 1) = sct k P s (60 * m + p) := by
          show (if isSi k P s (60 * m + p) = true then _ else _) = _
          rw [if_neg (by rw [sn]; decide)]
        refine gi_iinc (q := 339) (v := 1) C (dm_Mo_build 203 rfl) rfl rfl (by decide) (Nat.le_of_ble_eq_true rfl) ?_
        refine gi_goto (tgt := 251) C (dm_Mo_build 204 rfl) (by decide) ?_
        refine gi_close (ihp (p + 1) _ ⟨pl, S4, F4, H4, o4, f4, u4, t4, hP4, rp, hw, ⟨by rw [← Nat.add_assoc, es]; exact j1, by rw [← Nat.add_assoc, es]; exact j2, fun q hq => by
            by_cases z : q = 60 * m + p
            · rw [z]; unfold siBad; rw [sn]; rfl
            · exact j3 q (by omega), fun q hq hs => by
            by_cases z : q = 60 * m + p
            · rw [z, sn] at hs; cases hs
            · exact j4 q (by omega) hs⟩⟩ (by omega)) (List.forall_mem_cons.mpr ⟨(by simp [gi_look, nI_1]), List.forall_mem_cons.mpr ⟨rfl, List.forall_mem_cons.mpr ⟨rfl, fun _ h => absurd h List.not_mem_nil⟩⟩⟩) rfl rfl rfl
      · refine gi_aload_n (q := 280) (i := 0) C (dm_Mo_build 170 rfl) rfl rfl rfl ?_
        refine gi_get (q := 283) C (dm_Mo_build 171 rfl) rfl fl_Mo_38 Ha4 (mo_g12 Hf4) ?_
        refine gi_iload_n (q := 284) (i := 3) C (dm_Mo_build 172 rfl) rfl rfl rfl ?_
        refine gi_iald (q := 285) C (dm_Mo_build 173 rfl) rfl rfl (mo_a12 H4) (inN (show 60 * m + p < 480 by omega) (by decide)) ?_
        rw [nI_clamp (show 60 * m + p < 2 ^ 31 by omega)]
        refine gi_if_lt (q := 288) (tgt := 336) C (dm_Mo_build 174 rfl) rfl (by decide) (fun c285 => ?_) (fun c285 => ?_)
        · have sn : isSi k P s (60 * m + p) = false := by
            rw [si]
            first
              | (rw [decide_eq_false (fun z => c276 (by rw [z]; rfl)), Bool.false_and])
              | (rw [show s (60 * m + p) = none from by
                  cases e : s (60 * m + p) with
                  | none => rfl
                  | some x =>
                    have g : F4 12 (60 * m + p) = nI x.1 := ((rp m ml) p pl).2 x e |>.1
                    rw [g] at c285
                    exact absurd c285 (Int32.not_lt.mpr (nI_le (a := 0) (Nat.zero_le _) (by have := (s8 _ _ e).1; omega)))]
                 simp)
          have es : sct k P s (60 * m + p + 1) = sct k P s (60 * m + p) := by
            show (if isSi k P s (60 * m + p) = true then _ else _) = _
            rw [if_neg (by rw [sn]; decide)]
          refine gi_iinc (q := 339) (v := 1) C (dm_Mo_build 203 rfl) rfl rfl (by decide) (Nat.le_of_ble_eq_true rfl) ?_
          refine gi_goto (tgt := 251) C (dm_Mo_build 204 rfl) (by decide) ?_
          refine gi_close (ihp (p + 1) _ ⟨pl, S4, F4, H4, o4, f4, u4, t4, hP4, rp, hw, ⟨by rw [← Nat.add_assoc, es]; exact j1, by rw [← Nat.add_assoc, es]; exact j2, fun q hq => by
              by_cases z : q = 60 * m + p
              · rw [z]; unfold siBad; rw [sn]; rfl
              · exact j3 q (by omega), fun q hq hs => by
              by_cases z : q = 60 * m + p
              · rw [z, sn] at hs; cases hs
              · exact j4 q (by omega) hs⟩⟩ (by omega)) (List.forall_mem_cons.mpr ⟨(by simp [gi_look, nI_1]), List.forall_mem_cons.mpr ⟨rfl, List.forall_mem_cons.mpr ⟨rfl, fun _ h => absurd h List.not_mem_nil⟩⟩⟩) rfl rfl rfl
        · obtain ⟨x, ex⟩ : ∃ x, s (60 * m + p) = some x := by
            cases e : s (60 * m + p) with
            | none =>
              have g : F4 12 (60 * m + p) = -1 := ((rp m ml) p pl).1 e
              rw [g] at c285
              exact absurd (by decide) c285
            | some x => exact ⟨x, rfl⟩
          have o28 : pN P 6 (60 * m + p) = 28 := by
            rw [show (28 : Int32) = nI 28 from rfl, nI_eqP (by omega) (by decide)] at c276
            exact c276
          have sy : isSi k P s (60 * m + p) = true := by rw [si, decide_eq_true o28, ex]; rfl
          refine gi_aload_n (q := 289) (i := 0) C (dm_Mo_build 175 rfl) rfl rfl rfl ?_
          refine gi_get (q := 292) C (dm_Mo_build 176 rfl) rfl fl_Mo_229 Ha4 (mo_g18 Hf4) ?_
          rw [j1]
          refine gi_bipush (q := 294) (v := 25) C (dm_Mo_build 177 rfl) rfl (by decide) ?_
          refine gi_icmp_ne (q := 297) (tgt := 306) C (dm_Mo_build 178 rfl) rfl (by decide) (fun c294 => ?_) (fun c294 => ?_)
          · have s24 : sct k P s (60 * m + p) < 24 := by
              rcases Nat.lt_or_ge (sct k P s (60 * m + p)) 24 with q | q
              · exact q
              · exact absurd (show nI (1 + sct k P s (60 * m + p)) = 25 from by rw [show sct k P s (60 * m + p) = 24 by omega]; rfl) c294
            have H := H4
            have Ha := Ha4
            have Hf := Hf4
            have ho := o4
            refine gi_aload_n (q := 307) (i := 0) C (dm_Mo_build 185 rfl) rfl rfl rfl ?_
            refine gi_get (q := 310) C (dm_Mo_build 186 rfl) rfl fl_Mo_48 Ha4 (mo_g15 Hf4) ?_
            refine gi_iload_n (q := 311) (i := 3) C (dm_Mo_build 187 rfl) rfl rfl rfl ?_
            refine gi_aload_n (q := 312) (i := 0) C (dm_Mo_build 188 rfl) rfl rfl rfl ?_
            refine gi_get (q := 315) C (dm_Mo_build 189 rfl) rfl fl_Mo_229 Ha (mo_g18 Hf4) ?_
            rw [j1]
            refine gi_iast (q := 316) C (dm_Mo_build 190 rfl) rfl rfl (mo_a15 H4) (inN (show 60 * m + p < 480 by omega) (by decide)) ?_
            refine gi_genM (H.setI (p := 10) (k := 15) (by decide) rfl rfl (by decide) rfl (by omega)) (ho.up (by omega) (by omega)) (fun y H ho => ?_)
            obtain ⟨fs, Ha, Hf⟩ := id H.1
            refine gi_aload_n (q := 317) (i := 0) C (dm_Mo_build 191 rfl) rfl rfl rfl ?_
            refine gi_get (q := 320) C (dm_Mo_build 192 rfl) rfl fl_Mo_54 Ha (mo_g17 Hf) ?_
            refine gi_aload_n (q := 321) (i := 0) C (dm_Mo_build 193 rfl) rfl rfl rfl ?_
            refine gi_get (q := 324) C (dm_Mo_build 194 rfl) rfl fl_Mo_229 Ha (mo_g18 Hf) ?_
            rw [j1]
            refine gi_iload_n (q := 325) (i := 3) C (dm_Mo_build 195 rfl) rfl rfl rfl ?_
            refine gi_iast (q := 326) C (dm_Mo_build 196 rfl) rfl rfl (mo_a17 H) (inN (show 1 + sct k P s (60 * m + p) < 26 by omega) (by decide)) ?_
            refine gi_genM (H.setI (p := 12) (k := 17) (by decide) rfl rfl (by decide) rfl (by omega)) (ho.up (by omega) (by omega)) (fun y H ho => ?_)
            obtain ⟨fs, Ha, Hf⟩ := id H.1
            refine gi_aload_n (q := 327) (i := 0) C (dm_Mo_build 197 rfl) rfl rfl rfl ?_
            refine gi_dup (q := 328) C (dm_Mo_build 198 rfl) rfl rfl ?_
            refine gi_get (q := 331) C (dm_Mo_build 199 rfl) rfl fl_Mo_229 Ha (mo_g18 Hf) ?_
            rw [j1]
            refine gi_iconst (q := 332) (v := 1) C (dm_Mo_build 200 rfl) rfl (by decide) ?_
            refine gi_iadd (q := 333) C (dm_Mo_build 201 rfl) rfl ?_
            rw [nI_1]
            refine gi_put (q := 336) C (dm_Mo_build 202 rfl) rfl fl_Mo_229 fp_Mo_18 Ha (by rw [Hf.1]; decide) rfl rfl ?_
            refine gi_genM (H.putI Ha Hf (by decide) rfl) (ho.up (by omega) (by omega)) (fun y H ho => ?_)
            obtain ⟨fs, Ha, Hf⟩ := id H.1
            have es : sct k P s (60 * m + p + 1) = sct k P s (60 * m + p) + 1 := by
              show (if isSi k P s (60 * m + p) = true then _ else _) = _
              rw [if_pos sy]
            rw [nI_clamp (show 60 * m + p < 2 ^ 31 by omega), nI_clamp (show 1 + sct k P s (60 * m + p) < 2 ^ 31 by omega)] at H
            refine gi_iinc (q := 339) (v := 1) C (dm_Mo_build 203 rfl) rfl rfl (by decide) (Nat.le_of_ble_eq_true rfl) ?_
            refine gi_goto (tgt := 251) C (dm_Mo_build 204 rfl) (by decide) ?_
            refine gi_close (ihp (p + 1) _ ⟨pl, _, _, H, ho, fun j hj => by rw [upA_n (by omega), upA_n (by omega)]; exact f4 j hj, fun j a1 a2 a3 a4 a5 a6 a7 a8 => by
                show upS S4 18 _ j = S j
                unfold upS
                rw [if_neg a5]
                exact u4 j a1 a2 a3 a4 a5 a6 a7 a8, t4, fun j q1 q2 => by rw [upA_n (by omega), upA_n (by omega)]; exact hP4 j q1 q2, rp, hw, ⟨by rw [← Nat.add_assoc, es]; rfl, by rw [← Nat.add_assoc, es]; omega, fun q hq => by
                by_cases z : q = 60 * m + p
                · rw [z]; unfold siBad; rw [sy, decide_eq_false (by omega)]; rfl
                · exact j3 q (by omega), fun q hq hs2 => by
                rw [upA_i, upA_n (by decide), upA_i, upd_is, upd_is]
                by_cases z : q = 60 * m + p
                · rw [z, if_pos rfl, if_pos (show snF k P s (60 * m + p) = 1 + sct k P s (60 * m + p) from rfl)]
                  exact ⟨rfl, rfl⟩
                · have lt := sct_lt (s := s) (show q < 60 * m + p by omega) hs2
                  rw [if_neg z, if_neg (by unfold snF; omega), upA_n (by decide)]
                  exact j4 q (by omega) hs2⟩⟩ (by omega)) (List.forall_mem_cons.mpr ⟨(by simp [gi_look, nI_1]), List.forall_mem_cons.mpr ⟨rfl, List.forall_mem_cons.mpr ⟨rfl, fun _ h => absurd h List.not_mem_nil⟩⟩⟩) rfl rfl rfl
          · refine gi_aload_n (q := 298) (i := 0) C (dm_Mo_build 179 rfl) rfl rfl rfl ?_
            refine gi_bipush (q := 300) (v := 6) C (dm_Mo_build 180 rfl) rfl (by decide) ?_
            refine gi_iload_n (q := 301) (i := 1) C (dm_Mo_build 181 rfl) rfl rfl rfl ?_
            refine gi_iload_n (q := 302) (i := 2) C (dm_Mo_build 182 rfl) rfl rfl rfl ?_
            refine gi_callv 3 (q := 305) C (dm_Mo_build 183 rfl) rfl my_Mo_fault lk_Mo_221 im_Mo_fault rfl (c_Mo_fault 6 m p H4) Ha4 rfl rfl ⟨(Nat.le_of_ble_eq_true rfl), (Nat.le_of_ble_eq_true rfl)⟩ (Nat.le_of_ble_eq_true rfl) ⟨(Nat.le_of_ble_eq_true rfl), (Nat.le_of_ble_eq_true rfl)⟩ (fun r302 n302 h302 e302 => ?_)
            obtain ⟨rfl, rfl, H302, o302⟩ := e302
            refine gi_iret C hr (dm_Mo_build 184 rfl) ?_
            have s24 : 24 ≤ sct k P s (60 * m + p) := by
              rcases Nat.lt_or_ge (sct k P s (60 * m + p)) 24 with q | q
              · exact absurd c294 (by rw [show (25 : Int32) = nI 25 from rfl, nI_eqP (by omega) (by decide)]; omega)
              · exact q
            have sf : siF k P s = some (60 * m + p) := rng_some (by omega) (by rw [sy, decide_eq_true s24]; rfl) j3
            have b6 := bld_6 od hs sf
            rw [show (60 * m + p) / 60 = m by omega, show (60 * m + p) % 60 = p by omega] at b6
            refine ⟨rfl, _, _, H302, o4.tr o302, f4, fun j a1 a2 a3 a4 a5 a6 a7 a8 => ?_, ?_, Or.inl ⟨_, b6, rfl, ?_, rfl, rfl⟩⟩
            · unfold upS
              rw [if_neg a4, if_neg a3]
              exact u4 j a1 a2 a3 a4 a5 a6 a7 a8
            · exact t4.1
            · exact t4.2.1
set_option maxHeartbeats 4000000 in
set_option maxRecDepth 100000 in
theorem build_3 {p : Program} {e : Env} {sg : State} {mi : MethodId} {args : Array Value} {below : List Frame} {meth : Method} {c : Code} (C : gi_C p sg mi args meth c b_Mo_build 4 y_Mo_build.cls V) (hr : meth.sig.returnType = (some .int)) (W : wfP k P) (hk : S 0 = nI k) (od : odF k P = none) (hs : shA P k = .inr s) (s8 : ∀ q x, s q = some x → x.1 ≤ 8 ∧ x.2 < 2 ^ x.1) {y : gi_H} (I : ∃ S4 F4, mo_at M S4 J F4 G y ∧ outM M h y ∧ frV F F4 ∧ frU S S4 ∧ (S4 9 = 0 ∧ S4 8 = 0 ∧ S4 10 = -1 ∧ S4 11 = -1) ∧ S4 18 = 1 ∧ prF P F4 ∧ (∀ m, m < k → rpS P m s (shf F4)) ∧ (∀ m' i, m' < 0 → i < pN P 5 m' → F4 16 (60 * m' + i) = bI (wdF k P (60 * m' + i)))) : gi_G p l e { frames := 4, cells := 0, slots := 0, locals := 91 } sg mi args below meth c (MQ below (gi_Qc V (fun v n' h' => n' = n ∧ mbP M k J G h S F P v h')) args sg 0 0 (fun q : Nat => V.2.2 ≤ q)) V 4 0 0 125 [(0, .ref M)] [] n y := by
  have w8 := W.k8
  obtain ⟨S4, F4, H4, o4, f4, u4, t4, e18, hP4, rp, hw⟩ := I
  refine gi_iconst (q := 126) (v := 0) C (dm_Mo_build 75 rfl) rfl (by decide) ?_
  refine gi_istore_n (q := 127) (i := 1) C (dm_Mo_build 76 rfl) rfl rfl (Nat.le_of_ble_eq_true rfl) ?_
  refine gi_while (σ := Nat) (fun m => k - m) (fun m => [(1, .int (nI m)), (0, .ref M)]) (fun _ => n) (fun _ => 0) (fun _ => 0) (fun m y' => m ≤ k ∧ ∃ S4 F4, mo_at M S4 J F4 G y' ∧ outM M h y' ∧ frV F F4 ∧ frU S S4 ∧ (S4 9 = 0 ∧ S4 8 = 0 ∧ S4 10 = -1 ∧ S4 11 = -1) ∧ S4 18 = 1 ∧ prF P F4 ∧ (∀ m, m < k → rpS P m s (shf F4)) ∧ (∀ m' i, m' < m → i < pN P 5 m' → F4 16 (60 * m' + i) = bI (wdF k P (60 * m' + i)))) 0 ⟨Nat.zero_le _, S4, F4, H4, o4, f4, u4, t4, e18, hP4, rp, hw⟩ ?_ (List.forall_mem_cons.mpr ⟨rfl, List.forall_mem_cons.mpr ⟨rfl, fun _ h => absurd h List.not_mem_nil⟩⟩) rfl rfl rfl
  rintro m y' ⟨hmk, S4, F4, H4, o4, f4, u4, t4, e18, hP4, rp, hw⟩ ihm
  try dsimp only at *
  obtain ⟨fs4, Ha4, Hf4⟩ := id H4.1
  refine gi_iload_n (q := 128) (i := 1) C (dm_Mo_build 77 rfl) rfl rfl rfl ?_
  refine gi_aload_n (q := 129) (i := 0) C (dm_Mo_build 78 rfl) rfl rfl rfl ?_
  refine gi_get (q := 132) C (dm_Mo_build 79 rfl) rfl fl_Mo_176 Ha4 (mo_g0 Hf4) ?_
  rw [show S4 0 = nI k from (u4 0 (by decide) (by decide) (by decide) (by decide) (by decide) (by decide) (by decide) (by decide)).trans hk]
  refine gi_icmp_ge (q := 135) (tgt := 239) C (dm_Mo_build 80 rfl) rfl (by decide) (fun c132 => ?_) (fun c132 => ?_)
  · have ml : m = k := by
      rcases Nat.lt_or_ge m (k) with q | q
      · exact absurd c132 (Int32.not_le.mpr (nI_lt (b := k) q (by omega)))
      · omega
    subst ml
    refine gi_close (build_4 C hr W hk od hs s8 ⟨S4, F4, H4, o4, f4, u4, t4, hP4, rp, hw, ?_⟩) (List.forall_mem_cons.mpr ⟨rfl, fun _ h => absurd h List.not_mem_nil⟩) rfl rfl rfl
    refine ⟨?_, Nat.zero_le _, fun q hq => absurd hq (by omega), fun q hq => absurd hq (by omega)⟩
    rw [e18]
    rfl
  · have ml : m < k := by
      rcases Nat.lt_or_ge m (k) with q | q
      · exact q
      · exact absurd (nI_le q (by omega)) c132
    have wm := wf_ar W ml
    refine gi_iconst (q := 136) (v := 0) C (dm_Mo_build 81 rfl) rfl (by decide) ?_
    refine gi_istore_n (q := 137) (i := 2) C (dm_Mo_build 82 rfl) rfl rfl (Nat.le_of_ble_eq_true rfl) ?_
    refine gi_while (σ := Nat) (fun p => 60 - p) (fun p => [(2, .int (nI p)), (1, .int (nI m)), (0, .ref M)]) (fun _ => n) (fun _ => 0) (fun _ => 0) (fun p y' => p ≤ 60 ∧ ∃ S4 F4, mo_at M S4 J F4 G y' ∧ outM M h y' ∧ frV F F4 ∧ frU S S4 ∧ (S4 9 = 0 ∧ S4 8 = 0 ∧ S4 10 = -1 ∧ S4 11 = -1) ∧ S4 18 = 1 ∧ prF P F4 ∧ (∀ m, m < k → rpS P m s (shf F4)) ∧ (∀ m' i, m' < m → i < pN P 5 m' → F4 16 (60 * m' + i) = bI (wdF k P (60 * m' + i))) ∧ (∀ q, q < p → F4 16 (60 * m + q) = bI (decide (q = 0)))) 0 ⟨Nat.zero_le _, S4, F4, H4, o4, f4, u4, t4, e18, hP4, rp, hw, fun q hq => absurd hq (Nat.not_lt_zero _)⟩ ?_ (List.forall_mem_cons.mpr ⟨rfl, List.forall_mem_cons.mpr ⟨rfl, List.forall_mem_cons.mpr ⟨rfl, fun _ h => absurd h List.not_mem_nil⟩⟩⟩) rfl rfl rfl
    rintro p y' ⟨hp5, S4, F4, H4, o4, f4, u4, t4, e18, hP4, rp, hw, h6⟩ ihp
    try dsimp only at *
    obtain ⟨fs4, Ha4, Hf4⟩ := id H4.1
    refine gi_iload_n (q := 138) (i := 2) C (dm_Mo_build 83 rfl) rfl rfl rfl ?_
    refine gi_bipush (q := 140) (v := 60) C (dm_Mo_build 84 rfl) rfl (by decide) ?_
    refine gi_icmp_ge (q := 143) (tgt := 169) C (dm_Mo_build 85 rfl) rfl (by decide) (fun c140 => ?_) (fun c140 => ?_)
    · have pl : p = 60 := by
        rcases Nat.lt_or_ge p (60) with q | q
        · exact absurd c140 (Int32.not_le.mpr (nI_lt (b := 60) q (by omega)))
        · omega
      refine gi_iconst (q := 170) (v := 0) C (dm_Mo_build 101 rfl) rfl (by decide) ?_
      refine gi_istore_n (q := 171) (i := 2) C (dm_Mo_build 102 rfl) rfl rfl (Nat.le_of_ble_eq_true rfl) ?_
      refine gi_while (σ := Nat) (fun p => pN P 5 m - p) (fun p => [(2, .int (nI p)), (1, .int (nI m)), (0, .ref M)]) (fun _ => n) (fun _ => 0) (fun _ => 0) (fun p y' => p ≤ pN P 5 m ∧ (∃ S4 F4, mo_at M S4 J F4 G y' ∧ outM M h y' ∧ frV F F4 ∧ frU S S4 ∧ (S4 9 = 0 ∧ S4 8 = 0 ∧ S4 10 = -1 ∧ S4 11 = -1) ∧ S4 18 = 1 ∧ prF P F4 ∧ (∀ m, m < k → rpS P m s (shf F4)) ∧ (∀ m' i, m' < m → i < pN P 5 m' → F4 16 (60 * m' + i) = bI (wdF k P (60 * m' + i))) ∧ ∀ q, q < 60 → F4 16 (60 * m + q) = bI (wdI P m p q))) 0 ⟨Nat.zero_le _, S4, F4, H4, o4, f4, u4, t4, e18, hP4, rp, hw, fun q hq => by rw [h6 q (by omega)]; unfold wdI; simp⟩ ?_ (List.forall_mem_cons.mpr ⟨rfl, List.forall_mem_cons.mpr ⟨rfl, List.forall_mem_cons.mpr ⟨rfl, fun _ h => absurd h List.not_mem_nil⟩⟩⟩) rfl rfl rfl
      rintro p y' ⟨hp5, S4, F4, H4, o4, f4, u4, t4, e18, hP4, rp, hw, h6⟩ ihq
      try dsimp only at *
      obtain ⟨fs4, Ha4, Hf4⟩ := id H4.1
      refine gi_iload_n (q := 172) (i := 2) C (dm_Mo_build 103 rfl) rfl rfl rfl ?_
      refine gi_aload_n (q := 173) (i := 0) C (dm_Mo_build 104 rfl) rfl rfl rfl ?_
      refine gi_get (q := 176) C (dm_Mo_build 105 rfl) rfl fl_Mo_22 Ha4 (mo_g5 Hf4) ?_
      refine gi_iload_n (q := 177) (i := 1) C (dm_Mo_build 106 rfl) rfl rfl rfl ?_
      refine gi_iald (q := 178) C (dm_Mo_build 107 rfl) rfl rfl (mo_a5 H4) (inN (show m < 8 by omega) (by decide)) ?_
      rw [nI_clamp (show m < 2 ^ 31 by omega), hP4 5 (by decide) (by decide), (wf_n W ml).2.2.2.1]
      refine gi_icmp_ge (q := 181) (tgt := 233) C (dm_Mo_build 108 rfl) rfl (by decide) (fun c178 => ?_) (fun c178 => ?_)
      · have pl : p = pN P 5 m := by
          rcases Nat.lt_or_ge p (pN P 5 m) with q | q
          · exact absurd c178 (Int32.not_le.mpr (nI_lt (b := pN P 5 m) q (by omega)))
          · omega
        refine gi_iinc (q := 236) (v := 1) C (dm_Mo_build 142 rfl) rfl rfl (by decide) (Nat.le_of_ble_eq_true rfl) ?_
        refine gi_goto (tgt := 127) C (dm_Mo_build 143 rfl) (by decide) ?_
        refine gi_close (ihm (m + 1) _ ⟨ml, S4, F4, H4, o4, f4, u4, t4, e18, hP4, rp, fun m' i' h1 h2 => by
            by_cases z : m' = m
            · subst z
              rw [wdF_I W ml h2, ← pl]
              exact h6 i' (by have := wf_ar W ml; omega)
            · exact hw m' i' (by omega) h2⟩ (by omega)) (List.forall_mem_cons.mpr ⟨(by simp [gi_look, nI_1]), List.forall_mem_cons.mpr ⟨rfl, fun _ h => absurd h List.not_mem_nil⟩⟩) rfl rfl rfl
      · have pl : p < pN P 5 m := by
          rcases Nat.lt_or_ge p (pN P 5 m) with q | q
          · exact q
          · exact absurd (nI_le q (by omega)) c178
        have eop := wf_op W ml pl
        have oj := (od_all W od m p ml pl).2.1
        refine gi_aload_n (q := 182) (i := 0) C (dm_Mo_build 109 rfl) rfl rfl rfl ?_
        refine gi_get (q := 185) C (dm_Mo_build 110 rfl) rfl fl_Mo_28 Ha4 (mo_g7 Hf4) ?_
        refine gi_bipush (q := 187) (v := 60) C (dm_Mo_build 111 rfl) rfl (by decide) ?_
        refine gi_iload_n (q := 188) (i := 1) C (dm_Mo_build 112 rfl) rfl rfl rfl ?_
        refine gi_imul (q := 189) C (dm_Mo_build 113 rfl) rfl ?_
        refine gi_iload_n (q := 190) (i := 2) C (dm_Mo_build 114 rfl) rfl rfl rfl ?_
        refine gi_iadd (q := 191) C (dm_Mo_build 115 rfl) rfl ?_
        rw [show (60 : Int32) = nI 60 from rfl, nI_ml, nI_add]
        refine gi_iald (q := 192) C (dm_Mo_build 116 rfl) rfl rfl (mo_a7 H4) (inN (show 60 * m + p < 480 by omega) (by decide)) ?_
        rw [nI_clamp (show 60 * m + p < 2 ^ 31 by omega), hP4 7 (by decide) (by decide)]
        refine gi_istore_n (q := 193) (i := 3) C (dm_Mo_build 117 rfl) rfl rfl (Nat.le_of_ble_eq_true rfl) ?_
        refine gi_aload_n (q := 194) (i := 0) C (dm_Mo_build 118 rfl) rfl rfl rfl ?_
        refine gi_get (q := 197) C (dm_Mo_build 119 rfl) rfl fl_Mo_25 Ha4 (mo_g6 Hf4) ?_
        refine gi_bipush (q := 199) (v := 60) C (dm_Mo_build 120 rfl) rfl (by decide) ?_
        refine gi_iload_n (q := 200) (i := 1) C (dm_Mo_build 121 rfl) rfl rfl rfl ?_
        refine gi_imul (q := 201) C (dm_Mo_build 122 rfl) rfl ?_
        refine gi_iload_n (q := 202) (i := 2) C (dm_Mo_build 123 rfl) rfl rfl rfl ?_
        refine gi_iadd (q := 203) C (dm_Mo_build 124 rfl) rfl ?_
        rw [show (60 : Int32) = nI 60 from rfl, nI_ml, nI_add]
        refine gi_iald (q := 204) C (dm_Mo_build 125 rfl) rfl rfl (mo_a6 H4) (inN (show 60 * m + p < 480 by omega) (by decide)) ?_
        rw [nI_clamp (show 60 * m + p < 2 ^ 31 by omega), hP4 6 (by decide) (by decide), eop.1]
        refine gi_calls 1 (q := 207) C (dm_Mo_build 126 rfl) rfl my_Mo_goesTo lk_Mo_214 sm_Mo_goesTo (c_Mo_goesTo (pN P 6 (60 * m + p)) eop.2) rfl rfl ⟨(Nat.le_of_ble_eq_true rfl), (Nat.le_of_ble_eq_true rfl)⟩ (Nat.le_of_ble_eq_true rfl) ⟨(Nat.le_of_ble_eq_true rfl), (Nat.le_of_ble_eq_true rfl)⟩ (fun r204 n204 h204 e204 => ?_)
        obtain ⟨rfl, q204, u204⟩ := e204
        rw [q204, u204]
        refine gi_if_eq (q := 210) (tgt := 227) C (dm_Mo_build 127 rfl) rfl (by decide) (fun c207 => ?_) (fun c207 => ?_)
        · refine gi_iinc (q := 230) (v := 1) C (dm_Mo_build 140 rfl) rfl rfl (by decide) (Nat.le_of_ble_eq_true rfl) ?_
          refine gi_goto (tgt := 171) C (dm_Mo_build 141 rfl) (by decide) ?_
          refine gi_close (ihq (p + 1) _ ⟨by omega, S4, F4, H4, o4, f4, u4, t4, e18, hP4, rp, hw, fun q hq => by
              rw [wdI_s]
              rw [show jpT P m q p = false from by
                unfold jpT
                first
                  | (have z := bI_fa c207
                     rw [Bool.and_eq_false_iff, decide_eq_false_iff_not, decide_eq_false_iff_not] at z
                     simp
                     omega)
                  | (rw [j9, nI_ltP (by omega) (by omega)] at c212
                     simp
                     omega), Bool.or_false]
              exact h6 q hq⟩ (by omega)) (List.forall_mem_cons.mpr ⟨(by simp [gi_look, nI_1]), List.forall_mem_cons.mpr ⟨rfl, List.forall_mem_cons.mpr ⟨rfl, fun _ h => absurd h List.not_mem_nil⟩⟩⟩) rfl rfl rfl
        · have tj : 19 ≤ pN P 6 (60 * m + p) ∧ pN P 6 (60 * m + p) ≤ 27 := by
            have q := bI_t c207
            rw [Bool.and_eq_true, decide_eq_true_iff, decide_eq_true_iff] at q
            exact q
          have j7 := nn_nI (a := P 7 (60 * m + p)) (oj tj).1
          have j8 : pN P 7 (60 * m + p) < pN P 5 m := by
            have q := (oj tj).2
            have q2 := j7.2
            show (P 7 (60 * m + p)).toNatClampNeg < _
            omega
          have j9 : P 7 (60 * m + p) = nI (pN P 7 (60 * m + p)) := j7.1
          refine gi_iload_n (q := 211) (i := 3) C (dm_Mo_build 128 rfl) rfl rfl rfl ?_
          refine gi_iload_n (q := 212) (i := 2) C (dm_Mo_build 129 rfl) rfl rfl rfl ?_
          refine gi_icmp_gt (q := 215) (tgt := 227) C (dm_Mo_build 130 rfl) rfl (by decide) (fun c212 => ?_) (fun c212 => ?_)
          · refine gi_iinc (q := 230) (v := 1) C (dm_Mo_build 140 rfl) rfl rfl (by decide) (Nat.le_of_ble_eq_true rfl) ?_
            refine gi_goto (tgt := 171) C (dm_Mo_build 141 rfl) (by decide) ?_
            refine gi_close (ihq (p + 1) _ ⟨by omega, S4, F4, H4, o4, f4, u4, t4, e18, hP4, rp, hw, fun q hq => by
                rw [wdI_s]
                rw [show jpT P m q p = false from by
                  unfold jpT
                  first
                    | (have z := bI_fa c207
                       rw [Bool.and_eq_false_iff, decide_eq_false_iff_not, decide_eq_false_iff_not] at z
                       simp
                       omega)
                    | (rw [j9, nI_ltP (by omega) (by omega)] at c212
                       simp
                       omega), Bool.or_false]
                exact h6 q hq⟩ (by omega)) (List.forall_mem_cons.mpr ⟨(by simp [gi_look, nI_1]), List.forall_mem_cons.mpr ⟨rfl, List.forall_mem_cons.mpr ⟨rfl, fun _ h => absurd h List.not_mem_nil⟩⟩⟩) rfl rfl rfl
          · have le : pN P 7 (60 * m + p) ≤ p := by
              rw [j9, nI_ltP (by omega) (by omega)] at c212
              omega
            have H := H4
            have Ha := Ha4
            have Hf := Hf4
            have ho := o4
            refine gi_aload_n (q := 216) (i := 0) C (dm_Mo_build 131 rfl) rfl rfl rfl ?_
            refine gi_get (q := 219) C (dm_Mo_build 132 rfl) rfl fl_Mo_51 Ha4 (mo_g16 Hf4) ?_
            refine gi_bipush (q := 221) (v := 60) C (dm_Mo_build 133 rfl) rfl (by decide) ?_
            refine gi_iload_n (q := 222) (i := 1) C (dm_Mo_build 134 rfl) rfl rfl rfl ?_
            refine gi_imul (q := 223) C (dm_Mo_build 135 rfl) rfl ?_
            refine gi_iload_n (q := 224) (i := 3) C (dm_Mo_build 136 rfl) rfl rfl rfl ?_
            rw [j9, show (60 : Int32) = nI 60 from rfl, nI_ml]
            refine gi_iadd (q := 225) C (dm_Mo_build 137 rfl) rfl ?_
            rw [nI_add]
            refine gi_iconst (q := 226) (v := 1) C (dm_Mo_build 138 rfl) rfl (by decide) ?_
            refine gi_zast (q := 227) C (dm_Mo_build 139 rfl) rfl rfl (mo_a16 H) (inN (show 60 * m + pN P 7 (60 * m + p) < 480 by omega) (by decide)) ?_
            refine gi_genM (H.setI (p := 11) (k := 16) (by decide) rfl rfl (by decide) rfl (by omega)) (ho.up (by omega) (by omega)) (fun y H ho => ?_)
            obtain ⟨fs, Ha, Hf⟩ := id H.1
            have H : mo_at M S4 J (upA F4 16 (upd (F4 16) (60 * m + pN P 7 (60 * m + p)) 1)) G y := by
              rw [nI_clamp (show 60 * m + pN P 7 (60 * m + p) < 2 ^ 31 by omega)] at H
              exact H
            refine gi_iinc (q := 230) (v := 1) C (dm_Mo_build 140 rfl) rfl rfl (by decide) (Nat.le_of_ble_eq_true rfl) ?_
            refine gi_goto (tgt := 171) C (dm_Mo_build 141 rfl) (by decide) ?_
            refine gi_close (ihq (p + 1) _ ⟨by omega, _, _, H, ho, fun j hj => by rw [upA_n (by omega)]; exact f4 j hj, u4, t4, e18, fun j q1 q2 => by rw [upA_n (by omega)]; exact hP4 j q1 q2, rp, fun m' i' h1 h2 => by
                have wm' := wf_ar W (show m' < k by omega)
                rw [upA_i, upd_is, if_neg (by omega)]
                exact hw m' i' h1 h2, fun q hq => by
                rw [wdI_s]
                rw [upA_i, upd_is]
                by_cases z : q = pN P 7 (60 * m + p)
                · rw [if_pos (by omega), show jpT P m q p = true from by unfold jpT; rw [decide_eq_true tj.1, decide_eq_true tj.2, decide_eq_true z.symm, decide_eq_true (show q ≤ p by omega)]; rfl, Bool.or_true]
                  rfl
                · rw [if_neg (by omega), show jpT P m q p = false from by unfold jpT; rw [decide_eq_false (show ¬ pN P 7 (60 * m + p) = q from fun z2 => z z2.symm)]; simp, Bool.or_false]
                  exact h6 q hq⟩ (by omega)) (List.forall_mem_cons.mpr ⟨(by simp [gi_look, nI_1]), List.forall_mem_cons.mpr ⟨rfl, List.forall_mem_cons.mpr ⟨rfl, fun _ h => absurd h List.not_mem_nil⟩⟩⟩) rfl rfl rfl
    · have pl : p < 60 := by
        rcases Nat.lt_or_ge p (60) with q | q
        · exact q
        · exact absurd (nI_le q (by omega)) c140
      have H := H4
      have Ha := Ha4
      have Hf := Hf4
      have ho := o4
      refine gi_aload_n (q := 144) (i := 0) C (dm_Mo_build 86 rfl) rfl rfl rfl ?_
      refine gi_get (q := 147) C (dm_Mo_build 87 rfl) rfl fl_Mo_51 Ha4 (mo_g16 Hf4) ?_
      refine gi_bipush (q := 149) (v := 60) C (dm_Mo_build 88 rfl) rfl (by decide) ?_
      refine gi_iload_n (q := 150) (i := 1) C (dm_Mo_build 89 rfl) rfl rfl rfl ?_
      refine gi_imul (q := 151) C (dm_Mo_build 90 rfl) rfl ?_
      refine gi_iload_n (q := 152) (i := 2) C (dm_Mo_build 91 rfl) rfl rfl rfl ?_
      refine gi_iadd (q := 153) C (dm_Mo_build 92 rfl) rfl ?_
      rw [show (60 : Int32) = nI 60 from rfl, nI_ml, nI_add]
      refine gi_iload_n (q := 154) (i := 2) C (dm_Mo_build 93 rfl) rfl rfl rfl ?_
      refine gi_if_ne (q := 157) (tgt := 161) C (dm_Mo_build 94 rfl) rfl (by decide) (fun c154 => ?_) (fun c154 => ?_)
      · refine gi_iconst (q := 162) (v := 0) C (dm_Mo_build 97 rfl) rfl (by decide) ?_
        refine gi_zast (q := 163) C (dm_Mo_build 98 rfl) rfl rfl (mo_a16 H) (inN (show 60 * m + p < 480 by omega) (by decide)) ?_
        refine gi_genM (H.setI (p := 11) (k := 16) (by decide) rfl rfl (by decide) rfl (by omega)) (ho.up (by omega) (by omega)) (fun y H ho => ?_)
        obtain ⟨fs, Ha, Hf⟩ := id H.1
        have H : mo_at M S4 J (upA F4 16 (upd (F4 16) (60 * m + p) (bI (decide (p = 0))))) G y := by
          rw [nI_clamp (show 60 * m + p < 2 ^ 31 by omega), show (vp_nar .boolean (0 : Int32)) = bI (decide (p = 0)) from by rw [decide_eq_false (show ¬ p = 0 from fun z => c154 (by rw [z]; rfl))]; rfl] at H
          exact H
        refine gi_iinc (q := 166) (v := 1) C (dm_Mo_build 99 rfl) rfl rfl (by decide) (Nat.le_of_ble_eq_true rfl) ?_
        refine gi_goto (tgt := 137) C (dm_Mo_build 100 rfl) (by decide) ?_
        refine gi_close (ihp (p + 1) _ ⟨by omega, _, _, H, ho, fun j hj => by rw [upA_n (by omega)]; exact f4 j hj, u4, t4, e18, fun j q1 q2 => by rw [upA_n (by omega)]; exact hP4 j q1 q2, rp, fun m' i' h1 h2 => by
            have wm' := wf_ar W (show m' < k by omega)
            rw [upA_i, upd_is, if_neg (by omega)]
            exact hw m' i' h1 h2, fun q hq => by
            rw [upA_i, upd_is]
            by_cases z : q = p
            · rw [if_pos (by omega), z]
            · rw [if_neg (by omega)]
              exact h6 q (by omega)⟩ (by omega)) (List.forall_mem_cons.mpr ⟨(by simp [gi_look, nI_1]), List.forall_mem_cons.mpr ⟨rfl, List.forall_mem_cons.mpr ⟨rfl, fun _ h => absurd h List.not_mem_nil⟩⟩⟩) rfl rfl rfl
      · refine gi_iconst (q := 158) (v := 1) C (dm_Mo_build 95 rfl) rfl (by decide) ?_
        refine gi_goto (tgt := 162) C (dm_Mo_build 96 rfl) (by decide) ?_
        refine gi_zast (q := 163) C (dm_Mo_build 98 rfl) rfl rfl (mo_a16 H) (inN (show 60 * m + p < 480 by omega) (by decide)) ?_
        refine gi_genM (H.setI (p := 11) (k := 16) (by decide) rfl rfl (by decide) rfl (by omega)) (ho.up (by omega) (by omega)) (fun y H ho => ?_)
        obtain ⟨fs, Ha, Hf⟩ := id H.1
        have H : mo_at M S4 J (upA F4 16 (upd (F4 16) (60 * m + p) (bI (decide (p = 0))))) G y := by
          rw [nI_clamp (show 60 * m + p < 2 ^ 31 by omega), show (vp_nar .boolean (1 : Int32)) = bI (decide (p = 0)) from by rw [decide_eq_true (show p = 0 from by rw [← nI_z (by omega)]; exact c154)]; rfl] at H
          exact H
        refine gi_iinc (q := 166) (v := 1) C (dm_Mo_build 99 rfl) rfl rfl (by decide) (Nat.le_of_ble_eq_true rfl) ?_
        refine gi_goto (tgt := 137) C (dm_Mo_build 100 rfl) (by decide) ?_
        refine gi_close (ihp (p + 1) _ ⟨by omega, _, _, H, ho, fun j hj => by rw [upA_n (by omega)]; exact f4 j hj, u4, t4, e18, fun j q1 q2 => by rw [upA_n (by omega)]; exact hP4 j q1 q2, rp, fun m' i' h1 h2 => by
            have wm' := wf_ar W (show m' < k by omega)
            rw [upA_i, upd_is, if_neg (by omega)]
            exact hw m' i' h1 h2, fun q hq => by
            rw [upA_i, upd_is]
            by_cases z : q = p
            · rw [if_pos (by omega), z]
            · rw [if_neg (by omega)]
              exact h6 q (by omega)⟩ (by omega)) (List.forall_mem_cons.mpr ⟨(by simp [gi_look, nI_1]), List.forall_mem_cons.mpr ⟨rfl, List.forall_mem_cons.mpr ⟨rfl, fun _ h => absurd h List.not_mem_nil⟩⟩⟩) rfl rfl rfl
set_option maxHeartbeats 4000000 in
set_option maxRecDepth 100000 in
theorem build_2 {p : Program} {e : Env} {sg : State} {mi : MethodId} {args : Array Value} {below : List Frame} {meth : Method} {c : Code} (C : gi_C p sg mi args meth c b_Mo_build 4 y_Mo_build.cls V) (hr : meth.sig.returnType = (some .int)) (W : wfP k P) (hk : S 0 = nI k) (od : odF k P = none) {y : gi_H} (I : ∃ S4 F4 s, mo_at M S4 J F4 G y ∧ outM M h y ∧ frV F F4 ∧ frU S S4 ∧ (S4 9 = 0 ∧ S4 8 = 0 ∧ S4 10 = -1 ∧ S4 11 = -1) ∧ prF P F4 ∧ shA P 0 = .inr s ∧ (∀ m', m' < 0 → rpS P m' s (shf F4))) : gi_G p l e { frames := 4, cells := 0, slots := 0, locals := 91 } sg mi args below meth c (MQ below (gi_Qc V (fun v n' h' => n' = n ∧ mbP M k J G h S F P v h')) args sg 0 0 (fun q : Nat => V.2.2 ≤ q)) V 4 0 0 92 [(0, .ref M)] [] n y := by
  have w8 := W.k8
  obtain ⟨S4, F4, s, H4, o4, f4, u4, t4, hP4, hs, rp⟩ := I
  refine gi_iconst (q := 93) (v := 0) C (dm_Mo_build 56 rfl) rfl (by decide) ?_
  refine gi_istore_n (q := 94) (i := 1) C (dm_Mo_build 57 rfl) rfl rfl (Nat.le_of_ble_eq_true rfl) ?_
  refine gi_while (σ := Nat) (fun m => k - m) (fun m => [(1, .int (nI m)), (0, .ref M)]) (fun _ => n) (fun _ => 0) (fun _ => 0) (fun m y' => m ≤ k ∧ ∃ S4 F4 s, mo_at M S4 J F4 G y' ∧ outM M h y' ∧ frV F F4 ∧ frU S S4 ∧ (S4 9 = 0 ∧ S4 8 = 0 ∧ S4 10 = -1 ∧ S4 11 = -1) ∧ prF P F4 ∧ shA P m = .inr s ∧ (∀ m', m' < m → rpS P m' s (shf F4))) 0 ⟨Nat.zero_le _, S4, F4, s, H4, o4, f4, u4, t4, hP4, hs, rp⟩ ?_ (List.forall_mem_cons.mpr ⟨rfl, List.forall_mem_cons.mpr ⟨rfl, fun _ h => absurd h List.not_mem_nil⟩⟩) rfl rfl rfl
  rintro m y' ⟨hmk, S4, F4, s, H4, o4, f4, u4, t4, hP4, hs, rp⟩ ihm
  try dsimp only at *
  obtain ⟨fs4, Ha4, Hf4⟩ := id H4.1
  refine gi_iload_n (q := 95) (i := 1) C (dm_Mo_build 58 rfl) rfl rfl rfl ?_
  refine gi_aload_n (q := 96) (i := 0) C (dm_Mo_build 59 rfl) rfl rfl rfl ?_
  refine gi_get (q := 99) C (dm_Mo_build 60 rfl) rfl fl_Mo_176 Ha4 (mo_g0 Hf4) ?_
  rw [show S4 0 = nI k from (u4 0 (by decide) (by decide) (by decide) (by decide) (by decide) (by decide) (by decide) (by decide)).trans hk]
  refine gi_icmp_ge (q := 102) (tgt := 120) C (dm_Mo_build 61 rfl) rfl (by decide) (fun c99 => ?_) (fun c99 => ?_)
  · have ml : m = k := by
      rcases Nat.lt_or_ge m (k) with q | q
      · exact absurd c99 (Int32.not_le.mpr (nI_lt (b := k) q (by omega)))
      · omega
    subst ml
    have H := H4
    have Ha := Ha4
    have Hf := Hf4
    have ho := o4
    have sI := shA_in W m (Nat.le_refl _) hs
    refine gi_aload_n (q := 121) (i := 0) C (dm_Mo_build 72 rfl) rfl rfl rfl ?_
    refine gi_iconst (q := 122) (v := 1) C (dm_Mo_build 73 rfl) rfl (by decide) ?_
    refine gi_put (q := 125) C (dm_Mo_build 74 rfl) rfl fl_Mo_229 fp_Mo_18 Ha (by rw [Hf.1]; decide) rfl rfl ?_
    refine gi_genM (H.putI Ha Hf (by decide) rfl) (ho.up (by omega) (by omega)) (fun y H ho => ?_)
    obtain ⟨fs, Ha, Hf⟩ := id H.1
    refine gi_close (build_3 C hr W hk od hs (fun q x e => by obtain ⟨_, _, _, _, _, h5, h6⟩ := sI.1 q x e; exact ⟨h5, h6⟩) ⟨_, F4, H, ho, f4, fun j a1 a2 a3 a4 a5 a6 a7 a8 => ?_, ⟨t4.1, t4.2.1, t4.2.2.1, t4.2.2.2⟩, rfl, hP4, rp, fun m' i h1 => absurd h1 (Nat.not_lt_zero _)⟩) (List.forall_mem_cons.mpr ⟨rfl, fun _ h => absurd h List.not_mem_nil⟩) rfl rfl rfl
    show upS S4 18 1 j = S j
    unfold upS
    rw [if_neg a5]
    exact u4 j a1 a2 a3 a4 a5 a6 a7 a8
  · have ml : m < k := by
      rcases Nat.lt_or_ge m (k) with q | q
      · exact q
      · exact absurd (nI_le q (by omega)) c99
    refine gi_aload_n (q := 103) (i := 0) C (dm_Mo_build 62 rfl) rfl rfl rfl ?_
    refine gi_iload_n (q := 104) (i := 1) C (dm_Mo_build 63 rfl) rfl rfl rfl ?_
    refine gi_callv 1 (q := 107) C (dm_Mo_build 64 rfl) rfl my_Mo_shapes lk_Mo_225 im_Mo_shapes rfl (c_Mo_shapes W ml (fun i hi => od_all W od m i ml hi) hP4 (shA_in W m (by omega) hs) H4) Ha4 rfl rfl ⟨(Nat.le_of_ble_eq_true rfl), (Nat.le_of_ble_eq_true rfl)⟩ (Nat.le_of_ble_eq_true rfl) ⟨(Nat.le_of_ble_eq_true rfl), (Nat.le_of_ble_eq_true rfl)⟩ (fun r104 n104 h104 e104 => ?_)
    obtain ⟨rfl, S5, F5, H5, o5, q5, w5, z5⟩ := e104
    have f5 : frV F F5 := fun j hj => by rw [q5.1 j (by omega) (by omega) (by omega)]; exact f4 j hj
    have u5 : frU S S5 := fun j a1 a2 a3 a4 a5 a6 a7 a8 => by rw [w5 j a3 a4 a6 a7 a8]; exact u4 j a1 a2 a3 a4 a5 a6 a7 a8
    rcases z5 with ⟨e5, a5, b5, c5, d5, g5, i5⟩ | ⟨s', a5, b5, c5, d5, g5⟩
    all_goals subst b5
    · refine gi_istore_n (q := 108) (i := 2) C (dm_Mo_build 65 rfl) rfl rfl (Nat.le_of_ble_eq_true rfl) ?_
      refine gi_iload_n (q := 109) (i := 2) C (dm_Mo_build 66 rfl) rfl rfl rfl ?_
      refine gi_if_eq (q := 112) (tgt := 114) C (dm_Mo_build 67 rfl) rfl (by decide) (fun c109 => ?_) (fun c109 => ?_)
      · exact absurd c109 (ng_nz i5 g5)
      · refine gi_iload_n (q := 113) (i := 2) C (dm_Mo_build 68 rfl) rfl rfl rfl ?_
        refine gi_iret C hr (dm_Mo_build 69 rfl) ?_
        have sk : shA P k = .inl e5 := by
          have q := shA_inl (P := P) (m := m + 1) (e := e5) (by rw [shA_s1 hs]; exact a5) (k - (m + 1))
          rw [show m + 1 + (k - (m + 1)) = k by omega] at q
          exact q
        exact ⟨rfl, S5, F5, H5, o4.tr o5, f5, u5, by rw [w5 9 (by decide) (by decide) (by decide) (by decide) (by decide)]; exact t4.1, Or.inl ⟨e5, bld_2 od sk, rfl, by rw [w5 8 (by decide) (by decide) (by decide) (by decide) (by decide)]; exact t4.2.1, c5, d5⟩⟩
    · refine gi_istore_n (q := 108) (i := 2) C (dm_Mo_build 65 rfl) rfl rfl (Nat.le_of_ble_eq_true rfl) ?_
      refine gi_iload_n (q := 109) (i := 2) C (dm_Mo_build 66 rfl) rfl rfl rfl ?_
      refine gi_if_eq (q := 112) (tgt := 114) C (dm_Mo_build 67 rfl) rfl (by decide) (fun c109 => ?_) (fun c109 => ?_)
      · have ot := meS_out W ml (shA_in W m (by omega) hs) a5
        refine gi_iinc (q := 117) (v := 1) C (dm_Mo_build 70 rfl) rfl rfl (by decide) (Nat.le_of_ble_eq_true rfl) ?_
        refine gi_goto (tgt := 94) C (dm_Mo_build 71 rfl) (by decide) ?_
        refine gi_close (ihm (m + 1) _ ⟨ml, S5, F5, s', H5, o4.tr o5, f5, u5, ⟨by rw [w5 9 (by decide) (by decide) (by decide) (by decide) (by decide)]; exact t4.1, by rw [w5 8 (by decide) (by decide) (by decide) (by decide) (by decide)]; exact t4.2.1, c5.trans t4.2.2.1, d5.trans t4.2.2.2⟩, q5.p hP4, by rw [shA_s1 hs]; exact a5, fun m' hm' => by
            by_cases z : m' = m
            · subst z; exact g5
            · intro i' hi'
              have wm' := wf_ar W (show m' < k by omega)
              rw [ot _ (by omega)]
              show (_ → F5 12 _ = _) ∧ ∀ x, _ → F5 12 _ = _ ∧ F5 13 _ = _
              rw [q5.2 12 _ (by omega), q5.2 13 _ (by omega)]
              exact rp m' (by omega) i' hi'⟩ (by omega)) (List.forall_mem_cons.mpr ⟨(by simp [gi_look, nI_1]), List.forall_mem_cons.mpr ⟨rfl, fun _ h => absurd h List.not_mem_nil⟩⟩) rfl rfl rfl
      · exact absurd rfl c109
def odB (k : Nat) (P : Pm) (p : Nat) : Bool := vldB k P p && !opdB k P (p / 60) (pN P 6 p) (P 7 p)
theorem odB_v (W : wfP k P) (hm : m < k) (hi : i < pN P 5 m) : odB k P (60 * m + i) = !opdB k P m (pN P 6 (60 * m + i)) (P 7 (60 * m + i)) := by
  unfold odB
  rw [(isSi_v (s := fun _ => none) W hm hi).1, show (60 * m + i) / 60 = m by have := wf_ar W hm; omega, Bool.true_and]
set_option maxHeartbeats 4000000 in
set_option maxRecDepth 100000 in
theorem build_1 {p : Program} {e : Env} {sg : State} {mi : MethodId} {args : Array Value} {below : List Frame} {meth : Method} {c : Code} (C : gi_C p sg mi args meth c b_Mo_build 4 y_Mo_build.cls V) (hr : meth.sig.returnType = (some .int)) (W : wfP k P) (hk : S 0 = nI k) (hP : prF P F) {y : gi_H} (H4 : mo_at M (s0B S) J F G y) (o4 : outM M h y) : gi_G p l e { frames := 4, cells := 0, slots := 0, locals := 91 } sg mi args below meth c (MQ below (gi_Qc V (fun v n' h' => n' = n ∧ mbP M k J G h S F P v h')) args sg 0 0 (fun q : Nat => V.2.2 ≤ q)) V 4 0 0 20 [(0, .ref M)] [] n y := by
  have w8 := W.k8
  obtain ⟨fs4, Ha4, Hf4⟩ := id H4.1
  have k4 : s0B S 0 = nI k := hk
  refine gi_iconst (q := 21) (v := 0) C (dm_Mo_build 12 rfl) rfl (by decide) ?_
  refine gi_istore_n (q := 22) (i := 1) C (dm_Mo_build 13 rfl) rfl rfl (Nat.le_of_ble_eq_true rfl) ?_
  refine gi_while (σ := Nat) (fun m => k - m) (fun m => [(1, .int (nI m)), (0, .ref M)]) (fun _ => n) (fun _ => 0) (fun _ => 0) (fun m y' => m ≤ k ∧ y = y' ∧ ∀ q, q < 60 * m → odB k P q = false) 0 ⟨Nat.zero_le _, rfl, fun q hq => absurd hq (by omega)⟩ ?_ (List.forall_mem_cons.mpr ⟨rfl, List.forall_mem_cons.mpr ⟨rfl, fun _ h => absurd h List.not_mem_nil⟩⟩) rfl rfl rfl
  rintro m y' ⟨hmk, rfl, al⟩ ihm
  try dsimp only at *
  refine gi_iload_n (q := 23) (i := 1) C (dm_Mo_build 14 rfl) rfl rfl rfl ?_
  refine gi_aload_n (q := 24) (i := 0) C (dm_Mo_build 15 rfl) rfl rfl rfl ?_
  refine gi_get (q := 27) C (dm_Mo_build 16 rfl) rfl fl_Mo_176 Ha4 (mo_g0 Hf4) ?_
  rw [k4]
  refine gi_icmp_ge (q := 30) (tgt := 92) C (dm_Mo_build 17 rfl) rfl (by decide) (fun c27 => ?_) (fun c27 => ?_)
  · have ml : m = k := by
      rcases Nat.lt_or_ge m (k) with q | q
      · exact absurd c27 (Int32.not_le.mpr (nI_lt (b := k) q (by omega)))
      · omega
    subst ml
    have od : odF m P = none := rng_no (fun q hq => by
      show odB m P q = false
      rcases Nat.lt_or_ge q (60 * m) with z | z
      · exact al q z
      · unfold odB
        rw [vld_end (by omega)]
        rfl)
    refine gi_close (build_2 C hr W hk od ⟨_, F, fun _ => none, H4, o4, fun j hj => rfl, fun j a1 a2 a3 a4 a5 a6 a7 a8 => ?_, ⟨rfl, rfl, rfl, rfl⟩, hP, rfl, fun m' h1 => absurd h1 (Nat.not_lt_zero _)⟩) (List.forall_mem_cons.mpr ⟨rfl, fun _ h => absurd h List.not_mem_nil⟩) rfl rfl rfl
    unfold s0B upS
    simp [a1, a2, a3, a4]
  · have ml : m < k := by
      rcases Nat.lt_or_ge m (k) with q | q
      · exact q
      · exact absurd (nI_le q (by omega)) c27
    have wm := wf_ar W ml
    refine gi_iconst (q := 31) (v := 0) C (dm_Mo_build 18 rfl) rfl (by decide) ?_
    refine gi_istore_n (q := 32) (i := 2) C (dm_Mo_build 19 rfl) rfl rfl (Nat.le_of_ble_eq_true rfl) ?_
    refine gi_while (σ := Nat) (fun p => pN P 5 m - p) (fun p => [(2, .int (nI p)), (1, .int (nI m)), (0, .ref M)]) (fun _ => n) (fun _ => 0) (fun _ => 0) (fun p y' => p ≤ pN P 5 m ∧ y = y' ∧ ∀ q, q < 60 * m + p → odB k P q = false) 0 ⟨Nat.zero_le _, rfl, al⟩ ?_ (List.forall_mem_cons.mpr ⟨rfl, List.forall_mem_cons.mpr ⟨rfl, List.forall_mem_cons.mpr ⟨rfl, fun _ h => absurd h List.not_mem_nil⟩⟩⟩) rfl rfl rfl
    rintro p y' ⟨hp5, rfl, al⟩ ihp
    try dsimp only at *
    refine gi_iload_n (q := 33) (i := 2) C (dm_Mo_build 20 rfl) rfl rfl rfl ?_
    refine gi_aload_n (q := 34) (i := 0) C (dm_Mo_build 21 rfl) rfl rfl rfl ?_
    refine gi_get (q := 37) C (dm_Mo_build 22 rfl) rfl fl_Mo_22 Ha4 (mo_g5 Hf4) ?_
    refine gi_iload_n (q := 38) (i := 1) C (dm_Mo_build 23 rfl) rfl rfl rfl ?_
    refine gi_iald (q := 39) C (dm_Mo_build 24 rfl) rfl rfl (mo_a5 H4) (inN (show m < 8 by omega) (by decide)) ?_
    rw [nI_clamp (show m < 2 ^ 31 by omega), hP 5 (by decide) (by decide), (wf_n W ml).2.2.2.1]
    refine gi_icmp_ge (q := 42) (tgt := 86) C (dm_Mo_build 25 rfl) rfl (by decide) (fun c39 => ?_) (fun c39 => ?_)
    · have pl : p = pN P 5 m := by
        rcases Nat.lt_or_ge p (pN P 5 m) with q | q
        · exact absurd c39 (Int32.not_le.mpr (nI_lt (b := pN P 5 m) q (by omega)))
        · omega
      refine gi_iinc (q := 89) (v := 1) C (dm_Mo_build 54 rfl) rfl rfl (by decide) (Nat.le_of_ble_eq_true rfl) ?_
      refine gi_goto (tgt := 22) C (dm_Mo_build 55 rfl) (by decide) ?_
      refine gi_close (ihm (m + 1) _ ⟨ml, rfl, fun q hq => by
          rcases Nat.lt_or_ge q (60 * m + p) with z | z
          · exact al q z
          · unfold odB
            rw [vld_gap (m := m) (by omega) (by omega)]
            rfl⟩ (by omega)) (List.forall_mem_cons.mpr ⟨(by simp [gi_look, nI_1]), List.forall_mem_cons.mpr ⟨rfl, fun _ h => absurd h List.not_mem_nil⟩⟩) rfl rfl rfl
    · have pl : p < pN P 5 m := by
        rcases Nat.lt_or_ge p (pN P 5 m) with q | q
        · exact q
        · exact absurd (nI_le q (by omega)) c39
      have eop := wf_op W ml pl
      have ob := odB_v W ml pl
      refine gi_aload_n (q := 43) (i := 0) C (dm_Mo_build 26 rfl) rfl rfl rfl ?_
      refine gi_iload_n (q := 44) (i := 1) C (dm_Mo_build 27 rfl) rfl rfl rfl ?_
      refine gi_aload_n (q := 45) (i := 0) C (dm_Mo_build 28 rfl) rfl rfl rfl ?_
      refine gi_get (q := 48) C (dm_Mo_build 29 rfl) rfl fl_Mo_25 Ha4 (mo_g6 Hf4) ?_
      refine gi_bipush (q := 50) (v := 60) C (dm_Mo_build 30 rfl) rfl (by decide) ?_
      refine gi_iload_n (q := 51) (i := 1) C (dm_Mo_build 31 rfl) rfl rfl rfl ?_
      refine gi_imul (q := 52) C (dm_Mo_build 32 rfl) rfl ?_
      refine gi_iload_n (q := 53) (i := 2) C (dm_Mo_build 33 rfl) rfl rfl rfl ?_
      refine gi_iadd (q := 54) C (dm_Mo_build 34 rfl) rfl ?_
      rw [show (60 : Int32) = nI 60 from rfl, nI_ml, nI_add]
      refine gi_iald (q := 55) C (dm_Mo_build 35 rfl) rfl rfl (mo_a6 H4) (inN (show 60 * m + p < 480 by omega) (by decide)) ?_
      rw [nI_clamp (show 60 * m + p < 2 ^ 31 by omega), hP 6 (by decide) (by decide), eop.1]
      refine gi_aload_n (q := 56) (i := 0) C (dm_Mo_build 36 rfl) rfl rfl rfl ?_
      refine gi_get (q := 59) C (dm_Mo_build 37 rfl) rfl fl_Mo_28 Ha4 (mo_g7 Hf4) ?_
      refine gi_bipush (q := 61) (v := 60) C (dm_Mo_build 38 rfl) rfl (by decide) ?_
      refine gi_iload_n (q := 62) (i := 1) C (dm_Mo_build 39 rfl) rfl rfl rfl ?_
      refine gi_imul (q := 63) C (dm_Mo_build 40 rfl) rfl ?_
      refine gi_iload_n (q := 64) (i := 2) C (dm_Mo_build 41 rfl) rfl rfl rfl ?_
      refine gi_iadd (q := 65) C (dm_Mo_build 42 rfl) rfl ?_
      rw [show (60 : Int32) = nI 60 from rfl, nI_ml, nI_add]
      refine gi_iald (q := 66) C (dm_Mo_build 43 rfl) rfl rfl (mo_a7 H4) (inN (show 60 * m + p < 480 by omega) (by decide)) ?_
      rw [nI_clamp (show 60 * m + p < 2 ^ 31 by omega), hP 7 (by decide) (by decide)]
      refine gi_callv 3 (q := 69) C (dm_Mo_build 44 rfl) rfl my_Mo_isOperand lk_Mo_217 im_Mo_isOperand rfl (c_Mo_isOperand W ml eop.2 k4 hP H4) Ha4 rfl rfl ⟨(Nat.le_of_ble_eq_true rfl), (Nat.le_of_ble_eq_true rfl)⟩ (Nat.le_of_ble_eq_true rfl) ⟨(Nat.le_of_ble_eq_true rfl), (Nat.le_of_ble_eq_true rfl)⟩ (fun r66 n66 h66 e66 => ?_)
      obtain ⟨rfl, q66, u66⟩ := e66
      rw [q66, u66]
      refine gi_if_ne (q := 72) (tgt := 80) C (dm_Mo_build 45 rfl) rfl (by decide) (fun c69 => ?_) (fun c69 => ?_)
      · have op : odB k P (60 * m + p) = false := by rw [ob, bI_t c69]; rfl
        refine gi_iinc (q := 83) (v := 1) C (dm_Mo_build 52 rfl) rfl rfl (by decide) (Nat.le_of_ble_eq_true rfl) ?_
        refine gi_goto (tgt := 32) C (dm_Mo_build 53 rfl) (by decide) ?_
        refine gi_close (ihp (p + 1) _ ⟨pl, rfl, fun q hq => by
            by_cases z : q = 60 * m + p
            · rw [z]; exact op
            · exact al q (by omega)⟩ (by omega)) (List.forall_mem_cons.mpr ⟨(by simp [gi_look, nI_1]), List.forall_mem_cons.mpr ⟨rfl, List.forall_mem_cons.mpr ⟨rfl, fun _ h => absurd h List.not_mem_nil⟩⟩⟩) rfl rfl rfl
      · refine gi_aload_n (q := 73) (i := 0) C (dm_Mo_build 46 rfl) rfl rfl rfl ?_
        refine gi_iconst (q := 74) (v := 1) C (dm_Mo_build 47 rfl) rfl (by decide) ?_
        refine gi_iload_n (q := 75) (i := 1) C (dm_Mo_build 48 rfl) rfl rfl rfl ?_
        refine gi_iload_n (q := 76) (i := 2) C (dm_Mo_build 49 rfl) rfl rfl rfl ?_
        refine gi_callv 3 (q := 79) C (dm_Mo_build 50 rfl) rfl my_Mo_fault lk_Mo_221 im_Mo_fault rfl (c_Mo_fault 1 m p H4) Ha4 rfl rfl ⟨(Nat.le_of_ble_eq_true rfl), (Nat.le_of_ble_eq_true rfl)⟩ (Nat.le_of_ble_eq_true rfl) ⟨(Nat.le_of_ble_eq_true rfl), (Nat.le_of_ble_eq_true rfl)⟩ (fun r76 n76 h76 e76 => ?_)
        obtain ⟨rfl, rfl, H76, o76⟩ := e76
        refine gi_iret C hr (dm_Mo_build 51 rfl) ?_
        have od : odF k P = some (60 * m + p) := rng_some (by omega) (by rw [← odB, ob, bI_fa c69]; rfl) al
        have b1 := bld_1 od
        rw [show (60 * m + p) / 60 = m by omega, show (60 * m + p) % 60 = p by omega] at b1
        refine ⟨rfl, _, _, H76, o4.tr o76, fun j hj => rfl, fun j a1 a2 a3 a4 a5 a6 a7 a8 => ?_, rfl, Or.inl ⟨_, b1, rfl, rfl, rfl, rfl⟩⟩
        unfold s0B upS
        simp [a1, a2, a3, a4]
set_option maxHeartbeats 4000000 in
set_option maxRecDepth 100000 in
theorem c_Mo_build (W : wfP k P) (hk : S 0 = nI k) (hP : prF P F) (H : mo_at M S J F G h) : gi_T l V y_Mo_build b_Mo_build 4 (some .int) 4 91 0 0 [.ref M] n h (fun v n' h' => n' = n ∧ mbP M k J G h S F P v h') := by
  refine gi_enter (by decide) (Nat.le_of_ble_eq_true rfl) ?_
  intro _ _ _ _ _ _ _ _ C hr hnm
  obtain ⟨fs, Ha, Hf⟩ := id H.1
  have ho : outM M h h := outM.rf
  refine gi_aload_n (q := 1) (i := 0) C (dm_Mo_build 0 rfl) rfl rfl rfl ?_
  refine gi_iconst (q := 2) (v := 0) C (dm_Mo_build 1 rfl) rfl (by decide) ?_
  refine gi_put (q := 5) C (dm_Mo_build 2 rfl) rfl fl_Mo_179 fp_Mo_8 Ha (by rw [Hf.1]; decide) rfl rfl ?_
  refine gi_genM (H.putI Ha Hf (by decide) rfl) (ho.up (by omega) (by omega)) (fun y H ho => ?_)
  obtain ⟨fs, Ha, Hf⟩ := id H.1
  refine gi_aload_n (q := 6) (i := 0) C (dm_Mo_build 3 rfl) rfl rfl rfl ?_
  refine gi_iconst (q := 7) (v := 0) C (dm_Mo_build 4 rfl) rfl (by decide) ?_
  refine gi_put (q := 10) C (dm_Mo_build 5 rfl) rfl fl_Mo_183 fp_Mo_9 Ha (by rw [Hf.1]; decide) rfl rfl ?_
  refine gi_genM (H.putI Ha Hf (by decide) rfl) (ho.up (by omega) (by omega)) (fun y H ho => ?_)
  obtain ⟨fs, Ha, Hf⟩ := id H.1
  refine gi_aload_n (q := 11) (i := 0) C (dm_Mo_build 6 rfl) rfl rfl rfl ?_
  refine gi_iconst (q := 12) (v := -1) C (dm_Mo_build 7 rfl) rfl (by decide) ?_
  refine gi_put (q := 15) C (dm_Mo_build 8 rfl) rfl fl_Mo_31 fp_Mo_10 Ha (by rw [Hf.1]; decide) rfl rfl ?_
  refine gi_genM (H.putI Ha Hf (by decide) rfl) (ho.up (by omega) (by omega)) (fun y H ho => ?_)
  obtain ⟨fs, Ha, Hf⟩ := id H.1
  refine gi_aload_n (q := 16) (i := 0) C (dm_Mo_build 9 rfl) rfl rfl rfl ?_
  refine gi_iconst (q := 17) (v := -1) C (dm_Mo_build 10 rfl) rfl (by decide) ?_
  refine gi_put (q := 20) C (dm_Mo_build 11 rfl) rfl fl_Mo_35 fp_Mo_11 Ha (by rw [Hf.1]; decide) rfl rfl ?_
  refine gi_genM (H.putI Ha Hf (by decide) rfl) (ho.up (by omega) (by omega)) (fun y H ho => ?_)
  obtain ⟨fs, Ha, Hf⟩ := id H.1
  exact build_1 C hr W hk hP H ho
end RB7
