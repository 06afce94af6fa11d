-- needs: 89.21
section Q3
variable {l : Launch} {V : gi_V} {n : Nat} {h : gi_H} {X k : Nat} {cr ct : Int32} {P : Pm} {F : Fa} {Φ : Nat → mR} {sh : Nat → Option Sh} {S : Nat → Int32} {B : Nat → Nat → Int32} {bu pr : Nat}
/-- the place of a site -/
def siP (k : Nat) (P : Pm) (sh : Nat → Option Sh) (s : Nat) : Option Nat := (List.range 480).find? (fun p => isSi k P sh p && decide (snF k P sh p = s))
theorem sct_ex {s : Nat} : ∀ (p : Nat), s < sct k P sh p → ∃ q, q < p ∧ isSi k P sh q = true ∧ sct k P sh q = s
  | 0, h => absurd h (by unfold sct; omega)
  | p + 1, h => by
    unfold sct at h
    split at h
    · rename_i hs
      rcases Nat.lt_or_ge s (sct k P sh p) with z | z
      · obtain ⟨q, a, b⟩ := sct_ex p z
        exact ⟨q, by omega, b⟩
      · exact ⟨p, by omega, hs, by omega⟩
    · obtain ⟨q, a, b⟩ := sct_ex p h
      exact ⟨q, by omega, b⟩
theorem sct_24 (g : ∀ p, p < 480 → isSi k P sh p = true → sct k P sh p < 24) : ∀ p, p ≤ 480 → sct k P sh p ≤ 24
  | 0, _ => by unfold sct; omega
  | p + 1, hp => by
    have i := sct_24 g p (by omega)
    unfold sct
    split
    · rename_i hs
      have := g p (by omega) hs
      omega
    · exact i
theorem siP_ex {s : Nat} (h0 : 0 < s) (h1 : s < 1 + sct k P sh 480) : ∃ p, siP k P sh s = some p ∧ p < 480 ∧ isSi k P sh p = true ∧ snF k P sh p = s := by
  obtain ⟨q, a, b, c⟩ := sct_ex (k := k) (P := P) (sh := sh) (s := s - 1) 480 (by omega)
  cases e : siP k P sh s with
  | none =>
    have := rng_none e q a
    rw [b, Bool.true_and, decide_eq_false_iff_not] at this
    unfold snF at this
    omega
  | some p =>
    obtain ⟨p1, p2, -⟩ := rng_find e
    rw [Bool.and_eq_true, decide_eq_true_iff] at p2
    exact ⟨p, rfl, p1, p2.1, p2.2⟩
/-- the building as it was made -/
def bdI (k : Nat) (P : Pm) (sh : Nat → Option Sh) (S : Nat → Int32) (B : Nat → Nat → Int32) : Prop := bldF k P = .inr sh ∧ S 0 = 1 ∧ S 1 = nI (1 + sct k P sh 480) ∧ siI k P sh B 480 ∧ ∀ m i, m < k → i < pN P 5 m → B 9 (60 * m + i) = bI (wdF k P (60 * m + i))
def siN (k : Nat) (P : Pm) (sh : Nat → Option Sh) (p : Nat) : Nat := if isSi k P sh p = true then snF k P sh p else 0
theorem bdI.c (W : wfP k P) (H : bdI k P sh S B) : sct k P sh 480 ≤ 24 := sct_24 (bld_built W H.1).2 480 (by omega)
theorem bdI.bt (W : wfP k P) (H : bdI k P sh S B) : Built k P sh (siN k P sh) (wdF k P) := by
  obtain ⟨a, b, c, d, e, f, g⟩ := (bld_built W H.1).1
  refine ⟨a, b, c, d, e, f, fun p x hx h28 => ?_⟩
  obtain ⟨m, i, h1, h2, h3, -⟩ := b p x hx
  have wm := wf_ar W h1
  have v : vldB k P p = true := by
    rw [vldB_iff]
    unfold vld
    rw [h3, show (60 * m + i) / 60 = m by omega, show (60 * m + i) % 60 = i by omega]
    exact ⟨h1, h2⟩
  have si : isSi k P sh p = true := by
    unfold isSi
    rw [v, hx, decide_eq_true h28]
    rfl
  unfold siN
  rw [if_pos si]
  exact g p x hx h28
theorem bdI.w (W : wfP k P) (H : bdI k P sh S B) (HB : bu_at bu pr S B h) : buW bu pr k P (siN k P sh) (grF (wdF k P)) h := by
  obtain ⟨-, -, -, si, wi⟩ := H
  have w8 := W.k8
  refine ⟨S, B, HB, fun m i hm hi => ?_⟩
  have wm := wf_ar W hm
  refine ⟨?_, fun h28 => ?_⟩
  · unfold grF
    rw [decide_eq_false (by omega), Bool.false_or]
    exact wi m i hm hi
  · have v : vldB k P (60 * m + i) = true := by
      rw [vldB_iff]
      unfold vld
      rw [show (60 * m + i) / 60 = m by omega, show (60 * m + i) % 60 = i by omega]
      exact ⟨hm, hi⟩
    rw [si.1 _ (by omega) v]
    unfold siN
    split <;> rfl
def sLk (S : Nat → Int32) (s : Int32) : Prop := 0 < s ∧ s < S 1 ∧ s < 25
set_option maxHeartbeats 4000000 in
set_option maxRecDepth 100000 in
theorem c_Bu_siteMethod (s : Int32) (HB : bu_at bu pr S B h) : gi_T l V y_Bu_siteMethod b_Bu_siteMethod 2 (some .int) 0 0 0 0 [.ref bu, .int s] n h (gi_is (some (.int (if 0 < s ∧ s < S 1 ∧ s < 25 then B 11 s.toNatClampNeg else -1))) n h) := by
  refine gi_enter (by decide) (Nat.le_of_ble_eq_true rfl) ?_
  intro _ _ _ _ _ _ _ _ C hr hnm
  refine gi_iload_n (q := 1) (i := 1) C (dm_Bu_siteMethod 0 rfl) rfl rfl rfl ?_
  refine gi_if_le (q := 4) (tgt := 27) C (dm_Bu_siteMethod 1 rfl) rfl (by decide) (fun c1 => ?_) (fun c1 => ?_)
  · refine gi_iconst (q := 28) (v := -1) C (dm_Bu_siteMethod 14 rfl) rfl (by decide) ?_
    refine gi_iret C hr (dm_Bu_siteMethod 15 rfl) ?_
    refine ⟨?_, rfl, rfl⟩
    first
      | (rw [if_pos ⟨Int32.not_le.mp c1, Int32.not_le.mp c9, Int32.not_le.mp c15⟩]; done)
      | (rw [if_neg (fun z => absurd z.1 (Int32.not_lt.mpr c1))]; done)
      | (rw [if_neg (fun z => absurd z.2.1 (Int32.not_lt.mpr c9))]; done)
      | (rw [if_neg (fun z => absurd z.2.2 (Int32.not_lt.mpr c15))]; done)
  · refine gi_iload_n (q := 5) (i := 1) C (dm_Bu_siteMethod 2 rfl) rfl rfl rfl ?_
    refine gi_aload_n (q := 6) (i := 0) C (dm_Bu_siteMethod 3 rfl) rfl rfl rfl ?_
    refine gi_get (q := 9) C (dm_Bu_siteMethod 4 rfl) rfl fl_Bu_48 HB.1 rfl ?_
    refine gi_icmp_ge (q := 12) (tgt := 27) C (dm_Bu_siteMethod 5 rfl) rfl (by decide) (fun c9 => ?_) (fun c9 => ?_)
    · refine gi_iconst (q := 28) (v := -1) C (dm_Bu_siteMethod 14 rfl) rfl (by decide) ?_
      refine gi_iret C hr (dm_Bu_siteMethod 15 rfl) ?_
      refine ⟨?_, rfl, rfl⟩
      first
        | (rw [if_pos ⟨Int32.not_le.mp c1, Int32.not_le.mp c9, Int32.not_le.mp c15⟩]; done)
        | (rw [if_neg (fun z => absurd z.1 (Int32.not_lt.mpr c1))]; done)
        | (rw [if_neg (fun z => absurd z.2.1 (Int32.not_lt.mpr c9))]; done)
        | (rw [if_neg (fun z => absurd z.2.2 (Int32.not_lt.mpr c15))]; done)
    · refine gi_iload_n (q := 13) (i := 1) C (dm_Bu_siteMethod 6 rfl) rfl rfl rfl ?_
      refine gi_bipush (q := 15) (v := 25) C (dm_Bu_siteMethod 7 rfl) rfl (by decide) ?_
      refine gi_icmp_ge (q := 18) (tgt := 27) C (dm_Bu_siteMethod 8 rfl) rfl (by decide) (fun c15 => ?_) (fun c15 => ?_)
      · refine gi_iconst (q := 28) (v := -1) C (dm_Bu_siteMethod 14 rfl) rfl (by decide) ?_
        refine gi_iret C hr (dm_Bu_siteMethod 15 rfl) ?_
        refine ⟨?_, rfl, rfl⟩
        first
          | (rw [if_pos ⟨Int32.not_le.mp c1, Int32.not_le.mp c9, Int32.not_le.mp c15⟩]; done)
          | (rw [if_neg (fun z => absurd z.1 (Int32.not_lt.mpr c1))]; done)
          | (rw [if_neg (fun z => absurd z.2.1 (Int32.not_lt.mpr c9))]; done)
          | (rw [if_neg (fun z => absurd z.2.2 (Int32.not_lt.mpr c15))]; done)
      · refine gi_aload_n (q := 19) (i := 0) C (dm_Bu_siteMethod 9 rfl) rfl rfl rfl ?_
        refine gi_get (q := 22) C (dm_Bu_siteMethod 10 rfl) rfl fl_Bu_28 HB.1 rfl ?_
        refine gi_iload_n (q := 23) (i := 1) C (dm_Bu_siteMethod 11 rfl) rfl rfl rfl ?_
        refine gi_iald (q := 24) C (dm_Bu_siteMethod 12 rfl) rfl rfl HB.2.2.2.2.2.2.1 (in_nI (k := 25) (Int32.le_of_lt (Int32.not_le.mp c1)) (Int32.not_le.mp c15) (Nat.le_refl _) (by omega)) ?_
        refine gi_goto (tgt := 28) C (dm_Bu_siteMethod 13 rfl) (by decide) ?_
        refine gi_iret C hr (dm_Bu_siteMethod 15 rfl) ?_
        refine ⟨?_, rfl, rfl⟩
        first
          | (rw [if_pos ⟨Int32.not_le.mp c1, Int32.not_le.mp c9, Int32.not_le.mp c15⟩]; done)
          | (rw [if_neg (fun z => absurd z.1 (Int32.not_lt.mpr c1))]; done)
          | (rw [if_neg (fun z => absurd z.2.1 (Int32.not_lt.mpr c9))]; done)
          | (rw [if_neg (fun z => absurd z.2.2 (Int32.not_lt.mpr c15))]; done)
set_option maxHeartbeats 4000000 in
set_option maxRecDepth 100000 in
theorem c_Bu_sitePlace (s : Int32) (HB : bu_at bu pr S B h) : gi_T l V y_Bu_sitePlace b_Bu_sitePlace 2 (some .int) 0 0 0 0 [.ref bu, .int s] n h (gi_is (some (.int (if 0 < s ∧ s < S 1 ∧ s < 25 then B 12 s.toNatClampNeg else -1))) n h) := by
  refine gi_enter (by decide) (Nat.le_of_ble_eq_true rfl) ?_
  intro _ _ _ _ _ _ _ _ C hr hnm
  refine gi_iload_n (q := 1) (i := 1) C (dm_Bu_sitePlace 0 rfl) rfl rfl rfl ?_
  refine gi_if_le (q := 4) (tgt := 27) C (dm_Bu_sitePlace 1 rfl) rfl (by decide) (fun c1 => ?_) (fun c1 => ?_)
  · refine gi_iconst (q := 28) (v := -1) C (dm_Bu_sitePlace 14 rfl) rfl (by decide) ?_
    refine gi_iret C hr (dm_Bu_sitePlace 15 rfl) ?_
    refine ⟨?_, rfl, rfl⟩
    first
      | (rw [if_pos ⟨Int32.not_le.mp c1, Int32.not_le.mp c9, Int32.not_le.mp c15⟩]; done)
      | (rw [if_neg (fun z => absurd z.1 (Int32.not_lt.mpr c1))]; done)
      | (rw [if_neg (fun z => absurd z.2.1 (Int32.not_lt.mpr c9))]; done)
      | (rw [if_neg (fun z => absurd z.2.2 (Int32.not_lt.mpr c15))]; done)
  · refine gi_iload_n (q := 5) (i := 1) C (dm_Bu_sitePlace 2 rfl) rfl rfl rfl ?_
    refine gi_aload_n (q := 6) (i := 0) C (dm_Bu_sitePlace 3 rfl) rfl rfl rfl ?_
    refine gi_get (q := 9) C (dm_Bu_sitePlace 4 rfl) rfl fl_Bu_48 HB.1 rfl ?_
    refine gi_icmp_ge (q := 12) (tgt := 27) C (dm_Bu_sitePlace 5 rfl) rfl (by decide) (fun c9 => ?_) (fun c9 => ?_)
    · refine gi_iconst (q := 28) (v := -1) C (dm_Bu_sitePlace 14 rfl) rfl (by decide) ?_
      refine gi_iret C hr (dm_Bu_sitePlace 15 rfl) ?_
      refine ⟨?_, rfl, rfl⟩
      first
        | (rw [if_pos ⟨Int32.not_le.mp c1, Int32.not_le.mp c9, Int32.not_le.mp c15⟩]; done)
        | (rw [if_neg (fun z => absurd z.1 (Int32.not_lt.mpr c1))]; done)
        | (rw [if_neg (fun z => absurd z.2.1 (Int32.not_lt.mpr c9))]; done)
        | (rw [if_neg (fun z => absurd z.2.2 (Int32.not_lt.mpr c15))]; done)
    · refine gi_iload_n (q := 13) (i := 1) C (dm_Bu_sitePlace 6 rfl) rfl rfl rfl ?_
      refine gi_bipush (q := 15) (v := 25) C (dm_Bu_sitePlace 7 rfl) rfl (by decide) ?_
      refine gi_icmp_ge (q := 18) (tgt := 27) C (dm_Bu_sitePlace 8 rfl) rfl (by decide) (fun c15 => ?_) (fun c15 => ?_)
      · refine gi_iconst (q := 28) (v := -1) C (dm_Bu_sitePlace 14 rfl) rfl (by decide) ?_
        refine gi_iret C hr (dm_Bu_sitePlace 15 rfl) ?_
        refine ⟨?_, rfl, rfl⟩
        first
          | (rw [if_pos ⟨Int32.not_le.mp c1, Int32.not_le.mp c9, Int32.not_le.mp c15⟩]; done)
          | (rw [if_neg (fun z => absurd z.1 (Int32.not_lt.mpr c1))]; done)
          | (rw [if_neg (fun z => absurd z.2.1 (Int32.not_lt.mpr c9))]; done)
          | (rw [if_neg (fun z => absurd z.2.2 (Int32.not_lt.mpr c15))]; done)
      · refine gi_aload_n (q := 19) (i := 0) C (dm_Bu_sitePlace 9 rfl) rfl rfl rfl ?_
        refine gi_get (q := 22) C (dm_Bu_sitePlace 10 rfl) rfl fl_Bu_31 HB.1 rfl ?_
        refine gi_iload_n (q := 23) (i := 1) C (dm_Bu_sitePlace 11 rfl) rfl rfl rfl ?_
        refine gi_iald (q := 24) C (dm_Bu_sitePlace 12 rfl) rfl rfl HB.2.2.2.2.2.2.2 (in_nI (k := 25) (Int32.le_of_lt (Int32.not_le.mp c1)) (Int32.not_le.mp c15) (Nat.le_refl _) (by omega)) ?_
        refine gi_goto (tgt := 28) C (dm_Bu_sitePlace 13 rfl) (by decide) ?_
        refine gi_iret C hr (dm_Bu_sitePlace 15 rfl) ?_
        refine ⟨?_, rfl, rfl⟩
        first
          | (rw [if_pos ⟨Int32.not_le.mp c1, Int32.not_le.mp c9, Int32.not_le.mp c15⟩]; done)
          | (rw [if_neg (fun z => absurd z.1 (Int32.not_lt.mpr c1))]; done)
          | (rw [if_neg (fun z => absurd z.2.1 (Int32.not_lt.mpr c9))]; done)
          | (rw [if_neg (fun z => absurd z.2.2 (Int32.not_lt.mpr c15))]; done)
def siW (k : Nat) (P : Pm) (sh : Nat → Option Sh) (f : Nat → Nat) (s : Nat) : Int64 := match siP k P sh s with
  | none => -1
  | some p => (nI (f p)).toInt64
def siQ (k : Nat) (P : Pm) (sh : Nat → Option Sh) (ct : Bool) (F : Fa) (s wh : Int32) : Int64 := if 0 ≤ s.toInt ∧ s.toInt < ((1 + sct k P sh 480 : Nat) : Int) then (if wh = 6 then siW k P sh (· / 60) s.toNatClampNeg else if wh = 7 then siW k P sh (· % 60) s.toNatClampNeg else if ct = true ∧ 0 ≤ wh ∧ wh ≤ 5 then (if wh < 3 then (if (F (480 + s.toNatClampNeg)).told = true then partV (eA ((F (480 + s.toNatClampNeg)).f 0).1) wh else NOl) else (if (F (505 + s.toNatClampNeg)).told = true then partV (eA ((F (505 + s.toNatClampNeg)).f 0).1) (wh - 3) else NOl)) else NOl) else NOl
theorem siP_0 : siP k P sh 0 = none := rng_no fun p hp => by
  rw [show decide (snF k P sh p = 0) = false from decide_eq_false (by unfold snF; omega), Bool.and_false]
theorem one_row (hr : rdO (tyF P sh) F) {t : Nat} (h0 : 480 ≤ t) (h1 : t < 534) (tl : (F t).told = true) : (F t).n = 1 := by
  have g := (hr.1 t (by omega)).1 tl
  rw [g.1]
  unfold tyF
  rw [if_neg (by omega), if_pos (by omega)]
set_option maxHeartbeats 4000000 in
set_option maxRecDepth 100000 in
theorem c_H_site_0 (s wh : Int32) (W : wfP k P)  (HX : hs_ob X 0 cr h) (hB : ∃ S B, bu_at (X + 9) (X + 1) S B h ∧ bdI k P sh S B) : gi_T l V y_H_site b_H_site 4 (some .long) 2 42 0 0 [.ref X, .int s, .int wh] n h (gi_is (some (.long (siQ k P sh false F s wh))) n h) := by
  refine gi_enter (by decide) (Nat.le_of_ble_eq_true rfl) ?_
  intro _ _ _ _ _ _ _ _ C hr9 hnm
  have HX0 := HX
  unfold hs_ob at HX0
  obtain ⟨S, B, HB, hI⟩ := hB
  have c24 := hI.c W
  refine gi_iload_n (q := 1) (i := 1) C (dm_H_site 0 rfl) rfl rfl rfl ?_
  refine gi_if_lt (q := 4) (tgt := 25) C (dm_H_site 1 rfl) rfl (by decide) (fun c1 => ?_) (fun c1 => ?_)
  · refine gi_ldc2 (q := 28) C (dm_H_site 11 rfl) rfl kc_H_142 ?_
    refine gi_lret C hr9 (dm_H_site 12 rfl) ?_
    refine ⟨?_, rfl, rfl⟩
    unfold siQ
    rw [if_neg]
    rintro ⟨z1, z2⟩
    first
      | (rw [i_0] at c1; omega)
      | exact absurd ((i_lt (by omega)).mpr z2) (by rw [← hI.2.2.1]; exact Int32.not_lt.mpr c12)
  · refine gi_iload_n (q := 5) (i := 1) C (dm_H_site 2 rfl) rfl rfl rfl ?_
    refine gi_aload_n (q := 6) (i := 0) C (dm_H_site 3 rfl) rfl rfl rfl ?_
    refine gi_get (q := 9) C (dm_H_site 4 rfl) rfl fl_H_21 HX0 rfl ?_
    refine gi_get (q := 12) C (dm_H_site 5 rfl) rfl fl_H_157 HB.1 rfl ?_
    refine gi_icmp_ge (q := 15) (tgt := 25) C (dm_H_site 6 rfl) rfl (by decide) (fun c12 => ?_) (fun c12 => ?_)
    · refine gi_ldc2 (q := 28) C (dm_H_site 11 rfl) rfl kc_H_142 ?_
      refine gi_lret C hr9 (dm_H_site 12 rfl) ?_
      refine ⟨?_, rfl, rfl⟩
      unfold siQ
      rw [if_neg]
      rintro ⟨z1, z2⟩
      first
        | (rw [i_0] at c1; omega)
        | exact absurd ((i_lt (by omega)).mpr z2) (by rw [← hI.2.2.1]; exact Int32.not_lt.mpr c12)
    · refine gi_aload_n (q := 16) (i := 0) C (dm_H_site 7 rfl) rfl rfl rfl ?_
      refine gi_get (q := 19) C (dm_H_site 8 rfl) rfl fl_H_21 HX0 rfl ?_
      refine gi_get (q := 22) C (dm_H_site 9 rfl) rfl fl_H_105 HB.1 rfl ?_
      refine gi_if_ne (q := 25) (tgt := 29) C (dm_H_site 10 rfl) rfl (by decide) (fun c22 => ?_) (fun c22 => ?_)
      · rw [i_0] at c1
        have s0 : 0 ≤ s.toInt := by omega
        have s1 : s.toInt < ((1 + sct k P sh 480 : Nat) : Int) := (i_lt (x := 1 + sct k P sh 480) (by omega)).mp (by rw [← hI.2.2.1]; exact Int32.not_le.mp c12)
        have sj := nn_nI (a := s) s0
        obtain ⟨j, ej⟩ : ∃ j, j = s.toNatClampNeg := ⟨_, rfl⟩
        rw [← ej] at sj
        have jl : j < 1 + sct k P sh 480 := by omega
        have es : s = nI j := sj.1
        subst es
        have mc : (nI j).toNatClampNeg = j := nI_clamp (by omega)
        refine gi_iload_n (q := 30) (i := 2) C (dm_H_site 13 rfl) rfl rfl rfl ?_
        refine gi_bipush (q := 32) (v := 6) C (dm_H_site 14 rfl) rfl (by decide) ?_
        refine gi_icmp_ne (q := 35) (tgt := 45) C (dm_H_site 15 rfl) rfl (by decide) (fun c32 => ?_) (fun c32 => ?_)
        · refine gi_iload_n (q := 46) (i := 2) C (dm_H_site 22 rfl) rfl rfl rfl ?_
          refine gi_bipush (q := 48) (v := 7) C (dm_H_site 23 rfl) rfl (by decide) ?_
          refine gi_icmp_ne (q := 51) (tgt := 61) C (dm_H_site 24 rfl) rfl (by decide) (fun c48 => ?_) (fun c48 => ?_)
          · refine gi_aload_n (q := 62) (i := 0) C (dm_H_site 31 rfl) rfl rfl rfl ?_
            refine gi_get (q := 65) C (dm_H_site 32 rfl) rfl fl_H_69 HX0 rfl ?_
            refine gi_if_eq (q := 68) (tgt := 77) C (dm_H_site 33 rfl) rfl (by decide) (fun c65 => ?_) (fun c65 => ?_)
            · refine gi_ldc2 (q := 80) C (dm_H_site 39 rfl) rfl kc_H_142 ?_
              refine gi_lret C hr9 (dm_H_site 40 rfl) ?_
              refine ⟨?_, rfl, rfl⟩
              unfold siQ
              rw [if_pos ⟨s0, s1⟩, if_neg c32, if_neg c48, if_neg]
              rintro ⟨z1, z2, z3⟩
              first
                | exact absurd z1 (by decide)
                | exact absurd z2 (Int32.not_le.mpr c69)
                | exact absurd z3 c74
            · exact absurd rfl c65
          · refine gi_aload_n (q := 52) (i := 0) C (dm_H_site 25 rfl) rfl rfl rfl ?_
            refine gi_get (q := 55) C (dm_H_site 26 rfl) rfl fl_H_21 HX0 rfl ?_
            refine gi_iload_n (q := 56) (i := 1) C (dm_H_site 27 rfl) rfl rfl rfl ?_
            refine gi_callv 1 (q := 59) C (dm_H_site 28 rfl) rfl my_Bu_sitePlace lk_H_163 im_Bu_sitePlace rfl (c_Bu_sitePlace _ HB) HB.1 rfl rfl ⟨(Nat.le_of_ble_eq_true rfl), (Nat.le_of_ble_eq_true rfl)⟩ (Nat.le_of_ble_eq_true rfl) ⟨(Nat.le_of_ble_eq_true rfl), (Nat.le_of_ble_eq_true rfl)⟩ (fun r56 n56 h56 e56 => ?_)
            obtain ⟨rfl, q56, u56⟩ := e56
            rw [q56, u56]
            refine gi_i2l (q := 60) C (dm_H_site 29 rfl) rfl ?_
            refine gi_lret C hr9 (dm_H_site 30 rfl) ?_
            refine ⟨?_, rfl, rfl⟩
            by_cases z : 0 < nI j ∧ nI j < S 1 ∧ nI j < 25
            · rw [if_pos z]
              unfold siQ
              rw [if_pos ⟨s0, s1⟩, if_neg c32, if_pos c48]
              unfold siW
              have z0 := z.1
              have jp : 0 < j := by
                rcases Nat.eq_zero_or_pos j with q | q
                · subst q
                  exact absurd z0 (by decide)
                · exact q
              obtain ⟨p, ep, p1, p2, p3⟩ := siP_ex (k := k) (P := P) (sh := sh) jp (by omega)
              have := hI.2.2.2.1.2 p p1 p2
              rw [p3] at this
              rw [mc, ep]
              dsimp only
              first
                | rw [this.1]
                | rw [this.2]
            · rw [if_neg z]
              unfold siQ
              rw [if_pos ⟨s0, s1⟩, if_neg c32, if_pos c48]
              unfold siW
              have jz : j = 0 := by
                rcases Nat.eq_zero_or_pos j with q | q
                · exact q
                · exact absurd ⟨(nI_ps0 (by omega)).mpr q, by rw [hI.2.2.1]; exact nI_lt (by omega) (by omega), nI_lt (show j < 25 by omega) (by decide)⟩ z
              subst jz
              rw [mc, siP_0]
              rfl
        · refine gi_aload_n (q := 36) (i := 0) C (dm_H_site 16 rfl) rfl rfl rfl ?_
          refine gi_get (q := 39) C (dm_H_site 17 rfl) rfl fl_H_21 HX0 rfl ?_
          refine gi_iload_n (q := 40) (i := 1) C (dm_H_site 18 rfl) rfl rfl rfl ?_
          refine gi_callv 1 (q := 43) C (dm_H_site 19 rfl) rfl my_Bu_siteMethod lk_H_160 im_Bu_siteMethod rfl (c_Bu_siteMethod _ HB) HB.1 rfl rfl ⟨(Nat.le_of_ble_eq_true rfl), (Nat.le_of_ble_eq_true rfl)⟩ (Nat.le_of_ble_eq_true rfl) ⟨(Nat.le_of_ble_eq_true rfl), (Nat.le_of_ble_eq_true rfl)⟩ (fun r40 n40 h40 e40 => ?_)
          obtain ⟨rfl, q40, u40⟩ := e40
          rw [q40, u40]
          refine gi_i2l (q := 44) C (dm_H_site 20 rfl) rfl ?_
          refine gi_lret C hr9 (dm_H_site 21 rfl) ?_
          refine ⟨?_, rfl, rfl⟩
          by_cases z : 0 < nI j ∧ nI j < S 1 ∧ nI j < 25
          · rw [if_pos z]
            unfold siQ
            rw [if_pos ⟨s0, s1⟩, if_pos c32]
            unfold siW
            have z0 := z.1
            have jp : 0 < j := by
              rcases Nat.eq_zero_or_pos j with q | q
              · subst q
                exact absurd z0 (by decide)
              · exact q
            obtain ⟨p, ep, p1, p2, p3⟩ := siP_ex (k := k) (P := P) (sh := sh) jp (by omega)
            have := hI.2.2.2.1.2 p p1 p2
            rw [p3] at this
            rw [mc, ep]
            dsimp only
            first
              | rw [this.1]
              | rw [this.2]
          · rw [if_neg z]
            unfold siQ
            rw [if_pos ⟨s0, s1⟩, if_pos c32]
            unfold siW
            have jz : j = 0 := by
              rcases Nat.eq_zero_or_pos j with q | q
              · exact q
              · exact absurd ⟨(nI_ps0 (by omega)).mpr q, by rw [hI.2.2.1]; exact nI_lt (by omega) (by omega), nI_lt (show j < 25 by omega) (by decide)⟩ z
            subst jz
            rw [mc, siP_0]
            rfl
      · exact absurd hI.2.1 (by rw [c22]; decide)
set_option maxHeartbeats 4000000 in
set_option maxRecDepth 100000 in
theorem c_H_site (s wh : Int32) (W : wfP k P) (hr : rdO (tyF P sh) F) (Hw : CW X k P F Φ 1 cr h) (hB : ∃ S B, bu_at (X + 9) (X + 1) S B h ∧ bdI k P sh S B) : gi_T l V y_H_site b_H_site 4 (some .long) 2 42 0 0 [.ref X, .int s, .int wh] n h (gi_is (some (.long (siQ k P sh true F s wh))) n h) := by
  refine gi_enter (by decide) (Nat.le_of_ble_eq_true rfl) ?_
  intro _ _ _ _ _ _ _ _ C hr9 hnm
  obtain ⟨HX, HP, HC, R⟩ := id Hw
  have HX0 := HX
  unfold hs_ob at HX0
  have w8 := W.k8
  obtain ⟨S, B, HB, hI⟩ := hB
  have c24 := hI.c W
  refine gi_iload_n (q := 1) (i := 1) C (dm_H_site 0 rfl) rfl rfl rfl ?_
  refine gi_if_lt (q := 4) (tgt := 25) C (dm_H_site 1 rfl) rfl (by decide) (fun c1 => ?_) (fun c1 => ?_)
  · refine gi_ldc2 (q := 28) C (dm_H_site 11 rfl) rfl kc_H_142 ?_
    refine gi_lret C hr9 (dm_H_site 12 rfl) ?_
    refine ⟨?_, rfl, rfl⟩
    unfold siQ
    rw [if_neg]
    rintro ⟨z1, z2⟩
    first
      | (rw [i_0] at c1; omega)
      | exact absurd ((i_lt (by omega)).mpr z2) (by rw [← hI.2.2.1]; exact Int32.not_lt.mpr c12)
  · refine gi_iload_n (q := 5) (i := 1) C (dm_H_site 2 rfl) rfl rfl rfl ?_
    refine gi_aload_n (q := 6) (i := 0) C (dm_H_site 3 rfl) rfl rfl rfl ?_
    refine gi_get (q := 9) C (dm_H_site 4 rfl) rfl fl_H_21 HX0 rfl ?_
    refine gi_get (q := 12) C (dm_H_site 5 rfl) rfl fl_H_157 HB.1 rfl ?_
    refine gi_icmp_ge (q := 15) (tgt := 25) C (dm_H_site 6 rfl) rfl (by decide) (fun c12 => ?_) (fun c12 => ?_)
    · refine gi_ldc2 (q := 28) C (dm_H_site 11 rfl) rfl kc_H_142 ?_
      refine gi_lret C hr9 (dm_H_site 12 rfl) ?_
      refine ⟨?_, rfl, rfl⟩
      unfold siQ
      rw [if_neg]
      rintro ⟨z1, z2⟩
      first
        | (rw [i_0] at c1; omega)
        | exact absurd ((i_lt (by omega)).mpr z2) (by rw [← hI.2.2.1]; exact Int32.not_lt.mpr c12)
    · refine gi_aload_n (q := 16) (i := 0) C (dm_H_site 7 rfl) rfl rfl rfl ?_
      refine gi_get (q := 19) C (dm_H_site 8 rfl) rfl fl_H_21 HX0 rfl ?_
      refine gi_get (q := 22) C (dm_H_site 9 rfl) rfl fl_H_105 HB.1 rfl ?_
      refine gi_if_ne (q := 25) (tgt := 29) C (dm_H_site 10 rfl) rfl (by decide) (fun c22 => ?_) (fun c22 => ?_)
      · rw [i_0] at c1
        have s0 : 0 ≤ s.toInt := by omega
        have s1 : s.toInt < ((1 + sct k P sh 480 : Nat) : Int) := (i_lt (x := 1 + sct k P sh 480) (by omega)).mp (by rw [← hI.2.2.1]; exact Int32.not_le.mp c12)
        have sj := nn_nI (a := s) s0
        obtain ⟨j, ej⟩ : ∃ j, j = s.toNatClampNeg := ⟨_, rfl⟩
        rw [← ej] at sj
        have jl : j < 1 + sct k P sh 480 := by omega
        have es : s = nI j := sj.1
        subst es
        have mc : (nI j).toNatClampNeg = j := nI_clamp (by omega)
        refine gi_iload_n (q := 30) (i := 2) C (dm_H_site 13 rfl) rfl rfl rfl ?_
        refine gi_bipush (q := 32) (v := 6) C (dm_H_site 14 rfl) rfl (by decide) ?_
        refine gi_icmp_ne (q := 35) (tgt := 45) C (dm_H_site 15 rfl) rfl (by decide) (fun c32 => ?_) (fun c32 => ?_)
        · refine gi_iload_n (q := 46) (i := 2) C (dm_H_site 22 rfl) rfl rfl rfl ?_
          refine gi_bipush (q := 48) (v := 7) C (dm_H_site 23 rfl) rfl (by decide) ?_
          refine gi_icmp_ne (q := 51) (tgt := 61) C (dm_H_site 24 rfl) rfl (by decide) (fun c48 => ?_) (fun c48 => ?_)
          · refine gi_aload_n (q := 62) (i := 0) C (dm_H_site 31 rfl) rfl rfl rfl ?_
            refine gi_get (q := 65) C (dm_H_site 32 rfl) rfl fl_H_69 HX0 rfl ?_
            refine gi_if_eq (q := 68) (tgt := 77) C (dm_H_site 33 rfl) rfl (by decide) (fun c65 => ?_) (fun c65 => ?_)
            · exact absurd c65 (by decide)
            · refine gi_iload_n (q := 69) (i := 2) C (dm_H_site 34 rfl) rfl rfl rfl ?_
              refine gi_if_lt (q := 72) (tgt := 77) C (dm_H_site 35 rfl) rfl (by decide) (fun c69 => ?_) (fun c69 => ?_)
              · refine gi_ldc2 (q := 80) C (dm_H_site 39 rfl) rfl kc_H_142 ?_
                refine gi_lret C hr9 (dm_H_site 40 rfl) ?_
                refine ⟨?_, rfl, rfl⟩
                unfold siQ
                rw [if_pos ⟨s0, s1⟩, if_neg c32, if_neg c48, if_neg]
                rintro ⟨z1, z2, z3⟩
                first
                  | exact absurd z1 (by decide)
                  | exact absurd z2 (Int32.not_le.mpr c69)
                  | exact absurd z3 c74
              · refine gi_iload_n (q := 73) (i := 2) C (dm_H_site 36 rfl) rfl rfl rfl ?_
                refine gi_iconst (q := 74) (v := 5) C (dm_H_site 37 rfl) rfl (by decide) ?_
                refine gi_icmp_le (q := 77) (tgt := 81) C (dm_H_site 38 rfl) rfl (by decide) (fun c74 => ?_) (fun c74 => ?_)
                · refine gi_iload_n (q := 82) (i := 2) C (dm_H_site 41 rfl) rfl rfl rfl ?_
                  refine gi_iconst (q := 83) (v := 3) C (dm_H_site 42 rfl) rfl (by decide) ?_
                  refine gi_icmp_ge (q := 86) (tgt := 97) C (dm_H_site 43 rfl) rfl (by decide) (fun c83 => ?_) (fun c83 => ?_)
                  · refine gi_aload_n (q := 98) (i := 0) C (dm_H_site 49 rfl) rfl rfl rfl ?_
                    refine gi_get (q := 101) C (dm_H_site 50 rfl) rfl fl_H_28 HX0 rfl ?_
                    refine gi_iload_n (q := 102) (i := 1) C (dm_H_site 51 rfl) rfl rfl rfl ?_
                    refine gi_callv 1 (q := 105) C (dm_H_site 52 rfl) rfl my_Fa_elementOf lk_H_170 im_Fa_elementOf rfl (c_Fa_elementOf (i := j) (by omega) HC) HC.1 rfl rfl ⟨(Nat.le_of_ble_eq_true rfl), (Nat.le_of_ble_eq_true rfl)⟩ (Nat.le_of_ble_eq_true rfl) ⟨(Nat.le_of_ble_eq_true rfl), (Nat.le_of_ble_eq_true rfl)⟩ (fun r102 n102 h102 e102 => ?_)
                    obtain ⟨rfl, q102, u102⟩ := e102
                    rw [q102, u102]
                    have RO := HC.2.2.2.2.2.2 (505 + j) (by omega)
                    have RR := R (505 + j) (by omega)
                    have rcp : fa_cap (505 + j) = 1 := by unfold fa_cap; rw [if_neg (by omega)]
                    rw [rcp] at RO RR
                    · refine gi_astore_n (q := 106) (i := 3) C (dm_H_site 53 rfl) rfl rfl (Nat.le_of_ble_eq_true rfl) ?_
                      refine gi_aload_n (q := 107) (i := 3) C (dm_H_site 54 rfl) rfl rfl rfl ?_
                      refine gi_get (q := 110) C (dm_H_site 55 rfl) rfl fl_H_134 RO.1 rfl ?_
                      refine gi_if_eq (q := 113) (tgt := 136) C (dm_H_site 56 rfl) rfl (by decide) (fun c110 => ?_) (fun c110 => ?_)
                      · have tl0 : (F (505 + j)).told = false := bI_fa (by rw [← RR.1]; exact c110)
                        refine gi_ldc2 (q := 139) C (dm_H_site 70 rfl) rfl kc_H_142 ?_
                        refine gi_lret C hr9 (dm_H_site 71 rfl) ?_
                        refine ⟨?_, rfl, rfl⟩
                        unfold siQ
                        rw [if_pos ⟨s0, s1⟩, if_neg c32, if_neg c48, if_pos ⟨rfl, Int32.not_lt.mp c69, c74⟩, mc]
                        rw [if_neg (Int32.not_lt.mpr c83)]
                        first
                          | (rw [if_neg (by rw [tl0]; decide)]; done)
                          | (rw [if_pos tl1, (RG.1.2 0 (by rw [one_row hr (by omega) (by omega) tl1]; omega)).1]; done)
                      · have tl1 : (F (505 + j)).told = true := bI_t (by rw [← RR.1]; exact c110)
                        have RG := RR.2.2 tl1
                        refine gi_aload_n (q := 114) (i := 3) C (dm_H_site 57 rfl) rfl rfl rfl ?_
                        refine gi_iconst (q := 115) (v := 0) C (dm_H_site 58 rfl) rfl (by decide) ?_
                        refine gi_callv 1 (q := 118) C (dm_H_site 59 rfl) rfl my_Ro_valueAt lk_H_173 im_Ro_valueAt rfl (c_Ro_valueAt (j := 0) (by omega) (by omega) RO) RO.1 rfl rfl ⟨(Nat.le_of_ble_eq_true rfl), (Nat.le_of_ble_eq_true rfl)⟩ (Nat.le_of_ble_eq_true rfl) ⟨(Nat.le_of_ble_eq_true rfl), (Nat.le_of_ble_eq_true rfl)⟩ (fun r115 n115 h115 e115 => ?_)
                        obtain ⟨rfl, q115, u115⟩ := e115
                        rw [q115, u115]
                        refine gi_iload_n (q := 119) (i := 2) C (dm_H_site 60 rfl) rfl rfl rfl ?_
                        refine gi_iconst (q := 120) (v := 3) C (dm_H_site 61 rfl) rfl (by decide) ?_
                        refine gi_icmp_ge (q := 123) (tgt := 127) C (dm_H_site 62 rfl) rfl (by decide) (fun c120 => ?_) (fun c120 => ?_)
                        · refine gi_iload_n (q := 128) (i := 2) C (dm_H_site 65 rfl) rfl rfl rfl ?_
                          refine gi_iconst (q := 129) (v := 3) C (dm_H_site 66 rfl) rfl (by decide) ?_
                          refine gi_isub (q := 130) C (dm_H_site 67 rfl) rfl ?_
                          refine gi_callv 1 (q := 133) C (dm_H_site 68 rfl) rfl my_Va_part lk_H_151 im_Va_part rfl (c_Va_part _ _ _ (rv_at RO (by omega))) (rv_at RO (by omega)) rfl rfl ⟨(Nat.le_of_ble_eq_true rfl), (Nat.le_of_ble_eq_true rfl)⟩ (Nat.le_of_ble_eq_true rfl) ⟨(Nat.le_of_ble_eq_true rfl), (Nat.le_of_ble_eq_true rfl)⟩ (fun r130 n130 h130 e130 => ?_)
                          obtain ⟨rfl, q130, u130⟩ := e130
                          rw [q130, u130]
                          refine gi_goto (tgt := 139) C (dm_H_site 69 rfl) (by decide) ?_
                          refine gi_lret C hr9 (dm_H_site 71 rfl) ?_
                          refine ⟨?_, rfl, rfl⟩
                          unfold siQ
                          rw [if_pos ⟨s0, s1⟩, if_neg c32, if_neg c48, if_pos ⟨rfl, Int32.not_lt.mp c69, c74⟩, mc]
                          rw [if_neg (Int32.not_lt.mpr c83)]
                          first
                            | (rw [if_neg (by rw [tl0]; decide)]; done)
                            | (rw [if_pos tl1, (RG.1.2 0 (by rw [one_row hr (by omega) (by omega) tl1]; omega)).1]; done)
                        · exact absurd c83 c120
                  · refine gi_aload_n (q := 87) (i := 0) C (dm_H_site 44 rfl) rfl rfl rfl ?_
                    refine gi_get (q := 90) C (dm_H_site 45 rfl) rfl fl_H_28 HX0 rfl ?_
                    refine gi_iload_n (q := 91) (i := 1) C (dm_H_site 46 rfl) rfl rfl rfl ?_
                    refine gi_callv 1 (q := 94) C (dm_H_site 47 rfl) rfl my_Fa_lengthOf lk_H_166 im_Fa_lengthOf rfl (c_Fa_lengthOf (i := j) (by omega) HC) HC.1 rfl rfl ⟨(Nat.le_of_ble_eq_true rfl), (Nat.le_of_ble_eq_true rfl)⟩ (Nat.le_of_ble_eq_true rfl) ⟨(Nat.le_of_ble_eq_true rfl), (Nat.le_of_ble_eq_true rfl)⟩ (fun r91 n91 h91 e91 => ?_)
                    obtain ⟨rfl, q91, u91⟩ := e91
                    rw [q91, u91]
                    have RO := HC.2.2.2.2.2.2 (480 + j) (by omega)
                    have RR := R (480 + j) (by omega)
                    have rcp : fa_cap (480 + j) = 1 := by unfold fa_cap; rw [if_neg (by omega)]
                    rw [rcp] at RO RR
                    · refine gi_goto (tgt := 105) C (dm_H_site 48 rfl) (by decide) ?_
                      refine gi_astore_n (q := 106) (i := 3) C (dm_H_site 53 rfl) rfl rfl (Nat.le_of_ble_eq_true rfl) ?_
                      refine gi_aload_n (q := 107) (i := 3) C (dm_H_site 54 rfl) rfl rfl rfl ?_
                      refine gi_get (q := 110) C (dm_H_site 55 rfl) rfl fl_H_134 RO.1 rfl ?_
                      refine gi_if_eq (q := 113) (tgt := 136) C (dm_H_site 56 rfl) rfl (by decide) (fun c110 => ?_) (fun c110 => ?_)
                      · have tl0 : (F (480 + j)).told = false := bI_fa (by rw [← RR.1]; exact c110)
                        refine gi_ldc2 (q := 139) C (dm_H_site 70 rfl) rfl kc_H_142 ?_
                        refine gi_lret C hr9 (dm_H_site 71 rfl) ?_
                        refine ⟨?_, rfl, rfl⟩
                        unfold siQ
                        rw [if_pos ⟨s0, s1⟩, if_neg c32, if_neg c48, if_pos ⟨rfl, Int32.not_lt.mp c69, c74⟩, mc]
                        rw [if_pos (Int32.not_le.mp c83)]
                        first
                          | (rw [if_neg (by rw [tl0]; decide)]; done)
                          | (rw [if_pos tl1, (RG.1.2 0 (by rw [one_row hr (by omega) (by omega) tl1]; omega)).1]; done)
                      · have tl1 : (F (480 + j)).told = true := bI_t (by rw [← RR.1]; exact c110)
                        have RG := RR.2.2 tl1
                        refine gi_aload_n (q := 114) (i := 3) C (dm_H_site 57 rfl) rfl rfl rfl ?_
                        refine gi_iconst (q := 115) (v := 0) C (dm_H_site 58 rfl) rfl (by decide) ?_
                        refine gi_callv 1 (q := 118) C (dm_H_site 59 rfl) rfl my_Ro_valueAt lk_H_173 im_Ro_valueAt rfl (c_Ro_valueAt (j := 0) (by omega) (by omega) RO) RO.1 rfl rfl ⟨(Nat.le_of_ble_eq_true rfl), (Nat.le_of_ble_eq_true rfl)⟩ (Nat.le_of_ble_eq_true rfl) ⟨(Nat.le_of_ble_eq_true rfl), (Nat.le_of_ble_eq_true rfl)⟩ (fun r115 n115 h115 e115 => ?_)
                        obtain ⟨rfl, q115, u115⟩ := e115
                        rw [q115, u115]
                        refine gi_iload_n (q := 119) (i := 2) C (dm_H_site 60 rfl) rfl rfl rfl ?_
                        refine gi_iconst (q := 120) (v := 3) C (dm_H_site 61 rfl) rfl (by decide) ?_
                        refine gi_icmp_ge (q := 123) (tgt := 127) C (dm_H_site 62 rfl) rfl (by decide) (fun c120 => ?_) (fun c120 => ?_)
                        · exact absurd c120 c83
                        · refine gi_iload_n (q := 124) (i := 2) C (dm_H_site 63 rfl) rfl rfl rfl ?_
                          refine gi_goto (tgt := 130) C (dm_H_site 64 rfl) (by decide) ?_
                          refine gi_callv 1 (q := 133) C (dm_H_site 68 rfl) rfl my_Va_part lk_H_151 im_Va_part rfl (c_Va_part _ _ _ (rv_at RO (by omega))) (rv_at RO (by omega)) rfl rfl ⟨(Nat.le_of_ble_eq_true rfl), (Nat.le_of_ble_eq_true rfl)⟩ (Nat.le_of_ble_eq_true rfl) ⟨(Nat.le_of_ble_eq_true rfl), (Nat.le_of_ble_eq_true rfl)⟩ (fun r130 n130 h130 e130 => ?_)
                          obtain ⟨rfl, q130, u130⟩ := e130
                          rw [q130, u130]
                          refine gi_goto (tgt := 139) C (dm_H_site 69 rfl) (by decide) ?_
                          refine gi_lret C hr9 (dm_H_site 71 rfl) ?_
                          refine ⟨?_, rfl, rfl⟩
                          unfold siQ
                          rw [if_pos ⟨s0, s1⟩, if_neg c32, if_neg c48, if_pos ⟨rfl, Int32.not_lt.mp c69, c74⟩, mc]
                          rw [if_pos (Int32.not_le.mp c83)]
                          first
                            | (rw [if_neg (by rw [tl0]; decide)]; done)
                            | (rw [if_pos tl1, (RG.1.2 0 (by rw [one_row hr (by omega) (by omega) tl1]; omega)).1]; done)
                · refine gi_ldc2 (q := 80) C (dm_H_site 39 rfl) rfl kc_H_142 ?_
                  refine gi_lret C hr9 (dm_H_site 40 rfl) ?_
                  refine ⟨?_, rfl, rfl⟩
                  unfold siQ
                  rw [if_pos ⟨s0, s1⟩, if_neg c32, if_neg c48, if_neg]
                  rintro ⟨z1, z2, z3⟩
                  first
                    | exact absurd z1 (by decide)
                    | exact absurd z2 (Int32.not_le.mpr c69)
                    | exact absurd z3 c74
          · refine gi_aload_n (q := 52) (i := 0) C (dm_H_site 25 rfl) rfl rfl rfl ?_
            refine gi_get (q := 55) C (dm_H_site 26 rfl) rfl fl_H_21 HX0 rfl ?_
            refine gi_iload_n (q := 56) (i := 1) C (dm_H_site 27 rfl) rfl rfl rfl ?_
            refine gi_callv 1 (q := 59) C (dm_H_site 28 rfl) rfl my_Bu_sitePlace lk_H_163 im_Bu_sitePlace rfl (c_Bu_sitePlace _ HB) HB.1 rfl rfl ⟨(Nat.le_of_ble_eq_true rfl), (Nat.le_of_ble_eq_true rfl)⟩ (Nat.le_of_ble_eq_true rfl) ⟨(Nat.le_of_ble_eq_true rfl), (Nat.le_of_ble_eq_true rfl)⟩ (fun r56 n56 h56 e56 => ?_)
            obtain ⟨rfl, q56, u56⟩ := e56
            rw [q56, u56]
            refine gi_i2l (q := 60) C (dm_H_site 29 rfl) rfl ?_
            refine gi_lret C hr9 (dm_H_site 30 rfl) ?_
            refine ⟨?_, rfl, rfl⟩
            by_cases z : 0 < nI j ∧ nI j < S 1 ∧ nI j < 25
            · rw [if_pos z]
              unfold siQ
              rw [if_pos ⟨s0, s1⟩, if_neg c32, if_pos c48]
              unfold siW
              have z0 := z.1
              have jp : 0 < j := by
                rcases Nat.eq_zero_or_pos j with q | q
                · subst q
                  exact absurd z0 (by decide)
                · exact q
              obtain ⟨p, ep, p1, p2, p3⟩ := siP_ex (k := k) (P := P) (sh := sh) jp (by omega)
              have := hI.2.2.2.1.2 p p1 p2
              rw [p3] at this
              rw [mc, ep]
              dsimp only
              first
                | rw [this.1]
                | rw [this.2]
            · rw [if_neg z]
              unfold siQ
              rw [if_pos ⟨s0, s1⟩, if_neg c32, if_pos c48]
              unfold siW
              have jz : j = 0 := by
                rcases Nat.eq_zero_or_pos j with q | q
                · exact q
                · exact absurd ⟨(nI_ps0 (by omega)).mpr q, by rw [hI.2.2.1]; exact nI_lt (by omega) (by omega), nI_lt (show j < 25 by omega) (by decide)⟩ z
              subst jz
              rw [mc, siP_0]
              rfl
        · refine gi_aload_n (q := 36) (i := 0) C (dm_H_site 16 rfl) rfl rfl rfl ?_
          refine gi_get (q := 39) C (dm_H_site 17 rfl) rfl fl_H_21 HX0 rfl ?_
          refine gi_iload_n (q := 40) (i := 1) C (dm_H_site 18 rfl) rfl rfl rfl ?_
          refine gi_callv 1 (q := 43) C (dm_H_site 19 rfl) rfl my_Bu_siteMethod lk_H_160 im_Bu_siteMethod rfl (c_Bu_siteMethod _ HB) HB.1 rfl rfl ⟨(Nat.le_of_ble_eq_true rfl), (Nat.le_of_ble_eq_true rfl)⟩ (Nat.le_of_ble_eq_true rfl) ⟨(Nat.le_of_ble_eq_true rfl), (Nat.le_of_ble_eq_true rfl)⟩ (fun r40 n40 h40 e40 => ?_)
          obtain ⟨rfl, q40, u40⟩ := e40
          rw [q40, u40]
          refine gi_i2l (q := 44) C (dm_H_site 20 rfl) rfl ?_
          refine gi_lret C hr9 (dm_H_site 21 rfl) ?_
          refine ⟨?_, rfl, rfl⟩
          by_cases z : 0 < nI j ∧ nI j < S 1 ∧ nI j < 25
          · rw [if_pos z]
            unfold siQ
            rw [if_pos ⟨s0, s1⟩, if_pos c32]
            unfold siW
            have z0 := z.1
            have jp : 0 < j := by
              rcases Nat.eq_zero_or_pos j with q | q
              · subst q
                exact absurd z0 (by decide)
              · exact q
            obtain ⟨p, ep, p1, p2, p3⟩ := siP_ex (k := k) (P := P) (sh := sh) jp (by omega)
            have := hI.2.2.2.1.2 p p1 p2
            rw [p3] at this
            rw [mc, ep]
            dsimp only
            first
              | rw [this.1]
              | rw [this.2]
          · rw [if_neg z]
            unfold siQ
            rw [if_pos ⟨s0, s1⟩, if_pos c32]
            unfold siW
            have jz : j = 0 := by
              rcases Nat.eq_zero_or_pos j with q | q
              · exact q
              · exact absurd ⟨(nI_ps0 (by omega)).mpr q, by rw [hI.2.2.1]; exact nI_lt (by omega) (by omega), nI_lt (show j < 25 by omega) (by decide)⟩ z
            subst jz
            rw [mc, siP_0]
            rfl
      · exact absurd hI.2.1 (by rw [c22]; decide)
set_option maxHeartbeats 4000000 in
set_option maxRecDepth 100000 in
theorem c_H_faultAt (x : Int32) (HX : hs_ob X ct cr h) (HB : bu_at (X + 9) (X + 1) S B h) : gi_T l V y_H_faultAt b_H_faultAt 2 (some .int) 0 0 0 0 [.ref X, .int x] n h (gi_is (some (.int (if S 2 = 0 then -1 else if x = 0 then S 3 else if x = 1 then S 4 else -1))) n h) := by
  refine gi_enter (by decide) (Nat.le_of_ble_eq_true rfl) ?_
  intro _ _ _ _ _ _ _ _ C hr hnm
  have HX0 := HX
  unfold hs_ob at HX0
  refine gi_aload_n (q := 1) (i := 0) C (dm_H_faultAt 0 rfl) rfl rfl rfl ?_
  refine gi_get (q := 4) C (dm_H_faultAt 1 rfl) rfl fl_H_21 HX0 rfl ?_
  refine gi_get (q := 7) C (dm_H_faultAt 2 rfl) rfl fl_H_96 HB.1 rfl ?_
  refine gi_if_ne (q := 10) (tgt := 12) C (dm_H_faultAt 3 rfl) rfl (by decide) (fun c7 => ?_) (fun c7 => ?_)
  · refine gi_iload_n (q := 13) (i := 1) C (dm_H_faultAt 6 rfl) rfl rfl rfl ?_
    refine gi_if_ne (q := 16) (tgt := 24) C (dm_H_faultAt 7 rfl) rfl (by decide) (fun c13 => ?_) (fun c13 => ?_)
    · refine gi_iload_n (q := 25) (i := 1) C (dm_H_faultAt 12 rfl) rfl rfl rfl ?_
      refine gi_iconst (q := 26) (v := 1) C (dm_H_faultAt 13 rfl) rfl (by decide) ?_
      refine gi_icmp_ne (q := 29) (tgt := 39) C (dm_H_faultAt 14 rfl) rfl (by decide) (fun c26 => ?_) (fun c26 => ?_)
      · refine gi_iconst (q := 40) (v := -1) C (dm_H_faultAt 19 rfl) rfl (by decide) ?_
        refine gi_iret C hr (dm_H_faultAt 20 rfl) ?_
        refine ⟨?_, rfl, rfl⟩
        rw [if_neg c7, if_neg c13]
        first
          | rw [if_pos c26]
          | rw [if_neg c26]
      · refine gi_aload_n (q := 30) (i := 0) C (dm_H_faultAt 15 rfl) rfl rfl rfl ?_
        refine gi_get (q := 33) C (dm_H_faultAt 16 rfl) rfl fl_H_21 HX0 rfl ?_
        refine gi_get (q := 36) C (dm_H_faultAt 17 rfl) rfl fl_H_102 HB.1 rfl ?_
        refine gi_goto (tgt := 40) C (dm_H_faultAt 18 rfl) (by decide) ?_
        refine gi_iret C hr (dm_H_faultAt 20 rfl) ?_
        refine ⟨?_, rfl, rfl⟩
        rw [if_neg c7, if_neg c13]
        first
          | rw [if_pos c26]
          | rw [if_neg c26]
    · refine gi_aload_n (q := 17) (i := 0) C (dm_H_faultAt 8 rfl) rfl rfl rfl ?_
      refine gi_get (q := 20) C (dm_H_faultAt 9 rfl) rfl fl_H_21 HX0 rfl ?_
      refine gi_get (q := 23) C (dm_H_faultAt 10 rfl) rfl fl_H_99 HB.1 rfl ?_
      refine gi_iret C hr (dm_H_faultAt 11 rfl) ?_
      refine ⟨?_, rfl, rfl⟩
      rw [if_neg c7, if_pos c13]
  · refine gi_iconst (q := 11) (v := -1) C (dm_H_faultAt 4 rfl) rfl (by decide) ?_
    refine gi_iret C hr (dm_H_faultAt 5 rfl) ?_
    refine ⟨?_, rfl, rfl⟩
    rw [if_pos c7]
set_option maxHeartbeats 4000000 in
set_option maxRecDepth 100000 in
theorem c_H_build (W : wfP k P) (HX : hs_ob X ct cr h) (HP : pr_at (X + 1) (nI k) P h) (HB : bu_at (X + 9) (X + 1) S B h) : gi_T l V y_H_build b_H_build 1 (some .int) 6 138 0 0 [.ref X] n h (fun v n' h' => n' = n ∧ hs_ob X 0 cr h' ∧ (∀ b, b ≠ X → (b < X + 9 ∨ X + 17 ≤ b) → h' b = h b) ∧ ∃ S' B', bu_at (X + 9) (X + 1) S' B' h' ∧ ((∃ e, bldF k P = .inl e ∧ fltS S' e ∧ S' 0 = 0 ∧ v = some (.int (-(nI e.1)))) ∨ (∃ sh, bdI k P sh S' B' ∧ S' 2 = 0 ∧ v = some (.int (nI (1 + sct k P sh 480)))))) := by
  refine gi_enter (by decide) (Nat.le_of_ble_eq_true rfl) ?_
  intro _ _ _ _ _ _ _ _ C hr hnm
  have HX0 := HX
  unfold hs_ob at HX0
  refine gi_aload_n (q := 1) (i := 0) C (dm_H_build 0 rfl) rfl rfl rfl ?_
  refine gi_callv 0 (q := 4) C (dm_H_build 1 rfl) rfl my_H_takeAway lk_H_81 im_H_takeAway rfl (c_H_takeAway HX HB) HX0 rfl rfl ⟨(Nat.le_of_ble_eq_true rfl), (Nat.le_of_ble_eq_true rfl)⟩ (Nat.le_of_ble_eq_true rfl) ⟨(Nat.le_of_ble_eq_true rfl), (Nat.le_of_ble_eq_true rfl)⟩ (fun r1 n1 h1 e1 => ?_)
  obtain ⟨rfl, rfl, HX2, HB2, ho2⟩ := e1
  have HX3 := HX2
  unfold hs_ob at HX3
  have HP2 : pr_at (X + 1) (nI k) P h1 := HP.keep (fun b b1 b2 => ho2 b (by omega) (by omega))
  refine gi_aload_n (q := 5) (i := 0) C (dm_H_build 2 rfl) rfl rfl rfl ?_
  refine gi_get (q := 8) C (dm_H_build 3 rfl) rfl fl_H_21 HX2 rfl ?_
  refine gi_callv 0 (q := 11) C (dm_H_build 4 rfl) rfl my_Bu_make lk_H_92 im_Bu_make rfl (c_Bu_make W HP2 (by omega) ⟨HB2, outB.rf⟩) HB2.1 rfl rfl ⟨(Nat.le_of_ble_eq_true rfl), (Nat.le_of_ble_eq_true rfl)⟩ (Nat.le_of_ble_eq_true rfl) ⟨(Nat.le_of_ble_eq_true rfl), (Nat.le_of_ble_eq_true rfl)⟩ (fun r8 n8 h8 e8 => ?_)
  obtain ⟨rfl, S3, B3, ⟨HB3, ob3⟩, e3⟩ := e8
  have G : hs_ob X 0 cr h8 ∧ ∀ b, b ≠ X → (b < X + 9 ∨ X + 17 ≤ b) → h8 b = h b := ⟨by unfold hs_ob; rw [ob3 X (by omega)]; exact HX2, fun b b1 b2 => by rw [ob3 b (by omega), ho2 b b1 (by omega)]⟩
  rcases e3 with ⟨e, a1, a2, a3, rfl⟩ | ⟨s, a1, a2, a3, a4, rfl, a5, a6⟩
  · refine gi_iret C hr (dm_H_build 5 rfl) ?_
    exact ⟨rfl, G.1, G.2, S3, B3, HB3, Or.inl ⟨e, a1, a2, a3, rfl⟩⟩
  · refine gi_iret C hr (dm_H_build 5 rfl) ?_
    exact ⟨rfl, G.1, G.2, S3, B3, HB3, Or.inr ⟨s, ⟨a1, a2, a3, a5, a6⟩, a4, rfl⟩⟩
end Q3
