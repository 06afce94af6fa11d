-- needs: 89.66
section RC1
variable {l : Launch} {V : gi_V} {n : Nat} {h h' : gi_H} {M k m i : Nat} {P : Pm} {x : Sh} {sh : Nat → Option Sh} {S S' : Nat → Int32} {J J' : Nat → Int64} {F F' : Nat → Nat → Int32} {G G' : Nat → Nat → Int64}
theorem nI_a1 (a : Nat) : nI a + 1 = nI (a + 1) := nI_1 a
theorem gi_i2b {p : Program} {e : Env} {R : Room} {sg : State} {mi : MethodId} {args : Array Value} {below : List Frame} {meth : Method} {c : Code} {Q : State → Prop} {cc : ByteArray} {nL : Nat} {own : String} {cells slots pc : Nat} {L : List (Nat × Value)} {st : List Value} {x : Int32} {q : Nat} (C : gi_C p sg mi args meth c cc nL own V) (hd : decode cc pc = .ok (.i2b, 1)) (hq : pc + 1 = q) (k : gi_G p l e R sg mi args below meth c Q V nL cells slots (q) (L) (.int x.toInt8.toInt32 :: st) (n) (h)) : gi_G p l e R sg mi args below meth c Q V nL cells slots (pc) (L) (.int x :: st) (n) (h) := by subst hq; exact fun ls H locs hl hh hs => lv_i2b C.1 C.2.1 hd rfl (k ls H locs hl hh hs)
/-- a cell: three numbers, sites, null, mark -/
abbrev Ce : Type := Int64 × Int64 × Int64 × Int32 × Int32 × Int32
def cW (F : Nat → Nat → Int32) (G : Nat → Nat → Int64) (i : Nat) : Ce := (G 52 i, G 53 i, G 54 i, F 55 i, F 56 i, F 57 i)
def cK (F : Nat → Nat → Int32) (G : Nat → Nat → Int64) (i : Nat) : Ce := (G 60 i, G 61 i, G 62 i, F 63 i, F 64 i, F 65 i)
def cS (F : Nat → Nat → Int32) (G : Nat → Nat → Int64) (i : Nat) : Ce := (G 32 i, G 33 i, G 34 i, F 35 i, F 36 i, F 37 i)
def nrC (c : Ce) : Ce := (c.1, c.2.1, c.2.2.1, c.2.2.2.1, vp_nar .boolean c.2.2.2.2.1, c.2.2.2.2.2)
def ceA (v : Av) (c : Ce) : Prop := match v with
  | .inl x => c.1 = eL x.1 ∧ c.2.1 = eL x.2.1 ∧ c.2.2.1 = eL x.2.2
  | .inr (b, o) => c.2.2.2.1 = b ∧ c.2.2.2.2.1 = bI o
/-- where a value lies: locals ahead, what is stacked from six on -/
def sl (L i : Nat) : Nat := if i < L then i else i - L + 6
def rwR (L n : Nat) (f : Nat → Sl) (c : Nat → Ce) : Prop := ∀ i, i < n → ceA (f i).1 (c (sl L i)) ∧ (L ≤ i → (c (sl L i)).2.2.2.2.2 = (f i).2)
def wkR (L n : Nat) (f : Nat → Sl) (S : Nat → Int32) (F : Nat → Nat → Int32) (G : Nat → Nat → Int64) : Prop := S 58 = nI (n - L + 6) ∧ rwR L n f (cW F G) ∧ L ≤ 6 ∧ L ≤ n ∧ n - L ≤ 8
def frW (S S' : Nat → Int32) (F F' : Nat → Nat → Int32) (G G' : Nat → Nat → Int64) : Prop := (∀ j, j ≠ 58 → S' j = S j) ∧ (∀ j, j ≠ 55 → j ≠ 56 → j ≠ 57 → F' j = F j) ∧ ∀ j, j ≠ 52 → j ≠ 53 → j ≠ 54 → G' j = G j
theorem frW.rf : frW S S F F G G := ⟨fun _ _ => rfl, fun _ _ _ _ => rfl, fun _ _ _ _ => rfl⟩
theorem frW.tr {S2 : Nat → Int32} {F2 : Nat → Nat → Int32} {G2 : Nat → Nat → Int64} (a : frW S S' F F' G G') (b : frW S' S2 F' F2 G' G2) : frW S S2 F F2 G G2 := ⟨fun j h => (b.1 j h).trans (a.1 j h), fun j h1 h2 h3 => (b.2.1 j h1 h2 h3).trans (a.2.1 j h1 h2 h3), fun j h1 h2 h3 => (b.2.2 j h1 h2 h3).trans (a.2.2 j h1 h2 h3)⟩
theorem nz0 : vp_nar .boolean 0 = 0 := rfl
theorem nz1 : vp_nar .boolean 1 = 1 := rfl
theorem nzb (b : Bool) : vp_nar .boolean (bI b) = bI b := by cases b <;> rfl
theorem sl_14 {L n i : Nat} (h6 : L ≤ 6) (h8 : n - L ≤ 8) (hi : i < n) : sl L i < 14 := by unfold sl; split <;> omega
theorem sl_lo {L i : Nat} (h : i < L) : sl L i = i := if_pos h
theorem sl_hi {L i : Nat} (h : L ≤ i) : sl L i = i - L + 6 := if_neg (by omega)
theorem sl_inj {L i j : Nat} (h6 : L ≤ 6) (h : sl L i = sl L j) : i = j := by
  unfold sl at h
  split at h <;> split at h <;> omega
theorem ceA_nr {v : Av} {c : Ce} (h : ceA v c) : ceA v (nrC c) := by
  cases v with
  | inl x => exact h
  | inr b => exact ⟨h.1, by show vp_nar .boolean c.2.2.2.2.1 = _; rw [h.2]; exact nzb _⟩
theorem rwR_nr {L n : Nat} {f : Nat → Sl} {c c' : Nat → Ce} (h : rwR L n f c) (h6 : L ≤ 6) (h8 : n - L ≤ 8) (e : ∀ j, j < 14 → c' j = nrC (c j)) : rwR L n f c' := fun i hi => by
  obtain ⟨a, b⟩ := h i hi
  rw [e _ (sl_14 h6 h8 hi)]
  exact ⟨ceA_nr a, b⟩
/-- of a place: what its slots are -/
def isA (P : Pm) (m : Nat) (x : Sh) (j : Nat) : Bool := if j < 6 then kdB P m j else x.2.testBit (j - 6)
def isS (P : Pm) (m : Nat) (x : Sh) (j : Nat) : Bool := if j < 6 then decide (j < pN P 2 m) else decide (j - 6 < x.1)
theorem isS_sl {L j : Nat} (hL : pN P 2 m = L) (h6 : L ≤ 6) (h : isS P m x j = true) : ∃ i, i < L + x.1 ∧ sl L i = j ∧ isA P m x j = kdF P m x i ∧ (6 ≤ j → L ≤ i) ∧ (j < 6 → i < L) := by
  unfold isS at h
  by_cases q : j < 6
  · rw [if_pos q, decide_eq_true_iff] at h
    refine ⟨j, by omega, sl_lo (by omega), ?_, by omega, by omega⟩
    unfold isA
    rw [if_pos q, kdF_lo h]
  · rw [if_neg q, decide_eq_true_iff] at h
    refine ⟨L + (j - 6), by omega, by rw [sl_hi (by omega)]; omega, ?_, by omega, by omega⟩
    unfold isA
    rw [if_neg q, ← hL, kdF_hi]
theorem sl_isS {L i : Nat} (hL : pN P 2 m = L) (h6 : L ≤ 6) (hi : i < L + x.1) : isS P m x (sl L i) = true := by
  unfold isS sl
  split
  · rw [if_pos (by omega), decide_eq_true_iff]; omega
  · rw [if_neg (by omega), decide_eq_true_iff]; omega
theorem nI_dv {a b : Nat} (ha : a < 2 ^ 31) (hb : b < 2 ^ 31) : nI a / nI b = nI (a / b) := by
  apply Int32.toInt_inj.mp
  rw [Int32.toInt_div, nI_toInt ha, nI_toInt hb, nI_toInt (by have := Nat.div_le_self a b; omega)]
  rw [Int.tdiv_eq_ediv_of_nonneg (by omega)]
  have h1 : ((a : Int) / (b : Int)) = ((a / b : Nat) : Int) := rfl
  rw [h1]
  have := Nat.div_le_self a b
  generalize a / b = q at *
  refine Int.bmod_eq_of_le (by omega) (by omega)
set_option maxHeartbeats 4000000 in
set_option maxRecDepth 100000 in
theorem c_Mo_isArray {j : Nat} (W : wfP k P) (hm : m < k) (hi : i < pN P 5 m) (hP : prF P F) (hj : j < 14) (x8 : x.1 ≤ 8) (e13 : F 13 (60 * m + i) = nI x.2) (H : mo_at M S J F G h) : gi_T l V y_Mo_isArray b_Mo_isArray 3 (some .boolean) 1 22 0 0 [.ref M, .int (nI (60 * m + i)), .int (nI j)] n h (gi_is (some (.int (bI (isA P m x j)))) n h) := by
  refine gi_enter (by decide) (Nat.le_of_ble_eq_true rfl) ?_
  intro _ _ _ _ _ _ _ _ C hr hnm
  obtain ⟨fs, Ha, Hf⟩ := id H.1
  have ho : outM M h h := outM.rf
  have w8 := W.k8
  have wm := wf_ar W hm
  refine gi_iload_n (q := 1) (i := 2) C (dm_Mo_isArray 0 rfl) rfl rfl rfl ?_
  refine gi_bipush (q := 3) (v := 6) C (dm_Mo_isArray 1 rfl) rfl (by decide) ?_
  refine gi_icmp_ge (q := 6) (tgt := 27) C (dm_Mo_isArray 2 rfl) rfl (by decide) (fun c3 => ?_) (fun c3 => ?_)
  · have j6 : ¬ j < 6 := by
      rw [show (6 : Int32) = nI 6 from rfl, nI_leP (by decide) (by omega)] at c3
      omega
    refine gi_aload_n (q := 28) (i := 0) C (dm_Mo_isArray 15 rfl) rfl rfl rfl ?_
    refine gi_get (q := 31) C (dm_Mo_isArray 16 rfl) rfl fl_Mo_41 Ha (mo_g13 Hf) ?_
    refine gi_iload_n (q := 32) (i := 1) C (dm_Mo_isArray 17 rfl) rfl rfl rfl ?_
    refine gi_iald (q := 33) C (dm_Mo_isArray 18 rfl) rfl rfl (mo_a13 H) (inN (show 60 * m + i < 480 by omega) (by decide)) ?_
    rw [nI_clamp (show 60 * m + i < 2 ^ 31 by omega), e13]
    refine gi_iload_n (q := 34) (i := 2) C (dm_Mo_isArray 19 rfl) rfl rfl rfl ?_
    refine gi_bipush (q := 36) (v := 6) C (dm_Mo_isArray 20 rfl) rfl (by decide) ?_
    refine gi_isub (q := 37) C (dm_Mo_isArray 21 rfl) rfl ?_
    rw [show (6 : Int32) = nI 6 from rfl, nI_sb (by omega) (by omega)]
    refine gi_ishr (q := 38) C (dm_Mo_isArray 22 rfl) rfl ?_
    refine gi_iconst (q := 39) (v := 1) C (dm_Mo_isArray 23 rfl) rfl (by decide) ?_
    refine gi_iand (q := 40) C (dm_Mo_isArray 24 rfl) rfl ?_
    refine gi_iconst (q := 41) (v := 1) C (dm_Mo_isArray 25 rfl) rfl (by decide) ?_
    rw [bt_v (by omega)]
    refine gi_icmp_ne (q := 44) (tgt := 48) C (dm_Mo_isArray 26 rfl) rfl (by decide) (fun c41 => ?_) (fun c41 => ?_)
    · refine gi_iconst (q := 49) (v := 0) C (dm_Mo_isArray 29 rfl) rfl (by decide) ?_
      refine gi_zret C hr (dm_Mo_isArray 30 rfl) rfl ?_
      refine ⟨?_, rfl, rfl⟩
      unfold isA
      first
        | (rw [if_pos j6]; cases e : kdB P m j <;> rw [e] at c16 <;> first | rfl | exact absurd c16 (by decide) | exact absurd rfl c16)
        | (rw [if_neg j6]; cases e : x.2.testBit (j - 6) <;> rw [e] at c41 <;> first | rfl | exact absurd c41 (by decide) | exact absurd rfl c41)
    · refine gi_iconst (q := 45) (v := 1) C (dm_Mo_isArray 27 rfl) rfl (by decide) ?_
      refine gi_goto (tgt := 49) C (dm_Mo_isArray 28 rfl) (by decide) ?_
      refine gi_zret C hr (dm_Mo_isArray 30 rfl) rfl ?_
      refine ⟨?_, rfl, rfl⟩
      unfold isA
      first
        | (rw [if_pos j6]; cases e : kdB P m j <;> rw [e] at c16 <;> first | rfl | exact absurd c16 (by decide) | exact absurd rfl c16)
        | (rw [if_neg j6]; cases e : x.2.testBit (j - 6) <;> rw [e] at c41 <;> first | rfl | exact absurd c41 (by decide) | exact absurd rfl c41)
  · have j6 : j < 6 := by
      rw [show (6 : Int32) = nI 6 from rfl, nI_leP (by decide) (by omega)] at c3
      omega
    refine gi_aload_n (q := 7) (i := 0) C (dm_Mo_isArray 3 rfl) rfl rfl rfl ?_
    refine gi_iload_n (q := 8) (i := 1) C (dm_Mo_isArray 4 rfl) rfl rfl rfl ?_
    refine gi_bipush (q := 10) (v := 60) C (dm_Mo_isArray 5 rfl) rfl (by decide) ?_
    refine gi_idiv (q := 11) C (dm_Mo_isArray 6 rfl) rfl (by decide) ?_
    rw [show (60 : Int32) = nI 60 from rfl, nI_dv (by omega) (by decide), show (60 * m + i) / 60 = m by omega]
    refine gi_iload_n (q := 12) (i := 2) C (dm_Mo_isArray 7 rfl) rfl rfl rfl ?_
    refine gi_callv 2 (q := 15) C (dm_Mo_isArray 8 rfl) rfl my_Mo_kindOf lk_Mo_207 im_Mo_kindOf rfl (c_Mo_kindOf W hm (show j < 8 by omega) hP H) Ha rfl rfl ⟨(Nat.le_of_ble_eq_true rfl), (Nat.le_of_ble_eq_true rfl)⟩ (Nat.le_of_ble_eq_true rfl) ⟨(Nat.le_of_ble_eq_true rfl), (Nat.le_of_ble_eq_true rfl)⟩ (fun r12 n12 h12 e12 => ?_)
    obtain ⟨rfl, q12, u12⟩ := e12
    rw [q12, u12]
    refine gi_iconst (q := 16) (v := 1) C (dm_Mo_isArray 9 rfl) rfl (by decide) ?_
    refine gi_icmp_ne (q := 19) (tgt := 23) C (dm_Mo_isArray 10 rfl) rfl (by decide) (fun c16 => ?_) (fun c16 => ?_)
    · refine gi_iconst (q := 24) (v := 0) C (dm_Mo_isArray 13 rfl) rfl (by decide) ?_
      refine gi_goto (tgt := 49) C (dm_Mo_isArray 14 rfl) (by decide) ?_
      refine gi_zret C hr (dm_Mo_isArray 30 rfl) rfl ?_
      refine ⟨?_, rfl, rfl⟩
      unfold isA
      first
        | (rw [if_pos j6]; cases e : kdB P m j <;> rw [e] at c16 <;> first | rfl | exact absurd c16 (by decide) | exact absurd rfl c16)
        | (rw [if_neg j6]; cases e : x.2.testBit (j - 6) <;> rw [e] at c41 <;> first | rfl | exact absurd c41 (by decide) | exact absurd rfl c41)
    · refine gi_iconst (q := 20) (v := 1) C (dm_Mo_isArray 11 rfl) rfl (by decide) ?_
      refine gi_goto (tgt := 49) C (dm_Mo_isArray 12 rfl) (by decide) ?_
      refine gi_zret C hr (dm_Mo_isArray 30 rfl) rfl ?_
      refine ⟨?_, rfl, rfl⟩
      unfold isA
      first
        | (rw [if_pos j6]; cases e : kdB P m j <;> rw [e] at c16 <;> first | rfl | exact absurd c16 (by decide) | exact absurd rfl c16)
        | (rw [if_neg j6]; cases e : x.2.testBit (j - 6) <;> rw [e] at c41 <;> first | rfl | exact absurd c41 (by decide) | exact absurd rfl c41)
set_option maxHeartbeats 4000000 in
set_option maxRecDepth 100000 in
theorem c_Mo_isSlot {j : Nat} (W : wfP k P) (hm : m < k) (hi : i < pN P 5 m) (hP : prF P F) (hj : j < 14) (x8 : x.1 ≤ 8) (e12 : F 12 (60 * m + i) = nI x.1) (H : mo_at M S J F G h) : gi_T l V y_Mo_isSlot b_Mo_isSlot 3 (some .boolean) 0 0 0 0 [.ref M, .int (nI (60 * m + i)), .int (nI j)] n h (gi_is (some (.int (bI (isS P m x j)))) n h) := by
  refine gi_enter (by decide) (Nat.le_of_ble_eq_true rfl) ?_
  intro _ _ _ _ _ _ _ _ C hr hnm
  obtain ⟨fs, Ha, Hf⟩ := id H.1
  have ho : outM M h h := outM.rf
  have w8 := W.k8
  have wm := wf_ar W hm
  have e2 := (wf_n W hm).2.1
  refine gi_iload_n (q := 1) (i := 2) C (dm_Mo_isSlot 0 rfl) rfl rfl rfl ?_
  refine gi_bipush (q := 3) (v := 6) C (dm_Mo_isSlot 1 rfl) rfl (by decide) ?_
  refine gi_icmp_ge (q := 6) (tgt := 27) C (dm_Mo_isSlot 2 rfl) rfl (by decide) (fun c3 => ?_) (fun c3 => ?_)
  · have j6 : ¬ j < 6 := by
      rw [show (6 : Int32) = nI 6 from rfl, nI_leP (by decide) (by omega)] at c3
      omega
    refine gi_iload_n (q := 28) (i := 2) C (dm_Mo_isSlot 15 rfl) rfl rfl rfl ?_
    refine gi_bipush (q := 30) (v := 6) C (dm_Mo_isSlot 16 rfl) rfl (by decide) ?_
    refine gi_isub (q := 31) C (dm_Mo_isSlot 17 rfl) rfl ?_
    rw [show (6 : Int32) = nI 6 from rfl, nI_sb (by omega) (by omega)]
    refine gi_aload_n (q := 32) (i := 0) C (dm_Mo_isSlot 18 rfl) rfl rfl rfl ?_
    refine gi_get (q := 35) C (dm_Mo_isSlot 19 rfl) rfl fl_Mo_38 Ha (mo_g12 Hf) ?_
    refine gi_iload_n (q := 36) (i := 1) C (dm_Mo_isSlot 20 rfl) rfl rfl rfl ?_
    refine gi_iald (q := 37) C (dm_Mo_isSlot 21 rfl) rfl rfl (mo_a12 H) (inN (show 60 * m + i < 480 by omega) (by decide)) ?_
    rw [nI_clamp (show 60 * m + i < 2 ^ 31 by omega), e12]
    refine gi_icmp_ge (q := 40) (tgt := 44) C (dm_Mo_isSlot 22 rfl) rfl (by decide) (fun c37 => ?_) (fun c37 => ?_)
    · refine gi_iconst (q := 45) (v := 0) C (dm_Mo_isSlot 25 rfl) rfl (by decide) ?_
      refine gi_zret C hr (dm_Mo_isSlot 26 rfl) rfl ?_
      refine ⟨?_, rfl, rfl⟩
      unfold isS
      first
        | (rw [if_pos j6]; rw [nI_leP (by omega) (by omega)] at c16; first | (rw [decide_eq_true (by omega)]; rfl) | (rw [decide_eq_false (by omega)]; rfl))
        | (rw [if_neg j6]; rw [nI_leP (by omega) (by omega)] at c37; first | (rw [decide_eq_true (by omega)]; rfl) | (rw [decide_eq_false (by omega)]; rfl))
    · refine gi_iconst (q := 41) (v := 1) C (dm_Mo_isSlot 23 rfl) rfl (by decide) ?_
      refine gi_goto (tgt := 45) C (dm_Mo_isSlot 24 rfl) (by decide) ?_
      refine gi_zret C hr (dm_Mo_isSlot 26 rfl) rfl ?_
      refine ⟨?_, rfl, rfl⟩
      unfold isS
      first
        | (rw [if_pos j6]; rw [nI_leP (by omega) (by omega)] at c16; first | (rw [decide_eq_true (by omega)]; rfl) | (rw [decide_eq_false (by omega)]; rfl))
        | (rw [if_neg j6]; rw [nI_leP (by omega) (by omega)] at c37; first | (rw [decide_eq_true (by omega)]; rfl) | (rw [decide_eq_false (by omega)]; rfl))
  · have j6 : j < 6 := by
      rw [show (6 : Int32) = nI 6 from rfl, nI_leP (by decide) (by omega)] at c3
      omega
    refine gi_iload_n (q := 7) (i := 2) C (dm_Mo_isSlot 3 rfl) rfl rfl rfl ?_
    refine gi_aload_n (q := 8) (i := 0) C (dm_Mo_isSlot 4 rfl) rfl rfl rfl ?_
    refine gi_get (q := 11) C (dm_Mo_isSlot 5 rfl) rfl fl_Mo_13 Ha (mo_g2 Hf) ?_
    refine gi_iload_n (q := 12) (i := 1) C (dm_Mo_isSlot 6 rfl) rfl rfl rfl ?_
    refine gi_bipush (q := 14) (v := 60) C (dm_Mo_isSlot 7 rfl) rfl (by decide) ?_
    refine gi_idiv (q := 15) C (dm_Mo_isSlot 8 rfl) rfl (by decide) ?_
    rw [show (60 : Int32) = nI 60 from rfl, nI_dv (by omega) (by decide), show (60 * m + i) / 60 = m by omega]
    refine gi_iald (q := 16) C (dm_Mo_isSlot 9 rfl) rfl rfl (mo_a2 H) (inN (show m < 8 by omega) (by decide)) ?_
    rw [nI_clamp (show m < 2 ^ 31 by omega), hP 2 (by decide) (by decide), e2]
    refine gi_icmp_ge (q := 19) (tgt := 23) C (dm_Mo_isSlot 10 rfl) rfl (by decide) (fun c16 => ?_) (fun c16 => ?_)
    · refine gi_iconst (q := 24) (v := 0) C (dm_Mo_isSlot 13 rfl) rfl (by decide) ?_
      refine gi_goto (tgt := 45) C (dm_Mo_isSlot 14 rfl) (by decide) ?_
      refine gi_zret C hr (dm_Mo_isSlot 26 rfl) rfl ?_
      refine ⟨?_, rfl, rfl⟩
      unfold isS
      first
        | (rw [if_pos j6]; rw [nI_leP (by omega) (by omega)] at c16; first | (rw [decide_eq_true (by omega)]; rfl) | (rw [decide_eq_false (by omega)]; rfl))
        | (rw [if_neg j6]; rw [nI_leP (by omega) (by omega)] at c37; first | (rw [decide_eq_true (by omega)]; rfl) | (rw [decide_eq_false (by omega)]; rfl))
    · refine gi_iconst (q := 20) (v := 1) C (dm_Mo_isSlot 11 rfl) rfl (by decide) ?_
      refine gi_goto (tgt := 45) C (dm_Mo_isSlot 12 rfl) (by decide) ?_
      refine gi_zret C hr (dm_Mo_isSlot 26 rfl) rfl ?_
      refine ⟨?_, rfl, rfl⟩
      unfold isS
      first
        | (rw [if_pos j6]; rw [nI_leP (by omega) (by omega)] at c16; first | (rw [decide_eq_true (by omega)]; rfl) | (rw [decide_eq_false (by omega)]; rfl))
        | (rw [if_neg j6]; rw [nI_leP (by omega) (by omega)] at c37; first | (rw [decide_eq_true (by omega)]; rfl) | (rw [decide_eq_false (by omega)]; rfl))
theorem updJ_is (f : Nat → Int64) (i : Nat) (v : Int64) (j : Nat) : vp_updL f i v j = if j = i then v else f j := by
  unfold vp_updL
  rfl
set_option maxHeartbeats 4000000 in
set_option maxRecDepth 100000 in
theorem c_Mo_span {s : Nat} (hs : s < 14) (a b c : Int64) (H : mo_at M S J F G h) : gi_T l V y_Mo_span b_Mo_span 8 none 0 0 0 0 [.ref M, .int (nI s), .long a, .long b, .long c] n h (fun v n' h' => v = none ∧ n' = n ∧ ∃ F' G', mo_at M S J F' G' h' ∧ outM M h h' ∧ frW S S F F' G G' ∧ cW F' G' = upO (cW F G) s (a, b, c, 0, 0, (cW F G s).2.2.2.2.2)) := by
  refine gi_enter (by decide) (Nat.le_of_ble_eq_true rfl) ?_
  intro _ _ _ _ _ _ _ _ C hr hnm
  obtain ⟨fs, Ha, Hf⟩ := id H.1
  have ho : outM M h h := outM.rf
  refine gi_aload_n (q := 1) (i := 0) C (dm_Mo_span 0 rfl) rfl rfl rfl ?_
  refine gi_get (q := 4) C (dm_Mo_span 1 rfl) rfl fl_Mo_104 Ha (mo_g52 Hf) ?_
  refine gi_iload_n (q := 5) (i := 1) C (dm_Mo_span 2 rfl) rfl rfl rfl ?_
  refine gi_lload_n (q := 6) (i := 2) C (dm_Mo_span 3 rfl) rfl rfl rfl ?_
  refine gi_last (q := 7) C (dm_Mo_span 4 rfl) rfl rfl (mo_a52 H) (inN hs (by decide)) ?_
  refine gi_genM (H.setJ (p := 28) (k := 52) (by decide) rfl rfl rfl (by omega)) (ho.up (by omega) (by omega)) (fun y H ho => ?_)
  obtain ⟨fs, Ha, Hf⟩ := id H.1
  refine gi_aload_n (q := 8) (i := 0) C (dm_Mo_span 5 rfl) rfl rfl rfl ?_
  refine gi_get (q := 11) C (dm_Mo_span 6 rfl) rfl fl_Mo_107 Ha (mo_g53 Hf) ?_
  refine gi_iload_n (q := 12) (i := 1) C (dm_Mo_span 7 rfl) rfl rfl rfl ?_
  refine gi_lload (q := 14) C (dm_Mo_span 8 rfl) rfl rfl ?_
  refine gi_last (q := 15) C (dm_Mo_span 9 rfl) rfl rfl (mo_a53 H) (inN hs (by decide)) ?_
  refine gi_genM (H.setJ (p := 29) (k := 53) (by decide) rfl rfl rfl (by omega)) (ho.up (by omega) (by omega)) (fun y H ho => ?_)
  obtain ⟨fs, Ha, Hf⟩ := id H.1
  refine gi_aload_n (q := 16) (i := 0) C (dm_Mo_span 10 rfl) rfl rfl rfl ?_
  refine gi_get (q := 19) C (dm_Mo_span 11 rfl) rfl fl_Mo_110 Ha (mo_g54 Hf) ?_
  refine gi_iload_n (q := 20) (i := 1) C (dm_Mo_span 12 rfl) rfl rfl rfl ?_
  refine gi_lload (q := 22) C (dm_Mo_span 13 rfl) rfl rfl ?_
  refine gi_last (q := 23) C (dm_Mo_span 14 rfl) rfl rfl (mo_a54 H) (inN hs (by decide)) ?_
  refine gi_genM (H.setJ (p := 30) (k := 54) (by decide) rfl rfl rfl (by omega)) (ho.up (by omega) (by omega)) (fun y H ho => ?_)
  obtain ⟨fs, Ha, Hf⟩ := id H.1
  refine gi_aload_n (q := 24) (i := 0) C (dm_Mo_span 15 rfl) rfl rfl rfl ?_
  refine gi_get (q := 27) C (dm_Mo_span 16 rfl) rfl fl_Mo_113 Ha (mo_g55 Hf) ?_
  refine gi_iload_n (q := 28) (i := 1) C (dm_Mo_span 17 rfl) rfl rfl rfl ?_
  refine gi_iconst (q := 29) (v := 0) C (dm_Mo_span 18 rfl) rfl (by decide) ?_
  refine gi_iast (q := 30) C (dm_Mo_span 19 rfl) rfl rfl (mo_a55 H) (inN hs (by decide)) ?_
  refine gi_genM (H.setI (p := 31) (k := 55) (by decide) rfl rfl (by decide) rfl (by omega)) (ho.up (by omega) (by omega)) (fun y H ho => ?_)
  obtain ⟨fs, Ha, Hf⟩ := id H.1
  refine gi_aload_n (q := 31) (i := 0) C (dm_Mo_span 20 rfl) rfl rfl rfl ?_
  refine gi_get (q := 34) C (dm_Mo_span 21 rfl) rfl fl_Mo_116 Ha (mo_g56 Hf) ?_
  refine gi_iload_n (q := 35) (i := 1) C (dm_Mo_span 22 rfl) rfl rfl rfl ?_
  refine gi_iconst (q := 36) (v := 0) C (dm_Mo_span 23 rfl) rfl (by decide) ?_
  refine gi_zast (q := 37) C (dm_Mo_span 24 rfl) rfl rfl (mo_a56 H) (inN hs (by decide)) ?_
  refine gi_genM (H.setI (p := 32) (k := 56) (by decide) rfl rfl (by decide) rfl (by omega)) (ho.up (by omega) (by omega)) (fun y H ho => ?_)
  obtain ⟨fs, Ha, Hf⟩ := id H.1
  refine gi_vret C hr (dm_Mo_span 25 rfl) ?_
  refine ⟨rfl, rfl, _, _, H, ho, ⟨fun _ _ => rfl, fun j h1 h2 h3 => by simp [upA, h1, h2, h3], fun j h1 h2 h3 => by simp [upA, h1, h2, h3]⟩, ?_⟩
  rw [nI_clamp (show s < 2 ^ 31 by omega)]
  funext j
  by_cases q : j = s
  · subst q
    simp [cW, upA, upd_is, updJ_is, upO, nz0, nzb]
  · simp [cW, upA, upd_is, updJ_is, upO, q]
set_option maxHeartbeats 4000000 in
set_option maxRecDepth 100000 in
theorem c_Mo_setOf {s : Nat} (hs : s < 14) (b : Int32) (q : Bool) (H : mo_at M S J F G h) : gi_T l V y_Mo_setOf b_Mo_setOf 4 none 0 0 0 0 [.ref M, .int (nI s), .int b, .int (bI q)] n h (fun v n' h' => v = none ∧ n' = n ∧ ∃ F' G', mo_at M S J F' G' h' ∧ outM M h h' ∧ frW S S F F' G G' ∧ cW F' G' = upO (cW F G) s (0, 0, 0, b, bI q, (cW F G s).2.2.2.2.2)) := by
  refine gi_enter (by decide) (Nat.le_of_ble_eq_true rfl) ?_
  intro _ _ _ _ _ _ _ _ C hr hnm
  obtain ⟨fs, Ha, Hf⟩ := id H.1
  have ho : outM M h h := outM.rf
  refine gi_aload_n (q := 1) (i := 0) C (dm_Mo_setOf 0 rfl) rfl rfl rfl ?_
  refine gi_get (q := 4) C (dm_Mo_setOf 1 rfl) rfl fl_Mo_104 Ha (mo_g52 Hf) ?_
  refine gi_iload_n (q := 5) (i := 1) C (dm_Mo_setOf 2 rfl) rfl rfl rfl ?_
  refine gi_lconst (q := 6) (v := 0) C (dm_Mo_setOf 3 rfl) rfl (by decide) ?_
  refine gi_last (q := 7) C (dm_Mo_setOf 4 rfl) rfl rfl (mo_a52 H) (inN hs (by decide)) ?_
  refine gi_genM (H.setJ (p := 28) (k := 52) (by decide) rfl rfl rfl (by omega)) (ho.up (by omega) (by omega)) (fun y H ho => ?_)
  obtain ⟨fs, Ha, Hf⟩ := id H.1
  refine gi_aload_n (q := 8) (i := 0) C (dm_Mo_setOf 5 rfl) rfl rfl rfl ?_
  refine gi_get (q := 11) C (dm_Mo_setOf 6 rfl) rfl fl_Mo_107 Ha (mo_g53 Hf) ?_
  refine gi_iload_n (q := 12) (i := 1) C (dm_Mo_setOf 7 rfl) rfl rfl rfl ?_
  refine gi_lconst (q := 13) (v := 0) C (dm_Mo_setOf 8 rfl) rfl (by decide) ?_
  refine gi_last (q := 14) C (dm_Mo_setOf 9 rfl) rfl rfl (mo_a53 H) (inN hs (by decide)) ?_
  refine gi_genM (H.setJ (p := 29) (k := 53) (by decide) rfl rfl rfl (by omega)) (ho.up (by omega) (by omega)) (fun y H ho => ?_)
  obtain ⟨fs, Ha, Hf⟩ := id H.1
  refine gi_aload_n (q := 15) (i := 0) C (dm_Mo_setOf 10 rfl) rfl rfl rfl ?_
  refine gi_get (q := 18) C (dm_Mo_setOf 11 rfl) rfl fl_Mo_110 Ha (mo_g54 Hf) ?_
  refine gi_iload_n (q := 19) (i := 1) C (dm_Mo_setOf 12 rfl) rfl rfl rfl ?_
  refine gi_lconst (q := 20) (v := 0) C (dm_Mo_setOf 13 rfl) rfl (by decide) ?_
  refine gi_last (q := 21) C (dm_Mo_setOf 14 rfl) rfl rfl (mo_a54 H) (inN hs (by decide)) ?_
  refine gi_genM (H.setJ (p := 30) (k := 54) (by decide) rfl rfl rfl (by omega)) (ho.up (by omega) (by omega)) (fun y H ho => ?_)
  obtain ⟨fs, Ha, Hf⟩ := id H.1
  refine gi_aload_n (q := 22) (i := 0) C (dm_Mo_setOf 15 rfl) rfl rfl rfl ?_
  refine gi_get (q := 25) C (dm_Mo_setOf 16 rfl) rfl fl_Mo_113 Ha (mo_g55 Hf) ?_
  refine gi_iload_n (q := 26) (i := 1) C (dm_Mo_setOf 17 rfl) rfl rfl rfl ?_
  refine gi_iload_n (q := 27) (i := 2) C (dm_Mo_setOf 18 rfl) rfl rfl rfl ?_
  refine gi_iast (q := 28) C (dm_Mo_setOf 19 rfl) rfl rfl (mo_a55 H) (inN hs (by decide)) ?_
  refine gi_genM (H.setI (p := 31) (k := 55) (by decide) rfl rfl (by decide) rfl (by omega)) (ho.up (by omega) (by omega)) (fun y H ho => ?_)
  obtain ⟨fs, Ha, Hf⟩ := id H.1
  refine gi_aload_n (q := 29) (i := 0) C (dm_Mo_setOf 20 rfl) rfl rfl rfl ?_
  refine gi_get (q := 32) C (dm_Mo_setOf 21 rfl) rfl fl_Mo_116 Ha (mo_g56 Hf) ?_
  refine gi_iload_n (q := 33) (i := 1) C (dm_Mo_setOf 22 rfl) rfl rfl rfl ?_
  refine gi_iload_n (q := 34) (i := 3) C (dm_Mo_setOf 23 rfl) rfl rfl rfl ?_
  refine gi_zast (q := 35) C (dm_Mo_setOf 24 rfl) rfl rfl (mo_a56 H) (inN hs (by decide)) ?_
  refine gi_genM (H.setI (p := 32) (k := 56) (by decide) rfl rfl (by decide) rfl (by omega)) (ho.up (by omega) (by omega)) (fun y H ho => ?_)
  obtain ⟨fs, Ha, Hf⟩ := id H.1
  refine gi_vret C hr (dm_Mo_setOf 25 rfl) ?_
  refine ⟨rfl, rfl, _, _, H, ho, ⟨fun _ _ => rfl, fun j h1 h2 h3 => by simp [upA, h1, h2, h3], fun j h1 h2 h3 => by simp [upA, h1, h2, h3]⟩, ?_⟩
  rw [nI_clamp (show s < 2 ^ 31 by omega)]
  funext j
  by_cases q' : j = s
  · subst q'
    simp [cW, upA, upd_is, updJ_is, upO, nz0, nzb]
  · simp [cW, upA, upd_is, updJ_is, upO, q']
set_option maxHeartbeats 4000000 in
set_option maxRecDepth 100000 in
theorem c_Mo_copy {t s : Nat} (ht : t < 14) (hs : s < 14) (H : mo_at M S J F G h) : gi_T l V y_Mo_copy b_Mo_copy 3 none 0 0 0 0 [.ref M, .int (nI t), .int (nI s)] n h (fun v n' h' => v = none ∧ n' = n ∧ ∃ F' G', mo_at M S J F' G' h' ∧ outM M h h' ∧ frW S S F F' G G' ∧ cW F' G' = upO (cW F G) s (nrC (cW F G t))) := by
  refine gi_enter (by decide) (Nat.le_of_ble_eq_true rfl) ?_
  intro _ _ _ _ _ _ _ _ C hr hnm
  obtain ⟨fs, Ha, Hf⟩ := id H.1
  have ho : outM M h h := outM.rf
  refine gi_aload_n (q := 1) (i := 0) C (dm_Mo_copy 0 rfl) rfl rfl rfl ?_
  refine gi_get (q := 4) C (dm_Mo_copy 1 rfl) rfl fl_Mo_104 Ha (mo_g52 Hf) ?_
  refine gi_iload_n (q := 5) (i := 2) C (dm_Mo_copy 2 rfl) rfl rfl rfl ?_
  refine gi_aload_n (q := 6) (i := 0) C (dm_Mo_copy 3 rfl) rfl rfl rfl ?_
  refine gi_get (q := 9) C (dm_Mo_copy 4 rfl) rfl fl_Mo_104 Ha (mo_g52 Hf) ?_
  refine gi_iload_n (q := 10) (i := 1) C (dm_Mo_copy 5 rfl) rfl rfl rfl ?_
  refine gi_lald (q := 11) C (dm_Mo_copy 6 rfl) rfl rfl (mo_a52 H) (inN ht (by decide)) ?_
  refine gi_last (q := 12) C (dm_Mo_copy 7 rfl) rfl rfl (mo_a52 H) (inN hs (by decide)) ?_
  refine gi_genM (H.setJ (p := 28) (k := 52) (by decide) rfl rfl rfl (by omega)) (ho.up (by omega) (by omega)) (fun y H ho => ?_)
  obtain ⟨fs, Ha, Hf⟩ := id H.1
  refine gi_aload_n (q := 13) (i := 0) C (dm_Mo_copy 8 rfl) rfl rfl rfl ?_
  refine gi_get (q := 16) C (dm_Mo_copy 9 rfl) rfl fl_Mo_107 Ha (mo_g53 Hf) ?_
  refine gi_iload_n (q := 17) (i := 2) C (dm_Mo_copy 10 rfl) rfl rfl rfl ?_
  refine gi_aload_n (q := 18) (i := 0) C (dm_Mo_copy 11 rfl) rfl rfl rfl ?_
  refine gi_get (q := 21) C (dm_Mo_copy 12 rfl) rfl fl_Mo_107 Ha (mo_g53 Hf) ?_
  refine gi_iload_n (q := 22) (i := 1) C (dm_Mo_copy 13 rfl) rfl rfl rfl ?_
  refine gi_lald (q := 23) C (dm_Mo_copy 14 rfl) rfl rfl (mo_a53 H) (inN ht (by decide)) ?_
  refine gi_last (q := 24) C (dm_Mo_copy 15 rfl) rfl rfl (mo_a53 H) (inN hs (by decide)) ?_
  refine gi_genM (H.setJ (p := 29) (k := 53) (by decide) rfl rfl rfl (by omega)) (ho.up (by omega) (by omega)) (fun y H ho => ?_)
  obtain ⟨fs, Ha, Hf⟩ := id H.1
  refine gi_aload_n (q := 25) (i := 0) C (dm_Mo_copy 16 rfl) rfl rfl rfl ?_
  refine gi_get (q := 28) C (dm_Mo_copy 17 rfl) rfl fl_Mo_110 Ha (mo_g54 Hf) ?_
  refine gi_iload_n (q := 29) (i := 2) C (dm_Mo_copy 18 rfl) rfl rfl rfl ?_
  refine gi_aload_n (q := 30) (i := 0) C (dm_Mo_copy 19 rfl) rfl rfl rfl ?_
  refine gi_get (q := 33) C (dm_Mo_copy 20 rfl) rfl fl_Mo_110 Ha (mo_g54 Hf) ?_
  refine gi_iload_n (q := 34) (i := 1) C (dm_Mo_copy 21 rfl) rfl rfl rfl ?_
  refine gi_lald (q := 35) C (dm_Mo_copy 22 rfl) rfl rfl (mo_a54 H) (inN ht (by decide)) ?_
  refine gi_last (q := 36) C (dm_Mo_copy 23 rfl) rfl rfl (mo_a54 H) (inN hs (by decide)) ?_
  refine gi_genM (H.setJ (p := 30) (k := 54) (by decide) rfl rfl rfl (by omega)) (ho.up (by omega) (by omega)) (fun y H ho => ?_)
  obtain ⟨fs, Ha, Hf⟩ := id H.1
  refine gi_aload_n (q := 37) (i := 0) C (dm_Mo_copy 24 rfl) rfl rfl rfl ?_
  refine gi_get (q := 40) C (dm_Mo_copy 25 rfl) rfl fl_Mo_113 Ha (mo_g55 Hf) ?_
  refine gi_iload_n (q := 41) (i := 2) C (dm_Mo_copy 26 rfl) rfl rfl rfl ?_
  refine gi_aload_n (q := 42) (i := 0) C (dm_Mo_copy 27 rfl) rfl rfl rfl ?_
  refine gi_get (q := 45) C (dm_Mo_copy 28 rfl) rfl fl_Mo_113 Ha (mo_g55 Hf) ?_
  refine gi_iload_n (q := 46) (i := 1) C (dm_Mo_copy 29 rfl) rfl rfl rfl ?_
  refine gi_iald (q := 47) C (dm_Mo_copy 30 rfl) rfl rfl (mo_a55 H) (inN ht (by decide)) ?_
  refine gi_iast (q := 48) C (dm_Mo_copy 31 rfl) rfl rfl (mo_a55 H) (inN hs (by decide)) ?_
  refine gi_genM (H.setI (p := 31) (k := 55) (by decide) rfl rfl (by decide) rfl (by omega)) (ho.up (by omega) (by omega)) (fun y H ho => ?_)
  obtain ⟨fs, Ha, Hf⟩ := id H.1
  refine gi_aload_n (q := 49) (i := 0) C (dm_Mo_copy 32 rfl) rfl rfl rfl ?_
  refine gi_get (q := 52) C (dm_Mo_copy 33 rfl) rfl fl_Mo_116 Ha (mo_g56 Hf) ?_
  refine gi_iload_n (q := 53) (i := 2) C (dm_Mo_copy 34 rfl) rfl rfl rfl ?_
  refine gi_aload_n (q := 54) (i := 0) C (dm_Mo_copy 35 rfl) rfl rfl rfl ?_
  refine gi_get (q := 57) C (dm_Mo_copy 36 rfl) rfl fl_Mo_116 Ha (mo_g56 Hf) ?_
  refine gi_iload_n (q := 58) (i := 1) C (dm_Mo_copy 37 rfl) rfl rfl rfl ?_
  refine gi_zald (q := 59) C (dm_Mo_copy 38 rfl) rfl rfl (mo_a56 H) (inN ht (by decide)) ?_
  refine gi_zast (q := 60) C (dm_Mo_copy 39 rfl) rfl rfl (mo_a56 H) (inN hs (by decide)) ?_
  refine gi_genM (H.setI (p := 32) (k := 56) (by decide) rfl rfl (by decide) rfl (by omega)) (ho.up (by omega) (by omega)) (fun y H ho => ?_)
  obtain ⟨fs, Ha, Hf⟩ := id H.1
  refine gi_aload_n (q := 61) (i := 0) C (dm_Mo_copy 40 rfl) rfl rfl rfl ?_
  refine gi_get (q := 64) C (dm_Mo_copy 41 rfl) rfl fl_Mo_119 Ha (mo_g57 Hf) ?_
  refine gi_iload_n (q := 65) (i := 2) C (dm_Mo_copy 42 rfl) rfl rfl rfl ?_
  refine gi_aload_n (q := 66) (i := 0) C (dm_Mo_copy 43 rfl) rfl rfl rfl ?_
  refine gi_get (q := 69) C (dm_Mo_copy 44 rfl) rfl fl_Mo_119 Ha (mo_g57 Hf) ?_
  refine gi_iload_n (q := 70) (i := 1) C (dm_Mo_copy 45 rfl) rfl rfl rfl ?_
  refine gi_iald (q := 71) C (dm_Mo_copy 46 rfl) rfl rfl (mo_a57 H) (inN ht (by decide)) ?_
  refine gi_iast (q := 72) C (dm_Mo_copy 47 rfl) rfl rfl (mo_a57 H) (inN hs (by decide)) ?_
  refine gi_genM (H.setI (p := 33) (k := 57) (by decide) rfl rfl (by decide) rfl (by omega)) (ho.up (by omega) (by omega)) (fun y H ho => ?_)
  obtain ⟨fs, Ha, Hf⟩ := id H.1
  refine gi_vret C hr (dm_Mo_copy 48 rfl) ?_
  refine ⟨rfl, rfl, _, _, H, ho, ⟨fun _ _ => rfl, fun j h1 h2 h3 => by simp [upA, h1, h2, h3], fun j h1 h2 h3 => by simp [upA, h1, h2, h3]⟩, ?_⟩
  rw [nI_clamp (show s < 2 ^ 31 by omega), nI_clamp (show t < 2 ^ 31 by omega)]
  funext j
  by_cases q : j = s
  · subst q
    simp [cW, upA, upd_is, updJ_is, upO, nrC]
  · simp [cW, upA, upd_is, updJ_is, upO, q]
end RC1
