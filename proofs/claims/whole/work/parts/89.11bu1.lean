-- needs: 89.10
section BU1
variable {l : Launch} {V : gi_V} {n : Nat} {h h' h0 : gi_H} {bu pr : Nat} {S : Nat → Int32} {F : Nat → Nat → Int32}
/-! bits of shapes -/
theorem nI_bv (z : Nat) : (nI z).toBitVec = BitVec.ofNat 32 z := rfl
theorem nI_and (a b : Nat) : nI a &&& nI b = nI (a &&& b) := by
  apply Int32.toBitVec_inj.mp
  show BitVec.ofNat 32 a &&& BitVec.ofNat 32 b = BitVec.ofNat 32 (a &&& b)
  apply BitVec.eq_of_getLsbD_eq
  intro i hi
  simp [BitVec.getLsbD_ofNat, hi, Nat.testBit_and]
theorem nI_or (a b : Nat) : nI a ||| nI b = nI (a ||| b) := by
  apply Int32.toBitVec_inj.mp
  show BitVec.ofNat 32 a ||| BitVec.ofNat 32 b = BitVec.ofNat 32 (a ||| b)
  apply BitVec.eq_of_getLsbD_eq
  intro i hi
  simp [BitVec.getLsbD_ofNat, hi, Nat.testBit_or]
theorem bt_sh : ∀ d, d < 31 → (1 : Int32) <<< (nI d &&& 31) = nI (2 ^ d) := by decide +kernel
theorem bt_lw : ∀ d, d < 31 → (1 : Int32) <<< (nI d &&& 31) - 1 = nI (2 ^ d - 1) := by decide +kernel
theorem bt_bit {z d : Nat} (hd : d < 32) : ((nI z >>> (nI d &&& 31)) &&& 1 = 1) ↔ z.testBit d = true := by
  rw [sh_bit _ hd]
  unfold bitA
  rw [nI_bv, BitVec.getLsbD_ofNat]
  simp [hd]
theorem bt_low {z d : Nat} (hd : d < 31) : nI z &&& ((1 : Int32) <<< (nI d &&& 31) - 1) = nI (z % 2 ^ d) := by
  rw [bt_lw d hd, nI_and, Nat.and_two_pow_sub_one_eq_mod]
theorem bt_or {z d : Nat} (hd : d < 31) (hz : z < 2 ^ d) : nI z ||| (1 : Int32) <<< (nI d &&& 31) = nI (2 ^ d * 1 + z) := by
  rw [bt_sh d hd, nI_or, Nat.or_comm, Nat.two_pow_add_eq_or_of_lt hz, Nat.mul_one]
theorem bt_clr {z d : Nat} (hd : d < 31) (hz : z < 2 ^ (d + 1)) : nI z &&& ((1 : Int32) <<< (nI d &&& 31) ^^^ -1) = nI (z % 2 ^ d) := by
  rw [bt_sh d hd]
  apply Int32.toBitVec_inj.mp
  show BitVec.ofNat 32 z &&& (BitVec.ofNat 32 (2 ^ d) ^^^ (-1 : Int32).toBitVec) = BitVec.ofNat 32 (z % 2 ^ d)
  rw [show (-1 : Int32).toBitVec = BitVec.allOnes 32 from by decide]
  apply BitVec.eq_of_getLsbD_eq
  intro i hi
  simp only [BitVec.getLsbD_and, BitVec.getLsbD_xor, BitVec.getLsbD_ofNat, BitVec.getLsbD_allOnes, hi, decide_true, Bool.true_and, Bool.xor_true, Nat.testBit_two_pow, Nat.testBit_mod_two_pow]
  rcases Nat.lt_trichotomy i d with q | q | q
  · rw [decide_eq_false (show ¬ d = i by omega), decide_eq_true q]
    simp
  · subst q
    simp
  · rw [decide_eq_false (show ¬ i < d by omega), Nat.testBit_lt_two_pow (Nat.lt_of_lt_of_le hz (Nat.pow_le_pow_right (by decide) (by omega)))]
    simp
/-! the Building's block -/
def outB (a : Nat) (h h' : gi_H) : Prop := ∀ b, b < a ∨ a + 8 ≤ b → h' b = h b
theorem outB.rf {a : Nat} : outB a h h := fun _ _ => rfl
theorem outB.tr {a : Nat} {h'' : gi_H} (p : outB a h h') (q : outB a h' h'') : outB a h h'' := fun b hb => by rw [q b hb, p b hb]
def buO (bu pr : Nat) (h0 : gi_H) (S : Nat → Int32) (F : Nat → Nat → Int32) (h : gi_H) : Prop := bu_at bu pr S F h ∧ outB bu h0 h
theorem buO.ob (P : buO bu pr h0 S F h) : h bu = some (gi_O 2 [.int (S 0), .int (S 1), .int (S 2), .int (S 3), .int (S 4), .ref pr, .ref (bu + 1), .ref (bu + 2), .ref (bu + 3), .ref (bu + 4), .ref (bu + 5), .ref (bu + 6), .ref (bu + 7), .int (S 13), .int (S 14)]) := P.1.1
theorem buO.ext (P : buO bu pr h0 S F h) (ho : ∀ b, bu ≤ b → b < bu + 8 → h' b = h b) : buO bu pr h' S F h' := ⟨P.1.keep ho, outB.rf⟩
theorem buO.a6 (P : buO bu pr h0 S F h) : h (bu + 1) = some (gi_I 0 480 (F 6)) := P.1.2.1
theorem buO.a7 (P : buO bu pr h0 S F h) : h (bu + 2) = some (gi_I 0 480 (F 7)) := P.1.2.2.1
theorem buO.a8 (P : buO bu pr h0 S F h) : h (bu + 3) = some (gi_I 1 480 (F 8)) := P.1.2.2.2.1
theorem buO.a9 (P : buO bu pr h0 S F h) : h (bu + 4) = some (gi_I 1 480 (F 9)) := P.1.2.2.2.2.1
theorem buO.a10 (P : buO bu pr h0 S F h) : h (bu + 5) = some (gi_I 0 480 (F 10)) := P.1.2.2.2.2.2.1
theorem buO.a11 (P : buO bu pr h0 S F h) : h (bu + 6) = some (gi_I 0 25 (F 11)) := P.1.2.2.2.2.2.2.1
theorem buO.a12 (P : buO bu pr h0 S F h) : h (bu + 7) = some (gi_I 0 25 (F 12)) := P.1.2.2.2.2.2.2.2
theorem buO.pO (P : buO bu pr h0 S F h) (S' : Nat → Int32) : buO bu pr h0 S' F (gi_up h bu (gi_O 2 [.int (S' 0), .int (S' 1), .int (S' 2), .int (S' 3), .int (S' 4), .ref pr, .ref (bu + 1), .ref (bu + 2), .ref (bu + 3), .ref (bu + 4), .ref (bu + 5), .ref (bu + 6), .ref (bu + 7), .int (S' 13), .int (S' 14)])) := by
  obtain ⟨⟨p0, p1, p2, p3, p4, p5, p6, p7⟩, po⟩ := P
  exact ⟨⟨gi_up_self _ _ _, (gi_up_ne (by omega)).trans p1, (gi_up_ne (by omega)).trans p2, (gi_up_ne (by omega)).trans p3, (gi_up_ne (by omega)).trans p4, (gi_up_ne (by omega)).trans p5, (gi_up_ne (by omega)).trans p6, (gi_up_ne (by omega)).trans p7⟩, fun b hb => by rw [gi_up_ne (by omega)]; exact po b hb⟩
theorem buO.s6 (P : buO bu pr h0 S F h) (g : Nat → Int32) : buO bu pr h0 S (upA F 6 g) (gi_up h (bu + 1) (gi_I 0 480 g)) := by
  obtain ⟨⟨p0, p1, p2, p3, p4, p5, p6, p7⟩, po⟩ := P
  exact ⟨⟨(gi_up_ne (by omega)).trans p0, gi_up_self _ _ _, (gi_up_ne (by omega)).trans p2, (gi_up_ne (by omega)).trans p3, (gi_up_ne (by omega)).trans p4, (gi_up_ne (by omega)).trans p5, (gi_up_ne (by omega)).trans p6, (gi_up_ne (by omega)).trans p7⟩, fun b hb => by rw [gi_up_ne (by omega)]; exact po b hb⟩
theorem buO.s7 (P : buO bu pr h0 S F h) (g : Nat → Int32) : buO bu pr h0 S (upA F 7 g) (gi_up h (bu + 2) (gi_I 0 480 g)) := by
  obtain ⟨⟨p0, p1, p2, p3, p4, p5, p6, p7⟩, po⟩ := P
  exact ⟨⟨(gi_up_ne (by omega)).trans p0, (gi_up_ne (by omega)).trans p1, gi_up_self _ _ _, (gi_up_ne (by omega)).trans p3, (gi_up_ne (by omega)).trans p4, (gi_up_ne (by omega)).trans p5, (gi_up_ne (by omega)).trans p6, (gi_up_ne (by omega)).trans p7⟩, fun b hb => by rw [gi_up_ne (by omega)]; exact po b hb⟩
theorem buO.s8 (P : buO bu pr h0 S F h) (g : Nat → Int32) : buO bu pr h0 S (upA F 8 g) (gi_up h (bu + 3) (gi_I 1 480 g)) := by
  obtain ⟨⟨p0, p1, p2, p3, p4, p5, p6, p7⟩, po⟩ := P
  exact ⟨⟨(gi_up_ne (by omega)).trans p0, (gi_up_ne (by omega)).trans p1, (gi_up_ne (by omega)).trans p2, gi_up_self _ _ _, (gi_up_ne (by omega)).trans p4, (gi_up_ne (by omega)).trans p5, (gi_up_ne (by omega)).trans p6, (gi_up_ne (by omega)).trans p7⟩, fun b hb => by rw [gi_up_ne (by omega)]; exact po b hb⟩
theorem buO.s9 (P : buO bu pr h0 S F h) (g : Nat → Int32) : buO bu pr h0 S (upA F 9 g) (gi_up h (bu + 4) (gi_I 1 480 g)) := by
  obtain ⟨⟨p0, p1, p2, p3, p4, p5, p6, p7⟩, po⟩ := P
  exact ⟨⟨(gi_up_ne (by omega)).trans p0, (gi_up_ne (by omega)).trans p1, (gi_up_ne (by omega)).trans p2, (gi_up_ne (by omega)).trans p3, gi_up_self _ _ _, (gi_up_ne (by omega)).trans p5, (gi_up_ne (by omega)).trans p6, (gi_up_ne (by omega)).trans p7⟩, fun b hb => by rw [gi_up_ne (by omega)]; exact po b hb⟩
theorem buO.s10 (P : buO bu pr h0 S F h) (g : Nat → Int32) : buO bu pr h0 S (upA F 10 g) (gi_up h (bu + 5) (gi_I 0 480 g)) := by
  obtain ⟨⟨p0, p1, p2, p3, p4, p5, p6, p7⟩, po⟩ := P
  exact ⟨⟨(gi_up_ne (by omega)).trans p0, (gi_up_ne (by omega)).trans p1, (gi_up_ne (by omega)).trans p2, (gi_up_ne (by omega)).trans p3, (gi_up_ne (by omega)).trans p4, gi_up_self _ _ _, (gi_up_ne (by omega)).trans p6, (gi_up_ne (by omega)).trans p7⟩, fun b hb => by rw [gi_up_ne (by omega)]; exact po b hb⟩
theorem buO.s11 (P : buO bu pr h0 S F h) (g : Nat → Int32) : buO bu pr h0 S (upA F 11 g) (gi_up h (bu + 6) (gi_I 0 25 g)) := by
  obtain ⟨⟨p0, p1, p2, p3, p4, p5, p6, p7⟩, po⟩ := P
  exact ⟨⟨(gi_up_ne (by omega)).trans p0, (gi_up_ne (by omega)).trans p1, (gi_up_ne (by omega)).trans p2, (gi_up_ne (by omega)).trans p3, (gi_up_ne (by omega)).trans p4, (gi_up_ne (by omega)).trans p5, gi_up_self _ _ _, (gi_up_ne (by omega)).trans p7⟩, fun b hb => by rw [gi_up_ne (by omega)]; exact po b hb⟩
theorem buO.s12 (P : buO bu pr h0 S F h) (g : Nat → Int32) : buO bu pr h0 S (upA F 12 g) (gi_up h (bu + 7) (gi_I 0 25 g)) := by
  obtain ⟨⟨p0, p1, p2, p3, p4, p5, p6, p7⟩, po⟩ := P
  exact ⟨⟨(gi_up_ne (by omega)).trans p0, (gi_up_ne (by omega)).trans p1, (gi_up_ne (by omega)).trans p2, (gi_up_ne (by omega)).trans p3, (gi_up_ne (by omega)).trans p4, (gi_up_ne (by omega)).trans p5, (gi_up_ne (by omega)).trans p6, gi_up_self _ _ _⟩, fun b hb => by rw [gi_up_ne (by omega)]; exact po b hb⟩
/-- the shape that is worked out -/
def isX (S : Nat → Int32) (x : Sh) : Prop := S 13 = nI x.1 ∧ S 14 = nI x.2 ∧ x.1 ≤ 12 ∧ x.2 < 2 ^ x.1
def upX (S : Nat → Int32) (x : Sh) : Nat → Int32 := upS (upS S 13 (nI x.1)) 14 (nI x.2)
theorem upX_is {x : Sh} (h1 : x.1 ≤ 12) (h2 : x.2 < 2 ^ x.1) : isX (upX S x) x := ⟨by simp [upX, upS], by simp [upX, upS], h1, h2⟩
theorem upX_ne {x : Sh} {j : Nat} (h : j ≠ 13 ∧ j ≠ 14) : upX S x j = S j := by simp [upX, upS, h.1, h.2]
theorem upX_X {x y : Sh} : upX (upX S x) y = upX S y := by
  funext j
  by_cases q1 : j = 14
  · simp [upX, upS, q1]
  · by_cases q2 : j = 13
    · simp [upX, upS, q2]
    · simp [upX, upS, q1, q2]
theorem isX.up {x : Sh} (h : isX S x) : upX S x = S := by
  funext j
  by_cases q1 : j = 14
  · subst q1; simp [upX, upS, h.2.1]
  · by_cases q2 : j = 13
    · subst q2; simp [upX, upS, h.1]
    · simp [upX, upS, q1, q2]
def kS (w : Nat) (x : Sh) : Bool := decide (w = 3) || (decide (w = 2) == tpS x)
theorem nI_ps0 {d : Nat} (h : d < 2 ^ 31) : (0 < nI d) ↔ 0 < d := by
  constructor
  · intro q
    rcases Nat.eq_zero_or_pos d with z | z
    · subst z; exact absurd q (by decide)
    · exact z
  · intro q
    exact nI_lt (a := 0) q h
set_option maxHeartbeats 4000000 in
set_option maxRecDepth 100000 in
theorem c_Bu_faultIs (f m i : Int32) (P : buO bu pr h0 S F h) : gi_T l V y_Bu_faultIs b_Bu_faultIs 4 none 0 0 0 0 [.ref bu, .int f, .int m, .int i] n h (fun v n' h' => v = none ∧ n' = n ∧ buO bu pr h0 (upS (upS (upS S 2 f) 3 m) 4 i) F h') := by
  refine gi_enter (by decide) (Nat.le_of_ble_eq_true rfl) ?_
  intro _ _ _ _ _ _ _ _ C hr hnm
  have p0 := P.ob
  refine gi_aload_n (q := 1) (i := 0) C (dm_Bu_faultIs 0 rfl) rfl rfl rfl ?_
  refine gi_iload_n (q := 2) (i := 1) C (dm_Bu_faultIs 1 rfl) rfl rfl rfl ?_
  refine gi_put (q := 5) C (dm_Bu_faultIs 2 rfl) rfl fl_Bu_38 fp_Bu_2 (by repeat (first | exact gi_up_self _ _ _ | assumption | rw [gi_up_ne (by omega)])) (Nat.le_of_ble_eq_true rfl) rfl rfl ?_
  refine gi_aload_n (q := 6) (i := 0) C (dm_Bu_faultIs 3 rfl) rfl rfl rfl ?_
  refine gi_iload_n (q := 7) (i := 2) C (dm_Bu_faultIs 4 rfl) rfl rfl rfl ?_
  refine gi_put (q := 10) C (dm_Bu_faultIs 5 rfl) rfl fl_Bu_42 fp_Bu_3 (by repeat (first | exact gi_up_self _ _ _ | assumption | rw [gi_up_ne (by omega)])) (Nat.le_of_ble_eq_true rfl) rfl rfl ?_
  refine gi_aload_n (q := 11) (i := 0) C (dm_Bu_faultIs 6 rfl) rfl rfl rfl ?_
  refine gi_iload_n (q := 12) (i := 3) C (dm_Bu_faultIs 7 rfl) rfl rfl rfl ?_
  refine gi_put (q := 15) C (dm_Bu_faultIs 8 rfl) rfl fl_Bu_45 fp_Bu_4 (by repeat (first | exact gi_up_self _ _ _ | assumption | rw [gi_up_ne (by omega)])) (Nat.le_of_ble_eq_true rfl) rfl rfl ?_
  refine gi_vret C hr (dm_Bu_faultIs 9 rfl) ?_
  refine ⟨rfl, rfl, ?_⟩
  rw [gi_up_up, gi_up_up]
  exact P.pO _
set_option maxHeartbeats 4000000 in
set_option maxRecDepth 100000 in
theorem c_Bu_takeKind (w : Nat) (x : Sh) (hw : 1 ≤ w ∧ w ≤ 3) (hx : isX S x) (P : buO bu pr h0 S F h) : gi_T l V y_Bu_takeKind b_Bu_takeKind 3 (some .boolean) 0 0 0 0 [.ref bu, .int (nI w)] n h (fun v n' h' => n' = n ∧ ((x.1 = 0 ∧ v = some (.int 0) ∧ h' = h) ∨ (x.1 ≠ 0 ∧ v = some (.int (bI (kS w x))) ∧ buO bu pr h0 (upX S (dpS x)) F h'))) := by
  refine gi_enter (by decide) (Nat.le_of_ble_eq_true rfl) ?_
  intro _ _ _ _ _ _ _ _ C hr hnm
  have p0 := P.ob
  obtain ⟨x1, x2, x3, x4⟩ := hx
  refine gi_aload_n (q := 1) (i := 0) C (dm_Bu_takeKind 0 rfl) rfl rfl rfl ?_
  refine gi_get (q := 4) C (dm_Bu_takeKind 1 rfl) rfl fl_Bu_103 (by first | exact p0 | exact gi_up_self _ _ _) rfl ?_
  refine gi_if_gt (q := 7) (tgt := 9) C (dm_Bu_takeKind 2 rfl) rfl (by decide) (fun c4 => ?_) (fun c4 => ?_)
  · rw [x1, nI_ps0 (by omega)] at c4
    refine gi_aload_n (q := 10) (i := 0) C (dm_Bu_takeKind 5 rfl) rfl rfl rfl ?_
    refine gi_dup (q := 11) C (dm_Bu_takeKind 6 rfl) rfl rfl ?_
    refine gi_get (q := 14) C (dm_Bu_takeKind 7 rfl) rfl fl_Bu_103 (by first | exact p0 | exact gi_up_self _ _ _) rfl ?_
    refine gi_iconst (q := 15) (v := 1) C (dm_Bu_takeKind 8 rfl) rfl (by decide) ?_
    refine gi_isub (q := 16) C (dm_Bu_takeKind 9 rfl) rfl ?_
    rw [x1, nI_m1 (show 1 ≤ x.1 by omega)]
    refine gi_put (q := 19) C (dm_Bu_takeKind 10 rfl) rfl fl_Bu_103 fp_Bu_13 (by first | exact p0 | exact gi_up_self _ _ _) (Nat.le_of_ble_eq_true rfl) rfl rfl ?_
    refine gi_aload_n (q := 20) (i := 0) C (dm_Bu_takeKind 11 rfl) rfl rfl rfl ?_
    refine gi_get (q := 23) C (dm_Bu_takeKind 12 rfl) rfl fl_Bu_106 (by first | exact p0 | exact gi_up_self _ _ _) rfl ?_
    refine gi_aload_n (q := 24) (i := 0) C (dm_Bu_takeKind 13 rfl) rfl rfl rfl ?_
    refine gi_get (q := 27) C (dm_Bu_takeKind 14 rfl) rfl fl_Bu_103 (by first | exact p0 | exact gi_up_self _ _ _) rfl ?_
    refine gi_ishr (q := 28) C (dm_Bu_takeKind 15 rfl) rfl ?_
    refine gi_iconst (q := 29) (v := 1) C (dm_Bu_takeKind 16 rfl) rfl (by decide) ?_
    refine gi_iand (q := 30) C (dm_Bu_takeKind 17 rfl) rfl ?_
    refine gi_iconst (q := 31) (v := 1) C (dm_Bu_takeKind 18 rfl) rfl (by decide) ?_
    rw [x2]
    refine gi_icmp_ne (q := 34) (tgt := 38) C (dm_Bu_takeKind 19 rfl) rfl (by decide) (fun c31 => ?_) (fun c31 => ?_)
    · have et : tpS x = false := by
        cases q : tpS x with
        | false => rfl
        | true => exact absurd ((bt_bit (by omega)).mpr q) c31
      refine gi_iconst (q := 39) (v := 1) C (dm_Bu_takeKind 22 rfl) rfl (by decide) ?_
      refine gi_istore_n (q := 40) (i := 2) C (dm_Bu_takeKind 23 rfl) rfl rfl (Nat.le_of_ble_eq_true rfl) ?_
      refine gi_aload_n (q := 41) (i := 0) C (dm_Bu_takeKind 24 rfl) rfl rfl rfl ?_
      refine gi_dup (q := 42) C (dm_Bu_takeKind 25 rfl) rfl rfl ?_
      refine gi_get (q := 45) C (dm_Bu_takeKind 26 rfl) rfl fl_Bu_106 (by first | exact p0 | exact gi_up_self _ _ _) rfl ?_
      refine gi_iconst (q := 46) (v := 1) C (dm_Bu_takeKind 27 rfl) rfl (by decide) ?_
      refine gi_aload_n (q := 47) (i := 0) C (dm_Bu_takeKind 28 rfl) rfl rfl rfl ?_
      refine gi_get (q := 50) C (dm_Bu_takeKind 29 rfl) rfl fl_Bu_103 (by first | exact p0 | exact gi_up_self _ _ _) rfl ?_
      refine gi_ishl (q := 51) C (dm_Bu_takeKind 30 rfl) rfl ?_
      refine gi_iconst (q := 52) (v := -1) C (dm_Bu_takeKind 31 rfl) rfl (by decide) ?_
      refine gi_ixor (q := 53) C (dm_Bu_takeKind 32 rfl) rfl ?_
      refine gi_iand (q := 54) C (dm_Bu_takeKind 33 rfl) rfl ?_
      rw [bt_clr (d := x.1 - 1) (by omega) (by rw [show x.1 - 1 + 1 = x.1 by omega]; exact x4)]
      refine gi_put (q := 57) C (dm_Bu_takeKind 34 rfl) rfl fl_Bu_106 fp_Bu_14 (by first | exact p0 | exact gi_up_self _ _ _) (Nat.le_of_ble_eq_true rfl) rfl rfl ?_
      refine gi_iload_n (q := 58) (i := 2) C (dm_Bu_takeKind 35 rfl) rfl rfl rfl ?_
      refine gi_iload_n (q := 59) (i := 1) C (dm_Bu_takeKind 36 rfl) rfl rfl rfl ?_
      refine gi_iand (q := 60) C (dm_Bu_takeKind 37 rfl) rfl ?_
      refine gi_if_eq (q := 63) (tgt := 67) C (dm_Bu_takeKind 38 rfl) rfl (by decide) (fun c60 => ?_) (fun c60 => ?_)
      · refine gi_iconst (q := 68) (v := 0) C (dm_Bu_takeKind 41 rfl) rfl (by decide) ?_
        refine gi_zret C hr (dm_Bu_takeKind 42 rfl) rfl ?_
        refine ⟨rfl, Or.inr ⟨by omega, ?_, ?_⟩⟩
        · show some (Value.int (0 : Int32)) = _
          congr 2
          unfold kS
          rw [et]
          rcases (show w = 1 ∨ w = 2 ∨ w = 3 by omega) with rfl | rfl | rfl <;> first | rfl | exact absurd c60 (by decide) | exact absurd rfl c60
        · rw [gi_up_up]
          have e : upX S (dpS x) = upS (upS S 13 (nI (x.1 - 1))) 14 (nI (x.2 % 2 ^ (x.1 - 1))) := rfl
          rw [e]
          exact P.pO _
      · refine gi_iconst (q := 64) (v := 1) C (dm_Bu_takeKind 39 rfl) rfl (by decide) ?_
        refine gi_goto (tgt := 68) C (dm_Bu_takeKind 40 rfl) (by decide) ?_
        refine gi_zret C hr (dm_Bu_takeKind 42 rfl) rfl ?_
        refine ⟨rfl, Or.inr ⟨by omega, ?_, ?_⟩⟩
        · show some (Value.int (1 : Int32)) = _
          congr 2
          unfold kS
          rw [et]
          rcases (show w = 1 ∨ w = 2 ∨ w = 3 by omega) with rfl | rfl | rfl <;> first | rfl | exact absurd c60 (by decide) | exact absurd rfl c60
        · rw [gi_up_up]
          have e : upX S (dpS x) = upS (upS S 13 (nI (x.1 - 1))) 14 (nI (x.2 % 2 ^ (x.1 - 1))) := rfl
          rw [e]
          exact P.pO _
    · have et : tpS x = true := (bt_bit (by omega)).mp (c31)
      refine gi_iconst (q := 35) (v := 2) C (dm_Bu_takeKind 20 rfl) rfl (by decide) ?_
      refine gi_goto (tgt := 39) C (dm_Bu_takeKind 21 rfl) (by decide) ?_
      refine gi_istore_n (q := 40) (i := 2) C (dm_Bu_takeKind 23 rfl) rfl rfl (Nat.le_of_ble_eq_true rfl) ?_
      refine gi_aload_n (q := 41) (i := 0) C (dm_Bu_takeKind 24 rfl) rfl rfl rfl ?_
      refine gi_dup (q := 42) C (dm_Bu_takeKind 25 rfl) rfl rfl ?_
      refine gi_get (q := 45) C (dm_Bu_takeKind 26 rfl) rfl fl_Bu_106 (by first | exact p0 | exact gi_up_self _ _ _) rfl ?_
      refine gi_iconst (q := 46) (v := 1) C (dm_Bu_takeKind 27 rfl) rfl (by decide) ?_
      refine gi_aload_n (q := 47) (i := 0) C (dm_Bu_takeKind 28 rfl) rfl rfl rfl ?_
      refine gi_get (q := 50) C (dm_Bu_takeKind 29 rfl) rfl fl_Bu_103 (by first | exact p0 | exact gi_up_self _ _ _) rfl ?_
      refine gi_ishl (q := 51) C (dm_Bu_takeKind 30 rfl) rfl ?_
      refine gi_iconst (q := 52) (v := -1) C (dm_Bu_takeKind 31 rfl) rfl (by decide) ?_
      refine gi_ixor (q := 53) C (dm_Bu_takeKind 32 rfl) rfl ?_
      refine gi_iand (q := 54) C (dm_Bu_takeKind 33 rfl) rfl ?_
      rw [bt_clr (d := x.1 - 1) (by omega) (by rw [show x.1 - 1 + 1 = x.1 by omega]; exact x4)]
      refine gi_put (q := 57) C (dm_Bu_takeKind 34 rfl) rfl fl_Bu_106 fp_Bu_14 (by first | exact p0 | exact gi_up_self _ _ _) (Nat.le_of_ble_eq_true rfl) rfl rfl ?_
      refine gi_iload_n (q := 58) (i := 2) C (dm_Bu_takeKind 35 rfl) rfl rfl rfl ?_
      refine gi_iload_n (q := 59) (i := 1) C (dm_Bu_takeKind 36 rfl) rfl rfl rfl ?_
      refine gi_iand (q := 60) C (dm_Bu_takeKind 37 rfl) rfl ?_
      refine gi_if_eq (q := 63) (tgt := 67) C (dm_Bu_takeKind 38 rfl) rfl (by decide) (fun c60 => ?_) (fun c60 => ?_)
      · refine gi_iconst (q := 68) (v := 0) C (dm_Bu_takeKind 41 rfl) rfl (by decide) ?_
        refine gi_zret C hr (dm_Bu_takeKind 42 rfl) rfl ?_
        refine ⟨rfl, Or.inr ⟨by omega, ?_, ?_⟩⟩
        · show some (Value.int (0 : Int32)) = _
          congr 2
          unfold kS
          rw [et]
          rcases (show w = 1 ∨ w = 2 ∨ w = 3 by omega) with rfl | rfl | rfl <;> first | rfl | exact absurd c60 (by decide) | exact absurd rfl c60
        · rw [gi_up_up]
          have e : upX S (dpS x) = upS (upS S 13 (nI (x.1 - 1))) 14 (nI (x.2 % 2 ^ (x.1 - 1))) := rfl
          rw [e]
          exact P.pO _
      · refine gi_iconst (q := 64) (v := 1) C (dm_Bu_takeKind 39 rfl) rfl (by decide) ?_
        refine gi_goto (tgt := 68) C (dm_Bu_takeKind 40 rfl) (by decide) ?_
        refine gi_zret C hr (dm_Bu_takeKind 42 rfl) rfl ?_
        refine ⟨rfl, Or.inr ⟨by omega, ?_, ?_⟩⟩
        · show some (Value.int (1 : Int32)) = _
          congr 2
          unfold kS
          rw [et]
          rcases (show w = 1 ∨ w = 2 ∨ w = 3 by omega) with rfl | rfl | rfl <;> first | rfl | exact absurd c60 (by decide) | exact absurd rfl c60
        · rw [gi_up_up]
          have e : upX S (dpS x) = upS (upS S 13 (nI (x.1 - 1))) 14 (nI (x.2 % 2 ^ (x.1 - 1))) := rfl
          rw [e]
          exact P.pO _
  · refine gi_iconst (q := 8) (v := 0) C (dm_Bu_takeKind 3 rfl) rfl (by decide) ?_
    refine gi_zret C hr (dm_Bu_takeKind 4 rfl) rfl ?_
    rw [x1, nI_ps0 (by omega)] at c4
    exact ⟨rfl, Or.inl ⟨by omega, rfl, rfl⟩⟩
set_option maxHeartbeats 4000000 in
set_option maxRecDepth 100000 in
theorem c_Bu_putKind (q : Bool) (x : Sh) (hx : isX S x) (P : buO bu pr h0 S F h) : gi_T l V y_Bu_putKind b_Bu_putKind 2 none 0 0 0 0 [.ref bu, .int (bI q)] n h (fun v n' h' => v = none ∧ n' = n ∧ buO bu pr h0 (upX S (ptS q x)) F h') := by
  refine gi_enter (by decide) (Nat.le_of_ble_eq_true rfl) ?_
  intro _ _ _ _ _ _ _ _ C hr hnm
  have p0 := P.ob
  obtain ⟨x1, x2, x3, x4⟩ := hx
  refine gi_iload_n (q := 1) (i := 1) C (dm_Bu_putKind 0 rfl) rfl rfl rfl ?_
  refine gi_if_eq (q := 4) (tgt := 19) C (dm_Bu_putKind 1 rfl) rfl (by decide) (fun c1 => ?_) (fun c1 => ?_)
  · refine gi_aload_n (q := 20) (i := 0) C (dm_Bu_putKind 11 rfl) rfl rfl rfl ?_
    refine gi_dup (q := 21) C (dm_Bu_putKind 12 rfl) rfl rfl ?_
    refine gi_get (q := 24) C (dm_Bu_putKind 13 rfl) rfl fl_Bu_103 (by first | exact p0 | exact gi_up_self _ _ _) rfl ?_
    refine gi_iconst (q := 25) (v := 1) C (dm_Bu_putKind 14 rfl) rfl (by decide) ?_
    refine gi_iadd (q := 26) C (dm_Bu_putKind 15 rfl) rfl ?_
    rw [x1, nI_1]
    refine gi_put (q := 29) C (dm_Bu_putKind 16 rfl) rfl fl_Bu_103 fp_Bu_13 (by first | exact p0 | exact gi_up_self _ _ _) (Nat.le_of_ble_eq_true rfl) rfl rfl ?_
    refine gi_vret C hr (dm_Bu_putKind 17 rfl) ?_
    refine ⟨rfl, rfl, ?_⟩
    first
      | (rw [gi_up_up]
         rw [bI_t c1]
         have e : upX S (ptS true x) = upS (upS S 14 (nI (2 ^ x.1 * 1 + x.2))) 13 (nI (x.1 + 1)) := by
           funext j
           by_cases q1 : j = 14
           · subst q1; simp [upX, upS, ptS]
           · by_cases q2 : j = 13
             · subst q2; simp [upX, upS, ptS]
             · simp [upX, upS, q1, q2]
         rw [e]
         exact P.pO _)
      | (rw [bI_fa c1]
         have e : upX S (ptS false x) = upS S 13 (nI (x.1 + 1)) := by
           funext j
           by_cases q1 : j = 14
           · subst q1; simp [upX, upS, ptS, x2]
           · by_cases q2 : j = 13
             · subst q2; simp [upX, upS, ptS]
             · simp [upX, upS, q1, q2]
         rw [e]
         exact P.pO _)
  · refine gi_aload_n (q := 5) (i := 0) C (dm_Bu_putKind 2 rfl) rfl rfl rfl ?_
    refine gi_dup (q := 6) C (dm_Bu_putKind 3 rfl) rfl rfl ?_
    refine gi_get (q := 9) C (dm_Bu_putKind 4 rfl) rfl fl_Bu_106 (by first | exact p0 | exact gi_up_self _ _ _) rfl ?_
    refine gi_iconst (q := 10) (v := 1) C (dm_Bu_putKind 5 rfl) rfl (by decide) ?_
    refine gi_aload_n (q := 11) (i := 0) C (dm_Bu_putKind 6 rfl) rfl rfl rfl ?_
    refine gi_get (q := 14) C (dm_Bu_putKind 7 rfl) rfl fl_Bu_103 (by first | exact p0 | exact gi_up_self _ _ _) rfl ?_
    refine gi_ishl (q := 15) C (dm_Bu_putKind 8 rfl) rfl ?_
    refine gi_ior (q := 16) C (dm_Bu_putKind 9 rfl) rfl ?_
    rw [x2, x1, bt_or (by omega) x4]
    refine gi_put (q := 19) C (dm_Bu_putKind 10 rfl) rfl fl_Bu_106 fp_Bu_14 (by first | exact p0 | exact gi_up_self _ _ _) (Nat.le_of_ble_eq_true rfl) rfl rfl ?_
    refine gi_aload_n (q := 20) (i := 0) C (dm_Bu_putKind 11 rfl) rfl rfl rfl ?_
    refine gi_dup (q := 21) C (dm_Bu_putKind 12 rfl) rfl rfl ?_
    refine gi_get (q := 24) C (dm_Bu_putKind 13 rfl) rfl fl_Bu_103 (by first | exact p0 | exact gi_up_self _ _ _) rfl ?_
    refine gi_iconst (q := 25) (v := 1) C (dm_Bu_putKind 14 rfl) rfl (by decide) ?_
    refine gi_iadd (q := 26) C (dm_Bu_putKind 15 rfl) rfl ?_
    rw [x1, nI_1]
    refine gi_put (q := 29) C (dm_Bu_putKind 16 rfl) rfl fl_Bu_103 fp_Bu_13 (by first | exact p0 | exact gi_up_self _ _ _) (Nat.le_of_ble_eq_true rfl) rfl rfl ?_
    refine gi_vret C hr (dm_Bu_putKind 17 rfl) ?_
    refine ⟨rfl, rfl, ?_⟩
    first
      | (rw [gi_up_up]
         rw [bI_t c1]
         have e : upX S (ptS true x) = upS (upS S 14 (nI (2 ^ x.1 * 1 + x.2))) 13 (nI (x.1 + 1)) := by
           funext j
           by_cases q1 : j = 14
           · subst q1; simp [upX, upS, ptS]
           · by_cases q2 : j = 13
             · subst q2; simp [upX, upS, ptS]
             · simp [upX, upS, q1, q2]
         rw [e]
         exact P.pO _)
      | (rw [bI_fa c1]
         have e : upX S (ptS false x) = upS S 13 (nI (x.1 + 1)) := by
           funext j
           by_cases q1 : j = 14
           · subst q1; simp [upX, upS, ptS, x2]
           · by_cases q2 : j = 13
             · subst q2; simp [upX, upS, ptS]
             · simp [upX, upS, q1, q2]
         rw [e]
         exact P.pO _)
set_option maxHeartbeats 4000000 in
set_option maxRecDepth 100000 in
theorem c_Bu_swapKinds (x : Sh) (hx2 : 2 ≤ x.1) (hx9 : x.1 ≤ 10) (hx : isX S x) (P : buO bu pr h0 S F h) : gi_T l V y_Bu_swapKinds b_Bu_swapKinds 3 none 1 21 0 0 [.ref bu] n h (fun v n' h' => v = none ∧ n' = n ∧ buO bu pr h0 (upX S (ptS (tpS (dpS x)) (ptS (tpS x) (dpS (dpS x))))) F h') := by
  refine gi_enter (by decide) (Nat.le_of_ble_eq_true rfl) ?_
  intro _ _ _ _ _ _ _ _ C hr hnm
  have p0 := P.ob
  obtain ⟨x1, x2, x3, x4⟩ := hx
  refine gi_aload_n (q := 1) (i := 0) C (dm_Bu_swapKinds 0 rfl) rfl rfl rfl ?_
  refine gi_get (q := 4) C (dm_Bu_swapKinds 1 rfl) rfl fl_Bu_106 (by first | exact p0 | exact Q70.ob | exact gi_up_self _ _ _) rfl ?_
  refine gi_aload_n (q := 5) (i := 0) C (dm_Bu_swapKinds 2 rfl) rfl rfl rfl ?_
  refine gi_get (q := 8) C (dm_Bu_swapKinds 3 rfl) rfl fl_Bu_103 (by first | exact p0 | exact Q70.ob | exact gi_up_self _ _ _) rfl ?_
  refine gi_iconst (q := 9) (v := 1) C (dm_Bu_swapKinds 4 rfl) rfl (by decide) ?_
  refine gi_isub (q := 10) C (dm_Bu_swapKinds 5 rfl) rfl ?_
  rw [x1, nI_m1 (show 1 ≤ x.1 by omega), x2]
  refine gi_ishr (q := 11) C (dm_Bu_swapKinds 6 rfl) rfl ?_
  refine gi_iconst (q := 12) (v := 1) C (dm_Bu_swapKinds 7 rfl) rfl (by decide) ?_
  refine gi_iand (q := 13) C (dm_Bu_swapKinds 8 rfl) rfl ?_
  refine gi_iconst (q := 14) (v := 1) C (dm_Bu_swapKinds 9 rfl) rfl (by decide) ?_
  refine gi_icmp_ne (q := 17) (tgt := 21) C (dm_Bu_swapKinds 10 rfl) rfl (by decide) (fun c14 => ?_) (fun c14 => ?_)
  · have et : tpS x = false := by
      cases q : tpS x with
      | false => rfl
      | true => exact absurd ((bt_bit (d := x.1 - 1) (by omega)).mpr q) c14
    refine gi_iconst (q := 22) (v := 0) C (dm_Bu_swapKinds 13 rfl) rfl (by decide) ?_
    refine gi_istore_n (q := 23) (i := 1) C (dm_Bu_swapKinds 14 rfl) rfl rfl (Nat.le_of_ble_eq_true rfl) ?_
    refine gi_aload_n (q := 24) (i := 0) C (dm_Bu_swapKinds 15 rfl) rfl rfl rfl ?_
    refine gi_get (q := 27) C (dm_Bu_swapKinds 16 rfl) rfl fl_Bu_106 (by first | exact p0 | exact Q70.ob | exact gi_up_self _ _ _) rfl ?_
    refine gi_aload_n (q := 28) (i := 0) C (dm_Bu_swapKinds 17 rfl) rfl rfl rfl ?_
    refine gi_get (q := 31) C (dm_Bu_swapKinds 18 rfl) rfl fl_Bu_103 (by first | exact p0 | exact Q70.ob | exact gi_up_self _ _ _) rfl ?_
    refine gi_iconst (q := 32) (v := 2) C (dm_Bu_swapKinds 19 rfl) rfl (by decide) ?_
    refine gi_isub (q := 33) C (dm_Bu_swapKinds 20 rfl) rfl ?_
    rw [x1, nI_m2 hx2, x2]
    refine gi_ishr (q := 34) C (dm_Bu_swapKinds 21 rfl) rfl ?_
    refine gi_iconst (q := 35) (v := 1) C (dm_Bu_swapKinds 22 rfl) rfl (by decide) ?_
    refine gi_iand (q := 36) C (dm_Bu_swapKinds 23 rfl) rfl ?_
    refine gi_iconst (q := 37) (v := 1) C (dm_Bu_swapKinds 24 rfl) rfl (by decide) ?_
    refine gi_icmp_ne (q := 40) (tgt := 44) C (dm_Bu_swapKinds 25 rfl) rfl (by decide) (fun c37 => ?_) (fun c37 => ?_)
    · have e2 : (dpS x).2.testBit (x.1 - 2) = x.2.testBit (x.1 - 2) := by
        show (x.2 % 2 ^ (x.1 - 1)).testBit (x.1 - 2) = _
        rw [Nat.testBit_mod_two_pow, decide_eq_true (by omega), Bool.true_and]
      have e3 : tpS (dpS x) = x.2.testBit (x.1 - 2) := e2
      have eb0 : x.2.testBit (x.1 - 2) = false := by
        cases q : x.2.testBit (x.1 - 2) with
        | false => rfl
        | true => exact absurd ((bt_bit (d := x.1 - 2) (by omega)).mpr q) c37
      have eb : tpS (dpS x) = false := e3.trans eb0
      refine gi_iconst (q := 45) (v := 0) C (dm_Bu_swapKinds 28 rfl) rfl (by decide) ?_
      refine gi_istore_n (q := 46) (i := 2) C (dm_Bu_swapKinds 29 rfl) rfl rfl (Nat.le_of_ble_eq_true rfl) ?_
      refine gi_aload_n (q := 47) (i := 0) C (dm_Bu_swapKinds 30 rfl) rfl rfl rfl ?_
      refine gi_dup (q := 48) C (dm_Bu_swapKinds 31 rfl) rfl rfl ?_
      refine gi_get (q := 51) C (dm_Bu_swapKinds 32 rfl) rfl fl_Bu_103 (by first | exact p0 | exact Q70.ob | exact gi_up_self _ _ _) rfl ?_
      refine gi_iconst (q := 52) (v := 2) C (dm_Bu_swapKinds 33 rfl) rfl (by decide) ?_
      refine gi_isub (q := 53) C (dm_Bu_swapKinds 34 rfl) rfl ?_
      rw [x1, nI_m2 hx2]
      refine gi_put (q := 56) C (dm_Bu_swapKinds 35 rfl) rfl fl_Bu_103 fp_Bu_13 (by first | exact p0 | exact Q70.ob | exact gi_up_self _ _ _) (Nat.le_of_ble_eq_true rfl) rfl rfl ?_
      refine gi_aload_n (q := 57) (i := 0) C (dm_Bu_swapKinds 36 rfl) rfl rfl rfl ?_
      refine gi_dup (q := 58) C (dm_Bu_swapKinds 37 rfl) rfl rfl ?_
      refine gi_get (q := 61) C (dm_Bu_swapKinds 38 rfl) rfl fl_Bu_106 (by first | exact p0 | exact Q70.ob | exact gi_up_self _ _ _) rfl ?_
      refine gi_iconst (q := 62) (v := 1) C (dm_Bu_swapKinds 39 rfl) rfl (by decide) ?_
      refine gi_aload_n (q := 63) (i := 0) C (dm_Bu_swapKinds 40 rfl) rfl rfl rfl ?_
      refine gi_get (q := 66) C (dm_Bu_swapKinds 41 rfl) rfl fl_Bu_103 (by first | exact p0 | exact Q70.ob | exact gi_up_self _ _ _) rfl ?_
      refine gi_ishl (q := 67) C (dm_Bu_swapKinds 42 rfl) rfl ?_
      refine gi_iconst (q := 68) (v := 1) C (dm_Bu_swapKinds 43 rfl) rfl (by decide) ?_
      refine gi_isub (q := 69) C (dm_Bu_swapKinds 44 rfl) rfl ?_
      refine gi_iand (q := 70) C (dm_Bu_swapKinds 45 rfl) rfl ?_
      rw [x2, bt_low (show x.1 - 2 < 31 by omega)]
      refine gi_put (q := 73) C (dm_Bu_swapKinds 46 rfl) rfl fl_Bu_106 fp_Bu_14 (by first | exact p0 | exact Q70.ob | exact gi_up_self _ _ _) (Nat.le_of_ble_eq_true rfl) rfl rfl ?_
      rw [gi_up_up]
      have ee : dpS (dpS x) = (x.1 - 2, x.2 % 2 ^ (x.1 - 2)) := by
        show (x.1 - 1 - 1, x.2 % 2 ^ (x.1 - 1) % 2 ^ (x.1 - 1 - 1)) = _
        rw [show x.1 - 1 - 1 = x.1 - 2 by omega, Nat.mod_mod_of_dvd _ (Nat.pow_dvd_pow 2 (by omega))]
      have Q70 := P.pO (upX S (dpS (dpS x)))
      have X70 : isX (upX S (dpS (dpS x))) (dpS (dpS x)) := upX_is (by rw [ee]; dsimp only; omega) dpS_ok
      rw [show upX S (dpS (dpS x)) = upS (upS S 13 (nI (x.1 - 2))) 14 (nI (x.2 % 2 ^ (x.1 - 2))) from by rw [ee]; rfl] at Q70 X70
      refine gi_aload_n (q := 74) (i := 0) C (dm_Bu_swapKinds 47 rfl) rfl rfl rfl ?_
      refine gi_iload_n (q := 75) (i := 1) C (dm_Bu_swapKinds 48 rfl) rfl rfl rfl ?_
      refine gi_callv 1 (q := 78) C (dm_Bu_swapKinds 49 rfl) rfl my_Bu_putKind lk_Bu_134 im_Bu_putKind rfl (c_Bu_putKind false (dpS (dpS x)) X70 Q70) Q70.ob rfl rfl ⟨(Nat.le_of_ble_eq_true rfl), (Nat.le_of_ble_eq_true rfl)⟩ (Nat.le_of_ble_eq_true rfl) ⟨(Nat.le_of_ble_eq_true rfl), (Nat.le_of_ble_eq_true rfl)⟩ (fun r75 n75 h75 e75 => ?_)
      obtain ⟨rfl, rfl, Q75⟩ := e75
      have X75 := upX_is (S := upS (upS S 13 (nI (x.1 - 2))) 14 (nI (x.2 % 2 ^ (x.1 - 2)))) (x := ptS false (dpS (dpS x))) (by show (dpS (dpS x)).1 + 1 ≤ 12; rw [ee]; dsimp only; omega) (ptS_ok dpS_ok)
      refine gi_aload_n (q := 79) (i := 0) C (dm_Bu_swapKinds 50 rfl) rfl rfl rfl ?_
      refine gi_iload_n (q := 80) (i := 2) C (dm_Bu_swapKinds 51 rfl) rfl rfl rfl ?_
      refine gi_callv 1 (q := 83) C (dm_Bu_swapKinds 52 rfl) rfl my_Bu_putKind lk_Bu_134 im_Bu_putKind rfl (c_Bu_putKind false (ptS false (dpS (dpS x))) X75 Q75) Q75.ob rfl rfl ⟨(Nat.le_of_ble_eq_true rfl), (Nat.le_of_ble_eq_true rfl)⟩ (Nat.le_of_ble_eq_true rfl) ⟨(Nat.le_of_ble_eq_true rfl), (Nat.le_of_ble_eq_true rfl)⟩ (fun r80 n80 h80 e80 => ?_)
      obtain ⟨rfl, rfl, Q80⟩ := e80
      refine gi_vret C hr (dm_Bu_swapKinds 53 rfl) ?_
      rw [upX_X, show upS (upS S 13 (nI (x.1 - 2))) 14 (nI (x.2 % 2 ^ (x.1 - 2))) = upX S (dpS (dpS x)) from by rw [ee]; rfl, upX_X] at Q80
      refine ⟨rfl, rfl, ?_⟩
      rw [et, eb]
      exact Q80
    · have e2 : (dpS x).2.testBit (x.1 - 2) = x.2.testBit (x.1 - 2) := by
        show (x.2 % 2 ^ (x.1 - 1)).testBit (x.1 - 2) = _
        rw [Nat.testBit_mod_two_pow, decide_eq_true (by omega), Bool.true_and]
      have e3 : tpS (dpS x) = x.2.testBit (x.1 - 2) := e2
      have eb0 : x.2.testBit (x.1 - 2) = true := (bt_bit (d := x.1 - 2) (by omega)).mp c37
      have eb : tpS (dpS x) = true := e3.trans eb0
      refine gi_iconst (q := 41) (v := 1) C (dm_Bu_swapKinds 26 rfl) rfl (by decide) ?_
      refine gi_goto (tgt := 45) C (dm_Bu_swapKinds 27 rfl) (by decide) ?_
      refine gi_istore_n (q := 46) (i := 2) C (dm_Bu_swapKinds 29 rfl) rfl rfl (Nat.le_of_ble_eq_true rfl) ?_
      refine gi_aload_n (q := 47) (i := 0) C (dm_Bu_swapKinds 30 rfl) rfl rfl rfl ?_
      refine gi_dup (q := 48) C (dm_Bu_swapKinds 31 rfl) rfl rfl ?_
      refine gi_get (q := 51) C (dm_Bu_swapKinds 32 rfl) rfl fl_Bu_103 (by first | exact p0 | exact Q70.ob | exact gi_up_self _ _ _) rfl ?_
      refine gi_iconst (q := 52) (v := 2) C (dm_Bu_swapKinds 33 rfl) rfl (by decide) ?_
      refine gi_isub (q := 53) C (dm_Bu_swapKinds 34 rfl) rfl ?_
      rw [x1, nI_m2 hx2]
      refine gi_put (q := 56) C (dm_Bu_swapKinds 35 rfl) rfl fl_Bu_103 fp_Bu_13 (by first | exact p0 | exact Q70.ob | exact gi_up_self _ _ _) (Nat.le_of_ble_eq_true rfl) rfl rfl ?_
      refine gi_aload_n (q := 57) (i := 0) C (dm_Bu_swapKinds 36 rfl) rfl rfl rfl ?_
      refine gi_dup (q := 58) C (dm_Bu_swapKinds 37 rfl) rfl rfl ?_
      refine gi_get (q := 61) C (dm_Bu_swapKinds 38 rfl) rfl fl_Bu_106 (by first | exact p0 | exact Q70.ob | exact gi_up_self _ _ _) rfl ?_
      refine gi_iconst (q := 62) (v := 1) C (dm_Bu_swapKinds 39 rfl) rfl (by decide) ?_
      refine gi_aload_n (q := 63) (i := 0) C (dm_Bu_swapKinds 40 rfl) rfl rfl rfl ?_
      refine gi_get (q := 66) C (dm_Bu_swapKinds 41 rfl) rfl fl_Bu_103 (by first | exact p0 | exact Q70.ob | exact gi_up_self _ _ _) rfl ?_
      refine gi_ishl (q := 67) C (dm_Bu_swapKinds 42 rfl) rfl ?_
      refine gi_iconst (q := 68) (v := 1) C (dm_Bu_swapKinds 43 rfl) rfl (by decide) ?_
      refine gi_isub (q := 69) C (dm_Bu_swapKinds 44 rfl) rfl ?_
      refine gi_iand (q := 70) C (dm_Bu_swapKinds 45 rfl) rfl ?_
      rw [x2, bt_low (show x.1 - 2 < 31 by omega)]
      refine gi_put (q := 73) C (dm_Bu_swapKinds 46 rfl) rfl fl_Bu_106 fp_Bu_14 (by first | exact p0 | exact Q70.ob | exact gi_up_self _ _ _) (Nat.le_of_ble_eq_true rfl) rfl rfl ?_
      rw [gi_up_up]
      have ee : dpS (dpS x) = (x.1 - 2, x.2 % 2 ^ (x.1 - 2)) := by
        show (x.1 - 1 - 1, x.2 % 2 ^ (x.1 - 1) % 2 ^ (x.1 - 1 - 1)) = _
        rw [show x.1 - 1 - 1 = x.1 - 2 by omega, Nat.mod_mod_of_dvd _ (Nat.pow_dvd_pow 2 (by omega))]
      have Q70 := P.pO (upX S (dpS (dpS x)))
      have X70 : isX (upX S (dpS (dpS x))) (dpS (dpS x)) := upX_is (by rw [ee]; dsimp only; omega) dpS_ok
      rw [show upX S (dpS (dpS x)) = upS (upS S 13 (nI (x.1 - 2))) 14 (nI (x.2 % 2 ^ (x.1 - 2))) from by rw [ee]; rfl] at Q70 X70
      refine gi_aload_n (q := 74) (i := 0) C (dm_Bu_swapKinds 47 rfl) rfl rfl rfl ?_
      refine gi_iload_n (q := 75) (i := 1) C (dm_Bu_swapKinds 48 rfl) rfl rfl rfl ?_
      refine gi_callv 1 (q := 78) C (dm_Bu_swapKinds 49 rfl) rfl my_Bu_putKind lk_Bu_134 im_Bu_putKind rfl (c_Bu_putKind false (dpS (dpS x)) X70 Q70) Q70.ob rfl rfl ⟨(Nat.le_of_ble_eq_true rfl), (Nat.le_of_ble_eq_true rfl)⟩ (Nat.le_of_ble_eq_true rfl) ⟨(Nat.le_of_ble_eq_true rfl), (Nat.le_of_ble_eq_true rfl)⟩ (fun r75 n75 h75 e75 => ?_)
      obtain ⟨rfl, rfl, Q75⟩ := e75
      have X75 := upX_is (S := upS (upS S 13 (nI (x.1 - 2))) 14 (nI (x.2 % 2 ^ (x.1 - 2)))) (x := ptS false (dpS (dpS x))) (by show (dpS (dpS x)).1 + 1 ≤ 12; rw [ee]; dsimp only; omega) (ptS_ok dpS_ok)
      refine gi_aload_n (q := 79) (i := 0) C (dm_Bu_swapKinds 50 rfl) rfl rfl rfl ?_
      refine gi_iload_n (q := 80) (i := 2) C (dm_Bu_swapKinds 51 rfl) rfl rfl rfl ?_
      refine gi_callv 1 (q := 83) C (dm_Bu_swapKinds 52 rfl) rfl my_Bu_putKind lk_Bu_134 im_Bu_putKind rfl (c_Bu_putKind true (ptS false (dpS (dpS x))) X75 Q75) Q75.ob rfl rfl ⟨(Nat.le_of_ble_eq_true rfl), (Nat.le_of_ble_eq_true rfl)⟩ (Nat.le_of_ble_eq_true rfl) ⟨(Nat.le_of_ble_eq_true rfl), (Nat.le_of_ble_eq_true rfl)⟩ (fun r80 n80 h80 e80 => ?_)
      obtain ⟨rfl, rfl, Q80⟩ := e80
      refine gi_vret C hr (dm_Bu_swapKinds 53 rfl) ?_
      rw [upX_X, show upS (upS S 13 (nI (x.1 - 2))) 14 (nI (x.2 % 2 ^ (x.1 - 2))) = upX S (dpS (dpS x)) from by rw [ee]; rfl, upX_X] at Q80
      refine ⟨rfl, rfl, ?_⟩
      rw [et, eb]
      exact Q80
  · have et : tpS x = true := (bt_bit (d := x.1 - 1) (by omega)).mp c14
    refine gi_iconst (q := 18) (v := 1) C (dm_Bu_swapKinds 11 rfl) rfl (by decide) ?_
    refine gi_goto (tgt := 22) C (dm_Bu_swapKinds 12 rfl) (by decide) ?_
    refine gi_istore_n (q := 23) (i := 1) C (dm_Bu_swapKinds 14 rfl) rfl rfl (Nat.le_of_ble_eq_true rfl) ?_
    refine gi_aload_n (q := 24) (i := 0) C (dm_Bu_swapKinds 15 rfl) rfl rfl rfl ?_
    refine gi_get (q := 27) C (dm_Bu_swapKinds 16 rfl) rfl fl_Bu_106 (by first | exact p0 | exact Q70.ob | exact gi_up_self _ _ _) rfl ?_
    refine gi_aload_n (q := 28) (i := 0) C (dm_Bu_swapKinds 17 rfl) rfl rfl rfl ?_
    refine gi_get (q := 31) C (dm_Bu_swapKinds 18 rfl) rfl fl_Bu_103 (by first | exact p0 | exact Q70.ob | exact gi_up_self _ _ _) rfl ?_
    refine gi_iconst (q := 32) (v := 2) C (dm_Bu_swapKinds 19 rfl) rfl (by decide) ?_
    refine gi_isub (q := 33) C (dm_Bu_swapKinds 20 rfl) rfl ?_
    rw [x1, nI_m2 hx2, x2]
    refine gi_ishr (q := 34) C (dm_Bu_swapKinds 21 rfl) rfl ?_
    refine gi_iconst (q := 35) (v := 1) C (dm_Bu_swapKinds 22 rfl) rfl (by decide) ?_
    refine gi_iand (q := 36) C (dm_Bu_swapKinds 23 rfl) rfl ?_
    refine gi_iconst (q := 37) (v := 1) C (dm_Bu_swapKinds 24 rfl) rfl (by decide) ?_
    refine gi_icmp_ne (q := 40) (tgt := 44) C (dm_Bu_swapKinds 25 rfl) rfl (by decide) (fun c37 => ?_) (fun c37 => ?_)
    · have e2 : (dpS x).2.testBit (x.1 - 2) = x.2.testBit (x.1 - 2) := by
        show (x.2 % 2 ^ (x.1 - 1)).testBit (x.1 - 2) = _
        rw [Nat.testBit_mod_two_pow, decide_eq_true (by omega), Bool.true_and]
      have e3 : tpS (dpS x) = x.2.testBit (x.1 - 2) := e2
      have eb0 : x.2.testBit (x.1 - 2) = false := by
        cases q : x.2.testBit (x.1 - 2) with
        | false => rfl
        | true => exact absurd ((bt_bit (d := x.1 - 2) (by omega)).mpr q) c37
      have eb : tpS (dpS x) = false := e3.trans eb0
      refine gi_iconst (q := 45) (v := 0) C (dm_Bu_swapKinds 28 rfl) rfl (by decide) ?_
      refine gi_istore_n (q := 46) (i := 2) C (dm_Bu_swapKinds 29 rfl) rfl rfl (Nat.le_of_ble_eq_true rfl) ?_
      refine gi_aload_n (q := 47) (i := 0) C (dm_Bu_swapKinds 30 rfl) rfl rfl rfl ?_
      refine gi_dup (q := 48) C (dm_Bu_swapKinds 31 rfl) rfl rfl ?_
      refine gi_get (q := 51) C (dm_Bu_swapKinds 32 rfl) rfl fl_Bu_103 (by first | exact p0 | exact Q70.ob | exact gi_up_self _ _ _) rfl ?_
      refine gi_iconst (q := 52) (v := 2) C (dm_Bu_swapKinds 33 rfl) rfl (by decide) ?_
      refine gi_isub (q := 53) C (dm_Bu_swapKinds 34 rfl) rfl ?_
      rw [x1, nI_m2 hx2]
      refine gi_put (q := 56) C (dm_Bu_swapKinds 35 rfl) rfl fl_Bu_103 fp_Bu_13 (by first | exact p0 | exact Q70.ob | exact gi_up_self _ _ _) (Nat.le_of_ble_eq_true rfl) rfl rfl ?_
      refine gi_aload_n (q := 57) (i := 0) C (dm_Bu_swapKinds 36 rfl) rfl rfl rfl ?_
      refine gi_dup (q := 58) C (dm_Bu_swapKinds 37 rfl) rfl rfl ?_
      refine gi_get (q := 61) C (dm_Bu_swapKinds 38 rfl) rfl fl_Bu_106 (by first | exact p0 | exact Q70.ob | exact gi_up_self _ _ _) rfl ?_
      refine gi_iconst (q := 62) (v := 1) C (dm_Bu_swapKinds 39 rfl) rfl (by decide) ?_
      refine gi_aload_n (q := 63) (i := 0) C (dm_Bu_swapKinds 40 rfl) rfl rfl rfl ?_
      refine gi_get (q := 66) C (dm_Bu_swapKinds 41 rfl) rfl fl_Bu_103 (by first | exact p0 | exact Q70.ob | exact gi_up_self _ _ _) rfl ?_
      refine gi_ishl (q := 67) C (dm_Bu_swapKinds 42 rfl) rfl ?_
      refine gi_iconst (q := 68) (v := 1) C (dm_Bu_swapKinds 43 rfl) rfl (by decide) ?_
      refine gi_isub (q := 69) C (dm_Bu_swapKinds 44 rfl) rfl ?_
      refine gi_iand (q := 70) C (dm_Bu_swapKinds 45 rfl) rfl ?_
      rw [x2, bt_low (show x.1 - 2 < 31 by omega)]
      refine gi_put (q := 73) C (dm_Bu_swapKinds 46 rfl) rfl fl_Bu_106 fp_Bu_14 (by first | exact p0 | exact Q70.ob | exact gi_up_self _ _ _) (Nat.le_of_ble_eq_true rfl) rfl rfl ?_
      rw [gi_up_up]
      have ee : dpS (dpS x) = (x.1 - 2, x.2 % 2 ^ (x.1 - 2)) := by
        show (x.1 - 1 - 1, x.2 % 2 ^ (x.1 - 1) % 2 ^ (x.1 - 1 - 1)) = _
        rw [show x.1 - 1 - 1 = x.1 - 2 by omega, Nat.mod_mod_of_dvd _ (Nat.pow_dvd_pow 2 (by omega))]
      have Q70 := P.pO (upX S (dpS (dpS x)))
      have X70 : isX (upX S (dpS (dpS x))) (dpS (dpS x)) := upX_is (by rw [ee]; dsimp only; omega) dpS_ok
      rw [show upX S (dpS (dpS x)) = upS (upS S 13 (nI (x.1 - 2))) 14 (nI (x.2 % 2 ^ (x.1 - 2))) from by rw [ee]; rfl] at Q70 X70
      refine gi_aload_n (q := 74) (i := 0) C (dm_Bu_swapKinds 47 rfl) rfl rfl rfl ?_
      refine gi_iload_n (q := 75) (i := 1) C (dm_Bu_swapKinds 48 rfl) rfl rfl rfl ?_
      refine gi_callv 1 (q := 78) C (dm_Bu_swapKinds 49 rfl) rfl my_Bu_putKind lk_Bu_134 im_Bu_putKind rfl (c_Bu_putKind true (dpS (dpS x)) X70 Q70) Q70.ob rfl rfl ⟨(Nat.le_of_ble_eq_true rfl), (Nat.le_of_ble_eq_true rfl)⟩ (Nat.le_of_ble_eq_true rfl) ⟨(Nat.le_of_ble_eq_true rfl), (Nat.le_of_ble_eq_true rfl)⟩ (fun r75 n75 h75 e75 => ?_)
      obtain ⟨rfl, rfl, Q75⟩ := e75
      have X75 := upX_is (S := upS (upS S 13 (nI (x.1 - 2))) 14 (nI (x.2 % 2 ^ (x.1 - 2)))) (x := ptS true (dpS (dpS x))) (by show (dpS (dpS x)).1 + 1 ≤ 12; rw [ee]; dsimp only; omega) (ptS_ok dpS_ok)
      refine gi_aload_n (q := 79) (i := 0) C (dm_Bu_swapKinds 50 rfl) rfl rfl rfl ?_
      refine gi_iload_n (q := 80) (i := 2) C (dm_Bu_swapKinds 51 rfl) rfl rfl rfl ?_
      refine gi_callv 1 (q := 83) C (dm_Bu_swapKinds 52 rfl) rfl my_Bu_putKind lk_Bu_134 im_Bu_putKind rfl (c_Bu_putKind false (ptS true (dpS (dpS x))) X75 Q75) Q75.ob rfl rfl ⟨(Nat.le_of_ble_eq_true rfl), (Nat.le_of_ble_eq_true rfl)⟩ (Nat.le_of_ble_eq_true rfl) ⟨(Nat.le_of_ble_eq_true rfl), (Nat.le_of_ble_eq_true rfl)⟩ (fun r80 n80 h80 e80 => ?_)
      obtain ⟨rfl, rfl, Q80⟩ := e80
      refine gi_vret C hr (dm_Bu_swapKinds 53 rfl) ?_
      rw [upX_X, show upS (upS S 13 (nI (x.1 - 2))) 14 (nI (x.2 % 2 ^ (x.1 - 2))) = upX S (dpS (dpS x)) from by rw [ee]; rfl, upX_X] at Q80
      refine ⟨rfl, rfl, ?_⟩
      rw [et, eb]
      exact Q80
    · have e2 : (dpS x).2.testBit (x.1 - 2) = x.2.testBit (x.1 - 2) := by
        show (x.2 % 2 ^ (x.1 - 1)).testBit (x.1 - 2) = _
        rw [Nat.testBit_mod_two_pow, decide_eq_true (by omega), Bool.true_and]
      have e3 : tpS (dpS x) = x.2.testBit (x.1 - 2) := e2
      have eb0 : x.2.testBit (x.1 - 2) = true := (bt_bit (d := x.1 - 2) (by omega)).mp c37
      have eb : tpS (dpS x) = true := e3.trans eb0
      refine gi_iconst (q := 41) (v := 1) C (dm_Bu_swapKinds 26 rfl) rfl (by decide) ?_
      refine gi_goto (tgt := 45) C (dm_Bu_swapKinds 27 rfl) (by decide) ?_
      refine gi_istore_n (q := 46) (i := 2) C (dm_Bu_swapKinds 29 rfl) rfl rfl (Nat.le_of_ble_eq_true rfl) ?_
      refine gi_aload_n (q := 47) (i := 0) C (dm_Bu_swapKinds 30 rfl) rfl rfl rfl ?_
      refine gi_dup (q := 48) C (dm_Bu_swapKinds 31 rfl) rfl rfl ?_
      refine gi_get (q := 51) C (dm_Bu_swapKinds 32 rfl) rfl fl_Bu_103 (by first | exact p0 | exact Q70.ob | exact gi_up_self _ _ _) rfl ?_
      refine gi_iconst (q := 52) (v := 2) C (dm_Bu_swapKinds 33 rfl) rfl (by decide) ?_
      refine gi_isub (q := 53) C (dm_Bu_swapKinds 34 rfl) rfl ?_
      rw [x1, nI_m2 hx2]
      refine gi_put (q := 56) C (dm_Bu_swapKinds 35 rfl) rfl fl_Bu_103 fp_Bu_13 (by first | exact p0 | exact Q70.ob | exact gi_up_self _ _ _) (Nat.le_of_ble_eq_true rfl) rfl rfl ?_
      refine gi_aload_n (q := 57) (i := 0) C (dm_Bu_swapKinds 36 rfl) rfl rfl rfl ?_
      refine gi_dup (q := 58) C (dm_Bu_swapKinds 37 rfl) rfl rfl ?_
      refine gi_get (q := 61) C (dm_Bu_swapKinds 38 rfl) rfl fl_Bu_106 (by first | exact p0 | exact Q70.ob | exact gi_up_self _ _ _) rfl ?_
      refine gi_iconst (q := 62) (v := 1) C (dm_Bu_swapKinds 39 rfl) rfl (by decide) ?_
      refine gi_aload_n (q := 63) (i := 0) C (dm_Bu_swapKinds 40 rfl) rfl rfl rfl ?_
      refine gi_get (q := 66) C (dm_Bu_swapKinds 41 rfl) rfl fl_Bu_103 (by first | exact p0 | exact Q70.ob | exact gi_up_self _ _ _) rfl ?_
      refine gi_ishl (q := 67) C (dm_Bu_swapKinds 42 rfl) rfl ?_
      refine gi_iconst (q := 68) (v := 1) C (dm_Bu_swapKinds 43 rfl) rfl (by decide) ?_
      refine gi_isub (q := 69) C (dm_Bu_swapKinds 44 rfl) rfl ?_
      refine gi_iand (q := 70) C (dm_Bu_swapKinds 45 rfl) rfl ?_
      rw [x2, bt_low (show x.1 - 2 < 31 by omega)]
      refine gi_put (q := 73) C (dm_Bu_swapKinds 46 rfl) rfl fl_Bu_106 fp_Bu_14 (by first | exact p0 | exact Q70.ob | exact gi_up_self _ _ _) (Nat.le_of_ble_eq_true rfl) rfl rfl ?_
      rw [gi_up_up]
      have ee : dpS (dpS x) = (x.1 - 2, x.2 % 2 ^ (x.1 - 2)) := by
        show (x.1 - 1 - 1, x.2 % 2 ^ (x.1 - 1) % 2 ^ (x.1 - 1 - 1)) = _
        rw [show x.1 - 1 - 1 = x.1 - 2 by omega, Nat.mod_mod_of_dvd _ (Nat.pow_dvd_pow 2 (by omega))]
      have Q70 := P.pO (upX S (dpS (dpS x)))
      have X70 : isX (upX S (dpS (dpS x))) (dpS (dpS x)) := upX_is (by rw [ee]; dsimp only; omega) dpS_ok
      rw [show upX S (dpS (dpS x)) = upS (upS S 13 (nI (x.1 - 2))) 14 (nI (x.2 % 2 ^ (x.1 - 2))) from by rw [ee]; rfl] at Q70 X70
      refine gi_aload_n (q := 74) (i := 0) C (dm_Bu_swapKinds 47 rfl) rfl rfl rfl ?_
      refine gi_iload_n (q := 75) (i := 1) C (dm_Bu_swapKinds 48 rfl) rfl rfl rfl ?_
      refine gi_callv 1 (q := 78) C (dm_Bu_swapKinds 49 rfl) rfl my_Bu_putKind lk_Bu_134 im_Bu_putKind rfl (c_Bu_putKind true (dpS (dpS x)) X70 Q70) Q70.ob rfl rfl ⟨(Nat.le_of_ble_eq_true rfl), (Nat.le_of_ble_eq_true rfl)⟩ (Nat.le_of_ble_eq_true rfl) ⟨(Nat.le_of_ble_eq_true rfl), (Nat.le_of_ble_eq_true rfl)⟩ (fun r75 n75 h75 e75 => ?_)
      obtain ⟨rfl, rfl, Q75⟩ := e75
      have X75 := upX_is (S := upS (upS S 13 (nI (x.1 - 2))) 14 (nI (x.2 % 2 ^ (x.1 - 2)))) (x := ptS true (dpS (dpS x))) (by show (dpS (dpS x)).1 + 1 ≤ 12; rw [ee]; dsimp only; omega) (ptS_ok dpS_ok)
      refine gi_aload_n (q := 79) (i := 0) C (dm_Bu_swapKinds 50 rfl) rfl rfl rfl ?_
      refine gi_iload_n (q := 80) (i := 2) C (dm_Bu_swapKinds 51 rfl) rfl rfl rfl ?_
      refine gi_callv 1 (q := 83) C (dm_Bu_swapKinds 52 rfl) rfl my_Bu_putKind lk_Bu_134 im_Bu_putKind rfl (c_Bu_putKind true (ptS true (dpS (dpS x))) X75 Q75) Q75.ob rfl rfl ⟨(Nat.le_of_ble_eq_true rfl), (Nat.le_of_ble_eq_true rfl)⟩ (Nat.le_of_ble_eq_true rfl) ⟨(Nat.le_of_ble_eq_true rfl), (Nat.le_of_ble_eq_true rfl)⟩ (fun r80 n80 h80 e80 => ?_)
      obtain ⟨rfl, rfl, Q80⟩ := e80
      refine gi_vret C hr (dm_Bu_swapKinds 53 rfl) ?_
      rw [upX_X, show upS (upS S 13 (nI (x.1 - 2))) 14 (nI (x.2 % 2 ^ (x.1 - 2))) = upX S (dpS (dpS x)) from by rw [ee]; rfl, upX_X] at Q80
      refine ⟨rfl, rfl, ?_⟩
      rw [et, eb]
      exact Q80
end BU1
