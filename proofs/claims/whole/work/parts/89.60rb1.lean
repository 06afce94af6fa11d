-- needs: 89.59
section RB1
variable {l : Launch} {V : gi_V} {n : Nat} {h h' : gi_H} {M k m : Nat} {P : Pm} {x : Sh} {b : Bool} {S S' : Nat → Int32} {J J' : Nat → Int64} {F : Nat → Nat → Int32} {G : Nat → Nat → Int64}
/-- the shape in work -/
def shR (S : Nat → Int32) (x : Sh) (b : Bool) : Prop := S 19 = nI x.1 ∧ S 20 = nI x.2 ∧ S 21 = bI b ∧ x.1 ≤ 12 ∧ x.2 < 2 ^ x.1
def frS (S S' : Nat → Int32) : Prop := ∀ j, j ≠ 19 → j ≠ 20 → j ≠ 21 → S' j = S j
def moS (M : Nat) (J : Nat → Int64) (F : Nat → Nat → Int32) (G : Nat → Nat → Int64) (h : gi_H) (S : Nat → Int32) (x : Sh) (b : Bool) (h' : gi_H) : Prop := ∃ S', mo_at M S' J F G h' ∧ outM M h h' ∧ shR S' x b ∧ frS S S'
theorem frS.rf : frS S S := fun _ _ _ _ => rfl
theorem frS.tr {S2 : Nat → Int32} (a : frS S S') (b : frS S' S2) : frS S S2 := fun j h1 h2 h3 => (b j h1 h2 h3).trans (a j h1 h2 h3)
theorem moS.tr {S2 : Nat → Int32} {h2 : gi_H} {x : Sh} {b : Bool} (ho : outM M h h') (hr : frS S S') (q : moS M J F G h' S' x b h2) : moS M J F G h S x b h2 := by
  obtain ⟨S3, m, o, r, i⟩ := q
  exact ⟨S3, m, ho.tr o, r, hr.tr i⟩
/-- the program as the reference has it -/
def prF (P : Pm) (F : Nat → Nat → Int32) : Prop := ∀ j, 1 ≤ j → j ≤ 7 → F j = P j
def tkX (q : Bool) (z : Sh × Bool) : Sh × Bool := match tkS q z.1 with
  | none => (z.1, true)
  | some y => (y, z.2)
def tyX (z : Sh × Bool) : Sh × Bool := if z.1.1 = 0 then (z.1, true) else (dpS z.1, z.2)
def ptX (q : Bool) (z : Sh × Bool) : Sh × Bool := (ptS q z.1, z.2)
theorem and_1 (x : Int32) : x &&& 1 = 0 ∨ x &&& 1 = 1 := by
  have : (x &&& 1).toBitVec = 0#32 ∨ (x &&& 1).toBitVec = 1#32 := by
    rw [Int32.toBitVec_and]
    show x.toBitVec &&& 1#32 = 0#32 ∨ x.toBitVec &&& 1#32 = 1#32
    rw [BitVec.and_one_eq_setWidth_ofBool_getLsbD]
    cases x.toBitVec.getLsbD 0
    · exact Or.inl rfl
    · exact Or.inr rfl
  rcases this with q | q
  · exact Or.inl (Int32.toBitVec_inj.mp q)
  · exact Or.inr (Int32.toBitVec_inj.mp q)
theorem bt_v {z d : Nat} (hd : d < 32) : (nI z >>> (nI d &&& 31)) &&& 1 = bI (z.testBit d) := by
  have h := bt_bit (z := z) (d := d) hd
  have h2 : (nI z >>> (nI d &&& 31)) &&& 1 = 0 ∨ (nI z >>> (nI d &&& 31)) &&& 1 = 1 := and_1 _
  cases e : z.testBit d with
  | true => rw [h.mpr e]; rfl
  | false =>
    rcases h2 with q | q
    · rw [q]; rfl
    · rw [h.mp q] at e; cases e
set_option maxHeartbeats 4000000 in
set_option maxRecDepth 100000 in
theorem c_Mo_kindOf {i : Nat} (W : wfP k P) (hm : m < k) (hi : i < 8) (hP : prF P F) (H : mo_at M S J F G h) : gi_T l V y_Mo_kindOf b_Mo_kindOf 3 (some .int) 0 0 0 0 [.ref M, .int (nI m), .int (nI i)] n h (gi_is (some (.int (bI (kdB P m i)))) n h) := by
  refine gi_enter (by decide) (Nat.le_of_ble_eq_true rfl) ?_
  intro _ _ _ _ _ _ _ _ C hr hnm
  obtain ⟨fs, Ha, Hf⟩ := id H.1
  have ho : outM M h h := outM.rf
  have w8 := W.k8
  have e := wf_n W hm
  refine gi_aload_n (q := 1) (i := 0) C (dm_Mo_kindOf 0 rfl) rfl rfl rfl ?_
  refine gi_get (q := 4) C (dm_Mo_kindOf 1 rfl) rfl fl_Mo_16 Ha (mo_g3 Hf) ?_
  refine gi_iload_n (q := 5) (i := 1) C (dm_Mo_kindOf 2 rfl) rfl rfl rfl ?_
  refine gi_iald (q := 6) C (dm_Mo_kindOf 3 rfl) rfl rfl (mo_a3 H) (inN (show m < 8 by omega) (by decide)) ?_
  refine gi_iload_n (q := 7) (i := 2) C (dm_Mo_kindOf 4 rfl) rfl rfl rfl ?_
  refine gi_ishr (q := 8) C (dm_Mo_kindOf 5 rfl) rfl ?_
  refine gi_iconst (q := 9) (v := 1) C (dm_Mo_kindOf 6 rfl) rfl (by decide) ?_
  refine gi_iand (q := 10) C (dm_Mo_kindOf 7 rfl) rfl ?_
  refine gi_iret C hr (dm_Mo_kindOf 8 rfl) ?_
  refine ⟨?_, rfl, rfl⟩
  rw [nI_clamp (show m < 2 ^ 31 by omega), hP 3 (by decide) (by decide), e.2.2.2.2.1, bt_v (by omega)]
  rfl
set_option maxHeartbeats 4000000 in
set_option maxRecDepth 100000 in
theorem c_Mo_fault (f a c : Nat) (H : mo_at M S J F G h) : gi_T l V y_Mo_fault b_Mo_fault 4 (some .int) 0 0 0 0 [.ref M, .int (nI f), .int (nI a), .int (nI c)] n h (fun v n' h' => v = some (.int (-(nI f))) ∧ n' = n ∧ mo_at M (upS (upS S 10 (nI a)) 11 (nI c)) J F G h' ∧ outM M h h') := by
  refine gi_enter (by decide) (Nat.le_of_ble_eq_true rfl) ?_
  intro _ _ _ _ _ _ _ _ C hr hnm
  obtain ⟨fs, Ha, Hf⟩ := id H.1
  have ho : outM M h h := outM.rf
  refine gi_aload_n (q := 1) (i := 0) C (dm_Mo_fault 0 rfl) rfl rfl rfl ?_
  refine gi_iload_n (q := 2) (i := 2) C (dm_Mo_fault 1 rfl) rfl rfl rfl ?_
  refine gi_put (q := 5) C (dm_Mo_fault 2 rfl) rfl fl_Mo_31 fp_Mo_10 Ha (by rw [Hf.1]; decide) rfl rfl ?_
  refine gi_genM (H.putI Ha Hf (by decide) rfl) (ho.up (by omega) (by omega)) (fun y H ho => ?_)
  obtain ⟨fs, Ha, Hf⟩ := id H.1
  refine gi_aload_n (q := 6) (i := 0) C (dm_Mo_fault 3 rfl) rfl rfl rfl ?_
  refine gi_iload_n (q := 7) (i := 3) C (dm_Mo_fault 4 rfl) rfl rfl rfl ?_
  refine gi_put (q := 10) C (dm_Mo_fault 5 rfl) rfl fl_Mo_35 fp_Mo_11 Ha (by rw [Hf.1]; decide) rfl rfl ?_
  refine gi_genM (H.putI Ha Hf (by decide) rfl) (ho.up (by omega) (by omega)) (fun y H ho => ?_)
  obtain ⟨fs, Ha, Hf⟩ := id H.1
  refine gi_iload_n (q := 11) (i := 1) C (dm_Mo_fault 6 rfl) rfl rfl rfl ?_
  refine gi_ineg (q := 12) C (dm_Mo_fault 7 rfl) rfl ?_
  refine gi_iret C hr (dm_Mo_fault 8 rfl) ?_
  exact ⟨rfl, rfl, H, ho⟩
set_option maxHeartbeats 4000000 in
set_option maxRecDepth 100000 in
theorem c_Mo_takesAny (hS : shR S x b) (H : mo_at M S J F G h) : gi_T l V y_Mo_takesAny b_Mo_takesAny 2 (some .int) 0 0 0 0 [.ref M] n h (fun v n' h' => v = some (.int (bI (decide (x.1 ≠ 0) && tpS x))) ∧ n' = n ∧ moS M J F G h S (tyX (x, b)).1 (tyX (x, b)).2 h') := by
  refine gi_enter (by decide) (Nat.le_of_ble_eq_true rfl) ?_
  intro _ _ _ _ _ _ _ _ C hr hnm
  obtain ⟨fs, Ha, Hf⟩ := id H.1
  have ho : outM M h h := outM.rf
  obtain ⟨s1, s2, s3, s4, s5⟩ := id hS
  refine gi_aload_n (q := 1) (i := 0) C (dm_Mo_takesAny 0 rfl) rfl rfl rfl ?_
  refine gi_get (q := 4) C (dm_Mo_takesAny 1 rfl) rfl fl_Mo_190 Ha (mo_g19 Hf) ?_
  refine gi_if_ne (q := 7) (tgt := 14) C (dm_Mo_takesAny 2 rfl) rfl (by decide) (fun c4 => ?_) (fun c4 => ?_)
  · have x0 : x.1 ≠ 0 := fun q => c4 (by rw [s1, q]; rfl)
    refine gi_aload_n (q := 15) (i := 0) C (dm_Mo_takesAny 8 rfl) rfl rfl rfl ?_
    refine gi_dup (q := 16) C (dm_Mo_takesAny 9 rfl) rfl rfl ?_
    refine gi_get (q := 19) C (dm_Mo_takesAny 10 rfl) rfl fl_Mo_190 Ha (mo_g19 Hf) ?_
    refine gi_iconst (q := 20) (v := 1) C (dm_Mo_takesAny 11 rfl) rfl (by decide) ?_
    refine gi_isub (q := 21) C (dm_Mo_takesAny 12 rfl) rfl ?_
    rw [s1, show (1 : Int32) = nI 1 from rfl, nI_sb (by omega) (by omega)]
    refine gi_put (q := 24) C (dm_Mo_takesAny 13 rfl) rfl fl_Mo_190 fp_Mo_19 Ha (by rw [Hf.1]; decide) rfl rfl ?_
    refine gi_genM (H.putI Ha Hf (by decide) rfl) (ho.up (by omega) (by omega)) (fun y H ho => ?_)
    obtain ⟨fs, Ha, Hf⟩ := id H.1
    refine gi_aload_n (q := 25) (i := 0) C (dm_Mo_takesAny 14 rfl) rfl rfl rfl ?_
    refine gi_get (q := 28) C (dm_Mo_takesAny 15 rfl) rfl fl_Mo_193 Ha (mo_g20 Hf) ?_
    refine gi_aload_n (q := 29) (i := 0) C (dm_Mo_takesAny 16 rfl) rfl rfl rfl ?_
    refine gi_get (q := 32) C (dm_Mo_takesAny 17 rfl) rfl fl_Mo_190 Ha (mo_g19 Hf) ?_
    refine gi_ishr (q := 33) C (dm_Mo_takesAny 18 rfl) rfl ?_
    refine gi_iconst (q := 34) (v := 1) C (dm_Mo_takesAny 19 rfl) rfl (by decide) ?_
    refine gi_iand (q := 35) C (dm_Mo_takesAny 20 rfl) rfl ?_
    rw [show upS S 19 (nI (x.1 - 1)) 20 = nI x.2 from s2, show upS S 19 (nI (x.1 - 1)) 19 = nI (x.1 - 1) from rfl, bt_v (by omega)]
    refine gi_istore_n (q := 36) (i := 1) C (dm_Mo_takesAny 21 rfl) rfl rfl (Nat.le_of_ble_eq_true rfl) ?_
    refine gi_aload_n (q := 37) (i := 0) C (dm_Mo_takesAny 22 rfl) rfl rfl rfl ?_
    refine gi_dup (q := 38) C (dm_Mo_takesAny 23 rfl) rfl rfl ?_
    refine gi_get (q := 41) C (dm_Mo_takesAny 24 rfl) rfl fl_Mo_193 Ha (mo_g20 Hf) ?_
    refine gi_iconst (q := 42) (v := 1) C (dm_Mo_takesAny 25 rfl) rfl (by decide) ?_
    refine gi_aload_n (q := 43) (i := 0) C (dm_Mo_takesAny 26 rfl) rfl rfl rfl ?_
    refine gi_get (q := 46) C (dm_Mo_takesAny 27 rfl) rfl fl_Mo_190 Ha (mo_g19 Hf) ?_
    refine gi_ishl (q := 47) C (dm_Mo_takesAny 28 rfl) rfl ?_
    refine gi_iconst (q := 48) (v := 1) C (dm_Mo_takesAny 29 rfl) rfl (by decide) ?_
    refine gi_isub (q := 49) C (dm_Mo_takesAny 30 rfl) rfl ?_
    refine gi_iand (q := 50) C (dm_Mo_takesAny 31 rfl) rfl ?_
    rw [show upS S 19 (nI (x.1 - 1)) 20 = nI x.2 from s2, show upS S 19 (nI (x.1 - 1)) 19 = nI (x.1 - 1) from rfl, bt_low (by omega)]
    refine gi_put (q := 53) C (dm_Mo_takesAny 32 rfl) rfl fl_Mo_193 fp_Mo_20 Ha (by rw [Hf.1]; decide) rfl rfl ?_
    refine gi_genM (H.putI Ha Hf (by decide) rfl) (ho.up (by omega) (by omega)) (fun y H ho => ?_)
    obtain ⟨fs, Ha, Hf⟩ := id H.1
    refine gi_iload_n (q := 54) (i := 1) C (dm_Mo_takesAny 33 rfl) rfl rfl rfl ?_
    refine gi_iret C hr (dm_Mo_takesAny 34 rfl) ?_
    refine ⟨by rw [decide_eq_true x0]; rfl, rfl, ?_⟩
    rw [show tyX (x, b) = (dpS x, b) from if_neg x0]
    refine ⟨_, H, ho, ⟨rfl, rfl, s3, by show x.1 - 1 ≤ 12; omega, dp_lt⟩, fun j q1 q2 q3 => ?_⟩
    unfold upS
    simp [q1, q2, q3]
  · refine gi_aload_n (q := 8) (i := 0) C (dm_Mo_takesAny 3 rfl) rfl rfl rfl ?_
    refine gi_iconst (q := 9) (v := 1) C (dm_Mo_takesAny 4 rfl) rfl (by decide) ?_
    refine gi_put (q := 12) C (dm_Mo_takesAny 5 rfl) rfl fl_Mo_196 fp_Mo_21 Ha (by rw [Hf.1]; decide) rfl rfl ?_
    refine gi_genM (H.putI Ha Hf (by decide) rfl) (ho.up (by omega) (by omega)) (fun y H ho => ?_)
    obtain ⟨fs, Ha, Hf⟩ := id H.1
    refine gi_iconst (q := 13) (v := 0) C (dm_Mo_takesAny 6 rfl) rfl (by decide) ?_
    refine gi_iret C hr (dm_Mo_takesAny 7 rfl) ?_
    have x0 : x.1 = 0 := by
      rw [s1, nI_z (by omega)] at c4
      exact c4
    refine ⟨by rw [decide_eq_false (fun q => q x0)]; rfl, rfl, ?_⟩
    rw [show tyX (x, b) = (x, true) from if_pos x0]
    refine ⟨_, H, ho, ⟨s1, s2, rfl, s4, s5⟩, fun j q1 q2 q3 => ?_⟩
    unfold upS
    simp [q1, q2, q3]
set_option maxHeartbeats 4000000 in
set_option maxRecDepth 100000 in
theorem c_Mo_takes (q : Bool) (hS : shR S x b) (H : mo_at M S J F G h) : gi_T l V y_Mo_takes b_Mo_takes 2 none 1 21 0 0 [.ref M, .int (bI q)] n h (fun v n' h' => v = none ∧ n' = n ∧ moS M J F G h S (tkX q (x, b)).1 (tkX q (x, b)).2 h') := by
  refine gi_enter (by decide) (Nat.le_of_ble_eq_true rfl) ?_
  intro _ _ _ _ _ _ _ _ C hr hnm
  obtain ⟨fs, Ha, Hf⟩ := id H.1
  have ho : outM M h h := outM.rf
  obtain ⟨s1, s2, s3, s4, s5⟩ := id hS
  refine gi_aload_n (q := 1) (i := 0) C (dm_Mo_takes 0 rfl) rfl rfl rfl ?_
  refine gi_get (q := 4) C (dm_Mo_takes 1 rfl) rfl fl_Mo_190 Ha (mo_g19 Hf) ?_
  refine gi_if_eq (q := 7) (tgt := 24) C (dm_Mo_takes 2 rfl) rfl (by decide) (fun c4 => ?_) (fun c4 => ?_)
  · refine gi_aload_n (q := 25) (i := 0) C (dm_Mo_takes 14 rfl) rfl rfl rfl ?_
    refine gi_iconst (q := 26) (v := 1) C (dm_Mo_takes 15 rfl) rfl (by decide) ?_
    refine gi_put (q := 29) C (dm_Mo_takes 16 rfl) rfl fl_Mo_196 fp_Mo_21 Ha (by rw [Hf.1]; decide) rfl rfl ?_
    refine gi_genM (H.putI Ha Hf (by decide) rfl) (ho.up (by omega) (by omega)) (fun y H ho => ?_)
    obtain ⟨fs, Ha, Hf⟩ := id H.1
    refine gi_goto (tgt := 37) C (dm_Mo_takes 17 rfl) (by decide) ?_
    refine gi_vret C hr (dm_Mo_takes 21 rfl) ?_
    rw [show tkX q (x, b) = (x, true) from by
      unfold tkX tkS
      dsimp only
      first
        | (rw [if_pos (show x.1 = 0 from by rw [s1, nI_z (by omega)] at c4; exact c4)]; done)
        | (rw [if_neg x0, if_neg (fun z => c21 (by rw [← z]; rfl))]; done)]
    refine ⟨rfl, rfl, _, H, ho, ⟨s1, s2, rfl, s4, s5⟩, fun j q1 q2 q3 => ?_⟩
    unfold upS
    simp [q1, q2, q3]
  · have x0 : x.1 ≠ 0 := fun q => c4 (by rw [s1, q]; rfl)
    refine gi_aload_n (q := 8) (i := 0) C (dm_Mo_takes 3 rfl) rfl rfl rfl ?_
    refine gi_get (q := 11) C (dm_Mo_takes 4 rfl) rfl fl_Mo_193 Ha (mo_g20 Hf) ?_
    refine gi_aload_n (q := 12) (i := 0) C (dm_Mo_takes 5 rfl) rfl rfl rfl ?_
    refine gi_get (q := 15) C (dm_Mo_takes 6 rfl) rfl fl_Mo_190 Ha (mo_g19 Hf) ?_
    refine gi_iconst (q := 16) (v := 1) C (dm_Mo_takes 7 rfl) rfl (by decide) ?_
    refine gi_isub (q := 17) C (dm_Mo_takes 8 rfl) rfl ?_
    rw [s2, s1, show (1 : Int32) = nI 1 from rfl, nI_sb (by omega) (by omega)]
    refine gi_ishr (q := 18) C (dm_Mo_takes 9 rfl) rfl ?_
    refine gi_iconst (q := 19) (v := 1) C (dm_Mo_takes 10 rfl) rfl (by decide) ?_
    refine gi_iand (q := 20) C (dm_Mo_takes 11 rfl) rfl ?_
    rw [bt_v (by omega)]
    refine gi_iload_n (q := 21) (i := 1) C (dm_Mo_takes 12 rfl) rfl rfl rfl ?_
    refine gi_icmp_eq (q := 24) (tgt := 32) C (dm_Mo_takes 13 rfl) rfl (by decide) (fun c21 => ?_) (fun c21 => ?_)
    · refine gi_aload_n (q := 33) (i := 0) C (dm_Mo_takes 18 rfl) rfl rfl rfl ?_
      refine gi_callv 0 (q := 36) C (dm_Mo_takes 19 rfl) rfl my_Mo_takesAny lk_Mo_199 im_Mo_takesAny rfl (c_Mo_takesAny hS H) Ha rfl rfl ⟨(Nat.le_of_ble_eq_true rfl), (Nat.le_of_ble_eq_true rfl)⟩ (Nat.le_of_ble_eq_true rfl) ⟨(Nat.le_of_ble_eq_true rfl), (Nat.le_of_ble_eq_true rfl)⟩ (fun r33 n33 h33 e33 => ?_)
      obtain ⟨rfl, rfl, W33⟩ := e33
      refine gi_pop (q := 37) C (dm_Mo_takes 20 rfl) rfl rfl ?_
      refine gi_vret C hr (dm_Mo_takes 21 rfl) ?_
      have tq : tpS x = q := by
        cases e1 : tpS x <;> cases e2 : q <;> simp_all [bI, tpS]
      rw [show tkX q (x, b) = (dpS x, b) from by
        unfold tkX tkS
        dsimp only
        rw [if_neg x0, if_pos tq]]
      rw [show tyX (x, b) = (dpS x, b) from if_neg x0] at W33
      exact ⟨rfl, rfl, W33⟩
    · refine gi_aload_n (q := 25) (i := 0) C (dm_Mo_takes 14 rfl) rfl rfl rfl ?_
      refine gi_iconst (q := 26) (v := 1) C (dm_Mo_takes 15 rfl) rfl (by decide) ?_
      refine gi_put (q := 29) C (dm_Mo_takes 16 rfl) rfl fl_Mo_196 fp_Mo_21 Ha (by rw [Hf.1]; decide) rfl rfl ?_
      refine gi_genM (H.putI Ha Hf (by decide) rfl) (ho.up (by omega) (by omega)) (fun y H ho => ?_)
      obtain ⟨fs, Ha, Hf⟩ := id H.1
      refine gi_goto (tgt := 37) C (dm_Mo_takes 17 rfl) (by decide) ?_
      refine gi_vret C hr (dm_Mo_takes 21 rfl) ?_
      rw [show tkX q (x, b) = (x, true) from by
        unfold tkX tkS
        dsimp only
        first
          | (rw [if_pos (show x.1 = 0 from by rw [s1, nI_z (by omega)] at c4; exact c4)]; done)
          | (rw [if_neg x0, if_neg (fun z => c21 (by rw [← z]; rfl))]; done)]
      refine ⟨rfl, rfl, _, H, ho, ⟨s1, s2, rfl, s4, s5⟩, fun j q1 q2 q3 => ?_⟩
      unfold upS
      simp [q1, q2, q3]
theorem bt_z : ∀ d, d < 31 → (0 : Int32) <<< (nI d &&& 31) = 0 := by decide +kernel
theorem bt_put {z d : Nat} {q : Bool} (hd : d < 30) (hz : z < 2 ^ d) : nI z ||| bI q <<< (nI d &&& 31) = nI (2 ^ d * q.toNat + z) := by
  cases q with
  | true =>
    show nI z ||| (1 : Int32) <<< (nI d &&& 31) = _
    rw [bt_or (by omega) hz]
    rfl
  | false =>
    show nI z ||| (0 : Int32) <<< (nI d &&& 31) = _
    rw [bt_z d (by omega)]
    show nI z ||| 0 = nI (2 ^ d * 0 + z)
    rw [Nat.mul_zero, Nat.zero_add]
    simp
set_option maxHeartbeats 4000000 in
set_option maxRecDepth 100000 in
theorem c_Mo_puts (q : Bool) (hS : shR S x b) (x11 : x.1 ≤ 11) (H : mo_at M S J F G h) : gi_T l V y_Mo_puts b_Mo_puts 2 none 0 0 0 0 [.ref M, .int (bI q)] n h (fun v n' h' => v = none ∧ n' = n ∧ moS M J F G h S (ptS q x) b h') := by
  refine gi_enter (by decide) (Nat.le_of_ble_eq_true rfl) ?_
  intro _ _ _ _ _ _ _ _ C hr hnm
  obtain ⟨fs, Ha, Hf⟩ := id H.1
  have ho : outM M h h := outM.rf
  obtain ⟨s1, s2, s3, s4, s5⟩ := id hS
  refine gi_aload_n (q := 1) (i := 0) C (dm_Mo_puts 0 rfl) rfl rfl rfl ?_
  refine gi_dup (q := 2) C (dm_Mo_puts 1 rfl) rfl rfl ?_
  refine gi_get (q := 5) C (dm_Mo_puts 2 rfl) rfl fl_Mo_193 Ha (mo_g20 Hf) ?_
  refine gi_iload_n (q := 6) (i := 1) C (dm_Mo_puts 3 rfl) rfl rfl rfl ?_
  refine gi_aload_n (q := 7) (i := 0) C (dm_Mo_puts 4 rfl) rfl rfl rfl ?_
  refine gi_get (q := 10) C (dm_Mo_puts 5 rfl) rfl fl_Mo_190 Ha (mo_g19 Hf) ?_
  refine gi_ishl (q := 11) C (dm_Mo_puts 6 rfl) rfl ?_
  refine gi_ior (q := 12) C (dm_Mo_puts 7 rfl) rfl ?_
  rw [s2, s1, bt_put (by omega) s5]
  refine gi_put (q := 15) C (dm_Mo_puts 8 rfl) rfl fl_Mo_193 fp_Mo_20 Ha (by rw [Hf.1]; decide) rfl rfl ?_
  refine gi_genM (H.putI Ha Hf (by decide) rfl) (ho.up (by omega) (by omega)) (fun y H ho => ?_)
  obtain ⟨fs, Ha, Hf⟩ := id H.1
  refine gi_aload_n (q := 16) (i := 0) C (dm_Mo_puts 9 rfl) rfl rfl rfl ?_
  refine gi_dup (q := 17) C (dm_Mo_puts 10 rfl) rfl rfl ?_
  refine gi_get (q := 20) C (dm_Mo_puts 11 rfl) rfl fl_Mo_190 Ha (mo_g19 Hf) ?_
  refine gi_iconst (q := 21) (v := 1) C (dm_Mo_puts 12 rfl) rfl (by decide) ?_
  refine gi_iadd (q := 22) C (dm_Mo_puts 13 rfl) rfl ?_
  rw [show upS S 20 (nI (2 ^ x.1 * q.toNat + x.2)) 19 = nI x.1 from s1, nI_1]
  refine gi_put (q := 25) C (dm_Mo_puts 14 rfl) rfl fl_Mo_190 fp_Mo_19 Ha (by rw [Hf.1]; decide) rfl rfl ?_
  refine gi_genM (H.putI Ha Hf (by decide) rfl) (ho.up (by omega) (by omega)) (fun y H ho => ?_)
  obtain ⟨fs, Ha, Hf⟩ := id H.1
  refine gi_vret C hr (dm_Mo_puts 15 rfl) ?_
  refine ⟨rfl, rfl, _, H, ho, ⟨rfl, rfl, s3, by show x.1 + 1 ≤ 12; omega, ptS_ok s5⟩, fun j q1 q2 q3 => ?_⟩
  unfold upS
  simp [q1, q2, q3]
set_option maxHeartbeats 4000000 in
set_option maxRecDepth 100000 in
theorem c_Mo_goesTo (op : Nat) (h35 : op ≤ 35) : gi_T l V y_Mo_goesTo b_Mo_goesTo 1 (some .boolean) 0 0 0 0 [.int (nI op)] n h (gi_is (some (.int (bI (decide (19 ≤ op) && decide (op ≤ 27))))) n h) := by
  refine gi_enter (by decide) (Nat.le_of_ble_eq_true rfl) ?_
  intro _ _ _ _ _ _ _ _ C hr hnm
  have j19 : (nI op = 19) = (op = 19) := nI_eqP (b := 19) (by omega) (by decide)
  have j33 : (nI op = 33) = (op = 33) := nI_eqP (b := 33) (by omega) (by decide)
  have jl19 : (nI op < 19) = (op < 19) := nI_ltP (b := 19) (by omega) (by decide)
  have jg27 : ((27 : Int32) < nI op) = (27 < op) := nI_ltP (a := 27) (by decide) (by omega)
  refine gi_iload_n (q := 1) (i := 0) C (dm_Mo_goesTo 0 rfl) rfl rfl rfl ?_
  refine gi_bipush (q := 3) (v := 19) C (dm_Mo_goesTo 1 rfl) rfl (by decide) ?_
  refine gi_icmp_lt (q := 6) (tgt := 16) C (dm_Mo_goesTo 2 rfl) rfl (by decide) (fun c3 => ?_) (fun c3 => ?_)
  · refine gi_iconst (q := 17) (v := 0) C (dm_Mo_goesTo 8 rfl) rfl (by decide) ?_
    refine gi_zret C hr (dm_Mo_goesTo 9 rfl) rfl ?_
    refine ⟨?_, rfl, rfl⟩
    (try simp only [j19, jl19, jg27, j33] at *)
    first
      | (rw [show (decide (19 ≤ op) && decide (op ≤ 27)) = true from by simp; omega]; rfl)
      | (rw [show (decide (19 ≤ op) && decide (op ≤ 27)) = false from by simp; omega]; rfl)
  · refine gi_iload_n (q := 7) (i := 0) C (dm_Mo_goesTo 3 rfl) rfl rfl rfl ?_
    refine gi_bipush (q := 9) (v := 27) C (dm_Mo_goesTo 4 rfl) rfl (by decide) ?_
    refine gi_icmp_gt (q := 12) (tgt := 16) C (dm_Mo_goesTo 5 rfl) rfl (by decide) (fun c9 => ?_) (fun c9 => ?_)
    · refine gi_iconst (q := 17) (v := 0) C (dm_Mo_goesTo 8 rfl) rfl (by decide) ?_
      refine gi_zret C hr (dm_Mo_goesTo 9 rfl) rfl ?_
      refine ⟨?_, rfl, rfl⟩
      (try simp only [j19, jl19, jg27, j33] at *)
      first
        | (rw [show (decide (19 ≤ op) && decide (op ≤ 27)) = true from by simp; omega]; rfl)
        | (rw [show (decide (19 ≤ op) && decide (op ≤ 27)) = false from by simp; omega]; rfl)
    · refine gi_iconst (q := 13) (v := 1) C (dm_Mo_goesTo 6 rfl) rfl (by decide) ?_
      refine gi_goto (tgt := 17) C (dm_Mo_goesTo 7 rfl) (by decide) ?_
      refine gi_zret C hr (dm_Mo_goesTo 9 rfl) rfl ?_
      refine ⟨?_, rfl, rfl⟩
      (try simp only [j19, jl19, jg27, j33] at *)
      first
        | (rw [show (decide (19 ≤ op) && decide (op ≤ 27)) = true from by simp; omega]; rfl)
        | (rw [show (decide (19 ≤ op) && decide (op ≤ 27)) = false from by simp; omega]; rfl)
set_option maxHeartbeats 4000000 in
set_option maxRecDepth 100000 in
theorem c_Mo_goesOn (op : Nat) (h35 : op ≤ 35) : gi_T l V y_Mo_goesOn b_Mo_goesOn 1 (some .boolean) 0 0 0 0 [.int (nI op)] n h (gi_is (some (.int (bI (decide (op ≠ 19) && decide (op ≠ 33))))) n h) := by
  refine gi_enter (by decide) (Nat.le_of_ble_eq_true rfl) ?_
  intro _ _ _ _ _ _ _ _ C hr hnm
  have j19 : (nI op = 19) = (op = 19) := nI_eqP (b := 19) (by omega) (by decide)
  have j33 : (nI op = 33) = (op = 33) := nI_eqP (b := 33) (by omega) (by decide)
  have jl19 : (nI op < 19) = (op < 19) := nI_ltP (b := 19) (by omega) (by decide)
  have jg27 : ((27 : Int32) < nI op) = (27 < op) := nI_ltP (a := 27) (by decide) (by omega)
  refine gi_iload_n (q := 1) (i := 0) C (dm_Mo_goesOn 0 rfl) rfl rfl rfl ?_
  refine gi_bipush (q := 3) (v := 19) C (dm_Mo_goesOn 1 rfl) rfl (by decide) ?_
  refine gi_icmp_eq (q := 6) (tgt := 16) C (dm_Mo_goesOn 2 rfl) rfl (by decide) (fun c3 => ?_) (fun c3 => ?_)
  · refine gi_iconst (q := 17) (v := 0) C (dm_Mo_goesOn 8 rfl) rfl (by decide) ?_
    refine gi_zret C hr (dm_Mo_goesOn 9 rfl) rfl ?_
    refine ⟨?_, rfl, rfl⟩
    (try simp only [j19, jl19, jg27, j33] at *)
    first
      | (rw [show (decide (op ≠ 19) && decide (op ≠ 33)) = true from by simp; omega]; rfl)
      | (rw [show (decide (op ≠ 19) && decide (op ≠ 33)) = false from by simp; omega]; rfl)
  · refine gi_iload_n (q := 7) (i := 0) C (dm_Mo_goesOn 3 rfl) rfl rfl rfl ?_
    refine gi_bipush (q := 9) (v := 33) C (dm_Mo_goesOn 4 rfl) rfl (by decide) ?_
    refine gi_icmp_eq (q := 12) (tgt := 16) C (dm_Mo_goesOn 5 rfl) rfl (by decide) (fun c9 => ?_) (fun c9 => ?_)
    · refine gi_iconst (q := 17) (v := 0) C (dm_Mo_goesOn 8 rfl) rfl (by decide) ?_
      refine gi_zret C hr (dm_Mo_goesOn 9 rfl) rfl ?_
      refine ⟨?_, rfl, rfl⟩
      (try simp only [j19, jl19, jg27, j33] at *)
      first
        | (rw [show (decide (op ≠ 19) && decide (op ≠ 33)) = true from by simp; omega]; rfl)
        | (rw [show (decide (op ≠ 19) && decide (op ≠ 33)) = false from by simp; omega]; rfl)
    · refine gi_iconst (q := 13) (v := 1) C (dm_Mo_goesOn 6 rfl) rfl (by decide) ?_
      refine gi_goto (tgt := 17) C (dm_Mo_goesOn 7 rfl) (by decide) ?_
      refine gi_zret C hr (dm_Mo_goesOn 9 rfl) rfl ?_
      refine ⟨?_, rfl, rfl⟩
      (try simp only [j19, jl19, jg27, j33] at *)
      first
        | (rw [show (decide (op ≠ 19) && decide (op ≠ 33)) = true from by simp; omega]; rfl)
        | (rw [show (decide (op ≠ 19) && decide (op ≠ 33)) = false from by simp; omega]; rfl)
end RB1
