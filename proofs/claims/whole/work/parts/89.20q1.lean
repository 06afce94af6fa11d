-- needs: 89.16
section Q1
variable {l : Launch} {V : gi_V} {n : Nat} {h : gi_H} {X k : Nat} {cr ct : Int32} {P : Pm} {F : Fa} {Φ : Nat → mR}
def pq (m q : Int32) : Nat := 60 * m.toNatClampNeg + q.toNatClampNeg
def rcV (k : Nat) (P : Pm) (F : Fa) (m q : Int32) : Bool := isP k P m q && (F (pq m q)).told
def ixS (P : Pm) (m : Nat) (sl : Int32) : Option Nat := if 0 ≤ sl.toInt ∧ sl.toInt < pN P 2 m then some sl.toNatClampNeg else if 10 ≤ sl.toInt ∧ sl.toInt < 18 then some (pN P 2 m + sl.toNatClampNeg - 10) else none
def tdx (k : Nat) (P : Pm) (F : Fa) (m q sl : Int32) : Option Nat := if rcV k P F m q = true then (match ixS P m.toNatClampNeg sl with
    | none => none
    | some j => if j < (F (pq m q)).n then some j else none) else none
def tdR (Φ : Nat → mR) (m q : Int32) : Option Nat → Value
  | none => .null
  | some j => .ref ((Φ (pq m q)).1 j)
def stQ (k : Nat) (P : Pm) (F : Fa) (m q sl wh : Int32) : Int64 := match tdx k P F m q sl with
  | none => NOl
  | some j => if wh = 5 then (if sl < 10 then NOl else ((F (pq m q)).f j).2.toInt64) else partV (eA ((F (pq m q)).f j).1) wh
theorem isP_ex (W : wfP k P) {m q : Int32} (h : isP k P m q = true) : ∃ a b : Nat, a < k ∧ b < pN P 5 a ∧ b < 60 ∧ m = nI a ∧ q = nI b ∧ pq m q = 60 * a + b := by
  obtain ⟨a, b, h1, h2, h3, h4, h5⟩ := isP_nI W.k8 (wf_L W) h
  have wm := wf_ar W h1
  have w8 := W.k8
  rw [(wf_n W h1).2.2.2.1, nI_ltI (by omega) (by omega)] at h5
  refine ⟨a, b, h1, h5, h3, h2, h4, ?_⟩
  unfold pq
  rw [h2, h4, nI_clamp (by omega), nI_clamp (by omega)]
def CW (X k : Nat) (P : Pm) (F : Fa) (Φ : Nat → mR) (ct cr : Int32) (h : gi_H) : Prop := hs_ob X ct cr h ∧ pr_at (X + 1) (nI k) P h ∧ fa_at (X + 17) Φ h ∧ FaR F Φ
set_option maxHeartbeats 4000000 in
set_option maxRecDepth 100000 in
theorem c_H_reached (m q : Int32) (W : wfP k P) (Hw : CW X k P F Φ 1 cr h) : gi_T l V y_H_reached b_H_reached 3 (some .boolean) 2 43 0 0 [.ref X, .int m, .int q] n h (gi_is (some (.int (bI (rcV k P F m q)))) n h) := by
  refine gi_enter (by decide) (Nat.le_of_ble_eq_true rfl) ?_
  intro _ _ _ _ _ _ _ _ C hr hnm
  obtain ⟨HX, HP, HC, R⟩ := id Hw
  have HX0 := HX
  unfold hs_ob at HX0
  have w8 := W.k8
  refine gi_aload_n (q := 1) (i := 0) C (dm_H_reached 0 rfl) rfl rfl rfl ?_
  refine gi_get (q := 4) C (dm_H_reached 1 rfl) rfl fl_H_69 HX0 rfl ?_
  refine gi_if_eq (q := 7) (tgt := 38) C (dm_H_reached 2 rfl) rfl (by decide) (fun c4 => ?_) (fun c4 => ?_)
  · exact absurd c4 (by decide)
  · refine gi_aload_n (q := 8) (i := 0) C (dm_H_reached 3 rfl) rfl rfl rfl ?_
    refine gi_get (q := 11) C (dm_H_reached 4 rfl) rfl fl_H_12 HX0 rfl ?_
    refine gi_iload_n (q := 12) (i := 1) C (dm_H_reached 5 rfl) rfl rfl rfl ?_
    refine gi_iload_n (q := 13) (i := 2) C (dm_H_reached 6 rfl) rfl rfl rfl ?_
    refine gi_callv 2 (q := 16) C (dm_H_reached 7 rfl) rfl my_Pr_hasPlace lk_H_126 im_Pr_hasPlace rfl (c_Pr_hasPlace m q W.k8 HP) HP.1 rfl rfl ⟨(Nat.le_of_ble_eq_true rfl), (Nat.le_of_ble_eq_true rfl)⟩ (Nat.le_of_ble_eq_true rfl) ⟨(Nat.le_of_ble_eq_true rfl), (Nat.le_of_ble_eq_true rfl)⟩ (fun r13 n13 h13 e13 => ?_)
    obtain ⟨rfl, q13, u13⟩ := e13
    rw [q13, u13]
    refine gi_if_eq (q := 19) (tgt := 38) C (dm_H_reached 8 rfl) rfl (by decide) (fun c16 => ?_) (fun c16 => ?_)
    · refine gi_iconst (q := 39) (v := 0) C (dm_H_reached 18 rfl) rfl (by decide) ?_
      refine gi_zret C hr (dm_H_reached 19 rfl) rfl ?_
      refine ⟨?_, rfl, rfl⟩
      unfold rcV
      first
        | (rw [bI_fa c16]; rfl)
        | (rw [ip, ep, Bool.true_and, bI_t (b := (F (60 * a + b)).told) (by rw [← RR.1]; exact c31)]; rfl)
        | (rw [ip, ep, Bool.true_and, bI_fa (b := (F (60 * a + b)).told) (by rw [← RR.1]; exact c31)]; rfl)
    · have ip := bI_t c16
      obtain ⟨a, b, ha, hb, hb60, rfl, rfl, ep⟩ := isP_ex W ip
      have RO := HC.2.2.2.2.2.2 (60 * a + b) (by omega)
      have RR := R (60 * a + b) (by omega)
      refine gi_aload_n (q := 20) (i := 0) C (dm_H_reached 9 rfl) rfl rfl rfl ?_
      refine gi_get (q := 23) C (dm_H_reached 10 rfl) rfl fl_H_28 HX0 rfl ?_
      refine gi_iload_n (q := 24) (i := 1) C (dm_H_reached 11 rfl) rfl rfl rfl ?_
      refine gi_iload_n (q := 25) (i := 2) C (dm_H_reached 12 rfl) rfl rfl rfl ?_
      refine gi_callv 2 (q := 28) C (dm_H_reached 13 rfl) rfl my_Fa_stateAt lk_H_130 im_Fa_stateAt rfl (c_Fa_stateAt (m := a) (i := b) (by omega) hb60 HC) HC.1 rfl rfl ⟨(Nat.le_of_ble_eq_true rfl), (Nat.le_of_ble_eq_true rfl)⟩ (Nat.le_of_ble_eq_true rfl) ⟨(Nat.le_of_ble_eq_true rfl), (Nat.le_of_ble_eq_true rfl)⟩ (fun r25 n25 h25 e25 => ?_)
      obtain ⟨rfl, q25, u25⟩ := e25
      rw [q25, u25]
      skip
      refine gi_get (q := 31) C (dm_H_reached 14 rfl) rfl fl_H_134 (RO.1) rfl ?_
      refine gi_if_eq (q := 34) (tgt := 38) C (dm_H_reached 15 rfl) rfl (by decide) (fun c31 => ?_) (fun c31 => ?_)
      · refine gi_iconst (q := 39) (v := 0) C (dm_H_reached 18 rfl) rfl (by decide) ?_
        refine gi_zret C hr (dm_H_reached 19 rfl) rfl ?_
        refine ⟨?_, rfl, rfl⟩
        unfold rcV
        first
          | (rw [bI_fa c16]; rfl)
          | (rw [ip, ep, Bool.true_and, bI_t (b := (F (60 * a + b)).told) (by rw [← RR.1]; exact c31)]; rfl)
          | (rw [ip, ep, Bool.true_and, bI_fa (b := (F (60 * a + b)).told) (by rw [← RR.1]; exact c31)]; rfl)
      · refine gi_iconst (q := 35) (v := 1) C (dm_H_reached 16 rfl) rfl (by decide) ?_
        refine gi_goto (tgt := 39) C (dm_H_reached 17 rfl) (by decide) ?_
        refine gi_zret C hr (dm_H_reached 19 rfl) rfl ?_
        refine ⟨?_, rfl, rfl⟩
        unfold rcV
        first
          | (rw [bI_fa c16]; rfl)
          | (rw [ip, ep, Bool.true_and, bI_t (b := (F (60 * a + b)).told) (by rw [← RR.1]; exact c31)]; rfl)
          | (rw [ip, ep, Bool.true_and, bI_fa (b := (F (60 * a + b)).told) (by rw [← RR.1]; exact c31)]; rfl)
set_option maxHeartbeats 4000000 in
set_option maxRecDepth 100000 in
theorem c_H_indexOf (a : Nat) (sl : Int32) (W : wfP k P) (ha : a < k) (Hw : CW X k P F Φ ct cr h) : gi_T l V y_H_indexOf b_H_indexOf 4 (some .int) 2 42 0 0 [.ref X, .int (nI a), .int sl] n h (gi_is (some (.int (match ixS P a sl with | none => -1 | some j => nI j))) n h) := by
  refine gi_enter (by decide) (Nat.le_of_ble_eq_true rfl) ?_
  intro _ _ _ _ _ _ _ _ C hr hnm
  obtain ⟨HX, HP, HC, R⟩ := id Hw
  have HX0 := HX
  unfold hs_ob at HX0
  have w8 := W.k8
  have wa := wf_ar W ha
  refine gi_aload_n (q := 1) (i := 0) C (dm_H_indexOf 0 rfl) rfl rfl rfl ?_
  refine gi_get (q := 4) C (dm_H_indexOf 1 rfl) rfl fl_H_12 HX0 rfl ?_
  refine gi_iload_n (q := 5) (i := 1) C (dm_H_indexOf 2 rfl) rfl rfl rfl ?_
  refine gi_callv 1 (q := 8) C (dm_H_indexOf 3 rfl) rfl my_Pr_localsOf lk_H_236 im_Pr_localsOf rfl (q_locals W ha HP) HP.1 rfl rfl ⟨(Nat.le_of_ble_eq_true rfl), (Nat.le_of_ble_eq_true rfl)⟩ (Nat.le_of_ble_eq_true rfl) ⟨(Nat.le_of_ble_eq_true rfl), (Nat.le_of_ble_eq_true rfl)⟩ (fun r5 n5 h5 e5 => ?_)
  obtain ⟨rfl, q5, u5⟩ := e5
  rw [q5, u5]
  refine gi_istore_n (q := 9) (i := 3) C (dm_H_indexOf 4 rfl) rfl rfl (Nat.le_of_ble_eq_true rfl) ?_
  refine gi_iload_n (q := 10) (i := 2) C (dm_H_indexOf 5 rfl) rfl rfl rfl ?_
  refine gi_if_lt (q := 13) (tgt := 20) C (dm_H_indexOf 6 rfl) rfl (by decide) (fun c10 => ?_) (fun c10 => ?_)
  · refine gi_iload_n (q := 21) (i := 2) C (dm_H_indexOf 12 rfl) rfl rfl rfl ?_
    refine gi_bipush (q := 23) (v := 10) C (dm_H_indexOf 13 rfl) rfl (by decide) ?_
    refine gi_icmp_lt (q := 26) (tgt := 39) C (dm_H_indexOf 14 rfl) rfl (by decide) (fun c23 => ?_) (fun c23 => ?_)
    · refine gi_iconst (q := 40) (v := -1) C (dm_H_indexOf 24 rfl) rfl (by decide) ?_
      refine gi_iret C hr (dm_H_indexOf 25 rfl) ?_
      refine ⟨?_, rfl, rfl⟩
      unfold ixS
      have na : ¬ (0 ≤ sl.toInt ∧ sl.toInt < (pN P 2 a : Int)) := by
        rintro ⟨z1, z2⟩
        first
          | (rw [i_0] at c10; omega)
          | exact absurd ((i_lt (by omega)).mpr z2) (Int32.not_lt.mpr c15)
      rw [if_neg na, if_neg]
      rintro ⟨z1, z2⟩
      first
        | (have q : sl.toInt < 10 := (i_lt (x := 10) (by omega)).mp c23
           omega)
        | exact absurd ((i_lt (x := 18) (by omega)).mpr z2) (Int32.not_lt.mpr c29)
    · refine gi_iload_n (q := 27) (i := 2) C (dm_H_indexOf 15 rfl) rfl rfl rfl ?_
      refine gi_bipush (q := 29) (v := 18) C (dm_H_indexOf 16 rfl) rfl (by decide) ?_
      refine gi_icmp_ge (q := 32) (tgt := 39) C (dm_H_indexOf 17 rfl) rfl (by decide) (fun c29 => ?_) (fun c29 => ?_)
      · refine gi_iconst (q := 40) (v := -1) C (dm_H_indexOf 24 rfl) rfl (by decide) ?_
        refine gi_iret C hr (dm_H_indexOf 25 rfl) ?_
        refine ⟨?_, rfl, rfl⟩
        unfold ixS
        have na : ¬ (0 ≤ sl.toInt ∧ sl.toInt < (pN P 2 a : Int)) := by
          rintro ⟨z1, z2⟩
          first
            | (rw [i_0] at c10; omega)
            | exact absurd ((i_lt (by omega)).mpr z2) (Int32.not_lt.mpr c15)
        rw [if_neg na, if_neg]
        rintro ⟨z1, z2⟩
        first
          | (have q : sl.toInt < 10 := (i_lt (x := 10) (by omega)).mp c23
             omega)
          | exact absurd ((i_lt (x := 18) (by omega)).mpr z2) (Int32.not_lt.mpr c29)
      · refine gi_iload_n (q := 33) (i := 3) C (dm_H_indexOf 18 rfl) rfl rfl rfl ?_
        refine gi_iload_n (q := 34) (i := 2) C (dm_H_indexOf 19 rfl) rfl rfl rfl ?_
        refine gi_iadd (q := 35) C (dm_H_indexOf 20 rfl) rfl ?_
        refine gi_bipush (q := 37) (v := 10) C (dm_H_indexOf 21 rfl) rfl (by decide) ?_
        refine gi_isub (q := 38) C (dm_H_indexOf 22 rfl) rfl ?_
        refine gi_iret C hr (dm_H_indexOf 23 rfl) ?_
        have c23' : ¬ sl.toInt < 10 := fun z => c23 ((i_lt (x := 10) (by omega)).mpr z)
        have c29' : sl.toInt < 18 := (i_lt (x := 18) (by omega)).mp (Int32.not_le.mp c29)
        refine ⟨?_, rfl, rfl⟩
        unfold ixS
        have na : ¬ (0 ≤ sl.toInt ∧ sl.toInt < (pN P 2 a : Int)) := by omega
        rw [if_neg na, if_pos (by omega)]
        have sn := nn_nI (a := sl) (by omega)
        have e1 : nI (pN P 2 a) + nI sl.toNatClampNeg - 10 = nI (pN P 2 a + sl.toNatClampNeg - 10) := by
          rw [nI_add, show (10 : Int32) = nI 10 from rfl, pk_sub (by omega)]
        rw [← sn.1] at e1
        exact congrArg (fun x => some (Value.int x)) e1
  · refine gi_iload_n (q := 14) (i := 2) C (dm_H_indexOf 7 rfl) rfl rfl rfl ?_
    refine gi_iload_n (q := 15) (i := 3) C (dm_H_indexOf 8 rfl) rfl rfl rfl ?_
    refine gi_icmp_ge (q := 18) (tgt := 20) C (dm_H_indexOf 9 rfl) rfl (by decide) (fun c15 => ?_) (fun c15 => ?_)
    · refine gi_iload_n (q := 21) (i := 2) C (dm_H_indexOf 12 rfl) rfl rfl rfl ?_
      refine gi_bipush (q := 23) (v := 10) C (dm_H_indexOf 13 rfl) rfl (by decide) ?_
      refine gi_icmp_lt (q := 26) (tgt := 39) C (dm_H_indexOf 14 rfl) rfl (by decide) (fun c23 => ?_) (fun c23 => ?_)
      · refine gi_iconst (q := 40) (v := -1) C (dm_H_indexOf 24 rfl) rfl (by decide) ?_
        refine gi_iret C hr (dm_H_indexOf 25 rfl) ?_
        refine ⟨?_, rfl, rfl⟩
        unfold ixS
        have na : ¬ (0 ≤ sl.toInt ∧ sl.toInt < (pN P 2 a : Int)) := by
          rintro ⟨z1, z2⟩
          first
            | (rw [i_0] at c10; omega)
            | exact absurd ((i_lt (by omega)).mpr z2) (Int32.not_lt.mpr c15)
        rw [if_neg na, if_neg]
        rintro ⟨z1, z2⟩
        first
          | (have q : sl.toInt < 10 := (i_lt (x := 10) (by omega)).mp c23
             omega)
          | exact absurd ((i_lt (x := 18) (by omega)).mpr z2) (Int32.not_lt.mpr c29)
      · refine gi_iload_n (q := 27) (i := 2) C (dm_H_indexOf 15 rfl) rfl rfl rfl ?_
        refine gi_bipush (q := 29) (v := 18) C (dm_H_indexOf 16 rfl) rfl (by decide) ?_
        refine gi_icmp_ge (q := 32) (tgt := 39) C (dm_H_indexOf 17 rfl) rfl (by decide) (fun c29 => ?_) (fun c29 => ?_)
        · refine gi_iconst (q := 40) (v := -1) C (dm_H_indexOf 24 rfl) rfl (by decide) ?_
          refine gi_iret C hr (dm_H_indexOf 25 rfl) ?_
          refine ⟨?_, rfl, rfl⟩
          unfold ixS
          have na : ¬ (0 ≤ sl.toInt ∧ sl.toInt < (pN P 2 a : Int)) := by
            rintro ⟨z1, z2⟩
            first
              | (rw [i_0] at c10; omega)
              | exact absurd ((i_lt (by omega)).mpr z2) (Int32.not_lt.mpr c15)
          rw [if_neg na, if_neg]
          rintro ⟨z1, z2⟩
          first
            | (have q : sl.toInt < 10 := (i_lt (x := 10) (by omega)).mp c23
               omega)
            | exact absurd ((i_lt (x := 18) (by omega)).mpr z2) (Int32.not_lt.mpr c29)
        · refine gi_iload_n (q := 33) (i := 3) C (dm_H_indexOf 18 rfl) rfl rfl rfl ?_
          refine gi_iload_n (q := 34) (i := 2) C (dm_H_indexOf 19 rfl) rfl rfl rfl ?_
          refine gi_iadd (q := 35) C (dm_H_indexOf 20 rfl) rfl ?_
          refine gi_bipush (q := 37) (v := 10) C (dm_H_indexOf 21 rfl) rfl (by decide) ?_
          refine gi_isub (q := 38) C (dm_H_indexOf 22 rfl) rfl ?_
          refine gi_iret C hr (dm_H_indexOf 23 rfl) ?_
          have c23' : ¬ sl.toInt < 10 := fun z => c23 ((i_lt (x := 10) (by omega)).mpr z)
          have c29' : sl.toInt < 18 := (i_lt (x := 18) (by omega)).mp (Int32.not_le.mp c29)
          refine ⟨?_, rfl, rfl⟩
          unfold ixS
          have na : ¬ (0 ≤ sl.toInt ∧ sl.toInt < (pN P 2 a : Int)) := by omega
          rw [if_neg na, if_pos (by omega)]
          have sn := nn_nI (a := sl) (by omega)
          have e1 : nI (pN P 2 a) + nI sl.toNatClampNeg - 10 = nI (pN P 2 a + sl.toNatClampNeg - 10) := by
            rw [nI_add, show (10 : Int32) = nI 10 from rfl, pk_sub (by omega)]
          rw [← sn.1] at e1
          exact congrArg (fun x => some (Value.int x)) e1
    · refine gi_iload_n (q := 19) (i := 2) C (dm_H_indexOf 10 rfl) rfl rfl rfl ?_
      refine gi_iret C hr (dm_H_indexOf 11 rfl) ?_
      rw [i_0] at c10
      rw [← Int32.not_lt, i_lt (by omega)] at c15
      refine ⟨?_, rfl, rfl⟩
      unfold ixS
      rw [if_pos (by omega)]
      exact congrArg (fun x => some (Value.int x)) (nn_nI (by omega)).1
theorem ixS_b {a j : Nat} {sl : Int32} (wa : pN P 2 a ≤ 6) (e : ixS P a sl = some j) : j < 14 := by
  unfold ixS at e
  have := sl.toInt_lt
  split at e
  · cases e
    rename_i z
    have := nn_nI z.1
    omega
  · split at e
    · cases e
      rename_i z
      have := nn_nI (a := sl) (by omega)
      omega
    · cases e
set_option maxHeartbeats 4000000 in
set_option maxRecDepth 100000 in
theorem c_H_told (m q sl : Int32) (W : wfP k P) (Hw : CW X k P F Φ 1 cr h) : gi_T l V y_H_told b_H_told 6 (some (.object "AnalysisHouse$Value")) 3 65 0 0 [.ref X, .int m, .int q, .int sl] n h (gi_is (some (tdR Φ m q (tdx k P F m q sl))) n h) := by
  refine gi_enter (by decide) (Nat.le_of_ble_eq_true rfl) ?_
  intro _ _ _ _ _ _ _ _ C hr hnm
  obtain ⟨HX, HP, HC, R⟩ := id Hw
  have HX0 := HX
  unfold hs_ob at HX0
  have w8 := W.k8
  refine gi_aload_n (q := 1) (i := 0) C (dm_H_told 0 rfl) rfl rfl rfl ?_
  refine gi_iload_n (q := 2) (i := 1) C (dm_H_told 1 rfl) rfl rfl rfl ?_
  refine gi_iload_n (q := 3) (i := 2) C (dm_H_told 2 rfl) rfl rfl rfl ?_
  refine gi_callv 2 (q := 6) C (dm_H_told 3 rfl) rfl my_H_reached lk_H_204 im_H_reached rfl (c_H_reached m q W Hw) HX0 rfl rfl ⟨(Nat.le_of_ble_eq_true rfl), (Nat.le_of_ble_eq_true rfl)⟩ (Nat.le_of_ble_eq_true rfl) ⟨(Nat.le_of_ble_eq_true rfl), (Nat.le_of_ble_eq_true rfl)⟩ (fun r3 n3 h3 e3 => ?_)
  obtain ⟨rfl, q3, u3⟩ := e3
  rw [q3, u3]
  refine gi_if_ne (q := 9) (tgt := 11) C (dm_H_told 4 rfl) rfl (by decide) (fun c6 => ?_) (fun c6 => ?_)
  · have rc := bI_t c6
    have ip : isP k P m q = true := by
      unfold rcV at rc
      rw [Bool.and_eq_true] at rc
      exact rc.1
    obtain ⟨a, b, ha, hb, hb60, em, eq, ep⟩ := isP_ex W ip
    have tl : (F (60 * a + b)).told = true := by
      unfold rcV at rc
      rw [Bool.and_eq_true, ep] at rc
      exact rc.2
    have RO := HC.2.2.2.2.2.2 (60 * a + b) (by omega)
    have RR := R (60 * a + b) (by omega)
    have RG := RR.2.2 tl
    have rcp : fa_cap (60 * a + b) = 14 := cap_st (by omega)
    rw [rcp] at RO RR RG
    have mc : m.toNatClampNeg = a := by rw [em, nI_clamp (by omega)]
    rw [em, eq]
    refine gi_aload_n (q := 12) (i := 0) C (dm_H_told 7 rfl) rfl rfl rfl ?_
    refine gi_get (q := 15) C (dm_H_told 8 rfl) rfl fl_H_28 HX0 rfl ?_
    refine gi_iload_n (q := 16) (i := 1) C (dm_H_told 9 rfl) rfl rfl rfl ?_
    refine gi_iload_n (q := 17) (i := 2) C (dm_H_told 10 rfl) rfl rfl rfl ?_
    refine gi_callv 2 (q := 20) C (dm_H_told 11 rfl) rfl my_Fa_stateAt lk_H_130 im_Fa_stateAt rfl (c_Fa_stateAt (m := a) (i := b) (by omega) hb60 HC) HC.1 rfl rfl ⟨(Nat.le_of_ble_eq_true rfl), (Nat.le_of_ble_eq_true rfl)⟩ (Nat.le_of_ble_eq_true rfl) ⟨(Nat.le_of_ble_eq_true rfl), (Nat.le_of_ble_eq_true rfl)⟩ (fun r17 n17 h17 e17 => ?_)
    obtain ⟨rfl, q17, u17⟩ := e17
    rw [q17, u17]
    refine gi_astore (q := 22) C (dm_H_told 12 rfl) rfl (Nat.le_of_ble_eq_true rfl) ?_
    refine gi_aload_n (q := 23) (i := 0) C (dm_H_told 13 rfl) rfl rfl rfl ?_
    refine gi_iload_n (q := 24) (i := 1) C (dm_H_told 14 rfl) rfl rfl rfl ?_
    refine gi_iload_n (q := 25) (i := 3) C (dm_H_told 15 rfl) rfl rfl rfl ?_
    refine gi_callv 2 (q := 28) C (dm_H_told 16 rfl) rfl my_H_indexOf lk_H_144 im_H_indexOf rfl (c_H_indexOf a sl W ha Hw) HX0 rfl rfl ⟨(Nat.le_of_ble_eq_true rfl), (Nat.le_of_ble_eq_true rfl)⟩ (Nat.le_of_ble_eq_true rfl) ⟨(Nat.le_of_ble_eq_true rfl), (Nat.le_of_ble_eq_true rfl)⟩ (fun r25 n25 h25 e25 => ?_)
    obtain ⟨rfl, q25, u25⟩ := e25
    rw [q25, u25]
    have wa := wf_ar W ha
    cases ei : ixS P a sl
    · refine gi_istore (q := 30) C (dm_H_told 17 rfl) rfl (Nat.le_of_ble_eq_true rfl) ?_
      refine gi_iload (q := 32) C (dm_H_told 18 rfl) rfl rfl ?_
      refine gi_iconst (q := 33) (v := -1) C (dm_H_told 19 rfl) rfl (by decide) ?_
      refine gi_icmp_eq (q := 36) (tgt := 46) C (dm_H_told 20 rfl) rfl (by decide) (fun c33 => ?_) (fun c33 => ?_)
      · refine gi_null (q := 47) C (dm_H_told 25 rfl) rfl ?_
        refine gi_goto (tgt := 57) C (dm_H_told 26 rfl) (by decide) ?_
        refine gi_aret C hr (Or.inl ⟨_, rfl⟩) (Or.inl rfl) (dm_H_told 30 rfl) ?_
        rw [← em, ← eq]
        refine ⟨?_, rfl, rfl⟩
        rw [show tdx k P F m q sl = none from ?_]
        · rfl
        unfold tdx
        rw [if_pos rc, mc, ei]
      · exact absurd rfl c33
    · rename_i j
      have jb : j < 14 := ixS_b wa.2.1 ei
      refine gi_istore (q := 30) C (dm_H_told 17 rfl) rfl (Nat.le_of_ble_eq_true rfl) ?_
      refine gi_iload (q := 32) C (dm_H_told 18 rfl) rfl rfl ?_
      refine gi_iconst (q := 33) (v := -1) C (dm_H_told 19 rfl) rfl (by decide) ?_
      refine gi_icmp_eq (q := 36) (tgt := 46) C (dm_H_told 20 rfl) rfl (by decide) (fun c33 => ?_) (fun c33 => ?_)
      · exact absurd c33 (nI_m1ne (by omega))
      · refine gi_iload (q := 38) C (dm_H_told 21 rfl) rfl rfl ?_
        refine gi_aload (q := 40) C (dm_H_told 22 rfl) rfl rfl ?_
        refine gi_get (q := 43) C (dm_H_told 23 rfl) rfl fl_H_187 RO.1 rfl ?_
        rw [RG.1.1]
        refine gi_icmp_lt (q := 46) (tgt := 50) C (dm_H_told 24 rfl) rfl (by decide) (fun c43 => ?_) (fun c43 => ?_)
        · have jn : j < (F (60 * a + b)).n := (nI_ltI (by omega) (by have := RG.2; omega)).mp c43
          refine gi_aload (q := 52) C (dm_H_told 27 rfl) rfl rfl ?_
          refine gi_iload (q := 54) C (dm_H_told 28 rfl) rfl rfl ?_
          refine gi_callv 1 (q := 57) C (dm_H_told 29 rfl) rfl my_Ro_valueAt lk_H_173 im_Ro_valueAt rfl (c_Ro_valueAt (j := j) jb (by omega) RO) RO.1 rfl rfl ⟨(Nat.le_of_ble_eq_true rfl), (Nat.le_of_ble_eq_true rfl)⟩ (Nat.le_of_ble_eq_true rfl) ⟨(Nat.le_of_ble_eq_true rfl), (Nat.le_of_ble_eq_true rfl)⟩ (fun r54 n54 h54 e54 => ?_)
          obtain ⟨rfl, q54, u54⟩ := e54
          rw [q54, u54]
          refine gi_aret C hr (Or.inl ⟨_, rfl⟩) (Or.inr ⟨_, rfl⟩) (dm_H_told 30 rfl) ?_
          rw [← em, ← eq]
          refine ⟨?_, rfl, rfl⟩
          rw [show tdx k P F m q sl = some j from ?_]
          · unfold tdR
            rw [ep]
          unfold tdx
          rw [if_pos rc, mc, ei]
          dsimp only
          rw [ep, if_pos jn]
        · refine gi_null (q := 47) C (dm_H_told 25 rfl) rfl ?_
          refine gi_goto (tgt := 57) C (dm_H_told 26 rfl) (by decide) ?_
          refine gi_aret C hr (Or.inl ⟨_, rfl⟩) (Or.inl rfl) (dm_H_told 30 rfl) ?_
          rw [← em, ← eq]
          refine ⟨?_, rfl, rfl⟩
          rw [show tdx k P F m q sl = none from ?_]
          · rfl
          unfold tdx
          have jn : ¬ j < (F (60 * a + b)).n := fun z => c43 (nI_lt z (by have := RG.2; omega))
          rw [if_pos rc, mc, ei]
          dsimp only
          rw [ep, if_neg jn]
  · refine gi_null (q := 10) C (dm_H_told 5 rfl) rfl ?_
    refine gi_aret C hr (Or.inl ⟨_, rfl⟩) (Or.inl rfl) (dm_H_told 6 rfl) ?_
    refine ⟨?_, rfl, rfl⟩
    rw [show tdx k P F m q sl = none from ?_]
    · rfl
    unfold tdx
    rw [if_neg (by rw [bI_fa c6]; decide)]
theorem rv_at {r k j : Nat} {R : mR} {h : gi_H} (H : ro_at r k R h) (hj : j < k) : h (R.1 j) = some (eV (R.2.2.2.2.1 j)) := (H.2.2.2.1 j hj).2.2
set_option maxHeartbeats 4000000 in
set_option maxRecDepth 100000 in
theorem c_H_state (m q sl wh : Int32) (W : wfP k P) (Hw : CW X k P F Φ 1 cr h) : gi_T l V y_H_state b_H_state 6 (some .long) 4 90 0 0 [.ref X, .int m, .int q, .int sl, .int wh] n h (gi_is (some (.long (stQ k P F m q sl wh))) n h) := by
  refine gi_enter (by decide) (Nat.le_of_ble_eq_true rfl) ?_
  intro _ _ _ _ _ _ _ _ C hr hnm
  obtain ⟨HX, HP, HC, R⟩ := id Hw
  have HX0 := HX
  unfold hs_ob at HX0
  have w8 := W.k8
  refine gi_aload_n (q := 1) (i := 0) C (dm_H_state 0 rfl) rfl rfl rfl ?_
  refine gi_iload_n (q := 2) (i := 1) C (dm_H_state 1 rfl) rfl rfl rfl ?_
  refine gi_iload_n (q := 3) (i := 2) C (dm_H_state 2 rfl) rfl rfl rfl ?_
  refine gi_iload_n (q := 4) (i := 3) C (dm_H_state 3 rfl) rfl rfl rfl ?_
  refine gi_callv 3 (q := 7) C (dm_H_state 4 rfl) rfl my_H_told lk_H_139 im_H_told rfl (c_H_told m q sl W Hw) HX0 rfl rfl ⟨(Nat.le_of_ble_eq_true rfl), (Nat.le_of_ble_eq_true rfl)⟩ (Nat.le_of_ble_eq_true rfl) ⟨(Nat.le_of_ble_eq_true rfl), (Nat.le_of_ble_eq_true rfl)⟩ (fun r4 n4 h4 e4 => ?_)
  obtain ⟨rfl, q4, u4⟩ := e4
  rw [q4, u4]
  cases e0 : tdx k P F m q sl
  · refine gi_astoreN (q := 9) C (dm_H_state 5 rfl) rfl (Nat.le_of_ble_eq_true rfl) ?_
    refine gi_aloadN (q := 11) C (dm_H_state 6 rfl) rfl rfl ?_
    refine gi_ifnonnullN (q := 14) C (dm_H_state 7 rfl) rfl ?_
    refine gi_ldc2 (q := 17) C (dm_H_state 8 rfl) rfl kc_H_142 ?_
    refine gi_lret C hr (dm_H_state 9 rfl) ?_
    unfold stQ
    rw [e0]
    exact ⟨rfl, rfl, rfl⟩
  · rename_i j
    obtain ⟨rc, j0, ei, jn⟩ : rcV k P F m q = true ∧ ∃ j0, ixS P m.toNatClampNeg sl = some j0 ∧ j0 < (F (pq m q)).n ∧ j0 = j := by
      unfold tdx at e0
      split at e0
      · rename_i rc
        refine ⟨rc, ?_⟩
        cases ei : ixS P m.toNatClampNeg sl with
        | none => rw [ei] at e0; cases e0
        | some j1 =>
          rw [ei] at e0
          dsimp only at e0
          split at e0
          · rename_i z
            exact ⟨j1, rfl, z, Option.some.inj e0⟩
          · cases e0
      · cases e0
    obtain ⟨jn, rfl⟩ := jn
    have rc' := rc
    unfold rcV at rc'
    rw [Bool.and_eq_true] at rc'
    obtain ⟨a, b, ha, hb, hb60, rfl, rfl, ep⟩ := isP_ex W rc'.1
    have tl := rc'.2
    rw [ep] at tl jn
    have wa := wf_ar W ha
    have RO := HC.2.2.2.2.2.2 (60 * a + b) (by omega)
    have RR := R (60 * a + b) (by omega)
    have RG := RR.2.2 tl
    have rcp : fa_cap (60 * a + b) = 14 := cap_st (by omega)
    rw [rcp] at RO RR RG
    have mc : (nI a).toNatClampNeg = a := nI_clamp (by omega)
    rw [mc] at ei
    have jb : j0 < 14 := ixS_b wa.2.1 ei
    rw [show tdR Φ (nI a) (nI b) (some j0) = Value.ref ((Φ (60 * a + b)).1 j0) from by unfold tdR; rw [ep]]
    refine gi_astore (q := 9) C (dm_H_state 5 rfl) rfl (Nat.le_of_ble_eq_true rfl) ?_
    refine gi_aload (q := 11) C (dm_H_state 6 rfl) rfl rfl ?_
    refine gi_ifnonnull (tgt := 18) C (dm_H_state 7 rfl) (by decide) ?_
    refine gi_iload (q := 20) C (dm_H_state 10 rfl) rfl rfl ?_
    refine gi_iconst (q := 21) (v := 5) C (dm_H_state 11 rfl) rfl (by decide) ?_
    refine gi_icmp_ne (q := 24) (tgt := 56) C (dm_H_state 12 rfl) rfl (by decide) (fun c21 => ?_) (fun c21 => ?_)
    · refine gi_aload (q := 58) C (dm_H_state 30 rfl) rfl rfl ?_
      refine gi_iload (q := 60) C (dm_H_state 31 rfl) rfl rfl ?_
      refine gi_callv 1 (q := 63) C (dm_H_state 32 rfl) rfl my_Va_part lk_H_151 im_Va_part rfl (c_Va_part _ _ wh (rv_at RO jb)) (rv_at RO jb) rfl rfl ⟨(Nat.le_of_ble_eq_true rfl), (Nat.le_of_ble_eq_true rfl)⟩ (Nat.le_of_ble_eq_true rfl) ⟨(Nat.le_of_ble_eq_true rfl), (Nat.le_of_ble_eq_true rfl)⟩ (fun r60 n60 h60 e60 => ?_)
      obtain ⟨rfl, q60, u60⟩ := e60
      rw [q60, u60]
      refine gi_lret C hr (dm_H_state 33 rfl) ?_
      unfold stQ
      rw [e0]
      dsimp only
      rw [if_neg c21, ep, (RG.1.2 j0 jn).1]
      exact ⟨rfl, rfl, rfl⟩
    · refine gi_iload_n (q := 25) (i := 3) C (dm_H_state 13 rfl) rfl rfl rfl ?_
      refine gi_bipush (q := 27) (v := 10) C (dm_H_state 14 rfl) rfl (by decide) ?_
      refine gi_icmp_ge (q := 30) (tgt := 36) C (dm_H_state 15 rfl) rfl (by decide) (fun c27 => ?_) (fun c27 => ?_)
      · refine gi_aload_n (q := 37) (i := 0) C (dm_H_state 18 rfl) rfl rfl rfl ?_
        refine gi_get (q := 40) C (dm_H_state 19 rfl) rfl fl_H_28 HX0 rfl ?_
        refine gi_iload_n (q := 41) (i := 1) C (dm_H_state 20 rfl) rfl rfl rfl ?_
        refine gi_iload_n (q := 42) (i := 2) C (dm_H_state 21 rfl) rfl rfl rfl ?_
        refine gi_callv 2 (q := 45) C (dm_H_state 22 rfl) rfl my_Fa_stateAt lk_H_130 im_Fa_stateAt rfl (c_Fa_stateAt (m := a) (i := b) (by omega) hb60 HC) HC.1 rfl rfl ⟨(Nat.le_of_ble_eq_true rfl), (Nat.le_of_ble_eq_true rfl)⟩ (Nat.le_of_ble_eq_true rfl) ⟨(Nat.le_of_ble_eq_true rfl), (Nat.le_of_ble_eq_true rfl)⟩ (fun r42 n42 h42 e42 => ?_)
        obtain ⟨rfl, q42, u42⟩ := e42
        rw [q42, u42]
        refine gi_aload_n (q := 46) (i := 0) C (dm_H_state 23 rfl) rfl rfl rfl ?_
        refine gi_iload_n (q := 47) (i := 1) C (dm_H_state 24 rfl) rfl rfl rfl ?_
        refine gi_iload_n (q := 48) (i := 3) C (dm_H_state 25 rfl) rfl rfl rfl ?_
        refine gi_callv 2 (q := 51) C (dm_H_state 26 rfl) rfl my_H_indexOf lk_H_144 im_H_indexOf rfl (c_H_indexOf a sl W ha Hw) HX0 rfl rfl ⟨(Nat.le_of_ble_eq_true rfl), (Nat.le_of_ble_eq_true rfl)⟩ (Nat.le_of_ble_eq_true rfl) ⟨(Nat.le_of_ble_eq_true rfl), (Nat.le_of_ble_eq_true rfl)⟩ (fun r48 n48 h48 e48 => ?_)
        obtain ⟨rfl, q48, u48⟩ := e48
        rw [q48, u48]
        rw [ei]
        refine gi_callv 1 (q := 54) C (dm_H_state 27 rfl) rfl my_Ro_markAt lk_H_148 im_Ro_markAt rfl (c_Ro_markAt (j := j0) jb (by omega) RO) RO.1 rfl rfl ⟨(Nat.le_of_ble_eq_true rfl), (Nat.le_of_ble_eq_true rfl)⟩ (Nat.le_of_ble_eq_true rfl) ⟨(Nat.le_of_ble_eq_true rfl), (Nat.le_of_ble_eq_true rfl)⟩ (fun r51 n51 h51 e51 => ?_)
        obtain ⟨rfl, q51, u51⟩ := e51
        rw [q51, u51]
        refine gi_i2l (q := 55) C (dm_H_state 28 rfl) rfl ?_
        refine gi_lret C hr (dm_H_state 29 rfl) ?_
        unfold stQ
        rw [e0]
        dsimp only
        rw [if_pos c21]
        first
          | (rw [if_pos (Int32.not_le.mp c27)]; exact ⟨rfl, rfl, rfl⟩)
          | (rw [if_neg (Int32.not_lt.mpr c27), ep, (RG.1.2 j0 jn).2]; exact ⟨rfl, rfl, rfl⟩)
      · refine gi_ldc2 (q := 33) C (dm_H_state 16 rfl) rfl kc_H_142 ?_
        refine gi_goto (tgt := 55) C (dm_H_state 17 rfl) (by decide) ?_
        refine gi_lret C hr (dm_H_state 29 rfl) ?_
        unfold stQ
        rw [e0]
        dsimp only
        rw [if_pos c21]
        first
          | (rw [if_pos (Int32.not_le.mp c27)]; exact ⟨rfl, rfl, rfl⟩)
          | (rw [if_neg (Int32.not_lt.mpr c27), ep, (RG.1.2 j0 jn).2]; exact ⟨rfl, rfl, rfl⟩)
end Q1
