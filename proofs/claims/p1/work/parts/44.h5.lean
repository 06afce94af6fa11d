section H5
variable {l : Launch} {V : gi_V} {n : Nat} {h : gi_H} {X a k c : Nat} {cr ct : Int32} {S S' : Nat → Int32} {F P F' : Nat → Nat → Int32}
def okP (c : Nat) (F : Nat → Nat → Int32) (x y : Int32) : Prop := (0 ≤ x ∧ x < nI c) ∧ F 1 x.toNatClampNeg = 1 ∧ 0 ≤ y ∧ y < F 2 x.toNatClampNeg
/-- what is given as an array is 0 .. 200 long -/
def gvL (c : Nat) (F : Nat → Nat → Int32) : Prop := ∀ j, j < c → F 1 j = 1 → ∃ z : Nat, z ≤ 200 ∧ F 2 j = nI z
def gv_put (F : Nat → Nat → Int32) (x y z : Int32) : Nat → Nat → Int32 := fun j => match j with
  | 3 => upd (F 3) (x * 200 + y).toNatClampNeg z
  | _ => F j
theorem okP_in {c : Nat} {F : Nat → Nat → Int32} {x y : Int32} (hc : c ≤ 3) (hL : gvL c F) (h : okP c F x y) : ∃ j i : Nat, j < c ∧ x = nI j ∧ i < 200 ∧ y = nI i := by
  obtain ⟨⟨h1, h2⟩, h3, h4, h5⟩ := h
  obtain ⟨j, hj, rfl⟩ := vp_in_of (in_nI h1 h2 (Nat.le_refl c) (by omega)) (by omega)
  rw [nI_clamp (by omega)] at h3 h5
  obtain ⟨z, hz, e⟩ := hL j hj h3
  rw [e] at h5
  obtain ⟨i, hi, rfl⟩ := vp_in_of (in_nI h4 h5 (Nat.le_refl z) (by omega)) (by omega)
  exact ⟨j, i, hj, rfl, by omega, rfl⟩
set_option maxHeartbeats 4000000 in
set_option maxRecDepth 100000 in
theorem c_Gi_put (x y z : Int32) (hc : c ≤ 3) (hS : S 0 = nI c) (hL : gvL c F) (H : gv_at a S F h) : gi_T l V y_Gi_put b_Gi_put 4 (some .int) 0 0 0 0 [.ref a, .int x, .int y, .int z] n h (fun v n' h' => n' = n ∧ out4 a h h' ∧ ((okP c F x y ∧ v = some (.int 1) ∧ gv_at a S (gv_put F x y z) h') ∨ (¬ okP c F x y ∧ v = some (.int (-1)) ∧ h' = h))) := by
  refine gi_enter (by decide) (Nat.le_of_ble_eq_true rfl) ?_
  intro _ _ _ _ _ _ _ _ C hr hnm
  obtain ⟨G0, G1, G2, G3⟩ := id H
  refine gi_iload_n (q := 1) (i := 1) C (dm_Gi_put 0 rfl) rfl rfl rfl ?_
  refine gi_if_lt (q := 4) (tgt := 36) C (dm_Gi_put 1 rfl) rfl (by decide) (fun c1 => ?_) (fun c1 => ?_)
  · refine gi_iconst (q := 37) (v := -1) C (dm_Gi_put 20 rfl) rfl (by decide) ?_
    refine gi_iret C hr (dm_Gi_put 21 rfl) ?_
    refine ⟨rfl, fun _ _ => rfl, Or.inr ⟨fun q => ?_, rfl, rfl⟩⟩
    obtain ⟨⟨q1, q2⟩, q3, q4, q5⟩ := q
    rw [← hS] at q2
    first
      | exact absurd q1 (Int32.not_le.mpr c1)
      | exact absurd q2 (Int32.not_lt.mpr c9)
      | exact absurd q3 c19
      | exact absurd q4 (Int32.not_le.mpr c23)
      | exact absurd q5 c33
  · refine gi_iload_n (q := 5) (i := 1) C (dm_Gi_put 2 rfl) rfl rfl rfl ?_
    refine gi_aload_n (q := 6) (i := 0) C (dm_Gi_put 3 rfl) rfl rfl rfl ?_
    refine gi_get (q := 9) C (dm_Gi_put 4 rfl) rfl fl_Gi_21 (by repeat (first | exact gi_up_self _ _ _ | assumption | rw [gi_up_ne (by omega)])) rfl ?_
    refine gi_icmp_ge (q := 12) (tgt := 36) C (dm_Gi_put 5 rfl) rfl (by decide) (fun c9 => ?_) (fun c9 => ?_)
    · refine gi_iconst (q := 37) (v := -1) C (dm_Gi_put 20 rfl) rfl (by decide) ?_
      refine gi_iret C hr (dm_Gi_put 21 rfl) ?_
      refine ⟨rfl, fun _ _ => rfl, Or.inr ⟨fun q => ?_, rfl, rfl⟩⟩
      obtain ⟨⟨q1, q2⟩, q3, q4, q5⟩ := q
      rw [← hS] at q2
      first
        | exact absurd q1 (Int32.not_le.mpr c1)
        | exact absurd q2 (Int32.not_lt.mpr c9)
        | exact absurd q3 c19
        | exact absurd q4 (Int32.not_le.mpr c23)
        | exact absurd q5 c33
    · refine gi_aload_n (q := 13) (i := 0) C (dm_Gi_put 6 rfl) rfl rfl rfl ?_
      refine gi_get (q := 16) C (dm_Gi_put 7 rfl) rfl fl_Gi_9 (by repeat (first | exact gi_up_self _ _ _ | assumption | rw [gi_up_ne (by omega)])) rfl ?_
      refine gi_iload_n (q := 17) (i := 1) C (dm_Gi_put 8 rfl) rfl rfl rfl ?_
      refine gi_iald (q := 18) C (dm_Gi_put 9 rfl) rfl rfl (by repeat (first | exact gi_up_self _ _ _ | assumption | rw [gi_up_ne (by omega)])) (by rw [hS] at c9; exact in_nI (Int32.not_lt.mp c1) (Int32.not_le.mp c9) hc (by omega)) ?_
      refine gi_iconst (q := 19) (v := 1) C (dm_Gi_put 10 rfl) rfl (by decide) ?_
      refine gi_icmp_ne (q := 22) (tgt := 36) C (dm_Gi_put 11 rfl) rfl (by decide) (fun c19 => ?_) (fun c19 => ?_)
      · refine gi_iconst (q := 37) (v := -1) C (dm_Gi_put 20 rfl) rfl (by decide) ?_
        refine gi_iret C hr (dm_Gi_put 21 rfl) ?_
        refine ⟨rfl, fun _ _ => rfl, Or.inr ⟨fun q => ?_, rfl, rfl⟩⟩
        obtain ⟨⟨q1, q2⟩, q3, q4, q5⟩ := q
        rw [← hS] at q2
        first
          | exact absurd q1 (Int32.not_le.mpr c1)
          | exact absurd q2 (Int32.not_lt.mpr c9)
          | exact absurd q3 c19
          | exact absurd q4 (Int32.not_le.mpr c23)
          | exact absurd q5 c33
      · refine gi_iload_n (q := 23) (i := 2) C (dm_Gi_put 12 rfl) rfl rfl rfl ?_
        refine gi_if_lt (q := 26) (tgt := 36) C (dm_Gi_put 13 rfl) rfl (by decide) (fun c23 => ?_) (fun c23 => ?_)
        · refine gi_iconst (q := 37) (v := -1) C (dm_Gi_put 20 rfl) rfl (by decide) ?_
          refine gi_iret C hr (dm_Gi_put 21 rfl) ?_
          refine ⟨rfl, fun _ _ => rfl, Or.inr ⟨fun q => ?_, rfl, rfl⟩⟩
          obtain ⟨⟨q1, q2⟩, q3, q4, q5⟩ := q
          rw [← hS] at q2
          first
            | exact absurd q1 (Int32.not_le.mpr c1)
            | exact absurd q2 (Int32.not_lt.mpr c9)
            | exact absurd q3 c19
            | exact absurd q4 (Int32.not_le.mpr c23)
            | exact absurd q5 c33
        · refine gi_iload_n (q := 27) (i := 2) C (dm_Gi_put 14 rfl) rfl rfl rfl ?_
          refine gi_aload_n (q := 28) (i := 0) C (dm_Gi_put 15 rfl) rfl rfl rfl ?_
          refine gi_get (q := 31) C (dm_Gi_put 16 rfl) rfl fl_Gi_15 (by repeat (first | exact gi_up_self _ _ _ | assumption | rw [gi_up_ne (by omega)])) rfl ?_
          refine gi_iload_n (q := 32) (i := 1) C (dm_Gi_put 17 rfl) rfl rfl rfl ?_
          refine gi_iald (q := 33) C (dm_Gi_put 18 rfl) rfl rfl (by repeat (first | exact gi_up_self _ _ _ | assumption | rw [gi_up_ne (by omega)])) (by rw [hS] at c9; exact in_nI (Int32.not_lt.mp c1) (Int32.not_le.mp c9) hc (by omega)) ?_
          refine gi_icmp_lt (q := 36) (tgt := 38) C (dm_Gi_put 19 rfl) rfl (by decide) (fun c33 => ?_) (fun c33 => ?_)
          · have hok : okP c F x y := ⟨⟨Int32.not_lt.mp c1, by rw [hS] at c9; exact Int32.not_le.mp c9⟩, c19, Int32.not_lt.mp c23, c33⟩
            have hin : vp_in (x * 200 + y) 600 := by
              obtain ⟨j, i, hj, rfl, hi, rfl⟩ := okP_in hc hL hok
              rw [show (200 : Int32) = nI 200 from rfl, pk_mul, nI_add]
              exact vp_in_nI (by omega) (by omega)
            refine gi_aload_n (q := 39) (i := 0) C (dm_Gi_put 22 rfl) rfl rfl rfl ?_
            refine gi_get (q := 42) C (dm_Gi_put 23 rfl) rfl fl_Gi_18 (by repeat (first | exact gi_up_self _ _ _ | assumption | rw [gi_up_ne (by omega)])) rfl ?_
            refine gi_iload_n (q := 43) (i := 1) C (dm_Gi_put 24 rfl) rfl rfl rfl ?_
            refine gi_sipush (q := 46) (v := 200) C (dm_Gi_put 25 rfl) rfl (by decide) ?_
            refine gi_imul (q := 47) C (dm_Gi_put 26 rfl) rfl ?_
            refine gi_iload_n (q := 48) (i := 2) C (dm_Gi_put 27 rfl) rfl rfl rfl ?_
            refine gi_iadd (q := 49) C (dm_Gi_put 28 rfl) rfl ?_
            refine gi_iload_n (q := 50) (i := 3) C (dm_Gi_put 29 rfl) rfl rfl rfl ?_
            refine gi_iast (q := 51) C (dm_Gi_put 30 rfl) rfl rfl (by repeat (first | exact gi_up_self _ _ _ | assumption | rw [gi_up_ne (by omega)])) hin ?_
            refine gi_iconst (q := 52) (v := 1) C (dm_Gi_put 31 rfl) rfl (by decide) ?_
            refine gi_iret C hr (dm_Gi_put 32 rfl) ?_
            exact ⟨rfl, fun b hb => by rw [gi_up_ne (by omega)], Or.inl ⟨hok, rfl, ⟨by rw [gi_up_ne (by omega)]; exact G0, by rw [gi_up_ne (by omega)]; exact G1, by rw [gi_up_ne (by omega)]; exact G2, gi_up_self _ _ _⟩⟩⟩
          · refine gi_iconst (q := 37) (v := -1) C (dm_Gi_put 20 rfl) rfl (by decide) ?_
            refine gi_iret C hr (dm_Gi_put 21 rfl) ?_
            refine ⟨rfl, fun _ _ => rfl, Or.inr ⟨fun q => ?_, rfl, rfl⟩⟩
            obtain ⟨⟨q1, q2⟩, q3, q4, q5⟩ := q
            rw [← hS] at q2
            first
              | exact absurd q1 (Int32.not_le.mpr c1)
              | exact absurd q2 (Int32.not_lt.mpr c9)
              | exact absurd q3 c19
              | exact absurd q4 (Int32.not_le.mpr c23)
              | exact absurd q5 c33
set_option maxHeartbeats 4000000 in
set_option maxRecDepth 100000 in
theorem c_H_argument (t x : Int32) (hc : c ≤ 3) (hS : S 0 = nI c) (HX : hs_ob X ct cr h) (HG : gv_at (X + 16911) S F h) : gi_T l V y_H_argument b_H_argument 3 (some .int) 1 23 0 0 [.ref X, .int t, .int x] n h (fun v n' h' => n' = n ∧ out4 (X + 16911) h h' ∧ ((okA c t x ∧ v = some (.int (nI (c + 1))) ∧ gv_at (X + 16911) (upS S 0 (nI (c + 1))) (gv_add F c t x) h') ∨ (¬ okA c t x ∧ v = some (.int (-1)) ∧ h' = h))) := by
  refine gi_enter (by decide) (Nat.le_of_ble_eq_true rfl) ?_
  intro _ _ _ _ _ _ _ _ C hr hnm
  have HX0 := HX
  unfold hs_ob at HX0
  refine gi_aload_n (q := 1) (i := 0) C (dm_H_argument 0 rfl) rfl rfl rfl ?_
  refine gi_get (q := 4) C (dm_H_argument 1 rfl) rfl fl_H_56 (by assumption) rfl ?_
  refine gi_iload_n (q := 5) (i := 1) C (dm_H_argument 2 rfl) rfl rfl rfl ?_
  refine gi_iload_n (q := 6) (i := 2) C (dm_H_argument 3 rfl) rfl rfl rfl ?_
  refine gi_callv 2 (q := 9) C (dm_H_argument 4 rfl) rfl my_Gi_add lk_H_217 im_Gi_add rfl (c_Gi_add t x hc hS HG) HG.1 rfl rfl ⟨(Nat.le_of_ble_eq_true rfl), (Nat.le_of_ble_eq_true rfl)⟩ (Nat.le_of_ble_eq_true rfl) ⟨(Nat.le_of_ble_eq_true rfl), (Nat.le_of_ble_eq_true rfl)⟩ (fun r6 n6 h6 e6 => ?_)
  obtain ⟨rfl, ho, ⟨q1, rfl, q2⟩ | ⟨q1, rfl, q2⟩⟩ := e6
  · refine gi_iret C hr (dm_H_argument 5 rfl) ?_
    exact ⟨rfl, ho, Or.inl ⟨q1, rfl, q2⟩⟩
  · refine gi_iret C hr (dm_H_argument 5 rfl) ?_
    exact ⟨rfl, ho, Or.inr ⟨q1, rfl, q2⟩⟩
set_option maxHeartbeats 4000000 in
set_option maxRecDepth 100000 in
theorem c_H_fill (x y z : Int32) (hc : c ≤ 3) (hS : S 0 = nI c) (HX : hs_ob X ct cr h) (HG : gv_at (X + 16911) S F h) (hL : gvL c F) : gi_T l V y_H_fill b_H_fill 4 (some .int) 1 23 0 0 [.ref X, .int x, .int y, .int z] n h (fun v n' h' => n' = n ∧ out4 (X + 16911) h h' ∧ ((okP c F x y ∧ v = some (.int 1) ∧ gv_at (X + 16911) S (gv_put F x y z) h') ∨ (¬ okP c F x y ∧ v = some (.int (-1)) ∧ h' = h))) := by
  refine gi_enter (by decide) (Nat.le_of_ble_eq_true rfl) ?_
  intro _ _ _ _ _ _ _ _ C hr hnm
  have HX0 := HX
  unfold hs_ob at HX0
  refine gi_aload_n (q := 1) (i := 0) C (dm_H_fill 0 rfl) rfl rfl rfl ?_
  refine gi_get (q := 4) C (dm_H_fill 1 rfl) rfl fl_H_56 (by assumption) rfl ?_
  refine gi_iload_n (q := 5) (i := 1) C (dm_H_fill 2 rfl) rfl rfl rfl ?_
  refine gi_iload_n (q := 6) (i := 2) C (dm_H_fill 3 rfl) rfl rfl rfl ?_
  refine gi_iload_n (q := 7) (i := 3) C (dm_H_fill 4 rfl) rfl rfl rfl ?_
  refine gi_callv 3 (q := 10) C (dm_H_fill 5 rfl) rfl my_Gi_put lk_H_220 im_Gi_put rfl (c_Gi_put x y z hc hS hL HG) HG.1 rfl rfl ⟨(Nat.le_of_ble_eq_true rfl), (Nat.le_of_ble_eq_true rfl)⟩ (Nat.le_of_ble_eq_true rfl) ⟨(Nat.le_of_ble_eq_true rfl), (Nat.le_of_ble_eq_true rfl)⟩ (fun r7 n7 h7 e7 => ?_)
  obtain ⟨rfl, ho, ⟨q1, rfl, q2⟩ | ⟨q1, rfl, q2⟩⟩ := e7
  · refine gi_iret C hr (dm_H_fill 6 rfl) ?_
    exact ⟨rfl, ho, Or.inl ⟨q1, rfl, q2⟩⟩
  · refine gi_iret C hr (dm_H_fill 6 rfl) ?_
    exact ⟨rfl, ho, Or.inr ⟨q1, rfl, q2⟩⟩
set_option maxHeartbeats 4000000 in
set_option maxRecDepth 100000 in
theorem c_H_forget (HX : hs_ob X ct cr h) (HG : gv_at (X + 16911) S F h) : gi_T l V y_H_forget b_H_forget 2 (some .int) 0 0 0 0 [.ref X] n h (fun v n' h' => n' = n ∧ out4 (X + 16911) h h' ∧ v = some (.int (S 0)) ∧ gv_at (X + 16911) (upS S 0 0) F h') := by
  refine gi_enter (by decide) (Nat.le_of_ble_eq_true rfl) ?_
  intro _ _ _ _ _ _ _ _ C hr hnm
  have HX0 := HX
  unfold hs_ob at HX0
  obtain ⟨G0, G1, G2, G3⟩ := id HG
  refine gi_aload_n (q := 1) (i := 0) C (dm_H_forget 0 rfl) rfl rfl rfl ?_
  refine gi_get (q := 4) C (dm_H_forget 1 rfl) rfl fl_H_56 (by repeat (first | exact gi_up_self _ _ _ | assumption | rw [gi_up_ne (by omega)])) rfl ?_
  refine gi_get (q := 7) C (dm_H_forget 2 rfl) rfl fl_H_223 (by repeat (first | exact gi_up_self _ _ _ | assumption | rw [gi_up_ne (by omega)])) rfl ?_
  refine gi_istore_n (q := 8) (i := 1) C (dm_H_forget 3 rfl) rfl rfl (Nat.le_of_ble_eq_true rfl) ?_
  refine gi_aload_n (q := 9) (i := 0) C (dm_H_forget 4 rfl) rfl rfl rfl ?_
  refine gi_get (q := 12) C (dm_H_forget 5 rfl) rfl fl_H_56 (by repeat (first | exact gi_up_self _ _ _ | assumption | rw [gi_up_ne (by omega)])) rfl ?_
  refine gi_iconst (q := 13) (v := 0) C (dm_H_forget 6 rfl) rfl (by decide) ?_
  refine gi_put (q := 16) C (dm_H_forget 7 rfl) rfl fl_H_223 fp_Gi_0 (by repeat (first | exact gi_up_self _ _ _ | assumption | rw [gi_up_ne (by omega)])) (Nat.le_of_ble_eq_true rfl) rfl rfl ?_
  refine gi_iload_n (q := 17) (i := 1) C (dm_H_forget 8 rfl) rfl rfl rfl ?_
  refine gi_iret C hr (dm_H_forget 9 rfl) ?_
  exact ⟨rfl, fun b hb => by rw [gi_up_ne (by omega)], rfl, ⟨gi_up_self _ _ _, by rw [gi_up_ne (by omega)]; exact G1, by rw [gi_up_ne (by omega)]; exact G2, by rw [gi_up_ne (by omega)]; exact G3⟩⟩
end H5
