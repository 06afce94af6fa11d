section PR2
variable {l : Launch} {V : gi_V} {n : Nat} {h : gi_H} {a k : Nat} {F : Nat → Nat → Int32}
/-- method(x, y, z, r) is not refused, k being there -/
def okM (k : Nat) (x y z r : Int32) : Prop := k < 8 ∧ 0 ≤ x ∧ x ≤ 3 ∧ x ≤ y ∧ y ≤ 6 ∧ 0 ≤ z ∧ z < (1 : Int32) <<< (y &&& 31) ∧ 0 ≤ r ∧ r ≤ 2
def pr_add (F : Nat → Nat → Int32) (k : Nat) (x y z r : Int32) : Nat → Nat → Int32 := fun j => match j with
  | 1 => upd (F 1) k x
  | 2 => upd (F 2) k y
  | 3 => upd (F 3) k z
  | 4 => upd (F 4) k r
  | 5 => upd (F 5) k 0
  | _ => F j
def out8 (a : Nat) (h h' : gi_H) : Prop := ∀ b, b < a ∨ a + 8 ≤ b → h' b = h b
theorem kN8 {k : Nat} (hk : k ≤ 8) : ¬ (8 : Int32) ≤ nI k ↔ k < 8 := by
  rw [show (8 : Int32) = nI 8 from rfl, nI_leI (by omega) (by omega)]; omega
set_option maxHeartbeats 4000000 in
set_option maxRecDepth 100000 in
theorem c_Pr_addMethod (x y z r : Int32) (hk : k ≤ 8) (H : pr_at a (nI k) F h) : gi_T l V y_Pr_addMethod b_Pr_addMethod 5 (some .int) 0 0 0 0 [.ref a, .int x, .int y, .int z, .int r] n h (fun v n' h' => n' = n ∧ out8 a h h' ∧ ((okM k x y z r ∧ v = some (.int (nI k)) ∧ pr_at a (nI (k + 1)) (pr_add F k x y z r) h') ∨ (¬ okM k x y z r ∧ v = some (.int (-1)) ∧ h' = h))) := by
  refine gi_enter (by decide) (Nat.le_of_ble_eq_true rfl) ?_
  intro p e s m args below meth c C hr hnm
  obtain ⟨H0, H1, H2, H3, H4, H5, H6, H7⟩ := id H
  refine gi_aload_n (q := 1) (i := 0) C (dm_Pr_addMethod 0 rfl) rfl rfl rfl ?_
  refine gi_get (q := 4) C (dm_Pr_addMethod 1 rfl) rfl fl_Pr_33 (by repeat (first | exact gi_up_self _ _ _ | assumption | rw [gi_up_ne (by omega)])) rfl ?_
  refine gi_bipush (q := 6) (v := 8) C (dm_Pr_addMethod 2 rfl) rfl (by decide) ?_
  refine gi_icmp_ge (q := 9) (tgt := 18) C (dm_Pr_addMethod 3 rfl) rfl (by decide) (fun c6 => ?_) (fun c6 => ?_)
  · refine gi_iconst (q := 19) (v := -1) C (dm_Pr_addMethod 9 rfl) rfl (by decide) ?_
    refine gi_iret C hr (dm_Pr_addMethod 10 rfl) ?_
    refine ⟨rfl, fun _ _ => rfl, Or.inr ⟨fun q => ?_, rfl, rfl⟩⟩
    obtain ⟨q1, q2, q3, q4, q5, q6, q7, q8, q9⟩ := q
    first | exact absurd c6 ((kN8 hk).mpr q1) | (simp only [Int32.lt_iff_toInt_lt, Int32.le_iff_toInt_le, Int32.not_lt, Int32.not_le] at *; omega)
  · refine gi_iload_n (q := 10) (i := 1) C (dm_Pr_addMethod 4 rfl) rfl rfl rfl ?_
    refine gi_if_lt (q := 13) (tgt := 18) C (dm_Pr_addMethod 5 rfl) rfl (by decide) (fun c10 => ?_) (fun c10 => ?_)
    · refine gi_iconst (q := 19) (v := -1) C (dm_Pr_addMethod 9 rfl) rfl (by decide) ?_
      refine gi_iret C hr (dm_Pr_addMethod 10 rfl) ?_
      refine ⟨rfl, fun _ _ => rfl, Or.inr ⟨fun q => ?_, rfl, rfl⟩⟩
      obtain ⟨q1, q2, q3, q4, q5, q6, q7, q8, q9⟩ := q
      first | exact absurd c6 ((kN8 hk).mpr q1) | (simp only [Int32.lt_iff_toInt_lt, Int32.le_iff_toInt_le, Int32.not_lt, Int32.not_le] at *; omega)
    · refine gi_iload_n (q := 14) (i := 1) C (dm_Pr_addMethod 6 rfl) rfl rfl rfl ?_
      refine gi_iconst (q := 15) (v := 3) C (dm_Pr_addMethod 7 rfl) rfl (by decide) ?_
      refine gi_icmp_le (q := 18) (tgt := 20) C (dm_Pr_addMethod 8 rfl) rfl (by decide) (fun c15 => ?_) (fun c15 => ?_)
      · refine gi_iload_n (q := 21) (i := 2) C (dm_Pr_addMethod 11 rfl) rfl rfl rfl ?_
        refine gi_iload_n (q := 22) (i := 1) C (dm_Pr_addMethod 12 rfl) rfl rfl rfl ?_
        refine gi_icmp_lt (q := 25) (tgt := 42) C (dm_Pr_addMethod 13 rfl) rfl (by decide) (fun c22 => ?_) (fun c22 => ?_)
        · refine gi_iconst (q := 43) (v := -1) C (dm_Pr_addMethod 22 rfl) rfl (by decide) ?_
          refine gi_iret C hr (dm_Pr_addMethod 23 rfl) ?_
          refine ⟨rfl, fun _ _ => rfl, Or.inr ⟨fun q => ?_, rfl, rfl⟩⟩
          obtain ⟨q1, q2, q3, q4, q5, q6, q7, q8, q9⟩ := q
          first | exact absurd c6 ((kN8 hk).mpr q1) | (simp only [Int32.lt_iff_toInt_lt, Int32.le_iff_toInt_le, Int32.not_lt, Int32.not_le] at *; omega)
        · refine gi_iload_n (q := 26) (i := 2) C (dm_Pr_addMethod 14 rfl) rfl rfl rfl ?_
          refine gi_bipush (q := 28) (v := 6) C (dm_Pr_addMethod 15 rfl) rfl (by decide) ?_
          refine gi_icmp_gt (q := 31) (tgt := 42) C (dm_Pr_addMethod 16 rfl) rfl (by decide) (fun c28 => ?_) (fun c28 => ?_)
          · refine gi_iconst (q := 43) (v := -1) C (dm_Pr_addMethod 22 rfl) rfl (by decide) ?_
            refine gi_iret C hr (dm_Pr_addMethod 23 rfl) ?_
            refine ⟨rfl, fun _ _ => rfl, Or.inr ⟨fun q => ?_, rfl, rfl⟩⟩
            obtain ⟨q1, q2, q3, q4, q5, q6, q7, q8, q9⟩ := q
            first | exact absurd c6 ((kN8 hk).mpr q1) | (simp only [Int32.lt_iff_toInt_lt, Int32.le_iff_toInt_le, Int32.not_lt, Int32.not_le] at *; omega)
          · refine gi_iload (q := 33) C (dm_Pr_addMethod 17 rfl) rfl rfl ?_
            refine gi_if_lt (q := 36) (tgt := 42) C (dm_Pr_addMethod 18 rfl) rfl (by decide) (fun c33 => ?_) (fun c33 => ?_)
            · refine gi_iconst (q := 43) (v := -1) C (dm_Pr_addMethod 22 rfl) rfl (by decide) ?_
              refine gi_iret C hr (dm_Pr_addMethod 23 rfl) ?_
              refine ⟨rfl, fun _ _ => rfl, Or.inr ⟨fun q => ?_, rfl, rfl⟩⟩
              obtain ⟨q1, q2, q3, q4, q5, q6, q7, q8, q9⟩ := q
              first | exact absurd c6 ((kN8 hk).mpr q1) | (simp only [Int32.lt_iff_toInt_lt, Int32.le_iff_toInt_le, Int32.not_lt, Int32.not_le] at *; omega)
            · refine gi_iload (q := 38) C (dm_Pr_addMethod 19 rfl) rfl rfl ?_
              refine gi_iconst (q := 39) (v := 2) C (dm_Pr_addMethod 20 rfl) rfl (by decide) ?_
              refine gi_icmp_le (q := 42) (tgt := 44) C (dm_Pr_addMethod 21 rfl) rfl (by decide) (fun c39 => ?_) (fun c39 => ?_)
              · refine gi_iload_n (q := 45) (i := 3) C (dm_Pr_addMethod 24 rfl) rfl rfl rfl ?_
                refine gi_if_lt (q := 48) (tgt := 55) C (dm_Pr_addMethod 25 rfl) rfl (by decide) (fun c45 => ?_) (fun c45 => ?_)
                · refine gi_iconst (q := 56) (v := -1) C (dm_Pr_addMethod 31 rfl) rfl (by decide) ?_
                  refine gi_iret C hr (dm_Pr_addMethod 32 rfl) ?_
                  refine ⟨rfl, fun _ _ => rfl, Or.inr ⟨fun q => ?_, rfl, rfl⟩⟩
                  obtain ⟨q1, q2, q3, q4, q5, q6, q7, q8, q9⟩ := q
                  first | exact absurd c6 ((kN8 hk).mpr q1) | (simp only [Int32.lt_iff_toInt_lt, Int32.le_iff_toInt_le, Int32.not_lt, Int32.not_le] at *; omega)
                · refine gi_iload_n (q := 49) (i := 3) C (dm_Pr_addMethod 26 rfl) rfl rfl rfl ?_
                  refine gi_iconst (q := 50) (v := 1) C (dm_Pr_addMethod 27 rfl) rfl (by decide) ?_
                  refine gi_iload_n (q := 51) (i := 2) C (dm_Pr_addMethod 28 rfl) rfl rfl rfl ?_
                  refine gi_ishl (q := 52) C (dm_Pr_addMethod 29 rfl) rfl ?_
                  refine gi_icmp_lt (q := 55) (tgt := 57) C (dm_Pr_addMethod 30 rfl) rfl (by decide) (fun c52 => ?_) (fun c52 => ?_)
                  · refine gi_aload_n (q := 58) (i := 0) C (dm_Pr_addMethod 33 rfl) rfl rfl rfl ?_
                    refine gi_get (q := 61) C (dm_Pr_addMethod 34 rfl) rfl fl_Pr_9 (by repeat (first | exact gi_up_self _ _ _ | assumption | rw [gi_up_ne (by omega)])) rfl ?_
                    refine gi_aload_n (q := 62) (i := 0) C (dm_Pr_addMethod 35 rfl) rfl rfl rfl ?_
                    refine gi_get (q := 65) C (dm_Pr_addMethod 36 rfl) rfl fl_Pr_33 (by repeat (first | exact gi_up_self _ _ _ | assumption | rw [gi_up_ne (by omega)])) rfl ?_
                    refine gi_iload_n (q := 66) (i := 1) C (dm_Pr_addMethod 37 rfl) rfl rfl rfl ?_
                    refine gi_iast (q := 67) C (dm_Pr_addMethod 38 rfl) rfl rfl (by repeat (first | exact gi_up_self _ _ _ | assumption | rw [gi_up_ne (by omega)])) (vp_in_nI ((kN8 hk).mp c6) (by omega)) ?_
                    refine gi_aload_n (q := 68) (i := 0) C (dm_Pr_addMethod 39 rfl) rfl rfl rfl ?_
                    refine gi_get (q := 71) C (dm_Pr_addMethod 40 rfl) rfl fl_Pr_15 (by repeat (first | exact gi_up_self _ _ _ | assumption | rw [gi_up_ne (by omega)])) rfl ?_
                    refine gi_aload_n (q := 72) (i := 0) C (dm_Pr_addMethod 41 rfl) rfl rfl rfl ?_
                    refine gi_get (q := 75) C (dm_Pr_addMethod 42 rfl) rfl fl_Pr_33 (by repeat (first | exact gi_up_self _ _ _ | assumption | rw [gi_up_ne (by omega)])) rfl ?_
                    refine gi_iload_n (q := 76) (i := 2) C (dm_Pr_addMethod 43 rfl) rfl rfl rfl ?_
                    refine gi_iast (q := 77) C (dm_Pr_addMethod 44 rfl) rfl rfl (by repeat (first | exact gi_up_self _ _ _ | assumption | rw [gi_up_ne (by omega)])) (vp_in_nI ((kN8 hk).mp c6) (by omega)) ?_
                    refine gi_aload_n (q := 78) (i := 0) C (dm_Pr_addMethod 45 rfl) rfl rfl rfl ?_
                    refine gi_get (q := 81) C (dm_Pr_addMethod 46 rfl) rfl fl_Pr_18 (by repeat (first | exact gi_up_self _ _ _ | assumption | rw [gi_up_ne (by omega)])) rfl ?_
                    refine gi_aload_n (q := 82) (i := 0) C (dm_Pr_addMethod 47 rfl) rfl rfl rfl ?_
                    refine gi_get (q := 85) C (dm_Pr_addMethod 48 rfl) rfl fl_Pr_33 (by repeat (first | exact gi_up_self _ _ _ | assumption | rw [gi_up_ne (by omega)])) rfl ?_
                    refine gi_iload_n (q := 86) (i := 3) C (dm_Pr_addMethod 49 rfl) rfl rfl rfl ?_
                    refine gi_iast (q := 87) C (dm_Pr_addMethod 50 rfl) rfl rfl (by repeat (first | exact gi_up_self _ _ _ | assumption | rw [gi_up_ne (by omega)])) (vp_in_nI ((kN8 hk).mp c6) (by omega)) ?_
                    refine gi_aload_n (q := 88) (i := 0) C (dm_Pr_addMethod 51 rfl) rfl rfl rfl ?_
                    refine gi_get (q := 91) C (dm_Pr_addMethod 52 rfl) rfl fl_Pr_21 (by repeat (first | exact gi_up_self _ _ _ | assumption | rw [gi_up_ne (by omega)])) rfl ?_
                    refine gi_aload_n (q := 92) (i := 0) C (dm_Pr_addMethod 53 rfl) rfl rfl rfl ?_
                    refine gi_get (q := 95) C (dm_Pr_addMethod 54 rfl) rfl fl_Pr_33 (by repeat (first | exact gi_up_self _ _ _ | assumption | rw [gi_up_ne (by omega)])) rfl ?_
                    refine gi_iload (q := 97) C (dm_Pr_addMethod 55 rfl) rfl rfl ?_
                    refine gi_iast (q := 98) C (dm_Pr_addMethod 56 rfl) rfl rfl (by repeat (first | exact gi_up_self _ _ _ | assumption | rw [gi_up_ne (by omega)])) (vp_in_nI ((kN8 hk).mp c6) (by omega)) ?_
                    refine gi_aload_n (q := 99) (i := 0) C (dm_Pr_addMethod 57 rfl) rfl rfl rfl ?_
                    refine gi_get (q := 102) C (dm_Pr_addMethod 58 rfl) rfl fl_Pr_24 (by repeat (first | exact gi_up_self _ _ _ | assumption | rw [gi_up_ne (by omega)])) rfl ?_
                    refine gi_aload_n (q := 103) (i := 0) C (dm_Pr_addMethod 59 rfl) rfl rfl rfl ?_
                    refine gi_get (q := 106) C (dm_Pr_addMethod 60 rfl) rfl fl_Pr_33 (by repeat (first | exact gi_up_self _ _ _ | assumption | rw [gi_up_ne (by omega)])) rfl ?_
                    refine gi_iconst (q := 107) (v := 0) C (dm_Pr_addMethod 61 rfl) rfl (by decide) ?_
                    refine gi_iast (q := 108) C (dm_Pr_addMethod 62 rfl) rfl rfl (by repeat (first | exact gi_up_self _ _ _ | assumption | rw [gi_up_ne (by omega)])) (vp_in_nI ((kN8 hk).mp c6) (by omega)) ?_
                    refine gi_aload_n (q := 109) (i := 0) C (dm_Pr_addMethod 63 rfl) rfl rfl rfl ?_
                    refine gi_dup (q := 110) C (dm_Pr_addMethod 64 rfl) rfl rfl ?_
                    refine gi_get (q := 113) C (dm_Pr_addMethod 65 rfl) rfl fl_Pr_33 (by repeat (first | exact gi_up_self _ _ _ | assumption | rw [gi_up_ne (by omega)])) rfl ?_
                    refine gi_iconst (q := 114) (v := 1) C (dm_Pr_addMethod 66 rfl) rfl (by decide) ?_
                    refine gi_iadd (q := 115) C (dm_Pr_addMethod 67 rfl) rfl ?_
                    refine gi_put (q := 118) C (dm_Pr_addMethod 68 rfl) rfl fl_Pr_33 fp_Pr_0 (by repeat (first | exact gi_up_self _ _ _ | assumption | rw [gi_up_ne (by omega)])) (Nat.le_of_ble_eq_true rfl) rfl rfl ?_
                    refine gi_aload_n (q := 119) (i := 0) C (dm_Pr_addMethod 69 rfl) rfl rfl rfl ?_
                    refine gi_get (q := 122) C (dm_Pr_addMethod 70 rfl) rfl fl_Pr_33 (by repeat (first | exact gi_up_self _ _ _ | assumption | rw [gi_up_ne (by omega)])) rfl ?_
                    refine gi_iconst (q := 123) (v := 1) C (dm_Pr_addMethod 71 rfl) rfl (by decide) ?_
                    refine gi_isub (q := 124) C (dm_Pr_addMethod 72 rfl) rfl ?_
                    refine gi_iret C hr (dm_Pr_addMethod 73 rfl) ?_
                    have hk8 : k < 8 := (kN8 hk).mp c6
                    have hc : (nI k).toNatClampNeg = k := nI_clamp (by omega)
                    simp only [hc]
                    refine ⟨by trivial, fun b hb => ?_, Or.inl ⟨?_, ?_, ⟨?_, ?_, ?_, ?_, ?_, ?_, ?_, ?_⟩⟩⟩
                    · repeat (first | rfl | rw [gi_up_ne (by omega)])
                    · refine ⟨hk8, ?_, ?_, ?_, ?_, ?_, ?_, ?_, ?_⟩ <;> (simp only [Int32.lt_iff_toInt_lt, Int32.le_iff_toInt_le, Int32.not_lt, Int32.not_le] at *; omega)
                    · rw [show nI k + 1 - 1 = nI k by rw [nI_1]; exact nI_pred k]
                    · rw [← nI_1]; exact gi_up_self _ _ _
                    · repeat (first | exact gi_up_self _ _ _ | assumption | rw [gi_up_ne (by omega)])
                    · repeat (first | exact gi_up_self _ _ _ | assumption | rw [gi_up_ne (by omega)])
                    · repeat (first | exact gi_up_self _ _ _ | assumption | rw [gi_up_ne (by omega)])
                    · repeat (first | exact gi_up_self _ _ _ | assumption | rw [gi_up_ne (by omega)])
                    · repeat (first | exact gi_up_self _ _ _ | assumption | rw [gi_up_ne (by omega)])
                    · repeat (first | exact gi_up_self _ _ _ | assumption | rw [gi_up_ne (by omega)])
                    · repeat (first | exact gi_up_self _ _ _ | assumption | rw [gi_up_ne (by omega)])
                  · refine gi_iconst (q := 56) (v := -1) C (dm_Pr_addMethod 31 rfl) rfl (by decide) ?_
                    refine gi_iret C hr (dm_Pr_addMethod 32 rfl) ?_
                    refine ⟨rfl, fun _ _ => rfl, Or.inr ⟨fun q => ?_, rfl, rfl⟩⟩
                    obtain ⟨q1, q2, q3, q4, q5, q6, q7, q8, q9⟩ := q
                    first | exact absurd c6 ((kN8 hk).mpr q1) | (simp only [Int32.lt_iff_toInt_lt, Int32.le_iff_toInt_le, Int32.not_lt, Int32.not_le] at *; omega)
              · refine gi_iconst (q := 43) (v := -1) C (dm_Pr_addMethod 22 rfl) rfl (by decide) ?_
                refine gi_iret C hr (dm_Pr_addMethod 23 rfl) ?_
                refine ⟨rfl, fun _ _ => rfl, Or.inr ⟨fun q => ?_, rfl, rfl⟩⟩
                obtain ⟨q1, q2, q3, q4, q5, q6, q7, q8, q9⟩ := q
                first | exact absurd c6 ((kN8 hk).mpr q1) | (simp only [Int32.lt_iff_toInt_lt, Int32.le_iff_toInt_le, Int32.not_lt, Int32.not_le] at *; omega)
      · refine gi_iconst (q := 19) (v := -1) C (dm_Pr_addMethod 9 rfl) rfl (by decide) ?_
        refine gi_iret C hr (dm_Pr_addMethod 10 rfl) ?_
        refine ⟨rfl, fun _ _ => rfl, Or.inr ⟨fun q => ?_, rfl, rfl⟩⟩
        obtain ⟨q1, q2, q3, q4, q5, q6, q7, q8, q9⟩ := q
        first | exact absurd c6 ((kN8 hk).mpr q1) | (simp only [Int32.lt_iff_toInt_lt, Int32.le_iff_toInt_le, Int32.not_lt, Int32.not_le] at *; omega)
def pr_ins (F : Nat → Nat → Int32) (m q : Nat) (op x : Int32) : Nat → Nat → Int32 := fun j => match j with
  | 5 => upd (F 5) m (nI (q + 1))
  | 6 => upd (F 6) (60 * m + q) op
  | 7 => upd (F 7) (60 * m + q) x
  | _ => F j
def pr_wip (F : Nat → Nat → Int32) (m : Nat) : Nat → Nat → Int32 := fun j => match j with
  | 5 => upd (F 5) m 0
  | _ => F j
set_option maxHeartbeats 4000000 in
set_option maxRecDepth 100000 in
theorem c_Pr_clear (m : Int32) (hk : k ≤ 8) (H : pr_at a (nI k) F h) : gi_T l V y_Pr_clear b_Pr_clear 3 (some .int) 1 21 0 0 [.ref a, .int m] n h (fun v n' h' => n' = n ∧ out8 a h h' ∧ ((∃ j : Nat, j < k ∧ m = nI j ∧ v = some (.int (F 5 j)) ∧ pr_at a (nI k) (pr_wip F j) h') ∨ (isM k m = false ∧ v = some (.int (-1)) ∧ h' = h))) := by
  refine gi_enter (by decide) (Nat.le_of_ble_eq_true rfl) ?_
  intro p e s m args below meth c C hr hnm
  obtain ⟨H0, H1, H2, H3, H4, H5, H6, H7⟩ := id H
  refine gi_aload_n (q := 1) (i := 0) C (dm_Pr_clear 0 rfl) rfl rfl rfl ?_
  refine gi_iload_n (q := 2) (i := 1) C (dm_Pr_clear 1 rfl) rfl rfl rfl ?_
  refine gi_callv 1 (q := 5) C (dm_Pr_clear 2 rfl) rfl my_Pr_hasMethod lk_Pr_37 im_Pr_hasMethod rfl (c_Pr_hasMethod _ (by omega) H) H0 rfl rfl ⟨(Nat.le_of_ble_eq_true rfl), (Nat.le_of_ble_eq_true rfl)⟩ (Nat.le_of_ble_eq_true rfl) ⟨(Nat.le_of_ble_eq_true rfl), (Nat.le_of_ble_eq_true rfl)⟩ (fun r2 n2 h2 e2 => ?_)
  obtain ⟨rfl, rfl, rfl⟩ := e2
  refine gi_if_ne (q := 8) (tgt := 10) C (dm_Pr_clear 3 rfl) rfl (by decide) (fun c5 => ?_) (fun c5 => ?_)
  · refine gi_aload_n (q := 11) (i := 0) C (dm_Pr_clear 6 rfl) rfl rfl rfl ?_
    refine gi_get (q := 14) C (dm_Pr_clear 7 rfl) rfl fl_Pr_24 (by repeat (first | exact gi_up_self _ _ _ | assumption | rw [gi_up_ne (by omega)])) rfl ?_
    refine gi_iload_n (q := 15) (i := 1) C (dm_Pr_clear 8 rfl) rfl rfl rfl ?_
    refine gi_iald (q := 16) C (dm_Pr_clear 9 rfl) rfl rfl (by repeat (first | exact gi_up_self _ _ _ | assumption | rw [gi_up_ne (by omega)])) (in_nI (isM_t (bI_n0.mp (by assumption))).1 (isM_t (bI_n0.mp (by assumption))).2 (by omega) (by omega)) ?_
    refine gi_istore_n (q := 17) (i := 2) C (dm_Pr_clear 10 rfl) rfl rfl (Nat.le_of_ble_eq_true rfl) ?_
    refine gi_aload_n (q := 18) (i := 0) C (dm_Pr_clear 11 rfl) rfl rfl rfl ?_
    refine gi_get (q := 21) C (dm_Pr_clear 12 rfl) rfl fl_Pr_24 (by repeat (first | exact gi_up_self _ _ _ | assumption | rw [gi_up_ne (by omega)])) rfl ?_
    refine gi_iload_n (q := 22) (i := 1) C (dm_Pr_clear 13 rfl) rfl rfl rfl ?_
    refine gi_iconst (q := 23) (v := 0) C (dm_Pr_clear 14 rfl) rfl (by decide) ?_
    refine gi_iast (q := 24) C (dm_Pr_clear 15 rfl) rfl rfl (by repeat (first | exact gi_up_self _ _ _ | assumption | rw [gi_up_ne (by omega)])) (in_nI (isM_t (bI_n0.mp (by assumption))).1 (isM_t (bI_n0.mp (by assumption))).2 (by omega) (by omega)) ?_
    refine gi_iload_n (q := 25) (i := 2) C (dm_Pr_clear 16 rfl) rfl rfl rfl ?_
    refine gi_iret C hr (dm_Pr_clear 17 rfl) ?_
    obtain ⟨j, hj, rfl⟩ := isM_nI hk (bI_n0.mp c5)
    simp only [nI_clamp (show j < 2 ^ 31 by omega)]
    exact ⟨by trivial, fun b hb => by rw [gi_up_ne (by omega)], Or.inl ⟨j, hj, rfl, rfl, ⟨by rw [gi_up_ne (by omega)]; exact H0, by rw [gi_up_ne (by omega)]; exact H1, by rw [gi_up_ne (by omega)]; exact H2, by rw [gi_up_ne (by omega)]; exact H3, by rw [gi_up_ne (by omega)]; exact H4, gi_up_self _ _ _, by rw [gi_up_ne (by omega)]; exact H6, by rw [gi_up_ne (by omega)]; exact H7⟩⟩⟩
  · refine gi_iconst (q := 9) (v := -1) C (dm_Pr_clear 4 rfl) rfl (by decide) ?_
    refine gi_iret C hr (dm_Pr_clear 5 rfl) ?_
    exact ⟨rfl, fun _ _ => rfl, Or.inr ⟨bI_0.mp c5, rfl, rfl⟩⟩
set_option maxHeartbeats 4000000 in
set_option maxRecDepth 100000 in
theorem c_Pr_addInstruction (m op x : Int32) (hk : k ≤ 8) (hL : prL k F) (H : pr_at a (nI k) F h) : gi_T l V y_Pr_addInstruction b_Pr_addInstruction 5 (some .int) 1 21 0 0 [.ref a, .int m, .int op, .int x] n h (fun v n' h' => n' = n ∧ out8 a h h' ∧ ((∃ j q : Nat, j < k ∧ m = nI j ∧ q < 60 ∧ F 5 j = nI q ∧ 0 ≤ op ∧ op ≤ 35 ∧ v = some (.int (nI q)) ∧ pr_at a (nI k) (pr_ins F j q op x) h') ∨ ((isM k m = false ∨ op < 0 ∨ 35 < op ∨ F 5 m.toNatClampNeg = 60) ∧ v = some (.int (-1)) ∧ h' = h))) := by
  refine gi_enter (by decide) (Nat.le_of_ble_eq_true rfl) ?_
  intro p e s m args below meth c C hr hnm
  obtain ⟨H0, H1, H2, H3, H4, H5, H6, H7⟩ := id H
  refine gi_aload_n (q := 1) (i := 0) C (dm_Pr_addInstruction 0 rfl) rfl rfl rfl ?_
  refine gi_iload_n (q := 2) (i := 1) C (dm_Pr_addInstruction 1 rfl) rfl rfl rfl ?_
  refine gi_callv 1 (q := 5) C (dm_Pr_addInstruction 2 rfl) rfl my_Pr_hasMethod lk_Pr_37 im_Pr_hasMethod rfl (c_Pr_hasMethod _ (by omega) H) H0 rfl rfl ⟨(Nat.le_of_ble_eq_true rfl), (Nat.le_of_ble_eq_true rfl)⟩ (Nat.le_of_ble_eq_true rfl) ⟨(Nat.le_of_ble_eq_true rfl), (Nat.le_of_ble_eq_true rfl)⟩ (fun r2 n2 h2 e2 => ?_)
  obtain ⟨rfl, rfl, rfl⟩ := e2
  refine gi_if_eq (q := 8) (tgt := 29) C (dm_Pr_addInstruction 3 rfl) rfl (by decide) (fun c5 => ?_) (fun c5 => ?_)
  · refine gi_iconst (q := 30) (v := -1) C (dm_Pr_addInstruction 15 rfl) rfl (by decide) ?_
    refine gi_iret C hr (dm_Pr_addInstruction 16 rfl) ?_
    refine ⟨rfl, fun _ _ => rfl, Or.inr ⟨?_, rfl, rfl⟩⟩
    first
      | exact Or.inl (bI_0.mp (by assumption))
      | exact Or.inr (Or.inl (by assumption))
      | exact Or.inr (Or.inr (Or.inl (by assumption)))
      | (refine Or.inr (Or.inr (Or.inr ?_))
         obtain ⟨j, hj, rfl⟩ := isM_nI hk (bI_n0.mp c5)
         obtain ⟨q, hq, e⟩ := hL j hj
         rw [nI_clamp (show j < 2 ^ 31 by omega), e] at c26 ⊢
         rw [show (60 : Int32) = nI 60 from rfl, nI_ltI (by omega) (by omega)] at c26
         rw [show q = 60 by omega]; rfl)
  · refine gi_iload_n (q := 9) (i := 2) C (dm_Pr_addInstruction 4 rfl) rfl rfl rfl ?_
    refine gi_if_lt (q := 12) (tgt := 29) C (dm_Pr_addInstruction 5 rfl) rfl (by decide) (fun c9 => ?_) (fun c9 => ?_)
    · refine gi_iconst (q := 30) (v := -1) C (dm_Pr_addInstruction 15 rfl) rfl (by decide) ?_
      refine gi_iret C hr (dm_Pr_addInstruction 16 rfl) ?_
      refine ⟨rfl, fun _ _ => rfl, Or.inr ⟨?_, rfl, rfl⟩⟩
      first
        | exact Or.inl (bI_0.mp (by assumption))
        | exact Or.inr (Or.inl (by assumption))
        | exact Or.inr (Or.inr (Or.inl (by assumption)))
        | (refine Or.inr (Or.inr (Or.inr ?_))
           obtain ⟨j, hj, rfl⟩ := isM_nI hk (bI_n0.mp c5)
           obtain ⟨q, hq, e⟩ := hL j hj
           rw [nI_clamp (show j < 2 ^ 31 by omega), e] at c26 ⊢
           rw [show (60 : Int32) = nI 60 from rfl, nI_ltI (by omega) (by omega)] at c26
           rw [show q = 60 by omega]; rfl)
    · refine gi_iload_n (q := 13) (i := 2) C (dm_Pr_addInstruction 6 rfl) rfl rfl rfl ?_
      refine gi_bipush (q := 15) (v := 35) C (dm_Pr_addInstruction 7 rfl) rfl (by decide) ?_
      refine gi_icmp_gt (q := 18) (tgt := 29) C (dm_Pr_addInstruction 8 rfl) rfl (by decide) (fun c15 => ?_) (fun c15 => ?_)
      · refine gi_iconst (q := 30) (v := -1) C (dm_Pr_addInstruction 15 rfl) rfl (by decide) ?_
        refine gi_iret C hr (dm_Pr_addInstruction 16 rfl) ?_
        refine ⟨rfl, fun _ _ => rfl, Or.inr ⟨?_, rfl, rfl⟩⟩
        first
          | exact Or.inl (bI_0.mp (by assumption))
          | exact Or.inr (Or.inl (by assumption))
          | exact Or.inr (Or.inr (Or.inl (by assumption)))
          | (refine Or.inr (Or.inr (Or.inr ?_))
             obtain ⟨j, hj, rfl⟩ := isM_nI hk (bI_n0.mp c5)
             obtain ⟨q, hq, e⟩ := hL j hj
             rw [nI_clamp (show j < 2 ^ 31 by omega), e] at c26 ⊢
             rw [show (60 : Int32) = nI 60 from rfl, nI_ltI (by omega) (by omega)] at c26
             rw [show q = 60 by omega]; rfl)
      · refine gi_aload_n (q := 19) (i := 0) C (dm_Pr_addInstruction 9 rfl) rfl rfl rfl ?_
        refine gi_get (q := 22) C (dm_Pr_addInstruction 10 rfl) rfl fl_Pr_24 (by repeat (first | exact gi_up_self _ _ _ | assumption | rw [gi_up_ne (by omega)])) rfl ?_
        refine gi_iload_n (q := 23) (i := 1) C (dm_Pr_addInstruction 11 rfl) rfl rfl rfl ?_
        refine gi_iald (q := 24) C (dm_Pr_addInstruction 12 rfl) rfl rfl (by repeat (first | exact gi_up_self _ _ _ | assumption | rw [gi_up_ne (by omega)])) (in_nI (isM_t (bI_n0.mp (by assumption))).1 (isM_t (bI_n0.mp (by assumption))).2 (by omega) (by omega)) ?_
        refine gi_bipush (q := 26) (v := 60) C (dm_Pr_addInstruction 13 rfl) rfl (by decide) ?_
        refine gi_icmp_lt (q := 29) (tgt := 31) C (dm_Pr_addInstruction 14 rfl) rfl (by decide) (fun c26 => ?_) (fun c26 => ?_)
        · refine gi_aload_n (q := 32) (i := 0) C (dm_Pr_addInstruction 17 rfl) rfl rfl rfl ?_
          refine gi_get (q := 35) C (dm_Pr_addInstruction 18 rfl) rfl fl_Pr_24 (by repeat (first | exact gi_up_self _ _ _ | assumption | rw [gi_up_ne (by omega)])) rfl ?_
          refine gi_iload_n (q := 36) (i := 1) C (dm_Pr_addInstruction 19 rfl) rfl rfl rfl ?_
          refine gi_iald (q := 37) C (dm_Pr_addInstruction 20 rfl) rfl rfl (by repeat (first | exact gi_up_self _ _ _ | assumption | rw [gi_up_ne (by omega)])) (in_nI (isM_t (bI_n0.mp (by assumption))).1 (isM_t (bI_n0.mp (by assumption))).2 (by omega) (by omega)) ?_
          refine gi_istore (q := 39) C (dm_Pr_addInstruction 21 rfl) rfl (Nat.le_of_ble_eq_true rfl) ?_
          refine gi_aload_n (q := 40) (i := 0) C (dm_Pr_addInstruction 22 rfl) rfl rfl rfl ?_
          refine gi_get (q := 43) C (dm_Pr_addInstruction 23 rfl) rfl fl_Pr_27 (by repeat (first | exact gi_up_self _ _ _ | assumption | rw [gi_up_ne (by omega)])) rfl ?_
          refine gi_iload_n (q := 44) (i := 1) C (dm_Pr_addInstruction 24 rfl) rfl rfl rfl ?_
          refine gi_bipush (q := 46) (v := 60) C (dm_Pr_addInstruction 25 rfl) rfl (by decide) ?_
          refine gi_imul (q := 47) C (dm_Pr_addInstruction 26 rfl) rfl ?_
          refine gi_iload (q := 49) C (dm_Pr_addInstruction 27 rfl) rfl rfl ?_
          refine gi_iadd (q := 50) C (dm_Pr_addInstruction 28 rfl) rfl ?_
          refine gi_iload_n (q := 51) (i := 2) C (dm_Pr_addInstruction 29 rfl) rfl rfl rfl ?_
          refine gi_iast (q := 52) C (dm_Pr_addInstruction 30 rfl) rfl rfl (by repeat (first | exact gi_up_self _ _ _ | assumption | rw [gi_up_ne (by omega)])) (by obtain ⟨j, hj, rfl⟩ := isM_nI hk (bI_n0.mp c5); obtain ⟨q, hq, e⟩ := hL j hj; rw [nI_clamp (show j < 2 ^ 31 by omega), e] at c26 ⊢; rw [show (60 : Int32) = nI 60 from rfl, nI_ltI (by omega) (by omega)] at c26; rw [show (60 : Int32) = nI 60 from rfl, pk_mul, nI_add]; exact vp_in_nI (by omega) (by omega)) ?_
          refine gi_aload_n (q := 53) (i := 0) C (dm_Pr_addInstruction 31 rfl) rfl rfl rfl ?_
          refine gi_get (q := 56) C (dm_Pr_addInstruction 32 rfl) rfl fl_Pr_30 (by repeat (first | exact gi_up_self _ _ _ | assumption | rw [gi_up_ne (by omega)])) rfl ?_
          refine gi_iload_n (q := 57) (i := 1) C (dm_Pr_addInstruction 33 rfl) rfl rfl rfl ?_
          refine gi_bipush (q := 59) (v := 60) C (dm_Pr_addInstruction 34 rfl) rfl (by decide) ?_
          refine gi_imul (q := 60) C (dm_Pr_addInstruction 35 rfl) rfl ?_
          refine gi_iload (q := 62) C (dm_Pr_addInstruction 36 rfl) rfl rfl ?_
          refine gi_iadd (q := 63) C (dm_Pr_addInstruction 37 rfl) rfl ?_
          refine gi_iload_n (q := 64) (i := 3) C (dm_Pr_addInstruction 38 rfl) rfl rfl rfl ?_
          refine gi_iast (q := 65) C (dm_Pr_addInstruction 39 rfl) rfl rfl (by repeat (first | exact gi_up_self _ _ _ | assumption | rw [gi_up_ne (by omega)])) (by obtain ⟨j, hj, rfl⟩ := isM_nI hk (bI_n0.mp c5); obtain ⟨q, hq, e⟩ := hL j hj; rw [nI_clamp (show j < 2 ^ 31 by omega), e] at c26 ⊢; rw [show (60 : Int32) = nI 60 from rfl, nI_ltI (by omega) (by omega)] at c26; rw [show (60 : Int32) = nI 60 from rfl, pk_mul, nI_add]; exact vp_in_nI (by omega) (by omega)) ?_
          refine gi_aload_n (q := 66) (i := 0) C (dm_Pr_addInstruction 40 rfl) rfl rfl rfl ?_
          refine gi_get (q := 69) C (dm_Pr_addInstruction 41 rfl) rfl fl_Pr_24 (by repeat (first | exact gi_up_self _ _ _ | assumption | rw [gi_up_ne (by omega)])) rfl ?_
          refine gi_iload_n (q := 70) (i := 1) C (dm_Pr_addInstruction 42 rfl) rfl rfl rfl ?_
          refine gi_iload (q := 72) C (dm_Pr_addInstruction 43 rfl) rfl rfl ?_
          refine gi_iconst (q := 73) (v := 1) C (dm_Pr_addInstruction 44 rfl) rfl (by decide) ?_
          refine gi_iadd (q := 74) C (dm_Pr_addInstruction 45 rfl) rfl ?_
          refine gi_iast (q := 75) C (dm_Pr_addInstruction 46 rfl) rfl rfl (by repeat (first | exact gi_up_self _ _ _ | assumption | rw [gi_up_ne (by omega)])) (in_nI (isM_t (bI_n0.mp (by assumption))).1 (isM_t (bI_n0.mp (by assumption))).2 (by omega) (by omega)) ?_
          refine gi_iload (q := 77) C (dm_Pr_addInstruction 47 rfl) rfl rfl ?_
          refine gi_iret C hr (dm_Pr_addInstruction 48 rfl) ?_
          obtain ⟨j, hj, rfl⟩ := isM_nI hk (bI_n0.mp c5)
          obtain ⟨q, hq, e⟩ := hL j hj
          have hcj : (nI j).toNatClampNeg = j := nI_clamp (by omega)
          rw [hcj, e] at c26
          rw [show (60 : Int32) = nI 60 from rfl, nI_ltI (by omega) (by omega)] at c26
          have h6 : (nI j * 60 + nI q).toNatClampNeg = 60 * j + q := by rw [show (60 : Int32) = nI 60 from rfl, pk_mul, nI_add, nI_clamp (by omega)]; omega
          simp only [hcj, e, h6, nI_1]
          refine ⟨by trivial, fun b hb => ?_, Or.inl ⟨j, q, hj, rfl, c26, e, ?_, ?_, rfl, ⟨?_, ?_, ?_, ?_, ?_, ?_, ?_, ?_⟩⟩⟩
          · repeat (first | rfl | rw [gi_up_ne (by omega)])
          · exact Int32.not_lt.mp c9
          · exact Int32.not_lt.mp c15
          · repeat (first | exact gi_up_self _ _ _ | assumption | rw [gi_up_ne (by omega)])
          · repeat (first | exact gi_up_self _ _ _ | assumption | rw [gi_up_ne (by omega)])
          · repeat (first | exact gi_up_self _ _ _ | assumption | rw [gi_up_ne (by omega)])
          · repeat (first | exact gi_up_self _ _ _ | assumption | rw [gi_up_ne (by omega)])
          · repeat (first | exact gi_up_self _ _ _ | assumption | rw [gi_up_ne (by omega)])
          · repeat (first | exact gi_up_self _ _ _ | assumption | rw [gi_up_ne (by omega)])
          · repeat (first | exact gi_up_self _ _ _ | assumption | rw [gi_up_ne (by omega)])
          · repeat (first | exact gi_up_self _ _ _ | assumption | rw [gi_up_ne (by omega)])
        · refine gi_iconst (q := 30) (v := -1) C (dm_Pr_addInstruction 15 rfl) rfl (by decide) ?_
          refine gi_iret C hr (dm_Pr_addInstruction 16 rfl) ?_
          refine ⟨rfl, fun _ _ => rfl, Or.inr ⟨?_, rfl, rfl⟩⟩
          first
            | exact Or.inl (bI_0.mp (by assumption))
            | exact Or.inr (Or.inl (by assumption))
            | exact Or.inr (Or.inr (Or.inl (by assumption)))
            | (refine Or.inr (Or.inr (Or.inr ?_))
               obtain ⟨j, hj, rfl⟩ := isM_nI hk (bI_n0.mp c5)
               obtain ⟨q, hq, e⟩ := hL j hj
               rw [nI_clamp (show j < 2 ^ 31 by omega), e] at c26 ⊢
               rw [show (60 : Int32) = nI 60 from rfl, nI_ltI (by omega) (by omega)] at c26
               rw [show q = 60 by omega]; rfl)
end PR2
