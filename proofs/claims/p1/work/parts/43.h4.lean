section H4
variable {l : Launch} {V : gi_V} {n : Nat} {h : gi_H} {X a k c : Nat} {cr ct : Int32} {S S' : Nat → Int32} {F P F' : Nat → Nat → Int32} {J : Nat → Int64} {pr bu fa gv : Nat}
set_option maxHeartbeats 4000000 in
set_option maxRecDepth 100000 in
theorem c_H_build_0 (HX : hs_ob X ct cr h) (HP : pr_at (X + 1) 0 P h) (HB : bu_at (X + 9) (X + 1) S F h) : gi_T l V y_H_build b_H_build 1 (some .int) 6 138 0 0 [.ref X] n h (fun v n' h' => v = some (.int 1) ∧ n' = n ∧ hs_ob X 0 cr h' ∧ bu_at (X + 9) (X + 1) (bu_ok (upS S 0 0)) F h' ∧ ∀ b, b ≠ X → b ≠ X + 9 → h' b = h b) := by
  refine gi_enter (by decide) (Nat.le_of_ble_eq_true rfl) ?_
  intro _ _ _ _ _ _ _ _ C hr hnm
  have HX0 := HX
  unfold hs_ob at HX0
  refine gi_aload_n (q := 1) (i := 0) C (dm_H_build 0 rfl) rfl rfl rfl ?_
  refine gi_callv 0 (q := 4) C (dm_H_build 1 rfl) rfl my_H_takeAway lk_H_81 im_H_takeAway rfl (c_H_takeAway HX HB) HX0 rfl rfl ⟨(Nat.le_of_ble_eq_true rfl), (Nat.le_of_ble_eq_true rfl)⟩ (Nat.le_of_ble_eq_true rfl) ⟨(Nat.le_of_ble_eq_true rfl), (Nat.le_of_ble_eq_true rfl)⟩ (fun r1 n1 h1 e1 => ?_)
  obtain ⟨rfl, rfl, HX2, HB2, ho2⟩ := e1
  have HP2 : pr_at (X + 1) 0 P h1 := HP.keep (fun b h1 h2 => ho2 b (by omega) (by omega))
  refine gi_aload_n (q := 5) (i := 0) C (dm_H_build 2 rfl) rfl rfl rfl ?_
  refine gi_get (q := 8) C (dm_H_build 3 rfl) rfl fl_H_21 (by first | assumption | exact HX2) rfl ?_
  refine gi_callv 0 (q := 11) C (dm_H_build 4 rfl) rfl my_Bu_make lk_H_92 im_Bu_make rfl (c_Bu_make_0 HP2 HB2) HB2.1 rfl rfl ⟨(Nat.le_of_ble_eq_true rfl), (Nat.le_of_ble_eq_true rfl)⟩ (Nat.le_of_ble_eq_true rfl) ⟨(Nat.le_of_ble_eq_true rfl), (Nat.le_of_ble_eq_true rfl)⟩ (fun r8 n8 h8 e8 => ?_)
  obtain ⟨rfl, rfl, HB3, ho3⟩ := e8
  refine gi_iret C hr (dm_H_build 5 rfl) ?_
  exact ⟨rfl, rfl, by unfold hs_ob at *; rw [ho3 X (by omega)]; exact HX2, HB3, fun b h1 h2 => by rw [ho3 b h2, ho2 b h1 h2]⟩
set_option maxHeartbeats 4000000 in
set_option maxRecDepth 100000 in
theorem c_Ma_told (x : Int32) (H : ma_at a pr bu fa gv S F J S' F' h) : gi_T l V y_Ma_told b_Ma_told 2 (some .long) 0 0 0 0 [.ref a, .int x] n h (gi_is (some (.long (if 0 ≤ x ∧ x < 8 then J x.toNatClampNeg else NOl))) n h) := by
  refine gi_enter (by decide) (Nat.le_of_ble_eq_true rfl) ?_
  intro _ _ _ _ _ _ _ _ C hr hnm
  obtain ⟨M0, E, M2, M3, M4, M5, M6, M7⟩ := id H
  refine gi_iload_n (q := 1) (i := 1) C (dm_Ma_told 0 rfl) rfl rfl rfl ?_
  refine gi_if_lt (q := 4) (tgt := 22) C (dm_Ma_told 1 rfl) rfl (by decide) (fun c1 => ?_) (fun c1 => ?_)
  · refine gi_ldc2 (q := 25) C (dm_Ma_told 12 rfl) rfl kc_Ma_58 ?_
    refine gi_lret C hr (dm_Ma_told 13 rfl) ?_
    refine ⟨?_, rfl, rfl⟩
    split
    · rename_i q; first | rfl | exact absurd q.1 (Int32.not_le.mpr c1) | exact absurd q.2 (Int32.not_lt.mpr c10)
    · rename_i q; first | rfl | exact absurd ⟨Int32.not_lt.mp c1, Int32.not_le.mp c10⟩ q
  · refine gi_iload_n (q := 5) (i := 1) C (dm_Ma_told 2 rfl) rfl rfl rfl ?_
    refine gi_aload_n (q := 6) (i := 0) C (dm_Ma_told 3 rfl) rfl rfl rfl ?_
    refine gi_get (q := 9) C (dm_Ma_told 4 rfl) rfl fl_Ma_22 (by assumption) rfl ?_
    refine gi_alen (q := 10) C (dm_Ma_told 5 rfl) rfl rfl (by assumption) rfl ?_
    refine gi_icmp_ge (q := 13) (tgt := 22) C (dm_Ma_told 6 rfl) rfl (by decide) (fun c10 => ?_) (fun c10 => ?_)
    · refine gi_ldc2 (q := 25) C (dm_Ma_told 12 rfl) rfl kc_Ma_58 ?_
      refine gi_lret C hr (dm_Ma_told 13 rfl) ?_
      refine ⟨?_, rfl, rfl⟩
      split
      · rename_i q; first | rfl | exact absurd q.1 (Int32.not_le.mpr c1) | exact absurd q.2 (Int32.not_lt.mpr c10)
      · rename_i q; first | rfl | exact absurd ⟨Int32.not_lt.mp c1, Int32.not_le.mp c10⟩ q
    · refine gi_aload_n (q := 14) (i := 0) C (dm_Ma_told 7 rfl) rfl rfl rfl ?_
      refine gi_get (q := 17) C (dm_Ma_told 8 rfl) rfl fl_Ma_22 (by assumption) rfl ?_
      refine gi_iload_n (q := 18) (i := 1) C (dm_Ma_told 9 rfl) rfl rfl rfl ?_
      refine gi_lald (q := 19) C (dm_Ma_told 10 rfl) rfl rfl (by assumption) (in_nI (k := 8) (Int32.not_lt.mp c1) (Int32.not_le.mp c10) (Nat.le_refl _) (by omega)) ?_
      refine gi_goto (tgt := 25) C (dm_Ma_told 11 rfl) (by decide) ?_
      refine gi_lret C hr (dm_Ma_told 13 rfl) ?_
      refine ⟨?_, rfl, rfl⟩
      split
      · rename_i q; first | rfl | exact absurd q.1 (Int32.not_le.mpr c1) | exact absurd q.2 (Int32.not_lt.mpr c10)
      · rename_i q; first | rfl | exact absurd ⟨Int32.not_lt.mp c1, Int32.not_le.mp c10⟩ q
set_option maxHeartbeats 4000000 in
set_option maxRecDepth 100000 in
theorem c_H_ran (x : Int32) (HX : hs_ob X ct cr h) (HM : ma_at (X + 16915) pr bu fa gv S F J S' F' h) : gi_T l V y_H_ran b_H_ran 2 (some .long) 1 21 0 0 [.ref X, .int x] n h (gi_is (some (.long (if 0 ≤ x ∧ x < 8 then J x.toNatClampNeg else NOl))) n h) := by
  refine gi_enter (by decide) (Nat.le_of_ble_eq_true rfl) ?_
  intro _ _ _ _ _ _ _ _ C hr hnm
  have HX0 := HX
  unfold hs_ob at HX0
  refine gi_aload_n (q := 1) (i := 0) C (dm_H_ran 0 rfl) rfl rfl rfl ?_
  refine gi_get (q := 4) C (dm_H_ran 1 rfl) rfl fl_H_65 (by assumption) rfl ?_
  refine gi_iload_n (q := 5) (i := 1) C (dm_H_ran 2 rfl) rfl rfl rfl ?_
  refine gi_callv 1 (q := 8) C (dm_H_ran 3 rfl) rfl my_Ma_told lk_H_231 im_Ma_told rfl (c_Ma_told x HM) HM.1 rfl rfl ⟨(Nat.le_of_ble_eq_true rfl), (Nat.le_of_ble_eq_true rfl)⟩ (Nat.le_of_ble_eq_true rfl) ⟨(Nat.le_of_ble_eq_true rfl), (Nat.le_of_ble_eq_true rfl)⟩ (fun r5 n5 h5 e5 => ?_)
  obtain ⟨rfl, rfl, rfl⟩ := e5
  refine gi_lret C hr (dm_H_ran 4 rfl) ?_
  exact ⟨rfl, rfl, rfl⟩
set_option maxHeartbeats 4000000 in
set_option maxRecDepth 100000 in
theorem c_H_outside (HX : hs_ob X ct cr h) (HM : ma_at (X + 16915) pr bu fa gv S F J S' F' h) : gi_T l V y_H_outside b_H_outside 1 (some .int) 0 0 0 0 [.ref X] n h (gi_is (some (.int (S 0))) n h) := by
  refine gi_enter (by decide) (Nat.le_of_ble_eq_true rfl) ?_
  intro _ _ _ _ _ _ _ _ C hr hnm
  have HX0 := HX
  unfold hs_ob at HX0
  have M0 := HM.1
  refine gi_aload_n (q := 1) (i := 0) C (dm_H_outside 0 rfl) rfl rfl rfl ?_
  refine gi_get (q := 4) C (dm_H_outside 1 rfl) rfl fl_H_65 (by assumption) rfl ?_
  refine gi_get (q := 7) C (dm_H_outside 2 rfl) rfl fl_H_233 (by assumption) rfl ?_
  refine gi_iret C hr (dm_H_outside 3 rfl) ?_
  exact ⟨rfl, rfl, rfl⟩
def okA (c : Nat) (t x : Int32) : Prop := c < 3 ∧ 0 ≤ t ∧ t ≤ 2 ∧ (t = 1 → 0 ≤ x ∧ x ≤ 200)
def gv_add (F : Nat → Nat → Int32) (c : Nat) (t x : Int32) : Nat → Nat → Int32 := fun j => match j with
  | 1 => upd (F 1) c t
  | 2 => upd (F 2) c x
  | 3 => fun i => if 200 * c ≤ i ∧ i < 200 * c + 200 then 0 else F 3 i
  | _ => F j
def out4 (a : Nat) (h h' : gi_H) : Prop := ∀ b, b < a ∨ a + 4 ≤ b → h' b = h b
set_option maxHeartbeats 4000000 in
set_option maxRecDepth 100000 in
theorem c_Gi_add (t x : Int32) (hc : c ≤ 3) (hS : S 0 = nI c) (H : gv_at a S F h) : gi_T l V y_Gi_add b_Gi_add 4 (some .int) 0 0 0 0 [.ref a, .int t, .int x] n h (fun v n' h' => n' = n ∧ out4 a h h' ∧ ((okA c t x ∧ v = some (.int (nI (c + 1))) ∧ gv_at a (upS S 0 (nI (c + 1))) (gv_add F c t x) h') ∨ (¬ okA c t x ∧ v = some (.int (-1)) ∧ h' = h))) := by
  refine gi_enter (by decide) (Nat.le_of_ble_eq_true rfl) ?_
  intro _ _ _ _ _ _ _ _ C hr hnm
  obtain ⟨G0, G1, G2, G3⟩ := id H
  refine gi_aload_n (q := 1) (i := 0) C (dm_Gi_add 0 rfl) rfl rfl rfl ?_
  refine gi_get (q := 4) C (dm_Gi_add 1 rfl) rfl fl_Gi_21 (by repeat (first | exact gi_up_self _ _ _ | assumption | rw [gi_up_ne (by omega)])) rfl ?_
  refine gi_iconst (q := 5) (v := 3) C (dm_Gi_add 2 rfl) rfl (by decide) ?_
  refine gi_icmp_ge (q := 8) (tgt := 17) C (dm_Gi_add 3 rfl) rfl (by decide) (fun c5 => ?_) (fun c5 => ?_)
  · refine gi_iconst (q := 18) (v := -1) C (dm_Gi_add 9 rfl) rfl (by decide) ?_
    refine gi_iret C hr (dm_Gi_add 10 rfl) ?_
    refine ⟨rfl, fun _ _ => rfl, Or.inr ⟨fun q => ?_, rfl, rfl⟩⟩
    obtain ⟨q1, q2, q3, q4⟩ := q
    first
      | (rw [hS, show (3 : Int32) = nI 3 from rfl, nI_leI (by omega) (by omega)] at c5; omega)
      | exact absurd q2 (Int32.not_le.mpr c9)
      | exact absurd q3 c14
      | exact absurd (q4 (Decidable.not_not.mp c21)).1 (Int32.not_le.mpr c25)
      | exact absurd (q4 (Decidable.not_not.mp c21)).2 c32
      | exact absurd (q4 c21).1 (Int32.not_le.mpr c25)
      | exact absurd (q4 c21).2 c32
  · refine gi_iload_n (q := 9) (i := 1) C (dm_Gi_add 4 rfl) rfl rfl rfl ?_
    refine gi_if_lt (q := 12) (tgt := 17) C (dm_Gi_add 5 rfl) rfl (by decide) (fun c9 => ?_) (fun c9 => ?_)
    · refine gi_iconst (q := 18) (v := -1) C (dm_Gi_add 9 rfl) rfl (by decide) ?_
      refine gi_iret C hr (dm_Gi_add 10 rfl) ?_
      refine ⟨rfl, fun _ _ => rfl, Or.inr ⟨fun q => ?_, rfl, rfl⟩⟩
      obtain ⟨q1, q2, q3, q4⟩ := q
      first
        | (rw [hS, show (3 : Int32) = nI 3 from rfl, nI_leI (by omega) (by omega)] at c5; omega)
        | exact absurd q2 (Int32.not_le.mpr c9)
        | exact absurd q3 c14
        | exact absurd (q4 (Decidable.not_not.mp c21)).1 (Int32.not_le.mpr c25)
        | exact absurd (q4 (Decidable.not_not.mp c21)).2 c32
        | exact absurd (q4 c21).1 (Int32.not_le.mpr c25)
        | exact absurd (q4 c21).2 c32
    · refine gi_iload_n (q := 13) (i := 1) C (dm_Gi_add 6 rfl) rfl rfl rfl ?_
      refine gi_iconst (q := 14) (v := 2) C (dm_Gi_add 7 rfl) rfl (by decide) ?_
      refine gi_icmp_le (q := 17) (tgt := 19) C (dm_Gi_add 8 rfl) rfl (by decide) (fun c14 => ?_) (fun c14 => ?_)
      · refine gi_iload_n (q := 20) (i := 1) C (dm_Gi_add 11 rfl) rfl rfl rfl ?_
        refine gi_iconst (q := 21) (v := 1) C (dm_Gi_add 12 rfl) rfl (by decide) ?_
        refine gi_icmp_ne (q := 24) (tgt := 37) C (dm_Gi_add 13 rfl) rfl (by decide) (fun c21 => ?_) (fun c21 => ?_)
        · have hc3 : c < 3 := by
            rw [hS, show (3 : Int32) = nI 3 from rfl, nI_leI (by omega) (by omega)] at c5
            omega
          refine gi_aload_n (q := 38) (i := 0) C (dm_Gi_add 21 rfl) rfl rfl rfl ?_
          refine gi_get (q := 41) C (dm_Gi_add 22 rfl) rfl fl_Gi_9 (by repeat (first | exact gi_up_self _ _ _ | assumption | rw [gi_up_ne (by omega)])) rfl ?_
          refine gi_aload_n (q := 42) (i := 0) C (dm_Gi_add 23 rfl) rfl rfl rfl ?_
          refine gi_get (q := 45) C (dm_Gi_add 24 rfl) rfl fl_Gi_21 (by repeat (first | exact gi_up_self _ _ _ | assumption | rw [gi_up_ne (by omega)])) rfl ?_
          refine gi_iload_n (q := 46) (i := 1) C (dm_Gi_add 25 rfl) rfl rfl rfl ?_
          refine gi_iast (q := 47) C (dm_Gi_add 26 rfl) rfl rfl (by repeat (first | exact gi_up_self _ _ _ | assumption | rw [gi_up_ne (by omega)])) (by rw [hS]; exact vp_in_nI hc3 (by omega)) ?_
          refine gi_aload_n (q := 48) (i := 0) C (dm_Gi_add 27 rfl) rfl rfl rfl ?_
          refine gi_get (q := 51) C (dm_Gi_add 28 rfl) rfl fl_Gi_15 (by repeat (first | exact gi_up_self _ _ _ | assumption | rw [gi_up_ne (by omega)])) rfl ?_
          refine gi_aload_n (q := 52) (i := 0) C (dm_Gi_add 29 rfl) rfl rfl rfl ?_
          refine gi_get (q := 55) C (dm_Gi_add 30 rfl) rfl fl_Gi_21 (by repeat (first | exact gi_up_self _ _ _ | assumption | rw [gi_up_ne (by omega)])) rfl ?_
          refine gi_iload_n (q := 56) (i := 2) C (dm_Gi_add 31 rfl) rfl rfl rfl ?_
          refine gi_iast (q := 57) C (dm_Gi_add 32 rfl) rfl rfl (by repeat (first | exact gi_up_self _ _ _ | assumption | rw [gi_up_ne (by omega)])) (by rw [hS]; exact vp_in_nI hc3 (by omega)) ?_
          refine gi_iconst (q := 58) (v := 0) C (dm_Gi_add 33 rfl) rfl (by decide) ?_
          refine gi_istore_n (q := 59) (i := 3) C (dm_Gi_add 34 rfl) rfl rfl (Nat.le_of_ble_eq_true rfl) ?_
          have hcc : (S 0).toNatClampNeg = c := by rw [hS]; exact nI_clamp (by omega)
          have hokA : okA c t x := ⟨hc3, Int32.not_lt.mp c9, c14, fun q => by first | exact absurd q c21 | exact ⟨Int32.not_lt.mp c25, c32⟩⟩
          simp only [hcc]
          refine gi_while (σ := Nat) (fun i => 200 - i) (fun i => [(3, .int (nI i)), (0, .ref a), (1, .int t), (2, .int x)]) (fun _ => n) (fun _ => 0) (fun _ => 0) (fun i y => i ≤ 200 ∧ y a = some (gi_O 9 [.int (S 0), .ref (a + 1), .ref (a + 2), .ref (a + 3)]) ∧ y (a + 1) = some (gi_I 0 3 (upd (F 1) c t)) ∧ y (a + 2) = some (gi_I 0 3 (upd (F 2) c x)) ∧ y (a + 3) = some (gi_I 0 600 (fun j => if 200 * c ≤ j ∧ j < 200 * c + i then 0 else F 3 j)) ∧ ∀ b, b < a ∨ a + 4 ≤ b → y b = h b) 0 ?_ ?_ (List.forall_mem_cons.mpr ⟨rfl, List.forall_mem_cons.mpr ⟨rfl, List.forall_mem_cons.mpr ⟨rfl, List.forall_mem_cons.mpr ⟨rfl, fun _ h => absurd h List.not_mem_nil⟩⟩⟩⟩) rfl rfl rfl
          · refine ⟨Nat.zero_le _, ?_, ?_, ?_, ?_, fun b hb => ?_⟩
            · repeat (first | exact gi_up_self _ _ _ | assumption | rw [gi_up_ne (by omega)])
            · repeat (first | exact gi_up_self _ _ _ | assumption | rw [gi_up_ne (by omega)])
            · repeat (first | exact gi_up_self _ _ _ | assumption | rw [gi_up_ne (by omega)])
            · rw [gi_up_ne (by omega), gi_up_ne (by omega), G3]
              congr 4
              funext j
              rw [if_neg (by omega)]
            · repeat (first | rfl | rw [gi_up_ne (by omega)])
          · rintro i y ⟨hi, y0, y1, y2, y3, yo⟩ ih
            try dsimp only at *
            refine gi_iload_n (q := 60) (i := 3) C (dm_Gi_add 35 rfl) rfl rfl rfl ?_
            refine gi_sipush (q := 63) (v := 200) C (dm_Gi_add 36 rfl) rfl (by decide) ?_
            refine gi_icmp_ge (q := 66) (tgt := 88) C (dm_Gi_add 37 rfl) rfl (by decide) (fun c63 => ?_) (fun c63 => ?_)
            · have hik : i = 200 := by
                rcases Nat.lt_or_ge i 200 with q | q
                · exact absurd c63 (show ¬ (200 : Int32) ≤ nI i from nI_ge (b := 200) q (by omega))
                · omega
              subst hik
              refine gi_aload_n (q := 89) (i := 0) C (dm_Gi_add 50 rfl) rfl rfl rfl ?_
              refine gi_dup (q := 90) C (dm_Gi_add 51 rfl) rfl rfl ?_
              refine gi_get (q := 93) C (dm_Gi_add 52 rfl) rfl fl_Gi_21 (by repeat (first | exact gi_up_self _ _ _ | assumption | rw [gi_up_ne (by omega)])) rfl ?_
              refine gi_iconst (q := 94) (v := 1) C (dm_Gi_add 53 rfl) rfl (by decide) ?_
              refine gi_iadd (q := 95) C (dm_Gi_add 54 rfl) rfl ?_
              refine gi_put (q := 98) C (dm_Gi_add 55 rfl) rfl fl_Gi_21 fp_Gi_0 (by repeat (first | exact gi_up_self _ _ _ | assumption | rw [gi_up_ne (by omega)])) (Nat.le_of_ble_eq_true rfl) rfl rfl ?_
              refine gi_aload_n (q := 99) (i := 0) C (dm_Gi_add 56 rfl) rfl rfl rfl ?_
              refine gi_get (q := 102) C (dm_Gi_add 57 rfl) rfl fl_Gi_21 (by repeat (first | exact gi_up_self _ _ _ | assumption | rw [gi_up_ne (by omega)])) rfl ?_
              refine gi_iret C hr (dm_Gi_add 58 rfl) ?_
              refine ⟨rfl, fun b hb => by rw [gi_up_ne (by omega), yo b hb], Or.inl ⟨hokA, by rw [hS, nI_1], ⟨?_, ?_, ?_, ?_⟩⟩⟩
              · rw [gi_up_self, hS, nI_1]; rfl
              · rw [gi_up_ne (by omega)]; exact y1
              · rw [gi_up_ne (by omega)]; exact y2
              · rw [gi_up_ne (by omega)]; exact y3
            · have hlt : i < 200 := by
                rcases Nat.lt_or_ge i 200 with q | q
                · exact q
                · exact absurd (show (200 : Int32) ≤ nI i from nI_le (a := 200) q (by omega)) c63
              have hix : S 0 * 200 + nI i = nI (200 * c + i) := by rw [hS, show (200 : Int32) = nI 200 from rfl, pk_mul, nI_add, Nat.mul_comm]
              refine gi_aload_n (q := 67) (i := 0) C (dm_Gi_add 38 rfl) rfl rfl rfl ?_
              refine gi_get (q := 70) C (dm_Gi_add 39 rfl) rfl fl_Gi_18 (by repeat (first | exact gi_up_self _ _ _ | assumption | rw [gi_up_ne (by omega)])) rfl ?_
              refine gi_aload_n (q := 71) (i := 0) C (dm_Gi_add 40 rfl) rfl rfl rfl ?_
              refine gi_get (q := 74) C (dm_Gi_add 41 rfl) rfl fl_Gi_21 (by repeat (first | exact gi_up_self _ _ _ | assumption | rw [gi_up_ne (by omega)])) rfl ?_
              refine gi_sipush (q := 77) (v := 200) C (dm_Gi_add 42 rfl) rfl (by decide) ?_
              refine gi_imul (q := 78) C (dm_Gi_add 43 rfl) rfl ?_
              refine gi_iload_n (q := 79) (i := 3) C (dm_Gi_add 44 rfl) rfl rfl rfl ?_
              refine gi_iadd (q := 80) C (dm_Gi_add 45 rfl) rfl ?_
              refine gi_iconst (q := 81) (v := 0) C (dm_Gi_add 46 rfl) rfl (by decide) ?_
              refine gi_iast (q := 82) C (dm_Gi_add 47 rfl) rfl rfl (by repeat (first | exact gi_up_self _ _ _ | assumption | rw [gi_up_ne (by omega)])) (by rw [hix]; exact vp_in_nI (by omega) (by omega)) ?_
              refine gi_iinc (q := 85) (v := 1) C (dm_Gi_add 48 rfl) rfl rfl (by decide) (Nat.le_of_ble_eq_true rfl) ?_
              refine gi_goto (tgt := 59) C (dm_Gi_add 49 rfl) (by decide) ?_
              refine gi_close (ih (i + 1) _ ⟨hlt, ?_, ?_, ?_, ?_, fun b hb => ?_⟩ (by omega)) (List.forall_mem_cons.mpr ⟨(by simp [gi_look, nI_1]), List.forall_mem_cons.mpr ⟨rfl, List.forall_mem_cons.mpr ⟨rfl, List.forall_mem_cons.mpr ⟨rfl, fun _ h => absurd h List.not_mem_nil⟩⟩⟩⟩) rfl rfl rfl
              · repeat (first | exact gi_up_self _ _ _ | assumption | rw [gi_up_ne (by omega)])
              · repeat (first | exact gi_up_self _ _ _ | assumption | rw [gi_up_ne (by omega)])
              · repeat (first | exact gi_up_self _ _ _ | assumption | rw [gi_up_ne (by omega)])
              · rw [gi_up_self, hix, nI_clamp (by omega)]
                congr 4
                funext j
                unfold upd
                by_cases q : j = 200 * c + i
                · rw [if_pos q, if_pos (by omega)]
                · rw [if_neg q]
                  dsimp only
                  by_cases q2 : 200 * c ≤ j ∧ j < 200 * c + i
                  · rw [if_pos q2, if_pos (by omega)]
                  · rw [if_neg q2, if_neg (by omega)]
              · rw [gi_up_ne (by omega), yo b hb]
        · refine gi_iload_n (q := 25) (i := 2) C (dm_Gi_add 14 rfl) rfl rfl rfl ?_
          refine gi_if_lt (q := 28) (tgt := 35) C (dm_Gi_add 15 rfl) rfl (by decide) (fun c25 => ?_) (fun c25 => ?_)
          · refine gi_iconst (q := 36) (v := -1) C (dm_Gi_add 19 rfl) rfl (by decide) ?_
            refine gi_iret C hr (dm_Gi_add 20 rfl) ?_
            refine ⟨rfl, fun _ _ => rfl, Or.inr ⟨fun q => ?_, rfl, rfl⟩⟩
            obtain ⟨q1, q2, q3, q4⟩ := q
            first
              | (rw [hS, show (3 : Int32) = nI 3 from rfl, nI_leI (by omega) (by omega)] at c5; omega)
              | exact absurd q2 (Int32.not_le.mpr c9)
              | exact absurd q3 c14
              | exact absurd (q4 (Decidable.not_not.mp c21)).1 (Int32.not_le.mpr c25)
              | exact absurd (q4 (Decidable.not_not.mp c21)).2 c32
              | exact absurd (q4 c21).1 (Int32.not_le.mpr c25)
              | exact absurd (q4 c21).2 c32
          · refine gi_iload_n (q := 29) (i := 2) C (dm_Gi_add 16 rfl) rfl rfl rfl ?_
            refine gi_sipush (q := 32) (v := 200) C (dm_Gi_add 17 rfl) rfl (by decide) ?_
            refine gi_icmp_le (q := 35) (tgt := 37) C (dm_Gi_add 18 rfl) rfl (by decide) (fun c32 => ?_) (fun c32 => ?_)
            · have hc3 : c < 3 := by
                rw [hS, show (3 : Int32) = nI 3 from rfl, nI_leI (by omega) (by omega)] at c5
                omega
              refine gi_aload_n (q := 38) (i := 0) C (dm_Gi_add 21 rfl) rfl rfl rfl ?_
              refine gi_get (q := 41) C (dm_Gi_add 22 rfl) rfl fl_Gi_9 (by repeat (first | exact gi_up_self _ _ _ | assumption | rw [gi_up_ne (by omega)])) rfl ?_
              refine gi_aload_n (q := 42) (i := 0) C (dm_Gi_add 23 rfl) rfl rfl rfl ?_
              refine gi_get (q := 45) C (dm_Gi_add 24 rfl) rfl fl_Gi_21 (by repeat (first | exact gi_up_self _ _ _ | assumption | rw [gi_up_ne (by omega)])) rfl ?_
              refine gi_iload_n (q := 46) (i := 1) C (dm_Gi_add 25 rfl) rfl rfl rfl ?_
              refine gi_iast (q := 47) C (dm_Gi_add 26 rfl) rfl rfl (by repeat (first | exact gi_up_self _ _ _ | assumption | rw [gi_up_ne (by omega)])) (by rw [hS]; exact vp_in_nI hc3 (by omega)) ?_
              refine gi_aload_n (q := 48) (i := 0) C (dm_Gi_add 27 rfl) rfl rfl rfl ?_
              refine gi_get (q := 51) C (dm_Gi_add 28 rfl) rfl fl_Gi_15 (by repeat (first | exact gi_up_self _ _ _ | assumption | rw [gi_up_ne (by omega)])) rfl ?_
              refine gi_aload_n (q := 52) (i := 0) C (dm_Gi_add 29 rfl) rfl rfl rfl ?_
              refine gi_get (q := 55) C (dm_Gi_add 30 rfl) rfl fl_Gi_21 (by repeat (first | exact gi_up_self _ _ _ | assumption | rw [gi_up_ne (by omega)])) rfl ?_
              refine gi_iload_n (q := 56) (i := 2) C (dm_Gi_add 31 rfl) rfl rfl rfl ?_
              refine gi_iast (q := 57) C (dm_Gi_add 32 rfl) rfl rfl (by repeat (first | exact gi_up_self _ _ _ | assumption | rw [gi_up_ne (by omega)])) (by rw [hS]; exact vp_in_nI hc3 (by omega)) ?_
              refine gi_iconst (q := 58) (v := 0) C (dm_Gi_add 33 rfl) rfl (by decide) ?_
              refine gi_istore_n (q := 59) (i := 3) C (dm_Gi_add 34 rfl) rfl rfl (Nat.le_of_ble_eq_true rfl) ?_
              have hcc : (S 0).toNatClampNeg = c := by rw [hS]; exact nI_clamp (by omega)
              have hokA : okA c t x := ⟨hc3, Int32.not_lt.mp c9, c14, fun q => by first | exact absurd q c21 | exact ⟨Int32.not_lt.mp c25, c32⟩⟩
              simp only [hcc]
              refine gi_while (σ := Nat) (fun i => 200 - i) (fun i => [(3, .int (nI i)), (0, .ref a), (1, .int t), (2, .int x)]) (fun _ => n) (fun _ => 0) (fun _ => 0) (fun i y => i ≤ 200 ∧ y a = some (gi_O 9 [.int (S 0), .ref (a + 1), .ref (a + 2), .ref (a + 3)]) ∧ y (a + 1) = some (gi_I 0 3 (upd (F 1) c t)) ∧ y (a + 2) = some (gi_I 0 3 (upd (F 2) c x)) ∧ y (a + 3) = some (gi_I 0 600 (fun j => if 200 * c ≤ j ∧ j < 200 * c + i then 0 else F 3 j)) ∧ ∀ b, b < a ∨ a + 4 ≤ b → y b = h b) 0 ?_ ?_ (List.forall_mem_cons.mpr ⟨rfl, List.forall_mem_cons.mpr ⟨rfl, List.forall_mem_cons.mpr ⟨rfl, List.forall_mem_cons.mpr ⟨rfl, fun _ h => absurd h List.not_mem_nil⟩⟩⟩⟩) rfl rfl rfl
              · refine ⟨Nat.zero_le _, ?_, ?_, ?_, ?_, fun b hb => ?_⟩
                · repeat (first | exact gi_up_self _ _ _ | assumption | rw [gi_up_ne (by omega)])
                · repeat (first | exact gi_up_self _ _ _ | assumption | rw [gi_up_ne (by omega)])
                · repeat (first | exact gi_up_self _ _ _ | assumption | rw [gi_up_ne (by omega)])
                · rw [gi_up_ne (by omega), gi_up_ne (by omega), G3]
                  congr 4
                  funext j
                  rw [if_neg (by omega)]
                · repeat (first | rfl | rw [gi_up_ne (by omega)])
              · rintro i y ⟨hi, y0, y1, y2, y3, yo⟩ ih
                try dsimp only at *
                refine gi_iload_n (q := 60) (i := 3) C (dm_Gi_add 35 rfl) rfl rfl rfl ?_
                refine gi_sipush (q := 63) (v := 200) C (dm_Gi_add 36 rfl) rfl (by decide) ?_
                refine gi_icmp_ge (q := 66) (tgt := 88) C (dm_Gi_add 37 rfl) rfl (by decide) (fun c63 => ?_) (fun c63 => ?_)
                · have hik : i = 200 := by
                    rcases Nat.lt_or_ge i 200 with q | q
                    · exact absurd c63 (show ¬ (200 : Int32) ≤ nI i from nI_ge (b := 200) q (by omega))
                    · omega
                  subst hik
                  refine gi_aload_n (q := 89) (i := 0) C (dm_Gi_add 50 rfl) rfl rfl rfl ?_
                  refine gi_dup (q := 90) C (dm_Gi_add 51 rfl) rfl rfl ?_
                  refine gi_get (q := 93) C (dm_Gi_add 52 rfl) rfl fl_Gi_21 (by repeat (first | exact gi_up_self _ _ _ | assumption | rw [gi_up_ne (by omega)])) rfl ?_
                  refine gi_iconst (q := 94) (v := 1) C (dm_Gi_add 53 rfl) rfl (by decide) ?_
                  refine gi_iadd (q := 95) C (dm_Gi_add 54 rfl) rfl ?_
                  refine gi_put (q := 98) C (dm_Gi_add 55 rfl) rfl fl_Gi_21 fp_Gi_0 (by repeat (first | exact gi_up_self _ _ _ | assumption | rw [gi_up_ne (by omega)])) (Nat.le_of_ble_eq_true rfl) rfl rfl ?_
                  refine gi_aload_n (q := 99) (i := 0) C (dm_Gi_add 56 rfl) rfl rfl rfl ?_
                  refine gi_get (q := 102) C (dm_Gi_add 57 rfl) rfl fl_Gi_21 (by repeat (first | exact gi_up_self _ _ _ | assumption | rw [gi_up_ne (by omega)])) rfl ?_
                  refine gi_iret C hr (dm_Gi_add 58 rfl) ?_
                  refine ⟨rfl, fun b hb => by rw [gi_up_ne (by omega), yo b hb], Or.inl ⟨hokA, by rw [hS, nI_1], ⟨?_, ?_, ?_, ?_⟩⟩⟩
                  · rw [gi_up_self, hS, nI_1]; rfl
                  · rw [gi_up_ne (by omega)]; exact y1
                  · rw [gi_up_ne (by omega)]; exact y2
                  · rw [gi_up_ne (by omega)]; exact y3
                · have hlt : i < 200 := by
                    rcases Nat.lt_or_ge i 200 with q | q
                    · exact q
                    · exact absurd (show (200 : Int32) ≤ nI i from nI_le (a := 200) q (by omega)) c63
                  have hix : S 0 * 200 + nI i = nI (200 * c + i) := by rw [hS, show (200 : Int32) = nI 200 from rfl, pk_mul, nI_add, Nat.mul_comm]
                  refine gi_aload_n (q := 67) (i := 0) C (dm_Gi_add 38 rfl) rfl rfl rfl ?_
                  refine gi_get (q := 70) C (dm_Gi_add 39 rfl) rfl fl_Gi_18 (by repeat (first | exact gi_up_self _ _ _ | assumption | rw [gi_up_ne (by omega)])) rfl ?_
                  refine gi_aload_n (q := 71) (i := 0) C (dm_Gi_add 40 rfl) rfl rfl rfl ?_
                  refine gi_get (q := 74) C (dm_Gi_add 41 rfl) rfl fl_Gi_21 (by repeat (first | exact gi_up_self _ _ _ | assumption | rw [gi_up_ne (by omega)])) rfl ?_
                  refine gi_sipush (q := 77) (v := 200) C (dm_Gi_add 42 rfl) rfl (by decide) ?_
                  refine gi_imul (q := 78) C (dm_Gi_add 43 rfl) rfl ?_
                  refine gi_iload_n (q := 79) (i := 3) C (dm_Gi_add 44 rfl) rfl rfl rfl ?_
                  refine gi_iadd (q := 80) C (dm_Gi_add 45 rfl) rfl ?_
                  refine gi_iconst (q := 81) (v := 0) C (dm_Gi_add 46 rfl) rfl (by decide) ?_
                  refine gi_iast (q := 82) C (dm_Gi_add 47 rfl) rfl rfl (by repeat (first | exact gi_up_self _ _ _ | assumption | rw [gi_up_ne (by omega)])) (by rw [hix]; exact vp_in_nI (by omega) (by omega)) ?_
                  refine gi_iinc (q := 85) (v := 1) C (dm_Gi_add 48 rfl) rfl rfl (by decide) (Nat.le_of_ble_eq_true rfl) ?_
                  refine gi_goto (tgt := 59) C (dm_Gi_add 49 rfl) (by decide) ?_
                  refine gi_close (ih (i + 1) _ ⟨hlt, ?_, ?_, ?_, ?_, fun b hb => ?_⟩ (by omega)) (List.forall_mem_cons.mpr ⟨(by simp [gi_look, nI_1]), List.forall_mem_cons.mpr ⟨rfl, List.forall_mem_cons.mpr ⟨rfl, List.forall_mem_cons.mpr ⟨rfl, fun _ h => absurd h List.not_mem_nil⟩⟩⟩⟩) rfl rfl rfl
                  · repeat (first | exact gi_up_self _ _ _ | assumption | rw [gi_up_ne (by omega)])
                  · repeat (first | exact gi_up_self _ _ _ | assumption | rw [gi_up_ne (by omega)])
                  · repeat (first | exact gi_up_self _ _ _ | assumption | rw [gi_up_ne (by omega)])
                  · rw [gi_up_self, hix, nI_clamp (by omega)]
                    congr 4
                    funext j
                    unfold upd
                    by_cases q : j = 200 * c + i
                    · rw [if_pos q, if_pos (by omega)]
                    · rw [if_neg q]
                      dsimp only
                      by_cases q2 : 200 * c ≤ j ∧ j < 200 * c + i
                      · rw [if_pos q2, if_pos (by omega)]
                      · rw [if_neg q2, if_neg (by omega)]
                  · rw [gi_up_ne (by omega), yo b hb]
            · refine gi_iconst (q := 36) (v := -1) C (dm_Gi_add 19 rfl) rfl (by decide) ?_
              refine gi_iret C hr (dm_Gi_add 20 rfl) ?_
              refine ⟨rfl, fun _ _ => rfl, Or.inr ⟨fun q => ?_, rfl, rfl⟩⟩
              obtain ⟨q1, q2, q3, q4⟩ := q
              first
                | (rw [hS, show (3 : Int32) = nI 3 from rfl, nI_leI (by omega) (by omega)] at c5; omega)
                | exact absurd q2 (Int32.not_le.mpr c9)
                | exact absurd q3 c14
                | exact absurd (q4 (Decidable.not_not.mp c21)).1 (Int32.not_le.mpr c25)
                | exact absurd (q4 (Decidable.not_not.mp c21)).2 c32
                | exact absurd (q4 c21).1 (Int32.not_le.mpr c25)
                | exact absurd (q4 c21).2 c32
      · refine gi_iconst (q := 18) (v := -1) C (dm_Gi_add 9 rfl) rfl (by decide) ?_
        refine gi_iret C hr (dm_Gi_add 10 rfl) ?_
        refine ⟨rfl, fun _ _ => rfl, Or.inr ⟨fun q => ?_, rfl, rfl⟩⟩
        obtain ⟨q1, q2, q3, q4⟩ := q
        first
          | (rw [hS, show (3 : Int32) = nI 3 from rfl, nI_leI (by omega) (by omega)] at c5; omega)
          | exact absurd q2 (Int32.not_le.mpr c9)
          | exact absurd q3 c14
          | exact absurd (q4 (Decidable.not_not.mp c21)).1 (Int32.not_le.mpr c25)
          | exact absurd (q4 (Decidable.not_not.mp c21)).2 c32
          | exact absurd (q4 c21).1 (Int32.not_le.mpr c25)
          | exact absurd (q4 c21).2 c32
end H4
