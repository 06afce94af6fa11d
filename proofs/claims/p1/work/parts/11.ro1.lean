section RO1
variable {l : Launch} {V : gi_V} {n : Nat} {h : gi_H}
abbrev zV : mV := (0, 0, 0, 0, 0, 0)
set_option maxHeartbeats 4000000 in
set_option maxRecDepth 100000 in
theorem c_Va_init (a : Nat) : gi_T l V y_Va_init b_Va_init 1 none 1 20 0 0 [.ref a] n h (gi_is none n h) := by
  refine gi_enter (by decide) (Nat.le_of_ble_eq_true rfl) ?_
  intro p e s m args below meth c C hr hnm
  refine gi_aload_n (q := 1) (i := 0) C (dm_Va_init 0 rfl) rfl rfl rfl ?_
  refine gi_objInit (q := 4) C (dm_Va_init 1 rfl) rfl lo_Va_3 ob_w (Nat.le_of_ble_eq_true rfl) (Nat.le_of_ble_eq_true rfl) ?_
  refine gi_vret C hr (dm_Va_init 2 rfl) ?_
  exact ⟨rfl, rfl, rfl⟩
/-- behind Row(k): the row at a, its arrays and values from n on -/
def ro_new (a k n : Nat) (h : gi_H) : Option Value → Nat → gi_H → Prop := fun r n' h' => r = none ∧ n' = n + 2 + k ∧ h' a = some (gi_O 4 [.ref n, .ref (n + 1), .int 0, .int 0, .int 0]) ∧ (∃ f : Nat → Option Nat, h' n = some (gi_R 5 k f) ∧ ∀ j, j < k → f j = some (n + 2 + j)) ∧ (∃ g : Nat → Int32, h' (n + 1) = some (gi_I 0 k g) ∧ ∀ j, j < k → g j = -1) ∧ (∀ j, j < k → h' (n + 2 + j) = some (eV zV)) ∧ ∀ b, b ≠ a → b < n → h' b = h b
set_option maxHeartbeats 4000000 in
set_option maxRecDepth 100000 in
theorem c_Ro_init (a k : Nat) (hk : k ≤ 14) (ha : h a = some (gi_O 4 z_Ro)) (han : a < n) : gi_T l V y_Ro_init b_Ro_init 3 none 2 40 (k + 2) (8 * k) [.ref a, .int (nI k)] n h (ro_new a k n h) := by
  refine gi_enter (by decide) (Nat.le_of_ble_eq_true rfl) ?_
  intro p e s m args below meth c C hr hnm
  refine gi_aload_n (q := 1) (i := 0) C (dm_Ro_init 0 rfl) rfl rfl rfl ?_
  refine gi_objInit (q := 4) C (dm_Ro_init 1 rfl) rfl lo_Ro_3 ob_w (Nat.le_of_ble_eq_true rfl) (Nat.le_of_ble_eq_true rfl) ?_
  refine gi_aload_n (q := 5) (i := 0) C (dm_Ro_init 2 rfl) rfl rfl rfl ?_
  refine gi_iload_n (q := 6) (i := 1) C (dm_Ro_init 3 rfl) rfl rfl rfl ?_
  refine gi_newq (kd := 5) (q := 9) (N := k) C (dm_Ro_init 4 rfl) rfl cl_Ro_9 ao_Va rfl (nI_pos (by omega)) (nI_clamp (by omega)) (by show k * 4 ≤ _; omega) (by first | omega | (dsimp only; omega)) (by first | omega | (dsimp only; omega)) ?_
  refine gi_putF (q := 12) C hnm (dm_Ro_init 5 rfl) rfl fF_Ro_11 fp_Ro_0 rfl (by repeat (first | exact gi_up_self _ _ _ | assumption | rw [gi_up_ne (by omega)])) (Nat.le_of_ble_eq_true rfl) rfl rfl ?_
  refine gi_aload_n (q := 13) (i := 0) C (dm_Ro_init 6 rfl) rfl rfl rfl ?_
  refine gi_iload_n (q := 14) (i := 1) C (dm_Ro_init 7 rfl) rfl rfl rfl ?_
  refine gi_newa (kd := 0) (q := 16) (N := k) (a0 := (k, .inl (fun _ => 0))) C (dm_Ro_init 8 rfl) rfl ac_int rfl rfl (fun _ => rfl) (nI_pos (by omega)) (nI_clamp (by omega)) (by show k * 4 ≤ _; omega) (by first | omega | (dsimp only; omega)) (by first | omega | (dsimp only; omega)) ?_
  refine gi_putF (q := 19) C hnm (dm_Ro_init 9 rfl) rfl fF_Ro_17 fp_Ro_1 rfl (by repeat (first | exact gi_up_self _ _ _ | assumption | rw [gi_up_ne (by omega)])) (Nat.le_of_ble_eq_true rfl) rfl rfl ?_
  refine gi_iconst (q := 20) (v := 0) C (dm_Ro_init 10 rfl) rfl (by decide) ?_
  refine gi_istore_n (q := 21) (i := 2) C (dm_Ro_init 11 rfl) rfl rfl (Nat.le_of_ble_eq_true rfl) ?_
  refine gi_while (σ := Nat) (fun x => k - x) (fun x => [(2, .int (nI x)), (0, .ref a), (1, .int (nI k))]) (fun x => n + 2 + x) (fun x => 2 + x) (fun x => 2 * k + 6 * x) (fun x y => x ≤ k ∧ y a = some (gi_O 4 [.ref n, .ref (n + 1), .int 0, .int 0, .int 0]) ∧ (∃ f : Nat → Option Nat, y n = some (gi_R 5 k f) ∧ ∀ j, j < x → f j = some (n + 2 + j)) ∧ (∃ g : Nat → Int32, y (n + 1) = some (gi_I 0 k g) ∧ ∀ j, j < x → g j = -1) ∧ (∀ j, j < x → y (n + 2 + j) = some (eV zV)) ∧ ∀ b, b ≠ a → b < n → y b = h b) 0 ?_ ?_ (List.forall_mem_cons.mpr ⟨rfl, List.forall_mem_cons.mpr ⟨rfl, List.forall_mem_cons.mpr ⟨rfl, fun _ h => absurd h List.not_mem_nil⟩⟩⟩) rfl rfl (by first | omega | (dsimp only; omega))
  · refine ⟨Nat.zero_le _, ?_, ⟨fun _ => none, ?_, fun j hj => absurd hj (Nat.not_lt_zero j)⟩, ⟨fun _ => 0, ?_, fun j hj => absurd hj (Nat.not_lt_zero j)⟩, fun j hj => absurd hj (Nat.not_lt_zero _), fun b hb hbn => ?_⟩
    · exact gi_up_self _ _ _
    · repeat (first | exact gi_up_self _ _ _ | rw [gi_up_ne (by omega)])
    · repeat (first | exact gi_up_self _ _ _ | rw [gi_up_ne (by omega)])
    · repeat (first | rfl | rw [gi_up_ne (by omega)])
  · rintro i hc ⟨hi, h1, ⟨f, h2, h3⟩, ⟨g, h4, h5⟩, h6, h7⟩ ih
    try dsimp only at *
    refine gi_iload_n (q := 22) (i := 2) C (dm_Ro_init 12 rfl) rfl rfl rfl ?_
    refine gi_iload_n (q := 23) (i := 1) C (dm_Ro_init 13 rfl) rfl rfl rfl ?_
    refine gi_icmp_ge (q := 26) (tgt := 52) C (dm_Ro_init 14 rfl) rfl (by decide) (fun c23 => ?_) (fun c23 => ?_)
    · have hik : i = k := by
        rcases Nat.lt_or_ge i k with q | q
        · exact absurd c23 (nI_ge q (by omega))
        · omega
      subst hik
      refine gi_widen (k1 := i + 2) (n1 := 8 * i) (by omega) (by omega) ?_
      refine gi_vret C hr (dm_Ro_init 29 rfl) ?_
      exact ⟨rfl, rfl, h1, ⟨f, h2, h3⟩, ⟨g, h4, h5⟩, h6, h7⟩
    · have hlt : i < k := by
        rcases Nat.lt_or_ge i k with q | q
        · exact q
        · exact absurd (nI_le q (by omega)) c23
      refine gi_aload_n (q := 27) (i := 0) C (dm_Ro_init 15 rfl) rfl rfl rfl ?_
      refine gi_get (q := 30) C (dm_Ro_init 16 rfl) rfl fl_Ro_11 (by repeat (first | exact gi_up_self _ _ _ | assumption | rw [gi_up_ne (by omega)])) rfl ?_
      refine gi_iload_n (q := 31) (i := 2) C (dm_Ro_init 17 rfl) rfl rfl rfl ?_
      refine gi_new (q := 34) C (dm_Ro_init 18 rfl) rfl nc_Ro_9 (by first | omega | (dsimp only; omega)) (by first | omega | (dsimp only; omega)) ?_
      refine gi_dup (q := 35) C (dm_Ro_init 19 rfl) rfl rfl ?_
      refine gi_calli 0 (q := 38) C (dm_Ro_init 20 rfl) rfl my_Va_init lk_Ro_21 im_Va_init rfl (c_Va_init (n + 2 + i)) rfl rfl ⟨(Nat.le_of_ble_eq_true rfl), (Nat.le_of_ble_eq_true rfl)⟩ (Nat.le_of_ble_eq_true rfl) ⟨(by first | omega | (dsimp only; omega)), (by first | omega | (dsimp only; omega))⟩ (fun r35 n35 h35 e35 => ?_)
      obtain ⟨rfl, rfl, rfl⟩ := e35
      refine gi_aast (q := 39) C (dm_Ro_init 21 rfl) rfl rfl rfl (by repeat (first | exact gi_up_self _ _ _ | assumption | rw [gi_up_ne (by omega)])) (by repeat (first | exact gi_up_self _ _ _ | assumption | rw [gi_up_ne (by omega)])) (vp_in_nI (by omega) (by omega)) ?_
      refine gi_aload_n (q := 40) (i := 0) C (dm_Ro_init 22 rfl) rfl rfl rfl ?_
      refine gi_get (q := 43) C (dm_Ro_init 23 rfl) rfl fl_Ro_17 (by repeat (first | exact gi_up_self _ _ _ | assumption | rw [gi_up_ne (by omega)])) rfl ?_
      refine gi_iload_n (q := 44) (i := 2) C (dm_Ro_init 24 rfl) rfl rfl rfl ?_
      refine gi_iconst (q := 45) (v := -1) C (dm_Ro_init 25 rfl) rfl (by decide) ?_
      refine gi_iast (q := 46) C (dm_Ro_init 26 rfl) rfl rfl (by repeat (first | exact gi_up_self _ _ _ | assumption | rw [gi_up_ne (by omega)])) (vp_in_nI (by omega) (by omega)) ?_
      refine gi_iinc (q := 49) (v := 1) C (dm_Ro_init 27 rfl) rfl rfl (by decide) (Nat.le_of_ble_eq_true rfl) ?_
      refine gi_goto (tgt := 21) C (dm_Ro_init 28 rfl) (by decide) ?_
      refine gi_close (ih (i + 1) _ ?_ (by first | omega | (dsimp only; omega))) (List.forall_mem_cons.mpr ⟨(by simp [gi_look, nI_1]), List.forall_mem_cons.mpr ⟨rfl, List.forall_mem_cons.mpr ⟨rfl, fun _ h => absurd h List.not_mem_nil⟩⟩⟩) (by first | rfl | omega | (dsimp only; omega)) (by first | omega | (dsimp only; omega)) (by first | omega | (dsimp only; omega))
      refine ⟨hlt, ?_, ⟨va_up f (nI i).toNatClampNeg (some (n + 2 + i)), ?_, fun j hj => ?_⟩, ⟨upd g (nI i).toNatClampNeg (-1), ?_, fun j hj => ?_⟩, fun j hj => ?_, fun b hb hbn => ?_⟩
      · repeat (first | exact gi_up_self _ _ _ | assumption | rw [gi_up_ne (by omega)])
      · repeat (first | exact gi_up_self _ _ _ | assumption | rw [gi_up_ne (by omega)])
      · by_cases hji : j = i
        · subst hji
          simp [va_up, nI_clamp (show j < 2 ^ 31 by omega)]
        · simp [va_up, nI_clamp (show i < 2 ^ 31 by omega), hji, h3 j (by omega)]
      · repeat (first | exact gi_up_self _ _ _ | assumption | rw [gi_up_ne (by omega)])
      · by_cases hji : j = i
        · subst hji
          simp [upd, nI_clamp (show j < 2 ^ 31 by omega)]
        · simp [upd, nI_clamp (show i < 2 ^ 31 by omega), hji, h5 j (by omega)]
      · by_cases hji : j = i
        · subst hji
          repeat (first | exact gi_up_self _ _ _ | rw [gi_up_ne (by omega)])
        · repeat (first | exact h6 j (by omega) | rw [gi_up_ne (by omega)])
      · repeat (first | exact h7 b hb hbn | rw [gi_up_ne (by omega)])
end RO1
