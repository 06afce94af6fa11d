section HK
theorem hs_0.keep {X : Nat} {h h' : gi_H} (H : hs_0 X h) (ho : ∀ b, b < X + 16927 → h' b = h b) : hs_0 X h' := by
  obtain ⟨a0, a1, a2, a3, a4, a5, a6, a7, a8⟩ := H
  refine ⟨?_, a1.keep (fun b h1 h2 => ho b (by omega)), a2.keep (fun b h1 h2 => ho b (by omega)), a3.keep (fun b h1 h2 => ho b (by omega)), a4.keep (fun b h1 h2 => ho b (by omega)), a5.keep (fun b h1 h2 => ho b (by omega)), a6.keep (fun b h1 h2 => ho b (by omega)), a7.keep (fun b h1 h2 => ho b (by omega)), a8.keep (fun b h1 h2 => ho b (by omega))⟩
  unfold hs_ob at *
  rw [ho X (by omega)]
  exact a0
end HK
section LAWS
/-- what is owed of the two objects: J holds before the first call, and each call keeps it, both answering alike -/
def lw_owed (l : Launch) (V : gi_V) (X Lx : Nat) (xs : Nat → Int32) (J : Nat → gi_H → Prop) : Prop := (∀ h, hs_0 X h → mo_at (X + 16927) (fun k => if k = 10 ∨ k = 11 ∨ k = 87 then -1 else 0) (fun _ => 0) (fun _ _ => 0) (fun _ _ => 0) h → J 0 h) ∧ (∀ k h, J k h → ∃ fs, h X = some (gi_O 0 fs)) ∧ (∀ k h, 6 * k + 6 ≤ Lx → J k h → J (k + 1) h) ∧ (∀ k h, 6 * k + 6 ≤ Lx → J k h → cj_0 l V X (X + 16927) (X + 16979) (xs (6 * k + 1)) (xs (6 * k + 2)) (xs (6 * k + 3)) (xs (6 * k + 4)) h (J (k + 1))) ∧ (∀ k h, 6 * k + 6 ≤ Lx → J k h → cj_1 l V X (X + 16927) (X + 16979) (xs (6 * k + 1)) (xs (6 * k + 2)) (xs (6 * k + 3)) h (J (k + 1))) ∧ (∀ k h, 6 * k + 6 ≤ Lx → J k h → cj_2 l V X (X + 16927) (X + 16979) (xs (6 * k + 1)) h (J (k + 1))) ∧ (∀ k h, 6 * k + 6 ≤ Lx → J k h → cj_3 l V X (X + 16927) (X + 16979)  h (J (k + 1))) ∧ (∀ k h, 6 * k + 6 ≤ Lx → J k h → cj_4 l V X (X + 16927) (X + 16979) (xs (6 * k + 1)) h (J (k + 1))) ∧ (∀ k h, 6 * k + 6 ≤ Lx → J k h → cj_5 l V X (X + 16927) (X + 16979) (xs (6 * k + 1)) h (J (k + 1))) ∧ (∀ k h, 6 * k + 6 ≤ Lx → J k h → cj_6 l V X (X + 16927) (X + 16979) (xs (6 * k + 1)) (xs (6 * k + 2)) h (J (k + 1))) ∧ (∀ k h, 6 * k + 6 ≤ Lx → J k h → cj_7 l V X (X + 16927) (X + 16979) (xs (6 * k + 1)) (xs (6 * k + 2)) (xs (6 * k + 3)) (xs (6 * k + 4)) h (J (k + 1))) ∧ (∀ k h, 6 * k + 6 ≤ Lx → J k h → cj_8 l V X (X + 16927) (X + 16979) (xs (6 * k + 1)) (xs (6 * k + 2)) h (J (k + 1))) ∧ (∀ k h, 6 * k + 6 ≤ Lx → J k h → cj_9 l V X (X + 16927) (X + 16979) (xs (6 * k + 1)) (xs (6 * k + 2)) h (J (k + 1))) ∧ (∀ k h, 6 * k + 6 ≤ Lx → J k h → cj_10 l V X (X + 16927) (X + 16979) (xs (6 * k + 1)) (xs (6 * k + 2)) h (J (k + 1))) ∧ (∀ k h, 6 * k + 6 ≤ Lx → J k h → cj_11 l V X (X + 16927) (X + 16979) (xs (6 * k + 1)) (xs (6 * k + 2)) (xs (6 * k + 3)) h (J (k + 1))) ∧ (∀ k h, 6 * k + 6 ≤ Lx → J k h → cj_12 l V X (X + 16927) (X + 16979) (xs (6 * k + 1)) h (J (k + 1))) ∧ (∀ k h, 6 * k + 6 ≤ Lx → J k h → cj_13 l V X (X + 16927) (X + 16979) (xs (6 * k + 1)) (xs (6 * k + 2)) (xs (6 * k + 3)) (xs (6 * k + 4)) (xs (6 * k + 5)) h (J (k + 1))) ∧ (∀ k h, 6 * k + 6 ≤ Lx → J k h → cj_14 l V X (X + 16927) (X + 16979) (xs (6 * k + 1)) (xs (6 * k + 2)) h (J (k + 1))) ∧ (∀ k h, 6 * k + 6 ≤ Lx → J k h → cj_15 l V X (X + 16927) (X + 16979)  h (J (k + 1))) ∧ (∀ k h, 6 * k + 6 ≤ Lx → J k h → cj_16 l V X (X + 16927) (X + 16979) (xs (6 * k + 1)) (xs (6 * k + 2)) h (J (k + 1))) ∧ (∀ k h, 6 * k + 6 ≤ Lx → J k h → cj_17 l V X (X + 16927) (X + 16979) (xs (6 * k + 1)) (xs (6 * k + 2)) (xs (6 * k + 3)) h (J (k + 1))) ∧ (∀ k h, 6 * k + 6 ≤ Lx → J k h → cj_18 l V X (X + 16927) (X + 16979)  h (J (k + 1))) ∧ (∀ k h, 6 * k + 6 ≤ Lx → J k h → cj_19 l V X (X + 16927) (X + 16979) (xs (6 * k + 1)) (xs (6 * k + 2)) h (J (k + 1))) ∧ (∀ k h, 6 * k + 6 ≤ Lx → J k h → cj_20 l V X (X + 16927) (X + 16979) (xs (6 * k + 1)) h (J (k + 1))) ∧ (∀ k h, 6 * k + 6 ≤ Lx → J k h → cj_21 l V X (X + 16927) (X + 16979)  h (J (k + 1)))
set_option maxHeartbeats 4000000 in
set_option maxRecDepth 100000 in
theorem lw_start {p : Program} {e : Env} {s : State} {m : MethodId} {below : List Frame} {meth : Method} {c : Code} (l : Launch) {b L : Nat} {xs : Nat → Int32} (hL : L ≤ 3072) (C0 : lw_At p s m meth c b L xs) (key : ∀ (V : gi_V) (X : Nat), ∃ J : Nat → gi_H → Prop, lw_owed l V X L xs J) : W p l e room_1 s m #[Value.ref b] below meth c s.heap [] 0 0 (lw_Z below #[Value.ref b] s) (entryFrame m ([Value.ref b] : List Value).toArray 4) := by
  obtain ⟨hx, hb, hr, hml, hown, hts, hX, hbl, hlocks, hg⟩ := C0
  obtain ⟨V, hV, hK⟩ := en_K hts hg
  have C : gi_C p s m #[Value.ref b] meth c code 4 R_La V := ⟨hx, hb, hml, hown, fun w hw => hts w (en_sub hw), hK, hlocks, by rw [hV]; exact Nat.le_refl _⟩
  have hbV : b < s.heap.size ∧ ¬ V.2.2 ≤ b := ⟨hbl, by rw [hV]; omega⟩
  have hl := lv_entry ([Value.ref b] : List Value) (n := 4) (Nat.le_of_ble_eq_true rfl)
  rw [lg_entry_eq]
  generalize (lg_sl [Value.ref b] ++ List.replicate (4 - (lg_sl [Value.ref b]).length) Slot.unset).toArray = ls at hl ⊢
  have K : gi_G p l e room_1 s m #[Value.ref b] below meth c (lw_Z below #[Value.ref b] s) V 4 0 0 0 [(0, .ref b)] [] V.2.2 (fun _ => none) := by
    refine gi_new (q := 3) C (dm_La_law 0 rfl) rfl nc_La_7 (Nat.le_of_ble_eq_true rfl) (Nat.le_of_ble_eq_true rfl) ?_
    refine gi_dup (q := 4) C (dm_La_law 1 rfl) rfl rfl ?_
    refine gi_calli 0 (q := 7) C (dm_La_law 2 rfl) rfl my_H_init lk_La_9 im_H_init rfl (c_H_init (V.2.2) (gi_up_self _ _ _)) rfl rfl ⟨(Nat.le_of_ble_eq_true rfl), (Nat.le_of_ble_eq_true rfl)⟩ (Nat.le_of_ble_eq_true rfl) ⟨(Nat.le_of_ble_eq_true rfl), (Nat.le_of_ble_eq_true rfl)⟩ (fun r4 n4 h4 e4 => ?_)
    obtain ⟨rfl, rfl, hH, hk4⟩ := e4
    refine gi_astore_n (q := 8) (i := 1) C (dm_La_law 3 rfl) rfl rfl (Nat.le_of_ble_eq_true rfl) ?_
    refine gi_new (q := 11) C (dm_La_law 4 rfl) rfl nc_La_10 (Nat.le_of_ble_eq_true rfl) (Nat.le_of_ble_eq_true rfl) ?_
    refine gi_dup (q := 12) C (dm_La_law 5 rfl) rfl rfl ?_
    refine gi_calli 0 (q := 15) C (dm_La_law 6 rfl) rfl my_Mo_init lk_La_12 im_Mo_init rfl (c_Mo_init (V.2.2 + 16927) (gi_up_self _ _ _)) rfl rfl ⟨(Nat.le_of_ble_eq_true rfl), (Nat.le_of_ble_eq_true rfl)⟩ (Nat.le_of_ble_eq_true rfl) ⟨(Nat.le_of_ble_eq_true rfl), (Nat.le_of_ble_eq_true rfl)⟩ (fun r12 n12 h12 e12 => ?_)
    obtain ⟨rfl, rfl, hM, hk12⟩ := e12
    refine gi_astore_n (q := 16) (i := 2) C (dm_La_law 7 rfl) rfl rfl (Nat.le_of_ble_eq_true rfl) ?_
    refine gi_iconst (q := 17) (v := 0) C (dm_La_law 8 rfl) rfl (by decide) ?_
    refine gi_istore_n (q := 18) (i := 3) C (dm_La_law 9 rfl) rfl rfl (Nat.le_of_ble_eq_true rfl) ?_
    obtain ⟨J, h0, hJ, wd, w0, w1, w2, w3, w4, w5, w6, w7, w8, w9, w10, w11, w12, w13, w14, w15, w16, w17, w18, w19, w20, w21⟩ := key V V.2.2
    have hH2 : hs_0 V.2.2 h12 := hs_0.keep hH (fun q h1 => by rw [hk12 q (by omega), gi_up_ne (by omega)])
    refine gi_close (lw_loop C hr hV hX hbV hL J hJ wd w0 w1 w2 w3 w4 w5 w6 w7 w8 w9 w10 w11 w12 w13 w14 w15 w16 w17 w18 w19 w20 w21 (h0 _ hH2 hM)) (List.forall_mem_cons.mpr ⟨rfl, List.forall_mem_cons.mpr ⟨rfl, List.forall_mem_cons.mpr ⟨rfl, List.forall_mem_cons.mpr ⟨rfl, fun _ h => absurd h List.not_mem_nil⟩⟩⟩⟩) rfl rfl rfl
  exact K ls s.heap [] (gi_has_of hl) ⟨hV.symm, Nat.le_refl _, fun a x h => by cases h⟩ va_S.rf
end LAWS
