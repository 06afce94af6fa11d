section MO0
variable {l : Launch} {V : gi_V} {n : Nat} {h : gi_H}
/-- the reference's fields: 1 an array, 2 a long, 0 another number -/
def mo_k (j : Nat) : Nat := match j with
  | 1 => 1
  | 2 => 1
  | 3 => 1
  | 4 => 1
  | 5 => 1
  | 6 => 1
  | 7 => 1
  | 12 => 1
  | 13 => 1
  | 14 => 1
  | 15 => 1
  | 16 => 1
  | 17 => 1
  | 22 => 2
  | 23 => 2
  | 24 => 2
  | 25 => 2
  | 26 => 2
  | 27 => 2
  | 28 => 2
  | 31 => 1
  | 32 => 1
  | 33 => 1
  | 34 => 1
  | 35 => 1
  | 36 => 1
  | 37 => 1
  | 38 => 1
  | 39 => 1
  | 40 => 1
  | 41 => 1
  | 42 => 1
  | 43 => 1
  | 44 => 1
  | 45 => 1
  | 52 => 1
  | 53 => 1
  | 54 => 1
  | 55 => 1
  | 56 => 1
  | 57 => 1
  | 60 => 1
  | 61 => 1
  | 62 => 1
  | 63 => 1
  | 64 => 1
  | 65 => 1
  | 68 => 1
  | 69 => 1
  | 70 => 1
  | 71 => 1
  | 72 => 1
  | 73 => 1
  | 74 => 1
  | 77 => 1
  | 78 => 1
  | 79 => 1
  | 80 => 1
  | 86 => 2
  | _ => 0
/-- its arrays lie behind it, in the order of the fields -/
def mo_off (j : Nat) : Nat := match j with
  | 1 => 1
  | 2 => 2
  | 3 => 3
  | 4 => 4
  | 5 => 5
  | 6 => 6
  | 7 => 7
  | 12 => 8
  | 13 => 9
  | 14 => 10
  | 15 => 11
  | 16 => 12
  | 17 => 13
  | 31 => 14
  | 32 => 15
  | 33 => 16
  | 34 => 17
  | 35 => 18
  | 36 => 19
  | 37 => 20
  | 38 => 21
  | 39 => 22
  | 40 => 23
  | 41 => 24
  | 42 => 25
  | 43 => 26
  | 44 => 27
  | 45 => 28
  | 52 => 29
  | 53 => 30
  | 54 => 31
  | 55 => 32
  | 56 => 33
  | 57 => 34
  | 60 => 35
  | 61 => 36
  | 62 => 37
  | 63 => 38
  | 64 => 39
  | 65 => 40
  | 68 => 41
  | 69 => 42
  | 70 => 43
  | 71 => 44
  | 72 => 45
  | 73 => 46
  | 74 => 47
  | 77 => 48
  | 78 => 49
  | 79 => 50
  | 80 => 51
  | _ => 0
def mo_fv (M : Nat) (S : Nat → Int32) (J : Nat → Int64) (j : Nat) : Value := match mo_k j with
  | 1 => .ref (M + mo_off j)
  | 2 => .long (J j)
  | _ => .int (S j)

def mo_fk (j : Nat) : Nat := match j with
  | 0 => 1
  | 1 => 2
  | 2 => 3
  | 3 => 4
  | 4 => 5
  | 5 => 6
  | 6 => 7
  | 7 => 12
  | 8 => 13
  | 9 => 14
  | 10 => 15
  | 11 => 16
  | 12 => 17
  | 13 => 31
  | 14 => 32
  | 15 => 33
  | 16 => 34
  | 17 => 35
  | 18 => 36
  | 19 => 37
  | 20 => 38
  | 21 => 39
  | 22 => 40
  | 23 => 41
  | 24 => 42
  | 25 => 43
  | 26 => 44
  | 27 => 45
  | 28 => 52
  | 29 => 53
  | 30 => 54
  | 31 => 55
  | 32 => 56
  | 33 => 57
  | 34 => 60
  | 35 => 61
  | 36 => 62
  | 37 => 63
  | 38 => 64
  | 39 => 65
  | 40 => 68
  | 41 => 69
  | 42 => 70
  | 43 => 71
  | 44 => 72
  | 45 => 73
  | 46 => 74
  | 47 => 77
  | 48 => 78
  | 49 => 79
  | _ => 80
def mo_len (j : Nat) : Nat := match j with
  | 0 => 8
  | 1 => 8
  | 2 => 8
  | 3 => 8
  | 4 => 8
  | 5 => 480
  | 6 => 480
  | 7 => 480
  | 8 => 480
  | 9 => 480
  | 10 => 480
  | 11 => 480
  | 12 => 26
  | 13 => 960
  | 14 => 13440
  | 15 => 13440
  | 16 => 13440
  | 17 => 13440
  | 18 => 13440
  | 19 => 13440
  | 20 => 480
  | 21 => 160
  | 22 => 160
  | 23 => 160
  | 24 => 160
  | 25 => 160
  | 26 => 160
  | 27 => 80
  | 28 => 14
  | 29 => 14
  | 30 => 14
  | 31 => 14
  | 32 => 14
  | 33 => 14
  | 34 => 14
  | 35 => 14
  | 36 => 14
  | 37 => 14
  | 38 => 14
  | 39 => 14
  | 40 => 3
  | 41 => 3
  | 42 => 600
  | 43 => 2000
  | 44 => 301
  | 45 => 301
  | 46 => 301
  | 47 => 4
  | 48 => 224
  | 49 => 16
  | _ => 16
def mo_kd (j : Nat) : Nat := match j with
  | 0 => 0
  | 1 => 0
  | 2 => 0
  | 3 => 0
  | 4 => 0
  | 5 => 0
  | 6 => 0
  | 7 => 0
  | 8 => 0
  | 9 => 1
  | 10 => 0
  | 11 => 1
  | 12 => 0
  | 13 => 1
  | 14 => 2
  | 15 => 2
  | 16 => 2
  | 17 => 0
  | 18 => 1
  | 19 => 3
  | 20 => 0
  | 21 => 1
  | 22 => 2
  | 23 => 2
  | 24 => 2
  | 25 => 0
  | 26 => 1
  | 27 => 0
  | 28 => 2
  | 29 => 2
  | 30 => 2
  | 31 => 0
  | 32 => 1
  | 33 => 0
  | 34 => 2
  | 35 => 2
  | 36 => 2
  | 37 => 0
  | 38 => 1
  | 39 => 0
  | 40 => 0
  | 41 => 0
  | 42 => 0
  | 43 => 0
  | 44 => 0
  | 45 => 0
  | 46 => 0
  | 47 => 0
  | 48 => 0
  | 49 => 0
  | _ => 0
def mo_ar (F : Nat → Nat → Int32) (G : Nat → Nat → Int64) (j : Nat) : gi_E := match mo_kd j with
  | 2 => gi_J 2 (mo_len j) (G (mo_fk j))
  | d => gi_I d (mo_len j) (F (mo_fk j))
/-- a list of 89 values, by a function -/
def mo_is (fs : List Value) (f : Nat → Value) : Prop := fs.length = 89 ∧ ∀ j, j < 89 → fs[j]? = some (f j)
theorem mo_is.set {fs : List Value} {f g : Nat → Value} {k : Nat} {v : Value} (H : mo_is fs f) (hk : k < 89) (hv : g k = v) (ho : ∀ j, j < 89 → j ≠ k → g j = f j) : mo_is (fs.set k v) g := by
  refine ⟨by rw [List.length_set]; exact H.1, fun j hj => ?_⟩
  by_cases e : j = k
  · subst e
    rw [List.getElem?_set_self (by rw [H.1]; exact hj), hv]
  · rw [List.getElem?_set_ne (fun q => e q.symm), H.2 j hj, ho j hj e]
def mo_at (M : Nat) (S : Nat → Int32) (J : Nat → Int64) (F : Nat → Nat → Int32) (G : Nat → Nat → Int64) (h : gi_H) : Prop := (∃ fs : List Value, h M = some (gi_O 12 fs) ∧ mo_is fs (mo_fv M S J)) ∧ ∀ j, j < 51 → h (M + 1 + j) = some (mo_ar F G j)
/-- the fields while i arrays are there -/
def mo_fi (M i : Nat) (S : Nat → Int32) (j : Nat) : Value := match mo_k j with
  | 1 => if mo_off j ≤ i then .ref (M + mo_off j) else .null
  | 2 => .long 0
  | _ => .int (S j)
def mo_mid (M i : Nat) (S : Nat → Int32) (h y : gi_H) : Prop := (∃ fs : List Value, y M = some (gi_O 12 fs) ∧ mo_is fs (mo_fi M i S)) ∧ (∀ j, j < i → y (M + 1 + j) = some (mo_ar (fun _ _ => 0) (fun _ _ => 0) j)) ∧ ∀ b, b < M → y b = h b
theorem mo_add {M i k : Nat} {S : Nat → Int32} {fs : List Value} {x : gi_E} {h y : gi_H} (hx : x = mo_ar (fun _ _ => 0) (fun _ _ => 0) i) (hk : k < 89) (h1k : mo_k k = 1) (hof : mo_off k = i + 1) (hun : ∀ j, j < 89 → mo_k j = 1 → mo_off j = i + 1 → j = k) (hfs : mo_is fs (mo_fi M i S)) (h2 : ∀ j, j < i → y (M + 1 + j) = some (mo_ar (fun _ _ => 0) (fun _ _ => 0) j)) (h3 : ∀ b, b < M → y b = h b) : mo_mid M (i + 1) S h (gi_up (gi_up y (M + 1 + i) x) M (gi_O 12 (fs.set k (.ref (M + 1 + i))))) := by
  refine ⟨⟨_, gi_up_self _ _ _, hfs.set hk ?_ fun j hj hne => ?_⟩, fun j hj => ?_, fun b hb => ?_⟩
  · unfold mo_fi
    rw [h1k, hof]
    show (if i + 1 ≤ i + 1 then Value.ref (M + (i + 1)) else Value.null) = Value.ref (M + 1 + i)
    rw [if_pos (Nat.le_refl _), show M + (i + 1) = M + 1 + i by omega]
  · unfold mo_fi
    split
    · rename_i e
      by_cases q : mo_off j ≤ i
      · rw [if_pos q, if_pos (by omega)]
      · rw [if_neg q, if_neg]
        intro q2
        exact hne (hun j hj e (by omega))
    · rfl
    · rfl
  · rw [gi_up_ne (by omega)]
    by_cases e : j = i
    · subst e; rw [gi_up_self, hx]
    · rw [gi_up_ne (by omega)]; exact h2 j (by omega)
  · rw [gi_up_ne (by omega), gi_up_ne (by omega)]; exact h3 b hb
theorem mo_put {M i k : Nat} {S S' : Nat → Int32} {fs : List Value} {v : Int32} {h y : gi_H} (hk : k < 89) (h0 : mo_k k = 0) (hv : S' k = v) (hS : ∀ j, j ≠ k → S' j = S j) (hfs : mo_is fs (mo_fi M i S)) (h2 : ∀ j, j < i → y (M + 1 + j) = some (mo_ar (fun _ _ => 0) (fun _ _ => 0) j)) (h3 : ∀ b, b < M → y b = h b) : mo_mid M i S' h (gi_up y M (gi_O 12 (fs.set k (.int v)))) := by
  refine ⟨⟨_, gi_up_self _ _ _, hfs.set hk ?_ fun j hj hne => ?_⟩, fun j hj => ?_, fun b hb => ?_⟩
  · unfold mo_fi
    rw [h0, hv]
    rfl
  · unfold mo_fi
    split
    · rfl
    · rfl
    · rw [hS j hne]
  · rw [gi_up_ne (by omega)]; exact h2 j hj
  · rw [gi_up_ne (by omega)]; exact h3 b hb
theorem z_Mo_is (M : Nat) : mo_is z_Mo (mo_fi M 0 (fun _ => 0)) := by
  refine ⟨by decide, fun j hj => ?_⟩
  have key : ∀ j, j < 89 → z_Mo[j]? = some (match mo_k j with | 1 => .null | 2 => .long 0 | _ => .int 0) := by decide +kernel
  rw [key j hj]
  unfold mo_fi
  have off1 : ∀ j, j < 89 → mo_k j = 1 → 1 ≤ mo_off j := by decide +kernel
  split
  · rename_i e
    rw [if_neg (by have := off1 j hj e; omega)]
  · rfl
  · rfl
set_option maxHeartbeats 2000000 in
set_option maxRecDepth 100000 in
theorem c_Mo_init (M : Nat) (ha : h M = some (gi_O 12 z_Mo)) : gi_T l V y_Mo_init b_Mo_init 1 none 1 20 51 90483 [.ref M] (M + 1) h (fun r n' h' => r = none ∧ n' = M + 52 ∧ mo_at M (fun k => if k = 10 ∨ k = 11 ∨ k = 87 then -1 else 0) (fun _ => 0) (fun _ _ => 0) (fun _ _ => 0) h' ∧ ∀ b, b < M → h' b = h b) := by
  refine gi_enter (by decide) (Nat.le_of_ble_eq_true rfl) ?_
  intro _ _ _ _ _ _ _ _ C hr hnm
  refine gi_aload_n (q := 1) (i := 0) C (dm_Mo_init 0 rfl) rfl rfl rfl ?_
  refine gi_objInit (q := 4) C (dm_Mo_init 1 rfl) rfl lo_Mo_1 ob_w (Nat.le_of_ble_eq_true rfl) (Nat.le_of_ble_eq_true rfl) ?_
  have H : mo_mid M 0 (fun _ => 0) h h := ⟨⟨z_Mo, ha, z_Mo_is M⟩, fun j hj => absurd hj (Nat.not_lt_zero j), fun _ _ => rfl⟩
  obtain ⟨⟨fs, Ha, Hf⟩, Hr, Hb⟩ := H
  refine gi_aload_n (q := 5) (i := 0) C (dm_Mo_init 2 rfl) rfl rfl rfl ?_
  refine gi_bipush (q := 7) (v := 8) C (dm_Mo_init 3 rfl) rfl (by decide) ?_
  refine gi_newa (kd := 0) (q := 9) (N := 8) (a0 := (8, .inl (fun _ => 0))) C (dm_Mo_init 4 rfl) rfl ac_int rfl rfl (fun _ => rfl) (by decide) (by decide) (by decide) (Nat.le_of_ble_eq_true rfl) (Nat.le_of_ble_eq_true rfl) ?_
  refine gi_putF (q := 12) C hnm (dm_Mo_init 5 rfl) rfl fF_Mo_7 fp_Mo_1 rfl (by rw [gi_up_ne (by omega)]; exact Ha) (by rw [Hf.1]; decide) rfl rfl ?_
  refine gi_gen (mo_mid M 1 (fun _ => 0) h) (mo_add (i := 0) (k := 1) rfl (by decide) rfl rfl (by decide +kernel) Hf Hr Hb) (fun y H => ?_)
  obtain ⟨⟨fs, Ha, Hf⟩, Hr, Hb⟩ := H
  refine gi_aload_n (q := 13) (i := 0) C (dm_Mo_init 6 rfl) rfl rfl rfl ?_
  refine gi_bipush (q := 15) (v := 8) C (dm_Mo_init 7 rfl) rfl (by decide) ?_
  refine gi_newa (kd := 0) (q := 17) (N := 8) (a0 := (8, .inl (fun _ => 0))) C (dm_Mo_init 8 rfl) rfl ac_int rfl rfl (fun _ => rfl) (by decide) (by decide) (by decide) (Nat.le_of_ble_eq_true rfl) (Nat.le_of_ble_eq_true rfl) ?_
  refine gi_putF (q := 20) C hnm (dm_Mo_init 9 rfl) rfl fF_Mo_13 fp_Mo_2 rfl (by rw [gi_up_ne (by omega)]; exact Ha) (by rw [Hf.1]; decide) rfl rfl ?_
  refine gi_gen (mo_mid M 2 (fun _ => 0) h) (mo_add (i := 1) (k := 2) rfl (by decide) rfl rfl (by decide +kernel) Hf Hr Hb) (fun y H => ?_)
  obtain ⟨⟨fs, Ha, Hf⟩, Hr, Hb⟩ := H
  refine gi_aload_n (q := 21) (i := 0) C (dm_Mo_init 10 rfl) rfl rfl rfl ?_
  refine gi_bipush (q := 23) (v := 8) C (dm_Mo_init 11 rfl) rfl (by decide) ?_
  refine gi_newa (kd := 0) (q := 25) (N := 8) (a0 := (8, .inl (fun _ => 0))) C (dm_Mo_init 12 rfl) rfl ac_int rfl rfl (fun _ => rfl) (by decide) (by decide) (by decide) (Nat.le_of_ble_eq_true rfl) (Nat.le_of_ble_eq_true rfl) ?_
  refine gi_putF (q := 28) C hnm (dm_Mo_init 13 rfl) rfl fF_Mo_16 fp_Mo_3 rfl (by rw [gi_up_ne (by omega)]; exact Ha) (by rw [Hf.1]; decide) rfl rfl ?_
  refine gi_gen (mo_mid M 3 (fun _ => 0) h) (mo_add (i := 2) (k := 3) rfl (by decide) rfl rfl (by decide +kernel) Hf Hr Hb) (fun y H => ?_)
  obtain ⟨⟨fs, Ha, Hf⟩, Hr, Hb⟩ := H
  refine gi_aload_n (q := 29) (i := 0) C (dm_Mo_init 14 rfl) rfl rfl rfl ?_
  refine gi_bipush (q := 31) (v := 8) C (dm_Mo_init 15 rfl) rfl (by decide) ?_
  refine gi_newa (kd := 0) (q := 33) (N := 8) (a0 := (8, .inl (fun _ => 0))) C (dm_Mo_init 16 rfl) rfl ac_int rfl rfl (fun _ => rfl) (by decide) (by decide) (by decide) (Nat.le_of_ble_eq_true rfl) (Nat.le_of_ble_eq_true rfl) ?_
  refine gi_putF (q := 36) C hnm (dm_Mo_init 17 rfl) rfl fF_Mo_19 fp_Mo_4 rfl (by rw [gi_up_ne (by omega)]; exact Ha) (by rw [Hf.1]; decide) rfl rfl ?_
  refine gi_gen (mo_mid M 4 (fun _ => 0) h) (mo_add (i := 3) (k := 4) rfl (by decide) rfl rfl (by decide +kernel) Hf Hr Hb) (fun y H => ?_)
  obtain ⟨⟨fs, Ha, Hf⟩, Hr, Hb⟩ := H
  refine gi_aload_n (q := 37) (i := 0) C (dm_Mo_init 18 rfl) rfl rfl rfl ?_
  refine gi_bipush (q := 39) (v := 8) C (dm_Mo_init 19 rfl) rfl (by decide) ?_
  refine gi_newa (kd := 0) (q := 41) (N := 8) (a0 := (8, .inl (fun _ => 0))) C (dm_Mo_init 20 rfl) rfl ac_int rfl rfl (fun _ => rfl) (by decide) (by decide) (by decide) (Nat.le_of_ble_eq_true rfl) (Nat.le_of_ble_eq_true rfl) ?_
  refine gi_putF (q := 44) C hnm (dm_Mo_init 21 rfl) rfl fF_Mo_22 fp_Mo_5 rfl (by rw [gi_up_ne (by omega)]; exact Ha) (by rw [Hf.1]; decide) rfl rfl ?_
  refine gi_gen (mo_mid M 5 (fun _ => 0) h) (mo_add (i := 4) (k := 5) rfl (by decide) rfl rfl (by decide +kernel) Hf Hr Hb) (fun y H => ?_)
  obtain ⟨⟨fs, Ha, Hf⟩, Hr, Hb⟩ := H
  refine gi_aload_n (q := 45) (i := 0) C (dm_Mo_init 22 rfl) rfl rfl rfl ?_
  refine gi_sipush (q := 48) (v := 480) C (dm_Mo_init 23 rfl) rfl (by decide) ?_
  refine gi_newa (kd := 0) (q := 50) (N := 480) (a0 := (480, .inl (fun _ => 0))) C (dm_Mo_init 24 rfl) rfl ac_int rfl rfl (fun _ => rfl) (by decide) (by decide) (by decide) (Nat.le_of_ble_eq_true rfl) (Nat.le_of_ble_eq_true rfl) ?_
  refine gi_putF (q := 53) C hnm (dm_Mo_init 25 rfl) rfl fF_Mo_25 fp_Mo_6 rfl (by rw [gi_up_ne (by omega)]; exact Ha) (by rw [Hf.1]; decide) rfl rfl ?_
  refine gi_gen (mo_mid M 6 (fun _ => 0) h) (mo_add (i := 5) (k := 6) rfl (by decide) rfl rfl (by decide +kernel) Hf Hr Hb) (fun y H => ?_)
  obtain ⟨⟨fs, Ha, Hf⟩, Hr, Hb⟩ := H
  refine gi_aload_n (q := 54) (i := 0) C (dm_Mo_init 26 rfl) rfl rfl rfl ?_
  refine gi_sipush (q := 57) (v := 480) C (dm_Mo_init 27 rfl) rfl (by decide) ?_
  refine gi_newa (kd := 0) (q := 59) (N := 480) (a0 := (480, .inl (fun _ => 0))) C (dm_Mo_init 28 rfl) rfl ac_int rfl rfl (fun _ => rfl) (by decide) (by decide) (by decide) (Nat.le_of_ble_eq_true rfl) (Nat.le_of_ble_eq_true rfl) ?_
  refine gi_putF (q := 62) C hnm (dm_Mo_init 29 rfl) rfl fF_Mo_28 fp_Mo_7 rfl (by rw [gi_up_ne (by omega)]; exact Ha) (by rw [Hf.1]; decide) rfl rfl ?_
  refine gi_gen (mo_mid M 7 (fun _ => 0) h) (mo_add (i := 6) (k := 7) rfl (by decide) rfl rfl (by decide +kernel) Hf Hr Hb) (fun y H => ?_)
  obtain ⟨⟨fs, Ha, Hf⟩, Hr, Hb⟩ := H
  refine gi_aload_n (q := 63) (i := 0) C (dm_Mo_init 30 rfl) rfl rfl rfl ?_
  refine gi_iconst (q := 64) (v := -1) C (dm_Mo_init 31 rfl) rfl (by decide) ?_
  refine gi_put (q := 67) C (dm_Mo_init 32 rfl) rfl fl_Mo_31 fp_Mo_10 Ha (by rw [Hf.1]; decide) rfl rfl ?_
  refine gi_gen (mo_mid M 7 (fun k => if k = 10 then -1 else 0) h) (mo_put (k := 10) (by decide) rfl (by decide) (fun j hj => by simp [hj]) Hf Hr Hb) (fun y H => ?_)
  obtain ⟨⟨fs, Ha, Hf⟩, Hr, Hb⟩ := H
  refine gi_aload_n (q := 68) (i := 0) C (dm_Mo_init 33 rfl) rfl rfl rfl ?_
  refine gi_iconst (q := 69) (v := -1) C (dm_Mo_init 34 rfl) rfl (by decide) ?_
  refine gi_put (q := 72) C (dm_Mo_init 35 rfl) rfl fl_Mo_35 fp_Mo_11 Ha (by rw [Hf.1]; decide) rfl rfl ?_
  refine gi_gen (mo_mid M 7 (fun k => if k = 10 ∨ k = 11 then -1 else 0) h) (mo_put (k := 11) (by decide) rfl (by decide) (fun j hj => by simp [hj]) Hf Hr Hb) (fun y H => ?_)
  obtain ⟨⟨fs, Ha, Hf⟩, Hr, Hb⟩ := H
  refine gi_aload_n (q := 73) (i := 0) C (dm_Mo_init 36 rfl) rfl rfl rfl ?_
  refine gi_sipush (q := 76) (v := 480) C (dm_Mo_init 37 rfl) rfl (by decide) ?_
  refine gi_newa (kd := 0) (q := 78) (N := 480) (a0 := (480, .inl (fun _ => 0))) C (dm_Mo_init 38 rfl) rfl ac_int rfl rfl (fun _ => rfl) (by decide) (by decide) (by decide) (Nat.le_of_ble_eq_true rfl) (Nat.le_of_ble_eq_true rfl) ?_
  refine gi_putF (q := 81) C hnm (dm_Mo_init 39 rfl) rfl fF_Mo_38 fp_Mo_12 rfl (by rw [gi_up_ne (by omega)]; exact Ha) (by rw [Hf.1]; decide) rfl rfl ?_
  refine gi_gen (mo_mid M 8 (fun k => if k = 10 ∨ k = 11 then -1 else 0) h) (mo_add (i := 7) (k := 12) rfl (by decide) rfl rfl (by decide +kernel) Hf Hr Hb) (fun y H => ?_)
  obtain ⟨⟨fs, Ha, Hf⟩, Hr, Hb⟩ := H
  refine gi_aload_n (q := 82) (i := 0) C (dm_Mo_init 40 rfl) rfl rfl rfl ?_
  refine gi_sipush (q := 85) (v := 480) C (dm_Mo_init 41 rfl) rfl (by decide) ?_
  refine gi_newa (kd := 0) (q := 87) (N := 480) (a0 := (480, .inl (fun _ => 0))) C (dm_Mo_init 42 rfl) rfl ac_int rfl rfl (fun _ => rfl) (by decide) (by decide) (by decide) (Nat.le_of_ble_eq_true rfl) (Nat.le_of_ble_eq_true rfl) ?_
  refine gi_putF (q := 90) C hnm (dm_Mo_init 43 rfl) rfl fF_Mo_41 fp_Mo_13 rfl (by rw [gi_up_ne (by omega)]; exact Ha) (by rw [Hf.1]; decide) rfl rfl ?_
  refine gi_gen (mo_mid M 9 (fun k => if k = 10 ∨ k = 11 then -1 else 0) h) (mo_add (i := 8) (k := 13) rfl (by decide) rfl rfl (by decide +kernel) Hf Hr Hb) (fun y H => ?_)
  obtain ⟨⟨fs, Ha, Hf⟩, Hr, Hb⟩ := H
  refine gi_aload_n (q := 91) (i := 0) C (dm_Mo_init 44 rfl) rfl rfl rfl ?_
  refine gi_sipush (q := 94) (v := 480) C (dm_Mo_init 45 rfl) rfl (by decide) ?_
  refine gi_newa (kd := 1) (q := 96) (N := 480) (a0 := (480, .inl (fun _ => 0))) C (dm_Mo_init 46 rfl) rfl ac_boolean rfl rfl (fun _ => rfl) (by decide) (by decide) (by decide) (Nat.le_of_ble_eq_true rfl) (Nat.le_of_ble_eq_true rfl) ?_
  refine gi_putF (q := 99) C hnm (dm_Mo_init 47 rfl) rfl fF_Mo_44 fp_Mo_14 rfl (by rw [gi_up_ne (by omega)]; exact Ha) (by rw [Hf.1]; decide) rfl rfl ?_
  refine gi_gen (mo_mid M 10 (fun k => if k = 10 ∨ k = 11 then -1 else 0) h) (mo_add (i := 9) (k := 14) rfl (by decide) rfl rfl (by decide +kernel) Hf Hr Hb) (fun y H => ?_)
  obtain ⟨⟨fs, Ha, Hf⟩, Hr, Hb⟩ := H
  refine gi_aload_n (q := 100) (i := 0) C (dm_Mo_init 48 rfl) rfl rfl rfl ?_
  refine gi_sipush (q := 103) (v := 480) C (dm_Mo_init 49 rfl) rfl (by decide) ?_
  refine gi_newa (kd := 0) (q := 105) (N := 480) (a0 := (480, .inl (fun _ => 0))) C (dm_Mo_init 50 rfl) rfl ac_int rfl rfl (fun _ => rfl) (by decide) (by decide) (by decide) (Nat.le_of_ble_eq_true rfl) (Nat.le_of_ble_eq_true rfl) ?_
  refine gi_putF (q := 108) C hnm (dm_Mo_init 51 rfl) rfl fF_Mo_48 fp_Mo_15 rfl (by rw [gi_up_ne (by omega)]; exact Ha) (by rw [Hf.1]; decide) rfl rfl ?_
  refine gi_gen (mo_mid M 11 (fun k => if k = 10 ∨ k = 11 then -1 else 0) h) (mo_add (i := 10) (k := 15) rfl (by decide) rfl rfl (by decide +kernel) Hf Hr Hb) (fun y H => ?_)
  obtain ⟨⟨fs, Ha, Hf⟩, Hr, Hb⟩ := H
  refine gi_aload_n (q := 109) (i := 0) C (dm_Mo_init 52 rfl) rfl rfl rfl ?_
  refine gi_sipush (q := 112) (v := 480) C (dm_Mo_init 53 rfl) rfl (by decide) ?_
  refine gi_newa (kd := 1) (q := 114) (N := 480) (a0 := (480, .inl (fun _ => 0))) C (dm_Mo_init 54 rfl) rfl ac_boolean rfl rfl (fun _ => rfl) (by decide) (by decide) (by decide) (Nat.le_of_ble_eq_true rfl) (Nat.le_of_ble_eq_true rfl) ?_
  refine gi_putF (q := 117) C hnm (dm_Mo_init 55 rfl) rfl fF_Mo_51 fp_Mo_16 rfl (by rw [gi_up_ne (by omega)]; exact Ha) (by rw [Hf.1]; decide) rfl rfl ?_
  refine gi_gen (mo_mid M 12 (fun k => if k = 10 ∨ k = 11 then -1 else 0) h) (mo_add (i := 11) (k := 16) rfl (by decide) rfl rfl (by decide +kernel) Hf Hr Hb) (fun y H => ?_)
  obtain ⟨⟨fs, Ha, Hf⟩, Hr, Hb⟩ := H
  refine gi_aload_n (q := 118) (i := 0) C (dm_Mo_init 56 rfl) rfl rfl rfl ?_
  refine gi_bipush (q := 120) (v := 26) C (dm_Mo_init 57 rfl) rfl (by decide) ?_
  refine gi_newa (kd := 0) (q := 122) (N := 26) (a0 := (26, .inl (fun _ => 0))) C (dm_Mo_init 58 rfl) rfl ac_int rfl rfl (fun _ => rfl) (by decide) (by decide) (by decide) (Nat.le_of_ble_eq_true rfl) (Nat.le_of_ble_eq_true rfl) ?_
  refine gi_putF (q := 125) C hnm (dm_Mo_init 59 rfl) rfl fF_Mo_54 fp_Mo_17 rfl (by rw [gi_up_ne (by omega)]; exact Ha) (by rw [Hf.1]; decide) rfl rfl ?_
  refine gi_gen (mo_mid M 13 (fun k => if k = 10 ∨ k = 11 then -1 else 0) h) (mo_add (i := 12) (k := 17) rfl (by decide) rfl rfl (by decide +kernel) Hf Hr Hb) (fun y H => ?_)
  obtain ⟨⟨fs, Ha, Hf⟩, Hr, Hb⟩ := H
  refine gi_aload_n (q := 126) (i := 0) C (dm_Mo_init 60 rfl) rfl rfl rfl ?_
  refine gi_sipush (q := 129) (v := 960) C (dm_Mo_init 61 rfl) rfl (by decide) ?_
  refine gi_newa (kd := 1) (q := 131) (N := 960) (a0 := (960, .inl (fun _ => 0))) C (dm_Mo_init 62 rfl) rfl ac_boolean rfl rfl (fun _ => rfl) (by decide) (by decide) (by decide) (Nat.le_of_ble_eq_true rfl) (Nat.le_of_ble_eq_true rfl) ?_
  refine gi_putF (q := 134) C hnm (dm_Mo_init 63 rfl) rfl fF_Mo_57 fp_Mo_31 rfl (by rw [gi_up_ne (by omega)]; exact Ha) (by rw [Hf.1]; decide) rfl rfl ?_
  refine gi_gen (mo_mid M 14 (fun k => if k = 10 ∨ k = 11 then -1 else 0) h) (mo_add (i := 13) (k := 31) rfl (by decide) rfl rfl (by decide +kernel) Hf Hr Hb) (fun y H => ?_)
  obtain ⟨⟨fs, Ha, Hf⟩, Hr, Hb⟩ := H
  refine gi_aload_n (q := 135) (i := 0) C (dm_Mo_init 64 rfl) rfl rfl rfl ?_
  refine gi_sipush (q := 138) (v := 13440) C (dm_Mo_init 65 rfl) rfl (by decide) ?_
  refine gi_newa (kd := 2) (q := 140) (N := 13440) (a0 := (13440, .inr (.inl (fun _ => 0)))) C (dm_Mo_init 66 rfl) rfl ac_long rfl rfl (fun _ => rfl) (by decide) (by decide) (by decide) (Nat.le_of_ble_eq_true rfl) (Nat.le_of_ble_eq_true rfl) ?_
  refine gi_putF (q := 143) C hnm (dm_Mo_init 67 rfl) rfl fF_Mo_60 fp_Mo_32 rfl (by rw [gi_up_ne (by omega)]; exact Ha) (by rw [Hf.1]; decide) rfl rfl ?_
  refine gi_gen (mo_mid M 15 (fun k => if k = 10 ∨ k = 11 then -1 else 0) h) (mo_add (i := 14) (k := 32) rfl (by decide) rfl rfl (by decide +kernel) Hf Hr Hb) (fun y H => ?_)
  obtain ⟨⟨fs, Ha, Hf⟩, Hr, Hb⟩ := H
  refine gi_aload_n (q := 144) (i := 0) C (dm_Mo_init 68 rfl) rfl rfl rfl ?_
  refine gi_sipush (q := 147) (v := 13440) C (dm_Mo_init 69 rfl) rfl (by decide) ?_
  refine gi_newa (kd := 2) (q := 149) (N := 13440) (a0 := (13440, .inr (.inl (fun _ => 0)))) C (dm_Mo_init 70 rfl) rfl ac_long rfl rfl (fun _ => rfl) (by decide) (by decide) (by decide) (Nat.le_of_ble_eq_true rfl) (Nat.le_of_ble_eq_true rfl) ?_
  refine gi_putF (q := 152) C hnm (dm_Mo_init 71 rfl) rfl fF_Mo_64 fp_Mo_33 rfl (by rw [gi_up_ne (by omega)]; exact Ha) (by rw [Hf.1]; decide) rfl rfl ?_
  refine gi_gen (mo_mid M 16 (fun k => if k = 10 ∨ k = 11 then -1 else 0) h) (mo_add (i := 15) (k := 33) rfl (by decide) rfl rfl (by decide +kernel) Hf Hr Hb) (fun y H => ?_)
  obtain ⟨⟨fs, Ha, Hf⟩, Hr, Hb⟩ := H
  refine gi_aload_n (q := 153) (i := 0) C (dm_Mo_init 72 rfl) rfl rfl rfl ?_
  refine gi_sipush (q := 156) (v := 13440) C (dm_Mo_init 73 rfl) rfl (by decide) ?_
  refine gi_newa (kd := 2) (q := 158) (N := 13440) (a0 := (13440, .inr (.inl (fun _ => 0)))) C (dm_Mo_init 74 rfl) rfl ac_long rfl rfl (fun _ => rfl) (by decide) (by decide) (by decide) (Nat.le_of_ble_eq_true rfl) (Nat.le_of_ble_eq_true rfl) ?_
  refine gi_putF (q := 161) C hnm (dm_Mo_init 75 rfl) rfl fF_Mo_67 fp_Mo_34 rfl (by rw [gi_up_ne (by omega)]; exact Ha) (by rw [Hf.1]; decide) rfl rfl ?_
  refine gi_gen (mo_mid M 17 (fun k => if k = 10 ∨ k = 11 then -1 else 0) h) (mo_add (i := 16) (k := 34) rfl (by decide) rfl rfl (by decide +kernel) Hf Hr Hb) (fun y H => ?_)
  obtain ⟨⟨fs, Ha, Hf⟩, Hr, Hb⟩ := H
  refine gi_aload_n (q := 162) (i := 0) C (dm_Mo_init 76 rfl) rfl rfl rfl ?_
  refine gi_sipush (q := 165) (v := 13440) C (dm_Mo_init 77 rfl) rfl (by decide) ?_
  refine gi_newa (kd := 0) (q := 167) (N := 13440) (a0 := (13440, .inl (fun _ => 0))) C (dm_Mo_init 78 rfl) rfl ac_int rfl rfl (fun _ => rfl) (by decide) (by decide) (by decide) (Nat.le_of_ble_eq_true rfl) (Nat.le_of_ble_eq_true rfl) ?_
  refine gi_putF (q := 170) C hnm (dm_Mo_init 79 rfl) rfl fF_Mo_70 fp_Mo_35 rfl (by rw [gi_up_ne (by omega)]; exact Ha) (by rw [Hf.1]; decide) rfl rfl ?_
  refine gi_gen (mo_mid M 18 (fun k => if k = 10 ∨ k = 11 then -1 else 0) h) (mo_add (i := 17) (k := 35) rfl (by decide) rfl rfl (by decide +kernel) Hf Hr Hb) (fun y H => ?_)
  obtain ⟨⟨fs, Ha, Hf⟩, Hr, Hb⟩ := H
  refine gi_aload_n (q := 171) (i := 0) C (dm_Mo_init 80 rfl) rfl rfl rfl ?_
  refine gi_sipush (q := 174) (v := 13440) C (dm_Mo_init 81 rfl) rfl (by decide) ?_
  refine gi_newa (kd := 1) (q := 176) (N := 13440) (a0 := (13440, .inl (fun _ => 0))) C (dm_Mo_init 82 rfl) rfl ac_boolean rfl rfl (fun _ => rfl) (by decide) (by decide) (by decide) (Nat.le_of_ble_eq_true rfl) (Nat.le_of_ble_eq_true rfl) ?_
  refine gi_putF (q := 179) C hnm (dm_Mo_init 83 rfl) rfl fF_Mo_73 fp_Mo_36 rfl (by rw [gi_up_ne (by omega)]; exact Ha) (by rw [Hf.1]; decide) rfl rfl ?_
  refine gi_gen (mo_mid M 19 (fun k => if k = 10 ∨ k = 11 then -1 else 0) h) (mo_add (i := 18) (k := 36) rfl (by decide) rfl rfl (by decide +kernel) Hf Hr Hb) (fun y H => ?_)
  obtain ⟨⟨fs, Ha, Hf⟩, Hr, Hb⟩ := H
  refine gi_aload_n (q := 180) (i := 0) C (dm_Mo_init 84 rfl) rfl rfl rfl ?_
  refine gi_sipush (q := 183) (v := 13440) C (dm_Mo_init 85 rfl) rfl (by decide) ?_
  refine gi_newa (kd := 3) (q := 185) (N := 13440) (a0 := (13440, .inl (fun _ => 0))) C (dm_Mo_init 86 rfl) rfl ac_byte rfl rfl (fun _ => rfl) (by decide) (by decide) (by decide) (Nat.le_of_ble_eq_true rfl) (Nat.le_of_ble_eq_true rfl) ?_
  refine gi_putF (q := 188) C hnm (dm_Mo_init 87 rfl) rfl fF_Mo_76 fp_Mo_37 rfl (by rw [gi_up_ne (by omega)]; exact Ha) (by rw [Hf.1]; decide) rfl rfl ?_
  refine gi_gen (mo_mid M 20 (fun k => if k = 10 ∨ k = 11 then -1 else 0) h) (mo_add (i := 19) (k := 37) rfl (by decide) rfl rfl (by decide +kernel) Hf Hr Hb) (fun y H => ?_)
  obtain ⟨⟨fs, Ha, Hf⟩, Hr, Hb⟩ := H
  refine gi_aload_n (q := 189) (i := 0) C (dm_Mo_init 88 rfl) rfl rfl rfl ?_
  refine gi_sipush (q := 192) (v := 480) C (dm_Mo_init 89 rfl) rfl (by decide) ?_
  refine gi_newa (kd := 0) (q := 194) (N := 480) (a0 := (480, .inl (fun _ => 0))) C (dm_Mo_init 90 rfl) rfl ac_int rfl rfl (fun _ => rfl) (by decide) (by decide) (by decide) (Nat.le_of_ble_eq_true rfl) (Nat.le_of_ble_eq_true rfl) ?_
  refine gi_putF (q := 197) C hnm (dm_Mo_init 91 rfl) rfl fF_Mo_80 fp_Mo_38 rfl (by rw [gi_up_ne (by omega)]; exact Ha) (by rw [Hf.1]; decide) rfl rfl ?_
  refine gi_gen (mo_mid M 21 (fun k => if k = 10 ∨ k = 11 then -1 else 0) h) (mo_add (i := 20) (k := 38) rfl (by decide) rfl rfl (by decide +kernel) Hf Hr Hb) (fun y H => ?_)
  obtain ⟨⟨fs, Ha, Hf⟩, Hr, Hb⟩ := H
  refine gi_aload_n (q := 198) (i := 0) C (dm_Mo_init 92 rfl) rfl rfl rfl ?_
  refine gi_sipush (q := 201) (v := 160) C (dm_Mo_init 93 rfl) rfl (by decide) ?_
  refine gi_newa (kd := 1) (q := 203) (N := 160) (a0 := (160, .inl (fun _ => 0))) C (dm_Mo_init 94 rfl) rfl ac_boolean rfl rfl (fun _ => rfl) (by decide) (by decide) (by decide) (Nat.le_of_ble_eq_true rfl) (Nat.le_of_ble_eq_true rfl) ?_
  refine gi_putF (q := 206) C hnm (dm_Mo_init 95 rfl) rfl fF_Mo_83 fp_Mo_39 rfl (by rw [gi_up_ne (by omega)]; exact Ha) (by rw [Hf.1]; decide) rfl rfl ?_
  refine gi_gen (mo_mid M 22 (fun k => if k = 10 ∨ k = 11 then -1 else 0) h) (mo_add (i := 21) (k := 39) rfl (by decide) rfl rfl (by decide +kernel) Hf Hr Hb) (fun y H => ?_)
  obtain ⟨⟨fs, Ha, Hf⟩, Hr, Hb⟩ := H
  refine gi_aload_n (q := 207) (i := 0) C (dm_Mo_init 96 rfl) rfl rfl rfl ?_
  refine gi_sipush (q := 210) (v := 160) C (dm_Mo_init 97 rfl) rfl (by decide) ?_
  refine gi_newa (kd := 2) (q := 212) (N := 160) (a0 := (160, .inr (.inl (fun _ => 0)))) C (dm_Mo_init 98 rfl) rfl ac_long rfl rfl (fun _ => rfl) (by decide) (by decide) (by decide) (Nat.le_of_ble_eq_true rfl) (Nat.le_of_ble_eq_true rfl) ?_
  refine gi_putF (q := 215) C hnm (dm_Mo_init 99 rfl) rfl fF_Mo_86 fp_Mo_40 rfl (by rw [gi_up_ne (by omega)]; exact Ha) (by rw [Hf.1]; decide) rfl rfl ?_
  refine gi_gen (mo_mid M 23 (fun k => if k = 10 ∨ k = 11 then -1 else 0) h) (mo_add (i := 22) (k := 40) rfl (by decide) rfl rfl (by decide +kernel) Hf Hr Hb) (fun y H => ?_)
  obtain ⟨⟨fs, Ha, Hf⟩, Hr, Hb⟩ := H
  refine gi_aload_n (q := 216) (i := 0) C (dm_Mo_init 100 rfl) rfl rfl rfl ?_
  refine gi_sipush (q := 219) (v := 160) C (dm_Mo_init 101 rfl) rfl (by decide) ?_
  refine gi_newa (kd := 2) (q := 221) (N := 160) (a0 := (160, .inr (.inl (fun _ => 0)))) C (dm_Mo_init 102 rfl) rfl ac_long rfl rfl (fun _ => rfl) (by decide) (by decide) (by decide) (Nat.le_of_ble_eq_true rfl) (Nat.le_of_ble_eq_true rfl) ?_
  refine gi_putF (q := 224) C hnm (dm_Mo_init 103 rfl) rfl fF_Mo_89 fp_Mo_41 rfl (by rw [gi_up_ne (by omega)]; exact Ha) (by rw [Hf.1]; decide) rfl rfl ?_
  refine gi_gen (mo_mid M 24 (fun k => if k = 10 ∨ k = 11 then -1 else 0) h) (mo_add (i := 23) (k := 41) rfl (by decide) rfl rfl (by decide +kernel) Hf Hr Hb) (fun y H => ?_)
  obtain ⟨⟨fs, Ha, Hf⟩, Hr, Hb⟩ := H
  refine gi_aload_n (q := 225) (i := 0) C (dm_Mo_init 104 rfl) rfl rfl rfl ?_
  refine gi_sipush (q := 228) (v := 160) C (dm_Mo_init 105 rfl) rfl (by decide) ?_
  refine gi_newa (kd := 2) (q := 230) (N := 160) (a0 := (160, .inr (.inl (fun _ => 0)))) C (dm_Mo_init 106 rfl) rfl ac_long rfl rfl (fun _ => rfl) (by decide) (by decide) (by decide) (Nat.le_of_ble_eq_true rfl) (Nat.le_of_ble_eq_true rfl) ?_
  refine gi_putF (q := 233) C hnm (dm_Mo_init 107 rfl) rfl fF_Mo_92 fp_Mo_42 rfl (by rw [gi_up_ne (by omega)]; exact Ha) (by rw [Hf.1]; decide) rfl rfl ?_
  refine gi_gen (mo_mid M 25 (fun k => if k = 10 ∨ k = 11 then -1 else 0) h) (mo_add (i := 24) (k := 42) rfl (by decide) rfl rfl (by decide +kernel) Hf Hr Hb) (fun y H => ?_)
  obtain ⟨⟨fs, Ha, Hf⟩, Hr, Hb⟩ := H
  refine gi_aload_n (q := 234) (i := 0) C (dm_Mo_init 108 rfl) rfl rfl rfl ?_
  refine gi_sipush (q := 237) (v := 160) C (dm_Mo_init 109 rfl) rfl (by decide) ?_
  refine gi_newa (kd := 0) (q := 239) (N := 160) (a0 := (160, .inl (fun _ => 0))) C (dm_Mo_init 110 rfl) rfl ac_int rfl rfl (fun _ => rfl) (by decide) (by decide) (by decide) (Nat.le_of_ble_eq_true rfl) (Nat.le_of_ble_eq_true rfl) ?_
  refine gi_putF (q := 242) C hnm (dm_Mo_init 111 rfl) rfl fF_Mo_95 fp_Mo_43 rfl (by rw [gi_up_ne (by omega)]; exact Ha) (by rw [Hf.1]; decide) rfl rfl ?_
  refine gi_gen (mo_mid M 26 (fun k => if k = 10 ∨ k = 11 then -1 else 0) h) (mo_add (i := 25) (k := 43) rfl (by decide) rfl rfl (by decide +kernel) Hf Hr Hb) (fun y H => ?_)
  obtain ⟨⟨fs, Ha, Hf⟩, Hr, Hb⟩ := H
  refine gi_aload_n (q := 243) (i := 0) C (dm_Mo_init 112 rfl) rfl rfl rfl ?_
  refine gi_sipush (q := 246) (v := 160) C (dm_Mo_init 113 rfl) rfl (by decide) ?_
  refine gi_newa (kd := 1) (q := 248) (N := 160) (a0 := (160, .inl (fun _ => 0))) C (dm_Mo_init 114 rfl) rfl ac_boolean rfl rfl (fun _ => rfl) (by decide) (by decide) (by decide) (Nat.le_of_ble_eq_true rfl) (Nat.le_of_ble_eq_true rfl) ?_
  refine gi_putF (q := 251) C hnm (dm_Mo_init 115 rfl) rfl fF_Mo_98 fp_Mo_44 rfl (by rw [gi_up_ne (by omega)]; exact Ha) (by rw [Hf.1]; decide) rfl rfl ?_
  refine gi_gen (mo_mid M 27 (fun k => if k = 10 ∨ k = 11 then -1 else 0) h) (mo_add (i := 26) (k := 44) rfl (by decide) rfl rfl (by decide +kernel) Hf Hr Hb) (fun y H => ?_)
  obtain ⟨⟨fs, Ha, Hf⟩, Hr, Hb⟩ := H
  refine gi_aload_n (q := 252) (i := 0) C (dm_Mo_init 116 rfl) rfl rfl rfl ?_
  refine gi_bipush (q := 254) (v := 80) C (dm_Mo_init 117 rfl) rfl (by decide) ?_
  refine gi_newa (kd := 0) (q := 256) (N := 80) (a0 := (80, .inl (fun _ => 0))) C (dm_Mo_init 118 rfl) rfl ac_int rfl rfl (fun _ => rfl) (by decide) (by decide) (by decide) (Nat.le_of_ble_eq_true rfl) (Nat.le_of_ble_eq_true rfl) ?_
  refine gi_putF (q := 259) C hnm (dm_Mo_init 119 rfl) rfl fF_Mo_101 fp_Mo_45 rfl (by rw [gi_up_ne (by omega)]; exact Ha) (by rw [Hf.1]; decide) rfl rfl ?_
  refine gi_gen (mo_mid M 28 (fun k => if k = 10 ∨ k = 11 then -1 else 0) h) (mo_add (i := 27) (k := 45) rfl (by decide) rfl rfl (by decide +kernel) Hf Hr Hb) (fun y H => ?_)
  obtain ⟨⟨fs, Ha, Hf⟩, Hr, Hb⟩ := H
  refine gi_aload_n (q := 260) (i := 0) C (dm_Mo_init 120 rfl) rfl rfl rfl ?_
  refine gi_bipush (q := 262) (v := 14) C (dm_Mo_init 121 rfl) rfl (by decide) ?_
  refine gi_newa (kd := 2) (q := 264) (N := 14) (a0 := (14, .inr (.inl (fun _ => 0)))) C (dm_Mo_init 122 rfl) rfl ac_long rfl rfl (fun _ => rfl) (by decide) (by decide) (by decide) (Nat.le_of_ble_eq_true rfl) (Nat.le_of_ble_eq_true rfl) ?_
  refine gi_putF (q := 267) C hnm (dm_Mo_init 123 rfl) rfl fF_Mo_104 fp_Mo_52 rfl (by rw [gi_up_ne (by omega)]; exact Ha) (by rw [Hf.1]; decide) rfl rfl ?_
  refine gi_gen (mo_mid M 29 (fun k => if k = 10 ∨ k = 11 then -1 else 0) h) (mo_add (i := 28) (k := 52) rfl (by decide) rfl rfl (by decide +kernel) Hf Hr Hb) (fun y H => ?_)
  obtain ⟨⟨fs, Ha, Hf⟩, Hr, Hb⟩ := H
  refine gi_aload_n (q := 268) (i := 0) C (dm_Mo_init 124 rfl) rfl rfl rfl ?_
  refine gi_bipush (q := 270) (v := 14) C (dm_Mo_init 125 rfl) rfl (by decide) ?_
  refine gi_newa (kd := 2) (q := 272) (N := 14) (a0 := (14, .inr (.inl (fun _ => 0)))) C (dm_Mo_init 126 rfl) rfl ac_long rfl rfl (fun _ => rfl) (by decide) (by decide) (by decide) (Nat.le_of_ble_eq_true rfl) (Nat.le_of_ble_eq_true rfl) ?_
  refine gi_putF (q := 275) C hnm (dm_Mo_init 127 rfl) rfl fF_Mo_107 fp_Mo_53 rfl (by rw [gi_up_ne (by omega)]; exact Ha) (by rw [Hf.1]; decide) rfl rfl ?_
  refine gi_gen (mo_mid M 30 (fun k => if k = 10 ∨ k = 11 then -1 else 0) h) (mo_add (i := 29) (k := 53) rfl (by decide) rfl rfl (by decide +kernel) Hf Hr Hb) (fun y H => ?_)
  obtain ⟨⟨fs, Ha, Hf⟩, Hr, Hb⟩ := H
  refine gi_aload_n (q := 276) (i := 0) C (dm_Mo_init 128 rfl) rfl rfl rfl ?_
  refine gi_bipush (q := 278) (v := 14) C (dm_Mo_init 129 rfl) rfl (by decide) ?_
  refine gi_newa (kd := 2) (q := 280) (N := 14) (a0 := (14, .inr (.inl (fun _ => 0)))) C (dm_Mo_init 130 rfl) rfl ac_long rfl rfl (fun _ => rfl) (by decide) (by decide) (by decide) (Nat.le_of_ble_eq_true rfl) (Nat.le_of_ble_eq_true rfl) ?_
  refine gi_putF (q := 283) C hnm (dm_Mo_init 131 rfl) rfl fF_Mo_110 fp_Mo_54 rfl (by rw [gi_up_ne (by omega)]; exact Ha) (by rw [Hf.1]; decide) rfl rfl ?_
  refine gi_gen (mo_mid M 31 (fun k => if k = 10 ∨ k = 11 then -1 else 0) h) (mo_add (i := 30) (k := 54) rfl (by decide) rfl rfl (by decide +kernel) Hf Hr Hb) (fun y H => ?_)
  obtain ⟨⟨fs, Ha, Hf⟩, Hr, Hb⟩ := H
  refine gi_aload_n (q := 284) (i := 0) C (dm_Mo_init 132 rfl) rfl rfl rfl ?_
  refine gi_bipush (q := 286) (v := 14) C (dm_Mo_init 133 rfl) rfl (by decide) ?_
  refine gi_newa (kd := 0) (q := 288) (N := 14) (a0 := (14, .inl (fun _ => 0))) C (dm_Mo_init 134 rfl) rfl ac_int rfl rfl (fun _ => rfl) (by decide) (by decide) (by decide) (Nat.le_of_ble_eq_true rfl) (Nat.le_of_ble_eq_true rfl) ?_
  refine gi_putF (q := 291) C hnm (dm_Mo_init 135 rfl) rfl fF_Mo_113 fp_Mo_55 rfl (by rw [gi_up_ne (by omega)]; exact Ha) (by rw [Hf.1]; decide) rfl rfl ?_
  refine gi_gen (mo_mid M 32 (fun k => if k = 10 ∨ k = 11 then -1 else 0) h) (mo_add (i := 31) (k := 55) rfl (by decide) rfl rfl (by decide +kernel) Hf Hr Hb) (fun y H => ?_)
  obtain ⟨⟨fs, Ha, Hf⟩, Hr, Hb⟩ := H
  refine gi_aload_n (q := 292) (i := 0) C (dm_Mo_init 136 rfl) rfl rfl rfl ?_
  refine gi_bipush (q := 294) (v := 14) C (dm_Mo_init 137 rfl) rfl (by decide) ?_
  refine gi_newa (kd := 1) (q := 296) (N := 14) (a0 := (14, .inl (fun _ => 0))) C (dm_Mo_init 138 rfl) rfl ac_boolean rfl rfl (fun _ => rfl) (by decide) (by decide) (by decide) (Nat.le_of_ble_eq_true rfl) (Nat.le_of_ble_eq_true rfl) ?_
  refine gi_putF (q := 299) C hnm (dm_Mo_init 139 rfl) rfl fF_Mo_116 fp_Mo_56 rfl (by rw [gi_up_ne (by omega)]; exact Ha) (by rw [Hf.1]; decide) rfl rfl ?_
  refine gi_gen (mo_mid M 33 (fun k => if k = 10 ∨ k = 11 then -1 else 0) h) (mo_add (i := 32) (k := 56) rfl (by decide) rfl rfl (by decide +kernel) Hf Hr Hb) (fun y H => ?_)
  obtain ⟨⟨fs, Ha, Hf⟩, Hr, Hb⟩ := H
  refine gi_aload_n (q := 300) (i := 0) C (dm_Mo_init 140 rfl) rfl rfl rfl ?_
  refine gi_bipush (q := 302) (v := 14) C (dm_Mo_init 141 rfl) rfl (by decide) ?_
  refine gi_newa (kd := 0) (q := 304) (N := 14) (a0 := (14, .inl (fun _ => 0))) C (dm_Mo_init 142 rfl) rfl ac_int rfl rfl (fun _ => rfl) (by decide) (by decide) (by decide) (Nat.le_of_ble_eq_true rfl) (Nat.le_of_ble_eq_true rfl) ?_
  refine gi_putF (q := 307) C hnm (dm_Mo_init 143 rfl) rfl fF_Mo_119 fp_Mo_57 rfl (by rw [gi_up_ne (by omega)]; exact Ha) (by rw [Hf.1]; decide) rfl rfl ?_
  refine gi_gen (mo_mid M 34 (fun k => if k = 10 ∨ k = 11 then -1 else 0) h) (mo_add (i := 33) (k := 57) rfl (by decide) rfl rfl (by decide +kernel) Hf Hr Hb) (fun y H => ?_)
  obtain ⟨⟨fs, Ha, Hf⟩, Hr, Hb⟩ := H
  refine gi_aload_n (q := 308) (i := 0) C (dm_Mo_init 144 rfl) rfl rfl rfl ?_
  refine gi_bipush (q := 310) (v := 14) C (dm_Mo_init 145 rfl) rfl (by decide) ?_
  refine gi_newa (kd := 2) (q := 312) (N := 14) (a0 := (14, .inr (.inl (fun _ => 0)))) C (dm_Mo_init 146 rfl) rfl ac_long rfl rfl (fun _ => rfl) (by decide) (by decide) (by decide) (Nat.le_of_ble_eq_true rfl) (Nat.le_of_ble_eq_true rfl) ?_
  refine gi_putF (q := 315) C hnm (dm_Mo_init 147 rfl) rfl fF_Mo_122 fp_Mo_60 rfl (by rw [gi_up_ne (by omega)]; exact Ha) (by rw [Hf.1]; decide) rfl rfl ?_
  refine gi_gen (mo_mid M 35 (fun k => if k = 10 ∨ k = 11 then -1 else 0) h) (mo_add (i := 34) (k := 60) rfl (by decide) rfl rfl (by decide +kernel) Hf Hr Hb) (fun y H => ?_)
  obtain ⟨⟨fs, Ha, Hf⟩, Hr, Hb⟩ := H
  refine gi_aload_n (q := 316) (i := 0) C (dm_Mo_init 148 rfl) rfl rfl rfl ?_
  refine gi_bipush (q := 318) (v := 14) C (dm_Mo_init 149 rfl) rfl (by decide) ?_
  refine gi_newa (kd := 2) (q := 320) (N := 14) (a0 := (14, .inr (.inl (fun _ => 0)))) C (dm_Mo_init 150 rfl) rfl ac_long rfl rfl (fun _ => rfl) (by decide) (by decide) (by decide) (Nat.le_of_ble_eq_true rfl) (Nat.le_of_ble_eq_true rfl) ?_
  refine gi_putF (q := 323) C hnm (dm_Mo_init 151 rfl) rfl fF_Mo_125 fp_Mo_61 rfl (by rw [gi_up_ne (by omega)]; exact Ha) (by rw [Hf.1]; decide) rfl rfl ?_
  refine gi_gen (mo_mid M 36 (fun k => if k = 10 ∨ k = 11 then -1 else 0) h) (mo_add (i := 35) (k := 61) rfl (by decide) rfl rfl (by decide +kernel) Hf Hr Hb) (fun y H => ?_)
  obtain ⟨⟨fs, Ha, Hf⟩, Hr, Hb⟩ := H
  refine gi_aload_n (q := 324) (i := 0) C (dm_Mo_init 152 rfl) rfl rfl rfl ?_
  refine gi_bipush (q := 326) (v := 14) C (dm_Mo_init 153 rfl) rfl (by decide) ?_
  refine gi_newa (kd := 2) (q := 328) (N := 14) (a0 := (14, .inr (.inl (fun _ => 0)))) C (dm_Mo_init 154 rfl) rfl ac_long rfl rfl (fun _ => rfl) (by decide) (by decide) (by decide) (Nat.le_of_ble_eq_true rfl) (Nat.le_of_ble_eq_true rfl) ?_
  refine gi_putF (q := 331) C hnm (dm_Mo_init 155 rfl) rfl fF_Mo_128 fp_Mo_62 rfl (by rw [gi_up_ne (by omega)]; exact Ha) (by rw [Hf.1]; decide) rfl rfl ?_
  refine gi_gen (mo_mid M 37 (fun k => if k = 10 ∨ k = 11 then -1 else 0) h) (mo_add (i := 36) (k := 62) rfl (by decide) rfl rfl (by decide +kernel) Hf Hr Hb) (fun y H => ?_)
  obtain ⟨⟨fs, Ha, Hf⟩, Hr, Hb⟩ := H
  refine gi_aload_n (q := 332) (i := 0) C (dm_Mo_init 156 rfl) rfl rfl rfl ?_
  refine gi_bipush (q := 334) (v := 14) C (dm_Mo_init 157 rfl) rfl (by decide) ?_
  refine gi_newa (kd := 0) (q := 336) (N := 14) (a0 := (14, .inl (fun _ => 0))) C (dm_Mo_init 158 rfl) rfl ac_int rfl rfl (fun _ => rfl) (by decide) (by decide) (by decide) (Nat.le_of_ble_eq_true rfl) (Nat.le_of_ble_eq_true rfl) ?_
  refine gi_putF (q := 339) C hnm (dm_Mo_init 159 rfl) rfl fF_Mo_131 fp_Mo_63 rfl (by rw [gi_up_ne (by omega)]; exact Ha) (by rw [Hf.1]; decide) rfl rfl ?_
  refine gi_gen (mo_mid M 38 (fun k => if k = 10 ∨ k = 11 then -1 else 0) h) (mo_add (i := 37) (k := 63) rfl (by decide) rfl rfl (by decide +kernel) Hf Hr Hb) (fun y H => ?_)
  obtain ⟨⟨fs, Ha, Hf⟩, Hr, Hb⟩ := H
  refine gi_aload_n (q := 340) (i := 0) C (dm_Mo_init 160 rfl) rfl rfl rfl ?_
  refine gi_bipush (q := 342) (v := 14) C (dm_Mo_init 161 rfl) rfl (by decide) ?_
  refine gi_newa (kd := 1) (q := 344) (N := 14) (a0 := (14, .inl (fun _ => 0))) C (dm_Mo_init 162 rfl) rfl ac_boolean rfl rfl (fun _ => rfl) (by decide) (by decide) (by decide) (Nat.le_of_ble_eq_true rfl) (Nat.le_of_ble_eq_true rfl) ?_
  refine gi_putF (q := 347) C hnm (dm_Mo_init 163 rfl) rfl fF_Mo_134 fp_Mo_64 rfl (by rw [gi_up_ne (by omega)]; exact Ha) (by rw [Hf.1]; decide) rfl rfl ?_
  refine gi_gen (mo_mid M 39 (fun k => if k = 10 ∨ k = 11 then -1 else 0) h) (mo_add (i := 38) (k := 64) rfl (by decide) rfl rfl (by decide +kernel) Hf Hr Hb) (fun y H => ?_)
  obtain ⟨⟨fs, Ha, Hf⟩, Hr, Hb⟩ := H
  refine gi_aload_n (q := 348) (i := 0) C (dm_Mo_init 164 rfl) rfl rfl rfl ?_
  refine gi_bipush (q := 350) (v := 14) C (dm_Mo_init 165 rfl) rfl (by decide) ?_
  refine gi_newa (kd := 0) (q := 352) (N := 14) (a0 := (14, .inl (fun _ => 0))) C (dm_Mo_init 166 rfl) rfl ac_int rfl rfl (fun _ => rfl) (by decide) (by decide) (by decide) (Nat.le_of_ble_eq_true rfl) (Nat.le_of_ble_eq_true rfl) ?_
  refine gi_putF (q := 355) C hnm (dm_Mo_init 167 rfl) rfl fF_Mo_137 fp_Mo_65 rfl (by rw [gi_up_ne (by omega)]; exact Ha) (by rw [Hf.1]; decide) rfl rfl ?_
  refine gi_gen (mo_mid M 40 (fun k => if k = 10 ∨ k = 11 then -1 else 0) h) (mo_add (i := 39) (k := 65) rfl (by decide) rfl rfl (by decide +kernel) Hf Hr Hb) (fun y H => ?_)
  obtain ⟨⟨fs, Ha, Hf⟩, Hr, Hb⟩ := H
  refine gi_aload_n (q := 356) (i := 0) C (dm_Mo_init 168 rfl) rfl rfl rfl ?_
  refine gi_iconst (q := 357) (v := 3) C (dm_Mo_init 169 rfl) rfl (by decide) ?_
  refine gi_newa (kd := 0) (q := 359) (N := 3) (a0 := (3, .inl (fun _ => 0))) C (dm_Mo_init 170 rfl) rfl ac_int rfl rfl (fun _ => rfl) (by decide) (by decide) (by decide) (Nat.le_of_ble_eq_true rfl) (Nat.le_of_ble_eq_true rfl) ?_
  refine gi_putF (q := 362) C hnm (dm_Mo_init 171 rfl) rfl fF_Mo_140 fp_Mo_68 rfl (by rw [gi_up_ne (by omega)]; exact Ha) (by rw [Hf.1]; decide) rfl rfl ?_
  refine gi_gen (mo_mid M 41 (fun k => if k = 10 ∨ k = 11 then -1 else 0) h) (mo_add (i := 40) (k := 68) rfl (by decide) rfl rfl (by decide +kernel) Hf Hr Hb) (fun y H => ?_)
  obtain ⟨⟨fs, Ha, Hf⟩, Hr, Hb⟩ := H
  refine gi_aload_n (q := 363) (i := 0) C (dm_Mo_init 172 rfl) rfl rfl rfl ?_
  refine gi_iconst (q := 364) (v := 3) C (dm_Mo_init 173 rfl) rfl (by decide) ?_
  refine gi_newa (kd := 0) (q := 366) (N := 3) (a0 := (3, .inl (fun _ => 0))) C (dm_Mo_init 174 rfl) rfl ac_int rfl rfl (fun _ => rfl) (by decide) (by decide) (by decide) (Nat.le_of_ble_eq_true rfl) (Nat.le_of_ble_eq_true rfl) ?_
  refine gi_putF (q := 369) C hnm (dm_Mo_init 175 rfl) rfl fF_Mo_143 fp_Mo_69 rfl (by rw [gi_up_ne (by omega)]; exact Ha) (by rw [Hf.1]; decide) rfl rfl ?_
  refine gi_gen (mo_mid M 42 (fun k => if k = 10 ∨ k = 11 then -1 else 0) h) (mo_add (i := 41) (k := 69) rfl (by decide) rfl rfl (by decide +kernel) Hf Hr Hb) (fun y H => ?_)
  obtain ⟨⟨fs, Ha, Hf⟩, Hr, Hb⟩ := H
  refine gi_aload_n (q := 370) (i := 0) C (dm_Mo_init 176 rfl) rfl rfl rfl ?_
  refine gi_sipush (q := 373) (v := 600) C (dm_Mo_init 177 rfl) rfl (by decide) ?_
  refine gi_newa (kd := 0) (q := 375) (N := 600) (a0 := (600, .inl (fun _ => 0))) C (dm_Mo_init 178 rfl) rfl ac_int rfl rfl (fun _ => rfl) (by decide) (by decide) (by decide) (Nat.le_of_ble_eq_true rfl) (Nat.le_of_ble_eq_true rfl) ?_
  refine gi_putF (q := 378) C hnm (dm_Mo_init 179 rfl) rfl fF_Mo_146 fp_Mo_70 rfl (by rw [gi_up_ne (by omega)]; exact Ha) (by rw [Hf.1]; decide) rfl rfl ?_
  refine gi_gen (mo_mid M 43 (fun k => if k = 10 ∨ k = 11 then -1 else 0) h) (mo_add (i := 42) (k := 70) rfl (by decide) rfl rfl (by decide +kernel) Hf Hr Hb) (fun y H => ?_)
  obtain ⟨⟨fs, Ha, Hf⟩, Hr, Hb⟩ := H
  refine gi_aload_n (q := 379) (i := 0) C (dm_Mo_init 180 rfl) rfl rfl rfl ?_
  refine gi_sipush (q := 382) (v := 2000) C (dm_Mo_init 181 rfl) rfl (by decide) ?_
  refine gi_newa (kd := 0) (q := 384) (N := 2000) (a0 := (2000, .inl (fun _ => 0))) C (dm_Mo_init 182 rfl) rfl ac_int rfl rfl (fun _ => rfl) (by decide) (by decide) (by decide) (Nat.le_of_ble_eq_true rfl) (Nat.le_of_ble_eq_true rfl) ?_
  refine gi_putF (q := 387) C hnm (dm_Mo_init 183 rfl) rfl fF_Mo_149 fp_Mo_71 rfl (by rw [gi_up_ne (by omega)]; exact Ha) (by rw [Hf.1]; decide) rfl rfl ?_
  refine gi_gen (mo_mid M 44 (fun k => if k = 10 ∨ k = 11 then -1 else 0) h) (mo_add (i := 43) (k := 71) rfl (by decide) rfl rfl (by decide +kernel) Hf Hr Hb) (fun y H => ?_)
  obtain ⟨⟨fs, Ha, Hf⟩, Hr, Hb⟩ := H
  refine gi_aload_n (q := 388) (i := 0) C (dm_Mo_init 184 rfl) rfl rfl rfl ?_
  refine gi_sipush (q := 391) (v := 301) C (dm_Mo_init 185 rfl) rfl (by decide) ?_
  refine gi_newa (kd := 0) (q := 393) (N := 301) (a0 := (301, .inl (fun _ => 0))) C (dm_Mo_init 186 rfl) rfl ac_int rfl rfl (fun _ => rfl) (by decide) (by decide) (by decide) (Nat.le_of_ble_eq_true rfl) (Nat.le_of_ble_eq_true rfl) ?_
  refine gi_putF (q := 396) C hnm (dm_Mo_init 187 rfl) rfl fF_Mo_152 fp_Mo_72 rfl (by rw [gi_up_ne (by omega)]; exact Ha) (by rw [Hf.1]; decide) rfl rfl ?_
  refine gi_gen (mo_mid M 45 (fun k => if k = 10 ∨ k = 11 then -1 else 0) h) (mo_add (i := 44) (k := 72) rfl (by decide) rfl rfl (by decide +kernel) Hf Hr Hb) (fun y H => ?_)
  obtain ⟨⟨fs, Ha, Hf⟩, Hr, Hb⟩ := H
  refine gi_aload_n (q := 397) (i := 0) C (dm_Mo_init 188 rfl) rfl rfl rfl ?_
  refine gi_sipush (q := 400) (v := 301) C (dm_Mo_init 189 rfl) rfl (by decide) ?_
  refine gi_newa (kd := 0) (q := 402) (N := 301) (a0 := (301, .inl (fun _ => 0))) C (dm_Mo_init 190 rfl) rfl ac_int rfl rfl (fun _ => rfl) (by decide) (by decide) (by decide) (Nat.le_of_ble_eq_true rfl) (Nat.le_of_ble_eq_true rfl) ?_
  refine gi_putF (q := 405) C hnm (dm_Mo_init 191 rfl) rfl fF_Mo_155 fp_Mo_73 rfl (by rw [gi_up_ne (by omega)]; exact Ha) (by rw [Hf.1]; decide) rfl rfl ?_
  refine gi_gen (mo_mid M 46 (fun k => if k = 10 ∨ k = 11 then -1 else 0) h) (mo_add (i := 45) (k := 73) rfl (by decide) rfl rfl (by decide +kernel) Hf Hr Hb) (fun y H => ?_)
  obtain ⟨⟨fs, Ha, Hf⟩, Hr, Hb⟩ := H
  refine gi_aload_n (q := 406) (i := 0) C (dm_Mo_init 192 rfl) rfl rfl rfl ?_
  refine gi_sipush (q := 409) (v := 301) C (dm_Mo_init 193 rfl) rfl (by decide) ?_
  refine gi_newa (kd := 0) (q := 411) (N := 301) (a0 := (301, .inl (fun _ => 0))) C (dm_Mo_init 194 rfl) rfl ac_int rfl rfl (fun _ => rfl) (by decide) (by decide) (by decide) (Nat.le_of_ble_eq_true rfl) (Nat.le_of_ble_eq_true rfl) ?_
  refine gi_putF (q := 414) C hnm (dm_Mo_init 195 rfl) rfl fF_Mo_158 fp_Mo_74 rfl (by rw [gi_up_ne (by omega)]; exact Ha) (by rw [Hf.1]; decide) rfl rfl ?_
  refine gi_gen (mo_mid M 47 (fun k => if k = 10 ∨ k = 11 then -1 else 0) h) (mo_add (i := 46) (k := 74) rfl (by decide) rfl rfl (by decide +kernel) Hf Hr Hb) (fun y H => ?_)
  obtain ⟨⟨fs, Ha, Hf⟩, Hr, Hb⟩ := H
  refine gi_aload_n (q := 415) (i := 0) C (dm_Mo_init 196 rfl) rfl rfl rfl ?_
  refine gi_iconst (q := 416) (v := 4) C (dm_Mo_init 197 rfl) rfl (by decide) ?_
  refine gi_newa (kd := 0) (q := 418) (N := 4) (a0 := (4, .inl (fun _ => 0))) C (dm_Mo_init 198 rfl) rfl ac_int rfl rfl (fun _ => rfl) (by decide) (by decide) (by decide) (Nat.le_of_ble_eq_true rfl) (Nat.le_of_ble_eq_true rfl) ?_
  refine gi_putF (q := 421) C hnm (dm_Mo_init 199 rfl) rfl fF_Mo_161 fp_Mo_77 rfl (by rw [gi_up_ne (by omega)]; exact Ha) (by rw [Hf.1]; decide) rfl rfl ?_
  refine gi_gen (mo_mid M 48 (fun k => if k = 10 ∨ k = 11 then -1 else 0) h) (mo_add (i := 47) (k := 77) rfl (by decide) rfl rfl (by decide +kernel) Hf Hr Hb) (fun y H => ?_)
  obtain ⟨⟨fs, Ha, Hf⟩, Hr, Hb⟩ := H
  refine gi_aload_n (q := 422) (i := 0) C (dm_Mo_init 200 rfl) rfl rfl rfl ?_
  refine gi_sipush (q := 425) (v := 224) C (dm_Mo_init 201 rfl) rfl (by decide) ?_
  refine gi_newa (kd := 0) (q := 427) (N := 224) (a0 := (224, .inl (fun _ => 0))) C (dm_Mo_init 202 rfl) rfl ac_int rfl rfl (fun _ => rfl) (by decide) (by decide) (by decide) (Nat.le_of_ble_eq_true rfl) (Nat.le_of_ble_eq_true rfl) ?_
  refine gi_putF (q := 430) C hnm (dm_Mo_init 203 rfl) rfl fF_Mo_164 fp_Mo_78 rfl (by rw [gi_up_ne (by omega)]; exact Ha) (by rw [Hf.1]; decide) rfl rfl ?_
  refine gi_gen (mo_mid M 49 (fun k => if k = 10 ∨ k = 11 then -1 else 0) h) (mo_add (i := 48) (k := 78) rfl (by decide) rfl rfl (by decide +kernel) Hf Hr Hb) (fun y H => ?_)
  obtain ⟨⟨fs, Ha, Hf⟩, Hr, Hb⟩ := H
  refine gi_aload_n (q := 431) (i := 0) C (dm_Mo_init 204 rfl) rfl rfl rfl ?_
  refine gi_bipush (q := 433) (v := 16) C (dm_Mo_init 205 rfl) rfl (by decide) ?_
  refine gi_newa (kd := 0) (q := 435) (N := 16) (a0 := (16, .inl (fun _ => 0))) C (dm_Mo_init 206 rfl) rfl ac_int rfl rfl (fun _ => rfl) (by decide) (by decide) (by decide) (Nat.le_of_ble_eq_true rfl) (Nat.le_of_ble_eq_true rfl) ?_
  refine gi_putF (q := 438) C hnm (dm_Mo_init 207 rfl) rfl fF_Mo_167 fp_Mo_79 rfl (by rw [gi_up_ne (by omega)]; exact Ha) (by rw [Hf.1]; decide) rfl rfl ?_
  refine gi_gen (mo_mid M 50 (fun k => if k = 10 ∨ k = 11 then -1 else 0) h) (mo_add (i := 49) (k := 79) rfl (by decide) rfl rfl (by decide +kernel) Hf Hr Hb) (fun y H => ?_)
  obtain ⟨⟨fs, Ha, Hf⟩, Hr, Hb⟩ := H
  refine gi_aload_n (q := 439) (i := 0) C (dm_Mo_init 208 rfl) rfl rfl rfl ?_
  refine gi_bipush (q := 441) (v := 16) C (dm_Mo_init 209 rfl) rfl (by decide) ?_
  refine gi_newa (kd := 0) (q := 443) (N := 16) (a0 := (16, .inl (fun _ => 0))) C (dm_Mo_init 210 rfl) rfl ac_int rfl rfl (fun _ => rfl) (by decide) (by decide) (by decide) (Nat.le_of_ble_eq_true rfl) (Nat.le_of_ble_eq_true rfl) ?_
  refine gi_putF (q := 446) C hnm (dm_Mo_init 211 rfl) rfl fF_Mo_170 fp_Mo_80 rfl (by rw [gi_up_ne (by omega)]; exact Ha) (by rw [Hf.1]; decide) rfl rfl ?_
  refine gi_gen (mo_mid M 51 (fun k => if k = 10 ∨ k = 11 then -1 else 0) h) (mo_add (i := 50) (k := 80) rfl (by decide) rfl rfl (by decide +kernel) Hf Hr Hb) (fun y H => ?_)
  obtain ⟨⟨fs, Ha, Hf⟩, Hr, Hb⟩ := H
  refine gi_aload_n (q := 447) (i := 0) C (dm_Mo_init 212 rfl) rfl rfl rfl ?_
  refine gi_iconst (q := 448) (v := -1) C (dm_Mo_init 213 rfl) rfl (by decide) ?_
  refine gi_put (q := 451) C (dm_Mo_init 214 rfl) rfl fl_Mo_173 fp_Mo_87 Ha (by rw [Hf.1]; decide) rfl rfl ?_
  refine gi_gen (mo_mid M 51 (fun k => if k = 10 ∨ k = 11 ∨ k = 87 then -1 else 0) h) (mo_put (k := 87) (by decide) rfl (by decide) (fun j hj => by simp [hj]) Hf Hr Hb) (fun y H => ?_)
  obtain ⟨⟨fs, Ha, Hf⟩, Hr, Hb⟩ := H
  refine gi_vret C hr (dm_Mo_init 215 rfl) ?_
  refine ⟨rfl, by omega, ⟨⟨fs, Ha, ?_⟩, Hr⟩, Hb⟩
  have e : ∀ j, j < 89 → mo_fi M 51 (fun k => if k = 10 ∨ k = 11 ∨ k = 87 then -1 else 0) j = mo_fv M (fun k => if k = 10 ∨ k = 11 ∨ k = 87 then -1 else 0) (fun _ => 0) j := by
    intro j hj
    have off2 : ∀ j, j < 89 → mo_off j ≤ 51 := by decide +kernel
    unfold mo_fi mo_fv
    split
    · rw [if_pos (off2 j hj)]
    · rfl
    · rfl
  exact ⟨Hf.1, fun j hj => by rw [Hf.2 j hj, e j hj]⟩
end MO0
