section VA
/-- a Value: array, low, high, stride, sites, orNull, as the machine has them -/
abbrev mV : Type := Int32 × Int64 × Int64 × Int64 × Int32 × Int32
abbrev eV (v : mV) : gi_E := gi_O 5 [.int v.1, .long v.2.1, .long v.2.2.1, .long v.2.2.2.1, .int v.2.2.2.2.1, .int v.2.2.2.2.2]
def mSpan (x y z : Int64) : mV := (0, x, y, if x = y then 0 else z, 0, 0)
def mSet (b o : Int32) : mV := (1, 0, 0, 0, b, o)
def bI (b : Bool) : Int32 := if b then 1 else 0
theorem bI_nar (b : Bool) : narrow .boolean (.int (bI b)) = .int (bI b) := by cases b <;> rfl
/-- behind a method: it answers r, the heap is h1, nothing is made -/
abbrev gi_is (r : Option Value) (n : Nat) (h1 : gi_H) : Option Value → Nat → gi_H → Prop := fun r' n' h' => r' = r ∧ n' = n ∧ h' = h1
variable {l : Launch} {V : gi_V} {n : Nat} {h : gi_H}
set_option maxHeartbeats 4000000 in
set_option maxRecDepth 100000 in
theorem c_Va_beSpan (a : Nat) (v : mV) (x y z : Int64) (ha : h a = some (eV v)) : gi_T l V y_Va_beSpan b_Va_beSpan 7 none 0 0 0 0 [.ref a, .long x, .long y, .long z] n h (gi_is none n (gi_up h a (eV (mSpan x y z)))) := by
  refine gi_enter (by decide) (Nat.le_of_ble_eq_true rfl) ?_
  intro p e s m args below meth c C hr hnm
  refine gi_aload_n (q := 1) (i := 0) C (dm_Va_beSpan 0 rfl) rfl rfl rfl ?_
  refine gi_iconst (q := 2) (v := 0) C (dm_Va_beSpan 1 rfl) rfl (by decide) ?_
  refine gi_put (q := 5) C (dm_Va_beSpan 2 rfl) rfl fl_Va_9 fp_Va_0 (by first | assumption | exact gi_up_self _ _ _) (Nat.le_of_ble_eq_true rfl) rfl rfl ?_
  refine gi_aload_n (q := 6) (i := 0) C (dm_Va_beSpan 3 rfl) rfl rfl rfl ?_
  refine gi_lload_n (q := 7) (i := 1) C (dm_Va_beSpan 4 rfl) rfl rfl rfl ?_
  refine gi_put (q := 10) C (dm_Va_beSpan 5 rfl) rfl fl_Va_15 fp_Va_1 (by first | assumption | exact gi_up_self _ _ _) (Nat.le_of_ble_eq_true rfl) rfl rfl ?_
  refine gi_aload_n (q := 11) (i := 0) C (dm_Va_beSpan 6 rfl) rfl rfl rfl ?_
  refine gi_lload_n (q := 12) (i := 3) C (dm_Va_beSpan 7 rfl) rfl rfl rfl ?_
  refine gi_put (q := 15) C (dm_Va_beSpan 8 rfl) rfl fl_Va_19 fp_Va_2 (by first | assumption | exact gi_up_self _ _ _) (Nat.le_of_ble_eq_true rfl) rfl rfl ?_
  refine gi_aload_n (q := 16) (i := 0) C (dm_Va_beSpan 9 rfl) rfl rfl rfl ?_
  refine gi_lload_n (q := 17) (i := 1) C (dm_Va_beSpan 10 rfl) rfl rfl rfl ?_
  refine gi_lload_n (q := 18) (i := 3) C (dm_Va_beSpan 11 rfl) rfl rfl rfl ?_
  refine gi_lcmp (q := 19) C (dm_Va_beSpan 12 rfl) rfl ?_
  refine gi_if_ne (q := 22) (tgt := 26) C (dm_Va_beSpan 13 rfl) rfl (by decide) (fun c19 => ?_) (fun c19 => ?_)
  · refine gi_lload (q := 28) C (dm_Va_beSpan 16 rfl) rfl rfl ?_
    refine gi_put (q := 31) C (dm_Va_beSpan 17 rfl) rfl fl_Va_22 fp_Va_3 (by first | assumption | exact gi_up_self _ _ _) (Nat.le_of_ble_eq_true rfl) rfl rfl ?_
    refine gi_aload_n (q := 32) (i := 0) C (dm_Va_beSpan 18 rfl) rfl rfl rfl ?_
    refine gi_iconst (q := 33) (v := 0) C (dm_Va_beSpan 19 rfl) rfl (by decide) ?_
    refine gi_put (q := 36) C (dm_Va_beSpan 20 rfl) rfl fl_Va_25 fp_Va_4 (by first | assumption | exact gi_up_self _ _ _) (Nat.le_of_ble_eq_true rfl) rfl rfl ?_
    refine gi_aload_n (q := 37) (i := 0) C (dm_Va_beSpan 21 rfl) rfl rfl rfl ?_
    refine gi_iconst (q := 38) (v := 0) C (dm_Va_beSpan 22 rfl) rfl (by decide) ?_
    refine gi_put (q := 41) C (dm_Va_beSpan 23 rfl) rfl fl_Va_29 fp_Va_5 (by first | assumption | exact gi_up_self _ _ _) (Nat.le_of_ble_eq_true rfl) rfl rfl ?_
    refine gi_vret C hr (dm_Va_beSpan 24 rfl) ?_
    refine ⟨rfl, rfl, ?_⟩
    simp only [gi_up_up]
    simp only [ne_eq, lg_cmp_eq] at c19
    simp [mSpan, c19]
  · refine gi_lconst (q := 23) (v := 0) C (dm_Va_beSpan 14 rfl) rfl (by decide) ?_
    refine gi_goto (tgt := 28) C (dm_Va_beSpan 15 rfl) (by decide) ?_
    refine gi_put (q := 31) C (dm_Va_beSpan 17 rfl) rfl fl_Va_22 fp_Va_3 (by first | assumption | exact gi_up_self _ _ _) (Nat.le_of_ble_eq_true rfl) rfl rfl ?_
    refine gi_aload_n (q := 32) (i := 0) C (dm_Va_beSpan 18 rfl) rfl rfl rfl ?_
    refine gi_iconst (q := 33) (v := 0) C (dm_Va_beSpan 19 rfl) rfl (by decide) ?_
    refine gi_put (q := 36) C (dm_Va_beSpan 20 rfl) rfl fl_Va_25 fp_Va_4 (by first | assumption | exact gi_up_self _ _ _) (Nat.le_of_ble_eq_true rfl) rfl rfl ?_
    refine gi_aload_n (q := 37) (i := 0) C (dm_Va_beSpan 21 rfl) rfl rfl rfl ?_
    refine gi_iconst (q := 38) (v := 0) C (dm_Va_beSpan 22 rfl) rfl (by decide) ?_
    refine gi_put (q := 41) C (dm_Va_beSpan 23 rfl) rfl fl_Va_29 fp_Va_5 (by first | assumption | exact gi_up_self _ _ _) (Nat.le_of_ble_eq_true rfl) rfl rfl ?_
    refine gi_vret C hr (dm_Va_beSpan 24 rfl) ?_
    refine ⟨rfl, rfl, ?_⟩
    simp only [gi_up_up]
    simp only [ne_eq, lg_cmp_eq] at c19
    simp [mSpan, c19]
set_option maxHeartbeats 4000000 in
set_option maxRecDepth 100000 in
theorem c_Va_isNothing (a : Nat) (v : mV) (ha : h a = some (eV v)) : gi_T l V y_Va_isNothing b_Va_isNothing 1 (some .boolean) 0 0 0 0 [.ref a] n h (gi_is (some (.int (bI (if v.1 = 0 then decide (v.2.2.1 < v.2.1) else decide (v.2.2.2.2.1 = 0) && decide (v.2.2.2.2.2 = 0))))) n h) := by
  refine gi_enter (by decide) (Nat.le_of_ble_eq_true rfl) ?_
  intro p e s m args below meth c C hr hnm
  refine gi_aload_n (q := 1) (i := 0) C (dm_Va_isNothing 0 rfl) rfl rfl rfl ?_
  refine gi_get (q := 4) C (dm_Va_isNothing 1 rfl) rfl fl_Va_9 (by first | assumption | exact gi_up_self _ _ _) rfl ?_
  refine gi_if_eq (q := 7) (tgt := 29) C (dm_Va_isNothing 2 rfl) rfl (by decide) (fun c4 => ?_) (fun c4 => ?_)
  · refine gi_aload_n (q := 30) (i := 0) C (dm_Va_isNothing 13 rfl) rfl rfl rfl ?_
    refine gi_get (q := 33) C (dm_Va_isNothing 14 rfl) rfl fl_Va_15 (by first | assumption | exact gi_up_self _ _ _) rfl ?_
    refine gi_aload_n (q := 34) (i := 0) C (dm_Va_isNothing 15 rfl) rfl rfl rfl ?_
    refine gi_get (q := 37) C (dm_Va_isNothing 16 rfl) rfl fl_Va_19 (by first | assumption | exact gi_up_self _ _ _) rfl ?_
    refine gi_lcmp (q := 38) C (dm_Va_isNothing 17 rfl) rfl ?_
    refine gi_if_le (q := 41) (tgt := 45) C (dm_Va_isNothing 18 rfl) rfl (by decide) (fun c38 => ?_) (fun c38 => ?_)
    · refine gi_iconst (q := 46) (v := 0) C (dm_Va_isNothing 21 rfl) rfl (by decide) ?_
      refine gi_zret C hr (dm_Va_isNothing 22 rfl) rfl ?_
      refine ⟨?_, rfl, rfl⟩
      simp_all [bI, lg_cmp_eq, lg_cmp_le, lg_cmp_gt, lg_cmp_lt, lg_cmp_ge]
    · refine gi_iconst (q := 42) (v := 1) C (dm_Va_isNothing 19 rfl) rfl (by decide) ?_
      refine gi_goto (tgt := 46) C (dm_Va_isNothing 20 rfl) (by decide) ?_
      refine gi_zret C hr (dm_Va_isNothing 22 rfl) rfl ?_
      refine ⟨?_, rfl, rfl⟩
      simp_all [bI, lg_cmp_eq, lg_cmp_le, lg_cmp_gt, lg_cmp_lt, lg_cmp_ge]
  · refine gi_aload_n (q := 8) (i := 0) C (dm_Va_isNothing 3 rfl) rfl rfl rfl ?_
    refine gi_get (q := 11) C (dm_Va_isNothing 4 rfl) rfl fl_Va_25 (by first | assumption | exact gi_up_self _ _ _) rfl ?_
    refine gi_if_ne (q := 14) (tgt := 25) C (dm_Va_isNothing 5 rfl) rfl (by decide) (fun c11 => ?_) (fun c11 => ?_)
    · refine gi_iconst (q := 26) (v := 0) C (dm_Va_isNothing 11 rfl) rfl (by decide) ?_
      refine gi_goto (tgt := 46) C (dm_Va_isNothing 12 rfl) (by decide) ?_
      refine gi_zret C hr (dm_Va_isNothing 22 rfl) rfl ?_
      refine ⟨?_, rfl, rfl⟩
      simp_all [bI, lg_cmp_eq, lg_cmp_le, lg_cmp_gt, lg_cmp_lt, lg_cmp_ge]
    · refine gi_aload_n (q := 15) (i := 0) C (dm_Va_isNothing 6 rfl) rfl rfl rfl ?_
      refine gi_get (q := 18) C (dm_Va_isNothing 7 rfl) rfl fl_Va_29 (by first | assumption | exact gi_up_self _ _ _) rfl ?_
      refine gi_if_ne (q := 21) (tgt := 25) C (dm_Va_isNothing 8 rfl) rfl (by decide) (fun c18 => ?_) (fun c18 => ?_)
      · refine gi_iconst (q := 26) (v := 0) C (dm_Va_isNothing 11 rfl) rfl (by decide) ?_
        refine gi_goto (tgt := 46) C (dm_Va_isNothing 12 rfl) (by decide) ?_
        refine gi_zret C hr (dm_Va_isNothing 22 rfl) rfl ?_
        refine ⟨?_, rfl, rfl⟩
        simp_all [bI, lg_cmp_eq, lg_cmp_le, lg_cmp_gt, lg_cmp_lt, lg_cmp_ge]
      · refine gi_iconst (q := 22) (v := 1) C (dm_Va_isNothing 9 rfl) rfl (by decide) ?_
        refine gi_goto (tgt := 46) C (dm_Va_isNothing 10 rfl) (by decide) ?_
        refine gi_zret C hr (dm_Va_isNothing 22 rfl) rfl ?_
        refine ⟨?_, rfl, rfl⟩
        simp_all [bI, lg_cmp_eq, lg_cmp_le, lg_cmp_gt, lg_cmp_lt, lg_cmp_ge]
end VA
