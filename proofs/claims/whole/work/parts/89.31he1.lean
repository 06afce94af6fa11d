-- needs: 89.30
section HE1
variable {l : Launch} {V : gi_V} {n : Nat} {h : gi_H} {a : Nat} {H : Hp}
theorem upd_is (f : Nat → Int32) (i : Nat) (v : Int32) (j : Nat) : upd f i v j = if j = i then v else f j := by
  unfold upd
  by_cases q : j = i <;> simp [q]
/-- filled from here to there -/
def filF {α : Type} (f : Nat → α) (x y : Nat) (v : α) : Nat → α := fun i => if x ≤ i ∧ i < y then v else f i
theorem filF_0 {α : Type} (f : Nat → α) (x : Nat) (v : α) : filF f x x v = f := by
  funext i
  unfold filF
  rw [if_neg (by omega)]
theorem filF_s (f : Nat → Int32) (x y : Nat) (v : Int32) (h : x ≤ y) : upd (filF f x y v) y v = filF f x (y + 1) v := by
  funext i
  rw [upd_is]
  unfold filF
  by_cases q : i = y
  · rw [if_pos q, if_pos (by omega)]
  · rw [if_neg q]
    by_cases r : x ≤ i ∧ i < y
    · rw [if_pos r, if_pos (by omega)]
    · rw [if_neg r, if_neg (by omega)]
theorem filL_s (f : Nat → Int64) (x y : Nat) (v : Int64) (h : x ≤ y) : vp_updL (filF f x y v) y v = filF f x (y + 1) v := by
  funext i
  unfold vp_updL filF
  by_cases q : i = y
  · subst q
    rw [if_pos (show x ≤ i ∧ i < i + 1 by omega)]
    simp
  · have : (i == y) = false := by simpa using q
    by_cases r : x ≤ i ∧ i < y
    · simp only [q, if_false]; rw [if_pos r, if_pos (by omega)]
    · simp only [q, if_false]; rw [if_neg r, if_neg (by omega)]
set_option maxHeartbeats 4000000 in
set_option maxRecDepth 100000 in
theorem c_Ar_rangeCheck (N x y : Nat) (h1 : x ≤ y) (h2 : y ≤ N) (h31 : N < 2 ^ 31) : gi_T l V y_Ar_rangeCheck b_Ar_rangeCheck 3 none 0 0 0 0 [.int (nI N), .int (nI x), .int (nI y)] n h (gi_is none n h) := by
  refine gi_enterF (by decide +kernel) (Nat.le_of_ble_eq_true rfl) ?_
  intro _ _ _ _ _ _ _ _ C hr hnm
  refine gi_iload_n (q := 1) (i := 1) C (dm_Ar_rangeCheck 0 rfl) rfl rfl rfl ?_
  refine gi_iload_n (q := 2) (i := 2) C (dm_Ar_rangeCheck 1 rfl) rfl rfl rfl ?_
  refine gi_icmp_le (q := 5) (tgt := 46) C (dm_Ar_rangeCheck 2 rfl) rfl (by decide) (fun c2 => ?_) (fun c2 => ?_)
  · refine gi_iload_n (q := 47) (i := 1) C (dm_Ar_rangeCheck 21 rfl) rfl rfl rfl ?_
    refine gi_if_ge (q := 50) (tgt := 59) C (dm_Ar_rangeCheck 22 rfl) rfl (by decide) (fun c47 => ?_) (fun c47 => ?_)
    · refine gi_iload_n (q := 60) (i := 2) C (dm_Ar_rangeCheck 28 rfl) rfl rfl rfl ?_
      refine gi_iload_n (q := 61) (i := 0) C (dm_Ar_rangeCheck 29 rfl) rfl rfl rfl ?_
      refine gi_icmp_le (q := 64) (tgt := 73) C (dm_Ar_rangeCheck 30 rfl) rfl (by decide) (fun c61 => ?_) (fun c61 => ?_)
      · refine gi_vret C hr (dm_Ar_rangeCheck 36 rfl) ?_
        exact ⟨rfl, rfl, rfl⟩
      · exact absurd (nI_le h2 h31) c61
    · exact absurd (nI_le (a := 0) (Nat.zero_le x) (by omega)) c47
  · exact absurd (nI_le h1 (by omega)) c2
set_option maxHeartbeats 4000000 in
set_option maxRecDepth 100000 in
theorem c_Ar_fill_2 {r N kd : Nat} {f : Nat → Int32} (x y : Nat) (v : Int32) (h1 : x ≤ y) (h2 : y ≤ N) (h31 : N < 2 ^ 31) (hk : gi_kinds[kd]? = some .int) (ha : h r = some (gi_I kd N f)) : gi_T l V y_Ar_fill_2 b_Ar_fill_2 5 none 1 22 0 0 [.ref r, .int (nI x), .int (nI y), .int v] n h (gi_is none n (gi_up h r (gi_I kd N (filF f x y v)))) := by
  refine gi_enterF (by decide +kernel) (Nat.le_of_ble_eq_true rfl) ?_
  intro _ _ _ _ _ _ _ _ C hr hnm
  refine gi_aload_n (q := 1) (i := 0) C (dm_Ar_fill_2 0 rfl) rfl rfl rfl ?_
  refine gi_alen (q := 2) C (dm_Ar_fill_2 1 rfl) rfl hk ha rfl ?_
  refine gi_iload_n (q := 3) (i := 1) C (dm_Ar_fill_2 2 rfl) rfl rfl rfl ?_
  refine gi_iload_n (q := 4) (i := 2) C (dm_Ar_fill_2 3 rfl) rfl rfl rfl ?_
  refine gi_calls 3 (q := 7) C (dm_Ar_fill_2 4 rfl) rfl my_Ar_rangeCheck lk_Ar_13 sm_Ar_rangeCheck (c_Ar_rangeCheck N x y h1 h2 h31) rfl rfl ⟨(Nat.le_of_ble_eq_true rfl), (Nat.le_of_ble_eq_true rfl)⟩ (Nat.le_of_ble_eq_true rfl) ⟨(Nat.le_of_ble_eq_true rfl), (Nat.le_of_ble_eq_true rfl)⟩ (fun r4 n4 h4 e4 => ?_)
  obtain ⟨rfl, q4, u4⟩ := e4
  rw [q4, u4]
  refine gi_iload_n (q := 8) (i := 1) C (dm_Ar_fill_2 5 rfl) rfl rfl rfl ?_
  refine gi_istore (q := 10) C (dm_Ar_fill_2 6 rfl) rfl (Nat.le_of_ble_eq_true rfl) ?_
  refine gi_while (σ := Nat) (fun j => y - j) (fun j => [(4, .int (nI j)), (0, .ref r), (2, .int (nI y)), (3, .int v)]) (fun _ => n) (fun _ => 0) (fun _ => 0) (fun j y' => x ≤ j ∧ j ≤ y ∧ gi_up h r (gi_I kd N (filF f x j v)) = y') x ⟨Nat.le_refl _, h1, by rw [filF_0]; exact gi_up_id ha⟩ ?_ (List.forall_mem_cons.mpr ⟨rfl, List.forall_mem_cons.mpr ⟨rfl, List.forall_mem_cons.mpr ⟨rfl, List.forall_mem_cons.mpr ⟨rfl, fun _ h => absurd h List.not_mem_nil⟩⟩⟩⟩) rfl rfl rfl
  rintro j y' ⟨xj, jy0, rfl⟩ ih
  try dsimp only at *
  refine gi_iload (q := 12) C (dm_Ar_fill_2 7 rfl) rfl rfl ?_
  refine gi_iload_n (q := 13) (i := 2) C (dm_Ar_fill_2 8 rfl) rfl rfl rfl ?_
  refine gi_icmp_ge (q := 16) (tgt := 27) C (dm_Ar_fill_2 9 rfl) rfl (by decide) (fun c13 => ?_) (fun c13 => ?_)
  · have jy2 : j = y := by
      rcases Nat.lt_or_ge j y with q | q
      · exact absurd c13 (Int32.not_le.mpr (nI_lt q (by omega)))
      · omega
    subst jy2
    refine gi_vret C hr (dm_Ar_fill_2 16 rfl) ?_
    exact ⟨rfl, rfl, rfl⟩
  · have jy : j < y := by
      rcases Nat.lt_or_ge j y with q | q
      · exact q
      · exact absurd (nI_le q (by omega)) c13
    refine gi_aload_n (q := 17) (i := 0) C (dm_Ar_fill_2 10 rfl) rfl rfl rfl ?_
    refine gi_iload (q := 19) C (dm_Ar_fill_2 11 rfl) rfl rfl ?_
    refine gi_iload_n (q := 20) (i := 3) C (dm_Ar_fill_2 12 rfl) rfl rfl rfl ?_
    refine gi_iast (q := 21) C (dm_Ar_fill_2 13 rfl) rfl hk (gi_up_self _ _ _) (in_nI (k := N) (nI_le (a := 0) (Nat.zero_le _) (by omega)) (nI_lt (by omega) h31) (Nat.le_refl _) h31) ?_
    rw [gi_up_up, nI_clamp (by omega), filF_s f x j v xj]
    refine gi_iinc (q := 24) (v := 1) C (dm_Ar_fill_2 14 rfl) rfl rfl (by decide) (Nat.le_of_ble_eq_true rfl) ?_
    refine gi_goto (tgt := 10) C (dm_Ar_fill_2 15 rfl) (by decide) ?_
    refine gi_close (ih (j + 1) _ ⟨by omega, jy, rfl⟩ (by omega)) (List.forall_mem_cons.mpr ⟨(by simp [gi_look, nI_1]), List.forall_mem_cons.mpr ⟨rfl, List.forall_mem_cons.mpr ⟨rfl, List.forall_mem_cons.mpr ⟨rfl, fun _ h => absurd h List.not_mem_nil⟩⟩⟩⟩) rfl rfl rfl
set_option maxHeartbeats 4000000 in
set_option maxRecDepth 100000 in
theorem c_Ar_fill_0 {r N kd : Nat} {f : Nat → Int32} (v : Int32) (h31 : N < 2 ^ 31) (hk : gi_kinds[kd]? = some .int) (ha : h r = some (gi_I kd N f)) : gi_T l V y_Ar_fill_0 b_Ar_fill_0 4 none 0 0 0 0 [.ref r, .int v] n h (gi_is none n (gi_up h r (gi_I kd N (filF f 0 N v)))) := by
  refine gi_enterF (by decide +kernel) (Nat.le_of_ble_eq_true rfl) ?_
  intro _ _ _ _ _ _ _ _ C hr hnm
  refine gi_iconst (q := 1) (v := 0) C (dm_Ar_fill_0 0 rfl) rfl (by decide) ?_
  refine gi_istore_n (q := 2) (i := 2) C (dm_Ar_fill_0 1 rfl) rfl rfl (Nat.le_of_ble_eq_true rfl) ?_
  refine gi_aload_n (q := 3) (i := 0) C (dm_Ar_fill_0 2 rfl) rfl rfl rfl ?_
  refine gi_alen (q := 4) C (dm_Ar_fill_0 3 rfl) rfl hk ha rfl ?_
  refine gi_istore_n (q := 5) (i := 3) C (dm_Ar_fill_0 4 rfl) rfl rfl (Nat.le_of_ble_eq_true rfl) ?_
  refine gi_while (σ := Nat) (fun j => N - j) (fun j => [(2, .int (nI j)), (3, .int (nI N)), (0, .ref r), (1, .int v)]) (fun _ => n) (fun _ => 0) (fun _ => 0) (fun j y' => j ≤ N ∧ gi_up h r (gi_I kd N (filF f 0 j v)) = y') 0 ⟨Nat.zero_le _, by rw [filF_0]; exact gi_up_id ha⟩ ?_ (List.forall_mem_cons.mpr ⟨rfl, List.forall_mem_cons.mpr ⟨rfl, List.forall_mem_cons.mpr ⟨rfl, List.forall_mem_cons.mpr ⟨rfl, fun _ h => absurd h List.not_mem_nil⟩⟩⟩⟩) rfl rfl rfl
  rintro j y' ⟨jy0, rfl⟩ ih
  try dsimp only at *
  refine gi_iload_n (q := 6) (i := 2) C (dm_Ar_fill_0 5 rfl) rfl rfl rfl ?_
  refine gi_iload_n (q := 7) (i := 3) C (dm_Ar_fill_0 6 rfl) rfl rfl rfl ?_
  refine gi_icmp_ge (q := 10) (tgt := 20) C (dm_Ar_fill_0 7 rfl) rfl (by decide) (fun c7 => ?_) (fun c7 => ?_)
  · have jy2 : j = N := by
      rcases Nat.lt_or_ge j N with q | q
      · exact absurd c7 (Int32.not_le.mpr (nI_lt q (by omega)))
      · omega
    subst jy2
    refine gi_vret C hr (dm_Ar_fill_0 14 rfl) ?_
    exact ⟨rfl, rfl, rfl⟩
  · have jy : j < N := by
      rcases Nat.lt_or_ge j N with q | q
      · exact q
      · exact absurd (nI_le q (by omega)) c7
    refine gi_aload_n (q := 11) (i := 0) C (dm_Ar_fill_0 8 rfl) rfl rfl rfl ?_
    refine gi_iload_n (q := 12) (i := 2) C (dm_Ar_fill_0 9 rfl) rfl rfl rfl ?_
    refine gi_iload_n (q := 13) (i := 1) C (dm_Ar_fill_0 10 rfl) rfl rfl rfl ?_
    refine gi_iast (q := 14) C (dm_Ar_fill_0 11 rfl) rfl hk (gi_up_self _ _ _) (in_nI (k := N) (nI_le (a := 0) (Nat.zero_le _) (by omega)) (nI_lt (by omega) h31) (Nat.le_refl _) h31) ?_
    rw [gi_up_up, nI_clamp (by omega), filF_s f 0 j v (Nat.zero_le _)]
    refine gi_iinc (q := 17) (v := 1) C (dm_Ar_fill_0 12 rfl) rfl rfl (by decide) (Nat.le_of_ble_eq_true rfl) ?_
    refine gi_goto (tgt := 5) C (dm_Ar_fill_0 13 rfl) (by decide) ?_
    refine gi_close (ih (j + 1) _ ⟨jy, rfl⟩ (by omega)) (List.forall_mem_cons.mpr ⟨(by simp [gi_look, nI_1]), List.forall_mem_cons.mpr ⟨rfl, List.forall_mem_cons.mpr ⟨rfl, List.forall_mem_cons.mpr ⟨rfl, fun _ h => absurd h List.not_mem_nil⟩⟩⟩⟩) rfl rfl rfl
set_option maxHeartbeats 4000000 in
set_option maxRecDepth 100000 in
theorem c_Ar_fill_1 {r N kd : Nat} {f : Nat → Int64} (v : Int64) (h31 : N < 2 ^ 31) (hk : gi_kinds[kd]? = some .long) (ha : h r = some (gi_J kd N f)) : gi_T l V y_Ar_fill_1 b_Ar_fill_1 5 none 0 0 0 0 [.ref r, .long v] n h (gi_is none n (gi_up h r (gi_J kd N (filF f 0 N v)))) := by
  refine gi_enterF (by decide +kernel) (Nat.le_of_ble_eq_true rfl) ?_
  intro _ _ _ _ _ _ _ _ C hr hnm
  refine gi_iconst (q := 1) (v := 0) C (dm_Ar_fill_1 0 rfl) rfl (by decide) ?_
  refine gi_istore_n (q := 2) (i := 3) C (dm_Ar_fill_1 1 rfl) rfl rfl (Nat.le_of_ble_eq_true rfl) ?_
  refine gi_aload_n (q := 3) (i := 0) C (dm_Ar_fill_1 2 rfl) rfl rfl rfl ?_
  refine gi_alen (q := 4) C (dm_Ar_fill_1 3 rfl) rfl hk ha rfl ?_
  refine gi_istore (q := 6) C (dm_Ar_fill_1 4 rfl) rfl (Nat.le_of_ble_eq_true rfl) ?_
  refine gi_while (σ := Nat) (fun j => N - j) (fun j => [(3, .int (nI j)), (4, .int (nI N)), (0, .ref r), (1, .long v)]) (fun _ => n) (fun _ => 0) (fun _ => 0) (fun j y' => j ≤ N ∧ gi_up h r (gi_J kd N (filF f 0 j v)) = y') 0 ⟨Nat.zero_le _, by rw [filF_0]; exact gi_up_id ha⟩ ?_ (List.forall_mem_cons.mpr ⟨rfl, List.forall_mem_cons.mpr ⟨rfl, List.forall_mem_cons.mpr ⟨rfl, List.forall_mem_cons.mpr ⟨rfl, fun _ h => absurd h List.not_mem_nil⟩⟩⟩⟩) rfl rfl rfl
  rintro j y' ⟨jy0, rfl⟩ ih
  try dsimp only at *
  refine gi_iload_n (q := 7) (i := 3) C (dm_Ar_fill_1 5 rfl) rfl rfl rfl ?_
  refine gi_iload (q := 9) C (dm_Ar_fill_1 6 rfl) rfl rfl ?_
  refine gi_icmp_ge (q := 12) (tgt := 22) C (dm_Ar_fill_1 7 rfl) rfl (by decide) (fun c9 => ?_) (fun c9 => ?_)
  · have jy2 : j = N := by
      rcases Nat.lt_or_ge j N with q | q
      · exact absurd c9 (Int32.not_le.mpr (nI_lt q (by omega)))
      · omega
    subst jy2
    refine gi_vret C hr (dm_Ar_fill_1 14 rfl) ?_
    exact ⟨rfl, rfl, rfl⟩
  · have jy : j < N := by
      rcases Nat.lt_or_ge j N with q | q
      · exact q
      · exact absurd (nI_le q (by omega)) c9
    refine gi_aload_n (q := 13) (i := 0) C (dm_Ar_fill_1 8 rfl) rfl rfl rfl ?_
    refine gi_iload_n (q := 14) (i := 3) C (dm_Ar_fill_1 9 rfl) rfl rfl rfl ?_
    refine gi_lload_n (q := 15) (i := 1) C (dm_Ar_fill_1 10 rfl) rfl rfl rfl ?_
    refine gi_last (q := 16) C (dm_Ar_fill_1 11 rfl) rfl hk (gi_up_self _ _ _) (in_nI (k := N) (nI_le (a := 0) (Nat.zero_le _) (by omega)) (nI_lt (by omega) h31) (Nat.le_refl _) h31) ?_
    rw [gi_up_up, nI_clamp (by omega), filL_s f 0 j v (Nat.zero_le _)]
    refine gi_iinc (q := 19) (v := 1) C (dm_Ar_fill_1 12 rfl) rfl rfl (by decide) (Nat.le_of_ble_eq_true rfl) ?_
    refine gi_goto (tgt := 6) C (dm_Ar_fill_1 13 rfl) (by decide) ?_
    refine gi_close (ih (j + 1) _ ⟨jy, rfl⟩ (by omega)) (List.forall_mem_cons.mpr ⟨(by simp [gi_look, nI_1]), List.forall_mem_cons.mpr ⟨rfl, List.forall_mem_cons.mpr ⟨rfl, List.forall_mem_cons.mpr ⟨rfl, fun _ h => absurd h List.not_mem_nil⟩⟩⟩⟩) rfl rfl rfl
end HE1
