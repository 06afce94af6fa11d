-- needs: 89.47 49
section RN1
variable {l : Launch} {V : gi_V} {n : Nat} {h h' : gi_H} {M : Nat} {S S' : Nat → Int32} {J J' : Nat → Int64} {F : Nat → Nat → Int32} {G : Nat → Nat → Int64}
/-- only the numbers in work are others -/
def nuR (S : Nat → Int32) (J : Nat → Int64) (S' : Nat → Int32) (J' : Nat → Int64) : Prop := (∀ j, j < 22 ∨ 24 < j → J' j = J j) ∧ S' = S
def rsI (J : Nat → Int64) (x : Sp) : Prop := J 22 = eL x.1 ∧ J 23 = eL x.2.1 ∧ J 24 = eL x.2.2
def moN (M : Nat) (F : Nat → Nat → Int32) (G : Nat → Nat → Int64) (h : gi_H) (S : Nat → Int32) (J : Nat → Int64) (x : Sp) (h' : gi_H) : Prop := ∃ S' J', mo_at M S' J' F G h' ∧ outM M h h' ∧ nuR S J S' J' ∧ rsI J' x
theorem nuR.rf : nuR S J S J := ⟨fun _ _ => rfl, rfl⟩
theorem nuR.tr {S2 : Nat → Int32} {J2 : Nat → Int64} (a : nuR S J S' J') (b : nuR S' J' S2 J2) : nuR S J S2 J2 := ⟨fun j hj => (b.1 j hj).trans (a.1 j hj), b.2.trans a.2⟩
theorem outM.tr {h2 : gi_H} (a : outM M h h') (b : outM M h' h2) : outM M h h2 := fun c hc => (b c hc).trans (a c hc)
theorem moN.tr {S2 : Nat → Int32} {J2 : Nat → Int64} {h2 : gi_H} {x : Sp} (ho : outM M h h') (hr : nuR S J S' J') (b : moN M F G h' S' J' x h2) : moN M F G h S J x h2 := by
  obtain ⟨S3, J3, m, o, r, i⟩ := b
  exact ⟨S3, J3, m, ho.tr o, hr.tr r, i⟩
/-- and those of the parts -/
def nuP (S : Nat → Int32) (J : Nat → Int64) (S' : Nat → Int32) (J' : Nat → Int64) : Prop := (∀ j, j < 22 ∨ 28 < j → J' j = J j) ∧ ∀ j, j ≠ 29 → j ≠ 30 → S' j = S j
theorem nuP.rf : nuP S J S J := ⟨fun _ _ => rfl, fun _ _ _ => rfl⟩
theorem nuP.tr {S2 : Nat → Int32} {J2 : Nat → Int64} (a : nuP S J S' J') (b : nuP S' J' S2 J2) : nuP S J S2 J2 := ⟨fun j hj => (b.1 j hj).trans (a.1 j hj), fun j h1 h2 => (b.2 j h1 h2).trans (a.2 j h1 h2)⟩
theorem nuR.p (a : nuR S J S' J') : nuP S J S' J' := ⟨fun j hj => a.1 j (by omega), fun j _ _ => by rw [a.2]⟩
def moP (M : Nat) (F : Nat → Nat → Int32) (G : Nat → Nat → Int64) (h : gi_H) (S : Nat → Int32) (J : Nat → Int64) (x : Sp) (h' : gi_H) : Prop := ∃ S' J', mo_at M S' J' F G h' ∧ outM M h h' ∧ nuP S J S' J' ∧ rsI J' x
theorem moN.p {x : Sp} (a : moN M F G h S J x h') : moP M F G h S J x h' := by
  obtain ⟨S3, J3, m, o, r, i⟩ := a
  exact ⟨S3, J3, m, o, r.p, i⟩
theorem moP.tr {h2 : gi_H} {x : Sp} (ho : outM M h h') (hr : nuP S J S' J') (b : moP M F G h' S' J' x h2) : moP M F G h S J x h2 := by
  obtain ⟨S3, J3, m, o, r, i⟩ := b
  exact ⟨S3, J3, m, ho.tr o, hr.tr r, i⟩
set_option maxHeartbeats 4000000 in
set_option maxRecDepth 100000 in
theorem c_Mo_min (a b : Int) (a1 : -9223372036854775808 < a) (a2 : a < 9223372036854775808) (b1 : -9223372036854775808 < b) (b2 : b < 9223372036854775808) : gi_T l V y_Mo_min b_Mo_min 4 (some .long) 0 0 0 0 [.long (eL a), .long (eL b)] n h (gi_is (some (.long (eL (min a b)))) n h) := by
  refine gi_enter (by decide) (Nat.le_of_ble_eq_true rfl) ?_
  intro _ _ _ _ _ _ _ _ C hr hnm
  refine gi_lload_n (q := 1) (i := 0) C (dm_Mo_min 0 rfl) rfl rfl rfl ?_
  refine gi_lload_n (q := 2) (i := 2) C (dm_Mo_min 1 rfl) rfl rfl rfl ?_
  refine gi_lcmp (q := 3) C (dm_Mo_min 2 rfl) rfl ?_
  refine gi_if_ge (q := 6) (tgt := 10) C (dm_Mo_min 3 rfl) rfl (by decide) (fun c3 => ?_) (fun c3 => ?_)
  · refine gi_lload_n (q := 11) (i := 2) C (dm_Mo_min 6 rfl) rfl rfl rfl ?_
    refine gi_lret C hr (dm_Mo_min 7 rfl) ?_
    refine ⟨?_, rfl, rfl⟩
    (try simp (disch := omega) only [lg_cmp_ge, lg_cmp_le, lg_cmp_gt, lg_cmp_lt, lg_cmp_eq, eL_0, eL_1, eL_m1, eL_LO, eL_HI, eL_W, eL_add, eL_sub, eL_mul, eL_neg, eL_lt, eL_le, eL_eq, eL_remN, eL_mod0, ne_eq, Int64.not_lt, Int64.not_le] at c3)
    congr 3
    omega
  · refine gi_lload_n (q := 7) (i := 0) C (dm_Mo_min 4 rfl) rfl rfl rfl ?_
    refine gi_goto (tgt := 11) C (dm_Mo_min 5 rfl) (by decide) ?_
    refine gi_lret C hr (dm_Mo_min 7 rfl) ?_
    refine ⟨?_, rfl, rfl⟩
    (try simp (disch := omega) only [lg_cmp_ge, lg_cmp_le, lg_cmp_gt, lg_cmp_lt, lg_cmp_eq, eL_0, eL_1, eL_m1, eL_LO, eL_HI, eL_W, eL_add, eL_sub, eL_mul, eL_neg, eL_lt, eL_le, eL_eq, eL_remN, eL_mod0, ne_eq, Int64.not_lt, Int64.not_le] at c3)
    congr 3
    omega
set_option maxHeartbeats 4000000 in
set_option maxRecDepth 100000 in
theorem c_Mo_max (a b : Int) (a1 : -9223372036854775808 < a) (a2 : a < 9223372036854775808) (b1 : -9223372036854775808 < b) (b2 : b < 9223372036854775808) : gi_T l V y_Mo_max b_Mo_max 4 (some .long) 0 0 0 0 [.long (eL a), .long (eL b)] n h (gi_is (some (.long (eL (max a b)))) n h) := by
  refine gi_enter (by decide) (Nat.le_of_ble_eq_true rfl) ?_
  intro _ _ _ _ _ _ _ _ C hr hnm
  refine gi_lload_n (q := 1) (i := 0) C (dm_Mo_max 0 rfl) rfl rfl rfl ?_
  refine gi_lload_n (q := 2) (i := 2) C (dm_Mo_max 1 rfl) rfl rfl rfl ?_
  refine gi_lcmp (q := 3) C (dm_Mo_max 2 rfl) rfl ?_
  refine gi_if_le (q := 6) (tgt := 10) C (dm_Mo_max 3 rfl) rfl (by decide) (fun c3 => ?_) (fun c3 => ?_)
  · refine gi_lload_n (q := 11) (i := 2) C (dm_Mo_max 6 rfl) rfl rfl rfl ?_
    refine gi_lret C hr (dm_Mo_max 7 rfl) ?_
    refine ⟨?_, rfl, rfl⟩
    (try simp (disch := omega) only [lg_cmp_ge, lg_cmp_le, lg_cmp_gt, lg_cmp_lt, lg_cmp_eq, eL_0, eL_1, eL_m1, eL_LO, eL_HI, eL_W, eL_add, eL_sub, eL_mul, eL_neg, eL_lt, eL_le, eL_eq, eL_remN, eL_mod0, ne_eq, Int64.not_lt, Int64.not_le] at c3)
    congr 3
    omega
  · refine gi_lload_n (q := 7) (i := 0) C (dm_Mo_max 4 rfl) rfl rfl rfl ?_
    refine gi_goto (tgt := 11) C (dm_Mo_max 5 rfl) (by decide) ?_
    refine gi_lret C hr (dm_Mo_max 7 rfl) ?_
    refine ⟨?_, rfl, rfl⟩
    (try simp (disch := omega) only [lg_cmp_ge, lg_cmp_le, lg_cmp_gt, lg_cmp_lt, lg_cmp_eq, eL_0, eL_1, eL_m1, eL_LO, eL_HI, eL_W, eL_add, eL_sub, eL_mul, eL_neg, eL_lt, eL_le, eL_eq, eL_remN, eL_mod0, ne_eq, Int64.not_lt, Int64.not_le] at c3)
    congr 3
    omega
set_option maxHeartbeats 4000000 in
set_option maxRecDepth 100000 in
theorem c_Mo_gcd (a b : Int) (a1 : -9223372036854775808 < a) (a2 : a < 9223372036854775808) (b1 : -9223372036854775808 < b) (b2 : b < 9223372036854775808) : gi_T l V y_Mo_gcd b_Mo_gcd 10 (some .long) 0 0 0 0 [.long (eL a), .long (eL b)] n h (gi_is (some (.long (eL (Int.gcd a b : Nat)))) n h) := by
  refine gi_enter (by decide) (Nat.le_of_ble_eq_true rfl) ?_
  intro _ _ _ _ _ _ _ _ C hr hnm
  refine gi_meet (σ := Unit) 26 (fun _ => [(4, .long (eL (a.natAbs : Int)))]) (fun _ => [.long (eL (b.natAbs : Int))]) (fun _ y => h = y) ?_ (fun hJ2 => ?_)
  · rintro - _ rfl
    refine gi_lstore (q := 28) C (dm_Mo_gcd 17 rfl) rfl (Nat.le_of_ble_eq_true rfl) ?_
    refine gi_while (σ := Nat × Nat) (fun q => q.2) (fun q => [(6, .long (eL (q.2 : Int))), (4, .long (eL (q.1 : Int)))]) (fun _ => n) (fun _ => 0) (fun _ => 0) (fun q y => h = y ∧ q.1 < 2 ^ 63 ∧ q.2 < 2 ^ 63 ∧ Nat.gcd q.1 q.2 = Nat.gcd a.natAbs b.natAbs) (a.natAbs, b.natAbs) ⟨rfl, by dsimp only; omega, by dsimp only; omega, rfl⟩ ?_ (List.forall_mem_cons.mpr ⟨rfl, List.forall_mem_cons.mpr ⟨rfl, fun _ h => absurd h List.not_mem_nil⟩⟩) rfl rfl rfl
    rintro ⟨x, y⟩ h' ⟨rfl, hx, hy, hg⟩ ih
    try dsimp only at *
    refine gi_lload (q := 30) C (dm_Mo_gcd 18 rfl) rfl rfl ?_
    refine gi_lconst (q := 31) (v := 0) C (dm_Mo_gcd 19 rfl) rfl (by decide) ?_
    refine gi_lcmp (q := 32) C (dm_Mo_gcd 20 rfl) rfl ?_
    refine gi_if_eq (q := 35) (tgt := 53) C (dm_Mo_gcd 21 rfl) rfl (by decide) (fun c32 => ?_) (fun c32 => ?_)
    · have hy0 : y = 0 := by
        have := (lg_cmp_eq _ _).mp c32
        rw [eL_0, eL_eq (by omega) (by omega) (by omega) (by omega)] at this
        omega
      subst hy0
      rw [Nat.gcd_zero_right] at hg
      subst hg
      refine gi_lload (q := 55) C (dm_Mo_gcd 31 rfl) rfl rfl ?_
      refine gi_lret C hr (dm_Mo_gcd 32 rfl) ?_
      exact ⟨rfl, rfl, rfl⟩
    · refine gi_lload (q := 37) C (dm_Mo_gcd 22 rfl) rfl rfl ?_
      refine gi_lload (q := 39) C (dm_Mo_gcd 23 rfl) rfl rfl ?_
      refine gi_lrem (q := 40) C (dm_Mo_gcd 24 rfl) rfl (fun q => c32 ((lg_cmp_eq _ _).mpr q)) ?_
      refine gi_lstore (q := 42) C (dm_Mo_gcd 25 rfl) rfl (Nat.le_of_ble_eq_true rfl) ?_
      refine gi_lload (q := 44) C (dm_Mo_gcd 26 rfl) rfl rfl ?_
      refine gi_lstore (q := 46) C (dm_Mo_gcd 27 rfl) rfl (Nat.le_of_ble_eq_true rfl) ?_
      refine gi_lload (q := 48) C (dm_Mo_gcd 28 rfl) rfl rfl ?_
      refine gi_lstore (q := 50) C (dm_Mo_gcd 29 rfl) rfl (Nat.le_of_ble_eq_true rfl) ?_
      have hy0 : y ≠ 0 := by
        rintro rfl
        exact c32 ((lg_cmp_eq _ _).mpr rfl)
      refine gi_goto (tgt := 28) C (dm_Mo_gcd 30 rfl) (by decide) ?_
      have hm := Nat.mod_lt x (Nat.pos_of_ne_zero hy0)
      refine gi_close (ih (y, x % y) _ ⟨rfl, hy, by dsimp only; omega, ?_⟩ (by dsimp only; omega)) (List.forall_mem_cons.mpr ⟨(by simp only [gi_look]; exact congrArg (fun z => some (Value.long z)) (eL_remN (by omega) (by omega) (by omega) (by omega))), List.forall_mem_cons.mpr ⟨rfl, fun _ h => absurd h List.not_mem_nil⟩⟩) rfl rfl rfl
      dsimp only
      rw [← hg, Nat.gcd_comm y, ← Nat.gcd_rec, Nat.gcd_comm]
  refine gi_meet (σ := Unit) 12 (fun _ => [(2, .long (eL b))]) (fun _ => [.long (eL (a.natAbs : Int))]) (fun _ y => h = y) ?_ (fun hJ1 => ?_)
  · rintro - _ rfl
    refine gi_lstore (q := 14) C (dm_Mo_gcd 8 rfl) rfl (Nat.le_of_ble_eq_true rfl) ?_
    refine gi_lload_n (q := 15) (i := 2) C (dm_Mo_gcd 9 rfl) rfl rfl rfl ?_
    refine gi_lconst (q := 16) (v := 0) C (dm_Mo_gcd 10 rfl) rfl (by decide) ?_
    refine gi_lcmp (q := 17) C (dm_Mo_gcd 11 rfl) rfl ?_
    refine gi_if_ge (q := 20) (tgt := 25) C (dm_Mo_gcd 12 rfl) rfl (by decide) (fun c17 => ?_) (fun c17 => ?_)
    · refine gi_lload_n (q := 26) (i := 2) C (dm_Mo_gcd 16 rfl) rfl rfl rfl ?_
      (try simp (disch := omega) only [lg_cmp_ge, lg_cmp_le, lg_cmp_gt, lg_cmp_lt, lg_cmp_eq, eL_0, eL_1, eL_m1, eL_LO, eL_HI, eL_W, eL_add, eL_sub, eL_mul, eL_neg, eL_lt, eL_le, eL_eq, eL_remN, eL_mod0, ne_eq, Int64.not_lt, Int64.not_le] at c17)
      rw [show (eL b : Int64) = eL (b.natAbs : Int) from by first | (rw [eL_neg]; congr 1; omega) | (congr 1; omega)]
      exact gi_close (hJ2 () _ rfl) (List.forall_mem_cons.mpr ⟨rfl, fun _ h => absurd h List.not_mem_nil⟩) rfl rfl rfl
    · refine gi_lload_n (q := 21) (i := 2) C (dm_Mo_gcd 13 rfl) rfl rfl rfl ?_
      refine gi_lneg (q := 22) C (dm_Mo_gcd 14 rfl) rfl ?_
      refine gi_goto (tgt := 26) C (dm_Mo_gcd 15 rfl) (by decide) ?_
      (try simp (disch := omega) only [lg_cmp_ge, lg_cmp_le, lg_cmp_gt, lg_cmp_lt, lg_cmp_eq, eL_0, eL_1, eL_m1, eL_LO, eL_HI, eL_W, eL_add, eL_sub, eL_mul, eL_neg, eL_lt, eL_le, eL_eq, eL_remN, eL_mod0, ne_eq, Int64.not_lt, Int64.not_le] at c17)
      rw [show (-eL b : Int64) = eL (b.natAbs : Int) from by first | (rw [eL_neg]; congr 1; omega) | (congr 1; omega)]
      exact gi_close (hJ2 () _ rfl) (List.forall_mem_cons.mpr ⟨rfl, fun _ h => absurd h List.not_mem_nil⟩) rfl rfl rfl
  refine gi_lload_n (q := 1) (i := 0) C (dm_Mo_gcd 0 rfl) rfl rfl rfl ?_
  refine gi_lconst (q := 2) (v := 0) C (dm_Mo_gcd 1 rfl) rfl (by decide) ?_
  refine gi_lcmp (q := 3) C (dm_Mo_gcd 2 rfl) rfl ?_
  refine gi_if_ge (q := 6) (tgt := 11) C (dm_Mo_gcd 3 rfl) rfl (by decide) (fun c3 => ?_) (fun c3 => ?_)
  · refine gi_lload_n (q := 12) (i := 0) C (dm_Mo_gcd 7 rfl) rfl rfl rfl ?_
    (try simp (disch := omega) only [lg_cmp_ge, lg_cmp_le, lg_cmp_gt, lg_cmp_lt, lg_cmp_eq, eL_0, eL_1, eL_m1, eL_LO, eL_HI, eL_W, eL_add, eL_sub, eL_mul, eL_neg, eL_lt, eL_le, eL_eq, eL_remN, eL_mod0, ne_eq, Int64.not_lt, Int64.not_le] at c3)
    rw [show (eL a : Int64) = eL (a.natAbs : Int) from by first | (rw [eL_neg]; congr 1; omega) | (congr 1; omega)]
    exact gi_close (hJ1 () _ rfl) (List.forall_mem_cons.mpr ⟨rfl, fun _ h => absurd h List.not_mem_nil⟩) rfl rfl rfl
  · refine gi_lload_n (q := 7) (i := 0) C (dm_Mo_gcd 4 rfl) rfl rfl rfl ?_
    refine gi_lneg (q := 8) C (dm_Mo_gcd 5 rfl) rfl ?_
    refine gi_goto (tgt := 12) C (dm_Mo_gcd 6 rfl) (by decide) ?_
    (try simp (disch := omega) only [lg_cmp_ge, lg_cmp_le, lg_cmp_gt, lg_cmp_lt, lg_cmp_eq, eL_0, eL_1, eL_m1, eL_LO, eL_HI, eL_W, eL_add, eL_sub, eL_mul, eL_neg, eL_lt, eL_le, eL_eq, eL_remN, eL_mod0, ne_eq, Int64.not_lt, Int64.not_le] at c3)
    rw [show (-eL a : Int64) = eL (a.natAbs : Int) from by first | (rw [eL_neg]; congr 1; omega) | (congr 1; omega)]
    exact gi_close (hJ1 () _ rfl) (List.forall_mem_cons.mpr ⟨rfl, fun _ h => absurd h List.not_mem_nil⟩) rfl rfl rfl
end RN1
