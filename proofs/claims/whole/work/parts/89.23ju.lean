-- needs: 89.22
section JU
variable {l : Launch} {V : gi_V} {n : Nat} {h : gi_H} {X k : Nat} {cr ct : Int32} {P : Pm} {F : Fa} {Φ : Nat → mR} {sh : Nat → Option Sh} {sn : Nat → Nat} {wd : Nat → Bool} {ju pr fa : Nat}
/-! what a certificate says of a place -/
def dvJ (x : Sp) : Int32 := if hasS x 0 = false then 1 else if x.1 = x.2.1 then 3 else 2
def ngJ (x : Sp) : Int32 := if 0 ≤ x.1 then 1 else if x.2.1 < 0 then 3 else 2
def nuJ (b : Int32) (o : Bool) : Int32 := if o = false then 1 else if b = 0 then 3 else 2
def lnJ (F : Fa) (b : Int32) : Nat → Int × Int
  | 0 => (4294967296, -1)
  | s + 1 => if bitA b s = true ∧ (F (480 + s)).told = true then (min (lnJ F b s).1 (spA ((F (480 + s)).f 0).1).1, max (lnJ F b s).2 (spA ((F (480 + s)).f 0).1).2.1) else lnJ F b s
def ixJ (F : Fa) (b : Int32) (x : Sp) : Int32 := if (lnJ F b 25).2 = -1 then 1 else if 0 ≤ x.1 ∧ x.2.1 < (lnJ F b 25).1 then 1 else if x.2.1 < 0 ∨ (lnJ F b 25).2 ≤ x.1 then 3 else 2
def jdR (F : Fa) (op wr n : Nat) (f : Nat → Sl) : Int32 := if wr = 1 ∧ (op = 10 ∨ op = 11) then dvJ (spA (f (n - 1)).1) else if wr = 4 ∧ op = 28 then ngJ (spA (f (n - 1)).1) else if wr = 2 ∧ 29 ≤ op ∧ op ≤ 31 then nuJ (stA (f (n - 1 - (op - 29))).1) (nuA (f (n - 1 - (op - 29))).1) else if wr = 3 ∧ (op = 30 ∨ op = 31) then ixJ F (stA (f (n - 1 - (op - 30) - 1)).1) (spA (f (n - 1 - (op - 30))).1) else 1
def jdV (P : Pm) (F : Fa) (p wr : Nat) : Int32 := if (F p).told = true then jdR F (pN P 6 p) wr (F p).n (F p).f else 0
def ask (op wr : Nat) : Bool := (decide (wr = 1) && (decide (op = 10) || decide (op = 11))) || ((decide (wr = 2) && (decide (29 ≤ op) && decide (op ≤ 31))) || ((decide (wr = 3) && (decide (op = 30) || decide (op = 31))) || (decide (wr = 4) && decide (op = 28))))
def jcI (P : Pm) (F : Fa) (p : Nat) (vd : Int32) (wr : Nat) : Nat := if ask (pN P 6 p) wr = true ∧ jdV P F p wr = vd then 1 else 0
def jcP (P : Pm) (F : Fa) (p : Nat) (vd : Int32) : Nat := sm (fun w => jcI P F p vd (w + 1)) 4
/-- the places of the first methods -/
def jcM (P : Pm) (F : Fa) (vd : Int32) : Nat → Nat
  | 0 => 0
  | m + 1 => jcM P F vd m + sm (fun i => jcP P F (60 * m + i) vd) (pN P 5 m)
theorem jcI_1 {p wr : Nat} {vd : Int32} : jcI P F p vd wr ≤ 1 := by
  unfold jcI
  split <;> omega
theorem jcS_b {p : Nat} {vd : Int32} (j : Nat) : sm (fun w => jcI P F p vd (w + 1)) j ≤ j := by
  have := sm_b (f := fun w => jcI P F p vd (w + 1)) (k := 1) (n := j) (fun i _ => jcI_1)
  omega
theorem jcP_4 {p : Nat} {vd : Int32} : jcP P F p vd ≤ 4 := jcS_b 4
theorem jcM_b {vd : Int32} (W : wfP k P) : ∀ m, m ≤ k → jcM P F vd m ≤ 240 * m
  | 0, _ => Nat.le_refl _
  | m + 1, hm => by
    have h1 := jcM_b (vd := vd) W m (by omega)
    have h2 : sm (fun i => jcP P F (60 * m + i) vd) (pN P 5 m) ≤ 4 * pN P 5 m := sm_b fun i _ => jcP_4
    have w1 := wf_ar W (show m < k by omega)
    show jcM P F vd m + sm (fun i => jcP P F (60 * m + i) vd) (pN P 5 m) ≤ _
    omega
theorem lnJ_b (hr : rdO (tyF P sh) F) {b : Int32} : ∀ i, i ≤ 25 → (-2147483648 ≤ (lnJ F b i).1 ∧ (lnJ F b i).1 ≤ 4294967296) ∧ (-1 ≤ (lnJ F b i).2 ∧ (lnJ F b i).2 ≤ 2147483647)
  | 0, _ => by unfold lnJ; omega
  | i + 1, hi => by
    have g := lnJ_b hr (b := b) i (by omega)
    unfold lnJ
    split
    · rename_i q
      have o := (hr.1 (480 + i) (by omega)).1 q.2
      have o1 := o.2 0 (by unfold tyF; rw [if_neg (by omega), if_pos (by omega)]; exact Nat.one_pos)
      have s : okS (spA ((F (480 + i)).f 0).1) := by
        have o2 := o1.2.1
        rw [show (tyF P sh (480 + i)).2.2 0 = false from by unfold tyF; rw [if_neg (by omega), if_pos (by omega)]] at o2
        revert o1 o2
        cases ((F (480 + i)).f 0).1 with
        | inl x => exact fun o1 _ => o1.1
        | inr y => exact fun _ o2 => by cases o2
      obtain ⟨s1, s2, s3, -⟩ := s
      dsimp only
      omega
    · exact g
theorem row_sp (hr : rdO (tyF P sh) F) {t : Nat} (h0 : 480 ≤ t) (h1 : t < 534) (tl : (F t).told = true) : ∃ x, ((F t).f 0).1 = .inl x ∧ okS x := by
  have o := (hr.1 t (by omega)).1 tl
  have o1 := o.2 0 (by unfold tyF; rw [if_neg (by omega), if_pos (by omega)]; exact Nat.one_pos)
  have o2 := o1.2.1
  rw [show (tyF P sh t).2.2 0 = false from by unfold tyF; rw [if_neg (by omega), if_pos (by omega)]] at o2
  cases e : ((F t).f 0).1 with
  | inl x => rw [e] at o1; exact ⟨x, rfl, o1.1⟩
  | inr y => rw [e] at o2; cases o2
set_option maxHeartbeats 4000000 in
set_option maxRecDepth 100000 in
theorem c_Ju_judgeIndex (b : Int32) (on : Bool) (x : Sp) (va vi : Nat) (hr : rdO (tyF P sh) F) (hju : h ju = some (gi_O 8 [.ref pr, .ref fa])) (HC : fa_at fa Φ h) (R : FaR F Φ) (hva : h va = some (eV (tV b on))) (hvi : h vi = some (eV (sV x))) (ox : okS x) : gi_T l V y_Ju_judgeIndex b_Ju_judgeIndex 9 (some .int) 2 42 0 0 [.ref ju, .ref va, .ref vi] n h (gi_is (some (.int (ixJ F b x))) n h) := by
  refine gi_enter (by decide) (Nat.le_of_ble_eq_true rfl) ?_
  intro _ _ _ _ _ _ _ _ C hr9 hnm
  refine gi_ldc2 (q := 3) C (dm_Ju_judgeIndex 0 rfl) rfl kc_Ju_72 ?_
  refine gi_lstore_n (q := 4) (i := 3) C (dm_Ju_judgeIndex 1 rfl) rfl rfl (Nat.le_of_ble_eq_true rfl) ?_
  refine gi_ldc2 (q := 7) C (dm_Ju_judgeIndex 2 rfl) rfl kc_Ju_74 ?_
  refine gi_lstore (q := 9) C (dm_Ju_judgeIndex 3 rfl) rfl (Nat.le_of_ble_eq_true rfl) ?_
  refine gi_iconst (q := 10) (v := 0) C (dm_Ju_judgeIndex 4 rfl) rfl (by decide) ?_
  refine gi_istore (q := 12) C (dm_Ju_judgeIndex 5 rfl) rfl (Nat.le_of_ble_eq_true rfl) ?_
  refine gi_while (σ := Nat) (fun i => 25 - i) (fun i => [(7, .int (nI i)), (3, .long (eL (lnJ F b i).1)), (5, .long (eL (lnJ F b i).2)), (0, .ref ju), (1, .ref va), (2, .ref vi)]) (fun _ => n) (fun _ => 0) (fun _ => 0) (fun i y' => i ≤ 25 ∧ h = y') 0 ⟨Nat.zero_le _, rfl⟩ ?_ (List.forall_mem_cons.mpr ⟨rfl, List.forall_mem_cons.mpr ⟨rfl, List.forall_mem_cons.mpr ⟨rfl, List.forall_mem_cons.mpr ⟨rfl, List.forall_mem_cons.mpr ⟨rfl, List.forall_mem_cons.mpr ⟨rfl, fun _ h => absurd h List.not_mem_nil⟩⟩⟩⟩⟩⟩) rfl rfl rfl
  rintro i y' ⟨hi, rfl⟩ ih
  try dsimp only at *
  refine gi_iload (q := 14) C (dm_Ju_judgeIndex 6 rfl) rfl rfl ?_
  refine gi_bipush (q := 16) (v := 25) C (dm_Ju_judgeIndex 7 rfl) rfl (by decide) ?_
  refine gi_icmp_ge (q := 19) (tgt := 87) C (dm_Ju_judgeIndex 8 rfl) rfl (by decide) (fun c16 => ?_) (fun c16 => ?_)
  · have hik : i = 25 := by
      rcases Nat.lt_or_ge i 25 with q | q
      · exact absurd c16 (nI_ge (b := 25) q (by omega))
      · omega
    subst hik
    obtain ⟨⟨b1, b2⟩, b3, b4⟩ := lnJ_b hr (b := b) 25 (by omega)
    obtain ⟨s1, s2, s3, -⟩ := id ox
    refine gi_lload (q := 89) C (dm_Ju_judgeIndex 41 rfl) rfl rfl ?_
    refine gi_ldc2 (q := 92) C (dm_Ju_judgeIndex 42 rfl) rfl kc_Ju_74 ?_
    refine gi_lcmp (q := 93) C (dm_Ju_judgeIndex 43 rfl) rfl ?_
    refine gi_if_ne (q := 96) (tgt := 98) C (dm_Ju_judgeIndex 44 rfl) rfl (by decide) (fun c93 => ?_) (fun c93 => ?_)
    · refine gi_aload_n (q := 99) (i := 2) C (dm_Ju_judgeIndex 47 rfl) rfl rfl rfl ?_
      refine gi_get (q := 102) C (dm_Ju_judgeIndex 48 rfl) rfl fl_Ju_55 hvi rfl ?_
      refine gi_lconst (q := 103) (v := 0) C (dm_Ju_judgeIndex 49 rfl) rfl (by decide) ?_
      refine gi_lcmp (q := 104) C (dm_Ju_judgeIndex 50 rfl) rfl ?_
      refine gi_if_lt (q := 107) (tgt := 118) C (dm_Ju_judgeIndex 51 rfl) rfl (by decide) (fun c104 => ?_) (fun c104 => ?_)
      · refine gi_aload_n (q := 119) (i := 2) C (dm_Ju_judgeIndex 59 rfl) rfl rfl rfl ?_
        refine gi_get (q := 122) C (dm_Ju_judgeIndex 60 rfl) rfl fl_Ju_59 hvi rfl ?_
        refine gi_lconst (q := 123) (v := 0) C (dm_Ju_judgeIndex 61 rfl) rfl (by decide) ?_
        refine gi_lcmp (q := 124) C (dm_Ju_judgeIndex 62 rfl) rfl ?_
        refine gi_if_lt (q := 127) (tgt := 137) C (dm_Ju_judgeIndex 63 rfl) rfl (by decide) (fun c124 => ?_) (fun c124 => ?_)
        · refine gi_iconst (q := 138) (v := 3) C (dm_Ju_judgeIndex 69 rfl) rfl (by decide) ?_
          refine gi_goto (tgt := 142) C (dm_Ju_judgeIndex 70 rfl) (by decide) ?_
          refine gi_iret C hr9 (dm_Ju_judgeIndex 72 rfl) ?_
          (try simp (disch := omega) only [lg_cmp_ge, lg_cmp_le, lg_cmp_gt, lg_cmp_lt, lg_cmp_eq, eL_0, eL_1, eL_m1, eL_LO, eL_HI, eL_W, eL_add, eL_sub, eL_mul, eL_neg, eL_lt, eL_le, eL_eq, eL_remN, eL_mod0, ne_eq, Int64.not_lt, Int64.not_le] at c93)
          (try simp (disch := omega) only [lg_cmp_ge, lg_cmp_le, lg_cmp_gt, lg_cmp_lt, lg_cmp_eq, eL_0, eL_1, eL_m1, eL_LO, eL_HI, eL_W, eL_add, eL_sub, eL_mul, eL_neg, eL_lt, eL_le, eL_eq, eL_remN, eL_mod0, ne_eq, Int64.not_lt, Int64.not_le] at c104)
          (try simp (disch := omega) only [lg_cmp_ge, lg_cmp_le, lg_cmp_gt, lg_cmp_lt, lg_cmp_eq, eL_0, eL_1, eL_m1, eL_LO, eL_HI, eL_W, eL_add, eL_sub, eL_mul, eL_neg, eL_lt, eL_le, eL_eq, eL_remN, eL_mod0, ne_eq, Int64.not_lt, Int64.not_le] at c124)
          refine ⟨?_, rfl, rfl⟩
          unfold ixJ
          rw [if_neg (by omega), if_neg (by omega)]
          first
            | (rw [if_pos (by omega)]; done)
            | (rw [if_neg (by omega)]; done)
        · refine gi_aload_n (q := 128) (i := 2) C (dm_Ju_judgeIndex 64 rfl) rfl rfl rfl ?_
          refine gi_get (q := 131) C (dm_Ju_judgeIndex 65 rfl) rfl fl_Ju_55 hvi rfl ?_
          refine gi_lload (q := 133) C (dm_Ju_judgeIndex 66 rfl) rfl rfl ?_
          refine gi_lcmp (q := 134) C (dm_Ju_judgeIndex 67 rfl) rfl ?_
          refine gi_if_lt (q := 137) (tgt := 141) C (dm_Ju_judgeIndex 68 rfl) rfl (by decide) (fun c134 => ?_) (fun c134 => ?_)
          · refine gi_iconst (q := 142) (v := 2) C (dm_Ju_judgeIndex 71 rfl) rfl (by decide) ?_
            refine gi_iret C hr9 (dm_Ju_judgeIndex 72 rfl) ?_
            (try simp (disch := omega) only [lg_cmp_ge, lg_cmp_le, lg_cmp_gt, lg_cmp_lt, lg_cmp_eq, eL_0, eL_1, eL_m1, eL_LO, eL_HI, eL_W, eL_add, eL_sub, eL_mul, eL_neg, eL_lt, eL_le, eL_eq, eL_remN, eL_mod0, ne_eq, Int64.not_lt, Int64.not_le] at c93)
            (try simp (disch := omega) only [lg_cmp_ge, lg_cmp_le, lg_cmp_gt, lg_cmp_lt, lg_cmp_eq, eL_0, eL_1, eL_m1, eL_LO, eL_HI, eL_W, eL_add, eL_sub, eL_mul, eL_neg, eL_lt, eL_le, eL_eq, eL_remN, eL_mod0, ne_eq, Int64.not_lt, Int64.not_le] at c104)
            (try simp (disch := omega) only [lg_cmp_ge, lg_cmp_le, lg_cmp_gt, lg_cmp_lt, lg_cmp_eq, eL_0, eL_1, eL_m1, eL_LO, eL_HI, eL_W, eL_add, eL_sub, eL_mul, eL_neg, eL_lt, eL_le, eL_eq, eL_remN, eL_mod0, ne_eq, Int64.not_lt, Int64.not_le] at c124)
            (try simp (disch := omega) only [lg_cmp_ge, lg_cmp_le, lg_cmp_gt, lg_cmp_lt, lg_cmp_eq, eL_0, eL_1, eL_m1, eL_LO, eL_HI, eL_W, eL_add, eL_sub, eL_mul, eL_neg, eL_lt, eL_le, eL_eq, eL_remN, eL_mod0, ne_eq, Int64.not_lt, Int64.not_le] at c134)
            refine ⟨?_, rfl, rfl⟩
            unfold ixJ
            rw [if_neg (by omega), if_neg (by omega)]
            first
              | (rw [if_pos (by omega)]; done)
              | (rw [if_neg (by omega)]; done)
          · refine gi_iconst (q := 138) (v := 3) C (dm_Ju_judgeIndex 69 rfl) rfl (by decide) ?_
            refine gi_goto (tgt := 142) C (dm_Ju_judgeIndex 70 rfl) (by decide) ?_
            refine gi_iret C hr9 (dm_Ju_judgeIndex 72 rfl) ?_
            (try simp (disch := omega) only [lg_cmp_ge, lg_cmp_le, lg_cmp_gt, lg_cmp_lt, lg_cmp_eq, eL_0, eL_1, eL_m1, eL_LO, eL_HI, eL_W, eL_add, eL_sub, eL_mul, eL_neg, eL_lt, eL_le, eL_eq, eL_remN, eL_mod0, ne_eq, Int64.not_lt, Int64.not_le] at c93)
            (try simp (disch := omega) only [lg_cmp_ge, lg_cmp_le, lg_cmp_gt, lg_cmp_lt, lg_cmp_eq, eL_0, eL_1, eL_m1, eL_LO, eL_HI, eL_W, eL_add, eL_sub, eL_mul, eL_neg, eL_lt, eL_le, eL_eq, eL_remN, eL_mod0, ne_eq, Int64.not_lt, Int64.not_le] at c104)
            (try simp (disch := omega) only [lg_cmp_ge, lg_cmp_le, lg_cmp_gt, lg_cmp_lt, lg_cmp_eq, eL_0, eL_1, eL_m1, eL_LO, eL_HI, eL_W, eL_add, eL_sub, eL_mul, eL_neg, eL_lt, eL_le, eL_eq, eL_remN, eL_mod0, ne_eq, Int64.not_lt, Int64.not_le] at c124)
            (try simp (disch := omega) only [lg_cmp_ge, lg_cmp_le, lg_cmp_gt, lg_cmp_lt, lg_cmp_eq, eL_0, eL_1, eL_m1, eL_LO, eL_HI, eL_W, eL_add, eL_sub, eL_mul, eL_neg, eL_lt, eL_le, eL_eq, eL_remN, eL_mod0, ne_eq, Int64.not_lt, Int64.not_le] at c134)
            refine ⟨?_, rfl, rfl⟩
            unfold ixJ
            rw [if_neg (by omega), if_neg (by omega)]
            first
              | (rw [if_pos (by omega)]; done)
              | (rw [if_neg (by omega)]; done)
      · refine gi_aload_n (q := 108) (i := 2) C (dm_Ju_judgeIndex 52 rfl) rfl rfl rfl ?_
        refine gi_get (q := 111) C (dm_Ju_judgeIndex 53 rfl) rfl fl_Ju_59 hvi rfl ?_
        refine gi_lload_n (q := 112) (i := 3) C (dm_Ju_judgeIndex 54 rfl) rfl rfl rfl ?_
        refine gi_lcmp (q := 113) C (dm_Ju_judgeIndex 55 rfl) rfl ?_
        refine gi_if_ge (q := 116) (tgt := 118) C (dm_Ju_judgeIndex 56 rfl) rfl (by decide) (fun c113 => ?_) (fun c113 => ?_)
        · refine gi_aload_n (q := 119) (i := 2) C (dm_Ju_judgeIndex 59 rfl) rfl rfl rfl ?_
          refine gi_get (q := 122) C (dm_Ju_judgeIndex 60 rfl) rfl fl_Ju_59 hvi rfl ?_
          refine gi_lconst (q := 123) (v := 0) C (dm_Ju_judgeIndex 61 rfl) rfl (by decide) ?_
          refine gi_lcmp (q := 124) C (dm_Ju_judgeIndex 62 rfl) rfl ?_
          refine gi_if_lt (q := 127) (tgt := 137) C (dm_Ju_judgeIndex 63 rfl) rfl (by decide) (fun c124 => ?_) (fun c124 => ?_)
          · refine gi_iconst (q := 138) (v := 3) C (dm_Ju_judgeIndex 69 rfl) rfl (by decide) ?_
            refine gi_goto (tgt := 142) C (dm_Ju_judgeIndex 70 rfl) (by decide) ?_
            refine gi_iret C hr9 (dm_Ju_judgeIndex 72 rfl) ?_
            (try simp (disch := omega) only [lg_cmp_ge, lg_cmp_le, lg_cmp_gt, lg_cmp_lt, lg_cmp_eq, eL_0, eL_1, eL_m1, eL_LO, eL_HI, eL_W, eL_add, eL_sub, eL_mul, eL_neg, eL_lt, eL_le, eL_eq, eL_remN, eL_mod0, ne_eq, Int64.not_lt, Int64.not_le] at c93)
            (try simp (disch := omega) only [lg_cmp_ge, lg_cmp_le, lg_cmp_gt, lg_cmp_lt, lg_cmp_eq, eL_0, eL_1, eL_m1, eL_LO, eL_HI, eL_W, eL_add, eL_sub, eL_mul, eL_neg, eL_lt, eL_le, eL_eq, eL_remN, eL_mod0, ne_eq, Int64.not_lt, Int64.not_le] at c104)
            (try simp (disch := omega) only [lg_cmp_ge, lg_cmp_le, lg_cmp_gt, lg_cmp_lt, lg_cmp_eq, eL_0, eL_1, eL_m1, eL_LO, eL_HI, eL_W, eL_add, eL_sub, eL_mul, eL_neg, eL_lt, eL_le, eL_eq, eL_remN, eL_mod0, ne_eq, Int64.not_lt, Int64.not_le] at c113)
            (try simp (disch := omega) only [lg_cmp_ge, lg_cmp_le, lg_cmp_gt, lg_cmp_lt, lg_cmp_eq, eL_0, eL_1, eL_m1, eL_LO, eL_HI, eL_W, eL_add, eL_sub, eL_mul, eL_neg, eL_lt, eL_le, eL_eq, eL_remN, eL_mod0, ne_eq, Int64.not_lt, Int64.not_le] at c124)
            refine ⟨?_, rfl, rfl⟩
            unfold ixJ
            rw [if_neg (by omega), if_neg (by omega)]
            first
              | (rw [if_pos (by omega)]; done)
              | (rw [if_neg (by omega)]; done)
          · refine gi_aload_n (q := 128) (i := 2) C (dm_Ju_judgeIndex 64 rfl) rfl rfl rfl ?_
            refine gi_get (q := 131) C (dm_Ju_judgeIndex 65 rfl) rfl fl_Ju_55 hvi rfl ?_
            refine gi_lload (q := 133) C (dm_Ju_judgeIndex 66 rfl) rfl rfl ?_
            refine gi_lcmp (q := 134) C (dm_Ju_judgeIndex 67 rfl) rfl ?_
            refine gi_if_lt (q := 137) (tgt := 141) C (dm_Ju_judgeIndex 68 rfl) rfl (by decide) (fun c134 => ?_) (fun c134 => ?_)
            · refine gi_iconst (q := 142) (v := 2) C (dm_Ju_judgeIndex 71 rfl) rfl (by decide) ?_
              refine gi_iret C hr9 (dm_Ju_judgeIndex 72 rfl) ?_
              (try simp (disch := omega) only [lg_cmp_ge, lg_cmp_le, lg_cmp_gt, lg_cmp_lt, lg_cmp_eq, eL_0, eL_1, eL_m1, eL_LO, eL_HI, eL_W, eL_add, eL_sub, eL_mul, eL_neg, eL_lt, eL_le, eL_eq, eL_remN, eL_mod0, ne_eq, Int64.not_lt, Int64.not_le] at c93)
              (try simp (disch := omega) only [lg_cmp_ge, lg_cmp_le, lg_cmp_gt, lg_cmp_lt, lg_cmp_eq, eL_0, eL_1, eL_m1, eL_LO, eL_HI, eL_W, eL_add, eL_sub, eL_mul, eL_neg, eL_lt, eL_le, eL_eq, eL_remN, eL_mod0, ne_eq, Int64.not_lt, Int64.not_le] at c104)
              (try simp (disch := omega) only [lg_cmp_ge, lg_cmp_le, lg_cmp_gt, lg_cmp_lt, lg_cmp_eq, eL_0, eL_1, eL_m1, eL_LO, eL_HI, eL_W, eL_add, eL_sub, eL_mul, eL_neg, eL_lt, eL_le, eL_eq, eL_remN, eL_mod0, ne_eq, Int64.not_lt, Int64.not_le] at c113)
              (try simp (disch := omega) only [lg_cmp_ge, lg_cmp_le, lg_cmp_gt, lg_cmp_lt, lg_cmp_eq, eL_0, eL_1, eL_m1, eL_LO, eL_HI, eL_W, eL_add, eL_sub, eL_mul, eL_neg, eL_lt, eL_le, eL_eq, eL_remN, eL_mod0, ne_eq, Int64.not_lt, Int64.not_le] at c124)
              (try simp (disch := omega) only [lg_cmp_ge, lg_cmp_le, lg_cmp_gt, lg_cmp_lt, lg_cmp_eq, eL_0, eL_1, eL_m1, eL_LO, eL_HI, eL_W, eL_add, eL_sub, eL_mul, eL_neg, eL_lt, eL_le, eL_eq, eL_remN, eL_mod0, ne_eq, Int64.not_lt, Int64.not_le] at c134)
              refine ⟨?_, rfl, rfl⟩
              unfold ixJ
              rw [if_neg (by omega), if_neg (by omega)]
              first
                | (rw [if_pos (by omega)]; done)
                | (rw [if_neg (by omega)]; done)
            · refine gi_iconst (q := 138) (v := 3) C (dm_Ju_judgeIndex 69 rfl) rfl (by decide) ?_
              refine gi_goto (tgt := 142) C (dm_Ju_judgeIndex 70 rfl) (by decide) ?_
              refine gi_iret C hr9 (dm_Ju_judgeIndex 72 rfl) ?_
              (try simp (disch := omega) only [lg_cmp_ge, lg_cmp_le, lg_cmp_gt, lg_cmp_lt, lg_cmp_eq, eL_0, eL_1, eL_m1, eL_LO, eL_HI, eL_W, eL_add, eL_sub, eL_mul, eL_neg, eL_lt, eL_le, eL_eq, eL_remN, eL_mod0, ne_eq, Int64.not_lt, Int64.not_le] at c93)
              (try simp (disch := omega) only [lg_cmp_ge, lg_cmp_le, lg_cmp_gt, lg_cmp_lt, lg_cmp_eq, eL_0, eL_1, eL_m1, eL_LO, eL_HI, eL_W, eL_add, eL_sub, eL_mul, eL_neg, eL_lt, eL_le, eL_eq, eL_remN, eL_mod0, ne_eq, Int64.not_lt, Int64.not_le] at c104)
              (try simp (disch := omega) only [lg_cmp_ge, lg_cmp_le, lg_cmp_gt, lg_cmp_lt, lg_cmp_eq, eL_0, eL_1, eL_m1, eL_LO, eL_HI, eL_W, eL_add, eL_sub, eL_mul, eL_neg, eL_lt, eL_le, eL_eq, eL_remN, eL_mod0, ne_eq, Int64.not_lt, Int64.not_le] at c113)
              (try simp (disch := omega) only [lg_cmp_ge, lg_cmp_le, lg_cmp_gt, lg_cmp_lt, lg_cmp_eq, eL_0, eL_1, eL_m1, eL_LO, eL_HI, eL_W, eL_add, eL_sub, eL_mul, eL_neg, eL_lt, eL_le, eL_eq, eL_remN, eL_mod0, ne_eq, Int64.not_lt, Int64.not_le] at c124)
              (try simp (disch := omega) only [lg_cmp_ge, lg_cmp_le, lg_cmp_gt, lg_cmp_lt, lg_cmp_eq, eL_0, eL_1, eL_m1, eL_LO, eL_HI, eL_W, eL_add, eL_sub, eL_mul, eL_neg, eL_lt, eL_le, eL_eq, eL_remN, eL_mod0, ne_eq, Int64.not_lt, Int64.not_le] at c134)
              refine ⟨?_, rfl, rfl⟩
              unfold ixJ
              rw [if_neg (by omega), if_neg (by omega)]
              first
                | (rw [if_pos (by omega)]; done)
                | (rw [if_neg (by omega)]; done)
        · refine gi_iconst (q := 117) (v := 1) C (dm_Ju_judgeIndex 57 rfl) rfl (by decide) ?_
          refine gi_iret C hr9 (dm_Ju_judgeIndex 58 rfl) ?_
          (try simp (disch := omega) only [lg_cmp_ge, lg_cmp_le, lg_cmp_gt, lg_cmp_lt, lg_cmp_eq, eL_0, eL_1, eL_m1, eL_LO, eL_HI, eL_W, eL_add, eL_sub, eL_mul, eL_neg, eL_lt, eL_le, eL_eq, eL_remN, eL_mod0, ne_eq, Int64.not_lt, Int64.not_le] at c93)
          (try simp (disch := omega) only [lg_cmp_ge, lg_cmp_le, lg_cmp_gt, lg_cmp_lt, lg_cmp_eq, eL_0, eL_1, eL_m1, eL_LO, eL_HI, eL_W, eL_add, eL_sub, eL_mul, eL_neg, eL_lt, eL_le, eL_eq, eL_remN, eL_mod0, ne_eq, Int64.not_lt, Int64.not_le] at c104)
          (try simp (disch := omega) only [lg_cmp_ge, lg_cmp_le, lg_cmp_gt, lg_cmp_lt, lg_cmp_eq, eL_0, eL_1, eL_m1, eL_LO, eL_HI, eL_W, eL_add, eL_sub, eL_mul, eL_neg, eL_lt, eL_le, eL_eq, eL_remN, eL_mod0, ne_eq, Int64.not_lt, Int64.not_le] at c113)
          refine ⟨?_, rfl, rfl⟩
          unfold ixJ
          rw [if_neg (by omega), if_pos (by omega)]
    · refine gi_iconst (q := 97) (v := 1) C (dm_Ju_judgeIndex 45 rfl) rfl (by decide) ?_
      refine gi_iret C hr9 (dm_Ju_judgeIndex 46 rfl) ?_
      (try simp (disch := omega) only [lg_cmp_ge, lg_cmp_le, lg_cmp_gt, lg_cmp_lt, lg_cmp_eq, eL_0, eL_1, eL_m1, eL_LO, eL_HI, eL_W, eL_add, eL_sub, eL_mul, eL_neg, eL_lt, eL_le, eL_eq, eL_remN, eL_mod0, ne_eq, Int64.not_lt, Int64.not_le] at c93)
      refine ⟨?_, rfl, rfl⟩
      unfold ixJ
      rw [if_pos (by omega)]
  · have hlt : i < 25 := by
      rcases Nat.lt_or_ge i 25 with q | q
      · exact q
      · exact absurd (nI_le (a := 25) q (by omega)) c16
    have RO := HC.2.2.2.2.2.2 (480 + i) (by omega)
    have rc : fa_cap (480 + i) = 1 := cap_hi (by omega)
    rw [rc] at RO
    refine gi_aload_n (q := 20) (i := 0) C (dm_Ju_judgeIndex 9 rfl) rfl rfl rfl ?_
    refine gi_get (q := 23) C (dm_Ju_judgeIndex 10 rfl) rfl fl_Ju_15 hju rfl ?_
    refine gi_iload (q := 25) C (dm_Ju_judgeIndex 11 rfl) rfl rfl ?_
    refine gi_callv 1 (q := 28) C (dm_Ju_judgeIndex 12 rfl) rfl my_Fa_lengthOf lk_Ju_76 im_Fa_lengthOf rfl (c_Fa_lengthOf hlt HC) HC.1 rfl rfl ⟨(Nat.le_of_ble_eq_true rfl), (Nat.le_of_ble_eq_true rfl)⟩ (Nat.le_of_ble_eq_true rfl) ⟨(Nat.le_of_ble_eq_true rfl), (Nat.le_of_ble_eq_true rfl)⟩ (fun r25 n25 h25 e25 => ?_)
    obtain ⟨rfl, q25, u25⟩ := e25
    rw [q25, u25]
    refine gi_astore (q := 30) C (dm_Ju_judgeIndex 13 rfl) rfl (Nat.le_of_ble_eq_true rfl) ?_
    refine gi_aload_n (q := 31) (i := 1) C (dm_Ju_judgeIndex 14 rfl) rfl rfl rfl ?_
    refine gi_get (q := 34) C (dm_Ju_judgeIndex 15 rfl) rfl fl_Ju_65 hva rfl ?_
    refine gi_iload (q := 36) C (dm_Ju_judgeIndex 16 rfl) rfl rfl ?_
    refine gi_ishr (q := 37) C (dm_Ju_judgeIndex 17 rfl) rfl ?_
    refine gi_iconst (q := 38) (v := 1) C (dm_Ju_judgeIndex 18 rfl) rfl (by decide) ?_
    refine gi_iand (q := 39) C (dm_Ju_judgeIndex 19 rfl) rfl ?_
    refine gi_iconst (q := 40) (v := 1) C (dm_Ju_judgeIndex 20 rfl) rfl (by decide) ?_
    refine gi_icmp_ne (q := 43) (tgt := 81) C (dm_Ju_judgeIndex 21 rfl) rfl (by decide) (fun c40 => ?_) (fun c40 => ?_)
    · have ge : lnJ F b (i + 1) = lnJ F b i := by
        show (if bitA b i = true ∧ (F (480 + i)).told = true then _ else _) = _
        rw [if_neg (by
          rintro ⟨z1, z2⟩
          first
            | exact c40 ((sh_bit b (by omega)).mpr z1)
            | (have z3 := (R (480 + i) (by omega)).1
               rw [z2] at z3
               rw [z3] at c48
               exact absurd c48 (by decide)))]
      refine gi_iinc (q := 84) (v := 1) C (dm_Ju_judgeIndex 39 rfl) rfl rfl (by decide) (Nat.le_of_ble_eq_true rfl) ?_
      refine gi_goto (tgt := 12) C (dm_Ju_judgeIndex 40 rfl) (by decide) ?_
      refine gi_close (ih (i + 1) _ ⟨hlt, rfl⟩ (by omega)) (List.forall_mem_cons.mpr ⟨(by simp [gi_look, nI_1]), List.forall_mem_cons.mpr ⟨(by rw [ge]; rfl), List.forall_mem_cons.mpr ⟨(by rw [ge]; rfl), List.forall_mem_cons.mpr ⟨rfl, List.forall_mem_cons.mpr ⟨rfl, List.forall_mem_cons.mpr ⟨rfl, fun _ h => absurd h List.not_mem_nil⟩⟩⟩⟩⟩⟩) rfl rfl rfl
    · refine gi_aload (q := 45) C (dm_Ju_judgeIndex 22 rfl) rfl rfl ?_
      refine gi_get (q := 48) C (dm_Ju_judgeIndex 23 rfl) rfl fl_Ju_25 RO.1 rfl ?_
      refine gi_if_eq (q := 51) (tgt := 81) C (dm_Ju_judgeIndex 24 rfl) rfl (by decide) (fun c48 => ?_) (fun c48 => ?_)
      · have ge : lnJ F b (i + 1) = lnJ F b i := by
          show (if bitA b i = true ∧ (F (480 + i)).told = true then _ else _) = _
          rw [if_neg (by
            rintro ⟨z1, z2⟩
            first
              | exact c40 ((sh_bit b (by omega)).mpr z1)
              | (have z3 := (R (480 + i) (by omega)).1
                 rw [z2] at z3
                 rw [z3] at c48
                 exact absurd c48 (by decide)))]
        refine gi_iinc (q := 84) (v := 1) C (dm_Ju_judgeIndex 39 rfl) rfl rfl (by decide) (Nat.le_of_ble_eq_true rfl) ?_
        refine gi_goto (tgt := 12) C (dm_Ju_judgeIndex 40 rfl) (by decide) ?_
        refine gi_close (ih (i + 1) _ ⟨hlt, rfl⟩ (by omega)) (List.forall_mem_cons.mpr ⟨(by simp [gi_look, nI_1]), List.forall_mem_cons.mpr ⟨(by rw [ge]; rfl), List.forall_mem_cons.mpr ⟨(by rw [ge]; rfl), List.forall_mem_cons.mpr ⟨rfl, List.forall_mem_cons.mpr ⟨rfl, List.forall_mem_cons.mpr ⟨rfl, fun _ h => absurd h List.not_mem_nil⟩⟩⟩⟩⟩⟩) rfl rfl rfl
      · have bt := (sh_bit b (show i < 32 by omega)).mp c40
        have tl : (F (480 + i)).told = true := bI_t (b := (F (480 + i)).told) (by rw [← (R (480 + i) (by omega)).1]; exact c48)
        obtain ⟨x0, e1, ox0⟩ := row_sp hr (show 480 ≤ 480 + i by omega) (by omega) tl
        have RG := ((R (480 + i) (by omega)).2.2 tl).1
        have e0 := (RG.2 0 (by rw [one_row hr (by omega) (by omega) tl]; omega)).1
        rw [e1] at e0
        have rv : h ((Φ (480 + i)).1 0) = some (eV (sV x0)) := by
          have r3 := (RO.2.2.2.1 0 (by omega)).2.2
          rw [e0] at r3
          exact r3
        obtain ⟨⟨b1, b2⟩, b3, b4⟩ := lnJ_b hr (b := b) i (by omega)
        obtain ⟨s1, s2, s3, -⟩ := id ox0
        refine gi_lload_n (q := 52) (i := 3) C (dm_Ju_judgeIndex 25 rfl) rfl rfl rfl ?_
        refine gi_aload (q := 54) C (dm_Ju_judgeIndex 26 rfl) rfl rfl ?_
        refine gi_iconst (q := 55) (v := 0) C (dm_Ju_judgeIndex 27 rfl) rfl (by decide) ?_
        rw [show (0 : Int32) = nI 0 from rfl]
        refine gi_callv 1 (q := 58) C (dm_Ju_judgeIndex 28 rfl) rfl my_Ro_valueAt lk_Ju_41 im_Ro_valueAt rfl (c_Ro_valueAt (j := 0) (by omega) (by omega) RO) RO.1 rfl rfl ⟨(Nat.le_of_ble_eq_true rfl), (Nat.le_of_ble_eq_true rfl)⟩ (Nat.le_of_ble_eq_true rfl) ⟨(Nat.le_of_ble_eq_true rfl), (Nat.le_of_ble_eq_true rfl)⟩ (fun r55 n55 h55 e55 => ?_)
        obtain ⟨rfl, q55, u55⟩ := e55
        rw [q55, u55]
        refine gi_get (q := 61) C (dm_Ju_judgeIndex 29 rfl) rfl fl_Ju_55 rv rfl ?_
        skip
        refine gi_calls 2 (q := 64) C (dm_Ju_judgeIndex 30 rfl) rfl my_Mt_min_1 lk_Ju_80 sm_Mt_min_1 (c_Mt_min_1 (lnJ F b i).1 x0.1 (by omega) (by omega) (by omega) (by omega)) rfl rfl ⟨(Nat.le_of_ble_eq_true rfl), (Nat.le_of_ble_eq_true rfl)⟩ (Nat.le_of_ble_eq_true rfl) ⟨(Nat.le_of_ble_eq_true rfl), (Nat.le_of_ble_eq_true rfl)⟩ (fun r61 n61 h61 e61 => ?_)
        obtain ⟨rfl, q61, u61⟩ := e61
        rw [q61, u61]
        refine gi_lstore_n (q := 65) (i := 3) C (dm_Ju_judgeIndex 31 rfl) rfl rfl (Nat.le_of_ble_eq_true rfl) ?_
        refine gi_lload (q := 67) C (dm_Ju_judgeIndex 32 rfl) rfl rfl ?_
        refine gi_aload (q := 69) C (dm_Ju_judgeIndex 33 rfl) rfl rfl ?_
        refine gi_iconst (q := 70) (v := 0) C (dm_Ju_judgeIndex 34 rfl) rfl (by decide) ?_
        rw [show (0 : Int32) = nI 0 from rfl]
        refine gi_callv 1 (q := 73) C (dm_Ju_judgeIndex 35 rfl) rfl my_Ro_valueAt lk_Ju_41 im_Ro_valueAt rfl (c_Ro_valueAt (j := 0) (by omega) (by omega) RO) RO.1 rfl rfl ⟨(Nat.le_of_ble_eq_true rfl), (Nat.le_of_ble_eq_true rfl)⟩ (Nat.le_of_ble_eq_true rfl) ⟨(Nat.le_of_ble_eq_true rfl), (Nat.le_of_ble_eq_true rfl)⟩ (fun r70 n70 h70 e70 => ?_)
        obtain ⟨rfl, q70, u70⟩ := e70
        rw [q70, u70]
        refine gi_get (q := 76) C (dm_Ju_judgeIndex 36 rfl) rfl fl_Ju_59 rv rfl ?_
        refine gi_calls 2 (q := 79) C (dm_Ju_judgeIndex 37 rfl) rfl my_Mt_max_0 lk_Ju_86 sm_Mt_max_0 (c_Mt_max_0 (lnJ F b i).2 x0.2.1 (by omega) (by omega) (by omega) (by omega)) rfl rfl ⟨(Nat.le_of_ble_eq_true rfl), (Nat.le_of_ble_eq_true rfl)⟩ (Nat.le_of_ble_eq_true rfl) ⟨(Nat.le_of_ble_eq_true rfl), (Nat.le_of_ble_eq_true rfl)⟩ (fun r76 n76 h76 e76 => ?_)
        obtain ⟨rfl, q76, u76⟩ := e76
        rw [q76, u76]
        refine gi_lstore (q := 81) C (dm_Ju_judgeIndex 38 rfl) rfl (Nat.le_of_ble_eq_true rfl) ?_
        refine gi_iinc (q := 84) (v := 1) C (dm_Ju_judgeIndex 39 rfl) rfl rfl (by decide) (Nat.le_of_ble_eq_true rfl) ?_
        refine gi_goto (tgt := 12) C (dm_Ju_judgeIndex 40 rfl) (by decide) ?_
        have ge : lnJ F b (i + 1) = (min (lnJ F b i).1 x0.1, max (lnJ F b i).2 x0.2.1) := by
          show (if bitA b i = true ∧ (F (480 + i)).told = true then _ else _) = _
          rw [if_pos ⟨bt, tl⟩, e1]
          rfl
        refine gi_close (ih (i + 1) _ ⟨hlt, rfl⟩ (by omega)) (List.forall_mem_cons.mpr ⟨(by simp [gi_look, nI_1]), List.forall_mem_cons.mpr ⟨(by rw [ge]; rfl), List.forall_mem_cons.mpr ⟨(by rw [ge]; rfl), List.forall_mem_cons.mpr ⟨rfl, List.forall_mem_cons.mpr ⟨rfl, List.forall_mem_cons.mpr ⟨rfl, fun _ h => absurd h List.not_mem_nil⟩⟩⟩⟩⟩⟩) rfl rfl rfl
theorem nI_eqP {a b : Nat} (ha : a < 2 ^ 31) (hb : b < 2 ^ 31) : (nI a = nI b) = (a = b) := by
  apply propext
  constructor
  · intro h
    have := congrArg Int32.toNatClampNeg h
    rwa [nI_clamp ha, nI_clamp hb] at this
  · intro h
    rw [h]
theorem nI_ltP {a b : Nat} (ha : a < 2 ^ 31) (hb : b < 2 ^ 31) : (nI a < nI b) = (a < b) := propext (nI_ltI ha hb)
theorem nI_leP {a b : Nat} (ha : a < 2 ^ 31) (hb : b < 2 ^ 31) : (nI a ≤ nI b) = (a ≤ b) := propext (nI_leI ha hb)
theorem nI_sb {a b : Nat} (h : b ≤ a) (ha : a < 2 ^ 31) : nI a - nI b = nI (a - b) := by
  apply Int32.toInt_inj.mp
  have e1 : (nI a).toInt = a := Int32.toInt_ofNat_of_lt ha
  have e2 : (nI b).toInt = b := Int32.toInt_ofNat_of_lt (by omega)
  have e3 : (nI (a - b)).toInt = (a - b : Nat) := Int32.toInt_ofNat_of_lt (by omega)
  rw [Int32.toInt_sub, e1, e2, e3, Int.bmod_eq_of_le (by omega) (by omega)]
  omega
theorem c_Ro_valueAt_top {r s : Nat} {R : mR} (hs : s ≤ k) (h0 : 1 ≤ k) (h31 : k < 2 ^ 31) (H : ro_at r k R h) : gi_T l V y_Ro_valueAt b_Ro_valueAt 2 (some (.object "AnalysisHouse$Value")) 1 21 0 0 [.ref r, .int (nI s - 1)] n h (gi_is (some (.ref (R.1 (s - 1)))) n h) := by
  rcases Nat.eq_zero_or_pos s with e | e
  · subst e
    exact c_Ro_valueAt_n h0 h31 H
  · rw [show (1 : Int32) = nI 1 from rfl, nI_sb e (by omega)]
    exact c_Ro_valueAt (by omega) h31 H
set_option maxHeartbeats 4000000 in
set_option maxRecDepth 100000 in
theorem c_Ju_judge (wr : Nat) (h1 : 1 ≤ wr) (h4 : wr ≤ 4) {m i : Nat} (B0 : Built k P sh sn wd) (hm : m < k) (hi : i < pN P 5 m) (hr : rdO (tyF P sh) F) (hju : ju_at ju pr fa h) (HP : pr_at pr (nI k) P h) (HC : fa_at fa Φ h) (R : FaR F Φ) : gi_T l V y_Ju_judge b_Ju_judge 8 (some .int) 3 70 0 0 [.ref ju, .int (nI m), .int (nI i), .int (nI wr)] n h (gi_is (some (.int (jdV P F (60 * m + i) wr))) n h) := by
  refine gi_enter (by decide) (Nat.le_of_ble_eq_true rfl) ?_
  intro _ _ _ _ _ _ _ _ C hr9 hnm
  have w8 := B0.wf.k8
  have wm := wf_ar B0.wf hm
  have RO := HC.2.2.2.2.2.2 (60 * m + i) (by omega)
  have RR := R (60 * m + i) (by omega)
  have rcp : fa_cap (60 * m + i) = 14 := cap_st (by omega)
  rw [rcp] at RO RR
  have hju0 := hju
  unfold ju_at at hju0
  refine gi_aload_n (q := 1) (i := 0) C (dm_Ju_judge 0 rfl) rfl rfl rfl ?_
  refine gi_get (q := 4) C (dm_Ju_judge 1 rfl) rfl fl_Ju_15 (by first | exact hju0 | exact RO.1 | exact hv | exact hva) rfl ?_
  refine gi_iload_n (q := 5) (i := 1) C (dm_Ju_judge 2 rfl) rfl rfl rfl ?_
  refine gi_iload_n (q := 6) (i := 2) C (dm_Ju_judge 3 rfl) rfl rfl rfl ?_
  refine gi_callv 2 (q := 9) C (dm_Ju_judge 4 rfl) rfl my_Fa_stateAt lk_Ju_19 im_Fa_stateAt rfl (c_Fa_stateAt (m := m) (i := i) (by omega) (by omega) HC) HC.1 rfl rfl ⟨(Nat.le_of_ble_eq_true rfl), (Nat.le_of_ble_eq_true rfl)⟩ (Nat.le_of_ble_eq_true rfl) ⟨(Nat.le_of_ble_eq_true rfl), (Nat.le_of_ble_eq_true rfl)⟩ (fun r6 n6 h6 e6 => ?_)
  obtain ⟨rfl, q6, u6⟩ := e6
  rw [q6, u6]
  refine gi_astore (q := 11) C (dm_Ju_judge 5 rfl) rfl (Nat.le_of_ble_eq_true rfl) ?_
  refine gi_aload (q := 13) C (dm_Ju_judge 6 rfl) rfl rfl ?_
  refine gi_get (q := 16) C (dm_Ju_judge 7 rfl) rfl fl_Ju_25 (by first | exact hju0 | exact RO.1 | exact hv | exact hva) rfl ?_
  refine gi_if_ne (q := 19) (tgt := 21) C (dm_Ju_judge 8 rfl) rfl (by decide) (fun c16 => ?_) (fun c16 => ?_)
  · have tl : (F (60 * m + i)).told = true := bI_t (b := (F (60 * m + i)).told) (by rw [← RR.1]; exact c16)
    obtain ⟨RG, RN⟩ := RR.2.2 tl
    obtain ⟨m', i', x0, y0, hm', hm8, hi', hi60', hpe, hsx, hx8, hx, GT, h60, ll, hop, -, ey, -⟩ := plc B0 (show 60 * m + i < 480 by omega) hr.1 tl
    have em : m' = m := by omega
    subst em
    obtain ⟨op, eop⟩ : ∃ op, op = pN P 6 (60 * m' + i) := ⟨_, rfl⟩
    obtain ⟨q, eq⟩ : ∃ q, q = (F (60 * m' + i)).n := ⟨_, rfl⟩
    obtain ⟨f, ef⟩ : ∃ f, f = (F (60 * m' + i)).f := ⟨_, rfl⟩
    rw [← eop] at hop ey
    rw [← eq, ← ef] at RG GT
    rw [← eq] at RN
    have j2 : op = 10 ∨ op = 11 → 1 ≤ q ∧ ∃ Y, (f (q - 1)).1 = .inl Y ∧ okS Y := fun z => by
      rw [sh_ar (by omega) (by omega)] at ey
      obtain ⟨_, e1, -⟩ := Option.map_eq_some_iff.mp ey
      obtain ⟨a1, X1, Y1, -, a2, -, a3, -⟩ := st_two ll GT e1
      exact ⟨by omega, Y1, a2, a3⟩
    have j4 : op = 28 → 1 ≤ q ∧ ∃ Y, (f (q - 1)).1 = .inl Y ∧ okS Y := fun z => by
      rw [z] at ey
      obtain ⟨_, e1, -⟩ := Option.map_eq_some_iff.mp (show (tkS false x0).map (ptS true) = some y0 from ey)
      obtain ⟨a1, X1, a2, a3, -⟩ := st_int ll GT e1
      exact ⟨by omega, X1, a2, a3⟩
    have j3 : 29 ≤ op → op ≤ 31 → op - 28 ≤ q ∧ (∃ b o, (f (q - 1 - (op - 29))).1 = .inr (b, o)) ∧ (30 ≤ op → ∃ Y, (f (q - 1 - (op - 30))).1 = .inl Y ∧ okS Y) := fun z1 z2 => by
      rcases (show op = 29 ∨ op = 30 ∨ op = 31 by omega) with z | z | z
      · rw [z] at ey
        obtain ⟨_, e1, -⟩ := Option.map_eq_some_iff.mp (show (tkS true x0).map (ptS false) = some y0 from ey)
        obtain ⟨a1, b, o, a2, -⟩ := st_set ll GT e1
        exact ⟨by omega, ⟨b, o, by rw [show q - 1 - (op - 29) = q - 1 by omega]; exact a2⟩, fun z3 => absurd z3 (by omega)⟩
      · rw [z] at ey
        obtain ⟨_, e1, -⟩ := Option.map_eq_some_iff.mp (show ((tkS false x0).bind (tkS true)).map (ptS false) = some y0 from ey)
        obtain ⟨a1, Y, b, o, a2, a3, a4, -⟩ := st_get ll GT e1
        exact ⟨by omega, ⟨b, o, by rw [show q - 1 - (op - 29) = q - 2 by omega]; exact a4⟩, fun z3 => ⟨Y, by rw [show q - 1 - (op - 30) = q - 1 by omega]; exact a2, a3⟩⟩
      · rw [z] at ey
        obtain ⟨a1, Y, b, o, a2, a3, a4, -⟩ := st_put ll GT (show ((tkS false x0).bind (tkS false)).bind (tkS true) = some y0 from ey)
        exact ⟨by omega, ⟨b, o, by rw [show q - 1 - (op - 29) = q - 3 by omega]; exact a4⟩, fun z3 => ⟨Y, by rw [show q - 1 - (op - 30) = q - 2 by omega]; exact a2, a3⟩⟩
    have jw1 : (nI wr = 1) = (wr = 1) := nI_eqP (b := 1) (by omega) (by decide)
    have jw2 : (nI wr = 2) = (wr = 2) := nI_eqP (b := 2) (by omega) (by decide)
    have jw3 : (nI wr = 3) = (wr = 3) := nI_eqP (b := 3) (by omega) (by decide)
    have jw4 : (nI wr = 4) = (wr = 4) := nI_eqP (b := 4) (by omega) (by decide)
    have jo10 : (nI op = 10) = (op = 10) := nI_eqP (b := 10) (by omega) (by decide)
    have jo11 : (nI op = 11) = (op = 11) := nI_eqP (b := 11) (by omega) (by decide)
    have jo28 : (nI op = 28) = (op = 28) := nI_eqP (b := 28) (by omega) (by decide)
    have jo30 : (nI op = 30) = (op = 30) := nI_eqP (b := 30) (by omega) (by decide)
    have jo31 : (nI op = 31) = (op = 31) := nI_eqP (b := 31) (by omega) (by decide)
    have jl29 : (nI op < 29) = (op < 29) := nI_ltP (b := 29) (by omega) (by decide)
    have jg31 : ((31 : Int32) < nI op) = (31 < op) := nI_ltP (a := 31) (by decide) (by omega)
    have ea : jdV P F (60 * m' + i) wr = jdR F op wr q f := by
      unfold jdV
      rw [if_pos tl, eop, eq, ef]
    refine gi_aload_n (q := 22) (i := 0) C (dm_Ju_judge 11 rfl) rfl rfl rfl ?_
    refine gi_get (q := 25) C (dm_Ju_judge 12 rfl) rfl fl_Ju_9 (by first | exact hju0 | exact RO.1 | exact hv | exact hva) rfl ?_
    refine gi_iload_n (q := 26) (i := 1) C (dm_Ju_judge 13 rfl) rfl rfl rfl ?_
    refine gi_iload_n (q := 27) (i := 2) C (dm_Ju_judge 14 rfl) rfl rfl rfl ?_
    refine gi_callv 2 (q := 30) C (dm_Ju_judge 15 rfl) rfl my_Pr_opAt lk_Ju_31 im_Pr_opAt rfl (q_op B0.wf hm hi HP) HP.1 rfl rfl ⟨(Nat.le_of_ble_eq_true rfl), (Nat.le_of_ble_eq_true rfl)⟩ (Nat.le_of_ble_eq_true rfl) ⟨(Nat.le_of_ble_eq_true rfl), (Nat.le_of_ble_eq_true rfl)⟩ (fun r27 n27 h27 e27 => ?_)
    obtain ⟨rfl, q27, u27⟩ := e27
    rw [q27, u27]
    rw [← eop]
    refine gi_istore (q := 32) C (dm_Ju_judge 16 rfl) rfl (Nat.le_of_ble_eq_true rfl) ?_
    refine gi_aload (q := 34) C (dm_Ju_judge 17 rfl) rfl rfl ?_
    refine gi_aload (q := 36) C (dm_Ju_judge 18 rfl) rfl rfl ?_
    refine gi_get (q := 39) C (dm_Ju_judge 19 rfl) rfl fl_Ju_37 (by first | exact hju0 | exact RO.1 | exact hv | exact hva) rfl ?_
    refine gi_iconst (q := 40) (v := 1) C (dm_Ju_judge 20 rfl) rfl (by decide) ?_
    refine gi_isub (q := 41) C (dm_Ju_judge 21 rfl) rfl ?_
    rw [RG.1]
    refine gi_callv 1 (q := 44) C (dm_Ju_judge 22 rfl) rfl my_Ro_valueAt lk_Ju_41 im_Ro_valueAt rfl (c_Ro_valueAt_top (s := q) (by omega) (by omega) (by omega) RO) RO.1 rfl rfl ⟨(Nat.le_of_ble_eq_true rfl), (Nat.le_of_ble_eq_true rfl)⟩ (Nat.le_of_ble_eq_true rfl) ⟨(Nat.le_of_ble_eq_true rfl), (Nat.le_of_ble_eq_true rfl)⟩ (fun r41 n41 h41 e41 => ?_)
    obtain ⟨rfl, q41, u41⟩ := e41
    rw [q41, u41]
    refine gi_astore (q := 46) C (dm_Ju_judge 23 rfl) rfl (Nat.le_of_ble_eq_true rfl) ?_
    refine gi_iload_n (q := 47) (i := 3) C (dm_Ju_judge 24 rfl) rfl rfl rfl ?_
    refine gi_iconst (q := 48) (v := 1) C (dm_Ju_judge 25 rfl) rfl (by decide) ?_
    refine gi_icmp_ne (q := 51) (tgt := 92) C (dm_Ju_judge 26 rfl) rfl (by decide) (fun c48 => ?_) (fun c48 => ?_)
    · refine gi_iload_n (q := 93) (i := 3) C (dm_Ju_judge 46 rfl) rfl rfl rfl ?_
      refine gi_iconst (q := 94) (v := 4) C (dm_Ju_judge 47 rfl) rfl (by decide) ?_
      refine gi_icmp_ne (q := 97) (tgt := 134) C (dm_Ju_judge 48 rfl) rfl (by decide) (fun c94 => ?_) (fun c94 => ?_)
      · refine gi_iload_n (q := 135) (i := 3) C (dm_Ju_judge 68 rfl) rfl rfl rfl ?_
        refine gi_iconst (q := 136) (v := 2) C (dm_Ju_judge 69 rfl) rfl (by decide) ?_
        refine gi_icmp_ne (q := 139) (tgt := 199) C (dm_Ju_judge 70 rfl) rfl (by decide) (fun c136 => ?_) (fun c136 => ?_)
        · refine gi_iload_n (q := 200) (i := 3) C (dm_Ju_judge 100 rfl) rfl rfl rfl ?_
          refine gi_iconst (q := 201) (v := 3) C (dm_Ju_judge 101 rfl) rfl (by decide) ?_
          refine gi_icmp_ne (q := 204) (tgt := 254) C (dm_Ju_judge 102 rfl) rfl (by decide) (fun c201 => ?_) (fun c201 => ?_)
          · refine gi_iconst (q := 255) (v := 1) C (dm_Ju_judge 129 rfl) rfl (by decide) ?_
            refine gi_iret C hr9 (dm_Ju_judge 130 rfl) ?_
            (try simp (disch := omega) only [jw1, jw2, jw3, jw4, jo10, jo11, jo28, jo30, jo31, jl29, jg31] at c16)
            (try simp (disch := omega) only [jw1, jw2, jw3, jw4, jo10, jo11, jo28, jo30, jo31, jl29, jg31] at c48)
            (try simp (disch := omega) only [jw1, jw2, jw3, jw4, jo10, jo11, jo28, jo30, jo31, jl29, jg31] at c94)
            (try simp (disch := omega) only [jw1, jw2, jw3, jw4, jo10, jo11, jo28, jo30, jo31, jl29, jg31] at c136)
            (try simp (disch := omega) only [jw1, jw2, jw3, jw4, jo10, jo11, jo28, jo30, jo31, jl29, jg31] at c201)
            refine ⟨?_, rfl, rfl⟩
            rw [ea]
            unfold jdR
            rw [if_neg (by omega), if_neg (by omega), if_neg (by omega), if_neg (by omega)]
          · refine gi_iload (q := 206) C (dm_Ju_judge 103 rfl) rfl rfl ?_
            refine gi_bipush (q := 208) (v := 30) C (dm_Ju_judge 104 rfl) rfl (by decide) ?_
            refine gi_icmp_eq (q := 211) (tgt := 218) C (dm_Ju_judge 105 rfl) rfl (by decide) (fun c208 => ?_) (fun c208 => ?_)
            · refine gi_aload (q := 220) C (dm_Ju_judge 109 rfl) rfl rfl ?_
              refine gi_get (q := 223) C (dm_Ju_judge 110 rfl) rfl fl_Ju_37 (by first | exact hju0 | exact RO.1 | exact hv | exact hva) rfl ?_
              refine gi_iconst (q := 224) (v := 1) C (dm_Ju_judge 111 rfl) rfl (by decide) ?_
              refine gi_isub (q := 225) C (dm_Ju_judge 112 rfl) rfl ?_
              refine gi_iload (q := 227) C (dm_Ju_judge 113 rfl) rfl rfl ?_
              refine gi_bipush (q := 229) (v := 30) C (dm_Ju_judge 114 rfl) rfl (by decide) ?_
              refine gi_isub (q := 230) C (dm_Ju_judge 115 rfl) rfl ?_
              refine gi_isub (q := 231) C (dm_Ju_judge 116 rfl) rfl ?_
              (try simp (disch := omega) only [jw1, jw2, jw3, jw4, jo10, jo11, jo28, jo30, jo31, jl29, jg31] at c16)
              (try simp (disch := omega) only [jw1, jw2, jw3, jw4, jo10, jo11, jo28, jo30, jo31, jl29, jg31] at c48)
              (try simp (disch := omega) only [jw1, jw2, jw3, jw4, jo10, jo11, jo28, jo30, jo31, jl29, jg31] at c94)
              (try simp (disch := omega) only [jw1, jw2, jw3, jw4, jo10, jo11, jo28, jo30, jo31, jl29, jg31] at c136)
              (try simp (disch := omega) only [jw1, jw2, jw3, jw4, jo10, jo11, jo28, jo30, jo31, jl29, jg31] at c201)
              (try simp (disch := omega) only [jw1, jw2, jw3, jw4, jo10, jo11, jo28, jo30, jo31, jl29, jg31] at c208)
              obtain ⟨q1, ⟨b, o, eB⟩, fY⟩ := j3 (by omega) (by omega)
              obtain ⟨Y, eY, oY⟩ := fY (by omega)
              rw [RG.1, show (1 : Int32) = nI 1 from rfl, show (30 : Int32) = nI 30 from rfl, nI_sb (by omega) (by omega), nI_sb (by omega) (by omega), nI_sb (by omega) (by omega)]
              have e9 := (RG.2 (q - 1 - (op - 29)) (by omega)).1
              rw [eB] at e9
              have hva : h ((Φ (60 * m' + i)).1 (q - 1 - (op - 29))) = some (eV (tV b o)) := by
                have := rv_at RO (show q - 1 - (op - 29) < 14 by omega)
                rw [e9] at this
                exact this
              have e8 := (RG.2 (q - 1 - (op - 30)) (by omega)).1
              rw [eY] at e8
              have hvi : h ((Φ (60 * m' + i)).1 (q - 1 - (op - 30))) = some (eV (sV Y)) := by
                have := rv_at RO (show q - 1 - (op - 30) < 14 by omega)
                rw [e8] at this
                exact this
              have e7 : q - 1 - (op - 30) - 1 = q - 1 - (op - 29) := by omega
              refine gi_istore (q := 233) C (dm_Ju_judge 117 rfl) rfl (Nat.le_of_ble_eq_true rfl) ?_
              refine gi_aload_n (q := 234) (i := 0) C (dm_Ju_judge 118 rfl) rfl rfl rfl ?_
              refine gi_aload (q := 236) C (dm_Ju_judge 119 rfl) rfl rfl ?_
              refine gi_iload (q := 238) C (dm_Ju_judge 120 rfl) rfl rfl ?_
              refine gi_iconst (q := 239) (v := 1) C (dm_Ju_judge 121 rfl) rfl (by decide) ?_
              refine gi_isub (q := 240) C (dm_Ju_judge 122 rfl) rfl ?_
              rw [show (1 : Int32) = nI 1 from rfl, nI_sb (by omega) (by omega), e7]
              refine gi_callv 1 (q := 243) C (dm_Ju_judge 123 rfl) rfl my_Ro_valueAt lk_Ju_41 im_Ro_valueAt rfl (c_Ro_valueAt (j := q - 1 - (op - 29)) (by omega) (by omega) RO) RO.1 rfl rfl ⟨(Nat.le_of_ble_eq_true rfl), (Nat.le_of_ble_eq_true rfl)⟩ (Nat.le_of_ble_eq_true rfl) ⟨(Nat.le_of_ble_eq_true rfl), (Nat.le_of_ble_eq_true rfl)⟩ (fun r240 n240 h240 e240 => ?_)
              obtain ⟨rfl, q240, u240⟩ := e240
              rw [q240, u240]
              refine gi_aload (q := 245) C (dm_Ju_judge 124 rfl) rfl rfl ?_
              refine gi_iload (q := 247) C (dm_Ju_judge 125 rfl) rfl rfl ?_
              refine gi_callv 1 (q := 250) C (dm_Ju_judge 126 rfl) rfl my_Ro_valueAt lk_Ju_41 im_Ro_valueAt rfl (c_Ro_valueAt (j := q - 1 - (op - 30)) (by omega) (by omega) RO) RO.1 rfl rfl ⟨(Nat.le_of_ble_eq_true rfl), (Nat.le_of_ble_eq_true rfl)⟩ (Nat.le_of_ble_eq_true rfl) ⟨(Nat.le_of_ble_eq_true rfl), (Nat.le_of_ble_eq_true rfl)⟩ (fun r247 n247 h247 e247 => ?_)
              obtain ⟨rfl, q247, u247⟩ := e247
              rw [q247, u247]
              refine gi_callv 2 (q := 253) C (dm_Ju_judge 127 rfl) rfl my_Ju_judgeIndex lk_Ju_68 im_Ju_judgeIndex rfl (c_Ju_judgeIndex b o Y _ _ hr hju0 HC R hva hvi oY) hju0 rfl rfl ⟨(Nat.le_of_ble_eq_true rfl), (Nat.le_of_ble_eq_true rfl)⟩ (Nat.le_of_ble_eq_true rfl) ⟨(Nat.le_of_ble_eq_true rfl), (Nat.le_of_ble_eq_true rfl)⟩ (fun r250 n250 h250 e250 => ?_)
              obtain ⟨rfl, q250, u250⟩ := e250
              rw [q250, u250]
              refine gi_iret C hr9 (dm_Ju_judge 128 rfl) ?_
              (try simp (disch := omega) only [jw1, jw2, jw3, jw4, jo10, jo11, jo28, jo30, jo31, jl29, jg31] at c16)
              (try simp (disch := omega) only [jw1, jw2, jw3, jw4, jo10, jo11, jo28, jo30, jo31, jl29, jg31] at c48)
              (try simp (disch := omega) only [jw1, jw2, jw3, jw4, jo10, jo11, jo28, jo30, jo31, jl29, jg31] at c94)
              (try simp (disch := omega) only [jw1, jw2, jw3, jw4, jo10, jo11, jo28, jo30, jo31, jl29, jg31] at c136)
              (try simp (disch := omega) only [jw1, jw2, jw3, jw4, jo10, jo11, jo28, jo30, jo31, jl29, jg31] at c201)
              (try simp (disch := omega) only [jw1, jw2, jw3, jw4, jo10, jo11, jo28, jo30, jo31, jl29, jg31] at c208)
              refine ⟨?_, rfl, rfl⟩
              rw [ea]
              unfold jdR
              rw [if_neg (by omega), if_neg (by omega), if_neg (by omega), if_pos (by omega), e7, eB, eY]
              rfl
            · refine gi_iload (q := 213) C (dm_Ju_judge 106 rfl) rfl rfl ?_
              refine gi_bipush (q := 215) (v := 31) C (dm_Ju_judge 107 rfl) rfl (by decide) ?_
              refine gi_icmp_ne (q := 218) (tgt := 254) C (dm_Ju_judge 108 rfl) rfl (by decide) (fun c215 => ?_) (fun c215 => ?_)
              · refine gi_iconst (q := 255) (v := 1) C (dm_Ju_judge 129 rfl) rfl (by decide) ?_
                refine gi_iret C hr9 (dm_Ju_judge 130 rfl) ?_
                (try simp (disch := omega) only [jw1, jw2, jw3, jw4, jo10, jo11, jo28, jo30, jo31, jl29, jg31] at c16)
                (try simp (disch := omega) only [jw1, jw2, jw3, jw4, jo10, jo11, jo28, jo30, jo31, jl29, jg31] at c48)
                (try simp (disch := omega) only [jw1, jw2, jw3, jw4, jo10, jo11, jo28, jo30, jo31, jl29, jg31] at c94)
                (try simp (disch := omega) only [jw1, jw2, jw3, jw4, jo10, jo11, jo28, jo30, jo31, jl29, jg31] at c136)
                (try simp (disch := omega) only [jw1, jw2, jw3, jw4, jo10, jo11, jo28, jo30, jo31, jl29, jg31] at c201)
                (try simp (disch := omega) only [jw1, jw2, jw3, jw4, jo10, jo11, jo28, jo30, jo31, jl29, jg31] at c208)
                (try simp (disch := omega) only [jw1, jw2, jw3, jw4, jo10, jo11, jo28, jo30, jo31, jl29, jg31] at c215)
                refine ⟨?_, rfl, rfl⟩
                rw [ea]
                unfold jdR
                rw [if_neg (by omega), if_neg (by omega), if_neg (by omega), if_neg (by omega)]
              · refine gi_aload (q := 220) C (dm_Ju_judge 109 rfl) rfl rfl ?_
                refine gi_get (q := 223) C (dm_Ju_judge 110 rfl) rfl fl_Ju_37 (by first | exact hju0 | exact RO.1 | exact hv | exact hva) rfl ?_
                refine gi_iconst (q := 224) (v := 1) C (dm_Ju_judge 111 rfl) rfl (by decide) ?_
                refine gi_isub (q := 225) C (dm_Ju_judge 112 rfl) rfl ?_
                refine gi_iload (q := 227) C (dm_Ju_judge 113 rfl) rfl rfl ?_
                refine gi_bipush (q := 229) (v := 30) C (dm_Ju_judge 114 rfl) rfl (by decide) ?_
                refine gi_isub (q := 230) C (dm_Ju_judge 115 rfl) rfl ?_
                refine gi_isub (q := 231) C (dm_Ju_judge 116 rfl) rfl ?_
                (try simp (disch := omega) only [jw1, jw2, jw3, jw4, jo10, jo11, jo28, jo30, jo31, jl29, jg31] at c16)
                (try simp (disch := omega) only [jw1, jw2, jw3, jw4, jo10, jo11, jo28, jo30, jo31, jl29, jg31] at c48)
                (try simp (disch := omega) only [jw1, jw2, jw3, jw4, jo10, jo11, jo28, jo30, jo31, jl29, jg31] at c94)
                (try simp (disch := omega) only [jw1, jw2, jw3, jw4, jo10, jo11, jo28, jo30, jo31, jl29, jg31] at c136)
                (try simp (disch := omega) only [jw1, jw2, jw3, jw4, jo10, jo11, jo28, jo30, jo31, jl29, jg31] at c201)
                (try simp (disch := omega) only [jw1, jw2, jw3, jw4, jo10, jo11, jo28, jo30, jo31, jl29, jg31] at c208)
                (try simp (disch := omega) only [jw1, jw2, jw3, jw4, jo10, jo11, jo28, jo30, jo31, jl29, jg31] at c215)
                obtain ⟨q1, ⟨b, o, eB⟩, fY⟩ := j3 (by omega) (by omega)
                obtain ⟨Y, eY, oY⟩ := fY (by omega)
                rw [RG.1, show (1 : Int32) = nI 1 from rfl, show (30 : Int32) = nI 30 from rfl, nI_sb (by omega) (by omega), nI_sb (by omega) (by omega), nI_sb (by omega) (by omega)]
                have e9 := (RG.2 (q - 1 - (op - 29)) (by omega)).1
                rw [eB] at e9
                have hva : h ((Φ (60 * m' + i)).1 (q - 1 - (op - 29))) = some (eV (tV b o)) := by
                  have := rv_at RO (show q - 1 - (op - 29) < 14 by omega)
                  rw [e9] at this
                  exact this
                have e8 := (RG.2 (q - 1 - (op - 30)) (by omega)).1
                rw [eY] at e8
                have hvi : h ((Φ (60 * m' + i)).1 (q - 1 - (op - 30))) = some (eV (sV Y)) := by
                  have := rv_at RO (show q - 1 - (op - 30) < 14 by omega)
                  rw [e8] at this
                  exact this
                have e7 : q - 1 - (op - 30) - 1 = q - 1 - (op - 29) := by omega
                refine gi_istore (q := 233) C (dm_Ju_judge 117 rfl) rfl (Nat.le_of_ble_eq_true rfl) ?_
                refine gi_aload_n (q := 234) (i := 0) C (dm_Ju_judge 118 rfl) rfl rfl rfl ?_
                refine gi_aload (q := 236) C (dm_Ju_judge 119 rfl) rfl rfl ?_
                refine gi_iload (q := 238) C (dm_Ju_judge 120 rfl) rfl rfl ?_
                refine gi_iconst (q := 239) (v := 1) C (dm_Ju_judge 121 rfl) rfl (by decide) ?_
                refine gi_isub (q := 240) C (dm_Ju_judge 122 rfl) rfl ?_
                rw [show (1 : Int32) = nI 1 from rfl, nI_sb (by omega) (by omega), e7]
                refine gi_callv 1 (q := 243) C (dm_Ju_judge 123 rfl) rfl my_Ro_valueAt lk_Ju_41 im_Ro_valueAt rfl (c_Ro_valueAt (j := q - 1 - (op - 29)) (by omega) (by omega) RO) RO.1 rfl rfl ⟨(Nat.le_of_ble_eq_true rfl), (Nat.le_of_ble_eq_true rfl)⟩ (Nat.le_of_ble_eq_true rfl) ⟨(Nat.le_of_ble_eq_true rfl), (Nat.le_of_ble_eq_true rfl)⟩ (fun r240 n240 h240 e240 => ?_)
                obtain ⟨rfl, q240, u240⟩ := e240
                rw [q240, u240]
                refine gi_aload (q := 245) C (dm_Ju_judge 124 rfl) rfl rfl ?_
                refine gi_iload (q := 247) C (dm_Ju_judge 125 rfl) rfl rfl ?_
                refine gi_callv 1 (q := 250) C (dm_Ju_judge 126 rfl) rfl my_Ro_valueAt lk_Ju_41 im_Ro_valueAt rfl (c_Ro_valueAt (j := q - 1 - (op - 30)) (by omega) (by omega) RO) RO.1 rfl rfl ⟨(Nat.le_of_ble_eq_true rfl), (Nat.le_of_ble_eq_true rfl)⟩ (Nat.le_of_ble_eq_true rfl) ⟨(Nat.le_of_ble_eq_true rfl), (Nat.le_of_ble_eq_true rfl)⟩ (fun r247 n247 h247 e247 => ?_)
                obtain ⟨rfl, q247, u247⟩ := e247
                rw [q247, u247]
                refine gi_callv 2 (q := 253) C (dm_Ju_judge 127 rfl) rfl my_Ju_judgeIndex lk_Ju_68 im_Ju_judgeIndex rfl (c_Ju_judgeIndex b o Y _ _ hr hju0 HC R hva hvi oY) hju0 rfl rfl ⟨(Nat.le_of_ble_eq_true rfl), (Nat.le_of_ble_eq_true rfl)⟩ (Nat.le_of_ble_eq_true rfl) ⟨(Nat.le_of_ble_eq_true rfl), (Nat.le_of_ble_eq_true rfl)⟩ (fun r250 n250 h250 e250 => ?_)
                obtain ⟨rfl, q250, u250⟩ := e250
                rw [q250, u250]
                refine gi_iret C hr9 (dm_Ju_judge 128 rfl) ?_
                (try simp (disch := omega) only [jw1, jw2, jw3, jw4, jo10, jo11, jo28, jo30, jo31, jl29, jg31] at c16)
                (try simp (disch := omega) only [jw1, jw2, jw3, jw4, jo10, jo11, jo28, jo30, jo31, jl29, jg31] at c48)
                (try simp (disch := omega) only [jw1, jw2, jw3, jw4, jo10, jo11, jo28, jo30, jo31, jl29, jg31] at c94)
                (try simp (disch := omega) only [jw1, jw2, jw3, jw4, jo10, jo11, jo28, jo30, jo31, jl29, jg31] at c136)
                (try simp (disch := omega) only [jw1, jw2, jw3, jw4, jo10, jo11, jo28, jo30, jo31, jl29, jg31] at c201)
                (try simp (disch := omega) only [jw1, jw2, jw3, jw4, jo10, jo11, jo28, jo30, jo31, jl29, jg31] at c208)
                (try simp (disch := omega) only [jw1, jw2, jw3, jw4, jo10, jo11, jo28, jo30, jo31, jl29, jg31] at c215)
                refine ⟨?_, rfl, rfl⟩
                rw [ea]
                unfold jdR
                rw [if_neg (by omega), if_neg (by omega), if_neg (by omega), if_pos (by omega), e7, eB, eY]
                rfl
        · refine gi_iload (q := 141) C (dm_Ju_judge 71 rfl) rfl rfl ?_
          refine gi_bipush (q := 143) (v := 29) C (dm_Ju_judge 72 rfl) rfl (by decide) ?_
          refine gi_icmp_lt (q := 146) (tgt := 199) C (dm_Ju_judge 73 rfl) rfl (by decide) (fun c143 => ?_) (fun c143 => ?_)
          · refine gi_iload_n (q := 200) (i := 3) C (dm_Ju_judge 100 rfl) rfl rfl rfl ?_
            refine gi_iconst (q := 201) (v := 3) C (dm_Ju_judge 101 rfl) rfl (by decide) ?_
            refine gi_icmp_ne (q := 204) (tgt := 254) C (dm_Ju_judge 102 rfl) rfl (by decide) (fun c201 => ?_) (fun c201 => ?_)
            · refine gi_iconst (q := 255) (v := 1) C (dm_Ju_judge 129 rfl) rfl (by decide) ?_
              refine gi_iret C hr9 (dm_Ju_judge 130 rfl) ?_
              (try simp (disch := omega) only [jw1, jw2, jw3, jw4, jo10, jo11, jo28, jo30, jo31, jl29, jg31] at c16)
              (try simp (disch := omega) only [jw1, jw2, jw3, jw4, jo10, jo11, jo28, jo30, jo31, jl29, jg31] at c48)
              (try simp (disch := omega) only [jw1, jw2, jw3, jw4, jo10, jo11, jo28, jo30, jo31, jl29, jg31] at c94)
              (try simp (disch := omega) only [jw1, jw2, jw3, jw4, jo10, jo11, jo28, jo30, jo31, jl29, jg31] at c136)
              (try simp (disch := omega) only [jw1, jw2, jw3, jw4, jo10, jo11, jo28, jo30, jo31, jl29, jg31] at c143)
              (try simp (disch := omega) only [jw1, jw2, jw3, jw4, jo10, jo11, jo28, jo30, jo31, jl29, jg31] at c201)
              refine ⟨?_, rfl, rfl⟩
              rw [ea]
              unfold jdR
              rw [if_neg (by omega), if_neg (by omega), if_neg (by omega), if_neg (by omega)]
            · refine gi_iload (q := 206) C (dm_Ju_judge 103 rfl) rfl rfl ?_
              refine gi_bipush (q := 208) (v := 30) C (dm_Ju_judge 104 rfl) rfl (by decide) ?_
              refine gi_icmp_eq (q := 211) (tgt := 218) C (dm_Ju_judge 105 rfl) rfl (by decide) (fun c208 => ?_) (fun c208 => ?_)
              · refine gi_aload (q := 220) C (dm_Ju_judge 109 rfl) rfl rfl ?_
                refine gi_get (q := 223) C (dm_Ju_judge 110 rfl) rfl fl_Ju_37 (by first | exact hju0 | exact RO.1 | exact hv | exact hva) rfl ?_
                refine gi_iconst (q := 224) (v := 1) C (dm_Ju_judge 111 rfl) rfl (by decide) ?_
                refine gi_isub (q := 225) C (dm_Ju_judge 112 rfl) rfl ?_
                refine gi_iload (q := 227) C (dm_Ju_judge 113 rfl) rfl rfl ?_
                refine gi_bipush (q := 229) (v := 30) C (dm_Ju_judge 114 rfl) rfl (by decide) ?_
                refine gi_isub (q := 230) C (dm_Ju_judge 115 rfl) rfl ?_
                refine gi_isub (q := 231) C (dm_Ju_judge 116 rfl) rfl ?_
                (try simp (disch := omega) only [jw1, jw2, jw3, jw4, jo10, jo11, jo28, jo30, jo31, jl29, jg31] at c16)
                (try simp (disch := omega) only [jw1, jw2, jw3, jw4, jo10, jo11, jo28, jo30, jo31, jl29, jg31] at c48)
                (try simp (disch := omega) only [jw1, jw2, jw3, jw4, jo10, jo11, jo28, jo30, jo31, jl29, jg31] at c94)
                (try simp (disch := omega) only [jw1, jw2, jw3, jw4, jo10, jo11, jo28, jo30, jo31, jl29, jg31] at c136)
                (try simp (disch := omega) only [jw1, jw2, jw3, jw4, jo10, jo11, jo28, jo30, jo31, jl29, jg31] at c143)
                (try simp (disch := omega) only [jw1, jw2, jw3, jw4, jo10, jo11, jo28, jo30, jo31, jl29, jg31] at c201)
                (try simp (disch := omega) only [jw1, jw2, jw3, jw4, jo10, jo11, jo28, jo30, jo31, jl29, jg31] at c208)
                obtain ⟨q1, ⟨b, o, eB⟩, fY⟩ := j3 (by omega) (by omega)
                obtain ⟨Y, eY, oY⟩ := fY (by omega)
                rw [RG.1, show (1 : Int32) = nI 1 from rfl, show (30 : Int32) = nI 30 from rfl, nI_sb (by omega) (by omega), nI_sb (by omega) (by omega), nI_sb (by omega) (by omega)]
                have e9 := (RG.2 (q - 1 - (op - 29)) (by omega)).1
                rw [eB] at e9
                have hva : h ((Φ (60 * m' + i)).1 (q - 1 - (op - 29))) = some (eV (tV b o)) := by
                  have := rv_at RO (show q - 1 - (op - 29) < 14 by omega)
                  rw [e9] at this
                  exact this
                have e8 := (RG.2 (q - 1 - (op - 30)) (by omega)).1
                rw [eY] at e8
                have hvi : h ((Φ (60 * m' + i)).1 (q - 1 - (op - 30))) = some (eV (sV Y)) := by
                  have := rv_at RO (show q - 1 - (op - 30) < 14 by omega)
                  rw [e8] at this
                  exact this
                have e7 : q - 1 - (op - 30) - 1 = q - 1 - (op - 29) := by omega
                refine gi_istore (q := 233) C (dm_Ju_judge 117 rfl) rfl (Nat.le_of_ble_eq_true rfl) ?_
                refine gi_aload_n (q := 234) (i := 0) C (dm_Ju_judge 118 rfl) rfl rfl rfl ?_
                refine gi_aload (q := 236) C (dm_Ju_judge 119 rfl) rfl rfl ?_
                refine gi_iload (q := 238) C (dm_Ju_judge 120 rfl) rfl rfl ?_
                refine gi_iconst (q := 239) (v := 1) C (dm_Ju_judge 121 rfl) rfl (by decide) ?_
                refine gi_isub (q := 240) C (dm_Ju_judge 122 rfl) rfl ?_
                rw [show (1 : Int32) = nI 1 from rfl, nI_sb (by omega) (by omega), e7]
                refine gi_callv 1 (q := 243) C (dm_Ju_judge 123 rfl) rfl my_Ro_valueAt lk_Ju_41 im_Ro_valueAt rfl (c_Ro_valueAt (j := q - 1 - (op - 29)) (by omega) (by omega) RO) RO.1 rfl rfl ⟨(Nat.le_of_ble_eq_true rfl), (Nat.le_of_ble_eq_true rfl)⟩ (Nat.le_of_ble_eq_true rfl) ⟨(Nat.le_of_ble_eq_true rfl), (Nat.le_of_ble_eq_true rfl)⟩ (fun r240 n240 h240 e240 => ?_)
                obtain ⟨rfl, q240, u240⟩ := e240
                rw [q240, u240]
                refine gi_aload (q := 245) C (dm_Ju_judge 124 rfl) rfl rfl ?_
                refine gi_iload (q := 247) C (dm_Ju_judge 125 rfl) rfl rfl ?_
                refine gi_callv 1 (q := 250) C (dm_Ju_judge 126 rfl) rfl my_Ro_valueAt lk_Ju_41 im_Ro_valueAt rfl (c_Ro_valueAt (j := q - 1 - (op - 30)) (by omega) (by omega) RO) RO.1 rfl rfl ⟨(Nat.le_of_ble_eq_true rfl), (Nat.le_of_ble_eq_true rfl)⟩ (Nat.le_of_ble_eq_true rfl) ⟨(Nat.le_of_ble_eq_true rfl), (Nat.le_of_ble_eq_true rfl)⟩ (fun r247 n247 h247 e247 => ?_)
                obtain ⟨rfl, q247, u247⟩ := e247
                rw [q247, u247]
                refine gi_callv 2 (q := 253) C (dm_Ju_judge 127 rfl) rfl my_Ju_judgeIndex lk_Ju_68 im_Ju_judgeIndex rfl (c_Ju_judgeIndex b o Y _ _ hr hju0 HC R hva hvi oY) hju0 rfl rfl ⟨(Nat.le_of_ble_eq_true rfl), (Nat.le_of_ble_eq_true rfl)⟩ (Nat.le_of_ble_eq_true rfl) ⟨(Nat.le_of_ble_eq_true rfl), (Nat.le_of_ble_eq_true rfl)⟩ (fun r250 n250 h250 e250 => ?_)
                obtain ⟨rfl, q250, u250⟩ := e250
                rw [q250, u250]
                refine gi_iret C hr9 (dm_Ju_judge 128 rfl) ?_
                (try simp (disch := omega) only [jw1, jw2, jw3, jw4, jo10, jo11, jo28, jo30, jo31, jl29, jg31] at c16)
                (try simp (disch := omega) only [jw1, jw2, jw3, jw4, jo10, jo11, jo28, jo30, jo31, jl29, jg31] at c48)
                (try simp (disch := omega) only [jw1, jw2, jw3, jw4, jo10, jo11, jo28, jo30, jo31, jl29, jg31] at c94)
                (try simp (disch := omega) only [jw1, jw2, jw3, jw4, jo10, jo11, jo28, jo30, jo31, jl29, jg31] at c136)
                (try simp (disch := omega) only [jw1, jw2, jw3, jw4, jo10, jo11, jo28, jo30, jo31, jl29, jg31] at c143)
                (try simp (disch := omega) only [jw1, jw2, jw3, jw4, jo10, jo11, jo28, jo30, jo31, jl29, jg31] at c201)
                (try simp (disch := omega) only [jw1, jw2, jw3, jw4, jo10, jo11, jo28, jo30, jo31, jl29, jg31] at c208)
                refine ⟨?_, rfl, rfl⟩
                rw [ea]
                unfold jdR
                rw [if_neg (by omega), if_neg (by omega), if_neg (by omega), if_pos (by omega), e7, eB, eY]
                rfl
              · refine gi_iload (q := 213) C (dm_Ju_judge 106 rfl) rfl rfl ?_
                refine gi_bipush (q := 215) (v := 31) C (dm_Ju_judge 107 rfl) rfl (by decide) ?_
                refine gi_icmp_ne (q := 218) (tgt := 254) C (dm_Ju_judge 108 rfl) rfl (by decide) (fun c215 => ?_) (fun c215 => ?_)
                · refine gi_iconst (q := 255) (v := 1) C (dm_Ju_judge 129 rfl) rfl (by decide) ?_
                  refine gi_iret C hr9 (dm_Ju_judge 130 rfl) ?_
                  (try simp (disch := omega) only [jw1, jw2, jw3, jw4, jo10, jo11, jo28, jo30, jo31, jl29, jg31] at c16)
                  (try simp (disch := omega) only [jw1, jw2, jw3, jw4, jo10, jo11, jo28, jo30, jo31, jl29, jg31] at c48)
                  (try simp (disch := omega) only [jw1, jw2, jw3, jw4, jo10, jo11, jo28, jo30, jo31, jl29, jg31] at c94)
                  (try simp (disch := omega) only [jw1, jw2, jw3, jw4, jo10, jo11, jo28, jo30, jo31, jl29, jg31] at c136)
                  (try simp (disch := omega) only [jw1, jw2, jw3, jw4, jo10, jo11, jo28, jo30, jo31, jl29, jg31] at c143)
                  (try simp (disch := omega) only [jw1, jw2, jw3, jw4, jo10, jo11, jo28, jo30, jo31, jl29, jg31] at c201)
                  (try simp (disch := omega) only [jw1, jw2, jw3, jw4, jo10, jo11, jo28, jo30, jo31, jl29, jg31] at c208)
                  (try simp (disch := omega) only [jw1, jw2, jw3, jw4, jo10, jo11, jo28, jo30, jo31, jl29, jg31] at c215)
                  refine ⟨?_, rfl, rfl⟩
                  rw [ea]
                  unfold jdR
                  rw [if_neg (by omega), if_neg (by omega), if_neg (by omega), if_neg (by omega)]
                · refine gi_aload (q := 220) C (dm_Ju_judge 109 rfl) rfl rfl ?_
                  refine gi_get (q := 223) C (dm_Ju_judge 110 rfl) rfl fl_Ju_37 (by first | exact hju0 | exact RO.1 | exact hv | exact hva) rfl ?_
                  refine gi_iconst (q := 224) (v := 1) C (dm_Ju_judge 111 rfl) rfl (by decide) ?_
                  refine gi_isub (q := 225) C (dm_Ju_judge 112 rfl) rfl ?_
                  refine gi_iload (q := 227) C (dm_Ju_judge 113 rfl) rfl rfl ?_
                  refine gi_bipush (q := 229) (v := 30) C (dm_Ju_judge 114 rfl) rfl (by decide) ?_
                  refine gi_isub (q := 230) C (dm_Ju_judge 115 rfl) rfl ?_
                  refine gi_isub (q := 231) C (dm_Ju_judge 116 rfl) rfl ?_
                  (try simp (disch := omega) only [jw1, jw2, jw3, jw4, jo10, jo11, jo28, jo30, jo31, jl29, jg31] at c16)
                  (try simp (disch := omega) only [jw1, jw2, jw3, jw4, jo10, jo11, jo28, jo30, jo31, jl29, jg31] at c48)
                  (try simp (disch := omega) only [jw1, jw2, jw3, jw4, jo10, jo11, jo28, jo30, jo31, jl29, jg31] at c94)
                  (try simp (disch := omega) only [jw1, jw2, jw3, jw4, jo10, jo11, jo28, jo30, jo31, jl29, jg31] at c136)
                  (try simp (disch := omega) only [jw1, jw2, jw3, jw4, jo10, jo11, jo28, jo30, jo31, jl29, jg31] at c143)
                  (try simp (disch := omega) only [jw1, jw2, jw3, jw4, jo10, jo11, jo28, jo30, jo31, jl29, jg31] at c201)
                  (try simp (disch := omega) only [jw1, jw2, jw3, jw4, jo10, jo11, jo28, jo30, jo31, jl29, jg31] at c208)
                  (try simp (disch := omega) only [jw1, jw2, jw3, jw4, jo10, jo11, jo28, jo30, jo31, jl29, jg31] at c215)
                  obtain ⟨q1, ⟨b, o, eB⟩, fY⟩ := j3 (by omega) (by omega)
                  obtain ⟨Y, eY, oY⟩ := fY (by omega)
                  rw [RG.1, show (1 : Int32) = nI 1 from rfl, show (30 : Int32) = nI 30 from rfl, nI_sb (by omega) (by omega), nI_sb (by omega) (by omega), nI_sb (by omega) (by omega)]
                  have e9 := (RG.2 (q - 1 - (op - 29)) (by omega)).1
                  rw [eB] at e9
                  have hva : h ((Φ (60 * m' + i)).1 (q - 1 - (op - 29))) = some (eV (tV b o)) := by
                    have := rv_at RO (show q - 1 - (op - 29) < 14 by omega)
                    rw [e9] at this
                    exact this
                  have e8 := (RG.2 (q - 1 - (op - 30)) (by omega)).1
                  rw [eY] at e8
                  have hvi : h ((Φ (60 * m' + i)).1 (q - 1 - (op - 30))) = some (eV (sV Y)) := by
                    have := rv_at RO (show q - 1 - (op - 30) < 14 by omega)
                    rw [e8] at this
                    exact this
                  have e7 : q - 1 - (op - 30) - 1 = q - 1 - (op - 29) := by omega
                  refine gi_istore (q := 233) C (dm_Ju_judge 117 rfl) rfl (Nat.le_of_ble_eq_true rfl) ?_
                  refine gi_aload_n (q := 234) (i := 0) C (dm_Ju_judge 118 rfl) rfl rfl rfl ?_
                  refine gi_aload (q := 236) C (dm_Ju_judge 119 rfl) rfl rfl ?_
                  refine gi_iload (q := 238) C (dm_Ju_judge 120 rfl) rfl rfl ?_
                  refine gi_iconst (q := 239) (v := 1) C (dm_Ju_judge 121 rfl) rfl (by decide) ?_
                  refine gi_isub (q := 240) C (dm_Ju_judge 122 rfl) rfl ?_
                  rw [show (1 : Int32) = nI 1 from rfl, nI_sb (by omega) (by omega), e7]
                  refine gi_callv 1 (q := 243) C (dm_Ju_judge 123 rfl) rfl my_Ro_valueAt lk_Ju_41 im_Ro_valueAt rfl (c_Ro_valueAt (j := q - 1 - (op - 29)) (by omega) (by omega) RO) RO.1 rfl rfl ⟨(Nat.le_of_ble_eq_true rfl), (Nat.le_of_ble_eq_true rfl)⟩ (Nat.le_of_ble_eq_true rfl) ⟨(Nat.le_of_ble_eq_true rfl), (Nat.le_of_ble_eq_true rfl)⟩ (fun r240 n240 h240 e240 => ?_)
                  obtain ⟨rfl, q240, u240⟩ := e240
                  rw [q240, u240]
                  refine gi_aload (q := 245) C (dm_Ju_judge 124 rfl) rfl rfl ?_
                  refine gi_iload (q := 247) C (dm_Ju_judge 125 rfl) rfl rfl ?_
                  refine gi_callv 1 (q := 250) C (dm_Ju_judge 126 rfl) rfl my_Ro_valueAt lk_Ju_41 im_Ro_valueAt rfl (c_Ro_valueAt (j := q - 1 - (op - 30)) (by omega) (by omega) RO) RO.1 rfl rfl ⟨(Nat.le_of_ble_eq_true rfl), (Nat.le_of_ble_eq_true rfl)⟩ (Nat.le_of_ble_eq_true rfl) ⟨(Nat.le_of_ble_eq_true rfl), (Nat.le_of_ble_eq_true rfl)⟩ (fun r247 n247 h247 e247 => ?_)
                  obtain ⟨rfl, q247, u247⟩ := e247
                  rw [q247, u247]
                  refine gi_callv 2 (q := 253) C (dm_Ju_judge 127 rfl) rfl my_Ju_judgeIndex lk_Ju_68 im_Ju_judgeIndex rfl (c_Ju_judgeIndex b o Y _ _ hr hju0 HC R hva hvi oY) hju0 rfl rfl ⟨(Nat.le_of_ble_eq_true rfl), (Nat.le_of_ble_eq_true rfl)⟩ (Nat.le_of_ble_eq_true rfl) ⟨(Nat.le_of_ble_eq_true rfl), (Nat.le_of_ble_eq_true rfl)⟩ (fun r250 n250 h250 e250 => ?_)
                  obtain ⟨rfl, q250, u250⟩ := e250
                  rw [q250, u250]
                  refine gi_iret C hr9 (dm_Ju_judge 128 rfl) ?_
                  (try simp (disch := omega) only [jw1, jw2, jw3, jw4, jo10, jo11, jo28, jo30, jo31, jl29, jg31] at c16)
                  (try simp (disch := omega) only [jw1, jw2, jw3, jw4, jo10, jo11, jo28, jo30, jo31, jl29, jg31] at c48)
                  (try simp (disch := omega) only [jw1, jw2, jw3, jw4, jo10, jo11, jo28, jo30, jo31, jl29, jg31] at c94)
                  (try simp (disch := omega) only [jw1, jw2, jw3, jw4, jo10, jo11, jo28, jo30, jo31, jl29, jg31] at c136)
                  (try simp (disch := omega) only [jw1, jw2, jw3, jw4, jo10, jo11, jo28, jo30, jo31, jl29, jg31] at c143)
                  (try simp (disch := omega) only [jw1, jw2, jw3, jw4, jo10, jo11, jo28, jo30, jo31, jl29, jg31] at c201)
                  (try simp (disch := omega) only [jw1, jw2, jw3, jw4, jo10, jo11, jo28, jo30, jo31, jl29, jg31] at c208)
                  (try simp (disch := omega) only [jw1, jw2, jw3, jw4, jo10, jo11, jo28, jo30, jo31, jl29, jg31] at c215)
                  refine ⟨?_, rfl, rfl⟩
                  rw [ea]
                  unfold jdR
                  rw [if_neg (by omega), if_neg (by omega), if_neg (by omega), if_pos (by omega), e7, eB, eY]
                  rfl
          · refine gi_iload (q := 148) C (dm_Ju_judge 74 rfl) rfl rfl ?_
            refine gi_bipush (q := 150) (v := 31) C (dm_Ju_judge 75 rfl) rfl (by decide) ?_
            refine gi_icmp_gt (q := 153) (tgt := 199) C (dm_Ju_judge 76 rfl) rfl (by decide) (fun c150 => ?_) (fun c150 => ?_)
            · refine gi_iload_n (q := 200) (i := 3) C (dm_Ju_judge 100 rfl) rfl rfl rfl ?_
              refine gi_iconst (q := 201) (v := 3) C (dm_Ju_judge 101 rfl) rfl (by decide) ?_
              refine gi_icmp_ne (q := 204) (tgt := 254) C (dm_Ju_judge 102 rfl) rfl (by decide) (fun c201 => ?_) (fun c201 => ?_)
              · refine gi_iconst (q := 255) (v := 1) C (dm_Ju_judge 129 rfl) rfl (by decide) ?_
                refine gi_iret C hr9 (dm_Ju_judge 130 rfl) ?_
                (try simp (disch := omega) only [jw1, jw2, jw3, jw4, jo10, jo11, jo28, jo30, jo31, jl29, jg31] at c16)
                (try simp (disch := omega) only [jw1, jw2, jw3, jw4, jo10, jo11, jo28, jo30, jo31, jl29, jg31] at c48)
                (try simp (disch := omega) only [jw1, jw2, jw3, jw4, jo10, jo11, jo28, jo30, jo31, jl29, jg31] at c94)
                (try simp (disch := omega) only [jw1, jw2, jw3, jw4, jo10, jo11, jo28, jo30, jo31, jl29, jg31] at c136)
                (try simp (disch := omega) only [jw1, jw2, jw3, jw4, jo10, jo11, jo28, jo30, jo31, jl29, jg31] at c143)
                (try simp (disch := omega) only [jw1, jw2, jw3, jw4, jo10, jo11, jo28, jo30, jo31, jl29, jg31] at c150)
                (try simp (disch := omega) only [jw1, jw2, jw3, jw4, jo10, jo11, jo28, jo30, jo31, jl29, jg31] at c201)
                refine ⟨?_, rfl, rfl⟩
                rw [ea]
                unfold jdR
                rw [if_neg (by omega), if_neg (by omega), if_neg (by omega), if_neg (by omega)]
              · refine gi_iload (q := 206) C (dm_Ju_judge 103 rfl) rfl rfl ?_
                refine gi_bipush (q := 208) (v := 30) C (dm_Ju_judge 104 rfl) rfl (by decide) ?_
                refine gi_icmp_eq (q := 211) (tgt := 218) C (dm_Ju_judge 105 rfl) rfl (by decide) (fun c208 => ?_) (fun c208 => ?_)
                · refine gi_aload (q := 220) C (dm_Ju_judge 109 rfl) rfl rfl ?_
                  refine gi_get (q := 223) C (dm_Ju_judge 110 rfl) rfl fl_Ju_37 (by first | exact hju0 | exact RO.1 | exact hv | exact hva) rfl ?_
                  refine gi_iconst (q := 224) (v := 1) C (dm_Ju_judge 111 rfl) rfl (by decide) ?_
                  refine gi_isub (q := 225) C (dm_Ju_judge 112 rfl) rfl ?_
                  refine gi_iload (q := 227) C (dm_Ju_judge 113 rfl) rfl rfl ?_
                  refine gi_bipush (q := 229) (v := 30) C (dm_Ju_judge 114 rfl) rfl (by decide) ?_
                  refine gi_isub (q := 230) C (dm_Ju_judge 115 rfl) rfl ?_
                  refine gi_isub (q := 231) C (dm_Ju_judge 116 rfl) rfl ?_
                  (try simp (disch := omega) only [jw1, jw2, jw3, jw4, jo10, jo11, jo28, jo30, jo31, jl29, jg31] at c16)
                  (try simp (disch := omega) only [jw1, jw2, jw3, jw4, jo10, jo11, jo28, jo30, jo31, jl29, jg31] at c48)
                  (try simp (disch := omega) only [jw1, jw2, jw3, jw4, jo10, jo11, jo28, jo30, jo31, jl29, jg31] at c94)
                  (try simp (disch := omega) only [jw1, jw2, jw3, jw4, jo10, jo11, jo28, jo30, jo31, jl29, jg31] at c136)
                  (try simp (disch := omega) only [jw1, jw2, jw3, jw4, jo10, jo11, jo28, jo30, jo31, jl29, jg31] at c143)
                  (try simp (disch := omega) only [jw1, jw2, jw3, jw4, jo10, jo11, jo28, jo30, jo31, jl29, jg31] at c150)
                  (try simp (disch := omega) only [jw1, jw2, jw3, jw4, jo10, jo11, jo28, jo30, jo31, jl29, jg31] at c201)
                  (try simp (disch := omega) only [jw1, jw2, jw3, jw4, jo10, jo11, jo28, jo30, jo31, jl29, jg31] at c208)
                  obtain ⟨q1, ⟨b, o, eB⟩, fY⟩ := j3 (by omega) (by omega)
                  obtain ⟨Y, eY, oY⟩ := fY (by omega)
                  rw [RG.1, show (1 : Int32) = nI 1 from rfl, show (30 : Int32) = nI 30 from rfl, nI_sb (by omega) (by omega), nI_sb (by omega) (by omega), nI_sb (by omega) (by omega)]
                  have e9 := (RG.2 (q - 1 - (op - 29)) (by omega)).1
                  rw [eB] at e9
                  have hva : h ((Φ (60 * m' + i)).1 (q - 1 - (op - 29))) = some (eV (tV b o)) := by
                    have := rv_at RO (show q - 1 - (op - 29) < 14 by omega)
                    rw [e9] at this
                    exact this
                  have e8 := (RG.2 (q - 1 - (op - 30)) (by omega)).1
                  rw [eY] at e8
                  have hvi : h ((Φ (60 * m' + i)).1 (q - 1 - (op - 30))) = some (eV (sV Y)) := by
                    have := rv_at RO (show q - 1 - (op - 30) < 14 by omega)
                    rw [e8] at this
                    exact this
                  have e7 : q - 1 - (op - 30) - 1 = q - 1 - (op - 29) := by omega
                  refine gi_istore (q := 233) C (dm_Ju_judge 117 rfl) rfl (Nat.le_of_ble_eq_true rfl) ?_
                  refine gi_aload_n (q := 234) (i := 0) C (dm_Ju_judge 118 rfl) rfl rfl rfl ?_
                  refine gi_aload (q := 236) C (dm_Ju_judge 119 rfl) rfl rfl ?_
                  refine gi_iload (q := 238) C (dm_Ju_judge 120 rfl) rfl rfl ?_
                  refine gi_iconst (q := 239) (v := 1) C (dm_Ju_judge 121 rfl) rfl (by decide) ?_
                  refine gi_isub (q := 240) C (dm_Ju_judge 122 rfl) rfl ?_
                  rw [show (1 : Int32) = nI 1 from rfl, nI_sb (by omega) (by omega), e7]
                  refine gi_callv 1 (q := 243) C (dm_Ju_judge 123 rfl) rfl my_Ro_valueAt lk_Ju_41 im_Ro_valueAt rfl (c_Ro_valueAt (j := q - 1 - (op - 29)) (by omega) (by omega) RO) RO.1 rfl rfl ⟨(Nat.le_of_ble_eq_true rfl), (Nat.le_of_ble_eq_true rfl)⟩ (Nat.le_of_ble_eq_true rfl) ⟨(Nat.le_of_ble_eq_true rfl), (Nat.le_of_ble_eq_true rfl)⟩ (fun r240 n240 h240 e240 => ?_)
                  obtain ⟨rfl, q240, u240⟩ := e240
                  rw [q240, u240]
                  refine gi_aload (q := 245) C (dm_Ju_judge 124 rfl) rfl rfl ?_
                  refine gi_iload (q := 247) C (dm_Ju_judge 125 rfl) rfl rfl ?_
                  refine gi_callv 1 (q := 250) C (dm_Ju_judge 126 rfl) rfl my_Ro_valueAt lk_Ju_41 im_Ro_valueAt rfl (c_Ro_valueAt (j := q - 1 - (op - 30)) (by omega) (by omega) RO) RO.1 rfl rfl ⟨(Nat.le_of_ble_eq_true rfl), (Nat.le_of_ble_eq_true rfl)⟩ (Nat.le_of_ble_eq_true rfl) ⟨(Nat.le_of_ble_eq_true rfl), (Nat.le_of_ble_eq_true rfl)⟩ (fun r247 n247 h247 e247 => ?_)
                  obtain ⟨rfl, q247, u247⟩ := e247
                  rw [q247, u247]
                  refine gi_callv 2 (q := 253) C (dm_Ju_judge 127 rfl) rfl my_Ju_judgeIndex lk_Ju_68 im_Ju_judgeIndex rfl (c_Ju_judgeIndex b o Y _ _ hr hju0 HC R hva hvi oY) hju0 rfl rfl ⟨(Nat.le_of_ble_eq_true rfl), (Nat.le_of_ble_eq_true rfl)⟩ (Nat.le_of_ble_eq_true rfl) ⟨(Nat.le_of_ble_eq_true rfl), (Nat.le_of_ble_eq_true rfl)⟩ (fun r250 n250 h250 e250 => ?_)
                  obtain ⟨rfl, q250, u250⟩ := e250
                  rw [q250, u250]
                  refine gi_iret C hr9 (dm_Ju_judge 128 rfl) ?_
                  (try simp (disch := omega) only [jw1, jw2, jw3, jw4, jo10, jo11, jo28, jo30, jo31, jl29, jg31] at c16)
                  (try simp (disch := omega) only [jw1, jw2, jw3, jw4, jo10, jo11, jo28, jo30, jo31, jl29, jg31] at c48)
                  (try simp (disch := omega) only [jw1, jw2, jw3, jw4, jo10, jo11, jo28, jo30, jo31, jl29, jg31] at c94)
                  (try simp (disch := omega) only [jw1, jw2, jw3, jw4, jo10, jo11, jo28, jo30, jo31, jl29, jg31] at c136)
                  (try simp (disch := omega) only [jw1, jw2, jw3, jw4, jo10, jo11, jo28, jo30, jo31, jl29, jg31] at c143)
                  (try simp (disch := omega) only [jw1, jw2, jw3, jw4, jo10, jo11, jo28, jo30, jo31, jl29, jg31] at c150)
                  (try simp (disch := omega) only [jw1, jw2, jw3, jw4, jo10, jo11, jo28, jo30, jo31, jl29, jg31] at c201)
                  (try simp (disch := omega) only [jw1, jw2, jw3, jw4, jo10, jo11, jo28, jo30, jo31, jl29, jg31] at c208)
                  refine ⟨?_, rfl, rfl⟩
                  rw [ea]
                  unfold jdR
                  rw [if_neg (by omega), if_neg (by omega), if_neg (by omega), if_pos (by omega), e7, eB, eY]
                  rfl
                · refine gi_iload (q := 213) C (dm_Ju_judge 106 rfl) rfl rfl ?_
                  refine gi_bipush (q := 215) (v := 31) C (dm_Ju_judge 107 rfl) rfl (by decide) ?_
                  refine gi_icmp_ne (q := 218) (tgt := 254) C (dm_Ju_judge 108 rfl) rfl (by decide) (fun c215 => ?_) (fun c215 => ?_)
                  · refine gi_iconst (q := 255) (v := 1) C (dm_Ju_judge 129 rfl) rfl (by decide) ?_
                    refine gi_iret C hr9 (dm_Ju_judge 130 rfl) ?_
                    (try simp (disch := omega) only [jw1, jw2, jw3, jw4, jo10, jo11, jo28, jo30, jo31, jl29, jg31] at c16)
                    (try simp (disch := omega) only [jw1, jw2, jw3, jw4, jo10, jo11, jo28, jo30, jo31, jl29, jg31] at c48)
                    (try simp (disch := omega) only [jw1, jw2, jw3, jw4, jo10, jo11, jo28, jo30, jo31, jl29, jg31] at c94)
                    (try simp (disch := omega) only [jw1, jw2, jw3, jw4, jo10, jo11, jo28, jo30, jo31, jl29, jg31] at c136)
                    (try simp (disch := omega) only [jw1, jw2, jw3, jw4, jo10, jo11, jo28, jo30, jo31, jl29, jg31] at c143)
                    (try simp (disch := omega) only [jw1, jw2, jw3, jw4, jo10, jo11, jo28, jo30, jo31, jl29, jg31] at c150)
                    (try simp (disch := omega) only [jw1, jw2, jw3, jw4, jo10, jo11, jo28, jo30, jo31, jl29, jg31] at c201)
                    (try simp (disch := omega) only [jw1, jw2, jw3, jw4, jo10, jo11, jo28, jo30, jo31, jl29, jg31] at c208)
                    (try simp (disch := omega) only [jw1, jw2, jw3, jw4, jo10, jo11, jo28, jo30, jo31, jl29, jg31] at c215)
                    refine ⟨?_, rfl, rfl⟩
                    rw [ea]
                    unfold jdR
                    rw [if_neg (by omega), if_neg (by omega), if_neg (by omega), if_neg (by omega)]
                  · refine gi_aload (q := 220) C (dm_Ju_judge 109 rfl) rfl rfl ?_
                    refine gi_get (q := 223) C (dm_Ju_judge 110 rfl) rfl fl_Ju_37 (by first | exact hju0 | exact RO.1 | exact hv | exact hva) rfl ?_
                    refine gi_iconst (q := 224) (v := 1) C (dm_Ju_judge 111 rfl) rfl (by decide) ?_
                    refine gi_isub (q := 225) C (dm_Ju_judge 112 rfl) rfl ?_
                    refine gi_iload (q := 227) C (dm_Ju_judge 113 rfl) rfl rfl ?_
                    refine gi_bipush (q := 229) (v := 30) C (dm_Ju_judge 114 rfl) rfl (by decide) ?_
                    refine gi_isub (q := 230) C (dm_Ju_judge 115 rfl) rfl ?_
                    refine gi_isub (q := 231) C (dm_Ju_judge 116 rfl) rfl ?_
                    (try simp (disch := omega) only [jw1, jw2, jw3, jw4, jo10, jo11, jo28, jo30, jo31, jl29, jg31] at c16)
                    (try simp (disch := omega) only [jw1, jw2, jw3, jw4, jo10, jo11, jo28, jo30, jo31, jl29, jg31] at c48)
                    (try simp (disch := omega) only [jw1, jw2, jw3, jw4, jo10, jo11, jo28, jo30, jo31, jl29, jg31] at c94)
                    (try simp (disch := omega) only [jw1, jw2, jw3, jw4, jo10, jo11, jo28, jo30, jo31, jl29, jg31] at c136)
                    (try simp (disch := omega) only [jw1, jw2, jw3, jw4, jo10, jo11, jo28, jo30, jo31, jl29, jg31] at c143)
                    (try simp (disch := omega) only [jw1, jw2, jw3, jw4, jo10, jo11, jo28, jo30, jo31, jl29, jg31] at c150)
                    (try simp (disch := omega) only [jw1, jw2, jw3, jw4, jo10, jo11, jo28, jo30, jo31, jl29, jg31] at c201)
                    (try simp (disch := omega) only [jw1, jw2, jw3, jw4, jo10, jo11, jo28, jo30, jo31, jl29, jg31] at c208)
                    (try simp (disch := omega) only [jw1, jw2, jw3, jw4, jo10, jo11, jo28, jo30, jo31, jl29, jg31] at c215)
                    obtain ⟨q1, ⟨b, o, eB⟩, fY⟩ := j3 (by omega) (by omega)
                    obtain ⟨Y, eY, oY⟩ := fY (by omega)
                    rw [RG.1, show (1 : Int32) = nI 1 from rfl, show (30 : Int32) = nI 30 from rfl, nI_sb (by omega) (by omega), nI_sb (by omega) (by omega), nI_sb (by omega) (by omega)]
                    have e9 := (RG.2 (q - 1 - (op - 29)) (by omega)).1
                    rw [eB] at e9
                    have hva : h ((Φ (60 * m' + i)).1 (q - 1 - (op - 29))) = some (eV (tV b o)) := by
                      have := rv_at RO (show q - 1 - (op - 29) < 14 by omega)
                      rw [e9] at this
                      exact this
                    have e8 := (RG.2 (q - 1 - (op - 30)) (by omega)).1
                    rw [eY] at e8
                    have hvi : h ((Φ (60 * m' + i)).1 (q - 1 - (op - 30))) = some (eV (sV Y)) := by
                      have := rv_at RO (show q - 1 - (op - 30) < 14 by omega)
                      rw [e8] at this
                      exact this
                    have e7 : q - 1 - (op - 30) - 1 = q - 1 - (op - 29) := by omega
                    refine gi_istore (q := 233) C (dm_Ju_judge 117 rfl) rfl (Nat.le_of_ble_eq_true rfl) ?_
                    refine gi_aload_n (q := 234) (i := 0) C (dm_Ju_judge 118 rfl) rfl rfl rfl ?_
                    refine gi_aload (q := 236) C (dm_Ju_judge 119 rfl) rfl rfl ?_
                    refine gi_iload (q := 238) C (dm_Ju_judge 120 rfl) rfl rfl ?_
                    refine gi_iconst (q := 239) (v := 1) C (dm_Ju_judge 121 rfl) rfl (by decide) ?_
                    refine gi_isub (q := 240) C (dm_Ju_judge 122 rfl) rfl ?_
                    rw [show (1 : Int32) = nI 1 from rfl, nI_sb (by omega) (by omega), e7]
                    refine gi_callv 1 (q := 243) C (dm_Ju_judge 123 rfl) rfl my_Ro_valueAt lk_Ju_41 im_Ro_valueAt rfl (c_Ro_valueAt (j := q - 1 - (op - 29)) (by omega) (by omega) RO) RO.1 rfl rfl ⟨(Nat.le_of_ble_eq_true rfl), (Nat.le_of_ble_eq_true rfl)⟩ (Nat.le_of_ble_eq_true rfl) ⟨(Nat.le_of_ble_eq_true rfl), (Nat.le_of_ble_eq_true rfl)⟩ (fun r240 n240 h240 e240 => ?_)
                    obtain ⟨rfl, q240, u240⟩ := e240
                    rw [q240, u240]
                    refine gi_aload (q := 245) C (dm_Ju_judge 124 rfl) rfl rfl ?_
                    refine gi_iload (q := 247) C (dm_Ju_judge 125 rfl) rfl rfl ?_
                    refine gi_callv 1 (q := 250) C (dm_Ju_judge 126 rfl) rfl my_Ro_valueAt lk_Ju_41 im_Ro_valueAt rfl (c_Ro_valueAt (j := q - 1 - (op - 30)) (by omega) (by omega) RO) RO.1 rfl rfl ⟨(Nat.le_of_ble_eq_true rfl), (Nat.le_of_ble_eq_true rfl)⟩ (Nat.le_of_ble_eq_true rfl) ⟨(Nat.le_of_ble_eq_true rfl), (Nat.le_of_ble_eq_true rfl)⟩ (fun r247 n247 h247 e247 => ?_)
                    obtain ⟨rfl, q247, u247⟩ := e247
                    rw [q247, u247]
                    refine gi_callv 2 (q := 253) C (dm_Ju_judge 127 rfl) rfl my_Ju_judgeIndex lk_Ju_68 im_Ju_judgeIndex rfl (c_Ju_judgeIndex b o Y _ _ hr hju0 HC R hva hvi oY) hju0 rfl rfl ⟨(Nat.le_of_ble_eq_true rfl), (Nat.le_of_ble_eq_true rfl)⟩ (Nat.le_of_ble_eq_true rfl) ⟨(Nat.le_of_ble_eq_true rfl), (Nat.le_of_ble_eq_true rfl)⟩ (fun r250 n250 h250 e250 => ?_)
                    obtain ⟨rfl, q250, u250⟩ := e250
                    rw [q250, u250]
                    refine gi_iret C hr9 (dm_Ju_judge 128 rfl) ?_
                    (try simp (disch := omega) only [jw1, jw2, jw3, jw4, jo10, jo11, jo28, jo30, jo31, jl29, jg31] at c16)
                    (try simp (disch := omega) only [jw1, jw2, jw3, jw4, jo10, jo11, jo28, jo30, jo31, jl29, jg31] at c48)
                    (try simp (disch := omega) only [jw1, jw2, jw3, jw4, jo10, jo11, jo28, jo30, jo31, jl29, jg31] at c94)
                    (try simp (disch := omega) only [jw1, jw2, jw3, jw4, jo10, jo11, jo28, jo30, jo31, jl29, jg31] at c136)
                    (try simp (disch := omega) only [jw1, jw2, jw3, jw4, jo10, jo11, jo28, jo30, jo31, jl29, jg31] at c143)
                    (try simp (disch := omega) only [jw1, jw2, jw3, jw4, jo10, jo11, jo28, jo30, jo31, jl29, jg31] at c150)
                    (try simp (disch := omega) only [jw1, jw2, jw3, jw4, jo10, jo11, jo28, jo30, jo31, jl29, jg31] at c201)
                    (try simp (disch := omega) only [jw1, jw2, jw3, jw4, jo10, jo11, jo28, jo30, jo31, jl29, jg31] at c208)
                    (try simp (disch := omega) only [jw1, jw2, jw3, jw4, jo10, jo11, jo28, jo30, jo31, jl29, jg31] at c215)
                    refine ⟨?_, rfl, rfl⟩
                    rw [ea]
                    unfold jdR
                    rw [if_neg (by omega), if_neg (by omega), if_neg (by omega), if_pos (by omega), e7, eB, eY]
                    rfl
            · refine gi_aload (q := 155) C (dm_Ju_judge 77 rfl) rfl rfl ?_
              refine gi_aload (q := 157) C (dm_Ju_judge 78 rfl) rfl rfl ?_
              refine gi_get (q := 160) C (dm_Ju_judge 79 rfl) rfl fl_Ju_37 (by first | exact hju0 | exact RO.1 | exact hv | exact hva) rfl ?_
              refine gi_iconst (q := 161) (v := 1) C (dm_Ju_judge 80 rfl) rfl (by decide) ?_
              refine gi_isub (q := 162) C (dm_Ju_judge 81 rfl) rfl ?_
              refine gi_iload (q := 164) C (dm_Ju_judge 82 rfl) rfl rfl ?_
              refine gi_bipush (q := 166) (v := 29) C (dm_Ju_judge 83 rfl) rfl (by decide) ?_
              refine gi_isub (q := 167) C (dm_Ju_judge 84 rfl) rfl ?_
              refine gi_isub (q := 168) C (dm_Ju_judge 85 rfl) rfl ?_
              (try simp (disch := omega) only [jw1, jw2, jw3, jw4, jo10, jo11, jo28, jo30, jo31, jl29, jg31] at c16)
              (try simp (disch := omega) only [jw1, jw2, jw3, jw4, jo10, jo11, jo28, jo30, jo31, jl29, jg31] at c48)
              (try simp (disch := omega) only [jw1, jw2, jw3, jw4, jo10, jo11, jo28, jo30, jo31, jl29, jg31] at c94)
              (try simp (disch := omega) only [jw1, jw2, jw3, jw4, jo10, jo11, jo28, jo30, jo31, jl29, jg31] at c136)
              (try simp (disch := omega) only [jw1, jw2, jw3, jw4, jo10, jo11, jo28, jo30, jo31, jl29, jg31] at c143)
              (try simp (disch := omega) only [jw1, jw2, jw3, jw4, jo10, jo11, jo28, jo30, jo31, jl29, jg31] at c150)
              obtain ⟨q1, ⟨b, o, eB⟩, -⟩ := j3 (by omega) (by omega)
              rw [RG.1, show (1 : Int32) = nI 1 from rfl, show (29 : Int32) = nI 29 from rfl, nI_sb (by omega) (by omega), nI_sb (by omega) (by omega), nI_sb (by omega) (by omega)]
              have e9 := (RG.2 (q - 1 - (op - 29)) (by omega)).1
              rw [eB] at e9
              have hva : h ((Φ (60 * m' + i)).1 (q - 1 - (op - 29))) = some (eV (tV b o)) := by
                have := rv_at RO (show q - 1 - (op - 29) < 14 by omega)
                rw [e9] at this
                exact this
              refine gi_callv 1 (q := 171) C (dm_Ju_judge 86 rfl) rfl my_Ro_valueAt lk_Ju_41 im_Ro_valueAt rfl (c_Ro_valueAt (j := q - 1 - (op - 29)) (by omega) (by omega) RO) RO.1 rfl rfl ⟨(Nat.le_of_ble_eq_true rfl), (Nat.le_of_ble_eq_true rfl)⟩ (Nat.le_of_ble_eq_true rfl) ⟨(Nat.le_of_ble_eq_true rfl), (Nat.le_of_ble_eq_true rfl)⟩ (fun r168 n168 h168 e168 => ?_)
              obtain ⟨rfl, q168, u168⟩ := e168
              rw [q168, u168]
              refine gi_astore (q := 173) C (dm_Ju_judge 87 rfl) rfl (Nat.le_of_ble_eq_true rfl) ?_
              refine gi_aload (q := 175) C (dm_Ju_judge 88 rfl) rfl rfl ?_
              refine gi_get (q := 178) C (dm_Ju_judge 89 rfl) rfl fl_Ju_62 (by first | exact hju0 | exact RO.1 | exact hv | exact hva) rfl ?_
              refine gi_if_ne (q := 181) (tgt := 185) C (dm_Ju_judge 90 rfl) rfl (by decide) (fun c178 => ?_) (fun c178 => ?_)
              · refine gi_aload (q := 187) C (dm_Ju_judge 93 rfl) rfl rfl ?_
                refine gi_get (q := 190) C (dm_Ju_judge 94 rfl) rfl fl_Ju_65 (by first | exact hju0 | exact RO.1 | exact hv | exact hva) rfl ?_
                refine gi_if_ne (q := 193) (tgt := 197) C (dm_Ju_judge 95 rfl) rfl (by decide) (fun c190 => ?_) (fun c190 => ?_)
                · refine gi_iconst (q := 198) (v := 2) C (dm_Ju_judge 98 rfl) rfl (by decide) ?_
                  refine gi_iret C hr9 (dm_Ju_judge 99 rfl) ?_
                  (try simp (disch := omega) only [jw1, jw2, jw3, jw4, jo10, jo11, jo28, jo30, jo31, jl29, jg31] at c16)
                  (try simp (disch := omega) only [jw1, jw2, jw3, jw4, jo10, jo11, jo28, jo30, jo31, jl29, jg31] at c48)
                  (try simp (disch := omega) only [jw1, jw2, jw3, jw4, jo10, jo11, jo28, jo30, jo31, jl29, jg31] at c94)
                  (try simp (disch := omega) only [jw1, jw2, jw3, jw4, jo10, jo11, jo28, jo30, jo31, jl29, jg31] at c136)
                  (try simp (disch := omega) only [jw1, jw2, jw3, jw4, jo10, jo11, jo28, jo30, jo31, jl29, jg31] at c143)
                  (try simp (disch := omega) only [jw1, jw2, jw3, jw4, jo10, jo11, jo28, jo30, jo31, jl29, jg31] at c150)
                  (try simp (disch := omega) only [jw1, jw2, jw3, jw4, jo10, jo11, jo28, jo30, jo31, jl29, jg31] at c178)
                  (try simp (disch := omega) only [jw1, jw2, jw3, jw4, jo10, jo11, jo28, jo30, jo31, jl29, jg31] at c190)
                  refine ⟨?_, rfl, rfl⟩
                  rw [ea]
                  unfold jdR
                  rw [if_neg (by omega), if_neg (by omega), if_pos (by omega), eB]
                  show some (Value.int _) = some (Value.int (nuJ b o))
                  unfold nuJ
                  first
                    | (rw [if_pos (bI_fa c178)]; done)
                    | (rw [if_neg (by rw [bI_t c178]; decide), if_pos c190]; done)
                    | (rw [if_neg (by rw [bI_t c178]; decide), if_neg c190]; done)
                · refine gi_iconst (q := 194) (v := 3) C (dm_Ju_judge 96 rfl) rfl (by decide) ?_
                  refine gi_goto (tgt := 198) C (dm_Ju_judge 97 rfl) (by decide) ?_
                  refine gi_iret C hr9 (dm_Ju_judge 99 rfl) ?_
                  (try simp (disch := omega) only [jw1, jw2, jw3, jw4, jo10, jo11, jo28, jo30, jo31, jl29, jg31] at c16)
                  (try simp (disch := omega) only [jw1, jw2, jw3, jw4, jo10, jo11, jo28, jo30, jo31, jl29, jg31] at c48)
                  (try simp (disch := omega) only [jw1, jw2, jw3, jw4, jo10, jo11, jo28, jo30, jo31, jl29, jg31] at c94)
                  (try simp (disch := omega) only [jw1, jw2, jw3, jw4, jo10, jo11, jo28, jo30, jo31, jl29, jg31] at c136)
                  (try simp (disch := omega) only [jw1, jw2, jw3, jw4, jo10, jo11, jo28, jo30, jo31, jl29, jg31] at c143)
                  (try simp (disch := omega) only [jw1, jw2, jw3, jw4, jo10, jo11, jo28, jo30, jo31, jl29, jg31] at c150)
                  (try simp (disch := omega) only [jw1, jw2, jw3, jw4, jo10, jo11, jo28, jo30, jo31, jl29, jg31] at c178)
                  (try simp (disch := omega) only [jw1, jw2, jw3, jw4, jo10, jo11, jo28, jo30, jo31, jl29, jg31] at c190)
                  refine ⟨?_, rfl, rfl⟩
                  rw [ea]
                  unfold jdR
                  rw [if_neg (by omega), if_neg (by omega), if_pos (by omega), eB]
                  show some (Value.int _) = some (Value.int (nuJ b o))
                  unfold nuJ
                  first
                    | (rw [if_pos (bI_fa c178)]; done)
                    | (rw [if_neg (by rw [bI_t c178]; decide), if_pos c190]; done)
                    | (rw [if_neg (by rw [bI_t c178]; decide), if_neg c190]; done)
              · refine gi_iconst (q := 182) (v := 1) C (dm_Ju_judge 91 rfl) rfl (by decide) ?_
                refine gi_goto (tgt := 198) C (dm_Ju_judge 92 rfl) (by decide) ?_
                refine gi_iret C hr9 (dm_Ju_judge 99 rfl) ?_
                (try simp (disch := omega) only [jw1, jw2, jw3, jw4, jo10, jo11, jo28, jo30, jo31, jl29, jg31] at c16)
                (try simp (disch := omega) only [jw1, jw2, jw3, jw4, jo10, jo11, jo28, jo30, jo31, jl29, jg31] at c48)
                (try simp (disch := omega) only [jw1, jw2, jw3, jw4, jo10, jo11, jo28, jo30, jo31, jl29, jg31] at c94)
                (try simp (disch := omega) only [jw1, jw2, jw3, jw4, jo10, jo11, jo28, jo30, jo31, jl29, jg31] at c136)
                (try simp (disch := omega) only [jw1, jw2, jw3, jw4, jo10, jo11, jo28, jo30, jo31, jl29, jg31] at c143)
                (try simp (disch := omega) only [jw1, jw2, jw3, jw4, jo10, jo11, jo28, jo30, jo31, jl29, jg31] at c150)
                (try simp (disch := omega) only [jw1, jw2, jw3, jw4, jo10, jo11, jo28, jo30, jo31, jl29, jg31] at c178)
                refine ⟨?_, rfl, rfl⟩
                rw [ea]
                unfold jdR
                rw [if_neg (by omega), if_neg (by omega), if_pos (by omega), eB]
                show some (Value.int _) = some (Value.int (nuJ b o))
                unfold nuJ
                first
                  | (rw [if_pos (bI_fa c178)]; done)
                  | (rw [if_neg (by rw [bI_t c178]; decide), if_pos c190]; done)
                  | (rw [if_neg (by rw [bI_t c178]; decide), if_neg c190]; done)
      · refine gi_iload (q := 99) C (dm_Ju_judge 49 rfl) rfl rfl ?_
        refine gi_bipush (q := 101) (v := 28) C (dm_Ju_judge 50 rfl) rfl (by decide) ?_
        refine gi_icmp_ne (q := 104) (tgt := 134) C (dm_Ju_judge 51 rfl) rfl (by decide) (fun c101 => ?_) (fun c101 => ?_)
        · refine gi_iload_n (q := 135) (i := 3) C (dm_Ju_judge 68 rfl) rfl rfl rfl ?_
          refine gi_iconst (q := 136) (v := 2) C (dm_Ju_judge 69 rfl) rfl (by decide) ?_
          refine gi_icmp_ne (q := 139) (tgt := 199) C (dm_Ju_judge 70 rfl) rfl (by decide) (fun c136 => ?_) (fun c136 => ?_)
          · refine gi_iload_n (q := 200) (i := 3) C (dm_Ju_judge 100 rfl) rfl rfl rfl ?_
            refine gi_iconst (q := 201) (v := 3) C (dm_Ju_judge 101 rfl) rfl (by decide) ?_
            refine gi_icmp_ne (q := 204) (tgt := 254) C (dm_Ju_judge 102 rfl) rfl (by decide) (fun c201 => ?_) (fun c201 => ?_)
            · refine gi_iconst (q := 255) (v := 1) C (dm_Ju_judge 129 rfl) rfl (by decide) ?_
              refine gi_iret C hr9 (dm_Ju_judge 130 rfl) ?_
              (try simp (disch := omega) only [jw1, jw2, jw3, jw4, jo10, jo11, jo28, jo30, jo31, jl29, jg31] at c16)
              (try simp (disch := omega) only [jw1, jw2, jw3, jw4, jo10, jo11, jo28, jo30, jo31, jl29, jg31] at c48)
              (try simp (disch := omega) only [jw1, jw2, jw3, jw4, jo10, jo11, jo28, jo30, jo31, jl29, jg31] at c94)
              (try simp (disch := omega) only [jw1, jw2, jw3, jw4, jo10, jo11, jo28, jo30, jo31, jl29, jg31] at c101)
              (try simp (disch := omega) only [jw1, jw2, jw3, jw4, jo10, jo11, jo28, jo30, jo31, jl29, jg31] at c136)
              (try simp (disch := omega) only [jw1, jw2, jw3, jw4, jo10, jo11, jo28, jo30, jo31, jl29, jg31] at c201)
              refine ⟨?_, rfl, rfl⟩
              rw [ea]
              unfold jdR
              rw [if_neg (by omega), if_neg (by omega), if_neg (by omega), if_neg (by omega)]
            · refine gi_iload (q := 206) C (dm_Ju_judge 103 rfl) rfl rfl ?_
              refine gi_bipush (q := 208) (v := 30) C (dm_Ju_judge 104 rfl) rfl (by decide) ?_
              refine gi_icmp_eq (q := 211) (tgt := 218) C (dm_Ju_judge 105 rfl) rfl (by decide) (fun c208 => ?_) (fun c208 => ?_)
              · refine gi_aload (q := 220) C (dm_Ju_judge 109 rfl) rfl rfl ?_
                refine gi_get (q := 223) C (dm_Ju_judge 110 rfl) rfl fl_Ju_37 (by first | exact hju0 | exact RO.1 | exact hv | exact hva) rfl ?_
                refine gi_iconst (q := 224) (v := 1) C (dm_Ju_judge 111 rfl) rfl (by decide) ?_
                refine gi_isub (q := 225) C (dm_Ju_judge 112 rfl) rfl ?_
                refine gi_iload (q := 227) C (dm_Ju_judge 113 rfl) rfl rfl ?_
                refine gi_bipush (q := 229) (v := 30) C (dm_Ju_judge 114 rfl) rfl (by decide) ?_
                refine gi_isub (q := 230) C (dm_Ju_judge 115 rfl) rfl ?_
                refine gi_isub (q := 231) C (dm_Ju_judge 116 rfl) rfl ?_
                (try simp (disch := omega) only [jw1, jw2, jw3, jw4, jo10, jo11, jo28, jo30, jo31, jl29, jg31] at c16)
                (try simp (disch := omega) only [jw1, jw2, jw3, jw4, jo10, jo11, jo28, jo30, jo31, jl29, jg31] at c48)
                (try simp (disch := omega) only [jw1, jw2, jw3, jw4, jo10, jo11, jo28, jo30, jo31, jl29, jg31] at c94)
                (try simp (disch := omega) only [jw1, jw2, jw3, jw4, jo10, jo11, jo28, jo30, jo31, jl29, jg31] at c101)
                (try simp (disch := omega) only [jw1, jw2, jw3, jw4, jo10, jo11, jo28, jo30, jo31, jl29, jg31] at c136)
                (try simp (disch := omega) only [jw1, jw2, jw3, jw4, jo10, jo11, jo28, jo30, jo31, jl29, jg31] at c201)
                (try simp (disch := omega) only [jw1, jw2, jw3, jw4, jo10, jo11, jo28, jo30, jo31, jl29, jg31] at c208)
                obtain ⟨q1, ⟨b, o, eB⟩, fY⟩ := j3 (by omega) (by omega)
                obtain ⟨Y, eY, oY⟩ := fY (by omega)
                rw [RG.1, show (1 : Int32) = nI 1 from rfl, show (30 : Int32) = nI 30 from rfl, nI_sb (by omega) (by omega), nI_sb (by omega) (by omega), nI_sb (by omega) (by omega)]
                have e9 := (RG.2 (q - 1 - (op - 29)) (by omega)).1
                rw [eB] at e9
                have hva : h ((Φ (60 * m' + i)).1 (q - 1 - (op - 29))) = some (eV (tV b o)) := by
                  have := rv_at RO (show q - 1 - (op - 29) < 14 by omega)
                  rw [e9] at this
                  exact this
                have e8 := (RG.2 (q - 1 - (op - 30)) (by omega)).1
                rw [eY] at e8
                have hvi : h ((Φ (60 * m' + i)).1 (q - 1 - (op - 30))) = some (eV (sV Y)) := by
                  have := rv_at RO (show q - 1 - (op - 30) < 14 by omega)
                  rw [e8] at this
                  exact this
                have e7 : q - 1 - (op - 30) - 1 = q - 1 - (op - 29) := by omega
                refine gi_istore (q := 233) C (dm_Ju_judge 117 rfl) rfl (Nat.le_of_ble_eq_true rfl) ?_
                refine gi_aload_n (q := 234) (i := 0) C (dm_Ju_judge 118 rfl) rfl rfl rfl ?_
                refine gi_aload (q := 236) C (dm_Ju_judge 119 rfl) rfl rfl ?_
                refine gi_iload (q := 238) C (dm_Ju_judge 120 rfl) rfl rfl ?_
                refine gi_iconst (q := 239) (v := 1) C (dm_Ju_judge 121 rfl) rfl (by decide) ?_
                refine gi_isub (q := 240) C (dm_Ju_judge 122 rfl) rfl ?_
                rw [show (1 : Int32) = nI 1 from rfl, nI_sb (by omega) (by omega), e7]
                refine gi_callv 1 (q := 243) C (dm_Ju_judge 123 rfl) rfl my_Ro_valueAt lk_Ju_41 im_Ro_valueAt rfl (c_Ro_valueAt (j := q - 1 - (op - 29)) (by omega) (by omega) RO) RO.1 rfl rfl ⟨(Nat.le_of_ble_eq_true rfl), (Nat.le_of_ble_eq_true rfl)⟩ (Nat.le_of_ble_eq_true rfl) ⟨(Nat.le_of_ble_eq_true rfl), (Nat.le_of_ble_eq_true rfl)⟩ (fun r240 n240 h240 e240 => ?_)
                obtain ⟨rfl, q240, u240⟩ := e240
                rw [q240, u240]
                refine gi_aload (q := 245) C (dm_Ju_judge 124 rfl) rfl rfl ?_
                refine gi_iload (q := 247) C (dm_Ju_judge 125 rfl) rfl rfl ?_
                refine gi_callv 1 (q := 250) C (dm_Ju_judge 126 rfl) rfl my_Ro_valueAt lk_Ju_41 im_Ro_valueAt rfl (c_Ro_valueAt (j := q - 1 - (op - 30)) (by omega) (by omega) RO) RO.1 rfl rfl ⟨(Nat.le_of_ble_eq_true rfl), (Nat.le_of_ble_eq_true rfl)⟩ (Nat.le_of_ble_eq_true rfl) ⟨(Nat.le_of_ble_eq_true rfl), (Nat.le_of_ble_eq_true rfl)⟩ (fun r247 n247 h247 e247 => ?_)
                obtain ⟨rfl, q247, u247⟩ := e247
                rw [q247, u247]
                refine gi_callv 2 (q := 253) C (dm_Ju_judge 127 rfl) rfl my_Ju_judgeIndex lk_Ju_68 im_Ju_judgeIndex rfl (c_Ju_judgeIndex b o Y _ _ hr hju0 HC R hva hvi oY) hju0 rfl rfl ⟨(Nat.le_of_ble_eq_true rfl), (Nat.le_of_ble_eq_true rfl)⟩ (Nat.le_of_ble_eq_true rfl) ⟨(Nat.le_of_ble_eq_true rfl), (Nat.le_of_ble_eq_true rfl)⟩ (fun r250 n250 h250 e250 => ?_)
                obtain ⟨rfl, q250, u250⟩ := e250
                rw [q250, u250]
                refine gi_iret C hr9 (dm_Ju_judge 128 rfl) ?_
                (try simp (disch := omega) only [jw1, jw2, jw3, jw4, jo10, jo11, jo28, jo30, jo31, jl29, jg31] at c16)
                (try simp (disch := omega) only [jw1, jw2, jw3, jw4, jo10, jo11, jo28, jo30, jo31, jl29, jg31] at c48)
                (try simp (disch := omega) only [jw1, jw2, jw3, jw4, jo10, jo11, jo28, jo30, jo31, jl29, jg31] at c94)
                (try simp (disch := omega) only [jw1, jw2, jw3, jw4, jo10, jo11, jo28, jo30, jo31, jl29, jg31] at c101)
                (try simp (disch := omega) only [jw1, jw2, jw3, jw4, jo10, jo11, jo28, jo30, jo31, jl29, jg31] at c136)
                (try simp (disch := omega) only [jw1, jw2, jw3, jw4, jo10, jo11, jo28, jo30, jo31, jl29, jg31] at c201)
                (try simp (disch := omega) only [jw1, jw2, jw3, jw4, jo10, jo11, jo28, jo30, jo31, jl29, jg31] at c208)
                refine ⟨?_, rfl, rfl⟩
                rw [ea]
                unfold jdR
                rw [if_neg (by omega), if_neg (by omega), if_neg (by omega), if_pos (by omega), e7, eB, eY]
                rfl
              · refine gi_iload (q := 213) C (dm_Ju_judge 106 rfl) rfl rfl ?_
                refine gi_bipush (q := 215) (v := 31) C (dm_Ju_judge 107 rfl) rfl (by decide) ?_
                refine gi_icmp_ne (q := 218) (tgt := 254) C (dm_Ju_judge 108 rfl) rfl (by decide) (fun c215 => ?_) (fun c215 => ?_)
                · refine gi_iconst (q := 255) (v := 1) C (dm_Ju_judge 129 rfl) rfl (by decide) ?_
                  refine gi_iret C hr9 (dm_Ju_judge 130 rfl) ?_
                  (try simp (disch := omega) only [jw1, jw2, jw3, jw4, jo10, jo11, jo28, jo30, jo31, jl29, jg31] at c16)
                  (try simp (disch := omega) only [jw1, jw2, jw3, jw4, jo10, jo11, jo28, jo30, jo31, jl29, jg31] at c48)
                  (try simp (disch := omega) only [jw1, jw2, jw3, jw4, jo10, jo11, jo28, jo30, jo31, jl29, jg31] at c94)
                  (try simp (disch := omega) only [jw1, jw2, jw3, jw4, jo10, jo11, jo28, jo30, jo31, jl29, jg31] at c101)
                  (try simp (disch := omega) only [jw1, jw2, jw3, jw4, jo10, jo11, jo28, jo30, jo31, jl29, jg31] at c136)
                  (try simp (disch := omega) only [jw1, jw2, jw3, jw4, jo10, jo11, jo28, jo30, jo31, jl29, jg31] at c201)
                  (try simp (disch := omega) only [jw1, jw2, jw3, jw4, jo10, jo11, jo28, jo30, jo31, jl29, jg31] at c208)
                  (try simp (disch := omega) only [jw1, jw2, jw3, jw4, jo10, jo11, jo28, jo30, jo31, jl29, jg31] at c215)
                  refine ⟨?_, rfl, rfl⟩
                  rw [ea]
                  unfold jdR
                  rw [if_neg (by omega), if_neg (by omega), if_neg (by omega), if_neg (by omega)]
                · refine gi_aload (q := 220) C (dm_Ju_judge 109 rfl) rfl rfl ?_
                  refine gi_get (q := 223) C (dm_Ju_judge 110 rfl) rfl fl_Ju_37 (by first | exact hju0 | exact RO.1 | exact hv | exact hva) rfl ?_
                  refine gi_iconst (q := 224) (v := 1) C (dm_Ju_judge 111 rfl) rfl (by decide) ?_
                  refine gi_isub (q := 225) C (dm_Ju_judge 112 rfl) rfl ?_
                  refine gi_iload (q := 227) C (dm_Ju_judge 113 rfl) rfl rfl ?_
                  refine gi_bipush (q := 229) (v := 30) C (dm_Ju_judge 114 rfl) rfl (by decide) ?_
                  refine gi_isub (q := 230) C (dm_Ju_judge 115 rfl) rfl ?_
                  refine gi_isub (q := 231) C (dm_Ju_judge 116 rfl) rfl ?_
                  (try simp (disch := omega) only [jw1, jw2, jw3, jw4, jo10, jo11, jo28, jo30, jo31, jl29, jg31] at c16)
                  (try simp (disch := omega) only [jw1, jw2, jw3, jw4, jo10, jo11, jo28, jo30, jo31, jl29, jg31] at c48)
                  (try simp (disch := omega) only [jw1, jw2, jw3, jw4, jo10, jo11, jo28, jo30, jo31, jl29, jg31] at c94)
                  (try simp (disch := omega) only [jw1, jw2, jw3, jw4, jo10, jo11, jo28, jo30, jo31, jl29, jg31] at c101)
                  (try simp (disch := omega) only [jw1, jw2, jw3, jw4, jo10, jo11, jo28, jo30, jo31, jl29, jg31] at c136)
                  (try simp (disch := omega) only [jw1, jw2, jw3, jw4, jo10, jo11, jo28, jo30, jo31, jl29, jg31] at c201)
                  (try simp (disch := omega) only [jw1, jw2, jw3, jw4, jo10, jo11, jo28, jo30, jo31, jl29, jg31] at c208)
                  (try simp (disch := omega) only [jw1, jw2, jw3, jw4, jo10, jo11, jo28, jo30, jo31, jl29, jg31] at c215)
                  obtain ⟨q1, ⟨b, o, eB⟩, fY⟩ := j3 (by omega) (by omega)
                  obtain ⟨Y, eY, oY⟩ := fY (by omega)
                  rw [RG.1, show (1 : Int32) = nI 1 from rfl, show (30 : Int32) = nI 30 from rfl, nI_sb (by omega) (by omega), nI_sb (by omega) (by omega), nI_sb (by omega) (by omega)]
                  have e9 := (RG.2 (q - 1 - (op - 29)) (by omega)).1
                  rw [eB] at e9
                  have hva : h ((Φ (60 * m' + i)).1 (q - 1 - (op - 29))) = some (eV (tV b o)) := by
                    have := rv_at RO (show q - 1 - (op - 29) < 14 by omega)
                    rw [e9] at this
                    exact this
                  have e8 := (RG.2 (q - 1 - (op - 30)) (by omega)).1
                  rw [eY] at e8
                  have hvi : h ((Φ (60 * m' + i)).1 (q - 1 - (op - 30))) = some (eV (sV Y)) := by
                    have := rv_at RO (show q - 1 - (op - 30) < 14 by omega)
                    rw [e8] at this
                    exact this
                  have e7 : q - 1 - (op - 30) - 1 = q - 1 - (op - 29) := by omega
                  refine gi_istore (q := 233) C (dm_Ju_judge 117 rfl) rfl (Nat.le_of_ble_eq_true rfl) ?_
                  refine gi_aload_n (q := 234) (i := 0) C (dm_Ju_judge 118 rfl) rfl rfl rfl ?_
                  refine gi_aload (q := 236) C (dm_Ju_judge 119 rfl) rfl rfl ?_
                  refine gi_iload (q := 238) C (dm_Ju_judge 120 rfl) rfl rfl ?_
                  refine gi_iconst (q := 239) (v := 1) C (dm_Ju_judge 121 rfl) rfl (by decide) ?_
                  refine gi_isub (q := 240) C (dm_Ju_judge 122 rfl) rfl ?_
                  rw [show (1 : Int32) = nI 1 from rfl, nI_sb (by omega) (by omega), e7]
                  refine gi_callv 1 (q := 243) C (dm_Ju_judge 123 rfl) rfl my_Ro_valueAt lk_Ju_41 im_Ro_valueAt rfl (c_Ro_valueAt (j := q - 1 - (op - 29)) (by omega) (by omega) RO) RO.1 rfl rfl ⟨(Nat.le_of_ble_eq_true rfl), (Nat.le_of_ble_eq_true rfl)⟩ (Nat.le_of_ble_eq_true rfl) ⟨(Nat.le_of_ble_eq_true rfl), (Nat.le_of_ble_eq_true rfl)⟩ (fun r240 n240 h240 e240 => ?_)
                  obtain ⟨rfl, q240, u240⟩ := e240
                  rw [q240, u240]
                  refine gi_aload (q := 245) C (dm_Ju_judge 124 rfl) rfl rfl ?_
                  refine gi_iload (q := 247) C (dm_Ju_judge 125 rfl) rfl rfl ?_
                  refine gi_callv 1 (q := 250) C (dm_Ju_judge 126 rfl) rfl my_Ro_valueAt lk_Ju_41 im_Ro_valueAt rfl (c_Ro_valueAt (j := q - 1 - (op - 30)) (by omega) (by omega) RO) RO.1 rfl rfl ⟨(Nat.le_of_ble_eq_true rfl), (Nat.le_of_ble_eq_true rfl)⟩ (Nat.le_of_ble_eq_true rfl) ⟨(Nat.le_of_ble_eq_true rfl), (Nat.le_of_ble_eq_true rfl)⟩ (fun r247 n247 h247 e247 => ?_)
                  obtain ⟨rfl, q247, u247⟩ := e247
                  rw [q247, u247]
                  refine gi_callv 2 (q := 253) C (dm_Ju_judge 127 rfl) rfl my_Ju_judgeIndex lk_Ju_68 im_Ju_judgeIndex rfl (c_Ju_judgeIndex b o Y _ _ hr hju0 HC R hva hvi oY) hju0 rfl rfl ⟨(Nat.le_of_ble_eq_true rfl), (Nat.le_of_ble_eq_true rfl)⟩ (Nat.le_of_ble_eq_true rfl) ⟨(Nat.le_of_ble_eq_true rfl), (Nat.le_of_ble_eq_true rfl)⟩ (fun r250 n250 h250 e250 => ?_)
                  obtain ⟨rfl, q250, u250⟩ := e250
                  rw [q250, u250]
                  refine gi_iret C hr9 (dm_Ju_judge 128 rfl) ?_
                  (try simp (disch := omega) only [jw1, jw2, jw3, jw4, jo10, jo11, jo28, jo30, jo31, jl29, jg31] at c16)
                  (try simp (disch := omega) only [jw1, jw2, jw3, jw4, jo10, jo11, jo28, jo30, jo31, jl29, jg31] at c48)
                  (try simp (disch := omega) only [jw1, jw2, jw3, jw4, jo10, jo11, jo28, jo30, jo31, jl29, jg31] at c94)
                  (try simp (disch := omega) only [jw1, jw2, jw3, jw4, jo10, jo11, jo28, jo30, jo31, jl29, jg31] at c101)
                  (try simp (disch := omega) only [jw1, jw2, jw3, jw4, jo10, jo11, jo28, jo30, jo31, jl29, jg31] at c136)
                  (try simp (disch := omega) only [jw1, jw2, jw3, jw4, jo10, jo11, jo28, jo30, jo31, jl29, jg31] at c201)
                  (try simp (disch := omega) only [jw1, jw2, jw3, jw4, jo10, jo11, jo28, jo30, jo31, jl29, jg31] at c208)
                  (try simp (disch := omega) only [jw1, jw2, jw3, jw4, jo10, jo11, jo28, jo30, jo31, jl29, jg31] at c215)
                  refine ⟨?_, rfl, rfl⟩
                  rw [ea]
                  unfold jdR
                  rw [if_neg (by omega), if_neg (by omega), if_neg (by omega), if_pos (by omega), e7, eB, eY]
                  rfl
          · refine gi_iload (q := 141) C (dm_Ju_judge 71 rfl) rfl rfl ?_
            refine gi_bipush (q := 143) (v := 29) C (dm_Ju_judge 72 rfl) rfl (by decide) ?_
            refine gi_icmp_lt (q := 146) (tgt := 199) C (dm_Ju_judge 73 rfl) rfl (by decide) (fun c143 => ?_) (fun c143 => ?_)
            · refine gi_iload_n (q := 200) (i := 3) C (dm_Ju_judge 100 rfl) rfl rfl rfl ?_
              refine gi_iconst (q := 201) (v := 3) C (dm_Ju_judge 101 rfl) rfl (by decide) ?_
              refine gi_icmp_ne (q := 204) (tgt := 254) C (dm_Ju_judge 102 rfl) rfl (by decide) (fun c201 => ?_) (fun c201 => ?_)
              · refine gi_iconst (q := 255) (v := 1) C (dm_Ju_judge 129 rfl) rfl (by decide) ?_
                refine gi_iret C hr9 (dm_Ju_judge 130 rfl) ?_
                (try simp (disch := omega) only [jw1, jw2, jw3, jw4, jo10, jo11, jo28, jo30, jo31, jl29, jg31] at c16)
                (try simp (disch := omega) only [jw1, jw2, jw3, jw4, jo10, jo11, jo28, jo30, jo31, jl29, jg31] at c48)
                (try simp (disch := omega) only [jw1, jw2, jw3, jw4, jo10, jo11, jo28, jo30, jo31, jl29, jg31] at c94)
                (try simp (disch := omega) only [jw1, jw2, jw3, jw4, jo10, jo11, jo28, jo30, jo31, jl29, jg31] at c101)
                (try simp (disch := omega) only [jw1, jw2, jw3, jw4, jo10, jo11, jo28, jo30, jo31, jl29, jg31] at c136)
                (try simp (disch := omega) only [jw1, jw2, jw3, jw4, jo10, jo11, jo28, jo30, jo31, jl29, jg31] at c143)
                (try simp (disch := omega) only [jw1, jw2, jw3, jw4, jo10, jo11, jo28, jo30, jo31, jl29, jg31] at c201)
                refine ⟨?_, rfl, rfl⟩
                rw [ea]
                unfold jdR
                rw [if_neg (by omega), if_neg (by omega), if_neg (by omega), if_neg (by omega)]
              · refine gi_iload (q := 206) C (dm_Ju_judge 103 rfl) rfl rfl ?_
                refine gi_bipush (q := 208) (v := 30) C (dm_Ju_judge 104 rfl) rfl (by decide) ?_
                refine gi_icmp_eq (q := 211) (tgt := 218) C (dm_Ju_judge 105 rfl) rfl (by decide) (fun c208 => ?_) (fun c208 => ?_)
                · refine gi_aload (q := 220) C (dm_Ju_judge 109 rfl) rfl rfl ?_
                  refine gi_get (q := 223) C (dm_Ju_judge 110 rfl) rfl fl_Ju_37 (by first | exact hju0 | exact RO.1 | exact hv | exact hva) rfl ?_
                  refine gi_iconst (q := 224) (v := 1) C (dm_Ju_judge 111 rfl) rfl (by decide) ?_
                  refine gi_isub (q := 225) C (dm_Ju_judge 112 rfl) rfl ?_
                  refine gi_iload (q := 227) C (dm_Ju_judge 113 rfl) rfl rfl ?_
                  refine gi_bipush (q := 229) (v := 30) C (dm_Ju_judge 114 rfl) rfl (by decide) ?_
                  refine gi_isub (q := 230) C (dm_Ju_judge 115 rfl) rfl ?_
                  refine gi_isub (q := 231) C (dm_Ju_judge 116 rfl) rfl ?_
                  (try simp (disch := omega) only [jw1, jw2, jw3, jw4, jo10, jo11, jo28, jo30, jo31, jl29, jg31] at c16)
                  (try simp (disch := omega) only [jw1, jw2, jw3, jw4, jo10, jo11, jo28, jo30, jo31, jl29, jg31] at c48)
                  (try simp (disch := omega) only [jw1, jw2, jw3, jw4, jo10, jo11, jo28, jo30, jo31, jl29, jg31] at c94)
                  (try simp (disch := omega) only [jw1, jw2, jw3, jw4, jo10, jo11, jo28, jo30, jo31, jl29, jg31] at c101)
                  (try simp (disch := omega) only [jw1, jw2, jw3, jw4, jo10, jo11, jo28, jo30, jo31, jl29, jg31] at c136)
                  (try simp (disch := omega) only [jw1, jw2, jw3, jw4, jo10, jo11, jo28, jo30, jo31, jl29, jg31] at c143)
                  (try simp (disch := omega) only [jw1, jw2, jw3, jw4, jo10, jo11, jo28, jo30, jo31, jl29, jg31] at c201)
                  (try simp (disch := omega) only [jw1, jw2, jw3, jw4, jo10, jo11, jo28, jo30, jo31, jl29, jg31] at c208)
                  obtain ⟨q1, ⟨b, o, eB⟩, fY⟩ := j3 (by omega) (by omega)
                  obtain ⟨Y, eY, oY⟩ := fY (by omega)
                  rw [RG.1, show (1 : Int32) = nI 1 from rfl, show (30 : Int32) = nI 30 from rfl, nI_sb (by omega) (by omega), nI_sb (by omega) (by omega), nI_sb (by omega) (by omega)]
                  have e9 := (RG.2 (q - 1 - (op - 29)) (by omega)).1
                  rw [eB] at e9
                  have hva : h ((Φ (60 * m' + i)).1 (q - 1 - (op - 29))) = some (eV (tV b o)) := by
                    have := rv_at RO (show q - 1 - (op - 29) < 14 by omega)
                    rw [e9] at this
                    exact this
                  have e8 := (RG.2 (q - 1 - (op - 30)) (by omega)).1
                  rw [eY] at e8
                  have hvi : h ((Φ (60 * m' + i)).1 (q - 1 - (op - 30))) = some (eV (sV Y)) := by
                    have := rv_at RO (show q - 1 - (op - 30) < 14 by omega)
                    rw [e8] at this
                    exact this
                  have e7 : q - 1 - (op - 30) - 1 = q - 1 - (op - 29) := by omega
                  refine gi_istore (q := 233) C (dm_Ju_judge 117 rfl) rfl (Nat.le_of_ble_eq_true rfl) ?_
                  refine gi_aload_n (q := 234) (i := 0) C (dm_Ju_judge 118 rfl) rfl rfl rfl ?_
                  refine gi_aload (q := 236) C (dm_Ju_judge 119 rfl) rfl rfl ?_
                  refine gi_iload (q := 238) C (dm_Ju_judge 120 rfl) rfl rfl ?_
                  refine gi_iconst (q := 239) (v := 1) C (dm_Ju_judge 121 rfl) rfl (by decide) ?_
                  refine gi_isub (q := 240) C (dm_Ju_judge 122 rfl) rfl ?_
                  rw [show (1 : Int32) = nI 1 from rfl, nI_sb (by omega) (by omega), e7]
                  refine gi_callv 1 (q := 243) C (dm_Ju_judge 123 rfl) rfl my_Ro_valueAt lk_Ju_41 im_Ro_valueAt rfl (c_Ro_valueAt (j := q - 1 - (op - 29)) (by omega) (by omega) RO) RO.1 rfl rfl ⟨(Nat.le_of_ble_eq_true rfl), (Nat.le_of_ble_eq_true rfl)⟩ (Nat.le_of_ble_eq_true rfl) ⟨(Nat.le_of_ble_eq_true rfl), (Nat.le_of_ble_eq_true rfl)⟩ (fun r240 n240 h240 e240 => ?_)
                  obtain ⟨rfl, q240, u240⟩ := e240
                  rw [q240, u240]
                  refine gi_aload (q := 245) C (dm_Ju_judge 124 rfl) rfl rfl ?_
                  refine gi_iload (q := 247) C (dm_Ju_judge 125 rfl) rfl rfl ?_
                  refine gi_callv 1 (q := 250) C (dm_Ju_judge 126 rfl) rfl my_Ro_valueAt lk_Ju_41 im_Ro_valueAt rfl (c_Ro_valueAt (j := q - 1 - (op - 30)) (by omega) (by omega) RO) RO.1 rfl rfl ⟨(Nat.le_of_ble_eq_true rfl), (Nat.le_of_ble_eq_true rfl)⟩ (Nat.le_of_ble_eq_true rfl) ⟨(Nat.le_of_ble_eq_true rfl), (Nat.le_of_ble_eq_true rfl)⟩ (fun r247 n247 h247 e247 => ?_)
                  obtain ⟨rfl, q247, u247⟩ := e247
                  rw [q247, u247]
                  refine gi_callv 2 (q := 253) C (dm_Ju_judge 127 rfl) rfl my_Ju_judgeIndex lk_Ju_68 im_Ju_judgeIndex rfl (c_Ju_judgeIndex b o Y _ _ hr hju0 HC R hva hvi oY) hju0 rfl rfl ⟨(Nat.le_of_ble_eq_true rfl), (Nat.le_of_ble_eq_true rfl)⟩ (Nat.le_of_ble_eq_true rfl) ⟨(Nat.le_of_ble_eq_true rfl), (Nat.le_of_ble_eq_true rfl)⟩ (fun r250 n250 h250 e250 => ?_)
                  obtain ⟨rfl, q250, u250⟩ := e250
                  rw [q250, u250]
                  refine gi_iret C hr9 (dm_Ju_judge 128 rfl) ?_
                  (try simp (disch := omega) only [jw1, jw2, jw3, jw4, jo10, jo11, jo28, jo30, jo31, jl29, jg31] at c16)
                  (try simp (disch := omega) only [jw1, jw2, jw3, jw4, jo10, jo11, jo28, jo30, jo31, jl29, jg31] at c48)
                  (try simp (disch := omega) only [jw1, jw2, jw3, jw4, jo10, jo11, jo28, jo30, jo31, jl29, jg31] at c94)
                  (try simp (disch := omega) only [jw1, jw2, jw3, jw4, jo10, jo11, jo28, jo30, jo31, jl29, jg31] at c101)
                  (try simp (disch := omega) only [jw1, jw2, jw3, jw4, jo10, jo11, jo28, jo30, jo31, jl29, jg31] at c136)
                  (try simp (disch := omega) only [jw1, jw2, jw3, jw4, jo10, jo11, jo28, jo30, jo31, jl29, jg31] at c143)
                  (try simp (disch := omega) only [jw1, jw2, jw3, jw4, jo10, jo11, jo28, jo30, jo31, jl29, jg31] at c201)
                  (try simp (disch := omega) only [jw1, jw2, jw3, jw4, jo10, jo11, jo28, jo30, jo31, jl29, jg31] at c208)
                  refine ⟨?_, rfl, rfl⟩
                  rw [ea]
                  unfold jdR
                  rw [if_neg (by omega), if_neg (by omega), if_neg (by omega), if_pos (by omega), e7, eB, eY]
                  rfl
                · refine gi_iload (q := 213) C (dm_Ju_judge 106 rfl) rfl rfl ?_
                  refine gi_bipush (q := 215) (v := 31) C (dm_Ju_judge 107 rfl) rfl (by decide) ?_
                  refine gi_icmp_ne (q := 218) (tgt := 254) C (dm_Ju_judge 108 rfl) rfl (by decide) (fun c215 => ?_) (fun c215 => ?_)
                  · refine gi_iconst (q := 255) (v := 1) C (dm_Ju_judge 129 rfl) rfl (by decide) ?_
                    refine gi_iret C hr9 (dm_Ju_judge 130 rfl) ?_
                    (try simp (disch := omega) only [jw1, jw2, jw3, jw4, jo10, jo11, jo28, jo30, jo31, jl29, jg31] at c16)
                    (try simp (disch := omega) only [jw1, jw2, jw3, jw4, jo10, jo11, jo28, jo30, jo31, jl29, jg31] at c48)
                    (try simp (disch := omega) only [jw1, jw2, jw3, jw4, jo10, jo11, jo28, jo30, jo31, jl29, jg31] at c94)
                    (try simp (disch := omega) only [jw1, jw2, jw3, jw4, jo10, jo11, jo28, jo30, jo31, jl29, jg31] at c101)
                    (try simp (disch := omega) only [jw1, jw2, jw3, jw4, jo10, jo11, jo28, jo30, jo31, jl29, jg31] at c136)
                    (try simp (disch := omega) only [jw1, jw2, jw3, jw4, jo10, jo11, jo28, jo30, jo31, jl29, jg31] at c143)
                    (try simp (disch := omega) only [jw1, jw2, jw3, jw4, jo10, jo11, jo28, jo30, jo31, jl29, jg31] at c201)
                    (try simp (disch := omega) only [jw1, jw2, jw3, jw4, jo10, jo11, jo28, jo30, jo31, jl29, jg31] at c208)
                    (try simp (disch := omega) only [jw1, jw2, jw3, jw4, jo10, jo11, jo28, jo30, jo31, jl29, jg31] at c215)
                    refine ⟨?_, rfl, rfl⟩
                    rw [ea]
                    unfold jdR
                    rw [if_neg (by omega), if_neg (by omega), if_neg (by omega), if_neg (by omega)]
                  · refine gi_aload (q := 220) C (dm_Ju_judge 109 rfl) rfl rfl ?_
                    refine gi_get (q := 223) C (dm_Ju_judge 110 rfl) rfl fl_Ju_37 (by first | exact hju0 | exact RO.1 | exact hv | exact hva) rfl ?_
                    refine gi_iconst (q := 224) (v := 1) C (dm_Ju_judge 111 rfl) rfl (by decide) ?_
                    refine gi_isub (q := 225) C (dm_Ju_judge 112 rfl) rfl ?_
                    refine gi_iload (q := 227) C (dm_Ju_judge 113 rfl) rfl rfl ?_
                    refine gi_bipush (q := 229) (v := 30) C (dm_Ju_judge 114 rfl) rfl (by decide) ?_
                    refine gi_isub (q := 230) C (dm_Ju_judge 115 rfl) rfl ?_
                    refine gi_isub (q := 231) C (dm_Ju_judge 116 rfl) rfl ?_
                    (try simp (disch := omega) only [jw1, jw2, jw3, jw4, jo10, jo11, jo28, jo30, jo31, jl29, jg31] at c16)
                    (try simp (disch := omega) only [jw1, jw2, jw3, jw4, jo10, jo11, jo28, jo30, jo31, jl29, jg31] at c48)
                    (try simp (disch := omega) only [jw1, jw2, jw3, jw4, jo10, jo11, jo28, jo30, jo31, jl29, jg31] at c94)
                    (try simp (disch := omega) only [jw1, jw2, jw3, jw4, jo10, jo11, jo28, jo30, jo31, jl29, jg31] at c101)
                    (try simp (disch := omega) only [jw1, jw2, jw3, jw4, jo10, jo11, jo28, jo30, jo31, jl29, jg31] at c136)
                    (try simp (disch := omega) only [jw1, jw2, jw3, jw4, jo10, jo11, jo28, jo30, jo31, jl29, jg31] at c143)
                    (try simp (disch := omega) only [jw1, jw2, jw3, jw4, jo10, jo11, jo28, jo30, jo31, jl29, jg31] at c201)
                    (try simp (disch := omega) only [jw1, jw2, jw3, jw4, jo10, jo11, jo28, jo30, jo31, jl29, jg31] at c208)
                    (try simp (disch := omega) only [jw1, jw2, jw3, jw4, jo10, jo11, jo28, jo30, jo31, jl29, jg31] at c215)
                    obtain ⟨q1, ⟨b, o, eB⟩, fY⟩ := j3 (by omega) (by omega)
                    obtain ⟨Y, eY, oY⟩ := fY (by omega)
                    rw [RG.1, show (1 : Int32) = nI 1 from rfl, show (30 : Int32) = nI 30 from rfl, nI_sb (by omega) (by omega), nI_sb (by omega) (by omega), nI_sb (by omega) (by omega)]
                    have e9 := (RG.2 (q - 1 - (op - 29)) (by omega)).1
                    rw [eB] at e9
                    have hva : h ((Φ (60 * m' + i)).1 (q - 1 - (op - 29))) = some (eV (tV b o)) := by
                      have := rv_at RO (show q - 1 - (op - 29) < 14 by omega)
                      rw [e9] at this
                      exact this
                    have e8 := (RG.2 (q - 1 - (op - 30)) (by omega)).1
                    rw [eY] at e8
                    have hvi : h ((Φ (60 * m' + i)).1 (q - 1 - (op - 30))) = some (eV (sV Y)) := by
                      have := rv_at RO (show q - 1 - (op - 30) < 14 by omega)
                      rw [e8] at this
                      exact this
                    have e7 : q - 1 - (op - 30) - 1 = q - 1 - (op - 29) := by omega
                    refine gi_istore (q := 233) C (dm_Ju_judge 117 rfl) rfl (Nat.le_of_ble_eq_true rfl) ?_
                    refine gi_aload_n (q := 234) (i := 0) C (dm_Ju_judge 118 rfl) rfl rfl rfl ?_
                    refine gi_aload (q := 236) C (dm_Ju_judge 119 rfl) rfl rfl ?_
                    refine gi_iload (q := 238) C (dm_Ju_judge 120 rfl) rfl rfl ?_
                    refine gi_iconst (q := 239) (v := 1) C (dm_Ju_judge 121 rfl) rfl (by decide) ?_
                    refine gi_isub (q := 240) C (dm_Ju_judge 122 rfl) rfl ?_
                    rw [show (1 : Int32) = nI 1 from rfl, nI_sb (by omega) (by omega), e7]
                    refine gi_callv 1 (q := 243) C (dm_Ju_judge 123 rfl) rfl my_Ro_valueAt lk_Ju_41 im_Ro_valueAt rfl (c_Ro_valueAt (j := q - 1 - (op - 29)) (by omega) (by omega) RO) RO.1 rfl rfl ⟨(Nat.le_of_ble_eq_true rfl), (Nat.le_of_ble_eq_true rfl)⟩ (Nat.le_of_ble_eq_true rfl) ⟨(Nat.le_of_ble_eq_true rfl), (Nat.le_of_ble_eq_true rfl)⟩ (fun r240 n240 h240 e240 => ?_)
                    obtain ⟨rfl, q240, u240⟩ := e240
                    rw [q240, u240]
                    refine gi_aload (q := 245) C (dm_Ju_judge 124 rfl) rfl rfl ?_
                    refine gi_iload (q := 247) C (dm_Ju_judge 125 rfl) rfl rfl ?_
                    refine gi_callv 1 (q := 250) C (dm_Ju_judge 126 rfl) rfl my_Ro_valueAt lk_Ju_41 im_Ro_valueAt rfl (c_Ro_valueAt (j := q - 1 - (op - 30)) (by omega) (by omega) RO) RO.1 rfl rfl ⟨(Nat.le_of_ble_eq_true rfl), (Nat.le_of_ble_eq_true rfl)⟩ (Nat.le_of_ble_eq_true rfl) ⟨(Nat.le_of_ble_eq_true rfl), (Nat.le_of_ble_eq_true rfl)⟩ (fun r247 n247 h247 e247 => ?_)
                    obtain ⟨rfl, q247, u247⟩ := e247
                    rw [q247, u247]
                    refine gi_callv 2 (q := 253) C (dm_Ju_judge 127 rfl) rfl my_Ju_judgeIndex lk_Ju_68 im_Ju_judgeIndex rfl (c_Ju_judgeIndex b o Y _ _ hr hju0 HC R hva hvi oY) hju0 rfl rfl ⟨(Nat.le_of_ble_eq_true rfl), (Nat.le_of_ble_eq_true rfl)⟩ (Nat.le_of_ble_eq_true rfl) ⟨(Nat.le_of_ble_eq_true rfl), (Nat.le_of_ble_eq_true rfl)⟩ (fun r250 n250 h250 e250 => ?_)
                    obtain ⟨rfl, q250, u250⟩ := e250
                    rw [q250, u250]
                    refine gi_iret C hr9 (dm_Ju_judge 128 rfl) ?_
                    (try simp (disch := omega) only [jw1, jw2, jw3, jw4, jo10, jo11, jo28, jo30, jo31, jl29, jg31] at c16)
                    (try simp (disch := omega) only [jw1, jw2, jw3, jw4, jo10, jo11, jo28, jo30, jo31, jl29, jg31] at c48)
                    (try simp (disch := omega) only [jw1, jw2, jw3, jw4, jo10, jo11, jo28, jo30, jo31, jl29, jg31] at c94)
                    (try simp (disch := omega) only [jw1, jw2, jw3, jw4, jo10, jo11, jo28, jo30, jo31, jl29, jg31] at c101)
                    (try simp (disch := omega) only [jw1, jw2, jw3, jw4, jo10, jo11, jo28, jo30, jo31, jl29, jg31] at c136)
                    (try simp (disch := omega) only [jw1, jw2, jw3, jw4, jo10, jo11, jo28, jo30, jo31, jl29, jg31] at c143)
                    (try simp (disch := omega) only [jw1, jw2, jw3, jw4, jo10, jo11, jo28, jo30, jo31, jl29, jg31] at c201)
                    (try simp (disch := omega) only [jw1, jw2, jw3, jw4, jo10, jo11, jo28, jo30, jo31, jl29, jg31] at c208)
                    (try simp (disch := omega) only [jw1, jw2, jw3, jw4, jo10, jo11, jo28, jo30, jo31, jl29, jg31] at c215)
                    refine ⟨?_, rfl, rfl⟩
                    rw [ea]
                    unfold jdR
                    rw [if_neg (by omega), if_neg (by omega), if_neg (by omega), if_pos (by omega), e7, eB, eY]
                    rfl
            · refine gi_iload (q := 148) C (dm_Ju_judge 74 rfl) rfl rfl ?_
              refine gi_bipush (q := 150) (v := 31) C (dm_Ju_judge 75 rfl) rfl (by decide) ?_
              refine gi_icmp_gt (q := 153) (tgt := 199) C (dm_Ju_judge 76 rfl) rfl (by decide) (fun c150 => ?_) (fun c150 => ?_)
              · refine gi_iload_n (q := 200) (i := 3) C (dm_Ju_judge 100 rfl) rfl rfl rfl ?_
                refine gi_iconst (q := 201) (v := 3) C (dm_Ju_judge 101 rfl) rfl (by decide) ?_
                refine gi_icmp_ne (q := 204) (tgt := 254) C (dm_Ju_judge 102 rfl) rfl (by decide) (fun c201 => ?_) (fun c201 => ?_)
                · refine gi_iconst (q := 255) (v := 1) C (dm_Ju_judge 129 rfl) rfl (by decide) ?_
                  refine gi_iret C hr9 (dm_Ju_judge 130 rfl) ?_
                  (try simp (disch := omega) only [jw1, jw2, jw3, jw4, jo10, jo11, jo28, jo30, jo31, jl29, jg31] at c16)
                  (try simp (disch := omega) only [jw1, jw2, jw3, jw4, jo10, jo11, jo28, jo30, jo31, jl29, jg31] at c48)
                  (try simp (disch := omega) only [jw1, jw2, jw3, jw4, jo10, jo11, jo28, jo30, jo31, jl29, jg31] at c94)
                  (try simp (disch := omega) only [jw1, jw2, jw3, jw4, jo10, jo11, jo28, jo30, jo31, jl29, jg31] at c101)
                  (try simp (disch := omega) only [jw1, jw2, jw3, jw4, jo10, jo11, jo28, jo30, jo31, jl29, jg31] at c136)
                  (try simp (disch := omega) only [jw1, jw2, jw3, jw4, jo10, jo11, jo28, jo30, jo31, jl29, jg31] at c143)
                  (try simp (disch := omega) only [jw1, jw2, jw3, jw4, jo10, jo11, jo28, jo30, jo31, jl29, jg31] at c150)
                  (try simp (disch := omega) only [jw1, jw2, jw3, jw4, jo10, jo11, jo28, jo30, jo31, jl29, jg31] at c201)
                  refine ⟨?_, rfl, rfl⟩
                  rw [ea]
                  unfold jdR
                  rw [if_neg (by omega), if_neg (by omega), if_neg (by omega), if_neg (by omega)]
                · refine gi_iload (q := 206) C (dm_Ju_judge 103 rfl) rfl rfl ?_
                  refine gi_bipush (q := 208) (v := 30) C (dm_Ju_judge 104 rfl) rfl (by decide) ?_
                  refine gi_icmp_eq (q := 211) (tgt := 218) C (dm_Ju_judge 105 rfl) rfl (by decide) (fun c208 => ?_) (fun c208 => ?_)
                  · refine gi_aload (q := 220) C (dm_Ju_judge 109 rfl) rfl rfl ?_
                    refine gi_get (q := 223) C (dm_Ju_judge 110 rfl) rfl fl_Ju_37 (by first | exact hju0 | exact RO.1 | exact hv | exact hva) rfl ?_
                    refine gi_iconst (q := 224) (v := 1) C (dm_Ju_judge 111 rfl) rfl (by decide) ?_
                    refine gi_isub (q := 225) C (dm_Ju_judge 112 rfl) rfl ?_
                    refine gi_iload (q := 227) C (dm_Ju_judge 113 rfl) rfl rfl ?_
                    refine gi_bipush (q := 229) (v := 30) C (dm_Ju_judge 114 rfl) rfl (by decide) ?_
                    refine gi_isub (q := 230) C (dm_Ju_judge 115 rfl) rfl ?_
                    refine gi_isub (q := 231) C (dm_Ju_judge 116 rfl) rfl ?_
                    (try simp (disch := omega) only [jw1, jw2, jw3, jw4, jo10, jo11, jo28, jo30, jo31, jl29, jg31] at c16)
                    (try simp (disch := omega) only [jw1, jw2, jw3, jw4, jo10, jo11, jo28, jo30, jo31, jl29, jg31] at c48)
                    (try simp (disch := omega) only [jw1, jw2, jw3, jw4, jo10, jo11, jo28, jo30, jo31, jl29, jg31] at c94)
                    (try simp (disch := omega) only [jw1, jw2, jw3, jw4, jo10, jo11, jo28, jo30, jo31, jl29, jg31] at c101)
                    (try simp (disch := omega) only [jw1, jw2, jw3, jw4, jo10, jo11, jo28, jo30, jo31, jl29, jg31] at c136)
                    (try simp (disch := omega) only [jw1, jw2, jw3, jw4, jo10, jo11, jo28, jo30, jo31, jl29, jg31] at c143)
                    (try simp (disch := omega) only [jw1, jw2, jw3, jw4, jo10, jo11, jo28, jo30, jo31, jl29, jg31] at c150)
                    (try simp (disch := omega) only [jw1, jw2, jw3, jw4, jo10, jo11, jo28, jo30, jo31, jl29, jg31] at c201)
                    (try simp (disch := omega) only [jw1, jw2, jw3, jw4, jo10, jo11, jo28, jo30, jo31, jl29, jg31] at c208)
                    obtain ⟨q1, ⟨b, o, eB⟩, fY⟩ := j3 (by omega) (by omega)
                    obtain ⟨Y, eY, oY⟩ := fY (by omega)
                    rw [RG.1, show (1 : Int32) = nI 1 from rfl, show (30 : Int32) = nI 30 from rfl, nI_sb (by omega) (by omega), nI_sb (by omega) (by omega), nI_sb (by omega) (by omega)]
                    have e9 := (RG.2 (q - 1 - (op - 29)) (by omega)).1
                    rw [eB] at e9
                    have hva : h ((Φ (60 * m' + i)).1 (q - 1 - (op - 29))) = some (eV (tV b o)) := by
                      have := rv_at RO (show q - 1 - (op - 29) < 14 by omega)
                      rw [e9] at this
                      exact this
                    have e8 := (RG.2 (q - 1 - (op - 30)) (by omega)).1
                    rw [eY] at e8
                    have hvi : h ((Φ (60 * m' + i)).1 (q - 1 - (op - 30))) = some (eV (sV Y)) := by
                      have := rv_at RO (show q - 1 - (op - 30) < 14 by omega)
                      rw [e8] at this
                      exact this
                    have e7 : q - 1 - (op - 30) - 1 = q - 1 - (op - 29) := by omega
                    refine gi_istore (q := 233) C (dm_Ju_judge 117 rfl) rfl (Nat.le_of_ble_eq_true rfl) ?_
                    refine gi_aload_n (q := 234) (i := 0) C (dm_Ju_judge 118 rfl) rfl rfl rfl ?_
                    refine gi_aload (q := 236) C (dm_Ju_judge 119 rfl) rfl rfl ?_
                    refine gi_iload (q := 238) C (dm_Ju_judge 120 rfl) rfl rfl ?_
                    refine gi_iconst (q := 239) (v := 1) C (dm_Ju_judge 121 rfl) rfl (by decide) ?_
                    refine gi_isub (q := 240) C (dm_Ju_judge 122 rfl) rfl ?_
                    rw [show (1 : Int32) = nI 1 from rfl, nI_sb (by omega) (by omega), e7]
                    refine gi_callv 1 (q := 243) C (dm_Ju_judge 123 rfl) rfl my_Ro_valueAt lk_Ju_41 im_Ro_valueAt rfl (c_Ro_valueAt (j := q - 1 - (op - 29)) (by omega) (by omega) RO) RO.1 rfl rfl ⟨(Nat.le_of_ble_eq_true rfl), (Nat.le_of_ble_eq_true rfl)⟩ (Nat.le_of_ble_eq_true rfl) ⟨(Nat.le_of_ble_eq_true rfl), (Nat.le_of_ble_eq_true rfl)⟩ (fun r240 n240 h240 e240 => ?_)
                    obtain ⟨rfl, q240, u240⟩ := e240
                    rw [q240, u240]
                    refine gi_aload (q := 245) C (dm_Ju_judge 124 rfl) rfl rfl ?_
                    refine gi_iload (q := 247) C (dm_Ju_judge 125 rfl) rfl rfl ?_
                    refine gi_callv 1 (q := 250) C (dm_Ju_judge 126 rfl) rfl my_Ro_valueAt lk_Ju_41 im_Ro_valueAt rfl (c_Ro_valueAt (j := q - 1 - (op - 30)) (by omega) (by omega) RO) RO.1 rfl rfl ⟨(Nat.le_of_ble_eq_true rfl), (Nat.le_of_ble_eq_true rfl)⟩ (Nat.le_of_ble_eq_true rfl) ⟨(Nat.le_of_ble_eq_true rfl), (Nat.le_of_ble_eq_true rfl)⟩ (fun r247 n247 h247 e247 => ?_)
                    obtain ⟨rfl, q247, u247⟩ := e247
                    rw [q247, u247]
                    refine gi_callv 2 (q := 253) C (dm_Ju_judge 127 rfl) rfl my_Ju_judgeIndex lk_Ju_68 im_Ju_judgeIndex rfl (c_Ju_judgeIndex b o Y _ _ hr hju0 HC R hva hvi oY) hju0 rfl rfl ⟨(Nat.le_of_ble_eq_true rfl), (Nat.le_of_ble_eq_true rfl)⟩ (Nat.le_of_ble_eq_true rfl) ⟨(Nat.le_of_ble_eq_true rfl), (Nat.le_of_ble_eq_true rfl)⟩ (fun r250 n250 h250 e250 => ?_)
                    obtain ⟨rfl, q250, u250⟩ := e250
                    rw [q250, u250]
                    refine gi_iret C hr9 (dm_Ju_judge 128 rfl) ?_
                    (try simp (disch := omega) only [jw1, jw2, jw3, jw4, jo10, jo11, jo28, jo30, jo31, jl29, jg31] at c16)
                    (try simp (disch := omega) only [jw1, jw2, jw3, jw4, jo10, jo11, jo28, jo30, jo31, jl29, jg31] at c48)
                    (try simp (disch := omega) only [jw1, jw2, jw3, jw4, jo10, jo11, jo28, jo30, jo31, jl29, jg31] at c94)
                    (try simp (disch := omega) only [jw1, jw2, jw3, jw4, jo10, jo11, jo28, jo30, jo31, jl29, jg31] at c101)
                    (try simp (disch := omega) only [jw1, jw2, jw3, jw4, jo10, jo11, jo28, jo30, jo31, jl29, jg31] at c136)
                    (try simp (disch := omega) only [jw1, jw2, jw3, jw4, jo10, jo11, jo28, jo30, jo31, jl29, jg31] at c143)
                    (try simp (disch := omega) only [jw1, jw2, jw3, jw4, jo10, jo11, jo28, jo30, jo31, jl29, jg31] at c150)
                    (try simp (disch := omega) only [jw1, jw2, jw3, jw4, jo10, jo11, jo28, jo30, jo31, jl29, jg31] at c201)
                    (try simp (disch := omega) only [jw1, jw2, jw3, jw4, jo10, jo11, jo28, jo30, jo31, jl29, jg31] at c208)
                    refine ⟨?_, rfl, rfl⟩
                    rw [ea]
                    unfold jdR
                    rw [if_neg (by omega), if_neg (by omega), if_neg (by omega), if_pos (by omega), e7, eB, eY]
                    rfl
                  · refine gi_iload (q := 213) C (dm_Ju_judge 106 rfl) rfl rfl ?_
                    refine gi_bipush (q := 215) (v := 31) C (dm_Ju_judge 107 rfl) rfl (by decide) ?_
                    refine gi_icmp_ne (q := 218) (tgt := 254) C (dm_Ju_judge 108 rfl) rfl (by decide) (fun c215 => ?_) (fun c215 => ?_)
                    · refine gi_iconst (q := 255) (v := 1) C (dm_Ju_judge 129 rfl) rfl (by decide) ?_
                      refine gi_iret C hr9 (dm_Ju_judge 130 rfl) ?_
                      (try simp (disch := omega) only [jw1, jw2, jw3, jw4, jo10, jo11, jo28, jo30, jo31, jl29, jg31] at c16)
                      (try simp (disch := omega) only [jw1, jw2, jw3, jw4, jo10, jo11, jo28, jo30, jo31, jl29, jg31] at c48)
                      (try simp (disch := omega) only [jw1, jw2, jw3, jw4, jo10, jo11, jo28, jo30, jo31, jl29, jg31] at c94)
                      (try simp (disch := omega) only [jw1, jw2, jw3, jw4, jo10, jo11, jo28, jo30, jo31, jl29, jg31] at c101)
                      (try simp (disch := omega) only [jw1, jw2, jw3, jw4, jo10, jo11, jo28, jo30, jo31, jl29, jg31] at c136)
                      (try simp (disch := omega) only [jw1, jw2, jw3, jw4, jo10, jo11, jo28, jo30, jo31, jl29, jg31] at c143)
                      (try simp (disch := omega) only [jw1, jw2, jw3, jw4, jo10, jo11, jo28, jo30, jo31, jl29, jg31] at c150)
                      (try simp (disch := omega) only [jw1, jw2, jw3, jw4, jo10, jo11, jo28, jo30, jo31, jl29, jg31] at c201)
                      (try simp (disch := omega) only [jw1, jw2, jw3, jw4, jo10, jo11, jo28, jo30, jo31, jl29, jg31] at c208)
                      (try simp (disch := omega) only [jw1, jw2, jw3, jw4, jo10, jo11, jo28, jo30, jo31, jl29, jg31] at c215)
                      refine ⟨?_, rfl, rfl⟩
                      rw [ea]
                      unfold jdR
                      rw [if_neg (by omega), if_neg (by omega), if_neg (by omega), if_neg (by omega)]
                    · refine gi_aload (q := 220) C (dm_Ju_judge 109 rfl) rfl rfl ?_
                      refine gi_get (q := 223) C (dm_Ju_judge 110 rfl) rfl fl_Ju_37 (by first | exact hju0 | exact RO.1 | exact hv | exact hva) rfl ?_
                      refine gi_iconst (q := 224) (v := 1) C (dm_Ju_judge 111 rfl) rfl (by decide) ?_
                      refine gi_isub (q := 225) C (dm_Ju_judge 112 rfl) rfl ?_
                      refine gi_iload (q := 227) C (dm_Ju_judge 113 rfl) rfl rfl ?_
                      refine gi_bipush (q := 229) (v := 30) C (dm_Ju_judge 114 rfl) rfl (by decide) ?_
                      refine gi_isub (q := 230) C (dm_Ju_judge 115 rfl) rfl ?_
                      refine gi_isub (q := 231) C (dm_Ju_judge 116 rfl) rfl ?_
                      (try simp (disch := omega) only [jw1, jw2, jw3, jw4, jo10, jo11, jo28, jo30, jo31, jl29, jg31] at c16)
                      (try simp (disch := omega) only [jw1, jw2, jw3, jw4, jo10, jo11, jo28, jo30, jo31, jl29, jg31] at c48)
                      (try simp (disch := omega) only [jw1, jw2, jw3, jw4, jo10, jo11, jo28, jo30, jo31, jl29, jg31] at c94)
                      (try simp (disch := omega) only [jw1, jw2, jw3, jw4, jo10, jo11, jo28, jo30, jo31, jl29, jg31] at c101)
                      (try simp (disch := omega) only [jw1, jw2, jw3, jw4, jo10, jo11, jo28, jo30, jo31, jl29, jg31] at c136)
                      (try simp (disch := omega) only [jw1, jw2, jw3, jw4, jo10, jo11, jo28, jo30, jo31, jl29, jg31] at c143)
                      (try simp (disch := omega) only [jw1, jw2, jw3, jw4, jo10, jo11, jo28, jo30, jo31, jl29, jg31] at c150)
                      (try simp (disch := omega) only [jw1, jw2, jw3, jw4, jo10, jo11, jo28, jo30, jo31, jl29, jg31] at c201)
                      (try simp (disch := omega) only [jw1, jw2, jw3, jw4, jo10, jo11, jo28, jo30, jo31, jl29, jg31] at c208)
                      (try simp (disch := omega) only [jw1, jw2, jw3, jw4, jo10, jo11, jo28, jo30, jo31, jl29, jg31] at c215)
                      obtain ⟨q1, ⟨b, o, eB⟩, fY⟩ := j3 (by omega) (by omega)
                      obtain ⟨Y, eY, oY⟩ := fY (by omega)
                      rw [RG.1, show (1 : Int32) = nI 1 from rfl, show (30 : Int32) = nI 30 from rfl, nI_sb (by omega) (by omega), nI_sb (by omega) (by omega), nI_sb (by omega) (by omega)]
                      have e9 := (RG.2 (q - 1 - (op - 29)) (by omega)).1
                      rw [eB] at e9
                      have hva : h ((Φ (60 * m' + i)).1 (q - 1 - (op - 29))) = some (eV (tV b o)) := by
                        have := rv_at RO (show q - 1 - (op - 29) < 14 by omega)
                        rw [e9] at this
                        exact this
                      have e8 := (RG.2 (q - 1 - (op - 30)) (by omega)).1
                      rw [eY] at e8
                      have hvi : h ((Φ (60 * m' + i)).1 (q - 1 - (op - 30))) = some (eV (sV Y)) := by
                        have := rv_at RO (show q - 1 - (op - 30) < 14 by omega)
                        rw [e8] at this
                        exact this
                      have e7 : q - 1 - (op - 30) - 1 = q - 1 - (op - 29) := by omega
                      refine gi_istore (q := 233) C (dm_Ju_judge 117 rfl) rfl (Nat.le_of_ble_eq_true rfl) ?_
                      refine gi_aload_n (q := 234) (i := 0) C (dm_Ju_judge 118 rfl) rfl rfl rfl ?_
                      refine gi_aload (q := 236) C (dm_Ju_judge 119 rfl) rfl rfl ?_
                      refine gi_iload (q := 238) C (dm_Ju_judge 120 rfl) rfl rfl ?_
                      refine gi_iconst (q := 239) (v := 1) C (dm_Ju_judge 121 rfl) rfl (by decide) ?_
                      refine gi_isub (q := 240) C (dm_Ju_judge 122 rfl) rfl ?_
                      rw [show (1 : Int32) = nI 1 from rfl, nI_sb (by omega) (by omega), e7]
                      refine gi_callv 1 (q := 243) C (dm_Ju_judge 123 rfl) rfl my_Ro_valueAt lk_Ju_41 im_Ro_valueAt rfl (c_Ro_valueAt (j := q - 1 - (op - 29)) (by omega) (by omega) RO) RO.1 rfl rfl ⟨(Nat.le_of_ble_eq_true rfl), (Nat.le_of_ble_eq_true rfl)⟩ (Nat.le_of_ble_eq_true rfl) ⟨(Nat.le_of_ble_eq_true rfl), (Nat.le_of_ble_eq_true rfl)⟩ (fun r240 n240 h240 e240 => ?_)
                      obtain ⟨rfl, q240, u240⟩ := e240
                      rw [q240, u240]
                      refine gi_aload (q := 245) C (dm_Ju_judge 124 rfl) rfl rfl ?_
                      refine gi_iload (q := 247) C (dm_Ju_judge 125 rfl) rfl rfl ?_
                      refine gi_callv 1 (q := 250) C (dm_Ju_judge 126 rfl) rfl my_Ro_valueAt lk_Ju_41 im_Ro_valueAt rfl (c_Ro_valueAt (j := q - 1 - (op - 30)) (by omega) (by omega) RO) RO.1 rfl rfl ⟨(Nat.le_of_ble_eq_true rfl), (Nat.le_of_ble_eq_true rfl)⟩ (Nat.le_of_ble_eq_true rfl) ⟨(Nat.le_of_ble_eq_true rfl), (Nat.le_of_ble_eq_true rfl)⟩ (fun r247 n247 h247 e247 => ?_)
                      obtain ⟨rfl, q247, u247⟩ := e247
                      rw [q247, u247]
                      refine gi_callv 2 (q := 253) C (dm_Ju_judge 127 rfl) rfl my_Ju_judgeIndex lk_Ju_68 im_Ju_judgeIndex rfl (c_Ju_judgeIndex b o Y _ _ hr hju0 HC R hva hvi oY) hju0 rfl rfl ⟨(Nat.le_of_ble_eq_true rfl), (Nat.le_of_ble_eq_true rfl)⟩ (Nat.le_of_ble_eq_true rfl) ⟨(Nat.le_of_ble_eq_true rfl), (Nat.le_of_ble_eq_true rfl)⟩ (fun r250 n250 h250 e250 => ?_)
                      obtain ⟨rfl, q250, u250⟩ := e250
                      rw [q250, u250]
                      refine gi_iret C hr9 (dm_Ju_judge 128 rfl) ?_
                      (try simp (disch := omega) only [jw1, jw2, jw3, jw4, jo10, jo11, jo28, jo30, jo31, jl29, jg31] at c16)
                      (try simp (disch := omega) only [jw1, jw2, jw3, jw4, jo10, jo11, jo28, jo30, jo31, jl29, jg31] at c48)
                      (try simp (disch := omega) only [jw1, jw2, jw3, jw4, jo10, jo11, jo28, jo30, jo31, jl29, jg31] at c94)
                      (try simp (disch := omega) only [jw1, jw2, jw3, jw4, jo10, jo11, jo28, jo30, jo31, jl29, jg31] at c101)
                      (try simp (disch := omega) only [jw1, jw2, jw3, jw4, jo10, jo11, jo28, jo30, jo31, jl29, jg31] at c136)
                      (try simp (disch := omega) only [jw1, jw2, jw3, jw4, jo10, jo11, jo28, jo30, jo31, jl29, jg31] at c143)
                      (try simp (disch := omega) only [jw1, jw2, jw3, jw4, jo10, jo11, jo28, jo30, jo31, jl29, jg31] at c150)
                      (try simp (disch := omega) only [jw1, jw2, jw3, jw4, jo10, jo11, jo28, jo30, jo31, jl29, jg31] at c201)
                      (try simp (disch := omega) only [jw1, jw2, jw3, jw4, jo10, jo11, jo28, jo30, jo31, jl29, jg31] at c208)
                      (try simp (disch := omega) only [jw1, jw2, jw3, jw4, jo10, jo11, jo28, jo30, jo31, jl29, jg31] at c215)
                      refine ⟨?_, rfl, rfl⟩
                      rw [ea]
                      unfold jdR
                      rw [if_neg (by omega), if_neg (by omega), if_neg (by omega), if_pos (by omega), e7, eB, eY]
                      rfl
              · refine gi_aload (q := 155) C (dm_Ju_judge 77 rfl) rfl rfl ?_
                refine gi_aload (q := 157) C (dm_Ju_judge 78 rfl) rfl rfl ?_
                refine gi_get (q := 160) C (dm_Ju_judge 79 rfl) rfl fl_Ju_37 (by first | exact hju0 | exact RO.1 | exact hv | exact hva) rfl ?_
                refine gi_iconst (q := 161) (v := 1) C (dm_Ju_judge 80 rfl) rfl (by decide) ?_
                refine gi_isub (q := 162) C (dm_Ju_judge 81 rfl) rfl ?_
                refine gi_iload (q := 164) C (dm_Ju_judge 82 rfl) rfl rfl ?_
                refine gi_bipush (q := 166) (v := 29) C (dm_Ju_judge 83 rfl) rfl (by decide) ?_
                refine gi_isub (q := 167) C (dm_Ju_judge 84 rfl) rfl ?_
                refine gi_isub (q := 168) C (dm_Ju_judge 85 rfl) rfl ?_
                (try simp (disch := omega) only [jw1, jw2, jw3, jw4, jo10, jo11, jo28, jo30, jo31, jl29, jg31] at c16)
                (try simp (disch := omega) only [jw1, jw2, jw3, jw4, jo10, jo11, jo28, jo30, jo31, jl29, jg31] at c48)
                (try simp (disch := omega) only [jw1, jw2, jw3, jw4, jo10, jo11, jo28, jo30, jo31, jl29, jg31] at c94)
                (try simp (disch := omega) only [jw1, jw2, jw3, jw4, jo10, jo11, jo28, jo30, jo31, jl29, jg31] at c101)
                (try simp (disch := omega) only [jw1, jw2, jw3, jw4, jo10, jo11, jo28, jo30, jo31, jl29, jg31] at c136)
                (try simp (disch := omega) only [jw1, jw2, jw3, jw4, jo10, jo11, jo28, jo30, jo31, jl29, jg31] at c143)
                (try simp (disch := omega) only [jw1, jw2, jw3, jw4, jo10, jo11, jo28, jo30, jo31, jl29, jg31] at c150)
                obtain ⟨q1, ⟨b, o, eB⟩, -⟩ := j3 (by omega) (by omega)
                rw [RG.1, show (1 : Int32) = nI 1 from rfl, show (29 : Int32) = nI 29 from rfl, nI_sb (by omega) (by omega), nI_sb (by omega) (by omega), nI_sb (by omega) (by omega)]
                have e9 := (RG.2 (q - 1 - (op - 29)) (by omega)).1
                rw [eB] at e9
                have hva : h ((Φ (60 * m' + i)).1 (q - 1 - (op - 29))) = some (eV (tV b o)) := by
                  have := rv_at RO (show q - 1 - (op - 29) < 14 by omega)
                  rw [e9] at this
                  exact this
                refine gi_callv 1 (q := 171) C (dm_Ju_judge 86 rfl) rfl my_Ro_valueAt lk_Ju_41 im_Ro_valueAt rfl (c_Ro_valueAt (j := q - 1 - (op - 29)) (by omega) (by omega) RO) RO.1 rfl rfl ⟨(Nat.le_of_ble_eq_true rfl), (Nat.le_of_ble_eq_true rfl)⟩ (Nat.le_of_ble_eq_true rfl) ⟨(Nat.le_of_ble_eq_true rfl), (Nat.le_of_ble_eq_true rfl)⟩ (fun r168 n168 h168 e168 => ?_)
                obtain ⟨rfl, q168, u168⟩ := e168
                rw [q168, u168]
                refine gi_astore (q := 173) C (dm_Ju_judge 87 rfl) rfl (Nat.le_of_ble_eq_true rfl) ?_
                refine gi_aload (q := 175) C (dm_Ju_judge 88 rfl) rfl rfl ?_
                refine gi_get (q := 178) C (dm_Ju_judge 89 rfl) rfl fl_Ju_62 (by first | exact hju0 | exact RO.1 | exact hv | exact hva) rfl ?_
                refine gi_if_ne (q := 181) (tgt := 185) C (dm_Ju_judge 90 rfl) rfl (by decide) (fun c178 => ?_) (fun c178 => ?_)
                · refine gi_aload (q := 187) C (dm_Ju_judge 93 rfl) rfl rfl ?_
                  refine gi_get (q := 190) C (dm_Ju_judge 94 rfl) rfl fl_Ju_65 (by first | exact hju0 | exact RO.1 | exact hv | exact hva) rfl ?_
                  refine gi_if_ne (q := 193) (tgt := 197) C (dm_Ju_judge 95 rfl) rfl (by decide) (fun c190 => ?_) (fun c190 => ?_)
                  · refine gi_iconst (q := 198) (v := 2) C (dm_Ju_judge 98 rfl) rfl (by decide) ?_
                    refine gi_iret C hr9 (dm_Ju_judge 99 rfl) ?_
                    (try simp (disch := omega) only [jw1, jw2, jw3, jw4, jo10, jo11, jo28, jo30, jo31, jl29, jg31] at c16)
                    (try simp (disch := omega) only [jw1, jw2, jw3, jw4, jo10, jo11, jo28, jo30, jo31, jl29, jg31] at c48)
                    (try simp (disch := omega) only [jw1, jw2, jw3, jw4, jo10, jo11, jo28, jo30, jo31, jl29, jg31] at c94)
                    (try simp (disch := omega) only [jw1, jw2, jw3, jw4, jo10, jo11, jo28, jo30, jo31, jl29, jg31] at c101)
                    (try simp (disch := omega) only [jw1, jw2, jw3, jw4, jo10, jo11, jo28, jo30, jo31, jl29, jg31] at c136)
                    (try simp (disch := omega) only [jw1, jw2, jw3, jw4, jo10, jo11, jo28, jo30, jo31, jl29, jg31] at c143)
                    (try simp (disch := omega) only [jw1, jw2, jw3, jw4, jo10, jo11, jo28, jo30, jo31, jl29, jg31] at c150)
                    (try simp (disch := omega) only [jw1, jw2, jw3, jw4, jo10, jo11, jo28, jo30, jo31, jl29, jg31] at c178)
                    (try simp (disch := omega) only [jw1, jw2, jw3, jw4, jo10, jo11, jo28, jo30, jo31, jl29, jg31] at c190)
                    refine ⟨?_, rfl, rfl⟩
                    rw [ea]
                    unfold jdR
                    rw [if_neg (by omega), if_neg (by omega), if_pos (by omega), eB]
                    show some (Value.int _) = some (Value.int (nuJ b o))
                    unfold nuJ
                    first
                      | (rw [if_pos (bI_fa c178)]; done)
                      | (rw [if_neg (by rw [bI_t c178]; decide), if_pos c190]; done)
                      | (rw [if_neg (by rw [bI_t c178]; decide), if_neg c190]; done)
                  · refine gi_iconst (q := 194) (v := 3) C (dm_Ju_judge 96 rfl) rfl (by decide) ?_
                    refine gi_goto (tgt := 198) C (dm_Ju_judge 97 rfl) (by decide) ?_
                    refine gi_iret C hr9 (dm_Ju_judge 99 rfl) ?_
                    (try simp (disch := omega) only [jw1, jw2, jw3, jw4, jo10, jo11, jo28, jo30, jo31, jl29, jg31] at c16)
                    (try simp (disch := omega) only [jw1, jw2, jw3, jw4, jo10, jo11, jo28, jo30, jo31, jl29, jg31] at c48)
                    (try simp (disch := omega) only [jw1, jw2, jw3, jw4, jo10, jo11, jo28, jo30, jo31, jl29, jg31] at c94)
                    (try simp (disch := omega) only [jw1, jw2, jw3, jw4, jo10, jo11, jo28, jo30, jo31, jl29, jg31] at c101)
                    (try simp (disch := omega) only [jw1, jw2, jw3, jw4, jo10, jo11, jo28, jo30, jo31, jl29, jg31] at c136)
                    (try simp (disch := omega) only [jw1, jw2, jw3, jw4, jo10, jo11, jo28, jo30, jo31, jl29, jg31] at c143)
                    (try simp (disch := omega) only [jw1, jw2, jw3, jw4, jo10, jo11, jo28, jo30, jo31, jl29, jg31] at c150)
                    (try simp (disch := omega) only [jw1, jw2, jw3, jw4, jo10, jo11, jo28, jo30, jo31, jl29, jg31] at c178)
                    (try simp (disch := omega) only [jw1, jw2, jw3, jw4, jo10, jo11, jo28, jo30, jo31, jl29, jg31] at c190)
                    refine ⟨?_, rfl, rfl⟩
                    rw [ea]
                    unfold jdR
                    rw [if_neg (by omega), if_neg (by omega), if_pos (by omega), eB]
                    show some (Value.int _) = some (Value.int (nuJ b o))
                    unfold nuJ
                    first
                      | (rw [if_pos (bI_fa c178)]; done)
                      | (rw [if_neg (by rw [bI_t c178]; decide), if_pos c190]; done)
                      | (rw [if_neg (by rw [bI_t c178]; decide), if_neg c190]; done)
                · refine gi_iconst (q := 182) (v := 1) C (dm_Ju_judge 91 rfl) rfl (by decide) ?_
                  refine gi_goto (tgt := 198) C (dm_Ju_judge 92 rfl) (by decide) ?_
                  refine gi_iret C hr9 (dm_Ju_judge 99 rfl) ?_
                  (try simp (disch := omega) only [jw1, jw2, jw3, jw4, jo10, jo11, jo28, jo30, jo31, jl29, jg31] at c16)
                  (try simp (disch := omega) only [jw1, jw2, jw3, jw4, jo10, jo11, jo28, jo30, jo31, jl29, jg31] at c48)
                  (try simp (disch := omega) only [jw1, jw2, jw3, jw4, jo10, jo11, jo28, jo30, jo31, jl29, jg31] at c94)
                  (try simp (disch := omega) only [jw1, jw2, jw3, jw4, jo10, jo11, jo28, jo30, jo31, jl29, jg31] at c101)
                  (try simp (disch := omega) only [jw1, jw2, jw3, jw4, jo10, jo11, jo28, jo30, jo31, jl29, jg31] at c136)
                  (try simp (disch := omega) only [jw1, jw2, jw3, jw4, jo10, jo11, jo28, jo30, jo31, jl29, jg31] at c143)
                  (try simp (disch := omega) only [jw1, jw2, jw3, jw4, jo10, jo11, jo28, jo30, jo31, jl29, jg31] at c150)
                  (try simp (disch := omega) only [jw1, jw2, jw3, jw4, jo10, jo11, jo28, jo30, jo31, jl29, jg31] at c178)
                  refine ⟨?_, rfl, rfl⟩
                  rw [ea]
                  unfold jdR
                  rw [if_neg (by omega), if_neg (by omega), if_pos (by omega), eB]
                  show some (Value.int _) = some (Value.int (nuJ b o))
                  unfold nuJ
                  first
                    | (rw [if_pos (bI_fa c178)]; done)
                    | (rw [if_neg (by rw [bI_t c178]; decide), if_pos c190]; done)
                    | (rw [if_neg (by rw [bI_t c178]; decide), if_neg c190]; done)
        · (try simp (disch := omega) only [jw1, jw2, jw3, jw4, jo10, jo11, jo28, jo30, jo31, jl29, jg31] at c16)
          (try simp (disch := omega) only [jw1, jw2, jw3, jw4, jo10, jo11, jo28, jo30, jo31, jl29, jg31] at c48)
          (try simp (disch := omega) only [jw1, jw2, jw3, jw4, jo10, jo11, jo28, jo30, jo31, jl29, jg31] at c94)
          (try simp (disch := omega) only [jw1, jw2, jw3, jw4, jo10, jo11, jo28, jo30, jo31, jl29, jg31] at c101)
          obtain ⟨q1, Y, eY, oY⟩ := j4 (by omega)
          have e9 := (RG.2 (q - 1) (by omega)).1
          rw [eY] at e9
          have hv : h ((Φ (60 * m' + i)).1 (q - 1)) = some (eV (sV Y)) := by
            have := rv_at RO (show q - 1 < 14 by omega)
            rw [e9] at this
            exact this
          obtain ⟨y1, y2, y3, -⟩ := id oY
          refine gi_aload (q := 106) C (dm_Ju_judge 52 rfl) rfl rfl ?_
          refine gi_get (q := 109) C (dm_Ju_judge 53 rfl) rfl fl_Ju_55 (by first | exact hju0 | exact RO.1 | exact hv | exact hva) rfl ?_
          refine gi_lconst (q := 110) (v := 0) C (dm_Ju_judge 54 rfl) rfl (by decide) ?_
          refine gi_lcmp (q := 111) C (dm_Ju_judge 55 rfl) rfl ?_
          refine gi_if_lt (q := 114) (tgt := 118) C (dm_Ju_judge 56 rfl) rfl (by decide) (fun c111 => ?_) (fun c111 => ?_)
          · refine gi_aload (q := 120) C (dm_Ju_judge 59 rfl) rfl rfl ?_
            refine gi_get (q := 123) C (dm_Ju_judge 60 rfl) rfl fl_Ju_59 (by first | exact hju0 | exact RO.1 | exact hv | exact hva) rfl ?_
            refine gi_lconst (q := 124) (v := 0) C (dm_Ju_judge 61 rfl) rfl (by decide) ?_
            refine gi_lcmp (q := 125) C (dm_Ju_judge 62 rfl) rfl ?_
            refine gi_if_ge (q := 128) (tgt := 132) C (dm_Ju_judge 63 rfl) rfl (by decide) (fun c125 => ?_) (fun c125 => ?_)
            · refine gi_iconst (q := 133) (v := 2) C (dm_Ju_judge 66 rfl) rfl (by decide) ?_
              refine gi_iret C hr9 (dm_Ju_judge 67 rfl) ?_
              (try simp (disch := omega) only [jw1, jw2, jw3, jw4, jo10, jo11, jo28, jo30, jo31, jl29, jg31] at c16)
              (try simp (disch := omega) only [jw1, jw2, jw3, jw4, jo10, jo11, jo28, jo30, jo31, jl29, jg31] at c48)
              (try simp (disch := omega) only [jw1, jw2, jw3, jw4, jo10, jo11, jo28, jo30, jo31, jl29, jg31] at c94)
              (try simp (disch := omega) only [jw1, jw2, jw3, jw4, jo10, jo11, jo28, jo30, jo31, jl29, jg31] at c101)
              (try simp (disch := omega) only [jw1, jw2, jw3, jw4, jo10, jo11, jo28, jo30, jo31, jl29, jg31] at c111)
              (try simp (disch := omega) only [jw1, jw2, jw3, jw4, jo10, jo11, jo28, jo30, jo31, jl29, jg31] at c125)
              (try simp (disch := omega) only [lg_cmp_ge, lg_cmp_le, lg_cmp_gt, lg_cmp_lt, lg_cmp_eq, eL_0, eL_1, eL_m1, eL_LO, eL_HI, eL_W, eL_add, eL_sub, eL_mul, eL_neg, eL_lt, eL_le, eL_eq, eL_remN, eL_mod0, ne_eq, Int64.not_lt, Int64.not_le] at c111)
              (try simp (disch := omega) only [lg_cmp_ge, lg_cmp_le, lg_cmp_gt, lg_cmp_lt, lg_cmp_eq, eL_0, eL_1, eL_m1, eL_LO, eL_HI, eL_W, eL_add, eL_sub, eL_mul, eL_neg, eL_lt, eL_le, eL_eq, eL_remN, eL_mod0, ne_eq, Int64.not_lt, Int64.not_le] at c125)
              refine ⟨?_, rfl, rfl⟩
              rw [ea]
              unfold jdR
              rw [if_neg (by omega), if_pos (by omega), eY]
              show some (Value.int _) = some (Value.int (ngJ Y))
              unfold ngJ
              first
                | (rw [if_pos (by omega)]; done)
                | (rw [if_neg (by omega), if_pos (by omega)]; done)
                | (rw [if_neg (by omega), if_neg (by omega)]; done)
            · refine gi_iconst (q := 129) (v := 3) C (dm_Ju_judge 64 rfl) rfl (by decide) ?_
              refine gi_goto (tgt := 133) C (dm_Ju_judge 65 rfl) (by decide) ?_
              refine gi_iret C hr9 (dm_Ju_judge 67 rfl) ?_
              (try simp (disch := omega) only [jw1, jw2, jw3, jw4, jo10, jo11, jo28, jo30, jo31, jl29, jg31] at c16)
              (try simp (disch := omega) only [jw1, jw2, jw3, jw4, jo10, jo11, jo28, jo30, jo31, jl29, jg31] at c48)
              (try simp (disch := omega) only [jw1, jw2, jw3, jw4, jo10, jo11, jo28, jo30, jo31, jl29, jg31] at c94)
              (try simp (disch := omega) only [jw1, jw2, jw3, jw4, jo10, jo11, jo28, jo30, jo31, jl29, jg31] at c101)
              (try simp (disch := omega) only [jw1, jw2, jw3, jw4, jo10, jo11, jo28, jo30, jo31, jl29, jg31] at c111)
              (try simp (disch := omega) only [jw1, jw2, jw3, jw4, jo10, jo11, jo28, jo30, jo31, jl29, jg31] at c125)
              (try simp (disch := omega) only [lg_cmp_ge, lg_cmp_le, lg_cmp_gt, lg_cmp_lt, lg_cmp_eq, eL_0, eL_1, eL_m1, eL_LO, eL_HI, eL_W, eL_add, eL_sub, eL_mul, eL_neg, eL_lt, eL_le, eL_eq, eL_remN, eL_mod0, ne_eq, Int64.not_lt, Int64.not_le] at c111)
              (try simp (disch := omega) only [lg_cmp_ge, lg_cmp_le, lg_cmp_gt, lg_cmp_lt, lg_cmp_eq, eL_0, eL_1, eL_m1, eL_LO, eL_HI, eL_W, eL_add, eL_sub, eL_mul, eL_neg, eL_lt, eL_le, eL_eq, eL_remN, eL_mod0, ne_eq, Int64.not_lt, Int64.not_le] at c125)
              refine ⟨?_, rfl, rfl⟩
              rw [ea]
              unfold jdR
              rw [if_neg (by omega), if_pos (by omega), eY]
              show some (Value.int _) = some (Value.int (ngJ Y))
              unfold ngJ
              first
                | (rw [if_pos (by omega)]; done)
                | (rw [if_neg (by omega), if_pos (by omega)]; done)
                | (rw [if_neg (by omega), if_neg (by omega)]; done)
          · refine gi_iconst (q := 115) (v := 1) C (dm_Ju_judge 57 rfl) rfl (by decide) ?_
            refine gi_goto (tgt := 133) C (dm_Ju_judge 58 rfl) (by decide) ?_
            refine gi_iret C hr9 (dm_Ju_judge 67 rfl) ?_
            (try simp (disch := omega) only [jw1, jw2, jw3, jw4, jo10, jo11, jo28, jo30, jo31, jl29, jg31] at c16)
            (try simp (disch := omega) only [jw1, jw2, jw3, jw4, jo10, jo11, jo28, jo30, jo31, jl29, jg31] at c48)
            (try simp (disch := omega) only [jw1, jw2, jw3, jw4, jo10, jo11, jo28, jo30, jo31, jl29, jg31] at c94)
            (try simp (disch := omega) only [jw1, jw2, jw3, jw4, jo10, jo11, jo28, jo30, jo31, jl29, jg31] at c101)
            (try simp (disch := omega) only [jw1, jw2, jw3, jw4, jo10, jo11, jo28, jo30, jo31, jl29, jg31] at c111)
            (try simp (disch := omega) only [lg_cmp_ge, lg_cmp_le, lg_cmp_gt, lg_cmp_lt, lg_cmp_eq, eL_0, eL_1, eL_m1, eL_LO, eL_HI, eL_W, eL_add, eL_sub, eL_mul, eL_neg, eL_lt, eL_le, eL_eq, eL_remN, eL_mod0, ne_eq, Int64.not_lt, Int64.not_le] at c111)
            (try simp (disch := omega) only [lg_cmp_ge, lg_cmp_le, lg_cmp_gt, lg_cmp_lt, lg_cmp_eq, eL_0, eL_1, eL_m1, eL_LO, eL_HI, eL_W, eL_add, eL_sub, eL_mul, eL_neg, eL_lt, eL_le, eL_eq, eL_remN, eL_mod0, ne_eq, Int64.not_lt, Int64.not_le] at c125)
            refine ⟨?_, rfl, rfl⟩
            rw [ea]
            unfold jdR
            rw [if_neg (by omega), if_pos (by omega), eY]
            show some (Value.int _) = some (Value.int (ngJ Y))
            unfold ngJ
            first
              | (rw [if_pos (by omega)]; done)
              | (rw [if_neg (by omega), if_pos (by omega)]; done)
              | (rw [if_neg (by omega), if_neg (by omega)]; done)
    · refine gi_iload (q := 53) C (dm_Ju_judge 27 rfl) rfl rfl ?_
      refine gi_bipush (q := 55) (v := 10) C (dm_Ju_judge 28 rfl) rfl (by decide) ?_
      refine gi_icmp_eq (q := 58) (tgt := 65) C (dm_Ju_judge 29 rfl) rfl (by decide) (fun c55 => ?_) (fun c55 => ?_)
      · (try simp (disch := omega) only [jw1, jw2, jw3, jw4, jo10, jo11, jo28, jo30, jo31, jl29, jg31] at c16)
        (try simp (disch := omega) only [jw1, jw2, jw3, jw4, jo10, jo11, jo28, jo30, jo31, jl29, jg31] at c48)
        (try simp (disch := omega) only [jw1, jw2, jw3, jw4, jo10, jo11, jo28, jo30, jo31, jl29, jg31] at c55)
        obtain ⟨q1, Y, eY, oY⟩ := j2 (by omega)
        have e9 := (RG.2 (q - 1) (by omega)).1
        rw [eY] at e9
        have hv : h ((Φ (60 * m' + i)).1 (q - 1)) = some (eV (sV Y)) := by
          have := rv_at RO (show q - 1 < 14 by omega)
          rw [e9] at this
          exact this
        obtain ⟨y1, y2, y3, -⟩ := id oY
        have y3' := y3
        refine gi_aload (q := 67) C (dm_Ju_judge 33 rfl) rfl rfl ?_
        refine gi_lconst (q := 68) (v := 0) C (dm_Ju_judge 34 rfl) rfl (by decide) ?_
        refine gi_callv 1 (q := 71) C (dm_Ju_judge 35 rfl) rfl my_Va_has lk_Ju_45 im_Va_has rfl (c_Va_has _ Y 0 oY (by decide) (by decide) hv) hv rfl rfl ⟨(Nat.le_of_ble_eq_true rfl), (Nat.le_of_ble_eq_true rfl)⟩ (Nat.le_of_ble_eq_true rfl) ⟨(Nat.le_of_ble_eq_true rfl), (Nat.le_of_ble_eq_true rfl)⟩ (fun r68 n68 h68 e68 => ?_)
        obtain ⟨rfl, q68, u68⟩ := e68
        rw [q68, u68]
        refine gi_if_ne (q := 74) (tgt := 78) C (dm_Ju_judge 36 rfl) rfl (by decide) (fun c71 => ?_) (fun c71 => ?_)
        · refine gi_aload (q := 80) C (dm_Ju_judge 39 rfl) rfl rfl ?_
          refine gi_callv 0 (q := 83) C (dm_Ju_judge 40 rfl) rfl my_Va_isSingle lk_Ju_51 im_Va_isSingle rfl (c_Va_isSingle _ _ hv) hv rfl rfl ⟨(Nat.le_of_ble_eq_true rfl), (Nat.le_of_ble_eq_true rfl)⟩ (Nat.le_of_ble_eq_true rfl) ⟨(Nat.le_of_ble_eq_true rfl), (Nat.le_of_ble_eq_true rfl)⟩ (fun r80 n80 h80 e80 => ?_)
          obtain ⟨rfl, q80, u80⟩ := e80
          rw [q80, u80]
          refine gi_if_eq (q := 86) (tgt := 90) C (dm_Ju_judge 41 rfl) rfl (by decide) (fun c83 => ?_) (fun c83 => ?_)
          · refine gi_iconst (q := 91) (v := 2) C (dm_Ju_judge 44 rfl) rfl (by decide) ?_
            refine gi_iret C hr9 (dm_Ju_judge 45 rfl) ?_
            (try simp (disch := omega) only [jw1, jw2, jw3, jw4, jo10, jo11, jo28, jo30, jo31, jl29, jg31] at c16)
            (try simp (disch := omega) only [jw1, jw2, jw3, jw4, jo10, jo11, jo28, jo30, jo31, jl29, jg31] at c48)
            (try simp (disch := omega) only [jw1, jw2, jw3, jw4, jo10, jo11, jo28, jo30, jo31, jl29, jg31] at c55)
            (try simp (disch := omega) only [jw1, jw2, jw3, jw4, jo10, jo11, jo28, jo30, jo31, jl29, jg31] at c71)
            (try simp (disch := omega) only [jw1, jw2, jw3, jw4, jo10, jo11, jo28, jo30, jo31, jl29, jg31] at c83)
            refine ⟨?_, rfl, rfl⟩
            rw [ea]
            unfold jdR
            rw [if_pos (by omega), eY]
            show some (Value.int _) = some (Value.int (dvJ Y))
            unfold dvJ
            first
              | (rw [if_pos (bI_fa c71)]; done)
              | (rw [if_neg (by rw [bI_t c71]; decide), if_pos ((eL_eq (by omega) (by omega) (by omega) (by omega)).mp (of_decide_eq_true (bI_t c83)))]; done)
              | (rw [if_neg (by rw [bI_t c71]; decide), if_neg (fun z => absurd (bI_fa c83) (by rw [decide_eq_true (show (sV Y).2.1 = (sV Y).2.2.1 from congrArg eL z)]; decide))]; done)
          · refine gi_iconst (q := 87) (v := 3) C (dm_Ju_judge 42 rfl) rfl (by decide) ?_
            refine gi_goto (tgt := 91) C (dm_Ju_judge 43 rfl) (by decide) ?_
            refine gi_iret C hr9 (dm_Ju_judge 45 rfl) ?_
            (try simp (disch := omega) only [jw1, jw2, jw3, jw4, jo10, jo11, jo28, jo30, jo31, jl29, jg31] at c16)
            (try simp (disch := omega) only [jw1, jw2, jw3, jw4, jo10, jo11, jo28, jo30, jo31, jl29, jg31] at c48)
            (try simp (disch := omega) only [jw1, jw2, jw3, jw4, jo10, jo11, jo28, jo30, jo31, jl29, jg31] at c55)
            (try simp (disch := omega) only [jw1, jw2, jw3, jw4, jo10, jo11, jo28, jo30, jo31, jl29, jg31] at c71)
            (try simp (disch := omega) only [jw1, jw2, jw3, jw4, jo10, jo11, jo28, jo30, jo31, jl29, jg31] at c83)
            refine ⟨?_, rfl, rfl⟩
            rw [ea]
            unfold jdR
            rw [if_pos (by omega), eY]
            show some (Value.int _) = some (Value.int (dvJ Y))
            unfold dvJ
            first
              | (rw [if_pos (bI_fa c71)]; done)
              | (rw [if_neg (by rw [bI_t c71]; decide), if_pos ((eL_eq (by omega) (by omega) (by omega) (by omega)).mp (of_decide_eq_true (bI_t c83)))]; done)
              | (rw [if_neg (by rw [bI_t c71]; decide), if_neg (fun z => absurd (bI_fa c83) (by rw [decide_eq_true (show (sV Y).2.1 = (sV Y).2.2.1 from congrArg eL z)]; decide))]; done)
        · refine gi_iconst (q := 75) (v := 1) C (dm_Ju_judge 37 rfl) rfl (by decide) ?_
          refine gi_goto (tgt := 91) C (dm_Ju_judge 38 rfl) (by decide) ?_
          refine gi_iret C hr9 (dm_Ju_judge 45 rfl) ?_
          (try simp (disch := omega) only [jw1, jw2, jw3, jw4, jo10, jo11, jo28, jo30, jo31, jl29, jg31] at c16)
          (try simp (disch := omega) only [jw1, jw2, jw3, jw4, jo10, jo11, jo28, jo30, jo31, jl29, jg31] at c48)
          (try simp (disch := omega) only [jw1, jw2, jw3, jw4, jo10, jo11, jo28, jo30, jo31, jl29, jg31] at c55)
          (try simp (disch := omega) only [jw1, jw2, jw3, jw4, jo10, jo11, jo28, jo30, jo31, jl29, jg31] at c71)
          refine ⟨?_, rfl, rfl⟩
          rw [ea]
          unfold jdR
          rw [if_pos (by omega), eY]
          show some (Value.int _) = some (Value.int (dvJ Y))
          unfold dvJ
          first
            | (rw [if_pos (bI_fa c71)]; done)
            | (rw [if_neg (by rw [bI_t c71]; decide), if_pos ((eL_eq (by omega) (by omega) (by omega) (by omega)).mp (of_decide_eq_true (bI_t c83)))]; done)
            | (rw [if_neg (by rw [bI_t c71]; decide), if_neg (fun z => absurd (bI_fa c83) (by rw [decide_eq_true (show (sV Y).2.1 = (sV Y).2.2.1 from congrArg eL z)]; decide))]; done)
      · refine gi_iload (q := 60) C (dm_Ju_judge 30 rfl) rfl rfl ?_
        refine gi_bipush (q := 62) (v := 11) C (dm_Ju_judge 31 rfl) rfl (by decide) ?_
        refine gi_icmp_ne (q := 65) (tgt := 92) C (dm_Ju_judge 32 rfl) rfl (by decide) (fun c62 => ?_) (fun c62 => ?_)
        · refine gi_iload_n (q := 93) (i := 3) C (dm_Ju_judge 46 rfl) rfl rfl rfl ?_
          refine gi_iconst (q := 94) (v := 4) C (dm_Ju_judge 47 rfl) rfl (by decide) ?_
          refine gi_icmp_ne (q := 97) (tgt := 134) C (dm_Ju_judge 48 rfl) rfl (by decide) (fun c94 => ?_) (fun c94 => ?_)
          · refine gi_iload_n (q := 135) (i := 3) C (dm_Ju_judge 68 rfl) rfl rfl rfl ?_
            refine gi_iconst (q := 136) (v := 2) C (dm_Ju_judge 69 rfl) rfl (by decide) ?_
            refine gi_icmp_ne (q := 139) (tgt := 199) C (dm_Ju_judge 70 rfl) rfl (by decide) (fun c136 => ?_) (fun c136 => ?_)
            · refine gi_iload_n (q := 200) (i := 3) C (dm_Ju_judge 100 rfl) rfl rfl rfl ?_
              refine gi_iconst (q := 201) (v := 3) C (dm_Ju_judge 101 rfl) rfl (by decide) ?_
              refine gi_icmp_ne (q := 204) (tgt := 254) C (dm_Ju_judge 102 rfl) rfl (by decide) (fun c201 => ?_) (fun c201 => ?_)
              · refine gi_iconst (q := 255) (v := 1) C (dm_Ju_judge 129 rfl) rfl (by decide) ?_
                refine gi_iret C hr9 (dm_Ju_judge 130 rfl) ?_
                (try simp (disch := omega) only [jw1, jw2, jw3, jw4, jo10, jo11, jo28, jo30, jo31, jl29, jg31] at c16)
                (try simp (disch := omega) only [jw1, jw2, jw3, jw4, jo10, jo11, jo28, jo30, jo31, jl29, jg31] at c48)
                (try simp (disch := omega) only [jw1, jw2, jw3, jw4, jo10, jo11, jo28, jo30, jo31, jl29, jg31] at c55)
                (try simp (disch := omega) only [jw1, jw2, jw3, jw4, jo10, jo11, jo28, jo30, jo31, jl29, jg31] at c62)
                (try simp (disch := omega) only [jw1, jw2, jw3, jw4, jo10, jo11, jo28, jo30, jo31, jl29, jg31] at c94)
                (try simp (disch := omega) only [jw1, jw2, jw3, jw4, jo10, jo11, jo28, jo30, jo31, jl29, jg31] at c136)
                (try simp (disch := omega) only [jw1, jw2, jw3, jw4, jo10, jo11, jo28, jo30, jo31, jl29, jg31] at c201)
                refine ⟨?_, rfl, rfl⟩
                rw [ea]
                unfold jdR
                rw [if_neg (by omega), if_neg (by omega), if_neg (by omega), if_neg (by omega)]
              · refine gi_iload (q := 206) C (dm_Ju_judge 103 rfl) rfl rfl ?_
                refine gi_bipush (q := 208) (v := 30) C (dm_Ju_judge 104 rfl) rfl (by decide) ?_
                refine gi_icmp_eq (q := 211) (tgt := 218) C (dm_Ju_judge 105 rfl) rfl (by decide) (fun c208 => ?_) (fun c208 => ?_)
                · refine gi_aload (q := 220) C (dm_Ju_judge 109 rfl) rfl rfl ?_
                  refine gi_get (q := 223) C (dm_Ju_judge 110 rfl) rfl fl_Ju_37 (by first | exact hju0 | exact RO.1 | exact hv | exact hva) rfl ?_
                  refine gi_iconst (q := 224) (v := 1) C (dm_Ju_judge 111 rfl) rfl (by decide) ?_
                  refine gi_isub (q := 225) C (dm_Ju_judge 112 rfl) rfl ?_
                  refine gi_iload (q := 227) C (dm_Ju_judge 113 rfl) rfl rfl ?_
                  refine gi_bipush (q := 229) (v := 30) C (dm_Ju_judge 114 rfl) rfl (by decide) ?_
                  refine gi_isub (q := 230) C (dm_Ju_judge 115 rfl) rfl ?_
                  refine gi_isub (q := 231) C (dm_Ju_judge 116 rfl) rfl ?_
                  (try simp (disch := omega) only [jw1, jw2, jw3, jw4, jo10, jo11, jo28, jo30, jo31, jl29, jg31] at c16)
                  (try simp (disch := omega) only [jw1, jw2, jw3, jw4, jo10, jo11, jo28, jo30, jo31, jl29, jg31] at c48)
                  (try simp (disch := omega) only [jw1, jw2, jw3, jw4, jo10, jo11, jo28, jo30, jo31, jl29, jg31] at c55)
                  (try simp (disch := omega) only [jw1, jw2, jw3, jw4, jo10, jo11, jo28, jo30, jo31, jl29, jg31] at c62)
                  (try simp (disch := omega) only [jw1, jw2, jw3, jw4, jo10, jo11, jo28, jo30, jo31, jl29, jg31] at c94)
                  (try simp (disch := omega) only [jw1, jw2, jw3, jw4, jo10, jo11, jo28, jo30, jo31, jl29, jg31] at c136)
                  (try simp (disch := omega) only [jw1, jw2, jw3, jw4, jo10, jo11, jo28, jo30, jo31, jl29, jg31] at c201)
                  (try simp (disch := omega) only [jw1, jw2, jw3, jw4, jo10, jo11, jo28, jo30, jo31, jl29, jg31] at c208)
                  obtain ⟨q1, ⟨b, o, eB⟩, fY⟩ := j3 (by omega) (by omega)
                  obtain ⟨Y, eY, oY⟩ := fY (by omega)
                  rw [RG.1, show (1 : Int32) = nI 1 from rfl, show (30 : Int32) = nI 30 from rfl, nI_sb (by omega) (by omega), nI_sb (by omega) (by omega), nI_sb (by omega) (by omega)]
                  have e9 := (RG.2 (q - 1 - (op - 29)) (by omega)).1
                  rw [eB] at e9
                  have hva : h ((Φ (60 * m' + i)).1 (q - 1 - (op - 29))) = some (eV (tV b o)) := by
                    have := rv_at RO (show q - 1 - (op - 29) < 14 by omega)
                    rw [e9] at this
                    exact this
                  have e8 := (RG.2 (q - 1 - (op - 30)) (by omega)).1
                  rw [eY] at e8
                  have hvi : h ((Φ (60 * m' + i)).1 (q - 1 - (op - 30))) = some (eV (sV Y)) := by
                    have := rv_at RO (show q - 1 - (op - 30) < 14 by omega)
                    rw [e8] at this
                    exact this
                  have e7 : q - 1 - (op - 30) - 1 = q - 1 - (op - 29) := by omega
                  refine gi_istore (q := 233) C (dm_Ju_judge 117 rfl) rfl (Nat.le_of_ble_eq_true rfl) ?_
                  refine gi_aload_n (q := 234) (i := 0) C (dm_Ju_judge 118 rfl) rfl rfl rfl ?_
                  refine gi_aload (q := 236) C (dm_Ju_judge 119 rfl) rfl rfl ?_
                  refine gi_iload (q := 238) C (dm_Ju_judge 120 rfl) rfl rfl ?_
                  refine gi_iconst (q := 239) (v := 1) C (dm_Ju_judge 121 rfl) rfl (by decide) ?_
                  refine gi_isub (q := 240) C (dm_Ju_judge 122 rfl) rfl ?_
                  rw [show (1 : Int32) = nI 1 from rfl, nI_sb (by omega) (by omega), e7]
                  refine gi_callv 1 (q := 243) C (dm_Ju_judge 123 rfl) rfl my_Ro_valueAt lk_Ju_41 im_Ro_valueAt rfl (c_Ro_valueAt (j := q - 1 - (op - 29)) (by omega) (by omega) RO) RO.1 rfl rfl ⟨(Nat.le_of_ble_eq_true rfl), (Nat.le_of_ble_eq_true rfl)⟩ (Nat.le_of_ble_eq_true rfl) ⟨(Nat.le_of_ble_eq_true rfl), (Nat.le_of_ble_eq_true rfl)⟩ (fun r240 n240 h240 e240 => ?_)
                  obtain ⟨rfl, q240, u240⟩ := e240
                  rw [q240, u240]
                  refine gi_aload (q := 245) C (dm_Ju_judge 124 rfl) rfl rfl ?_
                  refine gi_iload (q := 247) C (dm_Ju_judge 125 rfl) rfl rfl ?_
                  refine gi_callv 1 (q := 250) C (dm_Ju_judge 126 rfl) rfl my_Ro_valueAt lk_Ju_41 im_Ro_valueAt rfl (c_Ro_valueAt (j := q - 1 - (op - 30)) (by omega) (by omega) RO) RO.1 rfl rfl ⟨(Nat.le_of_ble_eq_true rfl), (Nat.le_of_ble_eq_true rfl)⟩ (Nat.le_of_ble_eq_true rfl) ⟨(Nat.le_of_ble_eq_true rfl), (Nat.le_of_ble_eq_true rfl)⟩ (fun r247 n247 h247 e247 => ?_)
                  obtain ⟨rfl, q247, u247⟩ := e247
                  rw [q247, u247]
                  refine gi_callv 2 (q := 253) C (dm_Ju_judge 127 rfl) rfl my_Ju_judgeIndex lk_Ju_68 im_Ju_judgeIndex rfl (c_Ju_judgeIndex b o Y _ _ hr hju0 HC R hva hvi oY) hju0 rfl rfl ⟨(Nat.le_of_ble_eq_true rfl), (Nat.le_of_ble_eq_true rfl)⟩ (Nat.le_of_ble_eq_true rfl) ⟨(Nat.le_of_ble_eq_true rfl), (Nat.le_of_ble_eq_true rfl)⟩ (fun r250 n250 h250 e250 => ?_)
                  obtain ⟨rfl, q250, u250⟩ := e250
                  rw [q250, u250]
                  refine gi_iret C hr9 (dm_Ju_judge 128 rfl) ?_
                  (try simp (disch := omega) only [jw1, jw2, jw3, jw4, jo10, jo11, jo28, jo30, jo31, jl29, jg31] at c16)
                  (try simp (disch := omega) only [jw1, jw2, jw3, jw4, jo10, jo11, jo28, jo30, jo31, jl29, jg31] at c48)
                  (try simp (disch := omega) only [jw1, jw2, jw3, jw4, jo10, jo11, jo28, jo30, jo31, jl29, jg31] at c55)
                  (try simp (disch := omega) only [jw1, jw2, jw3, jw4, jo10, jo11, jo28, jo30, jo31, jl29, jg31] at c62)
                  (try simp (disch := omega) only [jw1, jw2, jw3, jw4, jo10, jo11, jo28, jo30, jo31, jl29, jg31] at c94)
                  (try simp (disch := omega) only [jw1, jw2, jw3, jw4, jo10, jo11, jo28, jo30, jo31, jl29, jg31] at c136)
                  (try simp (disch := omega) only [jw1, jw2, jw3, jw4, jo10, jo11, jo28, jo30, jo31, jl29, jg31] at c201)
                  (try simp (disch := omega) only [jw1, jw2, jw3, jw4, jo10, jo11, jo28, jo30, jo31, jl29, jg31] at c208)
                  refine ⟨?_, rfl, rfl⟩
                  rw [ea]
                  unfold jdR
                  rw [if_neg (by omega), if_neg (by omega), if_neg (by omega), if_pos (by omega), e7, eB, eY]
                  rfl
                · refine gi_iload (q := 213) C (dm_Ju_judge 106 rfl) rfl rfl ?_
                  refine gi_bipush (q := 215) (v := 31) C (dm_Ju_judge 107 rfl) rfl (by decide) ?_
                  refine gi_icmp_ne (q := 218) (tgt := 254) C (dm_Ju_judge 108 rfl) rfl (by decide) (fun c215 => ?_) (fun c215 => ?_)
                  · refine gi_iconst (q := 255) (v := 1) C (dm_Ju_judge 129 rfl) rfl (by decide) ?_
                    refine gi_iret C hr9 (dm_Ju_judge 130 rfl) ?_
                    (try simp (disch := omega) only [jw1, jw2, jw3, jw4, jo10, jo11, jo28, jo30, jo31, jl29, jg31] at c16)
                    (try simp (disch := omega) only [jw1, jw2, jw3, jw4, jo10, jo11, jo28, jo30, jo31, jl29, jg31] at c48)
                    (try simp (disch := omega) only [jw1, jw2, jw3, jw4, jo10, jo11, jo28, jo30, jo31, jl29, jg31] at c55)
                    (try simp (disch := omega) only [jw1, jw2, jw3, jw4, jo10, jo11, jo28, jo30, jo31, jl29, jg31] at c62)
                    (try simp (disch := omega) only [jw1, jw2, jw3, jw4, jo10, jo11, jo28, jo30, jo31, jl29, jg31] at c94)
                    (try simp (disch := omega) only [jw1, jw2, jw3, jw4, jo10, jo11, jo28, jo30, jo31, jl29, jg31] at c136)
                    (try simp (disch := omega) only [jw1, jw2, jw3, jw4, jo10, jo11, jo28, jo30, jo31, jl29, jg31] at c201)
                    (try simp (disch := omega) only [jw1, jw2, jw3, jw4, jo10, jo11, jo28, jo30, jo31, jl29, jg31] at c208)
                    (try simp (disch := omega) only [jw1, jw2, jw3, jw4, jo10, jo11, jo28, jo30, jo31, jl29, jg31] at c215)
                    refine ⟨?_, rfl, rfl⟩
                    rw [ea]
                    unfold jdR
                    rw [if_neg (by omega), if_neg (by omega), if_neg (by omega), if_neg (by omega)]
                  · refine gi_aload (q := 220) C (dm_Ju_judge 109 rfl) rfl rfl ?_
                    refine gi_get (q := 223) C (dm_Ju_judge 110 rfl) rfl fl_Ju_37 (by first | exact hju0 | exact RO.1 | exact hv | exact hva) rfl ?_
                    refine gi_iconst (q := 224) (v := 1) C (dm_Ju_judge 111 rfl) rfl (by decide) ?_
                    refine gi_isub (q := 225) C (dm_Ju_judge 112 rfl) rfl ?_
                    refine gi_iload (q := 227) C (dm_Ju_judge 113 rfl) rfl rfl ?_
                    refine gi_bipush (q := 229) (v := 30) C (dm_Ju_judge 114 rfl) rfl (by decide) ?_
                    refine gi_isub (q := 230) C (dm_Ju_judge 115 rfl) rfl ?_
                    refine gi_isub (q := 231) C (dm_Ju_judge 116 rfl) rfl ?_
                    (try simp (disch := omega) only [jw1, jw2, jw3, jw4, jo10, jo11, jo28, jo30, jo31, jl29, jg31] at c16)
                    (try simp (disch := omega) only [jw1, jw2, jw3, jw4, jo10, jo11, jo28, jo30, jo31, jl29, jg31] at c48)
                    (try simp (disch := omega) only [jw1, jw2, jw3, jw4, jo10, jo11, jo28, jo30, jo31, jl29, jg31] at c55)
                    (try simp (disch := omega) only [jw1, jw2, jw3, jw4, jo10, jo11, jo28, jo30, jo31, jl29, jg31] at c62)
                    (try simp (disch := omega) only [jw1, jw2, jw3, jw4, jo10, jo11, jo28, jo30, jo31, jl29, jg31] at c94)
                    (try simp (disch := omega) only [jw1, jw2, jw3, jw4, jo10, jo11, jo28, jo30, jo31, jl29, jg31] at c136)
                    (try simp (disch := omega) only [jw1, jw2, jw3, jw4, jo10, jo11, jo28, jo30, jo31, jl29, jg31] at c201)
                    (try simp (disch := omega) only [jw1, jw2, jw3, jw4, jo10, jo11, jo28, jo30, jo31, jl29, jg31] at c208)
                    (try simp (disch := omega) only [jw1, jw2, jw3, jw4, jo10, jo11, jo28, jo30, jo31, jl29, jg31] at c215)
                    obtain ⟨q1, ⟨b, o, eB⟩, fY⟩ := j3 (by omega) (by omega)
                    obtain ⟨Y, eY, oY⟩ := fY (by omega)
                    rw [RG.1, show (1 : Int32) = nI 1 from rfl, show (30 : Int32) = nI 30 from rfl, nI_sb (by omega) (by omega), nI_sb (by omega) (by omega), nI_sb (by omega) (by omega)]
                    have e9 := (RG.2 (q - 1 - (op - 29)) (by omega)).1
                    rw [eB] at e9
                    have hva : h ((Φ (60 * m' + i)).1 (q - 1 - (op - 29))) = some (eV (tV b o)) := by
                      have := rv_at RO (show q - 1 - (op - 29) < 14 by omega)
                      rw [e9] at this
                      exact this
                    have e8 := (RG.2 (q - 1 - (op - 30)) (by omega)).1
                    rw [eY] at e8
                    have hvi : h ((Φ (60 * m' + i)).1 (q - 1 - (op - 30))) = some (eV (sV Y)) := by
                      have := rv_at RO (show q - 1 - (op - 30) < 14 by omega)
                      rw [e8] at this
                      exact this
                    have e7 : q - 1 - (op - 30) - 1 = q - 1 - (op - 29) := by omega
                    refine gi_istore (q := 233) C (dm_Ju_judge 117 rfl) rfl (Nat.le_of_ble_eq_true rfl) ?_
                    refine gi_aload_n (q := 234) (i := 0) C (dm_Ju_judge 118 rfl) rfl rfl rfl ?_
                    refine gi_aload (q := 236) C (dm_Ju_judge 119 rfl) rfl rfl ?_
                    refine gi_iload (q := 238) C (dm_Ju_judge 120 rfl) rfl rfl ?_
                    refine gi_iconst (q := 239) (v := 1) C (dm_Ju_judge 121 rfl) rfl (by decide) ?_
                    refine gi_isub (q := 240) C (dm_Ju_judge 122 rfl) rfl ?_
                    rw [show (1 : Int32) = nI 1 from rfl, nI_sb (by omega) (by omega), e7]
                    refine gi_callv 1 (q := 243) C (dm_Ju_judge 123 rfl) rfl my_Ro_valueAt lk_Ju_41 im_Ro_valueAt rfl (c_Ro_valueAt (j := q - 1 - (op - 29)) (by omega) (by omega) RO) RO.1 rfl rfl ⟨(Nat.le_of_ble_eq_true rfl), (Nat.le_of_ble_eq_true rfl)⟩ (Nat.le_of_ble_eq_true rfl) ⟨(Nat.le_of_ble_eq_true rfl), (Nat.le_of_ble_eq_true rfl)⟩ (fun r240 n240 h240 e240 => ?_)
                    obtain ⟨rfl, q240, u240⟩ := e240
                    rw [q240, u240]
                    refine gi_aload (q := 245) C (dm_Ju_judge 124 rfl) rfl rfl ?_
                    refine gi_iload (q := 247) C (dm_Ju_judge 125 rfl) rfl rfl ?_
                    refine gi_callv 1 (q := 250) C (dm_Ju_judge 126 rfl) rfl my_Ro_valueAt lk_Ju_41 im_Ro_valueAt rfl (c_Ro_valueAt (j := q - 1 - (op - 30)) (by omega) (by omega) RO) RO.1 rfl rfl ⟨(Nat.le_of_ble_eq_true rfl), (Nat.le_of_ble_eq_true rfl)⟩ (Nat.le_of_ble_eq_true rfl) ⟨(Nat.le_of_ble_eq_true rfl), (Nat.le_of_ble_eq_true rfl)⟩ (fun r247 n247 h247 e247 => ?_)
                    obtain ⟨rfl, q247, u247⟩ := e247
                    rw [q247, u247]
                    refine gi_callv 2 (q := 253) C (dm_Ju_judge 127 rfl) rfl my_Ju_judgeIndex lk_Ju_68 im_Ju_judgeIndex rfl (c_Ju_judgeIndex b o Y _ _ hr hju0 HC R hva hvi oY) hju0 rfl rfl ⟨(Nat.le_of_ble_eq_true rfl), (Nat.le_of_ble_eq_true rfl)⟩ (Nat.le_of_ble_eq_true rfl) ⟨(Nat.le_of_ble_eq_true rfl), (Nat.le_of_ble_eq_true rfl)⟩ (fun r250 n250 h250 e250 => ?_)
                    obtain ⟨rfl, q250, u250⟩ := e250
                    rw [q250, u250]
                    refine gi_iret C hr9 (dm_Ju_judge 128 rfl) ?_
                    (try simp (disch := omega) only [jw1, jw2, jw3, jw4, jo10, jo11, jo28, jo30, jo31, jl29, jg31] at c16)
                    (try simp (disch := omega) only [jw1, jw2, jw3, jw4, jo10, jo11, jo28, jo30, jo31, jl29, jg31] at c48)
                    (try simp (disch := omega) only [jw1, jw2, jw3, jw4, jo10, jo11, jo28, jo30, jo31, jl29, jg31] at c55)
                    (try simp (disch := omega) only [jw1, jw2, jw3, jw4, jo10, jo11, jo28, jo30, jo31, jl29, jg31] at c62)
                    (try simp (disch := omega) only [jw1, jw2, jw3, jw4, jo10, jo11, jo28, jo30, jo31, jl29, jg31] at c94)
                    (try simp (disch := omega) only [jw1, jw2, jw3, jw4, jo10, jo11, jo28, jo30, jo31, jl29, jg31] at c136)
                    (try simp (disch := omega) only [jw1, jw2, jw3, jw4, jo10, jo11, jo28, jo30, jo31, jl29, jg31] at c201)
                    (try simp (disch := omega) only [jw1, jw2, jw3, jw4, jo10, jo11, jo28, jo30, jo31, jl29, jg31] at c208)
                    (try simp (disch := omega) only [jw1, jw2, jw3, jw4, jo10, jo11, jo28, jo30, jo31, jl29, jg31] at c215)
                    refine ⟨?_, rfl, rfl⟩
                    rw [ea]
                    unfold jdR
                    rw [if_neg (by omega), if_neg (by omega), if_neg (by omega), if_pos (by omega), e7, eB, eY]
                    rfl
            · refine gi_iload (q := 141) C (dm_Ju_judge 71 rfl) rfl rfl ?_
              refine gi_bipush (q := 143) (v := 29) C (dm_Ju_judge 72 rfl) rfl (by decide) ?_
              refine gi_icmp_lt (q := 146) (tgt := 199) C (dm_Ju_judge 73 rfl) rfl (by decide) (fun c143 => ?_) (fun c143 => ?_)
              · refine gi_iload_n (q := 200) (i := 3) C (dm_Ju_judge 100 rfl) rfl rfl rfl ?_
                refine gi_iconst (q := 201) (v := 3) C (dm_Ju_judge 101 rfl) rfl (by decide) ?_
                refine gi_icmp_ne (q := 204) (tgt := 254) C (dm_Ju_judge 102 rfl) rfl (by decide) (fun c201 => ?_) (fun c201 => ?_)
                · refine gi_iconst (q := 255) (v := 1) C (dm_Ju_judge 129 rfl) rfl (by decide) ?_
                  refine gi_iret C hr9 (dm_Ju_judge 130 rfl) ?_
                  (try simp (disch := omega) only [jw1, jw2, jw3, jw4, jo10, jo11, jo28, jo30, jo31, jl29, jg31] at c16)
                  (try simp (disch := omega) only [jw1, jw2, jw3, jw4, jo10, jo11, jo28, jo30, jo31, jl29, jg31] at c48)
                  (try simp (disch := omega) only [jw1, jw2, jw3, jw4, jo10, jo11, jo28, jo30, jo31, jl29, jg31] at c55)
                  (try simp (disch := omega) only [jw1, jw2, jw3, jw4, jo10, jo11, jo28, jo30, jo31, jl29, jg31] at c62)
                  (try simp (disch := omega) only [jw1, jw2, jw3, jw4, jo10, jo11, jo28, jo30, jo31, jl29, jg31] at c94)
                  (try simp (disch := omega) only [jw1, jw2, jw3, jw4, jo10, jo11, jo28, jo30, jo31, jl29, jg31] at c136)
                  (try simp (disch := omega) only [jw1, jw2, jw3, jw4, jo10, jo11, jo28, jo30, jo31, jl29, jg31] at c143)
                  (try simp (disch := omega) only [jw1, jw2, jw3, jw4, jo10, jo11, jo28, jo30, jo31, jl29, jg31] at c201)
                  refine ⟨?_, rfl, rfl⟩
                  rw [ea]
                  unfold jdR
                  rw [if_neg (by omega), if_neg (by omega), if_neg (by omega), if_neg (by omega)]
                · refine gi_iload (q := 206) C (dm_Ju_judge 103 rfl) rfl rfl ?_
                  refine gi_bipush (q := 208) (v := 30) C (dm_Ju_judge 104 rfl) rfl (by decide) ?_
                  refine gi_icmp_eq (q := 211) (tgt := 218) C (dm_Ju_judge 105 rfl) rfl (by decide) (fun c208 => ?_) (fun c208 => ?_)
                  · refine gi_aload (q := 220) C (dm_Ju_judge 109 rfl) rfl rfl ?_
                    refine gi_get (q := 223) C (dm_Ju_judge 110 rfl) rfl fl_Ju_37 (by first | exact hju0 | exact RO.1 | exact hv | exact hva) rfl ?_
                    refine gi_iconst (q := 224) (v := 1) C (dm_Ju_judge 111 rfl) rfl (by decide) ?_
                    refine gi_isub (q := 225) C (dm_Ju_judge 112 rfl) rfl ?_
                    refine gi_iload (q := 227) C (dm_Ju_judge 113 rfl) rfl rfl ?_
                    refine gi_bipush (q := 229) (v := 30) C (dm_Ju_judge 114 rfl) rfl (by decide) ?_
                    refine gi_isub (q := 230) C (dm_Ju_judge 115 rfl) rfl ?_
                    refine gi_isub (q := 231) C (dm_Ju_judge 116 rfl) rfl ?_
                    (try simp (disch := omega) only [jw1, jw2, jw3, jw4, jo10, jo11, jo28, jo30, jo31, jl29, jg31] at c16)
                    (try simp (disch := omega) only [jw1, jw2, jw3, jw4, jo10, jo11, jo28, jo30, jo31, jl29, jg31] at c48)
                    (try simp (disch := omega) only [jw1, jw2, jw3, jw4, jo10, jo11, jo28, jo30, jo31, jl29, jg31] at c55)
                    (try simp (disch := omega) only [jw1, jw2, jw3, jw4, jo10, jo11, jo28, jo30, jo31, jl29, jg31] at c62)
                    (try simp (disch := omega) only [jw1, jw2, jw3, jw4, jo10, jo11, jo28, jo30, jo31, jl29, jg31] at c94)
                    (try simp (disch := omega) only [jw1, jw2, jw3, jw4, jo10, jo11, jo28, jo30, jo31, jl29, jg31] at c136)
                    (try simp (disch := omega) only [jw1, jw2, jw3, jw4, jo10, jo11, jo28, jo30, jo31, jl29, jg31] at c143)
                    (try simp (disch := omega) only [jw1, jw2, jw3, jw4, jo10, jo11, jo28, jo30, jo31, jl29, jg31] at c201)
                    (try simp (disch := omega) only [jw1, jw2, jw3, jw4, jo10, jo11, jo28, jo30, jo31, jl29, jg31] at c208)
                    obtain ⟨q1, ⟨b, o, eB⟩, fY⟩ := j3 (by omega) (by omega)
                    obtain ⟨Y, eY, oY⟩ := fY (by omega)
                    rw [RG.1, show (1 : Int32) = nI 1 from rfl, show (30 : Int32) = nI 30 from rfl, nI_sb (by omega) (by omega), nI_sb (by omega) (by omega), nI_sb (by omega) (by omega)]
                    have e9 := (RG.2 (q - 1 - (op - 29)) (by omega)).1
                    rw [eB] at e9
                    have hva : h ((Φ (60 * m' + i)).1 (q - 1 - (op - 29))) = some (eV (tV b o)) := by
                      have := rv_at RO (show q - 1 - (op - 29) < 14 by omega)
                      rw [e9] at this
                      exact this
                    have e8 := (RG.2 (q - 1 - (op - 30)) (by omega)).1
                    rw [eY] at e8
                    have hvi : h ((Φ (60 * m' + i)).1 (q - 1 - (op - 30))) = some (eV (sV Y)) := by
                      have := rv_at RO (show q - 1 - (op - 30) < 14 by omega)
                      rw [e8] at this
                      exact this
                    have e7 : q - 1 - (op - 30) - 1 = q - 1 - (op - 29) := by omega
                    refine gi_istore (q := 233) C (dm_Ju_judge 117 rfl) rfl (Nat.le_of_ble_eq_true rfl) ?_
                    refine gi_aload_n (q := 234) (i := 0) C (dm_Ju_judge 118 rfl) rfl rfl rfl ?_
                    refine gi_aload (q := 236) C (dm_Ju_judge 119 rfl) rfl rfl ?_
                    refine gi_iload (q := 238) C (dm_Ju_judge 120 rfl) rfl rfl ?_
                    refine gi_iconst (q := 239) (v := 1) C (dm_Ju_judge 121 rfl) rfl (by decide) ?_
                    refine gi_isub (q := 240) C (dm_Ju_judge 122 rfl) rfl ?_
                    rw [show (1 : Int32) = nI 1 from rfl, nI_sb (by omega) (by omega), e7]
                    refine gi_callv 1 (q := 243) C (dm_Ju_judge 123 rfl) rfl my_Ro_valueAt lk_Ju_41 im_Ro_valueAt rfl (c_Ro_valueAt (j := q - 1 - (op - 29)) (by omega) (by omega) RO) RO.1 rfl rfl ⟨(Nat.le_of_ble_eq_true rfl), (Nat.le_of_ble_eq_true rfl)⟩ (Nat.le_of_ble_eq_true rfl) ⟨(Nat.le_of_ble_eq_true rfl), (Nat.le_of_ble_eq_true rfl)⟩ (fun r240 n240 h240 e240 => ?_)
                    obtain ⟨rfl, q240, u240⟩ := e240
                    rw [q240, u240]
                    refine gi_aload (q := 245) C (dm_Ju_judge 124 rfl) rfl rfl ?_
                    refine gi_iload (q := 247) C (dm_Ju_judge 125 rfl) rfl rfl ?_
                    refine gi_callv 1 (q := 250) C (dm_Ju_judge 126 rfl) rfl my_Ro_valueAt lk_Ju_41 im_Ro_valueAt rfl (c_Ro_valueAt (j := q - 1 - (op - 30)) (by omega) (by omega) RO) RO.1 rfl rfl ⟨(Nat.le_of_ble_eq_true rfl), (Nat.le_of_ble_eq_true rfl)⟩ (Nat.le_of_ble_eq_true rfl) ⟨(Nat.le_of_ble_eq_true rfl), (Nat.le_of_ble_eq_true rfl)⟩ (fun r247 n247 h247 e247 => ?_)
                    obtain ⟨rfl, q247, u247⟩ := e247
                    rw [q247, u247]
                    refine gi_callv 2 (q := 253) C (dm_Ju_judge 127 rfl) rfl my_Ju_judgeIndex lk_Ju_68 im_Ju_judgeIndex rfl (c_Ju_judgeIndex b o Y _ _ hr hju0 HC R hva hvi oY) hju0 rfl rfl ⟨(Nat.le_of_ble_eq_true rfl), (Nat.le_of_ble_eq_true rfl)⟩ (Nat.le_of_ble_eq_true rfl) ⟨(Nat.le_of_ble_eq_true rfl), (Nat.le_of_ble_eq_true rfl)⟩ (fun r250 n250 h250 e250 => ?_)
                    obtain ⟨rfl, q250, u250⟩ := e250
                    rw [q250, u250]
                    refine gi_iret C hr9 (dm_Ju_judge 128 rfl) ?_
                    (try simp (disch := omega) only [jw1, jw2, jw3, jw4, jo10, jo11, jo28, jo30, jo31, jl29, jg31] at c16)
                    (try simp (disch := omega) only [jw1, jw2, jw3, jw4, jo10, jo11, jo28, jo30, jo31, jl29, jg31] at c48)
                    (try simp (disch := omega) only [jw1, jw2, jw3, jw4, jo10, jo11, jo28, jo30, jo31, jl29, jg31] at c55)
                    (try simp (disch := omega) only [jw1, jw2, jw3, jw4, jo10, jo11, jo28, jo30, jo31, jl29, jg31] at c62)
                    (try simp (disch := omega) only [jw1, jw2, jw3, jw4, jo10, jo11, jo28, jo30, jo31, jl29, jg31] at c94)
                    (try simp (disch := omega) only [jw1, jw2, jw3, jw4, jo10, jo11, jo28, jo30, jo31, jl29, jg31] at c136)
                    (try simp (disch := omega) only [jw1, jw2, jw3, jw4, jo10, jo11, jo28, jo30, jo31, jl29, jg31] at c143)
                    (try simp (disch := omega) only [jw1, jw2, jw3, jw4, jo10, jo11, jo28, jo30, jo31, jl29, jg31] at c201)
                    (try simp (disch := omega) only [jw1, jw2, jw3, jw4, jo10, jo11, jo28, jo30, jo31, jl29, jg31] at c208)
                    refine ⟨?_, rfl, rfl⟩
                    rw [ea]
                    unfold jdR
                    rw [if_neg (by omega), if_neg (by omega), if_neg (by omega), if_pos (by omega), e7, eB, eY]
                    rfl
                  · refine gi_iload (q := 213) C (dm_Ju_judge 106 rfl) rfl rfl ?_
                    refine gi_bipush (q := 215) (v := 31) C (dm_Ju_judge 107 rfl) rfl (by decide) ?_
                    refine gi_icmp_ne (q := 218) (tgt := 254) C (dm_Ju_judge 108 rfl) rfl (by decide) (fun c215 => ?_) (fun c215 => ?_)
                    · refine gi_iconst (q := 255) (v := 1) C (dm_Ju_judge 129 rfl) rfl (by decide) ?_
                      refine gi_iret C hr9 (dm_Ju_judge 130 rfl) ?_
                      (try simp (disch := omega) only [jw1, jw2, jw3, jw4, jo10, jo11, jo28, jo30, jo31, jl29, jg31] at c16)
                      (try simp (disch := omega) only [jw1, jw2, jw3, jw4, jo10, jo11, jo28, jo30, jo31, jl29, jg31] at c48)
                      (try simp (disch := omega) only [jw1, jw2, jw3, jw4, jo10, jo11, jo28, jo30, jo31, jl29, jg31] at c55)
                      (try simp (disch := omega) only [jw1, jw2, jw3, jw4, jo10, jo11, jo28, jo30, jo31, jl29, jg31] at c62)
                      (try simp (disch := omega) only [jw1, jw2, jw3, jw4, jo10, jo11, jo28, jo30, jo31, jl29, jg31] at c94)
                      (try simp (disch := omega) only [jw1, jw2, jw3, jw4, jo10, jo11, jo28, jo30, jo31, jl29, jg31] at c136)
                      (try simp (disch := omega) only [jw1, jw2, jw3, jw4, jo10, jo11, jo28, jo30, jo31, jl29, jg31] at c143)
                      (try simp (disch := omega) only [jw1, jw2, jw3, jw4, jo10, jo11, jo28, jo30, jo31, jl29, jg31] at c201)
                      (try simp (disch := omega) only [jw1, jw2, jw3, jw4, jo10, jo11, jo28, jo30, jo31, jl29, jg31] at c208)
                      (try simp (disch := omega) only [jw1, jw2, jw3, jw4, jo10, jo11, jo28, jo30, jo31, jl29, jg31] at c215)
                      refine ⟨?_, rfl, rfl⟩
                      rw [ea]
                      unfold jdR
                      rw [if_neg (by omega), if_neg (by omega), if_neg (by omega), if_neg (by omega)]
                    · refine gi_aload (q := 220) C (dm_Ju_judge 109 rfl) rfl rfl ?_
                      refine gi_get (q := 223) C (dm_Ju_judge 110 rfl) rfl fl_Ju_37 (by first | exact hju0 | exact RO.1 | exact hv | exact hva) rfl ?_
                      refine gi_iconst (q := 224) (v := 1) C (dm_Ju_judge 111 rfl) rfl (by decide) ?_
                      refine gi_isub (q := 225) C (dm_Ju_judge 112 rfl) rfl ?_
                      refine gi_iload (q := 227) C (dm_Ju_judge 113 rfl) rfl rfl ?_
                      refine gi_bipush (q := 229) (v := 30) C (dm_Ju_judge 114 rfl) rfl (by decide) ?_
                      refine gi_isub (q := 230) C (dm_Ju_judge 115 rfl) rfl ?_
                      refine gi_isub (q := 231) C (dm_Ju_judge 116 rfl) rfl ?_
                      (try simp (disch := omega) only [jw1, jw2, jw3, jw4, jo10, jo11, jo28, jo30, jo31, jl29, jg31] at c16)
                      (try simp (disch := omega) only [jw1, jw2, jw3, jw4, jo10, jo11, jo28, jo30, jo31, jl29, jg31] at c48)
                      (try simp (disch := omega) only [jw1, jw2, jw3, jw4, jo10, jo11, jo28, jo30, jo31, jl29, jg31] at c55)
                      (try simp (disch := omega) only [jw1, jw2, jw3, jw4, jo10, jo11, jo28, jo30, jo31, jl29, jg31] at c62)
                      (try simp (disch := omega) only [jw1, jw2, jw3, jw4, jo10, jo11, jo28, jo30, jo31, jl29, jg31] at c94)
                      (try simp (disch := omega) only [jw1, jw2, jw3, jw4, jo10, jo11, jo28, jo30, jo31, jl29, jg31] at c136)
                      (try simp (disch := omega) only [jw1, jw2, jw3, jw4, jo10, jo11, jo28, jo30, jo31, jl29, jg31] at c143)
                      (try simp (disch := omega) only [jw1, jw2, jw3, jw4, jo10, jo11, jo28, jo30, jo31, jl29, jg31] at c201)
                      (try simp (disch := omega) only [jw1, jw2, jw3, jw4, jo10, jo11, jo28, jo30, jo31, jl29, jg31] at c208)
                      (try simp (disch := omega) only [jw1, jw2, jw3, jw4, jo10, jo11, jo28, jo30, jo31, jl29, jg31] at c215)
                      obtain ⟨q1, ⟨b, o, eB⟩, fY⟩ := j3 (by omega) (by omega)
                      obtain ⟨Y, eY, oY⟩ := fY (by omega)
                      rw [RG.1, show (1 : Int32) = nI 1 from rfl, show (30 : Int32) = nI 30 from rfl, nI_sb (by omega) (by omega), nI_sb (by omega) (by omega), nI_sb (by omega) (by omega)]
                      have e9 := (RG.2 (q - 1 - (op - 29)) (by omega)).1
                      rw [eB] at e9
                      have hva : h ((Φ (60 * m' + i)).1 (q - 1 - (op - 29))) = some (eV (tV b o)) := by
                        have := rv_at RO (show q - 1 - (op - 29) < 14 by omega)
                        rw [e9] at this
                        exact this
                      have e8 := (RG.2 (q - 1 - (op - 30)) (by omega)).1
                      rw [eY] at e8
                      have hvi : h ((Φ (60 * m' + i)).1 (q - 1 - (op - 30))) = some (eV (sV Y)) := by
                        have := rv_at RO (show q - 1 - (op - 30) < 14 by omega)
                        rw [e8] at this
                        exact this
                      have e7 : q - 1 - (op - 30) - 1 = q - 1 - (op - 29) := by omega
                      refine gi_istore (q := 233) C (dm_Ju_judge 117 rfl) rfl (Nat.le_of_ble_eq_true rfl) ?_
                      refine gi_aload_n (q := 234) (i := 0) C (dm_Ju_judge 118 rfl) rfl rfl rfl ?_
                      refine gi_aload (q := 236) C (dm_Ju_judge 119 rfl) rfl rfl ?_
                      refine gi_iload (q := 238) C (dm_Ju_judge 120 rfl) rfl rfl ?_
                      refine gi_iconst (q := 239) (v := 1) C (dm_Ju_judge 121 rfl) rfl (by decide) ?_
                      refine gi_isub (q := 240) C (dm_Ju_judge 122 rfl) rfl ?_
                      rw [show (1 : Int32) = nI 1 from rfl, nI_sb (by omega) (by omega), e7]
                      refine gi_callv 1 (q := 243) C (dm_Ju_judge 123 rfl) rfl my_Ro_valueAt lk_Ju_41 im_Ro_valueAt rfl (c_Ro_valueAt (j := q - 1 - (op - 29)) (by omega) (by omega) RO) RO.1 rfl rfl ⟨(Nat.le_of_ble_eq_true rfl), (Nat.le_of_ble_eq_true rfl)⟩ (Nat.le_of_ble_eq_true rfl) ⟨(Nat.le_of_ble_eq_true rfl), (Nat.le_of_ble_eq_true rfl)⟩ (fun r240 n240 h240 e240 => ?_)
                      obtain ⟨rfl, q240, u240⟩ := e240
                      rw [q240, u240]
                      refine gi_aload (q := 245) C (dm_Ju_judge 124 rfl) rfl rfl ?_
                      refine gi_iload (q := 247) C (dm_Ju_judge 125 rfl) rfl rfl ?_
                      refine gi_callv 1 (q := 250) C (dm_Ju_judge 126 rfl) rfl my_Ro_valueAt lk_Ju_41 im_Ro_valueAt rfl (c_Ro_valueAt (j := q - 1 - (op - 30)) (by omega) (by omega) RO) RO.1 rfl rfl ⟨(Nat.le_of_ble_eq_true rfl), (Nat.le_of_ble_eq_true rfl)⟩ (Nat.le_of_ble_eq_true rfl) ⟨(Nat.le_of_ble_eq_true rfl), (Nat.le_of_ble_eq_true rfl)⟩ (fun r247 n247 h247 e247 => ?_)
                      obtain ⟨rfl, q247, u247⟩ := e247
                      rw [q247, u247]
                      refine gi_callv 2 (q := 253) C (dm_Ju_judge 127 rfl) rfl my_Ju_judgeIndex lk_Ju_68 im_Ju_judgeIndex rfl (c_Ju_judgeIndex b o Y _ _ hr hju0 HC R hva hvi oY) hju0 rfl rfl ⟨(Nat.le_of_ble_eq_true rfl), (Nat.le_of_ble_eq_true rfl)⟩ (Nat.le_of_ble_eq_true rfl) ⟨(Nat.le_of_ble_eq_true rfl), (Nat.le_of_ble_eq_true rfl)⟩ (fun r250 n250 h250 e250 => ?_)
                      obtain ⟨rfl, q250, u250⟩ := e250
                      rw [q250, u250]
                      refine gi_iret C hr9 (dm_Ju_judge 128 rfl) ?_
                      (try simp (disch := omega) only [jw1, jw2, jw3, jw4, jo10, jo11, jo28, jo30, jo31, jl29, jg31] at c16)
                      (try simp (disch := omega) only [jw1, jw2, jw3, jw4, jo10, jo11, jo28, jo30, jo31, jl29, jg31] at c48)
                      (try simp (disch := omega) only [jw1, jw2, jw3, jw4, jo10, jo11, jo28, jo30, jo31, jl29, jg31] at c55)
                      (try simp (disch := omega) only [jw1, jw2, jw3, jw4, jo10, jo11, jo28, jo30, jo31, jl29, jg31] at c62)
                      (try simp (disch := omega) only [jw1, jw2, jw3, jw4, jo10, jo11, jo28, jo30, jo31, jl29, jg31] at c94)
                      (try simp (disch := omega) only [jw1, jw2, jw3, jw4, jo10, jo11, jo28, jo30, jo31, jl29, jg31] at c136)
                      (try simp (disch := omega) only [jw1, jw2, jw3, jw4, jo10, jo11, jo28, jo30, jo31, jl29, jg31] at c143)
                      (try simp (disch := omega) only [jw1, jw2, jw3, jw4, jo10, jo11, jo28, jo30, jo31, jl29, jg31] at c201)
                      (try simp (disch := omega) only [jw1, jw2, jw3, jw4, jo10, jo11, jo28, jo30, jo31, jl29, jg31] at c208)
                      (try simp (disch := omega) only [jw1, jw2, jw3, jw4, jo10, jo11, jo28, jo30, jo31, jl29, jg31] at c215)
                      refine ⟨?_, rfl, rfl⟩
                      rw [ea]
                      unfold jdR
                      rw [if_neg (by omega), if_neg (by omega), if_neg (by omega), if_pos (by omega), e7, eB, eY]
                      rfl
              · refine gi_iload (q := 148) C (dm_Ju_judge 74 rfl) rfl rfl ?_
                refine gi_bipush (q := 150) (v := 31) C (dm_Ju_judge 75 rfl) rfl (by decide) ?_
                refine gi_icmp_gt (q := 153) (tgt := 199) C (dm_Ju_judge 76 rfl) rfl (by decide) (fun c150 => ?_) (fun c150 => ?_)
                · refine gi_iload_n (q := 200) (i := 3) C (dm_Ju_judge 100 rfl) rfl rfl rfl ?_
                  refine gi_iconst (q := 201) (v := 3) C (dm_Ju_judge 101 rfl) rfl (by decide) ?_
                  refine gi_icmp_ne (q := 204) (tgt := 254) C (dm_Ju_judge 102 rfl) rfl (by decide) (fun c201 => ?_) (fun c201 => ?_)
                  · refine gi_iconst (q := 255) (v := 1) C (dm_Ju_judge 129 rfl) rfl (by decide) ?_
                    refine gi_iret C hr9 (dm_Ju_judge 130 rfl) ?_
                    (try simp (disch := omega) only [jw1, jw2, jw3, jw4, jo10, jo11, jo28, jo30, jo31, jl29, jg31] at c16)
                    (try simp (disch := omega) only [jw1, jw2, jw3, jw4, jo10, jo11, jo28, jo30, jo31, jl29, jg31] at c48)
                    (try simp (disch := omega) only [jw1, jw2, jw3, jw4, jo10, jo11, jo28, jo30, jo31, jl29, jg31] at c55)
                    (try simp (disch := omega) only [jw1, jw2, jw3, jw4, jo10, jo11, jo28, jo30, jo31, jl29, jg31] at c62)
                    (try simp (disch := omega) only [jw1, jw2, jw3, jw4, jo10, jo11, jo28, jo30, jo31, jl29, jg31] at c94)
                    (try simp (disch := omega) only [jw1, jw2, jw3, jw4, jo10, jo11, jo28, jo30, jo31, jl29, jg31] at c136)
                    (try simp (disch := omega) only [jw1, jw2, jw3, jw4, jo10, jo11, jo28, jo30, jo31, jl29, jg31] at c143)
                    (try simp (disch := omega) only [jw1, jw2, jw3, jw4, jo10, jo11, jo28, jo30, jo31, jl29, jg31] at c150)
                    (try simp (disch := omega) only [jw1, jw2, jw3, jw4, jo10, jo11, jo28, jo30, jo31, jl29, jg31] at c201)
                    refine ⟨?_, rfl, rfl⟩
                    rw [ea]
                    unfold jdR
                    rw [if_neg (by omega), if_neg (by omega), if_neg (by omega), if_neg (by omega)]
                  · refine gi_iload (q := 206) C (dm_Ju_judge 103 rfl) rfl rfl ?_
                    refine gi_bipush (q := 208) (v := 30) C (dm_Ju_judge 104 rfl) rfl (by decide) ?_
                    refine gi_icmp_eq (q := 211) (tgt := 218) C (dm_Ju_judge 105 rfl) rfl (by decide) (fun c208 => ?_) (fun c208 => ?_)
                    · refine gi_aload (q := 220) C (dm_Ju_judge 109 rfl) rfl rfl ?_
                      refine gi_get (q := 223) C (dm_Ju_judge 110 rfl) rfl fl_Ju_37 (by first | exact hju0 | exact RO.1 | exact hv | exact hva) rfl ?_
                      refine gi_iconst (q := 224) (v := 1) C (dm_Ju_judge 111 rfl) rfl (by decide) ?_
                      refine gi_isub (q := 225) C (dm_Ju_judge 112 rfl) rfl ?_
                      refine gi_iload (q := 227) C (dm_Ju_judge 113 rfl) rfl rfl ?_
                      refine gi_bipush (q := 229) (v := 30) C (dm_Ju_judge 114 rfl) rfl (by decide) ?_
                      refine gi_isub (q := 230) C (dm_Ju_judge 115 rfl) rfl ?_
                      refine gi_isub (q := 231) C (dm_Ju_judge 116 rfl) rfl ?_
                      (try simp (disch := omega) only [jw1, jw2, jw3, jw4, jo10, jo11, jo28, jo30, jo31, jl29, jg31] at c16)
                      (try simp (disch := omega) only [jw1, jw2, jw3, jw4, jo10, jo11, jo28, jo30, jo31, jl29, jg31] at c48)
                      (try simp (disch := omega) only [jw1, jw2, jw3, jw4, jo10, jo11, jo28, jo30, jo31, jl29, jg31] at c55)
                      (try simp (disch := omega) only [jw1, jw2, jw3, jw4, jo10, jo11, jo28, jo30, jo31, jl29, jg31] at c62)
                      (try simp (disch := omega) only [jw1, jw2, jw3, jw4, jo10, jo11, jo28, jo30, jo31, jl29, jg31] at c94)
                      (try simp (disch := omega) only [jw1, jw2, jw3, jw4, jo10, jo11, jo28, jo30, jo31, jl29, jg31] at c136)
                      (try simp (disch := omega) only [jw1, jw2, jw3, jw4, jo10, jo11, jo28, jo30, jo31, jl29, jg31] at c143)
                      (try simp (disch := omega) only [jw1, jw2, jw3, jw4, jo10, jo11, jo28, jo30, jo31, jl29, jg31] at c150)
                      (try simp (disch := omega) only [jw1, jw2, jw3, jw4, jo10, jo11, jo28, jo30, jo31, jl29, jg31] at c201)
                      (try simp (disch := omega) only [jw1, jw2, jw3, jw4, jo10, jo11, jo28, jo30, jo31, jl29, jg31] at c208)
                      obtain ⟨q1, ⟨b, o, eB⟩, fY⟩ := j3 (by omega) (by omega)
                      obtain ⟨Y, eY, oY⟩ := fY (by omega)
                      rw [RG.1, show (1 : Int32) = nI 1 from rfl, show (30 : Int32) = nI 30 from rfl, nI_sb (by omega) (by omega), nI_sb (by omega) (by omega), nI_sb (by omega) (by omega)]
                      have e9 := (RG.2 (q - 1 - (op - 29)) (by omega)).1
                      rw [eB] at e9
                      have hva : h ((Φ (60 * m' + i)).1 (q - 1 - (op - 29))) = some (eV (tV b o)) := by
                        have := rv_at RO (show q - 1 - (op - 29) < 14 by omega)
                        rw [e9] at this
                        exact this
                      have e8 := (RG.2 (q - 1 - (op - 30)) (by omega)).1
                      rw [eY] at e8
                      have hvi : h ((Φ (60 * m' + i)).1 (q - 1 - (op - 30))) = some (eV (sV Y)) := by
                        have := rv_at RO (show q - 1 - (op - 30) < 14 by omega)
                        rw [e8] at this
                        exact this
                      have e7 : q - 1 - (op - 30) - 1 = q - 1 - (op - 29) := by omega
                      refine gi_istore (q := 233) C (dm_Ju_judge 117 rfl) rfl (Nat.le_of_ble_eq_true rfl) ?_
                      refine gi_aload_n (q := 234) (i := 0) C (dm_Ju_judge 118 rfl) rfl rfl rfl ?_
                      refine gi_aload (q := 236) C (dm_Ju_judge 119 rfl) rfl rfl ?_
                      refine gi_iload (q := 238) C (dm_Ju_judge 120 rfl) rfl rfl ?_
                      refine gi_iconst (q := 239) (v := 1) C (dm_Ju_judge 121 rfl) rfl (by decide) ?_
                      refine gi_isub (q := 240) C (dm_Ju_judge 122 rfl) rfl ?_
                      rw [show (1 : Int32) = nI 1 from rfl, nI_sb (by omega) (by omega), e7]
                      refine gi_callv 1 (q := 243) C (dm_Ju_judge 123 rfl) rfl my_Ro_valueAt lk_Ju_41 im_Ro_valueAt rfl (c_Ro_valueAt (j := q - 1 - (op - 29)) (by omega) (by omega) RO) RO.1 rfl rfl ⟨(Nat.le_of_ble_eq_true rfl), (Nat.le_of_ble_eq_true rfl)⟩ (Nat.le_of_ble_eq_true rfl) ⟨(Nat.le_of_ble_eq_true rfl), (Nat.le_of_ble_eq_true rfl)⟩ (fun r240 n240 h240 e240 => ?_)
                      obtain ⟨rfl, q240, u240⟩ := e240
                      rw [q240, u240]
                      refine gi_aload (q := 245) C (dm_Ju_judge 124 rfl) rfl rfl ?_
                      refine gi_iload (q := 247) C (dm_Ju_judge 125 rfl) rfl rfl ?_
                      refine gi_callv 1 (q := 250) C (dm_Ju_judge 126 rfl) rfl my_Ro_valueAt lk_Ju_41 im_Ro_valueAt rfl (c_Ro_valueAt (j := q - 1 - (op - 30)) (by omega) (by omega) RO) RO.1 rfl rfl ⟨(Nat.le_of_ble_eq_true rfl), (Nat.le_of_ble_eq_true rfl)⟩ (Nat.le_of_ble_eq_true rfl) ⟨(Nat.le_of_ble_eq_true rfl), (Nat.le_of_ble_eq_true rfl)⟩ (fun r247 n247 h247 e247 => ?_)
                      obtain ⟨rfl, q247, u247⟩ := e247
                      rw [q247, u247]
                      refine gi_callv 2 (q := 253) C (dm_Ju_judge 127 rfl) rfl my_Ju_judgeIndex lk_Ju_68 im_Ju_judgeIndex rfl (c_Ju_judgeIndex b o Y _ _ hr hju0 HC R hva hvi oY) hju0 rfl rfl ⟨(Nat.le_of_ble_eq_true rfl), (Nat.le_of_ble_eq_true rfl)⟩ (Nat.le_of_ble_eq_true rfl) ⟨(Nat.le_of_ble_eq_true rfl), (Nat.le_of_ble_eq_true rfl)⟩ (fun r250 n250 h250 e250 => ?_)
                      obtain ⟨rfl, q250, u250⟩ := e250
                      rw [q250, u250]
                      refine gi_iret C hr9 (dm_Ju_judge 128 rfl) ?_
                      (try simp (disch := omega) only [jw1, jw2, jw3, jw4, jo10, jo11, jo28, jo30, jo31, jl29, jg31] at c16)
                      (try simp (disch := omega) only [jw1, jw2, jw3, jw4, jo10, jo11, jo28, jo30, jo31, jl29, jg31] at c48)
                      (try simp (disch := omega) only [jw1, jw2, jw3, jw4, jo10, jo11, jo28, jo30, jo31, jl29, jg31] at c55)
                      (try simp (disch := omega) only [jw1, jw2, jw3, jw4, jo10, jo11, jo28, jo30, jo31, jl29, jg31] at c62)
                      (try simp (disch := omega) only [jw1, jw2, jw3, jw4, jo10, jo11, jo28, jo30, jo31, jl29, jg31] at c94)
                      (try simp (disch := omega) only [jw1, jw2, jw3, jw4, jo10, jo11, jo28, jo30, jo31, jl29, jg31] at c136)
                      (try simp (disch := omega) only [jw1, jw2, jw3, jw4, jo10, jo11, jo28, jo30, jo31, jl29, jg31] at c143)
                      (try simp (disch := omega) only [jw1, jw2, jw3, jw4, jo10, jo11, jo28, jo30, jo31, jl29, jg31] at c150)
                      (try simp (disch := omega) only [jw1, jw2, jw3, jw4, jo10, jo11, jo28, jo30, jo31, jl29, jg31] at c201)
                      (try simp (disch := omega) only [jw1, jw2, jw3, jw4, jo10, jo11, jo28, jo30, jo31, jl29, jg31] at c208)
                      refine ⟨?_, rfl, rfl⟩
                      rw [ea]
                      unfold jdR
                      rw [if_neg (by omega), if_neg (by omega), if_neg (by omega), if_pos (by omega), e7, eB, eY]
                      rfl
                    · refine gi_iload (q := 213) C (dm_Ju_judge 106 rfl) rfl rfl ?_
                      refine gi_bipush (q := 215) (v := 31) C (dm_Ju_judge 107 rfl) rfl (by decide) ?_
                      refine gi_icmp_ne (q := 218) (tgt := 254) C (dm_Ju_judge 108 rfl) rfl (by decide) (fun c215 => ?_) (fun c215 => ?_)
                      · refine gi_iconst (q := 255) (v := 1) C (dm_Ju_judge 129 rfl) rfl (by decide) ?_
                        refine gi_iret C hr9 (dm_Ju_judge 130 rfl) ?_
                        (try simp (disch := omega) only [jw1, jw2, jw3, jw4, jo10, jo11, jo28, jo30, jo31, jl29, jg31] at c16)
                        (try simp (disch := omega) only [jw1, jw2, jw3, jw4, jo10, jo11, jo28, jo30, jo31, jl29, jg31] at c48)
                        (try simp (disch := omega) only [jw1, jw2, jw3, jw4, jo10, jo11, jo28, jo30, jo31, jl29, jg31] at c55)
                        (try simp (disch := omega) only [jw1, jw2, jw3, jw4, jo10, jo11, jo28, jo30, jo31, jl29, jg31] at c62)
                        (try simp (disch := omega) only [jw1, jw2, jw3, jw4, jo10, jo11, jo28, jo30, jo31, jl29, jg31] at c94)
                        (try simp (disch := omega) only [jw1, jw2, jw3, jw4, jo10, jo11, jo28, jo30, jo31, jl29, jg31] at c136)
                        (try simp (disch := omega) only [jw1, jw2, jw3, jw4, jo10, jo11, jo28, jo30, jo31, jl29, jg31] at c143)
                        (try simp (disch := omega) only [jw1, jw2, jw3, jw4, jo10, jo11, jo28, jo30, jo31, jl29, jg31] at c150)
                        (try simp (disch := omega) only [jw1, jw2, jw3, jw4, jo10, jo11, jo28, jo30, jo31, jl29, jg31] at c201)
                        (try simp (disch := omega) only [jw1, jw2, jw3, jw4, jo10, jo11, jo28, jo30, jo31, jl29, jg31] at c208)
                        (try simp (disch := omega) only [jw1, jw2, jw3, jw4, jo10, jo11, jo28, jo30, jo31, jl29, jg31] at c215)
                        refine ⟨?_, rfl, rfl⟩
                        rw [ea]
                        unfold jdR
                        rw [if_neg (by omega), if_neg (by omega), if_neg (by omega), if_neg (by omega)]
                      · refine gi_aload (q := 220) C (dm_Ju_judge 109 rfl) rfl rfl ?_
                        refine gi_get (q := 223) C (dm_Ju_judge 110 rfl) rfl fl_Ju_37 (by first | exact hju0 | exact RO.1 | exact hv | exact hva) rfl ?_
                        refine gi_iconst (q := 224) (v := 1) C (dm_Ju_judge 111 rfl) rfl (by decide) ?_
                        refine gi_isub (q := 225) C (dm_Ju_judge 112 rfl) rfl ?_
                        refine gi_iload (q := 227) C (dm_Ju_judge 113 rfl) rfl rfl ?_
                        refine gi_bipush (q := 229) (v := 30) C (dm_Ju_judge 114 rfl) rfl (by decide) ?_
                        refine gi_isub (q := 230) C (dm_Ju_judge 115 rfl) rfl ?_
                        refine gi_isub (q := 231) C (dm_Ju_judge 116 rfl) rfl ?_
                        (try simp (disch := omega) only [jw1, jw2, jw3, jw4, jo10, jo11, jo28, jo30, jo31, jl29, jg31] at c16)
                        (try simp (disch := omega) only [jw1, jw2, jw3, jw4, jo10, jo11, jo28, jo30, jo31, jl29, jg31] at c48)
                        (try simp (disch := omega) only [jw1, jw2, jw3, jw4, jo10, jo11, jo28, jo30, jo31, jl29, jg31] at c55)
                        (try simp (disch := omega) only [jw1, jw2, jw3, jw4, jo10, jo11, jo28, jo30, jo31, jl29, jg31] at c62)
                        (try simp (disch := omega) only [jw1, jw2, jw3, jw4, jo10, jo11, jo28, jo30, jo31, jl29, jg31] at c94)
                        (try simp (disch := omega) only [jw1, jw2, jw3, jw4, jo10, jo11, jo28, jo30, jo31, jl29, jg31] at c136)
                        (try simp (disch := omega) only [jw1, jw2, jw3, jw4, jo10, jo11, jo28, jo30, jo31, jl29, jg31] at c143)
                        (try simp (disch := omega) only [jw1, jw2, jw3, jw4, jo10, jo11, jo28, jo30, jo31, jl29, jg31] at c150)
                        (try simp (disch := omega) only [jw1, jw2, jw3, jw4, jo10, jo11, jo28, jo30, jo31, jl29, jg31] at c201)
                        (try simp (disch := omega) only [jw1, jw2, jw3, jw4, jo10, jo11, jo28, jo30, jo31, jl29, jg31] at c208)
                        (try simp (disch := omega) only [jw1, jw2, jw3, jw4, jo10, jo11, jo28, jo30, jo31, jl29, jg31] at c215)
                        obtain ⟨q1, ⟨b, o, eB⟩, fY⟩ := j3 (by omega) (by omega)
                        obtain ⟨Y, eY, oY⟩ := fY (by omega)
                        rw [RG.1, show (1 : Int32) = nI 1 from rfl, show (30 : Int32) = nI 30 from rfl, nI_sb (by omega) (by omega), nI_sb (by omega) (by omega), nI_sb (by omega) (by omega)]
                        have e9 := (RG.2 (q - 1 - (op - 29)) (by omega)).1
                        rw [eB] at e9
                        have hva : h ((Φ (60 * m' + i)).1 (q - 1 - (op - 29))) = some (eV (tV b o)) := by
                          have := rv_at RO (show q - 1 - (op - 29) < 14 by omega)
                          rw [e9] at this
                          exact this
                        have e8 := (RG.2 (q - 1 - (op - 30)) (by omega)).1
                        rw [eY] at e8
                        have hvi : h ((Φ (60 * m' + i)).1 (q - 1 - (op - 30))) = some (eV (sV Y)) := by
                          have := rv_at RO (show q - 1 - (op - 30) < 14 by omega)
                          rw [e8] at this
                          exact this
                        have e7 : q - 1 - (op - 30) - 1 = q - 1 - (op - 29) := by omega
                        refine gi_istore (q := 233) C (dm_Ju_judge 117 rfl) rfl (Nat.le_of_ble_eq_true rfl) ?_
                        refine gi_aload_n (q := 234) (i := 0) C (dm_Ju_judge 118 rfl) rfl rfl rfl ?_
                        refine gi_aload (q := 236) C (dm_Ju_judge 119 rfl) rfl rfl ?_
                        refine gi_iload (q := 238) C (dm_Ju_judge 120 rfl) rfl rfl ?_
                        refine gi_iconst (q := 239) (v := 1) C (dm_Ju_judge 121 rfl) rfl (by decide) ?_
                        refine gi_isub (q := 240) C (dm_Ju_judge 122 rfl) rfl ?_
                        rw [show (1 : Int32) = nI 1 from rfl, nI_sb (by omega) (by omega), e7]
                        refine gi_callv 1 (q := 243) C (dm_Ju_judge 123 rfl) rfl my_Ro_valueAt lk_Ju_41 im_Ro_valueAt rfl (c_Ro_valueAt (j := q - 1 - (op - 29)) (by omega) (by omega) RO) RO.1 rfl rfl ⟨(Nat.le_of_ble_eq_true rfl), (Nat.le_of_ble_eq_true rfl)⟩ (Nat.le_of_ble_eq_true rfl) ⟨(Nat.le_of_ble_eq_true rfl), (Nat.le_of_ble_eq_true rfl)⟩ (fun r240 n240 h240 e240 => ?_)
                        obtain ⟨rfl, q240, u240⟩ := e240
                        rw [q240, u240]
                        refine gi_aload (q := 245) C (dm_Ju_judge 124 rfl) rfl rfl ?_
                        refine gi_iload (q := 247) C (dm_Ju_judge 125 rfl) rfl rfl ?_
                        refine gi_callv 1 (q := 250) C (dm_Ju_judge 126 rfl) rfl my_Ro_valueAt lk_Ju_41 im_Ro_valueAt rfl (c_Ro_valueAt (j := q - 1 - (op - 30)) (by omega) (by omega) RO) RO.1 rfl rfl ⟨(Nat.le_of_ble_eq_true rfl), (Nat.le_of_ble_eq_true rfl)⟩ (Nat.le_of_ble_eq_true rfl) ⟨(Nat.le_of_ble_eq_true rfl), (Nat.le_of_ble_eq_true rfl)⟩ (fun r247 n247 h247 e247 => ?_)
                        obtain ⟨rfl, q247, u247⟩ := e247
                        rw [q247, u247]
                        refine gi_callv 2 (q := 253) C (dm_Ju_judge 127 rfl) rfl my_Ju_judgeIndex lk_Ju_68 im_Ju_judgeIndex rfl (c_Ju_judgeIndex b o Y _ _ hr hju0 HC R hva hvi oY) hju0 rfl rfl ⟨(Nat.le_of_ble_eq_true rfl), (Nat.le_of_ble_eq_true rfl)⟩ (Nat.le_of_ble_eq_true rfl) ⟨(Nat.le_of_ble_eq_true rfl), (Nat.le_of_ble_eq_true rfl)⟩ (fun r250 n250 h250 e250 => ?_)
                        obtain ⟨rfl, q250, u250⟩ := e250
                        rw [q250, u250]
                        refine gi_iret C hr9 (dm_Ju_judge 128 rfl) ?_
                        (try simp (disch := omega) only [jw1, jw2, jw3, jw4, jo10, jo11, jo28, jo30, jo31, jl29, jg31] at c16)
                        (try simp (disch := omega) only [jw1, jw2, jw3, jw4, jo10, jo11, jo28, jo30, jo31, jl29, jg31] at c48)
                        (try simp (disch := omega) only [jw1, jw2, jw3, jw4, jo10, jo11, jo28, jo30, jo31, jl29, jg31] at c55)
                        (try simp (disch := omega) only [jw1, jw2, jw3, jw4, jo10, jo11, jo28, jo30, jo31, jl29, jg31] at c62)
                        (try simp (disch := omega) only [jw1, jw2, jw3, jw4, jo10, jo11, jo28, jo30, jo31, jl29, jg31] at c94)
                        (try simp (disch := omega) only [jw1, jw2, jw3, jw4, jo10, jo11, jo28, jo30, jo31, jl29, jg31] at c136)
                        (try simp (disch := omega) only [jw1, jw2, jw3, jw4, jo10, jo11, jo28, jo30, jo31, jl29, jg31] at c143)
                        (try simp (disch := omega) only [jw1, jw2, jw3, jw4, jo10, jo11, jo28, jo30, jo31, jl29, jg31] at c150)
                        (try simp (disch := omega) only [jw1, jw2, jw3, jw4, jo10, jo11, jo28, jo30, jo31, jl29, jg31] at c201)
                        (try simp (disch := omega) only [jw1, jw2, jw3, jw4, jo10, jo11, jo28, jo30, jo31, jl29, jg31] at c208)
                        (try simp (disch := omega) only [jw1, jw2, jw3, jw4, jo10, jo11, jo28, jo30, jo31, jl29, jg31] at c215)
                        refine ⟨?_, rfl, rfl⟩
                        rw [ea]
                        unfold jdR
                        rw [if_neg (by omega), if_neg (by omega), if_neg (by omega), if_pos (by omega), e7, eB, eY]
                        rfl
                · refine gi_aload (q := 155) C (dm_Ju_judge 77 rfl) rfl rfl ?_
                  refine gi_aload (q := 157) C (dm_Ju_judge 78 rfl) rfl rfl ?_
                  refine gi_get (q := 160) C (dm_Ju_judge 79 rfl) rfl fl_Ju_37 (by first | exact hju0 | exact RO.1 | exact hv | exact hva) rfl ?_
                  refine gi_iconst (q := 161) (v := 1) C (dm_Ju_judge 80 rfl) rfl (by decide) ?_
                  refine gi_isub (q := 162) C (dm_Ju_judge 81 rfl) rfl ?_
                  refine gi_iload (q := 164) C (dm_Ju_judge 82 rfl) rfl rfl ?_
                  refine gi_bipush (q := 166) (v := 29) C (dm_Ju_judge 83 rfl) rfl (by decide) ?_
                  refine gi_isub (q := 167) C (dm_Ju_judge 84 rfl) rfl ?_
                  refine gi_isub (q := 168) C (dm_Ju_judge 85 rfl) rfl ?_
                  (try simp (disch := omega) only [jw1, jw2, jw3, jw4, jo10, jo11, jo28, jo30, jo31, jl29, jg31] at c16)
                  (try simp (disch := omega) only [jw1, jw2, jw3, jw4, jo10, jo11, jo28, jo30, jo31, jl29, jg31] at c48)
                  (try simp (disch := omega) only [jw1, jw2, jw3, jw4, jo10, jo11, jo28, jo30, jo31, jl29, jg31] at c55)
                  (try simp (disch := omega) only [jw1, jw2, jw3, jw4, jo10, jo11, jo28, jo30, jo31, jl29, jg31] at c62)
                  (try simp (disch := omega) only [jw1, jw2, jw3, jw4, jo10, jo11, jo28, jo30, jo31, jl29, jg31] at c94)
                  (try simp (disch := omega) only [jw1, jw2, jw3, jw4, jo10, jo11, jo28, jo30, jo31, jl29, jg31] at c136)
                  (try simp (disch := omega) only [jw1, jw2, jw3, jw4, jo10, jo11, jo28, jo30, jo31, jl29, jg31] at c143)
                  (try simp (disch := omega) only [jw1, jw2, jw3, jw4, jo10, jo11, jo28, jo30, jo31, jl29, jg31] at c150)
                  obtain ⟨q1, ⟨b, o, eB⟩, -⟩ := j3 (by omega) (by omega)
                  rw [RG.1, show (1 : Int32) = nI 1 from rfl, show (29 : Int32) = nI 29 from rfl, nI_sb (by omega) (by omega), nI_sb (by omega) (by omega), nI_sb (by omega) (by omega)]
                  have e9 := (RG.2 (q - 1 - (op - 29)) (by omega)).1
                  rw [eB] at e9
                  have hva : h ((Φ (60 * m' + i)).1 (q - 1 - (op - 29))) = some (eV (tV b o)) := by
                    have := rv_at RO (show q - 1 - (op - 29) < 14 by omega)
                    rw [e9] at this
                    exact this
                  refine gi_callv 1 (q := 171) C (dm_Ju_judge 86 rfl) rfl my_Ro_valueAt lk_Ju_41 im_Ro_valueAt rfl (c_Ro_valueAt (j := q - 1 - (op - 29)) (by omega) (by omega) RO) RO.1 rfl rfl ⟨(Nat.le_of_ble_eq_true rfl), (Nat.le_of_ble_eq_true rfl)⟩ (Nat.le_of_ble_eq_true rfl) ⟨(Nat.le_of_ble_eq_true rfl), (Nat.le_of_ble_eq_true rfl)⟩ (fun r168 n168 h168 e168 => ?_)
                  obtain ⟨rfl, q168, u168⟩ := e168
                  rw [q168, u168]
                  refine gi_astore (q := 173) C (dm_Ju_judge 87 rfl) rfl (Nat.le_of_ble_eq_true rfl) ?_
                  refine gi_aload (q := 175) C (dm_Ju_judge 88 rfl) rfl rfl ?_
                  refine gi_get (q := 178) C (dm_Ju_judge 89 rfl) rfl fl_Ju_62 (by first | exact hju0 | exact RO.1 | exact hv | exact hva) rfl ?_
                  refine gi_if_ne (q := 181) (tgt := 185) C (dm_Ju_judge 90 rfl) rfl (by decide) (fun c178 => ?_) (fun c178 => ?_)
                  · refine gi_aload (q := 187) C (dm_Ju_judge 93 rfl) rfl rfl ?_
                    refine gi_get (q := 190) C (dm_Ju_judge 94 rfl) rfl fl_Ju_65 (by first | exact hju0 | exact RO.1 | exact hv | exact hva) rfl ?_
                    refine gi_if_ne (q := 193) (tgt := 197) C (dm_Ju_judge 95 rfl) rfl (by decide) (fun c190 => ?_) (fun c190 => ?_)
                    · refine gi_iconst (q := 198) (v := 2) C (dm_Ju_judge 98 rfl) rfl (by decide) ?_
                      refine gi_iret C hr9 (dm_Ju_judge 99 rfl) ?_
                      (try simp (disch := omega) only [jw1, jw2, jw3, jw4, jo10, jo11, jo28, jo30, jo31, jl29, jg31] at c16)
                      (try simp (disch := omega) only [jw1, jw2, jw3, jw4, jo10, jo11, jo28, jo30, jo31, jl29, jg31] at c48)
                      (try simp (disch := omega) only [jw1, jw2, jw3, jw4, jo10, jo11, jo28, jo30, jo31, jl29, jg31] at c55)
                      (try simp (disch := omega) only [jw1, jw2, jw3, jw4, jo10, jo11, jo28, jo30, jo31, jl29, jg31] at c62)
                      (try simp (disch := omega) only [jw1, jw2, jw3, jw4, jo10, jo11, jo28, jo30, jo31, jl29, jg31] at c94)
                      (try simp (disch := omega) only [jw1, jw2, jw3, jw4, jo10, jo11, jo28, jo30, jo31, jl29, jg31] at c136)
                      (try simp (disch := omega) only [jw1, jw2, jw3, jw4, jo10, jo11, jo28, jo30, jo31, jl29, jg31] at c143)
                      (try simp (disch := omega) only [jw1, jw2, jw3, jw4, jo10, jo11, jo28, jo30, jo31, jl29, jg31] at c150)
                      (try simp (disch := omega) only [jw1, jw2, jw3, jw4, jo10, jo11, jo28, jo30, jo31, jl29, jg31] at c178)
                      (try simp (disch := omega) only [jw1, jw2, jw3, jw4, jo10, jo11, jo28, jo30, jo31, jl29, jg31] at c190)
                      refine ⟨?_, rfl, rfl⟩
                      rw [ea]
                      unfold jdR
                      rw [if_neg (by omega), if_neg (by omega), if_pos (by omega), eB]
                      show some (Value.int _) = some (Value.int (nuJ b o))
                      unfold nuJ
                      first
                        | (rw [if_pos (bI_fa c178)]; done)
                        | (rw [if_neg (by rw [bI_t c178]; decide), if_pos c190]; done)
                        | (rw [if_neg (by rw [bI_t c178]; decide), if_neg c190]; done)
                    · refine gi_iconst (q := 194) (v := 3) C (dm_Ju_judge 96 rfl) rfl (by decide) ?_
                      refine gi_goto (tgt := 198) C (dm_Ju_judge 97 rfl) (by decide) ?_
                      refine gi_iret C hr9 (dm_Ju_judge 99 rfl) ?_
                      (try simp (disch := omega) only [jw1, jw2, jw3, jw4, jo10, jo11, jo28, jo30, jo31, jl29, jg31] at c16)
                      (try simp (disch := omega) only [jw1, jw2, jw3, jw4, jo10, jo11, jo28, jo30, jo31, jl29, jg31] at c48)
                      (try simp (disch := omega) only [jw1, jw2, jw3, jw4, jo10, jo11, jo28, jo30, jo31, jl29, jg31] at c55)
                      (try simp (disch := omega) only [jw1, jw2, jw3, jw4, jo10, jo11, jo28, jo30, jo31, jl29, jg31] at c62)
                      (try simp (disch := omega) only [jw1, jw2, jw3, jw4, jo10, jo11, jo28, jo30, jo31, jl29, jg31] at c94)
                      (try simp (disch := omega) only [jw1, jw2, jw3, jw4, jo10, jo11, jo28, jo30, jo31, jl29, jg31] at c136)
                      (try simp (disch := omega) only [jw1, jw2, jw3, jw4, jo10, jo11, jo28, jo30, jo31, jl29, jg31] at c143)
                      (try simp (disch := omega) only [jw1, jw2, jw3, jw4, jo10, jo11, jo28, jo30, jo31, jl29, jg31] at c150)
                      (try simp (disch := omega) only [jw1, jw2, jw3, jw4, jo10, jo11, jo28, jo30, jo31, jl29, jg31] at c178)
                      (try simp (disch := omega) only [jw1, jw2, jw3, jw4, jo10, jo11, jo28, jo30, jo31, jl29, jg31] at c190)
                      refine ⟨?_, rfl, rfl⟩
                      rw [ea]
                      unfold jdR
                      rw [if_neg (by omega), if_neg (by omega), if_pos (by omega), eB]
                      show some (Value.int _) = some (Value.int (nuJ b o))
                      unfold nuJ
                      first
                        | (rw [if_pos (bI_fa c178)]; done)
                        | (rw [if_neg (by rw [bI_t c178]; decide), if_pos c190]; done)
                        | (rw [if_neg (by rw [bI_t c178]; decide), if_neg c190]; done)
                  · refine gi_iconst (q := 182) (v := 1) C (dm_Ju_judge 91 rfl) rfl (by decide) ?_
                    refine gi_goto (tgt := 198) C (dm_Ju_judge 92 rfl) (by decide) ?_
                    refine gi_iret C hr9 (dm_Ju_judge 99 rfl) ?_
                    (try simp (disch := omega) only [jw1, jw2, jw3, jw4, jo10, jo11, jo28, jo30, jo31, jl29, jg31] at c16)
                    (try simp (disch := omega) only [jw1, jw2, jw3, jw4, jo10, jo11, jo28, jo30, jo31, jl29, jg31] at c48)
                    (try simp (disch := omega) only [jw1, jw2, jw3, jw4, jo10, jo11, jo28, jo30, jo31, jl29, jg31] at c55)
                    (try simp (disch := omega) only [jw1, jw2, jw3, jw4, jo10, jo11, jo28, jo30, jo31, jl29, jg31] at c62)
                    (try simp (disch := omega) only [jw1, jw2, jw3, jw4, jo10, jo11, jo28, jo30, jo31, jl29, jg31] at c94)
                    (try simp (disch := omega) only [jw1, jw2, jw3, jw4, jo10, jo11, jo28, jo30, jo31, jl29, jg31] at c136)
                    (try simp (disch := omega) only [jw1, jw2, jw3, jw4, jo10, jo11, jo28, jo30, jo31, jl29, jg31] at c143)
                    (try simp (disch := omega) only [jw1, jw2, jw3, jw4, jo10, jo11, jo28, jo30, jo31, jl29, jg31] at c150)
                    (try simp (disch := omega) only [jw1, jw2, jw3, jw4, jo10, jo11, jo28, jo30, jo31, jl29, jg31] at c178)
                    refine ⟨?_, rfl, rfl⟩
                    rw [ea]
                    unfold jdR
                    rw [if_neg (by omega), if_neg (by omega), if_pos (by omega), eB]
                    show some (Value.int _) = some (Value.int (nuJ b o))
                    unfold nuJ
                    first
                      | (rw [if_pos (bI_fa c178)]; done)
                      | (rw [if_neg (by rw [bI_t c178]; decide), if_pos c190]; done)
                      | (rw [if_neg (by rw [bI_t c178]; decide), if_neg c190]; done)
          · refine gi_iload (q := 99) C (dm_Ju_judge 49 rfl) rfl rfl ?_
            refine gi_bipush (q := 101) (v := 28) C (dm_Ju_judge 50 rfl) rfl (by decide) ?_
            refine gi_icmp_ne (q := 104) (tgt := 134) C (dm_Ju_judge 51 rfl) rfl (by decide) (fun c101 => ?_) (fun c101 => ?_)
            · refine gi_iload_n (q := 135) (i := 3) C (dm_Ju_judge 68 rfl) rfl rfl rfl ?_
              refine gi_iconst (q := 136) (v := 2) C (dm_Ju_judge 69 rfl) rfl (by decide) ?_
              refine gi_icmp_ne (q := 139) (tgt := 199) C (dm_Ju_judge 70 rfl) rfl (by decide) (fun c136 => ?_) (fun c136 => ?_)
              · refine gi_iload_n (q := 200) (i := 3) C (dm_Ju_judge 100 rfl) rfl rfl rfl ?_
                refine gi_iconst (q := 201) (v := 3) C (dm_Ju_judge 101 rfl) rfl (by decide) ?_
                refine gi_icmp_ne (q := 204) (tgt := 254) C (dm_Ju_judge 102 rfl) rfl (by decide) (fun c201 => ?_) (fun c201 => ?_)
                · refine gi_iconst (q := 255) (v := 1) C (dm_Ju_judge 129 rfl) rfl (by decide) ?_
                  refine gi_iret C hr9 (dm_Ju_judge 130 rfl) ?_
                  (try simp (disch := omega) only [jw1, jw2, jw3, jw4, jo10, jo11, jo28, jo30, jo31, jl29, jg31] at c16)
                  (try simp (disch := omega) only [jw1, jw2, jw3, jw4, jo10, jo11, jo28, jo30, jo31, jl29, jg31] at c48)
                  (try simp (disch := omega) only [jw1, jw2, jw3, jw4, jo10, jo11, jo28, jo30, jo31, jl29, jg31] at c55)
                  (try simp (disch := omega) only [jw1, jw2, jw3, jw4, jo10, jo11, jo28, jo30, jo31, jl29, jg31] at c62)
                  (try simp (disch := omega) only [jw1, jw2, jw3, jw4, jo10, jo11, jo28, jo30, jo31, jl29, jg31] at c94)
                  (try simp (disch := omega) only [jw1, jw2, jw3, jw4, jo10, jo11, jo28, jo30, jo31, jl29, jg31] at c101)
                  (try simp (disch := omega) only [jw1, jw2, jw3, jw4, jo10, jo11, jo28, jo30, jo31, jl29, jg31] at c136)
                  (try simp (disch := omega) only [jw1, jw2, jw3, jw4, jo10, jo11, jo28, jo30, jo31, jl29, jg31] at c201)
                  refine ⟨?_, rfl, rfl⟩
                  rw [ea]
                  unfold jdR
                  rw [if_neg (by omega), if_neg (by omega), if_neg (by omega), if_neg (by omega)]
                · refine gi_iload (q := 206) C (dm_Ju_judge 103 rfl) rfl rfl ?_
                  refine gi_bipush (q := 208) (v := 30) C (dm_Ju_judge 104 rfl) rfl (by decide) ?_
                  refine gi_icmp_eq (q := 211) (tgt := 218) C (dm_Ju_judge 105 rfl) rfl (by decide) (fun c208 => ?_) (fun c208 => ?_)
                  · refine gi_aload (q := 220) C (dm_Ju_judge 109 rfl) rfl rfl ?_
                    refine gi_get (q := 223) C (dm_Ju_judge 110 rfl) rfl fl_Ju_37 (by first | exact hju0 | exact RO.1 | exact hv | exact hva) rfl ?_
                    refine gi_iconst (q := 224) (v := 1) C (dm_Ju_judge 111 rfl) rfl (by decide) ?_
                    refine gi_isub (q := 225) C (dm_Ju_judge 112 rfl) rfl ?_
                    refine gi_iload (q := 227) C (dm_Ju_judge 113 rfl) rfl rfl ?_
                    refine gi_bipush (q := 229) (v := 30) C (dm_Ju_judge 114 rfl) rfl (by decide) ?_
                    refine gi_isub (q := 230) C (dm_Ju_judge 115 rfl) rfl ?_
                    refine gi_isub (q := 231) C (dm_Ju_judge 116 rfl) rfl ?_
                    (try simp (disch := omega) only [jw1, jw2, jw3, jw4, jo10, jo11, jo28, jo30, jo31, jl29, jg31] at c16)
                    (try simp (disch := omega) only [jw1, jw2, jw3, jw4, jo10, jo11, jo28, jo30, jo31, jl29, jg31] at c48)
                    (try simp (disch := omega) only [jw1, jw2, jw3, jw4, jo10, jo11, jo28, jo30, jo31, jl29, jg31] at c55)
                    (try simp (disch := omega) only [jw1, jw2, jw3, jw4, jo10, jo11, jo28, jo30, jo31, jl29, jg31] at c62)
                    (try simp (disch := omega) only [jw1, jw2, jw3, jw4, jo10, jo11, jo28, jo30, jo31, jl29, jg31] at c94)
                    (try simp (disch := omega) only [jw1, jw2, jw3, jw4, jo10, jo11, jo28, jo30, jo31, jl29, jg31] at c101)
                    (try simp (disch := omega) only [jw1, jw2, jw3, jw4, jo10, jo11, jo28, jo30, jo31, jl29, jg31] at c136)
                    (try simp (disch := omega) only [jw1, jw2, jw3, jw4, jo10, jo11, jo28, jo30, jo31, jl29, jg31] at c201)
                    (try simp (disch := omega) only [jw1, jw2, jw3, jw4, jo10, jo11, jo28, jo30, jo31, jl29, jg31] at c208)
                    obtain ⟨q1, ⟨b, o, eB⟩, fY⟩ := j3 (by omega) (by omega)
                    obtain ⟨Y, eY, oY⟩ := fY (by omega)
                    rw [RG.1, show (1 : Int32) = nI 1 from rfl, show (30 : Int32) = nI 30 from rfl, nI_sb (by omega) (by omega), nI_sb (by omega) (by omega), nI_sb (by omega) (by omega)]
                    have e9 := (RG.2 (q - 1 - (op - 29)) (by omega)).1
                    rw [eB] at e9
                    have hva : h ((Φ (60 * m' + i)).1 (q - 1 - (op - 29))) = some (eV (tV b o)) := by
                      have := rv_at RO (show q - 1 - (op - 29) < 14 by omega)
                      rw [e9] at this
                      exact this
                    have e8 := (RG.2 (q - 1 - (op - 30)) (by omega)).1
                    rw [eY] at e8
                    have hvi : h ((Φ (60 * m' + i)).1 (q - 1 - (op - 30))) = some (eV (sV Y)) := by
                      have := rv_at RO (show q - 1 - (op - 30) < 14 by omega)
                      rw [e8] at this
                      exact this
                    have e7 : q - 1 - (op - 30) - 1 = q - 1 - (op - 29) := by omega
                    refine gi_istore (q := 233) C (dm_Ju_judge 117 rfl) rfl (Nat.le_of_ble_eq_true rfl) ?_
                    refine gi_aload_n (q := 234) (i := 0) C (dm_Ju_judge 118 rfl) rfl rfl rfl ?_
                    refine gi_aload (q := 236) C (dm_Ju_judge 119 rfl) rfl rfl ?_
                    refine gi_iload (q := 238) C (dm_Ju_judge 120 rfl) rfl rfl ?_
                    refine gi_iconst (q := 239) (v := 1) C (dm_Ju_judge 121 rfl) rfl (by decide) ?_
                    refine gi_isub (q := 240) C (dm_Ju_judge 122 rfl) rfl ?_
                    rw [show (1 : Int32) = nI 1 from rfl, nI_sb (by omega) (by omega), e7]
                    refine gi_callv 1 (q := 243) C (dm_Ju_judge 123 rfl) rfl my_Ro_valueAt lk_Ju_41 im_Ro_valueAt rfl (c_Ro_valueAt (j := q - 1 - (op - 29)) (by omega) (by omega) RO) RO.1 rfl rfl ⟨(Nat.le_of_ble_eq_true rfl), (Nat.le_of_ble_eq_true rfl)⟩ (Nat.le_of_ble_eq_true rfl) ⟨(Nat.le_of_ble_eq_true rfl), (Nat.le_of_ble_eq_true rfl)⟩ (fun r240 n240 h240 e240 => ?_)
                    obtain ⟨rfl, q240, u240⟩ := e240
                    rw [q240, u240]
                    refine gi_aload (q := 245) C (dm_Ju_judge 124 rfl) rfl rfl ?_
                    refine gi_iload (q := 247) C (dm_Ju_judge 125 rfl) rfl rfl ?_
                    refine gi_callv 1 (q := 250) C (dm_Ju_judge 126 rfl) rfl my_Ro_valueAt lk_Ju_41 im_Ro_valueAt rfl (c_Ro_valueAt (j := q - 1 - (op - 30)) (by omega) (by omega) RO) RO.1 rfl rfl ⟨(Nat.le_of_ble_eq_true rfl), (Nat.le_of_ble_eq_true rfl)⟩ (Nat.le_of_ble_eq_true rfl) ⟨(Nat.le_of_ble_eq_true rfl), (Nat.le_of_ble_eq_true rfl)⟩ (fun r247 n247 h247 e247 => ?_)
                    obtain ⟨rfl, q247, u247⟩ := e247
                    rw [q247, u247]
                    refine gi_callv 2 (q := 253) C (dm_Ju_judge 127 rfl) rfl my_Ju_judgeIndex lk_Ju_68 im_Ju_judgeIndex rfl (c_Ju_judgeIndex b o Y _ _ hr hju0 HC R hva hvi oY) hju0 rfl rfl ⟨(Nat.le_of_ble_eq_true rfl), (Nat.le_of_ble_eq_true rfl)⟩ (Nat.le_of_ble_eq_true rfl) ⟨(Nat.le_of_ble_eq_true rfl), (Nat.le_of_ble_eq_true rfl)⟩ (fun r250 n250 h250 e250 => ?_)
                    obtain ⟨rfl, q250, u250⟩ := e250
                    rw [q250, u250]
                    refine gi_iret C hr9 (dm_Ju_judge 128 rfl) ?_
                    (try simp (disch := omega) only [jw1, jw2, jw3, jw4, jo10, jo11, jo28, jo30, jo31, jl29, jg31] at c16)
                    (try simp (disch := omega) only [jw1, jw2, jw3, jw4, jo10, jo11, jo28, jo30, jo31, jl29, jg31] at c48)
                    (try simp (disch := omega) only [jw1, jw2, jw3, jw4, jo10, jo11, jo28, jo30, jo31, jl29, jg31] at c55)
                    (try simp (disch := omega) only [jw1, jw2, jw3, jw4, jo10, jo11, jo28, jo30, jo31, jl29, jg31] at c62)
                    (try simp (disch := omega) only [jw1, jw2, jw3, jw4, jo10, jo11, jo28, jo30, jo31, jl29, jg31] at c94)
                    (try simp (disch := omega) only [jw1, jw2, jw3, jw4, jo10, jo11, jo28, jo30, jo31, jl29, jg31] at c101)
                    (try simp (disch := omega) only [jw1, jw2, jw3, jw4, jo10, jo11, jo28, jo30, jo31, jl29, jg31] at c136)
                    (try simp (disch := omega) only [jw1, jw2, jw3, jw4, jo10, jo11, jo28, jo30, jo31, jl29, jg31] at c201)
                    (try simp (disch := omega) only [jw1, jw2, jw3, jw4, jo10, jo11, jo28, jo30, jo31, jl29, jg31] at c208)
                    refine ⟨?_, rfl, rfl⟩
                    rw [ea]
                    unfold jdR
                    rw [if_neg (by omega), if_neg (by omega), if_neg (by omega), if_pos (by omega), e7, eB, eY]
                    rfl
                  · refine gi_iload (q := 213) C (dm_Ju_judge 106 rfl) rfl rfl ?_
                    refine gi_bipush (q := 215) (v := 31) C (dm_Ju_judge 107 rfl) rfl (by decide) ?_
                    refine gi_icmp_ne (q := 218) (tgt := 254) C (dm_Ju_judge 108 rfl) rfl (by decide) (fun c215 => ?_) (fun c215 => ?_)
                    · refine gi_iconst (q := 255) (v := 1) C (dm_Ju_judge 129 rfl) rfl (by decide) ?_
                      refine gi_iret C hr9 (dm_Ju_judge 130 rfl) ?_
                      (try simp (disch := omega) only [jw1, jw2, jw3, jw4, jo10, jo11, jo28, jo30, jo31, jl29, jg31] at c16)
                      (try simp (disch := omega) only [jw1, jw2, jw3, jw4, jo10, jo11, jo28, jo30, jo31, jl29, jg31] at c48)
                      (try simp (disch := omega) only [jw1, jw2, jw3, jw4, jo10, jo11, jo28, jo30, jo31, jl29, jg31] at c55)
                      (try simp (disch := omega) only [jw1, jw2, jw3, jw4, jo10, jo11, jo28, jo30, jo31, jl29, jg31] at c62)
                      (try simp (disch := omega) only [jw1, jw2, jw3, jw4, jo10, jo11, jo28, jo30, jo31, jl29, jg31] at c94)
                      (try simp (disch := omega) only [jw1, jw2, jw3, jw4, jo10, jo11, jo28, jo30, jo31, jl29, jg31] at c101)
                      (try simp (disch := omega) only [jw1, jw2, jw3, jw4, jo10, jo11, jo28, jo30, jo31, jl29, jg31] at c136)
                      (try simp (disch := omega) only [jw1, jw2, jw3, jw4, jo10, jo11, jo28, jo30, jo31, jl29, jg31] at c201)
                      (try simp (disch := omega) only [jw1, jw2, jw3, jw4, jo10, jo11, jo28, jo30, jo31, jl29, jg31] at c208)
                      (try simp (disch := omega) only [jw1, jw2, jw3, jw4, jo10, jo11, jo28, jo30, jo31, jl29, jg31] at c215)
                      refine ⟨?_, rfl, rfl⟩
                      rw [ea]
                      unfold jdR
                      rw [if_neg (by omega), if_neg (by omega), if_neg (by omega), if_neg (by omega)]
                    · refine gi_aload (q := 220) C (dm_Ju_judge 109 rfl) rfl rfl ?_
                      refine gi_get (q := 223) C (dm_Ju_judge 110 rfl) rfl fl_Ju_37 (by first | exact hju0 | exact RO.1 | exact hv | exact hva) rfl ?_
                      refine gi_iconst (q := 224) (v := 1) C (dm_Ju_judge 111 rfl) rfl (by decide) ?_
                      refine gi_isub (q := 225) C (dm_Ju_judge 112 rfl) rfl ?_
                      refine gi_iload (q := 227) C (dm_Ju_judge 113 rfl) rfl rfl ?_
                      refine gi_bipush (q := 229) (v := 30) C (dm_Ju_judge 114 rfl) rfl (by decide) ?_
                      refine gi_isub (q := 230) C (dm_Ju_judge 115 rfl) rfl ?_
                      refine gi_isub (q := 231) C (dm_Ju_judge 116 rfl) rfl ?_
                      (try simp (disch := omega) only [jw1, jw2, jw3, jw4, jo10, jo11, jo28, jo30, jo31, jl29, jg31] at c16)
                      (try simp (disch := omega) only [jw1, jw2, jw3, jw4, jo10, jo11, jo28, jo30, jo31, jl29, jg31] at c48)
                      (try simp (disch := omega) only [jw1, jw2, jw3, jw4, jo10, jo11, jo28, jo30, jo31, jl29, jg31] at c55)
                      (try simp (disch := omega) only [jw1, jw2, jw3, jw4, jo10, jo11, jo28, jo30, jo31, jl29, jg31] at c62)
                      (try simp (disch := omega) only [jw1, jw2, jw3, jw4, jo10, jo11, jo28, jo30, jo31, jl29, jg31] at c94)
                      (try simp (disch := omega) only [jw1, jw2, jw3, jw4, jo10, jo11, jo28, jo30, jo31, jl29, jg31] at c101)
                      (try simp (disch := omega) only [jw1, jw2, jw3, jw4, jo10, jo11, jo28, jo30, jo31, jl29, jg31] at c136)
                      (try simp (disch := omega) only [jw1, jw2, jw3, jw4, jo10, jo11, jo28, jo30, jo31, jl29, jg31] at c201)
                      (try simp (disch := omega) only [jw1, jw2, jw3, jw4, jo10, jo11, jo28, jo30, jo31, jl29, jg31] at c208)
                      (try simp (disch := omega) only [jw1, jw2, jw3, jw4, jo10, jo11, jo28, jo30, jo31, jl29, jg31] at c215)
                      obtain ⟨q1, ⟨b, o, eB⟩, fY⟩ := j3 (by omega) (by omega)
                      obtain ⟨Y, eY, oY⟩ := fY (by omega)
                      rw [RG.1, show (1 : Int32) = nI 1 from rfl, show (30 : Int32) = nI 30 from rfl, nI_sb (by omega) (by omega), nI_sb (by omega) (by omega), nI_sb (by omega) (by omega)]
                      have e9 := (RG.2 (q - 1 - (op - 29)) (by omega)).1
                      rw [eB] at e9
                      have hva : h ((Φ (60 * m' + i)).1 (q - 1 - (op - 29))) = some (eV (tV b o)) := by
                        have := rv_at RO (show q - 1 - (op - 29) < 14 by omega)
                        rw [e9] at this
                        exact this
                      have e8 := (RG.2 (q - 1 - (op - 30)) (by omega)).1
                      rw [eY] at e8
                      have hvi : h ((Φ (60 * m' + i)).1 (q - 1 - (op - 30))) = some (eV (sV Y)) := by
                        have := rv_at RO (show q - 1 - (op - 30) < 14 by omega)
                        rw [e8] at this
                        exact this
                      have e7 : q - 1 - (op - 30) - 1 = q - 1 - (op - 29) := by omega
                      refine gi_istore (q := 233) C (dm_Ju_judge 117 rfl) rfl (Nat.le_of_ble_eq_true rfl) ?_
                      refine gi_aload_n (q := 234) (i := 0) C (dm_Ju_judge 118 rfl) rfl rfl rfl ?_
                      refine gi_aload (q := 236) C (dm_Ju_judge 119 rfl) rfl rfl ?_
                      refine gi_iload (q := 238) C (dm_Ju_judge 120 rfl) rfl rfl ?_
                      refine gi_iconst (q := 239) (v := 1) C (dm_Ju_judge 121 rfl) rfl (by decide) ?_
                      refine gi_isub (q := 240) C (dm_Ju_judge 122 rfl) rfl ?_
                      rw [show (1 : Int32) = nI 1 from rfl, nI_sb (by omega) (by omega), e7]
                      refine gi_callv 1 (q := 243) C (dm_Ju_judge 123 rfl) rfl my_Ro_valueAt lk_Ju_41 im_Ro_valueAt rfl (c_Ro_valueAt (j := q - 1 - (op - 29)) (by omega) (by omega) RO) RO.1 rfl rfl ⟨(Nat.le_of_ble_eq_true rfl), (Nat.le_of_ble_eq_true rfl)⟩ (Nat.le_of_ble_eq_true rfl) ⟨(Nat.le_of_ble_eq_true rfl), (Nat.le_of_ble_eq_true rfl)⟩ (fun r240 n240 h240 e240 => ?_)
                      obtain ⟨rfl, q240, u240⟩ := e240
                      rw [q240, u240]
                      refine gi_aload (q := 245) C (dm_Ju_judge 124 rfl) rfl rfl ?_
                      refine gi_iload (q := 247) C (dm_Ju_judge 125 rfl) rfl rfl ?_
                      refine gi_callv 1 (q := 250) C (dm_Ju_judge 126 rfl) rfl my_Ro_valueAt lk_Ju_41 im_Ro_valueAt rfl (c_Ro_valueAt (j := q - 1 - (op - 30)) (by omega) (by omega) RO) RO.1 rfl rfl ⟨(Nat.le_of_ble_eq_true rfl), (Nat.le_of_ble_eq_true rfl)⟩ (Nat.le_of_ble_eq_true rfl) ⟨(Nat.le_of_ble_eq_true rfl), (Nat.le_of_ble_eq_true rfl)⟩ (fun r247 n247 h247 e247 => ?_)
                      obtain ⟨rfl, q247, u247⟩ := e247
                      rw [q247, u247]
                      refine gi_callv 2 (q := 253) C (dm_Ju_judge 127 rfl) rfl my_Ju_judgeIndex lk_Ju_68 im_Ju_judgeIndex rfl (c_Ju_judgeIndex b o Y _ _ hr hju0 HC R hva hvi oY) hju0 rfl rfl ⟨(Nat.le_of_ble_eq_true rfl), (Nat.le_of_ble_eq_true rfl)⟩ (Nat.le_of_ble_eq_true rfl) ⟨(Nat.le_of_ble_eq_true rfl), (Nat.le_of_ble_eq_true rfl)⟩ (fun r250 n250 h250 e250 => ?_)
                      obtain ⟨rfl, q250, u250⟩ := e250
                      rw [q250, u250]
                      refine gi_iret C hr9 (dm_Ju_judge 128 rfl) ?_
                      (try simp (disch := omega) only [jw1, jw2, jw3, jw4, jo10, jo11, jo28, jo30, jo31, jl29, jg31] at c16)
                      (try simp (disch := omega) only [jw1, jw2, jw3, jw4, jo10, jo11, jo28, jo30, jo31, jl29, jg31] at c48)
                      (try simp (disch := omega) only [jw1, jw2, jw3, jw4, jo10, jo11, jo28, jo30, jo31, jl29, jg31] at c55)
                      (try simp (disch := omega) only [jw1, jw2, jw3, jw4, jo10, jo11, jo28, jo30, jo31, jl29, jg31] at c62)
                      (try simp (disch := omega) only [jw1, jw2, jw3, jw4, jo10, jo11, jo28, jo30, jo31, jl29, jg31] at c94)
                      (try simp (disch := omega) only [jw1, jw2, jw3, jw4, jo10, jo11, jo28, jo30, jo31, jl29, jg31] at c101)
                      (try simp (disch := omega) only [jw1, jw2, jw3, jw4, jo10, jo11, jo28, jo30, jo31, jl29, jg31] at c136)
                      (try simp (disch := omega) only [jw1, jw2, jw3, jw4, jo10, jo11, jo28, jo30, jo31, jl29, jg31] at c201)
                      (try simp (disch := omega) only [jw1, jw2, jw3, jw4, jo10, jo11, jo28, jo30, jo31, jl29, jg31] at c208)
                      (try simp (disch := omega) only [jw1, jw2, jw3, jw4, jo10, jo11, jo28, jo30, jo31, jl29, jg31] at c215)
                      refine ⟨?_, rfl, rfl⟩
                      rw [ea]
                      unfold jdR
                      rw [if_neg (by omega), if_neg (by omega), if_neg (by omega), if_pos (by omega), e7, eB, eY]
                      rfl
              · refine gi_iload (q := 141) C (dm_Ju_judge 71 rfl) rfl rfl ?_
                refine gi_bipush (q := 143) (v := 29) C (dm_Ju_judge 72 rfl) rfl (by decide) ?_
                refine gi_icmp_lt (q := 146) (tgt := 199) C (dm_Ju_judge 73 rfl) rfl (by decide) (fun c143 => ?_) (fun c143 => ?_)
                · refine gi_iload_n (q := 200) (i := 3) C (dm_Ju_judge 100 rfl) rfl rfl rfl ?_
                  refine gi_iconst (q := 201) (v := 3) C (dm_Ju_judge 101 rfl) rfl (by decide) ?_
                  refine gi_icmp_ne (q := 204) (tgt := 254) C (dm_Ju_judge 102 rfl) rfl (by decide) (fun c201 => ?_) (fun c201 => ?_)
                  · refine gi_iconst (q := 255) (v := 1) C (dm_Ju_judge 129 rfl) rfl (by decide) ?_
                    refine gi_iret C hr9 (dm_Ju_judge 130 rfl) ?_
                    (try simp (disch := omega) only [jw1, jw2, jw3, jw4, jo10, jo11, jo28, jo30, jo31, jl29, jg31] at c16)
                    (try simp (disch := omega) only [jw1, jw2, jw3, jw4, jo10, jo11, jo28, jo30, jo31, jl29, jg31] at c48)
                    (try simp (disch := omega) only [jw1, jw2, jw3, jw4, jo10, jo11, jo28, jo30, jo31, jl29, jg31] at c55)
                    (try simp (disch := omega) only [jw1, jw2, jw3, jw4, jo10, jo11, jo28, jo30, jo31, jl29, jg31] at c62)
                    (try simp (disch := omega) only [jw1, jw2, jw3, jw4, jo10, jo11, jo28, jo30, jo31, jl29, jg31] at c94)
                    (try simp (disch := omega) only [jw1, jw2, jw3, jw4, jo10, jo11, jo28, jo30, jo31, jl29, jg31] at c101)
                    (try simp (disch := omega) only [jw1, jw2, jw3, jw4, jo10, jo11, jo28, jo30, jo31, jl29, jg31] at c136)
                    (try simp (disch := omega) only [jw1, jw2, jw3, jw4, jo10, jo11, jo28, jo30, jo31, jl29, jg31] at c143)
                    (try simp (disch := omega) only [jw1, jw2, jw3, jw4, jo10, jo11, jo28, jo30, jo31, jl29, jg31] at c201)
                    refine ⟨?_, rfl, rfl⟩
                    rw [ea]
                    unfold jdR
                    rw [if_neg (by omega), if_neg (by omega), if_neg (by omega), if_neg (by omega)]
                  · refine gi_iload (q := 206) C (dm_Ju_judge 103 rfl) rfl rfl ?_
                    refine gi_bipush (q := 208) (v := 30) C (dm_Ju_judge 104 rfl) rfl (by decide) ?_
                    refine gi_icmp_eq (q := 211) (tgt := 218) C (dm_Ju_judge 105 rfl) rfl (by decide) (fun c208 => ?_) (fun c208 => ?_)
                    · refine gi_aload (q := 220) C (dm_Ju_judge 109 rfl) rfl rfl ?_
                      refine gi_get (q := 223) C (dm_Ju_judge 110 rfl) rfl fl_Ju_37 (by first | exact hju0 | exact RO.1 | exact hv | exact hva) rfl ?_
                      refine gi_iconst (q := 224) (v := 1) C (dm_Ju_judge 111 rfl) rfl (by decide) ?_
                      refine gi_isub (q := 225) C (dm_Ju_judge 112 rfl) rfl ?_
                      refine gi_iload (q := 227) C (dm_Ju_judge 113 rfl) rfl rfl ?_
                      refine gi_bipush (q := 229) (v := 30) C (dm_Ju_judge 114 rfl) rfl (by decide) ?_
                      refine gi_isub (q := 230) C (dm_Ju_judge 115 rfl) rfl ?_
                      refine gi_isub (q := 231) C (dm_Ju_judge 116 rfl) rfl ?_
                      (try simp (disch := omega) only [jw1, jw2, jw3, jw4, jo10, jo11, jo28, jo30, jo31, jl29, jg31] at c16)
                      (try simp (disch := omega) only [jw1, jw2, jw3, jw4, jo10, jo11, jo28, jo30, jo31, jl29, jg31] at c48)
                      (try simp (disch := omega) only [jw1, jw2, jw3, jw4, jo10, jo11, jo28, jo30, jo31, jl29, jg31] at c55)
                      (try simp (disch := omega) only [jw1, jw2, jw3, jw4, jo10, jo11, jo28, jo30, jo31, jl29, jg31] at c62)
                      (try simp (disch := omega) only [jw1, jw2, jw3, jw4, jo10, jo11, jo28, jo30, jo31, jl29, jg31] at c94)
                      (try simp (disch := omega) only [jw1, jw2, jw3, jw4, jo10, jo11, jo28, jo30, jo31, jl29, jg31] at c101)
                      (try simp (disch := omega) only [jw1, jw2, jw3, jw4, jo10, jo11, jo28, jo30, jo31, jl29, jg31] at c136)
                      (try simp (disch := omega) only [jw1, jw2, jw3, jw4, jo10, jo11, jo28, jo30, jo31, jl29, jg31] at c143)
                      (try simp (disch := omega) only [jw1, jw2, jw3, jw4, jo10, jo11, jo28, jo30, jo31, jl29, jg31] at c201)
                      (try simp (disch := omega) only [jw1, jw2, jw3, jw4, jo10, jo11, jo28, jo30, jo31, jl29, jg31] at c208)
                      obtain ⟨q1, ⟨b, o, eB⟩, fY⟩ := j3 (by omega) (by omega)
                      obtain ⟨Y, eY, oY⟩ := fY (by omega)
                      rw [RG.1, show (1 : Int32) = nI 1 from rfl, show (30 : Int32) = nI 30 from rfl, nI_sb (by omega) (by omega), nI_sb (by omega) (by omega), nI_sb (by omega) (by omega)]
                      have e9 := (RG.2 (q - 1 - (op - 29)) (by omega)).1
                      rw [eB] at e9
                      have hva : h ((Φ (60 * m' + i)).1 (q - 1 - (op - 29))) = some (eV (tV b o)) := by
                        have := rv_at RO (show q - 1 - (op - 29) < 14 by omega)
                        rw [e9] at this
                        exact this
                      have e8 := (RG.2 (q - 1 - (op - 30)) (by omega)).1
                      rw [eY] at e8
                      have hvi : h ((Φ (60 * m' + i)).1 (q - 1 - (op - 30))) = some (eV (sV Y)) := by
                        have := rv_at RO (show q - 1 - (op - 30) < 14 by omega)
                        rw [e8] at this
                        exact this
                      have e7 : q - 1 - (op - 30) - 1 = q - 1 - (op - 29) := by omega
                      refine gi_istore (q := 233) C (dm_Ju_judge 117 rfl) rfl (Nat.le_of_ble_eq_true rfl) ?_
                      refine gi_aload_n (q := 234) (i := 0) C (dm_Ju_judge 118 rfl) rfl rfl rfl ?_
                      refine gi_aload (q := 236) C (dm_Ju_judge 119 rfl) rfl rfl ?_
                      refine gi_iload (q := 238) C (dm_Ju_judge 120 rfl) rfl rfl ?_
                      refine gi_iconst (q := 239) (v := 1) C (dm_Ju_judge 121 rfl) rfl (by decide) ?_
                      refine gi_isub (q := 240) C (dm_Ju_judge 122 rfl) rfl ?_
                      rw [show (1 : Int32) = nI 1 from rfl, nI_sb (by omega) (by omega), e7]
                      refine gi_callv 1 (q := 243) C (dm_Ju_judge 123 rfl) rfl my_Ro_valueAt lk_Ju_41 im_Ro_valueAt rfl (c_Ro_valueAt (j := q - 1 - (op - 29)) (by omega) (by omega) RO) RO.1 rfl rfl ⟨(Nat.le_of_ble_eq_true rfl), (Nat.le_of_ble_eq_true rfl)⟩ (Nat.le_of_ble_eq_true rfl) ⟨(Nat.le_of_ble_eq_true rfl), (Nat.le_of_ble_eq_true rfl)⟩ (fun r240 n240 h240 e240 => ?_)
                      obtain ⟨rfl, q240, u240⟩ := e240
                      rw [q240, u240]
                      refine gi_aload (q := 245) C (dm_Ju_judge 124 rfl) rfl rfl ?_
                      refine gi_iload (q := 247) C (dm_Ju_judge 125 rfl) rfl rfl ?_
                      refine gi_callv 1 (q := 250) C (dm_Ju_judge 126 rfl) rfl my_Ro_valueAt lk_Ju_41 im_Ro_valueAt rfl (c_Ro_valueAt (j := q - 1 - (op - 30)) (by omega) (by omega) RO) RO.1 rfl rfl ⟨(Nat.le_of_ble_eq_true rfl), (Nat.le_of_ble_eq_true rfl)⟩ (Nat.le_of_ble_eq_true rfl) ⟨(Nat.le_of_ble_eq_true rfl), (Nat.le_of_ble_eq_true rfl)⟩ (fun r247 n247 h247 e247 => ?_)
                      obtain ⟨rfl, q247, u247⟩ := e247
                      rw [q247, u247]
                      refine gi_callv 2 (q := 253) C (dm_Ju_judge 127 rfl) rfl my_Ju_judgeIndex lk_Ju_68 im_Ju_judgeIndex rfl (c_Ju_judgeIndex b o Y _ _ hr hju0 HC R hva hvi oY) hju0 rfl rfl ⟨(Nat.le_of_ble_eq_true rfl), (Nat.le_of_ble_eq_true rfl)⟩ (Nat.le_of_ble_eq_true rfl) ⟨(Nat.le_of_ble_eq_true rfl), (Nat.le_of_ble_eq_true rfl)⟩ (fun r250 n250 h250 e250 => ?_)
                      obtain ⟨rfl, q250, u250⟩ := e250
                      rw [q250, u250]
                      refine gi_iret C hr9 (dm_Ju_judge 128 rfl) ?_
                      (try simp (disch := omega) only [jw1, jw2, jw3, jw4, jo10, jo11, jo28, jo30, jo31, jl29, jg31] at c16)
                      (try simp (disch := omega) only [jw1, jw2, jw3, jw4, jo10, jo11, jo28, jo30, jo31, jl29, jg31] at c48)
                      (try simp (disch := omega) only [jw1, jw2, jw3, jw4, jo10, jo11, jo28, jo30, jo31, jl29, jg31] at c55)
                      (try simp (disch := omega) only [jw1, jw2, jw3, jw4, jo10, jo11, jo28, jo30, jo31, jl29, jg31] at c62)
                      (try simp (disch := omega) only [jw1, jw2, jw3, jw4, jo10, jo11, jo28, jo30, jo31, jl29, jg31] at c94)
                      (try simp (disch := omega) only [jw1, jw2, jw3, jw4, jo10, jo11, jo28, jo30, jo31, jl29, jg31] at c101)
                      (try simp (disch := omega) only [jw1, jw2, jw3, jw4, jo10, jo11, jo28, jo30, jo31, jl29, jg31] at c136)
                      (try simp (disch := omega) only [jw1, jw2, jw3, jw4, jo10, jo11, jo28, jo30, jo31, jl29, jg31] at c143)
                      (try simp (disch := omega) only [jw1, jw2, jw3, jw4, jo10, jo11, jo28, jo30, jo31, jl29, jg31] at c201)
                      (try simp (disch := omega) only [jw1, jw2, jw3, jw4, jo10, jo11, jo28, jo30, jo31, jl29, jg31] at c208)
                      refine ⟨?_, rfl, rfl⟩
                      rw [ea]
                      unfold jdR
                      rw [if_neg (by omega), if_neg (by omega), if_neg (by omega), if_pos (by omega), e7, eB, eY]
                      rfl
                    · refine gi_iload (q := 213) C (dm_Ju_judge 106 rfl) rfl rfl ?_
                      refine gi_bipush (q := 215) (v := 31) C (dm_Ju_judge 107 rfl) rfl (by decide) ?_
                      refine gi_icmp_ne (q := 218) (tgt := 254) C (dm_Ju_judge 108 rfl) rfl (by decide) (fun c215 => ?_) (fun c215 => ?_)
                      · refine gi_iconst (q := 255) (v := 1) C (dm_Ju_judge 129 rfl) rfl (by decide) ?_
                        refine gi_iret C hr9 (dm_Ju_judge 130 rfl) ?_
                        (try simp (disch := omega) only [jw1, jw2, jw3, jw4, jo10, jo11, jo28, jo30, jo31, jl29, jg31] at c16)
                        (try simp (disch := omega) only [jw1, jw2, jw3, jw4, jo10, jo11, jo28, jo30, jo31, jl29, jg31] at c48)
                        (try simp (disch := omega) only [jw1, jw2, jw3, jw4, jo10, jo11, jo28, jo30, jo31, jl29, jg31] at c55)
                        (try simp (disch := omega) only [jw1, jw2, jw3, jw4, jo10, jo11, jo28, jo30, jo31, jl29, jg31] at c62)
                        (try simp (disch := omega) only [jw1, jw2, jw3, jw4, jo10, jo11, jo28, jo30, jo31, jl29, jg31] at c94)
                        (try simp (disch := omega) only [jw1, jw2, jw3, jw4, jo10, jo11, jo28, jo30, jo31, jl29, jg31] at c101)
                        (try simp (disch := omega) only [jw1, jw2, jw3, jw4, jo10, jo11, jo28, jo30, jo31, jl29, jg31] at c136)
                        (try simp (disch := omega) only [jw1, jw2, jw3, jw4, jo10, jo11, jo28, jo30, jo31, jl29, jg31] at c143)
                        (try simp (disch := omega) only [jw1, jw2, jw3, jw4, jo10, jo11, jo28, jo30, jo31, jl29, jg31] at c201)
                        (try simp (disch := omega) only [jw1, jw2, jw3, jw4, jo10, jo11, jo28, jo30, jo31, jl29, jg31] at c208)
                        (try simp (disch := omega) only [jw1, jw2, jw3, jw4, jo10, jo11, jo28, jo30, jo31, jl29, jg31] at c215)
                        refine ⟨?_, rfl, rfl⟩
                        rw [ea]
                        unfold jdR
                        rw [if_neg (by omega), if_neg (by omega), if_neg (by omega), if_neg (by omega)]
                      · refine gi_aload (q := 220) C (dm_Ju_judge 109 rfl) rfl rfl ?_
                        refine gi_get (q := 223) C (dm_Ju_judge 110 rfl) rfl fl_Ju_37 (by first | exact hju0 | exact RO.1 | exact hv | exact hva) rfl ?_
                        refine gi_iconst (q := 224) (v := 1) C (dm_Ju_judge 111 rfl) rfl (by decide) ?_
                        refine gi_isub (q := 225) C (dm_Ju_judge 112 rfl) rfl ?_
                        refine gi_iload (q := 227) C (dm_Ju_judge 113 rfl) rfl rfl ?_
                        refine gi_bipush (q := 229) (v := 30) C (dm_Ju_judge 114 rfl) rfl (by decide) ?_
                        refine gi_isub (q := 230) C (dm_Ju_judge 115 rfl) rfl ?_
                        refine gi_isub (q := 231) C (dm_Ju_judge 116 rfl) rfl ?_
                        (try simp (disch := omega) only [jw1, jw2, jw3, jw4, jo10, jo11, jo28, jo30, jo31, jl29, jg31] at c16)
                        (try simp (disch := omega) only [jw1, jw2, jw3, jw4, jo10, jo11, jo28, jo30, jo31, jl29, jg31] at c48)
                        (try simp (disch := omega) only [jw1, jw2, jw3, jw4, jo10, jo11, jo28, jo30, jo31, jl29, jg31] at c55)
                        (try simp (disch := omega) only [jw1, jw2, jw3, jw4, jo10, jo11, jo28, jo30, jo31, jl29, jg31] at c62)
                        (try simp (disch := omega) only [jw1, jw2, jw3, jw4, jo10, jo11, jo28, jo30, jo31, jl29, jg31] at c94)
                        (try simp (disch := omega) only [jw1, jw2, jw3, jw4, jo10, jo11, jo28, jo30, jo31, jl29, jg31] at c101)
                        (try simp (disch := omega) only [jw1, jw2, jw3, jw4, jo10, jo11, jo28, jo30, jo31, jl29, jg31] at c136)
                        (try simp (disch := omega) only [jw1, jw2, jw3, jw4, jo10, jo11, jo28, jo30, jo31, jl29, jg31] at c143)
                        (try simp (disch := omega) only [jw1, jw2, jw3, jw4, jo10, jo11, jo28, jo30, jo31, jl29, jg31] at c201)
                        (try simp (disch := omega) only [jw1, jw2, jw3, jw4, jo10, jo11, jo28, jo30, jo31, jl29, jg31] at c208)
                        (try simp (disch := omega) only [jw1, jw2, jw3, jw4, jo10, jo11, jo28, jo30, jo31, jl29, jg31] at c215)
                        obtain ⟨q1, ⟨b, o, eB⟩, fY⟩ := j3 (by omega) (by omega)
                        obtain ⟨Y, eY, oY⟩ := fY (by omega)
                        rw [RG.1, show (1 : Int32) = nI 1 from rfl, show (30 : Int32) = nI 30 from rfl, nI_sb (by omega) (by omega), nI_sb (by omega) (by omega), nI_sb (by omega) (by omega)]
                        have e9 := (RG.2 (q - 1 - (op - 29)) (by omega)).1
                        rw [eB] at e9
                        have hva : h ((Φ (60 * m' + i)).1 (q - 1 - (op - 29))) = some (eV (tV b o)) := by
                          have := rv_at RO (show q - 1 - (op - 29) < 14 by omega)
                          rw [e9] at this
                          exact this
                        have e8 := (RG.2 (q - 1 - (op - 30)) (by omega)).1
                        rw [eY] at e8
                        have hvi : h ((Φ (60 * m' + i)).1 (q - 1 - (op - 30))) = some (eV (sV Y)) := by
                          have := rv_at RO (show q - 1 - (op - 30) < 14 by omega)
                          rw [e8] at this
                          exact this
                        have e7 : q - 1 - (op - 30) - 1 = q - 1 - (op - 29) := by omega
                        refine gi_istore (q := 233) C (dm_Ju_judge 117 rfl) rfl (Nat.le_of_ble_eq_true rfl) ?_
                        refine gi_aload_n (q := 234) (i := 0) C (dm_Ju_judge 118 rfl) rfl rfl rfl ?_
                        refine gi_aload (q := 236) C (dm_Ju_judge 119 rfl) rfl rfl ?_
                        refine gi_iload (q := 238) C (dm_Ju_judge 120 rfl) rfl rfl ?_
                        refine gi_iconst (q := 239) (v := 1) C (dm_Ju_judge 121 rfl) rfl (by decide) ?_
                        refine gi_isub (q := 240) C (dm_Ju_judge 122 rfl) rfl ?_
                        rw [show (1 : Int32) = nI 1 from rfl, nI_sb (by omega) (by omega), e7]
                        refine gi_callv 1 (q := 243) C (dm_Ju_judge 123 rfl) rfl my_Ro_valueAt lk_Ju_41 im_Ro_valueAt rfl (c_Ro_valueAt (j := q - 1 - (op - 29)) (by omega) (by omega) RO) RO.1 rfl rfl ⟨(Nat.le_of_ble_eq_true rfl), (Nat.le_of_ble_eq_true rfl)⟩ (Nat.le_of_ble_eq_true rfl) ⟨(Nat.le_of_ble_eq_true rfl), (Nat.le_of_ble_eq_true rfl)⟩ (fun r240 n240 h240 e240 => ?_)
                        obtain ⟨rfl, q240, u240⟩ := e240
                        rw [q240, u240]
                        refine gi_aload (q := 245) C (dm_Ju_judge 124 rfl) rfl rfl ?_
                        refine gi_iload (q := 247) C (dm_Ju_judge 125 rfl) rfl rfl ?_
                        refine gi_callv 1 (q := 250) C (dm_Ju_judge 126 rfl) rfl my_Ro_valueAt lk_Ju_41 im_Ro_valueAt rfl (c_Ro_valueAt (j := q - 1 - (op - 30)) (by omega) (by omega) RO) RO.1 rfl rfl ⟨(Nat.le_of_ble_eq_true rfl), (Nat.le_of_ble_eq_true rfl)⟩ (Nat.le_of_ble_eq_true rfl) ⟨(Nat.le_of_ble_eq_true rfl), (Nat.le_of_ble_eq_true rfl)⟩ (fun r247 n247 h247 e247 => ?_)
                        obtain ⟨rfl, q247, u247⟩ := e247
                        rw [q247, u247]
                        refine gi_callv 2 (q := 253) C (dm_Ju_judge 127 rfl) rfl my_Ju_judgeIndex lk_Ju_68 im_Ju_judgeIndex rfl (c_Ju_judgeIndex b o Y _ _ hr hju0 HC R hva hvi oY) hju0 rfl rfl ⟨(Nat.le_of_ble_eq_true rfl), (Nat.le_of_ble_eq_true rfl)⟩ (Nat.le_of_ble_eq_true rfl) ⟨(Nat.le_of_ble_eq_true rfl), (Nat.le_of_ble_eq_true rfl)⟩ (fun r250 n250 h250 e250 => ?_)
                        obtain ⟨rfl, q250, u250⟩ := e250
                        rw [q250, u250]
                        refine gi_iret C hr9 (dm_Ju_judge 128 rfl) ?_
                        (try simp (disch := omega) only [jw1, jw2, jw3, jw4, jo10, jo11, jo28, jo30, jo31, jl29, jg31] at c16)
                        (try simp (disch := omega) only [jw1, jw2, jw3, jw4, jo10, jo11, jo28, jo30, jo31, jl29, jg31] at c48)
                        (try simp (disch := omega) only [jw1, jw2, jw3, jw4, jo10, jo11, jo28, jo30, jo31, jl29, jg31] at c55)
                        (try simp (disch := omega) only [jw1, jw2, jw3, jw4, jo10, jo11, jo28, jo30, jo31, jl29, jg31] at c62)
                        (try simp (disch := omega) only [jw1, jw2, jw3, jw4, jo10, jo11, jo28, jo30, jo31, jl29, jg31] at c94)
                        (try simp (disch := omega) only [jw1, jw2, jw3, jw4, jo10, jo11, jo28, jo30, jo31, jl29, jg31] at c101)
                        (try simp (disch := omega) only [jw1, jw2, jw3, jw4, jo10, jo11, jo28, jo30, jo31, jl29, jg31] at c136)
                        (try simp (disch := omega) only [jw1, jw2, jw3, jw4, jo10, jo11, jo28, jo30, jo31, jl29, jg31] at c143)
                        (try simp (disch := omega) only [jw1, jw2, jw3, jw4, jo10, jo11, jo28, jo30, jo31, jl29, jg31] at c201)
                        (try simp (disch := omega) only [jw1, jw2, jw3, jw4, jo10, jo11, jo28, jo30, jo31, jl29, jg31] at c208)
                        (try simp (disch := omega) only [jw1, jw2, jw3, jw4, jo10, jo11, jo28, jo30, jo31, jl29, jg31] at c215)
                        refine ⟨?_, rfl, rfl⟩
                        rw [ea]
                        unfold jdR
                        rw [if_neg (by omega), if_neg (by omega), if_neg (by omega), if_pos (by omega), e7, eB, eY]
                        rfl
                · refine gi_iload (q := 148) C (dm_Ju_judge 74 rfl) rfl rfl ?_
                  refine gi_bipush (q := 150) (v := 31) C (dm_Ju_judge 75 rfl) rfl (by decide) ?_
                  refine gi_icmp_gt (q := 153) (tgt := 199) C (dm_Ju_judge 76 rfl) rfl (by decide) (fun c150 => ?_) (fun c150 => ?_)
                  · refine gi_iload_n (q := 200) (i := 3) C (dm_Ju_judge 100 rfl) rfl rfl rfl ?_
                    refine gi_iconst (q := 201) (v := 3) C (dm_Ju_judge 101 rfl) rfl (by decide) ?_
                    refine gi_icmp_ne (q := 204) (tgt := 254) C (dm_Ju_judge 102 rfl) rfl (by decide) (fun c201 => ?_) (fun c201 => ?_)
                    · refine gi_iconst (q := 255) (v := 1) C (dm_Ju_judge 129 rfl) rfl (by decide) ?_
                      refine gi_iret C hr9 (dm_Ju_judge 130 rfl) ?_
                      (try simp (disch := omega) only [jw1, jw2, jw3, jw4, jo10, jo11, jo28, jo30, jo31, jl29, jg31] at c16)
                      (try simp (disch := omega) only [jw1, jw2, jw3, jw4, jo10, jo11, jo28, jo30, jo31, jl29, jg31] at c48)
                      (try simp (disch := omega) only [jw1, jw2, jw3, jw4, jo10, jo11, jo28, jo30, jo31, jl29, jg31] at c55)
                      (try simp (disch := omega) only [jw1, jw2, jw3, jw4, jo10, jo11, jo28, jo30, jo31, jl29, jg31] at c62)
                      (try simp (disch := omega) only [jw1, jw2, jw3, jw4, jo10, jo11, jo28, jo30, jo31, jl29, jg31] at c94)
                      (try simp (disch := omega) only [jw1, jw2, jw3, jw4, jo10, jo11, jo28, jo30, jo31, jl29, jg31] at c101)
                      (try simp (disch := omega) only [jw1, jw2, jw3, jw4, jo10, jo11, jo28, jo30, jo31, jl29, jg31] at c136)
                      (try simp (disch := omega) only [jw1, jw2, jw3, jw4, jo10, jo11, jo28, jo30, jo31, jl29, jg31] at c143)
                      (try simp (disch := omega) only [jw1, jw2, jw3, jw4, jo10, jo11, jo28, jo30, jo31, jl29, jg31] at c150)
                      (try simp (disch := omega) only [jw1, jw2, jw3, jw4, jo10, jo11, jo28, jo30, jo31, jl29, jg31] at c201)
                      refine ⟨?_, rfl, rfl⟩
                      rw [ea]
                      unfold jdR
                      rw [if_neg (by omega), if_neg (by omega), if_neg (by omega), if_neg (by omega)]
                    · refine gi_iload (q := 206) C (dm_Ju_judge 103 rfl) rfl rfl ?_
                      refine gi_bipush (q := 208) (v := 30) C (dm_Ju_judge 104 rfl) rfl (by decide) ?_
                      refine gi_icmp_eq (q := 211) (tgt := 218) C (dm_Ju_judge 105 rfl) rfl (by decide) (fun c208 => ?_) (fun c208 => ?_)
                      · refine gi_aload (q := 220) C (dm_Ju_judge 109 rfl) rfl rfl ?_
                        refine gi_get (q := 223) C (dm_Ju_judge 110 rfl) rfl fl_Ju_37 (by first | exact hju0 | exact RO.1 | exact hv | exact hva) rfl ?_
                        refine gi_iconst (q := 224) (v := 1) C (dm_Ju_judge 111 rfl) rfl (by decide) ?_
                        refine gi_isub (q := 225) C (dm_Ju_judge 112 rfl) rfl ?_
                        refine gi_iload (q := 227) C (dm_Ju_judge 113 rfl) rfl rfl ?_
                        refine gi_bipush (q := 229) (v := 30) C (dm_Ju_judge 114 rfl) rfl (by decide) ?_
                        refine gi_isub (q := 230) C (dm_Ju_judge 115 rfl) rfl ?_
                        refine gi_isub (q := 231) C (dm_Ju_judge 116 rfl) rfl ?_
                        (try simp (disch := omega) only [jw1, jw2, jw3, jw4, jo10, jo11, jo28, jo30, jo31, jl29, jg31] at c16)
                        (try simp (disch := omega) only [jw1, jw2, jw3, jw4, jo10, jo11, jo28, jo30, jo31, jl29, jg31] at c48)
                        (try simp (disch := omega) only [jw1, jw2, jw3, jw4, jo10, jo11, jo28, jo30, jo31, jl29, jg31] at c55)
                        (try simp (disch := omega) only [jw1, jw2, jw3, jw4, jo10, jo11, jo28, jo30, jo31, jl29, jg31] at c62)
                        (try simp (disch := omega) only [jw1, jw2, jw3, jw4, jo10, jo11, jo28, jo30, jo31, jl29, jg31] at c94)
                        (try simp (disch := omega) only [jw1, jw2, jw3, jw4, jo10, jo11, jo28, jo30, jo31, jl29, jg31] at c101)
                        (try simp (disch := omega) only [jw1, jw2, jw3, jw4, jo10, jo11, jo28, jo30, jo31, jl29, jg31] at c136)
                        (try simp (disch := omega) only [jw1, jw2, jw3, jw4, jo10, jo11, jo28, jo30, jo31, jl29, jg31] at c143)
                        (try simp (disch := omega) only [jw1, jw2, jw3, jw4, jo10, jo11, jo28, jo30, jo31, jl29, jg31] at c150)
                        (try simp (disch := omega) only [jw1, jw2, jw3, jw4, jo10, jo11, jo28, jo30, jo31, jl29, jg31] at c201)
                        (try simp (disch := omega) only [jw1, jw2, jw3, jw4, jo10, jo11, jo28, jo30, jo31, jl29, jg31] at c208)
                        obtain ⟨q1, ⟨b, o, eB⟩, fY⟩ := j3 (by omega) (by omega)
                        obtain ⟨Y, eY, oY⟩ := fY (by omega)
                        rw [RG.1, show (1 : Int32) = nI 1 from rfl, show (30 : Int32) = nI 30 from rfl, nI_sb (by omega) (by omega), nI_sb (by omega) (by omega), nI_sb (by omega) (by omega)]
                        have e9 := (RG.2 (q - 1 - (op - 29)) (by omega)).1
                        rw [eB] at e9
                        have hva : h ((Φ (60 * m' + i)).1 (q - 1 - (op - 29))) = some (eV (tV b o)) := by
                          have := rv_at RO (show q - 1 - (op - 29) < 14 by omega)
                          rw [e9] at this
                          exact this
                        have e8 := (RG.2 (q - 1 - (op - 30)) (by omega)).1
                        rw [eY] at e8
                        have hvi : h ((Φ (60 * m' + i)).1 (q - 1 - (op - 30))) = some (eV (sV Y)) := by
                          have := rv_at RO (show q - 1 - (op - 30) < 14 by omega)
                          rw [e8] at this
                          exact this
                        have e7 : q - 1 - (op - 30) - 1 = q - 1 - (op - 29) := by omega
                        refine gi_istore (q := 233) C (dm_Ju_judge 117 rfl) rfl (Nat.le_of_ble_eq_true rfl) ?_
                        refine gi_aload_n (q := 234) (i := 0) C (dm_Ju_judge 118 rfl) rfl rfl rfl ?_
                        refine gi_aload (q := 236) C (dm_Ju_judge 119 rfl) rfl rfl ?_
                        refine gi_iload (q := 238) C (dm_Ju_judge 120 rfl) rfl rfl ?_
                        refine gi_iconst (q := 239) (v := 1) C (dm_Ju_judge 121 rfl) rfl (by decide) ?_
                        refine gi_isub (q := 240) C (dm_Ju_judge 122 rfl) rfl ?_
                        rw [show (1 : Int32) = nI 1 from rfl, nI_sb (by omega) (by omega), e7]
                        refine gi_callv 1 (q := 243) C (dm_Ju_judge 123 rfl) rfl my_Ro_valueAt lk_Ju_41 im_Ro_valueAt rfl (c_Ro_valueAt (j := q - 1 - (op - 29)) (by omega) (by omega) RO) RO.1 rfl rfl ⟨(Nat.le_of_ble_eq_true rfl), (Nat.le_of_ble_eq_true rfl)⟩ (Nat.le_of_ble_eq_true rfl) ⟨(Nat.le_of_ble_eq_true rfl), (Nat.le_of_ble_eq_true rfl)⟩ (fun r240 n240 h240 e240 => ?_)
                        obtain ⟨rfl, q240, u240⟩ := e240
                        rw [q240, u240]
                        refine gi_aload (q := 245) C (dm_Ju_judge 124 rfl) rfl rfl ?_
                        refine gi_iload (q := 247) C (dm_Ju_judge 125 rfl) rfl rfl ?_
                        refine gi_callv 1 (q := 250) C (dm_Ju_judge 126 rfl) rfl my_Ro_valueAt lk_Ju_41 im_Ro_valueAt rfl (c_Ro_valueAt (j := q - 1 - (op - 30)) (by omega) (by omega) RO) RO.1 rfl rfl ⟨(Nat.le_of_ble_eq_true rfl), (Nat.le_of_ble_eq_true rfl)⟩ (Nat.le_of_ble_eq_true rfl) ⟨(Nat.le_of_ble_eq_true rfl), (Nat.le_of_ble_eq_true rfl)⟩ (fun r247 n247 h247 e247 => ?_)
                        obtain ⟨rfl, q247, u247⟩ := e247
                        rw [q247, u247]
                        refine gi_callv 2 (q := 253) C (dm_Ju_judge 127 rfl) rfl my_Ju_judgeIndex lk_Ju_68 im_Ju_judgeIndex rfl (c_Ju_judgeIndex b o Y _ _ hr hju0 HC R hva hvi oY) hju0 rfl rfl ⟨(Nat.le_of_ble_eq_true rfl), (Nat.le_of_ble_eq_true rfl)⟩ (Nat.le_of_ble_eq_true rfl) ⟨(Nat.le_of_ble_eq_true rfl), (Nat.le_of_ble_eq_true rfl)⟩ (fun r250 n250 h250 e250 => ?_)
                        obtain ⟨rfl, q250, u250⟩ := e250
                        rw [q250, u250]
                        refine gi_iret C hr9 (dm_Ju_judge 128 rfl) ?_
                        (try simp (disch := omega) only [jw1, jw2, jw3, jw4, jo10, jo11, jo28, jo30, jo31, jl29, jg31] at c16)
                        (try simp (disch := omega) only [jw1, jw2, jw3, jw4, jo10, jo11, jo28, jo30, jo31, jl29, jg31] at c48)
                        (try simp (disch := omega) only [jw1, jw2, jw3, jw4, jo10, jo11, jo28, jo30, jo31, jl29, jg31] at c55)
                        (try simp (disch := omega) only [jw1, jw2, jw3, jw4, jo10, jo11, jo28, jo30, jo31, jl29, jg31] at c62)
                        (try simp (disch := omega) only [jw1, jw2, jw3, jw4, jo10, jo11, jo28, jo30, jo31, jl29, jg31] at c94)
                        (try simp (disch := omega) only [jw1, jw2, jw3, jw4, jo10, jo11, jo28, jo30, jo31, jl29, jg31] at c101)
                        (try simp (disch := omega) only [jw1, jw2, jw3, jw4, jo10, jo11, jo28, jo30, jo31, jl29, jg31] at c136)
                        (try simp (disch := omega) only [jw1, jw2, jw3, jw4, jo10, jo11, jo28, jo30, jo31, jl29, jg31] at c143)
                        (try simp (disch := omega) only [jw1, jw2, jw3, jw4, jo10, jo11, jo28, jo30, jo31, jl29, jg31] at c150)
                        (try simp (disch := omega) only [jw1, jw2, jw3, jw4, jo10, jo11, jo28, jo30, jo31, jl29, jg31] at c201)
                        (try simp (disch := omega) only [jw1, jw2, jw3, jw4, jo10, jo11, jo28, jo30, jo31, jl29, jg31] at c208)
                        refine ⟨?_, rfl, rfl⟩
                        rw [ea]
                        unfold jdR
                        rw [if_neg (by omega), if_neg (by omega), if_neg (by omega), if_pos (by omega), e7, eB, eY]
                        rfl
                      · refine gi_iload (q := 213) C (dm_Ju_judge 106 rfl) rfl rfl ?_
                        refine gi_bipush (q := 215) (v := 31) C (dm_Ju_judge 107 rfl) rfl (by decide) ?_
                        refine gi_icmp_ne (q := 218) (tgt := 254) C (dm_Ju_judge 108 rfl) rfl (by decide) (fun c215 => ?_) (fun c215 => ?_)
                        · refine gi_iconst (q := 255) (v := 1) C (dm_Ju_judge 129 rfl) rfl (by decide) ?_
                          refine gi_iret C hr9 (dm_Ju_judge 130 rfl) ?_
                          (try simp (disch := omega) only [jw1, jw2, jw3, jw4, jo10, jo11, jo28, jo30, jo31, jl29, jg31] at c16)
                          (try simp (disch := omega) only [jw1, jw2, jw3, jw4, jo10, jo11, jo28, jo30, jo31, jl29, jg31] at c48)
                          (try simp (disch := omega) only [jw1, jw2, jw3, jw4, jo10, jo11, jo28, jo30, jo31, jl29, jg31] at c55)
                          (try simp (disch := omega) only [jw1, jw2, jw3, jw4, jo10, jo11, jo28, jo30, jo31, jl29, jg31] at c62)
                          (try simp (disch := omega) only [jw1, jw2, jw3, jw4, jo10, jo11, jo28, jo30, jo31, jl29, jg31] at c94)
                          (try simp (disch := omega) only [jw1, jw2, jw3, jw4, jo10, jo11, jo28, jo30, jo31, jl29, jg31] at c101)
                          (try simp (disch := omega) only [jw1, jw2, jw3, jw4, jo10, jo11, jo28, jo30, jo31, jl29, jg31] at c136)
                          (try simp (disch := omega) only [jw1, jw2, jw3, jw4, jo10, jo11, jo28, jo30, jo31, jl29, jg31] at c143)
                          (try simp (disch := omega) only [jw1, jw2, jw3, jw4, jo10, jo11, jo28, jo30, jo31, jl29, jg31] at c150)
                          (try simp (disch := omega) only [jw1, jw2, jw3, jw4, jo10, jo11, jo28, jo30, jo31, jl29, jg31] at c201)
                          (try simp (disch := omega) only [jw1, jw2, jw3, jw4, jo10, jo11, jo28, jo30, jo31, jl29, jg31] at c208)
                          (try simp (disch := omega) only [jw1, jw2, jw3, jw4, jo10, jo11, jo28, jo30, jo31, jl29, jg31] at c215)
                          refine ⟨?_, rfl, rfl⟩
                          rw [ea]
                          unfold jdR
                          rw [if_neg (by omega), if_neg (by omega), if_neg (by omega), if_neg (by omega)]
                        · refine gi_aload (q := 220) C (dm_Ju_judge 109 rfl) rfl rfl ?_
                          refine gi_get (q := 223) C (dm_Ju_judge 110 rfl) rfl fl_Ju_37 (by first | exact hju0 | exact RO.1 | exact hv | exact hva) rfl ?_
                          refine gi_iconst (q := 224) (v := 1) C (dm_Ju_judge 111 rfl) rfl (by decide) ?_
                          refine gi_isub (q := 225) C (dm_Ju_judge 112 rfl) rfl ?_
                          refine gi_iload (q := 227) C (dm_Ju_judge 113 rfl) rfl rfl ?_
                          refine gi_bipush (q := 229) (v := 30) C (dm_Ju_judge 114 rfl) rfl (by decide) ?_
                          refine gi_isub (q := 230) C (dm_Ju_judge 115 rfl) rfl ?_
                          refine gi_isub (q := 231) C (dm_Ju_judge 116 rfl) rfl ?_
                          (try simp (disch := omega) only [jw1, jw2, jw3, jw4, jo10, jo11, jo28, jo30, jo31, jl29, jg31] at c16)
                          (try simp (disch := omega) only [jw1, jw2, jw3, jw4, jo10, jo11, jo28, jo30, jo31, jl29, jg31] at c48)
                          (try simp (disch := omega) only [jw1, jw2, jw3, jw4, jo10, jo11, jo28, jo30, jo31, jl29, jg31] at c55)
                          (try simp (disch := omega) only [jw1, jw2, jw3, jw4, jo10, jo11, jo28, jo30, jo31, jl29, jg31] at c62)
                          (try simp (disch := omega) only [jw1, jw2, jw3, jw4, jo10, jo11, jo28, jo30, jo31, jl29, jg31] at c94)
                          (try simp (disch := omega) only [jw1, jw2, jw3, jw4, jo10, jo11, jo28, jo30, jo31, jl29, jg31] at c101)
                          (try simp (disch := omega) only [jw1, jw2, jw3, jw4, jo10, jo11, jo28, jo30, jo31, jl29, jg31] at c136)
                          (try simp (disch := omega) only [jw1, jw2, jw3, jw4, jo10, jo11, jo28, jo30, jo31, jl29, jg31] at c143)
                          (try simp (disch := omega) only [jw1, jw2, jw3, jw4, jo10, jo11, jo28, jo30, jo31, jl29, jg31] at c150)
                          (try simp (disch := omega) only [jw1, jw2, jw3, jw4, jo10, jo11, jo28, jo30, jo31, jl29, jg31] at c201)
                          (try simp (disch := omega) only [jw1, jw2, jw3, jw4, jo10, jo11, jo28, jo30, jo31, jl29, jg31] at c208)
                          (try simp (disch := omega) only [jw1, jw2, jw3, jw4, jo10, jo11, jo28, jo30, jo31, jl29, jg31] at c215)
                          obtain ⟨q1, ⟨b, o, eB⟩, fY⟩ := j3 (by omega) (by omega)
                          obtain ⟨Y, eY, oY⟩ := fY (by omega)
                          rw [RG.1, show (1 : Int32) = nI 1 from rfl, show (30 : Int32) = nI 30 from rfl, nI_sb (by omega) (by omega), nI_sb (by omega) (by omega), nI_sb (by omega) (by omega)]
                          have e9 := (RG.2 (q - 1 - (op - 29)) (by omega)).1
                          rw [eB] at e9
                          have hva : h ((Φ (60 * m' + i)).1 (q - 1 - (op - 29))) = some (eV (tV b o)) := by
                            have := rv_at RO (show q - 1 - (op - 29) < 14 by omega)
                            rw [e9] at this
                            exact this
                          have e8 := (RG.2 (q - 1 - (op - 30)) (by omega)).1
                          rw [eY] at e8
                          have hvi : h ((Φ (60 * m' + i)).1 (q - 1 - (op - 30))) = some (eV (sV Y)) := by
                            have := rv_at RO (show q - 1 - (op - 30) < 14 by omega)
                            rw [e8] at this
                            exact this
                          have e7 : q - 1 - (op - 30) - 1 = q - 1 - (op - 29) := by omega
                          refine gi_istore (q := 233) C (dm_Ju_judge 117 rfl) rfl (Nat.le_of_ble_eq_true rfl) ?_
                          refine gi_aload_n (q := 234) (i := 0) C (dm_Ju_judge 118 rfl) rfl rfl rfl ?_
                          refine gi_aload (q := 236) C (dm_Ju_judge 119 rfl) rfl rfl ?_
                          refine gi_iload (q := 238) C (dm_Ju_judge 120 rfl) rfl rfl ?_
                          refine gi_iconst (q := 239) (v := 1) C (dm_Ju_judge 121 rfl) rfl (by decide) ?_
                          refine gi_isub (q := 240) C (dm_Ju_judge 122 rfl) rfl ?_
                          rw [show (1 : Int32) = nI 1 from rfl, nI_sb (by omega) (by omega), e7]
                          refine gi_callv 1 (q := 243) C (dm_Ju_judge 123 rfl) rfl my_Ro_valueAt lk_Ju_41 im_Ro_valueAt rfl (c_Ro_valueAt (j := q - 1 - (op - 29)) (by omega) (by omega) RO) RO.1 rfl rfl ⟨(Nat.le_of_ble_eq_true rfl), (Nat.le_of_ble_eq_true rfl)⟩ (Nat.le_of_ble_eq_true rfl) ⟨(Nat.le_of_ble_eq_true rfl), (Nat.le_of_ble_eq_true rfl)⟩ (fun r240 n240 h240 e240 => ?_)
                          obtain ⟨rfl, q240, u240⟩ := e240
                          rw [q240, u240]
                          refine gi_aload (q := 245) C (dm_Ju_judge 124 rfl) rfl rfl ?_
                          refine gi_iload (q := 247) C (dm_Ju_judge 125 rfl) rfl rfl ?_
                          refine gi_callv 1 (q := 250) C (dm_Ju_judge 126 rfl) rfl my_Ro_valueAt lk_Ju_41 im_Ro_valueAt rfl (c_Ro_valueAt (j := q - 1 - (op - 30)) (by omega) (by omega) RO) RO.1 rfl rfl ⟨(Nat.le_of_ble_eq_true rfl), (Nat.le_of_ble_eq_true rfl)⟩ (Nat.le_of_ble_eq_true rfl) ⟨(Nat.le_of_ble_eq_true rfl), (Nat.le_of_ble_eq_true rfl)⟩ (fun r247 n247 h247 e247 => ?_)
                          obtain ⟨rfl, q247, u247⟩ := e247
                          rw [q247, u247]
                          refine gi_callv 2 (q := 253) C (dm_Ju_judge 127 rfl) rfl my_Ju_judgeIndex lk_Ju_68 im_Ju_judgeIndex rfl (c_Ju_judgeIndex b o Y _ _ hr hju0 HC R hva hvi oY) hju0 rfl rfl ⟨(Nat.le_of_ble_eq_true rfl), (Nat.le_of_ble_eq_true rfl)⟩ (Nat.le_of_ble_eq_true rfl) ⟨(Nat.le_of_ble_eq_true rfl), (Nat.le_of_ble_eq_true rfl)⟩ (fun r250 n250 h250 e250 => ?_)
                          obtain ⟨rfl, q250, u250⟩ := e250
                          rw [q250, u250]
                          refine gi_iret C hr9 (dm_Ju_judge 128 rfl) ?_
                          (try simp (disch := omega) only [jw1, jw2, jw3, jw4, jo10, jo11, jo28, jo30, jo31, jl29, jg31] at c16)
                          (try simp (disch := omega) only [jw1, jw2, jw3, jw4, jo10, jo11, jo28, jo30, jo31, jl29, jg31] at c48)
                          (try simp (disch := omega) only [jw1, jw2, jw3, jw4, jo10, jo11, jo28, jo30, jo31, jl29, jg31] at c55)
                          (try simp (disch := omega) only [jw1, jw2, jw3, jw4, jo10, jo11, jo28, jo30, jo31, jl29, jg31] at c62)
                          (try simp (disch := omega) only [jw1, jw2, jw3, jw4, jo10, jo11, jo28, jo30, jo31, jl29, jg31] at c94)
                          (try simp (disch := omega) only [jw1, jw2, jw3, jw4, jo10, jo11, jo28, jo30, jo31, jl29, jg31] at c101)
                          (try simp (disch := omega) only [jw1, jw2, jw3, jw4, jo10, jo11, jo28, jo30, jo31, jl29, jg31] at c136)
                          (try simp (disch := omega) only [jw1, jw2, jw3, jw4, jo10, jo11, jo28, jo30, jo31, jl29, jg31] at c143)
                          (try simp (disch := omega) only [jw1, jw2, jw3, jw4, jo10, jo11, jo28, jo30, jo31, jl29, jg31] at c150)
                          (try simp (disch := omega) only [jw1, jw2, jw3, jw4, jo10, jo11, jo28, jo30, jo31, jl29, jg31] at c201)
                          (try simp (disch := omega) only [jw1, jw2, jw3, jw4, jo10, jo11, jo28, jo30, jo31, jl29, jg31] at c208)
                          (try simp (disch := omega) only [jw1, jw2, jw3, jw4, jo10, jo11, jo28, jo30, jo31, jl29, jg31] at c215)
                          refine ⟨?_, rfl, rfl⟩
                          rw [ea]
                          unfold jdR
                          rw [if_neg (by omega), if_neg (by omega), if_neg (by omega), if_pos (by omega), e7, eB, eY]
                          rfl
                  · refine gi_aload (q := 155) C (dm_Ju_judge 77 rfl) rfl rfl ?_
                    refine gi_aload (q := 157) C (dm_Ju_judge 78 rfl) rfl rfl ?_
                    refine gi_get (q := 160) C (dm_Ju_judge 79 rfl) rfl fl_Ju_37 (by first | exact hju0 | exact RO.1 | exact hv | exact hva) rfl ?_
                    refine gi_iconst (q := 161) (v := 1) C (dm_Ju_judge 80 rfl) rfl (by decide) ?_
                    refine gi_isub (q := 162) C (dm_Ju_judge 81 rfl) rfl ?_
                    refine gi_iload (q := 164) C (dm_Ju_judge 82 rfl) rfl rfl ?_
                    refine gi_bipush (q := 166) (v := 29) C (dm_Ju_judge 83 rfl) rfl (by decide) ?_
                    refine gi_isub (q := 167) C (dm_Ju_judge 84 rfl) rfl ?_
                    refine gi_isub (q := 168) C (dm_Ju_judge 85 rfl) rfl ?_
                    (try simp (disch := omega) only [jw1, jw2, jw3, jw4, jo10, jo11, jo28, jo30, jo31, jl29, jg31] at c16)
                    (try simp (disch := omega) only [jw1, jw2, jw3, jw4, jo10, jo11, jo28, jo30, jo31, jl29, jg31] at c48)
                    (try simp (disch := omega) only [jw1, jw2, jw3, jw4, jo10, jo11, jo28, jo30, jo31, jl29, jg31] at c55)
                    (try simp (disch := omega) only [jw1, jw2, jw3, jw4, jo10, jo11, jo28, jo30, jo31, jl29, jg31] at c62)
                    (try simp (disch := omega) only [jw1, jw2, jw3, jw4, jo10, jo11, jo28, jo30, jo31, jl29, jg31] at c94)
                    (try simp (disch := omega) only [jw1, jw2, jw3, jw4, jo10, jo11, jo28, jo30, jo31, jl29, jg31] at c101)
                    (try simp (disch := omega) only [jw1, jw2, jw3, jw4, jo10, jo11, jo28, jo30, jo31, jl29, jg31] at c136)
                    (try simp (disch := omega) only [jw1, jw2, jw3, jw4, jo10, jo11, jo28, jo30, jo31, jl29, jg31] at c143)
                    (try simp (disch := omega) only [jw1, jw2, jw3, jw4, jo10, jo11, jo28, jo30, jo31, jl29, jg31] at c150)
                    obtain ⟨q1, ⟨b, o, eB⟩, -⟩ := j3 (by omega) (by omega)
                    rw [RG.1, show (1 : Int32) = nI 1 from rfl, show (29 : Int32) = nI 29 from rfl, nI_sb (by omega) (by omega), nI_sb (by omega) (by omega), nI_sb (by omega) (by omega)]
                    have e9 := (RG.2 (q - 1 - (op - 29)) (by omega)).1
                    rw [eB] at e9
                    have hva : h ((Φ (60 * m' + i)).1 (q - 1 - (op - 29))) = some (eV (tV b o)) := by
                      have := rv_at RO (show q - 1 - (op - 29) < 14 by omega)
                      rw [e9] at this
                      exact this
                    refine gi_callv 1 (q := 171) C (dm_Ju_judge 86 rfl) rfl my_Ro_valueAt lk_Ju_41 im_Ro_valueAt rfl (c_Ro_valueAt (j := q - 1 - (op - 29)) (by omega) (by omega) RO) RO.1 rfl rfl ⟨(Nat.le_of_ble_eq_true rfl), (Nat.le_of_ble_eq_true rfl)⟩ (Nat.le_of_ble_eq_true rfl) ⟨(Nat.le_of_ble_eq_true rfl), (Nat.le_of_ble_eq_true rfl)⟩ (fun r168 n168 h168 e168 => ?_)
                    obtain ⟨rfl, q168, u168⟩ := e168
                    rw [q168, u168]
                    refine gi_astore (q := 173) C (dm_Ju_judge 87 rfl) rfl (Nat.le_of_ble_eq_true rfl) ?_
                    refine gi_aload (q := 175) C (dm_Ju_judge 88 rfl) rfl rfl ?_
                    refine gi_get (q := 178) C (dm_Ju_judge 89 rfl) rfl fl_Ju_62 (by first | exact hju0 | exact RO.1 | exact hv | exact hva) rfl ?_
                    refine gi_if_ne (q := 181) (tgt := 185) C (dm_Ju_judge 90 rfl) rfl (by decide) (fun c178 => ?_) (fun c178 => ?_)
                    · refine gi_aload (q := 187) C (dm_Ju_judge 93 rfl) rfl rfl ?_
                      refine gi_get (q := 190) C (dm_Ju_judge 94 rfl) rfl fl_Ju_65 (by first | exact hju0 | exact RO.1 | exact hv | exact hva) rfl ?_
                      refine gi_if_ne (q := 193) (tgt := 197) C (dm_Ju_judge 95 rfl) rfl (by decide) (fun c190 => ?_) (fun c190 => ?_)
                      · refine gi_iconst (q := 198) (v := 2) C (dm_Ju_judge 98 rfl) rfl (by decide) ?_
                        refine gi_iret C hr9 (dm_Ju_judge 99 rfl) ?_
                        (try simp (disch := omega) only [jw1, jw2, jw3, jw4, jo10, jo11, jo28, jo30, jo31, jl29, jg31] at c16)
                        (try simp (disch := omega) only [jw1, jw2, jw3, jw4, jo10, jo11, jo28, jo30, jo31, jl29, jg31] at c48)
                        (try simp (disch := omega) only [jw1, jw2, jw3, jw4, jo10, jo11, jo28, jo30, jo31, jl29, jg31] at c55)
                        (try simp (disch := omega) only [jw1, jw2, jw3, jw4, jo10, jo11, jo28, jo30, jo31, jl29, jg31] at c62)
                        (try simp (disch := omega) only [jw1, jw2, jw3, jw4, jo10, jo11, jo28, jo30, jo31, jl29, jg31] at c94)
                        (try simp (disch := omega) only [jw1, jw2, jw3, jw4, jo10, jo11, jo28, jo30, jo31, jl29, jg31] at c101)
                        (try simp (disch := omega) only [jw1, jw2, jw3, jw4, jo10, jo11, jo28, jo30, jo31, jl29, jg31] at c136)
                        (try simp (disch := omega) only [jw1, jw2, jw3, jw4, jo10, jo11, jo28, jo30, jo31, jl29, jg31] at c143)
                        (try simp (disch := omega) only [jw1, jw2, jw3, jw4, jo10, jo11, jo28, jo30, jo31, jl29, jg31] at c150)
                        (try simp (disch := omega) only [jw1, jw2, jw3, jw4, jo10, jo11, jo28, jo30, jo31, jl29, jg31] at c178)
                        (try simp (disch := omega) only [jw1, jw2, jw3, jw4, jo10, jo11, jo28, jo30, jo31, jl29, jg31] at c190)
                        refine ⟨?_, rfl, rfl⟩
                        rw [ea]
                        unfold jdR
                        rw [if_neg (by omega), if_neg (by omega), if_pos (by omega), eB]
                        show some (Value.int _) = some (Value.int (nuJ b o))
                        unfold nuJ
                        first
                          | (rw [if_pos (bI_fa c178)]; done)
                          | (rw [if_neg (by rw [bI_t c178]; decide), if_pos c190]; done)
                          | (rw [if_neg (by rw [bI_t c178]; decide), if_neg c190]; done)
                      · refine gi_iconst (q := 194) (v := 3) C (dm_Ju_judge 96 rfl) rfl (by decide) ?_
                        refine gi_goto (tgt := 198) C (dm_Ju_judge 97 rfl) (by decide) ?_
                        refine gi_iret C hr9 (dm_Ju_judge 99 rfl) ?_
                        (try simp (disch := omega) only [jw1, jw2, jw3, jw4, jo10, jo11, jo28, jo30, jo31, jl29, jg31] at c16)
                        (try simp (disch := omega) only [jw1, jw2, jw3, jw4, jo10, jo11, jo28, jo30, jo31, jl29, jg31] at c48)
                        (try simp (disch := omega) only [jw1, jw2, jw3, jw4, jo10, jo11, jo28, jo30, jo31, jl29, jg31] at c55)
                        (try simp (disch := omega) only [jw1, jw2, jw3, jw4, jo10, jo11, jo28, jo30, jo31, jl29, jg31] at c62)
                        (try simp (disch := omega) only [jw1, jw2, jw3, jw4, jo10, jo11, jo28, jo30, jo31, jl29, jg31] at c94)
                        (try simp (disch := omega) only [jw1, jw2, jw3, jw4, jo10, jo11, jo28, jo30, jo31, jl29, jg31] at c101)
                        (try simp (disch := omega) only [jw1, jw2, jw3, jw4, jo10, jo11, jo28, jo30, jo31, jl29, jg31] at c136)
                        (try simp (disch := omega) only [jw1, jw2, jw3, jw4, jo10, jo11, jo28, jo30, jo31, jl29, jg31] at c143)
                        (try simp (disch := omega) only [jw1, jw2, jw3, jw4, jo10, jo11, jo28, jo30, jo31, jl29, jg31] at c150)
                        (try simp (disch := omega) only [jw1, jw2, jw3, jw4, jo10, jo11, jo28, jo30, jo31, jl29, jg31] at c178)
                        (try simp (disch := omega) only [jw1, jw2, jw3, jw4, jo10, jo11, jo28, jo30, jo31, jl29, jg31] at c190)
                        refine ⟨?_, rfl, rfl⟩
                        rw [ea]
                        unfold jdR
                        rw [if_neg (by omega), if_neg (by omega), if_pos (by omega), eB]
                        show some (Value.int _) = some (Value.int (nuJ b o))
                        unfold nuJ
                        first
                          | (rw [if_pos (bI_fa c178)]; done)
                          | (rw [if_neg (by rw [bI_t c178]; decide), if_pos c190]; done)
                          | (rw [if_neg (by rw [bI_t c178]; decide), if_neg c190]; done)
                    · refine gi_iconst (q := 182) (v := 1) C (dm_Ju_judge 91 rfl) rfl (by decide) ?_
                      refine gi_goto (tgt := 198) C (dm_Ju_judge 92 rfl) (by decide) ?_
                      refine gi_iret C hr9 (dm_Ju_judge 99 rfl) ?_
                      (try simp (disch := omega) only [jw1, jw2, jw3, jw4, jo10, jo11, jo28, jo30, jo31, jl29, jg31] at c16)
                      (try simp (disch := omega) only [jw1, jw2, jw3, jw4, jo10, jo11, jo28, jo30, jo31, jl29, jg31] at c48)
                      (try simp (disch := omega) only [jw1, jw2, jw3, jw4, jo10, jo11, jo28, jo30, jo31, jl29, jg31] at c55)
                      (try simp (disch := omega) only [jw1, jw2, jw3, jw4, jo10, jo11, jo28, jo30, jo31, jl29, jg31] at c62)
                      (try simp (disch := omega) only [jw1, jw2, jw3, jw4, jo10, jo11, jo28, jo30, jo31, jl29, jg31] at c94)
                      (try simp (disch := omega) only [jw1, jw2, jw3, jw4, jo10, jo11, jo28, jo30, jo31, jl29, jg31] at c101)
                      (try simp (disch := omega) only [jw1, jw2, jw3, jw4, jo10, jo11, jo28, jo30, jo31, jl29, jg31] at c136)
                      (try simp (disch := omega) only [jw1, jw2, jw3, jw4, jo10, jo11, jo28, jo30, jo31, jl29, jg31] at c143)
                      (try simp (disch := omega) only [jw1, jw2, jw3, jw4, jo10, jo11, jo28, jo30, jo31, jl29, jg31] at c150)
                      (try simp (disch := omega) only [jw1, jw2, jw3, jw4, jo10, jo11, jo28, jo30, jo31, jl29, jg31] at c178)
                      refine ⟨?_, rfl, rfl⟩
                      rw [ea]
                      unfold jdR
                      rw [if_neg (by omega), if_neg (by omega), if_pos (by omega), eB]
                      show some (Value.int _) = some (Value.int (nuJ b o))
                      unfold nuJ
                      first
                        | (rw [if_pos (bI_fa c178)]; done)
                        | (rw [if_neg (by rw [bI_t c178]; decide), if_pos c190]; done)
                        | (rw [if_neg (by rw [bI_t c178]; decide), if_neg c190]; done)
            · (try simp (disch := omega) only [jw1, jw2, jw3, jw4, jo10, jo11, jo28, jo30, jo31, jl29, jg31] at c16)
              (try simp (disch := omega) only [jw1, jw2, jw3, jw4, jo10, jo11, jo28, jo30, jo31, jl29, jg31] at c48)
              (try simp (disch := omega) only [jw1, jw2, jw3, jw4, jo10, jo11, jo28, jo30, jo31, jl29, jg31] at c55)
              (try simp (disch := omega) only [jw1, jw2, jw3, jw4, jo10, jo11, jo28, jo30, jo31, jl29, jg31] at c62)
              (try simp (disch := omega) only [jw1, jw2, jw3, jw4, jo10, jo11, jo28, jo30, jo31, jl29, jg31] at c94)
              (try simp (disch := omega) only [jw1, jw2, jw3, jw4, jo10, jo11, jo28, jo30, jo31, jl29, jg31] at c101)
              obtain ⟨q1, Y, eY, oY⟩ := j4 (by omega)
              have e9 := (RG.2 (q - 1) (by omega)).1
              rw [eY] at e9
              have hv : h ((Φ (60 * m' + i)).1 (q - 1)) = some (eV (sV Y)) := by
                have := rv_at RO (show q - 1 < 14 by omega)
                rw [e9] at this
                exact this
              obtain ⟨y1, y2, y3, -⟩ := id oY
              refine gi_aload (q := 106) C (dm_Ju_judge 52 rfl) rfl rfl ?_
              refine gi_get (q := 109) C (dm_Ju_judge 53 rfl) rfl fl_Ju_55 (by first | exact hju0 | exact RO.1 | exact hv | exact hva) rfl ?_
              refine gi_lconst (q := 110) (v := 0) C (dm_Ju_judge 54 rfl) rfl (by decide) ?_
              refine gi_lcmp (q := 111) C (dm_Ju_judge 55 rfl) rfl ?_
              refine gi_if_lt (q := 114) (tgt := 118) C (dm_Ju_judge 56 rfl) rfl (by decide) (fun c111 => ?_) (fun c111 => ?_)
              · refine gi_aload (q := 120) C (dm_Ju_judge 59 rfl) rfl rfl ?_
                refine gi_get (q := 123) C (dm_Ju_judge 60 rfl) rfl fl_Ju_59 (by first | exact hju0 | exact RO.1 | exact hv | exact hva) rfl ?_
                refine gi_lconst (q := 124) (v := 0) C (dm_Ju_judge 61 rfl) rfl (by decide) ?_
                refine gi_lcmp (q := 125) C (dm_Ju_judge 62 rfl) rfl ?_
                refine gi_if_ge (q := 128) (tgt := 132) C (dm_Ju_judge 63 rfl) rfl (by decide) (fun c125 => ?_) (fun c125 => ?_)
                · refine gi_iconst (q := 133) (v := 2) C (dm_Ju_judge 66 rfl) rfl (by decide) ?_
                  refine gi_iret C hr9 (dm_Ju_judge 67 rfl) ?_
                  (try simp (disch := omega) only [jw1, jw2, jw3, jw4, jo10, jo11, jo28, jo30, jo31, jl29, jg31] at c16)
                  (try simp (disch := omega) only [jw1, jw2, jw3, jw4, jo10, jo11, jo28, jo30, jo31, jl29, jg31] at c48)
                  (try simp (disch := omega) only [jw1, jw2, jw3, jw4, jo10, jo11, jo28, jo30, jo31, jl29, jg31] at c55)
                  (try simp (disch := omega) only [jw1, jw2, jw3, jw4, jo10, jo11, jo28, jo30, jo31, jl29, jg31] at c62)
                  (try simp (disch := omega) only [jw1, jw2, jw3, jw4, jo10, jo11, jo28, jo30, jo31, jl29, jg31] at c94)
                  (try simp (disch := omega) only [jw1, jw2, jw3, jw4, jo10, jo11, jo28, jo30, jo31, jl29, jg31] at c101)
                  (try simp (disch := omega) only [jw1, jw2, jw3, jw4, jo10, jo11, jo28, jo30, jo31, jl29, jg31] at c111)
                  (try simp (disch := omega) only [jw1, jw2, jw3, jw4, jo10, jo11, jo28, jo30, jo31, jl29, jg31] at c125)
                  (try simp (disch := omega) only [lg_cmp_ge, lg_cmp_le, lg_cmp_gt, lg_cmp_lt, lg_cmp_eq, eL_0, eL_1, eL_m1, eL_LO, eL_HI, eL_W, eL_add, eL_sub, eL_mul, eL_neg, eL_lt, eL_le, eL_eq, eL_remN, eL_mod0, ne_eq, Int64.not_lt, Int64.not_le] at c111)
                  (try simp (disch := omega) only [lg_cmp_ge, lg_cmp_le, lg_cmp_gt, lg_cmp_lt, lg_cmp_eq, eL_0, eL_1, eL_m1, eL_LO, eL_HI, eL_W, eL_add, eL_sub, eL_mul, eL_neg, eL_lt, eL_le, eL_eq, eL_remN, eL_mod0, ne_eq, Int64.not_lt, Int64.not_le] at c125)
                  refine ⟨?_, rfl, rfl⟩
                  rw [ea]
                  unfold jdR
                  rw [if_neg (by omega), if_pos (by omega), eY]
                  show some (Value.int _) = some (Value.int (ngJ Y))
                  unfold ngJ
                  first
                    | (rw [if_pos (by omega)]; done)
                    | (rw [if_neg (by omega), if_pos (by omega)]; done)
                    | (rw [if_neg (by omega), if_neg (by omega)]; done)
                · refine gi_iconst (q := 129) (v := 3) C (dm_Ju_judge 64 rfl) rfl (by decide) ?_
                  refine gi_goto (tgt := 133) C (dm_Ju_judge 65 rfl) (by decide) ?_
                  refine gi_iret C hr9 (dm_Ju_judge 67 rfl) ?_
                  (try simp (disch := omega) only [jw1, jw2, jw3, jw4, jo10, jo11, jo28, jo30, jo31, jl29, jg31] at c16)
                  (try simp (disch := omega) only [jw1, jw2, jw3, jw4, jo10, jo11, jo28, jo30, jo31, jl29, jg31] at c48)
                  (try simp (disch := omega) only [jw1, jw2, jw3, jw4, jo10, jo11, jo28, jo30, jo31, jl29, jg31] at c55)
                  (try simp (disch := omega) only [jw1, jw2, jw3, jw4, jo10, jo11, jo28, jo30, jo31, jl29, jg31] at c62)
                  (try simp (disch := omega) only [jw1, jw2, jw3, jw4, jo10, jo11, jo28, jo30, jo31, jl29, jg31] at c94)
                  (try simp (disch := omega) only [jw1, jw2, jw3, jw4, jo10, jo11, jo28, jo30, jo31, jl29, jg31] at c101)
                  (try simp (disch := omega) only [jw1, jw2, jw3, jw4, jo10, jo11, jo28, jo30, jo31, jl29, jg31] at c111)
                  (try simp (disch := omega) only [jw1, jw2, jw3, jw4, jo10, jo11, jo28, jo30, jo31, jl29, jg31] at c125)
                  (try simp (disch := omega) only [lg_cmp_ge, lg_cmp_le, lg_cmp_gt, lg_cmp_lt, lg_cmp_eq, eL_0, eL_1, eL_m1, eL_LO, eL_HI, eL_W, eL_add, eL_sub, eL_mul, eL_neg, eL_lt, eL_le, eL_eq, eL_remN, eL_mod0, ne_eq, Int64.not_lt, Int64.not_le] at c111)
                  (try simp (disch := omega) only [lg_cmp_ge, lg_cmp_le, lg_cmp_gt, lg_cmp_lt, lg_cmp_eq, eL_0, eL_1, eL_m1, eL_LO, eL_HI, eL_W, eL_add, eL_sub, eL_mul, eL_neg, eL_lt, eL_le, eL_eq, eL_remN, eL_mod0, ne_eq, Int64.not_lt, Int64.not_le] at c125)
                  refine ⟨?_, rfl, rfl⟩
                  rw [ea]
                  unfold jdR
                  rw [if_neg (by omega), if_pos (by omega), eY]
                  show some (Value.int _) = some (Value.int (ngJ Y))
                  unfold ngJ
                  first
                    | (rw [if_pos (by omega)]; done)
                    | (rw [if_neg (by omega), if_pos (by omega)]; done)
                    | (rw [if_neg (by omega), if_neg (by omega)]; done)
              · refine gi_iconst (q := 115) (v := 1) C (dm_Ju_judge 57 rfl) rfl (by decide) ?_
                refine gi_goto (tgt := 133) C (dm_Ju_judge 58 rfl) (by decide) ?_
                refine gi_iret C hr9 (dm_Ju_judge 67 rfl) ?_
                (try simp (disch := omega) only [jw1, jw2, jw3, jw4, jo10, jo11, jo28, jo30, jo31, jl29, jg31] at c16)
                (try simp (disch := omega) only [jw1, jw2, jw3, jw4, jo10, jo11, jo28, jo30, jo31, jl29, jg31] at c48)
                (try simp (disch := omega) only [jw1, jw2, jw3, jw4, jo10, jo11, jo28, jo30, jo31, jl29, jg31] at c55)
                (try simp (disch := omega) only [jw1, jw2, jw3, jw4, jo10, jo11, jo28, jo30, jo31, jl29, jg31] at c62)
                (try simp (disch := omega) only [jw1, jw2, jw3, jw4, jo10, jo11, jo28, jo30, jo31, jl29, jg31] at c94)
                (try simp (disch := omega) only [jw1, jw2, jw3, jw4, jo10, jo11, jo28, jo30, jo31, jl29, jg31] at c101)
                (try simp (disch := omega) only [jw1, jw2, jw3, jw4, jo10, jo11, jo28, jo30, jo31, jl29, jg31] at c111)
                (try simp (disch := omega) only [lg_cmp_ge, lg_cmp_le, lg_cmp_gt, lg_cmp_lt, lg_cmp_eq, eL_0, eL_1, eL_m1, eL_LO, eL_HI, eL_W, eL_add, eL_sub, eL_mul, eL_neg, eL_lt, eL_le, eL_eq, eL_remN, eL_mod0, ne_eq, Int64.not_lt, Int64.not_le] at c111)
                (try simp (disch := omega) only [lg_cmp_ge, lg_cmp_le, lg_cmp_gt, lg_cmp_lt, lg_cmp_eq, eL_0, eL_1, eL_m1, eL_LO, eL_HI, eL_W, eL_add, eL_sub, eL_mul, eL_neg, eL_lt, eL_le, eL_eq, eL_remN, eL_mod0, ne_eq, Int64.not_lt, Int64.not_le] at c125)
                refine ⟨?_, rfl, rfl⟩
                rw [ea]
                unfold jdR
                rw [if_neg (by omega), if_pos (by omega), eY]
                show some (Value.int _) = some (Value.int (ngJ Y))
                unfold ngJ
                first
                  | (rw [if_pos (by omega)]; done)
                  | (rw [if_neg (by omega), if_pos (by omega)]; done)
                  | (rw [if_neg (by omega), if_neg (by omega)]; done)
        · (try simp (disch := omega) only [jw1, jw2, jw3, jw4, jo10, jo11, jo28, jo30, jo31, jl29, jg31] at c16)
          (try simp (disch := omega) only [jw1, jw2, jw3, jw4, jo10, jo11, jo28, jo30, jo31, jl29, jg31] at c48)
          (try simp (disch := omega) only [jw1, jw2, jw3, jw4, jo10, jo11, jo28, jo30, jo31, jl29, jg31] at c55)
          (try simp (disch := omega) only [jw1, jw2, jw3, jw4, jo10, jo11, jo28, jo30, jo31, jl29, jg31] at c62)
          obtain ⟨q1, Y, eY, oY⟩ := j2 (by omega)
          have e9 := (RG.2 (q - 1) (by omega)).1
          rw [eY] at e9
          have hv : h ((Φ (60 * m' + i)).1 (q - 1)) = some (eV (sV Y)) := by
            have := rv_at RO (show q - 1 < 14 by omega)
            rw [e9] at this
            exact this
          obtain ⟨y1, y2, y3, -⟩ := id oY
          have y3' := y3
          refine gi_aload (q := 67) C (dm_Ju_judge 33 rfl) rfl rfl ?_
          refine gi_lconst (q := 68) (v := 0) C (dm_Ju_judge 34 rfl) rfl (by decide) ?_
          refine gi_callv 1 (q := 71) C (dm_Ju_judge 35 rfl) rfl my_Va_has lk_Ju_45 im_Va_has rfl (c_Va_has _ Y 0 oY (by decide) (by decide) hv) hv rfl rfl ⟨(Nat.le_of_ble_eq_true rfl), (Nat.le_of_ble_eq_true rfl)⟩ (Nat.le_of_ble_eq_true rfl) ⟨(Nat.le_of_ble_eq_true rfl), (Nat.le_of_ble_eq_true rfl)⟩ (fun r68 n68 h68 e68 => ?_)
          obtain ⟨rfl, q68, u68⟩ := e68
          rw [q68, u68]
          refine gi_if_ne (q := 74) (tgt := 78) C (dm_Ju_judge 36 rfl) rfl (by decide) (fun c71 => ?_) (fun c71 => ?_)
          · refine gi_aload (q := 80) C (dm_Ju_judge 39 rfl) rfl rfl ?_
            refine gi_callv 0 (q := 83) C (dm_Ju_judge 40 rfl) rfl my_Va_isSingle lk_Ju_51 im_Va_isSingle rfl (c_Va_isSingle _ _ hv) hv rfl rfl ⟨(Nat.le_of_ble_eq_true rfl), (Nat.le_of_ble_eq_true rfl)⟩ (Nat.le_of_ble_eq_true rfl) ⟨(Nat.le_of_ble_eq_true rfl), (Nat.le_of_ble_eq_true rfl)⟩ (fun r80 n80 h80 e80 => ?_)
            obtain ⟨rfl, q80, u80⟩ := e80
            rw [q80, u80]
            refine gi_if_eq (q := 86) (tgt := 90) C (dm_Ju_judge 41 rfl) rfl (by decide) (fun c83 => ?_) (fun c83 => ?_)
            · refine gi_iconst (q := 91) (v := 2) C (dm_Ju_judge 44 rfl) rfl (by decide) ?_
              refine gi_iret C hr9 (dm_Ju_judge 45 rfl) ?_
              (try simp (disch := omega) only [jw1, jw2, jw3, jw4, jo10, jo11, jo28, jo30, jo31, jl29, jg31] at c16)
              (try simp (disch := omega) only [jw1, jw2, jw3, jw4, jo10, jo11, jo28, jo30, jo31, jl29, jg31] at c48)
              (try simp (disch := omega) only [jw1, jw2, jw3, jw4, jo10, jo11, jo28, jo30, jo31, jl29, jg31] at c55)
              (try simp (disch := omega) only [jw1, jw2, jw3, jw4, jo10, jo11, jo28, jo30, jo31, jl29, jg31] at c62)
              (try simp (disch := omega) only [jw1, jw2, jw3, jw4, jo10, jo11, jo28, jo30, jo31, jl29, jg31] at c71)
              (try simp (disch := omega) only [jw1, jw2, jw3, jw4, jo10, jo11, jo28, jo30, jo31, jl29, jg31] at c83)
              refine ⟨?_, rfl, rfl⟩
              rw [ea]
              unfold jdR
              rw [if_pos (by omega), eY]
              show some (Value.int _) = some (Value.int (dvJ Y))
              unfold dvJ
              first
                | (rw [if_pos (bI_fa c71)]; done)
                | (rw [if_neg (by rw [bI_t c71]; decide), if_pos ((eL_eq (by omega) (by omega) (by omega) (by omega)).mp (of_decide_eq_true (bI_t c83)))]; done)
                | (rw [if_neg (by rw [bI_t c71]; decide), if_neg (fun z => absurd (bI_fa c83) (by rw [decide_eq_true (show (sV Y).2.1 = (sV Y).2.2.1 from congrArg eL z)]; decide))]; done)
            · refine gi_iconst (q := 87) (v := 3) C (dm_Ju_judge 42 rfl) rfl (by decide) ?_
              refine gi_goto (tgt := 91) C (dm_Ju_judge 43 rfl) (by decide) ?_
              refine gi_iret C hr9 (dm_Ju_judge 45 rfl) ?_
              (try simp (disch := omega) only [jw1, jw2, jw3, jw4, jo10, jo11, jo28, jo30, jo31, jl29, jg31] at c16)
              (try simp (disch := omega) only [jw1, jw2, jw3, jw4, jo10, jo11, jo28, jo30, jo31, jl29, jg31] at c48)
              (try simp (disch := omega) only [jw1, jw2, jw3, jw4, jo10, jo11, jo28, jo30, jo31, jl29, jg31] at c55)
              (try simp (disch := omega) only [jw1, jw2, jw3, jw4, jo10, jo11, jo28, jo30, jo31, jl29, jg31] at c62)
              (try simp (disch := omega) only [jw1, jw2, jw3, jw4, jo10, jo11, jo28, jo30, jo31, jl29, jg31] at c71)
              (try simp (disch := omega) only [jw1, jw2, jw3, jw4, jo10, jo11, jo28, jo30, jo31, jl29, jg31] at c83)
              refine ⟨?_, rfl, rfl⟩
              rw [ea]
              unfold jdR
              rw [if_pos (by omega), eY]
              show some (Value.int _) = some (Value.int (dvJ Y))
              unfold dvJ
              first
                | (rw [if_pos (bI_fa c71)]; done)
                | (rw [if_neg (by rw [bI_t c71]; decide), if_pos ((eL_eq (by omega) (by omega) (by omega) (by omega)).mp (of_decide_eq_true (bI_t c83)))]; done)
                | (rw [if_neg (by rw [bI_t c71]; decide), if_neg (fun z => absurd (bI_fa c83) (by rw [decide_eq_true (show (sV Y).2.1 = (sV Y).2.2.1 from congrArg eL z)]; decide))]; done)
          · refine gi_iconst (q := 75) (v := 1) C (dm_Ju_judge 37 rfl) rfl (by decide) ?_
            refine gi_goto (tgt := 91) C (dm_Ju_judge 38 rfl) (by decide) ?_
            refine gi_iret C hr9 (dm_Ju_judge 45 rfl) ?_
            (try simp (disch := omega) only [jw1, jw2, jw3, jw4, jo10, jo11, jo28, jo30, jo31, jl29, jg31] at c16)
            (try simp (disch := omega) only [jw1, jw2, jw3, jw4, jo10, jo11, jo28, jo30, jo31, jl29, jg31] at c48)
            (try simp (disch := omega) only [jw1, jw2, jw3, jw4, jo10, jo11, jo28, jo30, jo31, jl29, jg31] at c55)
            (try simp (disch := omega) only [jw1, jw2, jw3, jw4, jo10, jo11, jo28, jo30, jo31, jl29, jg31] at c62)
            (try simp (disch := omega) only [jw1, jw2, jw3, jw4, jo10, jo11, jo28, jo30, jo31, jl29, jg31] at c71)
            refine ⟨?_, rfl, rfl⟩
            rw [ea]
            unfold jdR
            rw [if_pos (by omega), eY]
            show some (Value.int _) = some (Value.int (dvJ Y))
            unfold dvJ
            first
              | (rw [if_pos (bI_fa c71)]; done)
              | (rw [if_neg (by rw [bI_t c71]; decide), if_pos ((eL_eq (by omega) (by omega) (by omega) (by omega)).mp (of_decide_eq_true (bI_t c83)))]; done)
              | (rw [if_neg (by rw [bI_t c71]; decide), if_neg (fun z => absurd (bI_fa c83) (by rw [decide_eq_true (show (sV Y).2.1 = (sV Y).2.2.1 from congrArg eL z)]; decide))]; done)
  · refine gi_iconst (q := 20) (v := 0) C (dm_Ju_judge 9 rfl) rfl (by decide) ?_
    refine gi_iret C hr9 (dm_Ju_judge 10 rfl) ?_
    have tl : (F (60 * m + i)).told = false := bI_fa (b := (F (60 * m + i)).told) (by rw [← RR.1]; exact c16)
    refine ⟨?_, rfl, rfl⟩
    unfold jdV
    rw [tl]
    rfl
set_option maxHeartbeats 4000000 in
set_option maxRecDepth 100000 in
theorem c_Ju_canBe (op wr : Nat) (h1 : 1 ≤ wr) (h4 : wr ≤ 4) (ho : op ≤ 35) : gi_T l V y_Ju_canBe b_Ju_canBe 2 (some .boolean) 0 0 0 0 [.int (nI op), .int (nI wr)] n h (gi_is (some (.int (bI (ask op wr)))) n h) := by
  refine gi_enter (by decide) (Nat.le_of_ble_eq_true rfl) ?_
  intro _ _ _ _ _ _ _ _ C hr hnm
  have jo10 : (nI op = 10) = (op = 10) := nI_eqP (b := 10) (by omega) (by decide)
  have jo11 : (nI op = 11) = (op = 11) := nI_eqP (b := 11) (by omega) (by decide)
  have jo28 : (nI op = 28) = (op = 28) := nI_eqP (b := 28) (by omega) (by decide)
  have jo29 : (nI op = 29) = (op = 29) := nI_eqP (b := 29) (by omega) (by decide)
  have jo30 : (nI op = 30) = (op = 30) := nI_eqP (b := 30) (by omega) (by decide)
  have jo31 : (nI op = 31) = (op = 31) := nI_eqP (b := 31) (by omega) (by decide)
  rcases (show wr = 1 ∨ wr = 2 ∨ wr = 3 ∨ wr = 4 by omega) with e | e | e | e

  · subst e
    refine gi_iload_n (q := 1) (i := 1) C (dm_Ju_canBe 0 rfl) rfl rfl rfl ?_
    refine gi_tableIn (off := 27) (tgt := 28) C (dm_Ju_canBe 1 rfl) (by decide) (by decide) rfl (by decide) ?_
    refine gi_iload_n (q := 29) (i := 0) C (dm_Ju_canBe 2 rfl) rfl rfl rfl ?_
    refine gi_bipush (q := 31) (v := 10) C (dm_Ju_canBe 3 rfl) rfl (by decide) ?_
    refine gi_icmp_eq (q := 34) (tgt := 40) C (dm_Ju_canBe 4 rfl) rfl (by decide) (fun c31 => ?_) (fun c31 => ?_)
    · refine gi_iconst (q := 41) (v := 1) C (dm_Ju_canBe 8 rfl) rfl (by decide) ?_
      refine gi_goto (tgt := 45) C (dm_Ju_canBe 9 rfl) (by decide) ?_
      refine gi_zret C hr (dm_Ju_canBe 11 rfl) rfl ?_
      (try simp (disch := omega) only [jo10, jo11, jo28, jo29, jo30, jo31] at c31)
      refine ⟨?_, rfl, rfl⟩
      first
        | (rw [show ask op 1 = true from by unfold ask; simp; omega]; rfl)
        | (rw [show ask op 1 = false from by unfold ask; simp; omega]; rfl)
    · refine gi_iload_n (q := 35) (i := 0) C (dm_Ju_canBe 5 rfl) rfl rfl rfl ?_
      refine gi_bipush (q := 37) (v := 11) C (dm_Ju_canBe 6 rfl) rfl (by decide) ?_
      refine gi_icmp_ne (q := 40) (tgt := 44) C (dm_Ju_canBe 7 rfl) rfl (by decide) (fun c37 => ?_) (fun c37 => ?_)
      · refine gi_iconst (q := 45) (v := 0) C (dm_Ju_canBe 10 rfl) rfl (by decide) ?_
        refine gi_zret C hr (dm_Ju_canBe 11 rfl) rfl ?_
        (try simp (disch := omega) only [jo10, jo11, jo28, jo29, jo30, jo31] at c31)
        (try simp (disch := omega) only [jo10, jo11, jo28, jo29, jo30, jo31] at c37)
        refine ⟨?_, rfl, rfl⟩
        first
          | (rw [show ask op 1 = true from by unfold ask; simp; omega]; rfl)
          | (rw [show ask op 1 = false from by unfold ask; simp; omega]; rfl)
      · refine gi_iconst (q := 41) (v := 1) C (dm_Ju_canBe 8 rfl) rfl (by decide) ?_
        refine gi_goto (tgt := 45) C (dm_Ju_canBe 9 rfl) (by decide) ?_
        refine gi_zret C hr (dm_Ju_canBe 11 rfl) rfl ?_
        (try simp (disch := omega) only [jo10, jo11, jo28, jo29, jo30, jo31] at c31)
        (try simp (disch := omega) only [jo10, jo11, jo28, jo29, jo30, jo31] at c37)
        refine ⟨?_, rfl, rfl⟩
        first
          | (rw [show ask op 1 = true from by unfold ask; simp; omega]; rfl)
          | (rw [show ask op 1 = false from by unfold ask; simp; omega]; rfl)
  · subst e
    refine gi_iload_n (q := 1) (i := 1) C (dm_Ju_canBe 0 rfl) rfl rfl rfl ?_
    refine gi_tableIn (off := 45) (tgt := 46) C (dm_Ju_canBe 1 rfl) (by decide) (by decide) rfl (by decide) ?_
    refine gi_iload_n (q := 47) (i := 0) C (dm_Ju_canBe 12 rfl) rfl rfl rfl ?_
    refine gi_bipush (q := 49) (v := 29) C (dm_Ju_canBe 13 rfl) rfl (by decide) ?_
    refine gi_icmp_eq (q := 52) (tgt := 64) C (dm_Ju_canBe 14 rfl) rfl (by decide) (fun c49 => ?_) (fun c49 => ?_)
    · refine gi_iconst (q := 65) (v := 1) C (dm_Ju_canBe 21 rfl) rfl (by decide) ?_
      refine gi_goto (tgt := 69) C (dm_Ju_canBe 22 rfl) (by decide) ?_
      refine gi_zret C hr (dm_Ju_canBe 24 rfl) rfl ?_
      (try simp (disch := omega) only [jo10, jo11, jo28, jo29, jo30, jo31] at c49)
      refine ⟨?_, rfl, rfl⟩
      first
        | (rw [show ask op 2 = true from by unfold ask; simp; omega]; rfl)
        | (rw [show ask op 2 = false from by unfold ask; simp; omega]; rfl)
    · refine gi_iload_n (q := 53) (i := 0) C (dm_Ju_canBe 15 rfl) rfl rfl rfl ?_
      refine gi_bipush (q := 55) (v := 30) C (dm_Ju_canBe 16 rfl) rfl (by decide) ?_
      refine gi_icmp_eq (q := 58) (tgt := 64) C (dm_Ju_canBe 17 rfl) rfl (by decide) (fun c55 => ?_) (fun c55 => ?_)
      · refine gi_iconst (q := 65) (v := 1) C (dm_Ju_canBe 21 rfl) rfl (by decide) ?_
        refine gi_goto (tgt := 69) C (dm_Ju_canBe 22 rfl) (by decide) ?_
        refine gi_zret C hr (dm_Ju_canBe 24 rfl) rfl ?_
        (try simp (disch := omega) only [jo10, jo11, jo28, jo29, jo30, jo31] at c49)
        (try simp (disch := omega) only [jo10, jo11, jo28, jo29, jo30, jo31] at c55)
        refine ⟨?_, rfl, rfl⟩
        first
          | (rw [show ask op 2 = true from by unfold ask; simp; omega]; rfl)
          | (rw [show ask op 2 = false from by unfold ask; simp; omega]; rfl)
      · refine gi_iload_n (q := 59) (i := 0) C (dm_Ju_canBe 18 rfl) rfl rfl rfl ?_
        refine gi_bipush (q := 61) (v := 31) C (dm_Ju_canBe 19 rfl) rfl (by decide) ?_
        refine gi_icmp_ne (q := 64) (tgt := 68) C (dm_Ju_canBe 20 rfl) rfl (by decide) (fun c61 => ?_) (fun c61 => ?_)
        · refine gi_iconst (q := 69) (v := 0) C (dm_Ju_canBe 23 rfl) rfl (by decide) ?_
          refine gi_zret C hr (dm_Ju_canBe 24 rfl) rfl ?_
          (try simp (disch := omega) only [jo10, jo11, jo28, jo29, jo30, jo31] at c49)
          (try simp (disch := omega) only [jo10, jo11, jo28, jo29, jo30, jo31] at c55)
          (try simp (disch := omega) only [jo10, jo11, jo28, jo29, jo30, jo31] at c61)
          refine ⟨?_, rfl, rfl⟩
          first
            | (rw [show ask op 2 = true from by unfold ask; simp; omega]; rfl)
            | (rw [show ask op 2 = false from by unfold ask; simp; omega]; rfl)
        · refine gi_iconst (q := 65) (v := 1) C (dm_Ju_canBe 21 rfl) rfl (by decide) ?_
          refine gi_goto (tgt := 69) C (dm_Ju_canBe 22 rfl) (by decide) ?_
          refine gi_zret C hr (dm_Ju_canBe 24 rfl) rfl ?_
          (try simp (disch := omega) only [jo10, jo11, jo28, jo29, jo30, jo31] at c49)
          (try simp (disch := omega) only [jo10, jo11, jo28, jo29, jo30, jo31] at c55)
          (try simp (disch := omega) only [jo10, jo11, jo28, jo29, jo30, jo31] at c61)
          refine ⟨?_, rfl, rfl⟩
          first
            | (rw [show ask op 2 = true from by unfold ask; simp; omega]; rfl)
            | (rw [show ask op 2 = false from by unfold ask; simp; omega]; rfl)
  · subst e
    refine gi_iload_n (q := 1) (i := 1) C (dm_Ju_canBe 0 rfl) rfl rfl rfl ?_
    refine gi_tableIn (off := 69) (tgt := 70) C (dm_Ju_canBe 1 rfl) (by decide) (by decide) rfl (by decide) ?_
    refine gi_iload_n (q := 71) (i := 0) C (dm_Ju_canBe 25 rfl) rfl rfl rfl ?_
    refine gi_bipush (q := 73) (v := 30) C (dm_Ju_canBe 26 rfl) rfl (by decide) ?_
    refine gi_icmp_eq (q := 76) (tgt := 82) C (dm_Ju_canBe 27 rfl) rfl (by decide) (fun c73 => ?_) (fun c73 => ?_)
    · refine gi_iconst (q := 83) (v := 1) C (dm_Ju_canBe 31 rfl) rfl (by decide) ?_
      refine gi_goto (tgt := 87) C (dm_Ju_canBe 32 rfl) (by decide) ?_
      refine gi_zret C hr (dm_Ju_canBe 34 rfl) rfl ?_
      (try simp (disch := omega) only [jo10, jo11, jo28, jo29, jo30, jo31] at c73)
      refine ⟨?_, rfl, rfl⟩
      first
        | (rw [show ask op 3 = true from by unfold ask; simp; omega]; rfl)
        | (rw [show ask op 3 = false from by unfold ask; simp; omega]; rfl)
    · refine gi_iload_n (q := 77) (i := 0) C (dm_Ju_canBe 28 rfl) rfl rfl rfl ?_
      refine gi_bipush (q := 79) (v := 31) C (dm_Ju_canBe 29 rfl) rfl (by decide) ?_
      refine gi_icmp_ne (q := 82) (tgt := 86) C (dm_Ju_canBe 30 rfl) rfl (by decide) (fun c79 => ?_) (fun c79 => ?_)
      · refine gi_iconst (q := 87) (v := 0) C (dm_Ju_canBe 33 rfl) rfl (by decide) ?_
        refine gi_zret C hr (dm_Ju_canBe 34 rfl) rfl ?_
        (try simp (disch := omega) only [jo10, jo11, jo28, jo29, jo30, jo31] at c73)
        (try simp (disch := omega) only [jo10, jo11, jo28, jo29, jo30, jo31] at c79)
        refine ⟨?_, rfl, rfl⟩
        first
          | (rw [show ask op 3 = true from by unfold ask; simp; omega]; rfl)
          | (rw [show ask op 3 = false from by unfold ask; simp; omega]; rfl)
      · refine gi_iconst (q := 83) (v := 1) C (dm_Ju_canBe 31 rfl) rfl (by decide) ?_
        refine gi_goto (tgt := 87) C (dm_Ju_canBe 32 rfl) (by decide) ?_
        refine gi_zret C hr (dm_Ju_canBe 34 rfl) rfl ?_
        (try simp (disch := omega) only [jo10, jo11, jo28, jo29, jo30, jo31] at c73)
        (try simp (disch := omega) only [jo10, jo11, jo28, jo29, jo30, jo31] at c79)
        refine ⟨?_, rfl, rfl⟩
        first
          | (rw [show ask op 3 = true from by unfold ask; simp; omega]; rfl)
          | (rw [show ask op 3 = false from by unfold ask; simp; omega]; rfl)
  · subst e
    refine gi_iload_n (q := 1) (i := 1) C (dm_Ju_canBe 0 rfl) rfl rfl rfl ?_
    refine gi_tableOut (tgt := 88) C (dm_Ju_canBe 1 rfl) (lo := 1) (hi := 3) (by decide) (by decide) ?_
    refine gi_iload_n (q := 89) (i := 0) C (dm_Ju_canBe 35 rfl) rfl rfl rfl ?_
    refine gi_bipush (q := 91) (v := 28) C (dm_Ju_canBe 36 rfl) rfl (by decide) ?_
    refine gi_icmp_ne (q := 94) (tgt := 98) C (dm_Ju_canBe 37 rfl) rfl (by decide) (fun c91 => ?_) (fun c91 => ?_)
    · refine gi_iconst (q := 99) (v := 0) C (dm_Ju_canBe 40 rfl) rfl (by decide) ?_
      refine gi_zret C hr (dm_Ju_canBe 41 rfl) rfl ?_
      (try simp (disch := omega) only [jo10, jo11, jo28, jo29, jo30, jo31] at c91)
      refine ⟨?_, rfl, rfl⟩
      first
        | (rw [show ask op 4 = true from by unfold ask; simp; omega]; rfl)
        | (rw [show ask op 4 = false from by unfold ask; simp; omega]; rfl)
    · refine gi_iconst (q := 95) (v := 1) C (dm_Ju_canBe 38 rfl) rfl (by decide) ?_
      refine gi_goto (tgt := 99) C (dm_Ju_canBe 39 rfl) (by decide) ?_
      refine gi_zret C hr (dm_Ju_canBe 41 rfl) rfl ?_
      (try simp (disch := omega) only [jo10, jo11, jo28, jo29, jo30, jo31] at c91)
      refine ⟨?_, rfl, rfl⟩
      first
        | (rw [show ask op 4 = true from by unfold ask; simp; omega]; rfl)
        | (rw [show ask op 4 = false from by unfold ask; simp; omega]; rfl)
set_option maxHeartbeats 4000000 in
set_option maxRecDepth 100000 in
theorem c_Ju_howMany (vd : Int32) {m i : Nat} (B0 : Built k P sh sn wd) (hm : m < k) (hi : i < pN P 5 m) (hr : rdO (tyF P sh) F) (hju : ju_at ju pr fa h) (HP : pr_at pr (nI k) P h) (HC : fa_at fa Φ h) (R : FaR F Φ) : gi_T l V y_Ju_howMany b_Ju_howMany 7 (some .int) 4 97 0 0 [.ref ju, .int (nI m), .int (nI i), .int vd] n h (gi_is (some (.int (nI (jcP P F (60 * m + i) vd)))) n h) := by
  refine gi_enter (by decide) (Nat.le_of_ble_eq_true rfl) ?_
  intro _ _ _ _ _ _ _ _ C hr9 hnm
  have hju0 := hju
  unfold ju_at at hju0
  have o35 : pN P 6 (60 * m + i) ≤ 35 := by
    obtain ⟨q, e, q35⟩ := B0.wf.op m i hm hi
    unfold pN
    rw [e, ofNat_cl (by omega)]
    exact q35
  refine gi_aload_n (q := 1) (i := 0) C (dm_Ju_howMany 0 rfl) rfl rfl rfl ?_
  refine gi_get (q := 4) C (dm_Ju_howMany 1 rfl) rfl fl_Ju_9 hju0 rfl ?_
  refine gi_iload_n (q := 5) (i := 1) C (dm_Ju_howMany 2 rfl) rfl rfl rfl ?_
  refine gi_iload_n (q := 6) (i := 2) C (dm_Ju_howMany 3 rfl) rfl rfl rfl ?_
  refine gi_callv 2 (q := 9) C (dm_Ju_howMany 4 rfl) rfl my_Pr_opAt lk_Ju_31 im_Pr_opAt rfl (q_op B0.wf hm hi HP) HP.1 rfl rfl ⟨(Nat.le_of_ble_eq_true rfl), (Nat.le_of_ble_eq_true rfl)⟩ (Nat.le_of_ble_eq_true rfl) ⟨(Nat.le_of_ble_eq_true rfl), (Nat.le_of_ble_eq_true rfl)⟩ (fun r6 n6 h6 e6 => ?_)
  obtain ⟨rfl, q6, u6⟩ := e6
  rw [q6, u6]
  refine gi_istore (q := 11) C (dm_Ju_howMany 5 rfl) rfl (Nat.le_of_ble_eq_true rfl) ?_
  refine gi_iconst (q := 12) (v := 0) C (dm_Ju_howMany 6 rfl) rfl (by decide) ?_
  refine gi_istore (q := 14) C (dm_Ju_howMany 7 rfl) rfl (Nat.le_of_ble_eq_true rfl) ?_
  refine gi_iconst (q := 15) (v := 1) C (dm_Ju_howMany 8 rfl) rfl (by decide) ?_
  refine gi_istore (q := 17) C (dm_Ju_howMany 9 rfl) rfl (Nat.le_of_ble_eq_true rfl) ?_
  refine gi_while (σ := Nat) (fun j => 4 - j) (fun j => [(6, .int (nI (j + 1))), (5, .int (nI (sm (fun w => jcI P F (60 * m + i) vd (w + 1)) j))), (4, .int (nI (pN P 6 (60 * m + i)))), (0, .ref ju), (1, .int (nI m)), (2, .int (nI i)), (3, .int vd)]) (fun _ => n) (fun _ => 0) (fun _ => 0) (fun j y' => j ≤ 4 ∧ h = y') 0 ⟨Nat.zero_le _, rfl⟩ ?_ (List.forall_mem_cons.mpr ⟨rfl, List.forall_mem_cons.mpr ⟨rfl, List.forall_mem_cons.mpr ⟨rfl, List.forall_mem_cons.mpr ⟨rfl, List.forall_mem_cons.mpr ⟨rfl, List.forall_mem_cons.mpr ⟨rfl, List.forall_mem_cons.mpr ⟨rfl, fun _ h => absurd h List.not_mem_nil⟩⟩⟩⟩⟩⟩⟩) rfl rfl rfl
  rintro j y' ⟨hj4, rfl⟩ ih
  try dsimp only at *
  refine gi_iload (q := 19) C (dm_Ju_howMany 10 rfl) rfl rfl ?_
  refine gi_iconst (q := 20) (v := 4) C (dm_Ju_howMany 11 rfl) rfl (by decide) ?_
  refine gi_icmp_gt (q := 23) (tgt := 54) C (dm_Ju_howMany 12 rfl) rfl (by decide) (fun c20 => ?_) (fun c20 => ?_)
  · have hj : j = 4 := by
      rcases Nat.lt_or_ge j 4 with q | q
      · exact absurd c20 (Int32.not_lt.mpr (nI_le (a := j + 1) (b := 4) (by omega) (by decide)))
      · omega
    subst hj
    refine gi_iload (q := 56) C (dm_Ju_howMany 27 rfl) rfl rfl ?_
    refine gi_iret C hr9 (dm_Ju_howMany 28 rfl) ?_
    exact ⟨rfl, rfl, rfl⟩
  · have hj : j < 4 := by
      rcases Nat.lt_or_ge j 4 with q | q
      · exact q
      · exact absurd (nI_lt (a := 4) (b := j + 1) (by omega) (by omega)) c20
    refine gi_iload (q := 25) C (dm_Ju_howMany 13 rfl) rfl rfl ?_
    refine gi_iload (q := 27) C (dm_Ju_howMany 14 rfl) rfl rfl ?_
    refine gi_calls 2 (q := 30) C (dm_Ju_howMany 15 rfl) rfl my_Ju_canBe lk_Ju_89 sm_Ju_canBe (c_Ju_canBe (pN P 6 (60 * m + i)) (j + 1) (by omega) (by omega) o35) rfl rfl ⟨(Nat.le_of_ble_eq_true rfl), (Nat.le_of_ble_eq_true rfl)⟩ (Nat.le_of_ble_eq_true rfl) ⟨(Nat.le_of_ble_eq_true rfl), (Nat.le_of_ble_eq_true rfl)⟩ (fun r27 n27 h27 e27 => ?_)
    obtain ⟨rfl, q27, u27⟩ := e27
    rw [q27, u27]
    refine gi_if_eq (q := 33) (tgt := 48) C (dm_Ju_howMany 16 rfl) rfl (by decide) (fun c30 => ?_) (fun c30 => ?_)
    · have ge : sm (fun w => jcI P F (60 * m + i) vd (w + 1)) (j + 1) = sm (fun w => jcI P F (60 * m + i) vd (w + 1)) j + 0 := by
        have : jcI P F (60 * m + i) vd (j + 1) = 0 := by
          unfold jcI
          first
            | (rw [if_pos ⟨bI_t c30, c42⟩]; done)
            | (rw [if_neg (fun z => absurd z.2 c42)]; done)
            | (rw [if_neg (fun z => absurd z.1 (by rw [bI_fa c30]; decide))]; done)
        show sm _ j + jcI P F (60 * m + i) vd (j + 1) = _
        omega
      have g2 : nI (sm (fun w => jcI P F (60 * m + i) vd (w + 1)) (j + 1)) = nI (sm (fun w => jcI P F (60 * m + i) vd (w + 1)) j) := by rw [ge]; rfl
      refine gi_iinc (q := 51) (v := 1) C (dm_Ju_howMany 25 rfl) rfl rfl (by decide) (Nat.le_of_ble_eq_true rfl) ?_
      refine gi_goto (tgt := 17) C (dm_Ju_howMany 26 rfl) (by decide) ?_
      refine gi_close (ih (j + 1) _ ⟨by omega, rfl⟩ (by omega)) (List.forall_mem_cons.mpr ⟨(by simp [gi_look, nI_1]), List.forall_mem_cons.mpr ⟨(by rw [g2]; rfl), List.forall_mem_cons.mpr ⟨rfl, List.forall_mem_cons.mpr ⟨rfl, List.forall_mem_cons.mpr ⟨rfl, List.forall_mem_cons.mpr ⟨rfl, List.forall_mem_cons.mpr ⟨rfl, fun _ h => absurd h List.not_mem_nil⟩⟩⟩⟩⟩⟩⟩) rfl rfl rfl
    · refine gi_aload_n (q := 34) (i := 0) C (dm_Ju_howMany 17 rfl) rfl rfl rfl ?_
      refine gi_iload_n (q := 35) (i := 1) C (dm_Ju_howMany 18 rfl) rfl rfl rfl ?_
      refine gi_iload_n (q := 36) (i := 2) C (dm_Ju_howMany 19 rfl) rfl rfl rfl ?_
      refine gi_iload (q := 38) C (dm_Ju_howMany 20 rfl) rfl rfl ?_
      refine gi_callv 3 (q := 41) C (dm_Ju_howMany 21 rfl) rfl my_Ju_judge lk_Ju_93 im_Ju_judge rfl (c_Ju_judge (j + 1) (by omega) (by omega) B0 hm hi hr hju HP HC R) hju0 rfl rfl ⟨(Nat.le_of_ble_eq_true rfl), (Nat.le_of_ble_eq_true rfl)⟩ (Nat.le_of_ble_eq_true rfl) ⟨(Nat.le_of_ble_eq_true rfl), (Nat.le_of_ble_eq_true rfl)⟩ (fun r38 n38 h38 e38 => ?_)
      obtain ⟨rfl, q38, u38⟩ := e38
      rw [q38, u38]
      refine gi_iload_n (q := 42) (i := 3) C (dm_Ju_howMany 22 rfl) rfl rfl rfl ?_
      refine gi_icmp_ne (q := 45) (tgt := 48) C (dm_Ju_howMany 23 rfl) rfl (by decide) (fun c42 => ?_) (fun c42 => ?_)
      · have ge : sm (fun w => jcI P F (60 * m + i) vd (w + 1)) (j + 1) = sm (fun w => jcI P F (60 * m + i) vd (w + 1)) j + 0 := by
          have : jcI P F (60 * m + i) vd (j + 1) = 0 := by
            unfold jcI
            first
              | (rw [if_pos ⟨bI_t c30, c42⟩]; done)
              | (rw [if_neg (fun z => absurd z.2 c42)]; done)
              | (rw [if_neg (fun z => absurd z.1 (by rw [bI_fa c30]; decide))]; done)
          show sm _ j + jcI P F (60 * m + i) vd (j + 1) = _
          omega
        have g2 : nI (sm (fun w => jcI P F (60 * m + i) vd (w + 1)) (j + 1)) = nI (sm (fun w => jcI P F (60 * m + i) vd (w + 1)) j) := by rw [ge]; rfl
        refine gi_iinc (q := 51) (v := 1) C (dm_Ju_howMany 25 rfl) rfl rfl (by decide) (Nat.le_of_ble_eq_true rfl) ?_
        refine gi_goto (tgt := 17) C (dm_Ju_howMany 26 rfl) (by decide) ?_
        refine gi_close (ih (j + 1) _ ⟨by omega, rfl⟩ (by omega)) (List.forall_mem_cons.mpr ⟨(by simp [gi_look, nI_1]), List.forall_mem_cons.mpr ⟨(by rw [g2]; rfl), List.forall_mem_cons.mpr ⟨rfl, List.forall_mem_cons.mpr ⟨rfl, List.forall_mem_cons.mpr ⟨rfl, List.forall_mem_cons.mpr ⟨rfl, List.forall_mem_cons.mpr ⟨rfl, fun _ h => absurd h List.not_mem_nil⟩⟩⟩⟩⟩⟩⟩) rfl rfl rfl
      · refine gi_iinc (q := 48) (v := 1) C (dm_Ju_howMany 24 rfl) rfl rfl (by decide) (Nat.le_of_ble_eq_true rfl) ?_
        have ge : sm (fun w => jcI P F (60 * m + i) vd (w + 1)) (j + 1) = sm (fun w => jcI P F (60 * m + i) vd (w + 1)) j + 1 := by
          have : jcI P F (60 * m + i) vd (j + 1) = 1 := by
            unfold jcI
            first
              | (rw [if_pos ⟨bI_t c30, c42⟩]; done)
              | (rw [if_neg (fun z => absurd z.2 c42)]; done)
              | (rw [if_neg (fun z => absurd z.1 (by rw [bI_fa c30]; decide))]; done)
          show sm _ j + jcI P F (60 * m + i) vd (j + 1) = _
          omega
        have g2 : nI (sm (fun w => jcI P F (60 * m + i) vd (w + 1)) (j + 1)) = nI (sm (fun w => jcI P F (60 * m + i) vd (w + 1)) j) + 1 := by rw [ge]; exact (nI_1 _).symm
        refine gi_iinc (q := 51) (v := 1) C (dm_Ju_howMany 25 rfl) rfl rfl (by decide) (Nat.le_of_ble_eq_true rfl) ?_
        refine gi_goto (tgt := 17) C (dm_Ju_howMany 26 rfl) (by decide) ?_
        refine gi_close (ih (j + 1) _ ⟨by omega, rfl⟩ (by omega)) (List.forall_mem_cons.mpr ⟨(by simp [gi_look, nI_1]), List.forall_mem_cons.mpr ⟨(by rw [g2]; rfl), List.forall_mem_cons.mpr ⟨rfl, List.forall_mem_cons.mpr ⟨rfl, List.forall_mem_cons.mpr ⟨rfl, List.forall_mem_cons.mpr ⟨rfl, List.forall_mem_cons.mpr ⟨rfl, fun _ h => absurd h List.not_mem_nil⟩⟩⟩⟩⟩⟩⟩) rfl rfl rfl
end JU
