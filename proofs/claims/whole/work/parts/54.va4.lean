section VA4
variable {l : Launch} {V : gi_V} {n : Nat} {h : gi_H}
def wS (q : Option Sp) : Sp := q.getD (1, 0, 0)
def bS (x : Sp) : Prop := -4294967296 ≤ x.1 ∧ x.1 ≤ 4294967296 ∧ -4294967296 ≤ x.2.1 ∧ x.2.1 ≤ 4294967296 ∧ 0 ≤ x.2.2 ∧ x.2.2 ≤ 4294967296
theorem okS.b {x : Sp} (h : okS x) : bS x := by
  have := h.st
  obtain ⟨h1, h2, h3, h4, h5, h6⟩ := h
  exact ⟨by omega, by omega, by omega, by omega, by omega, by omega⟩
theorem upS1_b {x : Sp} (h : bS x) {a : Int} (h1 : -8589934592 ≤ a) (h2 : a ≤ 8589934592) : -1099511627776 ≤ upS1 x a ∧ upS1 x a ≤ 1099511627776 := by
  obtain ⟨b1, b2, b3, b4, b5, b6⟩ := h
  unfold upS1
  split
  · split
    · omega
    · have := ceil_1 (d := a - x.1) (s := x.2.2) (by omega)
      omega
  · omega
theorem dnS1_b {x : Sp} (h : bS x) {b : Int} (h1 : -8589934592 ≤ b) (h2 : b ≤ 8589934592) : -1099511627776 ≤ dnS1 x b ∧ dnS1 x b ≤ 1099511627776 := by
  obtain ⟨b1, b2, b3, b4, b5, b6⟩ := h
  unfold dnS1
  split
  · split
    · omega
    · have := ceil_1 (d := x.2.1 - b) (s := x.2.2) (by omega)
      omega
  · omega
set_option maxHeartbeats 4000000 in
set_option maxRecDepth 100000 in
theorem c_Va_within (r : Nat) (x : Sp) (a b : Int) (hx : bS x) (a1 : -8589934592 ≤ a) (a2 : a ≤ 8589934592) (b1 : -8589934592 ≤ b) (b2 : b ≤ 8589934592) (ha : h r = some (eV (sV x))) : gi_T l V y_Va_within b_Va_within 10 none 0 0 0 0 [.ref r, .long (eL a), .long (eL b)] n h (gi_is none n (gi_up h r (eV (sV (wS (withinS x a b)))))) := by
  refine gi_enter (by decide) (Nat.le_of_ble_eq_true rfl) ?_
  intro _ _ _ _ _ _ _ _ C hr hnm
  have u1 := upS1_b hx a1 a2
  have d1 := dnS1_b hx b1 b2
  obtain ⟨o1, o2, o3, o4, o5, o6⟩ := id hx
  refine gi_meet (σ := Unit) 126 (fun _ => [(7, .long (eL (dnS1 x b))), (5, .long (eL (upS1 x a))), (0, .ref r)]) (fun _ => []) (fun _ y => y = h) ?_ (fun hJ => ?_)
  · rintro - _ rfl
    refine gi_lload (q := 128) C (dm_Va_within 74 rfl) rfl rfl ?_
    refine gi_lload (q := 130) C (dm_Va_within 75 rfl) rfl rfl ?_
    refine gi_lcmp (q := 131) C (dm_Va_within 76 rfl) rfl ?_
    refine gi_if_gt (q := 134) (tgt := 138) C (dm_Va_within 77 rfl) rfl (by decide) (fun c131 => ?_) (fun c131 => ?_)
    · refine gi_iconst (q := 139) (v := 0) C (dm_Va_within 80 rfl) rfl (by decide) ?_
      refine gi_istore (q := 141) C (dm_Va_within 81 rfl) rfl (Nat.le_of_ble_eq_true rfl) ?_
      refine gi_aload_n (q := 142) (i := 0) C (dm_Va_within 82 rfl) rfl rfl rfl ?_
      refine gi_iload (q := 144) C (dm_Va_within 83 rfl) rfl rfl ?_
      refine gi_if_eq (q := 147) (tgt := 152) C (dm_Va_within 84 rfl) rfl (by decide) (fun c144 => ?_) (fun c144 => ?_)
      · refine gi_lconst (q := 153) (v := 1) C (dm_Va_within 87 rfl) rfl (by decide) ?_
        refine gi_put (q := 156) C (dm_Va_within 88 rfl) rfl fl_Va_15 fp_Va_1 (by repeat (first | exact gi_up_self _ _ _ | assumption | rw [gi_up_ne (by omega)])) (Nat.le_of_ble_eq_true rfl) rfl rfl ?_
        refine gi_aload_n (q := 157) (i := 0) C (dm_Va_within 89 rfl) rfl rfl rfl ?_
        refine gi_iload (q := 159) C (dm_Va_within 90 rfl) rfl rfl ?_
        refine gi_if_eq (q := 162) (tgt := 167) C (dm_Va_within 91 rfl) rfl (by decide) (fun c159 => ?_) (fun c159 => ?_)
        · refine gi_lconst (q := 168) (v := 0) C (dm_Va_within 94 rfl) rfl (by decide) ?_
          refine gi_put (q := 171) C (dm_Va_within 95 rfl) rfl fl_Va_19 fp_Va_2 (by repeat (first | exact gi_up_self _ _ _ | assumption | rw [gi_up_ne (by omega)])) (Nat.le_of_ble_eq_true rfl) rfl rfl ?_
          refine gi_aload_n (q := 172) (i := 0) C (dm_Va_within 96 rfl) rfl rfl rfl ?_
          refine gi_iload (q := 174) C (dm_Va_within 97 rfl) rfl rfl ?_
          refine gi_if_eq (q := 177) (tgt := 192) C (dm_Va_within 98 rfl) rfl (by decide) (fun c174 => ?_) (fun c174 => ?_)
          · refine gi_lconst (q := 193) (v := 0) C (dm_Va_within 106 rfl) rfl (by decide) ?_
            refine gi_put (q := 196) C (dm_Va_within 107 rfl) rfl fl_Va_22 fp_Va_3 (by repeat (first | exact gi_up_self _ _ _ | assumption | rw [gi_up_ne (by omega)])) (Nat.le_of_ble_eq_true rfl) rfl rfl ?_
            refine gi_vret C hr (dm_Va_within 108 rfl) ?_
            (try simp (disch := omega) only [lg_cmp_ge, lg_cmp_le, lg_cmp_gt, lg_cmp_lt, lg_cmp_eq, eL_0, eL_1, eL_m1, eL_LO, eL_HI, eL_W, eL_add, eL_sub, eL_mul, eL_neg, eL_lt, eL_le, eL_eq, eL_remN, eL_mod0, ne_eq, Int64.not_lt, Int64.not_le] at c131)
            (try simp (disch := omega) only [lg_cmp_ge, lg_cmp_le, lg_cmp_gt, lg_cmp_lt, lg_cmp_eq, eL_0, eL_1, eL_m1, eL_LO, eL_HI, eL_W, eL_add, eL_sub, eL_mul, eL_neg, eL_lt, eL_le, eL_eq, eL_remN, eL_mod0, ne_eq, Int64.not_lt, Int64.not_le] at c144)
            (try simp (disch := omega) only [lg_cmp_ge, lg_cmp_le, lg_cmp_gt, lg_cmp_lt, lg_cmp_eq, eL_0, eL_1, eL_m1, eL_LO, eL_HI, eL_W, eL_add, eL_sub, eL_mul, eL_neg, eL_lt, eL_le, eL_eq, eL_remN, eL_mod0, ne_eq, Int64.not_lt, Int64.not_le] at c159)
            (try simp (disch := omega) only [lg_cmp_ge, lg_cmp_le, lg_cmp_gt, lg_cmp_lt, lg_cmp_eq, eL_0, eL_1, eL_m1, eL_LO, eL_HI, eL_W, eL_add, eL_sub, eL_mul, eL_neg, eL_lt, eL_le, eL_eq, eL_remN, eL_mod0, ne_eq, Int64.not_lt, Int64.not_le] at c174)
            refine ⟨rfl, rfl, ?_⟩
            simp only [gi_up_up]
            first
              | (rw [show withinS x a b = some (upS1 x a, dnS1 x b, x.2.2) by rw [withinS, if_pos (by omega), mkS, if_neg (by omega)]]; rfl)
              | (rw [show withinS x a b = some (upS1 x a, dnS1 x b, 0) by rw [withinS, if_pos (by omega), mkS, if_pos (by omega)]]; rfl)
              | (rw [show withinS x a b = none by rw [withinS, if_neg (by omega)]]; rfl)
          · exact absurd (by decide) c174
        · exact absurd (by decide) c159
      · exact absurd (by decide) c144
    · refine gi_iconst (q := 135) (v := 1) C (dm_Va_within 78 rfl) rfl (by decide) ?_
      refine gi_goto (tgt := 139) C (dm_Va_within 79 rfl) (by decide) ?_
      refine gi_istore (q := 141) C (dm_Va_within 81 rfl) rfl (Nat.le_of_ble_eq_true rfl) ?_
      refine gi_aload_n (q := 142) (i := 0) C (dm_Va_within 82 rfl) rfl rfl rfl ?_
      refine gi_iload (q := 144) C (dm_Va_within 83 rfl) rfl rfl ?_
      refine gi_if_eq (q := 147) (tgt := 152) C (dm_Va_within 84 rfl) rfl (by decide) (fun c144 => ?_) (fun c144 => ?_)
      · exact absurd c144 (by decide)
      · refine gi_lload (q := 149) C (dm_Va_within 85 rfl) rfl rfl ?_
        refine gi_goto (tgt := 153) C (dm_Va_within 86 rfl) (by decide) ?_
        refine gi_put (q := 156) C (dm_Va_within 88 rfl) rfl fl_Va_15 fp_Va_1 (by repeat (first | exact gi_up_self _ _ _ | assumption | rw [gi_up_ne (by omega)])) (Nat.le_of_ble_eq_true rfl) rfl rfl ?_
        refine gi_aload_n (q := 157) (i := 0) C (dm_Va_within 89 rfl) rfl rfl rfl ?_
        refine gi_iload (q := 159) C (dm_Va_within 90 rfl) rfl rfl ?_
        refine gi_if_eq (q := 162) (tgt := 167) C (dm_Va_within 91 rfl) rfl (by decide) (fun c159 => ?_) (fun c159 => ?_)
        · exact absurd c159 (by decide)
        · refine gi_lload (q := 164) C (dm_Va_within 92 rfl) rfl rfl ?_
          refine gi_goto (tgt := 168) C (dm_Va_within 93 rfl) (by decide) ?_
          refine gi_put (q := 171) C (dm_Va_within 95 rfl) rfl fl_Va_19 fp_Va_2 (by repeat (first | exact gi_up_self _ _ _ | assumption | rw [gi_up_ne (by omega)])) (Nat.le_of_ble_eq_true rfl) rfl rfl ?_
          refine gi_aload_n (q := 172) (i := 0) C (dm_Va_within 96 rfl) rfl rfl rfl ?_
          refine gi_iload (q := 174) C (dm_Va_within 97 rfl) rfl rfl ?_
          refine gi_if_eq (q := 177) (tgt := 192) C (dm_Va_within 98 rfl) rfl (by decide) (fun c174 => ?_) (fun c174 => ?_)
          · exact absurd c174 (by decide)
          · refine gi_lload (q := 179) C (dm_Va_within 99 rfl) rfl rfl ?_
            refine gi_lload (q := 181) C (dm_Va_within 100 rfl) rfl rfl ?_
            refine gi_lcmp (q := 182) C (dm_Va_within 101 rfl) rfl ?_
            refine gi_if_ge (q := 185) (tgt := 192) C (dm_Va_within 102 rfl) rfl (by decide) (fun c182 => ?_) (fun c182 => ?_)
            · refine gi_lconst (q := 193) (v := 0) C (dm_Va_within 106 rfl) rfl (by decide) ?_
              refine gi_put (q := 196) C (dm_Va_within 107 rfl) rfl fl_Va_22 fp_Va_3 (by repeat (first | exact gi_up_self _ _ _ | assumption | rw [gi_up_ne (by omega)])) (Nat.le_of_ble_eq_true rfl) rfl rfl ?_
              refine gi_vret C hr (dm_Va_within 108 rfl) ?_
              (try simp (disch := omega) only [lg_cmp_ge, lg_cmp_le, lg_cmp_gt, lg_cmp_lt, lg_cmp_eq, eL_0, eL_1, eL_m1, eL_LO, eL_HI, eL_W, eL_add, eL_sub, eL_mul, eL_neg, eL_lt, eL_le, eL_eq, eL_remN, eL_mod0, ne_eq, Int64.not_lt, Int64.not_le] at c131)
              (try simp (disch := omega) only [lg_cmp_ge, lg_cmp_le, lg_cmp_gt, lg_cmp_lt, lg_cmp_eq, eL_0, eL_1, eL_m1, eL_LO, eL_HI, eL_W, eL_add, eL_sub, eL_mul, eL_neg, eL_lt, eL_le, eL_eq, eL_remN, eL_mod0, ne_eq, Int64.not_lt, Int64.not_le] at c144)
              (try simp (disch := omega) only [lg_cmp_ge, lg_cmp_le, lg_cmp_gt, lg_cmp_lt, lg_cmp_eq, eL_0, eL_1, eL_m1, eL_LO, eL_HI, eL_W, eL_add, eL_sub, eL_mul, eL_neg, eL_lt, eL_le, eL_eq, eL_remN, eL_mod0, ne_eq, Int64.not_lt, Int64.not_le] at c159)
              (try simp (disch := omega) only [lg_cmp_ge, lg_cmp_le, lg_cmp_gt, lg_cmp_lt, lg_cmp_eq, eL_0, eL_1, eL_m1, eL_LO, eL_HI, eL_W, eL_add, eL_sub, eL_mul, eL_neg, eL_lt, eL_le, eL_eq, eL_remN, eL_mod0, ne_eq, Int64.not_lt, Int64.not_le] at c174)
              (try simp (disch := omega) only [lg_cmp_ge, lg_cmp_le, lg_cmp_gt, lg_cmp_lt, lg_cmp_eq, eL_0, eL_1, eL_m1, eL_LO, eL_HI, eL_W, eL_add, eL_sub, eL_mul, eL_neg, eL_lt, eL_le, eL_eq, eL_remN, eL_mod0, ne_eq, Int64.not_lt, Int64.not_le] at c182)
              refine ⟨rfl, rfl, ?_⟩
              simp only [gi_up_up]
              first
                | (rw [show withinS x a b = some (upS1 x a, dnS1 x b, x.2.2) by rw [withinS, if_pos (by omega), mkS, if_neg (by omega)]]; rfl)
                | (rw [show withinS x a b = some (upS1 x a, dnS1 x b, 0) by rw [withinS, if_pos (by omega), mkS, if_pos (by omega)]]; rfl)
                | (rw [show withinS x a b = none by rw [withinS, if_neg (by omega)]]; rfl)
            · refine gi_aload_n (q := 186) (i := 0) C (dm_Va_within 103 rfl) rfl rfl rfl ?_
              refine gi_get (q := 189) C (dm_Va_within 104 rfl) rfl fl_Va_22 (by repeat (first | exact gi_up_self _ _ _ | assumption | rw [gi_up_ne (by omega)])) rfl ?_
              refine gi_goto (tgt := 193) C (dm_Va_within 105 rfl) (by decide) ?_
              refine gi_put (q := 196) C (dm_Va_within 107 rfl) rfl fl_Va_22 fp_Va_3 (by repeat (first | exact gi_up_self _ _ _ | assumption | rw [gi_up_ne (by omega)])) (Nat.le_of_ble_eq_true rfl) rfl rfl ?_
              refine gi_vret C hr (dm_Va_within 108 rfl) ?_
              (try simp (disch := omega) only [lg_cmp_ge, lg_cmp_le, lg_cmp_gt, lg_cmp_lt, lg_cmp_eq, eL_0, eL_1, eL_m1, eL_LO, eL_HI, eL_W, eL_add, eL_sub, eL_mul, eL_neg, eL_lt, eL_le, eL_eq, eL_remN, eL_mod0, ne_eq, Int64.not_lt, Int64.not_le] at c131)
              (try simp (disch := omega) only [lg_cmp_ge, lg_cmp_le, lg_cmp_gt, lg_cmp_lt, lg_cmp_eq, eL_0, eL_1, eL_m1, eL_LO, eL_HI, eL_W, eL_add, eL_sub, eL_mul, eL_neg, eL_lt, eL_le, eL_eq, eL_remN, eL_mod0, ne_eq, Int64.not_lt, Int64.not_le] at c144)
              (try simp (disch := omega) only [lg_cmp_ge, lg_cmp_le, lg_cmp_gt, lg_cmp_lt, lg_cmp_eq, eL_0, eL_1, eL_m1, eL_LO, eL_HI, eL_W, eL_add, eL_sub, eL_mul, eL_neg, eL_lt, eL_le, eL_eq, eL_remN, eL_mod0, ne_eq, Int64.not_lt, Int64.not_le] at c159)
              (try simp (disch := omega) only [lg_cmp_ge, lg_cmp_le, lg_cmp_gt, lg_cmp_lt, lg_cmp_eq, eL_0, eL_1, eL_m1, eL_LO, eL_HI, eL_W, eL_add, eL_sub, eL_mul, eL_neg, eL_lt, eL_le, eL_eq, eL_remN, eL_mod0, ne_eq, Int64.not_lt, Int64.not_le] at c174)
              (try simp (disch := omega) only [lg_cmp_ge, lg_cmp_le, lg_cmp_gt, lg_cmp_lt, lg_cmp_eq, eL_0, eL_1, eL_m1, eL_LO, eL_HI, eL_W, eL_add, eL_sub, eL_mul, eL_neg, eL_lt, eL_le, eL_eq, eL_remN, eL_mod0, ne_eq, Int64.not_lt, Int64.not_le] at c182)
              refine ⟨rfl, rfl, ?_⟩
              simp only [gi_up_up]
              first
                | (rw [show withinS x a b = some (upS1 x a, dnS1 x b, x.2.2) by rw [withinS, if_pos (by omega), mkS, if_neg (by omega)]]; rfl)
                | (rw [show withinS x a b = some (upS1 x a, dnS1 x b, 0) by rw [withinS, if_pos (by omega), mkS, if_pos (by omega)]]; rfl)
                | (rw [show withinS x a b = none by rw [withinS, if_neg (by omega)]]; rfl)
  refine gi_meet (σ := Unit) 69 (fun _ => [(7, .long (eL x.2.1)), (5, .long (eL (upS1 x a))), (3, .long (eL b)), (0, .ref r)]) (fun _ => []) (fun _ y => y = h) ?_ (fun hJ => ?_)
  · rintro - _ rfl
    refine gi_lload_n (q := 70) (i := 3) C (dm_Va_within 40 rfl) rfl rfl rfl ?_
    refine gi_aload_n (q := 71) (i := 0) C (dm_Va_within 41 rfl) rfl rfl rfl ?_
    refine gi_get (q := 74) C (dm_Va_within 42 rfl) rfl fl_Va_19 (by repeat (first | exact gi_up_self _ _ _ | assumption | rw [gi_up_ne (by omega)])) rfl ?_
    refine gi_lcmp (q := 75) C (dm_Va_within 43 rfl) rfl ?_
    refine gi_if_ge (q := 78) (tgt := 126) C (dm_Va_within 44 rfl) rfl (by decide) (fun c75 => ?_) (fun c75 => ?_)
    · (try simp (disch := omega) only [lg_cmp_ge, lg_cmp_le, lg_cmp_gt, lg_cmp_lt, lg_cmp_eq, eL_0, eL_1, eL_m1, eL_LO, eL_HI, eL_W, eL_add, eL_sub, eL_mul, eL_neg, eL_lt, eL_le, eL_eq, eL_remN, eL_mod0, ne_eq, Int64.not_lt, Int64.not_le] at c75)
      refine gi_close (hJ () _ rfl) (List.forall_mem_cons.mpr ⟨(congrArg (fun z => some (Value.long z)) ?_), List.forall_mem_cons.mpr ⟨rfl, List.forall_mem_cons.mpr ⟨rfl, fun _ h => absurd h List.not_mem_nil⟩⟩⟩) rfl rfl rfl
      unfold dnS1
      first
        | rw [if_neg (by omega)]
        | (rw [if_pos (by omega), if_pos (by omega)]; simp only [eL_1, eL_add, eL_sub]; done)
        | (rw [if_pos (by omega), if_neg (by omega)]; simp (disch := omega) only [eL_1, eL_add, eL_sub, eL_divN, eL_mul]; done)
    · refine gi_aload_n (q := 79) (i := 0) C (dm_Va_within 45 rfl) rfl rfl rfl ?_
      refine gi_get (q := 82) C (dm_Va_within 46 rfl) rfl fl_Va_22 (by repeat (first | exact gi_up_self _ _ _ | assumption | rw [gi_up_ne (by omega)])) rfl ?_
      refine gi_lconst (q := 83) (v := 0) C (dm_Va_within 47 rfl) rfl (by decide) ?_
      refine gi_lcmp (q := 84) C (dm_Va_within 48 rfl) rfl ?_
      refine gi_if_ne (q := 87) (tgt := 96) C (dm_Va_within 49 rfl) rfl (by decide) (fun c84 => ?_) (fun c84 => ?_)
      · refine gi_aload_n (q := 97) (i := 0) C (dm_Va_within 55 rfl) rfl rfl rfl ?_
        refine gi_get (q := 100) C (dm_Va_within 56 rfl) rfl fl_Va_19 (by repeat (first | exact gi_up_self _ _ _ | assumption | rw [gi_up_ne (by omega)])) rfl ?_
        refine gi_aload_n (q := 101) (i := 0) C (dm_Va_within 57 rfl) rfl rfl rfl ?_
        refine gi_get (q := 104) C (dm_Va_within 58 rfl) rfl fl_Va_19 (by repeat (first | exact gi_up_self _ _ _ | assumption | rw [gi_up_ne (by omega)])) rfl ?_
        refine gi_lload_n (q := 105) (i := 3) C (dm_Va_within 59 rfl) rfl rfl rfl ?_
        refine gi_lsub (q := 106) C (dm_Va_within 60 rfl) rfl ?_
        refine gi_aload_n (q := 107) (i := 0) C (dm_Va_within 61 rfl) rfl rfl rfl ?_
        refine gi_get (q := 110) C (dm_Va_within 62 rfl) rfl fl_Va_22 (by repeat (first | exact gi_up_self _ _ _ | assumption | rw [gi_up_ne (by omega)])) rfl ?_
        refine gi_ladd (q := 111) C (dm_Va_within 63 rfl) rfl ?_
        refine gi_lconst (q := 112) (v := 1) C (dm_Va_within 64 rfl) rfl (by decide) ?_
        refine gi_lsub (q := 113) C (dm_Va_within 65 rfl) rfl ?_
        refine gi_aload_n (q := 114) (i := 0) C (dm_Va_within 66 rfl) rfl rfl rfl ?_
        refine gi_get (q := 117) C (dm_Va_within 67 rfl) rfl fl_Va_22 (by repeat (first | exact gi_up_self _ _ _ | assumption | rw [gi_up_ne (by omega)])) rfl ?_
        refine gi_ldiv (q := 118) C (dm_Va_within 68 rfl) rfl (fun q => c84 ((lg_cmp_eq _ _).mpr q)) ?_
        refine gi_aload_n (q := 119) (i := 0) C (dm_Va_within 69 rfl) rfl rfl rfl ?_
        refine gi_get (q := 122) C (dm_Va_within 70 rfl) rfl fl_Va_22 (by repeat (first | exact gi_up_self _ _ _ | assumption | rw [gi_up_ne (by omega)])) rfl ?_
        refine gi_lmul (q := 123) C (dm_Va_within 71 rfl) rfl ?_
        refine gi_lsub (q := 124) C (dm_Va_within 72 rfl) rfl ?_
        refine gi_lstore (q := 126) C (dm_Va_within 73 rfl) rfl (Nat.le_of_ble_eq_true rfl) ?_
        (try simp (disch := omega) only [lg_cmp_ge, lg_cmp_le, lg_cmp_gt, lg_cmp_lt, lg_cmp_eq, eL_0, eL_1, eL_m1, eL_LO, eL_HI, eL_W, eL_add, eL_sub, eL_mul, eL_neg, eL_lt, eL_le, eL_eq, eL_remN, eL_mod0, ne_eq, Int64.not_lt, Int64.not_le] at c75)
        (try simp (disch := omega) only [lg_cmp_ge, lg_cmp_le, lg_cmp_gt, lg_cmp_lt, lg_cmp_eq, eL_0, eL_1, eL_m1, eL_LO, eL_HI, eL_W, eL_add, eL_sub, eL_mul, eL_neg, eL_lt, eL_le, eL_eq, eL_remN, eL_mod0, ne_eq, Int64.not_lt, Int64.not_le] at c84)
        refine gi_close (hJ () _ rfl) (List.forall_mem_cons.mpr ⟨(congrArg (fun z => some (Value.long z)) ?_), List.forall_mem_cons.mpr ⟨rfl, List.forall_mem_cons.mpr ⟨rfl, fun _ h => absurd h List.not_mem_nil⟩⟩⟩) rfl rfl rfl
        unfold dnS1
        first
          | rw [if_neg (by omega)]
          | (rw [if_pos (by omega), if_pos (by omega)]; simp only [eL_1, eL_add, eL_sub]; done)
          | (rw [if_pos (by omega), if_neg (by omega)]; simp (disch := omega) only [eL_1, eL_add, eL_sub, eL_divN, eL_mul]; done)
      · refine gi_aload_n (q := 88) (i := 0) C (dm_Va_within 50 rfl) rfl rfl rfl ?_
        refine gi_get (q := 91) C (dm_Va_within 51 rfl) rfl fl_Va_15 (by repeat (first | exact gi_up_self _ _ _ | assumption | rw [gi_up_ne (by omega)])) rfl ?_
        refine gi_lconst (q := 92) (v := 1) C (dm_Va_within 52 rfl) rfl (by decide) ?_
        refine gi_lsub (q := 93) C (dm_Va_within 53 rfl) rfl ?_
        refine gi_goto (tgt := 124) C (dm_Va_within 54 rfl) (by decide) ?_
        refine gi_lstore (q := 126) C (dm_Va_within 73 rfl) rfl (Nat.le_of_ble_eq_true rfl) ?_
        (try simp (disch := omega) only [lg_cmp_ge, lg_cmp_le, lg_cmp_gt, lg_cmp_lt, lg_cmp_eq, eL_0, eL_1, eL_m1, eL_LO, eL_HI, eL_W, eL_add, eL_sub, eL_mul, eL_neg, eL_lt, eL_le, eL_eq, eL_remN, eL_mod0, ne_eq, Int64.not_lt, Int64.not_le] at c75)
        (try simp (disch := omega) only [lg_cmp_ge, lg_cmp_le, lg_cmp_gt, lg_cmp_lt, lg_cmp_eq, eL_0, eL_1, eL_m1, eL_LO, eL_HI, eL_W, eL_add, eL_sub, eL_mul, eL_neg, eL_lt, eL_le, eL_eq, eL_remN, eL_mod0, ne_eq, Int64.not_lt, Int64.not_le] at c84)
        refine gi_close (hJ () _ rfl) (List.forall_mem_cons.mpr ⟨(congrArg (fun z => some (Value.long z)) ?_), List.forall_mem_cons.mpr ⟨rfl, List.forall_mem_cons.mpr ⟨rfl, fun _ h => absurd h List.not_mem_nil⟩⟩⟩) rfl rfl rfl
        unfold dnS1
        first
          | rw [if_neg (by omega)]
          | (rw [if_pos (by omega), if_pos (by omega)]; simp only [eL_1, eL_add, eL_sub]; done)
          | (rw [if_pos (by omega), if_neg (by omega)]; simp (disch := omega) only [eL_1, eL_add, eL_sub, eL_divN, eL_mul]; done)
  refine gi_aload_n (q := 1) (i := 0) C (dm_Va_within 0 rfl) rfl rfl rfl ?_
  refine gi_get (q := 4) C (dm_Va_within 1 rfl) rfl fl_Va_15 (by repeat (first | exact gi_up_self _ _ _ | assumption | rw [gi_up_ne (by omega)])) rfl ?_
  refine gi_lstore (q := 6) C (dm_Va_within 2 rfl) rfl (Nat.le_of_ble_eq_true rfl) ?_
  refine gi_aload_n (q := 7) (i := 0) C (dm_Va_within 3 rfl) rfl rfl rfl ?_
  refine gi_get (q := 10) C (dm_Va_within 4 rfl) rfl fl_Va_19 (by repeat (first | exact gi_up_self _ _ _ | assumption | rw [gi_up_ne (by omega)])) rfl ?_
  refine gi_lstore (q := 12) C (dm_Va_within 5 rfl) rfl (Nat.le_of_ble_eq_true rfl) ?_
  refine gi_lload_n (q := 13) (i := 1) C (dm_Va_within 6 rfl) rfl rfl rfl ?_
  refine gi_aload_n (q := 14) (i := 0) C (dm_Va_within 7 rfl) rfl rfl rfl ?_
  refine gi_get (q := 17) C (dm_Va_within 8 rfl) rfl fl_Va_15 (by repeat (first | exact gi_up_self _ _ _ | assumption | rw [gi_up_ne (by omega)])) rfl ?_
  refine gi_lcmp (q := 18) C (dm_Va_within 9 rfl) rfl ?_
  refine gi_if_le (q := 21) (tgt := 69) C (dm_Va_within 10 rfl) rfl (by decide) (fun c18 => ?_) (fun c18 => ?_)
  · (try simp (disch := omega) only [lg_cmp_ge, lg_cmp_le, lg_cmp_gt, lg_cmp_lt, lg_cmp_eq, eL_0, eL_1, eL_m1, eL_LO, eL_HI, eL_W, eL_add, eL_sub, eL_mul, eL_neg, eL_lt, eL_le, eL_eq, eL_remN, eL_mod0, ne_eq, Int64.not_lt, Int64.not_le] at c18)
    refine gi_close (hJ () _ rfl) (List.forall_mem_cons.mpr ⟨rfl, List.forall_mem_cons.mpr ⟨(congrArg (fun z => some (Value.long z)) ?_), List.forall_mem_cons.mpr ⟨rfl, List.forall_mem_cons.mpr ⟨rfl, fun _ h => absurd h List.not_mem_nil⟩⟩⟩⟩) rfl rfl rfl
    unfold upS1
    first
      | rw [if_neg (by omega)]
      | (rw [if_pos (by omega), if_pos (by omega)]; simp only [eL_1, eL_add, eL_sub]; done)
      | (rw [if_pos (by omega), if_neg (by omega)]; simp (disch := omega) only [eL_1, eL_add, eL_sub, eL_divN, eL_mul]; done)
  · refine gi_aload_n (q := 22) (i := 0) C (dm_Va_within 11 rfl) rfl rfl rfl ?_
    refine gi_get (q := 25) C (dm_Va_within 12 rfl) rfl fl_Va_22 (by repeat (first | exact gi_up_self _ _ _ | assumption | rw [gi_up_ne (by omega)])) rfl ?_
    refine gi_lconst (q := 26) (v := 0) C (dm_Va_within 13 rfl) rfl (by decide) ?_
    refine gi_lcmp (q := 27) C (dm_Va_within 14 rfl) rfl ?_
    refine gi_if_ne (q := 30) (tgt := 39) C (dm_Va_within 15 rfl) rfl (by decide) (fun c27 => ?_) (fun c27 => ?_)
    · refine gi_aload_n (q := 40) (i := 0) C (dm_Va_within 21 rfl) rfl rfl rfl ?_
      refine gi_get (q := 43) C (dm_Va_within 22 rfl) rfl fl_Va_15 (by repeat (first | exact gi_up_self _ _ _ | assumption | rw [gi_up_ne (by omega)])) rfl ?_
      refine gi_lload_n (q := 44) (i := 1) C (dm_Va_within 23 rfl) rfl rfl rfl ?_
      refine gi_aload_n (q := 45) (i := 0) C (dm_Va_within 24 rfl) rfl rfl rfl ?_
      refine gi_get (q := 48) C (dm_Va_within 25 rfl) rfl fl_Va_15 (by repeat (first | exact gi_up_self _ _ _ | assumption | rw [gi_up_ne (by omega)])) rfl ?_
      refine gi_lsub (q := 49) C (dm_Va_within 26 rfl) rfl ?_
      refine gi_aload_n (q := 50) (i := 0) C (dm_Va_within 27 rfl) rfl rfl rfl ?_
      refine gi_get (q := 53) C (dm_Va_within 28 rfl) rfl fl_Va_22 (by repeat (first | exact gi_up_self _ _ _ | assumption | rw [gi_up_ne (by omega)])) rfl ?_
      refine gi_ladd (q := 54) C (dm_Va_within 29 rfl) rfl ?_
      refine gi_lconst (q := 55) (v := 1) C (dm_Va_within 30 rfl) rfl (by decide) ?_
      refine gi_lsub (q := 56) C (dm_Va_within 31 rfl) rfl ?_
      refine gi_aload_n (q := 57) (i := 0) C (dm_Va_within 32 rfl) rfl rfl rfl ?_
      refine gi_get (q := 60) C (dm_Va_within 33 rfl) rfl fl_Va_22 (by repeat (first | exact gi_up_self _ _ _ | assumption | rw [gi_up_ne (by omega)])) rfl ?_
      refine gi_ldiv (q := 61) C (dm_Va_within 34 rfl) rfl (fun q => c27 ((lg_cmp_eq _ _).mpr q)) ?_
      refine gi_aload_n (q := 62) (i := 0) C (dm_Va_within 35 rfl) rfl rfl rfl ?_
      refine gi_get (q := 65) C (dm_Va_within 36 rfl) rfl fl_Va_22 (by repeat (first | exact gi_up_self _ _ _ | assumption | rw [gi_up_ne (by omega)])) rfl ?_
      refine gi_lmul (q := 66) C (dm_Va_within 37 rfl) rfl ?_
      refine gi_ladd (q := 67) C (dm_Va_within 38 rfl) rfl ?_
      refine gi_lstore (q := 69) C (dm_Va_within 39 rfl) rfl (Nat.le_of_ble_eq_true rfl) ?_
      (try simp (disch := omega) only [lg_cmp_ge, lg_cmp_le, lg_cmp_gt, lg_cmp_lt, lg_cmp_eq, eL_0, eL_1, eL_m1, eL_LO, eL_HI, eL_W, eL_add, eL_sub, eL_mul, eL_neg, eL_lt, eL_le, eL_eq, eL_remN, eL_mod0, ne_eq, Int64.not_lt, Int64.not_le] at c18)
      (try simp (disch := omega) only [lg_cmp_ge, lg_cmp_le, lg_cmp_gt, lg_cmp_lt, lg_cmp_eq, eL_0, eL_1, eL_m1, eL_LO, eL_HI, eL_W, eL_add, eL_sub, eL_mul, eL_neg, eL_lt, eL_le, eL_eq, eL_remN, eL_mod0, ne_eq, Int64.not_lt, Int64.not_le] at c27)
      refine gi_close (hJ () _ rfl) (List.forall_mem_cons.mpr ⟨rfl, List.forall_mem_cons.mpr ⟨(congrArg (fun z => some (Value.long z)) ?_), List.forall_mem_cons.mpr ⟨rfl, List.forall_mem_cons.mpr ⟨rfl, fun _ h => absurd h List.not_mem_nil⟩⟩⟩⟩) rfl rfl rfl
      unfold upS1
      first
        | rw [if_neg (by omega)]
        | (rw [if_pos (by omega), if_pos (by omega)]; simp only [eL_1, eL_add, eL_sub]; done)
        | (rw [if_pos (by omega), if_neg (by omega)]; simp (disch := omega) only [eL_1, eL_add, eL_sub, eL_divN, eL_mul]; done)
    · refine gi_aload_n (q := 31) (i := 0) C (dm_Va_within 16 rfl) rfl rfl rfl ?_
      refine gi_get (q := 34) C (dm_Va_within 17 rfl) rfl fl_Va_19 (by repeat (first | exact gi_up_self _ _ _ | assumption | rw [gi_up_ne (by omega)])) rfl ?_
      refine gi_lconst (q := 35) (v := 1) C (dm_Va_within 18 rfl) rfl (by decide) ?_
      refine gi_ladd (q := 36) C (dm_Va_within 19 rfl) rfl ?_
      refine gi_goto (tgt := 67) C (dm_Va_within 20 rfl) (by decide) ?_
      refine gi_lstore (q := 69) C (dm_Va_within 39 rfl) rfl (Nat.le_of_ble_eq_true rfl) ?_
      (try simp (disch := omega) only [lg_cmp_ge, lg_cmp_le, lg_cmp_gt, lg_cmp_lt, lg_cmp_eq, eL_0, eL_1, eL_m1, eL_LO, eL_HI, eL_W, eL_add, eL_sub, eL_mul, eL_neg, eL_lt, eL_le, eL_eq, eL_remN, eL_mod0, ne_eq, Int64.not_lt, Int64.not_le] at c18)
      (try simp (disch := omega) only [lg_cmp_ge, lg_cmp_le, lg_cmp_gt, lg_cmp_lt, lg_cmp_eq, eL_0, eL_1, eL_m1, eL_LO, eL_HI, eL_W, eL_add, eL_sub, eL_mul, eL_neg, eL_lt, eL_le, eL_eq, eL_remN, eL_mod0, ne_eq, Int64.not_lt, Int64.not_le] at c27)
      refine gi_close (hJ () _ rfl) (List.forall_mem_cons.mpr ⟨rfl, List.forall_mem_cons.mpr ⟨(congrArg (fun z => some (Value.long z)) ?_), List.forall_mem_cons.mpr ⟨rfl, List.forall_mem_cons.mpr ⟨rfl, fun _ h => absurd h List.not_mem_nil⟩⟩⟩⟩) rfl rfl rfl
      unfold upS1
      first
        | rw [if_neg (by omega)]
        | (rw [if_pos (by omega), if_pos (by omega)]; simp only [eL_1, eL_add, eL_sub]; done)
        | (rw [if_pos (by omega), if_neg (by omega)]; simp (disch := omega) only [eL_1, eL_add, eL_sub, eL_divN, eL_mul]; done)
theorem lose_lo {x : Sp} (hx : okS x) {c : Int} (hc : x.1 = c) : withinS x (c + 1) 2147483647 = if x.2.2 = 0 then none else some (mkS (c + x.2.2) x.2.1 x.2.2) := by
  have hz := fun q => hx.z q
  have hst := hx.st
  obtain ⟨o1, o2, o3, o4, o5, o6⟩ := hx
  have e2 : dnS1 x 2147483647 = x.2.1 := by rw [dnS1, if_neg (by omega)]
  by_cases h0 : x.2.2 = 0
  · rw [if_pos h0, withinS, e2, if_neg]
    rw [upS1, if_pos (by omega), if_pos h0]
    omega
  · have e1 : upS1 x (c + 1) = c + x.2.2 := by
      rw [upS1, if_pos (by omega), if_neg h0, show c + 1 - x.1 + x.2.2 - 1 = x.2.2 by omega, Int.ediv_self h0]
      omega
    rw [if_neg h0, withinS, e2, e1, if_pos (by omega)]
theorem lose_hi {x : Sp} (hx : okS x) {c : Int} (hc : x.2.1 = c) (hl : x.1 ≠ c) : withinS x (-2147483648) (c - 1) = some (mkS x.1 (c - x.2.2) x.2.2) := by
  have hz := fun q => hx.z q
  have hst := hx.st
  obtain ⟨o1, o2, o3, o4, o5, o6⟩ := hx
  have h0 : x.2.2 ≠ 0 := fun q => by have := hz q; omega
  have e1 : upS1 x (-2147483648) = x.1 := by rw [upS1, if_neg (by omega)]
  have e2 : dnS1 x (c - 1) = c - x.2.2 := by
    rw [dnS1, if_pos (by omega), if_neg h0, show x.2.1 - (c - 1) + x.2.2 - 1 = x.2.2 by omega, Int.ediv_self h0]
    omega
  rw [withinS, e1, e2, if_pos (by omega)]
theorem lose_no {c : Int} (hc : c = 0) : withinS (1, 0, 0) (-2147483648) (c - 1) = none := by
  subst hc
  decide
set_option maxHeartbeats 4000000 in
set_option maxRecDepth 100000 in
theorem c_Va_loseAtEnds (r : Nat) (x : Sp) (c : Int) (hx : okS x) (c1 : -2147483648 ≤ c) (c2 : c ≤ 2147483647) (ha : h r = some (eV (sV x))) : gi_T l V y_Va_loseAtEnds b_Va_loseAtEnds 3 none 1 29 0 0 [.ref r, .long (eL c)] n h (gi_is none n (gi_up h r (eV (sV (wS (loseS x c)))))) := by
  refine gi_enter (by decide) (Nat.le_of_ble_eq_true rfl) ?_
  intro _ _ _ _ _ _ _ _ C hr hnm
  have hz := fun q => hx.z q
  have hst := hx.st
  obtain ⟨o1, o2, o3, o4, o5, o6⟩ := id hx
  by_cases hl : x.1 = c
  · have lw : loseS x c = withinS x (c + 1) 2147483647 := by
      rw [lose_lo hx hl]
      by_cases h0 : x.2.2 = 0
      · have := hz h0
        rw [if_pos h0, loseS, if_pos ⟨hl, by omega⟩]
      · have : ¬ x.2.1 = c := fun q => h0 (o5 (by omega))
        rw [if_neg h0, loseS, if_neg (fun q => this q.2), if_pos hl, if_neg this, hl]
    have lh : (wS (loseS x c)).2.1 = c → loseS x c = none ∧ c = 0 := by
      intro q
      rw [lw, lose_lo hx hl] at *
      by_cases h0 : x.2.2 = 0
      · rw [if_pos h0] at *
        exact ⟨rfl, q.symm⟩
      · have : ¬ x.2.1 = c := fun q => h0 (o5 (by omega))
        rw [if_neg h0] at q
        exfalso
        apply this
        rw [← q]
        unfold wS mkS
        split <;> rfl
    have lb : -4294967296 ≤ (wS (loseS x c)).2.1 ∧ (wS (loseS x c)).2.1 ≤ 4294967296 := by
      rw [lw]
      cases e : withinS x (c + 1) 2147483647 with
      | none => exact ⟨by decide, by decide⟩
      | some y =>
        have := within_ok hx e
        obtain ⟨⟨q1, q2, q3, -⟩, -⟩ := this
        exact ⟨by show _ ≤ y.2.1; omega, by show y.2.1 ≤ _; omega⟩
    refine gi_aload_n (q := 1) (i := 0) C (dm_Va_loseAtEnds 0 rfl) rfl rfl rfl ?_
    refine gi_get (q := 4) C (dm_Va_loseAtEnds 1 rfl) rfl fl_Va_15 (by repeat (first | exact gi_up_self _ _ _ | assumption | rw [gi_up_ne (by omega)])) rfl ?_
    refine gi_lload_n (q := 5) (i := 1) C (dm_Va_loseAtEnds 2 rfl) rfl rfl rfl ?_
    refine gi_lcmp (q := 6) C (dm_Va_loseAtEnds 3 rfl) rfl ?_
    refine gi_if_ne (q := 9) (tgt := 19) C (dm_Va_loseAtEnds 4 rfl) rfl (by decide) (fun c6 => ?_) (fun c6 => ?_)
    · exact absurd ((lg_cmp_eq _ _).mpr (congrArg eL hl)) c6
    · refine gi_aload_n (q := 10) (i := 0) C (dm_Va_loseAtEnds 5 rfl) rfl rfl rfl ?_
      refine gi_lload_n (q := 11) (i := 1) C (dm_Va_loseAtEnds 6 rfl) rfl rfl rfl ?_
      refine gi_lconst (q := 12) (v := 1) C (dm_Va_loseAtEnds 7 rfl) rfl (by decide) ?_
      refine gi_ladd (q := 13) C (dm_Va_loseAtEnds 8 rfl) rfl ?_
      rw [eL_1, eL_add]
      refine gi_ldc2 (q := 16) C (dm_Va_loseAtEnds 9 rfl) rfl kc_Va_38 ?_
      refine gi_callv 2 (q := 19) C (dm_Va_loseAtEnds 10 rfl) rfl my_Va_within lk_Va_64 im_Va_within rfl (c_Va_within r x (c + 1) 2147483647 hx.b (by omega) (by omega) (by omega) (by omega) ha) ha rfl rfl ⟨(Nat.le_of_ble_eq_true rfl), (Nat.le_of_ble_eq_true rfl)⟩ (Nat.le_of_ble_eq_true rfl) ⟨(Nat.le_of_ble_eq_true rfl), (Nat.le_of_ble_eq_true rfl)⟩ (fun r16 n16 h16 e16 => ?_)
      obtain ⟨rfl, rfl, rfl⟩ := e16
      rw [← lw]
      refine gi_aload_n (q := 20) (i := 0) C (dm_Va_loseAtEnds 11 rfl) rfl rfl rfl ?_
      refine gi_get (q := 23) C (dm_Va_loseAtEnds 12 rfl) rfl fl_Va_19 (by repeat (first | exact gi_up_self _ _ _ | assumption | rw [gi_up_ne (by omega)])) rfl ?_
      refine gi_lload_n (q := 24) (i := 1) C (dm_Va_loseAtEnds 13 rfl) rfl rfl rfl ?_
      refine gi_lcmp (q := 25) C (dm_Va_loseAtEnds 14 rfl) rfl ?_
      refine gi_if_ne (q := 28) (tgt := 38) C (dm_Va_loseAtEnds 15 rfl) rfl (by decide) (fun c25 => ?_) (fun c25 => ?_)
      · refine gi_vret C hr (dm_Va_loseAtEnds 22 rfl) ?_
        first
          | exact ⟨rfl, rfl, rfl⟩
          | exact ⟨rfl, rfl, by rw [lose_no hn.2, hn.1]⟩
      · have hn := lh (by
          have := (show eL _ = eL c from (lg_cmp_eq _ _).mp c25)
          rw [eL_eq (by omega) (by omega) (by omega) (by omega)] at this
          exact this)
        refine gi_aload_n (q := 29) (i := 0) C (dm_Va_loseAtEnds 16 rfl) rfl rfl rfl ?_
        refine gi_ldc2 (q := 32) C (dm_Va_loseAtEnds 17 rfl) rfl kc_Va_36 ?_
        refine gi_lload_n (q := 33) (i := 1) C (dm_Va_loseAtEnds 18 rfl) rfl rfl rfl ?_
        refine gi_lconst (q := 34) (v := 1) C (dm_Va_loseAtEnds 19 rfl) rfl (by decide) ?_
        refine gi_lsub (q := 35) C (dm_Va_loseAtEnds 20 rfl) rfl ?_
        rw [eL_1, eL_sub, eL_LO]
        refine gi_callv 2 (q := 38) C (dm_Va_loseAtEnds 21 rfl) rfl my_Va_within lk_Va_64 im_Va_within rfl (c_Va_within r (1, 0, 0) (-2147483648) (c - 1) ⟨by decide, by decide, by decide, by decide, by decide, by decide⟩ (by omega) (by omega) (by omega) (by omega) (by rw [gi_up_self, hn.1]; rfl)) (gi_up_self _ _ _) rfl rfl ⟨(Nat.le_of_ble_eq_true rfl), (Nat.le_of_ble_eq_true rfl)⟩ (Nat.le_of_ble_eq_true rfl) ⟨(Nat.le_of_ble_eq_true rfl), (Nat.le_of_ble_eq_true rfl)⟩ (fun r35 n35 h35 e35 => ?_)
        obtain ⟨rfl, rfl, rfl⟩ := e35
        simp only [gi_up_up]
        refine gi_vret C hr (dm_Va_loseAtEnds 22 rfl) ?_
        first
          | exact ⟨rfl, rfl, rfl⟩
          | exact ⟨rfl, rfl, by rw [lose_no hn.2, hn.1]⟩
  · have lb : ¬ eL x.1 = eL c := by rw [eL_eq (by omega) (by omega) (by omega) (by omega)]; exact hl
    refine gi_aload_n (q := 1) (i := 0) C (dm_Va_loseAtEnds 0 rfl) rfl rfl rfl ?_
    refine gi_get (q := 4) C (dm_Va_loseAtEnds 1 rfl) rfl fl_Va_15 (by repeat (first | exact gi_up_self _ _ _ | assumption | rw [gi_up_ne (by omega)])) rfl ?_
    refine gi_lload_n (q := 5) (i := 1) C (dm_Va_loseAtEnds 2 rfl) rfl rfl rfl ?_
    refine gi_lcmp (q := 6) C (dm_Va_loseAtEnds 3 rfl) rfl ?_
    refine gi_if_ne (q := 9) (tgt := 19) C (dm_Va_loseAtEnds 4 rfl) rfl (by decide) (fun c6 => ?_) (fun c6 => ?_)
    · refine gi_aload_n (q := 20) (i := 0) C (dm_Va_loseAtEnds 11 rfl) rfl rfl rfl ?_
      refine gi_get (q := 23) C (dm_Va_loseAtEnds 12 rfl) rfl fl_Va_19 (by repeat (first | exact gi_up_self _ _ _ | assumption | rw [gi_up_ne (by omega)])) rfl ?_
      refine gi_lload_n (q := 24) (i := 1) C (dm_Va_loseAtEnds 13 rfl) rfl rfl rfl ?_
      refine gi_lcmp (q := 25) C (dm_Va_loseAtEnds 14 rfl) rfl ?_
      refine gi_if_ne (q := 28) (tgt := 38) C (dm_Va_loseAtEnds 15 rfl) rfl (by decide) (fun c25 => ?_) (fun c25 => ?_)
      · refine gi_vret C hr (dm_Va_loseAtEnds 22 rfl) ?_
        first
          | (refine ⟨rfl, rfl, ?_⟩
             rw [lose_hi hx hh hl, loseS, if_neg (fun q => hl q.1), if_neg hl, if_pos hh, hh])
          | (have hh : ¬ x.2.1 = c := fun q => c25 ((lg_cmp_eq _ _).mpr (congrArg eL q))
             refine ⟨rfl, rfl, ?_⟩
             rw [loseS, if_neg (fun q => hl q.1), if_neg hl, if_neg hh]
             have : wS (some (mkS x.1 x.2.1 x.2.2)) = x := by
               show mkS x.1 x.2.1 x.2.2 = x
               unfold mkS
               split
               · rename_i q
                 rw [← o5 q]
               · rfl
             rw [this]
             exact (gi_up_id ha).symm)
      · have hh : x.2.1 = c := by
          have := (show eL _ = eL c from (lg_cmp_eq _ _).mp c25)
          rw [eL_eq (by omega) (by omega) (by omega) (by omega)] at this
          exact this
        refine gi_aload_n (q := 29) (i := 0) C (dm_Va_loseAtEnds 16 rfl) rfl rfl rfl ?_
        refine gi_ldc2 (q := 32) C (dm_Va_loseAtEnds 17 rfl) rfl kc_Va_36 ?_
        refine gi_lload_n (q := 33) (i := 1) C (dm_Va_loseAtEnds 18 rfl) rfl rfl rfl ?_
        refine gi_lconst (q := 34) (v := 1) C (dm_Va_loseAtEnds 19 rfl) rfl (by decide) ?_
        refine gi_lsub (q := 35) C (dm_Va_loseAtEnds 20 rfl) rfl ?_
        rw [eL_1, eL_sub, eL_LO]
        refine gi_callv 2 (q := 38) C (dm_Va_loseAtEnds 21 rfl) rfl my_Va_within lk_Va_64 im_Va_within rfl (c_Va_within r x (-2147483648) (c - 1) hx.b (by omega) (by omega) (by omega) (by omega) ha) ha rfl rfl ⟨(Nat.le_of_ble_eq_true rfl), (Nat.le_of_ble_eq_true rfl)⟩ (Nat.le_of_ble_eq_true rfl) ⟨(Nat.le_of_ble_eq_true rfl), (Nat.le_of_ble_eq_true rfl)⟩ (fun r35 n35 h35 e35 => ?_)
        obtain ⟨rfl, rfl, rfl⟩ := e35
        refine gi_vret C hr (dm_Va_loseAtEnds 22 rfl) ?_
        first
          | (refine ⟨rfl, rfl, ?_⟩
             rw [lose_hi hx hh hl, loseS, if_neg (fun q => hl q.1), if_neg hl, if_pos hh, hh])
          | (have hh : ¬ x.2.1 = c := fun q => c25 ((lg_cmp_eq _ _).mpr (congrArg eL q))
             refine ⟨rfl, rfl, ?_⟩
             rw [loseS, if_neg (fun q => hl q.1), if_neg hl, if_neg hh]
             have : wS (some (mkS x.1 x.2.1 x.2.2)) = x := by
               show mkS x.1 x.2.1 x.2.2 = x
               unfold mkS
               split
               · rename_i q
                 rw [← o5 q]
               · rfl
             rw [this]
             exact (gi_up_id ha).symm)
    · exact absurd ((lg_cmp_eq _ _).mp c6) lb
end VA4
