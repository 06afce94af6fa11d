-- needs: 62
section RE5
variable {l : Launch} {V : gi_V} {n : Nat} {h : gi_H}
set_option maxHeartbeats 4000000 in
set_option maxRecDepth 100000 in
theorem c_Re_combine (r ax ay ao : Nat) (op : Nat) (x y : Sp) (ob : List Value) (v : mV) (hop : 12 ≤ op ∧ op ≤ 14) (hx : okS x) (hy : okS y) (hr0 : h r = some (gi_O 7 ob)) (ha : h ax = some (eV (sV x))) (hb : h ay = some (eV (sV y))) (hc : h ao = some (eV v)) : gi_T l V y_Re_combine b_Re_combine 8 none 2 48 0 0 [.ref r, .int (nI op), .ref ax, .ref ay, .ref ao] n h (gi_is none n (gi_up h ao (eV (sV (logS op x y))))) := by
  refine gi_enter (by decide) (Nat.le_of_ble_eq_true rfl) ?_
  intro _ _ _ _ _ _ _ _ C hr hnm
  obtain ⟨o1, o2, o3, o4, o5, o6⟩ := id hx
  have o7 := hx.st
  obtain ⟨w1, w2, w3, w4, w5, w6⟩ := id hy
  have w7 := hy.st
  have tb := top_b (max x.2.1 y.2.1)
  refine gi_aload_n (q := 1) (i := 2) C (dm_Re_combine 0 rfl) rfl rfl rfl ?_
  refine gi_callv 0 (q := 4) C (dm_Re_combine 1 rfl) rfl my_Va_isSingle lk_Re_39 im_Va_isSingle rfl (c_Va_isSingle ax _ ha) ha rfl rfl ⟨(Nat.le_of_ble_eq_true rfl), (Nat.le_of_ble_eq_true rfl)⟩ (Nat.le_of_ble_eq_true rfl) ⟨(Nat.le_of_ble_eq_true rfl), (Nat.le_of_ble_eq_true rfl)⟩ (fun r1 n1 h1 e1 => ?_)
  obtain ⟨rfl, q1, u1⟩ := e1
  rw [q1, u1]
  refine gi_if_eq (q := 7) (tgt := 67) C (dm_Re_combine 2 rfl) rfl (by decide) (fun c4 => ?_) (fun c4 => ?_)
  · have n1 : ¬ (x.1 = x.2.1 ∧ y.1 = y.2.1) := by
      first
        | exact fun q => sgF (by omega) (by omega) (by omega) (by omega) c4 q.1
        | exact fun q => sgF (by omega) (by omega) (by omega) (by omega) c11 q.2
    refine gi_iload_n (q := 68) (i := 1) C (dm_Re_combine 32 rfl) rfl rfl rfl ?_
    refine gi_bipush (q := 70) (v := 12) C (dm_Re_combine 33 rfl) rfl (by decide) ?_
    refine gi_icmp_ne (q := 73) (tgt := 148) C (dm_Re_combine 34 rfl) rfl (by decide) (fun c70 => ?_) (fun c70 => ?_)
    · refine gi_iload_n (q := 149) (i := 1) C (dm_Re_combine 73 rfl) rfl rfl rfl ?_
      refine gi_bipush (q := 151) (v := 12) C (dm_Re_combine 74 rfl) rfl (by decide) ?_
      refine gi_icmp_eq (q := 154) (tgt := 250) C (dm_Re_combine 75 rfl) rfl (by decide) (fun c151 => ?_) (fun c151 => ?_)
      · refine gi_aload (q := 252) C (dm_Re_combine 124 rfl) rfl rfl ?_
        refine gi_callv 0 (q := 255) C (dm_Re_combine 125 rfl) rfl my_Va_beAll lk_Re_63 im_Va_beAll rfl (c_Va_beAll ao v hc) hc rfl rfl ⟨(Nat.le_of_ble_eq_true rfl), (Nat.le_of_ble_eq_true rfl)⟩ (Nat.le_of_ble_eq_true rfl) ⟨(Nat.le_of_ble_eq_true rfl), (Nat.le_of_ble_eq_true rfl)⟩ (fun r252 n252 h252 e252 => ?_)
        obtain ⟨rfl, rfl, rfl⟩ := e252
        refine gi_vret C hr (dm_Re_combine 126 rfl) ?_
        (try simp (disch := omega) only [lg_cmp_ge, lg_cmp_le, lg_cmp_gt, lg_cmp_lt, lg_cmp_eq, eL_0, eL_1, eL_m1, eL_LO, eL_HI, eL_W, eL_add, eL_sub, eL_mul, eL_neg, eL_lt, eL_le, eL_eq, eL_remN, eL_mod0, ne_eq, Int64.not_lt, Int64.not_le] at c4)
        (try simp (disch := omega) only [lg_cmp_ge, lg_cmp_le, lg_cmp_gt, lg_cmp_lt, lg_cmp_eq, eL_0, eL_1, eL_m1, eL_LO, eL_HI, eL_W, eL_add, eL_sub, eL_mul, eL_neg, eL_lt, eL_le, eL_eq, eL_remN, eL_mod0, ne_eq, Int64.not_lt, Int64.not_le] at c70)
        (try simp (disch := omega) only [lg_cmp_ge, lg_cmp_le, lg_cmp_gt, lg_cmp_lt, lg_cmp_eq, eL_0, eL_1, eL_m1, eL_LO, eL_HI, eL_W, eL_add, eL_sub, eL_mul, eL_neg, eL_lt, eL_le, eL_eq, eL_remN, eL_mod0, ne_eq, Int64.not_lt, Int64.not_le] at c151)
        refine ⟨rfl, rfl, ?_⟩
        unfold logS
        first
          | exact absurd c151 c70
          | (rw [if_pos ⟨e1, e2⟩]
             unfold bitS
             first
               | (rw [if_pos (by first | exact (nI_eq (b := 12) (by omega) (by omega)).mp c19)]; done)
               | (rw [if_neg (fun z => c19 (by rw [z]; rfl)), if_pos (by first | exact (nI_eq (b := 13) (by omega) (by omega)).mp c37)]; done)
               | (rw [if_neg (fun z => c19 (by rw [z]; rfl)), if_neg (fun z => c37 (by rw [z]; rfl))]; done))
          | (rw [if_neg n1, if_pos (by first | exact (nI_eq (b := 12) (by omega) (by omega)).mp c70)]
             first
               | (rw [if_pos (by omega), mSpan_mk (by omega) (by omega) (by omega) (by omega)]; done)
               | (rw [if_neg (by omega), if_pos (by omega), mSpan_mk (by omega) (by omega) (by omega) (by omega)]; done)
               | (rw [if_neg (by omega), if_neg (by omega), if_pos (by omega), mSpan_mk (by omega) (by omega) (by omega) (by omega)]; done)
               | (rw [if_neg (by omega), if_neg (by omega), if_neg (by omega)]; done))
          | (rw [if_neg n1, if_neg (fun z => c151 (by rw [z]; rfl)), if_neg (by omega)]; done)
      · refine gi_aload_n (q := 155) (i := 2) C (dm_Re_combine 76 rfl) rfl rfl rfl ?_
        refine gi_get (q := 158) C (dm_Re_combine 77 rfl) rfl fl_Re_21 (by repeat (first | exact gi_up_self _ _ _ | assumption | rw [gi_up_ne (by omega)])) rfl ?_
        refine gi_lconst (q := 159) (v := 0) C (dm_Re_combine 78 rfl) rfl (by decide) ?_
        refine gi_lcmp (q := 160) C (dm_Re_combine 79 rfl) rfl ?_
        refine gi_if_lt (q := 163) (tgt := 250) C (dm_Re_combine 80 rfl) rfl (by decide) (fun c160 => ?_) (fun c160 => ?_)
        · refine gi_aload (q := 252) C (dm_Re_combine 124 rfl) rfl rfl ?_
          refine gi_callv 0 (q := 255) C (dm_Re_combine 125 rfl) rfl my_Va_beAll lk_Re_63 im_Va_beAll rfl (c_Va_beAll ao v hc) hc rfl rfl ⟨(Nat.le_of_ble_eq_true rfl), (Nat.le_of_ble_eq_true rfl)⟩ (Nat.le_of_ble_eq_true rfl) ⟨(Nat.le_of_ble_eq_true rfl), (Nat.le_of_ble_eq_true rfl)⟩ (fun r252 n252 h252 e252 => ?_)
          obtain ⟨rfl, rfl, rfl⟩ := e252
          refine gi_vret C hr (dm_Re_combine 126 rfl) ?_
          (try simp (disch := omega) only [lg_cmp_ge, lg_cmp_le, lg_cmp_gt, lg_cmp_lt, lg_cmp_eq, eL_0, eL_1, eL_m1, eL_LO, eL_HI, eL_W, eL_add, eL_sub, eL_mul, eL_neg, eL_lt, eL_le, eL_eq, eL_remN, eL_mod0, ne_eq, Int64.not_lt, Int64.not_le] at c4)
          (try simp (disch := omega) only [lg_cmp_ge, lg_cmp_le, lg_cmp_gt, lg_cmp_lt, lg_cmp_eq, eL_0, eL_1, eL_m1, eL_LO, eL_HI, eL_W, eL_add, eL_sub, eL_mul, eL_neg, eL_lt, eL_le, eL_eq, eL_remN, eL_mod0, ne_eq, Int64.not_lt, Int64.not_le] at c70)
          (try simp (disch := omega) only [lg_cmp_ge, lg_cmp_le, lg_cmp_gt, lg_cmp_lt, lg_cmp_eq, eL_0, eL_1, eL_m1, eL_LO, eL_HI, eL_W, eL_add, eL_sub, eL_mul, eL_neg, eL_lt, eL_le, eL_eq, eL_remN, eL_mod0, ne_eq, Int64.not_lt, Int64.not_le] at c151)
          (try simp (disch := omega) only [lg_cmp_ge, lg_cmp_le, lg_cmp_gt, lg_cmp_lt, lg_cmp_eq, eL_0, eL_1, eL_m1, eL_LO, eL_HI, eL_W, eL_add, eL_sub, eL_mul, eL_neg, eL_lt, eL_le, eL_eq, eL_remN, eL_mod0, ne_eq, Int64.not_lt, Int64.not_le] at c160)
          refine ⟨rfl, rfl, ?_⟩
          unfold logS
          first
            | exact absurd c151 c70
            | (rw [if_pos ⟨e1, e2⟩]
               unfold bitS
               first
                 | (rw [if_pos (by first | exact (nI_eq (b := 12) (by omega) (by omega)).mp c19)]; done)
                 | (rw [if_neg (fun z => c19 (by rw [z]; rfl)), if_pos (by first | exact (nI_eq (b := 13) (by omega) (by omega)).mp c37)]; done)
                 | (rw [if_neg (fun z => c19 (by rw [z]; rfl)), if_neg (fun z => c37 (by rw [z]; rfl))]; done))
            | (rw [if_neg n1, if_pos (by first | exact (nI_eq (b := 12) (by omega) (by omega)).mp c70)]
               first
                 | (rw [if_pos (by omega), mSpan_mk (by omega) (by omega) (by omega) (by omega)]; done)
                 | (rw [if_neg (by omega), if_pos (by omega), mSpan_mk (by omega) (by omega) (by omega) (by omega)]; done)
                 | (rw [if_neg (by omega), if_neg (by omega), if_pos (by omega), mSpan_mk (by omega) (by omega) (by omega) (by omega)]; done)
                 | (rw [if_neg (by omega), if_neg (by omega), if_neg (by omega)]; done))
            | (rw [if_neg n1, if_neg (fun z => c151 (by rw [z]; rfl)), if_neg (by omega)]; done)
        · refine gi_aload_n (q := 164) (i := 3) C (dm_Re_combine 81 rfl) rfl rfl rfl ?_
          refine gi_get (q := 167) C (dm_Re_combine 82 rfl) rfl fl_Re_21 (by repeat (first | exact gi_up_self _ _ _ | assumption | rw [gi_up_ne (by omega)])) rfl ?_
          refine gi_lconst (q := 168) (v := 0) C (dm_Re_combine 83 rfl) rfl (by decide) ?_
          refine gi_lcmp (q := 169) C (dm_Re_combine 84 rfl) rfl ?_
          refine gi_if_lt (q := 172) (tgt := 250) C (dm_Re_combine 85 rfl) rfl (by decide) (fun c169 => ?_) (fun c169 => ?_)
          · refine gi_aload (q := 252) C (dm_Re_combine 124 rfl) rfl rfl ?_
            refine gi_callv 0 (q := 255) C (dm_Re_combine 125 rfl) rfl my_Va_beAll lk_Re_63 im_Va_beAll rfl (c_Va_beAll ao v hc) hc rfl rfl ⟨(Nat.le_of_ble_eq_true rfl), (Nat.le_of_ble_eq_true rfl)⟩ (Nat.le_of_ble_eq_true rfl) ⟨(Nat.le_of_ble_eq_true rfl), (Nat.le_of_ble_eq_true rfl)⟩ (fun r252 n252 h252 e252 => ?_)
            obtain ⟨rfl, rfl, rfl⟩ := e252
            refine gi_vret C hr (dm_Re_combine 126 rfl) ?_
            (try simp (disch := omega) only [lg_cmp_ge, lg_cmp_le, lg_cmp_gt, lg_cmp_lt, lg_cmp_eq, eL_0, eL_1, eL_m1, eL_LO, eL_HI, eL_W, eL_add, eL_sub, eL_mul, eL_neg, eL_lt, eL_le, eL_eq, eL_remN, eL_mod0, ne_eq, Int64.not_lt, Int64.not_le] at c4)
            (try simp (disch := omega) only [lg_cmp_ge, lg_cmp_le, lg_cmp_gt, lg_cmp_lt, lg_cmp_eq, eL_0, eL_1, eL_m1, eL_LO, eL_HI, eL_W, eL_add, eL_sub, eL_mul, eL_neg, eL_lt, eL_le, eL_eq, eL_remN, eL_mod0, ne_eq, Int64.not_lt, Int64.not_le] at c70)
            (try simp (disch := omega) only [lg_cmp_ge, lg_cmp_le, lg_cmp_gt, lg_cmp_lt, lg_cmp_eq, eL_0, eL_1, eL_m1, eL_LO, eL_HI, eL_W, eL_add, eL_sub, eL_mul, eL_neg, eL_lt, eL_le, eL_eq, eL_remN, eL_mod0, ne_eq, Int64.not_lt, Int64.not_le] at c151)
            (try simp (disch := omega) only [lg_cmp_ge, lg_cmp_le, lg_cmp_gt, lg_cmp_lt, lg_cmp_eq, eL_0, eL_1, eL_m1, eL_LO, eL_HI, eL_W, eL_add, eL_sub, eL_mul, eL_neg, eL_lt, eL_le, eL_eq, eL_remN, eL_mod0, ne_eq, Int64.not_lt, Int64.not_le] at c160)
            (try simp (disch := omega) only [lg_cmp_ge, lg_cmp_le, lg_cmp_gt, lg_cmp_lt, lg_cmp_eq, eL_0, eL_1, eL_m1, eL_LO, eL_HI, eL_W, eL_add, eL_sub, eL_mul, eL_neg, eL_lt, eL_le, eL_eq, eL_remN, eL_mod0, ne_eq, Int64.not_lt, Int64.not_le] at c169)
            refine ⟨rfl, rfl, ?_⟩
            unfold logS
            first
              | exact absurd c151 c70
              | (rw [if_pos ⟨e1, e2⟩]
                 unfold bitS
                 first
                   | (rw [if_pos (by first | exact (nI_eq (b := 12) (by omega) (by omega)).mp c19)]; done)
                   | (rw [if_neg (fun z => c19 (by rw [z]; rfl)), if_pos (by first | exact (nI_eq (b := 13) (by omega) (by omega)).mp c37)]; done)
                   | (rw [if_neg (fun z => c19 (by rw [z]; rfl)), if_neg (fun z => c37 (by rw [z]; rfl))]; done))
              | (rw [if_neg n1, if_pos (by first | exact (nI_eq (b := 12) (by omega) (by omega)).mp c70)]
                 first
                   | (rw [if_pos (by omega), mSpan_mk (by omega) (by omega) (by omega) (by omega)]; done)
                   | (rw [if_neg (by omega), if_pos (by omega), mSpan_mk (by omega) (by omega) (by omega) (by omega)]; done)
                   | (rw [if_neg (by omega), if_neg (by omega), if_pos (by omega), mSpan_mk (by omega) (by omega) (by omega) (by omega)]; done)
                   | (rw [if_neg (by omega), if_neg (by omega), if_neg (by omega)]; done))
              | (rw [if_neg n1, if_neg (fun z => c151 (by rw [z]; rfl)), if_neg (by omega)]; done)
          · have n12 : ¬ op = 12 := fun z => c151 (by rw [z]; rfl)
            refine gi_lconst (q := 173) (v := 0) C (dm_Re_combine 86 rfl) rfl (by decide) ?_
            refine gi_lstore (q := 175) C (dm_Re_combine 87 rfl) rfl (Nat.le_of_ble_eq_true rfl) ?_
            refine gi_iconst (q := 176) (v := 0) C (dm_Re_combine 88 rfl) rfl (by decide) ?_
            refine gi_istore (q := 178) C (dm_Re_combine 89 rfl) rfl (Nat.le_of_ble_eq_true rfl) ?_
            (try simp (disch := omega) only [lg_cmp_ge, lg_cmp_le, lg_cmp_gt, lg_cmp_lt, lg_cmp_eq, eL_0, eL_1, eL_m1, eL_LO, eL_HI, eL_W, eL_add, eL_sub, eL_mul, eL_neg, eL_lt, eL_le, eL_eq, eL_remN, eL_mod0, ne_eq, Int64.not_lt, Int64.not_le] at c4)
            (try simp (disch := omega) only [lg_cmp_ge, lg_cmp_le, lg_cmp_gt, lg_cmp_lt, lg_cmp_eq, eL_0, eL_1, eL_m1, eL_LO, eL_HI, eL_W, eL_add, eL_sub, eL_mul, eL_neg, eL_lt, eL_le, eL_eq, eL_remN, eL_mod0, ne_eq, Int64.not_lt, Int64.not_le] at c70)
            (try simp (disch := omega) only [lg_cmp_ge, lg_cmp_le, lg_cmp_gt, lg_cmp_lt, lg_cmp_eq, eL_0, eL_1, eL_m1, eL_LO, eL_HI, eL_W, eL_add, eL_sub, eL_mul, eL_neg, eL_lt, eL_le, eL_eq, eL_remN, eL_mod0, ne_eq, Int64.not_lt, Int64.not_le] at c151)
            (try simp (disch := omega) only [lg_cmp_ge, lg_cmp_le, lg_cmp_gt, lg_cmp_lt, lg_cmp_eq, eL_0, eL_1, eL_m1, eL_LO, eL_HI, eL_W, eL_add, eL_sub, eL_mul, eL_neg, eL_lt, eL_le, eL_eq, eL_remN, eL_mod0, ne_eq, Int64.not_lt, Int64.not_le] at c160)
            (try simp (disch := omega) only [lg_cmp_ge, lg_cmp_le, lg_cmp_gt, lg_cmp_lt, lg_cmp_eq, eL_0, eL_1, eL_m1, eL_LO, eL_HI, eL_W, eL_add, eL_sub, eL_mul, eL_neg, eL_lt, eL_le, eL_eq, eL_remN, eL_mod0, ne_eq, Int64.not_lt, Int64.not_le] at c169)
            refine gi_while (σ := Nat × Int) (fun p => 31 - p.1) (fun p => [(7, .int (nI p.1)), (5, .long (eL p.2)), (0, .ref r), (1, .int (nI op)), (2, .ref ax), (3, .ref ay), (4, .ref ao)]) (fun _ => n) (fun _ => 0) (fun _ => 0) (fun p y' => p.1 ≤ 31 ∧ 0 ≤ p.2 ∧ p.2 ≤ 4294967296 ∧ topF 31 0 (max x.2.1 y.2.1) = topF (31 - p.1) p.2 (max x.2.1 y.2.1) ∧ y' = h) (0, 0) ⟨by decide, by decide, by decide, rfl, rfl⟩ ?_ (List.forall_mem_cons.mpr ⟨rfl, List.forall_mem_cons.mpr ⟨rfl, List.forall_mem_cons.mpr ⟨rfl, List.forall_mem_cons.mpr ⟨rfl, List.forall_mem_cons.mpr ⟨rfl, List.forall_mem_cons.mpr ⟨rfl, List.forall_mem_cons.mpr ⟨rfl, fun _ h => absurd h List.not_mem_nil⟩⟩⟩⟩⟩⟩⟩) rfl rfl rfl
            rintro ⟨i, tt⟩ y' ⟨hi, t1, t2, hT, rfl⟩ ih
            try dsimp only at *
            refine gi_iload (q := 180) C (dm_Re_combine 90 rfl) rfl rfl ?_
            refine gi_bipush (q := 182) (v := 31) C (dm_Re_combine 91 rfl) rfl (by decide) ?_
            refine gi_icmp_ge (q := 185) (tgt := 218) C (dm_Re_combine 92 rfl) rfl (by decide) (fun c182 => ?_) (fun c182 => ?_)
            · (try simp (disch := omega) only [lg_cmp_ge, lg_cmp_le, lg_cmp_gt, lg_cmp_lt, lg_cmp_eq, eL_0, eL_1, eL_m1, eL_LO, eL_HI, eL_W, eL_add, eL_sub, eL_mul, eL_neg, eL_lt, eL_le, eL_eq, eL_remN, eL_mod0, ne_eq, Int64.not_lt, Int64.not_le] at c182)
              have tf : topF 31 0 (max x.2.1 y.2.1) = tt := by
                rw [hT]
                first
                  | (have hik : i = 31 := by
                       rcases Nat.lt_or_ge i 31 with q | q
                       · exact absurd c182 (nI_ge (b := 31) q (by omega))
                       · omega
                     rw [hik]
                     rfl)
                  | (obtain ⟨j, hj⟩ : ∃ j, 31 - i = j + 1 := ⟨31 - (i + 1), by omega⟩
                     rw [hj]
                     show (if tt < max x.2.1 y.2.1 then topF j (2 * tt + 1) (max x.2.1 y.2.1) else tt) = _
                     rw [if_neg (by omega)])
              refine gi_aload (q := 220) C (dm_Re_combine 109 rfl) rfl rfl ?_
              refine gi_iload_n (q := 221) (i := 1) C (dm_Re_combine 110 rfl) rfl rfl rfl ?_
              refine gi_bipush (q := 223) (v := 13) C (dm_Re_combine 111 rfl) rfl (by decide) ?_
              refine gi_icmp_ne (q := 226) (tgt := 240) C (dm_Re_combine 112 rfl) rfl (by decide) (fun c223 => ?_) (fun c223 => ?_)
              · refine gi_lconst (q := 241) (v := 0) C (dm_Re_combine 119 rfl) rfl (by decide) ?_
                refine gi_lload (q := 243) C (dm_Re_combine 120 rfl) rfl rfl ?_
                refine gi_lconst (q := 244) (v := 1) C (dm_Re_combine 121 rfl) rfl (by decide) ?_
                try rw [eL_0]
                rw [eL_1]
                refine gi_callv 3 (q := 247) C (dm_Re_combine 122 rfl) rfl my_Va_beSpan lk_Re_74 im_Va_beSpan rfl (c_Va_beSpan ao v _ _ _ hc) hc rfl rfl ⟨(Nat.le_of_ble_eq_true rfl), (Nat.le_of_ble_eq_true rfl)⟩ (Nat.le_of_ble_eq_true rfl) ⟨(Nat.le_of_ble_eq_true rfl), (Nat.le_of_ble_eq_true rfl)⟩ (fun r244 n244 h244 e244 => ?_)
                obtain ⟨rfl, rfl, rfl⟩ := e244
                refine gi_goto (tgt := 255) C (dm_Re_combine 123 rfl) (by decide) ?_
                refine gi_vret C hr (dm_Re_combine 126 rfl) ?_
                refine ⟨rfl, rfl, ?_⟩
                unfold logS
                rw [if_neg n1, if_neg n12, if_pos (by omega), tf]
                first
                  | (rw [if_pos (by first | exact (nI_eq (b := 13) (by omega) (by omega)).mp c223), mSpan_mk (by omega) (by omega) (by omega) (by omega)]; done)
                  | (rw [if_neg (fun z => c223 (by rw [z]; rfl)), mSpan_mk (by omega) (by omega) (by omega) (by omega)]; done)
              · refine gi_aload_n (q := 227) (i := 2) C (dm_Re_combine 113 rfl) rfl rfl rfl ?_
                refine gi_get (q := 230) C (dm_Re_combine 114 rfl) rfl fl_Re_21 (by repeat (first | exact gi_up_self _ _ _ | assumption | rw [gi_up_ne (by omega)])) rfl ?_
                refine gi_aload_n (q := 231) (i := 3) C (dm_Re_combine 115 rfl) rfl rfl rfl ?_
                refine gi_get (q := 234) C (dm_Re_combine 116 rfl) rfl fl_Re_21 (by repeat (first | exact gi_up_self _ _ _ | assumption | rw [gi_up_ne (by omega)])) rfl ?_
                refine gi_calls 2 (q := 237) C (dm_Re_combine 117 rfl) rfl my_Mt_max_0 lk_Re_80 sm_Mt_max_0 (c_Mt_max_0 x.1 y.1 (by omega) (by omega) (by omega) (by omega)) rfl rfl ⟨(Nat.le_of_ble_eq_true rfl), (Nat.le_of_ble_eq_true rfl)⟩ (Nat.le_of_ble_eq_true rfl) ⟨(Nat.le_of_ble_eq_true rfl), (Nat.le_of_ble_eq_true rfl)⟩ (fun r234 n234 h234 e234 => ?_)
                obtain ⟨rfl, rfl, rfl⟩ := e234
                refine gi_goto (tgt := 241) C (dm_Re_combine 118 rfl) (by decide) ?_
                refine gi_lload (q := 243) C (dm_Re_combine 120 rfl) rfl rfl ?_
                refine gi_lconst (q := 244) (v := 1) C (dm_Re_combine 121 rfl) rfl (by decide) ?_
                try rw [eL_0]
                rw [eL_1]
                refine gi_callv 3 (q := 247) C (dm_Re_combine 122 rfl) rfl my_Va_beSpan lk_Re_74 im_Va_beSpan rfl (c_Va_beSpan ao v _ _ _ hc) hc rfl rfl ⟨(Nat.le_of_ble_eq_true rfl), (Nat.le_of_ble_eq_true rfl)⟩ (Nat.le_of_ble_eq_true rfl) ⟨(Nat.le_of_ble_eq_true rfl), (Nat.le_of_ble_eq_true rfl)⟩ (fun r244 n244 h244 e244 => ?_)
                obtain ⟨rfl, rfl, rfl⟩ := e244
                refine gi_goto (tgt := 255) C (dm_Re_combine 123 rfl) (by decide) ?_
                refine gi_vret C hr (dm_Re_combine 126 rfl) ?_
                refine ⟨rfl, rfl, ?_⟩
                unfold logS
                rw [if_neg n1, if_neg n12, if_pos (by omega), tf]
                first
                  | (rw [if_pos (by first | exact (nI_eq (b := 13) (by omega) (by omega)).mp c223), mSpan_mk (by omega) (by omega) (by omega) (by omega)]; done)
                  | (rw [if_neg (fun z => c223 (by rw [z]; rfl)), mSpan_mk (by omega) (by omega) (by omega) (by omega)]; done)
            · have hlt : i < 31 := by
                rcases Nat.lt_or_ge i 31 with q | q
                · exact q
                · exact absurd (nI_le (a := 31) q (by omega)) c182
              refine gi_lload (q := 187) C (dm_Re_combine 93 rfl) rfl rfl ?_
              refine gi_aload_n (q := 188) (i := 2) C (dm_Re_combine 94 rfl) rfl rfl rfl ?_
              refine gi_get (q := 191) C (dm_Re_combine 95 rfl) rfl fl_Re_25 (by repeat (first | exact gi_up_self _ _ _ | assumption | rw [gi_up_ne (by omega)])) rfl ?_
              refine gi_aload_n (q := 192) (i := 3) C (dm_Re_combine 96 rfl) rfl rfl rfl ?_
              refine gi_get (q := 195) C (dm_Re_combine 97 rfl) rfl fl_Re_25 (by repeat (first | exact gi_up_self _ _ _ | assumption | rw [gi_up_ne (by omega)])) rfl ?_
              refine gi_calls 2 (q := 198) C (dm_Re_combine 98 rfl) rfl my_Mt_max_0 lk_Re_80 sm_Mt_max_0 (c_Mt_max_0 x.2.1 y.2.1 (by omega) (by omega) (by omega) (by omega)) rfl rfl ⟨(Nat.le_of_ble_eq_true rfl), (Nat.le_of_ble_eq_true rfl)⟩ (Nat.le_of_ble_eq_true rfl) ⟨(Nat.le_of_ble_eq_true rfl), (Nat.le_of_ble_eq_true rfl)⟩ (fun r195 n195 h195 e195 => ?_)
              obtain ⟨rfl, rfl, rfl⟩ := e195
              refine gi_lcmp (q := 199) C (dm_Re_combine 99 rfl) rfl ?_
              refine gi_if_ge (q := 202) (tgt := 218) C (dm_Re_combine 100 rfl) rfl (by decide) (fun c199 => ?_) (fun c199 => ?_)
              · (try simp (disch := omega) only [lg_cmp_ge, lg_cmp_le, lg_cmp_gt, lg_cmp_lt, lg_cmp_eq, eL_0, eL_1, eL_m1, eL_LO, eL_HI, eL_W, eL_add, eL_sub, eL_mul, eL_neg, eL_lt, eL_le, eL_eq, eL_remN, eL_mod0, ne_eq, Int64.not_lt, Int64.not_le] at c182)
                (try simp (disch := omega) only [lg_cmp_ge, lg_cmp_le, lg_cmp_gt, lg_cmp_lt, lg_cmp_eq, eL_0, eL_1, eL_m1, eL_LO, eL_HI, eL_W, eL_add, eL_sub, eL_mul, eL_neg, eL_lt, eL_le, eL_eq, eL_remN, eL_mod0, ne_eq, Int64.not_lt, Int64.not_le] at c199)
                have tf : topF 31 0 (max x.2.1 y.2.1) = tt := by
                  rw [hT]
                  first
                    | (have hik : i = 31 := by
                         rcases Nat.lt_or_ge i 31 with q | q
                         · exact absurd c182 (nI_ge (b := 31) q (by omega))
                         · omega
                       rw [hik]
                       rfl)
                    | (obtain ⟨j, hj⟩ : ∃ j, 31 - i = j + 1 := ⟨31 - (i + 1), by omega⟩
                       rw [hj]
                       show (if tt < max x.2.1 y.2.1 then topF j (2 * tt + 1) (max x.2.1 y.2.1) else tt) = _
                       rw [if_neg (by omega)])
                refine gi_aload (q := 220) C (dm_Re_combine 109 rfl) rfl rfl ?_
                refine gi_iload_n (q := 221) (i := 1) C (dm_Re_combine 110 rfl) rfl rfl rfl ?_
                refine gi_bipush (q := 223) (v := 13) C (dm_Re_combine 111 rfl) rfl (by decide) ?_
                refine gi_icmp_ne (q := 226) (tgt := 240) C (dm_Re_combine 112 rfl) rfl (by decide) (fun c223 => ?_) (fun c223 => ?_)
                · refine gi_lconst (q := 241) (v := 0) C (dm_Re_combine 119 rfl) rfl (by decide) ?_
                  refine gi_lload (q := 243) C (dm_Re_combine 120 rfl) rfl rfl ?_
                  refine gi_lconst (q := 244) (v := 1) C (dm_Re_combine 121 rfl) rfl (by decide) ?_
                  try rw [eL_0]
                  rw [eL_1]
                  refine gi_callv 3 (q := 247) C (dm_Re_combine 122 rfl) rfl my_Va_beSpan lk_Re_74 im_Va_beSpan rfl (c_Va_beSpan ao v _ _ _ hc) hc rfl rfl ⟨(Nat.le_of_ble_eq_true rfl), (Nat.le_of_ble_eq_true rfl)⟩ (Nat.le_of_ble_eq_true rfl) ⟨(Nat.le_of_ble_eq_true rfl), (Nat.le_of_ble_eq_true rfl)⟩ (fun r244 n244 h244 e244 => ?_)
                  obtain ⟨rfl, rfl, rfl⟩ := e244
                  refine gi_goto (tgt := 255) C (dm_Re_combine 123 rfl) (by decide) ?_
                  refine gi_vret C hr (dm_Re_combine 126 rfl) ?_
                  refine ⟨rfl, rfl, ?_⟩
                  unfold logS
                  rw [if_neg n1, if_neg n12, if_pos (by omega), tf]
                  first
                    | (rw [if_pos (by first | exact (nI_eq (b := 13) (by omega) (by omega)).mp c223), mSpan_mk (by omega) (by omega) (by omega) (by omega)]; done)
                    | (rw [if_neg (fun z => c223 (by rw [z]; rfl)), mSpan_mk (by omega) (by omega) (by omega) (by omega)]; done)
                · refine gi_aload_n (q := 227) (i := 2) C (dm_Re_combine 113 rfl) rfl rfl rfl ?_
                  refine gi_get (q := 230) C (dm_Re_combine 114 rfl) rfl fl_Re_21 (by repeat (first | exact gi_up_self _ _ _ | assumption | rw [gi_up_ne (by omega)])) rfl ?_
                  refine gi_aload_n (q := 231) (i := 3) C (dm_Re_combine 115 rfl) rfl rfl rfl ?_
                  refine gi_get (q := 234) C (dm_Re_combine 116 rfl) rfl fl_Re_21 (by repeat (first | exact gi_up_self _ _ _ | assumption | rw [gi_up_ne (by omega)])) rfl ?_
                  refine gi_calls 2 (q := 237) C (dm_Re_combine 117 rfl) rfl my_Mt_max_0 lk_Re_80 sm_Mt_max_0 (c_Mt_max_0 x.1 y.1 (by omega) (by omega) (by omega) (by omega)) rfl rfl ⟨(Nat.le_of_ble_eq_true rfl), (Nat.le_of_ble_eq_true rfl)⟩ (Nat.le_of_ble_eq_true rfl) ⟨(Nat.le_of_ble_eq_true rfl), (Nat.le_of_ble_eq_true rfl)⟩ (fun r234 n234 h234 e234 => ?_)
                  obtain ⟨rfl, rfl, rfl⟩ := e234
                  refine gi_goto (tgt := 241) C (dm_Re_combine 118 rfl) (by decide) ?_
                  refine gi_lload (q := 243) C (dm_Re_combine 120 rfl) rfl rfl ?_
                  refine gi_lconst (q := 244) (v := 1) C (dm_Re_combine 121 rfl) rfl (by decide) ?_
                  try rw [eL_0]
                  rw [eL_1]
                  refine gi_callv 3 (q := 247) C (dm_Re_combine 122 rfl) rfl my_Va_beSpan lk_Re_74 im_Va_beSpan rfl (c_Va_beSpan ao v _ _ _ hc) hc rfl rfl ⟨(Nat.le_of_ble_eq_true rfl), (Nat.le_of_ble_eq_true rfl)⟩ (Nat.le_of_ble_eq_true rfl) ⟨(Nat.le_of_ble_eq_true rfl), (Nat.le_of_ble_eq_true rfl)⟩ (fun r244 n244 h244 e244 => ?_)
                  obtain ⟨rfl, rfl, rfl⟩ := e244
                  refine gi_goto (tgt := 255) C (dm_Re_combine 123 rfl) (by decide) ?_
                  refine gi_vret C hr (dm_Re_combine 126 rfl) ?_
                  refine ⟨rfl, rfl, ?_⟩
                  unfold logS
                  rw [if_neg n1, if_neg n12, if_pos (by omega), tf]
                  first
                    | (rw [if_pos (by first | exact (nI_eq (b := 13) (by omega) (by omega)).mp c223), mSpan_mk (by omega) (by omega) (by omega) (by omega)]; done)
                    | (rw [if_neg (fun z => c223 (by rw [z]; rfl)), mSpan_mk (by omega) (by omega) (by omega) (by omega)]; done)
              · refine gi_lload (q := 204) C (dm_Re_combine 101 rfl) rfl rfl ?_
                
                refine gi_ldc2 (q := 207) C (dm_Re_combine 102 rfl) rfl kc_Re_130 ?_
                
                refine gi_lmul (q := 208) C (dm_Re_combine 103 rfl) rfl ?_
                rw [eL_2, eL_mul]
                refine gi_lconst (q := 209) (v := 1) C (dm_Re_combine 104 rfl) rfl (by decide) ?_
                refine gi_ladd (q := 210) C (dm_Re_combine 105 rfl) rfl ?_
                rw [eL_1, eL_add]
                refine gi_lstore (q := 212) C (dm_Re_combine 106 rfl) rfl (Nat.le_of_ble_eq_true rfl) ?_
                (try simp (disch := omega) only [lg_cmp_ge, lg_cmp_le, lg_cmp_gt, lg_cmp_lt, lg_cmp_eq, eL_0, eL_1, eL_m1, eL_LO, eL_HI, eL_W, eL_add, eL_sub, eL_mul, eL_neg, eL_lt, eL_le, eL_eq, eL_remN, eL_mod0, ne_eq, Int64.not_lt, Int64.not_le] at c182)
                (try simp (disch := omega) only [lg_cmp_ge, lg_cmp_le, lg_cmp_gt, lg_cmp_lt, lg_cmp_eq, eL_0, eL_1, eL_m1, eL_LO, eL_HI, eL_W, eL_add, eL_sub, eL_mul, eL_neg, eL_lt, eL_le, eL_eq, eL_remN, eL_mod0, ne_eq, Int64.not_lt, Int64.not_le] at c199)
                have t3 : topF (31 - i) tt (max x.2.1 y.2.1) = topF (31 - (i + 1)) (tt * 2 + 1) (max x.2.1 y.2.1) := by
                  obtain ⟨j, hj⟩ : ∃ j, 31 - i = j + 1 := ⟨31 - (i + 1), by omega⟩
                  rw [show 31 - (i + 1) = j by omega, hj]
                  show (if tt < max x.2.1 y.2.1 then topF j (2 * tt + 1) (max x.2.1 y.2.1) else tt) = _
                  rw [if_pos (by omega), Int.mul_comm]
                refine gi_iinc (q := 215) (v := 1) C (dm_Re_combine 107 rfl) rfl rfl (by decide) (Nat.le_of_ble_eq_true rfl) ?_
                refine gi_goto (tgt := 178) C (dm_Re_combine 108 rfl) (by decide) ?_
                refine gi_close (ih (i + 1, tt * 2 + 1) _ ⟨hlt, by simp only; omega, by simp only; omega, by rw [hT, t3], rfl⟩ (by simp only; omega)) (List.forall_mem_cons.mpr ⟨(by simp [gi_look, nI_1]), List.forall_mem_cons.mpr ⟨rfl, List.forall_mem_cons.mpr ⟨rfl, List.forall_mem_cons.mpr ⟨rfl, List.forall_mem_cons.mpr ⟨rfl, List.forall_mem_cons.mpr ⟨rfl, List.forall_mem_cons.mpr ⟨rfl, fun _ h => absurd h List.not_mem_nil⟩⟩⟩⟩⟩⟩⟩) rfl rfl rfl
    · refine gi_aload_n (q := 74) (i := 2) C (dm_Re_combine 35 rfl) rfl rfl rfl ?_
      refine gi_get (q := 77) C (dm_Re_combine 36 rfl) rfl fl_Re_21 (by repeat (first | exact gi_up_self _ _ _ | assumption | rw [gi_up_ne (by omega)])) rfl ?_
      refine gi_lconst (q := 78) (v := 0) C (dm_Re_combine 37 rfl) rfl (by decide) ?_
      refine gi_lcmp (q := 79) C (dm_Re_combine 38 rfl) rfl ?_
      refine gi_if_ge (q := 82) (tgt := 91) C (dm_Re_combine 39 rfl) rfl (by decide) (fun c79 => ?_) (fun c79 => ?_)
      · refine gi_aload_n (q := 92) (i := 2) C (dm_Re_combine 45 rfl) rfl rfl rfl ?_
        refine gi_get (q := 95) C (dm_Re_combine 46 rfl) rfl fl_Re_21 (by repeat (first | exact gi_up_self _ _ _ | assumption | rw [gi_up_ne (by omega)])) rfl ?_
        refine gi_lconst (q := 96) (v := 0) C (dm_Re_combine 47 rfl) rfl (by decide) ?_
        refine gi_lcmp (q := 97) C (dm_Re_combine 48 rfl) rfl ?_
        refine gi_if_ge (q := 100) (tgt := 107) C (dm_Re_combine 49 rfl) rfl (by decide) (fun c97 => ?_) (fun c97 => ?_)
        · refine gi_aload_n (q := 108) (i := 3) C (dm_Re_combine 53 rfl) rfl rfl rfl ?_
          refine gi_get (q := 111) C (dm_Re_combine 54 rfl) rfl fl_Re_21 (by repeat (first | exact gi_up_self _ _ _ | assumption | rw [gi_up_ne (by omega)])) rfl ?_
          refine gi_lconst (q := 112) (v := 0) C (dm_Re_combine 55 rfl) rfl (by decide) ?_
          refine gi_lcmp (q := 113) C (dm_Re_combine 56 rfl) rfl ?_
          refine gi_if_ge (q := 116) (tgt := 123) C (dm_Re_combine 57 rfl) rfl (by decide) (fun c113 => ?_) (fun c113 => ?_)
          · refine gi_aload_n (q := 124) (i := 2) C (dm_Re_combine 61 rfl) rfl rfl rfl ?_
            refine gi_get (q := 127) C (dm_Re_combine 62 rfl) rfl fl_Re_25 (by repeat (first | exact gi_up_self _ _ _ | assumption | rw [gi_up_ne (by omega)])) rfl ?_
            refine gi_aload_n (q := 128) (i := 3) C (dm_Re_combine 63 rfl) rfl rfl rfl ?_
            refine gi_get (q := 131) C (dm_Re_combine 64 rfl) rfl fl_Re_25 (by repeat (first | exact gi_up_self _ _ _ | assumption | rw [gi_up_ne (by omega)])) rfl ?_
            refine gi_calls 2 (q := 134) C (dm_Re_combine 65 rfl) rfl my_Mt_min_1 lk_Re_94 sm_Mt_min_1 (c_Mt_min_1 x.2.1 y.2.1 (by omega) (by omega) (by omega) (by omega)) rfl rfl ⟨(Nat.le_of_ble_eq_true rfl), (Nat.le_of_ble_eq_true rfl)⟩ (Nat.le_of_ble_eq_true rfl) ⟨(Nat.le_of_ble_eq_true rfl), (Nat.le_of_ble_eq_true rfl)⟩ (fun r131 n131 h131 e131 => ?_)
            obtain ⟨rfl, rfl, rfl⟩ := e131
            refine gi_lstore (q := 136) C (dm_Re_combine 66 rfl) rfl (Nat.le_of_ble_eq_true rfl) ?_
            refine gi_aload (q := 138) C (dm_Re_combine 67 rfl) rfl rfl ?_
            refine gi_lconst (q := 139) (v := 0) C (dm_Re_combine 68 rfl) rfl (by decide) ?_
            refine gi_lload (q := 141) C (dm_Re_combine 69 rfl) rfl rfl ?_
            refine gi_lconst (q := 142) (v := 1) C (dm_Re_combine 70 rfl) rfl (by decide) ?_
            rw [eL_0, eL_1]
            refine gi_callv 3 (q := 145) C (dm_Re_combine 71 rfl) rfl my_Va_beSpan lk_Re_74 im_Va_beSpan rfl (c_Va_beSpan ao v _ _ _ hc) hc rfl rfl ⟨(Nat.le_of_ble_eq_true rfl), (Nat.le_of_ble_eq_true rfl)⟩ (Nat.le_of_ble_eq_true rfl) ⟨(Nat.le_of_ble_eq_true rfl), (Nat.le_of_ble_eq_true rfl)⟩ (fun r142 n142 h142 e142 => ?_)
            obtain ⟨rfl, rfl, rfl⟩ := e142
            refine gi_goto (tgt := 255) C (dm_Re_combine 72 rfl) (by decide) ?_
            refine gi_vret C hr (dm_Re_combine 126 rfl) ?_
            (try simp (disch := omega) only [lg_cmp_ge, lg_cmp_le, lg_cmp_gt, lg_cmp_lt, lg_cmp_eq, eL_0, eL_1, eL_m1, eL_LO, eL_HI, eL_W, eL_add, eL_sub, eL_mul, eL_neg, eL_lt, eL_le, eL_eq, eL_remN, eL_mod0, ne_eq, Int64.not_lt, Int64.not_le] at c4)
            (try simp (disch := omega) only [lg_cmp_ge, lg_cmp_le, lg_cmp_gt, lg_cmp_lt, lg_cmp_eq, eL_0, eL_1, eL_m1, eL_LO, eL_HI, eL_W, eL_add, eL_sub, eL_mul, eL_neg, eL_lt, eL_le, eL_eq, eL_remN, eL_mod0, ne_eq, Int64.not_lt, Int64.not_le] at c70)
            (try simp (disch := omega) only [lg_cmp_ge, lg_cmp_le, lg_cmp_gt, lg_cmp_lt, lg_cmp_eq, eL_0, eL_1, eL_m1, eL_LO, eL_HI, eL_W, eL_add, eL_sub, eL_mul, eL_neg, eL_lt, eL_le, eL_eq, eL_remN, eL_mod0, ne_eq, Int64.not_lt, Int64.not_le] at c79)
            (try simp (disch := omega) only [lg_cmp_ge, lg_cmp_le, lg_cmp_gt, lg_cmp_lt, lg_cmp_eq, eL_0, eL_1, eL_m1, eL_LO, eL_HI, eL_W, eL_add, eL_sub, eL_mul, eL_neg, eL_lt, eL_le, eL_eq, eL_remN, eL_mod0, ne_eq, Int64.not_lt, Int64.not_le] at c97)
            (try simp (disch := omega) only [lg_cmp_ge, lg_cmp_le, lg_cmp_gt, lg_cmp_lt, lg_cmp_eq, eL_0, eL_1, eL_m1, eL_LO, eL_HI, eL_W, eL_add, eL_sub, eL_mul, eL_neg, eL_lt, eL_le, eL_eq, eL_remN, eL_mod0, ne_eq, Int64.not_lt, Int64.not_le] at c113)
            refine ⟨rfl, rfl, ?_⟩
            unfold logS
            first
              | exact absurd c151 c70
              | (rw [if_pos ⟨e1, e2⟩]
                 unfold bitS
                 first
                   | (rw [if_pos (by first | exact (nI_eq (b := 12) (by omega) (by omega)).mp c19)]; done)
                   | (rw [if_neg (fun z => c19 (by rw [z]; rfl)), if_pos (by first | exact (nI_eq (b := 13) (by omega) (by omega)).mp c37)]; done)
                   | (rw [if_neg (fun z => c19 (by rw [z]; rfl)), if_neg (fun z => c37 (by rw [z]; rfl))]; done))
              | (rw [if_neg n1, if_pos (by first | exact (nI_eq (b := 12) (by omega) (by omega)).mp c70)]
                 first
                   | (rw [if_pos (by omega), mSpan_mk (by omega) (by omega) (by omega) (by omega)]; done)
                   | (rw [if_neg (by omega), if_pos (by omega), mSpan_mk (by omega) (by omega) (by omega) (by omega)]; done)
                   | (rw [if_neg (by omega), if_neg (by omega), if_pos (by omega), mSpan_mk (by omega) (by omega) (by omega) (by omega)]; done)
                   | (rw [if_neg (by omega), if_neg (by omega), if_neg (by omega)]; done))
              | (rw [if_neg n1, if_neg (fun z => c151 (by rw [z]; rfl)), if_neg (by omega)]; done)
          · refine gi_aload_n (q := 117) (i := 2) C (dm_Re_combine 58 rfl) rfl rfl rfl ?_
            refine gi_get (q := 120) C (dm_Re_combine 59 rfl) rfl fl_Re_25 (by repeat (first | exact gi_up_self _ _ _ | assumption | rw [gi_up_ne (by omega)])) rfl ?_
            refine gi_goto (tgt := 134) C (dm_Re_combine 60 rfl) (by decide) ?_
            refine gi_lstore (q := 136) C (dm_Re_combine 66 rfl) rfl (Nat.le_of_ble_eq_true rfl) ?_
            refine gi_aload (q := 138) C (dm_Re_combine 67 rfl) rfl rfl ?_
            refine gi_lconst (q := 139) (v := 0) C (dm_Re_combine 68 rfl) rfl (by decide) ?_
            refine gi_lload (q := 141) C (dm_Re_combine 69 rfl) rfl rfl ?_
            refine gi_lconst (q := 142) (v := 1) C (dm_Re_combine 70 rfl) rfl (by decide) ?_
            rw [eL_0, eL_1]
            refine gi_callv 3 (q := 145) C (dm_Re_combine 71 rfl) rfl my_Va_beSpan lk_Re_74 im_Va_beSpan rfl (c_Va_beSpan ao v _ _ _ hc) hc rfl rfl ⟨(Nat.le_of_ble_eq_true rfl), (Nat.le_of_ble_eq_true rfl)⟩ (Nat.le_of_ble_eq_true rfl) ⟨(Nat.le_of_ble_eq_true rfl), (Nat.le_of_ble_eq_true rfl)⟩ (fun r142 n142 h142 e142 => ?_)
            obtain ⟨rfl, rfl, rfl⟩ := e142
            refine gi_goto (tgt := 255) C (dm_Re_combine 72 rfl) (by decide) ?_
            refine gi_vret C hr (dm_Re_combine 126 rfl) ?_
            (try simp (disch := omega) only [lg_cmp_ge, lg_cmp_le, lg_cmp_gt, lg_cmp_lt, lg_cmp_eq, eL_0, eL_1, eL_m1, eL_LO, eL_HI, eL_W, eL_add, eL_sub, eL_mul, eL_neg, eL_lt, eL_le, eL_eq, eL_remN, eL_mod0, ne_eq, Int64.not_lt, Int64.not_le] at c4)
            (try simp (disch := omega) only [lg_cmp_ge, lg_cmp_le, lg_cmp_gt, lg_cmp_lt, lg_cmp_eq, eL_0, eL_1, eL_m1, eL_LO, eL_HI, eL_W, eL_add, eL_sub, eL_mul, eL_neg, eL_lt, eL_le, eL_eq, eL_remN, eL_mod0, ne_eq, Int64.not_lt, Int64.not_le] at c70)
            (try simp (disch := omega) only [lg_cmp_ge, lg_cmp_le, lg_cmp_gt, lg_cmp_lt, lg_cmp_eq, eL_0, eL_1, eL_m1, eL_LO, eL_HI, eL_W, eL_add, eL_sub, eL_mul, eL_neg, eL_lt, eL_le, eL_eq, eL_remN, eL_mod0, ne_eq, Int64.not_lt, Int64.not_le] at c79)
            (try simp (disch := omega) only [lg_cmp_ge, lg_cmp_le, lg_cmp_gt, lg_cmp_lt, lg_cmp_eq, eL_0, eL_1, eL_m1, eL_LO, eL_HI, eL_W, eL_add, eL_sub, eL_mul, eL_neg, eL_lt, eL_le, eL_eq, eL_remN, eL_mod0, ne_eq, Int64.not_lt, Int64.not_le] at c97)
            (try simp (disch := omega) only [lg_cmp_ge, lg_cmp_le, lg_cmp_gt, lg_cmp_lt, lg_cmp_eq, eL_0, eL_1, eL_m1, eL_LO, eL_HI, eL_W, eL_add, eL_sub, eL_mul, eL_neg, eL_lt, eL_le, eL_eq, eL_remN, eL_mod0, ne_eq, Int64.not_lt, Int64.not_le] at c113)
            refine ⟨rfl, rfl, ?_⟩
            unfold logS
            first
              | exact absurd c151 c70
              | (rw [if_pos ⟨e1, e2⟩]
                 unfold bitS
                 first
                   | (rw [if_pos (by first | exact (nI_eq (b := 12) (by omega) (by omega)).mp c19)]; done)
                   | (rw [if_neg (fun z => c19 (by rw [z]; rfl)), if_pos (by first | exact (nI_eq (b := 13) (by omega) (by omega)).mp c37)]; done)
                   | (rw [if_neg (fun z => c19 (by rw [z]; rfl)), if_neg (fun z => c37 (by rw [z]; rfl))]; done))
              | (rw [if_neg n1, if_pos (by first | exact (nI_eq (b := 12) (by omega) (by omega)).mp c70)]
                 first
                   | (rw [if_pos (by omega), mSpan_mk (by omega) (by omega) (by omega) (by omega)]; done)
                   | (rw [if_neg (by omega), if_pos (by omega), mSpan_mk (by omega) (by omega) (by omega) (by omega)]; done)
                   | (rw [if_neg (by omega), if_neg (by omega), if_pos (by omega), mSpan_mk (by omega) (by omega) (by omega) (by omega)]; done)
                   | (rw [if_neg (by omega), if_neg (by omega), if_neg (by omega)]; done))
              | (rw [if_neg n1, if_neg (fun z => c151 (by rw [z]; rfl)), if_neg (by omega)]; done)
        · refine gi_aload_n (q := 101) (i := 3) C (dm_Re_combine 50 rfl) rfl rfl rfl ?_
          refine gi_get (q := 104) C (dm_Re_combine 51 rfl) rfl fl_Re_25 (by repeat (first | exact gi_up_self _ _ _ | assumption | rw [gi_up_ne (by omega)])) rfl ?_
          refine gi_goto (tgt := 134) C (dm_Re_combine 52 rfl) (by decide) ?_
          refine gi_lstore (q := 136) C (dm_Re_combine 66 rfl) rfl (Nat.le_of_ble_eq_true rfl) ?_
          refine gi_aload (q := 138) C (dm_Re_combine 67 rfl) rfl rfl ?_
          refine gi_lconst (q := 139) (v := 0) C (dm_Re_combine 68 rfl) rfl (by decide) ?_
          refine gi_lload (q := 141) C (dm_Re_combine 69 rfl) rfl rfl ?_
          refine gi_lconst (q := 142) (v := 1) C (dm_Re_combine 70 rfl) rfl (by decide) ?_
          rw [eL_0, eL_1]
          refine gi_callv 3 (q := 145) C (dm_Re_combine 71 rfl) rfl my_Va_beSpan lk_Re_74 im_Va_beSpan rfl (c_Va_beSpan ao v _ _ _ hc) hc rfl rfl ⟨(Nat.le_of_ble_eq_true rfl), (Nat.le_of_ble_eq_true rfl)⟩ (Nat.le_of_ble_eq_true rfl) ⟨(Nat.le_of_ble_eq_true rfl), (Nat.le_of_ble_eq_true rfl)⟩ (fun r142 n142 h142 e142 => ?_)
          obtain ⟨rfl, rfl, rfl⟩ := e142
          refine gi_goto (tgt := 255) C (dm_Re_combine 72 rfl) (by decide) ?_
          refine gi_vret C hr (dm_Re_combine 126 rfl) ?_
          (try simp (disch := omega) only [lg_cmp_ge, lg_cmp_le, lg_cmp_gt, lg_cmp_lt, lg_cmp_eq, eL_0, eL_1, eL_m1, eL_LO, eL_HI, eL_W, eL_add, eL_sub, eL_mul, eL_neg, eL_lt, eL_le, eL_eq, eL_remN, eL_mod0, ne_eq, Int64.not_lt, Int64.not_le] at c4)
          (try simp (disch := omega) only [lg_cmp_ge, lg_cmp_le, lg_cmp_gt, lg_cmp_lt, lg_cmp_eq, eL_0, eL_1, eL_m1, eL_LO, eL_HI, eL_W, eL_add, eL_sub, eL_mul, eL_neg, eL_lt, eL_le, eL_eq, eL_remN, eL_mod0, ne_eq, Int64.not_lt, Int64.not_le] at c70)
          (try simp (disch := omega) only [lg_cmp_ge, lg_cmp_le, lg_cmp_gt, lg_cmp_lt, lg_cmp_eq, eL_0, eL_1, eL_m1, eL_LO, eL_HI, eL_W, eL_add, eL_sub, eL_mul, eL_neg, eL_lt, eL_le, eL_eq, eL_remN, eL_mod0, ne_eq, Int64.not_lt, Int64.not_le] at c79)
          (try simp (disch := omega) only [lg_cmp_ge, lg_cmp_le, lg_cmp_gt, lg_cmp_lt, lg_cmp_eq, eL_0, eL_1, eL_m1, eL_LO, eL_HI, eL_W, eL_add, eL_sub, eL_mul, eL_neg, eL_lt, eL_le, eL_eq, eL_remN, eL_mod0, ne_eq, Int64.not_lt, Int64.not_le] at c97)
          refine ⟨rfl, rfl, ?_⟩
          unfold logS
          first
            | exact absurd c151 c70
            | (rw [if_pos ⟨e1, e2⟩]
               unfold bitS
               first
                 | (rw [if_pos (by first | exact (nI_eq (b := 12) (by omega) (by omega)).mp c19)]; done)
                 | (rw [if_neg (fun z => c19 (by rw [z]; rfl)), if_pos (by first | exact (nI_eq (b := 13) (by omega) (by omega)).mp c37)]; done)
                 | (rw [if_neg (fun z => c19 (by rw [z]; rfl)), if_neg (fun z => c37 (by rw [z]; rfl))]; done))
            | (rw [if_neg n1, if_pos (by first | exact (nI_eq (b := 12) (by omega) (by omega)).mp c70)]
               first
                 | (rw [if_pos (by omega), mSpan_mk (by omega) (by omega) (by omega) (by omega)]; done)
                 | (rw [if_neg (by omega), if_pos (by omega), mSpan_mk (by omega) (by omega) (by omega) (by omega)]; done)
                 | (rw [if_neg (by omega), if_neg (by omega), if_pos (by omega), mSpan_mk (by omega) (by omega) (by omega) (by omega)]; done)
                 | (rw [if_neg (by omega), if_neg (by omega), if_neg (by omega)]; done))
            | (rw [if_neg n1, if_neg (fun z => c151 (by rw [z]; rfl)), if_neg (by omega)]; done)
      · refine gi_aload_n (q := 83) (i := 3) C (dm_Re_combine 40 rfl) rfl rfl rfl ?_
        refine gi_get (q := 86) C (dm_Re_combine 41 rfl) rfl fl_Re_21 (by repeat (first | exact gi_up_self _ _ _ | assumption | rw [gi_up_ne (by omega)])) rfl ?_
        refine gi_lconst (q := 87) (v := 0) C (dm_Re_combine 42 rfl) rfl (by decide) ?_
        refine gi_lcmp (q := 88) C (dm_Re_combine 43 rfl) rfl ?_
        refine gi_if_lt (q := 91) (tgt := 148) C (dm_Re_combine 44 rfl) rfl (by decide) (fun c88 => ?_) (fun c88 => ?_)
        · refine gi_iload_n (q := 149) (i := 1) C (dm_Re_combine 73 rfl) rfl rfl rfl ?_
          refine gi_bipush (q := 151) (v := 12) C (dm_Re_combine 74 rfl) rfl (by decide) ?_
          refine gi_icmp_eq (q := 154) (tgt := 250) C (dm_Re_combine 75 rfl) rfl (by decide) (fun c151 => ?_) (fun c151 => ?_)
          · refine gi_aload (q := 252) C (dm_Re_combine 124 rfl) rfl rfl ?_
            refine gi_callv 0 (q := 255) C (dm_Re_combine 125 rfl) rfl my_Va_beAll lk_Re_63 im_Va_beAll rfl (c_Va_beAll ao v hc) hc rfl rfl ⟨(Nat.le_of_ble_eq_true rfl), (Nat.le_of_ble_eq_true rfl)⟩ (Nat.le_of_ble_eq_true rfl) ⟨(Nat.le_of_ble_eq_true rfl), (Nat.le_of_ble_eq_true rfl)⟩ (fun r252 n252 h252 e252 => ?_)
            obtain ⟨rfl, rfl, rfl⟩ := e252
            refine gi_vret C hr (dm_Re_combine 126 rfl) ?_
            (try simp (disch := omega) only [lg_cmp_ge, lg_cmp_le, lg_cmp_gt, lg_cmp_lt, lg_cmp_eq, eL_0, eL_1, eL_m1, eL_LO, eL_HI, eL_W, eL_add, eL_sub, eL_mul, eL_neg, eL_lt, eL_le, eL_eq, eL_remN, eL_mod0, ne_eq, Int64.not_lt, Int64.not_le] at c4)
            (try simp (disch := omega) only [lg_cmp_ge, lg_cmp_le, lg_cmp_gt, lg_cmp_lt, lg_cmp_eq, eL_0, eL_1, eL_m1, eL_LO, eL_HI, eL_W, eL_add, eL_sub, eL_mul, eL_neg, eL_lt, eL_le, eL_eq, eL_remN, eL_mod0, ne_eq, Int64.not_lt, Int64.not_le] at c70)
            (try simp (disch := omega) only [lg_cmp_ge, lg_cmp_le, lg_cmp_gt, lg_cmp_lt, lg_cmp_eq, eL_0, eL_1, eL_m1, eL_LO, eL_HI, eL_W, eL_add, eL_sub, eL_mul, eL_neg, eL_lt, eL_le, eL_eq, eL_remN, eL_mod0, ne_eq, Int64.not_lt, Int64.not_le] at c79)
            (try simp (disch := omega) only [lg_cmp_ge, lg_cmp_le, lg_cmp_gt, lg_cmp_lt, lg_cmp_eq, eL_0, eL_1, eL_m1, eL_LO, eL_HI, eL_W, eL_add, eL_sub, eL_mul, eL_neg, eL_lt, eL_le, eL_eq, eL_remN, eL_mod0, ne_eq, Int64.not_lt, Int64.not_le] at c88)
            (try simp (disch := omega) only [lg_cmp_ge, lg_cmp_le, lg_cmp_gt, lg_cmp_lt, lg_cmp_eq, eL_0, eL_1, eL_m1, eL_LO, eL_HI, eL_W, eL_add, eL_sub, eL_mul, eL_neg, eL_lt, eL_le, eL_eq, eL_remN, eL_mod0, ne_eq, Int64.not_lt, Int64.not_le] at c151)
            refine ⟨rfl, rfl, ?_⟩
            unfold logS
            first
              | exact absurd c151 c70
              | (rw [if_pos ⟨e1, e2⟩]
                 unfold bitS
                 first
                   | (rw [if_pos (by first | exact (nI_eq (b := 12) (by omega) (by omega)).mp c19)]; done)
                   | (rw [if_neg (fun z => c19 (by rw [z]; rfl)), if_pos (by first | exact (nI_eq (b := 13) (by omega) (by omega)).mp c37)]; done)
                   | (rw [if_neg (fun z => c19 (by rw [z]; rfl)), if_neg (fun z => c37 (by rw [z]; rfl))]; done))
              | (rw [if_neg n1, if_pos (by first | exact (nI_eq (b := 12) (by omega) (by omega)).mp c70)]
                 first
                   | (rw [if_pos (by omega), mSpan_mk (by omega) (by omega) (by omega) (by omega)]; done)
                   | (rw [if_neg (by omega), if_pos (by omega), mSpan_mk (by omega) (by omega) (by omega) (by omega)]; done)
                   | (rw [if_neg (by omega), if_neg (by omega), if_pos (by omega), mSpan_mk (by omega) (by omega) (by omega) (by omega)]; done)
                   | (rw [if_neg (by omega), if_neg (by omega), if_neg (by omega)]; done))
              | (rw [if_neg n1, if_neg (fun z => c151 (by rw [z]; rfl)), if_neg (by omega)]; done)
          · refine gi_aload_n (q := 155) (i := 2) C (dm_Re_combine 76 rfl) rfl rfl rfl ?_
            refine gi_get (q := 158) C (dm_Re_combine 77 rfl) rfl fl_Re_21 (by repeat (first | exact gi_up_self _ _ _ | assumption | rw [gi_up_ne (by omega)])) rfl ?_
            refine gi_lconst (q := 159) (v := 0) C (dm_Re_combine 78 rfl) rfl (by decide) ?_
            refine gi_lcmp (q := 160) C (dm_Re_combine 79 rfl) rfl ?_
            refine gi_if_lt (q := 163) (tgt := 250) C (dm_Re_combine 80 rfl) rfl (by decide) (fun c160 => ?_) (fun c160 => ?_)
            · refine gi_aload (q := 252) C (dm_Re_combine 124 rfl) rfl rfl ?_
              refine gi_callv 0 (q := 255) C (dm_Re_combine 125 rfl) rfl my_Va_beAll lk_Re_63 im_Va_beAll rfl (c_Va_beAll ao v hc) hc rfl rfl ⟨(Nat.le_of_ble_eq_true rfl), (Nat.le_of_ble_eq_true rfl)⟩ (Nat.le_of_ble_eq_true rfl) ⟨(Nat.le_of_ble_eq_true rfl), (Nat.le_of_ble_eq_true rfl)⟩ (fun r252 n252 h252 e252 => ?_)
              obtain ⟨rfl, rfl, rfl⟩ := e252
              refine gi_vret C hr (dm_Re_combine 126 rfl) ?_
              (try simp (disch := omega) only [lg_cmp_ge, lg_cmp_le, lg_cmp_gt, lg_cmp_lt, lg_cmp_eq, eL_0, eL_1, eL_m1, eL_LO, eL_HI, eL_W, eL_add, eL_sub, eL_mul, eL_neg, eL_lt, eL_le, eL_eq, eL_remN, eL_mod0, ne_eq, Int64.not_lt, Int64.not_le] at c4)
              (try simp (disch := omega) only [lg_cmp_ge, lg_cmp_le, lg_cmp_gt, lg_cmp_lt, lg_cmp_eq, eL_0, eL_1, eL_m1, eL_LO, eL_HI, eL_W, eL_add, eL_sub, eL_mul, eL_neg, eL_lt, eL_le, eL_eq, eL_remN, eL_mod0, ne_eq, Int64.not_lt, Int64.not_le] at c70)
              (try simp (disch := omega) only [lg_cmp_ge, lg_cmp_le, lg_cmp_gt, lg_cmp_lt, lg_cmp_eq, eL_0, eL_1, eL_m1, eL_LO, eL_HI, eL_W, eL_add, eL_sub, eL_mul, eL_neg, eL_lt, eL_le, eL_eq, eL_remN, eL_mod0, ne_eq, Int64.not_lt, Int64.not_le] at c79)
              (try simp (disch := omega) only [lg_cmp_ge, lg_cmp_le, lg_cmp_gt, lg_cmp_lt, lg_cmp_eq, eL_0, eL_1, eL_m1, eL_LO, eL_HI, eL_W, eL_add, eL_sub, eL_mul, eL_neg, eL_lt, eL_le, eL_eq, eL_remN, eL_mod0, ne_eq, Int64.not_lt, Int64.not_le] at c88)
              (try simp (disch := omega) only [lg_cmp_ge, lg_cmp_le, lg_cmp_gt, lg_cmp_lt, lg_cmp_eq, eL_0, eL_1, eL_m1, eL_LO, eL_HI, eL_W, eL_add, eL_sub, eL_mul, eL_neg, eL_lt, eL_le, eL_eq, eL_remN, eL_mod0, ne_eq, Int64.not_lt, Int64.not_le] at c151)
              (try simp (disch := omega) only [lg_cmp_ge, lg_cmp_le, lg_cmp_gt, lg_cmp_lt, lg_cmp_eq, eL_0, eL_1, eL_m1, eL_LO, eL_HI, eL_W, eL_add, eL_sub, eL_mul, eL_neg, eL_lt, eL_le, eL_eq, eL_remN, eL_mod0, ne_eq, Int64.not_lt, Int64.not_le] at c160)
              refine ⟨rfl, rfl, ?_⟩
              unfold logS
              first
                | exact absurd c151 c70
                | (rw [if_pos ⟨e1, e2⟩]
                   unfold bitS
                   first
                     | (rw [if_pos (by first | exact (nI_eq (b := 12) (by omega) (by omega)).mp c19)]; done)
                     | (rw [if_neg (fun z => c19 (by rw [z]; rfl)), if_pos (by first | exact (nI_eq (b := 13) (by omega) (by omega)).mp c37)]; done)
                     | (rw [if_neg (fun z => c19 (by rw [z]; rfl)), if_neg (fun z => c37 (by rw [z]; rfl))]; done))
                | (rw [if_neg n1, if_pos (by first | exact (nI_eq (b := 12) (by omega) (by omega)).mp c70)]
                   first
                     | (rw [if_pos (by omega), mSpan_mk (by omega) (by omega) (by omega) (by omega)]; done)
                     | (rw [if_neg (by omega), if_pos (by omega), mSpan_mk (by omega) (by omega) (by omega) (by omega)]; done)
                     | (rw [if_neg (by omega), if_neg (by omega), if_pos (by omega), mSpan_mk (by omega) (by omega) (by omega) (by omega)]; done)
                     | (rw [if_neg (by omega), if_neg (by omega), if_neg (by omega)]; done))
                | (rw [if_neg n1, if_neg (fun z => c151 (by rw [z]; rfl)), if_neg (by omega)]; done)
            · refine gi_aload_n (q := 164) (i := 3) C (dm_Re_combine 81 rfl) rfl rfl rfl ?_
              refine gi_get (q := 167) C (dm_Re_combine 82 rfl) rfl fl_Re_21 (by repeat (first | exact gi_up_self _ _ _ | assumption | rw [gi_up_ne (by omega)])) rfl ?_
              refine gi_lconst (q := 168) (v := 0) C (dm_Re_combine 83 rfl) rfl (by decide) ?_
              refine gi_lcmp (q := 169) C (dm_Re_combine 84 rfl) rfl ?_
              refine gi_if_lt (q := 172) (tgt := 250) C (dm_Re_combine 85 rfl) rfl (by decide) (fun c169 => ?_) (fun c169 => ?_)
              · refine gi_aload (q := 252) C (dm_Re_combine 124 rfl) rfl rfl ?_
                refine gi_callv 0 (q := 255) C (dm_Re_combine 125 rfl) rfl my_Va_beAll lk_Re_63 im_Va_beAll rfl (c_Va_beAll ao v hc) hc rfl rfl ⟨(Nat.le_of_ble_eq_true rfl), (Nat.le_of_ble_eq_true rfl)⟩ (Nat.le_of_ble_eq_true rfl) ⟨(Nat.le_of_ble_eq_true rfl), (Nat.le_of_ble_eq_true rfl)⟩ (fun r252 n252 h252 e252 => ?_)
                obtain ⟨rfl, rfl, rfl⟩ := e252
                refine gi_vret C hr (dm_Re_combine 126 rfl) ?_
                (try simp (disch := omega) only [lg_cmp_ge, lg_cmp_le, lg_cmp_gt, lg_cmp_lt, lg_cmp_eq, eL_0, eL_1, eL_m1, eL_LO, eL_HI, eL_W, eL_add, eL_sub, eL_mul, eL_neg, eL_lt, eL_le, eL_eq, eL_remN, eL_mod0, ne_eq, Int64.not_lt, Int64.not_le] at c4)
                (try simp (disch := omega) only [lg_cmp_ge, lg_cmp_le, lg_cmp_gt, lg_cmp_lt, lg_cmp_eq, eL_0, eL_1, eL_m1, eL_LO, eL_HI, eL_W, eL_add, eL_sub, eL_mul, eL_neg, eL_lt, eL_le, eL_eq, eL_remN, eL_mod0, ne_eq, Int64.not_lt, Int64.not_le] at c70)
                (try simp (disch := omega) only [lg_cmp_ge, lg_cmp_le, lg_cmp_gt, lg_cmp_lt, lg_cmp_eq, eL_0, eL_1, eL_m1, eL_LO, eL_HI, eL_W, eL_add, eL_sub, eL_mul, eL_neg, eL_lt, eL_le, eL_eq, eL_remN, eL_mod0, ne_eq, Int64.not_lt, Int64.not_le] at c79)
                (try simp (disch := omega) only [lg_cmp_ge, lg_cmp_le, lg_cmp_gt, lg_cmp_lt, lg_cmp_eq, eL_0, eL_1, eL_m1, eL_LO, eL_HI, eL_W, eL_add, eL_sub, eL_mul, eL_neg, eL_lt, eL_le, eL_eq, eL_remN, eL_mod0, ne_eq, Int64.not_lt, Int64.not_le] at c88)
                (try simp (disch := omega) only [lg_cmp_ge, lg_cmp_le, lg_cmp_gt, lg_cmp_lt, lg_cmp_eq, eL_0, eL_1, eL_m1, eL_LO, eL_HI, eL_W, eL_add, eL_sub, eL_mul, eL_neg, eL_lt, eL_le, eL_eq, eL_remN, eL_mod0, ne_eq, Int64.not_lt, Int64.not_le] at c151)
                (try simp (disch := omega) only [lg_cmp_ge, lg_cmp_le, lg_cmp_gt, lg_cmp_lt, lg_cmp_eq, eL_0, eL_1, eL_m1, eL_LO, eL_HI, eL_W, eL_add, eL_sub, eL_mul, eL_neg, eL_lt, eL_le, eL_eq, eL_remN, eL_mod0, ne_eq, Int64.not_lt, Int64.not_le] at c160)
                (try simp (disch := omega) only [lg_cmp_ge, lg_cmp_le, lg_cmp_gt, lg_cmp_lt, lg_cmp_eq, eL_0, eL_1, eL_m1, eL_LO, eL_HI, eL_W, eL_add, eL_sub, eL_mul, eL_neg, eL_lt, eL_le, eL_eq, eL_remN, eL_mod0, ne_eq, Int64.not_lt, Int64.not_le] at c169)
                refine ⟨rfl, rfl, ?_⟩
                unfold logS
                first
                  | exact absurd c151 c70
                  | (rw [if_pos ⟨e1, e2⟩]
                     unfold bitS
                     first
                       | (rw [if_pos (by first | exact (nI_eq (b := 12) (by omega) (by omega)).mp c19)]; done)
                       | (rw [if_neg (fun z => c19 (by rw [z]; rfl)), if_pos (by first | exact (nI_eq (b := 13) (by omega) (by omega)).mp c37)]; done)
                       | (rw [if_neg (fun z => c19 (by rw [z]; rfl)), if_neg (fun z => c37 (by rw [z]; rfl))]; done))
                  | (rw [if_neg n1, if_pos (by first | exact (nI_eq (b := 12) (by omega) (by omega)).mp c70)]
                     first
                       | (rw [if_pos (by omega), mSpan_mk (by omega) (by omega) (by omega) (by omega)]; done)
                       | (rw [if_neg (by omega), if_pos (by omega), mSpan_mk (by omega) (by omega) (by omega) (by omega)]; done)
                       | (rw [if_neg (by omega), if_neg (by omega), if_pos (by omega), mSpan_mk (by omega) (by omega) (by omega) (by omega)]; done)
                       | (rw [if_neg (by omega), if_neg (by omega), if_neg (by omega)]; done))
                  | (rw [if_neg n1, if_neg (fun z => c151 (by rw [z]; rfl)), if_neg (by omega)]; done)
              · have n12 : ¬ op = 12 := fun z => c151 (by rw [z]; rfl)
                refine gi_lconst (q := 173) (v := 0) C (dm_Re_combine 86 rfl) rfl (by decide) ?_
                refine gi_lstore (q := 175) C (dm_Re_combine 87 rfl) rfl (Nat.le_of_ble_eq_true rfl) ?_
                refine gi_iconst (q := 176) (v := 0) C (dm_Re_combine 88 rfl) rfl (by decide) ?_
                refine gi_istore (q := 178) C (dm_Re_combine 89 rfl) rfl (Nat.le_of_ble_eq_true rfl) ?_
                (try simp (disch := omega) only [lg_cmp_ge, lg_cmp_le, lg_cmp_gt, lg_cmp_lt, lg_cmp_eq, eL_0, eL_1, eL_m1, eL_LO, eL_HI, eL_W, eL_add, eL_sub, eL_mul, eL_neg, eL_lt, eL_le, eL_eq, eL_remN, eL_mod0, ne_eq, Int64.not_lt, Int64.not_le] at c4)
                (try simp (disch := omega) only [lg_cmp_ge, lg_cmp_le, lg_cmp_gt, lg_cmp_lt, lg_cmp_eq, eL_0, eL_1, eL_m1, eL_LO, eL_HI, eL_W, eL_add, eL_sub, eL_mul, eL_neg, eL_lt, eL_le, eL_eq, eL_remN, eL_mod0, ne_eq, Int64.not_lt, Int64.not_le] at c70)
                (try simp (disch := omega) only [lg_cmp_ge, lg_cmp_le, lg_cmp_gt, lg_cmp_lt, lg_cmp_eq, eL_0, eL_1, eL_m1, eL_LO, eL_HI, eL_W, eL_add, eL_sub, eL_mul, eL_neg, eL_lt, eL_le, eL_eq, eL_remN, eL_mod0, ne_eq, Int64.not_lt, Int64.not_le] at c79)
                (try simp (disch := omega) only [lg_cmp_ge, lg_cmp_le, lg_cmp_gt, lg_cmp_lt, lg_cmp_eq, eL_0, eL_1, eL_m1, eL_LO, eL_HI, eL_W, eL_add, eL_sub, eL_mul, eL_neg, eL_lt, eL_le, eL_eq, eL_remN, eL_mod0, ne_eq, Int64.not_lt, Int64.not_le] at c88)
                (try simp (disch := omega) only [lg_cmp_ge, lg_cmp_le, lg_cmp_gt, lg_cmp_lt, lg_cmp_eq, eL_0, eL_1, eL_m1, eL_LO, eL_HI, eL_W, eL_add, eL_sub, eL_mul, eL_neg, eL_lt, eL_le, eL_eq, eL_remN, eL_mod0, ne_eq, Int64.not_lt, Int64.not_le] at c151)
                (try simp (disch := omega) only [lg_cmp_ge, lg_cmp_le, lg_cmp_gt, lg_cmp_lt, lg_cmp_eq, eL_0, eL_1, eL_m1, eL_LO, eL_HI, eL_W, eL_add, eL_sub, eL_mul, eL_neg, eL_lt, eL_le, eL_eq, eL_remN, eL_mod0, ne_eq, Int64.not_lt, Int64.not_le] at c160)
                (try simp (disch := omega) only [lg_cmp_ge, lg_cmp_le, lg_cmp_gt, lg_cmp_lt, lg_cmp_eq, eL_0, eL_1, eL_m1, eL_LO, eL_HI, eL_W, eL_add, eL_sub, eL_mul, eL_neg, eL_lt, eL_le, eL_eq, eL_remN, eL_mod0, ne_eq, Int64.not_lt, Int64.not_le] at c169)
                refine gi_while (σ := Nat × Int) (fun p => 31 - p.1) (fun p => [(7, .int (nI p.1)), (5, .long (eL p.2)), (0, .ref r), (1, .int (nI op)), (2, .ref ax), (3, .ref ay), (4, .ref ao)]) (fun _ => n) (fun _ => 0) (fun _ => 0) (fun p y' => p.1 ≤ 31 ∧ 0 ≤ p.2 ∧ p.2 ≤ 4294967296 ∧ topF 31 0 (max x.2.1 y.2.1) = topF (31 - p.1) p.2 (max x.2.1 y.2.1) ∧ y' = h) (0, 0) ⟨by decide, by decide, by decide, rfl, rfl⟩ ?_ (List.forall_mem_cons.mpr ⟨rfl, List.forall_mem_cons.mpr ⟨rfl, List.forall_mem_cons.mpr ⟨rfl, List.forall_mem_cons.mpr ⟨rfl, List.forall_mem_cons.mpr ⟨rfl, List.forall_mem_cons.mpr ⟨rfl, List.forall_mem_cons.mpr ⟨rfl, fun _ h => absurd h List.not_mem_nil⟩⟩⟩⟩⟩⟩⟩) rfl rfl rfl
                rintro ⟨i, tt⟩ y' ⟨hi, t1, t2, hT, rfl⟩ ih
                try dsimp only at *
                refine gi_iload (q := 180) C (dm_Re_combine 90 rfl) rfl rfl ?_
                refine gi_bipush (q := 182) (v := 31) C (dm_Re_combine 91 rfl) rfl (by decide) ?_
                refine gi_icmp_ge (q := 185) (tgt := 218) C (dm_Re_combine 92 rfl) rfl (by decide) (fun c182 => ?_) (fun c182 => ?_)
                · (try simp (disch := omega) only [lg_cmp_ge, lg_cmp_le, lg_cmp_gt, lg_cmp_lt, lg_cmp_eq, eL_0, eL_1, eL_m1, eL_LO, eL_HI, eL_W, eL_add, eL_sub, eL_mul, eL_neg, eL_lt, eL_le, eL_eq, eL_remN, eL_mod0, ne_eq, Int64.not_lt, Int64.not_le] at c182)
                  have tf : topF 31 0 (max x.2.1 y.2.1) = tt := by
                    rw [hT]
                    first
                      | (have hik : i = 31 := by
                           rcases Nat.lt_or_ge i 31 with q | q
                           · exact absurd c182 (nI_ge (b := 31) q (by omega))
                           · omega
                         rw [hik]
                         rfl)
                      | (obtain ⟨j, hj⟩ : ∃ j, 31 - i = j + 1 := ⟨31 - (i + 1), by omega⟩
                         rw [hj]
                         show (if tt < max x.2.1 y.2.1 then topF j (2 * tt + 1) (max x.2.1 y.2.1) else tt) = _
                         rw [if_neg (by omega)])
                  refine gi_aload (q := 220) C (dm_Re_combine 109 rfl) rfl rfl ?_
                  refine gi_iload_n (q := 221) (i := 1) C (dm_Re_combine 110 rfl) rfl rfl rfl ?_
                  refine gi_bipush (q := 223) (v := 13) C (dm_Re_combine 111 rfl) rfl (by decide) ?_
                  refine gi_icmp_ne (q := 226) (tgt := 240) C (dm_Re_combine 112 rfl) rfl (by decide) (fun c223 => ?_) (fun c223 => ?_)
                  · refine gi_lconst (q := 241) (v := 0) C (dm_Re_combine 119 rfl) rfl (by decide) ?_
                    refine gi_lload (q := 243) C (dm_Re_combine 120 rfl) rfl rfl ?_
                    refine gi_lconst (q := 244) (v := 1) C (dm_Re_combine 121 rfl) rfl (by decide) ?_
                    try rw [eL_0]
                    rw [eL_1]
                    refine gi_callv 3 (q := 247) C (dm_Re_combine 122 rfl) rfl my_Va_beSpan lk_Re_74 im_Va_beSpan rfl (c_Va_beSpan ao v _ _ _ hc) hc rfl rfl ⟨(Nat.le_of_ble_eq_true rfl), (Nat.le_of_ble_eq_true rfl)⟩ (Nat.le_of_ble_eq_true rfl) ⟨(Nat.le_of_ble_eq_true rfl), (Nat.le_of_ble_eq_true rfl)⟩ (fun r244 n244 h244 e244 => ?_)
                    obtain ⟨rfl, rfl, rfl⟩ := e244
                    refine gi_goto (tgt := 255) C (dm_Re_combine 123 rfl) (by decide) ?_
                    refine gi_vret C hr (dm_Re_combine 126 rfl) ?_
                    refine ⟨rfl, rfl, ?_⟩
                    unfold logS
                    rw [if_neg n1, if_neg n12, if_pos (by omega), tf]
                    first
                      | (rw [if_pos (by first | exact (nI_eq (b := 13) (by omega) (by omega)).mp c223), mSpan_mk (by omega) (by omega) (by omega) (by omega)]; done)
                      | (rw [if_neg (fun z => c223 (by rw [z]; rfl)), mSpan_mk (by omega) (by omega) (by omega) (by omega)]; done)
                  · refine gi_aload_n (q := 227) (i := 2) C (dm_Re_combine 113 rfl) rfl rfl rfl ?_
                    refine gi_get (q := 230) C (dm_Re_combine 114 rfl) rfl fl_Re_21 (by repeat (first | exact gi_up_self _ _ _ | assumption | rw [gi_up_ne (by omega)])) rfl ?_
                    refine gi_aload_n (q := 231) (i := 3) C (dm_Re_combine 115 rfl) rfl rfl rfl ?_
                    refine gi_get (q := 234) C (dm_Re_combine 116 rfl) rfl fl_Re_21 (by repeat (first | exact gi_up_self _ _ _ | assumption | rw [gi_up_ne (by omega)])) rfl ?_
                    refine gi_calls 2 (q := 237) C (dm_Re_combine 117 rfl) rfl my_Mt_max_0 lk_Re_80 sm_Mt_max_0 (c_Mt_max_0 x.1 y.1 (by omega) (by omega) (by omega) (by omega)) rfl rfl ⟨(Nat.le_of_ble_eq_true rfl), (Nat.le_of_ble_eq_true rfl)⟩ (Nat.le_of_ble_eq_true rfl) ⟨(Nat.le_of_ble_eq_true rfl), (Nat.le_of_ble_eq_true rfl)⟩ (fun r234 n234 h234 e234 => ?_)
                    obtain ⟨rfl, rfl, rfl⟩ := e234
                    refine gi_goto (tgt := 241) C (dm_Re_combine 118 rfl) (by decide) ?_
                    refine gi_lload (q := 243) C (dm_Re_combine 120 rfl) rfl rfl ?_
                    refine gi_lconst (q := 244) (v := 1) C (dm_Re_combine 121 rfl) rfl (by decide) ?_
                    try rw [eL_0]
                    rw [eL_1]
                    refine gi_callv 3 (q := 247) C (dm_Re_combine 122 rfl) rfl my_Va_beSpan lk_Re_74 im_Va_beSpan rfl (c_Va_beSpan ao v _ _ _ hc) hc rfl rfl ⟨(Nat.le_of_ble_eq_true rfl), (Nat.le_of_ble_eq_true rfl)⟩ (Nat.le_of_ble_eq_true rfl) ⟨(Nat.le_of_ble_eq_true rfl), (Nat.le_of_ble_eq_true rfl)⟩ (fun r244 n244 h244 e244 => ?_)
                    obtain ⟨rfl, rfl, rfl⟩ := e244
                    refine gi_goto (tgt := 255) C (dm_Re_combine 123 rfl) (by decide) ?_
                    refine gi_vret C hr (dm_Re_combine 126 rfl) ?_
                    refine ⟨rfl, rfl, ?_⟩
                    unfold logS
                    rw [if_neg n1, if_neg n12, if_pos (by omega), tf]
                    first
                      | (rw [if_pos (by first | exact (nI_eq (b := 13) (by omega) (by omega)).mp c223), mSpan_mk (by omega) (by omega) (by omega) (by omega)]; done)
                      | (rw [if_neg (fun z => c223 (by rw [z]; rfl)), mSpan_mk (by omega) (by omega) (by omega) (by omega)]; done)
                · have hlt : i < 31 := by
                    rcases Nat.lt_or_ge i 31 with q | q
                    · exact q
                    · exact absurd (nI_le (a := 31) q (by omega)) c182
                  refine gi_lload (q := 187) C (dm_Re_combine 93 rfl) rfl rfl ?_
                  refine gi_aload_n (q := 188) (i := 2) C (dm_Re_combine 94 rfl) rfl rfl rfl ?_
                  refine gi_get (q := 191) C (dm_Re_combine 95 rfl) rfl fl_Re_25 (by repeat (first | exact gi_up_self _ _ _ | assumption | rw [gi_up_ne (by omega)])) rfl ?_
                  refine gi_aload_n (q := 192) (i := 3) C (dm_Re_combine 96 rfl) rfl rfl rfl ?_
                  refine gi_get (q := 195) C (dm_Re_combine 97 rfl) rfl fl_Re_25 (by repeat (first | exact gi_up_self _ _ _ | assumption | rw [gi_up_ne (by omega)])) rfl ?_
                  refine gi_calls 2 (q := 198) C (dm_Re_combine 98 rfl) rfl my_Mt_max_0 lk_Re_80 sm_Mt_max_0 (c_Mt_max_0 x.2.1 y.2.1 (by omega) (by omega) (by omega) (by omega)) rfl rfl ⟨(Nat.le_of_ble_eq_true rfl), (Nat.le_of_ble_eq_true rfl)⟩ (Nat.le_of_ble_eq_true rfl) ⟨(Nat.le_of_ble_eq_true rfl), (Nat.le_of_ble_eq_true rfl)⟩ (fun r195 n195 h195 e195 => ?_)
                  obtain ⟨rfl, rfl, rfl⟩ := e195
                  refine gi_lcmp (q := 199) C (dm_Re_combine 99 rfl) rfl ?_
                  refine gi_if_ge (q := 202) (tgt := 218) C (dm_Re_combine 100 rfl) rfl (by decide) (fun c199 => ?_) (fun c199 => ?_)
                  · (try simp (disch := omega) only [lg_cmp_ge, lg_cmp_le, lg_cmp_gt, lg_cmp_lt, lg_cmp_eq, eL_0, eL_1, eL_m1, eL_LO, eL_HI, eL_W, eL_add, eL_sub, eL_mul, eL_neg, eL_lt, eL_le, eL_eq, eL_remN, eL_mod0, ne_eq, Int64.not_lt, Int64.not_le] at c182)
                    (try simp (disch := omega) only [lg_cmp_ge, lg_cmp_le, lg_cmp_gt, lg_cmp_lt, lg_cmp_eq, eL_0, eL_1, eL_m1, eL_LO, eL_HI, eL_W, eL_add, eL_sub, eL_mul, eL_neg, eL_lt, eL_le, eL_eq, eL_remN, eL_mod0, ne_eq, Int64.not_lt, Int64.not_le] at c199)
                    have tf : topF 31 0 (max x.2.1 y.2.1) = tt := by
                      rw [hT]
                      first
                        | (have hik : i = 31 := by
                             rcases Nat.lt_or_ge i 31 with q | q
                             · exact absurd c182 (nI_ge (b := 31) q (by omega))
                             · omega
                           rw [hik]
                           rfl)
                        | (obtain ⟨j, hj⟩ : ∃ j, 31 - i = j + 1 := ⟨31 - (i + 1), by omega⟩
                           rw [hj]
                           show (if tt < max x.2.1 y.2.1 then topF j (2 * tt + 1) (max x.2.1 y.2.1) else tt) = _
                           rw [if_neg (by omega)])
                    refine gi_aload (q := 220) C (dm_Re_combine 109 rfl) rfl rfl ?_
                    refine gi_iload_n (q := 221) (i := 1) C (dm_Re_combine 110 rfl) rfl rfl rfl ?_
                    refine gi_bipush (q := 223) (v := 13) C (dm_Re_combine 111 rfl) rfl (by decide) ?_
                    refine gi_icmp_ne (q := 226) (tgt := 240) C (dm_Re_combine 112 rfl) rfl (by decide) (fun c223 => ?_) (fun c223 => ?_)
                    · refine gi_lconst (q := 241) (v := 0) C (dm_Re_combine 119 rfl) rfl (by decide) ?_
                      refine gi_lload (q := 243) C (dm_Re_combine 120 rfl) rfl rfl ?_
                      refine gi_lconst (q := 244) (v := 1) C (dm_Re_combine 121 rfl) rfl (by decide) ?_
                      try rw [eL_0]
                      rw [eL_1]
                      refine gi_callv 3 (q := 247) C (dm_Re_combine 122 rfl) rfl my_Va_beSpan lk_Re_74 im_Va_beSpan rfl (c_Va_beSpan ao v _ _ _ hc) hc rfl rfl ⟨(Nat.le_of_ble_eq_true rfl), (Nat.le_of_ble_eq_true rfl)⟩ (Nat.le_of_ble_eq_true rfl) ⟨(Nat.le_of_ble_eq_true rfl), (Nat.le_of_ble_eq_true rfl)⟩ (fun r244 n244 h244 e244 => ?_)
                      obtain ⟨rfl, rfl, rfl⟩ := e244
                      refine gi_goto (tgt := 255) C (dm_Re_combine 123 rfl) (by decide) ?_
                      refine gi_vret C hr (dm_Re_combine 126 rfl) ?_
                      refine ⟨rfl, rfl, ?_⟩
                      unfold logS
                      rw [if_neg n1, if_neg n12, if_pos (by omega), tf]
                      first
                        | (rw [if_pos (by first | exact (nI_eq (b := 13) (by omega) (by omega)).mp c223), mSpan_mk (by omega) (by omega) (by omega) (by omega)]; done)
                        | (rw [if_neg (fun z => c223 (by rw [z]; rfl)), mSpan_mk (by omega) (by omega) (by omega) (by omega)]; done)
                    · refine gi_aload_n (q := 227) (i := 2) C (dm_Re_combine 113 rfl) rfl rfl rfl ?_
                      refine gi_get (q := 230) C (dm_Re_combine 114 rfl) rfl fl_Re_21 (by repeat (first | exact gi_up_self _ _ _ | assumption | rw [gi_up_ne (by omega)])) rfl ?_
                      refine gi_aload_n (q := 231) (i := 3) C (dm_Re_combine 115 rfl) rfl rfl rfl ?_
                      refine gi_get (q := 234) C (dm_Re_combine 116 rfl) rfl fl_Re_21 (by repeat (first | exact gi_up_self _ _ _ | assumption | rw [gi_up_ne (by omega)])) rfl ?_
                      refine gi_calls 2 (q := 237) C (dm_Re_combine 117 rfl) rfl my_Mt_max_0 lk_Re_80 sm_Mt_max_0 (c_Mt_max_0 x.1 y.1 (by omega) (by omega) (by omega) (by omega)) rfl rfl ⟨(Nat.le_of_ble_eq_true rfl), (Nat.le_of_ble_eq_true rfl)⟩ (Nat.le_of_ble_eq_true rfl) ⟨(Nat.le_of_ble_eq_true rfl), (Nat.le_of_ble_eq_true rfl)⟩ (fun r234 n234 h234 e234 => ?_)
                      obtain ⟨rfl, rfl, rfl⟩ := e234
                      refine gi_goto (tgt := 241) C (dm_Re_combine 118 rfl) (by decide) ?_
                      refine gi_lload (q := 243) C (dm_Re_combine 120 rfl) rfl rfl ?_
                      refine gi_lconst (q := 244) (v := 1) C (dm_Re_combine 121 rfl) rfl (by decide) ?_
                      try rw [eL_0]
                      rw [eL_1]
                      refine gi_callv 3 (q := 247) C (dm_Re_combine 122 rfl) rfl my_Va_beSpan lk_Re_74 im_Va_beSpan rfl (c_Va_beSpan ao v _ _ _ hc) hc rfl rfl ⟨(Nat.le_of_ble_eq_true rfl), (Nat.le_of_ble_eq_true rfl)⟩ (Nat.le_of_ble_eq_true rfl) ⟨(Nat.le_of_ble_eq_true rfl), (Nat.le_of_ble_eq_true rfl)⟩ (fun r244 n244 h244 e244 => ?_)
                      obtain ⟨rfl, rfl, rfl⟩ := e244
                      refine gi_goto (tgt := 255) C (dm_Re_combine 123 rfl) (by decide) ?_
                      refine gi_vret C hr (dm_Re_combine 126 rfl) ?_
                      refine ⟨rfl, rfl, ?_⟩
                      unfold logS
                      rw [if_neg n1, if_neg n12, if_pos (by omega), tf]
                      first
                        | (rw [if_pos (by first | exact (nI_eq (b := 13) (by omega) (by omega)).mp c223), mSpan_mk (by omega) (by omega) (by omega) (by omega)]; done)
                        | (rw [if_neg (fun z => c223 (by rw [z]; rfl)), mSpan_mk (by omega) (by omega) (by omega) (by omega)]; done)
                  · refine gi_lload (q := 204) C (dm_Re_combine 101 rfl) rfl rfl ?_
                    
                    refine gi_ldc2 (q := 207) C (dm_Re_combine 102 rfl) rfl kc_Re_130 ?_
                    
                    refine gi_lmul (q := 208) C (dm_Re_combine 103 rfl) rfl ?_
                    rw [eL_2, eL_mul]
                    refine gi_lconst (q := 209) (v := 1) C (dm_Re_combine 104 rfl) rfl (by decide) ?_
                    refine gi_ladd (q := 210) C (dm_Re_combine 105 rfl) rfl ?_
                    rw [eL_1, eL_add]
                    refine gi_lstore (q := 212) C (dm_Re_combine 106 rfl) rfl (Nat.le_of_ble_eq_true rfl) ?_
                    (try simp (disch := omega) only [lg_cmp_ge, lg_cmp_le, lg_cmp_gt, lg_cmp_lt, lg_cmp_eq, eL_0, eL_1, eL_m1, eL_LO, eL_HI, eL_W, eL_add, eL_sub, eL_mul, eL_neg, eL_lt, eL_le, eL_eq, eL_remN, eL_mod0, ne_eq, Int64.not_lt, Int64.not_le] at c182)
                    (try simp (disch := omega) only [lg_cmp_ge, lg_cmp_le, lg_cmp_gt, lg_cmp_lt, lg_cmp_eq, eL_0, eL_1, eL_m1, eL_LO, eL_HI, eL_W, eL_add, eL_sub, eL_mul, eL_neg, eL_lt, eL_le, eL_eq, eL_remN, eL_mod0, ne_eq, Int64.not_lt, Int64.not_le] at c199)
                    have t3 : topF (31 - i) tt (max x.2.1 y.2.1) = topF (31 - (i + 1)) (tt * 2 + 1) (max x.2.1 y.2.1) := by
                      obtain ⟨j, hj⟩ : ∃ j, 31 - i = j + 1 := ⟨31 - (i + 1), by omega⟩
                      rw [show 31 - (i + 1) = j by omega, hj]
                      show (if tt < max x.2.1 y.2.1 then topF j (2 * tt + 1) (max x.2.1 y.2.1) else tt) = _
                      rw [if_pos (by omega), Int.mul_comm]
                    refine gi_iinc (q := 215) (v := 1) C (dm_Re_combine 107 rfl) rfl rfl (by decide) (Nat.le_of_ble_eq_true rfl) ?_
                    refine gi_goto (tgt := 178) C (dm_Re_combine 108 rfl) (by decide) ?_
                    refine gi_close (ih (i + 1, tt * 2 + 1) _ ⟨hlt, by simp only; omega, by simp only; omega, by rw [hT, t3], rfl⟩ (by simp only; omega)) (List.forall_mem_cons.mpr ⟨(by simp [gi_look, nI_1]), List.forall_mem_cons.mpr ⟨rfl, List.forall_mem_cons.mpr ⟨rfl, List.forall_mem_cons.mpr ⟨rfl, List.forall_mem_cons.mpr ⟨rfl, List.forall_mem_cons.mpr ⟨rfl, List.forall_mem_cons.mpr ⟨rfl, fun _ h => absurd h List.not_mem_nil⟩⟩⟩⟩⟩⟩⟩) rfl rfl rfl
        · refine gi_aload_n (q := 92) (i := 2) C (dm_Re_combine 45 rfl) rfl rfl rfl ?_
          refine gi_get (q := 95) C (dm_Re_combine 46 rfl) rfl fl_Re_21 (by repeat (first | exact gi_up_self _ _ _ | assumption | rw [gi_up_ne (by omega)])) rfl ?_
          refine gi_lconst (q := 96) (v := 0) C (dm_Re_combine 47 rfl) rfl (by decide) ?_
          refine gi_lcmp (q := 97) C (dm_Re_combine 48 rfl) rfl ?_
          refine gi_if_ge (q := 100) (tgt := 107) C (dm_Re_combine 49 rfl) rfl (by decide) (fun c97 => ?_) (fun c97 => ?_)
          · refine gi_aload_n (q := 108) (i := 3) C (dm_Re_combine 53 rfl) rfl rfl rfl ?_
            refine gi_get (q := 111) C (dm_Re_combine 54 rfl) rfl fl_Re_21 (by repeat (first | exact gi_up_self _ _ _ | assumption | rw [gi_up_ne (by omega)])) rfl ?_
            refine gi_lconst (q := 112) (v := 0) C (dm_Re_combine 55 rfl) rfl (by decide) ?_
            refine gi_lcmp (q := 113) C (dm_Re_combine 56 rfl) rfl ?_
            refine gi_if_ge (q := 116) (tgt := 123) C (dm_Re_combine 57 rfl) rfl (by decide) (fun c113 => ?_) (fun c113 => ?_)
            · refine gi_aload_n (q := 124) (i := 2) C (dm_Re_combine 61 rfl) rfl rfl rfl ?_
              refine gi_get (q := 127) C (dm_Re_combine 62 rfl) rfl fl_Re_25 (by repeat (first | exact gi_up_self _ _ _ | assumption | rw [gi_up_ne (by omega)])) rfl ?_
              refine gi_aload_n (q := 128) (i := 3) C (dm_Re_combine 63 rfl) rfl rfl rfl ?_
              refine gi_get (q := 131) C (dm_Re_combine 64 rfl) rfl fl_Re_25 (by repeat (first | exact gi_up_self _ _ _ | assumption | rw [gi_up_ne (by omega)])) rfl ?_
              refine gi_calls 2 (q := 134) C (dm_Re_combine 65 rfl) rfl my_Mt_min_1 lk_Re_94 sm_Mt_min_1 (c_Mt_min_1 x.2.1 y.2.1 (by omega) (by omega) (by omega) (by omega)) rfl rfl ⟨(Nat.le_of_ble_eq_true rfl), (Nat.le_of_ble_eq_true rfl)⟩ (Nat.le_of_ble_eq_true rfl) ⟨(Nat.le_of_ble_eq_true rfl), (Nat.le_of_ble_eq_true rfl)⟩ (fun r131 n131 h131 e131 => ?_)
              obtain ⟨rfl, rfl, rfl⟩ := e131
              refine gi_lstore (q := 136) C (dm_Re_combine 66 rfl) rfl (Nat.le_of_ble_eq_true rfl) ?_
              refine gi_aload (q := 138) C (dm_Re_combine 67 rfl) rfl rfl ?_
              refine gi_lconst (q := 139) (v := 0) C (dm_Re_combine 68 rfl) rfl (by decide) ?_
              refine gi_lload (q := 141) C (dm_Re_combine 69 rfl) rfl rfl ?_
              refine gi_lconst (q := 142) (v := 1) C (dm_Re_combine 70 rfl) rfl (by decide) ?_
              rw [eL_0, eL_1]
              refine gi_callv 3 (q := 145) C (dm_Re_combine 71 rfl) rfl my_Va_beSpan lk_Re_74 im_Va_beSpan rfl (c_Va_beSpan ao v _ _ _ hc) hc rfl rfl ⟨(Nat.le_of_ble_eq_true rfl), (Nat.le_of_ble_eq_true rfl)⟩ (Nat.le_of_ble_eq_true rfl) ⟨(Nat.le_of_ble_eq_true rfl), (Nat.le_of_ble_eq_true rfl)⟩ (fun r142 n142 h142 e142 => ?_)
              obtain ⟨rfl, rfl, rfl⟩ := e142
              refine gi_goto (tgt := 255) C (dm_Re_combine 72 rfl) (by decide) ?_
              refine gi_vret C hr (dm_Re_combine 126 rfl) ?_
              (try simp (disch := omega) only [lg_cmp_ge, lg_cmp_le, lg_cmp_gt, lg_cmp_lt, lg_cmp_eq, eL_0, eL_1, eL_m1, eL_LO, eL_HI, eL_W, eL_add, eL_sub, eL_mul, eL_neg, eL_lt, eL_le, eL_eq, eL_remN, eL_mod0, ne_eq, Int64.not_lt, Int64.not_le] at c4)
              (try simp (disch := omega) only [lg_cmp_ge, lg_cmp_le, lg_cmp_gt, lg_cmp_lt, lg_cmp_eq, eL_0, eL_1, eL_m1, eL_LO, eL_HI, eL_W, eL_add, eL_sub, eL_mul, eL_neg, eL_lt, eL_le, eL_eq, eL_remN, eL_mod0, ne_eq, Int64.not_lt, Int64.not_le] at c70)
              (try simp (disch := omega) only [lg_cmp_ge, lg_cmp_le, lg_cmp_gt, lg_cmp_lt, lg_cmp_eq, eL_0, eL_1, eL_m1, eL_LO, eL_HI, eL_W, eL_add, eL_sub, eL_mul, eL_neg, eL_lt, eL_le, eL_eq, eL_remN, eL_mod0, ne_eq, Int64.not_lt, Int64.not_le] at c79)
              (try simp (disch := omega) only [lg_cmp_ge, lg_cmp_le, lg_cmp_gt, lg_cmp_lt, lg_cmp_eq, eL_0, eL_1, eL_m1, eL_LO, eL_HI, eL_W, eL_add, eL_sub, eL_mul, eL_neg, eL_lt, eL_le, eL_eq, eL_remN, eL_mod0, ne_eq, Int64.not_lt, Int64.not_le] at c88)
              (try simp (disch := omega) only [lg_cmp_ge, lg_cmp_le, lg_cmp_gt, lg_cmp_lt, lg_cmp_eq, eL_0, eL_1, eL_m1, eL_LO, eL_HI, eL_W, eL_add, eL_sub, eL_mul, eL_neg, eL_lt, eL_le, eL_eq, eL_remN, eL_mod0, ne_eq, Int64.not_lt, Int64.not_le] at c97)
              (try simp (disch := omega) only [lg_cmp_ge, lg_cmp_le, lg_cmp_gt, lg_cmp_lt, lg_cmp_eq, eL_0, eL_1, eL_m1, eL_LO, eL_HI, eL_W, eL_add, eL_sub, eL_mul, eL_neg, eL_lt, eL_le, eL_eq, eL_remN, eL_mod0, ne_eq, Int64.not_lt, Int64.not_le] at c113)
              refine ⟨rfl, rfl, ?_⟩
              unfold logS
              first
                | exact absurd c151 c70
                | (rw [if_pos ⟨e1, e2⟩]
                   unfold bitS
                   first
                     | (rw [if_pos (by first | exact (nI_eq (b := 12) (by omega) (by omega)).mp c19)]; done)
                     | (rw [if_neg (fun z => c19 (by rw [z]; rfl)), if_pos (by first | exact (nI_eq (b := 13) (by omega) (by omega)).mp c37)]; done)
                     | (rw [if_neg (fun z => c19 (by rw [z]; rfl)), if_neg (fun z => c37 (by rw [z]; rfl))]; done))
                | (rw [if_neg n1, if_pos (by first | exact (nI_eq (b := 12) (by omega) (by omega)).mp c70)]
                   first
                     | (rw [if_pos (by omega), mSpan_mk (by omega) (by omega) (by omega) (by omega)]; done)
                     | (rw [if_neg (by omega), if_pos (by omega), mSpan_mk (by omega) (by omega) (by omega) (by omega)]; done)
                     | (rw [if_neg (by omega), if_neg (by omega), if_pos (by omega), mSpan_mk (by omega) (by omega) (by omega) (by omega)]; done)
                     | (rw [if_neg (by omega), if_neg (by omega), if_neg (by omega)]; done))
                | (rw [if_neg n1, if_neg (fun z => c151 (by rw [z]; rfl)), if_neg (by omega)]; done)
            · refine gi_aload_n (q := 117) (i := 2) C (dm_Re_combine 58 rfl) rfl rfl rfl ?_
              refine gi_get (q := 120) C (dm_Re_combine 59 rfl) rfl fl_Re_25 (by repeat (first | exact gi_up_self _ _ _ | assumption | rw [gi_up_ne (by omega)])) rfl ?_
              refine gi_goto (tgt := 134) C (dm_Re_combine 60 rfl) (by decide) ?_
              refine gi_lstore (q := 136) C (dm_Re_combine 66 rfl) rfl (Nat.le_of_ble_eq_true rfl) ?_
              refine gi_aload (q := 138) C (dm_Re_combine 67 rfl) rfl rfl ?_
              refine gi_lconst (q := 139) (v := 0) C (dm_Re_combine 68 rfl) rfl (by decide) ?_
              refine gi_lload (q := 141) C (dm_Re_combine 69 rfl) rfl rfl ?_
              refine gi_lconst (q := 142) (v := 1) C (dm_Re_combine 70 rfl) rfl (by decide) ?_
              rw [eL_0, eL_1]
              refine gi_callv 3 (q := 145) C (dm_Re_combine 71 rfl) rfl my_Va_beSpan lk_Re_74 im_Va_beSpan rfl (c_Va_beSpan ao v _ _ _ hc) hc rfl rfl ⟨(Nat.le_of_ble_eq_true rfl), (Nat.le_of_ble_eq_true rfl)⟩ (Nat.le_of_ble_eq_true rfl) ⟨(Nat.le_of_ble_eq_true rfl), (Nat.le_of_ble_eq_true rfl)⟩ (fun r142 n142 h142 e142 => ?_)
              obtain ⟨rfl, rfl, rfl⟩ := e142
              refine gi_goto (tgt := 255) C (dm_Re_combine 72 rfl) (by decide) ?_
              refine gi_vret C hr (dm_Re_combine 126 rfl) ?_
              (try simp (disch := omega) only [lg_cmp_ge, lg_cmp_le, lg_cmp_gt, lg_cmp_lt, lg_cmp_eq, eL_0, eL_1, eL_m1, eL_LO, eL_HI, eL_W, eL_add, eL_sub, eL_mul, eL_neg, eL_lt, eL_le, eL_eq, eL_remN, eL_mod0, ne_eq, Int64.not_lt, Int64.not_le] at c4)
              (try simp (disch := omega) only [lg_cmp_ge, lg_cmp_le, lg_cmp_gt, lg_cmp_lt, lg_cmp_eq, eL_0, eL_1, eL_m1, eL_LO, eL_HI, eL_W, eL_add, eL_sub, eL_mul, eL_neg, eL_lt, eL_le, eL_eq, eL_remN, eL_mod0, ne_eq, Int64.not_lt, Int64.not_le] at c70)
              (try simp (disch := omega) only [lg_cmp_ge, lg_cmp_le, lg_cmp_gt, lg_cmp_lt, lg_cmp_eq, eL_0, eL_1, eL_m1, eL_LO, eL_HI, eL_W, eL_add, eL_sub, eL_mul, eL_neg, eL_lt, eL_le, eL_eq, eL_remN, eL_mod0, ne_eq, Int64.not_lt, Int64.not_le] at c79)
              (try simp (disch := omega) only [lg_cmp_ge, lg_cmp_le, lg_cmp_gt, lg_cmp_lt, lg_cmp_eq, eL_0, eL_1, eL_m1, eL_LO, eL_HI, eL_W, eL_add, eL_sub, eL_mul, eL_neg, eL_lt, eL_le, eL_eq, eL_remN, eL_mod0, ne_eq, Int64.not_lt, Int64.not_le] at c88)
              (try simp (disch := omega) only [lg_cmp_ge, lg_cmp_le, lg_cmp_gt, lg_cmp_lt, lg_cmp_eq, eL_0, eL_1, eL_m1, eL_LO, eL_HI, eL_W, eL_add, eL_sub, eL_mul, eL_neg, eL_lt, eL_le, eL_eq, eL_remN, eL_mod0, ne_eq, Int64.not_lt, Int64.not_le] at c97)
              (try simp (disch := omega) only [lg_cmp_ge, lg_cmp_le, lg_cmp_gt, lg_cmp_lt, lg_cmp_eq, eL_0, eL_1, eL_m1, eL_LO, eL_HI, eL_W, eL_add, eL_sub, eL_mul, eL_neg, eL_lt, eL_le, eL_eq, eL_remN, eL_mod0, ne_eq, Int64.not_lt, Int64.not_le] at c113)
              refine ⟨rfl, rfl, ?_⟩
              unfold logS
              first
                | exact absurd c151 c70
                | (rw [if_pos ⟨e1, e2⟩]
                   unfold bitS
                   first
                     | (rw [if_pos (by first | exact (nI_eq (b := 12) (by omega) (by omega)).mp c19)]; done)
                     | (rw [if_neg (fun z => c19 (by rw [z]; rfl)), if_pos (by first | exact (nI_eq (b := 13) (by omega) (by omega)).mp c37)]; done)
                     | (rw [if_neg (fun z => c19 (by rw [z]; rfl)), if_neg (fun z => c37 (by rw [z]; rfl))]; done))
                | (rw [if_neg n1, if_pos (by first | exact (nI_eq (b := 12) (by omega) (by omega)).mp c70)]
                   first
                     | (rw [if_pos (by omega), mSpan_mk (by omega) (by omega) (by omega) (by omega)]; done)
                     | (rw [if_neg (by omega), if_pos (by omega), mSpan_mk (by omega) (by omega) (by omega) (by omega)]; done)
                     | (rw [if_neg (by omega), if_neg (by omega), if_pos (by omega), mSpan_mk (by omega) (by omega) (by omega) (by omega)]; done)
                     | (rw [if_neg (by omega), if_neg (by omega), if_neg (by omega)]; done))
                | (rw [if_neg n1, if_neg (fun z => c151 (by rw [z]; rfl)), if_neg (by omega)]; done)
          · refine gi_aload_n (q := 101) (i := 3) C (dm_Re_combine 50 rfl) rfl rfl rfl ?_
            refine gi_get (q := 104) C (dm_Re_combine 51 rfl) rfl fl_Re_25 (by repeat (first | exact gi_up_self _ _ _ | assumption | rw [gi_up_ne (by omega)])) rfl ?_
            refine gi_goto (tgt := 134) C (dm_Re_combine 52 rfl) (by decide) ?_
            refine gi_lstore (q := 136) C (dm_Re_combine 66 rfl) rfl (Nat.le_of_ble_eq_true rfl) ?_
            refine gi_aload (q := 138) C (dm_Re_combine 67 rfl) rfl rfl ?_
            refine gi_lconst (q := 139) (v := 0) C (dm_Re_combine 68 rfl) rfl (by decide) ?_
            refine gi_lload (q := 141) C (dm_Re_combine 69 rfl) rfl rfl ?_
            refine gi_lconst (q := 142) (v := 1) C (dm_Re_combine 70 rfl) rfl (by decide) ?_
            rw [eL_0, eL_1]
            refine gi_callv 3 (q := 145) C (dm_Re_combine 71 rfl) rfl my_Va_beSpan lk_Re_74 im_Va_beSpan rfl (c_Va_beSpan ao v _ _ _ hc) hc rfl rfl ⟨(Nat.le_of_ble_eq_true rfl), (Nat.le_of_ble_eq_true rfl)⟩ (Nat.le_of_ble_eq_true rfl) ⟨(Nat.le_of_ble_eq_true rfl), (Nat.le_of_ble_eq_true rfl)⟩ (fun r142 n142 h142 e142 => ?_)
            obtain ⟨rfl, rfl, rfl⟩ := e142
            refine gi_goto (tgt := 255) C (dm_Re_combine 72 rfl) (by decide) ?_
            refine gi_vret C hr (dm_Re_combine 126 rfl) ?_
            (try simp (disch := omega) only [lg_cmp_ge, lg_cmp_le, lg_cmp_gt, lg_cmp_lt, lg_cmp_eq, eL_0, eL_1, eL_m1, eL_LO, eL_HI, eL_W, eL_add, eL_sub, eL_mul, eL_neg, eL_lt, eL_le, eL_eq, eL_remN, eL_mod0, ne_eq, Int64.not_lt, Int64.not_le] at c4)
            (try simp (disch := omega) only [lg_cmp_ge, lg_cmp_le, lg_cmp_gt, lg_cmp_lt, lg_cmp_eq, eL_0, eL_1, eL_m1, eL_LO, eL_HI, eL_W, eL_add, eL_sub, eL_mul, eL_neg, eL_lt, eL_le, eL_eq, eL_remN, eL_mod0, ne_eq, Int64.not_lt, Int64.not_le] at c70)
            (try simp (disch := omega) only [lg_cmp_ge, lg_cmp_le, lg_cmp_gt, lg_cmp_lt, lg_cmp_eq, eL_0, eL_1, eL_m1, eL_LO, eL_HI, eL_W, eL_add, eL_sub, eL_mul, eL_neg, eL_lt, eL_le, eL_eq, eL_remN, eL_mod0, ne_eq, Int64.not_lt, Int64.not_le] at c79)
            (try simp (disch := omega) only [lg_cmp_ge, lg_cmp_le, lg_cmp_gt, lg_cmp_lt, lg_cmp_eq, eL_0, eL_1, eL_m1, eL_LO, eL_HI, eL_W, eL_add, eL_sub, eL_mul, eL_neg, eL_lt, eL_le, eL_eq, eL_remN, eL_mod0, ne_eq, Int64.not_lt, Int64.not_le] at c88)
            (try simp (disch := omega) only [lg_cmp_ge, lg_cmp_le, lg_cmp_gt, lg_cmp_lt, lg_cmp_eq, eL_0, eL_1, eL_m1, eL_LO, eL_HI, eL_W, eL_add, eL_sub, eL_mul, eL_neg, eL_lt, eL_le, eL_eq, eL_remN, eL_mod0, ne_eq, Int64.not_lt, Int64.not_le] at c97)
            refine ⟨rfl, rfl, ?_⟩
            unfold logS
            first
              | exact absurd c151 c70
              | (rw [if_pos ⟨e1, e2⟩]
                 unfold bitS
                 first
                   | (rw [if_pos (by first | exact (nI_eq (b := 12) (by omega) (by omega)).mp c19)]; done)
                   | (rw [if_neg (fun z => c19 (by rw [z]; rfl)), if_pos (by first | exact (nI_eq (b := 13) (by omega) (by omega)).mp c37)]; done)
                   | (rw [if_neg (fun z => c19 (by rw [z]; rfl)), if_neg (fun z => c37 (by rw [z]; rfl))]; done))
              | (rw [if_neg n1, if_pos (by first | exact (nI_eq (b := 12) (by omega) (by omega)).mp c70)]
                 first
                   | (rw [if_pos (by omega), mSpan_mk (by omega) (by omega) (by omega) (by omega)]; done)
                   | (rw [if_neg (by omega), if_pos (by omega), mSpan_mk (by omega) (by omega) (by omega) (by omega)]; done)
                   | (rw [if_neg (by omega), if_neg (by omega), if_pos (by omega), mSpan_mk (by omega) (by omega) (by omega) (by omega)]; done)
                   | (rw [if_neg (by omega), if_neg (by omega), if_neg (by omega)]; done))
              | (rw [if_neg n1, if_neg (fun z => c151 (by rw [z]; rfl)), if_neg (by omega)]; done)
  · refine gi_aload_n (q := 8) (i := 3) C (dm_Re_combine 3 rfl) rfl rfl rfl ?_
    refine gi_callv 0 (q := 11) C (dm_Re_combine 4 rfl) rfl my_Va_isSingle lk_Re_39 im_Va_isSingle rfl (c_Va_isSingle ay _ hb) hb rfl rfl ⟨(Nat.le_of_ble_eq_true rfl), (Nat.le_of_ble_eq_true rfl)⟩ (Nat.le_of_ble_eq_true rfl) ⟨(Nat.le_of_ble_eq_true rfl), (Nat.le_of_ble_eq_true rfl)⟩ (fun r8 n8 h8 e8 => ?_)
    obtain ⟨rfl, q8, u8⟩ := e8
    rw [q8, u8]
    refine gi_if_eq (q := 14) (tgt := 67) C (dm_Re_combine 5 rfl) rfl (by decide) (fun c11 => ?_) (fun c11 => ?_)
    · have n1 : ¬ (x.1 = x.2.1 ∧ y.1 = y.2.1) := by
        first
          | exact fun q => sgF (by omega) (by omega) (by omega) (by omega) c4 q.1
          | exact fun q => sgF (by omega) (by omega) (by omega) (by omega) c11 q.2
      refine gi_iload_n (q := 68) (i := 1) C (dm_Re_combine 32 rfl) rfl rfl rfl ?_
      refine gi_bipush (q := 70) (v := 12) C (dm_Re_combine 33 rfl) rfl (by decide) ?_
      refine gi_icmp_ne (q := 73) (tgt := 148) C (dm_Re_combine 34 rfl) rfl (by decide) (fun c70 => ?_) (fun c70 => ?_)
      · refine gi_iload_n (q := 149) (i := 1) C (dm_Re_combine 73 rfl) rfl rfl rfl ?_
        refine gi_bipush (q := 151) (v := 12) C (dm_Re_combine 74 rfl) rfl (by decide) ?_
        refine gi_icmp_eq (q := 154) (tgt := 250) C (dm_Re_combine 75 rfl) rfl (by decide) (fun c151 => ?_) (fun c151 => ?_)
        · refine gi_aload (q := 252) C (dm_Re_combine 124 rfl) rfl rfl ?_
          refine gi_callv 0 (q := 255) C (dm_Re_combine 125 rfl) rfl my_Va_beAll lk_Re_63 im_Va_beAll rfl (c_Va_beAll ao v hc) hc rfl rfl ⟨(Nat.le_of_ble_eq_true rfl), (Nat.le_of_ble_eq_true rfl)⟩ (Nat.le_of_ble_eq_true rfl) ⟨(Nat.le_of_ble_eq_true rfl), (Nat.le_of_ble_eq_true rfl)⟩ (fun r252 n252 h252 e252 => ?_)
          obtain ⟨rfl, rfl, rfl⟩ := e252
          refine gi_vret C hr (dm_Re_combine 126 rfl) ?_
          (try simp (disch := omega) only [lg_cmp_ge, lg_cmp_le, lg_cmp_gt, lg_cmp_lt, lg_cmp_eq, eL_0, eL_1, eL_m1, eL_LO, eL_HI, eL_W, eL_add, eL_sub, eL_mul, eL_neg, eL_lt, eL_le, eL_eq, eL_remN, eL_mod0, ne_eq, Int64.not_lt, Int64.not_le] at c4)
          (try simp (disch := omega) only [lg_cmp_ge, lg_cmp_le, lg_cmp_gt, lg_cmp_lt, lg_cmp_eq, eL_0, eL_1, eL_m1, eL_LO, eL_HI, eL_W, eL_add, eL_sub, eL_mul, eL_neg, eL_lt, eL_le, eL_eq, eL_remN, eL_mod0, ne_eq, Int64.not_lt, Int64.not_le] at c11)
          (try simp (disch := omega) only [lg_cmp_ge, lg_cmp_le, lg_cmp_gt, lg_cmp_lt, lg_cmp_eq, eL_0, eL_1, eL_m1, eL_LO, eL_HI, eL_W, eL_add, eL_sub, eL_mul, eL_neg, eL_lt, eL_le, eL_eq, eL_remN, eL_mod0, ne_eq, Int64.not_lt, Int64.not_le] at c70)
          (try simp (disch := omega) only [lg_cmp_ge, lg_cmp_le, lg_cmp_gt, lg_cmp_lt, lg_cmp_eq, eL_0, eL_1, eL_m1, eL_LO, eL_HI, eL_W, eL_add, eL_sub, eL_mul, eL_neg, eL_lt, eL_le, eL_eq, eL_remN, eL_mod0, ne_eq, Int64.not_lt, Int64.not_le] at c151)
          refine ⟨rfl, rfl, ?_⟩
          unfold logS
          first
            | exact absurd c151 c70
            | (rw [if_pos ⟨e1, e2⟩]
               unfold bitS
               first
                 | (rw [if_pos (by first | exact (nI_eq (b := 12) (by omega) (by omega)).mp c19)]; done)
                 | (rw [if_neg (fun z => c19 (by rw [z]; rfl)), if_pos (by first | exact (nI_eq (b := 13) (by omega) (by omega)).mp c37)]; done)
                 | (rw [if_neg (fun z => c19 (by rw [z]; rfl)), if_neg (fun z => c37 (by rw [z]; rfl))]; done))
            | (rw [if_neg n1, if_pos (by first | exact (nI_eq (b := 12) (by omega) (by omega)).mp c70)]
               first
                 | (rw [if_pos (by omega), mSpan_mk (by omega) (by omega) (by omega) (by omega)]; done)
                 | (rw [if_neg (by omega), if_pos (by omega), mSpan_mk (by omega) (by omega) (by omega) (by omega)]; done)
                 | (rw [if_neg (by omega), if_neg (by omega), if_pos (by omega), mSpan_mk (by omega) (by omega) (by omega) (by omega)]; done)
                 | (rw [if_neg (by omega), if_neg (by omega), if_neg (by omega)]; done))
            | (rw [if_neg n1, if_neg (fun z => c151 (by rw [z]; rfl)), if_neg (by omega)]; done)
        · refine gi_aload_n (q := 155) (i := 2) C (dm_Re_combine 76 rfl) rfl rfl rfl ?_
          refine gi_get (q := 158) C (dm_Re_combine 77 rfl) rfl fl_Re_21 (by repeat (first | exact gi_up_self _ _ _ | assumption | rw [gi_up_ne (by omega)])) rfl ?_
          refine gi_lconst (q := 159) (v := 0) C (dm_Re_combine 78 rfl) rfl (by decide) ?_
          refine gi_lcmp (q := 160) C (dm_Re_combine 79 rfl) rfl ?_
          refine gi_if_lt (q := 163) (tgt := 250) C (dm_Re_combine 80 rfl) rfl (by decide) (fun c160 => ?_) (fun c160 => ?_)
          · refine gi_aload (q := 252) C (dm_Re_combine 124 rfl) rfl rfl ?_
            refine gi_callv 0 (q := 255) C (dm_Re_combine 125 rfl) rfl my_Va_beAll lk_Re_63 im_Va_beAll rfl (c_Va_beAll ao v hc) hc rfl rfl ⟨(Nat.le_of_ble_eq_true rfl), (Nat.le_of_ble_eq_true rfl)⟩ (Nat.le_of_ble_eq_true rfl) ⟨(Nat.le_of_ble_eq_true rfl), (Nat.le_of_ble_eq_true rfl)⟩ (fun r252 n252 h252 e252 => ?_)
            obtain ⟨rfl, rfl, rfl⟩ := e252
            refine gi_vret C hr (dm_Re_combine 126 rfl) ?_
            (try simp (disch := omega) only [lg_cmp_ge, lg_cmp_le, lg_cmp_gt, lg_cmp_lt, lg_cmp_eq, eL_0, eL_1, eL_m1, eL_LO, eL_HI, eL_W, eL_add, eL_sub, eL_mul, eL_neg, eL_lt, eL_le, eL_eq, eL_remN, eL_mod0, ne_eq, Int64.not_lt, Int64.not_le] at c4)
            (try simp (disch := omega) only [lg_cmp_ge, lg_cmp_le, lg_cmp_gt, lg_cmp_lt, lg_cmp_eq, eL_0, eL_1, eL_m1, eL_LO, eL_HI, eL_W, eL_add, eL_sub, eL_mul, eL_neg, eL_lt, eL_le, eL_eq, eL_remN, eL_mod0, ne_eq, Int64.not_lt, Int64.not_le] at c11)
            (try simp (disch := omega) only [lg_cmp_ge, lg_cmp_le, lg_cmp_gt, lg_cmp_lt, lg_cmp_eq, eL_0, eL_1, eL_m1, eL_LO, eL_HI, eL_W, eL_add, eL_sub, eL_mul, eL_neg, eL_lt, eL_le, eL_eq, eL_remN, eL_mod0, ne_eq, Int64.not_lt, Int64.not_le] at c70)
            (try simp (disch := omega) only [lg_cmp_ge, lg_cmp_le, lg_cmp_gt, lg_cmp_lt, lg_cmp_eq, eL_0, eL_1, eL_m1, eL_LO, eL_HI, eL_W, eL_add, eL_sub, eL_mul, eL_neg, eL_lt, eL_le, eL_eq, eL_remN, eL_mod0, ne_eq, Int64.not_lt, Int64.not_le] at c151)
            (try simp (disch := omega) only [lg_cmp_ge, lg_cmp_le, lg_cmp_gt, lg_cmp_lt, lg_cmp_eq, eL_0, eL_1, eL_m1, eL_LO, eL_HI, eL_W, eL_add, eL_sub, eL_mul, eL_neg, eL_lt, eL_le, eL_eq, eL_remN, eL_mod0, ne_eq, Int64.not_lt, Int64.not_le] at c160)
            refine ⟨rfl, rfl, ?_⟩
            unfold logS
            first
              | exact absurd c151 c70
              | (rw [if_pos ⟨e1, e2⟩]
                 unfold bitS
                 first
                   | (rw [if_pos (by first | exact (nI_eq (b := 12) (by omega) (by omega)).mp c19)]; done)
                   | (rw [if_neg (fun z => c19 (by rw [z]; rfl)), if_pos (by first | exact (nI_eq (b := 13) (by omega) (by omega)).mp c37)]; done)
                   | (rw [if_neg (fun z => c19 (by rw [z]; rfl)), if_neg (fun z => c37 (by rw [z]; rfl))]; done))
              | (rw [if_neg n1, if_pos (by first | exact (nI_eq (b := 12) (by omega) (by omega)).mp c70)]
                 first
                   | (rw [if_pos (by omega), mSpan_mk (by omega) (by omega) (by omega) (by omega)]; done)
                   | (rw [if_neg (by omega), if_pos (by omega), mSpan_mk (by omega) (by omega) (by omega) (by omega)]; done)
                   | (rw [if_neg (by omega), if_neg (by omega), if_pos (by omega), mSpan_mk (by omega) (by omega) (by omega) (by omega)]; done)
                   | (rw [if_neg (by omega), if_neg (by omega), if_neg (by omega)]; done))
              | (rw [if_neg n1, if_neg (fun z => c151 (by rw [z]; rfl)), if_neg (by omega)]; done)
          · refine gi_aload_n (q := 164) (i := 3) C (dm_Re_combine 81 rfl) rfl rfl rfl ?_
            refine gi_get (q := 167) C (dm_Re_combine 82 rfl) rfl fl_Re_21 (by repeat (first | exact gi_up_self _ _ _ | assumption | rw [gi_up_ne (by omega)])) rfl ?_
            refine gi_lconst (q := 168) (v := 0) C (dm_Re_combine 83 rfl) rfl (by decide) ?_
            refine gi_lcmp (q := 169) C (dm_Re_combine 84 rfl) rfl ?_
            refine gi_if_lt (q := 172) (tgt := 250) C (dm_Re_combine 85 rfl) rfl (by decide) (fun c169 => ?_) (fun c169 => ?_)
            · refine gi_aload (q := 252) C (dm_Re_combine 124 rfl) rfl rfl ?_
              refine gi_callv 0 (q := 255) C (dm_Re_combine 125 rfl) rfl my_Va_beAll lk_Re_63 im_Va_beAll rfl (c_Va_beAll ao v hc) hc rfl rfl ⟨(Nat.le_of_ble_eq_true rfl), (Nat.le_of_ble_eq_true rfl)⟩ (Nat.le_of_ble_eq_true rfl) ⟨(Nat.le_of_ble_eq_true rfl), (Nat.le_of_ble_eq_true rfl)⟩ (fun r252 n252 h252 e252 => ?_)
              obtain ⟨rfl, rfl, rfl⟩ := e252
              refine gi_vret C hr (dm_Re_combine 126 rfl) ?_
              (try simp (disch := omega) only [lg_cmp_ge, lg_cmp_le, lg_cmp_gt, lg_cmp_lt, lg_cmp_eq, eL_0, eL_1, eL_m1, eL_LO, eL_HI, eL_W, eL_add, eL_sub, eL_mul, eL_neg, eL_lt, eL_le, eL_eq, eL_remN, eL_mod0, ne_eq, Int64.not_lt, Int64.not_le] at c4)
              (try simp (disch := omega) only [lg_cmp_ge, lg_cmp_le, lg_cmp_gt, lg_cmp_lt, lg_cmp_eq, eL_0, eL_1, eL_m1, eL_LO, eL_HI, eL_W, eL_add, eL_sub, eL_mul, eL_neg, eL_lt, eL_le, eL_eq, eL_remN, eL_mod0, ne_eq, Int64.not_lt, Int64.not_le] at c11)
              (try simp (disch := omega) only [lg_cmp_ge, lg_cmp_le, lg_cmp_gt, lg_cmp_lt, lg_cmp_eq, eL_0, eL_1, eL_m1, eL_LO, eL_HI, eL_W, eL_add, eL_sub, eL_mul, eL_neg, eL_lt, eL_le, eL_eq, eL_remN, eL_mod0, ne_eq, Int64.not_lt, Int64.not_le] at c70)
              (try simp (disch := omega) only [lg_cmp_ge, lg_cmp_le, lg_cmp_gt, lg_cmp_lt, lg_cmp_eq, eL_0, eL_1, eL_m1, eL_LO, eL_HI, eL_W, eL_add, eL_sub, eL_mul, eL_neg, eL_lt, eL_le, eL_eq, eL_remN, eL_mod0, ne_eq, Int64.not_lt, Int64.not_le] at c151)
              (try simp (disch := omega) only [lg_cmp_ge, lg_cmp_le, lg_cmp_gt, lg_cmp_lt, lg_cmp_eq, eL_0, eL_1, eL_m1, eL_LO, eL_HI, eL_W, eL_add, eL_sub, eL_mul, eL_neg, eL_lt, eL_le, eL_eq, eL_remN, eL_mod0, ne_eq, Int64.not_lt, Int64.not_le] at c160)
              (try simp (disch := omega) only [lg_cmp_ge, lg_cmp_le, lg_cmp_gt, lg_cmp_lt, lg_cmp_eq, eL_0, eL_1, eL_m1, eL_LO, eL_HI, eL_W, eL_add, eL_sub, eL_mul, eL_neg, eL_lt, eL_le, eL_eq, eL_remN, eL_mod0, ne_eq, Int64.not_lt, Int64.not_le] at c169)
              refine ⟨rfl, rfl, ?_⟩
              unfold logS
              first
                | exact absurd c151 c70
                | (rw [if_pos ⟨e1, e2⟩]
                   unfold bitS
                   first
                     | (rw [if_pos (by first | exact (nI_eq (b := 12) (by omega) (by omega)).mp c19)]; done)
                     | (rw [if_neg (fun z => c19 (by rw [z]; rfl)), if_pos (by first | exact (nI_eq (b := 13) (by omega) (by omega)).mp c37)]; done)
                     | (rw [if_neg (fun z => c19 (by rw [z]; rfl)), if_neg (fun z => c37 (by rw [z]; rfl))]; done))
                | (rw [if_neg n1, if_pos (by first | exact (nI_eq (b := 12) (by omega) (by omega)).mp c70)]
                   first
                     | (rw [if_pos (by omega), mSpan_mk (by omega) (by omega) (by omega) (by omega)]; done)
                     | (rw [if_neg (by omega), if_pos (by omega), mSpan_mk (by omega) (by omega) (by omega) (by omega)]; done)
                     | (rw [if_neg (by omega), if_neg (by omega), if_pos (by omega), mSpan_mk (by omega) (by omega) (by omega) (by omega)]; done)
                     | (rw [if_neg (by omega), if_neg (by omega), if_neg (by omega)]; done))
                | (rw [if_neg n1, if_neg (fun z => c151 (by rw [z]; rfl)), if_neg (by omega)]; done)
            · have n12 : ¬ op = 12 := fun z => c151 (by rw [z]; rfl)
              refine gi_lconst (q := 173) (v := 0) C (dm_Re_combine 86 rfl) rfl (by decide) ?_
              refine gi_lstore (q := 175) C (dm_Re_combine 87 rfl) rfl (Nat.le_of_ble_eq_true rfl) ?_
              refine gi_iconst (q := 176) (v := 0) C (dm_Re_combine 88 rfl) rfl (by decide) ?_
              refine gi_istore (q := 178) C (dm_Re_combine 89 rfl) rfl (Nat.le_of_ble_eq_true rfl) ?_
              (try simp (disch := omega) only [lg_cmp_ge, lg_cmp_le, lg_cmp_gt, lg_cmp_lt, lg_cmp_eq, eL_0, eL_1, eL_m1, eL_LO, eL_HI, eL_W, eL_add, eL_sub, eL_mul, eL_neg, eL_lt, eL_le, eL_eq, eL_remN, eL_mod0, ne_eq, Int64.not_lt, Int64.not_le] at c4)
              (try simp (disch := omega) only [lg_cmp_ge, lg_cmp_le, lg_cmp_gt, lg_cmp_lt, lg_cmp_eq, eL_0, eL_1, eL_m1, eL_LO, eL_HI, eL_W, eL_add, eL_sub, eL_mul, eL_neg, eL_lt, eL_le, eL_eq, eL_remN, eL_mod0, ne_eq, Int64.not_lt, Int64.not_le] at c11)
              (try simp (disch := omega) only [lg_cmp_ge, lg_cmp_le, lg_cmp_gt, lg_cmp_lt, lg_cmp_eq, eL_0, eL_1, eL_m1, eL_LO, eL_HI, eL_W, eL_add, eL_sub, eL_mul, eL_neg, eL_lt, eL_le, eL_eq, eL_remN, eL_mod0, ne_eq, Int64.not_lt, Int64.not_le] at c70)
              (try simp (disch := omega) only [lg_cmp_ge, lg_cmp_le, lg_cmp_gt, lg_cmp_lt, lg_cmp_eq, eL_0, eL_1, eL_m1, eL_LO, eL_HI, eL_W, eL_add, eL_sub, eL_mul, eL_neg, eL_lt, eL_le, eL_eq, eL_remN, eL_mod0, ne_eq, Int64.not_lt, Int64.not_le] at c151)
              (try simp (disch := omega) only [lg_cmp_ge, lg_cmp_le, lg_cmp_gt, lg_cmp_lt, lg_cmp_eq, eL_0, eL_1, eL_m1, eL_LO, eL_HI, eL_W, eL_add, eL_sub, eL_mul, eL_neg, eL_lt, eL_le, eL_eq, eL_remN, eL_mod0, ne_eq, Int64.not_lt, Int64.not_le] at c160)
              (try simp (disch := omega) only [lg_cmp_ge, lg_cmp_le, lg_cmp_gt, lg_cmp_lt, lg_cmp_eq, eL_0, eL_1, eL_m1, eL_LO, eL_HI, eL_W, eL_add, eL_sub, eL_mul, eL_neg, eL_lt, eL_le, eL_eq, eL_remN, eL_mod0, ne_eq, Int64.not_lt, Int64.not_le] at c169)
              refine gi_while (σ := Nat × Int) (fun p => 31 - p.1) (fun p => [(7, .int (nI p.1)), (5, .long (eL p.2)), (0, .ref r), (1, .int (nI op)), (2, .ref ax), (3, .ref ay), (4, .ref ao)]) (fun _ => n) (fun _ => 0) (fun _ => 0) (fun p y' => p.1 ≤ 31 ∧ 0 ≤ p.2 ∧ p.2 ≤ 4294967296 ∧ topF 31 0 (max x.2.1 y.2.1) = topF (31 - p.1) p.2 (max x.2.1 y.2.1) ∧ y' = h) (0, 0) ⟨by decide, by decide, by decide, rfl, rfl⟩ ?_ (List.forall_mem_cons.mpr ⟨rfl, List.forall_mem_cons.mpr ⟨rfl, List.forall_mem_cons.mpr ⟨rfl, List.forall_mem_cons.mpr ⟨rfl, List.forall_mem_cons.mpr ⟨rfl, List.forall_mem_cons.mpr ⟨rfl, List.forall_mem_cons.mpr ⟨rfl, fun _ h => absurd h List.not_mem_nil⟩⟩⟩⟩⟩⟩⟩) rfl rfl rfl
              rintro ⟨i, tt⟩ y' ⟨hi, t1, t2, hT, rfl⟩ ih
              try dsimp only at *
              refine gi_iload (q := 180) C (dm_Re_combine 90 rfl) rfl rfl ?_
              refine gi_bipush (q := 182) (v := 31) C (dm_Re_combine 91 rfl) rfl (by decide) ?_
              refine gi_icmp_ge (q := 185) (tgt := 218) C (dm_Re_combine 92 rfl) rfl (by decide) (fun c182 => ?_) (fun c182 => ?_)
              · (try simp (disch := omega) only [lg_cmp_ge, lg_cmp_le, lg_cmp_gt, lg_cmp_lt, lg_cmp_eq, eL_0, eL_1, eL_m1, eL_LO, eL_HI, eL_W, eL_add, eL_sub, eL_mul, eL_neg, eL_lt, eL_le, eL_eq, eL_remN, eL_mod0, ne_eq, Int64.not_lt, Int64.not_le] at c182)
                have tf : topF 31 0 (max x.2.1 y.2.1) = tt := by
                  rw [hT]
                  first
                    | (have hik : i = 31 := by
                         rcases Nat.lt_or_ge i 31 with q | q
                         · exact absurd c182 (nI_ge (b := 31) q (by omega))
                         · omega
                       rw [hik]
                       rfl)
                    | (obtain ⟨j, hj⟩ : ∃ j, 31 - i = j + 1 := ⟨31 - (i + 1), by omega⟩
                       rw [hj]
                       show (if tt < max x.2.1 y.2.1 then topF j (2 * tt + 1) (max x.2.1 y.2.1) else tt) = _
                       rw [if_neg (by omega)])
                refine gi_aload (q := 220) C (dm_Re_combine 109 rfl) rfl rfl ?_
                refine gi_iload_n (q := 221) (i := 1) C (dm_Re_combine 110 rfl) rfl rfl rfl ?_
                refine gi_bipush (q := 223) (v := 13) C (dm_Re_combine 111 rfl) rfl (by decide) ?_
                refine gi_icmp_ne (q := 226) (tgt := 240) C (dm_Re_combine 112 rfl) rfl (by decide) (fun c223 => ?_) (fun c223 => ?_)
                · refine gi_lconst (q := 241) (v := 0) C (dm_Re_combine 119 rfl) rfl (by decide) ?_
                  refine gi_lload (q := 243) C (dm_Re_combine 120 rfl) rfl rfl ?_
                  refine gi_lconst (q := 244) (v := 1) C (dm_Re_combine 121 rfl) rfl (by decide) ?_
                  try rw [eL_0]
                  rw [eL_1]
                  refine gi_callv 3 (q := 247) C (dm_Re_combine 122 rfl) rfl my_Va_beSpan lk_Re_74 im_Va_beSpan rfl (c_Va_beSpan ao v _ _ _ hc) hc rfl rfl ⟨(Nat.le_of_ble_eq_true rfl), (Nat.le_of_ble_eq_true rfl)⟩ (Nat.le_of_ble_eq_true rfl) ⟨(Nat.le_of_ble_eq_true rfl), (Nat.le_of_ble_eq_true rfl)⟩ (fun r244 n244 h244 e244 => ?_)
                  obtain ⟨rfl, rfl, rfl⟩ := e244
                  refine gi_goto (tgt := 255) C (dm_Re_combine 123 rfl) (by decide) ?_
                  refine gi_vret C hr (dm_Re_combine 126 rfl) ?_
                  refine ⟨rfl, rfl, ?_⟩
                  unfold logS
                  rw [if_neg n1, if_neg n12, if_pos (by omega), tf]
                  first
                    | (rw [if_pos (by first | exact (nI_eq (b := 13) (by omega) (by omega)).mp c223), mSpan_mk (by omega) (by omega) (by omega) (by omega)]; done)
                    | (rw [if_neg (fun z => c223 (by rw [z]; rfl)), mSpan_mk (by omega) (by omega) (by omega) (by omega)]; done)
                · refine gi_aload_n (q := 227) (i := 2) C (dm_Re_combine 113 rfl) rfl rfl rfl ?_
                  refine gi_get (q := 230) C (dm_Re_combine 114 rfl) rfl fl_Re_21 (by repeat (first | exact gi_up_self _ _ _ | assumption | rw [gi_up_ne (by omega)])) rfl ?_
                  refine gi_aload_n (q := 231) (i := 3) C (dm_Re_combine 115 rfl) rfl rfl rfl ?_
                  refine gi_get (q := 234) C (dm_Re_combine 116 rfl) rfl fl_Re_21 (by repeat (first | exact gi_up_self _ _ _ | assumption | rw [gi_up_ne (by omega)])) rfl ?_
                  refine gi_calls 2 (q := 237) C (dm_Re_combine 117 rfl) rfl my_Mt_max_0 lk_Re_80 sm_Mt_max_0 (c_Mt_max_0 x.1 y.1 (by omega) (by omega) (by omega) (by omega)) rfl rfl ⟨(Nat.le_of_ble_eq_true rfl), (Nat.le_of_ble_eq_true rfl)⟩ (Nat.le_of_ble_eq_true rfl) ⟨(Nat.le_of_ble_eq_true rfl), (Nat.le_of_ble_eq_true rfl)⟩ (fun r234 n234 h234 e234 => ?_)
                  obtain ⟨rfl, rfl, rfl⟩ := e234
                  refine gi_goto (tgt := 241) C (dm_Re_combine 118 rfl) (by decide) ?_
                  refine gi_lload (q := 243) C (dm_Re_combine 120 rfl) rfl rfl ?_
                  refine gi_lconst (q := 244) (v := 1) C (dm_Re_combine 121 rfl) rfl (by decide) ?_
                  try rw [eL_0]
                  rw [eL_1]
                  refine gi_callv 3 (q := 247) C (dm_Re_combine 122 rfl) rfl my_Va_beSpan lk_Re_74 im_Va_beSpan rfl (c_Va_beSpan ao v _ _ _ hc) hc rfl rfl ⟨(Nat.le_of_ble_eq_true rfl), (Nat.le_of_ble_eq_true rfl)⟩ (Nat.le_of_ble_eq_true rfl) ⟨(Nat.le_of_ble_eq_true rfl), (Nat.le_of_ble_eq_true rfl)⟩ (fun r244 n244 h244 e244 => ?_)
                  obtain ⟨rfl, rfl, rfl⟩ := e244
                  refine gi_goto (tgt := 255) C (dm_Re_combine 123 rfl) (by decide) ?_
                  refine gi_vret C hr (dm_Re_combine 126 rfl) ?_
                  refine ⟨rfl, rfl, ?_⟩
                  unfold logS
                  rw [if_neg n1, if_neg n12, if_pos (by omega), tf]
                  first
                    | (rw [if_pos (by first | exact (nI_eq (b := 13) (by omega) (by omega)).mp c223), mSpan_mk (by omega) (by omega) (by omega) (by omega)]; done)
                    | (rw [if_neg (fun z => c223 (by rw [z]; rfl)), mSpan_mk (by omega) (by omega) (by omega) (by omega)]; done)
              · have hlt : i < 31 := by
                  rcases Nat.lt_or_ge i 31 with q | q
                  · exact q
                  · exact absurd (nI_le (a := 31) q (by omega)) c182
                refine gi_lload (q := 187) C (dm_Re_combine 93 rfl) rfl rfl ?_
                refine gi_aload_n (q := 188) (i := 2) C (dm_Re_combine 94 rfl) rfl rfl rfl ?_
                refine gi_get (q := 191) C (dm_Re_combine 95 rfl) rfl fl_Re_25 (by repeat (first | exact gi_up_self _ _ _ | assumption | rw [gi_up_ne (by omega)])) rfl ?_
                refine gi_aload_n (q := 192) (i := 3) C (dm_Re_combine 96 rfl) rfl rfl rfl ?_
                refine gi_get (q := 195) C (dm_Re_combine 97 rfl) rfl fl_Re_25 (by repeat (first | exact gi_up_self _ _ _ | assumption | rw [gi_up_ne (by omega)])) rfl ?_
                refine gi_calls 2 (q := 198) C (dm_Re_combine 98 rfl) rfl my_Mt_max_0 lk_Re_80 sm_Mt_max_0 (c_Mt_max_0 x.2.1 y.2.1 (by omega) (by omega) (by omega) (by omega)) rfl rfl ⟨(Nat.le_of_ble_eq_true rfl), (Nat.le_of_ble_eq_true rfl)⟩ (Nat.le_of_ble_eq_true rfl) ⟨(Nat.le_of_ble_eq_true rfl), (Nat.le_of_ble_eq_true rfl)⟩ (fun r195 n195 h195 e195 => ?_)
                obtain ⟨rfl, rfl, rfl⟩ := e195
                refine gi_lcmp (q := 199) C (dm_Re_combine 99 rfl) rfl ?_
                refine gi_if_ge (q := 202) (tgt := 218) C (dm_Re_combine 100 rfl) rfl (by decide) (fun c199 => ?_) (fun c199 => ?_)
                · (try simp (disch := omega) only [lg_cmp_ge, lg_cmp_le, lg_cmp_gt, lg_cmp_lt, lg_cmp_eq, eL_0, eL_1, eL_m1, eL_LO, eL_HI, eL_W, eL_add, eL_sub, eL_mul, eL_neg, eL_lt, eL_le, eL_eq, eL_remN, eL_mod0, ne_eq, Int64.not_lt, Int64.not_le] at c182)
                  (try simp (disch := omega) only [lg_cmp_ge, lg_cmp_le, lg_cmp_gt, lg_cmp_lt, lg_cmp_eq, eL_0, eL_1, eL_m1, eL_LO, eL_HI, eL_W, eL_add, eL_sub, eL_mul, eL_neg, eL_lt, eL_le, eL_eq, eL_remN, eL_mod0, ne_eq, Int64.not_lt, Int64.not_le] at c199)
                  have tf : topF 31 0 (max x.2.1 y.2.1) = tt := by
                    rw [hT]
                    first
                      | (have hik : i = 31 := by
                           rcases Nat.lt_or_ge i 31 with q | q
                           · exact absurd c182 (nI_ge (b := 31) q (by omega))
                           · omega
                         rw [hik]
                         rfl)
                      | (obtain ⟨j, hj⟩ : ∃ j, 31 - i = j + 1 := ⟨31 - (i + 1), by omega⟩
                         rw [hj]
                         show (if tt < max x.2.1 y.2.1 then topF j (2 * tt + 1) (max x.2.1 y.2.1) else tt) = _
                         rw [if_neg (by omega)])
                  refine gi_aload (q := 220) C (dm_Re_combine 109 rfl) rfl rfl ?_
                  refine gi_iload_n (q := 221) (i := 1) C (dm_Re_combine 110 rfl) rfl rfl rfl ?_
                  refine gi_bipush (q := 223) (v := 13) C (dm_Re_combine 111 rfl) rfl (by decide) ?_
                  refine gi_icmp_ne (q := 226) (tgt := 240) C (dm_Re_combine 112 rfl) rfl (by decide) (fun c223 => ?_) (fun c223 => ?_)
                  · refine gi_lconst (q := 241) (v := 0) C (dm_Re_combine 119 rfl) rfl (by decide) ?_
                    refine gi_lload (q := 243) C (dm_Re_combine 120 rfl) rfl rfl ?_
                    refine gi_lconst (q := 244) (v := 1) C (dm_Re_combine 121 rfl) rfl (by decide) ?_
                    try rw [eL_0]
                    rw [eL_1]
                    refine gi_callv 3 (q := 247) C (dm_Re_combine 122 rfl) rfl my_Va_beSpan lk_Re_74 im_Va_beSpan rfl (c_Va_beSpan ao v _ _ _ hc) hc rfl rfl ⟨(Nat.le_of_ble_eq_true rfl), (Nat.le_of_ble_eq_true rfl)⟩ (Nat.le_of_ble_eq_true rfl) ⟨(Nat.le_of_ble_eq_true rfl), (Nat.le_of_ble_eq_true rfl)⟩ (fun r244 n244 h244 e244 => ?_)
                    obtain ⟨rfl, rfl, rfl⟩ := e244
                    refine gi_goto (tgt := 255) C (dm_Re_combine 123 rfl) (by decide) ?_
                    refine gi_vret C hr (dm_Re_combine 126 rfl) ?_
                    refine ⟨rfl, rfl, ?_⟩
                    unfold logS
                    rw [if_neg n1, if_neg n12, if_pos (by omega), tf]
                    first
                      | (rw [if_pos (by first | exact (nI_eq (b := 13) (by omega) (by omega)).mp c223), mSpan_mk (by omega) (by omega) (by omega) (by omega)]; done)
                      | (rw [if_neg (fun z => c223 (by rw [z]; rfl)), mSpan_mk (by omega) (by omega) (by omega) (by omega)]; done)
                  · refine gi_aload_n (q := 227) (i := 2) C (dm_Re_combine 113 rfl) rfl rfl rfl ?_
                    refine gi_get (q := 230) C (dm_Re_combine 114 rfl) rfl fl_Re_21 (by repeat (first | exact gi_up_self _ _ _ | assumption | rw [gi_up_ne (by omega)])) rfl ?_
                    refine gi_aload_n (q := 231) (i := 3) C (dm_Re_combine 115 rfl) rfl rfl rfl ?_
                    refine gi_get (q := 234) C (dm_Re_combine 116 rfl) rfl fl_Re_21 (by repeat (first | exact gi_up_self _ _ _ | assumption | rw [gi_up_ne (by omega)])) rfl ?_
                    refine gi_calls 2 (q := 237) C (dm_Re_combine 117 rfl) rfl my_Mt_max_0 lk_Re_80 sm_Mt_max_0 (c_Mt_max_0 x.1 y.1 (by omega) (by omega) (by omega) (by omega)) rfl rfl ⟨(Nat.le_of_ble_eq_true rfl), (Nat.le_of_ble_eq_true rfl)⟩ (Nat.le_of_ble_eq_true rfl) ⟨(Nat.le_of_ble_eq_true rfl), (Nat.le_of_ble_eq_true rfl)⟩ (fun r234 n234 h234 e234 => ?_)
                    obtain ⟨rfl, rfl, rfl⟩ := e234
                    refine gi_goto (tgt := 241) C (dm_Re_combine 118 rfl) (by decide) ?_
                    refine gi_lload (q := 243) C (dm_Re_combine 120 rfl) rfl rfl ?_
                    refine gi_lconst (q := 244) (v := 1) C (dm_Re_combine 121 rfl) rfl (by decide) ?_
                    try rw [eL_0]
                    rw [eL_1]
                    refine gi_callv 3 (q := 247) C (dm_Re_combine 122 rfl) rfl my_Va_beSpan lk_Re_74 im_Va_beSpan rfl (c_Va_beSpan ao v _ _ _ hc) hc rfl rfl ⟨(Nat.le_of_ble_eq_true rfl), (Nat.le_of_ble_eq_true rfl)⟩ (Nat.le_of_ble_eq_true rfl) ⟨(Nat.le_of_ble_eq_true rfl), (Nat.le_of_ble_eq_true rfl)⟩ (fun r244 n244 h244 e244 => ?_)
                    obtain ⟨rfl, rfl, rfl⟩ := e244
                    refine gi_goto (tgt := 255) C (dm_Re_combine 123 rfl) (by decide) ?_
                    refine gi_vret C hr (dm_Re_combine 126 rfl) ?_
                    refine ⟨rfl, rfl, ?_⟩
                    unfold logS
                    rw [if_neg n1, if_neg n12, if_pos (by omega), tf]
                    first
                      | (rw [if_pos (by first | exact (nI_eq (b := 13) (by omega) (by omega)).mp c223), mSpan_mk (by omega) (by omega) (by omega) (by omega)]; done)
                      | (rw [if_neg (fun z => c223 (by rw [z]; rfl)), mSpan_mk (by omega) (by omega) (by omega) (by omega)]; done)
                · refine gi_lload (q := 204) C (dm_Re_combine 101 rfl) rfl rfl ?_
                  
                  refine gi_ldc2 (q := 207) C (dm_Re_combine 102 rfl) rfl kc_Re_130 ?_
                  
                  refine gi_lmul (q := 208) C (dm_Re_combine 103 rfl) rfl ?_
                  rw [eL_2, eL_mul]
                  refine gi_lconst (q := 209) (v := 1) C (dm_Re_combine 104 rfl) rfl (by decide) ?_
                  refine gi_ladd (q := 210) C (dm_Re_combine 105 rfl) rfl ?_
                  rw [eL_1, eL_add]
                  refine gi_lstore (q := 212) C (dm_Re_combine 106 rfl) rfl (Nat.le_of_ble_eq_true rfl) ?_
                  (try simp (disch := omega) only [lg_cmp_ge, lg_cmp_le, lg_cmp_gt, lg_cmp_lt, lg_cmp_eq, eL_0, eL_1, eL_m1, eL_LO, eL_HI, eL_W, eL_add, eL_sub, eL_mul, eL_neg, eL_lt, eL_le, eL_eq, eL_remN, eL_mod0, ne_eq, Int64.not_lt, Int64.not_le] at c182)
                  (try simp (disch := omega) only [lg_cmp_ge, lg_cmp_le, lg_cmp_gt, lg_cmp_lt, lg_cmp_eq, eL_0, eL_1, eL_m1, eL_LO, eL_HI, eL_W, eL_add, eL_sub, eL_mul, eL_neg, eL_lt, eL_le, eL_eq, eL_remN, eL_mod0, ne_eq, Int64.not_lt, Int64.not_le] at c199)
                  have t3 : topF (31 - i) tt (max x.2.1 y.2.1) = topF (31 - (i + 1)) (tt * 2 + 1) (max x.2.1 y.2.1) := by
                    obtain ⟨j, hj⟩ : ∃ j, 31 - i = j + 1 := ⟨31 - (i + 1), by omega⟩
                    rw [show 31 - (i + 1) = j by omega, hj]
                    show (if tt < max x.2.1 y.2.1 then topF j (2 * tt + 1) (max x.2.1 y.2.1) else tt) = _
                    rw [if_pos (by omega), Int.mul_comm]
                  refine gi_iinc (q := 215) (v := 1) C (dm_Re_combine 107 rfl) rfl rfl (by decide) (Nat.le_of_ble_eq_true rfl) ?_
                  refine gi_goto (tgt := 178) C (dm_Re_combine 108 rfl) (by decide) ?_
                  refine gi_close (ih (i + 1, tt * 2 + 1) _ ⟨hlt, by simp only; omega, by simp only; omega, by rw [hT, t3], rfl⟩ (by simp only; omega)) (List.forall_mem_cons.mpr ⟨(by simp [gi_look, nI_1]), List.forall_mem_cons.mpr ⟨rfl, List.forall_mem_cons.mpr ⟨rfl, List.forall_mem_cons.mpr ⟨rfl, List.forall_mem_cons.mpr ⟨rfl, List.forall_mem_cons.mpr ⟨rfl, List.forall_mem_cons.mpr ⟨rfl, fun _ h => absurd h List.not_mem_nil⟩⟩⟩⟩⟩⟩⟩) rfl rfl rfl
      · refine gi_aload_n (q := 74) (i := 2) C (dm_Re_combine 35 rfl) rfl rfl rfl ?_
        refine gi_get (q := 77) C (dm_Re_combine 36 rfl) rfl fl_Re_21 (by repeat (first | exact gi_up_self _ _ _ | assumption | rw [gi_up_ne (by omega)])) rfl ?_
        refine gi_lconst (q := 78) (v := 0) C (dm_Re_combine 37 rfl) rfl (by decide) ?_
        refine gi_lcmp (q := 79) C (dm_Re_combine 38 rfl) rfl ?_
        refine gi_if_ge (q := 82) (tgt := 91) C (dm_Re_combine 39 rfl) rfl (by decide) (fun c79 => ?_) (fun c79 => ?_)
        · refine gi_aload_n (q := 92) (i := 2) C (dm_Re_combine 45 rfl) rfl rfl rfl ?_
          refine gi_get (q := 95) C (dm_Re_combine 46 rfl) rfl fl_Re_21 (by repeat (first | exact gi_up_self _ _ _ | assumption | rw [gi_up_ne (by omega)])) rfl ?_
          refine gi_lconst (q := 96) (v := 0) C (dm_Re_combine 47 rfl) rfl (by decide) ?_
          refine gi_lcmp (q := 97) C (dm_Re_combine 48 rfl) rfl ?_
          refine gi_if_ge (q := 100) (tgt := 107) C (dm_Re_combine 49 rfl) rfl (by decide) (fun c97 => ?_) (fun c97 => ?_)
          · refine gi_aload_n (q := 108) (i := 3) C (dm_Re_combine 53 rfl) rfl rfl rfl ?_
            refine gi_get (q := 111) C (dm_Re_combine 54 rfl) rfl fl_Re_21 (by repeat (first | exact gi_up_self _ _ _ | assumption | rw [gi_up_ne (by omega)])) rfl ?_
            refine gi_lconst (q := 112) (v := 0) C (dm_Re_combine 55 rfl) rfl (by decide) ?_
            refine gi_lcmp (q := 113) C (dm_Re_combine 56 rfl) rfl ?_
            refine gi_if_ge (q := 116) (tgt := 123) C (dm_Re_combine 57 rfl) rfl (by decide) (fun c113 => ?_) (fun c113 => ?_)
            · refine gi_aload_n (q := 124) (i := 2) C (dm_Re_combine 61 rfl) rfl rfl rfl ?_
              refine gi_get (q := 127) C (dm_Re_combine 62 rfl) rfl fl_Re_25 (by repeat (first | exact gi_up_self _ _ _ | assumption | rw [gi_up_ne (by omega)])) rfl ?_
              refine gi_aload_n (q := 128) (i := 3) C (dm_Re_combine 63 rfl) rfl rfl rfl ?_
              refine gi_get (q := 131) C (dm_Re_combine 64 rfl) rfl fl_Re_25 (by repeat (first | exact gi_up_self _ _ _ | assumption | rw [gi_up_ne (by omega)])) rfl ?_
              refine gi_calls 2 (q := 134) C (dm_Re_combine 65 rfl) rfl my_Mt_min_1 lk_Re_94 sm_Mt_min_1 (c_Mt_min_1 x.2.1 y.2.1 (by omega) (by omega) (by omega) (by omega)) rfl rfl ⟨(Nat.le_of_ble_eq_true rfl), (Nat.le_of_ble_eq_true rfl)⟩ (Nat.le_of_ble_eq_true rfl) ⟨(Nat.le_of_ble_eq_true rfl), (Nat.le_of_ble_eq_true rfl)⟩ (fun r131 n131 h131 e131 => ?_)
              obtain ⟨rfl, rfl, rfl⟩ := e131
              refine gi_lstore (q := 136) C (dm_Re_combine 66 rfl) rfl (Nat.le_of_ble_eq_true rfl) ?_
              refine gi_aload (q := 138) C (dm_Re_combine 67 rfl) rfl rfl ?_
              refine gi_lconst (q := 139) (v := 0) C (dm_Re_combine 68 rfl) rfl (by decide) ?_
              refine gi_lload (q := 141) C (dm_Re_combine 69 rfl) rfl rfl ?_
              refine gi_lconst (q := 142) (v := 1) C (dm_Re_combine 70 rfl) rfl (by decide) ?_
              rw [eL_0, eL_1]
              refine gi_callv 3 (q := 145) C (dm_Re_combine 71 rfl) rfl my_Va_beSpan lk_Re_74 im_Va_beSpan rfl (c_Va_beSpan ao v _ _ _ hc) hc rfl rfl ⟨(Nat.le_of_ble_eq_true rfl), (Nat.le_of_ble_eq_true rfl)⟩ (Nat.le_of_ble_eq_true rfl) ⟨(Nat.le_of_ble_eq_true rfl), (Nat.le_of_ble_eq_true rfl)⟩ (fun r142 n142 h142 e142 => ?_)
              obtain ⟨rfl, rfl, rfl⟩ := e142
              refine gi_goto (tgt := 255) C (dm_Re_combine 72 rfl) (by decide) ?_
              refine gi_vret C hr (dm_Re_combine 126 rfl) ?_
              (try simp (disch := omega) only [lg_cmp_ge, lg_cmp_le, lg_cmp_gt, lg_cmp_lt, lg_cmp_eq, eL_0, eL_1, eL_m1, eL_LO, eL_HI, eL_W, eL_add, eL_sub, eL_mul, eL_neg, eL_lt, eL_le, eL_eq, eL_remN, eL_mod0, ne_eq, Int64.not_lt, Int64.not_le] at c4)
              (try simp (disch := omega) only [lg_cmp_ge, lg_cmp_le, lg_cmp_gt, lg_cmp_lt, lg_cmp_eq, eL_0, eL_1, eL_m1, eL_LO, eL_HI, eL_W, eL_add, eL_sub, eL_mul, eL_neg, eL_lt, eL_le, eL_eq, eL_remN, eL_mod0, ne_eq, Int64.not_lt, Int64.not_le] at c11)
              (try simp (disch := omega) only [lg_cmp_ge, lg_cmp_le, lg_cmp_gt, lg_cmp_lt, lg_cmp_eq, eL_0, eL_1, eL_m1, eL_LO, eL_HI, eL_W, eL_add, eL_sub, eL_mul, eL_neg, eL_lt, eL_le, eL_eq, eL_remN, eL_mod0, ne_eq, Int64.not_lt, Int64.not_le] at c70)
              (try simp (disch := omega) only [lg_cmp_ge, lg_cmp_le, lg_cmp_gt, lg_cmp_lt, lg_cmp_eq, eL_0, eL_1, eL_m1, eL_LO, eL_HI, eL_W, eL_add, eL_sub, eL_mul, eL_neg, eL_lt, eL_le, eL_eq, eL_remN, eL_mod0, ne_eq, Int64.not_lt, Int64.not_le] at c79)
              (try simp (disch := omega) only [lg_cmp_ge, lg_cmp_le, lg_cmp_gt, lg_cmp_lt, lg_cmp_eq, eL_0, eL_1, eL_m1, eL_LO, eL_HI, eL_W, eL_add, eL_sub, eL_mul, eL_neg, eL_lt, eL_le, eL_eq, eL_remN, eL_mod0, ne_eq, Int64.not_lt, Int64.not_le] at c97)
              (try simp (disch := omega) only [lg_cmp_ge, lg_cmp_le, lg_cmp_gt, lg_cmp_lt, lg_cmp_eq, eL_0, eL_1, eL_m1, eL_LO, eL_HI, eL_W, eL_add, eL_sub, eL_mul, eL_neg, eL_lt, eL_le, eL_eq, eL_remN, eL_mod0, ne_eq, Int64.not_lt, Int64.not_le] at c113)
              refine ⟨rfl, rfl, ?_⟩
              unfold logS
              first
                | exact absurd c151 c70
                | (rw [if_pos ⟨e1, e2⟩]
                   unfold bitS
                   first
                     | (rw [if_pos (by first | exact (nI_eq (b := 12) (by omega) (by omega)).mp c19)]; done)
                     | (rw [if_neg (fun z => c19 (by rw [z]; rfl)), if_pos (by first | exact (nI_eq (b := 13) (by omega) (by omega)).mp c37)]; done)
                     | (rw [if_neg (fun z => c19 (by rw [z]; rfl)), if_neg (fun z => c37 (by rw [z]; rfl))]; done))
                | (rw [if_neg n1, if_pos (by first | exact (nI_eq (b := 12) (by omega) (by omega)).mp c70)]
                   first
                     | (rw [if_pos (by omega), mSpan_mk (by omega) (by omega) (by omega) (by omega)]; done)
                     | (rw [if_neg (by omega), if_pos (by omega), mSpan_mk (by omega) (by omega) (by omega) (by omega)]; done)
                     | (rw [if_neg (by omega), if_neg (by omega), if_pos (by omega), mSpan_mk (by omega) (by omega) (by omega) (by omega)]; done)
                     | (rw [if_neg (by omega), if_neg (by omega), if_neg (by omega)]; done))
                | (rw [if_neg n1, if_neg (fun z => c151 (by rw [z]; rfl)), if_neg (by omega)]; done)
            · refine gi_aload_n (q := 117) (i := 2) C (dm_Re_combine 58 rfl) rfl rfl rfl ?_
              refine gi_get (q := 120) C (dm_Re_combine 59 rfl) rfl fl_Re_25 (by repeat (first | exact gi_up_self _ _ _ | assumption | rw [gi_up_ne (by omega)])) rfl ?_
              refine gi_goto (tgt := 134) C (dm_Re_combine 60 rfl) (by decide) ?_
              refine gi_lstore (q := 136) C (dm_Re_combine 66 rfl) rfl (Nat.le_of_ble_eq_true rfl) ?_
              refine gi_aload (q := 138) C (dm_Re_combine 67 rfl) rfl rfl ?_
              refine gi_lconst (q := 139) (v := 0) C (dm_Re_combine 68 rfl) rfl (by decide) ?_
              refine gi_lload (q := 141) C (dm_Re_combine 69 rfl) rfl rfl ?_
              refine gi_lconst (q := 142) (v := 1) C (dm_Re_combine 70 rfl) rfl (by decide) ?_
              rw [eL_0, eL_1]
              refine gi_callv 3 (q := 145) C (dm_Re_combine 71 rfl) rfl my_Va_beSpan lk_Re_74 im_Va_beSpan rfl (c_Va_beSpan ao v _ _ _ hc) hc rfl rfl ⟨(Nat.le_of_ble_eq_true rfl), (Nat.le_of_ble_eq_true rfl)⟩ (Nat.le_of_ble_eq_true rfl) ⟨(Nat.le_of_ble_eq_true rfl), (Nat.le_of_ble_eq_true rfl)⟩ (fun r142 n142 h142 e142 => ?_)
              obtain ⟨rfl, rfl, rfl⟩ := e142
              refine gi_goto (tgt := 255) C (dm_Re_combine 72 rfl) (by decide) ?_
              refine gi_vret C hr (dm_Re_combine 126 rfl) ?_
              (try simp (disch := omega) only [lg_cmp_ge, lg_cmp_le, lg_cmp_gt, lg_cmp_lt, lg_cmp_eq, eL_0, eL_1, eL_m1, eL_LO, eL_HI, eL_W, eL_add, eL_sub, eL_mul, eL_neg, eL_lt, eL_le, eL_eq, eL_remN, eL_mod0, ne_eq, Int64.not_lt, Int64.not_le] at c4)
              (try simp (disch := omega) only [lg_cmp_ge, lg_cmp_le, lg_cmp_gt, lg_cmp_lt, lg_cmp_eq, eL_0, eL_1, eL_m1, eL_LO, eL_HI, eL_W, eL_add, eL_sub, eL_mul, eL_neg, eL_lt, eL_le, eL_eq, eL_remN, eL_mod0, ne_eq, Int64.not_lt, Int64.not_le] at c11)
              (try simp (disch := omega) only [lg_cmp_ge, lg_cmp_le, lg_cmp_gt, lg_cmp_lt, lg_cmp_eq, eL_0, eL_1, eL_m1, eL_LO, eL_HI, eL_W, eL_add, eL_sub, eL_mul, eL_neg, eL_lt, eL_le, eL_eq, eL_remN, eL_mod0, ne_eq, Int64.not_lt, Int64.not_le] at c70)
              (try simp (disch := omega) only [lg_cmp_ge, lg_cmp_le, lg_cmp_gt, lg_cmp_lt, lg_cmp_eq, eL_0, eL_1, eL_m1, eL_LO, eL_HI, eL_W, eL_add, eL_sub, eL_mul, eL_neg, eL_lt, eL_le, eL_eq, eL_remN, eL_mod0, ne_eq, Int64.not_lt, Int64.not_le] at c79)
              (try simp (disch := omega) only [lg_cmp_ge, lg_cmp_le, lg_cmp_gt, lg_cmp_lt, lg_cmp_eq, eL_0, eL_1, eL_m1, eL_LO, eL_HI, eL_W, eL_add, eL_sub, eL_mul, eL_neg, eL_lt, eL_le, eL_eq, eL_remN, eL_mod0, ne_eq, Int64.not_lt, Int64.not_le] at c97)
              (try simp (disch := omega) only [lg_cmp_ge, lg_cmp_le, lg_cmp_gt, lg_cmp_lt, lg_cmp_eq, eL_0, eL_1, eL_m1, eL_LO, eL_HI, eL_W, eL_add, eL_sub, eL_mul, eL_neg, eL_lt, eL_le, eL_eq, eL_remN, eL_mod0, ne_eq, Int64.not_lt, Int64.not_le] at c113)
              refine ⟨rfl, rfl, ?_⟩
              unfold logS
              first
                | exact absurd c151 c70
                | (rw [if_pos ⟨e1, e2⟩]
                   unfold bitS
                   first
                     | (rw [if_pos (by first | exact (nI_eq (b := 12) (by omega) (by omega)).mp c19)]; done)
                     | (rw [if_neg (fun z => c19 (by rw [z]; rfl)), if_pos (by first | exact (nI_eq (b := 13) (by omega) (by omega)).mp c37)]; done)
                     | (rw [if_neg (fun z => c19 (by rw [z]; rfl)), if_neg (fun z => c37 (by rw [z]; rfl))]; done))
                | (rw [if_neg n1, if_pos (by first | exact (nI_eq (b := 12) (by omega) (by omega)).mp c70)]
                   first
                     | (rw [if_pos (by omega), mSpan_mk (by omega) (by omega) (by omega) (by omega)]; done)
                     | (rw [if_neg (by omega), if_pos (by omega), mSpan_mk (by omega) (by omega) (by omega) (by omega)]; done)
                     | (rw [if_neg (by omega), if_neg (by omega), if_pos (by omega), mSpan_mk (by omega) (by omega) (by omega) (by omega)]; done)
                     | (rw [if_neg (by omega), if_neg (by omega), if_neg (by omega)]; done))
                | (rw [if_neg n1, if_neg (fun z => c151 (by rw [z]; rfl)), if_neg (by omega)]; done)
          · refine gi_aload_n (q := 101) (i := 3) C (dm_Re_combine 50 rfl) rfl rfl rfl ?_
            refine gi_get (q := 104) C (dm_Re_combine 51 rfl) rfl fl_Re_25 (by repeat (first | exact gi_up_self _ _ _ | assumption | rw [gi_up_ne (by omega)])) rfl ?_
            refine gi_goto (tgt := 134) C (dm_Re_combine 52 rfl) (by decide) ?_
            refine gi_lstore (q := 136) C (dm_Re_combine 66 rfl) rfl (Nat.le_of_ble_eq_true rfl) ?_
            refine gi_aload (q := 138) C (dm_Re_combine 67 rfl) rfl rfl ?_
            refine gi_lconst (q := 139) (v := 0) C (dm_Re_combine 68 rfl) rfl (by decide) ?_
            refine gi_lload (q := 141) C (dm_Re_combine 69 rfl) rfl rfl ?_
            refine gi_lconst (q := 142) (v := 1) C (dm_Re_combine 70 rfl) rfl (by decide) ?_
            rw [eL_0, eL_1]
            refine gi_callv 3 (q := 145) C (dm_Re_combine 71 rfl) rfl my_Va_beSpan lk_Re_74 im_Va_beSpan rfl (c_Va_beSpan ao v _ _ _ hc) hc rfl rfl ⟨(Nat.le_of_ble_eq_true rfl), (Nat.le_of_ble_eq_true rfl)⟩ (Nat.le_of_ble_eq_true rfl) ⟨(Nat.le_of_ble_eq_true rfl), (Nat.le_of_ble_eq_true rfl)⟩ (fun r142 n142 h142 e142 => ?_)
            obtain ⟨rfl, rfl, rfl⟩ := e142
            refine gi_goto (tgt := 255) C (dm_Re_combine 72 rfl) (by decide) ?_
            refine gi_vret C hr (dm_Re_combine 126 rfl) ?_
            (try simp (disch := omega) only [lg_cmp_ge, lg_cmp_le, lg_cmp_gt, lg_cmp_lt, lg_cmp_eq, eL_0, eL_1, eL_m1, eL_LO, eL_HI, eL_W, eL_add, eL_sub, eL_mul, eL_neg, eL_lt, eL_le, eL_eq, eL_remN, eL_mod0, ne_eq, Int64.not_lt, Int64.not_le] at c4)
            (try simp (disch := omega) only [lg_cmp_ge, lg_cmp_le, lg_cmp_gt, lg_cmp_lt, lg_cmp_eq, eL_0, eL_1, eL_m1, eL_LO, eL_HI, eL_W, eL_add, eL_sub, eL_mul, eL_neg, eL_lt, eL_le, eL_eq, eL_remN, eL_mod0, ne_eq, Int64.not_lt, Int64.not_le] at c11)
            (try simp (disch := omega) only [lg_cmp_ge, lg_cmp_le, lg_cmp_gt, lg_cmp_lt, lg_cmp_eq, eL_0, eL_1, eL_m1, eL_LO, eL_HI, eL_W, eL_add, eL_sub, eL_mul, eL_neg, eL_lt, eL_le, eL_eq, eL_remN, eL_mod0, ne_eq, Int64.not_lt, Int64.not_le] at c70)
            (try simp (disch := omega) only [lg_cmp_ge, lg_cmp_le, lg_cmp_gt, lg_cmp_lt, lg_cmp_eq, eL_0, eL_1, eL_m1, eL_LO, eL_HI, eL_W, eL_add, eL_sub, eL_mul, eL_neg, eL_lt, eL_le, eL_eq, eL_remN, eL_mod0, ne_eq, Int64.not_lt, Int64.not_le] at c79)
            (try simp (disch := omega) only [lg_cmp_ge, lg_cmp_le, lg_cmp_gt, lg_cmp_lt, lg_cmp_eq, eL_0, eL_1, eL_m1, eL_LO, eL_HI, eL_W, eL_add, eL_sub, eL_mul, eL_neg, eL_lt, eL_le, eL_eq, eL_remN, eL_mod0, ne_eq, Int64.not_lt, Int64.not_le] at c97)
            refine ⟨rfl, rfl, ?_⟩
            unfold logS
            first
              | exact absurd c151 c70
              | (rw [if_pos ⟨e1, e2⟩]
                 unfold bitS
                 first
                   | (rw [if_pos (by first | exact (nI_eq (b := 12) (by omega) (by omega)).mp c19)]; done)
                   | (rw [if_neg (fun z => c19 (by rw [z]; rfl)), if_pos (by first | exact (nI_eq (b := 13) (by omega) (by omega)).mp c37)]; done)
                   | (rw [if_neg (fun z => c19 (by rw [z]; rfl)), if_neg (fun z => c37 (by rw [z]; rfl))]; done))
              | (rw [if_neg n1, if_pos (by first | exact (nI_eq (b := 12) (by omega) (by omega)).mp c70)]
                 first
                   | (rw [if_pos (by omega), mSpan_mk (by omega) (by omega) (by omega) (by omega)]; done)
                   | (rw [if_neg (by omega), if_pos (by omega), mSpan_mk (by omega) (by omega) (by omega) (by omega)]; done)
                   | (rw [if_neg (by omega), if_neg (by omega), if_pos (by omega), mSpan_mk (by omega) (by omega) (by omega) (by omega)]; done)
                   | (rw [if_neg (by omega), if_neg (by omega), if_neg (by omega)]; done))
              | (rw [if_neg n1, if_neg (fun z => c151 (by rw [z]; rfl)), if_neg (by omega)]; done)
        · refine gi_aload_n (q := 83) (i := 3) C (dm_Re_combine 40 rfl) rfl rfl rfl ?_
          refine gi_get (q := 86) C (dm_Re_combine 41 rfl) rfl fl_Re_21 (by repeat (first | exact gi_up_self _ _ _ | assumption | rw [gi_up_ne (by omega)])) rfl ?_
          refine gi_lconst (q := 87) (v := 0) C (dm_Re_combine 42 rfl) rfl (by decide) ?_
          refine gi_lcmp (q := 88) C (dm_Re_combine 43 rfl) rfl ?_
          refine gi_if_lt (q := 91) (tgt := 148) C (dm_Re_combine 44 rfl) rfl (by decide) (fun c88 => ?_) (fun c88 => ?_)
          · refine gi_iload_n (q := 149) (i := 1) C (dm_Re_combine 73 rfl) rfl rfl rfl ?_
            refine gi_bipush (q := 151) (v := 12) C (dm_Re_combine 74 rfl) rfl (by decide) ?_
            refine gi_icmp_eq (q := 154) (tgt := 250) C (dm_Re_combine 75 rfl) rfl (by decide) (fun c151 => ?_) (fun c151 => ?_)
            · refine gi_aload (q := 252) C (dm_Re_combine 124 rfl) rfl rfl ?_
              refine gi_callv 0 (q := 255) C (dm_Re_combine 125 rfl) rfl my_Va_beAll lk_Re_63 im_Va_beAll rfl (c_Va_beAll ao v hc) hc rfl rfl ⟨(Nat.le_of_ble_eq_true rfl), (Nat.le_of_ble_eq_true rfl)⟩ (Nat.le_of_ble_eq_true rfl) ⟨(Nat.le_of_ble_eq_true rfl), (Nat.le_of_ble_eq_true rfl)⟩ (fun r252 n252 h252 e252 => ?_)
              obtain ⟨rfl, rfl, rfl⟩ := e252
              refine gi_vret C hr (dm_Re_combine 126 rfl) ?_
              (try simp (disch := omega) only [lg_cmp_ge, lg_cmp_le, lg_cmp_gt, lg_cmp_lt, lg_cmp_eq, eL_0, eL_1, eL_m1, eL_LO, eL_HI, eL_W, eL_add, eL_sub, eL_mul, eL_neg, eL_lt, eL_le, eL_eq, eL_remN, eL_mod0, ne_eq, Int64.not_lt, Int64.not_le] at c4)
              (try simp (disch := omega) only [lg_cmp_ge, lg_cmp_le, lg_cmp_gt, lg_cmp_lt, lg_cmp_eq, eL_0, eL_1, eL_m1, eL_LO, eL_HI, eL_W, eL_add, eL_sub, eL_mul, eL_neg, eL_lt, eL_le, eL_eq, eL_remN, eL_mod0, ne_eq, Int64.not_lt, Int64.not_le] at c11)
              (try simp (disch := omega) only [lg_cmp_ge, lg_cmp_le, lg_cmp_gt, lg_cmp_lt, lg_cmp_eq, eL_0, eL_1, eL_m1, eL_LO, eL_HI, eL_W, eL_add, eL_sub, eL_mul, eL_neg, eL_lt, eL_le, eL_eq, eL_remN, eL_mod0, ne_eq, Int64.not_lt, Int64.not_le] at c70)
              (try simp (disch := omega) only [lg_cmp_ge, lg_cmp_le, lg_cmp_gt, lg_cmp_lt, lg_cmp_eq, eL_0, eL_1, eL_m1, eL_LO, eL_HI, eL_W, eL_add, eL_sub, eL_mul, eL_neg, eL_lt, eL_le, eL_eq, eL_remN, eL_mod0, ne_eq, Int64.not_lt, Int64.not_le] at c79)
              (try simp (disch := omega) only [lg_cmp_ge, lg_cmp_le, lg_cmp_gt, lg_cmp_lt, lg_cmp_eq, eL_0, eL_1, eL_m1, eL_LO, eL_HI, eL_W, eL_add, eL_sub, eL_mul, eL_neg, eL_lt, eL_le, eL_eq, eL_remN, eL_mod0, ne_eq, Int64.not_lt, Int64.not_le] at c88)
              (try simp (disch := omega) only [lg_cmp_ge, lg_cmp_le, lg_cmp_gt, lg_cmp_lt, lg_cmp_eq, eL_0, eL_1, eL_m1, eL_LO, eL_HI, eL_W, eL_add, eL_sub, eL_mul, eL_neg, eL_lt, eL_le, eL_eq, eL_remN, eL_mod0, ne_eq, Int64.not_lt, Int64.not_le] at c151)
              refine ⟨rfl, rfl, ?_⟩
              unfold logS
              first
                | exact absurd c151 c70
                | (rw [if_pos ⟨e1, e2⟩]
                   unfold bitS
                   first
                     | (rw [if_pos (by first | exact (nI_eq (b := 12) (by omega) (by omega)).mp c19)]; done)
                     | (rw [if_neg (fun z => c19 (by rw [z]; rfl)), if_pos (by first | exact (nI_eq (b := 13) (by omega) (by omega)).mp c37)]; done)
                     | (rw [if_neg (fun z => c19 (by rw [z]; rfl)), if_neg (fun z => c37 (by rw [z]; rfl))]; done))
                | (rw [if_neg n1, if_pos (by first | exact (nI_eq (b := 12) (by omega) (by omega)).mp c70)]
                   first
                     | (rw [if_pos (by omega), mSpan_mk (by omega) (by omega) (by omega) (by omega)]; done)
                     | (rw [if_neg (by omega), if_pos (by omega), mSpan_mk (by omega) (by omega) (by omega) (by omega)]; done)
                     | (rw [if_neg (by omega), if_neg (by omega), if_pos (by omega), mSpan_mk (by omega) (by omega) (by omega) (by omega)]; done)
                     | (rw [if_neg (by omega), if_neg (by omega), if_neg (by omega)]; done))
                | (rw [if_neg n1, if_neg (fun z => c151 (by rw [z]; rfl)), if_neg (by omega)]; done)
            · refine gi_aload_n (q := 155) (i := 2) C (dm_Re_combine 76 rfl) rfl rfl rfl ?_
              refine gi_get (q := 158) C (dm_Re_combine 77 rfl) rfl fl_Re_21 (by repeat (first | exact gi_up_self _ _ _ | assumption | rw [gi_up_ne (by omega)])) rfl ?_
              refine gi_lconst (q := 159) (v := 0) C (dm_Re_combine 78 rfl) rfl (by decide) ?_
              refine gi_lcmp (q := 160) C (dm_Re_combine 79 rfl) rfl ?_
              refine gi_if_lt (q := 163) (tgt := 250) C (dm_Re_combine 80 rfl) rfl (by decide) (fun c160 => ?_) (fun c160 => ?_)
              · refine gi_aload (q := 252) C (dm_Re_combine 124 rfl) rfl rfl ?_
                refine gi_callv 0 (q := 255) C (dm_Re_combine 125 rfl) rfl my_Va_beAll lk_Re_63 im_Va_beAll rfl (c_Va_beAll ao v hc) hc rfl rfl ⟨(Nat.le_of_ble_eq_true rfl), (Nat.le_of_ble_eq_true rfl)⟩ (Nat.le_of_ble_eq_true rfl) ⟨(Nat.le_of_ble_eq_true rfl), (Nat.le_of_ble_eq_true rfl)⟩ (fun r252 n252 h252 e252 => ?_)
                obtain ⟨rfl, rfl, rfl⟩ := e252
                refine gi_vret C hr (dm_Re_combine 126 rfl) ?_
                (try simp (disch := omega) only [lg_cmp_ge, lg_cmp_le, lg_cmp_gt, lg_cmp_lt, lg_cmp_eq, eL_0, eL_1, eL_m1, eL_LO, eL_HI, eL_W, eL_add, eL_sub, eL_mul, eL_neg, eL_lt, eL_le, eL_eq, eL_remN, eL_mod0, ne_eq, Int64.not_lt, Int64.not_le] at c4)
                (try simp (disch := omega) only [lg_cmp_ge, lg_cmp_le, lg_cmp_gt, lg_cmp_lt, lg_cmp_eq, eL_0, eL_1, eL_m1, eL_LO, eL_HI, eL_W, eL_add, eL_sub, eL_mul, eL_neg, eL_lt, eL_le, eL_eq, eL_remN, eL_mod0, ne_eq, Int64.not_lt, Int64.not_le] at c11)
                (try simp (disch := omega) only [lg_cmp_ge, lg_cmp_le, lg_cmp_gt, lg_cmp_lt, lg_cmp_eq, eL_0, eL_1, eL_m1, eL_LO, eL_HI, eL_W, eL_add, eL_sub, eL_mul, eL_neg, eL_lt, eL_le, eL_eq, eL_remN, eL_mod0, ne_eq, Int64.not_lt, Int64.not_le] at c70)
                (try simp (disch := omega) only [lg_cmp_ge, lg_cmp_le, lg_cmp_gt, lg_cmp_lt, lg_cmp_eq, eL_0, eL_1, eL_m1, eL_LO, eL_HI, eL_W, eL_add, eL_sub, eL_mul, eL_neg, eL_lt, eL_le, eL_eq, eL_remN, eL_mod0, ne_eq, Int64.not_lt, Int64.not_le] at c79)
                (try simp (disch := omega) only [lg_cmp_ge, lg_cmp_le, lg_cmp_gt, lg_cmp_lt, lg_cmp_eq, eL_0, eL_1, eL_m1, eL_LO, eL_HI, eL_W, eL_add, eL_sub, eL_mul, eL_neg, eL_lt, eL_le, eL_eq, eL_remN, eL_mod0, ne_eq, Int64.not_lt, Int64.not_le] at c88)
                (try simp (disch := omega) only [lg_cmp_ge, lg_cmp_le, lg_cmp_gt, lg_cmp_lt, lg_cmp_eq, eL_0, eL_1, eL_m1, eL_LO, eL_HI, eL_W, eL_add, eL_sub, eL_mul, eL_neg, eL_lt, eL_le, eL_eq, eL_remN, eL_mod0, ne_eq, Int64.not_lt, Int64.not_le] at c151)
                (try simp (disch := omega) only [lg_cmp_ge, lg_cmp_le, lg_cmp_gt, lg_cmp_lt, lg_cmp_eq, eL_0, eL_1, eL_m1, eL_LO, eL_HI, eL_W, eL_add, eL_sub, eL_mul, eL_neg, eL_lt, eL_le, eL_eq, eL_remN, eL_mod0, ne_eq, Int64.not_lt, Int64.not_le] at c160)
                refine ⟨rfl, rfl, ?_⟩
                unfold logS
                first
                  | exact absurd c151 c70
                  | (rw [if_pos ⟨e1, e2⟩]
                     unfold bitS
                     first
                       | (rw [if_pos (by first | exact (nI_eq (b := 12) (by omega) (by omega)).mp c19)]; done)
                       | (rw [if_neg (fun z => c19 (by rw [z]; rfl)), if_pos (by first | exact (nI_eq (b := 13) (by omega) (by omega)).mp c37)]; done)
                       | (rw [if_neg (fun z => c19 (by rw [z]; rfl)), if_neg (fun z => c37 (by rw [z]; rfl))]; done))
                  | (rw [if_neg n1, if_pos (by first | exact (nI_eq (b := 12) (by omega) (by omega)).mp c70)]
                     first
                       | (rw [if_pos (by omega), mSpan_mk (by omega) (by omega) (by omega) (by omega)]; done)
                       | (rw [if_neg (by omega), if_pos (by omega), mSpan_mk (by omega) (by omega) (by omega) (by omega)]; done)
                       | (rw [if_neg (by omega), if_neg (by omega), if_pos (by omega), mSpan_mk (by omega) (by omega) (by omega) (by omega)]; done)
                       | (rw [if_neg (by omega), if_neg (by omega), if_neg (by omega)]; done))
                  | (rw [if_neg n1, if_neg (fun z => c151 (by rw [z]; rfl)), if_neg (by omega)]; done)
              · refine gi_aload_n (q := 164) (i := 3) C (dm_Re_combine 81 rfl) rfl rfl rfl ?_
                refine gi_get (q := 167) C (dm_Re_combine 82 rfl) rfl fl_Re_21 (by repeat (first | exact gi_up_self _ _ _ | assumption | rw [gi_up_ne (by omega)])) rfl ?_
                refine gi_lconst (q := 168) (v := 0) C (dm_Re_combine 83 rfl) rfl (by decide) ?_
                refine gi_lcmp (q := 169) C (dm_Re_combine 84 rfl) rfl ?_
                refine gi_if_lt (q := 172) (tgt := 250) C (dm_Re_combine 85 rfl) rfl (by decide) (fun c169 => ?_) (fun c169 => ?_)
                · refine gi_aload (q := 252) C (dm_Re_combine 124 rfl) rfl rfl ?_
                  refine gi_callv 0 (q := 255) C (dm_Re_combine 125 rfl) rfl my_Va_beAll lk_Re_63 im_Va_beAll rfl (c_Va_beAll ao v hc) hc rfl rfl ⟨(Nat.le_of_ble_eq_true rfl), (Nat.le_of_ble_eq_true rfl)⟩ (Nat.le_of_ble_eq_true rfl) ⟨(Nat.le_of_ble_eq_true rfl), (Nat.le_of_ble_eq_true rfl)⟩ (fun r252 n252 h252 e252 => ?_)
                  obtain ⟨rfl, rfl, rfl⟩ := e252
                  refine gi_vret C hr (dm_Re_combine 126 rfl) ?_
                  (try simp (disch := omega) only [lg_cmp_ge, lg_cmp_le, lg_cmp_gt, lg_cmp_lt, lg_cmp_eq, eL_0, eL_1, eL_m1, eL_LO, eL_HI, eL_W, eL_add, eL_sub, eL_mul, eL_neg, eL_lt, eL_le, eL_eq, eL_remN, eL_mod0, ne_eq, Int64.not_lt, Int64.not_le] at c4)
                  (try simp (disch := omega) only [lg_cmp_ge, lg_cmp_le, lg_cmp_gt, lg_cmp_lt, lg_cmp_eq, eL_0, eL_1, eL_m1, eL_LO, eL_HI, eL_W, eL_add, eL_sub, eL_mul, eL_neg, eL_lt, eL_le, eL_eq, eL_remN, eL_mod0, ne_eq, Int64.not_lt, Int64.not_le] at c11)
                  (try simp (disch := omega) only [lg_cmp_ge, lg_cmp_le, lg_cmp_gt, lg_cmp_lt, lg_cmp_eq, eL_0, eL_1, eL_m1, eL_LO, eL_HI, eL_W, eL_add, eL_sub, eL_mul, eL_neg, eL_lt, eL_le, eL_eq, eL_remN, eL_mod0, ne_eq, Int64.not_lt, Int64.not_le] at c70)
                  (try simp (disch := omega) only [lg_cmp_ge, lg_cmp_le, lg_cmp_gt, lg_cmp_lt, lg_cmp_eq, eL_0, eL_1, eL_m1, eL_LO, eL_HI, eL_W, eL_add, eL_sub, eL_mul, eL_neg, eL_lt, eL_le, eL_eq, eL_remN, eL_mod0, ne_eq, Int64.not_lt, Int64.not_le] at c79)
                  (try simp (disch := omega) only [lg_cmp_ge, lg_cmp_le, lg_cmp_gt, lg_cmp_lt, lg_cmp_eq, eL_0, eL_1, eL_m1, eL_LO, eL_HI, eL_W, eL_add, eL_sub, eL_mul, eL_neg, eL_lt, eL_le, eL_eq, eL_remN, eL_mod0, ne_eq, Int64.not_lt, Int64.not_le] at c88)
                  (try simp (disch := omega) only [lg_cmp_ge, lg_cmp_le, lg_cmp_gt, lg_cmp_lt, lg_cmp_eq, eL_0, eL_1, eL_m1, eL_LO, eL_HI, eL_W, eL_add, eL_sub, eL_mul, eL_neg, eL_lt, eL_le, eL_eq, eL_remN, eL_mod0, ne_eq, Int64.not_lt, Int64.not_le] at c151)
                  (try simp (disch := omega) only [lg_cmp_ge, lg_cmp_le, lg_cmp_gt, lg_cmp_lt, lg_cmp_eq, eL_0, eL_1, eL_m1, eL_LO, eL_HI, eL_W, eL_add, eL_sub, eL_mul, eL_neg, eL_lt, eL_le, eL_eq, eL_remN, eL_mod0, ne_eq, Int64.not_lt, Int64.not_le] at c160)
                  (try simp (disch := omega) only [lg_cmp_ge, lg_cmp_le, lg_cmp_gt, lg_cmp_lt, lg_cmp_eq, eL_0, eL_1, eL_m1, eL_LO, eL_HI, eL_W, eL_add, eL_sub, eL_mul, eL_neg, eL_lt, eL_le, eL_eq, eL_remN, eL_mod0, ne_eq, Int64.not_lt, Int64.not_le] at c169)
                  refine ⟨rfl, rfl, ?_⟩
                  unfold logS
                  first
                    | exact absurd c151 c70
                    | (rw [if_pos ⟨e1, e2⟩]
                       unfold bitS
                       first
                         | (rw [if_pos (by first | exact (nI_eq (b := 12) (by omega) (by omega)).mp c19)]; done)
                         | (rw [if_neg (fun z => c19 (by rw [z]; rfl)), if_pos (by first | exact (nI_eq (b := 13) (by omega) (by omega)).mp c37)]; done)
                         | (rw [if_neg (fun z => c19 (by rw [z]; rfl)), if_neg (fun z => c37 (by rw [z]; rfl))]; done))
                    | (rw [if_neg n1, if_pos (by first | exact (nI_eq (b := 12) (by omega) (by omega)).mp c70)]
                       first
                         | (rw [if_pos (by omega), mSpan_mk (by omega) (by omega) (by omega) (by omega)]; done)
                         | (rw [if_neg (by omega), if_pos (by omega), mSpan_mk (by omega) (by omega) (by omega) (by omega)]; done)
                         | (rw [if_neg (by omega), if_neg (by omega), if_pos (by omega), mSpan_mk (by omega) (by omega) (by omega) (by omega)]; done)
                         | (rw [if_neg (by omega), if_neg (by omega), if_neg (by omega)]; done))
                    | (rw [if_neg n1, if_neg (fun z => c151 (by rw [z]; rfl)), if_neg (by omega)]; done)
                · have n12 : ¬ op = 12 := fun z => c151 (by rw [z]; rfl)
                  refine gi_lconst (q := 173) (v := 0) C (dm_Re_combine 86 rfl) rfl (by decide) ?_
                  refine gi_lstore (q := 175) C (dm_Re_combine 87 rfl) rfl (Nat.le_of_ble_eq_true rfl) ?_
                  refine gi_iconst (q := 176) (v := 0) C (dm_Re_combine 88 rfl) rfl (by decide) ?_
                  refine gi_istore (q := 178) C (dm_Re_combine 89 rfl) rfl (Nat.le_of_ble_eq_true rfl) ?_
                  (try simp (disch := omega) only [lg_cmp_ge, lg_cmp_le, lg_cmp_gt, lg_cmp_lt, lg_cmp_eq, eL_0, eL_1, eL_m1, eL_LO, eL_HI, eL_W, eL_add, eL_sub, eL_mul, eL_neg, eL_lt, eL_le, eL_eq, eL_remN, eL_mod0, ne_eq, Int64.not_lt, Int64.not_le] at c4)
                  (try simp (disch := omega) only [lg_cmp_ge, lg_cmp_le, lg_cmp_gt, lg_cmp_lt, lg_cmp_eq, eL_0, eL_1, eL_m1, eL_LO, eL_HI, eL_W, eL_add, eL_sub, eL_mul, eL_neg, eL_lt, eL_le, eL_eq, eL_remN, eL_mod0, ne_eq, Int64.not_lt, Int64.not_le] at c11)
                  (try simp (disch := omega) only [lg_cmp_ge, lg_cmp_le, lg_cmp_gt, lg_cmp_lt, lg_cmp_eq, eL_0, eL_1, eL_m1, eL_LO, eL_HI, eL_W, eL_add, eL_sub, eL_mul, eL_neg, eL_lt, eL_le, eL_eq, eL_remN, eL_mod0, ne_eq, Int64.not_lt, Int64.not_le] at c70)
                  (try simp (disch := omega) only [lg_cmp_ge, lg_cmp_le, lg_cmp_gt, lg_cmp_lt, lg_cmp_eq, eL_0, eL_1, eL_m1, eL_LO, eL_HI, eL_W, eL_add, eL_sub, eL_mul, eL_neg, eL_lt, eL_le, eL_eq, eL_remN, eL_mod0, ne_eq, Int64.not_lt, Int64.not_le] at c79)
                  (try simp (disch := omega) only [lg_cmp_ge, lg_cmp_le, lg_cmp_gt, lg_cmp_lt, lg_cmp_eq, eL_0, eL_1, eL_m1, eL_LO, eL_HI, eL_W, eL_add, eL_sub, eL_mul, eL_neg, eL_lt, eL_le, eL_eq, eL_remN, eL_mod0, ne_eq, Int64.not_lt, Int64.not_le] at c88)
                  (try simp (disch := omega) only [lg_cmp_ge, lg_cmp_le, lg_cmp_gt, lg_cmp_lt, lg_cmp_eq, eL_0, eL_1, eL_m1, eL_LO, eL_HI, eL_W, eL_add, eL_sub, eL_mul, eL_neg, eL_lt, eL_le, eL_eq, eL_remN, eL_mod0, ne_eq, Int64.not_lt, Int64.not_le] at c151)
                  (try simp (disch := omega) only [lg_cmp_ge, lg_cmp_le, lg_cmp_gt, lg_cmp_lt, lg_cmp_eq, eL_0, eL_1, eL_m1, eL_LO, eL_HI, eL_W, eL_add, eL_sub, eL_mul, eL_neg, eL_lt, eL_le, eL_eq, eL_remN, eL_mod0, ne_eq, Int64.not_lt, Int64.not_le] at c160)
                  (try simp (disch := omega) only [lg_cmp_ge, lg_cmp_le, lg_cmp_gt, lg_cmp_lt, lg_cmp_eq, eL_0, eL_1, eL_m1, eL_LO, eL_HI, eL_W, eL_add, eL_sub, eL_mul, eL_neg, eL_lt, eL_le, eL_eq, eL_remN, eL_mod0, ne_eq, Int64.not_lt, Int64.not_le] at c169)
                  refine gi_while (σ := Nat × Int) (fun p => 31 - p.1) (fun p => [(7, .int (nI p.1)), (5, .long (eL p.2)), (0, .ref r), (1, .int (nI op)), (2, .ref ax), (3, .ref ay), (4, .ref ao)]) (fun _ => n) (fun _ => 0) (fun _ => 0) (fun p y' => p.1 ≤ 31 ∧ 0 ≤ p.2 ∧ p.2 ≤ 4294967296 ∧ topF 31 0 (max x.2.1 y.2.1) = topF (31 - p.1) p.2 (max x.2.1 y.2.1) ∧ y' = h) (0, 0) ⟨by decide, by decide, by decide, rfl, rfl⟩ ?_ (List.forall_mem_cons.mpr ⟨rfl, List.forall_mem_cons.mpr ⟨rfl, List.forall_mem_cons.mpr ⟨rfl, List.forall_mem_cons.mpr ⟨rfl, List.forall_mem_cons.mpr ⟨rfl, List.forall_mem_cons.mpr ⟨rfl, List.forall_mem_cons.mpr ⟨rfl, fun _ h => absurd h List.not_mem_nil⟩⟩⟩⟩⟩⟩⟩) rfl rfl rfl
                  rintro ⟨i, tt⟩ y' ⟨hi, t1, t2, hT, rfl⟩ ih
                  try dsimp only at *
                  refine gi_iload (q := 180) C (dm_Re_combine 90 rfl) rfl rfl ?_
                  refine gi_bipush (q := 182) (v := 31) C (dm_Re_combine 91 rfl) rfl (by decide) ?_
                  refine gi_icmp_ge (q := 185) (tgt := 218) C (dm_Re_combine 92 rfl) rfl (by decide) (fun c182 => ?_) (fun c182 => ?_)
                  · (try simp (disch := omega) only [lg_cmp_ge, lg_cmp_le, lg_cmp_gt, lg_cmp_lt, lg_cmp_eq, eL_0, eL_1, eL_m1, eL_LO, eL_HI, eL_W, eL_add, eL_sub, eL_mul, eL_neg, eL_lt, eL_le, eL_eq, eL_remN, eL_mod0, ne_eq, Int64.not_lt, Int64.not_le] at c182)
                    have tf : topF 31 0 (max x.2.1 y.2.1) = tt := by
                      rw [hT]
                      first
                        | (have hik : i = 31 := by
                             rcases Nat.lt_or_ge i 31 with q | q
                             · exact absurd c182 (nI_ge (b := 31) q (by omega))
                             · omega
                           rw [hik]
                           rfl)
                        | (obtain ⟨j, hj⟩ : ∃ j, 31 - i = j + 1 := ⟨31 - (i + 1), by omega⟩
                           rw [hj]
                           show (if tt < max x.2.1 y.2.1 then topF j (2 * tt + 1) (max x.2.1 y.2.1) else tt) = _
                           rw [if_neg (by omega)])
                    refine gi_aload (q := 220) C (dm_Re_combine 109 rfl) rfl rfl ?_
                    refine gi_iload_n (q := 221) (i := 1) C (dm_Re_combine 110 rfl) rfl rfl rfl ?_
                    refine gi_bipush (q := 223) (v := 13) C (dm_Re_combine 111 rfl) rfl (by decide) ?_
                    refine gi_icmp_ne (q := 226) (tgt := 240) C (dm_Re_combine 112 rfl) rfl (by decide) (fun c223 => ?_) (fun c223 => ?_)
                    · refine gi_lconst (q := 241) (v := 0) C (dm_Re_combine 119 rfl) rfl (by decide) ?_
                      refine gi_lload (q := 243) C (dm_Re_combine 120 rfl) rfl rfl ?_
                      refine gi_lconst (q := 244) (v := 1) C (dm_Re_combine 121 rfl) rfl (by decide) ?_
                      try rw [eL_0]
                      rw [eL_1]
                      refine gi_callv 3 (q := 247) C (dm_Re_combine 122 rfl) rfl my_Va_beSpan lk_Re_74 im_Va_beSpan rfl (c_Va_beSpan ao v _ _ _ hc) hc rfl rfl ⟨(Nat.le_of_ble_eq_true rfl), (Nat.le_of_ble_eq_true rfl)⟩ (Nat.le_of_ble_eq_true rfl) ⟨(Nat.le_of_ble_eq_true rfl), (Nat.le_of_ble_eq_true rfl)⟩ (fun r244 n244 h244 e244 => ?_)
                      obtain ⟨rfl, rfl, rfl⟩ := e244
                      refine gi_goto (tgt := 255) C (dm_Re_combine 123 rfl) (by decide) ?_
                      refine gi_vret C hr (dm_Re_combine 126 rfl) ?_
                      refine ⟨rfl, rfl, ?_⟩
                      unfold logS
                      rw [if_neg n1, if_neg n12, if_pos (by omega), tf]
                      first
                        | (rw [if_pos (by first | exact (nI_eq (b := 13) (by omega) (by omega)).mp c223), mSpan_mk (by omega) (by omega) (by omega) (by omega)]; done)
                        | (rw [if_neg (fun z => c223 (by rw [z]; rfl)), mSpan_mk (by omega) (by omega) (by omega) (by omega)]; done)
                    · refine gi_aload_n (q := 227) (i := 2) C (dm_Re_combine 113 rfl) rfl rfl rfl ?_
                      refine gi_get (q := 230) C (dm_Re_combine 114 rfl) rfl fl_Re_21 (by repeat (first | exact gi_up_self _ _ _ | assumption | rw [gi_up_ne (by omega)])) rfl ?_
                      refine gi_aload_n (q := 231) (i := 3) C (dm_Re_combine 115 rfl) rfl rfl rfl ?_
                      refine gi_get (q := 234) C (dm_Re_combine 116 rfl) rfl fl_Re_21 (by repeat (first | exact gi_up_self _ _ _ | assumption | rw [gi_up_ne (by omega)])) rfl ?_
                      refine gi_calls 2 (q := 237) C (dm_Re_combine 117 rfl) rfl my_Mt_max_0 lk_Re_80 sm_Mt_max_0 (c_Mt_max_0 x.1 y.1 (by omega) (by omega) (by omega) (by omega)) rfl rfl ⟨(Nat.le_of_ble_eq_true rfl), (Nat.le_of_ble_eq_true rfl)⟩ (Nat.le_of_ble_eq_true rfl) ⟨(Nat.le_of_ble_eq_true rfl), (Nat.le_of_ble_eq_true rfl)⟩ (fun r234 n234 h234 e234 => ?_)
                      obtain ⟨rfl, rfl, rfl⟩ := e234
                      refine gi_goto (tgt := 241) C (dm_Re_combine 118 rfl) (by decide) ?_
                      refine gi_lload (q := 243) C (dm_Re_combine 120 rfl) rfl rfl ?_
                      refine gi_lconst (q := 244) (v := 1) C (dm_Re_combine 121 rfl) rfl (by decide) ?_
                      try rw [eL_0]
                      rw [eL_1]
                      refine gi_callv 3 (q := 247) C (dm_Re_combine 122 rfl) rfl my_Va_beSpan lk_Re_74 im_Va_beSpan rfl (c_Va_beSpan ao v _ _ _ hc) hc rfl rfl ⟨(Nat.le_of_ble_eq_true rfl), (Nat.le_of_ble_eq_true rfl)⟩ (Nat.le_of_ble_eq_true rfl) ⟨(Nat.le_of_ble_eq_true rfl), (Nat.le_of_ble_eq_true rfl)⟩ (fun r244 n244 h244 e244 => ?_)
                      obtain ⟨rfl, rfl, rfl⟩ := e244
                      refine gi_goto (tgt := 255) C (dm_Re_combine 123 rfl) (by decide) ?_
                      refine gi_vret C hr (dm_Re_combine 126 rfl) ?_
                      refine ⟨rfl, rfl, ?_⟩
                      unfold logS
                      rw [if_neg n1, if_neg n12, if_pos (by omega), tf]
                      first
                        | (rw [if_pos (by first | exact (nI_eq (b := 13) (by omega) (by omega)).mp c223), mSpan_mk (by omega) (by omega) (by omega) (by omega)]; done)
                        | (rw [if_neg (fun z => c223 (by rw [z]; rfl)), mSpan_mk (by omega) (by omega) (by omega) (by omega)]; done)
                  · have hlt : i < 31 := by
                      rcases Nat.lt_or_ge i 31 with q | q
                      · exact q
                      · exact absurd (nI_le (a := 31) q (by omega)) c182
                    refine gi_lload (q := 187) C (dm_Re_combine 93 rfl) rfl rfl ?_
                    refine gi_aload_n (q := 188) (i := 2) C (dm_Re_combine 94 rfl) rfl rfl rfl ?_
                    refine gi_get (q := 191) C (dm_Re_combine 95 rfl) rfl fl_Re_25 (by repeat (first | exact gi_up_self _ _ _ | assumption | rw [gi_up_ne (by omega)])) rfl ?_
                    refine gi_aload_n (q := 192) (i := 3) C (dm_Re_combine 96 rfl) rfl rfl rfl ?_
                    refine gi_get (q := 195) C (dm_Re_combine 97 rfl) rfl fl_Re_25 (by repeat (first | exact gi_up_self _ _ _ | assumption | rw [gi_up_ne (by omega)])) rfl ?_
                    refine gi_calls 2 (q := 198) C (dm_Re_combine 98 rfl) rfl my_Mt_max_0 lk_Re_80 sm_Mt_max_0 (c_Mt_max_0 x.2.1 y.2.1 (by omega) (by omega) (by omega) (by omega)) rfl rfl ⟨(Nat.le_of_ble_eq_true rfl), (Nat.le_of_ble_eq_true rfl)⟩ (Nat.le_of_ble_eq_true rfl) ⟨(Nat.le_of_ble_eq_true rfl), (Nat.le_of_ble_eq_true rfl)⟩ (fun r195 n195 h195 e195 => ?_)
                    obtain ⟨rfl, rfl, rfl⟩ := e195
                    refine gi_lcmp (q := 199) C (dm_Re_combine 99 rfl) rfl ?_
                    refine gi_if_ge (q := 202) (tgt := 218) C (dm_Re_combine 100 rfl) rfl (by decide) (fun c199 => ?_) (fun c199 => ?_)
                    · (try simp (disch := omega) only [lg_cmp_ge, lg_cmp_le, lg_cmp_gt, lg_cmp_lt, lg_cmp_eq, eL_0, eL_1, eL_m1, eL_LO, eL_HI, eL_W, eL_add, eL_sub, eL_mul, eL_neg, eL_lt, eL_le, eL_eq, eL_remN, eL_mod0, ne_eq, Int64.not_lt, Int64.not_le] at c182)
                      (try simp (disch := omega) only [lg_cmp_ge, lg_cmp_le, lg_cmp_gt, lg_cmp_lt, lg_cmp_eq, eL_0, eL_1, eL_m1, eL_LO, eL_HI, eL_W, eL_add, eL_sub, eL_mul, eL_neg, eL_lt, eL_le, eL_eq, eL_remN, eL_mod0, ne_eq, Int64.not_lt, Int64.not_le] at c199)
                      have tf : topF 31 0 (max x.2.1 y.2.1) = tt := by
                        rw [hT]
                        first
                          | (have hik : i = 31 := by
                               rcases Nat.lt_or_ge i 31 with q | q
                               · exact absurd c182 (nI_ge (b := 31) q (by omega))
                               · omega
                             rw [hik]
                             rfl)
                          | (obtain ⟨j, hj⟩ : ∃ j, 31 - i = j + 1 := ⟨31 - (i + 1), by omega⟩
                             rw [hj]
                             show (if tt < max x.2.1 y.2.1 then topF j (2 * tt + 1) (max x.2.1 y.2.1) else tt) = _
                             rw [if_neg (by omega)])
                      refine gi_aload (q := 220) C (dm_Re_combine 109 rfl) rfl rfl ?_
                      refine gi_iload_n (q := 221) (i := 1) C (dm_Re_combine 110 rfl) rfl rfl rfl ?_
                      refine gi_bipush (q := 223) (v := 13) C (dm_Re_combine 111 rfl) rfl (by decide) ?_
                      refine gi_icmp_ne (q := 226) (tgt := 240) C (dm_Re_combine 112 rfl) rfl (by decide) (fun c223 => ?_) (fun c223 => ?_)
                      · refine gi_lconst (q := 241) (v := 0) C (dm_Re_combine 119 rfl) rfl (by decide) ?_
                        refine gi_lload (q := 243) C (dm_Re_combine 120 rfl) rfl rfl ?_
                        refine gi_lconst (q := 244) (v := 1) C (dm_Re_combine 121 rfl) rfl (by decide) ?_
                        try rw [eL_0]
                        rw [eL_1]
                        refine gi_callv 3 (q := 247) C (dm_Re_combine 122 rfl) rfl my_Va_beSpan lk_Re_74 im_Va_beSpan rfl (c_Va_beSpan ao v _ _ _ hc) hc rfl rfl ⟨(Nat.le_of_ble_eq_true rfl), (Nat.le_of_ble_eq_true rfl)⟩ (Nat.le_of_ble_eq_true rfl) ⟨(Nat.le_of_ble_eq_true rfl), (Nat.le_of_ble_eq_true rfl)⟩ (fun r244 n244 h244 e244 => ?_)
                        obtain ⟨rfl, rfl, rfl⟩ := e244
                        refine gi_goto (tgt := 255) C (dm_Re_combine 123 rfl) (by decide) ?_
                        refine gi_vret C hr (dm_Re_combine 126 rfl) ?_
                        refine ⟨rfl, rfl, ?_⟩
                        unfold logS
                        rw [if_neg n1, if_neg n12, if_pos (by omega), tf]
                        first
                          | (rw [if_pos (by first | exact (nI_eq (b := 13) (by omega) (by omega)).mp c223), mSpan_mk (by omega) (by omega) (by omega) (by omega)]; done)
                          | (rw [if_neg (fun z => c223 (by rw [z]; rfl)), mSpan_mk (by omega) (by omega) (by omega) (by omega)]; done)
                      · refine gi_aload_n (q := 227) (i := 2) C (dm_Re_combine 113 rfl) rfl rfl rfl ?_
                        refine gi_get (q := 230) C (dm_Re_combine 114 rfl) rfl fl_Re_21 (by repeat (first | exact gi_up_self _ _ _ | assumption | rw [gi_up_ne (by omega)])) rfl ?_
                        refine gi_aload_n (q := 231) (i := 3) C (dm_Re_combine 115 rfl) rfl rfl rfl ?_
                        refine gi_get (q := 234) C (dm_Re_combine 116 rfl) rfl fl_Re_21 (by repeat (first | exact gi_up_self _ _ _ | assumption | rw [gi_up_ne (by omega)])) rfl ?_
                        refine gi_calls 2 (q := 237) C (dm_Re_combine 117 rfl) rfl my_Mt_max_0 lk_Re_80 sm_Mt_max_0 (c_Mt_max_0 x.1 y.1 (by omega) (by omega) (by omega) (by omega)) rfl rfl ⟨(Nat.le_of_ble_eq_true rfl), (Nat.le_of_ble_eq_true rfl)⟩ (Nat.le_of_ble_eq_true rfl) ⟨(Nat.le_of_ble_eq_true rfl), (Nat.le_of_ble_eq_true rfl)⟩ (fun r234 n234 h234 e234 => ?_)
                        obtain ⟨rfl, rfl, rfl⟩ := e234
                        refine gi_goto (tgt := 241) C (dm_Re_combine 118 rfl) (by decide) ?_
                        refine gi_lload (q := 243) C (dm_Re_combine 120 rfl) rfl rfl ?_
                        refine gi_lconst (q := 244) (v := 1) C (dm_Re_combine 121 rfl) rfl (by decide) ?_
                        try rw [eL_0]
                        rw [eL_1]
                        refine gi_callv 3 (q := 247) C (dm_Re_combine 122 rfl) rfl my_Va_beSpan lk_Re_74 im_Va_beSpan rfl (c_Va_beSpan ao v _ _ _ hc) hc rfl rfl ⟨(Nat.le_of_ble_eq_true rfl), (Nat.le_of_ble_eq_true rfl)⟩ (Nat.le_of_ble_eq_true rfl) ⟨(Nat.le_of_ble_eq_true rfl), (Nat.le_of_ble_eq_true rfl)⟩ (fun r244 n244 h244 e244 => ?_)
                        obtain ⟨rfl, rfl, rfl⟩ := e244
                        refine gi_goto (tgt := 255) C (dm_Re_combine 123 rfl) (by decide) ?_
                        refine gi_vret C hr (dm_Re_combine 126 rfl) ?_
                        refine ⟨rfl, rfl, ?_⟩
                        unfold logS
                        rw [if_neg n1, if_neg n12, if_pos (by omega), tf]
                        first
                          | (rw [if_pos (by first | exact (nI_eq (b := 13) (by omega) (by omega)).mp c223), mSpan_mk (by omega) (by omega) (by omega) (by omega)]; done)
                          | (rw [if_neg (fun z => c223 (by rw [z]; rfl)), mSpan_mk (by omega) (by omega) (by omega) (by omega)]; done)
                    · refine gi_lload (q := 204) C (dm_Re_combine 101 rfl) rfl rfl ?_
                      
                      refine gi_ldc2 (q := 207) C (dm_Re_combine 102 rfl) rfl kc_Re_130 ?_
                      
                      refine gi_lmul (q := 208) C (dm_Re_combine 103 rfl) rfl ?_
                      rw [eL_2, eL_mul]
                      refine gi_lconst (q := 209) (v := 1) C (dm_Re_combine 104 rfl) rfl (by decide) ?_
                      refine gi_ladd (q := 210) C (dm_Re_combine 105 rfl) rfl ?_
                      rw [eL_1, eL_add]
                      refine gi_lstore (q := 212) C (dm_Re_combine 106 rfl) rfl (Nat.le_of_ble_eq_true rfl) ?_
                      (try simp (disch := omega) only [lg_cmp_ge, lg_cmp_le, lg_cmp_gt, lg_cmp_lt, lg_cmp_eq, eL_0, eL_1, eL_m1, eL_LO, eL_HI, eL_W, eL_add, eL_sub, eL_mul, eL_neg, eL_lt, eL_le, eL_eq, eL_remN, eL_mod0, ne_eq, Int64.not_lt, Int64.not_le] at c182)
                      (try simp (disch := omega) only [lg_cmp_ge, lg_cmp_le, lg_cmp_gt, lg_cmp_lt, lg_cmp_eq, eL_0, eL_1, eL_m1, eL_LO, eL_HI, eL_W, eL_add, eL_sub, eL_mul, eL_neg, eL_lt, eL_le, eL_eq, eL_remN, eL_mod0, ne_eq, Int64.not_lt, Int64.not_le] at c199)
                      have t3 : topF (31 - i) tt (max x.2.1 y.2.1) = topF (31 - (i + 1)) (tt * 2 + 1) (max x.2.1 y.2.1) := by
                        obtain ⟨j, hj⟩ : ∃ j, 31 - i = j + 1 := ⟨31 - (i + 1), by omega⟩
                        rw [show 31 - (i + 1) = j by omega, hj]
                        show (if tt < max x.2.1 y.2.1 then topF j (2 * tt + 1) (max x.2.1 y.2.1) else tt) = _
                        rw [if_pos (by omega), Int.mul_comm]
                      refine gi_iinc (q := 215) (v := 1) C (dm_Re_combine 107 rfl) rfl rfl (by decide) (Nat.le_of_ble_eq_true rfl) ?_
                      refine gi_goto (tgt := 178) C (dm_Re_combine 108 rfl) (by decide) ?_
                      refine gi_close (ih (i + 1, tt * 2 + 1) _ ⟨hlt, by simp only; omega, by simp only; omega, by rw [hT, t3], rfl⟩ (by simp only; omega)) (List.forall_mem_cons.mpr ⟨(by simp [gi_look, nI_1]), List.forall_mem_cons.mpr ⟨rfl, List.forall_mem_cons.mpr ⟨rfl, List.forall_mem_cons.mpr ⟨rfl, List.forall_mem_cons.mpr ⟨rfl, List.forall_mem_cons.mpr ⟨rfl, List.forall_mem_cons.mpr ⟨rfl, fun _ h => absurd h List.not_mem_nil⟩⟩⟩⟩⟩⟩⟩) rfl rfl rfl
          · refine gi_aload_n (q := 92) (i := 2) C (dm_Re_combine 45 rfl) rfl rfl rfl ?_
            refine gi_get (q := 95) C (dm_Re_combine 46 rfl) rfl fl_Re_21 (by repeat (first | exact gi_up_self _ _ _ | assumption | rw [gi_up_ne (by omega)])) rfl ?_
            refine gi_lconst (q := 96) (v := 0) C (dm_Re_combine 47 rfl) rfl (by decide) ?_
            refine gi_lcmp (q := 97) C (dm_Re_combine 48 rfl) rfl ?_
            refine gi_if_ge (q := 100) (tgt := 107) C (dm_Re_combine 49 rfl) rfl (by decide) (fun c97 => ?_) (fun c97 => ?_)
            · refine gi_aload_n (q := 108) (i := 3) C (dm_Re_combine 53 rfl) rfl rfl rfl ?_
              refine gi_get (q := 111) C (dm_Re_combine 54 rfl) rfl fl_Re_21 (by repeat (first | exact gi_up_self _ _ _ | assumption | rw [gi_up_ne (by omega)])) rfl ?_
              refine gi_lconst (q := 112) (v := 0) C (dm_Re_combine 55 rfl) rfl (by decide) ?_
              refine gi_lcmp (q := 113) C (dm_Re_combine 56 rfl) rfl ?_
              refine gi_if_ge (q := 116) (tgt := 123) C (dm_Re_combine 57 rfl) rfl (by decide) (fun c113 => ?_) (fun c113 => ?_)
              · refine gi_aload_n (q := 124) (i := 2) C (dm_Re_combine 61 rfl) rfl rfl rfl ?_
                refine gi_get (q := 127) C (dm_Re_combine 62 rfl) rfl fl_Re_25 (by repeat (first | exact gi_up_self _ _ _ | assumption | rw [gi_up_ne (by omega)])) rfl ?_
                refine gi_aload_n (q := 128) (i := 3) C (dm_Re_combine 63 rfl) rfl rfl rfl ?_
                refine gi_get (q := 131) C (dm_Re_combine 64 rfl) rfl fl_Re_25 (by repeat (first | exact gi_up_self _ _ _ | assumption | rw [gi_up_ne (by omega)])) rfl ?_
                refine gi_calls 2 (q := 134) C (dm_Re_combine 65 rfl) rfl my_Mt_min_1 lk_Re_94 sm_Mt_min_1 (c_Mt_min_1 x.2.1 y.2.1 (by omega) (by omega) (by omega) (by omega)) rfl rfl ⟨(Nat.le_of_ble_eq_true rfl), (Nat.le_of_ble_eq_true rfl)⟩ (Nat.le_of_ble_eq_true rfl) ⟨(Nat.le_of_ble_eq_true rfl), (Nat.le_of_ble_eq_true rfl)⟩ (fun r131 n131 h131 e131 => ?_)
                obtain ⟨rfl, rfl, rfl⟩ := e131
                refine gi_lstore (q := 136) C (dm_Re_combine 66 rfl) rfl (Nat.le_of_ble_eq_true rfl) ?_
                refine gi_aload (q := 138) C (dm_Re_combine 67 rfl) rfl rfl ?_
                refine gi_lconst (q := 139) (v := 0) C (dm_Re_combine 68 rfl) rfl (by decide) ?_
                refine gi_lload (q := 141) C (dm_Re_combine 69 rfl) rfl rfl ?_
                refine gi_lconst (q := 142) (v := 1) C (dm_Re_combine 70 rfl) rfl (by decide) ?_
                rw [eL_0, eL_1]
                refine gi_callv 3 (q := 145) C (dm_Re_combine 71 rfl) rfl my_Va_beSpan lk_Re_74 im_Va_beSpan rfl (c_Va_beSpan ao v _ _ _ hc) hc rfl rfl ⟨(Nat.le_of_ble_eq_true rfl), (Nat.le_of_ble_eq_true rfl)⟩ (Nat.le_of_ble_eq_true rfl) ⟨(Nat.le_of_ble_eq_true rfl), (Nat.le_of_ble_eq_true rfl)⟩ (fun r142 n142 h142 e142 => ?_)
                obtain ⟨rfl, rfl, rfl⟩ := e142
                refine gi_goto (tgt := 255) C (dm_Re_combine 72 rfl) (by decide) ?_
                refine gi_vret C hr (dm_Re_combine 126 rfl) ?_
                (try simp (disch := omega) only [lg_cmp_ge, lg_cmp_le, lg_cmp_gt, lg_cmp_lt, lg_cmp_eq, eL_0, eL_1, eL_m1, eL_LO, eL_HI, eL_W, eL_add, eL_sub, eL_mul, eL_neg, eL_lt, eL_le, eL_eq, eL_remN, eL_mod0, ne_eq, Int64.not_lt, Int64.not_le] at c4)
                (try simp (disch := omega) only [lg_cmp_ge, lg_cmp_le, lg_cmp_gt, lg_cmp_lt, lg_cmp_eq, eL_0, eL_1, eL_m1, eL_LO, eL_HI, eL_W, eL_add, eL_sub, eL_mul, eL_neg, eL_lt, eL_le, eL_eq, eL_remN, eL_mod0, ne_eq, Int64.not_lt, Int64.not_le] at c11)
                (try simp (disch := omega) only [lg_cmp_ge, lg_cmp_le, lg_cmp_gt, lg_cmp_lt, lg_cmp_eq, eL_0, eL_1, eL_m1, eL_LO, eL_HI, eL_W, eL_add, eL_sub, eL_mul, eL_neg, eL_lt, eL_le, eL_eq, eL_remN, eL_mod0, ne_eq, Int64.not_lt, Int64.not_le] at c70)
                (try simp (disch := omega) only [lg_cmp_ge, lg_cmp_le, lg_cmp_gt, lg_cmp_lt, lg_cmp_eq, eL_0, eL_1, eL_m1, eL_LO, eL_HI, eL_W, eL_add, eL_sub, eL_mul, eL_neg, eL_lt, eL_le, eL_eq, eL_remN, eL_mod0, ne_eq, Int64.not_lt, Int64.not_le] at c79)
                (try simp (disch := omega) only [lg_cmp_ge, lg_cmp_le, lg_cmp_gt, lg_cmp_lt, lg_cmp_eq, eL_0, eL_1, eL_m1, eL_LO, eL_HI, eL_W, eL_add, eL_sub, eL_mul, eL_neg, eL_lt, eL_le, eL_eq, eL_remN, eL_mod0, ne_eq, Int64.not_lt, Int64.not_le] at c88)
                (try simp (disch := omega) only [lg_cmp_ge, lg_cmp_le, lg_cmp_gt, lg_cmp_lt, lg_cmp_eq, eL_0, eL_1, eL_m1, eL_LO, eL_HI, eL_W, eL_add, eL_sub, eL_mul, eL_neg, eL_lt, eL_le, eL_eq, eL_remN, eL_mod0, ne_eq, Int64.not_lt, Int64.not_le] at c97)
                (try simp (disch := omega) only [lg_cmp_ge, lg_cmp_le, lg_cmp_gt, lg_cmp_lt, lg_cmp_eq, eL_0, eL_1, eL_m1, eL_LO, eL_HI, eL_W, eL_add, eL_sub, eL_mul, eL_neg, eL_lt, eL_le, eL_eq, eL_remN, eL_mod0, ne_eq, Int64.not_lt, Int64.not_le] at c113)
                refine ⟨rfl, rfl, ?_⟩
                unfold logS
                first
                  | exact absurd c151 c70
                  | (rw [if_pos ⟨e1, e2⟩]
                     unfold bitS
                     first
                       | (rw [if_pos (by first | exact (nI_eq (b := 12) (by omega) (by omega)).mp c19)]; done)
                       | (rw [if_neg (fun z => c19 (by rw [z]; rfl)), if_pos (by first | exact (nI_eq (b := 13) (by omega) (by omega)).mp c37)]; done)
                       | (rw [if_neg (fun z => c19 (by rw [z]; rfl)), if_neg (fun z => c37 (by rw [z]; rfl))]; done))
                  | (rw [if_neg n1, if_pos (by first | exact (nI_eq (b := 12) (by omega) (by omega)).mp c70)]
                     first
                       | (rw [if_pos (by omega), mSpan_mk (by omega) (by omega) (by omega) (by omega)]; done)
                       | (rw [if_neg (by omega), if_pos (by omega), mSpan_mk (by omega) (by omega) (by omega) (by omega)]; done)
                       | (rw [if_neg (by omega), if_neg (by omega), if_pos (by omega), mSpan_mk (by omega) (by omega) (by omega) (by omega)]; done)
                       | (rw [if_neg (by omega), if_neg (by omega), if_neg (by omega)]; done))
                  | (rw [if_neg n1, if_neg (fun z => c151 (by rw [z]; rfl)), if_neg (by omega)]; done)
              · refine gi_aload_n (q := 117) (i := 2) C (dm_Re_combine 58 rfl) rfl rfl rfl ?_
                refine gi_get (q := 120) C (dm_Re_combine 59 rfl) rfl fl_Re_25 (by repeat (first | exact gi_up_self _ _ _ | assumption | rw [gi_up_ne (by omega)])) rfl ?_
                refine gi_goto (tgt := 134) C (dm_Re_combine 60 rfl) (by decide) ?_
                refine gi_lstore (q := 136) C (dm_Re_combine 66 rfl) rfl (Nat.le_of_ble_eq_true rfl) ?_
                refine gi_aload (q := 138) C (dm_Re_combine 67 rfl) rfl rfl ?_
                refine gi_lconst (q := 139) (v := 0) C (dm_Re_combine 68 rfl) rfl (by decide) ?_
                refine gi_lload (q := 141) C (dm_Re_combine 69 rfl) rfl rfl ?_
                refine gi_lconst (q := 142) (v := 1) C (dm_Re_combine 70 rfl) rfl (by decide) ?_
                rw [eL_0, eL_1]
                refine gi_callv 3 (q := 145) C (dm_Re_combine 71 rfl) rfl my_Va_beSpan lk_Re_74 im_Va_beSpan rfl (c_Va_beSpan ao v _ _ _ hc) hc rfl rfl ⟨(Nat.le_of_ble_eq_true rfl), (Nat.le_of_ble_eq_true rfl)⟩ (Nat.le_of_ble_eq_true rfl) ⟨(Nat.le_of_ble_eq_true rfl), (Nat.le_of_ble_eq_true rfl)⟩ (fun r142 n142 h142 e142 => ?_)
                obtain ⟨rfl, rfl, rfl⟩ := e142
                refine gi_goto (tgt := 255) C (dm_Re_combine 72 rfl) (by decide) ?_
                refine gi_vret C hr (dm_Re_combine 126 rfl) ?_
                (try simp (disch := omega) only [lg_cmp_ge, lg_cmp_le, lg_cmp_gt, lg_cmp_lt, lg_cmp_eq, eL_0, eL_1, eL_m1, eL_LO, eL_HI, eL_W, eL_add, eL_sub, eL_mul, eL_neg, eL_lt, eL_le, eL_eq, eL_remN, eL_mod0, ne_eq, Int64.not_lt, Int64.not_le] at c4)
                (try simp (disch := omega) only [lg_cmp_ge, lg_cmp_le, lg_cmp_gt, lg_cmp_lt, lg_cmp_eq, eL_0, eL_1, eL_m1, eL_LO, eL_HI, eL_W, eL_add, eL_sub, eL_mul, eL_neg, eL_lt, eL_le, eL_eq, eL_remN, eL_mod0, ne_eq, Int64.not_lt, Int64.not_le] at c11)
                (try simp (disch := omega) only [lg_cmp_ge, lg_cmp_le, lg_cmp_gt, lg_cmp_lt, lg_cmp_eq, eL_0, eL_1, eL_m1, eL_LO, eL_HI, eL_W, eL_add, eL_sub, eL_mul, eL_neg, eL_lt, eL_le, eL_eq, eL_remN, eL_mod0, ne_eq, Int64.not_lt, Int64.not_le] at c70)
                (try simp (disch := omega) only [lg_cmp_ge, lg_cmp_le, lg_cmp_gt, lg_cmp_lt, lg_cmp_eq, eL_0, eL_1, eL_m1, eL_LO, eL_HI, eL_W, eL_add, eL_sub, eL_mul, eL_neg, eL_lt, eL_le, eL_eq, eL_remN, eL_mod0, ne_eq, Int64.not_lt, Int64.not_le] at c79)
                (try simp (disch := omega) only [lg_cmp_ge, lg_cmp_le, lg_cmp_gt, lg_cmp_lt, lg_cmp_eq, eL_0, eL_1, eL_m1, eL_LO, eL_HI, eL_W, eL_add, eL_sub, eL_mul, eL_neg, eL_lt, eL_le, eL_eq, eL_remN, eL_mod0, ne_eq, Int64.not_lt, Int64.not_le] at c88)
                (try simp (disch := omega) only [lg_cmp_ge, lg_cmp_le, lg_cmp_gt, lg_cmp_lt, lg_cmp_eq, eL_0, eL_1, eL_m1, eL_LO, eL_HI, eL_W, eL_add, eL_sub, eL_mul, eL_neg, eL_lt, eL_le, eL_eq, eL_remN, eL_mod0, ne_eq, Int64.not_lt, Int64.not_le] at c97)
                (try simp (disch := omega) only [lg_cmp_ge, lg_cmp_le, lg_cmp_gt, lg_cmp_lt, lg_cmp_eq, eL_0, eL_1, eL_m1, eL_LO, eL_HI, eL_W, eL_add, eL_sub, eL_mul, eL_neg, eL_lt, eL_le, eL_eq, eL_remN, eL_mod0, ne_eq, Int64.not_lt, Int64.not_le] at c113)
                refine ⟨rfl, rfl, ?_⟩
                unfold logS
                first
                  | exact absurd c151 c70
                  | (rw [if_pos ⟨e1, e2⟩]
                     unfold bitS
                     first
                       | (rw [if_pos (by first | exact (nI_eq (b := 12) (by omega) (by omega)).mp c19)]; done)
                       | (rw [if_neg (fun z => c19 (by rw [z]; rfl)), if_pos (by first | exact (nI_eq (b := 13) (by omega) (by omega)).mp c37)]; done)
                       | (rw [if_neg (fun z => c19 (by rw [z]; rfl)), if_neg (fun z => c37 (by rw [z]; rfl))]; done))
                  | (rw [if_neg n1, if_pos (by first | exact (nI_eq (b := 12) (by omega) (by omega)).mp c70)]
                     first
                       | (rw [if_pos (by omega), mSpan_mk (by omega) (by omega) (by omega) (by omega)]; done)
                       | (rw [if_neg (by omega), if_pos (by omega), mSpan_mk (by omega) (by omega) (by omega) (by omega)]; done)
                       | (rw [if_neg (by omega), if_neg (by omega), if_pos (by omega), mSpan_mk (by omega) (by omega) (by omega) (by omega)]; done)
                       | (rw [if_neg (by omega), if_neg (by omega), if_neg (by omega)]; done))
                  | (rw [if_neg n1, if_neg (fun z => c151 (by rw [z]; rfl)), if_neg (by omega)]; done)
            · refine gi_aload_n (q := 101) (i := 3) C (dm_Re_combine 50 rfl) rfl rfl rfl ?_
              refine gi_get (q := 104) C (dm_Re_combine 51 rfl) rfl fl_Re_25 (by repeat (first | exact gi_up_self _ _ _ | assumption | rw [gi_up_ne (by omega)])) rfl ?_
              refine gi_goto (tgt := 134) C (dm_Re_combine 52 rfl) (by decide) ?_
              refine gi_lstore (q := 136) C (dm_Re_combine 66 rfl) rfl (Nat.le_of_ble_eq_true rfl) ?_
              refine gi_aload (q := 138) C (dm_Re_combine 67 rfl) rfl rfl ?_
              refine gi_lconst (q := 139) (v := 0) C (dm_Re_combine 68 rfl) rfl (by decide) ?_
              refine gi_lload (q := 141) C (dm_Re_combine 69 rfl) rfl rfl ?_
              refine gi_lconst (q := 142) (v := 1) C (dm_Re_combine 70 rfl) rfl (by decide) ?_
              rw [eL_0, eL_1]
              refine gi_callv 3 (q := 145) C (dm_Re_combine 71 rfl) rfl my_Va_beSpan lk_Re_74 im_Va_beSpan rfl (c_Va_beSpan ao v _ _ _ hc) hc rfl rfl ⟨(Nat.le_of_ble_eq_true rfl), (Nat.le_of_ble_eq_true rfl)⟩ (Nat.le_of_ble_eq_true rfl) ⟨(Nat.le_of_ble_eq_true rfl), (Nat.le_of_ble_eq_true rfl)⟩ (fun r142 n142 h142 e142 => ?_)
              obtain ⟨rfl, rfl, rfl⟩ := e142
              refine gi_goto (tgt := 255) C (dm_Re_combine 72 rfl) (by decide) ?_
              refine gi_vret C hr (dm_Re_combine 126 rfl) ?_
              (try simp (disch := omega) only [lg_cmp_ge, lg_cmp_le, lg_cmp_gt, lg_cmp_lt, lg_cmp_eq, eL_0, eL_1, eL_m1, eL_LO, eL_HI, eL_W, eL_add, eL_sub, eL_mul, eL_neg, eL_lt, eL_le, eL_eq, eL_remN, eL_mod0, ne_eq, Int64.not_lt, Int64.not_le] at c4)
              (try simp (disch := omega) only [lg_cmp_ge, lg_cmp_le, lg_cmp_gt, lg_cmp_lt, lg_cmp_eq, eL_0, eL_1, eL_m1, eL_LO, eL_HI, eL_W, eL_add, eL_sub, eL_mul, eL_neg, eL_lt, eL_le, eL_eq, eL_remN, eL_mod0, ne_eq, Int64.not_lt, Int64.not_le] at c11)
              (try simp (disch := omega) only [lg_cmp_ge, lg_cmp_le, lg_cmp_gt, lg_cmp_lt, lg_cmp_eq, eL_0, eL_1, eL_m1, eL_LO, eL_HI, eL_W, eL_add, eL_sub, eL_mul, eL_neg, eL_lt, eL_le, eL_eq, eL_remN, eL_mod0, ne_eq, Int64.not_lt, Int64.not_le] at c70)
              (try simp (disch := omega) only [lg_cmp_ge, lg_cmp_le, lg_cmp_gt, lg_cmp_lt, lg_cmp_eq, eL_0, eL_1, eL_m1, eL_LO, eL_HI, eL_W, eL_add, eL_sub, eL_mul, eL_neg, eL_lt, eL_le, eL_eq, eL_remN, eL_mod0, ne_eq, Int64.not_lt, Int64.not_le] at c79)
              (try simp (disch := omega) only [lg_cmp_ge, lg_cmp_le, lg_cmp_gt, lg_cmp_lt, lg_cmp_eq, eL_0, eL_1, eL_m1, eL_LO, eL_HI, eL_W, eL_add, eL_sub, eL_mul, eL_neg, eL_lt, eL_le, eL_eq, eL_remN, eL_mod0, ne_eq, Int64.not_lt, Int64.not_le] at c88)
              (try simp (disch := omega) only [lg_cmp_ge, lg_cmp_le, lg_cmp_gt, lg_cmp_lt, lg_cmp_eq, eL_0, eL_1, eL_m1, eL_LO, eL_HI, eL_W, eL_add, eL_sub, eL_mul, eL_neg, eL_lt, eL_le, eL_eq, eL_remN, eL_mod0, ne_eq, Int64.not_lt, Int64.not_le] at c97)
              refine ⟨rfl, rfl, ?_⟩
              unfold logS
              first
                | exact absurd c151 c70
                | (rw [if_pos ⟨e1, e2⟩]
                   unfold bitS
                   first
                     | (rw [if_pos (by first | exact (nI_eq (b := 12) (by omega) (by omega)).mp c19)]; done)
                     | (rw [if_neg (fun z => c19 (by rw [z]; rfl)), if_pos (by first | exact (nI_eq (b := 13) (by omega) (by omega)).mp c37)]; done)
                     | (rw [if_neg (fun z => c19 (by rw [z]; rfl)), if_neg (fun z => c37 (by rw [z]; rfl))]; done))
                | (rw [if_neg n1, if_pos (by first | exact (nI_eq (b := 12) (by omega) (by omega)).mp c70)]
                   first
                     | (rw [if_pos (by omega), mSpan_mk (by omega) (by omega) (by omega) (by omega)]; done)
                     | (rw [if_neg (by omega), if_pos (by omega), mSpan_mk (by omega) (by omega) (by omega) (by omega)]; done)
                     | (rw [if_neg (by omega), if_neg (by omega), if_pos (by omega), mSpan_mk (by omega) (by omega) (by omega) (by omega)]; done)
                     | (rw [if_neg (by omega), if_neg (by omega), if_neg (by omega)]; done))
                | (rw [if_neg n1, if_neg (fun z => c151 (by rw [z]; rfl)), if_neg (by omega)]; done)
    · have e1 : x.1 = x.2.1 := sgT (by omega) (by omega) (by omega) (by omega) c4
      have e2 : y.1 = y.2.1 := sgT (by omega) (by omega) (by omega) (by omega) c11
      refine gi_aload (q := 16) C (dm_Re_combine 6 rfl) rfl rfl ?_
      refine gi_iload_n (q := 17) (i := 1) C (dm_Re_combine 7 rfl) rfl rfl rfl ?_
      refine gi_bipush (q := 19) (v := 12) C (dm_Re_combine 8 rfl) rfl (by decide) ?_
      refine gi_icmp_ne (q := 22) (tgt := 34) C (dm_Re_combine 9 rfl) rfl (by decide) (fun c19 => ?_) (fun c19 => ?_)
      · refine gi_iload_n (q := 35) (i := 1) C (dm_Re_combine 16 rfl) rfl rfl rfl ?_
        refine gi_bipush (q := 37) (v := 13) C (dm_Re_combine 17 rfl) rfl (by decide) ?_
        refine gi_icmp_ne (q := 40) (tgt := 52) C (dm_Re_combine 18 rfl) rfl (by decide) (fun c37 => ?_) (fun c37 => ?_)
        · refine gi_aload_n (q := 53) (i := 2) C (dm_Re_combine 25 rfl) rfl rfl rfl ?_
          refine gi_get (q := 56) C (dm_Re_combine 26 rfl) rfl fl_Re_21 (by repeat (first | exact gi_up_self _ _ _ | assumption | rw [gi_up_ne (by omega)])) rfl ?_
          refine gi_aload_n (q := 57) (i := 3) C (dm_Re_combine 27 rfl) rfl rfl rfl ?_
          refine gi_get (q := 60) C (dm_Re_combine 28 rfl) rfl fl_Re_21 (by repeat (first | exact gi_up_self _ _ _ | assumption | rw [gi_up_ne (by omega)])) rfl ?_
          refine gi_lxor (q := 61) C (dm_Re_combine 29 rfl) rfl ?_
          try rw [eL_of (eL x.1 &&& eL y.1)]
          try rw [eL_of (eL x.1 ||| eL y.1)]
          try rw [eL_of (eL x.1 ^^^ eL y.1)]
          refine gi_callv 1 (q := 64) C (dm_Re_combine 30 rfl) rfl my_Va_beSingle lk_Re_90 im_Va_beSingle rfl (c_Va_beSingle ao v _ hc) hc rfl rfl ⟨(Nat.le_of_ble_eq_true rfl), (Nat.le_of_ble_eq_true rfl)⟩ (Nat.le_of_ble_eq_true rfl) ⟨(Nat.le_of_ble_eq_true rfl), (Nat.le_of_ble_eq_true rfl)⟩ (fun r61 n61 h61 e61 => ?_)
          obtain ⟨rfl, rfl, rfl⟩ := e61
          refine gi_goto (tgt := 255) C (dm_Re_combine 31 rfl) (by decide) ?_
          refine gi_vret C hr (dm_Re_combine 126 rfl) ?_
          (try simp (disch := omega) only [lg_cmp_ge, lg_cmp_le, lg_cmp_gt, lg_cmp_lt, lg_cmp_eq, eL_0, eL_1, eL_m1, eL_LO, eL_HI, eL_W, eL_add, eL_sub, eL_mul, eL_neg, eL_lt, eL_le, eL_eq, eL_remN, eL_mod0, ne_eq, Int64.not_lt, Int64.not_le] at c4)
          (try simp (disch := omega) only [lg_cmp_ge, lg_cmp_le, lg_cmp_gt, lg_cmp_lt, lg_cmp_eq, eL_0, eL_1, eL_m1, eL_LO, eL_HI, eL_W, eL_add, eL_sub, eL_mul, eL_neg, eL_lt, eL_le, eL_eq, eL_remN, eL_mod0, ne_eq, Int64.not_lt, Int64.not_le] at c11)
          (try simp (disch := omega) only [lg_cmp_ge, lg_cmp_le, lg_cmp_gt, lg_cmp_lt, lg_cmp_eq, eL_0, eL_1, eL_m1, eL_LO, eL_HI, eL_W, eL_add, eL_sub, eL_mul, eL_neg, eL_lt, eL_le, eL_eq, eL_remN, eL_mod0, ne_eq, Int64.not_lt, Int64.not_le] at c19)
          (try simp (disch := omega) only [lg_cmp_ge, lg_cmp_le, lg_cmp_gt, lg_cmp_lt, lg_cmp_eq, eL_0, eL_1, eL_m1, eL_LO, eL_HI, eL_W, eL_add, eL_sub, eL_mul, eL_neg, eL_lt, eL_le, eL_eq, eL_remN, eL_mod0, ne_eq, Int64.not_lt, Int64.not_le] at c37)
          refine ⟨rfl, rfl, ?_⟩
          unfold logS
          first
            | exact absurd c151 c70
            | (rw [if_pos ⟨e1, e2⟩]
               unfold bitS
               first
                 | (rw [if_pos (by first | exact (nI_eq (b := 12) (by omega) (by omega)).mp c19)]; done)
                 | (rw [if_neg (fun z => c19 (by rw [z]; rfl)), if_pos (by first | exact (nI_eq (b := 13) (by omega) (by omega)).mp c37)]; done)
                 | (rw [if_neg (fun z => c19 (by rw [z]; rfl)), if_neg (fun z => c37 (by rw [z]; rfl))]; done))
            | (rw [if_neg n1, if_pos (by first | exact (nI_eq (b := 12) (by omega) (by omega)).mp c70)]
               first
                 | (rw [if_pos (by omega), mSpan_mk (by omega) (by omega) (by omega) (by omega)]; done)
                 | (rw [if_neg (by omega), if_pos (by omega), mSpan_mk (by omega) (by omega) (by omega) (by omega)]; done)
                 | (rw [if_neg (by omega), if_neg (by omega), if_pos (by omega), mSpan_mk (by omega) (by omega) (by omega) (by omega)]; done)
                 | (rw [if_neg (by omega), if_neg (by omega), if_neg (by omega)]; done))
            | (rw [if_neg n1, if_neg (fun z => c151 (by rw [z]; rfl)), if_neg (by omega)]; done)
        · refine gi_aload_n (q := 41) (i := 2) C (dm_Re_combine 19 rfl) rfl rfl rfl ?_
          refine gi_get (q := 44) C (dm_Re_combine 20 rfl) rfl fl_Re_21 (by repeat (first | exact gi_up_self _ _ _ | assumption | rw [gi_up_ne (by omega)])) rfl ?_
          refine gi_aload_n (q := 45) (i := 3) C (dm_Re_combine 21 rfl) rfl rfl rfl ?_
          refine gi_get (q := 48) C (dm_Re_combine 22 rfl) rfl fl_Re_21 (by repeat (first | exact gi_up_self _ _ _ | assumption | rw [gi_up_ne (by omega)])) rfl ?_
          refine gi_lor (q := 49) C (dm_Re_combine 23 rfl) rfl ?_
          refine gi_goto (tgt := 61) C (dm_Re_combine 24 rfl) (by decide) ?_
          try rw [eL_of (eL x.1 &&& eL y.1)]
          try rw [eL_of (eL x.1 ||| eL y.1)]
          try rw [eL_of (eL x.1 ^^^ eL y.1)]
          refine gi_callv 1 (q := 64) C (dm_Re_combine 30 rfl) rfl my_Va_beSingle lk_Re_90 im_Va_beSingle rfl (c_Va_beSingle ao v _ hc) hc rfl rfl ⟨(Nat.le_of_ble_eq_true rfl), (Nat.le_of_ble_eq_true rfl)⟩ (Nat.le_of_ble_eq_true rfl) ⟨(Nat.le_of_ble_eq_true rfl), (Nat.le_of_ble_eq_true rfl)⟩ (fun r61 n61 h61 e61 => ?_)
          obtain ⟨rfl, rfl, rfl⟩ := e61
          refine gi_goto (tgt := 255) C (dm_Re_combine 31 rfl) (by decide) ?_
          refine gi_vret C hr (dm_Re_combine 126 rfl) ?_
          (try simp (disch := omega) only [lg_cmp_ge, lg_cmp_le, lg_cmp_gt, lg_cmp_lt, lg_cmp_eq, eL_0, eL_1, eL_m1, eL_LO, eL_HI, eL_W, eL_add, eL_sub, eL_mul, eL_neg, eL_lt, eL_le, eL_eq, eL_remN, eL_mod0, ne_eq, Int64.not_lt, Int64.not_le] at c4)
          (try simp (disch := omega) only [lg_cmp_ge, lg_cmp_le, lg_cmp_gt, lg_cmp_lt, lg_cmp_eq, eL_0, eL_1, eL_m1, eL_LO, eL_HI, eL_W, eL_add, eL_sub, eL_mul, eL_neg, eL_lt, eL_le, eL_eq, eL_remN, eL_mod0, ne_eq, Int64.not_lt, Int64.not_le] at c11)
          (try simp (disch := omega) only [lg_cmp_ge, lg_cmp_le, lg_cmp_gt, lg_cmp_lt, lg_cmp_eq, eL_0, eL_1, eL_m1, eL_LO, eL_HI, eL_W, eL_add, eL_sub, eL_mul, eL_neg, eL_lt, eL_le, eL_eq, eL_remN, eL_mod0, ne_eq, Int64.not_lt, Int64.not_le] at c19)
          (try simp (disch := omega) only [lg_cmp_ge, lg_cmp_le, lg_cmp_gt, lg_cmp_lt, lg_cmp_eq, eL_0, eL_1, eL_m1, eL_LO, eL_HI, eL_W, eL_add, eL_sub, eL_mul, eL_neg, eL_lt, eL_le, eL_eq, eL_remN, eL_mod0, ne_eq, Int64.not_lt, Int64.not_le] at c37)
          refine ⟨rfl, rfl, ?_⟩
          unfold logS
          first
            | exact absurd c151 c70
            | (rw [if_pos ⟨e1, e2⟩]
               unfold bitS
               first
                 | (rw [if_pos (by first | exact (nI_eq (b := 12) (by omega) (by omega)).mp c19)]; done)
                 | (rw [if_neg (fun z => c19 (by rw [z]; rfl)), if_pos (by first | exact (nI_eq (b := 13) (by omega) (by omega)).mp c37)]; done)
                 | (rw [if_neg (fun z => c19 (by rw [z]; rfl)), if_neg (fun z => c37 (by rw [z]; rfl))]; done))
            | (rw [if_neg n1, if_pos (by first | exact (nI_eq (b := 12) (by omega) (by omega)).mp c70)]
               first
                 | (rw [if_pos (by omega), mSpan_mk (by omega) (by omega) (by omega) (by omega)]; done)
                 | (rw [if_neg (by omega), if_pos (by omega), mSpan_mk (by omega) (by omega) (by omega) (by omega)]; done)
                 | (rw [if_neg (by omega), if_neg (by omega), if_pos (by omega), mSpan_mk (by omega) (by omega) (by omega) (by omega)]; done)
                 | (rw [if_neg (by omega), if_neg (by omega), if_neg (by omega)]; done))
            | (rw [if_neg n1, if_neg (fun z => c151 (by rw [z]; rfl)), if_neg (by omega)]; done)
      · refine gi_aload_n (q := 23) (i := 2) C (dm_Re_combine 10 rfl) rfl rfl rfl ?_
        refine gi_get (q := 26) C (dm_Re_combine 11 rfl) rfl fl_Re_21 (by repeat (first | exact gi_up_self _ _ _ | assumption | rw [gi_up_ne (by omega)])) rfl ?_
        refine gi_aload_n (q := 27) (i := 3) C (dm_Re_combine 12 rfl) rfl rfl rfl ?_
        refine gi_get (q := 30) C (dm_Re_combine 13 rfl) rfl fl_Re_21 (by repeat (first | exact gi_up_self _ _ _ | assumption | rw [gi_up_ne (by omega)])) rfl ?_
        refine gi_land (q := 31) C (dm_Re_combine 14 rfl) rfl ?_
        refine gi_goto (tgt := 61) C (dm_Re_combine 15 rfl) (by decide) ?_
        try rw [eL_of (eL x.1 &&& eL y.1)]
        try rw [eL_of (eL x.1 ||| eL y.1)]
        try rw [eL_of (eL x.1 ^^^ eL y.1)]
        refine gi_callv 1 (q := 64) C (dm_Re_combine 30 rfl) rfl my_Va_beSingle lk_Re_90 im_Va_beSingle rfl (c_Va_beSingle ao v _ hc) hc rfl rfl ⟨(Nat.le_of_ble_eq_true rfl), (Nat.le_of_ble_eq_true rfl)⟩ (Nat.le_of_ble_eq_true rfl) ⟨(Nat.le_of_ble_eq_true rfl), (Nat.le_of_ble_eq_true rfl)⟩ (fun r61 n61 h61 e61 => ?_)
        obtain ⟨rfl, rfl, rfl⟩ := e61
        refine gi_goto (tgt := 255) C (dm_Re_combine 31 rfl) (by decide) ?_
        refine gi_vret C hr (dm_Re_combine 126 rfl) ?_
        (try simp (disch := omega) only [lg_cmp_ge, lg_cmp_le, lg_cmp_gt, lg_cmp_lt, lg_cmp_eq, eL_0, eL_1, eL_m1, eL_LO, eL_HI, eL_W, eL_add, eL_sub, eL_mul, eL_neg, eL_lt, eL_le, eL_eq, eL_remN, eL_mod0, ne_eq, Int64.not_lt, Int64.not_le] at c4)
        (try simp (disch := omega) only [lg_cmp_ge, lg_cmp_le, lg_cmp_gt, lg_cmp_lt, lg_cmp_eq, eL_0, eL_1, eL_m1, eL_LO, eL_HI, eL_W, eL_add, eL_sub, eL_mul, eL_neg, eL_lt, eL_le, eL_eq, eL_remN, eL_mod0, ne_eq, Int64.not_lt, Int64.not_le] at c11)
        (try simp (disch := omega) only [lg_cmp_ge, lg_cmp_le, lg_cmp_gt, lg_cmp_lt, lg_cmp_eq, eL_0, eL_1, eL_m1, eL_LO, eL_HI, eL_W, eL_add, eL_sub, eL_mul, eL_neg, eL_lt, eL_le, eL_eq, eL_remN, eL_mod0, ne_eq, Int64.not_lt, Int64.not_le] at c19)
        refine ⟨rfl, rfl, ?_⟩
        unfold logS
        first
          | exact absurd c151 c70
          | (rw [if_pos ⟨e1, e2⟩]
             unfold bitS
             first
               | (rw [if_pos (by first | exact (nI_eq (b := 12) (by omega) (by omega)).mp c19)]; done)
               | (rw [if_neg (fun z => c19 (by rw [z]; rfl)), if_pos (by first | exact (nI_eq (b := 13) (by omega) (by omega)).mp c37)]; done)
               | (rw [if_neg (fun z => c19 (by rw [z]; rfl)), if_neg (fun z => c37 (by rw [z]; rfl))]; done))
          | (rw [if_neg n1, if_pos (by first | exact (nI_eq (b := 12) (by omega) (by omega)).mp c70)]
             first
               | (rw [if_pos (by omega), mSpan_mk (by omega) (by omega) (by omega) (by omega)]; done)
               | (rw [if_neg (by omega), if_pos (by omega), mSpan_mk (by omega) (by omega) (by omega) (by omega)]; done)
               | (rw [if_neg (by omega), if_neg (by omega), if_pos (by omega), mSpan_mk (by omega) (by omega) (by omega) (by omega)]; done)
               | (rw [if_neg (by omega), if_neg (by omega), if_neg (by omega)]; done))
          | (rw [if_neg n1, if_neg (fun z => c151 (by rw [z]; rfl)), if_neg (by omega)]; done)
end RE5
