-- needs: 62
section RE4
variable {l : Launch} {V : gi_V} {n : Nat} {h : gi_H}
theorem siz_b {y : Sp} (hy : okS y) : -2147483648 ≤ sizH y ∧ sizH y ≤ 2147483648 ∧ 0 ≤ sizL y ∧ sizL y ≤ 4294967296 := by
  unfold sizH sizL
  split
  · rename_i p q ep eq_
    have n1 := neg_has hy ep
    have n2 := pos_has hy eq_
    obtain ⟨a1, a2, a3, -⟩ := n1.1
    obtain ⟨b1, b2, b3, -⟩ := n2.1
    omega
  · rename_i p ep eq_
    have n1 := neg_has hy ep
    obtain ⟨a1, a2, a3, -⟩ := n1.1
    omega
  · rename_i q ep eq_
    have n2 := pos_has hy eq_
    obtain ⟨b1, b2, b3, -⟩ := n2.1
    omega
  · omega
set_option maxHeartbeats 4000000 in
set_option maxRecDepth 100000 in
theorem c_Re_remain (r ax ay ao : Nat) (x y : Sp) (u u' v : mV) (hx : okS x) (hy : okS y) (h0 : ¬ (y.1 = 0 ∧ y.2.1 = 0)) (H : re_at r u u' h) (x1 : ax ≠ r) (x2 : ax ≠ r + 1) (x3 : ax ≠ r + 2) (q1 : ay ≠ r) (q2 : ay ≠ r + 1) (q3 : ay ≠ r + 2) (p1 : ao ≠ r) (p2 : ao ≠ r + 1) (p3 : ao ≠ r + 2) (hxo : ao ≠ ax) (hyo : ao ≠ ay) (ha : h ax = some (eV (sV x))) (hb : h ay = some (eV (sV y))) (hc : h ao = some (eV v)) : gi_T l V y_Re_remain b_Re_remain 8 none 2 50 0 0 [.ref r, .ref ax, .ref ay, .ref ao] n h (fun z n' h' => z = none ∧ n' = n ∧ ∃ w w' : mV, h' = gi_up (gi_up (gi_up h (r + 1) (eV w)) (r + 2) (eV w')) ao (eV (sV (restS x y)))) := by
  refine gi_enter (by decide) (Nat.le_of_ble_eq_true rfl) ?_
  intro _ _ _ _ _ _ _ _ C hr hnm
  obtain ⟨o1, o2, o3, o4, o5, o6⟩ := id hx
  have o7 := hx.st
  obtain ⟨w1, w2, w3, w4, w5, w6⟩ := id hy
  have w7 := hy.st
  obtain ⟨H0, H1, H2⟩ := id H
  refine gi_aload_n (q := 1) (i := 1) C (dm_Re_remain 0 rfl) rfl rfl rfl ?_
  refine gi_callv 0 (q := 4) C (dm_Re_remain 1 rfl) rfl my_Va_isSingle lk_Re_39 im_Va_isSingle rfl (c_Va_isSingle ax _ ha) ha rfl rfl ⟨(Nat.le_of_ble_eq_true rfl), (Nat.le_of_ble_eq_true rfl)⟩ (Nat.le_of_ble_eq_true rfl) ⟨(Nat.le_of_ble_eq_true rfl), (Nat.le_of_ble_eq_true rfl)⟩ (fun r1 n1 h1 e1 => ?_)
  obtain ⟨rfl, rfl, rfl⟩ := e1
  refine gi_if_eq (q := 7) (tgt := 37) C (dm_Re_remain 2 rfl) rfl (by decide) (fun c4 => ?_) (fun c4 => ?_)
  · have n1 : ¬ (x.1 = x.2.1 ∧ y.1 = y.2.1) := by
      first
        | exact fun q => sgF (by omega) (by omega) (by omega) (by omega) c4 q.1
        | exact fun q => sgF (by omega) (by omega) (by omega) (by omega) c11 q.2
        | (intro q
           (try simp (disch := omega) only [lg_cmp_ge, lg_cmp_le, lg_cmp_gt, lg_cmp_lt, lg_cmp_eq, eL_0, eL_1, eL_m1, eL_LO, eL_HI, eL_W, eL_add, eL_sub, eL_mul, eL_neg, eL_lt, eL_le, eL_eq, eL_remN, eL_mod0, ne_eq, Int64.not_lt, Int64.not_le] at c4)
           omega)
    refine gi_aload_n (q := 38) (i := 0) C (dm_Re_remain 19 rfl) rfl rfl rfl ?_
    refine gi_aload_n (q := 39) (i := 2) C (dm_Re_remain 20 rfl) rfl rfl rfl ?_
    refine gi_callv 1 (q := 42) C (dm_Re_remain 21 rfl) rfl my_Re_splitDivisor lk_Re_111 im_Re_splitDivisor rfl (c_Re_splitDivisor r ay y u u' hy H q1 q2 q3 hb) H0 rfl rfl ⟨(Nat.le_of_ble_eq_true rfl), (Nat.le_of_ble_eq_true rfl)⟩ (Nat.le_of_ble_eq_true rfl) ⟨(Nat.le_of_ble_eq_true rfl), (Nat.le_of_ble_eq_true rfl)⟩ (fun r39 n39 h39 e39 => ?_)
    obtain ⟨rfl, rfl, rfl⟩ := e39
    refine gi_ldc2 (q := 45) C (dm_Re_remain 22 rfl) rfl kc_Re_78 ?_
    refine gi_lstore (q := 47) C (dm_Re_remain 23 rfl) rfl (Nat.le_of_ble_eq_true rfl) ?_
    refine gi_lconst (q := 48) (v := 0) C (dm_Re_remain 24 rfl) rfl (by decide) ?_
    refine gi_lstore (q := 50) C (dm_Re_remain 25 rfl) rfl (Nat.le_of_ble_eq_true rfl) ?_
    have sb := siz_b hy
    have nb : ∀ p, negS y = some p → okS p ∧ p.2.1 < 0 := fun p e => ⟨(neg_has hy e).1, by have := (neg_has hy e).2.1; omega⟩
    have pb : ∀ p, posS y = some p → okS p ∧ 0 < p.1 := fun p e => ⟨(pos_has hy e).1, by have := (pos_has hy e).2; omega⟩
    rcases eN : negS y with _ | p
    · rcases eP : posS y with _ | q
      · exact absurd (np_some hy h0) (by simp [eN, eP])
      · have hN : min 4294967296 q.1 = sizL y := by have := (pb q eP).1.2.1; have := (pb q eP).1.2.2.1; unfold sizL; rw [eN, eP]; simp only; omega
        have hM : max 0 q.2.1 = sizH y := by have := (pb q eP).1.2.1; have := (pb q eP).2; unfold sizH; rw [eN, eP]; simp only; omega
        obtain ⟨b1, b2, b3, -⟩ := (pb q eP).1
        have b0 := (pb q eP).2
        rw [wS_n, wS_s]
        rw [eL_W, eL_0]
        refine gi_aload_n (q := 51) (i := 0) C (dm_Re_remain 26 rfl) rfl rfl rfl ?_
        refine gi_get (q := 54) C (dm_Re_remain 27 rfl) rfl fl_Re_12 (by repeat (first | exact gi_up_self _ _ _ | assumption | rw [gi_up_ne (by omega)])) rfl ?_
        refine gi_callv 0 (q := 57) C (dm_Re_remain 28 rfl) rfl my_Va_isNothing lk_Re_120 im_Va_isNothing rfl (c_Va_isNothing (r + 1) _ (by repeat (first | exact gi_up_self _ _ _ | assumption | rw [gi_up_ne (by omega)]))) (by repeat (first | exact gi_up_self _ _ _ | assumption | rw [gi_up_ne (by omega)])) rfl rfl ⟨(Nat.le_of_ble_eq_true rfl), (Nat.le_of_ble_eq_true rfl)⟩ (Nat.le_of_ble_eq_true rfl) ⟨(Nat.le_of_ble_eq_true rfl), (Nat.le_of_ble_eq_true rfl)⟩ (fun r54 n54 h54 e54 => ?_)
        obtain ⟨rfl, rfl, rfl⟩ := e54
        refine gi_if_ne (q := 60) (tgt := 80) C (dm_Re_remain 29 rfl) rfl (by decide) (fun c57 => ?_) (fun c57 => ?_)
        · refine gi_aload_n (q := 81) (i := 0) C (dm_Re_remain 40 rfl) rfl rfl rfl ?_
          refine gi_get (q := 84) C (dm_Re_remain 41 rfl) rfl fl_Re_18 (by repeat (first | exact gi_up_self _ _ _ | assumption | rw [gi_up_ne (by omega)])) rfl ?_
          refine gi_callv 0 (q := 87) C (dm_Re_remain 42 rfl) rfl my_Va_isNothing lk_Re_120 im_Va_isNothing rfl (c_Va_isNothing (r + 2) _ (by repeat (first | exact gi_up_self _ _ _ | assumption | rw [gi_up_ne (by omega)]))) (by repeat (first | exact gi_up_self _ _ _ | assumption | rw [gi_up_ne (by omega)])) rfl rfl ⟨(Nat.le_of_ble_eq_true rfl), (Nat.le_of_ble_eq_true rfl)⟩ (Nat.le_of_ble_eq_true rfl) ⟨(Nat.le_of_ble_eq_true rfl), (Nat.le_of_ble_eq_true rfl)⟩ (fun r84 n84 h84 e84 => ?_)
          obtain ⟨rfl, rfl, rfl⟩ := e84
          refine gi_if_ne (q := 90) (tgt := 118) C (dm_Re_remain 43 rfl) rfl (by decide) (fun c87 => ?_) (fun c87 => ?_)
          · exact absurd ((no_iff (s := eL 0) (by omega) (by omega) (by omega) (by omega)).mpr (show ¬ q.2.1 < q.1 by omega)) c87
          · refine gi_lload (q := 92) C (dm_Re_remain 44 rfl) rfl rfl ?_
            refine gi_aload_n (q := 93) (i := 0) C (dm_Re_remain 45 rfl) rfl rfl rfl ?_
            refine gi_get (q := 96) C (dm_Re_remain 46 rfl) rfl fl_Re_18 (by repeat (first | exact gi_up_self _ _ _ | assumption | rw [gi_up_ne (by omega)])) rfl ?_
            refine gi_get (q := 99) C (dm_Re_remain 47 rfl) rfl fl_Re_21 (by repeat (first | exact gi_up_self _ _ _ | assumption | rw [gi_up_ne (by omega)])) rfl ?_
            refine gi_calls 2 (q := 102) C (dm_Re_remain 48 rfl) rfl my_Mt_min_1 lk_Re_94 sm_Mt_min_1 (c_Mt_min_1 4294967296 q.1 (by omega) (by omega) (by omega) (by omega)) rfl rfl ⟨(Nat.le_of_ble_eq_true rfl), (Nat.le_of_ble_eq_true rfl)⟩ (Nat.le_of_ble_eq_true rfl) ⟨(Nat.le_of_ble_eq_true rfl), (Nat.le_of_ble_eq_true rfl)⟩ (fun r99 n99 h99 e99 => ?_)
            obtain ⟨rfl, rfl, rfl⟩ := e99
            refine gi_lstore (q := 104) C (dm_Re_remain 49 rfl) rfl (Nat.le_of_ble_eq_true rfl) ?_
            refine gi_lload (q := 106) C (dm_Re_remain 50 rfl) rfl rfl ?_
            refine gi_aload_n (q := 107) (i := 0) C (dm_Re_remain 51 rfl) rfl rfl rfl ?_
            refine gi_get (q := 110) C (dm_Re_remain 52 rfl) rfl fl_Re_18 (by repeat (first | exact gi_up_self _ _ _ | assumption | rw [gi_up_ne (by omega)])) rfl ?_
            refine gi_get (q := 113) C (dm_Re_remain 53 rfl) rfl fl_Re_25 (by repeat (first | exact gi_up_self _ _ _ | assumption | rw [gi_up_ne (by omega)])) rfl ?_
            refine gi_calls 2 (q := 116) C (dm_Re_remain 54 rfl) rfl my_Mt_max_0 lk_Re_80 sm_Mt_max_0 (c_Mt_max_0 0 q.2.1 (by omega) (by omega) (by omega) (by omega)) rfl rfl ⟨(Nat.le_of_ble_eq_true rfl), (Nat.le_of_ble_eq_true rfl)⟩ (Nat.le_of_ble_eq_true rfl) ⟨(Nat.le_of_ble_eq_true rfl), (Nat.le_of_ble_eq_true rfl)⟩ (fun r113 n113 h113 e113 => ?_)
            obtain ⟨rfl, rfl, rfl⟩ := e113
            refine gi_lstore (q := 118) C (dm_Re_remain 55 rfl) rfl (Nat.le_of_ble_eq_true rfl) ?_
            rw [show eL (min 4294967296 q.1) = eL (sizL y) from congrArg eL hN, show eL (max 0 q.2.1) = eL (sizH y) from congrArg eL hM]
            refine gi_aload_n (q := 119) (i := 1) C (dm_Re_remain 56 rfl) rfl rfl rfl ?_
            refine gi_get (q := 122) C (dm_Re_remain 57 rfl) rfl fl_Re_21 (by repeat (first | exact gi_up_self _ _ _ | assumption | rw [gi_up_ne (by omega)])) rfl ?_
            refine gi_calls 1 (q := 125) C (dm_Re_remain 58 rfl) rfl my_Mt_abs lk_Re_126 sm_Mt_abs (c_Mt_abs x.1 (by omega) (by omega)) rfl rfl ⟨(Nat.le_of_ble_eq_true rfl), (Nat.le_of_ble_eq_true rfl)⟩ (Nat.le_of_ble_eq_true rfl) ⟨(Nat.le_of_ble_eq_true rfl), (Nat.le_of_ble_eq_true rfl)⟩ (fun r122 n122 h122 e122 => ?_)
            obtain ⟨rfl, rfl, rfl⟩ := e122
            refine gi_aload_n (q := 126) (i := 1) C (dm_Re_remain 59 rfl) rfl rfl rfl ?_
            refine gi_get (q := 129) C (dm_Re_remain 60 rfl) rfl fl_Re_25 (by repeat (first | exact gi_up_self _ _ _ | assumption | rw [gi_up_ne (by omega)])) rfl ?_
            refine gi_calls 1 (q := 132) C (dm_Re_remain 61 rfl) rfl my_Mt_abs lk_Re_126 sm_Mt_abs (c_Mt_abs x.2.1 (by omega) (by omega)) rfl rfl ⟨(Nat.le_of_ble_eq_true rfl), (Nat.le_of_ble_eq_true rfl)⟩ (Nat.le_of_ble_eq_true rfl) ⟨(Nat.le_of_ble_eq_true rfl), (Nat.le_of_ble_eq_true rfl)⟩ (fun r129 n129 h129 e129 => ?_)
            obtain ⟨rfl, rfl, rfl⟩ := e129
            refine gi_calls 2 (q := 135) C (dm_Re_remain 62 rfl) rfl my_Mt_max_0 lk_Re_80 sm_Mt_max_0 (c_Mt_max_0 (x.1.natAbs : Int) (x.2.1.natAbs : Int) (by omega) (by omega) (by omega) (by omega)) rfl rfl ⟨(Nat.le_of_ble_eq_true rfl), (Nat.le_of_ble_eq_true rfl)⟩ (Nat.le_of_ble_eq_true rfl) ⟨(Nat.le_of_ble_eq_true rfl), (Nat.le_of_ble_eq_true rfl)⟩ (fun r132 n132 h132 e132 => ?_)
            obtain ⟨rfl, rfl, rfl⟩ := e132
            refine gi_lload (q := 137) C (dm_Re_remain 63 rfl) rfl rfl ?_
            refine gi_lcmp (q := 138) C (dm_Re_remain 64 rfl) rfl ?_
            refine gi_if_ge (q := 141) (tgt := 147) C (dm_Re_remain 65 rfl) rfl (by decide) (fun c138 => ?_) (fun c138 => ?_)
            · refine gi_aload_n (q := 148) (i := 3) C (dm_Re_remain 70 rfl) rfl rfl rfl ?_
              refine gi_aload_n (q := 149) (i := 1) C (dm_Re_remain 71 rfl) rfl rfl rfl ?_
              refine gi_get (q := 152) C (dm_Re_remain 72 rfl) rfl fl_Re_21 (by repeat (first | exact gi_up_self _ _ _ | assumption | rw [gi_up_ne (by omega)])) rfl ?_
              refine gi_lconst (q := 153) (v := 0) C (dm_Re_remain 73 rfl) rfl (by decide) ?_
              refine gi_lcmp (q := 154) C (dm_Re_remain 74 rfl) rfl ?_
              refine gi_if_lt (q := 157) (tgt := 161) C (dm_Re_remain 75 rfl) rfl (by decide) (fun c154 => ?_) (fun c154 => ?_)
              · refine gi_aload_n (q := 162) (i := 1) C (dm_Re_remain 78 rfl) rfl rfl rfl ?_
                refine gi_get (q := 165) C (dm_Re_remain 79 rfl) rfl fl_Re_21 (by repeat (first | exact gi_up_self _ _ _ | assumption | rw [gi_up_ne (by omega)])) rfl ?_
                refine gi_lconst (q := 166) (v := 1) C (dm_Re_remain 80 rfl) rfl (by decide) ?_
                refine gi_lload (q := 168) C (dm_Re_remain 81 rfl) rfl rfl ?_
                refine gi_lsub (q := 169) C (dm_Re_remain 82 rfl) rfl ?_
                rw [eL_1, eL_sub]
                refine gi_calls 2 (q := 172) C (dm_Re_remain 83 rfl) rfl my_Mt_max_0 lk_Re_80 sm_Mt_max_0 (c_Mt_max_0 x.1 (1 - sizH y) (by omega) (by omega) (by omega) (by omega)) rfl rfl ⟨(Nat.le_of_ble_eq_true rfl), (Nat.le_of_ble_eq_true rfl)⟩ (Nat.le_of_ble_eq_true rfl) ⟨(Nat.le_of_ble_eq_true rfl), (Nat.le_of_ble_eq_true rfl)⟩ (fun r169 n169 h169 e169 => ?_)
                obtain ⟨rfl, rfl, rfl⟩ := e169
                refine gi_aload_n (q := 173) (i := 1) C (dm_Re_remain 84 rfl) rfl rfl rfl ?_
                refine gi_get (q := 176) C (dm_Re_remain 85 rfl) rfl fl_Re_25 (by repeat (first | exact gi_up_self _ _ _ | assumption | rw [gi_up_ne (by omega)])) rfl ?_
                refine gi_lconst (q := 177) (v := 0) C (dm_Re_remain 86 rfl) rfl (by decide) ?_
                refine gi_lcmp (q := 178) C (dm_Re_remain 87 rfl) rfl ?_
                refine gi_if_gt (q := 181) (tgt := 185) C (dm_Re_remain 88 rfl) rfl (by decide) (fun c178 => ?_) (fun c178 => ?_)
                · refine gi_aload_n (q := 186) (i := 1) C (dm_Re_remain 91 rfl) rfl rfl rfl ?_
                  refine gi_get (q := 189) C (dm_Re_remain 92 rfl) rfl fl_Re_25 (by repeat (first | exact gi_up_self _ _ _ | assumption | rw [gi_up_ne (by omega)])) rfl ?_
                  refine gi_lload (q := 191) C (dm_Re_remain 93 rfl) rfl rfl ?_
                  refine gi_lconst (q := 192) (v := 1) C (dm_Re_remain 94 rfl) rfl (by decide) ?_
                  refine gi_lsub (q := 193) C (dm_Re_remain 95 rfl) rfl ?_
                  rw [eL_1, eL_sub]
                  refine gi_calls 2 (q := 196) C (dm_Re_remain 96 rfl) rfl my_Mt_min_1 lk_Re_94 sm_Mt_min_1 (c_Mt_min_1 x.2.1 (sizH y - 1) (by omega) (by omega) (by omega) (by omega)) rfl rfl ⟨(Nat.le_of_ble_eq_true rfl), (Nat.le_of_ble_eq_true rfl)⟩ (Nat.le_of_ble_eq_true rfl) ⟨(Nat.le_of_ble_eq_true rfl), (Nat.le_of_ble_eq_true rfl)⟩ (fun r193 n193 h193 e193 => ?_)
                  obtain ⟨rfl, rfl, rfl⟩ := e193
                  refine gi_lconst (q := 197) (v := 1) C (dm_Re_remain 97 rfl) rfl (by decide) ?_
                  try rw [eL_0]
                  rw [eL_1]
                  refine gi_callv 3 (q := 200) C (dm_Re_remain 98 rfl) rfl my_Va_beSpan lk_Re_74 im_Va_beSpan rfl (c_Va_beSpan ao _ _ _ _ (by repeat (first | exact gi_up_self _ _ _ | assumption | rw [gi_up_ne (by omega)]))) (by repeat (first | exact gi_up_self _ _ _ | assumption | rw [gi_up_ne (by omega)])) rfl rfl ⟨(Nat.le_of_ble_eq_true rfl), (Nat.le_of_ble_eq_true rfl)⟩ (Nat.le_of_ble_eq_true rfl) ⟨(Nat.le_of_ble_eq_true rfl), (Nat.le_of_ble_eq_true rfl)⟩ (fun r197 n197 h197 e197 => ?_)
                  obtain ⟨rfl, rfl, rfl⟩ := e197
                  refine gi_vret C hr (dm_Re_remain 99 rfl) ?_
                  (try simp (disch := omega) only [lg_cmp_ge, lg_cmp_le, lg_cmp_gt, lg_cmp_lt, lg_cmp_eq, eL_0, eL_1, eL_m1, eL_LO, eL_HI, eL_W, eL_add, eL_sub, eL_mul, eL_neg, eL_lt, eL_le, eL_eq, eL_remN, eL_mod0, ne_eq, Int64.not_lt, Int64.not_le] at c57)
                  (try simp (disch := omega) only [lg_cmp_ge, lg_cmp_le, lg_cmp_gt, lg_cmp_lt, lg_cmp_eq, eL_0, eL_1, eL_m1, eL_LO, eL_HI, eL_W, eL_add, eL_sub, eL_mul, eL_neg, eL_lt, eL_le, eL_eq, eL_remN, eL_mod0, ne_eq, Int64.not_lt, Int64.not_le] at c87)
                  (try simp (disch := omega) only [lg_cmp_ge, lg_cmp_le, lg_cmp_gt, lg_cmp_lt, lg_cmp_eq, eL_0, eL_1, eL_m1, eL_LO, eL_HI, eL_W, eL_add, eL_sub, eL_mul, eL_neg, eL_lt, eL_le, eL_eq, eL_remN, eL_mod0, ne_eq, Int64.not_lt, Int64.not_le] at c138)
                  (try simp (disch := omega) only [lg_cmp_ge, lg_cmp_le, lg_cmp_gt, lg_cmp_lt, lg_cmp_eq, eL_0, eL_1, eL_m1, eL_LO, eL_HI, eL_W, eL_add, eL_sub, eL_mul, eL_neg, eL_lt, eL_le, eL_eq, eL_remN, eL_mod0, ne_eq, Int64.not_lt, Int64.not_le] at c154)
                  (try simp (disch := omega) only [lg_cmp_ge, lg_cmp_le, lg_cmp_gt, lg_cmp_lt, lg_cmp_eq, eL_0, eL_1, eL_m1, eL_LO, eL_HI, eL_W, eL_add, eL_sub, eL_mul, eL_neg, eL_lt, eL_le, eL_eq, eL_remN, eL_mod0, ne_eq, Int64.not_lt, Int64.not_le] at c178)
                  refine ⟨rfl, rfl, sV (1, 0, 0), sV q, ?_⟩
                  unfold restS
                  rw [if_neg n1, if_neg (by omega)]
                  first
                    | (rw [if_pos (by omega), if_pos (by omega), mSpan_mk (by omega) (by omega) (by omega) (by omega)]; done)
                    | (rw [if_pos (by omega), if_neg (by omega), mSpan_mk (by omega) (by omega) (by omega) (by omega)]; done)
                    | (rw [if_neg (by omega), if_pos (by omega), mSpan_mk (by omega) (by omega) (by omega) (by omega)]; done)
                    | (rw [if_neg (by omega), if_neg (by omega), mSpan_mk (by omega) (by omega) (by omega) (by omega)]; done)
                · refine gi_lconst (q := 182) (v := 0) C (dm_Re_remain 89 rfl) rfl (by decide) ?_
                  refine gi_goto (tgt := 196) C (dm_Re_remain 90 rfl) (by decide) ?_
                  refine gi_lconst (q := 197) (v := 1) C (dm_Re_remain 97 rfl) rfl (by decide) ?_
                  try rw [eL_0]
                  rw [eL_1]
                  refine gi_callv 3 (q := 200) C (dm_Re_remain 98 rfl) rfl my_Va_beSpan lk_Re_74 im_Va_beSpan rfl (c_Va_beSpan ao _ _ _ _ (by repeat (first | exact gi_up_self _ _ _ | assumption | rw [gi_up_ne (by omega)]))) (by repeat (first | exact gi_up_self _ _ _ | assumption | rw [gi_up_ne (by omega)])) rfl rfl ⟨(Nat.le_of_ble_eq_true rfl), (Nat.le_of_ble_eq_true rfl)⟩ (Nat.le_of_ble_eq_true rfl) ⟨(Nat.le_of_ble_eq_true rfl), (Nat.le_of_ble_eq_true rfl)⟩ (fun r197 n197 h197 e197 => ?_)
                  obtain ⟨rfl, rfl, rfl⟩ := e197
                  refine gi_vret C hr (dm_Re_remain 99 rfl) ?_
                  (try simp (disch := omega) only [lg_cmp_ge, lg_cmp_le, lg_cmp_gt, lg_cmp_lt, lg_cmp_eq, eL_0, eL_1, eL_m1, eL_LO, eL_HI, eL_W, eL_add, eL_sub, eL_mul, eL_neg, eL_lt, eL_le, eL_eq, eL_remN, eL_mod0, ne_eq, Int64.not_lt, Int64.not_le] at c57)
                  (try simp (disch := omega) only [lg_cmp_ge, lg_cmp_le, lg_cmp_gt, lg_cmp_lt, lg_cmp_eq, eL_0, eL_1, eL_m1, eL_LO, eL_HI, eL_W, eL_add, eL_sub, eL_mul, eL_neg, eL_lt, eL_le, eL_eq, eL_remN, eL_mod0, ne_eq, Int64.not_lt, Int64.not_le] at c87)
                  (try simp (disch := omega) only [lg_cmp_ge, lg_cmp_le, lg_cmp_gt, lg_cmp_lt, lg_cmp_eq, eL_0, eL_1, eL_m1, eL_LO, eL_HI, eL_W, eL_add, eL_sub, eL_mul, eL_neg, eL_lt, eL_le, eL_eq, eL_remN, eL_mod0, ne_eq, Int64.not_lt, Int64.not_le] at c138)
                  (try simp (disch := omega) only [lg_cmp_ge, lg_cmp_le, lg_cmp_gt, lg_cmp_lt, lg_cmp_eq, eL_0, eL_1, eL_m1, eL_LO, eL_HI, eL_W, eL_add, eL_sub, eL_mul, eL_neg, eL_lt, eL_le, eL_eq, eL_remN, eL_mod0, ne_eq, Int64.not_lt, Int64.not_le] at c154)
                  (try simp (disch := omega) only [lg_cmp_ge, lg_cmp_le, lg_cmp_gt, lg_cmp_lt, lg_cmp_eq, eL_0, eL_1, eL_m1, eL_LO, eL_HI, eL_W, eL_add, eL_sub, eL_mul, eL_neg, eL_lt, eL_le, eL_eq, eL_remN, eL_mod0, ne_eq, Int64.not_lt, Int64.not_le] at c178)
                  refine ⟨rfl, rfl, sV (1, 0, 0), sV q, ?_⟩
                  unfold restS
                  rw [if_neg n1, if_neg (by omega)]
                  first
                    | (rw [if_pos (by omega), if_pos (by omega), mSpan_mk (by omega) (by omega) (by omega) (by omega)]; done)
                    | (rw [if_pos (by omega), if_neg (by omega), mSpan_mk (by omega) (by omega) (by omega) (by omega)]; done)
                    | (rw [if_neg (by omega), if_pos (by omega), mSpan_mk (by omega) (by omega) (by omega) (by omega)]; done)
                    | (rw [if_neg (by omega), if_neg (by omega), mSpan_mk (by omega) (by omega) (by omega) (by omega)]; done)
              · refine gi_lconst (q := 158) (v := 0) C (dm_Re_remain 76 rfl) rfl (by decide) ?_
                refine gi_goto (tgt := 172) C (dm_Re_remain 77 rfl) (by decide) ?_
                refine gi_aload_n (q := 173) (i := 1) C (dm_Re_remain 84 rfl) rfl rfl rfl ?_
                refine gi_get (q := 176) C (dm_Re_remain 85 rfl) rfl fl_Re_25 (by repeat (first | exact gi_up_self _ _ _ | assumption | rw [gi_up_ne (by omega)])) rfl ?_
                refine gi_lconst (q := 177) (v := 0) C (dm_Re_remain 86 rfl) rfl (by decide) ?_
                refine gi_lcmp (q := 178) C (dm_Re_remain 87 rfl) rfl ?_
                refine gi_if_gt (q := 181) (tgt := 185) C (dm_Re_remain 88 rfl) rfl (by decide) (fun c178 => ?_) (fun c178 => ?_)
                · refine gi_aload_n (q := 186) (i := 1) C (dm_Re_remain 91 rfl) rfl rfl rfl ?_
                  refine gi_get (q := 189) C (dm_Re_remain 92 rfl) rfl fl_Re_25 (by repeat (first | exact gi_up_self _ _ _ | assumption | rw [gi_up_ne (by omega)])) rfl ?_
                  refine gi_lload (q := 191) C (dm_Re_remain 93 rfl) rfl rfl ?_
                  refine gi_lconst (q := 192) (v := 1) C (dm_Re_remain 94 rfl) rfl (by decide) ?_
                  refine gi_lsub (q := 193) C (dm_Re_remain 95 rfl) rfl ?_
                  rw [eL_1, eL_sub]
                  refine gi_calls 2 (q := 196) C (dm_Re_remain 96 rfl) rfl my_Mt_min_1 lk_Re_94 sm_Mt_min_1 (c_Mt_min_1 x.2.1 (sizH y - 1) (by omega) (by omega) (by omega) (by omega)) rfl rfl ⟨(Nat.le_of_ble_eq_true rfl), (Nat.le_of_ble_eq_true rfl)⟩ (Nat.le_of_ble_eq_true rfl) ⟨(Nat.le_of_ble_eq_true rfl), (Nat.le_of_ble_eq_true rfl)⟩ (fun r193 n193 h193 e193 => ?_)
                  obtain ⟨rfl, rfl, rfl⟩ := e193
                  refine gi_lconst (q := 197) (v := 1) C (dm_Re_remain 97 rfl) rfl (by decide) ?_
                  try rw [eL_0]
                  rw [eL_1]
                  refine gi_callv 3 (q := 200) C (dm_Re_remain 98 rfl) rfl my_Va_beSpan lk_Re_74 im_Va_beSpan rfl (c_Va_beSpan ao _ _ _ _ (by repeat (first | exact gi_up_self _ _ _ | assumption | rw [gi_up_ne (by omega)]))) (by repeat (first | exact gi_up_self _ _ _ | assumption | rw [gi_up_ne (by omega)])) rfl rfl ⟨(Nat.le_of_ble_eq_true rfl), (Nat.le_of_ble_eq_true rfl)⟩ (Nat.le_of_ble_eq_true rfl) ⟨(Nat.le_of_ble_eq_true rfl), (Nat.le_of_ble_eq_true rfl)⟩ (fun r197 n197 h197 e197 => ?_)
                  obtain ⟨rfl, rfl, rfl⟩ := e197
                  refine gi_vret C hr (dm_Re_remain 99 rfl) ?_
                  (try simp (disch := omega) only [lg_cmp_ge, lg_cmp_le, lg_cmp_gt, lg_cmp_lt, lg_cmp_eq, eL_0, eL_1, eL_m1, eL_LO, eL_HI, eL_W, eL_add, eL_sub, eL_mul, eL_neg, eL_lt, eL_le, eL_eq, eL_remN, eL_mod0, ne_eq, Int64.not_lt, Int64.not_le] at c57)
                  (try simp (disch := omega) only [lg_cmp_ge, lg_cmp_le, lg_cmp_gt, lg_cmp_lt, lg_cmp_eq, eL_0, eL_1, eL_m1, eL_LO, eL_HI, eL_W, eL_add, eL_sub, eL_mul, eL_neg, eL_lt, eL_le, eL_eq, eL_remN, eL_mod0, ne_eq, Int64.not_lt, Int64.not_le] at c87)
                  (try simp (disch := omega) only [lg_cmp_ge, lg_cmp_le, lg_cmp_gt, lg_cmp_lt, lg_cmp_eq, eL_0, eL_1, eL_m1, eL_LO, eL_HI, eL_W, eL_add, eL_sub, eL_mul, eL_neg, eL_lt, eL_le, eL_eq, eL_remN, eL_mod0, ne_eq, Int64.not_lt, Int64.not_le] at c138)
                  (try simp (disch := omega) only [lg_cmp_ge, lg_cmp_le, lg_cmp_gt, lg_cmp_lt, lg_cmp_eq, eL_0, eL_1, eL_m1, eL_LO, eL_HI, eL_W, eL_add, eL_sub, eL_mul, eL_neg, eL_lt, eL_le, eL_eq, eL_remN, eL_mod0, ne_eq, Int64.not_lt, Int64.not_le] at c154)
                  (try simp (disch := omega) only [lg_cmp_ge, lg_cmp_le, lg_cmp_gt, lg_cmp_lt, lg_cmp_eq, eL_0, eL_1, eL_m1, eL_LO, eL_HI, eL_W, eL_add, eL_sub, eL_mul, eL_neg, eL_lt, eL_le, eL_eq, eL_remN, eL_mod0, ne_eq, Int64.not_lt, Int64.not_le] at c178)
                  refine ⟨rfl, rfl, sV (1, 0, 0), sV q, ?_⟩
                  unfold restS
                  rw [if_neg n1, if_neg (by omega)]
                  first
                    | (rw [if_pos (by omega), if_pos (by omega), mSpan_mk (by omega) (by omega) (by omega) (by omega)]; done)
                    | (rw [if_pos (by omega), if_neg (by omega), mSpan_mk (by omega) (by omega) (by omega) (by omega)]; done)
                    | (rw [if_neg (by omega), if_pos (by omega), mSpan_mk (by omega) (by omega) (by omega) (by omega)]; done)
                    | (rw [if_neg (by omega), if_neg (by omega), mSpan_mk (by omega) (by omega) (by omega) (by omega)]; done)
                · refine gi_lconst (q := 182) (v := 0) C (dm_Re_remain 89 rfl) rfl (by decide) ?_
                  refine gi_goto (tgt := 196) C (dm_Re_remain 90 rfl) (by decide) ?_
                  refine gi_lconst (q := 197) (v := 1) C (dm_Re_remain 97 rfl) rfl (by decide) ?_
                  try rw [eL_0]
                  rw [eL_1]
                  refine gi_callv 3 (q := 200) C (dm_Re_remain 98 rfl) rfl my_Va_beSpan lk_Re_74 im_Va_beSpan rfl (c_Va_beSpan ao _ _ _ _ (by repeat (first | exact gi_up_self _ _ _ | assumption | rw [gi_up_ne (by omega)]))) (by repeat (first | exact gi_up_self _ _ _ | assumption | rw [gi_up_ne (by omega)])) rfl rfl ⟨(Nat.le_of_ble_eq_true rfl), (Nat.le_of_ble_eq_true rfl)⟩ (Nat.le_of_ble_eq_true rfl) ⟨(Nat.le_of_ble_eq_true rfl), (Nat.le_of_ble_eq_true rfl)⟩ (fun r197 n197 h197 e197 => ?_)
                  obtain ⟨rfl, rfl, rfl⟩ := e197
                  refine gi_vret C hr (dm_Re_remain 99 rfl) ?_
                  (try simp (disch := omega) only [lg_cmp_ge, lg_cmp_le, lg_cmp_gt, lg_cmp_lt, lg_cmp_eq, eL_0, eL_1, eL_m1, eL_LO, eL_HI, eL_W, eL_add, eL_sub, eL_mul, eL_neg, eL_lt, eL_le, eL_eq, eL_remN, eL_mod0, ne_eq, Int64.not_lt, Int64.not_le] at c57)
                  (try simp (disch := omega) only [lg_cmp_ge, lg_cmp_le, lg_cmp_gt, lg_cmp_lt, lg_cmp_eq, eL_0, eL_1, eL_m1, eL_LO, eL_HI, eL_W, eL_add, eL_sub, eL_mul, eL_neg, eL_lt, eL_le, eL_eq, eL_remN, eL_mod0, ne_eq, Int64.not_lt, Int64.not_le] at c87)
                  (try simp (disch := omega) only [lg_cmp_ge, lg_cmp_le, lg_cmp_gt, lg_cmp_lt, lg_cmp_eq, eL_0, eL_1, eL_m1, eL_LO, eL_HI, eL_W, eL_add, eL_sub, eL_mul, eL_neg, eL_lt, eL_le, eL_eq, eL_remN, eL_mod0, ne_eq, Int64.not_lt, Int64.not_le] at c138)
                  (try simp (disch := omega) only [lg_cmp_ge, lg_cmp_le, lg_cmp_gt, lg_cmp_lt, lg_cmp_eq, eL_0, eL_1, eL_m1, eL_LO, eL_HI, eL_W, eL_add, eL_sub, eL_mul, eL_neg, eL_lt, eL_le, eL_eq, eL_remN, eL_mod0, ne_eq, Int64.not_lt, Int64.not_le] at c154)
                  (try simp (disch := omega) only [lg_cmp_ge, lg_cmp_le, lg_cmp_gt, lg_cmp_lt, lg_cmp_eq, eL_0, eL_1, eL_m1, eL_LO, eL_HI, eL_W, eL_add, eL_sub, eL_mul, eL_neg, eL_lt, eL_le, eL_eq, eL_remN, eL_mod0, ne_eq, Int64.not_lt, Int64.not_le] at c178)
                  refine ⟨rfl, rfl, sV (1, 0, 0), sV q, ?_⟩
                  unfold restS
                  rw [if_neg n1, if_neg (by omega)]
                  first
                    | (rw [if_pos (by omega), if_pos (by omega), mSpan_mk (by omega) (by omega) (by omega) (by omega)]; done)
                    | (rw [if_pos (by omega), if_neg (by omega), mSpan_mk (by omega) (by omega) (by omega) (by omega)]; done)
                    | (rw [if_neg (by omega), if_pos (by omega), mSpan_mk (by omega) (by omega) (by omega) (by omega)]; done)
                    | (rw [if_neg (by omega), if_neg (by omega), mSpan_mk (by omega) (by omega) (by omega) (by omega)]; done)
            · refine gi_aload_n (q := 142) (i := 3) C (dm_Re_remain 66 rfl) rfl rfl rfl ?_
              refine gi_aload_n (q := 143) (i := 1) C (dm_Re_remain 67 rfl) rfl rfl rfl ?_
              refine gi_callv 1 (q := 146) C (dm_Re_remain 68 rfl) rfl my_Va_copy lk_Re_97 im_Va_copy rfl (c_Va_copy ao ax _ _ (by repeat (first | exact gi_up_self _ _ _ | assumption | rw [gi_up_ne (by omega)])) (by repeat (first | exact gi_up_self _ _ _ | assumption | rw [gi_up_ne (by omega)])) hxo (wf_s x)) (by repeat (first | exact gi_up_self _ _ _ | assumption | rw [gi_up_ne (by omega)])) rfl rfl ⟨(Nat.le_of_ble_eq_true rfl), (Nat.le_of_ble_eq_true rfl)⟩ (Nat.le_of_ble_eq_true rfl) ⟨(Nat.le_of_ble_eq_true rfl), (Nat.le_of_ble_eq_true rfl)⟩ (fun r143 n143 h143 e143 => ?_)
              obtain ⟨rfl, rfl, rfl⟩ := e143
              refine gi_vret C hr (dm_Re_remain 69 rfl) ?_
              (try simp (disch := omega) only [lg_cmp_ge, lg_cmp_le, lg_cmp_gt, lg_cmp_lt, lg_cmp_eq, eL_0, eL_1, eL_m1, eL_LO, eL_HI, eL_W, eL_add, eL_sub, eL_mul, eL_neg, eL_lt, eL_le, eL_eq, eL_remN, eL_mod0, ne_eq, Int64.not_lt, Int64.not_le] at c57)
              (try simp (disch := omega) only [lg_cmp_ge, lg_cmp_le, lg_cmp_gt, lg_cmp_lt, lg_cmp_eq, eL_0, eL_1, eL_m1, eL_LO, eL_HI, eL_W, eL_add, eL_sub, eL_mul, eL_neg, eL_lt, eL_le, eL_eq, eL_remN, eL_mod0, ne_eq, Int64.not_lt, Int64.not_le] at c87)
              (try simp (disch := omega) only [lg_cmp_ge, lg_cmp_le, lg_cmp_gt, lg_cmp_lt, lg_cmp_eq, eL_0, eL_1, eL_m1, eL_LO, eL_HI, eL_W, eL_add, eL_sub, eL_mul, eL_neg, eL_lt, eL_le, eL_eq, eL_remN, eL_mod0, ne_eq, Int64.not_lt, Int64.not_le] at c138)
              refine ⟨rfl, rfl, sV (1, 0, 0), sV q, ?_⟩
              unfold restS
              rw [if_neg n1, if_pos (by omega)]
        · exact absurd c57 (by decide)
    · rcases eP : posS y with _ | q
      · have hN : -p.2.1 = sizL y := by unfold sizL; rw [eN, eP]
        have hM : -p.1 = sizH y := by unfold sizH; rw [eN, eP]
        obtain ⟨a1, a2, a3, -⟩ := (nb p eN).1
        have a0 := (nb p eN).2
        rw [wS_n, wS_s]
        rw [eL_W, eL_0]
        refine gi_aload_n (q := 51) (i := 0) C (dm_Re_remain 26 rfl) rfl rfl rfl ?_
        refine gi_get (q := 54) C (dm_Re_remain 27 rfl) rfl fl_Re_12 (by repeat (first | exact gi_up_self _ _ _ | assumption | rw [gi_up_ne (by omega)])) rfl ?_
        refine gi_callv 0 (q := 57) C (dm_Re_remain 28 rfl) rfl my_Va_isNothing lk_Re_120 im_Va_isNothing rfl (c_Va_isNothing (r + 1) _ (by repeat (first | exact gi_up_self _ _ _ | assumption | rw [gi_up_ne (by omega)]))) (by repeat (first | exact gi_up_self _ _ _ | assumption | rw [gi_up_ne (by omega)])) rfl rfl ⟨(Nat.le_of_ble_eq_true rfl), (Nat.le_of_ble_eq_true rfl)⟩ (Nat.le_of_ble_eq_true rfl) ⟨(Nat.le_of_ble_eq_true rfl), (Nat.le_of_ble_eq_true rfl)⟩ (fun r54 n54 h54 e54 => ?_)
        obtain ⟨rfl, rfl, rfl⟩ := e54
        refine gi_if_ne (q := 60) (tgt := 80) C (dm_Re_remain 29 rfl) rfl (by decide) (fun c57 => ?_) (fun c57 => ?_)
        · exact absurd ((no_iff (s := eL 0) (by omega) (by omega) (by omega) (by omega)).mpr (show ¬ p.2.1 < p.1 by omega)) c57
        · refine gi_aload_n (q := 61) (i := 0) C (dm_Re_remain 30 rfl) rfl rfl rfl ?_
          refine gi_get (q := 64) C (dm_Re_remain 31 rfl) rfl fl_Re_12 (by repeat (first | exact gi_up_self _ _ _ | assumption | rw [gi_up_ne (by omega)])) rfl ?_
          refine gi_get (q := 67) C (dm_Re_remain 32 rfl) rfl fl_Re_25 (by repeat (first | exact gi_up_self _ _ _ | assumption | rw [gi_up_ne (by omega)])) rfl ?_
          refine gi_lneg (q := 68) C (dm_Re_remain 33 rfl) rfl ?_
          rw [eL_neg]
          refine gi_lstore (q := 70) C (dm_Re_remain 34 rfl) rfl (Nat.le_of_ble_eq_true rfl) ?_
          refine gi_aload_n (q := 71) (i := 0) C (dm_Re_remain 35 rfl) rfl rfl rfl ?_
          refine gi_get (q := 74) C (dm_Re_remain 36 rfl) rfl fl_Re_12 (by repeat (first | exact gi_up_self _ _ _ | assumption | rw [gi_up_ne (by omega)])) rfl ?_
          refine gi_get (q := 77) C (dm_Re_remain 37 rfl) rfl fl_Re_21 (by repeat (first | exact gi_up_self _ _ _ | assumption | rw [gi_up_ne (by omega)])) rfl ?_
          refine gi_lneg (q := 78) C (dm_Re_remain 38 rfl) rfl ?_
          rw [eL_neg]
          refine gi_lstore (q := 80) C (dm_Re_remain 39 rfl) rfl (Nat.le_of_ble_eq_true rfl) ?_
          refine gi_aload_n (q := 81) (i := 0) C (dm_Re_remain 40 rfl) rfl rfl rfl ?_
          refine gi_get (q := 84) C (dm_Re_remain 41 rfl) rfl fl_Re_18 (by repeat (first | exact gi_up_self _ _ _ | assumption | rw [gi_up_ne (by omega)])) rfl ?_
          refine gi_callv 0 (q := 87) C (dm_Re_remain 42 rfl) rfl my_Va_isNothing lk_Re_120 im_Va_isNothing rfl (c_Va_isNothing (r + 2) _ (by repeat (first | exact gi_up_self _ _ _ | assumption | rw [gi_up_ne (by omega)]))) (by repeat (first | exact gi_up_self _ _ _ | assumption | rw [gi_up_ne (by omega)])) rfl rfl ⟨(Nat.le_of_ble_eq_true rfl), (Nat.le_of_ble_eq_true rfl)⟩ (Nat.le_of_ble_eq_true rfl) ⟨(Nat.le_of_ble_eq_true rfl), (Nat.le_of_ble_eq_true rfl)⟩ (fun r84 n84 h84 e84 => ?_)
          obtain ⟨rfl, rfl, rfl⟩ := e84
          refine gi_if_ne (q := 90) (tgt := 118) C (dm_Re_remain 43 rfl) rfl (by decide) (fun c87 => ?_) (fun c87 => ?_)
          · rw [show eL (-p.2.1) = eL (sizL y) from congrArg eL hN, show eL (-p.1) = eL (sizH y) from congrArg eL hM]
            refine gi_aload_n (q := 119) (i := 1) C (dm_Re_remain 56 rfl) rfl rfl rfl ?_
            refine gi_get (q := 122) C (dm_Re_remain 57 rfl) rfl fl_Re_21 (by repeat (first | exact gi_up_self _ _ _ | assumption | rw [gi_up_ne (by omega)])) rfl ?_
            refine gi_calls 1 (q := 125) C (dm_Re_remain 58 rfl) rfl my_Mt_abs lk_Re_126 sm_Mt_abs (c_Mt_abs x.1 (by omega) (by omega)) rfl rfl ⟨(Nat.le_of_ble_eq_true rfl), (Nat.le_of_ble_eq_true rfl)⟩ (Nat.le_of_ble_eq_true rfl) ⟨(Nat.le_of_ble_eq_true rfl), (Nat.le_of_ble_eq_true rfl)⟩ (fun r122 n122 h122 e122 => ?_)
            obtain ⟨rfl, rfl, rfl⟩ := e122
            refine gi_aload_n (q := 126) (i := 1) C (dm_Re_remain 59 rfl) rfl rfl rfl ?_
            refine gi_get (q := 129) C (dm_Re_remain 60 rfl) rfl fl_Re_25 (by repeat (first | exact gi_up_self _ _ _ | assumption | rw [gi_up_ne (by omega)])) rfl ?_
            refine gi_calls 1 (q := 132) C (dm_Re_remain 61 rfl) rfl my_Mt_abs lk_Re_126 sm_Mt_abs (c_Mt_abs x.2.1 (by omega) (by omega)) rfl rfl ⟨(Nat.le_of_ble_eq_true rfl), (Nat.le_of_ble_eq_true rfl)⟩ (Nat.le_of_ble_eq_true rfl) ⟨(Nat.le_of_ble_eq_true rfl), (Nat.le_of_ble_eq_true rfl)⟩ (fun r129 n129 h129 e129 => ?_)
            obtain ⟨rfl, rfl, rfl⟩ := e129
            refine gi_calls 2 (q := 135) C (dm_Re_remain 62 rfl) rfl my_Mt_max_0 lk_Re_80 sm_Mt_max_0 (c_Mt_max_0 (x.1.natAbs : Int) (x.2.1.natAbs : Int) (by omega) (by omega) (by omega) (by omega)) rfl rfl ⟨(Nat.le_of_ble_eq_true rfl), (Nat.le_of_ble_eq_true rfl)⟩ (Nat.le_of_ble_eq_true rfl) ⟨(Nat.le_of_ble_eq_true rfl), (Nat.le_of_ble_eq_true rfl)⟩ (fun r132 n132 h132 e132 => ?_)
            obtain ⟨rfl, rfl, rfl⟩ := e132
            refine gi_lload (q := 137) C (dm_Re_remain 63 rfl) rfl rfl ?_
            refine gi_lcmp (q := 138) C (dm_Re_remain 64 rfl) rfl ?_
            refine gi_if_ge (q := 141) (tgt := 147) C (dm_Re_remain 65 rfl) rfl (by decide) (fun c138 => ?_) (fun c138 => ?_)
            · refine gi_aload_n (q := 148) (i := 3) C (dm_Re_remain 70 rfl) rfl rfl rfl ?_
              refine gi_aload_n (q := 149) (i := 1) C (dm_Re_remain 71 rfl) rfl rfl rfl ?_
              refine gi_get (q := 152) C (dm_Re_remain 72 rfl) rfl fl_Re_21 (by repeat (first | exact gi_up_self _ _ _ | assumption | rw [gi_up_ne (by omega)])) rfl ?_
              refine gi_lconst (q := 153) (v := 0) C (dm_Re_remain 73 rfl) rfl (by decide) ?_
              refine gi_lcmp (q := 154) C (dm_Re_remain 74 rfl) rfl ?_
              refine gi_if_lt (q := 157) (tgt := 161) C (dm_Re_remain 75 rfl) rfl (by decide) (fun c154 => ?_) (fun c154 => ?_)
              · refine gi_aload_n (q := 162) (i := 1) C (dm_Re_remain 78 rfl) rfl rfl rfl ?_
                refine gi_get (q := 165) C (dm_Re_remain 79 rfl) rfl fl_Re_21 (by repeat (first | exact gi_up_self _ _ _ | assumption | rw [gi_up_ne (by omega)])) rfl ?_
                refine gi_lconst (q := 166) (v := 1) C (dm_Re_remain 80 rfl) rfl (by decide) ?_
                refine gi_lload (q := 168) C (dm_Re_remain 81 rfl) rfl rfl ?_
                refine gi_lsub (q := 169) C (dm_Re_remain 82 rfl) rfl ?_
                rw [eL_1, eL_sub]
                refine gi_calls 2 (q := 172) C (dm_Re_remain 83 rfl) rfl my_Mt_max_0 lk_Re_80 sm_Mt_max_0 (c_Mt_max_0 x.1 (1 - sizH y) (by omega) (by omega) (by omega) (by omega)) rfl rfl ⟨(Nat.le_of_ble_eq_true rfl), (Nat.le_of_ble_eq_true rfl)⟩ (Nat.le_of_ble_eq_true rfl) ⟨(Nat.le_of_ble_eq_true rfl), (Nat.le_of_ble_eq_true rfl)⟩ (fun r169 n169 h169 e169 => ?_)
                obtain ⟨rfl, rfl, rfl⟩ := e169
                refine gi_aload_n (q := 173) (i := 1) C (dm_Re_remain 84 rfl) rfl rfl rfl ?_
                refine gi_get (q := 176) C (dm_Re_remain 85 rfl) rfl fl_Re_25 (by repeat (first | exact gi_up_self _ _ _ | assumption | rw [gi_up_ne (by omega)])) rfl ?_
                refine gi_lconst (q := 177) (v := 0) C (dm_Re_remain 86 rfl) rfl (by decide) ?_
                refine gi_lcmp (q := 178) C (dm_Re_remain 87 rfl) rfl ?_
                refine gi_if_gt (q := 181) (tgt := 185) C (dm_Re_remain 88 rfl) rfl (by decide) (fun c178 => ?_) (fun c178 => ?_)
                · refine gi_aload_n (q := 186) (i := 1) C (dm_Re_remain 91 rfl) rfl rfl rfl ?_
                  refine gi_get (q := 189) C (dm_Re_remain 92 rfl) rfl fl_Re_25 (by repeat (first | exact gi_up_self _ _ _ | assumption | rw [gi_up_ne (by omega)])) rfl ?_
                  refine gi_lload (q := 191) C (dm_Re_remain 93 rfl) rfl rfl ?_
                  refine gi_lconst (q := 192) (v := 1) C (dm_Re_remain 94 rfl) rfl (by decide) ?_
                  refine gi_lsub (q := 193) C (dm_Re_remain 95 rfl) rfl ?_
                  rw [eL_1, eL_sub]
                  refine gi_calls 2 (q := 196) C (dm_Re_remain 96 rfl) rfl my_Mt_min_1 lk_Re_94 sm_Mt_min_1 (c_Mt_min_1 x.2.1 (sizH y - 1) (by omega) (by omega) (by omega) (by omega)) rfl rfl ⟨(Nat.le_of_ble_eq_true rfl), (Nat.le_of_ble_eq_true rfl)⟩ (Nat.le_of_ble_eq_true rfl) ⟨(Nat.le_of_ble_eq_true rfl), (Nat.le_of_ble_eq_true rfl)⟩ (fun r193 n193 h193 e193 => ?_)
                  obtain ⟨rfl, rfl, rfl⟩ := e193
                  refine gi_lconst (q := 197) (v := 1) C (dm_Re_remain 97 rfl) rfl (by decide) ?_
                  try rw [eL_0]
                  rw [eL_1]
                  refine gi_callv 3 (q := 200) C (dm_Re_remain 98 rfl) rfl my_Va_beSpan lk_Re_74 im_Va_beSpan rfl (c_Va_beSpan ao _ _ _ _ (by repeat (first | exact gi_up_self _ _ _ | assumption | rw [gi_up_ne (by omega)]))) (by repeat (first | exact gi_up_self _ _ _ | assumption | rw [gi_up_ne (by omega)])) rfl rfl ⟨(Nat.le_of_ble_eq_true rfl), (Nat.le_of_ble_eq_true rfl)⟩ (Nat.le_of_ble_eq_true rfl) ⟨(Nat.le_of_ble_eq_true rfl), (Nat.le_of_ble_eq_true rfl)⟩ (fun r197 n197 h197 e197 => ?_)
                  obtain ⟨rfl, rfl, rfl⟩ := e197
                  refine gi_vret C hr (dm_Re_remain 99 rfl) ?_
                  (try simp (disch := omega) only [lg_cmp_ge, lg_cmp_le, lg_cmp_gt, lg_cmp_lt, lg_cmp_eq, eL_0, eL_1, eL_m1, eL_LO, eL_HI, eL_W, eL_add, eL_sub, eL_mul, eL_neg, eL_lt, eL_le, eL_eq, eL_remN, eL_mod0, ne_eq, Int64.not_lt, Int64.not_le] at c57)
                  (try simp (disch := omega) only [lg_cmp_ge, lg_cmp_le, lg_cmp_gt, lg_cmp_lt, lg_cmp_eq, eL_0, eL_1, eL_m1, eL_LO, eL_HI, eL_W, eL_add, eL_sub, eL_mul, eL_neg, eL_lt, eL_le, eL_eq, eL_remN, eL_mod0, ne_eq, Int64.not_lt, Int64.not_le] at c87)
                  (try simp (disch := omega) only [lg_cmp_ge, lg_cmp_le, lg_cmp_gt, lg_cmp_lt, lg_cmp_eq, eL_0, eL_1, eL_m1, eL_LO, eL_HI, eL_W, eL_add, eL_sub, eL_mul, eL_neg, eL_lt, eL_le, eL_eq, eL_remN, eL_mod0, ne_eq, Int64.not_lt, Int64.not_le] at c138)
                  (try simp (disch := omega) only [lg_cmp_ge, lg_cmp_le, lg_cmp_gt, lg_cmp_lt, lg_cmp_eq, eL_0, eL_1, eL_m1, eL_LO, eL_HI, eL_W, eL_add, eL_sub, eL_mul, eL_neg, eL_lt, eL_le, eL_eq, eL_remN, eL_mod0, ne_eq, Int64.not_lt, Int64.not_le] at c154)
                  (try simp (disch := omega) only [lg_cmp_ge, lg_cmp_le, lg_cmp_gt, lg_cmp_lt, lg_cmp_eq, eL_0, eL_1, eL_m1, eL_LO, eL_HI, eL_W, eL_add, eL_sub, eL_mul, eL_neg, eL_lt, eL_le, eL_eq, eL_remN, eL_mod0, ne_eq, Int64.not_lt, Int64.not_le] at c178)
                  refine ⟨rfl, rfl, sV p, sV (1, 0, 0), ?_⟩
                  unfold restS
                  rw [if_neg n1, if_neg (by omega)]
                  first
                    | (rw [if_pos (by omega), if_pos (by omega), mSpan_mk (by omega) (by omega) (by omega) (by omega)]; done)
                    | (rw [if_pos (by omega), if_neg (by omega), mSpan_mk (by omega) (by omega) (by omega) (by omega)]; done)
                    | (rw [if_neg (by omega), if_pos (by omega), mSpan_mk (by omega) (by omega) (by omega) (by omega)]; done)
                    | (rw [if_neg (by omega), if_neg (by omega), mSpan_mk (by omega) (by omega) (by omega) (by omega)]; done)
                · refine gi_lconst (q := 182) (v := 0) C (dm_Re_remain 89 rfl) rfl (by decide) ?_
                  refine gi_goto (tgt := 196) C (dm_Re_remain 90 rfl) (by decide) ?_
                  refine gi_lconst (q := 197) (v := 1) C (dm_Re_remain 97 rfl) rfl (by decide) ?_
                  try rw [eL_0]
                  rw [eL_1]
                  refine gi_callv 3 (q := 200) C (dm_Re_remain 98 rfl) rfl my_Va_beSpan lk_Re_74 im_Va_beSpan rfl (c_Va_beSpan ao _ _ _ _ (by repeat (first | exact gi_up_self _ _ _ | assumption | rw [gi_up_ne (by omega)]))) (by repeat (first | exact gi_up_self _ _ _ | assumption | rw [gi_up_ne (by omega)])) rfl rfl ⟨(Nat.le_of_ble_eq_true rfl), (Nat.le_of_ble_eq_true rfl)⟩ (Nat.le_of_ble_eq_true rfl) ⟨(Nat.le_of_ble_eq_true rfl), (Nat.le_of_ble_eq_true rfl)⟩ (fun r197 n197 h197 e197 => ?_)
                  obtain ⟨rfl, rfl, rfl⟩ := e197
                  refine gi_vret C hr (dm_Re_remain 99 rfl) ?_
                  (try simp (disch := omega) only [lg_cmp_ge, lg_cmp_le, lg_cmp_gt, lg_cmp_lt, lg_cmp_eq, eL_0, eL_1, eL_m1, eL_LO, eL_HI, eL_W, eL_add, eL_sub, eL_mul, eL_neg, eL_lt, eL_le, eL_eq, eL_remN, eL_mod0, ne_eq, Int64.not_lt, Int64.not_le] at c57)
                  (try simp (disch := omega) only [lg_cmp_ge, lg_cmp_le, lg_cmp_gt, lg_cmp_lt, lg_cmp_eq, eL_0, eL_1, eL_m1, eL_LO, eL_HI, eL_W, eL_add, eL_sub, eL_mul, eL_neg, eL_lt, eL_le, eL_eq, eL_remN, eL_mod0, ne_eq, Int64.not_lt, Int64.not_le] at c87)
                  (try simp (disch := omega) only [lg_cmp_ge, lg_cmp_le, lg_cmp_gt, lg_cmp_lt, lg_cmp_eq, eL_0, eL_1, eL_m1, eL_LO, eL_HI, eL_W, eL_add, eL_sub, eL_mul, eL_neg, eL_lt, eL_le, eL_eq, eL_remN, eL_mod0, ne_eq, Int64.not_lt, Int64.not_le] at c138)
                  (try simp (disch := omega) only [lg_cmp_ge, lg_cmp_le, lg_cmp_gt, lg_cmp_lt, lg_cmp_eq, eL_0, eL_1, eL_m1, eL_LO, eL_HI, eL_W, eL_add, eL_sub, eL_mul, eL_neg, eL_lt, eL_le, eL_eq, eL_remN, eL_mod0, ne_eq, Int64.not_lt, Int64.not_le] at c154)
                  (try simp (disch := omega) only [lg_cmp_ge, lg_cmp_le, lg_cmp_gt, lg_cmp_lt, lg_cmp_eq, eL_0, eL_1, eL_m1, eL_LO, eL_HI, eL_W, eL_add, eL_sub, eL_mul, eL_neg, eL_lt, eL_le, eL_eq, eL_remN, eL_mod0, ne_eq, Int64.not_lt, Int64.not_le] at c178)
                  refine ⟨rfl, rfl, sV p, sV (1, 0, 0), ?_⟩
                  unfold restS
                  rw [if_neg n1, if_neg (by omega)]
                  first
                    | (rw [if_pos (by omega), if_pos (by omega), mSpan_mk (by omega) (by omega) (by omega) (by omega)]; done)
                    | (rw [if_pos (by omega), if_neg (by omega), mSpan_mk (by omega) (by omega) (by omega) (by omega)]; done)
                    | (rw [if_neg (by omega), if_pos (by omega), mSpan_mk (by omega) (by omega) (by omega) (by omega)]; done)
                    | (rw [if_neg (by omega), if_neg (by omega), mSpan_mk (by omega) (by omega) (by omega) (by omega)]; done)
              · refine gi_lconst (q := 158) (v := 0) C (dm_Re_remain 76 rfl) rfl (by decide) ?_
                refine gi_goto (tgt := 172) C (dm_Re_remain 77 rfl) (by decide) ?_
                refine gi_aload_n (q := 173) (i := 1) C (dm_Re_remain 84 rfl) rfl rfl rfl ?_
                refine gi_get (q := 176) C (dm_Re_remain 85 rfl) rfl fl_Re_25 (by repeat (first | exact gi_up_self _ _ _ | assumption | rw [gi_up_ne (by omega)])) rfl ?_
                refine gi_lconst (q := 177) (v := 0) C (dm_Re_remain 86 rfl) rfl (by decide) ?_
                refine gi_lcmp (q := 178) C (dm_Re_remain 87 rfl) rfl ?_
                refine gi_if_gt (q := 181) (tgt := 185) C (dm_Re_remain 88 rfl) rfl (by decide) (fun c178 => ?_) (fun c178 => ?_)
                · refine gi_aload_n (q := 186) (i := 1) C (dm_Re_remain 91 rfl) rfl rfl rfl ?_
                  refine gi_get (q := 189) C (dm_Re_remain 92 rfl) rfl fl_Re_25 (by repeat (first | exact gi_up_self _ _ _ | assumption | rw [gi_up_ne (by omega)])) rfl ?_
                  refine gi_lload (q := 191) C (dm_Re_remain 93 rfl) rfl rfl ?_
                  refine gi_lconst (q := 192) (v := 1) C (dm_Re_remain 94 rfl) rfl (by decide) ?_
                  refine gi_lsub (q := 193) C (dm_Re_remain 95 rfl) rfl ?_
                  rw [eL_1, eL_sub]
                  refine gi_calls 2 (q := 196) C (dm_Re_remain 96 rfl) rfl my_Mt_min_1 lk_Re_94 sm_Mt_min_1 (c_Mt_min_1 x.2.1 (sizH y - 1) (by omega) (by omega) (by omega) (by omega)) rfl rfl ⟨(Nat.le_of_ble_eq_true rfl), (Nat.le_of_ble_eq_true rfl)⟩ (Nat.le_of_ble_eq_true rfl) ⟨(Nat.le_of_ble_eq_true rfl), (Nat.le_of_ble_eq_true rfl)⟩ (fun r193 n193 h193 e193 => ?_)
                  obtain ⟨rfl, rfl, rfl⟩ := e193
                  refine gi_lconst (q := 197) (v := 1) C (dm_Re_remain 97 rfl) rfl (by decide) ?_
                  try rw [eL_0]
                  rw [eL_1]
                  refine gi_callv 3 (q := 200) C (dm_Re_remain 98 rfl) rfl my_Va_beSpan lk_Re_74 im_Va_beSpan rfl (c_Va_beSpan ao _ _ _ _ (by repeat (first | exact gi_up_self _ _ _ | assumption | rw [gi_up_ne (by omega)]))) (by repeat (first | exact gi_up_self _ _ _ | assumption | rw [gi_up_ne (by omega)])) rfl rfl ⟨(Nat.le_of_ble_eq_true rfl), (Nat.le_of_ble_eq_true rfl)⟩ (Nat.le_of_ble_eq_true rfl) ⟨(Nat.le_of_ble_eq_true rfl), (Nat.le_of_ble_eq_true rfl)⟩ (fun r197 n197 h197 e197 => ?_)
                  obtain ⟨rfl, rfl, rfl⟩ := e197
                  refine gi_vret C hr (dm_Re_remain 99 rfl) ?_
                  (try simp (disch := omega) only [lg_cmp_ge, lg_cmp_le, lg_cmp_gt, lg_cmp_lt, lg_cmp_eq, eL_0, eL_1, eL_m1, eL_LO, eL_HI, eL_W, eL_add, eL_sub, eL_mul, eL_neg, eL_lt, eL_le, eL_eq, eL_remN, eL_mod0, ne_eq, Int64.not_lt, Int64.not_le] at c57)
                  (try simp (disch := omega) only [lg_cmp_ge, lg_cmp_le, lg_cmp_gt, lg_cmp_lt, lg_cmp_eq, eL_0, eL_1, eL_m1, eL_LO, eL_HI, eL_W, eL_add, eL_sub, eL_mul, eL_neg, eL_lt, eL_le, eL_eq, eL_remN, eL_mod0, ne_eq, Int64.not_lt, Int64.not_le] at c87)
                  (try simp (disch := omega) only [lg_cmp_ge, lg_cmp_le, lg_cmp_gt, lg_cmp_lt, lg_cmp_eq, eL_0, eL_1, eL_m1, eL_LO, eL_HI, eL_W, eL_add, eL_sub, eL_mul, eL_neg, eL_lt, eL_le, eL_eq, eL_remN, eL_mod0, ne_eq, Int64.not_lt, Int64.not_le] at c138)
                  (try simp (disch := omega) only [lg_cmp_ge, lg_cmp_le, lg_cmp_gt, lg_cmp_lt, lg_cmp_eq, eL_0, eL_1, eL_m1, eL_LO, eL_HI, eL_W, eL_add, eL_sub, eL_mul, eL_neg, eL_lt, eL_le, eL_eq, eL_remN, eL_mod0, ne_eq, Int64.not_lt, Int64.not_le] at c154)
                  (try simp (disch := omega) only [lg_cmp_ge, lg_cmp_le, lg_cmp_gt, lg_cmp_lt, lg_cmp_eq, eL_0, eL_1, eL_m1, eL_LO, eL_HI, eL_W, eL_add, eL_sub, eL_mul, eL_neg, eL_lt, eL_le, eL_eq, eL_remN, eL_mod0, ne_eq, Int64.not_lt, Int64.not_le] at c178)
                  refine ⟨rfl, rfl, sV p, sV (1, 0, 0), ?_⟩
                  unfold restS
                  rw [if_neg n1, if_neg (by omega)]
                  first
                    | (rw [if_pos (by omega), if_pos (by omega), mSpan_mk (by omega) (by omega) (by omega) (by omega)]; done)
                    | (rw [if_pos (by omega), if_neg (by omega), mSpan_mk (by omega) (by omega) (by omega) (by omega)]; done)
                    | (rw [if_neg (by omega), if_pos (by omega), mSpan_mk (by omega) (by omega) (by omega) (by omega)]; done)
                    | (rw [if_neg (by omega), if_neg (by omega), mSpan_mk (by omega) (by omega) (by omega) (by omega)]; done)
                · refine gi_lconst (q := 182) (v := 0) C (dm_Re_remain 89 rfl) rfl (by decide) ?_
                  refine gi_goto (tgt := 196) C (dm_Re_remain 90 rfl) (by decide) ?_
                  refine gi_lconst (q := 197) (v := 1) C (dm_Re_remain 97 rfl) rfl (by decide) ?_
                  try rw [eL_0]
                  rw [eL_1]
                  refine gi_callv 3 (q := 200) C (dm_Re_remain 98 rfl) rfl my_Va_beSpan lk_Re_74 im_Va_beSpan rfl (c_Va_beSpan ao _ _ _ _ (by repeat (first | exact gi_up_self _ _ _ | assumption | rw [gi_up_ne (by omega)]))) (by repeat (first | exact gi_up_self _ _ _ | assumption | rw [gi_up_ne (by omega)])) rfl rfl ⟨(Nat.le_of_ble_eq_true rfl), (Nat.le_of_ble_eq_true rfl)⟩ (Nat.le_of_ble_eq_true rfl) ⟨(Nat.le_of_ble_eq_true rfl), (Nat.le_of_ble_eq_true rfl)⟩ (fun r197 n197 h197 e197 => ?_)
                  obtain ⟨rfl, rfl, rfl⟩ := e197
                  refine gi_vret C hr (dm_Re_remain 99 rfl) ?_
                  (try simp (disch := omega) only [lg_cmp_ge, lg_cmp_le, lg_cmp_gt, lg_cmp_lt, lg_cmp_eq, eL_0, eL_1, eL_m1, eL_LO, eL_HI, eL_W, eL_add, eL_sub, eL_mul, eL_neg, eL_lt, eL_le, eL_eq, eL_remN, eL_mod0, ne_eq, Int64.not_lt, Int64.not_le] at c57)
                  (try simp (disch := omega) only [lg_cmp_ge, lg_cmp_le, lg_cmp_gt, lg_cmp_lt, lg_cmp_eq, eL_0, eL_1, eL_m1, eL_LO, eL_HI, eL_W, eL_add, eL_sub, eL_mul, eL_neg, eL_lt, eL_le, eL_eq, eL_remN, eL_mod0, ne_eq, Int64.not_lt, Int64.not_le] at c87)
                  (try simp (disch := omega) only [lg_cmp_ge, lg_cmp_le, lg_cmp_gt, lg_cmp_lt, lg_cmp_eq, eL_0, eL_1, eL_m1, eL_LO, eL_HI, eL_W, eL_add, eL_sub, eL_mul, eL_neg, eL_lt, eL_le, eL_eq, eL_remN, eL_mod0, ne_eq, Int64.not_lt, Int64.not_le] at c138)
                  (try simp (disch := omega) only [lg_cmp_ge, lg_cmp_le, lg_cmp_gt, lg_cmp_lt, lg_cmp_eq, eL_0, eL_1, eL_m1, eL_LO, eL_HI, eL_W, eL_add, eL_sub, eL_mul, eL_neg, eL_lt, eL_le, eL_eq, eL_remN, eL_mod0, ne_eq, Int64.not_lt, Int64.not_le] at c154)
                  (try simp (disch := omega) only [lg_cmp_ge, lg_cmp_le, lg_cmp_gt, lg_cmp_lt, lg_cmp_eq, eL_0, eL_1, eL_m1, eL_LO, eL_HI, eL_W, eL_add, eL_sub, eL_mul, eL_neg, eL_lt, eL_le, eL_eq, eL_remN, eL_mod0, ne_eq, Int64.not_lt, Int64.not_le] at c178)
                  refine ⟨rfl, rfl, sV p, sV (1, 0, 0), ?_⟩
                  unfold restS
                  rw [if_neg n1, if_neg (by omega)]
                  first
                    | (rw [if_pos (by omega), if_pos (by omega), mSpan_mk (by omega) (by omega) (by omega) (by omega)]; done)
                    | (rw [if_pos (by omega), if_neg (by omega), mSpan_mk (by omega) (by omega) (by omega) (by omega)]; done)
                    | (rw [if_neg (by omega), if_pos (by omega), mSpan_mk (by omega) (by omega) (by omega) (by omega)]; done)
                    | (rw [if_neg (by omega), if_neg (by omega), mSpan_mk (by omega) (by omega) (by omega) (by omega)]; done)
            · refine gi_aload_n (q := 142) (i := 3) C (dm_Re_remain 66 rfl) rfl rfl rfl ?_
              refine gi_aload_n (q := 143) (i := 1) C (dm_Re_remain 67 rfl) rfl rfl rfl ?_
              refine gi_callv 1 (q := 146) C (dm_Re_remain 68 rfl) rfl my_Va_copy lk_Re_97 im_Va_copy rfl (c_Va_copy ao ax _ _ (by repeat (first | exact gi_up_self _ _ _ | assumption | rw [gi_up_ne (by omega)])) (by repeat (first | exact gi_up_self _ _ _ | assumption | rw [gi_up_ne (by omega)])) hxo (wf_s x)) (by repeat (first | exact gi_up_self _ _ _ | assumption | rw [gi_up_ne (by omega)])) rfl rfl ⟨(Nat.le_of_ble_eq_true rfl), (Nat.le_of_ble_eq_true rfl)⟩ (Nat.le_of_ble_eq_true rfl) ⟨(Nat.le_of_ble_eq_true rfl), (Nat.le_of_ble_eq_true rfl)⟩ (fun r143 n143 h143 e143 => ?_)
              obtain ⟨rfl, rfl, rfl⟩ := e143
              refine gi_vret C hr (dm_Re_remain 69 rfl) ?_
              (try simp (disch := omega) only [lg_cmp_ge, lg_cmp_le, lg_cmp_gt, lg_cmp_lt, lg_cmp_eq, eL_0, eL_1, eL_m1, eL_LO, eL_HI, eL_W, eL_add, eL_sub, eL_mul, eL_neg, eL_lt, eL_le, eL_eq, eL_remN, eL_mod0, ne_eq, Int64.not_lt, Int64.not_le] at c57)
              (try simp (disch := omega) only [lg_cmp_ge, lg_cmp_le, lg_cmp_gt, lg_cmp_lt, lg_cmp_eq, eL_0, eL_1, eL_m1, eL_LO, eL_HI, eL_W, eL_add, eL_sub, eL_mul, eL_neg, eL_lt, eL_le, eL_eq, eL_remN, eL_mod0, ne_eq, Int64.not_lt, Int64.not_le] at c87)
              (try simp (disch := omega) only [lg_cmp_ge, lg_cmp_le, lg_cmp_gt, lg_cmp_lt, lg_cmp_eq, eL_0, eL_1, eL_m1, eL_LO, eL_HI, eL_W, eL_add, eL_sub, eL_mul, eL_neg, eL_lt, eL_le, eL_eq, eL_remN, eL_mod0, ne_eq, Int64.not_lt, Int64.not_le] at c138)
              refine ⟨rfl, rfl, sV p, sV (1, 0, 0), ?_⟩
              unfold restS
              rw [if_neg n1, if_pos (by omega)]
          · exact absurd c87 (by decide)
      · have hN : min (-p.2.1) q.1 = sizL y := by unfold sizL; rw [eN, eP]
        have hM : max (-p.1) q.2.1 = sizH y := by unfold sizH; rw [eN, eP]
        obtain ⟨a1, a2, a3, -⟩ := (nb p eN).1
        have a0 := (nb p eN).2
        obtain ⟨b1, b2, b3, -⟩ := (pb q eP).1
        have b0 := (pb q eP).2
        rw [wS_s, wS_s]
        rw [eL_W, eL_0]
        refine gi_aload_n (q := 51) (i := 0) C (dm_Re_remain 26 rfl) rfl rfl rfl ?_
        refine gi_get (q := 54) C (dm_Re_remain 27 rfl) rfl fl_Re_12 (by repeat (first | exact gi_up_self _ _ _ | assumption | rw [gi_up_ne (by omega)])) rfl ?_
        refine gi_callv 0 (q := 57) C (dm_Re_remain 28 rfl) rfl my_Va_isNothing lk_Re_120 im_Va_isNothing rfl (c_Va_isNothing (r + 1) _ (by repeat (first | exact gi_up_self _ _ _ | assumption | rw [gi_up_ne (by omega)]))) (by repeat (first | exact gi_up_self _ _ _ | assumption | rw [gi_up_ne (by omega)])) rfl rfl ⟨(Nat.le_of_ble_eq_true rfl), (Nat.le_of_ble_eq_true rfl)⟩ (Nat.le_of_ble_eq_true rfl) ⟨(Nat.le_of_ble_eq_true rfl), (Nat.le_of_ble_eq_true rfl)⟩ (fun r54 n54 h54 e54 => ?_)
        obtain ⟨rfl, rfl, rfl⟩ := e54
        refine gi_if_ne (q := 60) (tgt := 80) C (dm_Re_remain 29 rfl) rfl (by decide) (fun c57 => ?_) (fun c57 => ?_)
        · exact absurd ((no_iff (s := eL 0) (by omega) (by omega) (by omega) (by omega)).mpr (show ¬ p.2.1 < p.1 by omega)) c57
        · refine gi_aload_n (q := 61) (i := 0) C (dm_Re_remain 30 rfl) rfl rfl rfl ?_
          refine gi_get (q := 64) C (dm_Re_remain 31 rfl) rfl fl_Re_12 (by repeat (first | exact gi_up_self _ _ _ | assumption | rw [gi_up_ne (by omega)])) rfl ?_
          refine gi_get (q := 67) C (dm_Re_remain 32 rfl) rfl fl_Re_25 (by repeat (first | exact gi_up_self _ _ _ | assumption | rw [gi_up_ne (by omega)])) rfl ?_
          refine gi_lneg (q := 68) C (dm_Re_remain 33 rfl) rfl ?_
          rw [eL_neg]
          refine gi_lstore (q := 70) C (dm_Re_remain 34 rfl) rfl (Nat.le_of_ble_eq_true rfl) ?_
          refine gi_aload_n (q := 71) (i := 0) C (dm_Re_remain 35 rfl) rfl rfl rfl ?_
          refine gi_get (q := 74) C (dm_Re_remain 36 rfl) rfl fl_Re_12 (by repeat (first | exact gi_up_self _ _ _ | assumption | rw [gi_up_ne (by omega)])) rfl ?_
          refine gi_get (q := 77) C (dm_Re_remain 37 rfl) rfl fl_Re_21 (by repeat (first | exact gi_up_self _ _ _ | assumption | rw [gi_up_ne (by omega)])) rfl ?_
          refine gi_lneg (q := 78) C (dm_Re_remain 38 rfl) rfl ?_
          rw [eL_neg]
          refine gi_lstore (q := 80) C (dm_Re_remain 39 rfl) rfl (Nat.le_of_ble_eq_true rfl) ?_
          refine gi_aload_n (q := 81) (i := 0) C (dm_Re_remain 40 rfl) rfl rfl rfl ?_
          refine gi_get (q := 84) C (dm_Re_remain 41 rfl) rfl fl_Re_18 (by repeat (first | exact gi_up_self _ _ _ | assumption | rw [gi_up_ne (by omega)])) rfl ?_
          refine gi_callv 0 (q := 87) C (dm_Re_remain 42 rfl) rfl my_Va_isNothing lk_Re_120 im_Va_isNothing rfl (c_Va_isNothing (r + 2) _ (by repeat (first | exact gi_up_self _ _ _ | assumption | rw [gi_up_ne (by omega)]))) (by repeat (first | exact gi_up_self _ _ _ | assumption | rw [gi_up_ne (by omega)])) rfl rfl ⟨(Nat.le_of_ble_eq_true rfl), (Nat.le_of_ble_eq_true rfl)⟩ (Nat.le_of_ble_eq_true rfl) ⟨(Nat.le_of_ble_eq_true rfl), (Nat.le_of_ble_eq_true rfl)⟩ (fun r84 n84 h84 e84 => ?_)
          obtain ⟨rfl, rfl, rfl⟩ := e84
          refine gi_if_ne (q := 90) (tgt := 118) C (dm_Re_remain 43 rfl) rfl (by decide) (fun c87 => ?_) (fun c87 => ?_)
          · exact absurd ((no_iff (s := eL 0) (by omega) (by omega) (by omega) (by omega)).mpr (show ¬ q.2.1 < q.1 by omega)) c87
          · refine gi_lload (q := 92) C (dm_Re_remain 44 rfl) rfl rfl ?_
            refine gi_aload_n (q := 93) (i := 0) C (dm_Re_remain 45 rfl) rfl rfl rfl ?_
            refine gi_get (q := 96) C (dm_Re_remain 46 rfl) rfl fl_Re_18 (by repeat (first | exact gi_up_self _ _ _ | assumption | rw [gi_up_ne (by omega)])) rfl ?_
            refine gi_get (q := 99) C (dm_Re_remain 47 rfl) rfl fl_Re_21 (by repeat (first | exact gi_up_self _ _ _ | assumption | rw [gi_up_ne (by omega)])) rfl ?_
            refine gi_calls 2 (q := 102) C (dm_Re_remain 48 rfl) rfl my_Mt_min_1 lk_Re_94 sm_Mt_min_1 (c_Mt_min_1 (-p.2.1) q.1 (by omega) (by omega) (by omega) (by omega)) rfl rfl ⟨(Nat.le_of_ble_eq_true rfl), (Nat.le_of_ble_eq_true rfl)⟩ (Nat.le_of_ble_eq_true rfl) ⟨(Nat.le_of_ble_eq_true rfl), (Nat.le_of_ble_eq_true rfl)⟩ (fun r99 n99 h99 e99 => ?_)
            obtain ⟨rfl, rfl, rfl⟩ := e99
            refine gi_lstore (q := 104) C (dm_Re_remain 49 rfl) rfl (Nat.le_of_ble_eq_true rfl) ?_
            refine gi_lload (q := 106) C (dm_Re_remain 50 rfl) rfl rfl ?_
            refine gi_aload_n (q := 107) (i := 0) C (dm_Re_remain 51 rfl) rfl rfl rfl ?_
            refine gi_get (q := 110) C (dm_Re_remain 52 rfl) rfl fl_Re_18 (by repeat (first | exact gi_up_self _ _ _ | assumption | rw [gi_up_ne (by omega)])) rfl ?_
            refine gi_get (q := 113) C (dm_Re_remain 53 rfl) rfl fl_Re_25 (by repeat (first | exact gi_up_self _ _ _ | assumption | rw [gi_up_ne (by omega)])) rfl ?_
            refine gi_calls 2 (q := 116) C (dm_Re_remain 54 rfl) rfl my_Mt_max_0 lk_Re_80 sm_Mt_max_0 (c_Mt_max_0 (-p.1) q.2.1 (by omega) (by omega) (by omega) (by omega)) rfl rfl ⟨(Nat.le_of_ble_eq_true rfl), (Nat.le_of_ble_eq_true rfl)⟩ (Nat.le_of_ble_eq_true rfl) ⟨(Nat.le_of_ble_eq_true rfl), (Nat.le_of_ble_eq_true rfl)⟩ (fun r113 n113 h113 e113 => ?_)
            obtain ⟨rfl, rfl, rfl⟩ := e113
            refine gi_lstore (q := 118) C (dm_Re_remain 55 rfl) rfl (Nat.le_of_ble_eq_true rfl) ?_
            rw [show eL (min (-p.2.1) q.1) = eL (sizL y) from congrArg eL hN, show eL (max (-p.1) q.2.1) = eL (sizH y) from congrArg eL hM]
            refine gi_aload_n (q := 119) (i := 1) C (dm_Re_remain 56 rfl) rfl rfl rfl ?_
            refine gi_get (q := 122) C (dm_Re_remain 57 rfl) rfl fl_Re_21 (by repeat (first | exact gi_up_self _ _ _ | assumption | rw [gi_up_ne (by omega)])) rfl ?_
            refine gi_calls 1 (q := 125) C (dm_Re_remain 58 rfl) rfl my_Mt_abs lk_Re_126 sm_Mt_abs (c_Mt_abs x.1 (by omega) (by omega)) rfl rfl ⟨(Nat.le_of_ble_eq_true rfl), (Nat.le_of_ble_eq_true rfl)⟩ (Nat.le_of_ble_eq_true rfl) ⟨(Nat.le_of_ble_eq_true rfl), (Nat.le_of_ble_eq_true rfl)⟩ (fun r122 n122 h122 e122 => ?_)
            obtain ⟨rfl, rfl, rfl⟩ := e122
            refine gi_aload_n (q := 126) (i := 1) C (dm_Re_remain 59 rfl) rfl rfl rfl ?_
            refine gi_get (q := 129) C (dm_Re_remain 60 rfl) rfl fl_Re_25 (by repeat (first | exact gi_up_self _ _ _ | assumption | rw [gi_up_ne (by omega)])) rfl ?_
            refine gi_calls 1 (q := 132) C (dm_Re_remain 61 rfl) rfl my_Mt_abs lk_Re_126 sm_Mt_abs (c_Mt_abs x.2.1 (by omega) (by omega)) rfl rfl ⟨(Nat.le_of_ble_eq_true rfl), (Nat.le_of_ble_eq_true rfl)⟩ (Nat.le_of_ble_eq_true rfl) ⟨(Nat.le_of_ble_eq_true rfl), (Nat.le_of_ble_eq_true rfl)⟩ (fun r129 n129 h129 e129 => ?_)
            obtain ⟨rfl, rfl, rfl⟩ := e129
            refine gi_calls 2 (q := 135) C (dm_Re_remain 62 rfl) rfl my_Mt_max_0 lk_Re_80 sm_Mt_max_0 (c_Mt_max_0 (x.1.natAbs : Int) (x.2.1.natAbs : Int) (by omega) (by omega) (by omega) (by omega)) rfl rfl ⟨(Nat.le_of_ble_eq_true rfl), (Nat.le_of_ble_eq_true rfl)⟩ (Nat.le_of_ble_eq_true rfl) ⟨(Nat.le_of_ble_eq_true rfl), (Nat.le_of_ble_eq_true rfl)⟩ (fun r132 n132 h132 e132 => ?_)
            obtain ⟨rfl, rfl, rfl⟩ := e132
            refine gi_lload (q := 137) C (dm_Re_remain 63 rfl) rfl rfl ?_
            refine gi_lcmp (q := 138) C (dm_Re_remain 64 rfl) rfl ?_
            refine gi_if_ge (q := 141) (tgt := 147) C (dm_Re_remain 65 rfl) rfl (by decide) (fun c138 => ?_) (fun c138 => ?_)
            · refine gi_aload_n (q := 148) (i := 3) C (dm_Re_remain 70 rfl) rfl rfl rfl ?_
              refine gi_aload_n (q := 149) (i := 1) C (dm_Re_remain 71 rfl) rfl rfl rfl ?_
              refine gi_get (q := 152) C (dm_Re_remain 72 rfl) rfl fl_Re_21 (by repeat (first | exact gi_up_self _ _ _ | assumption | rw [gi_up_ne (by omega)])) rfl ?_
              refine gi_lconst (q := 153) (v := 0) C (dm_Re_remain 73 rfl) rfl (by decide) ?_
              refine gi_lcmp (q := 154) C (dm_Re_remain 74 rfl) rfl ?_
              refine gi_if_lt (q := 157) (tgt := 161) C (dm_Re_remain 75 rfl) rfl (by decide) (fun c154 => ?_) (fun c154 => ?_)
              · refine gi_aload_n (q := 162) (i := 1) C (dm_Re_remain 78 rfl) rfl rfl rfl ?_
                refine gi_get (q := 165) C (dm_Re_remain 79 rfl) rfl fl_Re_21 (by repeat (first | exact gi_up_self _ _ _ | assumption | rw [gi_up_ne (by omega)])) rfl ?_
                refine gi_lconst (q := 166) (v := 1) C (dm_Re_remain 80 rfl) rfl (by decide) ?_
                refine gi_lload (q := 168) C (dm_Re_remain 81 rfl) rfl rfl ?_
                refine gi_lsub (q := 169) C (dm_Re_remain 82 rfl) rfl ?_
                rw [eL_1, eL_sub]
                refine gi_calls 2 (q := 172) C (dm_Re_remain 83 rfl) rfl my_Mt_max_0 lk_Re_80 sm_Mt_max_0 (c_Mt_max_0 x.1 (1 - sizH y) (by omega) (by omega) (by omega) (by omega)) rfl rfl ⟨(Nat.le_of_ble_eq_true rfl), (Nat.le_of_ble_eq_true rfl)⟩ (Nat.le_of_ble_eq_true rfl) ⟨(Nat.le_of_ble_eq_true rfl), (Nat.le_of_ble_eq_true rfl)⟩ (fun r169 n169 h169 e169 => ?_)
                obtain ⟨rfl, rfl, rfl⟩ := e169
                refine gi_aload_n (q := 173) (i := 1) C (dm_Re_remain 84 rfl) rfl rfl rfl ?_
                refine gi_get (q := 176) C (dm_Re_remain 85 rfl) rfl fl_Re_25 (by repeat (first | exact gi_up_self _ _ _ | assumption | rw [gi_up_ne (by omega)])) rfl ?_
                refine gi_lconst (q := 177) (v := 0) C (dm_Re_remain 86 rfl) rfl (by decide) ?_
                refine gi_lcmp (q := 178) C (dm_Re_remain 87 rfl) rfl ?_
                refine gi_if_gt (q := 181) (tgt := 185) C (dm_Re_remain 88 rfl) rfl (by decide) (fun c178 => ?_) (fun c178 => ?_)
                · refine gi_aload_n (q := 186) (i := 1) C (dm_Re_remain 91 rfl) rfl rfl rfl ?_
                  refine gi_get (q := 189) C (dm_Re_remain 92 rfl) rfl fl_Re_25 (by repeat (first | exact gi_up_self _ _ _ | assumption | rw [gi_up_ne (by omega)])) rfl ?_
                  refine gi_lload (q := 191) C (dm_Re_remain 93 rfl) rfl rfl ?_
                  refine gi_lconst (q := 192) (v := 1) C (dm_Re_remain 94 rfl) rfl (by decide) ?_
                  refine gi_lsub (q := 193) C (dm_Re_remain 95 rfl) rfl ?_
                  rw [eL_1, eL_sub]
                  refine gi_calls 2 (q := 196) C (dm_Re_remain 96 rfl) rfl my_Mt_min_1 lk_Re_94 sm_Mt_min_1 (c_Mt_min_1 x.2.1 (sizH y - 1) (by omega) (by omega) (by omega) (by omega)) rfl rfl ⟨(Nat.le_of_ble_eq_true rfl), (Nat.le_of_ble_eq_true rfl)⟩ (Nat.le_of_ble_eq_true rfl) ⟨(Nat.le_of_ble_eq_true rfl), (Nat.le_of_ble_eq_true rfl)⟩ (fun r193 n193 h193 e193 => ?_)
                  obtain ⟨rfl, rfl, rfl⟩ := e193
                  refine gi_lconst (q := 197) (v := 1) C (dm_Re_remain 97 rfl) rfl (by decide) ?_
                  try rw [eL_0]
                  rw [eL_1]
                  refine gi_callv 3 (q := 200) C (dm_Re_remain 98 rfl) rfl my_Va_beSpan lk_Re_74 im_Va_beSpan rfl (c_Va_beSpan ao _ _ _ _ (by repeat (first | exact gi_up_self _ _ _ | assumption | rw [gi_up_ne (by omega)]))) (by repeat (first | exact gi_up_self _ _ _ | assumption | rw [gi_up_ne (by omega)])) rfl rfl ⟨(Nat.le_of_ble_eq_true rfl), (Nat.le_of_ble_eq_true rfl)⟩ (Nat.le_of_ble_eq_true rfl) ⟨(Nat.le_of_ble_eq_true rfl), (Nat.le_of_ble_eq_true rfl)⟩ (fun r197 n197 h197 e197 => ?_)
                  obtain ⟨rfl, rfl, rfl⟩ := e197
                  refine gi_vret C hr (dm_Re_remain 99 rfl) ?_
                  (try simp (disch := omega) only [lg_cmp_ge, lg_cmp_le, lg_cmp_gt, lg_cmp_lt, lg_cmp_eq, eL_0, eL_1, eL_m1, eL_LO, eL_HI, eL_W, eL_add, eL_sub, eL_mul, eL_neg, eL_lt, eL_le, eL_eq, eL_remN, eL_mod0, ne_eq, Int64.not_lt, Int64.not_le] at c57)
                  (try simp (disch := omega) only [lg_cmp_ge, lg_cmp_le, lg_cmp_gt, lg_cmp_lt, lg_cmp_eq, eL_0, eL_1, eL_m1, eL_LO, eL_HI, eL_W, eL_add, eL_sub, eL_mul, eL_neg, eL_lt, eL_le, eL_eq, eL_remN, eL_mod0, ne_eq, Int64.not_lt, Int64.not_le] at c87)
                  (try simp (disch := omega) only [lg_cmp_ge, lg_cmp_le, lg_cmp_gt, lg_cmp_lt, lg_cmp_eq, eL_0, eL_1, eL_m1, eL_LO, eL_HI, eL_W, eL_add, eL_sub, eL_mul, eL_neg, eL_lt, eL_le, eL_eq, eL_remN, eL_mod0, ne_eq, Int64.not_lt, Int64.not_le] at c138)
                  (try simp (disch := omega) only [lg_cmp_ge, lg_cmp_le, lg_cmp_gt, lg_cmp_lt, lg_cmp_eq, eL_0, eL_1, eL_m1, eL_LO, eL_HI, eL_W, eL_add, eL_sub, eL_mul, eL_neg, eL_lt, eL_le, eL_eq, eL_remN, eL_mod0, ne_eq, Int64.not_lt, Int64.not_le] at c154)
                  (try simp (disch := omega) only [lg_cmp_ge, lg_cmp_le, lg_cmp_gt, lg_cmp_lt, lg_cmp_eq, eL_0, eL_1, eL_m1, eL_LO, eL_HI, eL_W, eL_add, eL_sub, eL_mul, eL_neg, eL_lt, eL_le, eL_eq, eL_remN, eL_mod0, ne_eq, Int64.not_lt, Int64.not_le] at c178)
                  refine ⟨rfl, rfl, sV p, sV q, ?_⟩
                  unfold restS
                  rw [if_neg n1, if_neg (by omega)]
                  first
                    | (rw [if_pos (by omega), if_pos (by omega), mSpan_mk (by omega) (by omega) (by omega) (by omega)]; done)
                    | (rw [if_pos (by omega), if_neg (by omega), mSpan_mk (by omega) (by omega) (by omega) (by omega)]; done)
                    | (rw [if_neg (by omega), if_pos (by omega), mSpan_mk (by omega) (by omega) (by omega) (by omega)]; done)
                    | (rw [if_neg (by omega), if_neg (by omega), mSpan_mk (by omega) (by omega) (by omega) (by omega)]; done)
                · refine gi_lconst (q := 182) (v := 0) C (dm_Re_remain 89 rfl) rfl (by decide) ?_
                  refine gi_goto (tgt := 196) C (dm_Re_remain 90 rfl) (by decide) ?_
                  refine gi_lconst (q := 197) (v := 1) C (dm_Re_remain 97 rfl) rfl (by decide) ?_
                  try rw [eL_0]
                  rw [eL_1]
                  refine gi_callv 3 (q := 200) C (dm_Re_remain 98 rfl) rfl my_Va_beSpan lk_Re_74 im_Va_beSpan rfl (c_Va_beSpan ao _ _ _ _ (by repeat (first | exact gi_up_self _ _ _ | assumption | rw [gi_up_ne (by omega)]))) (by repeat (first | exact gi_up_self _ _ _ | assumption | rw [gi_up_ne (by omega)])) rfl rfl ⟨(Nat.le_of_ble_eq_true rfl), (Nat.le_of_ble_eq_true rfl)⟩ (Nat.le_of_ble_eq_true rfl) ⟨(Nat.le_of_ble_eq_true rfl), (Nat.le_of_ble_eq_true rfl)⟩ (fun r197 n197 h197 e197 => ?_)
                  obtain ⟨rfl, rfl, rfl⟩ := e197
                  refine gi_vret C hr (dm_Re_remain 99 rfl) ?_
                  (try simp (disch := omega) only [lg_cmp_ge, lg_cmp_le, lg_cmp_gt, lg_cmp_lt, lg_cmp_eq, eL_0, eL_1, eL_m1, eL_LO, eL_HI, eL_W, eL_add, eL_sub, eL_mul, eL_neg, eL_lt, eL_le, eL_eq, eL_remN, eL_mod0, ne_eq, Int64.not_lt, Int64.not_le] at c57)
                  (try simp (disch := omega) only [lg_cmp_ge, lg_cmp_le, lg_cmp_gt, lg_cmp_lt, lg_cmp_eq, eL_0, eL_1, eL_m1, eL_LO, eL_HI, eL_W, eL_add, eL_sub, eL_mul, eL_neg, eL_lt, eL_le, eL_eq, eL_remN, eL_mod0, ne_eq, Int64.not_lt, Int64.not_le] at c87)
                  (try simp (disch := omega) only [lg_cmp_ge, lg_cmp_le, lg_cmp_gt, lg_cmp_lt, lg_cmp_eq, eL_0, eL_1, eL_m1, eL_LO, eL_HI, eL_W, eL_add, eL_sub, eL_mul, eL_neg, eL_lt, eL_le, eL_eq, eL_remN, eL_mod0, ne_eq, Int64.not_lt, Int64.not_le] at c138)
                  (try simp (disch := omega) only [lg_cmp_ge, lg_cmp_le, lg_cmp_gt, lg_cmp_lt, lg_cmp_eq, eL_0, eL_1, eL_m1, eL_LO, eL_HI, eL_W, eL_add, eL_sub, eL_mul, eL_neg, eL_lt, eL_le, eL_eq, eL_remN, eL_mod0, ne_eq, Int64.not_lt, Int64.not_le] at c154)
                  (try simp (disch := omega) only [lg_cmp_ge, lg_cmp_le, lg_cmp_gt, lg_cmp_lt, lg_cmp_eq, eL_0, eL_1, eL_m1, eL_LO, eL_HI, eL_W, eL_add, eL_sub, eL_mul, eL_neg, eL_lt, eL_le, eL_eq, eL_remN, eL_mod0, ne_eq, Int64.not_lt, Int64.not_le] at c178)
                  refine ⟨rfl, rfl, sV p, sV q, ?_⟩
                  unfold restS
                  rw [if_neg n1, if_neg (by omega)]
                  first
                    | (rw [if_pos (by omega), if_pos (by omega), mSpan_mk (by omega) (by omega) (by omega) (by omega)]; done)
                    | (rw [if_pos (by omega), if_neg (by omega), mSpan_mk (by omega) (by omega) (by omega) (by omega)]; done)
                    | (rw [if_neg (by omega), if_pos (by omega), mSpan_mk (by omega) (by omega) (by omega) (by omega)]; done)
                    | (rw [if_neg (by omega), if_neg (by omega), mSpan_mk (by omega) (by omega) (by omega) (by omega)]; done)
              · refine gi_lconst (q := 158) (v := 0) C (dm_Re_remain 76 rfl) rfl (by decide) ?_
                refine gi_goto (tgt := 172) C (dm_Re_remain 77 rfl) (by decide) ?_
                refine gi_aload_n (q := 173) (i := 1) C (dm_Re_remain 84 rfl) rfl rfl rfl ?_
                refine gi_get (q := 176) C (dm_Re_remain 85 rfl) rfl fl_Re_25 (by repeat (first | exact gi_up_self _ _ _ | assumption | rw [gi_up_ne (by omega)])) rfl ?_
                refine gi_lconst (q := 177) (v := 0) C (dm_Re_remain 86 rfl) rfl (by decide) ?_
                refine gi_lcmp (q := 178) C (dm_Re_remain 87 rfl) rfl ?_
                refine gi_if_gt (q := 181) (tgt := 185) C (dm_Re_remain 88 rfl) rfl (by decide) (fun c178 => ?_) (fun c178 => ?_)
                · refine gi_aload_n (q := 186) (i := 1) C (dm_Re_remain 91 rfl) rfl rfl rfl ?_
                  refine gi_get (q := 189) C (dm_Re_remain 92 rfl) rfl fl_Re_25 (by repeat (first | exact gi_up_self _ _ _ | assumption | rw [gi_up_ne (by omega)])) rfl ?_
                  refine gi_lload (q := 191) C (dm_Re_remain 93 rfl) rfl rfl ?_
                  refine gi_lconst (q := 192) (v := 1) C (dm_Re_remain 94 rfl) rfl (by decide) ?_
                  refine gi_lsub (q := 193) C (dm_Re_remain 95 rfl) rfl ?_
                  rw [eL_1, eL_sub]
                  refine gi_calls 2 (q := 196) C (dm_Re_remain 96 rfl) rfl my_Mt_min_1 lk_Re_94 sm_Mt_min_1 (c_Mt_min_1 x.2.1 (sizH y - 1) (by omega) (by omega) (by omega) (by omega)) rfl rfl ⟨(Nat.le_of_ble_eq_true rfl), (Nat.le_of_ble_eq_true rfl)⟩ (Nat.le_of_ble_eq_true rfl) ⟨(Nat.le_of_ble_eq_true rfl), (Nat.le_of_ble_eq_true rfl)⟩ (fun r193 n193 h193 e193 => ?_)
                  obtain ⟨rfl, rfl, rfl⟩ := e193
                  refine gi_lconst (q := 197) (v := 1) C (dm_Re_remain 97 rfl) rfl (by decide) ?_
                  try rw [eL_0]
                  rw [eL_1]
                  refine gi_callv 3 (q := 200) C (dm_Re_remain 98 rfl) rfl my_Va_beSpan lk_Re_74 im_Va_beSpan rfl (c_Va_beSpan ao _ _ _ _ (by repeat (first | exact gi_up_self _ _ _ | assumption | rw [gi_up_ne (by omega)]))) (by repeat (first | exact gi_up_self _ _ _ | assumption | rw [gi_up_ne (by omega)])) rfl rfl ⟨(Nat.le_of_ble_eq_true rfl), (Nat.le_of_ble_eq_true rfl)⟩ (Nat.le_of_ble_eq_true rfl) ⟨(Nat.le_of_ble_eq_true rfl), (Nat.le_of_ble_eq_true rfl)⟩ (fun r197 n197 h197 e197 => ?_)
                  obtain ⟨rfl, rfl, rfl⟩ := e197
                  refine gi_vret C hr (dm_Re_remain 99 rfl) ?_
                  (try simp (disch := omega) only [lg_cmp_ge, lg_cmp_le, lg_cmp_gt, lg_cmp_lt, lg_cmp_eq, eL_0, eL_1, eL_m1, eL_LO, eL_HI, eL_W, eL_add, eL_sub, eL_mul, eL_neg, eL_lt, eL_le, eL_eq, eL_remN, eL_mod0, ne_eq, Int64.not_lt, Int64.not_le] at c57)
                  (try simp (disch := omega) only [lg_cmp_ge, lg_cmp_le, lg_cmp_gt, lg_cmp_lt, lg_cmp_eq, eL_0, eL_1, eL_m1, eL_LO, eL_HI, eL_W, eL_add, eL_sub, eL_mul, eL_neg, eL_lt, eL_le, eL_eq, eL_remN, eL_mod0, ne_eq, Int64.not_lt, Int64.not_le] at c87)
                  (try simp (disch := omega) only [lg_cmp_ge, lg_cmp_le, lg_cmp_gt, lg_cmp_lt, lg_cmp_eq, eL_0, eL_1, eL_m1, eL_LO, eL_HI, eL_W, eL_add, eL_sub, eL_mul, eL_neg, eL_lt, eL_le, eL_eq, eL_remN, eL_mod0, ne_eq, Int64.not_lt, Int64.not_le] at c138)
                  (try simp (disch := omega) only [lg_cmp_ge, lg_cmp_le, lg_cmp_gt, lg_cmp_lt, lg_cmp_eq, eL_0, eL_1, eL_m1, eL_LO, eL_HI, eL_W, eL_add, eL_sub, eL_mul, eL_neg, eL_lt, eL_le, eL_eq, eL_remN, eL_mod0, ne_eq, Int64.not_lt, Int64.not_le] at c154)
                  (try simp (disch := omega) only [lg_cmp_ge, lg_cmp_le, lg_cmp_gt, lg_cmp_lt, lg_cmp_eq, eL_0, eL_1, eL_m1, eL_LO, eL_HI, eL_W, eL_add, eL_sub, eL_mul, eL_neg, eL_lt, eL_le, eL_eq, eL_remN, eL_mod0, ne_eq, Int64.not_lt, Int64.not_le] at c178)
                  refine ⟨rfl, rfl, sV p, sV q, ?_⟩
                  unfold restS
                  rw [if_neg n1, if_neg (by omega)]
                  first
                    | (rw [if_pos (by omega), if_pos (by omega), mSpan_mk (by omega) (by omega) (by omega) (by omega)]; done)
                    | (rw [if_pos (by omega), if_neg (by omega), mSpan_mk (by omega) (by omega) (by omega) (by omega)]; done)
                    | (rw [if_neg (by omega), if_pos (by omega), mSpan_mk (by omega) (by omega) (by omega) (by omega)]; done)
                    | (rw [if_neg (by omega), if_neg (by omega), mSpan_mk (by omega) (by omega) (by omega) (by omega)]; done)
                · refine gi_lconst (q := 182) (v := 0) C (dm_Re_remain 89 rfl) rfl (by decide) ?_
                  refine gi_goto (tgt := 196) C (dm_Re_remain 90 rfl) (by decide) ?_
                  refine gi_lconst (q := 197) (v := 1) C (dm_Re_remain 97 rfl) rfl (by decide) ?_
                  try rw [eL_0]
                  rw [eL_1]
                  refine gi_callv 3 (q := 200) C (dm_Re_remain 98 rfl) rfl my_Va_beSpan lk_Re_74 im_Va_beSpan rfl (c_Va_beSpan ao _ _ _ _ (by repeat (first | exact gi_up_self _ _ _ | assumption | rw [gi_up_ne (by omega)]))) (by repeat (first | exact gi_up_self _ _ _ | assumption | rw [gi_up_ne (by omega)])) rfl rfl ⟨(Nat.le_of_ble_eq_true rfl), (Nat.le_of_ble_eq_true rfl)⟩ (Nat.le_of_ble_eq_true rfl) ⟨(Nat.le_of_ble_eq_true rfl), (Nat.le_of_ble_eq_true rfl)⟩ (fun r197 n197 h197 e197 => ?_)
                  obtain ⟨rfl, rfl, rfl⟩ := e197
                  refine gi_vret C hr (dm_Re_remain 99 rfl) ?_
                  (try simp (disch := omega) only [lg_cmp_ge, lg_cmp_le, lg_cmp_gt, lg_cmp_lt, lg_cmp_eq, eL_0, eL_1, eL_m1, eL_LO, eL_HI, eL_W, eL_add, eL_sub, eL_mul, eL_neg, eL_lt, eL_le, eL_eq, eL_remN, eL_mod0, ne_eq, Int64.not_lt, Int64.not_le] at c57)
                  (try simp (disch := omega) only [lg_cmp_ge, lg_cmp_le, lg_cmp_gt, lg_cmp_lt, lg_cmp_eq, eL_0, eL_1, eL_m1, eL_LO, eL_HI, eL_W, eL_add, eL_sub, eL_mul, eL_neg, eL_lt, eL_le, eL_eq, eL_remN, eL_mod0, ne_eq, Int64.not_lt, Int64.not_le] at c87)
                  (try simp (disch := omega) only [lg_cmp_ge, lg_cmp_le, lg_cmp_gt, lg_cmp_lt, lg_cmp_eq, eL_0, eL_1, eL_m1, eL_LO, eL_HI, eL_W, eL_add, eL_sub, eL_mul, eL_neg, eL_lt, eL_le, eL_eq, eL_remN, eL_mod0, ne_eq, Int64.not_lt, Int64.not_le] at c138)
                  (try simp (disch := omega) only [lg_cmp_ge, lg_cmp_le, lg_cmp_gt, lg_cmp_lt, lg_cmp_eq, eL_0, eL_1, eL_m1, eL_LO, eL_HI, eL_W, eL_add, eL_sub, eL_mul, eL_neg, eL_lt, eL_le, eL_eq, eL_remN, eL_mod0, ne_eq, Int64.not_lt, Int64.not_le] at c154)
                  (try simp (disch := omega) only [lg_cmp_ge, lg_cmp_le, lg_cmp_gt, lg_cmp_lt, lg_cmp_eq, eL_0, eL_1, eL_m1, eL_LO, eL_HI, eL_W, eL_add, eL_sub, eL_mul, eL_neg, eL_lt, eL_le, eL_eq, eL_remN, eL_mod0, ne_eq, Int64.not_lt, Int64.not_le] at c178)
                  refine ⟨rfl, rfl, sV p, sV q, ?_⟩
                  unfold restS
                  rw [if_neg n1, if_neg (by omega)]
                  first
                    | (rw [if_pos (by omega), if_pos (by omega), mSpan_mk (by omega) (by omega) (by omega) (by omega)]; done)
                    | (rw [if_pos (by omega), if_neg (by omega), mSpan_mk (by omega) (by omega) (by omega) (by omega)]; done)
                    | (rw [if_neg (by omega), if_pos (by omega), mSpan_mk (by omega) (by omega) (by omega) (by omega)]; done)
                    | (rw [if_neg (by omega), if_neg (by omega), mSpan_mk (by omega) (by omega) (by omega) (by omega)]; done)
            · refine gi_aload_n (q := 142) (i := 3) C (dm_Re_remain 66 rfl) rfl rfl rfl ?_
              refine gi_aload_n (q := 143) (i := 1) C (dm_Re_remain 67 rfl) rfl rfl rfl ?_
              refine gi_callv 1 (q := 146) C (dm_Re_remain 68 rfl) rfl my_Va_copy lk_Re_97 im_Va_copy rfl (c_Va_copy ao ax _ _ (by repeat (first | exact gi_up_self _ _ _ | assumption | rw [gi_up_ne (by omega)])) (by repeat (first | exact gi_up_self _ _ _ | assumption | rw [gi_up_ne (by omega)])) hxo (wf_s x)) (by repeat (first | exact gi_up_self _ _ _ | assumption | rw [gi_up_ne (by omega)])) rfl rfl ⟨(Nat.le_of_ble_eq_true rfl), (Nat.le_of_ble_eq_true rfl)⟩ (Nat.le_of_ble_eq_true rfl) ⟨(Nat.le_of_ble_eq_true rfl), (Nat.le_of_ble_eq_true rfl)⟩ (fun r143 n143 h143 e143 => ?_)
              obtain ⟨rfl, rfl, rfl⟩ := e143
              refine gi_vret C hr (dm_Re_remain 69 rfl) ?_
              (try simp (disch := omega) only [lg_cmp_ge, lg_cmp_le, lg_cmp_gt, lg_cmp_lt, lg_cmp_eq, eL_0, eL_1, eL_m1, eL_LO, eL_HI, eL_W, eL_add, eL_sub, eL_mul, eL_neg, eL_lt, eL_le, eL_eq, eL_remN, eL_mod0, ne_eq, Int64.not_lt, Int64.not_le] at c57)
              (try simp (disch := omega) only [lg_cmp_ge, lg_cmp_le, lg_cmp_gt, lg_cmp_lt, lg_cmp_eq, eL_0, eL_1, eL_m1, eL_LO, eL_HI, eL_W, eL_add, eL_sub, eL_mul, eL_neg, eL_lt, eL_le, eL_eq, eL_remN, eL_mod0, ne_eq, Int64.not_lt, Int64.not_le] at c87)
              (try simp (disch := omega) only [lg_cmp_ge, lg_cmp_le, lg_cmp_gt, lg_cmp_lt, lg_cmp_eq, eL_0, eL_1, eL_m1, eL_LO, eL_HI, eL_W, eL_add, eL_sub, eL_mul, eL_neg, eL_lt, eL_le, eL_eq, eL_remN, eL_mod0, ne_eq, Int64.not_lt, Int64.not_le] at c138)
              refine ⟨rfl, rfl, sV p, sV q, ?_⟩
              unfold restS
              rw [if_neg n1, if_pos (by omega)]
  · refine gi_aload_n (q := 8) (i := 2) C (dm_Re_remain 3 rfl) rfl rfl rfl ?_
    refine gi_callv 0 (q := 11) C (dm_Re_remain 4 rfl) rfl my_Va_isSingle lk_Re_39 im_Va_isSingle rfl (c_Va_isSingle ay _ hb) hb rfl rfl ⟨(Nat.le_of_ble_eq_true rfl), (Nat.le_of_ble_eq_true rfl)⟩ (Nat.le_of_ble_eq_true rfl) ⟨(Nat.le_of_ble_eq_true rfl), (Nat.le_of_ble_eq_true rfl)⟩ (fun r8 n8 h8 e8 => ?_)
    obtain ⟨rfl, rfl, rfl⟩ := e8
    refine gi_if_eq (q := 14) (tgt := 37) C (dm_Re_remain 5 rfl) rfl (by decide) (fun c11 => ?_) (fun c11 => ?_)
    · have n1 : ¬ (x.1 = x.2.1 ∧ y.1 = y.2.1) := by
        first
          | exact fun q => sgF (by omega) (by omega) (by omega) (by omega) c4 q.1
          | exact fun q => sgF (by omega) (by omega) (by omega) (by omega) c11 q.2
          | (intro q
             (try simp (disch := omega) only [lg_cmp_ge, lg_cmp_le, lg_cmp_gt, lg_cmp_lt, lg_cmp_eq, eL_0, eL_1, eL_m1, eL_LO, eL_HI, eL_W, eL_add, eL_sub, eL_mul, eL_neg, eL_lt, eL_le, eL_eq, eL_remN, eL_mod0, ne_eq, Int64.not_lt, Int64.not_le] at c4)
             (try simp (disch := omega) only [lg_cmp_ge, lg_cmp_le, lg_cmp_gt, lg_cmp_lt, lg_cmp_eq, eL_0, eL_1, eL_m1, eL_LO, eL_HI, eL_W, eL_add, eL_sub, eL_mul, eL_neg, eL_lt, eL_le, eL_eq, eL_remN, eL_mod0, ne_eq, Int64.not_lt, Int64.not_le] at c11)
             omega)
      refine gi_aload_n (q := 38) (i := 0) C (dm_Re_remain 19 rfl) rfl rfl rfl ?_
      refine gi_aload_n (q := 39) (i := 2) C (dm_Re_remain 20 rfl) rfl rfl rfl ?_
      refine gi_callv 1 (q := 42) C (dm_Re_remain 21 rfl) rfl my_Re_splitDivisor lk_Re_111 im_Re_splitDivisor rfl (c_Re_splitDivisor r ay y u u' hy H q1 q2 q3 hb) H0 rfl rfl ⟨(Nat.le_of_ble_eq_true rfl), (Nat.le_of_ble_eq_true rfl)⟩ (Nat.le_of_ble_eq_true rfl) ⟨(Nat.le_of_ble_eq_true rfl), (Nat.le_of_ble_eq_true rfl)⟩ (fun r39 n39 h39 e39 => ?_)
      obtain ⟨rfl, rfl, rfl⟩ := e39
      refine gi_ldc2 (q := 45) C (dm_Re_remain 22 rfl) rfl kc_Re_78 ?_
      refine gi_lstore (q := 47) C (dm_Re_remain 23 rfl) rfl (Nat.le_of_ble_eq_true rfl) ?_
      refine gi_lconst (q := 48) (v := 0) C (dm_Re_remain 24 rfl) rfl (by decide) ?_
      refine gi_lstore (q := 50) C (dm_Re_remain 25 rfl) rfl (Nat.le_of_ble_eq_true rfl) ?_
      have sb := siz_b hy
      have nb : ∀ p, negS y = some p → okS p ∧ p.2.1 < 0 := fun p e => ⟨(neg_has hy e).1, by have := (neg_has hy e).2.1; omega⟩
      have pb : ∀ p, posS y = some p → okS p ∧ 0 < p.1 := fun p e => ⟨(pos_has hy e).1, by have := (pos_has hy e).2; omega⟩
      rcases eN : negS y with _ | p
      · rcases eP : posS y with _ | q
        · exact absurd (np_some hy h0) (by simp [eN, eP])
        · have hN : min 4294967296 q.1 = sizL y := by have := (pb q eP).1.2.1; have := (pb q eP).1.2.2.1; unfold sizL; rw [eN, eP]; simp only; omega
          have hM : max 0 q.2.1 = sizH y := by have := (pb q eP).1.2.1; have := (pb q eP).2; unfold sizH; rw [eN, eP]; simp only; omega
          obtain ⟨b1, b2, b3, -⟩ := (pb q eP).1
          have b0 := (pb q eP).2
          rw [wS_n, wS_s]
          rw [eL_W, eL_0]
          refine gi_aload_n (q := 51) (i := 0) C (dm_Re_remain 26 rfl) rfl rfl rfl ?_
          refine gi_get (q := 54) C (dm_Re_remain 27 rfl) rfl fl_Re_12 (by repeat (first | exact gi_up_self _ _ _ | assumption | rw [gi_up_ne (by omega)])) rfl ?_
          refine gi_callv 0 (q := 57) C (dm_Re_remain 28 rfl) rfl my_Va_isNothing lk_Re_120 im_Va_isNothing rfl (c_Va_isNothing (r + 1) _ (by repeat (first | exact gi_up_self _ _ _ | assumption | rw [gi_up_ne (by omega)]))) (by repeat (first | exact gi_up_self _ _ _ | assumption | rw [gi_up_ne (by omega)])) rfl rfl ⟨(Nat.le_of_ble_eq_true rfl), (Nat.le_of_ble_eq_true rfl)⟩ (Nat.le_of_ble_eq_true rfl) ⟨(Nat.le_of_ble_eq_true rfl), (Nat.le_of_ble_eq_true rfl)⟩ (fun r54 n54 h54 e54 => ?_)
          obtain ⟨rfl, rfl, rfl⟩ := e54
          refine gi_if_ne (q := 60) (tgt := 80) C (dm_Re_remain 29 rfl) rfl (by decide) (fun c57 => ?_) (fun c57 => ?_)
          · refine gi_aload_n (q := 81) (i := 0) C (dm_Re_remain 40 rfl) rfl rfl rfl ?_
            refine gi_get (q := 84) C (dm_Re_remain 41 rfl) rfl fl_Re_18 (by repeat (first | exact gi_up_self _ _ _ | assumption | rw [gi_up_ne (by omega)])) rfl ?_
            refine gi_callv 0 (q := 87) C (dm_Re_remain 42 rfl) rfl my_Va_isNothing lk_Re_120 im_Va_isNothing rfl (c_Va_isNothing (r + 2) _ (by repeat (first | exact gi_up_self _ _ _ | assumption | rw [gi_up_ne (by omega)]))) (by repeat (first | exact gi_up_self _ _ _ | assumption | rw [gi_up_ne (by omega)])) rfl rfl ⟨(Nat.le_of_ble_eq_true rfl), (Nat.le_of_ble_eq_true rfl)⟩ (Nat.le_of_ble_eq_true rfl) ⟨(Nat.le_of_ble_eq_true rfl), (Nat.le_of_ble_eq_true rfl)⟩ (fun r84 n84 h84 e84 => ?_)
            obtain ⟨rfl, rfl, rfl⟩ := e84
            refine gi_if_ne (q := 90) (tgt := 118) C (dm_Re_remain 43 rfl) rfl (by decide) (fun c87 => ?_) (fun c87 => ?_)
            · exact absurd ((no_iff (s := eL 0) (by omega) (by omega) (by omega) (by omega)).mpr (show ¬ q.2.1 < q.1 by omega)) c87
            · refine gi_lload (q := 92) C (dm_Re_remain 44 rfl) rfl rfl ?_
              refine gi_aload_n (q := 93) (i := 0) C (dm_Re_remain 45 rfl) rfl rfl rfl ?_
              refine gi_get (q := 96) C (dm_Re_remain 46 rfl) rfl fl_Re_18 (by repeat (first | exact gi_up_self _ _ _ | assumption | rw [gi_up_ne (by omega)])) rfl ?_
              refine gi_get (q := 99) C (dm_Re_remain 47 rfl) rfl fl_Re_21 (by repeat (first | exact gi_up_self _ _ _ | assumption | rw [gi_up_ne (by omega)])) rfl ?_
              refine gi_calls 2 (q := 102) C (dm_Re_remain 48 rfl) rfl my_Mt_min_1 lk_Re_94 sm_Mt_min_1 (c_Mt_min_1 4294967296 q.1 (by omega) (by omega) (by omega) (by omega)) rfl rfl ⟨(Nat.le_of_ble_eq_true rfl), (Nat.le_of_ble_eq_true rfl)⟩ (Nat.le_of_ble_eq_true rfl) ⟨(Nat.le_of_ble_eq_true rfl), (Nat.le_of_ble_eq_true rfl)⟩ (fun r99 n99 h99 e99 => ?_)
              obtain ⟨rfl, rfl, rfl⟩ := e99
              refine gi_lstore (q := 104) C (dm_Re_remain 49 rfl) rfl (Nat.le_of_ble_eq_true rfl) ?_
              refine gi_lload (q := 106) C (dm_Re_remain 50 rfl) rfl rfl ?_
              refine gi_aload_n (q := 107) (i := 0) C (dm_Re_remain 51 rfl) rfl rfl rfl ?_
              refine gi_get (q := 110) C (dm_Re_remain 52 rfl) rfl fl_Re_18 (by repeat (first | exact gi_up_self _ _ _ | assumption | rw [gi_up_ne (by omega)])) rfl ?_
              refine gi_get (q := 113) C (dm_Re_remain 53 rfl) rfl fl_Re_25 (by repeat (first | exact gi_up_self _ _ _ | assumption | rw [gi_up_ne (by omega)])) rfl ?_
              refine gi_calls 2 (q := 116) C (dm_Re_remain 54 rfl) rfl my_Mt_max_0 lk_Re_80 sm_Mt_max_0 (c_Mt_max_0 0 q.2.1 (by omega) (by omega) (by omega) (by omega)) rfl rfl ⟨(Nat.le_of_ble_eq_true rfl), (Nat.le_of_ble_eq_true rfl)⟩ (Nat.le_of_ble_eq_true rfl) ⟨(Nat.le_of_ble_eq_true rfl), (Nat.le_of_ble_eq_true rfl)⟩ (fun r113 n113 h113 e113 => ?_)
              obtain ⟨rfl, rfl, rfl⟩ := e113
              refine gi_lstore (q := 118) C (dm_Re_remain 55 rfl) rfl (Nat.le_of_ble_eq_true rfl) ?_
              rw [show eL (min 4294967296 q.1) = eL (sizL y) from congrArg eL hN, show eL (max 0 q.2.1) = eL (sizH y) from congrArg eL hM]
              refine gi_aload_n (q := 119) (i := 1) C (dm_Re_remain 56 rfl) rfl rfl rfl ?_
              refine gi_get (q := 122) C (dm_Re_remain 57 rfl) rfl fl_Re_21 (by repeat (first | exact gi_up_self _ _ _ | assumption | rw [gi_up_ne (by omega)])) rfl ?_
              refine gi_calls 1 (q := 125) C (dm_Re_remain 58 rfl) rfl my_Mt_abs lk_Re_126 sm_Mt_abs (c_Mt_abs x.1 (by omega) (by omega)) rfl rfl ⟨(Nat.le_of_ble_eq_true rfl), (Nat.le_of_ble_eq_true rfl)⟩ (Nat.le_of_ble_eq_true rfl) ⟨(Nat.le_of_ble_eq_true rfl), (Nat.le_of_ble_eq_true rfl)⟩ (fun r122 n122 h122 e122 => ?_)
              obtain ⟨rfl, rfl, rfl⟩ := e122
              refine gi_aload_n (q := 126) (i := 1) C (dm_Re_remain 59 rfl) rfl rfl rfl ?_
              refine gi_get (q := 129) C (dm_Re_remain 60 rfl) rfl fl_Re_25 (by repeat (first | exact gi_up_self _ _ _ | assumption | rw [gi_up_ne (by omega)])) rfl ?_
              refine gi_calls 1 (q := 132) C (dm_Re_remain 61 rfl) rfl my_Mt_abs lk_Re_126 sm_Mt_abs (c_Mt_abs x.2.1 (by omega) (by omega)) rfl rfl ⟨(Nat.le_of_ble_eq_true rfl), (Nat.le_of_ble_eq_true rfl)⟩ (Nat.le_of_ble_eq_true rfl) ⟨(Nat.le_of_ble_eq_true rfl), (Nat.le_of_ble_eq_true rfl)⟩ (fun r129 n129 h129 e129 => ?_)
              obtain ⟨rfl, rfl, rfl⟩ := e129
              refine gi_calls 2 (q := 135) C (dm_Re_remain 62 rfl) rfl my_Mt_max_0 lk_Re_80 sm_Mt_max_0 (c_Mt_max_0 (x.1.natAbs : Int) (x.2.1.natAbs : Int) (by omega) (by omega) (by omega) (by omega)) rfl rfl ⟨(Nat.le_of_ble_eq_true rfl), (Nat.le_of_ble_eq_true rfl)⟩ (Nat.le_of_ble_eq_true rfl) ⟨(Nat.le_of_ble_eq_true rfl), (Nat.le_of_ble_eq_true rfl)⟩ (fun r132 n132 h132 e132 => ?_)
              obtain ⟨rfl, rfl, rfl⟩ := e132
              refine gi_lload (q := 137) C (dm_Re_remain 63 rfl) rfl rfl ?_
              refine gi_lcmp (q := 138) C (dm_Re_remain 64 rfl) rfl ?_
              refine gi_if_ge (q := 141) (tgt := 147) C (dm_Re_remain 65 rfl) rfl (by decide) (fun c138 => ?_) (fun c138 => ?_)
              · refine gi_aload_n (q := 148) (i := 3) C (dm_Re_remain 70 rfl) rfl rfl rfl ?_
                refine gi_aload_n (q := 149) (i := 1) C (dm_Re_remain 71 rfl) rfl rfl rfl ?_
                refine gi_get (q := 152) C (dm_Re_remain 72 rfl) rfl fl_Re_21 (by repeat (first | exact gi_up_self _ _ _ | assumption | rw [gi_up_ne (by omega)])) rfl ?_
                refine gi_lconst (q := 153) (v := 0) C (dm_Re_remain 73 rfl) rfl (by decide) ?_
                refine gi_lcmp (q := 154) C (dm_Re_remain 74 rfl) rfl ?_
                refine gi_if_lt (q := 157) (tgt := 161) C (dm_Re_remain 75 rfl) rfl (by decide) (fun c154 => ?_) (fun c154 => ?_)
                · refine gi_aload_n (q := 162) (i := 1) C (dm_Re_remain 78 rfl) rfl rfl rfl ?_
                  refine gi_get (q := 165) C (dm_Re_remain 79 rfl) rfl fl_Re_21 (by repeat (first | exact gi_up_self _ _ _ | assumption | rw [gi_up_ne (by omega)])) rfl ?_
                  refine gi_lconst (q := 166) (v := 1) C (dm_Re_remain 80 rfl) rfl (by decide) ?_
                  refine gi_lload (q := 168) C (dm_Re_remain 81 rfl) rfl rfl ?_
                  refine gi_lsub (q := 169) C (dm_Re_remain 82 rfl) rfl ?_
                  rw [eL_1, eL_sub]
                  refine gi_calls 2 (q := 172) C (dm_Re_remain 83 rfl) rfl my_Mt_max_0 lk_Re_80 sm_Mt_max_0 (c_Mt_max_0 x.1 (1 - sizH y) (by omega) (by omega) (by omega) (by omega)) rfl rfl ⟨(Nat.le_of_ble_eq_true rfl), (Nat.le_of_ble_eq_true rfl)⟩ (Nat.le_of_ble_eq_true rfl) ⟨(Nat.le_of_ble_eq_true rfl), (Nat.le_of_ble_eq_true rfl)⟩ (fun r169 n169 h169 e169 => ?_)
                  obtain ⟨rfl, rfl, rfl⟩ := e169
                  refine gi_aload_n (q := 173) (i := 1) C (dm_Re_remain 84 rfl) rfl rfl rfl ?_
                  refine gi_get (q := 176) C (dm_Re_remain 85 rfl) rfl fl_Re_25 (by repeat (first | exact gi_up_self _ _ _ | assumption | rw [gi_up_ne (by omega)])) rfl ?_
                  refine gi_lconst (q := 177) (v := 0) C (dm_Re_remain 86 rfl) rfl (by decide) ?_
                  refine gi_lcmp (q := 178) C (dm_Re_remain 87 rfl) rfl ?_
                  refine gi_if_gt (q := 181) (tgt := 185) C (dm_Re_remain 88 rfl) rfl (by decide) (fun c178 => ?_) (fun c178 => ?_)
                  · refine gi_aload_n (q := 186) (i := 1) C (dm_Re_remain 91 rfl) rfl rfl rfl ?_
                    refine gi_get (q := 189) C (dm_Re_remain 92 rfl) rfl fl_Re_25 (by repeat (first | exact gi_up_self _ _ _ | assumption | rw [gi_up_ne (by omega)])) rfl ?_
                    refine gi_lload (q := 191) C (dm_Re_remain 93 rfl) rfl rfl ?_
                    refine gi_lconst (q := 192) (v := 1) C (dm_Re_remain 94 rfl) rfl (by decide) ?_
                    refine gi_lsub (q := 193) C (dm_Re_remain 95 rfl) rfl ?_
                    rw [eL_1, eL_sub]
                    refine gi_calls 2 (q := 196) C (dm_Re_remain 96 rfl) rfl my_Mt_min_1 lk_Re_94 sm_Mt_min_1 (c_Mt_min_1 x.2.1 (sizH y - 1) (by omega) (by omega) (by omega) (by omega)) rfl rfl ⟨(Nat.le_of_ble_eq_true rfl), (Nat.le_of_ble_eq_true rfl)⟩ (Nat.le_of_ble_eq_true rfl) ⟨(Nat.le_of_ble_eq_true rfl), (Nat.le_of_ble_eq_true rfl)⟩ (fun r193 n193 h193 e193 => ?_)
                    obtain ⟨rfl, rfl, rfl⟩ := e193
                    refine gi_lconst (q := 197) (v := 1) C (dm_Re_remain 97 rfl) rfl (by decide) ?_
                    try rw [eL_0]
                    rw [eL_1]
                    refine gi_callv 3 (q := 200) C (dm_Re_remain 98 rfl) rfl my_Va_beSpan lk_Re_74 im_Va_beSpan rfl (c_Va_beSpan ao _ _ _ _ (by repeat (first | exact gi_up_self _ _ _ | assumption | rw [gi_up_ne (by omega)]))) (by repeat (first | exact gi_up_self _ _ _ | assumption | rw [gi_up_ne (by omega)])) rfl rfl ⟨(Nat.le_of_ble_eq_true rfl), (Nat.le_of_ble_eq_true rfl)⟩ (Nat.le_of_ble_eq_true rfl) ⟨(Nat.le_of_ble_eq_true rfl), (Nat.le_of_ble_eq_true rfl)⟩ (fun r197 n197 h197 e197 => ?_)
                    obtain ⟨rfl, rfl, rfl⟩ := e197
                    refine gi_vret C hr (dm_Re_remain 99 rfl) ?_
                    (try simp (disch := omega) only [lg_cmp_ge, lg_cmp_le, lg_cmp_gt, lg_cmp_lt, lg_cmp_eq, eL_0, eL_1, eL_m1, eL_LO, eL_HI, eL_W, eL_add, eL_sub, eL_mul, eL_neg, eL_lt, eL_le, eL_eq, eL_remN, eL_mod0, ne_eq, Int64.not_lt, Int64.not_le] at c57)
                    (try simp (disch := omega) only [lg_cmp_ge, lg_cmp_le, lg_cmp_gt, lg_cmp_lt, lg_cmp_eq, eL_0, eL_1, eL_m1, eL_LO, eL_HI, eL_W, eL_add, eL_sub, eL_mul, eL_neg, eL_lt, eL_le, eL_eq, eL_remN, eL_mod0, ne_eq, Int64.not_lt, Int64.not_le] at c87)
                    (try simp (disch := omega) only [lg_cmp_ge, lg_cmp_le, lg_cmp_gt, lg_cmp_lt, lg_cmp_eq, eL_0, eL_1, eL_m1, eL_LO, eL_HI, eL_W, eL_add, eL_sub, eL_mul, eL_neg, eL_lt, eL_le, eL_eq, eL_remN, eL_mod0, ne_eq, Int64.not_lt, Int64.not_le] at c138)
                    (try simp (disch := omega) only [lg_cmp_ge, lg_cmp_le, lg_cmp_gt, lg_cmp_lt, lg_cmp_eq, eL_0, eL_1, eL_m1, eL_LO, eL_HI, eL_W, eL_add, eL_sub, eL_mul, eL_neg, eL_lt, eL_le, eL_eq, eL_remN, eL_mod0, ne_eq, Int64.not_lt, Int64.not_le] at c154)
                    (try simp (disch := omega) only [lg_cmp_ge, lg_cmp_le, lg_cmp_gt, lg_cmp_lt, lg_cmp_eq, eL_0, eL_1, eL_m1, eL_LO, eL_HI, eL_W, eL_add, eL_sub, eL_mul, eL_neg, eL_lt, eL_le, eL_eq, eL_remN, eL_mod0, ne_eq, Int64.not_lt, Int64.not_le] at c178)
                    refine ⟨rfl, rfl, sV (1, 0, 0), sV q, ?_⟩
                    unfold restS
                    rw [if_neg n1, if_neg (by omega)]
                    first
                      | (rw [if_pos (by omega), if_pos (by omega), mSpan_mk (by omega) (by omega) (by omega) (by omega)]; done)
                      | (rw [if_pos (by omega), if_neg (by omega), mSpan_mk (by omega) (by omega) (by omega) (by omega)]; done)
                      | (rw [if_neg (by omega), if_pos (by omega), mSpan_mk (by omega) (by omega) (by omega) (by omega)]; done)
                      | (rw [if_neg (by omega), if_neg (by omega), mSpan_mk (by omega) (by omega) (by omega) (by omega)]; done)
                  · refine gi_lconst (q := 182) (v := 0) C (dm_Re_remain 89 rfl) rfl (by decide) ?_
                    refine gi_goto (tgt := 196) C (dm_Re_remain 90 rfl) (by decide) ?_
                    refine gi_lconst (q := 197) (v := 1) C (dm_Re_remain 97 rfl) rfl (by decide) ?_
                    try rw [eL_0]
                    rw [eL_1]
                    refine gi_callv 3 (q := 200) C (dm_Re_remain 98 rfl) rfl my_Va_beSpan lk_Re_74 im_Va_beSpan rfl (c_Va_beSpan ao _ _ _ _ (by repeat (first | exact gi_up_self _ _ _ | assumption | rw [gi_up_ne (by omega)]))) (by repeat (first | exact gi_up_self _ _ _ | assumption | rw [gi_up_ne (by omega)])) rfl rfl ⟨(Nat.le_of_ble_eq_true rfl), (Nat.le_of_ble_eq_true rfl)⟩ (Nat.le_of_ble_eq_true rfl) ⟨(Nat.le_of_ble_eq_true rfl), (Nat.le_of_ble_eq_true rfl)⟩ (fun r197 n197 h197 e197 => ?_)
                    obtain ⟨rfl, rfl, rfl⟩ := e197
                    refine gi_vret C hr (dm_Re_remain 99 rfl) ?_
                    (try simp (disch := omega) only [lg_cmp_ge, lg_cmp_le, lg_cmp_gt, lg_cmp_lt, lg_cmp_eq, eL_0, eL_1, eL_m1, eL_LO, eL_HI, eL_W, eL_add, eL_sub, eL_mul, eL_neg, eL_lt, eL_le, eL_eq, eL_remN, eL_mod0, ne_eq, Int64.not_lt, Int64.not_le] at c57)
                    (try simp (disch := omega) only [lg_cmp_ge, lg_cmp_le, lg_cmp_gt, lg_cmp_lt, lg_cmp_eq, eL_0, eL_1, eL_m1, eL_LO, eL_HI, eL_W, eL_add, eL_sub, eL_mul, eL_neg, eL_lt, eL_le, eL_eq, eL_remN, eL_mod0, ne_eq, Int64.not_lt, Int64.not_le] at c87)
                    (try simp (disch := omega) only [lg_cmp_ge, lg_cmp_le, lg_cmp_gt, lg_cmp_lt, lg_cmp_eq, eL_0, eL_1, eL_m1, eL_LO, eL_HI, eL_W, eL_add, eL_sub, eL_mul, eL_neg, eL_lt, eL_le, eL_eq, eL_remN, eL_mod0, ne_eq, Int64.not_lt, Int64.not_le] at c138)
                    (try simp (disch := omega) only [lg_cmp_ge, lg_cmp_le, lg_cmp_gt, lg_cmp_lt, lg_cmp_eq, eL_0, eL_1, eL_m1, eL_LO, eL_HI, eL_W, eL_add, eL_sub, eL_mul, eL_neg, eL_lt, eL_le, eL_eq, eL_remN, eL_mod0, ne_eq, Int64.not_lt, Int64.not_le] at c154)
                    (try simp (disch := omega) only [lg_cmp_ge, lg_cmp_le, lg_cmp_gt, lg_cmp_lt, lg_cmp_eq, eL_0, eL_1, eL_m1, eL_LO, eL_HI, eL_W, eL_add, eL_sub, eL_mul, eL_neg, eL_lt, eL_le, eL_eq, eL_remN, eL_mod0, ne_eq, Int64.not_lt, Int64.not_le] at c178)
                    refine ⟨rfl, rfl, sV (1, 0, 0), sV q, ?_⟩
                    unfold restS
                    rw [if_neg n1, if_neg (by omega)]
                    first
                      | (rw [if_pos (by omega), if_pos (by omega), mSpan_mk (by omega) (by omega) (by omega) (by omega)]; done)
                      | (rw [if_pos (by omega), if_neg (by omega), mSpan_mk (by omega) (by omega) (by omega) (by omega)]; done)
                      | (rw [if_neg (by omega), if_pos (by omega), mSpan_mk (by omega) (by omega) (by omega) (by omega)]; done)
                      | (rw [if_neg (by omega), if_neg (by omega), mSpan_mk (by omega) (by omega) (by omega) (by omega)]; done)
                · refine gi_lconst (q := 158) (v := 0) C (dm_Re_remain 76 rfl) rfl (by decide) ?_
                  refine gi_goto (tgt := 172) C (dm_Re_remain 77 rfl) (by decide) ?_
                  refine gi_aload_n (q := 173) (i := 1) C (dm_Re_remain 84 rfl) rfl rfl rfl ?_
                  refine gi_get (q := 176) C (dm_Re_remain 85 rfl) rfl fl_Re_25 (by repeat (first | exact gi_up_self _ _ _ | assumption | rw [gi_up_ne (by omega)])) rfl ?_
                  refine gi_lconst (q := 177) (v := 0) C (dm_Re_remain 86 rfl) rfl (by decide) ?_
                  refine gi_lcmp (q := 178) C (dm_Re_remain 87 rfl) rfl ?_
                  refine gi_if_gt (q := 181) (tgt := 185) C (dm_Re_remain 88 rfl) rfl (by decide) (fun c178 => ?_) (fun c178 => ?_)
                  · refine gi_aload_n (q := 186) (i := 1) C (dm_Re_remain 91 rfl) rfl rfl rfl ?_
                    refine gi_get (q := 189) C (dm_Re_remain 92 rfl) rfl fl_Re_25 (by repeat (first | exact gi_up_self _ _ _ | assumption | rw [gi_up_ne (by omega)])) rfl ?_
                    refine gi_lload (q := 191) C (dm_Re_remain 93 rfl) rfl rfl ?_
                    refine gi_lconst (q := 192) (v := 1) C (dm_Re_remain 94 rfl) rfl (by decide) ?_
                    refine gi_lsub (q := 193) C (dm_Re_remain 95 rfl) rfl ?_
                    rw [eL_1, eL_sub]
                    refine gi_calls 2 (q := 196) C (dm_Re_remain 96 rfl) rfl my_Mt_min_1 lk_Re_94 sm_Mt_min_1 (c_Mt_min_1 x.2.1 (sizH y - 1) (by omega) (by omega) (by omega) (by omega)) rfl rfl ⟨(Nat.le_of_ble_eq_true rfl), (Nat.le_of_ble_eq_true rfl)⟩ (Nat.le_of_ble_eq_true rfl) ⟨(Nat.le_of_ble_eq_true rfl), (Nat.le_of_ble_eq_true rfl)⟩ (fun r193 n193 h193 e193 => ?_)
                    obtain ⟨rfl, rfl, rfl⟩ := e193
                    refine gi_lconst (q := 197) (v := 1) C (dm_Re_remain 97 rfl) rfl (by decide) ?_
                    try rw [eL_0]
                    rw [eL_1]
                    refine gi_callv 3 (q := 200) C (dm_Re_remain 98 rfl) rfl my_Va_beSpan lk_Re_74 im_Va_beSpan rfl (c_Va_beSpan ao _ _ _ _ (by repeat (first | exact gi_up_self _ _ _ | assumption | rw [gi_up_ne (by omega)]))) (by repeat (first | exact gi_up_self _ _ _ | assumption | rw [gi_up_ne (by omega)])) rfl rfl ⟨(Nat.le_of_ble_eq_true rfl), (Nat.le_of_ble_eq_true rfl)⟩ (Nat.le_of_ble_eq_true rfl) ⟨(Nat.le_of_ble_eq_true rfl), (Nat.le_of_ble_eq_true rfl)⟩ (fun r197 n197 h197 e197 => ?_)
                    obtain ⟨rfl, rfl, rfl⟩ := e197
                    refine gi_vret C hr (dm_Re_remain 99 rfl) ?_
                    (try simp (disch := omega) only [lg_cmp_ge, lg_cmp_le, lg_cmp_gt, lg_cmp_lt, lg_cmp_eq, eL_0, eL_1, eL_m1, eL_LO, eL_HI, eL_W, eL_add, eL_sub, eL_mul, eL_neg, eL_lt, eL_le, eL_eq, eL_remN, eL_mod0, ne_eq, Int64.not_lt, Int64.not_le] at c57)
                    (try simp (disch := omega) only [lg_cmp_ge, lg_cmp_le, lg_cmp_gt, lg_cmp_lt, lg_cmp_eq, eL_0, eL_1, eL_m1, eL_LO, eL_HI, eL_W, eL_add, eL_sub, eL_mul, eL_neg, eL_lt, eL_le, eL_eq, eL_remN, eL_mod0, ne_eq, Int64.not_lt, Int64.not_le] at c87)
                    (try simp (disch := omega) only [lg_cmp_ge, lg_cmp_le, lg_cmp_gt, lg_cmp_lt, lg_cmp_eq, eL_0, eL_1, eL_m1, eL_LO, eL_HI, eL_W, eL_add, eL_sub, eL_mul, eL_neg, eL_lt, eL_le, eL_eq, eL_remN, eL_mod0, ne_eq, Int64.not_lt, Int64.not_le] at c138)
                    (try simp (disch := omega) only [lg_cmp_ge, lg_cmp_le, lg_cmp_gt, lg_cmp_lt, lg_cmp_eq, eL_0, eL_1, eL_m1, eL_LO, eL_HI, eL_W, eL_add, eL_sub, eL_mul, eL_neg, eL_lt, eL_le, eL_eq, eL_remN, eL_mod0, ne_eq, Int64.not_lt, Int64.not_le] at c154)
                    (try simp (disch := omega) only [lg_cmp_ge, lg_cmp_le, lg_cmp_gt, lg_cmp_lt, lg_cmp_eq, eL_0, eL_1, eL_m1, eL_LO, eL_HI, eL_W, eL_add, eL_sub, eL_mul, eL_neg, eL_lt, eL_le, eL_eq, eL_remN, eL_mod0, ne_eq, Int64.not_lt, Int64.not_le] at c178)
                    refine ⟨rfl, rfl, sV (1, 0, 0), sV q, ?_⟩
                    unfold restS
                    rw [if_neg n1, if_neg (by omega)]
                    first
                      | (rw [if_pos (by omega), if_pos (by omega), mSpan_mk (by omega) (by omega) (by omega) (by omega)]; done)
                      | (rw [if_pos (by omega), if_neg (by omega), mSpan_mk (by omega) (by omega) (by omega) (by omega)]; done)
                      | (rw [if_neg (by omega), if_pos (by omega), mSpan_mk (by omega) (by omega) (by omega) (by omega)]; done)
                      | (rw [if_neg (by omega), if_neg (by omega), mSpan_mk (by omega) (by omega) (by omega) (by omega)]; done)
                  · refine gi_lconst (q := 182) (v := 0) C (dm_Re_remain 89 rfl) rfl (by decide) ?_
                    refine gi_goto (tgt := 196) C (dm_Re_remain 90 rfl) (by decide) ?_
                    refine gi_lconst (q := 197) (v := 1) C (dm_Re_remain 97 rfl) rfl (by decide) ?_
                    try rw [eL_0]
                    rw [eL_1]
                    refine gi_callv 3 (q := 200) C (dm_Re_remain 98 rfl) rfl my_Va_beSpan lk_Re_74 im_Va_beSpan rfl (c_Va_beSpan ao _ _ _ _ (by repeat (first | exact gi_up_self _ _ _ | assumption | rw [gi_up_ne (by omega)]))) (by repeat (first | exact gi_up_self _ _ _ | assumption | rw [gi_up_ne (by omega)])) rfl rfl ⟨(Nat.le_of_ble_eq_true rfl), (Nat.le_of_ble_eq_true rfl)⟩ (Nat.le_of_ble_eq_true rfl) ⟨(Nat.le_of_ble_eq_true rfl), (Nat.le_of_ble_eq_true rfl)⟩ (fun r197 n197 h197 e197 => ?_)
                    obtain ⟨rfl, rfl, rfl⟩ := e197
                    refine gi_vret C hr (dm_Re_remain 99 rfl) ?_
                    (try simp (disch := omega) only [lg_cmp_ge, lg_cmp_le, lg_cmp_gt, lg_cmp_lt, lg_cmp_eq, eL_0, eL_1, eL_m1, eL_LO, eL_HI, eL_W, eL_add, eL_sub, eL_mul, eL_neg, eL_lt, eL_le, eL_eq, eL_remN, eL_mod0, ne_eq, Int64.not_lt, Int64.not_le] at c57)
                    (try simp (disch := omega) only [lg_cmp_ge, lg_cmp_le, lg_cmp_gt, lg_cmp_lt, lg_cmp_eq, eL_0, eL_1, eL_m1, eL_LO, eL_HI, eL_W, eL_add, eL_sub, eL_mul, eL_neg, eL_lt, eL_le, eL_eq, eL_remN, eL_mod0, ne_eq, Int64.not_lt, Int64.not_le] at c87)
                    (try simp (disch := omega) only [lg_cmp_ge, lg_cmp_le, lg_cmp_gt, lg_cmp_lt, lg_cmp_eq, eL_0, eL_1, eL_m1, eL_LO, eL_HI, eL_W, eL_add, eL_sub, eL_mul, eL_neg, eL_lt, eL_le, eL_eq, eL_remN, eL_mod0, ne_eq, Int64.not_lt, Int64.not_le] at c138)
                    (try simp (disch := omega) only [lg_cmp_ge, lg_cmp_le, lg_cmp_gt, lg_cmp_lt, lg_cmp_eq, eL_0, eL_1, eL_m1, eL_LO, eL_HI, eL_W, eL_add, eL_sub, eL_mul, eL_neg, eL_lt, eL_le, eL_eq, eL_remN, eL_mod0, ne_eq, Int64.not_lt, Int64.not_le] at c154)
                    (try simp (disch := omega) only [lg_cmp_ge, lg_cmp_le, lg_cmp_gt, lg_cmp_lt, lg_cmp_eq, eL_0, eL_1, eL_m1, eL_LO, eL_HI, eL_W, eL_add, eL_sub, eL_mul, eL_neg, eL_lt, eL_le, eL_eq, eL_remN, eL_mod0, ne_eq, Int64.not_lt, Int64.not_le] at c178)
                    refine ⟨rfl, rfl, sV (1, 0, 0), sV q, ?_⟩
                    unfold restS
                    rw [if_neg n1, if_neg (by omega)]
                    first
                      | (rw [if_pos (by omega), if_pos (by omega), mSpan_mk (by omega) (by omega) (by omega) (by omega)]; done)
                      | (rw [if_pos (by omega), if_neg (by omega), mSpan_mk (by omega) (by omega) (by omega) (by omega)]; done)
                      | (rw [if_neg (by omega), if_pos (by omega), mSpan_mk (by omega) (by omega) (by omega) (by omega)]; done)
                      | (rw [if_neg (by omega), if_neg (by omega), mSpan_mk (by omega) (by omega) (by omega) (by omega)]; done)
              · refine gi_aload_n (q := 142) (i := 3) C (dm_Re_remain 66 rfl) rfl rfl rfl ?_
                refine gi_aload_n (q := 143) (i := 1) C (dm_Re_remain 67 rfl) rfl rfl rfl ?_
                refine gi_callv 1 (q := 146) C (dm_Re_remain 68 rfl) rfl my_Va_copy lk_Re_97 im_Va_copy rfl (c_Va_copy ao ax _ _ (by repeat (first | exact gi_up_self _ _ _ | assumption | rw [gi_up_ne (by omega)])) (by repeat (first | exact gi_up_self _ _ _ | assumption | rw [gi_up_ne (by omega)])) hxo (wf_s x)) (by repeat (first | exact gi_up_self _ _ _ | assumption | rw [gi_up_ne (by omega)])) rfl rfl ⟨(Nat.le_of_ble_eq_true rfl), (Nat.le_of_ble_eq_true rfl)⟩ (Nat.le_of_ble_eq_true rfl) ⟨(Nat.le_of_ble_eq_true rfl), (Nat.le_of_ble_eq_true rfl)⟩ (fun r143 n143 h143 e143 => ?_)
                obtain ⟨rfl, rfl, rfl⟩ := e143
                refine gi_vret C hr (dm_Re_remain 69 rfl) ?_
                (try simp (disch := omega) only [lg_cmp_ge, lg_cmp_le, lg_cmp_gt, lg_cmp_lt, lg_cmp_eq, eL_0, eL_1, eL_m1, eL_LO, eL_HI, eL_W, eL_add, eL_sub, eL_mul, eL_neg, eL_lt, eL_le, eL_eq, eL_remN, eL_mod0, ne_eq, Int64.not_lt, Int64.not_le] at c57)
                (try simp (disch := omega) only [lg_cmp_ge, lg_cmp_le, lg_cmp_gt, lg_cmp_lt, lg_cmp_eq, eL_0, eL_1, eL_m1, eL_LO, eL_HI, eL_W, eL_add, eL_sub, eL_mul, eL_neg, eL_lt, eL_le, eL_eq, eL_remN, eL_mod0, ne_eq, Int64.not_lt, Int64.not_le] at c87)
                (try simp (disch := omega) only [lg_cmp_ge, lg_cmp_le, lg_cmp_gt, lg_cmp_lt, lg_cmp_eq, eL_0, eL_1, eL_m1, eL_LO, eL_HI, eL_W, eL_add, eL_sub, eL_mul, eL_neg, eL_lt, eL_le, eL_eq, eL_remN, eL_mod0, ne_eq, Int64.not_lt, Int64.not_le] at c138)
                refine ⟨rfl, rfl, sV (1, 0, 0), sV q, ?_⟩
                unfold restS
                rw [if_neg n1, if_pos (by omega)]
          · exact absurd c57 (by decide)
      · rcases eP : posS y with _ | q
        · have hN : -p.2.1 = sizL y := by unfold sizL; rw [eN, eP]
          have hM : -p.1 = sizH y := by unfold sizH; rw [eN, eP]
          obtain ⟨a1, a2, a3, -⟩ := (nb p eN).1
          have a0 := (nb p eN).2
          rw [wS_n, wS_s]
          rw [eL_W, eL_0]
          refine gi_aload_n (q := 51) (i := 0) C (dm_Re_remain 26 rfl) rfl rfl rfl ?_
          refine gi_get (q := 54) C (dm_Re_remain 27 rfl) rfl fl_Re_12 (by repeat (first | exact gi_up_self _ _ _ | assumption | rw [gi_up_ne (by omega)])) rfl ?_
          refine gi_callv 0 (q := 57) C (dm_Re_remain 28 rfl) rfl my_Va_isNothing lk_Re_120 im_Va_isNothing rfl (c_Va_isNothing (r + 1) _ (by repeat (first | exact gi_up_self _ _ _ | assumption | rw [gi_up_ne (by omega)]))) (by repeat (first | exact gi_up_self _ _ _ | assumption | rw [gi_up_ne (by omega)])) rfl rfl ⟨(Nat.le_of_ble_eq_true rfl), (Nat.le_of_ble_eq_true rfl)⟩ (Nat.le_of_ble_eq_true rfl) ⟨(Nat.le_of_ble_eq_true rfl), (Nat.le_of_ble_eq_true rfl)⟩ (fun r54 n54 h54 e54 => ?_)
          obtain ⟨rfl, rfl, rfl⟩ := e54
          refine gi_if_ne (q := 60) (tgt := 80) C (dm_Re_remain 29 rfl) rfl (by decide) (fun c57 => ?_) (fun c57 => ?_)
          · exact absurd ((no_iff (s := eL 0) (by omega) (by omega) (by omega) (by omega)).mpr (show ¬ p.2.1 < p.1 by omega)) c57
          · refine gi_aload_n (q := 61) (i := 0) C (dm_Re_remain 30 rfl) rfl rfl rfl ?_
            refine gi_get (q := 64) C (dm_Re_remain 31 rfl) rfl fl_Re_12 (by repeat (first | exact gi_up_self _ _ _ | assumption | rw [gi_up_ne (by omega)])) rfl ?_
            refine gi_get (q := 67) C (dm_Re_remain 32 rfl) rfl fl_Re_25 (by repeat (first | exact gi_up_self _ _ _ | assumption | rw [gi_up_ne (by omega)])) rfl ?_
            refine gi_lneg (q := 68) C (dm_Re_remain 33 rfl) rfl ?_
            rw [eL_neg]
            refine gi_lstore (q := 70) C (dm_Re_remain 34 rfl) rfl (Nat.le_of_ble_eq_true rfl) ?_
            refine gi_aload_n (q := 71) (i := 0) C (dm_Re_remain 35 rfl) rfl rfl rfl ?_
            refine gi_get (q := 74) C (dm_Re_remain 36 rfl) rfl fl_Re_12 (by repeat (first | exact gi_up_self _ _ _ | assumption | rw [gi_up_ne (by omega)])) rfl ?_
            refine gi_get (q := 77) C (dm_Re_remain 37 rfl) rfl fl_Re_21 (by repeat (first | exact gi_up_self _ _ _ | assumption | rw [gi_up_ne (by omega)])) rfl ?_
            refine gi_lneg (q := 78) C (dm_Re_remain 38 rfl) rfl ?_
            rw [eL_neg]
            refine gi_lstore (q := 80) C (dm_Re_remain 39 rfl) rfl (Nat.le_of_ble_eq_true rfl) ?_
            refine gi_aload_n (q := 81) (i := 0) C (dm_Re_remain 40 rfl) rfl rfl rfl ?_
            refine gi_get (q := 84) C (dm_Re_remain 41 rfl) rfl fl_Re_18 (by repeat (first | exact gi_up_self _ _ _ | assumption | rw [gi_up_ne (by omega)])) rfl ?_
            refine gi_callv 0 (q := 87) C (dm_Re_remain 42 rfl) rfl my_Va_isNothing lk_Re_120 im_Va_isNothing rfl (c_Va_isNothing (r + 2) _ (by repeat (first | exact gi_up_self _ _ _ | assumption | rw [gi_up_ne (by omega)]))) (by repeat (first | exact gi_up_self _ _ _ | assumption | rw [gi_up_ne (by omega)])) rfl rfl ⟨(Nat.le_of_ble_eq_true rfl), (Nat.le_of_ble_eq_true rfl)⟩ (Nat.le_of_ble_eq_true rfl) ⟨(Nat.le_of_ble_eq_true rfl), (Nat.le_of_ble_eq_true rfl)⟩ (fun r84 n84 h84 e84 => ?_)
            obtain ⟨rfl, rfl, rfl⟩ := e84
            refine gi_if_ne (q := 90) (tgt := 118) C (dm_Re_remain 43 rfl) rfl (by decide) (fun c87 => ?_) (fun c87 => ?_)
            · rw [show eL (-p.2.1) = eL (sizL y) from congrArg eL hN, show eL (-p.1) = eL (sizH y) from congrArg eL hM]
              refine gi_aload_n (q := 119) (i := 1) C (dm_Re_remain 56 rfl) rfl rfl rfl ?_
              refine gi_get (q := 122) C (dm_Re_remain 57 rfl) rfl fl_Re_21 (by repeat (first | exact gi_up_self _ _ _ | assumption | rw [gi_up_ne (by omega)])) rfl ?_
              refine gi_calls 1 (q := 125) C (dm_Re_remain 58 rfl) rfl my_Mt_abs lk_Re_126 sm_Mt_abs (c_Mt_abs x.1 (by omega) (by omega)) rfl rfl ⟨(Nat.le_of_ble_eq_true rfl), (Nat.le_of_ble_eq_true rfl)⟩ (Nat.le_of_ble_eq_true rfl) ⟨(Nat.le_of_ble_eq_true rfl), (Nat.le_of_ble_eq_true rfl)⟩ (fun r122 n122 h122 e122 => ?_)
              obtain ⟨rfl, rfl, rfl⟩ := e122
              refine gi_aload_n (q := 126) (i := 1) C (dm_Re_remain 59 rfl) rfl rfl rfl ?_
              refine gi_get (q := 129) C (dm_Re_remain 60 rfl) rfl fl_Re_25 (by repeat (first | exact gi_up_self _ _ _ | assumption | rw [gi_up_ne (by omega)])) rfl ?_
              refine gi_calls 1 (q := 132) C (dm_Re_remain 61 rfl) rfl my_Mt_abs lk_Re_126 sm_Mt_abs (c_Mt_abs x.2.1 (by omega) (by omega)) rfl rfl ⟨(Nat.le_of_ble_eq_true rfl), (Nat.le_of_ble_eq_true rfl)⟩ (Nat.le_of_ble_eq_true rfl) ⟨(Nat.le_of_ble_eq_true rfl), (Nat.le_of_ble_eq_true rfl)⟩ (fun r129 n129 h129 e129 => ?_)
              obtain ⟨rfl, rfl, rfl⟩ := e129
              refine gi_calls 2 (q := 135) C (dm_Re_remain 62 rfl) rfl my_Mt_max_0 lk_Re_80 sm_Mt_max_0 (c_Mt_max_0 (x.1.natAbs : Int) (x.2.1.natAbs : Int) (by omega) (by omega) (by omega) (by omega)) rfl rfl ⟨(Nat.le_of_ble_eq_true rfl), (Nat.le_of_ble_eq_true rfl)⟩ (Nat.le_of_ble_eq_true rfl) ⟨(Nat.le_of_ble_eq_true rfl), (Nat.le_of_ble_eq_true rfl)⟩ (fun r132 n132 h132 e132 => ?_)
              obtain ⟨rfl, rfl, rfl⟩ := e132
              refine gi_lload (q := 137) C (dm_Re_remain 63 rfl) rfl rfl ?_
              refine gi_lcmp (q := 138) C (dm_Re_remain 64 rfl) rfl ?_
              refine gi_if_ge (q := 141) (tgt := 147) C (dm_Re_remain 65 rfl) rfl (by decide) (fun c138 => ?_) (fun c138 => ?_)
              · refine gi_aload_n (q := 148) (i := 3) C (dm_Re_remain 70 rfl) rfl rfl rfl ?_
                refine gi_aload_n (q := 149) (i := 1) C (dm_Re_remain 71 rfl) rfl rfl rfl ?_
                refine gi_get (q := 152) C (dm_Re_remain 72 rfl) rfl fl_Re_21 (by repeat (first | exact gi_up_self _ _ _ | assumption | rw [gi_up_ne (by omega)])) rfl ?_
                refine gi_lconst (q := 153) (v := 0) C (dm_Re_remain 73 rfl) rfl (by decide) ?_
                refine gi_lcmp (q := 154) C (dm_Re_remain 74 rfl) rfl ?_
                refine gi_if_lt (q := 157) (tgt := 161) C (dm_Re_remain 75 rfl) rfl (by decide) (fun c154 => ?_) (fun c154 => ?_)
                · refine gi_aload_n (q := 162) (i := 1) C (dm_Re_remain 78 rfl) rfl rfl rfl ?_
                  refine gi_get (q := 165) C (dm_Re_remain 79 rfl) rfl fl_Re_21 (by repeat (first | exact gi_up_self _ _ _ | assumption | rw [gi_up_ne (by omega)])) rfl ?_
                  refine gi_lconst (q := 166) (v := 1) C (dm_Re_remain 80 rfl) rfl (by decide) ?_
                  refine gi_lload (q := 168) C (dm_Re_remain 81 rfl) rfl rfl ?_
                  refine gi_lsub (q := 169) C (dm_Re_remain 82 rfl) rfl ?_
                  rw [eL_1, eL_sub]
                  refine gi_calls 2 (q := 172) C (dm_Re_remain 83 rfl) rfl my_Mt_max_0 lk_Re_80 sm_Mt_max_0 (c_Mt_max_0 x.1 (1 - sizH y) (by omega) (by omega) (by omega) (by omega)) rfl rfl ⟨(Nat.le_of_ble_eq_true rfl), (Nat.le_of_ble_eq_true rfl)⟩ (Nat.le_of_ble_eq_true rfl) ⟨(Nat.le_of_ble_eq_true rfl), (Nat.le_of_ble_eq_true rfl)⟩ (fun r169 n169 h169 e169 => ?_)
                  obtain ⟨rfl, rfl, rfl⟩ := e169
                  refine gi_aload_n (q := 173) (i := 1) C (dm_Re_remain 84 rfl) rfl rfl rfl ?_
                  refine gi_get (q := 176) C (dm_Re_remain 85 rfl) rfl fl_Re_25 (by repeat (first | exact gi_up_self _ _ _ | assumption | rw [gi_up_ne (by omega)])) rfl ?_
                  refine gi_lconst (q := 177) (v := 0) C (dm_Re_remain 86 rfl) rfl (by decide) ?_
                  refine gi_lcmp (q := 178) C (dm_Re_remain 87 rfl) rfl ?_
                  refine gi_if_gt (q := 181) (tgt := 185) C (dm_Re_remain 88 rfl) rfl (by decide) (fun c178 => ?_) (fun c178 => ?_)
                  · refine gi_aload_n (q := 186) (i := 1) C (dm_Re_remain 91 rfl) rfl rfl rfl ?_
                    refine gi_get (q := 189) C (dm_Re_remain 92 rfl) rfl fl_Re_25 (by repeat (first | exact gi_up_self _ _ _ | assumption | rw [gi_up_ne (by omega)])) rfl ?_
                    refine gi_lload (q := 191) C (dm_Re_remain 93 rfl) rfl rfl ?_
                    refine gi_lconst (q := 192) (v := 1) C (dm_Re_remain 94 rfl) rfl (by decide) ?_
                    refine gi_lsub (q := 193) C (dm_Re_remain 95 rfl) rfl ?_
                    rw [eL_1, eL_sub]
                    refine gi_calls 2 (q := 196) C (dm_Re_remain 96 rfl) rfl my_Mt_min_1 lk_Re_94 sm_Mt_min_1 (c_Mt_min_1 x.2.1 (sizH y - 1) (by omega) (by omega) (by omega) (by omega)) rfl rfl ⟨(Nat.le_of_ble_eq_true rfl), (Nat.le_of_ble_eq_true rfl)⟩ (Nat.le_of_ble_eq_true rfl) ⟨(Nat.le_of_ble_eq_true rfl), (Nat.le_of_ble_eq_true rfl)⟩ (fun r193 n193 h193 e193 => ?_)
                    obtain ⟨rfl, rfl, rfl⟩ := e193
                    refine gi_lconst (q := 197) (v := 1) C (dm_Re_remain 97 rfl) rfl (by decide) ?_
                    try rw [eL_0]
                    rw [eL_1]
                    refine gi_callv 3 (q := 200) C (dm_Re_remain 98 rfl) rfl my_Va_beSpan lk_Re_74 im_Va_beSpan rfl (c_Va_beSpan ao _ _ _ _ (by repeat (first | exact gi_up_self _ _ _ | assumption | rw [gi_up_ne (by omega)]))) (by repeat (first | exact gi_up_self _ _ _ | assumption | rw [gi_up_ne (by omega)])) rfl rfl ⟨(Nat.le_of_ble_eq_true rfl), (Nat.le_of_ble_eq_true rfl)⟩ (Nat.le_of_ble_eq_true rfl) ⟨(Nat.le_of_ble_eq_true rfl), (Nat.le_of_ble_eq_true rfl)⟩ (fun r197 n197 h197 e197 => ?_)
                    obtain ⟨rfl, rfl, rfl⟩ := e197
                    refine gi_vret C hr (dm_Re_remain 99 rfl) ?_
                    (try simp (disch := omega) only [lg_cmp_ge, lg_cmp_le, lg_cmp_gt, lg_cmp_lt, lg_cmp_eq, eL_0, eL_1, eL_m1, eL_LO, eL_HI, eL_W, eL_add, eL_sub, eL_mul, eL_neg, eL_lt, eL_le, eL_eq, eL_remN, eL_mod0, ne_eq, Int64.not_lt, Int64.not_le] at c57)
                    (try simp (disch := omega) only [lg_cmp_ge, lg_cmp_le, lg_cmp_gt, lg_cmp_lt, lg_cmp_eq, eL_0, eL_1, eL_m1, eL_LO, eL_HI, eL_W, eL_add, eL_sub, eL_mul, eL_neg, eL_lt, eL_le, eL_eq, eL_remN, eL_mod0, ne_eq, Int64.not_lt, Int64.not_le] at c87)
                    (try simp (disch := omega) only [lg_cmp_ge, lg_cmp_le, lg_cmp_gt, lg_cmp_lt, lg_cmp_eq, eL_0, eL_1, eL_m1, eL_LO, eL_HI, eL_W, eL_add, eL_sub, eL_mul, eL_neg, eL_lt, eL_le, eL_eq, eL_remN, eL_mod0, ne_eq, Int64.not_lt, Int64.not_le] at c138)
                    (try simp (disch := omega) only [lg_cmp_ge, lg_cmp_le, lg_cmp_gt, lg_cmp_lt, lg_cmp_eq, eL_0, eL_1, eL_m1, eL_LO, eL_HI, eL_W, eL_add, eL_sub, eL_mul, eL_neg, eL_lt, eL_le, eL_eq, eL_remN, eL_mod0, ne_eq, Int64.not_lt, Int64.not_le] at c154)
                    (try simp (disch := omega) only [lg_cmp_ge, lg_cmp_le, lg_cmp_gt, lg_cmp_lt, lg_cmp_eq, eL_0, eL_1, eL_m1, eL_LO, eL_HI, eL_W, eL_add, eL_sub, eL_mul, eL_neg, eL_lt, eL_le, eL_eq, eL_remN, eL_mod0, ne_eq, Int64.not_lt, Int64.not_le] at c178)
                    refine ⟨rfl, rfl, sV p, sV (1, 0, 0), ?_⟩
                    unfold restS
                    rw [if_neg n1, if_neg (by omega)]
                    first
                      | (rw [if_pos (by omega), if_pos (by omega), mSpan_mk (by omega) (by omega) (by omega) (by omega)]; done)
                      | (rw [if_pos (by omega), if_neg (by omega), mSpan_mk (by omega) (by omega) (by omega) (by omega)]; done)
                      | (rw [if_neg (by omega), if_pos (by omega), mSpan_mk (by omega) (by omega) (by omega) (by omega)]; done)
                      | (rw [if_neg (by omega), if_neg (by omega), mSpan_mk (by omega) (by omega) (by omega) (by omega)]; done)
                  · refine gi_lconst (q := 182) (v := 0) C (dm_Re_remain 89 rfl) rfl (by decide) ?_
                    refine gi_goto (tgt := 196) C (dm_Re_remain 90 rfl) (by decide) ?_
                    refine gi_lconst (q := 197) (v := 1) C (dm_Re_remain 97 rfl) rfl (by decide) ?_
                    try rw [eL_0]
                    rw [eL_1]
                    refine gi_callv 3 (q := 200) C (dm_Re_remain 98 rfl) rfl my_Va_beSpan lk_Re_74 im_Va_beSpan rfl (c_Va_beSpan ao _ _ _ _ (by repeat (first | exact gi_up_self _ _ _ | assumption | rw [gi_up_ne (by omega)]))) (by repeat (first | exact gi_up_self _ _ _ | assumption | rw [gi_up_ne (by omega)])) rfl rfl ⟨(Nat.le_of_ble_eq_true rfl), (Nat.le_of_ble_eq_true rfl)⟩ (Nat.le_of_ble_eq_true rfl) ⟨(Nat.le_of_ble_eq_true rfl), (Nat.le_of_ble_eq_true rfl)⟩ (fun r197 n197 h197 e197 => ?_)
                    obtain ⟨rfl, rfl, rfl⟩ := e197
                    refine gi_vret C hr (dm_Re_remain 99 rfl) ?_
                    (try simp (disch := omega) only [lg_cmp_ge, lg_cmp_le, lg_cmp_gt, lg_cmp_lt, lg_cmp_eq, eL_0, eL_1, eL_m1, eL_LO, eL_HI, eL_W, eL_add, eL_sub, eL_mul, eL_neg, eL_lt, eL_le, eL_eq, eL_remN, eL_mod0, ne_eq, Int64.not_lt, Int64.not_le] at c57)
                    (try simp (disch := omega) only [lg_cmp_ge, lg_cmp_le, lg_cmp_gt, lg_cmp_lt, lg_cmp_eq, eL_0, eL_1, eL_m1, eL_LO, eL_HI, eL_W, eL_add, eL_sub, eL_mul, eL_neg, eL_lt, eL_le, eL_eq, eL_remN, eL_mod0, ne_eq, Int64.not_lt, Int64.not_le] at c87)
                    (try simp (disch := omega) only [lg_cmp_ge, lg_cmp_le, lg_cmp_gt, lg_cmp_lt, lg_cmp_eq, eL_0, eL_1, eL_m1, eL_LO, eL_HI, eL_W, eL_add, eL_sub, eL_mul, eL_neg, eL_lt, eL_le, eL_eq, eL_remN, eL_mod0, ne_eq, Int64.not_lt, Int64.not_le] at c138)
                    (try simp (disch := omega) only [lg_cmp_ge, lg_cmp_le, lg_cmp_gt, lg_cmp_lt, lg_cmp_eq, eL_0, eL_1, eL_m1, eL_LO, eL_HI, eL_W, eL_add, eL_sub, eL_mul, eL_neg, eL_lt, eL_le, eL_eq, eL_remN, eL_mod0, ne_eq, Int64.not_lt, Int64.not_le] at c154)
                    (try simp (disch := omega) only [lg_cmp_ge, lg_cmp_le, lg_cmp_gt, lg_cmp_lt, lg_cmp_eq, eL_0, eL_1, eL_m1, eL_LO, eL_HI, eL_W, eL_add, eL_sub, eL_mul, eL_neg, eL_lt, eL_le, eL_eq, eL_remN, eL_mod0, ne_eq, Int64.not_lt, Int64.not_le] at c178)
                    refine ⟨rfl, rfl, sV p, sV (1, 0, 0), ?_⟩
                    unfold restS
                    rw [if_neg n1, if_neg (by omega)]
                    first
                      | (rw [if_pos (by omega), if_pos (by omega), mSpan_mk (by omega) (by omega) (by omega) (by omega)]; done)
                      | (rw [if_pos (by omega), if_neg (by omega), mSpan_mk (by omega) (by omega) (by omega) (by omega)]; done)
                      | (rw [if_neg (by omega), if_pos (by omega), mSpan_mk (by omega) (by omega) (by omega) (by omega)]; done)
                      | (rw [if_neg (by omega), if_neg (by omega), mSpan_mk (by omega) (by omega) (by omega) (by omega)]; done)
                · refine gi_lconst (q := 158) (v := 0) C (dm_Re_remain 76 rfl) rfl (by decide) ?_
                  refine gi_goto (tgt := 172) C (dm_Re_remain 77 rfl) (by decide) ?_
                  refine gi_aload_n (q := 173) (i := 1) C (dm_Re_remain 84 rfl) rfl rfl rfl ?_
                  refine gi_get (q := 176) C (dm_Re_remain 85 rfl) rfl fl_Re_25 (by repeat (first | exact gi_up_self _ _ _ | assumption | rw [gi_up_ne (by omega)])) rfl ?_
                  refine gi_lconst (q := 177) (v := 0) C (dm_Re_remain 86 rfl) rfl (by decide) ?_
                  refine gi_lcmp (q := 178) C (dm_Re_remain 87 rfl) rfl ?_
                  refine gi_if_gt (q := 181) (tgt := 185) C (dm_Re_remain 88 rfl) rfl (by decide) (fun c178 => ?_) (fun c178 => ?_)
                  · refine gi_aload_n (q := 186) (i := 1) C (dm_Re_remain 91 rfl) rfl rfl rfl ?_
                    refine gi_get (q := 189) C (dm_Re_remain 92 rfl) rfl fl_Re_25 (by repeat (first | exact gi_up_self _ _ _ | assumption | rw [gi_up_ne (by omega)])) rfl ?_
                    refine gi_lload (q := 191) C (dm_Re_remain 93 rfl) rfl rfl ?_
                    refine gi_lconst (q := 192) (v := 1) C (dm_Re_remain 94 rfl) rfl (by decide) ?_
                    refine gi_lsub (q := 193) C (dm_Re_remain 95 rfl) rfl ?_
                    rw [eL_1, eL_sub]
                    refine gi_calls 2 (q := 196) C (dm_Re_remain 96 rfl) rfl my_Mt_min_1 lk_Re_94 sm_Mt_min_1 (c_Mt_min_1 x.2.1 (sizH y - 1) (by omega) (by omega) (by omega) (by omega)) rfl rfl ⟨(Nat.le_of_ble_eq_true rfl), (Nat.le_of_ble_eq_true rfl)⟩ (Nat.le_of_ble_eq_true rfl) ⟨(Nat.le_of_ble_eq_true rfl), (Nat.le_of_ble_eq_true rfl)⟩ (fun r193 n193 h193 e193 => ?_)
                    obtain ⟨rfl, rfl, rfl⟩ := e193
                    refine gi_lconst (q := 197) (v := 1) C (dm_Re_remain 97 rfl) rfl (by decide) ?_
                    try rw [eL_0]
                    rw [eL_1]
                    refine gi_callv 3 (q := 200) C (dm_Re_remain 98 rfl) rfl my_Va_beSpan lk_Re_74 im_Va_beSpan rfl (c_Va_beSpan ao _ _ _ _ (by repeat (first | exact gi_up_self _ _ _ | assumption | rw [gi_up_ne (by omega)]))) (by repeat (first | exact gi_up_self _ _ _ | assumption | rw [gi_up_ne (by omega)])) rfl rfl ⟨(Nat.le_of_ble_eq_true rfl), (Nat.le_of_ble_eq_true rfl)⟩ (Nat.le_of_ble_eq_true rfl) ⟨(Nat.le_of_ble_eq_true rfl), (Nat.le_of_ble_eq_true rfl)⟩ (fun r197 n197 h197 e197 => ?_)
                    obtain ⟨rfl, rfl, rfl⟩ := e197
                    refine gi_vret C hr (dm_Re_remain 99 rfl) ?_
                    (try simp (disch := omega) only [lg_cmp_ge, lg_cmp_le, lg_cmp_gt, lg_cmp_lt, lg_cmp_eq, eL_0, eL_1, eL_m1, eL_LO, eL_HI, eL_W, eL_add, eL_sub, eL_mul, eL_neg, eL_lt, eL_le, eL_eq, eL_remN, eL_mod0, ne_eq, Int64.not_lt, Int64.not_le] at c57)
                    (try simp (disch := omega) only [lg_cmp_ge, lg_cmp_le, lg_cmp_gt, lg_cmp_lt, lg_cmp_eq, eL_0, eL_1, eL_m1, eL_LO, eL_HI, eL_W, eL_add, eL_sub, eL_mul, eL_neg, eL_lt, eL_le, eL_eq, eL_remN, eL_mod0, ne_eq, Int64.not_lt, Int64.not_le] at c87)
                    (try simp (disch := omega) only [lg_cmp_ge, lg_cmp_le, lg_cmp_gt, lg_cmp_lt, lg_cmp_eq, eL_0, eL_1, eL_m1, eL_LO, eL_HI, eL_W, eL_add, eL_sub, eL_mul, eL_neg, eL_lt, eL_le, eL_eq, eL_remN, eL_mod0, ne_eq, Int64.not_lt, Int64.not_le] at c138)
                    (try simp (disch := omega) only [lg_cmp_ge, lg_cmp_le, lg_cmp_gt, lg_cmp_lt, lg_cmp_eq, eL_0, eL_1, eL_m1, eL_LO, eL_HI, eL_W, eL_add, eL_sub, eL_mul, eL_neg, eL_lt, eL_le, eL_eq, eL_remN, eL_mod0, ne_eq, Int64.not_lt, Int64.not_le] at c154)
                    (try simp (disch := omega) only [lg_cmp_ge, lg_cmp_le, lg_cmp_gt, lg_cmp_lt, lg_cmp_eq, eL_0, eL_1, eL_m1, eL_LO, eL_HI, eL_W, eL_add, eL_sub, eL_mul, eL_neg, eL_lt, eL_le, eL_eq, eL_remN, eL_mod0, ne_eq, Int64.not_lt, Int64.not_le] at c178)
                    refine ⟨rfl, rfl, sV p, sV (1, 0, 0), ?_⟩
                    unfold restS
                    rw [if_neg n1, if_neg (by omega)]
                    first
                      | (rw [if_pos (by omega), if_pos (by omega), mSpan_mk (by omega) (by omega) (by omega) (by omega)]; done)
                      | (rw [if_pos (by omega), if_neg (by omega), mSpan_mk (by omega) (by omega) (by omega) (by omega)]; done)
                      | (rw [if_neg (by omega), if_pos (by omega), mSpan_mk (by omega) (by omega) (by omega) (by omega)]; done)
                      | (rw [if_neg (by omega), if_neg (by omega), mSpan_mk (by omega) (by omega) (by omega) (by omega)]; done)
                  · refine gi_lconst (q := 182) (v := 0) C (dm_Re_remain 89 rfl) rfl (by decide) ?_
                    refine gi_goto (tgt := 196) C (dm_Re_remain 90 rfl) (by decide) ?_
                    refine gi_lconst (q := 197) (v := 1) C (dm_Re_remain 97 rfl) rfl (by decide) ?_
                    try rw [eL_0]
                    rw [eL_1]
                    refine gi_callv 3 (q := 200) C (dm_Re_remain 98 rfl) rfl my_Va_beSpan lk_Re_74 im_Va_beSpan rfl (c_Va_beSpan ao _ _ _ _ (by repeat (first | exact gi_up_self _ _ _ | assumption | rw [gi_up_ne (by omega)]))) (by repeat (first | exact gi_up_self _ _ _ | assumption | rw [gi_up_ne (by omega)])) rfl rfl ⟨(Nat.le_of_ble_eq_true rfl), (Nat.le_of_ble_eq_true rfl)⟩ (Nat.le_of_ble_eq_true rfl) ⟨(Nat.le_of_ble_eq_true rfl), (Nat.le_of_ble_eq_true rfl)⟩ (fun r197 n197 h197 e197 => ?_)
                    obtain ⟨rfl, rfl, rfl⟩ := e197
                    refine gi_vret C hr (dm_Re_remain 99 rfl) ?_
                    (try simp (disch := omega) only [lg_cmp_ge, lg_cmp_le, lg_cmp_gt, lg_cmp_lt, lg_cmp_eq, eL_0, eL_1, eL_m1, eL_LO, eL_HI, eL_W, eL_add, eL_sub, eL_mul, eL_neg, eL_lt, eL_le, eL_eq, eL_remN, eL_mod0, ne_eq, Int64.not_lt, Int64.not_le] at c57)
                    (try simp (disch := omega) only [lg_cmp_ge, lg_cmp_le, lg_cmp_gt, lg_cmp_lt, lg_cmp_eq, eL_0, eL_1, eL_m1, eL_LO, eL_HI, eL_W, eL_add, eL_sub, eL_mul, eL_neg, eL_lt, eL_le, eL_eq, eL_remN, eL_mod0, ne_eq, Int64.not_lt, Int64.not_le] at c87)
                    (try simp (disch := omega) only [lg_cmp_ge, lg_cmp_le, lg_cmp_gt, lg_cmp_lt, lg_cmp_eq, eL_0, eL_1, eL_m1, eL_LO, eL_HI, eL_W, eL_add, eL_sub, eL_mul, eL_neg, eL_lt, eL_le, eL_eq, eL_remN, eL_mod0, ne_eq, Int64.not_lt, Int64.not_le] at c138)
                    (try simp (disch := omega) only [lg_cmp_ge, lg_cmp_le, lg_cmp_gt, lg_cmp_lt, lg_cmp_eq, eL_0, eL_1, eL_m1, eL_LO, eL_HI, eL_W, eL_add, eL_sub, eL_mul, eL_neg, eL_lt, eL_le, eL_eq, eL_remN, eL_mod0, ne_eq, Int64.not_lt, Int64.not_le] at c154)
                    (try simp (disch := omega) only [lg_cmp_ge, lg_cmp_le, lg_cmp_gt, lg_cmp_lt, lg_cmp_eq, eL_0, eL_1, eL_m1, eL_LO, eL_HI, eL_W, eL_add, eL_sub, eL_mul, eL_neg, eL_lt, eL_le, eL_eq, eL_remN, eL_mod0, ne_eq, Int64.not_lt, Int64.not_le] at c178)
                    refine ⟨rfl, rfl, sV p, sV (1, 0, 0), ?_⟩
                    unfold restS
                    rw [if_neg n1, if_neg (by omega)]
                    first
                      | (rw [if_pos (by omega), if_pos (by omega), mSpan_mk (by omega) (by omega) (by omega) (by omega)]; done)
                      | (rw [if_pos (by omega), if_neg (by omega), mSpan_mk (by omega) (by omega) (by omega) (by omega)]; done)
                      | (rw [if_neg (by omega), if_pos (by omega), mSpan_mk (by omega) (by omega) (by omega) (by omega)]; done)
                      | (rw [if_neg (by omega), if_neg (by omega), mSpan_mk (by omega) (by omega) (by omega) (by omega)]; done)
              · refine gi_aload_n (q := 142) (i := 3) C (dm_Re_remain 66 rfl) rfl rfl rfl ?_
                refine gi_aload_n (q := 143) (i := 1) C (dm_Re_remain 67 rfl) rfl rfl rfl ?_
                refine gi_callv 1 (q := 146) C (dm_Re_remain 68 rfl) rfl my_Va_copy lk_Re_97 im_Va_copy rfl (c_Va_copy ao ax _ _ (by repeat (first | exact gi_up_self _ _ _ | assumption | rw [gi_up_ne (by omega)])) (by repeat (first | exact gi_up_self _ _ _ | assumption | rw [gi_up_ne (by omega)])) hxo (wf_s x)) (by repeat (first | exact gi_up_self _ _ _ | assumption | rw [gi_up_ne (by omega)])) rfl rfl ⟨(Nat.le_of_ble_eq_true rfl), (Nat.le_of_ble_eq_true rfl)⟩ (Nat.le_of_ble_eq_true rfl) ⟨(Nat.le_of_ble_eq_true rfl), (Nat.le_of_ble_eq_true rfl)⟩ (fun r143 n143 h143 e143 => ?_)
                obtain ⟨rfl, rfl, rfl⟩ := e143
                refine gi_vret C hr (dm_Re_remain 69 rfl) ?_
                (try simp (disch := omega) only [lg_cmp_ge, lg_cmp_le, lg_cmp_gt, lg_cmp_lt, lg_cmp_eq, eL_0, eL_1, eL_m1, eL_LO, eL_HI, eL_W, eL_add, eL_sub, eL_mul, eL_neg, eL_lt, eL_le, eL_eq, eL_remN, eL_mod0, ne_eq, Int64.not_lt, Int64.not_le] at c57)
                (try simp (disch := omega) only [lg_cmp_ge, lg_cmp_le, lg_cmp_gt, lg_cmp_lt, lg_cmp_eq, eL_0, eL_1, eL_m1, eL_LO, eL_HI, eL_W, eL_add, eL_sub, eL_mul, eL_neg, eL_lt, eL_le, eL_eq, eL_remN, eL_mod0, ne_eq, Int64.not_lt, Int64.not_le] at c87)
                (try simp (disch := omega) only [lg_cmp_ge, lg_cmp_le, lg_cmp_gt, lg_cmp_lt, lg_cmp_eq, eL_0, eL_1, eL_m1, eL_LO, eL_HI, eL_W, eL_add, eL_sub, eL_mul, eL_neg, eL_lt, eL_le, eL_eq, eL_remN, eL_mod0, ne_eq, Int64.not_lt, Int64.not_le] at c138)
                refine ⟨rfl, rfl, sV p, sV (1, 0, 0), ?_⟩
                unfold restS
                rw [if_neg n1, if_pos (by omega)]
            · exact absurd c87 (by decide)
        · have hN : min (-p.2.1) q.1 = sizL y := by unfold sizL; rw [eN, eP]
          have hM : max (-p.1) q.2.1 = sizH y := by unfold sizH; rw [eN, eP]
          obtain ⟨a1, a2, a3, -⟩ := (nb p eN).1
          have a0 := (nb p eN).2
          obtain ⟨b1, b2, b3, -⟩ := (pb q eP).1
          have b0 := (pb q eP).2
          rw [wS_s, wS_s]
          rw [eL_W, eL_0]
          refine gi_aload_n (q := 51) (i := 0) C (dm_Re_remain 26 rfl) rfl rfl rfl ?_
          refine gi_get (q := 54) C (dm_Re_remain 27 rfl) rfl fl_Re_12 (by repeat (first | exact gi_up_self _ _ _ | assumption | rw [gi_up_ne (by omega)])) rfl ?_
          refine gi_callv 0 (q := 57) C (dm_Re_remain 28 rfl) rfl my_Va_isNothing lk_Re_120 im_Va_isNothing rfl (c_Va_isNothing (r + 1) _ (by repeat (first | exact gi_up_self _ _ _ | assumption | rw [gi_up_ne (by omega)]))) (by repeat (first | exact gi_up_self _ _ _ | assumption | rw [gi_up_ne (by omega)])) rfl rfl ⟨(Nat.le_of_ble_eq_true rfl), (Nat.le_of_ble_eq_true rfl)⟩ (Nat.le_of_ble_eq_true rfl) ⟨(Nat.le_of_ble_eq_true rfl), (Nat.le_of_ble_eq_true rfl)⟩ (fun r54 n54 h54 e54 => ?_)
          obtain ⟨rfl, rfl, rfl⟩ := e54
          refine gi_if_ne (q := 60) (tgt := 80) C (dm_Re_remain 29 rfl) rfl (by decide) (fun c57 => ?_) (fun c57 => ?_)
          · exact absurd ((no_iff (s := eL 0) (by omega) (by omega) (by omega) (by omega)).mpr (show ¬ p.2.1 < p.1 by omega)) c57
          · refine gi_aload_n (q := 61) (i := 0) C (dm_Re_remain 30 rfl) rfl rfl rfl ?_
            refine gi_get (q := 64) C (dm_Re_remain 31 rfl) rfl fl_Re_12 (by repeat (first | exact gi_up_self _ _ _ | assumption | rw [gi_up_ne (by omega)])) rfl ?_
            refine gi_get (q := 67) C (dm_Re_remain 32 rfl) rfl fl_Re_25 (by repeat (first | exact gi_up_self _ _ _ | assumption | rw [gi_up_ne (by omega)])) rfl ?_
            refine gi_lneg (q := 68) C (dm_Re_remain 33 rfl) rfl ?_
            rw [eL_neg]
            refine gi_lstore (q := 70) C (dm_Re_remain 34 rfl) rfl (Nat.le_of_ble_eq_true rfl) ?_
            refine gi_aload_n (q := 71) (i := 0) C (dm_Re_remain 35 rfl) rfl rfl rfl ?_
            refine gi_get (q := 74) C (dm_Re_remain 36 rfl) rfl fl_Re_12 (by repeat (first | exact gi_up_self _ _ _ | assumption | rw [gi_up_ne (by omega)])) rfl ?_
            refine gi_get (q := 77) C (dm_Re_remain 37 rfl) rfl fl_Re_21 (by repeat (first | exact gi_up_self _ _ _ | assumption | rw [gi_up_ne (by omega)])) rfl ?_
            refine gi_lneg (q := 78) C (dm_Re_remain 38 rfl) rfl ?_
            rw [eL_neg]
            refine gi_lstore (q := 80) C (dm_Re_remain 39 rfl) rfl (Nat.le_of_ble_eq_true rfl) ?_
            refine gi_aload_n (q := 81) (i := 0) C (dm_Re_remain 40 rfl) rfl rfl rfl ?_
            refine gi_get (q := 84) C (dm_Re_remain 41 rfl) rfl fl_Re_18 (by repeat (first | exact gi_up_self _ _ _ | assumption | rw [gi_up_ne (by omega)])) rfl ?_
            refine gi_callv 0 (q := 87) C (dm_Re_remain 42 rfl) rfl my_Va_isNothing lk_Re_120 im_Va_isNothing rfl (c_Va_isNothing (r + 2) _ (by repeat (first | exact gi_up_self _ _ _ | assumption | rw [gi_up_ne (by omega)]))) (by repeat (first | exact gi_up_self _ _ _ | assumption | rw [gi_up_ne (by omega)])) rfl rfl ⟨(Nat.le_of_ble_eq_true rfl), (Nat.le_of_ble_eq_true rfl)⟩ (Nat.le_of_ble_eq_true rfl) ⟨(Nat.le_of_ble_eq_true rfl), (Nat.le_of_ble_eq_true rfl)⟩ (fun r84 n84 h84 e84 => ?_)
            obtain ⟨rfl, rfl, rfl⟩ := e84
            refine gi_if_ne (q := 90) (tgt := 118) C (dm_Re_remain 43 rfl) rfl (by decide) (fun c87 => ?_) (fun c87 => ?_)
            · exact absurd ((no_iff (s := eL 0) (by omega) (by omega) (by omega) (by omega)).mpr (show ¬ q.2.1 < q.1 by omega)) c87
            · refine gi_lload (q := 92) C (dm_Re_remain 44 rfl) rfl rfl ?_
              refine gi_aload_n (q := 93) (i := 0) C (dm_Re_remain 45 rfl) rfl rfl rfl ?_
              refine gi_get (q := 96) C (dm_Re_remain 46 rfl) rfl fl_Re_18 (by repeat (first | exact gi_up_self _ _ _ | assumption | rw [gi_up_ne (by omega)])) rfl ?_
              refine gi_get (q := 99) C (dm_Re_remain 47 rfl) rfl fl_Re_21 (by repeat (first | exact gi_up_self _ _ _ | assumption | rw [gi_up_ne (by omega)])) rfl ?_
              refine gi_calls 2 (q := 102) C (dm_Re_remain 48 rfl) rfl my_Mt_min_1 lk_Re_94 sm_Mt_min_1 (c_Mt_min_1 (-p.2.1) q.1 (by omega) (by omega) (by omega) (by omega)) rfl rfl ⟨(Nat.le_of_ble_eq_true rfl), (Nat.le_of_ble_eq_true rfl)⟩ (Nat.le_of_ble_eq_true rfl) ⟨(Nat.le_of_ble_eq_true rfl), (Nat.le_of_ble_eq_true rfl)⟩ (fun r99 n99 h99 e99 => ?_)
              obtain ⟨rfl, rfl, rfl⟩ := e99
              refine gi_lstore (q := 104) C (dm_Re_remain 49 rfl) rfl (Nat.le_of_ble_eq_true rfl) ?_
              refine gi_lload (q := 106) C (dm_Re_remain 50 rfl) rfl rfl ?_
              refine gi_aload_n (q := 107) (i := 0) C (dm_Re_remain 51 rfl) rfl rfl rfl ?_
              refine gi_get (q := 110) C (dm_Re_remain 52 rfl) rfl fl_Re_18 (by repeat (first | exact gi_up_self _ _ _ | assumption | rw [gi_up_ne (by omega)])) rfl ?_
              refine gi_get (q := 113) C (dm_Re_remain 53 rfl) rfl fl_Re_25 (by repeat (first | exact gi_up_self _ _ _ | assumption | rw [gi_up_ne (by omega)])) rfl ?_
              refine gi_calls 2 (q := 116) C (dm_Re_remain 54 rfl) rfl my_Mt_max_0 lk_Re_80 sm_Mt_max_0 (c_Mt_max_0 (-p.1) q.2.1 (by omega) (by omega) (by omega) (by omega)) rfl rfl ⟨(Nat.le_of_ble_eq_true rfl), (Nat.le_of_ble_eq_true rfl)⟩ (Nat.le_of_ble_eq_true rfl) ⟨(Nat.le_of_ble_eq_true rfl), (Nat.le_of_ble_eq_true rfl)⟩ (fun r113 n113 h113 e113 => ?_)
              obtain ⟨rfl, rfl, rfl⟩ := e113
              refine gi_lstore (q := 118) C (dm_Re_remain 55 rfl) rfl (Nat.le_of_ble_eq_true rfl) ?_
              rw [show eL (min (-p.2.1) q.1) = eL (sizL y) from congrArg eL hN, show eL (max (-p.1) q.2.1) = eL (sizH y) from congrArg eL hM]
              refine gi_aload_n (q := 119) (i := 1) C (dm_Re_remain 56 rfl) rfl rfl rfl ?_
              refine gi_get (q := 122) C (dm_Re_remain 57 rfl) rfl fl_Re_21 (by repeat (first | exact gi_up_self _ _ _ | assumption | rw [gi_up_ne (by omega)])) rfl ?_
              refine gi_calls 1 (q := 125) C (dm_Re_remain 58 rfl) rfl my_Mt_abs lk_Re_126 sm_Mt_abs (c_Mt_abs x.1 (by omega) (by omega)) rfl rfl ⟨(Nat.le_of_ble_eq_true rfl), (Nat.le_of_ble_eq_true rfl)⟩ (Nat.le_of_ble_eq_true rfl) ⟨(Nat.le_of_ble_eq_true rfl), (Nat.le_of_ble_eq_true rfl)⟩ (fun r122 n122 h122 e122 => ?_)
              obtain ⟨rfl, rfl, rfl⟩ := e122
              refine gi_aload_n (q := 126) (i := 1) C (dm_Re_remain 59 rfl) rfl rfl rfl ?_
              refine gi_get (q := 129) C (dm_Re_remain 60 rfl) rfl fl_Re_25 (by repeat (first | exact gi_up_self _ _ _ | assumption | rw [gi_up_ne (by omega)])) rfl ?_
              refine gi_calls 1 (q := 132) C (dm_Re_remain 61 rfl) rfl my_Mt_abs lk_Re_126 sm_Mt_abs (c_Mt_abs x.2.1 (by omega) (by omega)) rfl rfl ⟨(Nat.le_of_ble_eq_true rfl), (Nat.le_of_ble_eq_true rfl)⟩ (Nat.le_of_ble_eq_true rfl) ⟨(Nat.le_of_ble_eq_true rfl), (Nat.le_of_ble_eq_true rfl)⟩ (fun r129 n129 h129 e129 => ?_)
              obtain ⟨rfl, rfl, rfl⟩ := e129
              refine gi_calls 2 (q := 135) C (dm_Re_remain 62 rfl) rfl my_Mt_max_0 lk_Re_80 sm_Mt_max_0 (c_Mt_max_0 (x.1.natAbs : Int) (x.2.1.natAbs : Int) (by omega) (by omega) (by omega) (by omega)) rfl rfl ⟨(Nat.le_of_ble_eq_true rfl), (Nat.le_of_ble_eq_true rfl)⟩ (Nat.le_of_ble_eq_true rfl) ⟨(Nat.le_of_ble_eq_true rfl), (Nat.le_of_ble_eq_true rfl)⟩ (fun r132 n132 h132 e132 => ?_)
              obtain ⟨rfl, rfl, rfl⟩ := e132
              refine gi_lload (q := 137) C (dm_Re_remain 63 rfl) rfl rfl ?_
              refine gi_lcmp (q := 138) C (dm_Re_remain 64 rfl) rfl ?_
              refine gi_if_ge (q := 141) (tgt := 147) C (dm_Re_remain 65 rfl) rfl (by decide) (fun c138 => ?_) (fun c138 => ?_)
              · refine gi_aload_n (q := 148) (i := 3) C (dm_Re_remain 70 rfl) rfl rfl rfl ?_
                refine gi_aload_n (q := 149) (i := 1) C (dm_Re_remain 71 rfl) rfl rfl rfl ?_
                refine gi_get (q := 152) C (dm_Re_remain 72 rfl) rfl fl_Re_21 (by repeat (first | exact gi_up_self _ _ _ | assumption | rw [gi_up_ne (by omega)])) rfl ?_
                refine gi_lconst (q := 153) (v := 0) C (dm_Re_remain 73 rfl) rfl (by decide) ?_
                refine gi_lcmp (q := 154) C (dm_Re_remain 74 rfl) rfl ?_
                refine gi_if_lt (q := 157) (tgt := 161) C (dm_Re_remain 75 rfl) rfl (by decide) (fun c154 => ?_) (fun c154 => ?_)
                · refine gi_aload_n (q := 162) (i := 1) C (dm_Re_remain 78 rfl) rfl rfl rfl ?_
                  refine gi_get (q := 165) C (dm_Re_remain 79 rfl) rfl fl_Re_21 (by repeat (first | exact gi_up_self _ _ _ | assumption | rw [gi_up_ne (by omega)])) rfl ?_
                  refine gi_lconst (q := 166) (v := 1) C (dm_Re_remain 80 rfl) rfl (by decide) ?_
                  refine gi_lload (q := 168) C (dm_Re_remain 81 rfl) rfl rfl ?_
                  refine gi_lsub (q := 169) C (dm_Re_remain 82 rfl) rfl ?_
                  rw [eL_1, eL_sub]
                  refine gi_calls 2 (q := 172) C (dm_Re_remain 83 rfl) rfl my_Mt_max_0 lk_Re_80 sm_Mt_max_0 (c_Mt_max_0 x.1 (1 - sizH y) (by omega) (by omega) (by omega) (by omega)) rfl rfl ⟨(Nat.le_of_ble_eq_true rfl), (Nat.le_of_ble_eq_true rfl)⟩ (Nat.le_of_ble_eq_true rfl) ⟨(Nat.le_of_ble_eq_true rfl), (Nat.le_of_ble_eq_true rfl)⟩ (fun r169 n169 h169 e169 => ?_)
                  obtain ⟨rfl, rfl, rfl⟩ := e169
                  refine gi_aload_n (q := 173) (i := 1) C (dm_Re_remain 84 rfl) rfl rfl rfl ?_
                  refine gi_get (q := 176) C (dm_Re_remain 85 rfl) rfl fl_Re_25 (by repeat (first | exact gi_up_self _ _ _ | assumption | rw [gi_up_ne (by omega)])) rfl ?_
                  refine gi_lconst (q := 177) (v := 0) C (dm_Re_remain 86 rfl) rfl (by decide) ?_
                  refine gi_lcmp (q := 178) C (dm_Re_remain 87 rfl) rfl ?_
                  refine gi_if_gt (q := 181) (tgt := 185) C (dm_Re_remain 88 rfl) rfl (by decide) (fun c178 => ?_) (fun c178 => ?_)
                  · refine gi_aload_n (q := 186) (i := 1) C (dm_Re_remain 91 rfl) rfl rfl rfl ?_
                    refine gi_get (q := 189) C (dm_Re_remain 92 rfl) rfl fl_Re_25 (by repeat (first | exact gi_up_self _ _ _ | assumption | rw [gi_up_ne (by omega)])) rfl ?_
                    refine gi_lload (q := 191) C (dm_Re_remain 93 rfl) rfl rfl ?_
                    refine gi_lconst (q := 192) (v := 1) C (dm_Re_remain 94 rfl) rfl (by decide) ?_
                    refine gi_lsub (q := 193) C (dm_Re_remain 95 rfl) rfl ?_
                    rw [eL_1, eL_sub]
                    refine gi_calls 2 (q := 196) C (dm_Re_remain 96 rfl) rfl my_Mt_min_1 lk_Re_94 sm_Mt_min_1 (c_Mt_min_1 x.2.1 (sizH y - 1) (by omega) (by omega) (by omega) (by omega)) rfl rfl ⟨(Nat.le_of_ble_eq_true rfl), (Nat.le_of_ble_eq_true rfl)⟩ (Nat.le_of_ble_eq_true rfl) ⟨(Nat.le_of_ble_eq_true rfl), (Nat.le_of_ble_eq_true rfl)⟩ (fun r193 n193 h193 e193 => ?_)
                    obtain ⟨rfl, rfl, rfl⟩ := e193
                    refine gi_lconst (q := 197) (v := 1) C (dm_Re_remain 97 rfl) rfl (by decide) ?_
                    try rw [eL_0]
                    rw [eL_1]
                    refine gi_callv 3 (q := 200) C (dm_Re_remain 98 rfl) rfl my_Va_beSpan lk_Re_74 im_Va_beSpan rfl (c_Va_beSpan ao _ _ _ _ (by repeat (first | exact gi_up_self _ _ _ | assumption | rw [gi_up_ne (by omega)]))) (by repeat (first | exact gi_up_self _ _ _ | assumption | rw [gi_up_ne (by omega)])) rfl rfl ⟨(Nat.le_of_ble_eq_true rfl), (Nat.le_of_ble_eq_true rfl)⟩ (Nat.le_of_ble_eq_true rfl) ⟨(Nat.le_of_ble_eq_true rfl), (Nat.le_of_ble_eq_true rfl)⟩ (fun r197 n197 h197 e197 => ?_)
                    obtain ⟨rfl, rfl, rfl⟩ := e197
                    refine gi_vret C hr (dm_Re_remain 99 rfl) ?_
                    (try simp (disch := omega) only [lg_cmp_ge, lg_cmp_le, lg_cmp_gt, lg_cmp_lt, lg_cmp_eq, eL_0, eL_1, eL_m1, eL_LO, eL_HI, eL_W, eL_add, eL_sub, eL_mul, eL_neg, eL_lt, eL_le, eL_eq, eL_remN, eL_mod0, ne_eq, Int64.not_lt, Int64.not_le] at c57)
                    (try simp (disch := omega) only [lg_cmp_ge, lg_cmp_le, lg_cmp_gt, lg_cmp_lt, lg_cmp_eq, eL_0, eL_1, eL_m1, eL_LO, eL_HI, eL_W, eL_add, eL_sub, eL_mul, eL_neg, eL_lt, eL_le, eL_eq, eL_remN, eL_mod0, ne_eq, Int64.not_lt, Int64.not_le] at c87)
                    (try simp (disch := omega) only [lg_cmp_ge, lg_cmp_le, lg_cmp_gt, lg_cmp_lt, lg_cmp_eq, eL_0, eL_1, eL_m1, eL_LO, eL_HI, eL_W, eL_add, eL_sub, eL_mul, eL_neg, eL_lt, eL_le, eL_eq, eL_remN, eL_mod0, ne_eq, Int64.not_lt, Int64.not_le] at c138)
                    (try simp (disch := omega) only [lg_cmp_ge, lg_cmp_le, lg_cmp_gt, lg_cmp_lt, lg_cmp_eq, eL_0, eL_1, eL_m1, eL_LO, eL_HI, eL_W, eL_add, eL_sub, eL_mul, eL_neg, eL_lt, eL_le, eL_eq, eL_remN, eL_mod0, ne_eq, Int64.not_lt, Int64.not_le] at c154)
                    (try simp (disch := omega) only [lg_cmp_ge, lg_cmp_le, lg_cmp_gt, lg_cmp_lt, lg_cmp_eq, eL_0, eL_1, eL_m1, eL_LO, eL_HI, eL_W, eL_add, eL_sub, eL_mul, eL_neg, eL_lt, eL_le, eL_eq, eL_remN, eL_mod0, ne_eq, Int64.not_lt, Int64.not_le] at c178)
                    refine ⟨rfl, rfl, sV p, sV q, ?_⟩
                    unfold restS
                    rw [if_neg n1, if_neg (by omega)]
                    first
                      | (rw [if_pos (by omega), if_pos (by omega), mSpan_mk (by omega) (by omega) (by omega) (by omega)]; done)
                      | (rw [if_pos (by omega), if_neg (by omega), mSpan_mk (by omega) (by omega) (by omega) (by omega)]; done)
                      | (rw [if_neg (by omega), if_pos (by omega), mSpan_mk (by omega) (by omega) (by omega) (by omega)]; done)
                      | (rw [if_neg (by omega), if_neg (by omega), mSpan_mk (by omega) (by omega) (by omega) (by omega)]; done)
                  · refine gi_lconst (q := 182) (v := 0) C (dm_Re_remain 89 rfl) rfl (by decide) ?_
                    refine gi_goto (tgt := 196) C (dm_Re_remain 90 rfl) (by decide) ?_
                    refine gi_lconst (q := 197) (v := 1) C (dm_Re_remain 97 rfl) rfl (by decide) ?_
                    try rw [eL_0]
                    rw [eL_1]
                    refine gi_callv 3 (q := 200) C (dm_Re_remain 98 rfl) rfl my_Va_beSpan lk_Re_74 im_Va_beSpan rfl (c_Va_beSpan ao _ _ _ _ (by repeat (first | exact gi_up_self _ _ _ | assumption | rw [gi_up_ne (by omega)]))) (by repeat (first | exact gi_up_self _ _ _ | assumption | rw [gi_up_ne (by omega)])) rfl rfl ⟨(Nat.le_of_ble_eq_true rfl), (Nat.le_of_ble_eq_true rfl)⟩ (Nat.le_of_ble_eq_true rfl) ⟨(Nat.le_of_ble_eq_true rfl), (Nat.le_of_ble_eq_true rfl)⟩ (fun r197 n197 h197 e197 => ?_)
                    obtain ⟨rfl, rfl, rfl⟩ := e197
                    refine gi_vret C hr (dm_Re_remain 99 rfl) ?_
                    (try simp (disch := omega) only [lg_cmp_ge, lg_cmp_le, lg_cmp_gt, lg_cmp_lt, lg_cmp_eq, eL_0, eL_1, eL_m1, eL_LO, eL_HI, eL_W, eL_add, eL_sub, eL_mul, eL_neg, eL_lt, eL_le, eL_eq, eL_remN, eL_mod0, ne_eq, Int64.not_lt, Int64.not_le] at c57)
                    (try simp (disch := omega) only [lg_cmp_ge, lg_cmp_le, lg_cmp_gt, lg_cmp_lt, lg_cmp_eq, eL_0, eL_1, eL_m1, eL_LO, eL_HI, eL_W, eL_add, eL_sub, eL_mul, eL_neg, eL_lt, eL_le, eL_eq, eL_remN, eL_mod0, ne_eq, Int64.not_lt, Int64.not_le] at c87)
                    (try simp (disch := omega) only [lg_cmp_ge, lg_cmp_le, lg_cmp_gt, lg_cmp_lt, lg_cmp_eq, eL_0, eL_1, eL_m1, eL_LO, eL_HI, eL_W, eL_add, eL_sub, eL_mul, eL_neg, eL_lt, eL_le, eL_eq, eL_remN, eL_mod0, ne_eq, Int64.not_lt, Int64.not_le] at c138)
                    (try simp (disch := omega) only [lg_cmp_ge, lg_cmp_le, lg_cmp_gt, lg_cmp_lt, lg_cmp_eq, eL_0, eL_1, eL_m1, eL_LO, eL_HI, eL_W, eL_add, eL_sub, eL_mul, eL_neg, eL_lt, eL_le, eL_eq, eL_remN, eL_mod0, ne_eq, Int64.not_lt, Int64.not_le] at c154)
                    (try simp (disch := omega) only [lg_cmp_ge, lg_cmp_le, lg_cmp_gt, lg_cmp_lt, lg_cmp_eq, eL_0, eL_1, eL_m1, eL_LO, eL_HI, eL_W, eL_add, eL_sub, eL_mul, eL_neg, eL_lt, eL_le, eL_eq, eL_remN, eL_mod0, ne_eq, Int64.not_lt, Int64.not_le] at c178)
                    refine ⟨rfl, rfl, sV p, sV q, ?_⟩
                    unfold restS
                    rw [if_neg n1, if_neg (by omega)]
                    first
                      | (rw [if_pos (by omega), if_pos (by omega), mSpan_mk (by omega) (by omega) (by omega) (by omega)]; done)
                      | (rw [if_pos (by omega), if_neg (by omega), mSpan_mk (by omega) (by omega) (by omega) (by omega)]; done)
                      | (rw [if_neg (by omega), if_pos (by omega), mSpan_mk (by omega) (by omega) (by omega) (by omega)]; done)
                      | (rw [if_neg (by omega), if_neg (by omega), mSpan_mk (by omega) (by omega) (by omega) (by omega)]; done)
                · refine gi_lconst (q := 158) (v := 0) C (dm_Re_remain 76 rfl) rfl (by decide) ?_
                  refine gi_goto (tgt := 172) C (dm_Re_remain 77 rfl) (by decide) ?_
                  refine gi_aload_n (q := 173) (i := 1) C (dm_Re_remain 84 rfl) rfl rfl rfl ?_
                  refine gi_get (q := 176) C (dm_Re_remain 85 rfl) rfl fl_Re_25 (by repeat (first | exact gi_up_self _ _ _ | assumption | rw [gi_up_ne (by omega)])) rfl ?_
                  refine gi_lconst (q := 177) (v := 0) C (dm_Re_remain 86 rfl) rfl (by decide) ?_
                  refine gi_lcmp (q := 178) C (dm_Re_remain 87 rfl) rfl ?_
                  refine gi_if_gt (q := 181) (tgt := 185) C (dm_Re_remain 88 rfl) rfl (by decide) (fun c178 => ?_) (fun c178 => ?_)
                  · refine gi_aload_n (q := 186) (i := 1) C (dm_Re_remain 91 rfl) rfl rfl rfl ?_
                    refine gi_get (q := 189) C (dm_Re_remain 92 rfl) rfl fl_Re_25 (by repeat (first | exact gi_up_self _ _ _ | assumption | rw [gi_up_ne (by omega)])) rfl ?_
                    refine gi_lload (q := 191) C (dm_Re_remain 93 rfl) rfl rfl ?_
                    refine gi_lconst (q := 192) (v := 1) C (dm_Re_remain 94 rfl) rfl (by decide) ?_
                    refine gi_lsub (q := 193) C (dm_Re_remain 95 rfl) rfl ?_
                    rw [eL_1, eL_sub]
                    refine gi_calls 2 (q := 196) C (dm_Re_remain 96 rfl) rfl my_Mt_min_1 lk_Re_94 sm_Mt_min_1 (c_Mt_min_1 x.2.1 (sizH y - 1) (by omega) (by omega) (by omega) (by omega)) rfl rfl ⟨(Nat.le_of_ble_eq_true rfl), (Nat.le_of_ble_eq_true rfl)⟩ (Nat.le_of_ble_eq_true rfl) ⟨(Nat.le_of_ble_eq_true rfl), (Nat.le_of_ble_eq_true rfl)⟩ (fun r193 n193 h193 e193 => ?_)
                    obtain ⟨rfl, rfl, rfl⟩ := e193
                    refine gi_lconst (q := 197) (v := 1) C (dm_Re_remain 97 rfl) rfl (by decide) ?_
                    try rw [eL_0]
                    rw [eL_1]
                    refine gi_callv 3 (q := 200) C (dm_Re_remain 98 rfl) rfl my_Va_beSpan lk_Re_74 im_Va_beSpan rfl (c_Va_beSpan ao _ _ _ _ (by repeat (first | exact gi_up_self _ _ _ | assumption | rw [gi_up_ne (by omega)]))) (by repeat (first | exact gi_up_self _ _ _ | assumption | rw [gi_up_ne (by omega)])) rfl rfl ⟨(Nat.le_of_ble_eq_true rfl), (Nat.le_of_ble_eq_true rfl)⟩ (Nat.le_of_ble_eq_true rfl) ⟨(Nat.le_of_ble_eq_true rfl), (Nat.le_of_ble_eq_true rfl)⟩ (fun r197 n197 h197 e197 => ?_)
                    obtain ⟨rfl, rfl, rfl⟩ := e197
                    refine gi_vret C hr (dm_Re_remain 99 rfl) ?_
                    (try simp (disch := omega) only [lg_cmp_ge, lg_cmp_le, lg_cmp_gt, lg_cmp_lt, lg_cmp_eq, eL_0, eL_1, eL_m1, eL_LO, eL_HI, eL_W, eL_add, eL_sub, eL_mul, eL_neg, eL_lt, eL_le, eL_eq, eL_remN, eL_mod0, ne_eq, Int64.not_lt, Int64.not_le] at c57)
                    (try simp (disch := omega) only [lg_cmp_ge, lg_cmp_le, lg_cmp_gt, lg_cmp_lt, lg_cmp_eq, eL_0, eL_1, eL_m1, eL_LO, eL_HI, eL_W, eL_add, eL_sub, eL_mul, eL_neg, eL_lt, eL_le, eL_eq, eL_remN, eL_mod0, ne_eq, Int64.not_lt, Int64.not_le] at c87)
                    (try simp (disch := omega) only [lg_cmp_ge, lg_cmp_le, lg_cmp_gt, lg_cmp_lt, lg_cmp_eq, eL_0, eL_1, eL_m1, eL_LO, eL_HI, eL_W, eL_add, eL_sub, eL_mul, eL_neg, eL_lt, eL_le, eL_eq, eL_remN, eL_mod0, ne_eq, Int64.not_lt, Int64.not_le] at c138)
                    (try simp (disch := omega) only [lg_cmp_ge, lg_cmp_le, lg_cmp_gt, lg_cmp_lt, lg_cmp_eq, eL_0, eL_1, eL_m1, eL_LO, eL_HI, eL_W, eL_add, eL_sub, eL_mul, eL_neg, eL_lt, eL_le, eL_eq, eL_remN, eL_mod0, ne_eq, Int64.not_lt, Int64.not_le] at c154)
                    (try simp (disch := omega) only [lg_cmp_ge, lg_cmp_le, lg_cmp_gt, lg_cmp_lt, lg_cmp_eq, eL_0, eL_1, eL_m1, eL_LO, eL_HI, eL_W, eL_add, eL_sub, eL_mul, eL_neg, eL_lt, eL_le, eL_eq, eL_remN, eL_mod0, ne_eq, Int64.not_lt, Int64.not_le] at c178)
                    refine ⟨rfl, rfl, sV p, sV q, ?_⟩
                    unfold restS
                    rw [if_neg n1, if_neg (by omega)]
                    first
                      | (rw [if_pos (by omega), if_pos (by omega), mSpan_mk (by omega) (by omega) (by omega) (by omega)]; done)
                      | (rw [if_pos (by omega), if_neg (by omega), mSpan_mk (by omega) (by omega) (by omega) (by omega)]; done)
                      | (rw [if_neg (by omega), if_pos (by omega), mSpan_mk (by omega) (by omega) (by omega) (by omega)]; done)
                      | (rw [if_neg (by omega), if_neg (by omega), mSpan_mk (by omega) (by omega) (by omega) (by omega)]; done)
                  · refine gi_lconst (q := 182) (v := 0) C (dm_Re_remain 89 rfl) rfl (by decide) ?_
                    refine gi_goto (tgt := 196) C (dm_Re_remain 90 rfl) (by decide) ?_
                    refine gi_lconst (q := 197) (v := 1) C (dm_Re_remain 97 rfl) rfl (by decide) ?_
                    try rw [eL_0]
                    rw [eL_1]
                    refine gi_callv 3 (q := 200) C (dm_Re_remain 98 rfl) rfl my_Va_beSpan lk_Re_74 im_Va_beSpan rfl (c_Va_beSpan ao _ _ _ _ (by repeat (first | exact gi_up_self _ _ _ | assumption | rw [gi_up_ne (by omega)]))) (by repeat (first | exact gi_up_self _ _ _ | assumption | rw [gi_up_ne (by omega)])) rfl rfl ⟨(Nat.le_of_ble_eq_true rfl), (Nat.le_of_ble_eq_true rfl)⟩ (Nat.le_of_ble_eq_true rfl) ⟨(Nat.le_of_ble_eq_true rfl), (Nat.le_of_ble_eq_true rfl)⟩ (fun r197 n197 h197 e197 => ?_)
                    obtain ⟨rfl, rfl, rfl⟩ := e197
                    refine gi_vret C hr (dm_Re_remain 99 rfl) ?_
                    (try simp (disch := omega) only [lg_cmp_ge, lg_cmp_le, lg_cmp_gt, lg_cmp_lt, lg_cmp_eq, eL_0, eL_1, eL_m1, eL_LO, eL_HI, eL_W, eL_add, eL_sub, eL_mul, eL_neg, eL_lt, eL_le, eL_eq, eL_remN, eL_mod0, ne_eq, Int64.not_lt, Int64.not_le] at c57)
                    (try simp (disch := omega) only [lg_cmp_ge, lg_cmp_le, lg_cmp_gt, lg_cmp_lt, lg_cmp_eq, eL_0, eL_1, eL_m1, eL_LO, eL_HI, eL_W, eL_add, eL_sub, eL_mul, eL_neg, eL_lt, eL_le, eL_eq, eL_remN, eL_mod0, ne_eq, Int64.not_lt, Int64.not_le] at c87)
                    (try simp (disch := omega) only [lg_cmp_ge, lg_cmp_le, lg_cmp_gt, lg_cmp_lt, lg_cmp_eq, eL_0, eL_1, eL_m1, eL_LO, eL_HI, eL_W, eL_add, eL_sub, eL_mul, eL_neg, eL_lt, eL_le, eL_eq, eL_remN, eL_mod0, ne_eq, Int64.not_lt, Int64.not_le] at c138)
                    (try simp (disch := omega) only [lg_cmp_ge, lg_cmp_le, lg_cmp_gt, lg_cmp_lt, lg_cmp_eq, eL_0, eL_1, eL_m1, eL_LO, eL_HI, eL_W, eL_add, eL_sub, eL_mul, eL_neg, eL_lt, eL_le, eL_eq, eL_remN, eL_mod0, ne_eq, Int64.not_lt, Int64.not_le] at c154)
                    (try simp (disch := omega) only [lg_cmp_ge, lg_cmp_le, lg_cmp_gt, lg_cmp_lt, lg_cmp_eq, eL_0, eL_1, eL_m1, eL_LO, eL_HI, eL_W, eL_add, eL_sub, eL_mul, eL_neg, eL_lt, eL_le, eL_eq, eL_remN, eL_mod0, ne_eq, Int64.not_lt, Int64.not_le] at c178)
                    refine ⟨rfl, rfl, sV p, sV q, ?_⟩
                    unfold restS
                    rw [if_neg n1, if_neg (by omega)]
                    first
                      | (rw [if_pos (by omega), if_pos (by omega), mSpan_mk (by omega) (by omega) (by omega) (by omega)]; done)
                      | (rw [if_pos (by omega), if_neg (by omega), mSpan_mk (by omega) (by omega) (by omega) (by omega)]; done)
                      | (rw [if_neg (by omega), if_pos (by omega), mSpan_mk (by omega) (by omega) (by omega) (by omega)]; done)
                      | (rw [if_neg (by omega), if_neg (by omega), mSpan_mk (by omega) (by omega) (by omega) (by omega)]; done)
              · refine gi_aload_n (q := 142) (i := 3) C (dm_Re_remain 66 rfl) rfl rfl rfl ?_
                refine gi_aload_n (q := 143) (i := 1) C (dm_Re_remain 67 rfl) rfl rfl rfl ?_
                refine gi_callv 1 (q := 146) C (dm_Re_remain 68 rfl) rfl my_Va_copy lk_Re_97 im_Va_copy rfl (c_Va_copy ao ax _ _ (by repeat (first | exact gi_up_self _ _ _ | assumption | rw [gi_up_ne (by omega)])) (by repeat (first | exact gi_up_self _ _ _ | assumption | rw [gi_up_ne (by omega)])) hxo (wf_s x)) (by repeat (first | exact gi_up_self _ _ _ | assumption | rw [gi_up_ne (by omega)])) rfl rfl ⟨(Nat.le_of_ble_eq_true rfl), (Nat.le_of_ble_eq_true rfl)⟩ (Nat.le_of_ble_eq_true rfl) ⟨(Nat.le_of_ble_eq_true rfl), (Nat.le_of_ble_eq_true rfl)⟩ (fun r143 n143 h143 e143 => ?_)
                obtain ⟨rfl, rfl, rfl⟩ := e143
                refine gi_vret C hr (dm_Re_remain 69 rfl) ?_
                (try simp (disch := omega) only [lg_cmp_ge, lg_cmp_le, lg_cmp_gt, lg_cmp_lt, lg_cmp_eq, eL_0, eL_1, eL_m1, eL_LO, eL_HI, eL_W, eL_add, eL_sub, eL_mul, eL_neg, eL_lt, eL_le, eL_eq, eL_remN, eL_mod0, ne_eq, Int64.not_lt, Int64.not_le] at c57)
                (try simp (disch := omega) only [lg_cmp_ge, lg_cmp_le, lg_cmp_gt, lg_cmp_lt, lg_cmp_eq, eL_0, eL_1, eL_m1, eL_LO, eL_HI, eL_W, eL_add, eL_sub, eL_mul, eL_neg, eL_lt, eL_le, eL_eq, eL_remN, eL_mod0, ne_eq, Int64.not_lt, Int64.not_le] at c87)
                (try simp (disch := omega) only [lg_cmp_ge, lg_cmp_le, lg_cmp_gt, lg_cmp_lt, lg_cmp_eq, eL_0, eL_1, eL_m1, eL_LO, eL_HI, eL_W, eL_add, eL_sub, eL_mul, eL_neg, eL_lt, eL_le, eL_eq, eL_remN, eL_mod0, ne_eq, Int64.not_lt, Int64.not_le] at c138)
                refine ⟨rfl, rfl, sV p, sV q, ?_⟩
                unfold restS
                rw [if_neg n1, if_pos (by omega)]
    · refine gi_aload_n (q := 15) (i := 2) C (dm_Re_remain 6 rfl) rfl rfl rfl ?_
      refine gi_get (q := 18) C (dm_Re_remain 7 rfl) rfl fl_Re_21 (by repeat (first | exact gi_up_self _ _ _ | assumption | rw [gi_up_ne (by omega)])) rfl ?_
      refine gi_lconst (q := 19) (v := 0) C (dm_Re_remain 8 rfl) rfl (by decide) ?_
      refine gi_lcmp (q := 20) C (dm_Re_remain 9 rfl) rfl ?_
      refine gi_if_eq (q := 23) (tgt := 37) C (dm_Re_remain 10 rfl) rfl (by decide) (fun c20 => ?_) (fun c20 => ?_)
      · have n1 : ¬ (x.1 = x.2.1 ∧ y.1 = y.2.1) := by
          first
            | exact fun q => sgF (by omega) (by omega) (by omega) (by omega) c4 q.1
            | exact fun q => sgF (by omega) (by omega) (by omega) (by omega) c11 q.2
            | (intro q
               (try simp (disch := omega) only [lg_cmp_ge, lg_cmp_le, lg_cmp_gt, lg_cmp_lt, lg_cmp_eq, eL_0, eL_1, eL_m1, eL_LO, eL_HI, eL_W, eL_add, eL_sub, eL_mul, eL_neg, eL_lt, eL_le, eL_eq, eL_remN, eL_mod0, ne_eq, Int64.not_lt, Int64.not_le] at c4)
               (try simp (disch := omega) only [lg_cmp_ge, lg_cmp_le, lg_cmp_gt, lg_cmp_lt, lg_cmp_eq, eL_0, eL_1, eL_m1, eL_LO, eL_HI, eL_W, eL_add, eL_sub, eL_mul, eL_neg, eL_lt, eL_le, eL_eq, eL_remN, eL_mod0, ne_eq, Int64.not_lt, Int64.not_le] at c11)
               (try simp (disch := omega) only [lg_cmp_ge, lg_cmp_le, lg_cmp_gt, lg_cmp_lt, lg_cmp_eq, eL_0, eL_1, eL_m1, eL_LO, eL_HI, eL_W, eL_add, eL_sub, eL_mul, eL_neg, eL_lt, eL_le, eL_eq, eL_remN, eL_mod0, ne_eq, Int64.not_lt, Int64.not_le] at c20)
               omega)
        refine gi_aload_n (q := 38) (i := 0) C (dm_Re_remain 19 rfl) rfl rfl rfl ?_
        refine gi_aload_n (q := 39) (i := 2) C (dm_Re_remain 20 rfl) rfl rfl rfl ?_
        refine gi_callv 1 (q := 42) C (dm_Re_remain 21 rfl) rfl my_Re_splitDivisor lk_Re_111 im_Re_splitDivisor rfl (c_Re_splitDivisor r ay y u u' hy H q1 q2 q3 hb) H0 rfl rfl ⟨(Nat.le_of_ble_eq_true rfl), (Nat.le_of_ble_eq_true rfl)⟩ (Nat.le_of_ble_eq_true rfl) ⟨(Nat.le_of_ble_eq_true rfl), (Nat.le_of_ble_eq_true rfl)⟩ (fun r39 n39 h39 e39 => ?_)
        obtain ⟨rfl, rfl, rfl⟩ := e39
        refine gi_ldc2 (q := 45) C (dm_Re_remain 22 rfl) rfl kc_Re_78 ?_
        refine gi_lstore (q := 47) C (dm_Re_remain 23 rfl) rfl (Nat.le_of_ble_eq_true rfl) ?_
        refine gi_lconst (q := 48) (v := 0) C (dm_Re_remain 24 rfl) rfl (by decide) ?_
        refine gi_lstore (q := 50) C (dm_Re_remain 25 rfl) rfl (Nat.le_of_ble_eq_true rfl) ?_
        have sb := siz_b hy
        have nb : ∀ p, negS y = some p → okS p ∧ p.2.1 < 0 := fun p e => ⟨(neg_has hy e).1, by have := (neg_has hy e).2.1; omega⟩
        have pb : ∀ p, posS y = some p → okS p ∧ 0 < p.1 := fun p e => ⟨(pos_has hy e).1, by have := (pos_has hy e).2; omega⟩
        rcases eN : negS y with _ | p
        · rcases eP : posS y with _ | q
          · exact absurd (np_some hy h0) (by simp [eN, eP])
          · have hN : min 4294967296 q.1 = sizL y := by have := (pb q eP).1.2.1; have := (pb q eP).1.2.2.1; unfold sizL; rw [eN, eP]; simp only; omega
            have hM : max 0 q.2.1 = sizH y := by have := (pb q eP).1.2.1; have := (pb q eP).2; unfold sizH; rw [eN, eP]; simp only; omega
            obtain ⟨b1, b2, b3, -⟩ := (pb q eP).1
            have b0 := (pb q eP).2
            rw [wS_n, wS_s]
            rw [eL_W, eL_0]
            refine gi_aload_n (q := 51) (i := 0) C (dm_Re_remain 26 rfl) rfl rfl rfl ?_
            refine gi_get (q := 54) C (dm_Re_remain 27 rfl) rfl fl_Re_12 (by repeat (first | exact gi_up_self _ _ _ | assumption | rw [gi_up_ne (by omega)])) rfl ?_
            refine gi_callv 0 (q := 57) C (dm_Re_remain 28 rfl) rfl my_Va_isNothing lk_Re_120 im_Va_isNothing rfl (c_Va_isNothing (r + 1) _ (by repeat (first | exact gi_up_self _ _ _ | assumption | rw [gi_up_ne (by omega)]))) (by repeat (first | exact gi_up_self _ _ _ | assumption | rw [gi_up_ne (by omega)])) rfl rfl ⟨(Nat.le_of_ble_eq_true rfl), (Nat.le_of_ble_eq_true rfl)⟩ (Nat.le_of_ble_eq_true rfl) ⟨(Nat.le_of_ble_eq_true rfl), (Nat.le_of_ble_eq_true rfl)⟩ (fun r54 n54 h54 e54 => ?_)
            obtain ⟨rfl, rfl, rfl⟩ := e54
            refine gi_if_ne (q := 60) (tgt := 80) C (dm_Re_remain 29 rfl) rfl (by decide) (fun c57 => ?_) (fun c57 => ?_)
            · refine gi_aload_n (q := 81) (i := 0) C (dm_Re_remain 40 rfl) rfl rfl rfl ?_
              refine gi_get (q := 84) C (dm_Re_remain 41 rfl) rfl fl_Re_18 (by repeat (first | exact gi_up_self _ _ _ | assumption | rw [gi_up_ne (by omega)])) rfl ?_
              refine gi_callv 0 (q := 87) C (dm_Re_remain 42 rfl) rfl my_Va_isNothing lk_Re_120 im_Va_isNothing rfl (c_Va_isNothing (r + 2) _ (by repeat (first | exact gi_up_self _ _ _ | assumption | rw [gi_up_ne (by omega)]))) (by repeat (first | exact gi_up_self _ _ _ | assumption | rw [gi_up_ne (by omega)])) rfl rfl ⟨(Nat.le_of_ble_eq_true rfl), (Nat.le_of_ble_eq_true rfl)⟩ (Nat.le_of_ble_eq_true rfl) ⟨(Nat.le_of_ble_eq_true rfl), (Nat.le_of_ble_eq_true rfl)⟩ (fun r84 n84 h84 e84 => ?_)
              obtain ⟨rfl, rfl, rfl⟩ := e84
              refine gi_if_ne (q := 90) (tgt := 118) C (dm_Re_remain 43 rfl) rfl (by decide) (fun c87 => ?_) (fun c87 => ?_)
              · exact absurd ((no_iff (s := eL 0) (by omega) (by omega) (by omega) (by omega)).mpr (show ¬ q.2.1 < q.1 by omega)) c87
              · refine gi_lload (q := 92) C (dm_Re_remain 44 rfl) rfl rfl ?_
                refine gi_aload_n (q := 93) (i := 0) C (dm_Re_remain 45 rfl) rfl rfl rfl ?_
                refine gi_get (q := 96) C (dm_Re_remain 46 rfl) rfl fl_Re_18 (by repeat (first | exact gi_up_self _ _ _ | assumption | rw [gi_up_ne (by omega)])) rfl ?_
                refine gi_get (q := 99) C (dm_Re_remain 47 rfl) rfl fl_Re_21 (by repeat (first | exact gi_up_self _ _ _ | assumption | rw [gi_up_ne (by omega)])) rfl ?_
                refine gi_calls 2 (q := 102) C (dm_Re_remain 48 rfl) rfl my_Mt_min_1 lk_Re_94 sm_Mt_min_1 (c_Mt_min_1 4294967296 q.1 (by omega) (by omega) (by omega) (by omega)) rfl rfl ⟨(Nat.le_of_ble_eq_true rfl), (Nat.le_of_ble_eq_true rfl)⟩ (Nat.le_of_ble_eq_true rfl) ⟨(Nat.le_of_ble_eq_true rfl), (Nat.le_of_ble_eq_true rfl)⟩ (fun r99 n99 h99 e99 => ?_)
                obtain ⟨rfl, rfl, rfl⟩ := e99
                refine gi_lstore (q := 104) C (dm_Re_remain 49 rfl) rfl (Nat.le_of_ble_eq_true rfl) ?_
                refine gi_lload (q := 106) C (dm_Re_remain 50 rfl) rfl rfl ?_
                refine gi_aload_n (q := 107) (i := 0) C (dm_Re_remain 51 rfl) rfl rfl rfl ?_
                refine gi_get (q := 110) C (dm_Re_remain 52 rfl) rfl fl_Re_18 (by repeat (first | exact gi_up_self _ _ _ | assumption | rw [gi_up_ne (by omega)])) rfl ?_
                refine gi_get (q := 113) C (dm_Re_remain 53 rfl) rfl fl_Re_25 (by repeat (first | exact gi_up_self _ _ _ | assumption | rw [gi_up_ne (by omega)])) rfl ?_
                refine gi_calls 2 (q := 116) C (dm_Re_remain 54 rfl) rfl my_Mt_max_0 lk_Re_80 sm_Mt_max_0 (c_Mt_max_0 0 q.2.1 (by omega) (by omega) (by omega) (by omega)) rfl rfl ⟨(Nat.le_of_ble_eq_true rfl), (Nat.le_of_ble_eq_true rfl)⟩ (Nat.le_of_ble_eq_true rfl) ⟨(Nat.le_of_ble_eq_true rfl), (Nat.le_of_ble_eq_true rfl)⟩ (fun r113 n113 h113 e113 => ?_)
                obtain ⟨rfl, rfl, rfl⟩ := e113
                refine gi_lstore (q := 118) C (dm_Re_remain 55 rfl) rfl (Nat.le_of_ble_eq_true rfl) ?_
                rw [show eL (min 4294967296 q.1) = eL (sizL y) from congrArg eL hN, show eL (max 0 q.2.1) = eL (sizH y) from congrArg eL hM]
                refine gi_aload_n (q := 119) (i := 1) C (dm_Re_remain 56 rfl) rfl rfl rfl ?_
                refine gi_get (q := 122) C (dm_Re_remain 57 rfl) rfl fl_Re_21 (by repeat (first | exact gi_up_self _ _ _ | assumption | rw [gi_up_ne (by omega)])) rfl ?_
                refine gi_calls 1 (q := 125) C (dm_Re_remain 58 rfl) rfl my_Mt_abs lk_Re_126 sm_Mt_abs (c_Mt_abs x.1 (by omega) (by omega)) rfl rfl ⟨(Nat.le_of_ble_eq_true rfl), (Nat.le_of_ble_eq_true rfl)⟩ (Nat.le_of_ble_eq_true rfl) ⟨(Nat.le_of_ble_eq_true rfl), (Nat.le_of_ble_eq_true rfl)⟩ (fun r122 n122 h122 e122 => ?_)
                obtain ⟨rfl, rfl, rfl⟩ := e122
                refine gi_aload_n (q := 126) (i := 1) C (dm_Re_remain 59 rfl) rfl rfl rfl ?_
                refine gi_get (q := 129) C (dm_Re_remain 60 rfl) rfl fl_Re_25 (by repeat (first | exact gi_up_self _ _ _ | assumption | rw [gi_up_ne (by omega)])) rfl ?_
                refine gi_calls 1 (q := 132) C (dm_Re_remain 61 rfl) rfl my_Mt_abs lk_Re_126 sm_Mt_abs (c_Mt_abs x.2.1 (by omega) (by omega)) rfl rfl ⟨(Nat.le_of_ble_eq_true rfl), (Nat.le_of_ble_eq_true rfl)⟩ (Nat.le_of_ble_eq_true rfl) ⟨(Nat.le_of_ble_eq_true rfl), (Nat.le_of_ble_eq_true rfl)⟩ (fun r129 n129 h129 e129 => ?_)
                obtain ⟨rfl, rfl, rfl⟩ := e129
                refine gi_calls 2 (q := 135) C (dm_Re_remain 62 rfl) rfl my_Mt_max_0 lk_Re_80 sm_Mt_max_0 (c_Mt_max_0 (x.1.natAbs : Int) (x.2.1.natAbs : Int) (by omega) (by omega) (by omega) (by omega)) rfl rfl ⟨(Nat.le_of_ble_eq_true rfl), (Nat.le_of_ble_eq_true rfl)⟩ (Nat.le_of_ble_eq_true rfl) ⟨(Nat.le_of_ble_eq_true rfl), (Nat.le_of_ble_eq_true rfl)⟩ (fun r132 n132 h132 e132 => ?_)
                obtain ⟨rfl, rfl, rfl⟩ := e132
                refine gi_lload (q := 137) C (dm_Re_remain 63 rfl) rfl rfl ?_
                refine gi_lcmp (q := 138) C (dm_Re_remain 64 rfl) rfl ?_
                refine gi_if_ge (q := 141) (tgt := 147) C (dm_Re_remain 65 rfl) rfl (by decide) (fun c138 => ?_) (fun c138 => ?_)
                · refine gi_aload_n (q := 148) (i := 3) C (dm_Re_remain 70 rfl) rfl rfl rfl ?_
                  refine gi_aload_n (q := 149) (i := 1) C (dm_Re_remain 71 rfl) rfl rfl rfl ?_
                  refine gi_get (q := 152) C (dm_Re_remain 72 rfl) rfl fl_Re_21 (by repeat (first | exact gi_up_self _ _ _ | assumption | rw [gi_up_ne (by omega)])) rfl ?_
                  refine gi_lconst (q := 153) (v := 0) C (dm_Re_remain 73 rfl) rfl (by decide) ?_
                  refine gi_lcmp (q := 154) C (dm_Re_remain 74 rfl) rfl ?_
                  refine gi_if_lt (q := 157) (tgt := 161) C (dm_Re_remain 75 rfl) rfl (by decide) (fun c154 => ?_) (fun c154 => ?_)
                  · refine gi_aload_n (q := 162) (i := 1) C (dm_Re_remain 78 rfl) rfl rfl rfl ?_
                    refine gi_get (q := 165) C (dm_Re_remain 79 rfl) rfl fl_Re_21 (by repeat (first | exact gi_up_self _ _ _ | assumption | rw [gi_up_ne (by omega)])) rfl ?_
                    refine gi_lconst (q := 166) (v := 1) C (dm_Re_remain 80 rfl) rfl (by decide) ?_
                    refine gi_lload (q := 168) C (dm_Re_remain 81 rfl) rfl rfl ?_
                    refine gi_lsub (q := 169) C (dm_Re_remain 82 rfl) rfl ?_
                    rw [eL_1, eL_sub]
                    refine gi_calls 2 (q := 172) C (dm_Re_remain 83 rfl) rfl my_Mt_max_0 lk_Re_80 sm_Mt_max_0 (c_Mt_max_0 x.1 (1 - sizH y) (by omega) (by omega) (by omega) (by omega)) rfl rfl ⟨(Nat.le_of_ble_eq_true rfl), (Nat.le_of_ble_eq_true rfl)⟩ (Nat.le_of_ble_eq_true rfl) ⟨(Nat.le_of_ble_eq_true rfl), (Nat.le_of_ble_eq_true rfl)⟩ (fun r169 n169 h169 e169 => ?_)
                    obtain ⟨rfl, rfl, rfl⟩ := e169
                    refine gi_aload_n (q := 173) (i := 1) C (dm_Re_remain 84 rfl) rfl rfl rfl ?_
                    refine gi_get (q := 176) C (dm_Re_remain 85 rfl) rfl fl_Re_25 (by repeat (first | exact gi_up_self _ _ _ | assumption | rw [gi_up_ne (by omega)])) rfl ?_
                    refine gi_lconst (q := 177) (v := 0) C (dm_Re_remain 86 rfl) rfl (by decide) ?_
                    refine gi_lcmp (q := 178) C (dm_Re_remain 87 rfl) rfl ?_
                    refine gi_if_gt (q := 181) (tgt := 185) C (dm_Re_remain 88 rfl) rfl (by decide) (fun c178 => ?_) (fun c178 => ?_)
                    · refine gi_aload_n (q := 186) (i := 1) C (dm_Re_remain 91 rfl) rfl rfl rfl ?_
                      refine gi_get (q := 189) C (dm_Re_remain 92 rfl) rfl fl_Re_25 (by repeat (first | exact gi_up_self _ _ _ | assumption | rw [gi_up_ne (by omega)])) rfl ?_
                      refine gi_lload (q := 191) C (dm_Re_remain 93 rfl) rfl rfl ?_
                      refine gi_lconst (q := 192) (v := 1) C (dm_Re_remain 94 rfl) rfl (by decide) ?_
                      refine gi_lsub (q := 193) C (dm_Re_remain 95 rfl) rfl ?_
                      rw [eL_1, eL_sub]
                      refine gi_calls 2 (q := 196) C (dm_Re_remain 96 rfl) rfl my_Mt_min_1 lk_Re_94 sm_Mt_min_1 (c_Mt_min_1 x.2.1 (sizH y - 1) (by omega) (by omega) (by omega) (by omega)) rfl rfl ⟨(Nat.le_of_ble_eq_true rfl), (Nat.le_of_ble_eq_true rfl)⟩ (Nat.le_of_ble_eq_true rfl) ⟨(Nat.le_of_ble_eq_true rfl), (Nat.le_of_ble_eq_true rfl)⟩ (fun r193 n193 h193 e193 => ?_)
                      obtain ⟨rfl, rfl, rfl⟩ := e193
                      refine gi_lconst (q := 197) (v := 1) C (dm_Re_remain 97 rfl) rfl (by decide) ?_
                      try rw [eL_0]
                      rw [eL_1]
                      refine gi_callv 3 (q := 200) C (dm_Re_remain 98 rfl) rfl my_Va_beSpan lk_Re_74 im_Va_beSpan rfl (c_Va_beSpan ao _ _ _ _ (by repeat (first | exact gi_up_self _ _ _ | assumption | rw [gi_up_ne (by omega)]))) (by repeat (first | exact gi_up_self _ _ _ | assumption | rw [gi_up_ne (by omega)])) rfl rfl ⟨(Nat.le_of_ble_eq_true rfl), (Nat.le_of_ble_eq_true rfl)⟩ (Nat.le_of_ble_eq_true rfl) ⟨(Nat.le_of_ble_eq_true rfl), (Nat.le_of_ble_eq_true rfl)⟩ (fun r197 n197 h197 e197 => ?_)
                      obtain ⟨rfl, rfl, rfl⟩ := e197
                      refine gi_vret C hr (dm_Re_remain 99 rfl) ?_
                      (try simp (disch := omega) only [lg_cmp_ge, lg_cmp_le, lg_cmp_gt, lg_cmp_lt, lg_cmp_eq, eL_0, eL_1, eL_m1, eL_LO, eL_HI, eL_W, eL_add, eL_sub, eL_mul, eL_neg, eL_lt, eL_le, eL_eq, eL_remN, eL_mod0, ne_eq, Int64.not_lt, Int64.not_le] at c57)
                      (try simp (disch := omega) only [lg_cmp_ge, lg_cmp_le, lg_cmp_gt, lg_cmp_lt, lg_cmp_eq, eL_0, eL_1, eL_m1, eL_LO, eL_HI, eL_W, eL_add, eL_sub, eL_mul, eL_neg, eL_lt, eL_le, eL_eq, eL_remN, eL_mod0, ne_eq, Int64.not_lt, Int64.not_le] at c87)
                      (try simp (disch := omega) only [lg_cmp_ge, lg_cmp_le, lg_cmp_gt, lg_cmp_lt, lg_cmp_eq, eL_0, eL_1, eL_m1, eL_LO, eL_HI, eL_W, eL_add, eL_sub, eL_mul, eL_neg, eL_lt, eL_le, eL_eq, eL_remN, eL_mod0, ne_eq, Int64.not_lt, Int64.not_le] at c138)
                      (try simp (disch := omega) only [lg_cmp_ge, lg_cmp_le, lg_cmp_gt, lg_cmp_lt, lg_cmp_eq, eL_0, eL_1, eL_m1, eL_LO, eL_HI, eL_W, eL_add, eL_sub, eL_mul, eL_neg, eL_lt, eL_le, eL_eq, eL_remN, eL_mod0, ne_eq, Int64.not_lt, Int64.not_le] at c154)
                      (try simp (disch := omega) only [lg_cmp_ge, lg_cmp_le, lg_cmp_gt, lg_cmp_lt, lg_cmp_eq, eL_0, eL_1, eL_m1, eL_LO, eL_HI, eL_W, eL_add, eL_sub, eL_mul, eL_neg, eL_lt, eL_le, eL_eq, eL_remN, eL_mod0, ne_eq, Int64.not_lt, Int64.not_le] at c178)
                      refine ⟨rfl, rfl, sV (1, 0, 0), sV q, ?_⟩
                      unfold restS
                      rw [if_neg n1, if_neg (by omega)]
                      first
                        | (rw [if_pos (by omega), if_pos (by omega), mSpan_mk (by omega) (by omega) (by omega) (by omega)]; done)
                        | (rw [if_pos (by omega), if_neg (by omega), mSpan_mk (by omega) (by omega) (by omega) (by omega)]; done)
                        | (rw [if_neg (by omega), if_pos (by omega), mSpan_mk (by omega) (by omega) (by omega) (by omega)]; done)
                        | (rw [if_neg (by omega), if_neg (by omega), mSpan_mk (by omega) (by omega) (by omega) (by omega)]; done)
                    · refine gi_lconst (q := 182) (v := 0) C (dm_Re_remain 89 rfl) rfl (by decide) ?_
                      refine gi_goto (tgt := 196) C (dm_Re_remain 90 rfl) (by decide) ?_
                      refine gi_lconst (q := 197) (v := 1) C (dm_Re_remain 97 rfl) rfl (by decide) ?_
                      try rw [eL_0]
                      rw [eL_1]
                      refine gi_callv 3 (q := 200) C (dm_Re_remain 98 rfl) rfl my_Va_beSpan lk_Re_74 im_Va_beSpan rfl (c_Va_beSpan ao _ _ _ _ (by repeat (first | exact gi_up_self _ _ _ | assumption | rw [gi_up_ne (by omega)]))) (by repeat (first | exact gi_up_self _ _ _ | assumption | rw [gi_up_ne (by omega)])) rfl rfl ⟨(Nat.le_of_ble_eq_true rfl), (Nat.le_of_ble_eq_true rfl)⟩ (Nat.le_of_ble_eq_true rfl) ⟨(Nat.le_of_ble_eq_true rfl), (Nat.le_of_ble_eq_true rfl)⟩ (fun r197 n197 h197 e197 => ?_)
                      obtain ⟨rfl, rfl, rfl⟩ := e197
                      refine gi_vret C hr (dm_Re_remain 99 rfl) ?_
                      (try simp (disch := omega) only [lg_cmp_ge, lg_cmp_le, lg_cmp_gt, lg_cmp_lt, lg_cmp_eq, eL_0, eL_1, eL_m1, eL_LO, eL_HI, eL_W, eL_add, eL_sub, eL_mul, eL_neg, eL_lt, eL_le, eL_eq, eL_remN, eL_mod0, ne_eq, Int64.not_lt, Int64.not_le] at c57)
                      (try simp (disch := omega) only [lg_cmp_ge, lg_cmp_le, lg_cmp_gt, lg_cmp_lt, lg_cmp_eq, eL_0, eL_1, eL_m1, eL_LO, eL_HI, eL_W, eL_add, eL_sub, eL_mul, eL_neg, eL_lt, eL_le, eL_eq, eL_remN, eL_mod0, ne_eq, Int64.not_lt, Int64.not_le] at c87)
                      (try simp (disch := omega) only [lg_cmp_ge, lg_cmp_le, lg_cmp_gt, lg_cmp_lt, lg_cmp_eq, eL_0, eL_1, eL_m1, eL_LO, eL_HI, eL_W, eL_add, eL_sub, eL_mul, eL_neg, eL_lt, eL_le, eL_eq, eL_remN, eL_mod0, ne_eq, Int64.not_lt, Int64.not_le] at c138)
                      (try simp (disch := omega) only [lg_cmp_ge, lg_cmp_le, lg_cmp_gt, lg_cmp_lt, lg_cmp_eq, eL_0, eL_1, eL_m1, eL_LO, eL_HI, eL_W, eL_add, eL_sub, eL_mul, eL_neg, eL_lt, eL_le, eL_eq, eL_remN, eL_mod0, ne_eq, Int64.not_lt, Int64.not_le] at c154)
                      (try simp (disch := omega) only [lg_cmp_ge, lg_cmp_le, lg_cmp_gt, lg_cmp_lt, lg_cmp_eq, eL_0, eL_1, eL_m1, eL_LO, eL_HI, eL_W, eL_add, eL_sub, eL_mul, eL_neg, eL_lt, eL_le, eL_eq, eL_remN, eL_mod0, ne_eq, Int64.not_lt, Int64.not_le] at c178)
                      refine ⟨rfl, rfl, sV (1, 0, 0), sV q, ?_⟩
                      unfold restS
                      rw [if_neg n1, if_neg (by omega)]
                      first
                        | (rw [if_pos (by omega), if_pos (by omega), mSpan_mk (by omega) (by omega) (by omega) (by omega)]; done)
                        | (rw [if_pos (by omega), if_neg (by omega), mSpan_mk (by omega) (by omega) (by omega) (by omega)]; done)
                        | (rw [if_neg (by omega), if_pos (by omega), mSpan_mk (by omega) (by omega) (by omega) (by omega)]; done)
                        | (rw [if_neg (by omega), if_neg (by omega), mSpan_mk (by omega) (by omega) (by omega) (by omega)]; done)
                  · refine gi_lconst (q := 158) (v := 0) C (dm_Re_remain 76 rfl) rfl (by decide) ?_
                    refine gi_goto (tgt := 172) C (dm_Re_remain 77 rfl) (by decide) ?_
                    refine gi_aload_n (q := 173) (i := 1) C (dm_Re_remain 84 rfl) rfl rfl rfl ?_
                    refine gi_get (q := 176) C (dm_Re_remain 85 rfl) rfl fl_Re_25 (by repeat (first | exact gi_up_self _ _ _ | assumption | rw [gi_up_ne (by omega)])) rfl ?_
                    refine gi_lconst (q := 177) (v := 0) C (dm_Re_remain 86 rfl) rfl (by decide) ?_
                    refine gi_lcmp (q := 178) C (dm_Re_remain 87 rfl) rfl ?_
                    refine gi_if_gt (q := 181) (tgt := 185) C (dm_Re_remain 88 rfl) rfl (by decide) (fun c178 => ?_) (fun c178 => ?_)
                    · refine gi_aload_n (q := 186) (i := 1) C (dm_Re_remain 91 rfl) rfl rfl rfl ?_
                      refine gi_get (q := 189) C (dm_Re_remain 92 rfl) rfl fl_Re_25 (by repeat (first | exact gi_up_self _ _ _ | assumption | rw [gi_up_ne (by omega)])) rfl ?_
                      refine gi_lload (q := 191) C (dm_Re_remain 93 rfl) rfl rfl ?_
                      refine gi_lconst (q := 192) (v := 1) C (dm_Re_remain 94 rfl) rfl (by decide) ?_
                      refine gi_lsub (q := 193) C (dm_Re_remain 95 rfl) rfl ?_
                      rw [eL_1, eL_sub]
                      refine gi_calls 2 (q := 196) C (dm_Re_remain 96 rfl) rfl my_Mt_min_1 lk_Re_94 sm_Mt_min_1 (c_Mt_min_1 x.2.1 (sizH y - 1) (by omega) (by omega) (by omega) (by omega)) rfl rfl ⟨(Nat.le_of_ble_eq_true rfl), (Nat.le_of_ble_eq_true rfl)⟩ (Nat.le_of_ble_eq_true rfl) ⟨(Nat.le_of_ble_eq_true rfl), (Nat.le_of_ble_eq_true rfl)⟩ (fun r193 n193 h193 e193 => ?_)
                      obtain ⟨rfl, rfl, rfl⟩ := e193
                      refine gi_lconst (q := 197) (v := 1) C (dm_Re_remain 97 rfl) rfl (by decide) ?_
                      try rw [eL_0]
                      rw [eL_1]
                      refine gi_callv 3 (q := 200) C (dm_Re_remain 98 rfl) rfl my_Va_beSpan lk_Re_74 im_Va_beSpan rfl (c_Va_beSpan ao _ _ _ _ (by repeat (first | exact gi_up_self _ _ _ | assumption | rw [gi_up_ne (by omega)]))) (by repeat (first | exact gi_up_self _ _ _ | assumption | rw [gi_up_ne (by omega)])) rfl rfl ⟨(Nat.le_of_ble_eq_true rfl), (Nat.le_of_ble_eq_true rfl)⟩ (Nat.le_of_ble_eq_true rfl) ⟨(Nat.le_of_ble_eq_true rfl), (Nat.le_of_ble_eq_true rfl)⟩ (fun r197 n197 h197 e197 => ?_)
                      obtain ⟨rfl, rfl, rfl⟩ := e197
                      refine gi_vret C hr (dm_Re_remain 99 rfl) ?_
                      (try simp (disch := omega) only [lg_cmp_ge, lg_cmp_le, lg_cmp_gt, lg_cmp_lt, lg_cmp_eq, eL_0, eL_1, eL_m1, eL_LO, eL_HI, eL_W, eL_add, eL_sub, eL_mul, eL_neg, eL_lt, eL_le, eL_eq, eL_remN, eL_mod0, ne_eq, Int64.not_lt, Int64.not_le] at c57)
                      (try simp (disch := omega) only [lg_cmp_ge, lg_cmp_le, lg_cmp_gt, lg_cmp_lt, lg_cmp_eq, eL_0, eL_1, eL_m1, eL_LO, eL_HI, eL_W, eL_add, eL_sub, eL_mul, eL_neg, eL_lt, eL_le, eL_eq, eL_remN, eL_mod0, ne_eq, Int64.not_lt, Int64.not_le] at c87)
                      (try simp (disch := omega) only [lg_cmp_ge, lg_cmp_le, lg_cmp_gt, lg_cmp_lt, lg_cmp_eq, eL_0, eL_1, eL_m1, eL_LO, eL_HI, eL_W, eL_add, eL_sub, eL_mul, eL_neg, eL_lt, eL_le, eL_eq, eL_remN, eL_mod0, ne_eq, Int64.not_lt, Int64.not_le] at c138)
                      (try simp (disch := omega) only [lg_cmp_ge, lg_cmp_le, lg_cmp_gt, lg_cmp_lt, lg_cmp_eq, eL_0, eL_1, eL_m1, eL_LO, eL_HI, eL_W, eL_add, eL_sub, eL_mul, eL_neg, eL_lt, eL_le, eL_eq, eL_remN, eL_mod0, ne_eq, Int64.not_lt, Int64.not_le] at c154)
                      (try simp (disch := omega) only [lg_cmp_ge, lg_cmp_le, lg_cmp_gt, lg_cmp_lt, lg_cmp_eq, eL_0, eL_1, eL_m1, eL_LO, eL_HI, eL_W, eL_add, eL_sub, eL_mul, eL_neg, eL_lt, eL_le, eL_eq, eL_remN, eL_mod0, ne_eq, Int64.not_lt, Int64.not_le] at c178)
                      refine ⟨rfl, rfl, sV (1, 0, 0), sV q, ?_⟩
                      unfold restS
                      rw [if_neg n1, if_neg (by omega)]
                      first
                        | (rw [if_pos (by omega), if_pos (by omega), mSpan_mk (by omega) (by omega) (by omega) (by omega)]; done)
                        | (rw [if_pos (by omega), if_neg (by omega), mSpan_mk (by omega) (by omega) (by omega) (by omega)]; done)
                        | (rw [if_neg (by omega), if_pos (by omega), mSpan_mk (by omega) (by omega) (by omega) (by omega)]; done)
                        | (rw [if_neg (by omega), if_neg (by omega), mSpan_mk (by omega) (by omega) (by omega) (by omega)]; done)
                    · refine gi_lconst (q := 182) (v := 0) C (dm_Re_remain 89 rfl) rfl (by decide) ?_
                      refine gi_goto (tgt := 196) C (dm_Re_remain 90 rfl) (by decide) ?_
                      refine gi_lconst (q := 197) (v := 1) C (dm_Re_remain 97 rfl) rfl (by decide) ?_
                      try rw [eL_0]
                      rw [eL_1]
                      refine gi_callv 3 (q := 200) C (dm_Re_remain 98 rfl) rfl my_Va_beSpan lk_Re_74 im_Va_beSpan rfl (c_Va_beSpan ao _ _ _ _ (by repeat (first | exact gi_up_self _ _ _ | assumption | rw [gi_up_ne (by omega)]))) (by repeat (first | exact gi_up_self _ _ _ | assumption | rw [gi_up_ne (by omega)])) rfl rfl ⟨(Nat.le_of_ble_eq_true rfl), (Nat.le_of_ble_eq_true rfl)⟩ (Nat.le_of_ble_eq_true rfl) ⟨(Nat.le_of_ble_eq_true rfl), (Nat.le_of_ble_eq_true rfl)⟩ (fun r197 n197 h197 e197 => ?_)
                      obtain ⟨rfl, rfl, rfl⟩ := e197
                      refine gi_vret C hr (dm_Re_remain 99 rfl) ?_
                      (try simp (disch := omega) only [lg_cmp_ge, lg_cmp_le, lg_cmp_gt, lg_cmp_lt, lg_cmp_eq, eL_0, eL_1, eL_m1, eL_LO, eL_HI, eL_W, eL_add, eL_sub, eL_mul, eL_neg, eL_lt, eL_le, eL_eq, eL_remN, eL_mod0, ne_eq, Int64.not_lt, Int64.not_le] at c57)
                      (try simp (disch := omega) only [lg_cmp_ge, lg_cmp_le, lg_cmp_gt, lg_cmp_lt, lg_cmp_eq, eL_0, eL_1, eL_m1, eL_LO, eL_HI, eL_W, eL_add, eL_sub, eL_mul, eL_neg, eL_lt, eL_le, eL_eq, eL_remN, eL_mod0, ne_eq, Int64.not_lt, Int64.not_le] at c87)
                      (try simp (disch := omega) only [lg_cmp_ge, lg_cmp_le, lg_cmp_gt, lg_cmp_lt, lg_cmp_eq, eL_0, eL_1, eL_m1, eL_LO, eL_HI, eL_W, eL_add, eL_sub, eL_mul, eL_neg, eL_lt, eL_le, eL_eq, eL_remN, eL_mod0, ne_eq, Int64.not_lt, Int64.not_le] at c138)
                      (try simp (disch := omega) only [lg_cmp_ge, lg_cmp_le, lg_cmp_gt, lg_cmp_lt, lg_cmp_eq, eL_0, eL_1, eL_m1, eL_LO, eL_HI, eL_W, eL_add, eL_sub, eL_mul, eL_neg, eL_lt, eL_le, eL_eq, eL_remN, eL_mod0, ne_eq, Int64.not_lt, Int64.not_le] at c154)
                      (try simp (disch := omega) only [lg_cmp_ge, lg_cmp_le, lg_cmp_gt, lg_cmp_lt, lg_cmp_eq, eL_0, eL_1, eL_m1, eL_LO, eL_HI, eL_W, eL_add, eL_sub, eL_mul, eL_neg, eL_lt, eL_le, eL_eq, eL_remN, eL_mod0, ne_eq, Int64.not_lt, Int64.not_le] at c178)
                      refine ⟨rfl, rfl, sV (1, 0, 0), sV q, ?_⟩
                      unfold restS
                      rw [if_neg n1, if_neg (by omega)]
                      first
                        | (rw [if_pos (by omega), if_pos (by omega), mSpan_mk (by omega) (by omega) (by omega) (by omega)]; done)
                        | (rw [if_pos (by omega), if_neg (by omega), mSpan_mk (by omega) (by omega) (by omega) (by omega)]; done)
                        | (rw [if_neg (by omega), if_pos (by omega), mSpan_mk (by omega) (by omega) (by omega) (by omega)]; done)
                        | (rw [if_neg (by omega), if_neg (by omega), mSpan_mk (by omega) (by omega) (by omega) (by omega)]; done)
                · refine gi_aload_n (q := 142) (i := 3) C (dm_Re_remain 66 rfl) rfl rfl rfl ?_
                  refine gi_aload_n (q := 143) (i := 1) C (dm_Re_remain 67 rfl) rfl rfl rfl ?_
                  refine gi_callv 1 (q := 146) C (dm_Re_remain 68 rfl) rfl my_Va_copy lk_Re_97 im_Va_copy rfl (c_Va_copy ao ax _ _ (by repeat (first | exact gi_up_self _ _ _ | assumption | rw [gi_up_ne (by omega)])) (by repeat (first | exact gi_up_self _ _ _ | assumption | rw [gi_up_ne (by omega)])) hxo (wf_s x)) (by repeat (first | exact gi_up_self _ _ _ | assumption | rw [gi_up_ne (by omega)])) rfl rfl ⟨(Nat.le_of_ble_eq_true rfl), (Nat.le_of_ble_eq_true rfl)⟩ (Nat.le_of_ble_eq_true rfl) ⟨(Nat.le_of_ble_eq_true rfl), (Nat.le_of_ble_eq_true rfl)⟩ (fun r143 n143 h143 e143 => ?_)
                  obtain ⟨rfl, rfl, rfl⟩ := e143
                  refine gi_vret C hr (dm_Re_remain 69 rfl) ?_
                  (try simp (disch := omega) only [lg_cmp_ge, lg_cmp_le, lg_cmp_gt, lg_cmp_lt, lg_cmp_eq, eL_0, eL_1, eL_m1, eL_LO, eL_HI, eL_W, eL_add, eL_sub, eL_mul, eL_neg, eL_lt, eL_le, eL_eq, eL_remN, eL_mod0, ne_eq, Int64.not_lt, Int64.not_le] at c57)
                  (try simp (disch := omega) only [lg_cmp_ge, lg_cmp_le, lg_cmp_gt, lg_cmp_lt, lg_cmp_eq, eL_0, eL_1, eL_m1, eL_LO, eL_HI, eL_W, eL_add, eL_sub, eL_mul, eL_neg, eL_lt, eL_le, eL_eq, eL_remN, eL_mod0, ne_eq, Int64.not_lt, Int64.not_le] at c87)
                  (try simp (disch := omega) only [lg_cmp_ge, lg_cmp_le, lg_cmp_gt, lg_cmp_lt, lg_cmp_eq, eL_0, eL_1, eL_m1, eL_LO, eL_HI, eL_W, eL_add, eL_sub, eL_mul, eL_neg, eL_lt, eL_le, eL_eq, eL_remN, eL_mod0, ne_eq, Int64.not_lt, Int64.not_le] at c138)
                  refine ⟨rfl, rfl, sV (1, 0, 0), sV q, ?_⟩
                  unfold restS
                  rw [if_neg n1, if_pos (by omega)]
            · exact absurd c57 (by decide)
        · rcases eP : posS y with _ | q
          · have hN : -p.2.1 = sizL y := by unfold sizL; rw [eN, eP]
            have hM : -p.1 = sizH y := by unfold sizH; rw [eN, eP]
            obtain ⟨a1, a2, a3, -⟩ := (nb p eN).1
            have a0 := (nb p eN).2
            rw [wS_n, wS_s]
            rw [eL_W, eL_0]
            refine gi_aload_n (q := 51) (i := 0) C (dm_Re_remain 26 rfl) rfl rfl rfl ?_
            refine gi_get (q := 54) C (dm_Re_remain 27 rfl) rfl fl_Re_12 (by repeat (first | exact gi_up_self _ _ _ | assumption | rw [gi_up_ne (by omega)])) rfl ?_
            refine gi_callv 0 (q := 57) C (dm_Re_remain 28 rfl) rfl my_Va_isNothing lk_Re_120 im_Va_isNothing rfl (c_Va_isNothing (r + 1) _ (by repeat (first | exact gi_up_self _ _ _ | assumption | rw [gi_up_ne (by omega)]))) (by repeat (first | exact gi_up_self _ _ _ | assumption | rw [gi_up_ne (by omega)])) rfl rfl ⟨(Nat.le_of_ble_eq_true rfl), (Nat.le_of_ble_eq_true rfl)⟩ (Nat.le_of_ble_eq_true rfl) ⟨(Nat.le_of_ble_eq_true rfl), (Nat.le_of_ble_eq_true rfl)⟩ (fun r54 n54 h54 e54 => ?_)
            obtain ⟨rfl, rfl, rfl⟩ := e54
            refine gi_if_ne (q := 60) (tgt := 80) C (dm_Re_remain 29 rfl) rfl (by decide) (fun c57 => ?_) (fun c57 => ?_)
            · exact absurd ((no_iff (s := eL 0) (by omega) (by omega) (by omega) (by omega)).mpr (show ¬ p.2.1 < p.1 by omega)) c57
            · refine gi_aload_n (q := 61) (i := 0) C (dm_Re_remain 30 rfl) rfl rfl rfl ?_
              refine gi_get (q := 64) C (dm_Re_remain 31 rfl) rfl fl_Re_12 (by repeat (first | exact gi_up_self _ _ _ | assumption | rw [gi_up_ne (by omega)])) rfl ?_
              refine gi_get (q := 67) C (dm_Re_remain 32 rfl) rfl fl_Re_25 (by repeat (first | exact gi_up_self _ _ _ | assumption | rw [gi_up_ne (by omega)])) rfl ?_
              refine gi_lneg (q := 68) C (dm_Re_remain 33 rfl) rfl ?_
              rw [eL_neg]
              refine gi_lstore (q := 70) C (dm_Re_remain 34 rfl) rfl (Nat.le_of_ble_eq_true rfl) ?_
              refine gi_aload_n (q := 71) (i := 0) C (dm_Re_remain 35 rfl) rfl rfl rfl ?_
              refine gi_get (q := 74) C (dm_Re_remain 36 rfl) rfl fl_Re_12 (by repeat (first | exact gi_up_self _ _ _ | assumption | rw [gi_up_ne (by omega)])) rfl ?_
              refine gi_get (q := 77) C (dm_Re_remain 37 rfl) rfl fl_Re_21 (by repeat (first | exact gi_up_self _ _ _ | assumption | rw [gi_up_ne (by omega)])) rfl ?_
              refine gi_lneg (q := 78) C (dm_Re_remain 38 rfl) rfl ?_
              rw [eL_neg]
              refine gi_lstore (q := 80) C (dm_Re_remain 39 rfl) rfl (Nat.le_of_ble_eq_true rfl) ?_
              refine gi_aload_n (q := 81) (i := 0) C (dm_Re_remain 40 rfl) rfl rfl rfl ?_
              refine gi_get (q := 84) C (dm_Re_remain 41 rfl) rfl fl_Re_18 (by repeat (first | exact gi_up_self _ _ _ | assumption | rw [gi_up_ne (by omega)])) rfl ?_
              refine gi_callv 0 (q := 87) C (dm_Re_remain 42 rfl) rfl my_Va_isNothing lk_Re_120 im_Va_isNothing rfl (c_Va_isNothing (r + 2) _ (by repeat (first | exact gi_up_self _ _ _ | assumption | rw [gi_up_ne (by omega)]))) (by repeat (first | exact gi_up_self _ _ _ | assumption | rw [gi_up_ne (by omega)])) rfl rfl ⟨(Nat.le_of_ble_eq_true rfl), (Nat.le_of_ble_eq_true rfl)⟩ (Nat.le_of_ble_eq_true rfl) ⟨(Nat.le_of_ble_eq_true rfl), (Nat.le_of_ble_eq_true rfl)⟩ (fun r84 n84 h84 e84 => ?_)
              obtain ⟨rfl, rfl, rfl⟩ := e84
              refine gi_if_ne (q := 90) (tgt := 118) C (dm_Re_remain 43 rfl) rfl (by decide) (fun c87 => ?_) (fun c87 => ?_)
              · rw [show eL (-p.2.1) = eL (sizL y) from congrArg eL hN, show eL (-p.1) = eL (sizH y) from congrArg eL hM]
                refine gi_aload_n (q := 119) (i := 1) C (dm_Re_remain 56 rfl) rfl rfl rfl ?_
                refine gi_get (q := 122) C (dm_Re_remain 57 rfl) rfl fl_Re_21 (by repeat (first | exact gi_up_self _ _ _ | assumption | rw [gi_up_ne (by omega)])) rfl ?_
                refine gi_calls 1 (q := 125) C (dm_Re_remain 58 rfl) rfl my_Mt_abs lk_Re_126 sm_Mt_abs (c_Mt_abs x.1 (by omega) (by omega)) rfl rfl ⟨(Nat.le_of_ble_eq_true rfl), (Nat.le_of_ble_eq_true rfl)⟩ (Nat.le_of_ble_eq_true rfl) ⟨(Nat.le_of_ble_eq_true rfl), (Nat.le_of_ble_eq_true rfl)⟩ (fun r122 n122 h122 e122 => ?_)
                obtain ⟨rfl, rfl, rfl⟩ := e122
                refine gi_aload_n (q := 126) (i := 1) C (dm_Re_remain 59 rfl) rfl rfl rfl ?_
                refine gi_get (q := 129) C (dm_Re_remain 60 rfl) rfl fl_Re_25 (by repeat (first | exact gi_up_self _ _ _ | assumption | rw [gi_up_ne (by omega)])) rfl ?_
                refine gi_calls 1 (q := 132) C (dm_Re_remain 61 rfl) rfl my_Mt_abs lk_Re_126 sm_Mt_abs (c_Mt_abs x.2.1 (by omega) (by omega)) rfl rfl ⟨(Nat.le_of_ble_eq_true rfl), (Nat.le_of_ble_eq_true rfl)⟩ (Nat.le_of_ble_eq_true rfl) ⟨(Nat.le_of_ble_eq_true rfl), (Nat.le_of_ble_eq_true rfl)⟩ (fun r129 n129 h129 e129 => ?_)
                obtain ⟨rfl, rfl, rfl⟩ := e129
                refine gi_calls 2 (q := 135) C (dm_Re_remain 62 rfl) rfl my_Mt_max_0 lk_Re_80 sm_Mt_max_0 (c_Mt_max_0 (x.1.natAbs : Int) (x.2.1.natAbs : Int) (by omega) (by omega) (by omega) (by omega)) rfl rfl ⟨(Nat.le_of_ble_eq_true rfl), (Nat.le_of_ble_eq_true rfl)⟩ (Nat.le_of_ble_eq_true rfl) ⟨(Nat.le_of_ble_eq_true rfl), (Nat.le_of_ble_eq_true rfl)⟩ (fun r132 n132 h132 e132 => ?_)
                obtain ⟨rfl, rfl, rfl⟩ := e132
                refine gi_lload (q := 137) C (dm_Re_remain 63 rfl) rfl rfl ?_
                refine gi_lcmp (q := 138) C (dm_Re_remain 64 rfl) rfl ?_
                refine gi_if_ge (q := 141) (tgt := 147) C (dm_Re_remain 65 rfl) rfl (by decide) (fun c138 => ?_) (fun c138 => ?_)
                · refine gi_aload_n (q := 148) (i := 3) C (dm_Re_remain 70 rfl) rfl rfl rfl ?_
                  refine gi_aload_n (q := 149) (i := 1) C (dm_Re_remain 71 rfl) rfl rfl rfl ?_
                  refine gi_get (q := 152) C (dm_Re_remain 72 rfl) rfl fl_Re_21 (by repeat (first | exact gi_up_self _ _ _ | assumption | rw [gi_up_ne (by omega)])) rfl ?_
                  refine gi_lconst (q := 153) (v := 0) C (dm_Re_remain 73 rfl) rfl (by decide) ?_
                  refine gi_lcmp (q := 154) C (dm_Re_remain 74 rfl) rfl ?_
                  refine gi_if_lt (q := 157) (tgt := 161) C (dm_Re_remain 75 rfl) rfl (by decide) (fun c154 => ?_) (fun c154 => ?_)
                  · refine gi_aload_n (q := 162) (i := 1) C (dm_Re_remain 78 rfl) rfl rfl rfl ?_
                    refine gi_get (q := 165) C (dm_Re_remain 79 rfl) rfl fl_Re_21 (by repeat (first | exact gi_up_self _ _ _ | assumption | rw [gi_up_ne (by omega)])) rfl ?_
                    refine gi_lconst (q := 166) (v := 1) C (dm_Re_remain 80 rfl) rfl (by decide) ?_
                    refine gi_lload (q := 168) C (dm_Re_remain 81 rfl) rfl rfl ?_
                    refine gi_lsub (q := 169) C (dm_Re_remain 82 rfl) rfl ?_
                    rw [eL_1, eL_sub]
                    refine gi_calls 2 (q := 172) C (dm_Re_remain 83 rfl) rfl my_Mt_max_0 lk_Re_80 sm_Mt_max_0 (c_Mt_max_0 x.1 (1 - sizH y) (by omega) (by omega) (by omega) (by omega)) rfl rfl ⟨(Nat.le_of_ble_eq_true rfl), (Nat.le_of_ble_eq_true rfl)⟩ (Nat.le_of_ble_eq_true rfl) ⟨(Nat.le_of_ble_eq_true rfl), (Nat.le_of_ble_eq_true rfl)⟩ (fun r169 n169 h169 e169 => ?_)
                    obtain ⟨rfl, rfl, rfl⟩ := e169
                    refine gi_aload_n (q := 173) (i := 1) C (dm_Re_remain 84 rfl) rfl rfl rfl ?_
                    refine gi_get (q := 176) C (dm_Re_remain 85 rfl) rfl fl_Re_25 (by repeat (first | exact gi_up_self _ _ _ | assumption | rw [gi_up_ne (by omega)])) rfl ?_
                    refine gi_lconst (q := 177) (v := 0) C (dm_Re_remain 86 rfl) rfl (by decide) ?_
                    refine gi_lcmp (q := 178) C (dm_Re_remain 87 rfl) rfl ?_
                    refine gi_if_gt (q := 181) (tgt := 185) C (dm_Re_remain 88 rfl) rfl (by decide) (fun c178 => ?_) (fun c178 => ?_)
                    · refine gi_aload_n (q := 186) (i := 1) C (dm_Re_remain 91 rfl) rfl rfl rfl ?_
                      refine gi_get (q := 189) C (dm_Re_remain 92 rfl) rfl fl_Re_25 (by repeat (first | exact gi_up_self _ _ _ | assumption | rw [gi_up_ne (by omega)])) rfl ?_
                      refine gi_lload (q := 191) C (dm_Re_remain 93 rfl) rfl rfl ?_
                      refine gi_lconst (q := 192) (v := 1) C (dm_Re_remain 94 rfl) rfl (by decide) ?_
                      refine gi_lsub (q := 193) C (dm_Re_remain 95 rfl) rfl ?_
                      rw [eL_1, eL_sub]
                      refine gi_calls 2 (q := 196) C (dm_Re_remain 96 rfl) rfl my_Mt_min_1 lk_Re_94 sm_Mt_min_1 (c_Mt_min_1 x.2.1 (sizH y - 1) (by omega) (by omega) (by omega) (by omega)) rfl rfl ⟨(Nat.le_of_ble_eq_true rfl), (Nat.le_of_ble_eq_true rfl)⟩ (Nat.le_of_ble_eq_true rfl) ⟨(Nat.le_of_ble_eq_true rfl), (Nat.le_of_ble_eq_true rfl)⟩ (fun r193 n193 h193 e193 => ?_)
                      obtain ⟨rfl, rfl, rfl⟩ := e193
                      refine gi_lconst (q := 197) (v := 1) C (dm_Re_remain 97 rfl) rfl (by decide) ?_
                      try rw [eL_0]
                      rw [eL_1]
                      refine gi_callv 3 (q := 200) C (dm_Re_remain 98 rfl) rfl my_Va_beSpan lk_Re_74 im_Va_beSpan rfl (c_Va_beSpan ao _ _ _ _ (by repeat (first | exact gi_up_self _ _ _ | assumption | rw [gi_up_ne (by omega)]))) (by repeat (first | exact gi_up_self _ _ _ | assumption | rw [gi_up_ne (by omega)])) rfl rfl ⟨(Nat.le_of_ble_eq_true rfl), (Nat.le_of_ble_eq_true rfl)⟩ (Nat.le_of_ble_eq_true rfl) ⟨(Nat.le_of_ble_eq_true rfl), (Nat.le_of_ble_eq_true rfl)⟩ (fun r197 n197 h197 e197 => ?_)
                      obtain ⟨rfl, rfl, rfl⟩ := e197
                      refine gi_vret C hr (dm_Re_remain 99 rfl) ?_
                      (try simp (disch := omega) only [lg_cmp_ge, lg_cmp_le, lg_cmp_gt, lg_cmp_lt, lg_cmp_eq, eL_0, eL_1, eL_m1, eL_LO, eL_HI, eL_W, eL_add, eL_sub, eL_mul, eL_neg, eL_lt, eL_le, eL_eq, eL_remN, eL_mod0, ne_eq, Int64.not_lt, Int64.not_le] at c57)
                      (try simp (disch := omega) only [lg_cmp_ge, lg_cmp_le, lg_cmp_gt, lg_cmp_lt, lg_cmp_eq, eL_0, eL_1, eL_m1, eL_LO, eL_HI, eL_W, eL_add, eL_sub, eL_mul, eL_neg, eL_lt, eL_le, eL_eq, eL_remN, eL_mod0, ne_eq, Int64.not_lt, Int64.not_le] at c87)
                      (try simp (disch := omega) only [lg_cmp_ge, lg_cmp_le, lg_cmp_gt, lg_cmp_lt, lg_cmp_eq, eL_0, eL_1, eL_m1, eL_LO, eL_HI, eL_W, eL_add, eL_sub, eL_mul, eL_neg, eL_lt, eL_le, eL_eq, eL_remN, eL_mod0, ne_eq, Int64.not_lt, Int64.not_le] at c138)
                      (try simp (disch := omega) only [lg_cmp_ge, lg_cmp_le, lg_cmp_gt, lg_cmp_lt, lg_cmp_eq, eL_0, eL_1, eL_m1, eL_LO, eL_HI, eL_W, eL_add, eL_sub, eL_mul, eL_neg, eL_lt, eL_le, eL_eq, eL_remN, eL_mod0, ne_eq, Int64.not_lt, Int64.not_le] at c154)
                      (try simp (disch := omega) only [lg_cmp_ge, lg_cmp_le, lg_cmp_gt, lg_cmp_lt, lg_cmp_eq, eL_0, eL_1, eL_m1, eL_LO, eL_HI, eL_W, eL_add, eL_sub, eL_mul, eL_neg, eL_lt, eL_le, eL_eq, eL_remN, eL_mod0, ne_eq, Int64.not_lt, Int64.not_le] at c178)
                      refine ⟨rfl, rfl, sV p, sV (1, 0, 0), ?_⟩
                      unfold restS
                      rw [if_neg n1, if_neg (by omega)]
                      first
                        | (rw [if_pos (by omega), if_pos (by omega), mSpan_mk (by omega) (by omega) (by omega) (by omega)]; done)
                        | (rw [if_pos (by omega), if_neg (by omega), mSpan_mk (by omega) (by omega) (by omega) (by omega)]; done)
                        | (rw [if_neg (by omega), if_pos (by omega), mSpan_mk (by omega) (by omega) (by omega) (by omega)]; done)
                        | (rw [if_neg (by omega), if_neg (by omega), mSpan_mk (by omega) (by omega) (by omega) (by omega)]; done)
                    · refine gi_lconst (q := 182) (v := 0) C (dm_Re_remain 89 rfl) rfl (by decide) ?_
                      refine gi_goto (tgt := 196) C (dm_Re_remain 90 rfl) (by decide) ?_
                      refine gi_lconst (q := 197) (v := 1) C (dm_Re_remain 97 rfl) rfl (by decide) ?_
                      try rw [eL_0]
                      rw [eL_1]
                      refine gi_callv 3 (q := 200) C (dm_Re_remain 98 rfl) rfl my_Va_beSpan lk_Re_74 im_Va_beSpan rfl (c_Va_beSpan ao _ _ _ _ (by repeat (first | exact gi_up_self _ _ _ | assumption | rw [gi_up_ne (by omega)]))) (by repeat (first | exact gi_up_self _ _ _ | assumption | rw [gi_up_ne (by omega)])) rfl rfl ⟨(Nat.le_of_ble_eq_true rfl), (Nat.le_of_ble_eq_true rfl)⟩ (Nat.le_of_ble_eq_true rfl) ⟨(Nat.le_of_ble_eq_true rfl), (Nat.le_of_ble_eq_true rfl)⟩ (fun r197 n197 h197 e197 => ?_)
                      obtain ⟨rfl, rfl, rfl⟩ := e197
                      refine gi_vret C hr (dm_Re_remain 99 rfl) ?_
                      (try simp (disch := omega) only [lg_cmp_ge, lg_cmp_le, lg_cmp_gt, lg_cmp_lt, lg_cmp_eq, eL_0, eL_1, eL_m1, eL_LO, eL_HI, eL_W, eL_add, eL_sub, eL_mul, eL_neg, eL_lt, eL_le, eL_eq, eL_remN, eL_mod0, ne_eq, Int64.not_lt, Int64.not_le] at c57)
                      (try simp (disch := omega) only [lg_cmp_ge, lg_cmp_le, lg_cmp_gt, lg_cmp_lt, lg_cmp_eq, eL_0, eL_1, eL_m1, eL_LO, eL_HI, eL_W, eL_add, eL_sub, eL_mul, eL_neg, eL_lt, eL_le, eL_eq, eL_remN, eL_mod0, ne_eq, Int64.not_lt, Int64.not_le] at c87)
                      (try simp (disch := omega) only [lg_cmp_ge, lg_cmp_le, lg_cmp_gt, lg_cmp_lt, lg_cmp_eq, eL_0, eL_1, eL_m1, eL_LO, eL_HI, eL_W, eL_add, eL_sub, eL_mul, eL_neg, eL_lt, eL_le, eL_eq, eL_remN, eL_mod0, ne_eq, Int64.not_lt, Int64.not_le] at c138)
                      (try simp (disch := omega) only [lg_cmp_ge, lg_cmp_le, lg_cmp_gt, lg_cmp_lt, lg_cmp_eq, eL_0, eL_1, eL_m1, eL_LO, eL_HI, eL_W, eL_add, eL_sub, eL_mul, eL_neg, eL_lt, eL_le, eL_eq, eL_remN, eL_mod0, ne_eq, Int64.not_lt, Int64.not_le] at c154)
                      (try simp (disch := omega) only [lg_cmp_ge, lg_cmp_le, lg_cmp_gt, lg_cmp_lt, lg_cmp_eq, eL_0, eL_1, eL_m1, eL_LO, eL_HI, eL_W, eL_add, eL_sub, eL_mul, eL_neg, eL_lt, eL_le, eL_eq, eL_remN, eL_mod0, ne_eq, Int64.not_lt, Int64.not_le] at c178)
                      refine ⟨rfl, rfl, sV p, sV (1, 0, 0), ?_⟩
                      unfold restS
                      rw [if_neg n1, if_neg (by omega)]
                      first
                        | (rw [if_pos (by omega), if_pos (by omega), mSpan_mk (by omega) (by omega) (by omega) (by omega)]; done)
                        | (rw [if_pos (by omega), if_neg (by omega), mSpan_mk (by omega) (by omega) (by omega) (by omega)]; done)
                        | (rw [if_neg (by omega), if_pos (by omega), mSpan_mk (by omega) (by omega) (by omega) (by omega)]; done)
                        | (rw [if_neg (by omega), if_neg (by omega), mSpan_mk (by omega) (by omega) (by omega) (by omega)]; done)
                  · refine gi_lconst (q := 158) (v := 0) C (dm_Re_remain 76 rfl) rfl (by decide) ?_
                    refine gi_goto (tgt := 172) C (dm_Re_remain 77 rfl) (by decide) ?_
                    refine gi_aload_n (q := 173) (i := 1) C (dm_Re_remain 84 rfl) rfl rfl rfl ?_
                    refine gi_get (q := 176) C (dm_Re_remain 85 rfl) rfl fl_Re_25 (by repeat (first | exact gi_up_self _ _ _ | assumption | rw [gi_up_ne (by omega)])) rfl ?_
                    refine gi_lconst (q := 177) (v := 0) C (dm_Re_remain 86 rfl) rfl (by decide) ?_
                    refine gi_lcmp (q := 178) C (dm_Re_remain 87 rfl) rfl ?_
                    refine gi_if_gt (q := 181) (tgt := 185) C (dm_Re_remain 88 rfl) rfl (by decide) (fun c178 => ?_) (fun c178 => ?_)
                    · refine gi_aload_n (q := 186) (i := 1) C (dm_Re_remain 91 rfl) rfl rfl rfl ?_
                      refine gi_get (q := 189) C (dm_Re_remain 92 rfl) rfl fl_Re_25 (by repeat (first | exact gi_up_self _ _ _ | assumption | rw [gi_up_ne (by omega)])) rfl ?_
                      refine gi_lload (q := 191) C (dm_Re_remain 93 rfl) rfl rfl ?_
                      refine gi_lconst (q := 192) (v := 1) C (dm_Re_remain 94 rfl) rfl (by decide) ?_
                      refine gi_lsub (q := 193) C (dm_Re_remain 95 rfl) rfl ?_
                      rw [eL_1, eL_sub]
                      refine gi_calls 2 (q := 196) C (dm_Re_remain 96 rfl) rfl my_Mt_min_1 lk_Re_94 sm_Mt_min_1 (c_Mt_min_1 x.2.1 (sizH y - 1) (by omega) (by omega) (by omega) (by omega)) rfl rfl ⟨(Nat.le_of_ble_eq_true rfl), (Nat.le_of_ble_eq_true rfl)⟩ (Nat.le_of_ble_eq_true rfl) ⟨(Nat.le_of_ble_eq_true rfl), (Nat.le_of_ble_eq_true rfl)⟩ (fun r193 n193 h193 e193 => ?_)
                      obtain ⟨rfl, rfl, rfl⟩ := e193
                      refine gi_lconst (q := 197) (v := 1) C (dm_Re_remain 97 rfl) rfl (by decide) ?_
                      try rw [eL_0]
                      rw [eL_1]
                      refine gi_callv 3 (q := 200) C (dm_Re_remain 98 rfl) rfl my_Va_beSpan lk_Re_74 im_Va_beSpan rfl (c_Va_beSpan ao _ _ _ _ (by repeat (first | exact gi_up_self _ _ _ | assumption | rw [gi_up_ne (by omega)]))) (by repeat (first | exact gi_up_self _ _ _ | assumption | rw [gi_up_ne (by omega)])) rfl rfl ⟨(Nat.le_of_ble_eq_true rfl), (Nat.le_of_ble_eq_true rfl)⟩ (Nat.le_of_ble_eq_true rfl) ⟨(Nat.le_of_ble_eq_true rfl), (Nat.le_of_ble_eq_true rfl)⟩ (fun r197 n197 h197 e197 => ?_)
                      obtain ⟨rfl, rfl, rfl⟩ := e197
                      refine gi_vret C hr (dm_Re_remain 99 rfl) ?_
                      (try simp (disch := omega) only [lg_cmp_ge, lg_cmp_le, lg_cmp_gt, lg_cmp_lt, lg_cmp_eq, eL_0, eL_1, eL_m1, eL_LO, eL_HI, eL_W, eL_add, eL_sub, eL_mul, eL_neg, eL_lt, eL_le, eL_eq, eL_remN, eL_mod0, ne_eq, Int64.not_lt, Int64.not_le] at c57)
                      (try simp (disch := omega) only [lg_cmp_ge, lg_cmp_le, lg_cmp_gt, lg_cmp_lt, lg_cmp_eq, eL_0, eL_1, eL_m1, eL_LO, eL_HI, eL_W, eL_add, eL_sub, eL_mul, eL_neg, eL_lt, eL_le, eL_eq, eL_remN, eL_mod0, ne_eq, Int64.not_lt, Int64.not_le] at c87)
                      (try simp (disch := omega) only [lg_cmp_ge, lg_cmp_le, lg_cmp_gt, lg_cmp_lt, lg_cmp_eq, eL_0, eL_1, eL_m1, eL_LO, eL_HI, eL_W, eL_add, eL_sub, eL_mul, eL_neg, eL_lt, eL_le, eL_eq, eL_remN, eL_mod0, ne_eq, Int64.not_lt, Int64.not_le] at c138)
                      (try simp (disch := omega) only [lg_cmp_ge, lg_cmp_le, lg_cmp_gt, lg_cmp_lt, lg_cmp_eq, eL_0, eL_1, eL_m1, eL_LO, eL_HI, eL_W, eL_add, eL_sub, eL_mul, eL_neg, eL_lt, eL_le, eL_eq, eL_remN, eL_mod0, ne_eq, Int64.not_lt, Int64.not_le] at c154)
                      (try simp (disch := omega) only [lg_cmp_ge, lg_cmp_le, lg_cmp_gt, lg_cmp_lt, lg_cmp_eq, eL_0, eL_1, eL_m1, eL_LO, eL_HI, eL_W, eL_add, eL_sub, eL_mul, eL_neg, eL_lt, eL_le, eL_eq, eL_remN, eL_mod0, ne_eq, Int64.not_lt, Int64.not_le] at c178)
                      refine ⟨rfl, rfl, sV p, sV (1, 0, 0), ?_⟩
                      unfold restS
                      rw [if_neg n1, if_neg (by omega)]
                      first
                        | (rw [if_pos (by omega), if_pos (by omega), mSpan_mk (by omega) (by omega) (by omega) (by omega)]; done)
                        | (rw [if_pos (by omega), if_neg (by omega), mSpan_mk (by omega) (by omega) (by omega) (by omega)]; done)
                        | (rw [if_neg (by omega), if_pos (by omega), mSpan_mk (by omega) (by omega) (by omega) (by omega)]; done)
                        | (rw [if_neg (by omega), if_neg (by omega), mSpan_mk (by omega) (by omega) (by omega) (by omega)]; done)
                    · refine gi_lconst (q := 182) (v := 0) C (dm_Re_remain 89 rfl) rfl (by decide) ?_
                      refine gi_goto (tgt := 196) C (dm_Re_remain 90 rfl) (by decide) ?_
                      refine gi_lconst (q := 197) (v := 1) C (dm_Re_remain 97 rfl) rfl (by decide) ?_
                      try rw [eL_0]
                      rw [eL_1]
                      refine gi_callv 3 (q := 200) C (dm_Re_remain 98 rfl) rfl my_Va_beSpan lk_Re_74 im_Va_beSpan rfl (c_Va_beSpan ao _ _ _ _ (by repeat (first | exact gi_up_self _ _ _ | assumption | rw [gi_up_ne (by omega)]))) (by repeat (first | exact gi_up_self _ _ _ | assumption | rw [gi_up_ne (by omega)])) rfl rfl ⟨(Nat.le_of_ble_eq_true rfl), (Nat.le_of_ble_eq_true rfl)⟩ (Nat.le_of_ble_eq_true rfl) ⟨(Nat.le_of_ble_eq_true rfl), (Nat.le_of_ble_eq_true rfl)⟩ (fun r197 n197 h197 e197 => ?_)
                      obtain ⟨rfl, rfl, rfl⟩ := e197
                      refine gi_vret C hr (dm_Re_remain 99 rfl) ?_
                      (try simp (disch := omega) only [lg_cmp_ge, lg_cmp_le, lg_cmp_gt, lg_cmp_lt, lg_cmp_eq, eL_0, eL_1, eL_m1, eL_LO, eL_HI, eL_W, eL_add, eL_sub, eL_mul, eL_neg, eL_lt, eL_le, eL_eq, eL_remN, eL_mod0, ne_eq, Int64.not_lt, Int64.not_le] at c57)
                      (try simp (disch := omega) only [lg_cmp_ge, lg_cmp_le, lg_cmp_gt, lg_cmp_lt, lg_cmp_eq, eL_0, eL_1, eL_m1, eL_LO, eL_HI, eL_W, eL_add, eL_sub, eL_mul, eL_neg, eL_lt, eL_le, eL_eq, eL_remN, eL_mod0, ne_eq, Int64.not_lt, Int64.not_le] at c87)
                      (try simp (disch := omega) only [lg_cmp_ge, lg_cmp_le, lg_cmp_gt, lg_cmp_lt, lg_cmp_eq, eL_0, eL_1, eL_m1, eL_LO, eL_HI, eL_W, eL_add, eL_sub, eL_mul, eL_neg, eL_lt, eL_le, eL_eq, eL_remN, eL_mod0, ne_eq, Int64.not_lt, Int64.not_le] at c138)
                      (try simp (disch := omega) only [lg_cmp_ge, lg_cmp_le, lg_cmp_gt, lg_cmp_lt, lg_cmp_eq, eL_0, eL_1, eL_m1, eL_LO, eL_HI, eL_W, eL_add, eL_sub, eL_mul, eL_neg, eL_lt, eL_le, eL_eq, eL_remN, eL_mod0, ne_eq, Int64.not_lt, Int64.not_le] at c154)
                      (try simp (disch := omega) only [lg_cmp_ge, lg_cmp_le, lg_cmp_gt, lg_cmp_lt, lg_cmp_eq, eL_0, eL_1, eL_m1, eL_LO, eL_HI, eL_W, eL_add, eL_sub, eL_mul, eL_neg, eL_lt, eL_le, eL_eq, eL_remN, eL_mod0, ne_eq, Int64.not_lt, Int64.not_le] at c178)
                      refine ⟨rfl, rfl, sV p, sV (1, 0, 0), ?_⟩
                      unfold restS
                      rw [if_neg n1, if_neg (by omega)]
                      first
                        | (rw [if_pos (by omega), if_pos (by omega), mSpan_mk (by omega) (by omega) (by omega) (by omega)]; done)
                        | (rw [if_pos (by omega), if_neg (by omega), mSpan_mk (by omega) (by omega) (by omega) (by omega)]; done)
                        | (rw [if_neg (by omega), if_pos (by omega), mSpan_mk (by omega) (by omega) (by omega) (by omega)]; done)
                        | (rw [if_neg (by omega), if_neg (by omega), mSpan_mk (by omega) (by omega) (by omega) (by omega)]; done)
                · refine gi_aload_n (q := 142) (i := 3) C (dm_Re_remain 66 rfl) rfl rfl rfl ?_
                  refine gi_aload_n (q := 143) (i := 1) C (dm_Re_remain 67 rfl) rfl rfl rfl ?_
                  refine gi_callv 1 (q := 146) C (dm_Re_remain 68 rfl) rfl my_Va_copy lk_Re_97 im_Va_copy rfl (c_Va_copy ao ax _ _ (by repeat (first | exact gi_up_self _ _ _ | assumption | rw [gi_up_ne (by omega)])) (by repeat (first | exact gi_up_self _ _ _ | assumption | rw [gi_up_ne (by omega)])) hxo (wf_s x)) (by repeat (first | exact gi_up_self _ _ _ | assumption | rw [gi_up_ne (by omega)])) rfl rfl ⟨(Nat.le_of_ble_eq_true rfl), (Nat.le_of_ble_eq_true rfl)⟩ (Nat.le_of_ble_eq_true rfl) ⟨(Nat.le_of_ble_eq_true rfl), (Nat.le_of_ble_eq_true rfl)⟩ (fun r143 n143 h143 e143 => ?_)
                  obtain ⟨rfl, rfl, rfl⟩ := e143
                  refine gi_vret C hr (dm_Re_remain 69 rfl) ?_
                  (try simp (disch := omega) only [lg_cmp_ge, lg_cmp_le, lg_cmp_gt, lg_cmp_lt, lg_cmp_eq, eL_0, eL_1, eL_m1, eL_LO, eL_HI, eL_W, eL_add, eL_sub, eL_mul, eL_neg, eL_lt, eL_le, eL_eq, eL_remN, eL_mod0, ne_eq, Int64.not_lt, Int64.not_le] at c57)
                  (try simp (disch := omega) only [lg_cmp_ge, lg_cmp_le, lg_cmp_gt, lg_cmp_lt, lg_cmp_eq, eL_0, eL_1, eL_m1, eL_LO, eL_HI, eL_W, eL_add, eL_sub, eL_mul, eL_neg, eL_lt, eL_le, eL_eq, eL_remN, eL_mod0, ne_eq, Int64.not_lt, Int64.not_le] at c87)
                  (try simp (disch := omega) only [lg_cmp_ge, lg_cmp_le, lg_cmp_gt, lg_cmp_lt, lg_cmp_eq, eL_0, eL_1, eL_m1, eL_LO, eL_HI, eL_W, eL_add, eL_sub, eL_mul, eL_neg, eL_lt, eL_le, eL_eq, eL_remN, eL_mod0, ne_eq, Int64.not_lt, Int64.not_le] at c138)
                  refine ⟨rfl, rfl, sV p, sV (1, 0, 0), ?_⟩
                  unfold restS
                  rw [if_neg n1, if_pos (by omega)]
              · exact absurd c87 (by decide)
          · have hN : min (-p.2.1) q.1 = sizL y := by unfold sizL; rw [eN, eP]
            have hM : max (-p.1) q.2.1 = sizH y := by unfold sizH; rw [eN, eP]
            obtain ⟨a1, a2, a3, -⟩ := (nb p eN).1
            have a0 := (nb p eN).2
            obtain ⟨b1, b2, b3, -⟩ := (pb q eP).1
            have b0 := (pb q eP).2
            rw [wS_s, wS_s]
            rw [eL_W, eL_0]
            refine gi_aload_n (q := 51) (i := 0) C (dm_Re_remain 26 rfl) rfl rfl rfl ?_
            refine gi_get (q := 54) C (dm_Re_remain 27 rfl) rfl fl_Re_12 (by repeat (first | exact gi_up_self _ _ _ | assumption | rw [gi_up_ne (by omega)])) rfl ?_
            refine gi_callv 0 (q := 57) C (dm_Re_remain 28 rfl) rfl my_Va_isNothing lk_Re_120 im_Va_isNothing rfl (c_Va_isNothing (r + 1) _ (by repeat (first | exact gi_up_self _ _ _ | assumption | rw [gi_up_ne (by omega)]))) (by repeat (first | exact gi_up_self _ _ _ | assumption | rw [gi_up_ne (by omega)])) rfl rfl ⟨(Nat.le_of_ble_eq_true rfl), (Nat.le_of_ble_eq_true rfl)⟩ (Nat.le_of_ble_eq_true rfl) ⟨(Nat.le_of_ble_eq_true rfl), (Nat.le_of_ble_eq_true rfl)⟩ (fun r54 n54 h54 e54 => ?_)
            obtain ⟨rfl, rfl, rfl⟩ := e54
            refine gi_if_ne (q := 60) (tgt := 80) C (dm_Re_remain 29 rfl) rfl (by decide) (fun c57 => ?_) (fun c57 => ?_)
            · exact absurd ((no_iff (s := eL 0) (by omega) (by omega) (by omega) (by omega)).mpr (show ¬ p.2.1 < p.1 by omega)) c57
            · refine gi_aload_n (q := 61) (i := 0) C (dm_Re_remain 30 rfl) rfl rfl rfl ?_
              refine gi_get (q := 64) C (dm_Re_remain 31 rfl) rfl fl_Re_12 (by repeat (first | exact gi_up_self _ _ _ | assumption | rw [gi_up_ne (by omega)])) rfl ?_
              refine gi_get (q := 67) C (dm_Re_remain 32 rfl) rfl fl_Re_25 (by repeat (first | exact gi_up_self _ _ _ | assumption | rw [gi_up_ne (by omega)])) rfl ?_
              refine gi_lneg (q := 68) C (dm_Re_remain 33 rfl) rfl ?_
              rw [eL_neg]
              refine gi_lstore (q := 70) C (dm_Re_remain 34 rfl) rfl (Nat.le_of_ble_eq_true rfl) ?_
              refine gi_aload_n (q := 71) (i := 0) C (dm_Re_remain 35 rfl) rfl rfl rfl ?_
              refine gi_get (q := 74) C (dm_Re_remain 36 rfl) rfl fl_Re_12 (by repeat (first | exact gi_up_self _ _ _ | assumption | rw [gi_up_ne (by omega)])) rfl ?_
              refine gi_get (q := 77) C (dm_Re_remain 37 rfl) rfl fl_Re_21 (by repeat (first | exact gi_up_self _ _ _ | assumption | rw [gi_up_ne (by omega)])) rfl ?_
              refine gi_lneg (q := 78) C (dm_Re_remain 38 rfl) rfl ?_
              rw [eL_neg]
              refine gi_lstore (q := 80) C (dm_Re_remain 39 rfl) rfl (Nat.le_of_ble_eq_true rfl) ?_
              refine gi_aload_n (q := 81) (i := 0) C (dm_Re_remain 40 rfl) rfl rfl rfl ?_
              refine gi_get (q := 84) C (dm_Re_remain 41 rfl) rfl fl_Re_18 (by repeat (first | exact gi_up_self _ _ _ | assumption | rw [gi_up_ne (by omega)])) rfl ?_
              refine gi_callv 0 (q := 87) C (dm_Re_remain 42 rfl) rfl my_Va_isNothing lk_Re_120 im_Va_isNothing rfl (c_Va_isNothing (r + 2) _ (by repeat (first | exact gi_up_self _ _ _ | assumption | rw [gi_up_ne (by omega)]))) (by repeat (first | exact gi_up_self _ _ _ | assumption | rw [gi_up_ne (by omega)])) rfl rfl ⟨(Nat.le_of_ble_eq_true rfl), (Nat.le_of_ble_eq_true rfl)⟩ (Nat.le_of_ble_eq_true rfl) ⟨(Nat.le_of_ble_eq_true rfl), (Nat.le_of_ble_eq_true rfl)⟩ (fun r84 n84 h84 e84 => ?_)
              obtain ⟨rfl, rfl, rfl⟩ := e84
              refine gi_if_ne (q := 90) (tgt := 118) C (dm_Re_remain 43 rfl) rfl (by decide) (fun c87 => ?_) (fun c87 => ?_)
              · exact absurd ((no_iff (s := eL 0) (by omega) (by omega) (by omega) (by omega)).mpr (show ¬ q.2.1 < q.1 by omega)) c87
              · refine gi_lload (q := 92) C (dm_Re_remain 44 rfl) rfl rfl ?_
                refine gi_aload_n (q := 93) (i := 0) C (dm_Re_remain 45 rfl) rfl rfl rfl ?_
                refine gi_get (q := 96) C (dm_Re_remain 46 rfl) rfl fl_Re_18 (by repeat (first | exact gi_up_self _ _ _ | assumption | rw [gi_up_ne (by omega)])) rfl ?_
                refine gi_get (q := 99) C (dm_Re_remain 47 rfl) rfl fl_Re_21 (by repeat (first | exact gi_up_self _ _ _ | assumption | rw [gi_up_ne (by omega)])) rfl ?_
                refine gi_calls 2 (q := 102) C (dm_Re_remain 48 rfl) rfl my_Mt_min_1 lk_Re_94 sm_Mt_min_1 (c_Mt_min_1 (-p.2.1) q.1 (by omega) (by omega) (by omega) (by omega)) rfl rfl ⟨(Nat.le_of_ble_eq_true rfl), (Nat.le_of_ble_eq_true rfl)⟩ (Nat.le_of_ble_eq_true rfl) ⟨(Nat.le_of_ble_eq_true rfl), (Nat.le_of_ble_eq_true rfl)⟩ (fun r99 n99 h99 e99 => ?_)
                obtain ⟨rfl, rfl, rfl⟩ := e99
                refine gi_lstore (q := 104) C (dm_Re_remain 49 rfl) rfl (Nat.le_of_ble_eq_true rfl) ?_
                refine gi_lload (q := 106) C (dm_Re_remain 50 rfl) rfl rfl ?_
                refine gi_aload_n (q := 107) (i := 0) C (dm_Re_remain 51 rfl) rfl rfl rfl ?_
                refine gi_get (q := 110) C (dm_Re_remain 52 rfl) rfl fl_Re_18 (by repeat (first | exact gi_up_self _ _ _ | assumption | rw [gi_up_ne (by omega)])) rfl ?_
                refine gi_get (q := 113) C (dm_Re_remain 53 rfl) rfl fl_Re_25 (by repeat (first | exact gi_up_self _ _ _ | assumption | rw [gi_up_ne (by omega)])) rfl ?_
                refine gi_calls 2 (q := 116) C (dm_Re_remain 54 rfl) rfl my_Mt_max_0 lk_Re_80 sm_Mt_max_0 (c_Mt_max_0 (-p.1) q.2.1 (by omega) (by omega) (by omega) (by omega)) rfl rfl ⟨(Nat.le_of_ble_eq_true rfl), (Nat.le_of_ble_eq_true rfl)⟩ (Nat.le_of_ble_eq_true rfl) ⟨(Nat.le_of_ble_eq_true rfl), (Nat.le_of_ble_eq_true rfl)⟩ (fun r113 n113 h113 e113 => ?_)
                obtain ⟨rfl, rfl, rfl⟩ := e113
                refine gi_lstore (q := 118) C (dm_Re_remain 55 rfl) rfl (Nat.le_of_ble_eq_true rfl) ?_
                rw [show eL (min (-p.2.1) q.1) = eL (sizL y) from congrArg eL hN, show eL (max (-p.1) q.2.1) = eL (sizH y) from congrArg eL hM]
                refine gi_aload_n (q := 119) (i := 1) C (dm_Re_remain 56 rfl) rfl rfl rfl ?_
                refine gi_get (q := 122) C (dm_Re_remain 57 rfl) rfl fl_Re_21 (by repeat (first | exact gi_up_self _ _ _ | assumption | rw [gi_up_ne (by omega)])) rfl ?_
                refine gi_calls 1 (q := 125) C (dm_Re_remain 58 rfl) rfl my_Mt_abs lk_Re_126 sm_Mt_abs (c_Mt_abs x.1 (by omega) (by omega)) rfl rfl ⟨(Nat.le_of_ble_eq_true rfl), (Nat.le_of_ble_eq_true rfl)⟩ (Nat.le_of_ble_eq_true rfl) ⟨(Nat.le_of_ble_eq_true rfl), (Nat.le_of_ble_eq_true rfl)⟩ (fun r122 n122 h122 e122 => ?_)
                obtain ⟨rfl, rfl, rfl⟩ := e122
                refine gi_aload_n (q := 126) (i := 1) C (dm_Re_remain 59 rfl) rfl rfl rfl ?_
                refine gi_get (q := 129) C (dm_Re_remain 60 rfl) rfl fl_Re_25 (by repeat (first | exact gi_up_self _ _ _ | assumption | rw [gi_up_ne (by omega)])) rfl ?_
                refine gi_calls 1 (q := 132) C (dm_Re_remain 61 rfl) rfl my_Mt_abs lk_Re_126 sm_Mt_abs (c_Mt_abs x.2.1 (by omega) (by omega)) rfl rfl ⟨(Nat.le_of_ble_eq_true rfl), (Nat.le_of_ble_eq_true rfl)⟩ (Nat.le_of_ble_eq_true rfl) ⟨(Nat.le_of_ble_eq_true rfl), (Nat.le_of_ble_eq_true rfl)⟩ (fun r129 n129 h129 e129 => ?_)
                obtain ⟨rfl, rfl, rfl⟩ := e129
                refine gi_calls 2 (q := 135) C (dm_Re_remain 62 rfl) rfl my_Mt_max_0 lk_Re_80 sm_Mt_max_0 (c_Mt_max_0 (x.1.natAbs : Int) (x.2.1.natAbs : Int) (by omega) (by omega) (by omega) (by omega)) rfl rfl ⟨(Nat.le_of_ble_eq_true rfl), (Nat.le_of_ble_eq_true rfl)⟩ (Nat.le_of_ble_eq_true rfl) ⟨(Nat.le_of_ble_eq_true rfl), (Nat.le_of_ble_eq_true rfl)⟩ (fun r132 n132 h132 e132 => ?_)
                obtain ⟨rfl, rfl, rfl⟩ := e132
                refine gi_lload (q := 137) C (dm_Re_remain 63 rfl) rfl rfl ?_
                refine gi_lcmp (q := 138) C (dm_Re_remain 64 rfl) rfl ?_
                refine gi_if_ge (q := 141) (tgt := 147) C (dm_Re_remain 65 rfl) rfl (by decide) (fun c138 => ?_) (fun c138 => ?_)
                · refine gi_aload_n (q := 148) (i := 3) C (dm_Re_remain 70 rfl) rfl rfl rfl ?_
                  refine gi_aload_n (q := 149) (i := 1) C (dm_Re_remain 71 rfl) rfl rfl rfl ?_
                  refine gi_get (q := 152) C (dm_Re_remain 72 rfl) rfl fl_Re_21 (by repeat (first | exact gi_up_self _ _ _ | assumption | rw [gi_up_ne (by omega)])) rfl ?_
                  refine gi_lconst (q := 153) (v := 0) C (dm_Re_remain 73 rfl) rfl (by decide) ?_
                  refine gi_lcmp (q := 154) C (dm_Re_remain 74 rfl) rfl ?_
                  refine gi_if_lt (q := 157) (tgt := 161) C (dm_Re_remain 75 rfl) rfl (by decide) (fun c154 => ?_) (fun c154 => ?_)
                  · refine gi_aload_n (q := 162) (i := 1) C (dm_Re_remain 78 rfl) rfl rfl rfl ?_
                    refine gi_get (q := 165) C (dm_Re_remain 79 rfl) rfl fl_Re_21 (by repeat (first | exact gi_up_self _ _ _ | assumption | rw [gi_up_ne (by omega)])) rfl ?_
                    refine gi_lconst (q := 166) (v := 1) C (dm_Re_remain 80 rfl) rfl (by decide) ?_
                    refine gi_lload (q := 168) C (dm_Re_remain 81 rfl) rfl rfl ?_
                    refine gi_lsub (q := 169) C (dm_Re_remain 82 rfl) rfl ?_
                    rw [eL_1, eL_sub]
                    refine gi_calls 2 (q := 172) C (dm_Re_remain 83 rfl) rfl my_Mt_max_0 lk_Re_80 sm_Mt_max_0 (c_Mt_max_0 x.1 (1 - sizH y) (by omega) (by omega) (by omega) (by omega)) rfl rfl ⟨(Nat.le_of_ble_eq_true rfl), (Nat.le_of_ble_eq_true rfl)⟩ (Nat.le_of_ble_eq_true rfl) ⟨(Nat.le_of_ble_eq_true rfl), (Nat.le_of_ble_eq_true rfl)⟩ (fun r169 n169 h169 e169 => ?_)
                    obtain ⟨rfl, rfl, rfl⟩ := e169
                    refine gi_aload_n (q := 173) (i := 1) C (dm_Re_remain 84 rfl) rfl rfl rfl ?_
                    refine gi_get (q := 176) C (dm_Re_remain 85 rfl) rfl fl_Re_25 (by repeat (first | exact gi_up_self _ _ _ | assumption | rw [gi_up_ne (by omega)])) rfl ?_
                    refine gi_lconst (q := 177) (v := 0) C (dm_Re_remain 86 rfl) rfl (by decide) ?_
                    refine gi_lcmp (q := 178) C (dm_Re_remain 87 rfl) rfl ?_
                    refine gi_if_gt (q := 181) (tgt := 185) C (dm_Re_remain 88 rfl) rfl (by decide) (fun c178 => ?_) (fun c178 => ?_)
                    · refine gi_aload_n (q := 186) (i := 1) C (dm_Re_remain 91 rfl) rfl rfl rfl ?_
                      refine gi_get (q := 189) C (dm_Re_remain 92 rfl) rfl fl_Re_25 (by repeat (first | exact gi_up_self _ _ _ | assumption | rw [gi_up_ne (by omega)])) rfl ?_
                      refine gi_lload (q := 191) C (dm_Re_remain 93 rfl) rfl rfl ?_
                      refine gi_lconst (q := 192) (v := 1) C (dm_Re_remain 94 rfl) rfl (by decide) ?_
                      refine gi_lsub (q := 193) C (dm_Re_remain 95 rfl) rfl ?_
                      rw [eL_1, eL_sub]
                      refine gi_calls 2 (q := 196) C (dm_Re_remain 96 rfl) rfl my_Mt_min_1 lk_Re_94 sm_Mt_min_1 (c_Mt_min_1 x.2.1 (sizH y - 1) (by omega) (by omega) (by omega) (by omega)) rfl rfl ⟨(Nat.le_of_ble_eq_true rfl), (Nat.le_of_ble_eq_true rfl)⟩ (Nat.le_of_ble_eq_true rfl) ⟨(Nat.le_of_ble_eq_true rfl), (Nat.le_of_ble_eq_true rfl)⟩ (fun r193 n193 h193 e193 => ?_)
                      obtain ⟨rfl, rfl, rfl⟩ := e193
                      refine gi_lconst (q := 197) (v := 1) C (dm_Re_remain 97 rfl) rfl (by decide) ?_
                      try rw [eL_0]
                      rw [eL_1]
                      refine gi_callv 3 (q := 200) C (dm_Re_remain 98 rfl) rfl my_Va_beSpan lk_Re_74 im_Va_beSpan rfl (c_Va_beSpan ao _ _ _ _ (by repeat (first | exact gi_up_self _ _ _ | assumption | rw [gi_up_ne (by omega)]))) (by repeat (first | exact gi_up_self _ _ _ | assumption | rw [gi_up_ne (by omega)])) rfl rfl ⟨(Nat.le_of_ble_eq_true rfl), (Nat.le_of_ble_eq_true rfl)⟩ (Nat.le_of_ble_eq_true rfl) ⟨(Nat.le_of_ble_eq_true rfl), (Nat.le_of_ble_eq_true rfl)⟩ (fun r197 n197 h197 e197 => ?_)
                      obtain ⟨rfl, rfl, rfl⟩ := e197
                      refine gi_vret C hr (dm_Re_remain 99 rfl) ?_
                      (try simp (disch := omega) only [lg_cmp_ge, lg_cmp_le, lg_cmp_gt, lg_cmp_lt, lg_cmp_eq, eL_0, eL_1, eL_m1, eL_LO, eL_HI, eL_W, eL_add, eL_sub, eL_mul, eL_neg, eL_lt, eL_le, eL_eq, eL_remN, eL_mod0, ne_eq, Int64.not_lt, Int64.not_le] at c57)
                      (try simp (disch := omega) only [lg_cmp_ge, lg_cmp_le, lg_cmp_gt, lg_cmp_lt, lg_cmp_eq, eL_0, eL_1, eL_m1, eL_LO, eL_HI, eL_W, eL_add, eL_sub, eL_mul, eL_neg, eL_lt, eL_le, eL_eq, eL_remN, eL_mod0, ne_eq, Int64.not_lt, Int64.not_le] at c87)
                      (try simp (disch := omega) only [lg_cmp_ge, lg_cmp_le, lg_cmp_gt, lg_cmp_lt, lg_cmp_eq, eL_0, eL_1, eL_m1, eL_LO, eL_HI, eL_W, eL_add, eL_sub, eL_mul, eL_neg, eL_lt, eL_le, eL_eq, eL_remN, eL_mod0, ne_eq, Int64.not_lt, Int64.not_le] at c138)
                      (try simp (disch := omega) only [lg_cmp_ge, lg_cmp_le, lg_cmp_gt, lg_cmp_lt, lg_cmp_eq, eL_0, eL_1, eL_m1, eL_LO, eL_HI, eL_W, eL_add, eL_sub, eL_mul, eL_neg, eL_lt, eL_le, eL_eq, eL_remN, eL_mod0, ne_eq, Int64.not_lt, Int64.not_le] at c154)
                      (try simp (disch := omega) only [lg_cmp_ge, lg_cmp_le, lg_cmp_gt, lg_cmp_lt, lg_cmp_eq, eL_0, eL_1, eL_m1, eL_LO, eL_HI, eL_W, eL_add, eL_sub, eL_mul, eL_neg, eL_lt, eL_le, eL_eq, eL_remN, eL_mod0, ne_eq, Int64.not_lt, Int64.not_le] at c178)
                      refine ⟨rfl, rfl, sV p, sV q, ?_⟩
                      unfold restS
                      rw [if_neg n1, if_neg (by omega)]
                      first
                        | (rw [if_pos (by omega), if_pos (by omega), mSpan_mk (by omega) (by omega) (by omega) (by omega)]; done)
                        | (rw [if_pos (by omega), if_neg (by omega), mSpan_mk (by omega) (by omega) (by omega) (by omega)]; done)
                        | (rw [if_neg (by omega), if_pos (by omega), mSpan_mk (by omega) (by omega) (by omega) (by omega)]; done)
                        | (rw [if_neg (by omega), if_neg (by omega), mSpan_mk (by omega) (by omega) (by omega) (by omega)]; done)
                    · refine gi_lconst (q := 182) (v := 0) C (dm_Re_remain 89 rfl) rfl (by decide) ?_
                      refine gi_goto (tgt := 196) C (dm_Re_remain 90 rfl) (by decide) ?_
                      refine gi_lconst (q := 197) (v := 1) C (dm_Re_remain 97 rfl) rfl (by decide) ?_
                      try rw [eL_0]
                      rw [eL_1]
                      refine gi_callv 3 (q := 200) C (dm_Re_remain 98 rfl) rfl my_Va_beSpan lk_Re_74 im_Va_beSpan rfl (c_Va_beSpan ao _ _ _ _ (by repeat (first | exact gi_up_self _ _ _ | assumption | rw [gi_up_ne (by omega)]))) (by repeat (first | exact gi_up_self _ _ _ | assumption | rw [gi_up_ne (by omega)])) rfl rfl ⟨(Nat.le_of_ble_eq_true rfl), (Nat.le_of_ble_eq_true rfl)⟩ (Nat.le_of_ble_eq_true rfl) ⟨(Nat.le_of_ble_eq_true rfl), (Nat.le_of_ble_eq_true rfl)⟩ (fun r197 n197 h197 e197 => ?_)
                      obtain ⟨rfl, rfl, rfl⟩ := e197
                      refine gi_vret C hr (dm_Re_remain 99 rfl) ?_
                      (try simp (disch := omega) only [lg_cmp_ge, lg_cmp_le, lg_cmp_gt, lg_cmp_lt, lg_cmp_eq, eL_0, eL_1, eL_m1, eL_LO, eL_HI, eL_W, eL_add, eL_sub, eL_mul, eL_neg, eL_lt, eL_le, eL_eq, eL_remN, eL_mod0, ne_eq, Int64.not_lt, Int64.not_le] at c57)
                      (try simp (disch := omega) only [lg_cmp_ge, lg_cmp_le, lg_cmp_gt, lg_cmp_lt, lg_cmp_eq, eL_0, eL_1, eL_m1, eL_LO, eL_HI, eL_W, eL_add, eL_sub, eL_mul, eL_neg, eL_lt, eL_le, eL_eq, eL_remN, eL_mod0, ne_eq, Int64.not_lt, Int64.not_le] at c87)
                      (try simp (disch := omega) only [lg_cmp_ge, lg_cmp_le, lg_cmp_gt, lg_cmp_lt, lg_cmp_eq, eL_0, eL_1, eL_m1, eL_LO, eL_HI, eL_W, eL_add, eL_sub, eL_mul, eL_neg, eL_lt, eL_le, eL_eq, eL_remN, eL_mod0, ne_eq, Int64.not_lt, Int64.not_le] at c138)
                      (try simp (disch := omega) only [lg_cmp_ge, lg_cmp_le, lg_cmp_gt, lg_cmp_lt, lg_cmp_eq, eL_0, eL_1, eL_m1, eL_LO, eL_HI, eL_W, eL_add, eL_sub, eL_mul, eL_neg, eL_lt, eL_le, eL_eq, eL_remN, eL_mod0, ne_eq, Int64.not_lt, Int64.not_le] at c154)
                      (try simp (disch := omega) only [lg_cmp_ge, lg_cmp_le, lg_cmp_gt, lg_cmp_lt, lg_cmp_eq, eL_0, eL_1, eL_m1, eL_LO, eL_HI, eL_W, eL_add, eL_sub, eL_mul, eL_neg, eL_lt, eL_le, eL_eq, eL_remN, eL_mod0, ne_eq, Int64.not_lt, Int64.not_le] at c178)
                      refine ⟨rfl, rfl, sV p, sV q, ?_⟩
                      unfold restS
                      rw [if_neg n1, if_neg (by omega)]
                      first
                        | (rw [if_pos (by omega), if_pos (by omega), mSpan_mk (by omega) (by omega) (by omega) (by omega)]; done)
                        | (rw [if_pos (by omega), if_neg (by omega), mSpan_mk (by omega) (by omega) (by omega) (by omega)]; done)
                        | (rw [if_neg (by omega), if_pos (by omega), mSpan_mk (by omega) (by omega) (by omega) (by omega)]; done)
                        | (rw [if_neg (by omega), if_neg (by omega), mSpan_mk (by omega) (by omega) (by omega) (by omega)]; done)
                  · refine gi_lconst (q := 158) (v := 0) C (dm_Re_remain 76 rfl) rfl (by decide) ?_
                    refine gi_goto (tgt := 172) C (dm_Re_remain 77 rfl) (by decide) ?_
                    refine gi_aload_n (q := 173) (i := 1) C (dm_Re_remain 84 rfl) rfl rfl rfl ?_
                    refine gi_get (q := 176) C (dm_Re_remain 85 rfl) rfl fl_Re_25 (by repeat (first | exact gi_up_self _ _ _ | assumption | rw [gi_up_ne (by omega)])) rfl ?_
                    refine gi_lconst (q := 177) (v := 0) C (dm_Re_remain 86 rfl) rfl (by decide) ?_
                    refine gi_lcmp (q := 178) C (dm_Re_remain 87 rfl) rfl ?_
                    refine gi_if_gt (q := 181) (tgt := 185) C (dm_Re_remain 88 rfl) rfl (by decide) (fun c178 => ?_) (fun c178 => ?_)
                    · refine gi_aload_n (q := 186) (i := 1) C (dm_Re_remain 91 rfl) rfl rfl rfl ?_
                      refine gi_get (q := 189) C (dm_Re_remain 92 rfl) rfl fl_Re_25 (by repeat (first | exact gi_up_self _ _ _ | assumption | rw [gi_up_ne (by omega)])) rfl ?_
                      refine gi_lload (q := 191) C (dm_Re_remain 93 rfl) rfl rfl ?_
                      refine gi_lconst (q := 192) (v := 1) C (dm_Re_remain 94 rfl) rfl (by decide) ?_
                      refine gi_lsub (q := 193) C (dm_Re_remain 95 rfl) rfl ?_
                      rw [eL_1, eL_sub]
                      refine gi_calls 2 (q := 196) C (dm_Re_remain 96 rfl) rfl my_Mt_min_1 lk_Re_94 sm_Mt_min_1 (c_Mt_min_1 x.2.1 (sizH y - 1) (by omega) (by omega) (by omega) (by omega)) rfl rfl ⟨(Nat.le_of_ble_eq_true rfl), (Nat.le_of_ble_eq_true rfl)⟩ (Nat.le_of_ble_eq_true rfl) ⟨(Nat.le_of_ble_eq_true rfl), (Nat.le_of_ble_eq_true rfl)⟩ (fun r193 n193 h193 e193 => ?_)
                      obtain ⟨rfl, rfl, rfl⟩ := e193
                      refine gi_lconst (q := 197) (v := 1) C (dm_Re_remain 97 rfl) rfl (by decide) ?_
                      try rw [eL_0]
                      rw [eL_1]
                      refine gi_callv 3 (q := 200) C (dm_Re_remain 98 rfl) rfl my_Va_beSpan lk_Re_74 im_Va_beSpan rfl (c_Va_beSpan ao _ _ _ _ (by repeat (first | exact gi_up_self _ _ _ | assumption | rw [gi_up_ne (by omega)]))) (by repeat (first | exact gi_up_self _ _ _ | assumption | rw [gi_up_ne (by omega)])) rfl rfl ⟨(Nat.le_of_ble_eq_true rfl), (Nat.le_of_ble_eq_true rfl)⟩ (Nat.le_of_ble_eq_true rfl) ⟨(Nat.le_of_ble_eq_true rfl), (Nat.le_of_ble_eq_true rfl)⟩ (fun r197 n197 h197 e197 => ?_)
                      obtain ⟨rfl, rfl, rfl⟩ := e197
                      refine gi_vret C hr (dm_Re_remain 99 rfl) ?_
                      (try simp (disch := omega) only [lg_cmp_ge, lg_cmp_le, lg_cmp_gt, lg_cmp_lt, lg_cmp_eq, eL_0, eL_1, eL_m1, eL_LO, eL_HI, eL_W, eL_add, eL_sub, eL_mul, eL_neg, eL_lt, eL_le, eL_eq, eL_remN, eL_mod0, ne_eq, Int64.not_lt, Int64.not_le] at c57)
                      (try simp (disch := omega) only [lg_cmp_ge, lg_cmp_le, lg_cmp_gt, lg_cmp_lt, lg_cmp_eq, eL_0, eL_1, eL_m1, eL_LO, eL_HI, eL_W, eL_add, eL_sub, eL_mul, eL_neg, eL_lt, eL_le, eL_eq, eL_remN, eL_mod0, ne_eq, Int64.not_lt, Int64.not_le] at c87)
                      (try simp (disch := omega) only [lg_cmp_ge, lg_cmp_le, lg_cmp_gt, lg_cmp_lt, lg_cmp_eq, eL_0, eL_1, eL_m1, eL_LO, eL_HI, eL_W, eL_add, eL_sub, eL_mul, eL_neg, eL_lt, eL_le, eL_eq, eL_remN, eL_mod0, ne_eq, Int64.not_lt, Int64.not_le] at c138)
                      (try simp (disch := omega) only [lg_cmp_ge, lg_cmp_le, lg_cmp_gt, lg_cmp_lt, lg_cmp_eq, eL_0, eL_1, eL_m1, eL_LO, eL_HI, eL_W, eL_add, eL_sub, eL_mul, eL_neg, eL_lt, eL_le, eL_eq, eL_remN, eL_mod0, ne_eq, Int64.not_lt, Int64.not_le] at c154)
                      (try simp (disch := omega) only [lg_cmp_ge, lg_cmp_le, lg_cmp_gt, lg_cmp_lt, lg_cmp_eq, eL_0, eL_1, eL_m1, eL_LO, eL_HI, eL_W, eL_add, eL_sub, eL_mul, eL_neg, eL_lt, eL_le, eL_eq, eL_remN, eL_mod0, ne_eq, Int64.not_lt, Int64.not_le] at c178)
                      refine ⟨rfl, rfl, sV p, sV q, ?_⟩
                      unfold restS
                      rw [if_neg n1, if_neg (by omega)]
                      first
                        | (rw [if_pos (by omega), if_pos (by omega), mSpan_mk (by omega) (by omega) (by omega) (by omega)]; done)
                        | (rw [if_pos (by omega), if_neg (by omega), mSpan_mk (by omega) (by omega) (by omega) (by omega)]; done)
                        | (rw [if_neg (by omega), if_pos (by omega), mSpan_mk (by omega) (by omega) (by omega) (by omega)]; done)
                        | (rw [if_neg (by omega), if_neg (by omega), mSpan_mk (by omega) (by omega) (by omega) (by omega)]; done)
                    · refine gi_lconst (q := 182) (v := 0) C (dm_Re_remain 89 rfl) rfl (by decide) ?_
                      refine gi_goto (tgt := 196) C (dm_Re_remain 90 rfl) (by decide) ?_
                      refine gi_lconst (q := 197) (v := 1) C (dm_Re_remain 97 rfl) rfl (by decide) ?_
                      try rw [eL_0]
                      rw [eL_1]
                      refine gi_callv 3 (q := 200) C (dm_Re_remain 98 rfl) rfl my_Va_beSpan lk_Re_74 im_Va_beSpan rfl (c_Va_beSpan ao _ _ _ _ (by repeat (first | exact gi_up_self _ _ _ | assumption | rw [gi_up_ne (by omega)]))) (by repeat (first | exact gi_up_self _ _ _ | assumption | rw [gi_up_ne (by omega)])) rfl rfl ⟨(Nat.le_of_ble_eq_true rfl), (Nat.le_of_ble_eq_true rfl)⟩ (Nat.le_of_ble_eq_true rfl) ⟨(Nat.le_of_ble_eq_true rfl), (Nat.le_of_ble_eq_true rfl)⟩ (fun r197 n197 h197 e197 => ?_)
                      obtain ⟨rfl, rfl, rfl⟩ := e197
                      refine gi_vret C hr (dm_Re_remain 99 rfl) ?_
                      (try simp (disch := omega) only [lg_cmp_ge, lg_cmp_le, lg_cmp_gt, lg_cmp_lt, lg_cmp_eq, eL_0, eL_1, eL_m1, eL_LO, eL_HI, eL_W, eL_add, eL_sub, eL_mul, eL_neg, eL_lt, eL_le, eL_eq, eL_remN, eL_mod0, ne_eq, Int64.not_lt, Int64.not_le] at c57)
                      (try simp (disch := omega) only [lg_cmp_ge, lg_cmp_le, lg_cmp_gt, lg_cmp_lt, lg_cmp_eq, eL_0, eL_1, eL_m1, eL_LO, eL_HI, eL_W, eL_add, eL_sub, eL_mul, eL_neg, eL_lt, eL_le, eL_eq, eL_remN, eL_mod0, ne_eq, Int64.not_lt, Int64.not_le] at c87)
                      (try simp (disch := omega) only [lg_cmp_ge, lg_cmp_le, lg_cmp_gt, lg_cmp_lt, lg_cmp_eq, eL_0, eL_1, eL_m1, eL_LO, eL_HI, eL_W, eL_add, eL_sub, eL_mul, eL_neg, eL_lt, eL_le, eL_eq, eL_remN, eL_mod0, ne_eq, Int64.not_lt, Int64.not_le] at c138)
                      (try simp (disch := omega) only [lg_cmp_ge, lg_cmp_le, lg_cmp_gt, lg_cmp_lt, lg_cmp_eq, eL_0, eL_1, eL_m1, eL_LO, eL_HI, eL_W, eL_add, eL_sub, eL_mul, eL_neg, eL_lt, eL_le, eL_eq, eL_remN, eL_mod0, ne_eq, Int64.not_lt, Int64.not_le] at c154)
                      (try simp (disch := omega) only [lg_cmp_ge, lg_cmp_le, lg_cmp_gt, lg_cmp_lt, lg_cmp_eq, eL_0, eL_1, eL_m1, eL_LO, eL_HI, eL_W, eL_add, eL_sub, eL_mul, eL_neg, eL_lt, eL_le, eL_eq, eL_remN, eL_mod0, ne_eq, Int64.not_lt, Int64.not_le] at c178)
                      refine ⟨rfl, rfl, sV p, sV q, ?_⟩
                      unfold restS
                      rw [if_neg n1, if_neg (by omega)]
                      first
                        | (rw [if_pos (by omega), if_pos (by omega), mSpan_mk (by omega) (by omega) (by omega) (by omega)]; done)
                        | (rw [if_pos (by omega), if_neg (by omega), mSpan_mk (by omega) (by omega) (by omega) (by omega)]; done)
                        | (rw [if_neg (by omega), if_pos (by omega), mSpan_mk (by omega) (by omega) (by omega) (by omega)]; done)
                        | (rw [if_neg (by omega), if_neg (by omega), mSpan_mk (by omega) (by omega) (by omega) (by omega)]; done)
                · refine gi_aload_n (q := 142) (i := 3) C (dm_Re_remain 66 rfl) rfl rfl rfl ?_
                  refine gi_aload_n (q := 143) (i := 1) C (dm_Re_remain 67 rfl) rfl rfl rfl ?_
                  refine gi_callv 1 (q := 146) C (dm_Re_remain 68 rfl) rfl my_Va_copy lk_Re_97 im_Va_copy rfl (c_Va_copy ao ax _ _ (by repeat (first | exact gi_up_self _ _ _ | assumption | rw [gi_up_ne (by omega)])) (by repeat (first | exact gi_up_self _ _ _ | assumption | rw [gi_up_ne (by omega)])) hxo (wf_s x)) (by repeat (first | exact gi_up_self _ _ _ | assumption | rw [gi_up_ne (by omega)])) rfl rfl ⟨(Nat.le_of_ble_eq_true rfl), (Nat.le_of_ble_eq_true rfl)⟩ (Nat.le_of_ble_eq_true rfl) ⟨(Nat.le_of_ble_eq_true rfl), (Nat.le_of_ble_eq_true rfl)⟩ (fun r143 n143 h143 e143 => ?_)
                  obtain ⟨rfl, rfl, rfl⟩ := e143
                  refine gi_vret C hr (dm_Re_remain 69 rfl) ?_
                  (try simp (disch := omega) only [lg_cmp_ge, lg_cmp_le, lg_cmp_gt, lg_cmp_lt, lg_cmp_eq, eL_0, eL_1, eL_m1, eL_LO, eL_HI, eL_W, eL_add, eL_sub, eL_mul, eL_neg, eL_lt, eL_le, eL_eq, eL_remN, eL_mod0, ne_eq, Int64.not_lt, Int64.not_le] at c57)
                  (try simp (disch := omega) only [lg_cmp_ge, lg_cmp_le, lg_cmp_gt, lg_cmp_lt, lg_cmp_eq, eL_0, eL_1, eL_m1, eL_LO, eL_HI, eL_W, eL_add, eL_sub, eL_mul, eL_neg, eL_lt, eL_le, eL_eq, eL_remN, eL_mod0, ne_eq, Int64.not_lt, Int64.not_le] at c87)
                  (try simp (disch := omega) only [lg_cmp_ge, lg_cmp_le, lg_cmp_gt, lg_cmp_lt, lg_cmp_eq, eL_0, eL_1, eL_m1, eL_LO, eL_HI, eL_W, eL_add, eL_sub, eL_mul, eL_neg, eL_lt, eL_le, eL_eq, eL_remN, eL_mod0, ne_eq, Int64.not_lt, Int64.not_le] at c138)
                  refine ⟨rfl, rfl, sV p, sV q, ?_⟩
                  unfold restS
                  rw [if_neg n1, if_pos (by omega)]
      · have e1 : x.1 = x.2.1 := sgT (by omega) (by omega) (by omega) (by omega) c4
        have e2 : y.1 = y.2.1 := sgT (by omega) (by omega) (by omega) (by omega) c11
        refine gi_aload_n (q := 24) (i := 3) C (dm_Re_remain 11 rfl) rfl rfl rfl ?_
        refine gi_aload_n (q := 25) (i := 1) C (dm_Re_remain 12 rfl) rfl rfl rfl ?_
        refine gi_get (q := 28) C (dm_Re_remain 13 rfl) rfl fl_Re_21 (by repeat (first | exact gi_up_self _ _ _ | assumption | rw [gi_up_ne (by omega)])) rfl ?_
        refine gi_aload_n (q := 29) (i := 2) C (dm_Re_remain 14 rfl) rfl rfl rfl ?_
        refine gi_get (q := 32) C (dm_Re_remain 15 rfl) rfl fl_Re_21 (by repeat (first | exact gi_up_self _ _ _ | assumption | rw [gi_up_ne (by omega)])) rfl ?_
        refine gi_lrem (q := 33) C (dm_Re_remain 16 rfl) rfl (fun q => c20 ((lg_cmp_eq _ _).mpr q)) ?_
        rw [eL_rem (by omega) (by omega) (by omega) (by omega)]
        refine gi_callv 1 (q := 36) C (dm_Re_remain 17 rfl) rfl my_Va_beSingle lk_Re_90 im_Va_beSingle rfl (c_Va_beSingle ao v _ hc) hc rfl rfl ⟨(Nat.le_of_ble_eq_true rfl), (Nat.le_of_ble_eq_true rfl)⟩ (Nat.le_of_ble_eq_true rfl) ⟨(Nat.le_of_ble_eq_true rfl), (Nat.le_of_ble_eq_true rfl)⟩ (fun r33 n33 h33 e33 => ?_)
        obtain ⟨rfl, rfl, rfl⟩ := e33
        refine gi_vret C hr (dm_Re_remain 18 rfl) ?_
        refine ⟨rfl, rfl, u, u', ?_⟩
        rw [gi_up_id H1, gi_up_id H2]
        unfold restS
        rw [if_pos ⟨e1, e2⟩]
end RE4
