-- needs: 68 69
section RE6
variable {l : Launch} {V : gi_V} {n : Nat} {h : gi_H}
set_option maxHeartbeats 4000000 in
set_option maxRecDepth 100000 in
theorem c_Re_reckon (o : Nat) (r ax ay ao : Nat) (x y : Sp) (u u' v : mV) (hx : okS x) (hy : okS y) (h7 : 7 ≤ o) (h18 : o ≤ 18) (h0 : o = 10 ∨ o = 11 → ¬ (y.1 = 0 ∧ y.2.1 = 0)) (H : re_at r u u' h) (x1 : ax ≠ r) (x2 : ax ≠ r + 1) (x3 : ax ≠ r + 2) (q1 : ay ≠ r) (q2 : ay ≠ r + 1) (q3 : ay ≠ r + 2) (p1 : ao ≠ r) (p2 : ao ≠ r + 1) (p3 : ao ≠ r + 2) (hxo : ao ≠ ax) (hyo : ao ≠ ay) (ha : h ax = some (eV (sV x))) (hb : h ay = some (eV (sV y))) (hc : h ao = some (eV v)) : gi_T l V y_Re_reckon b_Re_reckon 5 none 3 96 0 0 [.ref r, .int (nI o), .ref ax, .ref ay, .ref ao] n h (fun z n' h' => z = none ∧ n' = n ∧ ∃ w w' : mV, h' = gi_up (gi_up (gi_up h (r + 1) (eV w)) (r + 2) (eV w')) ao (eV (sV (actS o x y)))) := by
  refine gi_enter (by decide) (Nat.le_of_ble_eq_true rfl) ?_
  intro _ _ _ _ _ _ _ _ C hr hnm
  obtain ⟨o1, o2, o3, o4, o5, o6⟩ := id hx
  have o7 := hx.st
  obtain ⟨w1, w2, w3, w4, w5, w6⟩ := id hy
  have w7 := hy.st
  obtain ⟨H0, H1, H2⟩ := id H
  have gb := gcd_le32 o4 (by omega) w4 (show y.2.2 ≤ 4294967296 by omega)
  have p5 : ∀ k : Nat, k ≤ 31 → (1 : Int) ≤ 2 ^ k ∧ (2 : Int) ^ k ≤ 2147483648 := fun k hk => ⟨Int.pow_pos (by decide), by have := pow2_le hk; rw [p31] at this; exact this⟩
  have p6 := p5 (y.1 % 32).toNat (by omega)
  refine gi_iload_n (q := 1) (i := 1) C (dm_Re_reckon 0 rfl) rfl rfl rfl ?_
  refine gi_switch (lo := 7) (hi := 18) (by decide) (fun c1 => ?_) (fun i1 u1 v1 c1 => ?_)
  · refine gi_tableOut (tgt := 297) C (dm_Re_reckon 1 rfl) c1 (by decide) ?_
    refine gi_aload_n (q := 298) (i := 0) C (dm_Re_reckon 121 rfl) rfl rfl rfl ?_
    refine gi_aload_n (q := 299) (i := 2) C (dm_Re_reckon 122 rfl) rfl rfl rfl ?_
    refine gi_aload_n (q := 300) (i := 3) C (dm_Re_reckon 123 rfl) rfl rfl rfl ?_
    refine gi_aload (q := 302) C (dm_Re_reckon 124 rfl) rfl rfl ?_
    refine gi_callv 3 (q := 305) C (dm_Re_reckon 125 rfl) rfl my_Re_shiftBare lk_Re_69 im_Re_shiftBare rfl (c_Re_shiftBare r ax ay ao x y _ v hx hy H0 ha hb hc hxo) H0 rfl rfl ⟨(Nat.le_of_ble_eq_true rfl), (Nat.le_of_ble_eq_true rfl)⟩ (Nat.le_of_ble_eq_true rfl) ⟨(Nat.le_of_ble_eq_true rfl), (Nat.le_of_ble_eq_true rfl)⟩ (fun r302 n302 h302 e302 => ?_)
    obtain ⟨rfl, rfl, rfl⟩ := e302
    refine gi_vret C hr (dm_Re_reckon 126 rfl) ?_
    first
      | (
         have ho : o = 17 := (nI_eq (b := 17) (by omega) (by omega)).mp c1
         subst ho
         refine ⟨rfl, rfl, u, u', ?_⟩
         rw [gi_up_id H1, gi_up_id H2]
         rfl)
      | (exfalso
         rw [nI_toInt (by omega)] at c1
         omega)
  · have w1 : i1 = 7 ∨ i1 = 8 ∨ i1 = 9 ∨ i1 = 10 ∨ i1 = 11 ∨ i1 = 12 ∨ i1 = 13 ∨ i1 = 14 ∨ i1 = 15 ∨ i1 = 16 ∨ i1 = 17 ∨ i1 = 18 := by omega
    rcases w1 with rfl | rfl | rfl | rfl | rfl | rfl | rfl | rfl | rfl | rfl | rfl | rfl
    · refine gi_tableIn (off := 63) (tgt := 64) C (dm_Re_reckon 1 rfl) (by decide) (by decide) rfl (by decide) ?_
      refine gi_aload_n (q := 65) (i := 0) C (dm_Re_reckon 2 rfl) rfl rfl rfl ?_
      refine gi_aload_n (q := 66) (i := 2) C (dm_Re_reckon 3 rfl) rfl rfl rfl ?_
      refine gi_get (q := 69) C (dm_Re_reckon 4 rfl) rfl fl_Re_21 (by repeat (first | exact gi_up_self _ _ _ | assumption | rw [gi_up_ne (by omega)])) rfl ?_
      refine gi_aload_n (q := 70) (i := 3) C (dm_Re_reckon 5 rfl) rfl rfl rfl ?_
      refine gi_get (q := 73) C (dm_Re_reckon 6 rfl) rfl fl_Re_21 (by repeat (first | exact gi_up_self _ _ _ | assumption | rw [gi_up_ne (by omega)])) rfl ?_
      refine gi_ladd (q := 74) C (dm_Re_reckon 7 rfl) rfl ?_
      rw [eL_add]
      refine gi_aload_n (q := 75) (i := 2) C (dm_Re_reckon 8 rfl) rfl rfl rfl ?_
      refine gi_get (q := 78) C (dm_Re_reckon 9 rfl) rfl fl_Re_25 (by repeat (first | exact gi_up_self _ _ _ | assumption | rw [gi_up_ne (by omega)])) rfl ?_
      refine gi_aload_n (q := 79) (i := 3) C (dm_Re_reckon 10 rfl) rfl rfl rfl ?_
      refine gi_get (q := 82) C (dm_Re_reckon 11 rfl) rfl fl_Re_25 (by repeat (first | exact gi_up_self _ _ _ | assumption | rw [gi_up_ne (by omega)])) rfl ?_
      refine gi_ladd (q := 83) C (dm_Re_reckon 12 rfl) rfl ?_
      rw [eL_add]
      refine gi_aload_n (q := 84) (i := 2) C (dm_Re_reckon 13 rfl) rfl rfl rfl ?_
      refine gi_get (q := 87) C (dm_Re_reckon 14 rfl) rfl fl_Re_28 (by repeat (first | exact gi_up_self _ _ _ | assumption | rw [gi_up_ne (by omega)])) rfl ?_
      refine gi_aload_n (q := 88) (i := 3) C (dm_Re_reckon 15 rfl) rfl rfl rfl ?_
      refine gi_get (q := 91) C (dm_Re_reckon 16 rfl) rfl fl_Re_28 (by repeat (first | exact gi_up_self _ _ _ | assumption | rw [gi_up_ne (by omega)])) rfl ?_
      refine gi_calls 2 (q := 94) C (dm_Re_reckon 17 rfl) rfl my_H_gcd lk_Re_31 sm_H_gcd (c_H_gcd x.2.2 y.2.2 o4 (by omega) w4 (by omega)) rfl rfl ⟨(Nat.le_of_ble_eq_true rfl), (Nat.le_of_ble_eq_true rfl)⟩ (Nat.le_of_ble_eq_true rfl) ⟨(Nat.le_of_ble_eq_true rfl), (Nat.le_of_ble_eq_true rfl)⟩ (fun r91 n91 h91 e91 => ?_)
      obtain ⟨rfl, q91, u91⟩ := e91
      rw [q91, u91]
      refine gi_aload (q := 96) C (dm_Re_reckon 18 rfl) rfl rfl ?_
      refine gi_callv 4 (q := 99) C (dm_Re_reckon 19 rfl) rfl my_Re_turn lk_Re_35 im_Re_turn rfl (c_Re_turn r ao (x.1 + y.1) (x.2.1 + y.2.1) (Int.gcd x.2.2 y.2.2 : Nat) v (by omega) (by omega) (by omega) (by omega) (by omega) (by omega) hc) H0 rfl rfl ⟨(Nat.le_of_ble_eq_true rfl), (Nat.le_of_ble_eq_true rfl)⟩ (Nat.le_of_ble_eq_true rfl) ⟨(Nat.le_of_ble_eq_true rfl), (Nat.le_of_ble_eq_true rfl)⟩ (fun r96 n96 h96 e96 => ?_)
      obtain ⟨rfl, rfl, rfl⟩ := e96
      refine gi_goto (tgt := 305) C (dm_Re_reckon 20 rfl) (by decide) ?_
      refine gi_vret C hr (dm_Re_reckon 126 rfl) ?_
      have ho : o = 7 := (nI_eq (b := 7) (by omega) (by omega)).mp c1
      subst ho
      refine ⟨rfl, rfl, u, u', ?_⟩
      rw [gi_up_id H1, gi_up_id H2]
      rfl
    · refine gi_tableIn (off := 101) (tgt := 102) C (dm_Re_reckon 1 rfl) (by decide) (by decide) rfl (by decide) ?_
      refine gi_aload_n (q := 103) (i := 0) C (dm_Re_reckon 21 rfl) rfl rfl rfl ?_
      refine gi_aload_n (q := 104) (i := 2) C (dm_Re_reckon 22 rfl) rfl rfl rfl ?_
      refine gi_get (q := 107) C (dm_Re_reckon 23 rfl) rfl fl_Re_21 (by repeat (first | exact gi_up_self _ _ _ | assumption | rw [gi_up_ne (by omega)])) rfl ?_
      refine gi_aload_n (q := 108) (i := 3) C (dm_Re_reckon 24 rfl) rfl rfl rfl ?_
      refine gi_get (q := 111) C (dm_Re_reckon 25 rfl) rfl fl_Re_25 (by repeat (first | exact gi_up_self _ _ _ | assumption | rw [gi_up_ne (by omega)])) rfl ?_
      refine gi_lsub (q := 112) C (dm_Re_reckon 26 rfl) rfl ?_
      rw [eL_sub]
      refine gi_aload_n (q := 113) (i := 2) C (dm_Re_reckon 27 rfl) rfl rfl rfl ?_
      refine gi_get (q := 116) C (dm_Re_reckon 28 rfl) rfl fl_Re_25 (by repeat (first | exact gi_up_self _ _ _ | assumption | rw [gi_up_ne (by omega)])) rfl ?_
      refine gi_aload_n (q := 117) (i := 3) C (dm_Re_reckon 29 rfl) rfl rfl rfl ?_
      refine gi_get (q := 120) C (dm_Re_reckon 30 rfl) rfl fl_Re_21 (by repeat (first | exact gi_up_self _ _ _ | assumption | rw [gi_up_ne (by omega)])) rfl ?_
      refine gi_lsub (q := 121) C (dm_Re_reckon 31 rfl) rfl ?_
      rw [eL_sub]
      refine gi_aload_n (q := 122) (i := 2) C (dm_Re_reckon 32 rfl) rfl rfl rfl ?_
      refine gi_get (q := 125) C (dm_Re_reckon 33 rfl) rfl fl_Re_28 (by repeat (first | exact gi_up_self _ _ _ | assumption | rw [gi_up_ne (by omega)])) rfl ?_
      refine gi_aload_n (q := 126) (i := 3) C (dm_Re_reckon 34 rfl) rfl rfl rfl ?_
      refine gi_get (q := 129) C (dm_Re_reckon 35 rfl) rfl fl_Re_28 (by repeat (first | exact gi_up_self _ _ _ | assumption | rw [gi_up_ne (by omega)])) rfl ?_
      refine gi_calls 2 (q := 132) C (dm_Re_reckon 36 rfl) rfl my_H_gcd lk_Re_31 sm_H_gcd (c_H_gcd x.2.2 y.2.2 o4 (by omega) w4 (by omega)) rfl rfl ⟨(Nat.le_of_ble_eq_true rfl), (Nat.le_of_ble_eq_true rfl)⟩ (Nat.le_of_ble_eq_true rfl) ⟨(Nat.le_of_ble_eq_true rfl), (Nat.le_of_ble_eq_true rfl)⟩ (fun r129 n129 h129 e129 => ?_)
      obtain ⟨rfl, q129, u129⟩ := e129
      rw [q129, u129]
      refine gi_aload (q := 134) C (dm_Re_reckon 37 rfl) rfl rfl ?_
      refine gi_callv 4 (q := 137) C (dm_Re_reckon 38 rfl) rfl my_Re_turn lk_Re_35 im_Re_turn rfl (c_Re_turn r ao (x.1 - y.2.1) (x.2.1 - y.1) (Int.gcd x.2.2 y.2.2 : Nat) v (by omega) (by omega) (by omega) (by omega) (by omega) (by omega) hc) H0 rfl rfl ⟨(Nat.le_of_ble_eq_true rfl), (Nat.le_of_ble_eq_true rfl)⟩ (Nat.le_of_ble_eq_true rfl) ⟨(Nat.le_of_ble_eq_true rfl), (Nat.le_of_ble_eq_true rfl)⟩ (fun r134 n134 h134 e134 => ?_)
      obtain ⟨rfl, rfl, rfl⟩ := e134
      refine gi_goto (tgt := 305) C (dm_Re_reckon 39 rfl) (by decide) ?_
      refine gi_vret C hr (dm_Re_reckon 126 rfl) ?_
      have ho : o = 8 := (nI_eq (b := 8) (by omega) (by omega)).mp c1
      subst ho
      refine ⟨rfl, rfl, u, u', ?_⟩
      rw [gi_up_id H1, gi_up_id H2]
      rfl
    · refine gi_tableIn (off := 162) (tgt := 163) C (dm_Re_reckon 1 rfl) (by decide) (by decide) rfl (by decide) ?_
      refine gi_aload_n (q := 164) (i := 2) C (dm_Re_reckon 52 rfl) rfl rfl rfl ?_
      refine gi_callv 0 (q := 167) C (dm_Re_reckon 53 rfl) rfl my_Va_isSingle lk_Re_39 im_Va_isSingle rfl (c_Va_isSingle ax _ ha) ha rfl rfl ⟨(Nat.le_of_ble_eq_true rfl), (Nat.le_of_ble_eq_true rfl)⟩ (Nat.le_of_ble_eq_true rfl) ⟨(Nat.le_of_ble_eq_true rfl), (Nat.le_of_ble_eq_true rfl)⟩ (fun r164 n164 h164 e164 => ?_)
      obtain ⟨rfl, q164, u164⟩ := e164
      rw [q164, u164]
      refine gi_if_eq (q := 170) (tgt := 184) C (dm_Re_reckon 54 rfl) rfl (by decide) (fun c167 => ?_) (fun c167 => ?_)
      · have sg : ¬ x.1 = x.2.1 := sgF (by omega) (by omega) (by omega) (by omega) c167
        refine gi_aload_n (q := 185) (i := 3) C (dm_Re_reckon 62 rfl) rfl rfl rfl ?_
        refine gi_callv 0 (q := 188) C (dm_Re_reckon 63 rfl) rfl my_Va_isSingle lk_Re_39 im_Va_isSingle rfl (c_Va_isSingle ay _ hb) hb rfl rfl ⟨(Nat.le_of_ble_eq_true rfl), (Nat.le_of_ble_eq_true rfl)⟩ (Nat.le_of_ble_eq_true rfl) ⟨(Nat.le_of_ble_eq_true rfl), (Nat.le_of_ble_eq_true rfl)⟩ (fun r185 n185 h185 e185 => ?_)
        obtain ⟨rfl, q185, u185⟩ := e185
        rw [q185, u185]
        refine gi_if_eq (q := 191) (tgt := 205) C (dm_Re_reckon 64 rfl) rfl (by decide) (fun c188 => ?_) (fun c188 => ?_)
        · have sh : ¬ y.1 = y.2.1 := sgF (by omega) (by omega) (by omega) (by omega) c188
          refine gi_aload_n (q := 206) (i := 0) C (dm_Re_reckon 72 rfl) rfl rfl rfl ?_
          refine gi_aload_n (q := 207) (i := 2) C (dm_Re_reckon 73 rfl) rfl rfl rfl ?_
          refine gi_aload_n (q := 208) (i := 3) C (dm_Re_reckon 74 rfl) rfl rfl rfl ?_
          refine gi_aload (q := 210) C (dm_Re_reckon 75 rfl) rfl rfl ?_
          refine gi_callv 3 (q := 213) C (dm_Re_reckon 76 rfl) rfl my_Re_multiply lk_Re_47 im_Re_multiply rfl (c_Re_multiply r ax ay ao x y _ v hx hy H0 ha hb hc) H0 rfl rfl ⟨(Nat.le_of_ble_eq_true rfl), (Nat.le_of_ble_eq_true rfl)⟩ (Nat.le_of_ble_eq_true rfl) ⟨(Nat.le_of_ble_eq_true rfl), (Nat.le_of_ble_eq_true rfl)⟩ (fun r210 n210 h210 e210 => ?_)
          obtain ⟨rfl, rfl, rfl⟩ := e210
          refine gi_goto (tgt := 305) C (dm_Re_reckon 77 rfl) (by decide) ?_
          refine gi_vret C hr (dm_Re_reckon 126 rfl) ?_
          have ho : o = 9 := (nI_eq (b := 9) (by omega) (by omega)).mp c1
          subst ho
          refine ⟨rfl, rfl, u, u', ?_⟩
          rw [gi_up_id H1, gi_up_id H2]
          show _ = gi_up _ ao (eV (sV (if x.1 = x.2.1 then timesS x.1 y else if y.1 = y.2.1 then timesS y.1 x else mulS x y)))
          rw [if_neg sg, if_neg sh]
        · have sh : y.1 = y.2.1 := sgT (by omega) (by omega) (by omega) (by omega) c188
          refine gi_aload_n (q := 192) (i := 0) C (dm_Re_reckon 65 rfl) rfl rfl rfl ?_
          refine gi_aload_n (q := 193) (i := 3) C (dm_Re_reckon 66 rfl) rfl rfl rfl ?_
          refine gi_get (q := 196) C (dm_Re_reckon 67 rfl) rfl fl_Re_21 (by repeat (first | exact gi_up_self _ _ _ | assumption | rw [gi_up_ne (by omega)])) rfl ?_
          refine gi_aload_n (q := 197) (i := 2) C (dm_Re_reckon 68 rfl) rfl rfl rfl ?_
          refine gi_aload (q := 199) C (dm_Re_reckon 69 rfl) rfl rfl ?_
          refine gi_callv 3 (q := 202) C (dm_Re_reckon 70 rfl) rfl my_Re_times lk_Re_43 im_Re_times rfl (c_Re_times r ax ao y.1 x _ v (by omega) (by omega) hx H0 ha hc) H0 rfl rfl ⟨(Nat.le_of_ble_eq_true rfl), (Nat.le_of_ble_eq_true rfl)⟩ (Nat.le_of_ble_eq_true rfl) ⟨(Nat.le_of_ble_eq_true rfl), (Nat.le_of_ble_eq_true rfl)⟩ (fun r199 n199 h199 e199 => ?_)
          obtain ⟨rfl, rfl, rfl⟩ := e199
          refine gi_goto (tgt := 305) C (dm_Re_reckon 71 rfl) (by decide) ?_
          refine gi_vret C hr (dm_Re_reckon 126 rfl) ?_
          have ho : o = 9 := (nI_eq (b := 9) (by omega) (by omega)).mp c1
          subst ho
          refine ⟨rfl, rfl, u, u', ?_⟩
          rw [gi_up_id H1, gi_up_id H2]
          show _ = gi_up _ ao (eV (sV (if x.1 = x.2.1 then timesS x.1 y else if y.1 = y.2.1 then timesS y.1 x else mulS x y)))
          rw [if_neg sg, if_pos sh]
      · have sg : x.1 = x.2.1 := sgT (by omega) (by omega) (by omega) (by omega) c167
        refine gi_aload_n (q := 171) (i := 0) C (dm_Re_reckon 55 rfl) rfl rfl rfl ?_
        refine gi_aload_n (q := 172) (i := 2) C (dm_Re_reckon 56 rfl) rfl rfl rfl ?_
        refine gi_get (q := 175) C (dm_Re_reckon 57 rfl) rfl fl_Re_21 (by repeat (first | exact gi_up_self _ _ _ | assumption | rw [gi_up_ne (by omega)])) rfl ?_
        refine gi_aload_n (q := 176) (i := 3) C (dm_Re_reckon 58 rfl) rfl rfl rfl ?_
        refine gi_aload (q := 178) C (dm_Re_reckon 59 rfl) rfl rfl ?_
        refine gi_callv 3 (q := 181) C (dm_Re_reckon 60 rfl) rfl my_Re_times lk_Re_43 im_Re_times rfl (c_Re_times r ay ao x.1 y _ v (by omega) (by omega) hy H0 hb hc) H0 rfl rfl ⟨(Nat.le_of_ble_eq_true rfl), (Nat.le_of_ble_eq_true rfl)⟩ (Nat.le_of_ble_eq_true rfl) ⟨(Nat.le_of_ble_eq_true rfl), (Nat.le_of_ble_eq_true rfl)⟩ (fun r178 n178 h178 e178 => ?_)
        obtain ⟨rfl, rfl, rfl⟩ := e178
        refine gi_goto (tgt := 305) C (dm_Re_reckon 61 rfl) (by decide) ?_
        refine gi_vret C hr (dm_Re_reckon 126 rfl) ?_
        have ho : o = 9 := (nI_eq (b := 9) (by omega) (by omega)).mp c1
        subst ho
        refine ⟨rfl, rfl, u, u', ?_⟩
        rw [gi_up_id H1, gi_up_id H2]
        show _ = gi_up _ ao (eV (sV (if x.1 = x.2.1 then timesS x.1 y else if y.1 = y.2.1 then timesS y.1 x else mulS x y)))
        rw [if_pos sg]
    · refine gi_tableIn (off := 215) (tgt := 216) C (dm_Re_reckon 1 rfl) (by decide) (by decide) rfl (by decide) ?_
      refine gi_aload_n (q := 217) (i := 0) C (dm_Re_reckon 78 rfl) rfl rfl rfl ?_
      refine gi_aload_n (q := 218) (i := 2) C (dm_Re_reckon 79 rfl) rfl rfl rfl ?_
      refine gi_aload_n (q := 219) (i := 3) C (dm_Re_reckon 80 rfl) rfl rfl rfl ?_
      refine gi_aload (q := 221) C (dm_Re_reckon 81 rfl) rfl rfl ?_
      refine gi_callv 3 (q := 224) C (dm_Re_reckon 82 rfl) rfl my_Re_divide lk_Re_51 im_Re_divide rfl (c_Re_divide r ax ay ao x y u u' v hx hy (by have ho : o = 10 := (nI_eq (b := 10) (by omega) (by omega)).mp c1; exact h0 (by omega)) H x1 x2 x3 q1 q2 q3 p1 p2 p3 hxo hyo ha hb hc) H0 rfl rfl ⟨(Nat.le_of_ble_eq_true rfl), (Nat.le_of_ble_eq_true rfl)⟩ (Nat.le_of_ble_eq_true rfl) ⟨(Nat.le_of_ble_eq_true rfl), (Nat.le_of_ble_eq_true rfl)⟩ (fun r221 n221 h221 e221 => ?_)
      obtain ⟨rfl, rfl, w, w', rfl⟩ := e221
      refine gi_goto (tgt := 305) C (dm_Re_reckon 83 rfl) (by decide) ?_
      refine gi_vret C hr (dm_Re_reckon 126 rfl) ?_
      have ho : o = 10 := (nI_eq (b := 10) (by omega) (by omega)).mp c1
      subst ho
      exact ⟨rfl, rfl, w, w', rfl⟩
    · refine gi_tableIn (off := 226) (tgt := 227) C (dm_Re_reckon 1 rfl) (by decide) (by decide) rfl (by decide) ?_
      refine gi_aload_n (q := 228) (i := 0) C (dm_Re_reckon 84 rfl) rfl rfl rfl ?_
      refine gi_aload_n (q := 229) (i := 2) C (dm_Re_reckon 85 rfl) rfl rfl rfl ?_
      refine gi_aload_n (q := 230) (i := 3) C (dm_Re_reckon 86 rfl) rfl rfl rfl ?_
      refine gi_aload (q := 232) C (dm_Re_reckon 87 rfl) rfl rfl ?_
      refine gi_callv 3 (q := 235) C (dm_Re_reckon 88 rfl) rfl my_Re_remain lk_Re_54 im_Re_remain rfl (c_Re_remain r ax ay ao x y u u' v hx hy (by have ho : o = 11 := (nI_eq (b := 11) (by omega) (by omega)).mp c1; exact h0 (by omega)) H x1 x2 x3 q1 q2 q3 p1 p2 p3 hxo hyo ha hb hc) H0 rfl rfl ⟨(Nat.le_of_ble_eq_true rfl), (Nat.le_of_ble_eq_true rfl)⟩ (Nat.le_of_ble_eq_true rfl) ⟨(Nat.le_of_ble_eq_true rfl), (Nat.le_of_ble_eq_true rfl)⟩ (fun r232 n232 h232 e232 => ?_)
      obtain ⟨rfl, rfl, w, w', rfl⟩ := e232
      refine gi_goto (tgt := 305) C (dm_Re_reckon 89 rfl) (by decide) ?_
      refine gi_vret C hr (dm_Re_reckon 126 rfl) ?_
      have ho : o = 11 := (nI_eq (b := 11) (by omega) (by omega)).mp c1
      subst ho
      exact ⟨rfl, rfl, w, w', rfl⟩
    · refine gi_tableIn (off := 237) (tgt := 238) C (dm_Re_reckon 1 rfl) (by decide) (by decide) rfl (by decide) ?_
      refine gi_aload_n (q := 239) (i := 0) C (dm_Re_reckon 90 rfl) rfl rfl rfl ?_
      refine gi_iload_n (q := 240) (i := 1) C (dm_Re_reckon 91 rfl) rfl rfl rfl ?_
      refine gi_aload_n (q := 241) (i := 2) C (dm_Re_reckon 92 rfl) rfl rfl rfl ?_
      refine gi_aload_n (q := 242) (i := 3) C (dm_Re_reckon 93 rfl) rfl rfl rfl ?_
      refine gi_aload (q := 244) C (dm_Re_reckon 94 rfl) rfl rfl ?_
      refine gi_callv 4 (q := 247) C (dm_Re_reckon 95 rfl) rfl my_Re_combine lk_Re_57 im_Re_combine rfl (c_Re_combine r ax ay ao _ x y _ v (by first | decide | (have ho : o = 12 := (nI_eq (b := 12) (by omega) (by omega)).mp c1; omega) | (have ho : o = 13 := (nI_eq (b := 13) (by omega) (by omega)).mp c1; omega) | (have ho : o = 14 := (nI_eq (b := 14) (by omega) (by omega)).mp c1; omega)) hx hy H0 ha hb hc) H0 rfl rfl ⟨(Nat.le_of_ble_eq_true rfl), (Nat.le_of_ble_eq_true rfl)⟩ (Nat.le_of_ble_eq_true rfl) ⟨(Nat.le_of_ble_eq_true rfl), (Nat.le_of_ble_eq_true rfl)⟩ (fun r244 n244 h244 e244 => ?_)
      obtain ⟨rfl, rfl, rfl⟩ := e244
      refine gi_goto (tgt := 305) C (dm_Re_reckon 96 rfl) (by decide) ?_
      refine gi_vret C hr (dm_Re_reckon 126 rfl) ?_
      first
        | (
           have ho : o = 12 := (nI_eq (b := 12) (by omega) (by omega)).mp c1
           subst ho
           refine ⟨rfl, rfl, u, u', ?_⟩
           rw [gi_up_id H1, gi_up_id H2]
           rfl)
        | (
           have ho : o = 13 := (nI_eq (b := 13) (by omega) (by omega)).mp c1
           subst ho
           refine ⟨rfl, rfl, u, u', ?_⟩
           rw [gi_up_id H1, gi_up_id H2]
           rfl)
        | (
           have ho : o = 14 := (nI_eq (b := 14) (by omega) (by omega)).mp c1
           subst ho
           refine ⟨rfl, rfl, u, u', ?_⟩
           rw [gi_up_id H1, gi_up_id H2]
           rfl)
    · refine gi_tableIn (off := 237) (tgt := 238) C (dm_Re_reckon 1 rfl) (by decide) (by decide) rfl (by decide) ?_
      refine gi_aload_n (q := 239) (i := 0) C (dm_Re_reckon 90 rfl) rfl rfl rfl ?_
      refine gi_iload_n (q := 240) (i := 1) C (dm_Re_reckon 91 rfl) rfl rfl rfl ?_
      refine gi_aload_n (q := 241) (i := 2) C (dm_Re_reckon 92 rfl) rfl rfl rfl ?_
      refine gi_aload_n (q := 242) (i := 3) C (dm_Re_reckon 93 rfl) rfl rfl rfl ?_
      refine gi_aload (q := 244) C (dm_Re_reckon 94 rfl) rfl rfl ?_
      refine gi_callv 4 (q := 247) C (dm_Re_reckon 95 rfl) rfl my_Re_combine lk_Re_57 im_Re_combine rfl (c_Re_combine r ax ay ao _ x y _ v (by first | decide | (have ho : o = 12 := (nI_eq (b := 12) (by omega) (by omega)).mp c1; omega) | (have ho : o = 13 := (nI_eq (b := 13) (by omega) (by omega)).mp c1; omega) | (have ho : o = 14 := (nI_eq (b := 14) (by omega) (by omega)).mp c1; omega)) hx hy H0 ha hb hc) H0 rfl rfl ⟨(Nat.le_of_ble_eq_true rfl), (Nat.le_of_ble_eq_true rfl)⟩ (Nat.le_of_ble_eq_true rfl) ⟨(Nat.le_of_ble_eq_true rfl), (Nat.le_of_ble_eq_true rfl)⟩ (fun r244 n244 h244 e244 => ?_)
      obtain ⟨rfl, rfl, rfl⟩ := e244
      refine gi_goto (tgt := 305) C (dm_Re_reckon 96 rfl) (by decide) ?_
      refine gi_vret C hr (dm_Re_reckon 126 rfl) ?_
      first
        | (
           have ho : o = 12 := (nI_eq (b := 12) (by omega) (by omega)).mp c1
           subst ho
           refine ⟨rfl, rfl, u, u', ?_⟩
           rw [gi_up_id H1, gi_up_id H2]
           rfl)
        | (
           have ho : o = 13 := (nI_eq (b := 13) (by omega) (by omega)).mp c1
           subst ho
           refine ⟨rfl, rfl, u, u', ?_⟩
           rw [gi_up_id H1, gi_up_id H2]
           rfl)
        | (
           have ho : o = 14 := (nI_eq (b := 14) (by omega) (by omega)).mp c1
           subst ho
           refine ⟨rfl, rfl, u, u', ?_⟩
           rw [gi_up_id H1, gi_up_id H2]
           rfl)
    · refine gi_tableIn (off := 237) (tgt := 238) C (dm_Re_reckon 1 rfl) (by decide) (by decide) rfl (by decide) ?_
      refine gi_aload_n (q := 239) (i := 0) C (dm_Re_reckon 90 rfl) rfl rfl rfl ?_
      refine gi_iload_n (q := 240) (i := 1) C (dm_Re_reckon 91 rfl) rfl rfl rfl ?_
      refine gi_aload_n (q := 241) (i := 2) C (dm_Re_reckon 92 rfl) rfl rfl rfl ?_
      refine gi_aload_n (q := 242) (i := 3) C (dm_Re_reckon 93 rfl) rfl rfl rfl ?_
      refine gi_aload (q := 244) C (dm_Re_reckon 94 rfl) rfl rfl ?_
      refine gi_callv 4 (q := 247) C (dm_Re_reckon 95 rfl) rfl my_Re_combine lk_Re_57 im_Re_combine rfl (c_Re_combine r ax ay ao _ x y _ v (by first | decide | (have ho : o = 12 := (nI_eq (b := 12) (by omega) (by omega)).mp c1; omega) | (have ho : o = 13 := (nI_eq (b := 13) (by omega) (by omega)).mp c1; omega) | (have ho : o = 14 := (nI_eq (b := 14) (by omega) (by omega)).mp c1; omega)) hx hy H0 ha hb hc) H0 rfl rfl ⟨(Nat.le_of_ble_eq_true rfl), (Nat.le_of_ble_eq_true rfl)⟩ (Nat.le_of_ble_eq_true rfl) ⟨(Nat.le_of_ble_eq_true rfl), (Nat.le_of_ble_eq_true rfl)⟩ (fun r244 n244 h244 e244 => ?_)
      obtain ⟨rfl, rfl, rfl⟩ := e244
      refine gi_goto (tgt := 305) C (dm_Re_reckon 96 rfl) (by decide) ?_
      refine gi_vret C hr (dm_Re_reckon 126 rfl) ?_
      first
        | (
           have ho : o = 12 := (nI_eq (b := 12) (by omega) (by omega)).mp c1
           subst ho
           refine ⟨rfl, rfl, u, u', ?_⟩
           rw [gi_up_id H1, gi_up_id H2]
           rfl)
        | (
           have ho : o = 13 := (nI_eq (b := 13) (by omega) (by omega)).mp c1
           subst ho
           refine ⟨rfl, rfl, u, u', ?_⟩
           rw [gi_up_id H1, gi_up_id H2]
           rfl)
        | (
           have ho : o = 14 := (nI_eq (b := 14) (by omega) (by omega)).mp c1
           subst ho
           refine ⟨rfl, rfl, u, u', ?_⟩
           rw [gi_up_id H1, gi_up_id H2]
           rfl)
    · refine gi_tableIn (off := 249) (tgt := 250) C (dm_Re_reckon 1 rfl) (by decide) (by decide) rfl (by decide) ?_
      refine gi_aload_n (q := 251) (i := 3) C (dm_Re_reckon 97 rfl) rfl rfl rfl ?_
      refine gi_callv 0 (q := 254) C (dm_Re_reckon 98 rfl) rfl my_Va_isSingle lk_Re_39 im_Va_isSingle rfl (c_Va_isSingle ay _ hb) hb rfl rfl ⟨(Nat.le_of_ble_eq_true rfl), (Nat.le_of_ble_eq_true rfl)⟩ (Nat.le_of_ble_eq_true rfl) ⟨(Nat.le_of_ble_eq_true rfl), (Nat.le_of_ble_eq_true rfl)⟩ (fun r251 n251 h251 e251 => ?_)
      obtain ⟨rfl, q251, u251⟩ := e251
      rw [q251, u251]
      refine gi_if_eq (q := 257) (tgt := 278) C (dm_Re_reckon 99 rfl) rfl (by decide) (fun c254 => ?_) (fun c254 => ?_)
      · have sg : ¬ y.1 = y.2.1 := sgF (by omega) (by omega) (by omega) (by omega) c254
        refine gi_aload (q := 280) C (dm_Re_reckon 112 rfl) rfl rfl ?_
        refine gi_callv 0 (q := 283) C (dm_Re_reckon 113 rfl) rfl my_Va_beAll lk_Re_63 im_Va_beAll rfl (c_Va_beAll ao v hc) hc rfl rfl ⟨(Nat.le_of_ble_eq_true rfl), (Nat.le_of_ble_eq_true rfl)⟩ (Nat.le_of_ble_eq_true rfl) ⟨(Nat.le_of_ble_eq_true rfl), (Nat.le_of_ble_eq_true rfl)⟩ (fun r280 n280 h280 e280 => ?_)
        obtain ⟨rfl, rfl, rfl⟩ := e280
        refine gi_goto (tgt := 305) C (dm_Re_reckon 114 rfl) (by decide) ?_
        refine gi_vret C hr (dm_Re_reckon 126 rfl) ?_
        have ho : o = 15 := (nI_eq (b := 15) (by omega) (by omega)).mp c1
        subst ho
        refine ⟨rfl, rfl, u, u', ?_⟩
        rw [gi_up_id H1, gi_up_id H2]
        show _ = gi_up _ ao (eV (sV (if y.1 = y.2.1 then timesS (2 ^ (y.1 % 32).toNat) x else allS)))
        rw [if_neg sg]
      · have sg : y.1 = y.2.1 := sgT (by omega) (by omega) (by omega) (by omega) c254
        refine gi_aload_n (q := 258) (i := 0) C (dm_Re_reckon 100 rfl) rfl rfl rfl ?_
        refine gi_lconst (q := 259) (v := 1) C (dm_Re_reckon 101 rfl) rfl (by decide) ?_
        refine gi_aload_n (q := 260) (i := 3) C (dm_Re_reckon 102 rfl) rfl rfl rfl ?_
        refine gi_get (q := 263) C (dm_Re_reckon 103 rfl) rfl fl_Re_21 (by repeat (first | exact gi_up_self _ _ _ | assumption | rw [gi_up_ne (by omega)])) rfl ?_
        refine gi_ldc2 (q := 266) C (dm_Re_reckon 104 rfl) rfl kc_Re_61 ?_
        refine gi_land (q := 267) C (dm_Re_reckon 105 rfl) rfl ?_
        refine gi_l2i (q := 268) C (dm_Re_reckon 106 rfl) rfl ?_
        rw [sp_low5]
        refine gi_lshl (q := 269) C (dm_Re_reckon 107 rfl) rfl ?_
        rw [sp_shl1 _ (by omega)]
        refine gi_aload_n (q := 270) (i := 2) C (dm_Re_reckon 108 rfl) rfl rfl rfl ?_
        refine gi_aload (q := 272) C (dm_Re_reckon 109 rfl) rfl rfl ?_
        refine gi_callv 3 (q := 275) C (dm_Re_reckon 110 rfl) rfl my_Re_times lk_Re_43 im_Re_times rfl (c_Re_times r ax ao (2 ^ (y.1 % 32).toNat) x _ v (by omega) (by omega) hx H0 ha hc) H0 rfl rfl ⟨(Nat.le_of_ble_eq_true rfl), (Nat.le_of_ble_eq_true rfl)⟩ (Nat.le_of_ble_eq_true rfl) ⟨(Nat.le_of_ble_eq_true rfl), (Nat.le_of_ble_eq_true rfl)⟩ (fun r272 n272 h272 e272 => ?_)
        obtain ⟨rfl, rfl, rfl⟩ := e272
        refine gi_goto (tgt := 305) C (dm_Re_reckon 111 rfl) (by decide) ?_
        refine gi_vret C hr (dm_Re_reckon 126 rfl) ?_
        have ho : o = 15 := (nI_eq (b := 15) (by omega) (by omega)).mp c1
        subst ho
        refine ⟨rfl, rfl, u, u', ?_⟩
        rw [gi_up_id H1, gi_up_id H2]
        show _ = gi_up _ ao (eV (sV (if y.1 = y.2.1 then timesS (2 ^ (y.1 % 32).toNat) x else allS)))
        rw [if_pos sg]
    · refine gi_tableIn (off := 285) (tgt := 286) C (dm_Re_reckon 1 rfl) (by decide) (by decide) rfl (by decide) ?_
      refine gi_aload_n (q := 287) (i := 0) C (dm_Re_reckon 115 rfl) rfl rfl rfl ?_
      refine gi_aload_n (q := 288) (i := 2) C (dm_Re_reckon 116 rfl) rfl rfl rfl ?_
      refine gi_aload_n (q := 289) (i := 3) C (dm_Re_reckon 117 rfl) rfl rfl rfl ?_
      refine gi_aload (q := 291) C (dm_Re_reckon 118 rfl) rfl rfl ?_
      refine gi_callv 3 (q := 294) C (dm_Re_reckon 119 rfl) rfl my_Re_shiftRight lk_Re_66 im_Re_shiftRight rfl (c_Re_shiftRight r ax ay ao x y _ v hx hy H0 ha hb hc) H0 rfl rfl ⟨(Nat.le_of_ble_eq_true rfl), (Nat.le_of_ble_eq_true rfl)⟩ (Nat.le_of_ble_eq_true rfl) ⟨(Nat.le_of_ble_eq_true rfl), (Nat.le_of_ble_eq_true rfl)⟩ (fun r291 n291 h291 e291 => ?_)
      obtain ⟨rfl, rfl, rfl⟩ := e291
      refine gi_goto (tgt := 305) C (dm_Re_reckon 120 rfl) (by decide) ?_
      refine gi_vret C hr (dm_Re_reckon 126 rfl) ?_
      have ho : o = 16 := (nI_eq (b := 16) (by omega) (by omega)).mp c1
      subst ho
      refine ⟨rfl, rfl, u, u', ?_⟩
      rw [gi_up_id H1, gi_up_id H2]
      rfl
    · refine gi_tableIn (off := 296) (tgt := 297) C (dm_Re_reckon 1 rfl) (by decide) (by decide) rfl (by decide) ?_
      refine gi_aload_n (q := 298) (i := 0) C (dm_Re_reckon 121 rfl) rfl rfl rfl ?_
      refine gi_aload_n (q := 299) (i := 2) C (dm_Re_reckon 122 rfl) rfl rfl rfl ?_
      refine gi_aload_n (q := 300) (i := 3) C (dm_Re_reckon 123 rfl) rfl rfl rfl ?_
      refine gi_aload (q := 302) C (dm_Re_reckon 124 rfl) rfl rfl ?_
      refine gi_callv 3 (q := 305) C (dm_Re_reckon 125 rfl) rfl my_Re_shiftBare lk_Re_69 im_Re_shiftBare rfl (c_Re_shiftBare r ax ay ao x y _ v hx hy H0 ha hb hc hxo) H0 rfl rfl ⟨(Nat.le_of_ble_eq_true rfl), (Nat.le_of_ble_eq_true rfl)⟩ (Nat.le_of_ble_eq_true rfl) ⟨(Nat.le_of_ble_eq_true rfl), (Nat.le_of_ble_eq_true rfl)⟩ (fun r302 n302 h302 e302 => ?_)
      obtain ⟨rfl, rfl, rfl⟩ := e302
      refine gi_vret C hr (dm_Re_reckon 126 rfl) ?_
      first
        | (
           have ho : o = 17 := (nI_eq (b := 17) (by omega) (by omega)).mp c1
           subst ho
           refine ⟨rfl, rfl, u, u', ?_⟩
           rw [gi_up_id H1, gi_up_id H2]
           rfl)
        | (exfalso
           rw [nI_toInt (by omega)] at c1
           omega)
    · refine gi_tableIn (off := 139) (tgt := 140) C (dm_Re_reckon 1 rfl) (by decide) (by decide) rfl (by decide) ?_
      refine gi_aload_n (q := 141) (i := 0) C (dm_Re_reckon 40 rfl) rfl rfl rfl ?_
      refine gi_aload_n (q := 142) (i := 2) C (dm_Re_reckon 41 rfl) rfl rfl rfl ?_
      refine gi_get (q := 145) C (dm_Re_reckon 42 rfl) rfl fl_Re_25 (by repeat (first | exact gi_up_self _ _ _ | assumption | rw [gi_up_ne (by omega)])) rfl ?_
      refine gi_lneg (q := 146) C (dm_Re_reckon 43 rfl) rfl ?_
      rw [eL_neg]
      refine gi_aload_n (q := 147) (i := 2) C (dm_Re_reckon 44 rfl) rfl rfl rfl ?_
      refine gi_get (q := 150) C (dm_Re_reckon 45 rfl) rfl fl_Re_21 (by repeat (first | exact gi_up_self _ _ _ | assumption | rw [gi_up_ne (by omega)])) rfl ?_
      refine gi_lneg (q := 151) C (dm_Re_reckon 46 rfl) rfl ?_
      rw [eL_neg]
      refine gi_aload_n (q := 152) (i := 2) C (dm_Re_reckon 47 rfl) rfl rfl rfl ?_
      refine gi_get (q := 155) C (dm_Re_reckon 48 rfl) rfl fl_Re_28 (by repeat (first | exact gi_up_self _ _ _ | assumption | rw [gi_up_ne (by omega)])) rfl ?_
      refine gi_aload (q := 157) C (dm_Re_reckon 49 rfl) rfl rfl ?_
      refine gi_callv 4 (q := 160) C (dm_Re_reckon 50 rfl) rfl my_Re_turn lk_Re_35 im_Re_turn rfl (c_Re_turn r ao (-x.2.1) (-x.1) x.2.2 v (by omega) (by omega) (by omega) (by omega) (by omega) (by omega) hc) H0 rfl rfl ⟨(Nat.le_of_ble_eq_true rfl), (Nat.le_of_ble_eq_true rfl)⟩ (Nat.le_of_ble_eq_true rfl) ⟨(Nat.le_of_ble_eq_true rfl), (Nat.le_of_ble_eq_true rfl)⟩ (fun r157 n157 h157 e157 => ?_)
      obtain ⟨rfl, rfl, rfl⟩ := e157
      refine gi_goto (tgt := 305) C (dm_Re_reckon 51 rfl) (by decide) ?_
      refine gi_vret C hr (dm_Re_reckon 126 rfl) ?_
      have ho : o = 18 := (nI_eq (b := 18) (by omega) (by omega)).mp c1
      subst ho
      refine ⟨rfl, rfl, u, u', ?_⟩
      rw [gi_up_id H1, gi_up_id H2]
      rfl
end RE6
