-- needs: 89.31
section HE2
variable {l : Launch} {V : gi_V} {n : Nat} {h h' : gi_H} {a : Nat} {H : Hp} {S : Nat → Int32} {F : Nat → Nat → Int32}
def HpR (H : Hp) (S : Nat → Int32) (F : Nat → Nat → Int32) : Prop := hpO H ∧ S 0 = nI H.c ∧ S 1 = nI H.u ∧ (∀ r, 1 ≤ r → r ≤ H.c → F 2 r = nI (H.st r) ∧ F 3 r = nI (H.ln r) ∧ F 4 r = nI (H.si r)) ∧ ∀ i, i < H.u → F 5 i = H.ce i
def heW (a : Nat) (H : Hp) (h : gi_H) : Prop := ∃ S F, he_at a S F h ∧ HpR H S F
def outH (a : Nat) (h h' : gi_H) : Prop := ∀ b, b < a ∨ a + 5 ≤ b → h' b = h b
theorem he_keep (P : he_at a S F h) (ho : ∀ b, a ≤ b → b < a + 5 → h' b = h b) : he_at a S F h' := by
  obtain ⟨p0, p1, p2, p3, p4⟩ := P
  exact ⟨(ho _ (by omega) (by omega)).trans p0, (ho _ (by omega) (by omega)).trans p1, (ho _ (by omega) (by omega)).trans p2, (ho _ (by omega) (by omega)).trans p3, (ho _ (by omega) (by omega)).trans p4⟩
def heO (a : Nat) (h0 : gi_H) (S : Nat → Int32) (F : Nat → Nat → Int32) (h : gi_H) : Prop := he_at a S F h ∧ outH a h0 h
variable {h0 : gi_H}
theorem heO.pO (P : heO a h0 S F h) (S' : Nat → Int32) : heO a h0 S' F (gi_up h a (gi_O 11 [.int (S' 0), .int (S' 1), .ref (a + 1), .ref (a + 2), .ref (a + 3), .ref (a + 4)])) := by
  obtain ⟨⟨p0, p1, p2, p3, p4⟩, po⟩ := P
  exact ⟨⟨gi_up_self _ _ _, (gi_up_ne (by omega)).trans p1, (gi_up_ne (by omega)).trans p2, (gi_up_ne (by omega)).trans p3, (gi_up_ne (by omega)).trans p4⟩, fun b hb => by rw [gi_up_ne (by omega)]; exact po b hb⟩
theorem heO.s2 (P : heO a h0 S F h) (g : Nat → Int32) : heO a h0 S (upA F 2 g) (gi_up h (a + 1) (gi_I 0 301 g)) := by
  obtain ⟨⟨p0, p1, p2, p3, p4⟩, po⟩ := P
  exact ⟨⟨(gi_up_ne (by omega)).trans p0, gi_up_self _ _ _, (gi_up_ne (by omega)).trans p2, (gi_up_ne (by omega)).trans p3, (gi_up_ne (by omega)).trans p4⟩, fun b hb => by rw [gi_up_ne (by omega)]; exact po b hb⟩
theorem heO.s3 (P : heO a h0 S F h) (g : Nat → Int32) : heO a h0 S (upA F 3 g) (gi_up h (a + 2) (gi_I 0 301 g)) := by
  obtain ⟨⟨p0, p1, p2, p3, p4⟩, po⟩ := P
  exact ⟨⟨(gi_up_ne (by omega)).trans p0, (gi_up_ne (by omega)).trans p1, gi_up_self _ _ _, (gi_up_ne (by omega)).trans p3, (gi_up_ne (by omega)).trans p4⟩, fun b hb => by rw [gi_up_ne (by omega)]; exact po b hb⟩
theorem heO.s4 (P : heO a h0 S F h) (g : Nat → Int32) : heO a h0 S (upA F 4 g) (gi_up h (a + 3) (gi_I 0 301 g)) := by
  obtain ⟨⟨p0, p1, p2, p3, p4⟩, po⟩ := P
  exact ⟨⟨(gi_up_ne (by omega)).trans p0, (gi_up_ne (by omega)).trans p1, (gi_up_ne (by omega)).trans p2, gi_up_self _ _ _, (gi_up_ne (by omega)).trans p4⟩, fun b hb => by rw [gi_up_ne (by omega)]; exact po b hb⟩
theorem heO.s5 (P : heO a h0 S F h) (g : Nat → Int32) : heO a h0 S (upA F 5 g) (gi_up h (a + 4) (gi_I 0 2000 g)) := by
  obtain ⟨⟨p0, p1, p2, p3, p4⟩, po⟩ := P
  exact ⟨⟨(gi_up_ne (by omega)).trans p0, (gi_up_ne (by omega)).trans p1, (gi_up_ne (by omega)).trans p2, (gi_up_ne (by omega)).trans p3, gi_up_self _ _ _⟩, fun b hb => by rw [gi_up_ne (by omega)]; exact po b hb⟩
theorem heW.keep (P : heW a H h) (ho : ∀ b, a ≤ b → b < a + 5 → h' b = h b) : heW a H h' := by
  obtain ⟨S, F, p, q⟩ := P
  exact ⟨S, F, he_keep p ho, q⟩
theorem HpR.ln31 (R : HpR H S F) {r : Nat} (h1 : 1 ≤ r) (h2 : r ≤ H.c) : H.st r + H.ln r ≤ H.u ∧ H.u ≤ 2000 ∧ H.si r < 25 ∧ r ≤ 300 := by
  obtain ⟨⟨a1, a2, a3⟩, -⟩ := R
  have := a3 r h1 h2
  omega
set_option maxHeartbeats 4000000 in
set_option maxRecDepth 100000 in
theorem c_He_clear (Hw : heW a H h) : gi_T l V y_He_clear b_He_clear 1 none 0 0 0 0 [.ref a] n h (fun v n' h' => v = none ∧ n' = n ∧ heW a (0, 0, H.st, H.ln, H.si, H.ce) h' ∧ outH a h h') := by
  refine gi_enter (by decide) (Nat.le_of_ble_eq_true rfl) ?_
  intro _ _ _ _ _ _ _ _ C hr hnm
  obtain ⟨S, F, ⟨E0, E2, E3, E4, E5⟩, R⟩ := id Hw
  have R0 := R.1
  have c300 := R0.1
  have u20 := R0.2.1
  refine gi_aload_n (q := 1) (i := 0) C (dm_He_clear 0 rfl) rfl rfl rfl ?_
  refine gi_iconst (q := 2) (v := 0) C (dm_He_clear 1 rfl) rfl (by decide) ?_
  refine gi_put (q := 5) C (dm_He_clear 2 rfl) rfl fl_He_24 fp_He_0 E0 (Nat.le_of_ble_eq_true rfl) rfl rfl ?_
  refine gi_aload_n (q := 6) (i := 0) C (dm_He_clear 3 rfl) rfl rfl rfl ?_
  refine gi_iconst (q := 7) (v := 0) C (dm_He_clear 4 rfl) rfl (by decide) ?_
  refine gi_put (q := 10) C (dm_He_clear 5 rfl) rfl fl_He_28 fp_He_1 (gi_up_self _ _ _) (Nat.le_of_ble_eq_true rfl) rfl rfl ?_
  refine gi_vret C hr (dm_He_clear 6 rfl) ?_
  rw [gi_up_up]
  refine ⟨rfl, rfl, ⟨fun _ => 0, F, ⟨gi_up_self _ _ _, (gi_up_ne (by omega)).trans E2, (gi_up_ne (by omega)).trans E3, (gi_up_ne (by omega)).trans E4, (gi_up_ne (by omega)).trans E5⟩, ⟨Nat.zero_le _, Nat.zero_le _, fun r h1 h2 => absurd h2 (by show ¬ r ≤ 0; omega)⟩, rfl, rfl, fun r h1 h2 => absurd h2 (by show ¬ r ≤ 0; omega), fun i hi => absurd hi (Nat.not_lt_zero _)⟩, fun b hb => gi_up_ne (by omega)⟩
set_option maxHeartbeats 4000000 in
set_option maxRecDepth 100000 in
theorem c_He_isArray {r : Nat} (hr : r ≤ H.c) (Hw : heW a H h) : gi_T l V y_He_isArray b_He_isArray 2 (some .boolean) 0 0 0 0 [.ref a, .int (nI r)] n h (gi_is (some (.int (bI (!decide (r = 0))))) n h) := by
  refine gi_enter (by decide) (Nat.le_of_ble_eq_true rfl) ?_
  intro _ _ _ _ _ _ _ _ C hr9 hnm
  obtain ⟨S, F, ⟨E0, E2, E3, E4, E5⟩, R⟩ := id Hw
  have R0 := R.1
  have c300 := R0.1
  have u20 := R0.2.1
  refine gi_iload_n (q := 1) (i := 1) C (dm_He_isArray 0 rfl) rfl rfl rfl ?_
  refine gi_iconst (q := 2) (v := 1) C (dm_He_isArray 1 rfl) rfl (by decide) ?_
  refine gi_icmp_lt (q := 5) (tgt := 17) C (dm_He_isArray 2 rfl) rfl (by decide) (fun c2 => ?_) (fun c2 => ?_)
  · refine gi_iconst (q := 18) (v := 0) C (dm_He_isArray 9 rfl) rfl (by decide) ?_
    refine gi_zret C hr9 (dm_He_isArray 10 rfl) rfl ?_
    refine ⟨?_, rfl, rfl⟩
    first
      | (rw [decide_eq_true (show r = 0 from by
          rcases Nat.eq_zero_or_pos r with q | q
          · exact q
          · exact absurd c2 (Int32.not_lt.mpr (nI_le (a := 1) q (by omega))))]; rfl)
      | (rw [decide_eq_false (show ¬ r = 0 from fun q => by
          subst q
          exact c2 (by decide))]; rfl)
  · refine gi_iload_n (q := 6) (i := 1) C (dm_He_isArray 3 rfl) rfl rfl rfl ?_
    refine gi_aload_n (q := 7) (i := 0) C (dm_He_isArray 4 rfl) rfl rfl rfl ?_
    refine gi_get (q := 10) C (dm_He_isArray 5 rfl) rfl fl_He_24 E0 rfl ?_
    refine gi_icmp_gt (q := 13) (tgt := 17) C (dm_He_isArray 6 rfl) rfl (by decide) (fun c10 => ?_) (fun c10 => ?_)
    · exact absurd c10 (Int32.not_lt.mpr (by rw [R.2.1]; exact nI_le hr (by omega)))
    · refine gi_iconst (q := 14) (v := 1) C (dm_He_isArray 7 rfl) rfl (by decide) ?_
      refine gi_goto (tgt := 18) C (dm_He_isArray 8 rfl) (by decide) ?_
      refine gi_zret C hr9 (dm_He_isArray 10 rfl) rfl ?_
      refine ⟨?_, rfl, rfl⟩
      first
        | (rw [decide_eq_true (show r = 0 from by
            rcases Nat.eq_zero_or_pos r with q | q
            · exact q
            · exact absurd c2 (Int32.not_lt.mpr (nI_le (a := 1) q (by omega))))]; rfl)
        | (rw [decide_eq_false (show ¬ r = 0 from fun q => by
            subst q
            exact c2 (by decide))]; rfl)
set_option maxHeartbeats 4000000 in
set_option maxRecDepth 100000 in
theorem c_He_lengthOf {r : Nat} (hr : r ≤ H.c) (Hw : heW a H h) : gi_T l V y_He_lengthOf b_He_lengthOf 2 (some .int) 1 21 0 0 [.ref a, .int (nI r)] n h (gi_is (some (.int (if r = 0 then -1 else nI (H.ln r)))) n h) := by
  refine gi_enter (by decide) (Nat.le_of_ble_eq_true rfl) ?_
  intro _ _ _ _ _ _ _ _ C hr9 hnm
  obtain ⟨S, F, ⟨E0, E2, E3, E4, E5⟩, R⟩ := id Hw
  have R0 := R.1
  have c300 := R0.1
  have u20 := R0.2.1
  refine gi_aload_n (q := 1) (i := 0) C (dm_He_lengthOf 0 rfl) rfl rfl rfl ?_
  refine gi_iload_n (q := 2) (i := 1) C (dm_He_lengthOf 1 rfl) rfl rfl rfl ?_
  refine gi_callv 1 (q := 5) C (dm_He_lengthOf 2 rfl) rfl my_He_isArray lk_He_37 im_He_isArray rfl (c_He_isArray hr Hw) E0 rfl rfl ⟨(Nat.le_of_ble_eq_true rfl), (Nat.le_of_ble_eq_true rfl)⟩ (Nat.le_of_ble_eq_true rfl) ⟨(Nat.le_of_ble_eq_true rfl), (Nat.le_of_ble_eq_true rfl)⟩ (fun r2 n2 h2 e2 => ?_)
  obtain ⟨rfl, q2, u2⟩ := e2
  rw [q2, u2]
  refine gi_if_eq (q := 8) (tgt := 17) C (dm_He_lengthOf 3 rfl) rfl (by decide) (fun c5 => ?_) (fun c5 => ?_)
  · have rz : r = 0 := by
      rcases Nat.eq_zero_or_pos r with q | q
      · exact q
      · rw [decide_eq_false (by omega)] at c5; exact absurd c5 (by decide)
    refine gi_iconst (q := 18) (v := -1) C (dm_He_lengthOf 9 rfl) rfl (by decide) ?_
    refine gi_iret C hr9 (dm_He_lengthOf 10 rfl) ?_
    refine ⟨?_, rfl, rfl⟩
    first
      | (rw [if_pos rz]; done)
      | (rw [if_neg (by omega), nI_clamp (by omega), rl.2.1])
  · have rp : 1 ≤ r := by
      rcases Nat.eq_zero_or_pos r with q | q
      · rw [decide_eq_true q] at c5; exact absurd rfl c5
      · exact q
    have rl := R.2.2.2.1 r rp hr
    obtain ⟨g1, g2, g3, g4⟩ := R.ln31 rp hr
    refine gi_aload_n (q := 9) (i := 0) C (dm_He_lengthOf 4 rfl) rfl rfl rfl ?_
    refine gi_get (q := 12) C (dm_He_lengthOf 5 rfl) rfl fl_He_15 E0 rfl ?_
    refine gi_iload_n (q := 13) (i := 1) C (dm_He_lengthOf 6 rfl) rfl rfl rfl ?_
    refine gi_iald (q := 14) C (dm_He_lengthOf 7 rfl) rfl rfl E3 (in_nI (k := 301) (nI_le (a := 0) (Nat.zero_le _) (by omega)) (nI_lt (by omega) (by decide)) (Nat.le_refl _) (by decide)) ?_
    refine gi_goto (tgt := 18) C (dm_He_lengthOf 8 rfl) (by decide) ?_
    refine gi_iret C hr9 (dm_He_lengthOf 10 rfl) ?_
    refine ⟨?_, rfl, rfl⟩
    first
      | (rw [if_pos rz]; done)
      | (rw [if_neg (by omega), nI_clamp (by omega), rl.2.1])
set_option maxHeartbeats 4000000 in
set_option maxRecDepth 100000 in
theorem c_He_siteOf {r : Nat} (hr : r ≤ H.c) (Hw : heW a H h) : gi_T l V y_He_siteOf b_He_siteOf 2 (some .int) 1 21 0 0 [.ref a, .int (nI r)] n h (gi_is (some (.int (if r = 0 then 0 else nI (H.si r)))) n h) := by
  refine gi_enter (by decide) (Nat.le_of_ble_eq_true rfl) ?_
  intro _ _ _ _ _ _ _ _ C hr9 hnm
  obtain ⟨S, F, ⟨E0, E2, E3, E4, E5⟩, R⟩ := id Hw
  have R0 := R.1
  have c300 := R0.1
  have u20 := R0.2.1
  refine gi_aload_n (q := 1) (i := 0) C (dm_He_siteOf 0 rfl) rfl rfl rfl ?_
  refine gi_iload_n (q := 2) (i := 1) C (dm_He_siteOf 1 rfl) rfl rfl rfl ?_
  refine gi_callv 1 (q := 5) C (dm_He_siteOf 2 rfl) rfl my_He_isArray lk_He_37 im_He_isArray rfl (c_He_isArray hr Hw) E0 rfl rfl ⟨(Nat.le_of_ble_eq_true rfl), (Nat.le_of_ble_eq_true rfl)⟩ (Nat.le_of_ble_eq_true rfl) ⟨(Nat.le_of_ble_eq_true rfl), (Nat.le_of_ble_eq_true rfl)⟩ (fun r2 n2 h2 e2 => ?_)
  obtain ⟨rfl, q2, u2⟩ := e2
  rw [q2, u2]
  refine gi_if_eq (q := 8) (tgt := 17) C (dm_He_siteOf 3 rfl) rfl (by decide) (fun c5 => ?_) (fun c5 => ?_)
  · have rz : r = 0 := by
      rcases Nat.eq_zero_or_pos r with q | q
      · exact q
      · rw [decide_eq_false (by omega)] at c5; exact absurd c5 (by decide)
    refine gi_iconst (q := 18) (v := 0) C (dm_He_siteOf 9 rfl) rfl (by decide) ?_
    refine gi_iret C hr9 (dm_He_siteOf 10 rfl) ?_
    refine ⟨?_, rfl, rfl⟩
    first
      | (rw [if_pos rz]; done)
      | (rw [if_neg (by omega), nI_clamp (by omega), rl.2.2])
  · have rp : 1 ≤ r := by
      rcases Nat.eq_zero_or_pos r with q | q
      · rw [decide_eq_true q] at c5; exact absurd rfl c5
      · exact q
    have rl := R.2.2.2.1 r rp hr
    obtain ⟨g1, g2, g3, g4⟩ := R.ln31 rp hr
    refine gi_aload_n (q := 9) (i := 0) C (dm_He_siteOf 4 rfl) rfl rfl rfl ?_
    refine gi_get (q := 12) C (dm_He_siteOf 5 rfl) rfl fl_He_18 E0 rfl ?_
    refine gi_iload_n (q := 13) (i := 1) C (dm_He_siteOf 6 rfl) rfl rfl rfl ?_
    refine gi_iald (q := 14) C (dm_He_siteOf 7 rfl) rfl rfl E4 (in_nI (k := 301) (nI_le (a := 0) (Nat.zero_le _) (by omega)) (nI_lt (by omega) (by decide)) (Nat.le_refl _) (by decide)) ?_
    refine gi_goto (tgt := 18) C (dm_He_siteOf 8 rfl) (by decide) ?_
    refine gi_iret C hr9 (dm_He_siteOf 10 rfl) ?_
    refine ⟨?_, rfl, rfl⟩
    first
      | (rw [if_pos rz]; done)
      | (rw [if_neg (by omega), nI_clamp (by omega), rl.2.2])
set_option maxHeartbeats 4000000 in
set_option maxRecDepth 100000 in
theorem c_He_hasIndex {r : Nat} (i : Int32) (hr : r ≤ H.c) (Hw : heW a H h) : gi_T l V y_He_hasIndex b_He_hasIndex 3 (some .boolean) 1 21 0 0 [.ref a, .int (nI r), .int i] n h (gi_is (some (.int (bI (!decide (r = 0) && (decide (0 ≤ i) && decide (i < nI (H.ln r))))))) n h) := by
  refine gi_enter (by decide) (Nat.le_of_ble_eq_true rfl) ?_
  intro _ _ _ _ _ _ _ _ C hr9 hnm
  obtain ⟨S, F, ⟨E0, E2, E3, E4, E5⟩, R⟩ := id Hw
  have R0 := R.1
  have c300 := R0.1
  have u20 := R0.2.1
  refine gi_aload_n (q := 1) (i := 0) C (dm_He_hasIndex 0 rfl) rfl rfl rfl ?_
  refine gi_iload_n (q := 2) (i := 1) C (dm_He_hasIndex 1 rfl) rfl rfl rfl ?_
  refine gi_callv 1 (q := 5) C (dm_He_hasIndex 2 rfl) rfl my_He_isArray lk_He_37 im_He_isArray rfl (c_He_isArray hr Hw) E0 rfl rfl ⟨(Nat.le_of_ble_eq_true rfl), (Nat.le_of_ble_eq_true rfl)⟩ (Nat.le_of_ble_eq_true rfl) ⟨(Nat.le_of_ble_eq_true rfl), (Nat.le_of_ble_eq_true rfl)⟩ (fun r2 n2 h2 e2 => ?_)
  obtain ⟨rfl, q2, u2⟩ := e2
  rw [q2, u2]
  refine gi_if_eq (q := 8) (tgt := 26) C (dm_He_hasIndex 3 rfl) rfl (by decide) (fun c5 => ?_) (fun c5 => ?_)
  · refine gi_iconst (q := 27) (v := 0) C (dm_He_hasIndex 14 rfl) rfl (by decide) ?_
    refine gi_zret C hr9 (dm_He_hasIndex 15 rfl) rfl ?_
    refine ⟨?_, rfl, rfl⟩
    first
      | (rw [decide_eq_false (show ¬ r = 0 by omega), decide_eq_true (Int32.not_lt.mp c9), decide_eq_true (Int32.not_le.mp c19)]; rfl)
      | (rw [decide_eq_false (show ¬ i < nI (H.ln r) from Int32.not_lt.mpr c19), Bool.and_false, Bool.and_false]; rfl)
      | (rw [decide_eq_false (show ¬ (0 ≤ i) from Int32.not_le.mpr c9), Bool.false_and, Bool.and_false]; rfl)
      | (rw [bI_fa c5, Bool.false_and]; rfl)
  · have rp : 1 ≤ r := by
      rcases Nat.eq_zero_or_pos r with q | q
      · rw [decide_eq_true q] at c5; exact absurd rfl c5
      · exact q
    have rl := R.2.2.2.1 r rp hr
    obtain ⟨g1, g2, g3, g4⟩ := R.ln31 rp hr
    refine gi_iload_n (q := 9) (i := 2) C (dm_He_hasIndex 4 rfl) rfl rfl rfl ?_
    refine gi_if_lt (q := 12) (tgt := 26) C (dm_He_hasIndex 5 rfl) rfl (by decide) (fun c9 => ?_) (fun c9 => ?_)
    · refine gi_iconst (q := 27) (v := 0) C (dm_He_hasIndex 14 rfl) rfl (by decide) ?_
      refine gi_zret C hr9 (dm_He_hasIndex 15 rfl) rfl ?_
      refine ⟨?_, rfl, rfl⟩
      first
        | (rw [decide_eq_false (show ¬ r = 0 by omega), decide_eq_true (Int32.not_lt.mp c9), decide_eq_true (Int32.not_le.mp c19)]; rfl)
        | (rw [decide_eq_false (show ¬ i < nI (H.ln r) from Int32.not_lt.mpr c19), Bool.and_false, Bool.and_false]; rfl)
        | (rw [decide_eq_false (show ¬ (0 ≤ i) from Int32.not_le.mpr c9), Bool.false_and, Bool.and_false]; rfl)
        | (rw [bI_fa c5, Bool.false_and]; rfl)
    · refine gi_iload_n (q := 13) (i := 2) C (dm_He_hasIndex 6 rfl) rfl rfl rfl ?_
      refine gi_aload_n (q := 14) (i := 0) C (dm_He_hasIndex 7 rfl) rfl rfl rfl ?_
      refine gi_get (q := 17) C (dm_He_hasIndex 8 rfl) rfl fl_He_15 E0 rfl ?_
      refine gi_iload_n (q := 18) (i := 1) C (dm_He_hasIndex 9 rfl) rfl rfl rfl ?_
      refine gi_iald (q := 19) C (dm_He_hasIndex 10 rfl) rfl rfl E3 (in_nI (k := 301) (nI_le (a := 0) (Nat.zero_le _) (by omega)) (nI_lt (by omega) (by decide)) (Nat.le_refl _) (by decide)) ?_
      rw [nI_clamp (by omega), rl.2.1]
      refine gi_icmp_ge (q := 22) (tgt := 26) C (dm_He_hasIndex 11 rfl) rfl (by decide) (fun c19 => ?_) (fun c19 => ?_)
      · refine gi_iconst (q := 27) (v := 0) C (dm_He_hasIndex 14 rfl) rfl (by decide) ?_
        refine gi_zret C hr9 (dm_He_hasIndex 15 rfl) rfl ?_
        refine ⟨?_, rfl, rfl⟩
        first
          | (rw [decide_eq_false (show ¬ r = 0 by omega), decide_eq_true (Int32.not_lt.mp c9), decide_eq_true (Int32.not_le.mp c19)]; rfl)
          | (rw [decide_eq_false (show ¬ i < nI (H.ln r) from Int32.not_lt.mpr c19), Bool.and_false, Bool.and_false]; rfl)
          | (rw [decide_eq_false (show ¬ (0 ≤ i) from Int32.not_le.mpr c9), Bool.false_and, Bool.and_false]; rfl)
          | (rw [bI_fa c5, Bool.false_and]; rfl)
      · refine gi_iconst (q := 23) (v := 1) C (dm_He_hasIndex 12 rfl) rfl (by decide) ?_
        refine gi_goto (tgt := 27) C (dm_He_hasIndex 13 rfl) (by decide) ?_
        refine gi_zret C hr9 (dm_He_hasIndex 15 rfl) rfl ?_
        refine ⟨?_, rfl, rfl⟩
        first
          | (rw [decide_eq_false (show ¬ r = 0 by omega), decide_eq_true (Int32.not_lt.mp c9), decide_eq_true (Int32.not_le.mp c19)]; rfl)
          | (rw [decide_eq_false (show ¬ i < nI (H.ln r) from Int32.not_lt.mpr c19), Bool.and_false, Bool.and_false]; rfl)
          | (rw [decide_eq_false (show ¬ (0 ≤ i) from Int32.not_le.mpr c9), Bool.false_and, Bool.and_false]; rfl)
          | (rw [bI_fa c5, Bool.false_and]; rfl)
set_option maxHeartbeats 4000000 in
set_option maxRecDepth 100000 in
theorem c_He_get {r : Nat} (i : Int32) (rp : 1 ≤ r) (hr : r ≤ H.c) (i0 : 0 ≤ i) (i1 : i < nI (H.ln r)) (Hw : heW a H h) : gi_T l V y_He_get b_He_get 3 (some .int) 2 43 0 0 [.ref a, .int (nI r), .int i] n h (gi_is (some (.int (H.ce (H.st r + i.toNatClampNeg)))) n h) := by
  refine gi_enter (by decide) (Nat.le_of_ble_eq_true rfl) ?_
  intro _ _ _ _ _ _ _ _ C hr9 hnm
  obtain ⟨S, F, ⟨E0, E2, E3, E4, E5⟩, R⟩ := id Hw
  have R0 := R.1
  have c300 := R0.1
  have u20 := R0.2.1
  have rl := R.2.2.2.1 r rp hr
  obtain ⟨g1, g2, g3, g4⟩ := R.ln31 rp hr
  have q0 := nn_nI (a := i) (Int32.le_iff_toInt_le.mp i0)
  have q1 : i.toNatClampNeg < H.ln r := by
    have := i1
    rw [q0.1, nI_ltP (by have := i.toNatClampNeg_lt; omega) (by omega)] at this
    exact this
  refine gi_aload_n (q := 1) (i := 0) C (dm_He_get 0 rfl) rfl rfl rfl ?_
  refine gi_iload_n (q := 2) (i := 1) C (dm_He_get 1 rfl) rfl rfl rfl ?_
  refine gi_iload_n (q := 3) (i := 2) C (dm_He_get 2 rfl) rfl rfl rfl ?_
  refine gi_callv 2 (q := 6) C (dm_He_get 3 rfl) rfl my_He_hasIndex lk_He_41 im_He_hasIndex rfl (c_He_hasIndex i hr Hw) E0 rfl rfl ⟨(Nat.le_of_ble_eq_true rfl), (Nat.le_of_ble_eq_true rfl)⟩ (Nat.le_of_ble_eq_true rfl) ⟨(Nat.le_of_ble_eq_true rfl), (Nat.le_of_ble_eq_true rfl)⟩ (fun r3 n3 h3 e3 => ?_)
  obtain ⟨rfl, q3, u3⟩ := e3
  rw [q3, u3]
  refine gi_if_eq (q := 9) (tgt := 25) C (dm_He_get 4 rfl) rfl (by decide) (fun c6 => ?_) (fun c6 => ?_)
  · exact absurd c6 (by rw [decide_eq_false (show ¬ r = 0 by omega), decide_eq_true i0, decide_eq_true i1]; decide)
  · refine gi_aload_n (q := 10) (i := 0) C (dm_He_get 5 rfl) rfl rfl rfl ?_
    refine gi_get (q := 13) C (dm_He_get 6 rfl) rfl fl_He_21 E0 rfl ?_
    refine gi_aload_n (q := 14) (i := 0) C (dm_He_get 7 rfl) rfl rfl rfl ?_
    refine gi_get (q := 17) C (dm_He_get 8 rfl) rfl fl_He_9 E0 rfl ?_
    refine gi_iload_n (q := 18) (i := 1) C (dm_He_get 9 rfl) rfl rfl rfl ?_
    refine gi_iald (q := 19) C (dm_He_get 10 rfl) rfl rfl E2 (in_nI (k := 301) (nI_le (a := 0) (Nat.zero_le _) (by omega)) (nI_lt (by omega) (by decide)) (Nat.le_refl _) (by decide)) ?_
    refine gi_iload_n (q := 20) (i := 2) C (dm_He_get 11 rfl) rfl rfl rfl ?_
    rw [nI_clamp (show r < 2 ^ 31 by omega), rl.1, show Value.int i = Value.int (nI i.toNatClampNeg) from congrArg Value.int q0.1]
    refine gi_iadd (q := 21) C (dm_He_get 12 rfl) rfl ?_
    rw [nI_add]
    refine gi_iald (q := 22) C (dm_He_get 13 rfl) rfl rfl E5 (in_nI (k := 2000) (nI_le (a := 0) (Nat.zero_le _) (by omega)) (nI_lt (by omega) (by decide)) (Nat.le_refl _) (by decide)) ?_
    refine gi_goto (tgt := 26) C (dm_He_get 14 rfl) (by decide) ?_
    refine gi_iret C hr9 (dm_He_get 16 rfl) ?_
    refine ⟨?_, rfl, rfl⟩
    rw [nI_clamp (by omega), R.2.2.2.2 _ (by omega)]
set_option maxHeartbeats 4000000 in
set_option maxRecDepth 100000 in
theorem c_He_set {r : Nat} (i v : Int32) (rp : 1 ≤ r) (hr : r ≤ H.c) (i0 : 0 ≤ i) (i1 : i < nI (H.ln r)) (Hw : heW a H h) : gi_T l V y_He_set b_He_set 4 none 2 43 0 0 [.ref a, .int (nI r), .int i, .int v] n h (fun u n' h' => u = none ∧ n' = n ∧ heW a (hSet H r i.toNatClampNeg v) h' ∧ outH a h h') := by
  refine gi_enter (by decide) (Nat.le_of_ble_eq_true rfl) ?_
  intro _ _ _ _ _ _ _ _ C hr9 hnm
  obtain ⟨S, F, ⟨E0, E2, E3, E4, E5⟩, R⟩ := id Hw
  have R0 := R.1
  have c300 := R0.1
  have u20 := R0.2.1
  have rl := R.2.2.2.1 r rp hr
  obtain ⟨g1, g2, g3, g4⟩ := R.ln31 rp hr
  have q0 := nn_nI (a := i) (Int32.le_iff_toInt_le.mp i0)
  have q1 : i.toNatClampNeg < H.ln r := by
    have := i1
    rw [q0.1, nI_ltP (by have := i.toNatClampNeg_lt; omega) (by omega)] at this
    exact this
  refine gi_aload_n (q := 1) (i := 0) C (dm_He_set 0 rfl) rfl rfl rfl ?_
  refine gi_iload_n (q := 2) (i := 1) C (dm_He_set 1 rfl) rfl rfl rfl ?_
  refine gi_iload_n (q := 3) (i := 2) C (dm_He_set 2 rfl) rfl rfl rfl ?_
  refine gi_callv 2 (q := 6) C (dm_He_set 3 rfl) rfl my_He_hasIndex lk_He_41 im_He_hasIndex rfl (c_He_hasIndex i hr Hw) E0 rfl rfl ⟨(Nat.le_of_ble_eq_true rfl), (Nat.le_of_ble_eq_true rfl)⟩ (Nat.le_of_ble_eq_true rfl) ⟨(Nat.le_of_ble_eq_true rfl), (Nat.le_of_ble_eq_true rfl)⟩ (fun r3 n3 h3 e3 => ?_)
  obtain ⟨rfl, q3, u3⟩ := e3
  rw [q3, u3]
  refine gi_if_eq (q := 9) (tgt := 23) C (dm_He_set 4 rfl) rfl (by decide) (fun c6 => ?_) (fun c6 => ?_)
  · exact absurd c6 (by rw [decide_eq_false (show ¬ r = 0 by omega), decide_eq_true i0, decide_eq_true i1]; decide)
  · refine gi_aload_n (q := 10) (i := 0) C (dm_He_set 5 rfl) rfl rfl rfl ?_
    refine gi_get (q := 13) C (dm_He_set 6 rfl) rfl fl_He_21 E0 rfl ?_
    refine gi_aload_n (q := 14) (i := 0) C (dm_He_set 7 rfl) rfl rfl rfl ?_
    refine gi_get (q := 17) C (dm_He_set 8 rfl) rfl fl_He_9 E0 rfl ?_
    refine gi_iload_n (q := 18) (i := 1) C (dm_He_set 9 rfl) rfl rfl rfl ?_
    refine gi_iald (q := 19) C (dm_He_set 10 rfl) rfl rfl E2 (in_nI (k := 301) (nI_le (a := 0) (Nat.zero_le _) (by omega)) (nI_lt (by omega) (by decide)) (Nat.le_refl _) (by decide)) ?_
    refine gi_iload_n (q := 20) (i := 2) C (dm_He_set 11 rfl) rfl rfl rfl ?_
    rw [nI_clamp (show r < 2 ^ 31 by omega), rl.1, show Value.int i = Value.int (nI i.toNatClampNeg) from congrArg Value.int q0.1]
    refine gi_iadd (q := 21) C (dm_He_set 12 rfl) rfl ?_
    rw [nI_add]
    refine gi_iload_n (q := 22) (i := 3) C (dm_He_set 13 rfl) rfl rfl rfl ?_
    refine gi_iast (q := 23) C (dm_He_set 14 rfl) rfl rfl E5 (in_nI (k := 2000) (nI_le (a := 0) (Nat.zero_le _) (by omega)) (nI_lt (by omega) (by decide)) (Nat.le_refl _) (by decide)) ?_
    refine gi_vret C hr9 (dm_He_set 15 rfl) ?_
    rw [nI_clamp (by omega)]
    refine ⟨rfl, rfl, ⟨S, upA F 5 (upd (F 5) (H.st r + i.toNatClampNeg) v), ⟨(gi_up_ne (by omega)).trans E0, (gi_up_ne (by omega)).trans E2, (gi_up_ne (by omega)).trans E3, (gi_up_ne (by omega)).trans E4, gi_up_self _ _ _⟩, R.1, R.2.1, R.2.2.1, R.2.2.2.1, fun j hj => ?_⟩, fun b hb => gi_up_ne (by omega)⟩
    show upd (F 5) (H.st r + i.toNatClampNeg) v j = upO H.ce (H.st r + i.toNatClampNeg) v j
    rw [upd_is]
    unfold upO
    rw [R.2.2.2.2 j hj]
set_option maxHeartbeats 4000000 in
set_option maxRecDepth 100000 in
theorem c_He_add (len : Int32) (s : Nat) (hs : s < 25) (Hw : heW a H h) : gi_T l V y_He_add b_He_add 3 (some .int) 2 46 0 0 [.ref a, .int len, .int (nI s)] n h (fun v n' h' => n' = n ∧ ((¬ (H.c < 300 ∧ 0 ≤ len.toInt ∧ len.toInt ≤ 2000 - H.u) ∧ v = some (.int (-1)) ∧ h' = h) ∨ (H.c < 300 ∧ 0 ≤ len.toInt ∧ len.toInt ≤ 2000 - H.u ∧ v = some (.int (nI (H.c + 1))) ∧ heW a (hAdd H len.toNatClampNeg s) h' ∧ outH a h h'))) := by
  refine gi_enter (by decide) (Nat.le_of_ble_eq_true rfl) ?_
  intro _ _ _ _ _ _ _ _ C hr hnm
  obtain ⟨S, F, ⟨E0, E2, E3, E4, E5⟩, R⟩ := id Hw
  have R0 := R.1
  have c300 := R0.1
  have u20 := R0.2.1
  refine gi_aload_n (q := 1) (i := 0) C (dm_He_add 0 rfl) rfl rfl rfl ?_
  refine gi_get (q := 4) C (dm_He_add 1 rfl) rfl fl_He_24 E0 rfl ?_
  refine gi_sipush (q := 7) (v := 300) C (dm_He_add 2 rfl) rfl (by decide) ?_
  refine gi_icmp_ge (q := 10) (tgt := 26) C (dm_He_add 3 rfl) rfl (by decide) (fun c7 => ?_) (fun c7 => ?_)
  · refine gi_iconst (q := 27) (v := -1) C (dm_He_add 12 rfl) rfl (by decide) ?_
    refine gi_iret C hr (dm_He_add 13 rfl) ?_
    refine ⟨rfl, Or.inl ⟨?_, rfl, rfl⟩⟩
    rintro ⟨z1, z2, z3⟩
    first
      | (rw [R.2.1] at c7; exact absurd c7 (Int32.not_le.mpr (nI_lt z1 (by decide))))
      | (rw [i_0] at c11; omega)
      | (refine absurd ?_ c23
         rw [R.2.2.1, show (2000 : Int32) = nI 2000 from rfl, nI_sb u20 (by decide), Int32.le_iff_toInt_le, show (nI (2000 - H.u)).toInt = (2000 - H.u : Nat) from Int32.toInt_ofNat_of_lt (by omega)]
         omega)
  · refine gi_iload_n (q := 11) (i := 1) C (dm_He_add 4 rfl) rfl rfl rfl ?_
    refine gi_if_lt (q := 14) (tgt := 26) C (dm_He_add 5 rfl) rfl (by decide) (fun c11 => ?_) (fun c11 => ?_)
    · refine gi_iconst (q := 27) (v := -1) C (dm_He_add 12 rfl) rfl (by decide) ?_
      refine gi_iret C hr (dm_He_add 13 rfl) ?_
      refine ⟨rfl, Or.inl ⟨?_, rfl, rfl⟩⟩
      rintro ⟨z1, z2, z3⟩
      first
        | (rw [R.2.1] at c7; exact absurd c7 (Int32.not_le.mpr (nI_lt z1 (by decide))))
        | (rw [i_0] at c11; omega)
        | (refine absurd ?_ c23
           rw [R.2.2.1, show (2000 : Int32) = nI 2000 from rfl, nI_sb u20 (by decide), Int32.le_iff_toInt_le, show (nI (2000 - H.u)).toInt = (2000 - H.u : Nat) from Int32.toInt_ofNat_of_lt (by omega)]
           omega)
    · refine gi_iload_n (q := 15) (i := 1) C (dm_He_add 6 rfl) rfl rfl rfl ?_
      refine gi_sipush (q := 18) (v := 2000) C (dm_He_add 7 rfl) rfl (by decide) ?_
      refine gi_aload_n (q := 19) (i := 0) C (dm_He_add 8 rfl) rfl rfl rfl ?_
      refine gi_get (q := 22) C (dm_He_add 9 rfl) rfl fl_He_28 E0 rfl ?_
      refine gi_isub (q := 23) C (dm_He_add 10 rfl) rfl ?_
      refine gi_icmp_le (q := 26) (tgt := 28) C (dm_He_add 11 rfl) rfl (by decide) (fun c23 => ?_) (fun c23 => ?_)
      · rw [R.2.1] at c7
        have cl : H.c < 300 := by
          rcases Nat.lt_or_ge H.c 300 with q | q
          · exact q
          · exact absurd (nI_le (a := 300) q (by omega)) c7
        rw [i_0] at c11
        have l0 : 0 ≤ len.toInt := by omega
        have c23' := c23
        rw [R.2.2.1, show (2000 : Int32) = nI 2000 from rfl, nI_sb u20 (by decide)] at c23'
        have ln := nn_nI (a := len) l0
        have l1 : len.toInt ≤ 2000 - H.u := by
          have := Int32.le_iff_toInt_le.mp c23'
          rw [show (nI (2000 - H.u)).toInt = (2000 - H.u : Nat) from Int32.toInt_ofNat_of_lt (by omega)] at this
          omega
        obtain ⟨L, eL9⟩ : ∃ L, L = len.toNatClampNeg := ⟨_, rfl⟩
        rw [← eL9] at ln ⊢
        have L1 : L ≤ 2000 - H.u := by omega
        have es : len = nI L := ln.1
        subst es
        rw [R.2.1, R.2.2.1] at E0
        refine gi_aload_n (q := 29) (i := 0) C (dm_He_add 14 rfl) rfl rfl rfl ?_
        refine gi_dup (q := 30) C (dm_He_add 15 rfl) rfl rfl ?_
        refine gi_get (q := 33) C (dm_He_add 16 rfl) rfl fl_He_24 E0 rfl ?_
        refine gi_iconst (q := 34) (v := 1) C (dm_He_add 17 rfl) rfl (by decide) ?_
        refine gi_iadd (q := 35) C (dm_He_add 18 rfl) rfl ?_
        rw [nI_1]
        refine gi_put (q := 38) C (dm_He_add 19 rfl) rfl fl_He_24 fp_He_0 E0 (Nat.le_of_ble_eq_true rfl) rfl rfl ?_
        have Q0 : heO a h S F h := ⟨⟨by rw [R.2.1, R.2.2.1]; exact E0, E2, E3, E4, E5⟩, fun _ _ => rfl⟩
        have Q1 := Q0.pO (fun k => if k = 0 then nI (H.c + 1) else nI H.u)
        refine gi_aload_n (q := 39) (i := 0) C (dm_He_add 20 rfl) rfl rfl rfl ?_
        refine gi_get (q := 42) C (dm_He_add 21 rfl) rfl fl_He_9 (show _ = some (gi_O 11 [.int (nI (H.c + 1)), .int (nI H.u), .ref (a + 1), .ref (a + 2), .ref (a + 3), .ref (a + 4)]) from Q1.1.1) rfl ?_
        refine gi_aload_n (q := 43) (i := 0) C (dm_He_add 22 rfl) rfl rfl rfl ?_
        refine gi_get (q := 46) C (dm_He_add 23 rfl) rfl fl_He_24 (show _ = some (gi_O 11 [.int (nI (H.c + 1)), .int (nI H.u), .ref (a + 1), .ref (a + 2), .ref (a + 3), .ref (a + 4)]) from Q1.1.1) rfl ?_
        refine gi_aload_n (q := 47) (i := 0) C (dm_He_add 24 rfl) rfl rfl rfl ?_
        refine gi_get (q := 50) C (dm_He_add 25 rfl) rfl fl_He_28 (show _ = some (gi_O 11 [.int (nI (H.c + 1)), .int (nI H.u), .ref (a + 1), .ref (a + 2), .ref (a + 3), .ref (a + 4)]) from Q1.1.1) rfl ?_
        refine gi_iast (q := 51) C (dm_He_add 26 rfl) rfl rfl Q1.1.2.1 (by first | exact in_nI (k := 301) (nI_le (a := 0) (Nat.zero_le _) (by omega)) (nI_lt (by omega) (by decide)) (Nat.le_refl _) (by decide)) ?_
        rw [nI_clamp (by omega)]
        have Q2 := Q1.s2 (upd (F 2) (H.c + 1) (nI H.u))
        refine gi_aload_n (q := 52) (i := 0) C (dm_He_add 27 rfl) rfl rfl rfl ?_
        refine gi_get (q := 55) C (dm_He_add 28 rfl) rfl fl_He_15 (show _ = some (gi_O 11 [.int (nI (H.c + 1)), .int (nI H.u), .ref (a + 1), .ref (a + 2), .ref (a + 3), .ref (a + 4)]) from Q2.1.1) rfl ?_
        refine gi_aload_n (q := 56) (i := 0) C (dm_He_add 29 rfl) rfl rfl rfl ?_
        refine gi_get (q := 59) C (dm_He_add 30 rfl) rfl fl_He_24 (show _ = some (gi_O 11 [.int (nI (H.c + 1)), .int (nI H.u), .ref (a + 1), .ref (a + 2), .ref (a + 3), .ref (a + 4)]) from Q2.1.1) rfl ?_
        refine gi_iload_n (q := 60) (i := 1) C (dm_He_add 31 rfl) rfl rfl rfl ?_
        refine gi_iast (q := 61) C (dm_He_add 32 rfl) rfl rfl Q2.1.2.2.1 (by first | exact in_nI (k := 301) (nI_le (a := 0) (Nat.zero_le _) (by omega)) (nI_lt (by omega) (by decide)) (Nat.le_refl _) (by decide)) ?_
        rw [nI_clamp (by omega)]
        have Q3 := Q2.s3 (upd (F 3) (H.c + 1) (nI L))
        refine gi_aload_n (q := 62) (i := 0) C (dm_He_add 33 rfl) rfl rfl rfl ?_
        refine gi_get (q := 65) C (dm_He_add 34 rfl) rfl fl_He_18 (show _ = some (gi_O 11 [.int (nI (H.c + 1)), .int (nI H.u), .ref (a + 1), .ref (a + 2), .ref (a + 3), .ref (a + 4)]) from Q3.1.1) rfl ?_
        refine gi_aload_n (q := 66) (i := 0) C (dm_He_add 35 rfl) rfl rfl rfl ?_
        refine gi_get (q := 69) C (dm_He_add 36 rfl) rfl fl_He_24 (show _ = some (gi_O 11 [.int (nI (H.c + 1)), .int (nI H.u), .ref (a + 1), .ref (a + 2), .ref (a + 3), .ref (a + 4)]) from Q3.1.1) rfl ?_
        refine gi_iload_n (q := 70) (i := 2) C (dm_He_add 37 rfl) rfl rfl rfl ?_
        refine gi_iast (q := 71) C (dm_He_add 38 rfl) rfl rfl Q3.1.2.2.2.1 (by first | exact in_nI (k := 301) (nI_le (a := 0) (Nat.zero_le _) (by omega)) (nI_lt (by omega) (by decide)) (Nat.le_refl _) (by decide)) ?_
        rw [nI_clamp (by omega)]
        have Q4 := Q3.s4 (upd (F 4) (H.c + 1) (nI s))
        refine gi_aload_n (q := 72) (i := 0) C (dm_He_add 39 rfl) rfl rfl rfl ?_
        refine gi_get (q := 75) C (dm_He_add 40 rfl) rfl fl_He_21 (show _ = some (gi_O 11 [.int (nI (H.c + 1)), .int (nI H.u), .ref (a + 1), .ref (a + 2), .ref (a + 3), .ref (a + 4)]) from Q4.1.1) rfl ?_
        refine gi_aload_n (q := 76) (i := 0) C (dm_He_add 41 rfl) rfl rfl rfl ?_
        refine gi_get (q := 79) C (dm_He_add 42 rfl) rfl fl_He_28 (show _ = some (gi_O 11 [.int (nI (H.c + 1)), .int (nI H.u), .ref (a + 1), .ref (a + 2), .ref (a + 3), .ref (a + 4)]) from Q4.1.1) rfl ?_
        refine gi_aload_n (q := 80) (i := 0) C (dm_He_add 43 rfl) rfl rfl rfl ?_
        refine gi_get (q := 83) C (dm_He_add 44 rfl) rfl fl_He_28 (show _ = some (gi_O 11 [.int (nI (H.c + 1)), .int (nI H.u), .ref (a + 1), .ref (a + 2), .ref (a + 3), .ref (a + 4)]) from Q4.1.1) rfl ?_
        refine gi_iload_n (q := 84) (i := 1) C (dm_He_add 45 rfl) rfl rfl rfl ?_
        refine gi_iadd (q := 85) C (dm_He_add 46 rfl) rfl ?_
        refine gi_iconst (q := 86) (v := 0) C (dm_He_add 47 rfl) rfl (by decide) ?_
        rw [nI_add]
        refine gi_calls 4 (q := 89) C (dm_He_add 48 rfl) rfl my_Ar_fill_2 lk_He_31 sm_Ar_fill_2 (c_Ar_fill_2 (kd := 0) (N := 2000) (f := F 5) H.u (H.u + L) 0 (by omega) (by omega) (by decide) rfl Q4.1.2.2.2.2) rfl rfl ⟨(Nat.le_of_ble_eq_true rfl), (Nat.le_of_ble_eq_true rfl)⟩ (Nat.le_of_ble_eq_true rfl) ⟨(Nat.le_of_ble_eq_true rfl), (Nat.le_of_ble_eq_true rfl)⟩ (fun r86 n86 h86 e86 => ?_)
        obtain ⟨rfl, q86, u86⟩ := e86
        rw [q86, u86]
        have Q5 := Q4.s5 (filF (F 5) H.u (H.u + L) 0)
        refine gi_aload_n (q := 90) (i := 0) C (dm_He_add 49 rfl) rfl rfl rfl ?_
        refine gi_dup (q := 91) C (dm_He_add 50 rfl) rfl rfl ?_
        refine gi_get (q := 94) C (dm_He_add 51 rfl) rfl fl_He_28 (show _ = some (gi_O 11 [.int (nI (H.c + 1)), .int (nI H.u), .ref (a + 1), .ref (a + 2), .ref (a + 3), .ref (a + 4)]) from Q5.1.1) rfl ?_
        refine gi_iload_n (q := 95) (i := 1) C (dm_He_add 52 rfl) rfl rfl rfl ?_
        refine gi_iadd (q := 96) C (dm_He_add 53 rfl) rfl ?_
        rw [nI_add]
        refine gi_put (q := 99) C (dm_He_add 54 rfl) rfl fl_He_28 fp_He_1 (show _ = some (gi_O 11 [.int (nI (H.c + 1)), .int (nI H.u), .ref (a + 1), .ref (a + 2), .ref (a + 3), .ref (a + 4)]) from Q5.1.1) (Nat.le_of_ble_eq_true rfl) rfl rfl ?_
        have Q6 := Q5.pO (fun k => if k = 0 then nI (H.c + 1) else nI (H.u + L))
        refine gi_aload_n (q := 100) (i := 0) C (dm_He_add 55 rfl) rfl rfl rfl ?_
        refine gi_get (q := 103) C (dm_He_add 56 rfl) rfl fl_He_24 (show _ = some (gi_O 11 [.int (nI (H.c + 1)), .int (nI (H.u + L)), .ref (a + 1), .ref (a + 2), .ref (a + 3), .ref (a + 4)]) from Q6.1.1) rfl ?_
        refine gi_iret C hr (dm_He_add 57 rfl) ?_
        refine ⟨rfl, Or.inr ⟨cl, l0, l1, rfl, ⟨_, _, Q6.1, ⟨show H.c + 1 ≤ 300 by omega, show H.u + L ≤ 2000 by omega, fun r h1 h2 => ?_⟩, rfl, rfl, fun r h1 h2 => ?_, fun i hi => ?_⟩, Q6.2⟩⟩
        · have h2 : r ≤ H.c + 1 := h2
          show upO H.st (H.c + 1) H.u r + upO H.ln (H.c + 1) L r ≤ H.u + L ∧ upO H.si (H.c + 1) s r < 25
          by_cases q : r = H.c + 1
          · subst q
            rw [upO_self, upO_self, upO_self]
            omega
          · rw [upO_ne q, upO_ne q, upO_ne q]
            have := R0.2.2 r h1 (by omega)
            omega
        · have h2 : r ≤ H.c + 1 := h2
          show upd (F 2) (H.c + 1) (nI H.u) r = nI (upO H.st (H.c + 1) H.u r) ∧ upd (F 3) (H.c + 1) (nI L) r = nI (upO H.ln (H.c + 1) L r) ∧ upd (F 4) (H.c + 1) (nI s) r = nI (upO H.si (H.c + 1) s r)
          rw [upd_is, upd_is, upd_is]
          by_cases q : r = H.c + 1
          · subst q
            rw [upO_self, upO_self, upO_self, if_pos rfl, if_pos rfl, if_pos rfl]
            exact ⟨rfl, rfl, rfl⟩
          · rw [upO_ne q, upO_ne q, upO_ne q, if_neg q, if_neg q, if_neg q]
            exact R.2.2.2.1 r h1 (by omega)
        · have hi : i < H.u + L := hi
          show filF (F 5) H.u (H.u + L) 0 i = if H.u ≤ i ∧ i < H.u + L then 0 else H.ce i
          unfold filF
          by_cases q : H.u ≤ i ∧ i < H.u + L
          · rw [if_pos q, if_pos q]
          · rw [if_neg q, if_neg q]
            exact R.2.2.2.2 i (by omega)
      · refine gi_iconst (q := 27) (v := -1) C (dm_He_add 12 rfl) rfl (by decide) ?_
        refine gi_iret C hr (dm_He_add 13 rfl) ?_
        refine ⟨rfl, Or.inl ⟨?_, rfl, rfl⟩⟩
        rintro ⟨z1, z2, z3⟩
        first
          | (rw [R.2.1] at c7; exact absurd c7 (Int32.not_le.mpr (nI_lt z1 (by decide))))
          | (rw [i_0] at c11; omega)
          | (refine absurd ?_ c23
             rw [R.2.2.1, show (2000 : Int32) = nI 2000 from rfl, nI_sb u20 (by decide), Int32.le_iff_toInt_le, show (nI (2000 - H.u)).toInt = (2000 - H.u : Nat) from Int32.toInt_ofNat_of_lt (by omega)]
             omega)
end HE2
