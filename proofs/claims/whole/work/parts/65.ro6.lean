-- needs: 64
section RO6
variable {l : Launch} {V : gi_V} {n : Nat} {h : gi_H} {r k s r2 k2 : Nat} {R R2 : mR} {f g : Nat → Sl}
set_option maxHeartbeats 4000000 in
set_option maxRecDepth 100000 in
theorem c_Ro_join_no (b : Bool) (h31 : k < 2 ^ 31) (h32 : k2 < 2 ^ 31) (hd : r2 + 3 + k2 ≤ r ∨ r + 3 + k ≤ r2) (H : ro_at r k R h) (K : ro_at r2 k2 R2 h) (ht : R.2.2.1 = 0) (hK : isG R2 s g) (s1 : s ≤ k) (s2 : s ≤ k2) : gi_T l V y_Ro_join b_Ro_join 9 (some .boolean) 2 51 0 0 [.ref r, .ref r2, .int (bI b)] n h (fun v n' h' => v = some (.int 1) ∧ n' = n ∧ ro_at r k (rO (rCp R R2 s s) (nI s) 1 R.2.2.2.1) h' ∧ outR r k h h') := by
  refine gi_enter (by decide) (Nat.le_of_ble_eq_true rfl) ?_
  intro _ _ _ _ _ _ _ _ C hr hnm
  obtain ⟨H0, ⟨fv, H1, -⟩, ⟨gm, H2, -⟩, H3, H4⟩ := id H
  obtain ⟨K0, ⟨fk, K1, -⟩, ⟨gk, K2, -⟩, K3, K4⟩ := id K
  refine gi_aload_n (q := 1) (i := 0) C (dm_Ro_join 0 rfl) rfl rfl rfl ?_
  refine gi_get (q := 4) C (dm_Ro_join 1 rfl) rfl fl_Ro_30 (by repeat (first | exact gi_up_self _ _ _ | assumption | rw [gi_up_ne (by omega)])) rfl ?_
  refine gi_if_ne (q := 7) (tgt := 19) C (dm_Ro_join 2 rfl) rfl (by decide) (fun c4 => ?_) (fun c4 => ?_)
  · exact absurd ht c4
  · refine gi_aload_n (q := 8) (i := 0) C (dm_Ro_join 3 rfl) rfl rfl rfl ?_
    refine gi_aload_n (q := 9) (i := 1) C (dm_Ro_join 4 rfl) rfl rfl rfl ?_
    refine gi_callv 1 (q := 12) C (dm_Ro_join 5 rfl) rfl my_Ro_copy lk_Ro_59 im_Ro_copy rfl (c_Ro_copy h31 h32 hd s1 s2 H K hK.1 (fun j hj => by rw [(hK.2 j hj).1]; exact wf_A _)) H0 rfl rfl ⟨(Nat.le_of_ble_eq_true rfl), (Nat.le_of_ble_eq_true rfl)⟩ (Nat.le_of_ble_eq_true rfl) ⟨(Nat.le_of_ble_eq_true rfl), (Nat.le_of_ble_eq_true rfl)⟩ (fun r9 n9 h9 e9 => ?_)
    obtain ⟨rfl, rfl, Q1, Q2⟩ := e9
    have K9 := Q1.1
    refine gi_aload_n (q := 13) (i := 0) C (dm_Ro_join 6 rfl) rfl rfl rfl ?_
    refine gi_iconst (q := 14) (v := 1) C (dm_Ro_join 7 rfl) rfl (by decide) ?_
    refine gi_put (q := 17) C (dm_Ro_join 8 rfl) rfl fl_Ro_30 fp_Ro_3 K9 (Nat.le_of_ble_eq_true rfl) rfl rfl ?_
    refine gi_iconst (q := 18) (v := 1) C (dm_Ro_join 9 rfl) rfl (by decide) ?_
    refine gi_zret C hr (dm_Ro_join 10 rfl) rfl ?_
    refine ⟨rfl, rfl, Q1.o (nI s) 1 R.2.2.2.1, Q2.up (by omega) (by omega)⟩
set_option maxHeartbeats 4000000 in
set_option maxRecDepth 100000 in
theorem c_Ro_join_co (b : Bool) (h31 : k < 2 ^ 31) (h32 : k2 < 2 ^ 31) (H : ro_at r k R h) (K : ro_at r2 k2 R2 h) (hG : isG R s f) (hK : isG R2 s g) (s1 : s ≤ k) (s2 : s ≤ k2) (ho : ∀ j, j < s → okAv (f j).1 ∧ okAv (g j).1 ∧ arA (f j).1 = arA (g j).1) (ht : R.2.2.1 = 1) (hn : covR (mkR true 0 s f) s g = true) : gi_T l V y_Ro_join b_Ro_join 9 (some .boolean) 2 51 0 0 [.ref r, .ref r2, .int (bI b)] n h (gi_is (some (.int 0)) n h) := by
  refine gi_enter (by decide) (Nat.le_of_ble_eq_true rfl) ?_
  intro _ _ _ _ _ _ _ _ C hr hnm
  obtain ⟨H0, ⟨fv, H1, -⟩, ⟨gm, H2, -⟩, H3, H4⟩ := id H
  obtain ⟨K0, ⟨fk, K1, -⟩, ⟨gk, K2, -⟩, K3, K4⟩ := id K
  refine gi_aload_n (q := 1) (i := 0) C (dm_Ro_join 0 rfl) rfl rfl rfl ?_
  refine gi_get (q := 4) C (dm_Ro_join 1 rfl) rfl fl_Ro_30 (by repeat (first | exact gi_up_self _ _ _ | assumption | rw [gi_up_ne (by omega)])) rfl ?_
  refine gi_if_ne (q := 7) (tgt := 19) C (dm_Ro_join 2 rfl) rfl (by decide) (fun c4 => ?_) (fun c4 => ?_)
  · refine gi_aload_n (q := 20) (i := 0) C (dm_Ro_join 11 rfl) rfl rfl rfl ?_
    refine gi_aload_n (q := 21) (i := 1) C (dm_Ro_join 12 rfl) rfl rfl rfl ?_
    refine gi_callv 1 (q := 24) C (dm_Ro_join 13 rfl) rfl my_Ro_covers lk_Ro_62 im_Ro_covers rfl (c_Ro_covers h31 h32 H K hG hK s1 s2 ho) H0 rfl rfl ⟨(Nat.le_of_ble_eq_true rfl), (Nat.le_of_ble_eq_true rfl)⟩ (Nat.le_of_ble_eq_true rfl) ⟨(Nat.le_of_ble_eq_true rfl), (Nat.le_of_ble_eq_true rfl)⟩ (fun r21 n21 h21 e21 => ?_)
    obtain ⟨rfl, rfl, rfl⟩ := e21
    refine gi_if_eq (q := 27) (tgt := 29) C (dm_Ro_join 14 rfl) rfl (by decide) (fun c24 => ?_) (fun c24 => ?_)
    · rw [hn] at c24
      exact absurd c24 (by decide)
    · refine gi_iconst (q := 28) (v := 0) C (dm_Ro_join 15 rfl) rfl (by decide) ?_
      refine gi_zret C hr (dm_Ro_join 16 rfl) rfl ?_
      exact ⟨rfl, rfl, rfl⟩
  · exact absurd (show R.2.2.1 = 1 from ht) (by rw [c4]; decide)
/-- what comes to a row -/
theorem c_Ro_join (t : Rw) (T : Ty) (b : Bool) (h31 : k < 2 ^ 31) (h32 : k2 < 2 ^ 31) (hd : r2 + 3 + k2 ≤ r ∨ r + 3 + k ≤ r2) (H : ro_at r k R h) (K : ro_at r2 k2 R2 h) (hR : isR k t R) (hT : okR T t) (hgT : okG T s g) (hK : isG R2 s g) (s1 : s ≤ k) (s2 : s ≤ k2) (hch : b = true → t.told = true → t.ch < 2 ^ 30) : gi_T l V y_Ro_join b_Ro_join 9 (some .boolean) 2 51 0 0 [.ref r, .ref r2, .int (bI b)] n h (fun v n' h' => v = some (.int (bI (newR t s g))) ∧ n' = n ∧ (∃ R', ro_at r k R' h' ∧ isR k (joinR b t s g) R') ∧ outR r k h h') := by
  obtain ⟨q1, q2, q3⟩ := hR
  cases ht : t.told with
  | false =>
    rw [ht] at q1
    refine (c_Ro_join_no b h31 h32 hd H K q1 hK s1 s2).mono (fun v n' h' hp => ?_)
    obtain ⟨p1, p2, p3, p4⟩ := hp
    refine ⟨?_, p2, ⟨_, p3, ?_⟩, p4⟩
    · rw [p1]
      unfold newR
      rw [ht]
      rfl
    · unfold joinR
      rw [if_pos ht]
      refine ⟨rfl, q2, fun _ => ⟨?_, s1⟩⟩
      have z := rCp_G (R := R) hK
      exact ⟨rfl, z.2⟩
  | true =>
    rw [ht] at q1
    obtain ⟨g1, g2⟩ := q3 ht
    have hr' := hT ht
    have en : t.n = s := by rw [hr'.1, hgT.1]
    rw [en] at g1 g2
    have ho : ∀ j, j < s → okAv (t.f j).1 ∧ okAv (g j).1 ∧ arA (t.f j).1 = arA (g j).1 := fun j hj => by
      have a := hr'.2 j (by have := hgT.1; omega)
      have c := hgT.2 j (by have := hgT.1; omega)
      exact ⟨a.1, c.1, by rw [a.2.1, c.2.1]⟩
    have ec : covR t s g = covR (mkR true 0 s t.f) s g := by
      unfold covR
      rw [en]
    cases hc : covR t s g with
    | true =>
      refine (c_Ro_join_co b h31 h32 H K g1 hK s1 s2 ho q1 (by rw [← ec]; exact hc)).mono (fun v n' h' hp => ?_)
      obtain ⟨p1, p2, rfl⟩ := hp
      refine ⟨?_, p2, ⟨R, H, ?_⟩, outR.rf⟩
      · rw [p1]
        unfold newR
        rw [ht, hc]
        rfl
      · unfold joinR
        rw [if_neg (by simp [ht]), if_pos hc]
        exact ⟨by rw [ht]; exact q1, q2, fun _ => ⟨by rw [en]; exact g1, by rw [en]; exact g2⟩⟩
    | false =>
      have key : ∀ far : Bool, (b && decide (4 ≤ t.ch + 1)) = far → ∀ (v : Option Value) (n' : Nat) (h' : gi_H), (v = some (.int 1) ∧ n' = n ∧ ro_at r k (rJn R (nI (t.ch + 1)) (fun j => joinSl far (t.f j) (g j)) s) h' ∧ outR r k h h') → (v = some (.int (bI (newR t s g))) ∧ n' = n ∧ (∃ R', ro_at r k R' h' ∧ isR k (joinR b t s g) R') ∧ outR r k h h') := by
        rintro far hf v n' h' ⟨p1, p2, p3, p4⟩
        refine ⟨?_, p2, ⟨_, p3, ?_⟩, p4⟩
        · rw [p1]
          unfold newR
          rw [ht, hc]
          rfl
        · unfold joinR
          rw [if_neg (by simp [ht]), if_neg (by simp [hc]), hf]
          refine ⟨by rw [ht]; exact q1, rfl, fun _ => ⟨?_, ?_⟩⟩
          · have z := rJn_G (R := R) (c := nI (t.ch + 1)) (F := fun j => joinSl far (t.f j) (g j)) g1.1
            show isG _ t.n _
            rw [en]
            exact z
          · show t.n ≤ k
            omega
      cases hf : (b && decide (4 ≤ t.ch + 1)) with
      | false => exact (c_Ro_join_near t.ch b hf (fun z => hch z ht) h31 h32 hd H K g1 hK s1 s2 ho q1 q2 (by rw [← ec]; exact hc)).mono (key false hf)
      | true => exact (c_Ro_join_far t.ch b hf (fun z => hch z ht) h31 h32 hd H K g1 hK s1 s2 ho q1 q2 (by rw [← ec]; exact hc)).mono (key true hf)
def swp (s j : Nat) : Nat := if j = s - 1 then s - 2 else if j = s - 2 then s - 1 else j
theorem swp_lt {s j k : Nat} (h2 : 2 ≤ s) (hs : s ≤ k) (hj : j < k) : swp s j < k := by
  unfold swp
  split
  · omega
  · split <;> omega
theorem swp_inj {s i j : Nat} (h2 : 2 ≤ s) (e : swp s i = swp s j) : i = j := by
  unfold swp at e
  split at e <;> split at e <;> (try split at e) <;> (try split at e) <;> omega
def rSw (R : mR) (s : Nat) : mR := (fun j => R.1 (swp s j), R.2.1, R.2.2.1, R.2.2.2.1, fun j => R.2.2.2.2.1 (swp s j), fun j => R.2.2.2.2.2 (swp s j))
set_option maxHeartbeats 4000000 in
set_option maxRecDepth 100000 in
theorem c_Ro_swapTop (h31 : k < 2 ^ 31) (h2 : 2 ≤ s) (hsk : s ≤ k) (H : ro_at r k R h) (hs : R.2.1 = nI s) : gi_T l V y_Ro_swapTop b_Ro_swapTop 3 none 0 0 0 0 [.ref r] n h (fun v n' h' => v = none ∧ n' = n ∧ ro_at r k (rSw R s) h' ∧ outR r k h h') := by
  refine gi_enter (by decide) (Nat.le_of_ble_eq_true rfl) ?_
  intro _ _ _ _ _ _ _ _ C hr hnm
  obtain ⟨H0, ⟨fv, H1, -⟩, ⟨gm, H2, -⟩, H3, H4⟩ := id H
  have a1 := H3 (s - 1) (by omega)
  have a2 := H3 (s - 2) (by omega)
  refine gi_aload_n (q := 1) (i := 0) C (dm_Ro_swapTop 0 rfl) rfl rfl rfl ?_
  refine gi_get (q := 4) C (dm_Ro_swapTop 1 rfl) rfl fl_Ro_26 (by repeat (first | exact gi_up_self _ _ _ | assumption | rw [gi_up_ne (by omega)])) rfl ?_
  refine gi_iconst (q := 5) (v := 2) C (dm_Ro_swapTop 2 rfl) rfl (by decide) ?_
  refine gi_icmp_ge (q := 8) (tgt := 9) C (dm_Ro_swapTop 3 rfl) rfl (by decide) (fun c5 => ?_) (fun c5 => ?_)
  · refine gi_aload_n (q := 10) (i := 0) C (dm_Ro_swapTop 5 rfl) rfl rfl rfl ?_
    refine gi_get (q := 13) C (dm_Ro_swapTop 6 rfl) rfl fl_Ro_11 (by repeat (first | exact gi_up_self _ _ _ | assumption | rw [gi_up_ne (by omega)])) rfl ?_
    refine gi_aload_n (q := 14) (i := 0) C (dm_Ro_swapTop 7 rfl) rfl rfl rfl ?_
    refine gi_get (q := 17) C (dm_Ro_swapTop 8 rfl) rfl fl_Ro_26 (by repeat (first | exact gi_up_self _ _ _ | assumption | rw [gi_up_ne (by omega)])) rfl ?_
    refine gi_iconst (q := 18) (v := 1) C (dm_Ro_swapTop 9 rfl) rfl (by decide) ?_
    refine gi_isub (q := 19) C (dm_Ro_swapTop 10 rfl) rfl ?_
    rw [show R.2.1 - 1 = nI (s - 1) by rw [hs, nI_m1 (by omega)]]
    refine gi_aald (q := 20) C (dm_Ro_swapTop 11 rfl) rfl rfl (by repeat (first | exact gi_up_self _ _ _ | assumption | rw [gi_up_ne (by omega)])) (vp_nI (by omega) h31) (ro_rf H H1 (show s - 1 < k by omega) h31) ?_
    refine gi_astore_n (q := 21) (i := 1) C (dm_Ro_swapTop 12 rfl) rfl rfl (Nat.le_of_ble_eq_true rfl) ?_
    refine gi_aload_n (q := 22) (i := 0) C (dm_Ro_swapTop 13 rfl) rfl rfl rfl ?_
    refine gi_get (q := 25) C (dm_Ro_swapTop 14 rfl) rfl fl_Ro_11 (by repeat (first | exact gi_up_self _ _ _ | assumption | rw [gi_up_ne (by omega)])) rfl ?_
    refine gi_aload_n (q := 26) (i := 0) C (dm_Ro_swapTop 15 rfl) rfl rfl rfl ?_
    refine gi_get (q := 29) C (dm_Ro_swapTop 16 rfl) rfl fl_Ro_26 (by repeat (first | exact gi_up_self _ _ _ | assumption | rw [gi_up_ne (by omega)])) rfl ?_
    refine gi_iconst (q := 30) (v := 1) C (dm_Ro_swapTop 17 rfl) rfl (by decide) ?_
    refine gi_isub (q := 31) C (dm_Ro_swapTop 18 rfl) rfl ?_
    refine gi_aload_n (q := 32) (i := 0) C (dm_Ro_swapTop 19 rfl) rfl rfl rfl ?_
    refine gi_get (q := 35) C (dm_Ro_swapTop 20 rfl) rfl fl_Ro_11 (by repeat (first | exact gi_up_self _ _ _ | assumption | rw [gi_up_ne (by omega)])) rfl ?_
    refine gi_aload_n (q := 36) (i := 0) C (dm_Ro_swapTop 21 rfl) rfl rfl rfl ?_
    refine gi_get (q := 39) C (dm_Ro_swapTop 22 rfl) rfl fl_Ro_26 (by repeat (first | exact gi_up_self _ _ _ | assumption | rw [gi_up_ne (by omega)])) rfl ?_
    refine gi_iconst (q := 40) (v := 2) C (dm_Ro_swapTop 23 rfl) rfl (by decide) ?_
    refine gi_isub (q := 41) C (dm_Ro_swapTop 24 rfl) rfl ?_
    rw [show R.2.1 - 1 = nI (s - 1) by rw [hs, nI_m1 (by omega)]]
    rw [show R.2.1 - 2 = nI (s - 2) by rw [hs, nI_m2 (by omega)]]
    refine gi_aald (q := 42) C (dm_Ro_swapTop 25 rfl) rfl rfl (by repeat (first | exact gi_up_self _ _ _ | assumption | rw [gi_up_ne (by omega)])) (vp_nI (by omega) h31) (ro_rf H H1 (show s - 2 < k by omega) h31) ?_
    refine gi_aast (q := 43) C (dm_Ro_swapTop 26 rfl) rfl rfl rfl (by repeat (first | exact gi_up_self _ _ _ | assumption | rw [gi_up_ne (by omega)])) a2.2.2 (vp_nI (by omega) h31) ?_
    refine gi_aload_n (q := 44) (i := 0) C (dm_Ro_swapTop 27 rfl) rfl rfl rfl ?_
    refine gi_get (q := 47) C (dm_Ro_swapTop 28 rfl) rfl fl_Ro_11 (by repeat (first | exact gi_up_self _ _ _ | assumption | rw [gi_up_ne (by omega)])) rfl ?_
    refine gi_aload_n (q := 48) (i := 0) C (dm_Ro_swapTop 29 rfl) rfl rfl rfl ?_
    refine gi_get (q := 51) C (dm_Ro_swapTop 30 rfl) rfl fl_Ro_26 (by repeat (first | exact gi_up_self _ _ _ | assumption | rw [gi_up_ne (by omega)])) rfl ?_
    refine gi_iconst (q := 52) (v := 2) C (dm_Ro_swapTop 31 rfl) rfl (by decide) ?_
    refine gi_isub (q := 53) C (dm_Ro_swapTop 32 rfl) rfl ?_
    refine gi_aload_n (q := 54) (i := 1) C (dm_Ro_swapTop 33 rfl) rfl rfl rfl ?_
    rw [show R.2.1 - 2 = nI (s - 2) by rw [hs, nI_m2 (by omega)]]
    refine gi_aast (q := 55) C (dm_Ro_swapTop 34 rfl) rfl rfl rfl (by repeat (first | exact gi_up_self _ _ _ | assumption | rw [gi_up_ne (by omega)])) (by rw [gi_up_ne (by omega)]; exact a1.2.2) (vp_nI (by omega) h31) ?_
    refine gi_aload_n (q := 56) (i := 0) C (dm_Ro_swapTop 35 rfl) rfl rfl rfl ?_
    refine gi_get (q := 59) C (dm_Ro_swapTop 36 rfl) rfl fl_Ro_17 (by repeat (first | exact gi_up_self _ _ _ | assumption | rw [gi_up_ne (by omega)])) rfl ?_
    refine gi_aload_n (q := 60) (i := 0) C (dm_Ro_swapTop 37 rfl) rfl rfl rfl ?_
    refine gi_get (q := 63) C (dm_Ro_swapTop 38 rfl) rfl fl_Ro_26 (by repeat (first | exact gi_up_self _ _ _ | assumption | rw [gi_up_ne (by omega)])) rfl ?_
    refine gi_iconst (q := 64) (v := 1) C (dm_Ro_swapTop 39 rfl) rfl (by decide) ?_
    refine gi_isub (q := 65) C (dm_Ro_swapTop 40 rfl) rfl ?_
    rw [show R.2.1 - 1 = nI (s - 1) by rw [hs, nI_m1 (by omega)]]
    refine gi_iald (q := 66) C (dm_Ro_swapTop 41 rfl) rfl rfl (by repeat (first | exact gi_up_self _ _ _ | assumption | rw [gi_up_ne (by omega)])) (vp_nI (by omega) h31) ?_
    refine gi_istore_n (q := 67) (i := 2) C (dm_Ro_swapTop 42 rfl) rfl rfl (Nat.le_of_ble_eq_true rfl) ?_
    refine gi_aload_n (q := 68) (i := 0) C (dm_Ro_swapTop 43 rfl) rfl rfl rfl ?_
    refine gi_get (q := 71) C (dm_Ro_swapTop 44 rfl) rfl fl_Ro_17 (by repeat (first | exact gi_up_self _ _ _ | assumption | rw [gi_up_ne (by omega)])) rfl ?_
    refine gi_aload_n (q := 72) (i := 0) C (dm_Ro_swapTop 45 rfl) rfl rfl rfl ?_
    refine gi_get (q := 75) C (dm_Ro_swapTop 46 rfl) rfl fl_Ro_26 (by repeat (first | exact gi_up_self _ _ _ | assumption | rw [gi_up_ne (by omega)])) rfl ?_
    refine gi_iconst (q := 76) (v := 1) C (dm_Ro_swapTop 47 rfl) rfl (by decide) ?_
    refine gi_isub (q := 77) C (dm_Ro_swapTop 48 rfl) rfl ?_
    refine gi_aload_n (q := 78) (i := 0) C (dm_Ro_swapTop 49 rfl) rfl rfl rfl ?_
    refine gi_get (q := 81) C (dm_Ro_swapTop 50 rfl) rfl fl_Ro_17 (by repeat (first | exact gi_up_self _ _ _ | assumption | rw [gi_up_ne (by omega)])) rfl ?_
    refine gi_aload_n (q := 82) (i := 0) C (dm_Ro_swapTop 51 rfl) rfl rfl rfl ?_
    refine gi_get (q := 85) C (dm_Ro_swapTop 52 rfl) rfl fl_Ro_26 (by repeat (first | exact gi_up_self _ _ _ | assumption | rw [gi_up_ne (by omega)])) rfl ?_
    refine gi_iconst (q := 86) (v := 2) C (dm_Ro_swapTop 53 rfl) rfl (by decide) ?_
    refine gi_isub (q := 87) C (dm_Ro_swapTop 54 rfl) rfl ?_
    rw [show R.2.1 - 1 = nI (s - 1) by rw [hs, nI_m1 (by omega)]]
    rw [show R.2.1 - 2 = nI (s - 2) by rw [hs, nI_m2 (by omega)]]
    refine gi_iald (q := 88) C (dm_Ro_swapTop 55 rfl) rfl rfl (by repeat (first | exact gi_up_self _ _ _ | assumption | rw [gi_up_ne (by omega)])) (vp_nI (by omega) h31) ?_
    refine gi_iast (q := 89) C (dm_Ro_swapTop 56 rfl) rfl rfl (by repeat (first | exact gi_up_self _ _ _ | assumption | rw [gi_up_ne (by omega)])) (vp_nI (by omega) h31) ?_
    refine gi_aload_n (q := 90) (i := 0) C (dm_Ro_swapTop 57 rfl) rfl rfl rfl ?_
    refine gi_get (q := 93) C (dm_Ro_swapTop 58 rfl) rfl fl_Ro_17 (by repeat (first | exact gi_up_self _ _ _ | assumption | rw [gi_up_ne (by omega)])) rfl ?_
    refine gi_aload_n (q := 94) (i := 0) C (dm_Ro_swapTop 59 rfl) rfl rfl rfl ?_
    refine gi_get (q := 97) C (dm_Ro_swapTop 60 rfl) rfl fl_Ro_26 (by repeat (first | exact gi_up_self _ _ _ | assumption | rw [gi_up_ne (by omega)])) rfl ?_
    refine gi_iconst (q := 98) (v := 2) C (dm_Ro_swapTop 61 rfl) rfl (by decide) ?_
    refine gi_isub (q := 99) C (dm_Ro_swapTop 62 rfl) rfl ?_
    refine gi_iload_n (q := 100) (i := 2) C (dm_Ro_swapTop 63 rfl) rfl rfl rfl ?_
    rw [show R.2.1 - 2 = nI (s - 2) by rw [hs, nI_m2 (by omega)]]
    refine gi_iast (q := 101) C (dm_Ro_swapTop 64 rfl) rfl rfl (by repeat (first | exact gi_up_self _ _ _ | assumption | rw [gi_up_ne (by omega)])) (vp_nI (by omega) h31) ?_
    refine gi_vret C hr (dm_Ro_swapTop 65 rfl) ?_
    refine ⟨rfl, rfl, ?_⟩
    simp only [gi_up_up]
    refine ⟨?_, (outR.rf.up (by omega) (by omega)).up (by omega) (by omega)⟩
    obtain ⟨h1, ⟨f', g2, g3⟩, ⟨g', g4, g5⟩, h6, h7⟩ := id H
    cases g2.symm.trans H1
    cases g4.symm.trans H2
    have c1 : (nI (s - 1)).toNatClampNeg = s - 1 := nI_clamp (by omega)
    have c2 : (nI (s - 2)).toNatClampNeg = s - 2 := nI_clamp (by omega)
    refine ⟨by rw [gi_up_ne (by omega), gi_up_ne (by omega)]; exact h1, ⟨_, by rw [gi_up_ne (by omega), gi_up_self], fun j hj => ?_⟩, ⟨_, gi_up_self _ _ _, fun j hj => ?_⟩, fun j hj => ?_, fun i j hi hj e => ?_⟩
    · rw [c1, c2]
      show va_up (va_up fv (s - 1) _) (s - 2) _ j = some (R.1 (swp s j))
      unfold va_up swp
      by_cases z1 : j = s - 1
      · rw [if_neg (by omega), if_pos z1, if_pos z1]
      · by_cases z2 : j = s - 2
        · rw [if_pos z2, if_neg z1, if_pos z2]
        · rw [if_neg z2, if_neg z1, if_neg z1, if_neg z2]
          exact g3 j hj
    · rw [c1, c2]
      show upd (upd gm (s - 1) _) (s - 2) _ j = R.2.2.2.2.2 (swp s j)
      unfold upd swp
      by_cases z1 : j = s - 1
      · rw [if_neg (by omega), if_pos z1, if_pos z1]
        exact g5 _ (by omega)
      · by_cases z2 : j = s - 2
        · rw [if_pos z2, if_neg z1, if_pos z2]
          exact g5 _ (by omega)
        · rw [if_neg z2, if_neg z1, if_neg z1, if_neg z2]
          exact g5 j hj
    · have t := h6 (swp s j) (swp_lt h2 hsk hj)
      refine ⟨t.1, t.2.1, ?_⟩
      show gi_up _ _ _ (R.1 (swp s j)) = _
      rw [gi_up_ne (by omega), gi_up_ne (by omega)]
      exact t.2.2
    · exact swp_inj h2 (h7 _ _ (swp_lt h2 hsk hi) (swp_lt h2 hsk hj) e)
  · exfalso
    rw [hs] at c5
    exact c5 (nI_le (a := 2) h2 (by omega))
end RO6
