-- needs: 61
section RO4
variable {l : Launch} {V : gi_V} {n : Nat} {h : gi_H}
set_option maxHeartbeats 4000000 in
set_option maxRecDepth 100000 in
theorem c_Mt_min_0 (a b : Nat) (ha : a < 2 ^ 31) (hb : b < 2 ^ 31) : gi_T l V y_Mt_min_0 b_Mt_min_0 2 (some .int) 0 0 0 0 [.int (nI a), .int (nI b)] n h (gi_is (some (.int (nI (min a b)))) n h) := by
  refine gi_enterF (by decide +kernel) (Nat.le_of_ble_eq_true rfl) ?_
  intro _ _ _ _ _ _ _ _ C hr hnm
  refine gi_iload_n (q := 1) (i := 0) C (dm_Mt_min_0 0 rfl) rfl rfl rfl ?_
  refine gi_iload_n (q := 2) (i := 1) C (dm_Mt_min_0 1 rfl) rfl rfl rfl ?_
  refine gi_icmp_gt (q := 5) (tgt := 9) C (dm_Mt_min_0 2 rfl) rfl (by decide) (fun c2 => ?_) (fun c2 => ?_)
  · refine gi_iload_n (q := 10) (i := 1) C (dm_Mt_min_0 5 rfl) rfl rfl rfl ?_
    refine gi_iret C hr (dm_Mt_min_0 6 rfl) ?_
    refine ⟨?_, rfl, rfl⟩
    first
      | (rw [show min a b = a from Nat.min_eq_left (by rcases Nat.lt_or_ge b a with q | q; · exact absurd (nI_lt q ha) c2
                                                       · exact q)]; done)
      | (rw [show min a b = b from Nat.min_eq_right (by rcases Nat.lt_or_ge a b with q | q; · exact absurd c2 (Int32.not_lt.mpr (nI_le (Nat.le_of_lt q) hb))
                                                        · exact q)]; done)
  · refine gi_iload_n (q := 6) (i := 0) C (dm_Mt_min_0 3 rfl) rfl rfl rfl ?_
    refine gi_goto (tgt := 10) C (dm_Mt_min_0 4 rfl) (by decide) ?_
    refine gi_iret C hr (dm_Mt_min_0 6 rfl) ?_
    refine ⟨?_, rfl, rfl⟩
    first
      | (rw [show min a b = a from Nat.min_eq_left (by rcases Nat.lt_or_ge b a with q | q; · exact absurd (nI_lt q ha) c2
                                                       · exact q)]; done)
      | (rw [show min a b = b from Nat.min_eq_right (by rcases Nat.lt_or_ge a b with q | q; · exact absurd c2 (Int32.not_lt.mpr (nI_le (Nat.le_of_lt q) hb))
                                                        · exact q)]; done)
variable {r k s r2 k2 : Nat} {R R2 : mR} {f g : Nat → Sl}
def rCp (R R2 : mR) (s i : Nat) : mR := (R.1, nI s, R.2.2.1, R.2.2.2.1, fun j => if j < i then R2.2.2.2.2.1 j else R.2.2.2.2.1 j, fun j => if j < i then R2.2.2.2.2.2 j else R.2.2.2.2.2 j)
theorem rCp_0 (R R2 : mR) (s : Nat) : rO R (nI s) R.2.2.1 R.2.2.2.1 = rCp R R2 s 0 := by
  unfold rCp
  simp
theorem rCp_1 {R R2 : mR} {s i : Nat} : rM (rV (rCp R R2 s i) i (R2.2.2.2.2.1 i)) i (R2.2.2.2.2.2 i) = rCp R R2 s (i + 1) := by
  unfold rCp
  refine Prod.ext rfl (Prod.ext rfl (Prod.ext rfl (Prod.ext rfl (Prod.ext ?_ ?_))))
  · funext j
    show upV _ i _ j = _
    unfold upV
    dsimp only
    by_cases q : j = i
    · rw [if_pos q, if_pos (by omega), q]
    · rw [if_neg q]
      by_cases z : j < i
      · rw [if_pos z, if_pos (by omega)]
      · rw [if_neg z, if_neg (by omega)]
  · funext j
    show upV _ i _ j = _
    unfold upV
    dsimp only
    by_cases q : j = i
    · rw [if_pos q, if_pos (by omega), q]
    · rw [if_neg q]
      by_cases z : j < i
      · rw [if_pos z, if_pos (by omega)]
      · rw [if_neg z, if_neg (by omega)]
theorem rCp_G {R R2 : mR} {s : Nat} {f : Nat → Sl} (h : isG R2 s f) : isG (rCp R R2 s s) s f := ⟨rfl, fun i hi => by
  unfold rCp
  dsimp only
  rw [if_pos hi, if_pos hi]
  exact h.2 i hi⟩
set_option maxHeartbeats 4000000 in
set_option maxRecDepth 100000 in
theorem c_Ro_copy (h31 : k < 2 ^ 31) (h32 : k2 < 2 ^ 31) (hd : r2 + 3 + k2 ≤ r ∨ r + 3 + k ≤ r2) (s1 : s ≤ k) (s2 : s ≤ k2) (H : ro_at r k R h) (K : ro_at r2 k2 R2 h) (hs : R2.2.1 = nI s) (hw : ∀ j, j < s → wfV (R2.2.2.2.2.1 j)) : gi_T l V y_Ro_copy b_Ro_copy 3 none 1 21 0 0 [.ref r, .ref r2] n h (fun v n' h' => v = none ∧ n' = n ∧ ro_at r k (rCp R R2 s s) h' ∧ outR r k h h') := by
  refine gi_enter (by decide) (Nat.le_of_ble_eq_true rfl) ?_
  intro _ _ _ _ _ _ _ _ C hr hnm
  obtain ⟨H0, ⟨fv, H1, -⟩, ⟨gm, H2, -⟩, H3, H4⟩ := id H
  obtain ⟨K0, ⟨fk, K1, -⟩, ⟨gk, K2, -⟩, K3, K4⟩ := id K
  refine gi_aload_n (q := 1) (i := 0) C (dm_Ro_copy 0 rfl) rfl rfl rfl ?_
  refine gi_aload_n (q := 2) (i := 1) C (dm_Ro_copy 1 rfl) rfl rfl rfl ?_
  refine gi_get (q := 5) C (dm_Ro_copy 2 rfl) rfl fl_Ro_26 (by repeat (first | exact gi_up_self _ _ _ | assumption | rw [gi_up_ne (by omega)])) rfl ?_
  refine gi_aload_n (q := 6) (i := 0) C (dm_Ro_copy 3 rfl) rfl rfl rfl ?_
  refine gi_get (q := 9) C (dm_Ro_copy 4 rfl) rfl fl_Ro_11 (by repeat (first | exact gi_up_self _ _ _ | assumption | rw [gi_up_ne (by omega)])) rfl ?_
  refine gi_alen (q := 10) C (dm_Ro_copy 5 rfl) rfl rfl (by repeat (first | exact gi_up_self _ _ _ | assumption | rw [gi_up_ne (by omega)])) rfl ?_
  rw [hs]
  refine gi_calls 2 (q := 13) C (dm_Ro_copy 6 rfl) rfl my_Mt_min_0 lk_Ro_37 sm_Mt_min_0 (c_Mt_min_0 s k (by omega) h31) rfl rfl ⟨(Nat.le_of_ble_eq_true rfl), (Nat.le_of_ble_eq_true rfl)⟩ (Nat.le_of_ble_eq_true rfl) ⟨(Nat.le_of_ble_eq_true rfl), (Nat.le_of_ble_eq_true rfl)⟩ (fun r10 n10 h10 e10 => ?_)
  obtain ⟨rfl, rfl, rfl⟩ := e10
  rw [Nat.min_eq_left s1]
  refine gi_put (q := 16) C (dm_Ro_copy 7 rfl) rfl fl_Ro_26 fp_Ro_2 (by repeat (first | exact gi_up_self _ _ _ | assumption | rw [gi_up_ne (by omega)])) (Nat.le_of_ble_eq_true rfl) rfl rfl ?_
  refine gi_iconst (q := 17) (v := 0) C (dm_Ro_copy 8 rfl) rfl (by decide) ?_
  refine gi_istore_n (q := 18) (i := 2) C (dm_Ro_copy 9 rfl) rfl rfl (Nat.le_of_ble_eq_true rfl) ?_
  have V0 := H.o (nI s) R.2.2.1 R.2.2.2.1
  rw [rCp_0 R R2 s] at V0
  refine gi_while (σ := Nat) (fun i => s - i) (fun i => [(2, .int (nI i)), (0, .ref r), (1, .ref r2)]) (fun _ => n10) (fun _ => 0) (fun _ => 0) (fun i y => i ≤ s ∧ ro_at r k (rCp R R2 s i) y ∧ outR r k h10 y) 0 ⟨Nat.zero_le _, V0, outR.rf.up (by omega) (by omega)⟩ ?_ (List.forall_mem_cons.mpr ⟨rfl, List.forall_mem_cons.mpr ⟨rfl, List.forall_mem_cons.mpr ⟨rfl, fun _ h => absurd h List.not_mem_nil⟩⟩⟩) rfl rfl rfl
  rintro i y ⟨hi, Y, YO⟩ ih
  try dsimp only at *
  obtain ⟨Y0, ⟨fv', Y1, -⟩, ⟨gm', Y2, -⟩, Y3, Y4⟩ := id Y
  have Z : ro_at r2 k2 R2 y := K.keep (fun b b1 b2 => YO b (by omega))
  obtain ⟨Z0, ⟨fz, Z1, -⟩, ⟨gz, Z2, -⟩, Z3, Z4⟩ := id Z
  refine gi_iload_n (q := 19) (i := 2) C (dm_Ro_copy 10 rfl) rfl rfl rfl ?_
  refine gi_aload_n (q := 20) (i := 0) C (dm_Ro_copy 11 rfl) rfl rfl rfl ?_
  refine gi_get (q := 23) C (dm_Ro_copy 12 rfl) rfl fl_Ro_26 Y0 rfl ?_
  rw [show (rCp R R2 s i).2.1 = nI s from rfl]
  refine gi_icmp_ge (q := 26) (tgt := 59) C (dm_Ro_copy 13 rfl) rfl (by decide) (fun c23 => ?_) (fun c23 => ?_)
  · have hik : i = s := by
      rcases Nat.lt_or_ge i s with q | q
      · exact absurd c23 (Int32.not_le.mpr (nI_lt q (by omega)))
      · omega
    subst hik
    refine gi_vret C hr (dm_Ro_copy 33 rfl) ?_
    exact ⟨rfl, rfl, Y, YO⟩
  · have hlt : i < s := by
      rcases Nat.lt_or_ge i s with q | q
      · exact q
      · exact absurd (nI_le q (by omega)) c23
    have yi := Y3 i (by omega)
    have zi := Z3 i (by omega)
    refine gi_aload_n (q := 27) (i := 0) C (dm_Ro_copy 14 rfl) rfl rfl rfl ?_
    refine gi_get (q := 30) C (dm_Ro_copy 15 rfl) rfl fl_Ro_11 (by first | exact Y0 | exact Y1 | exact Y2 | exact Z0 | exact Z1 | exact Z2 | (rw [gi_up_ne (by omega)]; first | exact Y0 | exact Y1 | exact Y2 | exact Z0 | exact Z1 | exact Z2)) rfl ?_
    refine gi_iload_n (q := 31) (i := 2) C (dm_Ro_copy 16 rfl) rfl rfl rfl ?_
    refine gi_aald (q := 32) C (dm_Ro_copy 17 rfl) rfl rfl (by first | exact Y0 | exact Y1 | exact Y2 | exact Z0 | exact Z1 | exact Z2 | (rw [gi_up_ne (by omega)]; first | exact Y0 | exact Y1 | exact Y2 | exact Z0 | exact Z1 | exact Z2)) (vp_nI (by omega) (by omega)) (ro_rf Y Y1 (show i < k by omega) h31) ?_
    refine gi_aload_n (q := 33) (i := 1) C (dm_Ro_copy 18 rfl) rfl rfl rfl ?_
    refine gi_get (q := 36) C (dm_Ro_copy 19 rfl) rfl fl_Ro_11 (by first | exact Y0 | exact Y1 | exact Y2 | exact Z0 | exact Z1 | exact Z2 | (rw [gi_up_ne (by omega)]; first | exact Y0 | exact Y1 | exact Y2 | exact Z0 | exact Z1 | exact Z2)) rfl ?_
    refine gi_iload_n (q := 37) (i := 2) C (dm_Ro_copy 20 rfl) rfl rfl rfl ?_
    refine gi_aald (q := 38) C (dm_Ro_copy 21 rfl) rfl rfl (by first | exact Y0 | exact Y1 | exact Y2 | exact Z0 | exact Z1 | exact Z2 | (rw [gi_up_ne (by omega)]; first | exact Y0 | exact Y1 | exact Y2 | exact Z0 | exact Z1 | exact Z2)) (vp_nI (by omega) (by omega)) (ro_rf Z Z1 (show i < k2 by omega) h32) ?_
    refine gi_callv 1 (q := 41) C (dm_Ro_copy 22 rfl) rfl my_Va_copy lk_Ro_43 im_Va_copy rfl (c_Va_copy ((rCp R R2 s i).1 i) (R2.1 i) _ _ yi.2.2 zi.2.2 (by omega) (hw i hlt)) yi.2.2 rfl rfl ⟨(Nat.le_of_ble_eq_true rfl), (Nat.le_of_ble_eq_true rfl)⟩ (Nat.le_of_ble_eq_true rfl) ⟨(Nat.le_of_ble_eq_true rfl), (Nat.le_of_ble_eq_true rfl)⟩ (fun r38 n38 h38 e38 => ?_)
    obtain ⟨rfl, rfl, rfl⟩ := e38
    refine gi_aload_n (q := 42) (i := 0) C (dm_Ro_copy 23 rfl) rfl rfl rfl ?_
    refine gi_get (q := 45) C (dm_Ro_copy 24 rfl) rfl fl_Ro_17 (by first | exact Y0 | exact Y1 | exact Y2 | exact Z0 | exact Z1 | exact Z2 | (rw [gi_up_ne (by omega)]; first | exact Y0 | exact Y1 | exact Y2 | exact Z0 | exact Z1 | exact Z2)) rfl ?_
    refine gi_iload_n (q := 46) (i := 2) C (dm_Ro_copy 25 rfl) rfl rfl rfl ?_
    refine gi_aload_n (q := 47) (i := 1) C (dm_Ro_copy 26 rfl) rfl rfl rfl ?_
    refine gi_get (q := 50) C (dm_Ro_copy 27 rfl) rfl fl_Ro_17 (by first | exact Y0 | exact Y1 | exact Y2 | exact Z0 | exact Z1 | exact Z2 | (rw [gi_up_ne (by omega)]; first | exact Y0 | exact Y1 | exact Y2 | exact Z0 | exact Z1 | exact Z2)) rfl ?_
    refine gi_iload_n (q := 51) (i := 2) C (dm_Ro_copy 28 rfl) rfl rfl rfl ?_
    refine gi_iald (q := 52) C (dm_Ro_copy 29 rfl) rfl rfl (by first | exact Y0 | exact Y1 | exact Y2 | exact Z0 | exact Z1 | exact Z2 | (rw [gi_up_ne (by omega)]; first | exact Y0 | exact Y1 | exact Y2 | exact Z0 | exact Z1 | exact Z2)) (vp_nI (by omega) (by omega)) ?_
    refine gi_iast (q := 53) C (dm_Ro_copy 30 rfl) rfl rfl (by first | exact Y0 | exact Y1 | exact Y2 | exact Z0 | exact Z1 | exact Z2 | (rw [gi_up_ne (by omega)]; first | exact Y0 | exact Y1 | exact Y2 | exact Z0 | exact Z1 | exact Z2)) (vp_nI (by omega) (by omega)) ?_
    refine gi_iinc (q := 56) (v := 1) C (dm_Ro_copy 31 rfl) rfl rfl (by decide) (Nat.le_of_ble_eq_true rfl) ?_
    refine gi_goto (tgt := 18) C (dm_Ro_copy 32 rfl) (by decide) ?_
    refine gi_close (ih (i + 1) _ ⟨hlt, ?_, ?_⟩ (by omega)) (List.forall_mem_cons.mpr ⟨(by simp [gi_look, nI_1]), List.forall_mem_cons.mpr ⟨rfl, List.forall_mem_cons.mpr ⟨rfl, fun _ h => absurd h List.not_mem_nil⟩⟩⟩) rfl rfl rfl
    · have t := (Y.v (show i < k by omega) (R2.2.2.2.2.1 i)).m (by rw [gi_up_ne (by omega)]; exact Y2) i (R2.2.2.2.2.2 i)
      rw [rCp_1] at t
      rw [ro_mk Z Z2 (show i < k2 by omega) h32, nI_clamp (by omega)]
      exact t
    · exact (YO.up (by omega) (by omega)).up (by omega) (by omega)
theorem cov_f {f g : Nat → Sl} {s i : Nat} (hi : i < s) (h : ¬ (covA (f i).1 (g i).1 = true ∧ covM (f i).2 (g i).2 = true)) : covR (mkR true 0 s f) s g = false := by
  cases e : covR (mkR true 0 s f) s g with
  | false => rfl
  | true => exact absurd ((covR_iff.mp e).2 i hi) h
theorem cov_t {f g : Nat → Sl} {s : Nat} (h : ∀ j, j < s → covA (f j).1 (g j).1 = true ∧ covM (f j).2 (g j).2 = true) : covR (mkR true 0 s f) s g = true := covR_iff.mpr ⟨rfl, h⟩
theorem bI_t {b : Bool} (h : ¬ bI b = 0) : b = true := by cases b <;> simp [bI] at h ⊢
theorem bI_fa {b : Bool} (h : bI b = 0) : b = false := by cases b <;> simp [bI] at h ⊢
set_option maxHeartbeats 4000000 in
set_option maxRecDepth 100000 in
theorem c_Ro_covers (h31 : k < 2 ^ 31) (h32 : k2 < 2 ^ 31) (H : ro_at r k R h) (K : ro_at r2 k2 R2 h) (hG : isG R s f) (hK : isG R2 s g) (s1 : s ≤ k) (s2 : s ≤ k2) (ho : ∀ j, j < s → okAv (f j).1 ∧ okAv (g j).1 ∧ arA (f j).1 = arA (g j).1) : gi_T l V y_Ro_covers b_Ro_covers 3 (some .boolean) 1 21 0 0 [.ref r, .ref r2] n h (gi_is (some (.int (bI (covR (mkR true 0 s f) s g)))) n h) := by
  refine gi_enter (by decide) (Nat.le_of_ble_eq_true rfl) ?_
  intro _ _ _ _ _ _ _ _ C hr hnm
  obtain ⟨H0, ⟨fv, H1, -⟩, ⟨gm, H2, -⟩, H3, H4⟩ := id H
  obtain ⟨K0, ⟨fk, K1, -⟩, ⟨gk, K2, -⟩, K3, K4⟩ := id K
  refine gi_aload_n (q := 1) (i := 1) C (dm_Ro_covers 0 rfl) rfl rfl rfl ?_
  refine gi_get (q := 4) C (dm_Ro_covers 1 rfl) rfl fl_Ro_26 (by repeat (first | exact gi_up_self _ _ _ | assumption | rw [gi_up_ne (by omega)])) rfl ?_
  refine gi_aload_n (q := 5) (i := 0) C (dm_Ro_covers 2 rfl) rfl rfl rfl ?_
  refine gi_get (q := 8) C (dm_Ro_covers 3 rfl) rfl fl_Ro_26 (by repeat (first | exact gi_up_self _ _ _ | assumption | rw [gi_up_ne (by omega)])) rfl ?_
  refine gi_icmp_eq (q := 11) (tgt := 13) C (dm_Ro_covers 4 rfl) rfl (by decide) (fun c8 => ?_) (fun c8 => ?_)
  · refine gi_iconst (q := 14) (v := 0) C (dm_Ro_covers 7 rfl) rfl (by decide) ?_
    refine gi_istore_n (q := 15) (i := 2) C (dm_Ro_covers 8 rfl) rfl rfl (Nat.le_of_ble_eq_true rfl) ?_
    refine gi_while (σ := Nat) (fun i => s - i) (fun i => [(2, .int (nI i)), (0, .ref r), (1, .ref r2)]) (fun _ => n) (fun _ => 0) (fun _ => 0) (fun i y => i ≤ s ∧ y = h ∧ ∀ j, j < i → covA (f j).1 (g j).1 = true ∧ covM (f j).2 (g j).2 = true) 0 ⟨Nat.zero_le _, rfl, fun j hj => absurd hj (by omega)⟩ ?_ (List.forall_mem_cons.mpr ⟨rfl, List.forall_mem_cons.mpr ⟨rfl, List.forall_mem_cons.mpr ⟨rfl, fun _ h => absurd h List.not_mem_nil⟩⟩⟩) rfl rfl rfl
    rintro i y ⟨hi, rfl, hc⟩ ih
    try dsimp only at *
    refine gi_iload_n (q := 16) (i := 2) C (dm_Ro_covers 9 rfl) rfl rfl rfl ?_
    refine gi_aload_n (q := 17) (i := 0) C (dm_Ro_covers 10 rfl) rfl rfl rfl ?_
    refine gi_get (q := 20) C (dm_Ro_covers 11 rfl) rfl fl_Ro_26 (by first | exact H0 | exact H1 | exact H2 | exact K0 | exact K1 | exact K2) rfl ?_
    rw [hG.1]
    refine gi_icmp_ge (q := 23) (tgt := 74) C (dm_Ro_covers 12 rfl) rfl (by decide) (fun c20 => ?_) (fun c20 => ?_)
    · refine gi_iconst (q := 75) (v := 1) C (dm_Ro_covers 42 rfl) rfl (by decide) ?_
      refine gi_zret C hr (dm_Ro_covers 43 rfl) rfl ?_
      have hik : i = s := by
        rcases Nat.lt_or_ge i s with q | q
        · exact absurd c20 (Int32.not_le.mpr (nI_lt q (by omega)))
        · omega
      subst hik
      refine ⟨?_, rfl, rfl⟩
      rw [cov_t hc]
      rfl
    · have hlt : i < s := by
        rcases Nat.lt_or_ge i s with q | q
        · exact q
        · exact absurd (nI_le q (by omega)) c20
      have hi1 := H3 i (by omega)
      have hi2 := K3 i (by omega)
      have g1 := hG.2 i hlt
      have g2 := hK.2 i hlt
      have oi := ho i hlt
      rw [g1.1] at hi1
      rw [g2.1] at hi2
      refine gi_aload_n (q := 24) (i := 0) C (dm_Ro_covers 13 rfl) rfl rfl rfl ?_
      refine gi_get (q := 27) C (dm_Ro_covers 14 rfl) rfl fl_Ro_11 (by first | exact H0 | exact H1 | exact H2 | exact K0 | exact K1 | exact K2) rfl ?_
      refine gi_iload_n (q := 28) (i := 2) C (dm_Ro_covers 15 rfl) rfl rfl rfl ?_
      refine gi_aald (q := 29) C (dm_Ro_covers 16 rfl) rfl rfl (by first | exact H0 | exact H1 | exact H2 | exact K0 | exact K1 | exact K2) (vp_nI (by omega) (by omega)) (ro_rf H H1 (show i < k by omega) h31) ?_
      refine gi_aload_n (q := 30) (i := 1) C (dm_Ro_covers 17 rfl) rfl rfl rfl ?_
      refine gi_get (q := 33) C (dm_Ro_covers 18 rfl) rfl fl_Ro_11 (by first | exact H0 | exact H1 | exact H2 | exact K0 | exact K1 | exact K2) rfl ?_
      refine gi_iload_n (q := 34) (i := 2) C (dm_Ro_covers 19 rfl) rfl rfl rfl ?_
      refine gi_aald (q := 35) C (dm_Ro_covers 20 rfl) rfl rfl (by first | exact H0 | exact H1 | exact H2 | exact K0 | exact K1 | exact K2) (vp_nI (by omega) (by omega)) (ro_rf K K1 (show i < k2 by omega) h32) ?_
      refine gi_callv 1 (q := 38) C (dm_Ro_covers 21 rfl) rfl my_Va_covers lk_Ro_55 im_Va_covers rfl (c_Va_coversA (R.1 i) (R2.1 i) (f i).1 (g i).1 oi.1 oi.2.1 oi.2.2 hi1.2.2 hi2.2.2) hi1.2.2 rfl rfl ⟨(Nat.le_of_ble_eq_true rfl), (Nat.le_of_ble_eq_true rfl)⟩ (Nat.le_of_ble_eq_true rfl) ⟨(Nat.le_of_ble_eq_true rfl), (Nat.le_of_ble_eq_true rfl)⟩ (fun r35 n35 h35 e35 => ?_)
      obtain ⟨rfl, rfl, rfl⟩ := e35
      refine gi_if_eq (q := 41) (tgt := 66) C (dm_Ro_covers 22 rfl) rfl (by decide) (fun c38 => ?_) (fun c38 => ?_)
      · refine gi_iconst (q := 67) (v := 0) C (dm_Ro_covers 38 rfl) rfl (by decide) ?_
        refine gi_zret C hr (dm_Ro_covers 39 rfl) rfl ?_
        refine ⟨?_, rfl, rfl⟩
        rw [cov_f (f := f) (g := g) hlt (by
          rintro ⟨z1, z2⟩
          rw [covM_iff] at z2
          first
            | (rw [bI_fa c38] at z1; cases z1)
            | exact z2.elim c48 c63)]
        rfl
      · refine gi_aload_n (q := 42) (i := 0) C (dm_Ro_covers 23 rfl) rfl rfl rfl ?_
        refine gi_get (q := 45) C (dm_Ro_covers 24 rfl) rfl fl_Ro_17 (by first | exact H0 | exact H1 | exact H2 | exact K0 | exact K1 | exact K2) rfl ?_
        refine gi_iload_n (q := 46) (i := 2) C (dm_Ro_covers 25 rfl) rfl rfl rfl ?_
        refine gi_iald (q := 47) C (dm_Ro_covers 26 rfl) rfl rfl (by first | exact H0 | exact H1 | exact H2 | exact K0 | exact K1 | exact K2) (vp_nI (by omega) (by omega)) ?_
        refine gi_iconst (q := 48) (v := -1) C (dm_Ro_covers 27 rfl) rfl (by decide) ?_
        rw [ro_mk H H2 (show i < k by omega) h31, g1.2]
        refine gi_icmp_eq (q := 51) (tgt := 68) C (dm_Ro_covers 28 rfl) rfl (by decide) (fun c48 => ?_) (fun c48 => ?_)
        · refine gi_iinc (q := 71) (v := 1) C (dm_Ro_covers 40 rfl) rfl rfl (by decide) (Nat.le_of_ble_eq_true rfl) ?_
          refine gi_goto (tgt := 15) C (dm_Ro_covers 41 rfl) (by decide) ?_
          refine gi_close (ih (i + 1) _ ⟨hlt, rfl, fun j hj => ?_⟩ (by omega)) (List.forall_mem_cons.mpr ⟨(by simp [gi_look, nI_1]), List.forall_mem_cons.mpr ⟨rfl, List.forall_mem_cons.mpr ⟨rfl, fun _ h => absurd h List.not_mem_nil⟩⟩⟩) rfl rfl rfl
          by_cases q : j = i
          · subst q
            refine ⟨bI_t c38, covM_iff.mpr ?_⟩
            first
              | exact Or.inl c48
              | exact Or.inr c63
          · exact hc j (by omega)
        · refine gi_aload_n (q := 52) (i := 0) C (dm_Ro_covers 29 rfl) rfl rfl rfl ?_
          refine gi_get (q := 55) C (dm_Ro_covers 30 rfl) rfl fl_Ro_17 (by first | exact H0 | exact H1 | exact H2 | exact K0 | exact K1 | exact K2) rfl ?_
          refine gi_iload_n (q := 56) (i := 2) C (dm_Ro_covers 31 rfl) rfl rfl rfl ?_
          refine gi_iald (q := 57) C (dm_Ro_covers 32 rfl) rfl rfl (by first | exact H0 | exact H1 | exact H2 | exact K0 | exact K1 | exact K2) (vp_nI (by omega) (by omega)) ?_
          refine gi_aload_n (q := 58) (i := 1) C (dm_Ro_covers 33 rfl) rfl rfl rfl ?_
          refine gi_get (q := 61) C (dm_Ro_covers 34 rfl) rfl fl_Ro_17 (by first | exact H0 | exact H1 | exact H2 | exact K0 | exact K1 | exact K2) rfl ?_
          refine gi_iload_n (q := 62) (i := 2) C (dm_Ro_covers 35 rfl) rfl rfl rfl ?_
          refine gi_iald (q := 63) C (dm_Ro_covers 36 rfl) rfl rfl (by first | exact H0 | exact H1 | exact H2 | exact K0 | exact K1 | exact K2) (vp_nI (by omega) (by omega)) ?_
          rw [ro_mk H H2 (show i < k by omega) h31, ro_mk K K2 (show i < k2 by omega) h32, g1.2, g2.2]
          refine gi_icmp_eq (q := 66) (tgt := 68) C (dm_Ro_covers 37 rfl) rfl (by decide) (fun c63 => ?_) (fun c63 => ?_)
          · refine gi_iinc (q := 71) (v := 1) C (dm_Ro_covers 40 rfl) rfl rfl (by decide) (Nat.le_of_ble_eq_true rfl) ?_
            refine gi_goto (tgt := 15) C (dm_Ro_covers 41 rfl) (by decide) ?_
            refine gi_close (ih (i + 1) _ ⟨hlt, rfl, fun j hj => ?_⟩ (by omega)) (List.forall_mem_cons.mpr ⟨(by simp [gi_look, nI_1]), List.forall_mem_cons.mpr ⟨rfl, List.forall_mem_cons.mpr ⟨rfl, fun _ h => absurd h List.not_mem_nil⟩⟩⟩) rfl rfl rfl
            by_cases q : j = i
            · subst q
              refine ⟨bI_t c38, covM_iff.mpr ?_⟩
              first
                | exact Or.inl c48
                | exact Or.inr c63
            · exact hc j (by omega)
          · refine gi_iconst (q := 67) (v := 0) C (dm_Ro_covers 38 rfl) rfl (by decide) ?_
            refine gi_zret C hr (dm_Ro_covers 39 rfl) rfl ?_
            refine ⟨?_, rfl, rfl⟩
            rw [cov_f (f := f) (g := g) hlt (by
              rintro ⟨z1, z2⟩
              rw [covM_iff] at z2
              first
                | (rw [bI_fa c38] at z1; cases z1)
                | exact z2.elim c48 c63)]
            rfl
  · exact absurd (by rw [hG.1, hK.1]) c8
end RO4
