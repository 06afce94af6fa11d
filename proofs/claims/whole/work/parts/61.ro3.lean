-- needs: 60 59 56 41
section RO3
variable {l : Launch} {V : gi_V} {n : Nat} {h : gi_H}
/-- a value as it lies in the heap -/
def eA (v : Av) : mV := match v with
  | .inl x => sV x
  | .inr p => tV p.1 p.2
theorem wf_A (v : Av) : wfV (eA v) := by
  cases v with
  | inl x => exact wf_s x
  | inr p => exact wf_t p.1 p.2
theorem c_Va_coversA (a b : Nat) (x y : Av) (hx : okAv x) (hy : okAv y) (hk : arA x = arA y) (ha : h a = some (eV (eA x))) (hb : h b = some (eV (eA y))) : gi_T l V y_Va_covers b_Va_covers 2 (some .boolean) 0 0 0 0 [.ref a, .ref b] n h (gi_is (some (.int (bI (covA x y)))) n h) := by
  cases x with
  | inl x =>
    cases y with
    | inl y => exact c_Va_covers_S a b x y hx hy ha hb
    | inr y => cases hk
  | inr x =>
    cases y with
    | inl y => cases hk
    | inr y => exact c_Va_covers_T a b x.1 y.1 x.2 y.2 ha hb
theorem c_Va_bothA (a b : Nat) (x y : Av) (hx : okAv x) (hy : okAv y) (hk : arA x = arA y) (hab : a ≠ b) (ha : h a = some (eV (eA x))) (hb : h b = some (eV (eA y))) : gi_T l V y_Va_both b_Va_both 2 none 1 30 0 0 [.ref a, .ref b] n h (gi_is none n (gi_up h a (eV (eA (bothA x y))))) := by
  cases x with
  | inl x =>
    cases y with
    | inl y => exact c_Va_both_S a b x y hx hy hab ha hb
    | inr y => cases hk
  | inr x =>
    cases y with
    | inl y => cases hk
    | inr y => exact c_Va_both_T a b x.1 y.1 x.2 y.2 hab ha hb
set_option maxHeartbeats 4000000 in
set_option maxRecDepth 100000 in
theorem c_Va_spread_T (a : Nat) (b : Int32) (o : Bool) (u v : Int64) (ha : h a = some (eV (tV b o))) : gi_T l V y_Va_spread b_Va_spread 8 none 0 0 0 0 [.ref a, .long u, .long v] n h (gi_is none n h) := by
  refine gi_enter (by decide) (Nat.le_of_ble_eq_true rfl) ?_
  intro _ _ _ _ _ _ _ _ C hr hnm
  refine gi_aload_n (q := 1) (i := 0) C (dm_Va_spread 0 rfl) rfl rfl rfl ?_
  refine gi_get (q := 4) C (dm_Va_spread 1 rfl) rfl fl_Va_9 (by repeat (first | exact gi_up_self _ _ _ | assumption | rw [gi_up_ne (by omega)])) rfl ?_
  refine gi_if_ne (q := 7) (tgt := 16) C (dm_Va_spread 2 rfl) rfl (by decide) (fun c4 => ?_) (fun c4 => ?_)
  · refine gi_vret C hr (dm_Va_spread 8 rfl) ?_
    exact ⟨rfl, rfl, rfl⟩
  · exact absurd c4 (show ¬ (1 : Int32) = 0 by decide)
/-- a row's picture: so many, and which -/
def isG (R : mR) (n : Nat) (f : Nat → Sl) : Prop := R.2.1 = nI n ∧ ∀ i, i < n → R.2.2.2.2.1 i = eA (f i).1 ∧ R.2.2.2.2.2 i = (f i).2
variable {r k s : Nat} {R : mR} {f : Nat → Sl}
def rDk (R : mR) (m : Int32) (i : Nat) : mR := (R.1, R.2.1, R.2.2.1, R.2.2.2.1, R.2.2.2.2.1, fun j => if j < i ∧ R.2.2.2.2.2 j = m then -1 else R.2.2.2.2.2 j)
theorem rDk_0 (R : mR) (m : Int32) : rDk R m 0 = R := by
  unfold rDk
  simp
theorem rDk_1 {R : mR} {m : Int32} {i : Nat} (e : R.2.2.2.2.2 i = m) : rM (rDk R m i) i (-1) = rDk R m (i + 1) := by
  unfold rDk
  refine Prod.ext rfl (Prod.ext rfl (Prod.ext rfl (Prod.ext rfl (Prod.ext rfl ?_))))
  funext j
  show upV _ i (-1) j = _
  unfold upV
  by_cases q : j = i
  · subst q
    rw [if_pos rfl]
    dsimp only
    rw [if_pos ⟨by omega, e⟩]
  · rw [if_neg q]
    dsimp only
    by_cases z : R.2.2.2.2.2 j = m
    · by_cases z2 : j < i
      · rw [if_pos ⟨z2, z⟩, if_pos ⟨by omega, z⟩]
      · rw [if_neg (by omega), if_neg (by omega)]
    · rw [if_neg (fun y => z y.2), if_neg (fun y => z y.2)]
theorem rDk_2 {R : mR} {m : Int32} {i : Nat} (e : ¬ R.2.2.2.2.2 i = m) : rDk R m i = rDk R m (i + 1) := by
  unfold rDk
  refine Prod.ext rfl (Prod.ext rfl (Prod.ext rfl (Prod.ext rfl (Prod.ext rfl ?_))))
  funext j
  dsimp only
  by_cases q : j = i
  · subst q
    rw [if_neg (by omega), if_neg (fun y => e y.2)]
  · by_cases z : R.2.2.2.2.2 j = m
    · by_cases z2 : j < i
      · rw [if_pos ⟨z2, z⟩, if_pos ⟨by omega, z⟩]
      · rw [if_neg (by omega), if_neg (by omega)]
    · rw [if_neg (fun y => z y.2), if_neg (fun y => z y.2)]
theorem rDk_mk {R : mR} {m : Int32} {i : Nat} : (rDk R m i).2.2.2.2.2 i = R.2.2.2.2.2 i := by
  unfold rDk
  dsimp only
  rw [if_neg (by omega)]
set_option maxHeartbeats 4000000 in
set_option maxRecDepth 100000 in
theorem c_Ro_dropMarks (m : Int32) (hsk : s ≤ k) (h31 : k < 2 ^ 31) (H : ro_at r k R h) (hs : R.2.1 = nI s) : gi_T l V y_Ro_dropMarks b_Ro_dropMarks 3 none 0 0 0 0 [.ref r, .int m] n h (fun v n' h' => v = none ∧ n' = n ∧ ro_at r k (rDk R m s) h' ∧ outR r k h h') := by
  refine gi_enter (by decide) (Nat.le_of_ble_eq_true rfl) ?_
  intro _ _ _ _ _ _ _ _ C hr hnm
  refine gi_iconst (q := 1) (v := 0) C (dm_Ro_dropMarks 0 rfl) rfl (by decide) ?_
  refine gi_istore_n (q := 2) (i := 2) C (dm_Ro_dropMarks 1 rfl) rfl rfl (Nat.le_of_ble_eq_true rfl) ?_
  refine gi_while (σ := Nat) (fun i => s - i) (fun i => [(2, .int (nI i)), (0, .ref r), (1, .int m)]) (fun _ => n) (fun _ => 0) (fun _ => 0) (fun i y => i ≤ s ∧ ro_at r k (rDk R m i) y ∧ outR r k h y) 0 ⟨Nat.zero_le _, by rw [rDk_0]; exact H, outR.rf⟩ ?_ (List.forall_mem_cons.mpr ⟨rfl, List.forall_mem_cons.mpr ⟨rfl, List.forall_mem_cons.mpr ⟨rfl, fun _ h => absurd h List.not_mem_nil⟩⟩⟩) rfl rfl rfl
  rintro i y ⟨hi, Y, YO⟩ ih
  try dsimp only at *
  obtain ⟨Y0, ⟨fv', Y1, -⟩, ⟨gm', Y2, -⟩, Y3, Y4⟩ := id Y
  refine gi_iload_n (q := 3) (i := 2) C (dm_Ro_dropMarks 2 rfl) rfl rfl rfl ?_
  refine gi_aload_n (q := 4) (i := 0) C (dm_Ro_dropMarks 3 rfl) rfl rfl rfl ?_
  refine gi_get (q := 7) C (dm_Ro_dropMarks 4 rfl) rfl fl_Ro_26 (by first | exact Y0 | exact Y2) rfl ?_
  rw [show (rDk R m i).2.1 = nI s from hs]
  refine gi_icmp_ge (q := 10) (tgt := 33) C (dm_Ro_dropMarks 5 rfl) rfl (by decide) (fun c7 => ?_) (fun c7 => ?_)
  · have hik : i = s := by
      rcases Nat.lt_or_ge i s with q | q
      · exact absurd c7 (Int32.not_le.mpr (nI_lt q (by omega)))
      · omega
    subst hik
    refine gi_vret C hr (dm_Ro_dropMarks 19 rfl) ?_
    exact ⟨rfl, rfl, Y, YO⟩
  · have hlt : i < s := by
      rcases Nat.lt_or_ge i s with q | q
      · exact q
      · exact absurd (nI_le q (by omega)) c7
    refine gi_aload_n (q := 11) (i := 0) C (dm_Ro_dropMarks 6 rfl) rfl rfl rfl ?_
    refine gi_get (q := 14) C (dm_Ro_dropMarks 7 rfl) rfl fl_Ro_17 (by first | exact Y0 | exact Y2) rfl ?_
    refine gi_iload_n (q := 15) (i := 2) C (dm_Ro_dropMarks 8 rfl) rfl rfl rfl ?_
    refine gi_iald (q := 16) C (dm_Ro_dropMarks 9 rfl) rfl rfl (by first | exact Y0 | exact Y2) (vp_nI (by omega) h31) ?_
    rw [ro_mk Y Y2 (show i < k by omega) h31, rDk_mk]
    refine gi_iload_n (q := 17) (i := 1) C (dm_Ro_dropMarks 10 rfl) rfl rfl rfl ?_
    refine gi_icmp_ne (q := 20) (tgt := 27) C (dm_Ro_dropMarks 11 rfl) rfl (by decide) (fun c17 => ?_) (fun c17 => ?_)
    · refine gi_iinc (q := 30) (v := 1) C (dm_Ro_dropMarks 17 rfl) rfl rfl (by decide) (Nat.le_of_ble_eq_true rfl) ?_
      refine gi_goto (tgt := 2) C (dm_Ro_dropMarks 18 rfl) (by decide) ?_
      refine gi_close (ih (i + 1) _ ⟨hlt, ?_, ?_⟩ (by omega)) (List.forall_mem_cons.mpr ⟨(by simp [gi_look, nI_1]), List.forall_mem_cons.mpr ⟨rfl, List.forall_mem_cons.mpr ⟨rfl, fun _ h => absurd h List.not_mem_nil⟩⟩⟩) rfl rfl rfl
      · first
          | (rw [← rDk_2 c17]; exact Y)
          | (have t := Y.m Y2 i (-1)
             rw [rDk_1 c17] at t
             rw [nI_clamp (by omega)]
             exact t)
      · first
          | exact YO
          | exact YO.up (by omega) (by omega)
    · refine gi_aload_n (q := 21) (i := 0) C (dm_Ro_dropMarks 12 rfl) rfl rfl rfl ?_
      refine gi_get (q := 24) C (dm_Ro_dropMarks 13 rfl) rfl fl_Ro_17 (by first | exact Y0 | exact Y2) rfl ?_
      refine gi_iload_n (q := 25) (i := 2) C (dm_Ro_dropMarks 14 rfl) rfl rfl rfl ?_
      refine gi_iconst (q := 26) (v := -1) C (dm_Ro_dropMarks 15 rfl) rfl (by decide) ?_
      refine gi_iast (q := 27) C (dm_Ro_dropMarks 16 rfl) rfl rfl (by first | exact Y0 | exact Y2) (vp_nI (by omega) h31) ?_
      refine gi_iinc (q := 30) (v := 1) C (dm_Ro_dropMarks 17 rfl) rfl rfl (by decide) (Nat.le_of_ble_eq_true rfl) ?_
      refine gi_goto (tgt := 2) C (dm_Ro_dropMarks 18 rfl) (by decide) ?_
      refine gi_close (ih (i + 1) _ ⟨hlt, ?_, ?_⟩ (by omega)) (List.forall_mem_cons.mpr ⟨(by simp [gi_look, nI_1]), List.forall_mem_cons.mpr ⟨rfl, List.forall_mem_cons.mpr ⟨rfl, fun _ h => absurd h List.not_mem_nil⟩⟩⟩) rfl rfl rfl
      · first
          | (rw [← rDk_2 c17]; exact Y)
          | (have t := Y.m Y2 i (-1)
             rw [rDk_1 c17] at t
             rw [nI_clamp (by omega)]
             exact t)
      · first
          | exact YO
          | exact YO.up (by omega) (by omega)
def rTl (R : mR) (j0 : Nat) (m : Int32) (u : mV) (i : Nat) : mR := (R.1, R.2.1, R.2.2.1, R.2.2.2.1, fun j => if j = j0 ∨ (j < i ∧ R.2.2.2.2.2 j = m) then u else R.2.2.2.2.1 j, R.2.2.2.2.2)
theorem rTl_0 (R : mR) (j0 : Nat) (m : Int32) (u : mV) : rV R j0 u = rTl R j0 m u 0 := by
  unfold rTl
  refine Prod.ext rfl (Prod.ext rfl (Prod.ext rfl (Prod.ext rfl (Prod.ext ?_ rfl))))
  funext j
  show upV _ _ _ j = _
  unfold upV
  by_cases q : j = j0 <;> simp [q]
theorem rTl_1 {R : mR} {j0 : Nat} {m : Int32} {u : mV} {i : Nat} (e : R.2.2.2.2.2 i = m) : rV (rTl R j0 m u i) i u = rTl R j0 m u (i + 1) := by
  unfold rTl
  refine Prod.ext rfl (Prod.ext rfl (Prod.ext rfl (Prod.ext rfl (Prod.ext ?_ rfl))))
  funext j
  show upV _ i u j = _
  unfold upV
  dsimp only
  by_cases q : j = i
  · rw [if_pos q, if_pos (Or.inr ⟨by omega, by rw [q]; exact e⟩)]
  · rw [if_neg q]
    by_cases z : j = j0 ∨ (j < i ∧ R.2.2.2.2.2 j = m)
    · rw [if_pos z, if_pos (z.imp id (fun y => ⟨by omega, y.2⟩))]
    · rw [if_neg z, if_neg (fun y => z (y.imp id (fun y => ⟨by omega, y.2⟩)))]
theorem rTl_2 {R : mR} {j0 : Nat} {m : Int32} {u : mV} {i : Nat} (e : ¬ R.2.2.2.2.2 i = m) : rTl R j0 m u i = rTl R j0 m u (i + 1) := by
  unfold rTl
  refine Prod.ext rfl (Prod.ext rfl (Prod.ext rfl (Prod.ext rfl (Prod.ext ?_ rfl))))
  funext j
  dsimp only
  by_cases q : j = i
  · by_cases z : j = j0
    · rw [if_pos (Or.inl z), if_pos (Or.inl z)]
    · rw [if_neg (by omega), if_neg (fun y => y.elim z (fun y => e (by rw [← q]; exact y.2)))]
  · by_cases z : j = j0 ∨ (j < i ∧ R.2.2.2.2.2 j = m)
    · rw [if_pos z, if_pos (z.imp id (fun y => ⟨by omega, y.2⟩))]
    · rw [if_neg z, if_neg (fun y => z (y.imp id (fun y => ⟨by omega, y.2⟩)))]
set_option maxHeartbeats 4000000 in
set_option maxRecDepth 100000 in
theorem c_Ro_tell (a : Nat) (u : mV) (j0 : Nat) (hj0 : j0 < k) (hsk : s ≤ k) (h31 : k < 2 ^ 31) (H : ro_at r k R h) (hs : R.2.1 = nI s) (hw : wfV u) (ha : a < r ∨ r + 3 + k ≤ a) (hu : h a = some (eV u)) : gi_T l V y_Ro_tell b_Ro_tell 4 none 2 42 0 0 [.ref r, .int (nI j0), .ref a] n h (fun v n' h' => v = none ∧ n' = n ∧ ro_at r k (rTl R j0 (nI j0) u s) h' ∧ outR r k h h') := by
  refine gi_enter (by decide) (Nat.le_of_ble_eq_true rfl) ?_
  intro _ _ _ _ _ _ _ _ C hr hnm
  obtain ⟨H0, ⟨fv, H1, -⟩, ⟨gm, H2, -⟩, H3, H4⟩ := id H
  refine gi_iload_n (q := 1) (i := 1) C (dm_Ro_tell 0 rfl) rfl rfl rfl ?_
  refine gi_iconst (q := 2) (v := -1) C (dm_Ro_tell 1 rfl) rfl (by decide) ?_
  refine gi_icmp_ne (q := 5) (tgt := 6) C (dm_Ro_tell 2 rfl) rfl (by decide) (fun c2 => ?_) (fun c2 => ?_)
  · refine gi_aload_n (q := 7) (i := 0) C (dm_Ro_tell 4 rfl) rfl rfl rfl ?_
    refine gi_iload_n (q := 8) (i := 1) C (dm_Ro_tell 5 rfl) rfl rfl rfl ?_
    refine gi_callv 1 (q := 11) C (dm_Ro_tell 6 rfl) rfl my_Ro_valueAt lk_Ro_51 im_Ro_valueAt rfl (c_Ro_valueAt hj0 h31 H) H0 rfl rfl ⟨(Nat.le_of_ble_eq_true rfl), (Nat.le_of_ble_eq_true rfl)⟩ (Nat.le_of_ble_eq_true rfl) ⟨(Nat.le_of_ble_eq_true rfl), (Nat.le_of_ble_eq_true rfl)⟩ (fun r8 n8 h8 e8 => ?_)
    obtain ⟨rfl, rfl, rfl⟩ := e8
    refine gi_aload_n (q := 12) (i := 2) C (dm_Ro_tell 7 rfl) rfl rfl rfl ?_
    refine gi_callv 1 (q := 15) C (dm_Ro_tell 8 rfl) rfl my_Va_copy lk_Ro_43 im_Va_copy rfl (c_Va_copy (R.1 j0) a _ u (H3 j0 hj0).2.2 hu (by have := H3 j0 hj0; omega) hw) (H3 j0 hj0).2.2 rfl rfl ⟨(Nat.le_of_ble_eq_true rfl), (Nat.le_of_ble_eq_true rfl)⟩ (Nat.le_of_ble_eq_true rfl) ⟨(Nat.le_of_ble_eq_true rfl), (Nat.le_of_ble_eq_true rfl)⟩ (fun r12 n12 h12 e12 => ?_)
    obtain ⟨rfl, rfl, rfl⟩ := e12
    refine gi_iconst (q := 16) (v := 0) C (dm_Ro_tell 9 rfl) rfl (by decide) ?_
    refine gi_istore_n (q := 17) (i := 3) C (dm_Ro_tell 10 rfl) rfl rfl (Nat.le_of_ble_eq_true rfl) ?_
    have V0 := H.v hj0 u
    rw [rTl_0 R j0 (nI j0) u] at V0
    have hj := H3 j0 hj0
    refine gi_while (σ := Nat) (fun i => s - i) (fun i => [(3, .int (nI i)), (0, .ref r), (1, .int (nI j0)), (2, .ref a)]) (fun _ => n12) (fun _ => 0) (fun _ => 0) (fun i y => i ≤ s ∧ ro_at r k (rTl R j0 (nI j0) u i) y ∧ outR r k h8 y) 0 ⟨Nat.zero_le _, V0, outR.rf.up (by omega) (by omega)⟩ ?_ (List.forall_mem_cons.mpr ⟨rfl, List.forall_mem_cons.mpr ⟨rfl, List.forall_mem_cons.mpr ⟨rfl, List.forall_mem_cons.mpr ⟨rfl, fun _ h => absurd h List.not_mem_nil⟩⟩⟩⟩) rfl rfl rfl
    rintro i y ⟨hi, Y, YO⟩ ih
    try dsimp only at *
    obtain ⟨Y0, ⟨fv', Y1, -⟩, ⟨gm', Y2, -⟩, Y3, Y4⟩ := id Y
    refine gi_iload_n (q := 18) (i := 3) C (dm_Ro_tell 11 rfl) rfl rfl rfl ?_
    refine gi_aload_n (q := 19) (i := 0) C (dm_Ro_tell 12 rfl) rfl rfl rfl ?_
    refine gi_get (q := 22) C (dm_Ro_tell 13 rfl) rfl fl_Ro_26 (by first | exact Y0 | exact Y1 | exact Y2) rfl ?_
    rw [show (rTl R j0 (nI j0) u i).2.1 = nI s from hs]
    refine gi_icmp_ge (q := 25) (tgt := 51) C (dm_Ro_tell 14 rfl) rfl (by decide) (fun c22 => ?_) (fun c22 => ?_)
    · have hik : i = s := by
        rcases Nat.lt_or_ge i s with q | q
        · exact absurd c22 (Int32.not_le.mpr (nI_lt q (by omega)))
        · omega
      subst hik
      refine gi_vret C hr (dm_Ro_tell 29 rfl) ?_
      exact ⟨rfl, rfl, Y, YO⟩
    · have hlt : i < s := by
        rcases Nat.lt_or_ge i s with q | q
        · exact q
        · exact absurd (nI_le q (by omega)) c22
      refine gi_aload_n (q := 26) (i := 0) C (dm_Ro_tell 15 rfl) rfl rfl rfl ?_
      refine gi_get (q := 29) C (dm_Ro_tell 16 rfl) rfl fl_Ro_17 (by first | exact Y0 | exact Y1 | exact Y2) rfl ?_
      refine gi_iload_n (q := 30) (i := 3) C (dm_Ro_tell 17 rfl) rfl rfl rfl ?_
      refine gi_iald (q := 31) C (dm_Ro_tell 18 rfl) rfl rfl (by first | exact Y0 | exact Y1 | exact Y2) (vp_nI (by omega) h31) ?_
      rw [ro_mk Y Y2 (show i < k by omega) h31, show (rTl R j0 (nI j0) u i).2.2.2.2.2 i = R.2.2.2.2.2 i from rfl]
      refine gi_iload_n (q := 32) (i := 1) C (dm_Ro_tell 19 rfl) rfl rfl rfl ?_
      refine gi_icmp_ne (q := 35) (tgt := 45) C (dm_Ro_tell 20 rfl) rfl (by decide) (fun c32 => ?_) (fun c32 => ?_)
      · refine gi_iinc (q := 48) (v := 1) C (dm_Ro_tell 27 rfl) rfl rfl (by decide) (Nat.le_of_ble_eq_true rfl) ?_
        refine gi_goto (tgt := 17) C (dm_Ro_tell 28 rfl) (by decide) ?_
        refine gi_close (ih (i + 1) _ ⟨hlt, ?_, ?_⟩ (by omega)) (List.forall_mem_cons.mpr ⟨(by simp [gi_look, nI_1]), List.forall_mem_cons.mpr ⟨rfl, List.forall_mem_cons.mpr ⟨rfl, List.forall_mem_cons.mpr ⟨rfl, fun _ h => absurd h List.not_mem_nil⟩⟩⟩⟩) rfl rfl rfl
        · first
            | (rw [← rTl_2 c32]; exact Y)
            | (have t := Y.v (show i < k by omega) u
               rw [rTl_1 c32] at t
               exact t)
        · first
            | exact YO
            | (have := Y3 i (by omega); exact YO.up (by omega) (by omega))
      · refine gi_aload_n (q := 36) (i := 0) C (dm_Ro_tell 21 rfl) rfl rfl rfl ?_
        refine gi_get (q := 39) C (dm_Ro_tell 22 rfl) rfl fl_Ro_11 (by first | exact Y0 | exact Y1 | exact Y2) rfl ?_
        refine gi_iload_n (q := 40) (i := 3) C (dm_Ro_tell 23 rfl) rfl rfl rfl ?_
        refine gi_aald (q := 41) C (dm_Ro_tell 24 rfl) rfl rfl (by first | exact Y0 | exact Y1 | exact Y2) (vp_nI (by omega) h31) (ro_rf Y Y1 (show i < k by omega) h31) ?_
        refine gi_aload_n (q := 42) (i := 2) C (dm_Ro_tell 25 rfl) rfl rfl rfl ?_
        refine gi_callv 1 (q := 45) C (dm_Ro_tell 26 rfl) rfl my_Va_copy lk_Ro_43 im_Va_copy rfl (c_Va_copy ((rTl R j0 (nI j0) u i).1 i) a _ u (Y3 i (by omega)).2.2 (by rw [YO a ha]; exact hu) (by have := Y3 i (by omega); omega) hw) (Y3 i (by omega)).2.2 rfl rfl ⟨(Nat.le_of_ble_eq_true rfl), (Nat.le_of_ble_eq_true rfl)⟩ (Nat.le_of_ble_eq_true rfl) ⟨(Nat.le_of_ble_eq_true rfl), (Nat.le_of_ble_eq_true rfl)⟩ (fun r42 n42 h42 e42 => ?_)
        obtain ⟨rfl, rfl, rfl⟩ := e42
        refine gi_iinc (q := 48) (v := 1) C (dm_Ro_tell 27 rfl) rfl rfl (by decide) (Nat.le_of_ble_eq_true rfl) ?_
        refine gi_goto (tgt := 17) C (dm_Ro_tell 28 rfl) (by decide) ?_
        refine gi_close (ih (i + 1) _ ⟨hlt, ?_, ?_⟩ (by omega)) (List.forall_mem_cons.mpr ⟨(by simp [gi_look, nI_1]), List.forall_mem_cons.mpr ⟨rfl, List.forall_mem_cons.mpr ⟨rfl, List.forall_mem_cons.mpr ⟨rfl, fun _ h => absurd h List.not_mem_nil⟩⟩⟩⟩) rfl rfl rfl
        · first
            | (rw [← rTl_2 c32]; exact Y)
            | (have t := Y.v (show i < k by omega) u
               rw [rTl_1 c32] at t
               exact t)
        · first
            | exact YO
            | (have := Y3 i (by omega); exact YO.up (by omega) (by omega))
  · exact absurd c2 (nI_ne_m1 (by omega))
set_option maxHeartbeats 4000000 in
set_option maxRecDepth 100000 in
theorem c_Ro_tell_n (a : Nat) : gi_T l V y_Ro_tell b_Ro_tell 4 none 2 42 0 0 [.ref r, .int (-1), .ref a] n h (gi_is none n h) := by
  refine gi_enter (by decide) (Nat.le_of_ble_eq_true rfl) ?_
  intro _ _ _ _ _ _ _ _ C hr hnm
  refine gi_iload_n (q := 1) (i := 1) C (dm_Ro_tell 0 rfl) rfl rfl rfl ?_
  refine gi_iconst (q := 2) (v := -1) C (dm_Ro_tell 1 rfl) rfl (by decide) ?_
  refine gi_icmp_ne (q := 5) (tgt := 6) C (dm_Ro_tell 2 rfl) rfl (by decide) (fun c2 => ?_) (fun c2 => ?_)
  · exact absurd rfl c2
  · refine gi_vret C hr (dm_Ro_tell 3 rfl) ?_
    exact ⟨rfl, rfl, rfl⟩
end RO3
