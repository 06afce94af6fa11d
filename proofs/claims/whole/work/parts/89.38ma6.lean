-- needs: 89.37
section MA6
variable {l : Launch} {V : gi_V} {n : Nat} {h h' h0 : gi_H} {a pr bu fa gv k : Nat} {sx wt tp wr st : Int32} {F : Nat → Nat → Int32} {J Jx : Nat → Int64} {H : Hp} {z : Mc} {P : Pm} {sn : Nat → Nat} {wd : Nat → Bool} {Fc : Fa} {Φ : Nat → mR}
/-- a frame is opened at t -/
def opnF (P : Pm) (t m : Nat) (F F' : Nat → Nat → Int32) (q : Nat) : Prop := F' 7 = F 7 ∧ F' 10 t = nI m ∧ F' 11 t = 0 ∧ F' 9 t = nI (pN P 2 m) ∧ (∀ j, j < q → F' 8 (14 * t + j) = 0) ∧ (∀ x, x < 14 * t ∨ 14 * t + 14 ≤ x → F' 8 x = F 8 x) ∧ ∀ t', t' ≠ t → F' 10 t' = F 10 t' ∧ F' 11 t' = F 11 t' ∧ F' 9 t' = F 9 t'
set_option maxHeartbeats 4000000 in
set_option maxRecDepth 100000 in
theorem c_Ma_openFrame (t m d : Nat) (hm : m < k) (et : tp + 1 = nI t) (ht : t ≤ 16) (hd : J 5 = eL d) (d16 : d ≤ 16) (E : EN a pr bu fa k P sn wd Fc Φ h0) (Q : MO a pr bu fa gv h0 sx tp wr wt st F J H h) : gi_T l V y_Ma_openFrame b_Ma_openFrame 3 (some .boolean) 2 42 0 0 [.ref a, .int (nI m)] n h (fun v n' h' => n' = n ∧ ((16 ≤ t ∧ v = some (.int 0) ∧ h' = h) ∨ (t < 16 ∧ v = some (.int 1) ∧ ∃ F', MO a pr bu fa gv h0 sx (nI t) wr wt st F' (vp_updL J 5 (eL (max d (t + 1) : Nat))) H h' ∧ opnF P t m F F' 14))) := by
  refine gi_enter (by decide) (Nat.le_of_ble_eq_true rfl) ?_
  intro _ _ _ _ _ _ _ _ C hr hnm
  refine gi_aload_n (q := 1) (i := 0) C (dm_Ma_openFrame 0 rfl) rfl rfl rfl ?_
  refine gi_get (q := 4) C (dm_Ma_openFrame 1 rfl) rfl fl_Ma_72 Q.ob rfl ?_
  refine gi_iconst (q := 5) (v := 1) C (dm_Ma_openFrame 2 rfl) rfl (by decide) ?_
  refine gi_iadd (q := 6) C (dm_Ma_openFrame 3 rfl) rfl ?_
  rw [et]
  refine gi_bipush (q := 8) (v := 16) C (dm_Ma_openFrame 4 rfl) rfl (by decide) ?_
  refine gi_icmp_lt (q := 11) (tgt := 13) C (dm_Ma_openFrame 5 rfl) rfl (by decide) (fun c8 => ?_) (fun c8 => ?_)
  · have t16 : t < 16 := by
      rcases Nat.lt_or_ge t 16 with q | q
      · exact q
      · exact absurd c8 (Int32.not_lt.mpr (nI_le (a := 16) q (by omega)))
    refine gi_aload_n (q := 14) (i := 0) C (dm_Ma_openFrame 8 rfl) rfl rfl rfl ?_
    refine gi_dup (q := 15) C (dm_Ma_openFrame 9 rfl) rfl rfl ?_
    refine gi_get (q := 18) C (dm_Ma_openFrame 10 rfl) rfl fl_Ma_72 Q.ob rfl ?_
    refine gi_iconst (q := 19) (v := 1) C (dm_Ma_openFrame 11 rfl) rfl (by decide) ?_
    refine gi_iadd (q := 20) C (dm_Ma_openFrame 12 rfl) rfl ?_
    rw [et]
    refine gi_put (q := 23) C (dm_Ma_openFrame 13 rfl) rfl fl_Ma_72 fp_Ma_12 Q.ob (Nat.le_of_ble_eq_true rfl) rfl rfl ?_
    have Q1 := Q.pO sx (nI t) wr wt st
    refine gi_aload_n (q := 24) (i := 0) C (dm_Ma_openFrame 14 rfl) rfl rfl rfl ?_
    refine gi_get (q := 27) C (dm_Ma_openFrame 15 rfl) rfl fl_Ma_36 Q1.ob rfl ?_
    refine gi_aload_n (q := 28) (i := 0) C (dm_Ma_openFrame 16 rfl) rfl rfl rfl ?_
    refine gi_get (q := 31) C (dm_Ma_openFrame 17 rfl) rfl fl_Ma_72 Q1.ob rfl ?_
    refine gi_iload_n (q := 32) (i := 1) C (dm_Ma_openFrame 18 rfl) rfl rfl rfl ?_
    refine gi_iast (q := 33) C (dm_Ma_openFrame 19 rfl) rfl rfl Q1.a10 (in16 t16) ?_
    rw [nI_clamp (show t < 2 ^ 31 by omega)]
    have Q2 := Q1.s10 (upd (F 10) t (nI m))
    refine gi_aload_n (q := 34) (i := 0) C (dm_Ma_openFrame 20 rfl) rfl rfl rfl ?_
    refine gi_get (q := 37) C (dm_Ma_openFrame 21 rfl) rfl fl_Ma_39 Q2.ob rfl ?_
    refine gi_aload_n (q := 38) (i := 0) C (dm_Ma_openFrame 22 rfl) rfl rfl rfl ?_
    refine gi_get (q := 41) C (dm_Ma_openFrame 23 rfl) rfl fl_Ma_72 Q2.ob rfl ?_
    refine gi_iconst (q := 42) (v := 0) C (dm_Ma_openFrame 24 rfl) rfl (by decide) ?_
    refine gi_iast (q := 43) C (dm_Ma_openFrame 25 rfl) rfl rfl Q2.a11 (in16 t16) ?_
    rw [nI_clamp (show t < 2 ^ 31 by omega)]
    have Q3 := Q2.s11 (upd (F 11) t 0)
    refine gi_aload_n (q := 44) (i := 0) C (dm_Ma_openFrame 26 rfl) rfl rfl rfl ?_
    refine gi_get (q := 47) C (dm_Ma_openFrame 27 rfl) rfl fl_Ma_33 Q3.ob rfl ?_
    refine gi_aload_n (q := 48) (i := 0) C (dm_Ma_openFrame 28 rfl) rfl rfl rfl ?_
    refine gi_get (q := 51) C (dm_Ma_openFrame 29 rfl) rfl fl_Ma_72 Q3.ob rfl ?_
    refine gi_aload_n (q := 52) (i := 0) C (dm_Ma_openFrame 30 rfl) rfl rfl rfl ?_
    refine gi_get (q := 55) C (dm_Ma_openFrame 31 rfl) rfl fl_Ma_42 Q3.ob rfl ?_
    refine gi_iload_n (q := 56) (i := 1) C (dm_Ma_openFrame 32 rfl) rfl rfl rfl ?_
    refine gi_callv 1 (q := 59) C (dm_Ma_openFrame 33 rfl) rfl my_Pr_localsOf lk_Ma_132 im_Pr_localsOf rfl (q_locals E.hW hm (E.hP Q3.ou)) (E.hP Q3.ou).1 rfl rfl ⟨(Nat.le_of_ble_eq_true rfl), (Nat.le_of_ble_eq_true rfl)⟩ (Nat.le_of_ble_eq_true rfl) ⟨(Nat.le_of_ble_eq_true rfl), (Nat.le_of_ble_eq_true rfl)⟩ (fun r56 n56 h56 e56 => ?_)
    obtain ⟨rfl, q56, u56⟩ := e56
    rw [q56, u56]
    refine gi_iast (q := 60) C (dm_Ma_openFrame 34 rfl) rfl rfl Q3.a9 (in16 t16) ?_
    rw [nI_clamp (show t < 2 ^ 31 by omega)]
    have Q4 := Q3.s9 (upd (F 9) t (nI (pN P 2 m)))
    refine gi_iconst (q := 61) (v := 0) C (dm_Ma_openFrame 35 rfl) rfl (by decide) ?_
    refine gi_istore_n (q := 62) (i := 2) C (dm_Ma_openFrame 36 rfl) rfl rfl (Nat.le_of_ble_eq_true rfl) ?_
    have O0 : opnF P t m F (upA (upA (upA F 10 (upd (F 10) t (nI m))) 11 (upd (F 11) t 0)) 9 (upd (F 9) t (nI (pN P 2 m)))) 0 := by
      refine ⟨rfl, ?_, ?_, ?_, fun j hj => absurd hj (by omega), fun x hx => rfl, fun t' ht' => ⟨?_, ?_, ?_⟩⟩
      · show upd (F 10) t (nI m) t = _
        rw [upd_is, if_pos rfl]
      · show upd (F 11) t 0 t = _
        rw [upd_is, if_pos rfl]
      · show upd (F 9) t (nI (pN P 2 m)) t = _
        rw [upd_is, if_pos rfl]
      · show upd (F 10) t (nI m) t' = _
        rw [upd_is, if_neg ht']
      · show upd (F 11) t 0 t' = _
        rw [upd_is, if_neg ht']
      · show upd (F 9) t (nI (pN P 2 m)) t' = _
        rw [upd_is, if_neg ht']
    refine gi_while (σ := Nat) (fun j => 14 - j) (fun j => [(2, .int (nI j)), (0, .ref a), (1, .int (nI m))]) (fun _ => n) (fun _ => 0) (fun _ => 0) (fun j y' => j ≤ 14 ∧ ∃ Fy, MO a pr bu fa gv h0 sx (nI t) wr wt st Fy J H y' ∧ opnF P t m F Fy j) 0 ⟨Nat.zero_le _, _, Q4, O0⟩ ?_ (List.forall_mem_cons.mpr ⟨rfl, List.forall_mem_cons.mpr ⟨rfl, List.forall_mem_cons.mpr ⟨rfl, fun _ h => absurd h List.not_mem_nil⟩⟩⟩) rfl rfl rfl
    rintro j y' ⟨hj14, Fy, Y, y1, y2, y3, y4, y5, y6, y7⟩ ih
    try dsimp only at *
    refine gi_iload_n (q := 63) (i := 2) C (dm_Ma_openFrame 37 rfl) rfl rfl rfl ?_
    refine gi_bipush (q := 65) (v := 14) C (dm_Ma_openFrame 38 rfl) rfl (by decide) ?_
    refine gi_icmp_ge (q := 68) (tgt := 89) C (dm_Ma_openFrame 39 rfl) rfl (by decide) (fun c65 => ?_) (fun c65 => ?_)
    · have j14 : j = 14 := by
        rcases Nat.lt_or_ge j 14 with q | q
        · exact absurd c65 (Int32.not_le.mpr (nI_lt (b := 14) q (by decide)))
        · omega
      subst j14
      refine gi_aload_n (q := 90) (i := 0) C (dm_Ma_openFrame 52 rfl) rfl rfl rfl ?_
      refine gi_get (q := 93) C (dm_Ma_openFrame 53 rfl) rfl fl_Ma_22 Y.ob rfl ?_
      refine gi_iconst (q := 94) (v := 5) C (dm_Ma_openFrame 54 rfl) rfl (by decide) ?_
      refine gi_aload_n (q := 95) (i := 0) C (dm_Ma_openFrame 55 rfl) rfl rfl rfl ?_
      refine gi_get (q := 98) C (dm_Ma_openFrame 56 rfl) rfl fl_Ma_22 Y.ob rfl ?_
      refine gi_iconst (q := 99) (v := 5) C (dm_Ma_openFrame 57 rfl) rfl (by decide) ?_
      refine gi_lald (q := 100) C (dm_Ma_openFrame 58 rfl) rfl rfl Y.a6 (inN (show 5 < 8 by decide) (by decide)) ?_
      rw [show (5 : Int32).toNatClampNeg = 5 from rfl, hd]
      refine gi_aload_n (q := 101) (i := 0) C (dm_Ma_openFrame 59 rfl) rfl rfl rfl ?_
      refine gi_get (q := 104) C (dm_Ma_openFrame 60 rfl) rfl fl_Ma_72 Y.ob rfl ?_
      refine gi_iconst (q := 105) (v := 1) C (dm_Ma_openFrame 61 rfl) rfl (by decide) ?_
      refine gi_iadd (q := 106) C (dm_Ma_openFrame 62 rfl) rfl ?_
      rw [nI_1]
      refine gi_i2l (q := 107) C (dm_Ma_openFrame 63 rfl) rfl ?_
      rw [i2l_eL, show (nI (t + 1)).toInt = ((t + 1 : Nat) : Int) from Int32.toInt_ofNat_of_lt (by omega)]
      refine gi_calls 2 (q := 110) C (dm_Ma_openFrame 64 rfl) rfl my_Mt_max_0 lk_Ma_135 sm_Mt_max_0 (c_Mt_max_0 (d : Int) ((t + 1 : Nat) : Int) (by omega) (by omega) (by omega) (by omega)) rfl rfl ⟨(Nat.le_of_ble_eq_true rfl), (Nat.le_of_ble_eq_true rfl)⟩ (Nat.le_of_ble_eq_true rfl) ⟨(Nat.le_of_ble_eq_true rfl), (Nat.le_of_ble_eq_true rfl)⟩ (fun r107 n107 h107 e107 => ?_)
      obtain ⟨rfl, q107, u107⟩ := e107
      rw [q107, u107]
      refine gi_last (q := 111) C (dm_Ma_openFrame 65 rfl) rfl rfl Y.a6 (inN (show 5 < 8 by decide) (by decide)) ?_
      refine gi_iconst (q := 112) (v := 1) C (dm_Ma_openFrame 66 rfl) rfl (by decide) ?_
      refine gi_zret C hr (dm_Ma_openFrame 67 rfl) rfl ?_
      refine ⟨rfl, Or.inr ⟨t16, rfl, Fy, ?_, y1, y2, y3, y4, y5, y6, y7⟩⟩
      rw [show (5 : Int32).toNatClampNeg = 5 from rfl, show (max (d : Int) ((t + 1 : Nat) : Int)) = ((max d (t + 1) : Nat) : Int) from by omega]
      exact Y.sJ _
    · have j14 : j < 14 := by
        rcases Nat.lt_or_ge j 14 with q | q
        · exact q
        · exact absurd (nI_le (a := 14) q (by omega)) c65
      refine gi_aload_n (q := 69) (i := 0) C (dm_Ma_openFrame 40 rfl) rfl rfl rfl ?_
      refine gi_get (q := 72) C (dm_Ma_openFrame 41 rfl) rfl fl_Ma_30 Y.ob rfl ?_
      refine gi_aload_n (q := 73) (i := 0) C (dm_Ma_openFrame 42 rfl) rfl rfl rfl ?_
      refine gi_get (q := 76) C (dm_Ma_openFrame 43 rfl) rfl fl_Ma_72 Y.ob rfl ?_
      refine gi_bipush (q := 78) (v := 14) C (dm_Ma_openFrame 44 rfl) rfl (by decide) ?_
      refine gi_imul (q := 79) C (dm_Ma_openFrame 45 rfl) rfl ?_
      rw [show (14 : Int32) = nI 14 from rfl, nI_ml]
      refine gi_iload_n (q := 80) (i := 2) C (dm_Ma_openFrame 46 rfl) rfl rfl rfl ?_
      refine gi_iadd (q := 81) C (dm_Ma_openFrame 47 rfl) rfl ?_
      rw [nI_add]
      refine gi_iconst (q := 82) (v := 0) C (dm_Ma_openFrame 48 rfl) rfl (by decide) ?_
      refine gi_iast (q := 83) C (dm_Ma_openFrame 49 rfl) rfl rfl Y.a8 (inN (show t * 14 + j < 224 by omega) (by decide)) ?_
      rw [nI_clamp (by omega)]
      have Y2 := Y.s8 (upd (Fy 8) (t * 14 + j) 0)
      refine gi_iinc (q := 86) (v := 1) C (dm_Ma_openFrame 50 rfl) rfl rfl (by decide) (Nat.le_of_ble_eq_true rfl) ?_
      refine gi_goto (tgt := 62) C (dm_Ma_openFrame 51 rfl) (by decide) ?_
      refine gi_close (ih (j + 1) _ ⟨j14, _, Y2, y1, y2, y3, y4, fun i hi => ?_, fun x hx => ?_, y7⟩ (by omega)) (List.forall_mem_cons.mpr ⟨(by simp [gi_look, nI_1]), List.forall_mem_cons.mpr ⟨rfl, List.forall_mem_cons.mpr ⟨rfl, fun _ h => absurd h List.not_mem_nil⟩⟩⟩) rfl rfl rfl
      · show upd (Fy 8) (t * 14 + j) 0 (14 * t + i) = 0
        rw [upd_is]
        split
        · rfl
        · exact y5 i (by omega)
      · show upd (Fy 8) (t * 14 + j) 0 x = F 8 x
        rw [upd_is, if_neg (by omega)]
        exact y6 x hx
  · refine gi_iconst (q := 12) (v := 0) C (dm_Ma_openFrame 6 rfl) rfl (by decide) ?_
    refine gi_zret C hr (dm_Ma_openFrame 7 rfl) rfl ?_
    have t16 : 16 ≤ t := by
      rcases Nat.lt_or_ge t 16 with q | q
      · exact absurd (nI_lt (b := 16) q (by decide)) c8
      · exact q
    exact ⟨rfl, Or.inl ⟨t16, rfl, rfl⟩⟩
set_option maxHeartbeats 4000000 in
set_option maxRecDepth 100000 in
theorem c_Mt_max_1 (x y : Nat) (h1 : y ≤ x) (h2 : x < 2 ^ 31) : gi_T l V y_Mt_max_1 b_Mt_max_1 2 (some .int) 0 0 0 0 [.int (nI x - nI y), .int 0] n h (gi_is (some (.int (nI (x - y)))) n h) := by
  rw [nI_sb h1 h2]
  refine gi_enterF (by decide +kernel) (Nat.le_of_ble_eq_true rfl) ?_
  intro _ _ _ _ _ _ _ _ C hr hnm
  refine gi_iload_n (q := 1) (i := 0) C (dm_Mt_max_1 0 rfl) rfl rfl rfl ?_
  refine gi_iload_n (q := 2) (i := 1) C (dm_Mt_max_1 1 rfl) rfl rfl rfl ?_
  refine gi_icmp_lt (q := 5) (tgt := 9) C (dm_Mt_max_1 2 rfl) rfl (by decide) (fun c2 => ?_) (fun c2 => ?_)
  · exact absurd c2 (Int32.not_lt.mpr (nI_le (a := 0) (Nat.zero_le _) (by omega)))
  · refine gi_iload_n (q := 6) (i := 0) C (dm_Mt_max_1 3 rfl) rfl rfl rfl ?_
    refine gi_goto (tgt := 10) C (dm_Mt_max_1 4 rfl) (by decide) ?_
    refine gi_iret C hr (dm_Mt_max_1 6 rfl) ?_
    exact ⟨rfl, rfl, rfl⟩
set_option maxHeartbeats 4000000 in
set_option maxRecDepth 100000 in
theorem c_Ma_enter (x : Nat) (hx : x < k) (hn : pN P 1 x ≤ z.cur.n) (E : EN a pr bu fa k P sn wd Fc Φ h0) (Hw : MW a pr bu fa gv h0 sx wt Jx z h) : gi_T l V y_Ma_enter b_Ma_enter 5 (some .int) 3 64 0 0 [.ref a, .int (nI x)] n h (fun v n' h' => v = some (.int (entZ P x z).2) ∧ n' = n ∧ MW a pr bu fa gv h0 sx wt Jx (entZ P x z).1 h') := by
  refine gi_enter (by decide) (Nat.le_of_ble_eq_true rfl) ?_
  intro _ _ _ _ _ _ _ _ C hr hnm
  obtain ⟨F, J, Q, R⟩ := id Hw
  have t16 := R.1
  have n14 := R.cur.2.2.2.1
  obtain ⟨r1, r2, r3, r4, r5⟩ := R.cur
  have wx := wf_ar E.hW hx
  refine gi_aload_n (q := 1) (i := 0) C (dm_Ma_enter 0 rfl) rfl rfl rfl ?_
  refine gi_get (q := 4) C (dm_Ma_enter 1 rfl) rfl fl_Ma_72 Q.ob rfl ?_
  refine gi_istore_n (q := 5) (i := 2) C (dm_Ma_enter 2 rfl) rfl rfl (Nat.le_of_ble_eq_true rfl) ?_
  refine gi_aload_n (q := 6) (i := 0) C (dm_Ma_enter 3 rfl) rfl rfl rfl ?_
  refine gi_iload_n (q := 7) (i := 1) C (dm_Ma_enter 4 rfl) rfl rfl rfl ?_
  refine gi_callv 1 (q := 10) C (dm_Ma_enter 5 rfl) rfl my_Ma_openFrame lk_Ma_100 im_Ma_openFrame rfl (c_Ma_openFrame (z.top + 1) x z.dp hx (nI_1 _) (by omega) R.2.2.1 R.2.2.2.1 E Q) Q.ob rfl rfl ⟨(Nat.le_of_ble_eq_true rfl), (Nat.le_of_ble_eq_true rfl)⟩ (Nat.le_of_ble_eq_true rfl) ⟨(Nat.le_of_ble_eq_true rfl), (Nat.le_of_ble_eq_true rfl)⟩ (fun r7 n7 h7 e7 => ?_)
  obtain ⟨rfl, e7⟩ := e7
  rcases e7 with ⟨t15, rfl, rfl⟩ | ⟨t15, rfl, F1, Q1, o1, o2, o3, o4, o5, o6, o7⟩
  · refine gi_if_ne (q := 13) (tgt := 19) C (dm_Ma_enter 6 rfl) rfl (by decide) (fun c10 => ?_) (fun c10 => ?_)
    · exact absurd rfl c10
    · refine gi_aload_n (q := 14) (i := 0) C (dm_Ma_enter 7 rfl) rfl rfl rfl ?_
      refine gi_iconst (q := 15) (v := 5) C (dm_Ma_enter 8 rfl) rfl (by decide) ?_
      refine gi_callv 1 (q := 18) C (dm_Ma_enter 9 rfl) rfl my_Ma_goWrong lk_Ma_180 im_Ma_goWrong rfl (c_Ma_goWrong 5 Hw) Q.ob rfl rfl ⟨(Nat.le_of_ble_eq_true rfl), (Nat.le_of_ble_eq_true rfl)⟩ (Nat.le_of_ble_eq_true rfl) ⟨(Nat.le_of_ble_eq_true rfl), (Nat.le_of_ble_eq_true rfl)⟩ (fun r15 n15 h15 e15 => ?_)
      obtain ⟨rfl, rfl, W15⟩ := e15
      obtain ⟨F15, J15, Q15, R15⟩ := id W15
      refine gi_iret C hr (dm_Ma_enter 10 rfl) ?_
      rw [show entZ P x z = (wrgZ z 5, 2) from by
        unfold entZ
        rw [if_pos t15]]
      exact ⟨rfl, rfl, W15⟩
  · refine gi_if_ne (q := 13) (tgt := 19) C (dm_Ma_enter 6 rfl) rfl (by decide) (fun c10 => ?_) (fun c10 => ?_)
    · refine gi_aload_n (q := 20) (i := 0) C (dm_Ma_enter 11 rfl) rfl rfl rfl ?_
      refine gi_get (q := 23) C (dm_Ma_enter 12 rfl) rfl fl_Ma_42 Q1.ob rfl ?_
      refine gi_iload_n (q := 24) (i := 1) C (dm_Ma_enter 13 rfl) rfl rfl rfl ?_
      refine gi_callv 1 (q := 27) C (dm_Ma_enter 14 rfl) rfl my_Pr_argumentsOf lk_Ma_104 im_Pr_argumentsOf rfl (q_args E.hW hx (E.hP Q1.ou)) (E.hP Q1.ou).1 rfl rfl ⟨(Nat.le_of_ble_eq_true rfl), (Nat.le_of_ble_eq_true rfl)⟩ (Nat.le_of_ble_eq_true rfl) ⟨(Nat.le_of_ble_eq_true rfl), (Nat.le_of_ble_eq_true rfl)⟩ (fun r24 n24 h24 e24 => ?_)
      obtain ⟨rfl, q24, u24⟩ := e24
      rw [q24, u24]
      refine gi_istore_n (q := 28) (i := 3) C (dm_Ma_enter 15 rfl) rfl rfl (Nat.le_of_ble_eq_true rfl) ?_
      refine gi_aload_n (q := 29) (i := 0) C (dm_Ma_enter 16 rfl) rfl rfl rfl ?_
      refine gi_get (q := 32) C (dm_Ma_enter 17 rfl) rfl fl_Ma_33 Q1.ob rfl ?_
      refine gi_iload_n (q := 33) (i := 2) C (dm_Ma_enter 18 rfl) rfl rfl rfl ?_
      refine gi_aload_n (q := 34) (i := 0) C (dm_Ma_enter 19 rfl) rfl rfl rfl ?_
      refine gi_get (q := 37) C (dm_Ma_enter 20 rfl) rfl fl_Ma_33 Q1.ob rfl ?_
      refine gi_iload_n (q := 38) (i := 2) C (dm_Ma_enter 21 rfl) rfl rfl rfl ?_
      refine gi_iald (q := 39) C (dm_Ma_enter 22 rfl) rfl rfl Q1.a9 (in16 t16) ?_
      rw [nI_clamp (show z.top < 2 ^ 31 by omega), (o7 z.top (by omega)).2.2, r3]
      refine gi_iload_n (q := 40) (i := 3) C (dm_Ma_enter 23 rfl) rfl rfl rfl ?_
      refine gi_isub (q := 41) C (dm_Ma_enter 24 rfl) rfl ?_
      refine gi_iconst (q := 42) (v := 0) C (dm_Ma_enter 25 rfl) rfl (by decide) ?_
      refine gi_calls 2 (q := 45) C (dm_Ma_enter 26 rfl) rfl my_Mt_max_1 lk_Ma_224 sm_Mt_max_1 (c_Mt_max_1 z.cur.n (pN P 1 x) hn (by omega)) rfl rfl ⟨(Nat.le_of_ble_eq_true rfl), (Nat.le_of_ble_eq_true rfl)⟩ (Nat.le_of_ble_eq_true rfl) ⟨(Nat.le_of_ble_eq_true rfl), (Nat.le_of_ble_eq_true rfl)⟩ (fun r42 n42 h42 e42 => ?_)
      obtain ⟨rfl, q42, u42⟩ := e42
      rw [q42, u42]
      refine gi_iast (q := 46) C (dm_Ma_enter 27 rfl) rfl rfl Q1.a9 (in16 t16) ?_
      rw [nI_clamp (show z.top < 2 ^ 31 by omega)]
      have Q2 := Q1.s9 (upd (F1 9) z.top (nI (z.cur.n - pN P 1 x)))
      refine gi_iconst (q := 47) (v := 0) C (dm_Ma_enter 28 rfl) rfl (by decide) ?_
      refine gi_istore (q := 49) C (dm_Ma_enter 29 rfl) rfl (Nat.le_of_ble_eq_true rfl) ?_
      refine gi_while (σ := Nat) (fun j => pN P 1 x - j) (fun j => [(4, .int (nI j)), (3, .int (nI (pN P 1 x))), (2, .int (nI z.top)), (0, .ref a)]) (fun _ => n7) (fun _ => 0) (fun _ => 0) (fun j y' => j ≤ pN P 1 x ∧ ∃ Fy, MO a pr bu fa gv h0 sx (nI (z.top + 1)) z.wr wt (bI z.as) Fy (vp_updL J 5 (eL (max z.dp (z.top + 1 + 1) : Nat))) z.hp y' ∧ (∀ i, i < j → Fy 8 (14 * (z.top + 1) + i) = F 8 (14 * z.top + (z.cur.n - pN P 1 x) + i)) ∧ (∀ i, j ≤ i → i < 14 → Fy 8 (14 * (z.top + 1) + i) = 0) ∧ (∀ y, y < 14 * (z.top + 1) → Fy 8 y = F 8 y) ∧ Fy 7 = F 7 ∧ Fy 10 = F1 10 ∧ Fy 11 = F1 11 ∧ Fy 9 = upd (F1 9) z.top (nI (z.cur.n - pN P 1 x))) 0 ⟨Nat.zero_le _, _, Q2, fun i hi => absurd hi (by omega), fun i _ hi => o5 i hi, fun y hy => o6 y (by omega), o1, rfl, rfl, rfl⟩ ?_ (List.forall_mem_cons.mpr ⟨rfl, List.forall_mem_cons.mpr ⟨rfl, List.forall_mem_cons.mpr ⟨rfl, List.forall_mem_cons.mpr ⟨rfl, fun _ h => absurd h List.not_mem_nil⟩⟩⟩⟩) rfl rfl rfl
      rintro j y' ⟨hj1, Fy, Y, y2, y3, y4, y5, y6, y7, y8⟩ ih
      try dsimp only at *
      refine gi_iload (q := 51) C (dm_Ma_enter 30 rfl) rfl rfl ?_
      refine gi_iload_n (q := 52) (i := 3) C (dm_Ma_enter 31 rfl) rfl rfl rfl ?_
      refine gi_icmp_ge (q := 55) (tgt := 109) C (dm_Ma_enter 32 rfl) rfl (by decide) (fun c52 => ?_) (fun c52 => ?_)
      · have j1 : j = pN P 1 x := by
          rcases Nat.lt_or_ge j (pN P 1 x) with q | q
          · exact absurd c52 (Int32.not_le.mpr (nI_lt q (by omega)))
          · omega
        refine gi_iconst (q := 110) (v := 0) C (dm_Ma_enter 65 rfl) rfl (by decide) ?_
        refine gi_iret C hr (dm_Ma_enter 66 rfl) ?_
        rw [show entZ P x z = (mkC (z.top + 1) (upO (upO z.fr z.top (mkF z.cur.m z.cur.i (z.cur.n - pN P 1 x) z.cur.s)) (z.top + 1) (entF2 P x z.cur)) z.fd z.hp z.as z.wr (max z.dp (z.top + 2)) z.gv, 0) from by
          unfold entZ
          rw [if_neg (by omega)]]
        refine ⟨rfl, rfl, Fy, _, Y, t15, ?_, ?_, ?_, fun i h1 h2 h3 => ?_, fun i hi => ?_, fun t ht => ?_⟩
        · rw [updL_is, if_neg (by decide)]
          exact R.2.1
        · rw [updL_is, if_pos rfl]
        · show max z.dp (z.top + 2) ≤ 16
          have := R.2.2.2.1
          omega
        · rw [updL_is, if_neg h3]
          exact R.2.2.2.2.1 i h1 h2 h3
        · rw [y5]
          exact R.2.2.2.2.2.1 i hi
        · have ht : t ≤ z.top + 1 := ht
          show frR t (upO (upO z.fr z.top (mkF z.cur.m z.cur.i (z.cur.n - pN P 1 x) z.cur.s)) (z.top + 1) (entF2 P x z.cur) t) Fy
          by_cases q : t = z.top + 1
          · subst q
            rw [upO_self]
            refine ⟨by rw [y6]; exact o2, by rw [y7]; exact o3, ?_, ?_, fun i hi => ?_⟩
            · rw [y8, upd_is, if_neg (by omega)]
              exact o4
            · show pN P 2 x ≤ 14
              omega
            · show Fy 8 (14 * (z.top + 1) + i) = if i < pN P 1 x then z.cur.s (z.cur.n - pN P 1 x + i) else 0
              have hi : i < pN P 2 x := hi
              by_cases q : i < pN P 1 x
              · rw [if_pos q, y2 i (by omega), Nat.add_assoc]
                exact r5 _ (by omega)
              · rw [if_neg q]
                exact y3 i (by omega) (by omega)
          · rw [upO_ne q]
            obtain ⟨u1, u2, u3⟩ := o7 t q
            by_cases q2 : t = z.top
            · subst q2
              rw [upO_self]
              refine ⟨by rw [y6, u1]; exact r1, by rw [y7, u2]; exact r2, ?_, by show z.cur.n - pN P 1 x ≤ 14; omega, fun i hi => ?_⟩
              · rw [y8, upd_is, if_pos rfl]
              · have hi : i < z.cur.n - pN P 1 x := hi
                rw [y4 _ (by omega)]
                exact r5 i (by omega)
            · rw [upO_ne q2]
              obtain ⟨s1, s2, s3, s4, s5⟩ := R.2.2.2.2.2.2 t (by omega)
              refine ⟨by rw [y6, u1]; exact s1, by rw [y7, u2]; exact s2, ?_, s4, fun i hi => ?_⟩
              · rw [y8, upd_is, if_neg q2, u3]
                exact s3
              · rw [y4 _ (by omega)]
                exact s5 i hi
      · have j1 : j < pN P 1 x := by
          rcases Nat.lt_or_ge j (pN P 1 x) with q | q
          · exact q
          · exact absurd (nI_le q (by omega)) c52
        refine gi_aload_n (q := 56) (i := 0) C (dm_Ma_enter 33 rfl) rfl rfl rfl ?_
        refine gi_get (q := 59) C (dm_Ma_enter 34 rfl) rfl fl_Ma_33 Y.ob rfl ?_
        refine gi_iload_n (q := 60) (i := 2) C (dm_Ma_enter 35 rfl) rfl rfl rfl ?_
        refine gi_iald (q := 61) C (dm_Ma_enter 36 rfl) rfl rfl Y.a9 (in16 t16) ?_
        rw [nI_clamp (show z.top < 2 ^ 31 by omega), y8, upd_is, if_pos rfl]
        refine gi_iload (q := 63) C (dm_Ma_enter 37 rfl) rfl rfl ?_
        refine gi_iadd (q := 64) C (dm_Ma_enter 38 rfl) rfl ?_
        rw [nI_add]
        refine gi_bipush (q := 66) (v := 14) C (dm_Ma_enter 39 rfl) rfl (by decide) ?_
        refine gi_icmp_ge (q := 69) (tgt := 109) C (dm_Ma_enter 40 rfl) rfl (by decide) (fun c66 => ?_) (fun c66 => ?_)
        · exact absurd (nI_lt (a := z.cur.n - pN P 1 x + j) (b := 14) (by omega) (by decide)) (Int32.not_lt.mpr c66)
        · refine gi_aload_n (q := 70) (i := 0) C (dm_Ma_enter 41 rfl) rfl rfl rfl ?_
          refine gi_get (q := 73) C (dm_Ma_enter 42 rfl) rfl fl_Ma_30 Y.ob rfl ?_
          refine gi_aload_n (q := 74) (i := 0) C (dm_Ma_enter 43 rfl) rfl rfl rfl ?_
          refine gi_get (q := 77) C (dm_Ma_enter 44 rfl) rfl fl_Ma_72 Y.ob rfl ?_
          refine gi_bipush (q := 79) (v := 14) C (dm_Ma_enter 45 rfl) rfl (by decide) ?_
          refine gi_imul (q := 80) C (dm_Ma_enter 46 rfl) rfl ?_
          rw [show (14 : Int32) = nI 14 from rfl, nI_ml]
          refine gi_iload (q := 82) C (dm_Ma_enter 47 rfl) rfl rfl ?_
          refine gi_iadd (q := 83) C (dm_Ma_enter 48 rfl) rfl ?_
          rw [nI_add]
          refine gi_aload_n (q := 84) (i := 0) C (dm_Ma_enter 49 rfl) rfl rfl rfl ?_
          refine gi_get (q := 87) C (dm_Ma_enter 50 rfl) rfl fl_Ma_30 Y.ob rfl ?_
          refine gi_iload_n (q := 88) (i := 2) C (dm_Ma_enter 51 rfl) rfl rfl rfl ?_
          refine gi_bipush (q := 90) (v := 14) C (dm_Ma_enter 52 rfl) rfl (by decide) ?_
          refine gi_imul (q := 91) C (dm_Ma_enter 53 rfl) rfl ?_
          rw [show (14 : Int32) = nI 14 from rfl, nI_ml]
          refine gi_aload_n (q := 92) (i := 0) C (dm_Ma_enter 54 rfl) rfl rfl rfl ?_
          refine gi_get (q := 95) C (dm_Ma_enter 55 rfl) rfl fl_Ma_33 Y.ob rfl ?_
          refine gi_iload_n (q := 96) (i := 2) C (dm_Ma_enter 56 rfl) rfl rfl rfl ?_
          refine gi_iald (q := 97) C (dm_Ma_enter 57 rfl) rfl rfl Y.a9 (in16 t16) ?_
          rw [nI_clamp (show z.top < 2 ^ 31 by omega), y8, upd_is, if_pos rfl]
          refine gi_iadd (q := 98) C (dm_Ma_enter 58 rfl) rfl ?_
          rw [nI_add]
          refine gi_iload (q := 100) C (dm_Ma_enter 59 rfl) rfl rfl ?_
          refine gi_iadd (q := 101) C (dm_Ma_enter 60 rfl) rfl ?_
          rw [nI_add]
          refine gi_iald (q := 102) C (dm_Ma_enter 61 rfl) rfl rfl Y.a8 (inN (show z.top * 14 + (z.cur.n - pN P 1 x) + j < 224 by omega) (by decide)) ?_
          rw [nI_clamp (show z.top * 14 + (z.cur.n - pN P 1 x) + j < 2 ^ 31 by omega)]
          refine gi_iast (q := 103) C (dm_Ma_enter 62 rfl) rfl rfl Y.a8 (inN (show (z.top + 1) * 14 + j < 224 by omega) (by decide)) ?_
          rw [nI_clamp (show (z.top + 1) * 14 + j < 2 ^ 31 by omega)]
          have Y2 := Y.s8 (upd (Fy 8) ((z.top + 1) * 14 + j) (Fy 8 (z.top * 14 + (z.cur.n - pN P 1 x) + j)))
          refine gi_iinc (q := 106) (v := 1) C (dm_Ma_enter 63 rfl) rfl rfl (by decide) (Nat.le_of_ble_eq_true rfl) ?_
          refine gi_goto (tgt := 49) C (dm_Ma_enter 64 rfl) (by decide) ?_
          refine gi_close (ih (j + 1) _ ⟨j1, _, Y2, fun i hi => ?_, fun i h1 h2 => ?_, fun y hy => ?_, y5, y6, y7, y8⟩ (by omega)) (List.forall_mem_cons.mpr ⟨(by simp [gi_look, nI_1]), List.forall_mem_cons.mpr ⟨rfl, List.forall_mem_cons.mpr ⟨rfl, List.forall_mem_cons.mpr ⟨rfl, fun _ h => absurd h List.not_mem_nil⟩⟩⟩⟩) rfl rfl rfl
          · show upd (Fy 8) ((z.top + 1) * 14 + j) (Fy 8 (z.top * 14 + (z.cur.n - pN P 1 x) + j)) (14 * (z.top + 1) + i) = _
            rw [upd_is]
            by_cases q : i = j
            · rw [if_pos (by omega), q, y4 _ (by omega), Nat.mul_comm z.top 14]
            · rw [if_neg (by omega)]
              exact y2 i (by omega)
          · show upd (Fy 8) ((z.top + 1) * 14 + j) _ (14 * (z.top + 1) + i) = 0
            rw [upd_is, if_neg (by omega)]
            exact y3 i (by omega) h2
          · show upd (Fy 8) ((z.top + 1) * 14 + j) _ y = _
            rw [upd_is, if_neg (by omega)]
            exact y4 y hy
    · exact absurd c10 (by decide)
end MA6
