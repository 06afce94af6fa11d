-- needs: 89.36
section MA5
variable {l : Launch} {V : gi_V} {n : Nat} {h h' h0 : gi_H} {a pr bu fa gv k : Nat} {sx wt tp wr st : Int32} {F : Nat → Nat → Int32} {J Jx : Nat → Int64} {H : Hp} {z : Mc} {P : Pm} {sn : Nat → Nat} {wd : Nat → Bool} {Fc : Fa} {Φ : Nat → mR}
theorem updL_is (f : Nat → Int64) (i : Nat) (v : Int64) (j : Nat) : vp_updL f i v j = if j = i then v else f j := by
  unfold vp_updL
  by_cases q : j = i <;> simp [q]
theorem MW.giv {v : Int64} (Q : MO a pr bu fa gv h0 sx (nI z.top) z.wr wt (bI z.as) F J z.hp h) (R : MR z F J Jx) : MW a pr bu fa gv h0 sx wt Jx (gvZ z v) (gi_up h (a + 6) (gi_J 2 8 (vp_updL J 0 v))) := by
  obtain ⟨g1, g2, g3, g4, g5, g6, g7⟩ := R
  refine ⟨F, _, Q.sJ _, g1, ?_, ?_, g4, fun j h1 h2 h3 => ?_, g6, g7⟩
  · rw [updL_is, if_pos rfl]; rfl
  · rw [updL_is, if_neg (by decide)]; exact g3
  · rw [updL_is, if_neg h2]; exact g5 j h1 h2 h3
theorem MW.dwn (h1 : 1 ≤ z.top) (Q : MO a pr bu fa gv h0 sx (nI z.top) z.wr wt (bI z.as) F J z.hp h) (R : MR z F J Jx) : MW a pr bu fa gv h0 sx wt Jx (dwnZ z) (gi_up h a (gi_O 10 [.int sx, .ref pr, .ref bu, .ref fa, .ref gv, .ref (a + 1), .ref (a + 6), .ref (a + 7), .ref (a + 8), .ref (a + 9), .ref (a + 10), .ref (a + 11), .int (nI (z.top - 1)), .int z.wr, .int wt, .int (bI z.as)])) := by
  obtain ⟨g1, g2, g3, g4, g5, g6, g7⟩ := R
  refine ⟨F, J, Q.pO sx (nI (z.top - 1)) z.wr wt (bI z.as), ?_, g2, g3, g4, g5, g6, fun t ht => g7 t ?_⟩
  · show z.top - 1 < 16
    have : z.top < 16 := g1
    omega
  · have : t ≤ z.top - 1 := ht
    omega
theorem top_dwn {z : Mc} : (dwnZ z).cur = z.fr (z.top - 1) := rfl
set_option maxHeartbeats 4000000 in
set_option maxRecDepth 100000 in
theorem c_Ma_leave (hm : z.cur.m < k) (h1 : pN P 4 z.cur.m ≠ 0 → 1 ≤ z.cur.n) (h2 : pN P 4 z.cur.m = 2 → ∃ r, r ≤ z.hp.c ∧ topV z = nI r) (h3 : pN P 4 z.cur.m ≠ 0 → 1 ≤ z.top → (z.fr (z.top - 1)).n < 14) (E : EN a pr bu fa k P sn wd Fc Φ h0) (Hw : MW a pr bu fa gv h0 sx wt Jx z h) : gi_T l V y_Ma_leave b_Ma_leave 3 (some .int) 2 42 0 0 [.ref a] n h (fun v n' h' => v = some (.int (leaZ P z).2) ∧ n' = n ∧ MW a pr bu fa gv h0 sx wt Jx (leaZ P z).1 h') := by
  refine gi_enter (by decide) (Nat.le_of_ble_eq_true rfl) ?_
  intro _ _ _ _ _ _ _ _ C hr hnm
  obtain ⟨F, J, Q, R⟩ := id Hw
  have t16 := R.1
  have n14 := R.cur.2.2.2.1
  have w4 : pN P 4 z.cur.m ≤ 2 := (wf_ar E.hW hm).2.2.2.1
  refine gi_aload_n (q := 1) (i := 0) C (dm_Ma_leave 0 rfl) rfl rfl rfl ?_
  refine gi_get (q := 4) C (dm_Ma_leave 1 rfl) rfl fl_Ma_42 Q.ob rfl ?_
  refine gi_aload_n (q := 5) (i := 0) C (dm_Ma_leave 2 rfl) rfl rfl rfl ?_
  refine gi_get (q := 8) C (dm_Ma_leave 3 rfl) rfl fl_Ma_36 Q.ob rfl ?_
  refine gi_aload_n (q := 9) (i := 0) C (dm_Ma_leave 4 rfl) rfl rfl rfl ?_
  refine gi_get (q := 12) C (dm_Ma_leave 5 rfl) rfl fl_Ma_72 Q.ob rfl ?_
  refine gi_iald (q := 13) C (dm_Ma_leave 6 rfl) rfl rfl Q.a10 (in16 t16) ?_
  rw [nI_clamp (show z.top < 2 ^ 31 by omega), R.cur.1]
  refine gi_callv 1 (q := 16) C (dm_Ma_leave 7 rfl) rfl my_Pr_resultSort lk_Ma_226 im_Pr_resultSort rfl (q_res E.hW hm (E.hP Q.ou)) (E.hP Q.ou).1 rfl rfl ⟨(Nat.le_of_ble_eq_true rfl), (Nat.le_of_ble_eq_true rfl)⟩ (Nat.le_of_ble_eq_true rfl) ⟨(Nat.le_of_ble_eq_true rfl), (Nat.le_of_ble_eq_true rfl)⟩ (fun r13 n13 h13 e13 => ?_)
  obtain ⟨rfl, q13, u13⟩ := e13
  rw [q13, u13]
  have rs : (nI (pN P 4 z.cur.m) = 0) = (pN P 4 z.cur.m = 0) := nI_z (by omega)
  have rs2 : (nI (pN P 4 z.cur.m) = 2) = (pN P 4 z.cur.m = 2) := nI_eqP (b := 2) (by omega) (by decide)
  have tz : (nI z.top = 0) = (z.top = 0) := nI_z (by omega)
  refine gi_istore_n (q := 17) (i := 1) C (dm_Ma_leave 8 rfl) rfl rfl (Nat.le_of_ble_eq_true rfl) ?_
  refine gi_iload_n (q := 18) (i := 1) C (dm_Ma_leave 9 rfl) rfl rfl rfl ?_
  refine gi_if_ne (q := 21) (tgt := 25) C (dm_Ma_leave 10 rfl) rfl (by decide) (fun c18 => ?_) (fun c18 => ?_)
  · have rz : ¬ pN P 4 z.cur.m = 0 := by rw [← rs]; exact c18
    refine gi_aload_n (q := 26) (i := 0) C (dm_Ma_leave 13 rfl) rfl rfl rfl ?_
    refine gi_callv 0 (q := 29) C (dm_Ma_leave 14 rfl) rfl my_Ma_pop lk_Ma_177 im_Ma_pop rfl (c_Ma_pop (h1 rz) Hw) Q.ob rfl rfl ⟨(Nat.le_of_ble_eq_true rfl), (Nat.le_of_ble_eq_true rfl)⟩ (Nat.le_of_ble_eq_true rfl) ⟨(Nat.le_of_ble_eq_true rfl), (Nat.le_of_ble_eq_true rfl)⟩ (fun r26 n26 h26 e26 => ?_)
    obtain ⟨rfl, rfl, W26⟩ := e26
    obtain ⟨F26, J26, Q26, R26⟩ := id W26
    refine gi_istore_n (q := 30) (i := 2) C (dm_Ma_leave 15 rfl) rfl rfl (Nat.le_of_ble_eq_true rfl) ?_
    refine gi_aload_n (q := 31) (i := 0) C (dm_Ma_leave 16 rfl) rfl rfl rfl ?_
    refine gi_get (q := 34) C (dm_Ma_leave 17 rfl) rfl fl_Ma_72 Q26.ob rfl ?_
    refine gi_if_ne (q := 37) (tgt := 64) C (dm_Ma_leave 18 rfl) rfl (by decide) (fun c34 => ?_) (fun c34 => ?_)
    · refine gi_aload_n (q := 65) (i := 0) C (dm_Ma_leave 36 rfl) rfl rfl rfl ?_
      refine gi_dup (q := 66) C (dm_Ma_leave 37 rfl) rfl rfl ?_
      refine gi_get (q := 69) C (dm_Ma_leave 38 rfl) rfl fl_Ma_72 Q26.ob rfl ?_
      refine gi_iconst (q := 70) (v := 1) C (dm_Ma_leave 39 rfl) rfl (by decide) ?_
      refine gi_isub (q := 71) C (dm_Ma_leave 40 rfl) rfl ?_
      rw [show (1 : Int32) = nI 1 from rfl, show (popZ z).top = z.top from rfl, nI_sb (show 1 ≤ z.top by rw [show (popZ z).top = z.top from rfl, tz] at c34; omega) (by omega)]
      refine gi_put (q := 74) C (dm_Ma_leave 41 rfl) rfl fl_Ma_72 fp_Ma_12 Q26.ob (Nat.le_of_ble_eq_true rfl) rfl rfl ?_
      have t1 : 1 ≤ z.top := by rw [show (popZ z).top = z.top from rfl, tz] at c34; omega
      have W71 := MW.dwn (z := popZ z) t1 Q26 R26
      obtain ⟨F71, J71, Q71, R71⟩ := id W71
      refine gi_iload_n (q := 75) (i := 1) C (dm_Ma_leave 42 rfl) rfl rfl rfl ?_
      refine gi_if_eq (q := 78) (tgt := 83) C (dm_Ma_leave 43 rfl) rfl (by decide) (fun c75 => ?_) (fun c75 => ?_)
      · exact absurd c75 c18
      · refine gi_aload_n (q := 79) (i := 0) C (dm_Ma_leave 44 rfl) rfl rfl rfl ?_
        refine gi_iload_n (q := 80) (i := 2) C (dm_Ma_leave 45 rfl) rfl rfl rfl ?_
        refine gi_callv 1 (q := 83) C (dm_Ma_leave 46 rfl) rfl my_Ma_push lk_Ma_171 im_Ma_push rfl (c_Ma_push _ (by rw [top_dwn]; show (upO z.fr z.top _ (z.top - 1)).n < 14; rw [upO_ne (by omega)]; exact h3 rz (by omega)) W71) Q71.ob rfl rfl ⟨(Nat.le_of_ble_eq_true rfl), (Nat.le_of_ble_eq_true rfl)⟩ (Nat.le_of_ble_eq_true rfl) ⟨(Nat.le_of_ble_eq_true rfl), (Nat.le_of_ble_eq_true rfl)⟩ (fun r80 n80 h80 e80 => ?_)
        obtain ⟨rfl, rfl, W80⟩ := e80
        obtain ⟨F80, J80, Q80, R80⟩ := id W80
        refine gi_iconst (q := 84) (v := 0) C (dm_Ma_leave 47 rfl) rfl (by decide) ?_
        refine gi_iret C hr (dm_Ma_leave 48 rfl) ?_
        rw [show leaZ P z = (pshZ (dwnZ (popZ z)) (topV z), 0) from by
          unfold leaZ
          rw [if_neg rz, if_neg (by rw [← tz]; exact c34)]]
        exact ⟨rfl, rfl, W80⟩
    · refine gi_aload_n (q := 38) (i := 0) C (dm_Ma_leave 19 rfl) rfl rfl rfl ?_
      refine gi_get (q := 41) C (dm_Ma_leave 20 rfl) rfl fl_Ma_22 Q26.ob rfl ?_
      refine gi_iconst (q := 42) (v := 0) C (dm_Ma_leave 21 rfl) rfl (by decide) ?_
      refine gi_iload_n (q := 43) (i := 1) C (dm_Ma_leave 22 rfl) rfl rfl rfl ?_
      refine gi_iconst (q := 44) (v := 2) C (dm_Ma_leave 23 rfl) rfl (by decide) ?_
      refine gi_icmp_ne (q := 47) (tgt := 59) C (dm_Ma_leave 24 rfl) rfl (by decide) (fun c44 => ?_) (fun c44 => ?_)
      · refine gi_iload_n (q := 60) (i := 2) C (dm_Ma_leave 31 rfl) rfl rfl rfl ?_
        refine gi_i2l (q := 61) C (dm_Ma_leave 32 rfl) rfl ?_
        refine gi_last (q := 62) C (dm_Ma_leave 33 rfl) rfl rfl Q26.a6 (inN (show 0 < 8 by decide) (by decide)) ?_
        skip
        refine gi_iconst (q := 63) (v := 1) C (dm_Ma_leave 34 rfl) rfl (by decide) ?_
        refine gi_iret C hr (dm_Ma_leave 35 rfl) ?_
        rw [show leaZ P z = (gvZ (popZ z) (topV z).toInt64, 1) from by
          unfold leaZ
          rw [if_neg rz, if_pos (by rw [← tz]; exact c34), if_neg (by rw [← rs2]; exact c44)]]
        exact ⟨rfl, rfl, MW.giv Q26 R26⟩
      · refine gi_aload_n (q := 48) (i := 0) C (dm_Ma_leave 25 rfl) rfl rfl rfl ?_
        refine gi_get (q := 51) C (dm_Ma_leave 26 rfl) rfl fl_Ma_18 Q26.ob rfl ?_
        refine gi_iload_n (q := 52) (i := 2) C (dm_Ma_leave 27 rfl) rfl rfl rfl ?_
        obtain ⟨r, rc, er⟩ := h2 (by rw [← rs2]; exact c44)
        rw [er]
        have rc : r ≤ (popZ z).hp.c := rc
        refine gi_callv 1 (q := 55) C (dm_Ma_leave 28 rfl) rfl my_He_lengthOf lk_Ma_212 im_He_lengthOf rfl (c_He_lengthOf (r := r) rc Q26.he) (Q26.he).choose_spec.choose_spec.1.1 rfl rfl ⟨(Nat.le_of_ble_eq_true rfl), (Nat.le_of_ble_eq_true rfl)⟩ (Nat.le_of_ble_eq_true rfl) ⟨(Nat.le_of_ble_eq_true rfl), (Nat.le_of_ble_eq_true rfl)⟩ (fun r52 n52 h52 e52 => ?_)
        obtain ⟨rfl, q52, u52⟩ := e52
        rw [q52, u52]
        refine gi_i2l (q := 56) C (dm_Ma_leave 29 rfl) rfl ?_
        refine gi_goto (tgt := 61) C (dm_Ma_leave 30 rfl) (by decide) ?_
        refine gi_last (q := 62) C (dm_Ma_leave 33 rfl) rfl rfl Q26.a6 (inN (show 0 < 8 by decide) (by decide)) ?_
        skip
        refine gi_iconst (q := 63) (v := 1) C (dm_Ma_leave 34 rfl) rfl (by decide) ?_
        refine gi_iret C hr (dm_Ma_leave 35 rfl) ?_
        rw [show leaZ P z = (gvZ (popZ z) ((if r = 0 then -1 else nI (z.hp.ln r)) : Int32).toInt64, 1) from by
          unfold leaZ
          rw [if_neg rz, if_pos (by rw [← tz]; exact c34), if_pos (by rw [← rs2]; exact c44), er]
          by_cases q : r = 0
          · rw [if_pos q, if_pos (by rw [q]; rfl)]; rfl
          · rw [if_neg q, if_neg (by rw [nI_z (by have := (Q26.he).choose_spec.choose_spec.2.1.1; omega)]; exact q), nI_clamp (by have := (Q26.he).choose_spec.choose_spec.2.1.1; omega)]]
        exact ⟨rfl, rfl, MW.giv Q26 R26⟩
  · have rz : pN P 4 z.cur.m = 0 := by rw [← rs]; exact c18
    refine gi_iconst (q := 22) (v := 0) C (dm_Ma_leave 11 rfl) rfl (by decide) ?_
    refine gi_goto (tgt := 29) C (dm_Ma_leave 12 rfl) (by decide) ?_
    refine gi_istore_n (q := 30) (i := 2) C (dm_Ma_leave 15 rfl) rfl rfl (Nat.le_of_ble_eq_true rfl) ?_
    refine gi_aload_n (q := 31) (i := 0) C (dm_Ma_leave 16 rfl) rfl rfl rfl ?_
    refine gi_get (q := 34) C (dm_Ma_leave 17 rfl) rfl fl_Ma_72 Q.ob rfl ?_
    refine gi_if_ne (q := 37) (tgt := 64) C (dm_Ma_leave 18 rfl) rfl (by decide) (fun c34 => ?_) (fun c34 => ?_)
    · refine gi_aload_n (q := 65) (i := 0) C (dm_Ma_leave 36 rfl) rfl rfl rfl ?_
      refine gi_dup (q := 66) C (dm_Ma_leave 37 rfl) rfl rfl ?_
      refine gi_get (q := 69) C (dm_Ma_leave 38 rfl) rfl fl_Ma_72 Q.ob rfl ?_
      refine gi_iconst (q := 70) (v := 1) C (dm_Ma_leave 39 rfl) rfl (by decide) ?_
      refine gi_isub (q := 71) C (dm_Ma_leave 40 rfl) rfl ?_
      rw [show (1 : Int32) = nI 1 from rfl, nI_sb (show 1 ≤ z.top by rw [tz] at c34; omega) (by omega)]
      refine gi_put (q := 74) C (dm_Ma_leave 41 rfl) rfl fl_Ma_72 fp_Ma_12 Q.ob (Nat.le_of_ble_eq_true rfl) rfl rfl ?_
      refine gi_iload_n (q := 75) (i := 1) C (dm_Ma_leave 42 rfl) rfl rfl rfl ?_
      refine gi_if_eq (q := 78) (tgt := 83) C (dm_Ma_leave 43 rfl) rfl (by decide) (fun c75 => ?_) (fun c75 => ?_)
      · refine gi_iconst (q := 84) (v := 0) C (dm_Ma_leave 47 rfl) rfl (by decide) ?_
        refine gi_iret C hr (dm_Ma_leave 48 rfl) ?_
        rw [show leaZ P z = (dwnZ z, 0) from by
          unfold leaZ
          rw [if_pos rz, if_neg (by rw [← tz]; exact c34)]]
        exact ⟨rfl, rfl, MW.dwn (by rw [tz] at c34; omega) Q R⟩
      · exact absurd (by rw [rs]; exact rz) c75
    · refine gi_aload_n (q := 38) (i := 0) C (dm_Ma_leave 19 rfl) rfl rfl rfl ?_
      refine gi_get (q := 41) C (dm_Ma_leave 20 rfl) rfl fl_Ma_22 Q.ob rfl ?_
      refine gi_iconst (q := 42) (v := 0) C (dm_Ma_leave 21 rfl) rfl (by decide) ?_
      refine gi_iload_n (q := 43) (i := 1) C (dm_Ma_leave 22 rfl) rfl rfl rfl ?_
      refine gi_iconst (q := 44) (v := 2) C (dm_Ma_leave 23 rfl) rfl (by decide) ?_
      refine gi_icmp_ne (q := 47) (tgt := 59) C (dm_Ma_leave 24 rfl) rfl (by decide) (fun c44 => ?_) (fun c44 => ?_)
      · refine gi_iload_n (q := 60) (i := 2) C (dm_Ma_leave 31 rfl) rfl rfl rfl ?_
        refine gi_i2l (q := 61) C (dm_Ma_leave 32 rfl) rfl ?_
        refine gi_last (q := 62) C (dm_Ma_leave 33 rfl) rfl rfl Q.a6 (inN (show 0 < 8 by decide) (by decide)) ?_
        refine gi_iconst (q := 63) (v := 1) C (dm_Ma_leave 34 rfl) rfl (by decide) ?_
        refine gi_iret C hr (dm_Ma_leave 35 rfl) ?_
        rw [show leaZ P z = (gvZ z 0, 1) from by
          unfold leaZ
          rw [if_pos rz, if_pos (by rw [← tz]; exact c34)]]
        exact ⟨rfl, rfl, MW.giv Q R⟩
      · exact absurd c44 (by rw [rs2]; omega)
end MA5
