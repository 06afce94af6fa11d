-- needs: 89.85
section RCH
variable {l : Launch} {V : gi_V} {n : Nat} {h h' : gi_H} {M k m i : Nat} {P : Pm} {x : Sh} {sh : Nat → Option Sh} {S S' : Nat → Int32} {J J' : Nat → Int64} {F F' : Nat → Nat → Int32} {G G' : Nat → Nat → Int64} {f g : Nat → Sl} {n0 : Nat} {r : Rw} {Ff : Fa} {Z : Fa × Bool} {md p t : Nat} {S0 S1 S2 : Nat → Int32} {J0 J1 J2 : Nat → Int64} {F0 F1 F2 : Nat → Nat → Int32} {G0 G1 G2 : Nat → Nat → Int64} {y y' : gi_H} {L : Nat} {κ : (Nat → Ce) × Int32}
set_option maxHeartbeats 4000000 in
set_option maxRecDepth 100000 in
theorem c_Mo_step (B : Built k P sh (siN k P sh) (wdF k P)) (hmd : md ≤ 2) (hm : m < k) (hi : i < pN P 5 m) (hpg : pgR k P sh S F) (hD : mdR k P sh md Ff Z S F G) (hR : rdO (tyF P sh) (rdF md Ff Z)) (tl : ((rdF md Ff Z) (60 * m + i)).told = true) (H : mo_at M S J F G h) : gi_T l V y_Mo_step b_Mo_step 7 none 6 202 0 0 [.ref M, .int (nI (60 * m + i))] n h (fun v n' h' => v = none ∧ n' = n ∧ ∃ κ, spP M k P sh md Ff κ h S J F G ((outs P (siN k P sh) (rdF md Ff Z) (60 * m + i)).foldl (comeM md (grF (wdF k P))) Z) h') := by
  refine gi_enter (by decide) (Nat.le_of_ble_eq_true rfl) ?_
  intro _ _ _ _ _ _ _ _ C hr hnm
  obtain ⟨fs, Ha, Hf⟩ := id H.1
  have ho : outM M h h := outM.rf
  have W := B.wf
  have w8 := W.k8
  have wm := wf_ar W hm
  obtain ⟨x, y0, hsx, x8, x2, GT, ll, o35, od, ey, nxi, jmi⟩ := stp_pre B hm hi hR.1 tl
  have gn := G_n GT
  have rs := md_rdS hD (show (60 * m + i) < 480 by omega)
  obtain ⟨rL, r8, rr⟩ := rs.2 tl
  rw [show (60 * m + i) / 60 = m by omega] at rL r8 rr
  have e12 := (pg_at hpg W hm hi hsx).1
  refine gi_aload_n (q := 1) (i := 0) C (dm_Mo_step 0 rfl) rfl rfl rfl ?_
  refine gi_iload_n (q := 2) (i := 1) C (dm_Mo_step 1 rfl) rfl rfl rfl ?_
  refine gi_callv 1 (q := 5) C (dm_Mo_step 2 rfl) rfl my_Mo_load lk_Mo_425 im_Mo_load rfl (c_Mo_load (q := if md = 1 then 480 else 0) (p := (60 * m + i)) (d := x.1) (by omega) (by split <;> omega) hD.2.1 e12 H) Ha rfl rfl ⟨(Nat.le_of_ble_eq_true rfl), (Nat.le_of_ble_eq_true rfl)⟩ (Nat.le_of_ble_eq_true rfl) ⟨(Nat.le_of_ble_eq_true rfl), (Nat.le_of_ble_eq_true rfl)⟩ (fun r2 n2 h2 e2 => ?_)
  obtain ⟨rfl, rfl, S1, F1, G1, H1, o1, r1, s1, c1⟩ := e2
  have H := H1
  obtain ⟨fs, Ha, Hf⟩ := id H.1
  have ho := o1
  have HW1 : WW M k P sh md Ff (cK F1 G1, S1 66) h S J F G Z (pN P 2 m) ((rdF md Ff Z) (60 * m + i)).n ((rdF md Ff Z) (60 * m + i)).f S1 J F1 G1 h2 := ⟨H, ho, ⟨r1.yy, rfl, rfl⟩, hpg.yy (J := J) (J' := J) r1.yy, hD.nn r1.nn, by rw [s1]; congr 1; omega, rwR_nr rr rL r8 (fun j hj => c1 j hj), rL, by omega, r8⟩
  refine gi_aload_n (q := 6) (i := 0) C (dm_Mo_step 3 rfl) rfl rfl rfl ?_
  refine gi_iload_n (q := 7) (i := 1) C (dm_Mo_step 4 rfl) rfl rfl rfl ?_
  refine gi_bipush (q := 9) (v := 60) C (dm_Mo_step 5 rfl) rfl (by decide) ?_
  refine gi_idiv (q := 10) C (dm_Mo_step 6 rfl) rfl (by decide) ?_
  rw [show (60 : Int32) = nI 60 from rfl, nI_dv (by omega) (by decide), show (60 * m + i) / 60 = m by omega]
  refine gi_put (q := 13) C (dm_Mo_step 7 rfl) rfl fl_Mo_428 fp_Mo_59 Ha (by rw [Hf.1]; decide) rfl rfl ?_
  refine gi_genM (H.putI Ha Hf (by decide) rfl) (ho.up (by omega) (by omega)) (fun y H ho => ?_)
  obtain ⟨fs, Ha, Hf⟩ := id H.1
  have HW2 := HW1.me H ho
  have hP2 := HW2.2.2.2.1.1
  refine gi_aload_n (q := 14) (i := 0) C (dm_Mo_step 8 rfl) rfl rfl rfl ?_
  refine gi_get (q := 17) C (dm_Mo_step 9 rfl) rfl fl_Mo_25 Ha (mo_g6 Hf) ?_
  refine gi_iload_n (q := 18) (i := 1) C (dm_Mo_step 10 rfl) rfl rfl rfl ?_
  refine gi_iald (q := 19) C (dm_Mo_step 11 rfl) rfl rfl (mo_a6 H) (inN (show (60 * m + i) < 480 by omega) (by decide)) ?_
  rw [nI_clamp (show (60 * m + i) < 2 ^ 31 by omega), hP2 6 (by decide) (by decide), (wf_op W hm hi).1]
  refine gi_istore_n (q := 20) (i := 2) C (dm_Mo_step 12 rfl) rfl rfl (Nat.le_of_ble_eq_true rfl) ?_
  refine gi_aload_n (q := 21) (i := 0) C (dm_Mo_step 13 rfl) rfl rfl rfl ?_
  refine gi_get (q := 24) C (dm_Mo_step 14 rfl) rfl fl_Mo_28 Ha (mo_g7 Hf) ?_
  refine gi_iload_n (q := 25) (i := 1) C (dm_Mo_step 15 rfl) rfl rfl rfl ?_
  refine gi_iald (q := 26) C (dm_Mo_step 16 rfl) rfl rfl (mo_a7 H) (inN (show (60 * m + i) < 480 by omega) (by decide)) ?_
  rw [nI_clamp (show (60 * m + i) < 2 ^ 31 by omega), hP2 7 (by decide) (by decide)]
  refine gi_istore_n (q := 27) (i := 3) C (dm_Mo_step 17 rfl) rfl rfl (Nat.le_of_ble_eq_true rfl) ?_
  refine gi_iload_n (q := 28) (i := 1) C (dm_Mo_step 18 rfl) rfl rfl rfl ?_
  refine gi_iconst (q := 29) (v := 1) C (dm_Mo_step 19 rfl) rfl (by decide) ?_
  refine gi_iadd (q := 30) C (dm_Mo_step 20 rfl) rfl ?_
  rw [nI_1]
  refine gi_istore (q := 32) C (dm_Mo_step 21 rfl) rfl (Nat.le_of_ble_eq_true rfl) ?_
  refine gi_bipush (q := 34) (v := 60) C (dm_Mo_step 22 rfl) rfl (by decide) ?_
  refine gi_aload_n (q := 35) (i := 0) C (dm_Mo_step 23 rfl) rfl rfl rfl ?_
  refine gi_get (q := 38) C (dm_Mo_step 24 rfl) rfl fl_Mo_428 Ha (mo_g59 Hf) ?_
  rw [show upS S1 59 (nI m) 59 = nI m from rfl, show (60 : Int32) = nI 60 from rfl]
  refine gi_imul (q := 39) C (dm_Mo_step 25 rfl) rfl ?_
  rw [nI_ml]
  refine gi_iload_n (q := 40) (i := 3) C (dm_Mo_step 26 rfl) rfl rfl rfl ?_
  refine gi_iadd (q := 41) C (dm_Mo_step 27 rfl) rfl ?_
  refine gi_istore (q := 43) C (dm_Mo_step 28 rfl) rfl (Nat.le_of_ble_eq_true rfl) ?_
  refine gi_iload_n (q := 44) (i := 2) C (dm_Mo_step 29 rfl) rfl rfl rfl ?_
  refine gi_switch (lo := 0) (hi := 35) (by decide) (fun c44 => ?_) (fun i44 u44 v44 c44 => ?_)
  · rw [nI_toInt (by omega)] at c44
    omega
  · have w44 : i44 = 0 ∨ i44 = 1 ∨ i44 = 2 ∨ i44 = 3 ∨ i44 = 4 ∨ i44 = 5 ∨ i44 = 6 ∨ i44 = 7 ∨ i44 = 8 ∨ i44 = 9 ∨ i44 = 10 ∨ i44 = 11 ∨ i44 = 12 ∨ i44 = 13 ∨ i44 = 14 ∨ i44 = 15 ∨ i44 = 16 ∨ i44 = 17 ∨ i44 = 18 ∨ i44 = 19 ∨ i44 = 20 ∨ i44 = 21 ∨ i44 = 22 ∨ i44 = 23 ∨ i44 = 24 ∨ i44 = 25 ∨ i44 = 26 ∨ i44 = 27 ∨ i44 = 28 ∨ i44 = 29 ∨ i44 = 30 ∨ i44 = 31 ∨ i44 = 32 ∨ i44 = 33 ∨ i44 = 34 ∨ i44 = 35 := by omega
    rcases w44 with rfl | rfl | rfl | rfl | rfl | rfl | rfl | rfl | rfl | rfl | rfl | rfl | rfl | rfl | rfl | rfl | rfl | rfl | rfl | rfl | rfl | rfl | rfl | rfl | rfl | rfl | rfl | rfl | rfl | rfl | rfl | rfl | rfl | rfl | rfl | rfl
    · refine gi_tableIn (off := 160) (tgt := 204) C (dm_Mo_step 30 rfl) (by decide) (by decide) rfl (by decide) ?_
      rw [nI_eqP (by omega) (by decide)] at c44
      exact gi_close (rsp_0 C hr B hmd hm hi hR tl HW2 c44) (List.forall_mem_cons.mpr ⟨rfl, List.forall_mem_cons.mpr ⟨rfl, List.forall_mem_cons.mpr ⟨rfl, List.forall_mem_cons.mpr ⟨rfl, List.forall_mem_cons.mpr ⟨rfl, List.forall_mem_cons.mpr ⟨rfl, fun _ h => absurd h List.not_mem_nil⟩⟩⟩⟩⟩⟩) rfl rfl rfl
    · refine gi_tableIn (off := 178) (tgt := 222) C (dm_Mo_step 30 rfl) (by decide) (by decide) rfl (by decide) ?_
      rw [nI_eqP (by omega) (by decide)] at c44
      exact gi_close (rsp_1 C hr B hmd hm hi hR tl HW2 c44) (List.forall_mem_cons.mpr ⟨rfl, List.forall_mem_cons.mpr ⟨rfl, List.forall_mem_cons.mpr ⟨rfl, List.forall_mem_cons.mpr ⟨rfl, List.forall_mem_cons.mpr ⟨rfl, List.forall_mem_cons.mpr ⟨rfl, fun _ h => absurd h List.not_mem_nil⟩⟩⟩⟩⟩⟩) rfl rfl rfl
    · refine gi_tableIn (off := 216) (tgt := 260) C (dm_Mo_step 30 rfl) (by decide) (by decide) rfl (by decide) ?_
      rw [nI_eqP (by omega) (by decide)] at c44
      exact gi_close (rsp_2 C hr B hmd hm hi hR tl HW2 c44) (List.forall_mem_cons.mpr ⟨rfl, List.forall_mem_cons.mpr ⟨rfl, List.forall_mem_cons.mpr ⟨rfl, List.forall_mem_cons.mpr ⟨rfl, List.forall_mem_cons.mpr ⟨rfl, List.forall_mem_cons.mpr ⟨rfl, fun _ h => absurd h List.not_mem_nil⟩⟩⟩⟩⟩⟩) rfl rfl rfl
    · refine gi_tableIn (off := 299) (tgt := 343) C (dm_Mo_step 30 rfl) (by decide) (by decide) rfl (by decide) ?_
      rw [nI_eqP (by omega) (by decide)] at c44
      exact gi_close (rsp_3 C hr B hmd hm hi hR tl HW2 c44) (List.forall_mem_cons.mpr ⟨rfl, List.forall_mem_cons.mpr ⟨rfl, List.forall_mem_cons.mpr ⟨rfl, List.forall_mem_cons.mpr ⟨rfl, List.forall_mem_cons.mpr ⟨rfl, List.forall_mem_cons.mpr ⟨rfl, fun _ h => absurd h List.not_mem_nil⟩⟩⟩⟩⟩⟩) rfl rfl rfl
    · refine gi_tableIn (off := 314) (tgt := 358) C (dm_Mo_step 30 rfl) (by decide) (by decide) rfl (by decide) ?_
      rw [nI_eqP (by omega) (by decide)] at c44
      exact gi_close (rsp_4 C hr B hmd hm hi hR tl HW2 c44) (List.forall_mem_cons.mpr ⟨rfl, List.forall_mem_cons.mpr ⟨rfl, List.forall_mem_cons.mpr ⟨rfl, List.forall_mem_cons.mpr ⟨rfl, List.forall_mem_cons.mpr ⟨rfl, List.forall_mem_cons.mpr ⟨rfl, fun _ h => absurd h List.not_mem_nil⟩⟩⟩⟩⟩⟩) rfl rfl rfl
    · refine gi_tableIn (off := 333) (tgt := 377) C (dm_Mo_step 30 rfl) (by decide) (by decide) rfl (by decide) ?_
      rw [nI_eqP (by omega) (by decide)] at c44
      exact gi_close (rsp_5 C hr B hmd hm hi hR tl HW2 c44) (List.forall_mem_cons.mpr ⟨rfl, List.forall_mem_cons.mpr ⟨rfl, List.forall_mem_cons.mpr ⟨rfl, List.forall_mem_cons.mpr ⟨rfl, List.forall_mem_cons.mpr ⟨rfl, List.forall_mem_cons.mpr ⟨rfl, fun _ h => absurd h List.not_mem_nil⟩⟩⟩⟩⟩⟩) rfl rfl rfl
    · refine gi_tableIn (off := 366) (tgt := 410) C (dm_Mo_step 30 rfl) (by decide) (by decide) rfl (by decide) ?_
      rw [nI_eqP (by omega) (by decide)] at c44
      exact gi_close (rsp_6 C hr B hmd hm hi hR tl HW2 c44) (List.forall_mem_cons.mpr ⟨rfl, List.forall_mem_cons.mpr ⟨rfl, List.forall_mem_cons.mpr ⟨rfl, List.forall_mem_cons.mpr ⟨rfl, List.forall_mem_cons.mpr ⟨rfl, List.forall_mem_cons.mpr ⟨rfl, fun _ h => absurd h List.not_mem_nil⟩⟩⟩⟩⟩⟩) rfl rfl rfl
    · refine gi_tableIn (off := 569) (tgt := 613) C (dm_Mo_step 30 rfl) (by decide) (by decide) rfl (by decide) ?_
      rw [nI_eqP (by omega) (by decide)] at c44
      first
        | exact gi_close (rsp_18 C hr B hmd hm hi hR tl HW2 c44) (List.forall_mem_cons.mpr ⟨rfl, List.forall_mem_cons.mpr ⟨rfl, List.forall_mem_cons.mpr ⟨rfl, List.forall_mem_cons.mpr ⟨rfl, List.forall_mem_cons.mpr ⟨rfl, List.forall_mem_cons.mpr ⟨rfl, fun _ h => absurd h List.not_mem_nil⟩⟩⟩⟩⟩⟩) rfl rfl rfl
        | exact gi_close (rsp_10 C hr B hmd hm hi hR tl HW2 (Or.inl c44)) (List.forall_mem_cons.mpr ⟨rfl, List.forall_mem_cons.mpr ⟨rfl, List.forall_mem_cons.mpr ⟨rfl, List.forall_mem_cons.mpr ⟨rfl, List.forall_mem_cons.mpr ⟨rfl, List.forall_mem_cons.mpr ⟨rfl, fun _ h => absurd h List.not_mem_nil⟩⟩⟩⟩⟩⟩) rfl rfl rfl
        | exact gi_close (rsp_10 C hr B hmd hm hi hR tl HW2 (Or.inr c44)) (List.forall_mem_cons.mpr ⟨rfl, List.forall_mem_cons.mpr ⟨rfl, List.forall_mem_cons.mpr ⟨rfl, List.forall_mem_cons.mpr ⟨rfl, List.forall_mem_cons.mpr ⟨rfl, List.forall_mem_cons.mpr ⟨rfl, fun _ h => absurd h List.not_mem_nil⟩⟩⟩⟩⟩⟩) rfl rfl rfl
        | exact gi_close (rsp_17 C hr B hmd hm hi hR tl HW2 ⟨by omega, by omega, by omega, by omega⟩) (List.forall_mem_cons.mpr ⟨rfl, List.forall_mem_cons.mpr ⟨rfl, List.forall_mem_cons.mpr ⟨rfl, List.forall_mem_cons.mpr ⟨rfl, List.forall_mem_cons.mpr ⟨rfl, List.forall_mem_cons.mpr ⟨rfl, fun _ h => absurd h List.not_mem_nil⟩⟩⟩⟩⟩⟩) rfl rfl rfl
        | exact gi_close (rsp_20 C hr B hmd hm hi hR tl HW2 ⟨by omega, by omega⟩) (List.forall_mem_cons.mpr ⟨rfl, List.forall_mem_cons.mpr ⟨rfl, List.forall_mem_cons.mpr ⟨rfl, List.forall_mem_cons.mpr ⟨rfl, List.forall_mem_cons.mpr ⟨rfl, List.forall_mem_cons.mpr ⟨rfl, fun _ h => absurd h List.not_mem_nil⟩⟩⟩⟩⟩⟩) rfl rfl rfl
    · refine gi_tableIn (off := 569) (tgt := 613) C (dm_Mo_step 30 rfl) (by decide) (by decide) rfl (by decide) ?_
      rw [nI_eqP (by omega) (by decide)] at c44
      first
        | exact gi_close (rsp_18 C hr B hmd hm hi hR tl HW2 c44) (List.forall_mem_cons.mpr ⟨rfl, List.forall_mem_cons.mpr ⟨rfl, List.forall_mem_cons.mpr ⟨rfl, List.forall_mem_cons.mpr ⟨rfl, List.forall_mem_cons.mpr ⟨rfl, List.forall_mem_cons.mpr ⟨rfl, fun _ h => absurd h List.not_mem_nil⟩⟩⟩⟩⟩⟩) rfl rfl rfl
        | exact gi_close (rsp_10 C hr B hmd hm hi hR tl HW2 (Or.inl c44)) (List.forall_mem_cons.mpr ⟨rfl, List.forall_mem_cons.mpr ⟨rfl, List.forall_mem_cons.mpr ⟨rfl, List.forall_mem_cons.mpr ⟨rfl, List.forall_mem_cons.mpr ⟨rfl, List.forall_mem_cons.mpr ⟨rfl, fun _ h => absurd h List.not_mem_nil⟩⟩⟩⟩⟩⟩) rfl rfl rfl
        | exact gi_close (rsp_10 C hr B hmd hm hi hR tl HW2 (Or.inr c44)) (List.forall_mem_cons.mpr ⟨rfl, List.forall_mem_cons.mpr ⟨rfl, List.forall_mem_cons.mpr ⟨rfl, List.forall_mem_cons.mpr ⟨rfl, List.forall_mem_cons.mpr ⟨rfl, List.forall_mem_cons.mpr ⟨rfl, fun _ h => absurd h List.not_mem_nil⟩⟩⟩⟩⟩⟩) rfl rfl rfl
        | exact gi_close (rsp_17 C hr B hmd hm hi hR tl HW2 ⟨by omega, by omega, by omega, by omega⟩) (List.forall_mem_cons.mpr ⟨rfl, List.forall_mem_cons.mpr ⟨rfl, List.forall_mem_cons.mpr ⟨rfl, List.forall_mem_cons.mpr ⟨rfl, List.forall_mem_cons.mpr ⟨rfl, List.forall_mem_cons.mpr ⟨rfl, fun _ h => absurd h List.not_mem_nil⟩⟩⟩⟩⟩⟩) rfl rfl rfl
        | exact gi_close (rsp_20 C hr B hmd hm hi hR tl HW2 ⟨by omega, by omega⟩) (List.forall_mem_cons.mpr ⟨rfl, List.forall_mem_cons.mpr ⟨rfl, List.forall_mem_cons.mpr ⟨rfl, List.forall_mem_cons.mpr ⟨rfl, List.forall_mem_cons.mpr ⟨rfl, List.forall_mem_cons.mpr ⟨rfl, fun _ h => absurd h List.not_mem_nil⟩⟩⟩⟩⟩⟩) rfl rfl rfl
    · refine gi_tableIn (off := 569) (tgt := 613) C (dm_Mo_step 30 rfl) (by decide) (by decide) rfl (by decide) ?_
      rw [nI_eqP (by omega) (by decide)] at c44
      first
        | exact gi_close (rsp_18 C hr B hmd hm hi hR tl HW2 c44) (List.forall_mem_cons.mpr ⟨rfl, List.forall_mem_cons.mpr ⟨rfl, List.forall_mem_cons.mpr ⟨rfl, List.forall_mem_cons.mpr ⟨rfl, List.forall_mem_cons.mpr ⟨rfl, List.forall_mem_cons.mpr ⟨rfl, fun _ h => absurd h List.not_mem_nil⟩⟩⟩⟩⟩⟩) rfl rfl rfl
        | exact gi_close (rsp_10 C hr B hmd hm hi hR tl HW2 (Or.inl c44)) (List.forall_mem_cons.mpr ⟨rfl, List.forall_mem_cons.mpr ⟨rfl, List.forall_mem_cons.mpr ⟨rfl, List.forall_mem_cons.mpr ⟨rfl, List.forall_mem_cons.mpr ⟨rfl, List.forall_mem_cons.mpr ⟨rfl, fun _ h => absurd h List.not_mem_nil⟩⟩⟩⟩⟩⟩) rfl rfl rfl
        | exact gi_close (rsp_10 C hr B hmd hm hi hR tl HW2 (Or.inr c44)) (List.forall_mem_cons.mpr ⟨rfl, List.forall_mem_cons.mpr ⟨rfl, List.forall_mem_cons.mpr ⟨rfl, List.forall_mem_cons.mpr ⟨rfl, List.forall_mem_cons.mpr ⟨rfl, List.forall_mem_cons.mpr ⟨rfl, fun _ h => absurd h List.not_mem_nil⟩⟩⟩⟩⟩⟩) rfl rfl rfl
        | exact gi_close (rsp_17 C hr B hmd hm hi hR tl HW2 ⟨by omega, by omega, by omega, by omega⟩) (List.forall_mem_cons.mpr ⟨rfl, List.forall_mem_cons.mpr ⟨rfl, List.forall_mem_cons.mpr ⟨rfl, List.forall_mem_cons.mpr ⟨rfl, List.forall_mem_cons.mpr ⟨rfl, List.forall_mem_cons.mpr ⟨rfl, fun _ h => absurd h List.not_mem_nil⟩⟩⟩⟩⟩⟩) rfl rfl rfl
        | exact gi_close (rsp_20 C hr B hmd hm hi hR tl HW2 ⟨by omega, by omega⟩) (List.forall_mem_cons.mpr ⟨rfl, List.forall_mem_cons.mpr ⟨rfl, List.forall_mem_cons.mpr ⟨rfl, List.forall_mem_cons.mpr ⟨rfl, List.forall_mem_cons.mpr ⟨rfl, List.forall_mem_cons.mpr ⟨rfl, fun _ h => absurd h List.not_mem_nil⟩⟩⟩⟩⟩⟩) rfl rfl rfl
    · refine gi_tableIn (off := 569) (tgt := 613) C (dm_Mo_step 30 rfl) (by decide) (by decide) rfl (by decide) ?_
      rw [nI_eqP (by omega) (by decide)] at c44
      first
        | exact gi_close (rsp_18 C hr B hmd hm hi hR tl HW2 c44) (List.forall_mem_cons.mpr ⟨rfl, List.forall_mem_cons.mpr ⟨rfl, List.forall_mem_cons.mpr ⟨rfl, List.forall_mem_cons.mpr ⟨rfl, List.forall_mem_cons.mpr ⟨rfl, List.forall_mem_cons.mpr ⟨rfl, fun _ h => absurd h List.not_mem_nil⟩⟩⟩⟩⟩⟩) rfl rfl rfl
        | exact gi_close (rsp_10 C hr B hmd hm hi hR tl HW2 (Or.inl c44)) (List.forall_mem_cons.mpr ⟨rfl, List.forall_mem_cons.mpr ⟨rfl, List.forall_mem_cons.mpr ⟨rfl, List.forall_mem_cons.mpr ⟨rfl, List.forall_mem_cons.mpr ⟨rfl, List.forall_mem_cons.mpr ⟨rfl, fun _ h => absurd h List.not_mem_nil⟩⟩⟩⟩⟩⟩) rfl rfl rfl
        | exact gi_close (rsp_10 C hr B hmd hm hi hR tl HW2 (Or.inr c44)) (List.forall_mem_cons.mpr ⟨rfl, List.forall_mem_cons.mpr ⟨rfl, List.forall_mem_cons.mpr ⟨rfl, List.forall_mem_cons.mpr ⟨rfl, List.forall_mem_cons.mpr ⟨rfl, List.forall_mem_cons.mpr ⟨rfl, fun _ h => absurd h List.not_mem_nil⟩⟩⟩⟩⟩⟩) rfl rfl rfl
        | exact gi_close (rsp_17 C hr B hmd hm hi hR tl HW2 ⟨by omega, by omega, by omega, by omega⟩) (List.forall_mem_cons.mpr ⟨rfl, List.forall_mem_cons.mpr ⟨rfl, List.forall_mem_cons.mpr ⟨rfl, List.forall_mem_cons.mpr ⟨rfl, List.forall_mem_cons.mpr ⟨rfl, List.forall_mem_cons.mpr ⟨rfl, fun _ h => absurd h List.not_mem_nil⟩⟩⟩⟩⟩⟩) rfl rfl rfl
        | exact gi_close (rsp_20 C hr B hmd hm hi hR tl HW2 ⟨by omega, by omega⟩) (List.forall_mem_cons.mpr ⟨rfl, List.forall_mem_cons.mpr ⟨rfl, List.forall_mem_cons.mpr ⟨rfl, List.forall_mem_cons.mpr ⟨rfl, List.forall_mem_cons.mpr ⟨rfl, List.forall_mem_cons.mpr ⟨rfl, fun _ h => absurd h List.not_mem_nil⟩⟩⟩⟩⟩⟩) rfl rfl rfl
    · refine gi_tableIn (off := 569) (tgt := 613) C (dm_Mo_step 30 rfl) (by decide) (by decide) rfl (by decide) ?_
      rw [nI_eqP (by omega) (by decide)] at c44
      first
        | exact gi_close (rsp_18 C hr B hmd hm hi hR tl HW2 c44) (List.forall_mem_cons.mpr ⟨rfl, List.forall_mem_cons.mpr ⟨rfl, List.forall_mem_cons.mpr ⟨rfl, List.forall_mem_cons.mpr ⟨rfl, List.forall_mem_cons.mpr ⟨rfl, List.forall_mem_cons.mpr ⟨rfl, fun _ h => absurd h List.not_mem_nil⟩⟩⟩⟩⟩⟩) rfl rfl rfl
        | exact gi_close (rsp_10 C hr B hmd hm hi hR tl HW2 (Or.inl c44)) (List.forall_mem_cons.mpr ⟨rfl, List.forall_mem_cons.mpr ⟨rfl, List.forall_mem_cons.mpr ⟨rfl, List.forall_mem_cons.mpr ⟨rfl, List.forall_mem_cons.mpr ⟨rfl, List.forall_mem_cons.mpr ⟨rfl, fun _ h => absurd h List.not_mem_nil⟩⟩⟩⟩⟩⟩) rfl rfl rfl
        | exact gi_close (rsp_10 C hr B hmd hm hi hR tl HW2 (Or.inr c44)) (List.forall_mem_cons.mpr ⟨rfl, List.forall_mem_cons.mpr ⟨rfl, List.forall_mem_cons.mpr ⟨rfl, List.forall_mem_cons.mpr ⟨rfl, List.forall_mem_cons.mpr ⟨rfl, List.forall_mem_cons.mpr ⟨rfl, fun _ h => absurd h List.not_mem_nil⟩⟩⟩⟩⟩⟩) rfl rfl rfl
        | exact gi_close (rsp_17 C hr B hmd hm hi hR tl HW2 ⟨by omega, by omega, by omega, by omega⟩) (List.forall_mem_cons.mpr ⟨rfl, List.forall_mem_cons.mpr ⟨rfl, List.forall_mem_cons.mpr ⟨rfl, List.forall_mem_cons.mpr ⟨rfl, List.forall_mem_cons.mpr ⟨rfl, List.forall_mem_cons.mpr ⟨rfl, fun _ h => absurd h List.not_mem_nil⟩⟩⟩⟩⟩⟩) rfl rfl rfl
        | exact gi_close (rsp_20 C hr B hmd hm hi hR tl HW2 ⟨by omega, by omega⟩) (List.forall_mem_cons.mpr ⟨rfl, List.forall_mem_cons.mpr ⟨rfl, List.forall_mem_cons.mpr ⟨rfl, List.forall_mem_cons.mpr ⟨rfl, List.forall_mem_cons.mpr ⟨rfl, List.forall_mem_cons.mpr ⟨rfl, fun _ h => absurd h List.not_mem_nil⟩⟩⟩⟩⟩⟩) rfl rfl rfl
    · refine gi_tableIn (off := 569) (tgt := 613) C (dm_Mo_step 30 rfl) (by decide) (by decide) rfl (by decide) ?_
      rw [nI_eqP (by omega) (by decide)] at c44
      first
        | exact gi_close (rsp_18 C hr B hmd hm hi hR tl HW2 c44) (List.forall_mem_cons.mpr ⟨rfl, List.forall_mem_cons.mpr ⟨rfl, List.forall_mem_cons.mpr ⟨rfl, List.forall_mem_cons.mpr ⟨rfl, List.forall_mem_cons.mpr ⟨rfl, List.forall_mem_cons.mpr ⟨rfl, fun _ h => absurd h List.not_mem_nil⟩⟩⟩⟩⟩⟩) rfl rfl rfl
        | exact gi_close (rsp_10 C hr B hmd hm hi hR tl HW2 (Or.inl c44)) (List.forall_mem_cons.mpr ⟨rfl, List.forall_mem_cons.mpr ⟨rfl, List.forall_mem_cons.mpr ⟨rfl, List.forall_mem_cons.mpr ⟨rfl, List.forall_mem_cons.mpr ⟨rfl, List.forall_mem_cons.mpr ⟨rfl, fun _ h => absurd h List.not_mem_nil⟩⟩⟩⟩⟩⟩) rfl rfl rfl
        | exact gi_close (rsp_10 C hr B hmd hm hi hR tl HW2 (Or.inr c44)) (List.forall_mem_cons.mpr ⟨rfl, List.forall_mem_cons.mpr ⟨rfl, List.forall_mem_cons.mpr ⟨rfl, List.forall_mem_cons.mpr ⟨rfl, List.forall_mem_cons.mpr ⟨rfl, List.forall_mem_cons.mpr ⟨rfl, fun _ h => absurd h List.not_mem_nil⟩⟩⟩⟩⟩⟩) rfl rfl rfl
        | exact gi_close (rsp_17 C hr B hmd hm hi hR tl HW2 ⟨by omega, by omega, by omega, by omega⟩) (List.forall_mem_cons.mpr ⟨rfl, List.forall_mem_cons.mpr ⟨rfl, List.forall_mem_cons.mpr ⟨rfl, List.forall_mem_cons.mpr ⟨rfl, List.forall_mem_cons.mpr ⟨rfl, List.forall_mem_cons.mpr ⟨rfl, fun _ h => absurd h List.not_mem_nil⟩⟩⟩⟩⟩⟩) rfl rfl rfl
        | exact gi_close (rsp_20 C hr B hmd hm hi hR tl HW2 ⟨by omega, by omega⟩) (List.forall_mem_cons.mpr ⟨rfl, List.forall_mem_cons.mpr ⟨rfl, List.forall_mem_cons.mpr ⟨rfl, List.forall_mem_cons.mpr ⟨rfl, List.forall_mem_cons.mpr ⟨rfl, List.forall_mem_cons.mpr ⟨rfl, fun _ h => absurd h List.not_mem_nil⟩⟩⟩⟩⟩⟩) rfl rfl rfl
    · refine gi_tableIn (off := 569) (tgt := 613) C (dm_Mo_step 30 rfl) (by decide) (by decide) rfl (by decide) ?_
      rw [nI_eqP (by omega) (by decide)] at c44
      first
        | exact gi_close (rsp_18 C hr B hmd hm hi hR tl HW2 c44) (List.forall_mem_cons.mpr ⟨rfl, List.forall_mem_cons.mpr ⟨rfl, List.forall_mem_cons.mpr ⟨rfl, List.forall_mem_cons.mpr ⟨rfl, List.forall_mem_cons.mpr ⟨rfl, List.forall_mem_cons.mpr ⟨rfl, fun _ h => absurd h List.not_mem_nil⟩⟩⟩⟩⟩⟩) rfl rfl rfl
        | exact gi_close (rsp_10 C hr B hmd hm hi hR tl HW2 (Or.inl c44)) (List.forall_mem_cons.mpr ⟨rfl, List.forall_mem_cons.mpr ⟨rfl, List.forall_mem_cons.mpr ⟨rfl, List.forall_mem_cons.mpr ⟨rfl, List.forall_mem_cons.mpr ⟨rfl, List.forall_mem_cons.mpr ⟨rfl, fun _ h => absurd h List.not_mem_nil⟩⟩⟩⟩⟩⟩) rfl rfl rfl
        | exact gi_close (rsp_10 C hr B hmd hm hi hR tl HW2 (Or.inr c44)) (List.forall_mem_cons.mpr ⟨rfl, List.forall_mem_cons.mpr ⟨rfl, List.forall_mem_cons.mpr ⟨rfl, List.forall_mem_cons.mpr ⟨rfl, List.forall_mem_cons.mpr ⟨rfl, List.forall_mem_cons.mpr ⟨rfl, fun _ h => absurd h List.not_mem_nil⟩⟩⟩⟩⟩⟩) rfl rfl rfl
        | exact gi_close (rsp_17 C hr B hmd hm hi hR tl HW2 ⟨by omega, by omega, by omega, by omega⟩) (List.forall_mem_cons.mpr ⟨rfl, List.forall_mem_cons.mpr ⟨rfl, List.forall_mem_cons.mpr ⟨rfl, List.forall_mem_cons.mpr ⟨rfl, List.forall_mem_cons.mpr ⟨rfl, List.forall_mem_cons.mpr ⟨rfl, fun _ h => absurd h List.not_mem_nil⟩⟩⟩⟩⟩⟩) rfl rfl rfl
        | exact gi_close (rsp_20 C hr B hmd hm hi hR tl HW2 ⟨by omega, by omega⟩) (List.forall_mem_cons.mpr ⟨rfl, List.forall_mem_cons.mpr ⟨rfl, List.forall_mem_cons.mpr ⟨rfl, List.forall_mem_cons.mpr ⟨rfl, List.forall_mem_cons.mpr ⟨rfl, List.forall_mem_cons.mpr ⟨rfl, fun _ h => absurd h List.not_mem_nil⟩⟩⟩⟩⟩⟩) rfl rfl rfl
    · refine gi_tableIn (off := 569) (tgt := 613) C (dm_Mo_step 30 rfl) (by decide) (by decide) rfl (by decide) ?_
      rw [nI_eqP (by omega) (by decide)] at c44
      first
        | exact gi_close (rsp_18 C hr B hmd hm hi hR tl HW2 c44) (List.forall_mem_cons.mpr ⟨rfl, List.forall_mem_cons.mpr ⟨rfl, List.forall_mem_cons.mpr ⟨rfl, List.forall_mem_cons.mpr ⟨rfl, List.forall_mem_cons.mpr ⟨rfl, List.forall_mem_cons.mpr ⟨rfl, fun _ h => absurd h List.not_mem_nil⟩⟩⟩⟩⟩⟩) rfl rfl rfl
        | exact gi_close (rsp_10 C hr B hmd hm hi hR tl HW2 (Or.inl c44)) (List.forall_mem_cons.mpr ⟨rfl, List.forall_mem_cons.mpr ⟨rfl, List.forall_mem_cons.mpr ⟨rfl, List.forall_mem_cons.mpr ⟨rfl, List.forall_mem_cons.mpr ⟨rfl, List.forall_mem_cons.mpr ⟨rfl, fun _ h => absurd h List.not_mem_nil⟩⟩⟩⟩⟩⟩) rfl rfl rfl
        | exact gi_close (rsp_10 C hr B hmd hm hi hR tl HW2 (Or.inr c44)) (List.forall_mem_cons.mpr ⟨rfl, List.forall_mem_cons.mpr ⟨rfl, List.forall_mem_cons.mpr ⟨rfl, List.forall_mem_cons.mpr ⟨rfl, List.forall_mem_cons.mpr ⟨rfl, List.forall_mem_cons.mpr ⟨rfl, fun _ h => absurd h List.not_mem_nil⟩⟩⟩⟩⟩⟩) rfl rfl rfl
        | exact gi_close (rsp_17 C hr B hmd hm hi hR tl HW2 ⟨by omega, by omega, by omega, by omega⟩) (List.forall_mem_cons.mpr ⟨rfl, List.forall_mem_cons.mpr ⟨rfl, List.forall_mem_cons.mpr ⟨rfl, List.forall_mem_cons.mpr ⟨rfl, List.forall_mem_cons.mpr ⟨rfl, List.forall_mem_cons.mpr ⟨rfl, fun _ h => absurd h List.not_mem_nil⟩⟩⟩⟩⟩⟩) rfl rfl rfl
        | exact gi_close (rsp_20 C hr B hmd hm hi hR tl HW2 ⟨by omega, by omega⟩) (List.forall_mem_cons.mpr ⟨rfl, List.forall_mem_cons.mpr ⟨rfl, List.forall_mem_cons.mpr ⟨rfl, List.forall_mem_cons.mpr ⟨rfl, List.forall_mem_cons.mpr ⟨rfl, List.forall_mem_cons.mpr ⟨rfl, fun _ h => absurd h List.not_mem_nil⟩⟩⟩⟩⟩⟩) rfl rfl rfl
    · refine gi_tableIn (off := 569) (tgt := 613) C (dm_Mo_step 30 rfl) (by decide) (by decide) rfl (by decide) ?_
      rw [nI_eqP (by omega) (by decide)] at c44
      first
        | exact gi_close (rsp_18 C hr B hmd hm hi hR tl HW2 c44) (List.forall_mem_cons.mpr ⟨rfl, List.forall_mem_cons.mpr ⟨rfl, List.forall_mem_cons.mpr ⟨rfl, List.forall_mem_cons.mpr ⟨rfl, List.forall_mem_cons.mpr ⟨rfl, List.forall_mem_cons.mpr ⟨rfl, fun _ h => absurd h List.not_mem_nil⟩⟩⟩⟩⟩⟩) rfl rfl rfl
        | exact gi_close (rsp_10 C hr B hmd hm hi hR tl HW2 (Or.inl c44)) (List.forall_mem_cons.mpr ⟨rfl, List.forall_mem_cons.mpr ⟨rfl, List.forall_mem_cons.mpr ⟨rfl, List.forall_mem_cons.mpr ⟨rfl, List.forall_mem_cons.mpr ⟨rfl, List.forall_mem_cons.mpr ⟨rfl, fun _ h => absurd h List.not_mem_nil⟩⟩⟩⟩⟩⟩) rfl rfl rfl
        | exact gi_close (rsp_10 C hr B hmd hm hi hR tl HW2 (Or.inr c44)) (List.forall_mem_cons.mpr ⟨rfl, List.forall_mem_cons.mpr ⟨rfl, List.forall_mem_cons.mpr ⟨rfl, List.forall_mem_cons.mpr ⟨rfl, List.forall_mem_cons.mpr ⟨rfl, List.forall_mem_cons.mpr ⟨rfl, fun _ h => absurd h List.not_mem_nil⟩⟩⟩⟩⟩⟩) rfl rfl rfl
        | exact gi_close (rsp_17 C hr B hmd hm hi hR tl HW2 ⟨by omega, by omega, by omega, by omega⟩) (List.forall_mem_cons.mpr ⟨rfl, List.forall_mem_cons.mpr ⟨rfl, List.forall_mem_cons.mpr ⟨rfl, List.forall_mem_cons.mpr ⟨rfl, List.forall_mem_cons.mpr ⟨rfl, List.forall_mem_cons.mpr ⟨rfl, fun _ h => absurd h List.not_mem_nil⟩⟩⟩⟩⟩⟩) rfl rfl rfl
        | exact gi_close (rsp_20 C hr B hmd hm hi hR tl HW2 ⟨by omega, by omega⟩) (List.forall_mem_cons.mpr ⟨rfl, List.forall_mem_cons.mpr ⟨rfl, List.forall_mem_cons.mpr ⟨rfl, List.forall_mem_cons.mpr ⟨rfl, List.forall_mem_cons.mpr ⟨rfl, List.forall_mem_cons.mpr ⟨rfl, fun _ h => absurd h List.not_mem_nil⟩⟩⟩⟩⟩⟩) rfl rfl rfl
    · refine gi_tableIn (off := 569) (tgt := 613) C (dm_Mo_step 30 rfl) (by decide) (by decide) rfl (by decide) ?_
      rw [nI_eqP (by omega) (by decide)] at c44
      first
        | exact gi_close (rsp_18 C hr B hmd hm hi hR tl HW2 c44) (List.forall_mem_cons.mpr ⟨rfl, List.forall_mem_cons.mpr ⟨rfl, List.forall_mem_cons.mpr ⟨rfl, List.forall_mem_cons.mpr ⟨rfl, List.forall_mem_cons.mpr ⟨rfl, List.forall_mem_cons.mpr ⟨rfl, fun _ h => absurd h List.not_mem_nil⟩⟩⟩⟩⟩⟩) rfl rfl rfl
        | exact gi_close (rsp_10 C hr B hmd hm hi hR tl HW2 (Or.inl c44)) (List.forall_mem_cons.mpr ⟨rfl, List.forall_mem_cons.mpr ⟨rfl, List.forall_mem_cons.mpr ⟨rfl, List.forall_mem_cons.mpr ⟨rfl, List.forall_mem_cons.mpr ⟨rfl, List.forall_mem_cons.mpr ⟨rfl, fun _ h => absurd h List.not_mem_nil⟩⟩⟩⟩⟩⟩) rfl rfl rfl
        | exact gi_close (rsp_10 C hr B hmd hm hi hR tl HW2 (Or.inr c44)) (List.forall_mem_cons.mpr ⟨rfl, List.forall_mem_cons.mpr ⟨rfl, List.forall_mem_cons.mpr ⟨rfl, List.forall_mem_cons.mpr ⟨rfl, List.forall_mem_cons.mpr ⟨rfl, List.forall_mem_cons.mpr ⟨rfl, fun _ h => absurd h List.not_mem_nil⟩⟩⟩⟩⟩⟩) rfl rfl rfl
        | exact gi_close (rsp_17 C hr B hmd hm hi hR tl HW2 ⟨by omega, by omega, by omega, by omega⟩) (List.forall_mem_cons.mpr ⟨rfl, List.forall_mem_cons.mpr ⟨rfl, List.forall_mem_cons.mpr ⟨rfl, List.forall_mem_cons.mpr ⟨rfl, List.forall_mem_cons.mpr ⟨rfl, List.forall_mem_cons.mpr ⟨rfl, fun _ h => absurd h List.not_mem_nil⟩⟩⟩⟩⟩⟩) rfl rfl rfl
        | exact gi_close (rsp_20 C hr B hmd hm hi hR tl HW2 ⟨by omega, by omega⟩) (List.forall_mem_cons.mpr ⟨rfl, List.forall_mem_cons.mpr ⟨rfl, List.forall_mem_cons.mpr ⟨rfl, List.forall_mem_cons.mpr ⟨rfl, List.forall_mem_cons.mpr ⟨rfl, List.forall_mem_cons.mpr ⟨rfl, fun _ h => absurd h List.not_mem_nil⟩⟩⟩⟩⟩⟩) rfl rfl rfl
    · refine gi_tableIn (off := 569) (tgt := 613) C (dm_Mo_step 30 rfl) (by decide) (by decide) rfl (by decide) ?_
      rw [nI_eqP (by omega) (by decide)] at c44
      first
        | exact gi_close (rsp_18 C hr B hmd hm hi hR tl HW2 c44) (List.forall_mem_cons.mpr ⟨rfl, List.forall_mem_cons.mpr ⟨rfl, List.forall_mem_cons.mpr ⟨rfl, List.forall_mem_cons.mpr ⟨rfl, List.forall_mem_cons.mpr ⟨rfl, List.forall_mem_cons.mpr ⟨rfl, fun _ h => absurd h List.not_mem_nil⟩⟩⟩⟩⟩⟩) rfl rfl rfl
        | exact gi_close (rsp_10 C hr B hmd hm hi hR tl HW2 (Or.inl c44)) (List.forall_mem_cons.mpr ⟨rfl, List.forall_mem_cons.mpr ⟨rfl, List.forall_mem_cons.mpr ⟨rfl, List.forall_mem_cons.mpr ⟨rfl, List.forall_mem_cons.mpr ⟨rfl, List.forall_mem_cons.mpr ⟨rfl, fun _ h => absurd h List.not_mem_nil⟩⟩⟩⟩⟩⟩) rfl rfl rfl
        | exact gi_close (rsp_10 C hr B hmd hm hi hR tl HW2 (Or.inr c44)) (List.forall_mem_cons.mpr ⟨rfl, List.forall_mem_cons.mpr ⟨rfl, List.forall_mem_cons.mpr ⟨rfl, List.forall_mem_cons.mpr ⟨rfl, List.forall_mem_cons.mpr ⟨rfl, List.forall_mem_cons.mpr ⟨rfl, fun _ h => absurd h List.not_mem_nil⟩⟩⟩⟩⟩⟩) rfl rfl rfl
        | exact gi_close (rsp_17 C hr B hmd hm hi hR tl HW2 ⟨by omega, by omega, by omega, by omega⟩) (List.forall_mem_cons.mpr ⟨rfl, List.forall_mem_cons.mpr ⟨rfl, List.forall_mem_cons.mpr ⟨rfl, List.forall_mem_cons.mpr ⟨rfl, List.forall_mem_cons.mpr ⟨rfl, List.forall_mem_cons.mpr ⟨rfl, fun _ h => absurd h List.not_mem_nil⟩⟩⟩⟩⟩⟩) rfl rfl rfl
        | exact gi_close (rsp_20 C hr B hmd hm hi hR tl HW2 ⟨by omega, by omega⟩) (List.forall_mem_cons.mpr ⟨rfl, List.forall_mem_cons.mpr ⟨rfl, List.forall_mem_cons.mpr ⟨rfl, List.forall_mem_cons.mpr ⟨rfl, List.forall_mem_cons.mpr ⟨rfl, List.forall_mem_cons.mpr ⟨rfl, fun _ h => absurd h List.not_mem_nil⟩⟩⟩⟩⟩⟩) rfl rfl rfl
    · refine gi_tableIn (off := 569) (tgt := 613) C (dm_Mo_step 30 rfl) (by decide) (by decide) rfl (by decide) ?_
      rw [nI_eqP (by omega) (by decide)] at c44
      first
        | exact gi_close (rsp_18 C hr B hmd hm hi hR tl HW2 c44) (List.forall_mem_cons.mpr ⟨rfl, List.forall_mem_cons.mpr ⟨rfl, List.forall_mem_cons.mpr ⟨rfl, List.forall_mem_cons.mpr ⟨rfl, List.forall_mem_cons.mpr ⟨rfl, List.forall_mem_cons.mpr ⟨rfl, fun _ h => absurd h List.not_mem_nil⟩⟩⟩⟩⟩⟩) rfl rfl rfl
        | exact gi_close (rsp_10 C hr B hmd hm hi hR tl HW2 (Or.inl c44)) (List.forall_mem_cons.mpr ⟨rfl, List.forall_mem_cons.mpr ⟨rfl, List.forall_mem_cons.mpr ⟨rfl, List.forall_mem_cons.mpr ⟨rfl, List.forall_mem_cons.mpr ⟨rfl, List.forall_mem_cons.mpr ⟨rfl, fun _ h => absurd h List.not_mem_nil⟩⟩⟩⟩⟩⟩) rfl rfl rfl
        | exact gi_close (rsp_10 C hr B hmd hm hi hR tl HW2 (Or.inr c44)) (List.forall_mem_cons.mpr ⟨rfl, List.forall_mem_cons.mpr ⟨rfl, List.forall_mem_cons.mpr ⟨rfl, List.forall_mem_cons.mpr ⟨rfl, List.forall_mem_cons.mpr ⟨rfl, List.forall_mem_cons.mpr ⟨rfl, fun _ h => absurd h List.not_mem_nil⟩⟩⟩⟩⟩⟩) rfl rfl rfl
        | exact gi_close (rsp_17 C hr B hmd hm hi hR tl HW2 ⟨by omega, by omega, by omega, by omega⟩) (List.forall_mem_cons.mpr ⟨rfl, List.forall_mem_cons.mpr ⟨rfl, List.forall_mem_cons.mpr ⟨rfl, List.forall_mem_cons.mpr ⟨rfl, List.forall_mem_cons.mpr ⟨rfl, List.forall_mem_cons.mpr ⟨rfl, fun _ h => absurd h List.not_mem_nil⟩⟩⟩⟩⟩⟩) rfl rfl rfl
        | exact gi_close (rsp_20 C hr B hmd hm hi hR tl HW2 ⟨by omega, by omega⟩) (List.forall_mem_cons.mpr ⟨rfl, List.forall_mem_cons.mpr ⟨rfl, List.forall_mem_cons.mpr ⟨rfl, List.forall_mem_cons.mpr ⟨rfl, List.forall_mem_cons.mpr ⟨rfl, List.forall_mem_cons.mpr ⟨rfl, fun _ h => absurd h List.not_mem_nil⟩⟩⟩⟩⟩⟩) rfl rfl rfl
    · refine gi_tableIn (off := 379) (tgt := 423) C (dm_Mo_step 30 rfl) (by decide) (by decide) rfl (by decide) ?_
      rw [nI_eqP (by omega) (by decide)] at c44
      exact gi_close (rsp_19 C hr B hmd hm hi hR tl HW2 c44) (List.forall_mem_cons.mpr ⟨rfl, List.forall_mem_cons.mpr ⟨rfl, List.forall_mem_cons.mpr ⟨rfl, List.forall_mem_cons.mpr ⟨rfl, List.forall_mem_cons.mpr ⟨rfl, List.forall_mem_cons.mpr ⟨rfl, fun _ h => absurd h List.not_mem_nil⟩⟩⟩⟩⟩⟩) rfl rfl rfl
    · refine gi_tableIn (off := 569) (tgt := 613) C (dm_Mo_step 30 rfl) (by decide) (by decide) rfl (by decide) ?_
      rw [nI_eqP (by omega) (by decide)] at c44
      first
        | exact gi_close (rsp_18 C hr B hmd hm hi hR tl HW2 c44) (List.forall_mem_cons.mpr ⟨rfl, List.forall_mem_cons.mpr ⟨rfl, List.forall_mem_cons.mpr ⟨rfl, List.forall_mem_cons.mpr ⟨rfl, List.forall_mem_cons.mpr ⟨rfl, List.forall_mem_cons.mpr ⟨rfl, fun _ h => absurd h List.not_mem_nil⟩⟩⟩⟩⟩⟩) rfl rfl rfl
        | exact gi_close (rsp_10 C hr B hmd hm hi hR tl HW2 (Or.inl c44)) (List.forall_mem_cons.mpr ⟨rfl, List.forall_mem_cons.mpr ⟨rfl, List.forall_mem_cons.mpr ⟨rfl, List.forall_mem_cons.mpr ⟨rfl, List.forall_mem_cons.mpr ⟨rfl, List.forall_mem_cons.mpr ⟨rfl, fun _ h => absurd h List.not_mem_nil⟩⟩⟩⟩⟩⟩) rfl rfl rfl
        | exact gi_close (rsp_10 C hr B hmd hm hi hR tl HW2 (Or.inr c44)) (List.forall_mem_cons.mpr ⟨rfl, List.forall_mem_cons.mpr ⟨rfl, List.forall_mem_cons.mpr ⟨rfl, List.forall_mem_cons.mpr ⟨rfl, List.forall_mem_cons.mpr ⟨rfl, List.forall_mem_cons.mpr ⟨rfl, fun _ h => absurd h List.not_mem_nil⟩⟩⟩⟩⟩⟩) rfl rfl rfl
        | exact gi_close (rsp_17 C hr B hmd hm hi hR tl HW2 ⟨by omega, by omega, by omega, by omega⟩) (List.forall_mem_cons.mpr ⟨rfl, List.forall_mem_cons.mpr ⟨rfl, List.forall_mem_cons.mpr ⟨rfl, List.forall_mem_cons.mpr ⟨rfl, List.forall_mem_cons.mpr ⟨rfl, List.forall_mem_cons.mpr ⟨rfl, fun _ h => absurd h List.not_mem_nil⟩⟩⟩⟩⟩⟩) rfl rfl rfl
        | exact gi_close (rsp_20 C hr B hmd hm hi hR tl HW2 ⟨by omega, by omega⟩) (List.forall_mem_cons.mpr ⟨rfl, List.forall_mem_cons.mpr ⟨rfl, List.forall_mem_cons.mpr ⟨rfl, List.forall_mem_cons.mpr ⟨rfl, List.forall_mem_cons.mpr ⟨rfl, List.forall_mem_cons.mpr ⟨rfl, fun _ h => absurd h List.not_mem_nil⟩⟩⟩⟩⟩⟩) rfl rfl rfl
    · refine gi_tableIn (off := 569) (tgt := 613) C (dm_Mo_step 30 rfl) (by decide) (by decide) rfl (by decide) ?_
      rw [nI_eqP (by omega) (by decide)] at c44
      first
        | exact gi_close (rsp_18 C hr B hmd hm hi hR tl HW2 c44) (List.forall_mem_cons.mpr ⟨rfl, List.forall_mem_cons.mpr ⟨rfl, List.forall_mem_cons.mpr ⟨rfl, List.forall_mem_cons.mpr ⟨rfl, List.forall_mem_cons.mpr ⟨rfl, List.forall_mem_cons.mpr ⟨rfl, fun _ h => absurd h List.not_mem_nil⟩⟩⟩⟩⟩⟩) rfl rfl rfl
        | exact gi_close (rsp_10 C hr B hmd hm hi hR tl HW2 (Or.inl c44)) (List.forall_mem_cons.mpr ⟨rfl, List.forall_mem_cons.mpr ⟨rfl, List.forall_mem_cons.mpr ⟨rfl, List.forall_mem_cons.mpr ⟨rfl, List.forall_mem_cons.mpr ⟨rfl, List.forall_mem_cons.mpr ⟨rfl, fun _ h => absurd h List.not_mem_nil⟩⟩⟩⟩⟩⟩) rfl rfl rfl
        | exact gi_close (rsp_10 C hr B hmd hm hi hR tl HW2 (Or.inr c44)) (List.forall_mem_cons.mpr ⟨rfl, List.forall_mem_cons.mpr ⟨rfl, List.forall_mem_cons.mpr ⟨rfl, List.forall_mem_cons.mpr ⟨rfl, List.forall_mem_cons.mpr ⟨rfl, List.forall_mem_cons.mpr ⟨rfl, fun _ h => absurd h List.not_mem_nil⟩⟩⟩⟩⟩⟩) rfl rfl rfl
        | exact gi_close (rsp_17 C hr B hmd hm hi hR tl HW2 ⟨by omega, by omega, by omega, by omega⟩) (List.forall_mem_cons.mpr ⟨rfl, List.forall_mem_cons.mpr ⟨rfl, List.forall_mem_cons.mpr ⟨rfl, List.forall_mem_cons.mpr ⟨rfl, List.forall_mem_cons.mpr ⟨rfl, List.forall_mem_cons.mpr ⟨rfl, fun _ h => absurd h List.not_mem_nil⟩⟩⟩⟩⟩⟩) rfl rfl rfl
        | exact gi_close (rsp_20 C hr B hmd hm hi hR tl HW2 ⟨by omega, by omega⟩) (List.forall_mem_cons.mpr ⟨rfl, List.forall_mem_cons.mpr ⟨rfl, List.forall_mem_cons.mpr ⟨rfl, List.forall_mem_cons.mpr ⟨rfl, List.forall_mem_cons.mpr ⟨rfl, List.forall_mem_cons.mpr ⟨rfl, fun _ h => absurd h List.not_mem_nil⟩⟩⟩⟩⟩⟩) rfl rfl rfl
    · refine gi_tableIn (off := 569) (tgt := 613) C (dm_Mo_step 30 rfl) (by decide) (by decide) rfl (by decide) ?_
      rw [nI_eqP (by omega) (by decide)] at c44
      first
        | exact gi_close (rsp_18 C hr B hmd hm hi hR tl HW2 c44) (List.forall_mem_cons.mpr ⟨rfl, List.forall_mem_cons.mpr ⟨rfl, List.forall_mem_cons.mpr ⟨rfl, List.forall_mem_cons.mpr ⟨rfl, List.forall_mem_cons.mpr ⟨rfl, List.forall_mem_cons.mpr ⟨rfl, fun _ h => absurd h List.not_mem_nil⟩⟩⟩⟩⟩⟩) rfl rfl rfl
        | exact gi_close (rsp_10 C hr B hmd hm hi hR tl HW2 (Or.inl c44)) (List.forall_mem_cons.mpr ⟨rfl, List.forall_mem_cons.mpr ⟨rfl, List.forall_mem_cons.mpr ⟨rfl, List.forall_mem_cons.mpr ⟨rfl, List.forall_mem_cons.mpr ⟨rfl, List.forall_mem_cons.mpr ⟨rfl, fun _ h => absurd h List.not_mem_nil⟩⟩⟩⟩⟩⟩) rfl rfl rfl
        | exact gi_close (rsp_10 C hr B hmd hm hi hR tl HW2 (Or.inr c44)) (List.forall_mem_cons.mpr ⟨rfl, List.forall_mem_cons.mpr ⟨rfl, List.forall_mem_cons.mpr ⟨rfl, List.forall_mem_cons.mpr ⟨rfl, List.forall_mem_cons.mpr ⟨rfl, List.forall_mem_cons.mpr ⟨rfl, fun _ h => absurd h List.not_mem_nil⟩⟩⟩⟩⟩⟩) rfl rfl rfl
        | exact gi_close (rsp_17 C hr B hmd hm hi hR tl HW2 ⟨by omega, by omega, by omega, by omega⟩) (List.forall_mem_cons.mpr ⟨rfl, List.forall_mem_cons.mpr ⟨rfl, List.forall_mem_cons.mpr ⟨rfl, List.forall_mem_cons.mpr ⟨rfl, List.forall_mem_cons.mpr ⟨rfl, List.forall_mem_cons.mpr ⟨rfl, fun _ h => absurd h List.not_mem_nil⟩⟩⟩⟩⟩⟩) rfl rfl rfl
        | exact gi_close (rsp_20 C hr B hmd hm hi hR tl HW2 ⟨by omega, by omega⟩) (List.forall_mem_cons.mpr ⟨rfl, List.forall_mem_cons.mpr ⟨rfl, List.forall_mem_cons.mpr ⟨rfl, List.forall_mem_cons.mpr ⟨rfl, List.forall_mem_cons.mpr ⟨rfl, List.forall_mem_cons.mpr ⟨rfl, fun _ h => absurd h List.not_mem_nil⟩⟩⟩⟩⟩⟩) rfl rfl rfl
    · refine gi_tableIn (off := 569) (tgt := 613) C (dm_Mo_step 30 rfl) (by decide) (by decide) rfl (by decide) ?_
      rw [nI_eqP (by omega) (by decide)] at c44
      first
        | exact gi_close (rsp_18 C hr B hmd hm hi hR tl HW2 c44) (List.forall_mem_cons.mpr ⟨rfl, List.forall_mem_cons.mpr ⟨rfl, List.forall_mem_cons.mpr ⟨rfl, List.forall_mem_cons.mpr ⟨rfl, List.forall_mem_cons.mpr ⟨rfl, List.forall_mem_cons.mpr ⟨rfl, fun _ h => absurd h List.not_mem_nil⟩⟩⟩⟩⟩⟩) rfl rfl rfl
        | exact gi_close (rsp_10 C hr B hmd hm hi hR tl HW2 (Or.inl c44)) (List.forall_mem_cons.mpr ⟨rfl, List.forall_mem_cons.mpr ⟨rfl, List.forall_mem_cons.mpr ⟨rfl, List.forall_mem_cons.mpr ⟨rfl, List.forall_mem_cons.mpr ⟨rfl, List.forall_mem_cons.mpr ⟨rfl, fun _ h => absurd h List.not_mem_nil⟩⟩⟩⟩⟩⟩) rfl rfl rfl
        | exact gi_close (rsp_10 C hr B hmd hm hi hR tl HW2 (Or.inr c44)) (List.forall_mem_cons.mpr ⟨rfl, List.forall_mem_cons.mpr ⟨rfl, List.forall_mem_cons.mpr ⟨rfl, List.forall_mem_cons.mpr ⟨rfl, List.forall_mem_cons.mpr ⟨rfl, List.forall_mem_cons.mpr ⟨rfl, fun _ h => absurd h List.not_mem_nil⟩⟩⟩⟩⟩⟩) rfl rfl rfl
        | exact gi_close (rsp_17 C hr B hmd hm hi hR tl HW2 ⟨by omega, by omega, by omega, by omega⟩) (List.forall_mem_cons.mpr ⟨rfl, List.forall_mem_cons.mpr ⟨rfl, List.forall_mem_cons.mpr ⟨rfl, List.forall_mem_cons.mpr ⟨rfl, List.forall_mem_cons.mpr ⟨rfl, List.forall_mem_cons.mpr ⟨rfl, fun _ h => absurd h List.not_mem_nil⟩⟩⟩⟩⟩⟩) rfl rfl rfl
        | exact gi_close (rsp_20 C hr B hmd hm hi hR tl HW2 ⟨by omega, by omega⟩) (List.forall_mem_cons.mpr ⟨rfl, List.forall_mem_cons.mpr ⟨rfl, List.forall_mem_cons.mpr ⟨rfl, List.forall_mem_cons.mpr ⟨rfl, List.forall_mem_cons.mpr ⟨rfl, List.forall_mem_cons.mpr ⟨rfl, fun _ h => absurd h List.not_mem_nil⟩⟩⟩⟩⟩⟩) rfl rfl rfl
    · refine gi_tableIn (off := 569) (tgt := 613) C (dm_Mo_step 30 rfl) (by decide) (by decide) rfl (by decide) ?_
      rw [nI_eqP (by omega) (by decide)] at c44
      first
        | exact gi_close (rsp_18 C hr B hmd hm hi hR tl HW2 c44) (List.forall_mem_cons.mpr ⟨rfl, List.forall_mem_cons.mpr ⟨rfl, List.forall_mem_cons.mpr ⟨rfl, List.forall_mem_cons.mpr ⟨rfl, List.forall_mem_cons.mpr ⟨rfl, List.forall_mem_cons.mpr ⟨rfl, fun _ h => absurd h List.not_mem_nil⟩⟩⟩⟩⟩⟩) rfl rfl rfl
        | exact gi_close (rsp_10 C hr B hmd hm hi hR tl HW2 (Or.inl c44)) (List.forall_mem_cons.mpr ⟨rfl, List.forall_mem_cons.mpr ⟨rfl, List.forall_mem_cons.mpr ⟨rfl, List.forall_mem_cons.mpr ⟨rfl, List.forall_mem_cons.mpr ⟨rfl, List.forall_mem_cons.mpr ⟨rfl, fun _ h => absurd h List.not_mem_nil⟩⟩⟩⟩⟩⟩) rfl rfl rfl
        | exact gi_close (rsp_10 C hr B hmd hm hi hR tl HW2 (Or.inr c44)) (List.forall_mem_cons.mpr ⟨rfl, List.forall_mem_cons.mpr ⟨rfl, List.forall_mem_cons.mpr ⟨rfl, List.forall_mem_cons.mpr ⟨rfl, List.forall_mem_cons.mpr ⟨rfl, List.forall_mem_cons.mpr ⟨rfl, fun _ h => absurd h List.not_mem_nil⟩⟩⟩⟩⟩⟩) rfl rfl rfl
        | exact gi_close (rsp_17 C hr B hmd hm hi hR tl HW2 ⟨by omega, by omega, by omega, by omega⟩) (List.forall_mem_cons.mpr ⟨rfl, List.forall_mem_cons.mpr ⟨rfl, List.forall_mem_cons.mpr ⟨rfl, List.forall_mem_cons.mpr ⟨rfl, List.forall_mem_cons.mpr ⟨rfl, List.forall_mem_cons.mpr ⟨rfl, fun _ h => absurd h List.not_mem_nil⟩⟩⟩⟩⟩⟩) rfl rfl rfl
        | exact gi_close (rsp_20 C hr B hmd hm hi hR tl HW2 ⟨by omega, by omega⟩) (List.forall_mem_cons.mpr ⟨rfl, List.forall_mem_cons.mpr ⟨rfl, List.forall_mem_cons.mpr ⟨rfl, List.forall_mem_cons.mpr ⟨rfl, List.forall_mem_cons.mpr ⟨rfl, List.forall_mem_cons.mpr ⟨rfl, fun _ h => absurd h List.not_mem_nil⟩⟩⟩⟩⟩⟩) rfl rfl rfl
    · refine gi_tableIn (off := 569) (tgt := 613) C (dm_Mo_step 30 rfl) (by decide) (by decide) rfl (by decide) ?_
      rw [nI_eqP (by omega) (by decide)] at c44
      first
        | exact gi_close (rsp_18 C hr B hmd hm hi hR tl HW2 c44) (List.forall_mem_cons.mpr ⟨rfl, List.forall_mem_cons.mpr ⟨rfl, List.forall_mem_cons.mpr ⟨rfl, List.forall_mem_cons.mpr ⟨rfl, List.forall_mem_cons.mpr ⟨rfl, List.forall_mem_cons.mpr ⟨rfl, fun _ h => absurd h List.not_mem_nil⟩⟩⟩⟩⟩⟩) rfl rfl rfl
        | exact gi_close (rsp_10 C hr B hmd hm hi hR tl HW2 (Or.inl c44)) (List.forall_mem_cons.mpr ⟨rfl, List.forall_mem_cons.mpr ⟨rfl, List.forall_mem_cons.mpr ⟨rfl, List.forall_mem_cons.mpr ⟨rfl, List.forall_mem_cons.mpr ⟨rfl, List.forall_mem_cons.mpr ⟨rfl, fun _ h => absurd h List.not_mem_nil⟩⟩⟩⟩⟩⟩) rfl rfl rfl
        | exact gi_close (rsp_10 C hr B hmd hm hi hR tl HW2 (Or.inr c44)) (List.forall_mem_cons.mpr ⟨rfl, List.forall_mem_cons.mpr ⟨rfl, List.forall_mem_cons.mpr ⟨rfl, List.forall_mem_cons.mpr ⟨rfl, List.forall_mem_cons.mpr ⟨rfl, List.forall_mem_cons.mpr ⟨rfl, fun _ h => absurd h List.not_mem_nil⟩⟩⟩⟩⟩⟩) rfl rfl rfl
        | exact gi_close (rsp_17 C hr B hmd hm hi hR tl HW2 ⟨by omega, by omega, by omega, by omega⟩) (List.forall_mem_cons.mpr ⟨rfl, List.forall_mem_cons.mpr ⟨rfl, List.forall_mem_cons.mpr ⟨rfl, List.forall_mem_cons.mpr ⟨rfl, List.forall_mem_cons.mpr ⟨rfl, List.forall_mem_cons.mpr ⟨rfl, fun _ h => absurd h List.not_mem_nil⟩⟩⟩⟩⟩⟩) rfl rfl rfl
        | exact gi_close (rsp_20 C hr B hmd hm hi hR tl HW2 ⟨by omega, by omega⟩) (List.forall_mem_cons.mpr ⟨rfl, List.forall_mem_cons.mpr ⟨rfl, List.forall_mem_cons.mpr ⟨rfl, List.forall_mem_cons.mpr ⟨rfl, List.forall_mem_cons.mpr ⟨rfl, List.forall_mem_cons.mpr ⟨rfl, fun _ h => absurd h List.not_mem_nil⟩⟩⟩⟩⟩⟩) rfl rfl rfl
    · refine gi_tableIn (off := 388) (tgt := 432) C (dm_Mo_step 30 rfl) (by decide) (by decide) rfl (by decide) ?_
      rw [nI_eqP (by omega) (by decide)] at c44
      first
        | exact gi_close (rsp_26 C hr B hmd hm hi hR tl HW2 c44) (List.forall_mem_cons.mpr ⟨rfl, List.forall_mem_cons.mpr ⟨rfl, List.forall_mem_cons.mpr ⟨rfl, List.forall_mem_cons.mpr ⟨rfl, List.forall_mem_cons.mpr ⟨rfl, List.forall_mem_cons.mpr ⟨rfl, fun _ h => absurd h List.not_mem_nil⟩⟩⟩⟩⟩⟩) rfl rfl rfl
        | exact gi_close (rsp_27 C hr B hmd hm hi hR tl HW2 c44) (List.forall_mem_cons.mpr ⟨rfl, List.forall_mem_cons.mpr ⟨rfl, List.forall_mem_cons.mpr ⟨rfl, List.forall_mem_cons.mpr ⟨rfl, List.forall_mem_cons.mpr ⟨rfl, List.forall_mem_cons.mpr ⟨rfl, fun _ h => absurd h List.not_mem_nil⟩⟩⟩⟩⟩⟩) rfl rfl rfl
    · refine gi_tableIn (off := 388) (tgt := 432) C (dm_Mo_step 30 rfl) (by decide) (by decide) rfl (by decide) ?_
      rw [nI_eqP (by omega) (by decide)] at c44
      first
        | exact gi_close (rsp_26 C hr B hmd hm hi hR tl HW2 c44) (List.forall_mem_cons.mpr ⟨rfl, List.forall_mem_cons.mpr ⟨rfl, List.forall_mem_cons.mpr ⟨rfl, List.forall_mem_cons.mpr ⟨rfl, List.forall_mem_cons.mpr ⟨rfl, List.forall_mem_cons.mpr ⟨rfl, fun _ h => absurd h List.not_mem_nil⟩⟩⟩⟩⟩⟩) rfl rfl rfl
        | exact gi_close (rsp_27 C hr B hmd hm hi hR tl HW2 c44) (List.forall_mem_cons.mpr ⟨rfl, List.forall_mem_cons.mpr ⟨rfl, List.forall_mem_cons.mpr ⟨rfl, List.forall_mem_cons.mpr ⟨rfl, List.forall_mem_cons.mpr ⟨rfl, List.forall_mem_cons.mpr ⟨rfl, fun _ h => absurd h List.not_mem_nil⟩⟩⟩⟩⟩⟩) rfl rfl rfl
    · refine gi_tableIn (off := 433) (tgt := 477) C (dm_Mo_step 30 rfl) (by decide) (by decide) rfl (by decide) ?_
      rw [nI_eqP (by omega) (by decide)] at c44
      exact gi_close (rsp_28 C hr B hmd hm hi hR tl HW2 c44) (List.forall_mem_cons.mpr ⟨rfl, List.forall_mem_cons.mpr ⟨rfl, List.forall_mem_cons.mpr ⟨rfl, List.forall_mem_cons.mpr ⟨rfl, List.forall_mem_cons.mpr ⟨rfl, List.forall_mem_cons.mpr ⟨rfl, fun _ h => absurd h List.not_mem_nil⟩⟩⟩⟩⟩⟩) rfl rfl rfl
    · refine gi_tableIn (off := 443) (tgt := 487) C (dm_Mo_step 30 rfl) (by decide) (by decide) rfl (by decide) ?_
      rw [nI_eqP (by omega) (by decide)] at c44
      first
        | exact gi_close (rsp_29 C hr B hmd hm hi hR tl HW2 c44) (List.forall_mem_cons.mpr ⟨rfl, List.forall_mem_cons.mpr ⟨rfl, List.forall_mem_cons.mpr ⟨rfl, List.forall_mem_cons.mpr ⟨rfl, List.forall_mem_cons.mpr ⟨rfl, List.forall_mem_cons.mpr ⟨rfl, fun _ h => absurd h List.not_mem_nil⟩⟩⟩⟩⟩⟩) rfl rfl rfl
        | exact gi_close (rsp_30 C hr B hmd hm hi hR tl HW2 c44) (List.forall_mem_cons.mpr ⟨rfl, List.forall_mem_cons.mpr ⟨rfl, List.forall_mem_cons.mpr ⟨rfl, List.forall_mem_cons.mpr ⟨rfl, List.forall_mem_cons.mpr ⟨rfl, List.forall_mem_cons.mpr ⟨rfl, fun _ h => absurd h List.not_mem_nil⟩⟩⟩⟩⟩⟩) rfl rfl rfl
        | exact gi_close (rsp_31 C hr B hmd hm hi hR tl HW2 c44) (List.forall_mem_cons.mpr ⟨rfl, List.forall_mem_cons.mpr ⟨rfl, List.forall_mem_cons.mpr ⟨rfl, List.forall_mem_cons.mpr ⟨rfl, List.forall_mem_cons.mpr ⟨rfl, List.forall_mem_cons.mpr ⟨rfl, fun _ h => absurd h List.not_mem_nil⟩⟩⟩⟩⟩⟩) rfl rfl rfl
    · refine gi_tableIn (off := 443) (tgt := 487) C (dm_Mo_step 30 rfl) (by decide) (by decide) rfl (by decide) ?_
      rw [nI_eqP (by omega) (by decide)] at c44
      first
        | exact gi_close (rsp_29 C hr B hmd hm hi hR tl HW2 c44) (List.forall_mem_cons.mpr ⟨rfl, List.forall_mem_cons.mpr ⟨rfl, List.forall_mem_cons.mpr ⟨rfl, List.forall_mem_cons.mpr ⟨rfl, List.forall_mem_cons.mpr ⟨rfl, List.forall_mem_cons.mpr ⟨rfl, fun _ h => absurd h List.not_mem_nil⟩⟩⟩⟩⟩⟩) rfl rfl rfl
        | exact gi_close (rsp_30 C hr B hmd hm hi hR tl HW2 c44) (List.forall_mem_cons.mpr ⟨rfl, List.forall_mem_cons.mpr ⟨rfl, List.forall_mem_cons.mpr ⟨rfl, List.forall_mem_cons.mpr ⟨rfl, List.forall_mem_cons.mpr ⟨rfl, List.forall_mem_cons.mpr ⟨rfl, fun _ h => absurd h List.not_mem_nil⟩⟩⟩⟩⟩⟩) rfl rfl rfl
        | exact gi_close (rsp_31 C hr B hmd hm hi hR tl HW2 c44) (List.forall_mem_cons.mpr ⟨rfl, List.forall_mem_cons.mpr ⟨rfl, List.forall_mem_cons.mpr ⟨rfl, List.forall_mem_cons.mpr ⟨rfl, List.forall_mem_cons.mpr ⟨rfl, List.forall_mem_cons.mpr ⟨rfl, fun _ h => absurd h List.not_mem_nil⟩⟩⟩⟩⟩⟩) rfl rfl rfl
    · refine gi_tableIn (off := 443) (tgt := 487) C (dm_Mo_step 30 rfl) (by decide) (by decide) rfl (by decide) ?_
      rw [nI_eqP (by omega) (by decide)] at c44
      first
        | exact gi_close (rsp_29 C hr B hmd hm hi hR tl HW2 c44) (List.forall_mem_cons.mpr ⟨rfl, List.forall_mem_cons.mpr ⟨rfl, List.forall_mem_cons.mpr ⟨rfl, List.forall_mem_cons.mpr ⟨rfl, List.forall_mem_cons.mpr ⟨rfl, List.forall_mem_cons.mpr ⟨rfl, fun _ h => absurd h List.not_mem_nil⟩⟩⟩⟩⟩⟩) rfl rfl rfl
        | exact gi_close (rsp_30 C hr B hmd hm hi hR tl HW2 c44) (List.forall_mem_cons.mpr ⟨rfl, List.forall_mem_cons.mpr ⟨rfl, List.forall_mem_cons.mpr ⟨rfl, List.forall_mem_cons.mpr ⟨rfl, List.forall_mem_cons.mpr ⟨rfl, List.forall_mem_cons.mpr ⟨rfl, fun _ h => absurd h List.not_mem_nil⟩⟩⟩⟩⟩⟩) rfl rfl rfl
        | exact gi_close (rsp_31 C hr B hmd hm hi hR tl HW2 c44) (List.forall_mem_cons.mpr ⟨rfl, List.forall_mem_cons.mpr ⟨rfl, List.forall_mem_cons.mpr ⟨rfl, List.forall_mem_cons.mpr ⟨rfl, List.forall_mem_cons.mpr ⟨rfl, List.forall_mem_cons.mpr ⟨rfl, fun _ h => absurd h List.not_mem_nil⟩⟩⟩⟩⟩⟩) rfl rfl rfl
    · refine gi_tableIn (off := 453) (tgt := 497) C (dm_Mo_step 30 rfl) (by decide) (by decide) rfl (by decide) ?_
      rw [nI_eqP (by omega) (by decide)] at c44
      exact gi_close (rsp_32 C hr B hmd hm hi hR tl HW2 c44) (List.forall_mem_cons.mpr ⟨rfl, List.forall_mem_cons.mpr ⟨rfl, List.forall_mem_cons.mpr ⟨rfl, List.forall_mem_cons.mpr ⟨rfl, List.forall_mem_cons.mpr ⟨rfl, List.forall_mem_cons.mpr ⟨rfl, fun _ h => absurd h List.not_mem_nil⟩⟩⟩⟩⟩⟩) rfl rfl rfl
    · refine gi_tableIn (off := 463) (tgt := 507) C (dm_Mo_step 30 rfl) (by decide) (by decide) rfl (by decide) ?_
      rw [nI_eqP (by omega) (by decide)] at c44
      exact gi_close (rsp_33 C hr B hmd hm hi hR tl HW2 rfl c44) (List.forall_mem_cons.mpr ⟨rfl, List.forall_mem_cons.mpr ⟨rfl, List.forall_mem_cons.mpr ⟨rfl, List.forall_mem_cons.mpr ⟨rfl, List.forall_mem_cons.mpr ⟨rfl, List.forall_mem_cons.mpr ⟨rfl, fun _ h => absurd h List.not_mem_nil⟩⟩⟩⟩⟩⟩) rfl rfl rfl
    · refine gi_tableIn (off := 470) (tgt := 514) C (dm_Mo_step 30 rfl) (by decide) (by decide) rfl (by decide) ?_
      rw [nI_eqP (by omega) (by decide)] at c44
      exact gi_close (rsp_34 C hr B hmd hm hi hR tl HW2 c44) (List.forall_mem_cons.mpr ⟨rfl, List.forall_mem_cons.mpr ⟨rfl, List.forall_mem_cons.mpr ⟨rfl, List.forall_mem_cons.mpr ⟨rfl, List.forall_mem_cons.mpr ⟨rfl, List.forall_mem_cons.mpr ⟨rfl, fun _ h => absurd h List.not_mem_nil⟩⟩⟩⟩⟩⟩) rfl rfl rfl
    · refine gi_tableIn (off := 515) (tgt := 559) C (dm_Mo_step 30 rfl) (by decide) (by decide) rfl (by decide) ?_
      rw [nI_eqP (by omega) (by decide)] at c44
      exact gi_close (rsp_35 C hr B hmd hm hi hR tl HW2 c44) (List.forall_mem_cons.mpr ⟨rfl, List.forall_mem_cons.mpr ⟨rfl, List.forall_mem_cons.mpr ⟨rfl, List.forall_mem_cons.mpr ⟨rfl, List.forall_mem_cons.mpr ⟨rfl, List.forall_mem_cons.mpr ⟨rfl, fun _ h => absurd h List.not_mem_nil⟩⟩⟩⟩⟩⟩) rfl rfl rfl
theorem c_Mo_stepP {p : Nat} (hp : p < 480) (B : Built k P sh (siN k P sh) (wdF k P)) (hmd : md ≤ 2) (hpg : pgR k P sh S F) (hD : mdR k P sh md Ff Z S F G) (hR : rdO (tyF P sh) (rdF md Ff Z)) (tl : (rdF md Ff Z p).told = true) (H : mo_at M S J F G h) : gi_T l V y_Mo_step b_Mo_step 7 none 6 202 0 0 [.ref M, .int (nI p)] n h (fun v n' h' => v = none ∧ n' = n ∧ ∃ κ, spP M k P sh md Ff κ h S J F G ((outs P (siN k P sh) (rdF md Ff Z) p).foldl (comeM md (grF (wdF k P))) Z) h') := by
  obtain ⟨v1, v2⟩ := vld_of B hp hR.1 tl
  have ej : 60 * (p / 60) + p % 60 = p := by omega
  have q := c_Mo_step (l := l) (V := V) (n := n) (m := p / 60) (i := p % 60) B hmd v1 v2 hpg hD hR (by rw [ej]; exact tl) H
  rw [ej] at q
  exact q
end RCH
