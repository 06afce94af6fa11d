-- needs: 81
section STC
variable {l : Launch} {V : gi_V} {n : Nat} {h h' h0 : gi_H} {a pr bu fr to k m md : Nat} {P : Pm} {S : Nat → Int32} {x y nx ny ar ou be ab : mV} {Wk Wy En Lo : mR} {F : Fa} {Φ : Nat → mR} {T : Nat → Ty} {wd : Nat → Bool} {cb : Bool}
variable {f : Nat → Sl} {n0 i : Nat} {sn : Nat → Nat} {Ff : Fa} {Z : Fa × Bool} {hA hB : gi_H}
set_option maxHeartbeats 4000000 in
set_option maxRecDepth 100000 in
theorem c_St_giveBack_0 (h2 : md ≤ 2) (W : wfP k P) (hm : m < k) (hT : ∀ t, t < 542 → (T t).1 ≤ 14) (d : DJ a pr bu fr to) (B : SB a pr bu fr to k md P sn wd T Ff Z hA hB) (hS : SS S md m i Z.2) (Q : stO a pr bu fr to hB S x y nx ny ar ou be ab Wk Wy En Lo h) (G : isG Wk n0 f) (hwt : ∀ t, 480 ≤ t → wd t = true) (hr0 : pN P 4 m = 0) (hc1 : okC T (534 + m, 0, f)) : gi_T l V y_St_giveBack b_St_giveBack 1 none 4 102 0 0 [.ref a] n h (fun r n' h' => r = none ∧ n' = n ∧ ∃ hC S' x' Wk' Lo', SS S' md m i ((comeM md wd Z (534 + m, 0, f))).2 ∧ SB a pr bu fr to k md P sn wd T Ff (comeM md wd Z (534 + m, 0, f)) hA hC ∧ stO a pr bu fr to hC S' x' y nx ny ar ou be ab Wk' Wy En Lo' h') := by
  refine gi_enter (by decide) (Nat.le_of_ble_eq_true rfl) ?_
  intro _ _ _ _ _ _ _ _ C hr hnm
  have w8 := W.k8
  have wm := wf_ar W hm
  have Hp := B.hpr d Q.2
  have L := Q.lo
  have l0 := L.1
  refine gi_aload_n (q := 1) (i := 0) C (dm_St_giveBack 0 rfl) rfl rfl rfl ?_
  refine gi_get (q := 4) C (dm_St_giveBack 1 rfl) rfl fl_St_58 (by first | exact Q78.ob | exact Q74.ob | exact Q53.ob | exact Q39.ob | exact Q19.ob | exact Q.ob) rfl ?_
  refine gi_aload_n (q := 5) (i := 0) C (dm_St_giveBack 2 rfl) rfl rfl rfl ?_
  refine gi_get (q := 8) C (dm_St_giveBack 3 rfl) rfl fl_St_144 (by first | exact Q78.ob | exact Q74.ob | exact Q53.ob | exact Q39.ob | exact Q19.ob | exact Q.ob) rfl ?_
  rw [hS.2.2.1]
  refine gi_callv 1 (q := 11) C (dm_St_giveBack 4 rfl) rfl my_Pr_resultSort lk_St_282 im_Pr_resultSort rfl (q_res W hm Hp) Hp.1 rfl rfl ⟨(Nat.le_of_ble_eq_true rfl), (Nat.le_of_ble_eq_true rfl)⟩ (Nat.le_of_ble_eq_true rfl) ⟨(Nat.le_of_ble_eq_true rfl), (Nat.le_of_ble_eq_true rfl)⟩ (fun r8 n8 h8 e8 => ?_)
  obtain ⟨rfl, q8, u8⟩ := e8
  rw [q8, u8]
  refine gi_if_ne (q := 14) (tgt := 45) C (dm_St_giveBack 5 rfl) rfl (by decide) (fun c11 => ?_) (fun c11 => ?_)
  · exact absurd (by rw [hr0]; rfl) c11
  · refine gi_aload_n (q := 15) (i := 0) C (dm_St_giveBack 6 rfl) rfl rfl rfl ?_
    refine gi_get (q := 18) C (dm_St_giveBack 7 rfl) rfl fl_St_33 (by first | exact Q78.ob | exact Q74.ob | exact Q53.ob | exact Q39.ob | exact Q19.ob | exact Q.ob) rfl ?_
    refine gi_iconst (q := 19) (v := 0) C (dm_St_giveBack 8 rfl) rfl (by decide) ?_
    refine gi_put (q := 22) C (dm_St_giveBack 9 rfl) rfl fl_St_92 fp_Ro_2 l0 (Nat.le_of_ble_eq_true rfl) rfl rfl ?_
    have T0 := L.o 0 Lo.2.2.1 Lo.2.2.2.1
    have Q19 := Q.rLo T0 (outR.rf.up (Nat.le_refl _) (by omega))
    refine gi_aload_n (q := 23) (i := 0) C (dm_St_giveBack 10 rfl) rfl rfl rfl ?_
    refine gi_aload_n (q := 24) (i := 0) C (dm_St_giveBack 11 rfl) rfl rfl rfl ?_
    refine gi_get (q := 27) C (dm_St_giveBack 12 rfl) rfl fl_St_70 (by first | exact Q78.ob | exact Q74.ob | exact Q53.ob | exact Q39.ob | exact Q19.ob | exact Q.ob) rfl ?_
    refine gi_aload_n (q := 28) (i := 0) C (dm_St_giveBack 13 rfl) rfl rfl rfl ?_
    refine gi_get (q := 31) C (dm_St_giveBack 14 rfl) rfl fl_St_144 (by first | exact Q78.ob | exact Q74.ob | exact Q53.ob | exact Q39.ob | exact Q19.ob | exact Q.ob) rfl ?_
    rw [hS.2.2.1]
    obtain ⟨ft, ot⟩ := B.ob d Q19.2
    refine gi_callv 1 (q := 34) C (dm_St_giveBack 15 rfl) rfl my_Fa_resultOf lk_St_279 im_Fa_resultOf rfl (b_res B d Q19.2 (by omega)) ot rfl rfl ⟨(Nat.le_of_ble_eq_true rfl), (Nat.le_of_ble_eq_true rfl)⟩ (Nat.le_of_ble_eq_true rfl) ⟨(Nat.le_of_ble_eq_true rfl), (Nat.le_of_ble_eq_true rfl)⟩ (fun r31 n31 h31 e31 => ?_)
    obtain ⟨rfl, q31, u31⟩ := e31
    rw [q31, u31]
    refine gi_aload_n (q := 35) (i := 0) C (dm_St_giveBack 16 rfl) rfl rfl rfl ?_
    refine gi_get (q := 38) C (dm_St_giveBack 17 rfl) rfl fl_St_33 (by first | exact Q78.ob | exact Q74.ob | exact Q53.ob | exact Q39.ob | exact Q19.ob | exact Q.ob) rfl ?_
    refine gi_iconst (q := 39) (v := 1) C (dm_St_giveBack 18 rfl) rfl (by decide) ?_
    refine gi_callv 3 (q := 42) C (dm_St_giveBack 19 rfl) rfl my_St_come lk_St_140 im_St_come rfl (b_come1 (a + 55) 1 0 (534 + m) _ f h2 B hT d hS Q19 (by omega) (by omega) (by omega) Q19.lo ⟨rfl, fun j hj => absurd hj (by omega)⟩ (by omega) (by omega) hc1 (hwt _ (by omega))) Q19.ob rfl rfl ⟨(Nat.le_of_ble_eq_true rfl), (Nat.le_of_ble_eq_true rfl)⟩ (Nat.le_of_ble_eq_true rfl) ⟨(Nat.le_of_ble_eq_true rfl), (Nat.le_of_ble_eq_true rfl)⟩ (fun r39 n39 h39 e39 => ?_)
    obtain ⟨rfl, rfl, S39, hS39, B39, Q39⟩ := e39
    refine gi_goto (tgt := 81) C (dm_St_giveBack 20 rfl) (by decide) ?_
    refine gi_vret C hr (dm_St_giveBack 39 rfl) ?_
    exact ⟨rfl, rfl, _, _, _, _, _, hS39, B39, Q39⟩
set_option maxHeartbeats 4000000 in
set_option maxRecDepth 100000 in
theorem c_St_giveBack_1 (h2 : md ≤ 2) (W : wfP k P) (hm : m < k) (hT : ∀ t, t < 542 → (T t).1 ≤ 14) (d : DJ a pr bu fr to) (B : SB a pr bu fr to k md P sn wd T Ff Z hA hB) (hS : SS S md m i Z.2) (Q : stO a pr bu fr to hB S x y nx ny ar ou be ab Wk Wy En Lo h) (G : isG Wk n0 f) (hwt : ∀ t, 480 ≤ t → wd t = true) (hr0 : pN P 4 m ≠ 0) (g1 : 1 ≤ n0) (g14 : n0 ≤ 14) (hc1 : okC T (534 + m, 1, one (f (n0 - 1)).1)) : gi_T l V y_St_giveBack b_St_giveBack 1 none 4 102 0 0 [.ref a] n h (fun r n' h' => r = none ∧ n' = n ∧ ∃ hC S' x' Wk' Lo', SS S' md m i ((comeM md wd Z (534 + m, 1, one (f (n0 - 1)).1))).2 ∧ SB a pr bu fr to k md P sn wd T Ff (comeM md wd Z (534 + m, 1, one (f (n0 - 1)).1)) hA hC ∧ stO a pr bu fr to hC S' x' y nx ny ar ou be ab Wk' Wy En Lo' h') := by
  refine gi_enter (by decide) (Nat.le_of_ble_eq_true rfl) ?_
  intro _ _ _ _ _ _ _ _ C hr hnm
  have w8 := W.k8
  have wm := wf_ar W hm
  have Hp := B.hpr d Q.2
  have L := Q.lo
  have l0 := L.1
  refine gi_aload_n (q := 1) (i := 0) C (dm_St_giveBack 0 rfl) rfl rfl rfl ?_
  refine gi_get (q := 4) C (dm_St_giveBack 1 rfl) rfl fl_St_58 (by first | exact Q78.ob | exact Q74.ob | exact Q53.ob | exact Q39.ob | exact Q19.ob | exact Q.ob) rfl ?_
  refine gi_aload_n (q := 5) (i := 0) C (dm_St_giveBack 2 rfl) rfl rfl rfl ?_
  refine gi_get (q := 8) C (dm_St_giveBack 3 rfl) rfl fl_St_144 (by first | exact Q78.ob | exact Q74.ob | exact Q53.ob | exact Q39.ob | exact Q19.ob | exact Q.ob) rfl ?_
  rw [hS.2.2.1]
  refine gi_callv 1 (q := 11) C (dm_St_giveBack 4 rfl) rfl my_Pr_resultSort lk_St_282 im_Pr_resultSort rfl (q_res W hm Hp) Hp.1 rfl rfl ⟨(Nat.le_of_ble_eq_true rfl), (Nat.le_of_ble_eq_true rfl)⟩ (Nat.le_of_ble_eq_true rfl) ⟨(Nat.le_of_ble_eq_true rfl), (Nat.le_of_ble_eq_true rfl)⟩ (fun r8 n8 h8 e8 => ?_)
  obtain ⟨rfl, q8, u8⟩ := e8
  rw [q8, u8]
  refine gi_if_ne (q := 14) (tgt := 45) C (dm_St_giveBack 5 rfl) rfl (by decide) (fun c11 => ?_) (fun c11 => ?_)
  · refine gi_aload_n (q := 46) (i := 0) C (dm_St_giveBack 21 rfl) rfl rfl rfl ?_
    refine gi_get (q := 49) C (dm_St_giveBack 22 rfl) rfl fl_St_23 (by first | exact Q78.ob | exact Q74.ob | exact Q53.ob | exact Q39.ob | exact Q19.ob | exact Q.ob) rfl ?_
    refine gi_aload_n (q := 50) (i := 0) C (dm_St_giveBack 23 rfl) rfl rfl rfl ?_
    refine gi_get (q := 53) C (dm_St_giveBack 24 rfl) rfl fl_St_39 (by first | exact Q78.ob | exact Q74.ob | exact Q53.ob | exact Q39.ob | exact Q19.ob | exact Q.ob) rfl ?_
    refine gi_callv 1 (q := 56) C (dm_St_giveBack 25 rfl) rfl my_Ro_pop lk_St_198 im_Ro_pop rfl (s_popx Q G (by omega) (by omega)) Q.wk.1 rfl rfl ⟨(Nat.le_of_ble_eq_true rfl), (Nat.le_of_ble_eq_true rfl)⟩ (Nat.le_of_ble_eq_true rfl) ⟨(Nat.le_of_ble_eq_true rfl), (Nat.le_of_ble_eq_true rfl)⟩ (fun r53 n53 h53 e53 => ?_)
    obtain ⟨rfl, rfl, wk53, Q53, G53⟩ := e53
    refine gi_pop (q := 57) C (dm_St_giveBack 26 rfl) rfl rfl ?_
    refine gi_aload_n (q := 58) (i := 0) C (dm_St_giveBack 27 rfl) rfl rfl rfl ?_
    refine gi_aload_n (q := 59) (i := 0) C (dm_St_giveBack 28 rfl) rfl rfl rfl ?_
    refine gi_get (q := 62) C (dm_St_giveBack 29 rfl) rfl fl_St_70 (by first | exact Q78.ob | exact Q74.ob | exact Q53.ob | exact Q39.ob | exact Q19.ob | exact Q.ob) rfl ?_
    refine gi_aload_n (q := 63) (i := 0) C (dm_St_giveBack 30 rfl) rfl rfl rfl ?_
    refine gi_get (q := 66) C (dm_St_giveBack 31 rfl) rfl fl_St_144 (by first | exact Q78.ob | exact Q74.ob | exact Q53.ob | exact Q39.ob | exact Q19.ob | exact Q.ob) rfl ?_
    rw [hS.2.2.1]
    obtain ⟨ft, ot⟩ := B.ob d Q53.2
    refine gi_callv 1 (q := 69) C (dm_St_giveBack 32 rfl) rfl my_Fa_resultOf lk_St_279 im_Fa_resultOf rfl (b_res B d Q53.2 (by omega)) ot rfl rfl ⟨(Nat.le_of_ble_eq_true rfl), (Nat.le_of_ble_eq_true rfl)⟩ (Nat.le_of_ble_eq_true rfl) ⟨(Nat.le_of_ble_eq_true rfl), (Nat.le_of_ble_eq_true rfl)⟩ (fun r66 n66 h66 e66 => ?_)
    obtain ⟨rfl, q66, u66⟩ := e66
    rw [q66, u66]
    refine gi_aload_n (q := 70) (i := 0) C (dm_St_giveBack 33 rfl) rfl rfl rfl ?_
    refine gi_aload_n (q := 71) (i := 0) C (dm_St_giveBack 34 rfl) rfl rfl rfl ?_
    refine gi_get (q := 74) C (dm_St_giveBack 35 rfl) rfl fl_St_39 (by first | exact Q78.ob | exact Q74.ob | exact Q53.ob | exact Q39.ob | exact Q19.ob | exact Q.ob) rfl ?_
    refine gi_callv 1 (q := 77) C (dm_St_giveBack 36 rfl) rfl my_St_alone lk_St_262 im_St_alone rfl (c_St_alone (a + 59) ((f (n0 - 1)).1) Q53 (by omega) Q53.vx) Q53.ob rfl rfl ⟨(Nat.le_of_ble_eq_true rfl), (Nat.le_of_ble_eq_true rfl)⟩ (Nat.le_of_ble_eq_true rfl) ⟨(Nat.le_of_ble_eq_true rfl), (Nat.le_of_ble_eq_true rfl)⟩ (fun r74 n74 h74 e74 => ?_)
    obtain ⟨rfl, rfl, ⟨lo74, Q74, GL74⟩, -⟩ := e74
    refine gi_iconst (q := 78) (v := 1) C (dm_St_giveBack 37 rfl) rfl (by decide) ?_
    refine gi_callv 3 (q := 81) C (dm_St_giveBack 38 rfl) rfl my_St_come lk_St_140 im_St_come rfl (b_come1 (a + 55) 1 1 (534 + m) _ _ h2 B hT d hS Q74 (by omega) (by omega) (by omega) Q74.lo GL74 (by omega) (by rw [cap_hi (by omega)]; omega) hc1 (hwt _ (by omega))) Q74.ob rfl rfl ⟨(Nat.le_of_ble_eq_true rfl), (Nat.le_of_ble_eq_true rfl)⟩ (Nat.le_of_ble_eq_true rfl) ⟨(Nat.le_of_ble_eq_true rfl), (Nat.le_of_ble_eq_true rfl)⟩ (fun r78 n78 h78 e78 => ?_)
    obtain ⟨rfl, rfl, S78, hS78, B78, Q78⟩ := e78
    refine gi_vret C hr (dm_St_giveBack 39 rfl) ?_
    exact ⟨rfl, rfl, _, _, _, _, _, hS78, B78, Q78⟩
  · exact absurd ((nI_eq (b := 0) (by omega) (by omega)).mp c11) hr0
theorem bit_one (x : BitVec 32) : (x &&& 1#32 = 1#32) ↔ x.getLsbD 0 = true := by
  rw [BitVec.and_one_eq_setWidth_ofBool_getLsbD]
  cases x.getLsbD 0 <;> simp
theorem sh_bit (b : Int32) {s : Nat} (hs : s < 32) : ((b >>> (nI s &&& 31)) &&& 1 = 1) ↔ bitA b s = true := by
  have hc : ∀ s, s < 32 → ((nI s &&& 31).toBitVec.smod 32).toNat = s := by decide +kernel
  have e : (b >>> (nI s &&& 31)).toBitVec = b.toBitVec.sshiftRight s := by
    show b.toBitVec.sshiftRight ((nI s &&& 31).toBitVec.smod 32).toNat = _
    rw [hc s hs]
  constructor
  · intro h
    have h2 := congrArg Int32.toBitVec h
    rw [Int32.toBitVec_and, e] at h2
    have h3 := (bit_one _).mp h2
    rw [BitVec.getLsbD_sshiftRight] at h3
    unfold bitA
    simpa [hs] using h3
  · intro h
    apply Int32.toBitVec_inj.mp
    rw [Int32.toBitVec_and, e]
    refine (bit_one _).mpr ?_
    rw [BitVec.getLsbD_sshiftRight]
    unfold bitA at h
    simpa [hs] using h
set_option maxHeartbeats 4000000 in
set_option maxRecDepth 100000 in
theorem c_St_gather_480 (bs : Int32) (on : Bool) (hT : ∀ t, t < 542 → (T t).1 ≤ 14) (d : DJ a pr bu fr to) (B : SB a pr bu fr to k md P sn wd T Ff Z hA hB) (Q : stO a pr bu fr to hB S x y nx ny (tV bs on) ou be ab Wk Wy En Lo h) (hro : ∀ s, s < 25 → (frF fr to Ff Z (480 + s)).told = true → (frF fr to Ff Z (480 + s)).n = 1 ∧ ∃ x0, ((frF fr to Ff Z (480 + s)).f 0).1 = .inl x0 ∧ okS x0) : gi_T l V y_St_gather b_St_gather 5 none 2 51 0 0 [.ref a, .int 1, .ref (a + 64)] n h (fun r n' h' => r = none ∧ n' = n ∧ stO a pr bu fr to hB S x y nx ny (tV bs on) (sV (wS (gathF (frF fr to Ff Z) 480 bs 25))) be ab Wk Wy En Lo h') := by
  refine gi_enter (by decide) (Nat.le_of_ble_eq_true rfl) ?_
  intro _ _ _ _ _ _ _ _ C hr hnm
  refine gi_aload_n (q := 1) (i := 2) C (dm_St_gather 0 rfl) rfl rfl rfl ?_
  refine gi_callv 0 (q := 4) C (dm_St_gather 1 rfl) rfl my_Va_beNothing lk_St_269 im_Va_beNothing rfl (c_Va_beNothing (a + 64) _ Q.vou) Q.vou rfl rfl ⟨(Nat.le_of_ble_eq_true rfl), (Nat.le_of_ble_eq_true rfl)⟩ (Nat.le_of_ble_eq_true rfl) ⟨(Nat.le_of_ble_eq_true rfl), (Nat.le_of_ble_eq_true rfl)⟩ (fun r1 n1 h1 e1 => ?_)
  obtain ⟨rfl, rfl, rfl⟩ := e1
  have Q1 := Q.pou (sV (1, 0, 0))
  refine gi_iconst (q := 5) (v := 0) C (dm_St_gather 2 rfl) rfl (by decide) ?_
  refine gi_istore_n (q := 6) (i := 3) C (dm_St_gather 3 rfl) rfl rfl (Nat.le_of_ble_eq_true rfl) ?_
  refine gi_while (σ := Nat) (fun i => 25 - i) (fun i => [(3, .int (nI i)), (0, .ref a), (1, .int 1), (2, .ref (a + 64))]) (fun _ => n1) (fun _ => 0) (fun _ => 0) (fun i y' => i ≤ 25 ∧ stO a pr bu fr to hB S x y nx ny (tV bs on) (sV (wS (gathF (frF fr to Ff Z) 480 bs i))) be ab Wk Wy En Lo y') 0 ⟨Nat.zero_le _, Q1⟩ ?_ (List.forall_mem_cons.mpr ⟨rfl, List.forall_mem_cons.mpr ⟨rfl, List.forall_mem_cons.mpr ⟨rfl, List.forall_mem_cons.mpr ⟨rfl, fun _ h => absurd h List.not_mem_nil⟩⟩⟩⟩) rfl rfl rfl
  rintro i y' ⟨hi, Y⟩ ih
  try dsimp only at *
  refine gi_iload_n (q := 7) (i := 3) C (dm_St_gather 4 rfl) rfl rfl rfl ?_
  refine gi_bipush (q := 9) (v := 25) C (dm_St_gather 5 rfl) rfl (by decide) ?_
  refine gi_icmp_ge (q := 12) (tgt := 76) C (dm_St_gather 6 rfl) rfl (by decide) (fun c9 => ?_) (fun c9 => ?_)
  · have hik : i = 25 := by
      rcases Nat.lt_or_ge i 25 with q | q
      · exact absurd c9 (nI_ge (b := 25) q (by omega))
      · omega
    subst hik
    refine gi_vret C hr (dm_St_gather 38 rfl) ?_
    exact ⟨rfl, rfl, Y⟩
  · have hlt : i < 25 := by
      rcases Nat.lt_or_ge i 25 with q | q
      · exact q
      · exact absurd (nI_le (a := 25) q (by omega)) c9
    obtain ⟨Φf, pf, pR⟩ := B.hfr d Y.2
    have RO := pf.2.2.2.2.2.2 (480 + i) (by omega)
    have ri := fa_in fr (480 + i) (by omega)
    have rc : fa_cap (480 + i) = 1 := cap_hi (by omega)
    have d4 := d.2.2.2.1
    refine gi_iload_n (q := 13) (i := 1) C (dm_St_gather 7 rfl) rfl rfl rfl ?_
    refine gi_if_eq (q := 16) (tgt := 27) C (dm_St_gather 8 rfl) rfl (by decide) (fun c13 => ?_) (fun c13 => ?_)
    · exact absurd c13 (by decide)
    · refine gi_aload_n (q := 17) (i := 0) C (dm_St_gather 9 rfl) rfl rfl rfl ?_
      refine gi_get (q := 20) C (dm_St_gather 10 rfl) rfl fl_St_66 (by first | exact Y.ob | exact Y.var | exact RO.1) rfl ?_
      refine gi_iload_n (q := 21) (i := 3) C (dm_St_gather 11 rfl) rfl rfl rfl ?_
      refine gi_callv 1 (q := 24) C (dm_St_gather 12 rfl) rfl my_Fa_lengthOf lk_St_258 im_Fa_lengthOf rfl (c_Fa_lengthOf hlt pf) pf.1 rfl rfl ⟨(Nat.le_of_ble_eq_true rfl), (Nat.le_of_ble_eq_true rfl)⟩ (Nat.le_of_ble_eq_true rfl) ⟨(Nat.le_of_ble_eq_true rfl), (Nat.le_of_ble_eq_true rfl)⟩ (fun r21 n21 h21 e21 => ?_)
      obtain ⟨rfl, q21, u21⟩ := e21
      rw [q21, u21]
      refine gi_goto (tgt := 35) C (dm_St_gather 13 rfl) (by decide) ?_
      refine gi_astore (q := 37) C (dm_St_gather 18 rfl) rfl (Nat.le_of_ble_eq_true rfl) ?_
      refine gi_aload_n (q := 38) (i := 0) C (dm_St_gather 19 rfl) rfl rfl rfl ?_
      refine gi_get (q := 41) C (dm_St_gather 20 rfl) rfl fl_St_52 (by first | exact Y.ob | exact Y.var | exact RO.1) rfl ?_
      refine gi_get (q := 44) C (dm_St_gather 21 rfl) rfl fl_St_249 (by first | exact Y.ob | exact Y.var | exact RO.1) rfl ?_
      refine gi_iload_n (q := 45) (i := 3) C (dm_St_gather 22 rfl) rfl rfl rfl ?_
      refine gi_ishr (q := 46) C (dm_St_gather 23 rfl) rfl ?_
      refine gi_iconst (q := 47) (v := 1) C (dm_St_gather 24 rfl) rfl (by decide) ?_
      refine gi_iand (q := 48) C (dm_St_gather 25 rfl) rfl ?_
      refine gi_iconst (q := 49) (v := 1) C (dm_St_gather 26 rfl) rfl (by decide) ?_
      refine gi_icmp_ne (q := 52) (tgt := 70) C (dm_St_gather 27 rfl) rfl (by decide) (fun c49 => ?_) (fun c49 => ?_)
      · refine gi_iinc (q := 73) (v := 1) C (dm_St_gather 36 rfl) rfl rfl (by decide) (Nat.le_of_ble_eq_true rfl) ?_
        refine gi_goto (tgt := 6) C (dm_St_gather 37 rfl) (by decide) ?_
        refine gi_close (ih (i + 1) _ ⟨hlt, ?_⟩ (by omega)) (List.forall_mem_cons.mpr ⟨(by simp [gi_look, nI_1]), List.forall_mem_cons.mpr ⟨rfl, List.forall_mem_cons.mpr ⟨rfl, List.forall_mem_cons.mpr ⟨rfl, fun _ h => absurd h List.not_mem_nil⟩⟩⟩⟩) rfl rfl rfl
        have ge : gathF (frF fr to Ff Z) 480 bs (i + 1) = gathF (frF fr to Ff Z) 480 bs i := by
          show (if bitA bs i = true ∧ ((frF fr to Ff Z) (480 + i)).told = true then _ else _) = _
          rw [if_neg (by
            rintro ⟨z1, z2⟩
            first
              | exact c49 ((sh_bit bs (by omega)).mpr z1)
              | (have z3 := (pR (480 + i) (by omega)).1
                 rw [show ((if fr = to then Z.1 else Ff) (480 + i)).told = true from z2] at z3
                 rw [z3] at c57
                 exact absurd c57 (by decide)))]
        rw [ge]
        exact Y
      · refine gi_aload (q := 54) C (dm_St_gather 28 rfl) rfl rfl ?_
        refine gi_get (q := 57) C (dm_St_gather 29 rfl) rfl fl_St_81 (by first | exact Y.ob | exact Y.var | exact RO.1) rfl ?_
        refine gi_if_eq (q := 60) (tgt := 70) C (dm_St_gather 30 rfl) rfl (by decide) (fun c57 => ?_) (fun c57 => ?_)
        · refine gi_iinc (q := 73) (v := 1) C (dm_St_gather 36 rfl) rfl rfl (by decide) (Nat.le_of_ble_eq_true rfl) ?_
          refine gi_goto (tgt := 6) C (dm_St_gather 37 rfl) (by decide) ?_
          refine gi_close (ih (i + 1) _ ⟨hlt, ?_⟩ (by omega)) (List.forall_mem_cons.mpr ⟨(by simp [gi_look, nI_1]), List.forall_mem_cons.mpr ⟨rfl, List.forall_mem_cons.mpr ⟨rfl, List.forall_mem_cons.mpr ⟨rfl, fun _ h => absurd h List.not_mem_nil⟩⟩⟩⟩) rfl rfl rfl
          have ge : gathF (frF fr to Ff Z) 480 bs (i + 1) = gathF (frF fr to Ff Z) 480 bs i := by
            show (if bitA bs i = true ∧ ((frF fr to Ff Z) (480 + i)).told = true then _ else _) = _
            rw [if_neg (by
              rintro ⟨z1, z2⟩
              first
                | exact c49 ((sh_bit bs (by omega)).mpr z1)
                | (have z3 := (pR (480 + i) (by omega)).1
                   rw [show ((if fr = to then Z.1 else Ff) (480 + i)).told = true from z2] at z3
                   rw [z3] at c57
                   exact absurd c57 (by decide)))]
          rw [ge]
          exact Y
        · have bt := (sh_bit bs (show i < 32 by omega)).mp c49
          have tl : (frF fr to Ff Z (480 + i)).told = true := bI_t (b := (frF fr to Ff Z (480 + i)).told) (by rw [← (pR (480 + i) (by omega)).1]; exact c57)
          obtain ⟨rn, x0, e1, ox0⟩ := hro i hlt tl
          have RG := ((pR (480 + i) (by omega)).2.2 tl).1
          have e0 := (RG.2 0 (by rw [show ((if fr = to then Z.1 else Ff) (480 + i)).n = 1 from rn]; omega)).1
          rw [show (((if fr = to then Z.1 else Ff) (480 + i)).f 0).1 = .inl x0 from e1] at e0
          have rv := RO.2.2.2.1 0 (by omega)
          rcases hg : gathF (frF fr to Ff Z) 480 bs i with _ | z
          · rw [hg, wS_n] at Y
            refine gi_aload_n (q := 61) (i := 2) C (dm_St_gather 31 rfl) rfl rfl rfl ?_
            refine gi_aload (q := 63) C (dm_St_gather 32 rfl) rfl rfl ?_
            refine gi_iconst (q := 64) (v := 0) C (dm_St_gather 33 rfl) rfl (by decide) ?_
            rw [show (0 : Int32) = nI 0 from rfl]
            refine gi_callv 1 (q := 67) C (dm_St_gather 34 rfl) rfl my_Ro_valueAt lk_St_127 im_Ro_valueAt rfl (c_Ro_valueAt (j := 0) (by omega) (by omega) RO) RO.1 rfl rfl ⟨(Nat.le_of_ble_eq_true rfl), (Nat.le_of_ble_eq_true rfl)⟩ (Nat.le_of_ble_eq_true rfl) ⟨(Nat.le_of_ble_eq_true rfl), (Nat.le_of_ble_eq_true rfl)⟩ (fun r64 n64 h64 e64 => ?_)
            obtain ⟨rfl, q64, u64⟩ := e64
            rw [q64, u64]
            refine gi_callv 1 (q := 70) C (dm_St_gather 35 rfl) rfl my_Va_both lk_St_272 im_Va_both rfl (c_Va_both_N (a + 64) _ x0 (by omega) Y.vou (by have r3 := rv.2.2; rw [e0] at r3; exact r3)) Y.vou rfl rfl ⟨(Nat.le_of_ble_eq_true rfl), (Nat.le_of_ble_eq_true rfl)⟩ (Nat.le_of_ble_eq_true rfl) ⟨(Nat.le_of_ble_eq_true rfl), (Nat.le_of_ble_eq_true rfl)⟩ (fun r67 n67 h67 e67 => ?_)
            obtain ⟨rfl, rfl, rfl⟩ := e67
            refine gi_iinc (q := 73) (v := 1) C (dm_St_gather 36 rfl) rfl rfl (by decide) (Nat.le_of_ble_eq_true rfl) ?_
            refine gi_goto (tgt := 6) C (dm_St_gather 37 rfl) (by decide) ?_
            refine gi_close (ih (i + 1) _ ⟨hlt, ?_⟩ (by omega)) (List.forall_mem_cons.mpr ⟨(by simp [gi_look, nI_1]), List.forall_mem_cons.mpr ⟨rfl, List.forall_mem_cons.mpr ⟨rfl, List.forall_mem_cons.mpr ⟨rfl, fun _ h => absurd h List.not_mem_nil⟩⟩⟩⟩) rfl rfl rfl
            have ge : gathF (frF fr to Ff Z) 480 bs (i + 1) = some x0 := by
              show (if bitA bs i = true ∧ ((frF fr to Ff Z) (480 + i)).told = true then _ else _) = _
              rw [if_pos ⟨bt, tl⟩, hg, show (((frF fr to Ff Z) (480 + i)).f 0).1 = .inl x0 from e1]
              rfl
            rw [ge]
            exact Y.pou (sV x0)
          · rw [hg, wS_s] at Y
            have oz := gath_ok (fun s h1 h2 => by obtain ⟨-, x1, e2, o2⟩ := hro s h1 h2; rw [e2]; exact o2) i (by omega) z hg
            refine gi_aload_n (q := 61) (i := 2) C (dm_St_gather 31 rfl) rfl rfl rfl ?_
            refine gi_aload (q := 63) C (dm_St_gather 32 rfl) rfl rfl ?_
            refine gi_iconst (q := 64) (v := 0) C (dm_St_gather 33 rfl) rfl (by decide) ?_
            rw [show (0 : Int32) = nI 0 from rfl]
            refine gi_callv 1 (q := 67) C (dm_St_gather 34 rfl) rfl my_Ro_valueAt lk_St_127 im_Ro_valueAt rfl (c_Ro_valueAt (j := 0) (by omega) (by omega) RO) RO.1 rfl rfl ⟨(Nat.le_of_ble_eq_true rfl), (Nat.le_of_ble_eq_true rfl)⟩ (Nat.le_of_ble_eq_true rfl) ⟨(Nat.le_of_ble_eq_true rfl), (Nat.le_of_ble_eq_true rfl)⟩ (fun r64 n64 h64 e64 => ?_)
            obtain ⟨rfl, q64, u64⟩ := e64
            rw [q64, u64]
            refine gi_callv 1 (q := 70) C (dm_St_gather 35 rfl) rfl my_Va_both lk_St_272 im_Va_both rfl (c_Va_both_S (a + 64) _ z x0 oz ox0 (by omega) Y.vou (by have r3 := rv.2.2; rw [e0] at r3; exact r3)) Y.vou rfl rfl ⟨(Nat.le_of_ble_eq_true rfl), (Nat.le_of_ble_eq_true rfl)⟩ (Nat.le_of_ble_eq_true rfl) ⟨(Nat.le_of_ble_eq_true rfl), (Nat.le_of_ble_eq_true rfl)⟩ (fun r67 n67 h67 e67 => ?_)
            obtain ⟨rfl, rfl, rfl⟩ := e67
            refine gi_iinc (q := 73) (v := 1) C (dm_St_gather 36 rfl) rfl rfl (by decide) (Nat.le_of_ble_eq_true rfl) ?_
            refine gi_goto (tgt := 6) C (dm_St_gather 37 rfl) (by decide) ?_
            refine gi_close (ih (i + 1) _ ⟨hlt, ?_⟩ (by omega)) (List.forall_mem_cons.mpr ⟨(by simp [gi_look, nI_1]), List.forall_mem_cons.mpr ⟨rfl, List.forall_mem_cons.mpr ⟨rfl, List.forall_mem_cons.mpr ⟨rfl, fun _ h => absurd h List.not_mem_nil⟩⟩⟩⟩) rfl rfl rfl
            have ge : gathF (frF fr to Ff Z) 480 bs (i + 1) = some (bothS z x0) := by
              show (if bitA bs i = true ∧ ((frF fr to Ff Z) (480 + i)).told = true then _ else _) = _
              rw [if_pos ⟨bt, tl⟩, hg, show (((frF fr to Ff Z) (480 + i)).f 0).1 = .inl x0 from e1]
              rfl
            rw [ge]
            exact Y.pou (sV (bothS z x0))
set_option maxHeartbeats 4000000 in
set_option maxRecDepth 100000 in
theorem c_St_gather_505 (bs : Int32) (on : Bool) (hT : ∀ t, t < 542 → (T t).1 ≤ 14) (d : DJ a pr bu fr to) (B : SB a pr bu fr to k md P sn wd T Ff Z hA hB) (Q : stO a pr bu fr to hB S x y nx ny (tV bs on) ou be ab Wk Wy En Lo h) (hro : ∀ s, s < 25 → (frF fr to Ff Z (505 + s)).told = true → (frF fr to Ff Z (505 + s)).n = 1 ∧ ∃ x0, ((frF fr to Ff Z (505 + s)).f 0).1 = .inl x0 ∧ okS x0) : gi_T l V y_St_gather b_St_gather 5 none 2 51 0 0 [.ref a, .int 0, .ref (a + 64)] n h (fun r n' h' => r = none ∧ n' = n ∧ stO a pr bu fr to hB S x y nx ny (tV bs on) (sV (wS (gathF (frF fr to Ff Z) 505 bs 25))) be ab Wk Wy En Lo h') := by
  refine gi_enter (by decide) (Nat.le_of_ble_eq_true rfl) ?_
  intro _ _ _ _ _ _ _ _ C hr hnm
  refine gi_aload_n (q := 1) (i := 2) C (dm_St_gather 0 rfl) rfl rfl rfl ?_
  refine gi_callv 0 (q := 4) C (dm_St_gather 1 rfl) rfl my_Va_beNothing lk_St_269 im_Va_beNothing rfl (c_Va_beNothing (a + 64) _ Q.vou) Q.vou rfl rfl ⟨(Nat.le_of_ble_eq_true rfl), (Nat.le_of_ble_eq_true rfl)⟩ (Nat.le_of_ble_eq_true rfl) ⟨(Nat.le_of_ble_eq_true rfl), (Nat.le_of_ble_eq_true rfl)⟩ (fun r1 n1 h1 e1 => ?_)
  obtain ⟨rfl, rfl, rfl⟩ := e1
  have Q1 := Q.pou (sV (1, 0, 0))
  refine gi_iconst (q := 5) (v := 0) C (dm_St_gather 2 rfl) rfl (by decide) ?_
  refine gi_istore_n (q := 6) (i := 3) C (dm_St_gather 3 rfl) rfl rfl (Nat.le_of_ble_eq_true rfl) ?_
  refine gi_while (σ := Nat) (fun i => 25 - i) (fun i => [(3, .int (nI i)), (0, .ref a), (1, .int 0), (2, .ref (a + 64))]) (fun _ => n1) (fun _ => 0) (fun _ => 0) (fun i y' => i ≤ 25 ∧ stO a pr bu fr to hB S x y nx ny (tV bs on) (sV (wS (gathF (frF fr to Ff Z) 505 bs i))) be ab Wk Wy En Lo y') 0 ⟨Nat.zero_le _, Q1⟩ ?_ (List.forall_mem_cons.mpr ⟨rfl, List.forall_mem_cons.mpr ⟨rfl, List.forall_mem_cons.mpr ⟨rfl, List.forall_mem_cons.mpr ⟨rfl, fun _ h => absurd h List.not_mem_nil⟩⟩⟩⟩) rfl rfl rfl
  rintro i y' ⟨hi, Y⟩ ih
  try dsimp only at *
  refine gi_iload_n (q := 7) (i := 3) C (dm_St_gather 4 rfl) rfl rfl rfl ?_
  refine gi_bipush (q := 9) (v := 25) C (dm_St_gather 5 rfl) rfl (by decide) ?_
  refine gi_icmp_ge (q := 12) (tgt := 76) C (dm_St_gather 6 rfl) rfl (by decide) (fun c9 => ?_) (fun c9 => ?_)
  · have hik : i = 25 := by
      rcases Nat.lt_or_ge i 25 with q | q
      · exact absurd c9 (nI_ge (b := 25) q (by omega))
      · omega
    subst hik
    refine gi_vret C hr (dm_St_gather 38 rfl) ?_
    exact ⟨rfl, rfl, Y⟩
  · have hlt : i < 25 := by
      rcases Nat.lt_or_ge i 25 with q | q
      · exact q
      · exact absurd (nI_le (a := 25) q (by omega)) c9
    obtain ⟨Φf, pf, pR⟩ := B.hfr d Y.2
    have RO := pf.2.2.2.2.2.2 (505 + i) (by omega)
    have ri := fa_in fr (505 + i) (by omega)
    have rc : fa_cap (505 + i) = 1 := cap_hi (by omega)
    have d4 := d.2.2.2.1
    refine gi_iload_n (q := 13) (i := 1) C (dm_St_gather 7 rfl) rfl rfl rfl ?_
    refine gi_if_eq (q := 16) (tgt := 27) C (dm_St_gather 8 rfl) rfl (by decide) (fun c13 => ?_) (fun c13 => ?_)
    · refine gi_aload_n (q := 28) (i := 0) C (dm_St_gather 14 rfl) rfl rfl rfl ?_
      refine gi_get (q := 31) C (dm_St_gather 15 rfl) rfl fl_St_66 (by first | exact Y.ob | exact Y.var | exact RO.1) rfl ?_
      refine gi_iload_n (q := 32) (i := 3) C (dm_St_gather 16 rfl) rfl rfl rfl ?_
      refine gi_callv 1 (q := 35) C (dm_St_gather 17 rfl) rfl my_Fa_elementOf lk_St_266 im_Fa_elementOf rfl (c_Fa_elementOf hlt pf) pf.1 rfl rfl ⟨(Nat.le_of_ble_eq_true rfl), (Nat.le_of_ble_eq_true rfl)⟩ (Nat.le_of_ble_eq_true rfl) ⟨(Nat.le_of_ble_eq_true rfl), (Nat.le_of_ble_eq_true rfl)⟩ (fun r32 n32 h32 e32 => ?_)
      obtain ⟨rfl, q32, u32⟩ := e32
      rw [q32, u32]
      refine gi_astore (q := 37) C (dm_St_gather 18 rfl) rfl (Nat.le_of_ble_eq_true rfl) ?_
      refine gi_aload_n (q := 38) (i := 0) C (dm_St_gather 19 rfl) rfl rfl rfl ?_
      refine gi_get (q := 41) C (dm_St_gather 20 rfl) rfl fl_St_52 (by first | exact Y.ob | exact Y.var | exact RO.1) rfl ?_
      refine gi_get (q := 44) C (dm_St_gather 21 rfl) rfl fl_St_249 (by first | exact Y.ob | exact Y.var | exact RO.1) rfl ?_
      refine gi_iload_n (q := 45) (i := 3) C (dm_St_gather 22 rfl) rfl rfl rfl ?_
      refine gi_ishr (q := 46) C (dm_St_gather 23 rfl) rfl ?_
      refine gi_iconst (q := 47) (v := 1) C (dm_St_gather 24 rfl) rfl (by decide) ?_
      refine gi_iand (q := 48) C (dm_St_gather 25 rfl) rfl ?_
      refine gi_iconst (q := 49) (v := 1) C (dm_St_gather 26 rfl) rfl (by decide) ?_
      refine gi_icmp_ne (q := 52) (tgt := 70) C (dm_St_gather 27 rfl) rfl (by decide) (fun c49 => ?_) (fun c49 => ?_)
      · refine gi_iinc (q := 73) (v := 1) C (dm_St_gather 36 rfl) rfl rfl (by decide) (Nat.le_of_ble_eq_true rfl) ?_
        refine gi_goto (tgt := 6) C (dm_St_gather 37 rfl) (by decide) ?_
        refine gi_close (ih (i + 1) _ ⟨hlt, ?_⟩ (by omega)) (List.forall_mem_cons.mpr ⟨(by simp [gi_look, nI_1]), List.forall_mem_cons.mpr ⟨rfl, List.forall_mem_cons.mpr ⟨rfl, List.forall_mem_cons.mpr ⟨rfl, fun _ h => absurd h List.not_mem_nil⟩⟩⟩⟩) rfl rfl rfl
        have ge : gathF (frF fr to Ff Z) 505 bs (i + 1) = gathF (frF fr to Ff Z) 505 bs i := by
          show (if bitA bs i = true ∧ ((frF fr to Ff Z) (505 + i)).told = true then _ else _) = _
          rw [if_neg (by
            rintro ⟨z1, z2⟩
            first
              | exact c49 ((sh_bit bs (by omega)).mpr z1)
              | (have z3 := (pR (505 + i) (by omega)).1
                 rw [show ((if fr = to then Z.1 else Ff) (505 + i)).told = true from z2] at z3
                 rw [z3] at c57
                 exact absurd c57 (by decide)))]
        rw [ge]
        exact Y
      · refine gi_aload (q := 54) C (dm_St_gather 28 rfl) rfl rfl ?_
        refine gi_get (q := 57) C (dm_St_gather 29 rfl) rfl fl_St_81 (by first | exact Y.ob | exact Y.var | exact RO.1) rfl ?_
        refine gi_if_eq (q := 60) (tgt := 70) C (dm_St_gather 30 rfl) rfl (by decide) (fun c57 => ?_) (fun c57 => ?_)
        · refine gi_iinc (q := 73) (v := 1) C (dm_St_gather 36 rfl) rfl rfl (by decide) (Nat.le_of_ble_eq_true rfl) ?_
          refine gi_goto (tgt := 6) C (dm_St_gather 37 rfl) (by decide) ?_
          refine gi_close (ih (i + 1) _ ⟨hlt, ?_⟩ (by omega)) (List.forall_mem_cons.mpr ⟨(by simp [gi_look, nI_1]), List.forall_mem_cons.mpr ⟨rfl, List.forall_mem_cons.mpr ⟨rfl, List.forall_mem_cons.mpr ⟨rfl, fun _ h => absurd h List.not_mem_nil⟩⟩⟩⟩) rfl rfl rfl
          have ge : gathF (frF fr to Ff Z) 505 bs (i + 1) = gathF (frF fr to Ff Z) 505 bs i := by
            show (if bitA bs i = true ∧ ((frF fr to Ff Z) (505 + i)).told = true then _ else _) = _
            rw [if_neg (by
              rintro ⟨z1, z2⟩
              first
                | exact c49 ((sh_bit bs (by omega)).mpr z1)
                | (have z3 := (pR (505 + i) (by omega)).1
                   rw [show ((if fr = to then Z.1 else Ff) (505 + i)).told = true from z2] at z3
                   rw [z3] at c57
                   exact absurd c57 (by decide)))]
          rw [ge]
          exact Y
        · have bt := (sh_bit bs (show i < 32 by omega)).mp c49
          have tl : (frF fr to Ff Z (505 + i)).told = true := bI_t (b := (frF fr to Ff Z (505 + i)).told) (by rw [← (pR (505 + i) (by omega)).1]; exact c57)
          obtain ⟨rn, x0, e1, ox0⟩ := hro i hlt tl
          have RG := ((pR (505 + i) (by omega)).2.2 tl).1
          have e0 := (RG.2 0 (by rw [show ((if fr = to then Z.1 else Ff) (505 + i)).n = 1 from rn]; omega)).1
          rw [show (((if fr = to then Z.1 else Ff) (505 + i)).f 0).1 = .inl x0 from e1] at e0
          have rv := RO.2.2.2.1 0 (by omega)
          rcases hg : gathF (frF fr to Ff Z) 505 bs i with _ | z
          · rw [hg, wS_n] at Y
            refine gi_aload_n (q := 61) (i := 2) C (dm_St_gather 31 rfl) rfl rfl rfl ?_
            refine gi_aload (q := 63) C (dm_St_gather 32 rfl) rfl rfl ?_
            refine gi_iconst (q := 64) (v := 0) C (dm_St_gather 33 rfl) rfl (by decide) ?_
            rw [show (0 : Int32) = nI 0 from rfl]
            refine gi_callv 1 (q := 67) C (dm_St_gather 34 rfl) rfl my_Ro_valueAt lk_St_127 im_Ro_valueAt rfl (c_Ro_valueAt (j := 0) (by omega) (by omega) RO) RO.1 rfl rfl ⟨(Nat.le_of_ble_eq_true rfl), (Nat.le_of_ble_eq_true rfl)⟩ (Nat.le_of_ble_eq_true rfl) ⟨(Nat.le_of_ble_eq_true rfl), (Nat.le_of_ble_eq_true rfl)⟩ (fun r64 n64 h64 e64 => ?_)
            obtain ⟨rfl, q64, u64⟩ := e64
            rw [q64, u64]
            refine gi_callv 1 (q := 70) C (dm_St_gather 35 rfl) rfl my_Va_both lk_St_272 im_Va_both rfl (c_Va_both_N (a + 64) _ x0 (by omega) Y.vou (by have r3 := rv.2.2; rw [e0] at r3; exact r3)) Y.vou rfl rfl ⟨(Nat.le_of_ble_eq_true rfl), (Nat.le_of_ble_eq_true rfl)⟩ (Nat.le_of_ble_eq_true rfl) ⟨(Nat.le_of_ble_eq_true rfl), (Nat.le_of_ble_eq_true rfl)⟩ (fun r67 n67 h67 e67 => ?_)
            obtain ⟨rfl, rfl, rfl⟩ := e67
            refine gi_iinc (q := 73) (v := 1) C (dm_St_gather 36 rfl) rfl rfl (by decide) (Nat.le_of_ble_eq_true rfl) ?_
            refine gi_goto (tgt := 6) C (dm_St_gather 37 rfl) (by decide) ?_
            refine gi_close (ih (i + 1) _ ⟨hlt, ?_⟩ (by omega)) (List.forall_mem_cons.mpr ⟨(by simp [gi_look, nI_1]), List.forall_mem_cons.mpr ⟨rfl, List.forall_mem_cons.mpr ⟨rfl, List.forall_mem_cons.mpr ⟨rfl, fun _ h => absurd h List.not_mem_nil⟩⟩⟩⟩) rfl rfl rfl
            have ge : gathF (frF fr to Ff Z) 505 bs (i + 1) = some x0 := by
              show (if bitA bs i = true ∧ ((frF fr to Ff Z) (505 + i)).told = true then _ else _) = _
              rw [if_pos ⟨bt, tl⟩, hg, show (((frF fr to Ff Z) (505 + i)).f 0).1 = .inl x0 from e1]
              rfl
            rw [ge]
            exact Y.pou (sV x0)
          · rw [hg, wS_s] at Y
            have oz := gath_ok (fun s h1 h2 => by obtain ⟨-, x1, e2, o2⟩ := hro s h1 h2; rw [e2]; exact o2) i (by omega) z hg
            refine gi_aload_n (q := 61) (i := 2) C (dm_St_gather 31 rfl) rfl rfl rfl ?_
            refine gi_aload (q := 63) C (dm_St_gather 32 rfl) rfl rfl ?_
            refine gi_iconst (q := 64) (v := 0) C (dm_St_gather 33 rfl) rfl (by decide) ?_
            rw [show (0 : Int32) = nI 0 from rfl]
            refine gi_callv 1 (q := 67) C (dm_St_gather 34 rfl) rfl my_Ro_valueAt lk_St_127 im_Ro_valueAt rfl (c_Ro_valueAt (j := 0) (by omega) (by omega) RO) RO.1 rfl rfl ⟨(Nat.le_of_ble_eq_true rfl), (Nat.le_of_ble_eq_true rfl)⟩ (Nat.le_of_ble_eq_true rfl) ⟨(Nat.le_of_ble_eq_true rfl), (Nat.le_of_ble_eq_true rfl)⟩ (fun r64 n64 h64 e64 => ?_)
            obtain ⟨rfl, q64, u64⟩ := e64
            rw [q64, u64]
            refine gi_callv 1 (q := 70) C (dm_St_gather 35 rfl) rfl my_Va_both lk_St_272 im_Va_both rfl (c_Va_both_S (a + 64) _ z x0 oz ox0 (by omega) Y.vou (by have r3 := rv.2.2; rw [e0] at r3; exact r3)) Y.vou rfl rfl ⟨(Nat.le_of_ble_eq_true rfl), (Nat.le_of_ble_eq_true rfl)⟩ (Nat.le_of_ble_eq_true rfl) ⟨(Nat.le_of_ble_eq_true rfl), (Nat.le_of_ble_eq_true rfl)⟩ (fun r67 n67 h67 e67 => ?_)
            obtain ⟨rfl, rfl, rfl⟩ := e67
            refine gi_iinc (q := 73) (v := 1) C (dm_St_gather 36 rfl) rfl rfl (by decide) (Nat.le_of_ble_eq_true rfl) ?_
            refine gi_goto (tgt := 6) C (dm_St_gather 37 rfl) (by decide) ?_
            refine gi_close (ih (i + 1) _ ⟨hlt, ?_⟩ (by omega)) (List.forall_mem_cons.mpr ⟨(by simp [gi_look, nI_1]), List.forall_mem_cons.mpr ⟨rfl, List.forall_mem_cons.mpr ⟨rfl, List.forall_mem_cons.mpr ⟨rfl, fun _ h => absurd h List.not_mem_nil⟩⟩⟩⟩) rfl rfl rfl
            have ge : gathF (frF fr to Ff Z) 505 bs (i + 1) = some (bothS z x0) := by
              show (if bitA bs i = true ∧ ((frF fr to Ff Z) (505 + i)).told = true then _ else _) = _
              rw [if_pos ⟨bt, tl⟩, hg, show (((frF fr to Ff Z) (505 + i)).f 0).1 = .inl x0 from e1]
              rfl
            rw [ge]
            exact Y.pou (sV (bothS z x0))
    · exact absurd rfl c13
end STC
