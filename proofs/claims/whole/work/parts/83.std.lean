-- needs: 82
section STD
variable {l : Launch} {V : gi_V} {n : Nat} {h h' h0 : gi_H} {a pr bu fr to k m md : Nat} {P : Pm} {S : Nat → Int32} {x y nx ny ar ou be ab : mV} {Wk Wy En Lo : mR} {F : Fa} {Φ : Nat → mR} {T : Nat → Ty} {wd : Nat → Bool} {cb : Bool}
variable {f : Nat → Sl} {n0 i : Nat} {sn : Nat → Nat} {Ff : Fa} {Z : Fa × Bool} {hA hB : gi_H}
theorem nI_neg1 (i : Nat) : nI i - 1 = nI i + -1 := Int32.sub_eq_add_neg _ _
theorem nI_ne1 {i : Nat} (h1 : 1 ≤ i) : nI i + -1 = nI (i - 1) := by rw [← nI_neg1, nI_m1 h1]
/-- the arguments from the last on, taken over -/
def enA (P : Pm) (c n0 : Nat) (f : Nat → Sl) (i : Nat) : Nat → Sl := fun j => if i ≤ j ∧ j < pN P 1 c then ((f (n0 - pN P 1 c + j)).1, -1) else entE P c j
theorem enA_0 {P : Pm} {c n0 : Nat} {f : Nat → Sl} : enA P c n0 f 0 = entF P c n0 f := by
  funext j
  unfold enA entF entE
  by_cases z : j < pN P 1 c
  · rw [if_pos ⟨by omega, z⟩, if_pos z]
  · rw [if_neg (by omega), if_neg z]
set_option maxHeartbeats 4000000 in
set_option maxRecDepth 100000 in
theorem c_St_enter (cc : Nat) (h2 : md ≤ 2) (W : wfP k P) (hm : m < k) (hT : ∀ t, t < 542 → (T t).1 ≤ 14) (d : DJ a pr bu fr to) (B : SB a pr bu fr to k md P sn wd T Ff Z hA hB) (hS : SS S md m i Z.2) (Q : stO a pr bu fr to hB S x y nx ny ar ou be ab Wk Wy En Lo h) (G : isG Wk n0 f) (hcc : cc < k) (hna : pN P 1 cc ≤ n0) (g14 : n0 ≤ 14) (hw : wd (60 * cc + 0) = true) (hc1 : okC T (60 * cc + 0, pN P 2 cc, entF P cc n0 f)) (hfn : (frF fr to Ff Z (534 + cc)).told = true → (frF fr to Ff Z (534 + cc)).n ≤ 1) (hfs : (frF fr to Ff Z (534 + cc)).told = true → (frF fr to Ff Z (534 + cc)).n = 1 → n0 - pN P 1 cc < 14) : gi_T l V y_St_enter b_St_enter 3 (some .boolean) 4 102 0 0 [.ref a, .int (nI cc)] n h (fun r n' h' => n' = n ∧ ∃ hC S' En' Wk', SS S' md m i ((comeM md wd Z (60 * cc + 0, pN P 2 cc, entF P cc n0 f))).2 ∧ SB a pr bu fr to k md P sn wd T Ff (comeM md wd Z (60 * cc + 0, pN P 2 cc, entF P cc n0 f)) hA hC ∧ stO a pr bu fr to hC S' x y nx ny ar ou be ab Wk' Wy En' Lo h' ∧ (((frF fr to Ff Z (534 + cc)).told = false ∧ r = some (.int 0)) ∨ ((frF fr to Ff Z (534 + cc)).told = true ∧ r = some (.int 1) ∧ isG Wk' (if (frF fr to Ff Z (534 + cc)).n = 0 then n0 - pN P 1 cc else n0 - pN P 1 cc + 1) (if (frF fr to Ff Z (534 + cc)).n = 0 then f else upF f (n0 - pN P 1 cc) (((frF fr to Ff Z (534 + cc)).f 0).1, -1))))) := by
  refine gi_enter (by decide) (Nat.le_of_ble_eq_true rfl) ?_
  intro _ _ _ _ _ _ _ _ C hr hnm
  have hmd2 := h2
  have w8 := W.k8
  have wc := wf_ar W hcc
  have Hp := B.hpr d Q.2
  refine gi_aload_n (q := 1) (i := 0) C (dm_St_enter 0 rfl) rfl rfl rfl ?_
  refine gi_iload_n (q := 2) (i := 1) C (dm_St_enter 1 rfl) rfl rfl rfl ?_
  refine gi_callv 1 (q := 5) C (dm_St_enter 2 rfl) rfl my_St_openEntry lk_St_121 im_St_openEntry rfl (c_St_openEntry Q W hcc B.1 d.1) Q.ob rfl rfl ⟨(Nat.le_of_ble_eq_true rfl), (Nat.le_of_ble_eq_true rfl)⟩ (Nat.le_of_ble_eq_true rfl) ⟨(Nat.le_of_ble_eq_true rfl), (Nat.le_of_ble_eq_true rfl)⟩ (fun r2 n2 h2 e2 => ?_)
  obtain ⟨rfl, rfl, En', Q2, G2⟩ := e2
  refine gi_aload_n (q := 6) (i := 0) C (dm_St_enter 3 rfl) rfl rfl rfl ?_
  refine gi_get (q := 9) C (dm_St_enter 4 rfl) rfl fl_St_58 (by first | exact Q2.ob | exact Q.ob) rfl ?_
  refine gi_iload_n (q := 10) (i := 1) C (dm_St_enter 5 rfl) rfl rfl rfl ?_
  have Hp2 := B.hpr d Q2.2
  refine gi_callv 1 (q := 13) C (dm_St_enter 6 rfl) rfl my_Pr_argumentsOf lk_St_124 im_Pr_argumentsOf rfl (q_args W hcc (B.hpr d Q2.2)) (B.hpr d Q2.2).1 rfl rfl ⟨(Nat.le_of_ble_eq_true rfl), (Nat.le_of_ble_eq_true rfl)⟩ (Nat.le_of_ble_eq_true rfl) ⟨(Nat.le_of_ble_eq_true rfl), (Nat.le_of_ble_eq_true rfl)⟩ (fun r10 n10 h10 e10 => ?_)
  obtain ⟨rfl, q10, u10⟩ := e10
  rw [q10, u10]
  refine gi_iconst (q := 14) (v := 1) C (dm_St_enter 7 rfl) rfl (by decide) ?_
  refine gi_isub (q := 15) C (dm_St_enter 8 rfl) rfl ?_
  refine gi_istore_n (q := 16) (i := 2) C (dm_St_enter 9 rfl) rfl rfl (Nat.le_of_ble_eq_true rfl) ?_
  refine gi_while (σ := Nat × mR × mR) (fun p => p.1) (fun p => [(2, .int (nI p.1 + -1)), (0, .ref a), (1, .int (nI cc))]) (fun _ => n2) (fun _ => 0) (fun _ => 0) (fun p y' => p.1 ≤ pN P 1 cc ∧ stO a pr bu fr to hB S x y nx ny ar ou be ab p.2.1 Wy p.2.2 Lo y' ∧ isG p.2.1 (n0 - (pN P 1 cc - p.1)) f ∧ isG p.2.2 (pN P 2 cc) (enA P cc n0 f p.1)) (pN P 1 cc, Wk, En') ⟨Nat.le_refl _, Q2, by simpa using G, G2.ext (fun j hj => by unfold enA; rw [if_neg (by omega)])⟩ ?_ (List.forall_mem_cons.mpr ⟨(by simp [gi_look, nI_neg1]), List.forall_mem_cons.mpr ⟨rfl, List.forall_mem_cons.mpr ⟨rfl, fun _ h => absurd h List.not_mem_nil⟩⟩⟩) rfl rfl rfl
  rintro ⟨i, Rw, Re⟩ y' ⟨hi, Y, GW, GE⟩ ih
  try dsimp only at *
  have yi := fun j (hj : j < 14) => Y.en.2.2.2.1 j hj
  refine gi_iload_n (q := 17) (i := 2) C (dm_St_enter 10 rfl) rfl rfl rfl ?_
  refine gi_if_lt (q := 20) (tgt := 42) C (dm_St_enter 11 rfl) rfl (by decide) (fun c17 => ?_) (fun c17 => ?_)
  · have hi0 : i = 0 := by
      rcases Nat.eq_zero_or_pos i with q | q
      · exact q
      · exact absurd c17 (by rw [nI_ne1 q]; exact Int32.not_lt.mpr (nI_nn (by omega)))
    subst hi0
    rw [Nat.sub_zero] at GW
    rw [enA_0] at GE
    obtain ⟨ft, ot⟩ := B.ob d Y.2
    refine gi_aload_n (q := 43) (i := 0) C (dm_St_enter 22 rfl) rfl rfl rfl ?_
    refine gi_aload_n (q := 44) (i := 0) C (dm_St_enter 23 rfl) rfl rfl rfl ?_
    refine gi_get (q := 47) C (dm_St_enter 24 rfl) rfl fl_St_70 (by first | exact Q89.ob | exact Q57.ob | exact Y.ob) rfl ?_
    refine gi_iload_n (q := 48) (i := 1) C (dm_St_enter 25 rfl) rfl rfl rfl ?_
    refine gi_iconst (q := 49) (v := 0) C (dm_St_enter 26 rfl) rfl (by decide) ?_
    rw [show (0 : Int32) = nI 0 from rfl]
    refine gi_callv 2 (q := 52) C (dm_St_enter 27 rfl) rfl my_Fa_stateAt lk_St_134 im_Fa_stateAt rfl (b_state (j := 0) B d Y.2 (by omega) (by omega)) ot rfl rfl ⟨(Nat.le_of_ble_eq_true rfl), (Nat.le_of_ble_eq_true rfl)⟩ (Nat.le_of_ble_eq_true rfl) ⟨(Nat.le_of_ble_eq_true rfl), (Nat.le_of_ble_eq_true rfl)⟩ (fun r49 n49 h49 e49 => ?_)
    obtain ⟨rfl, q49, u49⟩ := e49
    rw [q49, u49]
    refine gi_aload_n (q := 53) (i := 0) C (dm_St_enter 28 rfl) rfl rfl rfl ?_
    refine gi_get (q := 56) C (dm_St_enter 29 rfl) rfl fl_St_30 (by first | exact Q89.ob | exact Q57.ob | exact Y.ob) rfl ?_
    refine gi_iconst (q := 57) (v := 1) C (dm_St_enter 30 rfl) rfl (by decide) ?_
    refine gi_callv 3 (q := 60) C (dm_St_enter 31 rfl) rfl my_St_come lk_St_140 im_St_come rfl (b_come1 (a + 38) 14 (pN P 2 cc) (60 * cc + 0) _ _ hmd2 B hT d hS Y (by omega) (by omega) (by omega) Y.en GE (by omega) (by rw [cap_st (by omega)]; omega) hc1 hw) Y.ob rfl rfl ⟨(Nat.le_of_ble_eq_true rfl), (Nat.le_of_ble_eq_true rfl)⟩ (Nat.le_of_ble_eq_true rfl) ⟨(Nat.le_of_ble_eq_true rfl), (Nat.le_of_ble_eq_true rfl)⟩ (fun r57 n57 h57 e57 => ?_)
    obtain ⟨rfl, rfl, S57, hS57, B57, Q57⟩ := e57
    obtain ⟨Φf, pf, pR⟩ := B57.hfr d Q57.2
    have eF : (if fr = to then ((comeM md wd Z (60 * cc + 0, pN P 2 cc, entF P cc n0 f))).1 else Ff) (534 + cc) = (frF fr to Ff Z (534 + cc)) := by
      unfold frF
      by_cases z : fr = to
      · rw [if_pos z, if_pos z, comeM_ne (by show 534 + cc ≠ 60 * cc + 0; omega)]
      · rw [if_neg z, if_neg z]
    have RO := pf.2.2.2.2.2.2 (534 + cc) (by omega)
    have ri := fa_in fr (534 + cc) (by omega)
    have rc : fa_cap (534 + cc) = 1 := cap_hi (by omega)
    have d4 := d.2.2.2.1
    have RR0 := pR (534 + cc) (by omega)
    rw [eF] at RR0
    refine gi_aload_n (q := 61) (i := 0) C (dm_St_enter 32 rfl) rfl rfl rfl ?_
    refine gi_get (q := 64) C (dm_St_enter 33 rfl) rfl fl_St_66 (by first | exact Q89.ob | exact Q57.ob | exact Y.ob) rfl ?_
    refine gi_iload_n (q := 65) (i := 1) C (dm_St_enter 34 rfl) rfl rfl rfl ?_
    refine gi_callv 1 (q := 68) C (dm_St_enter 35 rfl) rfl my_Fa_resultOf lk_St_279 im_Fa_resultOf rfl (c_Fa_resultOf (i := cc) (by omega) pf) pf.1 rfl rfl ⟨(Nat.le_of_ble_eq_true rfl), (Nat.le_of_ble_eq_true rfl)⟩ (Nat.le_of_ble_eq_true rfl) ⟨(Nat.le_of_ble_eq_true rfl), (Nat.le_of_ble_eq_true rfl)⟩ (fun r65 n65 h65 e65 => ?_)
    obtain ⟨rfl, q65, u65⟩ := e65
    rw [q65, u65]
    refine gi_astore_n (q := 69) (i := 2) C (dm_St_enter 36 rfl) rfl rfl (Nat.le_of_ble_eq_true rfl) ?_
    refine gi_aload_n (q := 70) (i := 2) C (dm_St_enter 37 rfl) rfl rfl rfl ?_
    refine gi_get (q := 73) C (dm_St_enter 38 rfl) rfl fl_St_81 RO.1 rfl ?_
    refine gi_if_ne (q := 76) (tgt := 78) C (dm_St_enter 39 rfl) rfl (by decide) (fun c73 => ?_) (fun c73 => ?_)
    · have tl : (frF fr to Ff Z (534 + cc)).told = true := bI_t (b := (frF fr to Ff Z (534 + cc)).told) (by rw [← RR0.1]; exact c73)
      have RG := (RR0.2.2 tl).1
      refine gi_aload_n (q := 79) (i := 2) C (dm_St_enter 42 rfl) rfl rfl rfl ?_
      refine gi_get (q := 82) C (dm_St_enter 43 rfl) rfl fl_St_92 RO.1 rfl ?_
      refine gi_if_le (q := 85) (tgt := 100) C (dm_St_enter 44 rfl) rfl (by decide) (fun c82 => ?_) (fun c82 => ?_)
      · refine gi_iconst (q := 101) (v := 1) C (dm_St_enter 52 rfl) rfl (by decide) ?_
        refine gi_zret C hr (dm_St_enter 53 rfl) rfl ?_
        first
          | (refine ⟨rfl, _, _, _, _, hS57, B57, (K _).1, Or.inr ⟨tl, rfl, ?_⟩⟩
             rw [if_neg (by omega), if_neg (by omega)]
             exact (K _).2)
          | (have n0' : (frF fr to Ff Z (534 + cc)).n = 0 := by
               have hb := hfn tl
               rcases Nat.eq_zero_or_pos ((frF fr to Ff Z (534 + cc)).n) with z | z
               · exact z
               · exfalso
                 rw [RG.1, show (frF fr to Ff Z (534 + cc)).n = 1 by omega] at c82
                 exact absurd c82 (by decide)
             refine ⟨rfl, _, _, _, _, hS57, B57, Q57, Or.inr ⟨tl, rfl, ?_⟩⟩
             rw [if_pos n0', if_pos n0']
             exact GW)
      · have n1 : (frF fr to Ff Z (534 + cc)).n = 1 := by
          have hb := hfn tl
          rcases Nat.eq_zero_or_pos ((frF fr to Ff Z (534 + cc)).n) with z | z
          · exfalso
            rw [RG.1, z] at c82
            exact c82 (by decide)
          · omega
        have hlt := hfs tl n1
        have rv := RO.2.2.2.1 0 (by omega)
        rw [(RG.2 0 (by omega)).1] at rv
        refine gi_aload_n (q := 86) (i := 0) C (dm_St_enter 45 rfl) rfl rfl rfl ?_
        refine gi_get (q := 89) C (dm_St_enter 46 rfl) rfl fl_St_23 (by first | exact Q89.ob | exact Q57.ob | exact Y.ob) rfl ?_
        refine gi_callv 0 (q := 92) C (dm_St_enter 47 rfl) rfl my_Ro_push lk_St_95 im_Ro_push rfl (s_push Q57 GW (by omega)) Q57.wk.1 rfl rfl ⟨(Nat.le_of_ble_eq_true rfl), (Nat.le_of_ble_eq_true rfl)⟩ (Nat.le_of_ble_eq_true rfl) ⟨(Nat.le_of_ble_eq_true rfl), (Nat.le_of_ble_eq_true rfl)⟩ (fun r89 n89 h89 e89 => ?_)
        obtain ⟨rfl, qq, W1, uu, rfl, k1, k2, k3, Q89, K⟩ := e89
        have rv3 : h89 ((Φf (534 + cc)).1 0) = _ := (Q89.2 _ (by omega)).trans ((Q57.2 _ (by omega)).symm.trans rv.2.2)
        have RO9 := RO.keep (h' := h89) (fun b b1 b2 => (Q89.2 _ (by omega)).trans (Q57.2 _ (by omega)).symm)
        refine gi_aload_n (q := 93) (i := 2) C (dm_St_enter 48 rfl) rfl rfl rfl ?_
        refine gi_iconst (q := 94) (v := 0) C (dm_St_enter 49 rfl) rfl (by decide) ?_
        rw [show (0 : Int32) = nI 0 from rfl]
        refine gi_callv 1 (q := 97) C (dm_St_enter 50 rfl) rfl my_Ro_valueAt lk_St_127 im_Ro_valueAt rfl (c_Ro_valueAt (j := 0) (by omega) (by omega) RO9) RO9.1 rfl rfl ⟨(Nat.le_of_ble_eq_true rfl), (Nat.le_of_ble_eq_true rfl)⟩ (Nat.le_of_ble_eq_true rfl) ⟨(Nat.le_of_ble_eq_true rfl), (Nat.le_of_ble_eq_true rfl)⟩ (fun r94 n94 h94 e94 => ?_)
        obtain ⟨rfl, q94, u94⟩ := e94
        rw [q94, u94]
        refine gi_callv 1 (q := 100) C (dm_St_enter 51 rfl) rfl my_Va_copy lk_St_99 im_Va_copy rfl (c_Va_copy qq _ uu _ k3 rv3 (by omega) (wf_A _)) k3 rfl rfl ⟨(Nat.le_of_ble_eq_true rfl), (Nat.le_of_ble_eq_true rfl)⟩ (Nat.le_of_ble_eq_true rfl) ⟨(Nat.le_of_ble_eq_true rfl), (Nat.le_of_ble_eq_true rfl)⟩ (fun r97 n97 h97 e97 => ?_)
        obtain ⟨rfl, rfl, rfl⟩ := e97
        refine gi_iconst (q := 101) (v := 1) C (dm_St_enter 52 rfl) rfl (by decide) ?_
        refine gi_zret C hr (dm_St_enter 53 rfl) rfl ?_
        first
          | (refine ⟨rfl, _, _, _, _, hS57, B57, (K _).1, Or.inr ⟨tl, rfl, ?_⟩⟩
             rw [if_neg (by omega), if_neg (by omega)]
             exact (K _).2)
          | (have n0' : (frF fr to Ff Z (534 + cc)).n = 0 := by
               have hb := hfn tl
               rcases Nat.eq_zero_or_pos ((frF fr to Ff Z (534 + cc)).n) with z | z
               · exact z
               · exfalso
                 rw [RG.1, show (frF fr to Ff Z (534 + cc)).n = 1 by omega] at c82
                 exact absurd c82 (by decide)
             refine ⟨rfl, _, _, _, _, hS57, B57, Q57, Or.inr ⟨tl, rfl, ?_⟩⟩
             rw [if_pos n0', if_pos n0']
             exact GW)
    · refine gi_iconst (q := 77) (v := 0) C (dm_St_enter 40 rfl) rfl (by decide) ?_
      refine gi_zret C hr (dm_St_enter 41 rfl) rfl ?_
      have tf : (frF fr to Ff Z (534 + cc)).told = false := bI_fa (by rw [← RR0.1]; exact c73)
      exact ⟨rfl, _, _, _, _, hS57, B57, Q57, Or.inl ⟨tf, rfl⟩⟩
  · have h1i : 1 ≤ i := by
      rcases Nat.eq_zero_or_pos i with q | q
      · exact absurd (show nI i + -1 < 0 by rw [q]; decide) c17
      · exact q
    have v0 := yi (i - 1) (by omega)
    have va := v0.1
    have vb := v0.2.1
    rw [nI_ne1 h1i]
    refine gi_aload_n (q := 21) (i := 0) C (dm_St_enter 12 rfl) rfl rfl rfl ?_
    refine gi_get (q := 24) C (dm_St_enter 13 rfl) rfl fl_St_23 Y.ob rfl ?_
    refine gi_aload_n (q := 25) (i := 0) C (dm_St_enter 14 rfl) rfl rfl rfl ?_
    refine gi_get (q := 28) C (dm_St_enter 15 rfl) rfl fl_St_30 Y.ob rfl ?_
    refine gi_iload_n (q := 29) (i := 2) C (dm_St_enter 16 rfl) rfl rfl rfl ?_
    refine gi_callv 1 (q := 32) C (dm_St_enter 17 rfl) rfl my_Ro_valueAt lk_St_127 im_Ro_valueAt rfl (c_Ro_valueAt (j := i - 1) (by omega) (by omega) Y.en) Y.en.1 rfl rfl ⟨(Nat.le_of_ble_eq_true rfl), (Nat.le_of_ble_eq_true rfl)⟩ (Nat.le_of_ble_eq_true rfl) ⟨(Nat.le_of_ble_eq_true rfl), (Nat.le_of_ble_eq_true rfl)⟩ (fun r29 n29 h29 e29 => ?_)
    obtain ⟨rfl, q29, u29⟩ := e29
    rw [q29, u29]
    refine gi_callv 1 (q := 35) C (dm_St_enter 18 rfl) rfl my_Ro_pop lk_St_198 im_Ro_pop rfl (c_Ro_pop (Re.1 (i - 1)) _ (s := n0 - (pN P 1 cc - i)) (by omega) (by omega) (by omega) Y.wk GW.1 (GW.wf _ (by omega)) (by omega) v0.2.2) Y.wk.1 rfl rfl ⟨(Nat.le_of_ble_eq_true rfl), (Nat.le_of_ble_eq_true rfl)⟩ (Nat.le_of_ble_eq_true rfl) ⟨(Nat.le_of_ble_eq_true rfl), (Nat.le_of_ble_eq_true rfl)⟩ (fun r32 n32 h32 e32 => ?_)
    obtain ⟨rfl, rfl, S32, X32, O32⟩ := e32
    refine gi_pop (q := 36) C (dm_St_enter 19 rfl) rfl rfl ?_
    refine gi_iinc (q := 39) (v := -1) C (dm_St_enter 20 rfl) rfl rfl (by decide) (Nat.le_of_ble_eq_true rfl) ?_
    refine gi_goto (tgt := 16) C (dm_St_enter 21 rfl) (by decide) ?_
    have ex := (GW.2 (n0 - (pN P 1 cc - i) - 1) (by omega)).1
    rw [ex] at X32
    have E1 := Y.en.v (show i - 1 < 14 by omega) (eA (f (n0 - (pN P 1 cc - i) - 1)).1)
    have E2 : ro_at (a + 38) 14 (rV Re (i - 1) (eA (f (n0 - (pN P 1 cc - i) - 1)).1)) h32 := E1.keep (fun b b1 b2 => by
      by_cases z : b = Re.1 (i - 1)
      · rw [z, gi_up_self]
        exact X32
      · rw [gi_up_ne z]
        exact O32 b (by omega) z)
    have Y2 : stO a pr bu fr to hB S x y nx ny ar ou be ab (rO Rw (nI (n0 - (pN P 1 cc - i) - 1)) Rw.2.2.1 Rw.2.2.2.1) Wy (rV Re (i - 1) (eA (f (n0 - (pN P 1 cc - i) - 1)).1)) Lo h32 := by
      obtain ⟨⟨p0, ⟨q0, q1, q2⟩, r0, r1, r2, r3, v0, v1, v2, v3, v4, v5⟩, po⟩ := Y
      have K : ∀ {b : Nat}, b ≠ a + 4 → (b < a + 41 ∨ a + 55 ≤ b) → h32 b = y' b := fun h1 h2 => O32 _ h1 (by omega)
      exact ⟨⟨(K (by omega) (by omega)).trans p0, ⟨(K (by omega) (by omega)).trans q0, (K (by omega) (by omega)).trans q1, (K (by omega) (by omega)).trans q2⟩, S32, r1.keep (fun b b1 b2 => K (by omega) (by omega)), E2, r3.keep (fun b b1 b2 => K (by omega) (by omega)), (K (by omega) (by omega)).trans v0, (K (by omega) (by omega)).trans v1, (K (by omega) (by omega)).trans v2, (K (by omega) (by omega)).trans v3, (K (by omega) (by omega)).trans v4, (K (by omega) (by omega)).trans v5⟩, fun b hb => (K (by omega) (by omega)).trans (po b hb)⟩
    refine gi_close (ih (i - 1, _, _) _ ⟨by simp only; omega, Y2, ?_, ?_⟩ (by simp only; omega)) (List.forall_mem_cons.mpr ⟨(by simp [gi_look]), List.forall_mem_cons.mpr ⟨rfl, List.forall_mem_cons.mpr ⟨rfl, fun _ h => absurd h List.not_mem_nil⟩⟩⟩) rfl rfl rfl
    · have t := GW.pop Rw.2.2.1 Rw.2.2.2.1 (m := n0 - (pN P 1 cc - i) - 1) (by omega)
      simp only
      rw [show n0 - (pN P 1 cc - (i - 1)) = n0 - (pN P 1 cc - i) - 1 by omega]
      exact t
    · refine (GE.val (j := i - 1) (f (n0 - (pN P 1 cc - i) - 1)).1).ext (fun j hj => ?_)
      by_cases z : j = i - 1
      · subst z
        rw [upF_self]
        unfold enA
        rw [if_neg (by omega), if_pos ⟨Nat.le_refl _, by omega⟩, show n0 - pN P 1 cc + (i - 1) = n0 - (pN P 1 cc - i) - 1 by omega]
        unfold entE
        split <;> rfl
      · rw [upF_ne z]
        unfold enA
        by_cases z2 : i ≤ j ∧ j < pN P 1 cc
        · rw [if_pos z2, if_pos (by omega)]
        · rw [if_neg z2, if_neg (by omega)]
end STD
