-- needs: 89.20
section Q2
variable {l : Launch} {V : gi_V} {n : Nat} {h : gi_H} {X k : Nat} {cr ct : Int32} {P : Pm} {F : Fa} {Φ : Nat → mR} {sh : Nat → Option Sh}
theorem i2l_eL (x : Int32) : x.toInt64 = eL x.toInt := by
  apply Int64.toInt_inj.mp
  have h1 := x.le_toInt
  have h2 := x.toInt_lt
  rw [Int32.toInt_toInt64, eL_toInt (by omega) (by omega)]
/-- a certificate with a span planted -/
def pltR (r : Rw) (j : Nat) (lo hi : Int32) : Rw := mkR r.told r.ch r.n (upF r.f j (.inl (mkS lo.toInt hi.toInt 1), (r.f j).2))
def pltF (F : Fa) (p j : Nat) (lo hi : Int32) : Fa := upO F p (pltR (F p) j lo hi)
def fgtF (F : Fa) (p : Nat) : Fa := upO F p (mkR false (F p).ch (F p).n (F p).f)
def plJ (k : Nat) (P : Pm) (F : Fa) (m q sl lo hi : Int32) : Option Nat := match tdx k P F m q sl with
  | none => none
  | some j => if arA ((F (pq m q)).f j).1 = false ∧ lo ≤ hi then some j else none
theorem arA_1 (v : Av) : (eA v).1 = bI (arA v) := by
  cases v <;> rfl
theorem FaR.up {p : Nat} {r : Rw} {R' : mR} (h : FaR F Φ) (hr : isR (fa_cap p) r R') : FaR (upO F p r) (upV Φ p R') := fun t ht => by
  by_cases e : t = p
  · subst e
    rw [upO_self]
    simp only [upV, if_true]
    exact hr
  · rw [upO_ne e]
    simp only [upV, e, if_false]
    exact h t ht
set_option maxHeartbeats 4000000 in
set_option maxRecDepth 100000 in
theorem c_H_plant (m q sl lo hi : Int32) (W : wfP k P) (Hw : CW X k P F Φ 1 cr h) : gi_T l V y_H_plant b_H_plant 7 (some .boolean) 4 90 0 0 [.ref X, .int m, .int q, .int sl, .int lo, .int hi] n h (fun v n' h' => n' = n ∧ ((plJ k P F m q sl lo hi = none ∧ v = some (.int 0) ∧ h' = h) ∨ (∃ j, plJ k P F m q sl lo hi = some j ∧ v = some (.int 1) ∧ (∃ Φ', CW X k P (pltF F (pq m q) j lo hi) Φ' 1 cr h') ∧ outF (X + 17) h h'))) := by
  refine gi_enter (by decide) (Nat.le_of_ble_eq_true rfl) ?_
  intro _ _ _ _ _ _ _ _ C hr hnm
  obtain ⟨HX, HP, HC, R⟩ := id Hw
  have HX0 := HX
  unfold hs_ob at HX0
  have w8 := W.k8
  refine gi_aload_n (q := 1) (i := 0) C (dm_H_plant 0 rfl) rfl rfl rfl ?_
  refine gi_iload_n (q := 2) (i := 1) C (dm_H_plant 1 rfl) rfl rfl rfl ?_
  refine gi_iload_n (q := 3) (i := 2) C (dm_H_plant 2 rfl) rfl rfl rfl ?_
  refine gi_iload_n (q := 4) (i := 3) C (dm_H_plant 3 rfl) rfl rfl rfl ?_
  refine gi_callv 3 (q := 7) C (dm_H_plant 4 rfl) rfl my_H_told lk_H_139 im_H_told rfl (c_H_told m q sl W Hw) HX0 rfl rfl ⟨(Nat.le_of_ble_eq_true rfl), (Nat.le_of_ble_eq_true rfl)⟩ (Nat.le_of_ble_eq_true rfl) ⟨(Nat.le_of_ble_eq_true rfl), (Nat.le_of_ble_eq_true rfl)⟩ (fun r4 n4 h4 e4 => ?_)
  obtain ⟨rfl, q4, u4⟩ := e4
  rw [q4, u4]
  cases e0 : tdx k P F m q sl
  · refine gi_astoreN (q := 9) C (dm_H_plant 5 rfl) rfl (Nat.le_of_ble_eq_true rfl) ?_
    refine gi_aloadN (q := 11) C (dm_H_plant 6 rfl) rfl rfl ?_
    refine gi_ifnullN (tgt := 29) C (dm_H_plant 7 rfl) (by decide) ?_
    refine gi_iconst (q := 30) (v := 0) C (dm_H_plant 14 rfl) rfl (by decide) ?_
    refine gi_zret C hr (dm_H_plant 15 rfl) rfl ?_
    refine ⟨rfl, Or.inl ⟨?_, rfl, rfl⟩⟩
    unfold plJ
    rw [e0]
  · rename_i j
    obtain ⟨rc, j0, ei, jn⟩ : rcV k P F m q = true ∧ ∃ j0, ixS P m.toNatClampNeg sl = some j0 ∧ j0 < (F (pq m q)).n ∧ j0 = j := by
      unfold tdx at e0
      split at e0
      · rename_i rc
        refine ⟨rc, ?_⟩
        cases ei : ixS P m.toNatClampNeg sl with
        | none => rw [ei] at e0; cases e0
        | some j1 =>
          rw [ei] at e0
          dsimp only at e0
          split at e0
          · rename_i z
            exact ⟨j1, rfl, z, Option.some.inj e0⟩
          · cases e0
      · cases e0
    obtain ⟨jn, rfl⟩ := jn
    have rc' := rc
    unfold rcV at rc'
    rw [Bool.and_eq_true] at rc'
    obtain ⟨a, b, ha, hb, hb60, rfl, rfl, ep⟩ := isP_ex W rc'.1
    have tl := rc'.2
    rw [ep] at tl jn
    have wa := wf_ar W ha
    have RO := HC.2.2.2.2.2.2 (60 * a + b) (by omega)
    have RR := R (60 * a + b) (by omega)
    have RG := RR.2.2 tl
    have rcp : fa_cap (60 * a + b) = 14 := cap_st (by omega)
    rw [rcp] at RO RR RG
    have mc : (nI a).toNatClampNeg = a := nI_clamp (by omega)
    rw [mc] at ei
    have jb : j0 < 14 := ixS_b wa.2.1 ei
    rw [show tdR Φ (nI a) (nI b) (some j0) = Value.ref ((Φ (60 * a + b)).1 j0) from by unfold tdR; rw [ep]]
    refine gi_astore (q := 9) C (dm_H_plant 5 rfl) rfl (Nat.le_of_ble_eq_true rfl) ?_
    refine gi_aload (q := 11) C (dm_H_plant 6 rfl) rfl rfl ?_
    refine gi_ifnull (q := 14) C (dm_H_plant 7 rfl) rfl ?_
    refine gi_aload (q := 16) C (dm_H_plant 8 rfl) rfl rfl ?_
    refine gi_get (q := 19) C (dm_H_plant 9 rfl) rfl fl_H_197 (rv_at RO jb) rfl ?_
    refine gi_if_ne (q := 22) (tgt := 29) C (dm_H_plant 10 rfl) rfl (by decide) (fun c19 => ?_) (fun c19 => ?_)
    · refine gi_iconst (q := 30) (v := 0) C (dm_H_plant 14 rfl) rfl (by decide) ?_
      refine gi_zret C hr (dm_H_plant 15 rfl) rfl ?_
      refine ⟨rfl, Or.inl ⟨?_, rfl, rfl⟩⟩
      unfold plJ
      rw [e0]
      dsimp only
      rw [ep, if_neg]
      rintro ⟨z1, z2⟩
      first
        | exact absurd z2 (by simpa using c26)
        | (rw [show ((Φ (60 * a + b)).2.2.2.2.1 j0).1 = bI (arA ((F (60 * a + b)).f j0).1) from by rw [(RG.1.2 j0 jn).1]; exact arA_1 _, z1] at c19; exact absurd rfl c19)
    · refine gi_iload (q := 24) C (dm_H_plant 11 rfl) rfl rfl ?_
      refine gi_iload (q := 26) C (dm_H_plant 12 rfl) rfl rfl ?_
      refine gi_icmp_le (q := 29) (tgt := 31) C (dm_H_plant 13 rfl) rfl (by decide) (fun c26 => ?_) (fun c26 => ?_)
      · refine gi_aload (q := 33) C (dm_H_plant 16 rfl) rfl rfl ?_
        refine gi_iload (q := 35) C (dm_H_plant 17 rfl) rfl rfl ?_
        refine gi_i2l (q := 36) C (dm_H_plant 18 rfl) rfl ?_
        refine gi_iload (q := 38) C (dm_H_plant 19 rfl) rfl rfl ?_
        refine gi_i2l (q := 39) C (dm_H_plant 20 rfl) rfl ?_
        refine gi_lconst (q := 40) (v := 1) C (dm_H_plant 21 rfl) rfl (by decide) ?_
        refine gi_callv 3 (q := 43) C (dm_H_plant 22 rfl) rfl my_Va_beSpan lk_H_200 im_Va_beSpan rfl (c_Va_beSpan _ _ lo.toInt64 hi.toInt64 1 (rv_at RO jb)) (rv_at RO jb) rfl rfl ⟨(Nat.le_of_ble_eq_true rfl), (Nat.le_of_ble_eq_true rfl)⟩ (Nat.le_of_ble_eq_true rfl) ⟨(Nat.le_of_ble_eq_true rfl), (Nat.le_of_ble_eq_true rfl)⟩ (fun r40 n40 h40 e40 => ?_)
        obtain ⟨rfl, rfl, rfl⟩ := e40
        refine gi_iconst (q := 44) (v := 1) C (dm_H_plant 23 rfl) rfl (by decide) ?_
        refine gi_zret C hr (dm_H_plant 24 rfl) rfl ?_
        refine ⟨rfl, Or.inr ⟨j0, ?_, rfl, ⟨upV Φ (60 * a + b) (rV (Φ (60 * a + b)) j0 (sV (mkS lo.toInt hi.toInt 1))), ?_⟩, fun c hc => ?_⟩⟩
        · unfold plJ
          rw [e0]
          dsimp only
          rw [ep, if_pos ⟨bI_fa (by rw [← arA_1, ← (RG.1.2 j0 jn).1]; exact c19), c26⟩]
        · have b1 := lo.le_toInt
          have b2 := lo.toInt_lt
          have b3 := hi.le_toInt
          have b4 := hi.toInt_lt
          have em : mSpan lo.toInt64 hi.toInt64 1 = sV (mkS lo.toInt hi.toInt 1) := by
            rw [i2l_eL, i2l_eL, show (1 : Int64) = eL 1 from rfl]
            exact mSpan_mk (by omega) (by omega) (by omega) (by omega)
          rw [em, ep]
          have ri := fa_in (X + 17) (60 * a + b) (by omega)
          have rj := RO.2.2.2.1 j0 jb
          rw [rcp] at ri
          refine ⟨?_, HP.keep2 (fun c c1 c2 => gi_up_ne (by omega)), HC.row (by omega) (by rw [rcp]; exact RO.v jb _) (fun c hc => gi_up_ne (by rw [rcp] at hc; omega)), R.up ?_⟩
          · unfold hs_ob
            rw [gi_up_ne (by omega)]
            exact HX
          · rw [rcp]
            refine ⟨RR.1, RR.2.1, fun _ => ⟨⟨RG.1.1, fun i hi => ?_⟩, RG.2⟩⟩
            show upV (Φ (60 * a + b)).2.2.2.2.1 j0 _ i = eA (upF (F (60 * a + b)).f j0 _ i).1 ∧ (Φ (60 * a + b)).2.2.2.2.2 i = (upF (F (60 * a + b)).f j0 _ i).2
            by_cases z : i = j0
            · subst z
              rw [upF_self]
              exact ⟨by simp [upV]; rfl, (RG.1.2 i jn).2⟩
            · rw [upF_ne z]
              have := RG.1.2 i hi
              exact ⟨by simp only [upV, z, if_false]; exact this.1, this.2⟩
        · have ri := fa_in (X + 17) (60 * a + b) (by omega)
          have rj := RO.2.2.2.1 j0 jb
          rw [rcp] at ri
          exact gi_up_ne (by omega)
      · refine gi_iconst (q := 30) (v := 0) C (dm_H_plant 14 rfl) rfl (by decide) ?_
        refine gi_zret C hr (dm_H_plant 15 rfl) rfl ?_
        refine ⟨rfl, Or.inl ⟨?_, rfl, rfl⟩⟩
        unfold plJ
        rw [e0]
        dsimp only
        rw [ep, if_neg]
        rintro ⟨z1, z2⟩
        first
          | exact absurd z2 (by simpa using c26)
          | (rw [show ((Φ (60 * a + b)).2.2.2.2.1 j0).1 = bI (arA ((F (60 * a + b)).f j0).1) from by rw [(RG.1.2 j0 jn).1]; exact arA_1 _, z1] at c19; exact absurd rfl c19)
set_option maxHeartbeats 4000000 in
set_option maxRecDepth 100000 in
theorem c_H_forgetState (m q : Int32) (W : wfP k P) (Hw : CW X k P F Φ 1 cr h) : gi_T l V y_H_forgetState b_H_forgetState 3 (some .boolean) 3 65 0 0 [.ref X, .int m, .int q] n h (fun v n' h' => n' = n ∧ v = some (.int (bI (rcV k P F m q))) ∧ ((rcV k P F m q = false ∧ h' = h) ∨ (rcV k P F m q = true ∧ (∃ Φ', CW X k P (fgtF F (pq m q)) Φ' 1 cr h') ∧ outF (X + 17) h h'))) := by
  refine gi_enter (by decide) (Nat.le_of_ble_eq_true rfl) ?_
  intro _ _ _ _ _ _ _ _ C hr hnm
  obtain ⟨HX, HP, HC, R⟩ := id Hw
  have HX0 := HX
  unfold hs_ob at HX0
  have w8 := W.k8
  refine gi_aload_n (q := 1) (i := 0) C (dm_H_forgetState 0 rfl) rfl rfl rfl ?_
  refine gi_iload_n (q := 2) (i := 1) C (dm_H_forgetState 1 rfl) rfl rfl rfl ?_
  refine gi_iload_n (q := 3) (i := 2) C (dm_H_forgetState 2 rfl) rfl rfl rfl ?_
  refine gi_callv 2 (q := 6) C (dm_H_forgetState 3 rfl) rfl my_H_reached lk_H_204 im_H_reached rfl (c_H_reached m q W Hw) HX0 rfl rfl ⟨(Nat.le_of_ble_eq_true rfl), (Nat.le_of_ble_eq_true rfl)⟩ (Nat.le_of_ble_eq_true rfl) ⟨(Nat.le_of_ble_eq_true rfl), (Nat.le_of_ble_eq_true rfl)⟩ (fun r3 n3 h3 e3 => ?_)
  obtain ⟨rfl, q3, u3⟩ := e3
  rw [q3, u3]
  refine gi_if_ne (q := 9) (tgt := 11) C (dm_H_forgetState 4 rfl) rfl (by decide) (fun c6 => ?_) (fun c6 => ?_)
  · have rc := bI_t c6
    have rc' := rc
    unfold rcV at rc'
    rw [Bool.and_eq_true] at rc'
    obtain ⟨a, b, ha, hb, hb60, rfl, rfl, ep⟩ := isP_ex W rc'.1
    have RO := HC.2.2.2.2.2.2 (60 * a + b) (by omega)
    have RR := R (60 * a + b) (by omega)
    have rcp : fa_cap (60 * a + b) = 14 := cap_st (by omega)
    rw [rcp] at RO RR
    refine gi_aload_n (q := 12) (i := 0) C (dm_H_forgetState 7 rfl) rfl rfl rfl ?_
    refine gi_get (q := 15) C (dm_H_forgetState 8 rfl) rfl fl_H_28 HX0 rfl ?_
    refine gi_iload_n (q := 16) (i := 1) C (dm_H_forgetState 9 rfl) rfl rfl rfl ?_
    refine gi_iload_n (q := 17) (i := 2) C (dm_H_forgetState 10 rfl) rfl rfl rfl ?_
    refine gi_callv 2 (q := 20) C (dm_H_forgetState 11 rfl) rfl my_Fa_stateAt lk_H_130 im_Fa_stateAt rfl (c_Fa_stateAt (m := a) (i := b) (by omega) hb60 HC) HC.1 rfl rfl ⟨(Nat.le_of_ble_eq_true rfl), (Nat.le_of_ble_eq_true rfl)⟩ (Nat.le_of_ble_eq_true rfl) ⟨(Nat.le_of_ble_eq_true rfl), (Nat.le_of_ble_eq_true rfl)⟩ (fun r17 n17 h17 e17 => ?_)
    obtain ⟨rfl, q17, u17⟩ := e17
    rw [q17, u17]
    refine gi_iconst (q := 21) (v := 0) C (dm_H_forgetState 12 rfl) rfl (by decide) ?_
    refine gi_put (q := 24) C (dm_H_forgetState 13 rfl) rfl fl_H_134 fp_Ro_3 RO.1 (Nat.le_of_ble_eq_true rfl) rfl rfl ?_
    refine gi_iconst (q := 25) (v := 1) C (dm_H_forgetState 14 rfl) rfl (by decide) ?_
    refine gi_zret C hr (dm_H_forgetState 15 rfl) rfl ?_
    have ri := fa_in (X + 17) (60 * a + b) (by omega)
    rw [rcp] at ri
    refine ⟨rfl, by rw [rc]; rfl, Or.inr ⟨rc, ⟨upV Φ (60 * a + b) (rO (Φ (60 * a + b)) (Φ (60 * a + b)).2.1 0 (Φ (60 * a + b)).2.2.2.1), ?_⟩, fun c hc => gi_up_ne (by omega)⟩⟩
    rw [ep]
    refine ⟨?_, HP.keep2 (fun c c1 c2 => gi_up_ne (by omega)), HC.row (by omega) (by rw [rcp]; exact RO.o _ _ _) (fun c hc => gi_up_ne (by rw [rcp] at hc; omega)), R.up ?_⟩
    · unfold hs_ob
      rw [gi_up_ne (by omega)]
      exact HX
    · rw [rcp]
      exact ⟨rfl, RR.2.1, fun z => by cases z⟩
  · refine gi_iconst (q := 10) (v := 0) C (dm_H_forgetState 5 rfl) rfl (by decide) ?_
    refine gi_zret C hr (dm_H_forgetState 6 rfl) rfl ?_
    have rc := bI_fa c6
    exact ⟨rfl, by rw [rc]; rfl, Or.inl ⟨rc, rfl⟩⟩
theorem fld_one (hr : rdO (tyF P sh) F) {j : Nat} (hj : j < 4) : (F (530 + j)).told = true ∧ (F (530 + j)).n = 1 := by
  have tl := hr.2 j hj
  have g := (hr.1 (530 + j) (by omega)).1 tl
  refine ⟨tl, ?_⟩
  rw [g.1]
  unfold tyF
  rw [if_neg (by omega), if_pos (by omega)]
def flA (F : Fa) (f wh : Int32) : Int64 := if 0 ≤ f.toInt ∧ f.toInt < 4 then partV (eA ((F (530 + f.toNatClampNeg)).f 0).1) wh else NOl
set_option maxHeartbeats 4000000 in
set_option maxRecDepth 100000 in
theorem c_H_field (f wh : Int32) (W : wfP k P) (hr : rdO (tyF P sh) F) (Hw : CW X k P F Φ 1 cr h) : gi_T l V y_H_field b_H_field 3 (some .long) 2 42 0 0 [.ref X, .int f, .int wh] n h (gi_is (some (.long (flA F f wh))) n h) := by
  refine gi_enter (by decide) (Nat.le_of_ble_eq_true rfl) ?_
  intro _ _ _ _ _ _ _ _ C hr9 hnm
  obtain ⟨HX, HP, HC, R⟩ := id Hw
  have HX0 := HX
  unfold hs_ob at HX0
  have w8 := W.k8
  refine gi_aload_n (q := 1) (i := 0) C (dm_H_field 0 rfl) rfl rfl rfl ?_
  refine gi_get (q := 4) C (dm_H_field 1 rfl) rfl fl_H_69 HX0 rfl ?_
  refine gi_if_eq (q := 7) (tgt := 16) C (dm_H_field 2 rfl) rfl (by decide) (fun c4 => ?_) (fun c4 => ?_)
  · exact absurd c4 (by decide)
  · refine gi_iload_n (q := 8) (i := 1) C (dm_H_field 3 rfl) rfl rfl rfl ?_
    refine gi_if_lt (q := 11) (tgt := 16) C (dm_H_field 4 rfl) rfl (by decide) (fun c8 => ?_) (fun c8 => ?_)
    · refine gi_ldc2 (q := 19) C (dm_H_field 8 rfl) rfl kc_H_142 ?_
      refine gi_lret C hr9 (dm_H_field 9 rfl) ?_
      refine ⟨?_, rfl, rfl⟩
      unfold flA
      rw [if_neg]
      rintro ⟨z1, z2⟩
      first
        | (rw [i_0] at c8; omega)
        | exact absurd ((i_lt (x := 4) (by omega)).mpr z2) c13
    · refine gi_iload_n (q := 12) (i := 1) C (dm_H_field 5 rfl) rfl rfl rfl ?_
      refine gi_iconst (q := 13) (v := 4) C (dm_H_field 6 rfl) rfl (by decide) ?_
      refine gi_icmp_lt (q := 16) (tgt := 20) C (dm_H_field 7 rfl) rfl (by decide) (fun c13 => ?_) (fun c13 => ?_)
      · rw [i_0] at c8
        have c13' : f.toInt < 4 := (i_lt (x := 4) (by omega)).mp c13
        have fn := nn_nI (a := f) (by omega)
        obtain ⟨j, ej⟩ : ∃ j, j = f.toNatClampNeg := ⟨_, rfl⟩
        rw [← ej] at fn
        have j4 : j < 4 := by omega
        rw [fn.1]
        have RO := HC.2.2.2.2.2.2 (530 + j) (by omega)
        have fo := fld_one hr j4
        have RG := (R (530 + j) (by omega)).2.2 fo.1
        have rcp : fa_cap (530 + j) = 1 := by unfold fa_cap; rw [if_neg (by omega)]
        rw [rcp] at RO RG
        refine gi_aload_n (q := 21) (i := 0) C (dm_H_field 10 rfl) rfl rfl rfl ?_
        refine gi_get (q := 24) C (dm_H_field 11 rfl) rfl fl_H_28 HX0 rfl ?_
        refine gi_iload_n (q := 25) (i := 1) C (dm_H_field 12 rfl) rfl rfl rfl ?_
        refine gi_callv 1 (q := 28) C (dm_H_field 13 rfl) rfl my_Fa_fieldOf lk_H_177 im_Fa_fieldOf rfl (c_Fa_fieldOf (i := j) j4 HC) HC.1 rfl rfl ⟨(Nat.le_of_ble_eq_true rfl), (Nat.le_of_ble_eq_true rfl)⟩ (Nat.le_of_ble_eq_true rfl) ⟨(Nat.le_of_ble_eq_true rfl), (Nat.le_of_ble_eq_true rfl)⟩ (fun r25 n25 h25 e25 => ?_)
        obtain ⟨rfl, q25, u25⟩ := e25
        rw [q25, u25]
        refine gi_iconst (q := 29) (v := 0) C (dm_H_field 14 rfl) rfl (by decide) ?_
        refine gi_callv 1 (q := 32) C (dm_H_field 15 rfl) rfl my_Ro_valueAt lk_H_173 im_Ro_valueAt rfl (c_Ro_valueAt (j := 0) (by omega) (by omega) RO) RO.1 rfl rfl ⟨(Nat.le_of_ble_eq_true rfl), (Nat.le_of_ble_eq_true rfl)⟩ (Nat.le_of_ble_eq_true rfl) ⟨(Nat.le_of_ble_eq_true rfl), (Nat.le_of_ble_eq_true rfl)⟩ (fun r29 n29 h29 e29 => ?_)
        obtain ⟨rfl, q29, u29⟩ := e29
        rw [q29, u29]
        refine gi_iload_n (q := 33) (i := 2) C (dm_H_field 16 rfl) rfl rfl rfl ?_
        refine gi_callv 1 (q := 36) C (dm_H_field 17 rfl) rfl my_Va_part lk_H_151 im_Va_part rfl (c_Va_part _ _ wh (rv_at RO (by omega))) (rv_at RO (by omega)) rfl rfl ⟨(Nat.le_of_ble_eq_true rfl), (Nat.le_of_ble_eq_true rfl)⟩ (Nat.le_of_ble_eq_true rfl) ⟨(Nat.le_of_ble_eq_true rfl), (Nat.le_of_ble_eq_true rfl)⟩ (fun r33 n33 h33 e33 => ?_)
        obtain ⟨rfl, q33, u33⟩ := e33
        rw [q33, u33]
        refine gi_lret C hr9 (dm_H_field 18 rfl) ?_
        refine ⟨?_, rfl, rfl⟩
        unfold flA
        rw [if_pos (by rw [← fn.1]; omega), ← fn.1, ← ej, (RG.1.2 0 (by rw [fo.2]; omega)).1]
      · refine gi_ldc2 (q := 19) C (dm_H_field 8 rfl) rfl kc_H_142 ?_
        refine gi_lret C hr9 (dm_H_field 9 rfl) ?_
        refine ⟨?_, rfl, rfl⟩
        unfold flA
        rw [if_neg]
        rintro ⟨z1, z2⟩
        first
          | (rw [i_0] at c8; omega)
          | exact absurd ((i_lt (x := 4) (by omega)).mpr z2) c13
def rsA (k : Nat) (F : Fa) (m wh : Int32) : Int64 := if isM k m = true then (if wh = 5 then (if (F (534 + m.toNatClampNeg)).told = true then 1 else 0) else if (F (534 + m.toNatClampNeg)).told = true ∧ 0 < (F (534 + m.toNatClampNeg)).n then partV (eA ((F (534 + m.toNatClampNeg)).f 0).1) wh else NOl) else NOl
set_option maxHeartbeats 4000000 in
set_option maxRecDepth 100000 in
theorem c_H_result (m wh : Int32) (W : wfP k P) (Hw : CW X k P F Φ 1 cr h) : gi_T l V y_H_result b_H_result 4 (some .long) 2 42 0 0 [.ref X, .int m, .int wh] n h (gi_is (some (.long (rsA k F m wh))) n h) := by
  refine gi_enter (by decide) (Nat.le_of_ble_eq_true rfl) ?_
  intro _ _ _ _ _ _ _ _ C hr hnm
  obtain ⟨HX, HP, HC, R⟩ := id Hw
  have HX0 := HX
  unfold hs_ob at HX0
  have w8 := W.k8
  refine gi_aload_n (q := 1) (i := 0) C (dm_H_result 0 rfl) rfl rfl rfl ?_
  refine gi_get (q := 4) C (dm_H_result 1 rfl) rfl fl_H_69 HX0 rfl ?_
  refine gi_if_eq (q := 7) (tgt := 18) C (dm_H_result 2 rfl) rfl (by decide) (fun c4 => ?_) (fun c4 => ?_)
  · exact absurd c4 (by decide)
  · refine gi_aload_n (q := 8) (i := 0) C (dm_H_result 3 rfl) rfl rfl rfl ?_
    refine gi_get (q := 11) C (dm_H_result 4 rfl) rfl fl_H_12 HX0 rfl ?_
    refine gi_iload_n (q := 12) (i := 1) C (dm_H_result 5 rfl) rfl rfl rfl ?_
    refine gi_callv 1 (q := 15) C (dm_H_result 6 rfl) rfl my_Pr_hasMethod lk_H_180 im_Pr_hasMethod rfl (c_Pr_hasMethod m W.k8 HP) HP.1 rfl rfl ⟨(Nat.le_of_ble_eq_true rfl), (Nat.le_of_ble_eq_true rfl)⟩ (Nat.le_of_ble_eq_true rfl) ⟨(Nat.le_of_ble_eq_true rfl), (Nat.le_of_ble_eq_true rfl)⟩ (fun r12 n12 h12 e12 => ?_)
    obtain ⟨rfl, q12, u12⟩ := e12
    rw [q12, u12]
    refine gi_if_ne (q := 18) (tgt := 22) C (dm_H_result 7 rfl) rfl (by decide) (fun c15 => ?_) (fun c15 => ?_)
    · have im := bI_t c15
      obtain ⟨a, ha, rfl⟩ := isM_nI w8 im
      have mc : (nI a).toNatClampNeg = a := nI_clamp (by omega)
      have RO := HC.2.2.2.2.2.2 (534 + a) (by omega)
      have RR := R (534 + a) (by omega)
      have rcp : fa_cap (534 + a) = 1 := by unfold fa_cap; rw [if_neg (by omega)]
      rw [rcp] at RO RR
      refine gi_aload_n (q := 23) (i := 0) C (dm_H_result 10 rfl) rfl rfl rfl ?_
      refine gi_get (q := 26) C (dm_H_result 11 rfl) rfl fl_H_28 HX0 rfl ?_
      refine gi_iload_n (q := 27) (i := 1) C (dm_H_result 12 rfl) rfl rfl rfl ?_
      refine gi_callv 1 (q := 30) C (dm_H_result 13 rfl) rfl my_Fa_resultOf lk_H_184 im_Fa_resultOf rfl (c_Fa_resultOf (i := a) (by omega) HC) HC.1 rfl rfl ⟨(Nat.le_of_ble_eq_true rfl), (Nat.le_of_ble_eq_true rfl)⟩ (Nat.le_of_ble_eq_true rfl) ⟨(Nat.le_of_ble_eq_true rfl), (Nat.le_of_ble_eq_true rfl)⟩ (fun r27 n27 h27 e27 => ?_)
      obtain ⟨rfl, q27, u27⟩ := e27
      rw [q27, u27]
      refine gi_astore_n (q := 31) (i := 3) C (dm_H_result 14 rfl) rfl rfl (Nat.le_of_ble_eq_true rfl) ?_
      refine gi_iload_n (q := 32) (i := 2) C (dm_H_result 15 rfl) rfl rfl rfl ?_
      refine gi_iconst (q := 33) (v := 5) C (dm_H_result 16 rfl) rfl (by decide) ?_
      refine gi_icmp_ne (q := 36) (tgt := 49) C (dm_H_result 17 rfl) rfl (by decide) (fun c33 => ?_) (fun c33 => ?_)
      · refine gi_aload_n (q := 50) (i := 3) C (dm_H_result 25 rfl) rfl rfl rfl ?_
        refine gi_get (q := 53) C (dm_H_result 26 rfl) rfl fl_H_134 RO.1 rfl ?_
        refine gi_if_eq (q := 56) (tgt := 75) C (dm_H_result 27 rfl) rfl (by decide) (fun c53 => ?_) (fun c53 => ?_)
        · refine gi_ldc2 (q := 78) C (dm_H_result 37 rfl) rfl kc_H_142 ?_
          refine gi_lret C hr (dm_H_result 38 rfl) ?_
          refine ⟨?_, rfl, rfl⟩
          unfold rsA
          rw [if_pos im, if_neg c33, mc]
          first
            | (rw [if_pos ⟨tl, np⟩, (RG.1.2 0 np).1])
            | (rw [if_neg (fun z => by rw [bI_fa (b := (F (534 + a)).told) (by rw [← RR.1]; exact c53)] at z; cases z.1)])
            | (rw [if_neg (fun z => absurd ((nI_ps0 (by have := RG.2; omega)).mpr z.2) (Int32.not_lt.mpr c60))])
        · have tl : (F (534 + a)).told = true := bI_t (by rw [← RR.1]; exact c53)
          have RG := RR.2.2 tl
          refine gi_aload_n (q := 57) (i := 3) C (dm_H_result 28 rfl) rfl rfl rfl ?_
          refine gi_get (q := 60) C (dm_H_result 29 rfl) rfl fl_H_187 RO.1 rfl ?_
          rw [RG.1.1]
          refine gi_if_le (q := 63) (tgt := 75) C (dm_H_result 30 rfl) rfl (by decide) (fun c60 => ?_) (fun c60 => ?_)
          · refine gi_ldc2 (q := 78) C (dm_H_result 37 rfl) rfl kc_H_142 ?_
            refine gi_lret C hr (dm_H_result 38 rfl) ?_
            refine ⟨?_, rfl, rfl⟩
            unfold rsA
            rw [if_pos im, if_neg c33, mc]
            first
              | (rw [if_pos ⟨tl, np⟩, (RG.1.2 0 np).1])
              | (rw [if_neg (fun z => by rw [bI_fa (b := (F (534 + a)).told) (by rw [← RR.1]; exact c53)] at z; cases z.1)])
              | (rw [if_neg (fun z => absurd ((nI_ps0 (by have := RG.2; omega)).mpr z.2) (Int32.not_lt.mpr c60))])
          · have np : 0 < (F (534 + a)).n := (nI_ps0 (by have := RG.2; omega)).mp (Int32.not_le.mp c60)
            refine gi_aload_n (q := 64) (i := 3) C (dm_H_result 31 rfl) rfl rfl rfl ?_
            refine gi_iconst (q := 65) (v := 0) C (dm_H_result 32 rfl) rfl (by decide) ?_
            refine gi_callv 1 (q := 68) C (dm_H_result 33 rfl) rfl my_Ro_valueAt lk_H_173 im_Ro_valueAt rfl (c_Ro_valueAt (j := 0) (by omega) (by omega) RO) RO.1 rfl rfl ⟨(Nat.le_of_ble_eq_true rfl), (Nat.le_of_ble_eq_true rfl)⟩ (Nat.le_of_ble_eq_true rfl) ⟨(Nat.le_of_ble_eq_true rfl), (Nat.le_of_ble_eq_true rfl)⟩ (fun r65 n65 h65 e65 => ?_)
            obtain ⟨rfl, q65, u65⟩ := e65
            rw [q65, u65]
            refine gi_iload_n (q := 69) (i := 2) C (dm_H_result 34 rfl) rfl rfl rfl ?_
            refine gi_callv 1 (q := 72) C (dm_H_result 35 rfl) rfl my_Va_part lk_H_151 im_Va_part rfl (c_Va_part _ _ wh (rv_at RO (by omega))) (rv_at RO (by omega)) rfl rfl ⟨(Nat.le_of_ble_eq_true rfl), (Nat.le_of_ble_eq_true rfl)⟩ (Nat.le_of_ble_eq_true rfl) ⟨(Nat.le_of_ble_eq_true rfl), (Nat.le_of_ble_eq_true rfl)⟩ (fun r69 n69 h69 e69 => ?_)
            obtain ⟨rfl, q69, u69⟩ := e69
            rw [q69, u69]
            refine gi_goto (tgt := 78) C (dm_H_result 36 rfl) (by decide) ?_
            refine gi_lret C hr (dm_H_result 38 rfl) ?_
            refine ⟨?_, rfl, rfl⟩
            unfold rsA
            rw [if_pos im, if_neg c33, mc]
            first
              | (rw [if_pos ⟨tl, np⟩, (RG.1.2 0 np).1])
              | (rw [if_neg (fun z => by rw [bI_fa (b := (F (534 + a)).told) (by rw [← RR.1]; exact c53)] at z; cases z.1)])
              | (rw [if_neg (fun z => absurd ((nI_ps0 (by have := RG.2; omega)).mpr z.2) (Int32.not_lt.mpr c60))])
      · refine gi_aload_n (q := 37) (i := 3) C (dm_H_result 18 rfl) rfl rfl rfl ?_
        refine gi_get (q := 40) C (dm_H_result 19 rfl) rfl fl_H_134 RO.1 rfl ?_
        refine gi_if_eq (q := 43) (tgt := 47) C (dm_H_result 20 rfl) rfl (by decide) (fun c40 => ?_) (fun c40 => ?_)
        · refine gi_lconst (q := 48) (v := 0) C (dm_H_result 23 rfl) rfl (by decide) ?_
          refine gi_lret C hr (dm_H_result 24 rfl) ?_
          refine ⟨?_, rfl, rfl⟩
          unfold rsA
          rw [if_pos im, if_pos c33, mc]
          first
            | (rw [if_pos (bI_t (by rw [← RR.1]; exact c40))])
            | (rw [if_neg (by rw [bI_fa (b := (F (534 + a)).told) (by rw [← RR.1]; exact c40)]; decide)])
        · refine gi_lconst (q := 44) (v := 1) C (dm_H_result 21 rfl) rfl (by decide) ?_
          refine gi_goto (tgt := 48) C (dm_H_result 22 rfl) (by decide) ?_
          refine gi_lret C hr (dm_H_result 24 rfl) ?_
          refine ⟨?_, rfl, rfl⟩
          unfold rsA
          rw [if_pos im, if_pos c33, mc]
          first
            | (rw [if_pos (bI_t (by rw [← RR.1]; exact c40))])
            | (rw [if_neg (by rw [bI_fa (b := (F (534 + a)).told) (by rw [← RR.1]; exact c40)]; decide)])
    · refine gi_ldc2 (q := 21) C (dm_H_result 8 rfl) rfl kc_H_142 ?_
      refine gi_lret C hr (dm_H_result 9 rfl) ?_
      refine ⟨?_, rfl, rfl⟩
      unfold rsA
      rw [if_neg (by rw [bI_fa c15]; decide)]
end Q2
