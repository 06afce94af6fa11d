-- needs: 88
section ANA
variable {l : Launch} {V : gi_V} {n : Nat} {h h' h0 : gi_H} {a pr bu fr to k m md : Nat} {P : Pm} {S : Nat → Int32} {x y nx ny ar ou be ab : mV} {Wk Wy En Lo : mR} {F : Fa} {Φ : Nat → mR} {T : Nat → Ty} {wd : Nat → Bool} {cb : Bool}
variable {f : Nat → Sl} {n0 i : Nat} {sn : Nat → Nat} {Ff : Fa} {Z : Fa × Bool} {hA hB : gi_H}
variable {sh : Nat → Option Sh} {wd0 : Nat → Bool} {X0 K : Nat} {ct cr r : Int32}
/-- a Stepper, whatever it holds -/
def spX (a pr bu : Nat) (h : gi_H) : Prop := ∃ fr to S x y nx ny ar ou be ab Wk Wy En Lo, stO a pr bu fr to h S x y nx ny ar ou be ab Wk Wy En Lo h
theorem spX.keep (H : spX a pr bu h) (ho : ∀ b, a ≤ b → b < a + 65 → h' b = h b) : spX a pr bu h' := by
  obtain ⟨fr, to, S, x, y, nx, ny, ar, ou, be, ab, Wk, Wy, En, Lo, Q⟩ := H
  exact ⟨_, _, _, _, _, _, _, _, _, _, _, _, _, _, _, Q.ext ho⟩
theorem spX.ob (H : spX a pr bu h) : ∃ fs, h a = some (gi_O 6 fs) := by
  obtain ⟨fr, to, S, x, y, nx, ny, ar, ou, be, ab, Wk, Wy, En, Lo, Q⟩ := H
  exact ⟨_, Q.ob⟩
theorem PW.mk (hp : pr_at pr (nI k) P hB) (hb : buW bu pr k P sn wd hB) (ht : ∃ Φ, fa_at to Φ hB ∧ FaR Z.1 Φ) (hf : ∃ Φ, fa_at fr Φ hB ∧ FaR (if fr = to then Z.1 else Ff) Φ) (ok : okF T Z.1) (ch : md = 0 → chI T wd Z.1) (Q : stO a pr bu fr to hB S x y nx ny ar ou be ab Wk Wy En Lo h) (h6 : S 6 = nI md) (h0' : S 0 = bI Z.2) : PW a pr bu fr to k md P sn wd T Ff Z hB h := ⟨hB, _, _, _, _, _, _, _, _, _, _, _, _, _, h6, h0', ⟨hp, hb, ht, hf, ok, ch, outW.rf⟩, Q⟩
theorem PW.now (H : PW a pr bu fr to k md P sn wd T Ff Z hA h) (d : DJ a pr bu fr to) : pr_at pr (nI k) P h ∧ buW bu pr k P sn wd h ∧ (∃ Φ, fa_at to Φ h ∧ FaR Z.1 Φ) ∧ (∃ Φ, fa_at fr Φ h ∧ FaR (if fr = to then Z.1 else Ff) Φ) ∧ okF T Z.1 ∧ spX a pr bu h := by
  obtain ⟨hC, S', x', y', nx', ny', ar', ou', be', ab', Wk', Wy', En', Lo', h1, h2, B, Q⟩ := H
  exact ⟨B.hpr d Q.2, B.hbu d Q.2, B.hto d Q.2, B.hfr d Q.2, B.2.2.2.2.1, fr, to, S', x', y', nx', ny', ar', ou', be', ab', Wk', Wy', En', Lo', Q.ext (fun _ _ _ => rfl)⟩
theorem c_St_prepX (mm f t : Nat) (H : spX a pr bu h) : gi_T l V y_St_prepare b_St_prepare 4 none 0 0 0 0 [.ref a, .int (nI mm), .ref f, .ref t] n h (fun v n' h' => v = none ∧ n' = n ∧ ∃ S' x' y' nx' ny' ar' ou' be' ab' Wk' Wy' En' Lo', S' 6 = nI mm ∧ S' 0 = bI false ∧ stO a pr bu f t h S' x' y' nx' ny' ar' ou' be' ab' Wk' Wy' En' Lo' h') := by
  obtain ⟨fr, to, S, x, y, nx, ny, ar, ou, be, ab, Wk, Wy, En, Lo, Q⟩ := H
  refine (c_St_prepare (nI mm) f t Q).mono (fun v n' h' hp => ?_)
  exact ⟨hp.1, hp.2.1, _, _, _, _, _, _, _, _, _, _, _, _, _, by simp [upS], by simp [upS, bI], hp.2.2⟩
/-- the roots that may be asked for -/
def rtOk (k : Nat) (r : Int32) : Prop := 0 ≤ r ∧ r < 1 <<< (nI k &&& 31)
def anaP (X0 k : Nat) (P : Pm) (sn : Nat → Nat) (wd0 : Nat → Bool) (r : Int32) (K : Nat) (h h' : gi_H) : Prop := hs_ob X0 1 r h' ∧ (∃ Φ, fa_at (X0 + 17) Φ h' ∧ FaR (cerF P sn k wd0 r K) Φ) ∧ (∃ Φ, fa_at (X0 + 8431) Φ h') ∧ spX (X0 + 16845) (X0 + 1) (X0 + 9) h' ∧ ∀ b, b ≠ X0 → (b < X0 + 17 ∨ X0 + 16910 ≤ b) → h' b = h b
set_option maxHeartbeats 4000000 in
set_option maxRecDepth 100000 in
theorem c_H_analyze_bad (hr : ¬ rtOk k r) (HX : hs_ob X0 ct cr h) (HP : pr_at (X0 + 1) (nI k) P h) (HB : ∃ BS BF, bu_at (X0 + 9) (X0 + 1) BS BF h) : gi_T l V y_H_analyze b_H_analyze 4 (some .int) 7 191 0 0 [.ref X0, .int r] n h (gi_is (some (.int (-1))) n h) := by
  refine gi_enter (by decide) (Nat.le_of_ble_eq_true rfl) ?_
  intro _ _ _ _ _ _ _ _ C hr9 hnm
  have HX0 := HX
  unfold hs_ob at HX0
  obtain ⟨BS, BF, HBB⟩ := HB
  have B0 := HBB.1
  have P0 := HP.1
  refine gi_aload_n (q := 1) (i := 0) C (dm_H_analyze 0 rfl) rfl rfl rfl ?_
  refine gi_get (q := 4) C (dm_H_analyze 1 rfl) rfl fl_H_21 (by assumption) rfl ?_
  refine gi_get (q := 7) C (dm_H_analyze 2 rfl) rfl fl_H_105 (by assumption) rfl ?_
  refine gi_if_eq (q := 10) (tgt := 27) C (dm_H_analyze 3 rfl) rfl (by decide) (fun c7 => ?_) (fun c7 => ?_)
  · refine gi_iconst (q := 28) (v := -1) C (dm_H_analyze 13 rfl) rfl (by decide) ?_
    refine gi_iret C hr9 (dm_H_analyze 14 rfl) ?_
    exact ⟨rfl, rfl, rfl⟩
  · refine gi_iload_n (q := 11) (i := 1) C (dm_H_analyze 4 rfl) rfl rfl rfl ?_
    refine gi_if_lt (q := 14) (tgt := 27) C (dm_H_analyze 5 rfl) rfl (by decide) (fun c11 => ?_) (fun c11 => ?_)
    · refine gi_iconst (q := 28) (v := -1) C (dm_H_analyze 13 rfl) rfl (by decide) ?_
      refine gi_iret C hr9 (dm_H_analyze 14 rfl) ?_
      exact ⟨rfl, rfl, rfl⟩
    · refine gi_iload_n (q := 15) (i := 1) C (dm_H_analyze 6 rfl) rfl rfl rfl ?_
      refine gi_iconst (q := 16) (v := 1) C (dm_H_analyze 7 rfl) rfl (by decide) ?_
      refine gi_aload_n (q := 17) (i := 0) C (dm_H_analyze 8 rfl) rfl rfl rfl ?_
      refine gi_get (q := 20) C (dm_H_analyze 9 rfl) rfl fl_H_12 (by assumption) rfl ?_
      refine gi_get (q := 23) C (dm_H_analyze 10 rfl) rfl fl_H_108 (by assumption) rfl ?_
      refine gi_ishl (q := 24) C (dm_H_analyze 11 rfl) rfl ?_
      refine gi_icmp_lt (q := 27) (tgt := 29) C (dm_H_analyze 12 rfl) rfl (by decide) (fun c24 => ?_) (fun c24 => ?_)
      · exact absurd ⟨Int32.not_lt.mp c11, c24⟩ hr
      · refine gi_iconst (q := 28) (v := -1) C (dm_H_analyze 13 rfl) rfl (by decide) ?_
        refine gi_iret C hr9 (dm_H_analyze 14 rfl) ?_
        exact ⟨rfl, rfl, rfl⟩
set_option maxHeartbeats 4000000 in
set_option maxRecDepth 100000 in
theorem c_H_analyze (hK : psK P sn k wd0 r K) (hr : rtOk k r) (hB0 : Built k P sh sn wd0) (HX : hs_ob X0 ct cr h) (HP : pr_at (X0 + 1) (nI k) P h) (HB : buW (X0 + 9) (X0 + 1) k P sn (grF wd0) h) (hmd : ∃ BS BF, bu_at (X0 + 9) (X0 + 1) BS BF h ∧ BS 0 = 1) (HC : ∃ Φ, fa_at (X0 + 17) Φ h) (HO : ∃ Φ, fa_at (X0 + 8431) Φ h) (HS : spX (X0 + 16845) (X0 + 1) (X0 + 9) h) : gi_T l V y_H_analyze b_H_analyze 4 (some .int) 7 191 0 0 [.ref X0, .int r] n h (fun v n' h' => v = some (.int (nI (K + 1))) ∧ n' = n ∧ anaP X0 k P sn wd0 r K h h') := by
  refine gi_enter (by decide) (Nat.le_of_ble_eq_true rfl) ?_
  intro _ _ _ _ _ _ _ _ C hr9 hnm
  have hK1 := hK.1
  have HX0 := HX
  unfold hs_ob at HX0
  obtain ⟨BS, BF, HBB, hm1⟩ := hmd
  have B0 := HBB.1
  have P0 := HP.1
  have DA0 : DH X0 (X0 + 17) (X0 + 17) := ⟨Or.inl rfl, Or.inl rfl⟩
  have DA1 : DH X0 (X0 + 17) (X0 + 8431) := ⟨Or.inl rfl, Or.inr rfl⟩
  have DA2 : DH X0 (X0 + 8431) (X0 + 17) := ⟨Or.inr rfl, Or.inl rfl⟩
  refine gi_aload_n (q := 1) (i := 0) C (dm_H_analyze 0 rfl) rfl rfl rfl ?_
  refine gi_get (q := 4) C (dm_H_analyze 1 rfl) rfl fl_H_21 HX0 rfl ?_
  refine gi_get (q := 7) C (dm_H_analyze 2 rfl) rfl fl_H_105 B0 rfl ?_
  refine gi_if_eq (q := 10) (tgt := 27) C (dm_H_analyze 3 rfl) rfl (by decide) (fun c7 => ?_) (fun c7 => ?_)
  · exact absurd c7 (by rw [hm1]; decide)
  · refine gi_iload_n (q := 11) (i := 1) C (dm_H_analyze 4 rfl) rfl rfl rfl ?_
    refine gi_if_lt (q := 14) (tgt := 27) C (dm_H_analyze 5 rfl) rfl (by decide) (fun c11 => ?_) (fun c11 => ?_)
    · exact absurd hr.1 (Int32.not_le.mpr c11)
    · refine gi_iload_n (q := 15) (i := 1) C (dm_H_analyze 6 rfl) rfl rfl rfl ?_
      refine gi_iconst (q := 16) (v := 1) C (dm_H_analyze 7 rfl) rfl (by decide) ?_
      refine gi_aload_n (q := 17) (i := 0) C (dm_H_analyze 8 rfl) rfl rfl rfl ?_
      refine gi_get (q := 20) C (dm_H_analyze 9 rfl) rfl fl_H_12 HX0 rfl ?_
      refine gi_get (q := 23) C (dm_H_analyze 10 rfl) rfl fl_H_108 P0 rfl ?_
      refine gi_ishl (q := 24) C (dm_H_analyze 11 rfl) rfl ?_
      refine gi_icmp_lt (q := 27) (tgt := 29) C (dm_H_analyze 12 rfl) rfl (by decide) (fun c24 => ?_) (fun c24 => ?_)
      · obtain ⟨Φc, fc⟩ := HC
        refine gi_aload_n (q := 30) (i := 0) C (dm_H_analyze 15 rfl) rfl rfl rfl ?_
        refine gi_get (q := 33) C (dm_H_analyze 16 rfl) rfl fl_H_28 HX0 rfl ?_
        refine gi_callv 0 (q := 36) C (dm_H_analyze 17 rfl) rfl my_Fa_begin lk_H_111 im_Fa_begin rfl (c_Fa_begin fc) fc.1 rfl rfl ⟨(Nat.le_of_ble_eq_true rfl), (Nat.le_of_ble_eq_true rfl)⟩ (Nat.le_of_ble_eq_true rfl) ⟨(Nat.le_of_ble_eq_true rfl), (Nat.le_of_ble_eq_true rfl)⟩ (fun r33 n33 h33 e33 => ?_)
        obtain ⟨rfl, rfl, ⟨Φ3, f33, r33⟩, out33⟩ := e33
        have HX33 : h33 X0 = _ := (out33 X0 (by omega)).trans HX0
        have hp33 := HP.keep2 (h' := h33) (fun b b1 b2 => out33 b (by omega))
        have hb33 := HB.keep (h' := h33) (fun b b1 b2 => out33 b (by omega))
        have sp33 := HS.keep (h' := h33) (fun b b1 b2 => out33 b (by omega))
        obtain ⟨fs33, ob33⟩ := sp33.ob
        refine gi_aload_n (q := 37) (i := 0) C (dm_H_analyze 18 rfl) rfl rfl rfl ?_
        refine gi_get (q := 40) C (dm_H_analyze 19 rfl) rfl fl_H_40 HX33 rfl ?_
        refine gi_iconst (q := 41) (v := 0) C (dm_H_analyze 20 rfl) rfl (by decide) ?_
        refine gi_aload_n (q := 42) (i := 0) C (dm_H_analyze 21 rfl) rfl rfl rfl ?_
        refine gi_get (q := 45) C (dm_H_analyze 22 rfl) rfl fl_H_28 HX33 rfl ?_
        refine gi_aload_n (q := 46) (i := 0) C (dm_H_analyze 23 rfl) rfl rfl rfl ?_
        refine gi_get (q := 49) C (dm_H_analyze 24 rfl) rfl fl_H_28 HX33 rfl ?_
        refine gi_callv 3 (q := 52) C (dm_H_analyze 25 rfl) rfl my_St_prepare lk_H_114 im_St_prepare rfl (c_St_prepX 0 (X0 + 17) (X0 + 17) sp33) ob33 rfl rfl ⟨(Nat.le_of_ble_eq_true rfl), (Nat.le_of_ble_eq_true rfl)⟩ (Nat.le_of_ble_eq_true rfl) ⟨(Nat.le_of_ble_eq_true rfl), (Nat.le_of_ble_eq_true rfl)⟩ (fun r49 n49 h49 e49 => ?_)
        obtain ⟨rfl, rfl, S', x', y', nx', ny', ar', ou', be', ab', Wk', Wy', En', Lo', s6, s0, Q49⟩ := e49
        have HX2 : hs_ob X0 ct cr h33 := HX33
        have HX49 : h49 X0 = _ := (Q49.2 X0 (by omega)).trans HX33
        have P0 : PW (X0 + 16845) (X0 + 1) (X0 + 9) (X0 + 17) (X0 + 17) k 0 P sn (grF wd0) (tyF P sh) bgF (bgF, false) h33 h49 := PW.mk hp33 hb33 ⟨Φ3, f33, r33⟩ ⟨Φ3, f33, by rw [if_pos rfl]; exact r33⟩ bg_ok (fun _ => bg_chI (fun t ht => (bg_ok t ht).1)) Q49 s6 s0
        refine gi_iconst (q := 53) (v := 0) C (dm_H_analyze 26 rfl) rfl (by decide) ?_
        refine gi_istore_n (q := 54) (i := 2) C (dm_H_analyze 27 rfl) rfl rfl (Nat.le_of_ble_eq_true rfl) ?_
        refine gi_iconst (q := 55) (v := 1) C (dm_H_analyze 28 rfl) rfl (by decide) ?_
        refine gi_istore_n (q := 56) (i := 3) C (dm_H_analyze 29 rfl) rfl rfl (Nat.le_of_ble_eq_true rfl) ?_
        refine gi_while (σ := Nat) (fun j => K + 1 - j) (fun j => [(2, .int (nI j)), (3, .int (bI (decide (j ≤ K)))), (0, .ref X0), (1, .int r)]) (fun _ => n49) (fun _ => 0) (fun _ => 0) (fun j y => j ≤ K + 1 ∧ (∃ b, PW (X0 + 16845) (X0 + 1) (X0 + 9) (X0 + 17) (X0 + 17) k 0 P sn (grF wd0) (tyF P sh) bgF ((itF (grF wd0) (outs P sn) (rootsF P k (fun m => bitA r m)) bgF j), b) h33 y) ∧ ∀ i, i < 4 → ((itF (grF wd0) (outs P sn) (rootsF P k (fun m => bitA r m)) bgF j) (530 + i)).told = true) 0 ⟨Nat.zero_le _, ⟨false, P0⟩, fun i hi => bg_fld hi⟩ ?_ (List.forall_mem_cons.mpr ⟨rfl, List.forall_mem_cons.mpr ⟨(by rw [decide_eq_true (Nat.zero_le _)]; rfl), List.forall_mem_cons.mpr ⟨rfl, List.forall_mem_cons.mpr ⟨rfl, fun _ h => absurd h List.not_mem_nil⟩⟩⟩⟩) rfl rfl rfl
        clear P0
        rintro j y' ⟨hj, ⟨bj, PYk⟩, TY⟩ ih
        try dsimp only at *
        have PYk' := PYk
        obtain ⟨hCy, Sy, xy, yy, nxy, nyy, ary, ouy, bey, aby, Wky, Wyy, Eny, Loy, s1y, s2y, By, Qy⟩ := PYk'
        have HXy : y' X0 = _ := (PYk.out X0 (by omega) (by omega)).trans HX33
        refine gi_iload_n (q := 57) (i := 3) C (dm_H_analyze 30 rfl) rfl rfl rfl ?_
        refine gi_if_eq (q := 60) (tgt := 93) C (dm_H_analyze 31 rfl) rfl (by decide) (fun c57 => ?_) (fun c57 => ?_)
        · have hjK : j = K + 1 := by
            rcases Nat.lt_or_ge K j with q | q
            · omega
            · exact absurd c57 (by rw [decide_eq_true q]; decide)
          have PYY := PYk
          rw [hjK] at PYY TY
          obtain ⟨hpy, hby, ⟨Φc, fcy, rcy⟩, -, oky, spy⟩ := PYY.now DA0.dj
          obtain ⟨Φo, fo⟩ := HO
          have foy := fo.keep (h' := y') (fun b b1 b2 => by rw [PYY.out b (by omega) (by omega), out33 b (by omega)])
          have itld : ∀ j, j < 4 → ((itF (grF wd0) (outs P sn) (rootsF P k (fun m => bitA r m)) bgF (K + 1)) (530 + j)).told = true := TY
          refine gi_aload_n (q := 94) (i := 0) C (dm_H_analyze 48 rfl) rfl rfl rfl ?_
          refine gi_get (q := 97) C (dm_H_analyze 49 rfl) rfl fl_H_32 HXy rfl ?_
          refine gi_callv 0 (q := 100) C (dm_H_analyze 50 rfl) rfl my_Fa_begin lk_H_111 im_Fa_begin rfl (c_Fa_begin (a := X0 + 8431) foy) foy.1 rfl rfl ⟨(Nat.le_of_ble_eq_true rfl), (Nat.le_of_ble_eq_true rfl)⟩ (Nat.le_of_ble_eq_true rfl) ⟨(Nat.le_of_ble_eq_true rfl), (Nat.le_of_ble_eq_true rfl)⟩ (fun r97 n97 h97 e97 => ?_)
          obtain ⟨rfl, rfl, ⟨Φo', fo97, ro97⟩, out97⟩ := e97
          have HX97 : h97 X0 = _ := (out97 X0 (by omega)).trans HXy
          have hp97 := hpy.keep2 (h' := h97) (fun b b1 b2 => out97 b (by omega))
          have hb97 := hby.keep (h' := h97) (fun b b1 b2 => out97 b (by omega))
          have fc97 := fcy.keep (h' := h97) (fun b b1 b2 => out97 b (by omega))
          have sp97 := spy.keep (h' := h97) (fun b b1 b2 => out97 b (by omega))
          obtain ⟨fs97, ob97⟩ := sp97.ob
          refine gi_aload_n (q := 101) (i := 0) C (dm_H_analyze 51 rfl) rfl rfl rfl ?_
          refine gi_get (q := 104) C (dm_H_analyze 52 rfl) rfl fl_H_40 HX97 rfl ?_
          refine gi_iconst (q := 105) (v := 1) C (dm_H_analyze 53 rfl) rfl (by decide) ?_
          refine gi_aload_n (q := 106) (i := 0) C (dm_H_analyze 54 rfl) rfl rfl rfl ?_
          refine gi_get (q := 109) C (dm_H_analyze 55 rfl) rfl fl_H_28 HX97 rfl ?_
          refine gi_aload_n (q := 110) (i := 0) C (dm_H_analyze 56 rfl) rfl rfl rfl ?_
          refine gi_get (q := 113) C (dm_H_analyze 57 rfl) rfl fl_H_32 HX97 rfl ?_
          refine gi_callv 3 (q := 116) C (dm_H_analyze 58 rfl) rfl my_St_prepare lk_H_114 im_St_prepare rfl (c_St_prepX 1 (X0 + 17) (X0 + 8431) sp97) ob97 rfl rfl ⟨(Nat.le_of_ble_eq_true rfl), (Nat.le_of_ble_eq_true rfl)⟩ (Nat.le_of_ble_eq_true rfl) ⟨(Nat.le_of_ble_eq_true rfl), (Nat.le_of_ble_eq_true rfl)⟩ (fun r113 n113 h113 e113 => ?_)
          obtain ⟨rfl, rfl, e113⟩ := e113
          obtain ⟨S', x', y', nx', ny', ar', ou', be', ab', Wk', Wy', En', Lo', s6, s0, Q113⟩ := e113
          have HX113 : h113 X0 = _ := (Q113.2 X0 (by omega)).trans HX97
          have P1 : PW (X0 + 16845) (X0 + 1) (X0 + 9) (X0 + 17) (X0 + 8431) k 1 P sn (grF wd0) (tyF P sh) (itF (grF wd0) (outs P sn) (rootsF P k (fun m => bitA r m)) bgF (K + 1)) (bgF, false) h97 h113 := PW.mk hp97 hb97 ⟨Φo', fo97, ro97⟩ ⟨Φc, fc97, by rw [if_neg (by omega)]; exact rcy⟩ bg_ok (fun z => absurd z (by decide)) Q113 s6 s0
          refine gi_aload_n (q := 117) (i := 0) C (dm_H_analyze 59 rfl) rfl rfl rfl ?_
          refine gi_iload_n (q := 118) (i := 1) C (dm_H_analyze 60 rfl) rfl rfl rfl ?_
          refine gi_callv 1 (q := 121) C (dm_H_analyze 61 rfl) rfl my_H_pass lk_H_122 im_H_pass rfl (c_H_pass (by decide) hB0 DA1 HX97 P1 (Or.inr ⟨it_ok hB0 (r := r) (K + 1), itld⟩) (fun j hj => bg_fld hj)) HX113 rfl rfl ⟨(Nat.le_of_ble_eq_true rfl), (Nat.le_of_ble_eq_true rfl)⟩ (Nat.le_of_ble_eq_true rfl) ⟨(Nat.le_of_ble_eq_true rfl), (Nat.le_of_ble_eq_true rfl)⟩ (fun r118 n118 h118 e118 => ?_)
          obtain ⟨rfl, rfl, P118, T118⟩ := e118
          have ea : (pasS P sn k 1 (grF wd0) (X0 + 17) (X0 + 8431) (itF (grF wd0) (outs P sn) (rootsF P k (fun m => bitA r m)) bgF (K + 1)) r (bgF, false)).1 = anewF P sn (rootsF P k (fun m => bitA r m)) (itF (grF wd0) (outs P sn) (rootsF P k (fun m => bitA r m)) bgF (K + 1)) := by
            rw [pasS_1 hB0 (by omega) (it_ok hB0 (r := r) (K + 1))]
            rfl
          have HX118 : h118 X0 = _ := (P118.out X0 (by omega) (by omega)).trans HX97
          obtain ⟨hp8, hb8, ⟨Φo8, fo8, ro8⟩, ⟨Φc8, fc8, rc8⟩, ok8, sp8⟩ := P118.now DA1.dj
          obtain ⟨fs8, ob8⟩ := sp8.ob
          refine gi_aload_n (q := 122) (i := 0) C (dm_H_analyze 62 rfl) rfl rfl rfl ?_
          refine gi_get (q := 125) C (dm_H_analyze 63 rfl) rfl fl_H_28 HX118 rfl ?_
          refine gi_callv 0 (q := 128) C (dm_H_analyze 64 rfl) rfl my_Fa_begin lk_H_111 im_Fa_begin rfl (c_Fa_begin (a := X0 + 17) fc8) fc8.1 rfl rfl ⟨(Nat.le_of_ble_eq_true rfl), (Nat.le_of_ble_eq_true rfl)⟩ (Nat.le_of_ble_eq_true rfl) ⟨(Nat.le_of_ble_eq_true rfl), (Nat.le_of_ble_eq_true rfl)⟩ (fun r125 n125 h125 e125 => ?_)
          obtain ⟨rfl, rfl, ⟨Φc', fc125, rc125⟩, out125⟩ := e125
          have HX125 : h125 X0 = _ := (out125 X0 (by omega)).trans HX118
          have hp125 := hp8.keep2 (h' := h125) (fun b b1 b2 => out125 b (by omega))
          have hb125 := hb8.keep (h' := h125) (fun b b1 b2 => out125 b (by omega))
          have fo125 := fo8.keep (h' := h125) (fun b b1 b2 => out125 b (by omega))
          have sp125 := sp8.keep (h' := h125) (fun b b1 b2 => out125 b (by omega))
          obtain ⟨fs125, ob125⟩ := sp125.ob
          rw [ea] at ro8 ok8
          refine gi_aload_n (q := 129) (i := 0) C (dm_H_analyze 65 rfl) rfl rfl rfl ?_
          refine gi_get (q := 132) C (dm_H_analyze 66 rfl) rfl fl_H_40 HX125 rfl ?_
          refine gi_iconst (q := 133) (v := 1) C (dm_H_analyze 67 rfl) rfl (by decide) ?_
          refine gi_aload_n (q := 134) (i := 0) C (dm_H_analyze 68 rfl) rfl rfl rfl ?_
          refine gi_get (q := 137) C (dm_H_analyze 69 rfl) rfl fl_H_32 HX125 rfl ?_
          refine gi_aload_n (q := 138) (i := 0) C (dm_H_analyze 70 rfl) rfl rfl rfl ?_
          refine gi_get (q := 141) C (dm_H_analyze 71 rfl) rfl fl_H_28 HX125 rfl ?_
          refine gi_callv 3 (q := 144) C (dm_H_analyze 72 rfl) rfl my_St_prepare lk_H_114 im_St_prepare rfl (c_St_prepX 1 (X0 + 8431) (X0 + 17) sp125) ob125 rfl rfl ⟨(Nat.le_of_ble_eq_true rfl), (Nat.le_of_ble_eq_true rfl)⟩ (Nat.le_of_ble_eq_true rfl) ⟨(Nat.le_of_ble_eq_true rfl), (Nat.le_of_ble_eq_true rfl)⟩ (fun r141 n141 h141 e141 => ?_)
          obtain ⟨rfl, rfl, e141⟩ := e141
          obtain ⟨S', x', y', nx', ny', ar', ou', be', ab', Wk', Wy', En', Lo', s6, s0, Q141⟩ := e141
          have HX141 : h141 X0 = _ := (Q141.2 X0 (by omega)).trans HX125
          have P2 : PW (X0 + 16845) (X0 + 1) (X0 + 9) (X0 + 8431) (X0 + 17) k 1 P sn (grF wd0) (tyF P sh) (anewF P sn (rootsF P k (fun m => bitA r m)) (itF (grF wd0) (outs P sn) (rootsF P k (fun m => bitA r m)) bgF (K + 1))) (bgF, false) h125 h141 := PW.mk hp125 hb125 ⟨Φc', fc125, rc125⟩ ⟨Φo8, fo125, by rw [if_neg (by omega)]; exact ro8⟩ bg_ok (fun z => absurd z (by decide)) Q141 s6 s0
          refine gi_aload_n (q := 145) (i := 0) C (dm_H_analyze 73 rfl) rfl rfl rfl ?_
          refine gi_iload_n (q := 146) (i := 1) C (dm_H_analyze 74 rfl) rfl rfl rfl ?_
          refine gi_callv 1 (q := 149) C (dm_H_analyze 75 rfl) rfl my_H_pass lk_H_122 im_H_pass rfl (c_H_pass (by decide) hB0 DA2 HX125 P2 (Or.inr ⟨ok8, fun j hj => by rw [← ea]; exact T118 j hj⟩) (fun j hj => bg_fld hj)) HX141 rfl rfl ⟨(Nat.le_of_ble_eq_true rfl), (Nat.le_of_ble_eq_true rfl)⟩ (Nat.le_of_ble_eq_true rfl) ⟨(Nat.le_of_ble_eq_true rfl), (Nat.le_of_ble_eq_true rfl)⟩ (fun r146 n146 h146 e146 => ?_)
          obtain ⟨rfl, rfl, P146, T146⟩ := e146
          have ec : (pasS P sn k 1 (grF wd0) (X0 + 8431) (X0 + 17) (anewF P sn (rootsF P k (fun m => bitA r m)) (itF (grF wd0) (outs P sn) (rootsF P k (fun m => bitA r m)) bgF (K + 1))) r (bgF, false)).1 = cerF P sn k wd0 r K := by
            rw [pasS_1 hB0 (by omega) ok8]
            rfl
          have HX146 : h146 X0 = _ := (P146.out X0 (by omega) (by omega)).trans HX125
          obtain ⟨hp6, hb6, ⟨Φc6, fc6, rc6⟩, ⟨Φo6, fo6, ro6⟩, ok6, sp6⟩ := P146.now DA2.dj
          refine gi_aload_n (q := 150) (i := 0) C (dm_H_analyze 76 rfl) rfl rfl rfl ?_
          refine gi_iconst (q := 151) (v := 1) C (dm_H_analyze 77 rfl) rfl (by decide) ?_
          refine gi_put (q := 154) C (dm_H_analyze 78 rfl) rfl fl_H_69 fp_H_8 HX146 (Nat.le_of_ble_eq_true rfl) rfl rfl ?_
          refine gi_aload_n (q := 155) (i := 0) C (dm_H_analyze 79 rfl) rfl rfl rfl ?_
          refine gi_iload_n (q := 156) (i := 1) C (dm_H_analyze 80 rfl) rfl rfl rfl ?_
          refine gi_put (q := 159) C (dm_H_analyze 81 rfl) rfl fl_H_73 fp_H_9 (gi_up_self _ _ _) (Nat.le_of_ble_eq_true rfl) rfl rfl ?_
          refine gi_iload_n (q := 160) (i := 2) C (dm_H_analyze 82 rfl) rfl rfl rfl ?_
          refine gi_iret C hr9 (dm_H_analyze 83 rfl) ?_
          rw [ec] at rc6
          refine ⟨by rw [show j = K + 1 by omega], rfl, ?_, ⟨Φc6, fc6.keep (fun b b1 b2 => ?_), rc6⟩, ⟨Φo6, fo6.keep (fun b b1 b2 => ?_)⟩, sp6.keep (fun b b1 b2 => ?_), fun b b1 b2 => ?_⟩
          · unfold hs_ob
            rw [gi_up_self]
            rfl
          · rw [gi_up_ne (by omega), gi_up_ne (by omega)]
          · rw [gi_up_ne (by omega), gi_up_ne (by omega)]
          · rw [gi_up_ne (by omega), gi_up_ne (by omega)]
          · rw [gi_up_ne b1, gi_up_ne b1, P146.out b (by omega) (by omega), out125 b (by omega), P118.out b (by omega) (by omega), out97 b (by omega), PYY.out b (by omega) (by omega), out33 b (by omega)]
        · have hjK : j ≤ K := by
            rcases Nat.lt_or_ge K j with q | q
            · exact absurd (show bI (decide (j ≤ K)) = 0 by rw [decide_eq_false (by omega)]; rfl) c57
            · exact q
          refine gi_iload_n (q := 61) (i := 2) C (dm_H_analyze 32 rfl) rfl rfl rfl ?_
          refine gi_ldc (q := 63) C (dm_H_analyze 33 rfl) rfl kc_H_118 ?_
          refine gi_icmp_ge (q := 66) (tgt := 93) C (dm_H_analyze 34 rfl) rfl (by decide) (fun c63 => ?_) (fun c63 => ?_)
          · exact absurd c63 (Int32.not_le.mpr (show nI j < nI 1000000 from nI_lt (by omega) (by omega)))
          · refine gi_aload_n (q := 67) (i := 0) C (dm_H_analyze 35 rfl) rfl rfl rfl ?_
            refine gi_get (q := 70) C (dm_H_analyze 36 rfl) rfl fl_H_40 (by first | exact (show _ = some _ from HXy) | assumption) rfl ?_
            refine gi_iconst (q := 71) (v := 0) C (dm_H_analyze 37 rfl) rfl (by decide) ?_
            refine gi_put (q := 74) C (dm_H_analyze 38 rfl) rfl fl_H_119 fp_St_0 Qy.ob (Nat.le_of_ble_eq_true rfl) rfl rfl ?_
            have Q71 := Qy.pO (X0 + 17) (X0 + 17) (upS Sy 0 0)
            have PY2 : PW (X0 + 16845) (X0 + 1) (X0 + 9) (X0 + 17) (X0 + 17) k 0 P sn (grF wd0) (tyF P sh) bgF ((itF (grF wd0) (outs P sn) (rootsF P k (fun m => bitA r m)) bgF j), false) h33 _ := ⟨hCy, _, _, _, _, _, _, _, _, _, _, _, _, _, by simpa [upS] using s1y, by simp [upS, bI], By, Q71⟩
            have oky := it_ok hB0 (r := r) j
            have e0 := pasS_0 hB0 (fr := X0 + 17) (Ff := bgF) (rts := r) (Z := ((itF (grF wd0) (outs P sn) (rootsF P k (fun m => bitA r m)) bgF j), false)) oky
            refine gi_aload_n (q := 75) (i := 0) C (dm_H_analyze 39 rfl) rfl rfl rfl ?_
            refine gi_iload_n (q := 76) (i := 1) C (dm_H_analyze 40 rfl) rfl rfl rfl ?_
            refine gi_callv 1 (q := 79) C (dm_H_analyze 41 rfl) rfl my_H_pass lk_H_122 im_H_pass rfl (c_H_pass (by decide) hB0 DA0 HX2 PY2 (Or.inl rfl) TY) ((gi_up_ne (by omega)).trans HXy) rfl rfl ⟨(Nat.le_of_ble_eq_true rfl), (Nat.le_of_ble_eq_true rfl)⟩ (Nat.le_of_ble_eq_true rfl) ⟨(Nat.le_of_ble_eq_true rfl), (Nat.le_of_ble_eq_true rfl)⟩ (fun r76 n76 h76 e76 => ?_)
            obtain ⟨rfl, rfl, P76, T76⟩ := e76
            rw [e0] at P76 T76
            have P76' := P76
            obtain ⟨hC2, S2, x2, y2, nx2, ny2, ar2, ou2, be2, ab2, Wk2, Wy2, En2, Lo2, s12, s22, B2, Q76⟩ := P76
            have HX76 : hs_ob X0 ct cr h76 := hs_keep HX2 (P76'.out X0 (by omega) (by omega))
            unfold hs_ob at HX76
            refine gi_iinc (q := 82) (v := 1) C (dm_H_analyze 42 rfl) rfl rfl (by decide) (Nat.le_of_ble_eq_true rfl) ?_
            refine gi_aload_n (q := 83) (i := 0) C (dm_H_analyze 43 rfl) rfl rfl rfl ?_
            refine gi_get (q := 86) C (dm_H_analyze 44 rfl) rfl fl_H_40 (by first | exact (show _ = some _ from HXy) | assumption) rfl ?_
            refine gi_get (q := 89) C (dm_H_analyze 45 rfl) rfl fl_H_119 Q76.ob rfl ?_
            refine gi_istore_n (q := 90) (i := 3) C (dm_H_analyze 46 rfl) rfl rfl (Nat.le_of_ble_eq_true rfl) ?_
            refine gi_goto (tgt := 56) C (dm_H_analyze 47 rfl) (by decide) ?_
            have eb : (pas (grF wd0) (outs P sn) (rootsF P k (fun m => bitA r m)) ((itF (grF wd0) (outs P sn) (rootsF P k (fun m => bitA r m)) bgF j), false)).2 = decide (j + 1 ≤ K) := by
              rcases Nat.lt_or_ge j K with q | q
              · rw [decide_eq_true (by omega)]
                exact hK.2.2 j q
              · rw [decide_eq_false (by omega)]
                have ej : j = K := by omega
                rw [ej]
                exact hK.2.1
            have ei : (itF (grF wd0) (outs P sn) (rootsF P k (fun m => bitA r m)) bgF (j + 1)) = (pas (grF wd0) (outs P sn) (rootsF P k (fun m => bitA r m)) ((itF (grF wd0) (outs P sn) (rootsF P k (fun m => bitA r m)) bgF j), false)).1 := rfl
            refine gi_close (ih (j + 1) _ ⟨by omega, ?_, ?_⟩ (by omega)) (List.forall_mem_cons.mpr ⟨(congrArg (fun x => some (Value.int x)) (nI_1 j)), List.forall_mem_cons.mpr ⟨(by show some (Value.int (S2 0)) = some (Value.int (bI (decide (j + 1 ≤ K)))); rw [s22, eb]), List.forall_mem_cons.mpr ⟨rfl, List.forall_mem_cons.mpr ⟨rfl, fun _ h => absurd h List.not_mem_nil⟩⟩⟩⟩) rfl rfl rfl
            · rw [ei]
              exact ⟨_, P76'⟩
            · rw [ei]
              exact T76
      · exact absurd hr.2 c24
end ANA
