-- needs: 89.88
section RCK
variable {l : Launch} {V : gi_V} {n : Nat} {h h' : gi_H} {M k m i : Nat} {P : Pm} {x : Sh} {sh : Nat → Option Sh} {S S' : Nat → Int32} {J J' : Nat → Int64} {F F' : Nat → Nat → Int32} {G G' : Nat → Nat → Int64} {f g : Nat → Sl} {n0 : Nat} {r : Rw} {Ff : Fa} {Z : Fa × Bool} {md p t : Nat} {S0 S1 S2 : Nat → Int32} {J0 J1 J2 : Nat → Int64} {F0 F1 F2 : Nat → Nat → Int32} {G0 G1 G2 : Nat → Nat → Int64} {y y' : gi_H} {L : Nat} {κ : (Nat → Ce) × Int32} {r : Int32} {Fz : Fa} {b0 : Bool} {K : Nat}
def frXA (S S' : Nat → Int32) (J J' : Nat → Int64) (F F' : Nat → Nat → Int32) (G G' : Nat → Nat → Int64) : Prop := (∀ j, (j < 29 ∧ j ≠ 9) ∨ 66 < j → S' j = S j) ∧ (∀ j, j < 22 ∨ 28 < j → J' j = J j) ∧ (∀ j, j < 31 ∨ 66 < j → F' j = F j) ∧ ∀ j, j < 31 ∨ 66 < j → G' j = G j
theorem frXB.a (a : frXB S S' J J' F F' G G') : frXA S S' J J' F F' G G' := ⟨fun j h => a.1 j (by omega), a.2.1, a.2.2.1, a.2.2.2⟩
theorem mdR.ch {b b' : Bool} (h : mdR k P sh md Ff (Fz, b) S F G) (h2 : md ≠ 2) : mdR k P sh md Ff (Fz, b') (upS S 50 (bI b')) F G := by
  obtain ⟨a1, a2, a3, a4, a5, a6, a7, a8, a9⟩ := h
  exact ⟨a1, a2, a3, a4, a5, fun _ => rfl, fun z => absurd z h2, a8, a9⟩
theorem wk_0 {sn : Nat → Nat} (X : Fa × Bool) (wd : Nat → Bool) : wk (stpM P sn 0 wd 0 0 Ff) (rtS P 0 wd r X k) 480 = pas wd (outs P sn) (rootsF P k (fun m => bitA r m)) X := by
  rw [rtS_eq, comeM_0f, stpM_0]
  rfl
theorem rtS_told {wd : Nat → Bool} {X : Fa × Bool} {t : Nat} (h : (X.1 t).told = true) : ∀ j, ((rtS P md wd r X j).1 t).told = true := fun j => by
  rw [rtS_eq]
  exact fold_told _ _ h
theorem wk_told {sn : Nat → Nat} {wd : Nat → Bool} {X : Fa × Bool} {t fr to : Nat} (h : (X.1 t).told = true) : ∀ j, ((wk (stpM P sn md wd fr to Ff) X j).1 t).told = true
  | 0 => h
  | j + 1 => by rw [wk_succ]; exact stpM_told (wk_told h j)
theorem it_fld {wd : Nat → Bool} {sn : Nat → Nat} {f : Nat} (hf : f < 4) : ∀ j, ((itF wd (outs P sn) (rootsF P k (fun m => bitA r m)) bgF j) (530 + f)).told = true
  | 0 => bg_fld hf
  | j + 1 => by
    rw [itF, ← wk_0 (Ff := bgF)]
    exact wk_told (rtS_told (it_fld hf j) k) 480
theorem anew_fld {sn : Nat → Nat} {rts : List Con} {f : Nat} (hf : f < 4) : ((anewF P sn rts Fz) (530 + f)).told = true := by
  unfold anewF
  rw [← comeM_1f (wd := fun _ => true)]
  exact fold_told _ _ (bg_fld hf)
theorem stp0_t {sn : Nat → Nat} {wd : Nat → Bool} {X : Fa × Bool} {p : Nat} (tl : (X.1 p).told = true) : stpM P sn md wd 0 0 Ff X p = (outs P sn X.1 p).foldl (comeM md wd) X := by
  unfold stpM frF
  rw [if_pos rfl, if_pos tl]
theorem stp0_f {sn : Nat → Nat} {wd : Nat → Bool} {X : Fa × Bool} {p : Nat} (tl : (X.1 p).told = false) : stpM P sn md wd 0 0 Ff X p = X := by
  unfold stpM frF
  rw [if_pos rfl, if_neg (by rw [tl]; decide)]
def anI (P : Pm) (sn : Nat → Nat) (rts : List Con) (Fz : Fa) : Nat → Fa
  | 0 => Fz
  | j + 1 => anewF P sn rts (anI P sn rts Fz j)
theorem anI_ok {sn : Nat → Nat} {wd : Nat → Bool} (B : Built k P sh sn wd) (hF : okF (tyF P sh) Fz) (hf : ∀ f, f < 4 → (Fz (530 + f)).told = true) : ∀ j, okF (tyF P sh) (anI P sn (rootsF P k (fun m => bitA r m)) Fz j) ∧ ∀ f, f < 4 → ((anI P sn (rootsF P k (fun m => bitA r m)) Fz j) (530 + f)).told = true
  | 0 => ⟨hF, hf⟩
  | j + 1 => ⟨(anew_ok B (anI_ok B hF hf j).1).1, fun f h4 => anew_fld h4⟩
set_option maxHeartbeats 4000000 in
set_option maxRecDepth 100000 in
theorem c_Mo_analyze (B : Built k P sh (siN k P sh) (wdF k P)) (hpg : pgR k P sh S F) (hb : S 8 = 1) (hr' : rtOk k r) (hK : psK P (siN k P sh) k (wdF k P) r K) (H : mo_at M S J F G h) : gi_T l V y_Mo_analyze b_Mo_analyze 4 (some .int) 8 252 0 0 [.ref M, .int r] n h (fun v n' h' => v = some (.int (nI (K + 1))) ∧ n' = n ∧ ∃ S' J' F' G', mo_at M S' J' F' G' h' ∧ outM M h h' ∧ frXA S S' J J' F F' G G' ∧ S' 9 = 1 ∧ S' 46 = r ∧ fsN P (cerF P (siN k P sh) k (wdF k P) r K) F' G') := by
  refine gi_enter (by decide) (Nat.le_of_ble_eq_true rfl) ?_
  intro _ _ _ _ _ _ _ _ C hr hnm
  obtain ⟨fs, Ha, Hf⟩ := id H.1
  have ho : outM M h h := outM.rf
  have w8 := B.wf.k8
  have K6 := hK.1
  refine gi_aload_n (q := 1) (i := 0) C (dm_Mo_analyze 0 rfl) rfl rfl rfl ?_
  refine gi_get (q := 4) C (dm_Mo_analyze 1 rfl) rfl fl_Mo_179 Ha (mo_g8 Hf) ?_
  refine gi_if_eq (q := 7) (tgt := 21) C (dm_Mo_analyze 2 rfl) rfl (by decide) (fun c4 => ?_) (fun c4 => ?_)
  · exact absurd c4 (by rw [hb]; decide)
  · refine gi_iload_n (q := 8) (i := 1) C (dm_Mo_analyze 3 rfl) rfl rfl rfl ?_
    refine gi_if_lt (q := 11) (tgt := 21) C (dm_Mo_analyze 4 rfl) rfl (by decide) (fun c8 => ?_) (fun c8 => ?_)
    · exact absurd hr'.1 (Int32.not_le.mpr c8)
    · refine gi_iload_n (q := 12) (i := 1) C (dm_Mo_analyze 5 rfl) rfl rfl rfl ?_
      refine gi_iconst (q := 13) (v := 1) C (dm_Mo_analyze 6 rfl) rfl (by decide) ?_
      refine gi_aload_n (q := 14) (i := 0) C (dm_Mo_analyze 7 rfl) rfl rfl rfl ?_
      refine gi_get (q := 17) C (dm_Mo_analyze 8 rfl) rfl fl_Mo_176 Ha (mo_g0 Hf) ?_
      refine gi_ishl (q := 18) C (dm_Mo_analyze 9 rfl) rfl ?_
      refine gi_icmp_lt (q := 21) (tgt := 23) C (dm_Mo_analyze 10 rfl) rfl (by decide) (fun c18 => ?_) (fun c18 => ?_)
      · refine gi_aload_n (q := 24) (i := 0) C (dm_Mo_analyze 13 rfl) rfl rfl rfl ?_
        refine gi_iload_n (q := 25) (i := 1) C (dm_Mo_analyze 14 rfl) rfl rfl rfl ?_
        refine gi_put (q := 28) C (dm_Mo_analyze 15 rfl) rfl fl_Mo_498 fp_Mo_46 Ha (by rw [Hf.1]; decide) rfl rfl ?_
        refine gi_genM (H.putI Ha Hf (by decide) rfl) (ho.up (by omega) (by omega)) (fun y H ho => ?_)
        obtain ⟨fs, Ha, Hf⟩ := id H.1
        refine gi_aload_n (q := 29) (i := 0) C (dm_Mo_analyze 16 rfl) rfl rfl rfl ?_
        refine gi_callv 0 (q := 32) C (dm_Mo_analyze 17 rfl) rfl my_Mo_nothing lk_Mo_504 im_Mo_nothing rfl (c_Mo_nothing P H) Ha rfl rfl ⟨(Nat.le_of_ble_eq_true rfl), (Nat.le_of_ble_eq_true rfl)⟩ (Nat.le_of_ble_eq_true rfl) ⟨(Nat.le_of_ble_eq_true rfl), (Nat.le_of_ble_eq_true rfl)⟩ (fun r29 n29 h29 e29 => ?_)
        obtain ⟨rfl, rfl, F1, G1, H1, o1, n1, f1⟩ := e29
        have H := H1
        obtain ⟨fs, Ha, Hf⟩ := id H.1
        have ho := ho.tr o1
        refine gi_iconst (q := 33) (v := 0) C (dm_Mo_analyze 18 rfl) rfl (by decide) ?_
        refine gi_istore_n (q := 34) (i := 2) C (dm_Mo_analyze 19 rfl) rfl rfl (Nat.le_of_ble_eq_true rfl) ?_
        refine gi_while (σ := Nat) (fun j => 480 - j) (fun j => [(2, .int (nI j)), (1, .int r), (0, .ref M)]) (fun _ => n29) (fun _ => 0) (fun _ => 0) (fun j y' => j ≤ 480 ∧ ∃ F2, mo_at M (upS S 46 r) J F2 G1 y' ∧ outM M h y' ∧ (∀ a, a ≠ 38 → F2 a = F1 a) ∧ ∀ q, q < j → F2 38 q = 0) 0 ⟨Nat.zero_le _, F1, H, ho, fun _ _ => rfl, fun q hq => absurd hq (Nat.not_lt_zero _)⟩ ?_ (List.forall_mem_cons.mpr ⟨(by first | rfl | (simp [gi_look]; done)), List.forall_mem_cons.mpr ⟨(by first | rfl | (simp [gi_look]; done)), List.forall_mem_cons.mpr ⟨(by first | rfl | (simp [gi_look]; done)), fun _ h => absurd h List.not_mem_nil⟩⟩⟩) rfl rfl rfl
        rintro j y' ⟨hj, F2, H2, o2, r2, c2⟩ ihj
        try dsimp only at *
        have H := H2
        obtain ⟨fs, Ha, Hf⟩ := id H.1
        have ho := o2
        refine gi_iload_n (q := 35) (i := 2) C (dm_Mo_analyze 20 rfl) rfl rfl rfl ?_
        refine gi_sipush (q := 38) (v := 480) C (dm_Mo_analyze 21 rfl) rfl (by decide) ?_
        refine gi_icmp_ge (q := 41) (tgt := 54) C (dm_Mo_analyze 22 rfl) rfl (by decide) (fun c38 => ?_) (fun c38 => ?_)
        · have jl : j = 480 := by
            rcases Nat.lt_or_ge j (480) with q | q
            · exact absurd c38 (Int32.not_le.mpr (nI_lt (b := 480) q (by omega)))
            · omega
          subst jl
          refine gi_iconst (q := 55) (v := 0) C (dm_Mo_analyze 30 rfl) rfl (by decide) ?_
          refine gi_istore_n (q := 56) (i := 2) C (dm_Mo_analyze 31 rfl) rfl rfl (Nat.le_of_ble_eq_true rfl) ?_
          refine gi_while (σ := Nat) (fun j => 80 - j) (fun j => [(2, .int (nI j)), (1, .int r), (0, .ref M)]) (fun _ => n29) (fun _ => 0) (fun _ => 0) (fun j y' => j ≤ 80 ∧ ∃ F3, mo_at M (upS S 46 r) J F3 G1 y' ∧ outM M h y' ∧ (∀ a, a ≠ 45 → F3 a = F2 a) ∧ ∀ q, q < j → F3 45 q = 0) 0 ⟨Nat.zero_le _, F2, H, ho, fun _ _ => rfl, fun q hq => absurd hq (Nat.not_lt_zero _)⟩ ?_ (List.forall_mem_cons.mpr ⟨(by first | rfl | (simp [gi_look]; done)), List.forall_mem_cons.mpr ⟨(by first | rfl | (simp [gi_look]; done)), List.forall_mem_cons.mpr ⟨(by first | rfl | (simp [gi_look]; done)), fun _ h => absurd h List.not_mem_nil⟩⟩⟩) rfl rfl rfl
          rintro j y' ⟨hj, F3, H3, o3, r3, c3⟩ ihj
          try dsimp only at *
          have H := H3
          obtain ⟨fs, Ha, Hf⟩ := id H.1
          have ho := o3
          refine gi_iload_n (q := 57) (i := 2) C (dm_Mo_analyze 32 rfl) rfl rfl rfl ?_
          refine gi_bipush (q := 59) (v := 80) C (dm_Mo_analyze 33 rfl) rfl (by decide) ?_
          refine gi_icmp_ge (q := 62) (tgt := 75) C (dm_Mo_analyze 34 rfl) rfl (by decide) (fun c59 => ?_) (fun c59 => ?_)
          · have jl : j = 80 := by
              rcases Nat.lt_or_ge j (80) with q | q
              · exact absurd c59 (Int32.not_le.mpr (nI_lt (b := 80) q (by omega)))
              · omega
            subst jl
            refine gi_aload_n (q := 76) (i := 0) C (dm_Mo_analyze 42 rfl) rfl rfl rfl ?_
            refine gi_iconst (q := 77) (v := 0) C (dm_Mo_analyze 43 rfl) rfl (by decide) ?_
            refine gi_put (q := 80) C (dm_Mo_analyze 44 rfl) rfl fl_Mo_392 fp_Mo_47 Ha (by rw [Hf.1]; decide) rfl rfl ?_
            refine gi_genM (H.putI Ha Hf (by decide) rfl) (ho.up (by omega) (by omega)) (fun y H ho => ?_)
            obtain ⟨fs, Ha, Hf⟩ := id H.1
            refine gi_aload_n (q := 81) (i := 0) C (dm_Mo_analyze 45 rfl) rfl rfl rfl ?_
            refine gi_iconst (q := 82) (v := 0) C (dm_Mo_analyze 46 rfl) rfl (by decide) ?_
            refine gi_put (q := 85) C (dm_Mo_analyze 47 rfl) rfl fl_Mo_363 fp_Mo_48 Ha (by rw [Hf.1]; decide) rfl rfl ?_
            refine gi_genM (H.putI Ha Hf (by decide) rfl) (ho.up (by omega) (by omega)) (fun y H ho => ?_)
            obtain ⟨fs, Ha, Hf⟩ := id H.1
            refine gi_aload_n (q := 86) (i := 0) C (dm_Mo_analyze 48 rfl) rfl rfl rfl ?_
            refine gi_iconst (q := 87) (v := 0) C (dm_Mo_analyze 49 rfl) rfl (by decide) ?_
            refine gi_put (q := 90) C (dm_Mo_analyze 50 rfl) rfl fl_Mo_422 fp_Mo_49 Ha (by rw [Hf.1]; decide) rfl rfl ?_
            refine gi_genM (H.putI Ha Hf (by decide) rfl) (ho.up (by omega) (by omega)) (fun y H ho => ?_)
            obtain ⟨fs, Ha, Hf⟩ := id H.1
            refine gi_iconst (q := 91) (v := 0) C (dm_Mo_analyze 51 rfl) rfl (by decide) ?_
            refine gi_istore_n (q := 92) (i := 2) C (dm_Mo_analyze 52 rfl) rfl rfl (Nat.le_of_ble_eq_true rfl) ?_
            have f3 : fsN P bgF F3 G1 := by
              refine ⟨fun p hp => ?_, fun t h1 h2 => ?_⟩
              · have q := f1.1 p hp
                refine ⟨by rw [r3 31 (by decide), r2 31 (by decide)]; exact q.1, fun z => ?_⟩
                unfold cS
                rw [r3 35 (by decide), r3 36 (by decide), r3 37 (by decide), r2 35 (by decide), r2 36 (by decide), r2 37 (by decide)]
                exact q.2 z
              · have q := f1.2 t h1 h2
                refine ⟨by rw [r3 39 (by decide), r2 39 (by decide)]; exact q.1, fun z => ?_⟩
                unfold cT
                rw [r3 43 (by decide), r3 44 (by decide), r2 43 (by decide), r2 44 (by decide)]
                exact q.2 z
            have bch : ∀ t, (bgF t).ch = 0 := fun t => by
              unfold bgF
              split
              · rfl
              · split
                · rfl
                · split <;> rfl
            have fF : ∀ a, a < 31 ∨ 66 < a → F3 a = F a := fun a ha => (r3 a (by omega)).trans ((r2 a (by omega)).trans (n1.1 a (by omega) (by omega) (by omega) (by omega)))
            have pm : pgR k P sh (upS (upS (upS (upS S 46 r) 47 0) 48 0) 49 0) F3 := by
              obtain ⟨h1, h2, h3, h4, h5⟩ := hpg
              refine ⟨fun j q1 q2 => by rw [fF j (by omega)]; exact h1 j q1 q2, h2, fun m hm => ?_, fun q hq hs => by rw [fF 15 (by decide)]; exact h4 q hq hs, fun m i hm hi => by rw [fF 16 (by decide)]; exact h5 m i hm hi⟩
              intro i hi
              show (_ → F3 12 _ = _) ∧ ∀ x, _ → F3 12 _ = _ ∧ F3 13 _ = _
              rw [fF 12 (by decide), fF 13 (by decide)]
              exact h3 m hm i hi
            have cm : chR (wdF k P) bgF F3 := ⟨fun p hp _ => by rw [r3 38 (by decide), c2 p hp, bch]; rfl, fun t h1 h2 => by rw [c3 _ (tix_b h1 h2), bch]; rfl⟩
            refine gi_while (σ := Nat) (fun j => (K + 1) - j) (fun j => [(2, .int (nI j)), (1, .int r), (0, .ref M)]) (fun _ => n29) (fun _ => 0) (fun _ => 0) (fun j y' => j ≤ K ∧ ∃ S4 J4 F4 G4, mo_at M S4 J4 F4 G4 y' ∧ outM M h y' ∧ frXA S S4 J J4 F F4 G G4 ∧ S4 46 = r ∧ pgR k P sh S4 F4 ∧ mdR k P sh 0 bgF ((itF (grF (wdF k P)) (outs P (siN k P sh)) (rootsF P k (fun m => bitA r m)) bgF j), false) (upS S4 50 0) F4 G4) 0 ⟨Nat.zero_le _, (upS (upS (upS (upS S 46 r) 47 0) 48 0) 49 0), J, F3, G1, H, ho, ⟨fun j hj => by unfold upS; rw [if_neg (by omega), if_neg (by omega), if_neg (by omega), if_neg (by omega)], fun _ _ => rfl, fF, fun a ha => n1.2.1 a (by omega) (by omega) (by omega)⟩, rfl, pm, ⟨rfl, rfl, rfl, f3, fun z => absurd z (by decide), fun _ => rfl, fun z => absurd z (by decide), bg_ok, fun _ => ⟨cm, bg_chI (fun t ht => (bg_ok t ht).1)⟩⟩⟩ ?_ (List.forall_mem_cons.mpr ⟨(by first | rfl | (simp [gi_look]; done)), List.forall_mem_cons.mpr ⟨(by first | rfl | (simp [gi_look]; done)), List.forall_mem_cons.mpr ⟨(by first | rfl | (simp [gi_look]; done)), fun _ h => absurd h List.not_mem_nil⟩⟩⟩) rfl rfl rfl
            rintro j y' ⟨hj, S4, J4, F4, G4, H4, o4, r4, e46, p4, d4⟩ ihj
            try dsimp only at *
            have H := H4
            obtain ⟨fs, Ha, Hf⟩ := id H.1
            have ho := o4
            refine gi_aload_n (q := 93) (i := 0) C (dm_Mo_analyze 53 rfl) rfl rfl rfl ?_
            refine gi_iconst (q := 94) (v := 0) C (dm_Mo_analyze 54 rfl) rfl (by decide) ?_
            refine gi_put (q := 97) C (dm_Mo_analyze 55 rfl) rfl fl_Mo_401 fp_Mo_50 Ha (by rw [Hf.1]; decide) rfl rfl ?_
            refine gi_genM (H.putI Ha Hf (by decide) rfl) (ho.up (by omega) (by omega)) (fun y H ho => ?_)
            obtain ⟨fs, Ha, Hf⟩ := id H.1
            have p4' : pgR k P sh (upS S4 50 0) F4 := p4
            have p4 := p4'
            have r4' : ∀ j, (j < 29 ∧ j ≠ 9) ∨ 66 < j → upS S4 50 0 j = S j := fun j hj => by
              unfold upS
              rw [if_neg (by omega)]
              exact r4.1 j hj
            refine gi_iinc (q := 100) (v := 1) C (dm_Mo_analyze 56 rfl) rfl rfl (by decide) (Nat.le_of_ble_eq_true rfl) ?_
            rw [nI_1]
            refine gi_aload_n (q := 101) (i := 0) C (dm_Mo_analyze 57 rfl) rfl rfl rfl ?_
            refine gi_callv 0 (q := 104) C (dm_Mo_analyze 58 rfl) rfl my_Mo_rootsCome lk_Mo_507 im_Mo_rootsCome rfl (c_Mo_rootsCome B (by decide) p4 d4 e46 H) Ha rfl rfl ⟨(Nat.le_of_ble_eq_true rfl), (Nat.le_of_ble_eq_true rfl)⟩ (Nat.le_of_ble_eq_true rfl) ⟨(Nat.le_of_ble_eq_true rfl), (Nat.le_of_ble_eq_true rfl)⟩ (fun r101 n101 h101 e101 => ?_)
            obtain ⟨rfl, rfl, S5, J5, F5, G5, H5, o5', r5', d5⟩ := e101
            have r5 : frXA S S5 J J5 F F5 G G5 := ⟨fun j hj => (r5'.1 j (by omega) (by omega) (by omega) (by omega) (by omega) (by omega) (by omega)).trans (r4' j hj), fun j hj => (r5'.2.1 j hj).trans (r4.2.1 j hj), fun j hj => (r5'.2.2.1 j hj).trans (r4.2.2.1 j hj), fun j hj => (r5'.2.2.2 j hj).trans (r4.2.2.2 j hj)⟩
            have e46 : S5 46 = r := (r5'.1 46 (by decide) (by decide) (by decide) (by decide) (by decide) (by decide) (by decide)).trans e46
            have p5 := p4.yy r5'
            have o5 := ho.tr o5'
            have H := H5
            obtain ⟨fs, Ha, Hf⟩ := id H.1
            refine gi_iconst (q := 105) (v := 0) C (dm_Mo_analyze 59 rfl) rfl (by decide) ?_
            refine gi_istore_n (q := 106) (i := 3) C (dm_Mo_analyze 60 rfl) rfl rfl (Nat.le_of_ble_eq_true rfl) ?_
            refine gi_while (σ := Nat) (fun p => 480 - p) (fun p => [(3, .int (nI p)), (2, .int (nI (j + 1))), (1, .int r), (0, .ref M)]) (fun _ => n101) (fun _ => 0) (fun _ => 0) (fun p y' => p ≤ 480 ∧ ∃ S5 J5 F5 G5, mo_at M S5 J5 F5 G5 y' ∧ outM M h y' ∧ frXA S S5 J J5 F F5 G G5 ∧ S5 46 = r ∧ pgR k P sh S5 F5 ∧ mdR k P sh 0 bgF (wk (stpM P (siN k P sh) 0 (grF (wdF k P)) 0 0 bgF) (rtS P 0 (grF (wdF k P)) r ((itF (grF (wdF k P)) (outs P (siN k P sh)) (rootsF P k (fun m => bitA r m)) bgF j), false) k) p) S5 F5 G5) 0 ⟨Nat.zero_le _, S5, J5, F5, G5, H5, o5, r5, e46, p5, d5⟩ ?_ (List.forall_mem_cons.mpr ⟨(by first | rfl | (simp [gi_look]; done)), List.forall_mem_cons.mpr ⟨(by first | rfl | (simp [gi_look]; done)), List.forall_mem_cons.mpr ⟨(by first | rfl | (simp [gi_look]; done)), List.forall_mem_cons.mpr ⟨(by first | rfl | (simp [gi_look]; done)), fun _ h => absurd h List.not_mem_nil⟩⟩⟩⟩) rfl rfl rfl
            rintro p y' ⟨hp', S5, J5, F5, G5, H5, o5, r5, e46, p5, d5⟩ ihp
            try dsimp only at *
            have H := H5
            obtain ⟨fs, Ha, Hf⟩ := id H.1
            have ho := o5
            refine gi_iload_n (q := 107) (i := 3) C (dm_Mo_analyze 61 rfl) rfl rfl rfl ?_
            refine gi_sipush (q := 110) (v := 480) C (dm_Mo_analyze 62 rfl) rfl (by decide) ?_
            refine gi_icmp_ge (q := 113) (tgt := 133) C (dm_Mo_analyze 63 rfl) rfl (by decide) (fun c110 => ?_) (fun c110 => ?_)
            · have pl : p = 480 := by
                rcases Nat.lt_or_ge p (480) with q | q
                · exact absurd c110 (Int32.not_le.mpr (nI_lt (b := 480) q (by omega)))
                · omega
              subst pl
              rw [wk_0] at d5
              refine gi_aload_n (q := 134) (i := 0) C (dm_Mo_analyze 74 rfl) rfl rfl rfl ?_
              refine gi_get (q := 137) C (dm_Mo_analyze 75 rfl) rfl fl_Mo_401 Ha (mo_g50 Hf) ?_
              rw [d5.2.2.2.2.2.1 (by decide)]
              refine gi_if_ne (q := 140) (tgt := 92) C (dm_Mo_analyze 76 rfl) rfl (by decide) (fun c137 => ?_) (fun c137 => ?_)
              · have hc : chF (grF (wdF k P)) (outs P (siN k P sh)) (rootsF P k (fun m => bitA r m)) bgF j = true := bI_t c137
                have jK : j < K := by
                  rcases Nat.lt_or_ge j K with q | q
                  · exact q
                  · have : j = K := by omega
                    subst this
                    rw [hK.2.1] at hc
                    cases hc
                exact gi_close (ihj (j + 1) _ ⟨jK, S5, J5, F5, G5, H5, o5, r5, e46, p5, (d5.ch (b' := false) (by decide))⟩ (by omega)) (List.forall_mem_cons.mpr ⟨rfl, List.forall_mem_cons.mpr ⟨rfl, List.forall_mem_cons.mpr ⟨rfl, fun _ h => absurd h List.not_mem_nil⟩⟩⟩) rfl rfl rfl
              · have hc : chF (grF (wdF k P)) (outs P (siN k P sh)) (rootsF P k (fun m => bitA r m)) bgF j = false := bI_fa c137
                have jK : j = K := by
                  rcases Nat.lt_or_ge j K with q | q
                  · rw [hK.2.2 j q] at hc
                    cases hc
                  · omega
                subst jK
                have fK : fsN P (itF (grF (wdF k P)) (outs P (siN k P sh)) (rootsF P k (fun m => bitA r m)) bgF (j + 1)) F5 G5 := d5.2.2.2.1
                have ok6 := anI_ok (r := r) B (it_ok B r (j + 1)) (fun f hf => it_fld hf (j + 1))
                refine gi_iconst (q := 141) (v := 0) C (dm_Mo_analyze 77 rfl) rfl (by decide) ?_
                refine gi_istore_n (q := 142) (i := 3) C (dm_Mo_analyze 78 rfl) rfl rfl (Nat.le_of_ble_eq_true rfl) ?_
                refine gi_while (σ := Nat) (fun w => 2 - w) (fun w => [(3, .int (nI w)), (2, .int (nI (j + 1))), (1, .int r), (0, .ref M)]) (fun _ => n101) (fun _ => 0) (fun _ => 0) (fun w y' => w ≤ 2 ∧ ∃ S6 J6 F6 G6, mo_at M S6 J6 F6 G6 y' ∧ outM M h y' ∧ frXA S S6 J J6 F F6 G G6 ∧ S6 46 = r ∧ fsN P (anI P (siN k P sh) (rootsF P k (fun m => bitA r m)) (itF (grF (wdF k P)) (outs P (siN k P sh)) (rootsF P k (fun m => bitA r m)) bgF (j + 1)) w) F6 G6 ∧ pgR k P sh S6 F6 ∧ ∃ b, S6 50 = bI b) 0 ⟨Nat.zero_le _, S5, J5, F5, G5, H5, o5, r5, e46, (show fsN P (itF (grF (wdF k P)) (outs P (siN k P sh)) (rootsF P k (fun m => bitA r m)) bgF (j + 1)) F5 G5 from fK), p5, _, d5.2.2.2.2.2.1 (by decide)⟩ ?_ (List.forall_mem_cons.mpr ⟨(by first | rfl | (simp [gi_look]; done)), List.forall_mem_cons.mpr ⟨(by first | rfl | (simp [gi_look]; done)), List.forall_mem_cons.mpr ⟨(by first | rfl | (simp [gi_look]; done)), List.forall_mem_cons.mpr ⟨(by first | rfl | (simp [gi_look]; done)), fun _ h => absurd h List.not_mem_nil⟩⟩⟩⟩) rfl rfl rfl
                rintro w y' ⟨hw', S6, J6, F6, G6, H6, o6, r6, e46, f6, p6, e50⟩ ihw
                try dsimp only at *
                have H := H6
                obtain ⟨fs, Ha, Hf⟩ := id H.1
                have ho := o6
                refine gi_iload_n (q := 143) (i := 3) C (dm_Mo_analyze 79 rfl) rfl rfl rfl ?_
                refine gi_iconst (q := 144) (v := 2) C (dm_Mo_analyze 80 rfl) rfl (by decide) ?_
                refine gi_icmp_ge (q := 147) (tgt := 157) C (dm_Mo_analyze 81 rfl) rfl (by decide) (fun c144 => ?_) (fun c144 => ?_)
                · refine gi_aload_n (q := 158) (i := 0) C (dm_Mo_analyze 86 rfl) rfl rfl rfl ?_
                  refine gi_iconst (q := 159) (v := 1) C (dm_Mo_analyze 87 rfl) rfl (by decide) ?_
                  refine gi_put (q := 162) C (dm_Mo_analyze 88 rfl) rfl fl_Mo_183 fp_Mo_9 Ha (by rw [Hf.1]; decide) rfl rfl ?_
                  refine gi_genM (H.putI Ha Hf (by decide) rfl) (ho.up (by omega) (by omega)) (fun y H ho => ?_)
                  obtain ⟨fs, Ha, Hf⟩ := id H.1
                  refine gi_iload_n (q := 163) (i := 2) C (dm_Mo_analyze 89 rfl) rfl rfl rfl ?_
                  refine gi_iret C hr (dm_Mo_analyze 90 rfl) ?_
                  have we : w = 2 := by
                    rcases Nat.lt_or_ge w 2 with q | q
                    · exact absurd c144 (Int32.not_le.mpr (nI_lt (b := 2) q (by omega)))
                    · omega
                  subst we
                  refine ⟨rfl, rfl, _, J6, F6, G6, H, ho, ⟨fun j hj => ?_, r6.2.1, r6.2.2.1, r6.2.2.2⟩, rfl, e46, f6⟩
                  show upS S6 9 1 j = S j
                  unfold upS
                  rw [if_neg (by omega)]
                  exact r6.1 j hj
                · have wl : w < 2 := by
                    rcases Nat.lt_or_ge w 2 with q | q
                    · exact q
                    · exact absurd (nI_le (a := 2) q (by omega)) c144
                  obtain ⟨b6, e50⟩ := e50
                  refine gi_aload_n (q := 148) (i := 0) C (dm_Mo_analyze 82 rfl) rfl rfl rfl ?_
                  refine gi_callv 0 (q := 151) C (dm_Mo_analyze 83 rfl) rfl my_Mo_anew lk_Mo_513 im_Mo_anew rfl (c_Mo_anew B p6 (ok6 w).1 (ok6 w).2 f6 e46 e50 H) Ha rfl rfl ⟨(Nat.le_of_ble_eq_true rfl), (Nat.le_of_ble_eq_true rfl)⟩ (Nat.le_of_ble_eq_true rfl) ⟨(Nat.le_of_ble_eq_true rfl), (Nat.le_of_ble_eq_true rfl)⟩ (fun r148 n148 h148 e148 => ?_)
                  obtain ⟨rfl, rfl, S7, J7, F7, G7, H7, o7, r7, f7, e7, -, -⟩ := e148
                  refine gi_iinc (q := 154) (v := 1) C (dm_Mo_analyze 84 rfl) rfl rfl (by decide) (Nat.le_of_ble_eq_true rfl) ?_
                  refine gi_goto (tgt := 142) C (dm_Mo_analyze 85 rfl) (by decide) ?_
                  refine gi_close (ihw (w + 1) _ ⟨wl, S7, J7, F7, G7, H7, ho.tr o7, ⟨fun j hj => (r7.1 j (by omega)).trans (r6.1 j hj), fun j hj => (r7.2.1 j hj).trans (r6.2.1 j hj), fun j hj => (r7.2.2.1 j hj).trans (r6.2.2.1 j hj), fun j hj => (r7.2.2.2 j hj).trans (r6.2.2.2 j hj)⟩, (r7.1 46 (Or.inr (Or.inr rfl))).trans e46, f7, p6.b r7, e7⟩ (by omega)) (List.forall_mem_cons.mpr ⟨(by first | rfl | (simp [gi_look, nI_1]; done)), List.forall_mem_cons.mpr ⟨(by first | rfl | (simp [gi_look, nI_1]; done)), List.forall_mem_cons.mpr ⟨(by first | rfl | (simp [gi_look, nI_1]; done)), List.forall_mem_cons.mpr ⟨(by first | rfl | (simp [gi_look, nI_1]; done)), fun _ h => absurd h List.not_mem_nil⟩⟩⟩⟩) rfl rfl rfl
            · have pl : p < 480 := by
                rcases Nat.lt_or_ge p (480) with q | q
                · exact q
                · exact absurd (nI_le (a := 480) q (by omega)) c110
              refine gi_aload_n (q := 114) (i := 0) C (dm_Mo_analyze 64 rfl) rfl rfl rfl ?_
              refine gi_get (q := 117) C (dm_Mo_analyze 65 rfl) rfl fl_Mo_57 Ha (mo_g31 Hf) ?_
              refine gi_iload_n (q := 118) (i := 3) C (dm_Mo_analyze 66 rfl) rfl rfl rfl ?_
              refine gi_zald (q := 119) C (dm_Mo_analyze 67 rfl) rfl rfl (mo_a31 H) (inN (show p < 960 by omega) (by decide)) ?_
              rw [nI_clamp (show p < 2 ^ 31 by omega), (d5.2.2.2.1.1 p pl).1]
              refine gi_if_eq (q := 122) (tgt := 127) C (dm_Mo_analyze 68 rfl) rfl (by decide) (fun c119 => ?_) (fun c119 => ?_)
              · have e9 : wk (stpM P (siN k P sh) 0 (grF (wdF k P)) 0 0 bgF) (rtS P 0 (grF (wdF k P)) r ((itF (grF (wdF k P)) (outs P (siN k P sh)) (rootsF P k (fun m => bitA r m)) bgF j), false) k) (p + 1) = wk (stpM P (siN k P sh) 0 (grF (wdF k P)) 0 0 bgF) (rtS P 0 (grF (wdF k P)) r ((itF (grF (wdF k P)) (outs P (siN k P sh)) (rootsF P k (fun m => bitA r m)) bgF j), false) k) p := by
                  rw [wk_succ, stp0_f (bI_fa c119)]
                refine gi_iinc (q := 130) (v := 1) C (dm_Mo_analyze 72 rfl) rfl rfl (by decide) (Nat.le_of_ble_eq_true rfl) ?_
                refine gi_goto (tgt := 106) C (dm_Mo_analyze 73 rfl) (by decide) ?_
                refine gi_close (ihp (p + 1) _ ⟨pl, S5, J5, F5, G5, H5, o5, r5, e46, p5, by rw [e9]; exact d5⟩ (by omega)) (List.forall_mem_cons.mpr ⟨(by first | rfl | (simp [gi_look, nI_1]; done)), List.forall_mem_cons.mpr ⟨(by first | rfl | (simp [gi_look, nI_1]; done)), List.forall_mem_cons.mpr ⟨(by first | rfl | (simp [gi_look, nI_1]; done)), List.forall_mem_cons.mpr ⟨(by first | rfl | (simp [gi_look, nI_1]; done)), fun _ h => absurd h List.not_mem_nil⟩⟩⟩⟩) rfl rfl rfl
              · have tl : ((wk (stpM P (siN k P sh) 0 (grF (wdF k P)) 0 0 bgF) (rtS P 0 (grF (wdF k P)) r ((itF (grF (wdF k P)) (outs P (siN k P sh)) (rootsF P k (fun m => bitA r m)) bgF j), false) k) p).1 p).told = true := bI_t c119
                refine gi_aload_n (q := 123) (i := 0) C (dm_Mo_analyze 69 rfl) rfl rfl rfl ?_
                refine gi_iload_n (q := 124) (i := 3) C (dm_Mo_analyze 70 rfl) rfl rfl rfl ?_
                refine gi_callv 1 (q := 127) C (dm_Mo_analyze 71 rfl) rfl my_Mo_step lk_Mo_510 im_Mo_step rfl (c_Mo_stepP pl B (by decide) p5 d5 ⟨d5.2.2.2.2.2.2.2.1, fun f hf => wk_told (rtS_told (it_fld hf j) k) p⟩ tl H) Ha rfl rfl ⟨(Nat.le_of_ble_eq_true rfl), (Nat.le_of_ble_eq_true rfl)⟩ (Nat.le_of_ble_eq_true rfl) ⟨(Nat.le_of_ble_eq_true rfl), (Nat.le_of_ble_eq_true rfl)⟩ (fun r124 n124 h124 e124 => ?_)
                obtain ⟨rfl, rfl, κ8, S8, J8, F8, G8, H8, o8, ⟨r8, -⟩, d8⟩ := e124
                have e9 : wk (stpM P (siN k P sh) 0 (grF (wdF k P)) 0 0 bgF) (rtS P 0 (grF (wdF k P)) r ((itF (grF (wdF k P)) (outs P (siN k P sh)) (rootsF P k (fun m => bitA r m)) bgF j), false) k) (p + 1) = (outs P (siN k P sh) (wk (stpM P (siN k P sh) 0 (grF (wdF k P)) 0 0 bgF) (rtS P 0 (grF (wdF k P)) r ((itF (grF (wdF k P)) (outs P (siN k P sh)) (rootsF P k (fun m => bitA r m)) bgF j), false) k) p).1 p).foldl (comeM 0 (grF (wdF k P))) (wk (stpM P (siN k P sh) 0 (grF (wdF k P)) 0 0 bgF) (rtS P 0 (grF (wdF k P)) r ((itF (grF (wdF k P)) (outs P (siN k P sh)) (rootsF P k (fun m => bitA r m)) bgF j), false) k) p) := by
                  rw [wk_succ, stp0_t tl]
                refine gi_iinc (q := 130) (v := 1) C (dm_Mo_analyze 72 rfl) rfl rfl (by decide) (Nat.le_of_ble_eq_true rfl) ?_
                refine gi_goto (tgt := 106) C (dm_Mo_analyze 73 rfl) (by decide) ?_
                refine gi_close (ihp (p + 1) _ ⟨pl, S8, J8, F8, G8, H8, ho.tr o8, ⟨fun j hj => (r8.1 j (by omega) (by omega) (by omega) (by omega) (by omega) (by omega) (by omega)).trans (r5.1 j hj), fun j hj => (r8.2.1 j hj).trans (r5.2.1 j hj), fun j hj => (r8.2.2.1 j hj).trans (r5.2.2.1 j hj), fun j hj => (r8.2.2.2 j hj).trans (r5.2.2.2 j hj)⟩, (r8.1 46 (by decide) (by decide) (by decide) (by decide) (by decide) (by decide) (by decide)).trans e46, p5.yy r8, by rw [e9]; exact d8⟩ (by omega)) (List.forall_mem_cons.mpr ⟨(by first | rfl | (simp [gi_look, nI_1]; done)), List.forall_mem_cons.mpr ⟨(by first | rfl | (simp [gi_look, nI_1]; done)), List.forall_mem_cons.mpr ⟨(by first | rfl | (simp [gi_look, nI_1]; done)), List.forall_mem_cons.mpr ⟨(by first | rfl | (simp [gi_look, nI_1]; done)), fun _ h => absurd h List.not_mem_nil⟩⟩⟩⟩) rfl rfl rfl
          · have jl : j < 80 := by
              rcases Nat.lt_or_ge j (80) with q | q
              · exact q
              · exact absurd (nI_le (a := 80) q (by omega)) c59
            refine gi_aload_n (q := 63) (i := 0) C (dm_Mo_analyze 35 rfl) rfl rfl rfl ?_
            refine gi_get (q := 66) C (dm_Mo_analyze 36 rfl) rfl fl_Mo_101 Ha (mo_g45 Hf) ?_
            refine gi_iload_n (q := 67) (i := 2) C (dm_Mo_analyze 37 rfl) rfl rfl rfl ?_
            refine gi_iconst (q := 68) (v := 0) C (dm_Mo_analyze 38 rfl) rfl (by decide) ?_
            refine gi_iast (q := 69) C (dm_Mo_analyze 39 rfl) rfl rfl (mo_a45 H) (inN (show j < 80 by omega) (by decide)) ?_
            refine gi_genM (H.setI (p := 27) (k := 45) (by decide) rfl rfl (by decide) rfl (by omega)) (ho.up (by omega) (by omega)) (fun y H ho => ?_)
            obtain ⟨fs, Ha, Hf⟩ := id H.1
            rw [nI_clamp (show j < 2 ^ 31 by omega)] at H
            have key : ∃ F9, mo_at M (upS S 46 r) J F9 G1 y ∧ (∀ a, a ≠ 45 → F9 a = F2 a) ∧ ∀ q, q < j + 1 → F9 45 q = 0 := by
              refine ⟨_, H, fun a h1 => by rw [upA_n h1]; exact r3 a h1, fun q h1 => ?_⟩
              rw [upA_i, upd_is]
              by_cases z : q = j
              · rw [if_pos z]
              · rw [if_neg z]; exact c3 q (by omega)
            obtain ⟨F9, H9, x1, x2⟩ := key
            refine gi_iinc (q := 72) (v := 1) C (dm_Mo_analyze 40 rfl) rfl rfl (by decide) (Nat.le_of_ble_eq_true rfl) ?_
            refine gi_goto (tgt := 56) C (dm_Mo_analyze 41 rfl) (by decide) ?_
            refine gi_close (ihj (j + 1) _ ⟨jl, F9, H9, ho, x1, x2⟩ (by omega)) (List.forall_mem_cons.mpr ⟨(by first | rfl | (simp [gi_look, nI_1]; done)), List.forall_mem_cons.mpr ⟨(by first | rfl | (simp [gi_look, nI_1]; done)), List.forall_mem_cons.mpr ⟨(by first | rfl | (simp [gi_look, nI_1]; done)), fun _ h => absurd h List.not_mem_nil⟩⟩⟩) rfl rfl rfl
        · have jl : j < 480 := by
            rcases Nat.lt_or_ge j (480) with q | q
            · exact q
            · exact absurd (nI_le (a := 480) q (by omega)) c38
          refine gi_aload_n (q := 42) (i := 0) C (dm_Mo_analyze 23 rfl) rfl rfl rfl ?_
          refine gi_get (q := 45) C (dm_Mo_analyze 24 rfl) rfl fl_Mo_80 Ha (mo_g38 Hf) ?_
          refine gi_iload_n (q := 46) (i := 2) C (dm_Mo_analyze 25 rfl) rfl rfl rfl ?_
          refine gi_iconst (q := 47) (v := 0) C (dm_Mo_analyze 26 rfl) rfl (by decide) ?_
          refine gi_iast (q := 48) C (dm_Mo_analyze 27 rfl) rfl rfl (mo_a38 H) (inN (show j < 480 by omega) (by decide)) ?_
          refine gi_genM (H.setI (p := 20) (k := 38) (by decide) rfl rfl (by decide) rfl (by omega)) (ho.up (by omega) (by omega)) (fun y H ho => ?_)
          obtain ⟨fs, Ha, Hf⟩ := id H.1
          rw [nI_clamp (show j < 2 ^ 31 by omega)] at H
          have key : ∃ F9, mo_at M (upS S 46 r) J F9 G1 y ∧ (∀ a, a ≠ 38 → F9 a = F1 a) ∧ ∀ q, q < j + 1 → F9 38 q = 0 := by
            refine ⟨_, H, fun a h1 => by rw [upA_n h1]; exact r2 a h1, fun q h1 => ?_⟩
            rw [upA_i, upd_is]
            by_cases z : q = j
            · rw [if_pos z]
            · rw [if_neg z]; exact c2 q (by omega)
          obtain ⟨F9, H9, x1, x2⟩ := key
          refine gi_iinc (q := 51) (v := 1) C (dm_Mo_analyze 28 rfl) rfl rfl (by decide) (Nat.le_of_ble_eq_true rfl) ?_
          refine gi_goto (tgt := 34) C (dm_Mo_analyze 29 rfl) (by decide) ?_
          refine gi_close (ihj (j + 1) _ ⟨jl, F9, H9, ho, x1, x2⟩ (by omega)) (List.forall_mem_cons.mpr ⟨(by first | rfl | (simp [gi_look, nI_1]; done)), List.forall_mem_cons.mpr ⟨(by first | rfl | (simp [gi_look, nI_1]; done)), List.forall_mem_cons.mpr ⟨(by first | rfl | (simp [gi_look, nI_1]; done)), fun _ h => absurd h List.not_mem_nil⟩⟩⟩) rfl rfl rfl
      · exact absurd (show r < 1 <<< (S 0 &&& 31) from by rw [hpg.2.1]; exact hr'.2) c18
set_option maxHeartbeats 4000000 in
set_option maxRecDepth 100000 in
theorem c_Mo_analyze_bad (hk : S 0 = nI k) (hr' : ¬ rtOk k r) (H : mo_at M S J F G h) : gi_T l V y_Mo_analyze b_Mo_analyze 4 (some .int) 8 252 0 0 [.ref M, .int r] n h (gi_is (some (.int (-1))) n h) := by
  refine gi_enter (by decide) (Nat.le_of_ble_eq_true rfl) ?_
  intro _ _ _ _ _ _ _ _ C hr hnm
  obtain ⟨fs, Ha, Hf⟩ := id H.1
  have ho : outM M h h := outM.rf
  refine gi_aload_n (q := 1) (i := 0) C (dm_Mo_analyze 0 rfl) rfl rfl rfl ?_
  refine gi_get (q := 4) C (dm_Mo_analyze 1 rfl) rfl fl_Mo_179 Ha (mo_g8 Hf) ?_
  refine gi_if_eq (q := 7) (tgt := 21) C (dm_Mo_analyze 2 rfl) rfl (by decide) (fun c4 => ?_) (fun c4 => ?_)
  · refine gi_iconst (q := 22) (v := -1) C (dm_Mo_analyze 11 rfl) rfl (by decide) ?_
    refine gi_iret C hr (dm_Mo_analyze 12 rfl) ?_
    exact ⟨rfl, rfl, rfl⟩
  · refine gi_iload_n (q := 8) (i := 1) C (dm_Mo_analyze 3 rfl) rfl rfl rfl ?_
    refine gi_if_lt (q := 11) (tgt := 21) C (dm_Mo_analyze 4 rfl) rfl (by decide) (fun c8 => ?_) (fun c8 => ?_)
    · refine gi_iconst (q := 22) (v := -1) C (dm_Mo_analyze 11 rfl) rfl (by decide) ?_
      refine gi_iret C hr (dm_Mo_analyze 12 rfl) ?_
      exact ⟨rfl, rfl, rfl⟩
    · refine gi_iload_n (q := 12) (i := 1) C (dm_Mo_analyze 5 rfl) rfl rfl rfl ?_
      refine gi_iconst (q := 13) (v := 1) C (dm_Mo_analyze 6 rfl) rfl (by decide) ?_
      refine gi_aload_n (q := 14) (i := 0) C (dm_Mo_analyze 7 rfl) rfl rfl rfl ?_
      refine gi_get (q := 17) C (dm_Mo_analyze 8 rfl) rfl fl_Mo_176 Ha (mo_g0 Hf) ?_
      refine gi_ishl (q := 18) C (dm_Mo_analyze 9 rfl) rfl ?_
      refine gi_icmp_lt (q := 21) (tgt := 23) C (dm_Mo_analyze 10 rfl) rfl (by decide) (fun c18 => ?_) (fun c18 => ?_)
      · exact absurd ⟨Int32.not_lt.mp c8, (by rw [← hk]; exact c18)⟩ hr'
      · refine gi_iconst (q := 22) (v := -1) C (dm_Mo_analyze 11 rfl) rfl (by decide) ?_
        refine gi_iret C hr (dm_Mo_analyze 12 rfl) ?_
        exact ⟨rfl, rfl, rfl⟩
theorem nbf' {b : Bool} (h : ¬ bI (!b) = 0) : b = false := nbt h
set_option maxHeartbeats 4000000 in
set_option maxRecDepth 100000 in
theorem c_Mo_check (B : Built k P sh (siN k P sh) (wdF k P)) (hpg : pgR k P sh S F) (h9 : S 9 = 1) (h46 : S 46 = r) (h0 : fsN P Fz F G) (hR : rdO (tyF P sh) Fz) (H : mo_at M S J F G h) : gi_T l V y_Mo_check b_Mo_check 2 (some .int) 7 228 0 0 [.ref M] n h (fun v n' h' => (∃ x, v = some (.int x) ∧ chkV k P (siN k P sh) Fz r x) ∧ n' = n ∧ ∃ S' J' F' G', mo_at M S' J' F' G' h' ∧ outM M h h' ∧ frXA S S' J J' F F' G G' ∧ S' 46 = r ∧ S' 9 = S 9 ∧ fsN P Fz F' G') := by
  refine gi_enter (by decide) (Nat.le_of_ble_eq_true rfl) ?_
  intro _ _ _ _ _ _ _ _ C hr hnm
  obtain ⟨fs, Ha, Hf⟩ := id H.1
  have ho : outM M h h := outM.rf
  have w8 := B.wf.k8
  refine gi_aload_n (q := 1) (i := 0) C (dm_Mo_check 0 rfl) rfl rfl rfl ?_
  refine gi_get (q := 4) C (dm_Mo_check 1 rfl) rfl fl_Mo_183 Ha (mo_g9 Hf) ?_
  refine gi_if_ne (q := 7) (tgt := 9) C (dm_Mo_check 2 rfl) rfl (by decide) (fun c4 => ?_) (fun c4 => ?_)
  · refine gi_aload_n (q := 10) (i := 0) C (dm_Mo_check 5 rfl) rfl rfl rfl ?_
    refine gi_iconst (q := 11) (v := 2) C (dm_Mo_check 6 rfl) rfl (by decide) ?_
    refine gi_put (q := 14) C (dm_Mo_check 7 rfl) rfl fl_Mo_392 fp_Mo_47 Ha (by rw [Hf.1]; decide) rfl rfl ?_
    refine gi_genM (H.putI Ha Hf (by decide) rfl) (ho.up (by omega) (by omega)) (fun y H ho => ?_)
    obtain ⟨fs, Ha, Hf⟩ := id H.1
    refine gi_aload_n (q := 15) (i := 0) C (dm_Mo_check 8 rfl) rfl rfl rfl ?_
    refine gi_iconst (q := 16) (v := 0) C (dm_Mo_check 9 rfl) rfl (by decide) ?_
    refine gi_put (q := 19) C (dm_Mo_check 10 rfl) rfl fl_Mo_363 fp_Mo_48 Ha (by rw [Hf.1]; decide) rfl rfl ?_
    refine gi_genM (H.putI Ha Hf (by decide) rfl) (ho.up (by omega) (by omega)) (fun y H ho => ?_)
    obtain ⟨fs, Ha, Hf⟩ := id H.1
    refine gi_aload_n (q := 20) (i := 0) C (dm_Mo_check 11 rfl) rfl rfl rfl ?_
    refine gi_iconst (q := 21) (v := 0) C (dm_Mo_check 12 rfl) rfl (by decide) ?_
    refine gi_put (q := 24) C (dm_Mo_check 13 rfl) rfl fl_Mo_422 fp_Mo_49 Ha (by rw [Hf.1]; decide) rfl rfl ?_
    refine gi_genM (H.putI Ha Hf (by decide) rfl) (ho.up (by omega) (by omega)) (fun y H ho => ?_)
    obtain ⟨fs, Ha, Hf⟩ := id H.1
    refine gi_iconst (q := 25) (v := 0) C (dm_Mo_check 14 rfl) rfl (by decide) ?_
    refine gi_istore_n (q := 26) (i := 1) C (dm_Mo_check 15 rfl) rfl rfl (Nat.le_of_ble_eq_true rfl) ?_
    refine gi_while (σ := Nat) (fun j => k - j) (fun j => [(1, .int (nI j)), (0, .ref M)]) (fun _ => n) (fun _ => 0) (fun _ => 0) (fun j y' => j ≤ k ∧ (∃ S4 J4 F4 G4, mo_at M S4 J4 F4 G4 y' ∧ outM M h y' ∧ frXA S S4 J J4 F F4 G G4 ∧ S4 46 = r ∧ S4 9 = S 9 ∧ pgR k P sh S4 F4 ∧ mdR k P sh 2 bgF (Fz, false) (upS S4 51 1) F4 G4) ∧ ∀ q, q < j → flR P Fz r q = false) 0 ⟨Nat.zero_le _, ⟨(upS (upS (upS S 47 2) 48 0) 49 0), J, F, G, H, ho, ⟨fun j hj => by unfold upS; rw [if_neg (by omega), if_neg (by omega), if_neg (by omega)], fun _ _ => rfl, fun _ _ => rfl, fun _ _ => rfl⟩, h46, rfl, hpg, ⟨rfl, rfl, rfl, h0, fun z => absurd z (by decide), fun z => absurd rfl z, fun _ => rfl, hR.1, fun z => absurd z (by decide)⟩⟩, fun q hq => absurd hq (Nat.not_lt_zero _)⟩ ?_ (List.forall_mem_cons.mpr ⟨(by first | rfl | (simp [gi_look]; done)), List.forall_mem_cons.mpr ⟨(by first | rfl | (simp [gi_look]; done)), fun _ h => absurd h List.not_mem_nil⟩⟩) rfl rfl rfl
    rintro j y' ⟨hj, ⟨S4, J4, F4, G4, H4, o4, r4, e46, e9, p4, d4⟩, alr⟩ ihj
    try dsimp only at *
    have H := H4
    obtain ⟨fs, Ha, Hf⟩ := id H.1
    have ho := o4
    refine gi_iload_n (q := 27) (i := 1) C (dm_Mo_check 16 rfl) rfl rfl rfl ?_
    refine gi_aload_n (q := 28) (i := 0) C (dm_Mo_check 17 rfl) rfl rfl rfl ?_
    refine gi_get (q := 31) C (dm_Mo_check 18 rfl) rfl fl_Mo_176 Ha (mo_g0 Hf) ?_
    rw [p4.2.1]
    refine gi_icmp_ge (q := 34) (tgt := 75) C (dm_Mo_check 19 rfl) rfl (by decide) (fun c31 => ?_) (fun c31 => ?_)
    · have jl : j = k := by
        rcases Nat.lt_or_ge j (k) with q | q
        · exact absurd c31 (Int32.not_le.mpr (nI_lt (b := k) q (by omega)))
        · omega
      have rtf : ∀ q, q < k → flR P Fz r q = false := fun q hq => alr q (by omega)
      refine gi_iconst (q := 76) (v := 0) C (dm_Mo_check 43 rfl) rfl (by decide) ?_
      refine gi_istore_n (q := 77) (i := 1) C (dm_Mo_check 44 rfl) rfl rfl (Nat.le_of_ble_eq_true rfl) ?_
      refine gi_while (σ := Nat) (fun p => 480 - p) (fun p => [(1, .int (nI p)), (0, .ref M)]) (fun _ => n) (fun _ => 0) (fun _ => 0) (fun p y' => p ≤ 480 ∧ (∃ S4 J4 F4 G4, mo_at M S4 J4 F4 G4 y' ∧ outM M h y' ∧ frXA S S4 J J4 F F4 G G4 ∧ S4 46 = r ∧ S4 9 = S 9 ∧ pgR k P sh S4 F4 ∧ mdR k P sh 2 bgF (Fz, false) (upS S4 51 1) F4 G4) ∧ ∀ q, q < p → flS P (siN k P sh) Fz q = false) 0 ⟨Nat.zero_le _, ⟨S4, J4, F4, G4, H4, o4, r4, e46, e9, p4, d4⟩, fun q hq => absurd hq (Nat.not_lt_zero _)⟩ ?_ (List.forall_mem_cons.mpr ⟨(by first | rfl | (simp [gi_look]; done)), List.forall_mem_cons.mpr ⟨(by first | rfl | (simp [gi_look]; done)), fun _ h => absurd h List.not_mem_nil⟩⟩) rfl rfl rfl
      rintro p y' ⟨hp', ⟨S4, J4, F4, G4, H4, o4, r4, e46, e9, p4, d4⟩, alp⟩ ihp
      try dsimp only at *
      have H := H4
      obtain ⟨fs, Ha, Hf⟩ := id H.1
      have ho := o4
      refine gi_iload_n (q := 78) (i := 1) C (dm_Mo_check 45 rfl) rfl rfl rfl ?_
      refine gi_sipush (q := 81) (v := 480) C (dm_Mo_check 46 rfl) rfl (by decide) ?_
      refine gi_icmp_ge (q := 84) (tgt := 133) C (dm_Mo_check 47 rfl) rfl (by decide) (fun c81 => ?_) (fun c81 => ?_)
      · refine gi_iconst (q := 134) (v := 1) C (dm_Mo_check 76 rfl) rfl (by decide) ?_
        refine gi_iret C hr (dm_Mo_check 77 rfl) ?_
        have pe : p = 480 := by
          rcases Nat.lt_or_ge p 480 with q | q
          · exact absurd c81 (Int32.not_le.mpr (nI_lt (b := 480) q (by omega)))
          · omega
        subst pe
        exact ⟨⟨_, rfl, Or.inr ⟨rtf, Or.inr ⟨alp, rfl⟩⟩⟩, rfl, S4, J4, F4, G4, H4, o4, r4, e46, e9, d4.2.2.2.1⟩
      · have pl : p < 480 := by
          rcases Nat.lt_or_ge p (480) with q | q
          · exact q
          · exact absurd (nI_le (a := 480) q (by omega)) c81
        refine gi_aload_n (q := 85) (i := 0) C (dm_Mo_check 48 rfl) rfl rfl rfl ?_
        refine gi_get (q := 88) C (dm_Mo_check 49 rfl) rfl fl_Mo_57 Ha (mo_g31 Hf) ?_
        refine gi_iload_n (q := 89) (i := 1) C (dm_Mo_check 50 rfl) rfl rfl rfl ?_
        refine gi_zald (q := 90) C (dm_Mo_check 51 rfl) rfl rfl (mo_a31 H) (inN (show p < 960 by omega) (by decide)) ?_
        rw [nI_clamp (show p < 2 ^ 31 by omega), (d4.2.2.2.1.1 p pl).1]
        refine gi_if_eq (q := 93) (tgt := 127) C (dm_Mo_check 52 rfl) rfl (by decide) (fun c90 => ?_) (fun c90 => ?_)
        · have fl : flS P (siN k P sh) Fz p = false := by
            unfold flS
            rw [bI_fa c90]
            rfl
          refine gi_iinc (q := 130) (v := 1) C (dm_Mo_check 74 rfl) rfl rfl (by decide) (Nat.le_of_ble_eq_true rfl) ?_
          refine gi_goto (tgt := 77) C (dm_Mo_check 75 rfl) (by decide) ?_
          refine gi_close (ihp (p + 1) _ ⟨pl, ⟨S4, J4, F4, G4, H4, o4, r4, e46, e9, p4, d4⟩, fun q hq => by
              by_cases z : q = p
              · rw [z]; exact fl
              · exact alp q (by omega)⟩ (by omega)) (List.forall_mem_cons.mpr ⟨(by first | rfl | (simp [gi_look, nI_1]; done)), List.forall_mem_cons.mpr ⟨(by first | rfl | (simp [gi_look, nI_1]; done)), fun _ h => absurd h List.not_mem_nil⟩⟩) rfl rfl rfl
        · have tl : (Fz p).told = true := bI_t c90
          refine gi_aload_n (q := 94) (i := 0) C (dm_Mo_check 53 rfl) rfl rfl rfl ?_
          refine gi_iconst (q := 95) (v := 1) C (dm_Mo_check 54 rfl) rfl (by decide) ?_
          refine gi_put (q := 98) C (dm_Mo_check 55 rfl) rfl fl_Mo_395 fp_Mo_51 Ha (by rw [Hf.1]; decide) rfl rfl ?_
          refine gi_genM (H.putI Ha Hf (by decide) rfl) (ho.up (by omega) (by omega)) (fun y H ho => ?_)
          obtain ⟨fs, Ha, Hf⟩ := id H.1
          refine gi_aload_n (q := 99) (i := 0) C (dm_Mo_check 56 rfl) rfl rfl rfl ?_
          refine gi_iload_n (q := 100) (i := 1) C (dm_Mo_check 57 rfl) rfl rfl rfl ?_
          refine gi_callv 1 (q := 103) C (dm_Mo_check 58 rfl) rfl my_Mo_step lk_Mo_510 im_Mo_step rfl (c_Mo_stepP (md := 2) (Ff := bgF) (Z := (Fz, false)) (S := upS S4 51 1) pl B (by decide) p4 d4 hR tl H) Ha rfl rfl ⟨(Nat.le_of_ble_eq_true rfl), (Nat.le_of_ble_eq_true rfl)⟩ (Nat.le_of_ble_eq_true rfl) ⟨(Nat.le_of_ble_eq_true rfl), (Nat.le_of_ble_eq_true rfl)⟩ (fun r100 n100 h100 e100 => ?_)
          obtain ⟨rfl, rfl, κ8, S8, J8, F8, G8, H8, o8, ⟨r8, -⟩, d8⟩ := e100
          have H := H8
          obtain ⟨fs, Ha, Hf⟩ := id H.1
          rw [show (outs P (siN k P sh) (rdF 2 bgF (Fz, false)) p).foldl (comeM 2 (grF (wdF k P))) (Fz, false) = (Fz, flS P (siN k P sh) Fz p) from by rw [show rdF 2 bgF (Fz, false) = Fz from rfl, comesM_2]; unfold flS; rw [tl]; rfl] at d8
          refine gi_aload_n (q := 104) (i := 0) C (dm_Mo_check 59 rfl) rfl rfl rfl ?_
          refine gi_get (q := 107) C (dm_Mo_check 60 rfl) rfl fl_Mo_395 Ha (mo_g51 Hf) ?_
          rw [d8.2.2.2.2.2.2.1 rfl]
          refine gi_if_ne (q := 110) (tgt := 127) C (dm_Mo_check 61 rfl) rfl (by decide) (fun c107 => ?_) (fun c107 => ?_)
          · have d8' : mdR k P sh 2 bgF (Fz, false) (upS S8 51 1) F8 G8 := ⟨d8.1, d8.2.1, d8.2.2.1, d8.2.2.2.1, fun z => absurd z (by decide), fun z => absurd rfl z, fun _ => rfl, d8.2.2.2.2.2.2.2.1, fun z => absurd z (by decide)⟩
            have fl : flS P (siN k P sh) Fz p = false := nbf' c107
            refine gi_iinc (q := 130) (v := 1) C (dm_Mo_check 74 rfl) rfl rfl (by decide) (Nat.le_of_ble_eq_true rfl) ?_
            refine gi_goto (tgt := 77) C (dm_Mo_check 75 rfl) (by decide) ?_
            refine gi_close (ihp (p + 1) _ ⟨pl, ⟨S8, J8, F8, G8, H8, ho.tr o8, ⟨fun j hj => (r8.1 j (by omega) (by omega) (by omega) (by omega) (by omega) (by omega) (by omega)).trans (show upS S4 51 1 j = S j from by unfold upS; rw [if_neg (by omega)]; exact r4.1 j hj), fun j hj => (r8.2.1 j hj).trans (r4.2.1 j hj), fun j hj => (r8.2.2.1 j hj).trans (r4.2.2.1 j hj), fun j hj => (r8.2.2.2 j hj).trans (r4.2.2.2 j hj)⟩, (r8.1 46 (by decide) (by decide) (by decide) (by decide) (by decide) (by decide) (by decide)).trans e46, (r8.1 9 (by decide) (by decide) (by decide) (by decide) (by decide) (by decide) (by decide)).trans e9, (show pgR k P sh (upS S4 51 1) F4 from p4).yy r8, d8'⟩, fun q hq => by
                by_cases z : q = p
                · rw [z]; exact fl
                · exact alp q (by omega)⟩ (by omega)) (List.forall_mem_cons.mpr ⟨(by first | rfl | (simp [gi_look, nI_1]; done)), List.forall_mem_cons.mpr ⟨(by first | rfl | (simp [gi_look, nI_1]; done)), fun _ h => absurd h List.not_mem_nil⟩⟩) rfl rfl rfl
          · refine gi_sipush (q := 113) (v := -2000) C (dm_Mo_check 62 rfl) rfl (by decide) ?_
            refine gi_bipush (q := 115) (v := 100) C (dm_Mo_check 63 rfl) rfl (by decide) ?_
            refine gi_iload_n (q := 116) (i := 1) C (dm_Mo_check 64 rfl) rfl rfl rfl ?_
            refine gi_bipush (q := 118) (v := 60) C (dm_Mo_check 65 rfl) rfl (by decide) ?_
            refine gi_idiv (q := 119) C (dm_Mo_check 66 rfl) rfl (by decide) ?_
            refine gi_imul (q := 120) C (dm_Mo_check 67 rfl) rfl ?_
            refine gi_isub (q := 121) C (dm_Mo_check 68 rfl) rfl ?_
            refine gi_iload_n (q := 122) (i := 1) C (dm_Mo_check 69 rfl) rfl rfl rfl ?_
            refine gi_bipush (q := 124) (v := 60) C (dm_Mo_check 70 rfl) rfl (by decide) ?_
            refine gi_irem (q := 125) C (dm_Mo_check 71 rfl) rfl (by decide) ?_
            refine gi_isub (q := 126) C (dm_Mo_check 72 rfl) rfl ?_
            refine gi_iret C hr (dm_Mo_check 73 rfl) ?_
            have fl : flS P (siN k P sh) Fz p = true := nbf c107
            rw [show (60 : Int32) = nI 60 from rfl, nI_dv (by omega) (by decide), show nI p - nI (p / 60) * nI 60 = nI (p % 60) from by
              rw [nI_ml, nI_sb (by omega) (by omega)]
              congr 1
              omega]
            refine ⟨⟨_, rfl, Or.inr ⟨rtf, Or.inl ⟨p, pl, fl, alp, rfl⟩⟩⟩, rfl, S8, J8, F8, G8, H8, ho.tr o8, ⟨fun j hj => (r8.1 j (by omega) (by omega) (by omega) (by omega) (by omega) (by omega) (by omega)).trans (show upS S4 51 1 j = S j from by unfold upS; rw [if_neg (by omega)]; exact r4.1 j hj), fun j hj => (r8.2.1 j hj).trans (r4.2.1 j hj), fun j hj => (r8.2.2.1 j hj).trans (r4.2.2.1 j hj), fun j hj => (r8.2.2.2 j hj).trans (r4.2.2.2 j hj)⟩, (r8.1 46 (by decide) (by decide) (by decide) (by decide) (by decide) (by decide) (by decide)).trans e46, (r8.1 9 (by decide) (by decide) (by decide) (by decide) (by decide) (by decide) (by decide)).trans e9, d8.2.2.2.1⟩
    · have jl : j < k := by
        rcases Nat.lt_or_ge j (k) with q | q
        · exact q
        · exact absurd (nI_le (a := k) q (by omega)) c31
      refine gi_aload_n (q := 35) (i := 0) C (dm_Mo_check 20 rfl) rfl rfl rfl ?_
      refine gi_get (q := 38) C (dm_Mo_check 21 rfl) rfl fl_Mo_498 Ha (mo_g46 Hf) ?_
      rw [e46]
      refine gi_iload_n (q := 39) (i := 1) C (dm_Mo_check 22 rfl) rfl rfl rfl ?_
      refine gi_ishr (q := 40) C (dm_Mo_check 23 rfl) rfl ?_
      refine gi_iconst (q := 41) (v := 1) C (dm_Mo_check 24 rfl) rfl (by decide) ?_
      refine gi_iand (q := 42) C (dm_Mo_check 25 rfl) rfl ?_
      refine gi_iconst (q := 43) (v := 1) C (dm_Mo_check 26 rfl) rfl (by decide) ?_
      refine gi_icmp_ne (q := 46) (tgt := 69) C (dm_Mo_check 27 rfl) rfl (by decide) (fun c43 => ?_) (fun c43 => ?_)
      · have fl : flR P Fz r j = false := by
          unfold flR
          rw [show bitA r j = false from (Bool.not_eq_true _).mp (fun z => c43 ((sh_bit r (by omega)).mpr z)), Bool.false_and]
        refine gi_iinc (q := 72) (v := 1) C (dm_Mo_check 41 rfl) rfl rfl (by decide) (Nat.le_of_ble_eq_true rfl) ?_
        refine gi_goto (tgt := 26) C (dm_Mo_check 42 rfl) (by decide) ?_
        refine gi_close (ihj (j + 1) _ ⟨jl, ⟨S4, J4, F4, G4, H4, o4, r4, e46, e9, p4, d4⟩, fun q hq => by
            by_cases z : q = j
            · rw [z]; exact fl
            · exact alr q (by omega)⟩ (by omega)) (List.forall_mem_cons.mpr ⟨(by first | rfl | (simp [gi_look, nI_1]; done)), List.forall_mem_cons.mpr ⟨(by first | rfl | (simp [gi_look, nI_1]; done)), fun _ h => absurd h List.not_mem_nil⟩⟩) rfl rfl rfl
      · have bt : bitA r j = true := (sh_bit r (by omega)).mp c43
        refine gi_aload_n (q := 47) (i := 0) C (dm_Mo_check 28 rfl) rfl rfl rfl ?_
        refine gi_iconst (q := 48) (v := 1) C (dm_Mo_check 29 rfl) rfl (by decide) ?_
        refine gi_put (q := 51) C (dm_Mo_check 30 rfl) rfl fl_Mo_395 fp_Mo_51 Ha (by rw [Hf.1]; decide) rfl rfl ?_
        refine gi_genM (H.putI Ha Hf (by decide) rfl) (ho.up (by omega) (by omega)) (fun y H ho => ?_)
        obtain ⟨fs, Ha, Hf⟩ := id H.1
        refine gi_aload_n (q := 52) (i := 0) C (dm_Mo_check 31 rfl) rfl rfl rfl ?_
        refine gi_iload_n (q := 53) (i := 1) C (dm_Mo_check 32 rfl) rfl rfl rfl ?_
        refine gi_callv 1 (q := 56) C (dm_Mo_check 33 rfl) rfl my_Mo_root lk_Mo_501 im_Mo_root rfl (c_Mo_root (md := 2) (Ff := bgF) (Z := (Fz, false)) (S := upS S4 51 1) B (by decide) jl p4 d4 H) Ha rfl rfl ⟨(Nat.le_of_ble_eq_true rfl), (Nat.le_of_ble_eq_true rfl)⟩ (Nat.le_of_ble_eq_true rfl) ⟨(Nat.le_of_ble_eq_true rfl), (Nat.le_of_ble_eq_true rfl)⟩ (fun r53 n53 h53 e53 => ?_)
        obtain ⟨rfl, rfl, κ8, S8, J8, F8, G8, H8, o8, ⟨r8, -⟩, d8⟩ := e53
        have H := H8
        obtain ⟨fs, Ha, Hf⟩ := id H.1
        rw [show comeM 2 (grF (wdF k P)) (Fz, false) (60 * j + 0, pN P 2 j, rtF P j) = (Fz, newR (Fz (60 * j)) (pN P 2 j) (rtF P j)) from by rw [comeM_2]; rfl] at d8
        refine gi_aload_n (q := 57) (i := 0) C (dm_Mo_check 34 rfl) rfl rfl rfl ?_
        refine gi_get (q := 60) C (dm_Mo_check 35 rfl) rfl fl_Mo_395 Ha (mo_g51 Hf) ?_
        rw [d8.2.2.2.2.2.2.1 rfl]
        refine gi_if_ne (q := 63) (tgt := 69) C (dm_Mo_check 36 rfl) rfl (by decide) (fun c60 => ?_) (fun c60 => ?_)
        · have d8' : mdR k P sh 2 bgF (Fz, false) (upS S8 51 1) F8 G8 := ⟨d8.1, d8.2.1, d8.2.2.1, d8.2.2.2.1, fun z => absurd z (by decide), fun z => absurd rfl z, fun _ => rfl, d8.2.2.2.2.2.2.2.1, fun z => absurd z (by decide)⟩
          have fl : flR P Fz r j = false := by
            unfold flR
            rw [show newR (Fz (60 * j)) (pN P 2 j) (rtF P j) = false from nbt c60, Bool.and_false]
          refine gi_iinc (q := 72) (v := 1) C (dm_Mo_check 41 rfl) rfl rfl (by decide) (Nat.le_of_ble_eq_true rfl) ?_
          refine gi_goto (tgt := 26) C (dm_Mo_check 42 rfl) (by decide) ?_
          refine gi_close (ihj (j + 1) _ ⟨jl, ⟨S8, J8, F8, G8, H8, ho.tr o8, ⟨fun j hj => (r8.1 j (by omega) (by omega) (by omega) (by omega) (by omega) (by omega) (by omega)).trans (show upS S4 51 1 j = S j from by unfold upS; rw [if_neg (by omega)]; exact r4.1 j hj), fun j hj => (r8.2.1 j hj).trans (r4.2.1 j hj), fun j hj => (r8.2.2.1 j hj).trans (r4.2.2.1 j hj), fun j hj => (r8.2.2.2 j hj).trans (r4.2.2.2 j hj)⟩, (r8.1 46 (by decide) (by decide) (by decide) (by decide) (by decide) (by decide) (by decide)).trans e46, (r8.1 9 (by decide) (by decide) (by decide) (by decide) (by decide) (by decide) (by decide)).trans e9, (show pgR k P sh (upS S4 51 1) F4 from p4).yy r8, d8'⟩, fun q hq => by
              by_cases z : q = j
              · rw [z]; exact fl
              · exact alr q (by omega)⟩ (by omega)) (List.forall_mem_cons.mpr ⟨(by first | rfl | (simp [gi_look, nI_1]; done)), List.forall_mem_cons.mpr ⟨(by first | rfl | (simp [gi_look, nI_1]; done)), fun _ h => absurd h List.not_mem_nil⟩⟩) rfl rfl rfl
        · refine gi_sipush (q := 66) (v := -1000) C (dm_Mo_check 37 rfl) rfl (by decide) ?_
          refine gi_iload_n (q := 67) (i := 1) C (dm_Mo_check 38 rfl) rfl rfl rfl ?_
          refine gi_isub (q := 68) C (dm_Mo_check 39 rfl) rfl ?_
          refine gi_iret C hr (dm_Mo_check 40 rfl) ?_
          have fl : flR P Fz r j = true := by
            unfold flR
            rw [bt, show newR (Fz (60 * j)) (pN P 2 j) (rtF P j) = true from nbf c60]
            rfl
          refine ⟨⟨_, rfl, Or.inl ⟨j, jl, fl, alr, rfl⟩⟩, rfl, S8, J8, F8, G8, H8, ho.tr o8, ⟨fun j hj => (r8.1 j (by omega) (by omega) (by omega) (by omega) (by omega) (by omega) (by omega)).trans (show upS S4 51 1 j = S j from by unfold upS; rw [if_neg (by omega)]; exact r4.1 j hj), fun j hj => (r8.2.1 j hj).trans (r4.2.1 j hj), fun j hj => (r8.2.2.1 j hj).trans (r4.2.2.1 j hj), fun j hj => (r8.2.2.2 j hj).trans (r4.2.2.2 j hj)⟩, (r8.1 46 (by decide) (by decide) (by decide) (by decide) (by decide) (by decide) (by decide)).trans e46, (r8.1 9 (by decide) (by decide) (by decide) (by decide) (by decide) (by decide) (by decide)).trans e9, d8.2.2.2.1⟩
  · exact absurd c4 (by rw [h9]; decide)
end RCK
