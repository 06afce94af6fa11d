-- needs: 89.99rma
section RMB
variable {l : Launch} {V : gi_V} {n : Nat} {h h' : gi_H} {M k : Nat} {P : Pm} {sh : Nat → Option Sh} {S S' : Nat → Int32} {J J' : Nat → Int64} {F F' : Nat → Nat → Int32} {G : Nat → Nat → Int64} {Fz : Fa} {cb : Bool} {z : Mc} {c : Nat} {Ga : Nat → Nat → Int32}
theorem ast_f {b : Bool} (R : mcR P cb (astZ z b) S J F) (h : cb = true → b = false) : mcR P cb z S J F := by
  obtain ⟨r1, r2, r3, r4, r5, r6, r7, r8, r9, r9', r10⟩ := R
  refine ⟨r1, r2, r3, r4, r5, r6, r7, r8, fun c => ?_, r9', r10⟩
  have q : S 88 = bI (z.as || b) := r9 c
  rw [q, h c, Bool.or_false]
set_option maxHeartbeats 4000000 in
set_option maxRecDepth 100000 in
theorem c_Mo_run (mv Nv : Int32) (W : wfP k P) (B : Built k P sh (siN k P sh) (wdF k P)) (hpg : pgR k P sh S F) (h8 : S 8 = 1) (hg : gaR c Ga S F) (hL : gvL c Ga) (cq : cb = true → crO Fz) (hc : ceX P sh cb Fz S F G) (H : mo_at M S J F G h) : gi_T l V y_Mo_run b_Mo_run 5 (some .int) 6 149 0 0 [.ref M, .int mv, .int Nv] n h (fun v n' h' => n' = n ∧ ((¬ rnK k P c Ga mv Nv ∧ v = some (.int (-1)) ∧ h' = h) ∨ (rnK k P c Ga mv Nv ∧ v = some (.int (rtL (rnL P (siN k P sh) Fz c Ga cb mv Nv))) ∧ rnP M (rnL P (siN k P sh) Fz c Ga cb mv Nv) h S J F G h'))) := by
  refine gi_enter (by decide) (Nat.le_of_ble_eq_true rfl) ?_
  intro _ _ _ _ _ _ _ _ C hr hnm
  obtain ⟨fs, Ha, Hf⟩ := id H.1
  have ho : outM M h h := outM.rf
  have c3 := hg.1
  refine gi_aload_n (q := 1) (i := 0) C (dm_Mo_run 0 rfl) rfl rfl rfl ?_
  refine gi_get (q := 4) C (dm_Mo_run 1 rfl) rfl fl_Mo_179 Ha (mo_g8 Hf) ?_
  refine gi_if_eq (q := 7) (tgt := 34) C (dm_Mo_run 2 rfl) rfl (by decide) (fun c4 => ?_) (fun c4 => ?_)
  · exact absurd c4 (by rw [h8]; decide)
  · refine gi_aload_n (q := 8) (i := 0) C (dm_Mo_run 3 rfl) rfl rfl rfl ?_
    refine gi_iload_n (q := 9) (i := 1) C (dm_Mo_run 4 rfl) rfl rfl rfl ?_
    refine gi_callv 1 (q := 12) C (dm_Mo_run 5 rfl) rfl my_Mo_isMethod lk_Mo_186 im_Mo_isMethod rfl (c_Mo_isMethod mv hpg.2.1 H) Ha rfl rfl ⟨(Nat.le_of_ble_eq_true rfl), (Nat.le_of_ble_eq_true rfl)⟩ (Nat.le_of_ble_eq_true rfl) ⟨(Nat.le_of_ble_eq_true rfl), (Nat.le_of_ble_eq_true rfl)⟩ (fun r9 n9 h9 e9 => ?_)
    obtain ⟨rfl, q9, u9⟩ := e9
    rw [q9, u9]
    refine gi_if_eq (q := 15) (tgt := 34) C (dm_Mo_run 6 rfl) rfl (by decide) (fun c12 => ?_) (fun c12 => ?_)
    · refine gi_iconst (q := 35) (v := -1) C (dm_Mo_run 16 rfl) rfl (by decide) ?_
      refine gi_iret C hr (dm_Mo_run 17 rfl) ?_
      refine ⟨rfl, .inl ⟨?_, rfl, rfl⟩⟩
      rintro ⟨k1, k2, k3, k4⟩
      first
        | exact absurd k1 (by rw [bI_fa c12]; decide)
        | exact absurd k2 (Int32.not_le.mpr c16)
        | exact absurd k3 (Int32.not_le.mpr c23)
        | (rw [nI_clamp (by omega), bI_fa c31] at k4; cases k4)
    · refine gi_iload_n (q := 16) (i := 2) C (dm_Mo_run 7 rfl) rfl rfl rfl ?_
      refine gi_if_lt (q := 19) (tgt := 34) C (dm_Mo_run 8 rfl) rfl (by decide) (fun c16 => ?_) (fun c16 => ?_)
      · refine gi_iconst (q := 35) (v := -1) C (dm_Mo_run 16 rfl) rfl (by decide) ?_
        refine gi_iret C hr (dm_Mo_run 17 rfl) ?_
        refine ⟨rfl, .inl ⟨?_, rfl, rfl⟩⟩
        rintro ⟨k1, k2, k3, k4⟩
        first
          | exact absurd k1 (by rw [bI_fa c12]; decide)
          | exact absurd k2 (Int32.not_le.mpr c16)
          | exact absurd k3 (Int32.not_le.mpr c23)
          | (rw [nI_clamp (by omega), bI_fa c31] at k4; cases k4)
      · refine gi_iload_n (q := 20) (i := 2) C (dm_Mo_run 9 rfl) rfl rfl rfl ?_
        refine gi_sipush (q := 23) (v := 20000) C (dm_Mo_run 10 rfl) rfl (by decide) ?_
        refine gi_icmp_gt (q := 26) (tgt := 34) C (dm_Mo_run 11 rfl) rfl (by decide) (fun c23 => ?_) (fun c23 => ?_)
        · refine gi_iconst (q := 35) (v := -1) C (dm_Mo_run 16 rfl) rfl (by decide) ?_
          refine gi_iret C hr (dm_Mo_run 17 rfl) ?_
          refine ⟨rfl, .inl ⟨?_, rfl, rfl⟩⟩
          rintro ⟨k1, k2, k3, k4⟩
          first
            | exact absurd k1 (by rw [bI_fa c12]; decide)
            | exact absurd k2 (Int32.not_le.mpr c16)
            | exact absurd k3 (Int32.not_le.mpr c23)
            | (rw [nI_clamp (by omega), bI_fa c31] at k4; cases k4)
        · have im := bI_t c12
          obtain ⟨a, ha, ea⟩ := isM_nI W.k8 im
          subst ea
          have w8 := W.k8
          have wm := wf_ar W ha
          obtain ⟨N, eN, N2⟩ : ∃ z : Nat, Nv = nI z ∧ z ≤ 20000 := by
            have q1 := c16
            have q2 := c23
            rw [Int32.lt_iff_toInt_lt, show (0 : Int32).toInt = 0 from rfl] at q1
            rw [Int32.lt_iff_toInt_lt, show (20000 : Int32).toInt = 20000 from rfl] at q2
            exact ⟨Nv.toInt.toNat, by apply Int32.toInt_inj.mp; rw [nI_toInt (by omega)]; omega, by omega⟩
          subst eN
          refine gi_aload_n (q := 27) (i := 0) C (dm_Mo_run 12 rfl) rfl rfl rfl ?_
          refine gi_iload_n (q := 28) (i := 1) C (dm_Mo_run 13 rfl) rfl rfl rfl ?_
          refine gi_callv 1 (q := 31) C (dm_Mo_run 14 rfl) rfl my_Mo_fits lk_Mo_561 im_Mo_fits rfl (c_Mo_fits (c := c) (Ga := Ga) W ha hpg.1 hg H) Ha rfl rfl ⟨(Nat.le_of_ble_eq_true rfl), (Nat.le_of_ble_eq_true rfl)⟩ (Nat.le_of_ble_eq_true rfl) ⟨(Nat.le_of_ble_eq_true rfl), (Nat.le_of_ble_eq_true rfl)⟩ (fun r28 n28 h28 e28 => ?_)
          obtain ⟨rfl, q28, u28⟩ := e28
          rw [q28, u28]
          refine gi_if_ne (q := 34) (tgt := 36) C (dm_Mo_run 15 rfl) rfl (by decide) (fun c31 => ?_) (fun c31 => ?_)
          · refine gi_aload_n (q := 37) (i := 0) C (dm_Mo_run 18 rfl) rfl rfl rfl ?_
            refine gi_iconst (q := 38) (v := 0) C (dm_Mo_run 19 rfl) rfl (by decide) ?_
            refine gi_put (q := 41) C (dm_Mo_run 20 rfl) rfl fl_Mo_540 fp_Mo_75 Ha (by rw [Hf.1]; decide) rfl rfl ?_
            refine gi_genM (H.putI Ha Hf (by decide) rfl) (ho.up (by omega) (by omega)) (fun y H ho => ?_)
            obtain ⟨fs, Ha, Hf⟩ := id H.1
            refine gi_aload_n (q := 42) (i := 0) C (dm_Mo_run 21 rfl) rfl rfl rfl ?_
            refine gi_iconst (q := 43) (v := 0) C (dm_Mo_run 22 rfl) rfl (by decide) ?_
            refine gi_put (q := 46) C (dm_Mo_run 23 rfl) rfl fl_Mo_543 fp_Mo_76 Ha (by rw [Hf.1]; decide) rfl rfl ?_
            refine gi_genM (H.putI Ha Hf (by decide) rfl) (ho.up (by omega) (by omega)) (fun y H ho => ?_)
            obtain ⟨fs, Ha, Hf⟩ := id H.1
            refine gi_aload_n (q := 47) (i := 0) C (dm_Mo_run 24 rfl) rfl rfl rfl ?_
            refine gi_iconst (q := 48) (v := 0) C (dm_Mo_run 25 rfl) rfl (by decide) ?_
            refine gi_put (q := 51) C (dm_Mo_run 26 rfl) rfl fl_Mo_552 fp_Mo_81 Ha (by rw [Hf.1]; decide) rfl rfl ?_
            refine gi_genM (H.putI Ha Hf (by decide) rfl) (ho.up (by omega) (by omega)) (fun y H ho => ?_)
            obtain ⟨fs, Ha, Hf⟩ := id H.1
            refine gi_aload_n (q := 52) (i := 0) C (dm_Mo_run 27 rfl) rfl rfl rfl ?_
            refine gi_iconst (q := 53) (v := 0) C (dm_Mo_run 28 rfl) rfl (by decide) ?_
            refine gi_put (q := 56) C (dm_Mo_run 29 rfl) rfl fl_Mo_564 fp_Mo_82 Ha (by rw [Hf.1]; decide) rfl rfl ?_
            refine gi_genM (H.putI Ha Hf (by decide) rfl) (ho.up (by omega) (by omega)) (fun y H ho => ?_)
            obtain ⟨fs, Ha, Hf⟩ := id H.1
            refine gi_aload_n (q := 57) (i := 0) C (dm_Mo_run 30 rfl) rfl rfl rfl ?_
            refine gi_iconst (q := 58) (v := 0) C (dm_Mo_run 31 rfl) rfl (by decide) ?_
            refine gi_put (q := 61) C (dm_Mo_run 32 rfl) rfl fl_Mo_567 fp_Mo_83 Ha (by rw [Hf.1]; decide) rfl rfl ?_
            refine gi_genM (H.putI Ha Hf (by decide) rfl) (ho.up (by omega) (by omega)) (fun y H ho => ?_)
            obtain ⟨fs, Ha, Hf⟩ := id H.1
            refine gi_aload_n (q := 62) (i := 0) C (dm_Mo_run 33 rfl) rfl rfl rfl ?_
            refine gi_iconst (q := 63) (v := 0) C (dm_Mo_run 34 rfl) rfl (by decide) ?_
            refine gi_put (q := 66) C (dm_Mo_run 35 rfl) rfl fl_Mo_555 fp_Mo_85 Ha (by rw [Hf.1]; decide) rfl rfl ?_
            refine gi_genM (H.putI Ha Hf (by decide) rfl) (ho.up (by omega) (by omega)) (fun y H ho => ?_)
            obtain ⟨fs, Ha, Hf⟩ := id H.1
            refine gi_aload_n (q := 67) (i := 0) C (dm_Mo_run 36 rfl) rfl rfl rfl ?_
            refine gi_lconst (q := 68) (v := 0) C (dm_Mo_run 37 rfl) rfl (by decide) ?_
            refine gi_put (q := 71) C (dm_Mo_run 38 rfl) rfl fl_Mo_570 fp_Mo_86 Ha (by rw [Hf.1]; decide) rfl rfl ?_
            refine gi_genM (H.putJ Ha Hf (by decide) rfl) (ho.up (by omega) (by omega)) (fun y H ho => ?_)
            obtain ⟨fs, Ha, Hf⟩ := id H.1
            refine gi_aload_n (q := 72) (i := 0) C (dm_Mo_run 39 rfl) rfl rfl rfl ?_
            refine gi_iconst (q := 73) (v := -1) C (dm_Mo_run 40 rfl) rfl (by decide) ?_
            refine gi_put (q := 76) C (dm_Mo_run 41 rfl) rfl fl_Mo_173 fp_Mo_87 Ha (by rw [Hf.1]; decide) rfl rfl ?_
            refine gi_genM (H.putI Ha Hf (by decide) rfl) (ho.up (by omega) (by omega)) (fun y H ho => ?_)
            obtain ⟨fs, Ha, Hf⟩ := id H.1
            refine gi_aload_n (q := 77) (i := 0) C (dm_Mo_run 42 rfl) rfl rfl rfl ?_
            refine gi_iconst (q := 78) (v := 0) C (dm_Mo_run 43 rfl) rfl (by decide) ?_
            refine gi_put (q := 81) C (dm_Mo_run 44 rfl) rfl fl_Mo_546 fp_Mo_88 Ha (by rw [Hf.1]; decide) rfl rfl ?_
            refine gi_genM (H.putI Ha Hf (by decide) rfl) (ho.up (by omega) (by omega)) (fun y H ho => ?_)
            obtain ⟨fs, Ha, Hf⟩ := id H.1
            refine gi_iconst (q := 82) (v := 0) C (dm_Mo_run 45 rfl) rfl (by decide) ?_
            refine gi_istore_n (q := 83) (i := 3) C (dm_Mo_run 46 rfl) rfl rfl (Nat.le_of_ble_eq_true rfl) ?_
            have ff := bI_t c31
            obtain ⟨SB, hSB⟩ : ∃ SB, SB = (upS (upS (upS (upS (upS (upS (upS (upS S 75 0) 76 0) 81 0) 82 0) 83 0) 85 0) 87 (-1)) 88 0) := ⟨_, rfl⟩
            obtain ⟨JB, hJB⟩ : ∃ JB, JB = upL J 86 0 := ⟨_, rfl⟩
            have b75 : SB 75 = 0 := by rw [hSB]; rfl
            have b76 : SB 76 = 0 := by rw [hSB]; rfl
            have b81 : SB 81 = 0 := by rw [hSB]; rfl
            have b82 : SB 82 = 0 := by rw [hSB]; rfl
            have b83 : SB 83 = 0 := by rw [hSB]; rfl
            have b85 : SB 85 = 0 := by rw [hSB]; rfl
            have b87 : SB 87 = -1 := by rw [hSB]; rfl
            have b88 : SB 88 = 0 := by rw [hSB]; rfl
            have bS : ∀ j, j < 75 → SB j = S j := fun j hj => by
              rw [hSB]
              unfold upS
              rw [if_neg (by omega), if_neg (by omega), if_neg (by omega), if_neg (by omega), if_neg (by omega), if_neg (by omega), if_neg (by omega), if_neg (by omega)]
            have b86 : JB 86 = 0 := by rw [hJB]; rfl
            have bJ : ∀ j, j ≠ 86 → JB j = J j := fun j hj => by
              rw [hJB]
              unfold upL
              rw [if_neg hj]
            rw [← hSB, ← hJB] at H
            have H0 := H
            have ho0 := ho
            clear H ho Ha Hf
            refine gi_while (σ := Nat) (fun j => 4 - j) (fun j => [(3, .int (nI j)), (2, .int (nI N)), (1, .int (nI a)), (0, .ref M)]) (fun _ => n) (fun _ => 0) (fun _ => 0) (fun j y' => j ≤ 4 ∧ ∃ F1, mo_at M SB JB F1 G y' ∧ outM M h y' ∧ (∀ b, b ≠ 77 → F1 b = F b) ∧ ∀ i, i < j → F1 77 i = 0) 0 ⟨Nat.zero_le _, _, H0, ho0, fun _ _ => rfl, fun i hi => by omega⟩ ?_ (List.forall_mem_cons.mpr ⟨(by first | rfl | (simp [gi_look]; done)), List.forall_mem_cons.mpr ⟨(by first | rfl | (simp [gi_look]; done)), List.forall_mem_cons.mpr ⟨(by first | rfl | (simp [gi_look]; done)), List.forall_mem_cons.mpr ⟨(by first | rfl | (simp [gi_look]; done)), fun _ h => absurd h List.not_mem_nil⟩⟩⟩⟩) rfl rfl rfl
            rintro j y' ⟨hj, F1, H9, ho9, e9, f9⟩ ihj
            try dsimp only at *
            have H := H9
            have ho := ho9
            obtain ⟨fs, Ha, Hf⟩ := id H.1
            refine gi_iload_n (q := 84) (i := 3) C (dm_Mo_run 47 rfl) rfl rfl rfl ?_
            refine gi_iconst (q := 85) (v := 4) C (dm_Mo_run 48 rfl) rfl (by decide) ?_
            refine gi_icmp_ge (q := 88) (tgt := 136) C (dm_Mo_run 49 rfl) rfl (by decide) (fun c85 => ?_) (fun c85 => ?_)
            · have jl : j = 4 := by
                rcases Nat.lt_or_ge j (4) with q | q
                · exact absurd c85 (Int32.not_le.mpr (nI_lt (b := 4) q (by omega)))
                · omega
              subst jl
              have H := H9
              have ho := ho9
              obtain ⟨fs, Ha, Hf⟩ := id H.1
              refine gi_aload_n (q := 137) (i := 0) C (dm_Mo_run 75 rfl) rfl rfl rfl ?_
              refine gi_bipush (q := 139) (v := 60) C (dm_Mo_run 76 rfl) rfl (by decide) ?_
              refine gi_iload_n (q := 140) (i := 1) C (dm_Mo_run 77 rfl) rfl rfl rfl ?_
              refine gi_imul (q := 141) C (dm_Mo_run 78 rfl) rfl ?_
              rw [show (60 : Int32) = nI 60 from rfl, nI_ml]
              refine gi_put (q := 144) C (dm_Mo_run 79 rfl) rfl fl_Mo_573 fp_Mo_84 Ha (by rw [Hf.1]; decide) rfl rfl ?_
              refine gi_genM (H.putI Ha Hf (by decide) rfl) (ho.up (by omega) (by omega)) (fun y H ho => ?_)
              obtain ⟨fs, Ha, Hf⟩ := id H.1
              refine gi_aload_n (q := 145) (i := 0) C (dm_Mo_run 80 rfl) rfl rfl rfl ?_
              refine gi_iload_n (q := 146) (i := 1) C (dm_Mo_run 81 rfl) rfl rfl rfl ?_
              refine gi_callv 1 (q := 149) C (dm_Mo_run 82 rfl) rfl my_Mo_enter lk_Mo_576 im_Mo_enter rfl (c_Mo_enter (S := upS SB 84 (nI (60 * a))) (t := 0) (d := 0) (a := a) b81 (by decide) b85 (by decide) (by omega) H) Ha rfl rfl ⟨(Nat.le_of_ble_eq_true rfl), (Nat.le_of_ble_eq_true rfl)⟩ (Nat.le_of_ble_eq_true rfl) ⟨(Nat.le_of_ble_eq_true rfl), (Nat.le_of_ble_eq_true rfl)⟩ (fun r146 n146 h146 e146 => ?_)
              obtain ⟨rfl, qn146, S1, F5, H1, o1, es, s81, s85, ef, e78, e79, e80⟩ := e146
              rw [qn146]
              have H0 := H1
              have ho0 := ho.tr o1
              have z84 : S1 84 = nI (60 * a) := (es 84 (by decide) (by decide)).trans rfl
              have z83 : S1 83 = nI 0 := (es 83 (by decide) (by decide)).trans b83
              have z87 : S1 87 = -1 := (es 87 (by decide) (by decide)).trans b87
              have frz : frRn S S1 J JB F F5 := ⟨fun b hb => (es b (by omega) (by omega)).trans ((show upS SB 84 _ b = SB b from by unfold upS; rw [if_neg (by omega)]).trans (bS b hb)), bJ, fun b hb => (ef b (by omega) (by omega) (by omega)).trans (e9 b (by omega))⟩
              have Rz : mcR P cb (begC P Ga a 0) S1 JB F5 := beg_z (by omega) wm.2.1 ((es 75 (by decide) (by decide)).trans b75) ((es 76 (by decide) (by decide)).trans b76) (fun i hi => by rw [ef 77 (by decide) (by decide) (by decide)]; exact f9 i hi) s81 ((es 82 (by decide) (by decide)).trans b82) s85 b86 ((es 88 (by decide) (by decide)).trans b88) (fun i hi => by rw [e78, if_pos (by omega)]) (by rw [e79, if_pos rfl]) (by rw [e80, if_pos rfl])
              clear H ho Ha Hf
              refine gi_iconst (q := 150) (v := 0) C (dm_Mo_run 83 rfl) rfl (by decide) ?_
              refine gi_istore_n (q := 151) (i := 3) C (dm_Mo_run 84 rfl) rfl rfl (Nat.le_of_ble_eq_true rfl) ?_
              refine gi_while (σ := Nat) (fun j => c - j) (fun j => [(3, .int (nI j)), (2, .int (nI N)), (1, .int (nI a)), (0, .ref M)]) (fun _ => n) (fun _ => 0) (fun _ => 0) (fun j y' => j ≤ c ∧ ∃ S2 J2 F2, mo_at M S2 J2 F2 G y' ∧ outM M h y' ∧ frRn S S2 J J2 F F2 ∧ mcR P cb (begC P Ga a j) S2 J2 F2 ∧ S2 83 = nI 0 ∧ S2 84 = nI (60 * a) ∧ S2 87 = -1) 0 ⟨Nat.zero_le _, S1, JB, F5, H0, ho0, frz, Rz, z83, z84, z87⟩ ?_ (List.forall_mem_cons.mpr ⟨(by first | rfl | (simp [gi_look]; done)), List.forall_mem_cons.mpr ⟨(by first | rfl | (simp [gi_look]; done)), List.forall_mem_cons.mpr ⟨(by first | rfl | (simp [gi_look]; done)), List.forall_mem_cons.mpr ⟨(by first | rfl | (simp [gi_look]; done)), fun _ h => absurd h List.not_mem_nil⟩⟩⟩⟩) rfl rfl rfl
              rintro j y' ⟨hj, S2, J2, F2, H9, ho9, fr, R, z83, z84, z87⟩ ihj
              try dsimp only at *
              have H := H9
              have ho := ho9
              obtain ⟨fs, Ha, Hf⟩ := id H.1
              have h81 : S2 81 = nI (0 + 1) := R.2.2.2.1
              have g67 : S2 67 = nI c := (fr.1 67 (by decide)).trans hg.2.1
              refine gi_iload_n (q := 152) (i := 3) C (dm_Mo_run 85 rfl) rfl rfl rfl ?_
              refine gi_aload_n (q := 153) (i := 0) C (dm_Mo_run 86 rfl) rfl rfl rfl ?_
              refine gi_get (q := 156) C (dm_Mo_run 87 rfl) rfl fl_Mo_537 Ha (mo_g67 Hf) ?_
              rw [g67]
              refine gi_icmp_ge (q := 159) (tgt := 321) C (dm_Mo_run 88 rfl) rfl (by decide) (fun c156 => ?_) (fun c156 => ?_)
              · have jl : j = c := by
                  rcases Nat.lt_or_ge j (c) with q | q
                  · exact absurd c156 (Int32.not_le.mpr (nI_lt (b := c) q (by omega)))
                  · omega
                subst jl
                have H := H9
                have ho := ho9
                obtain ⟨fs, Ha, Hf⟩ := id H.1
                refine gi_close (run_m (Fz := Fz) (cb := cb) C hr B hpg hc (N := N) (v0 := N + 1) (Rf := rnL P (siN k P sh) Fz j Ga cb (nI a) (nI N)) N2 ⟨S2, J2, F2, begC P Ga a j, 0, a, 0, -1, cb, H, ho, fr, R, beg_TS B ha hg.1 hL ff, rfl, z83, by omega, z84, z87, ⟨fun q => ⟨q, by decide⟩, fun q => q.1⟩, .inl rfl, by unfold rnL; rw [nI_clamp (by omega), nI_clamp (by omega)]⟩ (fun y9 p9 => ⟨rfl, .inr ⟨⟨im, Int32.not_lt.mp c16, Int32.not_lt.mp c23, by rw [nI_clamp (by omega)]; exact ff⟩, rfl, p9⟩⟩)) (List.forall_mem_cons.mpr ⟨(by first | rfl | (simp [gi_look]; done)), List.forall_mem_cons.mpr ⟨(by first | rfl | (simp [gi_look]; done)), fun _ h => absurd h List.not_mem_nil⟩⟩) rfl rfl rfl
              · have jl : j < c := by
                  rcases Nat.lt_or_ge j (c) with q | q
                  · exact q
                  · exact absurd (nI_le (a := c) q (by omega)) c156
                have jn : j < pN P 2 a := by
                  have q1 : pN P 1 a = c := by
                    have q := ff
                    unfold ftG at q
                    rw [Bool.and_eq_true, decide_eq_true_iff] at q
                    exact q.1
                  omega
                obtain ⟨g68, g69, g0⟩ := hg.2.2.1 j jl
                refine gi_aload_n (q := 160) (i := 0) C (dm_Mo_run 89 rfl) rfl rfl rfl ?_
                refine gi_get (q := 163) C (dm_Mo_run 90 rfl) rfl fl_Mo_140 Ha (mo_g68 Hf) ?_
                refine gi_iload_n (q := 164) (i := 3) C (dm_Mo_run 91 rfl) rfl rfl rfl ?_
                refine gi_iald (q := 165) C (dm_Mo_run 92 rfl) rfl rfl (mo_a68 H) (inN (show j < 3 by omega) (by decide)) ?_
                rw [nI_clamp (show j < 2 ^ 31 by omega), fr.2.2 68 (by decide), g68]
                refine gi_if_ne (q := 168) (tgt := 187) C (dm_Mo_run 93 rfl) rfl (by decide) (fun c165 => ?_) (fun c165 => ?_)
                · refine gi_aload_n (q := 188) (i := 0) C (dm_Mo_run 105 rfl) rfl rfl rfl ?_
                  refine gi_get (q := 191) C (dm_Mo_run 106 rfl) rfl fl_Mo_140 Ha (mo_g68 Hf) ?_
                  refine gi_iload_n (q := 192) (i := 3) C (dm_Mo_run 107 rfl) rfl rfl rfl ?_
                  refine gi_iald (q := 193) C (dm_Mo_run 108 rfl) rfl rfl (mo_a68 H) (inN (show j < 3 by omega) (by decide)) ?_
                  rw [nI_clamp (show j < 2 ^ 31 by omega), fr.2.2 68 (by decide), g68]
                  refine gi_iconst (q := 194) (v := 1) C (dm_Mo_run 109 rfl) rfl (by decide) ?_
                  refine gi_icmp_ne (q := 197) (tgt := 315) C (dm_Mo_run 110 rfl) rfl (by decide) (fun c194 => ?_) (fun c194 => ?_)
                  · refine gi_iinc (q := 318) (v := 1) C (dm_Mo_run 177 rfl) rfl rfl (by decide) (Nat.le_of_ble_eq_true rfl) ?_
                    refine gi_goto (tgt := 151) C (dm_Mo_run 178 rfl) (by decide) ?_
                    refine gi_close (ihj (j + 1) _ ⟨jl, S2, J2, F2, H, ho, fr, beg_nul R c165 c194 jn, z83, z84, z87⟩ (by omega)) (List.forall_mem_cons.mpr ⟨(by first | rfl | (simp [gi_look, nI_1]; done)), List.forall_mem_cons.mpr ⟨(by first | rfl | (simp [gi_look, nI_1]; done)), List.forall_mem_cons.mpr ⟨(by first | rfl | (simp [gi_look, nI_1]; done)), List.forall_mem_cons.mpr ⟨(by first | rfl | (simp [gi_look, nI_1]; done)), fun _ h => absurd h List.not_mem_nil⟩⟩⟩⟩) rfl rfl rfl
                  · obtain ⟨len, l200, e69⟩ := hL j jl c194
                    obtain ⟨cb1, cb2⟩ := beg_b hL j (by omega)
                    have e9H : (begC P Ga a j).hp = (begG Ga j).2 := rfl
                    refine gi_aload_n (q := 198) (i := 0) C (dm_Mo_run 111 rfl) rfl rfl rfl ?_
                    refine gi_get (q := 201) C (dm_Mo_run 112 rfl) rfl fl_Mo_164 Ha (mo_g78 Hf) ?_
                    refine gi_aload_n (q := 202) (i := 0) C (dm_Mo_run 113 rfl) rfl rfl rfl ?_
                    refine gi_iload_n (q := 203) (i := 3) C (dm_Mo_run 114 rfl) rfl rfl rfl ?_
                    refine gi_callv 1 (q := 206) C (dm_Mo_run 115 rfl) rfl my_Mo_f lk_Mo_558 im_Mo_f rfl (c_Mo_f (t := 0) (i := j) h81 (by decide) (by omega) H) Ha rfl rfl ⟨(Nat.le_of_ble_eq_true rfl), (Nat.le_of_ble_eq_true rfl)⟩ (Nat.le_of_ble_eq_true rfl) ⟨(Nat.le_of_ble_eq_true rfl), (Nat.le_of_ble_eq_true rfl)⟩ (fun r203 n203 h203 e203 => ?_)
                    obtain ⟨rfl, q203, u203⟩ := e203
                    rw [q203, u203]
                    refine gi_aload_n (q := 207) (i := 0) C (dm_Mo_run 116 rfl) rfl rfl rfl ?_
                    refine gi_aload_n (q := 208) (i := 0) C (dm_Mo_run 117 rfl) rfl rfl rfl ?_
                    refine gi_get (q := 211) C (dm_Mo_run 118 rfl) rfl fl_Mo_143 Ha (mo_g69 Hf) ?_
                    refine gi_iload_n (q := 212) (i := 3) C (dm_Mo_run 119 rfl) rfl rfl rfl ?_
                    refine gi_iald (q := 213) C (dm_Mo_run 120 rfl) rfl rfl (mo_a69 H) (inN (show j < 3 by omega) (by decide)) ?_
                    rw [nI_clamp (show j < 2 ^ 31 by omega), fr.2.2 69 (by decide), g69, e69]
                    refine gi_iconst (q := 214) (v := 0) C (dm_Mo_run 121 rfl) rfl (by decide) ?_
                    refine gi_callv 2 (q := 217) C (dm_Mo_run 122 rfl) rfl my_Mo_makeArray lk_Mo_579 im_Mo_makeArray rfl (c_Mo_makeArray (z := begC P Ga a j) (len := len) (s := 0) R (by show (begG Ga j).2.c < 300; omega) (by show (begG Ga j).2.u + len ≤ 2000; omega) (by decide) (hc.R fr) H) Ha rfl rfl ⟨(Nat.le_of_ble_eq_true rfl), (Nat.le_of_ble_eq_true rfl)⟩ (Nat.le_of_ble_eq_true rfl) ⟨(Nat.le_of_ble_eq_true rfl), (Nat.le_of_ble_eq_true rfl)⟩ (fun r214 n214 h214 e214 => ?_)
                    obtain ⟨rfl, qn214, S3, J3, F3, H3, o3, f3, R3⟩ := e214
                    rw [qn214]
                    have H := H3
                    obtain ⟨fs, Ha, Hf⟩ := id H.1
                    have ho := ho.tr o3
                    have fr3 := fr.tr f3.R
                    have R3 := ast_f R3 (fun cc => by rw [(cq cc).2.1 (nI len) (nI_le (a := 0) (Nat.zero_le _) (by omega)), show rwT Fz (505 + 0) 0 = true from (cq cc).2.2 0]; simp)
                    refine gi_iast (q := 218) C (dm_Mo_run 123 rfl) rfl rfl (mo_a78 H) (inN (show 14 * 0 + j < 224 by omega) (by decide)) ?_
                    refine gi_genM (H.setI (p := 48) (k := 78) (by decide) rfl rfl (by decide) rfl (by omega)) (ho.up (by omega) (by omega)) (fun y H ho => ?_)
                    obtain ⟨fs, Ha, Hf⟩ := id H.1
                    rw [nI_clamp (show 14 * 0 + j < 2 ^ 31 by omega)] at H
                    have R4 : mcR P cb (locZ (hpZ (begC P Ga a j) (hGiv (begG Ga j).2 len 0 (fun i => Ga 3 (200 * j + i)))) j (nI ((begG Ga j).2.c + 1))) S3 J3 (upA F3 78 (upd (F3 78) (14 * 0 + j) (nI ((begG Ga j).2.c + 1)))) := by
                      rw [← hGiv_0]
                      exact R3.loc (x := hpZ (begC P Ga a j) (hAdd (begG Ga j).2 len 0)) jn (fun b hb => upA_n hb) (fun i => by rw [upA_i, upd_is]; rfl)
                    have fr4 : frRn S S3 J J3 F (upA F3 78 (upd (F3 78) (14 * 0 + j) (nI ((begG Ga j).2.c + 1)))) := fr3.tr ⟨fun _ _ => rfl, fun _ _ => rfl, fun b hb => by rw [upA_n (by omega)]⟩
                    have x83 : S3 83 = nI 0 := (f3.1 83 (.inr (.inl rfl))).trans z83
                    have x84 : S3 84 = nI (60 * a) := (f3.1 84 (.inr (.inr (.inl rfl)))).trans z84
                    have x87 : S3 87 = -1 := (f3.1 87 (.inr (.inr (.inr (.inr rfl))))).trans z87
                    have H0 := H
                    have ho0 := ho
                    clear H ho Ha Hf
                    refine gi_iconst (q := 219) (v := 0) C (dm_Mo_run 124 rfl) rfl (by decide) ?_
                    refine gi_istore (q := 221) C (dm_Mo_run 125 rfl) rfl (Nat.le_of_ble_eq_true rfl) ?_
                    refine gi_while (σ := Nat) (fun i => len - i) (fun i => [(4, .int (nI i)), (3, .int (nI j)), (2, .int (nI N)), (1, .int (nI a)), (0, .ref M)]) (fun _ => n) (fun _ => 0) (fun _ => 0) (fun i y' => i ≤ len ∧ ∃ S5 J5 F6, mo_at M S5 J5 F6 G y' ∧ outM M h y' ∧ frRn S S5 J J5 F F6 ∧ mcR P cb (locZ (hpZ (begC P Ga a j) (hGiv (begG Ga j).2 len i (fun i => Ga 3 (200 * j + i)))) j (nI ((begG Ga j).2.c + 1))) S5 J5 F6 ∧ S5 83 = nI 0 ∧ S5 84 = nI (60 * a) ∧ S5 87 = -1) 0 ⟨Nat.zero_le _, S3, J3, _, H0, ho0, fr4, R4, x83, x84, x87⟩ ?_ (List.forall_mem_cons.mpr ⟨(by first | rfl | (simp [gi_look]; done)), List.forall_mem_cons.mpr ⟨(by first | rfl | (simp [gi_look]; done)), List.forall_mem_cons.mpr ⟨(by first | rfl | (simp [gi_look]; done)), List.forall_mem_cons.mpr ⟨(by first | rfl | (simp [gi_look]; done)), List.forall_mem_cons.mpr ⟨(by first | rfl | (simp [gi_look]; done)), fun _ h => absurd h List.not_mem_nil⟩⟩⟩⟩⟩) rfl rfl rfl
                    rintro i y' ⟨hi, S5, J5, F6, H8, ho8, fr5, R5, x83, x84, x87⟩ ihi
                    try dsimp only at *
                    have H := H8
                    have ho := ho8
                    obtain ⟨fs, Ha, Hf⟩ := id H.1
                    refine gi_iload (q := 223) C (dm_Mo_run 126 rfl) rfl rfl ?_
                    refine gi_aload_n (q := 224) (i := 0) C (dm_Mo_run 127 rfl) rfl rfl rfl ?_
                    refine gi_get (q := 227) C (dm_Mo_run 128 rfl) rfl fl_Mo_143 Ha (mo_g69 Hf) ?_
                    refine gi_iload_n (q := 228) (i := 3) C (dm_Mo_run 129 rfl) rfl rfl rfl ?_
                    refine gi_iald (q := 229) C (dm_Mo_run 130 rfl) rfl rfl (mo_a69 H) (inN (show j < 3 by omega) (by decide)) ?_
                    rw [nI_clamp (show j < 2 ^ 31 by omega), fr5.2.2 69 (by decide), g69, e69]
                    refine gi_icmp_ge (q := 232) (tgt := 315) C (dm_Mo_run 131 rfl) rfl (by decide) (fun c229 => ?_) (fun c229 => ?_)
                    · have il : i = len := by
                        rcases Nat.lt_or_ge i len with q | q
                        · exact absurd c229 (Int32.not_le.mpr (nI_lt (b := len) q (by omega)))
                        · omega
                      have Rn : mcR P cb (begC P Ga a (j + 1)) S5 J5 F6 := by
                        refine R5.below rfl ?_ rfl rfl rfl rfl rfl (fun t ht => ?_)
                        · show givH Ga j (begG Ga j).2 = hGiv (begG Ga j).2 len i (fun i => Ga 3 (200 * j + i))
                          unfold givH
                          rw [if_pos c194, e69, nI_clamp (by omega), il]
                        · have t0 : t = 0 := Nat.le_zero.mp ht
                          subst t0
                          show mkF a 0 (pN P 2 a) (upO (begG Ga j).1 j (givV Ga j (begG Ga j).2)) = upO (fun _ => mkF a 0 (pN P 2 a) (begG Ga j).1) 0 (mkF a 0 (pN P 2 a) (upO (begG Ga j).1 j (nI ((begG Ga j).2.c + 1)))) 0
                          rw [upO_self]
                          unfold givV
                          rw [if_neg c165, if_pos c194]
                      refine gi_iinc (q := 318) (v := 1) C (dm_Mo_run 177 rfl) rfl rfl (by decide) (Nat.le_of_ble_eq_true rfl) ?_
                      refine gi_goto (tgt := 151) C (dm_Mo_run 178 rfl) (by decide) ?_
                      refine gi_close (ihj (j + 1) _ ⟨jl, S5, J5, F6, H8, ho8, fr5, Rn, x83, x84, x87⟩ (by omega)) (List.forall_mem_cons.mpr ⟨(by first | rfl | (simp [gi_look, nI_1]; done)), List.forall_mem_cons.mpr ⟨(by first | rfl | (simp [gi_look, nI_1]; done)), List.forall_mem_cons.mpr ⟨(by first | rfl | (simp [gi_look, nI_1]; done)), List.forall_mem_cons.mpr ⟨(by first | rfl | (simp [gi_look, nI_1]; done)), fun _ h => absurd h List.not_mem_nil⟩⟩⟩⟩) rfl rfl rfl
                    · have il : i < len := by
                        rcases Nat.lt_or_ge i len with q | q
                        · exact q
                        · exact absurd (nI_le (a := len) q (by omega)) c229
                      have q75 : S5 75 = nI ((begG Ga j).2.c + 1) := R5.2.1.2.1
                      have q72 : F6 72 ((begG Ga j).2.c + 1 - 1) = nI (upO (begG Ga j).2.st ((begG Ga j).2.c + 1) (begG Ga j).2.u ((begG Ga j).2.c + 1)) := (R5.2.1.2.2.2.1 ((begG Ga j).2.c + 1) (by omega) (Nat.le_refl _)).1
                      rw [upO_self, show (begG Ga j).2.c + 1 - 1 = (begG Ga j).2.c by omega] at q72
                      have g70 := hg.2.2.2 j i jl (by omega)
                      have s88 : S5 88 = 0 := by
                        cases cc : cb with
                        | true => exact R5.2.2.2.2.2.2.2.2.1 cc
                        | false => exact R5.2.2.2.2.2.2.2.2.2.1 cc
                      refine gi_aload_n (q := 233) (i := 0) C (dm_Mo_run 132 rfl) rfl rfl rfl ?_
                      refine gi_get (q := 236) C (dm_Mo_run 133 rfl) rfl fl_Mo_149 Ha (mo_g71 Hf) ?_
                      refine gi_aload_n (q := 237) (i := 0) C (dm_Mo_run 134 rfl) rfl rfl rfl ?_
                      refine gi_get (q := 240) C (dm_Mo_run 135 rfl) rfl fl_Mo_152 Ha (mo_g72 Hf) ?_
                      refine gi_aload_n (q := 241) (i := 0) C (dm_Mo_run 136 rfl) rfl rfl rfl ?_
                      refine gi_get (q := 244) C (dm_Mo_run 137 rfl) rfl fl_Mo_540 Ha (mo_g75 Hf) ?_
                      rw [q75]
                      refine gi_iconst (q := 245) (v := 1) C (dm_Mo_run 138 rfl) rfl (by decide) ?_
                      refine gi_isub (q := 246) C (dm_Mo_run 139 rfl) rfl ?_
                      rw [show (1 : Int32) = nI 1 from rfl, nI_sb (by omega) (by omega), show (begG Ga j).2.c + 1 - 1 = (begG Ga j).2.c by omega]
                      refine gi_iald (q := 247) C (dm_Mo_run 140 rfl) rfl rfl (mo_a72 H) (inN (show (begG Ga j).2.c < 301 by omega) (by decide)) ?_
                      rw [nI_clamp (show (begG Ga j).2.c < 2 ^ 31 by omega), q72]
                      refine gi_iload (q := 249) C (dm_Mo_run 141 rfl) rfl rfl ?_
                      refine gi_iadd (q := 250) C (dm_Mo_run 142 rfl) rfl ?_
                      rw [nI_add]
                      refine gi_aload_n (q := 251) (i := 0) C (dm_Mo_run 143 rfl) rfl rfl rfl ?_
                      refine gi_get (q := 254) C (dm_Mo_run 144 rfl) rfl fl_Mo_146 Ha (mo_g70 Hf) ?_
                      refine gi_sipush (q := 257) (v := 200) C (dm_Mo_run 145 rfl) rfl (by decide) ?_
                      refine gi_iload_n (q := 258) (i := 3) C (dm_Mo_run 146 rfl) rfl rfl rfl ?_
                      refine gi_imul (q := 259) C (dm_Mo_run 147 rfl) rfl ?_
                      refine gi_iload (q := 261) C (dm_Mo_run 148 rfl) rfl rfl ?_
                      refine gi_iadd (q := 262) C (dm_Mo_run 149 rfl) rfl ?_
                      rw [show (200 : Int32) = nI 200 from rfl, nI_ml, nI_add]
                      refine gi_iald (q := 263) C (dm_Mo_run 150 rfl) rfl rfl (mo_a70 H) (inN (show 200 * j + i < 600 by omega) (by decide)) ?_
                      rw [nI_clamp (show 200 * j + i < 2 ^ 31 by omega), fr5.2.2 70 (by decide), g70]
                      refine gi_iast (q := 264) C (dm_Mo_run 151 rfl) rfl rfl (mo_a71 H) (inN (show (begG Ga j).2.u + i < 2000 by omega) (by decide)) ?_
                      refine gi_genM (H.setI (p := 43) (k := 71) (by decide) rfl rfl (by decide) rfl (by omega)) (ho.up (by omega) (by omega)) (fun y H ho => ?_)
                      obtain ⟨fs, Ha, Hf⟩ := id H.1
                      refine gi_aload_n (q := 265) (i := 0) C (dm_Mo_run 152 rfl) rfl rfl rfl ?_
                      refine gi_aload_n (q := 266) (i := 0) C (dm_Mo_run 153 rfl) rfl rfl rfl ?_
                      refine gi_get (q := 269) C (dm_Mo_run 154 rfl) rfl fl_Mo_546 Ha (mo_g88 Hf) ?_
                      rw [s88]
                      refine gi_if_ne (q := 272) (tgt := 301) C (dm_Mo_run 155 rfl) rfl (by decide) (fun c269 => ?_) (fun c269 => ?_)
                      · exact absurd rfl c269
                      · refine gi_aload_n (q := 273) (i := 0) C (dm_Mo_run 156 rfl) rfl rfl rfl ?_
                        refine gi_get (q := 276) C (dm_Mo_run 157 rfl) rfl fl_Mo_183 Ha (mo_g9 Hf) ?_
                        rw [fr5.1 9 (by decide)]
                        refine gi_if_eq (q := 279) (tgt := 305) C (dm_Mo_run 158 rfl) rfl (by decide) (fun c276 => ?_) (fun c276 => ?_)
                        · refine gi_iconst (q := 306) (v := 0) C (dm_Mo_run 173 rfl) rfl (by decide) ?_
                          refine gi_put (q := 309) C (dm_Mo_run 174 rfl) rfl fl_Mo_546 fp_Mo_88 Ha (by rw [Hf.1]; decide) rfl rfl ?_
                          refine gi_genM (H.putI Ha Hf (by decide) rfl) (ho.up (by omega) (by omega)) (fun y H ho => ?_)
                          obtain ⟨fs, Ha, Hf⟩ := id H.1
                          rw [upS_id s88, nI_clamp (show (begG Ga j).2.u + i < 2 ^ 31 by omega)] at H
                          have Rn : mcR P cb (locZ (hpZ (begC P Ga a j) (hGiv (begG Ga j).2 len (i + 1) (fun i => Ga 3 (200 * j + i)))) j (nI ((begG Ga j).2.c + 1))) S5 J5 (upA F6 71 (upd (F6 71) ((begG Ga j).2.u + i) (Ga 3 (200 * j + i)))) := by
                            rw [← hGiv_s]
                            refine ast_f (b := false) (R5.cell (r := (begG Ga j).2.c + 1) (i := i) (v := Ga 3 (200 * j + i)) (S' := S5) ⟨fun cc => ?_, fun cc => s88⟩ (fun _ _ => rfl) (fun b hb => upA_n hb) (fun q => ?_)) (fun _ => rfl)
                            · exact s88
                            · rw [upA_i, upd_is]
                              show _ = if q = upO (begG Ga j).2.st ((begG Ga j).2.c + 1) (begG Ga j).2.u ((begG Ga j).2.c + 1) + i then _ else _
                              rw [upO_self]
                          refine gi_iinc (q := 312) (v := 1) C (dm_Mo_run 175 rfl) rfl rfl (by decide) (Nat.le_of_ble_eq_true rfl) ?_
                          refine gi_goto (tgt := 221) C (dm_Mo_run 176 rfl) (by decide) ?_
                          refine gi_close (ihi (i + 1) _ ⟨il, S5, J5, _, H, ho, fr5.tr ⟨fun _ _ => rfl, fun _ _ => rfl, fun b hb => by rw [upA_n (by omega)]⟩, Rn, x83, x84, x87⟩ (by omega)) (List.forall_mem_cons.mpr ⟨(by first | rfl | (simp [gi_look, nI_1]; done)), List.forall_mem_cons.mpr ⟨(by first | rfl | (simp [gi_look, nI_1]; done)), List.forall_mem_cons.mpr ⟨(by first | rfl | (simp [gi_look, nI_1]; done)), List.forall_mem_cons.mpr ⟨(by first | rfl | (simp [gi_look, nI_1]; done)), List.forall_mem_cons.mpr ⟨(by first | rfl | (simp [gi_look, nI_1]; done)), fun _ h => absurd h List.not_mem_nil⟩⟩⟩⟩⟩) rfl rfl rfl
                        · have cbt : cb = true := by
                            cases cb with
                            | true => rfl
                            | false => exact absurd hc.1 c276
                          have cf := (hc.of (F' := _) (S' := S5) (fun b hb => (upA_n (F := F6) (k := 71) (g := upd (F6 71) (nI ((begG Ga j).2.u + i)).toNatClampNeg (Ga 3 (200 * j + i))) (show b ≠ 71 by omega)).trans (fr5.2.2 b hb)) (fr5.1 9 (by decide))).2 cbt
                          refine gi_aload_n (q := 280) (i := 0) C (dm_Mo_run 159 rfl) rfl rfl rfl ?_
                          refine gi_bipush (q := 282) (v := 32) C (dm_Mo_run 160 rfl) rfl (by decide) ?_
                          refine gi_aload_n (q := 283) (i := 0) C (dm_Mo_run 161 rfl) rfl rfl rfl ?_
                          refine gi_get (q := 286) C (dm_Mo_run 162 rfl) rfl fl_Mo_146 Ha (mo_g70 Hf) ?_
                          refine gi_sipush (q := 289) (v := 200) C (dm_Mo_run 163 rfl) rfl (by decide) ?_
                          refine gi_iload_n (q := 290) (i := 3) C (dm_Mo_run 164 rfl) rfl rfl rfl ?_
                          refine gi_imul (q := 291) C (dm_Mo_run 165 rfl) rfl ?_
                          refine gi_iload (q := 293) C (dm_Mo_run 166 rfl) rfl rfl ?_
                          refine gi_iadd (q := 294) C (dm_Mo_run 167 rfl) rfl ?_
                          rw [show (200 : Int32) = nI 200 from rfl, nI_ml, nI_add]
                          refine gi_iald (q := 295) C (dm_Mo_run 168 rfl) rfl rfl (mo_a70 H) (inN (show 200 * j + i < 600 by omega) (by decide)) ?_
                          rw [nI_clamp (show 200 * j + i < 2 ^ 31 by omega), upA_n (by decide), fr5.2.2 70 (by decide), g70]
                          refine gi_callv 2 (q := 298) C (dm_Mo_run 169 rfl) rfl my_Mo_isToldBy lk_Mo_549 im_Mo_isToldBy rfl (c_Mo_isToldX (t := 505) (ix := 32) (Ga 3 (200 * j + i)) (by decide) (by decide) rfl cf H) Ha rfl rfl ⟨(Nat.le_of_ble_eq_true rfl), (Nat.le_of_ble_eq_true rfl)⟩ (Nat.le_of_ble_eq_true rfl) ⟨(Nat.le_of_ble_eq_true rfl), (Nat.le_of_ble_eq_true rfl)⟩ (fun r295 n295 h295 e295 => ?_)
                          obtain ⟨rfl, q295, u295⟩ := e295
                          rw [q295, u295]
                          refine gi_if_ne (q := 301) (tgt := 305) C (dm_Mo_run 170 rfl) rfl (by decide) (fun c298 => ?_) (fun c298 => ?_)
                          · refine gi_iconst (q := 306) (v := 0) C (dm_Mo_run 173 rfl) rfl (by decide) ?_
                            refine gi_put (q := 309) C (dm_Mo_run 174 rfl) rfl fl_Mo_546 fp_Mo_88 Ha (by rw [Hf.1]; decide) rfl rfl ?_
                            refine gi_genM (H.putI Ha Hf (by decide) rfl) (ho.up (by omega) (by omega)) (fun y H ho => ?_)
                            obtain ⟨fs, Ha, Hf⟩ := id H.1
                            rw [upS_id s88, nI_clamp (show (begG Ga j).2.u + i < 2 ^ 31 by omega)] at H
                            have Rn : mcR P cb (locZ (hpZ (begC P Ga a j) (hGiv (begG Ga j).2 len (i + 1) (fun i => Ga 3 (200 * j + i)))) j (nI ((begG Ga j).2.c + 1))) S5 J5 (upA F6 71 (upd (F6 71) ((begG Ga j).2.u + i) (Ga 3 (200 * j + i)))) := by
                              rw [← hGiv_s]
                              refine ast_f (b := false) (R5.cell (r := (begG Ga j).2.c + 1) (i := i) (v := Ga 3 (200 * j + i)) (S' := S5) ⟨fun cc => ?_, fun cc => s88⟩ (fun _ _ => rfl) (fun b hb => upA_n hb) (fun q => ?_)) (fun _ => rfl)
                              · exact s88
                              · rw [upA_i, upd_is]
                                show _ = if q = upO (begG Ga j).2.st ((begG Ga j).2.c + 1) (begG Ga j).2.u ((begG Ga j).2.c + 1) + i then _ else _
                                rw [upO_self]
                            refine gi_iinc (q := 312) (v := 1) C (dm_Mo_run 175 rfl) rfl rfl (by decide) (Nat.le_of_ble_eq_true rfl) ?_
                            refine gi_goto (tgt := 221) C (dm_Mo_run 176 rfl) (by decide) ?_
                            refine gi_close (ihi (i + 1) _ ⟨il, S5, J5, _, H, ho, fr5.tr ⟨fun _ _ => rfl, fun _ _ => rfl, fun b hb => by rw [upA_n (by omega)]⟩, Rn, x83, x84, x87⟩ (by omega)) (List.forall_mem_cons.mpr ⟨(by first | rfl | (simp [gi_look, nI_1]; done)), List.forall_mem_cons.mpr ⟨(by first | rfl | (simp [gi_look, nI_1]; done)), List.forall_mem_cons.mpr ⟨(by first | rfl | (simp [gi_look, nI_1]; done)), List.forall_mem_cons.mpr ⟨(by first | rfl | (simp [gi_look, nI_1]; done)), List.forall_mem_cons.mpr ⟨(by first | rfl | (simp [gi_look, nI_1]; done)), fun _ h => absurd h List.not_mem_nil⟩⟩⟩⟩⟩) rfl rfl rfl
                          · rw [(cq cbt).2.2 (Ga 3 (200 * j + i))] at c298; exact absurd c298 (by decide)
                · refine gi_aload_n (q := 169) (i := 0) C (dm_Mo_run 94 rfl) rfl rfl rfl ?_
                  refine gi_get (q := 172) C (dm_Mo_run 95 rfl) rfl fl_Mo_164 Ha (mo_g78 Hf) ?_
                  refine gi_aload_n (q := 173) (i := 0) C (dm_Mo_run 96 rfl) rfl rfl rfl ?_
                  refine gi_iload_n (q := 174) (i := 3) C (dm_Mo_run 97 rfl) rfl rfl rfl ?_
                  refine gi_callv 1 (q := 177) C (dm_Mo_run 98 rfl) rfl my_Mo_f lk_Mo_558 im_Mo_f rfl (c_Mo_f (t := 0) (i := j) h81 (by decide) (by omega) H) Ha rfl rfl ⟨(Nat.le_of_ble_eq_true rfl), (Nat.le_of_ble_eq_true rfl)⟩ (Nat.le_of_ble_eq_true rfl) ⟨(Nat.le_of_ble_eq_true rfl), (Nat.le_of_ble_eq_true rfl)⟩ (fun r174 n174 h174 e174 => ?_)
                  obtain ⟨rfl, q174, u174⟩ := e174
                  rw [q174, u174]
                  refine gi_aload_n (q := 178) (i := 0) C (dm_Mo_run 99 rfl) rfl rfl rfl ?_
                  refine gi_get (q := 181) C (dm_Mo_run 100 rfl) rfl fl_Mo_143 Ha (mo_g69 Hf) ?_
                  refine gi_iload_n (q := 182) (i := 3) C (dm_Mo_run 101 rfl) rfl rfl rfl ?_
                  refine gi_iald (q := 183) C (dm_Mo_run 102 rfl) rfl rfl (mo_a69 H) (inN (show j < 3 by omega) (by decide)) ?_
                  rw [nI_clamp (show j < 2 ^ 31 by omega), fr.2.2 69 (by decide), g69]
                  refine gi_iast (q := 184) C (dm_Mo_run 103 rfl) rfl rfl (mo_a78 H) (inN (show 14 * 0 + j < 224 by omega) (by decide)) ?_
                  refine gi_genM (H.setI (p := 48) (k := 78) (by decide) rfl rfl (by decide) rfl (by omega)) (ho.up (by omega) (by omega)) (fun y H ho => ?_)
                  obtain ⟨fs, Ha, Hf⟩ := id H.1
                  rw [nI_clamp (show 14 * 0 + j < 2 ^ 31 by omega)] at H
                  have Rn : mcR P cb (begC P Ga a (j + 1)) S2 J2 _ := beg_put (v := Ga 2 j) (F' := upA F2 78 (upd (F2 78) (14 * 0 + j) (Ga 2 j))) R rfl rfl rfl (by show (begG Ga j).2 = givH Ga j (begG Ga j).2; unfold givH; rw [if_neg (by rw [c165]; decide)]) (fun _ => rfl) rfl rfl rfl jn (by unfold givV; rw [if_pos c165]) (fun b hb => upA_n hb) (fun i => by rw [upA_i, upd_is, show 14 * 0 + j = j by omega])
                  refine gi_goto (tgt := 315) C (dm_Mo_run 104 rfl) (by decide) ?_
                  refine gi_iinc (q := 318) (v := 1) C (dm_Mo_run 177 rfl) rfl rfl (by decide) (Nat.le_of_ble_eq_true rfl) ?_
                  refine gi_goto (tgt := 151) C (dm_Mo_run 178 rfl) (by decide) ?_
                  refine gi_close (ihj (j + 1) _ ⟨jl, S2, J2, _, H, ho, fr.tr ⟨fun _ _ => rfl, fun _ _ => rfl, fun b hb => by rw [upA_n (by omega)]⟩, Rn, z83, z84, z87⟩ (by omega)) (List.forall_mem_cons.mpr ⟨(by first | rfl | (simp [gi_look, nI_1]; done)), List.forall_mem_cons.mpr ⟨(by first | rfl | (simp [gi_look, nI_1]; done)), List.forall_mem_cons.mpr ⟨(by first | rfl | (simp [gi_look, nI_1]; done)), List.forall_mem_cons.mpr ⟨(by first | rfl | (simp [gi_look, nI_1]; done)), fun _ h => absurd h List.not_mem_nil⟩⟩⟩⟩) rfl rfl rfl
            · have jl : j < 4 := by
                rcases Nat.lt_or_ge j (4) with q | q
                · exact q
                · exact absurd (nI_le (a := 4) q (by omega)) c85
              refine gi_aload_n (q := 89) (i := 0) C (dm_Mo_run 50 rfl) rfl rfl rfl ?_
              refine gi_get (q := 92) C (dm_Mo_run 51 rfl) rfl fl_Mo_161 Ha (mo_g77 Hf) ?_
              refine gi_iload_n (q := 93) (i := 3) C (dm_Mo_run 52 rfl) rfl rfl rfl ?_
              refine gi_iconst (q := 94) (v := 0) C (dm_Mo_run 53 rfl) rfl (by decide) ?_
              refine gi_iast (q := 95) C (dm_Mo_run 54 rfl) rfl rfl (mo_a77 H) (inN (show j < 4 by omega) (by decide)) ?_
              refine gi_genM (H.setI (p := 47) (k := 77) (by decide) rfl rfl (by decide) rfl (by omega)) (ho.up (by omega) (by omega)) (fun y H ho => ?_)
              obtain ⟨fs, Ha, Hf⟩ := id H.1
              refine gi_aload_n (q := 96) (i := 0) C (dm_Mo_run 55 rfl) rfl rfl rfl ?_
              refine gi_aload_n (q := 97) (i := 0) C (dm_Mo_run 56 rfl) rfl rfl rfl ?_
              refine gi_get (q := 100) C (dm_Mo_run 57 rfl) rfl fl_Mo_546 Ha (mo_g88 Hf) ?_
              rw [b88]
              refine gi_if_ne (q := 103) (tgt := 122) C (dm_Mo_run 58 rfl) rfl (by decide) (fun c100 => ?_) (fun c100 => ?_)
              · exact absurd rfl c100
              · refine gi_aload_n (q := 104) (i := 0) C (dm_Mo_run 59 rfl) rfl rfl rfl ?_
                refine gi_get (q := 107) C (dm_Mo_run 60 rfl) rfl fl_Mo_183 Ha (mo_g9 Hf) ?_
                rw [bS 9 (by decide)]
                refine gi_if_eq (q := 110) (tgt := 126) C (dm_Mo_run 61 rfl) rfl (by decide) (fun c107 => ?_) (fun c107 => ?_)
                · refine gi_iconst (q := 127) (v := 0) C (dm_Mo_run 71 rfl) rfl (by decide) ?_
                  refine gi_put (q := 130) C (dm_Mo_run 72 rfl) rfl fl_Mo_546 fp_Mo_88 Ha (by rw [Hf.1]; decide) rfl rfl ?_
                  refine gi_genM (H.putI Ha Hf (by decide) rfl) (ho.up (by omega) (by omega)) (fun y H ho => ?_)
                  obtain ⟨fs, Ha, Hf⟩ := id H.1
                  rw [upS_id b88, nI_clamp (show j < 2 ^ 31 by omega)] at H
                  refine gi_iinc (q := 133) (v := 1) C (dm_Mo_run 73 rfl) rfl rfl (by decide) (Nat.le_of_ble_eq_true rfl) ?_
                  refine gi_goto (tgt := 83) C (dm_Mo_run 74 rfl) (by decide) ?_
                  refine gi_close (ihj (j + 1) _ ⟨jl, _, H, ho, fun b hb => by rw [upA_n hb]; exact e9 b hb, fun i hi => by
                      rw [upA_i, upd_is]
                      by_cases q : i = j
                      · rw [if_pos q]
                      · rw [if_neg q]
                        exact f9 i (by omega)⟩ (by omega)) (List.forall_mem_cons.mpr ⟨(by first | rfl | (simp [gi_look, nI_1]; done)), List.forall_mem_cons.mpr ⟨(by first | rfl | (simp [gi_look, nI_1]; done)), List.forall_mem_cons.mpr ⟨(by first | rfl | (simp [gi_look, nI_1]; done)), List.forall_mem_cons.mpr ⟨(by first | rfl | (simp [gi_look, nI_1]; done)), fun _ h => absurd h List.not_mem_nil⟩⟩⟩⟩) rfl rfl rfl
                · have cbt : cb = true := by
                    cases cb with
                    | true => rfl
                    | false => exact absurd hc.1 c107
                  subst cbt
                  have cf := (hc.of (F' := _) (S' := SB) (fun b hb => (upA_n (F := F1) (k := 77) (g := upd (F1 77) (nI j).toNatClampNeg 0) (show b ≠ 77 by omega)).trans (e9 b (by omega))) (bS 9 (by decide))).2 rfl
                  refine gi_aload_n (q := 111) (i := 0) C (dm_Mo_run 62 rfl) rfl rfl rfl ?_
                  refine gi_bipush (q := 113) (v := 64) C (dm_Mo_run 63 rfl) rfl (by decide) ?_
                  refine gi_iload_n (q := 114) (i := 3) C (dm_Mo_run 64 rfl) rfl rfl rfl ?_
                  refine gi_iadd (q := 115) C (dm_Mo_run 65 rfl) rfl ?_
                  rw [show (64 : Int32) = nI 64 from rfl, nI_add]
                  refine gi_iconst (q := 116) (v := 0) C (dm_Mo_run 66 rfl) rfl (by decide) ?_
                  refine gi_callv 2 (q := 119) C (dm_Mo_run 67 rfl) rfl my_Mo_isToldBy lk_Mo_549 im_Mo_isToldBy rfl (c_Mo_isToldX (t := 530 + j) 0 (by omega) (by omega) (tix_f jl) cf H) Ha rfl rfl ⟨(Nat.le_of_ble_eq_true rfl), (Nat.le_of_ble_eq_true rfl)⟩ (Nat.le_of_ble_eq_true rfl) ⟨(Nat.le_of_ble_eq_true rfl), (Nat.le_of_ble_eq_true rfl)⟩ (fun r116 n116 h116 e116 => ?_)
                  obtain ⟨rfl, q116, u116⟩ := e116
                  rw [q116, u116]
                  refine gi_if_ne (q := 122) (tgt := 126) C (dm_Mo_run 68 rfl) rfl (by decide) (fun c119 => ?_) (fun c119 => ?_)
                  · refine gi_iconst (q := 127) (v := 0) C (dm_Mo_run 71 rfl) rfl (by decide) ?_
                    refine gi_put (q := 130) C (dm_Mo_run 72 rfl) rfl fl_Mo_546 fp_Mo_88 Ha (by rw [Hf.1]; decide) rfl rfl ?_
                    refine gi_genM (H.putI Ha Hf (by decide) rfl) (ho.up (by omega) (by omega)) (fun y H ho => ?_)
                    obtain ⟨fs, Ha, Hf⟩ := id H.1
                    rw [upS_id b88, nI_clamp (show j < 2 ^ 31 by omega)] at H
                    refine gi_iinc (q := 133) (v := 1) C (dm_Mo_run 73 rfl) rfl rfl (by decide) (Nat.le_of_ble_eq_true rfl) ?_
                    refine gi_goto (tgt := 83) C (dm_Mo_run 74 rfl) (by decide) ?_
                    refine gi_close (ihj (j + 1) _ ⟨jl, _, H, ho, fun b hb => by rw [upA_n hb]; exact e9 b hb, fun i hi => by
                        rw [upA_i, upd_is]
                        by_cases q : i = j
                        · rw [if_pos q]
                        · rw [if_neg q]
                          exact f9 i (by omega)⟩ (by omega)) (List.forall_mem_cons.mpr ⟨(by first | rfl | (simp [gi_look, nI_1]; done)), List.forall_mem_cons.mpr ⟨(by first | rfl | (simp [gi_look, nI_1]; done)), List.forall_mem_cons.mpr ⟨(by first | rfl | (simp [gi_look, nI_1]; done)), List.forall_mem_cons.mpr ⟨(by first | rfl | (simp [gi_look, nI_1]; done)), fun _ h => absurd h List.not_mem_nil⟩⟩⟩⟩) rfl rfl rfl
                  · rw [(cq rfl).1 j jl] at c119; exact absurd c119 (by decide)
          · refine gi_iconst (q := 35) (v := -1) C (dm_Mo_run 16 rfl) rfl (by decide) ?_
            refine gi_iret C hr (dm_Mo_run 17 rfl) ?_
            refine ⟨rfl, .inl ⟨?_, rfl, rfl⟩⟩
            rintro ⟨k1, k2, k3, k4⟩
            first
              | exact absurd k1 (by rw [bI_fa c12]; decide)
              | exact absurd k2 (Int32.not_le.mpr c16)
              | exact absurd k3 (Int32.not_le.mpr c23)
              | (rw [nI_clamp (by omega), bI_fa c31] at k4; cases k4)
end RMB
