-- needs: 89.46
section HR1
variable {l : Launch} {V : gi_V} {n : Nat} {h : gi_H} {X k c : Nat} {cr sx tp wr wt st : Int32} {F G BF : Nat → Nat → Int32} {S BS : Nat → Int32} {J : Nat → Int64} {H : Hp} {P : Pm} {sn : Nat → Nat} {wd wd0 : Nat → Bool} {Fc : Fa} {Φ : Nat → mR} {sh : Nat → Option Sh}
/-- whether a run is made -/
def rnK (k : Nat) (P : Pm) (c : Nat) (G : Nat → Nat → Int32) (m N : Int32) : Prop := isM k m = true ∧ 0 ≤ N ∧ N ≤ 20000 ∧ ftG P m.toNatClampNeg c G = true
def rnL (P : Pm) (sn : Nat → Nat) (Fc : Fa) (c : Nat) (G : Nat → Nat → Int32) (cb : Bool) (m N : Int32) : Lz × Int32 := lopZ P sn Fc N.toNatClampNeg (begC P G m.toNatClampNeg c, 0, m.toNatClampNeg, 0, -1, cb)
set_option maxHeartbeats 4000000 in
set_option maxRecDepth 100000 in
theorem c_H_run (m N : Int32) (cb : Bool) (HX : hs_ob X (bI cb) cr h) (HB : bu_at (X + 9) (X + 1) BS BF h) (hB1 : BS 0 = 1) (B : Built k P sh sn wd0) (hF : cb = true → okF (tyF P sh) Fc) (hc : c ≤ 3) (hS : S 0 = nI c) (HG : gv_at (X + 16911) S G h) (hL : gvL c G) (E : EN (X + 16915) (X + 1) (X + 9) (X + 17) k P sn wd Fc Φ h) (Q : MO (X + 16915) (X + 1) (X + 9) (X + 17) (X + 16911) h sx tp wr wt st F J H h) : gi_T l V y_H_run b_H_run 3 (some .int) 6 140 0 0 [.ref X, .int m, .int N] n h (fun v n' h' => n' = n ∧ ((¬ rnK k P c G m N ∧ v = some (.int (-1)) ∧ h' = h) ∨ (rnK k P c G m N ∧ v = some (.int (rtL (rnL P sn Fc c G cb m N))) ∧ MRun (X + 16915) (X + 1) (X + 9) (X + 17) (X + 16911) h (rnL P sn Fc c G cb m N).1 h'))) := by
  refine gi_enter (by decide) (Nat.le_of_ble_eq_true rfl) ?_
  intro _ _ _ _ _ _ _ _ C hr hnm
  have HX0 := HX
  unfold hs_ob at HX0
  refine gi_aload_n (q := 1) (i := 0) C (dm_H_run 0 rfl) rfl rfl rfl ?_
  refine gi_get (q := 4) C (dm_H_run 1 rfl) rfl fl_H_21 HX0 rfl ?_
  refine gi_get (q := 7) C (dm_H_run 2 rfl) rfl fl_H_105 HB.1 rfl ?_
  refine gi_if_eq (q := 10) (tgt := 47) C (dm_H_run 3 rfl) rfl (by decide) (fun c7 => ?_) (fun c7 => ?_)
  · exact absurd hB1 (by rw [c7]; decide)
  · refine gi_aload_n (q := 11) (i := 0) C (dm_H_run 4 rfl) rfl rfl rfl ?_
    refine gi_get (q := 14) C (dm_H_run 5 rfl) rfl fl_H_12 HX0 rfl ?_
    refine gi_iload_n (q := 15) (i := 1) C (dm_H_run 6 rfl) rfl rfl rfl ?_
    refine gi_callv 1 (q := 18) C (dm_H_run 7 rfl) rfl my_Pr_hasMethod lk_H_180 im_Pr_hasMethod rfl (c_Pr_hasMethod m B.wf.k8 (E.hP (fun _ _ => rfl))) (E.hP (fun _ _ => rfl)).1 rfl rfl ⟨(Nat.le_of_ble_eq_true rfl), (Nat.le_of_ble_eq_true rfl)⟩ (Nat.le_of_ble_eq_true rfl) ⟨(Nat.le_of_ble_eq_true rfl), (Nat.le_of_ble_eq_true rfl)⟩ (fun r15 n15 h15 e15 => ?_)
    obtain ⟨rfl, q15, u15⟩ := e15
    rw [q15, u15]
    refine gi_if_eq (q := 21) (tgt := 47) C (dm_H_run 8 rfl) rfl (by decide) (fun c18 => ?_) (fun c18 => ?_)
    · refine gi_iconst (q := 48) (v := -1) C (dm_H_run 21 rfl) rfl (by decide) ?_
      refine gi_iret C hr (dm_H_run 22 rfl) ?_
      refine ⟨rfl, Or.inl ⟨?_, rfl, rfl⟩⟩
      rintro ⟨z1, z2, z3, z4⟩
      first
        | (rw [bI_fa c18] at z1; cases z1)
        | exact absurd z2 (Int32.not_le.mpr c22)
        | exact absurd z3 (Int32.not_le.mpr c29)
        | (rw [mc, bI_fa c44] at z4; cases z4)
    · have im := bI_t c18
      obtain ⟨a, ha, rfl⟩ := isM_nI B.wf.k8 im
      have w8 := B.wf.k8
      have mc : (nI a).toNatClampNeg = a := nI_clamp (by omega)
      refine gi_iload_n (q := 22) (i := 2) C (dm_H_run 9 rfl) rfl rfl rfl ?_
      refine gi_if_lt (q := 25) (tgt := 47) C (dm_H_run 10 rfl) rfl (by decide) (fun c22 => ?_) (fun c22 => ?_)
      · refine gi_iconst (q := 48) (v := -1) C (dm_H_run 21 rfl) rfl (by decide) ?_
        refine gi_iret C hr (dm_H_run 22 rfl) ?_
        refine ⟨rfl, Or.inl ⟨?_, rfl, rfl⟩⟩
        rintro ⟨z1, z2, z3, z4⟩
        first
          | (rw [bI_fa c18] at z1; cases z1)
          | exact absurd z2 (Int32.not_le.mpr c22)
          | exact absurd z3 (Int32.not_le.mpr c29)
          | (rw [mc, bI_fa c44] at z4; cases z4)
      · refine gi_iload_n (q := 26) (i := 2) C (dm_H_run 11 rfl) rfl rfl rfl ?_
        refine gi_sipush (q := 29) (v := 20000) C (dm_H_run 12 rfl) rfl (by decide) ?_
        refine gi_icmp_gt (q := 32) (tgt := 47) C (dm_H_run 13 rfl) rfl (by decide) (fun c29 => ?_) (fun c29 => ?_)
        · refine gi_iconst (q := 48) (v := -1) C (dm_H_run 21 rfl) rfl (by decide) ?_
          refine gi_iret C hr (dm_H_run 22 rfl) ?_
          refine ⟨rfl, Or.inl ⟨?_, rfl, rfl⟩⟩
          rintro ⟨z1, z2, z3, z4⟩
          first
            | (rw [bI_fa c18] at z1; cases z1)
            | exact absurd z2 (Int32.not_le.mpr c22)
            | exact absurd z3 (Int32.not_le.mpr c29)
            | (rw [mc, bI_fa c44] at z4; cases z4)
        · have n0 : 0 ≤ N := Int32.not_lt.mp c22
          have n1 : N ≤ 20000 := Int32.not_lt.mp c29
          have nn := nn_nI (a := N) (Int32.le_iff_toInt_le.mp n0)
          have n2 : N.toInt ≤ 20000 := Int32.le_iff_toInt_le.mp n1
          obtain ⟨q, eq⟩ : ∃ q, q = N.toNatClampNeg := ⟨_, rfl⟩
          have e9 := nn.1
          have q2 : q ≤ 20000 := by omega
          rw [← eq] at e9
          clear nn eq n2
          subst e9
          have qc : (nI q).toNatClampNeg = q := nI_clamp (by omega)
          refine gi_aload_n (q := 33) (i := 0) C (dm_H_run 14 rfl) rfl rfl rfl ?_
          refine gi_get (q := 36) C (dm_H_run 15 rfl) rfl fl_H_56 HX0 rfl ?_
          refine gi_aload_n (q := 37) (i := 0) C (dm_H_run 16 rfl) rfl rfl rfl ?_
          refine gi_get (q := 40) C (dm_H_run 17 rfl) rfl fl_H_12 HX0 rfl ?_
          refine gi_iload_n (q := 41) (i := 1) C (dm_H_run 18 rfl) rfl rfl rfl ?_
          refine gi_callv 2 (q := 44) C (dm_H_run 19 rfl) rfl my_Gi_fits lk_H_224 im_Gi_fits rfl (c_Gi_fits B.wf ha (E.hP (fun _ _ => rfl)) hc hS HG) HG.1 rfl rfl ⟨(Nat.le_of_ble_eq_true rfl), (Nat.le_of_ble_eq_true rfl)⟩ (Nat.le_of_ble_eq_true rfl) ⟨(Nat.le_of_ble_eq_true rfl), (Nat.le_of_ble_eq_true rfl)⟩ (fun r41 n41 h41 e41 => ?_)
          obtain ⟨rfl, q41, u41⟩ := e41
          rw [q41, u41]
          refine gi_if_ne (q := 47) (tgt := 49) C (dm_H_run 20 rfl) rfl (by decide) (fun c44 => ?_) (fun c44 => ?_)
          · have ft := bI_t c44
            have el : rnL P sn Fc c G cb (nI a) (nI q) = lopZ P sn Fc q (begC P G a c, 0, a, 0, -1, cb) := by
              unfold rnL
              rw [mc, qc]
            have ok : rnK k P c G (nI a) (nI q) := ⟨im, n0, n1, by rw [mc]; exact ft⟩
            refine gi_aload_n (q := 50) (i := 0) C (dm_H_run 23 rfl) rfl rfl rfl ?_
            refine gi_get (q := 53) C (dm_H_run 24 rfl) rfl fl_H_65 HX0 rfl ?_
            refine gi_iload_n (q := 54) (i := 1) C (dm_H_run 25 rfl) rfl rfl rfl ?_
            refine gi_iload_n (q := 55) (i := 2) C (dm_H_run 26 rfl) rfl rfl rfl ?_
            refine gi_aload_n (q := 56) (i := 0) C (dm_H_run 27 rfl) rfl rfl rfl ?_
            refine gi_get (q := 59) C (dm_H_run 28 rfl) rfl fl_H_69 HX0 rfl ?_
            refine gi_callv 3 (q := 62) C (dm_H_run 29 rfl) rfl my_Ma_make lk_H_228 im_Ma_make rfl (c_Ma_make (N := q) cb ha q2 B hF ft hc hS HG (by omega) hL E Q) Q.ob rfl rfl ⟨(Nat.le_of_ble_eq_true rfl), (Nat.le_of_ble_eq_true rfl)⟩ (Nat.le_of_ble_eq_true rfl) ⟨(Nat.le_of_ble_eq_true rfl), (Nat.le_of_ble_eq_true rfl)⟩ (fun r59 n59 h59 e59 => ?_)
            obtain ⟨rfl, rfl, W59⟩ := e59
            refine gi_iret C hr (dm_H_run 30 rfl) ?_
            rw [el]
            exact ⟨rfl, Or.inr ⟨ok, rfl, W59⟩⟩
          · refine gi_iconst (q := 48) (v := -1) C (dm_H_run 21 rfl) rfl (by decide) ?_
            refine gi_iret C hr (dm_H_run 22 rfl) ?_
            refine ⟨rfl, Or.inl ⟨?_, rfl, rfl⟩⟩
            rintro ⟨z1, z2, z3, z4⟩
            first
              | (rw [bI_fa c18] at z1; cases z1)
              | exact absurd z2 (Int32.not_le.mpr c22)
              | exact absurd z3 (Int32.not_le.mpr c29)
              | (rw [mc, bI_fa c44] at z4; cases z4)
end HR1
