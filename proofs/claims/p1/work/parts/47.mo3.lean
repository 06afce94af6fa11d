section MO3
section GM
variable {p : Program} {l : Launch} {e : Env} {R : Room} {s : State} {m : MethodId} {args : Array Value} {below : List Frame} {meth : Method} {c : Code} {Q : State → Prop} {nL : Nat} {V : gi_V} {cells slots pc n : Nat} {L : List (Nat × Value)} {st : List Value} {h h0 : gi_H} {M : Nat} {S : Nat → Int32} {J : Nat → Int64} {F : Nat → Nat → Int32} {G : Nat → Nat → Int64}
def outM (M : Nat) (h h' : gi_H) : Prop := ∀ b, b < M ∨ M + 52 ≤ b → h' b = h b
theorem outM.rf : outM M h h := fun _ _ => rfl
theorem outM.up {a : Nat} {x : gi_E} (H : outM M h0 h) (h1 : M ≤ a) (h2 : a < M + 52) : outM M h0 (gi_up h a x) := fun b hb => by rw [gi_up_ne (by omega), H b hb]
/-- of the heap only the reference's state is kept in mind -/
theorem gi_genM (H : mo_at M S J F G h) (ho : outM M h0 h) (k : ∀ y : gi_H, mo_at M S J F G y → outM M h0 y → gi_G p l e R s m args below meth c Q V nL cells slots pc L st n y) : gi_G p l e R s m args below meth c Q V nL cells slots pc L st n h := k h H ho
end GM
variable {l : Launch} {V : gi_V} {n : Nat} {h : gi_H} {M k c : Nat} {S : Nat → Int32} {J : Nat → Int64} {F : Nat → Nat → Int32} {G : Nat → Nat → Int64}
def mo_S0 (S : Nat → Int32) : Nat → Int32 := upS (upS S 8 0) 9 0
def mo_addF (F : Nat → Nat → Int32) (k : Nat) (x y z r : Int32) : Nat → Nat → Int32 := upA (upA (upA (upA (upA F 1 (upd (F 1) k x)) 2 (upd (F 2) k y)) 3 (upd (F 3) k z)) 4 (upd (F 4) k r)) 5 (upd (F 5) k 0)
theorem k8_iff {k : Nat} (hk : k ≤ 8) : nI k = 8 ↔ k = 8 := by
  rw [show (8 : Int32) = nI 8 from rfl, nI_eq (by omega) (by omega)]
set_option maxHeartbeats 4000000 in
set_option maxRecDepth 100000 in
theorem c_Mo_method (x y z r : Int32) (hk : k ≤ 8) (hS : S 0 = nI k) (H : mo_at M S J F G h) : gi_T l V y_Mo_method b_Mo_method 6 (some .int) 0 0 0 0 [.ref M, .int x, .int y, .int z, .int r] n h (fun v n' h' => n' = n ∧ outM M h h' ∧ ((okM k x y z r ∧ v = some (.int (nI k)) ∧ mo_at M (mo_S0 (upS S 0 (nI k + 1))) J (mo_addF F k x y z r) G h') ∨ (¬ okM k x y z r ∧ v = some (.int (-1)) ∧ h' = h))) := by
  refine gi_enter (by decide) (Nat.le_of_ble_eq_true rfl) ?_
  intro _ _ _ _ _ _ _ _ C hr hnm
  obtain ⟨fs, Ha, Hf⟩ := id H.1
  have ho : outM M h h := outM.rf
  refine gi_aload_n (q := 1) (i := 0) C (dm_Mo_method 0 rfl) rfl rfl rfl ?_
  refine gi_get (q := 4) C (dm_Mo_method 1 rfl) rfl fl_Mo_176 Ha (mo_g0 Hf) ?_
  refine gi_bipush (q := 6) (v := 8) C (dm_Mo_method 2 rfl) rfl (by decide) ?_
  refine gi_icmp_eq (q := 9) (tgt := 51) C (dm_Mo_method 3 rfl) rfl (by decide) (fun c6 => ?_) (fun c6 => ?_)
  · refine gi_iconst (q := 52) (v := -1) C (dm_Mo_method 27 rfl) rfl (by decide) ?_
    refine gi_iret C hr (dm_Mo_method 28 rfl) ?_
    refine ⟨rfl, ho, Or.inr ⟨fun q => ?_, rfl, rfl⟩⟩
    obtain ⟨q1, q2, q3, q4, q5, q6, q7, q8, q9⟩ := q
    rw [hS] at c6
    first
      | exact absurd ((k8_iff hk).mp c6) (by omega)
      | (simp only [Int32.lt_iff_toInt_lt, Int32.le_iff_toInt_le, Int32.not_lt, Int32.not_le] at *; omega)
  · refine gi_iload_n (q := 10) (i := 1) C (dm_Mo_method 4 rfl) rfl rfl rfl ?_
    refine gi_if_lt (q := 13) (tgt := 51) C (dm_Mo_method 5 rfl) rfl (by decide) (fun c10 => ?_) (fun c10 => ?_)
    · refine gi_iconst (q := 52) (v := -1) C (dm_Mo_method 27 rfl) rfl (by decide) ?_
      refine gi_iret C hr (dm_Mo_method 28 rfl) ?_
      refine ⟨rfl, ho, Or.inr ⟨fun q => ?_, rfl, rfl⟩⟩
      obtain ⟨q1, q2, q3, q4, q5, q6, q7, q8, q9⟩ := q
      rw [hS] at c6
      first
        | exact absurd ((k8_iff hk).mp c6) (by omega)
        | (simp only [Int32.lt_iff_toInt_lt, Int32.le_iff_toInt_le, Int32.not_lt, Int32.not_le] at *; omega)
    · refine gi_iload_n (q := 14) (i := 1) C (dm_Mo_method 6 rfl) rfl rfl rfl ?_
      refine gi_iconst (q := 15) (v := 3) C (dm_Mo_method 7 rfl) rfl (by decide) ?_
      refine gi_icmp_gt (q := 18) (tgt := 51) C (dm_Mo_method 8 rfl) rfl (by decide) (fun c15 => ?_) (fun c15 => ?_)
      · refine gi_iconst (q := 52) (v := -1) C (dm_Mo_method 27 rfl) rfl (by decide) ?_
        refine gi_iret C hr (dm_Mo_method 28 rfl) ?_
        refine ⟨rfl, ho, Or.inr ⟨fun q => ?_, rfl, rfl⟩⟩
        obtain ⟨q1, q2, q3, q4, q5, q6, q7, q8, q9⟩ := q
        rw [hS] at c6
        first
          | exact absurd ((k8_iff hk).mp c6) (by omega)
          | (simp only [Int32.lt_iff_toInt_lt, Int32.le_iff_toInt_le, Int32.not_lt, Int32.not_le] at *; omega)
      · refine gi_iload_n (q := 19) (i := 2) C (dm_Mo_method 9 rfl) rfl rfl rfl ?_
        refine gi_iload_n (q := 20) (i := 1) C (dm_Mo_method 10 rfl) rfl rfl rfl ?_
        refine gi_icmp_lt (q := 23) (tgt := 51) C (dm_Mo_method 11 rfl) rfl (by decide) (fun c20 => ?_) (fun c20 => ?_)
        · refine gi_iconst (q := 52) (v := -1) C (dm_Mo_method 27 rfl) rfl (by decide) ?_
          refine gi_iret C hr (dm_Mo_method 28 rfl) ?_
          refine ⟨rfl, ho, Or.inr ⟨fun q => ?_, rfl, rfl⟩⟩
          obtain ⟨q1, q2, q3, q4, q5, q6, q7, q8, q9⟩ := q
          rw [hS] at c6
          first
            | exact absurd ((k8_iff hk).mp c6) (by omega)
            | (simp only [Int32.lt_iff_toInt_lt, Int32.le_iff_toInt_le, Int32.not_lt, Int32.not_le] at *; omega)
        · refine gi_iload_n (q := 24) (i := 2) C (dm_Mo_method 12 rfl) rfl rfl rfl ?_
          refine gi_bipush (q := 26) (v := 6) C (dm_Mo_method 13 rfl) rfl (by decide) ?_
          refine gi_icmp_gt (q := 29) (tgt := 51) C (dm_Mo_method 14 rfl) rfl (by decide) (fun c26 => ?_) (fun c26 => ?_)
          · refine gi_iconst (q := 52) (v := -1) C (dm_Mo_method 27 rfl) rfl (by decide) ?_
            refine gi_iret C hr (dm_Mo_method 28 rfl) ?_
            refine ⟨rfl, ho, Or.inr ⟨fun q => ?_, rfl, rfl⟩⟩
            obtain ⟨q1, q2, q3, q4, q5, q6, q7, q8, q9⟩ := q
            rw [hS] at c6
            first
              | exact absurd ((k8_iff hk).mp c6) (by omega)
              | (simp only [Int32.lt_iff_toInt_lt, Int32.le_iff_toInt_le, Int32.not_lt, Int32.not_le] at *; omega)
          · refine gi_iload_n (q := 30) (i := 3) C (dm_Mo_method 15 rfl) rfl rfl rfl ?_
            refine gi_if_lt (q := 33) (tgt := 51) C (dm_Mo_method 16 rfl) rfl (by decide) (fun c30 => ?_) (fun c30 => ?_)
            · refine gi_iconst (q := 52) (v := -1) C (dm_Mo_method 27 rfl) rfl (by decide) ?_
              refine gi_iret C hr (dm_Mo_method 28 rfl) ?_
              refine ⟨rfl, ho, Or.inr ⟨fun q => ?_, rfl, rfl⟩⟩
              obtain ⟨q1, q2, q3, q4, q5, q6, q7, q8, q9⟩ := q
              rw [hS] at c6
              first
                | exact absurd ((k8_iff hk).mp c6) (by omega)
                | (simp only [Int32.lt_iff_toInt_lt, Int32.le_iff_toInt_le, Int32.not_lt, Int32.not_le] at *; omega)
            · refine gi_iload_n (q := 34) (i := 3) C (dm_Mo_method 17 rfl) rfl rfl rfl ?_
              refine gi_iconst (q := 35) (v := 1) C (dm_Mo_method 18 rfl) rfl (by decide) ?_
              refine gi_iload_n (q := 36) (i := 2) C (dm_Mo_method 19 rfl) rfl rfl rfl ?_
              refine gi_ishl (q := 37) C (dm_Mo_method 20 rfl) rfl ?_
              refine gi_icmp_ge (q := 40) (tgt := 51) C (dm_Mo_method 21 rfl) rfl (by decide) (fun c37 => ?_) (fun c37 => ?_)
              · refine gi_iconst (q := 52) (v := -1) C (dm_Mo_method 27 rfl) rfl (by decide) ?_
                refine gi_iret C hr (dm_Mo_method 28 rfl) ?_
                refine ⟨rfl, ho, Or.inr ⟨fun q => ?_, rfl, rfl⟩⟩
                obtain ⟨q1, q2, q3, q4, q5, q6, q7, q8, q9⟩ := q
                rw [hS] at c6
                first
                  | exact absurd ((k8_iff hk).mp c6) (by omega)
                  | (simp only [Int32.lt_iff_toInt_lt, Int32.le_iff_toInt_le, Int32.not_lt, Int32.not_le] at *; omega)
              · refine gi_iload (q := 42) C (dm_Mo_method 22 rfl) rfl rfl ?_
                refine gi_if_lt (q := 45) (tgt := 51) C (dm_Mo_method 23 rfl) rfl (by decide) (fun c42 => ?_) (fun c42 => ?_)
                · refine gi_iconst (q := 52) (v := -1) C (dm_Mo_method 27 rfl) rfl (by decide) ?_
                  refine gi_iret C hr (dm_Mo_method 28 rfl) ?_
                  refine ⟨rfl, ho, Or.inr ⟨fun q => ?_, rfl, rfl⟩⟩
                  obtain ⟨q1, q2, q3, q4, q5, q6, q7, q8, q9⟩ := q
                  rw [hS] at c6
                  first
                    | exact absurd ((k8_iff hk).mp c6) (by omega)
                    | (simp only [Int32.lt_iff_toInt_lt, Int32.le_iff_toInt_le, Int32.not_lt, Int32.not_le] at *; omega)
                · refine gi_iload (q := 47) C (dm_Mo_method 24 rfl) rfl rfl ?_
                  refine gi_iconst (q := 48) (v := 2) C (dm_Mo_method 25 rfl) rfl (by decide) ?_
                  refine gi_icmp_le (q := 51) (tgt := 53) C (dm_Mo_method 26 rfl) rfl (by decide) (fun c48 => ?_) (fun c48 => ?_)
                  · have hk8 : k < 8 := by
                      rw [hS] at c6
                      have q8 : ¬ k = 8 := fun q => c6 ((k8_iff hk).mpr q)
                      omega
                    refine gi_aload_n (q := 54) (i := 0) C (dm_Mo_method 29 rfl) rfl rfl rfl ?_
                    refine gi_get (q := 57) C (dm_Mo_method 30 rfl) rfl fl_Mo_176 Ha (mo_g0 Hf) ?_
                    refine gi_istore (q := 59) C (dm_Mo_method 31 rfl) rfl (Nat.le_of_ble_eq_true rfl) ?_
                    refine gi_aload_n (q := 60) (i := 0) C (dm_Mo_method 32 rfl) rfl rfl rfl ?_
                    refine gi_dup (q := 61) C (dm_Mo_method 33 rfl) rfl rfl ?_
                    refine gi_get (q := 64) C (dm_Mo_method 34 rfl) rfl fl_Mo_176 Ha (mo_g0 Hf) ?_
                    refine gi_iconst (q := 65) (v := 1) C (dm_Mo_method 35 rfl) rfl (by decide) ?_
                    refine gi_iadd (q := 66) C (dm_Mo_method 36 rfl) rfl ?_
                    refine gi_put (q := 69) C (dm_Mo_method 37 rfl) rfl fl_Mo_176 fp_Mo_0 Ha (by rw [Hf.1]; decide) rfl rfl ?_
                    refine gi_genM (H.putI Ha Hf (by decide) rfl) (ho.up (by omega) (by omega)) (fun y H ho => ?_)
                    obtain ⟨fs, Ha, Hf⟩ := id H.1
                    refine gi_aload_n (q := 70) (i := 0) C (dm_Mo_method 38 rfl) rfl rfl rfl ?_
                    refine gi_get (q := 73) C (dm_Mo_method 39 rfl) rfl fl_Mo_7 Ha (mo_g1 Hf) ?_
                    refine gi_iload (q := 75) C (dm_Mo_method 40 rfl) rfl rfl ?_
                    refine gi_iload_n (q := 76) (i := 1) C (dm_Mo_method 41 rfl) rfl rfl rfl ?_
                    refine gi_iast (q := 77) C (dm_Mo_method 42 rfl) rfl rfl (mo_a1 H) (by rw [hS]; exact vp_in_nI hk8 (by omega)) ?_
                    refine gi_genM (H.setI (p := 0) (k := 1) (by decide) rfl rfl (by decide) rfl (by omega)) (ho.up (by omega) (by omega)) (fun y H ho => ?_)
                    obtain ⟨fs, Ha, Hf⟩ := id H.1
                    refine gi_aload_n (q := 78) (i := 0) C (dm_Mo_method 43 rfl) rfl rfl rfl ?_
                    refine gi_get (q := 81) C (dm_Mo_method 44 rfl) rfl fl_Mo_13 Ha (mo_g2 Hf) ?_
                    refine gi_iload (q := 83) C (dm_Mo_method 45 rfl) rfl rfl ?_
                    refine gi_iload_n (q := 84) (i := 2) C (dm_Mo_method 46 rfl) rfl rfl rfl ?_
                    refine gi_iast (q := 85) C (dm_Mo_method 47 rfl) rfl rfl (mo_a2 H) (by rw [hS]; exact vp_in_nI hk8 (by omega)) ?_
                    refine gi_genM (H.setI (p := 1) (k := 2) (by decide) rfl rfl (by decide) rfl (by omega)) (ho.up (by omega) (by omega)) (fun y H ho => ?_)
                    obtain ⟨fs, Ha, Hf⟩ := id H.1
                    refine gi_aload_n (q := 86) (i := 0) C (dm_Mo_method 48 rfl) rfl rfl rfl ?_
                    refine gi_get (q := 89) C (dm_Mo_method 49 rfl) rfl fl_Mo_16 Ha (mo_g3 Hf) ?_
                    refine gi_iload (q := 91) C (dm_Mo_method 50 rfl) rfl rfl ?_
                    refine gi_iload_n (q := 92) (i := 3) C (dm_Mo_method 51 rfl) rfl rfl rfl ?_
                    refine gi_iast (q := 93) C (dm_Mo_method 52 rfl) rfl rfl (mo_a3 H) (by rw [hS]; exact vp_in_nI hk8 (by omega)) ?_
                    refine gi_genM (H.setI (p := 2) (k := 3) (by decide) rfl rfl (by decide) rfl (by omega)) (ho.up (by omega) (by omega)) (fun y H ho => ?_)
                    obtain ⟨fs, Ha, Hf⟩ := id H.1
                    refine gi_aload_n (q := 94) (i := 0) C (dm_Mo_method 53 rfl) rfl rfl rfl ?_
                    refine gi_get (q := 97) C (dm_Mo_method 54 rfl) rfl fl_Mo_19 Ha (mo_g4 Hf) ?_
                    refine gi_iload (q := 99) C (dm_Mo_method 55 rfl) rfl rfl ?_
                    refine gi_iload (q := 101) C (dm_Mo_method 56 rfl) rfl rfl ?_
                    refine gi_iast (q := 102) C (dm_Mo_method 57 rfl) rfl rfl (mo_a4 H) (by rw [hS]; exact vp_in_nI hk8 (by omega)) ?_
                    refine gi_genM (H.setI (p := 3) (k := 4) (by decide) rfl rfl (by decide) rfl (by omega)) (ho.up (by omega) (by omega)) (fun y H ho => ?_)
                    obtain ⟨fs, Ha, Hf⟩ := id H.1
                    refine gi_aload_n (q := 103) (i := 0) C (dm_Mo_method 58 rfl) rfl rfl rfl ?_
                    refine gi_get (q := 106) C (dm_Mo_method 59 rfl) rfl fl_Mo_22 Ha (mo_g5 Hf) ?_
                    refine gi_iload (q := 108) C (dm_Mo_method 60 rfl) rfl rfl ?_
                    refine gi_iconst (q := 109) (v := 0) C (dm_Mo_method 61 rfl) rfl (by decide) ?_
                    refine gi_iast (q := 110) C (dm_Mo_method 62 rfl) rfl rfl (mo_a5 H) (by rw [hS]; exact vp_in_nI hk8 (by omega)) ?_
                    refine gi_genM (H.setI (p := 4) (k := 5) (by decide) rfl rfl (by decide) rfl (by omega)) (ho.up (by omega) (by omega)) (fun y H ho => ?_)
                    obtain ⟨fs, Ha, Hf⟩ := id H.1
                    refine gi_aload_n (q := 111) (i := 0) C (dm_Mo_method 63 rfl) rfl rfl rfl ?_
                    refine gi_iconst (q := 112) (v := 0) C (dm_Mo_method 64 rfl) rfl (by decide) ?_
                    refine gi_put (q := 115) C (dm_Mo_method 65 rfl) rfl fl_Mo_179 fp_Mo_8 Ha (by rw [Hf.1]; decide) rfl rfl ?_
                    refine gi_genM (H.putI Ha Hf (by decide) rfl) (ho.up (by omega) (by omega)) (fun y H ho => ?_)
                    obtain ⟨fs, Ha, Hf⟩ := id H.1
                    refine gi_aload_n (q := 116) (i := 0) C (dm_Mo_method 66 rfl) rfl rfl rfl ?_
                    refine gi_iconst (q := 117) (v := 0) C (dm_Mo_method 67 rfl) rfl (by decide) ?_
                    refine gi_put (q := 120) C (dm_Mo_method 68 rfl) rfl fl_Mo_183 fp_Mo_9 Ha (by rw [Hf.1]; decide) rfl rfl ?_
                    refine gi_genM (H.putI Ha Hf (by decide) rfl) (ho.up (by omega) (by omega)) (fun y H ho => ?_)
                    obtain ⟨fs, Ha, Hf⟩ := id H.1
                    refine gi_iload (q := 122) C (dm_Mo_method 69 rfl) rfl rfl ?_
                    refine gi_iret C hr (dm_Mo_method 70 rfl) ?_
                    have hcc : (nI k).toNatClampNeg = k := nI_clamp (by omega)
                    rw [hS, hcc] at H
                    refine ⟨rfl, ho, Or.inl ⟨?_, by rw [hS], H⟩⟩
                    refine ⟨hk8, ?_, ?_, ?_, ?_, ?_, ?_, ?_, ?_⟩ <;> (simp only [Int32.lt_iff_toInt_lt, Int32.le_iff_toInt_le, Int32.not_lt, Int32.not_le] at *; omega)
                  · refine gi_iconst (q := 52) (v := -1) C (dm_Mo_method 27 rfl) rfl (by decide) ?_
                    refine gi_iret C hr (dm_Mo_method 28 rfl) ?_
                    refine ⟨rfl, ho, Or.inr ⟨fun q => ?_, rfl, rfl⟩⟩
                    obtain ⟨q1, q2, q3, q4, q5, q6, q7, q8, q9⟩ := q
                    rw [hS] at c6
                    first
                      | exact absurd ((k8_iff hk).mp c6) (by omega)
                      | (simp only [Int32.lt_iff_toInt_lt, Int32.le_iff_toInt_le, Int32.not_lt, Int32.not_le] at *; omega)
end MO3
