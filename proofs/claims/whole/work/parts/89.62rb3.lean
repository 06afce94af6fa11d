-- needs: 89.61
section RB3
variable {l : Launch} {V : gi_V} {n : Nat} {h h' : gi_H} {M k m : Nat} {P : Pm} {x : Sh} {b : Bool} {S S' : Nat → Int32} {J J' : Nat → Int64} {F : Nat → Nat → Int32} {G : Nat → Nat → Int64}
set_option maxHeartbeats 4000000 in
set_option maxRecDepth 100000 in
theorem c_Mo_shape {op a : Nat} {av : Int32} (W : wfP k P) (hm : m < k) (ho : op ≤ 35) (hP : prF P F) (x8 : x.1 ≤ 8) (ha : op = 1 ∨ op = 2 → av = nI a ∧ a < pN P 2 m) (hc : op = 32 → av = nI a ∧ a < k) (hS : shR S x false) (H : mo_at M S J F G h) : gi_T l V y_Mo_shape b_Mo_shape 6 none 2 42 0 0 [.ref M, .int (nI m), .int (nI op), .int av] n h (fun v n' h' => v = none ∧ n' = n ∧ moS M J F G h S (shX P m op a x).1 (shX P m op a x).2 h') := by
  refine gi_enter (by decide) (Nat.le_of_ble_eq_true rfl) ?_
  intro _ _ _ _ _ _ _ _ C hr hnm
  obtain ⟨fs, Ha, Hf⟩ := id H.1
  have ho : outM M h h := outM.rf
  obtain ⟨s1, s2, s3, s4, s5⟩ := id hS
  have w8 := W.k8
  have wm := wf_ar W hm
  rcases (show op = 0 ∨ op = 1 ∨ op = 2 ∨ op = 3 ∨ op = 4 ∨ op = 5 ∨ op = 6 ∨ op = 7 ∨ op = 8 ∨ op = 9 ∨ op = 10 ∨ op = 11 ∨ op = 12 ∨ op = 13 ∨ op = 14 ∨ op = 15 ∨ op = 16 ∨ op = 17 ∨ op = 18 ∨ op = 19 ∨ op = 20 ∨ op = 21 ∨ op = 22 ∨ op = 23 ∨ op = 24 ∨ op = 25 ∨ op = 26 ∨ op = 27 ∨ op = 28 ∨ op = 29 ∨ op = 30 ∨ op = 31 ∨ op = 32 ∨ op = 33 ∨ op = 34 ∨ op = 35 by omega) with e | e | e | e | e | e | e | e | e | e | e | e | e | e | e | e | e | e | e | e | e | e | e | e | e | e | e | e | e | e | e | e | e | e | e | e
  · subst e
    refine gi_iload_n (q := 1) (i := 2) C (dm_Mo_shape 0 rfl) rfl rfl rfl ?_
    refine gi_if_eq (q := 4) (tgt := 10) C (dm_Mo_shape 1 rfl) rfl (by decide) (fun c1 => ?_) (fun c1 => ?_)
    · refine gi_aload_n (q := 11) (i := 0) C (dm_Mo_shape 5 rfl) rfl rfl rfl ?_
      refine gi_iconst (q := 12) (v := 0) C (dm_Mo_shape 6 rfl) rfl (by decide) ?_
      refine gi_callv 1 (q := 15) C (dm_Mo_shape 7 rfl) rfl my_Mo_puts lk_Mo_203 im_Mo_puts rfl (c_Mo_puts false hS (by exact (show x.1 ≤ 11 by omega)) H) Ha rfl rfl ⟨(Nat.le_of_ble_eq_true rfl), (Nat.le_of_ble_eq_true rfl)⟩ (Nat.le_of_ble_eq_true rfl) ⟨(Nat.le_of_ble_eq_true rfl), (Nat.le_of_ble_eq_true rfl)⟩ (fun r12 n12 h12 e12 => ?_)
      obtain ⟨rfl, rfl, S12, H12, o12, r12, f12⟩ := e12
      obtain ⟨fs12, Ha12, Hf12⟩ := id H12.1
      refine gi_goto (tgt := 436) C (dm_Mo_shape 8 rfl) (by decide) ?_
      refine gi_vret C hr (dm_Mo_shape 230 rfl) ?_
      refine ⟨rfl, rfl, ?_⟩
      rw [show shX P m 0 a x = (ptX false (x, false)) from rfl]
      exact ⟨_, H12, o12, r12, f12⟩
    · exact absurd c1 (by decide)
  · subst e
    obtain ⟨rfl, a6⟩ := ha (by decide)
    refine gi_iload_n (q := 1) (i := 2) C (dm_Mo_shape 0 rfl) rfl rfl rfl ?_
    refine gi_if_eq (q := 4) (tgt := 10) C (dm_Mo_shape 1 rfl) rfl (by decide) (fun c1 => ?_) (fun c1 => ?_)
    · exact absurd c1 (by decide)
    · refine gi_iload_n (q := 5) (i := 2) C (dm_Mo_shape 2 rfl) rfl rfl rfl ?_
      refine gi_bipush (q := 7) (v := 34) C (dm_Mo_shape 3 rfl) rfl (by decide) ?_
      refine gi_icmp_ne (q := 10) (tgt := 18) C (dm_Mo_shape 4 rfl) rfl (by decide) (fun c7 => ?_) (fun c7 => ?_)
      · refine gi_iload_n (q := 19) (i := 2) C (dm_Mo_shape 9 rfl) rfl rfl rfl ?_
        refine gi_iconst (q := 20) (v := 1) C (dm_Mo_shape 10 rfl) rfl (by decide) ?_
        refine gi_icmp_ne (q := 23) (tgt := 36) C (dm_Mo_shape 11 rfl) rfl (by decide) (fun c20 => ?_) (fun c20 => ?_)
        · exact absurd c20 (by decide)
        · refine gi_aload_n (q := 24) (i := 0) C (dm_Mo_shape 12 rfl) rfl rfl rfl ?_
          refine gi_aload_n (q := 25) (i := 0) C (dm_Mo_shape 13 rfl) rfl rfl rfl ?_
          refine gi_iload_n (q := 26) (i := 1) C (dm_Mo_shape 14 rfl) rfl rfl rfl ?_
          refine gi_iload_n (q := 27) (i := 3) C (dm_Mo_shape 15 rfl) rfl rfl rfl ?_
          refine gi_callv 2 (q := 30) C (dm_Mo_shape 16 rfl) rfl my_Mo_kindOf lk_Mo_207 im_Mo_kindOf rfl (c_Mo_kindOf (i := a) W hm (by omega) hP H) Ha rfl rfl ⟨(Nat.le_of_ble_eq_true rfl), (Nat.le_of_ble_eq_true rfl)⟩ (Nat.le_of_ble_eq_true rfl) ⟨(Nat.le_of_ble_eq_true rfl), (Nat.le_of_ble_eq_true rfl)⟩ (fun r27 n27 h27 e27 => ?_)
          obtain ⟨rfl, q27, u27⟩ := e27
          rw [q27, u27]
          refine gi_callv 1 (q := 33) C (dm_Mo_shape 17 rfl) rfl my_Mo_puts lk_Mo_203 im_Mo_puts rfl (c_Mo_puts (kdB P m a) hS (by exact (show x.1 ≤ 11 by omega)) H) Ha rfl rfl ⟨(Nat.le_of_ble_eq_true rfl), (Nat.le_of_ble_eq_true rfl)⟩ (Nat.le_of_ble_eq_true rfl) ⟨(Nat.le_of_ble_eq_true rfl), (Nat.le_of_ble_eq_true rfl)⟩ (fun r30 n30 h30 e30 => ?_)
          obtain ⟨rfl, rfl, S30, H30, o30, r30, f30⟩ := e30
          obtain ⟨fs30, Ha30, Hf30⟩ := id H30.1
          refine gi_goto (tgt := 436) C (dm_Mo_shape 18 rfl) (by decide) ?_
          refine gi_vret C hr (dm_Mo_shape 230 rfl) ?_
          refine ⟨rfl, rfl, ?_⟩
          rw [show shX P m 1 a x = (ptX (kdB P m a) (x, false)) from rfl]
          exact ⟨_, H30, o30, r30, f30⟩
      · exact absurd c7 (by decide)
  · subst e
    obtain ⟨rfl, a6⟩ := ha (by decide)
    refine gi_iload_n (q := 1) (i := 2) C (dm_Mo_shape 0 rfl) rfl rfl rfl ?_
    refine gi_if_eq (q := 4) (tgt := 10) C (dm_Mo_shape 1 rfl) rfl (by decide) (fun c1 => ?_) (fun c1 => ?_)
    · exact absurd c1 (by decide)
    · refine gi_iload_n (q := 5) (i := 2) C (dm_Mo_shape 2 rfl) rfl rfl rfl ?_
      refine gi_bipush (q := 7) (v := 34) C (dm_Mo_shape 3 rfl) rfl (by decide) ?_
      refine gi_icmp_ne (q := 10) (tgt := 18) C (dm_Mo_shape 4 rfl) rfl (by decide) (fun c7 => ?_) (fun c7 => ?_)
      · refine gi_iload_n (q := 19) (i := 2) C (dm_Mo_shape 9 rfl) rfl rfl rfl ?_
        refine gi_iconst (q := 20) (v := 1) C (dm_Mo_shape 10 rfl) rfl (by decide) ?_
        refine gi_icmp_ne (q := 23) (tgt := 36) C (dm_Mo_shape 11 rfl) rfl (by decide) (fun c20 => ?_) (fun c20 => ?_)
        · refine gi_iload_n (q := 37) (i := 2) C (dm_Mo_shape 19 rfl) rfl rfl rfl ?_
          refine gi_iconst (q := 38) (v := 2) C (dm_Mo_shape 20 rfl) rfl (by decide) ?_
          refine gi_icmp_ne (q := 41) (tgt := 54) C (dm_Mo_shape 21 rfl) rfl (by decide) (fun c38 => ?_) (fun c38 => ?_)
          · exact absurd c38 (by decide)
          · refine gi_aload_n (q := 42) (i := 0) C (dm_Mo_shape 22 rfl) rfl rfl rfl ?_
            refine gi_aload_n (q := 43) (i := 0) C (dm_Mo_shape 23 rfl) rfl rfl rfl ?_
            refine gi_iload_n (q := 44) (i := 1) C (dm_Mo_shape 24 rfl) rfl rfl rfl ?_
            refine gi_iload_n (q := 45) (i := 3) C (dm_Mo_shape 25 rfl) rfl rfl rfl ?_
            refine gi_callv 2 (q := 48) C (dm_Mo_shape 26 rfl) rfl my_Mo_kindOf lk_Mo_207 im_Mo_kindOf rfl (c_Mo_kindOf (i := a) W hm (by omega) hP H) Ha rfl rfl ⟨(Nat.le_of_ble_eq_true rfl), (Nat.le_of_ble_eq_true rfl)⟩ (Nat.le_of_ble_eq_true rfl) ⟨(Nat.le_of_ble_eq_true rfl), (Nat.le_of_ble_eq_true rfl)⟩ (fun r45 n45 h45 e45 => ?_)
            obtain ⟨rfl, q45, u45⟩ := e45
            rw [q45, u45]
            refine gi_callv 1 (q := 51) C (dm_Mo_shape 27 rfl) rfl my_Mo_takes lk_Mo_211 im_Mo_takes rfl (c_Mo_takes (kdB P m a) hS H) Ha rfl rfl ⟨(Nat.le_of_ble_eq_true rfl), (Nat.le_of_ble_eq_true rfl)⟩ (Nat.le_of_ble_eq_true rfl) ⟨(Nat.le_of_ble_eq_true rfl), (Nat.le_of_ble_eq_true rfl)⟩ (fun r48 n48 h48 e48 => ?_)
            obtain ⟨rfl, rfl, S48, H48, o48, r48, f48⟩ := e48
            obtain ⟨fs48, Ha48, Hf48⟩ := id H48.1
            refine gi_goto (tgt := 436) C (dm_Mo_shape 28 rfl) (by decide) ?_
            refine gi_vret C hr (dm_Mo_shape 230 rfl) ?_
            refine ⟨rfl, rfl, ?_⟩
            rw [show shX P m 2 a x = (tkX (kdB P m a) (x, false)) from rfl]
            exact ⟨_, H48, o48, r48, f48⟩
        · exact absurd c20 (by decide)
      · exact absurd c7 (by decide)
  · subst e
    refine gi_iload_n (q := 1) (i := 2) C (dm_Mo_shape 0 rfl) rfl rfl rfl ?_
    refine gi_if_eq (q := 4) (tgt := 10) C (dm_Mo_shape 1 rfl) rfl (by decide) (fun c1 => ?_) (fun c1 => ?_)
    · exact absurd c1 (by decide)
    · refine gi_iload_n (q := 5) (i := 2) C (dm_Mo_shape 2 rfl) rfl rfl rfl ?_
      refine gi_bipush (q := 7) (v := 34) C (dm_Mo_shape 3 rfl) rfl (by decide) ?_
      refine gi_icmp_ne (q := 10) (tgt := 18) C (dm_Mo_shape 4 rfl) rfl (by decide) (fun c7 => ?_) (fun c7 => ?_)
      · refine gi_iload_n (q := 19) (i := 2) C (dm_Mo_shape 9 rfl) rfl rfl rfl ?_
        refine gi_iconst (q := 20) (v := 1) C (dm_Mo_shape 10 rfl) rfl (by decide) ?_
        refine gi_icmp_ne (q := 23) (tgt := 36) C (dm_Mo_shape 11 rfl) rfl (by decide) (fun c20 => ?_) (fun c20 => ?_)
        · refine gi_iload_n (q := 37) (i := 2) C (dm_Mo_shape 19 rfl) rfl rfl rfl ?_
          refine gi_iconst (q := 38) (v := 2) C (dm_Mo_shape 20 rfl) rfl (by decide) ?_
          refine gi_icmp_ne (q := 41) (tgt := 54) C (dm_Mo_shape 21 rfl) rfl (by decide) (fun c38 => ?_) (fun c38 => ?_)
          · refine gi_iload_n (q := 55) (i := 2) C (dm_Mo_shape 29 rfl) rfl rfl rfl ?_
            refine gi_iconst (q := 56) (v := 3) C (dm_Mo_shape 30 rfl) rfl (by decide) ?_
            refine gi_icmp_ne (q := 59) (tgt := 67) C (dm_Mo_shape 31 rfl) rfl (by decide) (fun c56 => ?_) (fun c56 => ?_)
            · exact absurd c56 (by decide)
            · refine gi_aload_n (q := 60) (i := 0) C (dm_Mo_shape 32 rfl) rfl rfl rfl ?_
              refine gi_iconst (q := 61) (v := 1) C (dm_Mo_shape 33 rfl) rfl (by decide) ?_
              refine gi_callv 1 (q := 64) C (dm_Mo_shape 34 rfl) rfl my_Mo_puts lk_Mo_203 im_Mo_puts rfl (c_Mo_puts true hS (by exact (show x.1 ≤ 11 by omega)) H) Ha rfl rfl ⟨(Nat.le_of_ble_eq_true rfl), (Nat.le_of_ble_eq_true rfl)⟩ (Nat.le_of_ble_eq_true rfl) ⟨(Nat.le_of_ble_eq_true rfl), (Nat.le_of_ble_eq_true rfl)⟩ (fun r61 n61 h61 e61 => ?_)
              obtain ⟨rfl, rfl, S61, H61, o61, r61, f61⟩ := e61
              obtain ⟨fs61, Ha61, Hf61⟩ := id H61.1
              refine gi_goto (tgt := 436) C (dm_Mo_shape 35 rfl) (by decide) ?_
              refine gi_vret C hr (dm_Mo_shape 230 rfl) ?_
              refine ⟨rfl, rfl, ?_⟩
              rw [show shX P m 3 a x = (ptX true (x, false)) from rfl]
              exact ⟨_, H61, o61, r61, f61⟩
          · exact absurd c38 (by decide)
        · exact absurd c20 (by decide)
      · exact absurd c7 (by decide)
  · subst e
    refine gi_iload_n (q := 1) (i := 2) C (dm_Mo_shape 0 rfl) rfl rfl rfl ?_
    refine gi_if_eq (q := 4) (tgt := 10) C (dm_Mo_shape 1 rfl) rfl (by decide) (fun c1 => ?_) (fun c1 => ?_)
    · exact absurd c1 (by decide)
    · refine gi_iload_n (q := 5) (i := 2) C (dm_Mo_shape 2 rfl) rfl rfl rfl ?_
      refine gi_bipush (q := 7) (v := 34) C (dm_Mo_shape 3 rfl) rfl (by decide) ?_
      refine gi_icmp_ne (q := 10) (tgt := 18) C (dm_Mo_shape 4 rfl) rfl (by decide) (fun c7 => ?_) (fun c7 => ?_)
      · refine gi_iload_n (q := 19) (i := 2) C (dm_Mo_shape 9 rfl) rfl rfl rfl ?_
        refine gi_iconst (q := 20) (v := 1) C (dm_Mo_shape 10 rfl) rfl (by decide) ?_
        refine gi_icmp_ne (q := 23) (tgt := 36) C (dm_Mo_shape 11 rfl) rfl (by decide) (fun c20 => ?_) (fun c20 => ?_)
        · refine gi_iload_n (q := 37) (i := 2) C (dm_Mo_shape 19 rfl) rfl rfl rfl ?_
          refine gi_iconst (q := 38) (v := 2) C (dm_Mo_shape 20 rfl) rfl (by decide) ?_
          refine gi_icmp_ne (q := 41) (tgt := 54) C (dm_Mo_shape 21 rfl) rfl (by decide) (fun c38 => ?_) (fun c38 => ?_)
          · refine gi_iload_n (q := 55) (i := 2) C (dm_Mo_shape 29 rfl) rfl rfl rfl ?_
            refine gi_iconst (q := 56) (v := 3) C (dm_Mo_shape 30 rfl) rfl (by decide) ?_
            refine gi_icmp_ne (q := 59) (tgt := 67) C (dm_Mo_shape 31 rfl) rfl (by decide) (fun c56 => ?_) (fun c56 => ?_)
            · refine gi_iload_n (q := 68) (i := 2) C (dm_Mo_shape 36 rfl) rfl rfl rfl ?_
              refine gi_iconst (q := 69) (v := 4) C (dm_Mo_shape 37 rfl) rfl (by decide) ?_
              refine gi_icmp_ne (q := 72) (tgt := 80) C (dm_Mo_shape 38 rfl) rfl (by decide) (fun c69 => ?_) (fun c69 => ?_)
              · exact absurd c69 (by decide)
              · refine gi_aload_n (q := 73) (i := 0) C (dm_Mo_shape 39 rfl) rfl rfl rfl ?_
                refine gi_callv 0 (q := 76) C (dm_Mo_shape 40 rfl) rfl my_Mo_takesAny lk_Mo_199 im_Mo_takesAny rfl (c_Mo_takesAny hS H) Ha rfl rfl ⟨(Nat.le_of_ble_eq_true rfl), (Nat.le_of_ble_eq_true rfl)⟩ (Nat.le_of_ble_eq_true rfl) ⟨(Nat.le_of_ble_eq_true rfl), (Nat.le_of_ble_eq_true rfl)⟩ (fun r73 n73 h73 e73 => ?_)
                obtain ⟨rfl, rfl, S73, H73, o73, r73, f73⟩ := e73
                obtain ⟨fs73, Ha73, Hf73⟩ := id H73.1
                refine gi_pop (q := 77) C (dm_Mo_shape 41 rfl) rfl rfl ?_
                refine gi_goto (tgt := 436) C (dm_Mo_shape 42 rfl) (by decide) ?_
                refine gi_vret C hr (dm_Mo_shape 230 rfl) ?_
                refine ⟨rfl, rfl, ?_⟩
                rw [show shX P m 4 a x = (tyX (x, false)) from rfl]
                exact ⟨_, H73, o73, r73, f73⟩
            · exact absurd c56 (by decide)
          · exact absurd c38 (by decide)
        · exact absurd c20 (by decide)
      · exact absurd c7 (by decide)
  · subst e
    refine gi_iload_n (q := 1) (i := 2) C (dm_Mo_shape 0 rfl) rfl rfl rfl ?_
    refine gi_if_eq (q := 4) (tgt := 10) C (dm_Mo_shape 1 rfl) rfl (by decide) (fun c1 => ?_) (fun c1 => ?_)
    · exact absurd c1 (by decide)
    · refine gi_iload_n (q := 5) (i := 2) C (dm_Mo_shape 2 rfl) rfl rfl rfl ?_
      refine gi_bipush (q := 7) (v := 34) C (dm_Mo_shape 3 rfl) rfl (by decide) ?_
      refine gi_icmp_ne (q := 10) (tgt := 18) C (dm_Mo_shape 4 rfl) rfl (by decide) (fun c7 => ?_) (fun c7 => ?_)
      · refine gi_iload_n (q := 19) (i := 2) C (dm_Mo_shape 9 rfl) rfl rfl rfl ?_
        refine gi_iconst (q := 20) (v := 1) C (dm_Mo_shape 10 rfl) rfl (by decide) ?_
        refine gi_icmp_ne (q := 23) (tgt := 36) C (dm_Mo_shape 11 rfl) rfl (by decide) (fun c20 => ?_) (fun c20 => ?_)
        · refine gi_iload_n (q := 37) (i := 2) C (dm_Mo_shape 19 rfl) rfl rfl rfl ?_
          refine gi_iconst (q := 38) (v := 2) C (dm_Mo_shape 20 rfl) rfl (by decide) ?_
          refine gi_icmp_ne (q := 41) (tgt := 54) C (dm_Mo_shape 21 rfl) rfl (by decide) (fun c38 => ?_) (fun c38 => ?_)
          · refine gi_iload_n (q := 55) (i := 2) C (dm_Mo_shape 29 rfl) rfl rfl rfl ?_
            refine gi_iconst (q := 56) (v := 3) C (dm_Mo_shape 30 rfl) rfl (by decide) ?_
            refine gi_icmp_ne (q := 59) (tgt := 67) C (dm_Mo_shape 31 rfl) rfl (by decide) (fun c56 => ?_) (fun c56 => ?_)
            · refine gi_iload_n (q := 68) (i := 2) C (dm_Mo_shape 36 rfl) rfl rfl rfl ?_
              refine gi_iconst (q := 69) (v := 4) C (dm_Mo_shape 37 rfl) rfl (by decide) ?_
              refine gi_icmp_ne (q := 72) (tgt := 80) C (dm_Mo_shape 38 rfl) rfl (by decide) (fun c69 => ?_) (fun c69 => ?_)
              · refine gi_iload_n (q := 81) (i := 2) C (dm_Mo_shape 43 rfl) rfl rfl rfl ?_
                refine gi_iconst (q := 82) (v := 5) C (dm_Mo_shape 44 rfl) rfl (by decide) ?_
                refine gi_icmp_ne (q := 85) (tgt := 106) C (dm_Mo_shape 45 rfl) rfl (by decide) (fun c82 => ?_) (fun c82 => ?_)
                · exact absurd c82 (by decide)
                · refine gi_aload_n (q := 86) (i := 0) C (dm_Mo_shape 46 rfl) rfl rfl rfl ?_
                  refine gi_callv 0 (q := 89) C (dm_Mo_shape 47 rfl) rfl my_Mo_takesAny lk_Mo_199 im_Mo_takesAny rfl (c_Mo_takesAny hS H) Ha rfl rfl ⟨(Nat.le_of_ble_eq_true rfl), (Nat.le_of_ble_eq_true rfl)⟩ (Nat.le_of_ble_eq_true rfl) ⟨(Nat.le_of_ble_eq_true rfl), (Nat.le_of_ble_eq_true rfl)⟩ (fun r86 n86 h86 e86 => ?_)
                  obtain ⟨rfl, rfl, S86, H86, o86, r86, f86⟩ := e86
                  obtain ⟨fs86, Ha86, Hf86⟩ := id H86.1
                  refine gi_istore (q := 91) C (dm_Mo_shape 48 rfl) rfl (Nat.le_of_ble_eq_true rfl) ?_
                  refine gi_aload_n (q := 92) (i := 0) C (dm_Mo_shape 49 rfl) rfl rfl rfl ?_
                  refine gi_iload (q := 94) C (dm_Mo_shape 50 rfl) rfl rfl ?_
                  refine gi_callv 1 (q := 97) C (dm_Mo_shape 51 rfl) rfl my_Mo_puts lk_Mo_203 im_Mo_puts rfl (c_Mo_puts (anV (x, false)) r86 (by exact (Nat.le_trans tyX_b (show x.1 ≤ 11 by omega))) H86) Ha86 rfl rfl ⟨(Nat.le_of_ble_eq_true rfl), (Nat.le_of_ble_eq_true rfl)⟩ (Nat.le_of_ble_eq_true rfl) ⟨(Nat.le_of_ble_eq_true rfl), (Nat.le_of_ble_eq_true rfl)⟩ (fun r94 n94 h94 e94 => ?_)
                  obtain ⟨rfl, rfl, S94, H94, o94, r94, f94⟩ := e94
                  obtain ⟨fs94, Ha94, Hf94⟩ := id H94.1
                  refine gi_aload_n (q := 98) (i := 0) C (dm_Mo_shape 52 rfl) rfl rfl rfl ?_
                  refine gi_iload (q := 100) C (dm_Mo_shape 53 rfl) rfl rfl ?_
                  refine gi_callv 1 (q := 103) C (dm_Mo_shape 54 rfl) rfl my_Mo_puts lk_Mo_203 im_Mo_puts rfl (c_Mo_puts (anV (x, false)) r94 (by show (tyX (x, false)).1.1 + 1 ≤ 11; have := tyX_b (z := (x, false)); have e9 : ((x, false) : Sh × Bool).1.1 = x.1 := rfl; omega) H94) Ha94 rfl rfl ⟨(Nat.le_of_ble_eq_true rfl), (Nat.le_of_ble_eq_true rfl)⟩ (Nat.le_of_ble_eq_true rfl) ⟨(Nat.le_of_ble_eq_true rfl), (Nat.le_of_ble_eq_true rfl)⟩ (fun r100 n100 h100 e100 => ?_)
                  obtain ⟨rfl, rfl, S100, H100, o100, r100, f100⟩ := e100
                  obtain ⟨fs100, Ha100, Hf100⟩ := id H100.1
                  refine gi_goto (tgt := 436) C (dm_Mo_shape 55 rfl) (by decide) ?_
                  refine gi_vret C hr (dm_Mo_shape 230 rfl) ?_
                  refine ⟨rfl, rfl, ?_⟩
                  rw [show shX P m 5 a x = (ptX (anV (x, false)) (ptX (anV (x, false)) (tyX (x, false)))) from rfl]
                  exact ⟨_, H100, ((o86.tr o94).tr o100), r100, ((f86.tr f94).tr f100)⟩
              · exact absurd c69 (by decide)
            · exact absurd c56 (by decide)
          · exact absurd c38 (by decide)
        · exact absurd c20 (by decide)
      · exact absurd c7 (by decide)
  · subst e
    refine gi_iload_n (q := 1) (i := 2) C (dm_Mo_shape 0 rfl) rfl rfl rfl ?_
    refine gi_if_eq (q := 4) (tgt := 10) C (dm_Mo_shape 1 rfl) rfl (by decide) (fun c1 => ?_) (fun c1 => ?_)
    · exact absurd c1 (by decide)
    · refine gi_iload_n (q := 5) (i := 2) C (dm_Mo_shape 2 rfl) rfl rfl rfl ?_
      refine gi_bipush (q := 7) (v := 34) C (dm_Mo_shape 3 rfl) rfl (by decide) ?_
      refine gi_icmp_ne (q := 10) (tgt := 18) C (dm_Mo_shape 4 rfl) rfl (by decide) (fun c7 => ?_) (fun c7 => ?_)
      · refine gi_iload_n (q := 19) (i := 2) C (dm_Mo_shape 9 rfl) rfl rfl rfl ?_
        refine gi_iconst (q := 20) (v := 1) C (dm_Mo_shape 10 rfl) rfl (by decide) ?_
        refine gi_icmp_ne (q := 23) (tgt := 36) C (dm_Mo_shape 11 rfl) rfl (by decide) (fun c20 => ?_) (fun c20 => ?_)
        · refine gi_iload_n (q := 37) (i := 2) C (dm_Mo_shape 19 rfl) rfl rfl rfl ?_
          refine gi_iconst (q := 38) (v := 2) C (dm_Mo_shape 20 rfl) rfl (by decide) ?_
          refine gi_icmp_ne (q := 41) (tgt := 54) C (dm_Mo_shape 21 rfl) rfl (by decide) (fun c38 => ?_) (fun c38 => ?_)
          · refine gi_iload_n (q := 55) (i := 2) C (dm_Mo_shape 29 rfl) rfl rfl rfl ?_
            refine gi_iconst (q := 56) (v := 3) C (dm_Mo_shape 30 rfl) rfl (by decide) ?_
            refine gi_icmp_ne (q := 59) (tgt := 67) C (dm_Mo_shape 31 rfl) rfl (by decide) (fun c56 => ?_) (fun c56 => ?_)
            · refine gi_iload_n (q := 68) (i := 2) C (dm_Mo_shape 36 rfl) rfl rfl rfl ?_
              refine gi_iconst (q := 69) (v := 4) C (dm_Mo_shape 37 rfl) rfl (by decide) ?_
              refine gi_icmp_ne (q := 72) (tgt := 80) C (dm_Mo_shape 38 rfl) rfl (by decide) (fun c69 => ?_) (fun c69 => ?_)
              · refine gi_iload_n (q := 81) (i := 2) C (dm_Mo_shape 43 rfl) rfl rfl rfl ?_
                refine gi_iconst (q := 82) (v := 5) C (dm_Mo_shape 44 rfl) rfl (by decide) ?_
                refine gi_icmp_ne (q := 85) (tgt := 106) C (dm_Mo_shape 45 rfl) rfl (by decide) (fun c82 => ?_) (fun c82 => ?_)
                · refine gi_iload_n (q := 107) (i := 2) C (dm_Mo_shape 56 rfl) rfl rfl rfl ?_
                  refine gi_bipush (q := 109) (v := 6) C (dm_Mo_shape 57 rfl) rfl (by decide) ?_
                  refine gi_icmp_ne (q := 112) (tgt := 139) C (dm_Mo_shape 58 rfl) rfl (by decide) (fun c109 => ?_) (fun c109 => ?_)
                  · exact absurd c109 (by decide)
                  · refine gi_aload_n (q := 113) (i := 0) C (dm_Mo_shape 59 rfl) rfl rfl rfl ?_
                    refine gi_callv 0 (q := 116) C (dm_Mo_shape 60 rfl) rfl my_Mo_takesAny lk_Mo_199 im_Mo_takesAny rfl (c_Mo_takesAny hS H) Ha rfl rfl ⟨(Nat.le_of_ble_eq_true rfl), (Nat.le_of_ble_eq_true rfl)⟩ (Nat.le_of_ble_eq_true rfl) ⟨(Nat.le_of_ble_eq_true rfl), (Nat.le_of_ble_eq_true rfl)⟩ (fun r113 n113 h113 e113 => ?_)
                    obtain ⟨rfl, rfl, S113, H113, o113, r113, f113⟩ := e113
                    obtain ⟨fs113, Ha113, Hf113⟩ := id H113.1
                    refine gi_istore (q := 118) C (dm_Mo_shape 61 rfl) rfl (Nat.le_of_ble_eq_true rfl) ?_
                    refine gi_aload_n (q := 119) (i := 0) C (dm_Mo_shape 62 rfl) rfl rfl rfl ?_
                    refine gi_callv 0 (q := 122) C (dm_Mo_shape 63 rfl) rfl my_Mo_takesAny lk_Mo_199 im_Mo_takesAny rfl (c_Mo_takesAny r113 H113) Ha113 rfl rfl ⟨(Nat.le_of_ble_eq_true rfl), (Nat.le_of_ble_eq_true rfl)⟩ (Nat.le_of_ble_eq_true rfl) ⟨(Nat.le_of_ble_eq_true rfl), (Nat.le_of_ble_eq_true rfl)⟩ (fun r119 n119 h119 e119 => ?_)
                    obtain ⟨rfl, rfl, S119, H119, o119, r119, f119⟩ := e119
                    obtain ⟨fs119, Ha119, Hf119⟩ := id H119.1
                    refine gi_istore (q := 124) C (dm_Mo_shape 64 rfl) rfl (Nat.le_of_ble_eq_true rfl) ?_
                    refine gi_aload_n (q := 125) (i := 0) C (dm_Mo_shape 65 rfl) rfl rfl rfl ?_
                    refine gi_iload (q := 127) C (dm_Mo_shape 66 rfl) rfl rfl ?_
                    refine gi_callv 1 (q := 130) C (dm_Mo_shape 67 rfl) rfl my_Mo_puts lk_Mo_203 im_Mo_puts rfl (c_Mo_puts (anV (x, false)) r119 (by exact (Nat.le_trans tyX_b (Nat.le_trans tyX_b (show x.1 ≤ 11 by omega)))) H119) Ha119 rfl rfl ⟨(Nat.le_of_ble_eq_true rfl), (Nat.le_of_ble_eq_true rfl)⟩ (Nat.le_of_ble_eq_true rfl) ⟨(Nat.le_of_ble_eq_true rfl), (Nat.le_of_ble_eq_true rfl)⟩ (fun r127 n127 h127 e127 => ?_)
                    obtain ⟨rfl, rfl, S127, H127, o127, r127, f127⟩ := e127
                    obtain ⟨fs127, Ha127, Hf127⟩ := id H127.1
                    refine gi_aload_n (q := 131) (i := 0) C (dm_Mo_shape 68 rfl) rfl rfl rfl ?_
                    refine gi_iload (q := 133) C (dm_Mo_shape 69 rfl) rfl rfl ?_
                    refine gi_callv 1 (q := 136) C (dm_Mo_shape 70 rfl) rfl my_Mo_puts lk_Mo_203 im_Mo_puts rfl (c_Mo_puts (anV (tyX (x, false))) r127 (by show (tyX (tyX (x, false))).1.1 + 1 ≤ 11; have := tyX_b (z := (x, false)); have := tyX_b (z := tyX (x, false)); have e9 : ((x, false) : Sh × Bool).1.1 = x.1 := rfl; omega) H127) Ha127 rfl rfl ⟨(Nat.le_of_ble_eq_true rfl), (Nat.le_of_ble_eq_true rfl)⟩ (Nat.le_of_ble_eq_true rfl) ⟨(Nat.le_of_ble_eq_true rfl), (Nat.le_of_ble_eq_true rfl)⟩ (fun r133 n133 h133 e133 => ?_)
                    obtain ⟨rfl, rfl, S133, H133, o133, r133, f133⟩ := e133
                    obtain ⟨fs133, Ha133, Hf133⟩ := id H133.1
                    refine gi_goto (tgt := 436) C (dm_Mo_shape 71 rfl) (by decide) ?_
                    refine gi_vret C hr (dm_Mo_shape 230 rfl) ?_
                    refine ⟨rfl, rfl, ?_⟩
                    rw [show shX P m 6 a x = (ptX (anV (tyX (x, false))) (ptX (anV (x, false)) (tyX (tyX (x, false))))) from rfl]
                    exact ⟨_, H133, (((o113.tr o119).tr o127).tr o133), r133, (((f113.tr f119).tr f127).tr f133)⟩
                · exact absurd c82 (by decide)
              · exact absurd c69 (by decide)
            · exact absurd c56 (by decide)
          · exact absurd c38 (by decide)
        · exact absurd c20 (by decide)
      · exact absurd c7 (by decide)
  · subst e
    refine gi_iload_n (q := 1) (i := 2) C (dm_Mo_shape 0 rfl) rfl rfl rfl ?_
    refine gi_if_eq (q := 4) (tgt := 10) C (dm_Mo_shape 1 rfl) rfl (by decide) (fun c1 => ?_) (fun c1 => ?_)
    · exact absurd c1 (by decide)
    · refine gi_iload_n (q := 5) (i := 2) C (dm_Mo_shape 2 rfl) rfl rfl rfl ?_
      refine gi_bipush (q := 7) (v := 34) C (dm_Mo_shape 3 rfl) rfl (by decide) ?_
      refine gi_icmp_ne (q := 10) (tgt := 18) C (dm_Mo_shape 4 rfl) rfl (by decide) (fun c7 => ?_) (fun c7 => ?_)
      · refine gi_iload_n (q := 19) (i := 2) C (dm_Mo_shape 9 rfl) rfl rfl rfl ?_
        refine gi_iconst (q := 20) (v := 1) C (dm_Mo_shape 10 rfl) rfl (by decide) ?_
        refine gi_icmp_ne (q := 23) (tgt := 36) C (dm_Mo_shape 11 rfl) rfl (by decide) (fun c20 => ?_) (fun c20 => ?_)
        · refine gi_iload_n (q := 37) (i := 2) C (dm_Mo_shape 19 rfl) rfl rfl rfl ?_
          refine gi_iconst (q := 38) (v := 2) C (dm_Mo_shape 20 rfl) rfl (by decide) ?_
          refine gi_icmp_ne (q := 41) (tgt := 54) C (dm_Mo_shape 21 rfl) rfl (by decide) (fun c38 => ?_) (fun c38 => ?_)
          · refine gi_iload_n (q := 55) (i := 2) C (dm_Mo_shape 29 rfl) rfl rfl rfl ?_
            refine gi_iconst (q := 56) (v := 3) C (dm_Mo_shape 30 rfl) rfl (by decide) ?_
            refine gi_icmp_ne (q := 59) (tgt := 67) C (dm_Mo_shape 31 rfl) rfl (by decide) (fun c56 => ?_) (fun c56 => ?_)
            · refine gi_iload_n (q := 68) (i := 2) C (dm_Mo_shape 36 rfl) rfl rfl rfl ?_
              refine gi_iconst (q := 69) (v := 4) C (dm_Mo_shape 37 rfl) rfl (by decide) ?_
              refine gi_icmp_ne (q := 72) (tgt := 80) C (dm_Mo_shape 38 rfl) rfl (by decide) (fun c69 => ?_) (fun c69 => ?_)
              · refine gi_iload_n (q := 81) (i := 2) C (dm_Mo_shape 43 rfl) rfl rfl rfl ?_
                refine gi_iconst (q := 82) (v := 5) C (dm_Mo_shape 44 rfl) rfl (by decide) ?_
                refine gi_icmp_ne (q := 85) (tgt := 106) C (dm_Mo_shape 45 rfl) rfl (by decide) (fun c82 => ?_) (fun c82 => ?_)
                · refine gi_iload_n (q := 107) (i := 2) C (dm_Mo_shape 56 rfl) rfl rfl rfl ?_
                  refine gi_bipush (q := 109) (v := 6) C (dm_Mo_shape 57 rfl) rfl (by decide) ?_
                  refine gi_icmp_ne (q := 112) (tgt := 139) C (dm_Mo_shape 58 rfl) rfl (by decide) (fun c109 => ?_) (fun c109 => ?_)
                  · refine gi_iload_n (q := 140) (i := 2) C (dm_Mo_shape 72 rfl) rfl rfl rfl ?_
                    refine gi_bipush (q := 142) (v := 7) C (dm_Mo_shape 73 rfl) rfl (by decide) ?_
                    refine gi_icmp_lt (q := 145) (tgt := 169) C (dm_Mo_shape 74 rfl) rfl (by decide) (fun c142 => ?_) (fun c142 => ?_)
                    · exact absurd c142 (by decide)
                    · refine gi_iload_n (q := 146) (i := 2) C (dm_Mo_shape 75 rfl) rfl rfl rfl ?_
                      refine gi_bipush (q := 148) (v := 17) C (dm_Mo_shape 76 rfl) rfl (by decide) ?_
                      refine gi_icmp_gt (q := 151) (tgt := 169) C (dm_Mo_shape 77 rfl) rfl (by decide) (fun c148 => ?_) (fun c148 => ?_)
                      · exact absurd c148 (by decide)
                      · refine gi_aload_n (q := 152) (i := 0) C (dm_Mo_shape 78 rfl) rfl rfl rfl ?_
                        refine gi_iconst (q := 153) (v := 0) C (dm_Mo_shape 79 rfl) rfl (by decide) ?_
                        refine gi_callv 1 (q := 156) C (dm_Mo_shape 80 rfl) rfl my_Mo_takes lk_Mo_211 im_Mo_takes rfl (c_Mo_takes false hS H) Ha rfl rfl ⟨(Nat.le_of_ble_eq_true rfl), (Nat.le_of_ble_eq_true rfl)⟩ (Nat.le_of_ble_eq_true rfl) ⟨(Nat.le_of_ble_eq_true rfl), (Nat.le_of_ble_eq_true rfl)⟩ (fun r153 n153 h153 e153 => ?_)
                        obtain ⟨rfl, rfl, S153, H153, o153, r153, f153⟩ := e153
                        obtain ⟨fs153, Ha153, Hf153⟩ := id H153.1
                        refine gi_aload_n (q := 157) (i := 0) C (dm_Mo_shape 81 rfl) rfl rfl rfl ?_
                        refine gi_iconst (q := 158) (v := 0) C (dm_Mo_shape 82 rfl) rfl (by decide) ?_
                        refine gi_callv 1 (q := 161) C (dm_Mo_shape 83 rfl) rfl my_Mo_takes lk_Mo_211 im_Mo_takes rfl (c_Mo_takes false r153 H153) Ha153 rfl rfl ⟨(Nat.le_of_ble_eq_true rfl), (Nat.le_of_ble_eq_true rfl)⟩ (Nat.le_of_ble_eq_true rfl) ⟨(Nat.le_of_ble_eq_true rfl), (Nat.le_of_ble_eq_true rfl)⟩ (fun r158 n158 h158 e158 => ?_)
                        obtain ⟨rfl, rfl, S158, H158, o158, r158, f158⟩ := e158
                        obtain ⟨fs158, Ha158, Hf158⟩ := id H158.1
                        refine gi_aload_n (q := 162) (i := 0) C (dm_Mo_shape 84 rfl) rfl rfl rfl ?_
                        refine gi_iconst (q := 163) (v := 0) C (dm_Mo_shape 85 rfl) rfl (by decide) ?_
                        refine gi_callv 1 (q := 166) C (dm_Mo_shape 86 rfl) rfl my_Mo_puts lk_Mo_203 im_Mo_puts rfl (c_Mo_puts false r158 (by exact (Nat.le_trans tkX_b (Nat.le_trans tkX_b (show x.1 ≤ 11 by omega)))) H158) Ha158 rfl rfl ⟨(Nat.le_of_ble_eq_true rfl), (Nat.le_of_ble_eq_true rfl)⟩ (Nat.le_of_ble_eq_true rfl) ⟨(Nat.le_of_ble_eq_true rfl), (Nat.le_of_ble_eq_true rfl)⟩ (fun r163 n163 h163 e163 => ?_)
                        obtain ⟨rfl, rfl, S163, H163, o163, r163, f163⟩ := e163
                        obtain ⟨fs163, Ha163, Hf163⟩ := id H163.1
                        refine gi_goto (tgt := 436) C (dm_Mo_shape 87 rfl) (by decide) ?_
                        refine gi_vret C hr (dm_Mo_shape 230 rfl) ?_
                        refine ⟨rfl, rfl, ?_⟩
                        rw [show shX P m 7 a x = (ptX false (tkX false (tkX false (x, false)))) from rfl]
                        exact ⟨_, H163, ((o153.tr o158).tr o163), r163, ((f153.tr f158).tr f163)⟩
                  · exact absurd c109 (by decide)
                · exact absurd c82 (by decide)
              · exact absurd c69 (by decide)
            · exact absurd c56 (by decide)
          · exact absurd c38 (by decide)
        · exact absurd c20 (by decide)
      · exact absurd c7 (by decide)
  · subst e
    refine gi_iload_n (q := 1) (i := 2) C (dm_Mo_shape 0 rfl) rfl rfl rfl ?_
    refine gi_if_eq (q := 4) (tgt := 10) C (dm_Mo_shape 1 rfl) rfl (by decide) (fun c1 => ?_) (fun c1 => ?_)
    · exact absurd c1 (by decide)
    · refine gi_iload_n (q := 5) (i := 2) C (dm_Mo_shape 2 rfl) rfl rfl rfl ?_
      refine gi_bipush (q := 7) (v := 34) C (dm_Mo_shape 3 rfl) rfl (by decide) ?_
      refine gi_icmp_ne (q := 10) (tgt := 18) C (dm_Mo_shape 4 rfl) rfl (by decide) (fun c7 => ?_) (fun c7 => ?_)
      · refine gi_iload_n (q := 19) (i := 2) C (dm_Mo_shape 9 rfl) rfl rfl rfl ?_
        refine gi_iconst (q := 20) (v := 1) C (dm_Mo_shape 10 rfl) rfl (by decide) ?_
        refine gi_icmp_ne (q := 23) (tgt := 36) C (dm_Mo_shape 11 rfl) rfl (by decide) (fun c20 => ?_) (fun c20 => ?_)
        · refine gi_iload_n (q := 37) (i := 2) C (dm_Mo_shape 19 rfl) rfl rfl rfl ?_
          refine gi_iconst (q := 38) (v := 2) C (dm_Mo_shape 20 rfl) rfl (by decide) ?_
          refine gi_icmp_ne (q := 41) (tgt := 54) C (dm_Mo_shape 21 rfl) rfl (by decide) (fun c38 => ?_) (fun c38 => ?_)
          · refine gi_iload_n (q := 55) (i := 2) C (dm_Mo_shape 29 rfl) rfl rfl rfl ?_
            refine gi_iconst (q := 56) (v := 3) C (dm_Mo_shape 30 rfl) rfl (by decide) ?_
            refine gi_icmp_ne (q := 59) (tgt := 67) C (dm_Mo_shape 31 rfl) rfl (by decide) (fun c56 => ?_) (fun c56 => ?_)
            · refine gi_iload_n (q := 68) (i := 2) C (dm_Mo_shape 36 rfl) rfl rfl rfl ?_
              refine gi_iconst (q := 69) (v := 4) C (dm_Mo_shape 37 rfl) rfl (by decide) ?_
              refine gi_icmp_ne (q := 72) (tgt := 80) C (dm_Mo_shape 38 rfl) rfl (by decide) (fun c69 => ?_) (fun c69 => ?_)
              · refine gi_iload_n (q := 81) (i := 2) C (dm_Mo_shape 43 rfl) rfl rfl rfl ?_
                refine gi_iconst (q := 82) (v := 5) C (dm_Mo_shape 44 rfl) rfl (by decide) ?_
                refine gi_icmp_ne (q := 85) (tgt := 106) C (dm_Mo_shape 45 rfl) rfl (by decide) (fun c82 => ?_) (fun c82 => ?_)
                · refine gi_iload_n (q := 107) (i := 2) C (dm_Mo_shape 56 rfl) rfl rfl rfl ?_
                  refine gi_bipush (q := 109) (v := 6) C (dm_Mo_shape 57 rfl) rfl (by decide) ?_
                  refine gi_icmp_ne (q := 112) (tgt := 139) C (dm_Mo_shape 58 rfl) rfl (by decide) (fun c109 => ?_) (fun c109 => ?_)
                  · refine gi_iload_n (q := 140) (i := 2) C (dm_Mo_shape 72 rfl) rfl rfl rfl ?_
                    refine gi_bipush (q := 142) (v := 7) C (dm_Mo_shape 73 rfl) rfl (by decide) ?_
                    refine gi_icmp_lt (q := 145) (tgt := 169) C (dm_Mo_shape 74 rfl) rfl (by decide) (fun c142 => ?_) (fun c142 => ?_)
                    · exact absurd c142 (by decide)
                    · refine gi_iload_n (q := 146) (i := 2) C (dm_Mo_shape 75 rfl) rfl rfl rfl ?_
                      refine gi_bipush (q := 148) (v := 17) C (dm_Mo_shape 76 rfl) rfl (by decide) ?_
                      refine gi_icmp_gt (q := 151) (tgt := 169) C (dm_Mo_shape 77 rfl) rfl (by decide) (fun c148 => ?_) (fun c148 => ?_)
                      · exact absurd c148 (by decide)
                      · refine gi_aload_n (q := 152) (i := 0) C (dm_Mo_shape 78 rfl) rfl rfl rfl ?_
                        refine gi_iconst (q := 153) (v := 0) C (dm_Mo_shape 79 rfl) rfl (by decide) ?_
                        refine gi_callv 1 (q := 156) C (dm_Mo_shape 80 rfl) rfl my_Mo_takes lk_Mo_211 im_Mo_takes rfl (c_Mo_takes false hS H) Ha rfl rfl ⟨(Nat.le_of_ble_eq_true rfl), (Nat.le_of_ble_eq_true rfl)⟩ (Nat.le_of_ble_eq_true rfl) ⟨(Nat.le_of_ble_eq_true rfl), (Nat.le_of_ble_eq_true rfl)⟩ (fun r153 n153 h153 e153 => ?_)
                        obtain ⟨rfl, rfl, S153, H153, o153, r153, f153⟩ := e153
                        obtain ⟨fs153, Ha153, Hf153⟩ := id H153.1
                        refine gi_aload_n (q := 157) (i := 0) C (dm_Mo_shape 81 rfl) rfl rfl rfl ?_
                        refine gi_iconst (q := 158) (v := 0) C (dm_Mo_shape 82 rfl) rfl (by decide) ?_
                        refine gi_callv 1 (q := 161) C (dm_Mo_shape 83 rfl) rfl my_Mo_takes lk_Mo_211 im_Mo_takes rfl (c_Mo_takes false r153 H153) Ha153 rfl rfl ⟨(Nat.le_of_ble_eq_true rfl), (Nat.le_of_ble_eq_true rfl)⟩ (Nat.le_of_ble_eq_true rfl) ⟨(Nat.le_of_ble_eq_true rfl), (Nat.le_of_ble_eq_true rfl)⟩ (fun r158 n158 h158 e158 => ?_)
                        obtain ⟨rfl, rfl, S158, H158, o158, r158, f158⟩ := e158
                        obtain ⟨fs158, Ha158, Hf158⟩ := id H158.1
                        refine gi_aload_n (q := 162) (i := 0) C (dm_Mo_shape 84 rfl) rfl rfl rfl ?_
                        refine gi_iconst (q := 163) (v := 0) C (dm_Mo_shape 85 rfl) rfl (by decide) ?_
                        refine gi_callv 1 (q := 166) C (dm_Mo_shape 86 rfl) rfl my_Mo_puts lk_Mo_203 im_Mo_puts rfl (c_Mo_puts false r158 (by exact (Nat.le_trans tkX_b (Nat.le_trans tkX_b (show x.1 ≤ 11 by omega)))) H158) Ha158 rfl rfl ⟨(Nat.le_of_ble_eq_true rfl), (Nat.le_of_ble_eq_true rfl)⟩ (Nat.le_of_ble_eq_true rfl) ⟨(Nat.le_of_ble_eq_true rfl), (Nat.le_of_ble_eq_true rfl)⟩ (fun r163 n163 h163 e163 => ?_)
                        obtain ⟨rfl, rfl, S163, H163, o163, r163, f163⟩ := e163
                        obtain ⟨fs163, Ha163, Hf163⟩ := id H163.1
                        refine gi_goto (tgt := 436) C (dm_Mo_shape 87 rfl) (by decide) ?_
                        refine gi_vret C hr (dm_Mo_shape 230 rfl) ?_
                        refine ⟨rfl, rfl, ?_⟩
                        rw [show shX P m 8 a x = (ptX false (tkX false (tkX false (x, false)))) from rfl]
                        exact ⟨_, H163, ((o153.tr o158).tr o163), r163, ((f153.tr f158).tr f163)⟩
                  · exact absurd c109 (by decide)
                · exact absurd c82 (by decide)
              · exact absurd c69 (by decide)
            · exact absurd c56 (by decide)
          · exact absurd c38 (by decide)
        · exact absurd c20 (by decide)
      · exact absurd c7 (by decide)
  · subst e
    refine gi_iload_n (q := 1) (i := 2) C (dm_Mo_shape 0 rfl) rfl rfl rfl ?_
    refine gi_if_eq (q := 4) (tgt := 10) C (dm_Mo_shape 1 rfl) rfl (by decide) (fun c1 => ?_) (fun c1 => ?_)
    · exact absurd c1 (by decide)
    · refine gi_iload_n (q := 5) (i := 2) C (dm_Mo_shape 2 rfl) rfl rfl rfl ?_
      refine gi_bipush (q := 7) (v := 34) C (dm_Mo_shape 3 rfl) rfl (by decide) ?_
      refine gi_icmp_ne (q := 10) (tgt := 18) C (dm_Mo_shape 4 rfl) rfl (by decide) (fun c7 => ?_) (fun c7 => ?_)
      · refine gi_iload_n (q := 19) (i := 2) C (dm_Mo_shape 9 rfl) rfl rfl rfl ?_
        refine gi_iconst (q := 20) (v := 1) C (dm_Mo_shape 10 rfl) rfl (by decide) ?_
        refine gi_icmp_ne (q := 23) (tgt := 36) C (dm_Mo_shape 11 rfl) rfl (by decide) (fun c20 => ?_) (fun c20 => ?_)
        · refine gi_iload_n (q := 37) (i := 2) C (dm_Mo_shape 19 rfl) rfl rfl rfl ?_
          refine gi_iconst (q := 38) (v := 2) C (dm_Mo_shape 20 rfl) rfl (by decide) ?_
          refine gi_icmp_ne (q := 41) (tgt := 54) C (dm_Mo_shape 21 rfl) rfl (by decide) (fun c38 => ?_) (fun c38 => ?_)
          · refine gi_iload_n (q := 55) (i := 2) C (dm_Mo_shape 29 rfl) rfl rfl rfl ?_
            refine gi_iconst (q := 56) (v := 3) C (dm_Mo_shape 30 rfl) rfl (by decide) ?_
            refine gi_icmp_ne (q := 59) (tgt := 67) C (dm_Mo_shape 31 rfl) rfl (by decide) (fun c56 => ?_) (fun c56 => ?_)
            · refine gi_iload_n (q := 68) (i := 2) C (dm_Mo_shape 36 rfl) rfl rfl rfl ?_
              refine gi_iconst (q := 69) (v := 4) C (dm_Mo_shape 37 rfl) rfl (by decide) ?_
              refine gi_icmp_ne (q := 72) (tgt := 80) C (dm_Mo_shape 38 rfl) rfl (by decide) (fun c69 => ?_) (fun c69 => ?_)
              · refine gi_iload_n (q := 81) (i := 2) C (dm_Mo_shape 43 rfl) rfl rfl rfl ?_
                refine gi_iconst (q := 82) (v := 5) C (dm_Mo_shape 44 rfl) rfl (by decide) ?_
                refine gi_icmp_ne (q := 85) (tgt := 106) C (dm_Mo_shape 45 rfl) rfl (by decide) (fun c82 => ?_) (fun c82 => ?_)
                · refine gi_iload_n (q := 107) (i := 2) C (dm_Mo_shape 56 rfl) rfl rfl rfl ?_
                  refine gi_bipush (q := 109) (v := 6) C (dm_Mo_shape 57 rfl) rfl (by decide) ?_
                  refine gi_icmp_ne (q := 112) (tgt := 139) C (dm_Mo_shape 58 rfl) rfl (by decide) (fun c109 => ?_) (fun c109 => ?_)
                  · refine gi_iload_n (q := 140) (i := 2) C (dm_Mo_shape 72 rfl) rfl rfl rfl ?_
                    refine gi_bipush (q := 142) (v := 7) C (dm_Mo_shape 73 rfl) rfl (by decide) ?_
                    refine gi_icmp_lt (q := 145) (tgt := 169) C (dm_Mo_shape 74 rfl) rfl (by decide) (fun c142 => ?_) (fun c142 => ?_)
                    · exact absurd c142 (by decide)
                    · refine gi_iload_n (q := 146) (i := 2) C (dm_Mo_shape 75 rfl) rfl rfl rfl ?_
                      refine gi_bipush (q := 148) (v := 17) C (dm_Mo_shape 76 rfl) rfl (by decide) ?_
                      refine gi_icmp_gt (q := 151) (tgt := 169) C (dm_Mo_shape 77 rfl) rfl (by decide) (fun c148 => ?_) (fun c148 => ?_)
                      · exact absurd c148 (by decide)
                      · refine gi_aload_n (q := 152) (i := 0) C (dm_Mo_shape 78 rfl) rfl rfl rfl ?_
                        refine gi_iconst (q := 153) (v := 0) C (dm_Mo_shape 79 rfl) rfl (by decide) ?_
                        refine gi_callv 1 (q := 156) C (dm_Mo_shape 80 rfl) rfl my_Mo_takes lk_Mo_211 im_Mo_takes rfl (c_Mo_takes false hS H) Ha rfl rfl ⟨(Nat.le_of_ble_eq_true rfl), (Nat.le_of_ble_eq_true rfl)⟩ (Nat.le_of_ble_eq_true rfl) ⟨(Nat.le_of_ble_eq_true rfl), (Nat.le_of_ble_eq_true rfl)⟩ (fun r153 n153 h153 e153 => ?_)
                        obtain ⟨rfl, rfl, S153, H153, o153, r153, f153⟩ := e153
                        obtain ⟨fs153, Ha153, Hf153⟩ := id H153.1
                        refine gi_aload_n (q := 157) (i := 0) C (dm_Mo_shape 81 rfl) rfl rfl rfl ?_
                        refine gi_iconst (q := 158) (v := 0) C (dm_Mo_shape 82 rfl) rfl (by decide) ?_
                        refine gi_callv 1 (q := 161) C (dm_Mo_shape 83 rfl) rfl my_Mo_takes lk_Mo_211 im_Mo_takes rfl (c_Mo_takes false r153 H153) Ha153 rfl rfl ⟨(Nat.le_of_ble_eq_true rfl), (Nat.le_of_ble_eq_true rfl)⟩ (Nat.le_of_ble_eq_true rfl) ⟨(Nat.le_of_ble_eq_true rfl), (Nat.le_of_ble_eq_true rfl)⟩ (fun r158 n158 h158 e158 => ?_)
                        obtain ⟨rfl, rfl, S158, H158, o158, r158, f158⟩ := e158
                        obtain ⟨fs158, Ha158, Hf158⟩ := id H158.1
                        refine gi_aload_n (q := 162) (i := 0) C (dm_Mo_shape 84 rfl) rfl rfl rfl ?_
                        refine gi_iconst (q := 163) (v := 0) C (dm_Mo_shape 85 rfl) rfl (by decide) ?_
                        refine gi_callv 1 (q := 166) C (dm_Mo_shape 86 rfl) rfl my_Mo_puts lk_Mo_203 im_Mo_puts rfl (c_Mo_puts false r158 (by exact (Nat.le_trans tkX_b (Nat.le_trans tkX_b (show x.1 ≤ 11 by omega)))) H158) Ha158 rfl rfl ⟨(Nat.le_of_ble_eq_true rfl), (Nat.le_of_ble_eq_true rfl)⟩ (Nat.le_of_ble_eq_true rfl) ⟨(Nat.le_of_ble_eq_true rfl), (Nat.le_of_ble_eq_true rfl)⟩ (fun r163 n163 h163 e163 => ?_)
                        obtain ⟨rfl, rfl, S163, H163, o163, r163, f163⟩ := e163
                        obtain ⟨fs163, Ha163, Hf163⟩ := id H163.1
                        refine gi_goto (tgt := 436) C (dm_Mo_shape 87 rfl) (by decide) ?_
                        refine gi_vret C hr (dm_Mo_shape 230 rfl) ?_
                        refine ⟨rfl, rfl, ?_⟩
                        rw [show shX P m 9 a x = (ptX false (tkX false (tkX false (x, false)))) from rfl]
                        exact ⟨_, H163, ((o153.tr o158).tr o163), r163, ((f153.tr f158).tr f163)⟩
                  · exact absurd c109 (by decide)
                · exact absurd c82 (by decide)
              · exact absurd c69 (by decide)
            · exact absurd c56 (by decide)
          · exact absurd c38 (by decide)
        · exact absurd c20 (by decide)
      · exact absurd c7 (by decide)
  · subst e
    refine gi_iload_n (q := 1) (i := 2) C (dm_Mo_shape 0 rfl) rfl rfl rfl ?_
    refine gi_if_eq (q := 4) (tgt := 10) C (dm_Mo_shape 1 rfl) rfl (by decide) (fun c1 => ?_) (fun c1 => ?_)
    · exact absurd c1 (by decide)
    · refine gi_iload_n (q := 5) (i := 2) C (dm_Mo_shape 2 rfl) rfl rfl rfl ?_
      refine gi_bipush (q := 7) (v := 34) C (dm_Mo_shape 3 rfl) rfl (by decide) ?_
      refine gi_icmp_ne (q := 10) (tgt := 18) C (dm_Mo_shape 4 rfl) rfl (by decide) (fun c7 => ?_) (fun c7 => ?_)
      · refine gi_iload_n (q := 19) (i := 2) C (dm_Mo_shape 9 rfl) rfl rfl rfl ?_
        refine gi_iconst (q := 20) (v := 1) C (dm_Mo_shape 10 rfl) rfl (by decide) ?_
        refine gi_icmp_ne (q := 23) (tgt := 36) C (dm_Mo_shape 11 rfl) rfl (by decide) (fun c20 => ?_) (fun c20 => ?_)
        · refine gi_iload_n (q := 37) (i := 2) C (dm_Mo_shape 19 rfl) rfl rfl rfl ?_
          refine gi_iconst (q := 38) (v := 2) C (dm_Mo_shape 20 rfl) rfl (by decide) ?_
          refine gi_icmp_ne (q := 41) (tgt := 54) C (dm_Mo_shape 21 rfl) rfl (by decide) (fun c38 => ?_) (fun c38 => ?_)
          · refine gi_iload_n (q := 55) (i := 2) C (dm_Mo_shape 29 rfl) rfl rfl rfl ?_
            refine gi_iconst (q := 56) (v := 3) C (dm_Mo_shape 30 rfl) rfl (by decide) ?_
            refine gi_icmp_ne (q := 59) (tgt := 67) C (dm_Mo_shape 31 rfl) rfl (by decide) (fun c56 => ?_) (fun c56 => ?_)
            · refine gi_iload_n (q := 68) (i := 2) C (dm_Mo_shape 36 rfl) rfl rfl rfl ?_
              refine gi_iconst (q := 69) (v := 4) C (dm_Mo_shape 37 rfl) rfl (by decide) ?_
              refine gi_icmp_ne (q := 72) (tgt := 80) C (dm_Mo_shape 38 rfl) rfl (by decide) (fun c69 => ?_) (fun c69 => ?_)
              · refine gi_iload_n (q := 81) (i := 2) C (dm_Mo_shape 43 rfl) rfl rfl rfl ?_
                refine gi_iconst (q := 82) (v := 5) C (dm_Mo_shape 44 rfl) rfl (by decide) ?_
                refine gi_icmp_ne (q := 85) (tgt := 106) C (dm_Mo_shape 45 rfl) rfl (by decide) (fun c82 => ?_) (fun c82 => ?_)
                · refine gi_iload_n (q := 107) (i := 2) C (dm_Mo_shape 56 rfl) rfl rfl rfl ?_
                  refine gi_bipush (q := 109) (v := 6) C (dm_Mo_shape 57 rfl) rfl (by decide) ?_
                  refine gi_icmp_ne (q := 112) (tgt := 139) C (dm_Mo_shape 58 rfl) rfl (by decide) (fun c109 => ?_) (fun c109 => ?_)
                  · refine gi_iload_n (q := 140) (i := 2) C (dm_Mo_shape 72 rfl) rfl rfl rfl ?_
                    refine gi_bipush (q := 142) (v := 7) C (dm_Mo_shape 73 rfl) rfl (by decide) ?_
                    refine gi_icmp_lt (q := 145) (tgt := 169) C (dm_Mo_shape 74 rfl) rfl (by decide) (fun c142 => ?_) (fun c142 => ?_)
                    · exact absurd c142 (by decide)
                    · refine gi_iload_n (q := 146) (i := 2) C (dm_Mo_shape 75 rfl) rfl rfl rfl ?_
                      refine gi_bipush (q := 148) (v := 17) C (dm_Mo_shape 76 rfl) rfl (by decide) ?_
                      refine gi_icmp_gt (q := 151) (tgt := 169) C (dm_Mo_shape 77 rfl) rfl (by decide) (fun c148 => ?_) (fun c148 => ?_)
                      · exact absurd c148 (by decide)
                      · refine gi_aload_n (q := 152) (i := 0) C (dm_Mo_shape 78 rfl) rfl rfl rfl ?_
                        refine gi_iconst (q := 153) (v := 0) C (dm_Mo_shape 79 rfl) rfl (by decide) ?_
                        refine gi_callv 1 (q := 156) C (dm_Mo_shape 80 rfl) rfl my_Mo_takes lk_Mo_211 im_Mo_takes rfl (c_Mo_takes false hS H) Ha rfl rfl ⟨(Nat.le_of_ble_eq_true rfl), (Nat.le_of_ble_eq_true rfl)⟩ (Nat.le_of_ble_eq_true rfl) ⟨(Nat.le_of_ble_eq_true rfl), (Nat.le_of_ble_eq_true rfl)⟩ (fun r153 n153 h153 e153 => ?_)
                        obtain ⟨rfl, rfl, S153, H153, o153, r153, f153⟩ := e153
                        obtain ⟨fs153, Ha153, Hf153⟩ := id H153.1
                        refine gi_aload_n (q := 157) (i := 0) C (dm_Mo_shape 81 rfl) rfl rfl rfl ?_
                        refine gi_iconst (q := 158) (v := 0) C (dm_Mo_shape 82 rfl) rfl (by decide) ?_
                        refine gi_callv 1 (q := 161) C (dm_Mo_shape 83 rfl) rfl my_Mo_takes lk_Mo_211 im_Mo_takes rfl (c_Mo_takes false r153 H153) Ha153 rfl rfl ⟨(Nat.le_of_ble_eq_true rfl), (Nat.le_of_ble_eq_true rfl)⟩ (Nat.le_of_ble_eq_true rfl) ⟨(Nat.le_of_ble_eq_true rfl), (Nat.le_of_ble_eq_true rfl)⟩ (fun r158 n158 h158 e158 => ?_)
                        obtain ⟨rfl, rfl, S158, H158, o158, r158, f158⟩ := e158
                        obtain ⟨fs158, Ha158, Hf158⟩ := id H158.1
                        refine gi_aload_n (q := 162) (i := 0) C (dm_Mo_shape 84 rfl) rfl rfl rfl ?_
                        refine gi_iconst (q := 163) (v := 0) C (dm_Mo_shape 85 rfl) rfl (by decide) ?_
                        refine gi_callv 1 (q := 166) C (dm_Mo_shape 86 rfl) rfl my_Mo_puts lk_Mo_203 im_Mo_puts rfl (c_Mo_puts false r158 (by exact (Nat.le_trans tkX_b (Nat.le_trans tkX_b (show x.1 ≤ 11 by omega)))) H158) Ha158 rfl rfl ⟨(Nat.le_of_ble_eq_true rfl), (Nat.le_of_ble_eq_true rfl)⟩ (Nat.le_of_ble_eq_true rfl) ⟨(Nat.le_of_ble_eq_true rfl), (Nat.le_of_ble_eq_true rfl)⟩ (fun r163 n163 h163 e163 => ?_)
                        obtain ⟨rfl, rfl, S163, H163, o163, r163, f163⟩ := e163
                        obtain ⟨fs163, Ha163, Hf163⟩ := id H163.1
                        refine gi_goto (tgt := 436) C (dm_Mo_shape 87 rfl) (by decide) ?_
                        refine gi_vret C hr (dm_Mo_shape 230 rfl) ?_
                        refine ⟨rfl, rfl, ?_⟩
                        rw [show shX P m 10 a x = (ptX false (tkX false (tkX false (x, false)))) from rfl]
                        exact ⟨_, H163, ((o153.tr o158).tr o163), r163, ((f153.tr f158).tr f163)⟩
                  · exact absurd c109 (by decide)
                · exact absurd c82 (by decide)
              · exact absurd c69 (by decide)
            · exact absurd c56 (by decide)
          · exact absurd c38 (by decide)
        · exact absurd c20 (by decide)
      · exact absurd c7 (by decide)
  · subst e
    refine gi_iload_n (q := 1) (i := 2) C (dm_Mo_shape 0 rfl) rfl rfl rfl ?_
    refine gi_if_eq (q := 4) (tgt := 10) C (dm_Mo_shape 1 rfl) rfl (by decide) (fun c1 => ?_) (fun c1 => ?_)
    · exact absurd c1 (by decide)
    · refine gi_iload_n (q := 5) (i := 2) C (dm_Mo_shape 2 rfl) rfl rfl rfl ?_
      refine gi_bipush (q := 7) (v := 34) C (dm_Mo_shape 3 rfl) rfl (by decide) ?_
      refine gi_icmp_ne (q := 10) (tgt := 18) C (dm_Mo_shape 4 rfl) rfl (by decide) (fun c7 => ?_) (fun c7 => ?_)
      · refine gi_iload_n (q := 19) (i := 2) C (dm_Mo_shape 9 rfl) rfl rfl rfl ?_
        refine gi_iconst (q := 20) (v := 1) C (dm_Mo_shape 10 rfl) rfl (by decide) ?_
        refine gi_icmp_ne (q := 23) (tgt := 36) C (dm_Mo_shape 11 rfl) rfl (by decide) (fun c20 => ?_) (fun c20 => ?_)
        · refine gi_iload_n (q := 37) (i := 2) C (dm_Mo_shape 19 rfl) rfl rfl rfl ?_
          refine gi_iconst (q := 38) (v := 2) C (dm_Mo_shape 20 rfl) rfl (by decide) ?_
          refine gi_icmp_ne (q := 41) (tgt := 54) C (dm_Mo_shape 21 rfl) rfl (by decide) (fun c38 => ?_) (fun c38 => ?_)
          · refine gi_iload_n (q := 55) (i := 2) C (dm_Mo_shape 29 rfl) rfl rfl rfl ?_
            refine gi_iconst (q := 56) (v := 3) C (dm_Mo_shape 30 rfl) rfl (by decide) ?_
            refine gi_icmp_ne (q := 59) (tgt := 67) C (dm_Mo_shape 31 rfl) rfl (by decide) (fun c56 => ?_) (fun c56 => ?_)
            · refine gi_iload_n (q := 68) (i := 2) C (dm_Mo_shape 36 rfl) rfl rfl rfl ?_
              refine gi_iconst (q := 69) (v := 4) C (dm_Mo_shape 37 rfl) rfl (by decide) ?_
              refine gi_icmp_ne (q := 72) (tgt := 80) C (dm_Mo_shape 38 rfl) rfl (by decide) (fun c69 => ?_) (fun c69 => ?_)
              · refine gi_iload_n (q := 81) (i := 2) C (dm_Mo_shape 43 rfl) rfl rfl rfl ?_
                refine gi_iconst (q := 82) (v := 5) C (dm_Mo_shape 44 rfl) rfl (by decide) ?_
                refine gi_icmp_ne (q := 85) (tgt := 106) C (dm_Mo_shape 45 rfl) rfl (by decide) (fun c82 => ?_) (fun c82 => ?_)
                · refine gi_iload_n (q := 107) (i := 2) C (dm_Mo_shape 56 rfl) rfl rfl rfl ?_
                  refine gi_bipush (q := 109) (v := 6) C (dm_Mo_shape 57 rfl) rfl (by decide) ?_
                  refine gi_icmp_ne (q := 112) (tgt := 139) C (dm_Mo_shape 58 rfl) rfl (by decide) (fun c109 => ?_) (fun c109 => ?_)
                  · refine gi_iload_n (q := 140) (i := 2) C (dm_Mo_shape 72 rfl) rfl rfl rfl ?_
                    refine gi_bipush (q := 142) (v := 7) C (dm_Mo_shape 73 rfl) rfl (by decide) ?_
                    refine gi_icmp_lt (q := 145) (tgt := 169) C (dm_Mo_shape 74 rfl) rfl (by decide) (fun c142 => ?_) (fun c142 => ?_)
                    · exact absurd c142 (by decide)
                    · refine gi_iload_n (q := 146) (i := 2) C (dm_Mo_shape 75 rfl) rfl rfl rfl ?_
                      refine gi_bipush (q := 148) (v := 17) C (dm_Mo_shape 76 rfl) rfl (by decide) ?_
                      refine gi_icmp_gt (q := 151) (tgt := 169) C (dm_Mo_shape 77 rfl) rfl (by decide) (fun c148 => ?_) (fun c148 => ?_)
                      · exact absurd c148 (by decide)
                      · refine gi_aload_n (q := 152) (i := 0) C (dm_Mo_shape 78 rfl) rfl rfl rfl ?_
                        refine gi_iconst (q := 153) (v := 0) C (dm_Mo_shape 79 rfl) rfl (by decide) ?_
                        refine gi_callv 1 (q := 156) C (dm_Mo_shape 80 rfl) rfl my_Mo_takes lk_Mo_211 im_Mo_takes rfl (c_Mo_takes false hS H) Ha rfl rfl ⟨(Nat.le_of_ble_eq_true rfl), (Nat.le_of_ble_eq_true rfl)⟩ (Nat.le_of_ble_eq_true rfl) ⟨(Nat.le_of_ble_eq_true rfl), (Nat.le_of_ble_eq_true rfl)⟩ (fun r153 n153 h153 e153 => ?_)
                        obtain ⟨rfl, rfl, S153, H153, o153, r153, f153⟩ := e153
                        obtain ⟨fs153, Ha153, Hf153⟩ := id H153.1
                        refine gi_aload_n (q := 157) (i := 0) C (dm_Mo_shape 81 rfl) rfl rfl rfl ?_
                        refine gi_iconst (q := 158) (v := 0) C (dm_Mo_shape 82 rfl) rfl (by decide) ?_
                        refine gi_callv 1 (q := 161) C (dm_Mo_shape 83 rfl) rfl my_Mo_takes lk_Mo_211 im_Mo_takes rfl (c_Mo_takes false r153 H153) Ha153 rfl rfl ⟨(Nat.le_of_ble_eq_true rfl), (Nat.le_of_ble_eq_true rfl)⟩ (Nat.le_of_ble_eq_true rfl) ⟨(Nat.le_of_ble_eq_true rfl), (Nat.le_of_ble_eq_true rfl)⟩ (fun r158 n158 h158 e158 => ?_)
                        obtain ⟨rfl, rfl, S158, H158, o158, r158, f158⟩ := e158
                        obtain ⟨fs158, Ha158, Hf158⟩ := id H158.1
                        refine gi_aload_n (q := 162) (i := 0) C (dm_Mo_shape 84 rfl) rfl rfl rfl ?_
                        refine gi_iconst (q := 163) (v := 0) C (dm_Mo_shape 85 rfl) rfl (by decide) ?_
                        refine gi_callv 1 (q := 166) C (dm_Mo_shape 86 rfl) rfl my_Mo_puts lk_Mo_203 im_Mo_puts rfl (c_Mo_puts false r158 (by exact (Nat.le_trans tkX_b (Nat.le_trans tkX_b (show x.1 ≤ 11 by omega)))) H158) Ha158 rfl rfl ⟨(Nat.le_of_ble_eq_true rfl), (Nat.le_of_ble_eq_true rfl)⟩ (Nat.le_of_ble_eq_true rfl) ⟨(Nat.le_of_ble_eq_true rfl), (Nat.le_of_ble_eq_true rfl)⟩ (fun r163 n163 h163 e163 => ?_)
                        obtain ⟨rfl, rfl, S163, H163, o163, r163, f163⟩ := e163
                        obtain ⟨fs163, Ha163, Hf163⟩ := id H163.1
                        refine gi_goto (tgt := 436) C (dm_Mo_shape 87 rfl) (by decide) ?_
                        refine gi_vret C hr (dm_Mo_shape 230 rfl) ?_
                        refine ⟨rfl, rfl, ?_⟩
                        rw [show shX P m 11 a x = (ptX false (tkX false (tkX false (x, false)))) from rfl]
                        exact ⟨_, H163, ((o153.tr o158).tr o163), r163, ((f153.tr f158).tr f163)⟩
                  · exact absurd c109 (by decide)
                · exact absurd c82 (by decide)
              · exact absurd c69 (by decide)
            · exact absurd c56 (by decide)
          · exact absurd c38 (by decide)
        · exact absurd c20 (by decide)
      · exact absurd c7 (by decide)
  · subst e
    refine gi_iload_n (q := 1) (i := 2) C (dm_Mo_shape 0 rfl) rfl rfl rfl ?_
    refine gi_if_eq (q := 4) (tgt := 10) C (dm_Mo_shape 1 rfl) rfl (by decide) (fun c1 => ?_) (fun c1 => ?_)
    · exact absurd c1 (by decide)
    · refine gi_iload_n (q := 5) (i := 2) C (dm_Mo_shape 2 rfl) rfl rfl rfl ?_
      refine gi_bipush (q := 7) (v := 34) C (dm_Mo_shape 3 rfl) rfl (by decide) ?_
      refine gi_icmp_ne (q := 10) (tgt := 18) C (dm_Mo_shape 4 rfl) rfl (by decide) (fun c7 => ?_) (fun c7 => ?_)
      · refine gi_iload_n (q := 19) (i := 2) C (dm_Mo_shape 9 rfl) rfl rfl rfl ?_
        refine gi_iconst (q := 20) (v := 1) C (dm_Mo_shape 10 rfl) rfl (by decide) ?_
        refine gi_icmp_ne (q := 23) (tgt := 36) C (dm_Mo_shape 11 rfl) rfl (by decide) (fun c20 => ?_) (fun c20 => ?_)
        · refine gi_iload_n (q := 37) (i := 2) C (dm_Mo_shape 19 rfl) rfl rfl rfl ?_
          refine gi_iconst (q := 38) (v := 2) C (dm_Mo_shape 20 rfl) rfl (by decide) ?_
          refine gi_icmp_ne (q := 41) (tgt := 54) C (dm_Mo_shape 21 rfl) rfl (by decide) (fun c38 => ?_) (fun c38 => ?_)
          · refine gi_iload_n (q := 55) (i := 2) C (dm_Mo_shape 29 rfl) rfl rfl rfl ?_
            refine gi_iconst (q := 56) (v := 3) C (dm_Mo_shape 30 rfl) rfl (by decide) ?_
            refine gi_icmp_ne (q := 59) (tgt := 67) C (dm_Mo_shape 31 rfl) rfl (by decide) (fun c56 => ?_) (fun c56 => ?_)
            · refine gi_iload_n (q := 68) (i := 2) C (dm_Mo_shape 36 rfl) rfl rfl rfl ?_
              refine gi_iconst (q := 69) (v := 4) C (dm_Mo_shape 37 rfl) rfl (by decide) ?_
              refine gi_icmp_ne (q := 72) (tgt := 80) C (dm_Mo_shape 38 rfl) rfl (by decide) (fun c69 => ?_) (fun c69 => ?_)
              · refine gi_iload_n (q := 81) (i := 2) C (dm_Mo_shape 43 rfl) rfl rfl rfl ?_
                refine gi_iconst (q := 82) (v := 5) C (dm_Mo_shape 44 rfl) rfl (by decide) ?_
                refine gi_icmp_ne (q := 85) (tgt := 106) C (dm_Mo_shape 45 rfl) rfl (by decide) (fun c82 => ?_) (fun c82 => ?_)
                · refine gi_iload_n (q := 107) (i := 2) C (dm_Mo_shape 56 rfl) rfl rfl rfl ?_
                  refine gi_bipush (q := 109) (v := 6) C (dm_Mo_shape 57 rfl) rfl (by decide) ?_
                  refine gi_icmp_ne (q := 112) (tgt := 139) C (dm_Mo_shape 58 rfl) rfl (by decide) (fun c109 => ?_) (fun c109 => ?_)
                  · refine gi_iload_n (q := 140) (i := 2) C (dm_Mo_shape 72 rfl) rfl rfl rfl ?_
                    refine gi_bipush (q := 142) (v := 7) C (dm_Mo_shape 73 rfl) rfl (by decide) ?_
                    refine gi_icmp_lt (q := 145) (tgt := 169) C (dm_Mo_shape 74 rfl) rfl (by decide) (fun c142 => ?_) (fun c142 => ?_)
                    · exact absurd c142 (by decide)
                    · refine gi_iload_n (q := 146) (i := 2) C (dm_Mo_shape 75 rfl) rfl rfl rfl ?_
                      refine gi_bipush (q := 148) (v := 17) C (dm_Mo_shape 76 rfl) rfl (by decide) ?_
                      refine gi_icmp_gt (q := 151) (tgt := 169) C (dm_Mo_shape 77 rfl) rfl (by decide) (fun c148 => ?_) (fun c148 => ?_)
                      · exact absurd c148 (by decide)
                      · refine gi_aload_n (q := 152) (i := 0) C (dm_Mo_shape 78 rfl) rfl rfl rfl ?_
                        refine gi_iconst (q := 153) (v := 0) C (dm_Mo_shape 79 rfl) rfl (by decide) ?_
                        refine gi_callv 1 (q := 156) C (dm_Mo_shape 80 rfl) rfl my_Mo_takes lk_Mo_211 im_Mo_takes rfl (c_Mo_takes false hS H) Ha rfl rfl ⟨(Nat.le_of_ble_eq_true rfl), (Nat.le_of_ble_eq_true rfl)⟩ (Nat.le_of_ble_eq_true rfl) ⟨(Nat.le_of_ble_eq_true rfl), (Nat.le_of_ble_eq_true rfl)⟩ (fun r153 n153 h153 e153 => ?_)
                        obtain ⟨rfl, rfl, S153, H153, o153, r153, f153⟩ := e153
                        obtain ⟨fs153, Ha153, Hf153⟩ := id H153.1
                        refine gi_aload_n (q := 157) (i := 0) C (dm_Mo_shape 81 rfl) rfl rfl rfl ?_
                        refine gi_iconst (q := 158) (v := 0) C (dm_Mo_shape 82 rfl) rfl (by decide) ?_
                        refine gi_callv 1 (q := 161) C (dm_Mo_shape 83 rfl) rfl my_Mo_takes lk_Mo_211 im_Mo_takes rfl (c_Mo_takes false r153 H153) Ha153 rfl rfl ⟨(Nat.le_of_ble_eq_true rfl), (Nat.le_of_ble_eq_true rfl)⟩ (Nat.le_of_ble_eq_true rfl) ⟨(Nat.le_of_ble_eq_true rfl), (Nat.le_of_ble_eq_true rfl)⟩ (fun r158 n158 h158 e158 => ?_)
                        obtain ⟨rfl, rfl, S158, H158, o158, r158, f158⟩ := e158
                        obtain ⟨fs158, Ha158, Hf158⟩ := id H158.1
                        refine gi_aload_n (q := 162) (i := 0) C (dm_Mo_shape 84 rfl) rfl rfl rfl ?_
                        refine gi_iconst (q := 163) (v := 0) C (dm_Mo_shape 85 rfl) rfl (by decide) ?_
                        refine gi_callv 1 (q := 166) C (dm_Mo_shape 86 rfl) rfl my_Mo_puts lk_Mo_203 im_Mo_puts rfl (c_Mo_puts false r158 (by exact (Nat.le_trans tkX_b (Nat.le_trans tkX_b (show x.1 ≤ 11 by omega)))) H158) Ha158 rfl rfl ⟨(Nat.le_of_ble_eq_true rfl), (Nat.le_of_ble_eq_true rfl)⟩ (Nat.le_of_ble_eq_true rfl) ⟨(Nat.le_of_ble_eq_true rfl), (Nat.le_of_ble_eq_true rfl)⟩ (fun r163 n163 h163 e163 => ?_)
                        obtain ⟨rfl, rfl, S163, H163, o163, r163, f163⟩ := e163
                        obtain ⟨fs163, Ha163, Hf163⟩ := id H163.1
                        refine gi_goto (tgt := 436) C (dm_Mo_shape 87 rfl) (by decide) ?_
                        refine gi_vret C hr (dm_Mo_shape 230 rfl) ?_
                        refine ⟨rfl, rfl, ?_⟩
                        rw [show shX P m 12 a x = (ptX false (tkX false (tkX false (x, false)))) from rfl]
                        exact ⟨_, H163, ((o153.tr o158).tr o163), r163, ((f153.tr f158).tr f163)⟩
                  · exact absurd c109 (by decide)
                · exact absurd c82 (by decide)
              · exact absurd c69 (by decide)
            · exact absurd c56 (by decide)
          · exact absurd c38 (by decide)
        · exact absurd c20 (by decide)
      · exact absurd c7 (by decide)
  · subst e
    refine gi_iload_n (q := 1) (i := 2) C (dm_Mo_shape 0 rfl) rfl rfl rfl ?_
    refine gi_if_eq (q := 4) (tgt := 10) C (dm_Mo_shape 1 rfl) rfl (by decide) (fun c1 => ?_) (fun c1 => ?_)
    · exact absurd c1 (by decide)
    · refine gi_iload_n (q := 5) (i := 2) C (dm_Mo_shape 2 rfl) rfl rfl rfl ?_
      refine gi_bipush (q := 7) (v := 34) C (dm_Mo_shape 3 rfl) rfl (by decide) ?_
      refine gi_icmp_ne (q := 10) (tgt := 18) C (dm_Mo_shape 4 rfl) rfl (by decide) (fun c7 => ?_) (fun c7 => ?_)
      · refine gi_iload_n (q := 19) (i := 2) C (dm_Mo_shape 9 rfl) rfl rfl rfl ?_
        refine gi_iconst (q := 20) (v := 1) C (dm_Mo_shape 10 rfl) rfl (by decide) ?_
        refine gi_icmp_ne (q := 23) (tgt := 36) C (dm_Mo_shape 11 rfl) rfl (by decide) (fun c20 => ?_) (fun c20 => ?_)
        · refine gi_iload_n (q := 37) (i := 2) C (dm_Mo_shape 19 rfl) rfl rfl rfl ?_
          refine gi_iconst (q := 38) (v := 2) C (dm_Mo_shape 20 rfl) rfl (by decide) ?_
          refine gi_icmp_ne (q := 41) (tgt := 54) C (dm_Mo_shape 21 rfl) rfl (by decide) (fun c38 => ?_) (fun c38 => ?_)
          · refine gi_iload_n (q := 55) (i := 2) C (dm_Mo_shape 29 rfl) rfl rfl rfl ?_
            refine gi_iconst (q := 56) (v := 3) C (dm_Mo_shape 30 rfl) rfl (by decide) ?_
            refine gi_icmp_ne (q := 59) (tgt := 67) C (dm_Mo_shape 31 rfl) rfl (by decide) (fun c56 => ?_) (fun c56 => ?_)
            · refine gi_iload_n (q := 68) (i := 2) C (dm_Mo_shape 36 rfl) rfl rfl rfl ?_
              refine gi_iconst (q := 69) (v := 4) C (dm_Mo_shape 37 rfl) rfl (by decide) ?_
              refine gi_icmp_ne (q := 72) (tgt := 80) C (dm_Mo_shape 38 rfl) rfl (by decide) (fun c69 => ?_) (fun c69 => ?_)
              · refine gi_iload_n (q := 81) (i := 2) C (dm_Mo_shape 43 rfl) rfl rfl rfl ?_
                refine gi_iconst (q := 82) (v := 5) C (dm_Mo_shape 44 rfl) rfl (by decide) ?_
                refine gi_icmp_ne (q := 85) (tgt := 106) C (dm_Mo_shape 45 rfl) rfl (by decide) (fun c82 => ?_) (fun c82 => ?_)
                · refine gi_iload_n (q := 107) (i := 2) C (dm_Mo_shape 56 rfl) rfl rfl rfl ?_
                  refine gi_bipush (q := 109) (v := 6) C (dm_Mo_shape 57 rfl) rfl (by decide) ?_
                  refine gi_icmp_ne (q := 112) (tgt := 139) C (dm_Mo_shape 58 rfl) rfl (by decide) (fun c109 => ?_) (fun c109 => ?_)
                  · refine gi_iload_n (q := 140) (i := 2) C (dm_Mo_shape 72 rfl) rfl rfl rfl ?_
                    refine gi_bipush (q := 142) (v := 7) C (dm_Mo_shape 73 rfl) rfl (by decide) ?_
                    refine gi_icmp_lt (q := 145) (tgt := 169) C (dm_Mo_shape 74 rfl) rfl (by decide) (fun c142 => ?_) (fun c142 => ?_)
                    · exact absurd c142 (by decide)
                    · refine gi_iload_n (q := 146) (i := 2) C (dm_Mo_shape 75 rfl) rfl rfl rfl ?_
                      refine gi_bipush (q := 148) (v := 17) C (dm_Mo_shape 76 rfl) rfl (by decide) ?_
                      refine gi_icmp_gt (q := 151) (tgt := 169) C (dm_Mo_shape 77 rfl) rfl (by decide) (fun c148 => ?_) (fun c148 => ?_)
                      · exact absurd c148 (by decide)
                      · refine gi_aload_n (q := 152) (i := 0) C (dm_Mo_shape 78 rfl) rfl rfl rfl ?_
                        refine gi_iconst (q := 153) (v := 0) C (dm_Mo_shape 79 rfl) rfl (by decide) ?_
                        refine gi_callv 1 (q := 156) C (dm_Mo_shape 80 rfl) rfl my_Mo_takes lk_Mo_211 im_Mo_takes rfl (c_Mo_takes false hS H) Ha rfl rfl ⟨(Nat.le_of_ble_eq_true rfl), (Nat.le_of_ble_eq_true rfl)⟩ (Nat.le_of_ble_eq_true rfl) ⟨(Nat.le_of_ble_eq_true rfl), (Nat.le_of_ble_eq_true rfl)⟩ (fun r153 n153 h153 e153 => ?_)
                        obtain ⟨rfl, rfl, S153, H153, o153, r153, f153⟩ := e153
                        obtain ⟨fs153, Ha153, Hf153⟩ := id H153.1
                        refine gi_aload_n (q := 157) (i := 0) C (dm_Mo_shape 81 rfl) rfl rfl rfl ?_
                        refine gi_iconst (q := 158) (v := 0) C (dm_Mo_shape 82 rfl) rfl (by decide) ?_
                        refine gi_callv 1 (q := 161) C (dm_Mo_shape 83 rfl) rfl my_Mo_takes lk_Mo_211 im_Mo_takes rfl (c_Mo_takes false r153 H153) Ha153 rfl rfl ⟨(Nat.le_of_ble_eq_true rfl), (Nat.le_of_ble_eq_true rfl)⟩ (Nat.le_of_ble_eq_true rfl) ⟨(Nat.le_of_ble_eq_true rfl), (Nat.le_of_ble_eq_true rfl)⟩ (fun r158 n158 h158 e158 => ?_)
                        obtain ⟨rfl, rfl, S158, H158, o158, r158, f158⟩ := e158
                        obtain ⟨fs158, Ha158, Hf158⟩ := id H158.1
                        refine gi_aload_n (q := 162) (i := 0) C (dm_Mo_shape 84 rfl) rfl rfl rfl ?_
                        refine gi_iconst (q := 163) (v := 0) C (dm_Mo_shape 85 rfl) rfl (by decide) ?_
                        refine gi_callv 1 (q := 166) C (dm_Mo_shape 86 rfl) rfl my_Mo_puts lk_Mo_203 im_Mo_puts rfl (c_Mo_puts false r158 (by exact (Nat.le_trans tkX_b (Nat.le_trans tkX_b (show x.1 ≤ 11 by omega)))) H158) Ha158 rfl rfl ⟨(Nat.le_of_ble_eq_true rfl), (Nat.le_of_ble_eq_true rfl)⟩ (Nat.le_of_ble_eq_true rfl) ⟨(Nat.le_of_ble_eq_true rfl), (Nat.le_of_ble_eq_true rfl)⟩ (fun r163 n163 h163 e163 => ?_)
                        obtain ⟨rfl, rfl, S163, H163, o163, r163, f163⟩ := e163
                        obtain ⟨fs163, Ha163, Hf163⟩ := id H163.1
                        refine gi_goto (tgt := 436) C (dm_Mo_shape 87 rfl) (by decide) ?_
                        refine gi_vret C hr (dm_Mo_shape 230 rfl) ?_
                        refine ⟨rfl, rfl, ?_⟩
                        rw [show shX P m 13 a x = (ptX false (tkX false (tkX false (x, false)))) from rfl]
                        exact ⟨_, H163, ((o153.tr o158).tr o163), r163, ((f153.tr f158).tr f163)⟩
                  · exact absurd c109 (by decide)
                · exact absurd c82 (by decide)
              · exact absurd c69 (by decide)
            · exact absurd c56 (by decide)
          · exact absurd c38 (by decide)
        · exact absurd c20 (by decide)
      · exact absurd c7 (by decide)
  · subst e
    refine gi_iload_n (q := 1) (i := 2) C (dm_Mo_shape 0 rfl) rfl rfl rfl ?_
    refine gi_if_eq (q := 4) (tgt := 10) C (dm_Mo_shape 1 rfl) rfl (by decide) (fun c1 => ?_) (fun c1 => ?_)
    · exact absurd c1 (by decide)
    · refine gi_iload_n (q := 5) (i := 2) C (dm_Mo_shape 2 rfl) rfl rfl rfl ?_
      refine gi_bipush (q := 7) (v := 34) C (dm_Mo_shape 3 rfl) rfl (by decide) ?_
      refine gi_icmp_ne (q := 10) (tgt := 18) C (dm_Mo_shape 4 rfl) rfl (by decide) (fun c7 => ?_) (fun c7 => ?_)
      · refine gi_iload_n (q := 19) (i := 2) C (dm_Mo_shape 9 rfl) rfl rfl rfl ?_
        refine gi_iconst (q := 20) (v := 1) C (dm_Mo_shape 10 rfl) rfl (by decide) ?_
        refine gi_icmp_ne (q := 23) (tgt := 36) C (dm_Mo_shape 11 rfl) rfl (by decide) (fun c20 => ?_) (fun c20 => ?_)
        · refine gi_iload_n (q := 37) (i := 2) C (dm_Mo_shape 19 rfl) rfl rfl rfl ?_
          refine gi_iconst (q := 38) (v := 2) C (dm_Mo_shape 20 rfl) rfl (by decide) ?_
          refine gi_icmp_ne (q := 41) (tgt := 54) C (dm_Mo_shape 21 rfl) rfl (by decide) (fun c38 => ?_) (fun c38 => ?_)
          · refine gi_iload_n (q := 55) (i := 2) C (dm_Mo_shape 29 rfl) rfl rfl rfl ?_
            refine gi_iconst (q := 56) (v := 3) C (dm_Mo_shape 30 rfl) rfl (by decide) ?_
            refine gi_icmp_ne (q := 59) (tgt := 67) C (dm_Mo_shape 31 rfl) rfl (by decide) (fun c56 => ?_) (fun c56 => ?_)
            · refine gi_iload_n (q := 68) (i := 2) C (dm_Mo_shape 36 rfl) rfl rfl rfl ?_
              refine gi_iconst (q := 69) (v := 4) C (dm_Mo_shape 37 rfl) rfl (by decide) ?_
              refine gi_icmp_ne (q := 72) (tgt := 80) C (dm_Mo_shape 38 rfl) rfl (by decide) (fun c69 => ?_) (fun c69 => ?_)
              · refine gi_iload_n (q := 81) (i := 2) C (dm_Mo_shape 43 rfl) rfl rfl rfl ?_
                refine gi_iconst (q := 82) (v := 5) C (dm_Mo_shape 44 rfl) rfl (by decide) ?_
                refine gi_icmp_ne (q := 85) (tgt := 106) C (dm_Mo_shape 45 rfl) rfl (by decide) (fun c82 => ?_) (fun c82 => ?_)
                · refine gi_iload_n (q := 107) (i := 2) C (dm_Mo_shape 56 rfl) rfl rfl rfl ?_
                  refine gi_bipush (q := 109) (v := 6) C (dm_Mo_shape 57 rfl) rfl (by decide) ?_
                  refine gi_icmp_ne (q := 112) (tgt := 139) C (dm_Mo_shape 58 rfl) rfl (by decide) (fun c109 => ?_) (fun c109 => ?_)
                  · refine gi_iload_n (q := 140) (i := 2) C (dm_Mo_shape 72 rfl) rfl rfl rfl ?_
                    refine gi_bipush (q := 142) (v := 7) C (dm_Mo_shape 73 rfl) rfl (by decide) ?_
                    refine gi_icmp_lt (q := 145) (tgt := 169) C (dm_Mo_shape 74 rfl) rfl (by decide) (fun c142 => ?_) (fun c142 => ?_)
                    · exact absurd c142 (by decide)
                    · refine gi_iload_n (q := 146) (i := 2) C (dm_Mo_shape 75 rfl) rfl rfl rfl ?_
                      refine gi_bipush (q := 148) (v := 17) C (dm_Mo_shape 76 rfl) rfl (by decide) ?_
                      refine gi_icmp_gt (q := 151) (tgt := 169) C (dm_Mo_shape 77 rfl) rfl (by decide) (fun c148 => ?_) (fun c148 => ?_)
                      · exact absurd c148 (by decide)
                      · refine gi_aload_n (q := 152) (i := 0) C (dm_Mo_shape 78 rfl) rfl rfl rfl ?_
                        refine gi_iconst (q := 153) (v := 0) C (dm_Mo_shape 79 rfl) rfl (by decide) ?_
                        refine gi_callv 1 (q := 156) C (dm_Mo_shape 80 rfl) rfl my_Mo_takes lk_Mo_211 im_Mo_takes rfl (c_Mo_takes false hS H) Ha rfl rfl ⟨(Nat.le_of_ble_eq_true rfl), (Nat.le_of_ble_eq_true rfl)⟩ (Nat.le_of_ble_eq_true rfl) ⟨(Nat.le_of_ble_eq_true rfl), (Nat.le_of_ble_eq_true rfl)⟩ (fun r153 n153 h153 e153 => ?_)
                        obtain ⟨rfl, rfl, S153, H153, o153, r153, f153⟩ := e153
                        obtain ⟨fs153, Ha153, Hf153⟩ := id H153.1
                        refine gi_aload_n (q := 157) (i := 0) C (dm_Mo_shape 81 rfl) rfl rfl rfl ?_
                        refine gi_iconst (q := 158) (v := 0) C (dm_Mo_shape 82 rfl) rfl (by decide) ?_
                        refine gi_callv 1 (q := 161) C (dm_Mo_shape 83 rfl) rfl my_Mo_takes lk_Mo_211 im_Mo_takes rfl (c_Mo_takes false r153 H153) Ha153 rfl rfl ⟨(Nat.le_of_ble_eq_true rfl), (Nat.le_of_ble_eq_true rfl)⟩ (Nat.le_of_ble_eq_true rfl) ⟨(Nat.le_of_ble_eq_true rfl), (Nat.le_of_ble_eq_true rfl)⟩ (fun r158 n158 h158 e158 => ?_)
                        obtain ⟨rfl, rfl, S158, H158, o158, r158, f158⟩ := e158
                        obtain ⟨fs158, Ha158, Hf158⟩ := id H158.1
                        refine gi_aload_n (q := 162) (i := 0) C (dm_Mo_shape 84 rfl) rfl rfl rfl ?_
                        refine gi_iconst (q := 163) (v := 0) C (dm_Mo_shape 85 rfl) rfl (by decide) ?_
                        refine gi_callv 1 (q := 166) C (dm_Mo_shape 86 rfl) rfl my_Mo_puts lk_Mo_203 im_Mo_puts rfl (c_Mo_puts false r158 (by exact (Nat.le_trans tkX_b (Nat.le_trans tkX_b (show x.1 ≤ 11 by omega)))) H158) Ha158 rfl rfl ⟨(Nat.le_of_ble_eq_true rfl), (Nat.le_of_ble_eq_true rfl)⟩ (Nat.le_of_ble_eq_true rfl) ⟨(Nat.le_of_ble_eq_true rfl), (Nat.le_of_ble_eq_true rfl)⟩ (fun r163 n163 h163 e163 => ?_)
                        obtain ⟨rfl, rfl, S163, H163, o163, r163, f163⟩ := e163
                        obtain ⟨fs163, Ha163, Hf163⟩ := id H163.1
                        refine gi_goto (tgt := 436) C (dm_Mo_shape 87 rfl) (by decide) ?_
                        refine gi_vret C hr (dm_Mo_shape 230 rfl) ?_
                        refine ⟨rfl, rfl, ?_⟩
                        rw [show shX P m 14 a x = (ptX false (tkX false (tkX false (x, false)))) from rfl]
                        exact ⟨_, H163, ((o153.tr o158).tr o163), r163, ((f153.tr f158).tr f163)⟩
                  · exact absurd c109 (by decide)
                · exact absurd c82 (by decide)
              · exact absurd c69 (by decide)
            · exact absurd c56 (by decide)
          · exact absurd c38 (by decide)
        · exact absurd c20 (by decide)
      · exact absurd c7 (by decide)
  · subst e
    refine gi_iload_n (q := 1) (i := 2) C (dm_Mo_shape 0 rfl) rfl rfl rfl ?_
    refine gi_if_eq (q := 4) (tgt := 10) C (dm_Mo_shape 1 rfl) rfl (by decide) (fun c1 => ?_) (fun c1 => ?_)
    · exact absurd c1 (by decide)
    · refine gi_iload_n (q := 5) (i := 2) C (dm_Mo_shape 2 rfl) rfl rfl rfl ?_
      refine gi_bipush (q := 7) (v := 34) C (dm_Mo_shape 3 rfl) rfl (by decide) ?_
      refine gi_icmp_ne (q := 10) (tgt := 18) C (dm_Mo_shape 4 rfl) rfl (by decide) (fun c7 => ?_) (fun c7 => ?_)
      · refine gi_iload_n (q := 19) (i := 2) C (dm_Mo_shape 9 rfl) rfl rfl rfl ?_
        refine gi_iconst (q := 20) (v := 1) C (dm_Mo_shape 10 rfl) rfl (by decide) ?_
        refine gi_icmp_ne (q := 23) (tgt := 36) C (dm_Mo_shape 11 rfl) rfl (by decide) (fun c20 => ?_) (fun c20 => ?_)
        · refine gi_iload_n (q := 37) (i := 2) C (dm_Mo_shape 19 rfl) rfl rfl rfl ?_
          refine gi_iconst (q := 38) (v := 2) C (dm_Mo_shape 20 rfl) rfl (by decide) ?_
          refine gi_icmp_ne (q := 41) (tgt := 54) C (dm_Mo_shape 21 rfl) rfl (by decide) (fun c38 => ?_) (fun c38 => ?_)
          · refine gi_iload_n (q := 55) (i := 2) C (dm_Mo_shape 29 rfl) rfl rfl rfl ?_
            refine gi_iconst (q := 56) (v := 3) C (dm_Mo_shape 30 rfl) rfl (by decide) ?_
            refine gi_icmp_ne (q := 59) (tgt := 67) C (dm_Mo_shape 31 rfl) rfl (by decide) (fun c56 => ?_) (fun c56 => ?_)
            · refine gi_iload_n (q := 68) (i := 2) C (dm_Mo_shape 36 rfl) rfl rfl rfl ?_
              refine gi_iconst (q := 69) (v := 4) C (dm_Mo_shape 37 rfl) rfl (by decide) ?_
              refine gi_icmp_ne (q := 72) (tgt := 80) C (dm_Mo_shape 38 rfl) rfl (by decide) (fun c69 => ?_) (fun c69 => ?_)
              · refine gi_iload_n (q := 81) (i := 2) C (dm_Mo_shape 43 rfl) rfl rfl rfl ?_
                refine gi_iconst (q := 82) (v := 5) C (dm_Mo_shape 44 rfl) rfl (by decide) ?_
                refine gi_icmp_ne (q := 85) (tgt := 106) C (dm_Mo_shape 45 rfl) rfl (by decide) (fun c82 => ?_) (fun c82 => ?_)
                · refine gi_iload_n (q := 107) (i := 2) C (dm_Mo_shape 56 rfl) rfl rfl rfl ?_
                  refine gi_bipush (q := 109) (v := 6) C (dm_Mo_shape 57 rfl) rfl (by decide) ?_
                  refine gi_icmp_ne (q := 112) (tgt := 139) C (dm_Mo_shape 58 rfl) rfl (by decide) (fun c109 => ?_) (fun c109 => ?_)
                  · refine gi_iload_n (q := 140) (i := 2) C (dm_Mo_shape 72 rfl) rfl rfl rfl ?_
                    refine gi_bipush (q := 142) (v := 7) C (dm_Mo_shape 73 rfl) rfl (by decide) ?_
                    refine gi_icmp_lt (q := 145) (tgt := 169) C (dm_Mo_shape 74 rfl) rfl (by decide) (fun c142 => ?_) (fun c142 => ?_)
                    · exact absurd c142 (by decide)
                    · refine gi_iload_n (q := 146) (i := 2) C (dm_Mo_shape 75 rfl) rfl rfl rfl ?_
                      refine gi_bipush (q := 148) (v := 17) C (dm_Mo_shape 76 rfl) rfl (by decide) ?_
                      refine gi_icmp_gt (q := 151) (tgt := 169) C (dm_Mo_shape 77 rfl) rfl (by decide) (fun c148 => ?_) (fun c148 => ?_)
                      · exact absurd c148 (by decide)
                      · refine gi_aload_n (q := 152) (i := 0) C (dm_Mo_shape 78 rfl) rfl rfl rfl ?_
                        refine gi_iconst (q := 153) (v := 0) C (dm_Mo_shape 79 rfl) rfl (by decide) ?_
                        refine gi_callv 1 (q := 156) C (dm_Mo_shape 80 rfl) rfl my_Mo_takes lk_Mo_211 im_Mo_takes rfl (c_Mo_takes false hS H) Ha rfl rfl ⟨(Nat.le_of_ble_eq_true rfl), (Nat.le_of_ble_eq_true rfl)⟩ (Nat.le_of_ble_eq_true rfl) ⟨(Nat.le_of_ble_eq_true rfl), (Nat.le_of_ble_eq_true rfl)⟩ (fun r153 n153 h153 e153 => ?_)
                        obtain ⟨rfl, rfl, S153, H153, o153, r153, f153⟩ := e153
                        obtain ⟨fs153, Ha153, Hf153⟩ := id H153.1
                        refine gi_aload_n (q := 157) (i := 0) C (dm_Mo_shape 81 rfl) rfl rfl rfl ?_
                        refine gi_iconst (q := 158) (v := 0) C (dm_Mo_shape 82 rfl) rfl (by decide) ?_
                        refine gi_callv 1 (q := 161) C (dm_Mo_shape 83 rfl) rfl my_Mo_takes lk_Mo_211 im_Mo_takes rfl (c_Mo_takes false r153 H153) Ha153 rfl rfl ⟨(Nat.le_of_ble_eq_true rfl), (Nat.le_of_ble_eq_true rfl)⟩ (Nat.le_of_ble_eq_true rfl) ⟨(Nat.le_of_ble_eq_true rfl), (Nat.le_of_ble_eq_true rfl)⟩ (fun r158 n158 h158 e158 => ?_)
                        obtain ⟨rfl, rfl, S158, H158, o158, r158, f158⟩ := e158
                        obtain ⟨fs158, Ha158, Hf158⟩ := id H158.1
                        refine gi_aload_n (q := 162) (i := 0) C (dm_Mo_shape 84 rfl) rfl rfl rfl ?_
                        refine gi_iconst (q := 163) (v := 0) C (dm_Mo_shape 85 rfl) rfl (by decide) ?_
                        refine gi_callv 1 (q := 166) C (dm_Mo_shape 86 rfl) rfl my_Mo_puts lk_Mo_203 im_Mo_puts rfl (c_Mo_puts false r158 (by exact (Nat.le_trans tkX_b (Nat.le_trans tkX_b (show x.1 ≤ 11 by omega)))) H158) Ha158 rfl rfl ⟨(Nat.le_of_ble_eq_true rfl), (Nat.le_of_ble_eq_true rfl)⟩ (Nat.le_of_ble_eq_true rfl) ⟨(Nat.le_of_ble_eq_true rfl), (Nat.le_of_ble_eq_true rfl)⟩ (fun r163 n163 h163 e163 => ?_)
                        obtain ⟨rfl, rfl, S163, H163, o163, r163, f163⟩ := e163
                        obtain ⟨fs163, Ha163, Hf163⟩ := id H163.1
                        refine gi_goto (tgt := 436) C (dm_Mo_shape 87 rfl) (by decide) ?_
                        refine gi_vret C hr (dm_Mo_shape 230 rfl) ?_
                        refine ⟨rfl, rfl, ?_⟩
                        rw [show shX P m 15 a x = (ptX false (tkX false (tkX false (x, false)))) from rfl]
                        exact ⟨_, H163, ((o153.tr o158).tr o163), r163, ((f153.tr f158).tr f163)⟩
                  · exact absurd c109 (by decide)
                · exact absurd c82 (by decide)
              · exact absurd c69 (by decide)
            · exact absurd c56 (by decide)
          · exact absurd c38 (by decide)
        · exact absurd c20 (by decide)
      · exact absurd c7 (by decide)
  · subst e
    refine gi_iload_n (q := 1) (i := 2) C (dm_Mo_shape 0 rfl) rfl rfl rfl ?_
    refine gi_if_eq (q := 4) (tgt := 10) C (dm_Mo_shape 1 rfl) rfl (by decide) (fun c1 => ?_) (fun c1 => ?_)
    · exact absurd c1 (by decide)
    · refine gi_iload_n (q := 5) (i := 2) C (dm_Mo_shape 2 rfl) rfl rfl rfl ?_
      refine gi_bipush (q := 7) (v := 34) C (dm_Mo_shape 3 rfl) rfl (by decide) ?_
      refine gi_icmp_ne (q := 10) (tgt := 18) C (dm_Mo_shape 4 rfl) rfl (by decide) (fun c7 => ?_) (fun c7 => ?_)
      · refine gi_iload_n (q := 19) (i := 2) C (dm_Mo_shape 9 rfl) rfl rfl rfl ?_
        refine gi_iconst (q := 20) (v := 1) C (dm_Mo_shape 10 rfl) rfl (by decide) ?_
        refine gi_icmp_ne (q := 23) (tgt := 36) C (dm_Mo_shape 11 rfl) rfl (by decide) (fun c20 => ?_) (fun c20 => ?_)
        · refine gi_iload_n (q := 37) (i := 2) C (dm_Mo_shape 19 rfl) rfl rfl rfl ?_
          refine gi_iconst (q := 38) (v := 2) C (dm_Mo_shape 20 rfl) rfl (by decide) ?_
          refine gi_icmp_ne (q := 41) (tgt := 54) C (dm_Mo_shape 21 rfl) rfl (by decide) (fun c38 => ?_) (fun c38 => ?_)
          · refine gi_iload_n (q := 55) (i := 2) C (dm_Mo_shape 29 rfl) rfl rfl rfl ?_
            refine gi_iconst (q := 56) (v := 3) C (dm_Mo_shape 30 rfl) rfl (by decide) ?_
            refine gi_icmp_ne (q := 59) (tgt := 67) C (dm_Mo_shape 31 rfl) rfl (by decide) (fun c56 => ?_) (fun c56 => ?_)
            · refine gi_iload_n (q := 68) (i := 2) C (dm_Mo_shape 36 rfl) rfl rfl rfl ?_
              refine gi_iconst (q := 69) (v := 4) C (dm_Mo_shape 37 rfl) rfl (by decide) ?_
              refine gi_icmp_ne (q := 72) (tgt := 80) C (dm_Mo_shape 38 rfl) rfl (by decide) (fun c69 => ?_) (fun c69 => ?_)
              · refine gi_iload_n (q := 81) (i := 2) C (dm_Mo_shape 43 rfl) rfl rfl rfl ?_
                refine gi_iconst (q := 82) (v := 5) C (dm_Mo_shape 44 rfl) rfl (by decide) ?_
                refine gi_icmp_ne (q := 85) (tgt := 106) C (dm_Mo_shape 45 rfl) rfl (by decide) (fun c82 => ?_) (fun c82 => ?_)
                · refine gi_iload_n (q := 107) (i := 2) C (dm_Mo_shape 56 rfl) rfl rfl rfl ?_
                  refine gi_bipush (q := 109) (v := 6) C (dm_Mo_shape 57 rfl) rfl (by decide) ?_
                  refine gi_icmp_ne (q := 112) (tgt := 139) C (dm_Mo_shape 58 rfl) rfl (by decide) (fun c109 => ?_) (fun c109 => ?_)
                  · refine gi_iload_n (q := 140) (i := 2) C (dm_Mo_shape 72 rfl) rfl rfl rfl ?_
                    refine gi_bipush (q := 142) (v := 7) C (dm_Mo_shape 73 rfl) rfl (by decide) ?_
                    refine gi_icmp_lt (q := 145) (tgt := 169) C (dm_Mo_shape 74 rfl) rfl (by decide) (fun c142 => ?_) (fun c142 => ?_)
                    · exact absurd c142 (by decide)
                    · refine gi_iload_n (q := 146) (i := 2) C (dm_Mo_shape 75 rfl) rfl rfl rfl ?_
                      refine gi_bipush (q := 148) (v := 17) C (dm_Mo_shape 76 rfl) rfl (by decide) ?_
                      refine gi_icmp_gt (q := 151) (tgt := 169) C (dm_Mo_shape 77 rfl) rfl (by decide) (fun c148 => ?_) (fun c148 => ?_)
                      · exact absurd c148 (by decide)
                      · refine gi_aload_n (q := 152) (i := 0) C (dm_Mo_shape 78 rfl) rfl rfl rfl ?_
                        refine gi_iconst (q := 153) (v := 0) C (dm_Mo_shape 79 rfl) rfl (by decide) ?_
                        refine gi_callv 1 (q := 156) C (dm_Mo_shape 80 rfl) rfl my_Mo_takes lk_Mo_211 im_Mo_takes rfl (c_Mo_takes false hS H) Ha rfl rfl ⟨(Nat.le_of_ble_eq_true rfl), (Nat.le_of_ble_eq_true rfl)⟩ (Nat.le_of_ble_eq_true rfl) ⟨(Nat.le_of_ble_eq_true rfl), (Nat.le_of_ble_eq_true rfl)⟩ (fun r153 n153 h153 e153 => ?_)
                        obtain ⟨rfl, rfl, S153, H153, o153, r153, f153⟩ := e153
                        obtain ⟨fs153, Ha153, Hf153⟩ := id H153.1
                        refine gi_aload_n (q := 157) (i := 0) C (dm_Mo_shape 81 rfl) rfl rfl rfl ?_
                        refine gi_iconst (q := 158) (v := 0) C (dm_Mo_shape 82 rfl) rfl (by decide) ?_
                        refine gi_callv 1 (q := 161) C (dm_Mo_shape 83 rfl) rfl my_Mo_takes lk_Mo_211 im_Mo_takes rfl (c_Mo_takes false r153 H153) Ha153 rfl rfl ⟨(Nat.le_of_ble_eq_true rfl), (Nat.le_of_ble_eq_true rfl)⟩ (Nat.le_of_ble_eq_true rfl) ⟨(Nat.le_of_ble_eq_true rfl), (Nat.le_of_ble_eq_true rfl)⟩ (fun r158 n158 h158 e158 => ?_)
                        obtain ⟨rfl, rfl, S158, H158, o158, r158, f158⟩ := e158
                        obtain ⟨fs158, Ha158, Hf158⟩ := id H158.1
                        refine gi_aload_n (q := 162) (i := 0) C (dm_Mo_shape 84 rfl) rfl rfl rfl ?_
                        refine gi_iconst (q := 163) (v := 0) C (dm_Mo_shape 85 rfl) rfl (by decide) ?_
                        refine gi_callv 1 (q := 166) C (dm_Mo_shape 86 rfl) rfl my_Mo_puts lk_Mo_203 im_Mo_puts rfl (c_Mo_puts false r158 (by exact (Nat.le_trans tkX_b (Nat.le_trans tkX_b (show x.1 ≤ 11 by omega)))) H158) Ha158 rfl rfl ⟨(Nat.le_of_ble_eq_true rfl), (Nat.le_of_ble_eq_true rfl)⟩ (Nat.le_of_ble_eq_true rfl) ⟨(Nat.le_of_ble_eq_true rfl), (Nat.le_of_ble_eq_true rfl)⟩ (fun r163 n163 h163 e163 => ?_)
                        obtain ⟨rfl, rfl, S163, H163, o163, r163, f163⟩ := e163
                        obtain ⟨fs163, Ha163, Hf163⟩ := id H163.1
                        refine gi_goto (tgt := 436) C (dm_Mo_shape 87 rfl) (by decide) ?_
                        refine gi_vret C hr (dm_Mo_shape 230 rfl) ?_
                        refine ⟨rfl, rfl, ?_⟩
                        rw [show shX P m 16 a x = (ptX false (tkX false (tkX false (x, false)))) from rfl]
                        exact ⟨_, H163, ((o153.tr o158).tr o163), r163, ((f153.tr f158).tr f163)⟩
                  · exact absurd c109 (by decide)
                · exact absurd c82 (by decide)
              · exact absurd c69 (by decide)
            · exact absurd c56 (by decide)
          · exact absurd c38 (by decide)
        · exact absurd c20 (by decide)
      · exact absurd c7 (by decide)
  · subst e
    refine gi_iload_n (q := 1) (i := 2) C (dm_Mo_shape 0 rfl) rfl rfl rfl ?_
    refine gi_if_eq (q := 4) (tgt := 10) C (dm_Mo_shape 1 rfl) rfl (by decide) (fun c1 => ?_) (fun c1 => ?_)
    · exact absurd c1 (by decide)
    · refine gi_iload_n (q := 5) (i := 2) C (dm_Mo_shape 2 rfl) rfl rfl rfl ?_
      refine gi_bipush (q := 7) (v := 34) C (dm_Mo_shape 3 rfl) rfl (by decide) ?_
      refine gi_icmp_ne (q := 10) (tgt := 18) C (dm_Mo_shape 4 rfl) rfl (by decide) (fun c7 => ?_) (fun c7 => ?_)
      · refine gi_iload_n (q := 19) (i := 2) C (dm_Mo_shape 9 rfl) rfl rfl rfl ?_
        refine gi_iconst (q := 20) (v := 1) C (dm_Mo_shape 10 rfl) rfl (by decide) ?_
        refine gi_icmp_ne (q := 23) (tgt := 36) C (dm_Mo_shape 11 rfl) rfl (by decide) (fun c20 => ?_) (fun c20 => ?_)
        · refine gi_iload_n (q := 37) (i := 2) C (dm_Mo_shape 19 rfl) rfl rfl rfl ?_
          refine gi_iconst (q := 38) (v := 2) C (dm_Mo_shape 20 rfl) rfl (by decide) ?_
          refine gi_icmp_ne (q := 41) (tgt := 54) C (dm_Mo_shape 21 rfl) rfl (by decide) (fun c38 => ?_) (fun c38 => ?_)
          · refine gi_iload_n (q := 55) (i := 2) C (dm_Mo_shape 29 rfl) rfl rfl rfl ?_
            refine gi_iconst (q := 56) (v := 3) C (dm_Mo_shape 30 rfl) rfl (by decide) ?_
            refine gi_icmp_ne (q := 59) (tgt := 67) C (dm_Mo_shape 31 rfl) rfl (by decide) (fun c56 => ?_) (fun c56 => ?_)
            · refine gi_iload_n (q := 68) (i := 2) C (dm_Mo_shape 36 rfl) rfl rfl rfl ?_
              refine gi_iconst (q := 69) (v := 4) C (dm_Mo_shape 37 rfl) rfl (by decide) ?_
              refine gi_icmp_ne (q := 72) (tgt := 80) C (dm_Mo_shape 38 rfl) rfl (by decide) (fun c69 => ?_) (fun c69 => ?_)
              · refine gi_iload_n (q := 81) (i := 2) C (dm_Mo_shape 43 rfl) rfl rfl rfl ?_
                refine gi_iconst (q := 82) (v := 5) C (dm_Mo_shape 44 rfl) rfl (by decide) ?_
                refine gi_icmp_ne (q := 85) (tgt := 106) C (dm_Mo_shape 45 rfl) rfl (by decide) (fun c82 => ?_) (fun c82 => ?_)
                · refine gi_iload_n (q := 107) (i := 2) C (dm_Mo_shape 56 rfl) rfl rfl rfl ?_
                  refine gi_bipush (q := 109) (v := 6) C (dm_Mo_shape 57 rfl) rfl (by decide) ?_
                  refine gi_icmp_ne (q := 112) (tgt := 139) C (dm_Mo_shape 58 rfl) rfl (by decide) (fun c109 => ?_) (fun c109 => ?_)
                  · refine gi_iload_n (q := 140) (i := 2) C (dm_Mo_shape 72 rfl) rfl rfl rfl ?_
                    refine gi_bipush (q := 142) (v := 7) C (dm_Mo_shape 73 rfl) rfl (by decide) ?_
                    refine gi_icmp_lt (q := 145) (tgt := 169) C (dm_Mo_shape 74 rfl) rfl (by decide) (fun c142 => ?_) (fun c142 => ?_)
                    · exact absurd c142 (by decide)
                    · refine gi_iload_n (q := 146) (i := 2) C (dm_Mo_shape 75 rfl) rfl rfl rfl ?_
                      refine gi_bipush (q := 148) (v := 17) C (dm_Mo_shape 76 rfl) rfl (by decide) ?_
                      refine gi_icmp_gt (q := 151) (tgt := 169) C (dm_Mo_shape 77 rfl) rfl (by decide) (fun c148 => ?_) (fun c148 => ?_)
                      · exact absurd c148 (by decide)
                      · refine gi_aload_n (q := 152) (i := 0) C (dm_Mo_shape 78 rfl) rfl rfl rfl ?_
                        refine gi_iconst (q := 153) (v := 0) C (dm_Mo_shape 79 rfl) rfl (by decide) ?_
                        refine gi_callv 1 (q := 156) C (dm_Mo_shape 80 rfl) rfl my_Mo_takes lk_Mo_211 im_Mo_takes rfl (c_Mo_takes false hS H) Ha rfl rfl ⟨(Nat.le_of_ble_eq_true rfl), (Nat.le_of_ble_eq_true rfl)⟩ (Nat.le_of_ble_eq_true rfl) ⟨(Nat.le_of_ble_eq_true rfl), (Nat.le_of_ble_eq_true rfl)⟩ (fun r153 n153 h153 e153 => ?_)
                        obtain ⟨rfl, rfl, S153, H153, o153, r153, f153⟩ := e153
                        obtain ⟨fs153, Ha153, Hf153⟩ := id H153.1
                        refine gi_aload_n (q := 157) (i := 0) C (dm_Mo_shape 81 rfl) rfl rfl rfl ?_
                        refine gi_iconst (q := 158) (v := 0) C (dm_Mo_shape 82 rfl) rfl (by decide) ?_
                        refine gi_callv 1 (q := 161) C (dm_Mo_shape 83 rfl) rfl my_Mo_takes lk_Mo_211 im_Mo_takes rfl (c_Mo_takes false r153 H153) Ha153 rfl rfl ⟨(Nat.le_of_ble_eq_true rfl), (Nat.le_of_ble_eq_true rfl)⟩ (Nat.le_of_ble_eq_true rfl) ⟨(Nat.le_of_ble_eq_true rfl), (Nat.le_of_ble_eq_true rfl)⟩ (fun r158 n158 h158 e158 => ?_)
                        obtain ⟨rfl, rfl, S158, H158, o158, r158, f158⟩ := e158
                        obtain ⟨fs158, Ha158, Hf158⟩ := id H158.1
                        refine gi_aload_n (q := 162) (i := 0) C (dm_Mo_shape 84 rfl) rfl rfl rfl ?_
                        refine gi_iconst (q := 163) (v := 0) C (dm_Mo_shape 85 rfl) rfl (by decide) ?_
                        refine gi_callv 1 (q := 166) C (dm_Mo_shape 86 rfl) rfl my_Mo_puts lk_Mo_203 im_Mo_puts rfl (c_Mo_puts false r158 (by exact (Nat.le_trans tkX_b (Nat.le_trans tkX_b (show x.1 ≤ 11 by omega)))) H158) Ha158 rfl rfl ⟨(Nat.le_of_ble_eq_true rfl), (Nat.le_of_ble_eq_true rfl)⟩ (Nat.le_of_ble_eq_true rfl) ⟨(Nat.le_of_ble_eq_true rfl), (Nat.le_of_ble_eq_true rfl)⟩ (fun r163 n163 h163 e163 => ?_)
                        obtain ⟨rfl, rfl, S163, H163, o163, r163, f163⟩ := e163
                        obtain ⟨fs163, Ha163, Hf163⟩ := id H163.1
                        refine gi_goto (tgt := 436) C (dm_Mo_shape 87 rfl) (by decide) ?_
                        refine gi_vret C hr (dm_Mo_shape 230 rfl) ?_
                        refine ⟨rfl, rfl, ?_⟩
                        rw [show shX P m 17 a x = (ptX false (tkX false (tkX false (x, false)))) from rfl]
                        exact ⟨_, H163, ((o153.tr o158).tr o163), r163, ((f153.tr f158).tr f163)⟩
                  · exact absurd c109 (by decide)
                · exact absurd c82 (by decide)
              · exact absurd c69 (by decide)
            · exact absurd c56 (by decide)
          · exact absurd c38 (by decide)
        · exact absurd c20 (by decide)
      · exact absurd c7 (by decide)
  · subst e
    refine gi_iload_n (q := 1) (i := 2) C (dm_Mo_shape 0 rfl) rfl rfl rfl ?_
    refine gi_if_eq (q := 4) (tgt := 10) C (dm_Mo_shape 1 rfl) rfl (by decide) (fun c1 => ?_) (fun c1 => ?_)
    · exact absurd c1 (by decide)
    · refine gi_iload_n (q := 5) (i := 2) C (dm_Mo_shape 2 rfl) rfl rfl rfl ?_
      refine gi_bipush (q := 7) (v := 34) C (dm_Mo_shape 3 rfl) rfl (by decide) ?_
      refine gi_icmp_ne (q := 10) (tgt := 18) C (dm_Mo_shape 4 rfl) rfl (by decide) (fun c7 => ?_) (fun c7 => ?_)
      · refine gi_iload_n (q := 19) (i := 2) C (dm_Mo_shape 9 rfl) rfl rfl rfl ?_
        refine gi_iconst (q := 20) (v := 1) C (dm_Mo_shape 10 rfl) rfl (by decide) ?_
        refine gi_icmp_ne (q := 23) (tgt := 36) C (dm_Mo_shape 11 rfl) rfl (by decide) (fun c20 => ?_) (fun c20 => ?_)
        · refine gi_iload_n (q := 37) (i := 2) C (dm_Mo_shape 19 rfl) rfl rfl rfl ?_
          refine gi_iconst (q := 38) (v := 2) C (dm_Mo_shape 20 rfl) rfl (by decide) ?_
          refine gi_icmp_ne (q := 41) (tgt := 54) C (dm_Mo_shape 21 rfl) rfl (by decide) (fun c38 => ?_) (fun c38 => ?_)
          · refine gi_iload_n (q := 55) (i := 2) C (dm_Mo_shape 29 rfl) rfl rfl rfl ?_
            refine gi_iconst (q := 56) (v := 3) C (dm_Mo_shape 30 rfl) rfl (by decide) ?_
            refine gi_icmp_ne (q := 59) (tgt := 67) C (dm_Mo_shape 31 rfl) rfl (by decide) (fun c56 => ?_) (fun c56 => ?_)
            · refine gi_iload_n (q := 68) (i := 2) C (dm_Mo_shape 36 rfl) rfl rfl rfl ?_
              refine gi_iconst (q := 69) (v := 4) C (dm_Mo_shape 37 rfl) rfl (by decide) ?_
              refine gi_icmp_ne (q := 72) (tgt := 80) C (dm_Mo_shape 38 rfl) rfl (by decide) (fun c69 => ?_) (fun c69 => ?_)
              · refine gi_iload_n (q := 81) (i := 2) C (dm_Mo_shape 43 rfl) rfl rfl rfl ?_
                refine gi_iconst (q := 82) (v := 5) C (dm_Mo_shape 44 rfl) rfl (by decide) ?_
                refine gi_icmp_ne (q := 85) (tgt := 106) C (dm_Mo_shape 45 rfl) rfl (by decide) (fun c82 => ?_) (fun c82 => ?_)
                · refine gi_iload_n (q := 107) (i := 2) C (dm_Mo_shape 56 rfl) rfl rfl rfl ?_
                  refine gi_bipush (q := 109) (v := 6) C (dm_Mo_shape 57 rfl) rfl (by decide) ?_
                  refine gi_icmp_ne (q := 112) (tgt := 139) C (dm_Mo_shape 58 rfl) rfl (by decide) (fun c109 => ?_) (fun c109 => ?_)
                  · refine gi_iload_n (q := 140) (i := 2) C (dm_Mo_shape 72 rfl) rfl rfl rfl ?_
                    refine gi_bipush (q := 142) (v := 7) C (dm_Mo_shape 73 rfl) rfl (by decide) ?_
                    refine gi_icmp_lt (q := 145) (tgt := 169) C (dm_Mo_shape 74 rfl) rfl (by decide) (fun c142 => ?_) (fun c142 => ?_)
                    · exact absurd c142 (by decide)
                    · refine gi_iload_n (q := 146) (i := 2) C (dm_Mo_shape 75 rfl) rfl rfl rfl ?_
                      refine gi_bipush (q := 148) (v := 17) C (dm_Mo_shape 76 rfl) rfl (by decide) ?_
                      refine gi_icmp_gt (q := 151) (tgt := 169) C (dm_Mo_shape 77 rfl) rfl (by decide) (fun c148 => ?_) (fun c148 => ?_)
                      · refine gi_iload_n (q := 170) (i := 2) C (dm_Mo_shape 88 rfl) rfl rfl rfl ?_
                        refine gi_bipush (q := 172) (v := 18) C (dm_Mo_shape 89 rfl) rfl (by decide) ?_
                        refine gi_icmp_ne (q := 175) (tgt := 188) C (dm_Mo_shape 90 rfl) rfl (by decide) (fun c172 => ?_) (fun c172 => ?_)
                        · exact absurd c172 (by decide)
                        · refine gi_aload_n (q := 176) (i := 0) C (dm_Mo_shape 91 rfl) rfl rfl rfl ?_
                          refine gi_iconst (q := 177) (v := 0) C (dm_Mo_shape 92 rfl) rfl (by decide) ?_
                          refine gi_callv 1 (q := 180) C (dm_Mo_shape 93 rfl) rfl my_Mo_takes lk_Mo_211 im_Mo_takes rfl (c_Mo_takes false hS H) Ha rfl rfl ⟨(Nat.le_of_ble_eq_true rfl), (Nat.le_of_ble_eq_true rfl)⟩ (Nat.le_of_ble_eq_true rfl) ⟨(Nat.le_of_ble_eq_true rfl), (Nat.le_of_ble_eq_true rfl)⟩ (fun r177 n177 h177 e177 => ?_)
                          obtain ⟨rfl, rfl, S177, H177, o177, r177, f177⟩ := e177
                          obtain ⟨fs177, Ha177, Hf177⟩ := id H177.1
                          refine gi_aload_n (q := 181) (i := 0) C (dm_Mo_shape 94 rfl) rfl rfl rfl ?_
                          refine gi_iconst (q := 182) (v := 0) C (dm_Mo_shape 95 rfl) rfl (by decide) ?_
                          refine gi_callv 1 (q := 185) C (dm_Mo_shape 96 rfl) rfl my_Mo_puts lk_Mo_203 im_Mo_puts rfl (c_Mo_puts false r177 (by exact (Nat.le_trans tkX_b (show x.1 ≤ 11 by omega))) H177) Ha177 rfl rfl ⟨(Nat.le_of_ble_eq_true rfl), (Nat.le_of_ble_eq_true rfl)⟩ (Nat.le_of_ble_eq_true rfl) ⟨(Nat.le_of_ble_eq_true rfl), (Nat.le_of_ble_eq_true rfl)⟩ (fun r182 n182 h182 e182 => ?_)
                          obtain ⟨rfl, rfl, S182, H182, o182, r182, f182⟩ := e182
                          obtain ⟨fs182, Ha182, Hf182⟩ := id H182.1
                          refine gi_goto (tgt := 436) C (dm_Mo_shape 97 rfl) (by decide) ?_
                          refine gi_vret C hr (dm_Mo_shape 230 rfl) ?_
                          refine ⟨rfl, rfl, ?_⟩
                          rw [show shX P m 18 a x = (ptX false (tkX false (x, false))) from rfl]
                          exact ⟨_, H182, (o177.tr o182), r182, (f177.tr f182)⟩
                      · exact absurd c148 (by decide)
                  · exact absurd c109 (by decide)
                · exact absurd c82 (by decide)
              · exact absurd c69 (by decide)
            · exact absurd c56 (by decide)
          · exact absurd c38 (by decide)
        · exact absurd c20 (by decide)
      · exact absurd c7 (by decide)
  · subst e
    refine gi_iload_n (q := 1) (i := 2) C (dm_Mo_shape 0 rfl) rfl rfl rfl ?_
    refine gi_if_eq (q := 4) (tgt := 10) C (dm_Mo_shape 1 rfl) rfl (by decide) (fun c1 => ?_) (fun c1 => ?_)
    · exact absurd c1 (by decide)
    · refine gi_iload_n (q := 5) (i := 2) C (dm_Mo_shape 2 rfl) rfl rfl rfl ?_
      refine gi_bipush (q := 7) (v := 34) C (dm_Mo_shape 3 rfl) rfl (by decide) ?_
      refine gi_icmp_ne (q := 10) (tgt := 18) C (dm_Mo_shape 4 rfl) rfl (by decide) (fun c7 => ?_) (fun c7 => ?_)
      · refine gi_iload_n (q := 19) (i := 2) C (dm_Mo_shape 9 rfl) rfl rfl rfl ?_
        refine gi_iconst (q := 20) (v := 1) C (dm_Mo_shape 10 rfl) rfl (by decide) ?_
        refine gi_icmp_ne (q := 23) (tgt := 36) C (dm_Mo_shape 11 rfl) rfl (by decide) (fun c20 => ?_) (fun c20 => ?_)
        · refine gi_iload_n (q := 37) (i := 2) C (dm_Mo_shape 19 rfl) rfl rfl rfl ?_
          refine gi_iconst (q := 38) (v := 2) C (dm_Mo_shape 20 rfl) rfl (by decide) ?_
          refine gi_icmp_ne (q := 41) (tgt := 54) C (dm_Mo_shape 21 rfl) rfl (by decide) (fun c38 => ?_) (fun c38 => ?_)
          · refine gi_iload_n (q := 55) (i := 2) C (dm_Mo_shape 29 rfl) rfl rfl rfl ?_
            refine gi_iconst (q := 56) (v := 3) C (dm_Mo_shape 30 rfl) rfl (by decide) ?_
            refine gi_icmp_ne (q := 59) (tgt := 67) C (dm_Mo_shape 31 rfl) rfl (by decide) (fun c56 => ?_) (fun c56 => ?_)
            · refine gi_iload_n (q := 68) (i := 2) C (dm_Mo_shape 36 rfl) rfl rfl rfl ?_
              refine gi_iconst (q := 69) (v := 4) C (dm_Mo_shape 37 rfl) rfl (by decide) ?_
              refine gi_icmp_ne (q := 72) (tgt := 80) C (dm_Mo_shape 38 rfl) rfl (by decide) (fun c69 => ?_) (fun c69 => ?_)
              · refine gi_iload_n (q := 81) (i := 2) C (dm_Mo_shape 43 rfl) rfl rfl rfl ?_
                refine gi_iconst (q := 82) (v := 5) C (dm_Mo_shape 44 rfl) rfl (by decide) ?_
                refine gi_icmp_ne (q := 85) (tgt := 106) C (dm_Mo_shape 45 rfl) rfl (by decide) (fun c82 => ?_) (fun c82 => ?_)
                · refine gi_iload_n (q := 107) (i := 2) C (dm_Mo_shape 56 rfl) rfl rfl rfl ?_
                  refine gi_bipush (q := 109) (v := 6) C (dm_Mo_shape 57 rfl) rfl (by decide) ?_
                  refine gi_icmp_ne (q := 112) (tgt := 139) C (dm_Mo_shape 58 rfl) rfl (by decide) (fun c109 => ?_) (fun c109 => ?_)
                  · refine gi_iload_n (q := 140) (i := 2) C (dm_Mo_shape 72 rfl) rfl rfl rfl ?_
                    refine gi_bipush (q := 142) (v := 7) C (dm_Mo_shape 73 rfl) rfl (by decide) ?_
                    refine gi_icmp_lt (q := 145) (tgt := 169) C (dm_Mo_shape 74 rfl) rfl (by decide) (fun c142 => ?_) (fun c142 => ?_)
                    · exact absurd c142 (by decide)
                    · refine gi_iload_n (q := 146) (i := 2) C (dm_Mo_shape 75 rfl) rfl rfl rfl ?_
                      refine gi_bipush (q := 148) (v := 17) C (dm_Mo_shape 76 rfl) rfl (by decide) ?_
                      refine gi_icmp_gt (q := 151) (tgt := 169) C (dm_Mo_shape 77 rfl) rfl (by decide) (fun c148 => ?_) (fun c148 => ?_)
                      · refine gi_iload_n (q := 170) (i := 2) C (dm_Mo_shape 88 rfl) rfl rfl rfl ?_
                        refine gi_bipush (q := 172) (v := 18) C (dm_Mo_shape 89 rfl) rfl (by decide) ?_
                        refine gi_icmp_ne (q := 175) (tgt := 188) C (dm_Mo_shape 90 rfl) rfl (by decide) (fun c172 => ?_) (fun c172 => ?_)
                        · refine gi_iload_n (q := 189) (i := 2) C (dm_Mo_shape 98 rfl) rfl rfl rfl ?_
                          refine gi_bipush (q := 191) (v := 20) C (dm_Mo_shape 99 rfl) rfl (by decide) ?_
                          refine gi_icmp_lt (q := 194) (tgt := 213) C (dm_Mo_shape 100 rfl) rfl (by decide) (fun c191 => ?_) (fun c191 => ?_)
                          · refine gi_iload_n (q := 214) (i := 2) C (dm_Mo_shape 111 rfl) rfl rfl rfl ?_
                            refine gi_bipush (q := 216) (v := 26) C (dm_Mo_shape 112 rfl) rfl (by decide) ?_
                            refine gi_icmp_eq (q := 219) (tgt := 225) C (dm_Mo_shape 113 rfl) rfl (by decide) (fun c216 => ?_) (fun c216 => ?_)
                            · exact absurd c216 (by decide)
                            · refine gi_iload_n (q := 220) (i := 2) C (dm_Mo_shape 114 rfl) rfl rfl rfl ?_
                              refine gi_bipush (q := 222) (v := 27) C (dm_Mo_shape 115 rfl) rfl (by decide) ?_
                              refine gi_icmp_ne (q := 225) (tgt := 233) C (dm_Mo_shape 116 rfl) rfl (by decide) (fun c222 => ?_) (fun c222 => ?_)
                              · refine gi_iload_n (q := 234) (i := 2) C (dm_Mo_shape 121 rfl) rfl rfl rfl ?_
                                refine gi_bipush (q := 236) (v := 28) C (dm_Mo_shape 122 rfl) rfl (by decide) ?_
                                refine gi_icmp_ne (q := 239) (tgt := 252) C (dm_Mo_shape 123 rfl) rfl (by decide) (fun c236 => ?_) (fun c236 => ?_)
                                · refine gi_iload_n (q := 253) (i := 2) C (dm_Mo_shape 131 rfl) rfl rfl rfl ?_
                                  refine gi_bipush (q := 255) (v := 29) C (dm_Mo_shape 132 rfl) rfl (by decide) ?_
                                  refine gi_icmp_ne (q := 258) (tgt := 271) C (dm_Mo_shape 133 rfl) rfl (by decide) (fun c255 => ?_) (fun c255 => ?_)
                                  · refine gi_iload_n (q := 272) (i := 2) C (dm_Mo_shape 141 rfl) rfl rfl rfl ?_
                                    refine gi_bipush (q := 274) (v := 30) C (dm_Mo_shape 142 rfl) rfl (by decide) ?_
                                    refine gi_icmp_ne (q := 277) (tgt := 295) C (dm_Mo_shape 143 rfl) rfl (by decide) (fun c274 => ?_) (fun c274 => ?_)
                                    · refine gi_iload_n (q := 296) (i := 2) C (dm_Mo_shape 154 rfl) rfl rfl rfl ?_
                                      refine gi_bipush (q := 298) (v := 31) C (dm_Mo_shape 155 rfl) rfl (by decide) ?_
                                      refine gi_icmp_ne (q := 301) (tgt := 319) C (dm_Mo_shape 156 rfl) rfl (by decide) (fun c298 => ?_) (fun c298 => ?_)
                                      · refine gi_iload_n (q := 320) (i := 2) C (dm_Mo_shape 167 rfl) rfl rfl rfl ?_
                                        refine gi_bipush (q := 322) (v := 32) C (dm_Mo_shape 168 rfl) rfl (by decide) ?_
                                        refine gi_icmp_ne (q := 325) (tgt := 395) C (dm_Mo_shape 169 rfl) rfl (by decide) (fun c322 => ?_) (fun c322 => ?_)
                                        · refine gi_iload_n (q := 396) (i := 2) C (dm_Mo_shape 207 rfl) rfl rfl rfl ?_
                                          refine gi_bipush (q := 398) (v := 33) C (dm_Mo_shape 208 rfl) rfl (by decide) ?_
                                          refine gi_icmp_ne (q := 401) (tgt := 425) C (dm_Mo_shape 209 rfl) rfl (by decide) (fun c398 => ?_) (fun c398 => ?_)
                                          · refine gi_iload_n (q := 426) (i := 2) C (dm_Mo_shape 224 rfl) rfl rfl rfl ?_
                                            refine gi_bipush (q := 428) (v := 35) C (dm_Mo_shape 225 rfl) rfl (by decide) ?_
                                            refine gi_icmp_ne (q := 431) (tgt := 436) C (dm_Mo_shape 226 rfl) rfl (by decide) (fun c428 => ?_) (fun c428 => ?_)
                                            · refine gi_vret C hr (dm_Mo_shape 230 rfl) ?_
                                              refine ⟨rfl, rfl, ?_⟩
                                              rw [show shX P m 19 a x = (x, false) from rfl]
                                              exact ⟨S, H, outM.rf, hS, frS.rf⟩
                                            · exact absurd c428 (by decide)
                                          · exact absurd c398 (by decide)
                                        · exact absurd c322 (by decide)
                                      · exact absurd c298 (by decide)
                                    · exact absurd c274 (by decide)
                                  · exact absurd c255 (by decide)
                                · exact absurd c236 (by decide)
                              · exact absurd c222 (by decide)
                          · exact absurd c191 (by decide)
                        · exact absurd c172 (by decide)
                      · exact absurd c148 (by decide)
                  · exact absurd c109 (by decide)
                · exact absurd c82 (by decide)
              · exact absurd c69 (by decide)
            · exact absurd c56 (by decide)
          · exact absurd c38 (by decide)
        · exact absurd c20 (by decide)
      · exact absurd c7 (by decide)
  · subst e
    refine gi_iload_n (q := 1) (i := 2) C (dm_Mo_shape 0 rfl) rfl rfl rfl ?_
    refine gi_if_eq (q := 4) (tgt := 10) C (dm_Mo_shape 1 rfl) rfl (by decide) (fun c1 => ?_) (fun c1 => ?_)
    · exact absurd c1 (by decide)
    · refine gi_iload_n (q := 5) (i := 2) C (dm_Mo_shape 2 rfl) rfl rfl rfl ?_
      refine gi_bipush (q := 7) (v := 34) C (dm_Mo_shape 3 rfl) rfl (by decide) ?_
      refine gi_icmp_ne (q := 10) (tgt := 18) C (dm_Mo_shape 4 rfl) rfl (by decide) (fun c7 => ?_) (fun c7 => ?_)
      · refine gi_iload_n (q := 19) (i := 2) C (dm_Mo_shape 9 rfl) rfl rfl rfl ?_
        refine gi_iconst (q := 20) (v := 1) C (dm_Mo_shape 10 rfl) rfl (by decide) ?_
        refine gi_icmp_ne (q := 23) (tgt := 36) C (dm_Mo_shape 11 rfl) rfl (by decide) (fun c20 => ?_) (fun c20 => ?_)
        · refine gi_iload_n (q := 37) (i := 2) C (dm_Mo_shape 19 rfl) rfl rfl rfl ?_
          refine gi_iconst (q := 38) (v := 2) C (dm_Mo_shape 20 rfl) rfl (by decide) ?_
          refine gi_icmp_ne (q := 41) (tgt := 54) C (dm_Mo_shape 21 rfl) rfl (by decide) (fun c38 => ?_) (fun c38 => ?_)
          · refine gi_iload_n (q := 55) (i := 2) C (dm_Mo_shape 29 rfl) rfl rfl rfl ?_
            refine gi_iconst (q := 56) (v := 3) C (dm_Mo_shape 30 rfl) rfl (by decide) ?_
            refine gi_icmp_ne (q := 59) (tgt := 67) C (dm_Mo_shape 31 rfl) rfl (by decide) (fun c56 => ?_) (fun c56 => ?_)
            · refine gi_iload_n (q := 68) (i := 2) C (dm_Mo_shape 36 rfl) rfl rfl rfl ?_
              refine gi_iconst (q := 69) (v := 4) C (dm_Mo_shape 37 rfl) rfl (by decide) ?_
              refine gi_icmp_ne (q := 72) (tgt := 80) C (dm_Mo_shape 38 rfl) rfl (by decide) (fun c69 => ?_) (fun c69 => ?_)
              · refine gi_iload_n (q := 81) (i := 2) C (dm_Mo_shape 43 rfl) rfl rfl rfl ?_
                refine gi_iconst (q := 82) (v := 5) C (dm_Mo_shape 44 rfl) rfl (by decide) ?_
                refine gi_icmp_ne (q := 85) (tgt := 106) C (dm_Mo_shape 45 rfl) rfl (by decide) (fun c82 => ?_) (fun c82 => ?_)
                · refine gi_iload_n (q := 107) (i := 2) C (dm_Mo_shape 56 rfl) rfl rfl rfl ?_
                  refine gi_bipush (q := 109) (v := 6) C (dm_Mo_shape 57 rfl) rfl (by decide) ?_
                  refine gi_icmp_ne (q := 112) (tgt := 139) C (dm_Mo_shape 58 rfl) rfl (by decide) (fun c109 => ?_) (fun c109 => ?_)
                  · refine gi_iload_n (q := 140) (i := 2) C (dm_Mo_shape 72 rfl) rfl rfl rfl ?_
                    refine gi_bipush (q := 142) (v := 7) C (dm_Mo_shape 73 rfl) rfl (by decide) ?_
                    refine gi_icmp_lt (q := 145) (tgt := 169) C (dm_Mo_shape 74 rfl) rfl (by decide) (fun c142 => ?_) (fun c142 => ?_)
                    · exact absurd c142 (by decide)
                    · refine gi_iload_n (q := 146) (i := 2) C (dm_Mo_shape 75 rfl) rfl rfl rfl ?_
                      refine gi_bipush (q := 148) (v := 17) C (dm_Mo_shape 76 rfl) rfl (by decide) ?_
                      refine gi_icmp_gt (q := 151) (tgt := 169) C (dm_Mo_shape 77 rfl) rfl (by decide) (fun c148 => ?_) (fun c148 => ?_)
                      · refine gi_iload_n (q := 170) (i := 2) C (dm_Mo_shape 88 rfl) rfl rfl rfl ?_
                        refine gi_bipush (q := 172) (v := 18) C (dm_Mo_shape 89 rfl) rfl (by decide) ?_
                        refine gi_icmp_ne (q := 175) (tgt := 188) C (dm_Mo_shape 90 rfl) rfl (by decide) (fun c172 => ?_) (fun c172 => ?_)
                        · refine gi_iload_n (q := 189) (i := 2) C (dm_Mo_shape 98 rfl) rfl rfl rfl ?_
                          refine gi_bipush (q := 191) (v := 20) C (dm_Mo_shape 99 rfl) rfl (by decide) ?_
                          refine gi_icmp_lt (q := 194) (tgt := 213) C (dm_Mo_shape 100 rfl) rfl (by decide) (fun c191 => ?_) (fun c191 => ?_)
                          · exact absurd c191 (by decide)
                          · refine gi_iload_n (q := 195) (i := 2) C (dm_Mo_shape 101 rfl) rfl rfl rfl ?_
                            refine gi_bipush (q := 197) (v := 25) C (dm_Mo_shape 102 rfl) rfl (by decide) ?_
                            refine gi_icmp_gt (q := 200) (tgt := 213) C (dm_Mo_shape 103 rfl) rfl (by decide) (fun c197 => ?_) (fun c197 => ?_)
                            · exact absurd c197 (by decide)
                            · refine gi_aload_n (q := 201) (i := 0) C (dm_Mo_shape 104 rfl) rfl rfl rfl ?_
                              refine gi_iconst (q := 202) (v := 0) C (dm_Mo_shape 105 rfl) rfl (by decide) ?_
                              refine gi_callv 1 (q := 205) C (dm_Mo_shape 106 rfl) rfl my_Mo_takes lk_Mo_211 im_Mo_takes rfl (c_Mo_takes false hS H) Ha rfl rfl ⟨(Nat.le_of_ble_eq_true rfl), (Nat.le_of_ble_eq_true rfl)⟩ (Nat.le_of_ble_eq_true rfl) ⟨(Nat.le_of_ble_eq_true rfl), (Nat.le_of_ble_eq_true rfl)⟩ (fun r202 n202 h202 e202 => ?_)
                              obtain ⟨rfl, rfl, S202, H202, o202, r202, f202⟩ := e202
                              obtain ⟨fs202, Ha202, Hf202⟩ := id H202.1
                              refine gi_aload_n (q := 206) (i := 0) C (dm_Mo_shape 107 rfl) rfl rfl rfl ?_
                              refine gi_iconst (q := 207) (v := 0) C (dm_Mo_shape 108 rfl) rfl (by decide) ?_
                              refine gi_callv 1 (q := 210) C (dm_Mo_shape 109 rfl) rfl my_Mo_takes lk_Mo_211 im_Mo_takes rfl (c_Mo_takes false r202 H202) Ha202 rfl rfl ⟨(Nat.le_of_ble_eq_true rfl), (Nat.le_of_ble_eq_true rfl)⟩ (Nat.le_of_ble_eq_true rfl) ⟨(Nat.le_of_ble_eq_true rfl), (Nat.le_of_ble_eq_true rfl)⟩ (fun r207 n207 h207 e207 => ?_)
                              obtain ⟨rfl, rfl, S207, H207, o207, r207, f207⟩ := e207
                              obtain ⟨fs207, Ha207, Hf207⟩ := id H207.1
                              refine gi_goto (tgt := 436) C (dm_Mo_shape 110 rfl) (by decide) ?_
                              refine gi_vret C hr (dm_Mo_shape 230 rfl) ?_
                              refine ⟨rfl, rfl, ?_⟩
                              rw [show shX P m 20 a x = (tkX false (tkX false (x, false))) from rfl]
                              exact ⟨_, H207, (o202.tr o207), r207, (f202.tr f207)⟩
                        · exact absurd c172 (by decide)
                      · exact absurd c148 (by decide)
                  · exact absurd c109 (by decide)
                · exact absurd c82 (by decide)
              · exact absurd c69 (by decide)
            · exact absurd c56 (by decide)
          · exact absurd c38 (by decide)
        · exact absurd c20 (by decide)
      · exact absurd c7 (by decide)
  · subst e
    refine gi_iload_n (q := 1) (i := 2) C (dm_Mo_shape 0 rfl) rfl rfl rfl ?_
    refine gi_if_eq (q := 4) (tgt := 10) C (dm_Mo_shape 1 rfl) rfl (by decide) (fun c1 => ?_) (fun c1 => ?_)
    · exact absurd c1 (by decide)
    · refine gi_iload_n (q := 5) (i := 2) C (dm_Mo_shape 2 rfl) rfl rfl rfl ?_
      refine gi_bipush (q := 7) (v := 34) C (dm_Mo_shape 3 rfl) rfl (by decide) ?_
      refine gi_icmp_ne (q := 10) (tgt := 18) C (dm_Mo_shape 4 rfl) rfl (by decide) (fun c7 => ?_) (fun c7 => ?_)
      · refine gi_iload_n (q := 19) (i := 2) C (dm_Mo_shape 9 rfl) rfl rfl rfl ?_
        refine gi_iconst (q := 20) (v := 1) C (dm_Mo_shape 10 rfl) rfl (by decide) ?_
        refine gi_icmp_ne (q := 23) (tgt := 36) C (dm_Mo_shape 11 rfl) rfl (by decide) (fun c20 => ?_) (fun c20 => ?_)
        · refine gi_iload_n (q := 37) (i := 2) C (dm_Mo_shape 19 rfl) rfl rfl rfl ?_
          refine gi_iconst (q := 38) (v := 2) C (dm_Mo_shape 20 rfl) rfl (by decide) ?_
          refine gi_icmp_ne (q := 41) (tgt := 54) C (dm_Mo_shape 21 rfl) rfl (by decide) (fun c38 => ?_) (fun c38 => ?_)
          · refine gi_iload_n (q := 55) (i := 2) C (dm_Mo_shape 29 rfl) rfl rfl rfl ?_
            refine gi_iconst (q := 56) (v := 3) C (dm_Mo_shape 30 rfl) rfl (by decide) ?_
            refine gi_icmp_ne (q := 59) (tgt := 67) C (dm_Mo_shape 31 rfl) rfl (by decide) (fun c56 => ?_) (fun c56 => ?_)
            · refine gi_iload_n (q := 68) (i := 2) C (dm_Mo_shape 36 rfl) rfl rfl rfl ?_
              refine gi_iconst (q := 69) (v := 4) C (dm_Mo_shape 37 rfl) rfl (by decide) ?_
              refine gi_icmp_ne (q := 72) (tgt := 80) C (dm_Mo_shape 38 rfl) rfl (by decide) (fun c69 => ?_) (fun c69 => ?_)
              · refine gi_iload_n (q := 81) (i := 2) C (dm_Mo_shape 43 rfl) rfl rfl rfl ?_
                refine gi_iconst (q := 82) (v := 5) C (dm_Mo_shape 44 rfl) rfl (by decide) ?_
                refine gi_icmp_ne (q := 85) (tgt := 106) C (dm_Mo_shape 45 rfl) rfl (by decide) (fun c82 => ?_) (fun c82 => ?_)
                · refine gi_iload_n (q := 107) (i := 2) C (dm_Mo_shape 56 rfl) rfl rfl rfl ?_
                  refine gi_bipush (q := 109) (v := 6) C (dm_Mo_shape 57 rfl) rfl (by decide) ?_
                  refine gi_icmp_ne (q := 112) (tgt := 139) C (dm_Mo_shape 58 rfl) rfl (by decide) (fun c109 => ?_) (fun c109 => ?_)
                  · refine gi_iload_n (q := 140) (i := 2) C (dm_Mo_shape 72 rfl) rfl rfl rfl ?_
                    refine gi_bipush (q := 142) (v := 7) C (dm_Mo_shape 73 rfl) rfl (by decide) ?_
                    refine gi_icmp_lt (q := 145) (tgt := 169) C (dm_Mo_shape 74 rfl) rfl (by decide) (fun c142 => ?_) (fun c142 => ?_)
                    · exact absurd c142 (by decide)
                    · refine gi_iload_n (q := 146) (i := 2) C (dm_Mo_shape 75 rfl) rfl rfl rfl ?_
                      refine gi_bipush (q := 148) (v := 17) C (dm_Mo_shape 76 rfl) rfl (by decide) ?_
                      refine gi_icmp_gt (q := 151) (tgt := 169) C (dm_Mo_shape 77 rfl) rfl (by decide) (fun c148 => ?_) (fun c148 => ?_)
                      · refine gi_iload_n (q := 170) (i := 2) C (dm_Mo_shape 88 rfl) rfl rfl rfl ?_
                        refine gi_bipush (q := 172) (v := 18) C (dm_Mo_shape 89 rfl) rfl (by decide) ?_
                        refine gi_icmp_ne (q := 175) (tgt := 188) C (dm_Mo_shape 90 rfl) rfl (by decide) (fun c172 => ?_) (fun c172 => ?_)
                        · refine gi_iload_n (q := 189) (i := 2) C (dm_Mo_shape 98 rfl) rfl rfl rfl ?_
                          refine gi_bipush (q := 191) (v := 20) C (dm_Mo_shape 99 rfl) rfl (by decide) ?_
                          refine gi_icmp_lt (q := 194) (tgt := 213) C (dm_Mo_shape 100 rfl) rfl (by decide) (fun c191 => ?_) (fun c191 => ?_)
                          · exact absurd c191 (by decide)
                          · refine gi_iload_n (q := 195) (i := 2) C (dm_Mo_shape 101 rfl) rfl rfl rfl ?_
                            refine gi_bipush (q := 197) (v := 25) C (dm_Mo_shape 102 rfl) rfl (by decide) ?_
                            refine gi_icmp_gt (q := 200) (tgt := 213) C (dm_Mo_shape 103 rfl) rfl (by decide) (fun c197 => ?_) (fun c197 => ?_)
                            · exact absurd c197 (by decide)
                            · refine gi_aload_n (q := 201) (i := 0) C (dm_Mo_shape 104 rfl) rfl rfl rfl ?_
                              refine gi_iconst (q := 202) (v := 0) C (dm_Mo_shape 105 rfl) rfl (by decide) ?_
                              refine gi_callv 1 (q := 205) C (dm_Mo_shape 106 rfl) rfl my_Mo_takes lk_Mo_211 im_Mo_takes rfl (c_Mo_takes false hS H) Ha rfl rfl ⟨(Nat.le_of_ble_eq_true rfl), (Nat.le_of_ble_eq_true rfl)⟩ (Nat.le_of_ble_eq_true rfl) ⟨(Nat.le_of_ble_eq_true rfl), (Nat.le_of_ble_eq_true rfl)⟩ (fun r202 n202 h202 e202 => ?_)
                              obtain ⟨rfl, rfl, S202, H202, o202, r202, f202⟩ := e202
                              obtain ⟨fs202, Ha202, Hf202⟩ := id H202.1
                              refine gi_aload_n (q := 206) (i := 0) C (dm_Mo_shape 107 rfl) rfl rfl rfl ?_
                              refine gi_iconst (q := 207) (v := 0) C (dm_Mo_shape 108 rfl) rfl (by decide) ?_
                              refine gi_callv 1 (q := 210) C (dm_Mo_shape 109 rfl) rfl my_Mo_takes lk_Mo_211 im_Mo_takes rfl (c_Mo_takes false r202 H202) Ha202 rfl rfl ⟨(Nat.le_of_ble_eq_true rfl), (Nat.le_of_ble_eq_true rfl)⟩ (Nat.le_of_ble_eq_true rfl) ⟨(Nat.le_of_ble_eq_true rfl), (Nat.le_of_ble_eq_true rfl)⟩ (fun r207 n207 h207 e207 => ?_)
                              obtain ⟨rfl, rfl, S207, H207, o207, r207, f207⟩ := e207
                              obtain ⟨fs207, Ha207, Hf207⟩ := id H207.1
                              refine gi_goto (tgt := 436) C (dm_Mo_shape 110 rfl) (by decide) ?_
                              refine gi_vret C hr (dm_Mo_shape 230 rfl) ?_
                              refine ⟨rfl, rfl, ?_⟩
                              rw [show shX P m 21 a x = (tkX false (tkX false (x, false))) from rfl]
                              exact ⟨_, H207, (o202.tr o207), r207, (f202.tr f207)⟩
                        · exact absurd c172 (by decide)
                      · exact absurd c148 (by decide)
                  · exact absurd c109 (by decide)
                · exact absurd c82 (by decide)
              · exact absurd c69 (by decide)
            · exact absurd c56 (by decide)
          · exact absurd c38 (by decide)
        · exact absurd c20 (by decide)
      · exact absurd c7 (by decide)
  · subst e
    refine gi_iload_n (q := 1) (i := 2) C (dm_Mo_shape 0 rfl) rfl rfl rfl ?_
    refine gi_if_eq (q := 4) (tgt := 10) C (dm_Mo_shape 1 rfl) rfl (by decide) (fun c1 => ?_) (fun c1 => ?_)
    · exact absurd c1 (by decide)
    · refine gi_iload_n (q := 5) (i := 2) C (dm_Mo_shape 2 rfl) rfl rfl rfl ?_
      refine gi_bipush (q := 7) (v := 34) C (dm_Mo_shape 3 rfl) rfl (by decide) ?_
      refine gi_icmp_ne (q := 10) (tgt := 18) C (dm_Mo_shape 4 rfl) rfl (by decide) (fun c7 => ?_) (fun c7 => ?_)
      · refine gi_iload_n (q := 19) (i := 2) C (dm_Mo_shape 9 rfl) rfl rfl rfl ?_
        refine gi_iconst (q := 20) (v := 1) C (dm_Mo_shape 10 rfl) rfl (by decide) ?_
        refine gi_icmp_ne (q := 23) (tgt := 36) C (dm_Mo_shape 11 rfl) rfl (by decide) (fun c20 => ?_) (fun c20 => ?_)
        · refine gi_iload_n (q := 37) (i := 2) C (dm_Mo_shape 19 rfl) rfl rfl rfl ?_
          refine gi_iconst (q := 38) (v := 2) C (dm_Mo_shape 20 rfl) rfl (by decide) ?_
          refine gi_icmp_ne (q := 41) (tgt := 54) C (dm_Mo_shape 21 rfl) rfl (by decide) (fun c38 => ?_) (fun c38 => ?_)
          · refine gi_iload_n (q := 55) (i := 2) C (dm_Mo_shape 29 rfl) rfl rfl rfl ?_
            refine gi_iconst (q := 56) (v := 3) C (dm_Mo_shape 30 rfl) rfl (by decide) ?_
            refine gi_icmp_ne (q := 59) (tgt := 67) C (dm_Mo_shape 31 rfl) rfl (by decide) (fun c56 => ?_) (fun c56 => ?_)
            · refine gi_iload_n (q := 68) (i := 2) C (dm_Mo_shape 36 rfl) rfl rfl rfl ?_
              refine gi_iconst (q := 69) (v := 4) C (dm_Mo_shape 37 rfl) rfl (by decide) ?_
              refine gi_icmp_ne (q := 72) (tgt := 80) C (dm_Mo_shape 38 rfl) rfl (by decide) (fun c69 => ?_) (fun c69 => ?_)
              · refine gi_iload_n (q := 81) (i := 2) C (dm_Mo_shape 43 rfl) rfl rfl rfl ?_
                refine gi_iconst (q := 82) (v := 5) C (dm_Mo_shape 44 rfl) rfl (by decide) ?_
                refine gi_icmp_ne (q := 85) (tgt := 106) C (dm_Mo_shape 45 rfl) rfl (by decide) (fun c82 => ?_) (fun c82 => ?_)
                · refine gi_iload_n (q := 107) (i := 2) C (dm_Mo_shape 56 rfl) rfl rfl rfl ?_
                  refine gi_bipush (q := 109) (v := 6) C (dm_Mo_shape 57 rfl) rfl (by decide) ?_
                  refine gi_icmp_ne (q := 112) (tgt := 139) C (dm_Mo_shape 58 rfl) rfl (by decide) (fun c109 => ?_) (fun c109 => ?_)
                  · refine gi_iload_n (q := 140) (i := 2) C (dm_Mo_shape 72 rfl) rfl rfl rfl ?_
                    refine gi_bipush (q := 142) (v := 7) C (dm_Mo_shape 73 rfl) rfl (by decide) ?_
                    refine gi_icmp_lt (q := 145) (tgt := 169) C (dm_Mo_shape 74 rfl) rfl (by decide) (fun c142 => ?_) (fun c142 => ?_)
                    · exact absurd c142 (by decide)
                    · refine gi_iload_n (q := 146) (i := 2) C (dm_Mo_shape 75 rfl) rfl rfl rfl ?_
                      refine gi_bipush (q := 148) (v := 17) C (dm_Mo_shape 76 rfl) rfl (by decide) ?_
                      refine gi_icmp_gt (q := 151) (tgt := 169) C (dm_Mo_shape 77 rfl) rfl (by decide) (fun c148 => ?_) (fun c148 => ?_)
                      · refine gi_iload_n (q := 170) (i := 2) C (dm_Mo_shape 88 rfl) rfl rfl rfl ?_
                        refine gi_bipush (q := 172) (v := 18) C (dm_Mo_shape 89 rfl) rfl (by decide) ?_
                        refine gi_icmp_ne (q := 175) (tgt := 188) C (dm_Mo_shape 90 rfl) rfl (by decide) (fun c172 => ?_) (fun c172 => ?_)
                        · refine gi_iload_n (q := 189) (i := 2) C (dm_Mo_shape 98 rfl) rfl rfl rfl ?_
                          refine gi_bipush (q := 191) (v := 20) C (dm_Mo_shape 99 rfl) rfl (by decide) ?_
                          refine gi_icmp_lt (q := 194) (tgt := 213) C (dm_Mo_shape 100 rfl) rfl (by decide) (fun c191 => ?_) (fun c191 => ?_)
                          · exact absurd c191 (by decide)
                          · refine gi_iload_n (q := 195) (i := 2) C (dm_Mo_shape 101 rfl) rfl rfl rfl ?_
                            refine gi_bipush (q := 197) (v := 25) C (dm_Mo_shape 102 rfl) rfl (by decide) ?_
                            refine gi_icmp_gt (q := 200) (tgt := 213) C (dm_Mo_shape 103 rfl) rfl (by decide) (fun c197 => ?_) (fun c197 => ?_)
                            · exact absurd c197 (by decide)
                            · refine gi_aload_n (q := 201) (i := 0) C (dm_Mo_shape 104 rfl) rfl rfl rfl ?_
                              refine gi_iconst (q := 202) (v := 0) C (dm_Mo_shape 105 rfl) rfl (by decide) ?_
                              refine gi_callv 1 (q := 205) C (dm_Mo_shape 106 rfl) rfl my_Mo_takes lk_Mo_211 im_Mo_takes rfl (c_Mo_takes false hS H) Ha rfl rfl ⟨(Nat.le_of_ble_eq_true rfl), (Nat.le_of_ble_eq_true rfl)⟩ (Nat.le_of_ble_eq_true rfl) ⟨(Nat.le_of_ble_eq_true rfl), (Nat.le_of_ble_eq_true rfl)⟩ (fun r202 n202 h202 e202 => ?_)
                              obtain ⟨rfl, rfl, S202, H202, o202, r202, f202⟩ := e202
                              obtain ⟨fs202, Ha202, Hf202⟩ := id H202.1
                              refine gi_aload_n (q := 206) (i := 0) C (dm_Mo_shape 107 rfl) rfl rfl rfl ?_
                              refine gi_iconst (q := 207) (v := 0) C (dm_Mo_shape 108 rfl) rfl (by decide) ?_
                              refine gi_callv 1 (q := 210) C (dm_Mo_shape 109 rfl) rfl my_Mo_takes lk_Mo_211 im_Mo_takes rfl (c_Mo_takes false r202 H202) Ha202 rfl rfl ⟨(Nat.le_of_ble_eq_true rfl), (Nat.le_of_ble_eq_true rfl)⟩ (Nat.le_of_ble_eq_true rfl) ⟨(Nat.le_of_ble_eq_true rfl), (Nat.le_of_ble_eq_true rfl)⟩ (fun r207 n207 h207 e207 => ?_)
                              obtain ⟨rfl, rfl, S207, H207, o207, r207, f207⟩ := e207
                              obtain ⟨fs207, Ha207, Hf207⟩ := id H207.1
                              refine gi_goto (tgt := 436) C (dm_Mo_shape 110 rfl) (by decide) ?_
                              refine gi_vret C hr (dm_Mo_shape 230 rfl) ?_
                              refine ⟨rfl, rfl, ?_⟩
                              rw [show shX P m 22 a x = (tkX false (tkX false (x, false))) from rfl]
                              exact ⟨_, H207, (o202.tr o207), r207, (f202.tr f207)⟩
                        · exact absurd c172 (by decide)
                      · exact absurd c148 (by decide)
                  · exact absurd c109 (by decide)
                · exact absurd c82 (by decide)
              · exact absurd c69 (by decide)
            · exact absurd c56 (by decide)
          · exact absurd c38 (by decide)
        · exact absurd c20 (by decide)
      · exact absurd c7 (by decide)
  · subst e
    refine gi_iload_n (q := 1) (i := 2) C (dm_Mo_shape 0 rfl) rfl rfl rfl ?_
    refine gi_if_eq (q := 4) (tgt := 10) C (dm_Mo_shape 1 rfl) rfl (by decide) (fun c1 => ?_) (fun c1 => ?_)
    · exact absurd c1 (by decide)
    · refine gi_iload_n (q := 5) (i := 2) C (dm_Mo_shape 2 rfl) rfl rfl rfl ?_
      refine gi_bipush (q := 7) (v := 34) C (dm_Mo_shape 3 rfl) rfl (by decide) ?_
      refine gi_icmp_ne (q := 10) (tgt := 18) C (dm_Mo_shape 4 rfl) rfl (by decide) (fun c7 => ?_) (fun c7 => ?_)
      · refine gi_iload_n (q := 19) (i := 2) C (dm_Mo_shape 9 rfl) rfl rfl rfl ?_
        refine gi_iconst (q := 20) (v := 1) C (dm_Mo_shape 10 rfl) rfl (by decide) ?_
        refine gi_icmp_ne (q := 23) (tgt := 36) C (dm_Mo_shape 11 rfl) rfl (by decide) (fun c20 => ?_) (fun c20 => ?_)
        · refine gi_iload_n (q := 37) (i := 2) C (dm_Mo_shape 19 rfl) rfl rfl rfl ?_
          refine gi_iconst (q := 38) (v := 2) C (dm_Mo_shape 20 rfl) rfl (by decide) ?_
          refine gi_icmp_ne (q := 41) (tgt := 54) C (dm_Mo_shape 21 rfl) rfl (by decide) (fun c38 => ?_) (fun c38 => ?_)
          · refine gi_iload_n (q := 55) (i := 2) C (dm_Mo_shape 29 rfl) rfl rfl rfl ?_
            refine gi_iconst (q := 56) (v := 3) C (dm_Mo_shape 30 rfl) rfl (by decide) ?_
            refine gi_icmp_ne (q := 59) (tgt := 67) C (dm_Mo_shape 31 rfl) rfl (by decide) (fun c56 => ?_) (fun c56 => ?_)
            · refine gi_iload_n (q := 68) (i := 2) C (dm_Mo_shape 36 rfl) rfl rfl rfl ?_
              refine gi_iconst (q := 69) (v := 4) C (dm_Mo_shape 37 rfl) rfl (by decide) ?_
              refine gi_icmp_ne (q := 72) (tgt := 80) C (dm_Mo_shape 38 rfl) rfl (by decide) (fun c69 => ?_) (fun c69 => ?_)
              · refine gi_iload_n (q := 81) (i := 2) C (dm_Mo_shape 43 rfl) rfl rfl rfl ?_
                refine gi_iconst (q := 82) (v := 5) C (dm_Mo_shape 44 rfl) rfl (by decide) ?_
                refine gi_icmp_ne (q := 85) (tgt := 106) C (dm_Mo_shape 45 rfl) rfl (by decide) (fun c82 => ?_) (fun c82 => ?_)
                · refine gi_iload_n (q := 107) (i := 2) C (dm_Mo_shape 56 rfl) rfl rfl rfl ?_
                  refine gi_bipush (q := 109) (v := 6) C (dm_Mo_shape 57 rfl) rfl (by decide) ?_
                  refine gi_icmp_ne (q := 112) (tgt := 139) C (dm_Mo_shape 58 rfl) rfl (by decide) (fun c109 => ?_) (fun c109 => ?_)
                  · refine gi_iload_n (q := 140) (i := 2) C (dm_Mo_shape 72 rfl) rfl rfl rfl ?_
                    refine gi_bipush (q := 142) (v := 7) C (dm_Mo_shape 73 rfl) rfl (by decide) ?_
                    refine gi_icmp_lt (q := 145) (tgt := 169) C (dm_Mo_shape 74 rfl) rfl (by decide) (fun c142 => ?_) (fun c142 => ?_)
                    · exact absurd c142 (by decide)
                    · refine gi_iload_n (q := 146) (i := 2) C (dm_Mo_shape 75 rfl) rfl rfl rfl ?_
                      refine gi_bipush (q := 148) (v := 17) C (dm_Mo_shape 76 rfl) rfl (by decide) ?_
                      refine gi_icmp_gt (q := 151) (tgt := 169) C (dm_Mo_shape 77 rfl) rfl (by decide) (fun c148 => ?_) (fun c148 => ?_)
                      · refine gi_iload_n (q := 170) (i := 2) C (dm_Mo_shape 88 rfl) rfl rfl rfl ?_
                        refine gi_bipush (q := 172) (v := 18) C (dm_Mo_shape 89 rfl) rfl (by decide) ?_
                        refine gi_icmp_ne (q := 175) (tgt := 188) C (dm_Mo_shape 90 rfl) rfl (by decide) (fun c172 => ?_) (fun c172 => ?_)
                        · refine gi_iload_n (q := 189) (i := 2) C (dm_Mo_shape 98 rfl) rfl rfl rfl ?_
                          refine gi_bipush (q := 191) (v := 20) C (dm_Mo_shape 99 rfl) rfl (by decide) ?_
                          refine gi_icmp_lt (q := 194) (tgt := 213) C (dm_Mo_shape 100 rfl) rfl (by decide) (fun c191 => ?_) (fun c191 => ?_)
                          · exact absurd c191 (by decide)
                          · refine gi_iload_n (q := 195) (i := 2) C (dm_Mo_shape 101 rfl) rfl rfl rfl ?_
                            refine gi_bipush (q := 197) (v := 25) C (dm_Mo_shape 102 rfl) rfl (by decide) ?_
                            refine gi_icmp_gt (q := 200) (tgt := 213) C (dm_Mo_shape 103 rfl) rfl (by decide) (fun c197 => ?_) (fun c197 => ?_)
                            · exact absurd c197 (by decide)
                            · refine gi_aload_n (q := 201) (i := 0) C (dm_Mo_shape 104 rfl) rfl rfl rfl ?_
                              refine gi_iconst (q := 202) (v := 0) C (dm_Mo_shape 105 rfl) rfl (by decide) ?_
                              refine gi_callv 1 (q := 205) C (dm_Mo_shape 106 rfl) rfl my_Mo_takes lk_Mo_211 im_Mo_takes rfl (c_Mo_takes false hS H) Ha rfl rfl ⟨(Nat.le_of_ble_eq_true rfl), (Nat.le_of_ble_eq_true rfl)⟩ (Nat.le_of_ble_eq_true rfl) ⟨(Nat.le_of_ble_eq_true rfl), (Nat.le_of_ble_eq_true rfl)⟩ (fun r202 n202 h202 e202 => ?_)
                              obtain ⟨rfl, rfl, S202, H202, o202, r202, f202⟩ := e202
                              obtain ⟨fs202, Ha202, Hf202⟩ := id H202.1
                              refine gi_aload_n (q := 206) (i := 0) C (dm_Mo_shape 107 rfl) rfl rfl rfl ?_
                              refine gi_iconst (q := 207) (v := 0) C (dm_Mo_shape 108 rfl) rfl (by decide) ?_
                              refine gi_callv 1 (q := 210) C (dm_Mo_shape 109 rfl) rfl my_Mo_takes lk_Mo_211 im_Mo_takes rfl (c_Mo_takes false r202 H202) Ha202 rfl rfl ⟨(Nat.le_of_ble_eq_true rfl), (Nat.le_of_ble_eq_true rfl)⟩ (Nat.le_of_ble_eq_true rfl) ⟨(Nat.le_of_ble_eq_true rfl), (Nat.le_of_ble_eq_true rfl)⟩ (fun r207 n207 h207 e207 => ?_)
                              obtain ⟨rfl, rfl, S207, H207, o207, r207, f207⟩ := e207
                              obtain ⟨fs207, Ha207, Hf207⟩ := id H207.1
                              refine gi_goto (tgt := 436) C (dm_Mo_shape 110 rfl) (by decide) ?_
                              refine gi_vret C hr (dm_Mo_shape 230 rfl) ?_
                              refine ⟨rfl, rfl, ?_⟩
                              rw [show shX P m 23 a x = (tkX false (tkX false (x, false))) from rfl]
                              exact ⟨_, H207, (o202.tr o207), r207, (f202.tr f207)⟩
                        · exact absurd c172 (by decide)
                      · exact absurd c148 (by decide)
                  · exact absurd c109 (by decide)
                · exact absurd c82 (by decide)
              · exact absurd c69 (by decide)
            · exact absurd c56 (by decide)
          · exact absurd c38 (by decide)
        · exact absurd c20 (by decide)
      · exact absurd c7 (by decide)
  · subst e
    refine gi_iload_n (q := 1) (i := 2) C (dm_Mo_shape 0 rfl) rfl rfl rfl ?_
    refine gi_if_eq (q := 4) (tgt := 10) C (dm_Mo_shape 1 rfl) rfl (by decide) (fun c1 => ?_) (fun c1 => ?_)
    · exact absurd c1 (by decide)
    · refine gi_iload_n (q := 5) (i := 2) C (dm_Mo_shape 2 rfl) rfl rfl rfl ?_
      refine gi_bipush (q := 7) (v := 34) C (dm_Mo_shape 3 rfl) rfl (by decide) ?_
      refine gi_icmp_ne (q := 10) (tgt := 18) C (dm_Mo_shape 4 rfl) rfl (by decide) (fun c7 => ?_) (fun c7 => ?_)
      · refine gi_iload_n (q := 19) (i := 2) C (dm_Mo_shape 9 rfl) rfl rfl rfl ?_
        refine gi_iconst (q := 20) (v := 1) C (dm_Mo_shape 10 rfl) rfl (by decide) ?_
        refine gi_icmp_ne (q := 23) (tgt := 36) C (dm_Mo_shape 11 rfl) rfl (by decide) (fun c20 => ?_) (fun c20 => ?_)
        · refine gi_iload_n (q := 37) (i := 2) C (dm_Mo_shape 19 rfl) rfl rfl rfl ?_
          refine gi_iconst (q := 38) (v := 2) C (dm_Mo_shape 20 rfl) rfl (by decide) ?_
          refine gi_icmp_ne (q := 41) (tgt := 54) C (dm_Mo_shape 21 rfl) rfl (by decide) (fun c38 => ?_) (fun c38 => ?_)
          · refine gi_iload_n (q := 55) (i := 2) C (dm_Mo_shape 29 rfl) rfl rfl rfl ?_
            refine gi_iconst (q := 56) (v := 3) C (dm_Mo_shape 30 rfl) rfl (by decide) ?_
            refine gi_icmp_ne (q := 59) (tgt := 67) C (dm_Mo_shape 31 rfl) rfl (by decide) (fun c56 => ?_) (fun c56 => ?_)
            · refine gi_iload_n (q := 68) (i := 2) C (dm_Mo_shape 36 rfl) rfl rfl rfl ?_
              refine gi_iconst (q := 69) (v := 4) C (dm_Mo_shape 37 rfl) rfl (by decide) ?_
              refine gi_icmp_ne (q := 72) (tgt := 80) C (dm_Mo_shape 38 rfl) rfl (by decide) (fun c69 => ?_) (fun c69 => ?_)
              · refine gi_iload_n (q := 81) (i := 2) C (dm_Mo_shape 43 rfl) rfl rfl rfl ?_
                refine gi_iconst (q := 82) (v := 5) C (dm_Mo_shape 44 rfl) rfl (by decide) ?_
                refine gi_icmp_ne (q := 85) (tgt := 106) C (dm_Mo_shape 45 rfl) rfl (by decide) (fun c82 => ?_) (fun c82 => ?_)
                · refine gi_iload_n (q := 107) (i := 2) C (dm_Mo_shape 56 rfl) rfl rfl rfl ?_
                  refine gi_bipush (q := 109) (v := 6) C (dm_Mo_shape 57 rfl) rfl (by decide) ?_
                  refine gi_icmp_ne (q := 112) (tgt := 139) C (dm_Mo_shape 58 rfl) rfl (by decide) (fun c109 => ?_) (fun c109 => ?_)
                  · refine gi_iload_n (q := 140) (i := 2) C (dm_Mo_shape 72 rfl) rfl rfl rfl ?_
                    refine gi_bipush (q := 142) (v := 7) C (dm_Mo_shape 73 rfl) rfl (by decide) ?_
                    refine gi_icmp_lt (q := 145) (tgt := 169) C (dm_Mo_shape 74 rfl) rfl (by decide) (fun c142 => ?_) (fun c142 => ?_)
                    · exact absurd c142 (by decide)
                    · refine gi_iload_n (q := 146) (i := 2) C (dm_Mo_shape 75 rfl) rfl rfl rfl ?_
                      refine gi_bipush (q := 148) (v := 17) C (dm_Mo_shape 76 rfl) rfl (by decide) ?_
                      refine gi_icmp_gt (q := 151) (tgt := 169) C (dm_Mo_shape 77 rfl) rfl (by decide) (fun c148 => ?_) (fun c148 => ?_)
                      · refine gi_iload_n (q := 170) (i := 2) C (dm_Mo_shape 88 rfl) rfl rfl rfl ?_
                        refine gi_bipush (q := 172) (v := 18) C (dm_Mo_shape 89 rfl) rfl (by decide) ?_
                        refine gi_icmp_ne (q := 175) (tgt := 188) C (dm_Mo_shape 90 rfl) rfl (by decide) (fun c172 => ?_) (fun c172 => ?_)
                        · refine gi_iload_n (q := 189) (i := 2) C (dm_Mo_shape 98 rfl) rfl rfl rfl ?_
                          refine gi_bipush (q := 191) (v := 20) C (dm_Mo_shape 99 rfl) rfl (by decide) ?_
                          refine gi_icmp_lt (q := 194) (tgt := 213) C (dm_Mo_shape 100 rfl) rfl (by decide) (fun c191 => ?_) (fun c191 => ?_)
                          · exact absurd c191 (by decide)
                          · refine gi_iload_n (q := 195) (i := 2) C (dm_Mo_shape 101 rfl) rfl rfl rfl ?_
                            refine gi_bipush (q := 197) (v := 25) C (dm_Mo_shape 102 rfl) rfl (by decide) ?_
                            refine gi_icmp_gt (q := 200) (tgt := 213) C (dm_Mo_shape 103 rfl) rfl (by decide) (fun c197 => ?_) (fun c197 => ?_)
                            · exact absurd c197 (by decide)
                            · refine gi_aload_n (q := 201) (i := 0) C (dm_Mo_shape 104 rfl) rfl rfl rfl ?_
                              refine gi_iconst (q := 202) (v := 0) C (dm_Mo_shape 105 rfl) rfl (by decide) ?_
                              refine gi_callv 1 (q := 205) C (dm_Mo_shape 106 rfl) rfl my_Mo_takes lk_Mo_211 im_Mo_takes rfl (c_Mo_takes false hS H) Ha rfl rfl ⟨(Nat.le_of_ble_eq_true rfl), (Nat.le_of_ble_eq_true rfl)⟩ (Nat.le_of_ble_eq_true rfl) ⟨(Nat.le_of_ble_eq_true rfl), (Nat.le_of_ble_eq_true rfl)⟩ (fun r202 n202 h202 e202 => ?_)
                              obtain ⟨rfl, rfl, S202, H202, o202, r202, f202⟩ := e202
                              obtain ⟨fs202, Ha202, Hf202⟩ := id H202.1
                              refine gi_aload_n (q := 206) (i := 0) C (dm_Mo_shape 107 rfl) rfl rfl rfl ?_
                              refine gi_iconst (q := 207) (v := 0) C (dm_Mo_shape 108 rfl) rfl (by decide) ?_
                              refine gi_callv 1 (q := 210) C (dm_Mo_shape 109 rfl) rfl my_Mo_takes lk_Mo_211 im_Mo_takes rfl (c_Mo_takes false r202 H202) Ha202 rfl rfl ⟨(Nat.le_of_ble_eq_true rfl), (Nat.le_of_ble_eq_true rfl)⟩ (Nat.le_of_ble_eq_true rfl) ⟨(Nat.le_of_ble_eq_true rfl), (Nat.le_of_ble_eq_true rfl)⟩ (fun r207 n207 h207 e207 => ?_)
                              obtain ⟨rfl, rfl, S207, H207, o207, r207, f207⟩ := e207
                              obtain ⟨fs207, Ha207, Hf207⟩ := id H207.1
                              refine gi_goto (tgt := 436) C (dm_Mo_shape 110 rfl) (by decide) ?_
                              refine gi_vret C hr (dm_Mo_shape 230 rfl) ?_
                              refine ⟨rfl, rfl, ?_⟩
                              rw [show shX P m 24 a x = (tkX false (tkX false (x, false))) from rfl]
                              exact ⟨_, H207, (o202.tr o207), r207, (f202.tr f207)⟩
                        · exact absurd c172 (by decide)
                      · exact absurd c148 (by decide)
                  · exact absurd c109 (by decide)
                · exact absurd c82 (by decide)
              · exact absurd c69 (by decide)
            · exact absurd c56 (by decide)
          · exact absurd c38 (by decide)
        · exact absurd c20 (by decide)
      · exact absurd c7 (by decide)
  · subst e
    refine gi_iload_n (q := 1) (i := 2) C (dm_Mo_shape 0 rfl) rfl rfl rfl ?_
    refine gi_if_eq (q := 4) (tgt := 10) C (dm_Mo_shape 1 rfl) rfl (by decide) (fun c1 => ?_) (fun c1 => ?_)
    · exact absurd c1 (by decide)
    · refine gi_iload_n (q := 5) (i := 2) C (dm_Mo_shape 2 rfl) rfl rfl rfl ?_
      refine gi_bipush (q := 7) (v := 34) C (dm_Mo_shape 3 rfl) rfl (by decide) ?_
      refine gi_icmp_ne (q := 10) (tgt := 18) C (dm_Mo_shape 4 rfl) rfl (by decide) (fun c7 => ?_) (fun c7 => ?_)
      · refine gi_iload_n (q := 19) (i := 2) C (dm_Mo_shape 9 rfl) rfl rfl rfl ?_
        refine gi_iconst (q := 20) (v := 1) C (dm_Mo_shape 10 rfl) rfl (by decide) ?_
        refine gi_icmp_ne (q := 23) (tgt := 36) C (dm_Mo_shape 11 rfl) rfl (by decide) (fun c20 => ?_) (fun c20 => ?_)
        · refine gi_iload_n (q := 37) (i := 2) C (dm_Mo_shape 19 rfl) rfl rfl rfl ?_
          refine gi_iconst (q := 38) (v := 2) C (dm_Mo_shape 20 rfl) rfl (by decide) ?_
          refine gi_icmp_ne (q := 41) (tgt := 54) C (dm_Mo_shape 21 rfl) rfl (by decide) (fun c38 => ?_) (fun c38 => ?_)
          · refine gi_iload_n (q := 55) (i := 2) C (dm_Mo_shape 29 rfl) rfl rfl rfl ?_
            refine gi_iconst (q := 56) (v := 3) C (dm_Mo_shape 30 rfl) rfl (by decide) ?_
            refine gi_icmp_ne (q := 59) (tgt := 67) C (dm_Mo_shape 31 rfl) rfl (by decide) (fun c56 => ?_) (fun c56 => ?_)
            · refine gi_iload_n (q := 68) (i := 2) C (dm_Mo_shape 36 rfl) rfl rfl rfl ?_
              refine gi_iconst (q := 69) (v := 4) C (dm_Mo_shape 37 rfl) rfl (by decide) ?_
              refine gi_icmp_ne (q := 72) (tgt := 80) C (dm_Mo_shape 38 rfl) rfl (by decide) (fun c69 => ?_) (fun c69 => ?_)
              · refine gi_iload_n (q := 81) (i := 2) C (dm_Mo_shape 43 rfl) rfl rfl rfl ?_
                refine gi_iconst (q := 82) (v := 5) C (dm_Mo_shape 44 rfl) rfl (by decide) ?_
                refine gi_icmp_ne (q := 85) (tgt := 106) C (dm_Mo_shape 45 rfl) rfl (by decide) (fun c82 => ?_) (fun c82 => ?_)
                · refine gi_iload_n (q := 107) (i := 2) C (dm_Mo_shape 56 rfl) rfl rfl rfl ?_
                  refine gi_bipush (q := 109) (v := 6) C (dm_Mo_shape 57 rfl) rfl (by decide) ?_
                  refine gi_icmp_ne (q := 112) (tgt := 139) C (dm_Mo_shape 58 rfl) rfl (by decide) (fun c109 => ?_) (fun c109 => ?_)
                  · refine gi_iload_n (q := 140) (i := 2) C (dm_Mo_shape 72 rfl) rfl rfl rfl ?_
                    refine gi_bipush (q := 142) (v := 7) C (dm_Mo_shape 73 rfl) rfl (by decide) ?_
                    refine gi_icmp_lt (q := 145) (tgt := 169) C (dm_Mo_shape 74 rfl) rfl (by decide) (fun c142 => ?_) (fun c142 => ?_)
                    · exact absurd c142 (by decide)
                    · refine gi_iload_n (q := 146) (i := 2) C (dm_Mo_shape 75 rfl) rfl rfl rfl ?_
                      refine gi_bipush (q := 148) (v := 17) C (dm_Mo_shape 76 rfl) rfl (by decide) ?_
                      refine gi_icmp_gt (q := 151) (tgt := 169) C (dm_Mo_shape 77 rfl) rfl (by decide) (fun c148 => ?_) (fun c148 => ?_)
                      · refine gi_iload_n (q := 170) (i := 2) C (dm_Mo_shape 88 rfl) rfl rfl rfl ?_
                        refine gi_bipush (q := 172) (v := 18) C (dm_Mo_shape 89 rfl) rfl (by decide) ?_
                        refine gi_icmp_ne (q := 175) (tgt := 188) C (dm_Mo_shape 90 rfl) rfl (by decide) (fun c172 => ?_) (fun c172 => ?_)
                        · refine gi_iload_n (q := 189) (i := 2) C (dm_Mo_shape 98 rfl) rfl rfl rfl ?_
                          refine gi_bipush (q := 191) (v := 20) C (dm_Mo_shape 99 rfl) rfl (by decide) ?_
                          refine gi_icmp_lt (q := 194) (tgt := 213) C (dm_Mo_shape 100 rfl) rfl (by decide) (fun c191 => ?_) (fun c191 => ?_)
                          · exact absurd c191 (by decide)
                          · refine gi_iload_n (q := 195) (i := 2) C (dm_Mo_shape 101 rfl) rfl rfl rfl ?_
                            refine gi_bipush (q := 197) (v := 25) C (dm_Mo_shape 102 rfl) rfl (by decide) ?_
                            refine gi_icmp_gt (q := 200) (tgt := 213) C (dm_Mo_shape 103 rfl) rfl (by decide) (fun c197 => ?_) (fun c197 => ?_)
                            · exact absurd c197 (by decide)
                            · refine gi_aload_n (q := 201) (i := 0) C (dm_Mo_shape 104 rfl) rfl rfl rfl ?_
                              refine gi_iconst (q := 202) (v := 0) C (dm_Mo_shape 105 rfl) rfl (by decide) ?_
                              refine gi_callv 1 (q := 205) C (dm_Mo_shape 106 rfl) rfl my_Mo_takes lk_Mo_211 im_Mo_takes rfl (c_Mo_takes false hS H) Ha rfl rfl ⟨(Nat.le_of_ble_eq_true rfl), (Nat.le_of_ble_eq_true rfl)⟩ (Nat.le_of_ble_eq_true rfl) ⟨(Nat.le_of_ble_eq_true rfl), (Nat.le_of_ble_eq_true rfl)⟩ (fun r202 n202 h202 e202 => ?_)
                              obtain ⟨rfl, rfl, S202, H202, o202, r202, f202⟩ := e202
                              obtain ⟨fs202, Ha202, Hf202⟩ := id H202.1
                              refine gi_aload_n (q := 206) (i := 0) C (dm_Mo_shape 107 rfl) rfl rfl rfl ?_
                              refine gi_iconst (q := 207) (v := 0) C (dm_Mo_shape 108 rfl) rfl (by decide) ?_
                              refine gi_callv 1 (q := 210) C (dm_Mo_shape 109 rfl) rfl my_Mo_takes lk_Mo_211 im_Mo_takes rfl (c_Mo_takes false r202 H202) Ha202 rfl rfl ⟨(Nat.le_of_ble_eq_true rfl), (Nat.le_of_ble_eq_true rfl)⟩ (Nat.le_of_ble_eq_true rfl) ⟨(Nat.le_of_ble_eq_true rfl), (Nat.le_of_ble_eq_true rfl)⟩ (fun r207 n207 h207 e207 => ?_)
                              obtain ⟨rfl, rfl, S207, H207, o207, r207, f207⟩ := e207
                              obtain ⟨fs207, Ha207, Hf207⟩ := id H207.1
                              refine gi_goto (tgt := 436) C (dm_Mo_shape 110 rfl) (by decide) ?_
                              refine gi_vret C hr (dm_Mo_shape 230 rfl) ?_
                              refine ⟨rfl, rfl, ?_⟩
                              rw [show shX P m 25 a x = (tkX false (tkX false (x, false))) from rfl]
                              exact ⟨_, H207, (o202.tr o207), r207, (f202.tr f207)⟩
                        · exact absurd c172 (by decide)
                      · exact absurd c148 (by decide)
                  · exact absurd c109 (by decide)
                · exact absurd c82 (by decide)
              · exact absurd c69 (by decide)
            · exact absurd c56 (by decide)
          · exact absurd c38 (by decide)
        · exact absurd c20 (by decide)
      · exact absurd c7 (by decide)
  · subst e
    refine gi_iload_n (q := 1) (i := 2) C (dm_Mo_shape 0 rfl) rfl rfl rfl ?_
    refine gi_if_eq (q := 4) (tgt := 10) C (dm_Mo_shape 1 rfl) rfl (by decide) (fun c1 => ?_) (fun c1 => ?_)
    · exact absurd c1 (by decide)
    · refine gi_iload_n (q := 5) (i := 2) C (dm_Mo_shape 2 rfl) rfl rfl rfl ?_
      refine gi_bipush (q := 7) (v := 34) C (dm_Mo_shape 3 rfl) rfl (by decide) ?_
      refine gi_icmp_ne (q := 10) (tgt := 18) C (dm_Mo_shape 4 rfl) rfl (by decide) (fun c7 => ?_) (fun c7 => ?_)
      · refine gi_iload_n (q := 19) (i := 2) C (dm_Mo_shape 9 rfl) rfl rfl rfl ?_
        refine gi_iconst (q := 20) (v := 1) C (dm_Mo_shape 10 rfl) rfl (by decide) ?_
        refine gi_icmp_ne (q := 23) (tgt := 36) C (dm_Mo_shape 11 rfl) rfl (by decide) (fun c20 => ?_) (fun c20 => ?_)
        · refine gi_iload_n (q := 37) (i := 2) C (dm_Mo_shape 19 rfl) rfl rfl rfl ?_
          refine gi_iconst (q := 38) (v := 2) C (dm_Mo_shape 20 rfl) rfl (by decide) ?_
          refine gi_icmp_ne (q := 41) (tgt := 54) C (dm_Mo_shape 21 rfl) rfl (by decide) (fun c38 => ?_) (fun c38 => ?_)
          · refine gi_iload_n (q := 55) (i := 2) C (dm_Mo_shape 29 rfl) rfl rfl rfl ?_
            refine gi_iconst (q := 56) (v := 3) C (dm_Mo_shape 30 rfl) rfl (by decide) ?_
            refine gi_icmp_ne (q := 59) (tgt := 67) C (dm_Mo_shape 31 rfl) rfl (by decide) (fun c56 => ?_) (fun c56 => ?_)
            · refine gi_iload_n (q := 68) (i := 2) C (dm_Mo_shape 36 rfl) rfl rfl rfl ?_
              refine gi_iconst (q := 69) (v := 4) C (dm_Mo_shape 37 rfl) rfl (by decide) ?_
              refine gi_icmp_ne (q := 72) (tgt := 80) C (dm_Mo_shape 38 rfl) rfl (by decide) (fun c69 => ?_) (fun c69 => ?_)
              · refine gi_iload_n (q := 81) (i := 2) C (dm_Mo_shape 43 rfl) rfl rfl rfl ?_
                refine gi_iconst (q := 82) (v := 5) C (dm_Mo_shape 44 rfl) rfl (by decide) ?_
                refine gi_icmp_ne (q := 85) (tgt := 106) C (dm_Mo_shape 45 rfl) rfl (by decide) (fun c82 => ?_) (fun c82 => ?_)
                · refine gi_iload_n (q := 107) (i := 2) C (dm_Mo_shape 56 rfl) rfl rfl rfl ?_
                  refine gi_bipush (q := 109) (v := 6) C (dm_Mo_shape 57 rfl) rfl (by decide) ?_
                  refine gi_icmp_ne (q := 112) (tgt := 139) C (dm_Mo_shape 58 rfl) rfl (by decide) (fun c109 => ?_) (fun c109 => ?_)
                  · refine gi_iload_n (q := 140) (i := 2) C (dm_Mo_shape 72 rfl) rfl rfl rfl ?_
                    refine gi_bipush (q := 142) (v := 7) C (dm_Mo_shape 73 rfl) rfl (by decide) ?_
                    refine gi_icmp_lt (q := 145) (tgt := 169) C (dm_Mo_shape 74 rfl) rfl (by decide) (fun c142 => ?_) (fun c142 => ?_)
                    · exact absurd c142 (by decide)
                    · refine gi_iload_n (q := 146) (i := 2) C (dm_Mo_shape 75 rfl) rfl rfl rfl ?_
                      refine gi_bipush (q := 148) (v := 17) C (dm_Mo_shape 76 rfl) rfl (by decide) ?_
                      refine gi_icmp_gt (q := 151) (tgt := 169) C (dm_Mo_shape 77 rfl) rfl (by decide) (fun c148 => ?_) (fun c148 => ?_)
                      · refine gi_iload_n (q := 170) (i := 2) C (dm_Mo_shape 88 rfl) rfl rfl rfl ?_
                        refine gi_bipush (q := 172) (v := 18) C (dm_Mo_shape 89 rfl) rfl (by decide) ?_
                        refine gi_icmp_ne (q := 175) (tgt := 188) C (dm_Mo_shape 90 rfl) rfl (by decide) (fun c172 => ?_) (fun c172 => ?_)
                        · refine gi_iload_n (q := 189) (i := 2) C (dm_Mo_shape 98 rfl) rfl rfl rfl ?_
                          refine gi_bipush (q := 191) (v := 20) C (dm_Mo_shape 99 rfl) rfl (by decide) ?_
                          refine gi_icmp_lt (q := 194) (tgt := 213) C (dm_Mo_shape 100 rfl) rfl (by decide) (fun c191 => ?_) (fun c191 => ?_)
                          · exact absurd c191 (by decide)
                          · refine gi_iload_n (q := 195) (i := 2) C (dm_Mo_shape 101 rfl) rfl rfl rfl ?_
                            refine gi_bipush (q := 197) (v := 25) C (dm_Mo_shape 102 rfl) rfl (by decide) ?_
                            refine gi_icmp_gt (q := 200) (tgt := 213) C (dm_Mo_shape 103 rfl) rfl (by decide) (fun c197 => ?_) (fun c197 => ?_)
                            · refine gi_iload_n (q := 214) (i := 2) C (dm_Mo_shape 111 rfl) rfl rfl rfl ?_
                              refine gi_bipush (q := 216) (v := 26) C (dm_Mo_shape 112 rfl) rfl (by decide) ?_
                              refine gi_icmp_eq (q := 219) (tgt := 225) C (dm_Mo_shape 113 rfl) rfl (by decide) (fun c216 => ?_) (fun c216 => ?_)
                              · refine gi_aload_n (q := 226) (i := 0) C (dm_Mo_shape 117 rfl) rfl rfl rfl ?_
                                refine gi_iconst (q := 227) (v := 1) C (dm_Mo_shape 118 rfl) rfl (by decide) ?_
                                refine gi_callv 1 (q := 230) C (dm_Mo_shape 119 rfl) rfl my_Mo_takes lk_Mo_211 im_Mo_takes rfl (c_Mo_takes true hS H) Ha rfl rfl ⟨(Nat.le_of_ble_eq_true rfl), (Nat.le_of_ble_eq_true rfl)⟩ (Nat.le_of_ble_eq_true rfl) ⟨(Nat.le_of_ble_eq_true rfl), (Nat.le_of_ble_eq_true rfl)⟩ (fun r227 n227 h227 e227 => ?_)
                                obtain ⟨rfl, rfl, S227, H227, o227, r227, f227⟩ := e227
                                obtain ⟨fs227, Ha227, Hf227⟩ := id H227.1
                                refine gi_goto (tgt := 436) C (dm_Mo_shape 120 rfl) (by decide) ?_
                                refine gi_vret C hr (dm_Mo_shape 230 rfl) ?_
                                refine ⟨rfl, rfl, ?_⟩
                                rw [show shX P m 26 a x = (tkX true (x, false)) from rfl]
                                exact ⟨_, H227, o227, r227, f227⟩
                              · exact absurd c216 (by decide)
                            · exact absurd c197 (by decide)
                        · exact absurd c172 (by decide)
                      · exact absurd c148 (by decide)
                  · exact absurd c109 (by decide)
                · exact absurd c82 (by decide)
              · exact absurd c69 (by decide)
            · exact absurd c56 (by decide)
          · exact absurd c38 (by decide)
        · exact absurd c20 (by decide)
      · exact absurd c7 (by decide)
  · subst e
    refine gi_iload_n (q := 1) (i := 2) C (dm_Mo_shape 0 rfl) rfl rfl rfl ?_
    refine gi_if_eq (q := 4) (tgt := 10) C (dm_Mo_shape 1 rfl) rfl (by decide) (fun c1 => ?_) (fun c1 => ?_)
    · exact absurd c1 (by decide)
    · refine gi_iload_n (q := 5) (i := 2) C (dm_Mo_shape 2 rfl) rfl rfl rfl ?_
      refine gi_bipush (q := 7) (v := 34) C (dm_Mo_shape 3 rfl) rfl (by decide) ?_
      refine gi_icmp_ne (q := 10) (tgt := 18) C (dm_Mo_shape 4 rfl) rfl (by decide) (fun c7 => ?_) (fun c7 => ?_)
      · refine gi_iload_n (q := 19) (i := 2) C (dm_Mo_shape 9 rfl) rfl rfl rfl ?_
        refine gi_iconst (q := 20) (v := 1) C (dm_Mo_shape 10 rfl) rfl (by decide) ?_
        refine gi_icmp_ne (q := 23) (tgt := 36) C (dm_Mo_shape 11 rfl) rfl (by decide) (fun c20 => ?_) (fun c20 => ?_)
        · refine gi_iload_n (q := 37) (i := 2) C (dm_Mo_shape 19 rfl) rfl rfl rfl ?_
          refine gi_iconst (q := 38) (v := 2) C (dm_Mo_shape 20 rfl) rfl (by decide) ?_
          refine gi_icmp_ne (q := 41) (tgt := 54) C (dm_Mo_shape 21 rfl) rfl (by decide) (fun c38 => ?_) (fun c38 => ?_)
          · refine gi_iload_n (q := 55) (i := 2) C (dm_Mo_shape 29 rfl) rfl rfl rfl ?_
            refine gi_iconst (q := 56) (v := 3) C (dm_Mo_shape 30 rfl) rfl (by decide) ?_
            refine gi_icmp_ne (q := 59) (tgt := 67) C (dm_Mo_shape 31 rfl) rfl (by decide) (fun c56 => ?_) (fun c56 => ?_)
            · refine gi_iload_n (q := 68) (i := 2) C (dm_Mo_shape 36 rfl) rfl rfl rfl ?_
              refine gi_iconst (q := 69) (v := 4) C (dm_Mo_shape 37 rfl) rfl (by decide) ?_
              refine gi_icmp_ne (q := 72) (tgt := 80) C (dm_Mo_shape 38 rfl) rfl (by decide) (fun c69 => ?_) (fun c69 => ?_)
              · refine gi_iload_n (q := 81) (i := 2) C (dm_Mo_shape 43 rfl) rfl rfl rfl ?_
                refine gi_iconst (q := 82) (v := 5) C (dm_Mo_shape 44 rfl) rfl (by decide) ?_
                refine gi_icmp_ne (q := 85) (tgt := 106) C (dm_Mo_shape 45 rfl) rfl (by decide) (fun c82 => ?_) (fun c82 => ?_)
                · refine gi_iload_n (q := 107) (i := 2) C (dm_Mo_shape 56 rfl) rfl rfl rfl ?_
                  refine gi_bipush (q := 109) (v := 6) C (dm_Mo_shape 57 rfl) rfl (by decide) ?_
                  refine gi_icmp_ne (q := 112) (tgt := 139) C (dm_Mo_shape 58 rfl) rfl (by decide) (fun c109 => ?_) (fun c109 => ?_)
                  · refine gi_iload_n (q := 140) (i := 2) C (dm_Mo_shape 72 rfl) rfl rfl rfl ?_
                    refine gi_bipush (q := 142) (v := 7) C (dm_Mo_shape 73 rfl) rfl (by decide) ?_
                    refine gi_icmp_lt (q := 145) (tgt := 169) C (dm_Mo_shape 74 rfl) rfl (by decide) (fun c142 => ?_) (fun c142 => ?_)
                    · exact absurd c142 (by decide)
                    · refine gi_iload_n (q := 146) (i := 2) C (dm_Mo_shape 75 rfl) rfl rfl rfl ?_
                      refine gi_bipush (q := 148) (v := 17) C (dm_Mo_shape 76 rfl) rfl (by decide) ?_
                      refine gi_icmp_gt (q := 151) (tgt := 169) C (dm_Mo_shape 77 rfl) rfl (by decide) (fun c148 => ?_) (fun c148 => ?_)
                      · refine gi_iload_n (q := 170) (i := 2) C (dm_Mo_shape 88 rfl) rfl rfl rfl ?_
                        refine gi_bipush (q := 172) (v := 18) C (dm_Mo_shape 89 rfl) rfl (by decide) ?_
                        refine gi_icmp_ne (q := 175) (tgt := 188) C (dm_Mo_shape 90 rfl) rfl (by decide) (fun c172 => ?_) (fun c172 => ?_)
                        · refine gi_iload_n (q := 189) (i := 2) C (dm_Mo_shape 98 rfl) rfl rfl rfl ?_
                          refine gi_bipush (q := 191) (v := 20) C (dm_Mo_shape 99 rfl) rfl (by decide) ?_
                          refine gi_icmp_lt (q := 194) (tgt := 213) C (dm_Mo_shape 100 rfl) rfl (by decide) (fun c191 => ?_) (fun c191 => ?_)
                          · exact absurd c191 (by decide)
                          · refine gi_iload_n (q := 195) (i := 2) C (dm_Mo_shape 101 rfl) rfl rfl rfl ?_
                            refine gi_bipush (q := 197) (v := 25) C (dm_Mo_shape 102 rfl) rfl (by decide) ?_
                            refine gi_icmp_gt (q := 200) (tgt := 213) C (dm_Mo_shape 103 rfl) rfl (by decide) (fun c197 => ?_) (fun c197 => ?_)
                            · refine gi_iload_n (q := 214) (i := 2) C (dm_Mo_shape 111 rfl) rfl rfl rfl ?_
                              refine gi_bipush (q := 216) (v := 26) C (dm_Mo_shape 112 rfl) rfl (by decide) ?_
                              refine gi_icmp_eq (q := 219) (tgt := 225) C (dm_Mo_shape 113 rfl) rfl (by decide) (fun c216 => ?_) (fun c216 => ?_)
                              · exact absurd c216 (by decide)
                              · refine gi_iload_n (q := 220) (i := 2) C (dm_Mo_shape 114 rfl) rfl rfl rfl ?_
                                refine gi_bipush (q := 222) (v := 27) C (dm_Mo_shape 115 rfl) rfl (by decide) ?_
                                refine gi_icmp_ne (q := 225) (tgt := 233) C (dm_Mo_shape 116 rfl) rfl (by decide) (fun c222 => ?_) (fun c222 => ?_)
                                · exact absurd c222 (by decide)
                                · refine gi_aload_n (q := 226) (i := 0) C (dm_Mo_shape 117 rfl) rfl rfl rfl ?_
                                  refine gi_iconst (q := 227) (v := 1) C (dm_Mo_shape 118 rfl) rfl (by decide) ?_
                                  refine gi_callv 1 (q := 230) C (dm_Mo_shape 119 rfl) rfl my_Mo_takes lk_Mo_211 im_Mo_takes rfl (c_Mo_takes true hS H) Ha rfl rfl ⟨(Nat.le_of_ble_eq_true rfl), (Nat.le_of_ble_eq_true rfl)⟩ (Nat.le_of_ble_eq_true rfl) ⟨(Nat.le_of_ble_eq_true rfl), (Nat.le_of_ble_eq_true rfl)⟩ (fun r227 n227 h227 e227 => ?_)
                                  obtain ⟨rfl, rfl, S227, H227, o227, r227, f227⟩ := e227
                                  obtain ⟨fs227, Ha227, Hf227⟩ := id H227.1
                                  refine gi_goto (tgt := 436) C (dm_Mo_shape 120 rfl) (by decide) ?_
                                  refine gi_vret C hr (dm_Mo_shape 230 rfl) ?_
                                  refine ⟨rfl, rfl, ?_⟩
                                  rw [show shX P m 27 a x = (tkX true (x, false)) from rfl]
                                  exact ⟨_, H227, o227, r227, f227⟩
                            · exact absurd c197 (by decide)
                        · exact absurd c172 (by decide)
                      · exact absurd c148 (by decide)
                  · exact absurd c109 (by decide)
                · exact absurd c82 (by decide)
              · exact absurd c69 (by decide)
            · exact absurd c56 (by decide)
          · exact absurd c38 (by decide)
        · exact absurd c20 (by decide)
      · exact absurd c7 (by decide)
  · subst e
    refine gi_iload_n (q := 1) (i := 2) C (dm_Mo_shape 0 rfl) rfl rfl rfl ?_
    refine gi_if_eq (q := 4) (tgt := 10) C (dm_Mo_shape 1 rfl) rfl (by decide) (fun c1 => ?_) (fun c1 => ?_)
    · exact absurd c1 (by decide)
    · refine gi_iload_n (q := 5) (i := 2) C (dm_Mo_shape 2 rfl) rfl rfl rfl ?_
      refine gi_bipush (q := 7) (v := 34) C (dm_Mo_shape 3 rfl) rfl (by decide) ?_
      refine gi_icmp_ne (q := 10) (tgt := 18) C (dm_Mo_shape 4 rfl) rfl (by decide) (fun c7 => ?_) (fun c7 => ?_)
      · refine gi_iload_n (q := 19) (i := 2) C (dm_Mo_shape 9 rfl) rfl rfl rfl ?_
        refine gi_iconst (q := 20) (v := 1) C (dm_Mo_shape 10 rfl) rfl (by decide) ?_
        refine gi_icmp_ne (q := 23) (tgt := 36) C (dm_Mo_shape 11 rfl) rfl (by decide) (fun c20 => ?_) (fun c20 => ?_)
        · refine gi_iload_n (q := 37) (i := 2) C (dm_Mo_shape 19 rfl) rfl rfl rfl ?_
          refine gi_iconst (q := 38) (v := 2) C (dm_Mo_shape 20 rfl) rfl (by decide) ?_
          refine gi_icmp_ne (q := 41) (tgt := 54) C (dm_Mo_shape 21 rfl) rfl (by decide) (fun c38 => ?_) (fun c38 => ?_)
          · refine gi_iload_n (q := 55) (i := 2) C (dm_Mo_shape 29 rfl) rfl rfl rfl ?_
            refine gi_iconst (q := 56) (v := 3) C (dm_Mo_shape 30 rfl) rfl (by decide) ?_
            refine gi_icmp_ne (q := 59) (tgt := 67) C (dm_Mo_shape 31 rfl) rfl (by decide) (fun c56 => ?_) (fun c56 => ?_)
            · refine gi_iload_n (q := 68) (i := 2) C (dm_Mo_shape 36 rfl) rfl rfl rfl ?_
              refine gi_iconst (q := 69) (v := 4) C (dm_Mo_shape 37 rfl) rfl (by decide) ?_
              refine gi_icmp_ne (q := 72) (tgt := 80) C (dm_Mo_shape 38 rfl) rfl (by decide) (fun c69 => ?_) (fun c69 => ?_)
              · refine gi_iload_n (q := 81) (i := 2) C (dm_Mo_shape 43 rfl) rfl rfl rfl ?_
                refine gi_iconst (q := 82) (v := 5) C (dm_Mo_shape 44 rfl) rfl (by decide) ?_
                refine gi_icmp_ne (q := 85) (tgt := 106) C (dm_Mo_shape 45 rfl) rfl (by decide) (fun c82 => ?_) (fun c82 => ?_)
                · refine gi_iload_n (q := 107) (i := 2) C (dm_Mo_shape 56 rfl) rfl rfl rfl ?_
                  refine gi_bipush (q := 109) (v := 6) C (dm_Mo_shape 57 rfl) rfl (by decide) ?_
                  refine gi_icmp_ne (q := 112) (tgt := 139) C (dm_Mo_shape 58 rfl) rfl (by decide) (fun c109 => ?_) (fun c109 => ?_)
                  · refine gi_iload_n (q := 140) (i := 2) C (dm_Mo_shape 72 rfl) rfl rfl rfl ?_
                    refine gi_bipush (q := 142) (v := 7) C (dm_Mo_shape 73 rfl) rfl (by decide) ?_
                    refine gi_icmp_lt (q := 145) (tgt := 169) C (dm_Mo_shape 74 rfl) rfl (by decide) (fun c142 => ?_) (fun c142 => ?_)
                    · exact absurd c142 (by decide)
                    · refine gi_iload_n (q := 146) (i := 2) C (dm_Mo_shape 75 rfl) rfl rfl rfl ?_
                      refine gi_bipush (q := 148) (v := 17) C (dm_Mo_shape 76 rfl) rfl (by decide) ?_
                      refine gi_icmp_gt (q := 151) (tgt := 169) C (dm_Mo_shape 77 rfl) rfl (by decide) (fun c148 => ?_) (fun c148 => ?_)
                      · refine gi_iload_n (q := 170) (i := 2) C (dm_Mo_shape 88 rfl) rfl rfl rfl ?_
                        refine gi_bipush (q := 172) (v := 18) C (dm_Mo_shape 89 rfl) rfl (by decide) ?_
                        refine gi_icmp_ne (q := 175) (tgt := 188) C (dm_Mo_shape 90 rfl) rfl (by decide) (fun c172 => ?_) (fun c172 => ?_)
                        · refine gi_iload_n (q := 189) (i := 2) C (dm_Mo_shape 98 rfl) rfl rfl rfl ?_
                          refine gi_bipush (q := 191) (v := 20) C (dm_Mo_shape 99 rfl) rfl (by decide) ?_
                          refine gi_icmp_lt (q := 194) (tgt := 213) C (dm_Mo_shape 100 rfl) rfl (by decide) (fun c191 => ?_) (fun c191 => ?_)
                          · exact absurd c191 (by decide)
                          · refine gi_iload_n (q := 195) (i := 2) C (dm_Mo_shape 101 rfl) rfl rfl rfl ?_
                            refine gi_bipush (q := 197) (v := 25) C (dm_Mo_shape 102 rfl) rfl (by decide) ?_
                            refine gi_icmp_gt (q := 200) (tgt := 213) C (dm_Mo_shape 103 rfl) rfl (by decide) (fun c197 => ?_) (fun c197 => ?_)
                            · refine gi_iload_n (q := 214) (i := 2) C (dm_Mo_shape 111 rfl) rfl rfl rfl ?_
                              refine gi_bipush (q := 216) (v := 26) C (dm_Mo_shape 112 rfl) rfl (by decide) ?_
                              refine gi_icmp_eq (q := 219) (tgt := 225) C (dm_Mo_shape 113 rfl) rfl (by decide) (fun c216 => ?_) (fun c216 => ?_)
                              · exact absurd c216 (by decide)
                              · refine gi_iload_n (q := 220) (i := 2) C (dm_Mo_shape 114 rfl) rfl rfl rfl ?_
                                refine gi_bipush (q := 222) (v := 27) C (dm_Mo_shape 115 rfl) rfl (by decide) ?_
                                refine gi_icmp_ne (q := 225) (tgt := 233) C (dm_Mo_shape 116 rfl) rfl (by decide) (fun c222 => ?_) (fun c222 => ?_)
                                · refine gi_iload_n (q := 234) (i := 2) C (dm_Mo_shape 121 rfl) rfl rfl rfl ?_
                                  refine gi_bipush (q := 236) (v := 28) C (dm_Mo_shape 122 rfl) rfl (by decide) ?_
                                  refine gi_icmp_ne (q := 239) (tgt := 252) C (dm_Mo_shape 123 rfl) rfl (by decide) (fun c236 => ?_) (fun c236 => ?_)
                                  · exact absurd c236 (by decide)
                                  · refine gi_aload_n (q := 240) (i := 0) C (dm_Mo_shape 124 rfl) rfl rfl rfl ?_
                                    refine gi_iconst (q := 241) (v := 0) C (dm_Mo_shape 125 rfl) rfl (by decide) ?_
                                    refine gi_callv 1 (q := 244) C (dm_Mo_shape 126 rfl) rfl my_Mo_takes lk_Mo_211 im_Mo_takes rfl (c_Mo_takes false hS H) Ha rfl rfl ⟨(Nat.le_of_ble_eq_true rfl), (Nat.le_of_ble_eq_true rfl)⟩ (Nat.le_of_ble_eq_true rfl) ⟨(Nat.le_of_ble_eq_true rfl), (Nat.le_of_ble_eq_true rfl)⟩ (fun r241 n241 h241 e241 => ?_)
                                    obtain ⟨rfl, rfl, S241, H241, o241, r241, f241⟩ := e241
                                    obtain ⟨fs241, Ha241, Hf241⟩ := id H241.1
                                    refine gi_aload_n (q := 245) (i := 0) C (dm_Mo_shape 127 rfl) rfl rfl rfl ?_
                                    refine gi_iconst (q := 246) (v := 1) C (dm_Mo_shape 128 rfl) rfl (by decide) ?_
                                    refine gi_callv 1 (q := 249) C (dm_Mo_shape 129 rfl) rfl my_Mo_puts lk_Mo_203 im_Mo_puts rfl (c_Mo_puts true r241 (by exact (Nat.le_trans tkX_b (show x.1 ≤ 11 by omega))) H241) Ha241 rfl rfl ⟨(Nat.le_of_ble_eq_true rfl), (Nat.le_of_ble_eq_true rfl)⟩ (Nat.le_of_ble_eq_true rfl) ⟨(Nat.le_of_ble_eq_true rfl), (Nat.le_of_ble_eq_true rfl)⟩ (fun r246 n246 h246 e246 => ?_)
                                    obtain ⟨rfl, rfl, S246, H246, o246, r246, f246⟩ := e246
                                    obtain ⟨fs246, Ha246, Hf246⟩ := id H246.1
                                    refine gi_goto (tgt := 436) C (dm_Mo_shape 130 rfl) (by decide) ?_
                                    refine gi_vret C hr (dm_Mo_shape 230 rfl) ?_
                                    refine ⟨rfl, rfl, ?_⟩
                                    rw [show shX P m 28 a x = (ptX true (tkX false (x, false))) from rfl]
                                    exact ⟨_, H246, (o241.tr o246), r246, (f241.tr f246)⟩
                                · exact absurd c222 (by decide)
                            · exact absurd c197 (by decide)
                        · exact absurd c172 (by decide)
                      · exact absurd c148 (by decide)
                  · exact absurd c109 (by decide)
                · exact absurd c82 (by decide)
              · exact absurd c69 (by decide)
            · exact absurd c56 (by decide)
          · exact absurd c38 (by decide)
        · exact absurd c20 (by decide)
      · exact absurd c7 (by decide)
  · subst e
    refine gi_iload_n (q := 1) (i := 2) C (dm_Mo_shape 0 rfl) rfl rfl rfl ?_
    refine gi_if_eq (q := 4) (tgt := 10) C (dm_Mo_shape 1 rfl) rfl (by decide) (fun c1 => ?_) (fun c1 => ?_)
    · exact absurd c1 (by decide)
    · refine gi_iload_n (q := 5) (i := 2) C (dm_Mo_shape 2 rfl) rfl rfl rfl ?_
      refine gi_bipush (q := 7) (v := 34) C (dm_Mo_shape 3 rfl) rfl (by decide) ?_
      refine gi_icmp_ne (q := 10) (tgt := 18) C (dm_Mo_shape 4 rfl) rfl (by decide) (fun c7 => ?_) (fun c7 => ?_)
      · refine gi_iload_n (q := 19) (i := 2) C (dm_Mo_shape 9 rfl) rfl rfl rfl ?_
        refine gi_iconst (q := 20) (v := 1) C (dm_Mo_shape 10 rfl) rfl (by decide) ?_
        refine gi_icmp_ne (q := 23) (tgt := 36) C (dm_Mo_shape 11 rfl) rfl (by decide) (fun c20 => ?_) (fun c20 => ?_)
        · refine gi_iload_n (q := 37) (i := 2) C (dm_Mo_shape 19 rfl) rfl rfl rfl ?_
          refine gi_iconst (q := 38) (v := 2) C (dm_Mo_shape 20 rfl) rfl (by decide) ?_
          refine gi_icmp_ne (q := 41) (tgt := 54) C (dm_Mo_shape 21 rfl) rfl (by decide) (fun c38 => ?_) (fun c38 => ?_)
          · refine gi_iload_n (q := 55) (i := 2) C (dm_Mo_shape 29 rfl) rfl rfl rfl ?_
            refine gi_iconst (q := 56) (v := 3) C (dm_Mo_shape 30 rfl) rfl (by decide) ?_
            refine gi_icmp_ne (q := 59) (tgt := 67) C (dm_Mo_shape 31 rfl) rfl (by decide) (fun c56 => ?_) (fun c56 => ?_)
            · refine gi_iload_n (q := 68) (i := 2) C (dm_Mo_shape 36 rfl) rfl rfl rfl ?_
              refine gi_iconst (q := 69) (v := 4) C (dm_Mo_shape 37 rfl) rfl (by decide) ?_
              refine gi_icmp_ne (q := 72) (tgt := 80) C (dm_Mo_shape 38 rfl) rfl (by decide) (fun c69 => ?_) (fun c69 => ?_)
              · refine gi_iload_n (q := 81) (i := 2) C (dm_Mo_shape 43 rfl) rfl rfl rfl ?_
                refine gi_iconst (q := 82) (v := 5) C (dm_Mo_shape 44 rfl) rfl (by decide) ?_
                refine gi_icmp_ne (q := 85) (tgt := 106) C (dm_Mo_shape 45 rfl) rfl (by decide) (fun c82 => ?_) (fun c82 => ?_)
                · refine gi_iload_n (q := 107) (i := 2) C (dm_Mo_shape 56 rfl) rfl rfl rfl ?_
                  refine gi_bipush (q := 109) (v := 6) C (dm_Mo_shape 57 rfl) rfl (by decide) ?_
                  refine gi_icmp_ne (q := 112) (tgt := 139) C (dm_Mo_shape 58 rfl) rfl (by decide) (fun c109 => ?_) (fun c109 => ?_)
                  · refine gi_iload_n (q := 140) (i := 2) C (dm_Mo_shape 72 rfl) rfl rfl rfl ?_
                    refine gi_bipush (q := 142) (v := 7) C (dm_Mo_shape 73 rfl) rfl (by decide) ?_
                    refine gi_icmp_lt (q := 145) (tgt := 169) C (dm_Mo_shape 74 rfl) rfl (by decide) (fun c142 => ?_) (fun c142 => ?_)
                    · exact absurd c142 (by decide)
                    · refine gi_iload_n (q := 146) (i := 2) C (dm_Mo_shape 75 rfl) rfl rfl rfl ?_
                      refine gi_bipush (q := 148) (v := 17) C (dm_Mo_shape 76 rfl) rfl (by decide) ?_
                      refine gi_icmp_gt (q := 151) (tgt := 169) C (dm_Mo_shape 77 rfl) rfl (by decide) (fun c148 => ?_) (fun c148 => ?_)
                      · refine gi_iload_n (q := 170) (i := 2) C (dm_Mo_shape 88 rfl) rfl rfl rfl ?_
                        refine gi_bipush (q := 172) (v := 18) C (dm_Mo_shape 89 rfl) rfl (by decide) ?_
                        refine gi_icmp_ne (q := 175) (tgt := 188) C (dm_Mo_shape 90 rfl) rfl (by decide) (fun c172 => ?_) (fun c172 => ?_)
                        · refine gi_iload_n (q := 189) (i := 2) C (dm_Mo_shape 98 rfl) rfl rfl rfl ?_
                          refine gi_bipush (q := 191) (v := 20) C (dm_Mo_shape 99 rfl) rfl (by decide) ?_
                          refine gi_icmp_lt (q := 194) (tgt := 213) C (dm_Mo_shape 100 rfl) rfl (by decide) (fun c191 => ?_) (fun c191 => ?_)
                          · exact absurd c191 (by decide)
                          · refine gi_iload_n (q := 195) (i := 2) C (dm_Mo_shape 101 rfl) rfl rfl rfl ?_
                            refine gi_bipush (q := 197) (v := 25) C (dm_Mo_shape 102 rfl) rfl (by decide) ?_
                            refine gi_icmp_gt (q := 200) (tgt := 213) C (dm_Mo_shape 103 rfl) rfl (by decide) (fun c197 => ?_) (fun c197 => ?_)
                            · refine gi_iload_n (q := 214) (i := 2) C (dm_Mo_shape 111 rfl) rfl rfl rfl ?_
                              refine gi_bipush (q := 216) (v := 26) C (dm_Mo_shape 112 rfl) rfl (by decide) ?_
                              refine gi_icmp_eq (q := 219) (tgt := 225) C (dm_Mo_shape 113 rfl) rfl (by decide) (fun c216 => ?_) (fun c216 => ?_)
                              · exact absurd c216 (by decide)
                              · refine gi_iload_n (q := 220) (i := 2) C (dm_Mo_shape 114 rfl) rfl rfl rfl ?_
                                refine gi_bipush (q := 222) (v := 27) C (dm_Mo_shape 115 rfl) rfl (by decide) ?_
                                refine gi_icmp_ne (q := 225) (tgt := 233) C (dm_Mo_shape 116 rfl) rfl (by decide) (fun c222 => ?_) (fun c222 => ?_)
                                · refine gi_iload_n (q := 234) (i := 2) C (dm_Mo_shape 121 rfl) rfl rfl rfl ?_
                                  refine gi_bipush (q := 236) (v := 28) C (dm_Mo_shape 122 rfl) rfl (by decide) ?_
                                  refine gi_icmp_ne (q := 239) (tgt := 252) C (dm_Mo_shape 123 rfl) rfl (by decide) (fun c236 => ?_) (fun c236 => ?_)
                                  · refine gi_iload_n (q := 253) (i := 2) C (dm_Mo_shape 131 rfl) rfl rfl rfl ?_
                                    refine gi_bipush (q := 255) (v := 29) C (dm_Mo_shape 132 rfl) rfl (by decide) ?_
                                    refine gi_icmp_ne (q := 258) (tgt := 271) C (dm_Mo_shape 133 rfl) rfl (by decide) (fun c255 => ?_) (fun c255 => ?_)
                                    · exact absurd c255 (by decide)
                                    · refine gi_aload_n (q := 259) (i := 0) C (dm_Mo_shape 134 rfl) rfl rfl rfl ?_
                                      refine gi_iconst (q := 260) (v := 1) C (dm_Mo_shape 135 rfl) rfl (by decide) ?_
                                      refine gi_callv 1 (q := 263) C (dm_Mo_shape 136 rfl) rfl my_Mo_takes lk_Mo_211 im_Mo_takes rfl (c_Mo_takes true hS H) Ha rfl rfl ⟨(Nat.le_of_ble_eq_true rfl), (Nat.le_of_ble_eq_true rfl)⟩ (Nat.le_of_ble_eq_true rfl) ⟨(Nat.le_of_ble_eq_true rfl), (Nat.le_of_ble_eq_true rfl)⟩ (fun r260 n260 h260 e260 => ?_)
                                      obtain ⟨rfl, rfl, S260, H260, o260, r260, f260⟩ := e260
                                      obtain ⟨fs260, Ha260, Hf260⟩ := id H260.1
                                      refine gi_aload_n (q := 264) (i := 0) C (dm_Mo_shape 137 rfl) rfl rfl rfl ?_
                                      refine gi_iconst (q := 265) (v := 0) C (dm_Mo_shape 138 rfl) rfl (by decide) ?_
                                      refine gi_callv 1 (q := 268) C (dm_Mo_shape 139 rfl) rfl my_Mo_puts lk_Mo_203 im_Mo_puts rfl (c_Mo_puts false r260 (by exact (Nat.le_trans tkX_b (show x.1 ≤ 11 by omega))) H260) Ha260 rfl rfl ⟨(Nat.le_of_ble_eq_true rfl), (Nat.le_of_ble_eq_true rfl)⟩ (Nat.le_of_ble_eq_true rfl) ⟨(Nat.le_of_ble_eq_true rfl), (Nat.le_of_ble_eq_true rfl)⟩ (fun r265 n265 h265 e265 => ?_)
                                      obtain ⟨rfl, rfl, S265, H265, o265, r265, f265⟩ := e265
                                      obtain ⟨fs265, Ha265, Hf265⟩ := id H265.1
                                      refine gi_goto (tgt := 436) C (dm_Mo_shape 140 rfl) (by decide) ?_
                                      refine gi_vret C hr (dm_Mo_shape 230 rfl) ?_
                                      refine ⟨rfl, rfl, ?_⟩
                                      rw [show shX P m 29 a x = (ptX false (tkX true (x, false))) from rfl]
                                      exact ⟨_, H265, (o260.tr o265), r265, (f260.tr f265)⟩
                                  · exact absurd c236 (by decide)
                                · exact absurd c222 (by decide)
                            · exact absurd c197 (by decide)
                        · exact absurd c172 (by decide)
                      · exact absurd c148 (by decide)
                  · exact absurd c109 (by decide)
                · exact absurd c82 (by decide)
              · exact absurd c69 (by decide)
            · exact absurd c56 (by decide)
          · exact absurd c38 (by decide)
        · exact absurd c20 (by decide)
      · exact absurd c7 (by decide)
  · subst e
    refine gi_iload_n (q := 1) (i := 2) C (dm_Mo_shape 0 rfl) rfl rfl rfl ?_
    refine gi_if_eq (q := 4) (tgt := 10) C (dm_Mo_shape 1 rfl) rfl (by decide) (fun c1 => ?_) (fun c1 => ?_)
    · exact absurd c1 (by decide)
    · refine gi_iload_n (q := 5) (i := 2) C (dm_Mo_shape 2 rfl) rfl rfl rfl ?_
      refine gi_bipush (q := 7) (v := 34) C (dm_Mo_shape 3 rfl) rfl (by decide) ?_
      refine gi_icmp_ne (q := 10) (tgt := 18) C (dm_Mo_shape 4 rfl) rfl (by decide) (fun c7 => ?_) (fun c7 => ?_)
      · refine gi_iload_n (q := 19) (i := 2) C (dm_Mo_shape 9 rfl) rfl rfl rfl ?_
        refine gi_iconst (q := 20) (v := 1) C (dm_Mo_shape 10 rfl) rfl (by decide) ?_
        refine gi_icmp_ne (q := 23) (tgt := 36) C (dm_Mo_shape 11 rfl) rfl (by decide) (fun c20 => ?_) (fun c20 => ?_)
        · refine gi_iload_n (q := 37) (i := 2) C (dm_Mo_shape 19 rfl) rfl rfl rfl ?_
          refine gi_iconst (q := 38) (v := 2) C (dm_Mo_shape 20 rfl) rfl (by decide) ?_
          refine gi_icmp_ne (q := 41) (tgt := 54) C (dm_Mo_shape 21 rfl) rfl (by decide) (fun c38 => ?_) (fun c38 => ?_)
          · refine gi_iload_n (q := 55) (i := 2) C (dm_Mo_shape 29 rfl) rfl rfl rfl ?_
            refine gi_iconst (q := 56) (v := 3) C (dm_Mo_shape 30 rfl) rfl (by decide) ?_
            refine gi_icmp_ne (q := 59) (tgt := 67) C (dm_Mo_shape 31 rfl) rfl (by decide) (fun c56 => ?_) (fun c56 => ?_)
            · refine gi_iload_n (q := 68) (i := 2) C (dm_Mo_shape 36 rfl) rfl rfl rfl ?_
              refine gi_iconst (q := 69) (v := 4) C (dm_Mo_shape 37 rfl) rfl (by decide) ?_
              refine gi_icmp_ne (q := 72) (tgt := 80) C (dm_Mo_shape 38 rfl) rfl (by decide) (fun c69 => ?_) (fun c69 => ?_)
              · refine gi_iload_n (q := 81) (i := 2) C (dm_Mo_shape 43 rfl) rfl rfl rfl ?_
                refine gi_iconst (q := 82) (v := 5) C (dm_Mo_shape 44 rfl) rfl (by decide) ?_
                refine gi_icmp_ne (q := 85) (tgt := 106) C (dm_Mo_shape 45 rfl) rfl (by decide) (fun c82 => ?_) (fun c82 => ?_)
                · refine gi_iload_n (q := 107) (i := 2) C (dm_Mo_shape 56 rfl) rfl rfl rfl ?_
                  refine gi_bipush (q := 109) (v := 6) C (dm_Mo_shape 57 rfl) rfl (by decide) ?_
                  refine gi_icmp_ne (q := 112) (tgt := 139) C (dm_Mo_shape 58 rfl) rfl (by decide) (fun c109 => ?_) (fun c109 => ?_)
                  · refine gi_iload_n (q := 140) (i := 2) C (dm_Mo_shape 72 rfl) rfl rfl rfl ?_
                    refine gi_bipush (q := 142) (v := 7) C (dm_Mo_shape 73 rfl) rfl (by decide) ?_
                    refine gi_icmp_lt (q := 145) (tgt := 169) C (dm_Mo_shape 74 rfl) rfl (by decide) (fun c142 => ?_) (fun c142 => ?_)
                    · exact absurd c142 (by decide)
                    · refine gi_iload_n (q := 146) (i := 2) C (dm_Mo_shape 75 rfl) rfl rfl rfl ?_
                      refine gi_bipush (q := 148) (v := 17) C (dm_Mo_shape 76 rfl) rfl (by decide) ?_
                      refine gi_icmp_gt (q := 151) (tgt := 169) C (dm_Mo_shape 77 rfl) rfl (by decide) (fun c148 => ?_) (fun c148 => ?_)
                      · refine gi_iload_n (q := 170) (i := 2) C (dm_Mo_shape 88 rfl) rfl rfl rfl ?_
                        refine gi_bipush (q := 172) (v := 18) C (dm_Mo_shape 89 rfl) rfl (by decide) ?_
                        refine gi_icmp_ne (q := 175) (tgt := 188) C (dm_Mo_shape 90 rfl) rfl (by decide) (fun c172 => ?_) (fun c172 => ?_)
                        · refine gi_iload_n (q := 189) (i := 2) C (dm_Mo_shape 98 rfl) rfl rfl rfl ?_
                          refine gi_bipush (q := 191) (v := 20) C (dm_Mo_shape 99 rfl) rfl (by decide) ?_
                          refine gi_icmp_lt (q := 194) (tgt := 213) C (dm_Mo_shape 100 rfl) rfl (by decide) (fun c191 => ?_) (fun c191 => ?_)
                          · exact absurd c191 (by decide)
                          · refine gi_iload_n (q := 195) (i := 2) C (dm_Mo_shape 101 rfl) rfl rfl rfl ?_
                            refine gi_bipush (q := 197) (v := 25) C (dm_Mo_shape 102 rfl) rfl (by decide) ?_
                            refine gi_icmp_gt (q := 200) (tgt := 213) C (dm_Mo_shape 103 rfl) rfl (by decide) (fun c197 => ?_) (fun c197 => ?_)
                            · refine gi_iload_n (q := 214) (i := 2) C (dm_Mo_shape 111 rfl) rfl rfl rfl ?_
                              refine gi_bipush (q := 216) (v := 26) C (dm_Mo_shape 112 rfl) rfl (by decide) ?_
                              refine gi_icmp_eq (q := 219) (tgt := 225) C (dm_Mo_shape 113 rfl) rfl (by decide) (fun c216 => ?_) (fun c216 => ?_)
                              · exact absurd c216 (by decide)
                              · refine gi_iload_n (q := 220) (i := 2) C (dm_Mo_shape 114 rfl) rfl rfl rfl ?_
                                refine gi_bipush (q := 222) (v := 27) C (dm_Mo_shape 115 rfl) rfl (by decide) ?_
                                refine gi_icmp_ne (q := 225) (tgt := 233) C (dm_Mo_shape 116 rfl) rfl (by decide) (fun c222 => ?_) (fun c222 => ?_)
                                · refine gi_iload_n (q := 234) (i := 2) C (dm_Mo_shape 121 rfl) rfl rfl rfl ?_
                                  refine gi_bipush (q := 236) (v := 28) C (dm_Mo_shape 122 rfl) rfl (by decide) ?_
                                  refine gi_icmp_ne (q := 239) (tgt := 252) C (dm_Mo_shape 123 rfl) rfl (by decide) (fun c236 => ?_) (fun c236 => ?_)
                                  · refine gi_iload_n (q := 253) (i := 2) C (dm_Mo_shape 131 rfl) rfl rfl rfl ?_
                                    refine gi_bipush (q := 255) (v := 29) C (dm_Mo_shape 132 rfl) rfl (by decide) ?_
                                    refine gi_icmp_ne (q := 258) (tgt := 271) C (dm_Mo_shape 133 rfl) rfl (by decide) (fun c255 => ?_) (fun c255 => ?_)
                                    · refine gi_iload_n (q := 272) (i := 2) C (dm_Mo_shape 141 rfl) rfl rfl rfl ?_
                                      refine gi_bipush (q := 274) (v := 30) C (dm_Mo_shape 142 rfl) rfl (by decide) ?_
                                      refine gi_icmp_ne (q := 277) (tgt := 295) C (dm_Mo_shape 143 rfl) rfl (by decide) (fun c274 => ?_) (fun c274 => ?_)
                                      · exact absurd c274 (by decide)
                                      · refine gi_aload_n (q := 278) (i := 0) C (dm_Mo_shape 144 rfl) rfl rfl rfl ?_
                                        refine gi_iconst (q := 279) (v := 0) C (dm_Mo_shape 145 rfl) rfl (by decide) ?_
                                        refine gi_callv 1 (q := 282) C (dm_Mo_shape 146 rfl) rfl my_Mo_takes lk_Mo_211 im_Mo_takes rfl (c_Mo_takes false hS H) Ha rfl rfl ⟨(Nat.le_of_ble_eq_true rfl), (Nat.le_of_ble_eq_true rfl)⟩ (Nat.le_of_ble_eq_true rfl) ⟨(Nat.le_of_ble_eq_true rfl), (Nat.le_of_ble_eq_true rfl)⟩ (fun r279 n279 h279 e279 => ?_)
                                        obtain ⟨rfl, rfl, S279, H279, o279, r279, f279⟩ := e279
                                        obtain ⟨fs279, Ha279, Hf279⟩ := id H279.1
                                        refine gi_aload_n (q := 283) (i := 0) C (dm_Mo_shape 147 rfl) rfl rfl rfl ?_
                                        refine gi_iconst (q := 284) (v := 1) C (dm_Mo_shape 148 rfl) rfl (by decide) ?_
                                        refine gi_callv 1 (q := 287) C (dm_Mo_shape 149 rfl) rfl my_Mo_takes lk_Mo_211 im_Mo_takes rfl (c_Mo_takes true r279 H279) Ha279 rfl rfl ⟨(Nat.le_of_ble_eq_true rfl), (Nat.le_of_ble_eq_true rfl)⟩ (Nat.le_of_ble_eq_true rfl) ⟨(Nat.le_of_ble_eq_true rfl), (Nat.le_of_ble_eq_true rfl)⟩ (fun r284 n284 h284 e284 => ?_)
                                        obtain ⟨rfl, rfl, S284, H284, o284, r284, f284⟩ := e284
                                        obtain ⟨fs284, Ha284, Hf284⟩ := id H284.1
                                        refine gi_aload_n (q := 288) (i := 0) C (dm_Mo_shape 150 rfl) rfl rfl rfl ?_
                                        refine gi_iconst (q := 289) (v := 0) C (dm_Mo_shape 151 rfl) rfl (by decide) ?_
                                        refine gi_callv 1 (q := 292) C (dm_Mo_shape 152 rfl) rfl my_Mo_puts lk_Mo_203 im_Mo_puts rfl (c_Mo_puts false r284 (by exact (Nat.le_trans tkX_b (Nat.le_trans tkX_b (show x.1 ≤ 11 by omega)))) H284) Ha284 rfl rfl ⟨(Nat.le_of_ble_eq_true rfl), (Nat.le_of_ble_eq_true rfl)⟩ (Nat.le_of_ble_eq_true rfl) ⟨(Nat.le_of_ble_eq_true rfl), (Nat.le_of_ble_eq_true rfl)⟩ (fun r289 n289 h289 e289 => ?_)
                                        obtain ⟨rfl, rfl, S289, H289, o289, r289, f289⟩ := e289
                                        obtain ⟨fs289, Ha289, Hf289⟩ := id H289.1
                                        refine gi_goto (tgt := 436) C (dm_Mo_shape 153 rfl) (by decide) ?_
                                        refine gi_vret C hr (dm_Mo_shape 230 rfl) ?_
                                        refine ⟨rfl, rfl, ?_⟩
                                        rw [show shX P m 30 a x = (ptX false (tkX true (tkX false (x, false)))) from rfl]
                                        exact ⟨_, H289, ((o279.tr o284).tr o289), r289, ((f279.tr f284).tr f289)⟩
                                    · exact absurd c255 (by decide)
                                  · exact absurd c236 (by decide)
                                · exact absurd c222 (by decide)
                            · exact absurd c197 (by decide)
                        · exact absurd c172 (by decide)
                      · exact absurd c148 (by decide)
                  · exact absurd c109 (by decide)
                · exact absurd c82 (by decide)
              · exact absurd c69 (by decide)
            · exact absurd c56 (by decide)
          · exact absurd c38 (by decide)
        · exact absurd c20 (by decide)
      · exact absurd c7 (by decide)
  · subst e
    refine gi_iload_n (q := 1) (i := 2) C (dm_Mo_shape 0 rfl) rfl rfl rfl ?_
    refine gi_if_eq (q := 4) (tgt := 10) C (dm_Mo_shape 1 rfl) rfl (by decide) (fun c1 => ?_) (fun c1 => ?_)
    · exact absurd c1 (by decide)
    · refine gi_iload_n (q := 5) (i := 2) C (dm_Mo_shape 2 rfl) rfl rfl rfl ?_
      refine gi_bipush (q := 7) (v := 34) C (dm_Mo_shape 3 rfl) rfl (by decide) ?_
      refine gi_icmp_ne (q := 10) (tgt := 18) C (dm_Mo_shape 4 rfl) rfl (by decide) (fun c7 => ?_) (fun c7 => ?_)
      · refine gi_iload_n (q := 19) (i := 2) C (dm_Mo_shape 9 rfl) rfl rfl rfl ?_
        refine gi_iconst (q := 20) (v := 1) C (dm_Mo_shape 10 rfl) rfl (by decide) ?_
        refine gi_icmp_ne (q := 23) (tgt := 36) C (dm_Mo_shape 11 rfl) rfl (by decide) (fun c20 => ?_) (fun c20 => ?_)
        · refine gi_iload_n (q := 37) (i := 2) C (dm_Mo_shape 19 rfl) rfl rfl rfl ?_
          refine gi_iconst (q := 38) (v := 2) C (dm_Mo_shape 20 rfl) rfl (by decide) ?_
          refine gi_icmp_ne (q := 41) (tgt := 54) C (dm_Mo_shape 21 rfl) rfl (by decide) (fun c38 => ?_) (fun c38 => ?_)
          · refine gi_iload_n (q := 55) (i := 2) C (dm_Mo_shape 29 rfl) rfl rfl rfl ?_
            refine gi_iconst (q := 56) (v := 3) C (dm_Mo_shape 30 rfl) rfl (by decide) ?_
            refine gi_icmp_ne (q := 59) (tgt := 67) C (dm_Mo_shape 31 rfl) rfl (by decide) (fun c56 => ?_) (fun c56 => ?_)
            · refine gi_iload_n (q := 68) (i := 2) C (dm_Mo_shape 36 rfl) rfl rfl rfl ?_
              refine gi_iconst (q := 69) (v := 4) C (dm_Mo_shape 37 rfl) rfl (by decide) ?_
              refine gi_icmp_ne (q := 72) (tgt := 80) C (dm_Mo_shape 38 rfl) rfl (by decide) (fun c69 => ?_) (fun c69 => ?_)
              · refine gi_iload_n (q := 81) (i := 2) C (dm_Mo_shape 43 rfl) rfl rfl rfl ?_
                refine gi_iconst (q := 82) (v := 5) C (dm_Mo_shape 44 rfl) rfl (by decide) ?_
                refine gi_icmp_ne (q := 85) (tgt := 106) C (dm_Mo_shape 45 rfl) rfl (by decide) (fun c82 => ?_) (fun c82 => ?_)
                · refine gi_iload_n (q := 107) (i := 2) C (dm_Mo_shape 56 rfl) rfl rfl rfl ?_
                  refine gi_bipush (q := 109) (v := 6) C (dm_Mo_shape 57 rfl) rfl (by decide) ?_
                  refine gi_icmp_ne (q := 112) (tgt := 139) C (dm_Mo_shape 58 rfl) rfl (by decide) (fun c109 => ?_) (fun c109 => ?_)
                  · refine gi_iload_n (q := 140) (i := 2) C (dm_Mo_shape 72 rfl) rfl rfl rfl ?_
                    refine gi_bipush (q := 142) (v := 7) C (dm_Mo_shape 73 rfl) rfl (by decide) ?_
                    refine gi_icmp_lt (q := 145) (tgt := 169) C (dm_Mo_shape 74 rfl) rfl (by decide) (fun c142 => ?_) (fun c142 => ?_)
                    · exact absurd c142 (by decide)
                    · refine gi_iload_n (q := 146) (i := 2) C (dm_Mo_shape 75 rfl) rfl rfl rfl ?_
                      refine gi_bipush (q := 148) (v := 17) C (dm_Mo_shape 76 rfl) rfl (by decide) ?_
                      refine gi_icmp_gt (q := 151) (tgt := 169) C (dm_Mo_shape 77 rfl) rfl (by decide) (fun c148 => ?_) (fun c148 => ?_)
                      · refine gi_iload_n (q := 170) (i := 2) C (dm_Mo_shape 88 rfl) rfl rfl rfl ?_
                        refine gi_bipush (q := 172) (v := 18) C (dm_Mo_shape 89 rfl) rfl (by decide) ?_
                        refine gi_icmp_ne (q := 175) (tgt := 188) C (dm_Mo_shape 90 rfl) rfl (by decide) (fun c172 => ?_) (fun c172 => ?_)
                        · refine gi_iload_n (q := 189) (i := 2) C (dm_Mo_shape 98 rfl) rfl rfl rfl ?_
                          refine gi_bipush (q := 191) (v := 20) C (dm_Mo_shape 99 rfl) rfl (by decide) ?_
                          refine gi_icmp_lt (q := 194) (tgt := 213) C (dm_Mo_shape 100 rfl) rfl (by decide) (fun c191 => ?_) (fun c191 => ?_)
                          · exact absurd c191 (by decide)
                          · refine gi_iload_n (q := 195) (i := 2) C (dm_Mo_shape 101 rfl) rfl rfl rfl ?_
                            refine gi_bipush (q := 197) (v := 25) C (dm_Mo_shape 102 rfl) rfl (by decide) ?_
                            refine gi_icmp_gt (q := 200) (tgt := 213) C (dm_Mo_shape 103 rfl) rfl (by decide) (fun c197 => ?_) (fun c197 => ?_)
                            · refine gi_iload_n (q := 214) (i := 2) C (dm_Mo_shape 111 rfl) rfl rfl rfl ?_
                              refine gi_bipush (q := 216) (v := 26) C (dm_Mo_shape 112 rfl) rfl (by decide) ?_
                              refine gi_icmp_eq (q := 219) (tgt := 225) C (dm_Mo_shape 113 rfl) rfl (by decide) (fun c216 => ?_) (fun c216 => ?_)
                              · exact absurd c216 (by decide)
                              · refine gi_iload_n (q := 220) (i := 2) C (dm_Mo_shape 114 rfl) rfl rfl rfl ?_
                                refine gi_bipush (q := 222) (v := 27) C (dm_Mo_shape 115 rfl) rfl (by decide) ?_
                                refine gi_icmp_ne (q := 225) (tgt := 233) C (dm_Mo_shape 116 rfl) rfl (by decide) (fun c222 => ?_) (fun c222 => ?_)
                                · refine gi_iload_n (q := 234) (i := 2) C (dm_Mo_shape 121 rfl) rfl rfl rfl ?_
                                  refine gi_bipush (q := 236) (v := 28) C (dm_Mo_shape 122 rfl) rfl (by decide) ?_
                                  refine gi_icmp_ne (q := 239) (tgt := 252) C (dm_Mo_shape 123 rfl) rfl (by decide) (fun c236 => ?_) (fun c236 => ?_)
                                  · refine gi_iload_n (q := 253) (i := 2) C (dm_Mo_shape 131 rfl) rfl rfl rfl ?_
                                    refine gi_bipush (q := 255) (v := 29) C (dm_Mo_shape 132 rfl) rfl (by decide) ?_
                                    refine gi_icmp_ne (q := 258) (tgt := 271) C (dm_Mo_shape 133 rfl) rfl (by decide) (fun c255 => ?_) (fun c255 => ?_)
                                    · refine gi_iload_n (q := 272) (i := 2) C (dm_Mo_shape 141 rfl) rfl rfl rfl ?_
                                      refine gi_bipush (q := 274) (v := 30) C (dm_Mo_shape 142 rfl) rfl (by decide) ?_
                                      refine gi_icmp_ne (q := 277) (tgt := 295) C (dm_Mo_shape 143 rfl) rfl (by decide) (fun c274 => ?_) (fun c274 => ?_)
                                      · refine gi_iload_n (q := 296) (i := 2) C (dm_Mo_shape 154 rfl) rfl rfl rfl ?_
                                        refine gi_bipush (q := 298) (v := 31) C (dm_Mo_shape 155 rfl) rfl (by decide) ?_
                                        refine gi_icmp_ne (q := 301) (tgt := 319) C (dm_Mo_shape 156 rfl) rfl (by decide) (fun c298 => ?_) (fun c298 => ?_)
                                        · exact absurd c298 (by decide)
                                        · refine gi_aload_n (q := 302) (i := 0) C (dm_Mo_shape 157 rfl) rfl rfl rfl ?_
                                          refine gi_iconst (q := 303) (v := 0) C (dm_Mo_shape 158 rfl) rfl (by decide) ?_
                                          refine gi_callv 1 (q := 306) C (dm_Mo_shape 159 rfl) rfl my_Mo_takes lk_Mo_211 im_Mo_takes rfl (c_Mo_takes false hS H) Ha rfl rfl ⟨(Nat.le_of_ble_eq_true rfl), (Nat.le_of_ble_eq_true rfl)⟩ (Nat.le_of_ble_eq_true rfl) ⟨(Nat.le_of_ble_eq_true rfl), (Nat.le_of_ble_eq_true rfl)⟩ (fun r303 n303 h303 e303 => ?_)
                                          obtain ⟨rfl, rfl, S303, H303, o303, r303, f303⟩ := e303
                                          obtain ⟨fs303, Ha303, Hf303⟩ := id H303.1
                                          refine gi_aload_n (q := 307) (i := 0) C (dm_Mo_shape 160 rfl) rfl rfl rfl ?_
                                          refine gi_iconst (q := 308) (v := 0) C (dm_Mo_shape 161 rfl) rfl (by decide) ?_
                                          refine gi_callv 1 (q := 311) C (dm_Mo_shape 162 rfl) rfl my_Mo_takes lk_Mo_211 im_Mo_takes rfl (c_Mo_takes false r303 H303) Ha303 rfl rfl ⟨(Nat.le_of_ble_eq_true rfl), (Nat.le_of_ble_eq_true rfl)⟩ (Nat.le_of_ble_eq_true rfl) ⟨(Nat.le_of_ble_eq_true rfl), (Nat.le_of_ble_eq_true rfl)⟩ (fun r308 n308 h308 e308 => ?_)
                                          obtain ⟨rfl, rfl, S308, H308, o308, r308, f308⟩ := e308
                                          obtain ⟨fs308, Ha308, Hf308⟩ := id H308.1
                                          refine gi_aload_n (q := 312) (i := 0) C (dm_Mo_shape 163 rfl) rfl rfl rfl ?_
                                          refine gi_iconst (q := 313) (v := 1) C (dm_Mo_shape 164 rfl) rfl (by decide) ?_
                                          refine gi_callv 1 (q := 316) C (dm_Mo_shape 165 rfl) rfl my_Mo_takes lk_Mo_211 im_Mo_takes rfl (c_Mo_takes true r308 H308) Ha308 rfl rfl ⟨(Nat.le_of_ble_eq_true rfl), (Nat.le_of_ble_eq_true rfl)⟩ (Nat.le_of_ble_eq_true rfl) ⟨(Nat.le_of_ble_eq_true rfl), (Nat.le_of_ble_eq_true rfl)⟩ (fun r313 n313 h313 e313 => ?_)
                                          obtain ⟨rfl, rfl, S313, H313, o313, r313, f313⟩ := e313
                                          obtain ⟨fs313, Ha313, Hf313⟩ := id H313.1
                                          refine gi_goto (tgt := 436) C (dm_Mo_shape 166 rfl) (by decide) ?_
                                          refine gi_vret C hr (dm_Mo_shape 230 rfl) ?_
                                          refine ⟨rfl, rfl, ?_⟩
                                          rw [show shX P m 31 a x = (tkX true (tkX false (tkX false (x, false)))) from rfl]
                                          exact ⟨_, H313, ((o303.tr o308).tr o313), r313, ((f303.tr f308).tr f313)⟩
                                      · exact absurd c274 (by decide)
                                    · exact absurd c255 (by decide)
                                  · exact absurd c236 (by decide)
                                · exact absurd c222 (by decide)
                            · exact absurd c197 (by decide)
                        · exact absurd c172 (by decide)
                      · exact absurd c148 (by decide)
                  · exact absurd c109 (by decide)
                · exact absurd c82 (by decide)
              · exact absurd c69 (by decide)
            · exact absurd c56 (by decide)
          · exact absurd c38 (by decide)
        · exact absurd c20 (by decide)
      · exact absurd c7 (by decide)
  · subst e
    obtain ⟨rfl, ak⟩ := hc rfl
    have wa := wf_ar W ak
    have e4 := (wf_n W ak).2.2.1
    have e1 := (wf_n W ak).1
    refine gi_iload_n (q := 1) (i := 2) C (dm_Mo_shape 0 rfl) rfl rfl rfl ?_
    refine gi_if_eq (q := 4) (tgt := 10) C (dm_Mo_shape 1 rfl) rfl (by decide) (fun c1 => ?_) (fun c1 => ?_)
    · exact absurd c1 (by decide)
    · refine gi_iload_n (q := 5) (i := 2) C (dm_Mo_shape 2 rfl) rfl rfl rfl ?_
      refine gi_bipush (q := 7) (v := 34) C (dm_Mo_shape 3 rfl) rfl (by decide) ?_
      refine gi_icmp_ne (q := 10) (tgt := 18) C (dm_Mo_shape 4 rfl) rfl (by decide) (fun c7 => ?_) (fun c7 => ?_)
      · refine gi_iload_n (q := 19) (i := 2) C (dm_Mo_shape 9 rfl) rfl rfl rfl ?_
        refine gi_iconst (q := 20) (v := 1) C (dm_Mo_shape 10 rfl) rfl (by decide) ?_
        refine gi_icmp_ne (q := 23) (tgt := 36) C (dm_Mo_shape 11 rfl) rfl (by decide) (fun c20 => ?_) (fun c20 => ?_)
        · refine gi_iload_n (q := 37) (i := 2) C (dm_Mo_shape 19 rfl) rfl rfl rfl ?_
          refine gi_iconst (q := 38) (v := 2) C (dm_Mo_shape 20 rfl) rfl (by decide) ?_
          refine gi_icmp_ne (q := 41) (tgt := 54) C (dm_Mo_shape 21 rfl) rfl (by decide) (fun c38 => ?_) (fun c38 => ?_)
          · refine gi_iload_n (q := 55) (i := 2) C (dm_Mo_shape 29 rfl) rfl rfl rfl ?_
            refine gi_iconst (q := 56) (v := 3) C (dm_Mo_shape 30 rfl) rfl (by decide) ?_
            refine gi_icmp_ne (q := 59) (tgt := 67) C (dm_Mo_shape 31 rfl) rfl (by decide) (fun c56 => ?_) (fun c56 => ?_)
            · refine gi_iload_n (q := 68) (i := 2) C (dm_Mo_shape 36 rfl) rfl rfl rfl ?_
              refine gi_iconst (q := 69) (v := 4) C (dm_Mo_shape 37 rfl) rfl (by decide) ?_
              refine gi_icmp_ne (q := 72) (tgt := 80) C (dm_Mo_shape 38 rfl) rfl (by decide) (fun c69 => ?_) (fun c69 => ?_)
              · refine gi_iload_n (q := 81) (i := 2) C (dm_Mo_shape 43 rfl) rfl rfl rfl ?_
                refine gi_iconst (q := 82) (v := 5) C (dm_Mo_shape 44 rfl) rfl (by decide) ?_
                refine gi_icmp_ne (q := 85) (tgt := 106) C (dm_Mo_shape 45 rfl) rfl (by decide) (fun c82 => ?_) (fun c82 => ?_)
                · refine gi_iload_n (q := 107) (i := 2) C (dm_Mo_shape 56 rfl) rfl rfl rfl ?_
                  refine gi_bipush (q := 109) (v := 6) C (dm_Mo_shape 57 rfl) rfl (by decide) ?_
                  refine gi_icmp_ne (q := 112) (tgt := 139) C (dm_Mo_shape 58 rfl) rfl (by decide) (fun c109 => ?_) (fun c109 => ?_)
                  · refine gi_iload_n (q := 140) (i := 2) C (dm_Mo_shape 72 rfl) rfl rfl rfl ?_
                    refine gi_bipush (q := 142) (v := 7) C (dm_Mo_shape 73 rfl) rfl (by decide) ?_
                    refine gi_icmp_lt (q := 145) (tgt := 169) C (dm_Mo_shape 74 rfl) rfl (by decide) (fun c142 => ?_) (fun c142 => ?_)
                    · exact absurd c142 (by decide)
                    · refine gi_iload_n (q := 146) (i := 2) C (dm_Mo_shape 75 rfl) rfl rfl rfl ?_
                      refine gi_bipush (q := 148) (v := 17) C (dm_Mo_shape 76 rfl) rfl (by decide) ?_
                      refine gi_icmp_gt (q := 151) (tgt := 169) C (dm_Mo_shape 77 rfl) rfl (by decide) (fun c148 => ?_) (fun c148 => ?_)
                      · refine gi_iload_n (q := 170) (i := 2) C (dm_Mo_shape 88 rfl) rfl rfl rfl ?_
                        refine gi_bipush (q := 172) (v := 18) C (dm_Mo_shape 89 rfl) rfl (by decide) ?_
                        refine gi_icmp_ne (q := 175) (tgt := 188) C (dm_Mo_shape 90 rfl) rfl (by decide) (fun c172 => ?_) (fun c172 => ?_)
                        · refine gi_iload_n (q := 189) (i := 2) C (dm_Mo_shape 98 rfl) rfl rfl rfl ?_
                          refine gi_bipush (q := 191) (v := 20) C (dm_Mo_shape 99 rfl) rfl (by decide) ?_
                          refine gi_icmp_lt (q := 194) (tgt := 213) C (dm_Mo_shape 100 rfl) rfl (by decide) (fun c191 => ?_) (fun c191 => ?_)
                          · exact absurd c191 (by decide)
                          · refine gi_iload_n (q := 195) (i := 2) C (dm_Mo_shape 101 rfl) rfl rfl rfl ?_
                            refine gi_bipush (q := 197) (v := 25) C (dm_Mo_shape 102 rfl) rfl (by decide) ?_
                            refine gi_icmp_gt (q := 200) (tgt := 213) C (dm_Mo_shape 103 rfl) rfl (by decide) (fun c197 => ?_) (fun c197 => ?_)
                            · refine gi_iload_n (q := 214) (i := 2) C (dm_Mo_shape 111 rfl) rfl rfl rfl ?_
                              refine gi_bipush (q := 216) (v := 26) C (dm_Mo_shape 112 rfl) rfl (by decide) ?_
                              refine gi_icmp_eq (q := 219) (tgt := 225) C (dm_Mo_shape 113 rfl) rfl (by decide) (fun c216 => ?_) (fun c216 => ?_)
                              · exact absurd c216 (by decide)
                              · refine gi_iload_n (q := 220) (i := 2) C (dm_Mo_shape 114 rfl) rfl rfl rfl ?_
                                refine gi_bipush (q := 222) (v := 27) C (dm_Mo_shape 115 rfl) rfl (by decide) ?_
                                refine gi_icmp_ne (q := 225) (tgt := 233) C (dm_Mo_shape 116 rfl) rfl (by decide) (fun c222 => ?_) (fun c222 => ?_)
                                · refine gi_iload_n (q := 234) (i := 2) C (dm_Mo_shape 121 rfl) rfl rfl rfl ?_
                                  refine gi_bipush (q := 236) (v := 28) C (dm_Mo_shape 122 rfl) rfl (by decide) ?_
                                  refine gi_icmp_ne (q := 239) (tgt := 252) C (dm_Mo_shape 123 rfl) rfl (by decide) (fun c236 => ?_) (fun c236 => ?_)
                                  · refine gi_iload_n (q := 253) (i := 2) C (dm_Mo_shape 131 rfl) rfl rfl rfl ?_
                                    refine gi_bipush (q := 255) (v := 29) C (dm_Mo_shape 132 rfl) rfl (by decide) ?_
                                    refine gi_icmp_ne (q := 258) (tgt := 271) C (dm_Mo_shape 133 rfl) rfl (by decide) (fun c255 => ?_) (fun c255 => ?_)
                                    · refine gi_iload_n (q := 272) (i := 2) C (dm_Mo_shape 141 rfl) rfl rfl rfl ?_
                                      refine gi_bipush (q := 274) (v := 30) C (dm_Mo_shape 142 rfl) rfl (by decide) ?_
                                      refine gi_icmp_ne (q := 277) (tgt := 295) C (dm_Mo_shape 143 rfl) rfl (by decide) (fun c274 => ?_) (fun c274 => ?_)
                                      · refine gi_iload_n (q := 296) (i := 2) C (dm_Mo_shape 154 rfl) rfl rfl rfl ?_
                                        refine gi_bipush (q := 298) (v := 31) C (dm_Mo_shape 155 rfl) rfl (by decide) ?_
                                        refine gi_icmp_ne (q := 301) (tgt := 319) C (dm_Mo_shape 156 rfl) rfl (by decide) (fun c298 => ?_) (fun c298 => ?_)
                                        · refine gi_iload_n (q := 320) (i := 2) C (dm_Mo_shape 167 rfl) rfl rfl rfl ?_
                                          refine gi_bipush (q := 322) (v := 32) C (dm_Mo_shape 168 rfl) rfl (by decide) ?_
                                          refine gi_icmp_ne (q := 325) (tgt := 395) C (dm_Mo_shape 169 rfl) rfl (by decide) (fun c322 => ?_) (fun c322 => ?_)
                                          · exact absurd c322 (by decide)
                                          · refine gi_aload_n (q := 326) (i := 0) C (dm_Mo_shape 170 rfl) rfl rfl rfl ?_
                                            refine gi_get (q := 329) C (dm_Mo_shape 171 rfl) rfl fl_Mo_7 Ha (mo_g1 Hf) ?_
                                            refine gi_iload_n (q := 330) (i := 3) C (dm_Mo_shape 172 rfl) rfl rfl rfl ?_
                                            refine gi_iald (q := 331) C (dm_Mo_shape 173 rfl) rfl rfl (mo_a1 H) (inN (show a < 8 by omega) (by decide)) ?_
                                            rw [nI_clamp (show a < 2 ^ 31 by omega), hP 1 (by decide) (by decide), e1]
                                            refine gi_iconst (q := 332) (v := 1) C (dm_Mo_shape 174 rfl) rfl (by decide) ?_
                                            refine gi_isub (q := 333) C (dm_Mo_shape 175 rfl) rfl ?_
                                            refine gi_istore (q := 335) C (dm_Mo_shape 176 rfl) rfl (Nat.le_of_ble_eq_true rfl) ?_
                                            refine gi_while (σ := Nat × Sh × Bool) (fun q => q.1) (fun q => [(4, .int (nI q.1 - 1)), (0, .ref M), (3, .int (nI a))]) (fun _ => n) (fun _ => 0) (fun _ => 0) (fun q y' => q.1 ≤ pN P 1 a ∧ (∃ Sy, mo_at M Sy J F G y' ∧ outM M h y' ∧ shR Sy q.2.1 q.2.2 ∧ frS S Sy) ∧ clX P a (pN P 1 a) (x, false) = clX P a q.1 q.2) (pN P 1 a, (x, false)) ⟨Nat.le_refl _, ⟨S, H, outM.rf, hS, frS.rf⟩, rfl⟩ ?_ (List.forall_mem_cons.mpr ⟨rfl, List.forall_mem_cons.mpr ⟨rfl, List.forall_mem_cons.mpr ⟨rfl, fun _ h => absurd h List.not_mem_nil⟩⟩⟩) rfl rfl rfl
                                            rintro ⟨c, z⟩ y' ⟨hc1, ⟨Sy, Hy, yo, yr, yf⟩, yq⟩ ih
                                            try dsimp only at *
                                            obtain ⟨fsy, Hay, Hfy⟩ := id Hy.1
                                            refine gi_iload (q := 337) C (dm_Mo_shape 177 rfl) rfl rfl ?_
                                            refine gi_if_lt (q := 340) (tgt := 364) C (dm_Mo_shape 178 rfl) rfl (by decide) (fun c337 => ?_) (fun c337 => ?_)
                                            · have fin : z = clX P a (pN P 1 a) (x, false) := by
                                                rw [yq]
                                                first
                                                  | (have c0 : c = 0 := by
                                                       rcases Nat.eq_zero_or_pos c with q | q
                                                       · exact q
                                                       · rw [show nI c - 1 = nI (c - 1) from by rw [show (1 : Int32) = nI 1 from rfl, nI_sb (by omega) (by omega)]] at c337
                                                         exact absurd c337 (Int32.not_lt.mpr (nI_le (a := 0) (Nat.zero_le _) (by omega)))
                                                     subst c0
                                                     rfl)
                                                  | (rw [clX_t (bI_t c344)])
                                              refine gi_aload_n (q := 365) (i := 0) C (dm_Mo_shape 190 rfl) rfl rfl rfl ?_
                                              refine gi_get (q := 368) C (dm_Mo_shape 191 rfl) rfl fl_Mo_19 Hay (mo_g4 Hfy) ?_
                                              refine gi_iload_n (q := 369) (i := 3) C (dm_Mo_shape 192 rfl) rfl rfl rfl ?_
                                              refine gi_iald (q := 370) C (dm_Mo_shape 193 rfl) rfl rfl (mo_a4 Hy) (inN (show a < 8 by omega) (by decide)) ?_
                                              rw [nI_clamp (show a < 2 ^ 31 by omega), hP 4 (by decide) (by decide), e4]
                                              refine gi_if_le (q := 373) (tgt := 436) C (dm_Mo_shape 194 rfl) rfl (by decide) (fun c370 => ?_) (fun c370 => ?_)
                                              · refine gi_vret C hr (dm_Mo_shape 230 rfl) ?_
                                                refine ⟨rfl, rfl, ?_⟩
                                                rw [show shX P m 32 a x = z from by
                                                  show (if 0 < pN P 4 a ∧ (clX P a (pN P 1 a) (x, false)).2 = false then ptX (decide (pN P 4 a = 2)) (clX P a (pN P 1 a) (x, false)) else clX P a (pN P 1 a) (x, false)) = _
                                                  rw [← fin]
                                                  first
                                                    | (rw [if_neg (fun q => by rw [bI_t c377] at q; cases q.2)]; done)
                                                    | (rw [if_neg (fun q => absurd c370 (Int32.not_le.mpr ((nI_ps0 (by omega)).mpr q.1)))]; done)]
                                                exact ⟨_, Hy, yo, yr, yf⟩
                                              · have r0 : 0 < pN P 4 a := by
                                                  rcases Nat.eq_zero_or_pos (pN P 4 a) with q | q
                                                  · rw [q] at c370
                                                    exact absurd (by decide) c370
                                                  · exact q
                                                refine gi_aload_n (q := 374) (i := 0) C (dm_Mo_shape 195 rfl) rfl rfl rfl ?_
                                                refine gi_get (q := 377) C (dm_Mo_shape 196 rfl) rfl fl_Mo_196 Hay (mo_g21 Hfy) ?_
                                                rw [yr.2.2.1]
                                                refine gi_if_ne (q := 380) (tgt := 436) C (dm_Mo_shape 197 rfl) rfl (by decide) (fun c377 => ?_) (fun c377 => ?_)
                                                · refine gi_vret C hr (dm_Mo_shape 230 rfl) ?_
                                                  refine ⟨rfl, rfl, ?_⟩
                                                  rw [show shX P m 32 a x = z from by
                                                    show (if 0 < pN P 4 a ∧ (clX P a (pN P 1 a) (x, false)).2 = false then ptX (decide (pN P 4 a = 2)) (clX P a (pN P 1 a) (x, false)) else clX P a (pN P 1 a) (x, false)) = _
                                                    rw [← fin]
                                                    first
                                                      | (rw [if_neg (fun q => by rw [bI_t c377] at q; cases q.2)]; done)
                                                      | (rw [if_neg (fun q => absurd c370 (Int32.not_le.mpr ((nI_ps0 (by omega)).mpr q.1)))]; done)]
                                                  exact ⟨_, Hy, yo, yr, yf⟩
                                                · refine gi_aload_n (q := 381) (i := 0) C (dm_Mo_shape 198 rfl) rfl rfl rfl ?_
                                                  refine gi_aload_n (q := 382) (i := 0) C (dm_Mo_shape 199 rfl) rfl rfl rfl ?_
                                                  refine gi_get (q := 385) C (dm_Mo_shape 200 rfl) rfl fl_Mo_19 Hay (mo_g4 Hfy) ?_
                                                  refine gi_iload_n (q := 386) (i := 3) C (dm_Mo_shape 201 rfl) rfl rfl rfl ?_
                                                  refine gi_iald (q := 387) C (dm_Mo_shape 202 rfl) rfl rfl (mo_a4 Hy) (inN (show a < 8 by omega) (by decide)) ?_
                                                  rw [nI_clamp (show a < 2 ^ 31 by omega), hP 4 (by decide) (by decide), e4]
                                                  refine gi_iconst (q := 388) (v := 1) C (dm_Mo_shape 203 rfl) rfl (by decide) ?_
                                                  refine gi_isub (q := 389) C (dm_Mo_shape 204 rfl) rfl ?_
                                                  rw [show nI (pN P 4 a) - 1 = bI (decide (pN P 4 a = 2)) from by
                                                    rcases (show pN P 4 a = 1 ∨ pN P 4 a = 2 by omega) with q | q <;> rw [q] <;> rfl]
                                                  refine gi_callv 1 (q := 392) C (dm_Mo_shape 205 rfl) rfl my_Mo_puts lk_Mo_203 im_Mo_puts rfl (c_Mo_puts (decide (pN P 4 a = 2)) yr (by have := clX_b (P := P) (a := a) (pN P 1 a) (x, false); have e9 : ((x, false) : Sh × Bool).1.1 = x.1 := rfl; rw [← fin] at this; omega) Hy) Hay rfl rfl ⟨(Nat.le_of_ble_eq_true rfl), (Nat.le_of_ble_eq_true rfl)⟩ (Nat.le_of_ble_eq_true rfl) ⟨(Nat.le_of_ble_eq_true rfl), (Nat.le_of_ble_eq_true rfl)⟩ (fun r389 n389 h389 e389 => ?_)
                                                  obtain ⟨rfl, rfl, S389, H389, o389, r389, f389⟩ := e389
                                                  obtain ⟨fs389, Ha389, Hf389⟩ := id H389.1
                                                  refine gi_goto (tgt := 436) C (dm_Mo_shape 206 rfl) (by decide) ?_
                                                  refine gi_vret C hr (dm_Mo_shape 230 rfl) ?_
                                                  refine ⟨rfl, rfl, ?_⟩
                                                  rw [show shX P m 32 a x = ptX (decide (pN P 4 a = 2)) z from by
                                                    show (if 0 < pN P 4 a ∧ (clX P a (pN P 1 a) (x, false)).2 = false then ptX (decide (pN P 4 a = 2)) (clX P a (pN P 1 a) (x, false)) else _) = _
                                                    rw [← fin, if_pos ⟨r0, bI_fa c377⟩]]
                                                  exact ⟨_, H389, yo.tr o389, r389, yf.tr f389⟩
                                            · refine gi_aload_n (q := 341) (i := 0) C (dm_Mo_shape 179 rfl) rfl rfl rfl ?_
                                              refine gi_get (q := 344) C (dm_Mo_shape 180 rfl) rfl fl_Mo_196 Hay (mo_g21 Hfy) ?_
                                              rw [yr.2.2.1]
                                              refine gi_if_ne (q := 347) (tgt := 364) C (dm_Mo_shape 181 rfl) rfl (by decide) (fun c344 => ?_) (fun c344 => ?_)
                                              · have fin : z = clX P a (pN P 1 a) (x, false) := by
                                                  rw [yq]
                                                  first
                                                    | (have c0 : c = 0 := by
                                                         rcases Nat.eq_zero_or_pos c with q | q
                                                         · exact q
                                                         · rw [show nI c - 1 = nI (c - 1) from by rw [show (1 : Int32) = nI 1 from rfl, nI_sb (by omega) (by omega)]] at c337
                                                           exact absurd c337 (Int32.not_lt.mpr (nI_le (a := 0) (Nat.zero_le _) (by omega)))
                                                       subst c0
                                                       rfl)
                                                    | (rw [clX_t (bI_t c344)])
                                                refine gi_aload_n (q := 365) (i := 0) C (dm_Mo_shape 190 rfl) rfl rfl rfl ?_
                                                refine gi_get (q := 368) C (dm_Mo_shape 191 rfl) rfl fl_Mo_19 Hay (mo_g4 Hfy) ?_
                                                refine gi_iload_n (q := 369) (i := 3) C (dm_Mo_shape 192 rfl) rfl rfl rfl ?_
                                                refine gi_iald (q := 370) C (dm_Mo_shape 193 rfl) rfl rfl (mo_a4 Hy) (inN (show a < 8 by omega) (by decide)) ?_
                                                rw [nI_clamp (show a < 2 ^ 31 by omega), hP 4 (by decide) (by decide), e4]
                                                refine gi_if_le (q := 373) (tgt := 436) C (dm_Mo_shape 194 rfl) rfl (by decide) (fun c370 => ?_) (fun c370 => ?_)
                                                · refine gi_vret C hr (dm_Mo_shape 230 rfl) ?_
                                                  refine ⟨rfl, rfl, ?_⟩
                                                  rw [show shX P m 32 a x = z from by
                                                    show (if 0 < pN P 4 a ∧ (clX P a (pN P 1 a) (x, false)).2 = false then ptX (decide (pN P 4 a = 2)) (clX P a (pN P 1 a) (x, false)) else clX P a (pN P 1 a) (x, false)) = _
                                                    rw [← fin]
                                                    first
                                                      | (rw [if_neg (fun q => by rw [bI_t c377] at q; cases q.2)]; done)
                                                      | (rw [if_neg (fun q => absurd c370 (Int32.not_le.mpr ((nI_ps0 (by omega)).mpr q.1)))]; done)]
                                                  exact ⟨_, Hy, yo, yr, yf⟩
                                                · have r0 : 0 < pN P 4 a := by
                                                    rcases Nat.eq_zero_or_pos (pN P 4 a) with q | q
                                                    · rw [q] at c370
                                                      exact absurd (by decide) c370
                                                    · exact q
                                                  refine gi_aload_n (q := 374) (i := 0) C (dm_Mo_shape 195 rfl) rfl rfl rfl ?_
                                                  refine gi_get (q := 377) C (dm_Mo_shape 196 rfl) rfl fl_Mo_196 Hay (mo_g21 Hfy) ?_
                                                  rw [yr.2.2.1]
                                                  refine gi_if_ne (q := 380) (tgt := 436) C (dm_Mo_shape 197 rfl) rfl (by decide) (fun c377 => ?_) (fun c377 => ?_)
                                                  · refine gi_vret C hr (dm_Mo_shape 230 rfl) ?_
                                                    refine ⟨rfl, rfl, ?_⟩
                                                    rw [show shX P m 32 a x = z from by
                                                      show (if 0 < pN P 4 a ∧ (clX P a (pN P 1 a) (x, false)).2 = false then ptX (decide (pN P 4 a = 2)) (clX P a (pN P 1 a) (x, false)) else clX P a (pN P 1 a) (x, false)) = _
                                                      rw [← fin]
                                                      first
                                                        | (rw [if_neg (fun q => by rw [bI_t c377] at q; cases q.2)]; done)
                                                        | (rw [if_neg (fun q => absurd c370 (Int32.not_le.mpr ((nI_ps0 (by omega)).mpr q.1)))]; done)]
                                                    exact ⟨_, Hy, yo, yr, yf⟩
                                                  · refine gi_aload_n (q := 381) (i := 0) C (dm_Mo_shape 198 rfl) rfl rfl rfl ?_
                                                    refine gi_aload_n (q := 382) (i := 0) C (dm_Mo_shape 199 rfl) rfl rfl rfl ?_
                                                    refine gi_get (q := 385) C (dm_Mo_shape 200 rfl) rfl fl_Mo_19 Hay (mo_g4 Hfy) ?_
                                                    refine gi_iload_n (q := 386) (i := 3) C (dm_Mo_shape 201 rfl) rfl rfl rfl ?_
                                                    refine gi_iald (q := 387) C (dm_Mo_shape 202 rfl) rfl rfl (mo_a4 Hy) (inN (show a < 8 by omega) (by decide)) ?_
                                                    rw [nI_clamp (show a < 2 ^ 31 by omega), hP 4 (by decide) (by decide), e4]
                                                    refine gi_iconst (q := 388) (v := 1) C (dm_Mo_shape 203 rfl) rfl (by decide) ?_
                                                    refine gi_isub (q := 389) C (dm_Mo_shape 204 rfl) rfl ?_
                                                    rw [show nI (pN P 4 a) - 1 = bI (decide (pN P 4 a = 2)) from by
                                                      rcases (show pN P 4 a = 1 ∨ pN P 4 a = 2 by omega) with q | q <;> rw [q] <;> rfl]
                                                    refine gi_callv 1 (q := 392) C (dm_Mo_shape 205 rfl) rfl my_Mo_puts lk_Mo_203 im_Mo_puts rfl (c_Mo_puts (decide (pN P 4 a = 2)) yr (by have := clX_b (P := P) (a := a) (pN P 1 a) (x, false); have e9 : ((x, false) : Sh × Bool).1.1 = x.1 := rfl; rw [← fin] at this; omega) Hy) Hay rfl rfl ⟨(Nat.le_of_ble_eq_true rfl), (Nat.le_of_ble_eq_true rfl)⟩ (Nat.le_of_ble_eq_true rfl) ⟨(Nat.le_of_ble_eq_true rfl), (Nat.le_of_ble_eq_true rfl)⟩ (fun r389 n389 h389 e389 => ?_)
                                                    obtain ⟨rfl, rfl, S389, H389, o389, r389, f389⟩ := e389
                                                    obtain ⟨fs389, Ha389, Hf389⟩ := id H389.1
                                                    refine gi_goto (tgt := 436) C (dm_Mo_shape 206 rfl) (by decide) ?_
                                                    refine gi_vret C hr (dm_Mo_shape 230 rfl) ?_
                                                    refine ⟨rfl, rfl, ?_⟩
                                                    rw [show shX P m 32 a x = ptX (decide (pN P 4 a = 2)) z from by
                                                      show (if 0 < pN P 4 a ∧ (clX P a (pN P 1 a) (x, false)).2 = false then ptX (decide (pN P 4 a = 2)) (clX P a (pN P 1 a) (x, false)) else _) = _
                                                      rw [← fin, if_pos ⟨r0, bI_fa c377⟩]]
                                                    exact ⟨_, H389, yo.tr o389, r389, yf.tr f389⟩
                                              · obtain ⟨c', rfl⟩ : ∃ c', c = c' + 1 := by
                                                  rcases Nat.eq_zero_or_pos c with q | q
                                                  · subst q
                                                    exact absurd (by decide) c337
                                                  · exact ⟨c - 1, by omega⟩
                                                rw [show nI (c' + 1) - 1 = nI c' from by rw [show (1 : Int32) = nI 1 from rfl, nI_sb (by omega) (by omega)]; rfl]
                                                have zf : z.2 = false := bI_fa c344
                                                refine gi_aload_n (q := 348) (i := 0) C (dm_Mo_shape 182 rfl) rfl rfl rfl ?_
                                                refine gi_aload_n (q := 349) (i := 0) C (dm_Mo_shape 183 rfl) rfl rfl rfl ?_
                                                refine gi_iload_n (q := 350) (i := 3) C (dm_Mo_shape 184 rfl) rfl rfl rfl ?_
                                                refine gi_iload (q := 352) C (dm_Mo_shape 185 rfl) rfl rfl ?_
                                                refine gi_callv 2 (q := 355) C (dm_Mo_shape 186 rfl) rfl my_Mo_kindOf lk_Mo_207 im_Mo_kindOf rfl (c_Mo_kindOf (m := a) (i := c') W ak (by omega) hP Hy) Hay rfl rfl ⟨(Nat.le_of_ble_eq_true rfl), (Nat.le_of_ble_eq_true rfl)⟩ (Nat.le_of_ble_eq_true rfl) ⟨(Nat.le_of_ble_eq_true rfl), (Nat.le_of_ble_eq_true rfl)⟩ (fun r352 n352 h352 e352 => ?_)
                                                obtain ⟨rfl, q352, u352⟩ := e352
                                                rw [q352, u352]
                                                refine gi_callv 1 (q := 358) C (dm_Mo_shape 187 rfl) rfl my_Mo_takes lk_Mo_211 im_Mo_takes rfl (c_Mo_takes (kdB P a c') yr Hy) Hay rfl rfl ⟨(Nat.le_of_ble_eq_true rfl), (Nat.le_of_ble_eq_true rfl)⟩ (Nat.le_of_ble_eq_true rfl) ⟨(Nat.le_of_ble_eq_true rfl), (Nat.le_of_ble_eq_true rfl)⟩ (fun r355 n355 h355 e355 => ?_)
                                                obtain ⟨rfl, rfl, S355, H355, o355, r355, f355⟩ := e355
                                                obtain ⟨fs355, Ha355, Hf355⟩ := id H355.1
                                                refine gi_iinc (q := 361) (v := (-1)) C (dm_Mo_shape 188 rfl) rfl rfl (by decide) (Nat.le_of_ble_eq_true rfl) ?_
                                                refine gi_goto (tgt := 335) C (dm_Mo_shape 189 rfl) (by decide) ?_
                                                refine gi_close (ih (c', tkX (kdB P a c') z) _ ⟨by omega, ⟨_, H355, yo.tr o355, r355, yf.tr f355⟩, ?_⟩ (by dsimp only; omega)) (List.forall_mem_cons.mpr ⟨(by rw [Int32.sub_eq_add_neg]; rfl), List.forall_mem_cons.mpr ⟨rfl, List.forall_mem_cons.mpr ⟨rfl, fun _ h => absurd h List.not_mem_nil⟩⟩⟩) rfl rfl rfl
                                                rw [yq]
                                                show (if z.2 = true then z else clX P a c' (tkX (kdB P a c') z)) = _
                                                rw [if_neg (by rw [zf]; decide)]
                                        · exact absurd c298 (by decide)
                                      · exact absurd c274 (by decide)
                                    · exact absurd c255 (by decide)
                                  · exact absurd c236 (by decide)
                                · exact absurd c222 (by decide)
                            · exact absurd c197 (by decide)
                        · exact absurd c172 (by decide)
                      · exact absurd c148 (by decide)
                  · exact absurd c109 (by decide)
                · exact absurd c82 (by decide)
              · exact absurd c69 (by decide)
            · exact absurd c56 (by decide)
          · exact absurd c38 (by decide)
        · exact absurd c20 (by decide)
      · exact absurd c7 (by decide)
  · subst e
    have e4 := (wf_n W hm).2.2.1
    refine gi_iload_n (q := 1) (i := 2) C (dm_Mo_shape 0 rfl) rfl rfl rfl ?_
    refine gi_if_eq (q := 4) (tgt := 10) C (dm_Mo_shape 1 rfl) rfl (by decide) (fun c1 => ?_) (fun c1 => ?_)
    · exact absurd c1 (by decide)
    · refine gi_iload_n (q := 5) (i := 2) C (dm_Mo_shape 2 rfl) rfl rfl rfl ?_
      refine gi_bipush (q := 7) (v := 34) C (dm_Mo_shape 3 rfl) rfl (by decide) ?_
      refine gi_icmp_ne (q := 10) (tgt := 18) C (dm_Mo_shape 4 rfl) rfl (by decide) (fun c7 => ?_) (fun c7 => ?_)
      · refine gi_iload_n (q := 19) (i := 2) C (dm_Mo_shape 9 rfl) rfl rfl rfl ?_
        refine gi_iconst (q := 20) (v := 1) C (dm_Mo_shape 10 rfl) rfl (by decide) ?_
        refine gi_icmp_ne (q := 23) (tgt := 36) C (dm_Mo_shape 11 rfl) rfl (by decide) (fun c20 => ?_) (fun c20 => ?_)
        · refine gi_iload_n (q := 37) (i := 2) C (dm_Mo_shape 19 rfl) rfl rfl rfl ?_
          refine gi_iconst (q := 38) (v := 2) C (dm_Mo_shape 20 rfl) rfl (by decide) ?_
          refine gi_icmp_ne (q := 41) (tgt := 54) C (dm_Mo_shape 21 rfl) rfl (by decide) (fun c38 => ?_) (fun c38 => ?_)
          · refine gi_iload_n (q := 55) (i := 2) C (dm_Mo_shape 29 rfl) rfl rfl rfl ?_
            refine gi_iconst (q := 56) (v := 3) C (dm_Mo_shape 30 rfl) rfl (by decide) ?_
            refine gi_icmp_ne (q := 59) (tgt := 67) C (dm_Mo_shape 31 rfl) rfl (by decide) (fun c56 => ?_) (fun c56 => ?_)
            · refine gi_iload_n (q := 68) (i := 2) C (dm_Mo_shape 36 rfl) rfl rfl rfl ?_
              refine gi_iconst (q := 69) (v := 4) C (dm_Mo_shape 37 rfl) rfl (by decide) ?_
              refine gi_icmp_ne (q := 72) (tgt := 80) C (dm_Mo_shape 38 rfl) rfl (by decide) (fun c69 => ?_) (fun c69 => ?_)
              · refine gi_iload_n (q := 81) (i := 2) C (dm_Mo_shape 43 rfl) rfl rfl rfl ?_
                refine gi_iconst (q := 82) (v := 5) C (dm_Mo_shape 44 rfl) rfl (by decide) ?_
                refine gi_icmp_ne (q := 85) (tgt := 106) C (dm_Mo_shape 45 rfl) rfl (by decide) (fun c82 => ?_) (fun c82 => ?_)
                · refine gi_iload_n (q := 107) (i := 2) C (dm_Mo_shape 56 rfl) rfl rfl rfl ?_
                  refine gi_bipush (q := 109) (v := 6) C (dm_Mo_shape 57 rfl) rfl (by decide) ?_
                  refine gi_icmp_ne (q := 112) (tgt := 139) C (dm_Mo_shape 58 rfl) rfl (by decide) (fun c109 => ?_) (fun c109 => ?_)
                  · refine gi_iload_n (q := 140) (i := 2) C (dm_Mo_shape 72 rfl) rfl rfl rfl ?_
                    refine gi_bipush (q := 142) (v := 7) C (dm_Mo_shape 73 rfl) rfl (by decide) ?_
                    refine gi_icmp_lt (q := 145) (tgt := 169) C (dm_Mo_shape 74 rfl) rfl (by decide) (fun c142 => ?_) (fun c142 => ?_)
                    · exact absurd c142 (by decide)
                    · refine gi_iload_n (q := 146) (i := 2) C (dm_Mo_shape 75 rfl) rfl rfl rfl ?_
                      refine gi_bipush (q := 148) (v := 17) C (dm_Mo_shape 76 rfl) rfl (by decide) ?_
                      refine gi_icmp_gt (q := 151) (tgt := 169) C (dm_Mo_shape 77 rfl) rfl (by decide) (fun c148 => ?_) (fun c148 => ?_)
                      · refine gi_iload_n (q := 170) (i := 2) C (dm_Mo_shape 88 rfl) rfl rfl rfl ?_
                        refine gi_bipush (q := 172) (v := 18) C (dm_Mo_shape 89 rfl) rfl (by decide) ?_
                        refine gi_icmp_ne (q := 175) (tgt := 188) C (dm_Mo_shape 90 rfl) rfl (by decide) (fun c172 => ?_) (fun c172 => ?_)
                        · refine gi_iload_n (q := 189) (i := 2) C (dm_Mo_shape 98 rfl) rfl rfl rfl ?_
                          refine gi_bipush (q := 191) (v := 20) C (dm_Mo_shape 99 rfl) rfl (by decide) ?_
                          refine gi_icmp_lt (q := 194) (tgt := 213) C (dm_Mo_shape 100 rfl) rfl (by decide) (fun c191 => ?_) (fun c191 => ?_)
                          · exact absurd c191 (by decide)
                          · refine gi_iload_n (q := 195) (i := 2) C (dm_Mo_shape 101 rfl) rfl rfl rfl ?_
                            refine gi_bipush (q := 197) (v := 25) C (dm_Mo_shape 102 rfl) rfl (by decide) ?_
                            refine gi_icmp_gt (q := 200) (tgt := 213) C (dm_Mo_shape 103 rfl) rfl (by decide) (fun c197 => ?_) (fun c197 => ?_)
                            · refine gi_iload_n (q := 214) (i := 2) C (dm_Mo_shape 111 rfl) rfl rfl rfl ?_
                              refine gi_bipush (q := 216) (v := 26) C (dm_Mo_shape 112 rfl) rfl (by decide) ?_
                              refine gi_icmp_eq (q := 219) (tgt := 225) C (dm_Mo_shape 113 rfl) rfl (by decide) (fun c216 => ?_) (fun c216 => ?_)
                              · exact absurd c216 (by decide)
                              · refine gi_iload_n (q := 220) (i := 2) C (dm_Mo_shape 114 rfl) rfl rfl rfl ?_
                                refine gi_bipush (q := 222) (v := 27) C (dm_Mo_shape 115 rfl) rfl (by decide) ?_
                                refine gi_icmp_ne (q := 225) (tgt := 233) C (dm_Mo_shape 116 rfl) rfl (by decide) (fun c222 => ?_) (fun c222 => ?_)
                                · refine gi_iload_n (q := 234) (i := 2) C (dm_Mo_shape 121 rfl) rfl rfl rfl ?_
                                  refine gi_bipush (q := 236) (v := 28) C (dm_Mo_shape 122 rfl) rfl (by decide) ?_
                                  refine gi_icmp_ne (q := 239) (tgt := 252) C (dm_Mo_shape 123 rfl) rfl (by decide) (fun c236 => ?_) (fun c236 => ?_)
                                  · refine gi_iload_n (q := 253) (i := 2) C (dm_Mo_shape 131 rfl) rfl rfl rfl ?_
                                    refine gi_bipush (q := 255) (v := 29) C (dm_Mo_shape 132 rfl) rfl (by decide) ?_
                                    refine gi_icmp_ne (q := 258) (tgt := 271) C (dm_Mo_shape 133 rfl) rfl (by decide) (fun c255 => ?_) (fun c255 => ?_)
                                    · refine gi_iload_n (q := 272) (i := 2) C (dm_Mo_shape 141 rfl) rfl rfl rfl ?_
                                      refine gi_bipush (q := 274) (v := 30) C (dm_Mo_shape 142 rfl) rfl (by decide) ?_
                                      refine gi_icmp_ne (q := 277) (tgt := 295) C (dm_Mo_shape 143 rfl) rfl (by decide) (fun c274 => ?_) (fun c274 => ?_)
                                      · refine gi_iload_n (q := 296) (i := 2) C (dm_Mo_shape 154 rfl) rfl rfl rfl ?_
                                        refine gi_bipush (q := 298) (v := 31) C (dm_Mo_shape 155 rfl) rfl (by decide) ?_
                                        refine gi_icmp_ne (q := 301) (tgt := 319) C (dm_Mo_shape 156 rfl) rfl (by decide) (fun c298 => ?_) (fun c298 => ?_)
                                        · refine gi_iload_n (q := 320) (i := 2) C (dm_Mo_shape 167 rfl) rfl rfl rfl ?_
                                          refine gi_bipush (q := 322) (v := 32) C (dm_Mo_shape 168 rfl) rfl (by decide) ?_
                                          refine gi_icmp_ne (q := 325) (tgt := 395) C (dm_Mo_shape 169 rfl) rfl (by decide) (fun c322 => ?_) (fun c322 => ?_)
                                          · refine gi_iload_n (q := 396) (i := 2) C (dm_Mo_shape 207 rfl) rfl rfl rfl ?_
                                            refine gi_bipush (q := 398) (v := 33) C (dm_Mo_shape 208 rfl) rfl (by decide) ?_
                                            refine gi_icmp_ne (q := 401) (tgt := 425) C (dm_Mo_shape 209 rfl) rfl (by decide) (fun c398 => ?_) (fun c398 => ?_)
                                            · exact absurd c398 (by decide)
                                            · refine gi_aload_n (q := 402) (i := 0) C (dm_Mo_shape 210 rfl) rfl rfl rfl ?_
                                              refine gi_get (q := 405) C (dm_Mo_shape 211 rfl) rfl fl_Mo_19 Ha (mo_g4 Hf) ?_
                                              refine gi_iload_n (q := 406) (i := 1) C (dm_Mo_shape 212 rfl) rfl rfl rfl ?_
                                              refine gi_iald (q := 407) C (dm_Mo_shape 213 rfl) rfl rfl (mo_a4 H) (inN (show m < 8 by omega) (by decide)) ?_
                                              rw [nI_clamp (show m < 2 ^ 31 by omega), hP 4 (by decide) (by decide), e4]
                                              refine gi_if_le (q := 410) (tgt := 436) C (dm_Mo_shape 214 rfl) rfl (by decide) (fun c407 => ?_) (fun c407 => ?_)
                                              · refine gi_vret C hr (dm_Mo_shape 230 rfl) ?_
                                                have r0 : pN P 4 m = 0 := by
                                                  rcases Nat.eq_zero_or_pos (pN P 4 m) with q | q
                                                  · exact q
                                                  · exact absurd c407 (Int32.not_le.mpr ((nI_ps0 (by omega)).mpr q))
                                                refine ⟨rfl, rfl, ?_⟩
                                                rw [show shX P m 33 a x = (x, false) from by
                                                  show (if pN P 4 m = 0 then (x, false) else _) = _
                                                  rw [if_pos r0]]
                                                exact ⟨S, H, outM.rf, hS, frS.rf⟩
                                              · have r0 : ¬ pN P 4 m = 0 := fun q => by
                                                  rw [q] at c407
                                                  exact absurd c407 (by decide)
                                                refine gi_aload_n (q := 411) (i := 0) C (dm_Mo_shape 215 rfl) rfl rfl rfl ?_
                                                refine gi_aload_n (q := 412) (i := 0) C (dm_Mo_shape 216 rfl) rfl rfl rfl ?_
                                                refine gi_get (q := 415) C (dm_Mo_shape 217 rfl) rfl fl_Mo_19 Ha (mo_g4 Hf) ?_
                                                refine gi_iload_n (q := 416) (i := 1) C (dm_Mo_shape 218 rfl) rfl rfl rfl ?_
                                                refine gi_iald (q := 417) C (dm_Mo_shape 219 rfl) rfl rfl (mo_a4 H) (inN (show m < 8 by omega) (by decide)) ?_
                                                rw [nI_clamp (show m < 2 ^ 31 by omega), hP 4 (by decide) (by decide), e4]
                                                refine gi_iconst (q := 418) (v := 1) C (dm_Mo_shape 220 rfl) rfl (by decide) ?_
                                                refine gi_isub (q := 419) C (dm_Mo_shape 221 rfl) rfl ?_
                                                rw [show nI (pN P 4 m) - 1 = bI (decide (pN P 4 m = 2)) from by
                                                  rcases (show pN P 4 m = 1 ∨ pN P 4 m = 2 by omega) with q | q <;> rw [q] <;> rfl]
                                                refine gi_callv 1 (q := 422) C (dm_Mo_shape 222 rfl) rfl my_Mo_takes lk_Mo_211 im_Mo_takes rfl (c_Mo_takes (decide (pN P 4 m = 2)) hS H) Ha rfl rfl ⟨(Nat.le_of_ble_eq_true rfl), (Nat.le_of_ble_eq_true rfl)⟩ (Nat.le_of_ble_eq_true rfl) ⟨(Nat.le_of_ble_eq_true rfl), (Nat.le_of_ble_eq_true rfl)⟩ (fun r419 n419 h419 e419 => ?_)
                                                obtain ⟨rfl, rfl, S419, H419, o419, r419, f419⟩ := e419
                                                obtain ⟨fs419, Ha419, Hf419⟩ := id H419.1
                                                refine gi_goto (tgt := 436) C (dm_Mo_shape 223 rfl) (by decide) ?_
                                                refine gi_vret C hr (dm_Mo_shape 230 rfl) ?_
                                                refine ⟨rfl, rfl, ?_⟩
                                                rw [show shX P m 33 a x = tkX (decide (pN P 4 m = 2)) (x, false) from by
                                                  show (if pN P 4 m = 0 then (x, false) else _) = _
                                                  rw [if_neg r0]]
                                                exact ⟨_, H419, o419, r419, f419⟩
                                          · exact absurd c322 (by decide)
                                        · exact absurd c298 (by decide)
                                      · exact absurd c274 (by decide)
                                    · exact absurd c255 (by decide)
                                  · exact absurd c236 (by decide)
                                · exact absurd c222 (by decide)
                            · exact absurd c197 (by decide)
                        · exact absurd c172 (by decide)
                      · exact absurd c148 (by decide)
                  · exact absurd c109 (by decide)
                · exact absurd c82 (by decide)
              · exact absurd c69 (by decide)
            · exact absurd c56 (by decide)
          · exact absurd c38 (by decide)
        · exact absurd c20 (by decide)
      · exact absurd c7 (by decide)
  · subst e
    refine gi_iload_n (q := 1) (i := 2) C (dm_Mo_shape 0 rfl) rfl rfl rfl ?_
    refine gi_if_eq (q := 4) (tgt := 10) C (dm_Mo_shape 1 rfl) rfl (by decide) (fun c1 => ?_) (fun c1 => ?_)
    · exact absurd c1 (by decide)
    · refine gi_iload_n (q := 5) (i := 2) C (dm_Mo_shape 2 rfl) rfl rfl rfl ?_
      refine gi_bipush (q := 7) (v := 34) C (dm_Mo_shape 3 rfl) rfl (by decide) ?_
      refine gi_icmp_ne (q := 10) (tgt := 18) C (dm_Mo_shape 4 rfl) rfl (by decide) (fun c7 => ?_) (fun c7 => ?_)
      · exact absurd c7 (by decide)
      · refine gi_aload_n (q := 11) (i := 0) C (dm_Mo_shape 5 rfl) rfl rfl rfl ?_
        refine gi_iconst (q := 12) (v := 0) C (dm_Mo_shape 6 rfl) rfl (by decide) ?_
        refine gi_callv 1 (q := 15) C (dm_Mo_shape 7 rfl) rfl my_Mo_puts lk_Mo_203 im_Mo_puts rfl (c_Mo_puts false hS (by exact (show x.1 ≤ 11 by omega)) H) Ha rfl rfl ⟨(Nat.le_of_ble_eq_true rfl), (Nat.le_of_ble_eq_true rfl)⟩ (Nat.le_of_ble_eq_true rfl) ⟨(Nat.le_of_ble_eq_true rfl), (Nat.le_of_ble_eq_true rfl)⟩ (fun r12 n12 h12 e12 => ?_)
        obtain ⟨rfl, rfl, S12, H12, o12, r12, f12⟩ := e12
        obtain ⟨fs12, Ha12, Hf12⟩ := id H12.1
        refine gi_goto (tgt := 436) C (dm_Mo_shape 8 rfl) (by decide) ?_
        refine gi_vret C hr (dm_Mo_shape 230 rfl) ?_
        refine ⟨rfl, rfl, ?_⟩
        rw [show shX P m 34 a x = (ptX false (x, false)) from rfl]
        exact ⟨_, H12, o12, r12, f12⟩
  · subst e
    refine gi_iload_n (q := 1) (i := 2) C (dm_Mo_shape 0 rfl) rfl rfl rfl ?_
    refine gi_if_eq (q := 4) (tgt := 10) C (dm_Mo_shape 1 rfl) rfl (by decide) (fun c1 => ?_) (fun c1 => ?_)
    · exact absurd c1 (by decide)
    · refine gi_iload_n (q := 5) (i := 2) C (dm_Mo_shape 2 rfl) rfl rfl rfl ?_
      refine gi_bipush (q := 7) (v := 34) C (dm_Mo_shape 3 rfl) rfl (by decide) ?_
      refine gi_icmp_ne (q := 10) (tgt := 18) C (dm_Mo_shape 4 rfl) rfl (by decide) (fun c7 => ?_) (fun c7 => ?_)
      · refine gi_iload_n (q := 19) (i := 2) C (dm_Mo_shape 9 rfl) rfl rfl rfl ?_
        refine gi_iconst (q := 20) (v := 1) C (dm_Mo_shape 10 rfl) rfl (by decide) ?_
        refine gi_icmp_ne (q := 23) (tgt := 36) C (dm_Mo_shape 11 rfl) rfl (by decide) (fun c20 => ?_) (fun c20 => ?_)
        · refine gi_iload_n (q := 37) (i := 2) C (dm_Mo_shape 19 rfl) rfl rfl rfl ?_
          refine gi_iconst (q := 38) (v := 2) C (dm_Mo_shape 20 rfl) rfl (by decide) ?_
          refine gi_icmp_ne (q := 41) (tgt := 54) C (dm_Mo_shape 21 rfl) rfl (by decide) (fun c38 => ?_) (fun c38 => ?_)
          · refine gi_iload_n (q := 55) (i := 2) C (dm_Mo_shape 29 rfl) rfl rfl rfl ?_
            refine gi_iconst (q := 56) (v := 3) C (dm_Mo_shape 30 rfl) rfl (by decide) ?_
            refine gi_icmp_ne (q := 59) (tgt := 67) C (dm_Mo_shape 31 rfl) rfl (by decide) (fun c56 => ?_) (fun c56 => ?_)
            · refine gi_iload_n (q := 68) (i := 2) C (dm_Mo_shape 36 rfl) rfl rfl rfl ?_
              refine gi_iconst (q := 69) (v := 4) C (dm_Mo_shape 37 rfl) rfl (by decide) ?_
              refine gi_icmp_ne (q := 72) (tgt := 80) C (dm_Mo_shape 38 rfl) rfl (by decide) (fun c69 => ?_) (fun c69 => ?_)
              · refine gi_iload_n (q := 81) (i := 2) C (dm_Mo_shape 43 rfl) rfl rfl rfl ?_
                refine gi_iconst (q := 82) (v := 5) C (dm_Mo_shape 44 rfl) rfl (by decide) ?_
                refine gi_icmp_ne (q := 85) (tgt := 106) C (dm_Mo_shape 45 rfl) rfl (by decide) (fun c82 => ?_) (fun c82 => ?_)
                · refine gi_iload_n (q := 107) (i := 2) C (dm_Mo_shape 56 rfl) rfl rfl rfl ?_
                  refine gi_bipush (q := 109) (v := 6) C (dm_Mo_shape 57 rfl) rfl (by decide) ?_
                  refine gi_icmp_ne (q := 112) (tgt := 139) C (dm_Mo_shape 58 rfl) rfl (by decide) (fun c109 => ?_) (fun c109 => ?_)
                  · refine gi_iload_n (q := 140) (i := 2) C (dm_Mo_shape 72 rfl) rfl rfl rfl ?_
                    refine gi_bipush (q := 142) (v := 7) C (dm_Mo_shape 73 rfl) rfl (by decide) ?_
                    refine gi_icmp_lt (q := 145) (tgt := 169) C (dm_Mo_shape 74 rfl) rfl (by decide) (fun c142 => ?_) (fun c142 => ?_)
                    · exact absurd c142 (by decide)
                    · refine gi_iload_n (q := 146) (i := 2) C (dm_Mo_shape 75 rfl) rfl rfl rfl ?_
                      refine gi_bipush (q := 148) (v := 17) C (dm_Mo_shape 76 rfl) rfl (by decide) ?_
                      refine gi_icmp_gt (q := 151) (tgt := 169) C (dm_Mo_shape 77 rfl) rfl (by decide) (fun c148 => ?_) (fun c148 => ?_)
                      · refine gi_iload_n (q := 170) (i := 2) C (dm_Mo_shape 88 rfl) rfl rfl rfl ?_
                        refine gi_bipush (q := 172) (v := 18) C (dm_Mo_shape 89 rfl) rfl (by decide) ?_
                        refine gi_icmp_ne (q := 175) (tgt := 188) C (dm_Mo_shape 90 rfl) rfl (by decide) (fun c172 => ?_) (fun c172 => ?_)
                        · refine gi_iload_n (q := 189) (i := 2) C (dm_Mo_shape 98 rfl) rfl rfl rfl ?_
                          refine gi_bipush (q := 191) (v := 20) C (dm_Mo_shape 99 rfl) rfl (by decide) ?_
                          refine gi_icmp_lt (q := 194) (tgt := 213) C (dm_Mo_shape 100 rfl) rfl (by decide) (fun c191 => ?_) (fun c191 => ?_)
                          · exact absurd c191 (by decide)
                          · refine gi_iload_n (q := 195) (i := 2) C (dm_Mo_shape 101 rfl) rfl rfl rfl ?_
                            refine gi_bipush (q := 197) (v := 25) C (dm_Mo_shape 102 rfl) rfl (by decide) ?_
                            refine gi_icmp_gt (q := 200) (tgt := 213) C (dm_Mo_shape 103 rfl) rfl (by decide) (fun c197 => ?_) (fun c197 => ?_)
                            · refine gi_iload_n (q := 214) (i := 2) C (dm_Mo_shape 111 rfl) rfl rfl rfl ?_
                              refine gi_bipush (q := 216) (v := 26) C (dm_Mo_shape 112 rfl) rfl (by decide) ?_
                              refine gi_icmp_eq (q := 219) (tgt := 225) C (dm_Mo_shape 113 rfl) rfl (by decide) (fun c216 => ?_) (fun c216 => ?_)
                              · exact absurd c216 (by decide)
                              · refine gi_iload_n (q := 220) (i := 2) C (dm_Mo_shape 114 rfl) rfl rfl rfl ?_
                                refine gi_bipush (q := 222) (v := 27) C (dm_Mo_shape 115 rfl) rfl (by decide) ?_
                                refine gi_icmp_ne (q := 225) (tgt := 233) C (dm_Mo_shape 116 rfl) rfl (by decide) (fun c222 => ?_) (fun c222 => ?_)
                                · refine gi_iload_n (q := 234) (i := 2) C (dm_Mo_shape 121 rfl) rfl rfl rfl ?_
                                  refine gi_bipush (q := 236) (v := 28) C (dm_Mo_shape 122 rfl) rfl (by decide) ?_
                                  refine gi_icmp_ne (q := 239) (tgt := 252) C (dm_Mo_shape 123 rfl) rfl (by decide) (fun c236 => ?_) (fun c236 => ?_)
                                  · refine gi_iload_n (q := 253) (i := 2) C (dm_Mo_shape 131 rfl) rfl rfl rfl ?_
                                    refine gi_bipush (q := 255) (v := 29) C (dm_Mo_shape 132 rfl) rfl (by decide) ?_
                                    refine gi_icmp_ne (q := 258) (tgt := 271) C (dm_Mo_shape 133 rfl) rfl (by decide) (fun c255 => ?_) (fun c255 => ?_)
                                    · refine gi_iload_n (q := 272) (i := 2) C (dm_Mo_shape 141 rfl) rfl rfl rfl ?_
                                      refine gi_bipush (q := 274) (v := 30) C (dm_Mo_shape 142 rfl) rfl (by decide) ?_
                                      refine gi_icmp_ne (q := 277) (tgt := 295) C (dm_Mo_shape 143 rfl) rfl (by decide) (fun c274 => ?_) (fun c274 => ?_)
                                      · refine gi_iload_n (q := 296) (i := 2) C (dm_Mo_shape 154 rfl) rfl rfl rfl ?_
                                        refine gi_bipush (q := 298) (v := 31) C (dm_Mo_shape 155 rfl) rfl (by decide) ?_
                                        refine gi_icmp_ne (q := 301) (tgt := 319) C (dm_Mo_shape 156 rfl) rfl (by decide) (fun c298 => ?_) (fun c298 => ?_)
                                        · refine gi_iload_n (q := 320) (i := 2) C (dm_Mo_shape 167 rfl) rfl rfl rfl ?_
                                          refine gi_bipush (q := 322) (v := 32) C (dm_Mo_shape 168 rfl) rfl (by decide) ?_
                                          refine gi_icmp_ne (q := 325) (tgt := 395) C (dm_Mo_shape 169 rfl) rfl (by decide) (fun c322 => ?_) (fun c322 => ?_)
                                          · refine gi_iload_n (q := 396) (i := 2) C (dm_Mo_shape 207 rfl) rfl rfl rfl ?_
                                            refine gi_bipush (q := 398) (v := 33) C (dm_Mo_shape 208 rfl) rfl (by decide) ?_
                                            refine gi_icmp_ne (q := 401) (tgt := 425) C (dm_Mo_shape 209 rfl) rfl (by decide) (fun c398 => ?_) (fun c398 => ?_)
                                            · refine gi_iload_n (q := 426) (i := 2) C (dm_Mo_shape 224 rfl) rfl rfl rfl ?_
                                              refine gi_bipush (q := 428) (v := 35) C (dm_Mo_shape 225 rfl) rfl (by decide) ?_
                                              refine gi_icmp_ne (q := 431) (tgt := 436) C (dm_Mo_shape 226 rfl) rfl (by decide) (fun c428 => ?_) (fun c428 => ?_)
                                              · exact absurd c428 (by decide)
                                              · refine gi_aload_n (q := 432) (i := 0) C (dm_Mo_shape 227 rfl) rfl rfl rfl ?_
                                                refine gi_iconst (q := 433) (v := 0) C (dm_Mo_shape 228 rfl) rfl (by decide) ?_
                                                refine gi_callv 1 (q := 436) C (dm_Mo_shape 229 rfl) rfl my_Mo_takes lk_Mo_211 im_Mo_takes rfl (c_Mo_takes false hS H) Ha rfl rfl ⟨(Nat.le_of_ble_eq_true rfl), (Nat.le_of_ble_eq_true rfl)⟩ (Nat.le_of_ble_eq_true rfl) ⟨(Nat.le_of_ble_eq_true rfl), (Nat.le_of_ble_eq_true rfl)⟩ (fun r433 n433 h433 e433 => ?_)
                                                obtain ⟨rfl, rfl, S433, H433, o433, r433, f433⟩ := e433
                                                obtain ⟨fs433, Ha433, Hf433⟩ := id H433.1
                                                refine gi_vret C hr (dm_Mo_shape 230 rfl) ?_
                                                refine ⟨rfl, rfl, ?_⟩
                                                rw [show shX P m 35 a x = (tkX false (x, false)) from rfl]
                                                exact ⟨_, H433, o433, r433, f433⟩
                                            · exact absurd c398 (by decide)
                                          · exact absurd c322 (by decide)
                                        · exact absurd c298 (by decide)
                                      · exact absurd c274 (by decide)
                                    · exact absurd c255 (by decide)
                                  · exact absurd c236 (by decide)
                                · exact absurd c222 (by decide)
                            · exact absurd c197 (by decide)
                        · exact absurd c172 (by decide)
                      · exact absurd c148 (by decide)
                  · exact absurd c109 (by decide)
                · exact absurd c82 (by decide)
              · exact absurd c69 (by decide)
            · exact absurd c56 (by decide)
          · exact absurd c38 (by decide)
        · exact absurd c20 (by decide)
      · exact absurd c7 (by decide)
end RB3
