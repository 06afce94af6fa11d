section FA2
variable {l : Launch} {V : gi_V} {n : Nat} {h : gi_H}
set_option maxHeartbeats 4000000 in
set_option maxRecDepth 100000 in
theorem c_Fa_init (a : Nat) (ha : h a = some (gi_O 3 z_Fa)) : gi_T l V y_Fa_init b_Fa_init 2 none 3 62 8413 57508 [.ref a] (a + 1) h (fun r n' h' => r = none ∧ n' = a + 8414 ∧ fa_at a (fun t => ro_0 (fa_row a t)) h' ∧ ∀ b, b < a → h' b = h b) := by
  refine gi_enter (by decide) (Nat.le_of_ble_eq_true rfl) ?_
  intro p e s m args below meth c C hr hnm
  refine gi_aload_n (q := 1) (i := 0) C (dm_Fa_init 0 rfl) rfl rfl rfl ?_
  refine gi_objInit (q := 4) C (dm_Fa_init 1 rfl) rfl lo_Fa_3 ob_w (Nat.le_of_ble_eq_true rfl) (Nat.le_of_ble_eq_true rfl) ?_
  refine gi_aload_n (q := 5) (i := 0) C (dm_Fa_init 2 rfl) rfl rfl rfl ?_
  refine gi_sipush (q := 8) (v := 480) C (dm_Fa_init 3 rfl) rfl (by decide) ?_
  refine gi_newq (kd := 4) (q := 11) (N := 480) C (dm_Fa_init 4 rfl) rfl cl_Fa_9 ao_Ro rfl (by decide) (by decide) (by decide) (Nat.le_of_ble_eq_true rfl) (Nat.le_of_ble_eq_true rfl) ?_
  refine gi_putF (q := 14) C hnm (dm_Fa_init 5 rfl) rfl fF_Fa_11 fp_Fa_0 rfl (by repeat (first | exact gi_up_self _ _ _ | assumption | rw [gi_up_ne (by omega)])) (Nat.le_of_ble_eq_true rfl) rfl rfl ?_
  refine gi_aload_n (q := 15) (i := 0) C (dm_Fa_init 6 rfl) rfl rfl rfl ?_
  refine gi_bipush (q := 17) (v := 25) C (dm_Fa_init 7 rfl) rfl (by decide) ?_
  refine gi_newq (kd := 4) (q := 20) (N := 25) C (dm_Fa_init 8 rfl) rfl cl_Fa_9 ao_Ro rfl (by decide) (by decide) (by decide) (Nat.le_of_ble_eq_true rfl) (Nat.le_of_ble_eq_true rfl) ?_
  refine gi_putF (q := 23) C hnm (dm_Fa_init 9 rfl) rfl fF_Fa_17 fp_Fa_1 rfl (by repeat (first | exact gi_up_self _ _ _ | assumption | rw [gi_up_ne (by omega)])) (Nat.le_of_ble_eq_true rfl) rfl rfl ?_
  refine gi_aload_n (q := 24) (i := 0) C (dm_Fa_init 10 rfl) rfl rfl rfl ?_
  refine gi_bipush (q := 26) (v := 25) C (dm_Fa_init 11 rfl) rfl (by decide) ?_
  refine gi_newq (kd := 4) (q := 29) (N := 25) C (dm_Fa_init 12 rfl) rfl cl_Fa_9 ao_Ro rfl (by decide) (by decide) (by decide) (Nat.le_of_ble_eq_true rfl) (Nat.le_of_ble_eq_true rfl) ?_
  refine gi_putF (q := 32) C hnm (dm_Fa_init 13 rfl) rfl fF_Fa_20 fp_Fa_2 rfl (by repeat (first | exact gi_up_self _ _ _ | assumption | rw [gi_up_ne (by omega)])) (Nat.le_of_ble_eq_true rfl) rfl rfl ?_
  refine gi_aload_n (q := 33) (i := 0) C (dm_Fa_init 14 rfl) rfl rfl rfl ?_
  refine gi_iconst (q := 34) (v := 4) C (dm_Fa_init 15 rfl) rfl (by decide) ?_
  refine gi_newq (kd := 4) (q := 37) (N := 4) C (dm_Fa_init 16 rfl) rfl cl_Fa_9 ao_Ro rfl (by decide) (by decide) (by decide) (Nat.le_of_ble_eq_true rfl) (Nat.le_of_ble_eq_true rfl) ?_
  refine gi_putF (q := 40) C hnm (dm_Fa_init 17 rfl) rfl fF_Fa_23 fp_Fa_3 rfl (by repeat (first | exact gi_up_self _ _ _ | assumption | rw [gi_up_ne (by omega)])) (Nat.le_of_ble_eq_true rfl) rfl rfl ?_
  refine gi_aload_n (q := 41) (i := 0) C (dm_Fa_init 18 rfl) rfl rfl rfl ?_
  refine gi_bipush (q := 43) (v := 8) C (dm_Fa_init 19 rfl) rfl (by decide) ?_
  refine gi_newq (kd := 4) (q := 46) (N := 8) C (dm_Fa_init 20 rfl) rfl cl_Fa_9 ao_Ro rfl (by decide) (by decide) (by decide) (Nat.le_of_ble_eq_true rfl) (Nat.le_of_ble_eq_true rfl) ?_
  refine gi_putF (q := 49) C hnm (dm_Fa_init 21 rfl) rfl fF_Fa_26 fp_Fa_4 rfl (by repeat (first | exact gi_up_self _ _ _ | assumption | rw [gi_up_ne (by omega)])) (Nat.le_of_ble_eq_true rfl) rfl rfl ?_
  refine gi_iconst (q := 50) (v := 0) C (dm_Fa_init 22 rfl) rfl (by decide) ?_
  refine gi_istore_n (q := 51) (i := 1) C (dm_Fa_init 23 rfl) rfl rfl (Nat.le_of_ble_eq_true rfl) ?_
  refine gi_while (σ := Nat) (fun x => 480 - x) (fun x => [(1, .int (nI x)), (0, .ref a)]) (fun i => a + 6 + 17 * i) (fun i => 5 + 17 * i) (fun i => 542 + 117 * i) (fun i y => i ≤ 480 ∧ fa_mid a i 0 0 0 0 h y) 0 ?_ ?_ (List.forall_mem_cons.mpr ⟨rfl, List.forall_mem_cons.mpr ⟨rfl, fun _ h => absurd h List.not_mem_nil⟩⟩) (by first | rfl | omega | (dsimp only; omega)) (by first | rfl | omega | (dsimp only; omega)) (by first | rfl | omega | (dsimp only; omega))
  · exact ⟨Nat.zero_le _, ⟨by repeat (first | exact gi_up_self _ _ _ | rw [gi_up_ne (by omega)]), ⟨fun _ => none, by repeat (first | exact gi_up_self _ _ _ | rw [gi_up_ne (by omega)]), fun j hj => absurd hj (Nat.not_lt_zero j)⟩, ⟨fun _ => none, by repeat (first | exact gi_up_self _ _ _ | rw [gi_up_ne (by omega)]), fun j hj => absurd hj (Nat.not_lt_zero j)⟩, ⟨fun _ => none, by repeat (first | exact gi_up_self _ _ _ | rw [gi_up_ne (by omega)]), fun j hj => absurd hj (Nat.not_lt_zero j)⟩, ⟨fun _ => none, by repeat (first | exact gi_up_self _ _ _ | rw [gi_up_ne (by omega)]), fun j hj => absurd hj (Nat.not_lt_zero j)⟩, ⟨fun _ => none, by repeat (first | exact gi_up_self _ _ _ | rw [gi_up_ne (by omega)]), fun j hj => absurd hj (Nat.not_lt_zero j)⟩, fun j hj => absurd hj (Nat.not_lt_zero j), fun j hj => absurd hj (Nat.not_lt_zero j), fun j hj => absurd hj (Nat.not_lt_zero j), fun j hj => absurd hj (Nat.not_lt_zero j), fun j hj => absurd hj (Nat.not_lt_zero j), fun b hb => by repeat (first | rfl | rw [gi_up_ne (by omega)])⟩⟩
  · rintro i y ⟨hi, H⟩ ih
    try dsimp only at *
    refine gi_iload_n (q := 52) (i := 1) C (dm_Fa_init 24 rfl) rfl rfl rfl ?_
    refine gi_sipush (q := 55) (v := 480) C (dm_Fa_init 25 rfl) rfl (by decide) ?_
    refine gi_icmp_ge (q := 58) (tgt := 79) C (dm_Fa_init 26 rfl) rfl (by decide) (fun c55 => ?_) (fun c55 => ?_)
    · have hik : i = 480 := by
        rcases Nat.lt_or_ge i 480 with q | q
        · exact absurd c55 (show ¬ (480 : Int32) ≤ nI i from nI_ge (b := 480) q (by omega))
        · omega
      subst hik
      refine gi_iconst (q := 80) (v := 0) C (dm_Fa_init 37 rfl) rfl (by decide) ?_
      refine gi_istore_n (q := 81) (i := 1) C (dm_Fa_init 38 rfl) rfl rfl (Nat.le_of_ble_eq_true rfl) ?_
      refine gi_while (σ := Nat) (fun x => 25 - x) (fun x => [(1, .int (nI x)), (0, .ref a)]) (fun i => a + 8166 + 8 * i) (fun i => 8165 + 8 * i) (fun i => 56702 + 26 * i) (fun i y => i ≤ 25 ∧ fa_mid a 480 i i 0 0 h y) 0 ?_ ?_ (List.forall_mem_cons.mpr ⟨rfl, List.forall_mem_cons.mpr ⟨rfl, fun _ h => absurd h List.not_mem_nil⟩⟩) (by first | rfl | omega | (dsimp only; omega)) (by first | rfl | omega | (dsimp only; omega)) (by first | rfl | omega | (dsimp only; omega))
      · exact ⟨Nat.zero_le _, H⟩
      · rintro i y ⟨hi, H⟩ ih
        try dsimp only at *
        refine gi_iload_n (q := 82) (i := 1) C (dm_Fa_init 39 rfl) rfl rfl rfl ?_
        refine gi_bipush (q := 84) (v := 25) C (dm_Fa_init 40 rfl) rfl (by decide) ?_
        refine gi_icmp_ge (q := 87) (tgt := 121) C (dm_Fa_init 41 rfl) rfl (by decide) (fun c84 => ?_) (fun c84 => ?_)
        · have hik : i = 25 := by
            rcases Nat.lt_or_ge i 25 with q | q
            · exact absurd c84 (show ¬ (25 : Int32) ≤ nI i from nI_ge (b := 25) q (by omega))
            · omega
          subst hik
          refine gi_iconst (q := 122) (v := 0) C (dm_Fa_init 60 rfl) rfl (by decide) ?_
          refine gi_istore_n (q := 123) (i := 1) C (dm_Fa_init 61 rfl) rfl rfl (Nat.le_of_ble_eq_true rfl) ?_
          refine gi_while (σ := Nat) (fun x => 4 - x) (fun x => [(1, .int (nI x)), (0, .ref a)]) (fun i => a + 8366 + 4 * i) (fun i => 8365 + 4 * i) (fun i => 57352 + 13 * i) (fun i y => i ≤ 4 ∧ fa_mid a 480 25 25 i 0 h y) 0 ?_ ?_ (List.forall_mem_cons.mpr ⟨rfl, List.forall_mem_cons.mpr ⟨rfl, fun _ h => absurd h List.not_mem_nil⟩⟩) (by first | rfl | omega | (dsimp only; omega)) (by first | rfl | omega | (dsimp only; omega)) (by first | rfl | omega | (dsimp only; omega))
          · exact ⟨Nat.zero_le _, H⟩
          · rintro i y ⟨hi, H⟩ ih
            try dsimp only at *
            refine gi_iload_n (q := 124) (i := 1) C (dm_Fa_init 62 rfl) rfl rfl rfl ?_
            refine gi_iconst (q := 125) (v := 4) C (dm_Fa_init 63 rfl) rfl (by decide) ?_
            refine gi_icmp_ge (q := 128) (tgt := 148) C (dm_Fa_init 64 rfl) rfl (by decide) (fun c125 => ?_) (fun c125 => ?_)
            · have hik : i = 4 := by
                rcases Nat.lt_or_ge i 4 with q | q
                · exact absurd c125 (show ¬ (4 : Int32) ≤ nI i from nI_ge (b := 4) q (by omega))
                · omega
              subst hik
              refine gi_iconst (q := 149) (v := 0) C (dm_Fa_init 75 rfl) rfl (by decide) ?_
              refine gi_istore_n (q := 150) (i := 1) C (dm_Fa_init 76 rfl) rfl rfl (Nat.le_of_ble_eq_true rfl) ?_
              refine gi_while (σ := Nat) (fun x => 8 - x) (fun x => [(1, .int (nI x)), (0, .ref a)]) (fun i => a + 8382 + 4 * i) (fun i => 8381 + 4 * i) (fun i => 57404 + 13 * i) (fun i y => i ≤ 8 ∧ fa_mid a 480 25 25 4 i h y) 0 ?_ ?_ (List.forall_mem_cons.mpr ⟨rfl, List.forall_mem_cons.mpr ⟨rfl, fun _ h => absurd h List.not_mem_nil⟩⟩) (by first | rfl | omega | (dsimp only; omega)) (by first | rfl | omega | (dsimp only; omega)) (by first | rfl | omega | (dsimp only; omega))
              · exact ⟨Nat.zero_le _, H⟩
              · rintro i y ⟨hi, H⟩ ih
                try dsimp only at *
                refine gi_iload_n (q := 151) (i := 1) C (dm_Fa_init 77 rfl) rfl rfl rfl ?_
                refine gi_bipush (q := 153) (v := 8) C (dm_Fa_init 78 rfl) rfl (by decide) ?_
                refine gi_icmp_ge (q := 156) (tgt := 176) C (dm_Fa_init 79 rfl) rfl (by decide) (fun c153 => ?_) (fun c153 => ?_)
                · have hik : i = 8 := by
                    rcases Nat.lt_or_ge i 8 with q | q
                    · exact absurd c153 (show ¬ (8 : Int32) ≤ nI i from nI_ge (b := 8) q (by omega))
                    · omega
                  subst hik
                  refine gi_widen (k1 := 8413) (n1 := 57508) (by omega) (by omega) ?_
                  refine gi_vret C hr (dm_Fa_init 90 rfl) ?_
                  exact ⟨rfl, rfl, fa_done H⟩
                · have hlt : i < 8 := by
                    rcases Nat.lt_or_ge i 8 with q | q
                    · exact q
                    · exact absurd (show (8 : Int32) ≤ nI i from nI_le (a := 8) q (by omega)) c153
                  refine gi_aload_n (q := 157) (i := 0) C (dm_Fa_init 80 rfl) rfl rfl rfl ?_
                  obtain ⟨h0, ⟨f1, g1, e1⟩, ⟨f2, g2, e2⟩, ⟨f3, g3, e3⟩, ⟨f4, g4, e4⟩, ⟨f5, g5, e5⟩, r1, r2, r3, r4, r5, h9⟩ := id H
                  refine gi_get (q := 160) C (dm_Fa_init 81 rfl) rfl fl_Fa_26 H.1 rfl ?_
                  refine gi_iload_n (q := 161) (i := 1) C (dm_Fa_init 82 rfl) rfl rfl rfl ?_
                  refine gi_new (q := 164) C (dm_Fa_init 83 rfl) rfl nc_Fa_9 (by first | omega | (dsimp only; omega)) (by first | omega | (dsimp only; omega)) ?_
                  refine gi_dup (q := 165) C (dm_Fa_init 84 rfl) rfl rfl ?_
                  refine gi_iconst (q := 166) (v := 1) C (dm_Fa_init 85 rfl) rfl (by decide) ?_
                  refine gi_calli 1 (q := 169) C (dm_Fa_init 86 rfl) rfl my_Ro_init lk_Fa_29 im_Ro_init rfl (c_Ro_init (a + 8382 + 4 * i) 1 (by omega) (gi_up_self _ _ _) (by omega)) rfl rfl ⟨(Nat.le_of_ble_eq_true rfl), (Nat.le_of_ble_eq_true rfl)⟩ (Nat.le_of_ble_eq_true rfl) ⟨(by first | omega | (dsimp only; omega)), (by first | omega | (dsimp only; omega))⟩ (fun r166 n166 h166 e166 => ?_)
                  obtain ⟨rfl, rfl, hrow166, hold166⟩ := ro_new_at e166
                  refine gi_aast (q := 170) C (dm_Fa_init 87 rfl) rfl rfl rfl (by rw [hold166 _ (by omega)]; exact g5) hrow166.1 (vp_in_nI hlt (by omega)) ?_
                  refine gi_iinc (q := 173) (v := 1) C (dm_Fa_init 88 rfl) rfl rfl (by decide) (Nat.le_of_ble_eq_true rfl) ?_
                  refine gi_goto (tgt := 150) C (dm_Fa_init 89 rfl) (by decide) ?_
                  refine gi_close (ih (i + 1) _ ⟨hlt, fa_step4 hlt rfl H g5 hrow166 hold166⟩ (by first | omega | (dsimp only; omega))) (List.forall_mem_cons.mpr ⟨(by simp [gi_look, nI_1]), List.forall_mem_cons.mpr ⟨rfl, fun _ h => absurd h List.not_mem_nil⟩⟩) (by first | rfl | omega | (dsimp only; omega)) (by first | rfl | omega | (dsimp only; omega)) (by first | rfl | omega | (dsimp only; omega))
            · have hlt : i < 4 := by
                rcases Nat.lt_or_ge i 4 with q | q
                · exact q
                · exact absurd (show (4 : Int32) ≤ nI i from nI_le (a := 4) q (by omega)) c125
              refine gi_aload_n (q := 129) (i := 0) C (dm_Fa_init 65 rfl) rfl rfl rfl ?_
              obtain ⟨h0, ⟨f1, g1, e1⟩, ⟨f2, g2, e2⟩, ⟨f3, g3, e3⟩, ⟨f4, g4, e4⟩, ⟨f5, g5, e5⟩, r1, r2, r3, r4, r5, h9⟩ := id H
              refine gi_get (q := 132) C (dm_Fa_init 66 rfl) rfl fl_Fa_23 H.1 rfl ?_
              refine gi_iload_n (q := 133) (i := 1) C (dm_Fa_init 67 rfl) rfl rfl rfl ?_
              refine gi_new (q := 136) C (dm_Fa_init 68 rfl) rfl nc_Fa_9 (by first | omega | (dsimp only; omega)) (by first | omega | (dsimp only; omega)) ?_
              refine gi_dup (q := 137) C (dm_Fa_init 69 rfl) rfl rfl ?_
              refine gi_iconst (q := 138) (v := 1) C (dm_Fa_init 70 rfl) rfl (by decide) ?_
              refine gi_calli 1 (q := 141) C (dm_Fa_init 71 rfl) rfl my_Ro_init lk_Fa_29 im_Ro_init rfl (c_Ro_init (a + 8366 + 4 * i) 1 (by omega) (gi_up_self _ _ _) (by omega)) rfl rfl ⟨(Nat.le_of_ble_eq_true rfl), (Nat.le_of_ble_eq_true rfl)⟩ (Nat.le_of_ble_eq_true rfl) ⟨(by first | omega | (dsimp only; omega)), (by first | omega | (dsimp only; omega))⟩ (fun r138 n138 h138 e138 => ?_)
              obtain ⟨rfl, rfl, hrow138, hold138⟩ := ro_new_at e138
              refine gi_aast (q := 142) C (dm_Fa_init 72 rfl) rfl rfl rfl (by rw [hold138 _ (by omega)]; exact g4) hrow138.1 (vp_in_nI hlt (by omega)) ?_
              refine gi_iinc (q := 145) (v := 1) C (dm_Fa_init 73 rfl) rfl rfl (by decide) (Nat.le_of_ble_eq_true rfl) ?_
              refine gi_goto (tgt := 123) C (dm_Fa_init 74 rfl) (by decide) ?_
              refine gi_close (ih (i + 1) _ ⟨hlt, fa_step3 hlt rfl H g4 hrow138 hold138⟩ (by first | omega | (dsimp only; omega))) (List.forall_mem_cons.mpr ⟨(by simp [gi_look, nI_1]), List.forall_mem_cons.mpr ⟨rfl, fun _ h => absurd h List.not_mem_nil⟩⟩) (by first | rfl | omega | (dsimp only; omega)) (by first | rfl | omega | (dsimp only; omega)) (by first | rfl | omega | (dsimp only; omega))
        · have hlt : i < 25 := by
            rcases Nat.lt_or_ge i 25 with q | q
            · exact q
            · exact absurd (show (25 : Int32) ≤ nI i from nI_le (a := 25) q (by omega)) c84
          refine gi_aload_n (q := 88) (i := 0) C (dm_Fa_init 42 rfl) rfl rfl rfl ?_
          obtain ⟨h0, ⟨f1, g1, e1⟩, ⟨f2, g2, e2⟩, ⟨f3, g3, e3⟩, ⟨f4, g4, e4⟩, ⟨f5, g5, e5⟩, r1, r2, r3, r4, r5, h9⟩ := id H
          refine gi_get (q := 91) C (dm_Fa_init 43 rfl) rfl fl_Fa_17 H.1 rfl ?_
          refine gi_iload_n (q := 92) (i := 1) C (dm_Fa_init 44 rfl) rfl rfl rfl ?_
          refine gi_new (q := 95) C (dm_Fa_init 45 rfl) rfl nc_Fa_9 (by first | omega | (dsimp only; omega)) (by first | omega | (dsimp only; omega)) ?_
          refine gi_dup (q := 96) C (dm_Fa_init 46 rfl) rfl rfl ?_
          refine gi_iconst (q := 97) (v := 1) C (dm_Fa_init 47 rfl) rfl (by decide) ?_
          refine gi_calli 1 (q := 100) C (dm_Fa_init 48 rfl) rfl my_Ro_init lk_Fa_29 im_Ro_init rfl (c_Ro_init (a + 8166 + 8 * i) 1 (by omega) (gi_up_self _ _ _) (by omega)) rfl rfl ⟨(Nat.le_of_ble_eq_true rfl), (Nat.le_of_ble_eq_true rfl)⟩ (Nat.le_of_ble_eq_true rfl) ⟨(by first | omega | (dsimp only; omega)), (by first | omega | (dsimp only; omega))⟩ (fun r97 n97 h97 e97 => ?_)
          obtain ⟨rfl, rfl, hrow97, hold97⟩ := ro_new_at e97
          refine gi_aast (q := 101) C (dm_Fa_init 49 rfl) rfl rfl rfl (by rw [hold97 _ (by omega)]; exact g2) hrow97.1 (vp_in_nI hlt (by omega)) ?_
          have H2 := fa_step1 hlt rfl H g2 hrow97 hold97
          obtain ⟨k0, ⟨_, _, _⟩, ⟨_, _, _⟩, ⟨f3', k3, _⟩, _⟩ := id H2
          refine gi_aload_n (q := 102) (i := 0) C (dm_Fa_init 50 rfl) rfl rfl rfl ?_
          refine gi_get (q := 105) C (dm_Fa_init 51 rfl) rfl fl_Fa_20 H2.1 rfl ?_
          refine gi_iload_n (q := 106) (i := 1) C (dm_Fa_init 52 rfl) rfl rfl rfl ?_
          refine gi_new (q := 109) C (dm_Fa_init 53 rfl) rfl nc_Fa_9 (by first | omega | (dsimp only; omega)) (by first | omega | (dsimp only; omega)) ?_
          refine gi_dup (q := 110) C (dm_Fa_init 54 rfl) rfl rfl ?_
          refine gi_iconst (q := 111) (v := 1) C (dm_Fa_init 55 rfl) rfl (by decide) ?_
          refine gi_calli 1 (q := 114) C (dm_Fa_init 56 rfl) rfl my_Ro_init lk_Fa_29 im_Ro_init rfl (c_Ro_init (a + 8166 + 8 * i + 3 + 1) 1 (by omega) (gi_up_self _ _ _) (by omega)) rfl rfl ⟨(Nat.le_of_ble_eq_true rfl), (Nat.le_of_ble_eq_true rfl)⟩ (Nat.le_of_ble_eq_true rfl) ⟨(by first | omega | (dsimp only; omega)), (by first | omega | (dsimp only; omega))⟩ (fun r111 n111 h111 e111 => ?_)
          obtain ⟨rfl, rfl, hrow111, hold111⟩ := ro_new_at e111
          refine gi_aast (q := 115) C (dm_Fa_init 57 rfl) rfl rfl rfl (by rw [hold111 _ (by omega)]; exact k3) hrow111.1 (vp_in_nI hlt (by omega)) ?_
          refine gi_iinc (q := 118) (v := 1) C (dm_Fa_init 58 rfl) rfl rfl (by decide) (Nat.le_of_ble_eq_true rfl) ?_
          refine gi_goto (tgt := 81) C (dm_Fa_init 59 rfl) (by decide) ?_
          refine gi_close (ih (i + 1) _ ⟨hlt, fa_step2 hlt (by omega) H2 k3 hrow111 hold111⟩ (by first | omega | (dsimp only; omega))) (List.forall_mem_cons.mpr ⟨(by simp [gi_look, nI_1]), List.forall_mem_cons.mpr ⟨rfl, fun _ h => absurd h List.not_mem_nil⟩⟩) (by first | rfl | omega | (dsimp only; omega)) (by first | rfl | omega | (dsimp only; omega)) (by first | rfl | omega | (dsimp only; omega))
    · have hlt : i < 480 := by
        rcases Nat.lt_or_ge i 480 with q | q
        · exact q
        · exact absurd (show (480 : Int32) ≤ nI i from nI_le (a := 480) q (by omega)) c55
      refine gi_aload_n (q := 59) (i := 0) C (dm_Fa_init 27 rfl) rfl rfl rfl ?_
      obtain ⟨h0, ⟨f1, g1, e1⟩, ⟨f2, g2, e2⟩, ⟨f3, g3, e3⟩, ⟨f4, g4, e4⟩, ⟨f5, g5, e5⟩, r1, r2, r3, r4, r5, h9⟩ := id H
      refine gi_get (q := 62) C (dm_Fa_init 28 rfl) rfl fl_Fa_11 H.1 rfl ?_
      refine gi_iload_n (q := 63) (i := 1) C (dm_Fa_init 29 rfl) rfl rfl rfl ?_
      refine gi_new (q := 66) C (dm_Fa_init 30 rfl) rfl nc_Fa_9 (by first | omega | (dsimp only; omega)) (by first | omega | (dsimp only; omega)) ?_
      refine gi_dup (q := 67) C (dm_Fa_init 31 rfl) rfl rfl ?_
      refine gi_bipush (q := 69) (v := 14) C (dm_Fa_init 32 rfl) rfl (by decide) ?_
      refine gi_calli 1 (q := 72) C (dm_Fa_init 33 rfl) rfl my_Ro_init lk_Fa_29 im_Ro_init rfl (c_Ro_init (a + 6 + 17 * i) 14 (by omega) (gi_up_self _ _ _) (by omega)) rfl rfl ⟨(Nat.le_of_ble_eq_true rfl), (Nat.le_of_ble_eq_true rfl)⟩ (Nat.le_of_ble_eq_true rfl) ⟨(by first | omega | (dsimp only; omega)), (by first | omega | (dsimp only; omega))⟩ (fun r69 n69 h69 e69 => ?_)
      obtain ⟨rfl, rfl, hrow69, hold69⟩ := ro_new_at e69
      refine gi_aast (q := 73) C (dm_Fa_init 34 rfl) rfl rfl rfl (by rw [hold69 _ (by omega)]; exact g1) hrow69.1 (vp_in_nI hlt (by omega)) ?_
      refine gi_iinc (q := 76) (v := 1) C (dm_Fa_init 35 rfl) rfl rfl (by decide) (Nat.le_of_ble_eq_true rfl) ?_
      refine gi_goto (tgt := 51) C (dm_Fa_init 36 rfl) (by decide) ?_
      refine gi_close (ih (i + 1) _ ⟨hlt, fa_step0 hlt rfl H g1 hrow69 hold69⟩ (by first | omega | (dsimp only; omega))) (List.forall_mem_cons.mpr ⟨(by simp [gi_look, nI_1]), List.forall_mem_cons.mpr ⟨rfl, fun _ h => absurd h List.not_mem_nil⟩⟩) (by first | rfl | omega | (dsimp only; omega)) (by first | rfl | omega | (dsimp only; omega)) (by first | rfl | omega | (dsimp only; omega))
end FA2
