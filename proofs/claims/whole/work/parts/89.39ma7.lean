-- needs: 89.38
section MA7
variable {l : Launch} {V : gi_V} {n : Nat} {h h' h0 : gi_H} {a pr bu fa gv k : Nat} {sx wt tp wr st : Int32} {F : Nat → Nat → Int32} {J Jx : Nat → Int64} {H : Hp} {z : Mc} {P : Pm} {sn : Nat → Nat} {wd : Nat → Bool} {Fc : Fa} {Φ : Nat → mR}
set_option maxHeartbeats 4000000 in
set_option maxRecDepth 100000 in
theorem c_Ma_isToldBy (x : Av) (va : Nat) (v : Int32) (ox : okAv x) (hv : arA x = true → ∃ r, r ≤ H.c ∧ v = nI r) (hva : h va = some (eV (eA x))) (Q : MO a pr bu fa gv h0 sx tp wr wt st F J H h) : gi_T l V y_Ma_isToldBy b_Ma_isToldBy 3 (some .boolean) 2 42 0 0 [.ref a, .ref va, .int v] n h (gi_is (some (.int (bI (telV H x v)))) n h) := by
  have v1 := v.le_toInt
  have v2 := v.toInt_lt
  refine gi_enter (by decide) (Nat.le_of_ble_eq_true rfl) ?_
  intro _ _ _ _ _ _ _ _ C hr hnm
  cases x with
  | inl s =>
    refine gi_aload_n (q := 1) (i := 1) C (dm_Ma_isToldBy 0 rfl) rfl rfl rfl ?_
    refine gi_get (q := 4) C (dm_Ma_isToldBy 1 rfl) rfl fl_Ma_258 hva rfl ?_
    refine gi_if_ne (q := 7) (tgt := 14) C (dm_Ma_isToldBy 2 rfl) rfl (by decide) (fun c4 => ?_) (fun c4 => ?_)
    · exact absurd rfl c4
    · refine gi_aload_n (q := 8) (i := 1) C (dm_Ma_isToldBy 3 rfl) rfl rfl rfl ?_
      refine gi_iload_n (q := 9) (i := 2) C (dm_Ma_isToldBy 4 rfl) rfl rfl rfl ?_
      refine gi_i2l (q := 10) C (dm_Ma_isToldBy 5 rfl) rfl ?_
      rw [i2l_eL]
      refine gi_callv 1 (q := 13) C (dm_Ma_isToldBy 6 rfl) rfl my_Va_has lk_Ma_241 im_Va_has rfl (c_Va_has _ s v.toInt ox (by omega) (by omega) hva) hva rfl rfl ⟨(Nat.le_of_ble_eq_true rfl), (Nat.le_of_ble_eq_true rfl)⟩ (Nat.le_of_ble_eq_true rfl) ⟨(Nat.le_of_ble_eq_true rfl), (Nat.le_of_ble_eq_true rfl)⟩ (fun r10 n10 h10 e10 => ?_)
      obtain ⟨rfl, q10, u10⟩ := e10
      rw [q10, u10]
      refine gi_zret C hr (dm_Ma_isToldBy 7 rfl) (bI_nar _) ?_
      exact ⟨rfl, rfl, rfl⟩
  | inr bo =>
    obtain ⟨b, on⟩ := bo
    obtain ⟨r, rc, er⟩ := hv rfl
    subst er
    have c300 := (Q.he).choose_spec.choose_spec.2.1.1
    have et : telV H (.inr (b, on)) (nI r) = if nI r = 0 then on else bitA b (H.si (nI r).toNatClampNeg) := rfl
    have sl : 1 ≤ r → H.si r < 25 := fun z => ((Q.he).choose_spec.choose_spec.2.1.2.2 r z rc).2
    refine gi_aload_n (q := 1) (i := 1) C (dm_Ma_isToldBy 0 rfl) rfl rfl rfl ?_
    refine gi_get (q := 4) C (dm_Ma_isToldBy 1 rfl) rfl fl_Ma_258 hva rfl ?_
    refine gi_if_ne (q := 7) (tgt := 14) C (dm_Ma_isToldBy 2 rfl) rfl (by decide) (fun c4 => ?_) (fun c4 => ?_)
    · refine gi_iload_n (q := 15) (i := 2) C (dm_Ma_isToldBy 8 rfl) rfl rfl rfl ?_
      refine gi_if_ne (q := 18) (tgt := 25) C (dm_Ma_isToldBy 9 rfl) rfl (by decide) (fun c15 => ?_) (fun c15 => ?_)
      · refine gi_aload_n (q := 26) (i := 1) C (dm_Ma_isToldBy 13 rfl) rfl rfl rfl ?_
        refine gi_get (q := 29) C (dm_Ma_isToldBy 14 rfl) rfl fl_Ma_264 hva rfl ?_
        refine gi_aload_n (q := 30) (i := 0) C (dm_Ma_isToldBy 15 rfl) rfl rfl rfl ?_
        refine gi_get (q := 33) C (dm_Ma_isToldBy 16 rfl) rfl fl_Ma_18 Q.ob rfl ?_
        refine gi_iload_n (q := 34) (i := 2) C (dm_Ma_isToldBy 17 rfl) rfl rfl rfl ?_
        refine gi_callv 1 (q := 37) C (dm_Ma_isToldBy 18 rfl) rfl my_He_siteOf lk_Ma_221 im_He_siteOf rfl (c_He_siteOf rc Q.he) (Q.he).choose_spec.choose_spec.1.1 rfl rfl ⟨(Nat.le_of_ble_eq_true rfl), (Nat.le_of_ble_eq_true rfl)⟩ (Nat.le_of_ble_eq_true rfl) ⟨(Nat.le_of_ble_eq_true rfl), (Nat.le_of_ble_eq_true rfl)⟩ (fun r34 n34 h34 e34 => ?_)
        obtain ⟨rfl, q34, u34⟩ := e34
        rw [q34, u34]
        have rz : ¬ r = 0 := by
          rw [nI_z (by omega)] at c15
          exact c15
        rw [if_neg rz]
        refine gi_ishr (q := 38) C (dm_Ma_isToldBy 19 rfl) rfl ?_
        refine gi_iconst (q := 39) (v := 1) C (dm_Ma_isToldBy 20 rfl) rfl (by decide) ?_
        refine gi_iand (q := 40) C (dm_Ma_isToldBy 21 rfl) rfl ?_
        refine gi_iconst (q := 41) (v := 1) C (dm_Ma_isToldBy 22 rfl) rfl (by decide) ?_
        refine gi_icmp_ne (q := 44) (tgt := 48) C (dm_Ma_isToldBy 23 rfl) rfl (by decide) (fun c41 => ?_) (fun c41 => ?_)
        · refine gi_iconst (q := 49) (v := 0) C (dm_Ma_isToldBy 26 rfl) rfl (by decide) ?_
          refine gi_zret C hr (dm_Ma_isToldBy 27 rfl) (by first | exact bI_nar _ | rfl) ?_
          refine ⟨?_, rfl, rfl⟩
          rw [et]
          first
            | (rw [if_pos c15]; rfl)
            | (rw [if_neg c15, nI_clamp (by omega), show bitA b (H.si r) = true from (sh_bit b (by have := sl (by omega); omega)).mp c41]; rfl)
            | (rw [if_neg c15, nI_clamp (by omega), show bitA b (H.si r) = false from by
                cases q : bitA b (H.si r) with
                | false => rfl
                | true => exact absurd ((sh_bit b (by have := sl (by omega); omega)).mpr q) c41]
               rfl)
        · refine gi_iconst (q := 45) (v := 1) C (dm_Ma_isToldBy 24 rfl) rfl (by decide) ?_
          refine gi_goto (tgt := 49) C (dm_Ma_isToldBy 25 rfl) (by decide) ?_
          refine gi_zret C hr (dm_Ma_isToldBy 27 rfl) (by first | exact bI_nar _ | rfl) ?_
          refine ⟨?_, rfl, rfl⟩
          rw [et]
          first
            | (rw [if_pos c15]; rfl)
            | (rw [if_neg c15, nI_clamp (by omega), show bitA b (H.si r) = true from (sh_bit b (by have := sl (by omega); omega)).mp c41]; rfl)
            | (rw [if_neg c15, nI_clamp (by omega), show bitA b (H.si r) = false from by
                cases q : bitA b (H.si r) with
                | false => rfl
                | true => exact absurd ((sh_bit b (by have := sl (by omega); omega)).mpr q) c41]
               rfl)
      · refine gi_aload_n (q := 19) (i := 1) C (dm_Ma_isToldBy 10 rfl) rfl rfl rfl ?_
        refine gi_get (q := 22) C (dm_Ma_isToldBy 11 rfl) rfl fl_Ma_261 hva rfl ?_
        refine gi_goto (tgt := 49) C (dm_Ma_isToldBy 12 rfl) (by decide) ?_
        refine gi_zret C hr (dm_Ma_isToldBy 27 rfl) (by first | exact bI_nar _ | rfl) ?_
        refine ⟨?_, rfl, rfl⟩
        rw [et]
        first
          | (rw [if_pos c15]; rfl)
          | (rw [if_neg c15, nI_clamp (by omega), show bitA b (H.si r) = true from (sh_bit b (by have := sl (by omega); omega)).mp c41]; rfl)
          | (rw [if_neg c15, nI_clamp (by omega), show bitA b (H.si r) = false from by
              cases q : bitA b (H.si r) with
              | false => rfl
              | true => exact absurd ((sh_bit b (by have := sl (by omega); omega)).mpr q) c41]
             rfl)
    · exact absurd (show (1 : Int32) = 0 from c4) (by decide)
set_option maxHeartbeats 4000000 in
set_option maxRecDepth 100000 in
theorem c_Ma_isTold (hm : z.cur.m < 8) (hi : z.cur.i < 60) (hs : (Fc (curP z)).told = true → (Fc (curP z)).n = z.cur.n ∧ ∀ j, j < z.cur.n → okAv ((Fc (curP z)).f j).1 ∧ (arA ((Fc (curP z)).f j).1 = true → ∃ r, r ≤ z.hp.c ∧ z.cur.s j = nI r)) (E : EN a pr bu fa k P sn wd Fc Φ h0) (Hw : MW a pr bu fa gv h0 sx wt Jx z h) : gi_T l V y_Ma_isTold b_Ma_isTold 3 (some .boolean) 3 64 0 0 [.ref a] n h (gi_is (some (.int (bI (tldZ Fc z)))) n h) := by
  refine gi_enter (by decide) (Nat.le_of_ble_eq_true rfl) ?_
  intro _ _ _ _ _ _ _ _ C hr hnm
  obtain ⟨F, J, Q, R⟩ := id Hw
  have t16 := R.1
  have n14 := R.cur.2.2.2.1
  obtain ⟨r1, r2, r3, r4, r5⟩ := R.cur
  have hF := E.hF Q.ou
  have cp : 60 * z.cur.m + z.cur.i = curP z := rfl
  have RO := hF.2.2.2.2.2.2 (curP z) (by omega)
  have RR := E.hR (curP z) (by omega)
  have rcp : fa_cap (curP z) = 14 := cap_st (by omega)
  rw [rcp] at RO RR
  refine gi_aload_n (q := 1) (i := 0) C (dm_Ma_isTold 0 rfl) rfl rfl rfl ?_
  refine gi_get (q := 4) C (dm_Ma_isTold 1 rfl) rfl fl_Ma_50 Q.ob rfl ?_
  refine gi_aload_n (q := 5) (i := 0) C (dm_Ma_isTold 2 rfl) rfl rfl rfl ?_
  refine gi_get (q := 8) C (dm_Ma_isTold 3 rfl) rfl fl_Ma_36 Q.ob rfl ?_
  refine gi_aload_n (q := 9) (i := 0) C (dm_Ma_isTold 4 rfl) rfl rfl rfl ?_
  refine gi_get (q := 12) C (dm_Ma_isTold 5 rfl) rfl fl_Ma_72 Q.ob rfl ?_
  refine gi_iald (q := 13) C (dm_Ma_isTold 6 rfl) rfl rfl Q.a10 (in16 t16) ?_
  rw [nI_clamp (show z.top < 2 ^ 31 by omega), r1]
  refine gi_aload_n (q := 14) (i := 0) C (dm_Ma_isTold 7 rfl) rfl rfl rfl ?_
  refine gi_get (q := 17) C (dm_Ma_isTold 8 rfl) rfl fl_Ma_39 Q.ob rfl ?_
  refine gi_aload_n (q := 18) (i := 0) C (dm_Ma_isTold 9 rfl) rfl rfl rfl ?_
  refine gi_get (q := 21) C (dm_Ma_isTold 10 rfl) rfl fl_Ma_72 Q.ob rfl ?_
  refine gi_iald (q := 22) C (dm_Ma_isTold 11 rfl) rfl rfl Q.a11 (in16 t16) ?_
  rw [nI_clamp (show z.top < 2 ^ 31 by omega), r2]
  refine gi_callv 2 (q := 25) C (dm_Ma_isTold 12 rfl) rfl my_Fa_stateAt lk_Ma_247 im_Fa_stateAt rfl (c_Fa_stateAt (m := z.cur.m) (i := z.cur.i) hm hi hF) hF.1 rfl rfl ⟨(Nat.le_of_ble_eq_true rfl), (Nat.le_of_ble_eq_true rfl)⟩ (Nat.le_of_ble_eq_true rfl) ⟨(Nat.le_of_ble_eq_true rfl), (Nat.le_of_ble_eq_true rfl)⟩ (fun r22 n22 h22 e22 => ?_)
  obtain ⟨rfl, q22, u22⟩ := e22
  rw [q22, u22]
  refine gi_astore_n (q := 26) (i := 1) C (dm_Ma_isTold 13 rfl) rfl rfl (Nat.le_of_ble_eq_true rfl) ?_
  refine gi_aload_n (q := 27) (i := 0) C (dm_Ma_isTold 14 rfl) rfl rfl rfl ?_
  refine gi_get (q := 30) C (dm_Ma_isTold 15 rfl) rfl fl_Ma_85 Q.ob rfl ?_
  refine gi_if_ne (q := 33) (tgt := 56) C (dm_Ma_isTold 16 rfl) rfl (by decide) (fun c30 => ?_) (fun c30 => ?_)
  · refine gi_iconst (q := 57) (v := 0) C (dm_Ma_isTold 28 rfl) rfl (by decide) ?_
    refine gi_zret C hr (dm_Ma_isTold 29 rfl) rfl ?_
    refine ⟨?_, rfl, rfl⟩
    unfold tldZ
    first
      | (rw [bI_t c30]; rfl)
      | (rw [bI_fa (b := (Fc (curP z)).told) (by rw [← RR.1]; exact c37), Bool.false_and, Bool.and_false]; rfl)
      | exact absurd (show nI z.cur.n = nI z.cur.n from rfl) (by rw [← sz]; exact c53)
  · refine gi_aload_n (q := 34) (i := 1) C (dm_Ma_isTold 17 rfl) rfl rfl rfl ?_
    refine gi_get (q := 37) C (dm_Ma_isTold 18 rfl) rfl fl_Ma_232 RO.1 rfl ?_
    refine gi_if_eq (q := 40) (tgt := 56) C (dm_Ma_isTold 19 rfl) rfl (by decide) (fun c37 => ?_) (fun c37 => ?_)
    · refine gi_iconst (q := 57) (v := 0) C (dm_Ma_isTold 28 rfl) rfl (by decide) ?_
      refine gi_zret C hr (dm_Ma_isTold 29 rfl) rfl ?_
      refine ⟨?_, rfl, rfl⟩
      unfold tldZ
      first
        | (rw [bI_t c30]; rfl)
        | (rw [bI_fa (b := (Fc (curP z)).told) (by rw [← RR.1]; exact c37), Bool.false_and, Bool.and_false]; rfl)
        | exact absurd (show nI z.cur.n = nI z.cur.n from rfl) (by rw [← sz]; exact c53)
    · have tl : (Fc (curP z)).told = true := bI_t (b := (Fc (curP z)).told) (by rw [← RR.1]; exact c37)
      obtain ⟨RG, RN⟩ := RR.2.2 tl
      obtain ⟨sz, hs2⟩ := hs tl
      rw [sz] at RG
      refine gi_aload_n (q := 41) (i := 1) C (dm_Ma_isTold 20 rfl) rfl rfl rfl ?_
      refine gi_get (q := 44) C (dm_Ma_isTold 21 rfl) rfl fl_Ma_251 RO.1 rfl ?_
      rw [RG.1]
      refine gi_aload_n (q := 45) (i := 0) C (dm_Ma_isTold 22 rfl) rfl rfl rfl ?_
      refine gi_get (q := 48) C (dm_Ma_isTold 23 rfl) rfl fl_Ma_33 Q.ob rfl ?_
      refine gi_aload_n (q := 49) (i := 0) C (dm_Ma_isTold 24 rfl) rfl rfl rfl ?_
      refine gi_get (q := 52) C (dm_Ma_isTold 25 rfl) rfl fl_Ma_72 Q.ob rfl ?_
      refine gi_iald (q := 53) C (dm_Ma_isTold 26 rfl) rfl rfl Q.a9 (in16 t16) ?_
      rw [nI_clamp (show z.top < 2 ^ 31 by omega), r3]
      refine gi_icmp_eq (q := 56) (tgt := 58) C (dm_Ma_isTold 27 rfl) rfl (by decide) (fun c53 => ?_) (fun c53 => ?_)
      · refine gi_iconst (q := 59) (v := 0) C (dm_Ma_isTold 30 rfl) rfl (by decide) ?_
        refine gi_istore_n (q := 60) (i := 2) C (dm_Ma_isTold 31 rfl) rfl rfl (Nat.le_of_ble_eq_true rfl) ?_
        have et : tldZ Fc z = (List.range z.cur.n).all (fun j => telV z.hp ((Fc (curP z)).f j).1 (z.cur.s j)) := by
          unfold tldZ
          rw [tl, bI_fa c30]
          rfl
        refine gi_while (σ := Nat) (fun j => z.cur.n - j) (fun j => [(2, .int (nI j)), (1, .ref (fa_row fa (60 * z.cur.m + z.cur.i))), (0, .ref a)]) (fun _ => n) (fun _ => 0) (fun _ => 0) (fun j y' => j ≤ z.cur.n ∧ (∀ i, i < j → telV z.hp ((Fc (curP z)).f i).1 (z.cur.s i) = true) ∧ h = y') 0 ⟨Nat.zero_le _, fun i hi => absurd hi (by omega), rfl⟩ ?_ (List.forall_mem_cons.mpr ⟨rfl, List.forall_mem_cons.mpr ⟨rfl, List.forall_mem_cons.mpr ⟨rfl, fun _ h => absurd h List.not_mem_nil⟩⟩⟩) rfl rfl rfl
        rintro j y' ⟨hj14, al, rfl⟩ ih
        try dsimp only at *
        refine gi_iload_n (q := 61) (i := 2) C (dm_Ma_isTold 32 rfl) rfl rfl rfl ?_
        refine gi_aload_n (q := 62) (i := 1) C (dm_Ma_isTold 33 rfl) rfl rfl rfl ?_
        refine gi_get (q := 65) C (dm_Ma_isTold 34 rfl) rfl fl_Ma_251 RO.1 rfl ?_
        rw [RG.1]
        refine gi_icmp_ge (q := 68) (tgt := 108) C (dm_Ma_isTold 35 rfl) rfl (by decide) (fun c65 => ?_) (fun c65 => ?_)
        · have jn : j = z.cur.n := by
            rcases Nat.lt_or_ge j z.cur.n with q | q
            · exact absurd c65 (Int32.not_le.mpr (nI_lt q (by omega)))
            · omega
          refine gi_iconst (q := 109) (v := 1) C (dm_Ma_isTold 58 rfl) rfl (by decide) ?_
          refine gi_zret C hr (dm_Ma_isTold 59 rfl) rfl ?_
          refine ⟨?_, rfl, rfl⟩
          rw [et, show (List.range z.cur.n).all (fun j => telV z.hp ((Fc (curP z)).f j).1 (z.cur.s j)) = true from by
            rw [List.all_eq_true]
            intro i hi
            exact al i (by have := List.mem_range.mp hi; omega)]
          rfl
        · have jn : j < z.cur.n := by
            rcases Nat.lt_or_ge j z.cur.n with q | q
            · exact q
            · exact absurd (nI_le q (by omega)) c65
          have ej := RG.2 j jn
          have hva : h ((Φ (curP z)).1 j) = some (eV (eA ((Fc (curP z)).f j).1)) := by
            have := rv_at RO (show j < 14 by omega)
            rw [ej.1] at this
            exact this
          refine gi_iload_n (q := 69) (i := 2) C (dm_Ma_isTold 36 rfl) rfl rfl rfl ?_
          refine gi_bipush (q := 71) (v := 14) C (dm_Ma_isTold 37 rfl) rfl (by decide) ?_
          refine gi_icmp_ge (q := 74) (tgt := 108) C (dm_Ma_isTold 38 rfl) rfl (by decide) (fun c71 => ?_) (fun c71 => ?_)
          · exact absurd (nI_lt (a := j) (b := 14) (by omega) (by decide)) (Int32.not_lt.mpr c71)
          · refine gi_aload_n (q := 75) (i := 0) C (dm_Ma_isTold 39 rfl) rfl rfl rfl ?_
            refine gi_aload_n (q := 76) (i := 1) C (dm_Ma_isTold 40 rfl) rfl rfl rfl ?_
            refine gi_iload_n (q := 77) (i := 2) C (dm_Ma_isTold 41 rfl) rfl rfl rfl ?_
            refine gi_callv 1 (q := 80) C (dm_Ma_isTold 42 rfl) rfl my_Ro_valueAt lk_Ma_237 im_Ro_valueAt rfl (c_Ro_valueAt (j := j) (by omega) (by omega) RO) RO.1 rfl rfl ⟨(Nat.le_of_ble_eq_true rfl), (Nat.le_of_ble_eq_true rfl)⟩ (Nat.le_of_ble_eq_true rfl) ⟨(Nat.le_of_ble_eq_true rfl), (Nat.le_of_ble_eq_true rfl)⟩ (fun r77 n77 h77 e77 => ?_)
            obtain ⟨rfl, q77, u77⟩ := e77
            rw [q77, u77]
            refine gi_aload_n (q := 81) (i := 0) C (dm_Ma_isTold 43 rfl) rfl rfl rfl ?_
            refine gi_get (q := 84) C (dm_Ma_isTold 44 rfl) rfl fl_Ma_30 Q.ob rfl ?_
            refine gi_aload_n (q := 85) (i := 0) C (dm_Ma_isTold 45 rfl) rfl rfl rfl ?_
            refine gi_get (q := 88) C (dm_Ma_isTold 46 rfl) rfl fl_Ma_72 Q.ob rfl ?_
            refine gi_bipush (q := 90) (v := 14) C (dm_Ma_isTold 47 rfl) rfl (by decide) ?_
            refine gi_imul (q := 91) C (dm_Ma_isTold 48 rfl) rfl ?_
            rw [show (14 : Int32) = nI 14 from rfl, nI_ml]
            refine gi_iload_n (q := 92) (i := 2) C (dm_Ma_isTold 49 rfl) rfl rfl rfl ?_
            refine gi_iadd (q := 93) C (dm_Ma_isTold 50 rfl) rfl ?_
            rw [nI_add]
            refine gi_iald (q := 94) C (dm_Ma_isTold 51 rfl) rfl rfl Q.a8 (inN (show z.top * 14 + j < 224 by omega) (by decide)) ?_
            rw [nI_clamp (show z.top * 14 + j < 2 ^ 31 by omega), Nat.mul_comm z.top 14, r5 j jn]
            refine gi_callv 2 (q := 97) C (dm_Ma_isTold 52 rfl) rfl my_Ma_isToldBy lk_Ma_254 im_Ma_isToldBy rfl (c_Ma_isToldBy ((Fc (curP z)).f j).1 _ (z.cur.s j) (hs2 j jn).1 (hs2 j jn).2 hva Q) Q.ob rfl rfl ⟨(Nat.le_of_ble_eq_true rfl), (Nat.le_of_ble_eq_true rfl)⟩ (Nat.le_of_ble_eq_true rfl) ⟨(Nat.le_of_ble_eq_true rfl), (Nat.le_of_ble_eq_true rfl)⟩ (fun r94 n94 h94 e94 => ?_)
            obtain ⟨rfl, q94, u94⟩ := e94
            rw [q94, u94]
            refine gi_if_ne (q := 100) (tgt := 102) C (dm_Ma_isTold 53 rfl) rfl (by decide) (fun c97 => ?_) (fun c97 => ?_)
            · have bt := bI_t c97
              refine gi_iinc (q := 105) (v := 1) C (dm_Ma_isTold 56 rfl) rfl rfl (by decide) (Nat.le_of_ble_eq_true rfl) ?_
              refine gi_goto (tgt := 60) C (dm_Ma_isTold 57 rfl) (by decide) ?_
              refine gi_close (ih (j + 1) _ ⟨jn, fun i hi => ?_, rfl⟩ (by omega)) (List.forall_mem_cons.mpr ⟨(by simp [gi_look, nI_1]), List.forall_mem_cons.mpr ⟨rfl, List.forall_mem_cons.mpr ⟨rfl, fun _ h => absurd h List.not_mem_nil⟩⟩⟩) rfl rfl rfl
              by_cases q : i = j
              · rw [q]; exact bt
              · exact al i (by omega)
            · refine gi_iconst (q := 101) (v := 0) C (dm_Ma_isTold 54 rfl) rfl (by decide) ?_
              refine gi_zret C hr (dm_Ma_isTold 55 rfl) rfl ?_
              refine ⟨?_, rfl, rfl⟩
              rw [et, show (List.range z.cur.n).all (fun j => telV z.hp ((Fc (curP z)).f j).1 (z.cur.s j)) = false from by
                rw [List.all_eq_false]
                exact ⟨j, List.mem_range.mpr jn, by rw [bI_fa c97]; decide⟩]
              rfl
      · exact absurd rfl c53
end MA7
