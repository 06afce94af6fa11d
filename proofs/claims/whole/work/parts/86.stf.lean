-- needs: 85
section STF
variable {l : Launch} {V : gi_V} {n : Nat} {h h' h0 : gi_H} {a pr bu fr to k m md : Nat} {P : Pm} {S : Nat → Int32} {x y nx ny ar ou be ab : mV} {Wk Wy En Lo : mR} {F : Fa} {Φ : Nat → mR} {T : Nat → Ty} {wd : Nat → Bool} {cb : Bool}
variable {f : Nat → Sl} {n0 i : Nat} {sn : Nat → Nat} {Ff : Fa} {Z : Fa × Bool} {hA hB : gi_H}
variable {sh : Nat → Option Sh} {wd0 : Nat → Bool}
theorem ty14 (B : Built k P sh sn wd0) : ∀ t, t < 542 → (tyF P sh t).1 ≤ 14 := fun t ht => by
  unfold tyF
  split
  · split
    · rename_i x e
      obtain ⟨m, i, hm, hi, hpe, hx8, -⟩ := B.at_ t x e
      have w := wf_ar B.wf hm
      show pN P 2 (t / 60) + x.1 ≤ 14
      rw [show t / 60 = m by have := w.2.2.2.2; omega]
      omega
    · exact Nat.zero_le _
  · split
    · exact (by decide : (1 : Nat) ≤ 14)
    · show (if _ then 0 else 1) ≤ 14
      split <;> omega
theorem okC_n {T : Nat → Ty} {t s : Nat} {g : Nat → Sl} (h : okC T (t, s, g)) (hT : ∀ t, t < 542 → (T t).1 ≤ 14) : s ≤ 14 := by
  have e : s = (T t).1 := h.2.1.1
  have := hT t h.1
  omega
theorem c_St_reckonA (o : Nat) (f : Nat → Sl) (n0 : Nat) (Q : stO a pr bu fr to h0 S x y nx ny ar ou be ab Wk Wy En Lo h) (G : isG Wk n0 f) (o7 : 7 ≤ o) (o18 : o ≤ 18) (g14 : n0 ≤ 14) (h2 : o ≠ 18 → 2 ≤ n0 ∧ ∃ X Y, (f (n0 - 2)).1 = .inl X ∧ (f (n0 - 1)).1 = .inl Y ∧ okS X ∧ okS Y ∧ mkN (f (n0 - 2)).2 ∧ mkN (f (n0 - 1)).2) (h1 : o = 18 → 1 ≤ n0 ∧ ∃ X, (f (n0 - 1)).1 = .inl X ∧ okS X ∧ mkN (f (n0 - 1)).2) : gi_T l V y_St_reckon b_St_reckon 3 (some .boolean) 4 120 0 0 [.ref a, .int (nI o)] n h (fun r n' h' => n' = n ∧ ∃ x' y' ou' be' ab' Wk', stO a pr bu fr to h0 S x' y' nx ny ar ou' be' ab' Wk' Wy En Lo h' ∧ ((reckS o n0 f = none ∧ r = some (.int 0)) ∨ ∃ m g, reckS o n0 f = some (m, g) ∧ r = some (.int 1) ∧ isG Wk' m g)) := by
  by_cases e18 : o = 18
  · subst e18
    obtain ⟨g1, X, eX, hX, -⟩ := h1 rfl
    exact c_St_reckon_n X Q G g1 g14 eX hX
  · obtain ⟨g2, X, Y, eX, eY, hX, hY, -, hm⟩ := h2 e18
    by_cases q : o = 10 ∨ o = 11
    · exact c_St_reckon_d o X Y Q G q g2 g14 eX eY hX hY hm
    · exact c_St_reckon_o o X Y Q G o7 (by omega) (by omega) (by omega) g2 g14 eX eY hX hY
set_option maxHeartbeats 4000000 in
set_option maxRecDepth 100000 in
theorem c_St_step (h2 : md ≤ 2) (hB0 : Built k P sh sn wd0) (hm : m < k) (hi : i < pN P 5 m) (d : DJ a pr bu fr to) (B : SB a pr bu fr to k md P sn (grF wd0) (tyF P sh) Ff Z hA hB) (hS6 : S 6 = nI md) (hS0 : S 0 = bI Z.2) (Q : stO a pr bu fr to hB S x y nx ny ar ou be ab Wk Wy En Lo h) (hFr : okF (tyF P sh) (frF fr to Ff Z)) (hfl : ∀ j, j < 4 → ((frF fr to Ff Z) (530 + j)).told = true) : gi_T l V y_St_step b_St_step 7 none 5 142 0 0 [.ref a, .int (nI m), .int (nI i)] n h (fun v n' h' => v = none ∧ n' = n ∧ ∃ hC S' x' y' nx' ny' ar' ou' be' ab' Wk' Wy' En' Lo', S' 6 = nI md ∧ S' 0 = bI (if ((frF fr to Ff Z) (60 * m + i)).told = true then (outs P sn (frF fr to Ff Z) (60 * m + i)).foldl (comeM md (grF wd0)) Z else Z).2 ∧ SB a pr bu fr to k md P sn (grF wd0) (tyF P sh) Ff (if ((frF fr to Ff Z) (60 * m + i)).told = true then (outs P sn (frF fr to Ff Z) (60 * m + i)).foldl (comeM md (grF wd0)) Z else Z) hA hC ∧ stO a pr bu fr to hC S' x' y' nx' ny' ar' ou' be' ab' Wk' Wy' En' Lo' h') := by
  refine gi_enter (by decide) (Nat.le_of_ble_eq_true rfl) ?_
  intro _ _ _ _ _ _ _ _ C hr hnm
  have hW := hB0.wf
  have w8 := hW.k8
  have wm := wf_ar hW hm
  have hT := ty14 hB0
  have hi60 : i < 60 := by omega
  have hwt : ∀ t, 480 ≤ t → grF wd0 t = true := fun t ht => by unfold grF; simp [ht]
  refine gi_aload_n (q := 1) (i := 0) C (dm_St_step 0 rfl) rfl rfl rfl ?_
  refine gi_get (q := 4) C (dm_St_step 1 rfl) rfl fl_St_66 (by first | exact Q311.ob | exact Q262.ob | exact Q251.ob | exact Q235.ob | exact Q217.ob | exact Q199.ob | exact Q185.ob | exact Q167.ob | exact Q149.ob | exact Q103.ob | exact Q85.ob | exact Q33.ob | exact Q25.ob | exact Q.ob) rfl ?_
  refine gi_iload_n (q := 5) (i := 1) C (dm_St_step 2 rfl) rfl rfl rfl ?_
  refine gi_iload_n (q := 6) (i := 2) C (dm_St_step 3 rfl) rfl rfl rfl ?_
  obtain ⟨Φf, pf, pR⟩ := B.hfr d Q.2
  have RO := pf.2.2.2.2.2.2 (60 * m + i) (by omega)
  have RR0 := pR (60 * m + i) (by omega)
  have ri := fa_in fr (60 * m + i) (by omega)
  have rc : fa_cap (60 * m + i) = 14 := cap_st (by omega)
  rw [rc] at RO RR0 ri
  refine gi_callv 2 (q := 9) C (dm_St_step 4 rfl) rfl my_Fa_stateAt lk_St_134 im_Fa_stateAt rfl (c_Fa_stateAt (m := m) (i := i) (by omega) (by omega) pf) pf.1 rfl rfl ⟨(Nat.le_of_ble_eq_true rfl), (Nat.le_of_ble_eq_true rfl)⟩ (Nat.le_of_ble_eq_true rfl) ⟨(Nat.le_of_ble_eq_true rfl), (Nat.le_of_ble_eq_true rfl)⟩ (fun r6 n6 h6 e6 => ?_)
  obtain ⟨rfl, q6, u6⟩ := e6
  rw [q6, u6]
  refine gi_astore_n (q := 10) (i := 3) C (dm_St_step 5 rfl) rfl rfl (Nat.le_of_ble_eq_true rfl) ?_
  refine gi_aload_n (q := 11) (i := 3) C (dm_St_step 6 rfl) rfl rfl rfl ?_
  refine gi_get (q := 14) C (dm_St_step 7 rfl) rfl fl_St_81 RO.1 rfl ?_
  refine gi_if_ne (q := 17) (tgt := 18) C (dm_St_step 8 rfl) rfl (by decide) (fun c14 => ?_) (fun c14 => ?_)
  · have tl : ((frF fr to Ff Z) (60 * m + i)).told = true := bI_t (b := ((frF fr to Ff Z) (60 * m + i)).told) (by rw [← RR0.1]; exact c14)
    have RG := RR0.2.2 tl
    have n14 : ((frF fr to Ff Z) (60 * m + i)).n ≤ 14 := (st_com hB0 (by omega) hFr tl).1
    obtain ⟨m', i', x0, y0, hm', hm8, hi', hi60', hpe, hsx, hx8, hx, GT, h60, ll, hop, ⟨od1, od2, od3, od4⟩, ey, aI⟩ := plc hB0 (show (60 * m + i) < 480 by omega) hFr tl
    have em : m' = m := by omega
    have ei : i' = i := by omega
    rw [em] at GT ll od1 od2 ey
    clear hm' hi' h60
    have okall := fun c hc => (outs_all hB0 (show (60 * m + i) < 480 by omega) hFr tl c hc).1
    obtain ⟨-, y9, ey9, nx9, -⟩ := hB0.next m i x0 hm hi hsx
    have nxi : (pN P 6 (60 * m + i)) ≠ 19 → (pN P 6 (60 * m + i)) ≠ 33 → i + 1 < pN P 5 m := fun z1 z2 => (nx9 z1 z2).1
    have jmp : 19 ≤ (pN P 6 (60 * m + i)) → (pN P 6 (60 * m + i)) ≤ 27 → P 7 (60 * m + i) = nI (pN P 7 (60 * m + i)) ∧ pN P 7 (60 * m + i) < pN P 5 m := fun z1 z2 => by
      have h4 := od2 ⟨z1, z2⟩
      have h5 := aI h4.1
      exact ⟨h5.1, by omega⟩
    have hr2 : (pN P 6 (60 * m + i)) ≠ 18 → 7 ≤ (pN P 6 (60 * m + i)) → (pN P 6 (60 * m + i)) ≤ 18 → 2 ≤ ((frF fr to Ff Z) (60 * m + i)).n ∧ ∃ X Y, (((frF fr to Ff Z) (60 * m + i)).f (((frF fr to Ff Z) (60 * m + i)).n - 2)).1 = .inl X ∧ (((frF fr to Ff Z) (60 * m + i)).f (((frF fr to Ff Z) (60 * m + i)).n - 1)).1 = .inl Y ∧ okS X ∧ okS Y ∧ mkN (((frF fr to Ff Z) (60 * m + i)).f (((frF fr to Ff Z) (60 * m + i)).n - 2)).2 ∧ mkN (((frF fr to Ff Z) (60 * m + i)).f (((frF fr to Ff Z) (60 * m + i)).n - 1)).2 := fun z z7 z18 => by
      have e := ey
      rw [sh_ar z7 (by omega)] at e
      obtain ⟨q, e1, -⟩ := Option.map_eq_some_iff.mp e
      exact st_two ll GT e1
    have hr1 : (pN P 6 (60 * m + i)) = 18 → 1 ≤ ((frF fr to Ff Z) (60 * m + i)).n ∧ ∃ X, (((frF fr to Ff Z) (60 * m + i)).f (((frF fr to Ff Z) (60 * m + i)).n - 1)).1 = .inl X ∧ okS X ∧ mkN (((frF fr to Ff Z) (60 * m + i)).f (((frF fr to Ff Z) (60 * m + i)).n - 1)).2 := fun z => by
      have e := ey
      rw [z] at e
      obtain ⟨q, e1, -⟩ := Option.map_eq_some_iff.mp (show (tkS false x0).map (ptS false) = some y0 from e)
      exact st_int ll GT e1
    refine gi_aload_n (q := 19) (i := 0) C (dm_St_step 10 rfl) rfl rfl rfl ?_
    refine gi_iload_n (q := 20) (i := 1) C (dm_St_step 11 rfl) rfl rfl rfl ?_
    refine gi_put (q := 23) C (dm_St_step 12 rfl) rfl fl_St_144 fp_St_7 Q.ob (Nat.le_of_ble_eq_true rfl) rfl rfl ?_
    refine gi_aload_n (q := 24) (i := 0) C (dm_St_step 13 rfl) rfl rfl rfl ?_
    refine gi_iload_n (q := 25) (i := 2) C (dm_St_step 14 rfl) rfl rfl rfl ?_
    refine gi_put (q := 28) C (dm_St_step 15 rfl) rfl fl_St_147 fp_St_8 (gi_up_self _ _ _) (Nat.le_of_ble_eq_true rfl) rfl rfl ?_
    rw [gi_up_up]
    have Q25 := Q.pO fr to (upS (upS S 7 (nI m)) 8 (nI i))
    have hS33 : SS (upS (upS S 7 (nI m)) 8 (nI i)) md m i Z.2 := ⟨hS6, hS0, rfl, rfl⟩
    skip
    refine gi_aload_n (q := 29) (i := 0) C (dm_St_step 16 rfl) rfl rfl rfl ?_
    refine gi_get (q := 32) C (dm_St_step 17 rfl) rfl fl_St_23 (by first | exact Q311.ob | exact Q262.ob | exact Q251.ob | exact Q235.ob | exact Q217.ob | exact Q199.ob | exact Q185.ob | exact Q167.ob | exact Q149.ob | exact Q103.ob | exact Q85.ob | exact Q33.ob | exact Q25.ob | exact Q.ob) rfl ?_
    refine gi_aload_n (q := 33) (i := 3) C (dm_St_step 18 rfl) rfl rfl rfl ?_
    refine gi_callv 1 (q := 36) C (dm_St_step 19 rfl) rfl my_Ro_copy lk_St_150 im_Ro_copy rfl (c_Ro_copy (by omega) (by omega) (by have d4 := d.2.2.2.1; omega) n14 n14 Q25.wk (RO.keep (fun b b1 b2 => gi_up_ne (by have d4 := d.2.2.2.1; omega))) RG.1.1 RG.1.wf) Q25.wk.1 rfl rfl ⟨(Nat.le_of_ble_eq_true rfl), (Nat.le_of_ble_eq_true rfl)⟩ (Nat.le_of_ble_eq_true rfl) ⟨(Nat.le_of_ble_eq_true rfl), (Nat.le_of_ble_eq_true rfl)⟩ (fun r33 n33 h33 e33 => ?_)
    obtain ⟨rfl, rfl, S33, O33⟩ := e33
    have Q33 := Q25.rWk S33 O33
    have G33 : isG (rCp Wk (Φf (60 * m + i)) ((frF fr to Ff Z) (60 * m + i)).n ((frF fr to Ff Z) (60 * m + i)).n) ((frF fr to Ff Z) (60 * m + i)).n ((frF fr to Ff Z) (60 * m + i)).f := rCp_G (R := Wk) RG.1
    refine gi_aload_n (q := 37) (i := 0) C (dm_St_step 20 rfl) rfl rfl rfl ?_
    refine gi_get (q := 40) C (dm_St_step 21 rfl) rfl fl_St_58 (by first | exact Q311.ob | exact Q262.ob | exact Q251.ob | exact Q235.ob | exact Q217.ob | exact Q199.ob | exact Q185.ob | exact Q167.ob | exact Q149.ob | exact Q103.ob | exact Q85.ob | exact Q33.ob | exact Q25.ob | exact Q.ob) rfl ?_
    refine gi_aload_n (q := 41) (i := 0) C (dm_St_step 22 rfl) rfl rfl rfl ?_
    refine gi_get (q := 44) C (dm_St_step 23 rfl) rfl fl_St_144 (by first | exact Q311.ob | exact Q262.ob | exact Q251.ob | exact Q235.ob | exact Q217.ob | exact Q199.ob | exact Q185.ob | exact Q167.ob | exact Q149.ob | exact Q103.ob | exact Q85.ob | exact Q33.ob | exact Q25.ob | exact Q.ob) rfl ?_
    refine gi_aload_n (q := 45) (i := 0) C (dm_St_step 24 rfl) rfl rfl rfl ?_
    refine gi_get (q := 48) C (dm_St_step 25 rfl) rfl fl_St_147 (by first | exact Q311.ob | exact Q262.ob | exact Q251.ob | exact Q235.ob | exact Q217.ob | exact Q199.ob | exact Q185.ob | exact Q167.ob | exact Q149.ob | exact Q103.ob | exact Q85.ob | exact Q33.ob | exact Q25.ob | exact Q.ob) rfl ?_
    rw [show (upS (upS S 7 (nI m)) 8 (nI i)) 7 = nI m from rfl, show (upS (upS S 7 (nI m)) 8 (nI i)) 8 = nI i from rfl]
    refine gi_callv 2 (q := 51) C (dm_St_step 26 rfl) rfl my_Pr_opAt lk_St_153 im_Pr_opAt rfl (q_op hW hm hi (B.hpr d Q33.2)) (B.hpr d Q33.2).1 rfl rfl ⟨(Nat.le_of_ble_eq_true rfl), (Nat.le_of_ble_eq_true rfl)⟩ (Nat.le_of_ble_eq_true rfl) ⟨(Nat.le_of_ble_eq_true rfl), (Nat.le_of_ble_eq_true rfl)⟩ (fun r48 n48 h48 e48 => ?_)
    obtain ⟨rfl, q48, u48⟩ := e48
    rw [q48, u48]
    refine gi_istore (q := 53) C (dm_St_step 27 rfl) rfl (Nat.le_of_ble_eq_true rfl) ?_
    refine gi_aload_n (q := 54) (i := 0) C (dm_St_step 28 rfl) rfl rfl rfl ?_
    refine gi_get (q := 57) C (dm_St_step 29 rfl) rfl fl_St_58 (by first | exact Q311.ob | exact Q262.ob | exact Q251.ob | exact Q235.ob | exact Q217.ob | exact Q199.ob | exact Q185.ob | exact Q167.ob | exact Q149.ob | exact Q103.ob | exact Q85.ob | exact Q33.ob | exact Q25.ob | exact Q.ob) rfl ?_
    refine gi_aload_n (q := 58) (i := 0) C (dm_St_step 30 rfl) rfl rfl rfl ?_
    refine gi_get (q := 61) C (dm_St_step 31 rfl) rfl fl_St_144 (by first | exact Q311.ob | exact Q262.ob | exact Q251.ob | exact Q235.ob | exact Q217.ob | exact Q199.ob | exact Q185.ob | exact Q167.ob | exact Q149.ob | exact Q103.ob | exact Q85.ob | exact Q33.ob | exact Q25.ob | exact Q.ob) rfl ?_
    refine gi_aload_n (q := 62) (i := 0) C (dm_St_step 32 rfl) rfl rfl rfl ?_
    refine gi_get (q := 65) C (dm_St_step 33 rfl) rfl fl_St_147 (by first | exact Q311.ob | exact Q262.ob | exact Q251.ob | exact Q235.ob | exact Q217.ob | exact Q199.ob | exact Q185.ob | exact Q167.ob | exact Q149.ob | exact Q103.ob | exact Q85.ob | exact Q33.ob | exact Q25.ob | exact Q.ob) rfl ?_
    rw [show (upS (upS S 7 (nI m)) 8 (nI i)) 7 = nI m from rfl, show (upS (upS S 7 (nI m)) 8 (nI i)) 8 = nI i from rfl]
    refine gi_callv 2 (q := 68) C (dm_St_step 34 rfl) rfl my_Pr_operandAt lk_St_157 im_Pr_operandAt rfl (q_opr hW hm hi (B.hpr d Q33.2)) (B.hpr d Q33.2).1 rfl rfl ⟨(Nat.le_of_ble_eq_true rfl), (Nat.le_of_ble_eq_true rfl)⟩ (Nat.le_of_ble_eq_true rfl) ⟨(Nat.le_of_ble_eq_true rfl), (Nat.le_of_ble_eq_true rfl)⟩ (fun r65 n65 h65 e65 => ?_)
    obtain ⟨rfl, q65, u65⟩ := e65
    rw [q65, u65]
    refine gi_istore (q := 70) C (dm_St_step 35 rfl) rfl (Nat.le_of_ble_eq_true rfl) ?_
    refine gi_iconst (q := 71) (v := 0) C (dm_St_step 36 rfl) rfl (by decide) ?_
    refine gi_istore (q := 73) C (dm_St_step 37 rfl) rfl (Nat.le_of_ble_eq_true rfl) ?_
    refine gi_iload (q := 75) C (dm_St_step 38 rfl) rfl rfl ?_
    refine gi_bipush (q := 77) (v := 6) C (dm_St_step 39 rfl) rfl (by decide) ?_
    refine gi_icmp_gt (q := 80) (tgt := 93) C (dm_St_step 40 rfl) rfl (by decide) (fun c77 => ?_) (fun c77 => ?_)
    · refine gi_iload (q := 95) C (dm_St_step 47 rfl) rfl rfl ?_
      refine gi_bipush (q := 97) (v := 18) C (dm_St_step 48 rfl) rfl (by decide) ?_
      refine gi_icmp_gt (q := 100) (tgt := 111) C (dm_St_step 49 rfl) rfl (by decide) (fun c97 => ?_) (fun c97 => ?_)
      · refine gi_iload (q := 113) C (dm_St_step 55 rfl) rfl rfl ?_
        refine gi_bipush (q := 115) (v := 19) C (dm_St_step 56 rfl) rfl (by decide) ?_
        refine gi_icmp_ne (q := 118) (tgt := 155) C (dm_St_step 57 rfl) rfl (by decide) (fun c115 => ?_) (fun c115 => ?_)
        · refine gi_iload (q := 157) C (dm_St_step 75 rfl) rfl rfl ?_
          refine gi_bipush (q := 159) (v := 25) C (dm_St_step 76 rfl) rfl (by decide) ?_
          refine gi_icmp_gt (q := 162) (tgt := 173) C (dm_St_step 77 rfl) rfl (by decide) (fun c159 => ?_) (fun c159 => ?_)
          · refine gi_iload (q := 175) C (dm_St_step 83 rfl) rfl rfl ?_
            refine gi_bipush (q := 177) (v := 27) C (dm_St_step 84 rfl) rfl (by decide) ?_
            refine gi_icmp_gt (q := 180) (tgt := 191) C (dm_St_step 85 rfl) rfl (by decide) (fun c177 => ?_) (fun c177 => ?_)
            · refine gi_iload (q := 193) C (dm_St_step 91 rfl) rfl rfl ?_
              refine gi_bipush (q := 195) (v := 28) C (dm_St_step 92 rfl) rfl (by decide) ?_
              refine gi_icmp_ne (q := 198) (tgt := 207) C (dm_St_step 93 rfl) rfl (by decide) (fun c195 => ?_) (fun c195 => ?_)
              · refine gi_iload (q := 209) C (dm_St_step 98 rfl) rfl rfl ?_
                refine gi_bipush (q := 211) (v := 31) C (dm_St_step 99 rfl) rfl (by decide) ?_
                refine gi_icmp_gt (q := 214) (tgt := 225) C (dm_St_step 100 rfl) rfl (by decide) (fun c211 => ?_) (fun c211 => ?_)
                · refine gi_iload (q := 227) C (dm_St_step 106 rfl) rfl rfl ?_
                  refine gi_bipush (q := 229) (v := 32) C (dm_St_step 107 rfl) rfl (by decide) ?_
                  refine gi_icmp_ne (q := 232) (tgt := 243) C (dm_St_step 108 rfl) rfl (by decide) (fun c229 => ?_) (fun c229 => ?_)
                  · refine gi_iload (q := 245) C (dm_St_step 114 rfl) rfl rfl ?_
                    refine gi_bipush (q := 247) (v := 33) C (dm_St_step 115 rfl) rfl (by decide) ?_
                    refine gi_icmp_ne (q := 250) (tgt := 257) C (dm_St_step 116 rfl) rfl (by decide) (fun c247 => ?_) (fun c247 => ?_)
                    · have o34 : 34 ≤ (pN P 6 (60 * m + i)) := by
                        have h1 : 31 < (pN P 6 (60 * m + i)) := Nat.lt_of_not_le (fun z => absurd c211 (Int32.not_lt.mpr (nI_le (b := 31) z (by omega))))
                        have h3 : ¬ (pN P 6 (60 * m + i)) = 32 := (fun z : (pN P 6 (60 * m + i)) = 32 => c229 (by rw [z]; rfl))
                        have h4 : ¬ (pN P 6 (60 * m + i)) = 33 := (fun z : (pN P 6 (60 * m + i)) = 33 => c247 (by rw [z]; rfl))
                        omega
                      have h4 := od4 (by omega)
                      have h5 := aI h4.1
                      have e7 : P 7 (60 * m + i) = nI (pN P 7 (60 * m + i)) := h5.1
                      rcases (show (pN P 6 (60 * m + i)) = 34 ∨ (pN P 6 (60 * m + i)) = 35 by omega) with eo | eo
                      · have htf := hfl (pN P 7 (60 * m + i)) (by omega)
                        have tf1 := tld_one hFr (t := 530 + (pN P 7 (60 * m + i))) (by omega) (by omega) htf
                        have oc := outs_34 (sn := sn) (F := (frF fr to Ff Z)) (p := (60 * m + i)) eo
                        rw [if_pos htf] at oc
                        have okN0 := okall _ (by rw [oc]; exact List.mem_singleton.mpr rfl)
                        have nn := okC_n okN0 hT
                        refine gi_aload_n (q := 258) (i := 0) C (dm_St_step 120 rfl) rfl rfl rfl ?_
                        refine gi_iload (q := 260) C (dm_St_step 121 rfl) rfl rfl ?_
                        refine gi_iload (q := 262) C (dm_St_step 122 rfl) rfl rfl ?_
                        rw [e7, eo]
                        refine gi_callv 2 (q := 265) C (dm_St_step 123 rfl) rfl my_St_useField lk_St_192 im_St_useField rfl (c_St_useField_34 (pN P 7 (60 * m + i)) _ h2 hW hm hT d B hS33 Q33 G33 (by omega) (by omega) htf tf1.1 rfl) Q33.ob rfl rfl ⟨(Nat.le_of_ble_eq_true rfl), (Nat.le_of_ble_eq_true rfl)⟩ (Nat.le_of_ble_eq_true rfl) ⟨(Nat.le_of_ble_eq_true rfl), (Nat.le_of_ble_eq_true rfl)⟩ (fun r262 n262 h262 e262 => ?_)
                        obtain ⟨rfl, rfl, wk262, Q262, G262⟩ := e262
                        refine gi_istore (q := 267) C (dm_St_step 124 rfl) rfl (Nat.le_of_ble_eq_true rfl) ?_
                        refine gi_iload (q := 269) C (dm_St_step 125 rfl) rfl rfl ?_
                        refine gi_if_eq (q := 272) (tgt := 314) C (dm_St_step 126 rfl) rfl (by decide) (fun c269 => ?_) (fun c269 => ?_)
                        · exact absurd c269 (by decide)
                        · have hi1 := nxi (by omega) (by omega)
                          have okN := okN0
                          refine gi_aload_n (q := 273) (i := 0) C (dm_St_step 127 rfl) rfl rfl rfl ?_
                          refine gi_aload_n (q := 274) (i := 0) C (dm_St_step 128 rfl) rfl rfl rfl ?_
                          refine gi_get (q := 277) C (dm_St_step 129 rfl) rfl fl_St_70 (by first | exact Q311.ob | exact Q262.ob | exact Q251.ob | exact Q235.ob | exact Q217.ob | exact Q199.ob | exact Q185.ob | exact Q167.ob | exact Q149.ob | exact Q103.ob | exact Q85.ob | exact Q33.ob | exact Q25.ob | exact Q.ob) rfl ?_
                          refine gi_aload_n (q := 278) (i := 0) C (dm_St_step 130 rfl) rfl rfl rfl ?_
                          refine gi_get (q := 281) C (dm_St_step 131 rfl) rfl fl_St_144 (by first | exact Q311.ob | exact Q262.ob | exact Q251.ob | exact Q235.ob | exact Q217.ob | exact Q199.ob | exact Q185.ob | exact Q167.ob | exact Q149.ob | exact Q103.ob | exact Q85.ob | exact Q33.ob | exact Q25.ob | exact Q.ob) rfl ?_
                          refine gi_aload_n (q := 282) (i := 0) C (dm_St_step 132 rfl) rfl rfl rfl ?_
                          refine gi_get (q := 285) C (dm_St_step 133 rfl) rfl fl_St_147 (by first | exact Q311.ob | exact Q262.ob | exact Q251.ob | exact Q235.ob | exact Q217.ob | exact Q199.ob | exact Q185.ob | exact Q167.ob | exact Q149.ob | exact Q103.ob | exact Q85.ob | exact Q33.ob | exact Q25.ob | exact Q.ob) rfl ?_
                          refine gi_iconst (q := 286) (v := 1) C (dm_St_step 134 rfl) rfl (by decide) ?_
                          refine gi_iadd (q := 287) C (dm_St_step 135 rfl) rfl ?_
                          obtain ⟨fs287, ob287⟩ := B.ob d Q262.2
                          rw [hS33.2.2.1, hS33.2.2.2, nI_1]
                          refine gi_callv 2 (q := 290) C (dm_St_step 136 rfl) rfl my_Fa_stateAt lk_St_134 im_Fa_stateAt rfl (b_state (j := i + 1) B d Q262.2 (by omega) (by omega)) ob287 rfl rfl ⟨(Nat.le_of_ble_eq_true rfl), (Nat.le_of_ble_eq_true rfl)⟩ (Nat.le_of_ble_eq_true rfl) ⟨(Nat.le_of_ble_eq_true rfl), (Nat.le_of_ble_eq_true rfl)⟩ (fun r287 n287 h287 e287 => ?_)
                          obtain ⟨rfl, q287, u287⟩ := e287
                          rw [q287, u287]
                          refine gi_aload_n (q := 291) (i := 0) C (dm_St_step 137 rfl) rfl rfl rfl ?_
                          refine gi_get (q := 294) C (dm_St_step 138 rfl) rfl fl_St_23 (by first | exact Q311.ob | exact Q262.ob | exact Q251.ob | exact Q235.ob | exact Q217.ob | exact Q199.ob | exact Q185.ob | exact Q167.ob | exact Q149.ob | exact Q103.ob | exact Q85.ob | exact Q33.ob | exact Q25.ob | exact Q.ob) rfl ?_
                          refine gi_aload_n (q := 295) (i := 0) C (dm_St_step 139 rfl) rfl rfl rfl ?_
                          refine gi_get (q := 298) C (dm_St_step 140 rfl) rfl fl_St_62 (by first | exact Q311.ob | exact Q262.ob | exact Q251.ob | exact Q235.ob | exact Q217.ob | exact Q199.ob | exact Q185.ob | exact Q167.ob | exact Q149.ob | exact Q103.ob | exact Q85.ob | exact Q33.ob | exact Q25.ob | exact Q.ob) rfl ?_
                          refine gi_aload_n (q := 299) (i := 0) C (dm_St_step 141 rfl) rfl rfl rfl ?_
                          refine gi_get (q := 302) C (dm_St_step 142 rfl) rfl fl_St_144 (by first | exact Q311.ob | exact Q262.ob | exact Q251.ob | exact Q235.ob | exact Q217.ob | exact Q199.ob | exact Q185.ob | exact Q167.ob | exact Q149.ob | exact Q103.ob | exact Q85.ob | exact Q33.ob | exact Q25.ob | exact Q.ob) rfl ?_
                          refine gi_aload_n (q := 303) (i := 0) C (dm_St_step 143 rfl) rfl rfl rfl ?_
                          refine gi_get (q := 306) C (dm_St_step 144 rfl) rfl fl_St_147 (by first | exact Q311.ob | exact Q262.ob | exact Q251.ob | exact Q235.ob | exact Q217.ob | exact Q199.ob | exact Q185.ob | exact Q167.ob | exact Q149.ob | exact Q103.ob | exact Q85.ob | exact Q33.ob | exact Q25.ob | exact Q.ob) rfl ?_
                          refine gi_iconst (q := 307) (v := 1) C (dm_St_step 145 rfl) rfl (by decide) ?_
                          refine gi_iadd (q := 308) C (dm_St_step 146 rfl) rfl ?_
                          obtain ⟨fw308, ow308⟩ := B.ob2 d Q262.2
                          rw [hS33.2.2.1, hS33.2.2.2, nI_1]
                          refine gi_callv 2 (q := 311) C (dm_St_step 147 rfl) rfl my_Bu_isWide lk_St_167 im_Bu_isWide rfl (b_wide (j := i + 1) hW B d Q262.2 hm hi1) ow308 rfl rfl ⟨(Nat.le_of_ble_eq_true rfl), (Nat.le_of_ble_eq_true rfl)⟩ (Nat.le_of_ble_eq_true rfl) ⟨(Nat.le_of_ble_eq_true rfl), (Nat.le_of_ble_eq_true rfl)⟩ (fun r308 n308 h308 e308 => ?_)
                          obtain ⟨rfl, q308, u308⟩ := e308
                          rw [q308, u308]
                          refine gi_callv 3 (q := 314) C (dm_St_step 148 rfl) rfl my_St_come lk_St_140 im_St_come rfl (b_come (a + 4) 14 (((frF fr to Ff Z) (60 * m + i)).n + 1) (60 * m + i + 1) _ _ h2 B hT d hS33 Q262 (by omega) (by omega) (by omega) Q262.wk G262 (okC_n okN hT) (by rw [cap_st (by omega)]; exact okC_n okN hT) okN) Q262.ob rfl rfl ⟨(Nat.le_of_ble_eq_true rfl), (Nat.le_of_ble_eq_true rfl)⟩ (Nat.le_of_ble_eq_true rfl) ⟨(Nat.le_of_ble_eq_true rfl), (Nat.le_of_ble_eq_true rfl)⟩ (fun r311 n311 h311 e311 => ?_)
                          obtain ⟨rfl, rfl, S311, hS311, B311, Q311⟩ := e311
                          refine gi_vret C hr (dm_St_step 149 rfl) ?_
                          refine ⟨rfl, rfl, ?_⟩
                          rw [if_pos tl, oc]
                          exact ⟨_, _, _, _, _, _, _, _, _, _, _, _, _, _, hS311.1, hS311.2.1, B311, Q311⟩
                      · obtain ⟨g1, Xs, eX, oX, mX⟩ := st_int ll GT (show tkS false x0 = some y0 by have e := ey; rw [eo] at e; exact e)
                        have oc := outs_35 (P := P) (sn := sn) (F := (frF fr to Ff Z)) (p := (60 * m + i)) (by omega)
                        refine gi_aload_n (q := 258) (i := 0) C (dm_St_step 120 rfl) rfl rfl rfl ?_
                        refine gi_iload (q := 260) C (dm_St_step 121 rfl) rfl rfl ?_
                        refine gi_iload (q := 262) C (dm_St_step 122 rfl) rfl rfl ?_
                        rw [e7, eo]
                        refine gi_callv 2 (q := 265) C (dm_St_step 123 rfl) rfl my_St_useField lk_St_192 im_St_useField rfl (c_St_useField_35 (pN P 7 (60 * m + i)) h2 hW hm hT d B hS33 Q33 G33 (by omega) hwt g1 n14 (okall _ (by rw [oc]; exact List.mem_cons_self ..))) Q33.ob rfl rfl ⟨(Nat.le_of_ble_eq_true rfl), (Nat.le_of_ble_eq_true rfl)⟩ (Nat.le_of_ble_eq_true rfl) ⟨(Nat.le_of_ble_eq_true rfl), (Nat.le_of_ble_eq_true rfl)⟩ (fun r262 n262 h262 e262 => ?_)
                        obtain ⟨rfl, rfl, hC262, S262, x262, wk262, lo262, hS262, B262, Q262, G262⟩ := e262
                        refine gi_istore (q := 267) C (dm_St_step 124 rfl) rfl (Nat.le_of_ble_eq_true rfl) ?_
                        refine gi_iload (q := 269) C (dm_St_step 125 rfl) rfl rfl ?_
                        refine gi_if_eq (q := 272) (tgt := 314) C (dm_St_step 126 rfl) rfl (by decide) (fun c269 => ?_) (fun c269 => ?_)
                        · exact absurd c269 (by decide)
                        · have hi1 := nxi (by omega) (by omega)
                          have okN := okall _ (by rw [oc]; exact List.mem_cons_of_mem _ (List.mem_singleton.mpr rfl))
                          refine gi_aload_n (q := 273) (i := 0) C (dm_St_step 127 rfl) rfl rfl rfl ?_
                          refine gi_aload_n (q := 274) (i := 0) C (dm_St_step 128 rfl) rfl rfl rfl ?_
                          refine gi_get (q := 277) C (dm_St_step 129 rfl) rfl fl_St_70 (by first | exact Q311.ob | exact Q262.ob | exact Q251.ob | exact Q235.ob | exact Q217.ob | exact Q199.ob | exact Q185.ob | exact Q167.ob | exact Q149.ob | exact Q103.ob | exact Q85.ob | exact Q33.ob | exact Q25.ob | exact Q.ob) rfl ?_
                          refine gi_aload_n (q := 278) (i := 0) C (dm_St_step 130 rfl) rfl rfl rfl ?_
                          refine gi_get (q := 281) C (dm_St_step 131 rfl) rfl fl_St_144 (by first | exact Q311.ob | exact Q262.ob | exact Q251.ob | exact Q235.ob | exact Q217.ob | exact Q199.ob | exact Q185.ob | exact Q167.ob | exact Q149.ob | exact Q103.ob | exact Q85.ob | exact Q33.ob | exact Q25.ob | exact Q.ob) rfl ?_
                          refine gi_aload_n (q := 282) (i := 0) C (dm_St_step 132 rfl) rfl rfl rfl ?_
                          refine gi_get (q := 285) C (dm_St_step 133 rfl) rfl fl_St_147 (by first | exact Q311.ob | exact Q262.ob | exact Q251.ob | exact Q235.ob | exact Q217.ob | exact Q199.ob | exact Q185.ob | exact Q167.ob | exact Q149.ob | exact Q103.ob | exact Q85.ob | exact Q33.ob | exact Q25.ob | exact Q.ob) rfl ?_
                          refine gi_iconst (q := 286) (v := 1) C (dm_St_step 134 rfl) rfl (by decide) ?_
                          refine gi_iadd (q := 287) C (dm_St_step 135 rfl) rfl ?_
                          obtain ⟨fs287, ob287⟩ := B262.ob d Q262.2
                          rw [hS262.2.2.1, hS262.2.2.2, nI_1]
                          refine gi_callv 2 (q := 290) C (dm_St_step 136 rfl) rfl my_Fa_stateAt lk_St_134 im_Fa_stateAt rfl (b_state (j := i + 1) B262 d Q262.2 (by omega) (by omega)) ob287 rfl rfl ⟨(Nat.le_of_ble_eq_true rfl), (Nat.le_of_ble_eq_true rfl)⟩ (Nat.le_of_ble_eq_true rfl) ⟨(Nat.le_of_ble_eq_true rfl), (Nat.le_of_ble_eq_true rfl)⟩ (fun r287 n287 h287 e287 => ?_)
                          obtain ⟨rfl, q287, u287⟩ := e287
                          rw [q287, u287]
                          refine gi_aload_n (q := 291) (i := 0) C (dm_St_step 137 rfl) rfl rfl rfl ?_
                          refine gi_get (q := 294) C (dm_St_step 138 rfl) rfl fl_St_23 (by first | exact Q311.ob | exact Q262.ob | exact Q251.ob | exact Q235.ob | exact Q217.ob | exact Q199.ob | exact Q185.ob | exact Q167.ob | exact Q149.ob | exact Q103.ob | exact Q85.ob | exact Q33.ob | exact Q25.ob | exact Q.ob) rfl ?_
                          refine gi_aload_n (q := 295) (i := 0) C (dm_St_step 139 rfl) rfl rfl rfl ?_
                          refine gi_get (q := 298) C (dm_St_step 140 rfl) rfl fl_St_62 (by first | exact Q311.ob | exact Q262.ob | exact Q251.ob | exact Q235.ob | exact Q217.ob | exact Q199.ob | exact Q185.ob | exact Q167.ob | exact Q149.ob | exact Q103.ob | exact Q85.ob | exact Q33.ob | exact Q25.ob | exact Q.ob) rfl ?_
                          refine gi_aload_n (q := 299) (i := 0) C (dm_St_step 141 rfl) rfl rfl rfl ?_
                          refine gi_get (q := 302) C (dm_St_step 142 rfl) rfl fl_St_144 (by first | exact Q311.ob | exact Q262.ob | exact Q251.ob | exact Q235.ob | exact Q217.ob | exact Q199.ob | exact Q185.ob | exact Q167.ob | exact Q149.ob | exact Q103.ob | exact Q85.ob | exact Q33.ob | exact Q25.ob | exact Q.ob) rfl ?_
                          refine gi_aload_n (q := 303) (i := 0) C (dm_St_step 143 rfl) rfl rfl rfl ?_
                          refine gi_get (q := 306) C (dm_St_step 144 rfl) rfl fl_St_147 (by first | exact Q311.ob | exact Q262.ob | exact Q251.ob | exact Q235.ob | exact Q217.ob | exact Q199.ob | exact Q185.ob | exact Q167.ob | exact Q149.ob | exact Q103.ob | exact Q85.ob | exact Q33.ob | exact Q25.ob | exact Q.ob) rfl ?_
                          refine gi_iconst (q := 307) (v := 1) C (dm_St_step 145 rfl) rfl (by decide) ?_
                          refine gi_iadd (q := 308) C (dm_St_step 146 rfl) rfl ?_
                          obtain ⟨fw308, ow308⟩ := B262.ob2 d Q262.2
                          rw [hS262.2.2.1, hS262.2.2.2, nI_1]
                          refine gi_callv 2 (q := 311) C (dm_St_step 147 rfl) rfl my_Bu_isWide lk_St_167 im_Bu_isWide rfl (b_wide (j := i + 1) hW B262 d Q262.2 hm hi1) ow308 rfl rfl ⟨(Nat.le_of_ble_eq_true rfl), (Nat.le_of_ble_eq_true rfl)⟩ (Nat.le_of_ble_eq_true rfl) ⟨(Nat.le_of_ble_eq_true rfl), (Nat.le_of_ble_eq_true rfl)⟩ (fun r308 n308 h308 e308 => ?_)
                          obtain ⟨rfl, q308, u308⟩ := e308
                          rw [q308, u308]
                          refine gi_callv 3 (q := 314) C (dm_St_step 148 rfl) rfl my_St_come lk_St_140 im_St_come rfl (b_come (a + 4) 14 (((frF fr to Ff Z) (60 * m + i)).n - 1) (60 * m + i + 1) _ _ h2 B262 hT d hS262 Q262 (by omega) (by omega) (by omega) Q262.wk G262 (okC_n okN hT) (by rw [cap_st (by omega)]; exact okC_n okN hT) okN) Q262.ob rfl rfl ⟨(Nat.le_of_ble_eq_true rfl), (Nat.le_of_ble_eq_true rfl)⟩ (Nat.le_of_ble_eq_true rfl) ⟨(Nat.le_of_ble_eq_true rfl), (Nat.le_of_ble_eq_true rfl)⟩ (fun r311 n311 h311 e311 => ?_)
                          obtain ⟨rfl, rfl, S311, hS311, B311, Q311⟩ := e311
                          refine gi_vret C hr (dm_St_step 149 rfl) ?_
                          refine ⟨rfl, rfl, ?_⟩
                          rw [if_pos tl, oc]
                          exact ⟨_, _, _, _, _, _, _, _, _, _, _, _, _, _, hS311.1, hS311.2.1, B311, Q311⟩
                    · have o33 : (pN P 6 (60 * m + i)) = 33 := (nI_eq (b := 33) (by omega) (by omega)).mp c247
                      have oc := outs_33 (sn := sn) (F := (frF fr to Ff Z)) (p := (60 * m + i)) rfl hi60 o33
                      by_cases r0 : pN P 4 m = 0
                      · refine gi_aload_n (q := 251) (i := 0) C (dm_St_step 117 rfl) rfl rfl rfl ?_
                        refine gi_callv 0 (q := 254) C (dm_St_step 118 rfl) rfl my_St_giveBack lk_St_189 im_St_giveBack rfl (c_St_giveBack_0 h2 hW hm hT d B hS33 Q33 G33 hwt r0 (okall _ (by rw [oc, if_pos r0]; exact List.mem_singleton.mpr rfl))) Q33.ob rfl rfl ⟨(Nat.le_of_ble_eq_true rfl), (Nat.le_of_ble_eq_true rfl)⟩ (Nat.le_of_ble_eq_true rfl) ⟨(Nat.le_of_ble_eq_true rfl), (Nat.le_of_ble_eq_true rfl)⟩ (fun r251 n251 h251 e251 => ?_)
                        obtain ⟨rfl, rfl, hC251, S251, x251, wk251, lo251, hS251, B251, Q251⟩ := e251
                        refine gi_goto (tgt := 267) C (dm_St_step 119 rfl) (by decide) ?_
                        refine gi_iload (q := 269) C (dm_St_step 125 rfl) rfl rfl ?_
                        refine gi_if_eq (q := 272) (tgt := 314) C (dm_St_step 126 rfl) rfl (by decide) (fun c269 => ?_) (fun c269 => ?_)
                        · refine gi_vret C hr (dm_St_step 149 rfl) ?_
                          refine ⟨rfl, rfl, ?_⟩
                          rw [if_pos tl, oc, if_pos r0]
                          exact ⟨_, _, _, _, _, _, _, _, _, _, _, _, _, _, hS251.1, hS251.2.1, B251, Q251⟩
                        · exact absurd rfl c269
                      · obtain ⟨t1, -, -⟩ := tkS_some (show tkS (decide (pN P 4 m = 2)) x0 = some y0 by have e := ey; rw [o33] at e; have e2 : (if pN P 4 m = 0 then some x0 else tkS (decide (pN P 4 m = 2)) x0) = some y0 := e; rw [if_neg r0] at e2; exact e2)
                        have en := G_n GT
                        refine gi_aload_n (q := 251) (i := 0) C (dm_St_step 117 rfl) rfl rfl rfl ?_
                        refine gi_callv 0 (q := 254) C (dm_St_step 118 rfl) rfl my_St_giveBack lk_St_189 im_St_giveBack rfl (c_St_giveBack_1 h2 hW hm hT d B hS33 Q33 G33 hwt r0 (by omega) n14 (okall _ (by rw [oc, if_neg r0]; exact List.mem_singleton.mpr rfl))) Q33.ob rfl rfl ⟨(Nat.le_of_ble_eq_true rfl), (Nat.le_of_ble_eq_true rfl)⟩ (Nat.le_of_ble_eq_true rfl) ⟨(Nat.le_of_ble_eq_true rfl), (Nat.le_of_ble_eq_true rfl)⟩ (fun r251 n251 h251 e251 => ?_)
                        obtain ⟨rfl, rfl, hC251, S251, x251, wk251, lo251, hS251, B251, Q251⟩ := e251
                        refine gi_goto (tgt := 267) C (dm_St_step 119 rfl) (by decide) ?_
                        refine gi_iload (q := 269) C (dm_St_step 125 rfl) rfl rfl ?_
                        refine gi_if_eq (q := 272) (tgt := 314) C (dm_St_step 126 rfl) rfl (by decide) (fun c269 => ?_) (fun c269 => ?_)
                        · refine gi_vret C hr (dm_St_step 149 rfl) ?_
                          refine ⟨rfl, rfl, ?_⟩
                          rw [if_pos tl, oc, if_neg r0]
                          exact ⟨_, _, _, _, _, _, _, _, _, _, _, _, _, _, hS251.1, hS251.2.1, B251, Q251⟩
                        · exact absurd rfl c269
                  · have o32 : (pN P 6 (60 * m + i)) = 32 := (nI_eq (b := 32) (by omega) (by omega)).mp c229
                    have h4 := od3 o32
                    have h5 := aI h4.1
                    have e7 : P 7 (60 * m + i) = nI (pN P 7 (60 * m + i)) := h5.1
                    have hcc : (pN P 7 (60 * m + i)) < k := by omega
                    have wc := wf_ar hW hcc
                    obtain ⟨q32, e32, -⟩ := Option.map_eq_some_iff.mp (show (tkN P (pN P 7 (60 * m + i)) (pN P 1 (pN P 7 (60 * m + i))) x0).map (fun y => if pN P 4 (pN P 7 (60 * m + i)) = 0 then y else ptS (decide (pN P 4 (pN P 7 (60 * m + i)) = 2)) y) = some y0 by have e := ey; rw [o32] at e; exact e)
                    obtain ⟨r1, r2, r3, r4, r5⟩ := tkN_ty (pN P 1 (pN P 7 (60 * m + i))) GT e32 hx
                    have en := G_n GT
                    have oc := outs_32 (sn := sn) (F := (frF fr to Ff Z)) (p := (60 * m + i)) o32
                    have nr : ((frF fr to Ff Z) (534 + (pN P 7 (60 * m + i)))).told = true → ((frF fr to Ff Z) (534 + (pN P 7 (60 * m + i)))).n = if pN P 4 (pN P 7 (60 * m + i)) = 0 then 0 else 1 := fun z => by
                      have e := ((hFr (534 + (pN P 7 (60 * m + i))) (by omega)).1 z).1
                      rw [e]
                      unfold tyF
                      rw [if_neg (by omega), if_neg (by omega), show 534 + (pN P 7 (60 * m + i)) - 534 = (pN P 7 (60 * m + i)) by omega]
                    have oc2 : ((frF fr to Ff Z) (534 + (pN P 7 (60 * m + i)))).told = true → outs P sn (frF fr to Ff Z) (60 * m + i) = [(60 * (pN P 7 (60 * m + i)), pN P 2 (pN P 7 (60 * m + i)), entF P (pN P 7 (60 * m + i)) ((frF fr to Ff Z) (60 * m + i)).n ((frF fr to Ff Z) (60 * m + i)).f), (60 * m + i + 1, if ((frF fr to Ff Z) (534 + (pN P 7 (60 * m + i)))).n = 0 then ((frF fr to Ff Z) (60 * m + i)).n - pN P 1 (pN P 7 (60 * m + i)) else ((frF fr to Ff Z) (60 * m + i)).n - pN P 1 (pN P 7 (60 * m + i)) + 1, if ((frF fr to Ff Z) (534 + (pN P 7 (60 * m + i)))).n = 0 then ((frF fr to Ff Z) (60 * m + i)).f else upF ((frF fr to Ff Z) (60 * m + i)).f (((frF fr to Ff Z) (60 * m + i)).n - pN P 1 (pN P 7 (60 * m + i))) ((((frF fr to Ff Z) (534 + (pN P 7 (60 * m + i)))).f 0).1, -1))] := fun z => by
                      rw [oc, if_pos z]
                      have e := nr z
                      by_cases q : pN P 4 (pN P 7 (60 * m + i)) = 0
                      · rw [if_pos q] at e
                        rw [if_pos q, if_pos e, if_pos e]
                      · rw [if_neg q] at e
                        rw [if_neg q, if_neg (by omega), if_neg (by omega)]
                    refine gi_aload_n (q := 233) (i := 0) C (dm_St_step 109 rfl) rfl rfl rfl ?_
                    refine gi_iload (q := 235) C (dm_St_step 110 rfl) rfl rfl ?_
                    rw [e7]
                    refine gi_callv 1 (q := 238) C (dm_St_step 111 rfl) rfl my_St_enter lk_St_186 im_St_enter rfl (c_St_enter (pN P 7 (60 * m + i)) h2 hW hm hT d B hS33 Q33 G33 hcc (by omega) n14 (by unfold grF; rw [Nat.add_zero, hB0.w0 _ hcc]; simp) (okall _ (by rw [oc]; exact List.mem_cons_self ..)) (fun z => by have := nr z; split at this <;> omega) (fun z z1 => by have t := okC_n (okall _ (by rw [oc2 z]; exact List.mem_cons_of_mem _ (List.mem_singleton.mpr rfl))) hT; rw [if_neg (by omega)] at t; omega)) Q33.ob rfl rfl ⟨(Nat.le_of_ble_eq_true rfl), (Nat.le_of_ble_eq_true rfl)⟩ (Nat.le_of_ble_eq_true rfl) ⟨(Nat.le_of_ble_eq_true rfl), (Nat.le_of_ble_eq_true rfl)⟩ (fun r235 n235 h235 e235 => ?_)
                    obtain ⟨rfl, hC235, S235, en235, wk235, hS235, B235, Q235, hc235⟩ := e235
                    rcases hc235 with ⟨tf, rfl⟩ | ⟨tt, rfl, G235⟩
                    · refine gi_istore (q := 240) C (dm_St_step 112 rfl) rfl (Nat.le_of_ble_eq_true rfl) ?_
                      refine gi_goto (tgt := 267) C (dm_St_step 113 rfl) (by decide) ?_
                      refine gi_iload (q := 269) C (dm_St_step 125 rfl) rfl rfl ?_
                      refine gi_if_eq (q := 272) (tgt := 314) C (dm_St_step 126 rfl) rfl (by decide) (fun c269 => ?_) (fun c269 => ?_)
                      · refine gi_vret C hr (dm_St_step 149 rfl) ?_
                        refine ⟨rfl, rfl, ?_⟩
                        rw [if_pos tl, oc, if_neg (by rw [tf]; decide)]
                        exact ⟨_, _, _, _, _, _, _, _, _, _, _, _, _, _, hS235.1, hS235.2.1, B235, Q235⟩
                      · exact absurd rfl c269
                    · refine gi_istore (q := 240) C (dm_St_step 112 rfl) rfl (Nat.le_of_ble_eq_true rfl) ?_
                      refine gi_goto (tgt := 267) C (dm_St_step 113 rfl) (by decide) ?_
                      refine gi_iload (q := 269) C (dm_St_step 125 rfl) rfl rfl ?_
                      refine gi_if_eq (q := 272) (tgt := 314) C (dm_St_step 126 rfl) rfl (by decide) (fun c269 => ?_) (fun c269 => ?_)
                      · exact absurd c269 (by decide)
                      · have hi1 := nxi (by omega) (by omega)
                        have okN := okall _ (by rw [oc2 tt]; exact List.mem_cons_of_mem _ (List.mem_singleton.mpr rfl))
                        refine gi_aload_n (q := 273) (i := 0) C (dm_St_step 127 rfl) rfl rfl rfl ?_
                        refine gi_aload_n (q := 274) (i := 0) C (dm_St_step 128 rfl) rfl rfl rfl ?_
                        refine gi_get (q := 277) C (dm_St_step 129 rfl) rfl fl_St_70 (by first | exact Q311.ob | exact Q262.ob | exact Q251.ob | exact Q235.ob | exact Q217.ob | exact Q199.ob | exact Q185.ob | exact Q167.ob | exact Q149.ob | exact Q103.ob | exact Q85.ob | exact Q33.ob | exact Q25.ob | exact Q.ob) rfl ?_
                        refine gi_aload_n (q := 278) (i := 0) C (dm_St_step 130 rfl) rfl rfl rfl ?_
                        refine gi_get (q := 281) C (dm_St_step 131 rfl) rfl fl_St_144 (by first | exact Q311.ob | exact Q262.ob | exact Q251.ob | exact Q235.ob | exact Q217.ob | exact Q199.ob | exact Q185.ob | exact Q167.ob | exact Q149.ob | exact Q103.ob | exact Q85.ob | exact Q33.ob | exact Q25.ob | exact Q.ob) rfl ?_
                        refine gi_aload_n (q := 282) (i := 0) C (dm_St_step 132 rfl) rfl rfl rfl ?_
                        refine gi_get (q := 285) C (dm_St_step 133 rfl) rfl fl_St_147 (by first | exact Q311.ob | exact Q262.ob | exact Q251.ob | exact Q235.ob | exact Q217.ob | exact Q199.ob | exact Q185.ob | exact Q167.ob | exact Q149.ob | exact Q103.ob | exact Q85.ob | exact Q33.ob | exact Q25.ob | exact Q.ob) rfl ?_
                        refine gi_iconst (q := 286) (v := 1) C (dm_St_step 134 rfl) rfl (by decide) ?_
                        refine gi_iadd (q := 287) C (dm_St_step 135 rfl) rfl ?_
                        obtain ⟨fs287, ob287⟩ := B235.ob d Q235.2
                        rw [hS235.2.2.1, hS235.2.2.2, nI_1]
                        refine gi_callv 2 (q := 290) C (dm_St_step 136 rfl) rfl my_Fa_stateAt lk_St_134 im_Fa_stateAt rfl (b_state (j := i + 1) B235 d Q235.2 (by omega) (by omega)) ob287 rfl rfl ⟨(Nat.le_of_ble_eq_true rfl), (Nat.le_of_ble_eq_true rfl)⟩ (Nat.le_of_ble_eq_true rfl) ⟨(Nat.le_of_ble_eq_true rfl), (Nat.le_of_ble_eq_true rfl)⟩ (fun r287 n287 h287 e287 => ?_)
                        obtain ⟨rfl, q287, u287⟩ := e287
                        rw [q287, u287]
                        refine gi_aload_n (q := 291) (i := 0) C (dm_St_step 137 rfl) rfl rfl rfl ?_
                        refine gi_get (q := 294) C (dm_St_step 138 rfl) rfl fl_St_23 (by first | exact Q311.ob | exact Q262.ob | exact Q251.ob | exact Q235.ob | exact Q217.ob | exact Q199.ob | exact Q185.ob | exact Q167.ob | exact Q149.ob | exact Q103.ob | exact Q85.ob | exact Q33.ob | exact Q25.ob | exact Q.ob) rfl ?_
                        refine gi_aload_n (q := 295) (i := 0) C (dm_St_step 139 rfl) rfl rfl rfl ?_
                        refine gi_get (q := 298) C (dm_St_step 140 rfl) rfl fl_St_62 (by first | exact Q311.ob | exact Q262.ob | exact Q251.ob | exact Q235.ob | exact Q217.ob | exact Q199.ob | exact Q185.ob | exact Q167.ob | exact Q149.ob | exact Q103.ob | exact Q85.ob | exact Q33.ob | exact Q25.ob | exact Q.ob) rfl ?_
                        refine gi_aload_n (q := 299) (i := 0) C (dm_St_step 141 rfl) rfl rfl rfl ?_
                        refine gi_get (q := 302) C (dm_St_step 142 rfl) rfl fl_St_144 (by first | exact Q311.ob | exact Q262.ob | exact Q251.ob | exact Q235.ob | exact Q217.ob | exact Q199.ob | exact Q185.ob | exact Q167.ob | exact Q149.ob | exact Q103.ob | exact Q85.ob | exact Q33.ob | exact Q25.ob | exact Q.ob) rfl ?_
                        refine gi_aload_n (q := 303) (i := 0) C (dm_St_step 143 rfl) rfl rfl rfl ?_
                        refine gi_get (q := 306) C (dm_St_step 144 rfl) rfl fl_St_147 (by first | exact Q311.ob | exact Q262.ob | exact Q251.ob | exact Q235.ob | exact Q217.ob | exact Q199.ob | exact Q185.ob | exact Q167.ob | exact Q149.ob | exact Q103.ob | exact Q85.ob | exact Q33.ob | exact Q25.ob | exact Q.ob) rfl ?_
                        refine gi_iconst (q := 307) (v := 1) C (dm_St_step 145 rfl) rfl (by decide) ?_
                        refine gi_iadd (q := 308) C (dm_St_step 146 rfl) rfl ?_
                        obtain ⟨fw308, ow308⟩ := B235.ob2 d Q235.2
                        rw [hS235.2.2.1, hS235.2.2.2, nI_1]
                        refine gi_callv 2 (q := 311) C (dm_St_step 147 rfl) rfl my_Bu_isWide lk_St_167 im_Bu_isWide rfl (b_wide (j := i + 1) hW B235 d Q235.2 hm hi1) ow308 rfl rfl ⟨(Nat.le_of_ble_eq_true rfl), (Nat.le_of_ble_eq_true rfl)⟩ (Nat.le_of_ble_eq_true rfl) ⟨(Nat.le_of_ble_eq_true rfl), (Nat.le_of_ble_eq_true rfl)⟩ (fun r308 n308 h308 e308 => ?_)
                        obtain ⟨rfl, q308, u308⟩ := e308
                        rw [q308, u308]
                        refine gi_callv 3 (q := 314) C (dm_St_step 148 rfl) rfl my_St_come lk_St_140 im_St_come rfl (b_come (a + 4) 14 (if ((frF fr to Ff Z) (534 + (pN P 7 (60 * m + i)))).n = 0 then ((frF fr to Ff Z) (60 * m + i)).n - pN P 1 (pN P 7 (60 * m + i)) else ((frF fr to Ff Z) (60 * m + i)).n - pN P 1 (pN P 7 (60 * m + i)) + 1) (60 * m + i + 1) _ _ h2 B235 hT d hS235 Q235 (by omega) (by omega) (by omega) Q235.wk G235 (okC_n okN hT) (by rw [cap_st (by omega)]; exact okC_n okN hT) okN) Q235.ob rfl rfl ⟨(Nat.le_of_ble_eq_true rfl), (Nat.le_of_ble_eq_true rfl)⟩ (Nat.le_of_ble_eq_true rfl) ⟨(Nat.le_of_ble_eq_true rfl), (Nat.le_of_ble_eq_true rfl)⟩ (fun r311 n311 h311 e311 => ?_)
                        obtain ⟨rfl, rfl, S311, hS311, B311, Q311⟩ := e311
                        refine gi_vret C hr (dm_St_step 149 rfl) ?_
                        refine ⟨rfl, rfl, ?_⟩
                        rw [if_pos tl, oc2 tt]
                        exact ⟨_, _, _, _, _, _, _, _, _, _, _, _, _, _, hS311.1, hS311.2.1, B311, Q311⟩
                · have o29 : 29 ≤ (pN P 6 (60 * m + i)) := by
                    have h1 : 27 < (pN P 6 (60 * m + i)) := Nat.lt_of_not_le (fun z => absurd c177 (Int32.not_lt.mpr (nI_le (b := 27) z (by omega))))
                    have h3 : ¬ (pN P 6 (60 * m + i)) = 28 := (fun z : (pN P 6 (60 * m + i)) = 28 => c195 (by rw [z]; rfl))
                    omega
                  have o31 : (pN P 6 (60 * m + i)) ≤ 31 := (nI_leI (b := 31) (by omega) (by omega)).mp (Int32.not_lt.mp c211)
                  rcases (show (pN P 6 (60 * m + i)) = 29 ∨ (pN P 6 (60 * m + i)) = 30 ∨ (pN P 6 (60 * m + i)) = 31 by omega) with eo | eo | eo
                  · obtain ⟨q28, e28, -⟩ := Option.map_eq_some_iff.mp (show (tkS true x0).map (ptS false) = some y0 by have e := ey; rw [eo] at e; exact e)
                    obtain ⟨g1, bs, on, eA1, mA⟩ := st_set ll GT e28
                    have oc := outs_29 (sn := sn) (F := (frF fr to Ff Z)) (p := (60 * m + i)) eo
                    rw [eA1] at oc
                    simp only [stA] at oc
                    refine gi_aload_n (q := 215) (i := 0) C (dm_St_step 101 rfl) rfl rfl rfl ?_
                    refine gi_iload (q := 217) C (dm_St_step 102 rfl) rfl rfl ?_
                    rw [eo]
                    refine gi_callv 1 (q := 220) C (dm_St_step 103 rfl) rfl my_St_useArray lk_St_183 im_St_useArray rfl (c_St_useArray_29 bs on h2 hW hm hT d B hS33 Q33 G33 n14 g1 eA1 mA (fun s h1 h3 => by have t := tld_one hFr (by omega) (by omega) h3; exact ⟨t.1, _, ar_s t.2.2, ok_sp t.2.1 t.2.2⟩)) Q33.ob rfl rfl ⟨(Nat.le_of_ble_eq_true rfl), (Nat.le_of_ble_eq_true rfl)⟩ (Nat.le_of_ble_eq_true rfl) ⟨(Nat.le_of_ble_eq_true rfl), (Nat.le_of_ble_eq_true rfl)⟩ (fun r217 n217 h217 e217 => ?_)
                    obtain ⟨rfl, x217, y217, ar217, ou217, wk217, Q217, hc217⟩ := e217
                    rcases hc217 with ⟨eg, rfl⟩ | ⟨zz, eg, rfl, G217⟩
                    · refine gi_istore (q := 222) C (dm_St_step 104 rfl) rfl (Nat.le_of_ble_eq_true rfl) ?_
                      refine gi_goto (tgt := 267) C (dm_St_step 105 rfl) (by decide) ?_
                      refine gi_iload (q := 269) C (dm_St_step 125 rfl) rfl rfl ?_
                      refine gi_if_eq (q := 272) (tgt := 314) C (dm_St_step 126 rfl) rfl (by decide) (fun c269 => ?_) (fun c269 => ?_)
                      · refine gi_vret C hr (dm_St_step 149 rfl) ?_
                        refine ⟨rfl, rfl, ?_⟩
                        rw [if_pos tl, oc, eg]
                        exact ⟨_, _, _, _, _, _, _, _, _, _, _, _, _, _, hS33.1, hS33.2.1, B, Q217⟩
                      · exact absurd rfl c269
                    · refine gi_istore (q := 222) C (dm_St_step 104 rfl) rfl (Nat.le_of_ble_eq_true rfl) ?_
                      refine gi_goto (tgt := 267) C (dm_St_step 105 rfl) (by decide) ?_
                      refine gi_iload (q := 269) C (dm_St_step 125 rfl) rfl rfl ?_
                      refine gi_if_eq (q := 272) (tgt := 314) C (dm_St_step 126 rfl) rfl (by decide) (fun c269 => ?_) (fun c269 => ?_)
                      · exact absurd c269 (by decide)
                      · have hi1 := nxi (by omega) (by omega)
                        have okN := okall _ (by rw [oc, eg]; exact List.mem_singleton.mpr rfl)
                        refine gi_aload_n (q := 273) (i := 0) C (dm_St_step 127 rfl) rfl rfl rfl ?_
                        refine gi_aload_n (q := 274) (i := 0) C (dm_St_step 128 rfl) rfl rfl rfl ?_
                        refine gi_get (q := 277) C (dm_St_step 129 rfl) rfl fl_St_70 (by first | exact Q311.ob | exact Q262.ob | exact Q251.ob | exact Q235.ob | exact Q217.ob | exact Q199.ob | exact Q185.ob | exact Q167.ob | exact Q149.ob | exact Q103.ob | exact Q85.ob | exact Q33.ob | exact Q25.ob | exact Q.ob) rfl ?_
                        refine gi_aload_n (q := 278) (i := 0) C (dm_St_step 130 rfl) rfl rfl rfl ?_
                        refine gi_get (q := 281) C (dm_St_step 131 rfl) rfl fl_St_144 (by first | exact Q311.ob | exact Q262.ob | exact Q251.ob | exact Q235.ob | exact Q217.ob | exact Q199.ob | exact Q185.ob | exact Q167.ob | exact Q149.ob | exact Q103.ob | exact Q85.ob | exact Q33.ob | exact Q25.ob | exact Q.ob) rfl ?_
                        refine gi_aload_n (q := 282) (i := 0) C (dm_St_step 132 rfl) rfl rfl rfl ?_
                        refine gi_get (q := 285) C (dm_St_step 133 rfl) rfl fl_St_147 (by first | exact Q311.ob | exact Q262.ob | exact Q251.ob | exact Q235.ob | exact Q217.ob | exact Q199.ob | exact Q185.ob | exact Q167.ob | exact Q149.ob | exact Q103.ob | exact Q85.ob | exact Q33.ob | exact Q25.ob | exact Q.ob) rfl ?_
                        refine gi_iconst (q := 286) (v := 1) C (dm_St_step 134 rfl) rfl (by decide) ?_
                        refine gi_iadd (q := 287) C (dm_St_step 135 rfl) rfl ?_
                        obtain ⟨fs287, ob287⟩ := B.ob d Q217.2
                        rw [hS33.2.2.1, hS33.2.2.2, nI_1]
                        refine gi_callv 2 (q := 290) C (dm_St_step 136 rfl) rfl my_Fa_stateAt lk_St_134 im_Fa_stateAt rfl (b_state (j := i + 1) B d Q217.2 (by omega) (by omega)) ob287 rfl rfl ⟨(Nat.le_of_ble_eq_true rfl), (Nat.le_of_ble_eq_true rfl)⟩ (Nat.le_of_ble_eq_true rfl) ⟨(Nat.le_of_ble_eq_true rfl), (Nat.le_of_ble_eq_true rfl)⟩ (fun r287 n287 h287 e287 => ?_)
                        obtain ⟨rfl, q287, u287⟩ := e287
                        rw [q287, u287]
                        refine gi_aload_n (q := 291) (i := 0) C (dm_St_step 137 rfl) rfl rfl rfl ?_
                        refine gi_get (q := 294) C (dm_St_step 138 rfl) rfl fl_St_23 (by first | exact Q311.ob | exact Q262.ob | exact Q251.ob | exact Q235.ob | exact Q217.ob | exact Q199.ob | exact Q185.ob | exact Q167.ob | exact Q149.ob | exact Q103.ob | exact Q85.ob | exact Q33.ob | exact Q25.ob | exact Q.ob) rfl ?_
                        refine gi_aload_n (q := 295) (i := 0) C (dm_St_step 139 rfl) rfl rfl rfl ?_
                        refine gi_get (q := 298) C (dm_St_step 140 rfl) rfl fl_St_62 (by first | exact Q311.ob | exact Q262.ob | exact Q251.ob | exact Q235.ob | exact Q217.ob | exact Q199.ob | exact Q185.ob | exact Q167.ob | exact Q149.ob | exact Q103.ob | exact Q85.ob | exact Q33.ob | exact Q25.ob | exact Q.ob) rfl ?_
                        refine gi_aload_n (q := 299) (i := 0) C (dm_St_step 141 rfl) rfl rfl rfl ?_
                        refine gi_get (q := 302) C (dm_St_step 142 rfl) rfl fl_St_144 (by first | exact Q311.ob | exact Q262.ob | exact Q251.ob | exact Q235.ob | exact Q217.ob | exact Q199.ob | exact Q185.ob | exact Q167.ob | exact Q149.ob | exact Q103.ob | exact Q85.ob | exact Q33.ob | exact Q25.ob | exact Q.ob) rfl ?_
                        refine gi_aload_n (q := 303) (i := 0) C (dm_St_step 143 rfl) rfl rfl rfl ?_
                        refine gi_get (q := 306) C (dm_St_step 144 rfl) rfl fl_St_147 (by first | exact Q311.ob | exact Q262.ob | exact Q251.ob | exact Q235.ob | exact Q217.ob | exact Q199.ob | exact Q185.ob | exact Q167.ob | exact Q149.ob | exact Q103.ob | exact Q85.ob | exact Q33.ob | exact Q25.ob | exact Q.ob) rfl ?_
                        refine gi_iconst (q := 307) (v := 1) C (dm_St_step 145 rfl) rfl (by decide) ?_
                        refine gi_iadd (q := 308) C (dm_St_step 146 rfl) rfl ?_
                        obtain ⟨fw308, ow308⟩ := B.ob2 d Q217.2
                        rw [hS33.2.2.1, hS33.2.2.2, nI_1]
                        refine gi_callv 2 (q := 311) C (dm_St_step 147 rfl) rfl my_Bu_isWide lk_St_167 im_Bu_isWide rfl (b_wide (j := i + 1) hW B d Q217.2 hm hi1) ow308 rfl rfl ⟨(Nat.le_of_ble_eq_true rfl), (Nat.le_of_ble_eq_true rfl)⟩ (Nat.le_of_ble_eq_true rfl) ⟨(Nat.le_of_ble_eq_true rfl), (Nat.le_of_ble_eq_true rfl)⟩ (fun r308 n308 h308 e308 => ?_)
                        obtain ⟨rfl, q308, u308⟩ := e308
                        rw [q308, u308]
                        refine gi_callv 3 (q := 314) C (dm_St_step 148 rfl) rfl my_St_come lk_St_140 im_St_come rfl (b_come (a + 4) 14 (((frF fr to Ff Z) (60 * m + i)).n) (60 * m + i + 1) _ _ h2 B hT d hS33 Q217 (by omega) (by omega) (by omega) Q217.wk G217 (okC_n okN hT) (by rw [cap_st (by omega)]; exact okC_n okN hT) okN) Q217.ob rfl rfl ⟨(Nat.le_of_ble_eq_true rfl), (Nat.le_of_ble_eq_true rfl)⟩ (Nat.le_of_ble_eq_true rfl) ⟨(Nat.le_of_ble_eq_true rfl), (Nat.le_of_ble_eq_true rfl)⟩ (fun r311 n311 h311 e311 => ?_)
                        obtain ⟨rfl, rfl, S311, hS311, B311, Q311⟩ := e311
                        refine gi_vret C hr (dm_St_step 149 rfl) ?_
                        refine ⟨rfl, rfl, ?_⟩
                        rw [if_pos tl, oc, eg]
                        exact ⟨_, _, _, _, _, _, _, _, _, _, _, _, _, _, hS311.1, hS311.2.1, B311, Q311⟩
                  · obtain ⟨q28, e28, -⟩ := Option.map_eq_some_iff.mp (show ((tkS false x0).bind (tkS true)).map (ptS false) = some y0 by have e := ey; rw [eo] at e; exact e)
                    obtain ⟨g1, Xs, bs, on, eX, oX, eA1, mA, mX⟩ := st_get ll GT e28
                    have oc := outs_30 (sn := sn) (F := (frF fr to Ff Z)) (p := (60 * m + i)) eo
                    rw [eA1, eX] at oc
                    simp only [stA, spA] at oc
                    refine gi_aload_n (q := 215) (i := 0) C (dm_St_step 101 rfl) rfl rfl rfl ?_
                    refine gi_iload (q := 217) C (dm_St_step 102 rfl) rfl rfl ?_
                    rw [eo]
                    refine gi_callv 1 (q := 220) C (dm_St_step 103 rfl) rfl my_St_useArray lk_St_183 im_St_useArray rfl (c_St_useArray_30 bs on Xs h2 hW hm hT d B hS33 Q33 G33 n14 g1 eX oX eA1 mA mX (fun s h1 h3 => by have t := tld_one hFr (by omega) (by omega) h3; exact ⟨t.1, _, ar_s t.2.2, ok_sp t.2.1 t.2.2⟩) (fun s h1 h3 => by have t := tld_one hFr (by omega) (by omega) h3; exact ⟨t.1, _, ar_s t.2.2, ok_sp t.2.1 t.2.2⟩)) Q33.ob rfl rfl ⟨(Nat.le_of_ble_eq_true rfl), (Nat.le_of_ble_eq_true rfl)⟩ (Nat.le_of_ble_eq_true rfl) ⟨(Nat.le_of_ble_eq_true rfl), (Nat.le_of_ble_eq_true rfl)⟩ (fun r217 n217 h217 e217 => ?_)
                    obtain ⟨rfl, x217, y217, ar217, ou217, wk217, Q217, hc217⟩ := e217
                    rcases hc217 with ⟨eg, rfl⟩ | ⟨zz, eg, ⟨ew, rfl⟩ | ⟨xx, ew, ⟨ef, rfl⟩ | ⟨ee, ef, rfl, G217⟩⟩⟩
                    · refine gi_istore (q := 222) C (dm_St_step 104 rfl) rfl (Nat.le_of_ble_eq_true rfl) ?_
                      refine gi_goto (tgt := 267) C (dm_St_step 105 rfl) (by decide) ?_
                      refine gi_iload (q := 269) C (dm_St_step 125 rfl) rfl rfl ?_
                      refine gi_if_eq (q := 272) (tgt := 314) C (dm_St_step 126 rfl) rfl (by decide) (fun c269 => ?_) (fun c269 => ?_)
                      · refine gi_vret C hr (dm_St_step 149 rfl) ?_
                        refine ⟨rfl, rfl, ?_⟩
                        rw [if_pos tl, oc, eg]
                        exact ⟨_, _, _, _, _, _, _, _, _, _, _, _, _, _, hS33.1, hS33.2.1, B, Q217⟩
                      · exact absurd rfl c269
                    · refine gi_istore (q := 222) C (dm_St_step 104 rfl) rfl (Nat.le_of_ble_eq_true rfl) ?_
                      refine gi_goto (tgt := 267) C (dm_St_step 105 rfl) (by decide) ?_
                      refine gi_iload (q := 269) C (dm_St_step 125 rfl) rfl rfl ?_
                      refine gi_if_eq (q := 272) (tgt := 314) C (dm_St_step 126 rfl) rfl (by decide) (fun c269 => ?_) (fun c269 => ?_)
                      · refine gi_vret C hr (dm_St_step 149 rfl) ?_
                        refine ⟨rfl, rfl, ?_⟩
                        rw [if_pos tl, oc, eg]
                        simp only []
                        rw [ew]
                        exact ⟨_, _, _, _, _, _, _, _, _, _, _, _, _, _, hS33.1, hS33.2.1, B, Q217⟩
                      · exact absurd rfl c269
                    · refine gi_istore (q := 222) C (dm_St_step 104 rfl) rfl (Nat.le_of_ble_eq_true rfl) ?_
                      refine gi_goto (tgt := 267) C (dm_St_step 105 rfl) (by decide) ?_
                      refine gi_iload (q := 269) C (dm_St_step 125 rfl) rfl rfl ?_
                      refine gi_if_eq (q := 272) (tgt := 314) C (dm_St_step 126 rfl) rfl (by decide) (fun c269 => ?_) (fun c269 => ?_)
                      · refine gi_vret C hr (dm_St_step 149 rfl) ?_
                        refine ⟨rfl, rfl, ?_⟩
                        rw [if_pos tl, oc, eg]
                        simp only []
                        rw [ew, ef]
                        exact ⟨_, _, _, _, _, _, _, _, _, _, _, _, _, _, hS33.1, hS33.2.1, B, Q217⟩
                      · exact absurd rfl c269
                    · refine gi_istore (q := 222) C (dm_St_step 104 rfl) rfl (Nat.le_of_ble_eq_true rfl) ?_
                      refine gi_goto (tgt := 267) C (dm_St_step 105 rfl) (by decide) ?_
                      refine gi_iload (q := 269) C (dm_St_step 125 rfl) rfl rfl ?_
                      refine gi_if_eq (q := 272) (tgt := 314) C (dm_St_step 126 rfl) rfl (by decide) (fun c269 => ?_) (fun c269 => ?_)
                      · exact absurd c269 (by decide)
                      · have hi1 := nxi (by omega) (by omega)
                        have okN := okall _ (by rw [oc, eg]; simp only []; rw [ew, ef]; exact List.mem_singleton.mpr rfl)
                        refine gi_aload_n (q := 273) (i := 0) C (dm_St_step 127 rfl) rfl rfl rfl ?_
                        refine gi_aload_n (q := 274) (i := 0) C (dm_St_step 128 rfl) rfl rfl rfl ?_
                        refine gi_get (q := 277) C (dm_St_step 129 rfl) rfl fl_St_70 (by first | exact Q311.ob | exact Q262.ob | exact Q251.ob | exact Q235.ob | exact Q217.ob | exact Q199.ob | exact Q185.ob | exact Q167.ob | exact Q149.ob | exact Q103.ob | exact Q85.ob | exact Q33.ob | exact Q25.ob | exact Q.ob) rfl ?_
                        refine gi_aload_n (q := 278) (i := 0) C (dm_St_step 130 rfl) rfl rfl rfl ?_
                        refine gi_get (q := 281) C (dm_St_step 131 rfl) rfl fl_St_144 (by first | exact Q311.ob | exact Q262.ob | exact Q251.ob | exact Q235.ob | exact Q217.ob | exact Q199.ob | exact Q185.ob | exact Q167.ob | exact Q149.ob | exact Q103.ob | exact Q85.ob | exact Q33.ob | exact Q25.ob | exact Q.ob) rfl ?_
                        refine gi_aload_n (q := 282) (i := 0) C (dm_St_step 132 rfl) rfl rfl rfl ?_
                        refine gi_get (q := 285) C (dm_St_step 133 rfl) rfl fl_St_147 (by first | exact Q311.ob | exact Q262.ob | exact Q251.ob | exact Q235.ob | exact Q217.ob | exact Q199.ob | exact Q185.ob | exact Q167.ob | exact Q149.ob | exact Q103.ob | exact Q85.ob | exact Q33.ob | exact Q25.ob | exact Q.ob) rfl ?_
                        refine gi_iconst (q := 286) (v := 1) C (dm_St_step 134 rfl) rfl (by decide) ?_
                        refine gi_iadd (q := 287) C (dm_St_step 135 rfl) rfl ?_
                        obtain ⟨fs287, ob287⟩ := B.ob d Q217.2
                        rw [hS33.2.2.1, hS33.2.2.2, nI_1]
                        refine gi_callv 2 (q := 290) C (dm_St_step 136 rfl) rfl my_Fa_stateAt lk_St_134 im_Fa_stateAt rfl (b_state (j := i + 1) B d Q217.2 (by omega) (by omega)) ob287 rfl rfl ⟨(Nat.le_of_ble_eq_true rfl), (Nat.le_of_ble_eq_true rfl)⟩ (Nat.le_of_ble_eq_true rfl) ⟨(Nat.le_of_ble_eq_true rfl), (Nat.le_of_ble_eq_true rfl)⟩ (fun r287 n287 h287 e287 => ?_)
                        obtain ⟨rfl, q287, u287⟩ := e287
                        rw [q287, u287]
                        refine gi_aload_n (q := 291) (i := 0) C (dm_St_step 137 rfl) rfl rfl rfl ?_
                        refine gi_get (q := 294) C (dm_St_step 138 rfl) rfl fl_St_23 (by first | exact Q311.ob | exact Q262.ob | exact Q251.ob | exact Q235.ob | exact Q217.ob | exact Q199.ob | exact Q185.ob | exact Q167.ob | exact Q149.ob | exact Q103.ob | exact Q85.ob | exact Q33.ob | exact Q25.ob | exact Q.ob) rfl ?_
                        refine gi_aload_n (q := 295) (i := 0) C (dm_St_step 139 rfl) rfl rfl rfl ?_
                        refine gi_get (q := 298) C (dm_St_step 140 rfl) rfl fl_St_62 (by first | exact Q311.ob | exact Q262.ob | exact Q251.ob | exact Q235.ob | exact Q217.ob | exact Q199.ob | exact Q185.ob | exact Q167.ob | exact Q149.ob | exact Q103.ob | exact Q85.ob | exact Q33.ob | exact Q25.ob | exact Q.ob) rfl ?_
                        refine gi_aload_n (q := 299) (i := 0) C (dm_St_step 141 rfl) rfl rfl rfl ?_
                        refine gi_get (q := 302) C (dm_St_step 142 rfl) rfl fl_St_144 (by first | exact Q311.ob | exact Q262.ob | exact Q251.ob | exact Q235.ob | exact Q217.ob | exact Q199.ob | exact Q185.ob | exact Q167.ob | exact Q149.ob | exact Q103.ob | exact Q85.ob | exact Q33.ob | exact Q25.ob | exact Q.ob) rfl ?_
                        refine gi_aload_n (q := 303) (i := 0) C (dm_St_step 143 rfl) rfl rfl rfl ?_
                        refine gi_get (q := 306) C (dm_St_step 144 rfl) rfl fl_St_147 (by first | exact Q311.ob | exact Q262.ob | exact Q251.ob | exact Q235.ob | exact Q217.ob | exact Q199.ob | exact Q185.ob | exact Q167.ob | exact Q149.ob | exact Q103.ob | exact Q85.ob | exact Q33.ob | exact Q25.ob | exact Q.ob) rfl ?_
                        refine gi_iconst (q := 307) (v := 1) C (dm_St_step 145 rfl) rfl (by decide) ?_
                        refine gi_iadd (q := 308) C (dm_St_step 146 rfl) rfl ?_
                        obtain ⟨fw308, ow308⟩ := B.ob2 d Q217.2
                        rw [hS33.2.2.1, hS33.2.2.2, nI_1]
                        refine gi_callv 2 (q := 311) C (dm_St_step 147 rfl) rfl my_Bu_isWide lk_St_167 im_Bu_isWide rfl (b_wide (j := i + 1) hW B d Q217.2 hm hi1) ow308 rfl rfl ⟨(Nat.le_of_ble_eq_true rfl), (Nat.le_of_ble_eq_true rfl)⟩ (Nat.le_of_ble_eq_true rfl) ⟨(Nat.le_of_ble_eq_true rfl), (Nat.le_of_ble_eq_true rfl)⟩ (fun r308 n308 h308 e308 => ?_)
                        obtain ⟨rfl, q308, u308⟩ := e308
                        rw [q308, u308]
                        refine gi_callv 3 (q := 314) C (dm_St_step 148 rfl) rfl my_St_come lk_St_140 im_St_come rfl (b_come (a + 4) 14 (((frF fr to Ff Z) (60 * m + i)).n - 1) (60 * m + i + 1) _ _ h2 B hT d hS33 Q217 (by omega) (by omega) (by omega) Q217.wk G217 (okC_n okN hT) (by rw [cap_st (by omega)]; exact okC_n okN hT) okN) Q217.ob rfl rfl ⟨(Nat.le_of_ble_eq_true rfl), (Nat.le_of_ble_eq_true rfl)⟩ (Nat.le_of_ble_eq_true rfl) ⟨(Nat.le_of_ble_eq_true rfl), (Nat.le_of_ble_eq_true rfl)⟩ (fun r311 n311 h311 e311 => ?_)
                        obtain ⟨rfl, rfl, S311, hS311, B311, Q311⟩ := e311
                        refine gi_vret C hr (dm_St_step 149 rfl) ?_
                        refine ⟨rfl, rfl, ?_⟩
                        rw [if_pos tl, oc, eg]
                        simp only []
                        rw [ew, ef]
                        exact ⟨_, _, _, _, _, _, _, _, _, _, _, _, _, _, hS311.1, hS311.2.1, B311, Q311⟩
                  · obtain ⟨g1, Xs, bs, on, eX, oX, eA1, mA, mX⟩ := st_put ll GT (show ((tkS false x0).bind (tkS false)).bind (tkS true) = some y0 by have e := ey; rw [eo] at e; exact e)
                    have oc := outs_31 (sn := sn) (F := (frF fr to Ff Z)) (p := (60 * m + i)) eo
                    rw [eA1, eX] at oc
                    simp only [stA, spA] at oc
                    obtain ⟨-, X9, Y9, -, oz1, -, oc9, -⟩ : 2 ≤ ((frF fr to Ff Z) (60 * m + i)).n ∧ ∃ X Y, (((frF fr to Ff Z) (60 * m + i)).f (((frF fr to Ff Z) (60 * m + i)).n - 2)).1 = .inl X ∧ (((frF fr to Ff Z) (60 * m + i)).f (((frF fr to Ff Z) (60 * m + i)).n - 1)).1 = .inl Y ∧ okS X ∧ okS Y ∧ True := by
                      obtain ⟨q1, q2, -⟩ := Option.bind_eq_some_iff.mp (show ((tkS false x0).bind (tkS false)).bind (tkS true) = some y0 by have e := ey; rw [eo] at e; exact e)
                      obtain ⟨t1, X1, Y1, t2, t3, t4, t5, -⟩ := st_two ll GT q2
                      exact ⟨t1, X1, Y1, t2, t3, t4, t5, trivial⟩
                    refine gi_aload_n (q := 215) (i := 0) C (dm_St_step 101 rfl) rfl rfl rfl ?_
                    refine gi_iload (q := 217) C (dm_St_step 102 rfl) rfl rfl ?_
                    rw [eo]
                    refine gi_callv 1 (q := 220) C (dm_St_step 103 rfl) rfl my_St_useArray lk_St_183 im_St_useArray rfl (c_St_useArray_31 bs on Xs h2 hW hm hT d B hS33 Q33 G33 n14 g1 eX oX eA1 mA mX (fun s h1 h3 => by have t := tld_one hFr (by omega) (by omega) h3; exact ⟨t.1, _, ar_s t.2.2, ok_sp t.2.1 t.2.2⟩) hwt (fun s h1 _ => okC_one (by omega) (by omega) (by rw [oz1]; exact oc9) (by rw [oz1]; rfl))) Q33.ob rfl rfl ⟨(Nat.le_of_ble_eq_true rfl), (Nat.le_of_ble_eq_true rfl)⟩ (Nat.le_of_ble_eq_true rfl) ⟨(Nat.le_of_ble_eq_true rfl), (Nat.le_of_ble_eq_true rfl)⟩ (fun r217 n217 h217 e217 => ?_)
                    obtain ⟨rfl, hc217⟩ := e217
                    rcases hc217 with ⟨eg, rfl, x217, y217, ar217, ou217, wk217, Q217⟩ | ⟨zz, eg, ⟨ew, rfl, x217, y217, ar217, ou217, wk217, Q217⟩ | ⟨xx, ew, rfl, hC217, S217, y217, ou217, wk217, lo217, hS217, B217, Q217, G217⟩⟩
                    · refine gi_istore (q := 222) C (dm_St_step 104 rfl) rfl (Nat.le_of_ble_eq_true rfl) ?_
                      refine gi_goto (tgt := 267) C (dm_St_step 105 rfl) (by decide) ?_
                      refine gi_iload (q := 269) C (dm_St_step 125 rfl) rfl rfl ?_
                      refine gi_if_eq (q := 272) (tgt := 314) C (dm_St_step 126 rfl) rfl (by decide) (fun c269 => ?_) (fun c269 => ?_)
                      · refine gi_vret C hr (dm_St_step 149 rfl) ?_
                        refine ⟨rfl, rfl, ?_⟩
                        rw [if_pos tl, oc, eg]
                        exact ⟨_, _, _, _, _, _, _, _, _, _, _, _, _, _, hS33.1, hS33.2.1, B, Q217⟩
                      · exact absurd rfl c269
                    · refine gi_istore (q := 222) C (dm_St_step 104 rfl) rfl (Nat.le_of_ble_eq_true rfl) ?_
                      refine gi_goto (tgt := 267) C (dm_St_step 105 rfl) (by decide) ?_
                      refine gi_iload (q := 269) C (dm_St_step 125 rfl) rfl rfl ?_
                      refine gi_if_eq (q := 272) (tgt := 314) C (dm_St_step 126 rfl) rfl (by decide) (fun c269 => ?_) (fun c269 => ?_)
                      · refine gi_vret C hr (dm_St_step 149 rfl) ?_
                        refine ⟨rfl, rfl, ?_⟩
                        rw [if_pos tl, oc, eg]
                        simp only []
                        rw [ew]
                        exact ⟨_, _, _, _, _, _, _, _, _, _, _, _, _, _, hS33.1, hS33.2.1, B, Q217⟩
                      · exact absurd rfl c269
                    · refine gi_istore (q := 222) C (dm_St_step 104 rfl) rfl (Nat.le_of_ble_eq_true rfl) ?_
                      refine gi_goto (tgt := 267) C (dm_St_step 105 rfl) (by decide) ?_
                      refine gi_iload (q := 269) C (dm_St_step 125 rfl) rfl rfl ?_
                      refine gi_if_eq (q := 272) (tgt := 314) C (dm_St_step 126 rfl) rfl (by decide) (fun c269 => ?_) (fun c269 => ?_)
                      · exact absurd c269 (by decide)
                      · have hi1 := nxi (by omega) (by omega)
                        have okN := okall _ (by rw [oc, eg]; simp only []; rw [ew]; exact List.mem_append.mpr (Or.inr (List.mem_singleton.mpr rfl)))
                        refine gi_aload_n (q := 273) (i := 0) C (dm_St_step 127 rfl) rfl rfl rfl ?_
                        refine gi_aload_n (q := 274) (i := 0) C (dm_St_step 128 rfl) rfl rfl rfl ?_
                        refine gi_get (q := 277) C (dm_St_step 129 rfl) rfl fl_St_70 (by first | exact Q311.ob | exact Q262.ob | exact Q251.ob | exact Q235.ob | exact Q217.ob | exact Q199.ob | exact Q185.ob | exact Q167.ob | exact Q149.ob | exact Q103.ob | exact Q85.ob | exact Q33.ob | exact Q25.ob | exact Q.ob) rfl ?_
                        refine gi_aload_n (q := 278) (i := 0) C (dm_St_step 130 rfl) rfl rfl rfl ?_
                        refine gi_get (q := 281) C (dm_St_step 131 rfl) rfl fl_St_144 (by first | exact Q311.ob | exact Q262.ob | exact Q251.ob | exact Q235.ob | exact Q217.ob | exact Q199.ob | exact Q185.ob | exact Q167.ob | exact Q149.ob | exact Q103.ob | exact Q85.ob | exact Q33.ob | exact Q25.ob | exact Q.ob) rfl ?_
                        refine gi_aload_n (q := 282) (i := 0) C (dm_St_step 132 rfl) rfl rfl rfl ?_
                        refine gi_get (q := 285) C (dm_St_step 133 rfl) rfl fl_St_147 (by first | exact Q311.ob | exact Q262.ob | exact Q251.ob | exact Q235.ob | exact Q217.ob | exact Q199.ob | exact Q185.ob | exact Q167.ob | exact Q149.ob | exact Q103.ob | exact Q85.ob | exact Q33.ob | exact Q25.ob | exact Q.ob) rfl ?_
                        refine gi_iconst (q := 286) (v := 1) C (dm_St_step 134 rfl) rfl (by decide) ?_
                        refine gi_iadd (q := 287) C (dm_St_step 135 rfl) rfl ?_
                        obtain ⟨fs287, ob287⟩ := B217.ob d Q217.2
                        rw [hS217.2.2.1, hS217.2.2.2, nI_1]
                        refine gi_callv 2 (q := 290) C (dm_St_step 136 rfl) rfl my_Fa_stateAt lk_St_134 im_Fa_stateAt rfl (b_state (j := i + 1) B217 d Q217.2 (by omega) (by omega)) ob287 rfl rfl ⟨(Nat.le_of_ble_eq_true rfl), (Nat.le_of_ble_eq_true rfl)⟩ (Nat.le_of_ble_eq_true rfl) ⟨(Nat.le_of_ble_eq_true rfl), (Nat.le_of_ble_eq_true rfl)⟩ (fun r287 n287 h287 e287 => ?_)
                        obtain ⟨rfl, q287, u287⟩ := e287
                        rw [q287, u287]
                        refine gi_aload_n (q := 291) (i := 0) C (dm_St_step 137 rfl) rfl rfl rfl ?_
                        refine gi_get (q := 294) C (dm_St_step 138 rfl) rfl fl_St_23 (by first | exact Q311.ob | exact Q262.ob | exact Q251.ob | exact Q235.ob | exact Q217.ob | exact Q199.ob | exact Q185.ob | exact Q167.ob | exact Q149.ob | exact Q103.ob | exact Q85.ob | exact Q33.ob | exact Q25.ob | exact Q.ob) rfl ?_
                        refine gi_aload_n (q := 295) (i := 0) C (dm_St_step 139 rfl) rfl rfl rfl ?_
                        refine gi_get (q := 298) C (dm_St_step 140 rfl) rfl fl_St_62 (by first | exact Q311.ob | exact Q262.ob | exact Q251.ob | exact Q235.ob | exact Q217.ob | exact Q199.ob | exact Q185.ob | exact Q167.ob | exact Q149.ob | exact Q103.ob | exact Q85.ob | exact Q33.ob | exact Q25.ob | exact Q.ob) rfl ?_
                        refine gi_aload_n (q := 299) (i := 0) C (dm_St_step 141 rfl) rfl rfl rfl ?_
                        refine gi_get (q := 302) C (dm_St_step 142 rfl) rfl fl_St_144 (by first | exact Q311.ob | exact Q262.ob | exact Q251.ob | exact Q235.ob | exact Q217.ob | exact Q199.ob | exact Q185.ob | exact Q167.ob | exact Q149.ob | exact Q103.ob | exact Q85.ob | exact Q33.ob | exact Q25.ob | exact Q.ob) rfl ?_
                        refine gi_aload_n (q := 303) (i := 0) C (dm_St_step 143 rfl) rfl rfl rfl ?_
                        refine gi_get (q := 306) C (dm_St_step 144 rfl) rfl fl_St_147 (by first | exact Q311.ob | exact Q262.ob | exact Q251.ob | exact Q235.ob | exact Q217.ob | exact Q199.ob | exact Q185.ob | exact Q167.ob | exact Q149.ob | exact Q103.ob | exact Q85.ob | exact Q33.ob | exact Q25.ob | exact Q.ob) rfl ?_
                        refine gi_iconst (q := 307) (v := 1) C (dm_St_step 145 rfl) rfl (by decide) ?_
                        refine gi_iadd (q := 308) C (dm_St_step 146 rfl) rfl ?_
                        obtain ⟨fw308, ow308⟩ := B217.ob2 d Q217.2
                        rw [hS217.2.2.1, hS217.2.2.2, nI_1]
                        refine gi_callv 2 (q := 311) C (dm_St_step 147 rfl) rfl my_Bu_isWide lk_St_167 im_Bu_isWide rfl (b_wide (j := i + 1) hW B217 d Q217.2 hm hi1) ow308 rfl rfl ⟨(Nat.le_of_ble_eq_true rfl), (Nat.le_of_ble_eq_true rfl)⟩ (Nat.le_of_ble_eq_true rfl) ⟨(Nat.le_of_ble_eq_true rfl), (Nat.le_of_ble_eq_true rfl)⟩ (fun r308 n308 h308 e308 => ?_)
                        obtain ⟨rfl, q308, u308⟩ := e308
                        rw [q308, u308]
                        refine gi_callv 3 (q := 314) C (dm_St_step 148 rfl) rfl my_St_come lk_St_140 im_St_come rfl (b_come (a + 4) 14 (((frF fr to Ff Z) (60 * m + i)).n - 3) (60 * m + i + 1) _ _ h2 B217 hT d hS217 Q217 (by omega) (by omega) (by omega) Q217.wk G217 (okC_n okN hT) (by rw [cap_st (by omega)]; exact okC_n okN hT) okN) Q217.ob rfl rfl ⟨(Nat.le_of_ble_eq_true rfl), (Nat.le_of_ble_eq_true rfl)⟩ (Nat.le_of_ble_eq_true rfl) ⟨(Nat.le_of_ble_eq_true rfl), (Nat.le_of_ble_eq_true rfl)⟩ (fun r311 n311 h311 e311 => ?_)
                        obtain ⟨rfl, rfl, S311, hS311, B311, Q311⟩ := e311
                        refine gi_vret C hr (dm_St_step 149 rfl) ?_
                        refine ⟨rfl, rfl, ?_⟩
                        rw [if_pos tl, oc, eg]
                        simp only []
                        rw [ew]
                        simp only []
                        rw [List.foldl_append, List.foldl_map]
                        exact ⟨_, _, _, _, _, _, _, _, _, _, _, _, _, _, hS311.1, hS311.2.1, B311, Q311⟩
              · have o28 : (pN P 6 (60 * m + i)) = 28 := (nI_eq (b := 28) (by omega) (by omega)).mp c195
                obtain ⟨q28, e28, -⟩ := Option.map_eq_some_iff.mp (show (tkS false x0).map (ptS true) = some y0 by have e := ey; rw [o28] at e; exact e)
                obtain ⟨g1, Xs, eX, oX, mX⟩ := st_int ll GT e28
                have hsn := hB0.site _ _ hsx o28
                have oc := outs_28 (sn := sn) (F := (frF fr to Ff Z)) (p := (60 * m + i)) o28
                rw [eX] at oc
                refine gi_aload_n (q := 199) (i := 0) C (dm_St_step 94 rfl) rfl rfl rfl ?_
                refine gi_callv 0 (q := 202) C (dm_St_step 95 rfl) rfl my_St_makeArray lk_St_179 im_St_makeArray rfl (c_St_makeArray Xs h2 hW hm hT d B hS33 Q33 G33 hi o28 hsn.2 hwt g1 n14 eX oX mX (fun x' e => ⟨okall _ (by rw [oc, show withinS (spA (.inl Xs)) 0 2147483647 = some x' from e]; exact List.mem_cons_self ..), okall _ (by rw [oc, show withinS (spA (.inl Xs)) 0 2147483647 = some x' from e]; exact List.mem_cons_of_mem _ (List.mem_cons_self ..))⟩)) Q33.ob rfl rfl ⟨(Nat.le_of_ble_eq_true rfl), (Nat.le_of_ble_eq_true rfl)⟩ (Nat.le_of_ble_eq_true rfl) ⟨(Nat.le_of_ble_eq_true rfl), (Nat.le_of_ble_eq_true rfl)⟩ (fun r199 n199 h199 e199 => ?_)
                obtain ⟨rfl, hc199⟩ := e199
                rcases hc199 with ⟨ex199, rfl, x199, wk199, Q199⟩ | ⟨xx, ex199, rfl, hC199, S199, ou199, wk199, lo199, x199, hS199, B199, Q199, G199⟩
                all_goals rw [show withinS Xs 0 2147483647 = withinS (spA (.inl Xs)) 0 2147483647 from rfl] at ex199
                · refine gi_istore (q := 204) C (dm_St_step 96 rfl) rfl (Nat.le_of_ble_eq_true rfl) ?_
                  refine gi_goto (tgt := 267) C (dm_St_step 97 rfl) (by decide) ?_
                  refine gi_iload (q := 269) C (dm_St_step 125 rfl) rfl rfl ?_
                  refine gi_if_eq (q := 272) (tgt := 314) C (dm_St_step 126 rfl) rfl (by decide) (fun c269 => ?_) (fun c269 => ?_)
                  · refine gi_vret C hr (dm_St_step 149 rfl) ?_
                    refine ⟨rfl, rfl, ?_⟩
                    rw [if_pos tl, oc, ex199]
                    exact ⟨_, _, _, _, _, _, _, _, _, _, _, _, _, _, hS33.1, hS33.2.1, B, Q199⟩
                  · exact absurd rfl c269
                · refine gi_istore (q := 204) C (dm_St_step 96 rfl) rfl (Nat.le_of_ble_eq_true rfl) ?_
                  refine gi_goto (tgt := 267) C (dm_St_step 97 rfl) (by decide) ?_
                  refine gi_iload (q := 269) C (dm_St_step 125 rfl) rfl rfl ?_
                  refine gi_if_eq (q := 272) (tgt := 314) C (dm_St_step 126 rfl) rfl (by decide) (fun c269 => ?_) (fun c269 => ?_)
                  · exact absurd c269 (by decide)
                  · have hi1 := nxi (by omega) (by omega)
                    have okN := okall _ (by rw [oc, ex199]; exact List.mem_cons_of_mem _ (List.mem_cons_of_mem _ (List.mem_singleton.mpr rfl)))
                    refine gi_aload_n (q := 273) (i := 0) C (dm_St_step 127 rfl) rfl rfl rfl ?_
                    refine gi_aload_n (q := 274) (i := 0) C (dm_St_step 128 rfl) rfl rfl rfl ?_
                    refine gi_get (q := 277) C (dm_St_step 129 rfl) rfl fl_St_70 (by first | exact Q311.ob | exact Q262.ob | exact Q251.ob | exact Q235.ob | exact Q217.ob | exact Q199.ob | exact Q185.ob | exact Q167.ob | exact Q149.ob | exact Q103.ob | exact Q85.ob | exact Q33.ob | exact Q25.ob | exact Q.ob) rfl ?_
                    refine gi_aload_n (q := 278) (i := 0) C (dm_St_step 130 rfl) rfl rfl rfl ?_
                    refine gi_get (q := 281) C (dm_St_step 131 rfl) rfl fl_St_144 (by first | exact Q311.ob | exact Q262.ob | exact Q251.ob | exact Q235.ob | exact Q217.ob | exact Q199.ob | exact Q185.ob | exact Q167.ob | exact Q149.ob | exact Q103.ob | exact Q85.ob | exact Q33.ob | exact Q25.ob | exact Q.ob) rfl ?_
                    refine gi_aload_n (q := 282) (i := 0) C (dm_St_step 132 rfl) rfl rfl rfl ?_
                    refine gi_get (q := 285) C (dm_St_step 133 rfl) rfl fl_St_147 (by first | exact Q311.ob | exact Q262.ob | exact Q251.ob | exact Q235.ob | exact Q217.ob | exact Q199.ob | exact Q185.ob | exact Q167.ob | exact Q149.ob | exact Q103.ob | exact Q85.ob | exact Q33.ob | exact Q25.ob | exact Q.ob) rfl ?_
                    refine gi_iconst (q := 286) (v := 1) C (dm_St_step 134 rfl) rfl (by decide) ?_
                    refine gi_iadd (q := 287) C (dm_St_step 135 rfl) rfl ?_
                    obtain ⟨fs287, ob287⟩ := B199.ob d Q199.2
                    rw [hS199.2.2.1, hS199.2.2.2, nI_1]
                    refine gi_callv 2 (q := 290) C (dm_St_step 136 rfl) rfl my_Fa_stateAt lk_St_134 im_Fa_stateAt rfl (b_state (j := i + 1) B199 d Q199.2 (by omega) (by omega)) ob287 rfl rfl ⟨(Nat.le_of_ble_eq_true rfl), (Nat.le_of_ble_eq_true rfl)⟩ (Nat.le_of_ble_eq_true rfl) ⟨(Nat.le_of_ble_eq_true rfl), (Nat.le_of_ble_eq_true rfl)⟩ (fun r287 n287 h287 e287 => ?_)
                    obtain ⟨rfl, q287, u287⟩ := e287
                    rw [q287, u287]
                    refine gi_aload_n (q := 291) (i := 0) C (dm_St_step 137 rfl) rfl rfl rfl ?_
                    refine gi_get (q := 294) C (dm_St_step 138 rfl) rfl fl_St_23 (by first | exact Q311.ob | exact Q262.ob | exact Q251.ob | exact Q235.ob | exact Q217.ob | exact Q199.ob | exact Q185.ob | exact Q167.ob | exact Q149.ob | exact Q103.ob | exact Q85.ob | exact Q33.ob | exact Q25.ob | exact Q.ob) rfl ?_
                    refine gi_aload_n (q := 295) (i := 0) C (dm_St_step 139 rfl) rfl rfl rfl ?_
                    refine gi_get (q := 298) C (dm_St_step 140 rfl) rfl fl_St_62 (by first | exact Q311.ob | exact Q262.ob | exact Q251.ob | exact Q235.ob | exact Q217.ob | exact Q199.ob | exact Q185.ob | exact Q167.ob | exact Q149.ob | exact Q103.ob | exact Q85.ob | exact Q33.ob | exact Q25.ob | exact Q.ob) rfl ?_
                    refine gi_aload_n (q := 299) (i := 0) C (dm_St_step 141 rfl) rfl rfl rfl ?_
                    refine gi_get (q := 302) C (dm_St_step 142 rfl) rfl fl_St_144 (by first | exact Q311.ob | exact Q262.ob | exact Q251.ob | exact Q235.ob | exact Q217.ob | exact Q199.ob | exact Q185.ob | exact Q167.ob | exact Q149.ob | exact Q103.ob | exact Q85.ob | exact Q33.ob | exact Q25.ob | exact Q.ob) rfl ?_
                    refine gi_aload_n (q := 303) (i := 0) C (dm_St_step 143 rfl) rfl rfl rfl ?_
                    refine gi_get (q := 306) C (dm_St_step 144 rfl) rfl fl_St_147 (by first | exact Q311.ob | exact Q262.ob | exact Q251.ob | exact Q235.ob | exact Q217.ob | exact Q199.ob | exact Q185.ob | exact Q167.ob | exact Q149.ob | exact Q103.ob | exact Q85.ob | exact Q33.ob | exact Q25.ob | exact Q.ob) rfl ?_
                    refine gi_iconst (q := 307) (v := 1) C (dm_St_step 145 rfl) rfl (by decide) ?_
                    refine gi_iadd (q := 308) C (dm_St_step 146 rfl) rfl ?_
                    obtain ⟨fw308, ow308⟩ := B199.ob2 d Q199.2
                    rw [hS199.2.2.1, hS199.2.2.2, nI_1]
                    refine gi_callv 2 (q := 311) C (dm_St_step 147 rfl) rfl my_Bu_isWide lk_St_167 im_Bu_isWide rfl (b_wide (j := i + 1) hW B199 d Q199.2 hm hi1) ow308 rfl rfl ⟨(Nat.le_of_ble_eq_true rfl), (Nat.le_of_ble_eq_true rfl)⟩ (Nat.le_of_ble_eq_true rfl) ⟨(Nat.le_of_ble_eq_true rfl), (Nat.le_of_ble_eq_true rfl)⟩ (fun r308 n308 h308 e308 => ?_)
                    obtain ⟨rfl, q308, u308⟩ := e308
                    rw [q308, u308]
                    refine gi_callv 3 (q := 314) C (dm_St_step 148 rfl) rfl my_St_come lk_St_140 im_St_come rfl (b_come (a + 4) 14 (((frF fr to Ff Z) (60 * m + i)).n) (60 * m + i + 1) _ _ h2 B199 hT d hS199 Q199 (by omega) (by omega) (by omega) Q199.wk G199 (okC_n okN hT) (by rw [cap_st (by omega)]; exact okC_n okN hT) okN) Q199.ob rfl rfl ⟨(Nat.le_of_ble_eq_true rfl), (Nat.le_of_ble_eq_true rfl)⟩ (Nat.le_of_ble_eq_true rfl) ⟨(Nat.le_of_ble_eq_true rfl), (Nat.le_of_ble_eq_true rfl)⟩ (fun r311 n311 h311 e311 => ?_)
                    obtain ⟨rfl, rfl, S311, hS311, B311, Q311⟩ := e311
                    refine gi_vret C hr (dm_St_step 149 rfl) ?_
                    refine ⟨rfl, rfl, ?_⟩
                    rw [if_pos tl, oc, ex199]
                    exact ⟨_, _, _, _, _, _, _, _, _, _, _, _, _, _, hS311.1, hS311.2.1, B311, Q311⟩
            · have o26 : 26 ≤ (pN P 6 (60 * m + i)) := Nat.lt_of_not_le (fun z => absurd c159 (Int32.not_lt.mpr (nI_le (b := 25) z (by omega))))
              have o27 : (pN P 6 (60 * m + i)) ≤ 27 := (nI_leI (b := 27) (by omega) (by omega)).mp (Int32.not_lt.mp c177)
              obtain ⟨e7, hja⟩ := jmp (by omega) (by omega)
              obtain ⟨g1, bs, on, eA1, mA⟩ := st_set ll GT (show tkS true x0 = some y0 by rw [← sh_nl o26 o27]; exact ey)
              have oc := outs_nl (sn := sn) (F := (frF fr to Ff Z)) (p := (60 * m + i)) rfl hi60 o26 o27
              rcases (show (pN P 6 (60 * m + i)) = 26 ∨ (pN P 6 (60 * m + i)) = 27 by omega) with e26 | e26
              · rw [e26, show decide ((26 : Nat) = 26) = true from rfl, show decide ((26 : Nat) = 27) = false from rfl] at oc
                refine gi_aload_n (q := 181) (i := 0) C (dm_St_step 86 rfl) rfl rfl rfl ?_
                refine gi_iload (q := 183) C (dm_St_step 87 rfl) rfl rfl ?_
                refine gi_iload (q := 185) C (dm_St_step 88 rfl) rfl rfl ?_
                try rw [e7]
                rw [e26]
                refine gi_callv 2 (q := 188) C (dm_St_step 89 rfl) rfl my_St_askNull lk_St_176 im_St_askNull rfl (c_St_askNull_26 (pN P 7 (60 * m + i)) bs on h2 hW hm hT d B hS33 Q33 G33 (nxi (by omega) (by omega)) hja g1 n14 eA1 mA (fun g e => okall _ (by rw [oc]; exact List.mem_append.mpr (Or.inl (conO_mem e)))) (fun g e => okall _ (by rw [oc]; exact List.mem_append.mpr (Or.inr (conO_mem e))))) Q33.ob rfl rfl ⟨(Nat.le_of_ble_eq_true rfl), (Nat.le_of_ble_eq_true rfl)⟩ (Nat.le_of_ble_eq_true rfl) ⟨(Nat.le_of_ble_eq_true rfl), (Nat.le_of_ble_eq_true rfl)⟩ (fun r185 n185 h185 e185 => ?_)
                obtain ⟨rfl, rfl, hC185, S185, ar185, ou185, wk185, wy185, hS185, B185, Q185⟩ := e185
                refine gi_goto (tgt := 267) C (dm_St_step 90 rfl) (by decide) ?_
                refine gi_iload (q := 269) C (dm_St_step 125 rfl) rfl rfl ?_
                refine gi_if_eq (q := 272) (tgt := 314) C (dm_St_step 126 rfl) rfl (by decide) (fun c269 => ?_) (fun c269 => ?_)
                · refine gi_vret C hr (dm_St_step 149 rfl) ?_
                  refine ⟨rfl, rfl, ?_⟩
                  rw [if_pos tl, oc]
                  exact ⟨_, _, _, _, _, _, _, _, _, _, _, _, _, _, hS185.1, hS185.2.1, B185, Q185⟩
                · exact absurd rfl c269
              · rw [e26, show decide ((27 : Nat) = 26) = false from rfl, show decide ((27 : Nat) = 27) = true from rfl] at oc
                refine gi_aload_n (q := 181) (i := 0) C (dm_St_step 86 rfl) rfl rfl rfl ?_
                refine gi_iload (q := 183) C (dm_St_step 87 rfl) rfl rfl ?_
                refine gi_iload (q := 185) C (dm_St_step 88 rfl) rfl rfl ?_
                try rw [e7]
                rw [e26]
                refine gi_callv 2 (q := 188) C (dm_St_step 89 rfl) rfl my_St_askNull lk_St_176 im_St_askNull rfl (c_St_askNull_27 (pN P 7 (60 * m + i)) bs on h2 hW hm hT d B hS33 Q33 G33 (nxi (by omega) (by omega)) hja g1 n14 eA1 mA (fun g e => okall _ (by rw [oc]; exact List.mem_append.mpr (Or.inl (conO_mem e)))) (fun g e => okall _ (by rw [oc]; exact List.mem_append.mpr (Or.inr (conO_mem e))))) Q33.ob rfl rfl ⟨(Nat.le_of_ble_eq_true rfl), (Nat.le_of_ble_eq_true rfl)⟩ (Nat.le_of_ble_eq_true rfl) ⟨(Nat.le_of_ble_eq_true rfl), (Nat.le_of_ble_eq_true rfl)⟩ (fun r185 n185 h185 e185 => ?_)
                obtain ⟨rfl, rfl, hC185, S185, ar185, ou185, wk185, wy185, hS185, B185, Q185⟩ := e185
                refine gi_goto (tgt := 267) C (dm_St_step 90 rfl) (by decide) ?_
                refine gi_iload (q := 269) C (dm_St_step 125 rfl) rfl rfl ?_
                refine gi_if_eq (q := 272) (tgt := 314) C (dm_St_step 126 rfl) rfl (by decide) (fun c269 => ?_) (fun c269 => ?_)
                · refine gi_vret C hr (dm_St_step 149 rfl) ?_
                  refine ⟨rfl, rfl, ?_⟩
                  rw [if_pos tl, oc]
                  exact ⟨_, _, _, _, _, _, _, _, _, _, _, _, _, _, hS185.1, hS185.2.1, B185, Q185⟩
                · exact absurd rfl c269
          · have o18 : 18 < (pN P 6 (60 * m + i)) := Nat.lt_of_not_le (fun z => absurd c97 (Int32.not_lt.mpr (nI_le (b := 18) z (by omega))))
            have o19 : ¬ (pN P 6 (60 * m + i)) = 19 := (fun z : (pN P 6 (60 * m + i)) = 19 => c115 (by rw [z]; rfl))
            have o20 : 20 ≤ (pN P 6 (60 * m + i)) := by omega
            have o25 : (pN P 6 (60 * m + i)) ≤ 25 := (nI_leI (b := 25) (by omega) (by omega)).mp (Int32.not_lt.mp c159)
            obtain ⟨e7, hja⟩ := jmp (by omega) (by omega)
            obtain ⟨g2, Xs, Ys, eX, eY, oX, oY, mX, mY⟩ := st_two ll GT (show (tkS false x0).bind (tkS false) = some y0 by rw [← sh_cp o20 o25]; exact ey)
            have oc := outs_cp (sn := sn) (F := (frF fr to Ff Z)) (p := (60 * m + i)) rfl hi60 o20 o25
            rw [eX, eY] at oc
            refine gi_aload_n (q := 163) (i := 0) C (dm_St_step 78 rfl) rfl rfl rfl ?_
            refine gi_iload (q := 165) C (dm_St_step 79 rfl) rfl rfl ?_
            refine gi_iload (q := 167) C (dm_St_step 80 rfl) rfl rfl ?_
            try rw [e7]
            refine gi_callv 2 (q := 170) C (dm_St_step 81 rfl) rfl my_St_compare lk_St_172 im_St_compare rfl (c_St_compare (pN P 6 (60 * m + i)) (pN P 7 (60 * m + i)) Xs Ys o20 o25 h2 hW hm hT d B hS33 Q33 G33 (nxi (by omega) (by omega)) hja g2 n14 eX eY oX oY mX mY (fun g e => okall _ (by rw [oc]; exact List.mem_append.mpr (Or.inl (conO_mem e)))) (fun g e => okall _ (by rw [oc]; exact List.mem_append.mpr (Or.inr (conO_mem e))))) Q33.ob rfl rfl ⟨(Nat.le_of_ble_eq_true rfl), (Nat.le_of_ble_eq_true rfl)⟩ (Nat.le_of_ble_eq_true rfl) ⟨(Nat.le_of_ble_eq_true rfl), (Nat.le_of_ble_eq_true rfl)⟩ (fun r167 n167 h167 e167 => ?_)
            obtain ⟨rfl, rfl, hC167, S167, x167, y167, nx167, ny167, wk167, wy167, hS167, B167, Q167⟩ := e167
            refine gi_goto (tgt := 267) C (dm_St_step 82 rfl) (by decide) ?_
            refine gi_iload (q := 269) C (dm_St_step 125 rfl) rfl rfl ?_
            refine gi_if_eq (q := 272) (tgt := 314) C (dm_St_step 126 rfl) rfl (by decide) (fun c269 => ?_) (fun c269 => ?_)
            · refine gi_vret C hr (dm_St_step 149 rfl) ?_
              refine ⟨rfl, rfl, ?_⟩
              rw [if_pos tl, oc]
              exact ⟨_, _, _, _, _, _, _, _, _, _, _, _, _, _, hS167.1, hS167.2.1, B167, Q167⟩
            · exact absurd rfl c269
        · have o19 : (pN P 6 (60 * m + i)) = 19 := (nI_eq (b := 19) (by omega) (by omega)).mp c115
          obtain ⟨e7, hja⟩ := jmp (by omega) (by omega)
          have okJ := okall (60 * m + pN P 7 (60 * m + i), ((frF fr to Ff Z) (60 * m + i)).n, ((frF fr to Ff Z) (60 * m + i)).f) (by rw [outs_go rfl hi60 o19]; exact List.mem_singleton.mpr rfl)
          refine gi_aload_n (q := 119) (i := 0) C (dm_St_step 58 rfl) rfl rfl rfl ?_
          refine gi_aload_n (q := 120) (i := 0) C (dm_St_step 59 rfl) rfl rfl rfl ?_
          refine gi_get (q := 123) C (dm_St_step 60 rfl) rfl fl_St_70 (by first | exact Q311.ob | exact Q262.ob | exact Q251.ob | exact Q235.ob | exact Q217.ob | exact Q199.ob | exact Q185.ob | exact Q167.ob | exact Q149.ob | exact Q103.ob | exact Q85.ob | exact Q33.ob | exact Q25.ob | exact Q.ob) rfl ?_
          refine gi_aload_n (q := 124) (i := 0) C (dm_St_step 61 rfl) rfl rfl rfl ?_
          refine gi_get (q := 127) C (dm_St_step 62 rfl) rfl fl_St_144 (by first | exact Q311.ob | exact Q262.ob | exact Q251.ob | exact Q235.ob | exact Q217.ob | exact Q199.ob | exact Q185.ob | exact Q167.ob | exact Q149.ob | exact Q103.ob | exact Q85.ob | exact Q33.ob | exact Q25.ob | exact Q.ob) rfl ?_
          refine gi_iload (q := 129) C (dm_St_step 63 rfl) rfl rfl ?_
          obtain ⟨fs129, ob129⟩ := B.ob d Q33.2
          rw [hS33.2.2.1]
          try rw [e7]
          refine gi_callv 2 (q := 132) C (dm_St_step 64 rfl) rfl my_Fa_stateAt lk_St_134 im_Fa_stateAt rfl (b_state (j := pN P 7 (60 * m + i)) B d Q33.2 (by omega) (by omega)) ob129 rfl rfl ⟨(Nat.le_of_ble_eq_true rfl), (Nat.le_of_ble_eq_true rfl)⟩ (Nat.le_of_ble_eq_true rfl) ⟨(Nat.le_of_ble_eq_true rfl), (Nat.le_of_ble_eq_true rfl)⟩ (fun r129 n129 h129 e129 => ?_)
          obtain ⟨rfl, q129, u129⟩ := e129
          rw [q129, u129]
          refine gi_aload_n (q := 133) (i := 0) C (dm_St_step 65 rfl) rfl rfl rfl ?_
          refine gi_get (q := 136) C (dm_St_step 66 rfl) rfl fl_St_23 (by first | exact Q311.ob | exact Q262.ob | exact Q251.ob | exact Q235.ob | exact Q217.ob | exact Q199.ob | exact Q185.ob | exact Q167.ob | exact Q149.ob | exact Q103.ob | exact Q85.ob | exact Q33.ob | exact Q25.ob | exact Q.ob) rfl ?_
          refine gi_aload_n (q := 137) (i := 0) C (dm_St_step 67 rfl) rfl rfl rfl ?_
          refine gi_get (q := 140) C (dm_St_step 68 rfl) rfl fl_St_62 (by first | exact Q311.ob | exact Q262.ob | exact Q251.ob | exact Q235.ob | exact Q217.ob | exact Q199.ob | exact Q185.ob | exact Q167.ob | exact Q149.ob | exact Q103.ob | exact Q85.ob | exact Q33.ob | exact Q25.ob | exact Q.ob) rfl ?_
          refine gi_aload_n (q := 141) (i := 0) C (dm_St_step 69 rfl) rfl rfl rfl ?_
          refine gi_get (q := 144) C (dm_St_step 70 rfl) rfl fl_St_144 (by first | exact Q311.ob | exact Q262.ob | exact Q251.ob | exact Q235.ob | exact Q217.ob | exact Q199.ob | exact Q185.ob | exact Q167.ob | exact Q149.ob | exact Q103.ob | exact Q85.ob | exact Q33.ob | exact Q25.ob | exact Q.ob) rfl ?_
          refine gi_iload (q := 146) C (dm_St_step 71 rfl) rfl rfl ?_
          obtain ⟨fw146, ow146⟩ := B.ob2 d Q33.2
          rw [hS33.2.2.1]
          try rw [e7]
          refine gi_callv 2 (q := 149) C (dm_St_step 72 rfl) rfl my_Bu_isWide lk_St_167 im_Bu_isWide rfl (b_wide (j := pN P 7 (60 * m + i)) hW B d Q33.2 hm hja) ow146 rfl rfl ⟨(Nat.le_of_ble_eq_true rfl), (Nat.le_of_ble_eq_true rfl)⟩ (Nat.le_of_ble_eq_true rfl) ⟨(Nat.le_of_ble_eq_true rfl), (Nat.le_of_ble_eq_true rfl)⟩ (fun r146 n146 h146 e146 => ?_)
          obtain ⟨rfl, q146, u146⟩ := e146
          rw [q146, u146]
          refine gi_callv 3 (q := 152) C (dm_St_step 73 rfl) rfl my_St_come lk_St_140 im_St_come rfl (b_come (a + 4) 14 ((frF fr to Ff Z) (60 * m + i)).n (60 * m + pN P 7 (60 * m + i)) _ _ h2 B hT d hS33 Q33 (by omega) (by omega) (by omega) Q33.wk G33 n14 (by rw [cap_st (by omega)]; exact n14) okJ) Q33.ob rfl rfl ⟨(Nat.le_of_ble_eq_true rfl), (Nat.le_of_ble_eq_true rfl)⟩ (Nat.le_of_ble_eq_true rfl) ⟨(Nat.le_of_ble_eq_true rfl), (Nat.le_of_ble_eq_true rfl)⟩ (fun r149 n149 h149 e149 => ?_)
          obtain ⟨rfl, rfl, S149, hS149, B149, Q149⟩ := e149
          refine gi_goto (tgt := 267) C (dm_St_step 74 rfl) (by decide) ?_
          refine gi_iload (q := 269) C (dm_St_step 125 rfl) rfl rfl ?_
          refine gi_if_eq (q := 272) (tgt := 314) C (dm_St_step 126 rfl) rfl (by decide) (fun c269 => ?_) (fun c269 => ?_)
          · refine gi_vret C hr (dm_St_step 149 rfl) ?_
            refine ⟨rfl, rfl, ?_⟩
            rw [if_pos tl, outs_go rfl hi60 o19]
            exact ⟨_, _, _, _, _, _, _, _, _, _, _, _, _, _, hS149.1, hS149.2.1, B149, Q149⟩
          · exact absurd rfl c269
      · have o7 : 7 ≤ (pN P 6 (60 * m + i)) := Nat.lt_of_not_le (fun z => absurd c77 (Int32.not_lt.mpr (nI_le (b := 6) z (by omega))))
        have o18 : (pN P 6 (60 * m + i)) ≤ 18 := (nI_leI (b := 18) (by omega) (by omega)).mp (Int32.not_lt.mp c97)
        refine gi_aload_n (q := 101) (i := 0) C (dm_St_step 50 rfl) rfl rfl rfl ?_
        refine gi_iload (q := 103) C (dm_St_step 51 rfl) rfl rfl ?_
        refine gi_callv 1 (q := 106) C (dm_St_step 52 rfl) rfl my_St_reckon lk_St_163 im_St_reckon rfl (c_St_reckonA (pN P 6 (60 * m + i)) _ _ Q33 G33 o7 o18 n14 (fun z => hr2 z o7 o18) hr1) Q33.ob rfl rfl ⟨(Nat.le_of_ble_eq_true rfl), (Nat.le_of_ble_eq_true rfl)⟩ (Nat.le_of_ble_eq_true rfl) ⟨(Nat.le_of_ble_eq_true rfl), (Nat.le_of_ble_eq_true rfl)⟩ (fun r103 n103 h103 e103 => ?_)
        obtain ⟨rfl, x103, y103, ou103, be103, ab103, wk103, Q103, hc103⟩ := e103
        rcases hc103 with ⟨ho103, rfl⟩ | ⟨mm, gg, ho103, rfl, G103⟩
        · refine gi_istore (q := 108) C (dm_St_step 53 rfl) rfl (Nat.le_of_ble_eq_true rfl) ?_
          refine gi_goto (tgt := 267) C (dm_St_step 54 rfl) (by decide) ?_
          refine gi_iload (q := 269) C (dm_St_step 125 rfl) rfl rfl ?_
          refine gi_if_eq (q := 272) (tgt := 314) C (dm_St_step 126 rfl) rfl (by decide) (fun c269 => ?_) (fun c269 => ?_)
          · refine gi_vret C hr (dm_St_step 149 rfl) ?_
            refine ⟨rfl, rfl, ?_⟩
            rw [if_pos tl, outs_rk o7 o18, ho103]
            exact ⟨_, _, _, _, _, _, _, _, _, _, _, _, _, _, hS33.1, hS33.2.1, B, Q103⟩
          · exact absurd rfl c269
        · refine gi_istore (q := 108) C (dm_St_step 53 rfl) rfl (Nat.le_of_ble_eq_true rfl) ?_
          refine gi_goto (tgt := 267) C (dm_St_step 54 rfl) (by decide) ?_
          refine gi_iload (q := 269) C (dm_St_step 125 rfl) rfl rfl ?_
          refine gi_if_eq (q := 272) (tgt := 314) C (dm_St_step 126 rfl) rfl (by decide) (fun c269 => ?_) (fun c269 => ?_)
          · exact absurd c269 (by decide)
          · have hi1 := nxi (by omega) (by omega)
            have okN := okall (60 * m + i + 1, mm, gg) (by rw [outs_rk o7 o18, ho103]; exact List.mem_singleton.mpr rfl)
            refine gi_aload_n (q := 273) (i := 0) C (dm_St_step 127 rfl) rfl rfl rfl ?_
            refine gi_aload_n (q := 274) (i := 0) C (dm_St_step 128 rfl) rfl rfl rfl ?_
            refine gi_get (q := 277) C (dm_St_step 129 rfl) rfl fl_St_70 (by first | exact Q311.ob | exact Q262.ob | exact Q251.ob | exact Q235.ob | exact Q217.ob | exact Q199.ob | exact Q185.ob | exact Q167.ob | exact Q149.ob | exact Q103.ob | exact Q85.ob | exact Q33.ob | exact Q25.ob | exact Q.ob) rfl ?_
            refine gi_aload_n (q := 278) (i := 0) C (dm_St_step 130 rfl) rfl rfl rfl ?_
            refine gi_get (q := 281) C (dm_St_step 131 rfl) rfl fl_St_144 (by first | exact Q311.ob | exact Q262.ob | exact Q251.ob | exact Q235.ob | exact Q217.ob | exact Q199.ob | exact Q185.ob | exact Q167.ob | exact Q149.ob | exact Q103.ob | exact Q85.ob | exact Q33.ob | exact Q25.ob | exact Q.ob) rfl ?_
            refine gi_aload_n (q := 282) (i := 0) C (dm_St_step 132 rfl) rfl rfl rfl ?_
            refine gi_get (q := 285) C (dm_St_step 133 rfl) rfl fl_St_147 (by first | exact Q311.ob | exact Q262.ob | exact Q251.ob | exact Q235.ob | exact Q217.ob | exact Q199.ob | exact Q185.ob | exact Q167.ob | exact Q149.ob | exact Q103.ob | exact Q85.ob | exact Q33.ob | exact Q25.ob | exact Q.ob) rfl ?_
            refine gi_iconst (q := 286) (v := 1) C (dm_St_step 134 rfl) rfl (by decide) ?_
            refine gi_iadd (q := 287) C (dm_St_step 135 rfl) rfl ?_
            obtain ⟨fs287, ob287⟩ := B.ob d Q103.2
            rw [hS33.2.2.1, hS33.2.2.2, nI_1]
            refine gi_callv 2 (q := 290) C (dm_St_step 136 rfl) rfl my_Fa_stateAt lk_St_134 im_Fa_stateAt rfl (b_state (j := i + 1) B d Q103.2 (by omega) (by omega)) ob287 rfl rfl ⟨(Nat.le_of_ble_eq_true rfl), (Nat.le_of_ble_eq_true rfl)⟩ (Nat.le_of_ble_eq_true rfl) ⟨(Nat.le_of_ble_eq_true rfl), (Nat.le_of_ble_eq_true rfl)⟩ (fun r287 n287 h287 e287 => ?_)
            obtain ⟨rfl, q287, u287⟩ := e287
            rw [q287, u287]
            refine gi_aload_n (q := 291) (i := 0) C (dm_St_step 137 rfl) rfl rfl rfl ?_
            refine gi_get (q := 294) C (dm_St_step 138 rfl) rfl fl_St_23 (by first | exact Q311.ob | exact Q262.ob | exact Q251.ob | exact Q235.ob | exact Q217.ob | exact Q199.ob | exact Q185.ob | exact Q167.ob | exact Q149.ob | exact Q103.ob | exact Q85.ob | exact Q33.ob | exact Q25.ob | exact Q.ob) rfl ?_
            refine gi_aload_n (q := 295) (i := 0) C (dm_St_step 139 rfl) rfl rfl rfl ?_
            refine gi_get (q := 298) C (dm_St_step 140 rfl) rfl fl_St_62 (by first | exact Q311.ob | exact Q262.ob | exact Q251.ob | exact Q235.ob | exact Q217.ob | exact Q199.ob | exact Q185.ob | exact Q167.ob | exact Q149.ob | exact Q103.ob | exact Q85.ob | exact Q33.ob | exact Q25.ob | exact Q.ob) rfl ?_
            refine gi_aload_n (q := 299) (i := 0) C (dm_St_step 141 rfl) rfl rfl rfl ?_
            refine gi_get (q := 302) C (dm_St_step 142 rfl) rfl fl_St_144 (by first | exact Q311.ob | exact Q262.ob | exact Q251.ob | exact Q235.ob | exact Q217.ob | exact Q199.ob | exact Q185.ob | exact Q167.ob | exact Q149.ob | exact Q103.ob | exact Q85.ob | exact Q33.ob | exact Q25.ob | exact Q.ob) rfl ?_
            refine gi_aload_n (q := 303) (i := 0) C (dm_St_step 143 rfl) rfl rfl rfl ?_
            refine gi_get (q := 306) C (dm_St_step 144 rfl) rfl fl_St_147 (by first | exact Q311.ob | exact Q262.ob | exact Q251.ob | exact Q235.ob | exact Q217.ob | exact Q199.ob | exact Q185.ob | exact Q167.ob | exact Q149.ob | exact Q103.ob | exact Q85.ob | exact Q33.ob | exact Q25.ob | exact Q.ob) rfl ?_
            refine gi_iconst (q := 307) (v := 1) C (dm_St_step 145 rfl) rfl (by decide) ?_
            refine gi_iadd (q := 308) C (dm_St_step 146 rfl) rfl ?_
            obtain ⟨fw308, ow308⟩ := B.ob2 d Q103.2
            rw [hS33.2.2.1, hS33.2.2.2, nI_1]
            refine gi_callv 2 (q := 311) C (dm_St_step 147 rfl) rfl my_Bu_isWide lk_St_167 im_Bu_isWide rfl (b_wide (j := i + 1) hW B d Q103.2 hm hi1) ow308 rfl rfl ⟨(Nat.le_of_ble_eq_true rfl), (Nat.le_of_ble_eq_true rfl)⟩ (Nat.le_of_ble_eq_true rfl) ⟨(Nat.le_of_ble_eq_true rfl), (Nat.le_of_ble_eq_true rfl)⟩ (fun r308 n308 h308 e308 => ?_)
            obtain ⟨rfl, q308, u308⟩ := e308
            rw [q308, u308]
            refine gi_callv 3 (q := 314) C (dm_St_step 148 rfl) rfl my_St_come lk_St_140 im_St_come rfl (b_come (a + 4) 14 (mm) (60 * m + i + 1) _ _ h2 B hT d hS33 Q103 (by omega) (by omega) (by omega) Q103.wk G103 (okC_n okN hT) (by rw [cap_st (by omega)]; exact okC_n okN hT) okN) Q103.ob rfl rfl ⟨(Nat.le_of_ble_eq_true rfl), (Nat.le_of_ble_eq_true rfl)⟩ (Nat.le_of_ble_eq_true rfl) ⟨(Nat.le_of_ble_eq_true rfl), (Nat.le_of_ble_eq_true rfl)⟩ (fun r311 n311 h311 e311 => ?_)
            obtain ⟨rfl, rfl, S311, hS311, B311, Q311⟩ := e311
            refine gi_vret C hr (dm_St_step 149 rfl) ?_
            refine ⟨rfl, rfl, ?_⟩
            rw [if_pos tl, outs_rk o7 o18, ho103]
            exact ⟨_, _, _, _, _, _, _, _, _, _, _, _, _, _, hS311.1, hS311.2.1, B311, Q311⟩
    · have o6 : (pN P 6 (60 * m + i)) ≤ 6 := (nI_leI (b := 6) (by omega) (by omega)).mp (Int32.not_lt.mp c77)
      have mv := st_move hB0 (by omega) hFr tl o6
      refine gi_aload_n (q := 81) (i := 0) C (dm_St_step 41 rfl) rfl rfl rfl ?_
      refine gi_iload (q := 83) C (dm_St_step 42 rfl) rfl rfl ?_
      refine gi_iload (q := 85) C (dm_St_step 43 rfl) rfl rfl ?_
      refine gi_callv 2 (q := 88) C (dm_St_step 44 rfl) rfl my_St_move lk_St_160 im_St_move rfl (c_St_move (pN P 6 (60 * m + i)) ((frF fr to Ff Z) (60 * m + i)).n (P 7 (60 * m + i)) ((frF fr to Ff Z) (60 * m + i)).f Q33 o6 G33 mv) Q33.ob rfl rfl ⟨(Nat.le_of_ble_eq_true rfl), (Nat.le_of_ble_eq_true rfl)⟩ (Nat.le_of_ble_eq_true rfl) ⟨(Nat.le_of_ble_eq_true rfl), (Nat.le_of_ble_eq_true rfl)⟩ (fun r85 n85 h85 e85 => ?_)
      obtain ⟨rfl, rfl, x85, wk85, Q85, G85⟩ := e85
      refine gi_istore (q := 90) C (dm_St_step 45 rfl) rfl (Nat.le_of_ble_eq_true rfl) ?_
      refine gi_goto (tgt := 267) C (dm_St_step 46 rfl) (by decide) ?_
      refine gi_iload (q := 269) C (dm_St_step 125 rfl) rfl rfl ?_
      refine gi_if_eq (q := 272) (tgt := 314) C (dm_St_step 126 rfl) rfl (by decide) (fun c269 => ?_) (fun c269 => ?_)
      · exact absurd c269 (by decide)
      · have hi1 := nxi (by omega) (by omega)
        have okN := okall _ (by rw [outs_mv o6]; exact List.mem_singleton.mpr rfl)
        refine gi_aload_n (q := 273) (i := 0) C (dm_St_step 127 rfl) rfl rfl rfl ?_
        refine gi_aload_n (q := 274) (i := 0) C (dm_St_step 128 rfl) rfl rfl rfl ?_
        refine gi_get (q := 277) C (dm_St_step 129 rfl) rfl fl_St_70 (by first | exact Q311.ob | exact Q262.ob | exact Q251.ob | exact Q235.ob | exact Q217.ob | exact Q199.ob | exact Q185.ob | exact Q167.ob | exact Q149.ob | exact Q103.ob | exact Q85.ob | exact Q33.ob | exact Q25.ob | exact Q.ob) rfl ?_
        refine gi_aload_n (q := 278) (i := 0) C (dm_St_step 130 rfl) rfl rfl rfl ?_
        refine gi_get (q := 281) C (dm_St_step 131 rfl) rfl fl_St_144 (by first | exact Q311.ob | exact Q262.ob | exact Q251.ob | exact Q235.ob | exact Q217.ob | exact Q199.ob | exact Q185.ob | exact Q167.ob | exact Q149.ob | exact Q103.ob | exact Q85.ob | exact Q33.ob | exact Q25.ob | exact Q.ob) rfl ?_
        refine gi_aload_n (q := 282) (i := 0) C (dm_St_step 132 rfl) rfl rfl rfl ?_
        refine gi_get (q := 285) C (dm_St_step 133 rfl) rfl fl_St_147 (by first | exact Q311.ob | exact Q262.ob | exact Q251.ob | exact Q235.ob | exact Q217.ob | exact Q199.ob | exact Q185.ob | exact Q167.ob | exact Q149.ob | exact Q103.ob | exact Q85.ob | exact Q33.ob | exact Q25.ob | exact Q.ob) rfl ?_
        refine gi_iconst (q := 286) (v := 1) C (dm_St_step 134 rfl) rfl (by decide) ?_
        refine gi_iadd (q := 287) C (dm_St_step 135 rfl) rfl ?_
        obtain ⟨fs287, ob287⟩ := B.ob d Q85.2
        rw [hS33.2.2.1, hS33.2.2.2, nI_1]
        refine gi_callv 2 (q := 290) C (dm_St_step 136 rfl) rfl my_Fa_stateAt lk_St_134 im_Fa_stateAt rfl (b_state (j := i + 1) B d Q85.2 (by omega) (by omega)) ob287 rfl rfl ⟨(Nat.le_of_ble_eq_true rfl), (Nat.le_of_ble_eq_true rfl)⟩ (Nat.le_of_ble_eq_true rfl) ⟨(Nat.le_of_ble_eq_true rfl), (Nat.le_of_ble_eq_true rfl)⟩ (fun r287 n287 h287 e287 => ?_)
        obtain ⟨rfl, q287, u287⟩ := e287
        rw [q287, u287]
        refine gi_aload_n (q := 291) (i := 0) C (dm_St_step 137 rfl) rfl rfl rfl ?_
        refine gi_get (q := 294) C (dm_St_step 138 rfl) rfl fl_St_23 (by first | exact Q311.ob | exact Q262.ob | exact Q251.ob | exact Q235.ob | exact Q217.ob | exact Q199.ob | exact Q185.ob | exact Q167.ob | exact Q149.ob | exact Q103.ob | exact Q85.ob | exact Q33.ob | exact Q25.ob | exact Q.ob) rfl ?_
        refine gi_aload_n (q := 295) (i := 0) C (dm_St_step 139 rfl) rfl rfl rfl ?_
        refine gi_get (q := 298) C (dm_St_step 140 rfl) rfl fl_St_62 (by first | exact Q311.ob | exact Q262.ob | exact Q251.ob | exact Q235.ob | exact Q217.ob | exact Q199.ob | exact Q185.ob | exact Q167.ob | exact Q149.ob | exact Q103.ob | exact Q85.ob | exact Q33.ob | exact Q25.ob | exact Q.ob) rfl ?_
        refine gi_aload_n (q := 299) (i := 0) C (dm_St_step 141 rfl) rfl rfl rfl ?_
        refine gi_get (q := 302) C (dm_St_step 142 rfl) rfl fl_St_144 (by first | exact Q311.ob | exact Q262.ob | exact Q251.ob | exact Q235.ob | exact Q217.ob | exact Q199.ob | exact Q185.ob | exact Q167.ob | exact Q149.ob | exact Q103.ob | exact Q85.ob | exact Q33.ob | exact Q25.ob | exact Q.ob) rfl ?_
        refine gi_aload_n (q := 303) (i := 0) C (dm_St_step 143 rfl) rfl rfl rfl ?_
        refine gi_get (q := 306) C (dm_St_step 144 rfl) rfl fl_St_147 (by first | exact Q311.ob | exact Q262.ob | exact Q251.ob | exact Q235.ob | exact Q217.ob | exact Q199.ob | exact Q185.ob | exact Q167.ob | exact Q149.ob | exact Q103.ob | exact Q85.ob | exact Q33.ob | exact Q25.ob | exact Q.ob) rfl ?_
        refine gi_iconst (q := 307) (v := 1) C (dm_St_step 145 rfl) rfl (by decide) ?_
        refine gi_iadd (q := 308) C (dm_St_step 146 rfl) rfl ?_
        obtain ⟨fw308, ow308⟩ := B.ob2 d Q85.2
        rw [hS33.2.2.1, hS33.2.2.2, nI_1]
        refine gi_callv 2 (q := 311) C (dm_St_step 147 rfl) rfl my_Bu_isWide lk_St_167 im_Bu_isWide rfl (b_wide (j := i + 1) hW B d Q85.2 hm hi1) ow308 rfl rfl ⟨(Nat.le_of_ble_eq_true rfl), (Nat.le_of_ble_eq_true rfl)⟩ (Nat.le_of_ble_eq_true rfl) ⟨(Nat.le_of_ble_eq_true rfl), (Nat.le_of_ble_eq_true rfl)⟩ (fun r308 n308 h308 e308 => ?_)
        obtain ⟨rfl, q308, u308⟩ := e308
        rw [q308, u308]
        refine gi_callv 3 (q := 314) C (dm_St_step 148 rfl) rfl my_St_come lk_St_140 im_St_come rfl (b_come (a + 4) 14 ((moveS (P 7 (60 * m + i)) (pN P 6 (60 * m + i)) ((frF fr to Ff Z) (60 * m + i)).n ((frF fr to Ff Z) (60 * m + i)).f).1) (60 * m + i + 1) _ _ h2 B hT d hS33 Q85 (by omega) (by omega) (by omega) Q85.wk G85 (okC_n okN hT) (by rw [cap_st (by omega)]; exact okC_n okN hT) okN) Q85.ob rfl rfl ⟨(Nat.le_of_ble_eq_true rfl), (Nat.le_of_ble_eq_true rfl)⟩ (Nat.le_of_ble_eq_true rfl) ⟨(Nat.le_of_ble_eq_true rfl), (Nat.le_of_ble_eq_true rfl)⟩ (fun r311 n311 h311 e311 => ?_)
        obtain ⟨rfl, rfl, S311, hS311, B311, Q311⟩ := e311
        refine gi_vret C hr (dm_St_step 149 rfl) ?_
        refine ⟨rfl, rfl, ?_⟩
        rw [if_pos tl, outs_mv o6]
        exact ⟨_, _, _, _, _, _, _, _, _, _, _, _, _, _, hS311.1, hS311.2.1, B311, Q311⟩
  · refine gi_vret C hr (dm_St_step 9 rfl) ?_
    have tf : ¬ ((frF fr to Ff Z) (60 * m + i)).told = true := fun z => by
      rw [RR0.1, show ((if fr = to then Z.1 else Ff) (60 * m + i)).told = true from z] at c14
      exact absurd c14 (by decide)
    refine ⟨rfl, rfl, ?_⟩
    rw [if_neg tf]
    exact ⟨_, _, _, _, _, _, _, _, _, _, _, _, _, _, hS6, hS0, B, Q⟩
end STF
