-- needs: 89.71
section RC3
variable {l : Launch} {V : gi_V} {n : Nat} {h h' : gi_H} {M k m i : Nat} {P : Pm} {x : Sh} {sh : Nat → Option Sh} {S S' : Nat → Int32} {J J' : Nat → Int64} {F F' : Nat → Nat → Int32} {G G' : Nat → Nat → Int64} {f g : Nat → Sl} {n0 : Nat} {r : Rw}
def inv (L j : Nat) : Nat := if j < 6 then j else L + (j - 6)
theorem inv_sl {L i : Nat} (h6 : L ≤ 6) : inv L (sl L i) = i := by
  unfold inv sl
  by_cases q : i < L
  · rw [if_pos q, if_pos (by omega)]
  · rw [if_neg q, if_neg (by omega)]
    omega
theorem isS_inv {L j : Nat} (hL : pN P 2 m = L) (h6 : L ≤ 6) (h : isS P m x j = true) : inv L j < L + x.1 ∧ sl L (inv L j) = j ∧ isA P m x j = kdF P m x (inv L j) ∧ (6 ≤ j → L ≤ inv L j) ∧ (j < 6 → inv L j < L) := by
  obtain ⟨i, h1, h2, h3, h4, h5⟩ := isS_sl hL h6 h
  have e : inv L j = i := by rw [← h2]; exact inv_sl h6
  rw [e]
  exact ⟨h1, h2, h3, h4, h5⟩
/-- a slot's test -/
def covJ (P : Pm) (m : Nat) (x : Sh) (r : Rw) (g : Nat → Sl) (j : Nat) : Bool := !isS P m x j || (covA (r.f (inv (pN P 2 m) j)).1 (g (inv (pN P 2 m) j)).1 && covM (r.f (inv (pN P 2 m) j)).2 (g (inv (pN P 2 m) j)).2)
def allJ (P : Pm) (m : Nat) (x : Sh) (r : Rw) (g : Nat → Sl) (j : Nat) : Bool := (List.range j).all (covJ P m x r g)
theorem allJ_s {j : Nat} : allJ P m x r g (j + 1) = (allJ P m x r g j && covJ P m x r g j) := by
  unfold allJ
  rw [List.range_succ, List.all_append]
  simp
theorem allJ_f {j d : Nat} (h : allJ P m x r g j = false) : allJ P m x r g (j + d) = false := by
  induction d with
  | zero => exact h
  | succ d ih => rw [← Nat.add_assoc, allJ_s, ih]; rfl
theorem allJ_R (h6 : pN P 2 m ≤ 6) (h8 : x.1 ≤ 8) (hn : n0 = pN P 2 m + x.1) (hr : r.n = pN P 2 m + x.1) : allJ P m x r g 14 = covR r n0 g := by
  have key : allJ P m x r g 14 = true ↔ covR r n0 g = true := by
    rw [covR_iff]
    unfold allJ
    rw [List.all_eq_true]
    constructor
    · intro q
      refine ⟨hn.trans hr.symm, fun i hi => ?_⟩
      have z := q (sl (pN P 2 m) i) (List.mem_range.mpr (sl_14 (n := pN P 2 m + x.1) h6 (by omega) (by omega)))
      unfold covJ at z
      rw [sl_isS rfl h6 (by omega), inv_sl h6] at z
      simpa using z
    · intro q j hj
      unfold covJ
      cases e : isS P m x j with
      | false => rfl
      | true =>
        obtain ⟨h1, -⟩ := isS_inv rfl h6 e
        have z := q.2 (inv (pN P 2 m) j) (by omega)
        rw [z.1, z.2]
        rfl
  cases e : covR r n0 g with
  | true => exact key.mpr e
  | false =>
    cases e2 : allJ P m x r g 14 with
    | false => rfl
    | true => rw [key.mp e2] at e; cases e
theorem bI_z (b : Bool) : (0 : Int32) = bI b ↔ b = false := by cases b <;> decide
theorem bI_o (b : Bool) : (1 : Int32) = bI b ↔ b = true := by cases b <;> decide
set_option maxHeartbeats 4000000 in
set_option maxRecDepth 100000 in
theorem c_Mo_isHeld (W : wfP k P) (hm : m < k) (hi : i < pN P 5 m) (hP : prF P F) (x8 : x.1 ≤ 8) (e12 : F 12 (60 * m + i) = nI x.1) (e13 : F 13 (60 * m + i) = nI x.2) (hw : rwR (pN P 2 m) n0 g (cW F G)) (hg : tyG P m x n0 g) (hr' : rwR (pN P 2 m) r.n r.f (fun j => cS F G (14 * (60 * m + i) + j))) (hrt : tyG P m x r.n r.f) (H : mo_at M S J F G h) : gi_T l V y_Mo_isHeld b_Mo_isHeld 5 (some .boolean) 2 44 0 0 [.ref M, .int (nI (60 * m + i))] n h (gi_is (some (.int (bI (covR r n0 g)))) n h) := by
  refine gi_enter (by decide) (Nat.le_of_ble_eq_true rfl) ?_
  intro _ _ _ _ _ _ _ _ C hr hnm
  obtain ⟨fs, Ha, Hf⟩ := id H.1
  have ho : outM M h h := outM.rf
  have w8 := W.k8
  have wm := wf_ar W hm
  refine gi_bipush (q := 2) (v := 14) C (dm_Mo_isHeld 0 rfl) rfl (by decide) ?_
  refine gi_iload_n (q := 3) (i := 1) C (dm_Mo_isHeld 1 rfl) rfl rfl rfl ?_
  refine gi_imul (q := 4) C (dm_Mo_isHeld 2 rfl) rfl ?_
  rw [show (14 : Int32) = nI 14 from rfl, nI_ml]
  refine gi_istore_n (q := 5) (i := 2) C (dm_Mo_isHeld 3 rfl) rfl rfl (Nat.le_of_ble_eq_true rfl) ?_
  refine gi_iconst (q := 6) (v := 1) C (dm_Mo_isHeld 4 rfl) rfl (by decide) ?_
  refine gi_istore_n (q := 7) (i := 3) C (dm_Mo_isHeld 5 rfl) rfl rfl (Nat.le_of_ble_eq_true rfl) ?_
  refine gi_iconst (q := 8) (v := 0) C (dm_Mo_isHeld 6 rfl) rfl (by decide) ?_
  refine gi_istore (q := 10) C (dm_Mo_isHeld 7 rfl) rfl (Nat.le_of_ble_eq_true rfl) ?_
  refine gi_while (σ := Nat) (fun j => 14 - j) (fun j => [(4, .int (nI j)), (3, .int (bI (allJ P m x r g j))), (2, .int (nI (14 * (60 * m + i)))), (1, .int (nI (60 * m + i))), (0, .ref M)]) (fun _ => n) (fun _ => 0) (fun _ => 0) (fun j y' => j ≤ 14 ∧ h = y') 0 ⟨Nat.zero_le _, rfl⟩ ?_ (List.forall_mem_cons.mpr ⟨(by first | rfl | (simp [gi_look]; done)), List.forall_mem_cons.mpr ⟨(by first | rfl | (simp [gi_look]; done)), List.forall_mem_cons.mpr ⟨(by first | rfl | (simp [gi_look]; done)), List.forall_mem_cons.mpr ⟨(by first | rfl | (simp [gi_look]; done)), List.forall_mem_cons.mpr ⟨(by first | rfl | (simp [gi_look]; done)), fun _ h => absurd h List.not_mem_nil⟩⟩⟩⟩⟩) rfl rfl rfl
  rintro j y' ⟨hj, rfl⟩ ihj
  try dsimp only at *
  refine gi_iload (q := 12) C (dm_Mo_isHeld 8 rfl) rfl rfl ?_
  refine gi_bipush (q := 14) (v := 14) C (dm_Mo_isHeld 9 rfl) rfl (by decide) ?_
  refine gi_icmp_ge (q := 17) (tgt := 201) C (dm_Mo_isHeld 10 rfl) rfl (by decide) (fun c14 => ?_) (fun c14 => ?_)
  · refine gi_iload_n (q := 202) (i := 3) C (dm_Mo_isHeld 116 rfl) rfl rfl rfl ?_
    refine gi_zret C hr (dm_Mo_isHeld 117 rfl) (bI_nar _) ?_
    refine ⟨?_, rfl, rfl⟩
    rw [← allJ_R (r := r) (g := g) wm.2.1 x8 (G_n hg) (G_n hrt)]
    first
      | (rw [show j = 14 from Nat.le_antisymm hj (Nat.le_of_not_lt (fun q => absurd c14 (Int32.not_le.mpr (nI_lt (b := 14) q (by omega)))))]; done)
      | (have z := allJ_f (d := 14 - j) (bI_fa c18)
         rw [show j + (14 - j) = 14 by omega] at z
         rw [z, bI_fa c18])
  · have jl : j < 14 := by
      rcases Nat.lt_or_ge j (14) with q | q
      · exact q
      · exact absurd (nI_le (a := 14) q (by omega)) c14
    refine gi_iload_n (q := 18) (i := 3) C (dm_Mo_isHeld 11 rfl) rfl rfl rfl ?_
    refine gi_if_eq (q := 21) (tgt := 201) C (dm_Mo_isHeld 12 rfl) rfl (by decide) (fun c18 => ?_) (fun c18 => ?_)
    · refine gi_iload_n (q := 202) (i := 3) C (dm_Mo_isHeld 116 rfl) rfl rfl rfl ?_
      refine gi_zret C hr (dm_Mo_isHeld 117 rfl) (bI_nar _) ?_
      refine ⟨?_, rfl, rfl⟩
      rw [← allJ_R (r := r) (g := g) wm.2.1 x8 (G_n hg) (G_n hrt)]
      first
        | (rw [show j = 14 from Nat.le_antisymm hj (Nat.le_of_not_lt (fun q => absurd c14 (Int32.not_le.mpr (nI_lt (b := 14) q (by omega)))))]; done)
        | (have z := allJ_f (d := 14 - j) (bI_fa c18)
           rw [show j + (14 - j) = 14 by omega] at z
           rw [z, bI_fa c18])
    · have aj : allJ P m x r g j = true := bI_t c18
      refine gi_aload_n (q := 22) (i := 0) C (dm_Mo_isHeld 13 rfl) rfl rfl rfl ?_
      refine gi_iload_n (q := 23) (i := 1) C (dm_Mo_isHeld 14 rfl) rfl rfl rfl ?_
      refine gi_iload (q := 25) C (dm_Mo_isHeld 15 rfl) rfl rfl ?_
      refine gi_callv 2 (q := 28) C (dm_Mo_isHeld 16 rfl) rfl my_Mo_isSlot lk_Mo_404 im_Mo_isSlot rfl (c_Mo_isSlot (x := x) W hm hi hP jl x8 e12 H) Ha rfl rfl ⟨(Nat.le_of_ble_eq_true rfl), (Nat.le_of_ble_eq_true rfl)⟩ (Nat.le_of_ble_eq_true rfl) ⟨(Nat.le_of_ble_eq_true rfl), (Nat.le_of_ble_eq_true rfl)⟩ (fun r25 n25 h25 e25 => ?_)
      obtain ⟨rfl, q25, u25⟩ := e25
      rw [q25, u25]
      refine gi_if_eq (q := 31) (tgt := 195) C (dm_Mo_isHeld 17 rfl) rfl (by decide) (fun c28 => ?_) (fun c28 => ?_)
      · have ca : allJ P m x r g (j + 1) = true := by
          rw [allJ_s, aj, Bool.true_and]
          unfold covJ
          rw [bI_fa c28]
          rfl
        refine gi_iinc (q := 198) (v := 1) C (dm_Mo_isHeld 114 rfl) rfl rfl (by decide) (Nat.le_of_ble_eq_true rfl) ?_
        refine gi_goto (tgt := 10) C (dm_Mo_isHeld 115 rfl) (by decide) ?_
        refine gi_close (ihj (j + 1) _ ⟨jl, rfl⟩ (by omega)) (List.forall_mem_cons.mpr ⟨(by first | rfl | (simp [gi_look, nI_1]; done) | (rw [ca, ← aj]; rfl)), List.forall_mem_cons.mpr ⟨(by first | rfl | (simp [gi_look, nI_1]; done) | (rw [ca, ← aj]; rfl)), List.forall_mem_cons.mpr ⟨(by first | rfl | (simp [gi_look, nI_1]; done) | (rw [ca, ← aj]; rfl)), List.forall_mem_cons.mpr ⟨(by first | rfl | (simp [gi_look, nI_1]; done) | (rw [ca, ← aj]; rfl)), List.forall_mem_cons.mpr ⟨(by first | rfl | (simp [gi_look, nI_1]; done) | (rw [ca, ← aj]; rfl)), fun _ h => absurd h List.not_mem_nil⟩⟩⟩⟩⟩) rfl rfl rfl
      · obtain ⟨v1, v2, v3, v4, v5⟩ := isS_inv (L := pN P 2 m) (x := x) rfl wm.2.1 (bI_t c28)
        have cj : covJ P m x r g j = (covA (r.f (inv (pN P 2 m) j)).1 (g (inv (pN P 2 m) j)).1 && covM (r.f (inv (pN P 2 m) j)).2 (g (inv (pN P 2 m) j)).2) := by
          unfold covJ
          rw [bI_t c28]
          rfl
        obtain ⟨i', ei⟩ : ∃ i', i' = inv (pN P 2 m) j := ⟨_, rfl⟩
        rw [← ei] at v1 v2 v3 v4 v5 cj
        have gn := G_n hg
        have rn := G_n hrt
        obtain ⟨w1, w2⟩ := hw i' (by omega)
        rw [v2] at w1 w2
        obtain ⟨s1, s2⟩ := hr' i' (by omega)
        rw [v2] at s1 s2
        obtain ⟨g1, g2, g3, g4⟩ := tyG_mk hg (show i' < n0 by omega)
        obtain ⟨t1, t2, t3, t4⟩ := tyG_mk hrt (show i' < r.n by omega)
        refine gi_meet (σ := Int32) 146 (fun z => [(4, .int (nI j)), (3, .int z), (2, .int (nI (14 * (60 * m + i)))), (1, .int (nI (60 * m + i))), (0, .ref M)]) (fun _ => []) (fun z y => h = y ∧ z = bI (covA (r.f i').1 (g i').1)) ?_ (fun hJ => ?_)
        · rintro z _ ⟨rfl, hz⟩
          refine gi_iload_n (q := 147) (i := 3) C (dm_Mo_isHeld 86 rfl) rfl rfl rfl ?_
          refine gi_if_eq (q := 150) (tgt := 193) C (dm_Mo_isHeld 87 rfl) rfl (by decide) (fun c147 => ?_) (fun c147 => ?_)
          · refine gi_iconst (q := 194) (v := 0) C (dm_Mo_isHeld 112 rfl) rfl (by decide) ?_
            refine gi_istore_n (q := 195) (i := 3) C (dm_Mo_isHeld 113 rfl) rfl rfl (Nat.le_of_ble_eq_true rfl) ?_
            have ca : allJ P m x r g (j + 1) = false := by
              rw [allJ_s, aj, Bool.true_and, cj]
              first
                | (rw [show covA (r.f i').1 (g i').1 = false from bI_fa (by rw [← hz]; exact c147), Bool.false_and]; done)
                | (have j6 : 6 ≤ j := by
                     rw [show (6 : Int32) = nI 6 from rfl, nI_ltP (by omega) (by decide)] at c154
                     omega
                   have y1 := s2 (v4 j6)
                   have y2 := w2 (v4 j6)
                   rw [show covM (r.f i').2 (g i').2 = false from by
                     cases q : covM (r.f i').2 (g i').2 with
                     | false => rfl
                     | true =>
                       rcases covM_iff.mp q with u | u
                       · exact absurd (y1.trans u) c167
                       · exact absurd (y1.trans (u.trans y2.symm)) c186, Bool.and_false])
            refine gi_iinc (q := 198) (v := 1) C (dm_Mo_isHeld 114 rfl) rfl rfl (by decide) (Nat.le_of_ble_eq_true rfl) ?_
            refine gi_goto (tgt := 10) C (dm_Mo_isHeld 115 rfl) (by decide) ?_
            refine gi_close (ihj (j + 1) _ ⟨jl, rfl⟩ (by omega)) (List.forall_mem_cons.mpr ⟨(by first | rfl | (simp [gi_look, nI_1]; done) | (rw [ca]; rfl)), List.forall_mem_cons.mpr ⟨(by first | rfl | (simp [gi_look, nI_1]; done) | (rw [ca]; rfl)), List.forall_mem_cons.mpr ⟨(by first | rfl | (simp [gi_look, nI_1]; done) | (rw [ca]; rfl)), List.forall_mem_cons.mpr ⟨(by first | rfl | (simp [gi_look, nI_1]; done) | (rw [ca]; rfl)), List.forall_mem_cons.mpr ⟨(by first | rfl | (simp [gi_look, nI_1]; done) | (rw [ca]; rfl)), fun _ h => absurd h List.not_mem_nil⟩⟩⟩⟩⟩) rfl rfl rfl
          · refine gi_iload (q := 152) C (dm_Mo_isHeld 88 rfl) rfl rfl ?_
            refine gi_bipush (q := 154) (v := 6) C (dm_Mo_isHeld 89 rfl) rfl (by decide) ?_
            refine gi_icmp_lt (q := 157) (tgt := 189) C (dm_Mo_isHeld 90 rfl) rfl (by decide) (fun c154 => ?_) (fun c154 => ?_)
            · refine gi_iconst (q := 190) (v := 1) C (dm_Mo_isHeld 110 rfl) rfl (by decide) ?_
              refine gi_goto (tgt := 194) C (dm_Mo_isHeld 111 rfl) (by decide) ?_
              refine gi_istore_n (q := 195) (i := 3) C (dm_Mo_isHeld 113 rfl) rfl rfl (Nat.le_of_ble_eq_true rfl) ?_
              have ca : allJ P m x r g (j + 1) = true := by
                rw [allJ_s, aj, Bool.true_and, cj]
                rw [show covA (r.f i').1 (g i').1 = true from bI_t (by rw [← hz]; exact c147), Bool.true_and, covM_iff]
                first
                  | exact Or.inl (by rw [t4 (v5 (by
                      rw [show (6 : Int32) = nI 6 from rfl, nI_ltP (by omega) (by decide)] at c154
                      exact c154))])
                  | exact Or.inl ((s2 (v4 (by
                      rw [show (6 : Int32) = nI 6 from rfl, nI_ltP (by omega) (by decide)] at c154
                      omega))).symm.trans c167)
                  | exact Or.inr ((s2 (v4 (by
                      rw [show (6 : Int32) = nI 6 from rfl, nI_ltP (by omega) (by decide)] at c154
                      omega))).symm.trans (c186.trans (w2 (v4 (by
                      rw [show (6 : Int32) = nI 6 from rfl, nI_ltP (by omega) (by decide)] at c154
                      omega)))))
              refine gi_iinc (q := 198) (v := 1) C (dm_Mo_isHeld 114 rfl) rfl rfl (by decide) (Nat.le_of_ble_eq_true rfl) ?_
              refine gi_goto (tgt := 10) C (dm_Mo_isHeld 115 rfl) (by decide) ?_
              refine gi_close (ihj (j + 1) _ ⟨jl, rfl⟩ (by omega)) (List.forall_mem_cons.mpr ⟨(by first | rfl | (simp [gi_look, nI_1]; done) | (rw [ca]; rfl)), List.forall_mem_cons.mpr ⟨(by first | rfl | (simp [gi_look, nI_1]; done) | (rw [ca]; rfl)), List.forall_mem_cons.mpr ⟨(by first | rfl | (simp [gi_look, nI_1]; done) | (rw [ca]; rfl)), List.forall_mem_cons.mpr ⟨(by first | rfl | (simp [gi_look, nI_1]; done) | (rw [ca]; rfl)), List.forall_mem_cons.mpr ⟨(by first | rfl | (simp [gi_look, nI_1]; done) | (rw [ca]; rfl)), fun _ h => absurd h List.not_mem_nil⟩⟩⟩⟩⟩) rfl rfl rfl
            · refine gi_aload_n (q := 158) (i := 0) C (dm_Mo_isHeld 91 rfl) rfl rfl rfl ?_
              refine gi_get (q := 161) C (dm_Mo_isHeld 92 rfl) rfl fl_Mo_76 Ha (mo_g37 Hf) ?_
              refine gi_iload_n (q := 162) (i := 2) C (dm_Mo_isHeld 93 rfl) rfl rfl rfl ?_
              refine gi_iload (q := 164) C (dm_Mo_isHeld 94 rfl) rfl rfl ?_
              refine gi_iadd (q := 165) C (dm_Mo_isHeld 95 rfl) rfl ?_
              rw [nI_add]
              refine gi_bald (q := 166) C (dm_Mo_isHeld 96 rfl) rfl rfl (mo_a37 H) (inN (show 14 * (60 * m + i) + j < 13440 by omega) (by decide)) ?_
              rw [nI_clamp (show 14 * (60 * m + i) + j < 2 ^ 31 by omega)]
              refine gi_iconst (q := 167) (v := -1) C (dm_Mo_isHeld 97 rfl) rfl (by decide) ?_
              refine gi_icmp_eq (q := 170) (tgt := 189) C (dm_Mo_isHeld 98 rfl) rfl (by decide) (fun c167 => ?_) (fun c167 => ?_)
              · refine gi_iconst (q := 190) (v := 1) C (dm_Mo_isHeld 110 rfl) rfl (by decide) ?_
                refine gi_goto (tgt := 194) C (dm_Mo_isHeld 111 rfl) (by decide) ?_
                refine gi_istore_n (q := 195) (i := 3) C (dm_Mo_isHeld 113 rfl) rfl rfl (Nat.le_of_ble_eq_true rfl) ?_
                have ca : allJ P m x r g (j + 1) = true := by
                  rw [allJ_s, aj, Bool.true_and, cj]
                  rw [show covA (r.f i').1 (g i').1 = true from bI_t (by rw [← hz]; exact c147), Bool.true_and, covM_iff]
                  first
                    | exact Or.inl (by rw [t4 (v5 (by
                        rw [show (6 : Int32) = nI 6 from rfl, nI_ltP (by omega) (by decide)] at c154
                        exact c154))])
                    | exact Or.inl ((s2 (v4 (by
                        rw [show (6 : Int32) = nI 6 from rfl, nI_ltP (by omega) (by decide)] at c154
                        omega))).symm.trans c167)
                    | exact Or.inr ((s2 (v4 (by
                        rw [show (6 : Int32) = nI 6 from rfl, nI_ltP (by omega) (by decide)] at c154
                        omega))).symm.trans (c186.trans (w2 (v4 (by
                        rw [show (6 : Int32) = nI 6 from rfl, nI_ltP (by omega) (by decide)] at c154
                        omega)))))
                refine gi_iinc (q := 198) (v := 1) C (dm_Mo_isHeld 114 rfl) rfl rfl (by decide) (Nat.le_of_ble_eq_true rfl) ?_
                refine gi_goto (tgt := 10) C (dm_Mo_isHeld 115 rfl) (by decide) ?_
                refine gi_close (ihj (j + 1) _ ⟨jl, rfl⟩ (by omega)) (List.forall_mem_cons.mpr ⟨(by first | rfl | (simp [gi_look, nI_1]; done) | (rw [ca]; rfl)), List.forall_mem_cons.mpr ⟨(by first | rfl | (simp [gi_look, nI_1]; done) | (rw [ca]; rfl)), List.forall_mem_cons.mpr ⟨(by first | rfl | (simp [gi_look, nI_1]; done) | (rw [ca]; rfl)), List.forall_mem_cons.mpr ⟨(by first | rfl | (simp [gi_look, nI_1]; done) | (rw [ca]; rfl)), List.forall_mem_cons.mpr ⟨(by first | rfl | (simp [gi_look, nI_1]; done) | (rw [ca]; rfl)), fun _ h => absurd h List.not_mem_nil⟩⟩⟩⟩⟩) rfl rfl rfl
              · refine gi_aload_n (q := 171) (i := 0) C (dm_Mo_isHeld 99 rfl) rfl rfl rfl ?_
                refine gi_get (q := 174) C (dm_Mo_isHeld 100 rfl) rfl fl_Mo_76 Ha (mo_g37 Hf) ?_
                refine gi_iload_n (q := 175) (i := 2) C (dm_Mo_isHeld 101 rfl) rfl rfl rfl ?_
                refine gi_iload (q := 177) C (dm_Mo_isHeld 102 rfl) rfl rfl ?_
                refine gi_iadd (q := 178) C (dm_Mo_isHeld 103 rfl) rfl ?_
                rw [nI_add]
                refine gi_bald (q := 179) C (dm_Mo_isHeld 104 rfl) rfl rfl (mo_a37 H) (inN (show 14 * (60 * m + i) + j < 13440 by omega) (by decide)) ?_
                rw [nI_clamp (show 14 * (60 * m + i) + j < 2 ^ 31 by omega)]
                refine gi_aload_n (q := 180) (i := 0) C (dm_Mo_isHeld 105 rfl) rfl rfl rfl ?_
                refine gi_get (q := 183) C (dm_Mo_isHeld 106 rfl) rfl fl_Mo_119 Ha (mo_g57 Hf) ?_
                refine gi_iload (q := 185) C (dm_Mo_isHeld 107 rfl) rfl rfl ?_
                refine gi_iald (q := 186) C (dm_Mo_isHeld 108 rfl) rfl rfl (mo_a57 H) (inN jl (by decide)) ?_
                rw [nI_clamp (show j < 2 ^ 31 by omega)]
                refine gi_icmp_ne (q := 189) (tgt := 193) C (dm_Mo_isHeld 109 rfl) rfl (by decide) (fun c186 => ?_) (fun c186 => ?_)
                · refine gi_iconst (q := 194) (v := 0) C (dm_Mo_isHeld 112 rfl) rfl (by decide) ?_
                  refine gi_istore_n (q := 195) (i := 3) C (dm_Mo_isHeld 113 rfl) rfl rfl (Nat.le_of_ble_eq_true rfl) ?_
                  have ca : allJ P m x r g (j + 1) = false := by
                    rw [allJ_s, aj, Bool.true_and, cj]
                    first
                      | (rw [show covA (r.f i').1 (g i').1 = false from bI_fa (by rw [← hz]; exact c147), Bool.false_and]; done)
                      | (have j6 : 6 ≤ j := by
                           rw [show (6 : Int32) = nI 6 from rfl, nI_ltP (by omega) (by decide)] at c154
                           omega
                         have y1 := s2 (v4 j6)
                         have y2 := w2 (v4 j6)
                         rw [show covM (r.f i').2 (g i').2 = false from by
                           cases q : covM (r.f i').2 (g i').2 with
                           | false => rfl
                           | true =>
                             rcases covM_iff.mp q with u | u
                             · exact absurd (y1.trans u) c167
                             · exact absurd (y1.trans (u.trans y2.symm)) c186, Bool.and_false])
                  refine gi_iinc (q := 198) (v := 1) C (dm_Mo_isHeld 114 rfl) rfl rfl (by decide) (Nat.le_of_ble_eq_true rfl) ?_
                  refine gi_goto (tgt := 10) C (dm_Mo_isHeld 115 rfl) (by decide) ?_
                  refine gi_close (ihj (j + 1) _ ⟨jl, rfl⟩ (by omega)) (List.forall_mem_cons.mpr ⟨(by first | rfl | (simp [gi_look, nI_1]; done) | (rw [ca]; rfl)), List.forall_mem_cons.mpr ⟨(by first | rfl | (simp [gi_look, nI_1]; done) | (rw [ca]; rfl)), List.forall_mem_cons.mpr ⟨(by first | rfl | (simp [gi_look, nI_1]; done) | (rw [ca]; rfl)), List.forall_mem_cons.mpr ⟨(by first | rfl | (simp [gi_look, nI_1]; done) | (rw [ca]; rfl)), List.forall_mem_cons.mpr ⟨(by first | rfl | (simp [gi_look, nI_1]; done) | (rw [ca]; rfl)), fun _ h => absurd h List.not_mem_nil⟩⟩⟩⟩⟩) rfl rfl rfl
                · refine gi_iconst (q := 190) (v := 1) C (dm_Mo_isHeld 110 rfl) rfl (by decide) ?_
                  refine gi_goto (tgt := 194) C (dm_Mo_isHeld 111 rfl) (by decide) ?_
                  refine gi_istore_n (q := 195) (i := 3) C (dm_Mo_isHeld 113 rfl) rfl rfl (Nat.le_of_ble_eq_true rfl) ?_
                  have ca : allJ P m x r g (j + 1) = true := by
                    rw [allJ_s, aj, Bool.true_and, cj]
                    rw [show covA (r.f i').1 (g i').1 = true from bI_t (by rw [← hz]; exact c147), Bool.true_and, covM_iff]
                    first
                      | exact Or.inl (by rw [t4 (v5 (by
                          rw [show (6 : Int32) = nI 6 from rfl, nI_ltP (by omega) (by decide)] at c154
                          exact c154))])
                      | exact Or.inl ((s2 (v4 (by
                          rw [show (6 : Int32) = nI 6 from rfl, nI_ltP (by omega) (by decide)] at c154
                          omega))).symm.trans c167)
                      | exact Or.inr ((s2 (v4 (by
                          rw [show (6 : Int32) = nI 6 from rfl, nI_ltP (by omega) (by decide)] at c154
                          omega))).symm.trans (c186.trans (w2 (v4 (by
                          rw [show (6 : Int32) = nI 6 from rfl, nI_ltP (by omega) (by decide)] at c154
                          omega)))))
                  refine gi_iinc (q := 198) (v := 1) C (dm_Mo_isHeld 114 rfl) rfl rfl (by decide) (Nat.le_of_ble_eq_true rfl) ?_
                  refine gi_goto (tgt := 10) C (dm_Mo_isHeld 115 rfl) (by decide) ?_
                  refine gi_close (ihj (j + 1) _ ⟨jl, rfl⟩ (by omega)) (List.forall_mem_cons.mpr ⟨(by first | rfl | (simp [gi_look, nI_1]; done) | (rw [ca]; rfl)), List.forall_mem_cons.mpr ⟨(by first | rfl | (simp [gi_look, nI_1]; done) | (rw [ca]; rfl)), List.forall_mem_cons.mpr ⟨(by first | rfl | (simp [gi_look, nI_1]; done) | (rw [ca]; rfl)), List.forall_mem_cons.mpr ⟨(by first | rfl | (simp [gi_look, nI_1]; done) | (rw [ca]; rfl)), List.forall_mem_cons.mpr ⟨(by first | rfl | (simp [gi_look, nI_1]; done) | (rw [ca]; rfl)), fun _ h => absurd h List.not_mem_nil⟩⟩⟩⟩⟩) rfl rfl rfl
        · refine gi_aload_n (q := 32) (i := 0) C (dm_Mo_isHeld 18 rfl) rfl rfl rfl ?_
          refine gi_iload_n (q := 33) (i := 1) C (dm_Mo_isHeld 19 rfl) rfl rfl rfl ?_
          refine gi_iload (q := 35) C (dm_Mo_isHeld 20 rfl) rfl rfl ?_
          refine gi_callv 2 (q := 38) C (dm_Mo_isHeld 21 rfl) rfl my_Mo_isArray lk_Mo_408 im_Mo_isArray rfl (c_Mo_isArray (x := x) W hm hi hP jl x8 e13 H) Ha rfl rfl ⟨(Nat.le_of_ble_eq_true rfl), (Nat.le_of_ble_eq_true rfl)⟩ (Nat.le_of_ble_eq_true rfl) ⟨(Nat.le_of_ble_eq_true rfl), (Nat.le_of_ble_eq_true rfl)⟩ (fun r35 n35 h35 e35 => ?_)
          obtain ⟨rfl, q35, u35⟩ := e35
          rw [q35, u35]
          refine gi_if_eq (q := 41) (tgt := 94) C (dm_Mo_isHeld 22 rfl) rfl (by decide) (fun c38 => ?_) (fun c38 => ?_)
          · obtain ⟨x1, eg⟩ : ∃ x1, (g i').1 = .inl x1 := ⟨_, ar_s (by rw [g2, ← v3]; exact bI_fa c38)⟩
            obtain ⟨x2, er⟩ : ∃ x2, (r.f i').1 = .inl x2 := ⟨_, ar_s (by rw [t2, ← v3]; exact bI_fa c38)⟩
            rw [eg] at w1 g1
            rw [er] at s1 t1
            have w52 : G 52 j = eL x1.1 := w1.1
            have w53 : G 53 j = eL x1.2.1 := w1.2.1
            have w54 : G 54 j = eL x1.2.2 := w1.2.2
            have s32 : G 32 (14 * (60 * m + i) + j) = eL x2.1 := s1.1
            have s33 : G 33 (14 * (60 * m + i) + j) = eL x2.2.1 := s1.2.1
            have s34 : G 34 (14 * (60 * m + i) + j) = eL x2.2.2 := s1.2.2
            have ok1 : okS x1 := g1
            have ok2 : okS x2 := t1
            have ce : covA (r.f i').1 (g i').1 = covS x2 x1 := by rw [eg, er]; rfl
            refine gi_aload_n (q := 95) (i := 0) C (dm_Mo_isHeld 54 rfl) rfl rfl rfl ?_
            refine gi_get (q := 98) C (dm_Mo_isHeld 55 rfl) rfl fl_Mo_104 Ha (mo_g52 Hf) ?_
            refine gi_iload (q := 100) C (dm_Mo_isHeld 56 rfl) rfl rfl ?_
            refine gi_lald (q := 101) C (dm_Mo_isHeld 57 rfl) rfl rfl (mo_a52 H) (inN jl (by decide)) ?_
            rw [nI_clamp (show j < 2 ^ 31 by omega), w52]
            refine gi_aload_n (q := 102) (i := 0) C (dm_Mo_isHeld 58 rfl) rfl rfl rfl ?_
            refine gi_get (q := 105) C (dm_Mo_isHeld 59 rfl) rfl fl_Mo_107 Ha (mo_g53 Hf) ?_
            refine gi_iload (q := 107) C (dm_Mo_isHeld 60 rfl) rfl rfl ?_
            refine gi_lald (q := 108) C (dm_Mo_isHeld 61 rfl) rfl rfl (mo_a53 H) (inN jl (by decide)) ?_
            rw [nI_clamp (show j < 2 ^ 31 by omega), w53]
            refine gi_aload_n (q := 109) (i := 0) C (dm_Mo_isHeld 62 rfl) rfl rfl rfl ?_
            refine gi_get (q := 112) C (dm_Mo_isHeld 63 rfl) rfl fl_Mo_110 Ha (mo_g54 Hf) ?_
            refine gi_iload (q := 114) C (dm_Mo_isHeld 64 rfl) rfl rfl ?_
            refine gi_lald (q := 115) C (dm_Mo_isHeld 65 rfl) rfl rfl (mo_a54 H) (inN jl (by decide)) ?_
            rw [nI_clamp (show j < 2 ^ 31 by omega), w54]
            refine gi_aload_n (q := 116) (i := 0) C (dm_Mo_isHeld 66 rfl) rfl rfl rfl ?_
            refine gi_get (q := 119) C (dm_Mo_isHeld 67 rfl) rfl fl_Mo_60 Ha (mo_g32 Hf) ?_
            refine gi_iload_n (q := 120) (i := 2) C (dm_Mo_isHeld 68 rfl) rfl rfl rfl ?_
            refine gi_iload (q := 122) C (dm_Mo_isHeld 69 rfl) rfl rfl ?_
            refine gi_iadd (q := 123) C (dm_Mo_isHeld 70 rfl) rfl ?_
            rw [nI_add]
            refine gi_lald (q := 124) C (dm_Mo_isHeld 71 rfl) rfl rfl (mo_a32 H) (inN (show 14 * (60 * m + i) + j < 13440 by omega) (by decide)) ?_
            rw [nI_clamp (show 14 * (60 * m + i) + j < 2 ^ 31 by omega), s32]
            refine gi_aload_n (q := 125) (i := 0) C (dm_Mo_isHeld 72 rfl) rfl rfl rfl ?_
            refine gi_get (q := 128) C (dm_Mo_isHeld 73 rfl) rfl fl_Mo_64 Ha (mo_g33 Hf) ?_
            refine gi_iload_n (q := 129) (i := 2) C (dm_Mo_isHeld 74 rfl) rfl rfl rfl ?_
            refine gi_iload (q := 131) C (dm_Mo_isHeld 75 rfl) rfl rfl ?_
            refine gi_iadd (q := 132) C (dm_Mo_isHeld 76 rfl) rfl ?_
            rw [nI_add]
            refine gi_lald (q := 133) C (dm_Mo_isHeld 77 rfl) rfl rfl (mo_a33 H) (inN (show 14 * (60 * m + i) + j < 13440 by omega) (by decide)) ?_
            rw [nI_clamp (show 14 * (60 * m + i) + j < 2 ^ 31 by omega), s33]
            refine gi_aload_n (q := 134) (i := 0) C (dm_Mo_isHeld 78 rfl) rfl rfl rfl ?_
            refine gi_get (q := 137) C (dm_Mo_isHeld 79 rfl) rfl fl_Mo_67 Ha (mo_g34 Hf) ?_
            refine gi_iload_n (q := 138) (i := 2) C (dm_Mo_isHeld 80 rfl) rfl rfl rfl ?_
            refine gi_iload (q := 140) C (dm_Mo_isHeld 81 rfl) rfl rfl ?_
            refine gi_iadd (q := 141) C (dm_Mo_isHeld 82 rfl) rfl ?_
            rw [nI_add]
            refine gi_lald (q := 142) C (dm_Mo_isHeld 83 rfl) rfl rfl (mo_a34 H) (inN (show 14 * (60 * m + i) + j < 13440 by omega) (by decide)) ?_
            rw [nI_clamp (show 14 * (60 * m + i) + j < 2 ^ 31 by omega), s34]
            refine gi_calls 6 (q := 145) C (dm_Mo_isHeld 84 rfl) rfl my_Mo_isIn lk_Mo_418 sm_Mo_isIn (c_Mo_isIn x1 x2 ok1 ok2) rfl rfl ⟨(Nat.le_of_ble_eq_true rfl), (Nat.le_of_ble_eq_true rfl)⟩ (Nat.le_of_ble_eq_true rfl) ⟨(Nat.le_of_ble_eq_true rfl), (Nat.le_of_ble_eq_true rfl)⟩ (fun r142 n142 h142 e142 => ?_)
            obtain ⟨rfl, q142, u142⟩ := e142
            rw [q142, u142]
            refine gi_istore_n (q := 146) (i := 3) C (dm_Mo_isHeld 85 rfl) rfl rfl (Nat.le_of_ble_eq_true rfl) ?_
            refine gi_close (hJ _ _ ⟨rfl, by rw [ce]⟩) (List.forall_mem_cons.mpr ⟨rfl, List.forall_mem_cons.mpr ⟨rfl, List.forall_mem_cons.mpr ⟨rfl, List.forall_mem_cons.mpr ⟨rfl, List.forall_mem_cons.mpr ⟨rfl, fun _ h => absurd h List.not_mem_nil⟩⟩⟩⟩⟩) rfl rfl rfl
          · obtain ⟨b1, o1', eg⟩ : ∃ b o, (g i').1 = .inr (b, o) := ⟨_, _, ar_t (by rw [g2, ← v3]; exact bI_t c38)⟩
            obtain ⟨b2, o2', er⟩ : ∃ b o, (r.f i').1 = .inr (b, o) := ⟨_, _, ar_t (by rw [t2, ← v3]; exact bI_t c38)⟩
            rw [eg] at w1
            rw [er] at s1
            have w55 : F 55 j = b1 := w1.1
            have w56 : F 56 j = bI o1' := w1.2
            have s35 : F 35 (14 * (60 * m + i) + j) = b2 := s1.1
            have s36 : F 36 (14 * (60 * m + i) + j) = bI o2' := s1.2
            have ce : covA (r.f i').1 (g i').1 = (decide (b1 &&& (b2 ^^^ -1) = 0) && (o2' || !o1')) := by rw [eg, er]; rfl
            refine gi_aload_n (q := 42) (i := 0) C (dm_Mo_isHeld 23 rfl) rfl rfl rfl ?_
            refine gi_get (q := 45) C (dm_Mo_isHeld 24 rfl) rfl fl_Mo_113 Ha (mo_g55 Hf) ?_
            refine gi_iload (q := 47) C (dm_Mo_isHeld 25 rfl) rfl rfl ?_
            refine gi_iald (q := 48) C (dm_Mo_isHeld 26 rfl) rfl rfl (mo_a55 H) (inN jl (by decide)) ?_
            rw [nI_clamp (show j < 2 ^ 31 by omega), w55]
            refine gi_aload_n (q := 49) (i := 0) C (dm_Mo_isHeld 27 rfl) rfl rfl rfl ?_
            refine gi_get (q := 52) C (dm_Mo_isHeld 28 rfl) rfl fl_Mo_70 Ha (mo_g35 Hf) ?_
            refine gi_iload_n (q := 53) (i := 2) C (dm_Mo_isHeld 29 rfl) rfl rfl rfl ?_
            refine gi_iload (q := 55) C (dm_Mo_isHeld 30 rfl) rfl rfl ?_
            refine gi_iadd (q := 56) C (dm_Mo_isHeld 31 rfl) rfl ?_
            rw [nI_add]
            refine gi_iald (q := 57) C (dm_Mo_isHeld 32 rfl) rfl rfl (mo_a35 H) (inN (show 14 * (60 * m + i) + j < 13440 by omega) (by decide)) ?_
            rw [nI_clamp (show 14 * (60 * m + i) + j < 2 ^ 31 by omega), s35]
            refine gi_iconst (q := 58) (v := -1) C (dm_Mo_isHeld 33 rfl) rfl (by decide) ?_
            refine gi_ixor (q := 59) C (dm_Mo_isHeld 34 rfl) rfl ?_
            refine gi_iand (q := 60) C (dm_Mo_isHeld 35 rfl) rfl ?_
            refine gi_if_ne (q := 63) (tgt := 89) C (dm_Mo_isHeld 36 rfl) rfl (by decide) (fun c60 => ?_) (fun c60 => ?_)
            · refine gi_iconst (q := 90) (v := 0) C (dm_Mo_isHeld 51 rfl) rfl (by decide) ?_
              refine gi_istore_n (q := 91) (i := 3) C (dm_Mo_isHeld 52 rfl) rfl rfl (Nat.le_of_ble_eq_true rfl) ?_
              refine gi_goto (tgt := 146) C (dm_Mo_isHeld 53 rfl) (by decide) ?_
              have ez : (0 : Int32) = bI (covA (r.f i').1 (g i').1) := by
                refine (bI_z _).mpr ?_
                rw [ce]
                first
                  | (rw [decide_eq_false c60, Bool.false_and]; done)
                  | (rw [show o1' = true from bI_t c70, show o2' = false from bI_fa c82]; simp; done)
              refine gi_close (hJ _ _ ⟨rfl, ez⟩) (List.forall_mem_cons.mpr ⟨rfl, List.forall_mem_cons.mpr ⟨rfl, List.forall_mem_cons.mpr ⟨rfl, List.forall_mem_cons.mpr ⟨rfl, List.forall_mem_cons.mpr ⟨rfl, fun _ h => absurd h List.not_mem_nil⟩⟩⟩⟩⟩) rfl rfl rfl
            · refine gi_aload_n (q := 64) (i := 0) C (dm_Mo_isHeld 37 rfl) rfl rfl rfl ?_
              refine gi_get (q := 67) C (dm_Mo_isHeld 38 rfl) rfl fl_Mo_116 Ha (mo_g56 Hf) ?_
              refine gi_iload (q := 69) C (dm_Mo_isHeld 39 rfl) rfl rfl ?_
              refine gi_zald (q := 70) C (dm_Mo_isHeld 40 rfl) rfl rfl (mo_a56 H) (inN jl (by decide)) ?_
              rw [nI_clamp (show j < 2 ^ 31 by omega), w56]
              refine gi_if_eq (q := 73) (tgt := 85) C (dm_Mo_isHeld 41 rfl) rfl (by decide) (fun c70 => ?_) (fun c70 => ?_)
              · refine gi_iconst (q := 86) (v := 1) C (dm_Mo_isHeld 49 rfl) rfl (by decide) ?_
                refine gi_goto (tgt := 90) C (dm_Mo_isHeld 50 rfl) (by decide) ?_
                refine gi_istore_n (q := 91) (i := 3) C (dm_Mo_isHeld 52 rfl) rfl rfl (Nat.le_of_ble_eq_true rfl) ?_
                refine gi_goto (tgt := 146) C (dm_Mo_isHeld 53 rfl) (by decide) ?_
                have ez : (1 : Int32) = bI (covA (r.f i').1 (g i').1) := by
                  refine (bI_o _).mpr ?_
                  rw [ce, Bool.and_eq_true, decide_eq_true_iff]
                  refine ⟨c60, ?_⟩
                  first
                    | (rw [show o1' = false from bI_fa c70]; simp; done)
                    | (rw [show o2' = true from bI_t c82]; rfl)
                refine gi_close (hJ _ _ ⟨rfl, ez⟩) (List.forall_mem_cons.mpr ⟨rfl, List.forall_mem_cons.mpr ⟨rfl, List.forall_mem_cons.mpr ⟨rfl, List.forall_mem_cons.mpr ⟨rfl, List.forall_mem_cons.mpr ⟨rfl, fun _ h => absurd h List.not_mem_nil⟩⟩⟩⟩⟩) rfl rfl rfl
              · refine gi_aload_n (q := 74) (i := 0) C (dm_Mo_isHeld 42 rfl) rfl rfl rfl ?_
                refine gi_get (q := 77) C (dm_Mo_isHeld 43 rfl) rfl fl_Mo_73 Ha (mo_g36 Hf) ?_
                refine gi_iload_n (q := 78) (i := 2) C (dm_Mo_isHeld 44 rfl) rfl rfl rfl ?_
                refine gi_iload (q := 80) C (dm_Mo_isHeld 45 rfl) rfl rfl ?_
                refine gi_iadd (q := 81) C (dm_Mo_isHeld 46 rfl) rfl ?_
                rw [nI_add]
                refine gi_zald (q := 82) C (dm_Mo_isHeld 47 rfl) rfl rfl (mo_a36 H) (inN (show 14 * (60 * m + i) + j < 13440 by omega) (by decide)) ?_
                rw [nI_clamp (show 14 * (60 * m + i) + j < 2 ^ 31 by omega), s36]
                refine gi_if_eq (q := 85) (tgt := 89) C (dm_Mo_isHeld 48 rfl) rfl (by decide) (fun c82 => ?_) (fun c82 => ?_)
                · refine gi_iconst (q := 90) (v := 0) C (dm_Mo_isHeld 51 rfl) rfl (by decide) ?_
                  refine gi_istore_n (q := 91) (i := 3) C (dm_Mo_isHeld 52 rfl) rfl rfl (Nat.le_of_ble_eq_true rfl) ?_
                  refine gi_goto (tgt := 146) C (dm_Mo_isHeld 53 rfl) (by decide) ?_
                  have ez : (0 : Int32) = bI (covA (r.f i').1 (g i').1) := by
                    refine (bI_z _).mpr ?_
                    rw [ce]
                    first
                      | (rw [decide_eq_false c60, Bool.false_and]; done)
                      | (rw [show o1' = true from bI_t c70, show o2' = false from bI_fa c82]; simp; done)
                  refine gi_close (hJ _ _ ⟨rfl, ez⟩) (List.forall_mem_cons.mpr ⟨rfl, List.forall_mem_cons.mpr ⟨rfl, List.forall_mem_cons.mpr ⟨rfl, List.forall_mem_cons.mpr ⟨rfl, List.forall_mem_cons.mpr ⟨rfl, fun _ h => absurd h List.not_mem_nil⟩⟩⟩⟩⟩) rfl rfl rfl
                · refine gi_iconst (q := 86) (v := 1) C (dm_Mo_isHeld 49 rfl) rfl (by decide) ?_
                  refine gi_goto (tgt := 90) C (dm_Mo_isHeld 50 rfl) (by decide) ?_
                  refine gi_istore_n (q := 91) (i := 3) C (dm_Mo_isHeld 52 rfl) rfl rfl (Nat.le_of_ble_eq_true rfl) ?_
                  refine gi_goto (tgt := 146) C (dm_Mo_isHeld 53 rfl) (by decide) ?_
                  have ez : (1 : Int32) = bI (covA (r.f i').1 (g i').1) := by
                    refine (bI_o _).mpr ?_
                    rw [ce, Bool.and_eq_true, decide_eq_true_iff]
                    refine ⟨c60, ?_⟩
                    first
                      | (rw [show o1' = false from bI_fa c70]; simp; done)
                      | (rw [show o2' = true from bI_t c82]; rfl)
                  refine gi_close (hJ _ _ ⟨rfl, ez⟩) (List.forall_mem_cons.mpr ⟨rfl, List.forall_mem_cons.mpr ⟨rfl, List.forall_mem_cons.mpr ⟨rfl, List.forall_mem_cons.mpr ⟨rfl, List.forall_mem_cons.mpr ⟨rfl, fun _ h => absurd h List.not_mem_nil⟩⟩⟩⟩⟩) rfl rfl rfl
end RC3
