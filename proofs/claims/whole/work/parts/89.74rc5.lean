-- needs: 89.73
section RC5
variable {l : Launch} {V : gi_V} {n : Nat} {h h' : gi_H} {M k m i : Nat} {P : Pm} {x : Sh} {sh : Nat → Option Sh} {S S' : Nat → Int32} {J J' : Nat → Int64} {F F' : Nat → Nat → Int32} {G G' : Nat → Nat → Int64} {f g : Nat → Sl} {n0 : Nat} {r : Rw} {Post : Option Value → Nat → gi_H → Prop}
theorem nbt {b : Bool} (h : ¬ bI (!b) = 0) : b = false := by cases b with
  | false => rfl
  | true => exact absurd rfl h
theorem nbf {b : Bool} (h : bI (!b) = 0) : b = true := by cases b with
  | true => rfl
  | false => exact absurd h (by decide)
set_option maxHeartbeats 4000000 in
set_option maxRecDepth 100000 in
theorem come_c {p : Program} {e : Env} {sg : State} {mi : MethodId} {args : Array Value} {below : List Frame} {meth : Method} {c : Code} (C : gi_C p sg mi args meth c b_Mo_comeTo 7 y_Mo_comeTo.cls V) (hr : meth.sig.returnType = none) (W : wfP k P) (hm : m < k) (hi : i < pN P 5 m) (hP : prF P F) (x8 : x.1 ≤ 8) (e12 : F 12 (60 * m + i) = nI x.1) (e13 : F 13 (60 * m + i) = nI x.2) (hw : rwR (pN P 2 m) n0 g (cW F G)) (hg : tyG P m x n0 g) (hr' : rwR (pN P 2 m) r.n r.f (fun j => cS F G (14 * (60 * m + i) + j))) (hrt : tyG P m x r.n r.f) {y : gi_H} (H : mo_at M S J F G y) (ho : outM M h y) (K : ∀ J' y', mo_at M S J' F G y' → outM M h y' → frJ J J' → gi_G p l e { frames := 3, cells := 0, slots := 0, locals := 68 } sg mi args below meth c (MQ below (gi_Qc V Post) args sg 0 0 (fun q : Nat => V.2.2 ≤ q)) V 7 0 0 425 [(3, .int (bI (!covR r n0 g))), (2, .int (nI (14 * (60 * m + i)))), (1, .int (nI (60 * m + i))), (0, .ref M)] [] n y') : gi_G p l e { frames := 3, cells := 0, slots := 0, locals := 68 } sg mi args below meth c (MQ below (gi_Qc V Post) args sg 0 0 (fun q : Nat => V.2.2 ≤ q)) V 7 0 0 168 [(2, .int (nI (14 * (60 * m + i)))), (1, .int (nI (60 * m + i))), (0, .ref M)] [] n y := by
  have w8 := W.k8
  have wm := wf_ar W hm
  obtain ⟨fs, Ha, Hf⟩ := id H.1
  refine gi_iconst (q := 169) (v := 0) C (dm_Mo_comeTo 108 rfl) rfl (by decide) ?_
  refine gi_istore_n (q := 170) (i := 3) C (dm_Mo_comeTo 109 rfl) rfl rfl (Nat.le_of_ble_eq_true rfl) ?_
  refine gi_iconst (q := 171) (v := 0) C (dm_Mo_comeTo 110 rfl) rfl (by decide) ?_
  refine gi_istore (q := 173) C (dm_Mo_comeTo 111 rfl) rfl (Nat.le_of_ble_eq_true rfl) ?_
  refine gi_while (σ := Nat) (fun j => 14 - j) (fun j => [(4, .int (nI j)), (3, .int (bI (!allJ P m x r g j))), (2, .int (nI (14 * (60 * m + i)))), (1, .int (nI (60 * m + i))), (0, .ref M)]) (fun _ => n) (fun _ => 0) (fun _ => 0) (fun j y' => j ≤ 14 ∧ ∃ J1, mo_at M S J1 F G y' ∧ outM M h y' ∧ frJ J J1) 0 ⟨Nat.zero_le _, J, H, ho, frJ.rf⟩ ?_ (List.forall_mem_cons.mpr ⟨(by first | rfl | (simp [gi_look]; done)), List.forall_mem_cons.mpr ⟨(by first | rfl | (simp [gi_look]; done)), List.forall_mem_cons.mpr ⟨(by first | rfl | (simp [gi_look]; done)), List.forall_mem_cons.mpr ⟨(by first | rfl | (simp [gi_look]; done)), List.forall_mem_cons.mpr ⟨(by first | rfl | (simp [gi_look]; done)), fun _ h => absurd h List.not_mem_nil⟩⟩⟩⟩⟩) rfl rfl rfl
  rintro j y' ⟨hj, J1, H1, o1, q1⟩ ihj
  try dsimp only at *
  obtain ⟨fs1, Ha1, Hf1⟩ := id H1.1
  refine gi_iload (q := 175) C (dm_Mo_comeTo 112 rfl) rfl rfl ?_
  refine gi_bipush (q := 177) (v := 14) C (dm_Mo_comeTo 113 rfl) rfl (by decide) ?_
  refine gi_icmp_ge (q := 180) (tgt := 425) C (dm_Mo_comeTo 114 rfl) rfl (by decide) (fun c177 => ?_) (fun c177 => ?_)
  · have jl : j = 14 := by
      rcases Nat.lt_or_ge j (14) with q | q
      · exact absurd c177 (Int32.not_le.mpr (nI_lt (b := 14) q (by omega)))
      · omega
    subst jl
    refine gi_close (K _ _ H1 o1 q1) (List.forall_mem_cons.mpr ⟨(by rw [← allJ_R (r := r) (g := g) wm.2.1 x8 (G_n hg) (G_n hrt)]; rfl), List.forall_mem_cons.mpr ⟨rfl, List.forall_mem_cons.mpr ⟨rfl, List.forall_mem_cons.mpr ⟨rfl, fun _ h => absurd h List.not_mem_nil⟩⟩⟩⟩) rfl rfl rfl
  · have jl : j < 14 := by
      rcases Nat.lt_or_ge j (14) with q | q
      · exact q
      · exact absurd (nI_le (a := 14) q (by omega)) c177
    refine gi_aload_n (q := 181) (i := 0) C (dm_Mo_comeTo 115 rfl) rfl rfl rfl ?_
    refine gi_iload_n (q := 182) (i := 1) C (dm_Mo_comeTo 116 rfl) rfl rfl rfl ?_
    refine gi_iload (q := 184) C (dm_Mo_comeTo 117 rfl) rfl rfl ?_
    refine gi_callv 2 (q := 187) C (dm_Mo_comeTo 118 rfl) rfl my_Mo_isSlot lk_Mo_404 im_Mo_isSlot rfl (c_Mo_isSlot (x := x) W hm hi hP jl x8 e12 H1) Ha1 rfl rfl ⟨(Nat.le_of_ble_eq_true rfl), (Nat.le_of_ble_eq_true rfl)⟩ (Nat.le_of_ble_eq_true rfl) ⟨(Nat.le_of_ble_eq_true rfl), (Nat.le_of_ble_eq_true rfl)⟩ (fun r184 n184 h184 e184 => ?_)
    obtain ⟨rfl, q184, u184⟩ := e184
    rw [q184, u184]
    refine gi_if_eq (q := 190) (tgt := 419) C (dm_Mo_comeTo 119 rfl) rfl (by decide) (fun c187 => ?_) (fun c187 => ?_)
    · have ca : allJ P m x r g (j + 1) = allJ P m x r g j := by
        rw [allJ_s]
        unfold covJ
        rw [bI_fa c187]
        simp
      refine gi_iinc (q := 422) (v := 1) C (dm_Mo_comeTo 254 rfl) rfl rfl (by decide) (Nat.le_of_ble_eq_true rfl) ?_
      refine gi_goto (tgt := 173) C (dm_Mo_comeTo 255 rfl) (by decide) ?_
      refine gi_close (ihj (j + 1) _ ⟨jl, J1, H1, o1, q1⟩ (by omega)) (List.forall_mem_cons.mpr ⟨(by first | rfl | (simp [gi_look, nI_1]; done) | (rw [ca]; rfl)), List.forall_mem_cons.mpr ⟨(by first | rfl | (simp [gi_look, nI_1]; done) | (rw [ca]; rfl)), List.forall_mem_cons.mpr ⟨(by first | rfl | (simp [gi_look, nI_1]; done) | (rw [ca]; rfl)), List.forall_mem_cons.mpr ⟨(by first | rfl | (simp [gi_look, nI_1]; done) | (rw [ca]; rfl)), List.forall_mem_cons.mpr ⟨(by first | rfl | (simp [gi_look, nI_1]; done) | (rw [ca]; rfl)), fun _ h => absurd h List.not_mem_nil⟩⟩⟩⟩⟩) rfl rfl rfl
    · obtain ⟨v1, v2, v3, v4, v5⟩ := isS_inv (L := pN P 2 m) (x := x) rfl wm.2.1 (bI_t c187)
      have cj : covJ P m x r g j = (covA (r.f (inv (pN P 2 m) j)).1 (g (inv (pN P 2 m) j)).1 && covM (r.f (inv (pN P 2 m) j)).2 (g (inv (pN P 2 m) j)).2) := by
        unfold covJ
        rw [bI_t c187]
        rfl
      obtain ⟨i', ei⟩ : ∃ i', i' = inv (pN P 2 m) j := ⟨_, rfl⟩
      rw [← ei] at v1 v2 v3 v4 v5 cj
      have gn := G_n hg
      have rn := G_n hrt
      obtain ⟨w1, w2⟩ := hw i' (by omega)
      rw [v2] at w1 w2
      obtain ⟨s1, s2⟩ := hr' i' (by omega)
      rw [v2] at s1 s2
      obtain ⟨g1, g2, g3, g4⟩ := tyG_mk hg (show i' < n0 by omega)
      obtain ⟨t1, t2, t3, t4⟩ := tyG_mk hrt (show i' < r.n by omega)
      refine gi_meet (σ := Int32 × (Nat → Int64)) 370 (fun q => [(4, .int (nI j)), (3, .int q.1), (2, .int (nI (14 * (60 * m + i)))), (1, .int (nI (60 * m + i))), (0, .ref M)]) (fun _ => []) (fun q y => q.1 = bI (!(allJ P m x r g j && covA (r.f i').1 (g i').1)) ∧ mo_at M S q.2 F G y ∧ outM M h y ∧ frJ J q.2) ?_ (fun hJ => ?_)
      · rintro ⟨z, J2⟩ y ⟨hz, H2, o2, q2⟩
        try dsimp only at *
        obtain ⟨fs2, Ha2, Hf2⟩ := id H2.1
        refine gi_iload_n (q := 371) (i := 3) C (dm_Mo_comeTo 226 rfl) rfl rfl rfl ?_
        refine gi_if_ne (q := 374) (tgt := 413) C (dm_Mo_comeTo 227 rfl) rfl (by decide) (fun c371 => ?_) (fun c371 => ?_)
        · refine gi_iconst (q := 414) (v := 1) C (dm_Mo_comeTo 250 rfl) rfl (by decide) ?_
          refine gi_goto (tgt := 418) C (dm_Mo_comeTo 251 rfl) (by decide) ?_
          refine gi_istore_n (q := 419) (i := 3) C (dm_Mo_comeTo 253 rfl) rfl rfl (Nat.le_of_ble_eq_true rfl) ?_
          have ca : allJ P m x r g (j + 1) = false := by
            rw [allJ_s, cj]
            first
              | (rw [← Bool.and_assoc, show (allJ P m x r g j && covA (r.f i').1 (g i').1) = false from nbt (fun y9 => c371 (hz.trans y9)), Bool.false_and]; done)
              | (rw [show covM (r.f i').2 (g i').2 = false from by
                  cases q : covM (r.f i').2 (g i').2 with
                  | false => rfl
                  | true => exact absurd (covM_iff.mp q) (fun u => u.elim (fun u => c391 ((s2 (v4 (by
                rw [show (6 : Int32) = nI 6 from rfl, nI_ltP (by omega) (by decide)] at c378
                omega))).trans u)) (fun u => c410 ((s2 (v4 (by
                rw [show (6 : Int32) = nI 6 from rfl, nI_ltP (by omega) (by decide)] at c378
                omega))).trans (u.trans (w2 (v4 (by
                rw [show (6 : Int32) = nI 6 from rfl, nI_ltP (by omega) (by decide)] at c378
                omega))).symm)))), Bool.and_false, Bool.and_false])
          refine gi_iinc (q := 422) (v := 1) C (dm_Mo_comeTo 254 rfl) rfl rfl (by decide) (Nat.le_of_ble_eq_true rfl) ?_
          refine gi_goto (tgt := 173) C (dm_Mo_comeTo 255 rfl) (by decide) ?_
          refine gi_close (ihj (j + 1) _ ⟨jl, J2, H2, o2, q2⟩ (by omega)) (List.forall_mem_cons.mpr ⟨(by first | rfl | (simp [gi_look, nI_1]; done) | (rw [ca]; rfl)), List.forall_mem_cons.mpr ⟨(by first | rfl | (simp [gi_look, nI_1]; done) | (rw [ca]; rfl)), List.forall_mem_cons.mpr ⟨(by first | rfl | (simp [gi_look, nI_1]; done) | (rw [ca]; rfl)), List.forall_mem_cons.mpr ⟨(by first | rfl | (simp [gi_look, nI_1]; done) | (rw [ca]; rfl)), List.forall_mem_cons.mpr ⟨(by first | rfl | (simp [gi_look, nI_1]; done) | (rw [ca]; rfl)), fun _ h => absurd h List.not_mem_nil⟩⟩⟩⟩⟩) rfl rfl rfl
        · refine gi_iload (q := 376) C (dm_Mo_comeTo 228 rfl) rfl rfl ?_
          refine gi_bipush (q := 378) (v := 6) C (dm_Mo_comeTo 229 rfl) rfl (by decide) ?_
          refine gi_icmp_lt (q := 381) (tgt := 417) C (dm_Mo_comeTo 230 rfl) rfl (by decide) (fun c378 => ?_) (fun c378 => ?_)
          · refine gi_iconst (q := 418) (v := 0) C (dm_Mo_comeTo 252 rfl) rfl (by decide) ?_
            refine gi_istore_n (q := 419) (i := 3) C (dm_Mo_comeTo 253 rfl) rfl rfl (Nat.le_of_ble_eq_true rfl) ?_
            have hall : (allJ P m x r g j && covA (r.f i').1 (g i').1) = true := by
              exact nbf (hz.symm.trans c371)
            have ca : allJ P m x r g (j + 1) = true := by
              rw [allJ_s, cj]
              rw [← Bool.and_assoc, hall, Bool.true_and, covM_iff]
              first
                | exact Or.inl (by rw [t4 (v5 (by
                    rw [show (6 : Int32) = nI 6 from rfl, nI_ltP (by omega) (by decide)] at c378
                    omega))])
                | exact Or.inl ((s2 (v4 (by
                  rw [show (6 : Int32) = nI 6 from rfl, nI_ltP (by omega) (by decide)] at c378
                  omega))).symm.trans c391)
                | exact Or.inr ((s2 (v4 (by
                  rw [show (6 : Int32) = nI 6 from rfl, nI_ltP (by omega) (by decide)] at c378
                  omega))).symm.trans (c410.trans (w2 (v4 (by
                  rw [show (6 : Int32) = nI 6 from rfl, nI_ltP (by omega) (by decide)] at c378
                  omega)))))
            refine gi_iinc (q := 422) (v := 1) C (dm_Mo_comeTo 254 rfl) rfl rfl (by decide) (Nat.le_of_ble_eq_true rfl) ?_
            refine gi_goto (tgt := 173) C (dm_Mo_comeTo 255 rfl) (by decide) ?_
            refine gi_close (ihj (j + 1) _ ⟨jl, J2, H2, o2, q2⟩ (by omega)) (List.forall_mem_cons.mpr ⟨(by first | rfl | (simp [gi_look, nI_1]; done) | (rw [ca]; rfl)), List.forall_mem_cons.mpr ⟨(by first | rfl | (simp [gi_look, nI_1]; done) | (rw [ca]; rfl)), List.forall_mem_cons.mpr ⟨(by first | rfl | (simp [gi_look, nI_1]; done) | (rw [ca]; rfl)), List.forall_mem_cons.mpr ⟨(by first | rfl | (simp [gi_look, nI_1]; done) | (rw [ca]; rfl)), List.forall_mem_cons.mpr ⟨(by first | rfl | (simp [gi_look, nI_1]; done) | (rw [ca]; rfl)), fun _ h => absurd h List.not_mem_nil⟩⟩⟩⟩⟩) rfl rfl rfl
          · refine gi_aload_n (q := 382) (i := 0) C (dm_Mo_comeTo 231 rfl) rfl rfl rfl ?_
            refine gi_get (q := 385) C (dm_Mo_comeTo 232 rfl) rfl fl_Mo_76 Ha2 (mo_g37 Hf2) ?_
            refine gi_iload_n (q := 386) (i := 2) C (dm_Mo_comeTo 233 rfl) rfl rfl rfl ?_
            refine gi_iload (q := 388) C (dm_Mo_comeTo 234 rfl) rfl rfl ?_
            refine gi_iadd (q := 389) C (dm_Mo_comeTo 235 rfl) rfl ?_
            rw [nI_add]
            refine gi_bald (q := 390) C (dm_Mo_comeTo 236 rfl) rfl rfl (mo_a37 H2) (inN (show 14 * (60 * m + i) + j < 13440 by omega) (by decide)) ?_
            rw [nI_clamp (show 14 * (60 * m + i) + j < 2 ^ 31 by omega)]
            refine gi_iconst (q := 391) (v := -1) C (dm_Mo_comeTo 237 rfl) rfl (by decide) ?_
            refine gi_icmp_eq (q := 394) (tgt := 417) C (dm_Mo_comeTo 238 rfl) rfl (by decide) (fun c391 => ?_) (fun c391 => ?_)
            · refine gi_iconst (q := 418) (v := 0) C (dm_Mo_comeTo 252 rfl) rfl (by decide) ?_
              refine gi_istore_n (q := 419) (i := 3) C (dm_Mo_comeTo 253 rfl) rfl rfl (Nat.le_of_ble_eq_true rfl) ?_
              have hall : (allJ P m x r g j && covA (r.f i').1 (g i').1) = true := by
                exact nbf (hz.symm.trans c371)
              have ca : allJ P m x r g (j + 1) = true := by
                rw [allJ_s, cj]
                rw [← Bool.and_assoc, hall, Bool.true_and, covM_iff]
                first
                  | exact Or.inl (by rw [t4 (v5 (by
                      rw [show (6 : Int32) = nI 6 from rfl, nI_ltP (by omega) (by decide)] at c378
                      omega))])
                  | exact Or.inl ((s2 (v4 (by
                    rw [show (6 : Int32) = nI 6 from rfl, nI_ltP (by omega) (by decide)] at c378
                    omega))).symm.trans c391)
                  | exact Or.inr ((s2 (v4 (by
                    rw [show (6 : Int32) = nI 6 from rfl, nI_ltP (by omega) (by decide)] at c378
                    omega))).symm.trans (c410.trans (w2 (v4 (by
                    rw [show (6 : Int32) = nI 6 from rfl, nI_ltP (by omega) (by decide)] at c378
                    omega)))))
              refine gi_iinc (q := 422) (v := 1) C (dm_Mo_comeTo 254 rfl) rfl rfl (by decide) (Nat.le_of_ble_eq_true rfl) ?_
              refine gi_goto (tgt := 173) C (dm_Mo_comeTo 255 rfl) (by decide) ?_
              refine gi_close (ihj (j + 1) _ ⟨jl, J2, H2, o2, q2⟩ (by omega)) (List.forall_mem_cons.mpr ⟨(by first | rfl | (simp [gi_look, nI_1]; done) | (rw [ca]; rfl)), List.forall_mem_cons.mpr ⟨(by first | rfl | (simp [gi_look, nI_1]; done) | (rw [ca]; rfl)), List.forall_mem_cons.mpr ⟨(by first | rfl | (simp [gi_look, nI_1]; done) | (rw [ca]; rfl)), List.forall_mem_cons.mpr ⟨(by first | rfl | (simp [gi_look, nI_1]; done) | (rw [ca]; rfl)), List.forall_mem_cons.mpr ⟨(by first | rfl | (simp [gi_look, nI_1]; done) | (rw [ca]; rfl)), fun _ h => absurd h List.not_mem_nil⟩⟩⟩⟩⟩) rfl rfl rfl
            · refine gi_aload_n (q := 395) (i := 0) C (dm_Mo_comeTo 239 rfl) rfl rfl rfl ?_
              refine gi_get (q := 398) C (dm_Mo_comeTo 240 rfl) rfl fl_Mo_76 Ha2 (mo_g37 Hf2) ?_
              refine gi_iload_n (q := 399) (i := 2) C (dm_Mo_comeTo 241 rfl) rfl rfl rfl ?_
              refine gi_iload (q := 401) C (dm_Mo_comeTo 242 rfl) rfl rfl ?_
              refine gi_iadd (q := 402) C (dm_Mo_comeTo 243 rfl) rfl ?_
              rw [nI_add]
              refine gi_bald (q := 403) C (dm_Mo_comeTo 244 rfl) rfl rfl (mo_a37 H2) (inN (show 14 * (60 * m + i) + j < 13440 by omega) (by decide)) ?_
              rw [nI_clamp (show 14 * (60 * m + i) + j < 2 ^ 31 by omega)]
              refine gi_aload_n (q := 404) (i := 0) C (dm_Mo_comeTo 245 rfl) rfl rfl rfl ?_
              refine gi_get (q := 407) C (dm_Mo_comeTo 246 rfl) rfl fl_Mo_119 Ha2 (mo_g57 Hf2) ?_
              refine gi_iload (q := 409) C (dm_Mo_comeTo 247 rfl) rfl rfl ?_
              refine gi_iald (q := 410) C (dm_Mo_comeTo 248 rfl) rfl rfl (mo_a57 H2) (inN jl (by decide)) ?_
              rw [nI_clamp (show j < 2 ^ 31 by omega)]
              refine gi_icmp_eq (q := 413) (tgt := 417) C (dm_Mo_comeTo 249 rfl) rfl (by decide) (fun c410 => ?_) (fun c410 => ?_)
              · refine gi_iconst (q := 418) (v := 0) C (dm_Mo_comeTo 252 rfl) rfl (by decide) ?_
                refine gi_istore_n (q := 419) (i := 3) C (dm_Mo_comeTo 253 rfl) rfl rfl (Nat.le_of_ble_eq_true rfl) ?_
                have hall : (allJ P m x r g j && covA (r.f i').1 (g i').1) = true := by
                  exact nbf (hz.symm.trans c371)
                have ca : allJ P m x r g (j + 1) = true := by
                  rw [allJ_s, cj]
                  rw [← Bool.and_assoc, hall, Bool.true_and, covM_iff]
                  first
                    | exact Or.inl (by rw [t4 (v5 (by
                        rw [show (6 : Int32) = nI 6 from rfl, nI_ltP (by omega) (by decide)] at c378
                        omega))])
                    | exact Or.inl ((s2 (v4 (by
                      rw [show (6 : Int32) = nI 6 from rfl, nI_ltP (by omega) (by decide)] at c378
                      omega))).symm.trans c391)
                    | exact Or.inr ((s2 (v4 (by
                      rw [show (6 : Int32) = nI 6 from rfl, nI_ltP (by omega) (by decide)] at c378
                      omega))).symm.trans (c410.trans (w2 (v4 (by
                      rw [show (6 : Int32) = nI 6 from rfl, nI_ltP (by omega) (by decide)] at c378
                      omega)))))
                refine gi_iinc (q := 422) (v := 1) C (dm_Mo_comeTo 254 rfl) rfl rfl (by decide) (Nat.le_of_ble_eq_true rfl) ?_
                refine gi_goto (tgt := 173) C (dm_Mo_comeTo 255 rfl) (by decide) ?_
                refine gi_close (ihj (j + 1) _ ⟨jl, J2, H2, o2, q2⟩ (by omega)) (List.forall_mem_cons.mpr ⟨(by first | rfl | (simp [gi_look, nI_1]; done) | (rw [ca]; rfl)), List.forall_mem_cons.mpr ⟨(by first | rfl | (simp [gi_look, nI_1]; done) | (rw [ca]; rfl)), List.forall_mem_cons.mpr ⟨(by first | rfl | (simp [gi_look, nI_1]; done) | (rw [ca]; rfl)), List.forall_mem_cons.mpr ⟨(by first | rfl | (simp [gi_look, nI_1]; done) | (rw [ca]; rfl)), List.forall_mem_cons.mpr ⟨(by first | rfl | (simp [gi_look, nI_1]; done) | (rw [ca]; rfl)), fun _ h => absurd h List.not_mem_nil⟩⟩⟩⟩⟩) rfl rfl rfl
              · refine gi_iconst (q := 414) (v := 1) C (dm_Mo_comeTo 250 rfl) rfl (by decide) ?_
                refine gi_goto (tgt := 418) C (dm_Mo_comeTo 251 rfl) (by decide) ?_
                refine gi_istore_n (q := 419) (i := 3) C (dm_Mo_comeTo 253 rfl) rfl rfl (Nat.le_of_ble_eq_true rfl) ?_
                have ca : allJ P m x r g (j + 1) = false := by
                  rw [allJ_s, cj]
                  first
                    | (rw [← Bool.and_assoc, show (allJ P m x r g j && covA (r.f i').1 (g i').1) = false from nbt (fun y9 => c371 (hz.trans y9)), Bool.false_and]; done)
                    | (rw [show covM (r.f i').2 (g i').2 = false from by
                        cases q : covM (r.f i').2 (g i').2 with
                        | false => rfl
                        | true => exact absurd (covM_iff.mp q) (fun u => u.elim (fun u => c391 ((s2 (v4 (by
                      rw [show (6 : Int32) = nI 6 from rfl, nI_ltP (by omega) (by decide)] at c378
                      omega))).trans u)) (fun u => c410 ((s2 (v4 (by
                      rw [show (6 : Int32) = nI 6 from rfl, nI_ltP (by omega) (by decide)] at c378
                      omega))).trans (u.trans (w2 (v4 (by
                      rw [show (6 : Int32) = nI 6 from rfl, nI_ltP (by omega) (by decide)] at c378
                      omega))).symm)))), Bool.and_false, Bool.and_false])
                refine gi_iinc (q := 422) (v := 1) C (dm_Mo_comeTo 254 rfl) rfl rfl (by decide) (Nat.le_of_ble_eq_true rfl) ?_
                refine gi_goto (tgt := 173) C (dm_Mo_comeTo 255 rfl) (by decide) ?_
                refine gi_close (ihj (j + 1) _ ⟨jl, J2, H2, o2, q2⟩ (by omega)) (List.forall_mem_cons.mpr ⟨(by first | rfl | (simp [gi_look, nI_1]; done) | (rw [ca]; rfl)), List.forall_mem_cons.mpr ⟨(by first | rfl | (simp [gi_look, nI_1]; done) | (rw [ca]; rfl)), List.forall_mem_cons.mpr ⟨(by first | rfl | (simp [gi_look, nI_1]; done) | (rw [ca]; rfl)), List.forall_mem_cons.mpr ⟨(by first | rfl | (simp [gi_look, nI_1]; done) | (rw [ca]; rfl)), List.forall_mem_cons.mpr ⟨(by first | rfl | (simp [gi_look, nI_1]; done) | (rw [ca]; rfl)), fun _ h => absurd h List.not_mem_nil⟩⟩⟩⟩⟩) rfl rfl rfl
      · refine gi_aload_n (q := 191) (i := 0) C (dm_Mo_comeTo 120 rfl) rfl rfl rfl ?_
        refine gi_iload_n (q := 192) (i := 1) C (dm_Mo_comeTo 121 rfl) rfl rfl rfl ?_
        refine gi_iload (q := 194) C (dm_Mo_comeTo 122 rfl) rfl rfl ?_
        refine gi_callv 2 (q := 197) C (dm_Mo_comeTo 123 rfl) rfl my_Mo_isArray lk_Mo_408 im_Mo_isArray rfl (c_Mo_isArray (x := x) W hm hi hP jl x8 e13 H1) Ha1 rfl rfl ⟨(Nat.le_of_ble_eq_true rfl), (Nat.le_of_ble_eq_true rfl)⟩ (Nat.le_of_ble_eq_true rfl) ⟨(Nat.le_of_ble_eq_true rfl), (Nat.le_of_ble_eq_true rfl)⟩ (fun r194 n194 h194 e194 => ?_)
        obtain ⟨rfl, q194, u194⟩ := e194
        rw [q194, u194]
        refine gi_if_eq (q := 200) (tgt := 257) C (dm_Mo_comeTo 124 rfl) rfl (by decide) (fun c197 => ?_) (fun c197 => ?_)
        · obtain ⟨x1, eg⟩ : ∃ x1, (g i').1 = .inl x1 := ⟨_, ar_s (by rw [g2, ← v3]; exact bI_fa c197)⟩
          obtain ⟨x2, er⟩ : ∃ x2, (r.f i').1 = .inl x2 := ⟨_, ar_s (by rw [t2, ← v3]; exact bI_fa c197)⟩
          rw [eg] at w1 g1
          rw [er] at s1 t1
          have w52 : G 52 j = eL x1.1 := w1.1
          have w53 : G 53 j = eL x1.2.1 := w1.2.1
          have w54 : G 54 j = eL x1.2.2 := w1.2.2
          have s32 : G 32 (14 * (60 * m + i) + j) = eL x2.1 := s1.1
          have s33 : G 33 (14 * (60 * m + i) + j) = eL x2.2.1 := s1.2.1
          have s34 : G 34 (14 * (60 * m + i) + j) = eL x2.2.2 := s1.2.2
          have ok1 : okS x1 := g1
          have ok2 : okS x2 := t1
          have ce : covA (r.f i').1 (g i').1 = covS x2 x1 := by rw [eg, er]; rfl
          refine gi_aload_n (q := 258) (i := 0) C (dm_Mo_comeTo 158 rfl) rfl rfl rfl ?_
          refine gi_aload_n (q := 259) (i := 0) C (dm_Mo_comeTo 159 rfl) rfl rfl rfl ?_
          refine gi_get (q := 262) C (dm_Mo_comeTo 160 rfl) rfl fl_Mo_60 Ha1 (mo_g32 Hf1) ?_
          refine gi_iload_n (q := 263) (i := 2) C (dm_Mo_comeTo 161 rfl) rfl rfl rfl ?_
          refine gi_iload (q := 265) C (dm_Mo_comeTo 162 rfl) rfl rfl ?_
          refine gi_iadd (q := 266) C (dm_Mo_comeTo 163 rfl) rfl ?_
          rw [nI_add]
          refine gi_lald (q := 267) C (dm_Mo_comeTo 164 rfl) rfl rfl (mo_a32 H1) (inN (show 14 * (60 * m + i) + j < 13440 by omega) (by decide)) ?_
          rw [nI_clamp (show 14 * (60 * m + i) + j < 2 ^ 31 by omega), s32]
          refine gi_aload_n (q := 268) (i := 0) C (dm_Mo_comeTo 165 rfl) rfl rfl rfl ?_
          refine gi_get (q := 271) C (dm_Mo_comeTo 166 rfl) rfl fl_Mo_64 Ha1 (mo_g33 Hf1) ?_
          refine gi_iload_n (q := 272) (i := 2) C (dm_Mo_comeTo 167 rfl) rfl rfl rfl ?_
          refine gi_iload (q := 274) C (dm_Mo_comeTo 168 rfl) rfl rfl ?_
          refine gi_iadd (q := 275) C (dm_Mo_comeTo 169 rfl) rfl ?_
          rw [nI_add]
          refine gi_lald (q := 276) C (dm_Mo_comeTo 170 rfl) rfl rfl (mo_a33 H1) (inN (show 14 * (60 * m + i) + j < 13440 by omega) (by decide)) ?_
          rw [nI_clamp (show 14 * (60 * m + i) + j < 2 ^ 31 by omega), s33]
          refine gi_aload_n (q := 277) (i := 0) C (dm_Mo_comeTo 171 rfl) rfl rfl rfl ?_
          refine gi_get (q := 280) C (dm_Mo_comeTo 172 rfl) rfl fl_Mo_67 Ha1 (mo_g34 Hf1) ?_
          refine gi_iload_n (q := 281) (i := 2) C (dm_Mo_comeTo 173 rfl) rfl rfl rfl ?_
          refine gi_iload (q := 283) C (dm_Mo_comeTo 174 rfl) rfl rfl ?_
          refine gi_iadd (q := 284) C (dm_Mo_comeTo 175 rfl) rfl ?_
          rw [nI_add]
          refine gi_lald (q := 285) C (dm_Mo_comeTo 176 rfl) rfl rfl (mo_a34 H1) (inN (show 14 * (60 * m + i) + j < 13440 by omega) (by decide)) ?_
          rw [nI_clamp (show 14 * (60 * m + i) + j < 2 ^ 31 by omega), s34]
          refine gi_aload_n (q := 286) (i := 0) C (dm_Mo_comeTo 177 rfl) rfl rfl rfl ?_
          refine gi_get (q := 289) C (dm_Mo_comeTo 178 rfl) rfl fl_Mo_104 Ha1 (mo_g52 Hf1) ?_
          refine gi_iload (q := 291) C (dm_Mo_comeTo 179 rfl) rfl rfl ?_
          refine gi_lald (q := 292) C (dm_Mo_comeTo 180 rfl) rfl rfl (mo_a52 H1) (inN jl (by decide)) ?_
          rw [nI_clamp (show j < 2 ^ 31 by omega), w52]
          refine gi_aload_n (q := 293) (i := 0) C (dm_Mo_comeTo 181 rfl) rfl rfl rfl ?_
          refine gi_get (q := 296) C (dm_Mo_comeTo 182 rfl) rfl fl_Mo_107 Ha1 (mo_g53 Hf1) ?_
          refine gi_iload (q := 298) C (dm_Mo_comeTo 183 rfl) rfl rfl ?_
          refine gi_lald (q := 299) C (dm_Mo_comeTo 184 rfl) rfl rfl (mo_a53 H1) (inN jl (by decide)) ?_
          rw [nI_clamp (show j < 2 ^ 31 by omega), w53]
          refine gi_aload_n (q := 300) (i := 0) C (dm_Mo_comeTo 185 rfl) rfl rfl rfl ?_
          refine gi_get (q := 303) C (dm_Mo_comeTo 186 rfl) rfl fl_Mo_110 Ha1 (mo_g54 Hf1) ?_
          refine gi_iload (q := 305) C (dm_Mo_comeTo 187 rfl) rfl rfl ?_
          refine gi_lald (q := 306) C (dm_Mo_comeTo 188 rfl) rfl rfl (mo_a54 H1) (inN jl (by decide)) ?_
          rw [nI_clamp (show j < 2 ^ 31 by omega), w54]
          refine gi_callv 6 (q := 309) C (dm_Mo_comeTo 189 rfl) rfl my_Mo_both lk_Mo_411 im_Mo_both rfl (c_Mo_both x2 x1 ok2 ok1 H1) Ha1 rfl rfl ⟨(Nat.le_of_ble_eq_true rfl), (Nat.le_of_ble_eq_true rfl)⟩ (Nat.le_of_ble_eq_true rfl) ⟨(Nat.le_of_ble_eq_true rfl), (Nat.le_of_ble_eq_true rfl)⟩ (fun r306 n306 h306 e306 => ?_)
          obtain ⟨rfl, rfl, S2, J2, Hb, ob, ⟨qb, sb⟩, rb⟩ := e306
          subst sb
          have rb := rsJ rb
          obtain ⟨fsb, Hab, Hfb⟩ := id Hb.1
          refine gi_iload_n (q := 310) (i := 3) C (dm_Mo_comeTo 190 rfl) rfl rfl rfl ?_
          refine gi_if_ne (q := 313) (tgt := 364) C (dm_Mo_comeTo 191 rfl) rfl (by decide) (fun c310 => ?_) (fun c310 => ?_)
          · refine gi_iconst (q := 365) (v := 1) C (dm_Mo_comeTo 222 rfl) rfl (by decide) ?_
            refine gi_goto (tgt := 369) C (dm_Mo_comeTo 223 rfl) (by decide) ?_
            refine gi_istore_n (q := 370) (i := 3) C (dm_Mo_comeTo 225 rfl) rfl rfl (Nat.le_of_ble_eq_true rfl) ?_
            have ez : (1 : Int32) = bI (!(allJ P m x r g j && covA (r.f i').1 (g i').1)) := by
              refine (bI_o _).mpr ?_
              first
                | (rw [show allJ P m x r g j = false from nbt c310]; rfl)
                | (rw [ce, show covS x2 x1 = false from by
                    cases q : covS x2 x1 with
                    | false => rfl
                    | true =>
                      have z := (both_eq ok2 ok1).mpr q
                      first
                        | exact absurd ((lg_cmp_eq _ _).mpr (by rw [z])) c327
                        | exact absurd ((lg_cmp_eq _ _).mpr (by rw [z])) c344
                        | exact absurd ((lg_cmp_eq _ _).mpr (by rw [z])) c361]; simp; done)
            refine gi_close (hJ (1, J2) _ ⟨ez, Hb, o1.tr ob, q1.tr qb⟩) (List.forall_mem_cons.mpr ⟨rfl, List.forall_mem_cons.mpr ⟨rfl, List.forall_mem_cons.mpr ⟨rfl, List.forall_mem_cons.mpr ⟨rfl, List.forall_mem_cons.mpr ⟨rfl, fun _ h => absurd h List.not_mem_nil⟩⟩⟩⟩⟩) rfl rfl rfl
          · refine gi_aload_n (q := 314) (i := 0) C (dm_Mo_comeTo 192 rfl) rfl rfl rfl ?_
            refine gi_get (q := 317) C (dm_Mo_comeTo 193 rfl) rfl fl_Mo_242 Hab (mo_g22 Hfb) ?_
            refine gi_aload_n (q := 318) (i := 0) C (dm_Mo_comeTo 194 rfl) rfl rfl rfl ?_
            refine gi_get (q := 321) C (dm_Mo_comeTo 195 rfl) rfl fl_Mo_60 Hab (mo_g32 Hfb) ?_
            refine gi_iload_n (q := 322) (i := 2) C (dm_Mo_comeTo 196 rfl) rfl rfl rfl ?_
            refine gi_iload (q := 324) C (dm_Mo_comeTo 197 rfl) rfl rfl ?_
            refine gi_iadd (q := 325) C (dm_Mo_comeTo 198 rfl) rfl ?_
            rw [nI_add]
            refine gi_lald (q := 326) C (dm_Mo_comeTo 199 rfl) rfl rfl (mo_a32 Hb) (inN (show 14 * (60 * m + i) + j < 13440 by omega) (by decide)) ?_
            rw [nI_clamp (show 14 * (60 * m + i) + j < 2 ^ 31 by omega), s32, rb.1]
            refine gi_lcmp (q := 327) C (dm_Mo_comeTo 200 rfl) rfl ?_
            refine gi_if_ne (q := 330) (tgt := 364) C (dm_Mo_comeTo 201 rfl) rfl (by decide) (fun c327 => ?_) (fun c327 => ?_)
            · refine gi_iconst (q := 365) (v := 1) C (dm_Mo_comeTo 222 rfl) rfl (by decide) ?_
              refine gi_goto (tgt := 369) C (dm_Mo_comeTo 223 rfl) (by decide) ?_
              refine gi_istore_n (q := 370) (i := 3) C (dm_Mo_comeTo 225 rfl) rfl rfl (Nat.le_of_ble_eq_true rfl) ?_
              have ez : (1 : Int32) = bI (!(allJ P m x r g j && covA (r.f i').1 (g i').1)) := by
                refine (bI_o _).mpr ?_
                first
                  | (rw [show allJ P m x r g j = false from nbt c310]; rfl)
                  | (rw [ce, show covS x2 x1 = false from by
                      cases q : covS x2 x1 with
                      | false => rfl
                      | true =>
                        have z := (both_eq ok2 ok1).mpr q
                        first
                          | exact absurd ((lg_cmp_eq _ _).mpr (by rw [z])) c327
                          | exact absurd ((lg_cmp_eq _ _).mpr (by rw [z])) c344
                          | exact absurd ((lg_cmp_eq _ _).mpr (by rw [z])) c361]; simp; done)
              refine gi_close (hJ (1, J2) _ ⟨ez, Hb, o1.tr ob, q1.tr qb⟩) (List.forall_mem_cons.mpr ⟨rfl, List.forall_mem_cons.mpr ⟨rfl, List.forall_mem_cons.mpr ⟨rfl, List.forall_mem_cons.mpr ⟨rfl, List.forall_mem_cons.mpr ⟨rfl, fun _ h => absurd h List.not_mem_nil⟩⟩⟩⟩⟩) rfl rfl rfl
            · refine gi_aload_n (q := 331) (i := 0) C (dm_Mo_comeTo 202 rfl) rfl rfl rfl ?_
              refine gi_get (q := 334) C (dm_Mo_comeTo 203 rfl) rfl fl_Mo_246 Hab (mo_g23 Hfb) ?_
              refine gi_aload_n (q := 335) (i := 0) C (dm_Mo_comeTo 204 rfl) rfl rfl rfl ?_
              refine gi_get (q := 338) C (dm_Mo_comeTo 205 rfl) rfl fl_Mo_64 Hab (mo_g33 Hfb) ?_
              refine gi_iload_n (q := 339) (i := 2) C (dm_Mo_comeTo 206 rfl) rfl rfl rfl ?_
              refine gi_iload (q := 341) C (dm_Mo_comeTo 207 rfl) rfl rfl ?_
              refine gi_iadd (q := 342) C (dm_Mo_comeTo 208 rfl) rfl ?_
              rw [nI_add]
              refine gi_lald (q := 343) C (dm_Mo_comeTo 209 rfl) rfl rfl (mo_a33 Hb) (inN (show 14 * (60 * m + i) + j < 13440 by omega) (by decide)) ?_
              rw [nI_clamp (show 14 * (60 * m + i) + j < 2 ^ 31 by omega), s33, rb.2.1]
              refine gi_lcmp (q := 344) C (dm_Mo_comeTo 210 rfl) rfl ?_
              refine gi_if_ne (q := 347) (tgt := 364) C (dm_Mo_comeTo 211 rfl) rfl (by decide) (fun c344 => ?_) (fun c344 => ?_)
              · refine gi_iconst (q := 365) (v := 1) C (dm_Mo_comeTo 222 rfl) rfl (by decide) ?_
                refine gi_goto (tgt := 369) C (dm_Mo_comeTo 223 rfl) (by decide) ?_
                refine gi_istore_n (q := 370) (i := 3) C (dm_Mo_comeTo 225 rfl) rfl rfl (Nat.le_of_ble_eq_true rfl) ?_
                have ez : (1 : Int32) = bI (!(allJ P m x r g j && covA (r.f i').1 (g i').1)) := by
                  refine (bI_o _).mpr ?_
                  first
                    | (rw [show allJ P m x r g j = false from nbt c310]; rfl)
                    | (rw [ce, show covS x2 x1 = false from by
                        cases q : covS x2 x1 with
                        | false => rfl
                        | true =>
                          have z := (both_eq ok2 ok1).mpr q
                          first
                            | exact absurd ((lg_cmp_eq _ _).mpr (by rw [z])) c327
                            | exact absurd ((lg_cmp_eq _ _).mpr (by rw [z])) c344
                            | exact absurd ((lg_cmp_eq _ _).mpr (by rw [z])) c361]; simp; done)
                refine gi_close (hJ (1, J2) _ ⟨ez, Hb, o1.tr ob, q1.tr qb⟩) (List.forall_mem_cons.mpr ⟨rfl, List.forall_mem_cons.mpr ⟨rfl, List.forall_mem_cons.mpr ⟨rfl, List.forall_mem_cons.mpr ⟨rfl, List.forall_mem_cons.mpr ⟨rfl, fun _ h => absurd h List.not_mem_nil⟩⟩⟩⟩⟩) rfl rfl rfl
              · refine gi_aload_n (q := 348) (i := 0) C (dm_Mo_comeTo 212 rfl) rfl rfl rfl ?_
                refine gi_get (q := 351) C (dm_Mo_comeTo 213 rfl) rfl fl_Mo_249 Hab (mo_g24 Hfb) ?_
                refine gi_aload_n (q := 352) (i := 0) C (dm_Mo_comeTo 214 rfl) rfl rfl rfl ?_
                refine gi_get (q := 355) C (dm_Mo_comeTo 215 rfl) rfl fl_Mo_67 Hab (mo_g34 Hfb) ?_
                refine gi_iload_n (q := 356) (i := 2) C (dm_Mo_comeTo 216 rfl) rfl rfl rfl ?_
                refine gi_iload (q := 358) C (dm_Mo_comeTo 217 rfl) rfl rfl ?_
                refine gi_iadd (q := 359) C (dm_Mo_comeTo 218 rfl) rfl ?_
                rw [nI_add]
                refine gi_lald (q := 360) C (dm_Mo_comeTo 219 rfl) rfl rfl (mo_a34 Hb) (inN (show 14 * (60 * m + i) + j < 13440 by omega) (by decide)) ?_
                rw [nI_clamp (show 14 * (60 * m + i) + j < 2 ^ 31 by omega), s34, rb.2.2]
                refine gi_lcmp (q := 361) C (dm_Mo_comeTo 220 rfl) rfl ?_
                refine gi_if_eq (q := 364) (tgt := 368) C (dm_Mo_comeTo 221 rfl) rfl (by decide) (fun c361 => ?_) (fun c361 => ?_)
                · refine gi_iconst (q := 369) (v := 0) C (dm_Mo_comeTo 224 rfl) rfl (by decide) ?_
                  refine gi_istore_n (q := 370) (i := 3) C (dm_Mo_comeTo 225 rfl) rfl rfl (Nat.le_of_ble_eq_true rfl) ?_
                  have ez : (0 : Int32) = bI (!(allJ P m x r g j && covA (r.f i').1 (g i').1)) := by
                    refine (bI_z _).mpr ?_
                    obtain ⟨p1, p2, p3, p4, p5, p6⟩ := id ok2
                    obtain ⟨u1, u2, u3, u4, u5, u6⟩ := both_ok ok2 ok1
                    have p7 := ok2.st
                    have u7 := (both_ok ok2 ok1).st
                    have z1 := (eL_eq (by omega) (by omega) (by omega) (by omega)).mp ((lg_cmp_eq _ _).mp c327)
                    have z2 := (eL_eq (by omega) (by omega) (by omega) (by omega)).mp ((lg_cmp_eq _ _).mp c344)
                    have z3 := (eL_eq (by omega) (by omega) (by omega) (by omega)).mp ((lg_cmp_eq _ _).mp c361)
                    rw [show allJ P m x r g j = true from nbf c310, ce, (both_eq ok2 ok1).mp (Prod.ext z1 (Prod.ext z2 z3))]
                    rfl
                  refine gi_close (hJ (0, J2) _ ⟨ez, Hb, o1.tr ob, q1.tr qb⟩) (List.forall_mem_cons.mpr ⟨rfl, List.forall_mem_cons.mpr ⟨rfl, List.forall_mem_cons.mpr ⟨rfl, List.forall_mem_cons.mpr ⟨rfl, List.forall_mem_cons.mpr ⟨rfl, fun _ h => absurd h List.not_mem_nil⟩⟩⟩⟩⟩) rfl rfl rfl
                · refine gi_iconst (q := 365) (v := 1) C (dm_Mo_comeTo 222 rfl) rfl (by decide) ?_
                  refine gi_goto (tgt := 369) C (dm_Mo_comeTo 223 rfl) (by decide) ?_
                  refine gi_istore_n (q := 370) (i := 3) C (dm_Mo_comeTo 225 rfl) rfl rfl (Nat.le_of_ble_eq_true rfl) ?_
                  have ez : (1 : Int32) = bI (!(allJ P m x r g j && covA (r.f i').1 (g i').1)) := by
                    refine (bI_o _).mpr ?_
                    first
                      | (rw [show allJ P m x r g j = false from nbt c310]; rfl)
                      | (rw [ce, show covS x2 x1 = false from by
                          cases q : covS x2 x1 with
                          | false => rfl
                          | true =>
                            have z := (both_eq ok2 ok1).mpr q
                            first
                              | exact absurd ((lg_cmp_eq _ _).mpr (by rw [z])) c327
                              | exact absurd ((lg_cmp_eq _ _).mpr (by rw [z])) c344
                              | exact absurd ((lg_cmp_eq _ _).mpr (by rw [z])) c361]; simp; done)
                  refine gi_close (hJ (1, J2) _ ⟨ez, Hb, o1.tr ob, q1.tr qb⟩) (List.forall_mem_cons.mpr ⟨rfl, List.forall_mem_cons.mpr ⟨rfl, List.forall_mem_cons.mpr ⟨rfl, List.forall_mem_cons.mpr ⟨rfl, List.forall_mem_cons.mpr ⟨rfl, fun _ h => absurd h List.not_mem_nil⟩⟩⟩⟩⟩) rfl rfl rfl
        · obtain ⟨b1, o1', eg⟩ : ∃ b o, (g i').1 = .inr (b, o) := ⟨_, _, ar_t (by rw [g2, ← v3]; exact bI_t c197)⟩
          obtain ⟨b2, o2', er⟩ : ∃ b o, (r.f i').1 = .inr (b, o) := ⟨_, _, ar_t (by rw [t2, ← v3]; exact bI_t c197)⟩
          rw [eg] at w1
          rw [er] at s1
          have w55 : F 55 j = b1 := w1.1
          have w56 : F 56 j = bI o1' := w1.2
          have s35 : F 35 (14 * (60 * m + i) + j) = b2 := s1.1
          have s36 : F 36 (14 * (60 * m + i) + j) = bI o2' := s1.2
          have ce : covA (r.f i').1 (g i').1 = (decide (b1 &&& (b2 ^^^ -1) = 0) && (o2' || !o1')) := by rw [eg, er]; rfl
          refine gi_iload_n (q := 201) (i := 3) C (dm_Mo_comeTo 125 rfl) rfl rfl rfl ?_
          refine gi_if_ne (q := 204) (tgt := 248) C (dm_Mo_comeTo 126 rfl) rfl (by decide) (fun c201 => ?_) (fun c201 => ?_)
          · refine gi_iconst (q := 249) (v := 1) C (dm_Mo_comeTo 153 rfl) rfl (by decide) ?_
            refine gi_goto (tgt := 253) C (dm_Mo_comeTo 154 rfl) (by decide) ?_
            refine gi_istore_n (q := 254) (i := 3) C (dm_Mo_comeTo 156 rfl) rfl rfl (Nat.le_of_ble_eq_true rfl) ?_
            refine gi_goto (tgt := 370) C (dm_Mo_comeTo 157 rfl) (by decide) ?_
            have ez : (1 : Int32) = bI (!(allJ P m x r g j && covA (r.f i').1 (g i').1)) := by
              refine (bI_o _).mpr ?_
              first
                | (rw [show allJ P m x r g j = false from nbt c201]; rfl)
                | (rw [ce, decide_eq_false c223]; simp; done)
                | (rw [ce, show o1' = true from bI_t c233, show o2' = false from bI_fa c245]; simp; done)
            refine gi_close (hJ (1, J1) _ ⟨ez, H1, o1, q1⟩) (List.forall_mem_cons.mpr ⟨rfl, List.forall_mem_cons.mpr ⟨rfl, List.forall_mem_cons.mpr ⟨rfl, List.forall_mem_cons.mpr ⟨rfl, List.forall_mem_cons.mpr ⟨rfl, fun _ h => absurd h List.not_mem_nil⟩⟩⟩⟩⟩) rfl rfl rfl
          · skip
            refine gi_aload_n (q := 205) (i := 0) C (dm_Mo_comeTo 127 rfl) rfl rfl rfl ?_
            refine gi_get (q := 208) C (dm_Mo_comeTo 128 rfl) rfl fl_Mo_113 Ha1 (mo_g55 Hf1) ?_
            refine gi_iload (q := 210) C (dm_Mo_comeTo 129 rfl) rfl rfl ?_
            refine gi_iald (q := 211) C (dm_Mo_comeTo 130 rfl) rfl rfl (mo_a55 H1) (inN jl (by decide)) ?_
            rw [nI_clamp (show j < 2 ^ 31 by omega), w55]
            refine gi_aload_n (q := 212) (i := 0) C (dm_Mo_comeTo 131 rfl) rfl rfl rfl ?_
            refine gi_get (q := 215) C (dm_Mo_comeTo 132 rfl) rfl fl_Mo_70 Ha1 (mo_g35 Hf1) ?_
            refine gi_iload_n (q := 216) (i := 2) C (dm_Mo_comeTo 133 rfl) rfl rfl rfl ?_
            refine gi_iload (q := 218) C (dm_Mo_comeTo 134 rfl) rfl rfl ?_
            refine gi_iadd (q := 219) C (dm_Mo_comeTo 135 rfl) rfl ?_
            rw [nI_add]
            refine gi_iald (q := 220) C (dm_Mo_comeTo 136 rfl) rfl rfl (mo_a35 H1) (inN (show 14 * (60 * m + i) + j < 13440 by omega) (by decide)) ?_
            rw [nI_clamp (show 14 * (60 * m + i) + j < 2 ^ 31 by omega), s35]
            refine gi_iconst (q := 221) (v := -1) C (dm_Mo_comeTo 137 rfl) rfl (by decide) ?_
            refine gi_ixor (q := 222) C (dm_Mo_comeTo 138 rfl) rfl ?_
            refine gi_iand (q := 223) C (dm_Mo_comeTo 139 rfl) rfl ?_
            refine gi_if_ne (q := 226) (tgt := 248) C (dm_Mo_comeTo 140 rfl) rfl (by decide) (fun c223 => ?_) (fun c223 => ?_)
            · refine gi_iconst (q := 249) (v := 1) C (dm_Mo_comeTo 153 rfl) rfl (by decide) ?_
              refine gi_goto (tgt := 253) C (dm_Mo_comeTo 154 rfl) (by decide) ?_
              refine gi_istore_n (q := 254) (i := 3) C (dm_Mo_comeTo 156 rfl) rfl rfl (Nat.le_of_ble_eq_true rfl) ?_
              refine gi_goto (tgt := 370) C (dm_Mo_comeTo 157 rfl) (by decide) ?_
              have ez : (1 : Int32) = bI (!(allJ P m x r g j && covA (r.f i').1 (g i').1)) := by
                refine (bI_o _).mpr ?_
                first
                  | (rw [show allJ P m x r g j = false from nbt c201]; rfl)
                  | (rw [ce, decide_eq_false c223]; simp; done)
                  | (rw [ce, show o1' = true from bI_t c233, show o2' = false from bI_fa c245]; simp; done)
              refine gi_close (hJ (1, J1) _ ⟨ez, H1, o1, q1⟩) (List.forall_mem_cons.mpr ⟨rfl, List.forall_mem_cons.mpr ⟨rfl, List.forall_mem_cons.mpr ⟨rfl, List.forall_mem_cons.mpr ⟨rfl, List.forall_mem_cons.mpr ⟨rfl, fun _ h => absurd h List.not_mem_nil⟩⟩⟩⟩⟩) rfl rfl rfl
            · refine gi_aload_n (q := 227) (i := 0) C (dm_Mo_comeTo 141 rfl) rfl rfl rfl ?_
              refine gi_get (q := 230) C (dm_Mo_comeTo 142 rfl) rfl fl_Mo_116 Ha1 (mo_g56 Hf1) ?_
              refine gi_iload (q := 232) C (dm_Mo_comeTo 143 rfl) rfl rfl ?_
              refine gi_zald (q := 233) C (dm_Mo_comeTo 144 rfl) rfl rfl (mo_a56 H1) (inN jl (by decide)) ?_
              rw [nI_clamp (show j < 2 ^ 31 by omega), w56]
              refine gi_if_eq (q := 236) (tgt := 252) C (dm_Mo_comeTo 145 rfl) rfl (by decide) (fun c233 => ?_) (fun c233 => ?_)
              · refine gi_iconst (q := 253) (v := 0) C (dm_Mo_comeTo 155 rfl) rfl (by decide) ?_
                refine gi_istore_n (q := 254) (i := 3) C (dm_Mo_comeTo 156 rfl) rfl rfl (Nat.le_of_ble_eq_true rfl) ?_
                refine gi_goto (tgt := 370) C (dm_Mo_comeTo 157 rfl) (by decide) ?_
                have ez : (0 : Int32) = bI (!(allJ P m x r g j && covA (r.f i').1 (g i').1)) := by
                  refine (bI_z _).mpr ?_
                  rw [show allJ P m x r g j = true from nbf c201, ce, decide_eq_true c223]
                  first
                    | (rw [show o1' = false from bI_fa c233]; simp; done)
                    | (rw [show o2' = true from bI_t c245]; rfl)
                refine gi_close (hJ (0, J1) _ ⟨ez, H1, o1, q1⟩) (List.forall_mem_cons.mpr ⟨rfl, List.forall_mem_cons.mpr ⟨rfl, List.forall_mem_cons.mpr ⟨rfl, List.forall_mem_cons.mpr ⟨rfl, List.forall_mem_cons.mpr ⟨rfl, fun _ h => absurd h List.not_mem_nil⟩⟩⟩⟩⟩) rfl rfl rfl
              · refine gi_aload_n (q := 237) (i := 0) C (dm_Mo_comeTo 146 rfl) rfl rfl rfl ?_
                refine gi_get (q := 240) C (dm_Mo_comeTo 147 rfl) rfl fl_Mo_73 Ha1 (mo_g36 Hf1) ?_
                refine gi_iload_n (q := 241) (i := 2) C (dm_Mo_comeTo 148 rfl) rfl rfl rfl ?_
                refine gi_iload (q := 243) C (dm_Mo_comeTo 149 rfl) rfl rfl ?_
                refine gi_iadd (q := 244) C (dm_Mo_comeTo 150 rfl) rfl ?_
                rw [nI_add]
                refine gi_zald (q := 245) C (dm_Mo_comeTo 151 rfl) rfl rfl (mo_a36 H1) (inN (show 14 * (60 * m + i) + j < 13440 by omega) (by decide)) ?_
                rw [nI_clamp (show 14 * (60 * m + i) + j < 2 ^ 31 by omega), s36]
                refine gi_if_ne (q := 248) (tgt := 252) C (dm_Mo_comeTo 152 rfl) rfl (by decide) (fun c245 => ?_) (fun c245 => ?_)
                · refine gi_iconst (q := 253) (v := 0) C (dm_Mo_comeTo 155 rfl) rfl (by decide) ?_
                  refine gi_istore_n (q := 254) (i := 3) C (dm_Mo_comeTo 156 rfl) rfl rfl (Nat.le_of_ble_eq_true rfl) ?_
                  refine gi_goto (tgt := 370) C (dm_Mo_comeTo 157 rfl) (by decide) ?_
                  have ez : (0 : Int32) = bI (!(allJ P m x r g j && covA (r.f i').1 (g i').1)) := by
                    refine (bI_z _).mpr ?_
                    rw [show allJ P m x r g j = true from nbf c201, ce, decide_eq_true c223]
                    first
                      | (rw [show o1' = false from bI_fa c233]; simp; done)
                      | (rw [show o2' = true from bI_t c245]; rfl)
                  refine gi_close (hJ (0, J1) _ ⟨ez, H1, o1, q1⟩) (List.forall_mem_cons.mpr ⟨rfl, List.forall_mem_cons.mpr ⟨rfl, List.forall_mem_cons.mpr ⟨rfl, List.forall_mem_cons.mpr ⟨rfl, List.forall_mem_cons.mpr ⟨rfl, fun _ h => absurd h List.not_mem_nil⟩⟩⟩⟩⟩) rfl rfl rfl
                · refine gi_iconst (q := 249) (v := 1) C (dm_Mo_comeTo 153 rfl) rfl (by decide) ?_
                  refine gi_goto (tgt := 253) C (dm_Mo_comeTo 154 rfl) (by decide) ?_
                  refine gi_istore_n (q := 254) (i := 3) C (dm_Mo_comeTo 156 rfl) rfl rfl (Nat.le_of_ble_eq_true rfl) ?_
                  refine gi_goto (tgt := 370) C (dm_Mo_comeTo 157 rfl) (by decide) ?_
                  have ez : (1 : Int32) = bI (!(allJ P m x r g j && covA (r.f i').1 (g i').1)) := by
                    refine (bI_o _).mpr ?_
                    first
                      | (rw [show allJ P m x r g j = false from nbt c201]; rfl)
                      | (rw [ce, decide_eq_false c223]; simp; done)
                      | (rw [ce, show o1' = true from bI_t c233, show o2' = false from bI_fa c245]; simp; done)
                  refine gi_close (hJ (1, J1) _ ⟨ez, H1, o1, q1⟩) (List.forall_mem_cons.mpr ⟨rfl, List.forall_mem_cons.mpr ⟨rfl, List.forall_mem_cons.mpr ⟨rfl, List.forall_mem_cons.mpr ⟨rfl, List.forall_mem_cons.mpr ⟨rfl, fun _ h => absurd h List.not_mem_nil⟩⟩⟩⟩⟩) rfl rfl rfl
def nbC (c : Ce) : Ce := (c.1, c.2.1, c.2.2.1, c.2.2.2.1, vp_nar .boolean c.2.2.2.2.1, vp_nar .byte c.2.2.2.2.2.toInt8.toInt32)
theorem nyj : ∀ j, j < 14 → vp_nar .byte (nI j).toInt8.toInt32 = nI j := by decide +kernel
theorem ny1 : vp_nar .byte ((-1 : Int32)).toInt8.toInt32 = -1 := by decide +kernel
theorem ceA_nb {v : Av} {c : Ce} (h : ceA v c) : ceA v (nbC c) := by
  cases v with
  | inl x => exact h
  | inr b => exact ⟨h.1, by show vp_nar .boolean c.2.2.2.2.1 = _; rw [h.2]; exact nzb _⟩
theorem rwR_nb {c c' : Nat → Ce} (h : rwR (pN P 2 m) n0 g c) (h6 : pN P 2 m ≤ 6) (hg : tyG P m x n0 g) (x8 : x.1 ≤ 8) (e : ∀ j, j < 14 → c' j = nbC (c j)) : rwR (pN P 2 m) n0 g c' := fun i hi => by
  obtain ⟨a, b⟩ := h i hi
  have gn := G_n hg
  rw [e _ (sl_14 h6 (by omega) hi)]
  refine ⟨ceA_nb a, fun hL => ?_⟩
  show vp_nar .byte (c (sl (pN P 2 m) i)).2.2.2.2.2.toInt8.toInt32 = _
  rw [b hL]
  rcases (tyG_mk hg hi).2.2.1 with q | ⟨j, hj, q, -⟩
  · rw [q]; exact ny1
  · rw [q]; exact nyj j (by omega)
/-- the state of one place is another -/
def stC (p : Nat) (F F' : Nat → Nat → Int32) (G G' : Nat → Nat → Int64) : Prop := (∀ a, a < 31 ∨ 38 < a → F' a = F a) ∧ (∀ a, a < 31 ∨ 34 < a → G' a = G a) ∧ (∀ q, q ≠ p → F' 31 q = F 31 q) ∧ (∀ q, q ≠ p → F' 38 q = F 38 q) ∧ ∀ q, (q < 14 * p ∨ 14 * p + 14 ≤ q) → cS F' G' q = cS F G q
set_option maxHeartbeats 4000000 in
set_option maxRecDepth 100000 in
theorem come_b {p : Program} {e : Env} {sg : State} {mi : MethodId} {args : Array Value} {below : List Frame} {meth : Method} {c : Code} (C : gi_C p sg mi args meth c b_Mo_comeTo 7 y_Mo_comeTo.cls V) (hr : meth.sig.returnType = none) (W : wfP k P) (hm : m < k) (hi : i < pN P 5 m) (hP : prF P F) (x8 : x.1 ≤ 8) (e12 : F 12 (60 * m + i) = nI x.1) (e13 : F 13 (60 * m + i) = nI x.2) (hw : rwR (pN P 2 m) n0 g (cW F G)) (hg : tyG P m x n0 g) {y : gi_H} (H : mo_at M S J F G y) (ho : outM M h y) (K : ∀ F' G' y', mo_at M (upS S 50 1) J F' G' y' → outM M h y' → stC (60 * m + i) F F' G G' → F' 31 (60 * m + i) = 1 → F' 38 = F 38 → rwR (pN P 2 m) n0 g (fun j => cS F' G' (14 * (60 * m + i) + j)) → Post none n y') : gi_G p l e { frames := 3, cells := 0, slots := 0, locals := 68 } sg mi args below meth c (MQ below (gi_Qc V Post) args sg 0 0 (fun q : Nat => V.2.2 ≤ q)) V 7 0 0 56 [(2, .int (nI (14 * (60 * m + i)))), (1, .int (nI (60 * m + i))), (0, .ref M)] [] n y := by
  have w8 := W.k8
  have wm := wf_ar W hm
  obtain ⟨fs, Ha, Hf⟩ := id H.1
  refine gi_aload_n (q := 57) (i := 0) C (dm_Mo_comeTo 31 rfl) rfl rfl rfl ?_
  refine gi_get (q := 60) C (dm_Mo_comeTo 32 rfl) rfl fl_Mo_57 Ha (mo_g31 Hf) ?_
  refine gi_iload_n (q := 61) (i := 1) C (dm_Mo_comeTo 33 rfl) rfl rfl rfl ?_
  refine gi_iconst (q := 62) (v := 1) C (dm_Mo_comeTo 34 rfl) rfl (by decide) ?_
  refine gi_zast (q := 63) C (dm_Mo_comeTo 35 rfl) rfl rfl (mo_a31 H) (inN (show 60 * m + i < 960 by omega) (by decide)) ?_
  refine gi_genM (H.setI (p := 13) (k := 31) (by decide) rfl rfl (by decide) rfl (by omega)) (ho.up (by omega) (by omega)) (fun y H ho => ?_)
  obtain ⟨fs, Ha, Hf⟩ := id H.1
  rw [nI_clamp (show 60 * m + i < 2 ^ 31 by omega)] at H
  refine gi_aload_n (q := 64) (i := 0) C (dm_Mo_comeTo 36 rfl) rfl rfl rfl ?_
  refine gi_iconst (q := 65) (v := 1) C (dm_Mo_comeTo 37 rfl) rfl (by decide) ?_
  refine gi_put (q := 68) C (dm_Mo_comeTo 38 rfl) rfl fl_Mo_401 fp_Mo_50 Ha (by rw [Hf.1]; decide) rfl rfl ?_
  refine gi_genM (H.putI Ha Hf (by decide) rfl) (ho.up (by omega) (by omega)) (fun y H ho => ?_)
  obtain ⟨fs, Ha, Hf⟩ := id H.1
  refine gi_iconst (q := 69) (v := 0) C (dm_Mo_comeTo 39 rfl) rfl (by decide) ?_
  refine gi_istore_n (q := 70) (i := 3) C (dm_Mo_comeTo 40 rfl) rfl rfl (Nat.le_of_ble_eq_true rfl) ?_
  have key : ∃ F1, mo_at M (upS S 50 1) J F1 G y ∧ stC (60 * m + i) F F1 G G ∧ F1 31 (60 * m + i) = 1 ∧ F1 38 = F 38 := by
    refine ⟨_, H, ⟨fun a ha => upA_n (by omega), fun _ _ => rfl, fun q hq => ?_, fun q hq => ?_, fun q hq => ?_⟩, ?_, upA_n (by decide)⟩
    · rw [upA_i, upd_is, if_neg hq]
    · rw [upA_n (by decide)]
    · unfold cS
      rw [upA_n (by decide), upA_n (by decide), upA_n (by decide)]
    · rw [upA_i, upd_is, if_pos rfl]
      rfl
  obtain ⟨F1, H1, q1, c31, c38⟩ := key
  refine gi_while (σ := Nat) (fun j => 14 - j) (fun j => [(3, .int (nI j)), (2, .int (nI (14 * (60 * m + i)))), (1, .int (nI (60 * m + i))), (0, .ref M)]) (fun _ => n) (fun _ => 0) (fun _ => 0) (fun j y' => j ≤ 14 ∧ ∃ F1 G1, mo_at M (upS S 50 1) J F1 G1 y' ∧ outM M h y' ∧ stC (60 * m + i) F F1 G G1 ∧ F1 31 (60 * m + i) = 1 ∧ F1 38 = F 38 ∧ ∀ q, q < j → cS F1 G1 (14 * (60 * m + i) + q) = nbC (cW F G q)) 0 ⟨Nat.zero_le _, F1, G, H1, ho, q1, c31, c38, fun q hq => absurd hq (Nat.not_lt_zero _)⟩ ?_ (List.forall_mem_cons.mpr ⟨(by first | rfl | (simp [gi_look]; done)), List.forall_mem_cons.mpr ⟨(by first | rfl | (simp [gi_look]; done)), List.forall_mem_cons.mpr ⟨(by first | rfl | (simp [gi_look]; done)), List.forall_mem_cons.mpr ⟨(by first | rfl | (simp [gi_look]; done)), fun _ h => absurd h List.not_mem_nil⟩⟩⟩⟩) rfl rfl rfl
  rintro j y' ⟨hj, F1, G1, H1, o1, q1, c31, c38, c1⟩ ihj
  try dsimp only at *
  obtain ⟨fs, Ha, Hf⟩ := id H1.1
  have H := H1
  have ho := o1
  refine gi_iload_n (q := 71) (i := 3) C (dm_Mo_comeTo 41 rfl) rfl rfl rfl ?_
  refine gi_bipush (q := 73) (v := 14) C (dm_Mo_comeTo 42 rfl) rfl (by decide) ?_
  refine gi_icmp_ge (q := 76) (tgt := 167) C (dm_Mo_comeTo 43 rfl) rfl (by decide) (fun c73 => ?_) (fun c73 => ?_)
  · have jl : j = 14 := by
      rcases Nat.lt_or_ge j (14) with q | q
      · exact absurd c73 (Int32.not_le.mpr (nI_lt (b := 14) q (by omega)))
      · omega
    subst jl
    refine gi_vret C hr (dm_Mo_comeTo 107 rfl) ?_
    exact K _ _ _ H1 o1 q1 c31 c38 (rwR_nb (c' := fun j => cS F1 G1 (14 * (60 * m + i) + j)) hw wm.2.1 hg x8 c1)
  · have jl : j < 14 := by
      rcases Nat.lt_or_ge j (14) with q | q
      · exact q
      · exact absurd (nI_le (a := 14) q (by omega)) c73
    refine gi_aload_n (q := 77) (i := 0) C (dm_Mo_comeTo 44 rfl) rfl rfl rfl ?_
    refine gi_get (q := 80) C (dm_Mo_comeTo 45 rfl) rfl fl_Mo_60 Ha (mo_g32 Hf) ?_
    refine gi_iload_n (q := 81) (i := 2) C (dm_Mo_comeTo 46 rfl) rfl rfl rfl ?_
    refine gi_iload_n (q := 82) (i := 3) C (dm_Mo_comeTo 47 rfl) rfl rfl rfl ?_
    refine gi_iadd (q := 83) C (dm_Mo_comeTo 48 rfl) rfl ?_
    rw [nI_add]
    refine gi_aload_n (q := 84) (i := 0) C (dm_Mo_comeTo 49 rfl) rfl rfl rfl ?_
    refine gi_get (q := 87) C (dm_Mo_comeTo 50 rfl) rfl fl_Mo_104 Ha (mo_g52 Hf) ?_
    refine gi_iload_n (q := 88) (i := 3) C (dm_Mo_comeTo 51 rfl) rfl rfl rfl ?_
    refine gi_lald (q := 89) C (dm_Mo_comeTo 52 rfl) rfl rfl (mo_a52 H) (inN jl (by decide)) ?_
    refine gi_last (q := 90) C (dm_Mo_comeTo 53 rfl) rfl rfl (mo_a32 H) (inN (show 14 * (60 * m + i) + j < 13440 by omega) (by decide)) ?_
    refine gi_genM (H.setJ (p := 14) (k := 32) (by decide) rfl rfl rfl (by omega)) (ho.up (by omega) (by omega)) (fun y H ho => ?_)
    obtain ⟨fs, Ha, Hf⟩ := id H.1
    refine gi_aload_n (q := 91) (i := 0) C (dm_Mo_comeTo 54 rfl) rfl rfl rfl ?_
    refine gi_get (q := 94) C (dm_Mo_comeTo 55 rfl) rfl fl_Mo_64 Ha (mo_g33 Hf) ?_
    refine gi_iload_n (q := 95) (i := 2) C (dm_Mo_comeTo 56 rfl) rfl rfl rfl ?_
    refine gi_iload_n (q := 96) (i := 3) C (dm_Mo_comeTo 57 rfl) rfl rfl rfl ?_
    refine gi_iadd (q := 97) C (dm_Mo_comeTo 58 rfl) rfl ?_
    rw [nI_add]
    refine gi_aload_n (q := 98) (i := 0) C (dm_Mo_comeTo 59 rfl) rfl rfl rfl ?_
    refine gi_get (q := 101) C (dm_Mo_comeTo 60 rfl) rfl fl_Mo_107 Ha (mo_g53 Hf) ?_
    refine gi_iload_n (q := 102) (i := 3) C (dm_Mo_comeTo 61 rfl) rfl rfl rfl ?_
    refine gi_lald (q := 103) C (dm_Mo_comeTo 62 rfl) rfl rfl (mo_a53 H) (inN jl (by decide)) ?_
    refine gi_last (q := 104) C (dm_Mo_comeTo 63 rfl) rfl rfl (mo_a33 H) (inN (show 14 * (60 * m + i) + j < 13440 by omega) (by decide)) ?_
    refine gi_genM (H.setJ (p := 15) (k := 33) (by decide) rfl rfl rfl (by omega)) (ho.up (by omega) (by omega)) (fun y H ho => ?_)
    obtain ⟨fs, Ha, Hf⟩ := id H.1
    refine gi_aload_n (q := 105) (i := 0) C (dm_Mo_comeTo 64 rfl) rfl rfl rfl ?_
    refine gi_get (q := 108) C (dm_Mo_comeTo 65 rfl) rfl fl_Mo_67 Ha (mo_g34 Hf) ?_
    refine gi_iload_n (q := 109) (i := 2) C (dm_Mo_comeTo 66 rfl) rfl rfl rfl ?_
    refine gi_iload_n (q := 110) (i := 3) C (dm_Mo_comeTo 67 rfl) rfl rfl rfl ?_
    refine gi_iadd (q := 111) C (dm_Mo_comeTo 68 rfl) rfl ?_
    rw [nI_add]
    refine gi_aload_n (q := 112) (i := 0) C (dm_Mo_comeTo 69 rfl) rfl rfl rfl ?_
    refine gi_get (q := 115) C (dm_Mo_comeTo 70 rfl) rfl fl_Mo_110 Ha (mo_g54 Hf) ?_
    refine gi_iload_n (q := 116) (i := 3) C (dm_Mo_comeTo 71 rfl) rfl rfl rfl ?_
    refine gi_lald (q := 117) C (dm_Mo_comeTo 72 rfl) rfl rfl (mo_a54 H) (inN jl (by decide)) ?_
    refine gi_last (q := 118) C (dm_Mo_comeTo 73 rfl) rfl rfl (mo_a34 H) (inN (show 14 * (60 * m + i) + j < 13440 by omega) (by decide)) ?_
    refine gi_genM (H.setJ (p := 16) (k := 34) (by decide) rfl rfl rfl (by omega)) (ho.up (by omega) (by omega)) (fun y H ho => ?_)
    obtain ⟨fs, Ha, Hf⟩ := id H.1
    refine gi_aload_n (q := 119) (i := 0) C (dm_Mo_comeTo 74 rfl) rfl rfl rfl ?_
    refine gi_get (q := 122) C (dm_Mo_comeTo 75 rfl) rfl fl_Mo_70 Ha (mo_g35 Hf) ?_
    refine gi_iload_n (q := 123) (i := 2) C (dm_Mo_comeTo 76 rfl) rfl rfl rfl ?_
    refine gi_iload_n (q := 124) (i := 3) C (dm_Mo_comeTo 77 rfl) rfl rfl rfl ?_
    refine gi_iadd (q := 125) C (dm_Mo_comeTo 78 rfl) rfl ?_
    rw [nI_add]
    refine gi_aload_n (q := 126) (i := 0) C (dm_Mo_comeTo 79 rfl) rfl rfl rfl ?_
    refine gi_get (q := 129) C (dm_Mo_comeTo 80 rfl) rfl fl_Mo_113 Ha (mo_g55 Hf) ?_
    refine gi_iload_n (q := 130) (i := 3) C (dm_Mo_comeTo 81 rfl) rfl rfl rfl ?_
    refine gi_iald (q := 131) C (dm_Mo_comeTo 82 rfl) rfl rfl (mo_a55 H) (inN jl (by decide)) ?_
    refine gi_iast (q := 132) C (dm_Mo_comeTo 83 rfl) rfl rfl (mo_a35 H) (inN (show 14 * (60 * m + i) + j < 13440 by omega) (by decide)) ?_
    refine gi_genM (H.setI (p := 17) (k := 35) (by decide) rfl rfl (by decide) rfl (by omega)) (ho.up (by omega) (by omega)) (fun y H ho => ?_)
    obtain ⟨fs, Ha, Hf⟩ := id H.1
    refine gi_aload_n (q := 133) (i := 0) C (dm_Mo_comeTo 84 rfl) rfl rfl rfl ?_
    refine gi_get (q := 136) C (dm_Mo_comeTo 85 rfl) rfl fl_Mo_73 Ha (mo_g36 Hf) ?_
    refine gi_iload_n (q := 137) (i := 2) C (dm_Mo_comeTo 86 rfl) rfl rfl rfl ?_
    refine gi_iload_n (q := 138) (i := 3) C (dm_Mo_comeTo 87 rfl) rfl rfl rfl ?_
    refine gi_iadd (q := 139) C (dm_Mo_comeTo 88 rfl) rfl ?_
    rw [nI_add]
    refine gi_aload_n (q := 140) (i := 0) C (dm_Mo_comeTo 89 rfl) rfl rfl rfl ?_
    refine gi_get (q := 143) C (dm_Mo_comeTo 90 rfl) rfl fl_Mo_116 Ha (mo_g56 Hf) ?_
    refine gi_iload_n (q := 144) (i := 3) C (dm_Mo_comeTo 91 rfl) rfl rfl rfl ?_
    refine gi_zald (q := 145) C (dm_Mo_comeTo 92 rfl) rfl rfl (mo_a56 H) (inN jl (by decide)) ?_
    refine gi_zast (q := 146) C (dm_Mo_comeTo 93 rfl) rfl rfl (mo_a36 H) (inN (show 14 * (60 * m + i) + j < 13440 by omega) (by decide)) ?_
    refine gi_genM (H.setI (p := 18) (k := 36) (by decide) rfl rfl (by decide) rfl (by omega)) (ho.up (by omega) (by omega)) (fun y H ho => ?_)
    obtain ⟨fs, Ha, Hf⟩ := id H.1
    refine gi_aload_n (q := 147) (i := 0) C (dm_Mo_comeTo 94 rfl) rfl rfl rfl ?_
    refine gi_get (q := 150) C (dm_Mo_comeTo 95 rfl) rfl fl_Mo_76 Ha (mo_g37 Hf) ?_
    refine gi_iload_n (q := 151) (i := 2) C (dm_Mo_comeTo 96 rfl) rfl rfl rfl ?_
    refine gi_iload_n (q := 152) (i := 3) C (dm_Mo_comeTo 97 rfl) rfl rfl rfl ?_
    refine gi_iadd (q := 153) C (dm_Mo_comeTo 98 rfl) rfl ?_
    rw [nI_add]
    refine gi_aload_n (q := 154) (i := 0) C (dm_Mo_comeTo 99 rfl) rfl rfl rfl ?_
    refine gi_get (q := 157) C (dm_Mo_comeTo 100 rfl) rfl fl_Mo_119 Ha (mo_g57 Hf) ?_
    refine gi_iload_n (q := 158) (i := 3) C (dm_Mo_comeTo 101 rfl) rfl rfl rfl ?_
    refine gi_iald (q := 159) C (dm_Mo_comeTo 102 rfl) rfl rfl (mo_a57 H) (inN jl (by decide)) ?_
    refine gi_i2b (q := 160) C (dm_Mo_comeTo 103 rfl) rfl ?_
    refine gi_bast (q := 161) C (dm_Mo_comeTo 104 rfl) rfl rfl (mo_a37 H) (inN (show 14 * (60 * m + i) + j < 13440 by omega) (by decide)) ?_
    refine gi_genM (H.setI (p := 19) (k := 37) (by decide) rfl rfl (by decide) rfl (by omega)) (ho.up (by omega) (by omega)) (fun y H ho => ?_)
    obtain ⟨fs, Ha, Hf⟩ := id H.1
    rw [nI_clamp (show j < 2 ^ 31 by omega), nI_clamp (show 14 * (60 * m + i) + j < 2 ^ 31 by omega)] at H
    have e52 : G1 52 = G 52 := q1.2.1 52 (by decide)
    have e53 : G1 53 = G 53 := q1.2.1 53 (by decide)
    have e54 : G1 54 = G 54 := q1.2.1 54 (by decide)
    have e55 : F1 55 = F 55 := q1.1 55 (by decide)
    have e56 : F1 56 = F 56 := q1.1 56 (by decide)
    have e57 : F1 57 = F 57 := q1.1 57 (by decide)
    have key : ∃ F3 G3, mo_at M (upS S 50 1) J F3 G3 y ∧ stC (60 * m + i) F F3 G G3 ∧ F3 31 (60 * m + i) = 1 ∧ F3 38 = F 38 ∧ ∀ q, q < j + 1 → cS F3 G3 (14 * (60 * m + i) + q) = nbC (cW F G q) := by
      refine ⟨_, _, H, ⟨fun a ha => ?_, fun a ha => ?_, fun q hq => ?_, fun q hq => ?_, fun q hq => ?_⟩, ?_, ?_, fun q hq => ?_⟩
      · rw [upA_n (by omega), upA_n (by omega), upA_n (by omega)]; exact q1.1 a ha
      · rw [upA_n (by omega), upA_n (by omega), upA_n (by omega)]; exact q1.2.1 a ha
      · rw [upA_n (by decide), upA_n (by decide), upA_n (by decide)]; exact q1.2.2.1 q hq
      · rw [upA_n (by decide), upA_n (by decide), upA_n (by decide)]; exact q1.2.2.2.1 q hq
      · rw [← q1.2.2.2.2 q hq]
        have ne : ¬ q = 14 * (60 * m + i) + j := by omega
        simp [cS, upA, upd_is, updJ_is, ne]
      · rw [upA_n (by decide), upA_n (by decide), upA_n (by decide)]; exact c31
      · rw [upA_n (by decide), upA_n (by decide), upA_n (by decide)]; exact c38
      · by_cases z : q = j
        · subst z
          simp [cS, nbC, cW, upA, upd_is, updJ_is, e52, e53, e54, e55, e56, e57]
        · rw [← c1 q (by omega)]
          simp [cS, upA, upd_is, updJ_is, z]
    obtain ⟨F3, G3, H3, s3, c31', c38', c3⟩ := key
    refine gi_iinc (q := 164) (v := 1) C (dm_Mo_comeTo 105 rfl) rfl rfl (by decide) (Nat.le_of_ble_eq_true rfl) ?_
    refine gi_goto (tgt := 70) C (dm_Mo_comeTo 106 rfl) (by decide) ?_
    refine gi_close (ihj (j + 1) _ ⟨jl, F3, G3, H3, ho, s3, c31', c38', c3⟩ (by omega)) (List.forall_mem_cons.mpr ⟨(by first | rfl | (simp [gi_look, nI_1]; done)), List.forall_mem_cons.mpr ⟨(by first | rfl | (simp [gi_look, nI_1]; done)), List.forall_mem_cons.mpr ⟨(by first | rfl | (simp [gi_look, nI_1]; done)), List.forall_mem_cons.mpr ⟨(by first | rfl | (simp [gi_look, nI_1]; done)), fun _ h => absurd h List.not_mem_nil⟩⟩⟩⟩) rfl rfl rfl
end RC5
