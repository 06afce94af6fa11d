-- needs: 89.87
section RCJ
variable {l : Launch} {V : gi_V} {n : Nat} {h h' : gi_H} {M k m i : Nat} {P : Pm} {x : Sh} {sh : Nat → Option Sh} {S S' : Nat → Int32} {J J' : Nat → Int64} {F F' : Nat → Nat → Int32} {G G' : Nat → Nat → Int64} {f g : Nat → Sl} {n0 : Nat} {r : Rw} {Ff : Fa} {Z : Fa × Bool} {md p t : Nat} {S0 S1 S2 : Nat → Int32} {J0 J1 J2 : Nat → Int64} {F0 F1 F2 : Nat → Nat → Int32} {G0 G1 G2 : Nat → Nat → Int64} {y y' : gi_H} {L : Nat} {κ : (Nat → Ce) × Int32} {r : Int32} {Fz : Fa} {b0 : Bool}
def frXB (S S' : Nat → Int32) (J J' : Nat → Int64) (F F' : Nat → Nat → Int32) (G G' : Nat → Nat → Int64) : Prop := (∀ j, j < 29 ∨ 66 < j ∨ j = 46 → S' j = S j) ∧ (∀ j, j < 22 ∨ 28 < j → J' j = J j) ∧ (∀ j, j < 31 ∨ 66 < j → F' j = F j) ∧ ∀ j, j < 31 ∨ 66 < j → G' j = G j
theorem frXB.rf : frXB S S J J F F G G := ⟨fun _ _ => rfl, fun _ _ => rfl, fun _ _ => rfl, fun _ _ => rfl⟩
theorem frXB.tr (a : frXB S S1 J J1 F F1 G G1) (b : frXB S1 S2 J1 J2 F1 F2 G1 G2) : frXB S S2 J J2 F F2 G G2 := ⟨fun j h => (b.1 j h).trans (a.1 j h), fun j h => (b.2.1 j h).trans (a.2.1 j h), fun j h => (b.2.2.1 j h).trans (a.2.2.1 j h), fun j h => (b.2.2.2 j h).trans (a.2.2.2 j h)⟩
theorem frY.b (a : frY S S' J J' F F' G G') : frXB S S' J J' F F' G G' := ⟨fun j h => a.1 j (by omega) (by omega) (by omega) (by omega) (by omega) (by omega) (by omega), a.2.1, a.2.2.1, a.2.2.2⟩
theorem noC.b (a : noC F F' G G') : frXB S S J J F F' G G' := ⟨fun _ _ => rfl, fun _ _ => rfl, fun j h => a.1 j (by omega) (by omega) (by omega) (by omega), fun j h => a.2.1 j (by omega) (by omega) (by omega)⟩
theorem pgR.b (h : pgR k P sh S F) (a : frXB S S' J J' F F' G G') : pgR k P sh S' F' := by
  obtain ⟨h1, h2, h3, h4, h5⟩ := h
  refine ⟨fun j q1 q2 => by rw [a.2.2.1 j (by omega)]; exact h1 j q1 q2, (a.1 0 (by decide)).trans h2, fun m hm => ?_, fun q hq hs => by rw [a.2.2.1 15 (by decide)]; exact h4 q hq hs, fun m i hm hi => by rw [a.2.2.1 16 (by decide)]; exact h5 m i hm hi⟩
  intro i hi
  show (_ → F' 12 _ = _) ∧ ∀ x, _ → F' 12 _ = _ ∧ F' 13 _ = _
  rw [a.2.2.1 12 (by decide), a.2.2.1 13 (by decide)]
  exact h3 m hm i hi
def nmC (c : Ce) : Ce := (c.1, c.2.1, c.2.2.1, c.2.2.2.1, vp_nar .boolean c.2.2.2.2.1, vp_nar .byte c.2.2.2.2.2)
theorem nyk : ∀ j, j < 14 → vp_nar .byte (nI j) = nI j := by decide +kernel
theorem ceA_nm {v : Av} {c : Ce} (h : ceA v c) : ceA v (nmC c) := by
  cases v with
  | inl x => exact h
  | inr b => exact ⟨h.1, by show vp_nar .boolean c.2.2.2.2.1 = _; rw [h.2]; exact nzb _⟩
theorem rwR_nm {n0 : Nat} {g : Nat → Sl} {c c' : Nat → Ce} (h : rwR (pN P 2 m) n0 g c) (h6 : pN P 2 m ≤ 6) (h8 : n0 - pN P 2 m ≤ 8) (hg : tyG P m x n0 g) (e : ∀ j, j < 14 → c' j = nmC (c j)) : rwR (pN P 2 m) n0 g c' := fun i hi => by
  obtain ⟨a, b⟩ := h i hi
  rw [e _ (sl_14 h6 h8 hi)]
  refine ⟨ceA_nm a, fun hL => ?_⟩
  show vp_nar .byte (c (sl (pN P 2 m) i)).2.2.2.2.2 = _
  rw [b hL]
  rcases (tyG_mk hg hi).2.2.1 with q | ⟨j, hj, q, -⟩
  · rw [q]; exact nyb
  · rw [q]; exact nyk j (by omega)
/-- the old facts are those of now -/
theorem fsO_cp {sn : Nat → Nat} {wd : Nat → Bool} (B : Built k P sh sn wd) (hF : okF (tyF P sh) Fz) (h : fsN P Fz F G) (hA : ∀ q, q < 480 → F' 31 (480 + q) = vp_nar .boolean (F 31 q) ∧ ∀ s, s < 14 → cS F' G' (6720 + 14 * q + s) = nmC (cS F G (14 * q + s))) (hB : ∀ q, q < 80 → F' 39 (80 + q) = vp_nar .boolean (F 39 q) ∧ cT F' G' (80 + q) = nrC (cT F G q)) : fsO P Fz F' G' := by
  refine ⟨fun q hq => ?_, fun t h1 h2 => ?_⟩
  · obtain ⟨a, b⟩ := h.1 q hq
    obtain ⟨e1, e2⟩ := hA q hq
    refine ⟨by rw [e1, a]; exact nzb _, fun z => ?_⟩
    obtain ⟨y6, y8, y⟩ := b z
    obtain ⟨m, i, x, y0, h1, h2, h3, h4, h5, h6, h7, h8, h9, h10, -⟩ := plc B hq hF z
    rw [h10] at y6 y8 y ⊢
    refine ⟨y6, y8, rwR_nm y y6 y8 h9 (fun j hj => ?_)⟩
    rw [show 14 * (480 + q) + j = 6720 + 14 * q + j by omega]
    exact e2 j hj
  · obtain ⟨a, b⟩ := h.2 t h1 h2
    obtain ⟨e1, e2⟩ := hB (tix t) (tix_b h1 h2)
    exact ⟨by rw [e1, a]; exact nzb _, fun z => by rw [e2]; exact ceA_nr (b z)⟩
theorem rd_1 {Z : Fa × Bool} : rdF 1 Ff Z = Ff := rfl
theorem rd_0 {Z : Fa × Bool} (h : md ≠ 1) : rdF md Ff Z = Z.1 := if_neg h
theorem wk_1 {sn : Nat → Nat} (X : Fa × Bool) (wd : Nat → Bool) : wk (stpM P sn 1 wd 1 0 Fz) (rtS P 1 wd r X k) 480 = (ctr P sn (rootsF P k (fun m => bitA r m)) Fz).foldl (come (fun _ => false)) X := by
  have e1 : stpM P sn 1 wd 1 0 Fz = fun Z p => (if (Fz p).told = true then outs P sn Fz p else []).foldl (come (fun _ => false)) Z := by
    funext Z p
    unfold stpM frF
    rw [if_neg (show ¬ (1 : Nat) = 0 by decide), comeM_1f]
    split <;> rfl
  unfold ctr
  rw [rtS_eq, comeM_1f, List.foldl_append, List.foldl_flatMap, e1]
  rfl
theorem anew_okB {sn : Nat → Nat} {wd : Nat → Bool} (B : Built k P sh sn wd) (hF : okF (tyF P sh) Fz) (b : Bool) : okF (tyF P sh) ((ctr P sn (rootsF P k (fun m => bitA r m)) Fz).foldl (come (fun _ => false)) (bgF, b)).1 := by
  have Y := sys_of B (fun m => bitA r m)
  refine (comes_all (gr := fun _ => false) (X := (bgF, b)) bg_ok (fun c hc => ?_)).1
  unfold ctr at hc
  rcases List.mem_append.mp hc with q | q
  · exact Y.rt c q
  · obtain ⟨p, hp, hq⟩ := List.mem_flatMap.mp q
    have p4 := List.mem_range.mp hp
    split at hq
    · rename_i tl
      exact (outs_all B p4 hF tl c hq).1
    · cases hq
set_option maxHeartbeats 4000000 in
set_option maxRecDepth 100000 in
theorem c_Mo_anew (B : Built k P sh (siN k P sh) (wdF k P)) (hpg : pgR k P sh S F) (hF : okF (tyF P sh) Fz) (hfl : ∀ j, j < 4 → (Fz (530 + j)).told = true) (h0 : fsN P Fz F G) (h46 : S 46 = r) (h50 : S 50 = bI b0) (H : mo_at M S J F G h) : gi_T l V y_Mo_anew b_Mo_anew 5 none 7 228 0 0 [.ref M] n h (fun v n' h' => v = none ∧ n' = n ∧ ∃ S' J' F' G', mo_at M S' J' F' G' h' ∧ outM M h h' ∧ frXB S S' J J' F F' G G' ∧ fsN P (anewF P (siN k P sh) (rootsF P k (fun m => bitA r m)) Fz) F' G' ∧ (∃ b, S' 50 = bI b) ∧ S' 48 = 0 ∧ S' 49 = 0) := by
  refine gi_enter (by decide) (Nat.le_of_ble_eq_true rfl) ?_
  intro _ _ _ _ _ _ _ _ C hr hnm
  obtain ⟨fs, Ha, Hf⟩ := id H.1
  have ho : outM M h h := outM.rf
  have w8 := B.wf.k8
  refine gi_iconst (q := 1) (v := 0) C (dm_Mo_anew 0 rfl) rfl (by decide) ?_
  refine gi_istore_n (q := 2) (i := 1) C (dm_Mo_anew 1 rfl) rfl rfl (Nat.le_of_ble_eq_true rfl) ?_
  refine gi_while (σ := Nat) (fun j => 480 - j) (fun j => [(1, .int (nI j)), (0, .ref M)]) (fun _ => n) (fun _ => 0) (fun _ => 0) (fun j y' => j ≤ 480 ∧ ∃ F1 G1, mo_at M S J F1 G1 y' ∧ outM M h y' ∧ (∀ a, a ≠ 31 → a ≠ 35 → a ≠ 36 → a ≠ 37 → F1 a = F a) ∧ (∀ a, a ≠ 32 → a ≠ 33 → a ≠ 34 → G1 a = G a) ∧ (∀ q, q < 480 → F1 31 q = F 31 q) ∧ (∀ q, q < 6720 → cS F1 G1 q = cS F G q) ∧ (∀ q, q < j → F1 31 (480 + q) = vp_nar .boolean (F 31 q) ∧ ∀ s, s < 14 → cS F1 G1 (6720 + 14 * q + s) = nmC (cS F G (14 * q + s)))) 0 ⟨Nat.zero_le _, F, G, H, ho, fun _ _ _ _ _ => rfl, fun _ _ _ _ => rfl, fun _ _ => rfl, fun _ _ => rfl, fun q hq => absurd hq (Nat.not_lt_zero _)⟩ ?_ (List.forall_mem_cons.mpr ⟨(by first | rfl | (simp [gi_look]; done)), List.forall_mem_cons.mpr ⟨(by first | rfl | (simp [gi_look]; done)), fun _ h => absurd h List.not_mem_nil⟩⟩) rfl rfl rfl
  rintro j y' ⟨hj, F1, G1, H1, o1, r1, g1, c31, cl, cc⟩ ihj
  try dsimp only at *
  have H := H1
  obtain ⟨fs, Ha, Hf⟩ := id H.1
  have ho := o1
  refine gi_iload_n (q := 3) (i := 1) C (dm_Mo_anew 2 rfl) rfl rfl rfl ?_
  refine gi_sipush (q := 6) (v := 480) C (dm_Mo_anew 3 rfl) rfl (by decide) ?_
  refine gi_icmp_ge (q := 9) (tgt := 142) C (dm_Mo_anew 4 rfl) rfl (by decide) (fun c6 => ?_) (fun c6 => ?_)
  · have jl : j = 480 := by
      rcases Nat.lt_or_ge j (480) with q | q
      · exact absurd c6 (Int32.not_le.mpr (nI_lt (b := 480) q (by omega)))
      · omega
    subst jl
    refine gi_iconst (q := 143) (v := 0) C (dm_Mo_anew 86 rfl) rfl (by decide) ?_
    refine gi_istore_n (q := 144) (i := 1) C (dm_Mo_anew 87 rfl) rfl rfl (Nat.le_of_ble_eq_true rfl) ?_
    refine gi_while (σ := Nat) (fun j => 80 - j) (fun j => [(1, .int (nI j)), (0, .ref M)]) (fun _ => n) (fun _ => 0) (fun _ => 0) (fun j y' => j ≤ 80 ∧ ∃ F2 G2, mo_at M S J F2 G2 y' ∧ outM M h y' ∧ (∀ a, a ≠ 39 → a ≠ 43 → a ≠ 44 → F2 a = F1 a) ∧ (∀ a, a ≠ 40 → a ≠ 41 → a ≠ 42 → G2 a = G1 a) ∧ (∀ q, q < 80 → F2 39 q = F1 39 q ∧ cT F2 G2 q = cT F1 G1 q) ∧ ∀ q, q < j → F2 39 (80 + q) = vp_nar .boolean (F1 39 q) ∧ cT F2 G2 (80 + q) = nrC (cT F1 G1 q)) 0 ⟨Nat.zero_le _, F1, G1, H1, o1, fun _ _ _ _ => rfl, fun _ _ _ _ => rfl, fun _ _ => ⟨rfl, rfl⟩, fun q hq => absurd hq (Nat.not_lt_zero _)⟩ ?_ (List.forall_mem_cons.mpr ⟨(by first | rfl | (simp [gi_look]; done)), List.forall_mem_cons.mpr ⟨(by first | rfl | (simp [gi_look]; done)), fun _ h => absurd h List.not_mem_nil⟩⟩) rfl rfl rfl
    rintro j y' ⟨hj', F2, G2, H2, o2, r2, s2, c2, k2⟩ ihj
    try dsimp only at *
    have H := H2
    obtain ⟨fs, Ha, Hf⟩ := id H.1
    have ho := o2
    refine gi_iload_n (q := 145) (i := 1) C (dm_Mo_anew 88 rfl) rfl rfl rfl ?_
    refine gi_bipush (q := 147) (v := 80) C (dm_Mo_anew 89 rfl) rfl (by decide) ?_
    refine gi_icmp_ge (q := 150) (tgt := 246) C (dm_Mo_anew 90 rfl) rfl (by decide) (fun c147 => ?_) (fun c147 => ?_)
    · have jl : j = 80 := by
        rcases Nat.lt_or_ge j (80) with q | q
        · exact absurd c147 (Int32.not_le.mpr (nI_lt (b := 80) q (by omega)))
        · omega
      subst jl
      have hO : fsO P Fz F2 G2 := by
        refine fsO_cp B hF h0 (fun q hq => ⟨?_, fun s h2 => ?_⟩) (fun q hq => ⟨?_, ?_⟩)
        · rw [r2 31 (by decide) (by decide) (by decide)]
          exact (cc q hq).1
        · have e : cS F2 G2 (6720 + 14 * q + s) = cS F1 G1 (6720 + 14 * q + s) := by
            unfold cS
            rw [r2 35 (by decide) (by decide) (by decide), r2 36 (by decide) (by decide) (by decide), r2 37 (by decide) (by decide) (by decide), s2 32 (by decide) (by decide) (by decide), s2 33 (by decide) (by decide) (by decide), s2 34 (by decide) (by decide) (by decide)]
          rw [e]
          exact (cc q hq).2 s h2
        · rw [(k2 q hq).1, r1 39 (by decide) (by decide) (by decide) (by decide)]
        · rw [(k2 q hq).2]
          unfold cT
          rw [r1 43 (by decide) (by decide) (by decide) (by decide), r1 44 (by decide) (by decide) (by decide) (by decide), g1 40 (by decide) (by decide) (by decide), g1 41 (by decide) (by decide) (by decide), g1 42 (by decide) (by decide) (by decide)]
      have b2 : frXB S S J J F F2 G G2 := ⟨fun _ _ => rfl, fun _ _ => rfl, fun a ha => (r2 a (by omega) (by omega) (by omega)).trans (r1 a (by omega) (by omega) (by omega) (by omega)), fun a ha => (s2 a (by omega) (by omega) (by omega)).trans (g1 a (by omega) (by omega) (by omega))⟩
      refine gi_aload_n (q := 247) (i := 0) C (dm_Mo_anew 153 rfl) rfl rfl rfl ?_
      refine gi_callv 0 (q := 250) C (dm_Mo_anew 154 rfl) rfl my_Mo_nothing lk_Mo_504 im_Mo_nothing rfl (c_Mo_nothing P H) Ha rfl rfl ⟨(Nat.le_of_ble_eq_true rfl), (Nat.le_of_ble_eq_true rfl)⟩ (Nat.le_of_ble_eq_true rfl) ⟨(Nat.le_of_ble_eq_true rfl), (Nat.le_of_ble_eq_true rfl)⟩ (fun r247 n247 h247 e247 => ?_)
      obtain ⟨rfl, rfl, F5, G5, H5, o5, n5, f5⟩ := e247
      have hO5 := hO.no n5
      have b5 : frXB S S J J F F5 G G5 := b2.tr n5.b
      have H := H5
      obtain ⟨fs, Ha, Hf⟩ := id H.1
      have ho := ho.tr o5
      refine gi_aload_n (q := 251) (i := 0) C (dm_Mo_anew 155 rfl) rfl rfl rfl ?_
      refine gi_iconst (q := 252) (v := 1) C (dm_Mo_anew 156 rfl) rfl (by decide) ?_
      refine gi_put (q := 255) C (dm_Mo_anew 157 rfl) rfl fl_Mo_392 fp_Mo_47 Ha (by rw [Hf.1]; decide) rfl rfl ?_
      refine gi_genM (H.putI Ha Hf (by decide) rfl) (ho.up (by omega) (by omega)) (fun y H ho => ?_)
      obtain ⟨fs, Ha, Hf⟩ := id H.1
      refine gi_aload_n (q := 256) (i := 0) C (dm_Mo_anew 158 rfl) rfl rfl rfl ?_
      refine gi_sipush (q := 259) (v := 480) C (dm_Mo_anew 159 rfl) rfl (by decide) ?_
      refine gi_put (q := 262) C (dm_Mo_anew 160 rfl) rfl fl_Mo_363 fp_Mo_48 Ha (by rw [Hf.1]; decide) rfl rfl ?_
      refine gi_genM (H.putI Ha Hf (by decide) rfl) (ho.up (by omega) (by omega)) (fun y H ho => ?_)
      obtain ⟨fs, Ha, Hf⟩ := id H.1
      refine gi_aload_n (q := 263) (i := 0) C (dm_Mo_anew 161 rfl) rfl rfl rfl ?_
      refine gi_bipush (q := 265) (v := 80) C (dm_Mo_anew 162 rfl) rfl (by decide) ?_
      refine gi_put (q := 268) C (dm_Mo_anew 163 rfl) rfl fl_Mo_422 fp_Mo_49 Ha (by rw [Hf.1]; decide) rfl rfl ?_
      refine gi_genM (H.putI Ha Hf (by decide) rfl) (ho.up (by omega) (by omega)) (fun y H ho => ?_)
      obtain ⟨fs, Ha, Hf⟩ := id H.1
      have bm : frXB S (upS (upS (upS S 47 1) 48 480) 49 80) J J F F5 G G5 := ⟨fun j hj => by unfold upS; rw [if_neg (by omega), if_neg (by omega), if_neg (by omega)], fun _ _ => rfl, b5.2.2.1, b5.2.2.2⟩
      have dm : mdR k P sh 1 Fz (bgF, b0) (upS (upS (upS S 47 1) 48 480) 49 80) F5 G5 := ⟨rfl, rfl, rfl, f5, fun _ => hO5, fun _ => h50, fun z => absurd z (by decide), bg_ok, fun z => absurd z (by decide)⟩
      have hpg5 : pgR k P sh (upS (upS (upS S 47 1) 48 480) 49 80) F5 := hpg.b bm
      refine gi_aload_n (q := 269) (i := 0) C (dm_Mo_anew 164 rfl) rfl rfl rfl ?_
      refine gi_callv 0 (q := 272) C (dm_Mo_anew 165 rfl) rfl my_Mo_rootsCome lk_Mo_507 im_Mo_rootsCome rfl (c_Mo_rootsCome B (by decide) hpg5 dm (bm.1 46 (Or.inr (Or.inr rfl)) |>.trans h46) H) Ha rfl rfl ⟨(Nat.le_of_ble_eq_true rfl), (Nat.le_of_ble_eq_true rfl)⟩ (Nat.le_of_ble_eq_true rfl) ⟨(Nat.le_of_ble_eq_true rfl), (Nat.le_of_ble_eq_true rfl)⟩ (fun r269 n269 h269 e269 => ?_)
      obtain ⟨rfl, rfl, S6, J6, F6, G6, H6, o6, r6, d6⟩ := e269
      have b6 := bm.tr r6.b
      have H := H6
      obtain ⟨fs, Ha, Hf⟩ := id H.1
      have ho := ho.tr o6
      refine gi_iconst (q := 273) (v := 0) C (dm_Mo_anew 166 rfl) rfl (by decide) ?_
      refine gi_istore_n (q := 274) (i := 1) C (dm_Mo_anew 167 rfl) rfl rfl (Nat.le_of_ble_eq_true rfl) ?_
      refine gi_while (σ := Nat) (fun j => 480 - j) (fun j => [(1, .int (nI j)), (0, .ref M)]) (fun _ => n269) (fun _ => 0) (fun _ => 0) (fun j y' => j ≤ 480 ∧ ∃ S7 J7 F7 G7, mo_at M S7 J7 F7 G7 y' ∧ outM M h y' ∧ frXB S S7 J J7 F F7 G G7 ∧ mdR k P sh 1 Fz (wk (stpM P (siN k P sh) 1 (grF (wdF k P)) 1 0 Fz) (rtS P 1 (grF (wdF k P)) r (bgF, b0) k) j) S7 F7 G7) 0 ⟨Nat.zero_le _, S6, J6, F6, G6, H6, ho, b6, d6⟩ ?_ (List.forall_mem_cons.mpr ⟨(by first | rfl | (simp [gi_look]; done)), List.forall_mem_cons.mpr ⟨(by first | rfl | (simp [gi_look]; done)), fun _ h => absurd h List.not_mem_nil⟩⟩) rfl rfl rfl
      rintro j y' ⟨hj'', S7, J7, F7, G7, H7, o7, b7, d7⟩ ihj
      try dsimp only at *
      have H := H7
      obtain ⟨fs, Ha, Hf⟩ := id H.1
      have ho := o7
      refine gi_iload_n (q := 275) (i := 1) C (dm_Mo_anew 168 rfl) rfl rfl rfl ?_
      refine gi_sipush (q := 278) (v := 480) C (dm_Mo_anew 169 rfl) rfl (by decide) ?_
      refine gi_icmp_ge (q := 281) (tgt := 305) C (dm_Mo_anew 170 rfl) rfl (by decide) (fun c278 => ?_) (fun c278 => ?_)
      · have jl : j = 480 := by
          rcases Nat.lt_or_ge j (480) with q | q
          · exact absurd c278 (Int32.not_le.mpr (nI_lt (b := 480) q (by omega)))
          · omega
        subst jl
        rw [wk_1] at d7
        have f7 := d7.2.2.2.1
        refine gi_aload_n (q := 306) (i := 0) C (dm_Mo_anew 183 rfl) rfl rfl rfl ?_
        refine gi_iconst (q := 307) (v := 0) C (dm_Mo_anew 184 rfl) rfl (by decide) ?_
        refine gi_put (q := 310) C (dm_Mo_anew 185 rfl) rfl fl_Mo_363 fp_Mo_48 Ha (by rw [Hf.1]; decide) rfl rfl ?_
        refine gi_genM (H.putI Ha Hf (by decide) rfl) (ho.up (by omega) (by omega)) (fun y H ho => ?_)
        obtain ⟨fs, Ha, Hf⟩ := id H.1
        refine gi_aload_n (q := 311) (i := 0) C (dm_Mo_anew 186 rfl) rfl rfl rfl ?_
        refine gi_iconst (q := 312) (v := 0) C (dm_Mo_anew 187 rfl) rfl (by decide) ?_
        refine gi_put (q := 315) C (dm_Mo_anew 188 rfl) rfl fl_Mo_422 fp_Mo_49 Ha (by rw [Hf.1]; decide) rfl rfl ?_
        refine gi_genM (H.putI Ha Hf (by decide) rfl) (ho.up (by omega) (by omega)) (fun y H ho => ?_)
        obtain ⟨fs, Ha, Hf⟩ := id H.1
        refine gi_vret C hr (dm_Mo_anew 189 rfl) ?_
        refine ⟨rfl, rfl, _, J7, F7, G7, H, ho, ⟨fun j hj => ?_, b7.2.1, b7.2.2.1, b7.2.2.2⟩, ?_, ?_, rfl, rfl⟩
        · show upS (upS S7 48 0) 49 0 j = S j
          unfold upS
          rw [if_neg (by omega), if_neg (by omega)]
          exact b7.1 j hj
        · unfold anewF
          rw [comes_fl _ bgF false b0]
          exact f7
        · exact ⟨_, d7.2.2.2.2.2.1 (by decide)⟩
      · have jl : j < 480 := by
          rcases Nat.lt_or_ge j (480) with q | q
          · exact q
          · exact absurd (nI_le (a := 480) q (by omega)) c278
        refine gi_aload_n (q := 282) (i := 0) C (dm_Mo_anew 171 rfl) rfl rfl rfl ?_
        refine gi_get (q := 285) C (dm_Mo_anew 172 rfl) rfl fl_Mo_57 Ha (mo_g31 Hf) ?_
        refine gi_sipush (q := 288) (v := 480) C (dm_Mo_anew 173 rfl) rfl (by decide) ?_
        refine gi_iload_n (q := 289) (i := 1) C (dm_Mo_anew 174 rfl) rfl rfl rfl ?_
        refine gi_iadd (q := 290) C (dm_Mo_anew 175 rfl) rfl ?_
        rw [show (480 : Int32) = nI 480 from rfl, nI_add]
        refine gi_zald (q := 291) C (dm_Mo_anew 176 rfl) rfl rfl (mo_a31 H) (inN (show 480 + j < 960 by omega) (by decide)) ?_
        rw [nI_clamp (show 480 + j < 2 ^ 31 by omega), ((d7.2.2.2.2.1 rfl).1 j jl).1]
        refine gi_if_eq (q := 294) (tgt := 299) C (dm_Mo_anew 177 rfl) rfl (by decide) (fun c291 => ?_) (fun c291 => ?_)
        · have e9 : wk (stpM P (siN k P sh) 1 (grF (wdF k P)) 1 0 Fz) (rtS P 1 (grF (wdF k P)) r (bgF, b0) k) (j + 1) = wk (stpM P (siN k P sh) 1 (grF (wdF k P)) 1 0 Fz) (rtS P 1 (grF (wdF k P)) r (bgF, b0) k) j := by
            rw [wk_succ]
            unfold stpM frF
            rw [if_neg (show ¬ (1 : Nat) = 0 by decide), if_neg (by rw [bI_fa c291]; decide)]
          refine gi_iinc (q := 302) (v := 1) C (dm_Mo_anew 181 rfl) rfl rfl (by decide) (Nat.le_of_ble_eq_true rfl) ?_
          refine gi_goto (tgt := 274) C (dm_Mo_anew 182 rfl) (by decide) ?_
          refine gi_close (ihj (j + 1) _ ⟨jl, S7, J7, F7, G7, H7, o7, b7, by rw [e9]; exact d7⟩ (by omega)) (List.forall_mem_cons.mpr ⟨(by first | rfl | (simp [gi_look, nI_1]; done)), List.forall_mem_cons.mpr ⟨(by first | rfl | (simp [gi_look, nI_1]; done)), fun _ h => absurd h List.not_mem_nil⟩⟩) rfl rfl rfl
        · have tl : (Fz j).told = true := bI_t c291
          refine gi_aload_n (q := 295) (i := 0) C (dm_Mo_anew 178 rfl) rfl rfl rfl ?_
          refine gi_iload_n (q := 296) (i := 1) C (dm_Mo_anew 179 rfl) rfl rfl rfl ?_
          refine gi_callv 1 (q := 299) C (dm_Mo_anew 180 rfl) rfl my_Mo_step lk_Mo_510 im_Mo_step rfl (c_Mo_stepP jl B (by decide) (hpg.b b7) d7 ⟨hF, hfl⟩ tl H) Ha rfl rfl ⟨(Nat.le_of_ble_eq_true rfl), (Nat.le_of_ble_eq_true rfl)⟩ (Nat.le_of_ble_eq_true rfl) ⟨(Nat.le_of_ble_eq_true rfl), (Nat.le_of_ble_eq_true rfl)⟩ (fun r296 n296 h296 e296 => ?_)
          obtain ⟨rfl, rfl, κ8, S8, J8, F8, G8, H8, o8, ⟨r8, -⟩, d8⟩ := e296
          have e9 : wk (stpM P (siN k P sh) 1 (grF (wdF k P)) 1 0 Fz) (rtS P 1 (grF (wdF k P)) r (bgF, b0) k) (j + 1) = (outs P (siN k P sh) Fz j).foldl (comeM 1 (grF (wdF k P))) (wk (stpM P (siN k P sh) 1 (grF (wdF k P)) 1 0 Fz) (rtS P 1 (grF (wdF k P)) r (bgF, b0) k) j) := by
            rw [wk_succ]
            unfold stpM frF
            rw [if_neg (show ¬ (1 : Nat) = 0 by decide), if_pos tl]
          refine gi_iinc (q := 302) (v := 1) C (dm_Mo_anew 181 rfl) rfl rfl (by decide) (Nat.le_of_ble_eq_true rfl) ?_
          refine gi_goto (tgt := 274) C (dm_Mo_anew 182 rfl) (by decide) ?_
          refine gi_close (ihj (j + 1) _ ⟨jl, S8, J8, F8, G8, H8, ho.tr o8, b7.tr r8.b, by rw [e9]; exact d8⟩ (by omega)) (List.forall_mem_cons.mpr ⟨(by first | rfl | (simp [gi_look, nI_1]; done)), List.forall_mem_cons.mpr ⟨(by first | rfl | (simp [gi_look, nI_1]; done)), fun _ h => absurd h List.not_mem_nil⟩⟩) rfl rfl rfl
    · have jl : j < 80 := by
        rcases Nat.lt_or_ge j (80) with q | q
        · exact q
        · exact absurd (nI_le (a := 80) q (by omega)) c147
      refine gi_aload_n (q := 151) (i := 0) C (dm_Mo_anew 91 rfl) rfl rfl rfl ?_
      refine gi_get (q := 154) C (dm_Mo_anew 92 rfl) rfl fl_Mo_83 Ha (mo_g39 Hf) ?_
      refine gi_bipush (q := 156) (v := 80) C (dm_Mo_anew 93 rfl) rfl (by decide) ?_
      refine gi_iload_n (q := 157) (i := 1) C (dm_Mo_anew 94 rfl) rfl rfl rfl ?_
      refine gi_iadd (q := 158) C (dm_Mo_anew 95 rfl) rfl ?_
      rw [show (80 : Int32) = nI 80 from rfl, nI_add]
      refine gi_aload_n (q := 159) (i := 0) C (dm_Mo_anew 96 rfl) rfl rfl rfl ?_
      refine gi_get (q := 162) C (dm_Mo_anew 97 rfl) rfl fl_Mo_83 Ha (mo_g39 Hf) ?_
      refine gi_iload_n (q := 163) (i := 1) C (dm_Mo_anew 98 rfl) rfl rfl rfl ?_
      refine gi_zald (q := 164) C (dm_Mo_anew 99 rfl) rfl rfl (mo_a39 H) (inN (show j < 160 by omega) (by decide)) ?_
      refine gi_zast (q := 165) C (dm_Mo_anew 100 rfl) rfl rfl (mo_a39 H) (inN (show 80 + j < 160 by omega) (by decide)) ?_
      refine gi_genM (H.setI (p := 21) (k := 39) (by decide) rfl rfl (by decide) rfl (by omega)) (ho.up (by omega) (by omega)) (fun y H ho => ?_)
      obtain ⟨fs, Ha, Hf⟩ := id H.1
      refine gi_aload_n (q := 166) (i := 0) C (dm_Mo_anew 101 rfl) rfl rfl rfl ?_
      refine gi_get (q := 169) C (dm_Mo_anew 102 rfl) rfl fl_Mo_86 Ha (mo_g40 Hf) ?_
      refine gi_bipush (q := 171) (v := 80) C (dm_Mo_anew 103 rfl) rfl (by decide) ?_
      refine gi_iload_n (q := 172) (i := 1) C (dm_Mo_anew 104 rfl) rfl rfl rfl ?_
      refine gi_iadd (q := 173) C (dm_Mo_anew 105 rfl) rfl ?_
      rw [show (80 : Int32) = nI 80 from rfl, nI_add]
      refine gi_aload_n (q := 174) (i := 0) C (dm_Mo_anew 106 rfl) rfl rfl rfl ?_
      refine gi_get (q := 177) C (dm_Mo_anew 107 rfl) rfl fl_Mo_86 Ha (mo_g40 Hf) ?_
      refine gi_iload_n (q := 178) (i := 1) C (dm_Mo_anew 108 rfl) rfl rfl rfl ?_
      refine gi_lald (q := 179) C (dm_Mo_anew 109 rfl) rfl rfl (mo_a40 H) (inN (show j < 160 by omega) (by decide)) ?_
      refine gi_last (q := 180) C (dm_Mo_anew 110 rfl) rfl rfl (mo_a40 H) (inN (show 80 + j < 160 by omega) (by decide)) ?_
      refine gi_genM (H.setJ (p := 22) (k := 40) (by decide) rfl rfl rfl (by omega)) (ho.up (by omega) (by omega)) (fun y H ho => ?_)
      obtain ⟨fs, Ha, Hf⟩ := id H.1
      refine gi_aload_n (q := 181) (i := 0) C (dm_Mo_anew 111 rfl) rfl rfl rfl ?_
      refine gi_get (q := 184) C (dm_Mo_anew 112 rfl) rfl fl_Mo_89 Ha (mo_g41 Hf) ?_
      refine gi_bipush (q := 186) (v := 80) C (dm_Mo_anew 113 rfl) rfl (by decide) ?_
      refine gi_iload_n (q := 187) (i := 1) C (dm_Mo_anew 114 rfl) rfl rfl rfl ?_
      refine gi_iadd (q := 188) C (dm_Mo_anew 115 rfl) rfl ?_
      rw [show (80 : Int32) = nI 80 from rfl, nI_add]
      refine gi_aload_n (q := 189) (i := 0) C (dm_Mo_anew 116 rfl) rfl rfl rfl ?_
      refine gi_get (q := 192) C (dm_Mo_anew 117 rfl) rfl fl_Mo_89 Ha (mo_g41 Hf) ?_
      refine gi_iload_n (q := 193) (i := 1) C (dm_Mo_anew 118 rfl) rfl rfl rfl ?_
      refine gi_lald (q := 194) C (dm_Mo_anew 119 rfl) rfl rfl (mo_a41 H) (inN (show j < 160 by omega) (by decide)) ?_
      refine gi_last (q := 195) C (dm_Mo_anew 120 rfl) rfl rfl (mo_a41 H) (inN (show 80 + j < 160 by omega) (by decide)) ?_
      refine gi_genM (H.setJ (p := 23) (k := 41) (by decide) rfl rfl rfl (by omega)) (ho.up (by omega) (by omega)) (fun y H ho => ?_)
      obtain ⟨fs, Ha, Hf⟩ := id H.1
      refine gi_aload_n (q := 196) (i := 0) C (dm_Mo_anew 121 rfl) rfl rfl rfl ?_
      refine gi_get (q := 199) C (dm_Mo_anew 122 rfl) rfl fl_Mo_92 Ha (mo_g42 Hf) ?_
      refine gi_bipush (q := 201) (v := 80) C (dm_Mo_anew 123 rfl) rfl (by decide) ?_
      refine gi_iload_n (q := 202) (i := 1) C (dm_Mo_anew 124 rfl) rfl rfl rfl ?_
      refine gi_iadd (q := 203) C (dm_Mo_anew 125 rfl) rfl ?_
      rw [show (80 : Int32) = nI 80 from rfl, nI_add]
      refine gi_aload_n (q := 204) (i := 0) C (dm_Mo_anew 126 rfl) rfl rfl rfl ?_
      refine gi_get (q := 207) C (dm_Mo_anew 127 rfl) rfl fl_Mo_92 Ha (mo_g42 Hf) ?_
      refine gi_iload_n (q := 208) (i := 1) C (dm_Mo_anew 128 rfl) rfl rfl rfl ?_
      refine gi_lald (q := 209) C (dm_Mo_anew 129 rfl) rfl rfl (mo_a42 H) (inN (show j < 160 by omega) (by decide)) ?_
      refine gi_last (q := 210) C (dm_Mo_anew 130 rfl) rfl rfl (mo_a42 H) (inN (show 80 + j < 160 by omega) (by decide)) ?_
      refine gi_genM (H.setJ (p := 24) (k := 42) (by decide) rfl rfl rfl (by omega)) (ho.up (by omega) (by omega)) (fun y H ho => ?_)
      obtain ⟨fs, Ha, Hf⟩ := id H.1
      refine gi_aload_n (q := 211) (i := 0) C (dm_Mo_anew 131 rfl) rfl rfl rfl ?_
      refine gi_get (q := 214) C (dm_Mo_anew 132 rfl) rfl fl_Mo_95 Ha (mo_g43 Hf) ?_
      refine gi_bipush (q := 216) (v := 80) C (dm_Mo_anew 133 rfl) rfl (by decide) ?_
      refine gi_iload_n (q := 217) (i := 1) C (dm_Mo_anew 134 rfl) rfl rfl rfl ?_
      refine gi_iadd (q := 218) C (dm_Mo_anew 135 rfl) rfl ?_
      rw [show (80 : Int32) = nI 80 from rfl, nI_add]
      refine gi_aload_n (q := 219) (i := 0) C (dm_Mo_anew 136 rfl) rfl rfl rfl ?_
      refine gi_get (q := 222) C (dm_Mo_anew 137 rfl) rfl fl_Mo_95 Ha (mo_g43 Hf) ?_
      refine gi_iload_n (q := 223) (i := 1) C (dm_Mo_anew 138 rfl) rfl rfl rfl ?_
      refine gi_iald (q := 224) C (dm_Mo_anew 139 rfl) rfl rfl (mo_a43 H) (inN (show j < 160 by omega) (by decide)) ?_
      refine gi_iast (q := 225) C (dm_Mo_anew 140 rfl) rfl rfl (mo_a43 H) (inN (show 80 + j < 160 by omega) (by decide)) ?_
      refine gi_genM (H.setI (p := 25) (k := 43) (by decide) rfl rfl (by decide) rfl (by omega)) (ho.up (by omega) (by omega)) (fun y H ho => ?_)
      obtain ⟨fs, Ha, Hf⟩ := id H.1
      refine gi_aload_n (q := 226) (i := 0) C (dm_Mo_anew 141 rfl) rfl rfl rfl ?_
      refine gi_get (q := 229) C (dm_Mo_anew 142 rfl) rfl fl_Mo_98 Ha (mo_g44 Hf) ?_
      refine gi_bipush (q := 231) (v := 80) C (dm_Mo_anew 143 rfl) rfl (by decide) ?_
      refine gi_iload_n (q := 232) (i := 1) C (dm_Mo_anew 144 rfl) rfl rfl rfl ?_
      refine gi_iadd (q := 233) C (dm_Mo_anew 145 rfl) rfl ?_
      rw [show (80 : Int32) = nI 80 from rfl, nI_add]
      refine gi_aload_n (q := 234) (i := 0) C (dm_Mo_anew 146 rfl) rfl rfl rfl ?_
      refine gi_get (q := 237) C (dm_Mo_anew 147 rfl) rfl fl_Mo_98 Ha (mo_g44 Hf) ?_
      refine gi_iload_n (q := 238) (i := 1) C (dm_Mo_anew 148 rfl) rfl rfl rfl ?_
      refine gi_zald (q := 239) C (dm_Mo_anew 149 rfl) rfl rfl (mo_a44 H) (inN (show j < 160 by omega) (by decide)) ?_
      refine gi_zast (q := 240) C (dm_Mo_anew 150 rfl) rfl rfl (mo_a44 H) (inN (show 80 + j < 160 by omega) (by decide)) ?_
      refine gi_genM (H.setI (p := 26) (k := 44) (by decide) rfl rfl (by decide) rfl (by omega)) (ho.up (by omega) (by omega)) (fun y H ho => ?_)
      obtain ⟨fs, Ha, Hf⟩ := id H.1
      rw [nI_clamp (show j < 2 ^ 31 by omega), nI_clamp (show 80 + j < 2 ^ 31 by omega)] at H
      have cj := c2 j (by omega)
      have key : ∃ F4 G4, mo_at M S J F4 G4 y ∧ (∀ a, a ≠ 39 → a ≠ 43 → a ≠ 44 → F4 a = F2 a) ∧ (∀ a, a ≠ 40 → a ≠ 41 → a ≠ 42 → G4 a = G2 a) ∧ (∀ q, q ≠ 80 + j → F4 39 q = F2 39 q ∧ cT F4 G4 q = cT F2 G2 q) ∧ F4 39 (80 + j) = vp_nar .boolean (F2 39 j) ∧ cT F4 G4 (80 + j) = nrC (cT F2 G2 j) := by
        refine ⟨_, _, H, fun a h1 h2 h3 => by simp [upA, h1, h2, h3], fun a h1 h2 h3 => by simp [upA, h1, h2, h3], fun q hq => ⟨?_, ?_⟩, ?_, ?_⟩
        · simp [upA, upd_is, hq]
        · simp [cT, upA, upd_is, updJ_is, hq]
        · simp [upA, upd_is]
        · simp [cT, nrC, upA, upd_is, updJ_is]
      obtain ⟨F4, G4, H4, x1, x2, x3, x4, x5⟩ := key
      refine gi_iinc (q := 243) (v := 1) C (dm_Mo_anew 151 rfl) rfl rfl (by decide) (Nat.le_of_ble_eq_true rfl) ?_
      refine gi_goto (tgt := 144) C (dm_Mo_anew 152 rfl) (by decide) ?_
      refine gi_close (ihj (j + 1) _ ⟨jl, F4, G4, H4, ho, fun a h1 h2 h3 => (x1 a h1 h2 h3).trans (r2 a h1 h2 h3), fun a h1 h2 h3 => (x2 a h1 h2 h3).trans (s2 a h1 h2 h3), fun q hq => ⟨(x3 q (by omega)).1.trans (c2 q hq).1, (x3 q (by omega)).2.trans (c2 q hq).2⟩, fun q hq => by
          by_cases z : q = j
          · subst z
            exact ⟨by rw [x4, cj.1], by rw [x5, cj.2]⟩
          · exact ⟨(x3 _ (by omega)).1.trans (k2 q (by omega)).1, (x3 _ (by omega)).2.trans (k2 q (by omega)).2⟩⟩ (by omega)) (List.forall_mem_cons.mpr ⟨(by first | rfl | (simp [gi_look, nI_1]; done)), List.forall_mem_cons.mpr ⟨(by first | rfl | (simp [gi_look, nI_1]; done)), fun _ h => absurd h List.not_mem_nil⟩⟩) rfl rfl rfl
  · have jl : j < 480 := by
      rcases Nat.lt_or_ge j (480) with q | q
      · exact q
      · exact absurd (nI_le (a := 480) q (by omega)) c6
    refine gi_aload_n (q := 10) (i := 0) C (dm_Mo_anew 5 rfl) rfl rfl rfl ?_
    refine gi_get (q := 13) C (dm_Mo_anew 6 rfl) rfl fl_Mo_57 Ha (mo_g31 Hf) ?_
    refine gi_sipush (q := 16) (v := 480) C (dm_Mo_anew 7 rfl) rfl (by decide) ?_
    refine gi_iload_n (q := 17) (i := 1) C (dm_Mo_anew 8 rfl) rfl rfl rfl ?_
    refine gi_iadd (q := 18) C (dm_Mo_anew 9 rfl) rfl ?_
    rw [show (480 : Int32) = nI 480 from rfl, nI_add]
    refine gi_aload_n (q := 19) (i := 0) C (dm_Mo_anew 10 rfl) rfl rfl rfl ?_
    refine gi_get (q := 22) C (dm_Mo_anew 11 rfl) rfl fl_Mo_57 Ha (mo_g31 Hf) ?_
    refine gi_iload_n (q := 23) (i := 1) C (dm_Mo_anew 12 rfl) rfl rfl rfl ?_
    refine gi_zald (q := 24) C (dm_Mo_anew 13 rfl) rfl rfl (mo_a31 H) (inN (show j < 960 by omega) (by decide)) ?_
    refine gi_zast (q := 25) C (dm_Mo_anew 14 rfl) rfl rfl (mo_a31 H) (inN (show 480 + j < 960 by omega) (by decide)) ?_
    refine gi_genM (H.setI (p := 13) (k := 31) (by decide) rfl rfl (by decide) rfl (by omega)) (ho.up (by omega) (by omega)) (fun y H ho => ?_)
    obtain ⟨fs, Ha, Hf⟩ := id H.1
    refine gi_iconst (q := 26) (v := 0) C (dm_Mo_anew 15 rfl) rfl (by decide) ?_
    refine gi_istore_n (q := 27) (i := 2) C (dm_Mo_anew 16 rfl) rfl rfl (Nat.le_of_ble_eq_true rfl) ?_
    rw [nI_clamp (show j < 2 ^ 31 by omega), nI_clamp (show 480 + j < 2 ^ 31 by omega)] at H
    have key : ∃ F4, mo_at M S J F4 G1 y ∧ (∀ a, a ≠ 31 → F4 a = F1 a) ∧ (∀ q, q ≠ 480 + j → F4 31 q = F1 31 q) ∧ F4 31 (480 + j) = vp_nar .boolean (F 31 j) := by
      refine ⟨_, H, fun a h1 => upA_n h1, fun q h1 => by rw [upA_i, upd_is, if_neg h1], ?_⟩
      rw [upA_i, upd_is, if_pos rfl, c31 j (by omega)]
    obtain ⟨F4, H4, x1, x2, x3⟩ := key
    have cS4 : ∀ q, cS F4 G1 q = cS F1 G1 q := fun q => by
      unfold cS
      rw [x1 35 (by decide), x1 36 (by decide), x1 37 (by decide)]
    refine gi_while (σ := Nat) (fun s => 14 - s) (fun s => [(2, .int (nI s)), (1, .int (nI j)), (0, .ref M)]) (fun _ => n) (fun _ => 0) (fun _ => 0) (fun s y' => s ≤ 14 ∧ ∃ F1 G1, mo_at M S J F1 G1 y' ∧ outM M h y' ∧ (∀ a, a ≠ 31 → a ≠ 35 → a ≠ 36 → a ≠ 37 → F1 a = F a) ∧ (∀ a, a ≠ 32 → a ≠ 33 → a ≠ 34 → G1 a = G a) ∧ (∀ q, q < 480 → F1 31 q = F 31 q) ∧ (∀ q, q < 6720 → cS F1 G1 q = cS F G q) ∧ (∀ q, q < j → F1 31 (480 + q) = vp_nar .boolean (F 31 q) ∧ ∀ s, s < 14 → cS F1 G1 (6720 + 14 * q + s) = nmC (cS F G (14 * q + s))) ∧ F1 31 (480 + j) = vp_nar .boolean (F 31 j) ∧ ∀ q, q < s → cS F1 G1 (6720 + 14 * j + q) = nmC (cS F G (14 * j + q))) 0 ⟨Nat.zero_le _, F4, G1, H4, ho, fun a h1 h2 h3 h4 => (x1 a h1).trans (r1 a h1 h2 h3 h4), g1, fun q hq => by rw [x2 q (by omega)]; exact c31 q hq, fun q hq => by rw [cS4]; exact cl q hq, fun q hq => ⟨by rw [x2 _ (by omega)]; exact (cc q hq).1, fun s2 h2 => by rw [cS4]; exact (cc q hq).2 s2 h2⟩, x3, fun q hq => absurd hq (Nat.not_lt_zero _)⟩ ?_ (List.forall_mem_cons.mpr ⟨(by first | rfl | (simp [gi_look]; done)), List.forall_mem_cons.mpr ⟨(by first | rfl | (simp [gi_look]; done)), List.forall_mem_cons.mpr ⟨(by first | rfl | (simp [gi_look]; done)), fun _ h => absurd h List.not_mem_nil⟩⟩⟩) rfl rfl rfl
    rintro s y' ⟨hs, F1, G1, H1, o1, r1, g1, c31, cl, cc, d31, dd⟩ ihs
    try dsimp only at *
    have H := H1
    obtain ⟨fs, Ha, Hf⟩ := id H.1
    have ho := o1
    refine gi_iload_n (q := 28) (i := 2) C (dm_Mo_anew 17 rfl) rfl rfl rfl ?_
    refine gi_bipush (q := 30) (v := 14) C (dm_Mo_anew 18 rfl) rfl (by decide) ?_
    refine gi_icmp_ge (q := 33) (tgt := 136) C (dm_Mo_anew 19 rfl) rfl (by decide) (fun c30 => ?_) (fun c30 => ?_)
    · have sl : s = 14 := by
        rcases Nat.lt_or_ge s (14) with q | q
        · exact absurd c30 (Int32.not_le.mpr (nI_lt (b := 14) q (by omega)))
        · omega
      subst sl
      refine gi_iinc (q := 139) (v := 1) C (dm_Mo_anew 84 rfl) rfl rfl (by decide) (Nat.le_of_ble_eq_true rfl) ?_
      refine gi_goto (tgt := 2) C (dm_Mo_anew 85 rfl) (by decide) ?_
      refine gi_close (ihj (j + 1) _ ⟨jl, F1, G1, H1, o1, r1, g1, c31, cl, fun q hq => by
          by_cases z : q = j
          · subst z
            exact ⟨d31, dd⟩
          · exact cc q (by omega)⟩ (by omega)) (List.forall_mem_cons.mpr ⟨(by first | rfl | (simp [gi_look, nI_1]; done)), List.forall_mem_cons.mpr ⟨(by first | rfl | (simp [gi_look, nI_1]; done)), fun _ h => absurd h List.not_mem_nil⟩⟩) rfl rfl rfl
    · have sl : s < 14 := by
        rcases Nat.lt_or_ge s (14) with q | q
        · exact q
        · exact absurd (nI_le (a := 14) q (by omega)) c30
      refine gi_bipush (q := 35) (v := 14) C (dm_Mo_anew 20 rfl) rfl (by decide) ?_
      refine gi_iload_n (q := 36) (i := 1) C (dm_Mo_anew 21 rfl) rfl rfl rfl ?_
      refine gi_imul (q := 37) C (dm_Mo_anew 22 rfl) rfl ?_
      rw [show (14 : Int32) = nI 14 from rfl, nI_ml]
      refine gi_iload_n (q := 38) (i := 2) C (dm_Mo_anew 23 rfl) rfl rfl rfl ?_
      refine gi_iadd (q := 39) C (dm_Mo_anew 24 rfl) rfl ?_
      rw [nI_add]
      refine gi_istore_n (q := 40) (i := 3) C (dm_Mo_anew 25 rfl) rfl rfl (Nat.le_of_ble_eq_true rfl) ?_
      refine gi_bipush (q := 42) (v := 14) C (dm_Mo_anew 26 rfl) rfl (by decide) ?_
      refine gi_sipush (q := 45) (v := 480) C (dm_Mo_anew 27 rfl) rfl (by decide) ?_
      refine gi_iload_n (q := 46) (i := 1) C (dm_Mo_anew 28 rfl) rfl rfl rfl ?_
      refine gi_iadd (q := 47) C (dm_Mo_anew 29 rfl) rfl ?_
      rw [show (480 : Int32) = nI 480 from rfl, nI_add]
      refine gi_imul (q := 48) C (dm_Mo_anew 30 rfl) rfl ?_
      rw [show (14 : Int32) = nI 14 from rfl, nI_ml]
      refine gi_iload_n (q := 49) (i := 2) C (dm_Mo_anew 31 rfl) rfl rfl rfl ?_
      refine gi_iadd (q := 50) C (dm_Mo_anew 32 rfl) rfl ?_
      rw [nI_add, show 14 * (480 + j) + s = 6720 + 14 * j + s by omega]
      refine gi_istore (q := 52) C (dm_Mo_anew 33 rfl) rfl (Nat.le_of_ble_eq_true rfl) ?_
      refine gi_aload_n (q := 53) (i := 0) C (dm_Mo_anew 34 rfl) rfl rfl rfl ?_
      refine gi_get (q := 56) C (dm_Mo_anew 35 rfl) rfl fl_Mo_60 Ha (mo_g32 Hf) ?_
      refine gi_iload (q := 58) C (dm_Mo_anew 36 rfl) rfl rfl ?_
      refine gi_aload_n (q := 59) (i := 0) C (dm_Mo_anew 37 rfl) rfl rfl rfl ?_
      refine gi_get (q := 62) C (dm_Mo_anew 38 rfl) rfl fl_Mo_60 Ha (mo_g32 Hf) ?_
      refine gi_iload_n (q := 63) (i := 3) C (dm_Mo_anew 39 rfl) rfl rfl rfl ?_
      refine gi_lald (q := 64) C (dm_Mo_anew 40 rfl) rfl rfl (mo_a32 H) (inN (show 14 * j + s < 13440 by omega) (by decide)) ?_
      refine gi_last (q := 65) C (dm_Mo_anew 41 rfl) rfl rfl (mo_a32 H) (inN (show 6720 + 14 * j + s < 13440 by omega) (by decide)) ?_
      refine gi_genM (H.setJ (p := 14) (k := 32) (by decide) rfl rfl rfl (by omega)) (ho.up (by omega) (by omega)) (fun y H ho => ?_)
      obtain ⟨fs, Ha, Hf⟩ := id H.1
      refine gi_aload_n (q := 66) (i := 0) C (dm_Mo_anew 42 rfl) rfl rfl rfl ?_
      refine gi_get (q := 69) C (dm_Mo_anew 43 rfl) rfl fl_Mo_64 Ha (mo_g33 Hf) ?_
      refine gi_iload (q := 71) C (dm_Mo_anew 44 rfl) rfl rfl ?_
      refine gi_aload_n (q := 72) (i := 0) C (dm_Mo_anew 45 rfl) rfl rfl rfl ?_
      refine gi_get (q := 75) C (dm_Mo_anew 46 rfl) rfl fl_Mo_64 Ha (mo_g33 Hf) ?_
      refine gi_iload_n (q := 76) (i := 3) C (dm_Mo_anew 47 rfl) rfl rfl rfl ?_
      refine gi_lald (q := 77) C (dm_Mo_anew 48 rfl) rfl rfl (mo_a33 H) (inN (show 14 * j + s < 13440 by omega) (by decide)) ?_
      refine gi_last (q := 78) C (dm_Mo_anew 49 rfl) rfl rfl (mo_a33 H) (inN (show 6720 + 14 * j + s < 13440 by omega) (by decide)) ?_
      refine gi_genM (H.setJ (p := 15) (k := 33) (by decide) rfl rfl rfl (by omega)) (ho.up (by omega) (by omega)) (fun y H ho => ?_)
      obtain ⟨fs, Ha, Hf⟩ := id H.1
      refine gi_aload_n (q := 79) (i := 0) C (dm_Mo_anew 50 rfl) rfl rfl rfl ?_
      refine gi_get (q := 82) C (dm_Mo_anew 51 rfl) rfl fl_Mo_67 Ha (mo_g34 Hf) ?_
      refine gi_iload (q := 84) C (dm_Mo_anew 52 rfl) rfl rfl ?_
      refine gi_aload_n (q := 85) (i := 0) C (dm_Mo_anew 53 rfl) rfl rfl rfl ?_
      refine gi_get (q := 88) C (dm_Mo_anew 54 rfl) rfl fl_Mo_67 Ha (mo_g34 Hf) ?_
      refine gi_iload_n (q := 89) (i := 3) C (dm_Mo_anew 55 rfl) rfl rfl rfl ?_
      refine gi_lald (q := 90) C (dm_Mo_anew 56 rfl) rfl rfl (mo_a34 H) (inN (show 14 * j + s < 13440 by omega) (by decide)) ?_
      refine gi_last (q := 91) C (dm_Mo_anew 57 rfl) rfl rfl (mo_a34 H) (inN (show 6720 + 14 * j + s < 13440 by omega) (by decide)) ?_
      refine gi_genM (H.setJ (p := 16) (k := 34) (by decide) rfl rfl rfl (by omega)) (ho.up (by omega) (by omega)) (fun y H ho => ?_)
      obtain ⟨fs, Ha, Hf⟩ := id H.1
      refine gi_aload_n (q := 92) (i := 0) C (dm_Mo_anew 58 rfl) rfl rfl rfl ?_
      refine gi_get (q := 95) C (dm_Mo_anew 59 rfl) rfl fl_Mo_70 Ha (mo_g35 Hf) ?_
      refine gi_iload (q := 97) C (dm_Mo_anew 60 rfl) rfl rfl ?_
      refine gi_aload_n (q := 98) (i := 0) C (dm_Mo_anew 61 rfl) rfl rfl rfl ?_
      refine gi_get (q := 101) C (dm_Mo_anew 62 rfl) rfl fl_Mo_70 Ha (mo_g35 Hf) ?_
      refine gi_iload_n (q := 102) (i := 3) C (dm_Mo_anew 63 rfl) rfl rfl rfl ?_
      refine gi_iald (q := 103) C (dm_Mo_anew 64 rfl) rfl rfl (mo_a35 H) (inN (show 14 * j + s < 13440 by omega) (by decide)) ?_
      refine gi_iast (q := 104) C (dm_Mo_anew 65 rfl) rfl rfl (mo_a35 H) (inN (show 6720 + 14 * j + s < 13440 by omega) (by decide)) ?_
      refine gi_genM (H.setI (p := 17) (k := 35) (by decide) rfl rfl (by decide) rfl (by omega)) (ho.up (by omega) (by omega)) (fun y H ho => ?_)
      obtain ⟨fs, Ha, Hf⟩ := id H.1
      refine gi_aload_n (q := 105) (i := 0) C (dm_Mo_anew 66 rfl) rfl rfl rfl ?_
      refine gi_get (q := 108) C (dm_Mo_anew 67 rfl) rfl fl_Mo_73 Ha (mo_g36 Hf) ?_
      refine gi_iload (q := 110) C (dm_Mo_anew 68 rfl) rfl rfl ?_
      refine gi_aload_n (q := 111) (i := 0) C (dm_Mo_anew 69 rfl) rfl rfl rfl ?_
      refine gi_get (q := 114) C (dm_Mo_anew 70 rfl) rfl fl_Mo_73 Ha (mo_g36 Hf) ?_
      refine gi_iload_n (q := 115) (i := 3) C (dm_Mo_anew 71 rfl) rfl rfl rfl ?_
      refine gi_zald (q := 116) C (dm_Mo_anew 72 rfl) rfl rfl (mo_a36 H) (inN (show 14 * j + s < 13440 by omega) (by decide)) ?_
      refine gi_zast (q := 117) C (dm_Mo_anew 73 rfl) rfl rfl (mo_a36 H) (inN (show 6720 + 14 * j + s < 13440 by omega) (by decide)) ?_
      refine gi_genM (H.setI (p := 18) (k := 36) (by decide) rfl rfl (by decide) rfl (by omega)) (ho.up (by omega) (by omega)) (fun y H ho => ?_)
      obtain ⟨fs, Ha, Hf⟩ := id H.1
      refine gi_aload_n (q := 118) (i := 0) C (dm_Mo_anew 74 rfl) rfl rfl rfl ?_
      refine gi_get (q := 121) C (dm_Mo_anew 75 rfl) rfl fl_Mo_76 Ha (mo_g37 Hf) ?_
      refine gi_iload (q := 123) C (dm_Mo_anew 76 rfl) rfl rfl ?_
      refine gi_aload_n (q := 124) (i := 0) C (dm_Mo_anew 77 rfl) rfl rfl rfl ?_
      refine gi_get (q := 127) C (dm_Mo_anew 78 rfl) rfl fl_Mo_76 Ha (mo_g37 Hf) ?_
      refine gi_iload_n (q := 128) (i := 3) C (dm_Mo_anew 79 rfl) rfl rfl rfl ?_
      refine gi_bald (q := 129) C (dm_Mo_anew 80 rfl) rfl rfl (mo_a37 H) (inN (show 14 * j + s < 13440 by omega) (by decide)) ?_
      refine gi_bast (q := 130) C (dm_Mo_anew 81 rfl) rfl rfl (mo_a37 H) (inN (show 6720 + 14 * j + s < 13440 by omega) (by decide)) ?_
      refine gi_genM (H.setI (p := 19) (k := 37) (by decide) rfl rfl (by decide) rfl (by omega)) (ho.up (by omega) (by omega)) (fun y H ho => ?_)
      obtain ⟨fs, Ha, Hf⟩ := id H.1
      rw [nI_clamp (show 14 * j + s < 2 ^ 31 by omega), nI_clamp (show 6720 + 14 * j + s < 2 ^ 31 by omega)] at H
      have cf := cl (14 * j + s) (by omega)
      have key : ∃ F4 G4, mo_at M S J F4 G4 y ∧ (∀ a, a ≠ 35 → a ≠ 36 → a ≠ 37 → F4 a = F1 a) ∧ (∀ a, a ≠ 32 → a ≠ 33 → a ≠ 34 → G4 a = G1 a) ∧ cS F4 G4 = upO (cS F1 G1) (6720 + 14 * j + s) (nmC (cS F1 G1 (14 * j + s))) := by
        refine ⟨_, _, H, fun a h1 h2 h3 => by simp [upA, h1, h2, h3], fun a h1 h2 h3 => by simp [upA, h1, h2, h3], ?_⟩
        funext q
        by_cases z : q = 6720 + 14 * j + s
        · subst z
          simp [cS, upA, upd_is, updJ_is, upO, nmC]
        · simp [cS, upA, upd_is, updJ_is, upO, z]
      obtain ⟨F4, G4, H4, x1, x2, x3⟩ := key
      rw [cf] at x3
      refine gi_iinc (q := 133) (v := 1) C (dm_Mo_anew 82 rfl) rfl rfl (by decide) (Nat.le_of_ble_eq_true rfl) ?_
      refine gi_goto (tgt := 27) C (dm_Mo_anew 83 rfl) (by decide) ?_
      refine gi_close (ihs (s + 1) _ ⟨sl, F4, G4, H4, ho, fun a h1 h2 h3 h4 => (x1 a h2 h3 h4).trans (r1 a h1 h2 h3 h4), fun a h1 h2 h3 => (x2 a h1 h2 h3).trans (g1 a h1 h2 h3), fun q hq => by rw [x1 31 (by decide) (by decide) (by decide)]; exact c31 q hq, fun q hq => by rw [x3, upO_ne (by omega)]; exact cl q hq, fun q hq => ⟨by rw [x1 31 (by decide) (by decide) (by decide)]; exact (cc q hq).1, fun s2 h2 => by rw [x3, upO_ne (by omega)]; exact (cc q hq).2 s2 h2⟩, by rw [x1 31 (by decide) (by decide) (by decide)]; exact d31, fun q hq => by
          by_cases z : q = s
          · rw [x3, z, upO_self]
          · rw [x3, upO_ne (by omega)]
            exact dd q (by omega)⟩ (by omega)) (List.forall_mem_cons.mpr ⟨(by first | rfl | (simp [gi_look, nI_1]; done)), List.forall_mem_cons.mpr ⟨(by first | rfl | (simp [gi_look, nI_1]; done)), List.forall_mem_cons.mpr ⟨(by first | rfl | (simp [gi_look, nI_1]; done)), fun _ h => absurd h List.not_mem_nil⟩⟩⟩) rfl rfl rfl
end RCJ
