-- needs: 89.86
section RCI
variable {l : Launch} {V : gi_V} {n : Nat} {h h' : gi_H} {M k m i : Nat} {P : Pm} {x : Sh} {sh : Nat → Option Sh} {S S' : Nat → Int32} {J J' : Nat → Int64} {F F' : Nat → Nat → Int32} {G G' : Nat → Nat → Int64} {f g : Nat → Sl} {n0 : Nat} {r : Rw} {Ff : Fa} {Z : Fa × Bool} {md p t : Nat} {S0 S1 S2 : Nat → Int32} {J0 J1 J2 : Nat → Int64} {F0 F1 F2 : Nat → Nat → Int32} {G0 G1 G2 : Nat → Nat → Int64} {y y' : gi_H} {L : Nat} {κ : (Nat → Ce) × Int32} {r : Int32} {Fz : Fa}
def noC (F F' : Nat → Nat → Int32) (G G' : Nat → Nat → Int64) : Prop := (∀ a, a ≠ 31 → a ≠ 39 → a ≠ 43 → a ≠ 44 → F' a = F a) ∧ (∀ a, a ≠ 40 → a ≠ 41 → a ≠ 42 → G' a = G a) ∧ (∀ q, 480 ≤ q → F' 31 q = F 31 q) ∧ ∀ q, 80 ≤ q → F' 39 q = F 39 q ∧ cT F' G' q = cT F G q
theorem fsO.no (h : fsO P Ff F G) (c : noC F F' G G') : fsO P Ff F' G' := by
  refine ⟨fun q hq => ?_, fun t h1 h2 => ?_⟩
  · obtain ⟨a, b⟩ := h.1 q hq
    refine ⟨by rw [c.2.2.1 _ (by omega)]; exact a, fun z => ?_⟩
    unfold cS
    rw [c.1 35 (by decide) (by decide) (by decide) (by decide), c.1 36 (by decide) (by decide) (by decide) (by decide), c.1 37 (by decide) (by decide) (by decide) (by decide), c.2.1 32 (by decide) (by decide) (by decide), c.2.1 33 (by decide) (by decide) (by decide), c.2.1 34 (by decide) (by decide) (by decide)]
    exact b z
  · obtain ⟨a, b⟩ := h.2 t h1 h2
    obtain ⟨c1, c2⟩ := c.2.2.2 (80 + tix t) (by omega)
    exact ⟨c1.trans a, fun z => by rw [c2]; exact b z⟩
set_option maxHeartbeats 4000000 in
set_option maxRecDepth 100000 in
theorem c_Mo_nothing (P : Pm) (H : mo_at M S J F G h) : gi_T l V y_Mo_nothing b_Mo_nothing 2 none 0 0 0 0 [.ref M] n h (fun v n' h' => v = none ∧ n' = n ∧ ∃ F' G', mo_at M S J F' G' h' ∧ outM M h h' ∧ noC F F' G G' ∧ fsN P bgF F' G') := by
  refine gi_enter (by decide) (Nat.le_of_ble_eq_true rfl) ?_
  intro _ _ _ _ _ _ _ _ C hr hnm
  obtain ⟨fs, Ha, Hf⟩ := id H.1
  have ho : outM M h h := outM.rf
  refine gi_iconst (q := 1) (v := 0) C (dm_Mo_nothing 0 rfl) rfl (by decide) ?_
  refine gi_istore_n (q := 2) (i := 1) C (dm_Mo_nothing 1 rfl) rfl rfl (Nat.le_of_ble_eq_true rfl) ?_
  refine gi_while (σ := Nat) (fun j => 480 - j) (fun j => [(1, .int (nI j)), (0, .ref M)]) (fun _ => n) (fun _ => 0) (fun _ => 0) (fun j y' => j ≤ 480 ∧ ∃ F1, mo_at M S J F1 G y' ∧ outM M h y' ∧ (∀ a, a ≠ 31 → F1 a = F a) ∧ (∀ q, q < j → F1 31 q = 0) ∧ ∀ q, 480 ≤ q → F1 31 q = F 31 q) 0 ⟨Nat.zero_le _, F, H, ho, fun _ _ => rfl, fun q h1 => absurd h1 (Nat.not_lt_zero _), fun _ _ => rfl⟩ ?_ (List.forall_mem_cons.mpr ⟨(by first | rfl | (simp [gi_look]; done)), List.forall_mem_cons.mpr ⟨(by first | rfl | (simp [gi_look]; done)), fun _ h => absurd h List.not_mem_nil⟩⟩) rfl rfl rfl
  rintro j y' ⟨hj, F1, H1, o1, r1, c1, k1⟩ ihj
  try dsimp only at *
  have H := H1
  obtain ⟨fs, Ha, Hf⟩ := id H.1
  have ho := o1
  refine gi_iload_n (q := 3) (i := 1) C (dm_Mo_nothing 2 rfl) rfl rfl rfl ?_
  refine gi_sipush (q := 6) (v := 480) C (dm_Mo_nothing 3 rfl) rfl (by decide) ?_
  refine gi_icmp_ge (q := 9) (tgt := 22) C (dm_Mo_nothing 4 rfl) rfl (by decide) (fun c6 => ?_) (fun c6 => ?_)
  · have jl : j = 480 := by
      rcases Nat.lt_or_ge j (480) with q | q
      · exact absurd c6 (Int32.not_le.mpr (nI_lt (b := 480) q (by omega)))
      · omega
    subst jl
    refine gi_iconst (q := 23) (v := 0) C (dm_Mo_nothing 12 rfl) rfl (by decide) ?_
    refine gi_istore_n (q := 24) (i := 1) C (dm_Mo_nothing 13 rfl) rfl rfl (Nat.le_of_ble_eq_true rfl) ?_
    refine gi_while (σ := Nat) (fun j => 80 - j) (fun j => [(1, .int (nI j)), (0, .ref M)]) (fun _ => n) (fun _ => 0) (fun _ => 0) (fun j y' => j ≤ 80 ∧ ∃ F2 G2, mo_at M S J F2 G2 y' ∧ outM M h y' ∧ (∀ a, a ≠ 39 → a ≠ 43 → a ≠ 44 → F2 a = F1 a) ∧ (∀ a, a ≠ 40 → a ≠ 41 → a ≠ 42 → G2 a = G a) ∧ (∀ q, q < j → F2 39 q = 0 ∧ cT F2 G2 q = (0, 0, 0, 0, 0, 0)) ∧ ∀ q, 80 ≤ q → F2 39 q = F1 39 q ∧ cT F2 G2 q = cT F1 G q) 0 ⟨Nat.zero_le _, F1, G, H, ho, fun _ _ _ _ => rfl, fun _ _ _ _ => rfl, fun q h1 => absurd h1 (Nat.not_lt_zero _), fun _ _ => ⟨rfl, rfl⟩⟩ ?_ (List.forall_mem_cons.mpr ⟨(by first | rfl | (simp [gi_look]; done)), List.forall_mem_cons.mpr ⟨(by first | rfl | (simp [gi_look]; done)), fun _ h => absurd h List.not_mem_nil⟩⟩) rfl rfl rfl
    rintro j y' ⟨hj, F2, G2, H2, o2, r2, s2, c2, k2⟩ ihj
    try dsimp only at *
    have H := H2
    obtain ⟨fs, Ha, Hf⟩ := id H.1
    have ho := o2
    refine gi_iload_n (q := 25) (i := 1) C (dm_Mo_nothing 14 rfl) rfl rfl rfl ?_
    refine gi_bipush (q := 27) (v := 80) C (dm_Mo_nothing 15 rfl) rfl (by decide) ?_
    refine gi_icmp_ge (q := 30) (tgt := 78) C (dm_Mo_nothing 16 rfl) rfl (by decide) (fun c27 => ?_) (fun c27 => ?_)
    · have jl : j = 80 := by
        rcases Nat.lt_or_ge j (80) with q | q
        · exact absurd c27 (Int32.not_le.mpr (nI_lt (b := 80) q (by omega)))
        · omega
      subst jl
      refine gi_bipush (q := 80) (v := 64) C (dm_Mo_nothing 49 rfl) rfl (by decide) ?_
      refine gi_istore_n (q := 81) (i := 1) C (dm_Mo_nothing 50 rfl) rfl rfl (Nat.le_of_ble_eq_true rfl) ?_
      refine gi_while (σ := Nat) (fun j => 4 - j) (fun j => [(1, .int (nI (64 + j))), (0, .ref M)]) (fun _ => n) (fun _ => 0) (fun _ => 0) (fun j y' => j ≤ 4 ∧ ∃ F3, mo_at M S J F3 G2 y' ∧ outM M h y' ∧ (∀ a, a ≠ 39 → F3 a = F2 a) ∧ (∀ q, 64 ≤ q → q < 64 + j → F3 39 q = 1) ∧ ∀ q, (q < 64 ∨ 64 + j ≤ q) → F3 39 q = F2 39 q) 0 ⟨Nat.zero_le _, F2, H, ho, fun _ _ => rfl, fun q h1 h2 => absurd h2 (by omega), fun _ _ => rfl⟩ ?_ (List.forall_mem_cons.mpr ⟨(by first | rfl | (simp [gi_look]; done)), List.forall_mem_cons.mpr ⟨(by first | rfl | (simp [gi_look]; done)), fun _ h => absurd h List.not_mem_nil⟩⟩) rfl rfl rfl
      rintro j y' ⟨hj, F3, H3, o3', r3, o3, p3⟩ ihj
      try dsimp only at *
      have H := H3
      obtain ⟨fs, Ha, Hf⟩ := id H.1
      have ho := o3'
      refine gi_iload_n (q := 82) (i := 1) C (dm_Mo_nothing 51 rfl) rfl rfl rfl ?_
      refine gi_bipush (q := 84) (v := 68) C (dm_Mo_nothing 52 rfl) rfl (by decide) ?_
      refine gi_icmp_ge (q := 87) (tgt := 100) C (dm_Mo_nothing 53 rfl) rfl (by decide) (fun c84 => ?_) (fun c84 => ?_)
      · have jl : j = 4 := by
          rcases Nat.lt_or_ge j 4 with q | q
          · exact absurd c84 (Int32.not_le.mpr (nI_lt (b := 68) (show 64 + j < 68 by omega) (by decide)))
          · omega
        subst jl
        refine gi_aload_n (q := 101) (i := 0) C (dm_Mo_nothing 61 rfl) rfl rfl rfl ?_
        refine gi_get (q := 104) C (dm_Mo_nothing 62 rfl) rfl fl_Mo_83 Ha (mo_g39 Hf) ?_
        refine gi_iconst (q := 105) (v := 0) C (dm_Mo_nothing 63 rfl) rfl (by decide) ?_
        refine gi_iconst (q := 106) (v := 1) C (dm_Mo_nothing 64 rfl) rfl (by decide) ?_
        refine gi_zast (q := 107) C (dm_Mo_nothing 65 rfl) rfl rfl (mo_a39 H) (inN (show (0 : Nat) < 160 by decide) (by decide)) ?_
        refine gi_genM (H.setI (p := 21) (k := 39) (by decide) rfl rfl (by decide) rfl (by omega)) (ho.up (by omega) (by omega)) (fun y H ho => ?_)
        obtain ⟨fs, Ha, Hf⟩ := id H.1
        refine gi_aload_n (q := 108) (i := 0) C (dm_Mo_nothing 66 rfl) rfl rfl rfl ?_
        refine gi_get (q := 111) C (dm_Mo_nothing 67 rfl) rfl fl_Mo_89 Ha (mo_g41 Hf) ?_
        refine gi_iconst (q := 112) (v := 0) C (dm_Mo_nothing 68 rfl) rfl (by decide) ?_
        refine gi_ldc2 (q := 115) C (dm_Mo_nothing 69 rfl) rfl kc_Mo_280 ?_
        refine gi_last (q := 116) C (dm_Mo_nothing 70 rfl) rfl rfl (mo_a41 H) (inN (show (0 : Nat) < 160 by decide) (by decide)) ?_
        refine gi_genM (H.setJ (p := 23) (k := 41) (by decide) rfl rfl rfl (by omega)) (ho.up (by omega) (by omega)) (fun y H ho => ?_)
        obtain ⟨fs, Ha, Hf⟩ := id H.1
        refine gi_aload_n (q := 117) (i := 0) C (dm_Mo_nothing 71 rfl) rfl rfl rfl ?_
        refine gi_get (q := 120) C (dm_Mo_nothing 72 rfl) rfl fl_Mo_92 Ha (mo_g42 Hf) ?_
        refine gi_iconst (q := 121) (v := 0) C (dm_Mo_nothing 73 rfl) rfl (by decide) ?_
        refine gi_lconst (q := 122) (v := 1) C (dm_Mo_nothing 74 rfl) rfl (by decide) ?_
        refine gi_last (q := 123) C (dm_Mo_nothing 75 rfl) rfl rfl (mo_a42 H) (inN (show (0 : Nat) < 160 by decide) (by decide)) ?_
        refine gi_genM (H.setJ (p := 24) (k := 42) (by decide) rfl rfl rfl (by omega)) (ho.up (by omega) (by omega)) (fun y H ho => ?_)
        obtain ⟨fs, Ha, Hf⟩ := id H.1
        refine gi_aload_n (q := 124) (i := 0) C (dm_Mo_nothing 76 rfl) rfl rfl rfl ?_
        refine gi_get (q := 127) C (dm_Mo_nothing 77 rfl) rfl fl_Mo_83 Ha (mo_g39 Hf) ?_
        refine gi_bipush (q := 129) (v := 32) C (dm_Mo_nothing 78 rfl) rfl (by decide) ?_
        refine gi_iconst (q := 130) (v := 1) C (dm_Mo_nothing 79 rfl) rfl (by decide) ?_
        refine gi_zast (q := 131) C (dm_Mo_nothing 80 rfl) rfl rfl (mo_a39 H) (inN (show (32 : Nat) < 160 by decide) (by decide)) ?_
        refine gi_genM (H.setI (p := 21) (k := 39) (by decide) rfl rfl (by decide) rfl (by omega)) (ho.up (by omega) (by omega)) (fun y H ho => ?_)
        obtain ⟨fs, Ha, Hf⟩ := id H.1
        refine gi_aload_n (q := 132) (i := 0) C (dm_Mo_nothing 81 rfl) rfl rfl rfl ?_
        refine gi_get (q := 135) C (dm_Mo_nothing 82 rfl) rfl fl_Mo_86 Ha (mo_g40 Hf) ?_
        refine gi_bipush (q := 137) (v := 32) C (dm_Mo_nothing 83 rfl) rfl (by decide) ?_
        refine gi_ldc2 (q := 140) C (dm_Mo_nothing 84 rfl) rfl kc_Mo_273 ?_
        refine gi_last (q := 141) C (dm_Mo_nothing 85 rfl) rfl rfl (mo_a40 H) (inN (show (32 : Nat) < 160 by decide) (by decide)) ?_
        refine gi_genM (H.setJ (p := 22) (k := 40) (by decide) rfl rfl rfl (by omega)) (ho.up (by omega) (by omega)) (fun y H ho => ?_)
        obtain ⟨fs, Ha, Hf⟩ := id H.1
        refine gi_aload_n (q := 142) (i := 0) C (dm_Mo_nothing 86 rfl) rfl rfl rfl ?_
        refine gi_get (q := 145) C (dm_Mo_nothing 87 rfl) rfl fl_Mo_89 Ha (mo_g41 Hf) ?_
        refine gi_bipush (q := 147) (v := 32) C (dm_Mo_nothing 88 rfl) rfl (by decide) ?_
        refine gi_ldc2 (q := 150) C (dm_Mo_nothing 89 rfl) rfl kc_Mo_280 ?_
        refine gi_last (q := 151) C (dm_Mo_nothing 90 rfl) rfl rfl (mo_a41 H) (inN (show (32 : Nat) < 160 by decide) (by decide)) ?_
        refine gi_genM (H.setJ (p := 23) (k := 41) (by decide) rfl rfl rfl (by omega)) (ho.up (by omega) (by omega)) (fun y H ho => ?_)
        obtain ⟨fs, Ha, Hf⟩ := id H.1
        refine gi_aload_n (q := 152) (i := 0) C (dm_Mo_nothing 91 rfl) rfl rfl rfl ?_
        refine gi_get (q := 155) C (dm_Mo_nothing 92 rfl) rfl fl_Mo_92 Ha (mo_g42 Hf) ?_
        refine gi_bipush (q := 157) (v := 32) C (dm_Mo_nothing 93 rfl) rfl (by decide) ?_
        refine gi_lconst (q := 158) (v := 1) C (dm_Mo_nothing 94 rfl) rfl (by decide) ?_
        refine gi_last (q := 159) C (dm_Mo_nothing 95 rfl) rfl rfl (mo_a42 H) (inN (show (32 : Nat) < 160 by decide) (by decide)) ?_
        refine gi_genM (H.setJ (p := 24) (k := 42) (by decide) rfl rfl rfl (by omega)) (ho.up (by omega) (by omega)) (fun y H ho => ?_)
        obtain ⟨fs, Ha, Hf⟩ := id H.1
        refine gi_vret C hr (dm_Mo_nothing 96 rfl) ?_
        rw [show Int32.toNatClampNeg 0 = 0 from by decide, show Int32.toNatClampNeg 32 = 32 from by decide] at H
        have key : ∃ F4 G4, mo_at M S J F4 G4 y ∧ (∀ a, a ≠ 39 → F4 a = F3 a) ∧ (∀ a, a ≠ 40 → a ≠ 41 → a ≠ 42 → G4 a = G2 a) ∧ (∀ q, F4 39 q = if q = 32 then 1 else if q = 0 then 1 else F3 39 q) ∧ (∀ q, G4 40 q = if q = 32 then -2147483648 else G2 40 q) ∧ (∀ q, G4 41 q = if q = 32 then 2147483647 else if q = 0 then 2147483647 else G2 41 q) ∧ ∀ q, G4 42 q = if q = 32 then 1 else if q = 0 then 1 else G2 42 q := by
          refine ⟨_, _, H, fun a h1 => by simp [upA, h1], fun a h1 h2 h3 => by simp [upA, h1, h2, h3], fun q => ?_, fun q => ?_, fun q => ?_, fun q => ?_⟩
          · simp [upA, upd_is, nz1]
          · simp [upA, updJ_is]
          · simp [upA, updJ_is]
          · simp [upA, updJ_is]
        obtain ⟨F4, G4, H4, x1, x2, x3, x4, x5, x6⟩ := key
        have z39 : ∀ q, q < 80 → q ≠ 0 → q ≠ 32 → (q < 64 ∨ 68 ≤ q) → F4 39 q = 0 := fun q h1 h2 h3 h4 => by
          rw [x3, if_neg h3, if_neg h2, p3 q (by omega)]
          exact (c2 q h1).1
        have zc : ∀ q, q < 80 → q ≠ 0 → q ≠ 32 → cT F4 G4 q = (0, 0, 0, 0, 0, 0) := fun q h1 h2 h3 => by
          have e := (c2 q h1).2
          unfold cT at e ⊢
          rw [x4, x5, x6, if_neg h3, if_neg h3, if_neg h3, if_neg h2, if_neg h2, x1 43 (by decide), x1 44 (by decide), r3 43 (by decide), r3 44 (by decide)]
          exact e
        refine ⟨rfl, rfl, F4, G4, H4, ho, ⟨fun a h1 h2 h3 h4 => ?_, fun a h1 h2 h3 => ?_, fun q hq => ?_, fun q hq => ⟨?_, ?_⟩⟩, fun p hp => ?_, fun t h1 h2 => ?_⟩
        · rw [x1 a h2, r3 a h2, r2 a h2 h3 h4, r1 a h1]
        · rw [x2 a h1 h2 h3, s2 a h1 h2 h3]
        · rw [x1 31 (by decide), r3 31 (by decide), r2 31 (by decide) (by decide) (by decide)]
          exact k1 q hq
        · rw [x3, if_neg (by omega), if_neg (by omega), p3 q (by omega), (k2 q hq).1, r1 39 (by decide)]
        · have e := (k2 q hq).2
          unfold cT at e ⊢
          rw [x4, x5, x6, if_neg (by omega), if_neg (by omega), if_neg (by omega), if_neg (by omega), if_neg (by omega), x1 43 (by decide), x1 44 (by decide), r3 43 (by decide), r3 44 (by decide)]
          rw [r1 43 (by decide), r1 44 (by decide)] at e
          exact e
        · have eb : bgF p = nulR := by
            unfold bgF
            rw [if_neg (by omega), if_neg (by omega), if_neg (by omega)]
          rw [eb]
          refine ⟨?_, fun z => absurd z (by decide)⟩
          rw [x1 31 (by decide), r3 31 (by decide), r2 31 (by decide) (by decide) (by decide)]
          exact c1 p hp
        · have tb := tix_b h1 h2
          by_cases e1 : t = 480
          · subst e1
            refine ⟨?_, fun _ => ?_⟩
            · show F4 39 0 = 1
              rw [x3, if_neg (by decide), if_pos rfl]
            · have e := (c2 0 (by decide)).2
              have e0 : G2 40 0 = 0 := congrArg (fun c : Ce => c.1) e
              show G4 40 0 = eL 0 ∧ G4 41 0 = eL 2147483647 ∧ G4 42 0 = eL 1
              refine ⟨?_, ?_, ?_⟩
              · rw [x4, if_neg (by decide), e0]; rfl
              · rw [x5]; rfl
              · rw [x6]; rfl
          · by_cases e2 : t = 505
            · subst e2
              refine ⟨?_, fun _ => ?_⟩
              · show F4 39 32 = 1
                rw [x3, if_pos rfl]
              · show G4 40 32 = eL (-2147483648) ∧ G4 41 32 = eL 2147483647 ∧ G4 42 32 = eL 1
                rw [x4, x5, x6, if_pos rfl, if_pos rfl, if_pos rfl]
                exact ⟨rfl, rfl, rfl⟩
            · by_cases e3 : 530 ≤ t ∧ t < 534
              · have eb : bgF t = mkR true 0 1 (one (.inl (0, 0, 0))) := by
                  unfold bgF
                  rw [if_neg e1, if_neg e2, if_pos e3]
                have et : tix t = t - 530 + 64 := by unfold tix; rw [if_neg (by omega), if_neg (by omega), if_pos (by omega)]
                rw [eb]
                refine ⟨?_, fun _ => ?_⟩
                · rw [x3, if_neg (by omega), if_neg (by omega), o3 _ (by omega) (by omega)]
                  rfl
                · rw [zc _ tb (by omega) (by omega)]
                  exact ⟨rfl, rfl, rfl⟩
              · have eb : bgF t = nulR := by
                  unfold bgF
                  rw [if_neg e1, if_neg e2, if_neg e3]
                rw [eb]
                refine ⟨?_, fun z => absurd z (by decide)⟩
                have n0' : tix t ≠ 0 := fun z => e1 (tix_inj h1 h2 (by decide) (by decide) (z.trans (show 0 = tix 480 from rfl)))
                have n32 : tix t ≠ 32 := fun z => e2 (tix_inj h1 h2 (by decide) (by decide) (z.trans (show 32 = tix 505 from rfl)))
                refine z39 _ tb n0' n32 ?_
                unfold tix
                split
                · omega
                · split
                  · omega
                  · split <;> omega
      · have jl : j < 4 := by
          rcases Nat.lt_or_ge j 4 with q | q
          · exact q
          · exact absurd (nI_le (show 68 ≤ 64 + j by omega) (by omega)) c84
        refine gi_aload_n (q := 88) (i := 0) C (dm_Mo_nothing 54 rfl) rfl rfl rfl ?_
        refine gi_get (q := 91) C (dm_Mo_nothing 55 rfl) rfl fl_Mo_83 Ha (mo_g39 Hf) ?_
        refine gi_iload_n (q := 92) (i := 1) C (dm_Mo_nothing 56 rfl) rfl rfl rfl ?_
        refine gi_iconst (q := 93) (v := 1) C (dm_Mo_nothing 57 rfl) rfl (by decide) ?_
        refine gi_zast (q := 94) C (dm_Mo_nothing 58 rfl) rfl rfl (mo_a39 H) (inN (show 64 + j < 160 by omega) (by decide)) ?_
        refine gi_genM (H.setI (p := 21) (k := 39) (by decide) rfl rfl (by decide) rfl (by omega)) (ho.up (by omega) (by omega)) (fun y H ho => ?_)
        obtain ⟨fs, Ha, Hf⟩ := id H.1
        rw [nI_clamp (show 64 + j < 2 ^ 31 by omega)] at H
        have key : ∃ F4, mo_at M S J F4 G2 y ∧ (∀ a, a ≠ 39 → F4 a = F2 a) ∧ (∀ q, 64 ≤ q → q < 64 + (j + 1) → F4 39 q = 1) ∧ ∀ q, (q < 64 ∨ 64 + (j + 1) ≤ q) → F4 39 q = F2 39 q := by
          refine ⟨_, H, fun a h1 => by rw [upA_n h1]; exact r3 a h1, fun q h1 h2 => ?_, fun q h1 => ?_⟩
          · rw [upA_i, upd_is]
            by_cases z : q = 64 + j
            · rw [if_pos z]; rfl
            · rw [if_neg z]; exact o3 q h1 (by omega)
          · rw [upA_i, upd_is, if_neg (by omega)]
            exact p3 q (by omega)
        obtain ⟨F4, H4, x1, x2, x3⟩ := key
        refine gi_iinc (q := 97) (v := 1) C (dm_Mo_nothing 59 rfl) rfl rfl (by decide) (Nat.le_of_ble_eq_true rfl) ?_
        refine gi_goto (tgt := 81) C (dm_Mo_nothing 60 rfl) (by decide) ?_
        refine gi_close (ihj (j + 1) _ ⟨jl, F4, H4, ho, x1, x2, x3⟩ (by omega)) (List.forall_mem_cons.mpr ⟨(by first | rfl | (simp [gi_look, nI_1]; done) | (simp [gi_look, nI_1]; rw [show 64 + (j + 1) = 64 + j + 1 by omega])), List.forall_mem_cons.mpr ⟨(by first | rfl | (simp [gi_look, nI_1]; done) | (simp [gi_look, nI_1]; rw [show 64 + (j + 1) = 64 + j + 1 by omega])), fun _ h => absurd h List.not_mem_nil⟩⟩) rfl rfl rfl
    · have jl : j < 80 := by
        rcases Nat.lt_or_ge j (80) with q | q
        · exact q
        · exact absurd (nI_le (a := 80) q (by omega)) c27
      refine gi_aload_n (q := 31) (i := 0) C (dm_Mo_nothing 17 rfl) rfl rfl rfl ?_
      refine gi_get (q := 34) C (dm_Mo_nothing 18 rfl) rfl fl_Mo_83 Ha (mo_g39 Hf) ?_
      refine gi_iload_n (q := 35) (i := 1) C (dm_Mo_nothing 19 rfl) rfl rfl rfl ?_
      refine gi_iconst (q := 36) (v := 0) C (dm_Mo_nothing 20 rfl) rfl (by decide) ?_
      refine gi_zast (q := 37) C (dm_Mo_nothing 21 rfl) rfl rfl (mo_a39 H) (inN (show j < 160 by omega) (by decide)) ?_
      refine gi_genM (H.setI (p := 21) (k := 39) (by decide) rfl rfl (by decide) rfl (by omega)) (ho.up (by omega) (by omega)) (fun y H ho => ?_)
      obtain ⟨fs, Ha, Hf⟩ := id H.1
      refine gi_aload_n (q := 38) (i := 0) C (dm_Mo_nothing 22 rfl) rfl rfl rfl ?_
      refine gi_get (q := 41) C (dm_Mo_nothing 23 rfl) rfl fl_Mo_86 Ha (mo_g40 Hf) ?_
      refine gi_iload_n (q := 42) (i := 1) C (dm_Mo_nothing 24 rfl) rfl rfl rfl ?_
      refine gi_lconst (q := 43) (v := 0) C (dm_Mo_nothing 25 rfl) rfl (by decide) ?_
      refine gi_last (q := 44) C (dm_Mo_nothing 26 rfl) rfl rfl (mo_a40 H) (inN (show j < 160 by omega) (by decide)) ?_
      refine gi_genM (H.setJ (p := 22) (k := 40) (by decide) rfl rfl rfl (by omega)) (ho.up (by omega) (by omega)) (fun y H ho => ?_)
      obtain ⟨fs, Ha, Hf⟩ := id H.1
      refine gi_aload_n (q := 45) (i := 0) C (dm_Mo_nothing 27 rfl) rfl rfl rfl ?_
      refine gi_get (q := 48) C (dm_Mo_nothing 28 rfl) rfl fl_Mo_89 Ha (mo_g41 Hf) ?_
      refine gi_iload_n (q := 49) (i := 1) C (dm_Mo_nothing 29 rfl) rfl rfl rfl ?_
      refine gi_lconst (q := 50) (v := 0) C (dm_Mo_nothing 30 rfl) rfl (by decide) ?_
      refine gi_last (q := 51) C (dm_Mo_nothing 31 rfl) rfl rfl (mo_a41 H) (inN (show j < 160 by omega) (by decide)) ?_
      refine gi_genM (H.setJ (p := 23) (k := 41) (by decide) rfl rfl rfl (by omega)) (ho.up (by omega) (by omega)) (fun y H ho => ?_)
      obtain ⟨fs, Ha, Hf⟩ := id H.1
      refine gi_aload_n (q := 52) (i := 0) C (dm_Mo_nothing 32 rfl) rfl rfl rfl ?_
      refine gi_get (q := 55) C (dm_Mo_nothing 33 rfl) rfl fl_Mo_92 Ha (mo_g42 Hf) ?_
      refine gi_iload_n (q := 56) (i := 1) C (dm_Mo_nothing 34 rfl) rfl rfl rfl ?_
      refine gi_lconst (q := 57) (v := 0) C (dm_Mo_nothing 35 rfl) rfl (by decide) ?_
      refine gi_last (q := 58) C (dm_Mo_nothing 36 rfl) rfl rfl (mo_a42 H) (inN (show j < 160 by omega) (by decide)) ?_
      refine gi_genM (H.setJ (p := 24) (k := 42) (by decide) rfl rfl rfl (by omega)) (ho.up (by omega) (by omega)) (fun y H ho => ?_)
      obtain ⟨fs, Ha, Hf⟩ := id H.1
      refine gi_aload_n (q := 59) (i := 0) C (dm_Mo_nothing 37 rfl) rfl rfl rfl ?_
      refine gi_get (q := 62) C (dm_Mo_nothing 38 rfl) rfl fl_Mo_95 Ha (mo_g43 Hf) ?_
      refine gi_iload_n (q := 63) (i := 1) C (dm_Mo_nothing 39 rfl) rfl rfl rfl ?_
      refine gi_iconst (q := 64) (v := 0) C (dm_Mo_nothing 40 rfl) rfl (by decide) ?_
      refine gi_iast (q := 65) C (dm_Mo_nothing 41 rfl) rfl rfl (mo_a43 H) (inN (show j < 160 by omega) (by decide)) ?_
      refine gi_genM (H.setI (p := 25) (k := 43) (by decide) rfl rfl (by decide) rfl (by omega)) (ho.up (by omega) (by omega)) (fun y H ho => ?_)
      obtain ⟨fs, Ha, Hf⟩ := id H.1
      refine gi_aload_n (q := 66) (i := 0) C (dm_Mo_nothing 42 rfl) rfl rfl rfl ?_
      refine gi_get (q := 69) C (dm_Mo_nothing 43 rfl) rfl fl_Mo_98 Ha (mo_g44 Hf) ?_
      refine gi_iload_n (q := 70) (i := 1) C (dm_Mo_nothing 44 rfl) rfl rfl rfl ?_
      refine gi_iconst (q := 71) (v := 0) C (dm_Mo_nothing 45 rfl) rfl (by decide) ?_
      refine gi_zast (q := 72) C (dm_Mo_nothing 46 rfl) rfl rfl (mo_a44 H) (inN (show j < 160 by omega) (by decide)) ?_
      refine gi_genM (H.setI (p := 26) (k := 44) (by decide) rfl rfl (by decide) rfl (by omega)) (ho.up (by omega) (by omega)) (fun y H ho => ?_)
      obtain ⟨fs, Ha, Hf⟩ := id H.1
      rw [nI_clamp (show j < 2 ^ 31 by omega)] at H
      have key : ∃ F4 G4, mo_at M S J F4 G4 y ∧ (∀ a, a ≠ 39 → a ≠ 43 → a ≠ 44 → F4 a = F1 a) ∧ (∀ a, a ≠ 40 → a ≠ 41 → a ≠ 42 → G4 a = G a) ∧ (∀ q, q < j + 1 → F4 39 q = 0 ∧ cT F4 G4 q = (0, 0, 0, 0, 0, 0)) ∧ ∀ q, 80 ≤ q → F4 39 q = F1 39 q ∧ cT F4 G4 q = cT F1 G q := by
        refine ⟨_, _, H, fun a h1 h2 h3 => by simp [upA, h1, h2, h3]; exact r2 a h1 h2 h3, fun a h1 h2 h3 => by simp [upA, h1, h2, h3]; exact s2 a h1 h2 h3, fun q h1 => ?_, fun q h1 => ?_⟩
        · by_cases z : q = j
          · subst z
            simp [cT, upA, upd_is, updJ_is, nz0]
          · have e := c2 q (by omega)
            unfold cT at e
            simp [cT, upA, upd_is, updJ_is, z]
            simpa using e
        · have z : ¬ q = j := by omega
          have e := k2 q h1
          unfold cT at e
          simp [cT, upA, upd_is, updJ_is, z]
          simpa using e
      obtain ⟨F4, G4, H4, x1, x2, x3, x4⟩ := key
      refine gi_iinc (q := 75) (v := 1) C (dm_Mo_nothing 47 rfl) rfl rfl (by decide) (Nat.le_of_ble_eq_true rfl) ?_
      refine gi_goto (tgt := 24) C (dm_Mo_nothing 48 rfl) (by decide) ?_
      refine gi_close (ihj (j + 1) _ ⟨jl, F4, G4, H4, ho, x1, x2, x3, x4⟩ (by omega)) (List.forall_mem_cons.mpr ⟨(by first | rfl | (simp [gi_look, nI_1]; done)), List.forall_mem_cons.mpr ⟨(by first | rfl | (simp [gi_look, nI_1]; done)), fun _ h => absurd h List.not_mem_nil⟩⟩) rfl rfl rfl
  · have jl : j < 480 := by
      rcases Nat.lt_or_ge j (480) with q | q
      · exact q
      · exact absurd (nI_le (a := 480) q (by omega)) c6
    refine gi_aload_n (q := 10) (i := 0) C (dm_Mo_nothing 5 rfl) rfl rfl rfl ?_
    refine gi_get (q := 13) C (dm_Mo_nothing 6 rfl) rfl fl_Mo_57 Ha (mo_g31 Hf) ?_
    refine gi_iload_n (q := 14) (i := 1) C (dm_Mo_nothing 7 rfl) rfl rfl rfl ?_
    refine gi_iconst (q := 15) (v := 0) C (dm_Mo_nothing 8 rfl) rfl (by decide) ?_
    refine gi_zast (q := 16) C (dm_Mo_nothing 9 rfl) rfl rfl (mo_a31 H) (inN (show j < 960 by omega) (by decide)) ?_
    refine gi_genM (H.setI (p := 13) (k := 31) (by decide) rfl rfl (by decide) rfl (by omega)) (ho.up (by omega) (by omega)) (fun y H ho => ?_)
    obtain ⟨fs, Ha, Hf⟩ := id H.1
    rw [nI_clamp (show j < 2 ^ 31 by omega)] at H
    have key : ∃ F4, mo_at M S J F4 G y ∧ (∀ a, a ≠ 31 → F4 a = F a) ∧ (∀ q, q < j + 1 → F4 31 q = 0) ∧ ∀ q, 480 ≤ q → F4 31 q = F 31 q := by
      refine ⟨_, H, fun a h1 => by rw [upA_n h1]; exact r1 a h1, fun q h1 => ?_, fun q h1 => ?_⟩
      · rw [upA_i, upd_is]
        by_cases z : q = j
        · rw [if_pos z]; rfl
        · rw [if_neg z]; exact c1 q (by omega)
      · rw [upA_i, upd_is, if_neg (by omega)]
        exact k1 q h1
    obtain ⟨F4, H4, x1, x2, x3⟩ := key
    refine gi_iinc (q := 19) (v := 1) C (dm_Mo_nothing 10 rfl) rfl rfl (by decide) (Nat.le_of_ble_eq_true rfl) ?_
    refine gi_goto (tgt := 2) C (dm_Mo_nothing 11 rfl) (by decide) ?_
    refine gi_close (ihj (j + 1) _ ⟨jl, F4, H4, ho, x1, x2, x3⟩ (by omega)) (List.forall_mem_cons.mpr ⟨(by first | rfl | (simp [gi_look, nI_1]; done)), List.forall_mem_cons.mpr ⟨(by first | rfl | (simp [gi_look, nI_1]; done)), fun _ h => absurd h List.not_mem_nil⟩⟩) rfl rfl rfl
set_option maxHeartbeats 4000000 in
set_option maxRecDepth 100000 in
theorem c_Mo_rootsCome (B : Built k P sh (siN k P sh) (wdF k P)) (hmd : md ≤ 2) (hpg : pgR k P sh S F) (hD : mdR k P sh md Ff Z S F G) (h46 : S 46 = r) (H : mo_at M S J F G h) : gi_T l V y_Mo_rootsCome b_Mo_rootsCome 2 none 5 116 0 0 [.ref M] n h (fun v n' h' => v = none ∧ n' = n ∧ ∃ S' J' F' G', mo_at M S' J' F' G' h' ∧ outM M h h' ∧ frY S S' J J' F F' G G' ∧ mdR k P sh md Ff (rtS P md (grF (wdF k P)) r Z k) S' F' G') := by
  refine gi_enter (by decide) (Nat.le_of_ble_eq_true rfl) ?_
  intro _ _ _ _ _ _ _ _ C hr hnm
  obtain ⟨fs, Ha, Hf⟩ := id H.1
  have ho : outM M h h := outM.rf
  have w8 := B.wf.k8
  refine gi_iconst (q := 1) (v := 0) C (dm_Mo_rootsCome 0 rfl) rfl (by decide) ?_
  refine gi_istore_n (q := 2) (i := 1) C (dm_Mo_rootsCome 1 rfl) rfl rfl (Nat.le_of_ble_eq_true rfl) ?_
  refine gi_while (σ := Nat) (fun j => k - j) (fun j => [(1, .int (nI j)), (0, .ref M)]) (fun _ => n) (fun _ => 0) (fun _ => 0) (fun j y' => j ≤ k ∧ ∃ S1 J1 F1 G1, mo_at M S1 J1 F1 G1 y' ∧ outM M h y' ∧ frY S S1 J J1 F F1 G G1 ∧ mdR k P sh md Ff (rtS P md (grF (wdF k P)) r Z j) S1 F1 G1) 0 ⟨Nat.zero_le _, S, J, F, G, H, ho, frY.rf, hD⟩ ?_ (List.forall_mem_cons.mpr ⟨(by first | rfl | (simp [gi_look]; done)), List.forall_mem_cons.mpr ⟨(by first | rfl | (simp [gi_look]; done)), fun _ h => absurd h List.not_mem_nil⟩⟩) rfl rfl rfl
  rintro j y' ⟨hj, S1, J1, F1, G1, H1, o1, r1, d1⟩ ihj
  try dsimp only at *
  have H := H1
  obtain ⟨fs, Ha, Hf⟩ := id H.1
  have ho := o1
  have hpg1 := hpg.yy r1
  refine gi_iload_n (q := 3) (i := 1) C (dm_Mo_rootsCome 2 rfl) rfl rfl rfl ?_
  refine gi_aload_n (q := 4) (i := 0) C (dm_Mo_rootsCome 3 rfl) rfl rfl rfl ?_
  refine gi_get (q := 7) C (dm_Mo_rootsCome 4 rfl) rfl fl_Mo_176 Ha (mo_g0 Hf) ?_
  rw [hpg1.2.1]
  refine gi_icmp_ge (q := 10) (tgt := 33) C (dm_Mo_rootsCome 5 rfl) rfl (by decide) (fun c7 => ?_) (fun c7 => ?_)
  · have jl : j = k := by
      rcases Nat.lt_or_ge j (k) with q | q
      · exact absurd c7 (Int32.not_le.mpr (nI_lt (b := k) q (by omega)))
      · omega
    subst jl
    refine gi_vret C hr (dm_Mo_rootsCome 19 rfl) ?_
    exact ⟨rfl, rfl, S1, J1, F1, G1, H1, o1, r1, d1⟩
  · have jl : j < k := by
      rcases Nat.lt_or_ge j (k) with q | q
      · exact q
      · exact absurd (nI_le (a := k) q (by omega)) c7
    refine gi_aload_n (q := 11) (i := 0) C (dm_Mo_rootsCome 6 rfl) rfl rfl rfl ?_
    refine gi_get (q := 14) C (dm_Mo_rootsCome 7 rfl) rfl fl_Mo_498 Ha (mo_g46 Hf) ?_
    rw [show S1 46 = r from (r1.1 46 (by decide) (by decide) (by decide) (by decide) (by decide) (by decide) (by decide)).trans h46]
    refine gi_iload_n (q := 15) (i := 1) C (dm_Mo_rootsCome 8 rfl) rfl rfl rfl ?_
    refine gi_ishr (q := 16) C (dm_Mo_rootsCome 9 rfl) rfl ?_
    refine gi_iconst (q := 17) (v := 1) C (dm_Mo_rootsCome 10 rfl) rfl (by decide) ?_
    refine gi_iand (q := 18) C (dm_Mo_rootsCome 11 rfl) rfl ?_
    refine gi_iconst (q := 19) (v := 1) C (dm_Mo_rootsCome 12 rfl) rfl (by decide) ?_
    refine gi_icmp_ne (q := 22) (tgt := 27) C (dm_Mo_rootsCome 13 rfl) rfl (by decide) (fun c19 => ?_) (fun c19 => ?_)
    · have e9 : rtS P md (grF (wdF k P)) r Z (j + 1) = rtS P md (grF (wdF k P)) r Z j := if_neg (fun z9 => c19 ((sh_bit r (by omega)).mpr z9))
      refine gi_iinc (q := 30) (v := 1) C (dm_Mo_rootsCome 17 rfl) rfl rfl (by decide) (Nat.le_of_ble_eq_true rfl) ?_
      refine gi_goto (tgt := 2) C (dm_Mo_rootsCome 18 rfl) (by decide) ?_
      refine gi_close (ihj (j + 1) _ ⟨jl, S1, J1, F1, G1, H1, o1, r1, by rw [e9]; exact d1⟩ (by omega)) (List.forall_mem_cons.mpr ⟨(by first | rfl | (simp [gi_look, nI_1]; done)), List.forall_mem_cons.mpr ⟨(by first | rfl | (simp [gi_look, nI_1]; done)), fun _ h => absurd h List.not_mem_nil⟩⟩) rfl rfl rfl
    · refine gi_aload_n (q := 23) (i := 0) C (dm_Mo_rootsCome 14 rfl) rfl rfl rfl ?_
      refine gi_iload_n (q := 24) (i := 1) C (dm_Mo_rootsCome 15 rfl) rfl rfl rfl ?_
      refine gi_callv 1 (q := 27) C (dm_Mo_rootsCome 16 rfl) rfl my_Mo_root lk_Mo_501 im_Mo_root rfl (c_Mo_root B hmd jl hpg1 d1 H) Ha rfl rfl ⟨(Nat.le_of_ble_eq_true rfl), (Nat.le_of_ble_eq_true rfl)⟩ (Nat.le_of_ble_eq_true rfl) ⟨(Nat.le_of_ble_eq_true rfl), (Nat.le_of_ble_eq_true rfl)⟩ (fun r24 n24 h24 e24 => ?_)
      obtain ⟨rfl, rfl, κ1, S2, J2, F2, G2, H2, o2, ⟨r2, -⟩, d2⟩ := e24
      have e9 : rtS P md (grF (wdF k P)) r Z (j + 1) = comeM md (grF (wdF k P)) (rtS P md (grF (wdF k P)) r Z j) (60 * j + 0, pN P 2 j, rtF P j) := if_pos ((sh_bit r (by omega)).mp c19)
      refine gi_iinc (q := 30) (v := 1) C (dm_Mo_rootsCome 17 rfl) rfl rfl (by decide) (Nat.le_of_ble_eq_true rfl) ?_
      refine gi_goto (tgt := 2) C (dm_Mo_rootsCome 18 rfl) (by decide) ?_
      refine gi_close (ihj (j + 1) _ ⟨jl, S2, J2, F2, G2, H2, o1.tr o2, r1.tr r2, by rw [e9]; exact d2⟩ (by omega)) (List.forall_mem_cons.mpr ⟨(by first | rfl | (simp [gi_look, nI_1]; done)), List.forall_mem_cons.mpr ⟨(by first | rfl | (simp [gi_look, nI_1]; done)), fun _ h => absurd h List.not_mem_nil⟩⟩) rfl rfl rfl
end RCI
