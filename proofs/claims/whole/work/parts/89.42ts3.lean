-- needs: 89.41
section TS3
variable {k : Nat} {P : Pm} {sh : Nat → Option Sh} {sn : Nat → Nat} {wd : Nat → Bool} {Fc : Fa} {z z' : Mc} {x y : Sh} {c : Nat}
theorem stp_A (B : Built k P sh sn wd) (T : TS k P sh z) (h : pN P 6 (curP z) ≤ 6) : mvK (pN P 6 (curP z)) (P 7 (curP z)) z.cur.n ∧ TS k P sh (movZ (pN P 6 (curP z)) (P 7 (curP z)) (gotZ z (z.cur.i + 1))) := by
  obtain ⟨x, y, X, hs, x8, hn, l6, o35, od, ey, y8, nx, jp, hp⟩ := T.at_ B
  have od1 : (pN P 6 (curP z) = 1 ∨ pN P 6 (curP z) = 2) → P 7 (curP z) = nI (P 7 (curP z)).toNatClampNeg ∧ (P 7 (curP z)).toNatClampNeg < pN P 2 z.cur.m := fun q => by
    have a1 := od.1 q
    have a2 := hp a1.1
    refine ⟨a2.1, ?_⟩
    show pN P 7 (curP z) < _
    have a3 : (P 7 (curP z)).toInt < pN P 2 z.cur.m := a1.2
    omega
  obtain ⟨g1, g2, g3, g4⟩ := mvZ_ok (z := gotZ z (z.cur.i + 1)) (m := z.cur.m) (y := y) X.got (got_m _ _) h od1 l6 x8 (y8 (by omega)) ey
  rw [got_n] at g1
  exact ⟨g1, g2.nx (g3.trans (got_m _ _)) (g4.trans (got_i _ _)) (nx (by omega) (by omega))⟩
theorem stp_B (B : Built k P sh sn wd) (T : TS k P sh z) (h7 : 7 ≤ pN P 6 (curP z)) (h18 : pN P 6 (curP z) ≤ 18) : (1 ≤ z.cur.n ∧ (pN P 6 (curP z) ≠ 18 → 2 ≤ z.cur.n)) ∧ ((rckZ (pN P 6 (curP z)) (gotZ z (z.cur.i + 1))).2 = 0 → TS k P sh (rckZ (pN P 6 (curP z)) (gotZ z (z.cur.i + 1))).1) := by
  obtain ⟨x, y, X, hs, x8, hn, l6, o35, od, ey, y8, nx, jp, hp⟩ := T.at_ B
  have X1 := X.got (t := z.cur.i + 1)
  obtain ⟨op, eo⟩ : ∃ op, op = pN P 6 (curP z) := ⟨_, rfl⟩
  rw [← eo] at h7 h18 ey nx ⊢
  by_cases q : op = 18
  · subst q
    obtain ⟨u, e1, e2⟩ := Option.map_eq_some_iff.mp (show (tkS false x).map (ptS false) = some y from ey)
    subst e2
    obtain ⟨g1, g2, -⟩ := X1.pop1 e1
    rw [got_n] at g2
    refine ⟨⟨g2, fun q => absurd rfl q⟩, fun _ => ?_⟩
    exact (g1.psh (b := false) (fun q => by cases q)).nx ((psh_m _ _).trans ((pop_m _).trans (got_m _ _))) ((psh_i _ _).trans ((pop_i _).trans (got_i _ _))) (nx (by decide) (by decide))
  · rw [sh_ar h7 (by omega)] at ey
    obtain ⟨u, e1, e2⟩ := Option.map_eq_some_iff.mp ey
    subst e2
    obtain ⟨g1, g2, -⟩ := X1.pop2 e1
    rw [got_n] at g2
    refine ⟨⟨by omega, fun _ => g2⟩, fun he => ?_⟩
    unfold rckZ at he ⊢
    rw [if_neg q] at he ⊢
    by_cases q2 : (op = 10 ∨ op = 11) ∧ topV (gotZ z (z.cur.i + 1)) = 0
    · rw [if_pos q2] at he
      exact absurd (show (2 : Int32) = 0 from he) (by decide)
    · rw [if_neg q2]
      exact (g1.psh (b := false) (fun q => by cases q)).nx ((psh_m _ _).trans ((pop_m _).trans ((pop_m _).trans (got_m _ _)))) ((psh_i _ _).trans ((pop_i _).trans ((pop_i _).trans (got_i _ _)))) (nx (by omega) (by omega))
theorem stp_C (B : Built k P sh sn wd) (T : TS k P sh z) (h19 : 19 ≤ pN P 6 (curP z)) (h27 : pN P 6 (curP z) ≤ 27) : (P 7 (curP z) = nI (pN P 7 (curP z)) ∧ (pN P 6 (curP z) ≠ 19 → 1 ≤ z.cur.n) ∧ (20 ≤ pN P 6 (curP z) → pN P 6 (curP z) ≤ 25 → 2 ≤ z.cur.n)) ∧ TS k P sh (jmpZ (pN P 6 (curP z)) (pN P 7 (curP z)) (gotZ z (z.cur.i + 1))) := by
  obtain ⟨x, y, X, hs, x8, hn, l6, o35, od, ey, y8, nx, jp, hp⟩ := T.at_ B
  have X1 := X.got (t := z.cur.i + 1)
  have J := jp h19 h27
  have H7 := hp (od.2.1 ⟨h19, h27⟩).1
  obtain ⟨op, eo⟩ : ∃ op, op = pN P 6 (curP z) := ⟨_, rfl⟩
  obtain ⟨a, ea⟩ : ∃ a, a = pN P 7 (curP z) := ⟨_, rfl⟩
  rw [← eo] at h19 h27 ey nx ⊢
  rw [← ea] at J H7 ⊢
  refine ⟨⟨H7.1, ?_⟩, ?_⟩
  · by_cases q : op = 19
    · exact ⟨fun q2 => absurd q q2, fun q2 => by omega⟩
    · by_cases q2 : op ≤ 25
      · rw [sh_cp (by omega) q2] at ey
        have := (X.pop2 ey).2.1
        exact ⟨fun _ => by omega, fun _ _ => this⟩
      · rw [sh_nl (by omega) h27] at ey
        have := (X.pop1 ey).2.1
        exact ⟨fun _ => this, fun _ q3 => absurd q3 q2⟩
  · unfold jmpZ
    by_cases q : op = 19
    · rw [if_pos q]
      subst q
      have e := Option.some.inj (show some x = some y from ey)
      subst e
      exact X1.got.jp ((got_m _ _).trans (got_m _ _)) (got_i _ _) J
    · rw [if_neg q]
      have N := nx q (by omega)
      by_cases q1 : op = 26
      · rw [if_pos q1]
        rw [sh_nl (by omega) h27] at ey
        obtain ⟨g1, -, -⟩ := X1.pop1 ey
        split
        · exact g1.got.jp ((got_m _ _).trans ((pop_m _).trans (got_m _ _))) (got_i _ _) J
        · exact g1.nx ((pop_m _).trans (got_m _ _)) ((pop_i _).trans (got_i _ _)) N
      · rw [if_neg q1]
        by_cases q2 : op = 27
        · rw [if_pos q2]
          rw [sh_nl (by omega) h27] at ey
          obtain ⟨g1, -, -⟩ := X1.pop1 ey
          split
          · exact g1.nx ((pop_m _).trans (got_m _ _)) ((pop_i _).trans (got_i _ _)) N
          · exact g1.got.jp ((got_m _ _).trans ((pop_m _).trans (got_m _ _))) (got_i _ _) J
        · rw [if_neg q2]
          rw [sh_cp (by omega) (by omega)] at ey
          obtain ⟨g1, -, -⟩ := X1.pop2 ey
          split
          · exact g1.got.jp ((got_m _ _).trans ((pop_m _).trans ((pop_m _).trans (got_m _ _)))) (got_i _ _) J
          · exact g1.nx ((pop_m _).trans ((pop_m _).trans (got_m _ _))) ((pop_i _).trans ((pop_i _).trans (got_i _ _))) N
theorem stp_28 (B : Built k P sh sn wd) (T : TS k P sh z) (h : pN P 6 (curP z) = 28) : (1 ≤ z.cur.n ∧ sn (curP z) < 25) ∧ ((makZ Fc (sn (curP z)) (gotZ z (z.cur.i + 1))).2 = 0 → TS k P sh (makZ Fc (sn (curP z)) (gotZ z (z.cur.i + 1))).1) := by
  obtain ⟨x, y, X, hs, x8, hn, l6, o35, od, ey, y8, nx, jp, hp⟩ := T.at_ B
  have X1 := X.got (t := z.cur.i + 1)
  have s25 := (B.site _ _ hs h).2
  have N := nx (by omega) (by omega)
  rw [h] at ey
  obtain ⟨u, e1, e2⟩ := Option.map_eq_some_iff.mp (show (tkS false x).map (ptS true) = some y from ey)
  subst e2
  obtain ⟨g1, g2, -⟩ := X1.pop1 e1
  rw [got_n] at g2
  refine ⟨⟨g2, s25⟩, fun he => ?_⟩
  unfold makZ at he ⊢
  split at he
  · exact absurd (show (2 : Int32) = 0 from he) (by decide)
  · rename_i q1
    rw [if_neg q1]
    split at he
    · exact absurd (show (2 : Int32) = 0 from he) (by decide)
    · rename_i q2
      rw [if_neg q2]
      have G := (g1.hp (H := hAdd (gotZ z (z.cur.i + 1)).hp (topV (gotZ z (z.cur.i + 1))).toNatClampNeg (sn (curP z))) (hAdd_ok g1.2.1 (by show z.hp.c < 300; have : ¬ (300 ≤ z.hp.c ∨ _) := q2; omega) (by show z.hp.u + _ ≤ 2000; have : ¬ (300 ≤ z.hp.c ∨ 2000 < z.hp.u + _) := q2; omega) s25) (by show z.hp.c ≤ z.hp.c + 1; omega)).ast (b := (!rwT Fc (480 + sn (curP z)) (topV (gotZ z (z.cur.i + 1))) || (decide (0 < topV (gotZ z (z.cur.i + 1))) && !rwT Fc (505 + sn (curP z)) 0)))
      exact (G.psh (b := true) (v := nI (z.hp.c + 1)) (fun _ => ⟨z.hp.c + 1, Nat.le_refl _, rfl⟩)).nx ((psh_m _ _).trans ((pop_m _).trans (got_m _ _))) ((psh_i _ _).trans ((pop_i _).trans (got_i _ _))) N
theorem stp_29 (B : Built k P sh sn wd) (T : TS k P sh z) (h : pN P 6 (curP z) = 29) : (1 ≤ z.cur.n ∧ ∃ r, r ≤ z.hp.c ∧ topV z = nI r) ∧ ((useZ Fc 29 (gotZ z (z.cur.i + 1))).2 = 0 → TS k P sh (useZ Fc 29 (gotZ z (z.cur.i + 1))).1) := by
  obtain ⟨x, y, X, hs, x8, hn, l6, o35, od, ey, y8, nx, jp, hp⟩ := T.at_ B
  have X1 := X.got (t := z.cur.i + 1)
  have N := nx (by omega) (by omega)
  rw [h] at ey
  obtain ⟨u, e1, e2⟩ := Option.map_eq_some_iff.mp (show (tkS true x).map (ptS false) = some y from ey)
  subst e2
  obtain ⟨g1, -, -⟩ := X1.pop1 e1
  obtain ⟨-, g2, g3⟩ := X.pop1 e1
  refine ⟨⟨g2, g3 rfl⟩, fun he => ?_⟩
  unfold useZ at he ⊢
  rw [if_pos rfl] at he ⊢
  split at he
  · exact absurd (show (2 : Int32) = 0 from he) (by decide)
  · rename_i q1
    rw [if_neg q1]
    exact (g1.psh (b := false) (fun q => by cases q)).nx ((psh_m _ _).trans ((pop_m _).trans (got_m _ _))) ((psh_i _ _).trans ((pop_i _).trans (got_i _ _))) N
theorem stp_30 (B : Built k P sh sn wd) (T : TS k P sh z) (h : pN P 6 (curP z) = 30) : (2 ≤ z.cur.n ∧ ∃ r, r ≤ z.hp.c ∧ topV (popZ z) = nI r) ∧ ((useZ Fc 30 (gotZ z (z.cur.i + 1))).2 = 0 → TS k P sh (useZ Fc 30 (gotZ z (z.cur.i + 1))).1) := by
  obtain ⟨x, y, X, hs, x8, hn, l6, o35, od, ey, y8, nx, jp, hp⟩ := T.at_ B
  have X1 := X.got (t := z.cur.i + 1)
  have N := nx (by omega) (by omega)
  rw [h] at ey
  obtain ⟨u, e1, e2⟩ := Option.map_eq_some_iff.mp (show ((tkS false x).bind (tkS true)).map (ptS false) = some y from ey)
  subst e2
  obtain ⟨g1, -, -⟩ := X1.pop2 e1
  obtain ⟨-, g2, g3⟩ := X.pop2 e1
  refine ⟨⟨g2, g3 rfl⟩, fun he => ?_⟩
  unfold useZ at he ⊢
  rw [if_neg (by decide), if_pos rfl] at he ⊢
  split at he
  · exact absurd (show (2 : Int32) = 0 from he) (by decide)
  · rename_i q1
    rw [if_neg q1]
    split at he
    · rename_i q2
      rw [if_pos q2]
      exact (g1.psh (b := false) (fun q => by cases q)).nx ((psh_m _ _).trans ((pop_m _).trans ((pop_m _).trans (got_m _ _)))) ((psh_i _ _).trans ((pop_i _).trans ((pop_i _).trans (got_i _ _)))) N
    · exact absurd (show (2 : Int32) = 0 from he) (by decide)
theorem stp_31 (B : Built k P sh sn wd) (T : TS k P sh z) (h : pN P 6 (curP z) = 31) : (3 ≤ z.cur.n ∧ ∃ r, r ≤ z.hp.c ∧ topV (popZ (popZ z)) = nI r) ∧ ((useZ Fc 31 (gotZ z (z.cur.i + 1))).2 = 0 → TS k P sh (useZ Fc 31 (gotZ z (z.cur.i + 1))).1) := by
  obtain ⟨x, y, X, hs, x8, hn, l6, o35, od, ey, y8, nx, jp, hp⟩ := T.at_ B
  have X1 := X.got (t := z.cur.i + 1)
  have N := nx (by omega) (by omega)
  rw [h] at ey
  obtain ⟨u, e1, e2⟩ := Option.bind_eq_some_iff.mp (show ((tkS false x).bind (tkS false)).bind (tkS true) = some y from ey)
  obtain ⟨g1, -, -⟩ := X1.pop2 e1
  obtain ⟨f1, -, -⟩ := g1.pop1 e2
  obtain ⟨g1', g2, -⟩ := X.pop2 e1
  obtain ⟨-, f2, f3⟩ := g1'.pop1 e2
  rw [n_pop, n_pop] at f2
  refine ⟨⟨by omega, f3 rfl⟩, fun he => ?_⟩
  unfold useZ at he ⊢
  rw [if_neg (by decide), if_neg (by decide)] at he ⊢
  split at he
  · exact absurd (show (2 : Int32) = 0 from he) (by decide)
  · rename_i q1
    rw [if_neg q1]
    split at he
    · rename_i q2
      rw [if_pos q2]
      exact ((f1.hp (H := hSet (gotZ z (z.cur.i + 1)).hp _ _ _) f1.2.1 (Nat.le_refl _)).ast).nx ((pop_m _).trans ((pop_m _).trans ((pop_m _).trans (got_m _ _)))) ((pop_i _).trans ((pop_i _).trans ((pop_i _).trans (got_i _ _)))) N
    · exact absurd (show (2 : Int32) = 0 from he) (by decide)
theorem ent_ok {a : Nat} {u : Sh} (B : Built k P sh sn wd) (X : TSx k P sh x z) (e : tkN P a (pN P 1 a) x = some u) (ak : a < k) (N : z.cur.i < pN P 5 z.cur.m ∧ sh (curP z) = some (rsS (pN P 4 a) u)) (q1 : ¬ 16 ≤ z.top + 1) : TS k P sh (mkC (z.top + 1) (upO (upO z.fr z.top (mkF z.cur.m z.cur.i (z.cur.n - pN P 1 a) z.cur.s)) (z.top + 1) (entF2 P a z.cur)) z.fd z.hp z.as z.wr (max z.dp (z.top + 2)) z.gv) := by
  obtain ⟨v1, v2, v3, v4, v5⟩ := vT_tkN (pN P 1 a) X.2.2.2.2.1 e X.2.2.2.1
  have wa := wf_ar B.wf ak
  have F0 := B.first a ak
  obtain ⟨fr', ef⟩ : ∃ f, f = upO (upO z.fr z.top (mkF z.cur.m z.cur.i (z.cur.n - pN P 1 a) z.cur.s)) (z.top + 1) (entF2 P a z.cur) := ⟨_, rfl⟩
  rw [← ef]
  have f1 : fr' (z.top + 1) = entF2 P a z.cur := by rw [ef, upO_self]
  have f0 : fr' z.top = mkF z.cur.m z.cur.i (z.cur.n - pN P 1 a) z.cur.s := by rw [ef, upO_ne (by omega), upO_self]
  have fl : ∀ t, t < z.top → fr' t = z.fr t := fun t ht => by rw [ef, upO_ne (by omega), upO_ne (by omega)]
  refine ⟨show z.top + 1 < 16 by omega, X.2.1, ?_, fun t ht => ?_⟩
  · show (fr' (z.top + 1)).m < k ∧ (fr' (z.top + 1)).i < pN P 5 (fr' (z.top + 1)).m ∧ ∃ x, sh (60 * (fr' (z.top + 1)).m + (fr' (z.top + 1)).i) = some x ∧ vT P (fr' (z.top + 1)).m x (fr' (z.top + 1)).n (fr' (z.top + 1)).s z.hp.c
    rw [f1]
    refine ⟨ak, F0.1, (0, 0), F0.2, by show pN P 2 a = pN P 2 a + 0; omega, fun i hi hk => ?_⟩
    show ∃ r, r ≤ z.hp.c ∧ (if i < pN P 1 a then z.cur.s (z.cur.n - pN P 1 a + i) else 0) = nI r
    by_cases q : i < pN P 1 a
    · rw [if_pos q]
      have hi : i < pN P 2 a := hi
      refine v5 i q ?_
      have hk : kdF P a (0, 0) i = true := hk
      rw [kdF_lo hi] at hk
      exact hk
    · rw [if_neg q]
      exact ⟨0, Nat.zero_le _, rfl⟩
  · have ht : t < z.top + 1 := ht
    show (fr' t).m < k ∧ (fr' t).i < pN P 5 (fr' t).m ∧ ∃ x, sh (60 * (fr' t).m + (fr' t).i) = some (rsS (pN P 4 (fr' (t + 1)).m) x) ∧ x.2 < 2 ^ x.1 ∧ vT P (fr' t).m x (fr' t).n (fr' t).s z.hp.c
    by_cases q : t = z.top
    · rw [q, f0, f1]
      exact ⟨X.2.2.1, N.1, u, N.2, v4, v1⟩
    · rw [fl t (by omega)]
      have G := X.2.2.2.2.2 t (by omega)
      by_cases q2 : t + 1 = z.top
      · rw [q2] at G
        rw [q2, f0]
        exact G
      · rw [fl (t + 1) (by omega)]
        exact G
theorem stp_32 (B : Built k P sh sn wd) (T : TS k P sh z) (h : pN P 6 (curP z) = 32) : (P 7 (curP z) = nI (pN P 7 (curP z)) ∧ pN P 7 (curP z) < k ∧ pN P 1 (pN P 7 (curP z)) ≤ z.cur.n) ∧ ((entZ P (pN P 7 (curP z)) (gotZ z (z.cur.i + 1))).2 = 0 → TS k P sh (entZ P (pN P 7 (curP z)) (gotZ z (z.cur.i + 1))).1) := by
  obtain ⟨x, y, X, hs, x8, hn, l6, o35, od, ey, y8, nx, jp, hp⟩ := T.at_ B
  have X1 := X.got (t := z.cur.i + 1)
  have a1 := od.2.2.1 h
  have H7 := hp a1.1
  have N := nx (by omega) (by omega)
  have ak : pN P 7 (curP z) < k := by
    have : (P 7 (curP z)).toInt < k := a1.2
    omega
  obtain ⟨a, ea⟩ : ∃ a, a = pN P 7 (curP z) := ⟨_, rfl⟩
  rw [← ea] at H7 ak ey ⊢
  rw [h] at ey
  obtain ⟨u, e1, e2⟩ := Option.map_eq_some_iff.mp (show (tkN P a (pN P 1 a) x).map (fun y => if pN P 4 a = 0 then y else ptS (decide (pN P 4 a = 2)) y) = some y from ey)
  obtain ⟨v1, v2, v3, v4, v5⟩ := vT_tkN (pN P 1 a) X.2.2.2.2.1 e1 X.2.2.2.1
  have wa := wf_ar B.wf ak
  refine ⟨⟨H7.1, ak, by omega⟩, fun he => ?_⟩
  unfold entZ at he ⊢
  split at he
  · exact absurd (show (2 : Int32) = 0 from he) (by decide)
  · rename_i q1
    rw [if_neg q1]
    have q1 : ¬ 16 ≤ z.top + 1 := q1
    refine ent_ok B X1 e1 ak ?_ q1
    rw [show curP (gotZ z (z.cur.i + 1)) = curP z + 1 from by
      unfold curP
      rw [got_m, got_i]
      omega, got_i, got_m, N.2, ← e2]
    exact ⟨N.1, rfl⟩
theorem stp_33 (B : Built k P sh sn wd) (T : TS k P sh z) (h : pN P 6 (curP z) = 33) : ((pN P 4 z.cur.m ≠ 0 → 1 ≤ z.cur.n) ∧ (pN P 4 z.cur.m = 2 → ∃ r, r ≤ z.hp.c ∧ topV z = nI r) ∧ (pN P 4 z.cur.m ≠ 0 → 1 ≤ z.top → (z.fr (z.top - 1)).n < 14)) ∧ ((leaZ P z).2 = 0 → TS k P sh (leaZ P z).1) := by
  obtain ⟨x, y, X, hs, x8, hn, l6, o35, od, ey, y8, nx, jp, hp⟩ := T.at_ B
  have wm := wf_ar B.wf X.2.2.1
  rw [h] at ey
  have ey : (if pN P 4 z.cur.m = 0 then some x else tkS (decide (pN P 4 z.cur.m = 2)) x) = some y := ey
  have t16 := X.1
  have Bl : 1 ≤ z.top → (z.fr (z.top - 1)).m < k ∧ (z.fr (z.top - 1)).i < pN P 5 (z.fr (z.top - 1)).m ∧ ∃ u, sh (60 * (z.fr (z.top - 1)).m + (z.fr (z.top - 1)).i) = some (rsS (pN P 4 z.cur.m) u) ∧ u.2 < 2 ^ u.1 ∧ vT P (z.fr (z.top - 1)).m u (z.fr (z.top - 1)).n (z.fr (z.top - 1)).s z.hp.c := fun q => by
    have := X.2.2.2.2.2 (z.top - 1) (by omega)
    rw [show z.top - 1 + 1 = z.top by omega] at this
    exact this
  have Be : ∀ fr : Nat → Fr, (∀ t, t < z.top → fr t = z.fr t) → Bel k P sh z.hp.c (z.top - 1) fr := fun fr hf t ht => by
    rw [hf t (by omega), hf (t + 1) (by omega)]
    exact X.2.2.2.2.2 t (by omega)
  by_cases r0 : pN P 4 z.cur.m = 0
  · refine ⟨⟨fun q => absurd r0 q, fun q => absurd q (by omega), fun q => absurd r0 q⟩, fun he => ?_⟩
    unfold leaZ at he ⊢
    rw [if_pos r0] at he ⊢
    split at he
    · exact absurd (show (1 : Int32) = 0 from he) (by decide)
    · rename_i q1
      rw [if_neg q1]
      obtain ⟨b1, b2, u, b3, b4, b5⟩ := Bl (by omega)
      unfold rsS at b3
      rw [if_pos r0] at b3
      exact ⟨show z.top - 1 < 16 by omega, X.2.1, ⟨b1, b2, u, b3, b5⟩, Be z.fr (fun _ _ => rfl)⟩
  · rw [if_neg r0] at ey
    obtain ⟨g1, g2, g3⟩ := X.pop1 ey
    refine ⟨⟨fun _ => g2, fun q => g3 (decide_eq_true q), fun _ q => ?_⟩, fun he => ?_⟩
    · obtain ⟨b1, b2, u, b3, b4, b5⟩ := Bl q
      unfold rsS at b3
      rw [if_neg r0] at b3
      obtain ⟨_, _, _, _, _, g, _⟩ := B.at_ _ _ b3
      have g : u.1 + 1 ≤ 8 := g
      have wb := wf_ar B.wf b1
      have := b5.1
      omega
    · unfold leaZ at he ⊢
      rw [if_neg r0] at he ⊢
      split at he
      · exact absurd (show (1 : Int32) = 0 from he) (by decide)
      · rename_i q1
        rw [if_neg q1]
        have q1 : z.top ≠ 0 := q1
        obtain ⟨b1, b2, u, b3, b4, b5⟩ := Bl (by omega)
        unfold rsS at b3
        rw [if_neg r0] at b3
        have fe : (dwnZ (popZ z)).cur = z.fr (z.top - 1) := by
          show upO z.fr z.top _ (z.top - 1) = _
          rw [upO_ne (by omega)]
        have D : TSx k P sh u (dwnZ (popZ z)) := by
          refine ⟨show z.top - 1 < 16 by omega, X.2.1, ?_, b4, ?_, Be _ (fun t ht => ?_)⟩
          · rw [fe]; exact b1
          · rw [fe]; exact b5
          · show upO z.fr z.top _ t = _
            rw [upO_ne (by omega)]
        refine (D.psh (v := topV z) (b := decide (pN P 4 z.cur.m = 2)) (fun q => g3 q)).to ?_ ?_
        · rw [psh_i, psh_m, fe]; exact b2
        · unfold curP
          rw [psh_i, psh_m, fe]
          exact b3
theorem stp_D (B : Built k P sh sn wd) (T : TS k P sh z) (h : pN P 6 (curP z) = 34 ∨ pN P 6 (curP z) = 35) : (P 7 (curP z) = nI (pN P 7 (curP z)) ∧ pN P 7 (curP z) < 4 ∧ (pN P 6 (curP z) = 34 → z.cur.n < 14) ∧ (pN P 6 (curP z) = 35 → 1 ≤ z.cur.n)) ∧ TS k P sh (fldZ Fc (pN P 6 (curP z)) (pN P 7 (curP z)) (gotZ z (z.cur.i + 1))) := by
  obtain ⟨x, y, X, hs, x8, hn, l6, o35, od, ey, y8, nx, jp, hp⟩ := T.at_ B
  have X1 := X.got (t := z.cur.i + 1)
  have a1 := od.2.2.2 h
  have H7 := hp a1.1
  have N := nx (by omega) (by omega)
  have Y8 := y8 (by omega)
  have a4 : pN P 7 (curP z) < 4 := by
    have : (P 7 (curP z)).toInt < 4 := a1.2
    omega
  rcases h with q | q
  · rw [q] at ey ⊢
    have e := Option.some.inj (show some (ptS false x) = some y from ey)
    subst e
    have : x.1 + 1 ≤ 8 := Y8
    refine ⟨⟨H7.1, a4, fun _ => by omega, fun q2 => absurd q2 (by decide)⟩, ?_⟩
    exact (X1.psh (b := false) (fun q => by cases q)).nx ((psh_m _ _).trans (got_m _ _)) ((psh_i _ _).trans (got_i _ _)) N
  · rw [q] at ey ⊢
    have e : tkS false x = some y := ey
    obtain ⟨g1, g2, -⟩ := X1.pop1 e
    rw [got_n] at g2
    refine ⟨⟨H7.1, a4, fun q2 => absurd q2 (by decide), fun _ => g2⟩, ?_⟩
    exact (g1.fd.ast).nx ((pop_m _).trans (got_m _ _)) ((pop_i _).trans (got_i _ _)) N
/-- a machine that stands well stands well behind an instruction -/
theorem prf_ok (B : Built k P sh sn wd) (T : TS k P sh z) (he : (prfZ P sn Fc z).2 = 0) : TS k P sh (prfZ P sn Fc z).1 := by
  obtain ⟨x, y, X, hs, x8, hn, l6, o35, -⟩ := T.at_ B
  unfold prfZ at he ⊢
  by_cases q : pN P 6 (curP z) = 33
  · rw [if_pos q] at he ⊢
    exact (stp_33 B T q).2 he
  rw [if_neg q] at he ⊢
  unfold prfA at he ⊢
  by_cases q1 : pN P 6 (curP z) ≤ 6
  · rw [if_pos q1]
    exact (stp_A B T q1).2
  rw [if_neg q1] at he ⊢
  by_cases q2 : pN P 6 (curP z) ≤ 18
  · rw [if_pos q2] at he ⊢
    exact (stp_B B T (by omega) q2).2 he
  rw [if_neg q2] at he ⊢
  by_cases q3 : pN P 6 (curP z) ≤ 27
  · rw [if_pos q3]
    exact (stp_C B T (by omega) q3).2
  rw [if_neg q3] at he ⊢
  by_cases q4 : pN P 6 (curP z) = 28
  · rw [if_pos q4] at he ⊢
    exact (stp_28 B T q4).2 he
  rw [if_neg q4] at he ⊢
  by_cases q5 : pN P 6 (curP z) ≤ 31
  · rw [if_pos q5] at he ⊢
    rcases (show pN P 6 (curP z) = 29 ∨ pN P 6 (curP z) = 30 ∨ pN P 6 (curP z) = 31 by omega) with e | e | e
    · rw [e] at he ⊢
      exact (stp_29 B T e).2 he
    · rw [e] at he ⊢
      exact (stp_30 B T e).2 he
    · rw [e] at he ⊢
      exact (stp_31 B T e).2 he
  rw [if_neg q5] at he ⊢
  by_cases q6 : pN P 6 (curP z) = 32
  · rw [if_pos q6] at he ⊢
    exact (stp_32 B T q6).2 he
  rw [if_neg q6]
  exact (stp_D B T (by omega)).2
end TS3
