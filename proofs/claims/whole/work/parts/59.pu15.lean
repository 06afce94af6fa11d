section PURE15
variable {k : Nat} {P : Pm} {sh : Nat → Option Sh} {sn : Nat → Nat} {wd : Nat → Bool}
theorem cov_sp {a b : Av} (h : covA b a = true) (ha : arA a = false) : covS (spA b) (spA a) = true := by
  cases a with
  | inr _ => cases ha
  | inl x =>
    cases b with
    | inr _ => cases h
    | inl y => exact h
theorem cov_ar {a b : Av} (h : covA b a = true) : arA b = arA a := by
  cases a <;> cases b <;> simp only [covA] at h <;> first | rfl | cases h
theorem cov_st {a b : Av} (h : covA b a = true) (ha : arA a = true) : (∀ s, s < 32 → bitA (stA a) s = true → bitA (stA b) s = true) ∧ (nuA a = true → nuA b = true) ∧ (stA b = 0 → stA a = 0) := by
  cases a with
  | inl _ => cases ha
  | inr co =>
    obtain ⟨c, o⟩ := co
    cases b with
    | inl _ => cases h
    | inr dp =>
      obtain ⟨d, p⟩ := dp
      simp only [covA, Bool.and_eq_true, decide_eq_true_eq] at h
      refine ⟨set_cov.mp h.1, ?_, ?_⟩
      · simp only [nuA]
        cases o <;> cases p <;> simp at h ⊢
      · simp only [stA]
        intro e
        have := h.1
        rw [e] at this
        simpa using this
theorem cov_tt {b b' : Int32} (h : ∀ s, s < 32 → bitA b s = true → bitA b' s = true) : covA (.inr (b', false)) (.inr (b, false)) = true := by
  simp only [covA, Bool.and_eq_true, decide_eq_true_eq]
  exact ⟨set_cov.mpr h, rfl⟩
theorem cov_tf {a : Av} (ha : arA a = true) : covA a (.inr (stA a, false)) = true := by
  cases a with
  | inl x => cases ha
  | inr bo =>
    obtain ⟨b, o⟩ := bo
    show (decide (b &&& (b ^^^ -1) = 0) && (o || !false)) = true
    rw [Bool.and_eq_true, decide_eq_true_eq]
    exact ⟨set_cov.mpr (fun _ _ h => h), by cases o <;> rfl⟩
theorem upF_self {f : Nat → Sl} {i : Nat} {v : Sl} : upF f i v i = v := by simp [upF]
theorem upF_ne {f : Nat → Sl} {i j : Nat} {v : Sl} (h : j ≠ i) : upF f i v j = f j := by simp [upF, h]
theorem conO_mem {t n : Nat} {o : Option (Nat → Sl)} {g : Nat → Sl} (h : o = some g) : (t, n, g) ∈ conO t n o := by rw [h]; simp [conO]
theorem dropF_1 {n i : Nat} {f : Nat → Sl} {mk : Int32} : (dropF n f mk i).1 = (f i).1 := by unfold dropF; split <;> rfl
theorem null_hi {m n T : Nat} {q : Bool} {f g r : Nat → Sl} (ll : pN P 2 m ≤ 6) (hT : pN P 2 m ≤ T) (hn : T < n) (hc : ∀ i, i < n + 1 → covA (g i).1 (f i).1 = true ∧ covM (g i).2 (f i).2 = true) (hm : mkO P m true (f n).2) (hm' : mkO P m true (g n).2) (ha : arA (f n).1 = true) (hee : (f n).2 ≠ -1 → (f T).2 = (f n).2 → (f T).1 = (f n).1) (e : nullF q n f = some r) (hp : 0 ≤ hiA (r T).1) : ∃ r', nullF q n g = some r' ∧ 0 ≤ hiA (r' T).1 := by
  have cs := cov_st (hc n (by omega)).1 ha
  unfold nullF at e ⊢
  by_cases q0 : q = true
  · rw [if_pos q0] at e ⊢
    split at e
    · rename_i z
      cases e
      rw [if_pos (cs.2.1 z)]
      refine ⟨_, rfl, tell1_hi (vf := (f n).1) ll hT hn (mkL hm) (mkL hm') (hc n (by omega)).2 (hc T (by omega)) (covA_refl _) ?_ hee hp⟩
      have e1 := ar_t ha
      rw [e1, z]
      show (decide ((0 : Int32) &&& _ = 0) && (true || !true)) = true
      simp
    · cases e
  · rw [if_neg q0] at e ⊢
    split at e
    · cases e
    · rename_i z
      cases e
      rw [if_neg (fun w => z (cs.2.2 w))]
      exact ⟨_, rfl, tell1_hi (vf := (f n).1) (v := .inr (stA (f n).1, false)) ll hT hn (mkL hm) (mkL hm') (hc n (by omega)).2 (hc T (by omega)) (cov_tt cs.1) (cov_tf ha) hee hp⟩
set_option maxHeartbeats 2000000 in
theorem outs_mono (B : Built k P sh sn wd) {F G : Fa} {p q : Nat} (hp : p < 480) (hF : okF (tyF P sh) F) (hG : okF (tyF P sh) G) (hl : leF F G) (ht : (F p).told = true) (he : eM (F p).n (F p).f) {x' : Sh} (hq : sh q = some x') (hx' : 1 ≤ x'.1) : ∀ c, c ∈ outs P sn F p → c.1 = q → 0 ≤ hiA (c.2.2 (c.2.1 - 1)).1 → ∃ c', c' ∈ outs P sn G p ∧ c'.1 = q ∧ 0 ≤ hiA (c'.2.2 (c.2.1 - 1)).1 := by
  intro c hc hcq hhi
  have okc := (outs_all B hp hF ht c hc).1
  obtain ⟨m, i, x, y, hm, hm8, hi, hi60, hpe, hs, hx8, hx, GF, h60, ll, hop, ⟨od1, od2, od3, od4⟩, ey, aI⟩ := plc B hp hF ht
  obtain ⟨lt, ln, lc⟩ := hl p (by omega) ht
  obtain ⟨m2, i2, x2, y2, -, -, -, -, hpe2, hs2, -, -, GG, h602, -⟩ := plc B hp hG lt
  have : m2 = m := by omega
  subst this
  rw [hs] at hs2
  cases hs2
  rw [ln] at GG
  have tE : ∀ base, base = 480 ∨ base = 505 → ∀ s, s < 25 → (F (base + s)).told = true → (G (base + s)).told = true ∧ (spA ((F (base + s)).f 0).1).2.1 ≤ (spA ((G (base + s)).f 0).1).2.1 := fun base hb s hs hh => by
    obtain ⟨a1, a2, a3⟩ := hl (base + s) (by omega) hh
    have t := tld_one hF (by omega) (by omega) hh
    exact ⟨a1, (cov_lo (cov_sp (a3 0 (by omega)).1 t.2.2)).2⟩
  have tR : ∀ a, a < 8 → (F (534 + a)).told = true → pN P 4 a ≠ 0 → covA ((G (534 + a)).f 0).1 ((F (534 + a)).f 0).1 = true := fun a ha hh hr => by
    obtain ⟨a1, a2, a3⟩ := hl (534 + a) (by omega) hh
    have t := tld_res hF ha hh hr
    exact (a3 0 (by omega)).1
  have tR0 : ∀ a, a < 8 → (F (534 + a)).told = true → (G (534 + a)).told = true := fun a ha hh => (hl (534 + a) (by omega) hh).1
  have tD : ∀ a, a < 4 → (F (530 + a)).told = true → (G (530 + a)).told = true ∧ covA ((G (530 + a)).f 0).1 ((F (530 + a)).f 0).1 = true := fun a ha hh => by
    obtain ⟨a1, a2, a3⟩ := hl (530 + a) (by omega) hh
    have t := tld_one hF (by omega) (by omega) hh
    exact ⟨a1, (a3 0 (by omega)).1⟩
  have topJ : ∀ j, j < 60 → c.1 = 60 * m2 + j → pN P 2 m2 + 1 ≤ c.2.1 := fun j hj1 hj2 => by
    have e := okc.2.1.1
    have ⟨m', i', hm', hi', hqe, _⟩ := B.at_ q x' hq
    have w' := wf_ar B.wf hm'
    have hm8' : m' < 8 := Nat.lt_of_lt_of_le hm' B.wf.k8
    have : m' = m2 := by omega
    subst this
    rw [hcq, hqe, tyF_st hm8' (by omega) (by rw [← hqe]; exact hq)] at e
    have : c.2.1 = pN P 2 m' + x'.1 := e
    omega
  have topN : pN P 6 p ≠ 19 → pN P 6 p ≠ 33 → c.1 = p + 1 → pN P 2 m2 + 1 ≤ c.2.1 := fun z1 z2 hj => by
    obtain ⟨-, y', -, n1, -⟩ := B.next m2 i x hm hi (by rw [← hpe]; exact hs)
    have wm := wf_ar B.wf hm
    rw [← hpe] at n1
    have := (n1 z1 z2).1
    exact topJ (i + 1) (by omega) (by omega)
  have eqm : ∀ i j, i < (F p).n → j < (F p).n → ((F p).f j).2 ≠ -1 → ((F p).f i).2 = ((F p).f j).2 → ((F p).f i).1 = ((F p).f j).1 := fun i j hi hj hne e => by
    rw [he i hi (by rw [e]; exact hne), he j hj hne, e]
  have gathL : ∀ (u v : Av), arA u = true → covA v u = true → ∀ base, base = 480 ∨ base = 505 → ∀ z, gathF F base (stA u) 25 = some z → ∃ z', gathF G base (stA v) 25 = some z' ∧ z.2.1 ≤ z'.2.1 := fun u v hu hv base hb z ez => gath_hi (cov_st hv hu).1 (tE base hb) 25 (by omega) z ez
  unfold outs at hc ⊢
  simp only [h60, ln] at hc ⊢
  generalize hn : (F p).n = n at *
  generalize hf : (F p).f = f at *
  generalize hg : (G p).f = g at *
  generalize pN P 6 p = op at *
  generalize pN P 7 p = a at *
  have en := G_n GF
  by_cases q0 : op = 0
  · rw [if_pos q0, List.mem_singleton] at hc
    rw [if_pos q0]
    subst hc
    refine ⟨_, List.mem_singleton.mpr rfl, hcq, ?_⟩
    simp only [Nat.add_sub_cancel, upF_self] at hhi ⊢
    exact hhi
  rw [if_neg q0] at hc ⊢
  by_cases q1 : op = 1
  · rw [if_pos q1, List.mem_singleton] at hc
    rw [if_pos q1]
    subst hc
    have h4 := od1 (Or.inl q1)
    have h5 := aI h4.1
    refine ⟨_, List.mem_singleton.mpr rfl, hcq, ?_⟩
    simp only [Nat.add_sub_cancel, upF_self] at hhi ⊢
    exact cov_hi (lc a (by omega)).1 hhi
  rw [if_neg q1] at hc ⊢
  by_cases q2 : op = 2
  · rw [if_pos q2, List.mem_singleton] at hc
    rw [if_pos q2]
    subst hc
    have tp := topN (by omega) (by omega) rfl
    have h4 := od1 (Or.inr q2)
    have h5 := aI h4.1
    refine ⟨_, List.mem_singleton.mpr rfl, hcq, ?_⟩
    simp only at tp hhi ⊢
    rw [dropF_1, upF_ne (by omega)] at hhi ⊢
    exact cov_hi (lc _ (by omega)).1 hhi
  rw [if_neg q2] at hc ⊢
  by_cases q3 : op = 3
  · rw [if_pos q3, List.mem_singleton] at hc
    rw [if_pos q3]
    subst hc
    refine ⟨_, List.mem_singleton.mpr rfl, hcq, ?_⟩
    simp only [Nat.add_sub_cancel, upF_self] at hhi ⊢
    exact hhi
  rw [if_neg q3] at hc ⊢
  by_cases q4 : op = 4
  · rw [if_pos q4, List.mem_singleton] at hc
    rw [if_pos q4]
    subst hc
    have tp := topN (by omega) (by omega) rfl
    refine ⟨_, List.mem_singleton.mpr rfl, hcq, ?_⟩
    simp only at tp hhi ⊢
    exact cov_hi (lc _ (by omega)).1 hhi
  rw [if_neg q4] at hc ⊢
  by_cases q5 : op = 5
  · rw [if_pos q5, List.mem_singleton] at hc
    rw [if_pos q5]
    subst hc
    unfold shS at ey
    repeat (first | rw [if_pos (by omega)] at ey | rw [if_neg (by omega)] at ey)
    split at ey
    · cases ey
    · rename_i t1
      refine ⟨_, List.mem_singleton.mpr rfl, hcq, ?_⟩
      simp only [Nat.add_sub_cancel, upF_self] at hhi ⊢
      exact cov_hi (lc _ (by omega)).1 hhi
  rw [if_neg q5] at hc ⊢
  by_cases q6 : op = 6
  · rw [if_pos q6, List.mem_singleton] at hc
    rw [if_pos q6]
    subst hc
    unfold shS at ey
    repeat (first | rw [if_pos (by omega)] at ey | rw [if_neg (by omega)] at ey)
    split at ey
    · cases ey
    · rename_i t1
      refine ⟨_, List.mem_singleton.mpr rfl, hcq, ?_⟩
      simp only at hhi ⊢
      rw [upF_ne (by omega), upF_self] at hhi ⊢
      exact cov_hi (lc _ (by omega)).1 hhi
  rw [if_neg q6] at hc ⊢
  by_cases q10 : op = 10 ∨ op = 11
  · rw [if_pos q10] at hc ⊢
    unfold shS at ey
    repeat (first | rw [if_pos (by omega)] at ey | rw [if_neg (by omega)] at ey)
    obtain ⟨y1, e1, rfl⟩ := Option.map_eq_some_iff.mp ey
    obtain ⟨y2, e2, e3⟩ := Option.bind_eq_some_iff.mp e1
    obtain ⟨t1, t2, t3⟩ := tkS_some e2
    subst t3
    obtain ⟨u1, u2, u3⟩ := tkS_some e3
    have d1 : (dpS x).1 = x.1 - 1 := rfl
    have g1 := G_pop GF t1
    have g2 := G_pop g1.1 u1
    rw [show n - 1 - 1 = n - 2 by omega] at g2
    have aY : arA (f (n - 1)).1 = false := by rw [g1.2.2.1, t2]
    have aX : arA (f (n - 2)).1 = false := by rw [g2.2.2.1, u2]
    have cY := lc (n - 1) (by omega)
    have cX := lc (n - 2) (by omega)
    have oY := tyG_mk GG (i := n - 1) (by omega)
    have oX := tyG_mk GG (i := n - 2) (by omega)
    have okY' := ok_sp oY.1 (by rw [cov_ar cY.1, aY])
    have okX' := ok_sp oX.1 (by rw [cov_ar cX.1, aX])
    have okY := ok_sp g1.2.1 aY
    have okX := ok_sp g2.2.1 aX
    split at hc
    · cases hc
    · rename_i z ez
      rw [List.mem_singleton] at hc
      subst hc
      obtain ⟨z', ez', cz, oz, oz'⟩ := lose_cov okY okY' (cov_sp cY.1 aY) ez
      rw [ez']
      refine ⟨_, List.mem_singleton.mpr rfl, hcq, ?_⟩
      simp only at hhi ⊢
      rw [show n - 1 - 1 = n - 2 by omega, upF_self] at hhi ⊢
      exact act_pos okX oz okX' oz' (cov_sp cX.1 aX) cz (fun _ => lose_0 okY ez) hhi
  rw [if_neg q10] at hc ⊢
  by_cases q17 : op ≤ 17
  · rw [if_pos q17, List.mem_singleton] at hc
    rw [if_pos q17]
    subst hc
    unfold shS at ey
    repeat (first | rw [if_pos (by omega)] at ey | rw [if_neg (by omega)] at ey)
    obtain ⟨y1, e1, rfl⟩ := Option.map_eq_some_iff.mp ey
    obtain ⟨y2, e2, e3⟩ := Option.bind_eq_some_iff.mp e1
    obtain ⟨t1, t2, t3⟩ := tkS_some e2
    subst t3
    obtain ⟨u1, u2, u3⟩ := tkS_some e3
    have d1 : (dpS x).1 = x.1 - 1 := rfl
    have g1 := G_pop GF t1
    have g2 := G_pop g1.1 u1
    rw [show n - 1 - 1 = n - 2 by omega] at g2
    have aY : arA (f (n - 1)).1 = false := by rw [g1.2.2.1, t2]
    have aX : arA (f (n - 2)).1 = false := by rw [g2.2.2.1, u2]
    have cY := lc (n - 1) (by omega)
    have cX := lc (n - 2) (by omega)
    have oY := tyG_mk GG (i := n - 1) (by omega)
    have oX := tyG_mk GG (i := n - 2) (by omega)
    have okY' := ok_sp oY.1 (by rw [cov_ar cY.1, aY])
    have okX' := ok_sp oX.1 (by rw [cov_ar cX.1, aX])
    refine ⟨_, List.mem_singleton.mpr rfl, hcq, ?_⟩
    simp only at hhi ⊢
    rw [show n - 1 - 1 = n - 2 by omega, upF_self] at hhi ⊢
    exact act_pos (ok_sp g2.2.1 aX) (ok_sp g1.2.1 aY) okX' okY' (cov_sp cX.1 aX) (cov_sp cY.1 aY) (fun z => absurd z q10) hhi
  rw [if_neg q17] at hc ⊢
  by_cases q18 : op = 18
  · rw [if_pos q18, List.mem_singleton] at hc
    rw [if_pos q18]
    subst hc
    unfold shS at ey
    repeat (first | rw [if_pos (by omega)] at ey | rw [if_neg (by omega)] at ey)
    obtain ⟨y1, e1, rfl⟩ := Option.map_eq_some_iff.mp ey
    obtain ⟨t1, t2, t3⟩ := tkS_some e1
    have g1 := G_pop GF t1
    have aY : arA (f (n - 1)).1 = false := by rw [g1.2.2.1, t2]
    have cY := lc (n - 1) (by omega)
    have oY := tyG_mk GG (i := n - 1) (by omega)
    have okY' := ok_sp oY.1 (by rw [cov_ar cY.1, aY])
    refine ⟨_, List.mem_singleton.mpr rfl, hcq, ?_⟩
    simp only at hhi ⊢
    rw [upF_self] at hhi ⊢
    exact act_pos (ok_sp g1.2.1 aY) okS0 okY' okS0 (cov_sp cY.1 aY) (cov_refl _) (fun z => absurd z (by decide)) hhi
  rw [if_neg q18] at hc ⊢
  by_cases q19 : op = 19
  · rw [if_pos q19, List.mem_singleton] at hc
    rw [if_pos q19]
    subst hc
    have h4 := od2 (by omega)
    have h5 := aI h4.1
    have wm := wf_ar B.wf hm
    have tp := topJ a (by omega) rfl
    refine ⟨_, List.mem_singleton.mpr rfl, hcq, ?_⟩
    simp only at tp hhi ⊢
    exact cov_hi (lc _ (by omega)).1 hhi
  rw [if_neg q19] at hc ⊢
  by_cases q25 : op ≤ 25
  · rw [if_pos q25] at hc ⊢
    unfold shS at ey
    repeat (first | rw [if_pos (by omega)] at ey | rw [if_neg (by omega)] at ey)
    obtain ⟨y2, e2, e3⟩ := Option.bind_eq_some_iff.mp ey
    obtain ⟨t1, t2, t3⟩ := tkS_some e2
    subst t3
    obtain ⟨u1, u2, u3⟩ := tkS_some e3
    have d1 : (dpS x).1 = x.1 - 1 := rfl
    have h4 := od2 (by omega)
    have h5 := aI h4.1
    have wm := wf_ar B.wf hm
    have g1 := G_pop GF t1
    have g2 := G_pop g1.1 u1
    rw [show n - 1 - 1 = n - 2 by omega] at g2
    have p1 := G_pop GG t1
    have p2 := G_pop p1.1 u1
    rw [show n - 1 - 1 = n - 2 by omega] at p2
    have aY : arA (f (n - 1)).1 = false := by rw [g1.2.2.1, t2]
    have aX : arA (f (n - 2)).1 = false := by rw [g2.2.2.1, u2]
    have aY' : arA (g (n - 1)).1 = false := by rw [p1.2.2.1, t2]
    have aX' : arA (g (n - 2)).1 = false := by rw [p2.2.2.1, u2]
    have cY := lc (n - 1) (by omega)
    have cX := lc (n - 2) (by omega)
    have go : ∀ (op' : Nat) (T : Nat) (r : Nat → Sl), pN P 2 m2 ≤ T → T < n - 2 → opensF op' (n - 2) f (spA (f (n - 2)).1) (spA (f (n - 1)).1) (f (n - 2)).2 (f (n - 1)).2 = some r → 0 ≤ hiA (r T).1 → ∃ r', opensF op' (n - 2) g (spA (g (n - 2)).1) (spA (g (n - 1)).1) (g (n - 2)).2 (g (n - 1)).2 = some r' ∧ 0 ≤ hiA (r' T).1 := fun op' T r hT1 hT2 er hr =>
      opens_hi ll hT1 hT2 (ok_sp g2.2.1 aX) (ok_sp p2.2.1 aX') (ok_sp g1.2.1 aY) (ok_sp p1.2.1 aY') (cov_sp cX.1 aX) (cov_sp cY.1 aY) (mkL g2.2.2.2.1) (mkL g1.2.2.2.1) (mkL p2.2.2.2.1) (mkL p1.2.2.2.1) cX.2 cY.2 (lc T (by omega)) (fun h1 h2 => by rw [← ar_s aX]; exact eqm T (n - 2) (by omega) (by omega) h1 h2) (fun h1 h2 => by rw [← ar_s aY]; exact eqm T (n - 1) (by omega) (by omega) h1 h2) er hr
    rcases List.mem_append.mp hc with hc | hc
    · obtain ⟨r, er, rfl⟩ := mem_conO hc
      have tp := topJ a (by omega) rfl
      simp only at tp hhi ⊢
      obtain ⟨r', er', hr'⟩ := go _ (n - 2 - 1) r (by omega) (by omega) er hhi
      exact ⟨_, List.mem_append.mpr (Or.inl (conO_mem er')), hcq, hr'⟩
    · obtain ⟨r, er, rfl⟩ := mem_conO hc
      have tp := topN (by omega) (by omega) rfl
      simp only at tp hhi ⊢
      obtain ⟨r', er', hr'⟩ := go _ (n - 2 - 1) r (by omega) (by omega) er hhi
      exact ⟨_, List.mem_append.mpr (Or.inr (conO_mem er')), hcq, hr'⟩
  rw [if_neg q25] at hc ⊢
  by_cases q27 : op ≤ 27
  · rw [if_pos q27] at hc ⊢
    unfold shS at ey
    repeat (first | rw [if_pos (by omega)] at ey | rw [if_neg (by omega)] at ey)
    obtain ⟨t1, t2, t3⟩ := tkS_some ey
    have h4 := od2 (by omega)
    have h5 := aI h4.1
    have wm := wf_ar B.wf hm
    have g1 := G_pop GF t1
    have p1 := G_pop GG t1
    have aY : arA (f (n - 1)).1 = true := by rw [g1.2.2.1, t2]
    have my := g1.2.2.2.1
    have my' := p1.2.2.2.1
    rw [t2] at my my'
    have go : ∀ (b : Bool) (T : Nat) (r : Nat → Sl), pN P 2 m2 ≤ T → T < n - 1 → nullF b (n - 1) f = some r → 0 ≤ hiA (r T).1 → ∃ r', nullF b (n - 1) g = some r' ∧ 0 ≤ hiA (r' T).1 := fun b T r hT1 hT2 er hr =>
      null_hi ll hT1 hT2 (fun i hi => lc i (by omega)) my my' aY (fun h1 h2 => eqm T (n - 1) (by omega) (by omega) h1 h2) er hr
    rcases List.mem_append.mp hc with hc | hc
    · obtain ⟨r, er, rfl⟩ := mem_conO hc
      have tp := topJ a (by omega) rfl
      simp only at tp hhi ⊢
      obtain ⟨r', er', hr'⟩ := go _ (n - 1 - 1) r (by omega) (by omega) er hhi
      exact ⟨_, List.mem_append.mpr (Or.inl (conO_mem er')), hcq, hr'⟩
    · obtain ⟨r, er, rfl⟩ := mem_conO hc
      have tp := topN (by omega) (by omega) rfl
      simp only at tp hhi ⊢
      obtain ⟨r', er', hr'⟩ := go _ (n - 1 - 1) r (by omega) (by omega) er hhi
      exact ⟨_, List.mem_append.mpr (Or.inr (conO_mem er')), hcq, hr'⟩
  rw [if_neg q27] at hc ⊢
  by_cases q28 : op = 28
  · rw [if_pos q28] at hc ⊢
    unfold shS at ey
    repeat (first | rw [if_pos (by omega)] at ey | rw [if_neg (by omega)] at ey)
    obtain ⟨y1, e1, rfl⟩ := Option.map_eq_some_iff.mp ey
    obtain ⟨t1, t2, t3⟩ := tkS_some e1
    have g1 := G_pop GF t1
    have p1 := G_pop GG t1
    have aY : arA (f (n - 1)).1 = false := by rw [g1.2.2.1, t2]
    have aY' : arA (g (n - 1)).1 = false := by rw [p1.2.2.1, t2]
    have cY := lc (n - 1) (by omega)
    split at hc
    · cases hc
    · rename_i z ez
      obtain ⟨z', ez', cz, oz, oz'⟩ := within_cov (ok_sp g1.2.1 aY) (ok_sp p1.2.1 aY') (cov_sp cY.1 aY) (Int.le_refl 0) (Int.le_refl 2147483647) ez
      rw [ez']
      simp only [List.mem_cons, List.not_mem_nil, or_false] at hc ⊢
      have q480 : q < 480 := by
        have ⟨m', i', hm', hi', hqe, _⟩ := B.at_ q x' hq
        have w' := wf_ar B.wf hm'
        have := B.wf.k8
        omega
      rcases hc with rfl | rfl | rfl
      · exfalso; simp only at hcq; omega
      · exfalso; simp only at hcq; omega
      · refine ⟨_, Or.inr (Or.inr rfl), hcq, ?_⟩
        simp only at hhi ⊢
        rw [upF_self]
        exact Int.le_refl 0
  rw [if_neg q28] at hc ⊢
  by_cases q29 : op = 29
  · rw [if_pos q29] at hc ⊢
    unfold shS at ey
    repeat (first | rw [if_pos (by omega)] at ey | rw [if_neg (by omega)] at ey)
    obtain ⟨y1, e1, rfl⟩ := Option.map_eq_some_iff.mp ey
    obtain ⟨t1, t2, t3⟩ := tkS_some e1
    have g1 := G_pop GF t1
    have aY : arA (f (n - 1)).1 = true := by rw [g1.2.2.1, t2]
    have cY := lc (n - 1) (by omega)
    split at hc
    · cases hc
    · rename_i z ez
      rw [List.mem_singleton] at hc
      subst hc
      obtain ⟨z', ez', hz⟩ := gathL _ _ aY cY.1 480 (Or.inl rfl) z ez
      rw [ez']
      refine ⟨_, List.mem_singleton.mpr rfl, hcq, ?_⟩
      simp only at hhi ⊢
      rw [upF_self] at hhi ⊢
      have h1 : 0 ≤ z.2.1 := hhi
      show 0 ≤ z'.2.1
      omega
  rw [if_neg q29] at hc ⊢
  by_cases q30 : op = 30
  · rw [if_pos q30] at hc ⊢
    unfold shS at ey
    repeat (first | rw [if_pos (by omega)] at ey | rw [if_neg (by omega)] at ey)
    obtain ⟨y1, e1, rfl⟩ := Option.map_eq_some_iff.mp ey
    obtain ⟨y2, e2, e3⟩ := Option.bind_eq_some_iff.mp e1
    obtain ⟨t1, t2, t3⟩ := tkS_some e2
    subst t3
    obtain ⟨u1, u2, u3⟩ := tkS_some e3
    have d1 : (dpS x).1 = x.1 - 1 := rfl
    have g1 := G_pop GF t1
    have g2 := G_pop g1.1 u1
    rw [show n - 1 - 1 = n - 2 by omega] at g2
    have p1 := G_pop GG t1
    have aY : arA (f (n - 1)).1 = false := by rw [g1.2.2.1, t2]
    have aY' : arA (g (n - 1)).1 = false := by rw [p1.2.2.1, t2]
    have aX : arA (f (n - 2)).1 = true := by rw [g2.2.2.1, u2]
    have cY := lc (n - 1) (by omega)
    have cX := lc (n - 2) (by omega)
    split at hc
    · cases hc
    · rename_i z ez
      obtain ⟨z', ez', hz⟩ := gathL _ _ aX cX.1 480 (Or.inl rfl) z ez
      rw [ez']
      split at hc
      · rename_i w1 w2 ew1 ew2
        rw [List.mem_singleton] at hc
        subst hc
        obtain ⟨v1, ev1, -⟩ := within_cov (ok_sp g1.2.1 aY) (ok_sp p1.2.1 aY') (cov_sp cY.1 aY) (Int.le_refl 0) (show z.2.1 - 1 ≤ z'.2.1 - 1 by omega) ew1
        obtain ⟨v2, ev2, hv⟩ := gathL _ _ aX cX.1 505 (Or.inr rfl) w2 ew2
        simp only
        rw [ev1, ev2]
        refine ⟨_, List.mem_singleton.mpr rfl, hcq, ?_⟩
        simp only at hhi ⊢
        rw [show n - 1 - 1 = n - 2 by omega, upF_self] at hhi ⊢
        have h1 : 0 ≤ w2.2.1 := hhi
        show 0 ≤ v2.2.1
        omega
      · cases hc
  rw [if_neg q30] at hc ⊢
  by_cases q31 : op = 31
  · rw [if_pos q31] at hc ⊢
    unfold shS at ey
    repeat (first | rw [if_pos (by omega)] at ey | rw [if_neg (by omega)] at ey)
    obtain ⟨y2, e1, e4⟩ := Option.bind_eq_some_iff.mp ey
    obtain ⟨y3, e2, e3⟩ := Option.bind_eq_some_iff.mp e1
    obtain ⟨t1, t2, t3⟩ := tkS_some e2
    subst t3
    obtain ⟨u1, u2, u3⟩ := tkS_some e3
    subst u3
    obtain ⟨v1, v2, v3⟩ := tkS_some e4
    have d1 : (dpS x).1 = x.1 - 1 := rfl
    have d2 : (dpS (dpS x)).1 = x.1 - 1 - 1 := rfl
    have g1 := G_pop GF t1
    have g2 := G_pop g1.1 u1
    have g3 := G_pop g2.1 v1
    rw [show n - 1 - 1 = n - 2 by omega] at g2
    rw [show n - 1 - 1 - 1 = n - 3 by omega] at g3
    have p1 := G_pop GG t1
    have p2 := G_pop p1.1 u1
    have p3 := G_pop p2.1 v1
    rw [show n - 1 - 1 = n - 2 by omega] at p2
    rw [show n - 1 - 1 - 1 = n - 3 by omega] at p3
    have aX : arA (f (n - 2)).1 = false := by rw [g2.2.2.1, u2]
    have aX' : arA (g (n - 2)).1 = false := by rw [p2.2.2.1, u2]
    have aR : arA (f (n - 3)).1 = true := by rw [g3.2.2.1, v2]
    have cX := lc (n - 2) (by omega)
    have cR := lc (n - 3) (by omega)
    have mx := g2.2.2.2.1
    have mr := g3.2.2.2.1
    rw [u2] at mx
    rw [v2] at mr
    split at hc
    · cases hc
    · rename_i z ez
      obtain ⟨z', ez', hz⟩ := gathL _ _ aR cR.1 480 (Or.inl rfl) z ez
      rw [ez']
      split at hc
      · cases hc
      · rename_i w1 ew1
        obtain ⟨r1, er1, cr, or1, or2⟩ := within_cov (ok_sp g2.2.1 aX) (ok_sp p2.2.1 aX') (cov_sp cX.1 aX) (Int.le_refl 0) (show z.2.1 - 1 ≤ z'.2.1 - 1 by omega) ew1
        rw [er1]
        have q480 : q < 480 := by
          have ⟨m', i', hm', hi', hqe, _⟩ := B.at_ q x' hq
          have w' := wf_ar B.wf hm'
          have := B.wf.k8
          omega
        rcases List.mem_append.mp hc with hc | hc
        · obtain ⟨s, hs1, rfl⟩ := List.mem_map.mp hc
          exfalso; simp only at hcq; omega
        · rw [List.mem_singleton] at hc
          subst hc
          have tp := topN (by omega) (by omega) rfl
          refine ⟨_, List.mem_append.mpr (Or.inr (List.mem_singleton.mpr rfl)), hcq, ?_⟩
          simp only at tp hhi ⊢
          refine tell2_hi (vf1 := (f (n - 3)).1) (vf2 := (f (n - 2)).1) (v1 := .inr (stA (f (n - 3)).1, false)) (w1 := .inr (stA (g (n - 3)).1, false)) (v2 := .inl w1) (w2 := .inl r1) ll (show pN P 2 m2 ≤ n - 3 - 1 by omega) (by omega) (mkL g3.2.2.2.1) (mkL g2.2.2.2.1) (mkL p3.2.2.2.1) (mkL p2.2.2.2.1) cR.2 cX.2 (lc _ (by omega)) (cov_tt (cov_st cR.1 aR).1) cr (cov_tf aR) ?_ (fun h1 h2 => eqm _ (n - 3) (by omega) (by omega) h1 h2) (fun h1 h2 => eqm _ (n - 2) (by omega) (by omega) h1 h2) ?_ hhi
          · rw [ar_s aX]
            exact within_in (ok_sp g2.2.1 aX) ew1
          · rintro ⟨n1, n2⟩
            rcases mr with z1 | ⟨j1, z1, z2, z3⟩
            · exact n1 z1
            · rcases mx with y1 | ⟨j2, y1, y2, y3⟩
              · rw [n2] at n1; exact n1 y1
              · rw [z2, y2] at n2
                have := ofNat_inj (by omega) (by omega) n2
                subst this
                rw [z3] at y3
                cases y3
  rw [if_neg q31] at hc ⊢
  by_cases q32 : op = 32
  · rw [if_pos q32] at hc ⊢
    unfold shS at ey
    repeat (first | rw [if_pos (by omega)] at ey | rw [if_neg (by omega)] at ey)
    obtain ⟨y1, e1, rfl⟩ := Option.map_eq_some_iff.mp ey
    have h4 := od3 q32
    have h5 := aI h4.1
    have ha : a < k := by omega
    have ha8 : a < 8 := Nat.lt_of_lt_of_le ha B.wf.k8
    obtain ⟨r1, r2, r3, r4, r5⟩ := tkN_ty (pN P 1 a) GF e1 hx
    rcases List.mem_cons.mp hc with rfl | hc
    · exfalso
      have f1 := (B.first a ha).2
      simp only at hcq
      rw [hcq, hq] at f1
      cases f1
      exact absurd hx' (by decide)
    · split at hc
      · rename_i tr
        rw [if_pos (tR0 a ha8 tr)]
        by_cases qr : pN P 4 a = 0
        · rw [if_pos qr, List.mem_singleton] at hc
          rw [if_pos qr]
          subst hc
          have tp := topN (by omega) (by omega) rfl
          refine ⟨_, List.mem_cons_of_mem _ (List.mem_singleton.mpr rfl), hcq, ?_⟩
          simp only at tp hhi ⊢
          exact cov_hi (lc _ (by omega)).1 hhi
        · rw [if_neg qr, List.mem_singleton] at hc
          rw [if_neg qr]
          subst hc
          refine ⟨_, List.mem_cons_of_mem _ (List.mem_singleton.mpr rfl), hcq, ?_⟩
          simp only [Nat.add_sub_cancel, upF_self] at hhi ⊢
          exact cov_hi (tR a ha8 tr qr) hhi
      · cases hc
  rw [if_neg q32] at hc ⊢
  by_cases q33 : op = 33
  · exfalso
    have q480 : q < 480 := by
      have ⟨m', i', hm', hi', hqe, _⟩ := B.at_ q x' hq
      have w' := wf_ar B.wf hm'
      have := B.wf.k8
      omega
    rw [if_pos q33] at hc
    split at hc
    · rw [List.mem_singleton] at hc
      subst hc
      simp only at hcq; omega
    · rw [List.mem_singleton] at hc
      subst hc
      simp only at hcq; omega
  rw [if_neg q33] at hc ⊢
  by_cases q34 : op = 34
  · rw [if_pos q34] at hc ⊢
    have h4 := od4 (Or.inl q34)
    have h5 := aI h4.1
    split at hc
    · rename_i tr
      rw [List.mem_singleton] at hc
      subst hc
      have td := tD a (by omega) tr
      rw [if_pos td.1]
      refine ⟨_, List.mem_singleton.mpr rfl, hcq, ?_⟩
      simp only [Nat.add_sub_cancel, upF_self] at hhi ⊢
      exact cov_hi td.2 hhi
    · cases hc
  rw [if_neg q34] at hc ⊢
  have q480 : q < 480 := by
    have ⟨m', i', hm', hi', hqe, _⟩ := B.at_ q x' hq
    have w' := wf_ar B.wf hm'
    have := B.wf.k8
    omega
  simp only [List.mem_cons, List.not_mem_nil, or_false] at hc ⊢
  rcases hc with rfl | rfl
  · exfalso; simp only at hcq; omega
  · have tp := topN (by omega) (by omega) rfl
    refine ⟨_, Or.inr rfl, hcq, ?_⟩
    simp only at tp hhi ⊢
    exact cov_hi (lc _ (by omega)).1 hhi
end PURE15
