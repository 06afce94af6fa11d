section PURE13
variable {k : Nat} {P : Pm} {sh : Nat → Option Sh} {sn : Nat → Nat} {wd : Nat → Bool}
/-- what is known of a place that is told -/
theorem plc (B : Built k P sh sn wd) {F : Fa} {p : Nat} (hp : p < 480) (hF : okF (tyF P sh) F) (ht : (F p).told = true) : ∃ m i x y, m < k ∧ m < 8 ∧ i < pN P 5 m ∧ i < 60 ∧ p = 60 * m + i ∧ sh p = some x ∧ x.1 ≤ 8 ∧ x.2 < 2 ^ x.1 ∧ tyG P m x (F p).n (F p).f ∧ p / 60 = m ∧ pN P 2 m ≤ 6 ∧ pN P 6 p ≤ 35 ∧ opdOk k P m (pN P 6 p) (P 7 p) ∧ shS P m (pN P 6 p) (pN P 7 p) x = some y ∧ (0 ≤ (P 7 p).toInt → P 7 p = Int32.ofNat (pN P 7 p) ∧ (P 7 p).toInt = pN P 7 p) := by
  obtain ⟨o1, o2⟩ := hF p (by omega)
  have hv := o2 ht
  have hg := o1 ht
  cases hs : sh p with
  | none =>
    exfalso
    unfold tyF at hv
    rw [if_pos hp, hs] at hv
    exact absurd hv (show ¬ (1 ≤ 0) by omega)
  | some x =>
  obtain ⟨m, i, hm, hi, rfl, hx8, hx⟩ := B.at_ p x hs
  have hm8 : m < 8 := Nat.lt_of_lt_of_le hm B.wf.k8
  have w := wf_ar B.wf hm
  rw [tyF_st hm8 (by omega) hs] at hg
  obtain ⟨hod, y, ey, -⟩ := B.next m i x hm hi hs
  obtain ⟨q, eq_, q35⟩ := B.wf.op m i hm hi
  refine ⟨m, i, x, y, hm, hm8, hi, by omega, rfl, rfl, hx8, hx, hg, by omega, w.2.1, ?_, hod, ey, ?_⟩
  · unfold pN
    rw [eq_, ofNat_cl (by omega)]
    exact q35
  · intro h0
    have := (P 7 (60 * m + i)).toInt_lt
    have e : (P 7 (60 * m + i)).toInt = (pN P 7 (60 * m + i) : Nat) := by
      unfold pN Int32.toNatClampNeg
      omega
    refine ⟨?_, e⟩
    apply Int32.toInt_inj.mp
    rw [Int32.toInt_ofNat_of_lt (by omega)]
    exact e
theorem mkL {m : Nat} {b : Bool} {mk : Int32} (h : mkO P m b mk) : mk = -1 ∨ ∃ j, j < pN P 2 m ∧ mk = Int32.ofNat j := by
  rcases h with h | ⟨j, a, b, -⟩
  · exact Or.inl h
  · exact Or.inr ⟨j, a, b⟩
theorem eM_opens {L n op : Nat} {f g : Nat → Sl} {x y : Sp} {mx my : Int32} (hL : L ≤ 6) (hn : L ≤ n) (ho : okL L n f) (h : eM n f) (h1 : mx = -1 ∨ ∃ j, j < L ∧ mx = Int32.ofNat j) (h2 : my = -1 ∨ ∃ j, j < L ∧ my = Int32.ofNat j) (e : opensF op n f x y mx my = some g) : eM n g := by
  unfold opensF at e
  split at e
  · split at e
    · split at e
      · cases e
        exact eM_tell hL hn ho h h1
      · cases e
    · cases e
      exact eM_tell hL hn (okL_tell ho) (eM_tell hL hn ho h h1) h2
  · cases e
theorem eM_null {L n : Nat} {q : Bool} {f g : Nat → Sl} (hL : L ≤ 6) (hn : L ≤ n) (ho : okL L n f) (h : eM n f) (h1 : (f n).2 = -1 ∨ ∃ j, j < L ∧ (f n).2 = Int32.ofNat j) (e : nullF q n f = some g) : eM n g := by
  unfold nullF at e
  repeat' split at e
  all_goals first
    | (cases e; exact eM_tell hL hn ho h h1)
    | cases e
theorem eM_none {n : Nat} {f : Nat → Sl} (h : ∀ i, (f i).2 = -1) : eM n f := fun i _ q => absurd (h i) q
set_option maxHeartbeats 1000000 in
theorem outs_eM (B : Built k P sh sn wd) {F : Fa} {p : Nat} (hp : p < 480) (hF : okF (tyF P sh) F) (ht : (F p).told = true) (he : eM (F p).n (F p).f) : ∀ c, c ∈ outs P sn F p → c.1 < 480 → eM c.2.1 c.2.2 := by
  obtain ⟨m, i, x, y, hm, hm8, hi, hi60, -, hs, hx8, hx, G, h60, ll, hop, ⟨od1, od2, od3, od4⟩, ey, aI⟩ := plc B hp hF ht
  unfold outs
  simp only [h60]
  generalize hn : (F p).n = n at *
  generalize hf : (F p).f = f at *
  generalize pN P 6 p = op at *
  generalize pN P 7 p = a at *
  have en := G_n G
  have oL := okL_of G
  have oLp : ∀ n', n' ≤ n → okL (pN P 2 m) n' f := fun n' h i hi => oL i (by omega)
  intro c hc h480
  by_cases q0 : op = 0
  · rw [if_pos q0, List.mem_singleton] at hc
    subst hc
    exact eM_push ll (by omega) oL he (fun z => absurd rfl z)
  rw [if_neg q0] at hc
  by_cases q1 : op = 1
  · rw [if_pos q1, List.mem_singleton] at hc
    subst hc
    have h4 := od1 (Or.inl q1)
    have h5 := aI h4.1
    exact eM_push ll (by omega) oL he (fun z => ⟨a, by omega, h5.1, rfl⟩)
  rw [if_neg q1] at hc
  by_cases q2 : op = 2
  · rw [if_pos q2, List.mem_singleton] at hc
    subst hc
    have h4 := od1 (Or.inr q2)
    have h5 := aI h4.1
    show eM (n - 1) (dropF (n - 1) (upF f a ((f (n - 1)).1, (f a).2)) (P 7 p))
    rw [h5.1]
    exact eM_drop ll (by omega) (oLp _ (by omega)) (eM_pop he (by omega))
  rw [if_neg q2] at hc
  by_cases q3 : op = 3
  · rw [if_pos q3, List.mem_singleton] at hc
    subst hc
    exact eM_push ll (by omega) oL he (fun z => absurd rfl z)
  rw [if_neg q3] at hc
  by_cases q4 : op = 4
  · rw [if_pos q4, List.mem_singleton] at hc
    subst hc
    exact eM_pop he (by show n - 1 ≤ n; omega)
  rw [if_neg q4] at hc
  by_cases q5 : op = 5
  · rw [if_pos q5, List.mem_singleton] at hc
    subst hc
    unfold shS at ey
    repeat (first | rw [if_pos (by omega)] at ey | rw [if_neg (by omega)] at ey)
    split at ey
    · cases ey
    · rename_i t1
      refine eM_push ll (by omega) oL he (fun z => ?_)
      rcases oL (n - 1) (by omega) with q | ⟨-, j, j1, j2⟩
      · exact absurd q z
      · refine ⟨j, j1, j2, ?_⟩
        have := he (n - 1) (by omega) z
        rw [j2, ofNat_cl (by omega)] at this
        exact this
  rw [if_neg q5] at hc
  by_cases q6 : op = 6
  · rw [if_pos q6, List.mem_singleton] at hc
    subst hc
    unfold shS at ey
    repeat (first | rw [if_pos (by omega)] at ey | rw [if_neg (by omega)] at ey)
    split at ey
    · cases ey
    · rename_i t1
      intro j hj hne
      have hne' : (upF (upF f (n - 1) (f (n - 2))) (n - 2) (f (n - 1)) j).2 ≠ -1 := hne
      show (upF (upF f (n - 1) (f (n - 2))) (n - 2) (f (n - 1)) j).1 = (upF (upF f (n - 1) (f (n - 2))) (n - 2) (f (n - 1)) (upF (upF f (n - 1) (f (n - 2))) (n - 2) (f (n - 1)) j).2.toNatClampNeg).1
      obtain ⟨j0, hj0, e0⟩ : ∃ j0, j0 < n ∧ upF (upF f (n - 1) (f (n - 2))) (n - 2) (f (n - 1)) j = f j0 := by
        unfold upF
        by_cases z1 : j = n - 2
        · exact ⟨n - 1, by omega, by rw [if_pos z1]⟩
        · by_cases z2 : j = n - 1
          · exact ⟨n - 2, by omega, by rw [if_neg z1, if_pos z2]⟩
          · exact ⟨j, hj, by rw [if_neg z1, if_neg z2]⟩
      rw [e0] at hne' ⊢
      rcases oL j0 hj0 with q | ⟨-, l, l1, l2⟩
      · exact absurd q hne'
      · have := he j0 hj0 hne'
        rw [l2, ofNat_cl (by omega)] at this ⊢
        unfold upF
        rw [if_neg (by omega), if_neg (by omega)]
        exact this
  rw [if_neg q6] at hc
  by_cases q10 : op = 10 ∨ op = 11
  · rw [if_pos q10] at hc
    unfold shS at ey
    repeat (first | rw [if_pos (by omega)] at ey | rw [if_neg (by omega)] at ey)
    obtain ⟨y1, e1, rfl⟩ := Option.map_eq_some_iff.mp ey
    obtain ⟨y2, e2, e3⟩ := Option.bind_eq_some_iff.mp e1
    obtain ⟨t1, t2, t3⟩ := tkS_some e2
    subst t3
    obtain ⟨u1, u2, u3⟩ := tkS_some e3
    have d1 : (dpS x).1 = x.1 - 1 := rfl
    have g := G_pop G t1
    split at hc
    · cases hc
    · rename_i z ez
      rw [List.mem_singleton] at hc
      subst hc
      have := eM_push ll (by omega) (okL_tell (oLp (n - 2) (by omega))) (eM_tell ll (by omega) (oLp (n - 2) (by omega)) (eM_pop he (by omega)) (mkL g.2.2.2.1) (v := .inl z)) (v := (.inl (actS op (spA (f (n - 2)).1) z), -1)) (fun z => absurd rfl z)
      rw [show n - 2 + 1 = n - 1 by omega] at this
      exact this
  rw [if_neg q10] at hc
  by_cases q17 : op ≤ 17
  · rw [if_pos q17, List.mem_singleton] at hc
    subst hc
    unfold shS at ey
    repeat (first | rw [if_pos (by omega)] at ey | rw [if_neg (by omega)] at ey)
    obtain ⟨y1, e1, rfl⟩ := Option.map_eq_some_iff.mp ey
    obtain ⟨y2, e2, e3⟩ := Option.bind_eq_some_iff.mp e1
    obtain ⟨t1, t2, t3⟩ := tkS_some e2
    subst t3
    obtain ⟨u1, u2, u3⟩ := tkS_some e3
    have d1 : (dpS x).1 = x.1 - 1 := rfl
    have := eM_push ll (by omega) (oLp (n - 2) (by omega)) (eM_pop he (by omega)) (v := (.inl (actS op (spA (f (n - 2)).1) (spA (f (n - 1)).1)), -1)) (fun z => absurd rfl z)
    rw [show n - 2 + 1 = n - 1 by omega] at this
    exact this
  rw [if_neg q17] at hc
  by_cases q18 : op = 18
  · rw [if_pos q18, List.mem_singleton] at hc
    subst hc
    unfold shS at ey
    repeat (first | rw [if_pos (by omega)] at ey | rw [if_neg (by omega)] at ey)
    obtain ⟨y1, e1, rfl⟩ := Option.map_eq_some_iff.mp ey
    obtain ⟨t1, t2, t3⟩ := tkS_some e1
    have := eM_push ll (by omega) (oLp (n - 1) (by omega)) (eM_pop he (by omega)) (v := (.inl (actS 18 (spA (f (n - 1)).1) (0, 0, 0)), -1)) (fun z => absurd rfl z)
    rw [show n - 1 + 1 = n by omega] at this
    exact this
  rw [if_neg q18] at hc
  by_cases q19 : op = 19
  · rw [if_pos q19, List.mem_singleton] at hc
    subst hc
    exact he
  rw [if_neg q19] at hc
  by_cases q25 : op ≤ 25
  · rw [if_pos q25] at hc
    unfold shS at ey
    repeat (first | rw [if_pos (by omega)] at ey | rw [if_neg (by omega)] at ey)
    obtain ⟨y2, e2, e3⟩ := Option.bind_eq_some_iff.mp ey
    obtain ⟨t1, t2, t3⟩ := tkS_some e2
    subst t3
    obtain ⟨u1, u2, u3⟩ := tkS_some e3
    have d1 : (dpS x).1 = x.1 - 1 := rfl
    have g := G_pop G t1
    have g2 := G_pop g.1 u1
    rw [show n - 1 - 1 = n - 2 by omega] at g2
    rcases List.mem_append.mp hc with hc | hc
    · obtain ⟨r, er, rfl⟩ := mem_conO hc
      exact eM_opens (n := n - 2) ll (by omega) (oLp (n - 2) (by omega)) (eM_pop he (by omega)) (mkL g2.2.2.2.1) (mkL g.2.2.2.1) er
    · obtain ⟨r, er, rfl⟩ := mem_conO hc
      exact eM_opens (n := n - 2) ll (by omega) (oLp (n - 2) (by omega)) (eM_pop he (by omega)) (mkL g2.2.2.2.1) (mkL g.2.2.2.1) er
  rw [if_neg q25] at hc
  by_cases q27 : op ≤ 27
  · rw [if_pos q27] at hc
    unfold shS at ey
    repeat (first | rw [if_pos (by omega)] at ey | rw [if_neg (by omega)] at ey)
    obtain ⟨t1, t2, t3⟩ := tkS_some ey
    have g := G_pop G t1
    rcases List.mem_append.mp hc with hc | hc
    · obtain ⟨r, er, rfl⟩ := mem_conO hc
      exact eM_null (n := n - 1) ll (by omega) (oLp (n - 1) (by omega)) (eM_pop he (by omega)) (mkL g.2.2.2.1) er
    · obtain ⟨r, er, rfl⟩ := mem_conO hc
      exact eM_null (n := n - 1) ll (by omega) (oLp (n - 1) (by omega)) (eM_pop he (by omega)) (mkL g.2.2.2.1) er
  rw [if_neg q27] at hc
  by_cases q28 : op = 28
  · rw [if_pos q28] at hc
    unfold shS at ey
    repeat (first | rw [if_pos (by omega)] at ey | rw [if_neg (by omega)] at ey)
    obtain ⟨y1, e1, rfl⟩ := Option.map_eq_some_iff.mp ey
    obtain ⟨t1, t2, t3⟩ := tkS_some e1
    have g := G_pop G t1
    split at hc
    · cases hc
    · rename_i z ez
      simp only [List.mem_cons, List.not_mem_nil, or_false] at hc
      rcases hc with rfl | rfl | rfl
      · exact eM_none (fun _ => rfl)
      · exact eM_none (fun _ => rfl)
      · have := eM_push ll (by omega) (okL_tell (oLp (n - 1) (by omega))) (eM_tell ll (by omega) (oLp (n - 1) (by omega)) (eM_pop he (by omega)) (mkL g.2.2.2.1) (v := .inl z)) (v := (.inr (shl1 (sn p), false), -1)) (fun z => absurd rfl z)
        rw [show n - 1 + 1 = n by omega] at this
        exact this
  rw [if_neg q28] at hc
  by_cases q29 : op = 29
  · rw [if_pos q29] at hc
    unfold shS at ey
    repeat (first | rw [if_pos (by omega)] at ey | rw [if_neg (by omega)] at ey)
    obtain ⟨y1, e1, rfl⟩ := Option.map_eq_some_iff.mp ey
    obtain ⟨t1, t2, t3⟩ := tkS_some e1
    have g := G_pop G t1
    split at hc
    · cases hc
    · rename_i z ez
      rw [List.mem_singleton] at hc
      subst hc
      have := eM_push ll (by omega) (okL_tell (oLp (n - 1) (by omega))) (eM_tell ll (by omega) (oLp (n - 1) (by omega)) (eM_pop he (by omega)) (mkL g.2.2.2.1) (v := .inr (stA (f (n - 1)).1, false))) (v := (.inl z, -1)) (fun z => absurd rfl z)
      rw [show n - 1 + 1 = n by omega] at this
      exact this
  rw [if_neg q29] at hc
  by_cases q30 : op = 30
  · rw [if_pos q30] at hc
    unfold shS at ey
    repeat (first | rw [if_pos (by omega)] at ey | rw [if_neg (by omega)] at ey)
    obtain ⟨y1, e1, rfl⟩ := Option.map_eq_some_iff.mp ey
    obtain ⟨y2, e2, e3⟩ := Option.bind_eq_some_iff.mp e1
    obtain ⟨t1, t2, t3⟩ := tkS_some e2
    subst t3
    obtain ⟨u1, u2, u3⟩ := tkS_some e3
    have d1 : (dpS x).1 = x.1 - 1 := rfl
    have g := G_pop G t1
    have g2 := G_pop g.1 u1
    rw [show n - 1 - 1 = n - 2 by omega] at g2
    split at hc
    · cases hc
    · split at hc
      · rename_i z1 ez1 z2 z3 ez2 ez3
        rw [List.mem_singleton] at hc
        subst hc
        have o2 := oLp (n - 2) (by omega)
        have a1 := eM_tell ll (by omega) o2 (eM_pop he (by omega)) (mkL g2.2.2.2.1) (v := .inr (stA (f (n - 2)).1, false))
        have a2 := eM_tell ll (by omega) (okL_tell o2) a1 (mkL g.2.2.2.1) (v := .inl z2)
        have := eM_push ll (by omega) (okL_tell (okL_tell o2)) a2 (v := (.inl z3, -1)) (fun z => absurd rfl z)
        rw [show n - 2 + 1 = n - 1 by omega] at this
        exact this
      · cases hc
  rw [if_neg q30] at hc
  by_cases q31 : op = 31
  · rw [if_pos q31] at hc
    unfold shS at ey
    repeat (first | rw [if_pos (by omega)] at ey | rw [if_neg (by omega)] at ey)
    obtain ⟨y2, e1, e4⟩ := Option.bind_eq_some_iff.mp ey
    obtain ⟨y3, e2, e3⟩ := Option.bind_eq_some_iff.mp e1
    obtain ⟨t1, t2, t3⟩ := tkS_some e2
    subst t3
    obtain ⟨u1, u2, u3⟩ := tkS_some e3
    subst u3
    obtain ⟨v1, v2, v3⟩ := tkS_some e4
    have d1 : (dpS x).1 = x.1 - 1 := rfl
    have d2 : (dpS (dpS x)).1 = x.1 - 1 - 1 := rfl
    have g := G_pop G t1
    have g2 := G_pop g.1 u1
    have g3 := G_pop g2.1 v1
    rw [show n - 1 - 1 = n - 2 by omega] at g2
    rw [show n - 1 - 1 - 1 = n - 3 by omega] at g3
    split at hc
    · cases hc
    · split at hc
      · cases hc
      · rename_i z1 ez1 z2 ez2
        rcases List.mem_append.mp hc with hc | hc
        · obtain ⟨s, hs1, rfl⟩ := List.mem_map.mp hc
          exact eM_none (fun _ => rfl)
        · rw [List.mem_singleton] at hc
          subst hc
          have o2 := oLp (n - 3) (by omega)
          have a1 := eM_tell ll (by omega) o2 (eM_pop he (by omega)) (mkL g3.2.2.2.1) (v := .inr (stA (f (n - 3)).1, false))
          exact eM_tell (n := n - 3) ll (by omega) (okL_tell o2) a1 (mkL g2.2.2.2.1)
  rw [if_neg q31] at hc
  by_cases q32 : op = 32
  · rw [if_pos q32] at hc
    unfold shS at ey
    repeat (first | rw [if_pos (by omega)] at ey | rw [if_neg (by omega)] at ey)
    obtain ⟨y1, e1, rfl⟩ := Option.map_eq_some_iff.mp ey
    obtain ⟨r1, r2, r3, r4, r5⟩ := tkN_ty (pN P 1 a) G e1 hx
    rcases List.mem_cons.mp hc with rfl | hc
    · refine eM_none (fun i => ?_)
      show (entF P a n f i).2 = -1
      unfold entF
      repeat' split
      all_goals rfl
    · split at hc
      · by_cases q : pN P 4 a = 0
        · rw [if_pos q, List.mem_singleton] at hc
          subst hc
          exact eM_pop he (by show n - pN P 1 a ≤ n; omega)
        · rw [if_neg q, List.mem_singleton] at hc
          subst hc
          exact eM_push (n := n - pN P 1 a) ll (by omega) (oLp _ (by omega)) (eM_pop he (by omega)) (fun z => absurd rfl z)
      · cases hc
  rw [if_neg q32] at hc
  by_cases q33 : op = 33
  · rw [if_pos q33] at hc
    by_cases q : pN P 4 m = 0
    · rw [if_pos q, List.mem_singleton] at hc
      subst hc
      exact absurd h480 (by show ¬ (534 + m < 480); omega)
    · rw [if_neg q, List.mem_singleton] at hc
      subst hc
      exact eM_none (fun _ => rfl)
  rw [if_neg q33] at hc
  by_cases q34 : op = 34
  · rw [if_pos q34] at hc
    split at hc
    · rw [List.mem_singleton] at hc
      subst hc
      exact eM_push ll (by omega) oL he (fun z => absurd rfl z)
    · cases hc
  rw [if_neg q34] at hc
  simp only [List.mem_cons, List.not_mem_nil, or_false] at hc
  rcases hc with rfl | rfl
  · exact eM_none (fun _ => rfl)
  · exact eM_pop he (by show n - 1 ≤ n; omega)
end PURE13
