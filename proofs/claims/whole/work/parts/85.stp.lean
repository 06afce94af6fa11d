-- needs: 84
section STP
variable {k : Nat} {P : Pm} {sh : Nat → Option Sh} {sn : Nat → Nat} {wd : Nat → Bool}
theorem mk14 {m : Nat} {b : Bool} {mk : Int32} (hl : pN P 2 m ≤ 6) (h : mkO P m b mk) : mk = -1 ∨ ∃ j, j < 14 ∧ mk = nI j := by
  rcases h with h | ⟨j, a, b, -⟩
  · exact Or.inl h
  · exact Or.inr ⟨j, by omega, b⟩
def mkN (mk : Int32) : Prop := mk = -1 ∨ ∃ j, j < 14 ∧ mk = nI j
/-- what is known where an instruction is stepped: the common things -/
theorem st_com (B : Built k P sh sn wd) {F : Fa} {p : Nat} (hp : p < 480) (hF : okF (tyF P sh) F) (ht : (F p).told = true) : (F p).n ≤ 14 ∧ pN P 6 p ≤ 35 := by
  obtain ⟨m, i, x, y, hm, hm8, hi, hi60, hpe, hs, hx8, hx, G, h60, ll, hop, -, -, -⟩ := plc B hp hF ht
  have en := G_n G
  exact ⟨by omega, hop⟩
theorem st_two {m : Nat} {x y : Sh} {n : Nat} {f : Nat → Sl} (ll : pN P 2 m ≤ 6) (G : tyG P m x n f) (e : (tkS false x).bind (tkS false) = some y) : 2 ≤ n ∧ ∃ X Y, (f (n - 2)).1 = .inl X ∧ (f (n - 1)).1 = .inl Y ∧ okS X ∧ okS Y ∧ mkN (f (n - 2)).2 ∧ mkN (f (n - 1)).2 := by
  obtain ⟨y2, e2, e3⟩ := Option.bind_eq_some_iff.mp e
  obtain ⟨t1, t2, t3⟩ := tkS_some e2
  subst t3
  obtain ⟨u1, u2, u3⟩ := tkS_some e3
  have d1 : (dpS x).1 = x.1 - 1 := rfl
  have g := G_pop G t1
  have g2 := G_pop g.1 u1
  rw [show n - 1 - 1 = n - 2 by omega] at g2
  have aY : arA (f (n - 1)).1 = false := by rw [g.2.2.1, t2]
  have aX : arA (f (n - 2)).1 = false := by rw [g2.2.2.1, u2]
  exact ⟨by omega, _, _, ar_s aX, ar_s aY, ok_sp g2.2.1 aX, ok_sp g.2.1 aY, mk14 ll g2.2.2.2.1, mk14 ll g.2.2.2.1⟩
theorem st_int {m : Nat} {x y : Sh} {n : Nat} {f : Nat → Sl} (ll : pN P 2 m ≤ 6) (G : tyG P m x n f) (e : tkS false x = some y) : 1 ≤ n ∧ ∃ X, (f (n - 1)).1 = .inl X ∧ okS X ∧ mkN (f (n - 1)).2 := by
  obtain ⟨t1, t2, t3⟩ := tkS_some e
  have g := G_pop G t1
  have aY : arA (f (n - 1)).1 = false := by rw [g.2.2.1, t2]
  exact ⟨by omega, _, ar_s aY, ok_sp g.2.1 aY, mk14 ll g.2.2.2.1⟩
theorem st_set {m : Nat} {x y : Sh} {n : Nat} {f : Nat → Sl} (ll : pN P 2 m ≤ 6) (G : tyG P m x n f) (e : tkS true x = some y) : 1 ≤ n ∧ ∃ bs on, (f (n - 1)).1 = .inr (bs, on) ∧ mkN (f (n - 1)).2 := by
  obtain ⟨t1, t2, t3⟩ := tkS_some e
  have g := G_pop G t1
  have aY : arA (f (n - 1)).1 = true := by rw [g.2.2.1, t2]
  exact ⟨by omega, _, _, ar_t aY, mk14 ll g.2.2.2.1⟩
theorem st_get {m : Nat} {x y : Sh} {n : Nat} {f : Nat → Sl} (ll : pN P 2 m ≤ 6) (G : tyG P m x n f) (e : (tkS false x).bind (tkS true) = some y) : 2 ≤ n ∧ ∃ X bs on, (f (n - 1)).1 = .inl X ∧ okS X ∧ (f (n - 2)).1 = .inr (bs, on) ∧ mkN (f (n - 2)).2 ∧ mkN (f (n - 1)).2 := by
  obtain ⟨y2, e2, e3⟩ := Option.bind_eq_some_iff.mp e
  obtain ⟨t1, t2, t3⟩ := tkS_some e2
  subst t3
  obtain ⟨u1, u2, u3⟩ := tkS_some e3
  have d1 : (dpS x).1 = x.1 - 1 := rfl
  have g := G_pop G t1
  have g2 := G_pop g.1 u1
  rw [show n - 1 - 1 = n - 2 by omega] at g2
  have aY : arA (f (n - 1)).1 = false := by rw [g.2.2.1, t2]
  have aX : arA (f (n - 2)).1 = true := by rw [g2.2.2.1, u2]
  exact ⟨by omega, _, _, _, ar_s aY, ok_sp g.2.1 aY, ar_t aX, mk14 ll g2.2.2.2.1, mk14 ll g.2.2.2.1⟩
theorem st_put {m : Nat} {x y : Sh} {n : Nat} {f : Nat → Sl} (ll : pN P 2 m ≤ 6) (G : tyG P m x n f) (e : ((tkS false x).bind (tkS false)).bind (tkS true) = some y) : 3 ≤ n ∧ ∃ X bs on, (f (n - 2)).1 = .inl X ∧ okS X ∧ (f (n - 3)).1 = .inr (bs, on) ∧ mkN (f (n - 3)).2 ∧ mkN (f (n - 2)).2 := by
  obtain ⟨y2, e1, e4⟩ := Option.bind_eq_some_iff.mp e
  obtain ⟨y3, e2, e3⟩ := Option.bind_eq_some_iff.mp e1
  obtain ⟨t1, t2, t3⟩ := tkS_some e2
  subst t3
  obtain ⟨u1, u2, u3⟩ := tkS_some e3
  subst u3
  obtain ⟨v1, v2, v3⟩ := tkS_some e4
  have d1 : (dpS x).1 = x.1 - 1 := rfl
  have d2 : (dpS (dpS x)).1 = x.1 - 1 - 1 := rfl
  have g := G_pop G t1
  have g2 := G_pop g.1 u1
  have g3 := G_pop g2.1 v1
  rw [show n - 1 - 1 = n - 2 by omega] at g2
  rw [show n - 1 - 1 - 1 = n - 3 by omega] at g3
  have aX : arA (f (n - 2)).1 = false := by rw [g2.2.2.1, u2]
  have aR : arA (f (n - 3)).1 = true := by rw [g3.2.2.1, v2]
  exact ⟨by omega, _, _, _, ar_s aX, ok_sp g2.2.1 aX, ar_t aR, mk14 ll g3.2.2.2.1, mk14 ll g2.2.2.2.1⟩
/-- what comes of each instruction -/
theorem outs_mv {F : Fa} {p : Nat} (h : pN P 6 p ≤ 6) : outs P sn F p = [(p + 1, (moveS (P 7 p) (pN P 6 p) (F p).n (F p).f).1, (moveS (P 7 p) (pN P 6 p) (F p).n (F p).f).2)] := by
  unfold outs moveS
  simp only
  generalize pN P 6 p = o at *
  have cases7 : o = 0 ∨ o = 1 ∨ o = 2 ∨ o = 3 ∨ o = 4 ∨ o = 5 ∨ o = 6 := by omega
  rcases cases7 with rfl | rfl | rfl | rfl | rfl | rfl | rfl <;> rfl
theorem outs_rk {F : Fa} {p : Nat} (h1 : 7 ≤ pN P 6 p) (h2 : pN P 6 p ≤ 18) : outs P sn F p = (match reckS (pN P 6 p) (F p).n (F p).f with
    | none => []
    | some q => [(p + 1, q.1, q.2)]) := by
  unfold outs reckS
  simp only
  generalize pN P 6 p = o at *
  by_cases q : o = 10 ∨ o = 11
  · repeat (first | rw [if_pos q] | rw [if_neg (by omega)])
    generalize loseS (spA ((F p).f ((F p).n - 1)).1) 0 = w
    cases w <;> rfl
  · by_cases q2 : o = 18
    · subst q2
      rfl
    · rw [if_neg q, if_neg q2]
      repeat (first | rw [if_neg q] | rw [if_pos (by omega)] | rw [if_neg (by omega)])
theorem outs_go {F : Fa} {p m i : Nat} (hp : p = 60 * m + i) (hi : i < 60) (h : pN P 6 p = 19) : outs P sn F p = [(60 * m + pN P 7 p, (F p).n, (F p).f)] := by
  have h60 : p / 60 = m := by omega
  unfold outs
  simp only [h60]
  repeat (first | rw [if_pos (by omega)] | rw [if_neg (by omega)])
theorem outs_cp {F : Fa} {p m i : Nat} (hp : p = 60 * m + i) (hi : i < 60) (h1 : 20 ≤ pN P 6 p) (h2 : pN P 6 p ≤ 25) : outs P sn F p = conO (60 * m + pN P 7 p) ((F p).n - 2) (opensF (pN P 6 p) ((F p).n - 2) (F p).f (spA ((F p).f ((F p).n - 2)).1) (spA ((F p).f ((F p).n - 1)).1) ((F p).f ((F p).n - 2)).2 ((F p).f ((F p).n - 1)).2)
    ++ conO (p + 1) ((F p).n - 2) (opensF (if pN P 6 p % 2 = 0 then pN P 6 p + 1 else pN P 6 p - 1) ((F p).n - 2) (F p).f (spA ((F p).f ((F p).n - 2)).1) (spA ((F p).f ((F p).n - 1)).1) ((F p).f ((F p).n - 2)).2 ((F p).f ((F p).n - 1)).2) := by
  have h60 : p / 60 = m := by omega
  unfold outs
  simp only [h60]
  rw [if_neg (by omega), if_neg (by omega), if_neg (by omega), if_neg (by omega), if_neg (by omega), if_neg (by omega), if_neg (by omega), if_neg (by omega), if_neg (by omega), if_neg (by omega), if_neg (by omega), if_pos h2]
theorem outs_nl {F : Fa} {p m i : Nat} (hp : p = 60 * m + i) (hi : i < 60) (h1 : 26 ≤ pN P 6 p) (h2 : pN P 6 p ≤ 27) : outs P sn F p = conO (60 * m + pN P 7 p) ((F p).n - 1) (nullF (decide (pN P 6 p = 26)) ((F p).n - 1) (F p).f) ++ conO (p + 1) ((F p).n - 1) (nullF (decide (pN P 6 p = 27)) ((F p).n - 1) (F p).f) := by
  have h60 : p / 60 = m := by omega
  unfold outs
  simp only [h60]
  repeat (first | rw [if_pos (by omega)] | rw [if_neg (by omega)])
theorem outs_28 {F : Fa} {p : Nat} (h : pN P 6 p = 28) : outs P sn F p = (match withinS (spA ((F p).f ((F p).n - 1)).1) 0 2147483647 with
    | none => []
    | some x => [(480 + sn p, 1, one (.inl x)), (505 + sn p, 1, one (.inl (0, 0, 0))), (p + 1, (F p).n, upF (tellF ((F p).n - 1) (F p).f ((F p).f ((F p).n - 1)).2 (.inl x)) ((F p).n - 1) (.inr (shl1 (sn p), false), -1))]) := by
  unfold outs
  simp only
  repeat (first | rw [if_pos (by omega)] | rw [if_neg (by omega)])
  rfl
theorem outs_29 {F : Fa} {p : Nat} (h : pN P 6 p = 29) : outs P sn F p = (match gathF F 480 (stA ((F p).f ((F p).n - 1)).1) 25 with
    | none => []
    | some z => [(p + 1, (F p).n, upF (tellF ((F p).n - 1) (F p).f ((F p).f ((F p).n - 1)).2 (.inr (stA ((F p).f ((F p).n - 1)).1, false))) ((F p).n - 1) (.inl z, -1))]) := by
  unfold outs
  simp only
  repeat (first | rw [if_pos (by omega)] | rw [if_neg (by omega)])
  rfl
theorem outs_30 {F : Fa} {p : Nat} (h : pN P 6 p = 30) : outs P sn F p = (match gathF F 480 (stA ((F p).f ((F p).n - 2)).1) 25 with
    | none => []
    | some z => match withinS (spA ((F p).f ((F p).n - 1)).1) 0 (z.2.1 - 1), gathF F 505 (stA ((F p).f ((F p).n - 2)).1) 25 with
      | some x, some e => [(p + 1, (F p).n - 1, upF (tellF ((F p).n - 2) (tellF ((F p).n - 2) (F p).f ((F p).f ((F p).n - 2)).2 (.inr (stA ((F p).f ((F p).n - 2)).1, false))) ((F p).f ((F p).n - 1)).2 (.inl x)) ((F p).n - 2) (.inl e, -1))]
      | _, _ => []) := by
  unfold outs
  simp only
  repeat (first | rw [if_pos (by omega)] | rw [if_neg (by omega)])
  rfl
theorem outs_31 {F : Fa} {p : Nat} (h : pN P 6 p = 31) : outs P sn F p = (match gathF F 480 (stA ((F p).f ((F p).n - 3)).1) 25 with
    | none => []
    | some z => match withinS (spA ((F p).f ((F p).n - 2)).1) 0 (z.2.1 - 1) with
      | none => []
      | some x => ((List.range 25).filter (bitA (stA ((F p).f ((F p).n - 3)).1))).map (fun s => (505 + s, 1, one ((F p).f ((F p).n - 1)).1)) ++ [(p + 1, (F p).n - 3, tellF ((F p).n - 3) (tellF ((F p).n - 3) (F p).f ((F p).f ((F p).n - 3)).2 (.inr (stA ((F p).f ((F p).n - 3)).1, false))) ((F p).f ((F p).n - 2)).2 (.inl x))]) := by
  unfold outs
  simp only
  repeat (first | rw [if_pos (by omega)] | rw [if_neg (by omega)])
  rfl
theorem outs_32 {F : Fa} {p : Nat} (h : pN P 6 p = 32) : outs P sn F p = (60 * pN P 7 p, pN P 2 (pN P 7 p), entF P (pN P 7 p) (F p).n (F p).f) :: (if (F (534 + pN P 7 p)).told = true then (if pN P 4 (pN P 7 p) = 0 then [(p + 1, (F p).n - pN P 1 (pN P 7 p), (F p).f)] else [(p + 1, (F p).n - pN P 1 (pN P 7 p) + 1, upF (F p).f ((F p).n - pN P 1 (pN P 7 p)) (((F (534 + pN P 7 p)).f 0).1, -1))]) else []) := by
  unfold outs
  simp only
  repeat (first | rw [if_pos (by omega)] | rw [if_neg (by omega)])
theorem outs_33 {F : Fa} {p m i : Nat} (hp : p = 60 * m + i) (hi : i < 60) (h : pN P 6 p = 33) : outs P sn F p = (if pN P 4 m = 0 then [(534 + m, 0, (F p).f)] else [(534 + m, 1, one ((F p).f ((F p).n - 1)).1)]) := by
  have h60 : p / 60 = m := by omega
  unfold outs
  simp only [h60]
  rw [if_neg (by omega), if_neg (by omega), if_neg (by omega), if_neg (by omega), if_neg (by omega), if_neg (by omega), if_neg (by omega), if_neg (by omega), if_neg (by omega), if_neg (by omega), if_neg (by omega), if_neg (by omega), if_neg (by omega), if_neg (by omega), if_neg (by omega), if_neg (by omega), if_neg (by omega), if_neg (by omega), if_pos h]
theorem outs_34 {F : Fa} {p : Nat} (h : pN P 6 p = 34) : outs P sn F p = (if (F (530 + pN P 7 p)).told = true then [(p + 1, (F p).n + 1, upF (F p).f (F p).n (((F (530 + pN P 7 p)).f 0).1, -1))] else []) := by
  unfold outs
  simp only
  repeat (first | rw [if_pos (by omega)] | rw [if_neg (by omega)])
theorem outs_35 {F : Fa} {p : Nat} (h : 35 ≤ pN P 6 p) : outs P sn F p = [(530 + pN P 7 p, 1, one ((F p).f ((F p).n - 1)).1), (p + 1, (F p).n - 1, (F p).f)] := by
  unfold outs
  simp only
  repeat (first | rw [if_pos (by omega)] | rw [if_neg (by omega)])
/-- the shapes' side of each instruction -/
theorem sh_ar {m o a : Nat} {x : Sh} (h1 : 7 ≤ o) (h2 : o ≤ 17) : shS P m o a x = ((tkS false x).bind (tkS false)).map (ptS false) := by
  unfold shS
  repeat (first | rw [if_pos (by omega)] | rw [if_neg (by omega)])
theorem sh_cp {m o a : Nat} {x : Sh} (h1 : 20 ≤ o) (h2 : o ≤ 25) : shS P m o a x = (tkS false x).bind (tkS false) := by
  unfold shS
  repeat (first | rw [if_pos (by omega)] | rw [if_neg (by omega)])
theorem sh_nl {m o a : Nat} {x : Sh} (h1 : 26 ≤ o) (h2 : o ≤ 27) : shS P m o a x = tkS true x := by
  unfold shS
  repeat (first | rw [if_pos (by omega)] | rw [if_neg (by omega)])
theorem st_move (B : Built k P sh sn wd) {F : Fa} {p : Nat} (hp : p < 480) (hF : okF (tyF P sh) F) (ht : (F p).told = true) (h6 : pN P 6 p ≤ 6) : moveOk (P 7 p) (pN P 6 p) (F p).n := by
  have okk := fun c hc => (outs_all B hp hF ht c hc).1
  obtain ⟨m, i, x, y, hm, hm8, hi, hi60, hpe, hs, hx8, hx, G, h60, ll, hop, ⟨od1, od2, od3, od4⟩, ey, aI⟩ := plc B hp hF ht
  have en := G_n G
  obtain ⟨-, y', ey', nx, -⟩ := B.next m i x hm hi (by rw [← hpe]; exact hs)
  rw [← hpe] at ey' nx
  have nx' := nx (by omega) (by omega)
  have y8 : y'.1 ≤ 8 := (B.at_ _ _ nx'.2).elim (fun _ h => h.elim (fun _ h => h.2.2.2.1))
  rw [ey] at ey'
  cases ey'
  generalize pN P 6 p = o at *
  refine ⟨by omega, fun h => ?_, fun h => ?_, fun h => ?_, fun h => ?_, fun h => ?_⟩
  · rcases h with rfl | rfl | rfl | rfl
    · have e : ptS false x = y := Option.some.inj ey
      have : y.1 = x.1 + 1 := by rw [← e]; rfl
      omega
    · have e : ptS (kdB P m (pN P 7 p)) x = y := Option.some.inj ey
      have : y.1 = x.1 + 1 := by rw [← e]; rfl
      omega
    · have e : ptS true x = y := Option.some.inj ey
      have : y.1 = x.1 + 1 := by rw [← e]; rfl
      omega
    · have e : (if x.1 = 0 then none else some (ptS (tpS x) x)) = some y := ey
      split at e
      · cases e
      · have : y.1 = x.1 + 1 := by rw [← Option.some.inj e]; rfl
        omega
  · have h4 := od1 (Or.inl h)
    have h5 := aI h4.1
    exact ⟨_, h5.1, by omega⟩
  · subst h
    have h4 := od1 (Or.inr rfl)
    have h5 := aI h4.1
    obtain ⟨t1, -, -⟩ := tkS_some (show tkS (kdB P m (pN P 7 p)) x = some y from ey)
    exact ⟨by omega, _, h5.1, by omega⟩
  · rcases h with rfl | rfl
    · have e : (if x.1 = 0 then none else some (dpS x)) = some y := ey
      split at e
      · cases e
      · omega
    · have e : (if x.1 = 0 then none else some (ptS (tpS x) x)) = some y := ey
      split at e
      · cases e
      · omega
  · subst h
    have e : (if x.1 < 2 then none else some (ptS (tpS (dpS x)) (ptS (tpS x) (dpS (dpS x))))) = some y := ey
    split at e
    · cases e
    · omega
end STP
