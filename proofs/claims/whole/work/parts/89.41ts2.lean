-- needs: 89.40
section TS2
variable {k : Nat} {P : Pm} {sh : Nat → Option Sh} {sn : Nat → Nat} {wd : Nat → Bool} {Fc : Fa} {z z' : Mc} {x y : Sh} {c : Nat}
theorem pt_tp (hx : x.2 < 2 ^ x.1) (h0 : x.1 ≠ 0) : ptS (tpS x) (dpS x) = x := by
  obtain ⟨d, b⟩ := x
  have h0 : d ≠ 0 := h0
  have hx : b < 2 ^ d := hx
  obtain ⟨e, rfl⟩ : ∃ e, d = e + 1 := ⟨d - 1, by omega⟩
  show (e + 1 - 1 + 1, 2 ^ (e + 1 - 1) * (b.testBit (e + 1 - 1)).toNat + b % 2 ^ (e + 1 - 1)) = (e + 1, b)
  rw [Nat.add_sub_cancel]
  refine Prod.ext rfl ?_
  show 2 ^ e * (b.testBit e).toNat + b % 2 ^ e = b
  have h1 : b.testBit e = decide (b / 2 ^ e % 2 = 1) := by
    rw [Nat.testBit_eq_decide_div_mod_eq]
  have h2 : b / 2 ^ e < 2 := by
    rw [Nat.pow_succ] at hx
    exact Nat.div_lt_of_lt_mul hx
  have h3 := Nat.div_add_mod b (2 ^ e)
  rw [h1]
  have h4 : b / 2 ^ e = 0 ∨ b / 2 ^ e = 1 := by
    rcases Nat.lt_or_ge (b / 2 ^ e) 1 with q | q
    · exact Or.inl (Nat.lt_one_iff.mp q)
    · exact Or.inr (Nat.le_antisymm (Nat.le_of_lt_succ h2) q)
  rcases h4 with q | q
  · rw [q] at h3 ⊢
    simp
    simpa using h3
  · rw [q] at h3 ⊢
    simpa using h3
theorem TSx.nx (T : TSx k P sh y z') (hm : z'.cur.m = z.cur.m) (hi : z'.cur.i = z.cur.i + 1) (h : z.cur.i + 1 < pN P 5 z.cur.m ∧ sh (curP z + 1) = some y) : TS k P sh z' := T.to (by rw [hm, hi]; exact h.1) (by
  unfold curP
  rw [hm, hi]
  exact h.2)
theorem TSx.jp {t : Nat} (T : TSx k P sh y z') (hm : z'.cur.m = z.cur.m) (hi : z'.cur.i = t) (h : t < pN P 5 z.cur.m ∧ sh (60 * z.cur.m + t) = some y) : TS k P sh z' := T.to (by rw [hm, hi]; exact h.1) (by
  unfold curP
  rw [hm, hi]
  exact h.2)
/-- two are taken -/
theorem TSx.pop2 {p q : Bool} (T : TSx k P sh x z) (e : (tkS p x).bind (tkS q) = some y) : TSx k P sh y (popZ (popZ z)) ∧ 2 ≤ z.cur.n ∧ (q = true → ∃ r, r ≤ z.hp.c ∧ topV (popZ z) = nI r) := by
  obtain ⟨u, e1, e2⟩ := Option.bind_eq_some_iff.mp e
  obtain ⟨a1, a2, a3⟩ := tkS_some e1
  obtain ⟨b1, b2, b3⟩ := tkS_some e2
  subst a3
  have g := T.pop a1
  have g2 := g.1.pop b1
  subst b3
  refine ⟨g2.1, ?_, fun hq => g2.2.1 (by rw [b2]; exact hq)⟩
  have := g2.2.2
  rw [n_pop] at this
  omega
theorem TSx.pop1 {p : Bool} (T : TSx k P sh x z) (e : tkS p x = some y) : TSx k P sh y (popZ z) ∧ 1 ≤ z.cur.n ∧ (p = true → ∃ r, r ≤ z.hp.c ∧ topV z = nI r) := by
  obtain ⟨a1, a2, a3⟩ := tkS_some e
  have g := T.pop a1
  subst a3
  exact ⟨g.1, g.2.2, fun hq => g.2.1 (by rw [a2]; exact hq)⟩
theorem pop_m (z : Mc) : (popZ z).cur.m = z.cur.m := by rw [cur_pop]
theorem pop_i (z : Mc) : (popZ z).cur.i = z.cur.i := by rw [cur_pop]
theorem psh_m (z : Mc) (v : Int32) : (pshZ z v).cur.m = z.cur.m := by rw [cur_psh]
theorem psh_i (z : Mc) (v : Int32) : (pshZ z v).cur.i = z.cur.i := by rw [cur_psh]
theorem got_m (z : Mc) (t : Nat) : (gotZ z t).cur.m = z.cur.m := by rw [cur_got]
theorem got_i (z : Mc) (t : Nat) : (gotZ z t).cur.i = t := by rw [cur_got]
theorem got_n (z : Mc) (t : Nat) : (gotZ z t).cur.n = z.cur.n := by rw [cur_got]
theorem got_s (z : Mc) (t : Nat) : (gotZ z t).cur.s = z.cur.s := by rw [cur_got]
theorem loc_m (z : Mc) (b : Nat) (v : Int32) : (locZ z b v).cur.m = z.cur.m := by rw [cur_loc]
theorem loc_i (z : Mc) (b : Nat) (v : Int32) : (locZ z b v).cur.i = z.cur.i := by rw [cur_loc]
/-- moves -/
theorem mvZ_ok {m op : Nat} {a : Int32} (T : TSx k P sh x z) (hm : z.cur.m = m) (ho : op ≤ 6) (od : (op = 1 ∨ op = 2) → a = nI a.toNatClampNeg ∧ a.toNatClampNeg < pN P 2 m) (l6 : pN P 2 m ≤ 6) (x8 : x.1 ≤ 8) (y8 : y.1 ≤ 8) (e : shS P m op a.toNatClampNeg x = some y) : mvK op a z.cur.n ∧ TSx k P sh y (movZ op a z) ∧ (movZ op a z).cur.m = z.cur.m ∧ (movZ op a z).cur.i = z.cur.i := by
  have hn : z.cur.n = pN P 2 m + x.1 := by rw [← hm]; exact T.2.2.2.2.1.1
  have xo := T.2.2.2.1
  rcases (show op = 0 ∨ op = 1 ∨ op = 2 ∨ op = 3 ∨ op = 4 ∨ op = 5 ∨ op = 6 by omega) with q | q | q | q | q | q | q
  · subst q
    have e := Option.some.inj (show some (ptS false x) = some y from e)
    subst e
    have : x.1 + 1 ≤ 8 := y8
    refine ⟨⟨fun _ => by omega, ?_, ?_, ?_, ?_, ?_⟩, T.psh (fun q => by cases q), psh_m _ _, psh_i _ _⟩ <;> (intro q; exact absurd q (by decide))
  · subst q
    have e := Option.some.inj (show some (ptS (kdB P m a.toNatClampNeg) x) = some y from e)
    subst e
    have : x.1 + 1 ≤ 8 := y8
    obtain ⟨o1, o2⟩ := od (Or.inl rfl)
    refine ⟨⟨?_, fun _ => ⟨by omega, _, by omega, by omega, o1⟩, ?_, ?_, ?_, ?_⟩, T.psh (fun q => T.2.2.2.2.1.2 _ (by omega) ?_), psh_m _ _, psh_i _ _⟩
    · intro q; exact absurd q (by decide)
    · intro q; exact absurd q (by decide)
    · intro q; exact absurd q (by decide)
    · intro q; exact absurd q (by decide)
    · intro q; exact absurd q (by decide)
    · rw [hm, kdF_lo o2]; exact q
  · subst q
    have e : tkS (kdB P m a.toNatClampNeg) x = some y := e
    obtain ⟨g1, g2, g3⟩ := T.pop1 e
    obtain ⟨t1, -, -⟩ := tkS_some e
    obtain ⟨o1, o2⟩ := od (Or.inr rfl)
    refine ⟨⟨?_, ?_, fun _ => ⟨g2, _, by omega, by omega, o1⟩, ?_, ?_, ?_⟩, g1.loc (by rw [pop_m, hm]; exact o2) (fun q => g3 (by rw [pop_m, hm] at q; exact q)), ?_, ?_⟩
    · intro q; exact absurd q (by decide)
    · intro q; exact absurd q (by decide)
    · intro q; exact absurd q (by decide)
    · intro q; exact absurd q (by decide)
    · intro q; exact absurd q (by decide)
    · exact (loc_m _ _ _).trans (pop_m _)
    · exact (loc_i _ _ _).trans (pop_i _)
  · subst q
    have e := Option.some.inj (show some (ptS true x) = some y from e)
    subst e
    have : x.1 + 1 ≤ 8 := y8
    refine ⟨⟨fun _ => by omega, ?_, ?_, ?_, ?_, ?_⟩, T.psh (fun _ => ⟨0, Nat.zero_le _, rfl⟩), psh_m _ _, psh_i _ _⟩ <;> (intro q; exact absurd q (by decide))
  · subst q
    have e : (if x.1 = 0 then none else some (dpS x)) = some y := e
    split at e
    · cases e
    · rename_i h0
      have e := Option.some.inj e
      subst e
      have g := T.pop h0
      refine ⟨⟨?_, ?_, ?_, fun _ => g.2.2, ?_, ?_⟩, g.1, pop_m _, pop_i _⟩ <;> (intro q; exact absurd q (by decide))
  · subst q
    have e : (if x.1 = 0 then none else some (ptS (tpS x) x)) = some y := e
    split at e
    · cases e
    · rename_i h0
      have e := Option.some.inj e
      subst e
      have : x.1 + 1 ≤ 8 := y8
      have g := T.pop h0
      have g2 := g.1.psh (v := topV z) (b := tpS x) g.2.1
      rw [pt_tp xo h0] at g2
      refine ⟨⟨?_, ?_, ?_, ?_, fun _ => ⟨g.2.2, by omega⟩, ?_⟩, g2.psh (v := topV z) (b := tpS x) g.2.1, ?_, ?_⟩
      · intro q; exact absurd q (by decide)
      · intro q; exact absurd q (by decide)
      · intro q; exact absurd q (by decide)
      · intro q; exact absurd q (by decide)
      · intro q; exact absurd q (by decide)
      · exact (psh_m _ _).trans ((psh_m _ _).trans (pop_m _))
      · exact (psh_i _ _).trans ((psh_i _ _).trans (pop_i _))
  · subst q
    have e : (if x.1 < 2 then none else some (ptS (tpS (dpS x)) (ptS (tpS x) (dpS (dpS x))))) = some y := e
    split at e
    · cases e
    · rename_i h0
      have e := Option.some.inj e
      subst e
      have g := T.pop (by omega)
      have g2 := g.1.pop (show (dpS x).1 ≠ 0 by show x.1 - 1 ≠ 0; omega)
      have g3 := g2.1.psh (v := topV z) (b := tpS x) g.2.1
      refine ⟨⟨?_, ?_, ?_, ?_, ?_, fun _ => by omega⟩, g3.psh (v := topV (popZ z)) (b := tpS (dpS x)) g2.2.1, ?_, ?_⟩
      · intro q; exact absurd q (by decide)
      · intro q; exact absurd q (by decide)
      · intro q; exact absurd q (by decide)
      · intro q; exact absurd q (by decide)
      · intro q; exact absurd q (by decide)
      · exact (psh_m _ _).trans ((psh_m _ _).trans ((pop_m _).trans (pop_m _)))
      · exact (psh_i _ _).trans ((psh_i _ _).trans ((pop_i _).trans (pop_i _)))
end TS2
