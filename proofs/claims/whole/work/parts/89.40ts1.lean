-- needs: 89.39
section TS1
variable {k : Nat} {P : Pm} {sh : Nat → Option Sh} {sn : Nat → Nat} {wd : Nat → Bool} {Fc : Fa} {z : Mc} {x y : Sh} {c : Nat}
theorem kd_dp {m i : Nat} (h : i < pN P 2 m + (x.1 - 1)) : kdF P m (dpS x) i = kdF P m x i := by
  by_cases q : i < pN P 2 m
  · rw [kdF_lo q, kdF_lo q]
  · obtain ⟨j, rfl⟩ : ∃ j, i = pN P 2 m + j := ⟨i - pN P 2 m, by omega⟩
    rw [kdF_hi, kdF_hi, dp_bit (by omega)]
theorem kd_pt {m i : Nat} {b : Bool} (hx : x.2 < 2 ^ x.1) (h : i < pN P 2 m + x.1) : kdF P m (ptS b x) i = kdF P m x i := by
  by_cases q2 : i < pN P 2 m
  · rw [kdF_lo q2, kdF_lo q2]
  · obtain ⟨j, rfl⟩ : ∃ j, i = pN P 2 m + j := ⟨i - pN P 2 m, by omega⟩
    rw [kdF_hi, kdF_hi, pt_bit hx, if_pos (by omega)]
theorem kd_pt' {m : Nat} {b : Bool} (hx : x.2 < 2 ^ x.1) : kdF P m (ptS b x) (pN P 2 m + x.1) = b := by
  rw [kdF_hi, pt_bit hx]
  cases b <;> simp
theorem kd_tp {m n : Nat} (h0 : x.1 ≠ 0) (hn : n = pN P 2 m + x.1) : kdF P m x (n - 1) = tpS x := by
  rw [show n - 1 = pN P 2 m + (x.1 - 1) by omega, kdF_hi]
  rfl
theorem vT_pop {m n : Nat} {s : Nat → Int32} (h : vT P m x n s c) (h0 : x.1 ≠ 0) : vT P m (dpS x) (n - 1) s c ∧ (tpS x = true → ∃ r, r ≤ c ∧ s (n - 1) = nI r) ∧ 1 ≤ n := by
  obtain ⟨e, g⟩ := h
  refine ⟨⟨by simp only [dpS]; omega, fun i hi hk => g i (by omega) ?_⟩, fun ht => g (n - 1) (by omega) (by rw [kd_tp h0 e]; exact ht), by omega⟩
  rw [kd_dp (by omega)] at hk
  exact hk
theorem vT_psh {m n : Nat} {s : Nat → Int32} {v : Int32} {b : Bool} (h : vT P m x n s c) (hx : x.2 < 2 ^ x.1) (hv : b = true → ∃ r, r ≤ c ∧ v = nI r) : vT P m (ptS b x) (n + 1) (upO s n v) c := by
  obtain ⟨e, g⟩ := h
  refine ⟨by simp only [ptS]; omega, fun i hi hk => ?_⟩
  by_cases q : i = n
  · subst q
    rw [e, kd_pt' hx] at hk
    rw [upO_self]
    exact hv hk
  · rw [kd_pt hx (by omega)] at hk
    rw [upO_ne q]
    exact g i (by omega) hk
theorem vT_loc {m n j : Nat} {s : Nat → Int32} {v : Int32} (h : vT P m x n s c) (hj : j < pN P 2 m) (hv : kdB P m j = true → ∃ r, r ≤ c ∧ v = nI r) : vT P m x n (upO s j v) c := by
  obtain ⟨e, g⟩ := h
  refine ⟨e, fun i hi hk => ?_⟩
  by_cases q : i = j
  · subst q
    rw [kdF_lo hj] at hk
    rw [upO_self]
    exact hv hk
  · rw [upO_ne q]
    exact g i hi hk
theorem vT_mono {m n c' : Nat} {s : Nat → Int32} (h : vT P m x n s c) (hc : c ≤ c') : vT P m x n s c' := ⟨h.1, fun i hi hk => by
  obtain ⟨r, r1, r2⟩ := h.2 i hi hk
  exact ⟨r, by omega, r2⟩⟩
theorem vT_tkN {m a : Nat} {s : Nat → Int32} : ∀ (q : Nat) {x y : Sh} {n : Nat}, vT P m x n s c → tkN P a q x = some y → x.2 < 2 ^ x.1 → vT P m y (n - q) s c ∧ q ≤ x.1 ∧ y.1 = x.1 - q ∧ y.2 < 2 ^ y.1 ∧ ∀ i, i < q → kdB P a i = true → ∃ r, r ≤ c ∧ s (n - q + i) = nI r
  | 0, x, y, n, h, e, hx => by
    cases e
    exact ⟨h, by omega, rfl, hx, fun i hi => absurd hi (by omega)⟩
  | q + 1, x, y, n, h, e, hx => by
    unfold tkN at e
    obtain ⟨z, ez, e2⟩ := Option.bind_eq_some_iff.mp e
    obtain ⟨t1, t2, t3⟩ := tkS_some ez
    have g := vT_pop h t1
    subst t3
    obtain ⟨r1, r2, r3, r4, r5⟩ := vT_tkN q g.1 e2 dp_lt
    have en := h.1
    rw [show n - 1 - q = n - (q + 1) by omega] at r1 r5
    have : (dpS x).1 = x.1 - 1 := rfl
    refine ⟨r1, by omega, by omega, r4, fun i hi hk => ?_⟩
    by_cases u : i = q
    · subst u
      rw [show n - (i + 1) + i = n - 1 by omega]
      exact g.2.1 (by rw [t2]; exact hk)
    · exact r5 i (by omega) hk
def Bel (k : Nat) (P : Pm) (sh : Nat → Option Sh) (c top : Nat) (fr : Nat → Fr) : Prop := ∀ t, t < top → (fr t).m < k ∧ (fr t).i < pN P 5 (fr t).m ∧ ∃ x, sh (60 * (fr t).m + (fr t).i) = some (rsS (pN P 4 (fr (t + 1)).m) x) ∧ x.2 < 2 ^ x.1 ∧ vT P (fr t).m x (fr t).n (fr t).s c
theorem Bel.set {top : Nat} {fr : Nat → Fr} {f : Fr} (h : Bel k P sh c top fr) (hf : f.m = (fr top).m) : Bel k P sh c top (upO fr top f) := fun t ht => by
  obtain ⟨h1, h2, x, h3, h4, h5⟩ := h t ht
  rw [upO_ne (show t ≠ top by omega)]
  refine ⟨h1, h2, x, ?_, h4, h5⟩
  by_cases q : t + 1 = top
  · rw [q, upO_self, hf, ← q]
    exact h3
  · rw [upO_ne q]
    exact h3
theorem Bel.mono {top c' : Nat} {fr : Nat → Fr} (h : Bel k P sh c top fr) (hc : c ≤ c') : Bel k P sh c' top fr := fun t ht => by
  obtain ⟨h1, h2, x, h3, h4, h5⟩ := h t ht
  exact ⟨h1, h2, x, h3, h4, vT_mono h5 hc⟩
/-- all but what the place says -/
def TSx (k : Nat) (P : Pm) (sh : Nat → Option Sh) (x : Sh) (z : Mc) : Prop := z.top < 16 ∧ hpO z.hp ∧ z.cur.m < k ∧ x.2 < 2 ^ x.1 ∧ vT P z.cur.m x z.cur.n z.cur.s z.hp.c ∧ Bel k P sh z.hp.c z.top z.fr
theorem TSx.set {f : Fr} (T : TSx k P sh x z) (hf : f.m = z.cur.m) (hy : y.2 < 2 ^ y.1) (hv : vT P f.m y f.n f.s z.hp.c) : TSx k P sh y (setF z f) := by
  obtain ⟨h1, h2, h3, h4, h5, h6⟩ := T
  refine ⟨h1, h2, ?_, hy, ?_, h6.set hf⟩
  · rw [cur_set, hf]; exact h3
  · rw [cur_set]; exact hv
theorem TSx.pop (T : TSx k P sh x z) (h0 : x.1 ≠ 0) : TSx k P sh (dpS x) (popZ z) ∧ (tpS x = true → ∃ r, r ≤ z.hp.c ∧ topV z = nI r) ∧ 1 ≤ z.cur.n := by
  have g := vT_pop T.2.2.2.2.1 h0
  exact ⟨T.set (f := mkF z.cur.m z.cur.i (z.cur.n - 1) z.cur.s) rfl dp_lt g.1, g.2⟩
theorem TSx.psh {v : Int32} {b : Bool} (T : TSx k P sh x z) (hv : b = true → ∃ r, r ≤ z.hp.c ∧ v = nI r) : TSx k P sh (ptS b x) (pshZ z v) := T.set (f := mkF z.cur.m z.cur.i (z.cur.n + 1) (upO z.cur.s z.cur.n v)) rfl (ptS_ok T.2.2.2.1) (vT_psh T.2.2.2.2.1 T.2.2.2.1 hv)
theorem TSx.loc {v : Int32} {j : Nat} (T : TSx k P sh x z) (hj : j < pN P 2 z.cur.m) (hv : kdB P z.cur.m j = true → ∃ r, r ≤ z.hp.c ∧ v = nI r) : TSx k P sh x (locZ z j v) := T.set (f := mkF z.cur.m z.cur.i z.cur.n (upO z.cur.s j v)) rfl T.2.2.2.1 (vT_loc T.2.2.2.2.1 hj hv)
theorem TSx.got {t : Nat} (T : TSx k P sh x z) : TSx k P sh x (gotZ z t) := T.set (f := mkF z.cur.m t z.cur.n z.cur.s) rfl T.2.2.2.1 T.2.2.2.2.1
theorem TSx.hp {H : Hp} (T : TSx k P sh x z) (hH : hpO H) (hc : z.hp.c ≤ H.c) : TSx k P sh x (hpZ z H) := by
  obtain ⟨h1, h2, h3, h4, h5, h6⟩ := T
  exact ⟨h1, hH, h3, h4, vT_mono h5 hc, h6.mono hc⟩
theorem TSx.ast {b : Bool} (T : TSx k P sh x z) : TSx k P sh x (astZ z b) := T
theorem TSx.fd {j : Nat} {v : Int32} (T : TSx k P sh x z) : TSx k P sh x (fdZ z j v) := T
theorem TSx.to (T : TSx k P sh x z) (hi : z.cur.i < pN P 5 z.cur.m) (hs : sh (curP z) = some x) : TS k P sh z := ⟨T.1, T.2.1, ⟨T.2.2.1, hi, x, hs, T.2.2.2.2.1⟩, T.2.2.2.2.2⟩
theorem hAdd_ok {H : Hp} {len s : Nat} (h : hpO H) (hc : H.c < 300) (hu : H.u + len ≤ 2000) (hs : s < 25) : hpO (hAdd H len s) := by
  obtain ⟨h1, h2, h3⟩ := h
  refine ⟨hc, hu, fun r r1 r2 => ?_⟩
  have r2 : r ≤ H.c + 1 := r2
  show upO H.st (H.c + 1) H.u r + upO H.ln (H.c + 1) len r ≤ H.u + len ∧ upO H.si (H.c + 1) s r < 25
  by_cases q : r = H.c + 1
  · subst q
    rw [upO_self, upO_self, upO_self]
    omega
  · rw [upO_ne q, upO_ne q, upO_ne q]
    have := h3 r r1 (by omega)
    omega
/-- what is known where a machine stands -/
theorem TS.at_ (B : Built k P sh sn wd) (T : TS k P sh z) : ∃ x y, TSx k P sh x z ∧ sh (curP z) = some x ∧ x.1 ≤ 8 ∧ z.cur.n = pN P 2 z.cur.m + x.1 ∧ pN P 2 z.cur.m ≤ 6 ∧ pN P 6 (curP z) ≤ 35 ∧ opdOk k P z.cur.m (pN P 6 (curP z)) (P 7 (curP z)) ∧ shS P z.cur.m (pN P 6 (curP z)) (pN P 7 (curP z)) x = some y ∧ (pN P 6 (curP z) ≠ 33 → y.1 ≤ 8) ∧ (pN P 6 (curP z) ≠ 19 → pN P 6 (curP z) ≠ 33 → z.cur.i + 1 < pN P 5 z.cur.m ∧ sh (curP z + 1) = some y) ∧ (19 ≤ pN P 6 (curP z) → pN P 6 (curP z) ≤ 27 → pN P 7 (curP z) < pN P 5 z.cur.m ∧ sh (60 * z.cur.m + pN P 7 (curP z)) = some y) ∧ (0 ≤ (P 7 (curP z)).toInt → P 7 (curP z) = nI (pN P 7 (curP z)) ∧ (P 7 (curP z)).toInt = pN P 7 (curP z)) := by
  obtain ⟨h1, h2, ⟨h3, h4, x, h5, h6⟩, h7⟩ := T
  obtain ⟨m', i', hm', hi', e', x8, xo⟩ := B.at_ _ _ h5
  obtain ⟨od, y, ey, nx, jp⟩ := B.next z.cur.m z.cur.i x h3 h4 h5
  have w := wf_ar B.wf h3
  have hop : pN P 6 (curP z) ≤ 35 := by
    obtain ⟨q, e, q35⟩ := B.wf.op z.cur.m z.cur.i h3 h4
    show pN P 6 (60 * z.cur.m + z.cur.i) ≤ 35
    unfold pN
    rw [e, ofNat_cl (by omega)]
    exact q35
  have hn : 0 ≤ (P 7 (curP z)).toInt → P 7 (curP z) = nI (pN P 7 (curP z)) ∧ (P 7 (curP z)).toInt = pN P 7 (curP z) := fun q => by
    have := nn_nI (a := P 7 (curP z)) q
    exact ⟨this.1, this.2⟩
  have y8 : pN P 6 (curP z) ≠ 33 → y.1 ≤ 8 := fun q => by
    by_cases u : pN P 6 (curP z) = 19
    · obtain ⟨_, _, _, _, _, g, _⟩ := B.at_ _ _ (jp (show 19 ≤ pN P 6 (curP z) by omega) (show pN P 6 (curP z) ≤ 27 by omega))
      exact g
    · obtain ⟨_, _, _, _, _, g, _⟩ := B.at_ _ _ (nx u q).2
      exact g
  refine ⟨x, y, ⟨h1, h2, h3, xo, h6, h7⟩, h5, x8, h6.1, w.2.1, hop, od, ey, y8, fun u v => nx u v, fun u v => ⟨?_, jp u v⟩, hn⟩
  have a2 := od.2.1 ⟨u, v⟩
  have := hn a2.1
  have a3 : (P 7 (curP z)).toInt < pN P 5 z.cur.m := a2.2
  omega
end TS1
