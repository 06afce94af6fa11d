-- needs: 89.99rmf
section PA1
theorem nn_x {x : Int32} (h : 0 ≤ x) : ∃ a : Nat, a < 2 ^ 31 ∧ x = nI a := by
  have q : (0 : Int) ≤ x.toInt := by simpa [Int32.le_iff_toInt_le] using h
  have b := i32_b x
  refine ⟨x.toInt.toNat, by omega, Int32.toInt_inj.mp ?_⟩
  rw [nI_toInt (by omega)]
  omega
theorem le_x {a b : Nat} (ha : a < 2 ^ 31) (hb : b < 2 ^ 31) (h : nI a ≤ nI b) : a ≤ b := by
  rwa [nI_leP ha hb] at h
theorem lt_x {a b : Nat} (ha : a < 2 ^ 31) (hb : b < 2 ^ 31) (h : nI a < nI b) : a < b := by
  rwa [nI_ltP ha hb] at h
theorem eq_x {a b : Nat} (ha : a < 2 ^ 31) (hb : b < 2 ^ 31) (h : nI a = nI b) : a = b := by
  rwa [nI_eqP ha hb] at h
theorem upd_or {f : Nat → Int32} {k m : Nat} {v : Int32} (C : Int32 → Prop) (h1 : m = k → C v) (h2 : m ≠ k → C (f m)) : C (upd f k v m) := by
  rw [upd_is]
  by_cases e : m = k
  · rw [if_pos e]; exact h1 e
  · rw [if_neg e]; exact h2 e
theorem updS {f : Nat → Int32} {k : Nat} {v : Int32} : upd f k v k = v := by rw [upd_is, if_pos rfl]
theorem updN {f : Nat → Int32} {k m : Nat} {v : Int32} (h : m ≠ k) : upd f k v m = f m := by rw [upd_is, if_neg h]
theorem wf_add {k : Nat} {P : Pm} {x y z r : Int32} (W : wfP k P) (o : okM k x y z r) : wfP (k + 1) (pr_add P k x y z r) := by
  obtain ⟨ok, x0, x3, xy, y6, z0, zl, r0, r2⟩ := o
  have y0 : 0 ≤ y := Int32.le_trans x0 xy
  obtain ⟨a, a1, rfl⟩ := nn_x x0
  obtain ⟨c, c1, rfl⟩ := nn_x z0
  obtain ⟨d, d1, rfl⟩ := nn_x r0
  obtain ⟨b, b1, rfl⟩ := nn_x y0
  have a3 : a ≤ 3 := le_x a1 (b := 3) (by decide) x3
  have b6 : b ≤ 6 := le_x b1 (b := 6) (by decide) y6
  have ab : a ≤ b := le_x a1 b1 xy
  have d2 : d ≤ 2 := le_x d1 (b := 2) (by decide) r2
  have c6 : c < 64 := by
    refine lt_x c1 (b := 64) (by decide) ?_
    have hb : b = 0 ∨ b = 1 ∨ b = 2 ∨ b = 3 ∨ b = 4 ∨ b = 5 ∨ b = 6 := by omega
    rcases hb with rfl | rfl | rfl | rfl | rfl | rfl | rfl <;> exact Int32.lt_of_lt_of_le zl (by decide)
  refine ⟨by omega, fun m hm => ?_, fun m hm => ?_, fun m hm => ?_, fun m hm => ?_, fun m hm => ?_, fun m hm => ?_, fun m i hm hi => ?_⟩
  · exact upd_or (fun v => ∃ x : Nat, v = Int32.ofNat x ∧ x ≤ 3) (fun _ => ⟨a, rfl, a3⟩) (fun e => W.ar m (by omega))
  · exact upd_or (fun v => ∃ x : Nat, v = Int32.ofNat x ∧ x ≤ 6) (fun _ => ⟨b, rfl, b6⟩) (fun e => W.lc m (by omega))
  · show (upd (P 1) k (nI a) m).toNatClampNeg ≤ (upd (P 2) k (nI b) m).toNatClampNeg
    by_cases e : m = k
    · subst e
      rw [updS, updS, nI_clamp a1, nI_clamp b1]
      exact ab
    · rw [updN e, updN e]
      exact W.al m (by omega)
  · exact upd_or (fun v => ∃ x : Nat, v = Int32.ofNat x ∧ x < 64) (fun _ => ⟨c, rfl, c6⟩) (fun e => W.kd m (by omega))
  · exact upd_or (fun v => ∃ x : Nat, v = Int32.ofNat x ∧ x ≤ 2) (fun _ => ⟨d, rfl, d2⟩) (fun e => W.rs m (by omega))
  · exact upd_or (fun v => ∃ x : Nat, v = Int32.ofNat x ∧ x ≤ 60) (fun _ => ⟨0, rfl, by decide⟩) (fun e => W.ln m (by omega))
  · have hi' : i < (upd (P 5) k 0 m).toNatClampNeg := hi
    by_cases e : m = k
    · subst e
      rw [updS] at hi'
      exact absurd hi' (Nat.not_lt_zero _)
    · rw [updN e] at hi'
      exact W.op m i (by omega) hi'
theorem wf_ins {k : Nat} {P : Pm} {j q : Nat} {op x : Int32} (W : wfP k P) (hj : j < k) (hq : q < 60) (h5 : P 5 j = nI q) (o0 : 0 ≤ op) (o1 : op ≤ 35) : wfP k (pr_ins P j q op x) := by
  obtain ⟨a, a1, rfl⟩ := nn_x o0
  have a3 : a ≤ 35 := le_x a1 (b := 35) (by decide) o1
  refine ⟨W.k8, W.ar, W.lc, W.al, W.kd, W.rs, fun m hm => ?_, fun m i hm hi => ?_⟩
  · exact upd_or (fun v => ∃ x : Nat, v = Int32.ofNat x ∧ x ≤ 60) (fun _ => ⟨q + 1, rfl, by omega⟩) (fun e => W.ln m hm)
  · have hi' : i < (upd (P 5) j (nI (q + 1)) m).toNatClampNeg := hi
    show ∃ x : Nat, upd (P 6) (60 * j + q) (nI a) (60 * m + i) = Int32.ofNat x ∧ x ≤ 35
    by_cases e : m = j
    · subst e
      rw [updS, nI_clamp (by omega)] at hi'
      refine upd_or (fun v => ∃ x : Nat, v = Int32.ofNat x ∧ x ≤ 35) (fun _ => ⟨a, rfl, a3⟩) (fun e2 => W.op m i hm ?_)
      show i < (P 5 m).toNatClampNeg
      rw [h5, nI_clamp (by omega)]
      omega
    · rw [updN e] at hi'
      have h60 := (wf_ar W hm).2.2.2.2
      have hi2 : i < pN P 5 m := hi'
      rw [updN (by omega)]
      exact W.op m i hm hi'
theorem wf_wip {k : Nat} {P : Pm} {j : Nat} (W : wfP k P) : wfP k (pr_wip P j) := by
  refine ⟨W.k8, W.ar, W.lc, W.al, W.kd, W.rs, fun m hm => ?_, fun m i hm hi => ?_⟩
  · exact upd_or (fun v => ∃ x : Nat, v = Int32.ofNat x ∧ x ≤ 60) (fun _ => ⟨0, rfl, by decide⟩) (fun e => W.ln m hm)
  · have hi' : i < (upd (P 5) j 0 m).toNatClampNeg := hi
    by_cases e : m = j
    · subst e
      rw [updS] at hi'
      exact absurd hi' (Nat.not_lt_zero _)
    · rw [updN e] at hi'
      exact W.op m i hm hi'
theorem prF_all {P : Pm} {F : Nat → Nat → Int32} (h1 : F 1 = P 1) (h2 : F 2 = P 2) (h3 : F 3 = P 3) (h4 : F 4 = P 4) (h5 : F 5 = P 5) (h6 : F 6 = P 6) (h7 : F 7 = P 7) : prF P F := fun j a b => by
  have : j = 1 ∨ j = 2 ∨ j = 3 ∨ j = 4 ∨ j = 5 ∨ j = 6 ∨ j = 7 := by omega
  rcases this with rfl | rfl | rfl | rfl | rfl | rfl | rfl <;> assumption
theorem prF_add {P : Pm} {F : Nat → Nat → Int32} {k : Nat} {x y z r : Int32} (h : prF P F) : prF (pr_add P k x y z r) (mo_addF F k x y z r) :=
  prF_all (congrArg (fun f => upd f k x) (h 1 (by decide) (by decide))) (congrArg (fun f => upd f k y) (h 2 (by decide) (by decide))) (congrArg (fun f => upd f k z) (h 3 (by decide) (by decide))) (congrArg (fun f => upd f k r) (h 4 (by decide) (by decide))) (congrArg (fun f => upd f k 0) (h 5 (by decide) (by decide))) (h 6 (by decide) (by decide)) (h 7 (by decide) (by decide))
theorem prF_ins {P : Pm} {F : Nat → Nat → Int32} {j q : Nat} {op x : Int32} (h : prF P F) : prF (pr_ins P j q op x) (mo_insF F j q op x) :=
  prF_all (h 1 (by decide) (by decide)) (h 2 (by decide) (by decide)) (h 3 (by decide) (by decide)) (h 4 (by decide) (by decide)) (congrArg (fun f => upd f j (nI (q + 1))) (h 5 (by decide) (by decide))) (congrArg (fun f => upd f (60 * j + q) op) (h 6 (by decide) (by decide))) (congrArg (fun f => upd f (60 * j + q) x) (h 7 (by decide) (by decide)))
theorem prF_wip {P : Pm} {F : Nat → Nat → Int32} {j : Nat} (h : prF P F) : prF (pr_wip P j) (upA F 5 (upd (F 5) j 0)) :=
  prF_all (h 1 (by decide) (by decide)) (h 2 (by decide) (by decide)) (h 3 (by decide) (by decide)) (h 4 (by decide) (by decide)) (congrArg (fun f => upd f j 0) (h 5 (by decide) (by decide))) (h 6 (by decide) (by decide)) (h 7 (by decide) (by decide))
theorem code_no {k : Nat} {f : Nat → Int32} {m op : Int32} {j q : Nat} (hk : k ≤ 8) (h : isM k m = false ∨ op < 0 ∨ 35 < op ∨ f m.toNatClampNeg = 60) (hj : j < k) (em : m = nI j) (hq : q < 60) (h5 : f j = nI q) (o0 : 0 ≤ op) (o1 : op ≤ 35) : False := by
  subst em
  rcases h with h | h | h | h
  · rw [isM_y hk hj] at h
    cases h
  · exact absurd o0 (Int32.not_le.mpr h)
  · exact absurd o1 (Int32.not_le.mpr h)
  · rw [nI_clamp (by omega), h5] at h
    have := eq_x (a := q) (b := 60) (by omega) (by decide) h
    omega
/-! the certificate -/
variable {k : Nat} {P : Pm} {sh : Nat → Option Sh} {sn : Nat → Nat} {wd : Nat → Bool} {Fz : Fa}
theorem rowS_ok (h : okF (tyF P sh) Fz) : rowS Fz := fun t h1 h2 tl => by
  have e : tyF P sh t = (1, 0, fun _ => false) := by
    unfold tyF
    rw [if_neg (by omega), if_pos h2]
  have q := (h t (by omega)).1 tl
  rw [e] at q
  have q1 : (Fz t).n = 1 := q.1
  have q2 := q.2 0 (by decide)
  refine ⟨by omega, ?_⟩
  cases ev : ((Fz t).f 0).1 with
  | inl x =>
    rw [ev] at q2
    exact ⟨x, rfl, q2.1⟩
  | inr b =>
    rw [ev] at q2
    have q3 : arA (.inr b) = false := q2.2.1
    cases q3
theorem rd_cer (B : Built k P sh sn wd) (r : Int32) (K : Nat) : rdO (tyF P sh) (cerF P sn k wd r K) := by
  refine ⟨(anew_ok B (anew_ok B (it_ok B r (K + 1))).1).1, fun j hj => ?_⟩
  have q := (crO_cer B r K).1 j hj
  unfold rwT at q
  exact (Bool.and_eq_true_iff.mp q).1
theorem okS_pl {lo hi : Int32} (h : lo ≤ hi) : okS (mkS lo.toInt hi.toInt 1) := by
  have a := i32_b lo
  have b := i32_b hi
  have c : lo.toInt ≤ hi.toInt := Int32.le_iff_toInt_le.mp h
  unfold mkS okS
  split
  · rename_i e
    exact ⟨a.1, c, b.2, Int.le_refl 0, fun _ => rfl, ⟨0, show hi.toInt - lo.toInt = 0 * 0 by omega⟩⟩
  · rename_i e
    exact ⟨a.1, c, b.2, show (0 : Int) ≤ 1 by decide, fun q => absurd q e, ⟨hi.toInt - lo.toInt, show hi.toInt - lo.toInt = 1 * (hi.toInt - lo.toInt) by omega⟩⟩
theorem plJ_is {m q sl lo hi : Int32} {j : Nat} (h : plJ k P Fz m q sl lo hi = some j) : tdx k P Fz m q sl = some j ∧ arA ((Fz (pq m q)).f j).1 = false ∧ lo ≤ hi := by
  unfold plJ at h
  cases e : tdx k P Fz m q sl with
  | none => rw [e] at h; cases h
  | some i =>
    rw [e] at h
    by_cases c : arA ((Fz (pq m q)).f i).1 = false ∧ lo ≤ hi
    · have h2 : (if arA ((Fz (pq m q)).f i).1 = false ∧ lo ≤ hi then some i else none) = some j := h
      rw [if_pos c] at h2
      cases h2
      exact ⟨rfl, c⟩
    · have h2 : (if arA ((Fz (pq m q)).f i).1 = false ∧ lo ≤ hi then some i else none) = some j := h
      rw [if_neg c] at h2
      cases h2
theorem okF_up {p : Nat} {r : Rw} (h : okF (tyF P sh) Fz) (hr : p < 542 → okR (tyF P sh p) r ∧ (r.told = true → (tyF P sh p).2.1 ≤ (tyF P sh p).1)) : okF (tyF P sh) (upO Fz p r) := fun t ht => by
  by_cases e : t = p
  · subst e
    rw [upO_self]
    exact hr ht
  · rw [upO_ne e]
    exact h t ht
theorem rd_plt {p j : Nat} {lo hi : Int32} (h : rdO (tyF P sh) Fz) (hp : p < 480) (ha : arA ((Fz p).f j).1 = false) (hl : lo ≤ hi) : rdO (tyF P sh) (pltF Fz p j lo hi) := by
  refine ⟨okF_up h.1 (fun _ => ⟨fun tl => ?_, fun tl => (h.1 p (by omega)).2 tl⟩), fun i hi => ?_⟩
  · have q := (h.1 p (by omega)).1 tl
    refine ⟨q.1, fun i hi => ?_⟩
    show okAv (upF (Fz p).f j _ i).1 ∧ arA (upF (Fz p).f j _ i).1 = _ ∧ okMk _ i (upF (Fz p).f j _ i).2
    have q2 := q.2 i hi
    unfold upF
    by_cases e : i = j
    · subst e
      rw [if_pos rfl]
      exact ⟨okS_pl hl, by rw [← q2.2.1, ha]; rfl, q2.2.2⟩
    · rw [if_neg e]
      exact q2
  · unfold pltF
    rw [upO_ne (by omega)]
    exact h.2 i hi
theorem rd_fgt {p : Nat} (h : rdO (tyF P sh) Fz) (hp : p < 480) : rdO (tyF P sh) (fgtF Fz p) := by
  refine ⟨okF_up h.1 (fun _ => ⟨fun tl => (by cases tl), fun tl => (by cases tl)⟩), fun i hi => ?_⟩
  unfold fgtF
  rw [upO_ne (by omega)]
  exact h.2 i hi
theorem stN_up {p : Nat} {r : Rw} {b : Int32} (hp : p < 480) (h : stN Fz b) : stN (upO Fz p r) b := by
  rcases h with h | ⟨s, s1, s2, s3, s4⟩
  · exact .inl h
  · exact .inr ⟨s, s1, s2, by rw [upO_ne (by omega)]; exact s3, by rw [upO_ne (by omega)]; exact s4⟩
theorem stU_plt {p j : Nat} {lo hi : Int32} (h : stU Fz) (hp : p < 480) : stU (pltF Fz p j lo hi) := fun t ht tl i hi' => by
  unfold pltF at tl hi' ⊢
  by_cases e : t = p
  · subst e
    rw [upO_self] at tl hi'
    refine stN_up hp ?_
    rw [upO_self]
    show stN Fz (stA (upF (Fz t).f j _ i).1)
    unfold upF
    by_cases e2 : i = j
    · rw [if_pos e2]
      exact .inl rfl
    · rw [if_neg e2]
      exact h t ht tl i hi'
  · rw [upO_ne e] at tl hi'
    rw [upO_ne e]
    exact stN_up hp (h t ht tl i hi')
theorem stU_fgt {p : Nat} (h : stU Fz) (hp : p < 480) : stU (fgtF Fz p) := fun t ht tl i hi' => by
  unfold fgtF at tl hi' ⊢
  by_cases e : t = p
  · subst e
    rw [upO_self] at tl
    cases tl
  · rw [upO_ne e] at tl hi'
    rw [upO_ne e]
    exact stN_up hp (h t ht tl i hi')
theorem chk_uq {F : Fa} {r v w : Int32} (a : chkV k P sn F r v) (b : chkV k P sn F r w) : v = w := by
  rcases a with ⟨m, m1, m2, m3, rfl⟩ | ⟨a1, a2⟩
  · rcases b with ⟨n, n1, n2, n3, rfl⟩ | ⟨b1, b2⟩
    · have : m = n := by
        rcases Nat.lt_trichotomy m n with q | q | q
        · rw [n3 m q] at m2; cases m2
        · exact q
        · rw [m3 n q] at n2; cases n2
      subst this
      rfl
    · rw [b1 m m1] at m2; cases m2
  · rcases b with ⟨n, n1, n2, n3, rfl⟩ | ⟨b1, b2⟩
    · rw [a1 n n1] at n2; cases n2
    · rcases a2 with ⟨p, p1, p2, p3, rfl⟩ | ⟨c1, rfl⟩
      · rcases b2 with ⟨q, q1, q2, q3, rfl⟩ | ⟨d1, rfl⟩
        · have : p = q := by
            rcases Nat.lt_trichotomy p q with e | e | e
            · rw [q3 p e] at p2; cases p2
            · exact e
            · rw [p3 q e] at q2; cases q2
          subst this
          rfl
        · rw [d1 p p1] at p2; cases p2
      · rcases b2 with ⟨q, q1, q2, q3, rfl⟩ | ⟨d1, rfl⟩
        · rw [c1 q q1] at q2; cases q2
        · rfl
/-! the last run -/
variable {z : Mc}
theorem ent_dp {a : Nat} (h : z.dp ≤ 16) : (entZ P a z).1.dp ≤ 16 := by
  unfold entZ
  split
  · exact h
  · rename_i c
    show max z.dp (z.top + 2) ≤ 16
    omega
theorem mov_dp {op : Nat} {a : Int32} : (movZ op a z).dp = z.dp := by
  unfold movZ
  repeat' split
  all_goals rfl
theorem jmp_dp {op a : Nat} : (jmpZ op a z).dp = z.dp := by
  unfold jmpZ
  repeat' split
  all_goals rfl
theorem fld_dp {op a : Nat} : (fldZ Fz op a z).dp = z.dp := by
  unfold fldZ
  split <;> rfl
def dpO (r : Mc × Int32) : Prop := r.1.dp ≤ 16
theorem prf_dp (h : z.dp ≤ 16) : dpO (prfZ P sn Fz z) := by
  unfold prfZ
  apply ite_p (p := dpO)
  · unfold leaZ
    repeat' apply ite_p (p := dpO)
    all_goals exact h
  · unfold prfA
    refine ite_p (p := dpO) ?_ (ite_p (p := dpO) ?_ (ite_p (p := dpO) ?_ (ite_p (p := dpO) ?_ (ite_p (p := dpO) ?_ (ite_p (p := dpO) ?_ ?_)))))
    · show (movZ _ _ _).dp ≤ 16
      rw [mov_dp]
      exact h
    · unfold rckZ
      exact ite_p (p := dpO) h (ite_p (p := dpO) h h)
    · show (jmpZ _ _ _).dp ≤ 16
      rw [jmp_dp]
      exact h
    · unfold makZ
      exact ite_p (p := dpO) h (ite_p (p := dpO) h h)
    · unfold useZ
      exact ite_p (p := dpO) (ite_p (p := dpO) h h) (ite_p (p := dpO) (ite_p (p := dpO) h (ite_p (p := dpO) h h)) (ite_p (p := dpO) h (ite_p (p := dpO) h h)))
    · exact ent_dp (z := gotZ z (z.cur.i + 1)) h
    · show (fldZ _ _ _ _).dp ≤ 16
      rw [fld_dp]
      exact h
theorem lop_pl (B : Built k P sh sn wd) : ∀ (f : Nat) (z : Mc) (b lm lp : Nat) (sx : Int32) (wt : Bool), TS k P sh z → z.dp ≤ 16 → lm < 8 → lp < 60 → (lopZ P sn Fz f (z, b, lm, lp, sx, wt)).1.2.2.1 < 8 ∧ (lopZ P sn Fz f (z, b, lm, lp, sx, wt)).1.2.2.2.1 < 60 ∧ (lopZ P sn Fz f (z, b, lm, lp, sx, wt)).1.1.dp ≤ 16
  | 0, z, b, lm, lp, sx, wt, T, d, h1, h2 => ⟨h1, h2, d⟩
  | f + 1, z, b, lm, lp, sx, wt, T, d, h1, h2 => by
    have m1 : z.cur.m < k := T.2.2.1.1
    have m2 : z.cur.i < pN P 5 z.cur.m := T.2.2.1.2.1
    have m3 := (wf_ar B.wf m1).2.2.2.2
    have m4 := B.wf.k8
    rw [lop_s]
    by_cases e : (prfZ P sn Fz z).2 = 0
    · rw [if_pos e]
      exact lop_pl B f _ _ _ _ _ _ (prf_ok B T e) (prf_dp d) (by omega) (by omega)
    · rw [if_neg e]
      exact ⟨by show z.cur.m < 8; omega, by show z.cur.i < 60; omega, prf_dp d⟩
theorem rn_dp {G : Nat → Nat → Int32} {m c : Nat} : (begC P G m c).dp ≤ 16 := by
  have : (begC P G m c).dp = 1 := rfl
  omega
end PA1
