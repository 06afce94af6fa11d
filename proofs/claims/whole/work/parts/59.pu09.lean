section PURE9
variable {k : Nat} {P : Pm} {sh : Nat → Option Sh} {sn : Nat → Nat} {wd : Nat → Bool}
set_option maxHeartbeats 1000000 in
theorem outs_all (B : Built k P sh sn wd) {F : Fa} {p : Nat} (hp : p < 480) (hF : okF (tyF P sh) F) (ht : (F p).told = true) : ∀ c, c ∈ outs P sn F p → okC (tyF P sh) c ∧ (grF wd c.1 = true ∨ p < c.1) := by
  obtain ⟨o1, o2⟩ := hF p (by omega)
  have hv := o2 ht
  have hg := o1 ht
  cases hs : sh p with
  | none =>
    exfalso
    unfold tyF at hv
    rw [if_pos hp, hs] at hv
    exact absurd hv (show ¬ (1 ≤ 0) by omega)
  | some x =>
  obtain ⟨m, i, hm, hi, rfl, hx8, hx⟩ := B.at_ p x hs
  have hm8 : m < 8 := Nat.lt_of_lt_of_le hm B.wf.k8
  have w := wf_ar B.wf hm
  rw [tyF_st hm8 (by omega) hs] at hg
  have G : tyG P m x (F (60 * m + i)).n (F (60 * m + i)).f := hg
  clear hv hg o1 o2
  obtain ⟨hod, y, ey, hnx, hjp⟩ := B.next m i x hm hi hs
  have hw0 := B.w0
  have hwj := B.wj m i hm hi
  have hst := B.site _ x hs
  obtain ⟨q, eq_, q35⟩ := B.wf.op m i hm hi
  have hop : pN P 6 (60 * m + i) ≤ 35 := by
    unfold pN
    rw [eq_, Int32.toNatClampNeg, Int32.toInt_ofNat_of_lt (by omega)]
    omega
  have h60 : (60 * m + i) / 60 = m := by omega
  obtain ⟨od1, od2, od3, od4⟩ := hod
  have cl : (P 7 (60 * m + i)).toInt = (pN P 7 (60 * m + i) : Nat) ∨ (P 7 (60 * m + i)).toInt < 0 := by
    unfold pN Int32.toNatClampNeg
    omega
  have aI : 0 ≤ (P 7 (60 * m + i)).toInt → P 7 (60 * m + i) = Int32.ofNat (pN P 7 (60 * m + i)) := by
    intro h0
    apply Int32.toInt_inj.mp
    have := (P 7 (60 * m + i)).toInt_lt
    rw [Int32.toInt_ofNat_of_lt (by omega)]
    omega
  have ll := w.2.1
  unfold outs
  simp only [h60]
  generalize hn : (F (60 * m + i)).n = n at *
  generalize hf : (F (60 * m + i)).f = f at *
  generalize pN P 6 (60 * m + i) = op at *
  generalize pN P 7 (60 * m + i) = a at *
  have en := G_n G
  have NX : ∀ {nn : Nat} {g : Nat → Sl}, op ≠ 19 → op ≠ 33 → tyG P m y nn g → okC (tyF P sh) (60 * m + i + 1, nn, g) ∧ (grF wd (60 * m + i + 1) = true ∨ 60 * m + i < 60 * m + i + 1) := by
    intro nn g h1 h2 hg
    have h3 := hnx h1 h2
    exact ⟨okC_st (i := i + 1) hm8 (by omega) h3.2 hg, Or.inr (by omega)⟩
  have JP : ∀ {nn : Nat} {g : Nat → Sl}, 19 ≤ op → op ≤ 27 → tyG P m y nn g → okC (tyF P sh) (60 * m + a, nn, g) ∧ (grF wd (60 * m + a) = true ∨ 60 * m + i < 60 * m + a) := by
    intro nn g h1 h2 hg
    have h3 := hjp h1 h2
    have h4 := od2 ⟨h1, h2⟩
    refine ⟨okC_st hm8 (by omega) h3 hg, ?_⟩
    rcases Nat.lt_or_ge i a with z | z
    · right; omega
    · left
      unfold grF
      rw [hwj h1 h2 z]
      simp
  have TL : ∀ {t nn : Nat} {g : Nat → Sl}, 480 ≤ t → okC (tyF P sh) (t, nn, g) → okC (tyF P sh) (t, nn, g) ∧ (grF wd t = true ∨ 60 * m + i < t) := by
    intro t nn g h1 h2
    exact ⟨h2, Or.inr (by omega)⟩
  have LN : ∀ s, s < 25 → (F (480 + s)).told = true → okS (spA ((F (480 + s)).f 0).1) := fun s h1 h2 => by
    have := tld_one hF (by omega) (by omega) h2
    exact ok_sp this.2.1 this.2.2
  have EL : ∀ s, s < 25 → (F (505 + s)).told = true → okS (spA ((F (505 + s)).f 0).1) := fun s h1 h2 => by
    have := tld_one hF (by omega) (by omega) h2
    exact ok_sp this.2.1 this.2.2
  intro c hc
  by_cases q0 : op = 0
  · rw [if_pos q0] at hc
    unfold shS at ey
    repeat (first | rw [if_pos (by omega)] at ey | rw [if_neg (by omega)] at ey)
    cases ey
    rw [List.mem_singleton] at hc
    subst hc
    have bb : ∀ z : Int32, okAv (.inl (z.toInt, z.toInt, 0)) := fun z => ⟨z.le_toInt, Int.le_refl _, by have := z.toInt_lt; show z.toInt ≤ 2147483647; omega, Int.le_refl _, fun _ => rfl, by simp⟩
    exact NX (by omega) (by omega) (G_push G hx (bb _) rfl (Or.inl rfl))
  rw [if_neg q0] at hc
  by_cases q1 : op = 1
  · rw [if_pos q1] at hc
    unfold shS at ey
    repeat (first | rw [if_pos (by omega)] at ey | rw [if_neg (by omega)] at ey)
    cases ey
    rw [List.mem_singleton] at hc
    subst hc
    have h4 := od1 (Or.inl q1)
    have t := tyG_mk G (i := a) (by omega)
    rw [kdF_lo (by omega)] at t
    exact NX (by omega) (by omega) (G_push G hx t.1 t.2.1 (Or.inr ⟨a, by omega, aI h4.1, rfl⟩))
  rw [if_neg q1] at hc
  by_cases q2 : op = 2
  · rw [if_pos q2] at hc
    unfold shS at ey
    repeat (first | rw [if_pos (by omega)] at ey | rw [if_neg (by omega)] at ey)
    obtain ⟨t1, t2, t3⟩ := tkS_some ey
    subst t3
    rw [List.mem_singleton] at hc
    subst hc
    have h4 := od1 (Or.inr q2)
    have g := G_pop G t1
    exact NX (by omega) (by omega) (G_drop (G_loc g.1 (by omega) g.2.1 (by rw [g.2.2.1, t2])))
  rw [if_neg q2] at hc
  by_cases q3 : op = 3
  · rw [if_pos q3] at hc
    unfold shS at ey
    repeat (first | rw [if_pos (by omega)] at ey | rw [if_neg (by omega)] at ey)
    cases ey
    rw [List.mem_singleton] at hc
    subst hc
    exact NX (by omega) (by omega) (G_push G hx trivial rfl (Or.inl rfl))
  rw [if_neg q3] at hc
  by_cases q4 : op = 4
  · rw [if_pos q4] at hc
    unfold shS at ey
    repeat (first | rw [if_pos (by omega)] at ey | rw [if_neg (by omega)] at ey)
    split at ey
    · cases ey
    · rename_i t1
      cases ey
      rw [List.mem_singleton] at hc
      subst hc
      exact NX (by omega) (by omega) (G_pop G t1).1
  rw [if_neg q4] at hc
  by_cases q5 : op = 5
  · rw [if_pos q5] at hc
    unfold shS at ey
    repeat (first | rw [if_pos (by omega)] at ey | rw [if_neg (by omega)] at ey)
    split at ey
    · cases ey
    · rename_i t1
      cases ey
      rw [List.mem_singleton] at hc
      subst hc
      have g := G_pop G t1
      exact NX (by omega) (by omega) (G_push G hx g.2.1 g.2.2.1 g.2.2.2.1)
  rw [if_neg q5] at hc
  by_cases q6 : op = 6
  · rw [if_pos q6] at hc
    unfold shS at ey
    repeat (first | rw [if_pos (by omega)] at ey | rw [if_neg (by omega)] at ey)
    split at ey
    · cases ey
    · rename_i t1
      cases ey
      rw [List.mem_singleton] at hc
      subst hc
      have g := G_pop G (by omega)
      have d1 : (dpS x).1 = x.1 - 1 := rfl
      have g2 := G_pop g.1 (by omega)
      rw [show n - 1 - 1 = n - 2 by omega] at g2
      have a1 := G_push g2.1 dp_lt g.2.1 g.2.2.1 g.2.2.2.1
      have a2 := G_push a1 (pt_lt dp_lt) g2.2.1 g2.2.2.1 g2.2.2.2.1
      rw [show n - 2 + 1 = n - 1 by omega, show n - 1 + 1 = n by omega] at a2
      have e2 : upF (upF f (n - 2) (f (n - 1))) (n - 1) (f (n - 2)) = upF (upF f (n - 1) (f (n - 2))) (n - 2) (f (n - 1)) := by
        funext j
        unfold upF
        by_cases z1 : j = n - 1 <;> by_cases z2 : j = n - 2 <;> simp [z1, z2] <;> omega
      rw [e2] at a2
      exact NX (by omega) (by omega) a2
  rw [if_neg q6] at hc
  by_cases q10 : op = 10 ∨ op = 11
  · rw [if_pos q10] at hc
    unfold shS at ey
    repeat (first | rw [if_pos (by omega)] at ey | rw [if_neg (by omega)] at ey)
    obtain ⟨y1, e1, rfl⟩ := Option.map_eq_some_iff.mp ey
    obtain ⟨y2, e2, e3⟩ := Option.bind_eq_some_iff.mp e1
    obtain ⟨t1, t2, t3⟩ := tkS_some e2
    subst t3
    obtain ⟨u1, u2, u3⟩ := tkS_some e3
    subst u3
    have g := G_pop G t1
    have g2 := G_pop g.1 u1
    rw [show n - 1 - 1 = n - 2 by omega] at g2
    have okY := ok_sp g.2.1 (by rw [g.2.2.1, t2])
    have okX := ok_sp g2.2.1 (by rw [g2.2.2.1, u2])
    split at hc
    · cases hc
    · rename_i z ez
      rw [List.mem_singleton] at hc
      subst hc
      have oz := lose_ok okY ez
      have a1 := G_tell g2.1 ll (b := false) (by have := g.2.2.2.1; rw [t2] at this; exact this) (v := .inl z) oz rfl
      have a2 := G_push a1 dp_lt (v := (.inl (actS op (spA (f (n - 2)).1) z), -1)) (act_ok okX oz (fun _ => lose_0 okY ez)) rfl (Or.inl rfl)
      have d1 : (dpS x).1 = x.1 - 1 := rfl
      rw [show n - 2 + 1 = n - 1 by omega] at a2
      exact NX (by omega) (by omega) a2
  rw [if_neg q10] at hc
  by_cases q17 : op ≤ 17
  · rw [if_pos q17] at hc
    unfold shS at ey
    repeat (first | rw [if_pos (by omega)] at ey | rw [if_neg (by omega)] at ey)
    obtain ⟨y1, e1, rfl⟩ := Option.map_eq_some_iff.mp ey
    obtain ⟨y2, e2, e3⟩ := Option.bind_eq_some_iff.mp e1
    obtain ⟨t1, t2, t3⟩ := tkS_some e2
    subst t3
    obtain ⟨u1, u2, u3⟩ := tkS_some e3
    subst u3
    have g := G_pop G t1
    have g2 := G_pop g.1 u1
    rw [show n - 1 - 1 = n - 2 by omega] at g2
    have okY := ok_sp g.2.1 (by rw [g.2.2.1, t2])
    have okX := ok_sp g2.2.1 (by rw [g2.2.2.1, u2])
    rw [List.mem_singleton] at hc
    subst hc
    have a2 := G_push g2.1 dp_lt (v := (.inl (actS op (spA (f (n - 2)).1) (spA (f (n - 1)).1)), -1)) (act_ok okX okY (fun z => absurd z q10)) rfl (Or.inl rfl)
    have d1 : (dpS x).1 = x.1 - 1 := rfl
    rw [show n - 2 + 1 = n - 1 by omega] at a2
    exact NX (by omega) (by omega) a2
  rw [if_neg q17] at hc
  by_cases q18 : op = 18
  · rw [if_pos q18] at hc
    unfold shS at ey
    repeat (first | rw [if_pos (by omega)] at ey | rw [if_neg (by omega)] at ey)
    obtain ⟨y1, e1, rfl⟩ := Option.map_eq_some_iff.mp ey
    obtain ⟨t1, t2, t3⟩ := tkS_some e1
    subst t3
    have g := G_pop G t1
    have okY := ok_sp g.2.1 (by rw [g.2.2.1, t2])
    rw [List.mem_singleton] at hc
    subst hc
    have a2 := G_push g.1 dp_lt (v := (.inl (actS 18 (spA (f (n - 1)).1) (0, 0, 0)), -1)) (act_ok okY okS0 (fun z => absurd z (by decide))) rfl (Or.inl rfl)
    rw [show n - 1 + 1 = n by omega] at a2
    exact NX (by omega) (by omega) a2
  rw [if_neg q18] at hc
  by_cases q19 : op = 19
  · rw [if_pos q19] at hc
    unfold shS at ey
    repeat (first | rw [if_pos (by omega)] at ey | rw [if_neg (by omega)] at ey)
    cases ey
    rw [List.mem_singleton] at hc
    subst hc
    exact JP (by omega) (by omega) G
  rw [if_neg q19] at hc
  by_cases q25 : op ≤ 25
  · rw [if_pos q25] at hc
    unfold shS at ey
    repeat (first | rw [if_pos (by omega)] at ey | rw [if_neg (by omega)] at ey)
    obtain ⟨y2, e2, e3⟩ := Option.bind_eq_some_iff.mp ey
    obtain ⟨t1, t2, t3⟩ := tkS_some e2
    subst t3
    obtain ⟨u1, u2, u3⟩ := tkS_some e3
    subst u3
    have g := G_pop G t1
    have g2 := G_pop g.1 u1
    rw [show n - 1 - 1 = n - 2 by omega] at g2
    have okY := ok_sp g.2.1 (by rw [g.2.2.1, t2])
    have okX := ok_sp g2.2.1 (by rw [g2.2.2.1, u2])
    have my := g.2.2.2.1
    have mx := g2.2.2.2.1
    rw [t2] at my
    rw [u2] at mx
    rcases List.mem_append.mp hc with hc | hc
    · obtain ⟨r, er, rfl⟩ := mem_conO hc
      exact JP (by omega) (by omega) (G_opens g2.1 ll okX okY mx my er)
    · obtain ⟨r, er, rfl⟩ := mem_conO hc
      exact NX (by omega) (by omega) (G_opens g2.1 ll okX okY mx my er)
  rw [if_neg q25] at hc
  by_cases q27 : op ≤ 27
  · rw [if_pos q27] at hc
    unfold shS at ey
    repeat (first | rw [if_pos (by omega)] at ey | rw [if_neg (by omega)] at ey)
    obtain ⟨t1, t2, t3⟩ := tkS_some ey
    subst t3
    have g := G_pop G t1
    have my := g.2.2.2.1
    rw [t2] at my
    rcases List.mem_append.mp hc with hc | hc
    · obtain ⟨r, er, rfl⟩ := mem_conO hc
      exact JP (by omega) (by omega) (G_null g.1 ll my er)
    · obtain ⟨r, er, rfl⟩ := mem_conO hc
      exact NX (by omega) (by omega) (G_null g.1 ll my er)
  rw [if_neg q27] at hc
  by_cases q28 : op = 28
  · rw [if_pos q28] at hc
    unfold shS at ey
    repeat (first | rw [if_pos (by omega)] at ey | rw [if_neg (by omega)] at ey)
    obtain ⟨y1, e1, rfl⟩ := Option.map_eq_some_iff.mp ey
    obtain ⟨t1, t2, t3⟩ := tkS_some e1
    subst t3
    have g := G_pop G t1
    have my := g.2.2.2.1
    rw [t2] at my
    have okY := ok_sp g.2.1 (by rw [g.2.2.1, t2])
    have hsn := hst q28
    split at hc
    · cases hc
    · rename_i z ez
      have oz := (within_ok okY ez).1
      simp only [List.mem_cons, List.not_mem_nil, or_false] at hc
      rcases hc with rfl | rfl | rfl
      · exact TL (by omega) (okC_one (by omega) (by omega) oz rfl)
      · exact TL (by omega) (okC_one (by omega) (by omega) okS0 rfl)
      · have a1 := G_tell g.1 ll my (v := .inl z) oz rfl
        have a2 := G_push a1 dp_lt (v := (.inr (shl1 (sn (60 * m + i)), false), -1)) trivial rfl (Or.inl rfl)
        rw [show n - 1 + 1 = n by omega] at a2
        exact NX (by omega) (by omega) a2
  rw [if_neg q28] at hc
  by_cases q29 : op = 29
  · rw [if_pos q29] at hc
    unfold shS at ey
    repeat (first | rw [if_pos (by omega)] at ey | rw [if_neg (by omega)] at ey)
    obtain ⟨y1, e1, rfl⟩ := Option.map_eq_some_iff.mp ey
    obtain ⟨t1, t2, t3⟩ := tkS_some e1
    subst t3
    have g := G_pop G t1
    have my := g.2.2.2.1
    rw [t2] at my
    split at hc
    · cases hc
    · rename_i z ez
      rw [List.mem_singleton] at hc
      subst hc
      have oz := gath_ok LN 25 (by omega) z ez
      have a1 := G_tell g.1 ll my (v := .inr (stA (f (n - 1)).1, false)) trivial rfl
      have a2 := G_push a1 dp_lt (v := (.inl z, -1)) oz rfl (Or.inl rfl)
      rw [show n - 1 + 1 = n by omega] at a2
      exact NX (by omega) (by omega) a2
  rw [if_neg q29] at hc
  by_cases q30 : op = 30
  · rw [if_pos q30] at hc
    unfold shS at ey
    repeat (first | rw [if_pos (by omega)] at ey | rw [if_neg (by omega)] at ey)
    obtain ⟨y1, e1, rfl⟩ := Option.map_eq_some_iff.mp ey
    obtain ⟨y2, e2, e3⟩ := Option.bind_eq_some_iff.mp e1
    obtain ⟨t1, t2, t3⟩ := tkS_some e2
    subst t3
    obtain ⟨u1, u2, u3⟩ := tkS_some e3
    subst u3
    have g := G_pop G t1
    have g2 := G_pop g.1 u1
    rw [show n - 1 - 1 = n - 2 by omega] at g2
    have okY := ok_sp g.2.1 (by rw [g.2.2.1, t2])
    have my := g.2.2.2.1
    have mx := g2.2.2.2.1
    rw [t2] at my
    rw [u2] at mx
    split at hc
    · cases hc
    · split at hc
      · rename_i z1 ez1 z2 z3 ez2 ez3
        rw [List.mem_singleton] at hc
        subst hc
        have o2 := (within_ok okY ez2).1
        have o3 := gath_ok EL 25 (by omega) z3 ez3
        have a1 := G_tell g2.1 ll mx (v := .inr (stA (f (n - 2)).1, false)) trivial rfl
        have a2 := G_tell a1 ll my (v := .inl z2) o2 rfl
        have a3 := G_push a2 dp_lt (v := (.inl z3, -1)) o3 rfl (Or.inl rfl)
        have d1 : (dpS x).1 = x.1 - 1 := rfl
        rw [show n - 2 + 1 = n - 1 by omega] at a3
        exact NX (by omega) (by omega) a3
      · cases hc
  rw [if_neg q30] at hc
  by_cases q31 : op = 31
  · rw [if_pos q31] at hc
    unfold shS at ey
    repeat (first | rw [if_pos (by omega)] at ey | rw [if_neg (by omega)] at ey)
    obtain ⟨y2, e1, e4⟩ := Option.bind_eq_some_iff.mp ey
    obtain ⟨y3, e2, e3⟩ := Option.bind_eq_some_iff.mp e1
    obtain ⟨t1, t2, t3⟩ := tkS_some e2
    subst t3
    obtain ⟨u1, u2, u3⟩ := tkS_some e3
    subst u3
    obtain ⟨v1, v2, v3⟩ := tkS_some e4
    subst v3
    have g := G_pop G t1
    have g2 := G_pop g.1 u1
    have g3 := G_pop g2.1 v1
    rw [show n - 1 - 1 = n - 2 by omega] at g2
    rw [show n - 1 - 1 - 1 = n - 3 by omega] at g3
    have okY := ok_sp g2.2.1 (by rw [g2.2.2.1, u2])
    have mx := g2.2.2.2.1
    have my := g3.2.2.2.1
    rw [u2] at mx
    rw [v2] at my
    split at hc
    · cases hc
    · split at hc
      · cases hc
      · rename_i z1 ez1 z2 ez2
        rcases List.mem_append.mp hc with hc | hc
        · obtain ⟨s, hs1, rfl⟩ := List.mem_map.mp hc
          have := List.mem_range.mp (List.mem_filter.mp hs1).1
          exact TL (by omega) (okC_one (by omega) (by omega) g.2.1 (by rw [g.2.2.1, t2]))
        · rw [List.mem_singleton] at hc
          subst hc
          have o2 := (within_ok okY ez2).1
          have a1 := G_tell g3.1 ll my (v := .inr (stA (f (n - 3)).1, false)) trivial rfl
          exact NX (by omega) (by omega) (G_tell a1 ll mx (v := .inl z2) o2 rfl)
  rw [if_neg q31] at hc
  by_cases q32 : op = 32
  · rw [if_pos q32] at hc
    unfold shS at ey
    repeat (first | rw [if_pos (by omega)] at ey | rw [if_neg (by omega)] at ey)
    obtain ⟨y1, e1, rfl⟩ := Option.map_eq_some_iff.mp ey
    have h4 := od3 q32
    have ha : a < k := by omega
    have wa := wf_ar B.wf ha
    have ha8 : a < 8 := Nat.lt_of_lt_of_le ha B.wf.k8
    obtain ⟨r1, r2, r3, r4, r5⟩ := tkN_ty (pN P 1 a) G e1 hx
    have f1 := B.first a ha
    rcases List.mem_cons.mp hc with rfl | hc
    · refine ⟨okC_st (i := 0) ha8 (by omega) f1.2 (ent_ty r5), Or.inl ?_⟩
      unfold grF
      rw [hw0 a ha]
      simp
    · split at hc
      · rename_i tr
        by_cases q : pN P 4 a = 0
        · rw [if_pos q] at hc
          rw [List.mem_singleton] at hc
          subst hc
          refine NX (by omega) (by omega) ?_
          rw [if_pos q]
          exact r1
        · rw [if_neg q] at hc
          rw [List.mem_singleton] at hc
          subst hc
          have t := tld_res hF ha8 tr q
          refine NX (by omega) (by omega) ?_
          rw [if_neg q]
          exact G_push r1 r4 t.2.1 t.2.2 (Or.inl rfl)
      · cases hc
  rw [if_neg q32] at hc
  by_cases q33 : op = 33
  · rw [if_pos q33] at hc
    unfold shS at ey
    repeat (first | rw [if_pos (by omega)] at ey | rw [if_neg (by omega)] at ey)
    by_cases q : pN P 4 m = 0
    · rw [if_pos q] at hc
      rw [List.mem_singleton] at hc
      subst hc
      exact TL (by omega) (okC_res hm8 (by rw [if_pos q]) (fun z => absurd q z))
    · rw [if_neg q] at hc ey
      rw [List.mem_singleton] at hc
      subst hc
      obtain ⟨t1, t2, t3⟩ := tkS_some ey
      have g := G_pop G t1
      exact TL (by omega) (okC_res hm8 (by rw [if_neg q]) (fun _ => ⟨g.2.1, by show arA (f (n - 1)).1 = _; rw [g.2.2.1, t2], rfl⟩))
  rw [if_neg q33] at hc
  by_cases q34 : op = 34
  · rw [if_pos q34] at hc
    unfold shS at ey
    repeat (first | rw [if_pos (by omega)] at ey | rw [if_neg (by omega)] at ey)
    cases ey
    have h4 := od4 (Or.inl q34)
    split at hc
    · rename_i tr
      rw [List.mem_singleton] at hc
      subst hc
      have t := tld_one hF (by omega) (by omega) tr
      exact NX (by omega) (by omega) (G_push G hx t.2.1 t.2.2 (Or.inl rfl))
    · cases hc
  rw [if_neg q34] at hc
  · unfold shS at ey
    repeat (first | rw [if_pos (by omega)] at ey | rw [if_neg (by omega)] at ey)
    have h4 := od4 (Or.inr (by omega))
    obtain ⟨t1, t2, t3⟩ := tkS_some ey
    subst t3
    have g := G_pop G t1
    simp only [List.mem_cons, List.not_mem_nil, or_false] at hc
    rcases hc with rfl | rfl
    · exact TL (by omega) (okC_one (by omega) (by omega) g.2.1 (by rw [g.2.2.1, t2]))
    · exact NX (by omega) (by omega) g.1
theorem outs_loc {F G : Fa} {p : Nat} (h1 : F p = G p) (h2 : ∀ t, 480 ≤ t → F t = G t) : outs P sn F p = outs P sn G p := by
  have g1 : ∀ (b : Int32) (base : Nat), 480 ≤ base → ∀ k, gathF F base b k = gathF G base b k := by
    intro b base hb k
    induction k with
    | zero => rfl
    | succ k ih => simp only [gathF, ih, h2 (base + k) (by omega)]
  unfold outs
  simp only [h1, g1 _ 480 (by omega), g1 _ 505 (by omega), h2 (534 + pN P 7 p) (by omega), h2 (530 + pN P 7 p) (by omega)]
theorem sys_of (B : Built k P sh sn wd) (rs : Nat → Bool) : Sys (tyF P sh) (grF wd) (outs P sn) (rootsF P k rs) := by
  refine ⟨fun F p hp hF ht c hc => (outs_all B hp hF ht c hc).1, fun F G p h1 h2 => outs_loc h1 h2, fun F p hp hF ht c hc => (outs_all B hp hF ht c hc).2, fun c hc => ?_, fun t ht => by unfold grF; simp [ht]⟩
  obtain ⟨m, hm, rfl⟩ := List.mem_map.mp hc
  have hm := List.mem_range.mp (List.mem_filter.mp hm).1
  exact okC_st (i := 0) (Nat.lt_of_lt_of_le hm B.wf.k8) (by omega) (B.first m hm).2 rt_ty
end PURE9
