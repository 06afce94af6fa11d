-- needs: 89.75
section RC7
variable {l : Launch} {V : gi_V} {n : Nat} {h h' : gi_H} {M k m i : Nat} {P : Pm} {x : Sh} {sh : Nat → Option Sh} {S S' : Nat → Int32} {J J' : Nat → Int64} {F F' : Nat → Nat → Int32} {G G' : Nat → Nat → Int64} {f g : Nat → Sl} {n0 : Nat} {r : Rw} {Ff : Fa} {Z : Fa × Bool} {md p t : Nat}
def tdC (q : Nat) (F F' : Nat → Nat → Int32) (G G' : Nat → Nat → Int64) : Prop := (∀ a, a ≠ 39 → a ≠ 43 → a ≠ 44 → a ≠ 45 → F' a = F a) ∧ (∀ a, a ≠ 40 → a ≠ 41 → a ≠ 42 → G' a = G a) ∧ ∀ j, j ≠ q → F' 39 j = F 39 j ∧ F' 45 j = F 45 j ∧ cT F' G' j = cT F G j
theorem rfS.td {r : Rw} {a q : Nat} (h : rfS P r p a F G) (c : tdC q F F' G G') : rfS P r p a F' G' := by
  refine ⟨by rw [c.1 31 (by decide) (by decide) (by decide) (by decide)]; exact h.1, fun z => ?_⟩
  unfold cS
  rw [c.1 35 (by decide) (by decide) (by decide) (by decide), c.1 36 (by decide) (by decide) (by decide) (by decide), c.1 37 (by decide) (by decide) (by decide) (by decide), c.2.1 32 (by decide) (by decide) (by decide), c.2.1 33 (by decide) (by decide) (by decide), c.2.1 34 (by decide) (by decide) (by decide)]
  exact h.2 z
theorem rfT.td {r : Rw} {a q : Nat} (h : rfT r a F G) (c : tdC q F F' G G') (ne : a ≠ q) : rfT r a F' G' := by
  obtain ⟨c1, c2, c3⟩ := c.2.2 a ne
  exact ⟨c1.trans h.1, fun z => by rw [c3]; exact h.2 z⟩
theorem fsN.tput {r : Rw} (h : fsN P Z.1 F G) (h1 : 480 ≤ t) (h2 : t < 542) (c : tdC (tix t) F F' G G') (hr : rfT r (tix t) F' G') : fsN P (upO Z.1 t r) F' G' := by
  refine ⟨fun q hq => ?_, fun s h3 h4 => ?_⟩
  · rw [upO_ne (by omega)]
    exact (h.1 q hq).td c
  · by_cases e : s = t
    · subst e
      rw [upO_self]
      exact hr
    · rw [upO_ne e]
      exact (h.2 s h3 h4).td c (fun z => e (tix_inj h3 h4 h1 h2 z))
theorem fsO.tput (h : fsO P Ff F G) (h1 : 480 ≤ t) (h2 : t < 542) (c : tdC (tix t) F F' G G') : fsO P Ff F' G' := by
  refine ⟨fun q hq => (h.1 q hq).td c, fun s h3 h4 => (h.2 s h3 h4).td c ?_⟩
  have := tix_b h1 h2
  omega
theorem gr_hi (h1 : 480 ≤ t) {wd : Nat → Bool} : grF wd t = true := by unfold grF; rw [decide_eq_true h1]; rfl
theorem md_tput {n0 : Nat} {g : Nat → Sl} (hn2 : md ≠ 2) (hD : mdR k P sh md Ff Z S F G) (ok : okC (tyF P sh) (t, n0, g)) (h1 : 480 ≤ t) (h2 : t < 542) (c : tdC (tix t) F F' G G') (hr : rfT (joinR (decide (md = 0)) (Z.1 t) n0 g) (tix t) F' G') (hs : ∀ j, j ≠ 50 → S' j = S j) (h50 : S' 50 = bI (Z.2 || newR (Z.1 t) n0 g)) (hc : md = 0 → F' 45 (tix t) = nI (joinR (decide (md = 0)) (Z.1 t) n0 g).ch) : mdR k P sh md Ff (comeM md (grF (wdF k P)) Z (t, n0, g)) S' F' G' := by
  obtain ⟨a1, a2, a3, a4, a5, a6, a7, a8, a9⟩ := hD
  have e := comeM_n2 (wd := grF (wdF k P)) (X := Z) (c := (t, n0, g)) hn2
  have eg : (grF (wdF k P) t && decide (md = 0)) = decide (md = 0) := by rw [gr_hi h1, Bool.true_and]
  dsimp only at e
  rw [eg] at e
  refine ⟨(hs 47 (by decide)).trans a1, (hs 48 (by decide)).trans a2, (hs 49 (by decide)).trans a3, ?_, fun z => (a5 z).tput h1 h2 c, fun _ => ?_, fun z => absurd z hn2, ?_, fun z => ⟨⟨fun q hq wq => ?_, fun s h3 h4 => ?_⟩, ?_⟩⟩
  · rw [e]
    exact a4.tput h1 h2 c hr
  · rw [e]
    exact h50
  · unfold comeM
    rw [if_neg hn2]
    exact come_ok a8 ok
  · rw [e]
    show F' 38 q = nI (upO Z.1 t _ q).ch
    rw [upO_ne (by omega), c.1 38 (by decide) (by decide) (by decide) (by decide)]
    exact (a9 z).1.1 q hq wq
  · rw [e]
    show F' 45 (tix s) = nI (upO Z.1 t _ s).ch
    by_cases y : s = t
    · subst y
      rw [upO_self]
      exact hc z
    · rw [upO_ne y, (c.2.2 (tix s) (fun q => y (tix_inj h3 h4 h1 h2 q))).2.1]
      exact (a9 z).1.2 s h3 h4
  · subst z
    rw [comeM_0f]
    exact chI_come a8 ok (a9 rfl).2
theorem tdC.fr {q : Nat} (a : tdC q F F' G G') (hs : ∀ j, j ≠ 50 → j ≠ 51 → S' j = S j) (hj : frJ J J') : frZ S S' J J' F F' G G' := ⟨hs, hj, fun j h => a.1 j (by omega) (by omega) (by omega) (by omega), fun j h => a.2.1 j (by omega) (by omega) (by omega)⟩
/-- what is told of a row that has no locals -/
theorem ty_hi (h1 : 480 ≤ t) : (tyF P sh t).2.1 = 0 ∧ (tyF P sh t).1 ≤ 1 := by
  unfold tyF
  rw [if_neg (by omega)]
  split
  · exact ⟨rfl, Nat.le_refl _⟩
  · refine ⟨rfl, ?_⟩
    show (if _ then 0 else 1) ≤ 1
    split <;> omega
theorem mk_hi {n0 : Nat} {g : Nat → Sl} (h1 : 480 ≤ t) (hg : okG (tyF P sh t) n0 g) (hn : n0 ≠ 0) : n0 = 1 ∧ okAv (g 0).1 ∧ arA (g 0).1 = (tyF P sh t).2.2 0 ∧ (g 0).2 = -1 := by
  obtain ⟨t1, t2⟩ := ty_hi (P := P) (sh := sh) h1
  obtain ⟨e, q⟩ := hg
  obtain ⟨a, b, c⟩ := q 0 (by omega)
  refine ⟨by omega, a, b, ?_⟩
  rcases c with c | ⟨-, j, hj, -⟩
  · exact c
  · omega
def gvA (n0 : Nat) (g : Nat → Sl) : Av := if n0 = 0 then .inl (0, 0, 0) else (g 0).1
theorem cov_td {n0 : Nat} {g : Nat → Sl} {r : Rw} (h1 : 480 ≤ t) (hr : okG (tyF P sh t) r.n r.f) (hg : okG (tyF P sh t) n0 g) : covR r n0 g = covA (tvA r) (gvA n0 g) := by
  have en : n0 = r.n := hg.1.trans hr.1.symm
  unfold covR tvA gvA
  rw [decide_eq_true en, Bool.true_and]
  by_cases z : n0 = 0
  · rw [if_pos (by omega), if_pos z, ← en, z]
    exact (covA_refl _).symm
  · obtain ⟨a1, a2, a3, a4⟩ := mk_hi h1 hg z
    obtain ⟨b1, b2, b3, b4⟩ := mk_hi h1 hr (by omega)
    rw [if_neg (by omega), if_neg z, b1]
    show ((covA (r.f 0).1 (g 0).1 && covM (r.f 0).2 (g 0).2) && true) = _
    rw [b4, a4]
    simp [covM]
theorem tv_join {n0 : Nat} {g : Nat → Sl} {r : Rw} {far : Bool} {c : Nat} (hn : n0 = r.n) (h0 : n0 ≠ 0) : tvA (mkR true c r.n (fun i => joinSl far (r.f i) (g i))) = if far then farA (tvA r) (gvA n0 g) else bothA (tvA r) (gvA n0 g) := by
  unfold tvA gvA
  rw [if_neg (show ¬ r.n = 0 by omega), if_neg (show ¬ r.n = 0 by omega), if_neg h0]
  unfold joinSl
  cases far <;> rfl
theorem cov_00 {n0 : Nat} {g : Nat → Sl} {r : Rw} (h1 : 480 ≤ t) (hr : okG (tyF P sh t) r.n r.f) (hg : okG (tyF P sh t) n0 g) (h : covA (tvA r) (gvA n0 g) = false) : n0 ≠ 0 ∧ n0 = r.n := by
  have en : n0 = r.n := hg.1.trans hr.1.symm
  refine ⟨fun z => ?_, en⟩
  unfold tvA gvA at h
  rw [if_pos (show r.n = 0 by omega), if_pos z, covA_refl] at h
  cases h
set_option maxHeartbeats 4000000 in
set_option maxRecDepth 100000 in
theorem tell_c {x : Sp} {n0 : Nat} {g : Nat → Sl} (hmd : md ≤ 2) (h1 : 480 ≤ t) (h2 : t < 542) (okc : okC (tyF P sh) (t, n0, g)) (hD : mdR k P sh md Ff Z S F G) (hx : okS x) (hv : gvA n0 g = .inl x) {p : Program} {e : Env} {sg : State} {mi : MethodId} {args : Array Value} {below : List Frame} {meth : Method} {c : Code} (C : gi_C p sg mi args meth c b_Mo_tell 8 y_Mo_tell.cls V) (hr : meth.sig.returnType = none) (m2 : ¬ md = 2) (tt : (Z.1 t).told = true) {z : Sp} (ez : tvA (Z.1 t) = .inl z) (okz : okS z) (nc : covR (Z.1 t) n0 g = false) {J2 : Nat → Int64} {y : gi_H} (Hb : mo_at M S J2 F G y) (ob : outM M h y) (qb : frJ J J2) (rb : J2 22 = eL (bothS z x).1 ∧ J2 23 = eL (bothS z x).2.1 ∧ J2 24 = eL (bothS z x).2.2) : gi_G p l e { frames := 2, cells := 0, slots := 0, locals := 61 } sg mi args below meth c (MQ below (gi_Qc V (fun v n' h' => v = none ∧ n' = n ∧ coP M k P sh md Ff (comeM md (grF (wdF k P)) Z (t, n0, g)) h S J F G h')) args sg 0 0 (fun q : Nat => V.2.2 ≤ q)) V 8 0 0 178 (lv_args 0 [.ref M, .int (nI (tix t)), .long (eL x.1), .long (eL x.2.1), .long (eL x.2.2)]) [] n y := by
  have tb := tix_b h1 h2
  obtain ⟨a1, a2, a3, a4, a5, a6, a7, a8, a9⟩ := id hD
  obtain ⟨r39, rr⟩ := a4.2 t h1 h2
  have hrt : (Z.1 t).told = true → okG (tyF P sh t) (Z.1 t).n (Z.1 t).f := fun z => (a8 t h2).1 z
  have hgt : okG (tyF P sh t) n0 g := okc.2.1
  have ht := hrt tt
  have rt := rr tt
  rw [ez] at rt
  have s40 : G 40 (tix t) = eL z.1 := rt.1
  have s41 : G 41 (tix t) = eL z.2.1 := rt.2.1
  have s42 : G 42 (tix t) = eL z.2.2 := rt.2.2
  have jr : joinR (decide (md = 0)) (Z.1 t) n0 g = mkR true ((Z.1 t).ch + 1) (Z.1 t).n (fun i => joinSl (decide (md = 0) && decide (4 ≤ (Z.1 t).ch + 1)) ((Z.1 t).f i) (g i)) := by
    unfold joinR
    rw [if_neg (by rw [tt]; decide), if_neg (by rw [nc]; decide), tt]
  have n00 := cov_00 h1 ht hgt (by rw [← cov_td h1 ht hgt]; exact nc)
  have tj := tv_join (g := g) (r := Z.1 t) (far := decide (md = 0) && decide (4 ≤ (Z.1 t).ch + 1)) (c := (Z.1 t).ch + 1) n00.2 n00.1
  rw [ez, hv] at tj
  have H := Hb
  obtain ⟨fs, Ha, Hf⟩ := id H.1
  have ho := ob
  refine gi_aload_n (q := 179) (i := 0) C (dm_Mo_tell 106 rfl) rfl rfl rfl ?_
  refine gi_iconst (q := 180) (v := 1) C (dm_Mo_tell 107 rfl) rfl (by decide) ?_
  refine gi_put (q := 183) C (dm_Mo_tell 108 rfl) rfl fl_Mo_401 fp_Mo_50 Ha (by rw [Hf.1]; decide) rfl rfl ?_
  refine gi_genM (H.putI Ha Hf (by decide) rfl) (ho.up (by omega) (by omega)) (fun y H ho => ?_)
  obtain ⟨fs, Ha, Hf⟩ := id H.1
  refine gi_aload_n (q := 184) (i := 0) C (dm_Mo_tell 109 rfl) rfl rfl rfl ?_
  refine gi_get (q := 187) C (dm_Mo_tell 110 rfl) rfl fl_Mo_392 Ha (mo_g47 Hf) ?_
  refine gi_if_ne (q := 190) (tgt := 226) C (dm_Mo_tell 111 rfl) rfl (by decide) (fun c187 => ?_) (fun c187 => ?_)
  · have m0 : ¬ md = 0 := by
      rw [show upS S 50 1 47 = S 47 from rfl, a1, nI_z (by omega)] at c187
      exact c187
    refine gi_aload_n (q := 227) (i := 0) C (dm_Mo_tell 136 rfl) rfl rfl rfl ?_
    refine gi_get (q := 230) C (dm_Mo_tell 137 rfl) rfl fl_Mo_86 Ha (mo_g40 Hf) ?_
    refine gi_iload_n (q := 231) (i := 1) C (dm_Mo_tell 138 rfl) rfl rfl rfl ?_
    refine gi_aload_n (q := 232) (i := 0) C (dm_Mo_tell 139 rfl) rfl rfl rfl ?_
    refine gi_get (q := 235) C (dm_Mo_tell 140 rfl) rfl fl_Mo_242 Ha (mo_g22 Hf) ?_
    refine gi_last (q := 236) C (dm_Mo_tell 141 rfl) rfl rfl (mo_a40 H) (inN (show tix t < 160 by omega) (by decide)) ?_
    refine gi_genM (H.setJ (p := 22) (k := 40) (by decide) rfl rfl rfl (by omega)) (ho.up (by omega) (by omega)) (fun y H ho => ?_)
    obtain ⟨fs, Ha, Hf⟩ := id H.1
    refine gi_aload_n (q := 237) (i := 0) C (dm_Mo_tell 142 rfl) rfl rfl rfl ?_
    refine gi_get (q := 240) C (dm_Mo_tell 143 rfl) rfl fl_Mo_89 Ha (mo_g41 Hf) ?_
    refine gi_iload_n (q := 241) (i := 1) C (dm_Mo_tell 144 rfl) rfl rfl rfl ?_
    refine gi_aload_n (q := 242) (i := 0) C (dm_Mo_tell 145 rfl) rfl rfl rfl ?_
    refine gi_get (q := 245) C (dm_Mo_tell 146 rfl) rfl fl_Mo_246 Ha (mo_g23 Hf) ?_
    refine gi_last (q := 246) C (dm_Mo_tell 147 rfl) rfl rfl (mo_a41 H) (inN (show tix t < 160 by omega) (by decide)) ?_
    refine gi_genM (H.setJ (p := 23) (k := 41) (by decide) rfl rfl rfl (by omega)) (ho.up (by omega) (by omega)) (fun y H ho => ?_)
    obtain ⟨fs, Ha, Hf⟩ := id H.1
    refine gi_aload_n (q := 247) (i := 0) C (dm_Mo_tell 148 rfl) rfl rfl rfl ?_
    refine gi_get (q := 250) C (dm_Mo_tell 149 rfl) rfl fl_Mo_92 Ha (mo_g42 Hf) ?_
    refine gi_iload_n (q := 251) (i := 1) C (dm_Mo_tell 150 rfl) rfl rfl rfl ?_
    refine gi_aload_n (q := 252) (i := 0) C (dm_Mo_tell 151 rfl) rfl rfl rfl ?_
    refine gi_get (q := 255) C (dm_Mo_tell 152 rfl) rfl fl_Mo_249 Ha (mo_g24 Hf) ?_
    refine gi_last (q := 256) C (dm_Mo_tell 153 rfl) rfl rfl (mo_a42 H) (inN (show tix t < 160 by omega) (by decide)) ?_
    refine gi_genM (H.setJ (p := 24) (k := 42) (by decide) rfl rfl rfl (by omega)) (ho.up (by omega) (by omega)) (fun y H ho => ?_)
    obtain ⟨fs, Ha, Hf⟩ := id H.1
    refine gi_vret C hr (dm_Mo_tell 154 rfl) ?_
    rw [nI_clamp (show tix t < 2 ^ 31 by omega)] at H
    have fe : (decide (md = 0) && decide (4 ≤ (Z.1 t).ch + 1)) = false := by
      rw [decide_eq_false m0, Bool.false_and]
    rw [fe] at jr tj
    have key : ∃ F3 G3, mo_at M (upS S 50 1) J2 F3 G3 y ∧ tdC (tix t) F F3 G G3 ∧ F3 39 = F 39 ∧ F3 45 (tix t) = F 45 (tix t) ∧ ceA (.inl (bothS z x)) (cT F3 G3 (tix t)) := by
      refine ⟨_, _, H, ⟨fun a b1 b2 b3 b4 => ?_, fun a b1 b2 b3 => ?_, fun j hj => ⟨?_, ?_, ?_⟩⟩, ?_, ?_, ?_⟩
      · first | rfl | simp [upA, b1, b2, b3, b4]
      · simp [upA, b1, b2, b3]
      · first | rfl | simp [upA, upd_is, hj]
      · first | rfl | simp [upA, upd_is, hj]
      · simp [cT, upA, upd_is, updJ_is, hj]
      · first | rfl | simp [upA]
      · first | rfl | simp [upA, upd_is]
      · simp [cT, ceA, upA, upd_is, updJ_is, rb.1, rb.2.1, rb.2.2]
    obtain ⟨F3, G3, H3', d3, c39, c45, c3⟩ := key
    refine ⟨rfl, rfl, _, J2, F3, G3, H3', ho, d3.fr (fun j q1 q2 => by unfold upS; rw [if_neg q1]) qb, md_tput m2 hD okc h1 h2 d3 ?_ (fun j q1 => by unfold upS; rw [if_neg q1]) ?_ (fun z9 => ?_)⟩
    · rw [jr]
      refine ⟨by rw [c39, r39, tt], fun _ => ?_⟩
      rw [tj]
      exact c3
    · show (1 : Int32) = _
      unfold newR
      rw [nc]
      simp [bI]
    · rw [jr, c45]
      exact absurd z9 m0
  · have m0 : md = 0 := by
      rw [show upS S 50 1 47 = S 47 from rfl, a1, nI_z (by omega)] at c187
      exact c187
    have cb : (Z.1 t).ch + 1 < 2 ^ 31 ∧ F 45 (tix t) = nI (Z.1 t).ch := by
      have z9 := ((a9 m0).2 t h2 (gr_hi h1)).2 tt
      have y9 := (ty_hi (P := P) (sh := sh) h1).2
      exact ⟨by omega, (a9 m0).1.2 t h1 h2⟩
    
    refine gi_aload_n (q := 191) (i := 0) C (dm_Mo_tell 112 rfl) rfl rfl rfl ?_
    refine gi_get (q := 194) C (dm_Mo_tell 113 rfl) rfl fl_Mo_101 Ha (mo_g45 Hf) ?_
    refine gi_iload_n (q := 195) (i := 1) C (dm_Mo_tell 114 rfl) rfl rfl rfl ?_
    refine gi_dup2_11 (q := 196) C (dm_Mo_tell 115 rfl) rfl rfl rfl ?_
    refine gi_iald (q := 197) C (dm_Mo_tell 116 rfl) rfl rfl (mo_a45 H) (inN (show tix t < 80 by omega) (by decide)) ?_
    refine gi_iconst (q := 198) (v := 1) C (dm_Mo_tell 117 rfl) rfl (by decide) ?_
    refine gi_iadd (q := 199) C (dm_Mo_tell 118 rfl) rfl ?_
    refine gi_iast (q := 200) C (dm_Mo_tell 119 rfl) rfl rfl (mo_a45 H) (inN (show tix t < 80 by omega) (by decide)) ?_
    refine gi_genM (H.setI (p := 27) (k := 45) (by decide) rfl rfl (by decide) rfl (by omega)) (ho.up (by omega) (by omega)) (fun y H ho => ?_)
    obtain ⟨fs, Ha, Hf⟩ := id H.1
    rw [nI_clamp (show tix t < 2 ^ 31 by omega)] at H
    refine gi_aload_n (q := 201) (i := 0) C (dm_Mo_tell 120 rfl) rfl rfl rfl ?_
    refine gi_get (q := 204) C (dm_Mo_tell 121 rfl) rfl fl_Mo_101 Ha (mo_g45 Hf) ?_
    refine gi_iload_n (q := 205) (i := 1) C (dm_Mo_tell 122 rfl) rfl rfl rfl ?_
    refine gi_iald (q := 206) C (dm_Mo_tell 123 rfl) rfl rfl (mo_a45 H) (inN (show tix t < 80 by omega) (by decide)) ?_
    rw [nI_clamp (show tix t < 2 ^ 31 by omega), upA_i, upd_is, if_pos rfl]
    refine gi_iconst (q := 207) (v := 4) C (dm_Mo_tell 124 rfl) rfl (by decide) ?_
    refine gi_icmp_lt (q := 210) (tgt := 226) C (dm_Mo_tell 125 rfl) rfl (by decide) (fun c207 => ?_) (fun c207 => ?_)
    · refine gi_aload_n (q := 227) (i := 0) C (dm_Mo_tell 136 rfl) rfl rfl rfl ?_
      refine gi_get (q := 230) C (dm_Mo_tell 137 rfl) rfl fl_Mo_86 Ha (mo_g40 Hf) ?_
      refine gi_iload_n (q := 231) (i := 1) C (dm_Mo_tell 138 rfl) rfl rfl rfl ?_
      refine gi_aload_n (q := 232) (i := 0) C (dm_Mo_tell 139 rfl) rfl rfl rfl ?_
      refine gi_get (q := 235) C (dm_Mo_tell 140 rfl) rfl fl_Mo_242 Ha (mo_g22 Hf) ?_
      refine gi_last (q := 236) C (dm_Mo_tell 141 rfl) rfl rfl (mo_a40 H) (inN (show tix t < 160 by omega) (by decide)) ?_
      refine gi_genM (H.setJ (p := 22) (k := 40) (by decide) rfl rfl rfl (by omega)) (ho.up (by omega) (by omega)) (fun y H ho => ?_)
      obtain ⟨fs, Ha, Hf⟩ := id H.1
      refine gi_aload_n (q := 237) (i := 0) C (dm_Mo_tell 142 rfl) rfl rfl rfl ?_
      refine gi_get (q := 240) C (dm_Mo_tell 143 rfl) rfl fl_Mo_89 Ha (mo_g41 Hf) ?_
      refine gi_iload_n (q := 241) (i := 1) C (dm_Mo_tell 144 rfl) rfl rfl rfl ?_
      refine gi_aload_n (q := 242) (i := 0) C (dm_Mo_tell 145 rfl) rfl rfl rfl ?_
      refine gi_get (q := 245) C (dm_Mo_tell 146 rfl) rfl fl_Mo_246 Ha (mo_g23 Hf) ?_
      refine gi_last (q := 246) C (dm_Mo_tell 147 rfl) rfl rfl (mo_a41 H) (inN (show tix t < 160 by omega) (by decide)) ?_
      refine gi_genM (H.setJ (p := 23) (k := 41) (by decide) rfl rfl rfl (by omega)) (ho.up (by omega) (by omega)) (fun y H ho => ?_)
      obtain ⟨fs, Ha, Hf⟩ := id H.1
      refine gi_aload_n (q := 247) (i := 0) C (dm_Mo_tell 148 rfl) rfl rfl rfl ?_
      refine gi_get (q := 250) C (dm_Mo_tell 149 rfl) rfl fl_Mo_92 Ha (mo_g42 Hf) ?_
      refine gi_iload_n (q := 251) (i := 1) C (dm_Mo_tell 150 rfl) rfl rfl rfl ?_
      refine gi_aload_n (q := 252) (i := 0) C (dm_Mo_tell 151 rfl) rfl rfl rfl ?_
      refine gi_get (q := 255) C (dm_Mo_tell 152 rfl) rfl fl_Mo_249 Ha (mo_g24 Hf) ?_
      refine gi_last (q := 256) C (dm_Mo_tell 153 rfl) rfl rfl (mo_a42 H) (inN (show tix t < 160 by omega) (by decide)) ?_
      refine gi_genM (H.setJ (p := 24) (k := 42) (by decide) rfl rfl rfl (by omega)) (ho.up (by omega) (by omega)) (fun y H ho => ?_)
      obtain ⟨fs, Ha, Hf⟩ := id H.1
      refine gi_vret C hr (dm_Mo_tell 154 rfl) ?_
      rw [nI_clamp (show tix t < 2 ^ 31 by omega)] at H
      have fe : (decide (md = 0) && decide (4 ≤ (Z.1 t).ch + 1)) = false := by
        rw [m0, decide_eq_false (show ¬ 4 ≤ (Z.1 t).ch + 1 by
          have q := c207
          rw [cb.2, nI_1, show (4 : Int32) = nI 4 from rfl, nI_ltP (by omega) (by decide)] at q
          omega)]
        rfl
      rw [fe] at jr tj
      have key : ∃ F3 G3, mo_at M (upS S 50 1) J2 F3 G3 y ∧ tdC (tix t) F F3 G G3 ∧ F3 39 = F 39 ∧ F3 45 (tix t) = F 45 (tix t) + 1 ∧ ceA (.inl (bothS z x)) (cT F3 G3 (tix t)) := by
        refine ⟨_, _, H, ⟨fun a b1 b2 b3 b4 => ?_, fun a b1 b2 b3 => ?_, fun j hj => ⟨?_, ?_, ?_⟩⟩, ?_, ?_, ?_⟩
        · first | rfl | simp [upA, b1, b2, b3, b4]
        · simp [upA, b1, b2, b3]
        · first | rfl | simp [upA, upd_is, hj]
        · first | rfl | simp [upA, upd_is, hj]
        · simp [cT, upA, upd_is, updJ_is, hj]
        · first | rfl | simp [upA]
        · first | rfl | simp [upA, upd_is]
        · simp [cT, ceA, upA, upd_is, updJ_is, rb.1, rb.2.1, rb.2.2]
      obtain ⟨F3, G3, H3', d3, c39, c45, c3⟩ := key
      refine ⟨rfl, rfl, _, J2, F3, G3, H3', ho, d3.fr (fun j q1 q2 => by unfold upS; rw [if_neg q1]) qb, md_tput m2 hD okc h1 h2 d3 ?_ (fun j q1 => by unfold upS; rw [if_neg q1]) ?_ (fun z9 => ?_)⟩
      · rw [jr]
        refine ⟨by rw [c39, r39, tt], fun _ => ?_⟩
        rw [tj]
        exact c3
      · show (1 : Int32) = _
        unfold newR
        rw [nc]
        simp [bI]
      · rw [jr, c45]
        rw [cb.2, nI_1]
    · refine gi_aload_n (q := 211) (i := 0) C (dm_Mo_tell 126 rfl) rfl rfl rfl ?_
      refine gi_aload_n (q := 212) (i := 0) C (dm_Mo_tell 127 rfl) rfl rfl rfl ?_
      refine gi_get (q := 215) C (dm_Mo_tell 128 rfl) rfl fl_Mo_86 Ha (mo_g40 Hf) ?_
      refine gi_iload_n (q := 216) (i := 1) C (dm_Mo_tell 129 rfl) rfl rfl rfl ?_
      refine gi_lald (q := 217) C (dm_Mo_tell 130 rfl) rfl rfl (mo_a40 H) (inN (show tix t < 160 by omega) (by decide)) ?_
      rw [nI_clamp (show tix t < 2 ^ 31 by omega), s40]
      refine gi_aload_n (q := 218) (i := 0) C (dm_Mo_tell 131 rfl) rfl rfl rfl ?_
      refine gi_get (q := 221) C (dm_Mo_tell 132 rfl) rfl fl_Mo_89 Ha (mo_g41 Hf) ?_
      refine gi_iload_n (q := 222) (i := 1) C (dm_Mo_tell 133 rfl) rfl rfl rfl ?_
      refine gi_lald (q := 223) C (dm_Mo_tell 134 rfl) rfl rfl (mo_a41 H) (inN (show tix t < 160 by omega) (by decide)) ?_
      rw [nI_clamp (show tix t < 2 ^ 31 by omega), s41]
      refine gi_callv 2 (q := 226) C (dm_Mo_tell 135 rfl) rfl my_Mo_moved lk_Mo_414 im_Mo_moved rfl (c_Mo_moved (bothS z x) z.1 z.2.1 (by have := okz.1; omega) (by have := okz.2.1; have := okz.2.2.1; omega) (by have := okz.1; have := okz.2.1; omega) (by have := okz.2.2.1; omega) (mvP_both okz hx) rb H) Ha rfl rfl ⟨(Nat.le_of_ble_eq_true rfl), (Nat.le_of_ble_eq_true rfl)⟩ (Nat.le_of_ble_eq_true rfl) ⟨(Nat.le_of_ble_eq_true rfl), (Nat.le_of_ble_eq_true rfl)⟩ (fun r223 n223 h223 e223 => ?_)
      obtain ⟨rfl, rfl, S3, J3, Hm, om, ⟨qm, sm'⟩, rm⟩ := e223
      subst sm'
      have rm := rsJ rm
      have H := Hm
      obtain ⟨fs, Ha, Hf⟩ := id H.1
      have ho := ho.tr om
      refine gi_aload_n (q := 227) (i := 0) C (dm_Mo_tell 136 rfl) rfl rfl rfl ?_
      refine gi_get (q := 230) C (dm_Mo_tell 137 rfl) rfl fl_Mo_86 Ha (mo_g40 Hf) ?_
      refine gi_iload_n (q := 231) (i := 1) C (dm_Mo_tell 138 rfl) rfl rfl rfl ?_
      refine gi_aload_n (q := 232) (i := 0) C (dm_Mo_tell 139 rfl) rfl rfl rfl ?_
      refine gi_get (q := 235) C (dm_Mo_tell 140 rfl) rfl fl_Mo_242 Ha (mo_g22 Hf) ?_
      refine gi_last (q := 236) C (dm_Mo_tell 141 rfl) rfl rfl (mo_a40 H) (inN (show tix t < 160 by omega) (by decide)) ?_
      refine gi_genM (H.setJ (p := 22) (k := 40) (by decide) rfl rfl rfl (by omega)) (ho.up (by omega) (by omega)) (fun y H ho => ?_)
      obtain ⟨fs, Ha, Hf⟩ := id H.1
      refine gi_aload_n (q := 237) (i := 0) C (dm_Mo_tell 142 rfl) rfl rfl rfl ?_
      refine gi_get (q := 240) C (dm_Mo_tell 143 rfl) rfl fl_Mo_89 Ha (mo_g41 Hf) ?_
      refine gi_iload_n (q := 241) (i := 1) C (dm_Mo_tell 144 rfl) rfl rfl rfl ?_
      refine gi_aload_n (q := 242) (i := 0) C (dm_Mo_tell 145 rfl) rfl rfl rfl ?_
      refine gi_get (q := 245) C (dm_Mo_tell 146 rfl) rfl fl_Mo_246 Ha (mo_g23 Hf) ?_
      refine gi_last (q := 246) C (dm_Mo_tell 147 rfl) rfl rfl (mo_a41 H) (inN (show tix t < 160 by omega) (by decide)) ?_
      refine gi_genM (H.setJ (p := 23) (k := 41) (by decide) rfl rfl rfl (by omega)) (ho.up (by omega) (by omega)) (fun y H ho => ?_)
      obtain ⟨fs, Ha, Hf⟩ := id H.1
      refine gi_aload_n (q := 247) (i := 0) C (dm_Mo_tell 148 rfl) rfl rfl rfl ?_
      refine gi_get (q := 250) C (dm_Mo_tell 149 rfl) rfl fl_Mo_92 Ha (mo_g42 Hf) ?_
      refine gi_iload_n (q := 251) (i := 1) C (dm_Mo_tell 150 rfl) rfl rfl rfl ?_
      refine gi_aload_n (q := 252) (i := 0) C (dm_Mo_tell 151 rfl) rfl rfl rfl ?_
      refine gi_get (q := 255) C (dm_Mo_tell 152 rfl) rfl fl_Mo_249 Ha (mo_g24 Hf) ?_
      refine gi_last (q := 256) C (dm_Mo_tell 153 rfl) rfl rfl (mo_a42 H) (inN (show tix t < 160 by omega) (by decide)) ?_
      refine gi_genM (H.setJ (p := 24) (k := 42) (by decide) rfl rfl rfl (by omega)) (ho.up (by omega) (by omega)) (fun y H ho => ?_)
      obtain ⟨fs, Ha, Hf⟩ := id H.1
      refine gi_vret C hr (dm_Mo_tell 154 rfl) ?_
      rw [nI_clamp (show tix t < 2 ^ 31 by omega)] at H
      have fe : (decide (md = 0) && decide (4 ≤ (Z.1 t).ch + 1)) = true := by
        rw [m0, decide_eq_true (show 4 ≤ (Z.1 t).ch + 1 by
          have q := c207
          rw [cb.2, nI_1, show (4 : Int32) = nI 4 from rfl, nI_ltP (by omega) (by decide)] at q
          omega)]
        rfl
      rw [fe] at jr tj
      have key : ∃ F3 G3, mo_at M (upS S 50 1) J3 F3 G3 y ∧ tdC (tix t) F F3 G G3 ∧ F3 39 = F 39 ∧ F3 45 (tix t) = F 45 (tix t) + 1 ∧ ceA (.inl (movS (bothS z x) z.1 z.2.1)) (cT F3 G3 (tix t)) := by
        refine ⟨_, _, H, ⟨fun a b1 b2 b3 b4 => ?_, fun a b1 b2 b3 => ?_, fun j hj => ⟨?_, ?_, ?_⟩⟩, ?_, ?_, ?_⟩
        · first | rfl | simp [upA, b1, b2, b3, b4]
        · simp [upA, b1, b2, b3]
        · first | rfl | simp [upA, upd_is, hj]
        · first | rfl | simp [upA, upd_is, hj]
        · simp [cT, upA, upd_is, updJ_is, hj]
        · first | rfl | simp [upA]
        · first | rfl | simp [upA, upd_is]
        · simp [cT, ceA, upA, upd_is, updJ_is, rm.1, rm.2.1, rm.2.2]
      obtain ⟨F3, G3, H3', d3, c39, c45, c3⟩ := key
      refine ⟨rfl, rfl, _, J3, F3, G3, H3', ho, d3.fr (fun j q1 q2 => by unfold upS; rw [if_neg q1]) (frJ.tr qb qm), md_tput m2 hD okc h1 h2 d3 ?_ (fun j q1 => by unfold upS; rw [if_neg q1]) ?_ (fun z9 => ?_)⟩
      · rw [jr]
        refine ⟨by rw [c39, r39, tt], fun _ => ?_⟩
        rw [tj]
        exact c3
      · show (1 : Int32) = _
        unfold newR
        rw [nc]
        simp [bI]
      · rw [jr, c45]
        rw [cb.2, nI_1]
set_option maxHeartbeats 4000000 in
set_option maxRecDepth 100000 in
theorem c_Mo_tell {x : Sp} {n0 : Nat} {g : Nat → Sl} (hmd : md ≤ 2) (h1 : 480 ≤ t) (h2 : t < 542) (okc : okC (tyF P sh) (t, n0, g)) (hD : mdR k P sh md Ff Z S F G) (hx : okS x) (hv : gvA n0 g = .inl x) (H : mo_at M S J F G h) : gi_T l V y_Mo_tell b_Mo_tell 8 none 2 61 0 0 [.ref M, .int (nI (tix t)), .long (eL x.1), .long (eL x.2.1), .long (eL x.2.2)] n h (fun v n' h' => v = none ∧ n' = n ∧ coP M k P sh md Ff (comeM md (grF (wdF k P)) Z (t, n0, g)) h S J F G h') := by
  refine gi_enter (by decide) (Nat.le_of_ble_eq_true rfl) ?_
  intro _ _ _ _ _ _ _ _ C hr hnm
  obtain ⟨fs, Ha, Hf⟩ := id H.1
  have ho : outM M h h := outM.rf
  have tb := tix_b h1 h2
  obtain ⟨a1, a2, a3, a4, a5, a6, a7, a8, a9⟩ := id hD
  obtain ⟨r39, rr⟩ := a4.2 t h1 h2
  have hrt : (Z.1 t).told = true → okG (tyF P sh t) (Z.1 t).n (Z.1 t).f := fun z => (a8 t h2).1 z
  have hgt : okG (tyF P sh t) n0 g := okc.2.1
  refine gi_aload_n (q := 1) (i := 0) C (dm_Mo_tell 0 rfl) rfl rfl rfl ?_
  refine gi_get (q := 4) C (dm_Mo_tell 1 rfl) rfl fl_Mo_392 Ha (mo_g47 Hf) ?_
  refine gi_iconst (q := 5) (v := 2) C (dm_Mo_tell 2 rfl) rfl (by decide) ?_
  refine gi_icmp_ne (q := 8) (tgt := 63) C (dm_Mo_tell 3 rfl) rfl (by decide) (fun c5 => ?_) (fun c5 => ?_)
  · have m2 : ¬ md = 2 := by
      rw [a1, show (2 : Int32) = nI 2 from rfl, nI_eqP (by omega) (by decide)] at c5
      exact c5
    refine gi_aload_n (q := 64) (i := 0) C (dm_Mo_tell 35 rfl) rfl rfl rfl ?_
    refine gi_get (q := 67) C (dm_Mo_tell 36 rfl) rfl fl_Mo_83 Ha (mo_g39 Hf) ?_
    refine gi_iload_n (q := 68) (i := 1) C (dm_Mo_tell 37 rfl) rfl rfl rfl ?_
    refine gi_zald (q := 69) C (dm_Mo_tell 38 rfl) rfl rfl (mo_a39 H) (inN (show tix t < 160 by omega) (by decide)) ?_
    rw [nI_clamp (show tix t < 2 ^ 31 by omega), r39]
    refine gi_if_ne (q := 72) (tgt := 108) C (dm_Mo_tell 39 rfl) rfl (by decide) (fun c69 => ?_) (fun c69 => ?_)
    · have tt : (Z.1 t).told = true := bI_t c69
      have ht := hrt tt
      have rt := rr tt
      obtain ⟨z, ez, okz⟩ : ∃ z, tvA (Z.1 t) = .inl z ∧ okS z := by
        have en : n0 = (Z.1 t).n := hgt.1.trans ht.1.symm
        unfold tvA
        by_cases q : (Z.1 t).n = 0
        · exact ⟨(0, 0, 0), if_pos q, okS0⟩
        · rw [if_neg q]
          obtain ⟨b1, b2, b3, b4⟩ := mk_hi h1 ht q
          obtain ⟨c1, c2, c3, c4⟩ := mk_hi h1 hgt (by omega)
          have ag : (g 0).1 = .inl x := by unfold gvA at hv; rw [if_neg (by omega)] at hv; exact hv
          have ar : arA ((Z.1 t).f 0).1 = false := by rw [b3, ← c3, ag]; rfl
          exact ⟨_, ar_s ar, ok_sp b2 ar⟩
      rw [ez] at rt
      have s40 : G 40 (tix t) = eL z.1 := rt.1
      have s41 : G 41 (tix t) = eL z.2.1 := rt.2.1
      have s42 : G 42 (tix t) = eL z.2.2 := rt.2.2
      have cv : covR (Z.1 t) n0 g = covS z x := by
        rw [cov_td h1 ht hgt, ez, hv]
        rfl
      refine gi_aload_n (q := 109) (i := 0) C (dm_Mo_tell 64 rfl) rfl rfl rfl ?_
      refine gi_aload_n (q := 110) (i := 0) C (dm_Mo_tell 65 rfl) rfl rfl rfl ?_
      refine gi_get (q := 113) C (dm_Mo_tell 66 rfl) rfl fl_Mo_86 Ha (mo_g40 Hf) ?_
      refine gi_iload_n (q := 114) (i := 1) C (dm_Mo_tell 67 rfl) rfl rfl rfl ?_
      refine gi_lald (q := 115) C (dm_Mo_tell 68 rfl) rfl rfl (mo_a40 H) (inN (show tix t < 160 by omega) (by decide)) ?_
      rw [nI_clamp (show tix t < 2 ^ 31 by omega), s40]
      refine gi_aload_n (q := 116) (i := 0) C (dm_Mo_tell 69 rfl) rfl rfl rfl ?_
      refine gi_get (q := 119) C (dm_Mo_tell 70 rfl) rfl fl_Mo_89 Ha (mo_g41 Hf) ?_
      refine gi_iload_n (q := 120) (i := 1) C (dm_Mo_tell 71 rfl) rfl rfl rfl ?_
      refine gi_lald (q := 121) C (dm_Mo_tell 72 rfl) rfl rfl (mo_a41 H) (inN (show tix t < 160 by omega) (by decide)) ?_
      rw [nI_clamp (show tix t < 2 ^ 31 by omega), s41]
      refine gi_aload_n (q := 122) (i := 0) C (dm_Mo_tell 73 rfl) rfl rfl rfl ?_
      refine gi_get (q := 125) C (dm_Mo_tell 74 rfl) rfl fl_Mo_92 Ha (mo_g42 Hf) ?_
      refine gi_iload_n (q := 126) (i := 1) C (dm_Mo_tell 75 rfl) rfl rfl rfl ?_
      refine gi_lald (q := 127) C (dm_Mo_tell 76 rfl) rfl rfl (mo_a42 H) (inN (show tix t < 160 by omega) (by decide)) ?_
      rw [nI_clamp (show tix t < 2 ^ 31 by omega), s42]
      refine gi_lload_n (q := 128) (i := 2) C (dm_Mo_tell 77 rfl) rfl rfl rfl ?_
      refine gi_lload (q := 130) C (dm_Mo_tell 78 rfl) rfl rfl ?_
      refine gi_lload (q := 132) C (dm_Mo_tell 79 rfl) rfl rfl ?_
      refine gi_callv 6 (q := 135) C (dm_Mo_tell 80 rfl) rfl my_Mo_both lk_Mo_411 im_Mo_both rfl (c_Mo_both z x okz hx H) Ha rfl rfl ⟨(Nat.le_of_ble_eq_true rfl), (Nat.le_of_ble_eq_true rfl)⟩ (Nat.le_of_ble_eq_true rfl) ⟨(Nat.le_of_ble_eq_true rfl), (Nat.le_of_ble_eq_true rfl)⟩ (fun r132 n132 h132 e132 => ?_)
      obtain ⟨rfl, rfl, S2, J2, Hb, ob, ⟨qb, sb⟩, rb⟩ := e132
      subst sb
      have rb := rsJ rb
      obtain ⟨fsb, Hab, Hfb⟩ := id Hb.1
      refine gi_aload_n (q := 136) (i := 0) C (dm_Mo_tell 81 rfl) rfl rfl rfl ?_
      refine gi_get (q := 139) C (dm_Mo_tell 82 rfl) rfl fl_Mo_242 Hab (mo_g22 Hfb) ?_
      refine gi_aload_n (q := 140) (i := 0) C (dm_Mo_tell 83 rfl) rfl rfl rfl ?_
      refine gi_get (q := 143) C (dm_Mo_tell 84 rfl) rfl fl_Mo_86 Hab (mo_g40 Hfb) ?_
      refine gi_iload_n (q := 144) (i := 1) C (dm_Mo_tell 85 rfl) rfl rfl rfl ?_
      refine gi_lald (q := 145) C (dm_Mo_tell 86 rfl) rfl rfl (mo_a40 Hb) (inN (show tix t < 160 by omega) (by decide)) ?_
      rw [nI_clamp (show tix t < 2 ^ 31 by omega), s40, rb.1]
      refine gi_lcmp (q := 146) C (dm_Mo_tell 87 rfl) rfl ?_
      refine gi_if_ne (q := 149) (tgt := 178) C (dm_Mo_tell 88 rfl) rfl (by decide) (fun c146 => ?_) (fun c146 => ?_)
      · have nc : covR (Z.1 t) n0 g = false := by
          rw [cv]
          cases q : covS z x with
          | false => rfl
          | true =>
            have y9 := (both_eq okz hx).mpr q
            first
              | exact absurd ((lg_cmp_eq _ _).mpr (by rw [y9])) c146
              | exact absurd ((lg_cmp_eq _ _).mpr (by rw [y9])) c160
              | exact absurd ((lg_cmp_eq _ _).mpr (by rw [y9])) c174
        exact tell_c hmd h1 h2 okc hD hx hv C hr m2 tt ez okz nc Hb ob qb rb
      · refine gi_aload_n (q := 150) (i := 0) C (dm_Mo_tell 89 rfl) rfl rfl rfl ?_
        refine gi_get (q := 153) C (dm_Mo_tell 90 rfl) rfl fl_Mo_246 Hab (mo_g23 Hfb) ?_
        refine gi_aload_n (q := 154) (i := 0) C (dm_Mo_tell 91 rfl) rfl rfl rfl ?_
        refine gi_get (q := 157) C (dm_Mo_tell 92 rfl) rfl fl_Mo_89 Hab (mo_g41 Hfb) ?_
        refine gi_iload_n (q := 158) (i := 1) C (dm_Mo_tell 93 rfl) rfl rfl rfl ?_
        refine gi_lald (q := 159) C (dm_Mo_tell 94 rfl) rfl rfl (mo_a41 Hb) (inN (show tix t < 160 by omega) (by decide)) ?_
        rw [nI_clamp (show tix t < 2 ^ 31 by omega), s41, rb.2.1]
        refine gi_lcmp (q := 160) C (dm_Mo_tell 95 rfl) rfl ?_
        refine gi_if_ne (q := 163) (tgt := 178) C (dm_Mo_tell 96 rfl) rfl (by decide) (fun c160 => ?_) (fun c160 => ?_)
        · have nc : covR (Z.1 t) n0 g = false := by
            rw [cv]
            cases q : covS z x with
            | false => rfl
            | true =>
              have y9 := (both_eq okz hx).mpr q
              first
                | exact absurd ((lg_cmp_eq _ _).mpr (by rw [y9])) c146
                | exact absurd ((lg_cmp_eq _ _).mpr (by rw [y9])) c160
                | exact absurd ((lg_cmp_eq _ _).mpr (by rw [y9])) c174
          exact tell_c hmd h1 h2 okc hD hx hv C hr m2 tt ez okz nc Hb ob qb rb
        · refine gi_aload_n (q := 164) (i := 0) C (dm_Mo_tell 97 rfl) rfl rfl rfl ?_
          refine gi_get (q := 167) C (dm_Mo_tell 98 rfl) rfl fl_Mo_249 Hab (mo_g24 Hfb) ?_
          refine gi_aload_n (q := 168) (i := 0) C (dm_Mo_tell 99 rfl) rfl rfl rfl ?_
          refine gi_get (q := 171) C (dm_Mo_tell 100 rfl) rfl fl_Mo_92 Hab (mo_g42 Hfb) ?_
          refine gi_iload_n (q := 172) (i := 1) C (dm_Mo_tell 101 rfl) rfl rfl rfl ?_
          refine gi_lald (q := 173) C (dm_Mo_tell 102 rfl) rfl rfl (mo_a42 Hb) (inN (show tix t < 160 by omega) (by decide)) ?_
          rw [nI_clamp (show tix t < 2 ^ 31 by omega), s42, rb.2.2]
          refine gi_lcmp (q := 174) C (dm_Mo_tell 103 rfl) rfl ?_
          refine gi_if_ne (q := 177) (tgt := 178) C (dm_Mo_tell 104 rfl) rfl (by decide) (fun c174 => ?_) (fun c174 => ?_)
          · have nc : covR (Z.1 t) n0 g = false := by
              rw [cv]
              cases q : covS z x with
              | false => rfl
              | true =>
                have y9 := (both_eq okz hx).mpr q
                first
                  | exact absurd ((lg_cmp_eq _ _).mpr (by rw [y9])) c146
                  | exact absurd ((lg_cmp_eq _ _).mpr (by rw [y9])) c160
                  | exact absurd ((lg_cmp_eq _ _).mpr (by rw [y9])) c174
            exact tell_c hmd h1 h2 okc hD hx hv C hr m2 tt ez okz nc Hb ob qb rb
          · refine gi_vret C hr (dm_Mo_tell 105 rfl) ?_
            have nw : newR (Z.1 t) n0 g = false := newR_iff.mpr ⟨tt, by
              obtain ⟨p1, p2, p3, p4, p5, p6⟩ := id okz
              obtain ⟨u1, u2, u3, u4, u5, u6⟩ := both_ok okz hx
              have p7 := okz.st
              have u7 := (both_ok okz hx).st
              have z1 := (eL_eq (by omega) (by omega) (by omega) (by omega)).mp ((lg_cmp_eq _ _).mp c146)
              have z2 := (eL_eq (by omega) (by omega) (by omega) (by omega)).mp ((lg_cmp_eq _ _).mp c160)
              have z3 := (eL_eq (by omega) (by omega) (by omega) (by omega)).mp ((lg_cmp_eq _ _).mp c174)
              rw [cv, (both_eq okz hx).mp (Prod.ext z1 (Prod.ext z2 z3))]⟩
            refine ⟨rfl, rfl, _, J2, F, G, Hb, ob, ⟨fun _ _ _ => rfl, qb, fun _ _ => rfl, fun _ _ => rfl⟩, ?_⟩
            rw [show comeM md (grF (wdF k P)) Z (t, n0, g) = Z from by
              unfold comeM
              rw [if_neg m2]
              exact come_id nw]
            exact hD
    · refine gi_aload_n (q := 73) (i := 0) C (dm_Mo_tell 40 rfl) rfl rfl rfl ?_
      refine gi_get (q := 76) C (dm_Mo_tell 41 rfl) rfl fl_Mo_83 Ha (mo_g39 Hf) ?_
      refine gi_iload_n (q := 77) (i := 1) C (dm_Mo_tell 42 rfl) rfl rfl rfl ?_
      refine gi_iconst (q := 78) (v := 1) C (dm_Mo_tell 43 rfl) rfl (by decide) ?_
      refine gi_zast (q := 79) C (dm_Mo_tell 44 rfl) rfl rfl (mo_a39 H) (inN (show tix t < 160 by omega) (by decide)) ?_
      refine gi_genM (H.setI (p := 21) (k := 39) (by decide) rfl rfl (by decide) rfl (by omega)) (ho.up (by omega) (by omega)) (fun y H ho => ?_)
      obtain ⟨fs, Ha, Hf⟩ := id H.1
      refine gi_aload_n (q := 80) (i := 0) C (dm_Mo_tell 45 rfl) rfl rfl rfl ?_
      refine gi_iconst (q := 81) (v := 1) C (dm_Mo_tell 46 rfl) rfl (by decide) ?_
      refine gi_put (q := 84) C (dm_Mo_tell 47 rfl) rfl fl_Mo_401 fp_Mo_50 Ha (by rw [Hf.1]; decide) rfl rfl ?_
      refine gi_genM (H.putI Ha Hf (by decide) rfl) (ho.up (by omega) (by omega)) (fun y H ho => ?_)
      obtain ⟨fs, Ha, Hf⟩ := id H.1
      skip
      refine gi_aload_n (q := 85) (i := 0) C (dm_Mo_tell 48 rfl) rfl rfl rfl ?_
      refine gi_get (q := 88) C (dm_Mo_tell 49 rfl) rfl fl_Mo_86 Ha (mo_g40 Hf) ?_
      refine gi_iload_n (q := 89) (i := 1) C (dm_Mo_tell 50 rfl) rfl rfl rfl ?_
      refine gi_lload_n (q := 90) (i := 2) C (dm_Mo_tell 51 rfl) rfl rfl rfl ?_
      refine gi_last (q := 91) C (dm_Mo_tell 52 rfl) rfl rfl (mo_a40 H) (inN (show tix t < 160 by omega) (by decide)) ?_
      refine gi_genM (H.setJ (p := 22) (k := 40) (by decide) rfl rfl rfl (by omega)) (ho.up (by omega) (by omega)) (fun y H ho => ?_)
      obtain ⟨fs, Ha, Hf⟩ := id H.1
      refine gi_aload_n (q := 92) (i := 0) C (dm_Mo_tell 53 rfl) rfl rfl rfl ?_
      refine gi_get (q := 95) C (dm_Mo_tell 54 rfl) rfl fl_Mo_89 Ha (mo_g41 Hf) ?_
      refine gi_iload_n (q := 96) (i := 1) C (dm_Mo_tell 55 rfl) rfl rfl rfl ?_
      refine gi_lload (q := 98) C (dm_Mo_tell 56 rfl) rfl rfl ?_
      refine gi_last (q := 99) C (dm_Mo_tell 57 rfl) rfl rfl (mo_a41 H) (inN (show tix t < 160 by omega) (by decide)) ?_
      refine gi_genM (H.setJ (p := 23) (k := 41) (by decide) rfl rfl rfl (by omega)) (ho.up (by omega) (by omega)) (fun y H ho => ?_)
      obtain ⟨fs, Ha, Hf⟩ := id H.1
      refine gi_aload_n (q := 100) (i := 0) C (dm_Mo_tell 58 rfl) rfl rfl rfl ?_
      refine gi_get (q := 103) C (dm_Mo_tell 59 rfl) rfl fl_Mo_92 Ha (mo_g42 Hf) ?_
      refine gi_iload_n (q := 104) (i := 1) C (dm_Mo_tell 60 rfl) rfl rfl rfl ?_
      refine gi_lload (q := 106) C (dm_Mo_tell 61 rfl) rfl rfl ?_
      refine gi_last (q := 107) C (dm_Mo_tell 62 rfl) rfl rfl (mo_a42 H) (inN (show tix t < 160 by omega) (by decide)) ?_
      refine gi_genM (H.setJ (p := 24) (k := 42) (by decide) rfl rfl rfl (by omega)) (ho.up (by omega) (by omega)) (fun y H ho => ?_)
      obtain ⟨fs, Ha, Hf⟩ := id H.1
      refine gi_vret C hr (dm_Mo_tell 63 rfl) ?_
      have tf : (Z.1 t).told = false := bI_fa c69
      rw [nI_clamp (show tix t < 2 ^ 31 by omega)] at H
      have key : ∃ F3 G3, mo_at M (upS S 50 1) J F3 G3 y ∧ tdC (tix t) F F3 G G3 ∧ F3 39 (tix t) = 1 ∧ F3 45 = F 45 ∧ ceA (.inl x) (cT F3 G3 (tix t)) := by
        refine ⟨_, _, H, ⟨fun a b1 b2 b3 b4 => ?_, fun a b1 b2 b3 => ?_, fun j hj => ⟨?_, ?_, ?_⟩⟩, ?_, ?_, ?_⟩
        · simp [upA, b1, b2, b3, b4]
        · simp [upA, b1, b2, b3]
        · simp [upA, upd_is, hj]
        · simp [upA]
        · simp [cT, upA, upd_is, updJ_is, hj]
        · simp [upA, upd_is, nz1]
        · simp [upA]
        · simp [cT, ceA, upA, upd_is, updJ_is, nzb]
      obtain ⟨F3, G3, H3, d3, c39, c45, c3⟩ := key
      have jr : joinR (decide (md = 0)) (Z.1 t) n0 g = mkR true (Z.1 t).ch n0 g := by
        unfold joinR
        rw [if_pos tf]
      refine ⟨rfl, rfl, _, J, F3, G3, H3, ho, d3.fr (fun j q1 q2 => by unfold upS; rw [if_neg q1]) frJ.rf, md_tput m2 hD okc h1 h2 d3 ?_ (fun j q1 => by unfold upS; rw [if_neg q1]) ?_ (fun z => ?_)⟩
      · rw [jr]
        refine ⟨c39, fun _ => ?_⟩
        show ceA (gvA n0 g) _
        rw [hv]
        exact c3
      · show (1 : Int32) = _
        unfold newR
        rw [tf]
        simp [bI]
      · rw [jr, c45]
        exact (a9 z).1.2 t h1 h2
  · have m2 : md = 2 := by
      rw [a1, show (2 : Int32) = nI 2 from rfl, nI_eqP (by omega) (by decide)] at c5
      exact c5
    have hz0 : ¬ S 51 = 0 → Z.2 = false := fun q => by
      rw [a7 m2] at q
      cases e : Z.2 with
      | false => rfl
      | true => rw [e] at q; exact absurd rfl q
    have hz1 : S 51 = 0 → Z.2 = true := fun q => by
      rw [a7 m2] at q
      exact nbf q
    refine gi_aload_n (q := 9) (i := 0) C (dm_Mo_tell 4 rfl) rfl rfl rfl ?_
    refine gi_aload_n (q := 10) (i := 0) C (dm_Mo_tell 5 rfl) rfl rfl rfl ?_
    refine gi_get (q := 13) C (dm_Mo_tell 6 rfl) rfl fl_Mo_395 Ha (mo_g51 Hf) ?_
    refine gi_if_eq (q := 16) (tgt := 58) C (dm_Mo_tell 7 rfl) rfl (by decide) (fun c13 => ?_) (fun c13 => ?_)
    · refine gi_iconst (q := 59) (v := 0) C (dm_Mo_tell 32 rfl) rfl (by decide) ?_
      refine gi_put (q := 62) C (dm_Mo_tell 33 rfl) rfl fl_Mo_395 fp_Mo_51 Ha (by rw [Hf.1]; decide) rfl rfl ?_
      refine gi_genM (H.putI Ha Hf (by decide) rfl) (ho.up (by omega) (by omega)) (fun y H ho => ?_)
      obtain ⟨fs, Ha, Hf⟩ := id H.1
      refine gi_vret C hr (dm_Mo_tell 34 rfl) ?_
      refine ⟨rfl, rfl, _, J, F, G, H, ho, ⟨fun j q1 q2 => by unfold upS; rw [if_neg q2], frJ.rf, fun _ _ => rfl, fun _ _ => rfl⟩, a1, a2, a3, ?_, fun z => absurd z (by omega), fun z => absurd m2 z, fun _ => ?_, ?_, fun z => absurd z (by omega)⟩
      · rw [m2, show Z = (Z.1, Z.2) from rfl, comeM_2]
        exact a4
      · rw [m2, show Z = (Z.1, Z.2) from rfl, comeM_2]
        show (0 : Int32) = bI (!(Z.2 || newR (Z.1 t) n0 g))
        unfold newR
        first
          | (rw [show Z.2 = true from hz1 c13]; rfl)
          | (rw [show (Z.1 t).told = false from bI_fa c22]; simp [bI]; done)
          | (rw [cv, show covS z x = false from bI_fa c51]; simp [bI]; done)
      · rw [m2, show Z = (Z.1, Z.2) from rfl, comeM_2]
        exact a8
    · refine gi_aload_n (q := 17) (i := 0) C (dm_Mo_tell 8 rfl) rfl rfl rfl ?_
      refine gi_get (q := 20) C (dm_Mo_tell 9 rfl) rfl fl_Mo_83 Ha (mo_g39 Hf) ?_
      refine gi_iload_n (q := 21) (i := 1) C (dm_Mo_tell 10 rfl) rfl rfl rfl ?_
      refine gi_zald (q := 22) C (dm_Mo_tell 11 rfl) rfl rfl (mo_a39 H) (inN (show tix t < 160 by omega) (by decide)) ?_
      rw [nI_clamp (show tix t < 2 ^ 31 by omega), r39]
      refine gi_if_eq (q := 25) (tgt := 58) C (dm_Mo_tell 12 rfl) rfl (by decide) (fun c22 => ?_) (fun c22 => ?_)
      · refine gi_iconst (q := 59) (v := 0) C (dm_Mo_tell 32 rfl) rfl (by decide) ?_
        refine gi_put (q := 62) C (dm_Mo_tell 33 rfl) rfl fl_Mo_395 fp_Mo_51 Ha (by rw [Hf.1]; decide) rfl rfl ?_
        refine gi_genM (H.putI Ha Hf (by decide) rfl) (ho.up (by omega) (by omega)) (fun y H ho => ?_)
        obtain ⟨fs, Ha, Hf⟩ := id H.1
        refine gi_vret C hr (dm_Mo_tell 34 rfl) ?_
        refine ⟨rfl, rfl, _, J, F, G, H, ho, ⟨fun j q1 q2 => by unfold upS; rw [if_neg q2], frJ.rf, fun _ _ => rfl, fun _ _ => rfl⟩, a1, a2, a3, ?_, fun z => absurd z (by omega), fun z => absurd m2 z, fun _ => ?_, ?_, fun z => absurd z (by omega)⟩
        · rw [m2, show Z = (Z.1, Z.2) from rfl, comeM_2]
          exact a4
        · rw [m2, show Z = (Z.1, Z.2) from rfl, comeM_2]
          show (0 : Int32) = bI (!(Z.2 || newR (Z.1 t) n0 g))
          unfold newR
          first
            | (rw [show Z.2 = true from hz1 c13]; rfl)
            | (rw [show (Z.1 t).told = false from bI_fa c22]; simp [bI]; done)
            | (rw [cv, show covS z x = false from bI_fa c51]; simp [bI]; done)
        · rw [m2, show Z = (Z.1, Z.2) from rfl, comeM_2]
          exact a8
      · have tt : (Z.1 t).told = true := bI_t c22
        have ht := hrt tt
        have rt := rr tt
        obtain ⟨z, ez, okz⟩ : ∃ z, tvA (Z.1 t) = .inl z ∧ okS z := by
          have en : n0 = (Z.1 t).n := hgt.1.trans ht.1.symm
          unfold tvA
          by_cases q : (Z.1 t).n = 0
          · exact ⟨(0, 0, 0), if_pos q, okS0⟩
          · rw [if_neg q]
            obtain ⟨b1, b2, b3, b4⟩ := mk_hi h1 ht q
            obtain ⟨c1, c2, c3, c4⟩ := mk_hi h1 hgt (by omega)
            have ag : (g 0).1 = .inl x := by unfold gvA at hv; rw [if_neg (by omega)] at hv; exact hv
            have ar : arA ((Z.1 t).f 0).1 = false := by rw [b3, ← c3, ag]; rfl
            exact ⟨_, ar_s ar, ok_sp b2 ar⟩
        rw [ez] at rt
        have s40 : G 40 (tix t) = eL z.1 := rt.1
        have s41 : G 41 (tix t) = eL z.2.1 := rt.2.1
        have s42 : G 42 (tix t) = eL z.2.2 := rt.2.2
        have cv : covR (Z.1 t) n0 g = covS z x := by
          rw [cov_td h1 ht hgt, ez, hv]
          rfl
        refine gi_lload_n (q := 26) (i := 2) C (dm_Mo_tell 13 rfl) rfl rfl rfl ?_
        refine gi_lload (q := 28) C (dm_Mo_tell 14 rfl) rfl rfl ?_
        refine gi_lload (q := 30) C (dm_Mo_tell 15 rfl) rfl rfl ?_
        refine gi_aload_n (q := 31) (i := 0) C (dm_Mo_tell 16 rfl) rfl rfl rfl ?_
        refine gi_get (q := 34) C (dm_Mo_tell 17 rfl) rfl fl_Mo_86 Ha (mo_g40 Hf) ?_
        refine gi_iload_n (q := 35) (i := 1) C (dm_Mo_tell 18 rfl) rfl rfl rfl ?_
        refine gi_lald (q := 36) C (dm_Mo_tell 19 rfl) rfl rfl (mo_a40 H) (inN (show tix t < 160 by omega) (by decide)) ?_
        rw [nI_clamp (show tix t < 2 ^ 31 by omega), s40]
        refine gi_aload_n (q := 37) (i := 0) C (dm_Mo_tell 20 rfl) rfl rfl rfl ?_
        refine gi_get (q := 40) C (dm_Mo_tell 21 rfl) rfl fl_Mo_89 Ha (mo_g41 Hf) ?_
        refine gi_iload_n (q := 41) (i := 1) C (dm_Mo_tell 22 rfl) rfl rfl rfl ?_
        refine gi_lald (q := 42) C (dm_Mo_tell 23 rfl) rfl rfl (mo_a41 H) (inN (show tix t < 160 by omega) (by decide)) ?_
        rw [nI_clamp (show tix t < 2 ^ 31 by omega), s41]
        refine gi_aload_n (q := 43) (i := 0) C (dm_Mo_tell 24 rfl) rfl rfl rfl ?_
        refine gi_get (q := 46) C (dm_Mo_tell 25 rfl) rfl fl_Mo_92 Ha (mo_g42 Hf) ?_
        refine gi_iload_n (q := 47) (i := 1) C (dm_Mo_tell 26 rfl) rfl rfl rfl ?_
        refine gi_lald (q := 48) C (dm_Mo_tell 27 rfl) rfl rfl (mo_a42 H) (inN (show tix t < 160 by omega) (by decide)) ?_
        rw [nI_clamp (show tix t < 2 ^ 31 by omega), s42]
        refine gi_calls 6 (q := 51) C (dm_Mo_tell 28 rfl) rfl my_Mo_isIn lk_Mo_418 sm_Mo_isIn (c_Mo_isIn x z hx okz) rfl rfl ⟨(Nat.le_of_ble_eq_true rfl), (Nat.le_of_ble_eq_true rfl)⟩ (Nat.le_of_ble_eq_true rfl) ⟨(Nat.le_of_ble_eq_true rfl), (Nat.le_of_ble_eq_true rfl)⟩ (fun r48 n48 h48 e48 => ?_)
        obtain ⟨rfl, q48, u48⟩ := e48
        rw [q48, u48]
        refine gi_if_eq (q := 54) (tgt := 58) C (dm_Mo_tell 29 rfl) rfl (by decide) (fun c51 => ?_) (fun c51 => ?_)
        · refine gi_iconst (q := 59) (v := 0) C (dm_Mo_tell 32 rfl) rfl (by decide) ?_
          refine gi_put (q := 62) C (dm_Mo_tell 33 rfl) rfl fl_Mo_395 fp_Mo_51 Ha (by rw [Hf.1]; decide) rfl rfl ?_
          refine gi_genM (H.putI Ha Hf (by decide) rfl) (ho.up (by omega) (by omega)) (fun y H ho => ?_)
          obtain ⟨fs, Ha, Hf⟩ := id H.1
          refine gi_vret C hr (dm_Mo_tell 34 rfl) ?_
          refine ⟨rfl, rfl, _, J, F, G, H, ho, ⟨fun j q1 q2 => by unfold upS; rw [if_neg q2], frJ.rf, fun _ _ => rfl, fun _ _ => rfl⟩, a1, a2, a3, ?_, fun z => absurd z (by omega), fun z => absurd m2 z, fun _ => ?_, ?_, fun z => absurd z (by omega)⟩
          · rw [m2, show Z = (Z.1, Z.2) from rfl, comeM_2]
            exact a4
          · rw [m2, show Z = (Z.1, Z.2) from rfl, comeM_2]
            show (0 : Int32) = bI (!(Z.2 || newR (Z.1 t) n0 g))
            unfold newR
            first
              | (rw [show Z.2 = true from hz1 c13]; rfl)
              | (rw [show (Z.1 t).told = false from bI_fa c22]; simp [bI]; done)
              | (rw [cv, show covS z x = false from bI_fa c51]; simp [bI]; done)
          · rw [m2, show Z = (Z.1, Z.2) from rfl, comeM_2]
            exact a8
        · refine gi_iconst (q := 55) (v := 1) C (dm_Mo_tell 30 rfl) rfl (by decide) ?_
          refine gi_goto (tgt := 59) C (dm_Mo_tell 31 rfl) (by decide) ?_
          refine gi_put (q := 62) C (dm_Mo_tell 33 rfl) rfl fl_Mo_395 fp_Mo_51 Ha (by rw [Hf.1]; decide) rfl rfl ?_
          refine gi_genM (H.putI Ha Hf (by decide) rfl) (ho.up (by omega) (by omega)) (fun y H ho => ?_)
          obtain ⟨fs, Ha, Hf⟩ := id H.1
          refine gi_vret C hr (dm_Mo_tell 34 rfl) ?_
          refine ⟨rfl, rfl, _, J, F, G, H, ho, ⟨fun j q1 q2 => by unfold upS; rw [if_neg q2], frJ.rf, fun _ _ => rfl, fun _ _ => rfl⟩, a1, a2, a3, ?_, fun z => absurd z (by omega), fun z => absurd m2 z, fun _ => ?_, ?_, fun z => absurd z (by omega)⟩
          · rw [m2, show Z = (Z.1, Z.2) from rfl, comeM_2]
            exact a4
          · rw [m2, show Z = (Z.1, Z.2) from rfl, comeM_2]
            show (1 : Int32) = bI (!(Z.2 || newR (Z.1 t) n0 g))
            unfold newR
            rw [show Z.2 = false from hz0 c13, tt, cv, show covS z x = true from bI_t c51]
            rfl
          · rw [m2, show Z = (Z.1, Z.2) from rfl, comeM_2]
            exact a8
set_option maxHeartbeats 4000000 in
set_option maxRecDepth 100000 in
theorem c_Mo_tellSet {b : Int32} {q : Bool} {n0 : Nat} {g : Nat → Sl} (hmd : md ≤ 2) (h1 : 480 ≤ t) (h2 : t < 542) (okc : okC (tyF P sh) (t, n0, g)) (hD : mdR k P sh md Ff Z S F G) (hv : gvA n0 g = .inr (b, q)) (H : mo_at M S J F G h) : gi_T l V y_Mo_tellSet b_Mo_tellSet 4 none 0 0 0 0 [.ref M, .int (nI (tix t)), .int b, .int (bI q)] n h (fun v n' h' => v = none ∧ n' = n ∧ coP M k P sh md Ff (comeM md (grF (wdF k P)) Z (t, n0, g)) h S J F G h') := by
  refine gi_enter (by decide) (Nat.le_of_ble_eq_true rfl) ?_
  intro _ _ _ _ _ _ _ _ C hr hnm
  obtain ⟨fs, Ha, Hf⟩ := id H.1
  have ho : outM M h h := outM.rf
  have tb := tix_b h1 h2
  obtain ⟨a1, a2, a3, a4, a5, a6, a7, a8, a9⟩ := id hD
  obtain ⟨r39, rr⟩ := a4.2 t h1 h2
  have hrt : (Z.1 t).told = true → okG (tyF P sh t) (Z.1 t).n (Z.1 t).f := fun z => (a8 t h2).1 z
  have hgt : okG (tyF P sh t) n0 g := okc.2.1
  refine gi_aload_n (q := 1) (i := 0) C (dm_Mo_tellSet 0 rfl) rfl rfl rfl ?_
  refine gi_get (q := 4) C (dm_Mo_tellSet 1 rfl) rfl fl_Mo_392 Ha (mo_g47 Hf) ?_
  refine gi_iconst (q := 5) (v := 2) C (dm_Mo_tellSet 2 rfl) rfl (by decide) ?_
  refine gi_icmp_ne (q := 8) (tgt := 60) C (dm_Mo_tellSet 3 rfl) rfl (by decide) (fun c5 => ?_) (fun c5 => ?_)
  · have m2 : ¬ md = 2 := by
      rw [a1, show (2 : Int32) = nI 2 from rfl, nI_eqP (by omega) (by decide)] at c5
      exact c5
    refine gi_aload_n (q := 61) (i := 0) C (dm_Mo_tellSet 34 rfl) rfl rfl rfl ?_
    refine gi_get (q := 64) C (dm_Mo_tellSet 35 rfl) rfl fl_Mo_83 Ha (mo_g39 Hf) ?_
    refine gi_iload_n (q := 65) (i := 1) C (dm_Mo_tellSet 36 rfl) rfl rfl rfl ?_
    refine gi_zald (q := 66) C (dm_Mo_tellSet 37 rfl) rfl rfl (mo_a39 H) (inN (show tix t < 160 by omega) (by decide)) ?_
    rw [nI_clamp (show tix t < 2 ^ 31 by omega), r39]
    refine gi_if_ne (q := 69) (tgt := 96) C (dm_Mo_tellSet 38 rfl) rfl (by decide) (fun c66 => ?_) (fun c66 => ?_)
    · have tt : (Z.1 t).told = true := bI_t c66
      have ht := hrt tt
      have rt := rr tt
      obtain ⟨b2, o2', ez⟩ : ∃ b o, tvA (Z.1 t) = .inr (b, o) := by
        have en : n0 = (Z.1 t).n := hgt.1.trans ht.1.symm
        have n0n : n0 ≠ 0 := fun q => by unfold gvA at hv; rw [if_pos q] at hv; cases hv
        unfold tvA
        rw [if_neg (by omega)]
        obtain ⟨b1, b2, b3, b4⟩ := mk_hi h1 ht (by omega)
        obtain ⟨c1, c2, c3, c4⟩ := mk_hi h1 hgt n0n
        have ag : (g 0).1 = .inr (b, q) := by unfold gvA at hv; rw [if_neg n0n] at hv; exact hv
        have ar : arA ((Z.1 t).f 0).1 = true := by rw [b3, ← c3, ag]; rfl
        exact ⟨_, _, ar_t ar⟩
      rw [ez] at rt
      have s43 : F 43 (tix t) = b2 := rt.1
      have s44 : F 44 (tix t) = bI o2' := rt.2
      have cv : covR (Z.1 t) n0 g = (decide (b &&& (b2 ^^^ -1) = 0) && (o2' || !q)) := by
        rw [cov_td h1 ht hgt, ez, hv]
        rfl
      refine gi_iload_n (q := 97) (i := 2) C (dm_Mo_tellSet 58 rfl) rfl rfl rfl ?_
      refine gi_aload_n (q := 98) (i := 0) C (dm_Mo_tellSet 59 rfl) rfl rfl rfl ?_
      refine gi_get (q := 101) C (dm_Mo_tellSet 60 rfl) rfl fl_Mo_95 Ha (mo_g43 Hf) ?_
      refine gi_iload_n (q := 102) (i := 1) C (dm_Mo_tellSet 61 rfl) rfl rfl rfl ?_
      refine gi_iald (q := 103) C (dm_Mo_tellSet 62 rfl) rfl rfl (mo_a43 H) (inN (show tix t < 160 by omega) (by decide)) ?_
      rw [nI_clamp (show tix t < 2 ^ 31 by omega), s43]
      refine gi_iconst (q := 104) (v := -1) C (dm_Mo_tellSet 63 rfl) rfl (by decide) ?_
      refine gi_ixor (q := 105) C (dm_Mo_tellSet 64 rfl) rfl ?_
      refine gi_iand (q := 106) C (dm_Mo_tellSet 65 rfl) rfl ?_
      refine gi_if_ne (q := 109) (tgt := 122) C (dm_Mo_tellSet 66 rfl) rfl (by decide) (fun c106 => ?_) (fun c106 => ?_)
      · have nc : covR (Z.1 t) n0 g = false := by
          rw [cv]
          first
            | (rw [decide_eq_false c106, Bool.false_and]; done)
            | (rw [show q = true from bI_t c110, show o2' = false from bI_fa c119]; simp; done)
        have jr : joinR (decide (md = 0)) (Z.1 t) n0 g = mkR true ((Z.1 t).ch + 1) (Z.1 t).n (fun i => joinSl (decide (md = 0) && decide (4 ≤ (Z.1 t).ch + 1)) ((Z.1 t).f i) (g i)) := by
          unfold joinR
          rw [if_neg (by rw [tt]; decide), if_neg (by rw [nc]; decide), tt]
        have n00 := cov_00 h1 ht hgt (by rw [← cov_td h1 ht hgt]; exact nc)
        have tj := tv_join (g := g) (r := Z.1 t) (far := decide (md = 0) && decide (4 ≤ (Z.1 t).ch + 1)) (c := (Z.1 t).ch + 1) n00.2 n00.1
        rw [ez, hv] at tj
        have tj2 : tvA (mkR true ((Z.1 t).ch + 1) (Z.1 t).n (fun i => joinSl (decide (md = 0) && decide (4 ≤ (Z.1 t).ch + 1)) ((Z.1 t).f i) (g i))) = .inr (b2 ||| b, o2' || q) := by
          rw [tj]
          split <;> rfl
        refine gi_aload_n (q := 123) (i := 0) C (dm_Mo_tellSet 74 rfl) rfl rfl rfl ?_
        refine gi_iconst (q := 124) (v := 1) C (dm_Mo_tellSet 75 rfl) rfl (by decide) ?_
        refine gi_put (q := 127) C (dm_Mo_tellSet 76 rfl) rfl fl_Mo_401 fp_Mo_50 Ha (by rw [Hf.1]; decide) rfl rfl ?_
        refine gi_genM (H.putI Ha Hf (by decide) rfl) (ho.up (by omega) (by omega)) (fun y H ho => ?_)
        obtain ⟨fs, Ha, Hf⟩ := id H.1
        refine gi_aload_n (q := 128) (i := 0) C (dm_Mo_tellSet 77 rfl) rfl rfl rfl ?_
        refine gi_get (q := 131) C (dm_Mo_tellSet 78 rfl) rfl fl_Mo_101 Ha (mo_g45 Hf) ?_
        refine gi_iload_n (q := 132) (i := 1) C (dm_Mo_tellSet 79 rfl) rfl rfl rfl ?_
        refine gi_dup2_11 (q := 133) C (dm_Mo_tellSet 80 rfl) rfl rfl rfl ?_
        refine gi_iald (q := 134) C (dm_Mo_tellSet 81 rfl) rfl rfl (mo_a45 H) (inN (show tix t < 80 by omega) (by decide)) ?_
        refine gi_iconst (q := 135) (v := 1) C (dm_Mo_tellSet 82 rfl) rfl (by decide) ?_
        refine gi_iadd (q := 136) C (dm_Mo_tellSet 83 rfl) rfl ?_
        refine gi_iast (q := 137) C (dm_Mo_tellSet 84 rfl) rfl rfl (mo_a45 H) (inN (show tix t < 80 by omega) (by decide)) ?_
        refine gi_genM (H.setI (p := 27) (k := 45) (by decide) rfl rfl (by decide) rfl (by omega)) (ho.up (by omega) (by omega)) (fun y H ho => ?_)
        obtain ⟨fs, Ha, Hf⟩ := id H.1
        refine gi_aload_n (q := 138) (i := 0) C (dm_Mo_tellSet 85 rfl) rfl rfl rfl ?_
        refine gi_get (q := 141) C (dm_Mo_tellSet 86 rfl) rfl fl_Mo_95 Ha (mo_g43 Hf) ?_
        refine gi_iload_n (q := 142) (i := 1) C (dm_Mo_tellSet 87 rfl) rfl rfl rfl ?_
        refine gi_dup2_11 (q := 143) C (dm_Mo_tellSet 88 rfl) rfl rfl rfl ?_
        refine gi_iald (q := 144) C (dm_Mo_tellSet 89 rfl) rfl rfl (mo_a43 H) (inN (show tix t < 160 by omega) (by decide)) ?_
        refine gi_iload_n (q := 145) (i := 2) C (dm_Mo_tellSet 90 rfl) rfl rfl rfl ?_
        refine gi_ior (q := 146) C (dm_Mo_tellSet 91 rfl) rfl ?_
        refine gi_iast (q := 147) C (dm_Mo_tellSet 92 rfl) rfl rfl (mo_a43 H) (inN (show tix t < 160 by omega) (by decide)) ?_
        refine gi_genM (H.setI (p := 25) (k := 43) (by decide) rfl rfl (by decide) rfl (by omega)) (ho.up (by omega) (by omega)) (fun y H ho => ?_)
        obtain ⟨fs, Ha, Hf⟩ := id H.1
        refine gi_aload_n (q := 148) (i := 0) C (dm_Mo_tellSet 93 rfl) rfl rfl rfl ?_
        refine gi_get (q := 151) C (dm_Mo_tellSet 94 rfl) rfl fl_Mo_98 Ha (mo_g44 Hf) ?_
        refine gi_iload_n (q := 152) (i := 1) C (dm_Mo_tellSet 95 rfl) rfl rfl rfl ?_
        refine gi_aload_n (q := 153) (i := 0) C (dm_Mo_tellSet 96 rfl) rfl rfl rfl ?_
        refine gi_get (q := 156) C (dm_Mo_tellSet 97 rfl) rfl fl_Mo_98 Ha (mo_g44 Hf) ?_
        refine gi_iload_n (q := 157) (i := 1) C (dm_Mo_tellSet 98 rfl) rfl rfl rfl ?_
        refine gi_zald (q := 158) C (dm_Mo_tellSet 99 rfl) rfl rfl (mo_a44 H) (inN (show tix t < 160 by omega) (by decide)) ?_
        rw [nI_clamp (show tix t < 2 ^ 31 by omega), upA_n (by decide), upA_n (by decide), s44]
        refine gi_if_ne (q := 161) (tgt := 165) C (dm_Mo_tellSet 100 rfl) rfl (by decide) (fun c158 => ?_) (fun c158 => ?_)
        · refine gi_iconst (q := 166) (v := 1) C (dm_Mo_tellSet 103 rfl) rfl (by decide) ?_
          refine gi_goto (tgt := 170) C (dm_Mo_tellSet 104 rfl) (by decide) ?_
          refine gi_zast (q := 171) C (dm_Mo_tellSet 106 rfl) rfl rfl (mo_a44 H) (inN (show tix t < 160 by omega) (by decide)) ?_
          refine gi_genM (H.setI (p := 26) (k := 44) (by decide) rfl rfl (by decide) rfl (by omega)) (ho.up (by omega) (by omega)) (fun y H ho => ?_)
          obtain ⟨fs, Ha, Hf⟩ := id H.1
          refine gi_vret C hr (dm_Mo_tellSet 107 rfl) ?_
          rw [nI_clamp (show tix t < 2 ^ 31 by omega)] at H
          rw [show vp_nar .boolean (1 : Int32) = bI (o2' || q) from by first | (rw [show o2' = true from bI_t c158]; rfl) | (rw [show q = true from bI_t c162, Bool.or_true]; rfl)] at H
          have key : ∃ F3, mo_at M (upS S 50 1) J F3 G y ∧ tdC (tix t) F F3 G G ∧ F3 39 = F 39 ∧ F3 45 (tix t) = F 45 (tix t) + 1 ∧ ceA (.inr (b2 ||| b, o2' || q)) (cT F3 G (tix t)) := by
            refine ⟨_, H, ⟨fun a b1 b2 b3 b4 => ?_, fun _ _ _ _ => rfl, fun j hj => ⟨?_, ?_, ?_⟩⟩, ?_, ?_, ?_⟩
            · simp [upA, b1, b2, b3, b4]
            · simp [upA]
            · simp [upA, upd_is, hj]
            · simp [cT, upA, upd_is, hj]
            · simp [upA]
            · simp [upA, upd_is]
            · simp [cT, ceA, upA, upd_is, s43]
          obtain ⟨F3, H3', d3, c39', c45, c3⟩ := key
          refine ⟨rfl, rfl, _, J, F3, G, H3', ho, d3.fr (fun j q1 q2 => by unfold upS; rw [if_neg q1]) frJ.rf, md_tput m2 hD okc h1 h2 d3 ?_ (fun j q1 => by unfold upS; rw [if_neg q1]) ?_ (fun z9 => ?_)⟩
          · rw [jr]
            refine ⟨by rw [c39', r39, tt], fun _ => ?_⟩
            rw [tj2]
            exact c3
          · show (1 : Int32) = _
            unfold newR
            rw [nc]
            simp [bI]
          · rw [jr, c45, (a9 z9).1.2 t h1 h2, nI_1]
        · refine gi_iload_n (q := 162) (i := 3) C (dm_Mo_tellSet 101 rfl) rfl rfl rfl ?_
          refine gi_if_eq (q := 165) (tgt := 169) C (dm_Mo_tellSet 102 rfl) rfl (by decide) (fun c162 => ?_) (fun c162 => ?_)
          · refine gi_iconst (q := 170) (v := 0) C (dm_Mo_tellSet 105 rfl) rfl (by decide) ?_
            refine gi_zast (q := 171) C (dm_Mo_tellSet 106 rfl) rfl rfl (mo_a44 H) (inN (show tix t < 160 by omega) (by decide)) ?_
            refine gi_genM (H.setI (p := 26) (k := 44) (by decide) rfl rfl (by decide) rfl (by omega)) (ho.up (by omega) (by omega)) (fun y H ho => ?_)
            obtain ⟨fs, Ha, Hf⟩ := id H.1
            refine gi_vret C hr (dm_Mo_tellSet 107 rfl) ?_
            rw [nI_clamp (show tix t < 2 ^ 31 by omega)] at H
            rw [show vp_nar .boolean (0 : Int32) = bI (o2' || q) from by rw [show o2' = false from bI_fa c158, show q = false from bI_fa c162]; rfl] at H
            have key : ∃ F3, mo_at M (upS S 50 1) J F3 G y ∧ tdC (tix t) F F3 G G ∧ F3 39 = F 39 ∧ F3 45 (tix t) = F 45 (tix t) + 1 ∧ ceA (.inr (b2 ||| b, o2' || q)) (cT F3 G (tix t)) := by
              refine ⟨_, H, ⟨fun a b1 b2 b3 b4 => ?_, fun _ _ _ _ => rfl, fun j hj => ⟨?_, ?_, ?_⟩⟩, ?_, ?_, ?_⟩
              · simp [upA, b1, b2, b3, b4]
              · simp [upA]
              · simp [upA, upd_is, hj]
              · simp [cT, upA, upd_is, hj]
              · simp [upA]
              · simp [upA, upd_is]
              · simp [cT, ceA, upA, upd_is, s43]
            obtain ⟨F3, H3', d3, c39', c45, c3⟩ := key
            refine ⟨rfl, rfl, _, J, F3, G, H3', ho, d3.fr (fun j q1 q2 => by unfold upS; rw [if_neg q1]) frJ.rf, md_tput m2 hD okc h1 h2 d3 ?_ (fun j q1 => by unfold upS; rw [if_neg q1]) ?_ (fun z9 => ?_)⟩
            · rw [jr]
              refine ⟨by rw [c39', r39, tt], fun _ => ?_⟩
              rw [tj2]
              exact c3
            · show (1 : Int32) = _
              unfold newR
              rw [nc]
              simp [bI]
            · rw [jr, c45, (a9 z9).1.2 t h1 h2, nI_1]
          · refine gi_iconst (q := 166) (v := 1) C (dm_Mo_tellSet 103 rfl) rfl (by decide) ?_
            refine gi_goto (tgt := 170) C (dm_Mo_tellSet 104 rfl) (by decide) ?_
            refine gi_zast (q := 171) C (dm_Mo_tellSet 106 rfl) rfl rfl (mo_a44 H) (inN (show tix t < 160 by omega) (by decide)) ?_
            refine gi_genM (H.setI (p := 26) (k := 44) (by decide) rfl rfl (by decide) rfl (by omega)) (ho.up (by omega) (by omega)) (fun y H ho => ?_)
            obtain ⟨fs, Ha, Hf⟩ := id H.1
            refine gi_vret C hr (dm_Mo_tellSet 107 rfl) ?_
            rw [nI_clamp (show tix t < 2 ^ 31 by omega)] at H
            rw [show vp_nar .boolean (1 : Int32) = bI (o2' || q) from by first | (rw [show o2' = true from bI_t c158]; rfl) | (rw [show q = true from bI_t c162, Bool.or_true]; rfl)] at H
            have key : ∃ F3, mo_at M (upS S 50 1) J F3 G y ∧ tdC (tix t) F F3 G G ∧ F3 39 = F 39 ∧ F3 45 (tix t) = F 45 (tix t) + 1 ∧ ceA (.inr (b2 ||| b, o2' || q)) (cT F3 G (tix t)) := by
              refine ⟨_, H, ⟨fun a b1 b2 b3 b4 => ?_, fun _ _ _ _ => rfl, fun j hj => ⟨?_, ?_, ?_⟩⟩, ?_, ?_, ?_⟩
              · simp [upA, b1, b2, b3, b4]
              · simp [upA]
              · simp [upA, upd_is, hj]
              · simp [cT, upA, upd_is, hj]
              · simp [upA]
              · simp [upA, upd_is]
              · simp [cT, ceA, upA, upd_is, s43]
            obtain ⟨F3, H3', d3, c39', c45, c3⟩ := key
            refine ⟨rfl, rfl, _, J, F3, G, H3', ho, d3.fr (fun j q1 q2 => by unfold upS; rw [if_neg q1]) frJ.rf, md_tput m2 hD okc h1 h2 d3 ?_ (fun j q1 => by unfold upS; rw [if_neg q1]) ?_ (fun z9 => ?_)⟩
            · rw [jr]
              refine ⟨by rw [c39', r39, tt], fun _ => ?_⟩
              rw [tj2]
              exact c3
            · show (1 : Int32) = _
              unfold newR
              rw [nc]
              simp [bI]
            · rw [jr, c45, (a9 z9).1.2 t h1 h2, nI_1]
      · refine gi_iload_n (q := 110) (i := 3) C (dm_Mo_tellSet 67 rfl) rfl rfl rfl ?_
        refine gi_if_eq (q := 113) (tgt := 171) C (dm_Mo_tellSet 68 rfl) rfl (by decide) (fun c110 => ?_) (fun c110 => ?_)
        · refine gi_vret C hr (dm_Mo_tellSet 107 rfl) ?_
          have nw : newR (Z.1 t) n0 g = false := newR_iff.mpr ⟨tt, by
            rw [cv, decide_eq_true c106]
            first
              | (rw [show q = false from bI_fa c110]; simp; done)
              | (rw [show o2' = true from bI_t c119]; rfl)⟩
          refine ⟨rfl, rfl, _, J, F, G, H, ho, ⟨fun _ _ _ => rfl, frJ.rf, fun _ _ => rfl, fun _ _ => rfl⟩, ?_⟩
          rw [show comeM md (grF (wdF k P)) Z (t, n0, g) = Z from by
            unfold comeM
            rw [if_neg m2]
            exact come_id nw]
          exact hD
        · refine gi_aload_n (q := 114) (i := 0) C (dm_Mo_tellSet 69 rfl) rfl rfl rfl ?_
          refine gi_get (q := 117) C (dm_Mo_tellSet 70 rfl) rfl fl_Mo_98 Ha (mo_g44 Hf) ?_
          refine gi_iload_n (q := 118) (i := 1) C (dm_Mo_tellSet 71 rfl) rfl rfl rfl ?_
          refine gi_zald (q := 119) C (dm_Mo_tellSet 72 rfl) rfl rfl (mo_a44 H) (inN (show tix t < 160 by omega) (by decide)) ?_
          rw [nI_clamp (show tix t < 2 ^ 31 by omega), s44]
          refine gi_if_ne (q := 122) (tgt := 171) C (dm_Mo_tellSet 73 rfl) rfl (by decide) (fun c119 => ?_) (fun c119 => ?_)
          · refine gi_vret C hr (dm_Mo_tellSet 107 rfl) ?_
            have nw : newR (Z.1 t) n0 g = false := newR_iff.mpr ⟨tt, by
              rw [cv, decide_eq_true c106]
              first
                | (rw [show q = false from bI_fa c110]; simp; done)
                | (rw [show o2' = true from bI_t c119]; rfl)⟩
            refine ⟨rfl, rfl, _, J, F, G, H, ho, ⟨fun _ _ _ => rfl, frJ.rf, fun _ _ => rfl, fun _ _ => rfl⟩, ?_⟩
            rw [show comeM md (grF (wdF k P)) Z (t, n0, g) = Z from by
              unfold comeM
              rw [if_neg m2]
              exact come_id nw]
            exact hD
          · have nc : covR (Z.1 t) n0 g = false := by
              rw [cv]
              first
                | (rw [decide_eq_false c106, Bool.false_and]; done)
                | (rw [show q = true from bI_t c110, show o2' = false from bI_fa c119]; simp; done)
            have jr : joinR (decide (md = 0)) (Z.1 t) n0 g = mkR true ((Z.1 t).ch + 1) (Z.1 t).n (fun i => joinSl (decide (md = 0) && decide (4 ≤ (Z.1 t).ch + 1)) ((Z.1 t).f i) (g i)) := by
              unfold joinR
              rw [if_neg (by rw [tt]; decide), if_neg (by rw [nc]; decide), tt]
            have n00 := cov_00 h1 ht hgt (by rw [← cov_td h1 ht hgt]; exact nc)
            have tj := tv_join (g := g) (r := Z.1 t) (far := decide (md = 0) && decide (4 ≤ (Z.1 t).ch + 1)) (c := (Z.1 t).ch + 1) n00.2 n00.1
            rw [ez, hv] at tj
            have tj2 : tvA (mkR true ((Z.1 t).ch + 1) (Z.1 t).n (fun i => joinSl (decide (md = 0) && decide (4 ≤ (Z.1 t).ch + 1)) ((Z.1 t).f i) (g i))) = .inr (b2 ||| b, o2' || q) := by
              rw [tj]
              split <;> rfl
            refine gi_aload_n (q := 123) (i := 0) C (dm_Mo_tellSet 74 rfl) rfl rfl rfl ?_
            refine gi_iconst (q := 124) (v := 1) C (dm_Mo_tellSet 75 rfl) rfl (by decide) ?_
            refine gi_put (q := 127) C (dm_Mo_tellSet 76 rfl) rfl fl_Mo_401 fp_Mo_50 Ha (by rw [Hf.1]; decide) rfl rfl ?_
            refine gi_genM (H.putI Ha Hf (by decide) rfl) (ho.up (by omega) (by omega)) (fun y H ho => ?_)
            obtain ⟨fs, Ha, Hf⟩ := id H.1
            refine gi_aload_n (q := 128) (i := 0) C (dm_Mo_tellSet 77 rfl) rfl rfl rfl ?_
            refine gi_get (q := 131) C (dm_Mo_tellSet 78 rfl) rfl fl_Mo_101 Ha (mo_g45 Hf) ?_
            refine gi_iload_n (q := 132) (i := 1) C (dm_Mo_tellSet 79 rfl) rfl rfl rfl ?_
            refine gi_dup2_11 (q := 133) C (dm_Mo_tellSet 80 rfl) rfl rfl rfl ?_
            refine gi_iald (q := 134) C (dm_Mo_tellSet 81 rfl) rfl rfl (mo_a45 H) (inN (show tix t < 80 by omega) (by decide)) ?_
            refine gi_iconst (q := 135) (v := 1) C (dm_Mo_tellSet 82 rfl) rfl (by decide) ?_
            refine gi_iadd (q := 136) C (dm_Mo_tellSet 83 rfl) rfl ?_
            refine gi_iast (q := 137) C (dm_Mo_tellSet 84 rfl) rfl rfl (mo_a45 H) (inN (show tix t < 80 by omega) (by decide)) ?_
            refine gi_genM (H.setI (p := 27) (k := 45) (by decide) rfl rfl (by decide) rfl (by omega)) (ho.up (by omega) (by omega)) (fun y H ho => ?_)
            obtain ⟨fs, Ha, Hf⟩ := id H.1
            refine gi_aload_n (q := 138) (i := 0) C (dm_Mo_tellSet 85 rfl) rfl rfl rfl ?_
            refine gi_get (q := 141) C (dm_Mo_tellSet 86 rfl) rfl fl_Mo_95 Ha (mo_g43 Hf) ?_
            refine gi_iload_n (q := 142) (i := 1) C (dm_Mo_tellSet 87 rfl) rfl rfl rfl ?_
            refine gi_dup2_11 (q := 143) C (dm_Mo_tellSet 88 rfl) rfl rfl rfl ?_
            refine gi_iald (q := 144) C (dm_Mo_tellSet 89 rfl) rfl rfl (mo_a43 H) (inN (show tix t < 160 by omega) (by decide)) ?_
            refine gi_iload_n (q := 145) (i := 2) C (dm_Mo_tellSet 90 rfl) rfl rfl rfl ?_
            refine gi_ior (q := 146) C (dm_Mo_tellSet 91 rfl) rfl ?_
            refine gi_iast (q := 147) C (dm_Mo_tellSet 92 rfl) rfl rfl (mo_a43 H) (inN (show tix t < 160 by omega) (by decide)) ?_
            refine gi_genM (H.setI (p := 25) (k := 43) (by decide) rfl rfl (by decide) rfl (by omega)) (ho.up (by omega) (by omega)) (fun y H ho => ?_)
            obtain ⟨fs, Ha, Hf⟩ := id H.1
            refine gi_aload_n (q := 148) (i := 0) C (dm_Mo_tellSet 93 rfl) rfl rfl rfl ?_
            refine gi_get (q := 151) C (dm_Mo_tellSet 94 rfl) rfl fl_Mo_98 Ha (mo_g44 Hf) ?_
            refine gi_iload_n (q := 152) (i := 1) C (dm_Mo_tellSet 95 rfl) rfl rfl rfl ?_
            refine gi_aload_n (q := 153) (i := 0) C (dm_Mo_tellSet 96 rfl) rfl rfl rfl ?_
            refine gi_get (q := 156) C (dm_Mo_tellSet 97 rfl) rfl fl_Mo_98 Ha (mo_g44 Hf) ?_
            refine gi_iload_n (q := 157) (i := 1) C (dm_Mo_tellSet 98 rfl) rfl rfl rfl ?_
            refine gi_zald (q := 158) C (dm_Mo_tellSet 99 rfl) rfl rfl (mo_a44 H) (inN (show tix t < 160 by omega) (by decide)) ?_
            rw [nI_clamp (show tix t < 2 ^ 31 by omega), upA_n (by decide), upA_n (by decide), s44]
            refine gi_if_ne (q := 161) (tgt := 165) C (dm_Mo_tellSet 100 rfl) rfl (by decide) (fun c158 => ?_) (fun c158 => ?_)
            · refine gi_iconst (q := 166) (v := 1) C (dm_Mo_tellSet 103 rfl) rfl (by decide) ?_
              refine gi_goto (tgt := 170) C (dm_Mo_tellSet 104 rfl) (by decide) ?_
              refine gi_zast (q := 171) C (dm_Mo_tellSet 106 rfl) rfl rfl (mo_a44 H) (inN (show tix t < 160 by omega) (by decide)) ?_
              refine gi_genM (H.setI (p := 26) (k := 44) (by decide) rfl rfl (by decide) rfl (by omega)) (ho.up (by omega) (by omega)) (fun y H ho => ?_)
              obtain ⟨fs, Ha, Hf⟩ := id H.1
              refine gi_vret C hr (dm_Mo_tellSet 107 rfl) ?_
              rw [nI_clamp (show tix t < 2 ^ 31 by omega)] at H
              rw [show vp_nar .boolean (1 : Int32) = bI (o2' || q) from by first | (rw [show o2' = true from bI_t c158]; rfl) | (rw [show q = true from bI_t c162, Bool.or_true]; rfl)] at H
              have key : ∃ F3, mo_at M (upS S 50 1) J F3 G y ∧ tdC (tix t) F F3 G G ∧ F3 39 = F 39 ∧ F3 45 (tix t) = F 45 (tix t) + 1 ∧ ceA (.inr (b2 ||| b, o2' || q)) (cT F3 G (tix t)) := by
                refine ⟨_, H, ⟨fun a b1 b2 b3 b4 => ?_, fun _ _ _ _ => rfl, fun j hj => ⟨?_, ?_, ?_⟩⟩, ?_, ?_, ?_⟩
                · simp [upA, b1, b2, b3, b4]
                · simp [upA]
                · simp [upA, upd_is, hj]
                · simp [cT, upA, upd_is, hj]
                · simp [upA]
                · simp [upA, upd_is]
                · simp [cT, ceA, upA, upd_is, s43]
              obtain ⟨F3, H3', d3, c39', c45, c3⟩ := key
              refine ⟨rfl, rfl, _, J, F3, G, H3', ho, d3.fr (fun j q1 q2 => by unfold upS; rw [if_neg q1]) frJ.rf, md_tput m2 hD okc h1 h2 d3 ?_ (fun j q1 => by unfold upS; rw [if_neg q1]) ?_ (fun z9 => ?_)⟩
              · rw [jr]
                refine ⟨by rw [c39', r39, tt], fun _ => ?_⟩
                rw [tj2]
                exact c3
              · show (1 : Int32) = _
                unfold newR
                rw [nc]
                simp [bI]
              · rw [jr, c45, (a9 z9).1.2 t h1 h2, nI_1]
            · refine gi_iload_n (q := 162) (i := 3) C (dm_Mo_tellSet 101 rfl) rfl rfl rfl ?_
              refine gi_if_eq (q := 165) (tgt := 169) C (dm_Mo_tellSet 102 rfl) rfl (by decide) (fun c162 => ?_) (fun c162 => ?_)
              · refine gi_iconst (q := 170) (v := 0) C (dm_Mo_tellSet 105 rfl) rfl (by decide) ?_
                refine gi_zast (q := 171) C (dm_Mo_tellSet 106 rfl) rfl rfl (mo_a44 H) (inN (show tix t < 160 by omega) (by decide)) ?_
                refine gi_genM (H.setI (p := 26) (k := 44) (by decide) rfl rfl (by decide) rfl (by omega)) (ho.up (by omega) (by omega)) (fun y H ho => ?_)
                obtain ⟨fs, Ha, Hf⟩ := id H.1
                refine gi_vret C hr (dm_Mo_tellSet 107 rfl) ?_
                rw [nI_clamp (show tix t < 2 ^ 31 by omega)] at H
                rw [show vp_nar .boolean (0 : Int32) = bI (o2' || q) from by rw [show o2' = false from bI_fa c158, show q = false from bI_fa c162]; rfl] at H
                have key : ∃ F3, mo_at M (upS S 50 1) J F3 G y ∧ tdC (tix t) F F3 G G ∧ F3 39 = F 39 ∧ F3 45 (tix t) = F 45 (tix t) + 1 ∧ ceA (.inr (b2 ||| b, o2' || q)) (cT F3 G (tix t)) := by
                  refine ⟨_, H, ⟨fun a b1 b2 b3 b4 => ?_, fun _ _ _ _ => rfl, fun j hj => ⟨?_, ?_, ?_⟩⟩, ?_, ?_, ?_⟩
                  · simp [upA, b1, b2, b3, b4]
                  · simp [upA]
                  · simp [upA, upd_is, hj]
                  · simp [cT, upA, upd_is, hj]
                  · simp [upA]
                  · simp [upA, upd_is]
                  · simp [cT, ceA, upA, upd_is, s43]
                obtain ⟨F3, H3', d3, c39', c45, c3⟩ := key
                refine ⟨rfl, rfl, _, J, F3, G, H3', ho, d3.fr (fun j q1 q2 => by unfold upS; rw [if_neg q1]) frJ.rf, md_tput m2 hD okc h1 h2 d3 ?_ (fun j q1 => by unfold upS; rw [if_neg q1]) ?_ (fun z9 => ?_)⟩
                · rw [jr]
                  refine ⟨by rw [c39', r39, tt], fun _ => ?_⟩
                  rw [tj2]
                  exact c3
                · show (1 : Int32) = _
                  unfold newR
                  rw [nc]
                  simp [bI]
                · rw [jr, c45, (a9 z9).1.2 t h1 h2, nI_1]
              · refine gi_iconst (q := 166) (v := 1) C (dm_Mo_tellSet 103 rfl) rfl (by decide) ?_
                refine gi_goto (tgt := 170) C (dm_Mo_tellSet 104 rfl) (by decide) ?_
                refine gi_zast (q := 171) C (dm_Mo_tellSet 106 rfl) rfl rfl (mo_a44 H) (inN (show tix t < 160 by omega) (by decide)) ?_
                refine gi_genM (H.setI (p := 26) (k := 44) (by decide) rfl rfl (by decide) rfl (by omega)) (ho.up (by omega) (by omega)) (fun y H ho => ?_)
                obtain ⟨fs, Ha, Hf⟩ := id H.1
                refine gi_vret C hr (dm_Mo_tellSet 107 rfl) ?_
                rw [nI_clamp (show tix t < 2 ^ 31 by omega)] at H
                rw [show vp_nar .boolean (1 : Int32) = bI (o2' || q) from by first | (rw [show o2' = true from bI_t c158]; rfl) | (rw [show q = true from bI_t c162, Bool.or_true]; rfl)] at H
                have key : ∃ F3, mo_at M (upS S 50 1) J F3 G y ∧ tdC (tix t) F F3 G G ∧ F3 39 = F 39 ∧ F3 45 (tix t) = F 45 (tix t) + 1 ∧ ceA (.inr (b2 ||| b, o2' || q)) (cT F3 G (tix t)) := by
                  refine ⟨_, H, ⟨fun a b1 b2 b3 b4 => ?_, fun _ _ _ _ => rfl, fun j hj => ⟨?_, ?_, ?_⟩⟩, ?_, ?_, ?_⟩
                  · simp [upA, b1, b2, b3, b4]
                  · simp [upA]
                  · simp [upA, upd_is, hj]
                  · simp [cT, upA, upd_is, hj]
                  · simp [upA]
                  · simp [upA, upd_is]
                  · simp [cT, ceA, upA, upd_is, s43]
                obtain ⟨F3, H3', d3, c39', c45, c3⟩ := key
                refine ⟨rfl, rfl, _, J, F3, G, H3', ho, d3.fr (fun j q1 q2 => by unfold upS; rw [if_neg q1]) frJ.rf, md_tput m2 hD okc h1 h2 d3 ?_ (fun j q1 => by unfold upS; rw [if_neg q1]) ?_ (fun z9 => ?_)⟩
                · rw [jr]
                  refine ⟨by rw [c39', r39, tt], fun _ => ?_⟩
                  rw [tj2]
                  exact c3
                · show (1 : Int32) = _
                  unfold newR
                  rw [nc]
                  simp [bI]
                · rw [jr, c45, (a9 z9).1.2 t h1 h2, nI_1]
    · refine gi_aload_n (q := 70) (i := 0) C (dm_Mo_tellSet 39 rfl) rfl rfl rfl ?_
      refine gi_get (q := 73) C (dm_Mo_tellSet 40 rfl) rfl fl_Mo_83 Ha (mo_g39 Hf) ?_
      refine gi_iload_n (q := 74) (i := 1) C (dm_Mo_tellSet 41 rfl) rfl rfl rfl ?_
      refine gi_iconst (q := 75) (v := 1) C (dm_Mo_tellSet 42 rfl) rfl (by decide) ?_
      refine gi_zast (q := 76) C (dm_Mo_tellSet 43 rfl) rfl rfl (mo_a39 H) (inN (show tix t < 160 by omega) (by decide)) ?_
      refine gi_genM (H.setI (p := 21) (k := 39) (by decide) rfl rfl (by decide) rfl (by omega)) (ho.up (by omega) (by omega)) (fun y H ho => ?_)
      obtain ⟨fs, Ha, Hf⟩ := id H.1
      refine gi_aload_n (q := 77) (i := 0) C (dm_Mo_tellSet 44 rfl) rfl rfl rfl ?_
      refine gi_iconst (q := 78) (v := 1) C (dm_Mo_tellSet 45 rfl) rfl (by decide) ?_
      refine gi_put (q := 81) C (dm_Mo_tellSet 46 rfl) rfl fl_Mo_401 fp_Mo_50 Ha (by rw [Hf.1]; decide) rfl rfl ?_
      refine gi_genM (H.putI Ha Hf (by decide) rfl) (ho.up (by omega) (by omega)) (fun y H ho => ?_)
      obtain ⟨fs, Ha, Hf⟩ := id H.1
      refine gi_aload_n (q := 82) (i := 0) C (dm_Mo_tellSet 47 rfl) rfl rfl rfl ?_
      refine gi_get (q := 85) C (dm_Mo_tellSet 48 rfl) rfl fl_Mo_95 Ha (mo_g43 Hf) ?_
      refine gi_iload_n (q := 86) (i := 1) C (dm_Mo_tellSet 49 rfl) rfl rfl rfl ?_
      refine gi_iload_n (q := 87) (i := 2) C (dm_Mo_tellSet 50 rfl) rfl rfl rfl ?_
      refine gi_iast (q := 88) C (dm_Mo_tellSet 51 rfl) rfl rfl (mo_a43 H) (inN (show tix t < 160 by omega) (by decide)) ?_
      refine gi_genM (H.setI (p := 25) (k := 43) (by decide) rfl rfl (by decide) rfl (by omega)) (ho.up (by omega) (by omega)) (fun y H ho => ?_)
      obtain ⟨fs, Ha, Hf⟩ := id H.1
      refine gi_aload_n (q := 89) (i := 0) C (dm_Mo_tellSet 52 rfl) rfl rfl rfl ?_
      refine gi_get (q := 92) C (dm_Mo_tellSet 53 rfl) rfl fl_Mo_98 Ha (mo_g44 Hf) ?_
      refine gi_iload_n (q := 93) (i := 1) C (dm_Mo_tellSet 54 rfl) rfl rfl rfl ?_
      refine gi_iload_n (q := 94) (i := 3) C (dm_Mo_tellSet 55 rfl) rfl rfl rfl ?_
      refine gi_zast (q := 95) C (dm_Mo_tellSet 56 rfl) rfl rfl (mo_a44 H) (inN (show tix t < 160 by omega) (by decide)) ?_
      refine gi_genM (H.setI (p := 26) (k := 44) (by decide) rfl rfl (by decide) rfl (by omega)) (ho.up (by omega) (by omega)) (fun y H ho => ?_)
      obtain ⟨fs, Ha, Hf⟩ := id H.1
      refine gi_vret C hr (dm_Mo_tellSet 57 rfl) ?_
      have tf : (Z.1 t).told = false := bI_fa c66
      rw [nI_clamp (show tix t < 2 ^ 31 by omega)] at H
      have key : ∃ F3 G3, mo_at M (upS S 50 1) J F3 G3 y ∧ tdC (tix t) F F3 G G3 ∧ F3 39 (tix t) = 1 ∧ F3 45 = F 45 ∧ ceA (.inr (b, q)) (cT F3 G3 (tix t)) := by
        refine ⟨_, _, H, ⟨fun a b1 b2 b3 b4 => ?_, fun a b1 b2 b3 => ?_, fun j hj => ⟨?_, ?_, ?_⟩⟩, ?_, ?_, ?_⟩
        · simp [upA, b1, b2, b3, b4]
        · simp [upA, b1, b2, b3]
        · simp [upA, upd_is, hj]
        · simp [upA]
        · simp [cT, upA, upd_is, updJ_is, hj]
        · simp [upA, upd_is, nz1]
        · simp [upA]
        · simp [cT, ceA, upA, upd_is, updJ_is, nzb]
      obtain ⟨F3, G3, H3, d3, c39, c45, c3⟩ := key
      have jr : joinR (decide (md = 0)) (Z.1 t) n0 g = mkR true (Z.1 t).ch n0 g := by
        unfold joinR
        rw [if_pos tf]
      refine ⟨rfl, rfl, _, J, F3, G3, H3, ho, d3.fr (fun j q1 q2 => by unfold upS; rw [if_neg q1]) frJ.rf, md_tput m2 hD okc h1 h2 d3 ?_ (fun j q1 => by unfold upS; rw [if_neg q1]) ?_ (fun z => ?_)⟩
      · rw [jr]
        refine ⟨c39, fun _ => ?_⟩
        show ceA (gvA n0 g) _
        rw [hv]
        exact c3
      · show (1 : Int32) = _
        unfold newR
        rw [tf]
        simp [bI]
      · rw [jr, c45]
        exact (a9 z).1.2 t h1 h2
  · have m2 : md = 2 := by
      rw [a1, show (2 : Int32) = nI 2 from rfl, nI_eqP (by omega) (by decide)] at c5
      exact c5
    have hz0 : ¬ S 51 = 0 → Z.2 = false := fun q => by
      rw [a7 m2] at q
      cases e : Z.2 with
      | false => rfl
      | true => rw [e] at q; exact absurd rfl q
    have hz1 : S 51 = 0 → Z.2 = true := fun q => by
      rw [a7 m2] at q
      exact nbf q
    refine gi_aload_n (q := 9) (i := 0) C (dm_Mo_tellSet 4 rfl) rfl rfl rfl ?_
    refine gi_aload_n (q := 10) (i := 0) C (dm_Mo_tellSet 5 rfl) rfl rfl rfl ?_
    refine gi_get (q := 13) C (dm_Mo_tellSet 6 rfl) rfl fl_Mo_395 Ha (mo_g51 Hf) ?_
    refine gi_if_eq (q := 16) (tgt := 55) C (dm_Mo_tellSet 7 rfl) rfl (by decide) (fun c13 => ?_) (fun c13 => ?_)
    · refine gi_iconst (q := 56) (v := 0) C (dm_Mo_tellSet 31 rfl) rfl (by decide) ?_
      refine gi_put (q := 59) C (dm_Mo_tellSet 32 rfl) rfl fl_Mo_395 fp_Mo_51 Ha (by rw [Hf.1]; decide) rfl rfl ?_
      refine gi_genM (H.putI Ha Hf (by decide) rfl) (ho.up (by omega) (by omega)) (fun y H ho => ?_)
      obtain ⟨fs, Ha, Hf⟩ := id H.1
      refine gi_vret C hr (dm_Mo_tellSet 33 rfl) ?_
      refine ⟨rfl, rfl, _, J, F, G, H, ho, ⟨fun j q1 q2 => by unfold upS; rw [if_neg q2], frJ.rf, fun _ _ => rfl, fun _ _ => rfl⟩, a1, a2, a3, ?_, fun z => absurd z (by omega), fun z => absurd m2 z, fun _ => ?_, ?_, fun z => absurd z (by omega)⟩
      · rw [m2, show Z = (Z.1, Z.2) from rfl, comeM_2]
        exact a4
      · rw [m2, show Z = (Z.1, Z.2) from rfl, comeM_2]
        show (0 : Int32) = bI (!(Z.2 || newR (Z.1 t) n0 g))
        unfold newR
        first
          | (rw [show Z.2 = true from hz1 c13]; rfl)
          | (rw [show (Z.1 t).told = false from bI_fa c22]; simp [bI]; done)
          | (rw [cv, decide_eq_false c35]; simp [bI]; done)
          | (rw [cv, show q = true from bI_t c39, show o2' = false from bI_fa c48]; simp [bI]; done)
      · rw [m2, show Z = (Z.1, Z.2) from rfl, comeM_2]
        exact a8
    · refine gi_aload_n (q := 17) (i := 0) C (dm_Mo_tellSet 8 rfl) rfl rfl rfl ?_
      refine gi_get (q := 20) C (dm_Mo_tellSet 9 rfl) rfl fl_Mo_83 Ha (mo_g39 Hf) ?_
      refine gi_iload_n (q := 21) (i := 1) C (dm_Mo_tellSet 10 rfl) rfl rfl rfl ?_
      refine gi_zald (q := 22) C (dm_Mo_tellSet 11 rfl) rfl rfl (mo_a39 H) (inN (show tix t < 160 by omega) (by decide)) ?_
      rw [nI_clamp (show tix t < 2 ^ 31 by omega), r39]
      refine gi_if_eq (q := 25) (tgt := 55) C (dm_Mo_tellSet 12 rfl) rfl (by decide) (fun c22 => ?_) (fun c22 => ?_)
      · refine gi_iconst (q := 56) (v := 0) C (dm_Mo_tellSet 31 rfl) rfl (by decide) ?_
        refine gi_put (q := 59) C (dm_Mo_tellSet 32 rfl) rfl fl_Mo_395 fp_Mo_51 Ha (by rw [Hf.1]; decide) rfl rfl ?_
        refine gi_genM (H.putI Ha Hf (by decide) rfl) (ho.up (by omega) (by omega)) (fun y H ho => ?_)
        obtain ⟨fs, Ha, Hf⟩ := id H.1
        refine gi_vret C hr (dm_Mo_tellSet 33 rfl) ?_
        refine ⟨rfl, rfl, _, J, F, G, H, ho, ⟨fun j q1 q2 => by unfold upS; rw [if_neg q2], frJ.rf, fun _ _ => rfl, fun _ _ => rfl⟩, a1, a2, a3, ?_, fun z => absurd z (by omega), fun z => absurd m2 z, fun _ => ?_, ?_, fun z => absurd z (by omega)⟩
        · rw [m2, show Z = (Z.1, Z.2) from rfl, comeM_2]
          exact a4
        · rw [m2, show Z = (Z.1, Z.2) from rfl, comeM_2]
          show (0 : Int32) = bI (!(Z.2 || newR (Z.1 t) n0 g))
          unfold newR
          first
            | (rw [show Z.2 = true from hz1 c13]; rfl)
            | (rw [show (Z.1 t).told = false from bI_fa c22]; simp [bI]; done)
            | (rw [cv, decide_eq_false c35]; simp [bI]; done)
            | (rw [cv, show q = true from bI_t c39, show o2' = false from bI_fa c48]; simp [bI]; done)
        · rw [m2, show Z = (Z.1, Z.2) from rfl, comeM_2]
          exact a8
      · have tt : (Z.1 t).told = true := bI_t c22
        have ht := hrt tt
        have rt := rr tt
        obtain ⟨b2, o2', ez⟩ : ∃ b o, tvA (Z.1 t) = .inr (b, o) := by
          have en : n0 = (Z.1 t).n := hgt.1.trans ht.1.symm
          have n0n : n0 ≠ 0 := fun q => by unfold gvA at hv; rw [if_pos q] at hv; cases hv
          unfold tvA
          rw [if_neg (by omega)]
          obtain ⟨b1, b2, b3, b4⟩ := mk_hi h1 ht (by omega)
          obtain ⟨c1, c2, c3, c4⟩ := mk_hi h1 hgt n0n
          have ag : (g 0).1 = .inr (b, q) := by unfold gvA at hv; rw [if_neg n0n] at hv; exact hv
          have ar : arA ((Z.1 t).f 0).1 = true := by rw [b3, ← c3, ag]; rfl
          exact ⟨_, _, ar_t ar⟩
        rw [ez] at rt
        have s43 : F 43 (tix t) = b2 := rt.1
        have s44 : F 44 (tix t) = bI o2' := rt.2
        have cv : covR (Z.1 t) n0 g = (decide (b &&& (b2 ^^^ -1) = 0) && (o2' || !q)) := by
          rw [cov_td h1 ht hgt, ez, hv]
          rfl
        refine gi_iload_n (q := 26) (i := 2) C (dm_Mo_tellSet 13 rfl) rfl rfl rfl ?_
        refine gi_aload_n (q := 27) (i := 0) C (dm_Mo_tellSet 14 rfl) rfl rfl rfl ?_
        refine gi_get (q := 30) C (dm_Mo_tellSet 15 rfl) rfl fl_Mo_95 Ha (mo_g43 Hf) ?_
        refine gi_iload_n (q := 31) (i := 1) C (dm_Mo_tellSet 16 rfl) rfl rfl rfl ?_
        refine gi_iald (q := 32) C (dm_Mo_tellSet 17 rfl) rfl rfl (mo_a43 H) (inN (show tix t < 160 by omega) (by decide)) ?_
        rw [nI_clamp (show tix t < 2 ^ 31 by omega), s43]
        refine gi_iconst (q := 33) (v := -1) C (dm_Mo_tellSet 18 rfl) rfl (by decide) ?_
        refine gi_ixor (q := 34) C (dm_Mo_tellSet 19 rfl) rfl ?_
        refine gi_iand (q := 35) C (dm_Mo_tellSet 20 rfl) rfl ?_
        refine gi_if_ne (q := 38) (tgt := 55) C (dm_Mo_tellSet 21 rfl) rfl (by decide) (fun c35 => ?_) (fun c35 => ?_)
        · refine gi_iconst (q := 56) (v := 0) C (dm_Mo_tellSet 31 rfl) rfl (by decide) ?_
          refine gi_put (q := 59) C (dm_Mo_tellSet 32 rfl) rfl fl_Mo_395 fp_Mo_51 Ha (by rw [Hf.1]; decide) rfl rfl ?_
          refine gi_genM (H.putI Ha Hf (by decide) rfl) (ho.up (by omega) (by omega)) (fun y H ho => ?_)
          obtain ⟨fs, Ha, Hf⟩ := id H.1
          refine gi_vret C hr (dm_Mo_tellSet 33 rfl) ?_
          refine ⟨rfl, rfl, _, J, F, G, H, ho, ⟨fun j q1 q2 => by unfold upS; rw [if_neg q2], frJ.rf, fun _ _ => rfl, fun _ _ => rfl⟩, a1, a2, a3, ?_, fun z => absurd z (by omega), fun z => absurd m2 z, fun _ => ?_, ?_, fun z => absurd z (by omega)⟩
          · rw [m2, show Z = (Z.1, Z.2) from rfl, comeM_2]
            exact a4
          · rw [m2, show Z = (Z.1, Z.2) from rfl, comeM_2]
            show (0 : Int32) = bI (!(Z.2 || newR (Z.1 t) n0 g))
            unfold newR
            first
              | (rw [show Z.2 = true from hz1 c13]; rfl)
              | (rw [show (Z.1 t).told = false from bI_fa c22]; simp [bI]; done)
              | (rw [cv, decide_eq_false c35]; simp [bI]; done)
              | (rw [cv, show q = true from bI_t c39, show o2' = false from bI_fa c48]; simp [bI]; done)
          · rw [m2, show Z = (Z.1, Z.2) from rfl, comeM_2]
            exact a8
        · refine gi_iload_n (q := 39) (i := 3) C (dm_Mo_tellSet 22 rfl) rfl rfl rfl ?_
          refine gi_if_eq (q := 42) (tgt := 51) C (dm_Mo_tellSet 23 rfl) rfl (by decide) (fun c39 => ?_) (fun c39 => ?_)
          · refine gi_iconst (q := 52) (v := 1) C (dm_Mo_tellSet 29 rfl) rfl (by decide) ?_
            refine gi_goto (tgt := 56) C (dm_Mo_tellSet 30 rfl) (by decide) ?_
            refine gi_put (q := 59) C (dm_Mo_tellSet 32 rfl) rfl fl_Mo_395 fp_Mo_51 Ha (by rw [Hf.1]; decide) rfl rfl ?_
            refine gi_genM (H.putI Ha Hf (by decide) rfl) (ho.up (by omega) (by omega)) (fun y H ho => ?_)
            obtain ⟨fs, Ha, Hf⟩ := id H.1
            refine gi_vret C hr (dm_Mo_tellSet 33 rfl) ?_
            refine ⟨rfl, rfl, _, J, F, G, H, ho, ⟨fun j q1 q2 => by unfold upS; rw [if_neg q2], frJ.rf, fun _ _ => rfl, fun _ _ => rfl⟩, a1, a2, a3, ?_, fun z => absurd z (by omega), fun z => absurd m2 z, fun _ => ?_, ?_, fun z => absurd z (by omega)⟩
            · rw [m2, show Z = (Z.1, Z.2) from rfl, comeM_2]
              exact a4
            · rw [m2, show Z = (Z.1, Z.2) from rfl, comeM_2]
              show (1 : Int32) = bI (!(Z.2 || newR (Z.1 t) n0 g))
              unfold newR
              rw [show Z.2 = false from hz0 c13, tt, cv, decide_eq_true c35]
              first
                | (rw [show q = false from bI_fa c39]; simp [bI]; done)
                | (rw [show o2' = true from bI_t c48]; rfl)
            · rw [m2, show Z = (Z.1, Z.2) from rfl, comeM_2]
              exact a8
          · refine gi_aload_n (q := 43) (i := 0) C (dm_Mo_tellSet 24 rfl) rfl rfl rfl ?_
            refine gi_get (q := 46) C (dm_Mo_tellSet 25 rfl) rfl fl_Mo_98 Ha (mo_g44 Hf) ?_
            refine gi_iload_n (q := 47) (i := 1) C (dm_Mo_tellSet 26 rfl) rfl rfl rfl ?_
            refine gi_zald (q := 48) C (dm_Mo_tellSet 27 rfl) rfl rfl (mo_a44 H) (inN (show tix t < 160 by omega) (by decide)) ?_
            rw [nI_clamp (show tix t < 2 ^ 31 by omega), s44]
            refine gi_if_eq (q := 51) (tgt := 55) C (dm_Mo_tellSet 28 rfl) rfl (by decide) (fun c48 => ?_) (fun c48 => ?_)
            · refine gi_iconst (q := 56) (v := 0) C (dm_Mo_tellSet 31 rfl) rfl (by decide) ?_
              refine gi_put (q := 59) C (dm_Mo_tellSet 32 rfl) rfl fl_Mo_395 fp_Mo_51 Ha (by rw [Hf.1]; decide) rfl rfl ?_
              refine gi_genM (H.putI Ha Hf (by decide) rfl) (ho.up (by omega) (by omega)) (fun y H ho => ?_)
              obtain ⟨fs, Ha, Hf⟩ := id H.1
              refine gi_vret C hr (dm_Mo_tellSet 33 rfl) ?_
              refine ⟨rfl, rfl, _, J, F, G, H, ho, ⟨fun j q1 q2 => by unfold upS; rw [if_neg q2], frJ.rf, fun _ _ => rfl, fun _ _ => rfl⟩, a1, a2, a3, ?_, fun z => absurd z (by omega), fun z => absurd m2 z, fun _ => ?_, ?_, fun z => absurd z (by omega)⟩
              · rw [m2, show Z = (Z.1, Z.2) from rfl, comeM_2]
                exact a4
              · rw [m2, show Z = (Z.1, Z.2) from rfl, comeM_2]
                show (0 : Int32) = bI (!(Z.2 || newR (Z.1 t) n0 g))
                unfold newR
                first
                  | (rw [show Z.2 = true from hz1 c13]; rfl)
                  | (rw [show (Z.1 t).told = false from bI_fa c22]; simp [bI]; done)
                  | (rw [cv, decide_eq_false c35]; simp [bI]; done)
                  | (rw [cv, show q = true from bI_t c39, show o2' = false from bI_fa c48]; simp [bI]; done)
              · rw [m2, show Z = (Z.1, Z.2) from rfl, comeM_2]
                exact a8
            · refine gi_iconst (q := 52) (v := 1) C (dm_Mo_tellSet 29 rfl) rfl (by decide) ?_
              refine gi_goto (tgt := 56) C (dm_Mo_tellSet 30 rfl) (by decide) ?_
              refine gi_put (q := 59) C (dm_Mo_tellSet 32 rfl) rfl fl_Mo_395 fp_Mo_51 Ha (by rw [Hf.1]; decide) rfl rfl ?_
              refine gi_genM (H.putI Ha Hf (by decide) rfl) (ho.up (by omega) (by omega)) (fun y H ho => ?_)
              obtain ⟨fs, Ha, Hf⟩ := id H.1
              refine gi_vret C hr (dm_Mo_tellSet 33 rfl) ?_
              refine ⟨rfl, rfl, _, J, F, G, H, ho, ⟨fun j q1 q2 => by unfold upS; rw [if_neg q2], frJ.rf, fun _ _ => rfl, fun _ _ => rfl⟩, a1, a2, a3, ?_, fun z => absurd z (by omega), fun z => absurd m2 z, fun _ => ?_, ?_, fun z => absurd z (by omega)⟩
              · rw [m2, show Z = (Z.1, Z.2) from rfl, comeM_2]
                exact a4
              · rw [m2, show Z = (Z.1, Z.2) from rfl, comeM_2]
                show (1 : Int32) = bI (!(Z.2 || newR (Z.1 t) n0 g))
                unfold newR
                rw [show Z.2 = false from hz0 c13, tt, cv, decide_eq_true c35]
                first
                  | (rw [show q = false from bI_fa c39]; simp [bI]; done)
                  | (rw [show o2' = true from bI_t c48]; rfl)
              · rw [m2, show Z = (Z.1, Z.2) from rfl, comeM_2]
                exact a8
def rdF (md : Nat) (Ff : Fa) (Z : Fa × Bool) : Fa := if md = 1 then Ff else Z.1
def rdQ (md : Nat) : Nat := if md = 1 then 80 else 0
theorem md_rdT (hD : mdR k P sh md Ff Z S F G) (h1 : 480 ≤ t) (h2 : t < 542) : rfT (rdF md Ff Z t) (rdQ md + tix t) F G := by
  unfold rdF rdQ
  by_cases e : md = 1
  · rw [if_pos e, if_pos e]
    exact (hD.2.2.2.2.1 e).2 t h1 h2
  · rw [if_neg e, if_neg e, Nat.zero_add]
    exact hD.2.2.2.1.2 t h1 h2
theorem md_rdS (hD : mdR k P sh md Ff Z S F G) (hp : p < 480) : rfS P (rdF md Ff Z p) p ((if md = 1 then 480 else 0) + p) F G := by
  unfold rdF
  by_cases e : md = 1
  · rw [if_pos e, if_pos e]
    exact (hD.2.2.2.2.1 e).1 p hp
  · rw [if_neg e, if_neg e, Nat.zero_add]
    exact hD.2.2.2.1.1 p hp
theorem tv_one {R : Fa} (hR : okF (tyF P sh) R) (h1 : 480 ≤ t) (h2 : t < 534) (ht : (R t).told = true) : tvA (R t) = .inl (spA ((R t).f 0).1) ∧ okS (spA ((R t).f 0).1) := by
  obtain ⟨a, b, c⟩ := tld_one hR h1 h2 ht
  unfold tvA
  rw [if_neg (by omega)]
  exact ⟨ar_s c, ok_sp b c⟩
set_option maxHeartbeats 4000000 in
set_option maxRecDepth 100000 in
theorem c_Mo_ofSites (b : Int32) {ba off : Nat} (hb : (ba = 480 ∧ off = 0) ∨ (ba = 505 ∧ off = 32)) (hD : mdR k P sh md Ff Z S F G) (hR : okF (tyF P sh) (rdF md Ff Z)) (H : mo_at M S J F G h) : gi_T l V y_Mo_ofSites b_Mo_ofSites 12 (some .boolean) 2 61 0 0 [.ref M, .int b, .int (nI off)] n h (fun v n' h' => v = some (.int (bI (gathF (rdF md Ff Z) ba b 25).isSome)) ∧ n' = n ∧ moW M F G h S J (gathF (rdF md Ff Z) ba b 25) h') := by
  refine gi_enter (by decide) (Nat.le_of_ble_eq_true rfl) ?_
  intro _ _ _ _ _ _ _ _ C hr hnm
  obtain ⟨fs, Ha, Hf⟩ := id H.1
  have ho : outM M h h := outM.rf
  have q80 : rdQ md ≤ 80 := by unfold rdQ; split <;> omega
  have htx : ∀ j, j < 25 → tix (ba + j) = off + j := fun j hj => by
    unfold tix
    rcases hb with ⟨rfl, rfl⟩ | ⟨rfl, rfl⟩
    · rw [if_pos (by omega)]; omega
    · rw [if_neg (by omega), if_pos (by omega)]; omega
  have r39 : ∀ j, j < 25 → F 39 (rdQ md + off + j) = bI (rdF md Ff Z (ba + j)).told := fun j hj => by
    have q := (md_rdT hD (show 480 ≤ ba + j by omega) (show ba + j < 542 by omega)).1
    rw [htx j hj, ← Nat.add_assoc] at q
    exact q
  have hsp : ∀ s, s < 25 → (rdF md Ff Z (ba + s)).told = true → okS (spA ((rdF md Ff Z (ba + s)).f 0).1) := fun s hs ht => (tv_one hR (by omega) (by omega) ht).2
  refine gi_iconst (q := 1) (v := 0) C (dm_Mo_ofSites 0 rfl) rfl (by decide) ?_
  refine gi_istore_n (q := 2) (i := 3) C (dm_Mo_ofSites 1 rfl) rfl rfl (Nat.le_of_ble_eq_true rfl) ?_
  refine gi_lconst (q := 3) (v := 0) C (dm_Mo_ofSites 2 rfl) rfl (by decide) ?_
  refine gi_lstore (q := 5) C (dm_Mo_ofSites 3 rfl) rfl (Nat.le_of_ble_eq_true rfl) ?_
  refine gi_lconst (q := 6) (v := 0) C (dm_Mo_ofSites 4 rfl) rfl (by decide) ?_
  refine gi_lstore (q := 8) C (dm_Mo_ofSites 5 rfl) rfl (Nat.le_of_ble_eq_true rfl) ?_
  refine gi_lconst (q := 9) (v := 0) C (dm_Mo_ofSites 6 rfl) rfl (by decide) ?_
  refine gi_lstore (q := 11) C (dm_Mo_ofSites 7 rfl) rfl (Nat.le_of_ble_eq_true rfl) ?_
  refine gi_iconst (q := 12) (v := 0) C (dm_Mo_ofSites 8 rfl) rfl (by decide) ?_
  refine gi_istore (q := 14) C (dm_Mo_ofSites 9 rfl) rfl (Nat.le_of_ble_eq_true rfl) ?_
  refine gi_while (σ := Nat) (fun j => 25 - j) (fun j => [(10, .int (nI j)), (8, .long (eL ((gathF (rdF md Ff Z) ba b j).getD (0, 0, 0)).2.2)), (6, .long (eL ((gathF (rdF md Ff Z) ba b j).getD (0, 0, 0)).2.1)), (4, .long (eL ((gathF (rdF md Ff Z) ba b j).getD (0, 0, 0)).1)), (3, .int (bI (gathF (rdF md Ff Z) ba b j).isSome)), (2, .int (nI off)), (1, .int b), (0, .ref M)]) (fun _ => n) (fun _ => 0) (fun _ => 0) (fun j y' => j ≤ 25 ∧ ∃ J1, mo_at M S J1 F G y' ∧ outM M h y' ∧ frJ J J1) 0 ⟨Nat.zero_le _, J, H, ho, frJ.rf⟩ ?_ (List.forall_mem_cons.mpr ⟨(by first | rfl | (simp [gi_look]; done)), List.forall_mem_cons.mpr ⟨(by first | rfl | (simp [gi_look]; done)), List.forall_mem_cons.mpr ⟨(by first | rfl | (simp [gi_look]; done)), List.forall_mem_cons.mpr ⟨(by first | rfl | (simp [gi_look]; done)), List.forall_mem_cons.mpr ⟨(by first | rfl | (simp [gi_look]; done)), List.forall_mem_cons.mpr ⟨(by first | rfl | (simp [gi_look]; done)), List.forall_mem_cons.mpr ⟨(by first | rfl | (simp [gi_look]; done)), List.forall_mem_cons.mpr ⟨(by first | rfl | (simp [gi_look]; done)), fun _ h => absurd h List.not_mem_nil⟩⟩⟩⟩⟩⟩⟩⟩) rfl rfl rfl
  rintro j y' ⟨hj, J1, H1, o1, q1⟩ ihj
  try dsimp only at *
  obtain ⟨fs1, Ha1, Hf1⟩ := id H1.1
  refine gi_iload (q := 16) C (dm_Mo_ofSites 10 rfl) rfl rfl ?_
  refine gi_bipush (q := 18) (v := 25) C (dm_Mo_ofSites 11 rfl) rfl (by decide) ?_
  refine gi_icmp_ge (q := 21) (tgt := 141) C (dm_Mo_ofSites 12 rfl) rfl (by decide) (fun c18 => ?_) (fun c18 => ?_)
  · have jl : j = 25 := by
      rcases Nat.lt_or_ge j (25) with q | q
      · exact absurd c18 (Int32.not_le.mpr (nI_lt (b := 25) q (by omega)))
      · omega
    subst jl
    obtain ⟨u, eu⟩ : ∃ u, u = (gathF (rdF md Ff Z) ba b 25).getD (0, 0, 0) := ⟨_, rfl⟩
    have oku : okS u := by
      rw [eu]
      cases e : gathF (rdF md Ff Z) ba b 25 with
      | none => exact okS0
      | some v9 => exact gath_ok hsp 25 (by omega) v9 e
    rw [← eu]
    refine gi_aload_n (q := 142) (i := 0) C (dm_Mo_ofSites 79 rfl) rfl rfl rfl ?_
    refine gi_lload (q := 144) C (dm_Mo_ofSites 80 rfl) rfl rfl ?_
    refine gi_lload (q := 146) C (dm_Mo_ofSites 81 rfl) rfl rfl ?_
    refine gi_lload (q := 148) C (dm_Mo_ofSites 82 rfl) rfl rfl ?_
    refine gi_callv 3 (q := 151) C (dm_Mo_ofSites 83 rfl) rfl my_Mo_set lk_Mo_262 im_Mo_set rfl (c_Mo_set u.1 u.2.1 u.2.2 (by have := oku.1; omega) (by have := oku.2.1; have := oku.2.2.1; omega) (by have := oku.1; have := oku.2.1; omega) (by have := oku.2.2.1; omega) H1) Ha1 rfl rfl ⟨(Nat.le_of_ble_eq_true rfl), (Nat.le_of_ble_eq_true rfl)⟩ (Nat.le_of_ble_eq_true rfl) ⟨(Nat.le_of_ble_eq_true rfl), (Nat.le_of_ble_eq_true rfl)⟩ (fun r148 n148 h148 e148 => ?_)
    obtain ⟨rfl, rfl, S2, J2, H2, o2, ⟨q2, sb⟩, rb⟩ := e148
    subst sb
    rw [mk_self oku] at rb
    refine gi_iload_n (q := 152) (i := 3) C (dm_Mo_ofSites 84 rfl) rfl rfl rfl ?_
    refine gi_zret C hr (dm_Mo_ofSites 85 rfl) (bI_nar _) ?_
    refine ⟨rfl, rfl, _, J2, H2, o1.tr o2, ⟨q1.tr q2, rfl⟩, fun z9 e9 => ?_⟩
    rw [e9] at eu
    rw [show z9 = u from eu.symm]
    exact rb
  · have jl : j < 25 := by
      rcases Nat.lt_or_ge j (25) with q | q
      · exact q
      · exact absurd (nI_le (a := 25) q (by omega)) c18
    refine gi_aload_n (q := 22) (i := 0) C (dm_Mo_ofSites 13 rfl) rfl rfl rfl ?_
    refine gi_get (q := 25) C (dm_Mo_ofSites 14 rfl) rfl fl_Mo_422 Ha1 (mo_g49 Hf1) ?_
    refine gi_iload_n (q := 26) (i := 2) C (dm_Mo_ofSites 15 rfl) rfl rfl rfl ?_
    refine gi_iadd (q := 27) C (dm_Mo_ofSites 16 rfl) rfl ?_
    rw [show S 49 = nI (rdQ md) from hD.2.2.1, nI_add]
    refine gi_iload (q := 29) C (dm_Mo_ofSites 17 rfl) rfl rfl ?_
    refine gi_iadd (q := 30) C (dm_Mo_ofSites 18 rfl) rfl ?_
    rw [nI_add]
    refine gi_istore (q := 32) C (dm_Mo_ofSites 19 rfl) rfl (Nat.le_of_ble_eq_true rfl) ?_
    refine gi_iload_n (q := 33) (i := 1) C (dm_Mo_ofSites 20 rfl) rfl rfl rfl ?_
    refine gi_iload (q := 35) C (dm_Mo_ofSites 21 rfl) rfl rfl ?_
    refine gi_ishr (q := 36) C (dm_Mo_ofSites 22 rfl) rfl ?_
    refine gi_iconst (q := 37) (v := 1) C (dm_Mo_ofSites 23 rfl) rfl (by decide) ?_
    refine gi_iand (q := 38) C (dm_Mo_ofSites 24 rfl) rfl ?_
    refine gi_iconst (q := 39) (v := 1) C (dm_Mo_ofSites 25 rfl) rfl (by decide) ?_
    refine gi_icmp_ne (q := 42) (tgt := 135) C (dm_Mo_ofSites 26 rfl) rfl (by decide) (fun c39 => ?_) (fun c39 => ?_)
    · have gs : gathF (rdF md Ff Z) ba b (j + 1) = gathF (rdF md Ff Z) ba b j := by
        show (if bitA b j = true ∧ (rdF md Ff Z (ba + j)).told = true then _ else _) = _
        rw [if_neg]
        first
          | exact fun q => c39 ((sh_bit b (by omega)).mpr q.1)
          | (rw [bI_fa c49]; exact fun q => absurd q.2 (by decide))
      refine gi_iinc (q := 138) (v := 1) C (dm_Mo_ofSites 77 rfl) rfl rfl (by decide) (Nat.le_of_ble_eq_true rfl) ?_
      refine gi_goto (tgt := 14) C (dm_Mo_ofSites 78 rfl) (by decide) ?_
      refine gi_close (ihj (j + 1) _ ⟨jl, J1, H1, o1, q1⟩ (by omega)) (List.forall_mem_cons.mpr ⟨(by first | rfl | (simp [gi_look, nI_1]; done) | (rw [gs]; rfl)), List.forall_mem_cons.mpr ⟨(by first | rfl | (simp [gi_look, nI_1]; done) | (rw [gs]; rfl)), List.forall_mem_cons.mpr ⟨(by first | rfl | (simp [gi_look, nI_1]; done) | (rw [gs]; rfl)), List.forall_mem_cons.mpr ⟨(by first | rfl | (simp [gi_look, nI_1]; done) | (rw [gs]; rfl)), List.forall_mem_cons.mpr ⟨(by first | rfl | (simp [gi_look, nI_1]; done) | (rw [gs]; rfl)), List.forall_mem_cons.mpr ⟨(by first | rfl | (simp [gi_look, nI_1]; done) | (rw [gs]; rfl)), List.forall_mem_cons.mpr ⟨(by first | rfl | (simp [gi_look, nI_1]; done) | (rw [gs]; rfl)), List.forall_mem_cons.mpr ⟨(by first | rfl | (simp [gi_look, nI_1]; done) | (rw [gs]; rfl)), fun _ h => absurd h List.not_mem_nil⟩⟩⟩⟩⟩⟩⟩⟩) rfl rfl rfl
    · refine gi_aload_n (q := 43) (i := 0) C (dm_Mo_ofSites 27 rfl) rfl rfl rfl ?_
      refine gi_get (q := 46) C (dm_Mo_ofSites 28 rfl) rfl fl_Mo_83 Ha1 (mo_g39 Hf1) ?_
      refine gi_iload (q := 48) C (dm_Mo_ofSites 29 rfl) rfl rfl ?_
      refine gi_zald (q := 49) C (dm_Mo_ofSites 30 rfl) rfl rfl (mo_a39 H1) (inN (show rdQ md + off + j < 160 by omega) (by decide)) ?_
      rw [nI_clamp (show rdQ md + off + j < 2 ^ 31 by omega), r39 j jl]
      refine gi_if_eq (q := 52) (tgt := 135) C (dm_Mo_ofSites 31 rfl) rfl (by decide) (fun c49 => ?_) (fun c49 => ?_)
      · have gs : gathF (rdF md Ff Z) ba b (j + 1) = gathF (rdF md Ff Z) ba b j := by
          show (if bitA b j = true ∧ (rdF md Ff Z (ba + j)).told = true then _ else _) = _
          rw [if_neg]
          first
            | exact fun q => c39 ((sh_bit b (by omega)).mpr q.1)
            | (rw [bI_fa c49]; exact fun q => absurd q.2 (by decide))
        refine gi_iinc (q := 138) (v := 1) C (dm_Mo_ofSites 77 rfl) rfl rfl (by decide) (Nat.le_of_ble_eq_true rfl) ?_
        refine gi_goto (tgt := 14) C (dm_Mo_ofSites 78 rfl) (by decide) ?_
        refine gi_close (ihj (j + 1) _ ⟨jl, J1, H1, o1, q1⟩ (by omega)) (List.forall_mem_cons.mpr ⟨(by first | rfl | (simp [gi_look, nI_1]; done) | (rw [gs]; rfl)), List.forall_mem_cons.mpr ⟨(by first | rfl | (simp [gi_look, nI_1]; done) | (rw [gs]; rfl)), List.forall_mem_cons.mpr ⟨(by first | rfl | (simp [gi_look, nI_1]; done) | (rw [gs]; rfl)), List.forall_mem_cons.mpr ⟨(by first | rfl | (simp [gi_look, nI_1]; done) | (rw [gs]; rfl)), List.forall_mem_cons.mpr ⟨(by first | rfl | (simp [gi_look, nI_1]; done) | (rw [gs]; rfl)), List.forall_mem_cons.mpr ⟨(by first | rfl | (simp [gi_look, nI_1]; done) | (rw [gs]; rfl)), List.forall_mem_cons.mpr ⟨(by first | rfl | (simp [gi_look, nI_1]; done) | (rw [gs]; rfl)), List.forall_mem_cons.mpr ⟨(by first | rfl | (simp [gi_look, nI_1]; done) | (rw [gs]; rfl)), fun _ h => absurd h List.not_mem_nil⟩⟩⟩⟩⟩⟩⟩⟩) rfl rfl rfl
      · have bj : bitA b j = true := (sh_bit b (by omega)).mp c39
        have tj : (rdF md Ff Z (ba + j)).told = true := bI_t c49
        obtain ⟨ez, okz⟩ := tv_one hR (show 480 ≤ ba + j by omega) (by omega) tj
        have rt := (md_rdT hD (show 480 ≤ ba + j by omega) (show ba + j < 542 by omega)).2 tj
        rw [ez, htx j jl, ← Nat.add_assoc] at rt
        obtain ⟨z, ezz⟩ : ∃ z, z = spA ((rdF md Ff Z (ba + j)).f 0).1 := ⟨_, rfl⟩
        rw [← ezz] at rt okz
        have s40 : G 40 (rdQ md + off + j) = eL z.1 := rt.1
        have s41 : G 41 (rdQ md + off + j) = eL z.2.1 := rt.2.1
        have s42 : G 42 (rdQ md + off + j) = eL z.2.2 := rt.2.2
        refine gi_iload_n (q := 53) (i := 3) C (dm_Mo_ofSites 32 rfl) rfl rfl rfl ?_
        refine gi_if_eq (q := 56) (tgt := 90) C (dm_Mo_ofSites 33 rfl) rfl (by decide) (fun c53 => ?_) (fun c53 => ?_)
        · have eg : gathF (rdF md Ff Z) ba b j = none := by
            cases e : gathF (rdF md Ff Z) ba b j with
            | none => rfl
            | some u => rw [e] at c53; exact absurd (bI_fa c53) (by simp)
          refine gi_aload_n (q := 91) (i := 0) C (dm_Mo_ofSites 52 rfl) rfl rfl rfl ?_
          refine gi_aload_n (q := 92) (i := 0) C (dm_Mo_ofSites 53 rfl) rfl rfl rfl ?_
          refine gi_get (q := 95) C (dm_Mo_ofSites 54 rfl) rfl fl_Mo_86 Ha1 (mo_g40 Hf1) ?_
          refine gi_iload (q := 97) C (dm_Mo_ofSites 55 rfl) rfl rfl ?_
          refine gi_lald (q := 98) C (dm_Mo_ofSites 56 rfl) rfl rfl (mo_a40 H1) (inN (show rdQ md + off + j < 160 by omega) (by decide)) ?_
          rw [nI_clamp (show rdQ md + off + j < 2 ^ 31 by omega), s40]
          refine gi_aload_n (q := 99) (i := 0) C (dm_Mo_ofSites 57 rfl) rfl rfl rfl ?_
          refine gi_get (q := 102) C (dm_Mo_ofSites 58 rfl) rfl fl_Mo_89 Ha1 (mo_g41 Hf1) ?_
          refine gi_iload (q := 104) C (dm_Mo_ofSites 59 rfl) rfl rfl ?_
          refine gi_lald (q := 105) C (dm_Mo_ofSites 60 rfl) rfl rfl (mo_a41 H1) (inN (show rdQ md + off + j < 160 by omega) (by decide)) ?_
          rw [nI_clamp (show rdQ md + off + j < 2 ^ 31 by omega), s41]
          refine gi_aload_n (q := 106) (i := 0) C (dm_Mo_ofSites 61 rfl) rfl rfl rfl ?_
          refine gi_get (q := 109) C (dm_Mo_ofSites 62 rfl) rfl fl_Mo_92 Ha1 (mo_g42 Hf1) ?_
          refine gi_iload (q := 111) C (dm_Mo_ofSites 63 rfl) rfl rfl ?_
          refine gi_lald (q := 112) C (dm_Mo_ofSites 64 rfl) rfl rfl (mo_a42 H1) (inN (show rdQ md + off + j < 160 by omega) (by decide)) ?_
          rw [nI_clamp (show rdQ md + off + j < 2 ^ 31 by omega), s42]
          refine gi_callv 3 (q := 115) C (dm_Mo_ofSites 65 rfl) rfl my_Mo_set lk_Mo_262 im_Mo_set rfl (c_Mo_set z.1 z.2.1 z.2.2 (by have := okz.1; omega) (by have := okz.2.1; have := okz.2.2.1; omega) (by have := okz.1; have := okz.2.1; omega) (by have := okz.2.2.1; omega) H1) Ha1 rfl rfl ⟨(Nat.le_of_ble_eq_true rfl), (Nat.le_of_ble_eq_true rfl)⟩ (Nat.le_of_ble_eq_true rfl) ⟨(Nat.le_of_ble_eq_true rfl), (Nat.le_of_ble_eq_true rfl)⟩ (fun r112 n112 h112 e112 => ?_)
          obtain ⟨rfl, rfl, S2, J2, H2, o2, ⟨q2, sb⟩, rb⟩ := e112
          subst sb
          rw [mk_self okz] at rb
          have rb := rsJ rb
          obtain ⟨fs2, Ha2, Hf2⟩ := id H2.1
          refine gi_iconst (q := 116) (v := 1) C (dm_Mo_ofSites 66 rfl) rfl (by decide) ?_
          refine gi_istore_n (q := 117) (i := 3) C (dm_Mo_ofSites 67 rfl) rfl rfl (Nat.le_of_ble_eq_true rfl) ?_
          refine gi_aload_n (q := 118) (i := 0) C (dm_Mo_ofSites 68 rfl) rfl rfl rfl ?_
          refine gi_get (q := 121) C (dm_Mo_ofSites 69 rfl) rfl fl_Mo_242 Ha2 (mo_g22 Hf2) ?_
          rw [rb.1]
          refine gi_lstore (q := 123) C (dm_Mo_ofSites 70 rfl) rfl (Nat.le_of_ble_eq_true rfl) ?_
          refine gi_aload_n (q := 124) (i := 0) C (dm_Mo_ofSites 71 rfl) rfl rfl rfl ?_
          refine gi_get (q := 127) C (dm_Mo_ofSites 72 rfl) rfl fl_Mo_246 Ha2 (mo_g23 Hf2) ?_
          rw [rb.2.1]
          refine gi_lstore (q := 129) C (dm_Mo_ofSites 73 rfl) rfl (Nat.le_of_ble_eq_true rfl) ?_
          refine gi_aload_n (q := 130) (i := 0) C (dm_Mo_ofSites 74 rfl) rfl rfl rfl ?_
          refine gi_get (q := 133) C (dm_Mo_ofSites 75 rfl) rfl fl_Mo_249 Ha2 (mo_g24 Hf2) ?_
          rw [rb.2.2]
          refine gi_lstore (q := 135) C (dm_Mo_ofSites 76 rfl) rfl (Nat.le_of_ble_eq_true rfl) ?_
          have gs : gathF (rdF md Ff Z) ba b (j + 1) = some z := by
            show (if bitA b j = true ∧ (rdF md Ff Z (ba + j)).told = true then _ else _) = _
            rw [if_pos ⟨bj, tj⟩, eg, ezz]
          refine gi_iinc (q := 138) (v := 1) C (dm_Mo_ofSites 77 rfl) rfl rfl (by decide) (Nat.le_of_ble_eq_true rfl) ?_
          refine gi_goto (tgt := 14) C (dm_Mo_ofSites 78 rfl) (by decide) ?_
          refine gi_close (ihj (j + 1) _ ⟨jl, J2, H2, o1.tr o2, q1.tr q2⟩ (by omega)) (List.forall_mem_cons.mpr ⟨(by first | rfl | (simp [gi_look, nI_1]; done) | (rw [gs]; rfl)), List.forall_mem_cons.mpr ⟨(by first | rfl | (simp [gi_look, nI_1]; done) | (rw [gs]; rfl)), List.forall_mem_cons.mpr ⟨(by first | rfl | (simp [gi_look, nI_1]; done) | (rw [gs]; rfl)), List.forall_mem_cons.mpr ⟨(by first | rfl | (simp [gi_look, nI_1]; done) | (rw [gs]; rfl)), List.forall_mem_cons.mpr ⟨(by first | rfl | (simp [gi_look, nI_1]; done) | (rw [gs]; rfl)), List.forall_mem_cons.mpr ⟨(by first | rfl | (simp [gi_look, nI_1]; done) | (rw [gs]; rfl)), List.forall_mem_cons.mpr ⟨(by first | rfl | (simp [gi_look, nI_1]; done) | (rw [gs]; rfl)), List.forall_mem_cons.mpr ⟨(by first | rfl | (simp [gi_look, nI_1]; done) | (rw [gs]; rfl)), fun _ h => absurd h List.not_mem_nil⟩⟩⟩⟩⟩⟩⟩⟩) rfl rfl rfl
        · obtain ⟨u, eg⟩ : ∃ u, gathF (rdF md Ff Z) ba b j = some u := Option.isSome_iff_exists.mp (bI_t c53)
          have oku := gath_ok hsp j (by omega) u eg
          rw [eg]
          refine gi_aload_n (q := 57) (i := 0) C (dm_Mo_ofSites 34 rfl) rfl rfl rfl ?_
          refine gi_lload (q := 59) C (dm_Mo_ofSites 35 rfl) rfl rfl ?_
          refine gi_lload (q := 61) C (dm_Mo_ofSites 36 rfl) rfl rfl ?_
          refine gi_lload (q := 63) C (dm_Mo_ofSites 37 rfl) rfl rfl ?_
          refine gi_aload_n (q := 64) (i := 0) C (dm_Mo_ofSites 38 rfl) rfl rfl rfl ?_
          refine gi_get (q := 67) C (dm_Mo_ofSites 39 rfl) rfl fl_Mo_86 Ha1 (mo_g40 Hf1) ?_
          refine gi_iload (q := 69) C (dm_Mo_ofSites 40 rfl) rfl rfl ?_
          refine gi_lald (q := 70) C (dm_Mo_ofSites 41 rfl) rfl rfl (mo_a40 H1) (inN (show rdQ md + off + j < 160 by omega) (by decide)) ?_
          rw [nI_clamp (show rdQ md + off + j < 2 ^ 31 by omega), s40]
          refine gi_aload_n (q := 71) (i := 0) C (dm_Mo_ofSites 42 rfl) rfl rfl rfl ?_
          refine gi_get (q := 74) C (dm_Mo_ofSites 43 rfl) rfl fl_Mo_89 Ha1 (mo_g41 Hf1) ?_
          refine gi_iload (q := 76) C (dm_Mo_ofSites 44 rfl) rfl rfl ?_
          refine gi_lald (q := 77) C (dm_Mo_ofSites 45 rfl) rfl rfl (mo_a41 H1) (inN (show rdQ md + off + j < 160 by omega) (by decide)) ?_
          rw [nI_clamp (show rdQ md + off + j < 2 ^ 31 by omega), s41]
          refine gi_aload_n (q := 78) (i := 0) C (dm_Mo_ofSites 46 rfl) rfl rfl rfl ?_
          refine gi_get (q := 81) C (dm_Mo_ofSites 47 rfl) rfl fl_Mo_92 Ha1 (mo_g42 Hf1) ?_
          refine gi_iload (q := 83) C (dm_Mo_ofSites 48 rfl) rfl rfl ?_
          refine gi_lald (q := 84) C (dm_Mo_ofSites 49 rfl) rfl rfl (mo_a42 H1) (inN (show rdQ md + off + j < 160 by omega) (by decide)) ?_
          rw [nI_clamp (show rdQ md + off + j < 2 ^ 31 by omega), s42]
          refine gi_callv 6 (q := 87) C (dm_Mo_ofSites 50 rfl) rfl my_Mo_both lk_Mo_411 im_Mo_both rfl (c_Mo_both u z oku okz H1) Ha1 rfl rfl ⟨(Nat.le_of_ble_eq_true rfl), (Nat.le_of_ble_eq_true rfl)⟩ (Nat.le_of_ble_eq_true rfl) ⟨(Nat.le_of_ble_eq_true rfl), (Nat.le_of_ble_eq_true rfl)⟩ (fun r84 n84 h84 e84 => ?_)
          obtain ⟨rfl, rfl, S2, J2, H2, o2, ⟨q2, sb⟩, rb⟩ := e84
          subst sb
          have rb := rsJ rb
          obtain ⟨fs2, Ha2, Hf2⟩ := id H2.1
          refine gi_goto (tgt := 115) C (dm_Mo_ofSites 51 rfl) (by decide) ?_
          refine gi_iconst (q := 116) (v := 1) C (dm_Mo_ofSites 66 rfl) rfl (by decide) ?_
          refine gi_istore_n (q := 117) (i := 3) C (dm_Mo_ofSites 67 rfl) rfl rfl (Nat.le_of_ble_eq_true rfl) ?_
          refine gi_aload_n (q := 118) (i := 0) C (dm_Mo_ofSites 68 rfl) rfl rfl rfl ?_
          refine gi_get (q := 121) C (dm_Mo_ofSites 69 rfl) rfl fl_Mo_242 Ha2 (mo_g22 Hf2) ?_
          rw [rb.1]
          refine gi_lstore (q := 123) C (dm_Mo_ofSites 70 rfl) rfl (Nat.le_of_ble_eq_true rfl) ?_
          refine gi_aload_n (q := 124) (i := 0) C (dm_Mo_ofSites 71 rfl) rfl rfl rfl ?_
          refine gi_get (q := 127) C (dm_Mo_ofSites 72 rfl) rfl fl_Mo_246 Ha2 (mo_g23 Hf2) ?_
          rw [rb.2.1]
          refine gi_lstore (q := 129) C (dm_Mo_ofSites 73 rfl) rfl (Nat.le_of_ble_eq_true rfl) ?_
          refine gi_aload_n (q := 130) (i := 0) C (dm_Mo_ofSites 74 rfl) rfl rfl rfl ?_
          refine gi_get (q := 133) C (dm_Mo_ofSites 75 rfl) rfl fl_Mo_249 Ha2 (mo_g24 Hf2) ?_
          rw [rb.2.2]
          refine gi_lstore (q := 135) C (dm_Mo_ofSites 76 rfl) rfl (Nat.le_of_ble_eq_true rfl) ?_
          have gs : gathF (rdF md Ff Z) ba b (j + 1) = some (bothS u z) := by
            show (if bitA b j = true ∧ (rdF md Ff Z (ba + j)).told = true then _ else _) = _
            rw [if_pos ⟨bj, tj⟩, eg, ezz]
          refine gi_iinc (q := 138) (v := 1) C (dm_Mo_ofSites 77 rfl) rfl rfl (by decide) (Nat.le_of_ble_eq_true rfl) ?_
          refine gi_goto (tgt := 14) C (dm_Mo_ofSites 78 rfl) (by decide) ?_
          refine gi_close (ihj (j + 1) _ ⟨jl, J2, H2, o1.tr o2, q1.tr q2⟩ (by omega)) (List.forall_mem_cons.mpr ⟨(by first | rfl | (simp [gi_look, nI_1]; done) | (rw [gs]; rfl)), List.forall_mem_cons.mpr ⟨(by first | rfl | (simp [gi_look, nI_1]; done) | (rw [gs]; rfl)), List.forall_mem_cons.mpr ⟨(by first | rfl | (simp [gi_look, nI_1]; done) | (rw [gs]; rfl)), List.forall_mem_cons.mpr ⟨(by first | rfl | (simp [gi_look, nI_1]; done) | (rw [gs]; rfl)), List.forall_mem_cons.mpr ⟨(by first | rfl | (simp [gi_look, nI_1]; done) | (rw [gs]; rfl)), List.forall_mem_cons.mpr ⟨(by first | rfl | (simp [gi_look, nI_1]; done) | (rw [gs]; rfl)), List.forall_mem_cons.mpr ⟨(by first | rfl | (simp [gi_look, nI_1]; done) | (rw [gs]; rfl)), List.forall_mem_cons.mpr ⟨(by first | rfl | (simp [gi_look, nI_1]; done) | (rw [gs]; rfl)), fun _ h => absurd h List.not_mem_nil⟩⟩⟩⟩⟩⟩⟩⟩) rfl rfl rfl
end RC7
