section PURE17
variable {k : Nat} {P : Pm} {sh : Nat → Option Sh} {sn : Nat → Nat} {wd : Nat → Bool}
def nulR : Rw := mkR false 0 0 (one (.inl (0, 0, 0)))
/-- what is told at first -/
def bgF : Fa := fun t => if t = 480 then mkR true 0 1 (one (.inl (0, 2147483647, 1))) else if t = 505 then mkR true 0 1 (one (.inl allS)) else if 530 ≤ t ∧ t < 534 then mkR true 0 1 (one (.inl (0, 0, 0))) else nulR
theorem bg_told {t : Nat} (h : (bgF t).told = true) : 480 ≤ t ∧ t < 534 ∧ (bgF t).n = 1 ∧ ∃ x, okS x ∧ (bgF t).f = one (.inl x) := by
  unfold bgF at h ⊢
  split
  · rename_i q
    exact ⟨by omega, by omega, rfl, _, ⟨by decide, by decide, by decide, by decide, by decide, by decide⟩, rfl⟩
  · split
    · exact ⟨by omega, by omega, rfl, _, okS_all, rfl⟩
    · split
      · exact ⟨by omega, by omega, rfl, _, okS0, rfl⟩
      · rename_i q1 q2 q3
        rw [if_neg q1, if_neg q2, if_neg q3] at h
        cases h
theorem bg_ok : okF (tyF P sh) bgF := fun t ht => by
  have key : (bgF t).told = true → okG (tyF P sh t) (bgF t).n (bgF t).f ∧ (tyF P sh t).2.1 ≤ (tyF P sh t).1 := fun h => by
    obtain ⟨h1, h2, h3, x, h4, h5⟩ := bg_told h
    have e : tyF P sh t = (1, 0, fun _ => false) := by unfold tyF; rw [if_neg (by omega), if_pos h2]
    rw [e, h3, h5]
    exact ⟨⟨rfl, fun i _ => ⟨h4, rfl, Or.inl rfl⟩⟩, by decide⟩
  exact ⟨fun h => (key h).1, fun h => (key h).2⟩
theorem leR_trans {T : Ty} {a b c : Rw} (ha : okR T a) (hb : okR T b) (h1 : leR a b) (h2 : leR b c) : leR a c := fun ht => by
  obtain ⟨p1, p2, p3⟩ := h1 ht
  obtain ⟨q1, q2, q3⟩ := h2 p1
  refine ⟨q1, by omega, fun i hi => ?_⟩
  have x := p3 i hi
  have y := q3 i (by omega)
  have oa := (ha ht).2 i (by have := (ha ht).1; omega)
  have ob := (hb p1).2 i (by have := (hb p1).1; omega)
  exact ⟨covA_trans ob.1 oa.1 y.1 x.1, covM_trans y.2 x.2⟩
theorem leF_refl (F : Fa) : leF F F := fun t _ ht => ⟨ht, rfl, fun i _ => ⟨covA_refl _, by simp [covM]⟩⟩
theorem leF_trans {ty : Nat → Ty} {F G H : Fa} (hF : okF ty F) (hG : okF ty G) (h1 : leF F G) (h2 : leF G H) : leF F H := fun t ht => leR_trans (hF t ht).1 (hG t ht).1 (h1 t ht) (h2 t ht)
theorem come_le {ty : Nat → Ty} {gr : Nat → Bool} {X : Fa × Bool} {c : Con} (hX : okF ty X.1) (hc : okC ty c) : leF X.1 (come gr X c).1 := fun t ht => by
  by_cases e : t = c.1
  · subst e
    rw [come_at]
    intro h
    refine ⟨joinR_told, ?_⟩
    unfold joinR
    rw [if_neg (by simp [h])]
    split
    · exact ⟨rfl, fun i _ => ⟨covA_refl _, by simp [covM]⟩⟩
    · refine ⟨rfl, fun i hi => ?_⟩
      have hr := (hX _ ht).1 h
      have a := hr.2 i (by have := hr.1; omega)
      have b := hc.2.1.2 i (by have := hr.1; omega)
      exact (joinSl_cov a.1 b.1 (by rw [a.2.1, b.2.1])).1
  · rw [come_ne e]
    exact leF_refl X.1 t ht
theorem effP_mono {F G : Fa} {q : Nat} (hF : okF (tyF P sh) F) (hq : q < 480) (hl : leF F G) (h : effP P sh F q) : effP P sh G q := by
  obtain ⟨h1, ⟨x, hx, hx1⟩, h3, h4⟩ := h
  obtain ⟨a1, a2, a3⟩ := hl q (by omega) h3
  refine ⟨h1, ⟨x, hx, hx1⟩, a1, ?_⟩
  rw [a2]
  have o := (hF q (by omega)).1 h3
  have : 1 ≤ (F q).n := by
    rw [o.1]
    unfold tyF
    rw [if_pos hq, hx]
    show 1 ≤ pN P 2 (q / 60) + x.1
    omega
  exact cov_hi (a3 _ (by omega)).1 h4
theorem eff_mono {F G : Fa} {s : Nat} (hF : okF (tyF P sh) F) (hl : leF F G) (h : eff P sh sn F s) : eff P sh sn G s := by
  rcases h with h | ⟨q, q1, q2, q3⟩
  · exact Or.inl h
  · exact Or.inr ⟨q, q1, q2, effP_mono hF q1 hl q3⟩
theorem bsV_mono {S S' : Nat → Prop} {v : Av} (h : ∀ s, S s → S' s) (hv : bsV S v) : bsV S' v := fun s h1 h2 => h s (hv s h1 h2)
def Hist (P : Pm) (sh : Nat → Option Sh) (sn : Nat → Nat) (F : Fa) : Prop :=
  (okF (tyF P sh) F)
  ∧ (∀ p, p < 480 → (F p).told = true → eM (F p).n (F p).f)
  ∧ (∀ q x', q < 480 → sh q = some x' → 1 ≤ x'.1 → (F q).told = true → 0 ≤ hiA ((F q).f ((F q).n - 1)).1 → ∃ H p c, okF (tyF P sh) H ∧ leF H F ∧ p < 480 ∧ (H p).told = true ∧ eM (H p).n (H p).f ∧ c ∈ outs P sn H p ∧ c.1 = q ∧ 0 ≤ hiA (c.2.2 (c.2.1 - 1)).1)
  ∧ (∀ t, t < 542 → (F t).told = true → bG (eff P sh sn F) (F t).n (F t).f)
theorem Hist.ok {P : Pm} {sh : Nat → Option Sh} {sn : Nat → Nat} {F : Fa} (S : Hist P sh sn F) : okF (tyF P sh) F := S.1
theorem Hist.em {P : Pm} {sh : Nat → Option Sh} {sn : Nat → Nat} {F : Fa} (S : Hist P sh sn F) : ∀ p, p < 480 → (F p).told = true → eM (F p).n (F p).f := S.2.1
theorem Hist.hi {P : Pm} {sh : Nat → Option Sh} {sn : Nat → Nat} {F : Fa} (S : Hist P sh sn F) : ∀ q x', q < 480 → sh q = some x' → 1 ≤ x'.1 → (F q).told = true → 0 ≤ hiA ((F q).f ((F q).n - 1)).1 → ∃ H p c, okF (tyF P sh) H ∧ leF H F ∧ p < 480 ∧ (H p).told = true ∧ eM (H p).n (H p).f ∧ c ∈ outs P sn H p ∧ c.1 = q ∧ 0 ≤ hiA (c.2.2 (c.2.1 - 1)).1 := S.2.2.1
theorem Hist.sb {P : Pm} {sh : Nat → Option Sh} {sn : Nat → Nat} {F : Fa} (S : Hist P sh sn F) : ∀ t, t < 542 → (F t).told = true → bG (eff P sh sn F) (F t).n (F t).f := S.2.2.2
theorem join_hi {far : Bool} {a b : Sl} (ha : okAv a.1) (hb : okAv b.1) (h : 0 ≤ hiA (joinSl far a b).1) : 0 ≤ hiA a.1 ∨ 0 ≤ hiA b.1 := by
  unfold joinSl at h
  obtain ⟨av, am⟩ := a
  obtain ⟨bv, bm⟩ := b
  cases av with
  | inr _ => exact Or.inl (Int.le_refl 0)
  | inl x =>
    cases bv with
    | inr _ => exact Or.inr (Int.le_refl 0)
    | inl y =>
      have key : 0 ≤ (bothS x y).2.1 := by
        cases far with
        | false => exact h
        | true =>
          have h' : 0 ≤ (movS (bothS x y) x.1 x.2.1).2.1 := h
          rcases Int.lt_or_le (bothS x y).2.1 0 with z | z
          · have := mov_neg (both_ok ha hb) x.1 x.2.1 z
            omega
          · exact z
      simp only [bothS] at key
      show 0 ≤ x.2.1 ∨ 0 ≤ y.2.1
      omega
/-- one that comes, out of facts that are part of these -/
theorem come_hist {gr : Nat → Bool} {X : Fa × Bool} {c : Con} (hX : Hist P sh sn X.1) (hc : okC (tyF P sh) c) (he : c.1 < 480 → eM c.2.1 c.2.2) (hb : bG (eff P sh sn X.1) c.2.1 c.2.2) (hh : ∀ x', sh c.1 = some x' → 1 ≤ x'.1 → 0 ≤ hiA (c.2.2 (c.2.1 - 1)).1 → ∃ H p, okF (tyF P sh) H ∧ leF H X.1 ∧ p < 480 ∧ (H p).told = true ∧ eM (H p).n (H p).f ∧ c ∈ outs P sn H p) : Hist P sh sn (come gr X c).1 := by
  have ok' := come_ok (gr := gr) hX.ok hc
  have le' := come_le (gr := gr) hX.ok hc
  have ef : ∀ s, eff P sh sn X.1 s → eff P sh sn (come gr X c).1 s := fun s h => eff_mono hX.ok le' h
  refine ⟨ok', fun p hp ht => ?_, fun q x' hq hs hx ht htop => ?_, fun t ht htl => ?_⟩
  · by_cases e : p = c.1
    · subst e
      rw [come_at]
      exact join_eM (hX.ok _ (by omega)).1 hc.2.1 (fun h => hX.em _ hp h) (he hp)
    · rw [come_ne e] at ht ⊢
      exact hX.em p hp ht
  · have old : (X.1 q).told = true → 0 ≤ hiA ((X.1 q).f ((X.1 q).n - 1)).1 → ∃ H p c', okF (tyF P sh) H ∧ leF H (come gr X c).1 ∧ p < 480 ∧ (H p).told = true ∧ eM (H p).n (H p).f ∧ c' ∈ outs P sn H p ∧ c'.1 = q ∧ 0 ≤ hiA (c'.2.2 (c'.2.1 - 1)).1 := fun h1 h2 => by
      obtain ⟨H, p, c', a1, a2, a3, a4, a5, a6, a7, a8⟩ := hX.hi q x' hq hs hx h1 h2
      exact ⟨H, p, c', a1, leF_trans a1 hX.ok a2 le', a3, a4, a5, a6, a7, a8⟩
    by_cases e : q = c.1
    · subst e
      have new : 0 ≤ hiA (c.2.2 (c.2.1 - 1)).1 → ∃ H p c', okF (tyF P sh) H ∧ leF H (come gr X c).1 ∧ p < 480 ∧ (H p).told = true ∧ eM (H p).n (H p).f ∧ c' ∈ outs P sn H p ∧ c'.1 = c.1 ∧ 0 ≤ hiA (c'.2.2 (c'.2.1 - 1)).1 := fun h2 => by
        obtain ⟨H, p, a1, a2, a3, a4, a5, a6⟩ := hh x' hs hx h2
        exact ⟨H, p, c, a1, leF_trans a1 hX.ok a2 le', a3, a4, a5, a6, rfl, h2⟩
      rw [come_at] at htop
      by_cases ht0 : (X.1 c.1).told = true
      · have hr := (hX.ok c.1 hc.1).1 ht0
        unfold joinR at htop
        rw [if_neg (by simp [ht0])] at htop
        split at htop
        · exact old ht0 htop
        · have en : (X.1 c.1).n = c.2.1 := by rw [hr.1, hc.2.1.1]
          have n1 : 1 ≤ (X.1 c.1).n := by
            rw [hr.1]
            unfold tyF
            rw [if_pos hq, hs]
            show 1 ≤ pN P 2 (c.1 / 60) + x'.1
            omega
          have i1 : (X.1 c.1).n - 1 < (tyF P sh c.1).1 := by have := hr.1; omega
          rcases join_hi (hr.2 _ i1).1 (hc.2.1.2 _ i1).1 htop with z | z
          · exact old ht0 z
          · rw [en] at z
            exact new z
      · unfold joinR at htop
        rw [if_pos (by simpa using ht0)] at htop
        exact new htop
    · rw [come_ne e] at ht htop
      exact old ht htop
  · by_cases e : t = c.1
    · subst e
      rw [come_at]
      exact join_bG (hX.ok _ ht).1 hc.2.1 (fun h i hi => bsV_mono ef (hX.sb _ ht h i hi)) (fun i hi => bsV_mono ef (hb i hi))
    · rw [come_ne e] at htl ⊢
      exact fun i hi => bsV_mono ef (hX.sb t ht htl i hi)
theorem comes_hist (B : Built k P sh sn wd) {gr : Nat → Bool} {H : Fa} {p : Nat} (hH : Hist P sh sn H) (hp : p < 480) (ht : (H p).told = true) : ∀ (cs : List Con) (X : Fa × Bool), (∀ c, c ∈ cs → c ∈ outs P sn H p) → Hist P sh sn X.1 → leF H X.1 → Hist P sh sn (cs.foldl (come gr) X).1
  | [], X, _, hX, _ => hX
  | c :: cs, X, hc, hX, hl => by
    have h0 := hc c (by simp)
    have okc := (outs_all B hp hH.ok ht c h0).1
    have hb : bG (eff P sh sn X.1) c.2.1 c.2.2 := by
      refine outs_bits B hp hH.ok ht (fun t h1 h2 i hi => bsV_mono (fun s h => eff_mono hH.ok hl h) (hH.sb t h1 h2 i hi)) (fun h => ?_) c h0
      exact Or.inr ⟨p, hp, rfl, effP_mono hH.ok hp hl h⟩
    have hn := come_hist (gr := gr) hX okc (fun h => outs_eM B hp hH.ok ht (hH.em p hp ht) c h0 h) hb (fun x' _ _ _ => ⟨H, p, hH.ok, hl, hp, ht, hH.em p hp ht, h0⟩)
    exact comes_hist B hH hp ht cs (come gr X c) (fun d hd => hc d (by simp [hd])) hn (leF_trans hH.ok hX.ok hl (come_le hX.ok okc))
theorem roots_hist (B : Built k P sh sn wd) {gr : Nat → Bool} {rs : Nat → Bool} : ∀ (cs : List Con) (X : Fa × Bool), (∀ c, c ∈ cs → c ∈ rootsF P k rs) → Hist P sh sn X.1 → Hist P sh sn (cs.foldl (come gr) X).1
  | [], X, _, hX => hX
  | c :: cs, X, hc, hX => by
    have h0 := hc c (by simp)
    have okc := (sys_of B rs).rt c h0
    obtain ⟨m, hm, rfl⟩ := List.mem_map.mp h0
    have hm := List.mem_range.mp (List.mem_filter.mp hm).1
    have hn : Hist P sh sn (come gr X (60 * m, pN P 2 m, rtF P m)).1 := by
      refine come_hist (gr := gr) hX okc (fun _ => eM_none (fun i => ?_)) (fun i hi => ?_) (fun x' h1 h2 _ => ?_)
      · show (rtF P m i).2 = -1
        unfold rtF
        split <;> rfl
      · show bsV _ (rtF P m i).1
        unfold rtF
        split
        · simp only
          split
          · intro s hs hbit
            left
            have key : ∀ s, s < 25 → bitA 1 s = true → s = 0 := by decide +kernel
            exact key s hs hbit
          · exact bsV_n
        · exact bsV_s
      · have f1 := (B.first m hm).2
        rw [show ((60 * m, pN P 2 m, rtF P m) : Con).1 = 60 * m from rfl, f1] at h1
        cases h1
        exact absurd h2 (by decide)
    exact roots_hist B cs _ (fun d hd => hc d (by simp [hd])) hn
theorem walk_hist (B : Built k P sh sn wd) {gr : Nat → Bool} {X : Fa × Bool} (hX : Hist P sh sn X.1) : ∀ j, j ≤ 480 → Hist P sh sn (walk gr (outs P sn) X j).1
  | 0, _ => hX
  | j + 1, h => by
    have ih := walk_hist (gr := gr) B hX j (by omega)
    rw [walk_succ]
    unfold stp
    split
    · rename_i ht
      exact comes_hist B ih (by omega) ht _ _ (fun _ h => h) ih (leF_refl _)
    · exact ih
theorem pas_hist (B : Built k P sh sn wd) {gr : Nat → Bool} {rs : Nat → Bool} {X : Fa × Bool} (hX : Hist P sh sn X.1) : Hist P sh sn (pas gr (outs P sn) (rootsF P k rs) X).1 := walk_hist B (roots_hist B _ X (fun _ h => h) hX) 480 (by omega)
theorem bg_hist : Hist P sh sn bgF := by
  refine ⟨bg_ok, fun p hp ht => ?_, fun q x' hq hs hx ht htop => ?_, fun t ht h i hi => ?_⟩
  · have := bg_told ht
    omega
  · have := bg_told ht
    omega
  · obtain ⟨-, -, -, x, -, h5⟩ := bg_told h
    rw [h5]
    exact bsV_s
theorem it_hist (B : Built k P sh sn wd) {gr : Nat → Bool} {rs : Nat → Bool} : ∀ j, Hist P sh sn (itF gr (outs P sn) (rootsF P k rs) bgF j)
  | 0 => bg_hist
  | j + 1 => pas_hist B (X := (itF gr (outs P sn) (rootsF P k rs) bgF j, false)) (it_hist B j)
/-- all that comes of some facts -/
def ctr (P : Pm) (sn : Nat → Nat) (rts : List Con) (F : Fa) : List Con := rts ++ (List.range 480).flatMap (fun p => if (F p).told = true then outs P sn F p else [])
def anewF (P : Pm) (sn : Nat → Nat) (rts : List Con) (F : Fa) : Fa := ((ctr P sn rts F).foldl (come (fun _ => false)) (bgF, false)).1
theorem mem_ctr {rts : List Con} {F : Fa} {c : Con} : c ∈ ctr P sn rts F ↔ c ∈ rts ∨ ∃ p, p < 480 ∧ (F p).told = true ∧ c ∈ outs P sn F p := by
  unfold ctr
  rw [List.mem_append, List.mem_flatMap]
  refine or_congr Iff.rfl ⟨?_, ?_⟩
  · rintro ⟨p, hp, hc⟩
    split at hc
    · exact ⟨p, List.mem_range.mp hp, by assumption, hc⟩
    · cases hc
  · rintro ⟨p, hp, ht, hc⟩
    exact ⟨p, List.mem_range.mpr hp, by rw [if_pos ht]; exact hc⟩
theorem ctr_ok (B : Built k P sh sn wd) {rs : Nat → Bool} {F : Fa} (hF : okF (tyF P sh) F) : ∀ c, c ∈ ctr P sn (rootsF P k rs) F → okC (tyF P sh) c := fun c hc => by
  rcases mem_ctr.mp hc with h | ⟨p, hp, ht, h⟩
  · exact (sys_of B rs).rt c h
  · exact (outs_all B hp hF ht c h).1
theorem anew_ok (B : Built k P sh sn wd) {rs : Nat → Bool} {F : Fa} (hF : okF (tyF P sh) F) : okF (tyF P sh) (anewF P sn (rootsF P k rs) F) ∧ ∀ c, c ∈ ctr P sn (rootsF P k rs) F → newR (anewF P sn (rootsF P k rs) F c.1) c.2.1 c.2.2 = false := by
  obtain ⟨a1, -, -, a4, -⟩ := comes_all (ty := tyF P sh) (gr := fun _ => false) (X := (bgF, false)) (cs := ctr P sn (rootsF P k rs) F) bg_ok (ctr_ok B hF)
  exact ⟨a1, a4⟩
theorem comes_bG {S : Nat → Prop} {gr : Nat → Bool} : ∀ (cs : List Con) (X : Fa × Bool), okF (tyF P sh) X.1 → (∀ c, c ∈ cs → okC (tyF P sh) c ∧ bG S c.2.1 c.2.2) → (∀ t, t < 542 → (X.1 t).told = true → bG S (X.1 t).n (X.1 t).f) → ∀ t, t < 542 → ((cs.foldl (come gr) X).1 t).told = true → bG S ((cs.foldl (come gr) X).1 t).n ((cs.foldl (come gr) X).1 t).f
  | [], _, _, _, h => h
  | c :: cs, X, hX, hc, h => by
    have h0 := hc c (by simp)
    refine comes_bG cs (come gr X c) (come_ok hX h0.1) (fun d hd => hc d (by simp [hd])) (fun t ht htl => ?_)
    by_cases e : t = c.1
    · subst e
      rw [come_at]
      exact join_bG (hX _ ht).1 h0.1.2.1 (h c.1 ht) h0.2
    · rw [come_ne e] at htl ⊢
      exact h t ht htl
theorem anew_bG (B : Built k P sh sn wd) {rs : Nat → Bool} {F : Fa} {S : Nat → Prop} (hF : okF (tyF P sh) F) (h0 : S 0) (hS : ∀ s, eff P sh sn F s → S s) (hb : ∀ t, t < 542 → (F t).told = true → bG S (F t).n (F t).f) : ∀ t, t < 542 → (anewF P sn (rootsF P k rs) F t).told = true → bG S (anewF P sn (rootsF P k rs) F t).n (anewF P sn (rootsF P k rs) F t).f := by
  refine comes_bG _ _ bg_ok (fun c hc => ⟨ctr_ok B hF c hc, ?_⟩) (fun t ht h i hi => ?_)
  · rcases mem_ctr.mp hc with h | ⟨p, hp, ht, h⟩
    · obtain ⟨m, hm, rfl⟩ := List.mem_map.mp h
      intro i hi
      show bsV S (rtF P m i).1
      unfold rtF
      split
      · simp only
        split
        · intro s hs hbit
          have key : ∀ s, s < 25 → bitA 1 s = true → s = 0 := by decide +kernel
          rw [key s hs hbit]
          exact h0
        · exact bsV_n
      · exact bsV_s
    · exact outs_bits B hp hF ht hb (fun h => hS _ (Or.inr ⟨p, hp, rfl, h⟩)) c h
  · obtain ⟨-, -, -, x, -, h5⟩ := bg_told h
    rw [h5]
    exact bsV_s
/-- a site that is named at the end has a length that is told -/
theorem cert_len (B : Built k P sh sn wd) {rs : Nat → Bool} {F : Fa} (hF : Hist P sh sn F) : ∀ t, t < 542 → (anewF P sn (rootsF P k rs) (anewF P sn (rootsF P k rs) F) t).told = true → bG (fun s => (anewF P sn (rootsF P k rs) (anewF P sn (rootsF P k rs) F) (480 + s)).told = true) (anewF P sn (rootsF P k rs) (anewF P sn (rootsF P k rs) F) t).n (anewF P sn (rootsF P k rs) (anewF P sn (rootsF P k rs) F) t).f := by
  have A1 := anew_ok (rs := rs) B hF.ok
  have A2 := anew_ok (rs := rs) B A1.1
  have tl0 : (anewF P sn (rootsF P k rs) (anewF P sn (rootsF P k rs) F) 480).told = true := by
    have := comes_all (ty := tyF P sh) (gr := fun _ => false) (X := (bgF, false)) (cs := ctr P sn (rootsF P k rs) (anewF P sn (rootsF P k rs) F)) bg_ok (ctr_ok B A1.1)
    have n0 := this.2.2.2.2.1 480 1 (one (.inl (0, 2147483647, 1))) (by omega) (by
      have e : tyF P sh 480 = (1, 0, fun _ => false) := by unfold tyF; rw [if_neg (by omega), if_pos (by omega)]
      rw [e]
      exact ⟨rfl, fun i _ => ⟨⟨by decide, by decide, by decide, by decide, by decide, by decide⟩, rfl, Or.inl rfl⟩⟩) (by
      rw [newR_iff]
      refine ⟨rfl, ?_⟩
      rw [covR_iff]
      exact ⟨rfl, fun i _ => ⟨covA_refl _, rfl⟩⟩)
    exact (newR_iff.mp n0).1
  have E1 : ∀ s, eff P sh sn F s → eff P sh sn (anewF P sn (rootsF P k rs) F) s := by
    rintro s (h | ⟨q, q1, q2, q3, ⟨x, hx, hx1⟩, q4, q5⟩)
    · exact Or.inl h
    · obtain ⟨H, p, c, a1, a2, a3, a4, a5, a6, a7, a8⟩ := hF.hi q x q1 hx hx1 q4 q5
      obtain ⟨c', b1, b2, b3⟩ := outs_mono B a3 a1 hF.ok a2 a4 a5 hx hx1 c a6 a7 a8
      have tp := (a2 p (by omega) a4).1
      have n0 := A1.2 c' (mem_ctr.mpr (Or.inr ⟨p, a3, tp, b1⟩))
      rw [newR_iff] at n0
      have cv := covR_iff.mp n0.2
      have oc := (outs_all B a3 a1 a4 c a6).1
      have oc' := (outs_all B a3 hF.ok tp c' b1).1
      rw [b2] at n0 cv
      refine Or.inr ⟨q, q1, q2, q3, ⟨x, hx, hx1⟩, n0.1, ?_⟩
      have nn : c.2.1 = c'.2.1 := by rw [oc.2.1.1, oc'.2.1.1, a7, b2]
      have n1 : 1 ≤ c'.2.1 := by
        rw [oc'.2.1.1, b2]
        unfold tyF
        rw [if_pos q1, hx]
        show 1 ≤ pN P 2 (q / 60) + x.1
        omega
      rw [← cv.1]
      rw [nn] at b3
      exact cov_hi (cv.2 _ (by omega)).1 b3
  have S1 := anew_bG (rs := rs) (S := eff P sh sn (anewF P sn (rootsF P k rs) F)) B hF.ok (Or.inl rfl) E1 (fun t h1 h2 i hi => bsV_mono E1 (hF.sb t h1 h2 i hi))
  have E2 : ∀ s, eff P sh sn (anewF P sn (rootsF P k rs) F) s → (anewF P sn (rootsF P k rs) (anewF P sn (rootsF P k rs) F) (480 + s)).told = true := by
    rintro s (rfl | ⟨q, q1, q2, q3, ⟨x, hx, hx1⟩, q4, q5⟩)
    · exact tl0
    · obtain ⟨m, i, x2, y, hm, hm8, hi, hi60, -, hs, -, -, G, h60, -, -, -, ey, -⟩ := plc B q1 A1.1 q4
      rw [q3] at ey
      unfold shS at ey
      repeat (first | rw [if_pos (by omega)] at ey | rw [if_neg (by omega)] at ey)
      obtain ⟨y1, e1, rfl⟩ := Option.map_eq_some_iff.mp ey
      obtain ⟨t1, t2, t3⟩ := tkS_some e1
      have g := G_pop G t1
      have okY := ok_sp g.2.1 (by rw [g.2.2.1, t2])
      obtain ⟨z, ez, -⟩ := within_some okY (a := 0) (b := 2147483647) (has_hi okY) q5 okY.2.2.1
      have mem : ((480 + sn q, 1, one (.inl z)) : Con) ∈ outs P sn (anewF P sn (rootsF P k rs) F) q := by
        unfold outs
        simp only [q3]
        simp [ez]
      have n0 := A2.2 _ (mem_ctr.mpr (Or.inr ⟨q, q1, q4, mem⟩))
      rw [q2] at n0
      exact (newR_iff.mp n0).1
  have S2 := anew_bG (rs := rs) (S := eff P sh sn (anewF P sn (rootsF P k rs) F)) B A1.1 (Or.inl rfl) (fun _ h => h) S1
  exact fun t h1 h2 i hi => bsV_mono E2 (S2 t h1 h2 i hi)
end PURE17
