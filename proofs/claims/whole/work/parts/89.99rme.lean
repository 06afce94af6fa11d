-- needs: 89.99rmd
section RME
variable {k : Nat} {P : Pm} {sh : Nat → Option Sh} {sn : Nat → Nat} {wd : Nat → Bool} {F : Fa}
def hbF (F : Fa) : Prop := ∀ t, t < 542 → (F t).told = true → hbG (fun s => s < 25) (F t).n (F t).f
theorem comes_hb {gr : Nat → Bool} : ∀ (cs : List Con) (X : Fa × Bool), okF (tyF P sh) X.1 → (∀ c, c ∈ cs → okC (tyF P sh) c ∧ hbG (fun s => s < 25) c.2.1 c.2.2) → hbF X.1 → okF (tyF P sh) (cs.foldl (come gr) X).1 ∧ hbF (cs.foldl (come gr) X).1
  | [], _, hX, _, h => ⟨hX, h⟩
  | c :: cs, X, hX, hc, h => by
    have h0 := hc c (by simp)
    refine comes_hb cs (come gr X c) (come_ok hX h0.1) (fun d hd => hc d (by simp [hd])) (fun t ht htl => ?_)
    by_cases e : t = c.1
    · subst e
      rw [come_at]
      exact join_hbG (hX _ ht).1 h0.1.2.1 (h c.1 ht) h0.2
    · rw [come_ne e] at htl ⊢
      exact h t ht htl
theorem rts_hb {rs : Nat → Bool} : ∀ c, c ∈ rootsF P k rs → hbG (fun s => s < 25) c.2.1 c.2.2 := fun c hc => by
  obtain ⟨m, hm, rfl⟩ := List.mem_map.mp hc
  intro i hi
  show hsV (fun s => s < 25) (rtF P m i).1
  unfold rtF
  split
  · simp only
    split
    · intro s hs hbit
      have key : ∀ s, s < 32 → 25 ≤ s → bitA 1 s = true → s < 25 := by decide +kernel
      exact key s hs.2 hs.1 hbit
    · exact hsV_n
  · exact hsV_s
theorem out_hb (B : Built k P sh sn wd) {p : Nat} (hp : p < 480) (hF : okF (tyF P sh) F) (hb : hbF F) (ht : (F p).told = true) : ∀ c, c ∈ outs P sn F p → okC (tyF P sh) c ∧ hbG (fun s => s < 25) c.2.1 c.2.2 := fun c hc => ⟨(outs_all B hp hF ht c hc).1, outs_hb B hp hF ht hb (fun e => by
  obtain ⟨h1, ⟨x, hx, -⟩, -⟩ := e
  exact (B.site p x hx h1).2) c hc⟩
theorem ctr_hb (B : Built k P sh sn wd) {rs : Nat → Bool} (hF : okF (tyF P sh) F) (hb : hbF F) : ∀ c, c ∈ ctr P sn (rootsF P k rs) F → okC (tyF P sh) c ∧ hbG (fun s => s < 25) c.2.1 c.2.2 := fun c hc => by
  refine ⟨ctr_ok B hF c hc, ?_⟩
  rcases mem_ctr.mp hc with h | ⟨p, hp, ht, h⟩
  · exact rts_hb c h
  · exact (out_hb B hp hF hb ht c h).2
theorem bg_hb : hbF bgF := fun t ht h i hi => by
  obtain ⟨-, -, -, x, -, h5⟩ := bg_told h
  rw [h5]
  exact hsV_s
theorem anew_hb (B : Built k P sh sn wd) {rs : Nat → Bool} (hF : okF (tyF P sh) F) (hb : hbF F) : hbF (anewF P sn (rootsF P k rs) F) := (comes_hb _ _ bg_ok (ctr_hb B hF hb) bg_hb).2
theorem walk_hb (B : Built k P sh sn wd) {gr : Nat → Bool} {X : Fa × Bool} (hX : okF (tyF P sh) X.1) (hb : hbF X.1) : ∀ j, j ≤ 480 → okF (tyF P sh) (walk gr (outs P sn) X j).1 ∧ hbF (walk gr (outs P sn) X j).1
  | 0, _ => ⟨hX, hb⟩
  | j + 1, h => by
    have ih := walk_hb (gr := gr) B hX hb j (by omega)
    rw [walk_succ]
    unfold stp
    split
    · rename_i ht
      exact comes_hb _ _ ih.1 (out_hb B (by omega) ih.1 ih.2 ht) ih.2
    · exact ih
theorem it_hb (B : Built k P sh sn wd) {gr : Nat → Bool} {rs : Nat → Bool} : ∀ j, okF (tyF P sh) (itF gr (outs P sn) (rootsF P k rs) bgF j) ∧ hbF (itF gr (outs P sn) (rootsF P k rs) bgF j)
  | 0 => ⟨bg_ok, bg_hb⟩
  | j + 1 => by
    have ih := it_hb (gr := gr) (rs := rs) B j
    have r := comes_hb (gr := gr) (rootsF P k rs) (itF gr (outs P sn) (rootsF P k rs) bgF j, false) ih.1 (fun c hc => ⟨ctr_ok B ih.1 c (mem_ctr.mpr (Or.inl hc)), rts_hb c hc⟩) ih.2
    exact walk_hb B r.1 r.2 480 (by omega)
theorem cer_hb (B : Built k P sh sn wd) (r : Int32) (K : Nat) : hbF (cerF P sn k wd r K) := by
  have i := it_hb (gr := grF wd) (rs := fun m => bitA r m) B (K + 1)
  unfold cerF
  exact anew_hb B (anew_ok B i.1).1 (anew_hb B i.1 i.2)
/-- a set that is not empty has a bit -/
theorem bit_ex (b : Int32) (h : ∀ s, s < 32 → bitA b s = false) : b = 0 := by
  apply Int32.toBitVec_inj.mp
  apply BitVec.eq_of_getLsbD_eq
  intro i hi
  have q := h i hi
  unfold bitA at q
  rw [q]
  simp
end RME
