section PURE5
def okF (ty : Nat → Ty) (F : Fa) : Prop := ∀ t, t < 542 → okR (ty t) (F t) ∧ ((F t).told = true → (ty t).2.1 ≤ (ty t).1)
def okC (ty : Nat → Ty) (c : Con) : Prop := c.1 < 542 ∧ okG (ty c.1) c.2.1 c.2.2 ∧ (ty c.1).2.1 ≤ (ty c.1).1
def stp (gr : Nat → Bool) (outs : Fa → Nat → List Con) (X : Fa × Bool) (p : Nat) : Fa × Bool := if (X.1 p).told = true then (outs X.1 p).foldl (come gr) X else X
def walk (gr : Nat → Bool) (outs : Fa → Nat → List Con) (X : Fa × Bool) (k : Nat) : Fa × Bool := (List.range k).foldl (stp gr outs) X
def pas (gr : Nat → Bool) (outs : Fa → Nat → List Con) (rts : List Con) (X : Fa × Bool) : Fa × Bool := walk gr outs (rts.foldl (come gr) X) 480
def Psi (ty : Nat → Ty) (gr : Nat → Bool) (F : Fa) : Nat := sm (fun t => if gr t = true then psiR (ty t) (F t) else 0) 542
variable {ty : Nat → Ty} {gr : Nat → Bool} {outs : Fa → Nat → List Con} {rts : List Con}
theorem come_id {X : Fa × Bool} {c : Con} (h : newR (X.1 c.1) c.2.1 c.2.2 = false) : come gr X c = X := by
  unfold come
  rw [h]
  refine Prod.ext ?_ (by simp)
  funext t
  by_cases e : t = c.1
  · subst e
    simp only [if_true]
    exact join_self h
  · simp [e]
theorem comes_id {X : Fa × Bool} : ∀ {cs : List Con}, (∀ c, c ∈ cs → newR (X.1 c.1) c.2.1 c.2.2 = false) → cs.foldl (come gr) X = X
  | [], _ => rfl
  | c :: cs, h => by
    rw [List.foldl_cons, come_id (h c (by simp))]
    exact comes_id (fun d hd => h d (by simp [hd]))
theorem come_at {X : Fa × Bool} {c : Con} : (come gr X c).1 c.1 = joinR (gr c.1) (X.1 c.1) c.2.1 c.2.2 := by simp [come]
theorem come_ne {X : Fa × Bool} {c : Con} {t : Nat} (h : t ≠ c.1) : (come gr X c).1 t = X.1 t := by simp [come, h]
theorem come_ok {X : Fa × Bool} {c : Con} (hX : okF ty X.1) (hc : okC ty c) : okF ty (come gr X c).1 := by
  intro t ht
  by_cases e : t = c.1
  · subst e
    rw [come_at]
    exact ⟨joinR_ok (hX _ ht).1 hc.2.1, fun _ => hc.2.2⟩
  · rw [come_ne e]
    exact hX t ht
theorem come_psi {X : Fa × Bool} {c : Con} (hX : okF ty X.1) (hc : okC ty c) : Psi ty gr (come gr X c).1 ≤ Psi ty gr X.1 ∧ (Psi ty gr (come gr X c).1 = Psi ty gr X.1 → ∀ t, gr t = true → (come gr X c).1 t = X.1 t) := by
  have hle : ∀ t, t < 542 → (fun t => if gr t = true then psiR (ty t) ((come gr X c).1 t) else 0) t ≤ (fun t => if gr t = true then psiR (ty t) (X.1 t) else 0) t := by
    intro t ht
    dsimp only
    by_cases e : t = c.1
    · subst e
      rw [come_at]
      split
      · rename_i q
        rw [q]
        cases hn : newR (X.1 c.1) c.2.1 c.2.2
        · rw [join_self hn]; omega
        · have := psi_join (hX _ ht).1 hc.2.1 hn; omega
      · omega
    · rw [come_ne e]; omega
  refine ⟨sm_le hle, fun heq t ht => ?_⟩
  by_cases e : t = c.1
  · subst e
    have := sm_eq hle heq c.1 hc.1
    rw [if_pos ht, if_pos ht, come_at, ht] at this
    rw [come_at, ht]
    cases hn : newR (X.1 c.1) c.2.1 c.2.2
    · exact join_self hn
    · have := psi_join (hX _ hc.1).1 hc.2.1 hn; omega
  · exact come_ne e
theorem come_acc {X : Fa × Bool} {c : Con} {t n : Nat} {g : Nat → Sl} (hX : okF ty X.1) (hc : okC ty c) (ht : t < 542) (hg : okG (ty t) n g) (h : newR (X.1 t) n g = false) : newR ((come gr X c).1 t) n g = false := by
  by_cases e : t = c.1
  · subst e
    rw [come_at]
    exact acc_join (hX _ ht).1 hc.2.1 hg h
  · rw [come_ne e]; exact h
theorem comes_all {X : Fa × Bool} : ∀ {cs : List Con}, okF ty X.1 → (∀ c, c ∈ cs → okC ty c) → okF ty (cs.foldl (come gr) X).1 ∧ Psi ty gr (cs.foldl (come gr) X).1 ≤ Psi ty gr X.1 ∧ (Psi ty gr (cs.foldl (come gr) X).1 = Psi ty gr X.1 → ∀ t, gr t = true → (cs.foldl (come gr) X).1 t = X.1 t) ∧ (∀ c, c ∈ cs → newR ((cs.foldl (come gr) X).1 c.1) c.2.1 c.2.2 = false) ∧ (∀ t n g, t < 542 → okG (ty t) n g → newR (X.1 t) n g = false → newR ((cs.foldl (come gr) X).1 t) n g = false) ∧ (∀ t, (∀ c, c ∈ cs → c.1 ≠ t) → (cs.foldl (come gr) X).1 t = X.1 t)
  | [], hX, _ => ⟨hX, Nat.le_refl _, fun _ _ _ => rfl, fun _ h => absurd h (by simp), fun _ _ _ _ _ h => h, fun _ _ => rfl⟩
  | c :: cs, hX, hc => by
    have h0 := hc c (by simp)
    have h1 := come_psi (gr := gr) hX h0
    have ok1 := come_ok (gr := gr) hX h0
    obtain ⟨a1, a2, a3, a4, a5, a6⟩ := comes_all (cs := cs) ok1 (fun d hd => hc d (by simp [hd]))
    rw [List.foldl_cons]
    refine ⟨a1, Nat.le_trans a2 h1.1, fun e t ht => ?_, fun d hd => ?_, fun t n g ht hg hn => a5 t n g ht hg (come_acc hX h0 ht hg hn), fun t ht => ?_⟩
    · rw [a3 (by omega) t ht]
      exact h1.2 (by omega) t ht
    · rcases List.mem_cons.mp hd with e | hd
      · subst e
        refine a5 d.1 d.2.1 d.2.2 h0.1 h0.2.1 ?_
        rw [come_at]
        exact join_acc (hX _ h0.1).1 h0.2.1
      · exact a4 d hd
    · rw [a6 t (fun d hd => ht d (by simp [hd])), come_ne (fun e => ht c (by simp) e.symm)]
/-- what is asked of a program's step -/
def Sys (ty : Nat → Ty) (gr : Nat → Bool) (outs : Fa → Nat → List Con) (rts : List Con) : Prop :=
  (∀ F p, p < 480 → okF ty F → (F p).told = true → ∀ c, c ∈ outs F p → okC ty c)
  ∧ (∀ F G : Fa, ∀ p, F p = G p → (∀ t, 480 ≤ t → F t = G t) → outs F p = outs G p)
  ∧ (∀ F p, p < 480 → okF ty F → (F p).told = true → ∀ c, c ∈ outs F p → gr c.1 = true ∨ p < c.1)
  ∧ (∀ c, c ∈ rts → okC ty c)
  ∧ (∀ t, 480 ≤ t → gr t = true)
theorem Sys.ok (S : Sys ty gr outs rts) : ∀ F p, p < 480 → okF ty F → (F p).told = true → ∀ c, c ∈ outs F p → okC ty c := S.1
theorem Sys.loc (S : Sys ty gr outs rts) : ∀ F G : Fa, ∀ p, F p = G p → (∀ t, 480 ≤ t → F t = G t) → outs F p = outs G p := S.2.1
theorem Sys.fw (S : Sys ty gr outs rts) : ∀ F p, p < 480 → okF ty F → (F p).told = true → ∀ c, c ∈ outs F p → gr c.1 = true ∨ p < c.1 := S.2.2.1
theorem Sys.rt (S : Sys ty gr outs rts) : ∀ c, c ∈ rts → okC ty c := S.2.2.2.1
theorem Sys.hi (S : Sys ty gr outs rts) : ∀ t, 480 ≤ t → gr t = true := S.2.2.2.2
theorem walk_succ {X : Fa × Bool} {k : Nat} : walk gr outs X (k + 1) = stp gr outs (walk gr outs X k) k := by
  unfold walk
  rw [List.range_succ, List.foldl_append]
  rfl
theorem walk_zero {X : Fa × Bool} : walk gr outs X 0 = X := rfl
theorem stp_all {X : Fa × Bool} {p : Nat} (S : Sys ty gr outs rts) (hp : p < 480) (hX : okF ty X.1) : okF ty (stp gr outs X p).1 ∧ Psi ty gr (stp gr outs X p).1 ≤ Psi ty gr X.1 ∧ (Psi ty gr (stp gr outs X p).1 = Psi ty gr X.1 → ∀ t, gr t = true → (stp gr outs X p).1 t = X.1 t) ∧ ((X.1 p).told = true → ∀ c, c ∈ outs X.1 p → newR ((stp gr outs X p).1 c.1) c.2.1 c.2.2 = false) ∧ (∀ t n g, t < 542 → okG (ty t) n g → newR (X.1 t) n g = false → newR ((stp gr outs X p).1 t) n g = false) ∧ (∀ t, gr t = false → t ≤ p → (stp gr outs X p).1 t = X.1 t) := by
  unfold stp
  by_cases h : (X.1 p).told = true
  · rw [if_pos h]
    obtain ⟨a1, a2, a3, a4, a5, a6⟩ := comes_all (gr := gr) (X := X) (cs := outs X.1 p) hX (S.ok X.1 p hp hX h)
    refine ⟨a1, a2, a3, fun _ => a4, a5, fun t ht hle => a6 t (fun c hc e => ?_)⟩
    rcases S.fw X.1 p hp hX h c hc with q | q
    · rw [e, ht] at q; cases q
    · omega
  · rw [if_neg h]
    exact ⟨hX, Nat.le_refl _, fun _ _ _ => rfl, fun q => absurd q h, fun _ _ _ _ _ h => h, fun _ _ _ => rfl⟩
theorem walk_ok {X : Fa × Bool} (S : Sys ty gr outs rts) (hX : okF ty X.1) : ∀ k, k ≤ 480 → okF ty (walk gr outs X k).1
  | 0, _ => by rw [walk_zero]; exact hX
  | k + 1, h => by
    rw [walk_succ]
    exact (stp_all S (by omega) (walk_ok S hX k (by omega))).1
/-- from j on to k -/
theorem walk_to {X : Fa × Bool} (S : Sys ty gr outs rts) (hX : okF ty X.1) (j : Nat) : ∀ d, j + d ≤ 480 → Psi ty gr (walk gr outs X (j + d)).1 ≤ Psi ty gr (walk gr outs X j).1 ∧ (Psi ty gr (walk gr outs X (j + d)).1 = Psi ty gr (walk gr outs X j).1 → ∀ t, gr t = true → (walk gr outs X (j + d)).1 t = (walk gr outs X j).1 t) ∧ (∀ t n g, t < 542 → okG (ty t) n g → newR ((walk gr outs X j).1 t) n g = false → newR ((walk gr outs X (j + d)).1 t) n g = false) ∧ (∀ t, gr t = false → t ≤ j → (walk gr outs X (j + d)).1 t = (walk gr outs X j).1 t)
  | 0, _ => ⟨Nat.le_refl _, fun _ _ _ => rfl, fun _ _ _ _ _ h => h, fun _ _ _ => rfl⟩
  | d + 1, h => by
    obtain ⟨a1, a2, a3, a4⟩ := walk_to S hX j d (by omega)
    obtain ⟨-, b2, b3, -, b5, b6⟩ := stp_all S (show j + d < 480 by omega) (walk_ok S hX (j + d) (by omega))
    rw [show j + (d + 1) = (j + d) + 1 by omega, walk_succ]
    exact ⟨Nat.le_trans b2 a1, fun e t ht => by rw [b3 (by omega) t ht, a2 (by omega) t ht], fun t n g ht hg hn => b5 t n g ht hg (a3 t n g ht hg hn), fun t ht hle => by rw [b6 t ht (by omega), a4 t ht hle]⟩
theorem pas_ok {X : Fa × Bool} (S : Sys ty gr outs rts) (hX : okF ty X.1) : okF ty (pas gr outs rts X).1 ∧ Psi ty gr (pas gr outs rts X).1 ≤ Psi ty gr X.1 := by
  obtain ⟨a1, a2, -⟩ := comes_all (gr := gr) (cs := rts) hX S.rt
  have b := (walk_to S a1 0 480 (by omega)).1
  rw [Nat.zero_add, walk_zero] at b
  exact ⟨walk_ok S a1 480 (by omega), Nat.le_trans b a2⟩
theorem walk_id {X : Fa × Bool} (h : ∀ p, p < 480 → (X.1 p).told = true → ∀ c, c ∈ outs X.1 p → newR (X.1 c.1) c.2.1 c.2.2 = false) : ∀ k, k ≤ 480 → walk gr outs X k = X
  | 0, _ => walk_zero
  | k + 1, hk => by
    rw [walk_succ, walk_id h k (by omega)]
    unfold stp
    by_cases q : (X.1 k).told = true
    · rw [if_pos q, comes_id (h k (by omega) q)]
    · rw [if_neg q]
set_option maxRecDepth 100000 in
/-- a pass in which nothing that widens has changed is followed by one in which nothing changes -/
theorem pas_still {F : Fa} {b : Bool} (S : Sys ty gr outs rts) (hF : okF ty F) (he : Psi ty gr (pas gr outs rts (F, b)).1 = Psi ty gr F) (b' : Bool) : pas gr outs rts ((pas gr outs rts (F, b)).1, b') = ((pas gr outs rts (F, b)).1, b') := by
  obtain ⟨a1, a2, a3, a4, a5, a6⟩ := comes_all (gr := gr) (X := (F, b)) (cs := rts) hF S.rt
  unfold pas at he ⊢
  generalize rts.foldl (come gr) (F, b) = X at *
  have W := walk_to (X := X) S a1
  have w0 := W 0 480 (by omega)
  rw [Nat.zero_add] at w0
  have e0 : Psi ty gr (walk gr outs X 480).1 = Psi ty gr X.1 := by
    have := w0.1
    rw [walk_zero] at this
    simp only at a2 he
    omega
  have R : ∀ c, c ∈ rts → newR ((walk gr outs X 480).1 c.1) c.2.1 c.2.2 = false := fun c hc => w0.2.2.1 c.1 c.2.1 c.2.2 (S.rt c hc).1 (S.rt c hc).2.1 (by rw [walk_zero]; exact a4 c hc)
  rw [comes_id (X := ((walk gr outs X 480).1, b')) R]
  refine walk_id (X := ((walk gr outs X 480).1, b')) ?_ 480 (by omega)
  intro p hp ht c hc
  have up := W p (480 - p) (by omega)
  rw [show p + (480 - p) = 480 by omega] at up
  have dn := W 0 p (by omega)
  rw [Nat.zero_add] at dn
  have eqp : Psi ty gr (walk gr outs X 480).1 = Psi ty gr (walk gr outs X p).1 := by
    have := up.1
    have := dn.1
    rw [walk_zero] at this
    omega
  have rowp : (walk gr outs X 480).1 p = (walk gr outs X p).1 p := by
    cases hg : gr p with
    | true => exact up.2.1 eqp p hg
    | false => exact up.2.2.2 p hg (by omega)
  have oe : outs (walk gr outs X 480).1 p = outs (walk gr outs X p).1 p := S.loc _ _ p rowp (fun t h => up.2.1 eqp t (S.hi t h))
  have okp := walk_ok S a1 p (by omega)
  have ht' : ((walk gr outs X p).1 p).told = true := by rw [← rowp]; exact ht
  have hc' : c ∈ outs (walk gr outs X p).1 p := by rw [← oe]; exact hc
  have s := stp_all S hp okp
  have k := s.2.2.2.1 ht' c hc'
  have cok := S.ok _ p hp okp ht' c hc'
  have up1 := W (p + 1) (480 - (p + 1)) (by omega)
  rw [show p + 1 + (480 - (p + 1)) = 480 by omega] at up1
  refine up1.2.2.1 c.1 c.2.1 c.2.2 cok.1 cok.2.1 ?_
  rw [walk_succ]
  exact k
/-- the facts before pass number k -/
def itF (gr : Nat → Bool) (outs : Fa → Nat → List Con) (rts : List Con) (F : Fa) : Nat → Fa
  | 0 => F
  | k + 1 => (pas gr outs rts (itF gr outs rts F k, false)).1
def chF (gr : Nat → Bool) (outs : Fa → Nat → List Con) (rts : List Con) (F : Fa) (k : Nat) : Bool := (pas gr outs rts (itF gr outs rts F k, false)).2
set_option maxRecDepth 100000 in
theorem itF_succ (F : Fa) : ∀ k, itF gr outs rts F (k + 1) = itF gr outs rts (pas gr outs rts (F, false)).1 k
  | 0 => rfl
  | k + 1 => by
    have := itF_succ F k
    show (pas gr outs rts (itF gr outs rts F (k + 1), false)).1 = (pas gr outs rts (itF gr outs rts (pas gr outs rts (F, false)).1 k, false)).1
    rw [this]
theorem pas_ends (S : Sys ty gr outs rts) : ∀ (w : Nat) (F : Fa), Psi ty gr F ≤ w → okF ty F → ∃ k, k ≤ Psi ty gr F + 1 ∧ chF gr outs rts F k = false ∧ ∀ j, j < k → chF gr outs rts F j = true := by
  intro w
  induction w with
  | zero =>
    intro F hw hF
    have p := pas_ok (X := (F, false)) S hF
    simp only at p
    cases h0 : chF gr outs rts F 0 with
    | false => exact ⟨0, by omega, h0, fun j hj => absurd hj (by omega)⟩
    | true =>
      refine ⟨1, by omega, ?_, fun j hj => by rw [show j = 0 by omega]; exact h0⟩
      have := pas_still (b := false) S hF (by omega) false
      unfold chF
      rw [show itF gr outs rts F 1 = (pas gr outs rts (F, false)).1 from rfl, this]
  | succ w ih =>
    intro F hw hF
    have p := pas_ok (X := (F, false)) S hF
    simp only at p
    cases h0 : chF gr outs rts F 0 with
    | false => exact ⟨0, by omega, h0, fun j hj => absurd hj (by omega)⟩
    | true =>
      by_cases q : Psi ty gr (pas gr outs rts (F, false)).1 = Psi ty gr F
      · refine ⟨1, by omega, ?_, fun j hj => by rw [show j = 0 by omega]; exact h0⟩
        have := pas_still (b := false) S hF q false
        unfold chF
        rw [show itF gr outs rts F 1 = (pas gr outs rts (F, false)).1 from rfl, this]
      · obtain ⟨k, k1, k2, k3⟩ := ih (pas gr outs rts (F, false)).1 (by omega) p.1
        refine ⟨k + 1, by omega, ?_, fun j hj => ?_⟩
        · unfold chF at k2 ⊢
          rw [itF_succ]
          exact k2
        · cases j with
          | zero => exact h0
          | succ j =>
            have := k3 j (by omega)
            unfold chF at this ⊢
            rw [itF_succ]
            exact this
theorem Psi_b {F : Fa} (hF : okF ty F) (h1 : ∀ t, t < 480 → (ty t).1 ≤ 14) (h2 : ∀ t, 480 ≤ t → t < 542 → (ty t).1 ≤ 1) : Psi ty gr F ≤ 944866 := by
  have : ∀ k, k ≤ 480 → sm (fun t => if gr t = true then psiR (ty t) (F t) else 0) k ≤ 1950 * k := by
    intro k hk
    refine sm_b (fun i hi => ?_)
    have := psi_le (hF i (by omega)).1
    have := h1 i (by omega)
    split <;> omega
  have a := this 480 (by omega)
  have b : ∀ d, 480 + d ≤ 542 → sm (fun t => if gr t = true then psiR (ty t) (F t) else 0) (480 + d) ≤ 1950 * 480 + 143 * d := by
    intro d
    induction d with
    | zero => intro _; omega
    | succ d ih =>
      intro hd
      rw [show 480 + (d + 1) = (480 + d) + 1 by omega, sm]
      have := ih (by omega)
      have := psi_le (hF (480 + d) (by omega)).1
      have := h2 (480 + d) (by omega) (by omega)
      have : (if gr (480 + d) = true then psiR (ty (480 + d)) (F (480 + d)) else 0) ≤ 143 := by split <;> omega
      omega
  have := b 62 (by omega)
  unfold Psi
  omega
end PURE5
