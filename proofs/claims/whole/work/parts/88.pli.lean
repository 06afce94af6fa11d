-- needs: 87
section PLI
variable {k : Nat} {P : Pm} {sh : Nat → Option Sh} {sn : Nat → Nat} {wd0 : Nat → Bool}
/-- a walk, place after place -/
def wk (st : Fa × Bool → Nat → Fa × Bool) (X : Fa × Bool) (j : Nat) : Fa × Bool := (List.range j).foldl st X
theorem wk_succ {st : Fa × Bool → Nat → Fa × Bool} {X : Fa × Bool} {j : Nat} : wk st X (j + 1) = st (wk st X j) j := by
  unfold wk
  rw [List.range_succ, List.foldl_append]
  rfl
/-- an instruction lies there -/
def vld (k : Nat) (P : Pm) (p : Nat) : Prop := p / 60 < k ∧ p % 60 < pN P 5 (p / 60)
theorem wk_skip {st : Fa × Bool → Nat → Fa × Bool} {X : Fa × Bool} {j : Nat} : ∀ d, (∀ p, j ≤ p → p < j + d → st (wk st X p) p = wk st X p) → wk st X (j + d) = wk st X j
  | 0, _ => rfl
  | d + 1, h => by
    rw [show j + (d + 1) = (j + d) + 1 by omega, wk_succ, h (j + d) (by omega) (by omega)]
    exact wk_skip d (fun p p1 p2 => h p p1 (by omega))
theorem inS_wk {md fr to m : Nat} {wd : Nat → Bool} {Ff : Fa} {X : Fa × Bool} : ∀ i, inS P sn md wd fr to Ff m (wk (stpM P sn md wd fr to Ff) X (60 * m)) i = wk (stpM P sn md wd fr to Ff) X (60 * m + i)
  | 0 => rfl
  | i + 1 => by
    show stpM P sn md wd fr to Ff (inS P sn md wd fr to Ff m _ i) (60 * m + i) = _
    rw [inS_wk i, ← Nat.add_assoc, wk_succ]
theorem ouS_wk {md fr to : Nat} {wd : Nat → Bool} {Ff : Fa} {X : Fa × Bool} (W : wfP k P) (hs : ∀ p, p < 480 → ¬ vld k P p → stpM P sn md wd fr to Ff (wk (stpM P sn md wd fr to Ff) X p) p = wk (stpM P sn md wd fr to Ff) X p) : ∀ m, m ≤ k → ouS P sn md wd fr to Ff X m = wk (stpM P sn md wd fr to Ff) X (60 * m)
  | 0, _ => rfl
  | m + 1, hm => by
    have k8 := W.k8
    have w := wf_ar W (show m < k by omega)
    show inS P sn md wd fr to Ff m (ouS P sn md wd fr to Ff X m) (pN P 5 m) = _
    rw [ouS_wk W hs m (by omega), inS_wk, show 60 * (m + 1) = 60 * m + pN P 5 m + (60 - pN P 5 m) by omega]
    refine (wk_skip _ (fun p p1 p2 => hs p (by omega) (fun v => ?_))).symm
    obtain ⟨v1, v2⟩ := v
    have e : p / 60 = m := by omega
    rw [e] at v2
    omega
theorem ouS_480 {md fr to : Nat} {wd : Nat → Bool} {Ff : Fa} {X : Fa × Bool} (W : wfP k P) (hs : ∀ p, p < 480 → ¬ vld k P p → stpM P sn md wd fr to Ff (wk (stpM P sn md wd fr to Ff) X p) p = wk (stpM P sn md wd fr to Ff) X p) : ouS P sn md wd fr to Ff X k = wk (stpM P sn md wd fr to Ff) X 480 := by
  have k8 := W.k8
  rw [ouS_wk W hs k (Nat.le_refl _), show 480 = 60 * k + (480 - 60 * k) by omega]
  refine (wk_skip _ (fun p p1 p2 => hs p (by omega) (fun v => ?_))).symm
  obtain ⟨v1, v2⟩ := v
  omega
theorem vld_of (B : Built k P sh sn wd0) {F : Fa} {p : Nat} (hp : p < 480) (hF : okF (tyF P sh) F) (ht : (F p).told = true) : vld k P p := by
  obtain ⟨m, i, x, y, h1, h2, h3, h4, h5, -⟩ := plc B hp hF ht
  have e : p / 60 = m := by omega
  have e2 : p % 60 = i := by omega
  unfold vld
  rw [e, e2]
  exact ⟨h1, h3⟩
theorem rtS_eq {md : Nat} {wd : Nat → Bool} {rts : Int32} {Z : Fa × Bool} : ∀ j, rtS P md wd rts Z j = (rootsF P j (fun m => bitA rts m)).foldl (comeM md wd) Z
  | 0 => rfl
  | j + 1 => by
    show (if bitA rts j = true then comeM md wd (rtS P md wd rts Z j) (60 * j + 0, pN P 2 j, rtF P j) else rtS P md wd rts Z j) = _
    unfold rootsF
    rw [List.range_succ, List.filter_append, List.map_append, List.foldl_append, rtS_eq j]
    cases e : bitA rts j with
    | true => simp [e, rootsF]
    | false => simp [e, rootsF]
theorem comeM_0f {wd : Nat → Bool} : comeM 0 wd = come wd := by
  funext X c
  exact comeM_0
theorem comeM_1f {wd : Nat → Bool} : comeM 1 wd = come (fun _ => false) := by
  funext X c
  unfold comeM
  rw [if_neg (by decide)]
  congr 1
  funext t
  simp
theorem stpM_0 {fr : Nat} {wd : Nat → Bool} {Ff : Fa} : stpM P sn 0 wd fr fr Ff = stp wd (outs P sn) := by
  funext Z p
  unfold stpM stp frF
  rw [if_pos rfl, comeM_0f]
/-- a pass of the class that grows is a pass -/
theorem pasS_0 (B : Built k P sh sn wd0) {fr : Nat} {Ff : Fa} {rts : Int32} {Z : Fa × Bool} (hZ : okF (tyF P sh) Z.1) : pasS P sn k 0 (grF wd0) fr fr Ff rts Z = pas (grF wd0) (outs P sn) (rootsF P k (fun m => bitA rts m)) Z := by
  have Y := sys_of B (fun m => bitA rts m)
  unfold pasS pas
  rw [rtS_eq, comeM_0f]
  have hX := (comes_all (gr := grF wd0) (X := Z) hZ Y.rt).1
  rw [ouS_480 B.wf, stpM_0]
  · rfl
  · intro p hp nv
    rw [stpM_0]
    have ok : okF (tyF P sh) (wk (stp (grF wd0) (outs P sn)) ((rootsF P k (fun m => bitA rts m)).foldl (come (grF wd0)) Z) p).1 := walk_ok Y hX p (by omega)
    show (if _ then _ else _) = _
    rw [if_neg]
    exact fun t => nv (vld_of B hp ok t)
/-- a pass of the class that makes anew -/
theorem pasS_1 (B : Built k P sh sn wd0) {fr to : Nat} {Ff : Fa} {rts : Int32} {Z : Fa × Bool} {wd : Nat → Bool} (hd : fr ≠ to) (hF : okF (tyF P sh) Ff) : pasS P sn k 1 wd fr to Ff rts Z = (ctr P sn (rootsF P k (fun m => bitA rts m)) Ff).foldl (come (fun _ => false)) Z := by
  have e1 : stpM P sn 1 wd fr to Ff = fun Z p => (if (Ff p).told = true then outs P sn Ff p else []).foldl (come (fun _ => false)) Z := by
    funext Z p
    unfold stpM frF
    rw [if_neg hd, comeM_1f]
    split <;> rfl
  unfold pasS ctr
  rw [rtS_eq, ouS_480 B.wf, comeM_1f, List.foldl_append, List.foldl_flatMap, e1]
  · rfl
  · intro p hp nv
    unfold stpM frF
    rw [if_neg hd, if_neg]
    exact fun t => nv (vld_of B hp hF t)
theorem come_fl {gr : Nat → Bool} {F : Fa} {b b' : Bool} {c : Con} : (come gr (F, b) c).1 = (come gr (F, b') c).1 := rfl
theorem comes_fl {gr : Nat → Bool} : ∀ (cs : List Con) (F : Fa) (b b' : Bool), (cs.foldl (come gr) (F, b)).1 = (cs.foldl (come gr) (F, b')).1
  | [], _, _, _ => rfl
  | c :: cs, F, b, b' => by
    rw [List.foldl_cons, List.foldl_cons]
    exact comes_fl cs _ _ _
theorem bg_fld {j : Nat} (hj : j < 4) : (bgF (530 + j)).told = true := by
  unfold bgF
  rw [if_neg (by omega), if_neg (by omega), if_pos (by omega)]
theorem bg_chI {T : Nat → Ty} {wd : Nat → Bool} (hT : ∀ t, t < 542 → okR (T t) (bgF t)) : chI T wd bgF := fun t ht hw => by
  have e : (bgF t).ch = 0 := by
    unfold bgF
    split
    · rfl
    · split
      · rfl
      · split <;> rfl
  refine ⟨fun _ => e, fun tl => ?_⟩
  obtain ⟨h1, h2, h3, x, h4, h5⟩ := bg_told tl
  have hp := psi_le (hT t ht)
  have hn : (T t).1 = 1 := by rw [← h3, ((hT t ht) tl).1]
  have q : psiR (T t) (bgF t) < 139 * (T t).1 + 4 := by
    rw [psi_t tl, e, h5, hn]
    have := phiA_le (show okAv (.inl x) from h4)
    show 3 - 0 + (0 + (phiA (.inl x) + phiM (-1))) < _
    have e3 : phiM (-1) = 0 := by unfold phiM; rw [if_pos rfl]
    omega
  omega
/-- the certificate before it is altered -/
def cerF (P : Pm) (sn : Nat → Nat) (k : Nat) (wd : Nat → Bool) (r : Int32) (K : Nat) : Fa := anewF P sn (rootsF P k (fun m => bitA r m)) (anewF P sn (rootsF P k (fun m => bitA r m)) (itF (grF wd) (outs P sn) (rootsF P k (fun m => bitA r m)) bgF (K + 1)))
/-- how many passes were made, but one -/
def psK (P : Pm) (sn : Nat → Nat) (k : Nat) (wd : Nat → Bool) (r : Int32) (K : Nat) : Prop := K + 1 < 1000000 ∧ chF (grF wd) (outs P sn) (rootsF P k (fun m => bitA r m)) bgF K = false ∧ ∀ j, j < K → chF (grF wd) (outs P sn) (rootsF P k (fun m => bitA r m)) bgF j = true
theorem psK_ex (B : Built k P sh sn wd0) (r : Int32) : ∃ K, psK P sn k wd0 r K := by
  have Y := sys_of B (fun m => bitA r m)
  have b := Psi_b (gr := grF wd0) (bg_ok (P := P) (sh := sh)) (fun t ht => ty14 B t (by omega)) (fun t h1 h2 => by
    unfold tyF
    rw [if_neg (by omega)]
    split
    · exact Nat.le_refl _
    · show (if _ then 0 else 1) ≤ 1
      split <;> omega)
  obtain ⟨K, h1, h2, h3⟩ := pas_ends Y _ bgF (Nat.le_refl _) bg_ok
  exact ⟨K, by omega, h2, h3⟩
theorem it_ok (B : Built k P sh sn wd0) (r : Int32) : ∀ j, okF (tyF P sh) (itF (grF wd0) (outs P sn) (rootsF P k (fun m => bitA r m)) bgF j) := fun j => (it_hist B j).1
end PLI
