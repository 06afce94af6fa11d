-- needs: 89.74
section RC6
variable {l : Launch} {V : gi_V} {n : Nat} {h h' : gi_H} {M k m i : Nat} {P : Pm} {x : Sh} {sh : Nat → Option Sh} {S S' : Nat → Int32} {J J' : Nat → Int64} {F F' : Nat → Nat → Int32} {G G' : Nat → Nat → Int64} {f g : Nat → Sl} {n0 : Nat} {r : Rw} {Ff : Fa} {Z : Fa × Bool} {md p t : Nat}
/-- told rows: where they lie in the reference -/
def tix (t : Nat) : Nat := if t < 505 then t - 480 else if t < 530 then t - 505 + 32 else if t < 534 then t - 530 + 64 else t - 534 + 72
theorem tix_b {t : Nat} (h1 : 480 ≤ t) (h2 : t < 542) : tix t < 80 := by
  unfold tix
  split
  · omega
  · split
    · omega
    · split <;> omega
theorem tix_inj {t s : Nat} (h1 : 480 ≤ t) (h2 : t < 542) (h3 : 480 ≤ s) (h4 : s < 542) (e : tix t = tix s) : t = s := by
  unfold tix at e
  repeat' (split at e)
  all_goals omega
def cT (F : Nat → Nat → Int32) (G : Nat → Nat → Int64) (i : Nat) : Ce := (G 40 i, G 41 i, G 42 i, F 43 i, F 44 i, 0)
def rfS (P : Pm) (r : Rw) (p q : Nat) (F : Nat → Nat → Int32) (G : Nat → Nat → Int64) : Prop := F 31 q = bI r.told ∧ (r.told = true → pN P 2 (p / 60) ≤ 6 ∧ r.n - pN P 2 (p / 60) ≤ 8 ∧ rwR (pN P 2 (p / 60)) r.n r.f (fun j => cS F G (14 * q + j)))
def tvA (r : Rw) : Av := if r.n = 0 then .inl (0, 0, 0) else (r.f 0).1
def rfT (r : Rw) (q : Nat) (F : Nat → Nat → Int32) (G : Nat → Nat → Int64) : Prop := F 39 q = bI r.told ∧ (r.told = true → ceA (tvA r) (cT F G q))
def fsN (P : Pm) (Z : Fa) (F : Nat → Nat → Int32) (G : Nat → Nat → Int64) : Prop := (∀ p, p < 480 → rfS P (Z p) p p F G) ∧ ∀ t, 480 ≤ t → t < 542 → rfT (Z t) (tix t) F G
def fsO (P : Pm) (Z : Fa) (F : Nat → Nat → Int32) (G : Nat → Nat → Int64) : Prop := (∀ p, p < 480 → rfS P (Z p) p (480 + p) F G) ∧ ∀ t, 480 ≤ t → t < 542 → rfT (Z t) (80 + tix t) F G
def chR (wd : Nat → Bool) (Z : Fa) (F : Nat → Nat → Int32) : Prop := (∀ p, p < 480 → wd p = true → F 38 p = nI (Z p).ch) ∧ ∀ t, 480 ≤ t → t < 542 → F 45 (tix t) = nI (Z t).ch
/-- the program and what was built of it -/
def pgR (k : Nat) (P : Pm) (sh : Nat → Option Sh) (S : Nat → Int32) (F : Nat → Nat → Int32) : Prop := prF P F ∧ S 0 = nI k ∧ (∀ m, m < k → rpS P m sh (shf F)) ∧ (∀ q, q < 480 → isSi k P sh q = true → F 15 q = nI (snF k P sh q)) ∧ ∀ m i, m < k → i < pN P 5 m → F 16 (60 * m + i) = bI (wdF k P (60 * m + i))
/-- the facts, in a mood -/
def mdR (k : Nat) (P : Pm) (sh : Nat → Option Sh) (md : Nat) (Ff : Fa) (Z : Fa × Bool) (S : Nat → Int32) (F : Nat → Nat → Int32) (G : Nat → Nat → Int64) : Prop := S 47 = nI md ∧ S 48 = nI (if md = 1 then 480 else 0) ∧ S 49 = nI (if md = 1 then 80 else 0) ∧ fsN P Z.1 F G ∧ (md = 1 → fsO P Ff F G) ∧ (md ≠ 2 → S 50 = bI Z.2) ∧ (md = 2 → S 51 = bI (!Z.2)) ∧ okF (tyF P sh) Z.1 ∧ (md = 0 → chR (wdF k P) Z.1 F ∧ chI (tyF P sh) (grF (wdF k P)) Z.1)
def frZ (S S' : Nat → Int32) (J J' : Nat → Int64) (F F' : Nat → Nat → Int32) (G G' : Nat → Nat → Int64) : Prop := (∀ j, j ≠ 50 → j ≠ 51 → S' j = S j) ∧ frJ J J' ∧ (∀ j, j < 31 ∨ 45 < j → F' j = F j) ∧ ∀ j, j < 31 ∨ 45 < j → G' j = G j
theorem frZ.rf : frZ S S J J F F G G := ⟨fun _ _ _ => rfl, frJ.rf, fun _ _ => rfl, fun _ _ => rfl⟩
theorem frZ.tr {S2 : Nat → Int32} {J2 : Nat → Int64} {F2 : Nat → Nat → Int32} {G2 : Nat → Nat → Int64} (a : frZ S S' J J' F F' G G') (b : frZ S' S2 J' J2 F' F2 G' G2) : frZ S S2 J J2 F F2 G G2 := ⟨fun j h1 h2 => (b.1 j h1 h2).trans (a.1 j h1 h2), a.2.1.tr b.2.1, fun j h => (b.2.2.1 j h).trans (a.2.2.1 j h), fun j h => (b.2.2.2 j h).trans (a.2.2.2 j h)⟩
def coP (M k : Nat) (P : Pm) (sh : Nat → Option Sh) (md : Nat) (Ff : Fa) (Z : Fa × Bool) (h : gi_H) (S : Nat → Int32) (J : Nat → Int64) (F : Nat → Nat → Int32) (G : Nat → Nat → Int64) (h' : gi_H) : Prop := ∃ S' J' F' G', mo_at M S' J' F' G' h' ∧ outM M h h' ∧ frZ S S' J J' F F' G G' ∧ mdR k P sh md Ff Z S' F' G'
theorem fsN.put {r : Rw} (h : fsN P Z.1 F G) (c : stC p F F' G G') (hp : p < 480) (hr : rfS P r p p F' G') : fsN P (upO Z.1 p r) F' G' := by
  refine ⟨fun q hq => ?_, fun t h1 h2 => ?_⟩
  · by_cases e : q = p
    · subst e
      rw [upO_self]
      exact hr
    · rw [upO_ne e]
      obtain ⟨a, b⟩ := h.1 q hq
      refine ⟨by rw [c.2.2.1 q e]; exact a, fun z => ?_⟩
      obtain ⟨y6, y8, y⟩ := b z
      refine ⟨y6, y8, fun i hi => ?_⟩
      have l14 := sl_14 y6 y8 hi
      dsimp only
      rw [c.2.2.2.2 _ (by omega)]
      exact y i hi
  · rw [upO_ne (by omega)]
    obtain ⟨a, b⟩ := h.2 t h1 h2
    refine ⟨by rw [c.1 39 (by decide)]; exact a, fun z => ?_⟩
    unfold cT
    rw [c.1 43 (by decide), c.1 44 (by decide), c.2.1 40 (by decide), c.2.1 41 (by decide), c.2.1 42 (by decide)]
    exact b z
theorem fsO.put (h : fsO P Ff F G) (c : stC p F F' G G') (hp : p < 480) : fsO P Ff F' G' := by
  refine ⟨fun q hq => ?_, fun t h1 h2 => ?_⟩
  · obtain ⟨a, b⟩ := h.1 q hq
    refine ⟨by rw [c.2.2.1 _ (by omega)]; exact a, fun z => ?_⟩
    obtain ⟨y6, y8, y⟩ := b z
    refine ⟨y6, y8, fun i hi => ?_⟩
    dsimp only
    rw [c.2.2.2.2 _ (by omega)]
    exact y i hi
  · obtain ⟨a, b⟩ := h.2 t h1 h2
    refine ⟨by rw [c.1 39 (by decide)]; exact a, fun z => ?_⟩
    unfold cT
    rw [c.1 43 (by decide), c.1 44 (by decide), c.2.1 40 (by decide), c.2.1 41 (by decide), c.2.1 42 (by decide)]
    exact b z
theorem comeM_n2 {md : Nat} {wd : Nat → Bool} {X : Fa × Bool} {c : Con} (h : md ≠ 2) : comeM md wd X c = (upO X.1 c.1 (joinR (wd c.1 && decide (md = 0)) (X.1 c.1) c.2.1 c.2.2), X.2 || newR (X.1 c.1) c.2.1 c.2.2) := by
  unfold comeM come
  rw [if_neg h]
  refine Prod.ext ?_ rfl
  funext t
  show (if t = c.1 then _ else _) = upO _ _ _ t
  unfold upO
  by_cases e : t = c.1
  · rw [if_pos e, if_pos e, e]
  · rw [if_neg e, if_neg e]
theorem md_put {n0 : Nat} {g : Nat → Sl} (h2 : md ≠ 2) (hD : mdR k P sh md Ff Z S F G) (ok : okC (tyF P sh) (p, n0, g)) (hp : p < 480) (c : stC p F F' G G') (hr : rfS P (joinR (grF (wdF k P) p && decide (md = 0)) (Z.1 p) n0 g) p p F' G') (hs : ∀ j, j ≠ 50 → S' j = S j) (h50 : S' 50 = bI (Z.2 || newR (Z.1 p) n0 g)) (hc : md = 0 → wdF k P p = true → F' 38 p = nI (joinR (grF (wdF k P) p && decide (md = 0)) (Z.1 p) n0 g).ch) : mdR k P sh md Ff (comeM md (grF (wdF k P)) Z (p, n0, g)) S' F' G' := by
  obtain ⟨a1, a2, a3, a4, a5, a6, a7, a8, a9⟩ := hD
  have e := comeM_n2 (wd := grF (wdF k P)) (X := Z) (c := (p, n0, g)) h2
  refine ⟨(hs 47 (by decide)).trans a1, (hs 48 (by decide)).trans a2, (hs 49 (by decide)).trans a3, ?_, fun z => (a5 z).put c hp, fun _ => ?_, fun z => absurd z h2, ?_, fun z => ⟨⟨fun q hq wq => ?_, fun t h3 h4 => ?_⟩, ?_⟩⟩
  · rw [e]
    exact a4.put c hp hr
  · rw [e]
    exact h50
  · unfold comeM
    rw [if_neg h2]
    exact come_ok a8 ok
  · rw [e]
    show F' 38 q = nI (upO Z.1 p _ q).ch
    by_cases y : q = p
    · subst y
      rw [upO_self]
      exact hc z wq
    · rw [upO_ne y, c.2.2.2.1 q y]
      exact (a9 z).1.1 q hq wq
  · rw [e]
    show F' 45 (tix t) = nI (upO Z.1 p _ t).ch
    rw [upO_ne (by omega), c.1 45 (by decide)]
    exact (a9 z).1.2 t h3 h4
  · subst z
    rw [comeM_0f]
    exact chI_come a8 ok (a9 rfl).2
theorem stC.of {p : Nat} (h : cellC p F F' G G') : stC p F F' G G' := ⟨fun a ha => h.1 a (by omega) (by omega) (by omega), fun a ha => h.2.1 a (by omega) (by omega) (by omega), fun q _ => by rw [h.1 31 (by decide) (by decide) (by decide)], fun q _ => by rw [h.1 38 (by decide) (by decide) (by decide)], h.2.2⟩
theorem stC.tr {p : Nat} {F2 : Nat → Nat → Int32} {G2 : Nat → Nat → Int64} (a : stC p F F' G G') (b : stC p F' F2 G' G2) : stC p F F2 G G2 := ⟨fun j h => (b.1 j h).trans (a.1 j h), fun j h => (b.2.1 j h).trans (a.2.1 j h), fun q h => (b.2.2.1 q h).trans (a.2.2.1 q h), fun q h => (b.2.2.2.1 q h).trans (a.2.2.2.1 q h), fun q h => (b.2.2.2.2 q h).trans (a.2.2.2.2 q h)⟩
theorem stC.fr {p : Nat} (a : stC p F F' G G') (hs : ∀ j, j ≠ 50 → j ≠ 51 → S' j = S j) (hj : frJ J J') : frZ S S' J J' F F' G G' := ⟨hs, hj, fun j h => a.1 j (by omega), fun j h => a.2.1 j (by omega)⟩
theorem pg_at (hg : pgR k P sh S F) (W : wfP k P) (hm : m < k) (hi : i < pN P 5 m) (hx : sh (60 * m + i) = some x) : F 12 (60 * m + i) = nI x.1 ∧ F 13 (60 * m + i) = nI x.2 := ((hg.2.2.1 m hm) i hi).2 x hx
set_option maxHeartbeats 4000000 in
set_option maxRecDepth 100000 in
theorem c_Mo_comeTo (B : Built k P sh (siN k P sh) (wdF k P)) (hpg : pgR k P sh S F) (h2 : md ≤ 2) (hm : m < k) (hi : i < pN P 5 m) (hx : sh (60 * m + i) = some x) (hw : rwR (pN P 2 m) n0 g (cW F G)) (hg : tyG P m x n0 g) (hD : mdR k P sh md Ff Z S F G) (H : mo_at M S J F G h) : gi_T l V y_Mo_comeTo b_Mo_comeTo 7 none 3 68 0 0 [.ref M, .int (nI (60 * m + i))] n h (fun v n' h' => v = none ∧ n' = n ∧ coP M k P sh md Ff (comeM md (grF (wdF k P)) Z (60 * m + i, n0, g)) h S J F G h') := by
  refine gi_enter (by decide) (Nat.le_of_ble_eq_true rfl) ?_
  intro _ _ _ _ _ _ _ _ C hr hnm
  obtain ⟨fs, Ha, Hf⟩ := id H.1
  have ho : outM M h h := outM.rf
  have W := B.wf
  have w8 := W.k8
  have wm := wf_ar W hm
  have hP := hpg.1
  obtain ⟨e12, e13⟩ := pg_at hpg W hm hi hx
  have x8 : x.1 ≤ 8 := by
    obtain ⟨_, _, _, _, _, q, _⟩ := B.at_ _ _ hx
    exact q
  have okc : okC (tyF P sh) (60 * m + i, n0, g) := okC_st (by omega) (by omega) hx hg
  obtain ⟨a1, a2, a3, a4, a5, a6, a7, a8, a9⟩ := id hD
  obtain ⟨r31, rr⟩ := a4.1 (60 * m + i) (by omega)
  have d60 : (60 * m + i) / 60 = m := by omega
  rw [d60] at rr
  have hrt : (Z.1 (60 * m + i)).told = true → tyG P m x (Z.1 (60 * m + i)).n (Z.1 (60 * m + i)).f := fun z => by
    have q := (a8 (60 * m + i) (by omega)).1 z
    rw [tyF_st (by omega) (by omega) hx] at q
    exact q
  refine gi_bipush (q := 2) (v := 14) C (dm_Mo_comeTo 0 rfl) rfl (by decide) ?_
  refine gi_iload_n (q := 3) (i := 1) C (dm_Mo_comeTo 1 rfl) rfl rfl rfl ?_
  refine gi_imul (q := 4) C (dm_Mo_comeTo 2 rfl) rfl ?_
  rw [show (14 : Int32) = nI 14 from rfl, nI_ml]
  refine gi_istore_n (q := 5) (i := 2) C (dm_Mo_comeTo 3 rfl) rfl rfl (Nat.le_of_ble_eq_true rfl) ?_
  refine gi_aload_n (q := 6) (i := 0) C (dm_Mo_comeTo 4 rfl) rfl rfl rfl ?_
  refine gi_get (q := 9) C (dm_Mo_comeTo 5 rfl) rfl fl_Mo_392 Ha (mo_g47 Hf) ?_
  refine gi_iconst (q := 10) (v := 2) C (dm_Mo_comeTo 6 rfl) rfl (by decide) ?_
  refine gi_icmp_ne (q := 13) (tgt := 47) C (dm_Mo_comeTo 7 rfl) rfl (by decide) (fun c10 => ?_) (fun c10 => ?_)
  · have m2 : ¬ md = 2 := by
      rw [a1, show (2 : Int32) = nI 2 from rfl, nI_eqP (by omega) (by decide)] at c10
      exact c10
    refine gi_aload_n (q := 48) (i := 0) C (dm_Mo_comeTo 26 rfl) rfl rfl rfl ?_
    refine gi_get (q := 51) C (dm_Mo_comeTo 27 rfl) rfl fl_Mo_57 Ha (mo_g31 Hf) ?_
    refine gi_iload_n (q := 52) (i := 1) C (dm_Mo_comeTo 28 rfl) rfl rfl rfl ?_
    refine gi_zald (q := 53) C (dm_Mo_comeTo 29 rfl) rfl rfl (mo_a31 H) (inN (show 60 * m + i < 960 by omega) (by decide)) ?_
    rw [nI_clamp (show 60 * m + i < 2 ^ 31 by omega), r31]
    refine gi_if_ne (q := 56) (tgt := 168) C (dm_Mo_comeTo 30 rfl) rfl (by decide) (fun c53 => ?_) (fun c53 => ?_)
    · have tt : (Z.1 (60 * m + i)).told = true := bI_t c53
      obtain ⟨-, -, rw0⟩ := rr tt
      have ty0 := hrt tt
      refine gi_close (come_c C hr W hm hi hP x8 e12 e13 hw hg rw0 ty0 H ho (fun J2 y2 H2 o2 q2 => ?_)) (List.forall_mem_cons.mpr ⟨rfl, List.forall_mem_cons.mpr ⟨rfl, List.forall_mem_cons.mpr ⟨rfl, fun _ h => absurd h List.not_mem_nil⟩⟩⟩) rfl rfl rfl
      obtain ⟨fs2, Ha2, Hf2⟩ := id H2.1
      refine gi_iload_n (q := 426) (i := 3) C (dm_Mo_comeTo 256 rfl) rfl rfl rfl ?_
      refine gi_if_ne (q := 429) (tgt := 430) C (dm_Mo_comeTo 257 rfl) rfl (by decide) (fun c426 => ?_) (fun c426 => ?_)
      · have nc : covR (Z.1 (60 * m + i)) n0 g = false := nbt c426
        have jr : joinR (grF (wdF k P) (60 * m + i) && decide (md = 0)) (Z.1 (60 * m + i)) n0 g = mkR true ((Z.1 (60 * m + i)).ch + 1) (Z.1 (60 * m + i)).n (fun i2 => joinSl (grF (wdF k P) (60 * m + i) && decide (md = 0) && decide (4 ≤ (Z.1 (60 * m + i)).ch + 1)) ((Z.1 (60 * m + i)).f i2) (g i2)) := by
          unfold joinR
          rw [if_neg (by rw [tt]; decide), if_neg (by rw [nc]; decide), tt]
        have H := H2
        have Ha := Ha2
        have Hf := Hf2
        have ho := o2
        refine gi_aload_n (q := 431) (i := 0) C (dm_Mo_comeTo 259 rfl) rfl rfl rfl ?_
        refine gi_iconst (q := 432) (v := 1) C (dm_Mo_comeTo 260 rfl) rfl (by decide) ?_
        refine gi_put (q := 435) C (dm_Mo_comeTo 261 rfl) rfl fl_Mo_401 fp_Mo_50 Ha (by rw [Hf.1]; decide) rfl rfl ?_
        refine gi_genM (H.putI Ha Hf (by decide) rfl) (ho.up (by omega) (by omega)) (fun y H ho => ?_)
        obtain ⟨fs, Ha, Hf⟩ := id H.1
        refine gi_iconst (q := 436) (v := 0) C (dm_Mo_comeTo 262 rfl) rfl (by decide) ?_
        refine gi_istore (q := 438) C (dm_Mo_comeTo 263 rfl) rfl (Nat.le_of_ble_eq_true rfl) ?_
        refine gi_aload_n (q := 439) (i := 0) C (dm_Mo_comeTo 264 rfl) rfl rfl rfl ?_
        refine gi_get (q := 442) C (dm_Mo_comeTo 265 rfl) rfl fl_Mo_392 Ha (mo_g47 Hf) ?_
        refine gi_if_ne (q := 445) (tgt := 481) C (dm_Mo_comeTo 266 rfl) rfl (by decide) (fun c442 => ?_) (fun c442 => ?_)
        · have m0 : ¬ md = 0 := by
            rw [show upS S 50 1 47 = S 47 from rfl, a1, nI_z (by omega)] at c442
            exact c442
          have s5 : stC (60 * m + i) F F G G := ⟨fun _ _ => rfl, fun _ _ => rfl, fun _ _ => rfl, fun _ _ => rfl, fun _ _ => rfl⟩
          have fe : (grF (wdF k P) (60 * m + i) && decide (md = 0) && decide (4 ≤ (Z.1 (60 * m + i)).ch + 1)) = false := by
            rw [decide_eq_false m0, Bool.and_false, Bool.false_and]
          refine gi_close (come_d (far := (grF (wdF k P) (60 * m + i) && decide (md = 0) && decide (4 ≤ (Z.1 (60 * m + i)).ch + 1))) C hr W hm hi (fun a h1 h2 => by rw [s5.1 a (by omega)]; exact hP a h1 h2) x8 (by rw [s5.1 12 (by decide)]; exact e12) (by rw [s5.1 13 (by decide)]; exact e13) (by
              intro i2 hi2
              have z := hw i2 hi2
              unfold cW at z ⊢
              rw [s5.1 55 (by decide), s5.1 56 (by decide), s5.1 57 (by decide)]
              exact z) hg (by
              intro i2 hi2
              have z := rw0 i2 hi2
              unfold cS at z ⊢
              skip
              exact z) ty0 H ho (fun J3 F3 G3 y3 H3 o3 q3 c3 rw3 => ⟨rfl, rfl, _, J3, F3, G3, H3, o3, (s5.tr (stC.of c3)).fr (fun j q1 q2 => by unfold upS; rw [if_neg q1]) (q2.tr q3), md_put m2 hD okc (by omega) (s5.tr (stC.of c3)) ?_ (fun j q1 => by unfold upS; rw [if_neg q1]) ?_ (fun z wq => ?_)⟩)) (List.forall_mem_cons.mpr ⟨(by first | rfl | (rw [fe]; rfl)), List.forall_mem_cons.mpr ⟨rfl, List.forall_mem_cons.mpr ⟨rfl, List.forall_mem_cons.mpr ⟨rfl, fun _ h => absurd h List.not_mem_nil⟩⟩⟩⟩) rfl rfl rfl
          · rw [jr]
            refine ⟨?_, fun _ => ?_⟩
            · rw [c3.1 31 (by decide) (by decide) (by decide), r31, tt]
            · rw [d60]
              exact ⟨wm.2.1, by have := G_n ty0; show (Z.1 (60 * m + i)).n - _ ≤ 8; omega, rw3⟩
          · show (1 : Int32) = _
            unfold newR
            rw [nc]
            simp [bI]
          · exact absurd z m0
        · have m0 : md = 0 := by
            rw [show upS S 50 1 47 = S 47 from rfl, a1, nI_z (by omega)] at c442
            exact c442
          have cb : wdF k P (60 * m + i) = true → (Z.1 (60 * m + i)).ch + 1 < 2 ^ 31 ∧ F 38 (60 * m + i) = nI (Z.1 (60 * m + i)).ch := fun wq => by
            have z := ((a9 m0).2 (60 * m + i) (by omega) (by unfold grF; rw [wq]; simp)).2 tt
            have y := tyF_st (P := P) (sh := sh) (by omega) (by omega) hx
            rw [y] at z
            have y2 : (tyS P m x).1 = pN P 2 m + x.1 := rfl
            rw [y2] at z
            exact ⟨by omega, (a9 m0).1.1 _ (by omega) wq⟩
          have hd16 := hpg.2.2.2.2 m i hm hi
          have gp : grF (wdF k P) (60 * m + i) = wdF k P (60 * m + i) := by unfold grF; rw [decide_eq_false (by omega), Bool.false_or]
          
          refine gi_aload_n (q := 446) (i := 0) C (dm_Mo_comeTo 267 rfl) rfl rfl rfl ?_
          refine gi_get (q := 449) C (dm_Mo_comeTo 268 rfl) rfl fl_Mo_80 Ha (mo_g38 Hf) ?_
          refine gi_iload_n (q := 450) (i := 1) C (dm_Mo_comeTo 269 rfl) rfl rfl rfl ?_
          refine gi_dup2_11 (q := 451) C (dm_Mo_comeTo 270 rfl) rfl rfl rfl ?_
          refine gi_iald (q := 452) C (dm_Mo_comeTo 271 rfl) rfl rfl (mo_a38 H) (inN (show 60 * m + i < 480 by omega) (by decide)) ?_
          refine gi_iconst (q := 453) (v := 1) C (dm_Mo_comeTo 272 rfl) rfl (by decide) ?_
          refine gi_iadd (q := 454) C (dm_Mo_comeTo 273 rfl) rfl ?_
          refine gi_iast (q := 455) C (dm_Mo_comeTo 274 rfl) rfl rfl (mo_a38 H) (inN (show 60 * m + i < 480 by omega) (by decide)) ?_
          refine gi_genM (H.setI (p := 20) (k := 38) (by decide) rfl rfl (by decide) rfl (by omega)) (ho.up (by omega) (by omega)) (fun y H ho => ?_)
          obtain ⟨fs, Ha, Hf⟩ := id H.1
          rw [nI_clamp (show 60 * m + i < 2 ^ 31 by omega)] at H
          have s5 : stC (60 * m + i) F (upA F 38 (upd (F 38) (60 * m + i) (F 38 (60 * m + i) + 1))) G G := ⟨fun a ha => upA_n (by omega), fun _ _ => rfl, fun q hq => by rw [upA_n (by decide)], fun q hq => by rw [upA_i, upd_is, if_neg hq], fun q hq => by unfold cS; rw [upA_n (by decide), upA_n (by decide), upA_n (by decide)]⟩
          
          refine gi_aload_n (q := 456) (i := 0) C (dm_Mo_comeTo 275 rfl) rfl rfl rfl ?_
          refine gi_get (q := 459) C (dm_Mo_comeTo 276 rfl) rfl fl_Mo_80 Ha (mo_g38 Hf) ?_
          refine gi_iload_n (q := 460) (i := 1) C (dm_Mo_comeTo 277 rfl) rfl rfl rfl ?_
          refine gi_iald (q := 461) C (dm_Mo_comeTo 278 rfl) rfl rfl (mo_a38 H) (inN (show 60 * m + i < 480 by omega) (by decide)) ?_
          rw [nI_clamp (show 60 * m + i < 2 ^ 31 by omega), upA_i, upd_is, if_pos rfl]
          refine gi_iconst (q := 462) (v := 4) C (dm_Mo_comeTo 279 rfl) rfl (by decide) ?_
          refine gi_icmp_lt (q := 465) (tgt := 478) C (dm_Mo_comeTo 280 rfl) rfl (by decide) (fun c462 => ?_) (fun c462 => ?_)
          · refine gi_iconst (q := 479) (v := 0) C (dm_Mo_comeTo 288 rfl) rfl (by decide) ?_
            refine gi_istore (q := 481) C (dm_Mo_comeTo 289 rfl) rfl (Nat.le_of_ble_eq_true rfl) ?_
            have fe : (grF (wdF k P) (60 * m + i) && decide (md = 0) && decide (4 ≤ (Z.1 (60 * m + i)).ch + 1)) = false := by
              rw [gp]
              cases wq : wdF k P (60 * m + i) with
              | false => rfl
              | true =>
                obtain ⟨b1, b2⟩ := cb wq
                first
                  | exact absurd (bI_fa c471) (by rw [wq]; decide)
                  | (rw [b2, nI_1, show (4 : Int32) = nI 4 from rfl, nI_ltP (by omega) (by decide)] at c462; rw [decide_eq_false (show ¬ 4 ≤ (Z.1 (60 * m + i)).ch + 1 by omega), Bool.and_false])
            refine gi_close (come_d (far := (grF (wdF k P) (60 * m + i) && decide (md = 0) && decide (4 ≤ (Z.1 (60 * m + i)).ch + 1))) C hr W hm hi (fun a h1 h2 => by rw [s5.1 a (by omega)]; exact hP a h1 h2) x8 (by rw [s5.1 12 (by decide)]; exact e12) (by rw [s5.1 13 (by decide)]; exact e13) (by
                intro i2 hi2
                have z := hw i2 hi2
                unfold cW at z ⊢
                rw [s5.1 55 (by decide), s5.1 56 (by decide), s5.1 57 (by decide)]
                exact z) hg (by
                intro i2 hi2
                have z := rw0 i2 hi2
                unfold cS at z ⊢
                rw [upA_n (by decide), upA_n (by decide), upA_n (by decide)]
                exact z) ty0 H ho (fun J3 F3 G3 y3 H3 o3 q3 c3 rw3 => ⟨rfl, rfl, _, J3, F3, G3, H3, o3, (s5.tr (stC.of c3)).fr (fun j q1 q2 => by unfold upS; rw [if_neg q1]) (q2.tr q3), md_put m2 hD okc (by omega) (s5.tr (stC.of c3)) ?_ (fun j q1 => by unfold upS; rw [if_neg q1]) ?_ (fun z wq => ?_)⟩)) (List.forall_mem_cons.mpr ⟨(by first | rfl | (rw [fe]; rfl)), List.forall_mem_cons.mpr ⟨rfl, List.forall_mem_cons.mpr ⟨rfl, List.forall_mem_cons.mpr ⟨rfl, fun _ h => absurd h List.not_mem_nil⟩⟩⟩⟩) rfl rfl rfl
            · rw [jr]
              refine ⟨?_, fun _ => ?_⟩
              · rw [c3.1 31 (by decide) (by decide) (by decide), upA_n (by decide), r31, tt]
              · rw [d60]
                exact ⟨wm.2.1, by have := G_n ty0; show (Z.1 (60 * m + i)).n - _ ≤ 8; omega, rw3⟩
            · show (1 : Int32) = _
              unfold newR
              rw [nc]
              simp [bI]
            · rw [jr, c3.1 38 (by decide) (by decide) (by decide), upA_i, upd_is, if_pos rfl, (a9 m0).1.1 _ (by omega) wq, nI_1]
          · refine gi_aload_n (q := 466) (i := 0) C (dm_Mo_comeTo 281 rfl) rfl rfl rfl ?_
            refine gi_get (q := 469) C (dm_Mo_comeTo 282 rfl) rfl fl_Mo_51 Ha (mo_g16 Hf) ?_
            refine gi_iload_n (q := 470) (i := 1) C (dm_Mo_comeTo 283 rfl) rfl rfl rfl ?_
            refine gi_zald (q := 471) C (dm_Mo_comeTo 284 rfl) rfl rfl (mo_a16 H) (inN (show 60 * m + i < 480 by omega) (by decide)) ?_
            rw [nI_clamp (show 60 * m + i < 2 ^ 31 by omega), upA_n (by decide), hd16]
            refine gi_if_eq (q := 474) (tgt := 478) C (dm_Mo_comeTo 285 rfl) rfl (by decide) (fun c471 => ?_) (fun c471 => ?_)
            · refine gi_iconst (q := 479) (v := 0) C (dm_Mo_comeTo 288 rfl) rfl (by decide) ?_
              refine gi_istore (q := 481) C (dm_Mo_comeTo 289 rfl) rfl (Nat.le_of_ble_eq_true rfl) ?_
              have fe : (grF (wdF k P) (60 * m + i) && decide (md = 0) && decide (4 ≤ (Z.1 (60 * m + i)).ch + 1)) = false := by
                rw [gp]
                cases wq : wdF k P (60 * m + i) with
                | false => rfl
                | true =>
                  obtain ⟨b1, b2⟩ := cb wq
                  first
                    | exact absurd (bI_fa c471) (by rw [wq]; decide)
                    | (rw [b2, nI_1, show (4 : Int32) = nI 4 from rfl, nI_ltP (by omega) (by decide)] at c462; rw [decide_eq_false (show ¬ 4 ≤ (Z.1 (60 * m + i)).ch + 1 by omega), Bool.and_false])
              refine gi_close (come_d (far := (grF (wdF k P) (60 * m + i) && decide (md = 0) && decide (4 ≤ (Z.1 (60 * m + i)).ch + 1))) C hr W hm hi (fun a h1 h2 => by rw [s5.1 a (by omega)]; exact hP a h1 h2) x8 (by rw [s5.1 12 (by decide)]; exact e12) (by rw [s5.1 13 (by decide)]; exact e13) (by
                  intro i2 hi2
                  have z := hw i2 hi2
                  unfold cW at z ⊢
                  rw [s5.1 55 (by decide), s5.1 56 (by decide), s5.1 57 (by decide)]
                  exact z) hg (by
                  intro i2 hi2
                  have z := rw0 i2 hi2
                  unfold cS at z ⊢
                  rw [upA_n (by decide), upA_n (by decide), upA_n (by decide)]
                  exact z) ty0 H ho (fun J3 F3 G3 y3 H3 o3 q3 c3 rw3 => ⟨rfl, rfl, _, J3, F3, G3, H3, o3, (s5.tr (stC.of c3)).fr (fun j q1 q2 => by unfold upS; rw [if_neg q1]) (q2.tr q3), md_put m2 hD okc (by omega) (s5.tr (stC.of c3)) ?_ (fun j q1 => by unfold upS; rw [if_neg q1]) ?_ (fun z wq => ?_)⟩)) (List.forall_mem_cons.mpr ⟨(by first | rfl | (rw [fe]; rfl)), List.forall_mem_cons.mpr ⟨rfl, List.forall_mem_cons.mpr ⟨rfl, List.forall_mem_cons.mpr ⟨rfl, fun _ h => absurd h List.not_mem_nil⟩⟩⟩⟩) rfl rfl rfl
              · rw [jr]
                refine ⟨?_, fun _ => ?_⟩
                · rw [c3.1 31 (by decide) (by decide) (by decide), upA_n (by decide), r31, tt]
                · rw [d60]
                  exact ⟨wm.2.1, by have := G_n ty0; show (Z.1 (60 * m + i)).n - _ ≤ 8; omega, rw3⟩
              · show (1 : Int32) = _
                unfold newR
                rw [nc]
                simp [bI]
              · rw [jr, c3.1 38 (by decide) (by decide) (by decide), upA_i, upd_is, if_pos rfl, (a9 m0).1.1 _ (by omega) wq, nI_1]
            · refine gi_iconst (q := 475) (v := 1) C (dm_Mo_comeTo 286 rfl) rfl (by decide) ?_
              refine gi_goto (tgt := 479) C (dm_Mo_comeTo 287 rfl) (by decide) ?_
              refine gi_istore (q := 481) C (dm_Mo_comeTo 289 rfl) rfl (Nat.le_of_ble_eq_true rfl) ?_
              have fe : (grF (wdF k P) (60 * m + i) && decide (md = 0) && decide (4 ≤ (Z.1 (60 * m + i)).ch + 1)) = true := by
                have wq : wdF k P (60 * m + i) = true := bI_t c471
                obtain ⟨b1, b2⟩ := cb wq
                rw [b2, nI_1, show (4 : Int32) = nI 4 from rfl, nI_ltP (by omega) (by decide)] at c462
                rw [gp, wq, m0, decide_eq_true (show 4 ≤ (Z.1 (60 * m + i)).ch + 1 by omega)]
                rfl
              refine gi_close (come_d (far := (grF (wdF k P) (60 * m + i) && decide (md = 0) && decide (4 ≤ (Z.1 (60 * m + i)).ch + 1))) C hr W hm hi (fun a h1 h2 => by rw [s5.1 a (by omega)]; exact hP a h1 h2) x8 (by rw [s5.1 12 (by decide)]; exact e12) (by rw [s5.1 13 (by decide)]; exact e13) (by
                  intro i2 hi2
                  have z := hw i2 hi2
                  unfold cW at z ⊢
                  rw [s5.1 55 (by decide), s5.1 56 (by decide), s5.1 57 (by decide)]
                  exact z) hg (by
                  intro i2 hi2
                  have z := rw0 i2 hi2
                  unfold cS at z ⊢
                  rw [upA_n (by decide), upA_n (by decide), upA_n (by decide)]
                  exact z) ty0 H ho (fun J3 F3 G3 y3 H3 o3 q3 c3 rw3 => ⟨rfl, rfl, _, J3, F3, G3, H3, o3, (s5.tr (stC.of c3)).fr (fun j q1 q2 => by unfold upS; rw [if_neg q1]) (q2.tr q3), md_put m2 hD okc (by omega) (s5.tr (stC.of c3)) ?_ (fun j q1 => by unfold upS; rw [if_neg q1]) ?_ (fun z wq => ?_)⟩)) (List.forall_mem_cons.mpr ⟨(by first | rfl | (rw [fe]; rfl)), List.forall_mem_cons.mpr ⟨rfl, List.forall_mem_cons.mpr ⟨rfl, List.forall_mem_cons.mpr ⟨rfl, fun _ h => absurd h List.not_mem_nil⟩⟩⟩⟩) rfl rfl rfl
              · rw [jr]
                refine ⟨?_, fun _ => ?_⟩
                · rw [c3.1 31 (by decide) (by decide) (by decide), upA_n (by decide), r31, tt]
                · rw [d60]
                  exact ⟨wm.2.1, by have := G_n ty0; show (Z.1 (60 * m + i)).n - _ ≤ 8; omega, rw3⟩
              · show (1 : Int32) = _
                unfold newR
                rw [nc]
                simp [bI]
              · rw [jr, c3.1 38 (by decide) (by decide) (by decide), upA_i, upd_is, if_pos rfl, (a9 m0).1.1 _ (by omega) wq, nI_1]
      · refine gi_vret C hr (dm_Mo_comeTo 258 rfl) ?_
        have nc : covR (Z.1 (60 * m + i)) n0 g = true := nbf c426
        have nw : newR (Z.1 (60 * m + i)) n0 g = false := newR_iff.mpr ⟨tt, nc⟩
        refine ⟨rfl, rfl, S, J2, F, G, H2, o2, ⟨fun _ _ _ => rfl, q2, fun _ _ => rfl, fun _ _ => rfl⟩, ?_⟩
        rw [show comeM md (grF (wdF k P)) Z (60 * m + i, n0, g) = Z from by
          unfold comeM
          rw [if_neg m2]
          exact come_id nw]
        exact hD
    · have tf : (Z.1 (60 * m + i)).told = false := bI_fa c53
      have jr : joinR (grF (wdF k P) (60 * m + i) && decide (md = 0)) (Z.1 (60 * m + i)) n0 g = mkR true (Z.1 (60 * m + i)).ch n0 g := by
        unfold joinR
        rw [if_pos tf]
      refine gi_close (come_b C hr W hm hi hP x8 e12 e13 hw hg H ho (fun F' G' y' H' o' s' s31 s38 rw' => ⟨rfl, rfl, _, J, F', G', H', o', s'.fr (fun j q1 q2 => by unfold upS; rw [if_neg q1]) frJ.rf, md_put m2 hD okc (by omega) s' ?_ (fun j q1 => by unfold upS; rw [if_neg q1]) ?_ (fun z wq => ?_)⟩)) (List.forall_mem_cons.mpr ⟨rfl, List.forall_mem_cons.mpr ⟨rfl, List.forall_mem_cons.mpr ⟨rfl, fun _ h => absurd h List.not_mem_nil⟩⟩⟩) rfl rfl rfl
      · rw [jr]
        refine ⟨s31, fun _ => ?_⟩
        rw [d60]
        exact ⟨wm.2.1, by have := G_n hg; show n0 - _ ≤ 8; omega, rw'⟩
      · show (1 : Int32) = _
        unfold newR
        rw [tf]
        simp [bI]
      · rw [jr, s38]
        exact (a9 z).1.1 _ (by omega) wq
  · have m2 : md = 2 := by
      rw [a1, show (2 : Int32) = nI 2 from rfl, nI_eqP (by omega) (by decide)] at c10
      exact c10
    have hz0 : ¬ S 51 = 0 → Z.2 = false := fun q => by
      rw [a7 m2] at q
      cases e : Z.2 with
      | false => rfl
      | true => rw [e] at q; exact absurd rfl q
    have hz1 : S 51 = 0 → Z.2 = true := fun q => by
      rw [a7 m2] at q
      exact nbf q
    refine gi_aload_n (q := 14) (i := 0) C (dm_Mo_comeTo 8 rfl) rfl rfl rfl ?_
    refine gi_aload_n (q := 15) (i := 0) C (dm_Mo_comeTo 9 rfl) rfl rfl rfl ?_
    refine gi_get (q := 18) C (dm_Mo_comeTo 10 rfl) rfl fl_Mo_395 Ha (mo_g51 Hf) ?_
    refine gi_if_eq (q := 21) (tgt := 42) C (dm_Mo_comeTo 11 rfl) rfl (by decide) (fun c18 => ?_) (fun c18 => ?_)
    · refine gi_iconst (q := 43) (v := 0) C (dm_Mo_comeTo 23 rfl) rfl (by decide) ?_
      refine gi_put (q := 46) C (dm_Mo_comeTo 24 rfl) rfl fl_Mo_395 fp_Mo_51 Ha (by rw [Hf.1]; decide) rfl rfl ?_
      refine gi_genM (H.putI Ha Hf (by decide) rfl) (ho.up (by omega) (by omega)) (fun y H ho => ?_)
      obtain ⟨fs, Ha, Hf⟩ := id H.1
      refine gi_vret C hr (dm_Mo_comeTo 25 rfl) ?_
      refine ⟨rfl, rfl, _, J, F, G, H, ho, ⟨fun j q1 q2 => by unfold upS; rw [if_neg q2], frJ.rf, fun _ _ => rfl, fun _ _ => rfl⟩, a1, a2, a3, ?_, fun z => absurd z (by omega), fun z => absurd m2 z, fun _ => ?_, ?_, fun z => absurd z (by omega)⟩
      · rw [m2, show Z = (Z.1, Z.2) from rfl, comeM_2]
        exact a4
      · rw [m2, show Z = (Z.1, Z.2) from rfl, comeM_2]
        show (0 : Int32) = bI (!(Z.2 || newR (Z.1 (60 * m + i)) n0 g))
        unfold newR
        first
          | (rw [show Z.2 = true from hz1 c18]; rfl)
          | (rw [show (Z.1 (60 * m + i)).told = false from bI_fa c27]; simp [bI]; done)
          | (rw [show covR (Z.1 (60 * m + i)) n0 g = false from bI_fa c35]; simp [bI]; done)
      · rw [m2, show Z = (Z.1, Z.2) from rfl, comeM_2]
        exact a8
    · refine gi_aload_n (q := 22) (i := 0) C (dm_Mo_comeTo 12 rfl) rfl rfl rfl ?_
      refine gi_get (q := 25) C (dm_Mo_comeTo 13 rfl) rfl fl_Mo_57 Ha (mo_g31 Hf) ?_
      refine gi_iload_n (q := 26) (i := 1) C (dm_Mo_comeTo 14 rfl) rfl rfl rfl ?_
      refine gi_zald (q := 27) C (dm_Mo_comeTo 15 rfl) rfl rfl (mo_a31 H) (inN (show 60 * m + i < 960 by omega) (by decide)) ?_
      rw [nI_clamp (show 60 * m + i < 2 ^ 31 by omega), r31]
      refine gi_if_eq (q := 30) (tgt := 42) C (dm_Mo_comeTo 16 rfl) rfl (by decide) (fun c27 => ?_) (fun c27 => ?_)
      · refine gi_iconst (q := 43) (v := 0) C (dm_Mo_comeTo 23 rfl) rfl (by decide) ?_
        refine gi_put (q := 46) C (dm_Mo_comeTo 24 rfl) rfl fl_Mo_395 fp_Mo_51 Ha (by rw [Hf.1]; decide) rfl rfl ?_
        refine gi_genM (H.putI Ha Hf (by decide) rfl) (ho.up (by omega) (by omega)) (fun y H ho => ?_)
        obtain ⟨fs, Ha, Hf⟩ := id H.1
        refine gi_vret C hr (dm_Mo_comeTo 25 rfl) ?_
        refine ⟨rfl, rfl, _, J, F, G, H, ho, ⟨fun j q1 q2 => by unfold upS; rw [if_neg q2], frJ.rf, fun _ _ => rfl, fun _ _ => rfl⟩, a1, a2, a3, ?_, fun z => absurd z (by omega), fun z => absurd m2 z, fun _ => ?_, ?_, fun z => absurd z (by omega)⟩
        · rw [m2, show Z = (Z.1, Z.2) from rfl, comeM_2]
          exact a4
        · rw [m2, show Z = (Z.1, Z.2) from rfl, comeM_2]
          show (0 : Int32) = bI (!(Z.2 || newR (Z.1 (60 * m + i)) n0 g))
          unfold newR
          first
            | (rw [show Z.2 = true from hz1 c18]; rfl)
            | (rw [show (Z.1 (60 * m + i)).told = false from bI_fa c27]; simp [bI]; done)
            | (rw [show covR (Z.1 (60 * m + i)) n0 g = false from bI_fa c35]; simp [bI]; done)
        · rw [m2, show Z = (Z.1, Z.2) from rfl, comeM_2]
          exact a8
      · refine gi_aload_n (q := 31) (i := 0) C (dm_Mo_comeTo 17 rfl) rfl rfl rfl ?_
        refine gi_iload_n (q := 32) (i := 1) C (dm_Mo_comeTo 18 rfl) rfl rfl rfl ?_
        refine gi_callv 1 (q := 35) C (dm_Mo_comeTo 19 rfl) rfl my_Mo_isHeld lk_Mo_398 im_Mo_isHeld rfl (c_Mo_isHeld (r := Z.1 (60 * m + i)) W hm hi hP x8 e12 e13 hw hg (rr (bI_t c27)).2.2 (hrt (bI_t c27)) H) Ha rfl rfl ⟨(Nat.le_of_ble_eq_true rfl), (Nat.le_of_ble_eq_true rfl)⟩ (Nat.le_of_ble_eq_true rfl) ⟨(Nat.le_of_ble_eq_true rfl), (Nat.le_of_ble_eq_true rfl)⟩ (fun r32 n32 h32 e32 => ?_)
        obtain ⟨rfl, q32, u32⟩ := e32
        rw [q32, u32]
        refine gi_if_eq (q := 38) (tgt := 42) C (dm_Mo_comeTo 20 rfl) rfl (by decide) (fun c35 => ?_) (fun c35 => ?_)
        · refine gi_iconst (q := 43) (v := 0) C (dm_Mo_comeTo 23 rfl) rfl (by decide) ?_
          refine gi_put (q := 46) C (dm_Mo_comeTo 24 rfl) rfl fl_Mo_395 fp_Mo_51 Ha (by rw [Hf.1]; decide) rfl rfl ?_
          refine gi_genM (H.putI Ha Hf (by decide) rfl) (ho.up (by omega) (by omega)) (fun y H ho => ?_)
          obtain ⟨fs, Ha, Hf⟩ := id H.1
          refine gi_vret C hr (dm_Mo_comeTo 25 rfl) ?_
          refine ⟨rfl, rfl, _, J, F, G, H, ho, ⟨fun j q1 q2 => by unfold upS; rw [if_neg q2], frJ.rf, fun _ _ => rfl, fun _ _ => rfl⟩, a1, a2, a3, ?_, fun z => absurd z (by omega), fun z => absurd m2 z, fun _ => ?_, ?_, fun z => absurd z (by omega)⟩
          · rw [m2, show Z = (Z.1, Z.2) from rfl, comeM_2]
            exact a4
          · rw [m2, show Z = (Z.1, Z.2) from rfl, comeM_2]
            show (0 : Int32) = bI (!(Z.2 || newR (Z.1 (60 * m + i)) n0 g))
            unfold newR
            first
              | (rw [show Z.2 = true from hz1 c18]; rfl)
              | (rw [show (Z.1 (60 * m + i)).told = false from bI_fa c27]; simp [bI]; done)
              | (rw [show covR (Z.1 (60 * m + i)) n0 g = false from bI_fa c35]; simp [bI]; done)
          · rw [m2, show Z = (Z.1, Z.2) from rfl, comeM_2]
            exact a8
        · refine gi_iconst (q := 39) (v := 1) C (dm_Mo_comeTo 21 rfl) rfl (by decide) ?_
          refine gi_goto (tgt := 43) C (dm_Mo_comeTo 22 rfl) (by decide) ?_
          refine gi_put (q := 46) C (dm_Mo_comeTo 24 rfl) rfl fl_Mo_395 fp_Mo_51 Ha (by rw [Hf.1]; decide) rfl rfl ?_
          refine gi_genM (H.putI Ha Hf (by decide) rfl) (ho.up (by omega) (by omega)) (fun y H ho => ?_)
          obtain ⟨fs, Ha, Hf⟩ := id H.1
          refine gi_vret C hr (dm_Mo_comeTo 25 rfl) ?_
          refine ⟨rfl, rfl, _, J, F, G, H, ho, ⟨fun j q1 q2 => by unfold upS; rw [if_neg q2], frJ.rf, fun _ _ => rfl, fun _ _ => rfl⟩, a1, a2, a3, ?_, fun z => absurd z (by omega), fun z => absurd m2 z, fun _ => ?_, ?_, fun z => absurd z (by omega)⟩
          · rw [m2, show Z = (Z.1, Z.2) from rfl, comeM_2]
            exact a4
          · rw [m2, show Z = (Z.1, Z.2) from rfl, comeM_2]
            show (1 : Int32) = bI (!(Z.2 || newR (Z.1 (60 * m + i)) n0 g))
            unfold newR
            rw [show Z.2 = false from hz0 c18, show (Z.1 (60 * m + i)).told = true from bI_t c27, show covR (Z.1 (60 * m + i)) n0 g = true from bI_t c35]
            rfl
          · rw [m2, show Z = (Z.1, Z.2) from rfl, comeM_2]
            exact a8
end RC6
