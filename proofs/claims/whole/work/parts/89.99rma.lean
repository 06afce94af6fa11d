-- needs: 89.99rm9
section RMA
variable {l : Launch} {V : gi_V} {n : Nat} {h h' : gi_H} {M k : Nat} {P : Pm} {sh : Nat → Option Sh} {S S' : Nat → Int32} {J J' : Nat → Int64} {F F' : Nat → Nat → Int32} {G : Nat → Nat → Int64} {Fz : Fa} {cb : Bool} {z : Mc} {c m j : Nat} {Ga : Nat → Nat → Int32}
theorem upS_id {k : Nat} {v : Int32} (h : S k = v) : upS S k v = S := by
  funext i
  unfold upS
  by_cases q : i = k
  · rw [if_pos q, q, h]
  · rw [if_neg q]
/-- what a certificate says of what every run begins with -/
def crO (Fz : Fa) : Prop := (∀ j, j < 4 → rwT Fz (530 + j) 0 = true) ∧ (∀ v : Int32, 0 ≤ v → rwT Fz 480 v = true) ∧ ∀ v : Int32, rwT Fz 505 v = true
/-- a frame alone, nothing given yet -/
theorem beg_z (hm : m < 8) (l6 : pN P 2 m ≤ 6) (e75 : S 75 = 0) (e76 : S 76 = 0) (e77 : ∀ j, j < 4 → F 77 j = 0) (e81 : S 81 = 1) (e82 : S 82 = 0) (e85 : S 85 = 1) (e86 : J 86 = 0) (e88 : S 88 = 0) (e78 : ∀ i, i < 6 → F 78 i = 0) (e79 : F 79 0 = nI (60 * m)) (e80 : F 80 0 = 6) : mcR P cb (begC P Ga m 0) S J F := by
  refine ⟨show 0 < 16 by decide, ⟨⟨Nat.zero_le _, Nat.zero_le _, fun r h1 h2 => absurd h2 (by show ¬ r ≤ 0; omega)⟩, e75, e76, fun r h1 h2 => absurd h2 (by show ¬ r ≤ 0; omega), fun i hi => absurd hi (by show ¬ i < 0; omega)⟩, e77, e81, e82, e85, show 1 ≤ 16 by decide, e86, fun _ => e88, fun _ => e88, fun t ht => ?_⟩
  have t0 : t = 0 := Nat.le_zero.mp ht
  subst t0
  refine ⟨e79, ?_, Nat.le_refl _, l6, by show pN P 2 m - pN P 2 m ≤ 8; omega, ⟨hm, Nat.zero_le _⟩, fun j hj => ?_⟩
  · rw [e80]
    show 6 = nI (pN P 2 m - pN P 2 m + 6)
    rw [Nat.sub_self]
    rfl
  · have hj' : j < pN P 2 m := hj
    show F 78 (14 * 0 + sl (pN P 2 m) j) = 0
    rw [sl_lo hj']
    exact (congrArg (F 78) (by omega)).trans (e78 j (by omega))
/-- one more is laid into its slot -/
theorem beg_put {v : Int32} (R : mcR P cb z S J F) (ez : z.top = 0) (ec : z.cur = mkF m 0 (pN P 2 m) (begG Ga j).1) (ef : z.fd = fun _ => 0) (eh : z.hp = givH Ga j (begG Ga j).2) (ea : cb = true → z.as = false) (ew : z.wr = 0) (ed : z.dp = 1) (eg : z.gv = 0) (hj : j < pN P 2 m) (ev : givV Ga j (begG Ga j).2 = v) (e : ∀ a, a ≠ 78 → F' a = F a) (e78 : ∀ i, F' 78 i = if i = j then v else F 78 i) : mcR P cb (begC P Ga m (j + 1)) S J F' := by
  obtain ⟨r1, ⟨q1, q2, q3, q4, q5⟩, r3, r4, r5, r6, r7, r8, r9, r9', r10⟩ := R
  rw [eh] at q1 q2 q3 q4 q5
  refine ⟨show 0 < 16 by decide, ⟨q1, q2, q3, ?_, ?_⟩, ?_, by rw [ez] at r4; exact r4, r5.trans ew, by rw [ed] at r6; exact r6, show 1 ≤ 16 by decide, r8.trans eg, fun c => by rw [r9 c, ea c]; rfl, r9', fun t ht => ?_⟩
  · rw [e 72 (by decide), e 73 (by decide), e 74 (by decide)]; exact q4
  · rw [e 71 (by decide)]; exact q5
  · rw [e 77 (by decide)]
    intro i hi
    rw [r3 i hi, ef]
    rfl
  · have t0 : t = 0 := Nat.le_zero.mp ht
    subst t0
    have R0 := r10 0 (Nat.zero_le _)
    have e0 : z.fr 0 = mkF m 0 (pN P 2 m) (begG Ga j).1 := by
      have q : z.cur = z.fr 0 := by show z.fr z.top = z.fr 0; rw [ez]
      rw [← q]
      exact ec
    rw [e0] at R0
    obtain ⟨p1, p2, p3, p4, p5, p6, p7⟩ := R0
    refine ⟨by rw [e 79 (by decide)]; exact p1, by rw [e 80 (by decide)]; exact p2, p3, p4, p5, p6, fun i hi => ?_⟩
    have hi' : i < pN P 2 m := hi
    show F' 78 (14 * 0 + sl (pN P 2 m) i) = upO (begG Ga j).1 j (givV Ga j (begG Ga j).2) i
    have q7 : F 78 (14 * 0 + sl (pN P 2 m) i) = (begG Ga j).1 i := p7 i hi
    rw [sl_lo hi'] at q7 ⊢
    rw [show 14 * 0 + i = i by omega] at q7 ⊢
    rw [e78, ev]
    by_cases q : i = j
    · rw [if_pos q, q, upO_self]
    · rw [if_neg q, upO_ne q]
      exact q7
/-- null is given: the slot is 0 as it was -/
theorem beg_nul (R : mcR P cb (begC P Ga m j) S J F) (h0 : Ga 1 j ≠ 0) (h1 : Ga 1 j ≠ 1) (hj : j < pN P 2 m) : mcR P cb (begC P Ga m (j + 1)) S J F := by
  have hv : givV Ga j (begG Ga j).2 = 0 := by unfold givV; rw [if_neg h0, if_neg h1]
  have R0 : frX P 0 (mkF m 0 (pN P 2 m) (begG Ga j).1) F := R.2.2.2.2.2.2.2.2.2.2 0 (Nat.zero_le _)
  have q7 : F 78 (14 * 0 + sl (pN P 2 m) j) = (begG Ga j).1 j := R0.2.2.2.2.2.2 j hj
  rw [sl_lo hj, show 14 * 0 + j = j by omega, (beg_v j).2 j (Nat.le_refl _)] at q7
  refine beg_put (v := 0) R rfl rfl rfl ?_ (fun _ => rfl) rfl rfl rfl hj hv (fun _ _ => rfl) (fun i => ?_)
  · show (begG Ga j).2 = givH Ga j (begG Ga j).2
    unfold givH
    rw [if_neg h1]
  · by_cases q : i = j
    · rw [if_pos q, q, q7]
    · rw [if_neg q]
end RMA
