-- needs: 89.99rmc
section RMD
variable {k : Nat} {P : Pm} {sh : Nat → Option Sh} {sn : Nat → Nat} {wd : Nat → Bool}
/-- the sites that a value names -/
def hsV (S : Nat → Prop) (v : Av) : Prop := ∀ s, (25 ≤ s ∧ s < 32) → bitA (stA v) s = true → S s
theorem hsV_s {S : Nat → Prop} {x : Sp} : hsV S (.inl x) := fun s _ h => by
  simp [stA, bitA] at h
theorem hsV_n {S : Nat → Prop} {o : Bool} : hsV S (.inr (0, o)) := fun s _ h => by
  simp [stA, bitA] at h
theorem hsV_t {S : Nat → Prop} {v : Av} {o : Bool} (h : hsV S v) : hsV S (.inr (stA v, o)) := h
theorem shl1_hi : ∀ s, s < 25 → ∀ s', s' < 32 → 25 ≤ s' → bitA (shl1 s) s' = true → s' = s := by decide +kernel
theorem hsV_m {S : Nat → Prop} {s : Nat} {o : Bool} (hs : s < 25) (h : S s) : hsV S (.inr (shl1 s, o)) := fun s' h1 h2 => by
  rw [shl1_hi s hs s' h1.2 h1.1 h2]
  exact h
def hbG (S : Nat → Prop) (n : Nat) (g : Nat → Sl) : Prop := ∀ i, i < n → hsV S (g i).1
theorem hbG_up {S : Nat → Prop} {n i m : Nat} {f : Nat → Sl} {v : Sl} (h : hbG S n f) (hv : hsV S v.1) (hm : ∀ j, j < m → j = i ∨ j < n) : hbG S m (upF f i v) := fun j hj => by
  unfold upF
  split
  · exact hv
  · rename_i q
    exact h j ((hm j hj).resolve_left q)
theorem hbG_tell {S : Nat → Prop} {n m : Nat} {f : Nat → Sl} {mk : Int32} {v : Av} (h : hbG S m f) (hv : hsV S v) : hbG S m (tellF n f mk v) := fun j hj => by
  unfold tellF
  split
  · exact h j hj
  · dsimp only
    split
    · exact hv
    · exact h j hj
theorem hbG_drop {S : Nat → Prop} {n m : Nat} {f : Nat → Sl} {mk : Int32} (h : hbG S m f) : hbG S m (dropF n f mk) := fun j hj => by
  rw [dropF_1]
  exact h j hj
theorem hbG_le {S : Nat → Prop} {n m : Nat} {f : Nat → Sl} (h : hbG S n f) (hm : m ≤ n) : hbG S m f := fun j hj => h j (by omega)
theorem hbG_opens {S : Nat → Prop} {n op : Nat} {f g : Nat → Sl} {x y : Sp} {mx my : Int32} (h : hbG S n f) (e : opensF op n f x y mx my = some g) : hbG S n g := by
  unfold opensF at e
  split at e
  · split at e
    · split at e
      · cases e
        exact hbG_tell h hsV_s
      · cases e
    · cases e
      exact hbG_tell (hbG_tell h hsV_s) hsV_s
  · cases e
theorem hbG_null {S : Nat → Prop} {n : Nat} {q : Bool} {f g : Nat → Sl} (h : hbG S (n + 1) f) (e : nullF q n f = some g) : hbG S n g := by
  unfold nullF at e
  split at e
  · split at e
    · cases e
      exact hbG_tell (hbG_le h (by omega)) hsV_n
    · cases e
  · split at e
    · cases e
    · cases e
      exact hbG_tell (hbG_le h (by omega)) (hsV_t (h n (by omega)))
theorem join_hbG {S : Nat → Prop} {T : Ty} {wd : Bool} {r : Rw} {n : Nat} {g : Nat → Sl} (hr : okR T r) (hg : okG T n g) (h1 : r.told = true → hbG S r.n r.f) (h2 : hbG S n g) : hbG S (joinR wd r n g).n (joinR wd r n g).f := by
  unfold joinR
  split
  · exact h2
  · rename_i q
    have ht : r.told = true := by simpa using q
    split
    · exact h1 ht
    · have hr' := hr ht
      intro i hi
      have hi' : i < r.n := hi
      have a := h1 ht i hi'
      have b := h2 i (by have := hr'.1; have := hg.1; omega)
      have k1 := (hr'.2 i (by have := hr'.1; omega)).2.1
      have k2 := (hg.2 i (by have := hr'.1; omega)).2.1
      show hsV S (joinSl _ (r.f i) (g i)).1
      have key : hsV S (bothA (r.f i).1 (g i).1) := by
        revert a b
        cases (r.f i).1 <;> cases (g i).1 <;> intro a b
        · exact hsV_s
        · exact a
        · exact a
        · intro s hs hb
          simp only [bothA, stA, bitA, Int32.toBitVec_or, BitVec.getLsbD_or, Bool.or_eq_true] at hb
          rcases hb with hb | hb
          · exact a s hs hb
          · exact b s hs hb
      unfold joinSl
      dsimp only
      split
      · revert key
        cases (r.f i).1 <;> cases (g i).1 <;> intro key
        · exact hsV_s
        · exact key
        · exact key
        · exact key
      · exact key
set_option maxHeartbeats 1000000 in
theorem outs_hb (B : Built k P sh sn wd) {S : Nat → Prop} {F : Fa} {p : Nat} (hp : p < 480) (hF : okF (tyF P sh) F) (ht : (F p).told = true) (hb : ∀ t, t < 542 → (F t).told = true → hbG S (F t).n (F t).f) (hS : effP P sh F p → S (sn p)) : ∀ c, c ∈ outs P sn F p → hbG S c.2.1 c.2.2 := by
  obtain ⟨m, i, x, y, hm, hm8, hi, hi60, -, hs, hx8, hx, G, h60, ll, hop, ⟨od1, od2, od3, od4⟩, ey, aI⟩ := plc B hp hF ht
  have hbp := hb p (by omega) ht
  have hst := B.site p x hs
  have hS' : pN P 6 p = 28 → 1 ≤ x.1 → 0 ≤ hiA ((F p).f ((F p).n - 1)).1 → S (sn p) := fun h1 h2 h3 => hS ⟨h1, ⟨x, hs, h2⟩, ht, h3⟩
  unfold outs
  simp only [h60]
  generalize hn : (F p).n = n at *
  generalize hf : (F p).f = f at *
  generalize pN P 6 p = op at *
  generalize pN P 7 p = a at *
  have en := G_n G
  intro c hc
  by_cases q0 : op = 0
  · rw [if_pos q0, List.mem_singleton] at hc
    subst hc
    exact hbG_up hbp hsV_s (fun j hj => by simp only at hj; omega)
  rw [if_neg q0] at hc
  by_cases q1 : op = 1
  · rw [if_pos q1, List.mem_singleton] at hc
    subst hc
    have h4 := od1 (Or.inl q1)
    have h5 := aI h4.1
    exact hbG_up hbp (hbp a (by omega)) (fun j hj => by simp only at hj; omega)
  rw [if_neg q1] at hc
  by_cases q2 : op = 2
  · rw [if_pos q2, List.mem_singleton] at hc
    subst hc
    have h4 := od1 (Or.inr q2)
    have h5 := aI h4.1
    exact hbG_drop (hbG_up hbp (hbp (n - 1) (by omega)) (fun j hj => by simp only at hj; omega))
  rw [if_neg q2] at hc
  by_cases q3 : op = 3
  · rw [if_pos q3, List.mem_singleton] at hc
    subst hc
    exact hbG_up hbp hsV_n (fun j hj => by simp only at hj; omega)
  rw [if_neg q3] at hc
  by_cases q4 : op = 4
  · rw [if_pos q4, List.mem_singleton] at hc
    subst hc
    exact hbG_le hbp (by show n - 1 ≤ n; omega)
  rw [if_neg q4] at hc
  by_cases q5 : op = 5
  · rw [if_pos q5, List.mem_singleton] at hc
    subst hc
    unfold shS at ey
    repeat (first | rw [if_pos (by omega)] at ey | rw [if_neg (by omega)] at ey)
    split at ey
    · cases ey
    · exact hbG_up hbp (hbp (n - 1) (by omega)) (fun j hj => by simp only at hj; omega)
  rw [if_neg q5] at hc
  by_cases q6 : op = 6
  · rw [if_pos q6, List.mem_singleton] at hc
    subst hc
    unfold shS at ey
    repeat (first | rw [if_pos (by omega)] at ey | rw [if_neg (by omega)] at ey)
    split at ey
    · cases ey
    · exact hbG_up (hbG_up hbp (hbp (n - 2) (by omega)) (fun j (hj : j < n) => by omega)) (hbp (n - 1) (by omega)) (fun j hj => by simp only at hj; omega)
  rw [if_neg q6] at hc
  by_cases q10 : op = 10 ∨ op = 11
  · rw [if_pos q10] at hc
    split at hc
    · cases hc
    · rw [List.mem_singleton] at hc
      subst hc
      exact hbG_up (hbG_tell hbp hsV_s) hsV_s (fun j hj => by simp only at hj; omega)
  rw [if_neg q10] at hc
  by_cases q17 : op ≤ 17
  · rw [if_pos q17, List.mem_singleton] at hc
    subst hc
    exact hbG_up hbp hsV_s (fun j hj => by simp only at hj; omega)
  rw [if_neg q17] at hc
  by_cases q18 : op = 18
  · rw [if_pos q18, List.mem_singleton] at hc
    subst hc
    exact hbG_up hbp hsV_s (fun j hj => by simp only at hj; omega)
  rw [if_neg q18] at hc
  by_cases q19 : op = 19
  · rw [if_pos q19, List.mem_singleton] at hc
    subst hc
    exact hbp
  rw [if_neg q19] at hc
  by_cases q25 : op ≤ 25
  · rw [if_pos q25] at hc
    rcases List.mem_append.mp hc with hc | hc
    · obtain ⟨r, er, rfl⟩ := mem_conO hc
      exact hbG_opens (n := n - 2) (hbG_le hbp (by omega)) er
    · obtain ⟨r, er, rfl⟩ := mem_conO hc
      exact hbG_opens (n := n - 2) (hbG_le hbp (by omega)) er
  rw [if_neg q25] at hc
  by_cases q27 : op ≤ 27
  · rw [if_pos q27] at hc
    unfold shS at ey
    repeat (first | rw [if_pos (by omega)] at ey | rw [if_neg (by omega)] at ey)
    obtain ⟨t1, t2, t3⟩ := tkS_some ey
    rcases List.mem_append.mp hc with hc | hc
    · obtain ⟨r, er, rfl⟩ := mem_conO hc
      exact hbG_null (n := n - 1) (hbG_le hbp (by omega)) er
    · obtain ⟨r, er, rfl⟩ := mem_conO hc
      exact hbG_null (n := n - 1) (hbG_le hbp (by omega)) er
  rw [if_neg q27] at hc
  by_cases q28 : op = 28
  · rw [if_pos q28] at hc
    unfold shS at ey
    repeat (first | rw [if_pos (by omega)] at ey | rw [if_neg (by omega)] at ey)
    obtain ⟨y1, e1, rfl⟩ := Option.map_eq_some_iff.mp ey
    obtain ⟨t1, t2, t3⟩ := tkS_some e1
    have g := G_pop G t1
    have okY := ok_sp g.2.1 (by rw [g.2.2.1, t2])
    split at hc
    · cases hc
    · rename_i z ez
      have w := within_ok okY ez
      have ss := hS' q28 (by omega) (by have := w.1.2.1; show 0 ≤ (spA (f (n - 1)).1).2.1; omega)
      simp only [List.mem_cons, List.not_mem_nil, or_false] at hc
      rcases hc with rfl | rfl | rfl
      · exact fun _ _ => hsV_s
      · exact fun _ _ => hsV_s
      · exact hbG_up (hbG_tell hbp hsV_s) (hsV_m (hst q28).2 ss) (fun j hj => by simp only at hj; omega)
  rw [if_neg q28] at hc
  by_cases q29 : op = 29
  · rw [if_pos q29] at hc
    unfold shS at ey
    repeat (first | rw [if_pos (by omega)] at ey | rw [if_neg (by omega)] at ey)
    obtain ⟨y1, e1, rfl⟩ := Option.map_eq_some_iff.mp ey
    obtain ⟨t1, t2, t3⟩ := tkS_some e1
    split at hc
    · cases hc
    · rw [List.mem_singleton] at hc
      subst hc
      exact hbG_up (hbG_tell hbp (hsV_t (hbp (n - 1) (by omega)))) hsV_s (fun j hj => by simp only at hj; omega)
  rw [if_neg q29] at hc
  by_cases q30 : op = 30
  · rw [if_pos q30] at hc
    unfold shS at ey
    repeat (first | rw [if_pos (by omega)] at ey | rw [if_neg (by omega)] at ey)
    obtain ⟨y1, e1, rfl⟩ := Option.map_eq_some_iff.mp ey
    obtain ⟨y2, e2, e3⟩ := Option.bind_eq_some_iff.mp e1
    obtain ⟨t1, t2, t3⟩ := tkS_some e2
    subst t3
    obtain ⟨u1, u2, u3⟩ := tkS_some e3
    have d1 : (dpS x).1 = x.1 - 1 := rfl
    split at hc
    · cases hc
    · split at hc
      · rw [List.mem_singleton] at hc
        subst hc
        exact hbG_up (hbG_tell (hbG_tell hbp (hsV_t (hbp (n - 2) (by omega)))) hsV_s) hsV_s (fun j hj => by simp only at hj; omega)
      · cases hc
  rw [if_neg q30] at hc
  by_cases q31 : op = 31
  · rw [if_pos q31] at hc
    unfold shS at ey
    repeat (first | rw [if_pos (by omega)] at ey | rw [if_neg (by omega)] at ey)
    obtain ⟨y2, e1, e4⟩ := Option.bind_eq_some_iff.mp ey
    obtain ⟨y3, e2, e3⟩ := Option.bind_eq_some_iff.mp e1
    obtain ⟨t1, t2, t3⟩ := tkS_some e2
    subst t3
    obtain ⟨u1, u2, u3⟩ := tkS_some e3
    subst u3
    obtain ⟨v1, v2, v3⟩ := tkS_some e4
    have d1 : (dpS x).1 = x.1 - 1 := rfl
    have d2 : (dpS (dpS x)).1 = x.1 - 1 - 1 := rfl
    split at hc
    · cases hc
    · split at hc
      · cases hc
      · rcases List.mem_append.mp hc with hc | hc
        · obtain ⟨s, hs1, rfl⟩ := List.mem_map.mp hc
          exact fun _ _ => hbp (n - 1) (by omega)
        · rw [List.mem_singleton] at hc
          subst hc
          exact hbG_tell (hbG_tell (hbG_le hbp (by show n - 3 ≤ n; omega)) (hsV_t (hbp (n - 3) (by omega)))) hsV_s
  rw [if_neg q31] at hc
  by_cases q32 : op = 32
  · rw [if_pos q32] at hc
    unfold shS at ey
    repeat (first | rw [if_pos (by omega)] at ey | rw [if_neg (by omega)] at ey)
    obtain ⟨y1, e1, rfl⟩ := Option.map_eq_some_iff.mp ey
    have h4 := od3 q32
    have h5 := aI h4.1
    have ha8 : a < 8 := by have := B.wf.k8; omega
    obtain ⟨r1, r2, r3, r4, r5⟩ := tkN_ty (pN P 1 a) G e1 hx
    rcases List.mem_cons.mp hc with rfl | hc
    · intro j hj
      show hsV S (entF P a n f j).1
      unfold entF
      split
      · exact hbp _ (by omega)
      · split
        · exact hsV_n
        · exact hsV_s
    · split at hc
      · rename_i tr
        by_cases q : pN P 4 a = 0
        · rw [if_pos q, List.mem_singleton] at hc
          subst hc
          exact hbG_le hbp (by show n - pN P 1 a ≤ n; omega)
        · rw [if_neg q, List.mem_singleton] at hc
          subst hc
          have t := tld_res hF ha8 tr q
          exact hbG_up hbp (hb (534 + a) (by omega) tr 0 (by omega)) (fun j hj => by simp only at hj; omega)
      · cases hc
  rw [if_neg q32] at hc
  by_cases q33 : op = 33
  · rw [if_pos q33] at hc
    unfold shS at ey
    repeat (first | rw [if_pos (by omega)] at ey | rw [if_neg (by omega)] at ey)
    by_cases q : pN P 4 m = 0
    · rw [if_pos q, List.mem_singleton] at hc
      subst hc
      exact fun j hj => absurd hj (by simp)
    · rw [if_neg q, List.mem_singleton] at hc
      rw [if_neg q] at ey
      subst hc
      obtain ⟨t1, t2, t3⟩ := tkS_some ey
      exact fun _ _ => hbp (n - 1) (by omega)
  rw [if_neg q33] at hc
  by_cases q34 : op = 34
  · rw [if_pos q34] at hc
    have h4 := od4 (Or.inl q34)
    have h5 := aI h4.1
    split at hc
    · rename_i tr
      rw [List.mem_singleton] at hc
      subst hc
      have t := tld_one hF (by omega) (by omega) tr
      exact hbG_up hbp (hb (530 + a) (by omega) tr 0 (by omega)) (fun j hj => by simp only at hj; omega)
    · cases hc
  rw [if_neg q34] at hc
  unfold shS at ey
  repeat (first | rw [if_pos (by omega)] at ey | rw [if_neg (by omega)] at ey)
  obtain ⟨t1, t2, t3⟩ := tkS_some ey
  simp only [List.mem_cons, List.not_mem_nil, or_false] at hc
  rcases hc with rfl | rfl
  · exact fun _ _ => hbp (n - 1) (by omega)
  · exact hbG_le hbp (by show n - 1 ≤ n; omega)
end RMD
