-- needs: 89.60
section RB2
variable {l : Launch} {V : gi_V} {n : Nat} {h h' : gi_H} {M k m : Nat} {P : Pm} {x : Sh} {b : Bool} {S S' : Nat → Int32} {J J' : Nat → Int64} {F : Nat → Nat → Int32} {G : Nat → Nat → Int64}
def clX (P : Pm) (a : Nat) : Nat → Sh × Bool → Sh × Bool
  | 0, z => z
  | c + 1, z => if z.2 = true then z else clX P a c (tkX (kdB P a c) z)
def anV (z : Sh × Bool) : Bool := decide (z.1.1 ≠ 0) && tpS z.1
def shX (P : Pm) (m op a : Nat) (x : Sh) : Sh × Bool :=
  if op = 0 ∨ op = 34 then ptX false (x, false)
  else if op = 1 then ptX (kdB P m a) (x, false)
  else if op = 2 then tkX (kdB P m a) (x, false)
  else if op = 3 then ptX true (x, false)
  else if op = 4 then tyX (x, false)
  else if op = 5 then ptX (anV (x, false)) (ptX (anV (x, false)) (tyX (x, false)))
  else if op = 6 then ptX (anV (tyX (x, false))) (ptX (anV (x, false)) (tyX (tyX (x, false))))
  else if op ≤ 17 then ptX false (tkX false (tkX false (x, false)))
  else if op = 18 then ptX false (tkX false (x, false))
  else if op = 19 then (x, false)
  else if op ≤ 25 then tkX false (tkX false (x, false))
  else if op ≤ 27 then tkX true (x, false)
  else if op = 28 then ptX true (tkX false (x, false))
  else if op = 29 then ptX false (tkX true (x, false))
  else if op = 30 then ptX false (tkX true (tkX false (x, false)))
  else if op = 31 then tkX true (tkX false (tkX false (x, false)))
  else if op = 32 then (if 0 < pN P 4 a ∧ (clX P a (pN P 1 a) (x, false)).2 = false then ptX (decide (pN P 4 a = 2)) (clX P a (pN P 1 a) (x, false)) else clX P a (pN P 1 a) (x, false))
  else if op = 33 then (if pN P 4 m = 0 then (x, false) else tkX (decide (pN P 4 m = 2)) (x, false))
  else tkX false (x, false)
/-- what the outcome says -/
def isO (z : Sh × Bool) (o : Option Sh) : Prop := (z.2 = false → o = some z.1) ∧ (z.2 = true → o = none)
theorem tkX_t {q : Bool} {z : Sh × Bool} (h : z.2 = true) : (tkX q z).2 = true := by
  unfold tkX
  split
  · rfl
  · exact h
theorem tkX_o {q : Bool} {z : Sh × Bool} {o : Option Sh} (h : isO z o) : isO (tkX q z) (o.bind (tkS q)) := by
  cases e : z.2 with
  | true =>
    rw [h.2 e]
    exact ⟨fun z => (by rw [tkX_t e] at z; cases z), fun _ => rfl⟩
  | false =>
    rw [h.1 e]
    show isO (tkX q z) (tkS q z.1)
    unfold tkX
    cases e2 : tkS q z.1 with
    | none => exact ⟨fun z => (by cases z), fun _ => rfl⟩
    | some y => exact ⟨fun _ => rfl, fun z => by rw [e] at z; cases z⟩
theorem ptX_o {q : Bool} {z : Sh × Bool} {o : Option Sh} (h : isO z o) : isO (ptX q z) (o.map (ptS q)) := by
  cases e : z.2 with
  | true =>
    rw [h.2 e]
    exact ⟨fun y => (by rw [show (ptX q z).2 = z.2 from rfl, e] at y; cases y), fun _ => rfl⟩
  | false =>
    rw [h.1 e]
    exact ⟨fun _ => rfl, fun y => by rw [show (ptX q z).2 = z.2 from rfl, e] at y; cases y⟩
theorem is0 {x : Sh} : isO (x, false) (some x) := ⟨fun _ => rfl, fun z => by cases z⟩
theorem clX_t {a : Nat} {z : Sh × Bool} (h : z.2 = true) : ∀ c, clX P a c z = z
  | 0 => rfl
  | c + 1 => by unfold clX; rw [if_pos h]
theorem clX_o {a : Nat} : ∀ (c : Nat) {z : Sh × Bool} {y : Sh}, isO z (some y) → isO (clX P a c z) (tkN P a c y)
  | 0, z, y, h => h
  | c + 1, z, y, h => by
    have e : z.2 = false := by
      cases e : z.2 with
      | true => have := h.2 e; cases this
      | false => rfl
    unfold clX tkN
    rw [if_neg (by rw [e]; decide)]
    have g := tkX_o (q := kdB P a c) h
    have g : isO (tkX (kdB P a c) z) (tkS (kdB P a c) y) := g
    cases e2 : tkS (kdB P a c) y with
    | none =>
      rw [e2] at g
      have g2 : (tkX (kdB P a c) z).2 = true := by
        cases e3 : (tkX (kdB P a c) z).2 with
        | true => rfl
        | false => have := g.1 e3; cases this
      rw [clX_t g2]
      exact g
    | some y2 =>
      rw [e2] at g
      exact clX_o c g
theorem shX_o (hx : x.2 < 2 ^ x.1) {op a : Nat} : isO (shX P m op a x) (shS P m op a x) := by
  unfold shX shS
  by_cases g0 : op = 0 ∨ op = 34
  · rw [if_pos g0, if_pos g0]; exact ptX_o is0
  rw [if_neg g0, if_neg g0]
  by_cases g1 : op = 1
  · rw [if_pos g1, if_pos g1]; exact ptX_o is0
  rw [if_neg g1, if_neg g1]
  by_cases g2 : op = 2
  · rw [if_pos g2, if_pos g2]; exact tkX_o is0
  rw [if_neg g2, if_neg g2]
  by_cases g3 : op = 3
  · rw [if_pos g3, if_pos g3]; exact ptX_o is0
  rw [if_neg g3, if_neg g3]
  by_cases g4 : op = 4
  · rw [if_pos g4, if_pos g4]
    unfold tyX
    by_cases q : x.1 = 0
    · rw [if_pos q, if_pos q]; exact ⟨fun z => (by cases z), fun _ => rfl⟩
    · rw [if_neg q, if_neg q]; exact is0
  rw [if_neg g4, if_neg g4]
  by_cases g5 : op = 5
  · rw [if_pos g5, if_pos g5]
    by_cases q : x.1 = 0
    · rw [if_pos q, show tyX (x, false) = (x, true) from if_pos q]
      exact ⟨fun z => (by cases z), fun _ => rfl⟩
    · rw [if_neg q, show tyX (x, false) = (dpS x, false) from if_neg q, show anV (x, false) = tpS x from by unfold anV; rw [decide_eq_true q]; rfl]
      refine ⟨fun _ => ?_, fun z => by cases z⟩
      show _ = some (ptS (tpS x) (ptS (tpS x) (dpS x)))
      rw [pt_tp hx q]
  rw [if_neg g5, if_neg g5]
  by_cases g6 : op = 6
  · rw [if_pos g6, if_pos g6]
    by_cases q : x.1 = 0
    · rw [if_pos (by omega), show tyX (x, false) = (x, true) from if_pos q, show tyX (x, true) = (x, true) from if_pos q]
      exact ⟨fun z => (by cases z), fun _ => rfl⟩
    · rw [show tyX (x, false) = (dpS x, false) from if_neg q, show anV (x, false) = tpS x from by unfold anV; rw [decide_eq_true q]; rfl]
      by_cases q2 : x.1 < 2
      · rw [if_pos q2, show tyX (dpS x, false) = (dpS x, true) from if_pos (show x.1 - 1 = 0 by omega)]
        exact ⟨fun z => (by cases z), fun _ => rfl⟩
      · have q3 : (dpS x).1 ≠ 0 := by show x.1 - 1 ≠ 0; omega
        rw [if_neg q2, show tyX (dpS x, false) = (dpS (dpS x), false) from if_neg q3, show anV (dpS x, false) = tpS (dpS x) from by unfold anV; rw [decide_eq_true q3]; rfl]
        exact ⟨fun _ => rfl, fun z => by cases z⟩
  rw [if_neg g6, if_neg g6]
  by_cases g7 : op ≤ 17
  · rw [if_pos g7, if_pos g7]; exact ptX_o (tkX_o (tkX_o is0))
  rw [if_neg g7, if_neg g7]
  by_cases g8 : op = 18
  · rw [if_pos g8, if_pos g8]; exact ptX_o (tkX_o is0)
  rw [if_neg g8, if_neg g8]
  by_cases g9 : op = 19
  · rw [if_pos g9, if_pos g9]; exact is0
  rw [if_neg g9, if_neg g9]
  by_cases g10 : op ≤ 25
  · rw [if_pos g10, if_pos g10]; exact tkX_o (tkX_o is0)
  rw [if_neg g10, if_neg g10]
  by_cases g11 : op ≤ 27
  · rw [if_pos g11, if_pos g11]; exact tkX_o is0
  rw [if_neg g11, if_neg g11]
  by_cases g12 : op = 28
  · rw [if_pos g12, if_pos g12]; exact ptX_o (tkX_o is0)
  rw [if_neg g12, if_neg g12]
  by_cases g13 : op = 29
  · rw [if_pos g13, if_pos g13]; exact ptX_o (tkX_o is0)
  rw [if_neg g13, if_neg g13]
  by_cases g14 : op = 30
  · rw [if_pos g14, if_pos g14]; exact ptX_o (tkX_o (tkX_o is0))
  rw [if_neg g14, if_neg g14]
  by_cases g15 : op = 31
  · rw [if_pos g15, if_pos g15]; exact tkX_o (tkX_o (tkX_o is0))
  rw [if_neg g15, if_neg g15]
  by_cases g16 : op = 32
  · rw [if_pos g16, if_pos g16]
    have c := clX_o (P := P) (a := a) (pN P 1 a) (is0 (x := x))
    by_cases r0 : pN P 4 a = 0
    · rw [if_neg (by omega)]
      simp only [r0, if_true]
      rw [Option.map_id']
      exact c
    · simp only [r0, if_false]
      cases e : (clX P a (pN P 1 a) (x, false)).2 with
      | true =>
        rw [if_neg (fun z => by cases z.2), c.2 e]
        exact ⟨fun z => (by rw [e] at z; cases z), fun _ => rfl⟩
      | false =>
        rw [if_pos ⟨by omega, rfl⟩]
        exact ptX_o c
  rw [if_neg g16, if_neg g16]
  by_cases g17 : op = 33
  · rw [if_pos g17, if_pos g17]
    by_cases r0 : pN P 4 m = 0
    · rw [if_pos r0, if_pos r0]; exact is0
    · rw [if_neg r0, if_neg r0]; exact tkX_o is0
  rw [if_neg g17, if_neg g17]
  exact tkX_o is0
theorem tkX_b {q : Bool} {z : Sh × Bool} : (tkX q z).1.1 ≤ z.1.1 := by
  unfold tkX
  cases e : tkS q z.1 with
  | none => exact Nat.le_refl _
  | some y =>
    obtain ⟨-, -, e3⟩ := tkS_some e
    subst e3
    show z.1.1 - 1 ≤ z.1.1
    omega
theorem tyX_b {z : Sh × Bool} : (tyX z).1.1 ≤ z.1.1 := by
  unfold tyX
  split
  · exact Nat.le_refl _
  · show z.1.1 - 1 ≤ z.1.1
    omega
theorem clX_b {a : Nat} : ∀ (c : Nat) (z : Sh × Bool), (clX P a c z).1.1 ≤ z.1.1
  | 0, z => Nat.le_refl _
  | c + 1, z => by
    unfold clX
    split
    · exact Nat.le_refl _
    · exact Nat.le_trans (clX_b c _) tkX_b
end RB2
