section PURE6
/-! a program: P 1 arguments, P 2 locals, P 3 kinds, P 4 results, P 5 lengths, P 6 instructions, P 7 operands -/
abbrev Pm : Type := Nat → Nat → Int32
def pN (P : Pm) (j m : Nat) : Nat := (P j m).toNatClampNeg
def kdB (P : Pm) (m i : Nat) : Bool := (pN P 3 m).testBit i
/-- shapes: how many lie there, and which of them are arrays, as bits -/
abbrev Sh : Type := Nat × Nat
def ptS (q : Bool) (x : Sh) : Sh := (x.1 + 1, 2 ^ x.1 * q.toNat + x.2)
def dpS (x : Sh) : Sh := (x.1 - 1, x.2 % 2 ^ (x.1 - 1))
def tpS (x : Sh) : Bool := x.2.testBit (x.1 - 1)
def tkS (q : Bool) (x : Sh) : Option Sh := if x.1 = 0 then none else if tpS x = q then some (dpS x) else none
def tkN (P : Pm) (a : Nat) : Nat → Sh → Option Sh
  | 0, x => some x
  | k + 1, x => (tkS (kdB P a k) x).bind (tkN P a k)
/-- what an instruction makes of a shape; none: it can't be there -/
def shS (P : Pm) (m op a : Nat) (x : Sh) : Option Sh :=
  if op = 0 ∨ op = 34 then some (ptS false x)
  else if op = 1 then some (ptS (kdB P m a) x)
  else if op = 2 then tkS (kdB P m a) x
  else if op = 3 then some (ptS true x)
  else if op = 4 then (if x.1 = 0 then none else some (dpS x))
  else if op = 5 then (if x.1 = 0 then none else some (ptS (tpS x) x))
  else if op = 6 then (if x.1 < 2 then none else some (ptS (tpS (dpS x)) (ptS (tpS x) (dpS (dpS x)))))
  else if op ≤ 17 then ((tkS false x).bind (tkS false)).map (ptS false)
  else if op = 18 then (tkS false x).map (ptS false)
  else if op = 19 then some x
  else if op ≤ 25 then (tkS false x).bind (tkS false)
  else if op ≤ 27 then tkS true x
  else if op = 28 then (tkS false x).map (ptS true)
  else if op = 29 then (tkS true x).map (ptS false)
  else if op = 30 then ((tkS false x).bind (tkS true)).map (ptS false)
  else if op = 31 then ((tkS false x).bind (tkS false)).bind (tkS true)
  else if op = 32 then (tkN P a (pN P 1 a) x).map (fun y => if pN P 4 a = 0 then y else ptS (decide (pN P 4 a = 2)) y)
  else if op = 33 then (if pN P 4 m = 0 then some x else tkS (decide (pN P 4 m = 2)) x)
  else tkS false x
/-- what is told of a program -/
def wfP (k : Nat) (P : Pm) : Prop :=
  (k ≤ 8)
  ∧ (∀ m, m < k → ∃ x : Nat, P 1 m = Int32.ofNat x ∧ x ≤ 3)
  ∧ (∀ m, m < k → ∃ x : Nat, P 2 m = Int32.ofNat x ∧ x ≤ 6)
  ∧ (∀ m, m < k → pN P 1 m ≤ pN P 2 m)
  ∧ (∀ m, m < k → ∃ x : Nat, P 3 m = Int32.ofNat x ∧ x < 64)
  ∧ (∀ m, m < k → ∃ x : Nat, P 4 m = Int32.ofNat x ∧ x ≤ 2)
  ∧ (∀ m, m < k → ∃ x : Nat, P 5 m = Int32.ofNat x ∧ x ≤ 60)
  ∧ (∀ m i, m < k → i < pN P 5 m → ∃ x : Nat, P 6 (60 * m + i) = Int32.ofNat x ∧ x ≤ 35)
theorem wfP.k8 {k : Nat} {P : Pm} (S : wfP k P) : k ≤ 8 := S.1
theorem wfP.ar {k : Nat} {P : Pm} (S : wfP k P) : ∀ m, m < k → ∃ x : Nat, P 1 m = Int32.ofNat x ∧ x ≤ 3 := S.2.1
theorem wfP.lc {k : Nat} {P : Pm} (S : wfP k P) : ∀ m, m < k → ∃ x : Nat, P 2 m = Int32.ofNat x ∧ x ≤ 6 := S.2.2.1
theorem wfP.al {k : Nat} {P : Pm} (S : wfP k P) : ∀ m, m < k → pN P 1 m ≤ pN P 2 m := S.2.2.2.1
theorem wfP.kd {k : Nat} {P : Pm} (S : wfP k P) : ∀ m, m < k → ∃ x : Nat, P 3 m = Int32.ofNat x ∧ x < 64 := S.2.2.2.2.1
theorem wfP.rs {k : Nat} {P : Pm} (S : wfP k P) : ∀ m, m < k → ∃ x : Nat, P 4 m = Int32.ofNat x ∧ x ≤ 2 := S.2.2.2.2.2.1
theorem wfP.ln {k : Nat} {P : Pm} (S : wfP k P) : ∀ m, m < k → ∃ x : Nat, P 5 m = Int32.ofNat x ∧ x ≤ 60 := S.2.2.2.2.2.2.1
theorem wfP.op {k : Nat} {P : Pm} (S : wfP k P) : ∀ m i, m < k → i < pN P 5 m → ∃ x : Nat, P 6 (60 * m + i) = Int32.ofNat x ∧ x ≤ 35 := S.2.2.2.2.2.2.2
def opdOk (k : Nat) (P : Pm) (m op : Nat) (a : Int32) : Prop :=
  ((op = 1 ∨ op = 2) → 0 ≤ a.toInt ∧ a.toInt < pN P 2 m) ∧ ((19 ≤ op ∧ op ≤ 27) → 0 ≤ a.toInt ∧ a.toInt < pN P 5 m) ∧ (op = 32 → 0 ≤ a.toInt ∧ a.toInt < k) ∧ ((op = 34 ∨ op = 35) → 0 ≤ a.toInt ∧ a.toInt < 4)
/-- a build: shapes by places, sites by places -/
def Built (k : Nat) (P : Pm) (sh : Nat → Option Sh) (sn : Nat → Nat) (wd : Nat → Bool) : Prop :=
  (wfP k P)
  ∧ (∀ p x, sh p = some x → ∃ m i, m < k ∧ i < pN P 5 m ∧ p = 60 * m + i ∧ x.1 ≤ 8 ∧ x.2 < 2 ^ x.1)
  ∧ (∀ m, m < k → 0 < pN P 5 m ∧ sh (60 * m) = some (0, 0))
  ∧ (∀ m i x, m < k → i < pN P 5 m → sh (60 * m + i) = some x → opdOk k P m (pN P 6 (60 * m + i)) (P 7 (60 * m + i)) ∧ ∃ y, shS P m (pN P 6 (60 * m + i)) (pN P 7 (60 * m + i)) x = some y ∧ (pN P 6 (60 * m + i) ≠ 19 → pN P 6 (60 * m + i) ≠ 33 → i + 1 < pN P 5 m ∧ sh (60 * m + i + 1) = some y) ∧ (19 ≤ pN P 6 (60 * m + i) → pN P 6 (60 * m + i) ≤ 27 → sh (60 * m + pN P 7 (60 * m + i)) = some y))
  ∧ (∀ m, m < k → wd (60 * m) = true)
  ∧ (∀ m i, m < k → i < pN P 5 m → 19 ≤ pN P 6 (60 * m + i) → pN P 6 (60 * m + i) ≤ 27 → pN P 7 (60 * m + i) ≤ i → wd (60 * m + pN P 7 (60 * m + i)) = true)
  ∧ (∀ p x, sh p = some x → pN P 6 p = 28 → 1 ≤ sn p ∧ sn p < 25)
theorem Built.wf {k : Nat} {P : Pm} {sh : Nat → Option Sh} {sn : Nat → Nat} {wd : Nat → Bool} (S : Built k P sh sn wd) : wfP k P := S.1
theorem Built.at_ {k : Nat} {P : Pm} {sh : Nat → Option Sh} {sn : Nat → Nat} {wd : Nat → Bool} (S : Built k P sh sn wd) : ∀ p x, sh p = some x → ∃ m i, m < k ∧ i < pN P 5 m ∧ p = 60 * m + i ∧ x.1 ≤ 8 ∧ x.2 < 2 ^ x.1 := S.2.1
theorem Built.first {k : Nat} {P : Pm} {sh : Nat → Option Sh} {sn : Nat → Nat} {wd : Nat → Bool} (S : Built k P sh sn wd) : ∀ m, m < k → 0 < pN P 5 m ∧ sh (60 * m) = some (0, 0) := S.2.2.1
theorem Built.next {k : Nat} {P : Pm} {sh : Nat → Option Sh} {sn : Nat → Nat} {wd : Nat → Bool} (S : Built k P sh sn wd) : ∀ m i x, m < k → i < pN P 5 m → sh (60 * m + i) = some x → opdOk k P m (pN P 6 (60 * m + i)) (P 7 (60 * m + i)) ∧ ∃ y, shS P m (pN P 6 (60 * m + i)) (pN P 7 (60 * m + i)) x = some y ∧ (pN P 6 (60 * m + i) ≠ 19 → pN P 6 (60 * m + i) ≠ 33 → i + 1 < pN P 5 m ∧ sh (60 * m + i + 1) = some y) ∧ (19 ≤ pN P 6 (60 * m + i) → pN P 6 (60 * m + i) ≤ 27 → sh (60 * m + pN P 7 (60 * m + i)) = some y) := S.2.2.2.1
theorem Built.w0 {k : Nat} {P : Pm} {sh : Nat → Option Sh} {sn : Nat → Nat} {wd : Nat → Bool} (S : Built k P sh sn wd) : ∀ m, m < k → wd (60 * m) = true := S.2.2.2.2.1
theorem Built.wj {k : Nat} {P : Pm} {sh : Nat → Option Sh} {sn : Nat → Nat} {wd : Nat → Bool} (S : Built k P sh sn wd) : ∀ m i, m < k → i < pN P 5 m → 19 ≤ pN P 6 (60 * m + i) → pN P 6 (60 * m + i) ≤ 27 → pN P 7 (60 * m + i) ≤ i → wd (60 * m + pN P 7 (60 * m + i)) = true := S.2.2.2.2.2.1
theorem Built.site {k : Nat} {P : Pm} {sh : Nat → Option Sh} {sn : Nat → Nat} {wd : Nat → Bool} (S : Built k P sh sn wd) : ∀ p x, sh p = some x → pN P 6 p = 28 → 1 ≤ sn p ∧ sn p < 25 := S.2.2.2.2.2.2
/-! what a step makes -/
def spA : Av → Sp
  | .inl x => x
  | .inr (_, _) => (0, 0, 0)
def stA : Av → Int32
  | .inl _ => 0
  | .inr (b, _) => b
def nuA : Av → Bool
  | .inl _ => false
  | .inr (_, o) => o
def upF (f : Nat → Sl) (i : Nat) (v : Sl) : Nat → Sl := fun j => if j = i then v else f j
def tellF (n : Nat) (f : Nat → Sl) (mk : Int32) (v : Av) : Nat → Sl := if mk = -1 then f else fun i => if i = mk.toNatClampNeg ∨ (i < n ∧ (f i).2 = mk) then (v, (f i).2) else f i
def dropF (n : Nat) (f : Nat → Sl) (mk : Int32) : Nat → Sl := fun i => if i < n ∧ (f i).2 = mk then ((f i).1, -1) else f i
def bitA (b : Int32) (s : Nat) : Bool := b.toBitVec.getLsbD s
/-- BOTH of what is told of sites -/
def gathF (F : Fa) (base : Nat) (b : Int32) : Nat → Option Sp
  | 0 => none
  | s + 1 => if bitA b s = true ∧ (F (base + s)).told = true then (match gathF F base b s with
      | none => some (spA ((F (base + s)).f 0).1)
      | some z => some (bothS z (spA ((F (base + s)).f 0).1))) else gathF F base b s
/-- x and y where a comparison holds -/
def narX (op : Nat) (x y : Sp) : Option Sp :=
  if op = 20 then withinS x y.1 y.2.1 else if op = 21 then (if y.1 = y.2.1 then loseS x y.1 else some x)
  else if op = 22 then withinS x (-2147483648) (y.2.1 - 1) else if op = 23 then withinS x y.1 2147483647
  else if op = 24 then withinS x (y.1 + 1) 2147483647 else withinS x (-2147483648) y.2.1
def narY (op : Nat) (x y : Sp) : Option Sp :=
  if op = 20 then withinS y x.1 x.2.1 else if op = 21 then (if x.1 = x.2.1 then loseS y x.1 else some y)
  else if op = 22 then withinS y (x.1 + 1) 2147483647 else if op = 23 then withinS y (-2147483648) x.2.1
  else if op = 24 then withinS y (-2147483648) (x.2.1 - 1) else withinS y x.1 2147483647
def opensF (op n : Nat) (f : Nat → Sl) (x y : Sp) (mx my : Int32) : Option (Nat → Sl) :=
  match narX op x y, narY op x y with
  | some u, some v => if mx ≠ -1 ∧ mx = my then (match withinS u v.1 v.2.1 with
      | some z => some (tellF n f mx (.inl z))
      | none => none) else some (tellF n (tellF n f mx (.inl u)) my (.inl v))
  | _, _ => none
def conO (t n : Nat) : Option (Nat → Sl) → List Con
  | none => []
  | some g => [(t, n, g)]
def nullF (isNull : Bool) (n : Nat) (f : Nat → Sl) : Option (Nat → Sl) :=
  if isNull then (if nuA (f n).1 = true then some (tellF n f (f n).2 (.inr (0, true))) else none)
  else (if stA (f n).1 = 0 then none else some (tellF n f (f n).2 (.inr (stA (f n).1, false))))
def entF (P : Pm) (a n : Nat) (f : Nat → Sl) : Nat → Sl := fun i => if i < pN P 1 a then ((f (n - pN P 1 a + i)).1, -1) else if kdB P a i = true then (.inr (0, true), -1) else (.inl (0, 0, 0), -1)
def rtF (P : Pm) (m : Nat) : Nat → Sl := fun i => if kdB P m i = true then (.inr (if i < pN P 1 m then 1 else 0, true), -1) else (.inl (if i < pN P 1 m then allS else (0, 0, 0)), -1)
def one (v : Av) : Nat → Sl := fun _ => (v, -1)
def shl1 (s : Nat) : Int32 := (1 : Int32) <<< (Int32.ofNat s)
def outs (P : Pm) (sn : Nat → Nat) (F : Fa) (p : Nat) : List Con :=
  let n := (F p).n
  let f := (F p).f
  let m := p / 60
  let op := pN P 6 p
  let a := pN P 7 p
  if op = 0 then [(p + 1, n + 1, upF f n (.inl ((P 7 p).toInt, (P 7 p).toInt, 0), -1))]
  else if op = 1 then [(p + 1, n + 1, upF f n ((f a).1, P 7 p))]
  else if op = 2 then [(p + 1, n - 1, dropF (n - 1) (upF f a ((f (n - 1)).1, (f a).2)) (P 7 p))]
  else if op = 3 then [(p + 1, n + 1, upF f n (.inr (0, true), -1))]
  else if op = 4 then [(p + 1, n - 1, f)]
  else if op = 5 then [(p + 1, n + 1, upF f n (f (n - 1)))]
  else if op = 6 then [(p + 1, n, upF (upF f (n - 1) (f (n - 2))) (n - 2) (f (n - 1)))]
  else if op = 10 ∨ op = 11 then (match loseS (spA (f (n - 1)).1) 0 with
    | none => []
    | some y => [(p + 1, n - 1, upF (tellF (n - 2) f (f (n - 1)).2 (.inl y)) (n - 2) (.inl (actS op (spA (f (n - 2)).1) y), -1))])
  else if op ≤ 17 then [(p + 1, n - 1, upF f (n - 2) (.inl (actS op (spA (f (n - 2)).1) (spA (f (n - 1)).1)), -1))]
  else if op = 18 then [(p + 1, n, upF f (n - 1) (.inl (actS 18 (spA (f (n - 1)).1) (0, 0, 0)), -1))]
  else if op = 19 then [(60 * m + a, n, f)]
  else if op ≤ 25 then conO (60 * m + a) (n - 2) (opensF op (n - 2) f (spA (f (n - 2)).1) (spA (f (n - 1)).1) (f (n - 2)).2 (f (n - 1)).2)
    ++ conO (p + 1) (n - 2) (opensF (if op % 2 = 0 then op + 1 else op - 1) (n - 2) f (spA (f (n - 2)).1) (spA (f (n - 1)).1) (f (n - 2)).2 (f (n - 1)).2)
  else if op ≤ 27 then conO (60 * m + a) (n - 1) (nullF (decide (op = 26)) (n - 1) f) ++ conO (p + 1) (n - 1) (nullF (decide (op = 27)) (n - 1) f)
  else if op = 28 then (match withinS (spA (f (n - 1)).1) 0 2147483647 with
    | none => []
    | some x => [(480 + sn p, 1, one (.inl x)), (505 + sn p, 1, one (.inl (0, 0, 0))), (p + 1, n, upF (tellF (n - 1) f (f (n - 1)).2 (.inl x)) (n - 1) (.inr (shl1 (sn p), false), -1))])
  else if op = 29 then (match gathF F 480 (stA (f (n - 1)).1) 25 with
    | none => []
    | some z => [(p + 1, n, upF (tellF (n - 1) f (f (n - 1)).2 (.inr (stA (f (n - 1)).1, false))) (n - 1) (.inl z, -1))])
  else if op = 30 then (match gathF F 480 (stA (f (n - 2)).1) 25 with
    | none => []
    | some z => match withinS (spA (f (n - 1)).1) 0 (z.2.1 - 1), gathF F 505 (stA (f (n - 2)).1) 25 with
      | some x, some e => [(p + 1, n - 1, upF (tellF (n - 2) (tellF (n - 2) f (f (n - 2)).2 (.inr (stA (f (n - 2)).1, false))) (f (n - 1)).2 (.inl x)) (n - 2) (.inl e, -1))]
      | _, _ => [])
  else if op = 31 then (match gathF F 480 (stA (f (n - 3)).1) 25 with
    | none => []
    | some z => match withinS (spA (f (n - 2)).1) 0 (z.2.1 - 1) with
      | none => []
      | some x => ((List.range 25).filter (bitA (stA (f (n - 3)).1))).map (fun s => (505 + s, 1, one (f (n - 1)).1)) ++ [(p + 1, n - 3, tellF (n - 3) (tellF (n - 3) f (f (n - 3)).2 (.inr (stA (f (n - 3)).1, false))) (f (n - 2)).2 (.inl x))])
  else if op = 32 then (60 * a, pN P 2 a, entF P a n f) :: (if (F (534 + a)).told = true then (if pN P 4 a = 0 then [(p + 1, n - pN P 1 a, f)] else [(p + 1, n - pN P 1 a + 1, upF f (n - pN P 1 a) (((F (534 + a)).f 0).1, -1))]) else [])
  else if op = 33 then (if pN P 4 m = 0 then [(534 + m, 0, f)] else [(534 + m, 1, one (f (n - 1)).1)])
  else if op = 34 then (if (F (530 + a)).told = true then [(p + 1, n + 1, upF f n (((F (530 + a)).f 0).1, -1))] else [])
  else [(530 + a, 1, one (f (n - 1)).1), (p + 1, n - 1, f)]
/-- the types of rows -/
def kdF (P : Pm) (m : Nat) (x : Sh) : Nat → Bool := fun i => if i < pN P 2 m then kdB P m i else x.2.testBit (i - pN P 2 m)
def tyS (P : Pm) (m : Nat) (x : Sh) : Ty := (pN P 2 m + x.1, pN P 2 m, kdF P m x)
def tyF (P : Pm) (sh : Nat → Option Sh) (t : Nat) : Ty :=
  if t < 480 then (match sh t with
    | some x => tyS P (t / 60) x
    | none => (0, 1, fun _ => false))
  else if t < 534 then (1, 0, fun _ => false)
  else (if pN P 4 (t - 534) = 0 then 0 else 1, 0, fun _ => decide (pN P 4 (t - 534) = 2))
def grF (wd : Nat → Bool) (t : Nat) : Bool := decide (480 ≤ t) || wd t
def rootsF (P : Pm) (k : Nat) (rs : Nat → Bool) : List Con := ((List.range k).filter rs).map (fun m => (60 * m, pN P 2 m, rtF P m))
end PURE6
