-- needs: 89.24
section MC1
/-! the machine, as the document has it -/
abbrev Fr : Type := Nat × Nat × Nat × (Nat → Int32)
abbrev Fr.m (f : Fr) : Nat := f.1
abbrev Fr.i (f : Fr) : Nat := f.2.1
abbrev Fr.n (f : Fr) : Nat := f.2.2.1
abbrev Fr.s (f : Fr) : Nat → Int32 := f.2.2.2
abbrev Hp : Type := Nat × Nat × (Nat → Nat) × (Nat → Nat) × (Nat → Nat) × (Nat → Int32)
abbrev Hp.c (H : Hp) : Nat := H.1
abbrev Hp.u (H : Hp) : Nat := H.2.1
abbrev Hp.st (H : Hp) : Nat → Nat := H.2.2.1
abbrev Hp.ln (H : Hp) : Nat → Nat := H.2.2.2.1
abbrev Hp.si (H : Hp) : Nat → Nat := H.2.2.2.2.1
abbrev Hp.ce (H : Hp) : Nat → Int32 := H.2.2.2.2.2
abbrev Mc : Type := Nat × (Nat → Fr) × (Nat → Int32) × Hp × Bool × Int32 × Nat × Int64
abbrev Mc.top (z : Mc) : Nat := z.1
abbrev Mc.fr (z : Mc) : Nat → Fr := z.2.1
abbrev Mc.fd (z : Mc) : Nat → Int32 := z.2.2.1
abbrev Mc.hp (z : Mc) : Hp := z.2.2.2.1
abbrev Mc.as (z : Mc) : Bool := z.2.2.2.2.1
abbrev Mc.wr (z : Mc) : Int32 := z.2.2.2.2.2.1
abbrev Mc.dp (z : Mc) : Nat := z.2.2.2.2.2.2.1
abbrev Mc.gv (z : Mc) : Int64 := z.2.2.2.2.2.2.2
abbrev Mc.cur (z : Mc) : Fr := z.fr z.top
abbrev mkC (top : Nat) (fr : Nat → Fr) (fd : Nat → Int32) (hp : Hp) (as : Bool) (wr : Int32) (dp : Nat) (gv : Int64) : Mc := (top, fr, fd, hp, as, wr, dp, gv)
abbrev mkF (m i n : Nat) (s : Nat → Int32) : Fr := (m, i, n, s)
def setF (z : Mc) (f : Fr) : Mc := mkC z.top (upO z.fr z.top f) z.fd z.hp z.as z.wr z.dp z.gv
def popZ (z : Mc) : Mc := setF z (mkF z.cur.m z.cur.i (z.cur.n - 1) z.cur.s)
def pshZ (z : Mc) (v : Int32) : Mc := setF z (mkF z.cur.m z.cur.i (z.cur.n + 1) (upO z.cur.s z.cur.n v))
def locZ (z : Mc) (a : Nat) (v : Int32) : Mc := setF z (mkF z.cur.m z.cur.i z.cur.n (upO z.cur.s a v))
def gotZ (z : Mc) (t : Nat) : Mc := setF z (mkF z.cur.m t z.cur.n z.cur.s)
def topV (z : Mc) : Int32 := z.cur.s (z.cur.n - 1)
def wrgZ (z : Mc) (w : Int32) : Mc := mkC z.top z.fr z.fd z.hp z.as w z.dp z.gv
def astZ (z : Mc) (b : Bool) : Mc := mkC z.top z.fr z.fd z.hp (z.as || b) z.wr z.dp z.gv
def hpZ (z : Mc) (H : Hp) : Mc := mkC z.top z.fr z.fd H z.as z.wr z.dp z.gv
def fdZ (z : Mc) (a : Nat) (v : Int32) : Mc := mkC z.top z.fr (upO z.fd a v) z.hp z.as z.wr z.dp z.gv
def gvZ (z : Mc) (g : Int64) : Mc := mkC z.top z.fr z.fd z.hp z.as z.wr z.dp g
def hAdd (H : Hp) (len s : Nat) : Hp := (H.c + 1, H.u + len, upO H.st (H.c + 1) H.u, upO H.ln (H.c + 1) len, upO H.si (H.c + 1) s, fun i => if H.u ≤ i ∧ i < H.u + len then 0 else H.ce i)
def hSet (H : Hp) (r i : Nat) (v : Int32) : Hp := (H.c, H.u, H.st, H.ln, H.si, upO H.ce (H.st r + i) v)
/-- what a row of one span tells -/
def rwT (F : Fa) (t : Nat) (v : Int32) : Bool := (F t).told && hasS (spA ((F t).f 0).1) v.toInt
def movZ (op : Nat) (a : Int32) (z : Mc) : Mc := if op = 0 then pshZ z a else if op = 1 then pshZ z (z.cur.s a.toNatClampNeg) else if op = 2 then locZ (popZ z) a.toNatClampNeg (topV z) else if op = 3 then pshZ z 0 else if op = 4 then popZ z else if op = 5 then pshZ (pshZ (popZ z) (topV z)) (topV z) else pshZ (pshZ (popZ (popZ z)) (topV z)) (topV (popZ z))
def rckI (op : Nat) (i j : Int32) : Int32 := if op = 7 then i + j else if op = 8 then i - j else if op = 9 then i * j else if op = 10 then i / j else if op = 11 then i - i / j * j else if op = 12 then i &&& j else if op = 13 then i ||| j else if op = 14 then i ^^^ j else if op = 15 then i <<< (j &&& 31) else if op = 16 then i >>> (j &&& 31) else (i.toUInt32 >>> (j.toUInt32 &&& Int32.toUInt32 31)).toInt32
def rckZ (op : Nat) (z : Mc) : Mc × Int32 := if op = 18 then (pshZ (popZ z) (-(topV z)), 0) else if (op = 10 ∨ op = 11) ∧ topV z = 0 then (wrgZ (popZ (popZ z)) 1, 2) else (pshZ (popZ (popZ z)) (rckI op (topV (popZ z)) (topV z)), 0)
def cmpI (op : Nat) (i j : Int32) : Bool := if op = 20 then decide (i = j) else if op = 21 then decide (i ≠ j) else if op = 22 then decide (i < j) else if op = 23 then decide (j ≤ i) else if op = 24 then decide (j < i) else decide (i ≤ j)
def jmpZ (op : Nat) (a : Nat) (z : Mc) : Mc := if op = 19 then gotZ z a else if op = 26 then (if topV z = 0 then gotZ (popZ z) a else popZ z) else if op = 27 then (if topV z = 0 then popZ z else gotZ (popZ z) a) else if cmpI op (topV (popZ z)) (topV z) = true then gotZ (popZ (popZ z)) a else popZ (popZ z)
def makZ (F : Fa) (s : Nat) (z : Mc) : Mc × Int32 := if topV z < 0 then (wrgZ (popZ z) 4, 2) else if 300 ≤ z.hp.c ∨ 2000 < z.hp.u + (topV z).toNatClampNeg then (wrgZ (popZ z) 6, 2) else (pshZ (astZ (hpZ (popZ z) (hAdd z.hp (topV z).toNatClampNeg s)) (!rwT F (480 + s) (topV z) || (decide (0 < topV z) && !rwT F (505 + s) 0))) (nI (z.hp.c + 1)), 0)
def useZ (F : Fa) (op : Nat) (z : Mc) : Mc × Int32 := if op = 29 then (if topV z = 0 then (wrgZ (popZ z) 2, 2) else (pshZ (popZ z) (nI (z.hp.ln (topV z).toNatClampNeg)), 0)) else if op = 30 then (if topV (popZ z) = 0 then (wrgZ (popZ (popZ z)) 2, 2) else if 0 ≤ topV z ∧ topV z < nI (z.hp.ln (topV (popZ z)).toNatClampNeg) then (pshZ (popZ (popZ z)) (z.hp.ce (z.hp.st (topV (popZ z)).toNatClampNeg + (topV z).toNatClampNeg)), 0) else (wrgZ (popZ (popZ z)) 3, 2)) else (if topV (popZ (popZ z)) = 0 then (wrgZ (popZ (popZ (popZ z))) 2, 2) else if 0 ≤ topV (popZ z) ∧ topV (popZ z) < nI (z.hp.ln (topV (popZ (popZ z))).toNatClampNeg) then (astZ (hpZ (popZ (popZ (popZ z))) (hSet z.hp (topV (popZ (popZ z))).toNatClampNeg (topV (popZ z)).toNatClampNeg (topV z))) (!rwT F (505 + z.hp.si (topV (popZ (popZ z))).toNatClampNeg) (topV z)), 0) else (wrgZ (popZ (popZ (popZ z))) 3, 2))
def entF2 (P : Pm) (a : Nat) (c : Fr) : Fr := mkF a 0 (pN P 2 a) (fun k => if k < pN P 1 a then c.s (c.n - pN P 1 a + k) else 0)
def entZ (P : Pm) (a : Nat) (z : Mc) : Mc × Int32 := if 16 ≤ z.top + 1 then (wrgZ z 5, 2) else (mkC (z.top + 1) (upO (upO z.fr z.top (mkF z.cur.m z.cur.i (z.cur.n - pN P 1 a) z.cur.s)) (z.top + 1) (entF2 P a z.cur)) z.fd z.hp z.as z.wr (max z.dp (z.top + 2)) z.gv, 0)
def dwnZ (z : Mc) : Mc := mkC (z.top - 1) z.fr z.fd z.hp z.as z.wr z.dp z.gv
def leaZ (P : Pm) (z : Mc) : Mc × Int32 := if pN P 4 z.cur.m = 0 then (if z.top = 0 then (gvZ z 0, 1) else (dwnZ z, 0)) else if z.top = 0 then (gvZ (popZ z) (if pN P 4 z.cur.m = 2 then (if topV z = 0 then -1 else (nI (z.hp.ln (topV z).toNatClampNeg)).toInt64) else (topV z).toInt64), 1) else (pshZ (dwnZ (popZ z)) (topV z), 0)
def fldZ (F : Fa) (op a : Nat) (z : Mc) : Mc := if op = 34 then pshZ z (z.fd a) else astZ (fdZ (popZ z) a (topV z)) (!rwT F (530 + a) (topV z))
def curP (z : Mc) : Nat := 60 * z.cur.m + z.cur.i
def prfA (P : Pm) (sn : Nat → Nat) (F : Fa) (p : Nat) (z : Mc) : Mc × Int32 := if pN P 6 p ≤ 6 then (movZ (pN P 6 p) (P 7 p) z, 0) else if pN P 6 p ≤ 18 then rckZ (pN P 6 p) z else if pN P 6 p ≤ 27 then (jmpZ (pN P 6 p) (pN P 7 p) z, 0) else if pN P 6 p = 28 then makZ F (sn p) z else if pN P 6 p ≤ 31 then useZ F (pN P 6 p) z else if pN P 6 p = 32 then entZ P (pN P 7 p) z else (fldZ F (pN P 6 p) (pN P 7 p) z, 0)
def prfZ (P : Pm) (sn : Nat → Nat) (F : Fa) (z : Mc) : Mc × Int32 := if pN P 6 (curP z) = 33 then leaZ P z else prfA P sn F (curP z) (gotZ z (z.cur.i + 1))
/-- what a certificate tells of a value -/
def telV (H : Hp) (x : Av) (v : Int32) : Bool := match x with
  | .inl s => hasS s v.toInt
  | .inr (b, o) => if v = 0 then o else bitA b (H.si v.toNatClampNeg)
def tldZ (F : Fa) (z : Mc) : Bool := !z.as && ((F (curP z)).told && (List.range z.cur.n).all (fun j => telV z.hp ((F (curP z)).f j).1 (z.cur.s j)))
/-- a run's turns: begun, last method, last place, where outside, whether it is watched -/
abbrev Lz : Type := Mc × Nat × Nat × Nat × Int32 × Bool
def lopZ (P : Pm) (sn : Nat → Nat) (F : Fa) : Nat → Lz → Lz × Int32
  | 0, y => (y, 0)
  | f + 1, (z, b, _, _, sx, wt) => if (prfZ P sn F z).2 = 0 then lopZ P sn F f ((prfZ P sn F z).1, b + 1, z.cur.m, z.cur.i, (if wt = true ∧ tldZ F z = false then nI b else sx), wt && tldZ F z) else (((prfZ P sn F z).1, b + 1, z.cur.m, z.cur.i, (if wt = true ∧ tldZ F z = false then nI b else sx), wt && tldZ F z), (prfZ P sn F z).2)
/-! what holds of a machine while it runs -/
def vT (P : Pm) (m : Nat) (x : Sh) (n : Nat) (s : Nat → Int32) (c : Nat) : Prop := n = pN P 2 m + x.1 ∧ ∀ i, i < n → kdF P m x i = true → ∃ r : Nat, r ≤ c ∧ s i = nI r
def hpO (H : Hp) : Prop := H.c ≤ 300 ∧ H.u ≤ 2000 ∧ ∀ r, 1 ≤ r → r ≤ H.c → H.st r + H.ln r ≤ H.u ∧ H.si r < 25
def rsS (r : Nat) (x : Sh) : Sh := if r = 0 then x else ptS (decide (r = 2)) x
def TS (k : Nat) (P : Pm) (sh : Nat → Option Sh) (z : Mc) : Prop := z.top < 16 ∧ hpO z.hp ∧ (z.cur.m < k ∧ z.cur.i < pN P 5 z.cur.m ∧ ∃ x, sh (curP z) = some x ∧ vT P z.cur.m x z.cur.n z.cur.s z.hp.c) ∧ ∀ t, t < z.top → (z.fr t).m < k ∧ (z.fr t).i < pN P 5 (z.fr t).m ∧ ∃ x, sh (60 * (z.fr t).m + (z.fr t).i) = some (rsS (pN P 4 (z.fr (t + 1)).m) x) ∧ x.2 < 2 ^ x.1 ∧ vT P (z.fr t).m x (z.fr t).n (z.fr t).s z.hp.c
end MC1
