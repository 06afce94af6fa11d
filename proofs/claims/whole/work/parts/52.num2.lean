section NUM2
theorem sp_low5 (y : Int) : (eL y &&& 31).toInt32 = nI (y % 32).toNat := by
  have h : (eL y &&& 31) = eL (y % 32) := by
    apply Int64.toBitVec_inj.mp
    apply BitVec.eq_of_toNat_eq
    rw [Int64.toBitVec_and, BitVec.toNat_and]
    show (BitVec.ofInt 64 y).toNat &&& 31 = (BitVec.ofInt 64 (y % 32)).toNat
    rw [BitVec.toNat_ofInt, BitVec.toNat_ofInt, show (31 : Nat) = 2 ^ 5 - 1 from rfl, Nat.and_two_pow_sub_one_eq_mod]
    omega
  rw [h]
  apply Int32.toInt_inj.mp
  rw [Int64.toInt_toInt32, eL_toInt (by omega) (by omega), nI_toInt (by omega)]
  rw [Int.bmod_eq_of_le (by omega) (by omega)]
  omega
theorem sp_low5L (y : Int) : (eL y &&& 31) = eL (y % 32) := by
  apply Int64.toBitVec_inj.mp
  apply BitVec.eq_of_toNat_eq
  rw [Int64.toBitVec_and, BitVec.toNat_and]
  show (BitVec.ofInt 64 y).toNat &&& 31 = (BitVec.ofInt 64 (y % 32)).toNat
  rw [BitVec.toNat_ofInt, BitVec.toNat_ofInt, show (31 : Nat) = 2 ^ 5 - 1 from rfl, Nat.and_two_pow_sub_one_eq_mod]
  omega
theorem sp_cnt : ∀ c : Nat, c < 64 → (((nI c).toInt64 &&& 63).toBitVec.smod 64).toNat = c := by decide +kernel
theorem sp_shr (a : Int) (h1 : -9223372036854775808 ≤ a) (h2 : a < 9223372036854775808) {c : Nat} (hc : c < 64) : eL a >>> ((nI c).toInt64 &&& 63) = eL (a / 2 ^ c) := by
  have hp : (0 : Int) < 2 ^ c := Int.pow_pos (by decide)
  have hd : -9223372036854775808 ≤ a / 2 ^ c ∧ a / 2 ^ c < 9223372036854775808 := by
    constructor
    · rcases Int.le_total 0 a with h | h
      · have := Int.ediv_nonneg h (Int.le_of_lt hp)
        omega
      · have : a ≤ a / 2 ^ c := by
          apply (Int.le_ediv_iff_mul_le hp).mpr
          have h3 : (1 : Int) ≤ 2 ^ c := hp
          have h4 : a * 2 ^ c ≤ a * 1 := Int.mul_le_mul_of_nonpos_left h h3
          omega
        omega
    · rcases Int.le_total 0 a with h | h
      · have := Int.ediv_le_self (2 ^ c) h
        omega
      · have : a / 2 ^ c ≤ 0 := Int.ediv_nonpos_of_nonpos_of_neg h hp
        omega
  apply Int64.toInt_inj.mp
  rw [eL_toInt hd.1 hd.2]
  show ((eL a).toBitVec.sshiftRight (((nI c).toInt64 &&& 63).toBitVec.smod 64).toNat).toInt = _
  rw [sp_cnt c hc, BitVec.toInt_sshiftRight, Int.shiftRight_eq_div_pow]
  have e := eL_toInt h1 h2
  unfold Int64.toInt at e
  rw [e]
  norm_cast
theorem sp_shl1 : ∀ c : Nat, c < 63 → (1 : Int64) <<< ((nI c).toInt64 &&& 63) = eL (2 ^ c) := by decide +kernel
/-- the parts below and above 0 -/
def negS (y : Sp) : Option Sp := withinS y (-2147483648) (-1)
def posS (y : Sp) : Option Sp := withinS y 1 2147483647
def quoL (x p : Sp) : Int := min (min (x.1.tdiv p.1) (x.1.tdiv p.2.1)) (min (x.2.1.tdiv p.1) (x.2.1.tdiv p.2.1))
def quoH (x p : Sp) : Int := max (max (x.1.tdiv p.1) (x.1.tdiv p.2.1)) (max (x.2.1.tdiv p.1) (x.2.1.tdiv p.2.1))
def overS (x y : Sp) : Sp := if x.1 = x.2.1 ∧ y.1 = y.2.1 then (if x.1 = -2147483648 ∧ y.1 = -1 then (-2147483648, -2147483648, 0) else (x.1.tdiv y.1, x.1.tdiv y.1, 0))
  else if x.1 = -2147483648 ∧ hasS y (-1) = true then allS
  else match negS y, posS y with
    | some p, some q => mkS (min (quoL x p) (quoL x q)) (max (quoH x p) (quoH x q)) 1
    | some p, none => mkS (quoL x p) (quoH x p) 1
    | none, some q => mkS (quoL x q) (quoH x q) 1
    | none, none => (1, 0, 0)
def sizL (y : Sp) : Int := match negS y, posS y with
    | some p, some q => min (-p.2.1) q.1
    | some p, none => -p.2.1
    | none, some q => q.1
    | none, none => 4294967296
def sizH (y : Sp) : Int := match negS y, posS y with
    | some p, some q => max (-p.1) q.2.1
    | some p, none => -p.1
    | none, some q => q.2.1
    | none, none => 0
def restS (x y : Sp) : Sp := if x.1 = x.2.1 ∧ y.1 = y.2.1 then (x.1.tmod y.1, x.1.tmod y.1, 0)
  else if -sizL y < x.1 ∧ x.1 < sizL y ∧ -sizL y < x.2.1 ∧ x.2.1 < sizL y then x
  else mkS (if 0 ≤ x.1 then 0 else max x.1 (1 - sizH y)) (if x.2.1 ≤ 0 then 0 else min x.2.1 (sizH y - 1)) 1
def topF : Nat → Int → Int → Int
  | 0, t, _ => t
  | f + 1, t, v => if t < v then topF f (2 * t + 1) v else t
def bitS (op : Nat) (a b : Int) : Int := if op = 12 then (eL a &&& eL b).toInt else if op = 13 then (eL a ||| eL b).toInt else (eL a ^^^ eL b).toInt
def logS (op : Nat) (x y : Sp) : Sp := if x.1 = x.2.1 ∧ y.1 = y.2.1 then (bitS op x.1 y.1, bitS op x.1 y.1, 0)
  else if op = 12 then (if 0 ≤ x.1 ∧ 0 ≤ y.1 then mkS 0 (min x.2.1 y.2.1) 1 else if 0 ≤ x.1 then mkS 0 x.2.1 1 else if 0 ≤ y.1 then mkS 0 y.2.1 1 else allS)
  else if 0 ≤ x.1 ∧ 0 ≤ y.1 then mkS (if op = 13 then max x.1 y.1 else 0) (topF 31 0 (max x.2.1 y.2.1)) 1
  else allS
def shrS (x y : Sp) : Sp := if y.1 = y.2.1 then mkS (x.1 / 2 ^ (y.1 % 32).toNat) (x.2.1 / 2 ^ (y.1 % 32).toNat) 1 else mkS (min x.1 0) (if 0 ≤ x.2.1 then x.2.1 else -1) 1
def ushS (x y : Sp) : Sp := if y.1 = y.2.1 ∧ y.1 % 32 = 0 then x
  else if 0 ≤ x.1 then shrS x y
  else if ¬ y.1 = y.2.1 then allS
  else if x.2.1 < 0 then mkS ((x.1 + 4294967296) / 2 ^ (y.1 % 32).toNat) ((x.2.1 + 4294967296) / 2 ^ (y.1 % 32).toNat) 1
  else mkS 0 (2 ^ (32 - (y.1 % 32).toNat) - 1) 1
def mulS (x y : Sp) : Sp := turnS (min (min (x.1 * y.1) (x.1 * y.2.1)) (min (x.2.1 * y.1) (x.2.1 * y.2.1))) (max (max (x.1 * y.1) (x.1 * y.2.1)) (max (x.2.1 * y.1) (x.2.1 * y.2.1))) 1
/-- 7 to 18 -/
def actS (op : Nat) (x y : Sp) : Sp :=
  if op = 7 then turnS (x.1 + y.1) (x.2.1 + y.2.1) (Int.gcd x.2.2 y.2.2 : Nat)
  else if op = 8 then turnS (x.1 - y.2.1) (x.2.1 - y.1) (Int.gcd x.2.2 y.2.2 : Nat)
  else if op = 9 then (if x.1 = x.2.1 then timesS x.1 y else if y.1 = y.2.1 then timesS y.1 x else mulS x y)
  else if op = 10 then overS x y
  else if op = 11 then restS x y
  else if op = 12 ∨ op = 13 ∨ op = 14 then logS op x y
  else if op = 15 then (if y.1 = y.2.1 then timesS (2 ^ (y.1 % 32).toNat) x else allS)
  else if op = 16 then shrS x y
  else if op = 18 then turnS (-x.2.1) (-x.1) x.2.2
  else ushS x y
end NUM2
