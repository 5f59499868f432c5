/-! ===== THE DESK as numbers: what is asked of it, in plain words ===== -/
abbrev VA (a : Nat → Nat) : Prop := (∀ k, a k < 4096) ∧ (a 0 ≤ 55 ∧ a 1 ≤ 10 ∧ a 2 ≤ 12 ∧ a 3 ≤ 6 ∧ a 4 ≤ 60 ∧ a 5 ≤ 10 ∧ a 6 ≤ 6 ∧ a 7 ≤ 20 ∧ a 8 ≤ 9 ∧ a 9 ≤ 9 ∧ a 10 ≤ 9 ∧ a 11 ≤ 12) ∧
  (∀ i, i < a 1 → a (12 + i) < 4 ∧ a (22 + i) < 3 ∧ a (32 + i) < 2) ∧ (∀ v, v < a 2 → a (42 + v) < 3) ∧ (∀ r, r < a 3 → a (54 + r) < 4 ∧ (1 ≤ a (60 + r) ∧ a (60 + r) ≤ 3) ∧ a (66 + r) < 2 ∧ a (72 + r) < 2) ∧
  (∀ v, v < a 4 → a (78 + 6 * v) < a 1 ∧ (0 < a (78 + 6 * v + 1) ∧ a (78 + 6 * v + 1) < 2 ^ a 2) ∧ a (78 + 6 * v + 2) ≤ 55 ∧ a (78 + 6 * v + 3) < 4 ∧ a (78 + 6 * v + 4) < a 3 ∧ a (78 + 6 * v + 5) < 4) ∧
  (∀ k, k < a 5 → a (438 + 5 * k) < 3 ∧ a (438 + 5 * k + 1) < a 1 ∧ (a (438 + 5 * k) = 0 → a (438 + 5 * k + 2) < a 2) ∧ (a (438 + 5 * k) = 1 → a (438 + 5 * k + 2) < 3) ∧ (a (438 + 5 * k) = 2 → a (438 + 5 * k + 2) < a 1 ∧ a (438 + 5 * k + 2) ≠ a (438 + 5 * k + 1)) ∧ a (438 + 5 * k + 3) ≤ a (438 + 5 * k + 4) ∧ a (438 + 5 * k + 4) ≤ 55) ∧
  (∀ k, k < a 6 → a (488 + 4 * k) < a 1 ∧ (0 < a (488 + 4 * k + 1) ∧ a (488 + 4 * k + 1) < 2 ^ a 2) ∧ a (488 + 4 * k + 2) ≤ a (488 + 4 * k + 3) ∧ a (488 + 4 * k + 3) ≤ 55)
theorem two_le {n : Nat} (h : n ≤ 12) : 2 ^ n ≤ 4096 := Nat.pow_le_pow_right (by decide) h
/-- is there one below n -/
def anyB (p : Nat → Bool) : Nat → Bool
  | 0 => false
  | n + 1 => anyB p n || p n
/-- the first one of m from k -/
def fnd (p : Nat → Bool) : Nat → Nat → Option Nat
  | 0, _ => none
  | m + 1, k => if p k = true then some k else fnd p m (k + 1)
/-- is there one of m from k -/
def exF (p : Nat → Bool) : Nat → Nat → Bool
  | 0, _ => false
  | m + 1, k => if p k = true then true else exF p m (k + 1)
def ors (f : Nat → Nat) : Nat → Nat
  | 0 => 0
  | n + 1 => ors f n ||| f n
abbrev isI3 (a : Nat → Nat) (v d t : Nat) : Prop := a (78 + 6 * v + 5) = 0 ∧ a (78 + 6 * v + 2) = d ∧ a (78 + 6 * v + 3) = t
def ad (x y : Nat) : Nat := (x - y) + (y - x)
/-- does a set of visitors count for the quota -/
def dcs (a : Nat → Nat) (s : Nat) : Bool := anyB (fun k => s.testBit k && !(decide (a (42 + k) = 2))) (a 2)
def brk (a : Nat → Nat) (k i s d : Nat) : Bool := !(decide (a (438 + 5 * k) = 2)) && (decide (a (438 + 5 * k + 1) = i) && (decide (a (438 + 5 * k + 3) ≤ d ∧ d ≤ a (438 + 5 * k + 4)) && (if a (438 + 5 * k) = 0 then s.testBit (a (438 + 5 * k + 2)) else anyB (fun v => s.testBit v && decide (a (42 + v) = a (438 + 5 * k + 2))) (a 2))))
def cnt (a : Nat → Nat) (i w : Nat) : Nat := sm (fun v => if a (78 + 6 * v + 5) < 2 ∧ a (78 + 6 * v) = i ∧ a (78 + 6 * v + 2) / 7 = w ∧ dcs a (a (78 + 6 * v + 1)) = true then 1 else 0) (a 4)
def quo (a : Nat → Nat) (i : Nat) : Nat := a (8 + a (22 + i))
def banBy (a : Nat → Nat) (i s d : Nat) : Option Nat := fnd (fun k => brk a k i s d) (a 5) 0
def visO (a : Nat → Nat) (i d t : Nat) : Option Nat := fnd (fun v => decide (isI3 a v d t) && decide (a (78 + 6 * v) = i)) (a 4) 0
def busy (a : Nat → Nat) (d t : Nat) : Nat := ors (fun v => if isI3 a v d t then a (78 + 6 * v + 1) else 0) (a 4)
def bsyV (a : Nat → Nat) (s d t : Nat) : Option Nat := fnd (fun k => (s &&& busy a d t).testBit k) 12 0
def used (a : Nat → Nat) (d t : Nat) : Nat := ors (fun v => if isI3 a v d t then 2 ^ a (78 + 6 * v + 4) else 0) (a 4)
def sea (a : Nat → Nat) (v : Nat) : Nat := if a (66 + a (78 + 6 * v + 4)) = 1 then 0 else pc (a (78 + 6 * v + 1))
def lft (a : Nat → Nat) (d t : Nat) : Int := (a 11 : Int) - (sm (fun v => if isI3 a v d t then sea a v else 0) (a 4) : Int)
def frR (a : Nat → Nat) (d t : Nat) : Nat := sm (fun r => if a (72 + r) = 1 ∧ (used a d t).testBit r = false then 1 else 0) (a 3)
/-- the place of a room in the order of rooms for an inmate: distance, seats, number -/
def ahd (a : Nat → Nat) (x y i : Nat) : Bool := if ad (a (54 + x)) (a (12 + i)) = ad (a (54 + y)) (a (12 + i)) then (if a (60 + x) = a (60 + y) then decide (x < y) else decide (a (60 + x) < a (60 + y))) else decide (ad (a (54 + x)) (a (12 + i)) < ad (a (54 + y)) (a (12 + i)))
def rnk (a : Nat → Nat) (i r : Nat) : Nat := sm (fun q => if q ≠ r ∧ ahd a q r i = true then 1 else 0) (a 3)
def ordR (a : Nat → Nat) (i p : Nat) : Option Nat := fnd (fun r => decide (rnk a i r = p)) (a 3) 0
def arP (a : Nat → Nat) (x y d : Nat) : Bool := anyB (fun k => (decide (a (438 + 5 * k) = 2)) && (((decide (a (438 + 5 * k + 1) = x) && decide (a (438 + 5 * k + 2) = y)) || (decide (a (438 + 5 * k + 1) = y) && decide (a (438 + 5 * k + 2) = x))) && decide (a (438 + 5 * k + 3) ≤ d ∧ d ≤ a (438 + 5 * k + 4)))) (a 5)
/-- a booked visit of a partner is too close to a room -/
def nearB (a : Nat → Nat) (r i d t : Nat) : Bool := exF (fun v => decide (isI3 a v d t) && (arP a i (a (78 + 6 * v)) d && decide (ad (a (54 + a (78 + 6 * v + 4))) (a (54 + r)) < 2))) (a 4) 0
def poss (a : Nat → Nat) (r i n d t : Nat) : Bool := !(decide (a (72 + r) = 0)) && (!(decide (a (60 + r) < n)) && (!(used a d t).testBit r && (!(decide (a (32 + i) = 1) && decide (a (66 + r) = 0)) && !nearB a r i d t)))
/-- the first room that can be had: I r; -1 if none is possible, -2 if none can be had -/
def rmL (a : Nat → Nat) (i n d t : Nat) : Bool → Nat → Nat → Int32
  | any, 0, _ => if any = true then -(I 2) else NO
  | any, m + 1, p => match ordR a i p with
    | none => NO
    | some r => if poss a r i n d t = true then (if a (66 + r) = 1 ∨ (n : Int) ≤ lft a d t then I r else rmL a i n d t true m (p + 1)) else rmL a i n d t any m (p + 1)
def rmF (a : Nat → Nat) (i n d t : Nat) : Int32 := rmL a i n d t false (a 3) 0
def J (z : Int) : Int32 := Int32.ofInt z
theorem J_I (n : Nat) : J (n : Int) = I n := Int32.ofInt_eq_ofNat
theorem J_sub (x : Int) (y : Nat) : J x - I y = J (x - y) := by rw [← J_I]; exact (Int32.ofInt_sub x y).symm
theorem ti_J {z : Int} (h : -1000 ≤ z) (h2 : z < 10000) : (J z).toInt = z := Int32.toInt_ofInt_of_le (by omega) (by omega)
theorem J_lt {z : Int} {n : Nat} (h : -1000 ≤ z) (h2 : z < 10000) (h3 : n < 2147483648) : (J z < I n) = (z < n) := by rw [lt_ti, ti_J h h2, ti_I h3]
/-- a reason, with its detail; 0 with the room -/
def rsn (a : Nat → Nat) (i s d t : Nat) : Nat × Int32 :=
  if d < a 0 then (1, I (a 0)) else match banBy a i s d with
  | some k => (2, I k)
  | none => if dcs a s = true ∧ quo a i ≤ cnt a i (d / 7) then (3, I (quo a i)) else match visO a i d t with
    | some v => (4, I v)
    | none => match bsyV a s d t with
      | some k => (5, I k)
      | none => if rmF a i (pc s) d t = NO then (6, I (frR a d t)) else if rmF a i (pc s) d t < I 0 then (7, J (lft a d t)) else if a 4 = 60 then (8, I 60) else (0, rmF a i (pc s) d t)

