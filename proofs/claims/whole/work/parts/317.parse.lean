/-! ===== COMMANDS: what a text says ===== -/
section Pa1
abbrev PSt : Type := Bool × Nat
abbrev CTt : Type := Nat × Nat × Nat × Nat × Nat
def sgn (n : Nat) (u : Nat → Nat) (c p : Nat) : Bool := decide (p < n ∧ u p = c)
def dgn (n : Nat) (u : Nat → Nat) (p : Nat) : Bool := decide (p < n ∧ 48 ≤ u p ∧ u p ≤ 57)
def lfn (n : Nat) (u : Nat → Nat) (p : Nat) : Bool := decide (p < n ∧ 97 ≤ u p ∧ u p ≤ 108)
def mst (n : Nat) (u : Nat → Nat) (c : Nat) (s : PSt) : PSt := if s.1 = true ∧ sgn n u c s.2 = true then (true, s.2 + 1) else (false, s.2)
def dig (n : Nat) (u : Nat → Nat) (s : PSt) : PSt × Nat := if s.1 = true ∧ dgn n u s.2 = true then ((true, s.2 + 1), u s.2 - 48) else ((false, s.2), 0)
def num (n : Nat) (u : Nat → Nat) (s : PSt) : PSt × Nat := if (dig n u s).1.1 = true ∧ dgn n u (dig n u s).1.2 = true then ((dig n u (dig n u s).1).1, 10 * (dig n u s).2 + (dig n u (dig n u s).1).2) else dig n u s
def lts (n : Nat) (u : Nat → Nat) : Nat → Nat → Nat → Nat → PSt × Nat
  | 0, _, z, p => ((false, p), z)
  | m + 1, k, z, p => if lfn n u p = true then (if k < 3 ∧ z.testBit (u p - 97) = false then lts n u m (k + 1) (z ||| 2 ^ (u p - 97)) (p + 1) else ((false, p), z ||| 2 ^ (u p - 97))) else ((true, p), z)
def ltr (n : Nat) (u : Nat → Nat) (s : PSt) : PSt × Nat := if s.1 = true ∧ lfn n u s.2 = true then lts n u 5 0 0 s.2 else ((false, s.2), 0)
def cB1 (n : Nat) (u : Nat → Nat) (p : Nat) : PSt × Nat := dig n u (true, p + 1)
def cB2 (n : Nat) (u : Nat → Nat) (p : Nat) : PSt × Nat := ltr n u (mst n u 58 (cB1 n u p).1)
def cB3 (n : Nat) (u : Nat → Nat) (p : Nat) : PSt × Nat := num n u (mst n u 64 (cB2 n u p).1)
def cB4 (n : Nat) (u : Nat → Nat) (p : Nat) : PSt × Nat := dig n u (mst n u 46 (cB3 n u p).1)
def cX1 (n : Nat) (u : Nat → Nat) (p : Nat) : PSt × Nat := num n u (true, p + 1)
def cM2 (n : Nat) (u : Nat → Nat) (p : Nat) : PSt × Nat := dig n u (mst n u 47 (cB1 n u p).1)
def cmd (n : Nat) (u : Nat → Nat) (p : Nat) : PSt × CTt :=
  if sgn n u 98 p = true then ((cB4 n u p).1, (0, (cB1 n u p).2, (cB2 n u p).2, (cB3 n u p).2, (cB4 n u p).2))
  else if sgn n u 120 p = true then ((cX1 n u p).1, (1, (cX1 n u p).2, 0, 0, 0))
  else if sgn n u 109 p = true then ((cM2 n u p).1, (2, (cB1 n u p).2, (cM2 n u p).2, 0, 0))
  else ((false, p), (2, 0, 0, 0, 0))
/-! places -/
theorem mst_b {n : Nat} {u : Nat → Nat} {c : Nat} {s : PSt} : s.2 ≤ (mst n u c s).2 ∧ (mst n u c s).2 ≤ s.2 + 1 ∧ ((mst n u c s).1 = true → (mst n u c s).2 = s.2 + 1 ∧ s.2 < n ∧ s.1 = true ∧ u s.2 = c) := by
  unfold mst
  by_cases h : s.1 = true ∧ sgn n u c s.2 = true
  · rw [if_pos h]
    have := of_decide_eq_true h.2
    exact ⟨by show s.2 ≤ s.2 + 1; omega, Nat.le_refl _, fun _ => ⟨rfl, this.1, h.1, this.2⟩⟩
  · rw [if_neg h]
    exact ⟨Nat.le_refl _, by show s.2 ≤ s.2 + 1; omega, fun z => by cases z⟩
theorem dig_b {n : Nat} {u : Nat → Nat} {s : PSt} : s.2 ≤ (dig n u s).1.2 ∧ (dig n u s).1.2 ≤ s.2 + 1 ∧ (dig n u s).2 < 10 ∧ ((dig n u s).1.1 = true → (dig n u s).1.2 = s.2 + 1 ∧ s.2 < n ∧ s.1 = true) := by
  unfold dig
  by_cases h : s.1 = true ∧ dgn n u s.2 = true
  · rw [if_pos h]
    have := of_decide_eq_true h.2
    exact ⟨by show s.2 ≤ s.2 + 1; omega, Nat.le_refl _, by show u s.2 - 48 < 10; omega, fun _ => ⟨rfl, this.1, h.1⟩⟩
  · rw [if_neg h]
    exact ⟨Nat.le_refl _, by show s.2 ≤ s.2 + 1; omega, by show 0 < 10; decide, fun z => by cases z⟩
theorem num_b {n : Nat} {u : Nat → Nat} {s : PSt} : s.2 ≤ (num n u s).1.2 ∧ (num n u s).1.2 ≤ s.2 + 2 ∧ (num n u s).2 < 100 ∧ ((num n u s).1.1 = true → s.2 + 1 ≤ (num n u s).1.2 ∧ (num n u s).1.2 ≤ n ∧ s.1 = true) := by
  have d1 := dig_b (n := n) (u := u) (s := s)
  have d2 := dig_b (n := n) (u := u) (s := (dig n u s).1)
  unfold num
  by_cases h : (dig n u s).1.1 = true ∧ dgn n u (dig n u s).1.2 = true
  · rw [if_pos h]
    have e := d1.2.2.2 h.1
    exact ⟨by show s.2 ≤ (dig n u (dig n u s).1).1.2; omega, by show (dig n u (dig n u s).1).1.2 ≤ s.2 + 2; omega, by show 10 * (dig n u s).2 + (dig n u (dig n u s).1).2 < 100; omega, fun z => ⟨by show s.2 + 1 ≤ (dig n u (dig n u s).1).1.2; omega, by have := d2.2.2.2 z; show (dig n u (dig n u s).1).1.2 ≤ n; omega, e.2.2⟩⟩
  · rw [if_neg h]
    exact ⟨d1.1, by omega, by omega, fun z => by have := d1.2.2.2 z; exact ⟨by omega, by omega, this.2.2⟩⟩
theorem lts_b {n : Nat} {u : Nat → Nat} : ∀ (m k z p : Nat), p ≤ (lts n u m k z p).1.2 ∧ (lts n u m k z p).1.2 ≤ p + m ∧ (z < 4096 → (lts n u m k z p).2 < 4096) ∧ (p ≤ n → (lts n u m k z p).1.2 ≤ n)
  | 0, _, z, p => ⟨Nat.le_refl _, Nat.le_refl _, fun h => h, fun h => h⟩
  | m + 1, k, z, p => by
    unfold lts
    by_cases h : lfn n u p = true
    · rw [if_pos h]
      have hl := of_decide_eq_true h
      have hp : 2 ^ (u p - 97) < 4096 := Nat.pow_lt_pow_right (a := 2) (n := 12) (by decide) (by omega)
      have hor : z < 4096 → z ||| 2 ^ (u p - 97) < 4096 := fun hz => Nat.or_lt_two_pow (n := 12) hz hp
      by_cases h2 : k < 3 ∧ z.testBit (u p - 97) = false
      · rw [if_pos h2]
        have ih := lts_b m (k + 1) (z ||| 2 ^ (u p - 97)) (p + 1) (n := n) (u := u)
        exact ⟨by omega, by omega, fun hz => ih.2.2.1 (hor hz), fun hn => ih.2.2.2 (by omega)⟩
      · rw [if_neg h2]
        exact ⟨Nat.le_refl _, by show p ≤ p + (m + 1); omega, hor, fun hn => hn⟩
    · rw [if_neg h]
      exact ⟨Nat.le_refl _, by show p ≤ p + (m + 1); omega, fun hz => hz, fun hn => hn⟩
theorem ltr_b {n : Nat} {u : Nat → Nat} {s : PSt} : s.2 ≤ (ltr n u s).1.2 ∧ (ltr n u s).1.2 ≤ s.2 + 5 ∧ (ltr n u s).2 < 4096 ∧ ((ltr n u s).1.1 = true → s.1 = true) := by
  unfold ltr
  by_cases h : s.1 = true ∧ lfn n u s.2 = true
  · rw [if_pos h]
    have := lts_b (n := n) (u := u) 5 0 0 s.2
    exact ⟨this.1, this.2.1, this.2.2.1 (by decide), fun _ => h.1⟩
  · rw [if_neg h]
    exact ⟨Nat.le_refl _, by show s.2 ≤ s.2 + 5; omega, by show 0 < 4096; decide, fun z => by cases z⟩
theorem cmd_b {n : Nat} {u : Nat → Nat} {p : Nat} : p ≤ (cmd n u p).1.2 ∧ (cmd n u p).1.2 ≤ p + 20 ∧ ((cmd n u p).1.1 = true → p + 2 ≤ (cmd n u p).1.2 ∧ (cmd n u p).1.2 ≤ n) ∧ (cmd n u p).2.1 ≤ 2 ∧ (cmd n u p).2.2.1 < 4096 ∧ (cmd n u p).2.2.2.1 < 4096 ∧ (cmd n u p).2.2.2.2.1 < 4096 ∧ (cmd n u p).2.2.2.2.2 < 4096 := by
  have b1 := dig_b (n := n) (u := u) (s := (true, p + 1))
  unfold cmd
  by_cases h1 : sgn n u 98 p = true
  · rw [if_pos h1]
    have m1 := mst_b (n := n) (u := u) (c := 58) (s := (cB1 n u p).1)
    have b2 := ltr_b (n := n) (u := u) (s := mst n u 58 (cB1 n u p).1)
    have m2 := mst_b (n := n) (u := u) (c := 64) (s := (cB2 n u p).1)
    have b3 := num_b (n := n) (u := u) (s := mst n u 64 (cB2 n u p).1)
    have m3 := mst_b (n := n) (u := u) (c := 46) (s := (cB3 n u p).1)
    have b4 := dig_b (n := n) (u := u) (s := mst n u 46 (cB3 n u p).1)
    have e1 : (cB1 n u p) = dig n u (true, p + 1) := rfl
    have e2 : (cB2 n u p) = ltr n u (mst n u 58 (cB1 n u p).1) := rfl
    have e3 : (cB3 n u p) = num n u (mst n u 64 (cB2 n u p).1) := rfl
    have e4 : (cB4 n u p) = dig n u (mst n u 46 (cB3 n u p).1) := rfl
    rw [← e1] at b1
    rw [← e2] at b2
    rw [← e3] at b3
    rw [← e4] at b4
    have q1 : (true, p + 1).2 = p + 1 := rfl
    refine ⟨by show p ≤ (cB4 n u p).1.2; omega, by show (cB4 n u p).1.2 ≤ p + 20; omega, fun z => ?_, by show 0 ≤ 2; decide, by show (cB1 n u p).2 < 4096; omega, b2.2.2.1, by show (cB3 n u p).2 < 4096; omega, by show (cB4 n u p).2 < 4096; omega⟩
    have z4 := b4.2.2.2 z
    exact ⟨by show p + 2 ≤ (cB4 n u p).1.2; omega, by show (cB4 n u p).1.2 ≤ n; omega⟩
  · rw [if_neg h1]
    by_cases h2 : sgn n u 120 p = true
    · rw [if_pos h2]
      have b := num_b (n := n) (u := u) (s := (true, p + 1))
      have e : cX1 n u p = num n u (true, p + 1) := rfl
      rw [← e] at b
      have q1 : (true, p + 1).2 = p + 1 := rfl
      refine ⟨by show p ≤ (cX1 n u p).1.2; omega, by show (cX1 n u p).1.2 ≤ p + 20; omega, fun z => ?_, by show 1 ≤ 2; decide, by show (cX1 n u p).2 < 4096; omega, by show 0 < 4096; decide, by show 0 < 4096; decide, by show 0 < 4096; decide⟩
      have z4 := b.2.2.2 z
      exact ⟨by show p + 2 ≤ (cX1 n u p).1.2; omega, z4.2.1⟩
    · rw [if_neg h2]
      by_cases h3 : sgn n u 109 p = true
      · rw [if_pos h3]
        have m1 := mst_b (n := n) (u := u) (c := 47) (s := (cB1 n u p).1)
        have b2 := dig_b (n := n) (u := u) (s := mst n u 47 (cB1 n u p).1)
        have e1 : (cB1 n u p) = dig n u (true, p + 1) := rfl
        have e2 : (cM2 n u p) = dig n u (mst n u 47 (cB1 n u p).1) := rfl
        rw [← e1] at b1
        rw [← e2] at b2
        have q1 : (true, p + 1).2 = p + 1 := rfl
        refine ⟨by show p ≤ (cM2 n u p).1.2; omega, by show (cM2 n u p).1.2 ≤ p + 20; omega, fun z => ?_, by show 2 ≤ 2; decide, by show (cB1 n u p).2 < 4096; omega, by show (cM2 n u p).2 < 4096; omega, by show 0 < 4096; decide, by show 0 < 4096; decide⟩
        have z4 := b2.2.2.2 z
        exact ⟨by show p + 2 ≤ (cM2 n u p).1.2; omega, by show (cM2 n u p).1.2 ≤ n; omega⟩
      · rw [if_neg h3]
        exact ⟨Nat.le_refl _, by show p ≤ p + 20; omega, fun z => (by cases z), by show 2 ≤ 2; decide, by show 0 < 4096; decide, by show 0 < 4096; decide, by show 0 < 4096; decide, by show 0 < 4096; decide⟩
/-- where the commands begin -/
def psn (n : Nat) (u : Nat → Nat) : Nat → Nat
  | 0 => 0
  | k + 1 => (cmd n u (psn n u k)).1.2 + 1
/-- the text: right, with the number of commands; or the place of the error -/
def txt (n : Nat) (u : Nat → Nat) : Nat → Nat → PSt
  | 0, k => (false, k)
  | m + 1, k => if (cmd n u (psn n u k)).1.1 = true then (if n ≤ (cmd n u (psn n u k)).1.2 then (true, k + 1) else if sgn n u 59 (cmd n u (psn n u k)).1.2 = true then txt n u m (k + 1) else (false, (cmd n u (psn n u k)).1.2)) else (false, (cmd n u (psn n u k)).1.2)
end Pa1

