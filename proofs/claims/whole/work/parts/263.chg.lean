/-! ===== A VISIT IS REHOUSED: the room does not depend on how the visit is set aside ===== -/
section Ch1
variable {a b : Nat → Nat} {v : Nat}
theorem ors_cg {f g : Nat → Nat} : ∀ {n : Nat}, (∀ k, k < n → f k = g k) → ors f n = ors g n
  | 0, _ => rfl
  | n + 1, h => by unfold ors; rw [ors_cg (fun k hk => h k (by omega)), h n (by omega)]
theorem exF_cg {p q : Nat → Bool} : ∀ {m k : Nat}, (∀ j, k ≤ j → j < k + m → p j = q j) → exF p m k = exF q m k
  | 0, _, _ => rfl
  | m + 1, k, h => by
    show (if p k = true then true else exF p m (k + 1)) = (if q k = true then true else exF q m (k + 1))
    rw [h k (Nat.le_refl _) (by omega), exF_cg (fun j h1 h2 => h j (by omega) (by omega))]
/-- two states that differ in how visit v is set aside -/
def Eb (a b : Nat → Nat) (v : Nat) : Prop := v < 60 ∧ (∀ k, k ≠ 78 + 6 * v + 5 → a k = b k) ∧ a (78 + 6 * v + 5) ≠ 0 ∧ b (78 + 6 * v + 5) ≠ 0
theorem Eb_is3 (h : Eb a b v) (u d t : Nat) : isI3 a u d t ↔ isI3 b u d t := by
  obtain ⟨h1, h2, h3, h4⟩ := h
  unfold isI3
  rw [h2 (78 + 6 * u + 2) (by omega), h2 (78 + 6 * u + 3) (by omega)]
  by_cases q : u = v
  · subst q
    constructor
    · intro z; exact absurd z.1 h3
    · intro z; exact absurd z.1 h4
  · rw [h2 (78 + 6 * u + 5) (by omega)]
theorem Eb_used (h : Eb a b v) (d t : Nat) : used a d t = used b d t := by
  have h2 := h.2.1
  unfold used
  rw [h2 4 (by have := h.1; omega)]
  refine ors_cg (fun u hu => ?_)
  rw [h2 (78 + 6 * u + 4) (by omega)]
  by_cases c : isI3 a u d t
  · rw [if_pos c, if_pos ((Eb_is3 h u d t).mp c)]
  · rw [if_neg c, if_neg (fun z => c ((Eb_is3 h u d t).mpr z))]
theorem Eb_lft (h : Eb a b v) (hV : VA a) (d t : Nat) : lft a d t = lft b d t := by
  have h2 := h.2.1
  have h3 := hV.2.1.2.2.2.1
  unfold lft
  rw [← h2 4 (by omega), ← h2 11 (by omega)]
  congr 2
  refine sm_cg (fun u hu => ?_)
  have hr := (hV.2.2.2.2.2.1 u hu).2.2.2.2.1
  have e : sea a u = sea b u := by
    unfold sea
    rw [← h2 (78 + 6 * u + 4) (by omega), ← h2 (66 + a (78 + 6 * u + 4)) (by omega), ← h2 (78 + 6 * u + 1) (by omega)]
  by_cases c : isI3 a u d t
  · rw [if_pos c, if_pos ((Eb_is3 h u d t).mp c), e]
  · rw [if_neg c, if_neg (fun z => c ((Eb_is3 h u d t).mpr z))]
theorem Eb_arP (h : Eb a b v) (x y d : Nat) : arP a x y d = arP b x y d := by
  have h1 := h.1
  have h2 := h.2.1
  unfold arP
  rw [h2 5 (by omega)]
  congr 1
  funext k
  rw [h2 (438 + 5 * k) (by omega), h2 (438 + 5 * k + 1) (by omega), h2 (438 + 5 * k + 2) (by omega), h2 (438 + 5 * k + 3) (by omega), h2 (438 + 5 * k + 4) (by omega)]
theorem Eb_nearB (h : Eb a b v) (hV : VA a) {r i : Nat} (hr : r < 6) (d t : Nat) : nearB a r i d t = nearB b r i d t := by
  have h2 := h.2.1
  have h3 := hV.2.1.2.2.2.1
  unfold nearB
  rw [← h2 4 (by omega)]
  refine exF_cg (fun u _ hu => ?_)
  have hr2 := (hV.2.2.2.2.2.1 u (by omega)).2.2.2.2.1
  rw [← h2 (78 + 6 * u) (by omega), ← h2 (78 + 6 * u + 4) (by omega), ← h2 (54 + a (78 + 6 * u + 4)) (by omega), ← h2 (54 + r) (by omega), Eb_arP h]
  congr 1
  exact decide_eq_decide.mpr (Eb_is3 h u d t)
theorem Eb_poss (h : Eb a b v) (hV : VA a) {r i n : Nat} (hr : r < 6) (hi : i < 10) (d t : Nat) : poss a r i n d t = poss b r i n d t := by
  have h2 := h.2.1
  unfold poss
  rw [h2 (72 + r) (by omega), h2 (60 + r) (by omega), h2 (32 + i) (by omega), h2 (66 + r) (by omega), Eb_used h, Eb_nearB h hV hr]
theorem Eb_rmB (h : Eb a b v) (hV : VA a) {i n : Nat} (hi : i < 10) (d t : Nat) : rmB a i n d t = rmB b i n d t := by
  have h2 := h.2.1
  have h3 := hV.2.1.2.2.2.1
  unfold rmB
  rw [← h2 3 (by omega)]
  refine am_cg (fun x y hxy hy => ?_) (fun x hx => ?_)
  · have e : ∀ z, z < 6 → keyR a i z = keyR b i z := fun z hz => by
      unfold keyR
      rw [h2 (54 + z) (by omega), h2 (12 + i) (by omega), h2 (60 + z) (by omega)]
    rw [e x (by omega), e y (by omega)]
  · unfold had
    rw [Eb_poss h hV (by omega) hi, Eb_lft h hV, h2 (66 + x) (by omega)]
theorem Eb_st {x y : Nat} (hv : v < 60) (hx : x ≠ 0) (hy : y ≠ 0) : Eb (updN a (78 + 6 * v + 5) x) (updN a (78 + 6 * v + 5) y) v := ⟨hv, fun k hk => by rw [updN_n hk, updN_n hk], by rw [updN_s]; exact hx, by rw [updN_s]; exact hy⟩
end Ch1
/-- the room that a visit finds when it is set aside -/
def rmV (a : Nat → Nat) (v : Nat) : Option Nat := rmB (updN a (78 + 6 * v + 5) 2) (a (78 + 6 * v)) (pc (a (78 + 6 * v + 1))) (a (78 + 6 * v + 2)) (a (78 + 6 * v + 3))
/-- visit v is rehoused; whether it is changed -/
def chg (a : Nat → Nat) (v : Nat) : (Nat → Nat) × Nat := match rmV a v with
  | none => (cnl a v 2, 1)
  | some r => if r = a (78 + 6 * v + 4) then (a, 0) else (nt (updN a (78 + 6 * v + 4) r) v 0, 1)

