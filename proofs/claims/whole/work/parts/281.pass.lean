/-! ===== DAYS PASS: what stays valid ===== -/
section Ps1
variable {M : Mem} {a : Nat → Nat} {f : Nat → Int32}
theorem GS_day (hG : GS a) {x : Nat} (hx : x ≤ 55) : GS (updN a 0 x) := by
  have hGs := hG
  obtain ⟨⟨hb, h0, h1, h2, h3, h4, h5, h6⟩, hD, hst, hg⟩ := hG
  have hz := h0
  obtain ⟨z0, z1, z2, z3, z4, z5, z6, z7, z8, z9, z10, z11⟩ := hz
  have e : ∀ k, k ≠ 0 → (updN a 0 x) k = a k := fun k hk => updN_n hk
  refine ⟨⟨updN_lt hb (by omega), ?_, ?_, ?_, ?_, ?_, ?_, ?_⟩, ?_, ?_, ?_⟩
  · rw [updN_s, e 1 (by omega), e 2 (by omega), e 3 (by omega), e 4 (by omega), e 5 (by omega), e 6 (by omega), e 7 (by omega), e 8 (by omega), e 9 (by omega), e 10 (by omega), e 11 (by omega)]
    exact ⟨hx, h0.2⟩
  · rw [e 1 (by omega)]
    intro j hj
    rw [e (12 + j) (by omega), e (22 + j) (by omega), e (32 + j) (by omega)]
    exact h1 j hj
  · rw [e 2 (by omega)]
    intro j hj
    rw [e _ (by omega)]
    exact h2 j hj
  · rw [e 3 (by omega)]
    intro j hj
    rw [e (54 + j) (by omega), e (60 + j) (by omega), e (66 + j) (by omega), e (72 + j) (by omega)]
    exact h3 j hj
  · rw [e 4 (by omega), e 1 (by omega), e 2 (by omega), e 3 (by omega)]
    intro j hj
    rw [e (78 + 6 * j) (by omega), e (78 + 6 * j + 1) (by omega), e (78 + 6 * j + 2) (by omega), e (78 + 6 * j + 3) (by omega), e (78 + 6 * j + 4) (by omega), e (78 + 6 * j + 5) (by omega)]
    exact h4 j hj
  · rw [e 5 (by omega), e 1 (by omega), e 2 (by omega)]
    intro j hj
    rw [e (438 + 5 * j) (by omega), e (438 + 5 * j + 1) (by omega), e (438 + 5 * j + 2) (by omega), e (438 + 5 * j + 3) (by omega), e (438 + 5 * j + 4) (by omega)]
    exact h5 j hj
  · rw [e 6 (by omega), e 1 (by omega), e 2 (by omega)]
    intro j hj
    rw [e (488 + 4 * j) (by omega), e (488 + 4 * j + 1) (by omega), e (488 + 4 * j + 2) (by omega), e (488 + 4 * j + 3) (by omega)]
    exact h6 j hj
  · intro v w hv hw
    rw [e 4 (by omega)] at hv hw
    rw [e (78 + 6 * v) (by omega), e (78 + 6 * v + 2) (by omega), e (78 + 6 * v + 3) (by omega), e (78 + 6 * v + 4) (by omega), e (78 + 6 * v + 5) (by omega), e (78 + 6 * w) (by omega), e (78 + 6 * w + 2) (by omega), e (78 + 6 * w + 3) (by omega), e (78 + 6 * w + 4) (by omega), e (78 + 6 * w + 5) (by omega)]
    exact hD v w hv hw
  · intro v hv
    rw [e 4 (by omega)] at hv
    rw [e _ (by omega)]
    exact hst v hv
  · intro j hj hj2
    rw [e 1 (by omega)] at hj
    rw [e _ (by omega)]
    exact hg j hj hj2

theorem GS_st1 (hG : GS a) {v : Nat} (hv : v < 60) : GS (updN a (78 + 6 * v + 5) 1) := by
  refine ⟨VA_st hG.1 (by decide) hv, DD_st hG.2.1 hG.1.2.1.2.2.2.2.1 (by decide), fun u hu => ?_, fun i h1 h2 => ?_⟩
  · rw [updN_n (by omega)] at hu
    by_cases q : u = v
    · subst q; rw [updN_s]; decide
    · rw [updN_n (by omega)]; exact hG.2.2.1 u hu
  · rw [updN_n (by omega)] at h1
    rw [updN_n (by omega)]
    exact hG.2.2.2 i h1 h2
theorem Cz_day (hC : Cz a M) (hV : VA a) {x : Nat} : Cz (updN a 0 x) (mset M 1 0 (I x)) := by
  refine ⟨hC.1.up_d hV (fun i h1 h2 h3 => mset_ne (by omega)) (fun k h1 h2 => updN_n (by omega)) ?_, hC.2.set (Or.inl (by decide))⟩
  rw [mset_v, if_pos rfl, updN_s]
def psp (a : Nat → Nat) (v : Nat) : Bool := decide (a (78 + 6 * v + 5) = 0) && decide (a (78 + 6 * v + 2) < a 0)
def psv : Nat → (Nat → Nat) → Nat → Nat → (Nat → Nat) × Nat
  | 0, a, _, c => (a, c)
  | m + 1, a, v, c => if psp a v = true then psv m (updN a (78 + 6 * v + 5) 1) (v + 1) (c + 1) else psv m a (v + 1) c
theorem psv_t {m v c : Nat} (h : psp a v = true) : psv (m + 1) a v c = psv m (updN a (78 + 6 * v + 5) 1) (v + 1) (c + 1) := if_pos h
theorem psv_f {m v c : Nat} (h : psp a v = false) : psv (m + 1) a v c = psv m a (v + 1) c := if_neg (by rw [h]; exact Bool.noConfusion)
def psw : Nat → (Nat → Nat) → (Nat → Nat)
  | 0, a => a
  | k + 1, a => if a (488 + 4 * k + 3) < a 0 then psw k (drw a k) else psw k a
theorem psw_t {k : Nat} (h : a (488 + 4 * k + 3) < a 0) : psw (k + 1) a = psw k (drw a k) := if_pos h
theorem psw_f {k : Nat} (h : ¬ a (488 + 4 * k + 3) < a 0) : psw (k + 1) a = psw k a := if_neg h
theorem psv_GS : ∀ (m : Nat) (a : Nat → Nat) (v c : Nat), GS a → v + m ≤ 60 → GS (psv m a v c).1
  | 0, _, _, _, h, _ => h
  | m + 1, a, v, c, h, hv => by
    cases hq : psp a v with
    | true => rw [psv_t hq]; exact psv_GS m _ _ _ (GS_st1 h (by omega)) (by omega)
    | false => rw [psv_f hq]; exact psv_GS m _ _ _ h (by omega)
theorem drw_6 {k : Nat} : drw a k 6 = a 6 - 1 := if_pos rfl
theorem psw_GS : ∀ (k : Nat) (a : Nat → Nat), GS a → k ≤ a 6 → GS (psw k a)
  | 0, _, h, _ => h
  | k + 1, a, h, hk => by
    by_cases q : a (488 + 4 * k + 3) < a 0
    · rw [psw_t q]; exact psw_GS k _ (GS_drw h (by omega)) (by rw [drw_6]; omega)
    · rw [psw_f q]; exact psw_GS k _ h (by omega)
/-- d days pass -/
def pas (a : Nat → Nat) (d : Nat) : (Nat → Nat) × Nat := (psw ((psv (a 4) (updN a 0 (a 0 + d)) 0 0).1 6) (psv (a 4) (updN a 0 (a 0 + d)) 0 0).1, (psv (a 4) (updN a 0 (a 0 + d)) 0 0).2)
theorem pas_GS (hG : GS a) {d : Nat} (hd : a 0 + d ≤ 55) : GS (pas a d).1 := by
  have h4 := hG.1.2.1.2.2.2.2.1
  exact psw_GS _ _ (psv_GS _ _ _ _ (GS_day hG hd) (by omega)) (Nat.le_refl _)
theorem bL_dec (k : Nat) (hk : k < 1000) : I k + NO = bL k := by
  cases k with
  | zero => decide
  | succ k =>
    show I (k + 1) + NO = I k
    rw [show NO = -(I 1) from rfl, ← Int32.sub_eq_add_neg, I_sub (by omega)]
    rfl
theorem bL_dec2 (k : Nat) (hk : k < 1000) : I k - I 1 = bL k := by rw [← bL_dec k hk, Int32.sub_eq_add_neg]
theorem bL_s (k : Nat) : bL (k + 1) = I k := rfl
theorem bL_0 : bL 0 = NO := rfl
end Ps1

