/-! ===== AN INMATE MOVED OR CONFINED: what stays valid ===== -/
section In1
variable {a : Nat → Nat}
theorem GS_lv (hG : GS a) {i x : Nat} (hi : i < a 1) (hx : x < 4) : GS (updN a (12 + i) x) := by
  obtain ⟨⟨hb, h0, h1, h2, h3, h4, h5, h6⟩, hD, hst, hg⟩ := hG
  have ha1 := h0.2.1
  have e : ∀ k, k ≠ 12 + i → updN a (12 + i) x k = a k := fun k hk => updN_n hk
  refine ⟨⟨updN_lt hb (by omega), ?_, ?_, ?_, ?_, ?_, ?_, ?_⟩, ?_, ?_, ?_⟩
  · rw [e 0 (by omega), e 1 (by omega), e 2 (by omega), e 3 (by omega), e 4 (by omega), e 5 (by omega), e 6 (by omega), e 7 (by omega), e 8 (by omega), e 9 (by omega), e 10 (by omega), e 11 (by omega)]
    exact h0
  · rw [e 1 (by omega)]
    intro j hj
    refine ⟨by
      by_cases c : j = i
      · subst c; rw [updN_s]; exact hx
      · rw [e _ (by omega)]; exact (h1 j hj).1, by rw [e _ (by omega)]; exact (h1 j hj).2.1, by rw [e _ (by omega)]; exact (h1 j hj).2.2⟩
  · rw [e 2 (by omega)]
    intro j hj
    rw [e _ (by omega)]
    exact h2 j hj
  · rw [e 3 (by omega)]
    intro j hj
    rw [e (54 + j) (by omega), e (60 + j) (by omega), e (66 + j) (by omega), e (72 + j) (by omega)]
    exact h3 j hj
  · rw [e 4 (by omega), e 1 (by omega), e 2 (by omega), e 3 (by omega)]
    intro j hj
    rw [e (78 + 6 * j) (by omega), e (78 + 6 * j + 1) (by omega), e (78 + 6 * j + 2) (by omega), e (78 + 6 * j + 3) (by omega), e (78 + 6 * j + 4) (by omega), e (78 + 6 * j + 5) (by omega)]
    exact h4 j hj
  · rw [e 5 (by omega), e 1 (by omega), e 2 (by omega)]
    intro j hj
    rw [e (438 + 5 * j) (by omega), e (438 + 5 * j + 1) (by omega), e (438 + 5 * j + 2) (by omega), e (438 + 5 * j + 3) (by omega), e (438 + 5 * j + 4) (by omega)]
    exact h5 j hj
  · rw [e 6 (by omega), e 1 (by omega), e 2 (by omega)]
    intro j hj
    rw [e (488 + 4 * j) (by omega), e (488 + 4 * j + 1) (by omega), e (488 + 4 * j + 2) (by omega), e (488 + 4 * j + 3) (by omega)]
    exact h6 j hj
  · intro v w hv hw
    rw [e 4 (by omega)] at hv hw
    rw [e (78 + 6 * v) (by omega), e (78 + 6 * v + 2) (by omega), e (78 + 6 * v + 3) (by omega), e (78 + 6 * v + 4) (by omega), e (78 + 6 * v + 5) (by omega), e (78 + 6 * w) (by omega), e (78 + 6 * w + 2) (by omega), e (78 + 6 * w + 3) (by omega), e (78 + 6 * w + 4) (by omega), e (78 + 6 * w + 5) (by omega)]
    exact hD v w hv hw
  · intro v hv
    rw [e 4 (by omega)] at hv
    rw [e _ (by omega)]
    exact hst v hv
  · intro j hj hj2
    rw [e 1 (by omega)] at hj
    rw [e _ (by omega)]
    exact hg j hj hj2
theorem GS_gl (hG : GS a) {i x : Nat} (hi : i < a 1) (hx : x < 2) : GS (updN a (32 + i) x) := by
  obtain ⟨⟨hb, h0, h1, h2, h3, h4, h5, h6⟩, hD, hst, hg⟩ := hG
  have ha1 := h0.2.1
  have e : ∀ k, k ≠ 32 + i → updN a (32 + i) x k = a k := fun k hk => updN_n hk
  refine ⟨⟨updN_lt hb (by omega), ?_, ?_, ?_, ?_, ?_, ?_, ?_⟩, ?_, ?_, ?_⟩
  · rw [e 0 (by omega), e 1 (by omega), e 2 (by omega), e 3 (by omega), e 4 (by omega), e 5 (by omega), e 6 (by omega), e 7 (by omega), e 8 (by omega), e 9 (by omega), e 10 (by omega), e 11 (by omega)]
    exact h0
  · rw [e 1 (by omega)]
    intro j hj
    refine ⟨by rw [e _ (by omega)]; exact (h1 j hj).1, by rw [e _ (by omega)]; exact (h1 j hj).2.1, by
      by_cases c : j = i
      · subst c; rw [updN_s]; exact hx
      · rw [e _ (by omega)]; exact (h1 j hj).2.2⟩
  · rw [e 2 (by omega)]
    intro j hj
    rw [e _ (by omega)]
    exact h2 j hj
  · rw [e 3 (by omega)]
    intro j hj
    rw [e (54 + j) (by omega), e (60 + j) (by omega), e (66 + j) (by omega), e (72 + j) (by omega)]
    exact h3 j hj
  · rw [e 4 (by omega), e 1 (by omega), e 2 (by omega), e 3 (by omega)]
    intro j hj
    rw [e (78 + 6 * j) (by omega), e (78 + 6 * j + 1) (by omega), e (78 + 6 * j + 2) (by omega), e (78 + 6 * j + 3) (by omega), e (78 + 6 * j + 4) (by omega), e (78 + 6 * j + 5) (by omega)]
    exact h4 j hj
  · rw [e 5 (by omega), e 1 (by omega), e 2 (by omega)]
    intro j hj
    rw [e (438 + 5 * j) (by omega), e (438 + 5 * j + 1) (by omega), e (438 + 5 * j + 2) (by omega), e (438 + 5 * j + 3) (by omega), e (438 + 5 * j + 4) (by omega)]
    exact h5 j hj
  · rw [e 6 (by omega), e 1 (by omega), e 2 (by omega)]
    intro j hj
    rw [e (488 + 4 * j) (by omega), e (488 + 4 * j + 1) (by omega), e (488 + 4 * j + 2) (by omega), e (488 + 4 * j + 3) (by omega)]
    exact h6 j hj
  · intro v w hv hw
    rw [e 4 (by omega)] at hv hw
    rw [e (78 + 6 * v) (by omega), e (78 + 6 * v + 2) (by omega), e (78 + 6 * v + 3) (by omega), e (78 + 6 * v + 4) (by omega), e (78 + 6 * v + 5) (by omega), e (78 + 6 * w) (by omega), e (78 + 6 * w + 2) (by omega), e (78 + 6 * w + 3) (by omega), e (78 + 6 * w + 4) (by omega), e (78 + 6 * w + 5) (by omega)]
    exact hD v w hv hw
  · intro v hv
    rw [e 4 (by omega)] at hv
    rw [e _ (by omega)]
    exact hst v hv
  · intro j hj hj2
    rw [e 1 (by omega)] at hj
    rw [e _ (by omega)]
    exact hg j hj hj2
end In1

