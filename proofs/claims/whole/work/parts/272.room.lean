/-! ===== A ROOM OPENED ===== -/
section Rm2
variable {M : Mem} {a : Nat → Nat} {f : Nat → Int32}
theorem GS_op (hG : GS a) {r x : Nat} (hr : r < 6) (hx : x < 2) : GS (updN a (72 + r) x) := by
  obtain ⟨⟨hb, h0, h1, h2, h3, h4, h5, h6⟩, hD, hst, hg⟩ := hG
  have e : ∀ k, k ≠ 72 + r → updN a (72 + r) x k = a k := fun k hk => updN_n hk
  refine ⟨⟨updN_lt hb (by omega), ?_, ?_, ?_, ?_, ?_, ?_, ?_⟩, ?_, ?_, ?_⟩
  · rw [e 0 (by omega), e 1 (by omega), e 2 (by omega), e 3 (by omega), e 4 (by omega), e 5 (by omega), e 6 (by omega), e 7 (by omega), e 8 (by omega), e 9 (by omega), e 10 (by omega), e 11 (by omega)]
    exact h0
  · rw [e 1 (by omega)]
    intro i hi
    have := h0.2.1
    rw [e _ (by omega), e _ (by omega), e _ (by omega)]
    exact h1 i hi
  · rw [e 2 (by omega)]
    intro i hi
    have := h0.2.2.1
    rw [e _ (by omega)]
    exact h2 i hi
  · rw [e 3 (by omega)]
    intro i hi
    have := h0.2.2.2.1
    rw [e (54 + i) (by omega), e (60 + i) (by omega), e (66 + i) (by omega)]
    have q := h3 i hi
    refine ⟨q.1, q.2.1, q.2.2.1, ?_⟩
    by_cases c : i = r
    · subst c; rw [updN_s]; exact hx
    · rw [e _ (by omega)]; exact q.2.2.2
  · rw [e 4 (by omega), e 1 (by omega), e 2 (by omega), e 3 (by omega)]
    intro i hi
    rw [e (78 + 6 * i) (by omega), e (78 + 6 * i + 1) (by omega), e (78 + 6 * i + 2) (by omega), e (78 + 6 * i + 3) (by omega), e (78 + 6 * i + 4) (by omega), e (78 + 6 * i + 5) (by omega)]
    exact h4 i hi
  · rw [e 5 (by omega), e 1 (by omega), e 2 (by omega)]
    intro i hi
    rw [e (438 + 5 * i) (by omega), e (438 + 5 * i + 1) (by omega), e (438 + 5 * i + 2) (by omega), e (438 + 5 * i + 3) (by omega), e (438 + 5 * i + 4) (by omega)]
    exact h5 i hi
  · rw [e 6 (by omega), e 1 (by omega), e 2 (by omega)]
    intro i hi
    rw [e (488 + 4 * i) (by omega), e (488 + 4 * i + 1) (by omega), e (488 + 4 * i + 2) (by omega), e (488 + 4 * i + 3) (by omega)]
    exact h6 i hi
  · intro v w hv hw
    rw [e 4 (by omega)] at hv hw
    rw [e (78 + 6 * v) (by omega), e (78 + 6 * v + 2) (by omega), e (78 + 6 * v + 3) (by omega), e (78 + 6 * v + 4) (by omega), e (78 + 6 * v + 5) (by omega), e (78 + 6 * w) (by omega), e (78 + 6 * w + 2) (by omega), e (78 + 6 * w + 3) (by omega), e (78 + 6 * w + 4) (by omega), e (78 + 6 * w + 5) (by omega)]
    exact hD v w hv hw
  · intro v hv
    rw [e 4 (by omega)] at hv
    rw [e _ (by omega)]
    exact hst v hv
  · intro i hi hi2
    rw [e 1 (by omega)] at hi
    rw [e _ (by omega)]
    exact hg i hi hi2
end Rm2

