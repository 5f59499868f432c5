/-! ===== A BOOKING THAT IS GRANTED KEEPS WHAT IS VALID ===== -/
section Av1
variable {M : Mem} {a : Nat → Nat} {f : Nat → Int32}
theorem used_t {d t r : Nat} : (used a d t).testBit r = true ↔ ∃ v, v < a 4 ∧ isI3 a v d t ∧ a (78 + 6 * v + 4) = r := by
  unfold used
  rw [ors_bit, anyB_t]
  constructor
  · rintro ⟨v, hv, h⟩
    by_cases c : isI3 a v d t
    · rw [if_pos c, Nat.testBit_two_pow] at h
      exact ⟨v, hv, c, by simpa using h⟩
    · rw [if_neg c, Nat.zero_testBit] at h; cases h
  · rintro ⟨v, hv, c, h⟩
    exact ⟨v, hv, by rw [if_pos c, Nat.testBit_two_pow]; simpa using h⟩
theorem rmB_sp {i n d t r : Nat} (h : rmB a i n d t = some r) : r < a 3 ∧ a (72 + r) ≠ 0 ∧ ∀ v, v < a 4 → isI3 a v d t → a (78 + 6 * v + 4) ≠ r := by
  unfold rmB at h
  have q := am_s h
  have hp := q.2.1
  unfold had poss at hp
  simp only [Bool.and_eq_true, Bool.not_eq_true', decide_eq_false_iff_not] at hp
  refine ⟨q.1, hp.1.1, fun v hv c e => ?_⟩
  have := used_t.mpr ⟨v, hv, c, e⟩
  rw [hp.1.2.2.1] at this
  cases this
theorem rsn_0 (hV : VA a) {i s d t : Nat} (h : (rsn a i s d t).1 = 0) : ∃ r, (rsn a i s d t).2 = I r ∧ rmB a i (pc s) d t = some r ∧ a 4 < 60 ∧ a 0 ≤ d ∧ visO a i d t = none := by
  have h3 := hV.2.1.2.2.2.1
  have h4 := hV.2.1.2.2.2.2.1
  unfold rsn at h ⊢
  by_cases c1 : d < a 0
  · rw [if_pos c1] at h; exact absurd h (by decide : (1 : Nat) ≠ 0)
  · rw [if_neg c1] at h ⊢
    cases e2 : banBy a i s d with
    | some k => rw [e2] at h; exact absurd h (by decide : (2 : Nat) ≠ 0)
    | none =>
      rw [e2] at h
      simp only at h ⊢
      by_cases c3 : dcs a s = true ∧ quo a i ≤ cnt a i (d / 7)
      · rw [if_pos c3] at h; exact absurd h (by decide : (3 : Nat) ≠ 0)
      · rw [if_neg c3] at h ⊢
        cases e4 : visO a i d t with
        | some k => rw [e4] at h; exact absurd h (by decide : (4 : Nat) ≠ 0)
        | none =>
          rw [e4] at h
          simp only at h ⊢
          cases e5 : bsyV a s d t with
          | some k => rw [e5] at h; exact absurd h (by decide : (5 : Nat) ≠ 0)
          | none =>
            rw [e5] at h
            simp only at h ⊢
            by_cases c6 : rmF a i (pc s) d t = NO
            · rw [if_pos c6] at h; exact absurd h (by decide : (6 : Nat) ≠ 0)
            · rw [if_neg c6] at h ⊢
              by_cases c7 : rmF a i (pc s) d t < I 0
              · rw [if_pos c7] at h; exact absurd h (by decide : (7 : Nat) ≠ 0)
              · rw [if_neg c7] at h ⊢
                by_cases c8 : a 4 = 60
                · rw [if_pos c8] at h; exact absurd h (by decide : (8 : Nat) ≠ 0)
                · rw [if_neg c8] at h ⊢
                  cases e9 : rmB a i (pc s) d t with
                  | some r =>
                    refine ⟨r, ?_, rfl, by omega, by omega, trivial⟩
                    rw [rmF_is hV, e9]
                  | none =>
                    exfalso
                    rw [rmF_is hV, e9] at c6 c7
                    simp only at c6 c7
                    by_cases z : anyB (fun r => poss a r i (pc s) d t) (a 3) = true
                    · rw [if_pos z] at c7; exact c7 (by decide)
                    · rw [if_neg z] at c6; exact c6 rfl
theorem VA_adv (hV : VA a) {i s d t r : Nat} (h4 : a 4 < 60) (hi : i < a 1) (hs : 0 < s ∧ s < 2 ^ a 2) (hd : d ≤ 55) (ht : t < 4) (hr : r < a 3) : VA (adv a i s d t r) := by
  obtain ⟨hb, h0, h1, h2, h3, hv, h5, h6⟩ := hV
  have h2p := two_le h0.2.2.1
  have e : ∀ k, k < 78 → k ≠ 4 → adv a i s d t r k = a k := fun k hk hk4 => adv_lo (by omega) hk4
  have e' : ∀ k, 438 ≤ k → adv a i s d t r k = a k := fun k hk => adv_hi (by omega)
  have hc := adv_c (a := a) (i := i) (s := s) (d := d) (t := t) (r := r)
  refine ⟨fun k => ?_, ?_, ?_, ?_, ?_, ?_, ?_, ?_⟩
  · have hk := hb k
    unfold adv
    repeat' split
    all_goals omega
  · rw [e 0 (by omega) (by omega), e 1 (by omega) (by omega), e 2 (by omega) (by omega), e 3 (by omega) (by omega), adv_4, e 5 (by omega) (by omega), e 6 (by omega) (by omega), e 7 (by omega) (by omega), e 8 (by omega) (by omega), e 9 (by omega) (by omega), e 10 (by omega) (by omega), e 11 (by omega) (by omega)]
    exact ⟨h0.1, h0.2.1, h0.2.2.1, h0.2.2.2.1, by omega, h0.2.2.2.2.2⟩
  · rw [e 1 (by omega) (by omega)]
    intro j hj
    have := h0.2.1
    rw [e _ (by omega) (by omega), e _ (by omega) (by omega), e _ (by omega) (by omega)]
    exact h1 j hj
  · rw [e 2 (by omega) (by omega)]
    intro j hj
    have := h0.2.2.1
    rw [e _ (by omega) (by omega)]
    exact h2 j hj
  · rw [e 3 (by omega) (by omega)]
    intro j hj
    have := h0.2.2.2.1
    rw [e _ (by omega) (by omega), e _ (by omega) (by omega), e _ (by omega) (by omega), e _ (by omega) (by omega)]
    exact h3 j hj
  · rw [adv_4, e 1 (by omega) (by omega), e 2 (by omega) (by omega), e 3 (by omega) (by omega)]
    intro j hj
    by_cases q : j = a 4
    · subst q
      rw [hc.1, hc.2.1, hc.2.2.1, hc.2.2.2.1, hc.2.2.2.2.1, hc.2.2.2.2.2]
      exact ⟨hi, hs, hd, ht, hr, by decide⟩
    · rw [adv_lo (k := 78 + 6 * j) (by omega) (by omega), adv_lo (k := 78 + 6 * j + 1) (by omega) (by omega), adv_lo (k := 78 + 6 * j + 2) (by omega) (by omega), adv_lo (k := 78 + 6 * j + 3) (by omega) (by omega), adv_lo (k := 78 + 6 * j + 4) (by omega) (by omega), adv_lo (k := 78 + 6 * j + 5) (by omega) (by omega)]
      exact hv j (by omega)
  · rw [e 5 (by omega) (by omega), e 1 (by omega) (by omega), e 2 (by omega) (by omega)]
    intro j hj
    rw [e' (438 + 5 * j) (by omega), e' (438 + 5 * j + 1) (by omega), e' (438 + 5 * j + 2) (by omega), e' (438 + 5 * j + 3) (by omega), e' (438 + 5 * j + 4) (by omega)]
    exact h5 j hj
  · rw [e 6 (by omega) (by omega), e 1 (by omega) (by omega), e 2 (by omega) (by omega)]
    intro j hj
    rw [e' (488 + 4 * j) (by omega), e' (488 + 4 * j + 1) (by omega), e' (488 + 4 * j + 2) (by omega), e' (488 + 4 * j + 3) (by omega)]
    exact h6 j hj
theorem DD_adv (hD : DD a) {i s d t r : Nat} (h1 : ∀ v, v < a 4 → isI3 a v d t → a (78 + 6 * v) ≠ i ∧ a (78 + 6 * v + 4) ≠ r) : DD (adv a i s d t r) := by
  have hc := adv_c (a := a) (i := i) (s := s) (d := d) (t := t) (r := r)
  have e : ∀ v c, v < a 4 → c < 6 → adv a i s d t r (78 + 6 * v + c) = a (78 + 6 * v + c) := fun v c hv hc => adv_lo (by omega) (by omega)
  have e0 : ∀ v, v < a 4 → adv a i s d t r (78 + 6 * v) = a (78 + 6 * v) := fun v hv => adv_lo (by omega) (by omega)
  intro u w hu hw hne
  rw [adv_4] at hu hw
  by_cases q1 : u = a 4
  · by_cases q2 : w = a 4
    · exact absurd (q1.trans q2.symm) hne
    · subst q1
      have hw' : w < a 4 := by omega
      rw [hc.1, hc.2.2.1, hc.2.2.2.1, hc.2.2.2.2.1, hc.2.2.2.2.2, e0 w hw', e w 2 hw' (by decide), e w 3 hw' (by decide), e w 4 hw' (by decide), e w 5 hw' (by decide)]
      intro _ g1 g2 g3
      have := h1 w hw' ⟨g1, g2.symm, g3.symm⟩
      exact ⟨fun z => this.1 z.symm, fun z => this.2 z.symm⟩
  · have hu' : u < a 4 := by omega
    by_cases q2 : w = a 4
    · subst q2
      rw [hc.1, hc.2.2.1, hc.2.2.2.1, hc.2.2.2.2.1, hc.2.2.2.2.2, e0 u hu', e u 2 hu' (by decide), e u 3 hu' (by decide), e u 4 hu' (by decide), e u 5 hu' (by decide)]
      intro g1 _ g2 g3
      exact h1 u hu' ⟨g1, g2, g3⟩
    · have hw' : w < a 4 := by omega
      rw [e0 u hu', e u 2 hu' (by decide), e u 3 hu' (by decide), e u 4 hu' (by decide), e u 5 hu' (by decide), e0 w hw', e w 2 hw' (by decide), e w 3 hw' (by decide), e w 4 hw' (by decide), e w 5 hw' (by decide)]
      exact hD u w hu' hw' hne
/-- what a granted booking makes of the state -/
theorem VD_adv (hV : VA a) (hD : DD a) {i s d t r : Nat} (hi : i < a 1) (hs : 0 < s ∧ s < 2 ^ a 2) (hd : d ≤ 55) (ht : t < 4) (h : (rsn a i s d t).1 = 0) (hr : rmB a i (pc s) d t = some r) : VA (adv a i s d t r) ∧ DD (adv a i s d t r) := by
  obtain ⟨r', -, h2, h4, h5, h6⟩ := rsn_0 hV h
  have hq := rmB_sp hr
  refine ⟨VA_adv hV h4 hi hs hd ht hq.1, DD_adv hD (fun v hv hI => ⟨fun hz => ?_, hq.2.2 v hv hI⟩)⟩
  unfold visO at h6
  have := fnd_np h6 v (Nat.zero_le _) (by omega)
  rw [Bool.and_eq_false_iff] at this
  rcases this with c | c
  · exact (decide_eq_false_iff_not.mp c) hI
  · exact (decide_eq_false_iff_not.mp c) hz
end Av1

