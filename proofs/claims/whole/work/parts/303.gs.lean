/-! ===== ROWS ADDED, SETTINGS: what stays valid ===== -/
section Gs1
variable {M : Mem} {a : Nat → Nat} {f : Nat → Int32}
theorem GS_ad_inm (hG : GS a) {x0 x1 : Nat} (hn : a 1 < 10) (hx0 : x0 < 4) (hx1 : x1 < 3) : GS (ad_inm a x0 x1) := by
  have hGs := hG
  obtain ⟨⟨hb, h0, h1, h2, h3, h4, h5, h6⟩, hD, hst, hg⟩ := hG
  have hz := h0
  obtain ⟨z0, z1, z2, z3, z4, z5, z6, z7, z8, z9, z10, z11⟩ := hz
  have e : ∀ k, k ≠ 1 ∧ k ≠ 12 + a 1 ∧ k ≠ 22 + a 1 → (ad_inm a x0 x1) k = a k := fun k hk => ad_inm_n hk
  refine ⟨⟨updN_lt (updN_lt (updN_lt hb (by omega)) (by omega)) (by omega), ?_, ?_, ?_, ?_, ?_, ?_, ?_⟩, ?_, ?_, ?_⟩
  · rw [e 0 (by omega), ad_inm_c, e 2 (by omega), e 3 (by omega), e 4 (by omega), e 5 (by omega), e 6 (by omega), e 7 (by omega), e 8 (by omega), e 9 (by omega), e 10 (by omega), e 11 (by omega)]
    exact ⟨z0, by omega, z2, z3, z4, z5, z6, z7, z8, z9, z10, z11⟩
  · rw [ad_inm_c]
    intro j hj
    by_cases q : j = a 1
    · subst q; rw [ad_inm_v0 (by omega), ad_inm_v1 (by omega), e (32 + a 1) (by omega), hg (a 1) (Nat.le_refl _) hn]; exact ⟨hx0, hx1, by decide⟩
    · rw [e (12 + j) (by omega), e (22 + j) (by omega), e (32 + j) (by omega)]; exact h1 j (by omega)
  · rw [e 2 (by omega)]
    intro j hj
    rw [e _ (by omega)]
    exact h2 j hj
  · rw [e 3 (by omega)]
    intro j hj
    rw [e (54 + j) (by omega), e (60 + j) (by omega), e (66 + j) (by omega), e (72 + j) (by omega)]
    exact h3 j hj
  · rw [e 4 (by omega), ad_inm_c, e 2 (by omega), e 3 (by omega)]
    intro j hj
    rw [e (78 + 6 * j) (by omega), e (78 + 6 * j + 1) (by omega), e (78 + 6 * j + 2) (by omega), e (78 + 6 * j + 3) (by omega), e (78 + 6 * j + 4) (by omega), e (78 + 6 * j + 5) (by omega)]
    have := h4 j hj
    exact ⟨by omega, this.2⟩
  · rw [e 5 (by omega), ad_inm_c, e 2 (by omega)]
    intro j hj
    rw [e (438 + 5 * j) (by omega), e (438 + 5 * j + 1) (by omega), e (438 + 5 * j + 2) (by omega), e (438 + 5 * j + 3) (by omega), e (438 + 5 * j + 4) (by omega)]
    have g := h5 j hj
    exact ⟨g.1, by omega, g.2.2.1, g.2.2.2.1, fun q => ⟨by have := (g.2.2.2.2.1 q).1; omega, (g.2.2.2.2.1 q).2⟩, g.2.2.2.2.2⟩
  · rw [e 6 (by omega), ad_inm_c, e 2 (by omega)]
    intro j hj
    rw [e (488 + 4 * j) (by omega), e (488 + 4 * j + 1) (by omega), e (488 + 4 * j + 2) (by omega), e (488 + 4 * j + 3) (by omega)]
    have g := h6 j hj
    exact ⟨by omega, g.2⟩
  · intro v w hv hw
    rw [e 4 (by omega)] at hv hw
    rw [e (78 + 6 * v) (by omega), e (78 + 6 * v + 2) (by omega), e (78 + 6 * v + 3) (by omega), e (78 + 6 * v + 4) (by omega), e (78 + 6 * v + 5) (by omega), e (78 + 6 * w) (by omega), e (78 + 6 * w + 2) (by omega), e (78 + 6 * w + 3) (by omega), e (78 + 6 * w + 4) (by omega), e (78 + 6 * w + 5) (by omega)]
    exact hD v w hv hw
  · intro v hv
    rw [e 4 (by omega)] at hv
    rw [e _ (by omega)]
    exact hst v hv
  · intro j hj hj2
    rw [ad_inm_c] at hj
    rw [e _ (by omega)]
    exact hg j (by omega) hj2
theorem GS_ad_vis (hG : GS a) {x0 : Nat} (hn : a 2 < 12) (hx0 : x0 < 3) : GS (ad_vis a x0) := by
  have hGs := hG
  obtain ⟨⟨hb, h0, h1, h2, h3, h4, h5, h6⟩, hD, hst, hg⟩ := hG
  have hz := h0
  obtain ⟨z0, z1, z2, z3, z4, z5, z6, z7, z8, z9, z10, z11⟩ := hz
  have e : ∀ k, k ≠ 2 ∧ k ≠ 42 + a 2 → (ad_vis a x0) k = a k := fun k hk => ad_vis_n hk
  refine ⟨⟨updN_lt (updN_lt hb (by omega)) (by omega), ?_, ?_, ?_, ?_, ?_, ?_, ?_⟩, ?_, ?_, ?_⟩
  · rw [e 0 (by omega), e 1 (by omega), ad_vis_c, e 3 (by omega), e 4 (by omega), e 5 (by omega), e 6 (by omega), e 7 (by omega), e 8 (by omega), e 9 (by omega), e 10 (by omega), e 11 (by omega)]
    exact ⟨z0, z1, by omega, z3, z4, z5, z6, z7, z8, z9, z10, z11⟩
  · rw [e 1 (by omega)]
    intro j hj
    rw [e (12 + j) (by omega), e (22 + j) (by omega), e (32 + j) (by omega)]
    exact h1 j hj
  · rw [ad_vis_c]
    intro j hj
    by_cases q : j = a 2
    · subst q; rw [ad_vis_v0 (by omega)]; exact hx0
    · rw [e (42 + j) (by omega)]; exact h2 j (by omega)
  · rw [e 3 (by omega)]
    intro j hj
    rw [e (54 + j) (by omega), e (60 + j) (by omega), e (66 + j) (by omega), e (72 + j) (by omega)]
    exact h3 j hj
  · rw [e 4 (by omega), ad_vis_c, e 1 (by omega), e 3 (by omega)]
    intro j hj
    rw [e (78 + 6 * j) (by omega), e (78 + 6 * j + 1) (by omega), e (78 + 6 * j + 2) (by omega), e (78 + 6 * j + 3) (by omega), e (78 + 6 * j + 4) (by omega), e (78 + 6 * j + 5) (by omega)]
    have g := h4 j hj
    exact ⟨g.1, ⟨g.2.1.1, Nat.lt_of_lt_of_le g.2.1.2 (Nat.pow_le_pow_right (by decide) (Nat.le_succ _))⟩, g.2.2⟩
  · rw [e 5 (by omega), ad_vis_c, e 1 (by omega)]
    intro j hj
    rw [e (438 + 5 * j) (by omega), e (438 + 5 * j + 1) (by omega), e (438 + 5 * j + 2) (by omega), e (438 + 5 * j + 3) (by omega), e (438 + 5 * j + 4) (by omega)]
    have g := h5 j hj
    exact ⟨g.1, g.2.1, fun q => Nat.lt_succ_of_lt (g.2.2.1 q), g.2.2.2⟩
  · rw [e 6 (by omega), ad_vis_c, e 1 (by omega)]
    intro j hj
    rw [e (488 + 4 * j) (by omega), e (488 + 4 * j + 1) (by omega), e (488 + 4 * j + 2) (by omega), e (488 + 4 * j + 3) (by omega)]
    have g := h6 j hj
    exact ⟨g.1, ⟨g.2.1.1, Nat.lt_of_lt_of_le g.2.1.2 (Nat.pow_le_pow_right (by decide) (Nat.le_succ _))⟩, g.2.2⟩
  · intro v w hv hw
    rw [e 4 (by omega)] at hv hw
    rw [e (78 + 6 * v) (by omega), e (78 + 6 * v + 2) (by omega), e (78 + 6 * v + 3) (by omega), e (78 + 6 * v + 4) (by omega), e (78 + 6 * v + 5) (by omega), e (78 + 6 * w) (by omega), e (78 + 6 * w + 2) (by omega), e (78 + 6 * w + 3) (by omega), e (78 + 6 * w + 4) (by omega), e (78 + 6 * w + 5) (by omega)]
    exact hD v w hv hw
  · intro v hv
    rw [e 4 (by omega)] at hv
    rw [e _ (by omega)]
    exact hst v hv
  · intro j hj hj2
    rw [e 1 (by omega)] at hj
    rw [e _ (by omega)]
    exact hg j hj hj2
theorem GS_ad_rom (hG : GS a) {x0 x1 x2 x3 : Nat} (hn : a 3 < 6) (hx0 : x0 < 4) (hx1 : 1 ≤ x1 ∧ x1 ≤ 3) (hx2 : x2 < 2) (hx3 : x3 < 2) : GS (ad_rom a x0 x1 x2 x3) := by
  have hGs := hG
  obtain ⟨⟨hb, h0, h1, h2, h3, h4, h5, h6⟩, hD, hst, hg⟩ := hG
  have hz := h0
  obtain ⟨z0, z1, z2, z3, z4, z5, z6, z7, z8, z9, z10, z11⟩ := hz
  have e : ∀ k, k ≠ 3 ∧ k ≠ 54 + a 3 ∧ k ≠ 60 + a 3 ∧ k ≠ 66 + a 3 ∧ k ≠ 72 + a 3 → (ad_rom a x0 x1 x2 x3) k = a k := fun k hk => ad_rom_n hk
  refine ⟨⟨updN_lt (updN_lt (updN_lt (updN_lt (updN_lt hb (by omega)) (by omega)) (by omega)) (by omega)) (by omega), ?_, ?_, ?_, ?_, ?_, ?_, ?_⟩, ?_, ?_, ?_⟩
  · rw [e 0 (by omega), e 1 (by omega), e 2 (by omega), ad_rom_c, e 4 (by omega), e 5 (by omega), e 6 (by omega), e 7 (by omega), e 8 (by omega), e 9 (by omega), e 10 (by omega), e 11 (by omega)]
    exact ⟨z0, z1, z2, by omega, z4, z5, z6, z7, z8, z9, z10, z11⟩
  · rw [e 1 (by omega)]
    intro j hj
    rw [e (12 + j) (by omega), e (22 + j) (by omega), e (32 + j) (by omega)]
    exact h1 j hj
  · rw [e 2 (by omega)]
    intro j hj
    rw [e _ (by omega)]
    exact h2 j hj
  · rw [ad_rom_c]
    intro j hj
    by_cases q : j = a 3
    · subst q; rw [ad_rom_v0 (by omega), ad_rom_v1 (by omega), ad_rom_v2 (by omega), ad_rom_v3 (by omega)]; exact ⟨hx0, hx1, hx2, hx3⟩
    · rw [e (54 + j) (by omega), e (60 + j) (by omega), e (66 + j) (by omega), e (72 + j) (by omega)]; exact h3 j (by omega)
  · rw [e 4 (by omega), ad_rom_c, e 1 (by omega), e 2 (by omega)]
    intro j hj
    rw [e (78 + 6 * j) (by omega), e (78 + 6 * j + 1) (by omega), e (78 + 6 * j + 2) (by omega), e (78 + 6 * j + 3) (by omega), e (78 + 6 * j + 4) (by omega), e (78 + 6 * j + 5) (by omega)]
    have g := h4 j hj
    exact ⟨g.1, g.2.1, g.2.2.1, g.2.2.2.1, Nat.lt_succ_of_lt g.2.2.2.2.1, g.2.2.2.2.2⟩
  · rw [e 5 (by omega), e 1 (by omega), e 2 (by omega)]
    intro j hj
    rw [e (438 + 5 * j) (by omega), e (438 + 5 * j + 1) (by omega), e (438 + 5 * j + 2) (by omega), e (438 + 5 * j + 3) (by omega), e (438 + 5 * j + 4) (by omega)]
    exact h5 j hj
  · rw [e 6 (by omega), e 1 (by omega), e 2 (by omega)]
    intro j hj
    rw [e (488 + 4 * j) (by omega), e (488 + 4 * j + 1) (by omega), e (488 + 4 * j + 2) (by omega), e (488 + 4 * j + 3) (by omega)]
    exact h6 j hj
  · intro v w hv hw
    rw [e 4 (by omega)] at hv hw
    rw [e (78 + 6 * v) (by omega), e (78 + 6 * v + 2) (by omega), e (78 + 6 * v + 3) (by omega), e (78 + 6 * v + 4) (by omega), e (78 + 6 * v + 5) (by omega), e (78 + 6 * w) (by omega), e (78 + 6 * w + 2) (by omega), e (78 + 6 * w + 3) (by omega), e (78 + 6 * w + 4) (by omega), e (78 + 6 * w + 5) (by omega)]
    exact hD v w hv hw
  · intro v hv
    rw [e 4 (by omega)] at hv
    rw [e _ (by omega)]
    exact hst v hv
  · intro j hj hj2
    rw [e 1 (by omega)] at hj
    rw [e _ (by omega)]
    exact hg j hj hj2
theorem GS_ad_ban (hG : GS a) {x0 x1 x2 x3 x4 : Nat} (hn : a 5 < 10) (hx2 : x2 < 4096) (hB : x0 < 3 ∧ x1 < a 1 ∧ (x0 = 0 → x2 < a 2) ∧ (x0 = 1 → x2 < 3) ∧ (x0 = 2 → x2 < a 1 ∧ x2 ≠ x1) ∧ x3 ≤ x4 ∧ x4 ≤ 55) : GS (ad_ban a x0 x1 x2 x3 x4) := by
  have hGs := hG
  obtain ⟨⟨hb, h0, h1, h2, h3, h4, h5, h6⟩, hD, hst, hg⟩ := hG
  have hz := h0
  obtain ⟨z0, z1, z2, z3, z4, z5, z6, z7, z8, z9, z10, z11⟩ := hz
  have e : ∀ k, k ≠ 5 ∧ k ≠ 438 + 5 * a 5 ∧ k ≠ 438 + 5 * a 5 + 1 ∧ k ≠ 438 + 5 * a 5 + 2 ∧ k ≠ 438 + 5 * a 5 + 3 ∧ k ≠ 438 + 5 * a 5 + 4 → (ad_ban a x0 x1 x2 x3 x4) k = a k := fun k hk => ad_ban_n hk
  refine ⟨⟨updN_lt (updN_lt (updN_lt (updN_lt (updN_lt (updN_lt hb (by omega)) (by omega)) (by omega)) (by omega)) (by omega)) (by omega), ?_, ?_, ?_, ?_, ?_, ?_, ?_⟩, ?_, ?_, ?_⟩
  · rw [e 0 (by omega), e 1 (by omega), e 2 (by omega), e 3 (by omega), e 4 (by omega), ad_ban_c, e 6 (by omega), e 7 (by omega), e 8 (by omega), e 9 (by omega), e 10 (by omega), e 11 (by omega)]
    exact ⟨z0, z1, z2, z3, z4, by omega, z6, z7, z8, z9, z10, z11⟩
  · rw [e 1 (by omega)]
    intro j hj
    rw [e (12 + j) (by omega), e (22 + j) (by omega), e (32 + j) (by omega)]
    exact h1 j hj
  · rw [e 2 (by omega)]
    intro j hj
    rw [e _ (by omega)]
    exact h2 j hj
  · rw [e 3 (by omega)]
    intro j hj
    rw [e (54 + j) (by omega), e (60 + j) (by omega), e (66 + j) (by omega), e (72 + j) (by omega)]
    exact h3 j hj
  · rw [e 4 (by omega), e 1 (by omega), e 2 (by omega), e 3 (by omega)]
    intro j hj
    rw [e (78 + 6 * j) (by omega), e (78 + 6 * j + 1) (by omega), e (78 + 6 * j + 2) (by omega), e (78 + 6 * j + 3) (by omega), e (78 + 6 * j + 4) (by omega), e (78 + 6 * j + 5) (by omega)]
    exact h4 j hj
  · rw [ad_ban_c, e 1 (by omega), e 2 (by omega)]
    intro j hj
    by_cases q : j = a 5
    · subst q; rw [ad_ban_v0 (by omega), ad_ban_v1 (by omega), ad_ban_v2 (by omega), ad_ban_v3 (by omega), ad_ban_v4 (by omega)]; exact hB
    · rw [e (438 + 5 * j) (by omega), e (438 + 5 * j + 1) (by omega), e (438 + 5 * j + 2) (by omega), e (438 + 5 * j + 3) (by omega), e (438 + 5 * j + 4) (by omega)]; exact h5 j (by omega)
  · rw [e 6 (by omega), e 1 (by omega), e 2 (by omega)]
    intro j hj
    rw [e (488 + 4 * j) (by omega), e (488 + 4 * j + 1) (by omega), e (488 + 4 * j + 2) (by omega), e (488 + 4 * j + 3) (by omega)]
    exact h6 j hj
  · intro v w hv hw
    rw [e 4 (by omega)] at hv hw
    rw [e (78 + 6 * v) (by omega), e (78 + 6 * v + 2) (by omega), e (78 + 6 * v + 3) (by omega), e (78 + 6 * v + 4) (by omega), e (78 + 6 * v + 5) (by omega), e (78 + 6 * w) (by omega), e (78 + 6 * w + 2) (by omega), e (78 + 6 * w + 3) (by omega), e (78 + 6 * w + 4) (by omega), e (78 + 6 * w + 5) (by omega)]
    exact hD v w hv hw
  · intro v hv
    rw [e 4 (by omega)] at hv
    rw [e _ (by omega)]
    exact hst v hv
  · intro j hj hj2
    rw [e 1 (by omega)] at hj
    rw [e _ (by omega)]
    exact hg j hj hj2
theorem GS_ad_wis (hG : GS a) {x0 x1 x2 x3 : Nat} (hn : a 6 < 6) (hx1 : x1 < 4096) (hB : x0 < a 1 ∧ (0 < x1 ∧ x1 < 2 ^ a 2) ∧ x2 ≤ x3 ∧ x3 ≤ 55) : GS (ad_wis a x0 x1 x2 x3) := by
  have hGs := hG
  obtain ⟨⟨hb, h0, h1, h2, h3, h4, h5, h6⟩, hD, hst, hg⟩ := hG
  have hz := h0
  obtain ⟨z0, z1, z2, z3, z4, z5, z6, z7, z8, z9, z10, z11⟩ := hz
  have e : ∀ k, k ≠ 6 ∧ k ≠ 488 + 4 * a 6 ∧ k ≠ 488 + 4 * a 6 + 1 ∧ k ≠ 488 + 4 * a 6 + 2 ∧ k ≠ 488 + 4 * a 6 + 3 → (ad_wis a x0 x1 x2 x3) k = a k := fun k hk => ad_wis_n hk
  refine ⟨⟨updN_lt (updN_lt (updN_lt (updN_lt (updN_lt hb (by omega)) (by omega)) (by omega)) (by omega)) (by omega), ?_, ?_, ?_, ?_, ?_, ?_, ?_⟩, ?_, ?_, ?_⟩
  · rw [e 0 (by omega), e 1 (by omega), e 2 (by omega), e 3 (by omega), e 4 (by omega), e 5 (by omega), ad_wis_c, e 7 (by omega), e 8 (by omega), e 9 (by omega), e 10 (by omega), e 11 (by omega)]
    exact ⟨z0, z1, z2, z3, z4, z5, by omega, z7, z8, z9, z10, z11⟩
  · rw [e 1 (by omega)]
    intro j hj
    rw [e (12 + j) (by omega), e (22 + j) (by omega), e (32 + j) (by omega)]
    exact h1 j hj
  · rw [e 2 (by omega)]
    intro j hj
    rw [e _ (by omega)]
    exact h2 j hj
  · rw [e 3 (by omega)]
    intro j hj
    rw [e (54 + j) (by omega), e (60 + j) (by omega), e (66 + j) (by omega), e (72 + j) (by omega)]
    exact h3 j hj
  · rw [e 4 (by omega), e 1 (by omega), e 2 (by omega), e 3 (by omega)]
    intro j hj
    rw [e (78 + 6 * j) (by omega), e (78 + 6 * j + 1) (by omega), e (78 + 6 * j + 2) (by omega), e (78 + 6 * j + 3) (by omega), e (78 + 6 * j + 4) (by omega), e (78 + 6 * j + 5) (by omega)]
    exact h4 j hj
  · rw [e 5 (by omega), e 1 (by omega), e 2 (by omega)]
    intro j hj
    rw [e (438 + 5 * j) (by omega), e (438 + 5 * j + 1) (by omega), e (438 + 5 * j + 2) (by omega), e (438 + 5 * j + 3) (by omega), e (438 + 5 * j + 4) (by omega)]
    exact h5 j hj
  · rw [ad_wis_c, e 1 (by omega), e 2 (by omega)]
    intro j hj
    by_cases q : j = a 6
    · subst q; rw [ad_wis_v0 (by omega), ad_wis_v1 (by omega), ad_wis_v2 (by omega), ad_wis_v3 (by omega)]; exact hB
    · rw [e (488 + 4 * j) (by omega), e (488 + 4 * j + 1) (by omega), e (488 + 4 * j + 2) (by omega), e (488 + 4 * j + 3) (by omega)]; exact h6 j (by omega)
  · intro v w hv hw
    rw [e 4 (by omega)] at hv hw
    rw [e (78 + 6 * v) (by omega), e (78 + 6 * v + 2) (by omega), e (78 + 6 * v + 3) (by omega), e (78 + 6 * v + 4) (by omega), e (78 + 6 * v + 5) (by omega), e (78 + 6 * w) (by omega), e (78 + 6 * w + 2) (by omega), e (78 + 6 * w + 3) (by omega), e (78 + 6 * w + 4) (by omega), e (78 + 6 * w + 5) (by omega)]
    exact hD v w hv hw
  · intro v hv
    rw [e 4 (by omega)] at hv
    rw [e _ (by omega)]
    exact hst v hv
  · intro j hj hj2
    rw [e 1 (by omega)] at hj
    rw [e _ (by omega)]
    exact hg j hj hj2
theorem GS_set (hG : GS a) {q x : Nat} (hq : q < 4) (hx : x ≤ (if q = 3 then 12 else 9)) : GS (updN a (8 + q) x) := by
  have hGs := hG
  obtain ⟨⟨hb, h0, h1, h2, h3, h4, h5, h6⟩, hD, hst, hg⟩ := hG
  have hz := h0
  obtain ⟨z0, z1, z2, z3, z4, z5, z6, z7, z8, z9, z10, z11⟩ := hz
  have e : ∀ k, k ≠ 8 + q → (updN a (8 + q) x) k = a k := fun k hk => updN_n hk
  refine ⟨⟨updN_lt hb (by split at hx <;> omega), ?_, ?_, ?_, ?_, ?_, ?_, ?_⟩, ?_, ?_, ?_⟩
  · have hc : q = 0 ∨ q = 1 ∨ q = 2 ∨ q = 3 := by omega
    rcases hc with rfl | rfl | rfl | rfl
    · rw [e 0 (by omega), e 1 (by omega), e 2 (by omega), e 3 (by omega), e 4 (by omega), e 5 (by omega), e 6 (by omega), e 7 (by omega), updN_s, e 9 (by omega), e 10 (by omega), e 11 (by omega)]
      exact ⟨z0, z1, z2, z3, z4, z5, z6, z7, hx, z9, z10, z11⟩
    · rw [e 0 (by omega), e 1 (by omega), e 2 (by omega), e 3 (by omega), e 4 (by omega), e 5 (by omega), e 6 (by omega), e 7 (by omega), e 8 (by omega), updN_s, e 10 (by omega), e 11 (by omega)]
      exact ⟨z0, z1, z2, z3, z4, z5, z6, z7, z8, hx, z10, z11⟩
    · rw [e 0 (by omega), e 1 (by omega), e 2 (by omega), e 3 (by omega), e 4 (by omega), e 5 (by omega), e 6 (by omega), e 7 (by omega), e 8 (by omega), e 9 (by omega), updN_s, e 11 (by omega)]
      exact ⟨z0, z1, z2, z3, z4, z5, z6, z7, z8, z9, hx, z11⟩
    · rw [e 0 (by omega), e 1 (by omega), e 2 (by omega), e 3 (by omega), e 4 (by omega), e 5 (by omega), e 6 (by omega), e 7 (by omega), e 8 (by omega), e 9 (by omega), e 10 (by omega), updN_s]
      exact ⟨z0, z1, z2, z3, z4, z5, z6, z7, z8, z9, z10, hx⟩
  · rw [e 1 (by omega)]
    intro j hj
    rw [e (12 + j) (by omega), e (22 + j) (by omega), e (32 + j) (by omega)]
    exact h1 j hj
  · rw [e 2 (by omega)]
    intro j hj
    rw [e _ (by omega)]
    exact h2 j hj
  · rw [e 3 (by omega)]
    intro j hj
    rw [e (54 + j) (by omega), e (60 + j) (by omega), e (66 + j) (by omega), e (72 + j) (by omega)]
    exact h3 j hj
  · rw [e 4 (by omega), e 1 (by omega), e 2 (by omega), e 3 (by omega)]
    intro j hj
    rw [e (78 + 6 * j) (by omega), e (78 + 6 * j + 1) (by omega), e (78 + 6 * j + 2) (by omega), e (78 + 6 * j + 3) (by omega), e (78 + 6 * j + 4) (by omega), e (78 + 6 * j + 5) (by omega)]
    exact h4 j hj
  · rw [e 5 (by omega), e 1 (by omega), e 2 (by omega)]
    intro j hj
    rw [e (438 + 5 * j) (by omega), e (438 + 5 * j + 1) (by omega), e (438 + 5 * j + 2) (by omega), e (438 + 5 * j + 3) (by omega), e (438 + 5 * j + 4) (by omega)]
    exact h5 j hj
  · rw [e 6 (by omega), e 1 (by omega), e 2 (by omega)]
    intro j hj
    rw [e (488 + 4 * j) (by omega), e (488 + 4 * j + 1) (by omega), e (488 + 4 * j + 2) (by omega), e (488 + 4 * j + 3) (by omega)]
    exact h6 j hj
  · intro v w hv hw
    rw [e 4 (by omega)] at hv hw
    rw [e (78 + 6 * v) (by omega), e (78 + 6 * v + 2) (by omega), e (78 + 6 * v + 3) (by omega), e (78 + 6 * v + 4) (by omega), e (78 + 6 * v + 5) (by omega), e (78 + 6 * w) (by omega), e (78 + 6 * w + 2) (by omega), e (78 + 6 * w + 3) (by omega), e (78 + 6 * w + 4) (by omega), e (78 + 6 * w + 5) (by omega)]
    exact hD v w hv hw
  · intro v hv
    rw [e 4 (by omega)] at hv
    rw [e _ (by omega)]
    exact hst v hv
  · intro j hj hj2
    rw [e 1 (by omega)] at hj
    rw [e _ (by omega)]
    exact hg j hj hj2
theorem GS_lvl (hG : GS a) {i x : Nat} (hi : i < a 1) (hx : x < 3) : GS (updN a (22 + i) x) := by
  obtain ⟨⟨hb, h0, h1, h2, h3, h4, h5, h6⟩, hD, hst, hg⟩ := hG
  have ha1 := h0.2.1
  have e : ∀ k, k ≠ 22 + i → updN a (22 + i) x k = a k := fun k hk => updN_n hk
  refine ⟨⟨updN_lt hb (by omega), ?_, ?_, ?_, ?_, ?_, ?_, ?_⟩, ?_, ?_, ?_⟩
  · rw [e 0 (by omega), e 1 (by omega), e 2 (by omega), e 3 (by omega), e 4 (by omega), e 5 (by omega), e 6 (by omega), e 7 (by omega), e 8 (by omega), e 9 (by omega), e 10 (by omega), e 11 (by omega)]
    exact h0
  · rw [e 1 (by omega)]
    intro j hj
    refine ⟨by rw [e _ (by omega)]; exact (h1 j hj).1, by
      by_cases c : j = i
      · subst c; rw [updN_s]; exact hx
      · rw [e _ (by omega)]; exact (h1 j hj).2.1, by rw [e _ (by omega)]; exact (h1 j hj).2.2⟩
  · rw [e 2 (by omega)]
    intro j hj
    rw [e _ (by omega)]
    exact h2 j hj
  · rw [e 3 (by omega)]
    intro j hj
    rw [e (54 + j) (by omega), e (60 + j) (by omega), e (66 + j) (by omega), e (72 + j) (by omega)]
    exact h3 j hj
  · rw [e 4 (by omega), e 1 (by omega), e 2 (by omega), e 3 (by omega)]
    intro j hj
    rw [e (78 + 6 * j) (by omega), e (78 + 6 * j + 1) (by omega), e (78 + 6 * j + 2) (by omega), e (78 + 6 * j + 3) (by omega), e (78 + 6 * j + 4) (by omega), e (78 + 6 * j + 5) (by omega)]
    exact h4 j hj
  · rw [e 5 (by omega), e 1 (by omega), e 2 (by omega)]
    intro j hj
    rw [e (438 + 5 * j) (by omega), e (438 + 5 * j + 1) (by omega), e (438 + 5 * j + 2) (by omega), e (438 + 5 * j + 3) (by omega), e (438 + 5 * j + 4) (by omega)]
    exact h5 j hj
  · rw [e 6 (by omega), e 1 (by omega), e 2 (by omega)]
    intro j hj
    rw [e (488 + 4 * j) (by omega), e (488 + 4 * j + 1) (by omega), e (488 + 4 * j + 2) (by omega), e (488 + 4 * j + 3) (by omega)]
    exact h6 j hj
  · intro v w hv hw
    rw [e 4 (by omega)] at hv hw
    rw [e (78 + 6 * v) (by omega), e (78 + 6 * v + 2) (by omega), e (78 + 6 * v + 3) (by omega), e (78 + 6 * v + 4) (by omega), e (78 + 6 * v + 5) (by omega), e (78 + 6 * w) (by omega), e (78 + 6 * w + 2) (by omega), e (78 + 6 * w + 3) (by omega), e (78 + 6 * w + 4) (by omega), e (78 + 6 * w + 5) (by omega)]
    exact hD v w hv hw
  · intro v hv
    rw [e 4 (by omega)] at hv
    rw [e _ (by omega)]
    exact hst v hv
  · intro j hj hj2
    rw [e 1 (by omega)] at hj
    rw [e _ (by omega)]
    exact hg j hj hj2
end Gs1

