/-! ===== A VISIT MOVED TO A ROOM: what stays valid ===== -/
section Rh2
variable {M : Mem} {a : Nat → Nat} {f : Nat → Int32}
theorem VA_vr (hV : VA a) {v r : Nat} (hv : v < 60) (hr : r < a 3) : VA (updN a (78 + 6 * v + 4) r) := by
  obtain ⟨hb, h0, h1, h2, h3, h4, h5, h6⟩ := hV
  have e : ∀ k, k ≠ 78 + 6 * v + 4 → updN a (78 + 6 * v + 4) r k = a k := fun k hk => updN_n hk
  refine ⟨updN_lt hb (by omega), ?_, ?_, ?_, ?_, ?_, ?_, ?_⟩
  · rw [e 0 (by omega), e 1 (by omega), e 2 (by omega), e 3 (by omega), e 4 (by omega), e 5 (by omega), e 6 (by omega), e 7 (by omega), e 8 (by omega), e 9 (by omega), e 10 (by omega), e 11 (by omega)]
    exact h0
  · rw [e 1 (by omega)]
    intro i hi
    have := h0.2.1
    rw [e _ (by omega), e _ (by omega), e _ (by omega)]
    exact h1 i hi
  · rw [e 2 (by omega)]
    intro i hi
    have := h0.2.2.1
    rw [e _ (by omega)]
    exact h2 i hi
  · rw [e 3 (by omega)]
    intro i hi
    have := h0.2.2.2.1
    rw [e _ (by omega), e _ (by omega), e _ (by omega), e _ (by omega)]
    exact h3 i hi
  · rw [e 4 (by omega), e 1 (by omega), e 2 (by omega), e 3 (by omega)]
    intro i hi
    rw [e (78 + 6 * i) (by omega), e (78 + 6 * i + 1) (by omega), e (78 + 6 * i + 2) (by omega), e (78 + 6 * i + 3) (by omega), e (78 + 6 * i + 5) (by omega)]
    have := h4 i hi
    refine ⟨this.1, this.2.1, this.2.2.1, this.2.2.2.1, ?_, this.2.2.2.2.2⟩
    by_cases q : i = v
    · subst q; rw [updN_s]; exact hr
    · rw [e _ (by omega)]; exact this.2.2.2.2.1
  · rw [e 5 (by omega), e 1 (by omega), e 2 (by omega)]
    intro i hi
    rw [e (438 + 5 * i) (by omega), e (438 + 5 * i + 1) (by omega), e (438 + 5 * i + 2) (by omega), e (438 + 5 * i + 3) (by omega), e (438 + 5 * i + 4) (by omega)]
    exact h5 i hi
  · rw [e 6 (by omega), e 1 (by omega), e 2 (by omega)]
    intro i hi
    rw [e (488 + 4 * i) (by omega), e (488 + 4 * i + 1) (by omega), e (488 + 4 * i + 2) (by omega), e (488 + 4 * i + 3) (by omega)]
    exact h6 i hi
/-- the room that is found is nobody else's in the slot -/
theorem rmV_sp {v r : Nat} (hv : v < 60) (h : rmV a v = some r) : r < a 3 ∧ ∀ u, u < a 4 → u ≠ v → a (78 + 6 * u + 5) = 0 → a (78 + 6 * u + 2) = a (78 + 6 * v + 2) → a (78 + 6 * u + 3) = a (78 + 6 * v + 3) → a (78 + 6 * u + 4) ≠ r := by
  have q := rmB_sp h
  have q1 := q.1
  rw [updN_n (by omega)] at q1
  refine ⟨q1, fun u hu hne h1 h2 h3 => ?_⟩
  have := q.2.2 u (by rw [updN_n (by omega)]; exact hu)
  rw [updN_n (by omega)] at this
  refine this ?_
  unfold isI3
  rw [updN_n (by omega), updN_n (by omega), updN_n (by omega)]
  exact ⟨h1, h2, h3⟩
theorem GS_vr (hG : GS a) {v r : Nat} (hv : v < a 4) (h : rmV a v = some r) : GS (updN a (78 + 6 * v + 4) r) := by
  obtain ⟨hV, hD, h3, hg⟩ := hG
  have h4 := hV.2.1.2.2.2.2.1
  have h1 := hV.2.1.2.1
  have hs := rmV_sp (by omega) h
  have e : ∀ k, k ≠ 78 + 6 * v + 4 → updN a (78 + 6 * v + 4) r k = a k := fun k hk => updN_n hk
  refine ⟨VA_vr hV (by omega) hs.1, ?_, fun u hu => ?_, fun i hi hi2 => ?_⟩
  · intro u w hu hw hne
    rw [e 4 (by omega)] at hu hw
    rw [e (78 + 6 * u) (by omega), e (78 + 6 * u + 2) (by omega), e (78 + 6 * u + 3) (by omega), e (78 + 6 * u + 5) (by omega), e (78 + 6 * w) (by omega), e (78 + 6 * w + 2) (by omega), e (78 + 6 * w + 3) (by omega), e (78 + 6 * w + 5) (by omega)]
    intro g1 g2 g3 g4
    have hd := hD u w hu hw hne g1 g2 g3 g4
    refine ⟨hd.1, ?_⟩
    by_cases q1 : u = v
    · subst q1
      rw [updN_s, e _ (by omega)]
      exact fun z => hs.2 w hw (fun z => hne z.symm) g2 g3.symm g4.symm z.symm
    · by_cases q2 : w = v
      · subst q2
        rw [updN_s, e _ (by omega)]
        exact hs.2 u hu q1 g1 g3 g4
      · rw [e _ (by omega), e _ (by omega)]
        exact hd.2
  · rw [e 4 (by omega)] at hu
    rw [e _ (by omega)]
    exact h3 u hu
  · rw [e 1 (by omega)] at hi
    rw [e _ (by omega)]
    exact hg i hi hi2
theorem GS_st2 (hG : GS a) {v : Nat} (hv : v < 60) : GS (updN a (78 + 6 * v + 5) 2) := by
  have h4 := hG.1.2.1.2.2.2.2.1
  have h1 := hG.1.2.1.2.1
  refine ⟨VA_st hG.1 (by decide) hv, DD_st hG.2.1 h4 (by decide), fun u hu => ?_, fun i hi hi2 => ?_⟩
  · rw [updN_n (by omega)] at hu
    by_cases q : u = v
    · subst q; rw [updN_s]; decide
    · rw [updN_n (by omega)]; exact hG.2.2.1 u hu
  · rw [updN_n (by omega)] at hi
    rw [updN_n (by omega)]; exact hG.2.2.2 i hi hi2
theorem GS_cnl (hG : GS a) {v c : Nat} (hv : v < 60) (hc : c < 4096) : GS (cnl a v c) := GS_nt (GS_st2 hG hv) (by omega) hc
theorem GS_chg (hG : GS a) {v : Nat} (hv : v < a 4) : GS (chg a v).1 := by
  have h4 := hG.1.2.1.2.2.2.2.1
  cases hr : rmV a v with
  | none => rw [chg_n hr]; exact GS_cnl hG (by omega) (by decide)
  | some r =>
    by_cases c : r = a (78 + 6 * v + 4)
    · subst c; rw [chg_e hr]; exact hG
    · rw [chg_d hr c]; exact GS_nt (GS_vr hG hv hr) (by omega) (by decide)
end Rh2

