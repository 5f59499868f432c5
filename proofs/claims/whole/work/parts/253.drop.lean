/-! ===== A VISIT'S STATE, THE CLASS; WHAT STAYS VALID ===== -/
section Dp1
variable {M : Mem} {a : Nat → Nat} {f : Nat → Int32}
theorem Cz.vis (hC : Cz a M) (hV : VA a) {v c x : Nat} (hv : v < a 4) (hc : c < 6) : Cz (updN a (78 + 6 * v + c) x) (mset M (39 + v) c (I x)) := ⟨St_vis hC.1 hV hv hc, hC.2.set (Or.inr (fun o ho => by have := hV.2.1.2.2.2.2.1; omega))⟩
theorem Cz.room (hC : Cz a M) (hV : VA a) {r c x : Nat} (hr : r < a 3) (hc : c < 4) : Cz (updN a (54 + 6 * c + r) x) (mset M (31 + r) c (I x)) := ⟨St_room hC.1 hV hr hc, hC.2.set (Or.inr (fun o ho => by have := hV.2.1.2.2.2.1; omega))⟩
theorem Cz.inm (hC : Cz a M) (hV : VA a) {r c x : Nat} (hr : r < a 1) (hc : c < 3) : Cz (updN a (12 + 10 * c + r) x) (mset M (5 + r) c (I x)) := ⟨St_inm hC.1 hV hr hc, hC.2.set (Or.inr (fun o ho => by have := hV.2.1.2.1; omega))⟩
theorem Ot.vis (hV : VA a) {v c : Nat} {x : Int32} (hv : v < a 4) : Ot M (mset M (39 + v) c x) := Ot.set (Or.inl (by have := hV.2.1.2.2.2.2.1; omega))
theorem Cz.fr (hC : Cz a M) (hV : VA a) {M' : Mem} (h : ∀ i, 1 ≤ i → i < 141 → M'.1 i = M.1 i) : Cz a M' := ⟨hC.1.fr (fun i h1 h2 => h i h1 (by omega)) hV, hC.2.fr (fun i h1 h2 => by rw [h i h1 (by omega)])⟩
/-- the class drops a visit -/
theorem k_drop {Q : Mem → Prop} (hV : VA a) (hC : Cz a M) {v : Nat} (hv : v < a 4) (h : ∀ M', Cz (updN a (78 + 6 * v + 5) 2) M' → Ot M M' → Q M') : T_X0_dropVisit Q 1545 (I v) M := by
  have h4 := hV.2.1.2.2.2.2.1
  have e1 : rf 1545 0 = 1 := by decide
  have e2 : rf 1 5 = 37 := by decide
  have e3 : rf 37 0 = 38 := by decide
  have e4 : ln 38 = 60 := by decide
  have hT : TB 37 60 6 := SB_t5 (b := 1) (Or.inl rfl)
  obtain ⟨-, -, -, -, -, -, t7⟩ := hT
  have e5 : rf 38 v = 37 + 2 + v := (t7 v (by omega)).1
  unfold T_X0_dropVisit
  rw [e1, e2, e3, e4, vp_I (by omega), tn_I (by omega), e5, (t7 v (by omega)).2.1, (t7 v (by omega)).2.2, I_5, vp_I (by decide), tn_I (by decide), I_2]
  refine ⟨by decide, by decide, by decide, Or.inr (by decide), by omega, rfl, by decide, ?_⟩
  rintro M8 rfl
  rw [show 37 + 2 + v = 39 + v by omega]
  exact h _ (hC.vis hV hv (by decide)) (Ot.vis hV hv)
theorem VA_st (hV : VA a) {v x : Nat} (hx : x < 4) (hv : v < 60) : VA (updN a (78 + 6 * v + 5) x) := by
  obtain ⟨hb, h0, h1, h2, h3, h4, h5, h6⟩ := hV
  have e : ∀ k, k ≠ 78 + 6 * v + 5 → updN a (78 + 6 * v + 5) x k = a k := fun k hk => updN_n hk
  refine ⟨updN_lt hb (by omega), ?_, ?_, ?_, ?_, ?_, ?_, ?_⟩
  · rw [e 0 (by omega), e 1 (by omega), e 2 (by omega), e 3 (by omega), e 4 (by omega), e 5 (by omega), e 6 (by omega), e 7 (by omega), e 8 (by omega), e 9 (by omega), e 10 (by omega), e 11 (by omega)]
    exact h0
  · rw [e 1 (by omega)]
    intro i hi
    have := h0.2.1
    rw [e _ (by omega), e _ (by omega), e _ (by omega)]
    exact h1 i hi
  · rw [e 2 (by omega)]
    intro i hi
    have := h0.2.2.1
    rw [e _ (by omega)]
    exact h2 i hi
  · rw [e 3 (by omega)]
    intro i hi
    have := h0.2.2.2.1
    rw [e _ (by omega), e _ (by omega), e _ (by omega), e _ (by omega)]
    exact h3 i hi
  · rw [e 4 (by omega), e 1 (by omega), e 2 (by omega), e 3 (by omega)]
    intro i hi
    rw [e (78 + 6 * i) (by omega), e (78 + 6 * i + 1) (by omega), e (78 + 6 * i + 2) (by omega), e (78 + 6 * i + 3) (by omega), e (78 + 6 * i + 4) (by omega)]
    have := h4 i hi
    refine ⟨this.1, this.2.1, this.2.2.1, this.2.2.2.1, this.2.2.2.2.1, ?_⟩
    by_cases q : i = v
    · subst q; rw [updN_s]; exact hx
    · rw [e _ (by omega)]; exact this.2.2.2.2.2
  · rw [e 5 (by omega), e 1 (by omega), e 2 (by omega)]
    intro i hi
    rw [e (438 + 5 * i) (by omega), e (438 + 5 * i + 1) (by omega), e (438 + 5 * i + 2) (by omega), e (438 + 5 * i + 3) (by omega), e (438 + 5 * i + 4) (by omega)]
    exact h5 i hi
  · rw [e 6 (by omega), e 1 (by omega), e 2 (by omega)]
    intro i hi
    rw [e (488 + 4 * i) (by omega), e (488 + 4 * i + 1) (by omega), e (488 + 4 * i + 2) (by omega), e (488 + 4 * i + 3) (by omega)]
    exact h6 i hi
/-- two states that agree below the notices, the count of notices apart -/
theorem VA_lo (hV : VA a) {a' : Nat → Nat} (hb : ∀ k, a' k < 4096) (h7 : a' 7 ≤ 20) (e : ∀ k, k < 512 → k ≠ 7 → a' k = a k) : VA a' := by
  obtain ⟨-, h0, h1, h2, h3, h4, h5, h6⟩ := hV
  refine ⟨hb, ?_, ?_, ?_, ?_, ?_, ?_, ?_⟩
  · rw [e 0 (by omega) (by omega), e 1 (by omega) (by omega), e 2 (by omega) (by omega), e 3 (by omega) (by omega), e 4 (by omega) (by omega), e 5 (by omega) (by omega), e 6 (by omega) (by omega), e 8 (by omega) (by omega), e 9 (by omega) (by omega), e 10 (by omega) (by omega), e 11 (by omega) (by omega)]
    exact ⟨h0.1, h0.2.1, h0.2.2.1, h0.2.2.2.1, h0.2.2.2.2.1, h0.2.2.2.2.2.1, h0.2.2.2.2.2.2.1, h7, h0.2.2.2.2.2.2.2.2⟩
  · rw [e 1 (by omega) (by omega)]
    intro i hi
    have := h0.2.1
    rw [e _ (by omega) (by omega), e _ (by omega) (by omega), e _ (by omega) (by omega)]
    exact h1 i hi
  · rw [e 2 (by omega) (by omega)]
    intro i hi
    have := h0.2.2.1
    rw [e _ (by omega) (by omega)]
    exact h2 i hi
  · rw [e 3 (by omega) (by omega)]
    intro i hi
    have := h0.2.2.2.1
    rw [e _ (by omega) (by omega), e _ (by omega) (by omega), e _ (by omega) (by omega), e _ (by omega) (by omega)]
    exact h3 i hi
  · have := h0.2.2.2.2.1
    rw [e 4 (by omega) (by omega), e 1 (by omega) (by omega), e 2 (by omega) (by omega), e 3 (by omega) (by omega)]
    intro i hi
    rw [e (78 + 6 * i) (by omega) (by omega), e (78 + 6 * i + 1) (by omega) (by omega), e (78 + 6 * i + 2) (by omega) (by omega), e (78 + 6 * i + 3) (by omega) (by omega), e (78 + 6 * i + 4) (by omega) (by omega), e (78 + 6 * i + 5) (by omega) (by omega)]
    exact h4 i hi
  · have := h0.2.2.2.2.2.1
    rw [e 5 (by omega) (by omega), e 1 (by omega) (by omega), e 2 (by omega) (by omega)]
    intro i hi
    rw [e (438 + 5 * i) (by omega) (by omega), e (438 + 5 * i + 1) (by omega) (by omega), e (438 + 5 * i + 2) (by omega) (by omega), e (438 + 5 * i + 3) (by omega) (by omega), e (438 + 5 * i + 4) (by omega) (by omega)]
    exact h5 i hi
  · have := h0.2.2.2.2.2.2.1
    rw [e 6 (by omega) (by omega), e 1 (by omega) (by omega), e 2 (by omega) (by omega)]
    intro i hi
    rw [e (488 + 4 * i) (by omega) (by omega), e (488 + 4 * i + 1) (by omega) (by omega), e (488 + 4 * i + 2) (by omega) (by omega), e (488 + 4 * i + 3) (by omega) (by omega)]
    exact h6 i hi
theorem VA_nt (hV : VA a) {v c : Nat} (hv : v < 4096) (hc : c < 4096) : VA (nt a v c) := by
  have h7 := hV.2.1.2.2.2.2.2.2.2.1
  refine VA_lo hV (nt_lt hV.1 hv hc h7) ?_ (fun k hk hk7 => nt_lo hk hk7)
  unfold nt
  split
  · rw [if_neg (by omega), if_neg (by omega), if_neg (by omega)]; exact h7
  · rw [if_pos rfl]; omega
theorem DD_lo (hD : DD a) {a' : Nat → Nat} (h4 : a 4 ≤ 60) (e : ∀ k, k < 512 → k ≠ 7 → a' k = a k) : DD a' := by
  intro v w hv hw
  rw [e 4 (by omega) (by omega)] at hv hw
  rw [e (78 + 6 * v) (by omega) (by omega), e (78 + 6 * v + 2) (by omega) (by omega), e (78 + 6 * v + 3) (by omega) (by omega), e (78 + 6 * v + 4) (by omega) (by omega), e (78 + 6 * v + 5) (by omega) (by omega), e (78 + 6 * w) (by omega) (by omega), e (78 + 6 * w + 2) (by omega) (by omega), e (78 + 6 * w + 3) (by omega) (by omega), e (78 + 6 * w + 4) (by omega) (by omega), e (78 + 6 * w + 5) (by omega) (by omega)]
  exact hD v w hv hw
theorem DD_nt (hD : DD a) (h4 : a 4 ≤ 60) {v c : Nat} : DD (nt a v c) := DD_lo hD h4 (fun k hk hk7 => nt_lo hk hk7)
/-- a visit that is no longer booked disturbs nobody -/
theorem DD_st (hD : DD a) (h4 : a 4 ≤ 60) {v x : Nat} (hx : x ≠ 0) : DD (updN a (78 + 6 * v + 5) x) := by
  intro u w hu hw hne h1 h2
  have e : ∀ k, k ≠ 78 + 6 * v + 5 → updN a (78 + 6 * v + 5) x k = a k := fun k hk => updN_n hk
  rw [e 4 (by omega)] at hu hw
  have q : ∀ z, updN a (78 + 6 * v + 5) x (78 + 6 * z + 5) = 0 → z ≠ v ∧ a (78 + 6 * z + 5) = 0 := by
    intro z hz
    by_cases c : z = v
    · subst c; rw [updN_s] at hz; exact absurd hz hx
    · rw [e _ (by omega)] at hz; exact ⟨c, hz⟩
  rw [e (78 + 6 * u) (by omega), e (78 + 6 * u + 2) (by omega), e (78 + 6 * u + 3) (by omega), e (78 + 6 * u + 4) (by omega), e (78 + 6 * w) (by omega), e (78 + 6 * w + 2) (by omega), e (78 + 6 * w + 3) (by omega), e (78 + 6 * w + 4) (by omega)]
  exact hD u w hu hw hne (q u h1).2 (q w h2).2
end Dp1

