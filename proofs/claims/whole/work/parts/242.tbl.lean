/-! ===== THE CLASS's states: the tables of each ===== -/
/-- where a state lies: the present, the saved, the kept -/
def SB (b : Nat) : Prop := b = 1 ∨ b = 141 ∨ ∃ p, p < 9 ∧ b = 283 + 140 * p
theorem SB_of {P : Nat → Prop} (h1 : P 1) (h2 : P 141) (h3 : ∀ p : Fin 9, P (283 + 140 * p.val)) {b : Nat} (h : SB b) : P b := by
  rcases h with rfl | rfl | ⟨p, hp, rfl⟩
  · exact h1
  · exact h2
  · exact h3 ⟨p, hp⟩
theorem SB_3 {b : Nat} (h : SB b) : kd b = 3 := SB_of (P := fun b => kd b = 3) (by decide) (by decide) (by decide) h
theorem SB_q {b : Nat} (h : SB b) : rf b 1 = b + 1 ∧ kd (b + 1) = 9 ∧ ln (b + 1) = 4 := SB_of (P := fun b => rf b 1 = b + 1 ∧ kd (b + 1) = 9 ∧ ln (b + 1) = 4) (by decide) (by decide) (by decide) h
theorem SB_r2 {b : Nat} (h : SB b) : rf b 2 = b + 2 := SB_of (P := fun b => rf b 2 = b + 2) (by decide) (by decide) (by decide) h
theorem SB_r3 {b : Nat} (h : SB b) : rf b 3 = b + 14 := SB_of (P := fun b => rf b 3 = b + 14) (by decide) (by decide) (by decide) h
theorem SB_r4 {b : Nat} (h : SB b) : rf b 4 = b + 28 := SB_of (P := fun b => rf b 4 = b + 28) (by decide) (by decide) (by decide) h
theorem SB_r5 {b : Nat} (h : SB b) : rf b 5 = b + 36 := SB_of (P := fun b => rf b 5 = b + 36) (by decide) (by decide) (by decide) h
theorem SB_r6 {b : Nat} (h : SB b) : rf b 6 = b + 98 := SB_of (P := fun b => rf b 6 = b + 98) (by decide) (by decide) (by decide) h
theorem SB_r7 {b : Nat} (h : SB b) : rf b 7 = b + 110 := SB_of (P := fun b => rf b 7 = b + 110) (by decide) (by decide) (by decide) h
theorem SB_r8 {b : Nat} (h : SB b) : rf b 8 = b + 118 := SB_of (P := fun b => rf b 8 = b + 118) (by decide) (by decide) (by decide) h
theorem SB_t2 {b : Nat} (h : SB b) : TB (b + 2) 10 3 := by
  have h1 := SB_of (P := fun b => kd (b + 2) = 4 ∧ rf (b + 2) 0 = b + 2 + 1 ∧ kd (b + 2 + 1) = 11 ∧ ln (b + 2 + 1) = 10) (by decide) (by decide) (by decide) h
  have h2 := SB_of (P := fun b => ∀ i : Fin 10, rf (b + 2 + 1) i.val = b + 2 + 2 + i.val ∧ kd (b + 2 + 2 + i.val) = 9 ∧ ln (b + 2 + 2 + i.val) = 3) (by decide +kernel) (by decide +kernel) (by decide +kernel) h
  exact ⟨h1.1, h1.2.1, h1.2.2.1, h1.2.2.2, by omega, by omega, fun i hi => h2 ⟨i, hi⟩⟩
theorem SB_t3 {b : Nat} (h : SB b) : TB (b + 14) 12 1 := by
  have h1 := SB_of (P := fun b => kd (b + 14) = 4 ∧ rf (b + 14) 0 = b + 14 + 1 ∧ kd (b + 14 + 1) = 11 ∧ ln (b + 14 + 1) = 12) (by decide) (by decide) (by decide) h
  have h2 := SB_of (P := fun b => ∀ i : Fin 12, rf (b + 14 + 1) i.val = b + 14 + 2 + i.val ∧ kd (b + 14 + 2 + i.val) = 9 ∧ ln (b + 14 + 2 + i.val) = 1) (by decide +kernel) (by decide +kernel) (by decide +kernel) h
  exact ⟨h1.1, h1.2.1, h1.2.2.1, h1.2.2.2, by omega, by omega, fun i hi => h2 ⟨i, hi⟩⟩
theorem SB_t4 {b : Nat} (h : SB b) : TB (b + 28) 6 4 := by
  have h1 := SB_of (P := fun b => kd (b + 28) = 4 ∧ rf (b + 28) 0 = b + 28 + 1 ∧ kd (b + 28 + 1) = 11 ∧ ln (b + 28 + 1) = 6) (by decide) (by decide) (by decide) h
  have h2 := SB_of (P := fun b => ∀ i : Fin 6, rf (b + 28 + 1) i.val = b + 28 + 2 + i.val ∧ kd (b + 28 + 2 + i.val) = 9 ∧ ln (b + 28 + 2 + i.val) = 4) (by decide +kernel) (by decide +kernel) (by decide +kernel) h
  exact ⟨h1.1, h1.2.1, h1.2.2.1, h1.2.2.2, by omega, by omega, fun i hi => h2 ⟨i, hi⟩⟩
theorem SB_t5 {b : Nat} (h : SB b) : TB (b + 36) 60 6 := by
  have h1 := SB_of (P := fun b => kd (b + 36) = 4 ∧ rf (b + 36) 0 = b + 36 + 1 ∧ kd (b + 36 + 1) = 11 ∧ ln (b + 36 + 1) = 60) (by decide) (by decide) (by decide) h
  have h2 := SB_of (P := fun b => ∀ i : Fin 60, rf (b + 36 + 1) i.val = b + 36 + 2 + i.val ∧ kd (b + 36 + 2 + i.val) = 9 ∧ ln (b + 36 + 2 + i.val) = 6) (by decide +kernel) (by decide +kernel) (by decide +kernel) h
  exact ⟨h1.1, h1.2.1, h1.2.2.1, h1.2.2.2, by omega, by omega, fun i hi => h2 ⟨i, hi⟩⟩
theorem SB_t6 {b : Nat} (h : SB b) : TB (b + 98) 10 5 := by
  have h1 := SB_of (P := fun b => kd (b + 98) = 4 ∧ rf (b + 98) 0 = b + 98 + 1 ∧ kd (b + 98 + 1) = 11 ∧ ln (b + 98 + 1) = 10) (by decide) (by decide) (by decide) h
  have h2 := SB_of (P := fun b => ∀ i : Fin 10, rf (b + 98 + 1) i.val = b + 98 + 2 + i.val ∧ kd (b + 98 + 2 + i.val) = 9 ∧ ln (b + 98 + 2 + i.val) = 5) (by decide +kernel) (by decide +kernel) (by decide +kernel) h
  exact ⟨h1.1, h1.2.1, h1.2.2.1, h1.2.2.2, by omega, by omega, fun i hi => h2 ⟨i, hi⟩⟩
theorem SB_t7 {b : Nat} (h : SB b) : TB (b + 110) 6 4 := by
  have h1 := SB_of (P := fun b => kd (b + 110) = 4 ∧ rf (b + 110) 0 = b + 110 + 1 ∧ kd (b + 110 + 1) = 11 ∧ ln (b + 110 + 1) = 6) (by decide) (by decide) (by decide) h
  have h2 := SB_of (P := fun b => ∀ i : Fin 6, rf (b + 110 + 1) i.val = b + 110 + 2 + i.val ∧ kd (b + 110 + 2 + i.val) = 9 ∧ ln (b + 110 + 2 + i.val) = 4) (by decide +kernel) (by decide +kernel) (by decide +kernel) h
  exact ⟨h1.1, h1.2.1, h1.2.2.1, h1.2.2.2, by omega, by omega, fun i hi => h2 ⟨i, hi⟩⟩
theorem SB_t8 {b : Nat} (h : SB b) : TB (b + 118) 20 2 := by
  have h1 := SB_of (P := fun b => kd (b + 118) = 4 ∧ rf (b + 118) 0 = b + 118 + 1 ∧ kd (b + 118 + 1) = 11 ∧ ln (b + 118 + 1) = 20) (by decide) (by decide) (by decide) h
  have h2 := SB_of (P := fun b => ∀ i : Fin 20, rf (b + 118 + 1) i.val = b + 118 + 2 + i.val ∧ kd (b + 118 + 2 + i.val) = 9 ∧ ln (b + 118 + 2 + i.val) = 2) (by decide +kernel) (by decide +kernel) (by decide +kernel) h
  exact ⟨h1.1, h1.2.1, h1.2.2.1, h1.2.2.2, by omega, by omega, fun i hi => h2 ⟨i, hi⟩⟩
/-- the widths of a state's tables -/
def Wd (b : Nat) (M : Mem) : Prop := M.1 (b + 2) 1 = I 3 ∧ M.1 (b + 14) 1 = I 1 ∧ M.1 (b + 28) 1 = I 4 ∧ M.1 (b + 36) 1 = I 6 ∧ M.1 (b + 98) 1 = I 5 ∧ M.1 (b + 110) 1 = I 4 ∧ M.1 (b + 118) 1 = I 2
theorem Wd.fr {b : Nat} {M M' : Mem} (h : Wd b M) (hM : ∀ i, b ≤ i → i < b + 140 → M'.1 i 1 = M.1 i 1) : Wd b M' := by
  obtain ⟨h1, h2, h3, h4, h5, h6, h7⟩ := h
  exact ⟨by rw [hM _ (by omega) (by omega)]; exact h1, by rw [hM _ (by omega) (by omega)]; exact h2, by rw [hM _ (by omega) (by omega)]; exact h3, by rw [hM _ (by omega) (by omega)]; exact h4, by rw [hM _ (by omega) (by omega)]; exact h5, by rw [hM _ (by omega) (by omega)]; exact h6, by rw [hM _ (by omega) (by omega)]; exact h7⟩

