/-! ===== THE NUMBER OF BITS OF A LONG ===== -/
section Bc1
def mk8 (r : Nat) : Nat → Nat
  | 0 => 0
  | k + 1 => mk8 r k * 256 + r
def G8 (g : Nat → Nat) : Nat → Nat → Nat
  | 0, _ => 0
  | k + 1, x => G8 g k (x / 256) * 256 + g (x % 256)
theorem and256 (p q m r : Nat) (hq : q < 256) (hr : r < 256) : (p * 256 + q) &&& (m * 256 + r) = (p &&& m) * 256 + (q &&& r) := by
  have h2 : q &&& r < 2 ^ 8 := Nat.and_lt_two_pow q (by omega)
  apply Nat.eq_of_testBit_eq
  intro i
  rw [Nat.testBit_and]
  rw [show p * 256 + q = 2 ^ 8 * p + q by omega, show m * 256 + r = 2 ^ 8 * m + r by omega, show (p &&& m) * 256 + (q &&& r) = 2 ^ 8 * (p &&& m) + (q &&& r) by omega]
  rw [Nat.testBit_two_pow_mul_add p (show q < 2 ^ 8 by omega), Nat.testBit_two_pow_mul_add m (show r < 2 ^ 8 by omega), Nat.testBit_two_pow_mul_add (p &&& m) h2]
  by_cases c : i < 8
  · rw [if_pos c, if_pos c, if_pos c, Nat.testBit_and]
  · rw [if_neg c, if_neg c, if_neg c, Nat.testBit_and]
theorem b8_1 : ∀ (e : Fin 2) (b : Fin 256), (128 * e.val + b.val / 2) &&& 85 = (b.val / 2) &&& 85 := by decide +kernel
theorem b8_2 : ∀ (e : Fin 4) (b : Fin 256), (64 * e.val + b.val / 4) &&& 51 = (b.val / 4) &&& 51 := by decide +kernel
theorem b8_3 : ∀ (e : Fin 16) (b : Fin 256), b.val % 16 ≤ 4 → b.val / 16 ≤ 4 → (16 * e.val + (b.val + b.val / 16)) &&& 15 = (b.val + b.val / 16) % 16 := by decide +kernel
theorem b8_4 : ∀ b : Fin 256, (b.val / 2) &&& 85 ≤ b.val := by decide +kernel
theorem b8_5 : ∀ b : Fin 256, ((b.val &&& 51) + ((b.val / 4) &&& 51)) < 256 := by decide +kernel
def gg1 (b : Nat) : Nat := b - ((b / 2) &&& 85)
def gg2 (b : Nat) : Nat := (b &&& 51) + ((b / 4) &&& 51)
def gg3 (b : Nat) : Nat := (b + b / 16) % 16
theorem b8_6 : ∀ b : Fin 256, gg1 b.val < 256 ∧ gg2 (gg1 b.val) < 256 ∧ gg2 (gg1 b.val) % 16 ≤ 4 ∧ gg2 (gg1 b.val) / 16 ≤ 4 ∧ gg3 (gg2 (gg1 b.val)) = sm (bt b.val) 8 := by decide +kernel
theorem G8_1 : ∀ k x, (x / 2) &&& mk8 85 k = G8 (fun b => (b / 2) &&& 85) k x
  | 0, x => by rw [show mk8 85 0 = 0 from rfl, Nat.and_zero]; rfl
  | k + 1, x => by
    have e : x / 2 = (x / 256 / 2) * 256 + (128 * (x / 256 % 2) + x % 256 / 2) := by omega
    show (x / 2) &&& (mk8 85 k * 256 + 85) = G8 _ k (x / 256) * 256 + ((x % 256 / 2) &&& 85)
    rw [e, and256 _ _ _ _ (by omega) (by decide), G8_1 k (x / 256)]
    have := b8_1 ⟨x / 256 % 2, by omega⟩ ⟨x % 256, by omega⟩
    simp only [] at this
    rw [this]
theorem G8_le {h : Nat → Nat} (hh : ∀ b, b < 256 → h b ≤ b) : ∀ k x, G8 h k x ≤ x ∧ (x < 256 ^ k → x - G8 h k x = G8 (fun b => b - h b) k x)
  | 0, x => ⟨Nat.zero_le _, fun q => by simp at q; subst q; rfl⟩
  | k + 1, x => by
    have ih := G8_le hh k (x / 256)
    have h1 := hh (x % 256) (by omega)
    refine ⟨?_, fun q => ?_⟩
    · show G8 h k (x / 256) * 256 + h (x % 256) ≤ x
      omega
    · show x - (G8 h k (x / 256) * 256 + h (x % 256)) = G8 (fun b => b - h b) k (x / 256) * 256 + (x % 256 - h (x % 256))
      rw [← ih.2 (by rw [Nat.pow_succ] at q; omega)]
      omega
theorem G8_2 : ∀ k x, (x / 4) &&& mk8 51 k = G8 (fun b => (b / 4) &&& 51) k x
  | 0, x => by rw [show mk8 51 0 = 0 from rfl, Nat.and_zero]; rfl
  | k + 1, x => by
    have e : x / 4 = (x / 256 / 4) * 256 + (64 * (x / 256 % 4) + x % 256 / 4) := by omega
    show (x / 4) &&& (mk8 51 k * 256 + 51) = G8 _ k (x / 256) * 256 + ((x % 256 / 4) &&& 51)
    rw [e, and256 _ _ _ _ (by omega) (by decide), G8_2 k (x / 256)]
    have := b8_2 ⟨x / 256 % 4, by omega⟩ ⟨x % 256, by omega⟩
    simp only [] at this
    rw [this]
theorem G8_2b : ∀ k x, x &&& mk8 51 k = G8 (fun b => b &&& 51) k x
  | 0, x => by rw [show mk8 51 0 = 0 from rfl, Nat.and_zero]; rfl
  | k + 1, x => by
    show x &&& (mk8 51 k * 256 + 51) = G8 _ k (x / 256) * 256 + ((x % 256) &&& 51)
    have e : x = x / 256 * 256 + x % 256 := by omega
    conv => lhs; rw [e]
    rw [and256 _ _ _ _ (by omega) (by decide), G8_2b k (x / 256)]
theorem G8_add (g h : Nat → Nat) : ∀ k x, G8 g k x + G8 h k x = G8 (fun b => g b + h b) k x
  | 0, _ => rfl
  | k + 1, x => by
    show G8 g k (x / 256) * 256 + g (x % 256) + (G8 h k (x / 256) * 256 + h (x % 256)) = G8 (fun b => g b + h b) k (x / 256) * 256 + (g (x % 256) + h (x % 256))
    rw [← G8_add g h k (x / 256)]
    omega
theorem G8_lt {g : Nat → Nat} (hg : ∀ b, b < 256 → g b < 256) : ∀ k x, G8 g k x < 256 ^ k
  | 0, _ => by show 0 < 1; decide
  | k + 1, x => by
    have ih := G8_lt hg k (x / 256)
    have := hg (x % 256) (by omega)
    show G8 g k (x / 256) * 256 + g (x % 256) < 256 ^ (k + 1)
    rw [Nat.pow_succ]
    omega
theorem G8_comp {g h : Nat → Nat} (hg : ∀ b, b < 256 → g b < 256) : ∀ k x, G8 h k (G8 g k x) = G8 (fun b => h (g b)) k x
  | 0, _ => rfl
  | k + 1, x => by
    have := hg (x % 256) (by omega)
    show G8 h k ((G8 g k (x / 256) * 256 + g (x % 256)) / 256) * 256 + h ((G8 g k (x / 256) * 256 + g (x % 256)) % 256) = G8 (fun b => h (g b)) k (x / 256) * 256 + h (g (x % 256))
    rw [show (G8 g k (x / 256) * 256 + g (x % 256)) / 256 = G8 g k (x / 256) by omega, show (G8 g k (x / 256) * 256 + g (x % 256)) % 256 = g (x % 256) by omega, G8_comp hg k (x / 256)]
def gd8 : Nat → Nat → Prop
  | 0, z => z = 0
  | k + 1, z => (z % 256 % 16 ≤ 4 ∧ z % 256 / 16 ≤ 4) ∧ gd8 k (z / 256)
theorem gd8_G {g : Nat → Nat} (hg : ∀ b, b < 256 → g b < 256 ∧ g b % 16 ≤ 4 ∧ g b / 16 ≤ 4) : ∀ k x, gd8 k (G8 g k x)
  | 0, _ => rfl
  | k + 1, x => by
    have := hg (x % 256) (by omega)
    have e1 : G8 g (k + 1) x / 256 = G8 g k (x / 256) := by
      show (G8 g k (x / 256) * 256 + g (x % 256)) / 256 = _
      omega
    have e2 : G8 g (k + 1) x % 256 = g (x % 256) := by
      show (G8 g k (x / 256) * 256 + g (x % 256)) % 256 = _
      omega
    refine ⟨?_, ?_⟩
    · rw [e2]; exact this.2
    · rw [e1]; exact gd8_G hg k (x / 256)
theorem gd8_n {k z : Nat} (h : gd8 k z) : z % 16 ≤ 4 := by
  cases k with
  | zero => rw [show z = 0 from h]; decide
  | succ k => have := h.1.1; omega
theorem G8_3 : ∀ k z, gd8 k z → (z + z / 16) &&& mk8 15 k = G8 gg3 k z
  | 0, z, _ => by rw [show mk8 15 0 = 0 from rfl, Nat.and_zero]; rfl
  | k + 1, z, hz => by
    have e : z + z / 16 = (z / 256 + z / 256 / 16) * 256 + (16 * (z / 256 % 16) + (z % 256 + z % 256 / 16)) := by omega
    have h1 := hz.1
    have h2 := gd8_n hz.2
    show (z + z / 16) &&& (mk8 15 k * 256 + 15) = G8 gg3 k (z / 256) * 256 + gg3 (z % 256)
    have b3 := b8_3 ⟨z / 256 % 16, by omega⟩ ⟨z % 256, by omega⟩ h1.1 h1.2
    simp only [] at b3
    rw [e, and256 _ _ _ _ (by omega) (by decide), G8_3 k (z / 256) hz.2, b3]
    rfl
theorem G8_cg {g h : Nat → Nat} (e : ∀ b, b < 256 → g b = h b) : ∀ k x, G8 g k x = G8 h k x
  | 0, _ => rfl
  | k + 1, x => by
    show G8 g k (x / 256) * 256 + g (x % 256) = G8 h k (x / 256) * 256 + h (x % 256)
    rw [G8_cg e k (x / 256), e (x % 256) (by omega)]
theorem lbN {x : Nat} (hx : x < 256 ^ 8) : ∃ p0 p1 p2 p3 p4 p5 p6 p7 : Nat,
    (((x - ((x / 2) &&& mk8 85 8)) &&& mk8 51 8) + (((x - ((x / 2) &&& mk8 85 8)) / 4) &&& mk8 51 8)) < 256 ^ 8 ∧ (x / 2) &&& mk8 85 8 ≤ x ∧
    ((((x - ((x / 2) &&& mk8 85 8)) &&& mk8 51 8) + (((x - ((x / 2) &&& mk8 85 8)) / 4) &&& mk8 51 8)) + (((x - ((x / 2) &&& mk8 85 8)) &&& mk8 51 8) + (((x - ((x / 2) &&& mk8 85 8)) / 4) &&& mk8 51 8)) / 16) < 256 ^ 8 ∧
    (((((x - ((x / 2) &&& mk8 85 8)) &&& mk8 51 8) + (((x - ((x / 2) &&& mk8 85 8)) / 4) &&& mk8 51 8)) + (((x - ((x / 2) &&& mk8 85 8)) &&& mk8 51 8) + (((x - ((x / 2) &&& mk8 85 8)) / 4) &&& mk8 51 8)) / 16) &&& mk8 15 8) = p0 + 256 * (p1 + 256 * (p2 + 256 * (p3 + 256 * (p4 + 256 * (p5 + 256 * (p6 + 256 * p7)))))) ∧
    p0 ≤ 8 ∧ p1 ≤ 8 ∧ p2 ≤ 8 ∧ p3 ≤ 8 ∧ p4 ≤ 8 ∧ p5 ≤ 8 ∧ p6 ≤ 8 ∧ p7 ≤ 8 ∧ p0 + p1 + p2 + p3 + p4 + p5 + p6 + p7 = sm (bt x) 64 := by
  have g1lt : ∀ b, b < 256 → gg1 b < 256 := fun b hb => (b8_6 ⟨b, hb⟩).1
  have g2lt : ∀ b, b < 256 → gg2 (gg1 b) < 256 := fun b hb => (b8_6 ⟨b, hb⟩).2.1
  have e1 : x - ((x / 2) &&& mk8 85 8) = G8 gg1 8 x := by
    rw [G8_1, (G8_le (h := fun b => (b / 2) &&& 85) (fun b hb => b8_4 ⟨b, hb⟩) 8 x).2 hx]
    rfl
  have e0 : (x / 2) &&& mk8 85 8 ≤ x := by
    rw [G8_1]
    exact (G8_le (h := fun b => (b / 2) &&& 85) (fun b hb => b8_4 ⟨b, hb⟩) 8 x).1
  have e2 : (G8 gg1 8 x &&& mk8 51 8) + ((G8 gg1 8 x / 4) &&& mk8 51 8) = G8 (fun b => gg2 (gg1 b)) 8 x := by
    rw [G8_2, G8_2b, G8_add, show (fun b => (b &&& 51) + ((b / 4) &&& 51)) = gg2 from rfl, G8_comp g1lt]
  have hgd : gd8 8 (G8 (fun b => gg2 (gg1 b)) 8 x) := gd8_G (fun b hb => ⟨g2lt b hb, (b8_6 ⟨b, hb⟩).2.2.1, (b8_6 ⟨b, hb⟩).2.2.2.1⟩) 8 x
  have e3 : (G8 (fun b => gg2 (gg1 b)) 8 x + G8 (fun b => gg2 (gg1 b)) 8 x / 16) &&& mk8 15 8 = G8 (fun b => sm (bt b) 8) 8 x := by
    rw [G8_3 8 _ hgd, G8_comp g2lt]
    exact G8_cg (fun b hb => (b8_6 ⟨b, hb⟩).2.2.2.2) 8 x
  have hl2 := G8_lt g2lt 8 x
  have hsm : ∀ b, sm (bt b) 8 ≤ 8 := fun b => by have := sm_le (f := bt b) (c := 1) (fun k => by have := bt_lt b k; omega) 8; omega
  rw [e1, e2, e3]
  have hz7 : G8 (fun b => gg2 (gg1 b)) 8 x / 256 ^ 7 ≤ 68 := by
    have hh : ∀ (k y : Nat), G8 (fun b => gg2 (gg1 b)) (k + 1) y < 69 * 256 ^ k := by
      intro k
      induction k with
      | zero =>
        intro y
        show 0 * 256 + gg2 (gg1 (y % 256)) < 69 * 256 ^ 0
        have := (b8_6 ⟨y % 256, by omega⟩).2.2
        simp only [] at this
        rw [Nat.pow_zero]
        omega
      | succ k ih =>
        intro y
        show G8 _ (k + 1) (y / 256) * 256 + gg2 (gg1 (y % 256)) < 69 * 256 ^ (k + 1)
        have := ih (y / 256)
        have := g2lt (y % 256) (by omega)
        rw [Nat.pow_succ]
        omega
    have h8 : G8 (fun b => gg2 (gg1 b)) 8 x < 69 * 256 ^ 7 := hh 7 x
    omega
  refine ⟨sm (bt (x % 256)) 8, sm (bt (x / 256 % 256)) 8, sm (bt (x / 256 / 256 % 256)) 8, sm (bt (x / 256 / 256 / 256 % 256)) 8, sm (bt (x / 256 / 256 / 256 / 256 % 256)) 8, sm (bt (x / 256 / 256 / 256 / 256 / 256 % 256)) 8, sm (bt (x / 256 / 256 / 256 / 256 / 256 / 256 % 256)) 8, sm (bt (x / 256 / 256 / 256 / 256 / 256 / 256 / 256 % 256)) 8, hl2, e0, ?_, ?_, hsm _, hsm _, hsm _, hsm _, hsm _, hsm _, hsm _, hsm _, ?_⟩
  · omega
  · show G8 _ 8 x = _
    simp only [G8]
    omega
  · have hb : ∀ k y, bt (y / 256) k = bt y (8 + k) := fun k y => by
      rw [← bt_div, ← bt_div, Nat.pow_add, ← Nat.div_div_eq_div_mul]
    have hb2 : ∀ k y, k < 8 → bt (y % 256) k = bt y k := fun k y hk => by
      unfold bt
      rw [show 256 = 2 ^ 8 from rfl, Nat.testBit_mod_two_pow, decide_eq_true hk, Bool.true_and]
    have hs : ∀ y n, sm (bt y) (8 + n) = sm (bt (y % 256)) 8 + sm (bt (y / 256)) n := by
      intro y n
      induction n with
      | zero => rw [Nat.add_zero]; show _ = _ + 0; rw [Nat.add_zero]; exact (sm_cg (fun k hk => (hb2 k y hk))).symm
      | succ n ih => rw [show 8 + (n + 1) = (8 + n) + 1 by omega, sm_s (bt y) (8 + n), sm_s (bt (y / 256)) n, ih, hb]; omega
    rw [show 64 = 8 + 56 from rfl, hs x 56, show 56 = 8 + 48 from rfl, hs (x / 256) 48, show 48 = 8 + 40 from rfl, hs _ 40, show 40 = 8 + 32 from rfl, hs _ 32, show 32 = 8 + 24 from rfl, hs _ 24, show 24 = 8 + 16 from rfl, hs _ 16, show 16 = 8 + 8 from rfl, hs _ 8, show sm (bt (x / 256 / 256 / 256 / 256 / 256 / 256 / 256)) 8 = sm (bt (x / 256 / 256 / 256 / 256 / 256 / 256 / 256 % 256)) 8 from (sm_cg (fun k hk => (hb2 k _ hk))).symm]
    omega
end Bc1

