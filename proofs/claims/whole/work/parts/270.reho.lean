/-! ===== THE CLASS rehouses: from the set ===== -/
section Rh7
variable {M : Mem} {a : Nat → Nat} {f : Nat → Int32}
theorem sm_b {f : Nat → Nat} {m : Nat} (h1 : ∀ u, f u ≤ 1) (h2 : ∀ u, m ≤ u → u < 64 → f u = 0) : ∀ n, n ≤ 64 → sm f n ≤ m ∧ sm f n ≤ n
  | 0, _ => ⟨Nat.zero_le _, Nat.le_refl _⟩
  | n + 1, h => by
    have ih := sm_b h1 h2 n (by omega)
    have := h1 n
    rw [sm_s]
    by_cases c : m ≤ n
    · rw [h2 n c (by omega)]; omega
    · omega
theorem wq_nx {c x u : Nat} : wq a c x u = (decide (u < a 4) && nxp a c x 0 u) := by
  unfold wq nxp
  rw [decide_eq_true (Nat.zero_le (mdV a u)), Bool.true_and]
theorem k_rehouse {Q : Int32 → Mem → Prop} {c x : Nat} {l : Int64} (hc : c = 4 ∨ c = 0) (hG : GS a) (hC : Cz a M) (hl : ∀ u, u < 64 → bq l u = wq a c x u)
    (h : ∀ M', Cz (rhs c x 224 a 0 0).1 M' → Ot M M' → Q (I (rhs c x 224 a 0 0).2) M') : T_X0_rehouse Q 1545 l M := by
  have h4 := hG.1.2.1.2.2.2.2.1
  have hcb : cb l ≤ 60 := by
    refine Nat.le_trans (sm_b (f := fun u => if bq l u = true then 1 else 0) (m := a 4) (fun u => by show (if bq l u = true then 1 else 0) ≤ 1; split <;> omega) (fun u h1 h2 => ?_) 64 (Nat.le_refl _)).1 h4
    show (if bq l u = true then 1 else 0) = 0
    rw [hl u h2]
    unfold wq
    rw [decide_eq_false (show ¬ u < a 4 by omega), Bool.false_and, if_neg (by decide)]
  unfold T_X0_rehouse
  rw [I_0]
  exact ⟨61, k_reh_l hc 60 a M 224 0 0 0 l hG hC rfl hcb (Nat.le_refl _) (fun u hu => by rw [hl u hu, wq_nx]) h⟩
end Rh7

