def LawInv (_ : Mem) : Prop := True
theorem law_init {M : Mem} (h : ∀ i, i < 1594 → M.1 i = ini i) : LawInv M := trivial
theorem law_step {κ : Nat → Nat → Nat → Nat → Int32 → Mem → Prop} {i sl : Nat} {xs : Nat → Int32} {M : Mem} (h : LawInv M) (hL : sl ≤ 3072) (hi : i ≤ 3072 + 6) (k : i + 6 ≤ sl → ∀ M', LawInv M' → κ 0 1582 1592 1593 (I (i + 6)) M') : T_L_law_28 κ (fun r _ => r = 1) sl xs 0 1582 1592 1593 (I i) M := sorry
