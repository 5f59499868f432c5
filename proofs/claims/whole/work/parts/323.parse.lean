/-! ===== THE CLASS reads letters ===== -/
section Pb2
variable {M M' M1 : Mem} {n : Nat} {u : Nat → Nat} {Q : Int32 → Mem → Prop} {QP : Mem → Prop}
/-- the class's letters: at most m, each new -/
def clv (n : Nat) (u : Nat → Nat) : Nat → Nat → Nat → Nat × Nat
  | 0, z, p => (p, z)
  | m + 1, z, p => if lfn n u p = true ∧ z.testBit (u p - 97) = false then clv n u m (z ||| 2 ^ (u p - 97)) (p + 1) else (p, z)
theorem clv_lts : ∀ (m k z p : Nat), m + k = 3 → (lts n u (m + 2) k z p).1.2 = (clv n u m z p).1 ∧ ((lts n u (m + 2) k z p).1.1 = true → (lts n u (m + 2) k z p).2 = (clv n u m z p).2) ∧ (¬ (lts n u (m + 2) k z p).1.1 = true → lfn n u (clv n u m z p).1 = true)
  | 0, k, z, p, hk => by
    have e : lts n u 2 k z p = if lfn n u p = true then (if k < 3 ∧ z.testBit (u p - 97) = false then lts n u 1 (k + 1) (z ||| 2 ^ (u p - 97)) (p + 1) else ((false, p), z ||| 2 ^ (u p - 97))) else ((true, p), z) := rfl
    show (lts n u 2 k z p).1.2 = p ∧ ((lts n u 2 k z p).1.1 = true → (lts n u 2 k z p).2 = z) ∧ (¬ (lts n u 2 k z p).1.1 = true → lfn n u p = true)
    by_cases c : lfn n u p = true
    · rw [e, if_pos c, if_neg (fun z => by omega)]
      exact ⟨rfl, (fun z => by cases z), fun _ => c⟩
    · rw [e, if_neg c]
      exact ⟨rfl, fun _ => rfl, fun z => absurd rfl z⟩
  | m + 1, k, z, p, hk => by
    have e : lts n u (m + 1 + 2) k z p = if lfn n u p = true then (if k < 3 ∧ z.testBit (u p - 97) = false then lts n u (m + 2) (k + 1) (z ||| 2 ^ (u p - 97)) (p + 1) else ((false, p), z ||| 2 ^ (u p - 97))) else ((true, p), z) := rfl
    have e2 : clv n u (m + 1) z p = if lfn n u p = true ∧ z.testBit (u p - 97) = false then clv n u m (z ||| 2 ^ (u p - 97)) (p + 1) else (p, z) := rfl
    by_cases c : lfn n u p = true
    · by_cases c2 : z.testBit (u p - 97) = false
      · rw [e, e2, if_pos c, if_pos ⟨by omega, c2⟩, if_pos ⟨c, c2⟩]
        exact clv_lts m (k + 1) _ (p + 1) (by omega)
      · rw [e, e2, if_pos c, if_neg (fun z => c2 z.2), if_neg (fun z => c2 z.2)]
        exact ⟨rfl, (fun z => by cases z), fun _ => c⟩
    · rw [e, e2, if_neg c, if_neg (fun z => c z.1)]
      exact ⟨rfl, fun _ => rfl, fun z => absurd rfl z⟩
theorem or_ne {z k : Nat} : z ||| 2 ^ k ≠ 0 := fun e => by
  have := congrArg (fun x : Nat => x.testBit k) e
  simp only [Nat.testBit_or, Nat.testBit_two_pow_self, Bool.or_true, Nat.zero_testBit] at this
  cases this
theorem clv_b : ∀ (m z p : Nat), p ≤ (clv n u m z p).1 ∧ (clv n u m z p).1 ≤ p + m ∧ (z < 4096 → (clv n u m z p).2 < 4096) ∧ (z ≠ 0 → (clv n u m z p).2 ≠ 0)
  | 0, z, p => ⟨Nat.le_refl _, Nat.le_refl _, fun h => h, fun h => h⟩
  | m + 1, z, p => by
    unfold clv
    by_cases c : lfn n u p = true ∧ z.testBit (u p - 97) = false
    · rw [if_pos c]
      have hl := of_decide_eq_true c.1
      have hp : 2 ^ (u p - 97) < 4096 := Nat.pow_lt_pow_right (a := 2) (n := 12) (by decide) (by omega)
      have ih := clv_b m (z ||| 2 ^ (u p - 97)) (p + 1)
      exact ⟨by omega, by omega, fun hz => ih.2.2.1 (Nat.or_lt_two_pow (n := 12) hz hp), fun _ => ih.2.2.2 or_ne⟩
    · rw [if_neg c]
      exact ⟨Nat.le_refl _, by show p ≤ p + (m + 1); omega, fun h => h, fun h => h⟩
theorem clv_0 {p : Nat} (h : ¬ lfn n u p = true) : clv n u 3 0 p = (p, 0) := if_neg (fun z => h z.1)
theorem clv_1 {p : Nat} (h : lfn n u p = true) : (clv n u 3 0 p).2 ≠ 0 := by
  have e : clv n u 3 0 p = clv n u 2 (0 ||| 2 ^ (u p - 97)) (p + 1) := if_pos ⟨h, Nat.zero_testBit _⟩
  rw [e]
  exact (clv_b 2 _ _).2.2.2 or_ne
theorem isN97 {v : Nat} (h : v < 65536) : isN (I v - I 97) 12 = (97 ≤ v ∧ v ≤ 108) := by
  by_cases c : 97 ≤ v
  · rw [I_sub c, isN_I (by omega)]
    exact propext ⟨fun z => ⟨c, by omega⟩, fun z => by omega⟩
  · refine propext ⟨fun z => ?_, fun z => absurd z.1 c⟩
    have e : (I v - I 97).toInt = (v : Int) - 97 := by
      rw [Int32.toInt_sub, ti_I (by omega), ti_I (by decide)]
      exact Int.bmod_eq_of_le (by omega) (by omega)
    have := z.1
    rw [e] at this
    omega
theorem k_vl {p0 : Nat} {r : Nat} (hr : r ≠ 1551 ∧ r ≠ 1552) (hk : kd r = 9) (hl : 2 < ln r) : ∀ (m k z p : Nat) (M : Mem), m + k = 3 → UC n u M → z < 4096 → M.1 1551 2 = I p → p < 900 → (∀ M', Fc r 2 M M' → M'.1 1551 2 = I (clv n u m z p).1 → M'.1 r 2 = I (clv n u m z p).2 → Q (if (clv n u m z p).2 = 0 then I 0 else I 1) M') → T_X5_hasVisitors_4 Q (m + 1) 1551 r (I z) (I k) M := by
  -- the end
  have fin : ∀ (z p : Nat) (M : Mem), z < 4096 → M.1 1551 2 = I p → (∀ M', Fc r 2 M M' → M'.1 1551 2 = I p → M'.1 r 2 = I z → Q (if z = 0 then I 0 else I 1) M') → T_X5_hasVisitors_79 Q r (I z) M := by
    intro z p M hz hp h
    unfold T_X5_hasVisitors_79 T_X5_hasVisitors_92
    rw [I_2, vp_I (by decide), tn_I (by decide)]
    refine ⟨hk, hl, ?_⟩
    rintro M3 rfl
    have g := h (mset M r 2 (I z)) (Fc.rw hr.1) (by rw [mset_ne hr.1.symm]; exact hp) (by rw [mset_v, if_pos rfl])
    by_cases c : z = 0
    · rw [if_pos c] at g
      rw [if_pos (show I z = 0 by rw [c]; rfl)]
      exact ⟨Or.inl rfl, g⟩
    · rw [if_neg c] at g
      rw [if_neg (show ¬ I z = 0 from fun e => c ((I_eq (show z < 2147483648 by omega) (show 0 < 2147483648 by decide)).mp (e.trans I_0)))]
      exact ⟨Or.inr rfl, g⟩
  intro m
  induction m with
  | zero =>
    intro k z p M hk3 hU hz hp hpp h
    unfold T_X5_hasVisitors_4
    rw [show k = 3 by omega, I_3, if_pos (by rw [I_le (by decide) (by decide)]; exact Nat.le_refl _)]
    exact fin z p M hz hp h
  | succ m ih =>
    intro k z p M hk3 hU hz hp hpp h
    have e2 : clv n u (m + 1) z p = if lfn n u p = true ∧ z.testBit (u p - 97) = false then clv n u m (z ||| 2 ^ (u p - 97)) (p + 1) else (p, z) := rfl
    have stay : ¬ (lfn n u p = true ∧ z.testBit (u p - 97) = false) → T_X5_hasVisitors_79 Q r (I z) M := fun c => by
      rw [e2, if_neg c] at h
      exact fin z p M hz hp h
    unfold T_X5_hasVisitors_4
    rw [I_3, if_neg (by rw [I_le (by decide) (by omega)]; omega), hU.2.1, hp, rn_1551_0, lnn_1552]
    refine ⟨kn_1551, ?_⟩
    by_cases c1 : p < n
    · have hn := hU.1
      have hu2 := (hU.2.2 p c1).2
      rw [if_neg (by rw [I_le (by omega) (by omega)]; omega), vp_I (by omega), tn_I (by omega), (hU.2.2 p c1).1]
      refine ⟨kn_1552, by omega, ?_⟩
      rintro x4 rfl
      rw [I_97, I_12, k_below (by decide)]
      by_cases c2 : 97 ≤ u p ∧ u p ≤ 108
      · have hl' : lfn n u p = true := decide_eq_true ⟨c1, c2⟩
        rw [if_pos (show isN (I (u p) - I 97) 12 by rw [isN97 hu2]; exact c2)]
        try dsimp only
        rw [if_neg (by decide), I_sub (by omega), I_31, I_1, I_ubit (by omega) (by omega), I_0]
        by_cases c3 : z.testBit (u p - 97) = false
        · rw [if_pos (show I (bt z (u p - 97)) = I 0 by rw [I_bt0]; exact c3), I_shl (by omega), I_or]
          rintro x7 rfl
          rintro M8 rfl
          rintro x9 rfl
          rw [hp, I_add, I_add]
          have hpw : 2 ^ (u p - 97) < 4096 := Nat.pow_lt_pow_right (a := 2) (n := 12) (by decide) (by omega)
          refine ih (k + 1) _ (p + 1) _ (by omega) (hU.fc hr (Fc.pl (i := 2) hr.1)) (Nat.or_lt_two_pow (n := 12) hz hpw) (by rw [mset_v, if_pos rfl]) (by omega) (fun M' q1 q2 q3 => ?_)
          rw [e2, if_pos ⟨hl', c3⟩] at h
          exact h M' ((Fc.pl hr.1).trans q1) q2 q3
        · rw [if_neg (show ¬ I (bt z (u p - 97)) = I 0 by rw [I_bt0]; exact c3)]
          exact stay (fun w => c3 w.2)
      · rw [if_neg (show ¬ isN (I (u p) - I 97) 12 by rw [isN97 hu2]; exact c2)]
        try dsimp only
        rw [if_pos (show I 0 = 0 from rfl)]
        exact stay (fun w => c2 (of_decide_eq_true w.1).2)
    · rw [if_pos (by rw [I_le (by omega) (by omega)]; omega)]
      exact stay (fun w => c1 (of_decide_eq_true w.1).1)
/-- letters: read, and then the sign that closes them -/
theorem k_vis (hU : UC n u M) {p r : Nat} (hr : r ≠ 1551 ∧ r ≠ 1552) (hk : kd r = 9) (hl : 2 < ln r) (hp : M.1 1551 2 = I p) (hpp : p < 900)
    (h1 : lfn n u p = true → ∀ M', Fc r 2 M M' → M'.1 1551 2 = I (ltr n u (true, p)).1.2 → ((ltr n u (true, p)).1.1 = true → M'.1 r 2 = I (ltr n u (true, p)).2) → (¬ (ltr n u (true, p)).1.1 = true → lfn n u (ltr n u (true, p)).1.2 = true) → Q (I 1) M')
    (h0 : ltr n u (true, p) = ((false, p), 0) → ∀ M', Fc r 2 M M' → M'.1 1551 2 = I p → Q (I 0) M') : T_X5_hasVisitors Q 1551 r M := by
  unfold T_X5_hasVisitors
  rw [I_0]
  refine ⟨4, k_vl (p0 := p) hr hk hl 3 0 0 p M rfl hU (by decide) hp hpp (fun M' q1 q2 q3 => ?_)⟩
  by_cases c : lfn n u p = true
  · rw [if_neg (clv_1 c)]
    have e : ltr n u (true, p) = lts n u 5 0 0 p := if_pos ⟨rfl, c⟩
    have g := clv_lts (n := n) (u := u) 3 0 0 p rfl
    rw [e] at h1
    refine h1 c M' q1 (by rw [g.1]; exact q2) (fun z => by rw [g.2.1 z]; exact q3) (fun z => by rw [g.1]; exact g.2.2 z)
  · rw [clv_0 c] at q2 ⊢
    rw [if_pos rfl]
    exact h0 (if_neg (fun z => c z.2)) M' q1 q2
end Pb2

