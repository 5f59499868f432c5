/-! ===== THE REFERENCE reads, third ===== -/
section Md4
variable {M : Mem} {a : Nat → Nat} {f : Nat → Int32} {Q : Int32 → Mem → Prop}
theorem m_arP (hV : VA a) {x y d : Nat} (hx : x < 4096) (hy : y < 4096) (hd : d < 4096) (h : Q (bI (arP a x y d)) (mm M a f)) : T_X7_arePair Q 1582 (I x) (I y) (I d) (mm M a f) := by
  unfold T_X7_arePair
  rw [I_0]
  exact ⟨a 5 + 1, l_arP hV hx hy hd h (a 5) 0 (by omega)⟩
theorem l_near (hV : VA a) {r i d t : Nat} (hr : r < 100) (hi : i < 100) (hd : d < 4096) (ht : t < 4096) : ∀ m k, k + m = a 4 → Q (bI (!exF (fun v => decide (isI3 a v d t) && (arP a i (a (78 + 6 * v)) d && decide (ad (a (54 + a (78 + 6 * v + 4))) (a (54 + r)) < 2))) m k)) (mm M a f) → T_X7_isPossible_73 Q (m + 1) 1582 (I r) (I i) (I d) (I t) (I k) (mm M a f) := by
  intro m
  induction m with
  | zero =>
    intro k hk
    have hb := hV.1
    have hn := hV.2.1.2.2.2.2.1
    obtain rfl : k = a 4 := by omega
    intro h
    unfold T_X7_isPossible_73
    simp (disch := first | exact lt4 (hb _) | exact hb _ | omega) only [I_0, I_1, I_2, I_3, I_4, I_5, I_6, I_7, I_8, I_9, I_10, I_11, I_12, I_20, I_22, I_27, I_31, I_32, I_38, I_42, I_48, I_54, I_55, I_56, I_57, I_60, I_66, I_72, I_78, I_80, I_97, I_98, I_99, I_100, I_108, I_109, I_116, I_120, I_438, I_488, I_512, I_552, I_3864, oN_s, oN_n, bI_t, bI_f, Nat.add_zero, I_bt1, I_bt0, Nat.reduceLT, Nat.reduceLeDiff, Nat.reduceEqDiff, Nat.reduceAdd, Nat.reduceMul, Nat.reduceSub, tn_I, I_add, I_mul, I_div, vp_I, I_eq, I_le, I_lt, I_no, no_I, negI1, kd7, rf71, kdS, lnS, mm_sa, mm_fa, mm_ms, mm_mf, true_and, and_true, false_and, and_false, if_true, if_false, ite_true, ite_false, forall_eq, true_or, or_true, Nat.le_refl]
    exact h
  | succ m ih =>
    intro k hk
    have hb := hV.1
    have hn := hV.2.1.2.2.2.2.1
    have hvv := hV.2.2.2.2.2.1 k (by omega)
    have h2p := two_le hV.2.1.2.2.1
    intro h
    have ihk := ih (k + 1) (by omega)
    have h3 := hV.2.1.2.2.2.1
    have hadl : ad (a (54 + a (78 + 6 * k + 4))) (a (54 + r)) < 10000 := by have := hb (54 + a (78 + 6 * k + 4)); have := hb (54 + r); unfold ad; omega
    unfold exF at h
    unfold T_X7_isPossible_73
    by_cases c : isI3 a k d t
    · simp (disch := first | exact lt4 (hb _) | exact hb _ | omega) only [I_0, I_1, I_2, I_3, I_4, I_5, I_6, I_7, I_8, I_9, I_10, I_11, I_12, I_20, I_22, I_27, I_31, I_32, I_38, I_42, I_48, I_54, I_55, I_56, I_57, I_60, I_66, I_72, I_78, I_80, I_97, I_98, I_99, I_100, I_108, I_109, I_116, I_120, I_438, I_488, I_512, I_552, I_3864, oN_s, oN_n, bI_t, bI_f, Nat.add_zero, I_bt1, I_bt0, Nat.reduceLT, Nat.reduceLeDiff, Nat.reduceEqDiff, Nat.reduceAdd, Nat.reduceMul, Nat.reduceSub, tn_I, I_add, I_mul, I_div, vp_I, I_eq, I_le, I_lt, I_no, no_I, negI1, kd7, rf71, kdS, lnS, mm_sa, mm_fa, mm_ms, mm_mf, true_and, and_true, false_and, and_false, if_true, if_false, ite_true, ite_false, forall_eq, true_or, or_true, show ¬ a 4 ≤ k by omega, m_isIn hb (show k < 60 by omega) hd ht, c, m_of hb (show k < 60 by omega) (show 0 < 6 by decide), m_of hb (show k < 60 by omega) (show 4 < 6 by decide), show 54 + a (78 + 6 * k + 4) < 552 by omega, show 54 + r < 552 by omega, show 54 + a (78 + 6 * k + 4) < 2147483648 by omega]
      refine m_arP hV (by omega) (hb _) hd ?_
      by_cases c2 : arP a i (a (78 + 6 * k)) d = true
      · rw [c2, bI_t]
        rw [decide_eq_true c, c2, Bool.true_and, Bool.true_and] at h
        simp (disch := first | exact lt4 (hb _) | exact hb _ | omega) only [I_0, I_1, I_2, I_3, I_4, I_5, I_6, I_7, I_8, I_9, I_10, I_11, I_12, I_20, I_22, I_27, I_31, I_32, I_38, I_42, I_48, I_54, I_55, I_56, I_57, I_60, I_66, I_72, I_78, I_80, I_97, I_98, I_99, I_100, I_108, I_109, I_116, I_120, I_438, I_488, I_512, I_552, I_3864, oN_s, oN_n, bI_t, bI_f, Nat.add_zero, I_bt1, I_bt0, Nat.reduceLT, Nat.reduceLeDiff, Nat.reduceEqDiff, Nat.reduceAdd, Nat.reduceMul, Nat.reduceSub, tn_I, I_add, I_mul, I_div, vp_I, I_eq, I_le, I_lt, I_no, no_I, negI1, kd7, rf71, kdS, lnS, mm_sa, mm_fa, mm_ms, mm_mf, true_and, and_true, false_and, and_false, if_true, if_false, ite_true, ite_false, forall_eq, true_or, or_true, m_size, hb, m_of hb (show k < 60 by omega) (show 4 < 6 by decide), show 54 + a (78 + 6 * k + 4) < 552 by omega, show 54 + r < 552 by omega, show 54 + a (78 + 6 * k + 4) < 2147483648 by omega]
        by_cases c3 : 2 ≤ ad (a (54 + a (78 + 6 * k + 4))) (a (54 + r))
        · rw [if_pos c3]
          unfold T_X7_isPossible_148
          simp (disch := first | exact lt4 (hb _) | exact hb _ | omega) only [I_0, I_1, I_2, I_3, I_4, I_5, I_6, I_7, I_8, I_9, I_10, I_11, I_12, I_20, I_22, I_27, I_31, I_32, I_38, I_42, I_48, I_54, I_55, I_56, I_57, I_60, I_66, I_72, I_78, I_80, I_97, I_98, I_99, I_100, I_108, I_109, I_116, I_120, I_438, I_488, I_512, I_552, I_3864, oN_s, oN_n, bI_t, bI_f, Nat.add_zero, I_bt1, I_bt0, Nat.reduceLT, Nat.reduceLeDiff, Nat.reduceEqDiff, Nat.reduceAdd, Nat.reduceMul, Nat.reduceSub, tn_I, I_add, I_mul, I_div, vp_I, I_eq, I_le, I_lt, I_no, no_I, negI1, kd7, rf71, kdS, lnS, mm_sa, mm_fa, mm_ms, mm_mf, true_and, and_true, false_and, and_false, if_true, if_false, ite_true, ite_false, forall_eq, true_or, or_true]
          rw [if_neg (by simpa using c3)] at h
          exact ihk h
        · rw [if_neg c3]
          rw [if_pos (by simpa using c3)] at h
          exact h
      · have c3 : arP a i (a (78 + 6 * k)) d = false := by simpa using c2
        rw [c3, bI_f]
        rw [c3, Bool.false_and, Bool.and_false, if_neg (by decide)] at h
        simp (disch := first | exact lt4 (hb _) | exact hb _ | omega) only [I_0, I_1, I_2, I_3, I_4, I_5, I_6, I_7, I_8, I_9, I_10, I_11, I_12, I_20, I_22, I_27, I_31, I_32, I_38, I_42, I_48, I_54, I_55, I_56, I_57, I_60, I_66, I_72, I_78, I_80, I_97, I_98, I_99, I_100, I_108, I_109, I_116, I_120, I_438, I_488, I_512, I_552, I_3864, oN_s, oN_n, bI_t, bI_f, Nat.add_zero, I_bt1, I_bt0, Nat.reduceLT, Nat.reduceLeDiff, Nat.reduceEqDiff, Nat.reduceAdd, Nat.reduceMul, Nat.reduceSub, tn_I, I_add, I_mul, I_div, vp_I, I_eq, I_le, I_lt, I_no, no_I, negI1, kd7, rf71, kdS, lnS, mm_sa, mm_fa, mm_ms, mm_mf, true_and, and_true, false_and, and_false, if_true, if_false, ite_true, ite_false, forall_eq, true_or, or_true]
        unfold T_X7_isPossible_148
        simp (disch := first | exact lt4 (hb _) | exact hb _ | omega) only [I_0, I_1, I_2, I_3, I_4, I_5, I_6, I_7, I_8, I_9, I_10, I_11, I_12, I_20, I_22, I_27, I_31, I_32, I_38, I_42, I_48, I_54, I_55, I_56, I_57, I_60, I_66, I_72, I_78, I_80, I_97, I_98, I_99, I_100, I_108, I_109, I_116, I_120, I_438, I_488, I_512, I_552, I_3864, oN_s, oN_n, bI_t, bI_f, Nat.add_zero, I_bt1, I_bt0, Nat.reduceLT, Nat.reduceLeDiff, Nat.reduceEqDiff, Nat.reduceAdd, Nat.reduceMul, Nat.reduceSub, tn_I, I_add, I_mul, I_div, vp_I, I_eq, I_le, I_lt, I_no, no_I, negI1, kd7, rf71, kdS, lnS, mm_sa, mm_fa, mm_ms, mm_mf, true_and, and_true, false_and, and_false, if_true, if_false, ite_true, ite_false, forall_eq, true_or, or_true]
        exact ihk h
    · simp (disch := first | exact lt4 (hb _) | exact hb _ | omega) only [I_0, I_1, I_2, I_3, I_4, I_5, I_6, I_7, I_8, I_9, I_10, I_11, I_12, I_20, I_22, I_27, I_31, I_32, I_38, I_42, I_48, I_54, I_55, I_56, I_57, I_60, I_66, I_72, I_78, I_80, I_97, I_98, I_99, I_100, I_108, I_109, I_116, I_120, I_438, I_488, I_512, I_552, I_3864, oN_s, oN_n, bI_t, bI_f, Nat.add_zero, I_bt1, I_bt0, Nat.reduceLT, Nat.reduceLeDiff, Nat.reduceEqDiff, Nat.reduceAdd, Nat.reduceMul, Nat.reduceSub, tn_I, I_add, I_mul, I_div, vp_I, I_eq, I_le, I_lt, I_no, no_I, negI1, kd7, rf71, kdS, lnS, mm_sa, mm_fa, mm_ms, mm_mf, true_and, and_true, false_and, and_false, if_true, if_false, ite_true, ite_false, forall_eq, true_or, or_true, show ¬ a 4 ≤ k by omega, m_isIn hb (show k < 60 by omega) hd ht, c]
      unfold T_X7_isPossible_148
      simp (disch := first | exact lt4 (hb _) | exact hb _ | omega) only [I_0, I_1, I_2, I_3, I_4, I_5, I_6, I_7, I_8, I_9, I_10, I_11, I_12, I_20, I_22, I_27, I_31, I_32, I_38, I_42, I_48, I_54, I_55, I_56, I_57, I_60, I_66, I_72, I_78, I_80, I_97, I_98, I_99, I_100, I_108, I_109, I_116, I_120, I_438, I_488, I_512, I_552, I_3864, oN_s, oN_n, bI_t, bI_f, Nat.add_zero, I_bt1, I_bt0, Nat.reduceLT, Nat.reduceLeDiff, Nat.reduceEqDiff, Nat.reduceAdd, Nat.reduceMul, Nat.reduceSub, tn_I, I_add, I_mul, I_div, vp_I, I_eq, I_le, I_lt, I_no, no_I, negI1, kd7, rf71, kdS, lnS, mm_sa, mm_fa, mm_ms, mm_mf, true_and, and_true, false_and, and_false, if_true, if_false, ite_true, ite_false, forall_eq, true_or, or_true]
      rw [decide_eq_false c, Bool.false_and, if_neg (by decide)] at h
      exact ihk h
theorem m_poss (hV : VA a) {r i n d t : Nat} (hr : r < 6) (hi : i < 100) (hn : n < 100) (hd : d < 4096) (ht : t < 4096) (h : Q (bI (poss a r i n d t)) (mm M a f)) : T_X7_isPossible Q 1582 (I r) (I i) (I n) (I d) (I t) (mm M a f) := by
  have hb := hV.1
  have hul : used a d t < 2147483648 := by
    have : used a d t < 2 ^ 6 := by
      unfold used
      have h3 := hV.2.1.2.2.2.1
      have hvv := hV.2.2.2.2.2.1
      have : ∀ n, n ≤ a 4 → ors (fun v => if isI3 a v d t then 2 ^ a (78 + 6 * v + 4) else 0) n < 2 ^ 6 := by
        intro n
        induction n with
        | zero => intro _; simp [ors]
        | succ n ih =>
          intro hn
          unfold ors
          refine Nat.or_lt_two_pow (ih (by omega)) ?_
          show (if _ then _ else _) < _
          split
          · exact Nat.pow_lt_pow_right (by decide) (by have := (hvv n (by omega)).2.2.2.2.1; omega)
          · decide
      exact this _ (Nat.le_refl _)
    omega
  unfold poss at h
  unfold T_X7_isPossible T_X7_isPossible_41 T_X7_isPossible_70
  simp (disch := first | exact lt4 (hb _) | exact hb _ | omega) only [I_0, I_1, I_2, I_3, I_4, I_5, I_6, I_7, I_8, I_9, I_10, I_11, I_12, I_20, I_22, I_27, I_31, I_32, I_38, I_42, I_48, I_54, I_55, I_56, I_57, I_60, I_66, I_72, I_78, I_80, I_97, I_98, I_99, I_100, I_108, I_109, I_116, I_120, I_438, I_488, I_512, I_552, I_3864, oN_s, oN_n, bI_t, bI_f, Nat.add_zero, I_bt1, I_bt0, Nat.reduceLT, Nat.reduceLeDiff, Nat.reduceEqDiff, Nat.reduceAdd, Nat.reduceMul, Nat.reduceSub, tn_I, I_add, I_mul, I_div, vp_I, I_eq, I_le, I_lt, I_no, no_I, negI1, kd7, rf71, kdS, lnS, mm_sa, mm_fa, mm_ms, mm_mf, true_and, and_true, false_and, and_false, if_true, if_false, ite_true, ite_false, forall_eq, true_or, or_true, show 72 + r < 552 by omega, show 60 + r < 552 by omega, show 32 + i < 552 by omega, show 66 + r < 552 by omega]
  by_cases c1 : a (72 + r) = 0
  · rw [if_pos c1]
    simp only [c1, decide_true, Bool.not_true, Bool.false_and] at h
    exact h
  rw [if_neg c1]
  simp only [decide_eq_false c1, Bool.not_false, Bool.true_and] at h
  by_cases c2 : a (60 + r) < n
  · rw [if_pos c2]
    simp only [c2, decide_true, Bool.not_true, Bool.false_and] at h
    exact h
  rw [if_neg c2]
  simp only [decide_eq_false c2, Bool.not_false, Bool.true_and] at h
  refine m_used hV hd ht ?_
  simp (disch := first | exact lt4 (hb _) | exact hb _ | omega) only [I_0, I_1, I_2, I_3, I_4, I_5, I_6, I_7, I_8, I_9, I_10, I_11, I_12, I_20, I_22, I_27, I_31, I_32, I_38, I_42, I_48, I_54, I_55, I_56, I_57, I_60, I_66, I_72, I_78, I_80, I_97, I_98, I_99, I_100, I_108, I_109, I_116, I_120, I_438, I_488, I_512, I_552, I_3864, oN_s, oN_n, bI_t, bI_f, Nat.add_zero, I_bt1, I_bt0, Nat.reduceLT, Nat.reduceLeDiff, Nat.reduceEqDiff, Nat.reduceAdd, Nat.reduceMul, Nat.reduceSub, tn_I, I_add, I_mul, I_div, vp_I, I_eq, I_le, I_lt, I_no, no_I, negI1, kd7, rf71, kdS, lnS, mm_sa, mm_fa, mm_ms, mm_mf, true_and, and_true, false_and, and_false, if_true, if_false, ite_true, ite_false, forall_eq, true_or, or_true, I_bit hul (show r < 31 by omega)]
  by_cases c3 : (used a d t).testBit r = true
  · rw [if_pos c3]
    simp only [c3, Bool.not_true, Bool.false_and] at h
    exact h
  rw [if_neg c3]
  have c3' : (used a d t).testBit r = false := by simpa using c3
  simp only [c3', Bool.not_false, Bool.true_and] at h
  have key : Q (bI (!nearB a r i d t)) (mm M a f) → ∃ N : Nat, T_X7_isPossible_73 Q N 1582 (I r) (I i) (I d) (I t) (I 0) (mm M a f) := fun h => ⟨a 4 + 1, l_near hV (by omega) hi hd ht (a 4) 0 (by omega) h⟩
  by_cases c4 : a (32 + i) = 1
  · rw [if_pos c4]
    by_cases c5 : a (66 + r) = 0
    · rw [if_pos c5]
      simp only [c4, c5, decide_true, Bool.and_self, Bool.not_true, Bool.false_and] at h
      exact h
    · rw [if_neg c5]
      simp only [c4, decide_eq_false c5, decide_true, Bool.and_false, Bool.not_false, Bool.true_and] at h
      exact key h
  · rw [if_neg c4]
    simp only [decide_eq_false c4, Bool.false_and, Bool.not_false, Bool.true_and] at h
    exact key h
theorem l_dcs (hV : VA a) {s : Nat} (hs : s < 4096) (h : Q (bI (dcs a s)) (mm M a f)) : ∀ m k, k + m = a 2 → T_X7_doesCount_4 Q (m + 1) 1582 (I s) (bI (anyB (fun k => s.testBit k && !decide (a (42 + k) = 2)) k)) (I k) (mm M a f) := by
  intro m
  induction m with
  | zero =>
    intro k hk
    have hb := hV.1
    obtain rfl : k = a 2 := by omega
    have h2 := hV.2.1.2.2.1
    unfold dcs at h
    unfold T_X7_doesCount_4
    simp (disch := first | exact lt4 (hb _) | exact hb _ | omega) only [I_0, I_1, I_2, I_3, I_4, I_5, I_6, I_7, I_8, I_9, I_10, I_11, I_12, I_20, I_22, I_27, I_31, I_32, I_38, I_42, I_48, I_54, I_55, I_56, I_57, I_60, I_66, I_72, I_78, I_80, I_97, I_98, I_99, I_100, I_108, I_109, I_116, I_120, I_438, I_488, I_512, I_552, I_3864, oN_s, oN_n, bI_t, bI_f, Nat.add_zero, I_bt1, I_bt0, Nat.reduceLT, Nat.reduceLeDiff, Nat.reduceEqDiff, Nat.reduceAdd, Nat.reduceMul, Nat.reduceSub, tn_I, I_add, I_mul, I_div, vp_I, I_eq, I_le, I_lt, I_no, no_I, negI1, kd7, rf71, kdS, lnS, mm_sa, mm_fa, mm_ms, mm_mf, true_and, and_true, false_and, and_false, if_true, if_false, ite_true, ite_false, forall_eq, true_or, or_true, Nat.le_refl]
    generalize anyB _ (a 2) = z at h ⊢
    cases z
    · exact ⟨Or.inl rfl, h⟩
    · exact ⟨Or.inr rfl, h⟩
  | succ m ih =>
    intro k hk
    have hb := hV.1
    have h2 := hV.2.1.2.2.1
    have h9 := ih (k + 1) (by omega)
    unfold anyB at h9
    unfold T_X7_doesCount_4 T_X7_doesCount_44 T_X7_doesCount_40 T_X7_doesCount_45
    generalize anyB _ k = z at h9 ⊢
    cases z
    · by_cases c1 : s.testBit k = true
      · have c1' : bt s k = 1 := by rw [bt_1]; exact c1
        by_cases c2 : a (42 + k) = 2
        · simp (disch := first | exact lt4 (hb _) | exact hb _ | omega) only [I_0, I_1, I_2, I_3, I_4, I_5, I_6, I_7, I_8, I_9, I_10, I_11, I_12, I_20, I_22, I_27, I_31, I_32, I_38, I_42, I_48, I_54, I_55, I_56, I_57, I_60, I_66, I_72, I_78, I_80, I_97, I_98, I_99, I_100, I_108, I_109, I_116, I_120, I_438, I_488, I_512, I_552, I_3864, oN_s, oN_n, bI_t, bI_f, Nat.add_zero, I_bt1, I_bt0, Nat.reduceLT, Nat.reduceLeDiff, Nat.reduceEqDiff, Nat.reduceAdd, Nat.reduceMul, Nat.reduceSub, tn_I, I_add, I_mul, I_div, vp_I, I_eq, I_le, I_lt, I_no, no_I, negI1, kd7, rf71, kdS, lnS, mm_sa, mm_fa, mm_ms, mm_mf, true_and, and_true, false_and, and_false, if_true, if_false, ite_true, ite_false, forall_eq, true_or, or_true, show ¬ a 2 ≤ k by omega, bI_f, I_bit, c1', c2, show 42 + k < 552 by omega]
          simpa [c1, c2, bI_f] using h9
        · simp (disch := first | exact lt4 (hb _) | exact hb _ | omega) only [I_0, I_1, I_2, I_3, I_4, I_5, I_6, I_7, I_8, I_9, I_10, I_11, I_12, I_20, I_22, I_27, I_31, I_32, I_38, I_42, I_48, I_54, I_55, I_56, I_57, I_60, I_66, I_72, I_78, I_80, I_97, I_98, I_99, I_100, I_108, I_109, I_116, I_120, I_438, I_488, I_512, I_552, I_3864, oN_s, oN_n, bI_t, bI_f, Nat.add_zero, I_bt1, I_bt0, Nat.reduceLT, Nat.reduceLeDiff, Nat.reduceEqDiff, Nat.reduceAdd, Nat.reduceMul, Nat.reduceSub, tn_I, I_add, I_mul, I_div, vp_I, I_eq, I_le, I_lt, I_no, no_I, negI1, kd7, rf71, kdS, lnS, mm_sa, mm_fa, mm_ms, mm_mf, true_and, and_true, false_and, and_false, if_true, if_false, ite_true, ite_false, forall_eq, true_or, or_true, show ¬ a 2 ≤ k by omega, bI_f, I_bit, c1', c2, show 42 + k < 552 by omega]
          simpa [c1, c2, bI_t] using h9
      · have c1' : bt s k = 0 := by rw [bt_0]; simpa using c1
        have c3 : s.testBit k = false := by simpa using c1
        simp (disch := first | exact lt4 (hb _) | exact hb _ | omega) only [I_0, I_1, I_2, I_3, I_4, I_5, I_6, I_7, I_8, I_9, I_10, I_11, I_12, I_20, I_22, I_27, I_31, I_32, I_38, I_42, I_48, I_54, I_55, I_56, I_57, I_60, I_66, I_72, I_78, I_80, I_97, I_98, I_99, I_100, I_108, I_109, I_116, I_120, I_438, I_488, I_512, I_552, I_3864, oN_s, oN_n, bI_t, bI_f, Nat.add_zero, I_bt1, I_bt0, Nat.reduceLT, Nat.reduceLeDiff, Nat.reduceEqDiff, Nat.reduceAdd, Nat.reduceMul, Nat.reduceSub, tn_I, I_add, I_mul, I_div, vp_I, I_eq, I_le, I_lt, I_no, no_I, negI1, kd7, rf71, kdS, lnS, mm_sa, mm_fa, mm_ms, mm_mf, true_and, and_true, false_and, and_false, if_true, if_false, ite_true, ite_false, forall_eq, true_or, or_true, show ¬ a 2 ≤ k by omega, bI_f, I_bit, c1', show ¬ (0 : Nat) = 1 by decide]
        simpa [c3, bI_f] using h9
    · simp (disch := first | exact lt4 (hb _) | exact hb _ | omega) only [I_0, I_1, I_2, I_3, I_4, I_5, I_6, I_7, I_8, I_9, I_10, I_11, I_12, I_20, I_22, I_27, I_31, I_32, I_38, I_42, I_48, I_54, I_55, I_56, I_57, I_60, I_66, I_72, I_78, I_80, I_97, I_98, I_99, I_100, I_108, I_109, I_116, I_120, I_438, I_488, I_512, I_552, I_3864, oN_s, oN_n, bI_t, bI_f, Nat.add_zero, I_bt1, I_bt0, Nat.reduceLT, Nat.reduceLeDiff, Nat.reduceEqDiff, Nat.reduceAdd, Nat.reduceMul, Nat.reduceSub, tn_I, I_add, I_mul, I_div, vp_I, I_eq, I_le, I_lt, I_no, no_I, negI1, kd7, rf71, kdS, lnS, mm_sa, mm_fa, mm_ms, mm_mf, true_and, and_true, false_and, and_false, if_true, if_false, ite_true, ite_false, forall_eq, true_or, or_true, show ¬ a 2 ≤ k by omega, bI_t]
      simpa [bI_t] using h9
theorem m_dcs (hV : VA a) {s : Nat} (hs : s < 4096) (h : Q (bI (dcs a s)) (mm M a f)) : T_X7_doesCount Q 1582 (I s) (mm M a f) := by
  unfold T_X7_doesCount
  rw [I_0]
  exact ⟨a 2 + 1, l_dcs hV hs h (a 2) 0 (by omega)⟩
theorem l_brk (hV : VA a) {s b : Nat} (hs : s < 4096) (hbn : b < 10) (h : Q (bI (anyB (fun v => s.testBit v && decide (a (42 + v) = a (438 + 5 * b + 2))) (a 2))) (mm M a f)) : ∀ m k, k + m = a 2 → T_X7_breaks_100 Q (m + 1) 1582 (I s) (I (438 + 5 * b)) (bI (anyB (fun v => s.testBit v && decide (a (42 + v) = a (438 + 5 * b + 2))) k)) (I k) (mm M a f) := by
  intro m
  induction m with
  | zero =>
    intro k hk
    have hb := hV.1
    obtain rfl : k = a 2 := by omega
    have h2 := hV.2.1.2.2.1
    unfold T_X7_breaks_100
    simp (disch := first | exact lt4 (hb _) | exact hb _ | omega) only [I_0, I_1, I_2, I_3, I_4, I_5, I_6, I_7, I_8, I_9, I_10, I_11, I_12, I_20, I_22, I_27, I_31, I_32, I_38, I_42, I_48, I_54, I_55, I_56, I_57, I_60, I_66, I_72, I_78, I_80, I_97, I_98, I_99, I_100, I_108, I_109, I_116, I_120, I_438, I_488, I_512, I_552, I_3864, oN_s, oN_n, bI_t, bI_f, Nat.add_zero, I_bt1, I_bt0, Nat.reduceLT, Nat.reduceLeDiff, Nat.reduceEqDiff, Nat.reduceAdd, Nat.reduceMul, Nat.reduceSub, tn_I, I_add, I_mul, I_div, vp_I, I_eq, I_le, I_lt, I_no, no_I, negI1, kd7, rf71, kdS, lnS, mm_sa, mm_fa, mm_ms, mm_mf, true_and, and_true, false_and, and_false, if_true, if_false, ite_true, ite_false, forall_eq, true_or, or_true, Nat.le_refl]
    generalize anyB _ (a 2) = z at h ⊢
    cases z
    · exact ⟨Or.inl rfl, h⟩
    · exact ⟨Or.inr rfl, h⟩
  | succ m ih =>
    intro k hk
    have hb := hV.1
    have h2 := hV.2.1.2.2.1
    have h9 := ih (k + 1) (by omega)
    unfold anyB at h9
    unfold T_X7_breaks_100 T_X7_breaks_152 T_X7_breaks_148 T_X7_breaks_153
    generalize anyB _ k = z at h9 ⊢
    cases z
    · by_cases c1 : s.testBit k = true
      · have c1' : bt s k = 1 := by rw [bt_1]; exact c1
        by_cases c2 : a (42 + k) = a (438 + 5 * b + 2)
        · simp (disch := first | exact lt4 (hb _) | exact hb _ | omega) only [I_0, I_1, I_2, I_3, I_4, I_5, I_6, I_7, I_8, I_9, I_10, I_11, I_12, I_20, I_22, I_27, I_31, I_32, I_38, I_42, I_48, I_54, I_55, I_56, I_57, I_60, I_66, I_72, I_78, I_80, I_97, I_98, I_99, I_100, I_108, I_109, I_116, I_120, I_438, I_488, I_512, I_552, I_3864, oN_s, oN_n, bI_t, bI_f, Nat.add_zero, I_bt1, I_bt0, Nat.reduceLT, Nat.reduceLeDiff, Nat.reduceEqDiff, Nat.reduceAdd, Nat.reduceMul, Nat.reduceSub, tn_I, I_add, I_mul, I_div, vp_I, I_eq, I_le, I_lt, I_no, no_I, negI1, kd7, rf71, kdS, lnS, mm_sa, mm_fa, mm_ms, mm_mf, true_and, and_true, false_and, and_false, if_true, if_false, ite_true, ite_false, forall_eq, true_or, or_true, show ¬ a 2 ≤ k by omega, bI_f, I_bit, c1', c2, show 42 + k < 552 by omega, show 438 + 5 * b + 2 < 552 by omega]
          simpa [c1, c2, bI_t] using h9
        · simp (disch := first | exact lt4 (hb _) | exact hb _ | omega) only [I_0, I_1, I_2, I_3, I_4, I_5, I_6, I_7, I_8, I_9, I_10, I_11, I_12, I_20, I_22, I_27, I_31, I_32, I_38, I_42, I_48, I_54, I_55, I_56, I_57, I_60, I_66, I_72, I_78, I_80, I_97, I_98, I_99, I_100, I_108, I_109, I_116, I_120, I_438, I_488, I_512, I_552, I_3864, oN_s, oN_n, bI_t, bI_f, Nat.add_zero, I_bt1, I_bt0, Nat.reduceLT, Nat.reduceLeDiff, Nat.reduceEqDiff, Nat.reduceAdd, Nat.reduceMul, Nat.reduceSub, tn_I, I_add, I_mul, I_div, vp_I, I_eq, I_le, I_lt, I_no, no_I, negI1, kd7, rf71, kdS, lnS, mm_sa, mm_fa, mm_ms, mm_mf, true_and, and_true, false_and, and_false, if_true, if_false, ite_true, ite_false, forall_eq, true_or, or_true, show ¬ a 2 ≤ k by omega, bI_f, I_bit, c1', c2, show 42 + k < 552 by omega, show 438 + 5 * b + 2 < 552 by omega]
          simpa [c1, c2, bI_f] using h9
      · have c1' : bt s k = 0 := by rw [bt_0]; simpa using c1
        have c3 : s.testBit k = false := by simpa using c1
        simp (disch := first | exact lt4 (hb _) | exact hb _ | omega) only [I_0, I_1, I_2, I_3, I_4, I_5, I_6, I_7, I_8, I_9, I_10, I_11, I_12, I_20, I_22, I_27, I_31, I_32, I_38, I_42, I_48, I_54, I_55, I_56, I_57, I_60, I_66, I_72, I_78, I_80, I_97, I_98, I_99, I_100, I_108, I_109, I_116, I_120, I_438, I_488, I_512, I_552, I_3864, oN_s, oN_n, bI_t, bI_f, Nat.add_zero, I_bt1, I_bt0, Nat.reduceLT, Nat.reduceLeDiff, Nat.reduceEqDiff, Nat.reduceAdd, Nat.reduceMul, Nat.reduceSub, tn_I, I_add, I_mul, I_div, vp_I, I_eq, I_le, I_lt, I_no, no_I, negI1, kd7, rf71, kdS, lnS, mm_sa, mm_fa, mm_ms, mm_mf, true_and, and_true, false_and, and_false, if_true, if_false, ite_true, ite_false, forall_eq, true_or, or_true, show ¬ a 2 ≤ k by omega, bI_f, I_bit, c1', show ¬ (0 : Nat) = 1 by decide]
        simpa [c3, bI_f] using h9
    · simp (disch := first | exact lt4 (hb _) | exact hb _ | omega) only [I_0, I_1, I_2, I_3, I_4, I_5, I_6, I_7, I_8, I_9, I_10, I_11, I_12, I_20, I_22, I_27, I_31, I_32, I_38, I_42, I_48, I_54, I_55, I_56, I_57, I_60, I_66, I_72, I_78, I_80, I_97, I_98, I_99, I_100, I_108, I_109, I_116, I_120, I_438, I_488, I_512, I_552, I_3864, oN_s, oN_n, bI_t, bI_f, Nat.add_zero, I_bt1, I_bt0, Nat.reduceLT, Nat.reduceLeDiff, Nat.reduceEqDiff, Nat.reduceAdd, Nat.reduceMul, Nat.reduceSub, tn_I, I_add, I_mul, I_div, vp_I, I_eq, I_le, I_lt, I_no, no_I, negI1, kd7, rf71, kdS, lnS, mm_sa, mm_fa, mm_ms, mm_mf, true_and, and_true, false_and, and_false, if_true, if_false, ite_true, ite_false, forall_eq, true_or, or_true, show ¬ a 2 ≤ k by omega, bI_t]
      simpa [bI_t] using h9

end Md4

