/-! ===== THE REFERENCE, its small methods ===== -/
section Md1
variable {M : Mem} {a : Nat → Nat} {f : Nat → Int32} {Q : Int32 → Mem → Prop}
theorem m_thrown : T_X7_thrown Q 1582 (mm M a f) = Q (f 0) (mm M a f) := by
  unfold T_X7_thrown
  simp (disch := first | exact lt4 (hb _) | exact hb _ | omega) only [I_0, I_1, I_2, I_3, I_4, I_5, I_6, I_7, I_8, I_9, I_10, I_11, I_12, I_20, I_22, I_27, I_31, I_32, I_38, I_42, I_48, I_54, I_55, I_56, I_57, I_60, I_66, I_72, I_78, I_80, I_97, I_98, I_99, I_100, I_108, I_109, I_116, I_120, I_438, I_488, I_512, I_552, I_3864, oN_s, oN_n, bI_t, bI_f, Nat.add_zero, I_bt1, I_bt0, Nat.reduceLT, Nat.reduceLeDiff, Nat.reduceEqDiff, Nat.reduceAdd, Nat.reduceMul, Nat.reduceSub, tn_I, I_add, I_mul, I_div, vp_I, I_eq, I_le, I_lt, I_no, no_I, negI1, kd7, rf71, kdS, lnS, mm_sa, mm_fa, mm_ms, mm_mf, true_and, and_true, false_and, and_false, if_true, if_false, ite_true, ite_false, forall_eq, true_or, or_true]
theorem m_fails (v : Int32) : T_X7_fails Q 1582 v (mm M a f) = Q (I 0) (mm M a (updI f 0 v)) := by
  unfold T_X7_fails
  simp (disch := first | exact lt4 (hb _) | exact hb _ | omega) only [I_0, I_1, I_2, I_3, I_4, I_5, I_6, I_7, I_8, I_9, I_10, I_11, I_12, I_20, I_22, I_27, I_31, I_32, I_38, I_42, I_48, I_54, I_55, I_56, I_57, I_60, I_66, I_72, I_78, I_80, I_97, I_98, I_99, I_100, I_108, I_109, I_116, I_120, I_438, I_488, I_512, I_552, I_3864, oN_s, oN_n, bI_t, bI_f, Nat.add_zero, I_bt1, I_bt0, Nat.reduceLT, Nat.reduceLeDiff, Nat.reduceEqDiff, Nat.reduceAdd, Nat.reduceMul, Nat.reduceSub, tn_I, I_add, I_mul, I_div, vp_I, I_eq, I_le, I_lt, I_no, no_I, negI1, kd7, rf71, kdS, lnS, mm_sa, mm_fa, mm_ms, mm_mf, true_and, and_true, false_and, and_false, if_true, if_false, ite_true, ite_false, forall_eq, true_or, or_true]
theorem m_in (p lo hi : Int32) : T_X7_in Q p lo hi M = (if lo ≤ p ∧ p ≤ hi then Q (I 1) M else Q (I 0) M) := by
  unfold T_X7_in T_X7_in_14 T_X7_in_15
  by_cases h1 : p < lo
  · have : ¬ (lo ≤ p ∧ p ≤ hi) := by rw [lt_ti] at h1; rw [le_ti, le_ti]; omega
    rw [if_pos h1, if_neg this]; simp [I_0]
  · by_cases h2 : hi < p
    · have : ¬ (lo ≤ p ∧ p ≤ hi) := by rw [lt_ti] at h2; rw [le_ti, le_ti]; omega
      rw [if_neg h1, if_pos h2, if_neg this]; simp [I_0]
    · have : lo ≤ p ∧ p ≤ hi := by rw [lt_ti] at h1 h2; rw [le_ti, le_ti]; omega
      rw [if_neg h1, if_neg h2, if_pos this]; simp [I_1]
theorem in_cnt {p : Int32} {n : Nat} (h : n < 4096) : (I 0 ≤ p ∧ p ≤ I n - I 1) = isN p n := by
  have e : (I n - I 1).toInt = (n : Int) - 1 := by
    by_cases q : n = 0
    · subst q; decide
    · rw [I_sub (by omega), ti_I (by omega)]; omega
  rw [le_ti, le_ti, e, ti_I (by decide)]
  unfold isN
  apply propext; constructor <;> intro g <;> omega
theorem m_isInmate (hb : ∀ k, a k < 4096) (p : Int32) : T_X7_isInmate Q 1582 p (mm M a f) = (if isN p (a 1) then Q (I 1) (mm M a f) else Q (I 0) (mm M a f)) := by
  unfold T_X7_isInmate
  simp (disch := first | exact lt4 (hb _) | exact hb _ | omega) only [I_0, I_1, I_2, I_3, I_4, I_5, I_6, I_7, I_8, I_9, I_10, I_11, I_12, I_20, I_22, I_27, I_31, I_32, I_38, I_42, I_48, I_54, I_55, I_56, I_57, I_60, I_66, I_72, I_78, I_80, I_97, I_98, I_99, I_100, I_108, I_109, I_116, I_120, I_438, I_488, I_512, I_552, I_3864, oN_s, oN_n, bI_t, bI_f, Nat.add_zero, I_bt1, I_bt0, Nat.reduceLT, Nat.reduceLeDiff, Nat.reduceEqDiff, Nat.reduceAdd, Nat.reduceMul, Nat.reduceSub, tn_I, I_add, I_mul, I_div, vp_I, I_eq, I_le, I_lt, I_no, no_I, negI1, kd7, rf71, kdS, lnS, mm_sa, mm_fa, mm_ms, mm_mf, true_and, and_true, false_and, and_false, if_true, if_false, ite_true, ite_false, forall_eq, true_or, or_true, m_in, in_cnt (hb 1)]
theorem m_isRoom (hb : ∀ k, a k < 4096) (p : Int32) : T_X7_isRoom Q 1582 p (mm M a f) = (if isN p (a 3) then Q (I 1) (mm M a f) else Q (I 0) (mm M a f)) := by
  unfold T_X7_isRoom
  simp (disch := first | exact lt4 (hb _) | exact hb _ | omega) only [I_0, I_1, I_2, I_3, I_4, I_5, I_6, I_7, I_8, I_9, I_10, I_11, I_12, I_20, I_22, I_27, I_31, I_32, I_38, I_42, I_48, I_54, I_55, I_56, I_57, I_60, I_66, I_72, I_78, I_80, I_97, I_98, I_99, I_100, I_108, I_109, I_116, I_120, I_438, I_488, I_512, I_552, I_3864, oN_s, oN_n, bI_t, bI_f, Nat.add_zero, I_bt1, I_bt0, Nat.reduceLT, Nat.reduceLeDiff, Nat.reduceEqDiff, Nat.reduceAdd, Nat.reduceMul, Nat.reduceSub, tn_I, I_add, I_mul, I_div, vp_I, I_eq, I_le, I_lt, I_no, no_I, negI1, kd7, rf71, kdS, lnS, mm_sa, mm_fa, mm_ms, mm_mf, true_and, and_true, false_and, and_false, if_true, if_false, ite_true, ite_false, forall_eq, true_or, or_true, m_in, in_cnt (hb 3)]
theorem m_isVisit (hb : ∀ k, a k < 4096) (p : Int32) : T_X7_isVisit Q 1582 p (mm M a f) = (if isN p (a 4) then Q (I 1) (mm M a f) else Q (I 0) (mm M a f)) := by
  unfold T_X7_isVisit
  simp (disch := first | exact lt4 (hb _) | exact hb _ | omega) only [I_0, I_1, I_2, I_3, I_4, I_5, I_6, I_7, I_8, I_9, I_10, I_11, I_12, I_20, I_22, I_27, I_31, I_32, I_38, I_42, I_48, I_54, I_55, I_56, I_57, I_60, I_66, I_72, I_78, I_80, I_97, I_98, I_99, I_100, I_108, I_109, I_116, I_120, I_438, I_488, I_512, I_552, I_3864, oN_s, oN_n, bI_t, bI_f, Nat.add_zero, I_bt1, I_bt0, Nat.reduceLT, Nat.reduceLeDiff, Nat.reduceEqDiff, Nat.reduceAdd, Nat.reduceMul, Nat.reduceSub, tn_I, I_add, I_mul, I_div, vp_I, I_eq, I_le, I_lt, I_no, no_I, negI1, kd7, rf71, kdS, lnS, mm_sa, mm_fa, mm_ms, mm_mf, true_and, and_true, false_and, and_false, if_true, if_false, ite_true, ite_false, forall_eq, true_or, or_true, m_in, in_cnt (hb 4)]
theorem m_of (hb : ∀ k, a k < 4096) {v c : Nat} (hv : v < 60) (hc : c < 6) : T_X7_of Q 1582 (I v) (I c) (mm M a f) = Q (I (a (78 + 6 * v + c))) (mm M a f) := by
  unfold T_X7_of
  simp (disch := first | exact lt4 (hb _) | exact hb _ | omega) only [I_0, I_1, I_2, I_3, I_4, I_5, I_6, I_7, I_8, I_9, I_10, I_11, I_12, I_20, I_22, I_27, I_31, I_32, I_38, I_42, I_48, I_54, I_55, I_56, I_57, I_60, I_66, I_72, I_78, I_80, I_97, I_98, I_99, I_100, I_108, I_109, I_116, I_120, I_438, I_488, I_512, I_552, I_3864, oN_s, oN_n, bI_t, bI_f, Nat.add_zero, I_bt1, I_bt0, Nat.reduceLT, Nat.reduceLeDiff, Nat.reduceEqDiff, Nat.reduceAdd, Nat.reduceMul, Nat.reduceSub, tn_I, I_add, I_mul, I_div, vp_I, I_eq, I_le, I_lt, I_no, no_I, negI1, kd7, rf71, kdS, lnS, mm_sa, mm_fa, mm_ms, mm_mf, true_and, and_true, false_and, and_false, if_true, if_false, ite_true, ite_false, forall_eq, true_or, or_true, show 78 + 6 * v + c < 552 by omega]
theorem m_isBooked (hb : ∀ k, a k < 4096) {v : Nat} (hv : v < 60) : T_X7_isBooked Q 1582 (I v) (mm M a f) = (if a (78 + 6 * v + 5) = 0 then Q (I 1) (mm M a f) else Q (I 0) (mm M a f)) := by
  unfold T_X7_isBooked T_X7_isBooked_14
  simp (disch := first | exact lt4 (hb _) | exact hb _ | omega) only [I_0, I_1, I_2, I_3, I_4, I_5, I_6, I_7, I_8, I_9, I_10, I_11, I_12, I_20, I_22, I_27, I_31, I_32, I_38, I_42, I_48, I_54, I_55, I_56, I_57, I_60, I_66, I_72, I_78, I_80, I_97, I_98, I_99, I_100, I_108, I_109, I_116, I_120, I_438, I_488, I_512, I_552, I_3864, oN_s, oN_n, bI_t, bI_f, Nat.add_zero, I_bt1, I_bt0, Nat.reduceLT, Nat.reduceLeDiff, Nat.reduceEqDiff, Nat.reduceAdd, Nat.reduceMul, Nat.reduceSub, tn_I, I_add, I_mul, I_div, vp_I, I_eq, I_le, I_lt, I_no, no_I, negI1, kd7, rf71, kdS, lnS, mm_sa, mm_fa, mm_ms, mm_mf, true_and, and_true, false_and, and_false, if_true, if_false, ite_true, ite_false, forall_eq, true_or, or_true, m_of hb hv]
theorem m_isIn (hb : ∀ k, a k < 4096) {v d t : Nat} (hv : v < 60) (hd : d < 4096) (ht : t < 4096) : T_X7_isIn Q 1582 (I v) (I d) (I t) (mm M a f) = (if a (78 + 6 * v + 5) = 0 ∧ a (78 + 6 * v + 2) = d ∧ a (78 + 6 * v + 3) = t then Q (I 1) (mm M a f) else Q (I 0) (mm M a f)) := by
  unfold T_X7_isIn T_X7_isIn_33 T_X7_isIn_32
  by_cases h1 : a (78 + 6 * v + 5) = 0
  · by_cases h2 : a (78 + 6 * v + 2) = d
    · by_cases h3 : a (78 + 6 * v + 3) = t
      · simp (disch := first | exact lt4 (hb _) | exact hb _ | omega) only [I_0, I_1, I_2, I_3, I_4, I_5, I_6, I_7, I_8, I_9, I_10, I_11, I_12, I_20, I_22, I_27, I_31, I_32, I_38, I_42, I_48, I_54, I_55, I_56, I_57, I_60, I_66, I_72, I_78, I_80, I_97, I_98, I_99, I_100, I_108, I_109, I_116, I_120, I_438, I_488, I_512, I_552, I_3864, oN_s, oN_n, bI_t, bI_f, Nat.add_zero, I_bt1, I_bt0, Nat.reduceLT, Nat.reduceLeDiff, Nat.reduceEqDiff, Nat.reduceAdd, Nat.reduceMul, Nat.reduceSub, tn_I, I_add, I_mul, I_div, vp_I, I_eq, I_le, I_lt, I_no, no_I, negI1, kd7, rf71, kdS, lnS, mm_sa, mm_fa, mm_ms, mm_mf, true_and, and_true, false_and, and_false, if_true, if_false, ite_true, ite_false, forall_eq, true_or, or_true, T_X7_isIn_33, m_of hb hv, m_isBooked hb hv, h1, h2, h3]
      · simp (disch := first | exact lt4 (hb _) | exact hb _ | omega) only [I_0, I_1, I_2, I_3, I_4, I_5, I_6, I_7, I_8, I_9, I_10, I_11, I_12, I_20, I_22, I_27, I_31, I_32, I_38, I_42, I_48, I_54, I_55, I_56, I_57, I_60, I_66, I_72, I_78, I_80, I_97, I_98, I_99, I_100, I_108, I_109, I_116, I_120, I_438, I_488, I_512, I_552, I_3864, oN_s, oN_n, bI_t, bI_f, Nat.add_zero, I_bt1, I_bt0, Nat.reduceLT, Nat.reduceLeDiff, Nat.reduceEqDiff, Nat.reduceAdd, Nat.reduceMul, Nat.reduceSub, tn_I, I_add, I_mul, I_div, vp_I, I_eq, I_le, I_lt, I_no, no_I, negI1, kd7, rf71, kdS, lnS, mm_sa, mm_fa, mm_ms, mm_mf, true_and, and_true, false_and, and_false, if_true, if_false, ite_true, ite_false, forall_eq, true_or, or_true, T_X7_isIn_33, m_of hb hv, m_isBooked hb hv, h1, h2, h3]
    · simp (disch := first | exact lt4 (hb _) | exact hb _ | omega) only [I_0, I_1, I_2, I_3, I_4, I_5, I_6, I_7, I_8, I_9, I_10, I_11, I_12, I_20, I_22, I_27, I_31, I_32, I_38, I_42, I_48, I_54, I_55, I_56, I_57, I_60, I_66, I_72, I_78, I_80, I_97, I_98, I_99, I_100, I_108, I_109, I_116, I_120, I_438, I_488, I_512, I_552, I_3864, oN_s, oN_n, bI_t, bI_f, Nat.add_zero, I_bt1, I_bt0, Nat.reduceLT, Nat.reduceLeDiff, Nat.reduceEqDiff, Nat.reduceAdd, Nat.reduceMul, Nat.reduceSub, tn_I, I_add, I_mul, I_div, vp_I, I_eq, I_le, I_lt, I_no, no_I, negI1, kd7, rf71, kdS, lnS, mm_sa, mm_fa, mm_ms, mm_mf, true_and, and_true, false_and, and_false, if_true, if_false, ite_true, ite_false, forall_eq, true_or, or_true, T_X7_isIn_33, m_of hb hv, m_isBooked hb hv, h1, h2]
  · simp (disch := first | exact lt4 (hb _) | exact hb _ | omega) only [I_0, I_1, I_2, I_3, I_4, I_5, I_6, I_7, I_8, I_9, I_10, I_11, I_12, I_20, I_22, I_27, I_31, I_32, I_38, I_42, I_48, I_54, I_55, I_56, I_57, I_60, I_66, I_72, I_78, I_80, I_97, I_98, I_99, I_100, I_108, I_109, I_116, I_120, I_438, I_488, I_512, I_552, I_3864, oN_s, oN_n, bI_t, bI_f, Nat.add_zero, I_bt1, I_bt0, Nat.reduceLT, Nat.reduceLeDiff, Nat.reduceEqDiff, Nat.reduceAdd, Nat.reduceMul, Nat.reduceSub, tn_I, I_add, I_mul, I_div, vp_I, I_eq, I_le, I_lt, I_no, no_I, negI1, kd7, rf71, kdS, lnS, mm_sa, mm_fa, mm_ms, mm_mf, true_and, and_true, false_and, and_false, if_true, if_false, ite_true, ite_false, forall_eq, true_or, or_true, T_X7_isIn_33, m_of hb hv, m_isBooked hb hv, h1]
/-- the number of bits -/
def pc (s : Nat) : Nat := sm (bt s) 12
theorem pc_le (s : Nat) : pc s ≤ 12 := by have := sm_le (f := bt s) (c := 1) (fun k => by have := bt_lt s k; omega) 12; unfold pc; omega
theorem l_bits {s : Nat} (hs : s < 4096) (h : Q (I (pc s)) M) : ∀ m k, k + m = 12 → T_X7_bits_4 Q (m + 1) (I s) (I (sm (bt s) k)) (I k) M := by
  intro m
  induction m with
  | zero =>
    intro k hk
    obtain rfl : k = 12 := by omega
    unfold T_X7_bits_4
    simp (disch := first | exact lt4 (hb _) | exact hb _ | omega) only [I_0, I_1, I_2, I_3, I_4, I_5, I_6, I_7, I_8, I_9, I_10, I_11, I_12, I_20, I_22, I_27, I_31, I_32, I_38, I_42, I_48, I_54, I_55, I_56, I_57, I_60, I_66, I_72, I_78, I_80, I_97, I_98, I_99, I_100, I_108, I_109, I_116, I_120, I_438, I_488, I_512, I_552, I_3864, oN_s, oN_n, bI_t, bI_f, Nat.add_zero, I_bt1, I_bt0, Nat.reduceLT, Nat.reduceLeDiff, Nat.reduceEqDiff, Nat.reduceAdd, Nat.reduceMul, Nat.reduceSub, tn_I, I_add, I_mul, I_div, vp_I, I_eq, I_le, I_lt, I_no, no_I, negI1, kd7, rf71, kdS, lnS, mm_sa, mm_fa, mm_ms, mm_mf, true_and, and_true, false_and, and_false, if_true, if_false, ite_true, ite_false, forall_eq, true_or, or_true, Nat.le_refl]
    exact h
  | succ m ih =>
    intro k hk
    unfold T_X7_bits_4
    simp (disch := first | exact lt4 (hb _) | exact hb _ | omega) only [I_0, I_1, I_2, I_3, I_4, I_5, I_6, I_7, I_8, I_9, I_10, I_11, I_12, I_20, I_22, I_27, I_31, I_32, I_38, I_42, I_48, I_54, I_55, I_56, I_57, I_60, I_66, I_72, I_78, I_80, I_97, I_98, I_99, I_100, I_108, I_109, I_116, I_120, I_438, I_488, I_512, I_552, I_3864, oN_s, oN_n, bI_t, bI_f, Nat.add_zero, I_bt1, I_bt0, Nat.reduceLT, Nat.reduceLeDiff, Nat.reduceEqDiff, Nat.reduceAdd, Nat.reduceMul, Nat.reduceSub, tn_I, I_add, I_mul, I_div, vp_I, I_eq, I_le, I_lt, I_no, no_I, negI1, kd7, rf71, kdS, lnS, mm_sa, mm_fa, mm_ms, mm_mf, true_and, and_true, false_and, and_false, if_true, if_false, ite_true, ite_false, forall_eq, true_or, or_true, show ¬ 12 ≤ k by omega, I_bit]
    exact ih (k + 1) (by omega)
theorem m_bits {s : Nat} (hs : s < 4096) (h : Q (I (pc s)) M) : T_X7_bits Q (I s) M := by
  unfold T_X7_bits
  rw [I_0]
  exact ⟨13, l_bits hs h 12 0 rfl⟩
end Md1

