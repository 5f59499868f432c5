/-! ===== THE REFERENCE reads, second ===== -/
section Md3
variable {M : Mem} {a : Nat → Nat} {f : Nat → Int32} {Q : Int32 → Mem → Prop}
theorem m_sea (hV : VA a) {k : Nat} (hk : k < a 4) (h : Q (I (sea a k)) (mm M a f)) : T_X7_searchesOf Q 1582 (I k) (mm M a f) := by
  have hb := hV.1
  have hn := hV.2.1.2.2.2.2.1
  have hvv := hV.2.2.2.2.2.1 k (by omega)
  have h2p := two_le hV.2.1.2.2.1
  have h66 := hb (66 + a (78 + 6 * k + 4))
  unfold T_X7_searchesOf T_X7_searchesOf_31
  unfold sea at h
  simp (disch := first | exact lt4 (hb _) | exact hb _ | omega) only [I_0, I_1, I_2, I_3, I_4, I_5, I_6, I_7, I_8, I_9, I_10, I_11, I_12, I_20, I_22, I_27, I_31, I_32, I_38, I_42, I_48, I_54, I_55, I_56, I_57, I_60, I_66, I_72, I_78, I_80, I_97, I_98, I_99, I_100, I_108, I_109, I_116, I_120, I_438, I_488, I_512, I_552, I_3864, oN_s, oN_n, bI_t, bI_f, Nat.add_zero, I_bt1, I_bt0, Nat.reduceLT, Nat.reduceLeDiff, Nat.reduceEqDiff, Nat.reduceAdd, Nat.reduceMul, Nat.reduceSub, tn_I, I_add, I_mul, I_div, vp_I, I_eq, I_le, I_lt, I_no, no_I, negI1, kd7, rf71, kdS, lnS, mm_sa, mm_fa, mm_ms, mm_mf, true_and, and_true, false_and, and_false, if_true, if_false, ite_true, ite_false, forall_eq, true_or, or_true, m_of hb (show k < 60 by omega) (show 4 < 6 by decide), m_of hb (show k < 60 by omega) (show 1 < 6 by decide), show 66 + a (78 + 6 * k + 4) < 552 by have := hV.2.1.2.2.2.1; omega, show 66 + a (78 + 6 * k + 4) < 2147483648 by have := hV.2.1.2.2.2.1; omega]
  by_cases c : a (66 + a (78 + 6 * k + 4)) = 1
  · rw [if_pos c] at h ⊢; exact h
  · rw [if_neg c] at h ⊢
    exact m_bits (hb _) h
theorem sea_le (a : Nat → Nat) (v : Nat) : sea a v ≤ 12 := by
  unfold sea; split
  · omega
  · exact pc_le _
theorem lft_b {a : Nat → Nat} (h11 : a 11 ≤ 12) (d t : Nat) {n : Nat} (hn : n ≤ 60) : -1000 ≤ (a 11 : Int) - (sm (fun v => if isI3 a v d t then sea a v else 0) n : Int) ∧ (a 11 : Int) - (sm (fun v => if isI3 a v d t then sea a v else 0) n : Int) < 10000 := by
  have := sm_le (f := fun v => if isI3 a v d t then sea a v else 0) (c := 12) (fun k => by show (if _ then _ else _) ≤ 12; split; exact sea_le a k; omega) n
  omega
theorem l_left (hV : VA a) {d t : Nat} (hd : d < 4096) (ht : t < 4096) (h : Q (J (lft a d t)) (mm M a f)) : ∀ m k, k + m = a 4 → T_X7_left_11 Q (m + 1) 1582 (I d) (I t) (J ((a 11 : Int) - (sm (fun v => if isI3 a v d t then sea a v else 0) k : Int))) (I k) (mm M a f) := by
  intro m
  induction m with
  | zero =>
    intro k hk
    have hb := hV.1
    have hn := hV.2.1.2.2.2.2.1
    obtain rfl : k = a 4 := by omega
    unfold T_X7_left_11
    simp (disch := first | exact lt4 (hb _) | exact hb _ | omega) only [I_0, I_1, I_2, I_3, I_4, I_5, I_6, I_7, I_8, I_9, I_10, I_11, I_12, I_20, I_22, I_27, I_31, I_32, I_38, I_42, I_48, I_54, I_55, I_56, I_57, I_60, I_66, I_72, I_78, I_80, I_97, I_98, I_99, I_100, I_108, I_109, I_116, I_120, I_438, I_488, I_512, I_552, I_3864, oN_s, oN_n, bI_t, bI_f, Nat.add_zero, I_bt1, I_bt0, Nat.reduceLT, Nat.reduceLeDiff, Nat.reduceEqDiff, Nat.reduceAdd, Nat.reduceMul, Nat.reduceSub, tn_I, I_add, I_mul, I_div, vp_I, I_eq, I_le, I_lt, I_no, no_I, negI1, kd7, rf71, kdS, lnS, mm_sa, mm_fa, mm_ms, mm_mf, true_and, and_true, false_and, and_false, if_true, if_false, ite_true, ite_false, forall_eq, true_or, or_true, Nat.le_refl]
    exact h
  | succ m ih =>
    intro k hk
    have hb := hV.1
    have hn := hV.2.1.2.2.2.2.1
    unfold T_X7_left_11
    have h9 := ih (k + 1) (by omega)
    by_cases c : isI3 a k d t
    · simp (disch := first | exact lt4 (hb _) | exact hb _ | omega) only [I_0, I_1, I_2, I_3, I_4, I_5, I_6, I_7, I_8, I_9, I_10, I_11, I_12, I_20, I_22, I_27, I_31, I_32, I_38, I_42, I_48, I_54, I_55, I_56, I_57, I_60, I_66, I_72, I_78, I_80, I_97, I_98, I_99, I_100, I_108, I_109, I_116, I_120, I_438, I_488, I_512, I_552, I_3864, oN_s, oN_n, bI_t, bI_f, Nat.add_zero, I_bt1, I_bt0, Nat.reduceLT, Nat.reduceLeDiff, Nat.reduceEqDiff, Nat.reduceAdd, Nat.reduceMul, Nat.reduceSub, tn_I, I_add, I_mul, I_div, vp_I, I_eq, I_le, I_lt, I_no, no_I, negI1, kd7, rf71, kdS, lnS, mm_sa, mm_fa, mm_ms, mm_mf, true_and, and_true, false_and, and_false, if_true, if_false, ite_true, ite_false, forall_eq, true_or, or_true, show ¬ a 4 ≤ k by omega, m_isIn hb (show k < 60 by omega) hd ht, c]
      refine m_sea hV (by omega) ?_
      unfold T_X7_left_44
      simp (disch := first | exact lt4 (hb _) | exact hb _ | omega) only [I_0, I_1, I_2, I_3, I_4, I_5, I_6, I_7, I_8, I_9, I_10, I_11, I_12, I_20, I_22, I_27, I_31, I_32, I_38, I_42, I_48, I_54, I_55, I_56, I_57, I_60, I_66, I_72, I_78, I_80, I_97, I_98, I_99, I_100, I_108, I_109, I_116, I_120, I_438, I_488, I_512, I_552, I_3864, oN_s, oN_n, bI_t, bI_f, Nat.add_zero, I_bt1, I_bt0, Nat.reduceLT, Nat.reduceLeDiff, Nat.reduceEqDiff, Nat.reduceAdd, Nat.reduceMul, Nat.reduceSub, tn_I, I_add, I_mul, I_div, vp_I, I_eq, I_le, I_lt, I_no, no_I, negI1, kd7, rf71, kdS, lnS, mm_sa, mm_fa, mm_ms, mm_mf, true_and, and_true, false_and, and_false, if_true, if_false, ite_true, ite_false, forall_eq, true_or, or_true, J_sub]
      have e : ((a 11 : Int) - (sm (fun v => if isI3 a v d t then sea a v else 0) (k + 1) : Int)) = (a 11 : Int) - (sm (fun v => if isI3 a v d t then sea a v else 0) k : Int) - (sea a k : Int) := by simp only [sm, if_pos c]; omega
      rw [e] at h9; exact h9
    · simp (disch := first | exact lt4 (hb _) | exact hb _ | omega) only [I_0, I_1, I_2, I_3, I_4, I_5, I_6, I_7, I_8, I_9, I_10, I_11, I_12, I_20, I_22, I_27, I_31, I_32, I_38, I_42, I_48, I_54, I_55, I_56, I_57, I_60, I_66, I_72, I_78, I_80, I_97, I_98, I_99, I_100, I_108, I_109, I_116, I_120, I_438, I_488, I_512, I_552, I_3864, oN_s, oN_n, bI_t, bI_f, Nat.add_zero, I_bt1, I_bt0, Nat.reduceLT, Nat.reduceLeDiff, Nat.reduceEqDiff, Nat.reduceAdd, Nat.reduceMul, Nat.reduceSub, tn_I, I_add, I_mul, I_div, vp_I, I_eq, I_le, I_lt, I_no, no_I, negI1, kd7, rf71, kdS, lnS, mm_sa, mm_fa, mm_ms, mm_mf, true_and, and_true, false_and, and_false, if_true, if_false, ite_true, ite_false, forall_eq, true_or, or_true, show ¬ a 4 ≤ k by omega, m_isIn hb (show k < 60 by omega) hd ht, c]
      unfold T_X7_left_44
      simp (disch := first | exact lt4 (hb _) | exact hb _ | omega) only [I_0, I_1, I_2, I_3, I_4, I_5, I_6, I_7, I_8, I_9, I_10, I_11, I_12, I_20, I_22, I_27, I_31, I_32, I_38, I_42, I_48, I_54, I_55, I_56, I_57, I_60, I_66, I_72, I_78, I_80, I_97, I_98, I_99, I_100, I_108, I_109, I_116, I_120, I_438, I_488, I_512, I_552, I_3864, oN_s, oN_n, bI_t, bI_f, Nat.add_zero, I_bt1, I_bt0, Nat.reduceLT, Nat.reduceLeDiff, Nat.reduceEqDiff, Nat.reduceAdd, Nat.reduceMul, Nat.reduceSub, tn_I, I_add, I_mul, I_div, vp_I, I_eq, I_le, I_lt, I_no, no_I, negI1, kd7, rf71, kdS, lnS, mm_sa, mm_fa, mm_ms, mm_mf, true_and, and_true, false_and, and_false, if_true, if_false, ite_true, ite_false, forall_eq, true_or, or_true, J_sub]
      have e : ((a 11 : Int) - (sm (fun v => if isI3 a v d t then sea a v else 0) (k + 1) : Int)) = (a 11 : Int) - (sm (fun v => if isI3 a v d t then sea a v else 0) k : Int) - ((0 : Nat) : Int) := by simp only [sm, if_neg c]; omega
      rw [e] at h9; exact h9
theorem m_left (hV : VA a) {d t : Nat} (hd : d < 4096) (ht : t < 4096) (h : Q (J (lft a d t)) (mm M a f)) : T_X7_left Q 1582 (I d) (I t) (mm M a f) := by
  have hb := hV.1
  unfold T_X7_left
  simp (disch := first | exact lt4 (hb _) | exact hb _ | omega) only [I_0, I_1, I_2, I_3, I_4, I_5, I_6, I_7, I_8, I_9, I_10, I_11, I_12, I_20, I_22, I_27, I_31, I_32, I_38, I_42, I_48, I_54, I_55, I_56, I_57, I_60, I_66, I_72, I_78, I_80, I_97, I_98, I_99, I_100, I_108, I_109, I_116, I_120, I_438, I_488, I_512, I_552, I_3864, oN_s, oN_n, bI_t, bI_f, Nat.add_zero, I_bt1, I_bt0, Nat.reduceLT, Nat.reduceLeDiff, Nat.reduceEqDiff, Nat.reduceAdd, Nat.reduceMul, Nat.reduceSub, tn_I, I_add, I_mul, I_div, vp_I, I_eq, I_le, I_lt, I_no, no_I, negI1, kd7, rf71, kdS, lnS, mm_sa, mm_fa, mm_ms, mm_mf, true_and, and_true, false_and, and_false, if_true, if_false, ite_true, ite_false, forall_eq, true_or, or_true]
  refine ⟨a 4 + 1, ?_⟩
  have := l_left hV hd ht h (a 4) 0 (by omega)
  rw [← J_I (a 11)]
  simpa [sm] using this
theorem b_and {x : Bool} (h : x = true) : x.toNat = 1 := by rw [h]; rfl
theorem l_arP (hV : VA a) {x y d : Nat} (hx : x < 4096) (hy : y < 4096) (hd : d < 4096) (h : Q (bI (arP a x y d)) (mm M a f)) : ∀ m k, k + m = a 5 → T_X7_arePair_6 Q (m + 1) 1582 (I x) (I y) (I d) (bI (anyB (fun k => (decide (a (438 + 5 * k) = 2)) && (((decide (a (438 + 5 * k + 1) = x) && decide (a (438 + 5 * k + 2) = y)) || (decide (a (438 + 5 * k + 1) = y) && decide (a (438 + 5 * k + 2) = x))) && decide (a (438 + 5 * k + 3) ≤ d ∧ d ≤ a (438 + 5 * k + 4)))) k)) (I k) (mm M a f) := by
  intro m
  induction m with
  | zero =>
    intro k hk
    have hb := hV.1
    obtain rfl : k = a 5 := by omega
    have h5 := hV.2.1.2.2.2.2.2.1
    unfold arP at h
    unfold T_X7_arePair_6
    simp (disch := first | exact lt4 (hb _) | exact hb _ | omega) only [I_0, I_1, I_2, I_3, I_4, I_5, I_6, I_7, I_8, I_9, I_10, I_11, I_12, I_20, I_22, I_27, I_31, I_32, I_38, I_42, I_48, I_54, I_55, I_56, I_57, I_60, I_66, I_72, I_78, I_80, I_97, I_98, I_99, I_100, I_108, I_109, I_116, I_120, I_438, I_488, I_512, I_552, I_3864, oN_s, oN_n, bI_t, bI_f, Nat.add_zero, I_bt1, I_bt0, Nat.reduceLT, Nat.reduceLeDiff, Nat.reduceEqDiff, Nat.reduceAdd, Nat.reduceMul, Nat.reduceSub, tn_I, I_add, I_mul, I_div, vp_I, I_eq, I_le, I_lt, I_no, no_I, negI1, kd7, rf71, kdS, lnS, mm_sa, mm_fa, mm_ms, mm_mf, true_and, and_true, false_and, and_false, if_true, if_false, ite_true, ite_false, forall_eq, true_or, or_true, Nat.le_refl]
    generalize anyB _ (a 5) = z at h ⊢
    cases z
    · exact ⟨Or.inl rfl, h⟩
    · exact ⟨Or.inr rfl, h⟩
  | succ m ih =>
    intro k hk
    have hb := hV.1
    have h5 := hV.2.1.2.2.2.2.2.1
    have h9 := ih (k + 1) (by omega)
    unfold anyB at h9
    unfold T_X7_arePair_6
    simp (disch := first | exact lt4 (hb _) | exact hb _ | omega) only [I_0, I_1, I_2, I_3, I_4, I_5, I_6, I_7, I_8, I_9, I_10, I_11, I_12, I_20, I_22, I_27, I_31, I_32, I_38, I_42, I_48, I_54, I_55, I_56, I_57, I_60, I_66, I_72, I_78, I_80, I_97, I_98, I_99, I_100, I_108, I_109, I_116, I_120, I_438, I_488, I_512, I_552, I_3864, oN_s, oN_n, bI_t, bI_f, Nat.add_zero, I_bt1, I_bt0, Nat.reduceLT, Nat.reduceLeDiff, Nat.reduceEqDiff, Nat.reduceAdd, Nat.reduceMul, Nat.reduceSub, tn_I, I_add, I_mul, I_div, vp_I, I_eq, I_le, I_lt, I_no, no_I, negI1, kd7, rf71, kdS, lnS, mm_sa, mm_fa, mm_ms, mm_mf, true_and, and_true, false_and, and_false, if_true, if_false, ite_true, ite_false, forall_eq, true_or, or_true, show ¬ a 5 ≤ k by omega, show 438 + 5 * k + 1 < 552 by omega, show 438 + 5 * k + 2 < 552 by omega]
    have key : ∀ (s0 : Bool), T_X7_arePair_84 (T_X7_arePair_6 Q (m + 1)) Q 1582 (I x) (I y) (I d) (bI (anyB (fun k => (decide (a (438 + 5 * k) = 2)) && (((decide (a (438 + 5 * k + 1) = x) && decide (a (438 + 5 * k + 2) = y)) || (decide (a (438 + 5 * k + 1) = y) && decide (a (438 + 5 * k + 2) = x))) && decide (a (438 + 5 * k + 3) ≤ d ∧ d ≤ a (438 + 5 * k + 4)))) k)) (I k) (I (438 + 5 * k)) (bI s0) (mm M a f) ↔ T_X7_arePair_6 Q (m + 1) 1582 (I x) (I y) (I d) (bI (anyB (fun k => (decide (a (438 + 5 * k) = 2)) && (((decide (a (438 + 5 * k + 1) = x) && decide (a (438 + 5 * k + 2) = y)) || (decide (a (438 + 5 * k + 1) = y) && decide (a (438 + 5 * k + 2) = x))) && decide (a (438 + 5 * k + 3) ≤ d ∧ d ≤ a (438 + 5 * k + 4)))) k || ((decide (a (438 + 5 * k) = 2)) && (s0 && decide (a (438 + 5 * k + 3) ≤ d ∧ d ≤ a (438 + 5 * k + 4)))))) (I (k + 1)) (mm M a f) := by
      intro s0
      unfold T_X7_arePair_84 T_X7_arePair_132 T_X7_arePair_136 T_X7_arePair_137
      generalize anyB _ k = z
      cases z
      · by_cases c1 : a (438 + 5 * k) = 2
        · cases s0
          · simp (disch := first | exact lt4 (hb _) | exact hb _ | omega) only [I_0, I_1, I_2, I_3, I_4, I_5, I_6, I_7, I_8, I_9, I_10, I_11, I_12, I_20, I_22, I_27, I_31, I_32, I_38, I_42, I_48, I_54, I_55, I_56, I_57, I_60, I_66, I_72, I_78, I_80, I_97, I_98, I_99, I_100, I_108, I_109, I_116, I_120, I_438, I_488, I_512, I_552, I_3864, oN_s, oN_n, bI_t, bI_f, Nat.add_zero, I_bt1, I_bt0, Nat.reduceLT, Nat.reduceLeDiff, Nat.reduceEqDiff, Nat.reduceAdd, Nat.reduceMul, Nat.reduceSub, tn_I, I_add, I_mul, I_div, vp_I, I_eq, I_le, I_lt, I_no, no_I, negI1, kd7, rf71, kdS, lnS, mm_sa, mm_fa, mm_ms, mm_mf, true_and, and_true, false_and, and_false, if_true, if_false, ite_true, ite_false, forall_eq, true_or, or_true, bI_f, bI_t, c1, show 438 + 5 * k < 552 by omega]
            simp
            rfl
          · by_cases c2 : a (438 + 5 * k + 3) ≤ d ∧ d ≤ a (438 + 5 * k + 4)
            · simp (disch := first | exact lt4 (hb _) | exact hb _ | omega) only [I_0, I_1, I_2, I_3, I_4, I_5, I_6, I_7, I_8, I_9, I_10, I_11, I_12, I_20, I_22, I_27, I_31, I_32, I_38, I_42, I_48, I_54, I_55, I_56, I_57, I_60, I_66, I_72, I_78, I_80, I_97, I_98, I_99, I_100, I_108, I_109, I_116, I_120, I_438, I_488, I_512, I_552, I_3864, oN_s, oN_n, bI_t, bI_f, Nat.add_zero, I_bt1, I_bt0, Nat.reduceLT, Nat.reduceLeDiff, Nat.reduceEqDiff, Nat.reduceAdd, Nat.reduceMul, Nat.reduceSub, tn_I, I_add, I_mul, I_div, vp_I, I_eq, I_le, I_lt, I_no, no_I, negI1, kd7, rf71, kdS, lnS, mm_sa, mm_fa, mm_ms, mm_mf, true_and, and_true, false_and, and_false, if_true, if_false, ite_true, ite_false, forall_eq, true_or, or_true, bI_f, bI_t, c1, c2, m_in, show 438 + 5 * k < 552 by omega, show 438 + 5 * k + 3 < 552 by omega, show 438 + 5 * k + 4 < 552 by omega]
              simp
              rfl
            · simp (disch := first | exact lt4 (hb _) | exact hb _ | omega) only [I_0, I_1, I_2, I_3, I_4, I_5, I_6, I_7, I_8, I_9, I_10, I_11, I_12, I_20, I_22, I_27, I_31, I_32, I_38, I_42, I_48, I_54, I_55, I_56, I_57, I_60, I_66, I_72, I_78, I_80, I_97, I_98, I_99, I_100, I_108, I_109, I_116, I_120, I_438, I_488, I_512, I_552, I_3864, oN_s, oN_n, bI_t, bI_f, Nat.add_zero, I_bt1, I_bt0, Nat.reduceLT, Nat.reduceLeDiff, Nat.reduceEqDiff, Nat.reduceAdd, Nat.reduceMul, Nat.reduceSub, tn_I, I_add, I_mul, I_div, vp_I, I_eq, I_le, I_lt, I_no, no_I, negI1, kd7, rf71, kdS, lnS, mm_sa, mm_fa, mm_ms, mm_mf, true_and, and_true, false_and, and_false, if_true, if_false, ite_true, ite_false, forall_eq, true_or, or_true, bI_f, bI_t, c1, c2, m_in, show 438 + 5 * k < 552 by omega, show 438 + 5 * k + 3 < 552 by omega, show 438 + 5 * k + 4 < 552 by omega]
              simp
              rfl
        · simp (disch := first | exact lt4 (hb _) | exact hb _ | omega) only [I_0, I_1, I_2, I_3, I_4, I_5, I_6, I_7, I_8, I_9, I_10, I_11, I_12, I_20, I_22, I_27, I_31, I_32, I_38, I_42, I_48, I_54, I_55, I_56, I_57, I_60, I_66, I_72, I_78, I_80, I_97, I_98, I_99, I_100, I_108, I_109, I_116, I_120, I_438, I_488, I_512, I_552, I_3864, oN_s, oN_n, bI_t, bI_f, Nat.add_zero, I_bt1, I_bt0, Nat.reduceLT, Nat.reduceLeDiff, Nat.reduceEqDiff, Nat.reduceAdd, Nat.reduceMul, Nat.reduceSub, tn_I, I_add, I_mul, I_div, vp_I, I_eq, I_le, I_lt, I_no, no_I, negI1, kd7, rf71, kdS, lnS, mm_sa, mm_fa, mm_ms, mm_mf, true_and, and_true, false_and, and_false, if_true, if_false, ite_true, ite_false, forall_eq, true_or, or_true, bI_f, bI_t, c1, show 438 + 5 * k < 552 by omega]
          simp [c1]
          try rfl
      · simp (disch := first | exact lt4 (hb _) | exact hb _ | omega) only [I_0, I_1, I_2, I_3, I_4, I_5, I_6, I_7, I_8, I_9, I_10, I_11, I_12, I_20, I_22, I_27, I_31, I_32, I_38, I_42, I_48, I_54, I_55, I_56, I_57, I_60, I_66, I_72, I_78, I_80, I_97, I_98, I_99, I_100, I_108, I_109, I_116, I_120, I_438, I_488, I_512, I_552, I_3864, oN_s, oN_n, bI_t, bI_f, Nat.add_zero, I_bt1, I_bt0, Nat.reduceLT, Nat.reduceLeDiff, Nat.reduceEqDiff, Nat.reduceAdd, Nat.reduceMul, Nat.reduceSub, tn_I, I_add, I_mul, I_div, vp_I, I_eq, I_le, I_lt, I_no, no_I, negI1, kd7, rf71, kdS, lnS, mm_sa, mm_fa, mm_ms, mm_mf, true_and, and_true, false_and, and_false, if_true, if_false, ite_true, ite_false, forall_eq, true_or, or_true, bI_f, bI_t]
        simp
        rfl
    have kt := key true
    have kf := key false
    rw [bI_t] at kt
    rw [bI_f] at kf
    by_cases c1 : a (438 + 5 * k + 1) = x
    · by_cases c2 : a (438 + 5 * k + 2) = y
      · unfold T_X7_arePair_79
        simp (disch := first | exact lt4 (hb _) | exact hb _ | omega) only [I_0, I_1, I_2, I_3, I_4, I_5, I_6, I_7, I_8, I_9, I_10, I_11, I_12, I_20, I_22, I_27, I_31, I_32, I_38, I_42, I_48, I_54, I_55, I_56, I_57, I_60, I_66, I_72, I_78, I_80, I_97, I_98, I_99, I_100, I_108, I_109, I_116, I_120, I_438, I_488, I_512, I_552, I_3864, oN_s, oN_n, bI_t, bI_f, Nat.add_zero, I_bt1, I_bt0, Nat.reduceLT, Nat.reduceLeDiff, Nat.reduceEqDiff, Nat.reduceAdd, Nat.reduceMul, Nat.reduceSub, tn_I, I_add, I_mul, I_div, vp_I, I_eq, I_le, I_lt, I_no, no_I, negI1, kd7, rf71, kdS, lnS, mm_sa, mm_fa, mm_ms, mm_mf, true_and, and_true, false_and, and_false, if_true, if_false, ite_true, ite_false, forall_eq, true_or, or_true, c1, c2]
        exact kt.mpr (by simpa [c1, c2] using h9)
      · unfold T_X7_arePair_53 T_X7_arePair_79 T_X7_arePair_83
        simp (disch := first | exact lt4 (hb _) | exact hb _ | omega) only [I_0, I_1, I_2, I_3, I_4, I_5, I_6, I_7, I_8, I_9, I_10, I_11, I_12, I_20, I_22, I_27, I_31, I_32, I_38, I_42, I_48, I_54, I_55, I_56, I_57, I_60, I_66, I_72, I_78, I_80, I_97, I_98, I_99, I_100, I_108, I_109, I_116, I_120, I_438, I_488, I_512, I_552, I_3864, oN_s, oN_n, bI_t, bI_f, Nat.add_zero, I_bt1, I_bt0, Nat.reduceLT, Nat.reduceLeDiff, Nat.reduceEqDiff, Nat.reduceAdd, Nat.reduceMul, Nat.reduceSub, tn_I, I_add, I_mul, I_div, vp_I, I_eq, I_le, I_lt, I_no, no_I, negI1, kd7, rf71, kdS, lnS, mm_sa, mm_fa, mm_ms, mm_mf, true_and, and_true, false_and, and_false, if_true, if_false, ite_true, ite_false, forall_eq, true_or, or_true, c1, c2, show 438 + 5 * k + 1 < 552 by omega, show 438 + 5 * k + 2 < 552 by omega]
        by_cases c3 : x = y
        · by_cases c4 : a (438 + 5 * k + 2) = x
          · rw [if_pos c3, if_pos c4]
            exact kt.mpr (by simpa [c1, c2, c3, c4] using h9)
          · rw [if_pos c3, if_neg c4]
            exact kf.mpr (by simpa [c1, c2, c3, c4] using h9)
        · rw [if_neg c3]
          exact kf.mpr (by simpa [c1, c2, c3] using h9)
    · unfold T_X7_arePair_53 T_X7_arePair_79 T_X7_arePair_83
      simp (disch := first | exact lt4 (hb _) | exact hb _ | omega) only [I_0, I_1, I_2, I_3, I_4, I_5, I_6, I_7, I_8, I_9, I_10, I_11, I_12, I_20, I_22, I_27, I_31, I_32, I_38, I_42, I_48, I_54, I_55, I_56, I_57, I_60, I_66, I_72, I_78, I_80, I_97, I_98, I_99, I_100, I_108, I_109, I_116, I_120, I_438, I_488, I_512, I_552, I_3864, oN_s, oN_n, bI_t, bI_f, Nat.add_zero, I_bt1, I_bt0, Nat.reduceLT, Nat.reduceLeDiff, Nat.reduceEqDiff, Nat.reduceAdd, Nat.reduceMul, Nat.reduceSub, tn_I, I_add, I_mul, I_div, vp_I, I_eq, I_le, I_lt, I_no, no_I, negI1, kd7, rf71, kdS, lnS, mm_sa, mm_fa, mm_ms, mm_mf, true_and, and_true, false_and, and_false, if_true, if_false, ite_true, ite_false, forall_eq, true_or, or_true, c1, show 438 + 5 * k + 1 < 552 by omega, show 438 + 5 * k + 2 < 552 by omega]
      by_cases c3 : a (438 + 5 * k + 1) = y
      · by_cases c4 : a (438 + 5 * k + 2) = x
        · rw [if_pos c3, if_pos c4]
          exact kt.mpr (by simpa [c1, c3, c4] using h9)
        · rw [if_pos c3, if_neg c4]
          have c5 : ¬ y = x := fun e => c1 (c3.trans e)
          exact kf.mpr (by simpa [c1, c3, c4, c5] using h9)
      · rw [if_neg c3]
        exact kf.mpr (by simpa [c1, c3] using h9)

end Md3

